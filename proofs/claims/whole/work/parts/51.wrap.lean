/-- a world with its numbers: copies, groups, ints, pointers, the law's row, addresses -/
abbrev cf_St : Type := Nat × Nat × cf_S × cf_Pt × (Nat → Int64) × cf_Ad
abbrev cf_ADu : cf_St → cf_Ad := fun u => u.2.2.2.2.2
abbrev cf_EW (cT : Nat → ClassId) : cf_St → cf_T := fun u => cf_E cT u.1 u.2.1 u.2.2.1 u.2.2.2.1 u.2.2.2.2.1 u.2.2.2.2.2
set_option maxHeartbeats 4000000 in
set_option maxRecDepth 100000 in
/-- L_setGame -/
theorem c_L_setGame (l : Launch) (D : va_G) (cT : Nat → ClassId) (z : Nat) (ad : cf_Ad) (nc ng : Nat) (S : cf_S) (P : cf_Pt) (O : Nat → Int64) (hl0 : l.stackTraces = false) (x a1 a2 a3 : Int32) : vx_Met l yL_setGame wsL_setGame ({ frames := 8, cells := 4, slots := 24, locals := 129 }) (va_Pc [.ref (ad 5 0), .int x, .int a1, .int a2, .int a3] (cf_P D cT z (cf_E cT nc ng S P O ad) ad)) (cf_Qi D z (fun (r : Int32) (u : cf_St) => (r = 1 ∧ ¬ (cf_ix x 5) ∧ u = (nc, ng, S, P, O, ad)) ∨ (r = 2 ∧ (cf_ix x 5) ∧ ¬ (cf_rg a1 1 8 ∧ cf_rg a2 a1 8 ∧ cf_rg a3 1 60) ∧ u = (nc, ng, S, P, O, ad)) ∨ (r = 0 ∧ ∃ T : cf_S, (∃ j : Nat, j < 5 ∧ x = nI j ∧ (cf_rg a1 1 8 ∧ cf_rg a2 a1 8 ∧ cf_rg a3 1 60) ∧ T = cf_s3 (cf_s3 (cf_s3 S 1 j 0 a1) 1 j 1 a2) 1 j 2 a3) ∧ u = (nc, ng, T, P, O, ad))) (cf_EW cT) cf_ADu) (cf_X D z (cf_E cT nc ng S P O ad) ad (fun _ => False)) 4 24 (fun q => z ≤ q) := by
  refine vx_ofWH (cc := cL_setGame) (maxL := 6) (ret := (some .int)) (hh := [(0, 9, 12, 13), (0, 9, 16, 15)]) (by decide) rfl ?_
  intro p e s m args below meth c s₁ B hml hv
  obtain ⟨rfl, hW, hT⟩ := hv
  have hx := B.exec
  have hb := B.bytes
  have hr := B.returns
  have hts := atoms_spec (ws := wsL_setGame) B.pre
  have htab := vx_table (x := yL_setGame) B (hts (.codeWith yL_setGame cL_setGame 6 (some .int) [(0, 9, 12, 13), (0, 9, 16, 15)]) List.mem_cons_self)
  have hown : s.vm.findClass RL = some m.cls := findClass_of_methodNamed B.named
  have hlocks := B.notSynchronized
  have hS : va_S (fun q => z ≤ q) s.heap s.heap [] := va_S.rf
  have hl := lv_entry ([.ref (ad 5 0), .int x, .int a1, .int a2, .int a3]) (n := 6) (Nat.le_of_ble_eq_true rfl)
  rw [lg_entry_eq]
  generalize (lg_sl ([.ref (ad 5 0), .int x, .int a1, .int a2, .int a3]) ++ List.replicate (6 - (lg_sl ([.ref (ad 5 0), .int x, .int a1, .int a2, .int a3])).length) Slot.unset).toArray = ls at hl ⊢
  have hl : lv_has ls 6 [(0, .ref (ad 5 0)), (1, .int x), (2, .int a1), (3, .int a2), (4, .int a3)] := hl
  refine lv_aload_n hx hb dL_setGame_0 rfl (lv_at hl 0 rfl) ?_
  refine lv_iload_n hx hb dL_setGame_1 rfl (lv_at hl 1 rfl) ?_
  refine lv_iload_n hx hb dL_setGame_2 rfl (lv_at hl 2 rfl) ?_
  refine lv_iload_n hx hb dL_setGame_3 rfl (lv_at hl 3 rfl) ?_
  refine lv_iload hx hb dL_setGame_4 (lv_at hl 4 rfl) ?_
  refine vx_callv (vx_runV (As := [.int x, .int a1, .int a2, .int a3]) (rest := []) ⟨hx, hb, hml, hown, hts⟩ (c_X5_setGame l D cT z ad nc ng S P O hl0 x a1 a2 a3) (cwV 4 hts gL_setGame_X5_setGame rfl rfl rfl (by decide +kernel) ⟨Nat.le_of_ble_eq_true rfl, Nat.le_of_ble_eq_true rfl⟩) (cf_preV (T := TX5) (N := 9) hT hS hW cf_e5 rfl) rfl rfl hl.1 rfl (lv_room (Nat.le_of_ble_eq_true rfl)) dL_setGame_6 ⟨Nat.le_of_ble_eq_true rfl, Nat.le_of_ble_eq_true rfl⟩) hS (fun _ _ h => h) (fun _ h => h) (fun _ _ h => h) (fun E9 ce q9 u9 t9 H locs ht hvm hu hB hz1 hk1 hS hce hcv hcl => ?_) (fun ur1 t9 H locs ht hvm hw hW hz1 hk1 hS => ?_)
  · obtain ⟨hp, hW⟩ := hB
    have hW := cf_W.er ht hW
    rcases hp with ⟨rfl, n0⟩ | ⟨rfl, n0, n1⟩
    · refine vx_catch (E := cf_iob) (own := RL) (name := "java/lang/IndexOutOfBoundsException") hown [] ⟨0, 9, 12, 13⟩ [⟨0, 9, 16, 15⟩] htab (fun z9 hz => absurd hz List.not_mem_nil) rfl (by decide) (hts (.classLink RL 13 "java/lang/IndexOutOfBoundsException") (List.mem_of_getElem? (i := 1) rfl)) (va_Nw.use rfl (hT.2.2.1 (cf_iob, cf_iob) (List.mem_of_getElem? (i := 0) rfl))) hce hcv hcl ?_
      refine lv_astore (lv' := [(5, .ref q9), (0, .ref (ad 5 0)), (1, .int x), (2, .int a1), (3, .int a2), (4, .int a3)]) hx hb dL_setGame_12 hl (by decide) rfl (fun ls hl => ?_)
      refine lv_iconst (v := 1) hx hb dL_setGame_14 (by decide) ?_
      refine vx_ret ?_
      refine W.widen (k := 4) (n := 24) (by omega) (by omega) ?_
      exact W.iret (v := 1) hx hb hr (fun t9 ht9 hw9 => ⟨⟨1, (nc, ng, S, P, O, ad), rfl, Or.inl ⟨rfl, n0, rfl⟩, cf_W.re ht9 hW⟩, hS.F ht9⟩) hS.2.2 dL_setGame_15
    · refine vx_catch (E := cf_iae) (own := RL) (name := "java/lang/IllegalArgumentException") hown [⟨0, 9, 12, 13⟩] ⟨0, 9, 16, 15⟩ [] htab (fun z9 hz => by rw [List.mem_singleton.mp hz]; exact Or.inr ⟨by decide, "java/lang/IndexOutOfBoundsException", (hts (.classLink RL 13 "java/lang/IndexOutOfBoundsException") (List.mem_of_getElem? (i := 1) rfl)), (hT.2.2.2.2.1 (cf_iae, cf_iob) (List.mem_of_getElem? (i := 0) rfl))⟩) rfl (by decide) (hts (.classLink RL 15 "java/lang/IllegalArgumentException") (List.mem_of_getElem? (i := 2) rfl)) (va_Nw.use rfl (hT.2.2.1 (cf_iae, cf_iae) (List.mem_of_getElem? (i := 1) rfl))) hce hcv hcl ?_
      refine lv_astore (lv' := [(5, .ref q9), (0, .ref (ad 5 0)), (1, .int x), (2, .int a1), (3, .int a2), (4, .int a3)]) hx hb dL_setGame_16 hl (by decide) rfl (fun ls hl => ?_)
      refine lv_iconst (v := 2) hx hb dL_setGame_18 (by decide) ?_
      refine vx_ret ?_
      refine W.widen (k := 4) (n := 24) (by omega) (by omega) ?_
      exact W.iret (v := 2) hx hb hr (fun t9 ht9 hw9 => ⟨⟨2, (nc, ng, S, P, O, ad), rfl, Or.inr (Or.inl ⟨rfl, n0, n1, rfl⟩), cf_W.re ht9 hW⟩, hS.F ht9⟩) hS.2.2 dL_setGame_19
  have hW := cf_W.er ht hW
  have hW : cf_W D z (cf_E cT nc ng ur1 P O ad) ad H := hW
  refine lv_goto (tgt := 20) hx hb dL_setGame_9 (by decide) ?_
  refine lv_iconst (v := 0) hx hb dL_setGame_20 (by decide) ?_
  refine vx_ret ?_
  refine W.widen (k := 4) (n := 24) (by omega) (by omega) ?_
  exact W.iret (v := 0) hx hb hr (fun t9 ht9 hw9 => ⟨⟨0, (nc, ng, ur1, P, O, ad), rfl, Or.inr (Or.inr (⟨rfl, ur1, hw, rfl⟩)), cf_W.re ht9 hW⟩, hS.F ht9⟩) hS.2.2 dL_setGame_21
set_option maxHeartbeats 4000000 in
set_option maxRecDepth 100000 in
/-- L_setParts -/
theorem c_L_setParts (l : Launch) (D : va_G) (cT : Nat → ClassId) (z : Nat) (ad : cf_Ad) (nc ng : Nat) (S : cf_S) (P : cf_Pt) (O : Nat → Int64) (hl0 : l.stackTraces = false) (x y a1 a2 : Int32) : vx_Met l yL_setParts wsL_setParts ({ frames := 8, cells := 4, slots := 24, locals := 129 }) (va_Pc [.ref (ad 5 0), .int x, .int y, .int a1, .int a2] (cf_P D cT z (cf_E cT nc ng S P O ad) ad)) (cf_Qi D z (fun (r : Int32) (u : cf_St) => (r = 1 ∧ ¬ (cf_ix x 5 ∧ cf_ix y 4) ∧ u = (nc, ng, S, P, O, ad)) ∨ (r = 2 ∧ (cf_ix x 5 ∧ cf_ix y 4) ∧ ¬ (cf_rg a1 0 20 ∧ cf_rg a2 0 a1) ∧ u = (nc, ng, S, P, O, ad)) ∨ (r = 0 ∧ ∃ T : cf_S, (∃ j k : Nat, j < 5 ∧ x = nI j ∧ k < 4 ∧ y = nI k ∧ (cf_rg a1 0 20 ∧ cf_rg a2 0 a1) ∧ T = cf_s3 (cf_s3 S 8 j k a1) 9 j k a2) ∧ u = (nc, ng, T, P, O, ad))) (cf_EW cT) cf_ADu) (cf_X D z (cf_E cT nc ng S P O ad) ad (fun _ => False)) 4 24 (fun q => z ≤ q) := by
  refine vx_ofWH (cc := cL_setParts) (maxL := 6) (ret := (some .int)) (hh := [(0, 9, 12, 13), (0, 9, 16, 15)]) (by decide) rfl ?_
  intro p e s m args below meth c s₁ B hml hv
  obtain ⟨rfl, hW, hT⟩ := hv
  have hx := B.exec
  have hb := B.bytes
  have hr := B.returns
  have hts := atoms_spec (ws := wsL_setParts) B.pre
  have htab := vx_table (x := yL_setParts) B (hts (.codeWith yL_setParts cL_setParts 6 (some .int) [(0, 9, 12, 13), (0, 9, 16, 15)]) List.mem_cons_self)
  have hown : s.vm.findClass RL = some m.cls := findClass_of_methodNamed B.named
  have hlocks := B.notSynchronized
  have hS : va_S (fun q => z ≤ q) s.heap s.heap [] := va_S.rf
  have hl := lv_entry ([.ref (ad 5 0), .int x, .int y, .int a1, .int a2]) (n := 6) (Nat.le_of_ble_eq_true rfl)
  rw [lg_entry_eq]
  generalize (lg_sl ([.ref (ad 5 0), .int x, .int y, .int a1, .int a2]) ++ List.replicate (6 - (lg_sl ([.ref (ad 5 0), .int x, .int y, .int a1, .int a2])).length) Slot.unset).toArray = ls at hl ⊢
  have hl : lv_has ls 6 [(0, .ref (ad 5 0)), (1, .int x), (2, .int y), (3, .int a1), (4, .int a2)] := hl
  refine lv_aload_n hx hb dL_setParts_0 rfl (lv_at hl 0 rfl) ?_
  refine lv_iload_n hx hb dL_setParts_1 rfl (lv_at hl 1 rfl) ?_
  refine lv_iload_n hx hb dL_setParts_2 rfl (lv_at hl 2 rfl) ?_
  refine lv_iload_n hx hb dL_setParts_3 rfl (lv_at hl 3 rfl) ?_
  refine lv_iload hx hb dL_setParts_4 (lv_at hl 4 rfl) ?_
  refine vx_callv (vx_runV (As := [.int x, .int y, .int a1, .int a2]) (rest := []) ⟨hx, hb, hml, hown, hts⟩ (c_X5_setParts l D cT z ad nc ng S P O hl0 x y a1 a2) (cwV 4 hts gL_setParts_X5_setParts rfl rfl rfl (by decide +kernel) ⟨Nat.le_of_ble_eq_true rfl, Nat.le_of_ble_eq_true rfl⟩) (cf_preV (T := TX5) (N := 9) hT hS hW cf_e5 rfl) rfl rfl hl.1 rfl (lv_room (Nat.le_of_ble_eq_true rfl)) dL_setParts_6 ⟨Nat.le_of_ble_eq_true rfl, Nat.le_of_ble_eq_true rfl⟩) hS (fun _ _ h => h) (fun _ h => h) (fun _ _ h => h) (fun E9 ce q9 u9 t9 H locs ht hvm hu hB hz1 hk1 hS hce hcv hcl => ?_) (fun ur1 t9 H locs ht hvm hw hW hz1 hk1 hS => ?_)
  · obtain ⟨hp, hW⟩ := hB
    have hW := cf_W.er ht hW
    rcases hp with ⟨rfl, n0⟩ | ⟨rfl, n0, n1⟩
    · refine vx_catch (E := cf_iob) (own := RL) (name := "java/lang/IndexOutOfBoundsException") hown [] ⟨0, 9, 12, 13⟩ [⟨0, 9, 16, 15⟩] htab (fun z9 hz => absurd hz List.not_mem_nil) rfl (by decide) (hts (.classLink RL 13 "java/lang/IndexOutOfBoundsException") (List.mem_of_getElem? (i := 1) rfl)) (va_Nw.use rfl (hT.2.2.1 (cf_iob, cf_iob) (List.mem_of_getElem? (i := 0) rfl))) hce hcv hcl ?_
      refine lv_astore (lv' := [(5, .ref q9), (0, .ref (ad 5 0)), (1, .int x), (2, .int y), (3, .int a1), (4, .int a2)]) hx hb dL_setParts_12 hl (by decide) rfl (fun ls hl => ?_)
      refine lv_iconst (v := 1) hx hb dL_setParts_14 (by decide) ?_
      refine vx_ret ?_
      refine W.widen (k := 4) (n := 24) (by omega) (by omega) ?_
      exact W.iret (v := 1) hx hb hr (fun t9 ht9 hw9 => ⟨⟨1, (nc, ng, S, P, O, ad), rfl, Or.inl ⟨rfl, n0, rfl⟩, cf_W.re ht9 hW⟩, hS.F ht9⟩) hS.2.2 dL_setParts_15
    · refine vx_catch (E := cf_iae) (own := RL) (name := "java/lang/IllegalArgumentException") hown [⟨0, 9, 12, 13⟩] ⟨0, 9, 16, 15⟩ [] htab (fun z9 hz => by rw [List.mem_singleton.mp hz]; exact Or.inr ⟨by decide, "java/lang/IndexOutOfBoundsException", (hts (.classLink RL 13 "java/lang/IndexOutOfBoundsException") (List.mem_of_getElem? (i := 1) rfl)), (hT.2.2.2.2.1 (cf_iae, cf_iob) (List.mem_of_getElem? (i := 0) rfl))⟩) rfl (by decide) (hts (.classLink RL 15 "java/lang/IllegalArgumentException") (List.mem_of_getElem? (i := 2) rfl)) (va_Nw.use rfl (hT.2.2.1 (cf_iae, cf_iae) (List.mem_of_getElem? (i := 1) rfl))) hce hcv hcl ?_
      refine lv_astore (lv' := [(5, .ref q9), (0, .ref (ad 5 0)), (1, .int x), (2, .int y), (3, .int a1), (4, .int a2)]) hx hb dL_setParts_16 hl (by decide) rfl (fun ls hl => ?_)
      refine lv_iconst (v := 2) hx hb dL_setParts_18 (by decide) ?_
      refine vx_ret ?_
      refine W.widen (k := 4) (n := 24) (by omega) (by omega) ?_
      exact W.iret (v := 2) hx hb hr (fun t9 ht9 hw9 => ⟨⟨2, (nc, ng, S, P, O, ad), rfl, Or.inr (Or.inl ⟨rfl, n0, n1, rfl⟩), cf_W.re ht9 hW⟩, hS.F ht9⟩) hS.2.2 dL_setParts_19
  have hW := cf_W.er ht hW
  have hW : cf_W D z (cf_E cT nc ng ur1 P O ad) ad H := hW
  refine lv_goto (tgt := 20) hx hb dL_setParts_9 (by decide) ?_
  refine lv_iconst (v := 0) hx hb dL_setParts_20 (by decide) ?_
  refine vx_ret ?_
  refine W.widen (k := 4) (n := 24) (by omega) (by omega) ?_
  exact W.iret (v := 0) hx hb hr (fun t9 ht9 hw9 => ⟨⟨0, (nc, ng, ur1, P, O, ad), rfl, Or.inr (Or.inr (⟨rfl, ur1, hw, rfl⟩)), cf_W.re ht9 hW⟩, hS.F ht9⟩) hS.2.2 dL_setParts_21
set_option maxHeartbeats 4000000 in
set_option maxRecDepth 100000 in
/-- L_setSeats -/
theorem c_L_setSeats (l : Launch) (D : va_G) (cT : Nat → ClassId) (z : Nat) (ad : cf_Ad) (nc ng : Nat) (S : cf_S) (P : cf_Pt) (O : Nat → Int64) (hl0 : l.stackTraces = false) (x a1 : Int32) : vx_Met l yL_setSeats wsL_setSeats ({ frames := 8, cells := 3, slots := 18, locals := 128 }) (va_Pc [.ref (ad 5 0), .int x, .int a1, .ref (ad 18 0)] (cf_P D cT z (cf_E cT nc ng S P O ad) ad)) (cf_Qi D z (fun (r : Int32) (u : cf_St) => (r = 1 ∧ ¬ (cf_ix x 6) ∧ u = (nc, ng, S, P, O, ad)) ∨ (r = 2 ∧ (cf_ix x 6) ∧ ¬ (cf_rg a1 1 8) ∧ u = (nc, ng, S, P, O, ad)) ∨ (r = 3 ∧ (cf_ix x 6) ∧ (cf_rg a1 1 8) ∧ ¬ (∀ j : Nat, j < 6 → x = nI j → S 3 j 1 = -1) ∧ u = (nc, ng, S, P, O, ad)) ∨ (r = 0 ∧ ∃ v : Int32, ∃ T : cf_S, (∃ j : Nat, j < 6 ∧ x = nI j ∧ (cf_rg a1 1 8) ∧ S 3 j 1 = -1 ∧ v = S 3 j 0 ∧ T = cf_s3 S 3 j 0 a1) ∧ u = (nc, ng, T, P, vp_updL O 0 v.toInt64, ad))) (cf_EW cT) cf_ADu) (cf_X D z (cf_E cT nc ng S P O ad) ad (fun _ => False)) 3 18 (fun q => z ≤ q) := by
  refine vx_ofWH (cc := cL_setSeats) (maxL := 5) (ret := (some .int)) (hh := [(0, 10, 13, 13), (0, 10, 17, 15), (0, 10, 21, 24)]) (by decide) rfl ?_
  intro p e s m args below meth c s₁ B hml hv
  obtain ⟨rfl, hW, hT⟩ := hv
  have hx := B.exec
  have hb := B.bytes
  have hr := B.returns
  have hts := atoms_spec (ws := wsL_setSeats) B.pre
  have htab := vx_table (x := yL_setSeats) B (hts (.codeWith yL_setSeats cL_setSeats 5 (some .int) [(0, 10, 13, 13), (0, 10, 17, 15), (0, 10, 21, 24)]) List.mem_cons_self)
  have hown : s.vm.findClass RL = some m.cls := findClass_of_methodNamed B.named
  have hlocks := B.notSynchronized
  have hS : va_S (fun q => z ≤ q) s.heap s.heap [] := va_S.rf
  have hl := lv_entry ([.ref (ad 5 0), .int x, .int a1, .ref (ad 18 0)]) (n := 5) (Nat.le_of_ble_eq_true rfl)
  rw [lg_entry_eq]
  generalize (lg_sl ([.ref (ad 5 0), .int x, .int a1, .ref (ad 18 0)]) ++ List.replicate (5 - (lg_sl ([.ref (ad 5 0), .int x, .int a1, .ref (ad 18 0)])).length) Slot.unset).toArray = ls at hl ⊢
  have hl : lv_has ls 5 [(0, .ref (ad 5 0)), (1, .int x), (2, .int a1), (3, .ref (ad 18 0))] := hl
  refine lv_aload_n hx hb dL_setSeats_0 rfl (lv_at hl 3 rfl) ?_
  refine lv_iconst (v := 0) hx hb dL_setSeats_1 (by decide) ?_
  refine lv_aload_n hx hb dL_setSeats_2 rfl (lv_at hl 0 rfl) ?_
  refine lv_iload_n hx hb dL_setSeats_3 rfl (lv_at hl 1 rfl) ?_
  refine lv_iload_n hx hb dL_setSeats_4 rfl (lv_at hl 2 rfl) ?_
  refine vx_calli (vx_runV (As := [.int x, .int a1]) (rest := [.int 0, .ref (ad 18 0)]) ⟨hx, hb, hml, hown, hts⟩ (c_X5_setSeats l D cT z ad nc ng S P O hl0 x a1) (cwV 2 hts gL_setSeats_X5_setSeats rfl rfl rfl (by decide +kernel) ⟨Nat.le_of_ble_eq_true rfl, Nat.le_of_ble_eq_true rfl⟩) (cf_preV (T := TX5) (N := 9) hT hS hW cf_e5 rfl) rfl rfl hl.1 rfl (lv_room (Nat.le_of_ble_eq_true rfl)) dL_setSeats_5 ⟨Nat.le_of_ble_eq_true rfl, Nat.le_of_ble_eq_true rfl⟩) hS (fun _ _ h => h) (fun _ h => h) (fun _ _ h => h) (fun E9 ce q9 u9 t9 H locs ht hvm hu hB hz1 hk1 hS hce hcv hcl => ?_) (fun r1 ur1 t9 H locs ht hvm hw hW hz1 hk1 hS => ?_)
  · obtain ⟨hp, hW⟩ := hB
    have hW := cf_W.er ht hW
    rcases hp with ⟨rfl, n0⟩ | ⟨rfl, n0, n1⟩ | ⟨rfl, n0, n1, n2⟩
    · refine vx_catch (E := cf_iob) (own := RL) (name := "java/lang/IndexOutOfBoundsException") hown [] ⟨0, 10, 13, 13⟩ [⟨0, 10, 17, 15⟩, ⟨0, 10, 21, 24⟩] htab (fun z9 hz => absurd hz List.not_mem_nil) rfl (by decide) (hts (.classLink RL 13 "java/lang/IndexOutOfBoundsException") (List.mem_of_getElem? (i := 1) rfl)) (va_Nw.use rfl (hT.2.2.1 (cf_iob, cf_iob) (List.mem_of_getElem? (i := 0) rfl))) hce hcv hcl ?_
      refine lv_astore (lv' := [(4, .ref q9), (0, .ref (ad 5 0)), (1, .int x), (2, .int a1), (3, .ref (ad 18 0))]) hx hb dL_setSeats_13 hl (by decide) rfl (fun ls hl => ?_)
      refine lv_iconst (v := 1) hx hb dL_setSeats_15 (by decide) ?_
      refine vx_ret ?_
      refine W.widen (k := 3) (n := 18) (by omega) (by omega) ?_
      exact W.iret (v := 1) hx hb hr (fun t9 ht9 hw9 => ⟨⟨1, (nc, ng, S, P, O, ad), rfl, Or.inl ⟨rfl, n0, rfl⟩, cf_W.re ht9 hW⟩, hS.F ht9⟩) hS.2.2 dL_setSeats_16
    · refine vx_catch (E := cf_iae) (own := RL) (name := "java/lang/IllegalArgumentException") hown [⟨0, 10, 13, 13⟩] ⟨0, 10, 17, 15⟩ [⟨0, 10, 21, 24⟩] htab (fun z9 hz => by rw [List.mem_singleton.mp hz]; exact Or.inr ⟨by decide, "java/lang/IndexOutOfBoundsException", (hts (.classLink RL 13 "java/lang/IndexOutOfBoundsException") (List.mem_of_getElem? (i := 1) rfl)), (hT.2.2.2.2.1 (cf_iae, cf_iob) (List.mem_of_getElem? (i := 0) rfl))⟩) rfl (by decide) (hts (.classLink RL 15 "java/lang/IllegalArgumentException") (List.mem_of_getElem? (i := 2) rfl)) (va_Nw.use rfl (hT.2.2.1 (cf_iae, cf_iae) (List.mem_of_getElem? (i := 1) rfl))) hce hcv hcl ?_
      refine lv_astore (lv' := [(4, .ref q9), (0, .ref (ad 5 0)), (1, .int x), (2, .int a1), (3, .ref (ad 18 0))]) hx hb dL_setSeats_17 hl (by decide) rfl (fun ls hl => ?_)
      refine lv_iconst (v := 2) hx hb dL_setSeats_19 (by decide) ?_
      refine vx_ret ?_
      refine W.widen (k := 3) (n := 18) (by omega) (by omega) ?_
      exact W.iret (v := 2) hx hb hr (fun t9 ht9 hw9 => ⟨⟨2, (nc, ng, S, P, O, ad), rfl, Or.inr (Or.inl ⟨rfl, n0, n1, rfl⟩), cf_W.re ht9 hW⟩, hS.F ht9⟩) hS.2.2 dL_setSeats_20
    · refine vx_catch (E := cf_ise) (own := RL) (name := "java/lang/IllegalStateException") hown [⟨0, 10, 13, 13⟩, ⟨0, 10, 17, 15⟩] ⟨0, 10, 21, 24⟩ [] htab (fun z9 hz => (List.mem_cons.mp hz).elim (fun e9 => by rw [e9]; exact Or.inr ⟨by decide, "java/lang/IndexOutOfBoundsException", (hts (.classLink RL 13 "java/lang/IndexOutOfBoundsException") (List.mem_of_getElem? (i := 1) rfl)), (hT.2.2.2.2.1 (cf_ise, cf_iob) (List.mem_of_getElem? (i := 1) rfl))⟩) (fun hz => by rw [List.mem_singleton.mp hz]; exact Or.inr ⟨by decide, "java/lang/IllegalArgumentException", (hts (.classLink RL 15 "java/lang/IllegalArgumentException") (List.mem_of_getElem? (i := 2) rfl)), (hT.2.2.2.2.1 (cf_ise, cf_iae) (List.mem_of_getElem? (i := 3) rfl))⟩)) rfl (by decide) (hts (.classLink RL 24 "java/lang/IllegalStateException") (List.mem_of_getElem? (i := 3) rfl)) (va_Nw.use rfl (hT.2.2.1 (cf_ise, cf_ise) (List.mem_of_getElem? (i := 2) rfl))) hce hcv hcl ?_
      refine lv_astore (lv' := [(4, .ref q9), (0, .ref (ad 5 0)), (1, .int x), (2, .int a1), (3, .ref (ad 18 0))]) hx hb dL_setSeats_21 hl (by decide) rfl (fun ls hl => ?_)
      refine lv_iconst (v := 3) hx hb dL_setSeats_23 (by decide) ?_
      refine vx_ret ?_
      refine W.widen (k := 3) (n := 18) (by omega) (by omega) ?_
      exact W.iret (v := 3) hx hb hr (fun t9 ht9 hw9 => ⟨⟨3, (nc, ng, S, P, O, ad), rfl, Or.inr (Or.inr (Or.inl ⟨rfl, n0, n1, n2, rfl⟩)), cf_W.re ht9 hW⟩, hS.F ht9⟩) hS.2.2 dL_setSeats_24
  have hW := cf_W.er ht hW
  have hW : cf_W D z (cf_E cT nc ng ur1 P O ad) ad H := hW
  refine lv_i2l (v := r1.toInt64) hx hb dL_setSeats_8 rfl ?_
  refine cf_last (k := 18) (i := 0) (ad := ad) (f := O) (j := 0) hx hb hT.1 hW hS 2 cf_e18 rfl (show vp_in 0 1 from vp_in_nI (show (0 : Nat) < 1 by decide) (by decide)) dL_setSeats_9 (fun H locs hW hS => ?_)
  have hW := cf_W.eqv hW (cf_upO (x := r1.toInt64) (j := (0 : Int32).toNatClampNeg) rfl)
  refine lv_goto (tgt := 25) hx hb dL_setSeats_10 (by decide) ?_
  refine lv_iconst (v := 0) hx hb dL_setSeats_25 (by decide) ?_
  refine vx_ret ?_
  refine W.widen (k := 3) (n := 18) (by omega) (by omega) ?_
  exact W.iret (v := 0) hx hb hr (fun t9 ht9 hw9 => ⟨⟨0, (nc, ng, ur1, P, vp_updL O 0 r1.toInt64, ad), rfl, Or.inr (Or.inr (Or.inr (⟨rfl, r1, ur1, hw, rfl⟩))), cf_W.re ht9 hW⟩, hS.F ht9⟩) hS.2.2 dL_setSeats_26
set_option maxHeartbeats 4000000 in
set_option maxRecDepth 100000 in
/-- L_teach -/
theorem c_L_teach (l : Launch) (D : va_G) (cT : Nat → ClassId) (z : Nat) (ad : cf_Ad) (nc ng : Nat) (S : cf_S) (P : cf_Pt) (O : Nat → Int64) (hl0 : l.stackTraces = false) (x y b1 : Int32) (hb1 : b1 = 0 ∨ b1 = 1) (hK10 : ∀ j k, j < 3 → k < 5 → S 10 j k = 0 ∨ S 10 j k = 1) : vx_Met l yL_teach wsL_teach ({ frames := 8, cells := 2, slots := 12, locals := 128 }) (va_Pc [.ref (ad 5 0), .int x, .int y, .int b1, .ref (ad 18 0)] (cf_P D cT z (cf_E cT nc ng S P O ad) ad)) (cf_Qi D z (fun (r : Int32) (u : cf_St) => (r = 1 ∧ ¬ (cf_ix x 3 ∧ cf_ix y 5) ∧ u = (nc, ng, S, P, O, ad)) ∨ (r = 0 ∧ ∃ v : Int32, ∃ T : cf_S, (∃ j k : Nat, j < 3 ∧ x = nI j ∧ k < 5 ∧ y = nI k ∧ v = S 10 j k ∧ T = cf_s3 S 10 j k b1) ∧ ∃ w : Int64, ((v = 0 ∧ w = 0) ∨ (¬ v = 0 ∧ w = 1)) ∧ u = (nc, ng, T, P, vp_updL O 0 w, ad))) (cf_EW cT) cf_ADu) (cf_X D z (cf_E cT nc ng S P O ad) ad (fun _ => False)) 2 12 (fun q => z ≤ q) := by
  refine vx_ofWH (cc := cL_teach) (maxL := 6) (ret := (some .int)) (hh := [(0, 19, 22, 13)]) (by decide) rfl ?_
  intro p e s m args below meth c s₁ B hml hv
  obtain ⟨rfl, hW, hT⟩ := hv
  have hx := B.exec
  have hb := B.bytes
  have hr := B.returns
  have hts := atoms_spec (ws := wsL_teach) B.pre
  have htab := vx_table (x := yL_teach) B (hts (.codeWith yL_teach cL_teach 6 (some .int) [(0, 19, 22, 13)]) List.mem_cons_self)
  have hown : s.vm.findClass RL = some m.cls := findClass_of_methodNamed B.named
  have hlocks := B.notSynchronized
  have hS : va_S (fun q => z ≤ q) s.heap s.heap [] := va_S.rf
  have hl := lv_entry ([.ref (ad 5 0), .int x, .int y, .int b1, .ref (ad 18 0)]) (n := 6) (Nat.le_of_ble_eq_true rfl)
  rw [lg_entry_eq]
  generalize (lg_sl ([.ref (ad 5 0), .int x, .int y, .int b1, .ref (ad 18 0)]) ++ List.replicate (6 - (lg_sl ([.ref (ad 5 0), .int x, .int y, .int b1, .ref (ad 18 0)])).length) Slot.unset).toArray = ls at hl ⊢
  have hl : lv_has ls 6 [(0, .ref (ad 5 0)), (1, .int x), (2, .int y), (3, .int b1), (4, .ref (ad 18 0))] := hl
  refine lv_aload hx hb dL_teach_0 (lv_at hl 4 rfl) ?_
  refine lv_iconst (v := 0) hx hb dL_teach_2 (by decide) ?_
  refine lv_aload_n hx hb dL_teach_3 rfl (lv_at hl 0 rfl) ?_
  refine lv_iload_n hx hb dL_teach_4 rfl (lv_at hl 1 rfl) ?_
  refine lv_iload_n hx hb dL_teach_5 rfl (lv_at hl 2 rfl) ?_
  refine lv_iload_n hx hb dL_teach_6 rfl (lv_at hl 3 rfl) ?_
  refine vx_calli (vx_runV (As := [.int x, .int y, .int b1]) (rest := [.int 0, .ref (ad 18 0)]) ⟨hx, hb, hml, hown, hts⟩ (c_X5_teach l D cT z ad nc ng S P O hl0 x y b1 hb1 hK10) (cwV 3 hts gL_teach_X5_teach rfl rfl rfl (by decide +kernel) ⟨Nat.le_of_ble_eq_true rfl, Nat.le_of_ble_eq_true rfl⟩) (cf_preV (T := TX5) (N := 9) hT hS hW cf_e5 rfl) rfl rfl hl.1 rfl (lv_room (Nat.le_of_ble_eq_true rfl)) dL_teach_7 ⟨Nat.le_of_ble_eq_true rfl, Nat.le_of_ble_eq_true rfl⟩) hS (fun _ _ h => h) (fun _ h => h) (fun _ _ h => h) (fun E9 ce q9 u9 t9 H locs ht hvm hu hB hz1 hk1 hS hce hcv hcl => ?_) (fun r1 ur1 t9 H locs ht hvm hw hW hz1 hk1 hS => ?_)
  · obtain ⟨hp, hW⟩ := hB
    have hW := cf_W.er ht hW
    obtain ⟨rfl, n0⟩ := hp
    refine vx_catch (E := cf_iob) (own := RL) (name := "java/lang/IndexOutOfBoundsException") hown [] ⟨0, 19, 22, 13⟩ [] htab (fun z9 hz => absurd hz List.not_mem_nil) rfl (by decide) (hts (.classLink RL 13 "java/lang/IndexOutOfBoundsException") (List.mem_of_getElem? (i := 1) rfl)) (va_Nw.use rfl (hT.2.2.1 (cf_iob, cf_iob) (List.mem_of_getElem? (i := 0) rfl))) hce hcv hcl ?_
    refine lv_astore (lv' := [(5, .ref q9), (0, .ref (ad 5 0)), (1, .int x), (2, .int y), (3, .int b1), (4, .ref (ad 18 0))]) hx hb dL_teach_22 hl (by decide) rfl (fun ls hl => ?_)
    refine lv_iconst (v := 1) hx hb dL_teach_24 (by decide) ?_
    refine vx_ret ?_
    refine W.widen (k := 2) (n := 12) (by omega) (by omega) ?_
    exact W.iret (v := 1) hx hb hr (fun t9 ht9 hw9 => ⟨⟨1, (nc, ng, S, P, O, ad), rfl, Or.inl ⟨rfl, n0, rfl⟩, cf_W.re ht9 hW⟩, hS.F ht9⟩) hS.2.2 dL_teach_25
  have hW := cf_W.er ht hW
  have hW : cf_W D z (cf_E cT nc ng ur1 P O ad) ad H := hW
  refine lv_if_eq (tgt := 17) hx hb dL_teach_10 (by decide) (fun c10_2 => ?_) (fun c10_2 => ?_)
  · refine lv_lconst (v := 0) hx hb dL_teach_17 (by decide) ?_
    refine cf_last (k := 18) (i := 0) (ad := ad) (f := O) (j := 0) hx hb hT.1 hW hS 2 cf_e18 rfl (show vp_in 0 1 from vp_in_nI (show (0 : Nat) < 1 by decide) (by decide)) dL_teach_18 (fun H locs hW hS => ?_)
    have hW := cf_W.eqv hW (cf_upO (x := 0) (j := (0 : Int32).toNatClampNeg) rfl)
    refine lv_goto (tgt := 26) hx hb dL_teach_19 (by decide) ?_
    refine lv_iconst (v := 0) hx hb dL_teach_26 (by decide) ?_
    refine vx_ret ?_
    refine W.widen (k := 2) (n := 12) (by omega) (by omega) ?_
    exact W.iret (v := 0) hx hb hr (fun t9 ht9 hw9 => ⟨⟨0, (nc, ng, ur1, P, vp_updL O 0 0, ad), rfl, Or.inr (⟨rfl, r1, ur1, hw, 0, Or.inl ⟨c10_2, rfl⟩, rfl⟩), cf_W.re ht9 hW⟩, hS.F ht9⟩) hS.2.2 dL_teach_27
  · refine lv_lconst (v := 1) hx hb dL_teach_13 (by decide) ?_
    refine lv_goto (tgt := 18) hx hb dL_teach_14 (by decide) ?_
    refine cf_last (k := 18) (i := 0) (ad := ad) (f := O) (j := 0) hx hb hT.1 hW hS 2 cf_e18 rfl (show vp_in 0 1 from vp_in_nI (show (0 : Nat) < 1 by decide) (by decide)) dL_teach_18 (fun H locs hW hS => ?_)
    have hW := cf_W.eqv hW (cf_upO (x := 1) (j := (0 : Int32).toNatClampNeg) rfl)
    refine lv_goto (tgt := 26) hx hb dL_teach_19 (by decide) ?_
    refine lv_iconst (v := 0) hx hb dL_teach_26 (by decide) ?_
    refine vx_ret ?_
    refine W.widen (k := 2) (n := 12) (by omega) (by omega) ?_
    exact W.iret (v := 0) hx hb hr (fun t9 ht9 hw9 => ⟨⟨0, (nc, ng, ur1, P, vp_updL O 0 1, ad), rfl, Or.inr (⟨rfl, r1, ur1, hw, 1, Or.inr ⟨c10_2, rfl⟩, rfl⟩), cf_W.re ht9 hW⟩, hS.F ht9⟩) hS.2.2 dL_teach_27
set_option maxHeartbeats 4000000 in
set_option maxRecDepth 100000 in
/-- L_buy -/
theorem c_L_buy (l : Launch) (D : va_G) (cT : Nat → ClassId) (z : Nat) (ad : cf_Ad) (nc ng : Nat) (S : cf_S) (P : cf_Pt) (O : Nat → Int64) (hl0 : l.stackTraces = false) (x : Int32) (hbt : S 5 0 0 = nI nc) (hnc : nc ≤ 15) (hO2 : ∀ j, P 14 0 j = if j < nc then j + 1 else 0) (hL : ∀ j, j < ng → P 2 j 0 < nc ∧ P 2 j 1 < 6) (hB2 : ∀ j, P 16 0 j ≤ nc) : vx_Met l yL_buy wsL_buy ({ frames := 8, cells := 3, slots := 14, locals := 125 }) (va_Pc [.ref (ad 5 0), .int x, .ref (ad 18 0)] (cf_P D cT z (cf_E cT nc ng S P O ad) ad)) (cf_Qi D z (fun (r : Int32) (u : cf_St) => (r = 1 ∧ ¬ (cf_ix x 5) ∧ u = (nc, ng, S, P, O, ad)) ∨ (r = 2 ∧ (cf_ix x 5) ∧ ¬ (nc < 15) ∧ u = (nc, ng, S, P, O, ad)) ∨ (r = 0 ∧ ∃ v : Int32, ∃ T : cf_S × cf_Pt × cf_Ad, (∃ gm : Nat, gm < 5 ∧ x = nI gm ∧ nc < 15 ∧ v = nI nc ∧ T.1 = cf_s3 (cf_buyS S nc gm) 5 0 0 (nI nc + 1) ∧ T.2.1 = cf_buyP P nc gm ∧ ∀ k i, k ≠ 0 → k ≠ 7 → T.2.2 k i = ad k i) ∧ u = ((nc + 1), ng, T.1, T.2.1, vp_updL O 0 v.toInt64, T.2.2))) (cf_EW cT) cf_ADu) (cf_X D z (cf_E cT nc ng S P O ad) ad (fun _ => False)) 3 14 (fun q => z ≤ q) := by
  refine vx_ofWH (cc := cL_buy) (maxL := 4) (ret := (some .int)) (hh := [(0, 9, 12, 13), (0, 9, 15, 24)]) (by decide) rfl ?_
  intro p e s m args below meth c s₁ B hml hv
  obtain ⟨rfl, hW, hT⟩ := hv
  have hx := B.exec
  have hb := B.bytes
  have hr := B.returns
  have hts := atoms_spec (ws := wsL_buy) B.pre
  have htab := vx_table (x := yL_buy) B (hts (.codeWith yL_buy cL_buy 4 (some .int) [(0, 9, 12, 13), (0, 9, 15, 24)]) List.mem_cons_self)
  have hown : s.vm.findClass RL = some m.cls := findClass_of_methodNamed B.named
  have hlocks := B.notSynchronized
  have hS : va_S (fun q => z ≤ q) s.heap s.heap [] := va_S.rf
  have hl := lv_entry ([.ref (ad 5 0), .int x, .ref (ad 18 0)]) (n := 4) (Nat.le_of_ble_eq_true rfl)
  rw [lg_entry_eq]
  generalize (lg_sl ([.ref (ad 5 0), .int x, .ref (ad 18 0)]) ++ List.replicate (4 - (lg_sl ([.ref (ad 5 0), .int x, .ref (ad 18 0)])).length) Slot.unset).toArray = ls at hl ⊢
  have hl : lv_has ls 4 [(0, .ref (ad 5 0)), (1, .int x), (2, .ref (ad 18 0))] := hl
  refine lv_aload_n hx hb dL_buy_0 rfl (lv_at hl 2 rfl) ?_
  refine lv_iconst (v := 0) hx hb dL_buy_1 (by decide) ?_
  refine lv_aload_n hx hb dL_buy_2 rfl (lv_at hl 0 rfl) ?_
  refine lv_iload_n hx hb dL_buy_3 rfl (lv_at hl 1 rfl) ?_
  refine vx_calli (vx_runV (As := [.int x]) (rest := [.int 0, .ref (ad 18 0)]) ⟨hx, hb, hml, hown, hts⟩ (c_X5_buy l D cT z ad nc ng S P O hl0 x hbt hnc hO2 hL hB2) (cwV 1 hts gL_buy_X5_buy rfl rfl rfl (by decide +kernel) ⟨Nat.le_of_ble_eq_true rfl, Nat.le_of_ble_eq_true rfl⟩) (cf_preV (T := TX5) (N := 9) hT hS hW cf_e5 rfl) rfl rfl hl.1 rfl (lv_room (Nat.le_of_ble_eq_true rfl)) dL_buy_4 ⟨Nat.le_of_ble_eq_true rfl, Nat.le_of_ble_eq_true rfl⟩) hS (fun _ _ h => h) (fun _ h => h) (fun _ _ h => h) (fun E9 ce q9 u9 t9 H locs ht hvm hu hB hz1 hk1 hS hce hcv hcl => ?_) (fun r1 ur1 t9 H locs ht hvm hw hW hz1 hk1 hS => ?_)
  · obtain ⟨hp, hW⟩ := hB
    have hW := cf_W.er ht hW
    rcases hp with ⟨rfl, n0⟩ | ⟨rfl, n0, n1⟩
    · refine vx_catch (E := cf_iob) (own := RL) (name := "java/lang/IndexOutOfBoundsException") hown [] ⟨0, 9, 12, 13⟩ [⟨0, 9, 15, 24⟩] htab (fun z9 hz => absurd hz List.not_mem_nil) rfl (by decide) (hts (.classLink RL 13 "java/lang/IndexOutOfBoundsException") (List.mem_of_getElem? (i := 1) rfl)) (va_Nw.use rfl (hT.2.2.1 (cf_iob, cf_iob) (List.mem_of_getElem? (i := 0) rfl))) hce hcv hcl ?_
      refine lv_astore_n (lv' := [(3, .ref q9), (0, .ref (ad 5 0)), (1, .int x), (2, .ref (ad 18 0))]) hx hb dL_buy_12 rfl hl (by decide) rfl (fun ls hl => ?_)
      refine lv_iconst (v := 1) hx hb dL_buy_13 (by decide) ?_
      refine vx_ret ?_
      refine W.widen (k := 3) (n := 14) (by omega) (by omega) ?_
      exact W.iret (v := 1) hx hb hr (fun t9 ht9 hw9 => ⟨⟨1, (nc, ng, S, P, O, ad), rfl, Or.inl ⟨rfl, n0, rfl⟩, cf_W.re ht9 hW⟩, hS.F ht9⟩) hS.2.2 dL_buy_14
    · refine vx_catch (E := cf_ise) (own := RL) (name := "java/lang/IllegalStateException") hown [⟨0, 9, 12, 13⟩] ⟨0, 9, 15, 24⟩ [] htab (fun z9 hz => by rw [List.mem_singleton.mp hz]; exact Or.inr ⟨by decide, "java/lang/IndexOutOfBoundsException", (hts (.classLink RL 13 "java/lang/IndexOutOfBoundsException") (List.mem_of_getElem? (i := 1) rfl)), (hT.2.2.2.2.1 (cf_ise, cf_iob) (List.mem_of_getElem? (i := 1) rfl))⟩) rfl (by decide) (hts (.classLink RL 24 "java/lang/IllegalStateException") (List.mem_of_getElem? (i := 2) rfl)) (va_Nw.use rfl (hT.2.2.1 (cf_ise, cf_ise) (List.mem_of_getElem? (i := 2) rfl))) hce hcv hcl ?_
      refine lv_astore_n (lv' := [(3, .ref q9), (0, .ref (ad 5 0)), (1, .int x), (2, .ref (ad 18 0))]) hx hb dL_buy_15 rfl hl (by decide) rfl (fun ls hl => ?_)
      refine lv_iconst (v := 2) hx hb dL_buy_16 (by decide) ?_
      refine vx_ret ?_
      refine W.widen (k := 3) (n := 14) (by omega) (by omega) ?_
      exact W.iret (v := 2) hx hb hr (fun t9 ht9 hw9 => ⟨⟨2, (nc, ng, S, P, O, ad), rfl, Or.inr (Or.inl ⟨rfl, n0, n1, rfl⟩), cf_W.re ht9 hW⟩, hS.F ht9⟩) hS.2.2 dL_buy_17
  have hW := cf_W.er ht hW
  have hW : cf_W D z (cf_E cT (nc + 1) ng ur1.1 ur1.2.1 O ur1.2.2) ur1.2.2 H := hW
  refine lv_i2l (v := r1.toInt64) hx hb dL_buy_7 rfl ?_
  have hag : ur1.2.2 18 0 = ad 18 0 := by obtain ⟨gm, -, -, -, -, -, -, h⟩ := hw; exact h 18 0 (by decide) (by decide)
  rw [← hag]
  refine cf_last (k := 18) (i := 0) (ad := ur1.2.2) (f := O) (j := 0) hx hb hT.1 hW hS 2 cf_e18 rfl (show vp_in 0 1 from vp_in_nI (show (0 : Nat) < 1 by decide) (by decide)) dL_buy_8 (fun H locs hW hS => ?_)
  have hW := cf_W.eqv hW (cf_upO (x := r1.toInt64) (j := (0 : Int32).toNatClampNeg) rfl)
  refine lv_goto (tgt := 18) hx hb dL_buy_9 (by decide) ?_
  refine lv_iconst (v := 0) hx hb dL_buy_18 (by decide) ?_
  refine vx_ret ?_
  refine W.widen (k := 3) (n := 14) (by omega) (by omega) ?_
  exact W.iret (v := 0) hx hb hr (fun t9 ht9 hw9 => ⟨⟨0, ((nc + 1), ng, ur1.1, ur1.2.1, vp_updL O 0 r1.toInt64, ur1.2.2), rfl, Or.inr (Or.inr (⟨rfl, r1, ur1, hw, rfl⟩)), cf_W.re ht9 hW⟩, hS.F ht9⟩) hS.2.2 dL_buy_19
set_option maxHeartbeats 4000000 in
set_option maxRecDepth 100000 in
/-- L_count -/
theorem c_L_count (l : Launch) (D : va_G) (cT : Nat → ClassId) (z : Nat) (ad : cf_Ad) (nc ng : Nat) (S : cf_S) (P : cf_Pt) (O : Nat → Int64) (hl0 : l.stackTraces = false) (x y a1 : Int32) (hnc : nc ≤ 15) (hO : ∀ j, j < 15 → P 14 0 j = if j < nc then j + 1 else 0) : vx_Met l yL_count wsL_count ({ frames := 8, cells := 4, slots := 24, locals := 129 }) (va_Pc [.ref (ad 5 0), .int x, .int y, .int a1, .ref (ad 18 0)] (cf_P D cT z (cf_E cT nc ng S P O ad) ad)) (cf_Qi D z (fun (r : Int32) (u : cf_St) => (r = 1 ∧ ¬ (cf_ix x nc ∧ cf_ix y 4) ∧ u = (nc, ng, S, P, O, ad)) ∨ (r = 2 ∧ (cf_ix x nc ∧ cf_ix y 4) ∧ ¬ (cf_rg a1 (-20) 20) ∧ u = (nc, ng, S, P, O, ad)) ∨ (r = 3 ∧ (cf_ix x nc ∧ cf_ix y 4) ∧ (cf_rg a1 (-20) 20) ∧ ¬ (∀ cp k : Nat, x = nI cp → cp < nc → y = nI k → k < 4 → S 0 cp 0 ≠ 2 ∧ cf_rg (S 7 cp k + a1) 0 40) ∧ u = (nc, ng, S, P, O, ad)) ∨ (r = 0 ∧ ∃ v : Int32, ∃ T : cf_S, (∃ cp k : Nat, cp < nc ∧ x = nI cp ∧ k < 4 ∧ y = nI k ∧ (cf_rg a1 (-20) 20) ∧ S 0 cp 0 ≠ 2 ∧ cf_rg (S 7 cp k + a1) 0 40 ∧ v = S 7 cp k + a1 ∧ T = cf_s3 S 7 cp k (S 7 cp k + a1)) ∧ u = (nc, ng, T, P, vp_updL O 0 v.toInt64, ad))) (cf_EW cT) cf_ADu) (cf_X D z (cf_E cT nc ng S P O ad) ad (fun _ => False)) 4 24 (fun q => z ≤ q) := by
  refine vx_ofWH (cc := cL_count) (maxL := 6) (ret := (some .int)) (hh := [(0, 12, 15, 13), (0, 12, 19, 15), (0, 12, 23, 24)]) (by decide) rfl ?_
  intro p e s m args below meth c s₁ B hml hv
  obtain ⟨rfl, hW, hT⟩ := hv
  have hx := B.exec
  have hb := B.bytes
  have hr := B.returns
  have hts := atoms_spec (ws := wsL_count) B.pre
  have htab := vx_table (x := yL_count) B (hts (.codeWith yL_count cL_count 6 (some .int) [(0, 12, 15, 13), (0, 12, 19, 15), (0, 12, 23, 24)]) List.mem_cons_self)
  have hown : s.vm.findClass RL = some m.cls := findClass_of_methodNamed B.named
  have hlocks := B.notSynchronized
  have hS : va_S (fun q => z ≤ q) s.heap s.heap [] := va_S.rf
  have hl := lv_entry ([.ref (ad 5 0), .int x, .int y, .int a1, .ref (ad 18 0)]) (n := 6) (Nat.le_of_ble_eq_true rfl)
  rw [lg_entry_eq]
  generalize (lg_sl ([.ref (ad 5 0), .int x, .int y, .int a1, .ref (ad 18 0)]) ++ List.replicate (6 - (lg_sl ([.ref (ad 5 0), .int x, .int y, .int a1, .ref (ad 18 0)])).length) Slot.unset).toArray = ls at hl ⊢
  have hl : lv_has ls 6 [(0, .ref (ad 5 0)), (1, .int x), (2, .int y), (3, .int a1), (4, .ref (ad 18 0))] := hl
  refine lv_aload hx hb dL_count_0 (lv_at hl 4 rfl) ?_
  refine lv_iconst (v := 0) hx hb dL_count_2 (by decide) ?_
  refine lv_aload_n hx hb dL_count_3 rfl (lv_at hl 0 rfl) ?_
  refine lv_iload_n hx hb dL_count_4 rfl (lv_at hl 1 rfl) ?_
  refine lv_iload_n hx hb dL_count_5 rfl (lv_at hl 2 rfl) ?_
  refine lv_iload_n hx hb dL_count_6 rfl (lv_at hl 3 rfl) ?_
  refine vx_calli (vx_runV (As := [.int x, .int y, .int a1]) (rest := [.int 0, .ref (ad 18 0)]) ⟨hx, hb, hml, hown, hts⟩ (c_X5_count l D cT z ad nc ng S P O hl0 x y a1 hnc hO) (cwV 3 hts gL_count_X5_count rfl rfl rfl (by decide +kernel) ⟨Nat.le_of_ble_eq_true rfl, Nat.le_of_ble_eq_true rfl⟩) (cf_preV (T := TX5) (N := 9) hT hS hW cf_e5 rfl) rfl rfl hl.1 rfl (lv_room (Nat.le_of_ble_eq_true rfl)) dL_count_7 ⟨Nat.le_of_ble_eq_true rfl, Nat.le_of_ble_eq_true rfl⟩) hS (fun _ _ h => h) (fun _ h => h) (fun _ _ h => h) (fun E9 ce q9 u9 t9 H locs ht hvm hu hB hz1 hk1 hS hce hcv hcl => ?_) (fun r1 ur1 t9 H locs ht hvm hw hW hz1 hk1 hS => ?_)
  · obtain ⟨hp, hW⟩ := hB
    have hW := cf_W.er ht hW
    rcases hp with ⟨rfl, n0⟩ | ⟨rfl, n0, n1⟩ | ⟨rfl, n0, n1, n2⟩
    · refine vx_catch (E := cf_iob) (own := RL) (name := "java/lang/IndexOutOfBoundsException") hown [] ⟨0, 12, 15, 13⟩ [⟨0, 12, 19, 15⟩, ⟨0, 12, 23, 24⟩] htab (fun z9 hz => absurd hz List.not_mem_nil) rfl (by decide) (hts (.classLink RL 13 "java/lang/IndexOutOfBoundsException") (List.mem_of_getElem? (i := 1) rfl)) (va_Nw.use rfl (hT.2.2.1 (cf_iob, cf_iob) (List.mem_of_getElem? (i := 0) rfl))) hce hcv hcl ?_
      refine lv_astore (lv' := [(5, .ref q9), (0, .ref (ad 5 0)), (1, .int x), (2, .int y), (3, .int a1), (4, .ref (ad 18 0))]) hx hb dL_count_15 hl (by decide) rfl (fun ls hl => ?_)
      refine lv_iconst (v := 1) hx hb dL_count_17 (by decide) ?_
      refine vx_ret ?_
      refine W.widen (k := 4) (n := 24) (by omega) (by omega) ?_
      exact W.iret (v := 1) hx hb hr (fun t9 ht9 hw9 => ⟨⟨1, (nc, ng, S, P, O, ad), rfl, Or.inl ⟨rfl, n0, rfl⟩, cf_W.re ht9 hW⟩, hS.F ht9⟩) hS.2.2 dL_count_18
    · refine vx_catch (E := cf_iae) (own := RL) (name := "java/lang/IllegalArgumentException") hown [⟨0, 12, 15, 13⟩] ⟨0, 12, 19, 15⟩ [⟨0, 12, 23, 24⟩] htab (fun z9 hz => by rw [List.mem_singleton.mp hz]; exact Or.inr ⟨by decide, "java/lang/IndexOutOfBoundsException", (hts (.classLink RL 13 "java/lang/IndexOutOfBoundsException") (List.mem_of_getElem? (i := 1) rfl)), (hT.2.2.2.2.1 (cf_iae, cf_iob) (List.mem_of_getElem? (i := 0) rfl))⟩) rfl (by decide) (hts (.classLink RL 15 "java/lang/IllegalArgumentException") (List.mem_of_getElem? (i := 2) rfl)) (va_Nw.use rfl (hT.2.2.1 (cf_iae, cf_iae) (List.mem_of_getElem? (i := 1) rfl))) hce hcv hcl ?_
      refine lv_astore (lv' := [(5, .ref q9), (0, .ref (ad 5 0)), (1, .int x), (2, .int y), (3, .int a1), (4, .ref (ad 18 0))]) hx hb dL_count_19 hl (by decide) rfl (fun ls hl => ?_)
      refine lv_iconst (v := 2) hx hb dL_count_21 (by decide) ?_
      refine vx_ret ?_
      refine W.widen (k := 4) (n := 24) (by omega) (by omega) ?_
      exact W.iret (v := 2) hx hb hr (fun t9 ht9 hw9 => ⟨⟨2, (nc, ng, S, P, O, ad), rfl, Or.inr (Or.inl ⟨rfl, n0, n1, rfl⟩), cf_W.re ht9 hW⟩, hS.F ht9⟩) hS.2.2 dL_count_22
    · refine vx_catch (E := cf_ise) (own := RL) (name := "java/lang/IllegalStateException") hown [⟨0, 12, 15, 13⟩, ⟨0, 12, 19, 15⟩] ⟨0, 12, 23, 24⟩ [] htab (fun z9 hz => (List.mem_cons.mp hz).elim (fun e9 => by rw [e9]; exact Or.inr ⟨by decide, "java/lang/IndexOutOfBoundsException", (hts (.classLink RL 13 "java/lang/IndexOutOfBoundsException") (List.mem_of_getElem? (i := 1) rfl)), (hT.2.2.2.2.1 (cf_ise, cf_iob) (List.mem_of_getElem? (i := 1) rfl))⟩) (fun hz => by rw [List.mem_singleton.mp hz]; exact Or.inr ⟨by decide, "java/lang/IllegalArgumentException", (hts (.classLink RL 15 "java/lang/IllegalArgumentException") (List.mem_of_getElem? (i := 2) rfl)), (hT.2.2.2.2.1 (cf_ise, cf_iae) (List.mem_of_getElem? (i := 3) rfl))⟩)) rfl (by decide) (hts (.classLink RL 24 "java/lang/IllegalStateException") (List.mem_of_getElem? (i := 3) rfl)) (va_Nw.use rfl (hT.2.2.1 (cf_ise, cf_ise) (List.mem_of_getElem? (i := 2) rfl))) hce hcv hcl ?_
      refine lv_astore (lv' := [(5, .ref q9), (0, .ref (ad 5 0)), (1, .int x), (2, .int y), (3, .int a1), (4, .ref (ad 18 0))]) hx hb dL_count_23 hl (by decide) rfl (fun ls hl => ?_)
      refine lv_iconst (v := 3) hx hb dL_count_25 (by decide) ?_
      refine vx_ret ?_
      refine W.widen (k := 4) (n := 24) (by omega) (by omega) ?_
      exact W.iret (v := 3) hx hb hr (fun t9 ht9 hw9 => ⟨⟨3, (nc, ng, S, P, O, ad), rfl, Or.inr (Or.inr (Or.inl ⟨rfl, n0, n1, n2, rfl⟩)), cf_W.re ht9 hW⟩, hS.F ht9⟩) hS.2.2 dL_count_26
  have hW := cf_W.er ht hW
  have hW : cf_W D z (cf_E cT nc ng ur1 P O ad) ad H := hW
  refine lv_i2l (v := r1.toInt64) hx hb dL_count_10 rfl ?_
  refine cf_last (k := 18) (i := 0) (ad := ad) (f := O) (j := 0) hx hb hT.1 hW hS 2 cf_e18 rfl (show vp_in 0 1 from vp_in_nI (show (0 : Nat) < 1 by decide) (by decide)) dL_count_11 (fun H locs hW hS => ?_)
  have hW := cf_W.eqv hW (cf_upO (x := r1.toInt64) (j := (0 : Int32).toNatClampNeg) rfl)
  refine lv_goto (tgt := 27) hx hb dL_count_12 (by decide) ?_
  refine lv_iconst (v := 0) hx hb dL_count_27 (by decide) ?_
  refine vx_ret ?_
  refine W.widen (k := 4) (n := 24) (by omega) (by omega) ?_
  exact W.iret (v := 0) hx hb hr (fun t9 ht9 hw9 => ⟨⟨0, (nc, ng, ur1, P, vp_updL O 0 r1.toInt64, ad), rfl, Or.inr (Or.inr (Or.inr (⟨rfl, r1, ur1, hw, rfl⟩))), cf_W.re ht9 hW⟩, hS.F ht9⟩) hS.2.2 dL_count_28
set_option maxHeartbeats 4000000 in
set_option maxRecDepth 100000 in
/-- L_fill -/
theorem c_L_fill (l : Launch) (D : va_G) (cT : Nat → ClassId) (z : Nat) (ad : cf_Ad) (nc ng : Nat) (S : cf_S) (P : cf_Pt) (O : Nat → Int64) (hl0 : l.stackTraces = false) (x y : Int32) (hnc : nc ≤ 15) (hO : ∀ j, j < 15 → P 14 0 j = if j < nc then j + 1 else 0) (hG : ∀ j, j < nc → P 0 j 0 < 5) : vx_Met l yL_fill wsL_fill ({ frames := 8, cells := 4, slots := 24, locals := 127 }) (va_Pc [.ref (ad 5 0), .int x, .int y, .ref (ad 18 0)] (cf_P D cT z (cf_E cT nc ng S P O ad) ad)) (cf_Qi D z (fun (r : Int32) (u : cf_St) => (r = 1 ∧ ¬ (cf_ix x nc ∧ cf_ix y nc) ∧ u = (nc, ng, S, P, O, ad)) ∨ (r = 2 ∧ (cf_ix x nc ∧ cf_ix y nc) ∧ ¬ (x ≠ y ∧ ∀ cp dp : Nat, x = nI cp → cp < nc → y = nI dp → dp < nc → P 0 cp 0 = P 0 dp 0) ∧ u = (nc, ng, S, P, O, ad)) ∨ (r = 3 ∧ (cf_ix x nc ∧ cf_ix y nc) ∧ (x ≠ y ∧ ∀ cp dp : Nat, x = nI cp → cp < nc → y = nI dp → dp < nc → P 0 cp 0 = P 0 dp 0) ∧ ¬ (∀ cp dp : Nat, x = nI cp → cp < nc → y = nI dp → dp < nc → S 0 cp 0 = 0 ∧ S 0 dp 0 = 0) ∧ u = (nc, ng, S, P, O, ad)) ∨ (r = 0 ∧ ∃ v : Int32, ∃ T : cf_S, (∃ cp dp : Nat, cp < nc ∧ x = nI cp ∧ dp < nc ∧ y = nI dp ∧ x ≠ y ∧ P 0 cp 0 = P 0 dp 0 ∧ S 0 cp 0 = 0 ∧ S 0 dp 0 = 0 ∧ cf_fillI S T (P 0 cp 0) cp dp 4 v) ∧ u = (nc, ng, T, P, vp_updL O 0 v.toInt64, ad))) (cf_EW cT) cf_ADu) (cf_X D z (cf_E cT nc ng S P O ad) ad (fun _ => False)) 4 24 (fun q => z ≤ q) := by
  refine vx_ofWH (cc := cL_fill) (maxL := 5) (ret := (some .int)) (hh := [(0, 10, 13, 13), (0, 10, 17, 15), (0, 10, 21, 24)]) (by decide) rfl ?_
  intro p e s m args below meth c s₁ B hml hv
  obtain ⟨rfl, hW, hT⟩ := hv
  have hx := B.exec
  have hb := B.bytes
  have hr := B.returns
  have hts := atoms_spec (ws := wsL_fill) B.pre
  have htab := vx_table (x := yL_fill) B (hts (.codeWith yL_fill cL_fill 5 (some .int) [(0, 10, 13, 13), (0, 10, 17, 15), (0, 10, 21, 24)]) List.mem_cons_self)
  have hown : s.vm.findClass RL = some m.cls := findClass_of_methodNamed B.named
  have hlocks := B.notSynchronized
  have hS : va_S (fun q => z ≤ q) s.heap s.heap [] := va_S.rf
  have hl := lv_entry ([.ref (ad 5 0), .int x, .int y, .ref (ad 18 0)]) (n := 5) (Nat.le_of_ble_eq_true rfl)
  rw [lg_entry_eq]
  generalize (lg_sl ([.ref (ad 5 0), .int x, .int y, .ref (ad 18 0)]) ++ List.replicate (5 - (lg_sl ([.ref (ad 5 0), .int x, .int y, .ref (ad 18 0)])).length) Slot.unset).toArray = ls at hl ⊢
  have hl : lv_has ls 5 [(0, .ref (ad 5 0)), (1, .int x), (2, .int y), (3, .ref (ad 18 0))] := hl
  refine lv_aload_n hx hb dL_fill_0 rfl (lv_at hl 3 rfl) ?_
  refine lv_iconst (v := 0) hx hb dL_fill_1 (by decide) ?_
  refine lv_aload_n hx hb dL_fill_2 rfl (lv_at hl 0 rfl) ?_
  refine lv_iload_n hx hb dL_fill_3 rfl (lv_at hl 1 rfl) ?_
  refine lv_iload_n hx hb dL_fill_4 rfl (lv_at hl 2 rfl) ?_
  refine vx_calli (vx_runV (As := [.int x, .int y]) (rest := [.int 0, .ref (ad 18 0)]) ⟨hx, hb, hml, hown, hts⟩ (c_X5_fill l D cT z ad nc ng S P O hl0 x y hnc hO hG) (cwV 2 hts gL_fill_X5_fill rfl rfl rfl (by decide +kernel) ⟨Nat.le_of_ble_eq_true rfl, Nat.le_of_ble_eq_true rfl⟩) (cf_preV (T := TX5) (N := 9) hT hS hW cf_e5 rfl) rfl rfl hl.1 rfl (lv_room (Nat.le_of_ble_eq_true rfl)) dL_fill_5 ⟨Nat.le_of_ble_eq_true rfl, Nat.le_of_ble_eq_true rfl⟩) hS (fun _ _ h => h) (fun _ h => h) (fun _ _ h => h) (fun E9 ce q9 u9 t9 H locs ht hvm hu hB hz1 hk1 hS hce hcv hcl => ?_) (fun r1 ur1 t9 H locs ht hvm hw hW hz1 hk1 hS => ?_)
  · obtain ⟨hp, hW⟩ := hB
    have hW := cf_W.er ht hW
    rcases hp with ⟨rfl, n0⟩ | ⟨rfl, n0, n1⟩ | ⟨rfl, n0, n1, n2⟩
    · refine vx_catch (E := cf_iob) (own := RL) (name := "java/lang/IndexOutOfBoundsException") hown [] ⟨0, 10, 13, 13⟩ [⟨0, 10, 17, 15⟩, ⟨0, 10, 21, 24⟩] htab (fun z9 hz => absurd hz List.not_mem_nil) rfl (by decide) (hts (.classLink RL 13 "java/lang/IndexOutOfBoundsException") (List.mem_of_getElem? (i := 1) rfl)) (va_Nw.use rfl (hT.2.2.1 (cf_iob, cf_iob) (List.mem_of_getElem? (i := 0) rfl))) hce hcv hcl ?_
      refine lv_astore (lv' := [(4, .ref q9), (0, .ref (ad 5 0)), (1, .int x), (2, .int y), (3, .ref (ad 18 0))]) hx hb dL_fill_13 hl (by decide) rfl (fun ls hl => ?_)
      refine lv_iconst (v := 1) hx hb dL_fill_15 (by decide) ?_
      refine vx_ret ?_
      refine W.widen (k := 4) (n := 24) (by omega) (by omega) ?_
      exact W.iret (v := 1) hx hb hr (fun t9 ht9 hw9 => ⟨⟨1, (nc, ng, S, P, O, ad), rfl, Or.inl ⟨rfl, n0, rfl⟩, cf_W.re ht9 hW⟩, hS.F ht9⟩) hS.2.2 dL_fill_16
    · refine vx_catch (E := cf_iae) (own := RL) (name := "java/lang/IllegalArgumentException") hown [⟨0, 10, 13, 13⟩] ⟨0, 10, 17, 15⟩ [⟨0, 10, 21, 24⟩] htab (fun z9 hz => by rw [List.mem_singleton.mp hz]; exact Or.inr ⟨by decide, "java/lang/IndexOutOfBoundsException", (hts (.classLink RL 13 "java/lang/IndexOutOfBoundsException") (List.mem_of_getElem? (i := 1) rfl)), (hT.2.2.2.2.1 (cf_iae, cf_iob) (List.mem_of_getElem? (i := 0) rfl))⟩) rfl (by decide) (hts (.classLink RL 15 "java/lang/IllegalArgumentException") (List.mem_of_getElem? (i := 2) rfl)) (va_Nw.use rfl (hT.2.2.1 (cf_iae, cf_iae) (List.mem_of_getElem? (i := 1) rfl))) hce hcv hcl ?_
      refine lv_astore (lv' := [(4, .ref q9), (0, .ref (ad 5 0)), (1, .int x), (2, .int y), (3, .ref (ad 18 0))]) hx hb dL_fill_17 hl (by decide) rfl (fun ls hl => ?_)
      refine lv_iconst (v := 2) hx hb dL_fill_19 (by decide) ?_
      refine vx_ret ?_
      refine W.widen (k := 4) (n := 24) (by omega) (by omega) ?_
      exact W.iret (v := 2) hx hb hr (fun t9 ht9 hw9 => ⟨⟨2, (nc, ng, S, P, O, ad), rfl, Or.inr (Or.inl ⟨rfl, n0, n1, rfl⟩), cf_W.re ht9 hW⟩, hS.F ht9⟩) hS.2.2 dL_fill_20
    · refine vx_catch (E := cf_ise) (own := RL) (name := "java/lang/IllegalStateException") hown [⟨0, 10, 13, 13⟩, ⟨0, 10, 17, 15⟩] ⟨0, 10, 21, 24⟩ [] htab (fun z9 hz => (List.mem_cons.mp hz).elim (fun e9 => by rw [e9]; exact Or.inr ⟨by decide, "java/lang/IndexOutOfBoundsException", (hts (.classLink RL 13 "java/lang/IndexOutOfBoundsException") (List.mem_of_getElem? (i := 1) rfl)), (hT.2.2.2.2.1 (cf_ise, cf_iob) (List.mem_of_getElem? (i := 1) rfl))⟩) (fun hz => by rw [List.mem_singleton.mp hz]; exact Or.inr ⟨by decide, "java/lang/IllegalArgumentException", (hts (.classLink RL 15 "java/lang/IllegalArgumentException") (List.mem_of_getElem? (i := 2) rfl)), (hT.2.2.2.2.1 (cf_ise, cf_iae) (List.mem_of_getElem? (i := 3) rfl))⟩)) rfl (by decide) (hts (.classLink RL 24 "java/lang/IllegalStateException") (List.mem_of_getElem? (i := 3) rfl)) (va_Nw.use rfl (hT.2.2.1 (cf_ise, cf_ise) (List.mem_of_getElem? (i := 2) rfl))) hce hcv hcl ?_
      refine lv_astore (lv' := [(4, .ref q9), (0, .ref (ad 5 0)), (1, .int x), (2, .int y), (3, .ref (ad 18 0))]) hx hb dL_fill_21 hl (by decide) rfl (fun ls hl => ?_)
      refine lv_iconst (v := 3) hx hb dL_fill_23 (by decide) ?_
      refine vx_ret ?_
      refine W.widen (k := 4) (n := 24) (by omega) (by omega) ?_
      exact W.iret (v := 3) hx hb hr (fun t9 ht9 hw9 => ⟨⟨3, (nc, ng, S, P, O, ad), rfl, Or.inr (Or.inr (Or.inl ⟨rfl, n0, n1, n2, rfl⟩)), cf_W.re ht9 hW⟩, hS.F ht9⟩) hS.2.2 dL_fill_24
  have hW := cf_W.er ht hW
  have hW : cf_W D z (cf_E cT nc ng ur1 P O ad) ad H := hW
  refine lv_i2l (v := r1.toInt64) hx hb dL_fill_8 rfl ?_
  refine cf_last (k := 18) (i := 0) (ad := ad) (f := O) (j := 0) hx hb hT.1 hW hS 2 cf_e18 rfl (show vp_in 0 1 from vp_in_nI (show (0 : Nat) < 1 by decide) (by decide)) dL_fill_9 (fun H locs hW hS => ?_)
  have hW := cf_W.eqv hW (cf_upO (x := r1.toInt64) (j := (0 : Int32).toNatClampNeg) rfl)
  refine lv_goto (tgt := 25) hx hb dL_fill_10 (by decide) ?_
  refine lv_iconst (v := 0) hx hb dL_fill_25 (by decide) ?_
  refine vx_ret ?_
  refine W.widen (k := 4) (n := 24) (by omega) (by omega) ?_
  exact W.iret (v := 0) hx hb hr (fun t9 ht9 hw9 => ⟨⟨0, (nc, ng, ur1, P, vp_updL O 0 r1.toInt64, ad), rfl, Or.inr (Or.inr (Or.inr (⟨rfl, r1, ur1, hw, rfl⟩))), cf_W.re ht9 hW⟩, hS.F ht9⟩) hS.2.2 dL_fill_26
set_option maxHeartbeats 4000000 in
set_option maxRecDepth 100000 in
/-- L_seat -/
theorem c_L_seat (l : Launch) (D : va_G) (cT : Nat → ClassId) (z : Nat) (ad : cf_Ad) (nc ng : Nat) (S : cf_S) (P : cf_Pt) (O : Nat → Int64) (hl0 : l.stackTraces = false) (x y b1 : Int32) (hst : S 5 0 1 = nI ng) (hng60 : ng ≤ 60) (hnc : nc ≤ 15) (hO2 : ∀ j, P 14 0 j = if j < nc then j + 1 else 0) (hG : ∀ j, j < nc → P 0 j 0 < 5) (hQ2 : ∀ j, P 15 0 j ≤ ng) : vx_Met l yL_seat wsL_seat ({ frames := 8, cells := 4, slots := 22, locals := 132 }) (va_Pc [.ref (ad 5 0), .int x, .int y, .int b1, .ref (ad 18 0)] (cf_P D cT z (cf_E cT nc ng S P O ad) ad)) (cf_Qi D z (fun (r : Int32) (u : cf_St) => (r = 1 ∧ ¬ (cf_ix y 5) ∧ u = (nc, ng, S, P, O, ad)) ∨ (r = 2 ∧ (cf_ix y 5) ∧ ¬ (∀ gm : Nat, gm < 5 → y = nI gm → cf_rg x 1 8 ∧ ¬ x < S 1 gm 0 ∧ ¬ S 1 gm 1 < x) ∧ u = (nc, ng, S, P, O, ad)) ∨ (r = 3 ∧ (cf_ix y 5) ∧ (∀ gm : Nat, gm < 5 → y = nI gm → cf_rg x 1 8 ∧ ¬ x < S 1 gm 0 ∧ ¬ S 1 gm 1 < x) ∧ ¬ (∀ gm : Nat, gm < 5 → y = nI gm → ng < 60 ∧ (∃ t, cf_best (cf_okT S x) (cf_ltT S) 6 = some t) ∧ (∃ u, cf_fst (cf_okC nc S P gm) 15 (some u)) ∧ (b1 = 0 → ∃ u, cf_fst (cf_okS S gm) 3 (some u))) ∧ u = (nc, ng, S, P, O, ad)) ∨ (r = 0 ∧ ∃ v : Int32, ∃ T : cf_S × cf_Pt × cf_Ad, (∃ gm : Nat, gm < 5 ∧ y = nI gm ∧ ng < 60 ∧ (cf_rg x 1 8 ∧ ¬ x < S 1 gm 0 ∧ ¬ S 1 gm 1 < x) ∧ ∃ t c9 : Nat, cf_best (cf_okT S x) (cf_ltT S) 6 = some t ∧ cf_fst (cf_okC nc S P gm) 15 (some c9) ∧ v = nI ng ∧ T.2.1 = cf_seatP P ng c9 t ∧ (∀ k i, k ≠ 2 → T.2.2 k i = ad k i) ∧ ((¬ b1 = 0 ∧ T.1 = (cf_s3 (cf_s3 (cf_s3 (cf_seatS S ng x (S 5 0 2)) 5 0 1 ((nI ng) + 1)) 3 t 1 (nI ng)) 0 c9 0 1)) ∨ (b1 = 0 ∧ ∃ u9, cf_fst (cf_okS S gm) 3 (some u9) ∧ T.1 = (cf_s3 (cf_s3 (cf_s3 (cf_seatS (cf_s3 S 4 u9 0 ((S 5 0 2) + (S 1 gm 2))) ng x (S 5 0 2)) 5 0 1 ((nI ng) + 1)) 3 t 1 (nI ng)) 0 c9 0 1)))) ∧ u = (nc, (ng + 1), T.1, T.2.1, vp_updL O 0 v.toInt64, T.2.2))) (cf_EW cT) cf_ADu) (cf_X D z (cf_E cT nc ng S P O ad) ad (fun _ => False)) 4 22 (fun q => z ≤ q) := by
  refine vx_ofWH (cc := cL_seat) (maxL := 6) (ret := (some .int)) (hh := [(0, 12, 15, 13), (0, 12, 19, 15), (0, 12, 23, 24)]) (by decide) rfl ?_
  intro p e s m args below meth c s₁ B hml hv
  obtain ⟨rfl, hW, hT⟩ := hv
  have hx := B.exec
  have hb := B.bytes
  have hr := B.returns
  have hts := atoms_spec (ws := wsL_seat) B.pre
  have htab := vx_table (x := yL_seat) B (hts (.codeWith yL_seat cL_seat 6 (some .int) [(0, 12, 15, 13), (0, 12, 19, 15), (0, 12, 23, 24)]) List.mem_cons_self)
  have hown : s.vm.findClass RL = some m.cls := findClass_of_methodNamed B.named
  have hlocks := B.notSynchronized
  have hS : va_S (fun q => z ≤ q) s.heap s.heap [] := va_S.rf
  have hl := lv_entry ([.ref (ad 5 0), .int x, .int y, .int b1, .ref (ad 18 0)]) (n := 6) (Nat.le_of_ble_eq_true rfl)
  rw [lg_entry_eq]
  generalize (lg_sl ([.ref (ad 5 0), .int x, .int y, .int b1, .ref (ad 18 0)]) ++ List.replicate (6 - (lg_sl ([.ref (ad 5 0), .int x, .int y, .int b1, .ref (ad 18 0)])).length) Slot.unset).toArray = ls at hl ⊢
  have hl : lv_has ls 6 [(0, .ref (ad 5 0)), (1, .int x), (2, .int y), (3, .int b1), (4, .ref (ad 18 0))] := hl
  refine lv_aload hx hb dL_seat_0 (lv_at hl 4 rfl) ?_
  refine lv_iconst (v := 0) hx hb dL_seat_2 (by decide) ?_
  refine lv_aload_n hx hb dL_seat_3 rfl (lv_at hl 0 rfl) ?_
  refine lv_iload_n hx hb dL_seat_4 rfl (lv_at hl 1 rfl) ?_
  refine lv_iload_n hx hb dL_seat_5 rfl (lv_at hl 2 rfl) ?_
  refine lv_iload_n hx hb dL_seat_6 rfl (lv_at hl 3 rfl) ?_
  refine vx_calli (vx_runV (As := [.int x, .int y, .int b1]) (rest := [.int 0, .ref (ad 18 0)]) ⟨hx, hb, hml, hown, hts⟩ (c_X5_seat l D cT z ad nc ng S P O hl0 x y b1 hst hng60 hnc hO2 hG hQ2) (cwV 3 hts gL_seat_X5_seat rfl rfl rfl (by decide +kernel) ⟨Nat.le_of_ble_eq_true rfl, Nat.le_of_ble_eq_true rfl⟩) (cf_preV (T := TX5) (N := 9) hT hS hW cf_e5 rfl) rfl rfl hl.1 rfl (lv_room (Nat.le_of_ble_eq_true rfl)) dL_seat_7 ⟨Nat.le_of_ble_eq_true rfl, Nat.le_of_ble_eq_true rfl⟩) hS (fun _ _ h => h) (fun _ h => h) (fun _ _ h => h) (fun E9 ce q9 u9 t9 H locs ht hvm hu hB hz1 hk1 hS hce hcv hcl => ?_) (fun r1 ur1 t9 H locs ht hvm hw hW hz1 hk1 hS => ?_)
  · obtain ⟨hp, hW⟩ := hB
    have hW := cf_W.er ht hW
    rcases hp with ⟨rfl, n0⟩ | ⟨rfl, n0, n1⟩ | ⟨rfl, n0, n1, n2⟩
    · refine vx_catch (E := cf_iob) (own := RL) (name := "java/lang/IndexOutOfBoundsException") hown [] ⟨0, 12, 15, 13⟩ [⟨0, 12, 19, 15⟩, ⟨0, 12, 23, 24⟩] htab (fun z9 hz => absurd hz List.not_mem_nil) rfl (by decide) (hts (.classLink RL 13 "java/lang/IndexOutOfBoundsException") (List.mem_of_getElem? (i := 1) rfl)) (va_Nw.use rfl (hT.2.2.1 (cf_iob, cf_iob) (List.mem_of_getElem? (i := 0) rfl))) hce hcv hcl ?_
      refine lv_astore (lv' := [(5, .ref q9), (0, .ref (ad 5 0)), (1, .int x), (2, .int y), (3, .int b1), (4, .ref (ad 18 0))]) hx hb dL_seat_15 hl (by decide) rfl (fun ls hl => ?_)
      refine lv_iconst (v := 1) hx hb dL_seat_17 (by decide) ?_
      refine vx_ret ?_
      refine W.widen (k := 4) (n := 22) (by omega) (by omega) ?_
      exact W.iret (v := 1) hx hb hr (fun t9 ht9 hw9 => ⟨⟨1, (nc, ng, S, P, O, ad), rfl, Or.inl ⟨rfl, n0, rfl⟩, cf_W.re ht9 hW⟩, hS.F ht9⟩) hS.2.2 dL_seat_18
    · refine vx_catch (E := cf_iae) (own := RL) (name := "java/lang/IllegalArgumentException") hown [⟨0, 12, 15, 13⟩] ⟨0, 12, 19, 15⟩ [⟨0, 12, 23, 24⟩] htab (fun z9 hz => by rw [List.mem_singleton.mp hz]; exact Or.inr ⟨by decide, "java/lang/IndexOutOfBoundsException", (hts (.classLink RL 13 "java/lang/IndexOutOfBoundsException") (List.mem_of_getElem? (i := 1) rfl)), (hT.2.2.2.2.1 (cf_iae, cf_iob) (List.mem_of_getElem? (i := 0) rfl))⟩) rfl (by decide) (hts (.classLink RL 15 "java/lang/IllegalArgumentException") (List.mem_of_getElem? (i := 2) rfl)) (va_Nw.use rfl (hT.2.2.1 (cf_iae, cf_iae) (List.mem_of_getElem? (i := 1) rfl))) hce hcv hcl ?_
      refine lv_astore (lv' := [(5, .ref q9), (0, .ref (ad 5 0)), (1, .int x), (2, .int y), (3, .int b1), (4, .ref (ad 18 0))]) hx hb dL_seat_19 hl (by decide) rfl (fun ls hl => ?_)
      refine lv_iconst (v := 2) hx hb dL_seat_21 (by decide) ?_
      refine vx_ret ?_
      refine W.widen (k := 4) (n := 22) (by omega) (by omega) ?_
      exact W.iret (v := 2) hx hb hr (fun t9 ht9 hw9 => ⟨⟨2, (nc, ng, S, P, O, ad), rfl, Or.inr (Or.inl ⟨rfl, n0, n1, rfl⟩), cf_W.re ht9 hW⟩, hS.F ht9⟩) hS.2.2 dL_seat_22
    · refine vx_catch (E := cf_ise) (own := RL) (name := "java/lang/IllegalStateException") hown [⟨0, 12, 15, 13⟩, ⟨0, 12, 19, 15⟩] ⟨0, 12, 23, 24⟩ [] htab (fun z9 hz => (List.mem_cons.mp hz).elim (fun e9 => by rw [e9]; exact Or.inr ⟨by decide, "java/lang/IndexOutOfBoundsException", (hts (.classLink RL 13 "java/lang/IndexOutOfBoundsException") (List.mem_of_getElem? (i := 1) rfl)), (hT.2.2.2.2.1 (cf_ise, cf_iob) (List.mem_of_getElem? (i := 1) rfl))⟩) (fun hz => by rw [List.mem_singleton.mp hz]; exact Or.inr ⟨by decide, "java/lang/IllegalArgumentException", (hts (.classLink RL 15 "java/lang/IllegalArgumentException") (List.mem_of_getElem? (i := 2) rfl)), (hT.2.2.2.2.1 (cf_ise, cf_iae) (List.mem_of_getElem? (i := 3) rfl))⟩)) rfl (by decide) (hts (.classLink RL 24 "java/lang/IllegalStateException") (List.mem_of_getElem? (i := 3) rfl)) (va_Nw.use rfl (hT.2.2.1 (cf_ise, cf_ise) (List.mem_of_getElem? (i := 2) rfl))) hce hcv hcl ?_
      refine lv_astore (lv' := [(5, .ref q9), (0, .ref (ad 5 0)), (1, .int x), (2, .int y), (3, .int b1), (4, .ref (ad 18 0))]) hx hb dL_seat_23 hl (by decide) rfl (fun ls hl => ?_)
      refine lv_iconst (v := 3) hx hb dL_seat_25 (by decide) ?_
      refine vx_ret ?_
      refine W.widen (k := 4) (n := 22) (by omega) (by omega) ?_
      exact W.iret (v := 3) hx hb hr (fun t9 ht9 hw9 => ⟨⟨3, (nc, ng, S, P, O, ad), rfl, Or.inr (Or.inr (Or.inl ⟨rfl, n0, n1, n2, rfl⟩)), cf_W.re ht9 hW⟩, hS.F ht9⟩) hS.2.2 dL_seat_26
  have hW := cf_W.er ht hW
  have hW : cf_W D z (cf_E cT nc (ng + 1) ur1.1 ur1.2.1 O ur1.2.2) ur1.2.2 H := hW
  refine lv_i2l (v := r1.toInt64) hx hb dL_seat_10 rfl ?_
  have hag : ur1.2.2 18 0 = ad 18 0 := by obtain ⟨gm, -, -, -, -, t, c9, -, -, -, -, h, -⟩ := hw; exact h 18 0 (by decide)
  rw [← hag]
  refine cf_last (k := 18) (i := 0) (ad := ur1.2.2) (f := O) (j := 0) hx hb hT.1 hW hS 2 cf_e18 rfl (show vp_in 0 1 from vp_in_nI (show (0 : Nat) < 1 by decide) (by decide)) dL_seat_11 (fun H locs hW hS => ?_)
  have hW := cf_W.eqv hW (cf_upO (x := r1.toInt64) (j := (0 : Int32).toNatClampNeg) rfl)
  refine lv_goto (tgt := 27) hx hb dL_seat_12 (by decide) ?_
  refine lv_iconst (v := 0) hx hb dL_seat_27 (by decide) ?_
  refine vx_ret ?_
  refine W.widen (k := 4) (n := 22) (by omega) (by omega) ?_
  exact W.iret (v := 0) hx hb hr (fun t9 ht9 hw9 => ⟨⟨0, (nc, (ng + 1), ur1.1, ur1.2.1, vp_updL O 0 r1.toInt64, ur1.2.2), rfl, Or.inr (Or.inr (Or.inr (⟨rfl, r1, ur1, hw, rfl⟩))), cf_W.re ht9 hW⟩, hS.F ht9⟩) hS.2.2 dL_seat_28
set_option maxHeartbeats 4000000 in
set_option maxRecDepth 100000 in
/-- L_grow -/
theorem c_L_grow (l : Launch) (D : va_G) (cT : Nat → ClassId) (z : Nat) (ad : cf_Ad) (nc ng : Nat) (S : cf_S) (P : cf_Pt) (O : Nat → Int64) (hl0 : l.stackTraces = false) (x a1 : Int32) (hG : ∀ j, j < nc → P 0 j 0 < 5) (hQ : ∀ j, j < 60 → P 15 0 j = 0 ∨ (P 15 0 j = j + 1 ∧ j < ng)) (hL : ∀ j, j < ng → P 2 j 0 < nc ∧ P 2 j 1 < 6) : vx_Met l yL_grow wsL_grow ({ frames := 8, cells := 4, slots := 24, locals := 129 }) (va_Pc [.ref (ad 5 0), .int x, .int a1, .ref (ad 18 0)] (cf_P D cT z (cf_E cT nc ng S P O ad) ad)) (cf_Qi D z (fun (r : Int32) (u : cf_St) => (r = 1 ∧ ¬ (cf_lv P x) ∧ u = (nc, ng, S, P, O, ad)) ∨ (r = 2 ∧ (cf_lv P x) ∧ ¬ (cf_rg a1 1 7) ∧ u = (nc, ng, S, P, O, ad)) ∨ (r = 3 ∧ (cf_lv P x) ∧ (cf_rg a1 1 7) ∧ ¬ (∀ gp : Nat, x = nI gp → gp < 60 → P 15 0 gp = gp + 1 → gp < ng → S 2 gp 1 + a1 ≤ S 1 (P 0 (P 2 gp 0) 0) 1 ∧ (S 2 gp 1 + a1 ≤ S 3 (P 2 gp 1) 0 ∨ ∃ t, cf_best (cf_okT S (S 2 gp 1 + a1)) (cf_ltT S) 6 = some t)) ∧ u = (nc, ng, S, P, O, ad)) ∨ (r = 0 ∧ ∃ v : Int32, ∃ T : cf_S × cf_Pt, (∃ gp t : Nat, gp < 60 ∧ x = nI gp ∧ P 15 0 gp = gp + 1 ∧ gp < ng ∧ (cf_rg a1 1 7) ∧ S 2 gp 1 + a1 ≤ S 1 (P 0 (P 2 gp 0) 0) 1 ∧ ((S 2 gp 1 + a1 ≤ S 3 (P 2 gp 1) 0 ∧ t = P 2 gp 1) ∨ (S 3 (P 2 gp 1) 0 < S 2 gp 1 + a1 ∧ cf_best (cf_okT S (S 2 gp 1 + a1)) (cf_ltT S) 6 = some t)) ∧ v = nI t ∧ T = (cf_s3 (cf_s3 (cf_s3 S 3 (P 2 gp 1) 1 (-1)) 3 t 1 x) 2 gp 1 (S 2 gp 1 + a1), cf_p3 P 2 gp 1 t)) ∧ u = (nc, ng, T.1, T.2, vp_updL O 0 v.toInt64, ad))) (cf_EW cT) cf_ADu) (cf_X D z (cf_E cT nc ng S P O ad) ad (fun _ => False)) 4 24 (fun q => z ≤ q) := by
  refine vx_ofWH (cc := cL_grow) (maxL := 5) (ret := (some .int)) (hh := [(0, 10, 13, 13), (0, 10, 17, 15), (0, 10, 21, 24)]) (by decide) rfl ?_
  intro p e s m args below meth c s₁ B hml hv
  obtain ⟨rfl, hW, hT⟩ := hv
  have hx := B.exec
  have hb := B.bytes
  have hr := B.returns
  have hts := atoms_spec (ws := wsL_grow) B.pre
  have htab := vx_table (x := yL_grow) B (hts (.codeWith yL_grow cL_grow 5 (some .int) [(0, 10, 13, 13), (0, 10, 17, 15), (0, 10, 21, 24)]) List.mem_cons_self)
  have hown : s.vm.findClass RL = some m.cls := findClass_of_methodNamed B.named
  have hlocks := B.notSynchronized
  have hS : va_S (fun q => z ≤ q) s.heap s.heap [] := va_S.rf
  have hl := lv_entry ([.ref (ad 5 0), .int x, .int a1, .ref (ad 18 0)]) (n := 5) (Nat.le_of_ble_eq_true rfl)
  rw [lg_entry_eq]
  generalize (lg_sl ([.ref (ad 5 0), .int x, .int a1, .ref (ad 18 0)]) ++ List.replicate (5 - (lg_sl ([.ref (ad 5 0), .int x, .int a1, .ref (ad 18 0)])).length) Slot.unset).toArray = ls at hl ⊢
  have hl : lv_has ls 5 [(0, .ref (ad 5 0)), (1, .int x), (2, .int a1), (3, .ref (ad 18 0))] := hl
  refine lv_aload_n hx hb dL_grow_0 rfl (lv_at hl 3 rfl) ?_
  refine lv_iconst (v := 0) hx hb dL_grow_1 (by decide) ?_
  refine lv_aload_n hx hb dL_grow_2 rfl (lv_at hl 0 rfl) ?_
  refine lv_iload_n hx hb dL_grow_3 rfl (lv_at hl 1 rfl) ?_
  refine lv_iload_n hx hb dL_grow_4 rfl (lv_at hl 2 rfl) ?_
  refine vx_calli (vx_runV (As := [.int x, .int a1]) (rest := [.int 0, .ref (ad 18 0)]) ⟨hx, hb, hml, hown, hts⟩ (c_X5_grow l D cT z ad nc ng S P O hl0 x a1 hG hQ hL) (cwV 2 hts gL_grow_X5_grow rfl rfl rfl (by decide +kernel) ⟨Nat.le_of_ble_eq_true rfl, Nat.le_of_ble_eq_true rfl⟩) (cf_preV (T := TX5) (N := 9) hT hS hW cf_e5 rfl) rfl rfl hl.1 rfl (lv_room (Nat.le_of_ble_eq_true rfl)) dL_grow_5 ⟨Nat.le_of_ble_eq_true rfl, Nat.le_of_ble_eq_true rfl⟩) hS (fun _ _ h => h) (fun _ h => h) (fun _ _ h => h) (fun E9 ce q9 u9 t9 H locs ht hvm hu hB hz1 hk1 hS hce hcv hcl => ?_) (fun r1 ur1 t9 H locs ht hvm hw hW hz1 hk1 hS => ?_)
  · obtain ⟨hp, hW⟩ := hB
    have hW := cf_W.er ht hW
    rcases hp with ⟨rfl, n0⟩ | ⟨rfl, n0, n1⟩ | ⟨rfl, n0, n1, n2⟩
    · refine vx_catch (E := cf_iob) (own := RL) (name := "java/lang/IndexOutOfBoundsException") hown [] ⟨0, 10, 13, 13⟩ [⟨0, 10, 17, 15⟩, ⟨0, 10, 21, 24⟩] htab (fun z9 hz => absurd hz List.not_mem_nil) rfl (by decide) (hts (.classLink RL 13 "java/lang/IndexOutOfBoundsException") (List.mem_of_getElem? (i := 1) rfl)) (va_Nw.use rfl (hT.2.2.1 (cf_iob, cf_iob) (List.mem_of_getElem? (i := 0) rfl))) hce hcv hcl ?_
      refine lv_astore (lv' := [(4, .ref q9), (0, .ref (ad 5 0)), (1, .int x), (2, .int a1), (3, .ref (ad 18 0))]) hx hb dL_grow_13 hl (by decide) rfl (fun ls hl => ?_)
      refine lv_iconst (v := 1) hx hb dL_grow_15 (by decide) ?_
      refine vx_ret ?_
      refine W.widen (k := 4) (n := 24) (by omega) (by omega) ?_
      exact W.iret (v := 1) hx hb hr (fun t9 ht9 hw9 => ⟨⟨1, (nc, ng, S, P, O, ad), rfl, Or.inl ⟨rfl, n0, rfl⟩, cf_W.re ht9 hW⟩, hS.F ht9⟩) hS.2.2 dL_grow_16
    · refine vx_catch (E := cf_iae) (own := RL) (name := "java/lang/IllegalArgumentException") hown [⟨0, 10, 13, 13⟩] ⟨0, 10, 17, 15⟩ [⟨0, 10, 21, 24⟩] htab (fun z9 hz => by rw [List.mem_singleton.mp hz]; exact Or.inr ⟨by decide, "java/lang/IndexOutOfBoundsException", (hts (.classLink RL 13 "java/lang/IndexOutOfBoundsException") (List.mem_of_getElem? (i := 1) rfl)), (hT.2.2.2.2.1 (cf_iae, cf_iob) (List.mem_of_getElem? (i := 0) rfl))⟩) rfl (by decide) (hts (.classLink RL 15 "java/lang/IllegalArgumentException") (List.mem_of_getElem? (i := 2) rfl)) (va_Nw.use rfl (hT.2.2.1 (cf_iae, cf_iae) (List.mem_of_getElem? (i := 1) rfl))) hce hcv hcl ?_
      refine lv_astore (lv' := [(4, .ref q9), (0, .ref (ad 5 0)), (1, .int x), (2, .int a1), (3, .ref (ad 18 0))]) hx hb dL_grow_17 hl (by decide) rfl (fun ls hl => ?_)
      refine lv_iconst (v := 2) hx hb dL_grow_19 (by decide) ?_
      refine vx_ret ?_
      refine W.widen (k := 4) (n := 24) (by omega) (by omega) ?_
      exact W.iret (v := 2) hx hb hr (fun t9 ht9 hw9 => ⟨⟨2, (nc, ng, S, P, O, ad), rfl, Or.inr (Or.inl ⟨rfl, n0, n1, rfl⟩), cf_W.re ht9 hW⟩, hS.F ht9⟩) hS.2.2 dL_grow_20
    · refine vx_catch (E := cf_ise) (own := RL) (name := "java/lang/IllegalStateException") hown [⟨0, 10, 13, 13⟩, ⟨0, 10, 17, 15⟩] ⟨0, 10, 21, 24⟩ [] htab (fun z9 hz => (List.mem_cons.mp hz).elim (fun e9 => by rw [e9]; exact Or.inr ⟨by decide, "java/lang/IndexOutOfBoundsException", (hts (.classLink RL 13 "java/lang/IndexOutOfBoundsException") (List.mem_of_getElem? (i := 1) rfl)), (hT.2.2.2.2.1 (cf_ise, cf_iob) (List.mem_of_getElem? (i := 1) rfl))⟩) (fun hz => by rw [List.mem_singleton.mp hz]; exact Or.inr ⟨by decide, "java/lang/IllegalArgumentException", (hts (.classLink RL 15 "java/lang/IllegalArgumentException") (List.mem_of_getElem? (i := 2) rfl)), (hT.2.2.2.2.1 (cf_ise, cf_iae) (List.mem_of_getElem? (i := 3) rfl))⟩)) rfl (by decide) (hts (.classLink RL 24 "java/lang/IllegalStateException") (List.mem_of_getElem? (i := 3) rfl)) (va_Nw.use rfl (hT.2.2.1 (cf_ise, cf_ise) (List.mem_of_getElem? (i := 2) rfl))) hce hcv hcl ?_
      refine lv_astore (lv' := [(4, .ref q9), (0, .ref (ad 5 0)), (1, .int x), (2, .int a1), (3, .ref (ad 18 0))]) hx hb dL_grow_21 hl (by decide) rfl (fun ls hl => ?_)
      refine lv_iconst (v := 3) hx hb dL_grow_23 (by decide) ?_
      refine vx_ret ?_
      refine W.widen (k := 4) (n := 24) (by omega) (by omega) ?_
      exact W.iret (v := 3) hx hb hr (fun t9 ht9 hw9 => ⟨⟨3, (nc, ng, S, P, O, ad), rfl, Or.inr (Or.inr (Or.inl ⟨rfl, n0, n1, n2, rfl⟩)), cf_W.re ht9 hW⟩, hS.F ht9⟩) hS.2.2 dL_grow_24
  have hW := cf_W.er ht hW
  have hW : cf_W D z (cf_E cT nc ng ur1.1 ur1.2 O ad) ad H := hW
  refine lv_i2l (v := r1.toInt64) hx hb dL_grow_8 rfl ?_
  refine cf_last (k := 18) (i := 0) (ad := ad) (f := O) (j := 0) hx hb hT.1 hW hS 2 cf_e18 rfl (show vp_in 0 1 from vp_in_nI (show (0 : Nat) < 1 by decide) (by decide)) dL_grow_9 (fun H locs hW hS => ?_)
  have hW := cf_W.eqv hW (cf_upO (x := r1.toInt64) (j := (0 : Int32).toNatClampNeg) rfl)
  refine lv_goto (tgt := 25) hx hb dL_grow_10 (by decide) ?_
  refine lv_iconst (v := 0) hx hb dL_grow_25 (by decide) ?_
  refine vx_ret ?_
  refine W.widen (k := 4) (n := 24) (by omega) (by omega) ?_
  exact W.iret (v := 0) hx hb hr (fun t9 ht9 hw9 => ⟨⟨0, (nc, ng, ur1.1, ur1.2, vp_updL O 0 r1.toInt64, ad), rfl, Or.inr (Or.inr (Or.inr (⟨rfl, r1, ur1, hw, rfl⟩))), cf_W.re ht9 hW⟩, hS.F ht9⟩) hS.2.2 dL_grow_26
set_option maxHeartbeats 4000000 in
set_option maxRecDepth 100000 in
/-- L_go -/
theorem c_L_go (l : Launch) (D : va_G) (cT : Nat → ClassId) (z : Nat) (ad : cf_Ad) (nc ng : Nat) (S : cf_S) (P : cf_Pt) (O : Nat → Int64) (hl0 : l.stackTraces = false) (x : Int32) (hG : ∀ j, j < nc → P 0 j 0 < 5) (hQ : ∀ j, j < 60 → P 15 0 j = 0 ∨ (P 15 0 j = j + 1 ∧ j < ng)) (hL : ∀ j, j < ng → P 2 j 0 < nc ∧ P 2 j 1 < 6) : vx_Met l yL_go wsL_go ({ frames := 8, cells := 1, slots := 6, locals := 125 }) (va_Pc [.ref (ad 5 0), .int x, .ref (ad 18 0)] (cf_P D cT z (cf_E cT nc ng S P O ad) ad)) (cf_Qi D z (fun (r : Int32) (u : cf_St) => (r = 1 ∧ ¬ (cf_lv P x) ∧ u = (nc, ng, S, P, O, ad)) ∨ (r = 0 ∧ ∃ v : Int32, ∃ T : cf_S × cf_Pt, (∃ gp : Nat, gp < 60 ∧ x = nI gp ∧ P 15 0 gp = gp + 1 ∧ gp < ng ∧ v = S 5 0 2 - S 2 gp 0 ∧ T = (cf_s3 (cf_s3 (cf_s3 S 3 (P 2 gp 1) 1 (-1)) 0 (P 2 gp 0) 0 0) 1 (P 0 (P 2 gp 0) 0) 3 (S 1 (P 0 (P 2 gp 0) 0) 3 + 1), cf_p3 P 15 0 gp 0)) ∧ u = (nc, ng, T.1, T.2, vp_updL O 0 v.toInt64, ad))) (cf_EW cT) cf_ADu) (cf_X D z (cf_E cT nc ng S P O ad) ad (fun _ => False)) 1 6 (fun q => z ≤ q) := by
  refine vx_ofWH (cc := cL_go) (maxL := 4) (ret := (some .int)) (hh := [(0, 9, 12, 13)]) (by decide) rfl ?_
  intro p e s m args below meth c s₁ B hml hv
  obtain ⟨rfl, hW, hT⟩ := hv
  have hx := B.exec
  have hb := B.bytes
  have hr := B.returns
  have hts := atoms_spec (ws := wsL_go) B.pre
  have htab := vx_table (x := yL_go) B (hts (.codeWith yL_go cL_go 4 (some .int) [(0, 9, 12, 13)]) List.mem_cons_self)
  have hown : s.vm.findClass RL = some m.cls := findClass_of_methodNamed B.named
  have hlocks := B.notSynchronized
  have hS : va_S (fun q => z ≤ q) s.heap s.heap [] := va_S.rf
  have hl := lv_entry ([.ref (ad 5 0), .int x, .ref (ad 18 0)]) (n := 4) (Nat.le_of_ble_eq_true rfl)
  rw [lg_entry_eq]
  generalize (lg_sl ([.ref (ad 5 0), .int x, .ref (ad 18 0)]) ++ List.replicate (4 - (lg_sl ([.ref (ad 5 0), .int x, .ref (ad 18 0)])).length) Slot.unset).toArray = ls at hl ⊢
  have hl : lv_has ls 4 [(0, .ref (ad 5 0)), (1, .int x), (2, .ref (ad 18 0))] := hl
  refine lv_aload_n hx hb dL_go_0 rfl (lv_at hl 2 rfl) ?_
  refine lv_iconst (v := 0) hx hb dL_go_1 (by decide) ?_
  refine lv_aload_n hx hb dL_go_2 rfl (lv_at hl 0 rfl) ?_
  refine lv_iload_n hx hb dL_go_3 rfl (lv_at hl 1 rfl) ?_
  refine vx_calli (vx_runV (As := [.int x]) (rest := [.int 0, .ref (ad 18 0)]) ⟨hx, hb, hml, hown, hts⟩ (c_X5_go l D cT z ad nc ng S P O hl0 x hG hQ hL) (cwV 1 hts gL_go_X5_go rfl rfl rfl (by decide +kernel) ⟨Nat.le_of_ble_eq_true rfl, Nat.le_of_ble_eq_true rfl⟩) (cf_preV (T := TX5) (N := 9) hT hS hW cf_e5 rfl) rfl rfl hl.1 rfl (lv_room (Nat.le_of_ble_eq_true rfl)) dL_go_4 ⟨Nat.le_of_ble_eq_true rfl, Nat.le_of_ble_eq_true rfl⟩) hS (fun _ _ h => h) (fun _ h => h) (fun _ _ h => h) (fun E9 ce q9 u9 t9 H locs ht hvm hu hB hz1 hk1 hS hce hcv hcl => ?_) (fun r1 ur1 t9 H locs ht hvm hw hW hz1 hk1 hS => ?_)
  · obtain ⟨hp, hW⟩ := hB
    have hW := cf_W.er ht hW
    obtain ⟨rfl, n0⟩ := hp
    refine vx_catch (E := cf_iob) (own := RL) (name := "java/lang/IndexOutOfBoundsException") hown [] ⟨0, 9, 12, 13⟩ [] htab (fun z9 hz => absurd hz List.not_mem_nil) rfl (by decide) (hts (.classLink RL 13 "java/lang/IndexOutOfBoundsException") (List.mem_of_getElem? (i := 1) rfl)) (va_Nw.use rfl (hT.2.2.1 (cf_iob, cf_iob) (List.mem_of_getElem? (i := 0) rfl))) hce hcv hcl ?_
    refine lv_astore_n (lv' := [(3, .ref q9), (0, .ref (ad 5 0)), (1, .int x), (2, .ref (ad 18 0))]) hx hb dL_go_12 rfl hl (by decide) rfl (fun ls hl => ?_)
    refine lv_iconst (v := 1) hx hb dL_go_13 (by decide) ?_
    refine vx_ret ?_
    refine W.widen (k := 1) (n := 6) (by omega) (by omega) ?_
    exact W.iret (v := 1) hx hb hr (fun t9 ht9 hw9 => ⟨⟨1, (nc, ng, S, P, O, ad), rfl, Or.inl ⟨rfl, n0, rfl⟩, cf_W.re ht9 hW⟩, hS.F ht9⟩) hS.2.2 dL_go_14
  have hW := cf_W.er ht hW
  have hW : cf_W D z (cf_E cT nc ng ur1.1 ur1.2 O ad) ad H := hW
  refine lv_i2l (v := r1.toInt64) hx hb dL_go_7 rfl ?_
  refine cf_last (k := 18) (i := 0) (ad := ad) (f := O) (j := 0) hx hb hT.1 hW hS 2 cf_e18 rfl (show vp_in 0 1 from vp_in_nI (show (0 : Nat) < 1 by decide) (by decide)) dL_go_8 (fun H locs hW hS => ?_)
  have hW := cf_W.eqv hW (cf_upO (x := r1.toInt64) (j := (0 : Int32).toNatClampNeg) rfl)
  refine lv_goto (tgt := 15) hx hb dL_go_9 (by decide) ?_
  refine lv_iconst (v := 0) hx hb dL_go_15 (by decide) ?_
  refine vx_ret ?_
  refine W.widen (k := 1) (n := 6) (by omega) (by omega) ?_
  exact W.iret (v := 0) hx hb hr (fun t9 ht9 hw9 => ⟨⟨0, (nc, ng, ur1.1, ur1.2, vp_updL O 0 r1.toInt64, ad), rfl, Or.inr (⟨rfl, r1, ur1, hw, rfl⟩), cf_W.re ht9 hW⟩, hS.F ht9⟩) hS.2.2 dL_go_16
set_option maxHeartbeats 4000000 in
set_option maxRecDepth 100000 in
/-- L_advance -/
theorem c_L_advance (l : Launch) (D : va_G) (cT : Nat → ClassId) (z : Nat) (ad : cf_Ad) (nc ng : Nat) (S : cf_S) (P : cf_Pt) (O : Nat → Int64) (hl0 : l.stackTraces = false) (x : Int32) : vx_Met l yL_advance wsL_advance ({ frames := 8, cells := 2, slots := 12, locals := 125 }) (va_Pc [.ref (ad 5 0), .int x, .ref (ad 18 0)] (cf_P D cT z (cf_E cT nc ng S P O ad) ad)) (cf_Qi D z (fun (r : Int32) (u : cf_St) => (r = 1 ∧ ¬ (cf_rg x 1 1000) ∧ u = (nc, ng, S, P, O, ad)) ∨ (r = 2 ∧ (cf_rg x 1 1000) ∧ ¬ (S 5 0 2 + x ≤ 100000) ∧ u = (nc, ng, S, P, O, ad)) ∨ (r = 0 ∧ ∃ v : Int32, ∃ T : cf_S, (cf_rg x 1 1000 ∧ (S 5 0 2 + x ≤ 100000) ∧ v = S 5 0 2 + x ∧ T = cf_s3 S 5 0 2 (S 5 0 2 + x)) ∧ u = (nc, ng, T, P, vp_updL O 0 v.toInt64, ad))) (cf_EW cT) cf_ADu) (cf_X D z (cf_E cT nc ng S P O ad) ad (fun _ => False)) 2 12 (fun q => z ≤ q) := by
  refine vx_ofWH (cc := cL_advance) (maxL := 4) (ret := (some .int)) (hh := [(0, 9, 12, 15), (0, 9, 15, 24)]) (by decide) rfl ?_
  intro p e s m args below meth c s₁ B hml hv
  obtain ⟨rfl, hW, hT⟩ := hv
  have hx := B.exec
  have hb := B.bytes
  have hr := B.returns
  have hts := atoms_spec (ws := wsL_advance) B.pre
  have htab := vx_table (x := yL_advance) B (hts (.codeWith yL_advance cL_advance 4 (some .int) [(0, 9, 12, 15), (0, 9, 15, 24)]) List.mem_cons_self)
  have hown : s.vm.findClass RL = some m.cls := findClass_of_methodNamed B.named
  have hlocks := B.notSynchronized
  have hS : va_S (fun q => z ≤ q) s.heap s.heap [] := va_S.rf
  have hl := lv_entry ([.ref (ad 5 0), .int x, .ref (ad 18 0)]) (n := 4) (Nat.le_of_ble_eq_true rfl)
  rw [lg_entry_eq]
  generalize (lg_sl ([.ref (ad 5 0), .int x, .ref (ad 18 0)]) ++ List.replicate (4 - (lg_sl ([.ref (ad 5 0), .int x, .ref (ad 18 0)])).length) Slot.unset).toArray = ls at hl ⊢
  have hl : lv_has ls 4 [(0, .ref (ad 5 0)), (1, .int x), (2, .ref (ad 18 0))] := hl
  refine lv_aload_n hx hb dL_advance_0 rfl (lv_at hl 2 rfl) ?_
  refine lv_iconst (v := 0) hx hb dL_advance_1 (by decide) ?_
  refine lv_aload_n hx hb dL_advance_2 rfl (lv_at hl 0 rfl) ?_
  refine lv_iload_n hx hb dL_advance_3 rfl (lv_at hl 1 rfl) ?_
  refine vx_calli (vx_runV (As := [.int x]) (rest := [.int 0, .ref (ad 18 0)]) ⟨hx, hb, hml, hown, hts⟩ (c_X5_advance l D cT z ad nc ng S P O hl0 x) (cwV 1 hts gL_advance_X5_advance rfl rfl rfl (by decide +kernel) ⟨Nat.le_of_ble_eq_true rfl, Nat.le_of_ble_eq_true rfl⟩) (cf_preV (T := TX5) (N := 9) hT hS hW cf_e5 rfl) rfl rfl hl.1 rfl (lv_room (Nat.le_of_ble_eq_true rfl)) dL_advance_4 ⟨Nat.le_of_ble_eq_true rfl, Nat.le_of_ble_eq_true rfl⟩) hS (fun _ _ h => h) (fun _ h => h) (fun _ _ h => h) (fun E9 ce q9 u9 t9 H locs ht hvm hu hB hz1 hk1 hS hce hcv hcl => ?_) (fun r1 ur1 t9 H locs ht hvm hw hW hz1 hk1 hS => ?_)
  · obtain ⟨hp, hW⟩ := hB
    have hW := cf_W.er ht hW
    rcases hp with ⟨rfl, n0⟩ | ⟨rfl, n0, n1⟩
    · refine vx_catch (E := cf_iae) (own := RL) (name := "java/lang/IllegalArgumentException") hown [] ⟨0, 9, 12, 15⟩ [⟨0, 9, 15, 24⟩] htab (fun z9 hz => absurd hz List.not_mem_nil) rfl (by decide) (hts (.classLink RL 15 "java/lang/IllegalArgumentException") (List.mem_of_getElem? (i := 1) rfl)) (va_Nw.use rfl (hT.2.2.1 (cf_iae, cf_iae) (List.mem_of_getElem? (i := 1) rfl))) hce hcv hcl ?_
      refine lv_astore_n (lv' := [(3, .ref q9), (0, .ref (ad 5 0)), (1, .int x), (2, .ref (ad 18 0))]) hx hb dL_advance_12 rfl hl (by decide) rfl (fun ls hl => ?_)
      refine lv_iconst (v := 1) hx hb dL_advance_13 (by decide) ?_
      refine vx_ret ?_
      refine W.widen (k := 2) (n := 12) (by omega) (by omega) ?_
      exact W.iret (v := 1) hx hb hr (fun t9 ht9 hw9 => ⟨⟨1, (nc, ng, S, P, O, ad), rfl, Or.inl ⟨rfl, n0, rfl⟩, cf_W.re ht9 hW⟩, hS.F ht9⟩) hS.2.2 dL_advance_14
    · refine vx_catch (E := cf_ise) (own := RL) (name := "java/lang/IllegalStateException") hown [⟨0, 9, 12, 15⟩] ⟨0, 9, 15, 24⟩ [] htab (fun z9 hz => by rw [List.mem_singleton.mp hz]; exact Or.inr ⟨by decide, "java/lang/IllegalArgumentException", (hts (.classLink RL 15 "java/lang/IllegalArgumentException") (List.mem_of_getElem? (i := 1) rfl)), (hT.2.2.2.2.1 (cf_ise, cf_iae) (List.mem_of_getElem? (i := 3) rfl))⟩) rfl (by decide) (hts (.classLink RL 24 "java/lang/IllegalStateException") (List.mem_of_getElem? (i := 2) rfl)) (va_Nw.use rfl (hT.2.2.1 (cf_ise, cf_ise) (List.mem_of_getElem? (i := 2) rfl))) hce hcv hcl ?_
      refine lv_astore_n (lv' := [(3, .ref q9), (0, .ref (ad 5 0)), (1, .int x), (2, .ref (ad 18 0))]) hx hb dL_advance_15 rfl hl (by decide) rfl (fun ls hl => ?_)
      refine lv_iconst (v := 2) hx hb dL_advance_16 (by decide) ?_
      refine vx_ret ?_
      refine W.widen (k := 2) (n := 12) (by omega) (by omega) ?_
      exact W.iret (v := 2) hx hb hr (fun t9 ht9 hw9 => ⟨⟨2, (nc, ng, S, P, O, ad), rfl, Or.inr (Or.inl ⟨rfl, n0, n1, rfl⟩), cf_W.re ht9 hW⟩, hS.F ht9⟩) hS.2.2 dL_advance_17
  have hW := cf_W.er ht hW
  have hW : cf_W D z (cf_E cT nc ng ur1 P O ad) ad H := hW
  refine lv_i2l (v := r1.toInt64) hx hb dL_advance_7 rfl ?_
  refine cf_last (k := 18) (i := 0) (ad := ad) (f := O) (j := 0) hx hb hT.1 hW hS 2 cf_e18 rfl (show vp_in 0 1 from vp_in_nI (show (0 : Nat) < 1 by decide) (by decide)) dL_advance_8 (fun H locs hW hS => ?_)
  have hW := cf_W.eqv hW (cf_upO (x := r1.toInt64) (j := (0 : Int32).toNatClampNeg) rfl)
  refine lv_goto (tgt := 18) hx hb dL_advance_9 (by decide) ?_
  refine lv_iconst (v := 0) hx hb dL_advance_18 (by decide) ?_
  refine vx_ret ?_
  refine W.widen (k := 2) (n := 12) (by omega) (by omega) ?_
  exact W.iret (v := 0) hx hb hr (fun t9 ht9 hw9 => ⟨⟨0, (nc, ng, ur1, P, vp_updL O 0 r1.toInt64, ad), rfl, Or.inr (Or.inr (⟨rfl, r1, ur1, hw, rfl⟩)), cf_W.re ht9 hW⟩, hS.F ht9⟩) hS.2.2 dL_advance_19
set_option maxHeartbeats 4000000 in
set_option maxRecDepth 100000 in
/-- L_lend -/
theorem c_L_lend (l : Launch) (D : va_G) (cT : Nat → ClassId) (z : Nat) (ad : cf_Ad) (nc ng : Nat) (S : cf_S) (P : cf_Pt) (O : Nat → Int64) (hl0 : l.stackTraces = false) (x y : Int32) (hnc : nc ≤ 15) (hO : ∀ j, j < 15 → P 14 0 j = if j < nc then j + 1 else 0) : vx_Met l yL_lend wsL_lend ({ frames := 8, cells := 3, slots := 18, locals := 126 }) (va_Pc [.ref (ad 5 0), .int x, .int y, .ref (ad 18 0)] (cf_P D cT z (cf_E cT nc ng S P O ad) ad)) (cf_Qi D z (fun (r : Int32) (u : cf_St) => (r = 1 ∧ ¬ (cf_ix x nc ∧ cf_ix y 6) ∧ u = (nc, ng, S, P, O, ad)) ∨ (r = 2 ∧ (cf_ix x nc ∧ cf_ix y 6) ∧ ¬ (∀ cp b : Nat, x = nI cp → cp < nc → y = nI b → b < 6 → S 0 cp 0 = 0 ∧ P 16 0 b = 0) ∧ u = (nc, ng, S, P, O, ad)) ∨ (r = 0 ∧ ∃ v : Int32, ∃ T : cf_S × cf_Pt, (∃ cp b : Nat, cp < nc ∧ x = nI cp ∧ b < 6 ∧ y = nI b ∧ S 0 cp 0 = 0 ∧ P 16 0 b = 0 ∧ v = cf_worth (S 7 cp) ∧ T = (cf_s3 S 0 cp 0 2, cf_p3 P 16 0 b (cp + 1))) ∧ u = (nc, ng, T.1, T.2, vp_updL O 0 v.toInt64, ad))) (cf_EW cT) cf_ADu) (cf_X D z (cf_E cT nc ng S P O ad) ad (fun _ => False)) 3 18 (fun q => z ≤ q) := by
  refine vx_ofWH (cc := cL_lend) (maxL := 5) (ret := (some .int)) (hh := [(0, 10, 13, 13), (0, 10, 17, 24)]) (by decide) rfl ?_
  intro p e s m args below meth c s₁ B hml hv
  obtain ⟨rfl, hW, hT⟩ := hv
  have hx := B.exec
  have hb := B.bytes
  have hr := B.returns
  have hts := atoms_spec (ws := wsL_lend) B.pre
  have htab := vx_table (x := yL_lend) B (hts (.codeWith yL_lend cL_lend 5 (some .int) [(0, 10, 13, 13), (0, 10, 17, 24)]) List.mem_cons_self)
  have hown : s.vm.findClass RL = some m.cls := findClass_of_methodNamed B.named
  have hlocks := B.notSynchronized
  have hS : va_S (fun q => z ≤ q) s.heap s.heap [] := va_S.rf
  have hl := lv_entry ([.ref (ad 5 0), .int x, .int y, .ref (ad 18 0)]) (n := 5) (Nat.le_of_ble_eq_true rfl)
  rw [lg_entry_eq]
  generalize (lg_sl ([.ref (ad 5 0), .int x, .int y, .ref (ad 18 0)]) ++ List.replicate (5 - (lg_sl ([.ref (ad 5 0), .int x, .int y, .ref (ad 18 0)])).length) Slot.unset).toArray = ls at hl ⊢
  have hl : lv_has ls 5 [(0, .ref (ad 5 0)), (1, .int x), (2, .int y), (3, .ref (ad 18 0))] := hl
  refine lv_aload_n hx hb dL_lend_0 rfl (lv_at hl 3 rfl) ?_
  refine lv_iconst (v := 0) hx hb dL_lend_1 (by decide) ?_
  refine lv_aload_n hx hb dL_lend_2 rfl (lv_at hl 0 rfl) ?_
  refine lv_iload_n hx hb dL_lend_3 rfl (lv_at hl 1 rfl) ?_
  refine lv_iload_n hx hb dL_lend_4 rfl (lv_at hl 2 rfl) ?_
  refine vx_calli (vx_runV (As := [.int x, .int y]) (rest := [.int 0, .ref (ad 18 0)]) ⟨hx, hb, hml, hown, hts⟩ (c_X5_lend l D cT z ad nc ng S P O hl0 x y hnc hO) (cwV 2 hts gL_lend_X5_lend rfl rfl rfl (by decide +kernel) ⟨Nat.le_of_ble_eq_true rfl, Nat.le_of_ble_eq_true rfl⟩) (cf_preV (T := TX5) (N := 9) hT hS hW cf_e5 rfl) rfl rfl hl.1 rfl (lv_room (Nat.le_of_ble_eq_true rfl)) dL_lend_5 ⟨Nat.le_of_ble_eq_true rfl, Nat.le_of_ble_eq_true rfl⟩) hS (fun _ _ h => h) (fun _ h => h) (fun _ _ h => h) (fun E9 ce q9 u9 t9 H locs ht hvm hu hB hz1 hk1 hS hce hcv hcl => ?_) (fun r1 ur1 t9 H locs ht hvm hw hW hz1 hk1 hS => ?_)
  · obtain ⟨hp, hW⟩ := hB
    have hW := cf_W.er ht hW
    rcases hp with ⟨rfl, n0⟩ | ⟨rfl, n0, n1⟩
    · refine vx_catch (E := cf_iob) (own := RL) (name := "java/lang/IndexOutOfBoundsException") hown [] ⟨0, 10, 13, 13⟩ [⟨0, 10, 17, 24⟩] htab (fun z9 hz => absurd hz List.not_mem_nil) rfl (by decide) (hts (.classLink RL 13 "java/lang/IndexOutOfBoundsException") (List.mem_of_getElem? (i := 1) rfl)) (va_Nw.use rfl (hT.2.2.1 (cf_iob, cf_iob) (List.mem_of_getElem? (i := 0) rfl))) hce hcv hcl ?_
      refine lv_astore (lv' := [(4, .ref q9), (0, .ref (ad 5 0)), (1, .int x), (2, .int y), (3, .ref (ad 18 0))]) hx hb dL_lend_13 hl (by decide) rfl (fun ls hl => ?_)
      refine lv_iconst (v := 1) hx hb dL_lend_15 (by decide) ?_
      refine vx_ret ?_
      refine W.widen (k := 3) (n := 18) (by omega) (by omega) ?_
      exact W.iret (v := 1) hx hb hr (fun t9 ht9 hw9 => ⟨⟨1, (nc, ng, S, P, O, ad), rfl, Or.inl ⟨rfl, n0, rfl⟩, cf_W.re ht9 hW⟩, hS.F ht9⟩) hS.2.2 dL_lend_16
    · refine vx_catch (E := cf_ise) (own := RL) (name := "java/lang/IllegalStateException") hown [⟨0, 10, 13, 13⟩] ⟨0, 10, 17, 24⟩ [] htab (fun z9 hz => by rw [List.mem_singleton.mp hz]; exact Or.inr ⟨by decide, "java/lang/IndexOutOfBoundsException", (hts (.classLink RL 13 "java/lang/IndexOutOfBoundsException") (List.mem_of_getElem? (i := 1) rfl)), (hT.2.2.2.2.1 (cf_ise, cf_iob) (List.mem_of_getElem? (i := 1) rfl))⟩) rfl (by decide) (hts (.classLink RL 24 "java/lang/IllegalStateException") (List.mem_of_getElem? (i := 2) rfl)) (va_Nw.use rfl (hT.2.2.1 (cf_ise, cf_ise) (List.mem_of_getElem? (i := 2) rfl))) hce hcv hcl ?_
      refine lv_astore (lv' := [(4, .ref q9), (0, .ref (ad 5 0)), (1, .int x), (2, .int y), (3, .ref (ad 18 0))]) hx hb dL_lend_17 hl (by decide) rfl (fun ls hl => ?_)
      refine lv_iconst (v := 2) hx hb dL_lend_19 (by decide) ?_
      refine vx_ret ?_
      refine W.widen (k := 3) (n := 18) (by omega) (by omega) ?_
      exact W.iret (v := 2) hx hb hr (fun t9 ht9 hw9 => ⟨⟨2, (nc, ng, S, P, O, ad), rfl, Or.inr (Or.inl ⟨rfl, n0, n1, rfl⟩), cf_W.re ht9 hW⟩, hS.F ht9⟩) hS.2.2 dL_lend_20
  have hW := cf_W.er ht hW
  have hW : cf_W D z (cf_E cT nc ng ur1.1 ur1.2 O ad) ad H := hW
  refine lv_i2l (v := r1.toInt64) hx hb dL_lend_8 rfl ?_
  refine cf_last (k := 18) (i := 0) (ad := ad) (f := O) (j := 0) hx hb hT.1 hW hS 2 cf_e18 rfl (show vp_in 0 1 from vp_in_nI (show (0 : Nat) < 1 by decide) (by decide)) dL_lend_9 (fun H locs hW hS => ?_)
  have hW := cf_W.eqv hW (cf_upO (x := r1.toInt64) (j := (0 : Int32).toNatClampNeg) rfl)
  refine lv_goto (tgt := 21) hx hb dL_lend_10 (by decide) ?_
  refine lv_iconst (v := 0) hx hb dL_lend_21 (by decide) ?_
  refine vx_ret ?_
  refine W.widen (k := 3) (n := 18) (by omega) (by omega) ?_
  exact W.iret (v := 0) hx hb hr (fun t9 ht9 hw9 => ⟨⟨0, (nc, ng, ur1.1, ur1.2, vp_updL O 0 r1.toInt64, ad), rfl, Or.inr (Or.inr (⟨rfl, r1, ur1, hw, rfl⟩)), cf_W.re ht9 hW⟩, hS.F ht9⟩) hS.2.2 dL_lend_22
set_option maxHeartbeats 4000000 in
set_option maxRecDepth 100000 in
/-- L_giveBack -/
theorem c_L_giveBack (l : Launch) (D : va_G) (cT : Nat → ClassId) (z : Nat) (ad : cf_Ad) (nc ng : Nat) (S : cf_S) (P : cf_Pt) (O : Nat → Int64) (hl0 : l.stackTraces = false) (x y a1 : Int32) (hB : ∀ j, j < 6 → P 16 0 j ≤ nc) : vx_Met l yL_giveBack wsL_giveBack ({ frames := 8, cells := 4, slots := 24, locals := 129 }) (va_Pc [.ref (ad 5 0), .int x, .int y, .int a1, .ref (ad 18 0)] (cf_P D cT z (cf_E cT nc ng S P O ad) ad)) (cf_Qi D z (fun (r : Int32) (u : cf_St) => (r = 1 ∧ ¬ (cf_ix x 6 ∧ cf_ix y 4) ∧ u = (nc, ng, S, P, O, ad)) ∨ (r = 2 ∧ (cf_ix x 6 ∧ cf_ix y 4) ∧ ¬ (cf_rg a1 0 20) ∧ u = (nc, ng, S, P, O, ad)) ∨ (r = 3 ∧ (cf_ix x 6 ∧ cf_ix y 4) ∧ (cf_rg a1 0 20) ∧ ¬ (∀ b k : Nat, x = nI b → b < 6 → y = nI k → k < 4 → P 16 0 b ≠ 0 ∧ a1 ≤ S 7 (P 16 0 b - 1) k) ∧ u = (nc, ng, S, P, O, ad)) ∨ (r = 0 ∧ ∃ v : Int32, ∃ T : cf_S × cf_Pt, (∃ cp b k : Nat, cp < nc ∧ P 16 0 b = cp + 1 ∧ b < 6 ∧ x = nI b ∧ k < 4 ∧ y = nI k ∧ (cf_rg a1 0 20) ∧ a1 ≤ S 7 cp k ∧ v = cf_worth (S 7 cp) - a1 * (100 * (y + 1)) ∧ T = (cf_s3 (cf_s3 S 7 cp k (S 7 cp k - a1)) 0 cp 0 0, cf_p3 P 16 0 b 0)) ∧ u = (nc, ng, T.1, T.2, vp_updL O 0 v.toInt64, ad))) (cf_EW cT) cf_ADu) (cf_X D z (cf_E cT nc ng S P O ad) ad (fun _ => False)) 4 24 (fun q => z ≤ q) := by
  refine vx_ofWH (cc := cL_giveBack) (maxL := 6) (ret := (some .int)) (hh := [(0, 12, 15, 13), (0, 12, 19, 15), (0, 12, 23, 24)]) (by decide) rfl ?_
  intro p e s m args below meth c s₁ B hml hv
  obtain ⟨rfl, hW, hT⟩ := hv
  have hx := B.exec
  have hb := B.bytes
  have hr := B.returns
  have hts := atoms_spec (ws := wsL_giveBack) B.pre
  have htab := vx_table (x := yL_giveBack) B (hts (.codeWith yL_giveBack cL_giveBack 6 (some .int) [(0, 12, 15, 13), (0, 12, 19, 15), (0, 12, 23, 24)]) List.mem_cons_self)
  have hown : s.vm.findClass RL = some m.cls := findClass_of_methodNamed B.named
  have hlocks := B.notSynchronized
  have hS : va_S (fun q => z ≤ q) s.heap s.heap [] := va_S.rf
  have hl := lv_entry ([.ref (ad 5 0), .int x, .int y, .int a1, .ref (ad 18 0)]) (n := 6) (Nat.le_of_ble_eq_true rfl)
  rw [lg_entry_eq]
  generalize (lg_sl ([.ref (ad 5 0), .int x, .int y, .int a1, .ref (ad 18 0)]) ++ List.replicate (6 - (lg_sl ([.ref (ad 5 0), .int x, .int y, .int a1, .ref (ad 18 0)])).length) Slot.unset).toArray = ls at hl ⊢
  have hl : lv_has ls 6 [(0, .ref (ad 5 0)), (1, .int x), (2, .int y), (3, .int a1), (4, .ref (ad 18 0))] := hl
  refine lv_aload hx hb dL_giveBack_0 (lv_at hl 4 rfl) ?_
  refine lv_iconst (v := 0) hx hb dL_giveBack_2 (by decide) ?_
  refine lv_aload_n hx hb dL_giveBack_3 rfl (lv_at hl 0 rfl) ?_
  refine lv_iload_n hx hb dL_giveBack_4 rfl (lv_at hl 1 rfl) ?_
  refine lv_iload_n hx hb dL_giveBack_5 rfl (lv_at hl 2 rfl) ?_
  refine lv_iload_n hx hb dL_giveBack_6 rfl (lv_at hl 3 rfl) ?_
  refine vx_calli (vx_runV (As := [.int x, .int y, .int a1]) (rest := [.int 0, .ref (ad 18 0)]) ⟨hx, hb, hml, hown, hts⟩ (c_X5_giveBack l D cT z ad nc ng S P O hl0 x y a1 hB) (cwV 3 hts gL_giveBack_X5_giveBack rfl rfl rfl (by decide +kernel) ⟨Nat.le_of_ble_eq_true rfl, Nat.le_of_ble_eq_true rfl⟩) (cf_preV (T := TX5) (N := 9) hT hS hW cf_e5 rfl) rfl rfl hl.1 rfl (lv_room (Nat.le_of_ble_eq_true rfl)) dL_giveBack_7 ⟨Nat.le_of_ble_eq_true rfl, Nat.le_of_ble_eq_true rfl⟩) hS (fun _ _ h => h) (fun _ h => h) (fun _ _ h => h) (fun E9 ce q9 u9 t9 H locs ht hvm hu hB hz1 hk1 hS hce hcv hcl => ?_) (fun r1 ur1 t9 H locs ht hvm hw hW hz1 hk1 hS => ?_)
  · obtain ⟨hp, hW⟩ := hB
    have hW := cf_W.er ht hW
    rcases hp with ⟨rfl, n0⟩ | ⟨rfl, n0, n1⟩ | ⟨rfl, n0, n1, n2⟩
    · refine vx_catch (E := cf_iob) (own := RL) (name := "java/lang/IndexOutOfBoundsException") hown [] ⟨0, 12, 15, 13⟩ [⟨0, 12, 19, 15⟩, ⟨0, 12, 23, 24⟩] htab (fun z9 hz => absurd hz List.not_mem_nil) rfl (by decide) (hts (.classLink RL 13 "java/lang/IndexOutOfBoundsException") (List.mem_of_getElem? (i := 1) rfl)) (va_Nw.use rfl (hT.2.2.1 (cf_iob, cf_iob) (List.mem_of_getElem? (i := 0) rfl))) hce hcv hcl ?_
      refine lv_astore (lv' := [(5, .ref q9), (0, .ref (ad 5 0)), (1, .int x), (2, .int y), (3, .int a1), (4, .ref (ad 18 0))]) hx hb dL_giveBack_15 hl (by decide) rfl (fun ls hl => ?_)
      refine lv_iconst (v := 1) hx hb dL_giveBack_17 (by decide) ?_
      refine vx_ret ?_
      refine W.widen (k := 4) (n := 24) (by omega) (by omega) ?_
      exact W.iret (v := 1) hx hb hr (fun t9 ht9 hw9 => ⟨⟨1, (nc, ng, S, P, O, ad), rfl, Or.inl ⟨rfl, n0, rfl⟩, cf_W.re ht9 hW⟩, hS.F ht9⟩) hS.2.2 dL_giveBack_18
    · refine vx_catch (E := cf_iae) (own := RL) (name := "java/lang/IllegalArgumentException") hown [⟨0, 12, 15, 13⟩] ⟨0, 12, 19, 15⟩ [⟨0, 12, 23, 24⟩] htab (fun z9 hz => by rw [List.mem_singleton.mp hz]; exact Or.inr ⟨by decide, "java/lang/IndexOutOfBoundsException", (hts (.classLink RL 13 "java/lang/IndexOutOfBoundsException") (List.mem_of_getElem? (i := 1) rfl)), (hT.2.2.2.2.1 (cf_iae, cf_iob) (List.mem_of_getElem? (i := 0) rfl))⟩) rfl (by decide) (hts (.classLink RL 15 "java/lang/IllegalArgumentException") (List.mem_of_getElem? (i := 2) rfl)) (va_Nw.use rfl (hT.2.2.1 (cf_iae, cf_iae) (List.mem_of_getElem? (i := 1) rfl))) hce hcv hcl ?_
      refine lv_astore (lv' := [(5, .ref q9), (0, .ref (ad 5 0)), (1, .int x), (2, .int y), (3, .int a1), (4, .ref (ad 18 0))]) hx hb dL_giveBack_19 hl (by decide) rfl (fun ls hl => ?_)
      refine lv_iconst (v := 2) hx hb dL_giveBack_21 (by decide) ?_
      refine vx_ret ?_
      refine W.widen (k := 4) (n := 24) (by omega) (by omega) ?_
      exact W.iret (v := 2) hx hb hr (fun t9 ht9 hw9 => ⟨⟨2, (nc, ng, S, P, O, ad), rfl, Or.inr (Or.inl ⟨rfl, n0, n1, rfl⟩), cf_W.re ht9 hW⟩, hS.F ht9⟩) hS.2.2 dL_giveBack_22
    · refine vx_catch (E := cf_ise) (own := RL) (name := "java/lang/IllegalStateException") hown [⟨0, 12, 15, 13⟩, ⟨0, 12, 19, 15⟩] ⟨0, 12, 23, 24⟩ [] htab (fun z9 hz => (List.mem_cons.mp hz).elim (fun e9 => by rw [e9]; exact Or.inr ⟨by decide, "java/lang/IndexOutOfBoundsException", (hts (.classLink RL 13 "java/lang/IndexOutOfBoundsException") (List.mem_of_getElem? (i := 1) rfl)), (hT.2.2.2.2.1 (cf_ise, cf_iob) (List.mem_of_getElem? (i := 1) rfl))⟩) (fun hz => by rw [List.mem_singleton.mp hz]; exact Or.inr ⟨by decide, "java/lang/IllegalArgumentException", (hts (.classLink RL 15 "java/lang/IllegalArgumentException") (List.mem_of_getElem? (i := 2) rfl)), (hT.2.2.2.2.1 (cf_ise, cf_iae) (List.mem_of_getElem? (i := 3) rfl))⟩)) rfl (by decide) (hts (.classLink RL 24 "java/lang/IllegalStateException") (List.mem_of_getElem? (i := 3) rfl)) (va_Nw.use rfl (hT.2.2.1 (cf_ise, cf_ise) (List.mem_of_getElem? (i := 2) rfl))) hce hcv hcl ?_
      refine lv_astore (lv' := [(5, .ref q9), (0, .ref (ad 5 0)), (1, .int x), (2, .int y), (3, .int a1), (4, .ref (ad 18 0))]) hx hb dL_giveBack_23 hl (by decide) rfl (fun ls hl => ?_)
      refine lv_iconst (v := 3) hx hb dL_giveBack_25 (by decide) ?_
      refine vx_ret ?_
      refine W.widen (k := 4) (n := 24) (by omega) (by omega) ?_
      exact W.iret (v := 3) hx hb hr (fun t9 ht9 hw9 => ⟨⟨3, (nc, ng, S, P, O, ad), rfl, Or.inr (Or.inr (Or.inl ⟨rfl, n0, n1, n2, rfl⟩)), cf_W.re ht9 hW⟩, hS.F ht9⟩) hS.2.2 dL_giveBack_26
  have hW := cf_W.er ht hW
  have hW : cf_W D z (cf_E cT nc ng ur1.1 ur1.2 O ad) ad H := hW
  refine lv_i2l (v := r1.toInt64) hx hb dL_giveBack_10 rfl ?_
  refine cf_last (k := 18) (i := 0) (ad := ad) (f := O) (j := 0) hx hb hT.1 hW hS 2 cf_e18 rfl (show vp_in 0 1 from vp_in_nI (show (0 : Nat) < 1 by decide) (by decide)) dL_giveBack_11 (fun H locs hW hS => ?_)
  have hW := cf_W.eqv hW (cf_upO (x := r1.toInt64) (j := (0 : Int32).toNatClampNeg) rfl)
  refine lv_goto (tgt := 27) hx hb dL_giveBack_12 (by decide) ?_
  refine lv_iconst (v := 0) hx hb dL_giveBack_27 (by decide) ?_
  refine vx_ret ?_
  refine W.widen (k := 4) (n := 24) (by omega) (by omega) ?_
  exact W.iret (v := 0) hx hb hr (fun t9 ht9 hw9 => ⟨⟨0, (nc, ng, ur1.1, ur1.2, vp_updL O 0 r1.toInt64, ad), rfl, Or.inr (Or.inr (Or.inr (⟨rfl, r1, ur1, hw, rfl⟩))), cf_W.re ht9 hW⟩, hS.F ht9⟩) hS.2.2 dL_giveBack_28
set_option maxHeartbeats 4000000 in
set_option maxRecDepth 100000 in
/-- L_parts -/
theorem c_L_parts (l : Launch) (D : va_G) (cT : Nat → ClassId) (z : Nat) (ad : cf_Ad) (nc ng : Nat) (S : cf_S) (P : cf_Pt) (O : Nat → Int64) (hl0 : l.stackTraces = false) (x y : Int32) (hnc : nc ≤ 15) (hO : ∀ j, j < 15 → P 14 0 j = if j < nc then j + 1 else 0) : vx_Met l yL_parts wsL_parts ({ frames := 8, cells := 2, slots := 12, locals := 126 }) (va_Pc [.ref (ad 5 0), .int x, .int y, .ref (ad 18 0)] (cf_P D cT z (cf_E cT nc ng S P O ad) ad)) (cf_Qi D z (fun (r : Int32) (u : cf_St) => (r = 1 ∧ ¬ (cf_ix x nc ∧ cf_ix y 4) ∧ u = (nc, ng, S, P, O, ad)) ∨ (r = 0 ∧ ∃ v : Int32, (∃ cp k : Nat, cp < nc ∧ x = nI cp ∧ k < 4 ∧ y = nI k ∧ v = S 7 cp k) ∧ u = (nc, ng, S, P, vp_updL O 0 v.toInt64, ad))) (cf_EW cT) cf_ADu) (cf_X D z (cf_E cT nc ng S P O ad) ad (fun _ => False)) 2 12 (fun q => z ≤ q) := by
  refine vx_ofWH (cc := cL_parts) (maxL := 5) (ret := (some .int)) (hh := [(0, 10, 13, 13)]) (by decide) rfl ?_
  intro p e s m args below meth c s₁ B hml hv
  obtain ⟨rfl, hW, hT⟩ := hv
  have hx := B.exec
  have hb := B.bytes
  have hr := B.returns
  have hts := atoms_spec (ws := wsL_parts) B.pre
  have htab := vx_table (x := yL_parts) B (hts (.codeWith yL_parts cL_parts 5 (some .int) [(0, 10, 13, 13)]) List.mem_cons_self)
  have hown : s.vm.findClass RL = some m.cls := findClass_of_methodNamed B.named
  have hlocks := B.notSynchronized
  have hS : va_S (fun q => z ≤ q) s.heap s.heap [] := va_S.rf
  have hl := lv_entry ([.ref (ad 5 0), .int x, .int y, .ref (ad 18 0)]) (n := 5) (Nat.le_of_ble_eq_true rfl)
  rw [lg_entry_eq]
  generalize (lg_sl ([.ref (ad 5 0), .int x, .int y, .ref (ad 18 0)]) ++ List.replicate (5 - (lg_sl ([.ref (ad 5 0), .int x, .int y, .ref (ad 18 0)])).length) Slot.unset).toArray = ls at hl ⊢
  have hl : lv_has ls 5 [(0, .ref (ad 5 0)), (1, .int x), (2, .int y), (3, .ref (ad 18 0))] := hl
  refine lv_aload_n hx hb dL_parts_0 rfl (lv_at hl 3 rfl) ?_
  refine lv_iconst (v := 0) hx hb dL_parts_1 (by decide) ?_
  refine lv_aload_n hx hb dL_parts_2 rfl (lv_at hl 0 rfl) ?_
  refine lv_iload_n hx hb dL_parts_3 rfl (lv_at hl 1 rfl) ?_
  refine lv_iload_n hx hb dL_parts_4 rfl (lv_at hl 2 rfl) ?_
  refine vx_calli (vx_runV (As := [.int x, .int y]) (rest := [.int 0, .ref (ad 18 0)]) ⟨hx, hb, hml, hown, hts⟩ (c_X5_parts l D cT z ad nc ng S P O hl0 x y hnc hO) (cwV 2 hts gL_parts_X5_parts rfl rfl rfl (by decide +kernel) ⟨Nat.le_of_ble_eq_true rfl, Nat.le_of_ble_eq_true rfl⟩) (cf_preV (T := TX5) (N := 9) hT hS hW cf_e5 rfl) rfl rfl hl.1 rfl (lv_room (Nat.le_of_ble_eq_true rfl)) dL_parts_5 ⟨Nat.le_of_ble_eq_true rfl, Nat.le_of_ble_eq_true rfl⟩) hS (fun _ _ h => h) (fun _ h => h) (fun _ _ h => h) (fun E9 ce q9 u9 t9 H locs ht hvm hu hB hz1 hk1 hS hce hcv hcl => ?_) (fun r1 ur1 t9 H locs ht hvm hw hW hz1 hk1 hS => ?_)
  · obtain ⟨hp, hW⟩ := hB
    have hW := cf_W.er ht hW
    obtain ⟨rfl, n0⟩ := hp
    refine vx_catch (E := cf_iob) (own := RL) (name := "java/lang/IndexOutOfBoundsException") hown [] ⟨0, 10, 13, 13⟩ [] htab (fun z9 hz => absurd hz List.not_mem_nil) rfl (by decide) (hts (.classLink RL 13 "java/lang/IndexOutOfBoundsException") (List.mem_of_getElem? (i := 1) rfl)) (va_Nw.use rfl (hT.2.2.1 (cf_iob, cf_iob) (List.mem_of_getElem? (i := 0) rfl))) hce hcv hcl ?_
    refine lv_astore (lv' := [(4, .ref q9), (0, .ref (ad 5 0)), (1, .int x), (2, .int y), (3, .ref (ad 18 0))]) hx hb dL_parts_13 hl (by decide) rfl (fun ls hl => ?_)
    refine lv_iconst (v := 1) hx hb dL_parts_15 (by decide) ?_
    refine vx_ret ?_
    refine W.widen (k := 2) (n := 12) (by omega) (by omega) ?_
    exact W.iret (v := 1) hx hb hr (fun t9 ht9 hw9 => ⟨⟨1, (nc, ng, S, P, O, ad), rfl, Or.inl ⟨rfl, n0, rfl⟩, cf_W.re ht9 hW⟩, hS.F ht9⟩) hS.2.2 dL_parts_16
  have hW := cf_W.er ht hW
  have hW : cf_W D z (cf_E cT nc ng S P O ad) ad H := hW
  refine lv_i2l (v := r1.toInt64) hx hb dL_parts_8 rfl ?_
  refine cf_last (k := 18) (i := 0) (ad := ad) (f := O) (j := 0) hx hb hT.1 hW hS 2 cf_e18 rfl (show vp_in 0 1 from vp_in_nI (show (0 : Nat) < 1 by decide) (by decide)) dL_parts_9 (fun H locs hW hS => ?_)
  have hW := cf_W.eqv hW (cf_upO (x := r1.toInt64) (j := (0 : Int32).toNatClampNeg) rfl)
  refine lv_goto (tgt := 17) hx hb dL_parts_10 (by decide) ?_
  refine lv_iconst (v := 0) hx hb dL_parts_17 (by decide) ?_
  refine vx_ret ?_
  refine W.widen (k := 2) (n := 12) (by omega) (by omega) ?_
  exact W.iret (v := 0) hx hb hr (fun t9 ht9 hw9 => ⟨⟨0, (nc, ng, S, P, vp_updL O 0 r1.toInt64, ad), rfl, Or.inr (⟨rfl, r1, hw, rfl⟩), cf_W.re ht9 hW⟩, hS.F ht9⟩) hS.2.2 dL_parts_18
set_option maxHeartbeats 4000000 in
set_option maxRecDepth 100000 in
/-- L_canBePlayed -/
theorem c_L_canBePlayed (l : Launch) (D : va_G) (cT : Nat → ClassId) (z : Nat) (ad : cf_Ad) (nc ng : Nat) (S : cf_S) (P : cf_Pt) (O : Nat → Int64) (hl0 : l.stackTraces = false) (x : Int32) (hnc : nc ≤ 15) (hO : ∀ j, j < 15 → P 14 0 j = if j < nc then j + 1 else 0) (hG : ∀ j, j < nc → P 0 j 0 < 5) : vx_Met l yL_canBePlayed wsL_canBePlayed ({ frames := 8, cells := 1, slots := 6, locals := 124 }) (va_Pc [.ref (ad 5 0), .int x, .ref (ad 18 0)] (cf_P D cT z (cf_E cT nc ng S P O ad) ad)) (cf_Qi D z (fun (r : Int32) (u : cf_St) => (r = 1 ∧ ¬ (cf_ix x nc) ∧ u = (nc, ng, S, P, O, ad)) ∨ (r = 0 ∧ ∃ v : Int32, (∃ cp : Nat, cp < nc ∧ x = nI cp ∧ cf_B v (cf_play (S 7 cp) (S 9 (P 0 cp 0)))) ∧ ∃ w : Int64, ((v = 0 ∧ w = 0) ∨ (¬ v = 0 ∧ w = 1)) ∧ u = (nc, ng, S, P, vp_updL O 0 w, ad))) (cf_EW cT) cf_ADu) (cf_X D z (cf_E cT nc ng S P O ad) ad (fun _ => False)) 1 6 (fun q => z ≤ q) := by
  refine vx_ofWH (cc := cL_canBePlayed) (maxL := 4) (ret := (some .int)) (hh := [(0, 16, 19, 13)]) (by decide) rfl ?_
  intro p e s m args below meth c s₁ B hml hv
  obtain ⟨rfl, hW, hT⟩ := hv
  have hx := B.exec
  have hb := B.bytes
  have hr := B.returns
  have hts := atoms_spec (ws := wsL_canBePlayed) B.pre
  have htab := vx_table (x := yL_canBePlayed) B (hts (.codeWith yL_canBePlayed cL_canBePlayed 4 (some .int) [(0, 16, 19, 13)]) List.mem_cons_self)
  have hown : s.vm.findClass RL = some m.cls := findClass_of_methodNamed B.named
  have hlocks := B.notSynchronized
  have hS : va_S (fun q => z ≤ q) s.heap s.heap [] := va_S.rf
  have hl := lv_entry ([.ref (ad 5 0), .int x, .ref (ad 18 0)]) (n := 4) (Nat.le_of_ble_eq_true rfl)
  rw [lg_entry_eq]
  generalize (lg_sl ([.ref (ad 5 0), .int x, .ref (ad 18 0)]) ++ List.replicate (4 - (lg_sl ([.ref (ad 5 0), .int x, .ref (ad 18 0)])).length) Slot.unset).toArray = ls at hl ⊢
  have hl : lv_has ls 4 [(0, .ref (ad 5 0)), (1, .int x), (2, .ref (ad 18 0))] := hl
  refine lv_aload_n hx hb dL_canBePlayed_0 rfl (lv_at hl 2 rfl) ?_
  refine lv_iconst (v := 0) hx hb dL_canBePlayed_1 (by decide) ?_
  refine lv_aload_n hx hb dL_canBePlayed_2 rfl (lv_at hl 0 rfl) ?_
  refine lv_iload_n hx hb dL_canBePlayed_3 rfl (lv_at hl 1 rfl) ?_
  refine vx_calli (vx_runV (As := [.int x]) (rest := [.int 0, .ref (ad 18 0)]) ⟨hx, hb, hml, hown, hts⟩ (c_X5_canBePlayed l D cT z ad nc ng S P O hl0 x hnc hO hG) (cwV 1 hts gL_canBePlayed_X5_canBePlayed rfl rfl rfl (by decide +kernel) ⟨Nat.le_of_ble_eq_true rfl, Nat.le_of_ble_eq_true rfl⟩) (cf_preV (T := TX5) (N := 9) hT hS hW cf_e5 rfl) rfl rfl hl.1 rfl (lv_room (Nat.le_of_ble_eq_true rfl)) dL_canBePlayed_4 ⟨Nat.le_of_ble_eq_true rfl, Nat.le_of_ble_eq_true rfl⟩) hS (fun _ _ h => h) (fun _ h => h) (fun _ _ h => h) (fun E9 ce q9 u9 t9 H locs ht hvm hu hB hz1 hk1 hS hce hcv hcl => ?_) (fun r1 ur1 t9 H locs ht hvm hw hW hz1 hk1 hS => ?_)
  · obtain ⟨hp, hW⟩ := hB
    have hW := cf_W.er ht hW
    obtain ⟨rfl, n0⟩ := hp
    refine vx_catch (E := cf_iob) (own := RL) (name := "java/lang/IndexOutOfBoundsException") hown [] ⟨0, 16, 19, 13⟩ [] htab (fun z9 hz => absurd hz List.not_mem_nil) rfl (by decide) (hts (.classLink RL 13 "java/lang/IndexOutOfBoundsException") (List.mem_of_getElem? (i := 1) rfl)) (va_Nw.use rfl (hT.2.2.1 (cf_iob, cf_iob) (List.mem_of_getElem? (i := 0) rfl))) hce hcv hcl ?_
    refine lv_astore_n (lv' := [(3, .ref q9), (0, .ref (ad 5 0)), (1, .int x), (2, .ref (ad 18 0))]) hx hb dL_canBePlayed_19 rfl hl (by decide) rfl (fun ls hl => ?_)
    refine lv_iconst (v := 1) hx hb dL_canBePlayed_20 (by decide) ?_
    refine vx_ret ?_
    refine W.widen (k := 1) (n := 6) (by omega) (by omega) ?_
    exact W.iret (v := 1) hx hb hr (fun t9 ht9 hw9 => ⟨⟨1, (nc, ng, S, P, O, ad), rfl, Or.inl ⟨rfl, n0, rfl⟩, cf_W.re ht9 hW⟩, hS.F ht9⟩) hS.2.2 dL_canBePlayed_21
  have hW := cf_W.er ht hW
  have hW : cf_W D z (cf_E cT nc ng S P O ad) ad H := hW
  refine lv_if_eq (tgt := 14) hx hb dL_canBePlayed_7 (by decide) (fun c7_2 => ?_) (fun c7_2 => ?_)
  · refine lv_lconst (v := 0) hx hb dL_canBePlayed_14 (by decide) ?_
    refine cf_last (k := 18) (i := 0) (ad := ad) (f := O) (j := 0) hx hb hT.1 hW hS 2 cf_e18 rfl (show vp_in 0 1 from vp_in_nI (show (0 : Nat) < 1 by decide) (by decide)) dL_canBePlayed_15 (fun H locs hW hS => ?_)
    have hW := cf_W.eqv hW (cf_upO (x := 0) (j := (0 : Int32).toNatClampNeg) rfl)
    refine lv_goto (tgt := 22) hx hb dL_canBePlayed_16 (by decide) ?_
    refine lv_iconst (v := 0) hx hb dL_canBePlayed_22 (by decide) ?_
    refine vx_ret ?_
    refine W.widen (k := 1) (n := 6) (by omega) (by omega) ?_
    exact W.iret (v := 0) hx hb hr (fun t9 ht9 hw9 => ⟨⟨0, (nc, ng, S, P, vp_updL O 0 0, ad), rfl, Or.inr (⟨rfl, r1, hw, 0, Or.inl ⟨c7_2, rfl⟩, rfl⟩), cf_W.re ht9 hW⟩, hS.F ht9⟩) hS.2.2 dL_canBePlayed_23
  · refine lv_lconst (v := 1) hx hb dL_canBePlayed_10 (by decide) ?_
    refine lv_goto (tgt := 15) hx hb dL_canBePlayed_11 (by decide) ?_
    refine cf_last (k := 18) (i := 0) (ad := ad) (f := O) (j := 0) hx hb hT.1 hW hS 2 cf_e18 rfl (show vp_in 0 1 from vp_in_nI (show (0 : Nat) < 1 by decide) (by decide)) dL_canBePlayed_15 (fun H locs hW hS => ?_)
    have hW := cf_W.eqv hW (cf_upO (x := 1) (j := (0 : Int32).toNatClampNeg) rfl)
    refine lv_goto (tgt := 22) hx hb dL_canBePlayed_16 (by decide) ?_
    refine lv_iconst (v := 0) hx hb dL_canBePlayed_22 (by decide) ?_
    refine vx_ret ?_
    refine W.widen (k := 1) (n := 6) (by omega) (by omega) ?_
    exact W.iret (v := 0) hx hb hr (fun t9 ht9 hw9 => ⟨⟨0, (nc, ng, S, P, vp_updL O 0 1, ad), rfl, Or.inr (⟨rfl, r1, hw, 1, Or.inr ⟨c7_2, rfl⟩, rfl⟩), cf_W.re ht9 hW⟩, hS.F ht9⟩) hS.2.2 dL_canBePlayed_23
set_option maxHeartbeats 4000000 in
set_option maxRecDepth 100000 in
/-- L_whereIs -/
theorem c_L_whereIs (l : Launch) (D : va_G) (cT : Nat → ClassId) (z : Nat) (ad : cf_Ad) (nc ng : Nat) (S : cf_S) (P : cf_Pt) (O : Nat → Int64) (hl0 : l.stackTraces = false) (x : Int32) (hnc : nc ≤ 15) (hO : ∀ j, j < 15 → P 14 0 j = if j < nc then j + 1 else 0) : vx_Met l yL_whereIs wsL_whereIs ({ frames := 8, cells := 1, slots := 6, locals := 124 }) (va_Pc [.ref (ad 5 0), .int x, .ref (ad 18 0)] (cf_P D cT z (cf_E cT nc ng S P O ad) ad)) (cf_Qi D z (fun (r : Int32) (u : cf_St) => (r = 1 ∧ ¬ (cf_ix x nc) ∧ u = (nc, ng, S, P, O, ad)) ∨ (r = 0 ∧ ∃ v : Int32, (∃ cp : Nat, cp < nc ∧ x = nI cp ∧ v = S 0 cp 0) ∧ u = (nc, ng, S, P, vp_updL O 0 v.toInt64, ad))) (cf_EW cT) cf_ADu) (cf_X D z (cf_E cT nc ng S P O ad) ad (fun _ => False)) 1 6 (fun q => z ≤ q) := by
  refine vx_ofWH (cc := cL_whereIs) (maxL := 4) (ret := (some .int)) (hh := [(0, 9, 12, 13)]) (by decide) rfl ?_
  intro p e s m args below meth c s₁ B hml hv
  obtain ⟨rfl, hW, hT⟩ := hv
  have hx := B.exec
  have hb := B.bytes
  have hr := B.returns
  have hts := atoms_spec (ws := wsL_whereIs) B.pre
  have htab := vx_table (x := yL_whereIs) B (hts (.codeWith yL_whereIs cL_whereIs 4 (some .int) [(0, 9, 12, 13)]) List.mem_cons_self)
  have hown : s.vm.findClass RL = some m.cls := findClass_of_methodNamed B.named
  have hlocks := B.notSynchronized
  have hS : va_S (fun q => z ≤ q) s.heap s.heap [] := va_S.rf
  have hl := lv_entry ([.ref (ad 5 0), .int x, .ref (ad 18 0)]) (n := 4) (Nat.le_of_ble_eq_true rfl)
  rw [lg_entry_eq]
  generalize (lg_sl ([.ref (ad 5 0), .int x, .ref (ad 18 0)]) ++ List.replicate (4 - (lg_sl ([.ref (ad 5 0), .int x, .ref (ad 18 0)])).length) Slot.unset).toArray = ls at hl ⊢
  have hl : lv_has ls 4 [(0, .ref (ad 5 0)), (1, .int x), (2, .ref (ad 18 0))] := hl
  refine lv_aload_n hx hb dL_whereIs_0 rfl (lv_at hl 2 rfl) ?_
  refine lv_iconst (v := 0) hx hb dL_whereIs_1 (by decide) ?_
  refine lv_aload_n hx hb dL_whereIs_2 rfl (lv_at hl 0 rfl) ?_
  refine lv_iload_n hx hb dL_whereIs_3 rfl (lv_at hl 1 rfl) ?_
  refine vx_calli (vx_runV (As := [.int x]) (rest := [.int 0, .ref (ad 18 0)]) ⟨hx, hb, hml, hown, hts⟩ (c_X5_whereIs l D cT z ad nc ng S P O hl0 x hnc hO) (cwV 1 hts gL_whereIs_X5_whereIs rfl rfl rfl (by decide +kernel) ⟨Nat.le_of_ble_eq_true rfl, Nat.le_of_ble_eq_true rfl⟩) (cf_preV (T := TX5) (N := 9) hT hS hW cf_e5 rfl) rfl rfl hl.1 rfl (lv_room (Nat.le_of_ble_eq_true rfl)) dL_whereIs_4 ⟨Nat.le_of_ble_eq_true rfl, Nat.le_of_ble_eq_true rfl⟩) hS (fun _ _ h => h) (fun _ h => h) (fun _ _ h => h) (fun E9 ce q9 u9 t9 H locs ht hvm hu hB hz1 hk1 hS hce hcv hcl => ?_) (fun r1 ur1 t9 H locs ht hvm hw hW hz1 hk1 hS => ?_)
  · obtain ⟨hp, hW⟩ := hB
    have hW := cf_W.er ht hW
    obtain ⟨rfl, n0⟩ := hp
    refine vx_catch (E := cf_iob) (own := RL) (name := "java/lang/IndexOutOfBoundsException") hown [] ⟨0, 9, 12, 13⟩ [] htab (fun z9 hz => absurd hz List.not_mem_nil) rfl (by decide) (hts (.classLink RL 13 "java/lang/IndexOutOfBoundsException") (List.mem_of_getElem? (i := 1) rfl)) (va_Nw.use rfl (hT.2.2.1 (cf_iob, cf_iob) (List.mem_of_getElem? (i := 0) rfl))) hce hcv hcl ?_
    refine lv_astore_n (lv' := [(3, .ref q9), (0, .ref (ad 5 0)), (1, .int x), (2, .ref (ad 18 0))]) hx hb dL_whereIs_12 rfl hl (by decide) rfl (fun ls hl => ?_)
    refine lv_iconst (v := 1) hx hb dL_whereIs_13 (by decide) ?_
    refine vx_ret ?_
    refine W.widen (k := 1) (n := 6) (by omega) (by omega) ?_
    exact W.iret (v := 1) hx hb hr (fun t9 ht9 hw9 => ⟨⟨1, (nc, ng, S, P, O, ad), rfl, Or.inl ⟨rfl, n0, rfl⟩, cf_W.re ht9 hW⟩, hS.F ht9⟩) hS.2.2 dL_whereIs_14
  have hW := cf_W.er ht hW
  have hW : cf_W D z (cf_E cT nc ng S P O ad) ad H := hW
  refine lv_i2l (v := r1.toInt64) hx hb dL_whereIs_7 rfl ?_
  refine cf_last (k := 18) (i := 0) (ad := ad) (f := O) (j := 0) hx hb hT.1 hW hS 2 cf_e18 rfl (show vp_in 0 1 from vp_in_nI (show (0 : Nat) < 1 by decide) (by decide)) dL_whereIs_8 (fun H locs hW hS => ?_)
  have hW := cf_W.eqv hW (cf_upO (x := r1.toInt64) (j := (0 : Int32).toNatClampNeg) rfl)
  refine lv_goto (tgt := 15) hx hb dL_whereIs_9 (by decide) ?_
  refine lv_iconst (v := 0) hx hb dL_whereIs_15 (by decide) ?_
  refine vx_ret ?_
  refine W.widen (k := 1) (n := 6) (by omega) (by omega) ?_
  exact W.iret (v := 0) hx hb hr (fun t9 ht9 hw9 => ⟨⟨0, (nc, ng, S, P, vp_updL O 0 r1.toInt64, ad), rfl, Or.inr (⟨rfl, r1, hw, rfl⟩), cf_W.re ht9 hW⟩, hS.F ht9⟩) hS.2.2 dL_whereIs_16
set_option maxHeartbeats 4000000 in
set_option maxRecDepth 100000 in
/-- L_at -/
theorem c_L_at (l : Launch) (D : va_G) (cT : Nat → ClassId) (z : Nat) (ad : cf_Ad) (nc ng : Nat) (S : cf_S) (P : cf_Pt) (O : Nat → Int64) (hl0 : l.stackTraces = false) (x : Int32) : vx_Met l yL_at wsL_at ({ frames := 8, cells := 1, slots := 6, locals := 124 }) (va_Pc [.ref (ad 5 0), .int x, .ref (ad 18 0)] (cf_P D cT z (cf_E cT nc ng S P O ad) ad)) (cf_Qi D z (fun (r : Int32) (u : cf_St) => (r = 1 ∧ ¬ (cf_ix x 6) ∧ u = (nc, ng, S, P, O, ad)) ∨ (r = 0 ∧ ∃ v : Int32, (∃ j : Nat, j < 6 ∧ x = nI j ∧ v = S 3 j 1) ∧ u = (nc, ng, S, P, vp_updL O 0 v.toInt64, ad))) (cf_EW cT) cf_ADu) (cf_X D z (cf_E cT nc ng S P O ad) ad (fun _ => False)) 1 6 (fun q => z ≤ q) := by
  refine vx_ofWH (cc := cL_at) (maxL := 4) (ret := (some .int)) (hh := [(0, 9, 12, 13)]) (by decide) rfl ?_
  intro p e s m args below meth c s₁ B hml hv
  obtain ⟨rfl, hW, hT⟩ := hv
  have hx := B.exec
  have hb := B.bytes
  have hr := B.returns
  have hts := atoms_spec (ws := wsL_at) B.pre
  have htab := vx_table (x := yL_at) B (hts (.codeWith yL_at cL_at 4 (some .int) [(0, 9, 12, 13)]) List.mem_cons_self)
  have hown : s.vm.findClass RL = some m.cls := findClass_of_methodNamed B.named
  have hlocks := B.notSynchronized
  have hS : va_S (fun q => z ≤ q) s.heap s.heap [] := va_S.rf
  have hl := lv_entry ([.ref (ad 5 0), .int x, .ref (ad 18 0)]) (n := 4) (Nat.le_of_ble_eq_true rfl)
  rw [lg_entry_eq]
  generalize (lg_sl ([.ref (ad 5 0), .int x, .ref (ad 18 0)]) ++ List.replicate (4 - (lg_sl ([.ref (ad 5 0), .int x, .ref (ad 18 0)])).length) Slot.unset).toArray = ls at hl ⊢
  have hl : lv_has ls 4 [(0, .ref (ad 5 0)), (1, .int x), (2, .ref (ad 18 0))] := hl
  refine lv_aload_n hx hb dL_at_0 rfl (lv_at hl 2 rfl) ?_
  refine lv_iconst (v := 0) hx hb dL_at_1 (by decide) ?_
  refine lv_aload_n hx hb dL_at_2 rfl (lv_at hl 0 rfl) ?_
  refine lv_iload_n hx hb dL_at_3 rfl (lv_at hl 1 rfl) ?_
  refine vx_calli (vx_runV (As := [.int x]) (rest := [.int 0, .ref (ad 18 0)]) ⟨hx, hb, hml, hown, hts⟩ (c_X5_at l D cT z ad nc ng S P O hl0 x) (cwV 1 hts gL_at_X5_at rfl rfl rfl (by decide +kernel) ⟨Nat.le_of_ble_eq_true rfl, Nat.le_of_ble_eq_true rfl⟩) (cf_preV (T := TX5) (N := 9) hT hS hW cf_e5 rfl) rfl rfl hl.1 rfl (lv_room (Nat.le_of_ble_eq_true rfl)) dL_at_4 ⟨Nat.le_of_ble_eq_true rfl, Nat.le_of_ble_eq_true rfl⟩) hS (fun _ _ h => h) (fun _ h => h) (fun _ _ h => h) (fun E9 ce q9 u9 t9 H locs ht hvm hu hB hz1 hk1 hS hce hcv hcl => ?_) (fun r1 ur1 t9 H locs ht hvm hw hW hz1 hk1 hS => ?_)
  · obtain ⟨hp, hW⟩ := hB
    have hW := cf_W.er ht hW
    obtain ⟨rfl, n0⟩ := hp
    refine vx_catch (E := cf_iob) (own := RL) (name := "java/lang/IndexOutOfBoundsException") hown [] ⟨0, 9, 12, 13⟩ [] htab (fun z9 hz => absurd hz List.not_mem_nil) rfl (by decide) (hts (.classLink RL 13 "java/lang/IndexOutOfBoundsException") (List.mem_of_getElem? (i := 1) rfl)) (va_Nw.use rfl (hT.2.2.1 (cf_iob, cf_iob) (List.mem_of_getElem? (i := 0) rfl))) hce hcv hcl ?_
    refine lv_astore_n (lv' := [(3, .ref q9), (0, .ref (ad 5 0)), (1, .int x), (2, .ref (ad 18 0))]) hx hb dL_at_12 rfl hl (by decide) rfl (fun ls hl => ?_)
    refine lv_iconst (v := 1) hx hb dL_at_13 (by decide) ?_
    refine vx_ret ?_
    refine W.widen (k := 1) (n := 6) (by omega) (by omega) ?_
    exact W.iret (v := 1) hx hb hr (fun t9 ht9 hw9 => ⟨⟨1, (nc, ng, S, P, O, ad), rfl, Or.inl ⟨rfl, n0, rfl⟩, cf_W.re ht9 hW⟩, hS.F ht9⟩) hS.2.2 dL_at_14
  have hW := cf_W.er ht hW
  have hW : cf_W D z (cf_E cT nc ng S P O ad) ad H := hW
  refine lv_i2l (v := r1.toInt64) hx hb dL_at_7 rfl ?_
  refine cf_last (k := 18) (i := 0) (ad := ad) (f := O) (j := 0) hx hb hT.1 hW hS 2 cf_e18 rfl (show vp_in 0 1 from vp_in_nI (show (0 : Nat) < 1 by decide) (by decide)) dL_at_8 (fun H locs hW hS => ?_)
  have hW := cf_W.eqv hW (cf_upO (x := r1.toInt64) (j := (0 : Int32).toNatClampNeg) rfl)
  refine lv_goto (tgt := 15) hx hb dL_at_9 (by decide) ?_
  refine lv_iconst (v := 0) hx hb dL_at_15 (by decide) ?_
  refine vx_ret ?_
  refine W.widen (k := 1) (n := 6) (by omega) (by omega) ?_
  exact W.iret (v := 0) hx hb hr (fun t9 ht9 hw9 => ⟨⟨0, (nc, ng, S, P, vp_updL O 0 r1.toInt64, ad), rfl, Or.inr (⟨rfl, r1, hw, rfl⟩), cf_W.re ht9 hW⟩, hS.F ht9⟩) hS.2.2 dL_at_16
set_option maxHeartbeats 4000000 in
set_option maxRecDepth 100000 in
/-- L_copyOf -/
theorem c_L_copyOf (l : Launch) (D : va_G) (cT : Nat → ClassId) (z : Nat) (ad : cf_Ad) (nc ng : Nat) (S : cf_S) (P : cf_Pt) (O : Nat → Int64) (hl0 : l.stackTraces = false) (x : Int32) (hQ : ∀ j, j < 60 → P 15 0 j = 0 ∨ (P 15 0 j = j + 1 ∧ j < ng)) (hL : ∀ j, j < ng → P 2 j 0 < nc ∧ P 2 j 1 < 6) : vx_Met l yL_copyOf wsL_copyOf ({ frames := 8, cells := 1, slots := 6, locals := 124 }) (va_Pc [.ref (ad 5 0), .int x, .ref (ad 18 0)] (cf_P D cT z (cf_E cT nc ng S P O ad) ad)) (cf_Qi D z (fun (r : Int32) (u : cf_St) => (r = 1 ∧ ¬ (cf_lv P x) ∧ u = (nc, ng, S, P, O, ad)) ∨ (r = 0 ∧ ∃ v : Int32, (∃ gp : Nat, gp < 60 ∧ x = nI gp ∧ P 15 0 gp = gp + 1 ∧ gp < ng ∧ v = nI (P 2 gp 0)) ∧ u = (nc, ng, S, P, vp_updL O 0 v.toInt64, ad))) (cf_EW cT) cf_ADu) (cf_X D z (cf_E cT nc ng S P O ad) ad (fun _ => False)) 1 6 (fun q => z ≤ q) := by
  refine vx_ofWH (cc := cL_copyOf) (maxL := 4) (ret := (some .int)) (hh := [(0, 9, 12, 13)]) (by decide) rfl ?_
  intro p e s m args below meth c s₁ B hml hv
  obtain ⟨rfl, hW, hT⟩ := hv
  have hx := B.exec
  have hb := B.bytes
  have hr := B.returns
  have hts := atoms_spec (ws := wsL_copyOf) B.pre
  have htab := vx_table (x := yL_copyOf) B (hts (.codeWith yL_copyOf cL_copyOf 4 (some .int) [(0, 9, 12, 13)]) List.mem_cons_self)
  have hown : s.vm.findClass RL = some m.cls := findClass_of_methodNamed B.named
  have hlocks := B.notSynchronized
  have hS : va_S (fun q => z ≤ q) s.heap s.heap [] := va_S.rf
  have hl := lv_entry ([.ref (ad 5 0), .int x, .ref (ad 18 0)]) (n := 4) (Nat.le_of_ble_eq_true rfl)
  rw [lg_entry_eq]
  generalize (lg_sl ([.ref (ad 5 0), .int x, .ref (ad 18 0)]) ++ List.replicate (4 - (lg_sl ([.ref (ad 5 0), .int x, .ref (ad 18 0)])).length) Slot.unset).toArray = ls at hl ⊢
  have hl : lv_has ls 4 [(0, .ref (ad 5 0)), (1, .int x), (2, .ref (ad 18 0))] := hl
  refine lv_aload_n hx hb dL_copyOf_0 rfl (lv_at hl 2 rfl) ?_
  refine lv_iconst (v := 0) hx hb dL_copyOf_1 (by decide) ?_
  refine lv_aload_n hx hb dL_copyOf_2 rfl (lv_at hl 0 rfl) ?_
  refine lv_iload_n hx hb dL_copyOf_3 rfl (lv_at hl 1 rfl) ?_
  refine vx_calli (vx_runV (As := [.int x]) (rest := [.int 0, .ref (ad 18 0)]) ⟨hx, hb, hml, hown, hts⟩ (c_X5_copyOf l D cT z ad nc ng S P O hl0 x hQ hL) (cwV 1 hts gL_copyOf_X5_copyOf rfl rfl rfl (by decide +kernel) ⟨Nat.le_of_ble_eq_true rfl, Nat.le_of_ble_eq_true rfl⟩) (cf_preV (T := TX5) (N := 9) hT hS hW cf_e5 rfl) rfl rfl hl.1 rfl (lv_room (Nat.le_of_ble_eq_true rfl)) dL_copyOf_4 ⟨Nat.le_of_ble_eq_true rfl, Nat.le_of_ble_eq_true rfl⟩) hS (fun _ _ h => h) (fun _ h => h) (fun _ _ h => h) (fun E9 ce q9 u9 t9 H locs ht hvm hu hB hz1 hk1 hS hce hcv hcl => ?_) (fun r1 ur1 t9 H locs ht hvm hw hW hz1 hk1 hS => ?_)
  · obtain ⟨hp, hW⟩ := hB
    have hW := cf_W.er ht hW
    obtain ⟨rfl, n0⟩ := hp
    refine vx_catch (E := cf_iob) (own := RL) (name := "java/lang/IndexOutOfBoundsException") hown [] ⟨0, 9, 12, 13⟩ [] htab (fun z9 hz => absurd hz List.not_mem_nil) rfl (by decide) (hts (.classLink RL 13 "java/lang/IndexOutOfBoundsException") (List.mem_of_getElem? (i := 1) rfl)) (va_Nw.use rfl (hT.2.2.1 (cf_iob, cf_iob) (List.mem_of_getElem? (i := 0) rfl))) hce hcv hcl ?_
    refine lv_astore_n (lv' := [(3, .ref q9), (0, .ref (ad 5 0)), (1, .int x), (2, .ref (ad 18 0))]) hx hb dL_copyOf_12 rfl hl (by decide) rfl (fun ls hl => ?_)
    refine lv_iconst (v := 1) hx hb dL_copyOf_13 (by decide) ?_
    refine vx_ret ?_
    refine W.widen (k := 1) (n := 6) (by omega) (by omega) ?_
    exact W.iret (v := 1) hx hb hr (fun t9 ht9 hw9 => ⟨⟨1, (nc, ng, S, P, O, ad), rfl, Or.inl ⟨rfl, n0, rfl⟩, cf_W.re ht9 hW⟩, hS.F ht9⟩) hS.2.2 dL_copyOf_14
  have hW := cf_W.er ht hW
  have hW : cf_W D z (cf_E cT nc ng S P O ad) ad H := hW
  refine lv_i2l (v := r1.toInt64) hx hb dL_copyOf_7 rfl ?_
  refine cf_last (k := 18) (i := 0) (ad := ad) (f := O) (j := 0) hx hb hT.1 hW hS 2 cf_e18 rfl (show vp_in 0 1 from vp_in_nI (show (0 : Nat) < 1 by decide) (by decide)) dL_copyOf_8 (fun H locs hW hS => ?_)
  have hW := cf_W.eqv hW (cf_upO (x := r1.toInt64) (j := (0 : Int32).toNatClampNeg) rfl)
  refine lv_goto (tgt := 15) hx hb dL_copyOf_9 (by decide) ?_
  refine lv_iconst (v := 0) hx hb dL_copyOf_15 (by decide) ?_
  refine vx_ret ?_
  refine W.widen (k := 1) (n := 6) (by omega) (by omega) ?_
  exact W.iret (v := 0) hx hb hr (fun t9 ht9 hw9 => ⟨⟨0, (nc, ng, S, P, vp_updL O 0 r1.toInt64, ad), rfl, Or.inr (⟨rfl, r1, hw, rfl⟩), cf_W.re ht9 hW⟩, hS.F ht9⟩) hS.2.2 dL_copyOf_16
set_option maxHeartbeats 4000000 in
set_option maxRecDepth 100000 in
/-- L_teaching -/
theorem c_L_teaching (l : Launch) (D : va_G) (cT : Nat → ClassId) (z : Nat) (ad : cf_Ad) (nc ng : Nat) (S : cf_S) (P : cf_Pt) (O : Nat → Int64) (hl0 : l.stackTraces = false) (x : Int32) : vx_Met l yL_teaching wsL_teaching ({ frames := 8, cells := 1, slots := 6, locals := 124 }) (va_Pc [.ref (ad 5 0), .int x, .ref (ad 18 0)] (cf_P D cT z (cf_E cT nc ng S P O ad) ad)) (cf_Qi D z (fun (r : Int32) (u : cf_St) => (r = 1 ∧ ¬ (cf_ix x 3) ∧ u = (nc, ng, S, P, O, ad)) ∨ (r = 0 ∧ ∃ v : Int32, (∃ j : Nat, j < 3 ∧ x = nI j ∧ v = if 0 < S 4 j 0 - S 5 0 2 then S 4 j 0 - S 5 0 2 else 0) ∧ u = (nc, ng, S, P, vp_updL O 0 v.toInt64, ad))) (cf_EW cT) cf_ADu) (cf_X D z (cf_E cT nc ng S P O ad) ad (fun _ => False)) 1 6 (fun q => z ≤ q) := by
  refine vx_ofWH (cc := cL_teaching) (maxL := 4) (ret := (some .int)) (hh := [(0, 9, 12, 13)]) (by decide) rfl ?_
  intro p e s m args below meth c s₁ B hml hv
  obtain ⟨rfl, hW, hT⟩ := hv
  have hx := B.exec
  have hb := B.bytes
  have hr := B.returns
  have hts := atoms_spec (ws := wsL_teaching) B.pre
  have htab := vx_table (x := yL_teaching) B (hts (.codeWith yL_teaching cL_teaching 4 (some .int) [(0, 9, 12, 13)]) List.mem_cons_self)
  have hown : s.vm.findClass RL = some m.cls := findClass_of_methodNamed B.named
  have hlocks := B.notSynchronized
  have hS : va_S (fun q => z ≤ q) s.heap s.heap [] := va_S.rf
  have hl := lv_entry ([.ref (ad 5 0), .int x, .ref (ad 18 0)]) (n := 4) (Nat.le_of_ble_eq_true rfl)
  rw [lg_entry_eq]
  generalize (lg_sl ([.ref (ad 5 0), .int x, .ref (ad 18 0)]) ++ List.replicate (4 - (lg_sl ([.ref (ad 5 0), .int x, .ref (ad 18 0)])).length) Slot.unset).toArray = ls at hl ⊢
  have hl : lv_has ls 4 [(0, .ref (ad 5 0)), (1, .int x), (2, .ref (ad 18 0))] := hl
  refine lv_aload_n hx hb dL_teaching_0 rfl (lv_at hl 2 rfl) ?_
  refine lv_iconst (v := 0) hx hb dL_teaching_1 (by decide) ?_
  refine lv_aload_n hx hb dL_teaching_2 rfl (lv_at hl 0 rfl) ?_
  refine lv_iload_n hx hb dL_teaching_3 rfl (lv_at hl 1 rfl) ?_
  refine vx_calli (vx_runV (As := [.int x]) (rest := [.int 0, .ref (ad 18 0)]) ⟨hx, hb, hml, hown, hts⟩ (c_X5_teaching l D cT z ad nc ng S P O hl0 x) (cwV 1 hts gL_teaching_X5_teaching rfl rfl rfl (by decide +kernel) ⟨Nat.le_of_ble_eq_true rfl, Nat.le_of_ble_eq_true rfl⟩) (cf_preV (T := TX5) (N := 9) hT hS hW cf_e5 rfl) rfl rfl hl.1 rfl (lv_room (Nat.le_of_ble_eq_true rfl)) dL_teaching_4 ⟨Nat.le_of_ble_eq_true rfl, Nat.le_of_ble_eq_true rfl⟩) hS (fun _ _ h => h) (fun _ h => h) (fun _ _ h => h) (fun E9 ce q9 u9 t9 H locs ht hvm hu hB hz1 hk1 hS hce hcv hcl => ?_) (fun r1 ur1 t9 H locs ht hvm hw hW hz1 hk1 hS => ?_)
  · obtain ⟨hp, hW⟩ := hB
    have hW := cf_W.er ht hW
    obtain ⟨rfl, n0⟩ := hp
    refine vx_catch (E := cf_iob) (own := RL) (name := "java/lang/IndexOutOfBoundsException") hown [] ⟨0, 9, 12, 13⟩ [] htab (fun z9 hz => absurd hz List.not_mem_nil) rfl (by decide) (hts (.classLink RL 13 "java/lang/IndexOutOfBoundsException") (List.mem_of_getElem? (i := 1) rfl)) (va_Nw.use rfl (hT.2.2.1 (cf_iob, cf_iob) (List.mem_of_getElem? (i := 0) rfl))) hce hcv hcl ?_
    refine lv_astore_n (lv' := [(3, .ref q9), (0, .ref (ad 5 0)), (1, .int x), (2, .ref (ad 18 0))]) hx hb dL_teaching_12 rfl hl (by decide) rfl (fun ls hl => ?_)
    refine lv_iconst (v := 1) hx hb dL_teaching_13 (by decide) ?_
    refine vx_ret ?_
    refine W.widen (k := 1) (n := 6) (by omega) (by omega) ?_
    exact W.iret (v := 1) hx hb hr (fun t9 ht9 hw9 => ⟨⟨1, (nc, ng, S, P, O, ad), rfl, Or.inl ⟨rfl, n0, rfl⟩, cf_W.re ht9 hW⟩, hS.F ht9⟩) hS.2.2 dL_teaching_14
  have hW := cf_W.er ht hW
  have hW : cf_W D z (cf_E cT nc ng S P O ad) ad H := hW
  refine lv_i2l (v := r1.toInt64) hx hb dL_teaching_7 rfl ?_
  refine cf_last (k := 18) (i := 0) (ad := ad) (f := O) (j := 0) hx hb hT.1 hW hS 2 cf_e18 rfl (show vp_in 0 1 from vp_in_nI (show (0 : Nat) < 1 by decide) (by decide)) dL_teaching_8 (fun H locs hW hS => ?_)
  have hW := cf_W.eqv hW (cf_upO (x := r1.toInt64) (j := (0 : Int32).toNatClampNeg) rfl)
  refine lv_goto (tgt := 15) hx hb dL_teaching_9 (by decide) ?_
  refine lv_iconst (v := 0) hx hb dL_teaching_15 (by decide) ?_
  refine vx_ret ?_
  refine W.widen (k := 1) (n := 6) (by omega) (by omega) ?_
  exact W.iret (v := 0) hx hb hr (fun t9 ht9 hw9 => ⟨⟨0, (nc, ng, S, P, vp_updL O 0 r1.toInt64, ad), rfl, Or.inr (⟨rfl, r1, hw, rfl⟩), cf_W.re ht9 hW⟩, hS.F ht9⟩) hS.2.2 dL_teaching_16
set_option maxHeartbeats 4000000 in
set_option maxRecDepth 100000 in
/-- L_plays -/
theorem c_L_plays (l : Launch) (D : va_G) (cT : Nat → ClassId) (z : Nat) (ad : cf_Ad) (nc ng : Nat) (S : cf_S) (P : cf_Pt) (O : Nat → Int64) (hl0 : l.stackTraces = false) (x : Int32) : vx_Met l yL_plays wsL_plays ({ frames := 8, cells := 1, slots := 6, locals := 124 }) (va_Pc [.ref (ad 5 0), .int x, .ref (ad 18 0)] (cf_P D cT z (cf_E cT nc ng S P O ad) ad)) (cf_Qi D z (fun (r : Int32) (u : cf_St) => (r = 1 ∧ ¬ (cf_ix x 5) ∧ u = (nc, ng, S, P, O, ad)) ∨ (r = 0 ∧ ∃ v : Int32, (∃ j : Nat, j < 5 ∧ x = nI j ∧ v = S 1 j 3) ∧ u = (nc, ng, S, P, vp_updL O 0 v.toInt64, ad))) (cf_EW cT) cf_ADu) (cf_X D z (cf_E cT nc ng S P O ad) ad (fun _ => False)) 1 6 (fun q => z ≤ q) := by
  refine vx_ofWH (cc := cL_plays) (maxL := 4) (ret := (some .int)) (hh := [(0, 9, 12, 13)]) (by decide) rfl ?_
  intro p e s m args below meth c s₁ B hml hv
  obtain ⟨rfl, hW, hT⟩ := hv
  have hx := B.exec
  have hb := B.bytes
  have hr := B.returns
  have hts := atoms_spec (ws := wsL_plays) B.pre
  have htab := vx_table (x := yL_plays) B (hts (.codeWith yL_plays cL_plays 4 (some .int) [(0, 9, 12, 13)]) List.mem_cons_self)
  have hown : s.vm.findClass RL = some m.cls := findClass_of_methodNamed B.named
  have hlocks := B.notSynchronized
  have hS : va_S (fun q => z ≤ q) s.heap s.heap [] := va_S.rf
  have hl := lv_entry ([.ref (ad 5 0), .int x, .ref (ad 18 0)]) (n := 4) (Nat.le_of_ble_eq_true rfl)
  rw [lg_entry_eq]
  generalize (lg_sl ([.ref (ad 5 0), .int x, .ref (ad 18 0)]) ++ List.replicate (4 - (lg_sl ([.ref (ad 5 0), .int x, .ref (ad 18 0)])).length) Slot.unset).toArray = ls at hl ⊢
  have hl : lv_has ls 4 [(0, .ref (ad 5 0)), (1, .int x), (2, .ref (ad 18 0))] := hl
  refine lv_aload_n hx hb dL_plays_0 rfl (lv_at hl 2 rfl) ?_
  refine lv_iconst (v := 0) hx hb dL_plays_1 (by decide) ?_
  refine lv_aload_n hx hb dL_plays_2 rfl (lv_at hl 0 rfl) ?_
  refine lv_iload_n hx hb dL_plays_3 rfl (lv_at hl 1 rfl) ?_
  refine vx_calli (vx_runV (As := [.int x]) (rest := [.int 0, .ref (ad 18 0)]) ⟨hx, hb, hml, hown, hts⟩ (c_X5_plays l D cT z ad nc ng S P O hl0 x) (cwV 1 hts gL_plays_X5_plays rfl rfl rfl (by decide +kernel) ⟨Nat.le_of_ble_eq_true rfl, Nat.le_of_ble_eq_true rfl⟩) (cf_preV (T := TX5) (N := 9) hT hS hW cf_e5 rfl) rfl rfl hl.1 rfl (lv_room (Nat.le_of_ble_eq_true rfl)) dL_plays_4 ⟨Nat.le_of_ble_eq_true rfl, Nat.le_of_ble_eq_true rfl⟩) hS (fun _ _ h => h) (fun _ h => h) (fun _ _ h => h) (fun E9 ce q9 u9 t9 H locs ht hvm hu hB hz1 hk1 hS hce hcv hcl => ?_) (fun r1 ur1 t9 H locs ht hvm hw hW hz1 hk1 hS => ?_)
  · obtain ⟨hp, hW⟩ := hB
    have hW := cf_W.er ht hW
    obtain ⟨rfl, n0⟩ := hp
    refine vx_catch (E := cf_iob) (own := RL) (name := "java/lang/IndexOutOfBoundsException") hown [] ⟨0, 9, 12, 13⟩ [] htab (fun z9 hz => absurd hz List.not_mem_nil) rfl (by decide) (hts (.classLink RL 13 "java/lang/IndexOutOfBoundsException") (List.mem_of_getElem? (i := 1) rfl)) (va_Nw.use rfl (hT.2.2.1 (cf_iob, cf_iob) (List.mem_of_getElem? (i := 0) rfl))) hce hcv hcl ?_
    refine lv_astore_n (lv' := [(3, .ref q9), (0, .ref (ad 5 0)), (1, .int x), (2, .ref (ad 18 0))]) hx hb dL_plays_12 rfl hl (by decide) rfl (fun ls hl => ?_)
    refine lv_iconst (v := 1) hx hb dL_plays_13 (by decide) ?_
    refine vx_ret ?_
    refine W.widen (k := 1) (n := 6) (by omega) (by omega) ?_
    exact W.iret (v := 1) hx hb hr (fun t9 ht9 hw9 => ⟨⟨1, (nc, ng, S, P, O, ad), rfl, Or.inl ⟨rfl, n0, rfl⟩, cf_W.re ht9 hW⟩, hS.F ht9⟩) hS.2.2 dL_plays_14
  have hW := cf_W.er ht hW
  have hW : cf_W D z (cf_E cT nc ng S P O ad) ad H := hW
  refine lv_i2l (v := r1.toInt64) hx hb dL_plays_7 rfl ?_
  refine cf_last (k := 18) (i := 0) (ad := ad) (f := O) (j := 0) hx hb hT.1 hW hS 2 cf_e18 rfl (show vp_in 0 1 from vp_in_nI (show (0 : Nat) < 1 by decide) (by decide)) dL_plays_8 (fun H locs hW hS => ?_)
  have hW := cf_W.eqv hW (cf_upO (x := r1.toInt64) (j := (0 : Int32).toNatClampNeg) rfl)
  refine lv_goto (tgt := 15) hx hb dL_plays_9 (by decide) ?_
  refine lv_iconst (v := 0) hx hb dL_plays_15 (by decide) ?_
  refine vx_ret ?_
  refine W.widen (k := 1) (n := 6) (by omega) (by omega) ?_
  exact W.iret (v := 0) hx hb hr (fun t9 ht9 hw9 => ⟨⟨0, (nc, ng, S, P, vp_updL O 0 r1.toInt64, ad), rfl, Or.inr (⟨rfl, r1, hw, rfl⟩), cf_W.re ht9 hW⟩, hS.F ht9⟩) hS.2.2 dL_plays_16
set_option maxHeartbeats 4000000 in
set_option maxRecDepth 100000 in
/-- L_propose -/
theorem c_L_propose (l : Launch) (D : va_G) (cT : Nat → ClassId) (z : Nat) (ad : cf_Ad) (nc ng : Nat) (S : cf_S) (P : cf_Pt) (O : Nat → Int64) (hl0 : l.stackTraces = false) (x : Int32) (hO2 : ∀ j, P 14 0 j = if j < nc then j + 1 else 0) (hG : ∀ j, j < nc → P 0 j 0 < 5) (hp0 : ∀ j, j < 5 → 0 ≤ S 1 j 3) : vx_Met l yL_propose wsL_propose ({ frames := 8, cells := 1, slots := 6, locals := 128 }) (va_Pc [.ref (ad 5 0), .int x, .ref (ad 18 0)] (cf_P D cT z (cf_E cT nc ng S P O ad) ad)) (cf_Qi D z (fun (r : Int32) (u : cf_St) => (r = 1 ∧ ¬ (cf_rg x 1 8) ∧ u = (nc, ng, S, P, O, ad)) ∨ (r = 0 ∧ ∃ v : Int32, (cf_rg x 1 8 ∧ ∃ b : Option Nat, v = cf_oi b ∧ b = cf_best (cf_okP nc S P x) (cf_ltP S) 5) ∧ u = (nc, ng, S, P, vp_updL O 0 v.toInt64, ad))) (cf_EW cT) cf_ADu) (cf_X D z (cf_E cT nc ng S P O ad) ad (fun _ => False)) 1 6 (fun q => z ≤ q) := by
  refine vx_ofWH (cc := cL_propose) (maxL := 4) (ret := (some .int)) (hh := [(0, 9, 12, 15)]) (by decide) rfl ?_
  intro p e s m args below meth c s₁ B hml hv
  obtain ⟨rfl, hW, hT⟩ := hv
  have hx := B.exec
  have hb := B.bytes
  have hr := B.returns
  have hts := atoms_spec (ws := wsL_propose) B.pre
  have htab := vx_table (x := yL_propose) B (hts (.codeWith yL_propose cL_propose 4 (some .int) [(0, 9, 12, 15)]) List.mem_cons_self)
  have hown : s.vm.findClass RL = some m.cls := findClass_of_methodNamed B.named
  have hlocks := B.notSynchronized
  have hS : va_S (fun q => z ≤ q) s.heap s.heap [] := va_S.rf
  have hl := lv_entry ([.ref (ad 5 0), .int x, .ref (ad 18 0)]) (n := 4) (Nat.le_of_ble_eq_true rfl)
  rw [lg_entry_eq]
  generalize (lg_sl ([.ref (ad 5 0), .int x, .ref (ad 18 0)]) ++ List.replicate (4 - (lg_sl ([.ref (ad 5 0), .int x, .ref (ad 18 0)])).length) Slot.unset).toArray = ls at hl ⊢
  have hl : lv_has ls 4 [(0, .ref (ad 5 0)), (1, .int x), (2, .ref (ad 18 0))] := hl
  refine lv_aload_n hx hb dL_propose_0 rfl (lv_at hl 2 rfl) ?_
  refine lv_iconst (v := 0) hx hb dL_propose_1 (by decide) ?_
  refine lv_aload_n hx hb dL_propose_2 rfl (lv_at hl 0 rfl) ?_
  refine lv_iload_n hx hb dL_propose_3 rfl (lv_at hl 1 rfl) ?_
  refine vx_calli (vx_runV (As := [.int x]) (rest := [.int 0, .ref (ad 18 0)]) ⟨hx, hb, hml, hown, hts⟩ (c_X5_propose l D cT z ad nc ng S P O hl0 x hO2 hG hp0) (cwV 1 hts gL_propose_X5_propose rfl rfl rfl (by decide +kernel) ⟨Nat.le_of_ble_eq_true rfl, Nat.le_of_ble_eq_true rfl⟩) (cf_preV (T := TX5) (N := 9) hT hS hW cf_e5 rfl) rfl rfl hl.1 rfl (lv_room (Nat.le_of_ble_eq_true rfl)) dL_propose_4 ⟨Nat.le_of_ble_eq_true rfl, Nat.le_of_ble_eq_true rfl⟩) hS (fun _ _ h => h) (fun _ h => h) (fun _ _ h => h) (fun E9 ce q9 u9 t9 H locs ht hvm hu hB hz1 hk1 hS hce hcv hcl => ?_) (fun r1 ur1 t9 H locs ht hvm hw hW hz1 hk1 hS => ?_)
  · obtain ⟨hp, hW⟩ := hB
    have hW := cf_W.er ht hW
    obtain ⟨rfl, n0⟩ := hp
    refine vx_catch (E := cf_iae) (own := RL) (name := "java/lang/IllegalArgumentException") hown [] ⟨0, 9, 12, 15⟩ [] htab (fun z9 hz => absurd hz List.not_mem_nil) rfl (by decide) (hts (.classLink RL 15 "java/lang/IllegalArgumentException") (List.mem_of_getElem? (i := 1) rfl)) (va_Nw.use rfl (hT.2.2.1 (cf_iae, cf_iae) (List.mem_of_getElem? (i := 1) rfl))) hce hcv hcl ?_
    refine lv_astore_n (lv' := [(3, .ref q9), (0, .ref (ad 5 0)), (1, .int x), (2, .ref (ad 18 0))]) hx hb dL_propose_12 rfl hl (by decide) rfl (fun ls hl => ?_)
    refine lv_iconst (v := 1) hx hb dL_propose_13 (by decide) ?_
    refine vx_ret ?_
    refine W.widen (k := 1) (n := 6) (by omega) (by omega) ?_
    exact W.iret (v := 1) hx hb hr (fun t9 ht9 hw9 => ⟨⟨1, (nc, ng, S, P, O, ad), rfl, Or.inl ⟨rfl, n0, rfl⟩, cf_W.re ht9 hW⟩, hS.F ht9⟩) hS.2.2 dL_propose_14
  have hW := cf_W.er ht hW
  have hW : cf_W D z (cf_E cT nc ng S P O ad) ad H := hW
  refine lv_i2l (v := r1.toInt64) hx hb dL_propose_7 rfl ?_
  refine cf_last (k := 18) (i := 0) (ad := ad) (f := O) (j := 0) hx hb hT.1 hW hS 2 cf_e18 rfl (show vp_in 0 1 from vp_in_nI (show (0 : Nat) < 1 by decide) (by decide)) dL_propose_8 (fun H locs hW hS => ?_)
  have hW := cf_W.eqv hW (cf_upO (x := r1.toInt64) (j := (0 : Int32).toNatClampNeg) rfl)
  refine lv_goto (tgt := 15) hx hb dL_propose_9 (by decide) ?_
  refine lv_iconst (v := 0) hx hb dL_propose_15 (by decide) ?_
  refine vx_ret ?_
  refine W.widen (k := 1) (n := 6) (by omega) (by omega) ?_
  exact W.iret (v := 0) hx hb hr (fun t9 ht9 hw9 => ⟨⟨0, (nc, ng, S, P, vp_updL O 0 r1.toInt64, ad), rfl, Or.inr (⟨rfl, r1, hw, rfl⟩), cf_W.re ht9 hW⟩, hS.F ht9⟩) hS.2.2 dL_propose_16
