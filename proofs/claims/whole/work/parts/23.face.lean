set_option maxHeartbeats 4000000 in
set_option maxRecDepth 100000 in
/-- X5_minute -/
theorem c_X5_minute (l : Launch) (D : va_G) (cT : Nat → ClassId) (z : Nat) (ad : cf_Ad) (nc ng : Nat) (S : cf_S) (P : cf_Pt) (O : Nat → Int64)  : Met l yX5_minute wsX5_minute ({ frames := 0, cells := 0, slots := 0, locals := 0 }) (va_Pc [.ref (ad 5 0)] (cf_P D cT z (cf_E cT nc ng S P O ad) ad)) (cf_Qi D z (fun (r : Int32) (_ : Unit) => r = S 5 0 2) (fun _ => (cf_E cT nc ng S P O ad)) (fun _ => ad)) 0 0 (fun q => z ≤ q) := by
  refine Met.ofW (cc := cX5_minute) (maxL := 1) (ret := (some .int)) (by decide) rfl ?_
  intro p e s m args below meth c s₁ B hml hv
  obtain ⟨rfl, hW, hT⟩ := hv
  have hx := B.exec
  have hb := B.bytes
  have hr := B.returns
  have hts := atoms_spec (ws := wsX5_minute) B.pre
  have hown : s.vm.findClass RX5 = some m.cls := findClass_of_methodNamed B.named
  have hlocks := B.notSynchronized
  have hS : va_S (fun q => z ≤ q) s.heap s.heap [] := va_S.rf
  have hl := lv_entry ([.ref (ad 5 0)]) (n := 1) (Nat.le_of_ble_eq_true rfl)
  rw [lg_entry_eq]
  generalize (lg_sl ([.ref (ad 5 0)]) ++ List.replicate (1 - (lg_sl ([.ref (ad 5 0)])).length) Slot.unset).toArray = ls at hl ⊢
  have hl : lv_has ls 1 [(0, .ref (ad 5 0))] := hl
  skip
  refine lv_aload_n hx hb dX5_minute_0 rfl (lv_at hl 0 rfl) ?_
  refine cf_get (v := .int (S 5 0 2)) (ci := 5) (C := RX5) (T := TX5) (N := 9) hx hb hts (fun _ h => List.mem_cons_of_mem _ (List.mem_append_right _ (h))) hown hT.1 hW cf_e5 rfl 8 (by decide) (hts (.fieldLink RX5 49 "GameCafe" "now" "I") (List.mem_of_getElem? (i := 1) rfl)) (fun _ h9 => h9) rfl dX5_minute_1 ?_
  exact W.iret (v := (S 5 0 2)) hx hb hr (fun t9 ht9 hw9 => ⟨⟨(S 5 0 2), (), rfl, rfl, cf_W.re ht9 hW⟩, hS.F ht9⟩) hS.2.2 dX5_minute_4
set_option maxHeartbeats 4000000 in
set_option maxRecDepth 100000 in
/-- X5_copies -/
theorem c_X5_copies (l : Launch) (D : va_G) (cT : Nat → ClassId) (z : Nat) (ad : cf_Ad) (nc ng : Nat) (S : cf_S) (P : cf_Pt) (O : Nat → Int64)  : Met l yX5_copies wsX5_copies ({ frames := 0, cells := 0, slots := 0, locals := 0 }) (va_Pc [.ref (ad 5 0)] (cf_P D cT z (cf_E cT nc ng S P O ad) ad)) (cf_Qi D z (fun (r : Int32) (_ : Unit) => r = S 5 0 0) (fun _ => (cf_E cT nc ng S P O ad)) (fun _ => ad)) 0 0 (fun q => z ≤ q) := by
  refine Met.ofW (cc := cX5_copies) (maxL := 1) (ret := (some .int)) (by decide) rfl ?_
  intro p e s m args below meth c s₁ B hml hv
  obtain ⟨rfl, hW, hT⟩ := hv
  have hx := B.exec
  have hb := B.bytes
  have hr := B.returns
  have hts := atoms_spec (ws := wsX5_copies) B.pre
  have hown : s.vm.findClass RX5 = some m.cls := findClass_of_methodNamed B.named
  have hlocks := B.notSynchronized
  have hS : va_S (fun q => z ≤ q) s.heap s.heap [] := va_S.rf
  have hl := lv_entry ([.ref (ad 5 0)]) (n := 1) (Nat.le_of_ble_eq_true rfl)
  rw [lg_entry_eq]
  generalize (lg_sl ([.ref (ad 5 0)]) ++ List.replicate (1 - (lg_sl ([.ref (ad 5 0)])).length) Slot.unset).toArray = ls at hl ⊢
  have hl : lv_has ls 1 [(0, .ref (ad 5 0))] := hl
  skip
  refine lv_aload_n hx hb dX5_copies_0 rfl (lv_at hl 0 rfl) ?_
  refine cf_get (v := .int (S 5 0 0)) (ci := 5) (C := RX5) (T := TX5) (N := 9) hx hb hts (fun _ h => List.mem_cons_of_mem _ (List.mem_append_right _ (h))) hown hT.1 hW cf_e5 rfl 6 (by decide) (hts (.fieldLink RX5 42 "GameCafe" "bought" "I") (List.mem_of_getElem? (i := 1) rfl)) (fun _ h9 => h9) rfl dX5_copies_1 ?_
  exact W.iret (v := (S 5 0 0)) hx hb hr (fun t9 ht9 hw9 => ⟨⟨(S 5 0 0), (), rfl, rfl, cf_W.re ht9 hW⟩, hS.F ht9⟩) hS.2.2 dX5_copies_4
set_option maxHeartbeats 4000000 in
set_option maxRecDepth 100000 in
/-- X5_parts -/
theorem c_X5_parts (l : Launch) (D : va_G) (cT : Nat → ClassId) (z : Nat) (ad : cf_Ad) (nc ng : Nat) (S : cf_S) (P : cf_Pt) (O : Nat → Int64) (hl0 : l.stackTraces = false) (x y : Int32) (hnc : nc ≤ 15) (hO : ∀ j, j < 15 → P 14 0 j = if j < nc then j + 1 else 0) : vx_Met l yX5_parts wsX5_parts ({ frames := 7, cells := 2, slots := 12, locals := 103 }) (va_Pc [.ref (ad 5 0), .int x, .int y] (cf_P D cT z (cf_E cT nc ng S P O ad) ad)) (cf_Qi D z (fun (r : Int32) (_ : Unit) => ∃ cp k : Nat, cp < nc ∧ x = nI cp ∧ k < 4 ∧ y = nI k ∧ r = S 7 cp k) (fun _ => (cf_E cT nc ng S P O ad)) (fun _ => ad)) (cf_X D z (cf_E cT nc ng S P O ad) ad (cf_x1 (cf_ix x nc ∧ cf_ix y 4))) 2 12 (fun q => z ≤ q) := by
  refine vx_ofW (cc := cX5_parts) (maxL := 4) (ret := (some .int)) (by decide) rfl ?_
  intro p e s m args below meth c s₁ B hml htab hv
  obtain ⟨rfl, hW, hT⟩ := hv
  have hx := B.exec
  have hb := B.bytes
  have hr := B.returns
  have hts := atoms_spec (ws := wsX5_parts) B.pre
  have hown : s.vm.findClass RX5 = some m.cls := findClass_of_methodNamed B.named
  have hlocks := B.notSynchronized
  have hS : va_S (fun q => z ≤ q) s.heap s.heap [] := va_S.rf
  have hl := lv_entry ([.ref (ad 5 0), .int x, .int y]) (n := 4) (Nat.le_of_ble_eq_true rfl)
  rw [lg_entry_eq]
  generalize (lg_sl ([.ref (ad 5 0), .int x, .int y]) ++ List.replicate (4 - (lg_sl ([.ref (ad 5 0), .int x, .int y])).length) Slot.unset).toArray = ls at hl ⊢
  have hl : lv_has ls 4 [(0, .ref (ad 5 0)), (1, .int x), (2, .int y)] := hl
  skip
  refine lv_aload_n hx hb dX5_parts_0 rfl (lv_at hl 0 rfl) ?_
  refine lv_iload_n hx hb dX5_parts_1 rfl (lv_at hl 1 rfl) ?_
  refine vx_callq (vx_runV (As := [.int x]) (rest := []) ⟨hx, hb, hml, hown, hts⟩ (c_X5_copyNumbered l D cT z ad nc ng S P O hl0 x hnc hO) (cwV 1 hts gX5_parts_X5_copyNumbered rfl rfl rfl (by decide +kernel) ⟨Nat.le_of_ble_eq_true rfl, Nat.le_of_ble_eq_true rfl⟩) (cf_preV (T := TX5) (N := 9) hT hS hW cf_e5 rfl) rfl rfl hl.1 rfl (lv_room (Nat.le_of_ble_eq_true rfl)) dX5_parts_2 ⟨Nat.le_of_ble_eq_true rfl, Nat.le_of_ble_eq_true rfl⟩) hS (fun _ _ h => h) (fun _ h => h) (fun _ _ h => h) (fun E9 ce q9 u9 t9 H locs ht hvm hu hB hz1 hk1 hS hce hcv hcl => ?_) (fun r1 ur1 t9 H locs ht hvm hw hW hz1 hk1 hS => ?_)
  · obtain ⟨hp, hW⟩ := hB
    have hW := cf_W.er ht hW
    exact cf_pass htab hlocks hce hcv hcl hS hW (⟨hp.1, fun q => hp.2 q.1⟩) ⟨Nat.le_of_ble_eq_true rfl, Nat.le_of_ble_eq_true rfl⟩
  have hW := cf_W.er ht hW
  obtain ⟨cp, hc, hxc, rfl⟩ := hw
  refine lv_astore_n (lv' := [(3, .ref (ad 0 cp)), (0, .ref (ad 5 0)), (1, .int x), (2, .int y)]) hx hb dX5_parts_5 rfl hl (by decide) rfl (fun ls hl => ?_)
  refine lv_iload_n hx hb dX5_parts_6 rfl (lv_at hl 3 rfl) ?_
  refine lv_iconst (v := 4) hx hb dX5_parts_7 (by decide) ?_
  refine vx_callv (vx_runS (As := [.int y, .int 4]) (rest := []) ⟨hx, hb, hml, hown, hts⟩ (c_X5_checkNumber l D cT z ad _ y 4 4 (by decide) rfl hl0) (va_cwS 2 hts gX5_parts_X5_checkNumber rfl rfl rfl (by decide +kernel) ⟨Nat.le_of_ble_eq_true rfl, Nat.le_of_ble_eq_true rfl⟩) (cf_preS hT hS hW) rfl rfl hl.1 rfl (lv_room (Nat.le_of_ble_eq_true rfl)) dX5_parts_8 ⟨Nat.le_of_ble_eq_true rfl, Nat.le_of_ble_eq_true rfl⟩) hS (fun _ _ h => h) (fun _ h => h) (fun _ _ h => h) (fun E9 ce q9 u9 t9 H locs ht hvm hu hB hz1 hk1 hS hce hcv hcl => ?_) (fun ur2 t9 H locs ht hvm hw hW hz1 hk1 hS => ?_)
  · obtain ⟨hp, hW⟩ := hB
    have hW := cf_W.er ht hW
    exact cf_pass htab hlocks hce hcv hcl hS hW (⟨hp.1, fun q => hp.2 q.2⟩) ⟨Nat.le_of_ble_eq_true rfl, Nat.le_of_ble_eq_true rfl⟩
  have hW := cf_W.er ht hW
  have hy := hw
  obtain ⟨k, hk, hyk⟩ := hy
  refine lv_aload_n hx hb dX5_parts_11 rfl (lv_at hl 0 rfl) ?_
  refine cf_get (v := .ref (ad 7 cp)) (ci := 0) (C := RX0) (T := TX0) (N := 4) hx hb hts (fun _ h => List.mem_cons_of_mem _ (List.mem_append_left _ (List.mem_append_left _ (List.mem_append_right _ (h))))) hown hT.1 hW (cf_e0 hc) rfl 2 (by decide) (hts (.fieldLink RX5 106 "GameCafe$Copy" "has" "[I") (List.mem_of_getElem? (i := 1) rfl)) (fun _ h9 => h9) rfl dX5_parts_12 ?_
  refine lv_iload_n hx hb dX5_parts_15 rfl (lv_at hl 3 rfl) ?_
  refine cf_ildN (t0 := 0) (n := 4) (f := S 7 cp) (v := (S 7 cp k)) hx hb hT.1 hW (cf_e7 hc) rfl k hyk hk (by decide) dX5_parts_16 rfl ?_
  refine vx_ret ?_
  refine W.widen (k := 2) (n := 12) (by omega) (by omega) ?_
  exact W.iret (v := (S 7 cp k)) hx hb hr (fun t9 ht9 hw9 => ⟨⟨(S 7 cp k), (), rfl, ⟨cp, k, hc, hxc, hk, hyk, rfl⟩, cf_W.re ht9 hW⟩, hS.F ht9⟩) hS.2.2 dX5_parts_17
set_option maxHeartbeats 4000000 in
set_option maxRecDepth 100000 in
/-- X5_canBePlayed -/
theorem c_X5_canBePlayed (l : Launch) (D : va_G) (cT : Nat → ClassId) (z : Nat) (ad : cf_Ad) (nc ng : Nat) (S : cf_S) (P : cf_Pt) (O : Nat → Int64) (hl0 : l.stackTraces = false) (x : Int32) (hnc : nc ≤ 15) (hO : ∀ j, j < 15 → P 14 0 j = if j < nc then j + 1 else 0) (hG : ∀ j, j < nc → P 0 j 0 < 5) : vx_Met l yX5_canBePlayed wsX5_canBePlayed ({ frames := 7, cells := 1, slots := 6, locals := 103 }) (va_Pc [.ref (ad 5 0), .int x] (cf_P D cT z (cf_E cT nc ng S P O ad) ad)) (cf_Qi D z (fun (r : Int32) (_ : Unit) => ∃ cp : Nat, cp < nc ∧ x = nI cp ∧ cf_B r (cf_play (S 7 cp) (S 9 (P 0 cp 0)))) (fun _ => (cf_E cT nc ng S P O ad)) (fun _ => ad)) (cf_X D z (cf_E cT nc ng S P O ad) ad (cf_x1 (cf_ix x nc))) 1 6 (fun q => z ≤ q) := by
  refine vx_ofW (cc := cX5_canBePlayed) (maxL := 2) (ret := (some .boolean)) (by decide) rfl ?_
  intro p e s m args below meth c s₁ B hml htab hv
  obtain ⟨rfl, hW, hT⟩ := hv
  have hx := B.exec
  have hb := B.bytes
  have hr := B.returns
  have hts := atoms_spec (ws := wsX5_canBePlayed) B.pre
  have hown : s.vm.findClass RX5 = some m.cls := findClass_of_methodNamed B.named
  have hlocks := B.notSynchronized
  have hS : va_S (fun q => z ≤ q) s.heap s.heap [] := va_S.rf
  have hl := lv_entry ([.ref (ad 5 0), .int x]) (n := 2) (Nat.le_of_ble_eq_true rfl)
  rw [lg_entry_eq]
  generalize (lg_sl ([.ref (ad 5 0), .int x]) ++ List.replicate (2 - (lg_sl ([.ref (ad 5 0), .int x])).length) Slot.unset).toArray = ls at hl ⊢
  have hl : lv_has ls 2 [(0, .ref (ad 5 0)), (1, .int x)] := hl
  skip
  refine lv_aload_n hx hb dX5_canBePlayed_0 rfl (lv_at hl 0 rfl) ?_
  refine lv_iload_n hx hb dX5_canBePlayed_1 rfl (lv_at hl 1 rfl) ?_
  refine vx_callq (vx_runV (As := [.int x]) (rest := []) ⟨hx, hb, hml, hown, hts⟩ (c_X5_copyNumbered l D cT z ad nc ng S P O hl0 x hnc hO) (cwV 1 hts gX5_canBePlayed_X5_copyNumbered rfl rfl rfl (by decide +kernel) ⟨Nat.le_of_ble_eq_true rfl, Nat.le_of_ble_eq_true rfl⟩) (cf_preV (T := TX5) (N := 9) hT hS hW cf_e5 rfl) rfl rfl hl.1 rfl (lv_room (Nat.le_of_ble_eq_true rfl)) dX5_canBePlayed_2 ⟨Nat.le_of_ble_eq_true rfl, Nat.le_of_ble_eq_true rfl⟩) hS (fun _ _ h => h) (fun _ h => h) (fun _ _ h => h) (fun E9 ce q9 u9 t9 H locs ht hvm hu hB hz1 hk1 hS hce hcv hcl => ?_) (fun r1 ur1 t9 H locs ht hvm hw hW hz1 hk1 hS => ?_)
  · obtain ⟨hp, hW⟩ := hB
    have hW := cf_W.er ht hW
    exact cf_pass htab hlocks hce hcv hcl hS hW (hp) ⟨Nat.le_of_ble_eq_true rfl, Nat.le_of_ble_eq_true rfl⟩
  have hW := cf_W.er ht hW
  obtain ⟨cp, hc, hxc, rfl⟩ := hw
  refine va_calli (va_runV (As := []) (rest := []) ⟨hx, hb, hml, hown, hts⟩ (c_X0_isPlayable l D cT z ad nc ng S P O hc (hG cp hc)) (cwV 0 hts gX5_canBePlayed_X0_isPlayable rfl rfl rfl (by decide +kernel) ⟨Nat.le_of_ble_eq_true rfl, Nat.le_of_ble_eq_true rfl⟩) (cf_preV (T := TX0) (N := 4) hT hS hW (cf_e0 hc) rfl) rfl rfl hl.1 rfl (lv_room (Nat.le_of_ble_eq_true rfl)) dX5_canBePlayed_5 ⟨Nat.le_of_ble_eq_true rfl, Nat.le_of_ble_eq_true rfl⟩) hS (fun _ _ h => h) (fun _ h => h) (fun r2 ur2 t9 H locs ht hvm hw hW hz1 hk1 hS => ?_)
  have hW := cf_W.er ht hW
  refine vx_ret ?_
  refine W.widen (k := 1) (n := 6) (by omega) (by omega) ?_
  exact W.zret (v := r2) (ty := .boolean) hx hb hr hw.nar (fun t9 ht9 hw9 => ⟨⟨r2, (), rfl, ⟨cp, hc, hxc, hw⟩, cf_W.re ht9 hW⟩, hS.F ht9⟩) hS.2.2 dX5_canBePlayed_8
set_option maxHeartbeats 4000000 in
set_option maxRecDepth 100000 in
/-- X5_whereIs -/
theorem c_X5_whereIs (l : Launch) (D : va_G) (cT : Nat → ClassId) (z : Nat) (ad : cf_Ad) (nc ng : Nat) (S : cf_S) (P : cf_Pt) (O : Nat → Int64) (hl0 : l.stackTraces = false) (x : Int32) (hnc : nc ≤ 15) (hO : ∀ j, j < 15 → P 14 0 j = if j < nc then j + 1 else 0) : vx_Met l yX5_whereIs wsX5_whereIs ({ frames := 7, cells := 1, slots := 6, locals := 103 }) (va_Pc [.ref (ad 5 0), .int x] (cf_P D cT z (cf_E cT nc ng S P O ad) ad)) (cf_Qi D z (fun (r : Int32) (_ : Unit) => ∃ cp : Nat, cp < nc ∧ x = nI cp ∧ r = S 0 cp 0) (fun _ => (cf_E cT nc ng S P O ad)) (fun _ => ad)) (cf_X D z (cf_E cT nc ng S P O ad) ad (cf_x1 (cf_ix x nc))) 1 6 (fun q => z ≤ q) := by
  refine vx_ofW (cc := cX5_whereIs) (maxL := 2) (ret := (some .int)) (by decide) rfl ?_
  intro p e s m args below meth c s₁ B hml htab hv
  obtain ⟨rfl, hW, hT⟩ := hv
  have hx := B.exec
  have hb := B.bytes
  have hr := B.returns
  have hts := atoms_spec (ws := wsX5_whereIs) B.pre
  have hown : s.vm.findClass RX5 = some m.cls := findClass_of_methodNamed B.named
  have hlocks := B.notSynchronized
  have hS : va_S (fun q => z ≤ q) s.heap s.heap [] := va_S.rf
  have hl := lv_entry ([.ref (ad 5 0), .int x]) (n := 2) (Nat.le_of_ble_eq_true rfl)
  rw [lg_entry_eq]
  generalize (lg_sl ([.ref (ad 5 0), .int x]) ++ List.replicate (2 - (lg_sl ([.ref (ad 5 0), .int x])).length) Slot.unset).toArray = ls at hl ⊢
  have hl : lv_has ls 2 [(0, .ref (ad 5 0)), (1, .int x)] := hl
  skip
  refine lv_aload_n hx hb dX5_whereIs_0 rfl (lv_at hl 0 rfl) ?_
  refine lv_iload_n hx hb dX5_whereIs_1 rfl (lv_at hl 1 rfl) ?_
  refine vx_callq (vx_runV (As := [.int x]) (rest := []) ⟨hx, hb, hml, hown, hts⟩ (c_X5_copyNumbered l D cT z ad nc ng S P O hl0 x hnc hO) (cwV 1 hts gX5_whereIs_X5_copyNumbered rfl rfl rfl (by decide +kernel) ⟨Nat.le_of_ble_eq_true rfl, Nat.le_of_ble_eq_true rfl⟩) (cf_preV (T := TX5) (N := 9) hT hS hW cf_e5 rfl) rfl rfl hl.1 rfl (lv_room (Nat.le_of_ble_eq_true rfl)) dX5_whereIs_2 ⟨Nat.le_of_ble_eq_true rfl, Nat.le_of_ble_eq_true rfl⟩) hS (fun _ _ h => h) (fun _ h => h) (fun _ _ h => h) (fun E9 ce q9 u9 t9 H locs ht hvm hu hB hz1 hk1 hS hce hcv hcl => ?_) (fun r1 ur1 t9 H locs ht hvm hw hW hz1 hk1 hS => ?_)
  · obtain ⟨hp, hW⟩ := hB
    have hW := cf_W.er ht hW
    exact cf_pass htab hlocks hce hcv hcl hS hW (hp) ⟨Nat.le_of_ble_eq_true rfl, Nat.le_of_ble_eq_true rfl⟩
  have hW := cf_W.er ht hW
  obtain ⟨cp, hc, hxc, rfl⟩ := hw
  refine cf_get (v := .int (S 0 cp 0)) (ci := 0) (C := RX0) (T := TX0) (N := 4) hx hb hts (fun _ h => List.mem_cons_of_mem _ (List.mem_append_left _ (List.mem_append_left _ (List.mem_append_right _ (h))))) hown hT.1 hW (cf_e0 hc) rfl 3 (by decide) (hts (.fieldLink RX5 109 "GameCafe$Copy" "place" "I") (List.mem_of_getElem? (i := 1) rfl)) (fun _ h9 => h9) rfl dX5_whereIs_5 ?_
  refine vx_ret ?_
  refine W.widen (k := 1) (n := 6) (by omega) (by omega) ?_
  exact W.iret (v := (S 0 cp 0)) hx hb hr (fun t9 ht9 hw9 => ⟨⟨(S 0 cp 0), (), rfl, ⟨cp, hc, hxc, rfl⟩, cf_W.re ht9 hW⟩, hS.F ht9⟩) hS.2.2 dX5_whereIs_8
set_option maxHeartbeats 4000000 in
set_option maxRecDepth 100000 in
/-- X5_at -/
theorem c_X5_at (l : Launch) (D : va_G) (cT : Nat → ClassId) (z : Nat) (ad : cf_Ad) (nc ng : Nat) (S : cf_S) (P : cf_Pt) (O : Nat → Int64) (hl0 : l.stackTraces = false) (x : Int32) : vx_Met l yX5_at wsX5_at ({ frames := 7, cells := 1, slots := 6, locals := 103 }) (va_Pc [.ref (ad 5 0), .int x] (cf_P D cT z (cf_E cT nc ng S P O ad) ad)) (cf_Qi D z (fun (r : Int32) (_ : Unit) => ∃ j : Nat, j < 6 ∧ x = nI j ∧ r = S 3 j 1) (fun _ => (cf_E cT nc ng S P O ad)) (fun _ => ad)) (cf_X D z (cf_E cT nc ng S P O ad) ad (cf_x1 (cf_ix x 6))) 1 6 (fun q => z ≤ q) := by
  refine vx_ofW (cc := cX5_at) (maxL := 2) (ret := (some .int)) (by decide) rfl ?_
  intro p e s m args below meth c s₁ B hml htab hv
  obtain ⟨rfl, hW, hT⟩ := hv
  have hx := B.exec
  have hb := B.bytes
  have hr := B.returns
  have hts := atoms_spec (ws := wsX5_at) B.pre
  have hown : s.vm.findClass RX5 = some m.cls := findClass_of_methodNamed B.named
  have hlocks := B.notSynchronized
  have hS : va_S (fun q => z ≤ q) s.heap s.heap [] := va_S.rf
  have hl := lv_entry ([.ref (ad 5 0), .int x]) (n := 2) (Nat.le_of_ble_eq_true rfl)
  rw [lg_entry_eq]
  generalize (lg_sl ([.ref (ad 5 0), .int x]) ++ List.replicate (2 - (lg_sl ([.ref (ad 5 0), .int x])).length) Slot.unset).toArray = ls at hl ⊢
  have hl : lv_has ls 2 [(0, .ref (ad 5 0)), (1, .int x)] := hl
  skip
  refine lv_iload_n hx hb dX5_at_0 rfl (lv_at hl 1 rfl) ?_
  refine lv_bipush (v := 6) hx hb dX5_at_1 (by decide) ?_
  refine vx_callv (vx_runS (As := [.int x, .int 6]) (rest := []) ⟨hx, hb, hml, hown, hts⟩ (c_X5_checkNumber l D cT z ad _ x 6 6 (by decide) rfl hl0) (va_cwS 2 hts gX5_at_X5_checkNumber rfl rfl rfl (by decide +kernel) ⟨Nat.le_of_ble_eq_true rfl, Nat.le_of_ble_eq_true rfl⟩) (cf_preS hT hS hW) rfl rfl hl.1 rfl (lv_room (Nat.le_of_ble_eq_true rfl)) dX5_at_3 ⟨Nat.le_of_ble_eq_true rfl, Nat.le_of_ble_eq_true rfl⟩) hS (fun _ _ h => h) (fun _ h => h) (fun _ _ h => h) (fun E9 ce q9 u9 t9 H locs ht hvm hu hB hz1 hk1 hS hce hcv hcl => ?_) (fun ur1 t9 H locs ht hvm hw hW hz1 hk1 hS => ?_)
  · obtain ⟨hp, hW⟩ := hB
    have hW := cf_W.er ht hW
    exact cf_pass htab hlocks hce hcv hcl hS hW (hp) ⟨Nat.le_of_ble_eq_true rfl, Nat.le_of_ble_eq_true rfl⟩
  have hW := cf_W.er ht hW
  have hi := hw
  obtain ⟨j, hj, hxj⟩ := hi
  refine lv_aload_n hx hb dX5_at_6 rfl (lv_at hl 0 rfl) ?_
  refine cf_get (v := .ref (ad 12 0)) (ci := 5) (C := RX5) (T := TX5) (N := 9) hx hb hts (fun _ h => List.mem_cons_of_mem _ (List.mem_append_left _ (List.mem_append_left _ (List.mem_append_right _ (h))))) hown hT.1 hW cf_e5 rfl 1 (by decide) (hts (.fieldLink RX5 17 "GameCafe" "tables" "[LGameCafe$Table;") (List.mem_of_getElem? (i := 1) rfl)) (fun _ h9 => h9) rfl dX5_at_7 ?_
  refine lv_iload_n hx hb dX5_at_10 rfl (lv_at hl 1 rfl) ?_
  refine cf_aldN (t0 := 4) (C := RX3) (n := 6) (v := .ref (ad 3 j)) hx hb hT.1 hW cf_e12 rfl j hxj hj (by decide) dX5_at_11 rfl ?_
  refine cf_get (v := .int (S 3 j 1)) (ci := 3) (C := RX3) (T := TX3) (N := 3) hx hb hts (fun _ h => List.mem_cons_of_mem _ (List.mem_append_left _ (List.mem_append_right _ (h)))) hown hT.1 hW (cf_e3 hj) rfl 2 (by decide) (hts (.fieldLink RX5 80 "GameCafe$Table" "group" "I") (List.mem_of_getElem? (i := 2) rfl)) (fun _ h9 => h9) rfl dX5_at_12 ?_
  refine vx_ret ?_
  refine W.widen (k := 1) (n := 6) (by omega) (by omega) ?_
  exact W.iret (v := (S 3 j 1)) hx hb hr (fun t9 ht9 hw9 => ⟨⟨(S 3 j 1), (), rfl, ⟨j, hj, hxj, rfl⟩, cf_W.re ht9 hW⟩, hS.F ht9⟩) hS.2.2 dX5_at_15
set_option maxHeartbeats 4000000 in
set_option maxRecDepth 100000 in
/-- X5_copyOf -/
theorem c_X5_copyOf (l : Launch) (D : va_G) (cT : Nat → ClassId) (z : Nat) (ad : cf_Ad) (nc ng : Nat) (S : cf_S) (P : cf_Pt) (O : Nat → Int64) (hl0 : l.stackTraces = false) (x : Int32) (hQ : ∀ j, j < 60 → P 15 0 j = 0 ∨ (P 15 0 j = j + 1 ∧ j < ng)) (hL : ∀ j, j < ng → P 2 j 0 < nc ∧ P 2 j 1 < 6) : vx_Met l yX5_copyOf wsX5_copyOf ({ frames := 7, cells := 1, slots := 6, locals := 103 }) (va_Pc [.ref (ad 5 0), .int x] (cf_P D cT z (cf_E cT nc ng S P O ad) ad)) (cf_Qi D z (fun (r : Int32) (_ : Unit) => ∃ gp : Nat, gp < 60 ∧ x = nI gp ∧ P 15 0 gp = gp + 1 ∧ gp < ng ∧ r = nI (P 2 gp 0)) (fun _ => (cf_E cT nc ng S P O ad)) (fun _ => ad)) (cf_X D z (cf_E cT nc ng S P O ad) ad (cf_x1 (cf_lv P x))) 1 6 (fun q => z ≤ q) := by
  refine vx_ofW (cc := cX5_copyOf) (maxL := 2) (ret := (some .int)) (by decide) rfl ?_
  intro p e s m args below meth c s₁ B hml htab hv
  obtain ⟨rfl, hW, hT⟩ := hv
  have hx := B.exec
  have hb := B.bytes
  have hr := B.returns
  have hts := atoms_spec (ws := wsX5_copyOf) B.pre
  have hown : s.vm.findClass RX5 = some m.cls := findClass_of_methodNamed B.named
  have hlocks := B.notSynchronized
  have hS : va_S (fun q => z ≤ q) s.heap s.heap [] := va_S.rf
  have hl := lv_entry ([.ref (ad 5 0), .int x]) (n := 2) (Nat.le_of_ble_eq_true rfl)
  rw [lg_entry_eq]
  generalize (lg_sl ([.ref (ad 5 0), .int x]) ++ List.replicate (2 - (lg_sl ([.ref (ad 5 0), .int x])).length) Slot.unset).toArray = ls at hl ⊢
  have hl : lv_has ls 2 [(0, .ref (ad 5 0)), (1, .int x)] := hl
  skip
  refine lv_aload_n hx hb dX5_copyOf_0 rfl (lv_at hl 0 rfl) ?_
  refine lv_iload_n hx hb dX5_copyOf_1 rfl (lv_at hl 1 rfl) ?_
  refine vx_callq (vx_runV (As := [.int x]) (rest := []) ⟨hx, hb, hml, hown, hts⟩ (c_X5_groupNumbered l D cT z ad nc ng S P O hl0 x hQ) (cwV 1 hts gX5_copyOf_X5_groupNumbered rfl rfl rfl (by decide +kernel) ⟨Nat.le_of_ble_eq_true rfl, Nat.le_of_ble_eq_true rfl⟩) (cf_preV (T := TX5) (N := 9) hT hS hW cf_e5 rfl) rfl rfl hl.1 rfl (lv_room (Nat.le_of_ble_eq_true rfl)) dX5_copyOf_2 ⟨Nat.le_of_ble_eq_true rfl, Nat.le_of_ble_eq_true rfl⟩) hS (fun _ _ h => h) (fun _ h => h) (fun _ _ h => h) (fun E9 ce q9 u9 t9 H locs ht hvm hu hB hz1 hk1 hS hce hcv hcl => ?_) (fun r1 ur1 t9 H locs ht hvm hw hW hz1 hk1 hS => ?_)
  · obtain ⟨hp, hW⟩ := hB
    have hW := cf_W.er ht hW
    exact cf_pass htab hlocks hce hcv hcl hS hW (hp) ⟨Nat.le_of_ble_eq_true rfl, Nat.le_of_ble_eq_true rfl⟩
  have hW := cf_W.er ht hW
  obtain ⟨gp, hg60, hxg, hgP, hgn, rfl⟩ := hw
  refine cf_get (v := .ref (ad 0 (P 2 gp 0))) (ci := 2) (C := RX2) (T := TX2) (N := 4) hx hb hts (fun _ h => List.mem_cons_of_mem _ (List.mem_append_left _ (List.mem_append_left _ (List.mem_append_left _ (List.mem_append_right _ (h)))))) hown hT.1 hW (cf_e2 hgn) rfl 0 (by decide) (hts (.fieldLink RX5 162 "GameCafe$Group" "copy" "LGameCafe$Copy;") (List.mem_of_getElem? (i := 1) rfl)) (fun _ h9 => h9) rfl dX5_copyOf_5 ?_
  refine cf_get (v := .int (nI (P 2 gp 0))) (ci := 0) (C := RX0) (T := TX0) (N := 4) hx hb hts (fun _ h => List.mem_cons_of_mem _ (List.mem_append_left _ (List.mem_append_left _ (List.mem_append_right _ (h))))) hown hT.1 hW (cf_e0 (hL gp hgn).1) rfl 0 (by decide) (hts (.fieldLink RX5 200 "GameCafe$Copy" "number" "I") (List.mem_of_getElem? (i := 2) rfl)) (fun _ h9 => h9) rfl dX5_copyOf_8 ?_
  refine vx_ret ?_
  refine W.widen (k := 1) (n := 6) (by omega) (by omega) ?_
  exact W.iret (v := (nI (P 2 gp 0))) hx hb hr (fun t9 ht9 hw9 => ⟨⟨(nI (P 2 gp 0)), (), rfl, ⟨gp, hg60, hxg, hgP, hgn, rfl⟩, cf_W.re ht9 hW⟩, hS.F ht9⟩) hS.2.2 dX5_copyOf_11
set_option maxHeartbeats 4000000 in
set_option maxRecDepth 100000 in
/-- X5_teaching -/
theorem c_X5_teaching (l : Launch) (D : va_G) (cT : Nat → ClassId) (z : Nat) (ad : cf_Ad) (nc ng : Nat) (S : cf_S) (P : cf_Pt) (O : Nat → Int64) (hl0 : l.stackTraces = false) (x : Int32) : vx_Met l yX5_teaching wsX5_teaching ({ frames := 7, cells := 1, slots := 6, locals := 103 }) (va_Pc [.ref (ad 5 0), .int x] (cf_P D cT z (cf_E cT nc ng S P O ad) ad)) (cf_Qi D z (fun (r : Int32) (_ : Unit) => ∃ j : Nat, j < 3 ∧ x = nI j ∧ r = if 0 < S 4 j 0 - S 5 0 2 then S 4 j 0 - S 5 0 2 else 0) (fun _ => (cf_E cT nc ng S P O ad)) (fun _ => ad)) (cf_X D z (cf_E cT nc ng S P O ad) ad (cf_x1 (cf_ix x 3))) 1 6 (fun q => z ≤ q) := by
  refine vx_ofW (cc := cX5_teaching) (maxL := 2) (ret := (some .int)) (by decide) rfl ?_
  intro p e s m args below meth c s₁ B hml htab hv
  obtain ⟨rfl, hW, hT⟩ := hv
  have hx := B.exec
  have hb := B.bytes
  have hr := B.returns
  have hts := atoms_spec (ws := wsX5_teaching) B.pre
  have hown : s.vm.findClass RX5 = some m.cls := findClass_of_methodNamed B.named
  have hlocks := B.notSynchronized
  have hS : va_S (fun q => z ≤ q) s.heap s.heap [] := va_S.rf
  have hl := lv_entry ([.ref (ad 5 0), .int x]) (n := 2) (Nat.le_of_ble_eq_true rfl)
  rw [lg_entry_eq]
  generalize (lg_sl ([.ref (ad 5 0), .int x]) ++ List.replicate (2 - (lg_sl ([.ref (ad 5 0), .int x])).length) Slot.unset).toArray = ls at hl ⊢
  have hl : lv_has ls 2 [(0, .ref (ad 5 0)), (1, .int x)] := hl
  skip
  refine lv_iload_n hx hb dX5_teaching_0 rfl (lv_at hl 1 rfl) ?_
  refine lv_iconst (v := 3) hx hb dX5_teaching_1 (by decide) ?_
  refine vx_callv (vx_runS (As := [.int x, .int 3]) (rest := []) ⟨hx, hb, hml, hown, hts⟩ (c_X5_checkNumber l D cT z ad _ x 3 3 (by decide) rfl hl0) (va_cwS 2 hts gX5_teaching_X5_checkNumber rfl rfl rfl (by decide +kernel) ⟨Nat.le_of_ble_eq_true rfl, Nat.le_of_ble_eq_true rfl⟩) (cf_preS hT hS hW) rfl rfl hl.1 rfl (lv_room (Nat.le_of_ble_eq_true rfl)) dX5_teaching_2 ⟨Nat.le_of_ble_eq_true rfl, Nat.le_of_ble_eq_true rfl⟩) hS (fun _ _ h => h) (fun _ h => h) (fun _ _ h => h) (fun E9 ce q9 u9 t9 H locs ht hvm hu hB hz1 hk1 hS hce hcv hcl => ?_) (fun ur1 t9 H locs ht hvm hw hW hz1 hk1 hS => ?_)
  · obtain ⟨hp, hW⟩ := hB
    have hW := cf_W.er ht hW
    exact cf_pass htab hlocks hce hcv hcl hS hW (hp) ⟨Nat.le_of_ble_eq_true rfl, Nat.le_of_ble_eq_true rfl⟩
  have hW := cf_W.er ht hW
  have hi := hw
  obtain ⟨j, hj, hxj⟩ := hi
  refine lv_iconst (v := 0) hx hb dX5_teaching_5 (by decide) ?_
  refine lv_aload_n hx hb dX5_teaching_6 rfl (lv_at hl 0 rfl) ?_
  refine cf_get (v := .ref (ad 13 0)) (ci := 5) (C := RX5) (T := TX5) (N := 9) hx hb hts (fun _ h => List.mem_cons_of_mem _ (List.mem_append_left _ (List.mem_append_left _ (List.mem_append_right _ (h))))) hown hT.1 hW cf_e5 rfl 2 (by decide) (hts (.fieldLink RX5 23 "GameCafe" "staff" "[LGameCafe$Teacher;") (List.mem_of_getElem? (i := 1) rfl)) (fun _ h9 => h9) rfl dX5_teaching_7 ?_
  refine lv_iload_n hx hb dX5_teaching_10 rfl (lv_at hl 1 rfl) ?_
  refine cf_aldN (t0 := 5) (C := RX4) (n := 3) (v := .ref (ad 4 j)) hx hb hT.1 hW cf_e13 rfl j hxj hj (by decide) dX5_teaching_11 rfl ?_
  refine cf_get (v := .int (S 4 j 0)) (ci := 4) (C := RX4) (T := TX4) (N := 2) hx hb hts (fun _ h => List.mem_cons_of_mem _ (List.mem_append_left _ (List.mem_append_right _ (h)))) hown hT.1 hW (cf_e4 hj) rfl 1 (by decide) (hts (.fieldLink RX5 149 "GameCafe$Teacher" "busyUntil" "I") (List.mem_of_getElem? (i := 2) rfl)) (fun _ h9 => h9) rfl dX5_teaching_12 ?_
  refine lv_aload_n hx hb dX5_teaching_15 rfl (lv_at hl 0 rfl) ?_
  refine cf_get (v := .int (S 5 0 2)) (ci := 5) (C := RX5) (T := TX5) (N := 9) hx hb hts (fun _ h => List.mem_cons_of_mem _ (List.mem_append_left _ (List.mem_append_left _ (List.mem_append_right _ (h))))) hown hT.1 hW cf_e5 rfl 8 (by decide) (hts (.fieldLink RX5 49 "GameCafe" "now" "I") (List.mem_of_getElem? (i := 3) rfl)) (fun _ h9 => h9) rfl dX5_teaching_16 ?_
  refine lv_isub hx hb dX5_teaching_19 ?_
  refine va_mmax hx hb (hml.trans hl.1.symm) hown (hts (.methodLink RX5 201 Lib.Math.max.name) (List.mem_of_getElem? (i := 4) rfl)) (hts (.static Lib.Math.max.name) (List.mem_of_getElem? (i := 5) rfl)) (hts (.initialized "java/lang/Math") (List.mem_of_getElem? (i := 6) rfl)) (hts (.code Lib.Math.max.name Lib.Math.max.code 2 (some .int)) (List.mem_of_getElem? (i := 7) rfl)) (by decide) (by decide) (by decide) (by decide) dX5_teaching_20 ?_
  refine vx_ret ?_
  refine W.widen (k := 1) (n := 6) (by omega) (by omega) ?_
  exact W.iret (v := (if 0 < ((S 4 j 0) - (S 5 0 2)) then ((S 4 j 0) - (S 5 0 2)) else 0)) hx hb hr (fun t9 ht9 hw9 => ⟨⟨(if 0 < ((S 4 j 0) - (S 5 0 2)) then ((S 4 j 0) - (S 5 0 2)) else 0), (), rfl, ⟨j, hj, hxj, rfl⟩, cf_W.re ht9 hW⟩, hS.F ht9⟩) hS.2.2 dX5_teaching_23
set_option maxHeartbeats 4000000 in
set_option maxRecDepth 100000 in
/-- X5_plays -/
theorem c_X5_plays (l : Launch) (D : va_G) (cT : Nat → ClassId) (z : Nat) (ad : cf_Ad) (nc ng : Nat) (S : cf_S) (P : cf_Pt) (O : Nat → Int64) (hl0 : l.stackTraces = false) (x : Int32) : vx_Met l yX5_plays wsX5_plays ({ frames := 7, cells := 1, slots := 6, locals := 103 }) (va_Pc [.ref (ad 5 0), .int x] (cf_P D cT z (cf_E cT nc ng S P O ad) ad)) (cf_Qi D z (fun (r : Int32) (_ : Unit) => ∃ j : Nat, j < 5 ∧ x = nI j ∧ r = S 1 j 3) (fun _ => (cf_E cT nc ng S P O ad)) (fun _ => ad)) (cf_X D z (cf_E cT nc ng S P O ad) ad (cf_x1 (cf_ix x 5))) 1 6 (fun q => z ≤ q) := by
  refine vx_ofW (cc := cX5_plays) (maxL := 2) (ret := (some .int)) (by decide) rfl ?_
  intro p e s m args below meth c s₁ B hml htab hv
  obtain ⟨rfl, hW, hT⟩ := hv
  have hx := B.exec
  have hb := B.bytes
  have hr := B.returns
  have hts := atoms_spec (ws := wsX5_plays) B.pre
  have hown : s.vm.findClass RX5 = some m.cls := findClass_of_methodNamed B.named
  have hlocks := B.notSynchronized
  have hS : va_S (fun q => z ≤ q) s.heap s.heap [] := va_S.rf
  have hl := lv_entry ([.ref (ad 5 0), .int x]) (n := 2) (Nat.le_of_ble_eq_true rfl)
  rw [lg_entry_eq]
  generalize (lg_sl ([.ref (ad 5 0), .int x]) ++ List.replicate (2 - (lg_sl ([.ref (ad 5 0), .int x])).length) Slot.unset).toArray = ls at hl ⊢
  have hl : lv_has ls 2 [(0, .ref (ad 5 0)), (1, .int x)] := hl
  skip
  refine lv_iload_n hx hb dX5_plays_0 rfl (lv_at hl 1 rfl) ?_
  refine lv_iconst (v := 5) hx hb dX5_plays_1 (by decide) ?_
  refine vx_callv (vx_runS (As := [.int x, .int 5]) (rest := []) ⟨hx, hb, hml, hown, hts⟩ (c_X5_checkNumber l D cT z ad _ x 5 5 (by decide) rfl hl0) (va_cwS 2 hts gX5_plays_X5_checkNumber rfl rfl rfl (by decide +kernel) ⟨Nat.le_of_ble_eq_true rfl, Nat.le_of_ble_eq_true rfl⟩) (cf_preS hT hS hW) rfl rfl hl.1 rfl (lv_room (Nat.le_of_ble_eq_true rfl)) dX5_plays_2 ⟨Nat.le_of_ble_eq_true rfl, Nat.le_of_ble_eq_true rfl⟩) hS (fun _ _ h => h) (fun _ h => h) (fun _ _ h => h) (fun E9 ce q9 u9 t9 H locs ht hvm hu hB hz1 hk1 hS hce hcv hcl => ?_) (fun ur1 t9 H locs ht hvm hw hW hz1 hk1 hS => ?_)
  · obtain ⟨hp, hW⟩ := hB
    have hW := cf_W.er ht hW
    exact cf_pass htab hlocks hce hcv hcl hS hW (hp) ⟨Nat.le_of_ble_eq_true rfl, Nat.le_of_ble_eq_true rfl⟩
  have hW := cf_W.er ht hW
  have hi := hw
  obtain ⟨j, hj, hxj⟩ := hi
  refine lv_aload_n hx hb dX5_plays_5 rfl (lv_at hl 0 rfl) ?_
  refine cf_get (v := .ref (ad 11 0)) (ci := 5) (C := RX5) (T := TX5) (N := 9) hx hb hts (fun _ h => List.mem_cons_of_mem _ (List.mem_append_left _ (List.mem_append_left _ (List.mem_append_right _ (h))))) hown hT.1 hW cf_e5 rfl 0 (by decide) (hts (.fieldLink RX5 11 "GameCafe" "games" "[LGameCafe$Game;") (List.mem_of_getElem? (i := 1) rfl)) (fun _ h9 => h9) rfl dX5_plays_6 ?_
  refine lv_iload_n hx hb dX5_plays_9 rfl (lv_at hl 1 rfl) ?_
  refine cf_aldN (t0 := 3) (C := RX1) (n := 5) (v := .ref (ad 1 j)) hx hb hT.1 hW cf_e11 rfl j hxj hj (by decide) dX5_plays_10 rfl ?_
  refine cf_get (v := .int (S 1 j 3)) (ci := 1) (C := RX1) (T := TX1) (N := 6) hx hb hts (fun _ h => List.mem_cons_of_mem _ (List.mem_append_left _ (List.mem_append_right _ (h)))) hown hT.1 hW (cf_e1 hj) rfl 3 (by decide) (hts (.fieldLink RX5 175 "GameCafe$Game" "timesPlayed" "I") (List.mem_of_getElem? (i := 2) rfl)) (fun _ h9 => h9) rfl dX5_plays_11 ?_
  refine vx_ret ?_
  refine W.widen (k := 1) (n := 6) (by omega) (by omega) ?_
  exact W.iret (v := (S 1 j 3)) hx hb hr (fun t9 ht9 hw9 => ⟨⟨(S 1 j 3), (), rfl, ⟨j, hj, hxj, rfl⟩, cf_W.re ht9 hW⟩, hS.F ht9⟩) hS.2.2 dX5_plays_14
set_option maxHeartbeats 4000000 in
set_option maxRecDepth 100000 in
/-- X5_setGame -/
theorem c_X5_setGame (l : Launch) (D : va_G) (cT : Nat → ClassId) (z : Nat) (ad : cf_Ad) (nc ng : Nat) (S : cf_S) (P : cf_Pt) (O : Nat → Int64) (hl0 : l.stackTraces = false) (x a1 a2 a3 : Int32) : vx_Met l yX5_setGame wsX5_setGame ({ frames := 7, cells := 4, slots := 24, locals := 104 }) (va_Pc [.ref (ad 5 0), .int x, .int a1, .int a2, .int a3] (cf_P D cT z (cf_E cT nc ng S P O ad) ad)) (cf_Qv D z (fun (T : cf_S) => ∃ j : Nat, j < 5 ∧ x = nI j ∧ (cf_rg a1 1 8 ∧ cf_rg a2 a1 8 ∧ cf_rg a3 1 60) ∧ T = cf_s3 (cf_s3 (cf_s3 S 1 j 0 a1) 1 j 1 a2) 1 j 2 a3) (fun T => cf_E cT nc ng T P O ad) (fun _ => ad)) (cf_X D z (cf_E cT nc ng S P O ad) ad (cf_x12 (cf_ix x 5) (cf_rg a1 1 8 ∧ cf_rg a2 a1 8 ∧ cf_rg a3 1 60))) 4 24 (fun q => z ≤ q) := by
  refine vx_ofW (cc := cX5_setGame) (maxL := 6) (ret := none) (by decide) rfl ?_
  intro p e s m args below meth c s₁ B hml htab hv
  obtain ⟨rfl, hW, hT⟩ := hv
  have hx := B.exec
  have hb := B.bytes
  have hr := B.returns
  have hts := atoms_spec (ws := wsX5_setGame) B.pre
  have hown : s.vm.findClass RX5 = some m.cls := findClass_of_methodNamed B.named
  have hlocks := B.notSynchronized
  have hS : va_S (fun q => z ≤ q) s.heap s.heap [] := va_S.rf
  have hl := lv_entry ([.ref (ad 5 0), .int x, .int a1, .int a2, .int a3]) (n := 6) (Nat.le_of_ble_eq_true rfl)
  rw [lg_entry_eq]
  generalize (lg_sl ([.ref (ad 5 0), .int x, .int a1, .int a2, .int a3]) ++ List.replicate (6 - (lg_sl ([.ref (ad 5 0), .int x, .int a1, .int a2, .int a3])).length) Slot.unset).toArray = ls at hl ⊢
  have hl : lv_has ls 6 [(0, .ref (ad 5 0)), (1, .int x), (2, .int a1), (3, .int a2), (4, .int a3)] := hl
  skip
  refine lv_iload_n hx hb dX5_setGame_0 rfl (lv_at hl 1 rfl) ?_
  refine lv_iconst (v := 5) hx hb dX5_setGame_1 (by decide) ?_
  refine vx_callv (vx_runS (As := [.int x, .int 5]) (rest := []) ⟨hx, hb, hml, hown, hts⟩ (c_X5_checkNumber l D cT z ad _ x 5 5 (by decide) rfl hl0) (va_cwS 2 hts gX5_setGame_X5_checkNumber rfl rfl rfl (by decide +kernel) ⟨Nat.le_of_ble_eq_true rfl, Nat.le_of_ble_eq_true rfl⟩) (cf_preS hT hS hW) rfl rfl hl.1 rfl (lv_room (Nat.le_of_ble_eq_true rfl)) dX5_setGame_2 ⟨Nat.le_of_ble_eq_true rfl, Nat.le_of_ble_eq_true rfl⟩) hS (fun _ _ h => h) (fun _ h => h) (fun _ _ h => h) (fun E9 ce q9 u9 t9 H locs ht hvm hu hB hz1 hk1 hS hce hcv hcl => ?_) (fun ur1 t9 H locs ht hvm hw hW hz1 hk1 hS => ?_)
  · obtain ⟨hp, hW⟩ := hB
    have hW := cf_W.er ht hW
    exact cf_pass htab hlocks hce hcv hcl hS hW (Or.inl hp) ⟨Nat.le_of_ble_eq_true rfl, Nat.le_of_ble_eq_true rfl⟩
  have hW := cf_W.er ht hW
  have hi := hw
  refine lv_iload_n hx hb dX5_setGame_5 rfl (lv_at hl 2 rfl) ?_
  refine lv_iconst (v := 1) hx hb dX5_setGame_6 (by decide) ?_
  refine lv_bipush (v := 8) hx hb dX5_setGame_7 (by decide) ?_
  refine vx_callv (vx_runS (As := [.int a1, .int 1, .int 8]) (rest := []) ⟨hx, hb, hml, hown, hts⟩ (c_X5_checkRange l D cT z ad _ a1 1 8 hl0) (va_cwS 3 hts gX5_setGame_X5_checkRange rfl rfl rfl (by decide +kernel) ⟨Nat.le_of_ble_eq_true rfl, Nat.le_of_ble_eq_true rfl⟩) (cf_preS hT hS hW) rfl rfl hl.1 rfl (lv_room (Nat.le_of_ble_eq_true rfl)) dX5_setGame_9 ⟨Nat.le_of_ble_eq_true rfl, Nat.le_of_ble_eq_true rfl⟩) hS (fun _ _ h => h) (fun _ h => h) (fun _ _ h => h) (fun E9 ce q9 u9 t9 H locs ht hvm hu hB hz1 hk1 hS hce hcv hcl => ?_) (fun ur2 t9 H locs ht hvm hw hW hz1 hk1 hS => ?_)
  · obtain ⟨hp, hW⟩ := hB
    have hW := cf_W.er ht hW
    exact cf_pass htab hlocks hce hcv hcl hS hW (Or.inr ⟨hp.1, hi, fun q => hp.2 q.1⟩) ⟨Nat.le_of_ble_eq_true rfl, Nat.le_of_ble_eq_true rfl⟩
  have hW := cf_W.er ht hW
  have h1 := hw
  refine lv_iload_n hx hb dX5_setGame_12 rfl (lv_at hl 3 rfl) ?_
  refine lv_iload_n hx hb dX5_setGame_13 rfl (lv_at hl 2 rfl) ?_
  refine lv_bipush (v := 8) hx hb dX5_setGame_14 (by decide) ?_
  refine vx_callv (vx_runS (As := [.int a2, .int a1, .int 8]) (rest := []) ⟨hx, hb, hml, hown, hts⟩ (c_X5_checkRange l D cT z ad _ a2 a1 8 hl0) (va_cwS 3 hts gX5_setGame_X5_checkRange rfl rfl rfl (by decide +kernel) ⟨Nat.le_of_ble_eq_true rfl, Nat.le_of_ble_eq_true rfl⟩) (cf_preS hT hS hW) rfl rfl hl.1 rfl (lv_room (Nat.le_of_ble_eq_true rfl)) dX5_setGame_16 ⟨Nat.le_of_ble_eq_true rfl, Nat.le_of_ble_eq_true rfl⟩) hS (fun _ _ h => h) (fun _ h => h) (fun _ _ h => h) (fun E9 ce q9 u9 t9 H locs ht hvm hu hB hz1 hk1 hS hce hcv hcl => ?_) (fun ur3 t9 H locs ht hvm hw hW hz1 hk1 hS => ?_)
  · obtain ⟨hp, hW⟩ := hB
    have hW := cf_W.er ht hW
    exact cf_pass htab hlocks hce hcv hcl hS hW (Or.inr ⟨hp.1, hi, fun q => hp.2 q.2.1⟩) ⟨Nat.le_of_ble_eq_true rfl, Nat.le_of_ble_eq_true rfl⟩
  have hW := cf_W.er ht hW
  have h2 := hw
  refine lv_iload hx hb dX5_setGame_19 (lv_at hl 4 rfl) ?_
  refine lv_iconst (v := 1) hx hb dX5_setGame_21 (by decide) ?_
  refine lv_bipush (v := 60) hx hb dX5_setGame_22 (by decide) ?_
  refine vx_callv (vx_runS (As := [.int a3, .int 1, .int 60]) (rest := []) ⟨hx, hb, hml, hown, hts⟩ (c_X5_checkRange l D cT z ad _ a3 1 60 hl0) (va_cwS 3 hts gX5_setGame_X5_checkRange rfl rfl rfl (by decide +kernel) ⟨Nat.le_of_ble_eq_true rfl, Nat.le_of_ble_eq_true rfl⟩) (cf_preS hT hS hW) rfl rfl hl.1 rfl (lv_room (Nat.le_of_ble_eq_true rfl)) dX5_setGame_24 ⟨Nat.le_of_ble_eq_true rfl, Nat.le_of_ble_eq_true rfl⟩) hS (fun _ _ h => h) (fun _ h => h) (fun _ _ h => h) (fun E9 ce q9 u9 t9 H locs ht hvm hu hB hz1 hk1 hS hce hcv hcl => ?_) (fun ur4 t9 H locs ht hvm hw hW hz1 hk1 hS => ?_)
  · obtain ⟨hp, hW⟩ := hB
    have hW := cf_W.er ht hW
    exact cf_pass htab hlocks hce hcv hcl hS hW (Or.inr ⟨hp.1, hi, fun q => hp.2 q.2.2⟩) ⟨Nat.le_of_ble_eq_true rfl, Nat.le_of_ble_eq_true rfl⟩
  have hW := cf_W.er ht hW
  have h3 := hw
  obtain ⟨j, hj, hxj⟩ := hi
  refine lv_aload_n hx hb dX5_setGame_27 rfl (lv_at hl 0 rfl) ?_
  refine cf_get (v := .ref (ad 11 0)) (ci := 5) (C := RX5) (T := TX5) (N := 9) hx hb hts (fun _ h => List.mem_cons_of_mem _ (List.mem_append_left _ (List.mem_append_left _ (List.mem_append_left _ (List.mem_append_right _ (h)))))) hown hT.1 hW cf_e5 rfl 0 (by decide) (hts (.fieldLink RX5 11 "GameCafe" "games" "[LGameCafe$Game;") (List.mem_of_getElem? (i := 1) rfl)) (fun _ h9 => h9) rfl dX5_setGame_28 ?_
  refine lv_iload_n hx hb dX5_setGame_31 rfl (lv_at hl 1 rfl) ?_
  refine cf_aldN (t0 := 3) (C := RX1) (n := 5) (v := .ref (ad 1 j)) hx hb hT.1 hW cf_e11 rfl j hxj hj (by decide) dX5_setGame_32 rfl ?_
  refine lv_astore (lv' := [(5, .ref (ad 1 j)), (0, .ref (ad 5 0)), (1, .int x), (2, .int a1), (3, .int a2), (4, .int a3)]) hx hb dX5_setGame_33 hl (by decide) rfl (fun ls hl => ?_)
  refine lv_aload hx hb dX5_setGame_35 (lv_at hl 0 rfl) ?_
  refine lv_iload_n hx hb dX5_setGame_37 rfl (lv_at hl 3 rfl) ?_
  refine cf_putE (v := .int a1) (ty := .int) (ci := 1) (C := RX1) (T := TX1) (N := 6) hx hb hts (fun _ h => List.mem_cons_of_mem _ (List.mem_append_left _ (List.mem_append_left _ (List.mem_append_right _ (h))))) tyX1 tyX1_ok nmX1 hown hT.1 hW hS (cf_e1 hj) rfl 0 (by decide) (hts (.fieldLink RX5 64 "GameCafe$Game" "least" "I") (List.mem_of_getElem? (i := 2) rfl)) (fun _ h9 => h9) rfl (by decide +kernel) rfl rfl (Nat.le_of_ble_eq_true rfl) dX5_setGame_38 (E2 := (cf_E cT nc ng (cf_s3 S 1 j 0 a1) P O ad)) (cf_upS 1 j (upd (S 1 j) 0 a1) (cf_c1 hj)) (fun H locs hW hS => ?_)
  refine lv_aload hx hb dX5_setGame_41 (lv_at hl 0 rfl) ?_
  refine lv_iload_n hx hb dX5_setGame_43 rfl (lv_at hl 4 rfl) ?_
  refine cf_putE (v := .int a2) (ty := .int) (ci := 1) (C := RX1) (T := TX1) (N := 6) hx hb hts (fun _ h => List.mem_cons_of_mem _ (List.mem_append_left _ (List.mem_append_left _ (List.mem_append_right _ (h))))) tyX1 tyX1_ok nmX1 hown hT.1 hW hS (cf_e1 hj) rfl 1 (by decide) (hts (.fieldLink RX5 67 "GameCafe$Game" "most" "I") (List.mem_of_getElem? (i := 3) rfl)) (fun _ h9 => h9) rfl (by decide +kernel) rfl rfl (Nat.le_of_ble_eq_true rfl) dX5_setGame_44 (E2 := (cf_E cT nc ng (cf_s3 (cf_s3 S 1 j 0 a1) 1 j 1 a2) P O ad)) (cf_upS 1 j (upd ((cf_s3 S 1 j 0 a1) 1 j) 1 a2) (cf_c1 hj)) (fun H locs hW hS => ?_)
  refine lv_aload hx hb dX5_setGame_47 (lv_at hl 0 rfl) ?_
  refine lv_iload hx hb dX5_setGame_49 (lv_at hl 5 rfl) ?_
  refine cf_putE (v := .int a3) (ty := .int) (ci := 1) (C := RX1) (T := TX1) (N := 6) hx hb hts (fun _ h => List.mem_cons_of_mem _ (List.mem_append_left _ (List.mem_append_left _ (List.mem_append_right _ (h))))) tyX1 tyX1_ok nmX1 hown hT.1 hW hS (cf_e1 hj) rfl 2 (by decide) (hts (.fieldLink RX5 70 "GameCafe$Game" "lesson" "I") (List.mem_of_getElem? (i := 4) rfl)) (fun _ h9 => h9) rfl (by decide +kernel) rfl rfl (Nat.le_of_ble_eq_true rfl) dX5_setGame_51 (E2 := (cf_E cT nc ng (cf_s3 (cf_s3 (cf_s3 S 1 j 0 a1) 1 j 1 a2) 1 j 2 a3) P O ad)) (cf_upS 1 j (upd ((cf_s3 (cf_s3 S 1 j 0 a1) 1 j 1 a2) 1 j) 2 a3) (cf_c1 hj)) (fun H locs hW hS => ?_)
  refine vx_ret ?_
  refine W.widen (k := 4) (n := 24) (by omega) (by omega) ?_
  exact W.vret hx hb hr (fun t9 ht9 hw9 => ⟨⟨(cf_s3 (cf_s3 (cf_s3 S 1 j 0 a1) 1 j 1 a2) 1 j 2 a3), rfl, ⟨j, hj, hxj, ⟨h1, h2, h3⟩, rfl⟩, cf_W.re ht9 hW⟩, hS.F ht9⟩) hS.2.2 dX5_setGame_54
set_option maxHeartbeats 4000000 in
set_option maxRecDepth 100000 in
/-- X5_setParts -/
theorem c_X5_setParts (l : Launch) (D : va_G) (cT : Nat → ClassId) (z : Nat) (ad : cf_Ad) (nc ng : Nat) (S : cf_S) (P : cf_Pt) (O : Nat → Int64) (hl0 : l.stackTraces = false) (x y a1 a2 : Int32) : vx_Met l yX5_setParts wsX5_setParts ({ frames := 7, cells := 4, slots := 24, locals := 104 }) (va_Pc [.ref (ad 5 0), .int x, .int y, .int a1, .int a2] (cf_P D cT z (cf_E cT nc ng S P O ad) ad)) (cf_Qv D z (fun (T : cf_S) => ∃ j k : Nat, j < 5 ∧ x = nI j ∧ k < 4 ∧ y = nI k ∧ (cf_rg a1 0 20 ∧ cf_rg a2 0 a1) ∧ T = cf_s3 (cf_s3 S 8 j k a1) 9 j k a2) (fun T => cf_E cT nc ng T P O ad) (fun _ => ad)) (cf_X D z (cf_E cT nc ng S P O ad) ad (cf_x12 (cf_ix x 5 ∧ cf_ix y 4) (cf_rg a1 0 20 ∧ cf_rg a2 0 a1))) 4 24 (fun q => z ≤ q) := by
  refine vx_ofW (cc := cX5_setParts) (maxL := 6) (ret := none) (by decide) rfl ?_
  intro p e s m args below meth c s₁ B hml htab hv
  obtain ⟨rfl, hW, hT⟩ := hv
  have hx := B.exec
  have hb := B.bytes
  have hr := B.returns
  have hts := atoms_spec (ws := wsX5_setParts) B.pre
  have hown : s.vm.findClass RX5 = some m.cls := findClass_of_methodNamed B.named
  have hlocks := B.notSynchronized
  have hS : va_S (fun q => z ≤ q) s.heap s.heap [] := va_S.rf
  have hl := lv_entry ([.ref (ad 5 0), .int x, .int y, .int a1, .int a2]) (n := 6) (Nat.le_of_ble_eq_true rfl)
  rw [lg_entry_eq]
  generalize (lg_sl ([.ref (ad 5 0), .int x, .int y, .int a1, .int a2]) ++ List.replicate (6 - (lg_sl ([.ref (ad 5 0), .int x, .int y, .int a1, .int a2])).length) Slot.unset).toArray = ls at hl ⊢
  have hl : lv_has ls 6 [(0, .ref (ad 5 0)), (1, .int x), (2, .int y), (3, .int a1), (4, .int a2)] := hl
  skip
  refine lv_iload_n hx hb dX5_setParts_0 rfl (lv_at hl 1 rfl) ?_
  refine lv_iconst (v := 5) hx hb dX5_setParts_1 (by decide) ?_
  refine vx_callv (vx_runS (As := [.int x, .int 5]) (rest := []) ⟨hx, hb, hml, hown, hts⟩ (c_X5_checkNumber l D cT z ad _ x 5 5 (by decide) rfl hl0) (va_cwS 2 hts gX5_setParts_X5_checkNumber rfl rfl rfl (by decide +kernel) ⟨Nat.le_of_ble_eq_true rfl, Nat.le_of_ble_eq_true rfl⟩) (cf_preS hT hS hW) rfl rfl hl.1 rfl (lv_room (Nat.le_of_ble_eq_true rfl)) dX5_setParts_2 ⟨Nat.le_of_ble_eq_true rfl, Nat.le_of_ble_eq_true rfl⟩) hS (fun _ _ h => h) (fun _ h => h) (fun _ _ h => h) (fun E9 ce q9 u9 t9 H locs ht hvm hu hB hz1 hk1 hS hce hcv hcl => ?_) (fun ur1 t9 H locs ht hvm hw hW hz1 hk1 hS => ?_)
  · obtain ⟨hp, hW⟩ := hB
    have hW := cf_W.er ht hW
    exact cf_pass htab hlocks hce hcv hcl hS hW (Or.inl ⟨hp.1, fun q => hp.2 q.1⟩) ⟨Nat.le_of_ble_eq_true rfl, Nat.le_of_ble_eq_true rfl⟩
  have hW := cf_W.er ht hW
  have hi := hw
  refine lv_iload_n hx hb dX5_setParts_5 rfl (lv_at hl 2 rfl) ?_
  refine lv_iconst (v := 4) hx hb dX5_setParts_6 (by decide) ?_
  refine vx_callv (vx_runS (As := [.int y, .int 4]) (rest := []) ⟨hx, hb, hml, hown, hts⟩ (c_X5_checkNumber l D cT z ad _ y 4 4 (by decide) rfl hl0) (va_cwS 2 hts gX5_setParts_X5_checkNumber rfl rfl rfl (by decide +kernel) ⟨Nat.le_of_ble_eq_true rfl, Nat.le_of_ble_eq_true rfl⟩) (cf_preS hT hS hW) rfl rfl hl.1 rfl (lv_room (Nat.le_of_ble_eq_true rfl)) dX5_setParts_7 ⟨Nat.le_of_ble_eq_true rfl, Nat.le_of_ble_eq_true rfl⟩) hS (fun _ _ h => h) (fun _ h => h) (fun _ _ h => h) (fun E9 ce q9 u9 t9 H locs ht hvm hu hB hz1 hk1 hS hce hcv hcl => ?_) (fun ur2 t9 H locs ht hvm hw hW hz1 hk1 hS => ?_)
  · obtain ⟨hp, hW⟩ := hB
    have hW := cf_W.er ht hW
    exact cf_pass htab hlocks hce hcv hcl hS hW (Or.inl ⟨hp.1, fun q => hp.2 q.2⟩) ⟨Nat.le_of_ble_eq_true rfl, Nat.le_of_ble_eq_true rfl⟩
  have hW := cf_W.er ht hW
  have hy := hw
  refine lv_iload_n hx hb dX5_setParts_10 rfl (lv_at hl 3 rfl) ?_
  refine lv_iconst (v := 0) hx hb dX5_setParts_11 (by decide) ?_
  refine lv_bipush (v := 20) hx hb dX5_setParts_12 (by decide) ?_
  refine vx_callv (vx_runS (As := [.int a1, .int 0, .int 20]) (rest := []) ⟨hx, hb, hml, hown, hts⟩ (c_X5_checkRange l D cT z ad _ a1 0 20 hl0) (va_cwS 3 hts gX5_setParts_X5_checkRange rfl rfl rfl (by decide +kernel) ⟨Nat.le_of_ble_eq_true rfl, Nat.le_of_ble_eq_true rfl⟩) (cf_preS hT hS hW) rfl rfl hl.1 rfl (lv_room (Nat.le_of_ble_eq_true rfl)) dX5_setParts_14 ⟨Nat.le_of_ble_eq_true rfl, Nat.le_of_ble_eq_true rfl⟩) hS (fun _ _ h => h) (fun _ h => h) (fun _ _ h => h) (fun E9 ce q9 u9 t9 H locs ht hvm hu hB hz1 hk1 hS hce hcv hcl => ?_) (fun ur3 t9 H locs ht hvm hw hW hz1 hk1 hS => ?_)
  · obtain ⟨hp, hW⟩ := hB
    have hW := cf_W.er ht hW
    exact cf_pass htab hlocks hce hcv hcl hS hW (Or.inr ⟨hp.1, ⟨hi, hy⟩, fun q => hp.2 q.1⟩) ⟨Nat.le_of_ble_eq_true rfl, Nat.le_of_ble_eq_true rfl⟩
  have hW := cf_W.er ht hW
  have h1 := hw
  refine lv_iload hx hb dX5_setParts_17 (lv_at hl 4 rfl) ?_
  refine lv_iconst (v := 0) hx hb dX5_setParts_19 (by decide) ?_
  refine lv_iload_n hx hb dX5_setParts_20 rfl (lv_at hl 3 rfl) ?_
  refine vx_callv (vx_runS (As := [.int a2, .int 0, .int a1]) (rest := []) ⟨hx, hb, hml, hown, hts⟩ (c_X5_checkRange l D cT z ad _ a2 0 a1 hl0) (va_cwS 3 hts gX5_setParts_X5_checkRange rfl rfl rfl (by decide +kernel) ⟨Nat.le_of_ble_eq_true rfl, Nat.le_of_ble_eq_true rfl⟩) (cf_preS hT hS hW) rfl rfl hl.1 rfl (lv_room (Nat.le_of_ble_eq_true rfl)) dX5_setParts_21 ⟨Nat.le_of_ble_eq_true rfl, Nat.le_of_ble_eq_true rfl⟩) hS (fun _ _ h => h) (fun _ h => h) (fun _ _ h => h) (fun E9 ce q9 u9 t9 H locs ht hvm hu hB hz1 hk1 hS hce hcv hcl => ?_) (fun ur4 t9 H locs ht hvm hw hW hz1 hk1 hS => ?_)
  · obtain ⟨hp, hW⟩ := hB
    have hW := cf_W.er ht hW
    exact cf_pass htab hlocks hce hcv hcl hS hW (Or.inr ⟨hp.1, ⟨hi, hy⟩, fun q => hp.2 q.2⟩) ⟨Nat.le_of_ble_eq_true rfl, Nat.le_of_ble_eq_true rfl⟩
  have hW := cf_W.er ht hW
  have h2 := hw
  obtain ⟨j, hj, hxj⟩ := hi
  obtain ⟨k, hk, hyk⟩ := hy
  refine lv_aload_n hx hb dX5_setParts_24 rfl (lv_at hl 0 rfl) ?_
  refine cf_get (v := .ref (ad 11 0)) (ci := 5) (C := RX5) (T := TX5) (N := 9) hx hb hts (fun _ h => List.mem_cons_of_mem _ (List.mem_append_left _ (List.mem_append_left _ (List.mem_append_left _ (List.mem_append_right _ (h)))))) hown hT.1 hW cf_e5 rfl 0 (by decide) (hts (.fieldLink RX5 11 "GameCafe" "games" "[LGameCafe$Game;") (List.mem_of_getElem? (i := 1) rfl)) (fun _ h9 => h9) rfl dX5_setParts_25 ?_
  refine lv_iload_n hx hb dX5_setParts_28 rfl (lv_at hl 1 rfl) ?_
  refine cf_aldN (t0 := 3) (C := RX1) (n := 5) (v := .ref (ad 1 j)) hx hb hT.1 hW cf_e11 rfl j hxj hj (by decide) dX5_setParts_29 rfl ?_
  refine lv_astore (lv' := [(5, .ref (ad 1 j)), (0, .ref (ad 5 0)), (1, .int x), (2, .int y), (3, .int a1), (4, .int a2)]) hx hb dX5_setParts_30 hl (by decide) rfl (fun ls hl => ?_)
  refine lv_aload hx hb dX5_setParts_32 (lv_at hl 0 rfl) ?_
  refine cf_get (v := .ref (ad 8 j)) (ci := 1) (C := RX1) (T := TX1) (N := 6) hx hb hts (fun _ h => List.mem_cons_of_mem _ (List.mem_append_left _ (List.mem_append_left _ (List.mem_append_right _ (h))))) hown hT.1 hW (cf_e1 hj) rfl 4 (by decide) (hts (.fieldLink RX5 73 "GameCafe$Game" "whole" "[I") (List.mem_of_getElem? (i := 2) rfl)) (fun _ h9 => h9) rfl dX5_setParts_34 ?_
  refine lv_iload_n hx hb dX5_setParts_37 rfl (lv_at hl 3 rfl) ?_
  refine lv_iload_n hx hb dX5_setParts_38 rfl (lv_at hl 4 rfl) ?_
  refine cf_istN (t0 := 0) (n := 4) (f := S 8 j) hx hb hT.1 hW hS (cf_e8 hj) rfl k hyk hk (by decide) dX5_setParts_39 (E2 := (cf_E cT nc ng (cf_s3 S 8 j k a1) P O ad)) (cf_upS 8 j (upd (S 8 j) k a1) (cf_c8 hj)) (fun H locs hW hS => ?_)
  refine lv_aload hx hb dX5_setParts_40 (lv_at hl 0 rfl) ?_
  refine cf_get (v := .ref (ad 9 j)) (ci := 1) (C := RX1) (T := TX1) (N := 6) hx hb hts (fun _ h => List.mem_cons_of_mem _ (List.mem_append_left _ (List.mem_append_left _ (List.mem_append_right _ (h))))) hown hT.1 hW (cf_e1 hj) rfl 5 (by decide) (hts (.fieldLink RX5 77 "GameCafe$Game" "need" "[I") (List.mem_of_getElem? (i := 3) rfl)) (fun _ h9 => h9) rfl dX5_setParts_42 ?_
  refine lv_iload_n hx hb dX5_setParts_45 rfl (lv_at hl 3 rfl) ?_
  refine lv_iload hx hb dX5_setParts_46 (lv_at hl 5 rfl) ?_
  refine cf_istN (t0 := 0) (n := 4) (f := (cf_s3 S 8 j k a1) 9 j) hx hb hT.1 hW hS (cf_e9 hj) rfl k hyk hk (by decide) dX5_setParts_48 (E2 := (cf_E cT nc ng (cf_s3 (cf_s3 S 8 j k a1) 9 j k a2) P O ad)) (cf_upS 9 j (upd ((cf_s3 S 8 j k a1) 9 j) k a2) (cf_c9 hj)) (fun H locs hW hS => ?_)
  refine vx_ret ?_
  refine W.widen (k := 4) (n := 24) (by omega) (by omega) ?_
  exact W.vret hx hb hr (fun t9 ht9 hw9 => ⟨⟨(cf_s3 (cf_s3 S 8 j k a1) 9 j k a2), rfl, ⟨j, k, hj, hxj, hk, hyk, ⟨h1, h2⟩, rfl⟩, cf_W.re ht9 hW⟩, hS.F ht9⟩) hS.2.2 dX5_setParts_49
set_option maxHeartbeats 4000000 in
set_option maxRecDepth 100000 in
/-- X5_setSeats -/
theorem c_X5_setSeats (l : Launch) (D : va_G) (cT : Nat → ClassId) (z : Nat) (ad : cf_Ad) (nc ng : Nat) (S : cf_S) (P : cf_Pt) (O : Nat → Int64) (hl0 : l.stackTraces = false) (x a1 : Int32) : vx_Met l yX5_setSeats wsX5_setSeats ({ frames := 7, cells := 3, slots := 18, locals := 104 }) (va_Pc [.ref (ad 5 0), .int x, .int a1] (cf_P D cT z (cf_E cT nc ng S P O ad) ad)) (cf_Qi D z (fun (r : Int32) (T : cf_S) => ∃ j : Nat, j < 6 ∧ x = nI j ∧ (cf_rg a1 1 8) ∧ S 3 j 1 = -1 ∧ r = S 3 j 0 ∧ T = cf_s3 S 3 j 0 a1) (fun T => cf_E cT nc ng T P O ad) (fun _ => ad)) (cf_X D z (cf_E cT nc ng S P O ad) ad (cf_x123 (cf_ix x 6) (cf_rg a1 1 8) (∀ j : Nat, j < 6 → x = nI j → S 3 j 1 = -1))) 3 18 (fun q => z ≤ q) := by
  refine vx_ofW (cc := cX5_setSeats) (maxL := 5) (ret := (some .int)) (by decide) rfl ?_
  intro p e s m args below meth c s₁ B hml htab hv
  obtain ⟨rfl, hW, hT⟩ := hv
  have hx := B.exec
  have hb := B.bytes
  have hr := B.returns
  have hts := atoms_spec (ws := wsX5_setSeats) B.pre
  have hown : s.vm.findClass RX5 = some m.cls := findClass_of_methodNamed B.named
  have hlocks := B.notSynchronized
  have hS : va_S (fun q => z ≤ q) s.heap s.heap [] := va_S.rf
  have hl := lv_entry ([.ref (ad 5 0), .int x, .int a1]) (n := 5) (Nat.le_of_ble_eq_true rfl)
  rw [lg_entry_eq]
  generalize (lg_sl ([.ref (ad 5 0), .int x, .int a1]) ++ List.replicate (5 - (lg_sl ([.ref (ad 5 0), .int x, .int a1])).length) Slot.unset).toArray = ls at hl ⊢
  have hl : lv_has ls 5 [(0, .ref (ad 5 0)), (1, .int x), (2, .int a1)] := hl
  skip
  refine lv_iload_n hx hb dX5_setSeats_0 rfl (lv_at hl 1 rfl) ?_
  refine lv_bipush (v := 6) hx hb dX5_setSeats_1 (by decide) ?_
  refine vx_callv (vx_runS (As := [.int x, .int 6]) (rest := []) ⟨hx, hb, hml, hown, hts⟩ (c_X5_checkNumber l D cT z ad _ x 6 6 (by decide) rfl hl0) (va_cwS 2 hts gX5_setSeats_X5_checkNumber rfl rfl rfl (by decide +kernel) ⟨Nat.le_of_ble_eq_true rfl, Nat.le_of_ble_eq_true rfl⟩) (cf_preS hT hS hW) rfl rfl hl.1 rfl (lv_room (Nat.le_of_ble_eq_true rfl)) dX5_setSeats_3 ⟨Nat.le_of_ble_eq_true rfl, Nat.le_of_ble_eq_true rfl⟩) hS (fun _ _ h => h) (fun _ h => h) (fun _ _ h => h) (fun E9 ce q9 u9 t9 H locs ht hvm hu hB hz1 hk1 hS hce hcv hcl => ?_) (fun ur1 t9 H locs ht hvm hw hW hz1 hk1 hS => ?_)
  · obtain ⟨hp, hW⟩ := hB
    have hW := cf_W.er ht hW
    exact cf_pass htab hlocks hce hcv hcl hS hW (Or.inl hp) ⟨Nat.le_of_ble_eq_true rfl, Nat.le_of_ble_eq_true rfl⟩
  have hW := cf_W.er ht hW
  have hi := hw
  refine lv_iload_n hx hb dX5_setSeats_6 rfl (lv_at hl 2 rfl) ?_
  refine lv_iconst (v := 1) hx hb dX5_setSeats_7 (by decide) ?_
  refine lv_bipush (v := 8) hx hb dX5_setSeats_8 (by decide) ?_
  refine vx_callv (vx_runS (As := [.int a1, .int 1, .int 8]) (rest := []) ⟨hx, hb, hml, hown, hts⟩ (c_X5_checkRange l D cT z ad _ a1 1 8 hl0) (va_cwS 3 hts gX5_setSeats_X5_checkRange rfl rfl rfl (by decide +kernel) ⟨Nat.le_of_ble_eq_true rfl, Nat.le_of_ble_eq_true rfl⟩) (cf_preS hT hS hW) rfl rfl hl.1 rfl (lv_room (Nat.le_of_ble_eq_true rfl)) dX5_setSeats_10 ⟨Nat.le_of_ble_eq_true rfl, Nat.le_of_ble_eq_true rfl⟩) hS (fun _ _ h => h) (fun _ h => h) (fun _ _ h => h) (fun E9 ce q9 u9 t9 H locs ht hvm hu hB hz1 hk1 hS hce hcv hcl => ?_) (fun ur2 t9 H locs ht hvm hw hW hz1 hk1 hS => ?_)
  · obtain ⟨hp, hW⟩ := hB
    have hW := cf_W.er ht hW
    exact cf_pass htab hlocks hce hcv hcl hS hW (Or.inr (Or.inl ⟨hp.1, hi, hp.2⟩)) ⟨Nat.le_of_ble_eq_true rfl, Nat.le_of_ble_eq_true rfl⟩
  have hW := cf_W.er ht hW
  have h1 := hw
  have hi0 := hi
  obtain ⟨j, hj, hxj⟩ := hi
  refine lv_aload_n hx hb dX5_setSeats_13 rfl (lv_at hl 0 rfl) ?_
  refine cf_get (v := .ref (ad 12 0)) (ci := 5) (C := RX5) (T := TX5) (N := 9) hx hb hts (fun _ h => List.mem_cons_of_mem _ (List.mem_append_left _ (List.mem_append_left _ (List.mem_append_left _ (List.mem_append_left _ (List.mem_append_right _ (h))))))) hown hT.1 hW cf_e5 rfl 1 (by decide) (hts (.fieldLink RX5 17 "GameCafe" "tables" "[LGameCafe$Table;") (List.mem_of_getElem? (i := 3) rfl)) (fun _ h9 => h9) rfl dX5_setSeats_14 ?_
  refine lv_iload_n hx hb dX5_setSeats_17 rfl (lv_at hl 1 rfl) ?_
  refine cf_aldN (t0 := 4) (C := RX3) (n := 6) (v := .ref (ad 3 j)) hx hb hT.1 hW cf_e12 rfl j hxj hj (by decide) dX5_setSeats_18 rfl ?_
  refine lv_astore_n (lv' := [(3, .ref (ad 3 j)), (0, .ref (ad 5 0)), (1, .int x), (2, .int a1)]) hx hb dX5_setSeats_19 rfl hl (by decide) rfl (fun ls hl => ?_)
  refine lv_aload_n hx hb dX5_setSeats_20 rfl (lv_at hl 0 rfl) ?_
  refine cf_get (v := .int (S 3 j 1)) (ci := 3) (C := RX3) (T := TX3) (N := 3) hx hb hts (fun _ h => List.mem_cons_of_mem _ (List.mem_append_left _ (List.mem_append_left _ (List.mem_append_left _ (List.mem_append_right _ (h)))))) hown hT.1 hW (cf_e3 hj) rfl 2 (by decide) (hts (.fieldLink RX5 80 "GameCafe$Table" "group" "I") (List.mem_of_getElem? (i := 4) rfl)) (fun _ h9 => h9) rfl dX5_setSeats_21 ?_
  refine lv_iconst (v := (-1)) hx hb dX5_setSeats_24 (by decide) ?_
  refine lv_icmp_eq (tgt := 38) hx hb dX5_setSeats_25 (by decide) (fun c25_3 => ?_) (fun c25_3 => ?_)
  · refine lv_aload_n hx hb dX5_setSeats_38 rfl (lv_at hl 0 rfl) ?_
    refine cf_get (v := .int (S 3 j 0)) (ci := 3) (C := RX3) (T := TX3) (N := 3) hx hb hts (fun _ h => List.mem_cons_of_mem _ (List.mem_append_left _ (List.mem_append_left _ (List.mem_append_left _ (List.mem_append_right _ (h)))))) hown hT.1 hW (cf_e3 hj) rfl 1 (by decide) (hts (.fieldLink RX5 90 "GameCafe$Table" "seats" "I") (List.mem_of_getElem? (i := 5) rfl)) (fun _ h9 => h9) rfl dX5_setSeats_39 ?_
    refine lv_istore (lv' := [(4, .int (S 3 j 0)), (3, .ref (ad 3 j)), (0, .ref (ad 5 0)), (1, .int x), (2, .int a1)]) hx hb dX5_setSeats_42 hl (by decide) rfl (fun ls hl => ?_)
    refine lv_aload_n hx hb dX5_setSeats_44 rfl (lv_at hl 1 rfl) ?_
    refine lv_iload_n hx hb dX5_setSeats_45 rfl (lv_at hl 4 rfl) ?_
    refine cf_putE (v := .int a1) (ty := .int) (ci := 3) (C := RX3) (T := TX3) (N := 3) hx hb hts (fun _ h => List.mem_cons_of_mem _ (List.mem_append_left _ (List.mem_append_left _ (List.mem_append_left _ (List.mem_append_right _ (h)))))) tyX3 tyX3_ok nmX3 hown hT.1 hW hS (cf_e3 hj) rfl 1 (by decide) (hts (.fieldLink RX5 90 "GameCafe$Table" "seats" "I") (List.mem_of_getElem? (i := 5) rfl)) (fun _ h9 => h9) rfl (by decide +kernel) rfl rfl (Nat.le_of_ble_eq_true rfl) dX5_setSeats_46 (E2 := (cf_E cT nc ng (cf_s3 S 3 j 0 a1) P O ad)) (cf_upS 3 j (upd (S 3 j) 0 a1) (cf_c3 hj)) (fun H locs hW hS => ?_)
    refine lv_iload hx hb dX5_setSeats_49 (lv_at hl 0 rfl) ?_
    refine vx_ret ?_
    refine W.widen (k := 3) (n := 18) (by omega) (by omega) ?_
    exact W.iret (v := (S 3 j 0)) hx hb hr (fun t9 ht9 hw9 => ⟨⟨(S 3 j 0), (cf_s3 S 3 j 0 a1), rfl, ⟨j, hj, hxj, h1, c25_3, rfl, rfl⟩, cf_W.re ht9 hW⟩, hS.F ht9⟩) hS.2.2 dX5_setSeats_51
  · exact cf_throw (text := "a group is at the table") hx hb hl0 hown (by decide +kernel) (hts (.classLink RX5 83 "java/lang/IllegalStateException") (List.mem_of_getElem? (i := 1) rfl)) (hts (.initialized "java/lang/IllegalStateException") (List.mem_of_getElem? (i := 2) rfl)) (List.mem_of_getElem? (i := 2) rfl) (List.mem_of_getElem? (i := 2) rfl) (fun w h => hts w (List.mem_cons_of_mem _ (List.mem_append_left _ (List.mem_append_left _ (List.mem_append_right _ (h)))))) cf_ng_ise cf_gd_ise hT hW hS (hl.1.trans hml.symm) dX5_setSeats_28 dX5_setSeats_31 dX5_setSeats_32 dX5_setSeats_34 dX5_setSeats_37 htab (by decide) hlocks (Or.inr (Or.inr ⟨rfl, hi0, h1, fun q => c25_3 (q j hj hxj)⟩)) (by decide)
set_option maxHeartbeats 4000000 in
set_option maxRecDepth 100000 in
/-- X5_teach -/
theorem c_X5_teach (l : Launch) (D : va_G) (cT : Nat → ClassId) (z : Nat) (ad : cf_Ad) (nc ng : Nat) (S : cf_S) (P : cf_Pt) (O : Nat → Int64) (hl0 : l.stackTraces = false) (x y b1 : Int32) (hb1 : b1 = 0 ∨ b1 = 1) (hK10 : ∀ j k, j < 3 → k < 5 → S 10 j k = 0 ∨ S 10 j k = 1) : vx_Met l yX5_teach wsX5_teach ({ frames := 7, cells := 2, slots := 12, locals := 103 }) (va_Pc [.ref (ad 5 0), .int x, .int y, .int b1] (cf_P D cT z (cf_E cT nc ng S P O ad) ad)) (cf_Qi D z (fun (r : Int32) (T : cf_S) => ∃ j k : Nat, j < 3 ∧ x = nI j ∧ k < 5 ∧ y = nI k ∧ r = S 10 j k ∧ T = cf_s3 S 10 j k b1) (fun T => cf_E cT nc ng T P O ad) (fun _ => ad)) (cf_X D z (cf_E cT nc ng S P O ad) ad (cf_x1 (cf_ix x 3 ∧ cf_ix y 5))) 2 12 (fun q => z ≤ q) := by
  refine vx_ofW (cc := cX5_teach) (maxL := 6) (ret := (some .boolean)) (by decide) rfl ?_
  intro p e s m args below meth c s₁ B hml htab hv
  obtain ⟨rfl, hW, hT⟩ := hv
  have hx := B.exec
  have hb := B.bytes
  have hr := B.returns
  have hts := atoms_spec (ws := wsX5_teach) B.pre
  have hown : s.vm.findClass RX5 = some m.cls := findClass_of_methodNamed B.named
  have hlocks := B.notSynchronized
  have hS : va_S (fun q => z ≤ q) s.heap s.heap [] := va_S.rf
  have hl := lv_entry ([.ref (ad 5 0), .int x, .int y, .int b1]) (n := 6) (Nat.le_of_ble_eq_true rfl)
  rw [lg_entry_eq]
  generalize (lg_sl ([.ref (ad 5 0), .int x, .int y, .int b1]) ++ List.replicate (6 - (lg_sl ([.ref (ad 5 0), .int x, .int y, .int b1])).length) Slot.unset).toArray = ls at hl ⊢
  have hl : lv_has ls 6 [(0, .ref (ad 5 0)), (1, .int x), (2, .int y), (3, .int b1)] := hl
  skip
  refine lv_iload_n hx hb dX5_teach_0 rfl (lv_at hl 1 rfl) ?_
  refine lv_iconst (v := 3) hx hb dX5_teach_1 (by decide) ?_
  refine vx_callv (vx_runS (As := [.int x, .int 3]) (rest := []) ⟨hx, hb, hml, hown, hts⟩ (c_X5_checkNumber l D cT z ad _ x 3 3 (by decide) rfl hl0) (va_cwS 2 hts gX5_teach_X5_checkNumber rfl rfl rfl (by decide +kernel) ⟨Nat.le_of_ble_eq_true rfl, Nat.le_of_ble_eq_true rfl⟩) (cf_preS hT hS hW) rfl rfl hl.1 rfl (lv_room (Nat.le_of_ble_eq_true rfl)) dX5_teach_2 ⟨Nat.le_of_ble_eq_true rfl, Nat.le_of_ble_eq_true rfl⟩) hS (fun _ _ h => h) (fun _ h => h) (fun _ _ h => h) (fun E9 ce q9 u9 t9 H locs ht hvm hu hB hz1 hk1 hS hce hcv hcl => ?_) (fun ur1 t9 H locs ht hvm hw hW hz1 hk1 hS => ?_)
  · obtain ⟨hp, hW⟩ := hB
    have hW := cf_W.er ht hW
    exact cf_pass htab hlocks hce hcv hcl hS hW (⟨hp.1, fun q => hp.2 q.1⟩) ⟨Nat.le_of_ble_eq_true rfl, Nat.le_of_ble_eq_true rfl⟩
  have hW := cf_W.er ht hW
  have hi := hw
  refine lv_iload_n hx hb dX5_teach_5 rfl (lv_at hl 2 rfl) ?_
  refine lv_iconst (v := 5) hx hb dX5_teach_6 (by decide) ?_
  refine vx_callv (vx_runS (As := [.int y, .int 5]) (rest := []) ⟨hx, hb, hml, hown, hts⟩ (c_X5_checkNumber l D cT z ad _ y 5 5 (by decide) rfl hl0) (va_cwS 2 hts gX5_teach_X5_checkNumber rfl rfl rfl (by decide +kernel) ⟨Nat.le_of_ble_eq_true rfl, Nat.le_of_ble_eq_true rfl⟩) (cf_preS hT hS hW) rfl rfl hl.1 rfl (lv_room (Nat.le_of_ble_eq_true rfl)) dX5_teach_7 ⟨Nat.le_of_ble_eq_true rfl, Nat.le_of_ble_eq_true rfl⟩) hS (fun _ _ h => h) (fun _ h => h) (fun _ _ h => h) (fun E9 ce q9 u9 t9 H locs ht hvm hu hB hz1 hk1 hS hce hcv hcl => ?_) (fun ur2 t9 H locs ht hvm hw hW hz1 hk1 hS => ?_)
  · obtain ⟨hp, hW⟩ := hB
    have hW := cf_W.er ht hW
    exact cf_pass htab hlocks hce hcv hcl hS hW (⟨hp.1, fun q => hp.2 q.2⟩) ⟨Nat.le_of_ble_eq_true rfl, Nat.le_of_ble_eq_true rfl⟩
  have hW := cf_W.er ht hW
  have hy := hw
  obtain ⟨j, hj, hxj⟩ := hi
  obtain ⟨k, hk, hyk⟩ := hy
  refine lv_aload_n hx hb dX5_teach_10 rfl (lv_at hl 0 rfl) ?_
  refine cf_get (v := .ref (ad 13 0)) (ci := 5) (C := RX5) (T := TX5) (N := 9) hx hb hts (fun _ h => List.mem_cons_of_mem _ (List.mem_append_left _ (List.mem_append_left _ (List.mem_append_right _ (h))))) hown hT.1 hW cf_e5 rfl 2 (by decide) (hts (.fieldLink RX5 23 "GameCafe" "staff" "[LGameCafe$Teacher;") (List.mem_of_getElem? (i := 1) rfl)) (fun _ h9 => h9) rfl dX5_teach_11 ?_
  refine lv_iload_n hx hb dX5_teach_14 rfl (lv_at hl 1 rfl) ?_
  refine cf_aldN (t0 := 5) (C := RX4) (n := 3) (v := .ref (ad 4 j)) hx hb hT.1 hW cf_e13 rfl j hxj hj (by decide) dX5_teach_15 rfl ?_
  refine lv_astore (lv' := [(4, .ref (ad 4 j)), (0, .ref (ad 5 0)), (1, .int x), (2, .int y), (3, .int b1)]) hx hb dX5_teach_16 hl (by decide) rfl (fun ls hl => ?_)
  refine lv_aload hx hb dX5_teach_18 (lv_at hl 0 rfl) ?_
  refine cf_get (v := .ref (ad 10 j)) (ci := 4) (C := RX4) (T := TX4) (N := 2) hx hb hts (fun _ h => List.mem_cons_of_mem _ (List.mem_append_left _ (List.mem_append_right _ (h)))) hown hT.1 hW (cf_e4 hj) rfl 0 (by decide) (hts (.fieldLink RX5 93 "GameCafe$Teacher" "knows" "[Z") (List.mem_of_getElem? (i := 2) rfl)) (fun _ h9 => h9) rfl dX5_teach_20 ?_
  refine lv_iload_n hx hb dX5_teach_23 rfl (lv_at hl 3 rfl) ?_
  refine cf_zldN (t0 := 1) (n := 5) (f := S 10 j) (v := (S 10 j k)) hx hb hT.1 hW (cf_e10 hj) rfl k hyk hk (by decide) dX5_teach_24 rfl ?_
  refine lv_istore (lv' := [(5, .int (S 10 j k)), (4, .ref (ad 4 j)), (0, .ref (ad 5 0)), (1, .int x), (2, .int y), (3, .int b1)]) hx hb dX5_teach_25 hl (by decide) rfl (fun ls hl => ?_)
  refine lv_aload hx hb dX5_teach_27 (lv_at hl 1 rfl) ?_
  refine cf_get (v := .ref (ad 10 j)) (ci := 4) (C := RX4) (T := TX4) (N := 2) hx hb hts (fun _ h => List.mem_cons_of_mem _ (List.mem_append_left _ (List.mem_append_right _ (h)))) hown hT.1 hW (cf_e4 hj) rfl 0 (by decide) (hts (.fieldLink RX5 93 "GameCafe$Teacher" "knows" "[Z") (List.mem_of_getElem? (i := 2) rfl)) (fun _ h9 => h9) rfl dX5_teach_29 ?_
  refine lv_iload_n hx hb dX5_teach_32 rfl (lv_at hl 4 rfl) ?_
  refine lv_iload_n hx hb dX5_teach_33 rfl (lv_at hl 5 rfl) ?_
  refine cf_zstN (t0 := 1) (n := 5) (f := S 10 j) hx hb hT.1 hW hS (cf_e10 hj) rfl k hyk hk (by decide) dX5_teach_34 (by rcases hb1 with rfl | rfl <;> rfl) (E2 := (cf_E cT nc ng (cf_s3 S 10 j k b1) P O ad)) (cf_upS 10 j (upd (S 10 j) k b1) (cf_c10 hj)) (fun H locs hW hS => ?_)
  refine lv_iload hx hb dX5_teach_35 (lv_at hl 0 rfl) ?_
  refine vx_ret ?_
  refine W.widen (k := 2) (n := 12) (by omega) (by omega) ?_
  exact W.zret (v := (S 10 j k)) (ty := .boolean) hx hb hr (by rcases hK10 j k hj hk with h | h <;> rw [h] <;> rfl) (fun t9 ht9 hw9 => ⟨⟨(S 10 j k), (cf_s3 S 10 j k b1), rfl, ⟨j, k, hj, hxj, hk, hyk, rfl, rfl⟩, cf_W.re ht9 hW⟩, hS.F ht9⟩) hS.2.2 dX5_teach_37
set_option maxHeartbeats 4000000 in
set_option maxRecDepth 100000 in
/-- X5_advance -/
theorem c_X5_advance (l : Launch) (D : va_G) (cT : Nat → ClassId) (z : Nat) (ad : cf_Ad) (nc ng : Nat) (S : cf_S) (P : cf_Pt) (O : Nat → Int64) (hl0 : l.stackTraces = false) (x : Int32) : vx_Met l yX5_advance wsX5_advance ({ frames := 7, cells := 2, slots := 12, locals := 104 }) (va_Pc [.ref (ad 5 0), .int x] (cf_P D cT z (cf_E cT nc ng S P O ad) ad)) (cf_Qi D z (fun (r : Int32) (T : cf_S) => cf_rg x 1 1000 ∧ (S 5 0 2 + x ≤ 100000) ∧ r = S 5 0 2 + x ∧ T = cf_s3 S 5 0 2 (S 5 0 2 + x)) (fun T => cf_E cT nc ng T P O ad) (fun _ => ad)) (cf_X D z (cf_E cT nc ng S P O ad) ad (cf_x23 (cf_rg x 1 1000) (S 5 0 2 + x ≤ 100000))) 2 12 (fun q => z ≤ q) := by
  refine vx_ofW (cc := cX5_advance) (maxL := 2) (ret := (some .int)) (by decide) rfl ?_
  intro p e s m args below meth c s₁ B hml htab hv
  obtain ⟨rfl, hW, hT⟩ := hv
  have hx := B.exec
  have hb := B.bytes
  have hr := B.returns
  have hts := atoms_spec (ws := wsX5_advance) B.pre
  have hown : s.vm.findClass RX5 = some m.cls := findClass_of_methodNamed B.named
  have hlocks := B.notSynchronized
  have hS : va_S (fun q => z ≤ q) s.heap s.heap [] := va_S.rf
  have hl := lv_entry ([.ref (ad 5 0), .int x]) (n := 2) (Nat.le_of_ble_eq_true rfl)
  rw [lg_entry_eq]
  generalize (lg_sl ([.ref (ad 5 0), .int x]) ++ List.replicate (2 - (lg_sl ([.ref (ad 5 0), .int x])).length) Slot.unset).toArray = ls at hl ⊢
  have hl : lv_has ls 2 [(0, .ref (ad 5 0)), (1, .int x)] := hl
  skip
  refine lv_iload_n hx hb dX5_advance_0 rfl (lv_at hl 1 rfl) ?_
  refine lv_iconst (v := 1) hx hb dX5_advance_1 (by decide) ?_
  refine lv_sipush (v := 1000) hx hb dX5_advance_2 (by decide) ?_
  refine vx_callv (vx_runS (As := [.int x, .int 1, .int 1000]) (rest := []) ⟨hx, hb, hml, hown, hts⟩ (c_X5_checkRange l D cT z ad _ x 1 1000 hl0) (va_cwS 3 hts gX5_advance_X5_checkRange rfl rfl rfl (by decide +kernel) ⟨Nat.le_of_ble_eq_true rfl, Nat.le_of_ble_eq_true rfl⟩) (cf_preS hT hS hW) rfl rfl hl.1 rfl (lv_room (Nat.le_of_ble_eq_true rfl)) dX5_advance_5 ⟨Nat.le_of_ble_eq_true rfl, Nat.le_of_ble_eq_true rfl⟩) hS (fun _ _ h => h) (fun _ h => h) (fun _ _ h => h) (fun E9 ce q9 u9 t9 H locs ht hvm hu hB hz1 hk1 hS hce hcv hcl => ?_) (fun ur1 t9 H locs ht hvm hw hW hz1 hk1 hS => ?_)
  · obtain ⟨hp, hW⟩ := hB
    have hW := cf_W.er ht hW
    exact cf_pass htab hlocks hce hcv hcl hS hW (Or.inl hp) ⟨Nat.le_of_ble_eq_true rfl, Nat.le_of_ble_eq_true rfl⟩
  have hW := cf_W.er ht hW
  have h1 := hw
  refine lv_aload_n hx hb dX5_advance_8 rfl (lv_at hl 0 rfl) ?_
  refine cf_get (v := .int (S 5 0 2)) (ci := 5) (C := RX5) (T := TX5) (N := 9) hx hb hts (fun _ h => List.mem_cons_of_mem _ (List.mem_append_left _ (List.mem_append_left _ (List.mem_append_right _ (h))))) hown hT.1 hW cf_e5 rfl 8 (by decide) (hts (.fieldLink RX5 49 "GameCafe" "now" "I") (List.mem_of_getElem? (i := 3) rfl)) (fun _ h9 => h9) rfl dX5_advance_9 ?_
  refine lv_iload_n hx hb dX5_advance_12 rfl (lv_at hl 1 rfl) ?_
  refine lv_iadd hx hb dX5_advance_13 ?_
  refine lv_ldc hx hb hown (hts (.constant RX5 181 (100000)) (List.mem_of_getElem? (i := 4) rfl)) dX5_advance_14 ?_
  refine lv_icmp_le (tgt := 29) hx hb dX5_advance_16 (by decide) (fun c16_2 => ?_) (fun c16_2 => ?_)
  · refine lv_aload_n hx hb dX5_advance_29 rfl (lv_at hl 0 rfl) ?_
    refine lv_dup hx hb dX5_advance_30 rfl ?_
    refine cf_get (v := .int (S 5 0 2)) (ci := 5) (C := RX5) (T := TX5) (N := 9) hx hb hts (fun _ h => List.mem_cons_of_mem _ (List.mem_append_left _ (List.mem_append_left _ (List.mem_append_right _ (h))))) hown hT.1 hW cf_e5 rfl 8 (by decide) (hts (.fieldLink RX5 49 "GameCafe" "now" "I") (List.mem_of_getElem? (i := 3) rfl)) (fun _ h9 => h9) rfl dX5_advance_31 ?_
    refine lv_iload_n hx hb dX5_advance_34 rfl (lv_at hl 1 rfl) ?_
    refine lv_iadd hx hb dX5_advance_35 ?_
    refine cf_putE (v := .int ((S 5 0 2) + x)) (ty := .int) (ci := 5) (C := RX5) (T := TX5) (N := 9) hx hb hts (fun _ h => List.mem_cons_of_mem _ (List.mem_append_left _ (List.mem_append_left _ (List.mem_append_right _ (h))))) tyX5 tyX5_ok nmX5 hown hT.1 hW hS cf_e5 rfl 8 (by decide) (hts (.fieldLink RX5 49 "GameCafe" "now" "I") (List.mem_of_getElem? (i := 3) rfl)) (fun _ h9 => h9) rfl (by decide +kernel) rfl rfl (Nat.le_of_ble_eq_true rfl) dX5_advance_36 (E2 := (cf_E cT nc ng (cf_s3 S 5 0 2 ((S 5 0 2) + x)) P O ad)) (cf_upS 5 0 (upd (S 5 0) 2 ((S 5 0 2) + x)) rfl) (fun H locs hW hS => ?_)
    refine lv_aload_n hx hb dX5_advance_39 rfl (lv_at hl 0 rfl) ?_
    refine cf_get (v := .int ((S 5 0 2) + x)) (ci := 5) (C := RX5) (T := TX5) (N := 9) hx hb hts (fun _ h => List.mem_cons_of_mem _ (List.mem_append_left _ (List.mem_append_left _ (List.mem_append_right _ (h))))) hown hT.1 hW cf_e5 rfl 8 (by decide) (hts (.fieldLink RX5 49 "GameCafe" "now" "I") (List.mem_of_getElem? (i := 3) rfl)) (fun _ h9 => h9) (congrArg (fun x => some (Value.int x)) (by simp [cf_s3, cf_g2, upd] : (cf_s3 S 5 0 2 ((S 5 0 2) + x)) 5 0 2 = ((S 5 0 2) + x))) dX5_advance_40 ?_
    refine vx_ret ?_
    refine W.widen (k := 2) (n := 12) (by omega) (by omega) ?_
    exact W.iret (v := ((S 5 0 2) + x)) hx hb hr (fun t9 ht9 hw9 => ⟨⟨((S 5 0 2) + x), (cf_s3 S 5 0 2 ((S 5 0 2) + x)), rfl, ⟨h1, c16_2, rfl, rfl⟩, cf_W.re ht9 hW⟩, hS.F ht9⟩) hS.2.2 dX5_advance_43
  · exact cf_throw (text := "the minute would be above the last one") hx hb hl0 hown (by decide +kernel) (hts (.classLink RX5 83 "java/lang/IllegalStateException") (List.mem_of_getElem? (i := 1) rfl)) (hts (.initialized "java/lang/IllegalStateException") (List.mem_of_getElem? (i := 2) rfl)) (List.mem_of_getElem? (i := 12) rfl) (List.mem_of_getElem? (i := 2) rfl) (fun w h => hts w (List.mem_cons_of_mem _ (List.mem_append_left _ (List.mem_append_right _ (h))))) cf_ng_ise cf_gd_ise hT hW hS (hl.1.trans hml.symm) dX5_advance_19 dX5_advance_22 dX5_advance_23 dX5_advance_25 dX5_advance_28 htab (by decide) hlocks (Or.inr ⟨rfl, h1, c16_2⟩) (by decide)
