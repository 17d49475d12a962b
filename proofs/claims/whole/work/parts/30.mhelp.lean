/-- a place as the reference tells it: -1 is none -/
def cf_oi (b : Option Nat) : Int32 := match b with
  | none => -1
  | some t => nI t
theorem cf_nIm1 {n : Nat} (h : n < 2 ^ 31) : ¬ nI n = -1 := fun q => nI_pos h (by rw [q]; decide)
theorem cf_ix4 {x y : Int32} {g k : Nat} (hx : x = nI g) (hy : y = nI k) : 4 * x + y = nI (4 * g + k) := by
  rw [hx, hy, show (4 : Int32) = nI 4 from rfl, pk_mul, nI_add]
theorem cf_ix5 {x y : Int32} {g k : Nat} (hx : x = nI g) (hy : y = nI k) : 5 * x + y = nI (5 * g + k) := by
  rw [hx, hy, show (5 : Int32) = nI 5 from rfl, pk_mul, nI_add]
def cf_okTM (S : cf_S) (x : Int32) : Nat → Bool := fun u => decide (S 17 8 u = 0) && !decide (S 17 7 u < x)
def cf_ltTM (S : cf_S) : Nat → Nat → Bool := fun u t => decide (S 17 7 u < S 17 7 t)
def cf_playM (S : cf_S) (P : cf_Pt) (u : Nat) : Prop := cf_play (fun k => S 17 14 (4 * u + k)) (fun k => S 17 5 (4 * P 0 u 0 + k))
def cf_okCM (S : cf_S) (P : cf_Pt) (g : Nat) : Nat → Prop := fun u => P 0 u 0 = g ∧ S 17 13 u = 0 ∧ cf_playM S P u
def cf_okSM (S : cf_S) (g : Nat) : Nat → Prop := fun u => ¬ S 17 9 (5 * u + g) = 1 ∧ S 17 10 u ≤ S 6 0 0
/-- x is a group that has not gone, as the reference tells it -/
def cf_lvM (S : cf_S) (ng : Nat) (x : Int32) : Prop := ∃ j : Nat, j < ng ∧ x = nI j ∧ S 17 20 j = 0
set_option maxHeartbeats 4000000 in
set_option maxRecDepth 100000 in
/-- X6_thrown -/
theorem c_X6_thrown (l : Launch) (D : va_G) (cT : Nat → ClassId) (z : Nat) (ad : cf_Ad) (nc ng : Nat) (S : cf_S) (P : cf_Pt) (O : Nat → Int64)  : Met l yX6_thrown wsX6_thrown ({ frames := 0, cells := 0, slots := 0, locals := 0 }) (va_Pc [.ref (ad 6 0)] (cf_P D cT z (cf_E cT nc ng S P O ad) ad)) (cf_Qi D z (fun (r : Int32) (_ : Unit) => r = S 6 0 23) (fun _ => (cf_E cT nc ng S P O ad)) (fun _ => ad)) 0 0 (fun q => z ≤ q) := by
  refine Met.ofW (cc := cX6_thrown) (maxL := 1) (ret := (some .int)) (by decide) rfl ?_
  intro p e s m args below meth c s₁ B hml hv
  obtain ⟨rfl, hW, hT⟩ := hv
  have hx := B.exec
  have hb := B.bytes
  have hr := B.returns
  have hts := atoms_spec (ws := wsX6_thrown) B.pre
  have hown : s.vm.findClass RX6 = some m.cls := findClass_of_methodNamed B.named
  have hlocks := B.notSynchronized
  have hS : va_S (fun q => z ≤ q) s.heap s.heap [] := va_S.rf
  have hl := lv_entry ([.ref (ad 6 0)]) (n := 1) (Nat.le_of_ble_eq_true rfl)
  rw [lg_entry_eq]
  generalize (lg_sl ([.ref (ad 6 0)]) ++ List.replicate (1 - (lg_sl ([.ref (ad 6 0)])).length) Slot.unset).toArray = ls at hl ⊢
  have hl : lv_has ls 1 [(0, .ref (ad 6 0))] := hl
  skip
  refine lv_aload_n hx hb dX6_thrown_0 rfl (lv_at hl 0 rfl) ?_
  refine cf_get (v := .int (S 6 0 23)) (ci := 6) (C := RX6) (T := TX6) (N := 24) hx hb hts (fun _ h => List.mem_cons_of_mem _ (List.mem_append_right _ (h))) hown hT.1 hW cf_e6 rfl 23 (by decide) (hts (.fieldLink RX6 70 "GameCafeModel" "thrown" "I") (List.mem_of_getElem? (i := 1) rfl)) (fun _ h9 => h9) rfl dX6_thrown_1 ?_
  exact W.iret (v := (S 6 0 23)) hx hb hr (fun t9 ht9 hw9 => ⟨⟨(S 6 0 23), (), rfl, rfl, cf_W.re ht9 hW⟩, hS.F ht9⟩) hS.2.2 dX6_thrown_4
set_option maxHeartbeats 4000000 in
set_option maxRecDepth 100000 in
/-- X6_fails -/
theorem c_X6_fails (l : Launch) (D : va_G) (cT : Nat → ClassId) (z : Nat) (ad : cf_Ad) (nc ng : Nat) (S : cf_S) (P : cf_Pt) (O : Nat → Int64) (x : Int32) : Met l yX6_fails wsX6_fails ({ frames := 0, cells := 0, slots := 0, locals := 0 }) (va_Pc [.ref (ad 6 0), .int x] (cf_P D cT z (cf_E cT nc ng S P O ad) ad)) (cf_Qi D z (fun (r : Int32) (T : cf_S) => r = 0 ∧ T = cf_s3 S 6 0 23 x) (fun T => cf_E cT nc ng T P O ad) (fun _ => ad)) 0 0 (fun q => z ≤ q) := by
  refine Met.ofW (cc := cX6_fails) (maxL := 2) (ret := (some .int)) (by decide) rfl ?_
  intro p e s m args below meth c s₁ B hml hv
  obtain ⟨rfl, hW, hT⟩ := hv
  have hx := B.exec
  have hb := B.bytes
  have hr := B.returns
  have hts := atoms_spec (ws := wsX6_fails) B.pre
  have hown : s.vm.findClass RX6 = some m.cls := findClass_of_methodNamed B.named
  have hlocks := B.notSynchronized
  have hS : va_S (fun q => z ≤ q) s.heap s.heap [] := va_S.rf
  have hl := lv_entry ([.ref (ad 6 0), .int x]) (n := 2) (Nat.le_of_ble_eq_true rfl)
  rw [lg_entry_eq]
  generalize (lg_sl ([.ref (ad 6 0), .int x]) ++ List.replicate (2 - (lg_sl ([.ref (ad 6 0), .int x])).length) Slot.unset).toArray = ls at hl ⊢
  have hl : lv_has ls 2 [(0, .ref (ad 6 0)), (1, .int x)] := hl
  skip
  refine lv_aload_n hx hb dX6_fails_0 rfl (lv_at hl 0 rfl) ?_
  refine lv_iload_n hx hb dX6_fails_1 rfl (lv_at hl 1 rfl) ?_
  refine cf_putE (v := .int x) (ty := .int) (ci := 6) (C := RX6) (T := TX6) (N := 24) hx hb hts (fun _ h => List.mem_cons_of_mem _ (List.mem_append_right _ (h))) tyX6 tyX6_ok nmX6 hown hT.1 hW hS cf_e6 rfl 23 (by decide) (hts (.fieldLink RX6 70 "GameCafeModel" "thrown" "I") (List.mem_of_getElem? (i := 1) rfl)) (fun _ h9 => h9) rfl (by decide +kernel) rfl rfl (Nat.le_of_ble_eq_true rfl) dX6_fails_2 (E2 := (cf_E cT nc ng (cf_s3 S 6 0 23 x) P O ad)) (cf_upS 6 0 (upd (S 6 0) 23 x) rfl) (fun H locs hW hS => ?_)
  refine lv_iconst (v := 0) hx hb dX6_fails_5 (by decide) ?_
  exact W.iret (v := 0) hx hb hr (fun t9 ht9 hw9 => ⟨⟨0, (cf_s3 S 6 0 23 x), rfl, ⟨rfl, rfl⟩, cf_W.re ht9 hW⟩, hS.F ht9⟩) hS.2.2 dX6_fails_6
set_option maxHeartbeats 4000000 in
set_option maxRecDepth 100000 in
/-- X6_in -/
theorem c_X6_in (l : Launch) (D : va_G) (cT : Nat → ClassId) (z : Nat) (ad : cf_Ad) (E : cf_T) (x lo hi : Int32)  : Met l yX6_in wsX6_in ({ frames := 0, cells := 0, slots := 0, locals := 0 }) (va_Pc [.int x, .int lo, .int hi] (cf_P D cT z E ad)) (cf_Qi D z (fun (r : Int32) (_ : Unit) => cf_B r (cf_rg x lo hi)) (fun _ => E) (fun _ => ad)) 0 0 (fun q => z ≤ q) := by
  refine Met.ofW (cc := cX6_in) (maxL := 3) (ret := (some .boolean)) (by decide) rfl ?_
  intro p e s m args below meth c s₁ B hml hv
  obtain ⟨rfl, hW, hT⟩ := hv
  have hx := B.exec
  have hb := B.bytes
  have hr := B.returns
  have hts := atoms_spec (ws := wsX6_in) B.pre
  have hown : s.vm.findClass RX6 = some m.cls := findClass_of_methodNamed B.named
  have hlocks := B.notSynchronized
  have hS : va_S (fun q => z ≤ q) s.heap s.heap [] := va_S.rf
  have hl := lv_entry ([.int x, .int lo, .int hi]) (n := 3) (Nat.le_of_ble_eq_true rfl)
  rw [lg_entry_eq]
  generalize (lg_sl ([.int x, .int lo, .int hi]) ++ List.replicate (3 - (lg_sl ([.int x, .int lo, .int hi])).length) Slot.unset).toArray = ls at hl ⊢
  have hl : lv_has ls 3 [(0, .int x), (1, .int lo), (2, .int hi)] := hl
  skip
  refine lv_iload_n hx hb dX6_in_0 rfl (lv_at hl 0 rfl) ?_
  refine lv_iload_n hx hb dX6_in_1 rfl (lv_at hl 1 rfl) ?_
  refine lv_icmp_lt (tgt := 14) hx hb dX6_in_2 (by decide) (fun c2_1 => ?_) (fun c2_1 => ?_)
  · refine lv_iconst (v := 0) hx hb dX6_in_14 (by decide) ?_
    exact W.zret (v := 0) (ty := .boolean) hx hb hr (by rfl) (fun t9 ht9 hw9 => ⟨⟨0, (), rfl, Or.inr ⟨rfl, cf_nrg1 c2_1⟩, cf_W.re ht9 hW⟩, hS.F ht9⟩) hS.2.2 dX6_in_15
  · refine lv_iload_n hx hb dX6_in_5 rfl (lv_at hl 0 rfl) ?_
    refine lv_iload_n hx hb dX6_in_6 rfl (lv_at hl 2 rfl) ?_
    refine lv_icmp_gt (tgt := 14) hx hb dX6_in_7 (by decide) (fun c7_2 => ?_) (fun c7_2 => ?_)
    · refine lv_iconst (v := 0) hx hb dX6_in_14 (by decide) ?_
      exact W.zret (v := 0) (ty := .boolean) hx hb hr (by rfl) (fun t9 ht9 hw9 => ⟨⟨0, (), rfl, Or.inr ⟨rfl, cf_nrg2 (Int32.not_le.mpr c7_2)⟩, cf_W.re ht9 hW⟩, hS.F ht9⟩) hS.2.2 dX6_in_15
    · refine lv_iconst (v := 1) hx hb dX6_in_10 (by decide) ?_
      refine lv_goto (tgt := 15) hx hb dX6_in_11 (by decide) ?_
      exact W.zret (v := 1) (ty := .boolean) hx hb hr (by rfl) (fun t9 ht9 hw9 => ⟨⟨1, (), rfl, Or.inl ⟨rfl, cf_rg_of c2_1 (Int32.not_lt.mp c7_2)⟩, cf_W.re ht9 hW⟩, hS.F ht9⟩) hS.2.2 dX6_in_15
set_option maxHeartbeats 4000000 in
set_option maxRecDepth 100000 in
/-- X6_isGame -/
theorem c_X6_isGame (l : Launch) (D : va_G) (cT : Nat → ClassId) (z : Nat) (ad : cf_Ad) (E : cf_T) (x : Int32)  : Met l yX6_isGame wsX6_isGame ({ frames := 1, cells := 0, slots := 0, locals := 22 }) (va_Pc [.int x] (cf_P D cT z E ad)) (cf_Qi D z (fun (r : Int32) (_ : Unit) => cf_B r (cf_ix x 5)) (fun _ => E) (fun _ => ad)) 0 0 (fun q => z ≤ q) := by
  refine Met.ofW (cc := cX6_isGame) (maxL := 1) (ret := (some .boolean)) (by decide) rfl ?_
  intro p e s m args below meth c s₁ B hml hv
  obtain ⟨rfl, hW, hT⟩ := hv
  have hx := B.exec
  have hb := B.bytes
  have hr := B.returns
  have hts := atoms_spec (ws := wsX6_isGame) B.pre
  have hown : s.vm.findClass RX6 = some m.cls := findClass_of_methodNamed B.named
  have hlocks := B.notSynchronized
  have hS : va_S (fun q => z ≤ q) s.heap s.heap [] := va_S.rf
  have hl := lv_entry ([.int x]) (n := 1) (Nat.le_of_ble_eq_true rfl)
  rw [lg_entry_eq]
  generalize (lg_sl ([.int x]) ++ List.replicate (1 - (lg_sl ([.int x])).length) Slot.unset).toArray = ls at hl ⊢
  have hl : lv_has ls 1 [(0, .int x)] := hl
  skip
  refine lv_iload_n hx hb dX6_isGame_0 rfl (lv_at hl 0 rfl) ?_
  refine lv_iconst (v := 0) hx hb dX6_isGame_1 (by decide) ?_
  refine lv_iconst (v := 4) hx hb dX6_isGame_2 (by decide) ?_
  refine va_calli (va_runS (As := [.int x, .int 0, .int 4]) (rest := []) ⟨hx, hb, hml, hown, hts⟩ (c_X6_in l D cT z ad _ x 0 4) (va_cwS 3 hts gX6_isGame_X6_in rfl rfl rfl (by decide +kernel) ⟨Nat.le_of_ble_eq_true rfl, Nat.le_of_ble_eq_true rfl⟩) (cf_preS hT hS hW) rfl rfl hl.1 rfl (lv_room (Nat.le_of_ble_eq_true rfl)) dX6_isGame_3 ⟨Nat.le_of_ble_eq_true rfl, Nat.le_of_ble_eq_true rfl⟩) hS (fun _ _ h => h) (fun _ h => h) (fun r1 ur1 t9 H locs ht hvm hw hW hz1 hk1 hS => ?_)
  have hW := cf_W.er ht hW
  have h1 := hw
  exact W.zret (v := r1) (ty := .boolean) hx hb hr h1.nar (fun t9 ht9 hw9 => ⟨⟨r1, (), rfl, h1.iff (cf_rg_ix (by decide) rfl), cf_W.re ht9 hW⟩, hS.F ht9⟩) hS.2.2 dX6_isGame_6
set_option maxHeartbeats 4000000 in
set_option maxRecDepth 100000 in
/-- X6_isCopy -/
theorem c_X6_isCopy (l : Launch) (D : va_G) (cT : Nat → ClassId) (z : Nat) (ad : cf_Ad) (nc ng : Nat) (S : cf_S) (P : cf_Pt) (O : Nat → Int64) (x : Int32) (hn : S 6 0 11 = nI nc) (hnc : nc ≤ 15) : Met l yX6_isCopy wsX6_isCopy ({ frames := 1, cells := 0, slots := 0, locals := 22 }) (va_Pc [.ref (ad 6 0), .int x] (cf_P D cT z (cf_E cT nc ng S P O ad) ad)) (cf_Qi D z (fun (r : Int32) (_ : Unit) => cf_B r (cf_ix x nc)) (fun _ => (cf_E cT nc ng S P O ad)) (fun _ => ad)) 0 0 (fun q => z ≤ q) := by
  refine Met.ofW (cc := cX6_isCopy) (maxL := 2) (ret := (some .boolean)) (by decide) rfl ?_
  intro p e s m args below meth c s₁ B hml hv
  obtain ⟨rfl, hW, hT⟩ := hv
  have hx := B.exec
  have hb := B.bytes
  have hr := B.returns
  have hts := atoms_spec (ws := wsX6_isCopy) B.pre
  have hown : s.vm.findClass RX6 = some m.cls := findClass_of_methodNamed B.named
  have hlocks := B.notSynchronized
  have hS : va_S (fun q => z ≤ q) s.heap s.heap [] := va_S.rf
  have hl := lv_entry ([.ref (ad 6 0), .int x]) (n := 2) (Nat.le_of_ble_eq_true rfl)
  rw [lg_entry_eq]
  generalize (lg_sl ([.ref (ad 6 0), .int x]) ++ List.replicate (2 - (lg_sl ([.ref (ad 6 0), .int x])).length) Slot.unset).toArray = ls at hl ⊢
  have hl : lv_has ls 2 [(0, .ref (ad 6 0)), (1, .int x)] := hl
  skip
  refine lv_iload_n hx hb dX6_isCopy_0 rfl (lv_at hl 1 rfl) ?_
  refine lv_iconst (v := 0) hx hb dX6_isCopy_1 (by decide) ?_
  refine lv_aload_n hx hb dX6_isCopy_2 rfl (lv_at hl 0 rfl) ?_
  refine cf_get (v := .int (S 6 0 11)) (ci := 6) (C := RX6) (T := TX6) (N := 24) hx hb hts (fun _ h => List.mem_cons_of_mem _ (List.mem_append_right _ (h))) hown hT.1 hW cf_e6 rfl 11 (by decide) (hts (.fieldLink RX6 78 "GameCafeModel" "copies" "I") (List.mem_of_getElem? (i := 1) rfl)) (fun _ h9 => h9) rfl dX6_isCopy_3 ?_
  refine lv_iconst (v := 1) hx hb dX6_isCopy_6 (by decide) ?_
  refine lv_isub hx hb dX6_isCopy_7 ?_
  refine va_calli (va_runS (As := [.int x, .int 0, .int ((S 6 0 11) - 1)]) (rest := []) ⟨hx, hb, hml, hown, hts⟩ (c_X6_in l D cT z ad _ x 0 ((S 6 0 11) - 1)) (va_cwS 3 hts gX6_isCopy_X6_in rfl rfl rfl (by decide +kernel) ⟨Nat.le_of_ble_eq_true rfl, Nat.le_of_ble_eq_true rfl⟩) (cf_preS hT hS hW) rfl rfl hl.1 rfl (lv_room (Nat.le_of_ble_eq_true rfl)) dX6_isCopy_8 ⟨Nat.le_of_ble_eq_true rfl, Nat.le_of_ble_eq_true rfl⟩) hS (fun _ _ h => h) (fun _ h => h) (fun r1 ur1 t9 H locs ht hvm hw hW hz1 hk1 hS => ?_)
  have hW := cf_W.er ht hW
  have h1 := hw
  exact W.zret (v := r1) (ty := .boolean) hx hb hr h1.nar (fun t9 ht9 hw9 => ⟨⟨r1, (), rfl, h1.iff (cf_rg_ix (by omega) (by rw [hn]; rfl)), cf_W.re ht9 hW⟩, hS.F ht9⟩) hS.2.2 dX6_isCopy_11
set_option maxHeartbeats 4000000 in
set_option maxRecDepth 100000 in
/-- X6_isThere -/
theorem c_X6_isThere (l : Launch) (D : va_G) (cT : Nat → ClassId) (z : Nat) (ad : cf_Ad) (nc ng : Nat) (S : cf_S) (P : cf_Pt) (O : Nat → Int64) (x : Int32) (hng : S 6 0 15 = nI ng) (hng60 : ng ≤ 60) : Met l yX6_isThere wsX6_isThere ({ frames := 1, cells := 0, slots := 0, locals := 22 }) (va_Pc [.ref (ad 6 0), .int x] (cf_P D cT z (cf_E cT nc ng S P O ad) ad)) (cf_Qi D z (fun (r : Int32) (T : cf_S) => (r = 1 ∧ cf_lvM S ng x ∧ T = cf_s3 S 6 0 23 0) ∨ (r = 0 ∧ ¬ cf_lvM S ng x ∧ T = cf_s3 S 6 0 23 1)) (fun T => cf_E cT nc ng T P O ad) (fun _ => ad)) 0 0 (fun q => z ≤ q) := by
  refine Met.ofW (cc := cX6_isThere) (maxL := 2) (ret := (some .boolean)) (by decide) rfl ?_
  intro p e s m args below meth c s₁ B hml hv
  obtain ⟨rfl, hW, hT⟩ := hv
  have hx := B.exec
  have hb := B.bytes
  have hr := B.returns
  have hts := atoms_spec (ws := wsX6_isThere) B.pre
  have hown : s.vm.findClass RX6 = some m.cls := findClass_of_methodNamed B.named
  have hlocks := B.notSynchronized
  have hS : va_S (fun q => z ≤ q) s.heap s.heap [] := va_S.rf
  have hl := lv_entry ([.ref (ad 6 0), .int x]) (n := 2) (Nat.le_of_ble_eq_true rfl)
  rw [lg_entry_eq]
  generalize (lg_sl ([.ref (ad 6 0), .int x]) ++ List.replicate (2 - (lg_sl ([.ref (ad 6 0), .int x])).length) Slot.unset).toArray = ls at hl ⊢
  have hl : lv_has ls 2 [(0, .ref (ad 6 0)), (1, .int x)] := hl
  skip
  refine lv_aload_n hx hb dX6_isThere_0 rfl (lv_at hl 0 rfl) ?_
  refine lv_iload_n hx hb dX6_isThere_1 rfl (lv_at hl 1 rfl) ?_
  refine lv_iconst (v := 0) hx hb dX6_isThere_2 (by decide) ?_
  refine lv_aload_n hx hb dX6_isThere_3 rfl (lv_at hl 0 rfl) ?_
  refine cf_get (v := .int (S 6 0 15)) (ci := 6) (C := RX6) (T := TX6) (N := 24) hx hb hts (fun _ h => List.mem_cons_of_mem _ (List.mem_append_right _ (h))) hown hT.1 hW cf_e6 rfl 15 (by decide) (hts (.fieldLink RX6 81 "GameCafeModel" "groups" "I") (List.mem_of_getElem? (i := 1) rfl)) (fun _ h9 => h9) rfl dX6_isThere_4 ?_
  refine lv_iconst (v := 1) hx hb dX6_isThere_7 (by decide) ?_
  refine lv_isub hx hb dX6_isThere_8 ?_
  refine va_calli (va_runS (As := [.int x, .int 0, .int ((S 6 0 15) - 1)]) (rest := [.ref (ad 6 0)]) ⟨hx, hb, hml, hown, hts⟩ (c_X6_in l D cT z ad _ x 0 ((S 6 0 15) - 1)) (va_cwS 3 hts gX6_isThere_X6_in rfl rfl rfl (by decide +kernel) ⟨Nat.le_of_ble_eq_true rfl, Nat.le_of_ble_eq_true rfl⟩) (cf_preS hT hS hW) rfl rfl hl.1 rfl (lv_room (Nat.le_of_ble_eq_true rfl)) dX6_isThere_9 ⟨Nat.le_of_ble_eq_true rfl, Nat.le_of_ble_eq_true rfl⟩) hS (fun _ _ h => h) (fun _ h => h) (fun r1 ur1 t9 H locs ht hvm hw hW hz1 hk1 hS => ?_)
  have hW := cf_W.er ht hW
  have h1 := hw
  have h1 := h1.iff (cf_rg_ix (n := ng) (by omega) (by rw [hng]; rfl))
  refine lv_if_eq (tgt := 28) hx hb dX6_isThere_12 (by decide) (fun c12_2 => ?_) (fun c12_2 => ?_)
  · have h2 := h1.f c12_2
    refine lv_iconst (v := 1) hx hb dX6_isThere_28 (by decide) ?_
    refine cf_putE (v := .int 1) (ty := .int) (ci := 6) (C := RX6) (T := TX6) (N := 24) hx hb hts (fun _ h => List.mem_cons_of_mem _ (List.mem_append_right _ (h))) tyX6 tyX6_ok nmX6 hown hT.1 hW hS cf_e6 rfl 23 (by decide) (hts (.fieldLink RX6 70 "GameCafeModel" "thrown" "I") (List.mem_of_getElem? (i := 3) rfl)) (fun _ h9 => h9) rfl (by decide +kernel) rfl rfl (Nat.le_of_ble_eq_true rfl) dX6_isThere_29 (E2 := (cf_E cT nc ng (cf_s3 S 6 0 23 1) P O ad)) (cf_upS 6 0 (upd (S 6 0) 23 1) rfl) (fun H locs hW hS => ?_)
    refine lv_aload_n hx hb dX6_isThere_32 rfl (lv_at hl 0 rfl) ?_
    refine cf_get (v := .int 1) (ci := 6) (C := RX6) (T := TX6) (N := 24) hx hb hts (fun _ h => List.mem_cons_of_mem _ (List.mem_append_right _ (h))) hown hT.1 hW cf_e6 rfl 23 (by decide) (hts (.fieldLink RX6 70 "GameCafeModel" "thrown" "I") (List.mem_of_getElem? (i := 3) rfl)) (fun _ h9 => h9) (congrArg (fun x => some (Value.int x)) (by simp [cf_s3, cf_g2, upd] : (cf_s3 S 6 0 23 1) 6 0 23 = 1)) dX6_isThere_33 ?_
    refine lv_if_ne (tgt := 43) hx hb dX6_isThere_36 (by decide) (fun c36_3 => ?_) (fun c36_3 => (by first | exact absurd (by decide) c36_3 | exact absurd c36_3 (by decide)))
    refine lv_iconst (v := 0) hx hb dX6_isThere_43 (by decide) ?_
    exact W.zret (v := 0) (ty := .boolean) hx hb hr (by rfl) (fun t9 ht9 hw9 => ⟨⟨0, (cf_s3 S 6 0 23 1), rfl, Or.inr ⟨rfl, fun q => h2 (by obtain ⟨j, hj, hx, -⟩ := q; exact ⟨j, hj, hx⟩), rfl⟩, cf_W.re ht9 hW⟩, hS.F ht9⟩) hS.2.2 dX6_isThere_44
  · have h2 := h1.t c12_2
    obtain ⟨j, hj, hxj⟩ := h2
    refine lv_aload_n hx hb dX6_isThere_15 rfl (lv_at hl 0 rfl) ?_
    refine cf_get (v := .ref (ad 17 20)) (ci := 6) (C := RX6) (T := TX6) (N := 24) hx hb hts (fun _ h => List.mem_cons_of_mem _ (List.mem_append_right _ (h))) hown hT.1 hW cf_e6 rfl 20 (by decide) (hts (.fieldLink RX6 61 "GameCafeModel" "gone" "[I") (List.mem_of_getElem? (i := 2) rfl)) (fun _ h9 => h9) rfl dX6_isThere_16 ?_
    refine lv_iload_n hx hb dX6_isThere_19 rfl (lv_at hl 1 rfl) ?_
    refine cf_ildN (t0 := 0) (n := 60) (f := S 17 20) (v := (S 17 20 j)) hx hb hT.1 hW (cf_e17 (i := 20) (by decide)) rfl j hxj (show j < 60 by omega) (by decide) dX6_isThere_20 rfl ?_
    refine lv_if_ne (tgt := 28) hx hb dX6_isThere_21 (by decide) (fun c21_4 => ?_) (fun c21_4 => ?_)
    · refine lv_iconst (v := 1) hx hb dX6_isThere_28 (by decide) ?_
      refine cf_putE (v := .int 1) (ty := .int) (ci := 6) (C := RX6) (T := TX6) (N := 24) hx hb hts (fun _ h => List.mem_cons_of_mem _ (List.mem_append_right _ (h))) tyX6 tyX6_ok nmX6 hown hT.1 hW hS cf_e6 rfl 23 (by decide) (hts (.fieldLink RX6 70 "GameCafeModel" "thrown" "I") (List.mem_of_getElem? (i := 3) rfl)) (fun _ h9 => h9) rfl (by decide +kernel) rfl rfl (Nat.le_of_ble_eq_true rfl) dX6_isThere_29 (E2 := (cf_E cT nc ng (cf_s3 S 6 0 23 1) P O ad)) (cf_upS 6 0 (upd (S 6 0) 23 1) rfl) (fun H locs hW hS => ?_)
      refine lv_aload_n hx hb dX6_isThere_32 rfl (lv_at hl 0 rfl) ?_
      refine cf_get (v := .int 1) (ci := 6) (C := RX6) (T := TX6) (N := 24) hx hb hts (fun _ h => List.mem_cons_of_mem _ (List.mem_append_right _ (h))) hown hT.1 hW cf_e6 rfl 23 (by decide) (hts (.fieldLink RX6 70 "GameCafeModel" "thrown" "I") (List.mem_of_getElem? (i := 3) rfl)) (fun _ h9 => h9) (congrArg (fun x => some (Value.int x)) (by simp [cf_s3, cf_g2, upd] : (cf_s3 S 6 0 23 1) 6 0 23 = 1)) dX6_isThere_33 ?_
      refine lv_if_ne (tgt := 43) hx hb dX6_isThere_36 (by decide) (fun c36_5 => ?_) (fun c36_5 => (by first | exact absurd (by decide) c36_5 | exact absurd c36_5 (by decide)))
      refine lv_iconst (v := 0) hx hb dX6_isThere_43 (by decide) ?_
      exact W.zret (v := 0) (ty := .boolean) hx hb hr (by rfl) (fun t9 ht9 hw9 => ⟨⟨0, (cf_s3 S 6 0 23 1), rfl, Or.inr ⟨rfl, fun q => c21_4 (by obtain ⟨i, hi, hx, h0⟩ := q; rw [cf_nI_inj (by omega) (by omega) (hxj.symm.trans hx)]; exact h0), rfl⟩, cf_W.re ht9 hW⟩, hS.F ht9⟩) hS.2.2 dX6_isThere_44
    · refine lv_iconst (v := 0) hx hb dX6_isThere_24 (by decide) ?_
      refine lv_goto (tgt := 29) hx hb dX6_isThere_25 (by decide) ?_
      refine cf_putE (v := .int 0) (ty := .int) (ci := 6) (C := RX6) (T := TX6) (N := 24) hx hb hts (fun _ h => List.mem_cons_of_mem _ (List.mem_append_right _ (h))) tyX6 tyX6_ok nmX6 hown hT.1 hW hS cf_e6 rfl 23 (by decide) (hts (.fieldLink RX6 70 "GameCafeModel" "thrown" "I") (List.mem_of_getElem? (i := 3) rfl)) (fun _ h9 => h9) rfl (by decide +kernel) rfl rfl (Nat.le_of_ble_eq_true rfl) dX6_isThere_29 (E2 := (cf_E cT nc ng (cf_s3 S 6 0 23 0) P O ad)) (cf_upS 6 0 (upd (S 6 0) 23 0) rfl) (fun H locs hW hS => ?_)
      refine lv_aload_n hx hb dX6_isThere_32 rfl (lv_at hl 0 rfl) ?_
      refine cf_get (v := .int 0) (ci := 6) (C := RX6) (T := TX6) (N := 24) hx hb hts (fun _ h => List.mem_cons_of_mem _ (List.mem_append_right _ (h))) hown hT.1 hW cf_e6 rfl 23 (by decide) (hts (.fieldLink RX6 70 "GameCafeModel" "thrown" "I") (List.mem_of_getElem? (i := 3) rfl)) (fun _ h9 => h9) (congrArg (fun x => some (Value.int x)) (by simp [cf_s3, cf_g2, upd] : (cf_s3 S 6 0 23 0) 6 0 23 = 0)) dX6_isThere_33 ?_
      refine lv_if_ne (tgt := 43) hx hb dX6_isThere_36 (by decide) (fun c36_6 => (by first | exact absurd c36_6 (by decide) | exact absurd (by decide) c36_6)) (fun c36_6 => ?_)
      refine lv_iconst (v := 1) hx hb dX6_isThere_39 (by decide) ?_
      refine lv_goto (tgt := 44) hx hb dX6_isThere_40 (by decide) ?_
      exact W.zret (v := 1) (ty := .boolean) hx hb hr (by rfl) (fun t9 ht9 hw9 => ⟨⟨1, (cf_s3 S 6 0 23 0), rfl, Or.inl ⟨rfl, ⟨j, hj, hxj, c21_4⟩, rfl⟩, cf_W.re ht9 hW⟩, hS.F ht9⟩) hS.2.2 dX6_isThere_44
set_option maxHeartbeats 4000000 in
set_option maxRecDepth 100000 in
/-- X6_playable -/
theorem c_X6_playable (l : Launch) (D : va_G) (cT : Nat → ClassId) (z : Nat) (ad : cf_Ad) (nc ng : Nat) (S : cf_S) (P : cf_Pt) (O : Nat → Int64) (x : Int32) {u : Nat} (hxu : x = nI u) (hu : u < nc) (hnc : nc ≤ 15) (hM : ∀ j, j < nc → S 17 12 j = nI (P 0 j 0) ∧ P 0 j 0 < 5) : Met l yX6_playable wsX6_playable ({ frames := 0, cells := 0, slots := 0, locals := 0 }) (va_Pc [.ref (ad 6 0), .int x] (cf_P D cT z (cf_E cT nc ng S P O ad) ad)) (cf_Qi D z (fun (r : Int32) (_ : Unit) => cf_B r (cf_playM S P u)) (fun _ => (cf_E cT nc ng S P O ad)) (fun _ => ad)) 0 0 (fun q => z ≤ q) := by
  refine Met.ofW (cc := cX6_playable) (maxL := 4) (ret := (some .boolean)) (by decide) rfl ?_
  intro p e s m args below meth c s₁ B hml hv
  obtain ⟨rfl, hW, hT⟩ := hv
  have hx := B.exec
  have hb := B.bytes
  have hr := B.returns
  have hts := atoms_spec (ws := wsX6_playable) B.pre
  have hown : s.vm.findClass RX6 = some m.cls := findClass_of_methodNamed B.named
  have hlocks := B.notSynchronized
  have hS : va_S (fun q => z ≤ q) s.heap s.heap [] := va_S.rf
  have hl := lv_entry ([.ref (ad 6 0), .int x]) (n := 4) (Nat.le_of_ble_eq_true rfl)
  rw [lg_entry_eq]
  generalize (lg_sl ([.ref (ad 6 0), .int x]) ++ List.replicate (4 - (lg_sl ([.ref (ad 6 0), .int x])).length) Slot.unset).toArray = ls at hl ⊢
  have hl : lv_has ls 4 [(0, .ref (ad 6 0)), (1, .int x)] := hl
  skip
  refine lv_iconst (v := 1) hx hb dX6_playable_0 (by decide) ?_
  refine lv_istore_n (lv' := [(2, .int 1), (0, .ref (ad 6 0)), (1, .int x)]) hx hb dX6_playable_1 rfl hl (by decide) rfl (fun ls hl => ?_)
  refine lv_iconst (v := 0) hx hb dX6_playable_2 (by decide) ?_
  refine lv_istore_n (lv' := [(3, .int 0), (2, .int 1), (0, .ref (ad 6 0)), (1, .int x)]) hx hb dX6_playable_3 rfl hl (by decide) rfl (fun ls hl => ?_)
  refine lv_iload_n hx hb dX6_playable_4 rfl (lv_at hl 0 rfl) ?_
  refine lv_iconst (v := 4) hx hb dX6_playable_5 (by decide) ?_
  refine lv_icmp_ge (tgt := 53) hx hb dX6_playable_6 (by decide) (fun c6_1 => (by first | exact absurd c6_1 (by decide) | exact absurd (by decide) c6_1)) (fun c6_1 => ?_)
  refine lv_iload_n hx hb dX6_playable_9 rfl (lv_at hl 1 rfl) ?_
  refine lv_if_eq (tgt := 45) hx hb dX6_playable_10 (by decide) (fun c10_2 => (by first | exact absurd c10_2 (by decide) | exact absurd (by decide) c10_2)) (fun c10_2 => ?_)
  refine lv_aload_n hx hb dX6_playable_13 rfl (lv_at hl 2 rfl) ?_
  refine cf_get (v := .ref (ad 17 14)) (ci := 6) (C := RX6) (T := TX6) (N := 24) hx hb hts (fun _ h => List.mem_cons_of_mem _ (List.mem_append_right _ (h))) hown hT.1 hW cf_e6 rfl 14 (by decide) (hts (.fieldLink RX6 46 "GameCafeModel" "parts" "[I") (List.mem_of_getElem? (i := 1) rfl)) (fun _ h9 => h9) rfl dX6_playable_14 ?_
  refine lv_iconst (v := 4) hx hb dX6_playable_17 (by decide) ?_
  refine lv_iload_n hx hb dX6_playable_18 rfl (lv_at hl 3 rfl) ?_
  refine lv_imul hx hb dX6_playable_19 ?_
  refine lv_iload_n hx hb dX6_playable_20 rfl (lv_at hl 0 rfl) ?_
  refine lv_iadd hx hb dX6_playable_21 ?_
  refine cf_ildN (t0 := 0) (n := 60) (f := S 17 14) (v := (S 17 14 (4 * u + 0))) hx hb hT.1 hW (cf_e17 (i := 14) (by decide)) rfl (4 * u + 0) (cf_ix4 hxu rfl) (by omega) (by decide) dX6_playable_22 rfl ?_
  refine lv_aload_n hx hb dX6_playable_23 rfl (lv_at hl 2 rfl) ?_
  refine cf_get (v := .ref (ad 17 5)) (ci := 6) (C := RX6) (T := TX6) (N := 24) hx hb hts (fun _ h => List.mem_cons_of_mem _ (List.mem_append_right _ (h))) hown hT.1 hW cf_e6 rfl 5 (by decide) (hts (.fieldLink RX6 22 "GameCafeModel" "needs" "[I") (List.mem_of_getElem? (i := 2) rfl)) (fun _ h9 => h9) rfl dX6_playable_24 ?_
  refine lv_iconst (v := 4) hx hb dX6_playable_27 (by decide) ?_
  refine lv_aload_n hx hb dX6_playable_28 rfl (lv_at hl 2 rfl) ?_
  refine cf_get (v := .ref (ad 17 12)) (ci := 6) (C := RX6) (T := TX6) (N := 24) hx hb hts (fun _ h => List.mem_cons_of_mem _ (List.mem_append_right _ (h))) hown hT.1 hW cf_e6 rfl 12 (by decide) (hts (.fieldLink RX6 40 "GameCafeModel" "games" "[I") (List.mem_of_getElem? (i := 3) rfl)) (fun _ h9 => h9) rfl dX6_playable_29 ?_
  refine lv_iload_n hx hb dX6_playable_32 rfl (lv_at hl 3 rfl) ?_
  refine cf_ildN (t0 := 0) (n := 15) (f := S 17 12) (v := (nI (P 0 u 0))) hx hb hT.1 hW (cf_e17 (i := 12) (by decide)) rfl u hxu (by omega) (by decide) dX6_playable_33 (hM u hu).1 ?_
  refine lv_imul hx hb dX6_playable_34 ?_
  refine lv_iload_n hx hb dX6_playable_35 rfl (lv_at hl 0 rfl) ?_
  refine lv_iadd hx hb dX6_playable_36 ?_
  refine cf_ildN (t0 := 0) (n := 20) (f := S 17 5) (v := (S 17 5 (4 * P 0 u 0 + 0))) hx hb hT.1 hW (cf_e17 (i := 5) (by decide)) rfl (4 * P 0 u 0 + 0) (cf_ix4 rfl rfl) (by have := (hM u hu).2; omega) (by decide) dX6_playable_37 rfl ?_
  refine lv_icmp_lt (tgt := 45) hx hb dX6_playable_38 (by decide) (fun c38_3 => ?_) (fun c38_3 => ?_)
  · refine lv_iconst (v := 0) hx hb dX6_playable_45 (by decide) ?_
    refine lv_istore_n (lv' := [(2, .int 0), (3, .int 0), (0, .ref (ad 6 0)), (1, .int x)]) hx hb dX6_playable_46 rfl hl (by decide) rfl (fun ls hl => ?_)
    refine lv_iinc (v := 1) (lv' := [(3, .int 1), (2, .int 0), (0, .ref (ad 6 0)), (1, .int x)]) hx hb dX6_playable_47 hl (k := 1) rfl (by decide) (by decide) rfl (fun ls hl => ?_)
    refine lv_goto (tgt := 4) hx hb dX6_playable_50 (by decide) ?_
    refine lv_iload_n hx hb dX6_playable_4 rfl (lv_at hl 0 rfl) ?_
    refine lv_iconst (v := 4) hx hb dX6_playable_5 (by decide) ?_
    refine lv_icmp_ge (tgt := 53) hx hb dX6_playable_6 (by decide) (fun c6_4 => (by first | exact absurd c6_4 (by decide) | exact absurd (by decide) c6_4)) (fun c6_4 => ?_)
    refine lv_iload_n hx hb dX6_playable_9 rfl (lv_at hl 1 rfl) ?_
    refine lv_if_eq (tgt := 45) hx hb dX6_playable_10 (by decide) (fun c10_5 => ?_) (fun c10_5 => (by first | exact absurd rfl c10_5 | exact absurd c10_5 rfl))
    refine lv_iconst (v := 0) hx hb dX6_playable_45 (by decide) ?_
    refine lv_istore_n (lv' := [(2, .int 0), (3, .int 1), (0, .ref (ad 6 0)), (1, .int x)]) hx hb dX6_playable_46 rfl hl (by decide) rfl (fun ls hl => ?_)
    refine lv_iinc (v := 2) (lv' := [(3, .int 2), (2, .int 0), (0, .ref (ad 6 0)), (1, .int x)]) hx hb dX6_playable_47 hl (k := 1) rfl (by decide) (by decide) rfl (fun ls hl => ?_)
    refine lv_goto (tgt := 4) hx hb dX6_playable_50 (by decide) ?_
    refine lv_iload_n hx hb dX6_playable_4 rfl (lv_at hl 0 rfl) ?_
    refine lv_iconst (v := 4) hx hb dX6_playable_5 (by decide) ?_
    refine lv_icmp_ge (tgt := 53) hx hb dX6_playable_6 (by decide) (fun c6_6 => (by first | exact absurd c6_6 (by decide) | exact absurd (by decide) c6_6)) (fun c6_6 => ?_)
    refine lv_iload_n hx hb dX6_playable_9 rfl (lv_at hl 1 rfl) ?_
    refine lv_if_eq (tgt := 45) hx hb dX6_playable_10 (by decide) (fun c10_7 => ?_) (fun c10_7 => (by first | exact absurd rfl c10_7 | exact absurd c10_7 rfl))
    refine lv_iconst (v := 0) hx hb dX6_playable_45 (by decide) ?_
    refine lv_istore_n (lv' := [(2, .int 0), (3, .int 2), (0, .ref (ad 6 0)), (1, .int x)]) hx hb dX6_playable_46 rfl hl (by decide) rfl (fun ls hl => ?_)
    refine lv_iinc (v := 3) (lv' := [(3, .int 3), (2, .int 0), (0, .ref (ad 6 0)), (1, .int x)]) hx hb dX6_playable_47 hl (k := 1) rfl (by decide) (by decide) rfl (fun ls hl => ?_)
    refine lv_goto (tgt := 4) hx hb dX6_playable_50 (by decide) ?_
    refine lv_iload_n hx hb dX6_playable_4 rfl (lv_at hl 0 rfl) ?_
    refine lv_iconst (v := 4) hx hb dX6_playable_5 (by decide) ?_
    refine lv_icmp_ge (tgt := 53) hx hb dX6_playable_6 (by decide) (fun c6_8 => (by first | exact absurd c6_8 (by decide) | exact absurd (by decide) c6_8)) (fun c6_8 => ?_)
    refine lv_iload_n hx hb dX6_playable_9 rfl (lv_at hl 1 rfl) ?_
    refine lv_if_eq (tgt := 45) hx hb dX6_playable_10 (by decide) (fun c10_9 => ?_) (fun c10_9 => (by first | exact absurd rfl c10_9 | exact absurd c10_9 rfl))
    refine lv_iconst (v := 0) hx hb dX6_playable_45 (by decide) ?_
    refine lv_istore_n (lv' := [(2, .int 0), (3, .int 3), (0, .ref (ad 6 0)), (1, .int x)]) hx hb dX6_playable_46 rfl hl (by decide) rfl (fun ls hl => ?_)
    refine lv_iinc (v := 4) (lv' := [(3, .int 4), (2, .int 0), (0, .ref (ad 6 0)), (1, .int x)]) hx hb dX6_playable_47 hl (k := 1) rfl (by decide) (by decide) rfl (fun ls hl => ?_)
    refine lv_goto (tgt := 4) hx hb dX6_playable_50 (by decide) ?_
    refine lv_iload_n hx hb dX6_playable_4 rfl (lv_at hl 0 rfl) ?_
    refine lv_iconst (v := 4) hx hb dX6_playable_5 (by decide) ?_
    refine lv_icmp_ge (tgt := 53) hx hb dX6_playable_6 (by decide) (fun c6_10 => ?_) (fun c6_10 => (by first | exact absurd (by decide) c6_10 | exact absurd c6_10 (by decide)))
    refine lv_iload_n hx hb dX6_playable_53 rfl (lv_at hl 1 rfl) ?_
    exact W.zret (v := 0) (ty := .boolean) hx hb hr (by rfl) (fun t9 ht9 hw9 => ⟨⟨0, (), rfl, Or.inr ⟨rfl, fun q => (Int32.not_le.mpr c38_3) (q 0 (by decide))⟩, cf_W.re ht9 hW⟩, hS.F ht9⟩) hS.2.2 dX6_playable_54
  · have g0 := Int32.not_lt.mp c38_3
    refine lv_iconst (v := 1) hx hb dX6_playable_41 (by decide) ?_
    refine lv_goto (tgt := 46) hx hb dX6_playable_42 (by decide) ?_
    refine lv_istore_n (lv' := [(2, .int 1), (3, .int 0), (0, .ref (ad 6 0)), (1, .int x)]) hx hb dX6_playable_46 rfl hl (by decide) rfl (fun ls hl => ?_)
    refine lv_iinc (v := 1) (lv' := [(3, .int 1), (2, .int 1), (0, .ref (ad 6 0)), (1, .int x)]) hx hb dX6_playable_47 hl (k := 1) rfl (by decide) (by decide) rfl (fun ls hl => ?_)
    refine lv_goto (tgt := 4) hx hb dX6_playable_50 (by decide) ?_
    refine lv_iload_n hx hb dX6_playable_4 rfl (lv_at hl 0 rfl) ?_
    refine lv_iconst (v := 4) hx hb dX6_playable_5 (by decide) ?_
    refine lv_icmp_ge (tgt := 53) hx hb dX6_playable_6 (by decide) (fun c6_11 => (by first | exact absurd c6_11 (by decide) | exact absurd (by decide) c6_11)) (fun c6_11 => ?_)
    refine lv_iload_n hx hb dX6_playable_9 rfl (lv_at hl 1 rfl) ?_
    refine lv_if_eq (tgt := 45) hx hb dX6_playable_10 (by decide) (fun c10_12 => (by first | exact absurd c10_12 (by decide) | exact absurd (by decide) c10_12)) (fun c10_12 => ?_)
    refine lv_aload_n hx hb dX6_playable_13 rfl (lv_at hl 2 rfl) ?_
    refine cf_get (v := .ref (ad 17 14)) (ci := 6) (C := RX6) (T := TX6) (N := 24) hx hb hts (fun _ h => List.mem_cons_of_mem _ (List.mem_append_right _ (h))) hown hT.1 hW cf_e6 rfl 14 (by decide) (hts (.fieldLink RX6 46 "GameCafeModel" "parts" "[I") (List.mem_of_getElem? (i := 1) rfl)) (fun _ h9 => h9) rfl dX6_playable_14 ?_
    refine lv_iconst (v := 4) hx hb dX6_playable_17 (by decide) ?_
    refine lv_iload_n hx hb dX6_playable_18 rfl (lv_at hl 3 rfl) ?_
    refine lv_imul hx hb dX6_playable_19 ?_
    refine lv_iload_n hx hb dX6_playable_20 rfl (lv_at hl 0 rfl) ?_
    refine lv_iadd hx hb dX6_playable_21 ?_
    refine cf_ildN (t0 := 0) (n := 60) (f := S 17 14) (v := (S 17 14 (4 * u + 1))) hx hb hT.1 hW (cf_e17 (i := 14) (by decide)) rfl (4 * u + 1) (cf_ix4 hxu rfl) (by omega) (by decide) dX6_playable_22 rfl ?_
    refine lv_aload_n hx hb dX6_playable_23 rfl (lv_at hl 2 rfl) ?_
    refine cf_get (v := .ref (ad 17 5)) (ci := 6) (C := RX6) (T := TX6) (N := 24) hx hb hts (fun _ h => List.mem_cons_of_mem _ (List.mem_append_right _ (h))) hown hT.1 hW cf_e6 rfl 5 (by decide) (hts (.fieldLink RX6 22 "GameCafeModel" "needs" "[I") (List.mem_of_getElem? (i := 2) rfl)) (fun _ h9 => h9) rfl dX6_playable_24 ?_
    refine lv_iconst (v := 4) hx hb dX6_playable_27 (by decide) ?_
    refine lv_aload_n hx hb dX6_playable_28 rfl (lv_at hl 2 rfl) ?_
    refine cf_get (v := .ref (ad 17 12)) (ci := 6) (C := RX6) (T := TX6) (N := 24) hx hb hts (fun _ h => List.mem_cons_of_mem _ (List.mem_append_right _ (h))) hown hT.1 hW cf_e6 rfl 12 (by decide) (hts (.fieldLink RX6 40 "GameCafeModel" "games" "[I") (List.mem_of_getElem? (i := 3) rfl)) (fun _ h9 => h9) rfl dX6_playable_29 ?_
    refine lv_iload_n hx hb dX6_playable_32 rfl (lv_at hl 3 rfl) ?_
    refine cf_ildN (t0 := 0) (n := 15) (f := S 17 12) (v := (nI (P 0 u 0))) hx hb hT.1 hW (cf_e17 (i := 12) (by decide)) rfl u hxu (by omega) (by decide) dX6_playable_33 (hM u hu).1 ?_
    refine lv_imul hx hb dX6_playable_34 ?_
    refine lv_iload_n hx hb dX6_playable_35 rfl (lv_at hl 0 rfl) ?_
    refine lv_iadd hx hb dX6_playable_36 ?_
    refine cf_ildN (t0 := 0) (n := 20) (f := S 17 5) (v := (S 17 5 (4 * P 0 u 0 + 1))) hx hb hT.1 hW (cf_e17 (i := 5) (by decide)) rfl (4 * P 0 u 0 + 1) (cf_ix4 rfl rfl) (by have := (hM u hu).2; omega) (by decide) dX6_playable_37 rfl ?_
    refine lv_icmp_lt (tgt := 45) hx hb dX6_playable_38 (by decide) (fun c38_13 => ?_) (fun c38_13 => ?_)
    · refine lv_iconst (v := 0) hx hb dX6_playable_45 (by decide) ?_
      refine lv_istore_n (lv' := [(2, .int 0), (3, .int 1), (0, .ref (ad 6 0)), (1, .int x)]) hx hb dX6_playable_46 rfl hl (by decide) rfl (fun ls hl => ?_)
      refine lv_iinc (v := 2) (lv' := [(3, .int 2), (2, .int 0), (0, .ref (ad 6 0)), (1, .int x)]) hx hb dX6_playable_47 hl (k := 1) rfl (by decide) (by decide) rfl (fun ls hl => ?_)
      refine lv_goto (tgt := 4) hx hb dX6_playable_50 (by decide) ?_
      refine lv_iload_n hx hb dX6_playable_4 rfl (lv_at hl 0 rfl) ?_
      refine lv_iconst (v := 4) hx hb dX6_playable_5 (by decide) ?_
      refine lv_icmp_ge (tgt := 53) hx hb dX6_playable_6 (by decide) (fun c6_14 => (by first | exact absurd c6_14 (by decide) | exact absurd (by decide) c6_14)) (fun c6_14 => ?_)
      refine lv_iload_n hx hb dX6_playable_9 rfl (lv_at hl 1 rfl) ?_
      refine lv_if_eq (tgt := 45) hx hb dX6_playable_10 (by decide) (fun c10_15 => ?_) (fun c10_15 => (by first | exact absurd rfl c10_15 | exact absurd c10_15 rfl))
      refine lv_iconst (v := 0) hx hb dX6_playable_45 (by decide) ?_
      refine lv_istore_n (lv' := [(2, .int 0), (3, .int 2), (0, .ref (ad 6 0)), (1, .int x)]) hx hb dX6_playable_46 rfl hl (by decide) rfl (fun ls hl => ?_)
      refine lv_iinc (v := 3) (lv' := [(3, .int 3), (2, .int 0), (0, .ref (ad 6 0)), (1, .int x)]) hx hb dX6_playable_47 hl (k := 1) rfl (by decide) (by decide) rfl (fun ls hl => ?_)
      refine lv_goto (tgt := 4) hx hb dX6_playable_50 (by decide) ?_
      refine lv_iload_n hx hb dX6_playable_4 rfl (lv_at hl 0 rfl) ?_
      refine lv_iconst (v := 4) hx hb dX6_playable_5 (by decide) ?_
      refine lv_icmp_ge (tgt := 53) hx hb dX6_playable_6 (by decide) (fun c6_16 => (by first | exact absurd c6_16 (by decide) | exact absurd (by decide) c6_16)) (fun c6_16 => ?_)
      refine lv_iload_n hx hb dX6_playable_9 rfl (lv_at hl 1 rfl) ?_
      refine lv_if_eq (tgt := 45) hx hb dX6_playable_10 (by decide) (fun c10_17 => ?_) (fun c10_17 => (by first | exact absurd rfl c10_17 | exact absurd c10_17 rfl))
      refine lv_iconst (v := 0) hx hb dX6_playable_45 (by decide) ?_
      refine lv_istore_n (lv' := [(2, .int 0), (3, .int 3), (0, .ref (ad 6 0)), (1, .int x)]) hx hb dX6_playable_46 rfl hl (by decide) rfl (fun ls hl => ?_)
      refine lv_iinc (v := 4) (lv' := [(3, .int 4), (2, .int 0), (0, .ref (ad 6 0)), (1, .int x)]) hx hb dX6_playable_47 hl (k := 1) rfl (by decide) (by decide) rfl (fun ls hl => ?_)
      refine lv_goto (tgt := 4) hx hb dX6_playable_50 (by decide) ?_
      refine lv_iload_n hx hb dX6_playable_4 rfl (lv_at hl 0 rfl) ?_
      refine lv_iconst (v := 4) hx hb dX6_playable_5 (by decide) ?_
      refine lv_icmp_ge (tgt := 53) hx hb dX6_playable_6 (by decide) (fun c6_18 => ?_) (fun c6_18 => (by first | exact absurd (by decide) c6_18 | exact absurd c6_18 (by decide)))
      refine lv_iload_n hx hb dX6_playable_53 rfl (lv_at hl 1 rfl) ?_
      exact W.zret (v := 0) (ty := .boolean) hx hb hr (by rfl) (fun t9 ht9 hw9 => ⟨⟨0, (), rfl, Or.inr ⟨rfl, fun q => (Int32.not_le.mpr c38_13) (q 1 (by decide))⟩, cf_W.re ht9 hW⟩, hS.F ht9⟩) hS.2.2 dX6_playable_54
    · have g1 := Int32.not_lt.mp c38_13
      refine lv_iconst (v := 1) hx hb dX6_playable_41 (by decide) ?_
      refine lv_goto (tgt := 46) hx hb dX6_playable_42 (by decide) ?_
      refine lv_istore_n (lv' := [(2, .int 1), (3, .int 1), (0, .ref (ad 6 0)), (1, .int x)]) hx hb dX6_playable_46 rfl hl (by decide) rfl (fun ls hl => ?_)
      refine lv_iinc (v := 2) (lv' := [(3, .int 2), (2, .int 1), (0, .ref (ad 6 0)), (1, .int x)]) hx hb dX6_playable_47 hl (k := 1) rfl (by decide) (by decide) rfl (fun ls hl => ?_)
      refine lv_goto (tgt := 4) hx hb dX6_playable_50 (by decide) ?_
      refine lv_iload_n hx hb dX6_playable_4 rfl (lv_at hl 0 rfl) ?_
      refine lv_iconst (v := 4) hx hb dX6_playable_5 (by decide) ?_
      refine lv_icmp_ge (tgt := 53) hx hb dX6_playable_6 (by decide) (fun c6_19 => (by first | exact absurd c6_19 (by decide) | exact absurd (by decide) c6_19)) (fun c6_19 => ?_)
      refine lv_iload_n hx hb dX6_playable_9 rfl (lv_at hl 1 rfl) ?_
      refine lv_if_eq (tgt := 45) hx hb dX6_playable_10 (by decide) (fun c10_20 => (by first | exact absurd c10_20 (by decide) | exact absurd (by decide) c10_20)) (fun c10_20 => ?_)
      refine lv_aload_n hx hb dX6_playable_13 rfl (lv_at hl 2 rfl) ?_
      refine cf_get (v := .ref (ad 17 14)) (ci := 6) (C := RX6) (T := TX6) (N := 24) hx hb hts (fun _ h => List.mem_cons_of_mem _ (List.mem_append_right _ (h))) hown hT.1 hW cf_e6 rfl 14 (by decide) (hts (.fieldLink RX6 46 "GameCafeModel" "parts" "[I") (List.mem_of_getElem? (i := 1) rfl)) (fun _ h9 => h9) rfl dX6_playable_14 ?_
      refine lv_iconst (v := 4) hx hb dX6_playable_17 (by decide) ?_
      refine lv_iload_n hx hb dX6_playable_18 rfl (lv_at hl 3 rfl) ?_
      refine lv_imul hx hb dX6_playable_19 ?_
      refine lv_iload_n hx hb dX6_playable_20 rfl (lv_at hl 0 rfl) ?_
      refine lv_iadd hx hb dX6_playable_21 ?_
      refine cf_ildN (t0 := 0) (n := 60) (f := S 17 14) (v := (S 17 14 (4 * u + 2))) hx hb hT.1 hW (cf_e17 (i := 14) (by decide)) rfl (4 * u + 2) (cf_ix4 hxu rfl) (by omega) (by decide) dX6_playable_22 rfl ?_
      refine lv_aload_n hx hb dX6_playable_23 rfl (lv_at hl 2 rfl) ?_
      refine cf_get (v := .ref (ad 17 5)) (ci := 6) (C := RX6) (T := TX6) (N := 24) hx hb hts (fun _ h => List.mem_cons_of_mem _ (List.mem_append_right _ (h))) hown hT.1 hW cf_e6 rfl 5 (by decide) (hts (.fieldLink RX6 22 "GameCafeModel" "needs" "[I") (List.mem_of_getElem? (i := 2) rfl)) (fun _ h9 => h9) rfl dX6_playable_24 ?_
      refine lv_iconst (v := 4) hx hb dX6_playable_27 (by decide) ?_
      refine lv_aload_n hx hb dX6_playable_28 rfl (lv_at hl 2 rfl) ?_
      refine cf_get (v := .ref (ad 17 12)) (ci := 6) (C := RX6) (T := TX6) (N := 24) hx hb hts (fun _ h => List.mem_cons_of_mem _ (List.mem_append_right _ (h))) hown hT.1 hW cf_e6 rfl 12 (by decide) (hts (.fieldLink RX6 40 "GameCafeModel" "games" "[I") (List.mem_of_getElem? (i := 3) rfl)) (fun _ h9 => h9) rfl dX6_playable_29 ?_
      refine lv_iload_n hx hb dX6_playable_32 rfl (lv_at hl 3 rfl) ?_
      refine cf_ildN (t0 := 0) (n := 15) (f := S 17 12) (v := (nI (P 0 u 0))) hx hb hT.1 hW (cf_e17 (i := 12) (by decide)) rfl u hxu (by omega) (by decide) dX6_playable_33 (hM u hu).1 ?_
      refine lv_imul hx hb dX6_playable_34 ?_
      refine lv_iload_n hx hb dX6_playable_35 rfl (lv_at hl 0 rfl) ?_
      refine lv_iadd hx hb dX6_playable_36 ?_
      refine cf_ildN (t0 := 0) (n := 20) (f := S 17 5) (v := (S 17 5 (4 * P 0 u 0 + 2))) hx hb hT.1 hW (cf_e17 (i := 5) (by decide)) rfl (4 * P 0 u 0 + 2) (cf_ix4 rfl rfl) (by have := (hM u hu).2; omega) (by decide) dX6_playable_37 rfl ?_
      refine lv_icmp_lt (tgt := 45) hx hb dX6_playable_38 (by decide) (fun c38_21 => ?_) (fun c38_21 => ?_)
      · refine lv_iconst (v := 0) hx hb dX6_playable_45 (by decide) ?_
        refine lv_istore_n (lv' := [(2, .int 0), (3, .int 2), (0, .ref (ad 6 0)), (1, .int x)]) hx hb dX6_playable_46 rfl hl (by decide) rfl (fun ls hl => ?_)
        refine lv_iinc (v := 3) (lv' := [(3, .int 3), (2, .int 0), (0, .ref (ad 6 0)), (1, .int x)]) hx hb dX6_playable_47 hl (k := 1) rfl (by decide) (by decide) rfl (fun ls hl => ?_)
        refine lv_goto (tgt := 4) hx hb dX6_playable_50 (by decide) ?_
        refine lv_iload_n hx hb dX6_playable_4 rfl (lv_at hl 0 rfl) ?_
        refine lv_iconst (v := 4) hx hb dX6_playable_5 (by decide) ?_
        refine lv_icmp_ge (tgt := 53) hx hb dX6_playable_6 (by decide) (fun c6_22 => (by first | exact absurd c6_22 (by decide) | exact absurd (by decide) c6_22)) (fun c6_22 => ?_)
        refine lv_iload_n hx hb dX6_playable_9 rfl (lv_at hl 1 rfl) ?_
        refine lv_if_eq (tgt := 45) hx hb dX6_playable_10 (by decide) (fun c10_23 => ?_) (fun c10_23 => (by first | exact absurd rfl c10_23 | exact absurd c10_23 rfl))
        refine lv_iconst (v := 0) hx hb dX6_playable_45 (by decide) ?_
        refine lv_istore_n (lv' := [(2, .int 0), (3, .int 3), (0, .ref (ad 6 0)), (1, .int x)]) hx hb dX6_playable_46 rfl hl (by decide) rfl (fun ls hl => ?_)
        refine lv_iinc (v := 4) (lv' := [(3, .int 4), (2, .int 0), (0, .ref (ad 6 0)), (1, .int x)]) hx hb dX6_playable_47 hl (k := 1) rfl (by decide) (by decide) rfl (fun ls hl => ?_)
        refine lv_goto (tgt := 4) hx hb dX6_playable_50 (by decide) ?_
        refine lv_iload_n hx hb dX6_playable_4 rfl (lv_at hl 0 rfl) ?_
        refine lv_iconst (v := 4) hx hb dX6_playable_5 (by decide) ?_
        refine lv_icmp_ge (tgt := 53) hx hb dX6_playable_6 (by decide) (fun c6_24 => ?_) (fun c6_24 => (by first | exact absurd (by decide) c6_24 | exact absurd c6_24 (by decide)))
        refine lv_iload_n hx hb dX6_playable_53 rfl (lv_at hl 1 rfl) ?_
        exact W.zret (v := 0) (ty := .boolean) hx hb hr (by rfl) (fun t9 ht9 hw9 => ⟨⟨0, (), rfl, Or.inr ⟨rfl, fun q => (Int32.not_le.mpr c38_21) (q 2 (by decide))⟩, cf_W.re ht9 hW⟩, hS.F ht9⟩) hS.2.2 dX6_playable_54
      · have g2 := Int32.not_lt.mp c38_21
        refine lv_iconst (v := 1) hx hb dX6_playable_41 (by decide) ?_
        refine lv_goto (tgt := 46) hx hb dX6_playable_42 (by decide) ?_
        refine lv_istore_n (lv' := [(2, .int 1), (3, .int 2), (0, .ref (ad 6 0)), (1, .int x)]) hx hb dX6_playable_46 rfl hl (by decide) rfl (fun ls hl => ?_)
        refine lv_iinc (v := 3) (lv' := [(3, .int 3), (2, .int 1), (0, .ref (ad 6 0)), (1, .int x)]) hx hb dX6_playable_47 hl (k := 1) rfl (by decide) (by decide) rfl (fun ls hl => ?_)
        refine lv_goto (tgt := 4) hx hb dX6_playable_50 (by decide) ?_
        refine lv_iload_n hx hb dX6_playable_4 rfl (lv_at hl 0 rfl) ?_
        refine lv_iconst (v := 4) hx hb dX6_playable_5 (by decide) ?_
        refine lv_icmp_ge (tgt := 53) hx hb dX6_playable_6 (by decide) (fun c6_25 => (by first | exact absurd c6_25 (by decide) | exact absurd (by decide) c6_25)) (fun c6_25 => ?_)
        refine lv_iload_n hx hb dX6_playable_9 rfl (lv_at hl 1 rfl) ?_
        refine lv_if_eq (tgt := 45) hx hb dX6_playable_10 (by decide) (fun c10_26 => (by first | exact absurd c10_26 (by decide) | exact absurd (by decide) c10_26)) (fun c10_26 => ?_)
        refine lv_aload_n hx hb dX6_playable_13 rfl (lv_at hl 2 rfl) ?_
        refine cf_get (v := .ref (ad 17 14)) (ci := 6) (C := RX6) (T := TX6) (N := 24) hx hb hts (fun _ h => List.mem_cons_of_mem _ (List.mem_append_right _ (h))) hown hT.1 hW cf_e6 rfl 14 (by decide) (hts (.fieldLink RX6 46 "GameCafeModel" "parts" "[I") (List.mem_of_getElem? (i := 1) rfl)) (fun _ h9 => h9) rfl dX6_playable_14 ?_
        refine lv_iconst (v := 4) hx hb dX6_playable_17 (by decide) ?_
        refine lv_iload_n hx hb dX6_playable_18 rfl (lv_at hl 3 rfl) ?_
        refine lv_imul hx hb dX6_playable_19 ?_
        refine lv_iload_n hx hb dX6_playable_20 rfl (lv_at hl 0 rfl) ?_
        refine lv_iadd hx hb dX6_playable_21 ?_
        refine cf_ildN (t0 := 0) (n := 60) (f := S 17 14) (v := (S 17 14 (4 * u + 3))) hx hb hT.1 hW (cf_e17 (i := 14) (by decide)) rfl (4 * u + 3) (cf_ix4 hxu rfl) (by omega) (by decide) dX6_playable_22 rfl ?_
        refine lv_aload_n hx hb dX6_playable_23 rfl (lv_at hl 2 rfl) ?_
        refine cf_get (v := .ref (ad 17 5)) (ci := 6) (C := RX6) (T := TX6) (N := 24) hx hb hts (fun _ h => List.mem_cons_of_mem _ (List.mem_append_right _ (h))) hown hT.1 hW cf_e6 rfl 5 (by decide) (hts (.fieldLink RX6 22 "GameCafeModel" "needs" "[I") (List.mem_of_getElem? (i := 2) rfl)) (fun _ h9 => h9) rfl dX6_playable_24 ?_
        refine lv_iconst (v := 4) hx hb dX6_playable_27 (by decide) ?_
        refine lv_aload_n hx hb dX6_playable_28 rfl (lv_at hl 2 rfl) ?_
        refine cf_get (v := .ref (ad 17 12)) (ci := 6) (C := RX6) (T := TX6) (N := 24) hx hb hts (fun _ h => List.mem_cons_of_mem _ (List.mem_append_right _ (h))) hown hT.1 hW cf_e6 rfl 12 (by decide) (hts (.fieldLink RX6 40 "GameCafeModel" "games" "[I") (List.mem_of_getElem? (i := 3) rfl)) (fun _ h9 => h9) rfl dX6_playable_29 ?_
        refine lv_iload_n hx hb dX6_playable_32 rfl (lv_at hl 3 rfl) ?_
        refine cf_ildN (t0 := 0) (n := 15) (f := S 17 12) (v := (nI (P 0 u 0))) hx hb hT.1 hW (cf_e17 (i := 12) (by decide)) rfl u hxu (by omega) (by decide) dX6_playable_33 (hM u hu).1 ?_
        refine lv_imul hx hb dX6_playable_34 ?_
        refine lv_iload_n hx hb dX6_playable_35 rfl (lv_at hl 0 rfl) ?_
        refine lv_iadd hx hb dX6_playable_36 ?_
        refine cf_ildN (t0 := 0) (n := 20) (f := S 17 5) (v := (S 17 5 (4 * P 0 u 0 + 3))) hx hb hT.1 hW (cf_e17 (i := 5) (by decide)) rfl (4 * P 0 u 0 + 3) (cf_ix4 rfl rfl) (by have := (hM u hu).2; omega) (by decide) dX6_playable_37 rfl ?_
        refine lv_icmp_lt (tgt := 45) hx hb dX6_playable_38 (by decide) (fun c38_27 => ?_) (fun c38_27 => ?_)
        · refine lv_iconst (v := 0) hx hb dX6_playable_45 (by decide) ?_
          refine lv_istore_n (lv' := [(2, .int 0), (3, .int 3), (0, .ref (ad 6 0)), (1, .int x)]) hx hb dX6_playable_46 rfl hl (by decide) rfl (fun ls hl => ?_)
          refine lv_iinc (v := 4) (lv' := [(3, .int 4), (2, .int 0), (0, .ref (ad 6 0)), (1, .int x)]) hx hb dX6_playable_47 hl (k := 1) rfl (by decide) (by decide) rfl (fun ls hl => ?_)
          refine lv_goto (tgt := 4) hx hb dX6_playable_50 (by decide) ?_
          refine lv_iload_n hx hb dX6_playable_4 rfl (lv_at hl 0 rfl) ?_
          refine lv_iconst (v := 4) hx hb dX6_playable_5 (by decide) ?_
          refine lv_icmp_ge (tgt := 53) hx hb dX6_playable_6 (by decide) (fun c6_28 => ?_) (fun c6_28 => (by first | exact absurd (by decide) c6_28 | exact absurd c6_28 (by decide)))
          refine lv_iload_n hx hb dX6_playable_53 rfl (lv_at hl 1 rfl) ?_
          exact W.zret (v := 0) (ty := .boolean) hx hb hr (by rfl) (fun t9 ht9 hw9 => ⟨⟨0, (), rfl, Or.inr ⟨rfl, fun q => (Int32.not_le.mpr c38_27) (q 3 (by decide))⟩, cf_W.re ht9 hW⟩, hS.F ht9⟩) hS.2.2 dX6_playable_54
        · have g3 := Int32.not_lt.mp c38_27
          refine lv_iconst (v := 1) hx hb dX6_playable_41 (by decide) ?_
          refine lv_goto (tgt := 46) hx hb dX6_playable_42 (by decide) ?_
          refine lv_istore_n (lv' := [(2, .int 1), (3, .int 3), (0, .ref (ad 6 0)), (1, .int x)]) hx hb dX6_playable_46 rfl hl (by decide) rfl (fun ls hl => ?_)
          refine lv_iinc (v := 4) (lv' := [(3, .int 4), (2, .int 1), (0, .ref (ad 6 0)), (1, .int x)]) hx hb dX6_playable_47 hl (k := 1) rfl (by decide) (by decide) rfl (fun ls hl => ?_)
          refine lv_goto (tgt := 4) hx hb dX6_playable_50 (by decide) ?_
          refine lv_iload_n hx hb dX6_playable_4 rfl (lv_at hl 0 rfl) ?_
          refine lv_iconst (v := 4) hx hb dX6_playable_5 (by decide) ?_
          refine lv_icmp_ge (tgt := 53) hx hb dX6_playable_6 (by decide) (fun c6_29 => ?_) (fun c6_29 => (by first | exact absurd (by decide) c6_29 | exact absurd c6_29 (by decide)))
          refine lv_iload_n hx hb dX6_playable_53 rfl (lv_at hl 1 rfl) ?_
          exact W.zret (v := 1) (ty := .boolean) hx hb hr (by rfl) (fun t9 ht9 hw9 => ⟨⟨1, (), rfl, Or.inl ⟨rfl, cf_all4 g0 g1 g2 g3⟩, cf_W.re ht9 hW⟩, hS.F ht9⟩) hS.2.2 dX6_playable_54
set_option maxHeartbeats 4000000 in
set_option maxRecDepth 100000 in
/-- X6_tableFor -/
theorem c_X6_tableFor (l : Launch) (D : va_G) (cT : Nat → ClassId) (z : Nat) (ad : cf_Ad) (nc ng : Nat) (S : cf_S) (P : cf_Pt) (O : Nat → Int64) (x : Int32) : Met l yX6_tableFor wsX6_tableFor ({ frames := 0, cells := 0, slots := 0, locals := 0 }) (va_Pc [.ref (ad 6 0), .int x] (cf_P D cT z (cf_E cT nc ng S P O ad) ad)) (cf_Qi D z (fun (r : Int32) (_ : Unit) => ∃ b : Option Nat, b = cf_best (cf_okTM S x) (cf_ltTM S) 6 ∧ r = cf_oi b) (fun _ => (cf_E cT nc ng S P O ad)) (fun _ => ad)) 0 0 (fun q => z ≤ q) := by
  refine Met.ofW (cc := cX6_tableFor) (maxL := 5) (ret := (some .int)) (by decide) rfl ?_
  intro p e s m args below meth c s₁ B hml hv
  obtain ⟨rfl, hW, hT⟩ := hv
  have hx := B.exec
  have hb := B.bytes
  have hr := B.returns
  have hts := atoms_spec (ws := wsX6_tableFor) B.pre
  have hown : s.vm.findClass RX6 = some m.cls := findClass_of_methodNamed B.named
  have hlocks := B.notSynchronized
  have hS : va_S (fun q => z ≤ q) s.heap s.heap [] := va_S.rf
  have hl := lv_entry ([.ref (ad 6 0), .int x]) (n := 5) (Nat.le_of_ble_eq_true rfl)
  rw [lg_entry_eq]
  generalize (lg_sl ([.ref (ad 6 0), .int x]) ++ List.replicate (5 - (lg_sl ([.ref (ad 6 0), .int x])).length) Slot.unset).toArray = ls at hl ⊢
  have hl : lv_has ls 5 [(0, .ref (ad 6 0)), (1, .int x)] := hl
  skip
  refine lv_iconst (v := (-1)) hx hb dX6_tableFor_0 (by decide) ?_
  refine lv_istore_n (lv' := [(2, .int (-1)), (0, .ref (ad 6 0)), (1, .int x)]) hx hb dX6_tableFor_1 rfl hl (by decide) rfl (fun ls hl => ?_)
  refine lv_iconst (v := 0) hx hb dX6_tableFor_2 (by decide) ?_
  refine lv_istore_n (lv' := [(3, .int 0), (2, .int (-1)), (0, .ref (ad 6 0)), (1, .int x)]) hx hb dX6_tableFor_3 rfl hl (by decide) rfl (fun ls hl => ?_)
  refine cf_loopW (β := Option Nat) (fun i H locs ls b => cf_W D z (cf_E cT nc ng S P O ad) ad H ∧ va_S (fun q => z ≤ q) s.heap H locs ∧ lv_has ls 5 [(0, .ref (ad 6 0)), (1, .int x), (2, .int (cf_oi b)), (3, .int (nI i))] ∧ b = cf_best (cf_okTM S x) (cf_ltTM S) i) 6 (fun H locs ls b hI => ?_) (fun i H locs ls b hi hI ih => ?_) none ⟨hW, hS, lv_sub hl [2, 3, 1, 0] rfl, rfl⟩
  · obtain ⟨hW, hS, hl, hI⟩ := hI
    refine lv_iload_n hx hb dX6_tableFor_4 rfl (lv_at hl 3 rfl) ?_
    refine lv_bipush (v := 6) hx hb dX6_tableFor_5 (by decide) ?_
    refine lv_icmp_ge (tgt := 73) hx hb dX6_tableFor_7 (by decide) (fun c7_1 => ?_) (fun c7_1 => (by first | exact absurd (nI_le (Nat.le_refl 6) (by decide)) c7_1 | exact absurd c7_1 (nI_le (Nat.le_refl 6) (by decide))))
    refine lv_iload_n hx hb dX6_tableFor_73 rfl (lv_at hl 2 rfl) ?_
    exact W.iret (v := (cf_oi b)) hx hb hr (fun t9 ht9 hw9 => ⟨⟨(cf_oi b), (), rfl, ⟨b, hI, rfl⟩, cf_W.re ht9 hW⟩, hS.F ht9⟩) hS.2.2 dX6_tableFor_74
  · obtain ⟨hW, hS, hl, hI⟩ := hI
    refine lv_iload_n hx hb dX6_tableFor_4 rfl (lv_at hl 3 rfl) ?_
    refine lv_bipush (v := 6) hx hb dX6_tableFor_5 (by decide) ?_
    refine lv_icmp_ge (tgt := 73) hx hb dX6_tableFor_7 (by decide) (fun c7_2 => (by first | exact absurd c7_2 (nI_ge hi (by decide)) | exact absurd (nI_ge hi (by decide)) c7_2)) (fun c7_2 => ?_)
    refine lv_aload_n hx hb dX6_tableFor_10 rfl (lv_at hl 0 rfl) ?_
    refine cf_get (v := .ref (ad 17 8)) (ci := 6) (C := RX6) (T := TX6) (N := 24) hx hb hts (fun _ h => List.mem_cons_of_mem _ (List.mem_append_right _ (h))) hown hT.1 hW cf_e6 rfl 8 (by decide) (hts (.fieldLink RX6 31 "GameCafeModel" "taken" "[I") (List.mem_of_getElem? (i := 1) rfl)) (fun _ h9 => h9) rfl dX6_tableFor_11 ?_
    refine lv_iload_n hx hb dX6_tableFor_14 rfl (lv_at hl 3 rfl) ?_
    refine cf_ildN (t0 := 0) (n := 6) (f := S 17 8) (v := (S 17 8 i)) hx hb hT.1 hW (cf_e17 (i := 8) (by decide)) rfl i rfl hi (by decide) dX6_tableFor_15 rfl ?_
    refine lv_if_ne (tgt := 33) hx hb dX6_tableFor_16 (by decide) (fun c16_3 => ?_) (fun c16_3 => ?_)
    · refine lv_iconst (v := 0) hx hb dX6_tableFor_33 (by decide) ?_
      refine lv_istore (lv' := [(4, .int 0), (0, .ref (ad 6 0)), (1, .int x), (2, .int (cf_oi b)), (3, .int (nI i))]) hx hb dX6_tableFor_34 hl (by decide) rfl (fun ls hl => ?_)
      refine lv_iload hx hb dX6_tableFor_36 (lv_at hl 0 rfl) ?_
      refine lv_if_eq (tgt := 65) hx hb dX6_tableFor_38 (by decide) (fun c38_4 => ?_) (fun c38_4 => (by first | exact absurd rfl c38_4 | exact absurd c38_4 rfl))
      refine lv_iload_n hx hb dX6_tableFor_65 rfl (lv_at hl 3 rfl) ?_
      refine lv_istore_n (lv' := [(2, .int (cf_oi b)), (4, .int 0), (0, .ref (ad 6 0)), (1, .int x), (3, .int (nI i))]) hx hb dX6_tableFor_66 rfl hl (by decide) rfl (fun ls hl => ?_)
      refine lv_iinc (v := (nI (i + 1))) (lv' := [(3, .int (nI (i + 1))), (2, .int (cf_oi b)), (4, .int 0), (0, .ref (ad 6 0)), (1, .int x)]) hx hb dX6_tableFor_67 hl (k := 4) rfl (nI_1 i) (by decide) rfl (fun ls hl => ?_)
      refine lv_goto (tgt := 4) hx hb dX6_tableFor_70 (by decide) ?_
      exact ih _ _ _ b ⟨hW, hS, lv_sub hl [3, 4, 1, 0] rfl, (hI.trans (cf_best_no (by simp [cf_okTM, c16_3])).symm)⟩
    · refine lv_aload_n hx hb dX6_tableFor_19 rfl (lv_at hl 0 rfl) ?_
      refine cf_get (v := .ref (ad 17 7)) (ci := 6) (C := RX6) (T := TX6) (N := 24) hx hb hts (fun _ h => List.mem_cons_of_mem _ (List.mem_append_right _ (h))) hown hT.1 hW cf_e6 rfl 7 (by decide) (hts (.fieldLink RX6 28 "GameCafeModel" "seats" "[I") (List.mem_of_getElem? (i := 2) rfl)) (fun _ h9 => h9) rfl dX6_tableFor_20 ?_
      refine lv_iload_n hx hb dX6_tableFor_23 rfl (lv_at hl 3 rfl) ?_
      refine cf_ildN (t0 := 0) (n := 6) (f := S 17 7) (v := (S 17 7 i)) hx hb hT.1 hW (cf_e17 (i := 7) (by decide)) rfl i rfl hi (by decide) dX6_tableFor_24 rfl ?_
      refine lv_iload_n hx hb dX6_tableFor_25 rfl (lv_at hl 1 rfl) ?_
      refine lv_icmp_lt (tgt := 33) hx hb dX6_tableFor_26 (by decide) (fun c26_5 => ?_) (fun c26_5 => ?_)
      · refine lv_iconst (v := 0) hx hb dX6_tableFor_33 (by decide) ?_
        refine lv_istore (lv' := [(4, .int 0), (0, .ref (ad 6 0)), (1, .int x), (2, .int (cf_oi b)), (3, .int (nI i))]) hx hb dX6_tableFor_34 hl (by decide) rfl (fun ls hl => ?_)
        refine lv_iload hx hb dX6_tableFor_36 (lv_at hl 0 rfl) ?_
        refine lv_if_eq (tgt := 65) hx hb dX6_tableFor_38 (by decide) (fun c38_6 => ?_) (fun c38_6 => (by first | exact absurd rfl c38_6 | exact absurd c38_6 rfl))
        refine lv_iload_n hx hb dX6_tableFor_65 rfl (lv_at hl 3 rfl) ?_
        refine lv_istore_n (lv' := [(2, .int (cf_oi b)), (4, .int 0), (0, .ref (ad 6 0)), (1, .int x), (3, .int (nI i))]) hx hb dX6_tableFor_66 rfl hl (by decide) rfl (fun ls hl => ?_)
        refine lv_iinc (v := (nI (i + 1))) (lv' := [(3, .int (nI (i + 1))), (2, .int (cf_oi b)), (4, .int 0), (0, .ref (ad 6 0)), (1, .int x)]) hx hb dX6_tableFor_67 hl (k := 4) rfl (nI_1 i) (by decide) rfl (fun ls hl => ?_)
        refine lv_goto (tgt := 4) hx hb dX6_tableFor_70 (by decide) ?_
        exact ih _ _ _ b ⟨hW, hS, lv_sub hl [3, 4, 1, 0] rfl, (hI.trans (cf_best_no (by simp [cf_okTM, c26_5])).symm)⟩
      · have hok : cf_okTM S x i = true := by simp [cf_okTM, c16_3, c26_5]
        refine lv_iconst (v := 1) hx hb dX6_tableFor_29 (by decide) ?_
        refine lv_goto (tgt := 34) hx hb dX6_tableFor_30 (by decide) ?_
        refine lv_istore (lv' := [(4, .int 1), (0, .ref (ad 6 0)), (1, .int x), (2, .int (cf_oi b)), (3, .int (nI i))]) hx hb dX6_tableFor_34 hl (by decide) rfl (fun ls hl => ?_)
        refine lv_iload hx hb dX6_tableFor_36 (lv_at hl 0 rfl) ?_
        refine lv_if_eq (tgt := 65) hx hb dX6_tableFor_38 (by decide) (fun c38_7 => (by first | exact absurd c38_7 (by decide) | exact absurd (by decide) c38_7)) (fun c38_7 => ?_)
        rcases b with _ | t
        · have hl : lv_has ls 5 [(4, .int 1), (0, .ref (ad 6 0)), (1, .int x), (2, .int (-1)), (3, .int (nI i))] := hl
          refine lv_iload_n hx hb dX6_tableFor_41 rfl (lv_at hl 3 rfl) ?_
          refine lv_iconst (v := (-1)) hx hb dX6_tableFor_42 (by decide) ?_
          refine lv_icmp_eq (tgt := 61) hx hb dX6_tableFor_43 (by decide) (fun c43_8 => ?_) (fun c43_8 => (by first | exact absurd rfl c43_8 | exact absurd c43_8 rfl))
          refine lv_iload_n hx hb dX6_tableFor_61 rfl (lv_at hl 4 rfl) ?_
          refine lv_goto (tgt := 66) hx hb dX6_tableFor_62 (by decide) ?_
          refine lv_istore_n (lv' := [(2, .int (nI i)), (4, .int 1), (0, .ref (ad 6 0)), (1, .int x), (3, .int (nI i))]) hx hb dX6_tableFor_66 rfl hl (by decide) rfl (fun ls hl => ?_)
          refine lv_iinc (v := (nI (i + 1))) (lv' := [(3, .int (nI (i + 1))), (2, .int (nI i)), (4, .int 1), (0, .ref (ad 6 0)), (1, .int x)]) hx hb dX6_tableFor_67 hl (k := 4) rfl (nI_1 i) (by decide) rfl (fun ls hl => ?_)
          refine lv_goto (tgt := 4) hx hb dX6_tableFor_70 (by decide) ?_
          exact ih _ _ _ (some i) ⟨hW, hS, lv_sub hl [3, 4, 1, 0] rfl, ((cf_best_first hok hI.symm).symm)⟩
        · have hl : lv_has ls 5 [(4, .int 1), (0, .ref (ad 6 0)), (1, .int x), (2, .int (nI t)), (3, .int (nI i))] := hl
          have ht6 : t < 6 := Nat.lt_trans (cf_best_in hI.symm).1 hi
          refine lv_iload_n hx hb dX6_tableFor_41 rfl (lv_at hl 3 rfl) ?_
          refine lv_iconst (v := (-1)) hx hb dX6_tableFor_42 (by decide) ?_
          refine lv_icmp_eq (tgt := 61) hx hb dX6_tableFor_43 (by decide) (fun c43_9 => (by first | exact absurd c43_9 (cf_nIm1 (by omega)) | exact absurd (cf_nIm1 (by omega)) c43_9)) (fun c43_9 => ?_)
          refine lv_aload_n hx hb dX6_tableFor_46 rfl (lv_at hl 1 rfl) ?_
          refine cf_get (v := .ref (ad 17 7)) (ci := 6) (C := RX6) (T := TX6) (N := 24) hx hb hts (fun _ h => List.mem_cons_of_mem _ (List.mem_append_right _ (h))) hown hT.1 hW cf_e6 rfl 7 (by decide) (hts (.fieldLink RX6 28 "GameCafeModel" "seats" "[I") (List.mem_of_getElem? (i := 2) rfl)) (fun _ h9 => h9) rfl dX6_tableFor_47 ?_
          refine lv_iload_n hx hb dX6_tableFor_50 rfl (lv_at hl 4 rfl) ?_
          refine cf_ildN (t0 := 0) (n := 6) (f := S 17 7) (v := (S 17 7 i)) hx hb hT.1 hW (cf_e17 (i := 7) (by decide)) rfl i rfl hi (by decide) dX6_tableFor_51 rfl ?_
          refine lv_aload_n hx hb dX6_tableFor_52 rfl (lv_at hl 1 rfl) ?_
          refine cf_get (v := .ref (ad 17 7)) (ci := 6) (C := RX6) (T := TX6) (N := 24) hx hb hts (fun _ h => List.mem_cons_of_mem _ (List.mem_append_right _ (h))) hown hT.1 hW cf_e6 rfl 7 (by decide) (hts (.fieldLink RX6 28 "GameCafeModel" "seats" "[I") (List.mem_of_getElem? (i := 2) rfl)) (fun _ h9 => h9) rfl dX6_tableFor_53 ?_
          refine lv_iload_n hx hb dX6_tableFor_56 rfl (lv_at hl 3 rfl) ?_
          refine cf_ildN (t0 := 0) (n := 6) (f := S 17 7) (v := (S 17 7 t)) hx hb hT.1 hW (cf_e17 (i := 7) (by decide)) rfl t rfl ht6 (by decide) dX6_tableFor_57 rfl ?_
          refine lv_icmp_ge (tgt := 65) hx hb dX6_tableFor_58 (by decide) (fun c58_10 => ?_) (fun c58_10 => ?_)
          · refine lv_iload_n hx hb dX6_tableFor_65 rfl (lv_at hl 3 rfl) ?_
            refine lv_istore_n (lv' := [(2, .int (nI t)), (4, .int 1), (0, .ref (ad 6 0)), (1, .int x), (3, .int (nI i))]) hx hb dX6_tableFor_66 rfl hl (by decide) rfl (fun ls hl => ?_)
            refine lv_iinc (v := (nI (i + 1))) (lv' := [(3, .int (nI (i + 1))), (2, .int (nI t)), (4, .int 1), (0, .ref (ad 6 0)), (1, .int x)]) hx hb dX6_tableFor_67 hl (k := 4) rfl (nI_1 i) (by decide) rfl (fun ls hl => ?_)
            refine lv_goto (tgt := 4) hx hb dX6_tableFor_70 (by decide) ?_
            exact ih _ _ _ (some t) ⟨hW, hS, lv_sub hl [3, 4, 1, 0] rfl, ((cf_best_old hI.symm (decide_eq_false (Int32.not_lt.mpr c58_10))).symm)⟩
          · refine lv_iload_n hx hb dX6_tableFor_61 rfl (lv_at hl 4 rfl) ?_
            refine lv_goto (tgt := 66) hx hb dX6_tableFor_62 (by decide) ?_
            refine lv_istore_n (lv' := [(2, .int (nI i)), (4, .int 1), (0, .ref (ad 6 0)), (1, .int x), (3, .int (nI i))]) hx hb dX6_tableFor_66 rfl hl (by decide) rfl (fun ls hl => ?_)
            refine lv_iinc (v := (nI (i + 1))) (lv' := [(3, .int (nI (i + 1))), (2, .int (nI i)), (4, .int 1), (0, .ref (ad 6 0)), (1, .int x)]) hx hb dX6_tableFor_67 hl (k := 4) rfl (nI_1 i) (by decide) rfl (fun ls hl => ?_)
            refine lv_goto (tgt := 4) hx hb dX6_tableFor_70 (by decide) ?_
            exact ih _ _ _ (some i) ⟨hW, hS, lv_sub hl [3, 4, 1, 0] rfl, ((cf_best_new hok hI.symm (decide_eq_true (Int32.not_le.mp c58_10))).symm)⟩
set_option maxHeartbeats 4000000 in
set_option maxRecDepth 100000 in
/-- X6_copyFor -/
theorem c_X6_copyFor (l : Launch) (D : va_G) (cT : Nat → ClassId) (z : Nat) (ad : cf_Ad) (nc ng : Nat) (S : cf_S) (P : cf_Pt) (O : Nat → Int64) (x : Int32) {gm : Nat} (hxg : x = nI gm) (hg : gm < 5) (hn : S 6 0 11 = nI nc) (hnc : nc ≤ 15) (hM : ∀ j, j < nc → S 17 12 j = nI (P 0 j 0) ∧ P 0 j 0 < 5) : Met l yX6_copyFor wsX6_copyFor ({ frames := 1, cells := 0, slots := 0, locals := 23 }) (va_Pc [.ref (ad 6 0), .int x] (cf_P D cT z (cf_E cT nc ng S P O ad) ad)) (cf_Qi D z (fun (r : Int32) (_ : Unit) => ∃ b : Option Nat, cf_fst (cf_okCM S P gm) nc b ∧ r = cf_oi b) (fun _ => (cf_E cT nc ng S P O ad)) (fun _ => ad)) 0 0 (fun q => z ≤ q) := by
  refine Met.ofW (cc := cX6_copyFor) (maxL := 3) (ret := (some .int)) (by decide) rfl ?_
  intro p e s m args below meth c s₁ B hml hv
  obtain ⟨rfl, hW, hT⟩ := hv
  have hx := B.exec
  have hb := B.bytes
  have hr := B.returns
  have hts := atoms_spec (ws := wsX6_copyFor) B.pre
  have hown : s.vm.findClass RX6 = some m.cls := findClass_of_methodNamed B.named
  have hlocks := B.notSynchronized
  have hS : va_S (fun q => z ≤ q) s.heap s.heap [] := va_S.rf
  have hl := lv_entry ([.ref (ad 6 0), .int x]) (n := 3) (Nat.le_of_ble_eq_true rfl)
  rw [lg_entry_eq]
  generalize (lg_sl ([.ref (ad 6 0), .int x]) ++ List.replicate (3 - (lg_sl ([.ref (ad 6 0), .int x])).length) Slot.unset).toArray = ls at hl ⊢
  have hl : lv_has ls 3 [(0, .ref (ad 6 0)), (1, .int x)] := hl
  skip
  refine lv_iconst (v := 0) hx hb dX6_copyFor_0 (by decide) ?_
  refine lv_istore_n (lv' := [(2, .int 0), (0, .ref (ad 6 0)), (1, .int x)]) hx hb dX6_copyFor_1 rfl hl (by decide) rfl (fun ls hl => ?_)
  refine cf_loopW (β := Unit) (fun i H locs ls b => cf_W D z (cf_E cT nc ng S P O ad) ad H ∧ va_S (fun q => z ≤ q) s.heap H locs ∧ lv_has ls 3 [(0, .ref (ad 6 0)), (1, .int x), (2, .int (nI i))] ∧ ∀ u, u < i → ¬ cf_okCM S P gm u) nc (fun H locs ls b hI => ?_) (fun i H locs ls b hi hI ih => ?_) () ⟨hW, hS, lv_sub hl [1, 2, 0] rfl, fun u hu => absurd hu (Nat.not_lt_zero u)⟩
  · obtain ⟨hW, hS, hl, hI⟩ := hI
    refine lv_iload_n hx hb dX6_copyFor_2 rfl (lv_at hl 2 rfl) ?_
    refine lv_aload_n hx hb dX6_copyFor_3 rfl (lv_at hl 0 rfl) ?_
    refine cf_get (v := .int (nI nc)) (ci := 6) (C := RX6) (T := TX6) (N := 24) hx hb hts (fun _ h => List.mem_cons_of_mem _ (List.mem_append_right _ (h))) hown hT.1 hW cf_e6 rfl 11 (by decide) (hts (.fieldLink RX6 78 "GameCafeModel" "copies" "I") (List.mem_of_getElem? (i := 1) rfl)) (fun _ h9 => h9) (by rw [hn]; rfl) dX6_copyFor_4 ?_
    refine lv_icmp_ge (tgt := 43) hx hb dX6_copyFor_7 (by decide) (fun c7_1 => ?_) (fun c7_1 => (by first | exact absurd (nI_le (Nat.le_refl nc) (by omega)) c7_1 | exact absurd c7_1 (nI_le (Nat.le_refl nc) (by omega))))
    refine lv_iload_n hx hb dX6_copyFor_43 rfl (lv_at hl 2 rfl) ?_
    refine lv_aload_n hx hb dX6_copyFor_44 rfl (lv_at hl 0 rfl) ?_
    refine cf_get (v := .int (nI nc)) (ci := 6) (C := RX6) (T := TX6) (N := 24) hx hb hts (fun _ h => List.mem_cons_of_mem _ (List.mem_append_right _ (h))) hown hT.1 hW cf_e6 rfl 11 (by decide) (hts (.fieldLink RX6 78 "GameCafeModel" "copies" "I") (List.mem_of_getElem? (i := 1) rfl)) (fun _ h9 => h9) (by rw [hn]; rfl) dX6_copyFor_45 ?_
    refine lv_icmp_ge (tgt := 55) hx hb dX6_copyFor_48 (by decide) (fun c48_2 => ?_) (fun c48_2 => (by first | exact absurd (nI_le (Nat.le_refl nc) (by omega)) c48_2 | exact absurd c48_2 (nI_le (Nat.le_refl nc) (by omega))))
    refine lv_iconst (v := (-1)) hx hb dX6_copyFor_55 (by decide) ?_
    exact W.iret (v := (-1)) hx hb hr (fun t9 ht9 hw9 => ⟨⟨(-1), (), rfl, ⟨none, Or.inl ⟨rfl, hI⟩, rfl⟩, cf_W.re ht9 hW⟩, hS.F ht9⟩) hS.2.2 dX6_copyFor_56
  · obtain ⟨hW, hS, hl, hI⟩ := hI
    refine lv_iload_n hx hb dX6_copyFor_2 rfl (lv_at hl 2 rfl) ?_
    refine lv_aload_n hx hb dX6_copyFor_3 rfl (lv_at hl 0 rfl) ?_
    refine cf_get (v := .int (nI nc)) (ci := 6) (C := RX6) (T := TX6) (N := 24) hx hb hts (fun _ h => List.mem_cons_of_mem _ (List.mem_append_right _ (h))) hown hT.1 hW cf_e6 rfl 11 (by decide) (hts (.fieldLink RX6 78 "GameCafeModel" "copies" "I") (List.mem_of_getElem? (i := 1) rfl)) (fun _ h9 => h9) (by rw [hn]; rfl) dX6_copyFor_4 ?_
    refine lv_icmp_ge (tgt := 43) hx hb dX6_copyFor_7 (by decide) (fun c7_3 => (by first | exact absurd c7_3 (nI_ge hi (by omega)) | exact absurd (nI_ge hi (by omega)) c7_3)) (fun c7_3 => ?_)
    refine lv_aload_n hx hb dX6_copyFor_10 rfl (lv_at hl 0 rfl) ?_
    refine cf_get (v := .ref (ad 17 12)) (ci := 6) (C := RX6) (T := TX6) (N := 24) hx hb hts (fun _ h => List.mem_cons_of_mem _ (List.mem_append_right _ (h))) hown hT.1 hW cf_e6 rfl 12 (by decide) (hts (.fieldLink RX6 40 "GameCafeModel" "games" "[I") (List.mem_of_getElem? (i := 2) rfl)) (fun _ h9 => h9) rfl dX6_copyFor_11 ?_
    refine lv_iload_n hx hb dX6_copyFor_14 rfl (lv_at hl 2 rfl) ?_
    refine cf_ildN (t0 := 0) (n := 15) (f := S 17 12) (v := (nI (P 0 i 0))) hx hb hT.1 hW (cf_e17 (i := 12) (by decide)) rfl i rfl (by omega) (by decide) dX6_copyFor_15 (hM i hi).1 ?_
    refine lv_iload_n hx hb dX6_copyFor_16 rfl (lv_at hl 1 rfl) ?_
    refine lv_icmp_ne (tgt := 37) hx hb dX6_copyFor_17 (by decide) (fun c17_4 => ?_) (fun c17_4 => ?_)
    · refine lv_iinc (v := (nI (i + 1))) (lv' := [(2, .int (nI (i + 1))), (0, .ref (ad 6 0)), (1, .int x)]) hx hb dX6_copyFor_37 hl (k := 2) rfl (nI_1 i) (by decide) rfl (fun ls hl => ?_)
      refine lv_goto (tgt := 2) hx hb dX6_copyFor_40 (by decide) ?_
      exact ih _ _ _ () ⟨hW, hS, lv_sub hl [1, 2, 0] rfl, (cf_snoc hI (fun q => c17_4 (by rw [q.1, hxg])))⟩
    · have hgi : P 0 i 0 = gm := cf_nI_inj (by have := (hM i hi).2; omega) (by omega) (c17_4.trans hxg)
      refine lv_aload_n hx hb dX6_copyFor_20 rfl (lv_at hl 0 rfl) ?_
      refine cf_get (v := .ref (ad 17 13)) (ci := 6) (C := RX6) (T := TX6) (N := 24) hx hb hts (fun _ h => List.mem_cons_of_mem _ (List.mem_append_right _ (h))) hown hT.1 hW cf_e6 rfl 13 (by decide) (hts (.fieldLink RX6 43 "GameCafeModel" "places" "[I") (List.mem_of_getElem? (i := 3) rfl)) (fun _ h9 => h9) rfl dX6_copyFor_21 ?_
      refine lv_iload_n hx hb dX6_copyFor_24 rfl (lv_at hl 2 rfl) ?_
      refine cf_ildN (t0 := 0) (n := 15) (f := S 17 13) (v := (S 17 13 i)) hx hb hT.1 hW (cf_e17 (i := 13) (by decide)) rfl i rfl (by omega) (by decide) dX6_copyFor_25 rfl ?_
      refine lv_if_ne (tgt := 37) hx hb dX6_copyFor_26 (by decide) (fun c26_5 => ?_) (fun c26_5 => ?_)
      · refine lv_iinc (v := (nI (i + 1))) (lv' := [(2, .int (nI (i + 1))), (0, .ref (ad 6 0)), (1, .int x)]) hx hb dX6_copyFor_37 hl (k := 2) rfl (nI_1 i) (by decide) rfl (fun ls hl => ?_)
        refine lv_goto (tgt := 2) hx hb dX6_copyFor_40 (by decide) ?_
        exact ih _ _ _ () ⟨hW, hS, lv_sub hl [1, 2, 0] rfl, (cf_snoc hI (fun q => c26_5 q.2.1))⟩
      · have h0 := c26_5
        refine lv_aload_n hx hb dX6_copyFor_29 rfl (lv_at hl 0 rfl) ?_
        refine lv_iload_n hx hb dX6_copyFor_30 rfl (lv_at hl 2 rfl) ?_
        refine va_calli (va_runV (As := [.int (nI i)]) (rest := []) ⟨hx, hb, hml, hown, hts⟩ (c_X6_playable l D cT z ad nc ng S P O (nI i) rfl hi hnc hM) (cwV 1 hts gX6_copyFor_X6_playable rfl rfl rfl (by decide +kernel) ⟨Nat.le_of_ble_eq_true rfl, Nat.le_of_ble_eq_true rfl⟩) (cf_preV (T := TX6) (N := 24) hT hS hW cf_e6 rfl) rfl rfl hl.1 rfl (lv_room (Nat.le_of_ble_eq_true rfl)) dX6_copyFor_31 ⟨Nat.le_of_ble_eq_true rfl, Nat.le_of_ble_eq_true rfl⟩) hS (fun _ _ h => h) (fun _ h => h) (fun r6 ur6 t9 H locs ht hvm hw hW hz1 hk1 hS => ?_)
        have hW := cf_W.er ht hW
        have hpl := hw
        refine lv_if_ne (tgt := 43) hx hb dX6_copyFor_34 (by decide) (fun c34_7 => ?_) (fun c34_7 => ?_)
        · have hpl := hpl.t c34_7
          refine lv_iload_n hx hb dX6_copyFor_43 rfl (lv_at hl 2 rfl) ?_
          refine lv_aload_n hx hb dX6_copyFor_44 rfl (lv_at hl 0 rfl) ?_
          refine cf_get (v := .int (nI nc)) (ci := 6) (C := RX6) (T := TX6) (N := 24) hx hb hts (fun _ h => List.mem_cons_of_mem _ (List.mem_append_right _ (h))) hown hT.1 hW cf_e6 rfl 11 (by decide) (hts (.fieldLink RX6 78 "GameCafeModel" "copies" "I") (List.mem_of_getElem? (i := 1) rfl)) (fun _ h9 => h9) (by rw [hn]; rfl) dX6_copyFor_45 ?_
          refine lv_icmp_ge (tgt := 55) hx hb dX6_copyFor_48 (by decide) (fun c48_8 => (by first | exact absurd c48_8 (nI_ge hi (by omega)) | exact absurd (nI_ge hi (by omega)) c48_8)) (fun c48_8 => ?_)
          refine lv_iload_n hx hb dX6_copyFor_51 rfl (lv_at hl 2 rfl) ?_
          refine lv_goto (tgt := 56) hx hb dX6_copyFor_52 (by decide) ?_
          exact W.iret (v := (nI i)) hx hb hr (fun t9 ht9 hw9 => ⟨⟨(nI i), (), rfl, ⟨some i, Or.inr ⟨i, rfl, hi, ⟨hgi, h0, hpl⟩, hI⟩, rfl⟩, cf_W.re ht9 hW⟩, hS.F ht9⟩) hS.2.2 dX6_copyFor_56
        · have hpl := hpl.f c34_7
          refine lv_iinc (v := (nI (i + 1))) (lv' := [(2, .int (nI (i + 1))), (0, .ref (ad 6 0)), (1, .int x)]) hx hb dX6_copyFor_37 hl (k := 2) rfl (nI_1 i) (by decide) rfl (fun ls hl => ?_)
          refine lv_goto (tgt := 2) hx hb dX6_copyFor_40 (by decide) ?_
          exact ih _ _ _ () ⟨hW, hS, lv_sub hl [1, 2, 0] rfl, (cf_snoc hI (fun q => hpl q.2.2))⟩
set_option maxHeartbeats 4000000 in
set_option maxRecDepth 100000 in
/-- X6_teacherFor -/
theorem c_X6_teacherFor (l : Launch) (D : va_G) (cT : Nat → ClassId) (z : Nat) (ad : cf_Ad) (nc ng : Nat) (S : cf_S) (P : cf_Pt) (O : Nat → Int64) (x : Int32) {gm : Nat} (hxg : x = nI gm) (hg : gm < 5) : Met l yX6_teacherFor wsX6_teacherFor ({ frames := 0, cells := 0, slots := 0, locals := 0 }) (va_Pc [.ref (ad 6 0), .int x] (cf_P D cT z (cf_E cT nc ng S P O ad) ad)) (cf_Qi D z (fun (r : Int32) (_ : Unit) => ∃ b : Option Nat, cf_fst (cf_okSM S gm) 3 b ∧ r = cf_oi b) (fun _ => (cf_E cT nc ng S P O ad)) (fun _ => ad)) 0 0 (fun q => z ≤ q) := by
  refine Met.ofW (cc := cX6_teacherFor) (maxL := 3) (ret := (some .int)) (by decide) rfl ?_
  intro p e s m args below meth c s₁ B hml hv
  obtain ⟨rfl, hW, hT⟩ := hv
  have hx := B.exec
  have hb := B.bytes
  have hr := B.returns
  have hts := atoms_spec (ws := wsX6_teacherFor) B.pre
  have hown : s.vm.findClass RX6 = some m.cls := findClass_of_methodNamed B.named
  have hlocks := B.notSynchronized
  have hS : va_S (fun q => z ≤ q) s.heap s.heap [] := va_S.rf
  have hl := lv_entry ([.ref (ad 6 0), .int x]) (n := 3) (Nat.le_of_ble_eq_true rfl)
  rw [lg_entry_eq]
  generalize (lg_sl ([.ref (ad 6 0), .int x]) ++ List.replicate (3 - (lg_sl ([.ref (ad 6 0), .int x])).length) Slot.unset).toArray = ls at hl ⊢
  have hl : lv_has ls 3 [(0, .ref (ad 6 0)), (1, .int x)] := hl
  skip
  refine lv_iconst (v := 0) hx hb dX6_teacherFor_0 (by decide) ?_
  refine lv_istore_n (lv' := [(2, .int 0), (0, .ref (ad 6 0)), (1, .int x)]) hx hb dX6_teacherFor_1 rfl hl (by decide) rfl (fun ls hl => ?_)
  refine cf_loopW (β := Unit) (fun i H locs ls b => cf_W D z (cf_E cT nc ng S P O ad) ad H ∧ va_S (fun q => z ≤ q) s.heap H locs ∧ lv_has ls 3 [(0, .ref (ad 6 0)), (1, .int x), (2, .int (nI i))] ∧ ∀ u, u < i → ¬ cf_okSM S gm u) 3 (fun H locs ls b hI => ?_) (fun i H locs ls b hi hI ih => ?_) () ⟨hW, hS, lv_sub hl [1, 2, 0] rfl, fun u hu => absurd hu (Nat.not_lt_zero u)⟩
  · obtain ⟨hW, hS, hl, hI⟩ := hI
    refine lv_iload_n hx hb dX6_teacherFor_2 rfl (lv_at hl 2 rfl) ?_
    refine lv_iconst (v := 3) hx hb dX6_teacherFor_3 (by decide) ?_
    refine lv_icmp_ge (tgt := 40) hx hb dX6_teacherFor_4 (by decide) (fun c4_1 => ?_) (fun c4_1 => (by first | exact absurd (by decide) c4_1 | exact absurd c4_1 (by decide)))
    refine lv_iload_n hx hb dX6_teacherFor_40 rfl (lv_at hl 2 rfl) ?_
    refine lv_iconst (v := 3) hx hb dX6_teacherFor_41 (by decide) ?_
    refine lv_icmp_ge (tgt := 49) hx hb dX6_teacherFor_42 (by decide) (fun c42_2 => ?_) (fun c42_2 => (by first | exact absurd (by decide) c42_2 | exact absurd c42_2 (by decide)))
    refine lv_iconst (v := (-1)) hx hb dX6_teacherFor_49 (by decide) ?_
    exact W.iret (v := (-1)) hx hb hr (fun t9 ht9 hw9 => ⟨⟨(-1), (), rfl, ⟨none, Or.inl ⟨rfl, hI⟩, rfl⟩, cf_W.re ht9 hW⟩, hS.F ht9⟩) hS.2.2 dX6_teacherFor_50
  · obtain ⟨hW, hS, hl, hI⟩ := hI
    refine lv_iload_n hx hb dX6_teacherFor_2 rfl (lv_at hl 2 rfl) ?_
    refine lv_iconst (v := 3) hx hb dX6_teacherFor_3 (by decide) ?_
    refine lv_icmp_ge (tgt := 40) hx hb dX6_teacherFor_4 (by decide) (fun c4_3 => (by first | exact absurd c4_3 (nI_ge hi (by decide)) | exact absurd (nI_ge hi (by decide)) c4_3)) (fun c4_3 => ?_)
    refine lv_aload_n hx hb dX6_teacherFor_7 rfl (lv_at hl 0 rfl) ?_
    refine cf_get (v := .ref (ad 17 9)) (ci := 6) (C := RX6) (T := TX6) (N := 24) hx hb hts (fun _ h => List.mem_cons_of_mem _ (List.mem_append_right _ (h))) hown hT.1 hW cf_e6 rfl 9 (by decide) (hts (.fieldLink RX6 34 "GameCafeModel" "ignorant" "[I") (List.mem_of_getElem? (i := 1) rfl)) (fun _ h9 => h9) rfl dX6_teacherFor_8 ?_
    refine lv_iconst (v := 5) hx hb dX6_teacherFor_11 (by decide) ?_
    refine lv_iload_n hx hb dX6_teacherFor_12 rfl (lv_at hl 2 rfl) ?_
    refine lv_imul hx hb dX6_teacherFor_13 ?_
    refine lv_iload_n hx hb dX6_teacherFor_14 rfl (lv_at hl 1 rfl) ?_
    refine lv_iadd hx hb dX6_teacherFor_15 ?_
    refine cf_ildN (t0 := 0) (n := 15) (f := S 17 9) (v := (S 17 9 (5 * i + gm))) hx hb hT.1 hW (cf_e17 (i := 9) (by decide)) rfl (5 * i + gm) (cf_ix5 rfl hxg) (by omega) (by decide) dX6_teacherFor_16 rfl ?_
    refine lv_iconst (v := 1) hx hb dX6_teacherFor_17 (by decide) ?_
    refine lv_icmp_eq (tgt := 34) hx hb dX6_teacherFor_18 (by decide) (fun c18_4 => ?_) (fun c18_4 => ?_)
    · refine lv_iinc (v := (nI (i + 1))) (lv' := [(2, .int (nI (i + 1))), (0, .ref (ad 6 0)), (1, .int x)]) hx hb dX6_teacherFor_34 hl (k := 2) rfl (nI_1 i) (by decide) rfl (fun ls hl => ?_)
      refine lv_goto (tgt := 2) hx hb dX6_teacherFor_37 (by decide) ?_
      exact ih _ _ _ () ⟨hW, hS, lv_sub hl [1, 2, 0] rfl, (cf_snoc hI (fun q => q.1 c18_4))⟩
    · have h1 := c18_4
      refine lv_aload_n hx hb dX6_teacherFor_21 rfl (lv_at hl 0 rfl) ?_
      refine cf_get (v := .ref (ad 17 10)) (ci := 6) (C := RX6) (T := TX6) (N := 24) hx hb hts (fun _ h => List.mem_cons_of_mem _ (List.mem_append_right _ (h))) hown hT.1 hW cf_e6 rfl 10 (by decide) (hts (.fieldLink RX6 37 "GameCafeModel" "until" "[I") (List.mem_of_getElem? (i := 2) rfl)) (fun _ h9 => h9) rfl dX6_teacherFor_22 ?_
      refine lv_iload_n hx hb dX6_teacherFor_25 rfl (lv_at hl 2 rfl) ?_
      refine cf_ildN (t0 := 0) (n := 3) (f := S 17 10) (v := (S 17 10 i)) hx hb hT.1 hW (cf_e17 (i := 10) (by decide)) rfl i rfl hi (by decide) dX6_teacherFor_26 rfl ?_
      refine lv_aload_n hx hb dX6_teacherFor_27 rfl (lv_at hl 0 rfl) ?_
      refine cf_get (v := .int (S 6 0 0)) (ci := 6) (C := RX6) (T := TX6) (N := 24) hx hb hts (fun _ h => List.mem_cons_of_mem _ (List.mem_append_right _ (h))) hown hT.1 hW cf_e6 rfl 0 (by decide) (hts (.fieldLink RX6 98 "GameCafeModel" "minute" "I") (List.mem_of_getElem? (i := 3) rfl)) (fun _ h9 => h9) rfl dX6_teacherFor_28 ?_
      refine lv_icmp_le (tgt := 40) hx hb dX6_teacherFor_31 (by decide) (fun c31_5 => ?_) (fun c31_5 => ?_)
      · have h2 := c31_5
        refine lv_iload_n hx hb dX6_teacherFor_40 rfl (lv_at hl 2 rfl) ?_
        refine lv_iconst (v := 3) hx hb dX6_teacherFor_41 (by decide) ?_
        refine lv_icmp_ge (tgt := 49) hx hb dX6_teacherFor_42 (by decide) (fun c42_6 => (by first | exact absurd c42_6 (nI_ge hi (by decide)) | exact absurd (nI_ge hi (by decide)) c42_6)) (fun c42_6 => ?_)
        refine lv_iload_n hx hb dX6_teacherFor_45 rfl (lv_at hl 2 rfl) ?_
        refine lv_goto (tgt := 50) hx hb dX6_teacherFor_46 (by decide) ?_
        exact W.iret (v := (nI i)) hx hb hr (fun t9 ht9 hw9 => ⟨⟨(nI i), (), rfl, ⟨some i, Or.inr ⟨i, rfl, hi, ⟨h1, h2⟩, hI⟩, rfl⟩, cf_W.re ht9 hW⟩, hS.F ht9⟩) hS.2.2 dX6_teacherFor_50
      · refine lv_iinc (v := (nI (i + 1))) (lv' := [(2, .int (nI (i + 1))), (0, .ref (ad 6 0)), (1, .int x)]) hx hb dX6_teacherFor_34 hl (k := 2) rfl (nI_1 i) (by decide) rfl (fun ls hl => ?_)
        refine lv_goto (tgt := 2) hx hb dX6_teacherFor_37 (by decide) ?_
        exact ih _ _ _ () ⟨hW, hS, lv_sub hl [1, 2, 0] rfl, (cf_snoc hI (fun q => c31_5 q.2))⟩
