theorem cf_c_new {cT : Nat → ClassId} {nc ng : Nat} {O : Nat → Int64} {ad : cf_Ad} {q q2 a b : Nat} {r : Nat → Int32} {p : Nat → Nat} (hb0 : a = 0 → b ≠ nc) (hb7 : a = 7 → b ≠ nc) (h2 : a = 2 → b < ng → p 0 ≠ nc) (h14 : a = 14 → b < 1 → ∀ j, p j ≠ nc + 1) (h16 : a = 16 → b < 1 → ∀ j, p j ≠ nc + 1) :
    cf_c cT nc ng O ad a b r p = cf_c cT (nc + 1) ng O (cf_g2 (cf_g2 ad 0 nc q) 7 nc q2) a b r p := by
  have hr : ∀ f : Nat → Nat, (∀ j, f j ≠ nc + 1) → cf_rw (cf_g2 (cf_g2 ad 0 nc q) 7 nc q2 0) f = cf_rw (ad 0) f := by
    intro f hf
    funext j
    by_cases h0 : f j = 0
    · simp [cf_rw, h0]
    · have : f j - 1 ≠ nc := by have := hf j; omega
      simp [cf_rw, h0, cf_g2, this]
  unfold cf_c
  split
  · have hb := hb0 rfl
    by_cases h : b < nc
    · have h1 : b < nc + 1 := by omega
      simp [h, h1, cf_g2, hb]
    · have h1 : ¬ b < nc + 1 := by omega
      simp [h, h1]
  · simp [cf_g2]
  · by_cases h : b < ng
    · have := h2 rfl h
      simp [h, cf_g2, this]
    · simp [h]
  · rfl
  · simp [cf_g2]
  · simp [cf_g2]
  · simp [cf_g2]
  · have hb := hb7 rfl
    by_cases h : b < nc
    · have h1 : b < nc + 1 := by omega
      simp [h, h1]
    · have h1 : ¬ b < nc + 1 := by omega
      simp [h, h1]
  · rfl
  · rfl
  · rfl
  · simp [cf_g2]
  · simp [cf_g2]
  · simp [cf_g2]
  · by_cases hb : b < 1
    · rw [if_pos hb, if_pos hb, hr p (h14 rfl hb)]
    · rw [if_neg hb, if_neg hb]
  · rfl
  · by_cases hb : b < 1
    · rw [if_pos hb, if_pos hb, hr p (h16 rfl hb)]
    · rw [if_neg hb, if_neg hb]
  · rfl
  · rfl
  · rfl
theorem cf_c_newG {cT : Nat → ClassId} {nc ng : Nat} {O : Nat → Int64} {ad : cf_Ad} {q a b : Nat} {r : Nat → Int32} {p : Nat → Nat} (hb2 : a = 2 → b ≠ ng) (h15 : a = 15 → b < 1 → ∀ j, p j ≠ ng + 1) :
    cf_c cT nc ng O ad a b r p = cf_c cT nc (ng + 1) O (cf_g2 ad 2 ng q) a b r p := by
  have hr : ∀ f : Nat → Nat, (∀ j, f j ≠ ng + 1) → cf_rw (cf_g2 ad 2 ng q 2) f = cf_rw (ad 2) f := by
    intro f hf
    funext j
    by_cases h0 : f j = 0
    · simp [cf_rw, h0]
    · have : f j - 1 ≠ ng := by have := hf j; omega
      simp [cf_rw, h0, cf_g2, this]
  have hr0 : ∀ f : Nat → Nat, cf_rw (cf_g2 ad 2 ng q 0) f = cf_rw (ad 0) f := fun f => rfl
  unfold cf_c
  split
  · simp [cf_g2]
  · simp [cf_g2]
  · have hb := hb2 rfl
    by_cases h : b < ng
    · have h1 : b < ng + 1 := by omega
      simp [h, h1, cf_g2]
    · have h1 : ¬ b < ng + 1 := by omega
      simp [h, h1]
  · rfl
  · simp [cf_g2]
  · simp [cf_g2]
  · simp [cf_g2]
  · rfl
  · rfl
  · rfl
  · rfl
  · simp [cf_g2]
  · simp [cf_g2]
  · simp [cf_g2]
  · rw [hr0]
  · by_cases hb : b < 1
    · rw [if_pos hb, if_pos hb, hr p (h15 rfl hb)]
    · rw [if_neg hb, if_neg hb]
  · rw [hr0]
  · rfl
  · rfl
  · rfl
def cf_buyS (S : cf_S) (nc gm : Nat) : cf_S := cf_g2 (cf_g2 S 0 nc (fun _ => 0)) 7 nc (S 8 gm)
def cf_buyP (P : cf_Pt) (nc gm : Nat) : cf_Pt := cf_g2 (cf_p3 P 14 0 nc (nc + 1)) 0 nc (fun _ => gm)
theorem cf_buyE {cT : Nat → ClassId} {nc ng gm q q2 : Nat} {S : cf_S} {P : cf_Pt} {O : Nat → Int64} {ad : cf_Ad} {e0 : va_E} (hO : ∀ j, P 14 0 j = if j < nc then j + 1 else 0) (hL : ∀ j, j < ng → P 2 j 0 < nc ∧ P 2 j 1 < 6) (hB : ∀ j, P 16 0 j ≤ nc) :
    cf_g2 (cf_g2 (cf_g2 (cf_g2 (cf_E cT nc ng S P O ad) 0 nc (some e0)) 7 nc (some (.inl (cT 0, 4, .inl (S 8 gm))))) 0 nc (some (.inr (0, [.int (nI nc), .ref (cf_g2 ad 0 nc q 1 gm), .ref (cf_g2 (cf_g2 ad 0 nc q) 7 nc q2 7 nc), .int 0])))) 14 0 (some (.inl (cT 6, 15, .inr (.inr (.inr (.inr (va_up (cf_rw (ad 0) (P 14 0)) nc (some (cf_g2 (cf_g2 ad 0 nc q) 7 nc q2 0 nc)))))))))
    = cf_E cT (nc + 1) ng (cf_buyS S nc gm) (cf_buyP P nc gm) O (cf_g2 (cf_g2 ad 0 nc q) 7 nc q2) := by
  funext a b
  by_cases h14 : a = 14 ∧ b = 0
  · obtain ⟨rfl, rfl⟩ := h14
    rw [cf_g2s, cf_e14]
    congr 8
    funext j
    have e1 : cf_buyP P nc gm 14 0 j = cf_p3 P 14 0 nc (nc + 1) 14 0 j := by rw [cf_buyP, cf_g2n (fun q => absurd q.1 (by decide))]
    by_cases hj : j = nc
    · subst hj
      rw [cf_rw, e1, cf_p3s]
      simp [va_up]
    · have e2 : cf_p3 P 14 0 nc (nc + 1) 14 0 j = P 14 0 j := cf_p3n (fun q => hj q.2.2)
      rw [cf_rw, e1, e2]
      simp only [va_up, hj, if_false, cf_rw]
      have := hO j
      by_cases hl : j < nc
      · rw [if_pos hl] at this
        have hne : j ≠ nc := hj
        simp [this, cf_g2, hne]
      · rw [if_neg hl] at this
        simp [this]
  rw [cf_g2n h14]
  by_cases h0 : a = 0 ∧ b = nc
  · obtain ⟨rfl, rfl⟩ := h0
    rw [cf_g2s, cf_e0 (Nat.lt_succ_self _)]
    simp [cf_buyS, cf_buyP, cf_g2]
  rw [cf_g2n h0]
  by_cases h7 : a = 7 ∧ b = nc
  · obtain ⟨rfl, rfl⟩ := h7
    rw [cf_g2s, cf_e7 (Nat.lt_succ_self _), cf_buyS, cf_g2s]
  rw [cf_g2n h7, cf_g2n h0]
  show cf_c cT nc ng O ad a b (S a b) (P a b) = cf_c cT (nc + 1) ng O _ a b (cf_buyS S nc gm a b) (cf_buyP P nc gm a b)
  rw [cf_buyS, cf_g2n h7, cf_g2n h0, cf_buyP, cf_g2n h0, cf_p3, cf_g2n h14]
  refine cf_c_new (fun h hb => h0 ⟨h, hb⟩) (fun h hb => h7 ⟨h, hb⟩) (fun h hb => ?_) (fun h hb j => absurd ⟨h, by omega⟩ h14) (fun h hb j => ?_)
  · subst h; have := (hL b hb).1; omega
  · subst h
    have hb0 : b = 0 := by omega
    subst hb0
    have := hB j; omega
def cf_seatS (S : cf_S) (ng : Nat) (x y : Int32) : cf_S := cf_g2 S 2 ng (fun j => if j = 0 then y else x)
def cf_seatP (P : cf_Pt) (ng c9 t9 : Nat) : cf_Pt := cf_g2 (cf_p3 P 15 0 ng (ng + 1)) 2 ng (fun j => if j = 0 then c9 else t9)
theorem cf_seatE {cT : Nat → ClassId} {nc ng t9 c9 q : Nat} {x y : Int32} {S : cf_S} {P : cf_Pt} {O : Nat → Int64} {ad : cf_Ad} (hQ : ∀ j, P 15 0 j ≤ ng) :
    cf_g2 (cf_g2 (cf_E cT nc ng S P O ad) 2 ng (some (.inr (2, [.ref (cf_g2 ad 2 ng q 0 c9), .int y, .int x, .ref (cf_g2 ad 2 ng q 3 t9)])))) 15 0 (some (.inl (cT 7, 60, .inr (.inr (.inr (.inr (va_up (cf_rw (ad 2) (P 15 0)) ng (some (cf_g2 ad 2 ng q 2 ng)))))))))
    = cf_E cT nc (ng + 1) (cf_seatS S ng x y) (cf_seatP P ng c9 t9) O (cf_g2 ad 2 ng q) := by
  funext a b
  by_cases h15 : a = 15 ∧ b = 0
  · obtain ⟨rfl, rfl⟩ := h15
    rw [cf_g2s, cf_e15]
    congr 8
    funext j
    have e1 : cf_seatP P ng c9 t9 15 0 j = cf_p3 P 15 0 ng (ng + 1) 15 0 j := by rw [cf_seatP, cf_g2n (fun q => absurd q.1 (by decide))]
    by_cases hj : j = ng
    · subst hj
      rw [cf_rw, e1, cf_p3s]
      simp [va_up]
    · have e2 : cf_p3 P 15 0 ng (ng + 1) 15 0 j = P 15 0 j := cf_p3n (fun q => hj q.2.2)
      rw [cf_rw, e1, e2]
      simp only [va_up, hj, if_false, cf_rw]
      have := hQ j
      by_cases h0 : P 15 0 j = 0
      · simp [h0]
      · have hne : P 15 0 j - 1 ≠ ng := by omega
        simp [h0, cf_g2, hne]
  rw [cf_g2n h15]
  by_cases h2 : a = 2 ∧ b = ng
  · obtain ⟨rfl, rfl⟩ := h2
    rw [cf_g2s, cf_e2 (Nat.lt_succ_self _)]
    simp [cf_seatS, cf_seatP, cf_g2]
  rw [cf_g2n h2]
  show cf_c cT nc ng O ad a b (S a b) (P a b) = cf_c cT nc (ng + 1) O _ a b (cf_seatS S ng x y a b) (cf_seatP P ng c9 t9 a b)
  rw [cf_seatS, cf_g2n h2, cf_seatP, cf_g2n h2, cf_p3, cf_g2n h15]
  exact cf_c_newG (fun h hb => h2 ⟨h, hb⟩) (fun h hb j => absurd ⟨h, by omega⟩ h15)
set_option maxHeartbeats 4000000 in
set_option maxRecDepth 100000 in
/-- X5_buy -/
theorem c_X5_buy (l : Launch) (D : va_G) (cT : Nat → ClassId) (z : Nat) (ad : cf_Ad) (nc ng : Nat) (S : cf_S) (P : cf_Pt) (O : Nat → Int64) (hl0 : l.stackTraces = false) (x : Int32) (hbt : S 5 0 0 = nI nc) (hnc : nc ≤ 15) (hO2 : ∀ j, P 14 0 j = if j < nc then j + 1 else 0) (hL : ∀ j, j < ng → P 2 j 0 < nc ∧ P 2 j 1 < 6) (hB2 : ∀ j, P 16 0 j ≤ nc) : vx_Met l yX5_buy wsX5_buy ({ frames := 7, cells := 3, slots := 14, locals := 103 }) (va_Pc [.ref (ad 5 0), .int x] (cf_P D cT z (cf_E cT nc ng S P O ad) ad)) (cf_Qi D z (fun (r : Int32) (T : cf_S × cf_Pt × cf_Ad) => ∃ gm : Nat, gm < 5 ∧ x = nI gm ∧ nc < 15 ∧ r = nI nc ∧ T.1 = cf_s3 (cf_buyS S nc gm) 5 0 0 (nI nc + 1) ∧ T.2.1 = cf_buyP P nc gm ∧ ∀ k i, k ≠ 0 → k ≠ 7 → T.2.2 k i = ad k i) (fun T => cf_E cT (nc + 1) ng T.1 T.2.1 O T.2.2) (fun T => T.2.2)) (cf_X D z (cf_E cT nc ng S P O ad) ad (cf_x13 (cf_ix x 5) (nc < 15))) 3 14 (fun q => z ≤ q) := by
  refine vx_ofW (cc := cX5_buy) (maxL := 3) (ret := (some .int)) (by decide) rfl ?_
  intro p e s m args below meth c s₁ B hml htab hv
  obtain ⟨rfl, hW, hT⟩ := hv
  have hx := B.exec
  have hb := B.bytes
  have hr := B.returns
  have hts := atoms_spec (ws := wsX5_buy) B.pre
  have hown : s.vm.findClass RX5 = some m.cls := findClass_of_methodNamed B.named
  have hlocks := B.notSynchronized
  have hS : va_S (fun q => z ≤ q) s.heap s.heap [] := va_S.rf
  have hl := lv_entry ([.ref (ad 5 0), .int x]) (n := 3) (Nat.le_of_ble_eq_true rfl)
  rw [lg_entry_eq]
  generalize (lg_sl ([.ref (ad 5 0), .int x]) ++ List.replicate (3 - (lg_sl ([.ref (ad 5 0), .int x])).length) Slot.unset).toArray = ls at hl ⊢
  have hl : lv_has ls 3 [(0, .ref (ad 5 0)), (1, .int x)] := hl
  skip
  refine lv_iload_n hx hb dX5_buy_0 rfl (lv_at hl 1 rfl) ?_
  refine lv_iconst (v := 5) hx hb dX5_buy_1 (by decide) ?_
  refine vx_callv (vx_runS (As := [.int x, .int 5]) (rest := []) ⟨hx, hb, hml, hown, hts⟩ (c_X5_checkNumber l D cT z ad _ x 5 5 (by decide) rfl hl0) (va_cwS 2 hts gX5_buy_X5_checkNumber rfl rfl rfl (by decide +kernel) ⟨Nat.le_of_ble_eq_true rfl, Nat.le_of_ble_eq_true rfl⟩) (cf_preS hT hS hW) rfl rfl hl.1 rfl (lv_room (Nat.le_of_ble_eq_true rfl)) dX5_buy_2 ⟨Nat.le_of_ble_eq_true rfl, Nat.le_of_ble_eq_true rfl⟩) hS (fun _ _ h => h) (fun _ h => h) (fun _ _ h => h) (fun E9 ce q9 u9 t9 H locs ht hvm hu hB hz1 hk1 hS hce hcv hcl => ?_) (fun ur1 t9 H locs ht hvm hw hW hz1 hk1 hS => ?_)
  · obtain ⟨hp, hW⟩ := hB
    have hW := cf_W.er ht hW
    exact cf_pass htab hlocks hce hcv hcl hS hW (Or.inl ⟨hp.1, hp.2⟩) ⟨Nat.le_of_ble_eq_true rfl, Nat.le_of_ble_eq_true rfl⟩
  have hW := cf_W.er ht hW
  have hi := hw
  have hA := hi
  obtain ⟨gm, hg, hxg⟩ := hi
  refine lv_aload_n hx hb dX5_buy_5 rfl (lv_at hl 0 rfl) ?_
  refine cf_get (v := .int (nI nc)) (ci := 5) (C := RX5) (T := TX5) (N := 9) hx hb hts (fun _ h => List.mem_cons_of_mem _ (List.mem_append_left _ (List.mem_append_left _ (List.mem_append_left _ (List.mem_append_left _ (List.mem_append_right _ (h))))))) hown hT.1 hW cf_e5 rfl 6 (by decide) (hts (.fieldLink RX5 42 "GameCafe" "bought" "I") (List.mem_of_getElem? (i := 3) rfl)) (fun _ h9 => h9) (by rw [hbt]; rfl) dX5_buy_6 ?_
  refine lv_bipush (v := 15) hx hb dX5_buy_9 (by decide) ?_
  refine lv_icmp_lt (tgt := 24) hx hb dX5_buy_11 (by decide) (fun c11_2 => ?_) (fun c11_2 => ?_)
  · have hn15 : nc < 15 := cf_lt_of (by omega) (by decide) c11_2
    refine lv_aload_n hx hb dX5_buy_24 rfl (lv_at hl 0 rfl) ?_
    refine cf_get (v := .int (nI nc)) (ci := 5) (C := RX5) (T := TX5) (N := 9) hx hb hts (fun _ h => List.mem_cons_of_mem _ (List.mem_append_left _ (List.mem_append_left _ (List.mem_append_left _ (List.mem_append_left _ (List.mem_append_right _ (h))))))) hown hT.1 hW cf_e5 rfl 6 (by decide) (hts (.fieldLink RX5 42 "GameCafe" "bought" "I") (List.mem_of_getElem? (i := 3) rfl)) (fun _ h9 => h9) (by rw [hbt]; rfl) dX5_buy_25 ?_
    refine lv_istore_n (lv' := [(2, .int (nI nc)), (0, .ref (ad 5 0)), (1, .int x)]) hx hb dX5_buy_28 rfl hl (by decide) rfl (fun ls hl => ?_)
    refine lv_aload_n hx hb dX5_buy_29 rfl (lv_at hl 1 rfl) ?_
    refine cf_get (v := .ref (ad 14 0)) (ci := 5) (C := RX5) (T := TX5) (N := 9) hx hb hts (fun _ h => List.mem_cons_of_mem _ (List.mem_append_left _ (List.mem_append_left _ (List.mem_append_left _ (List.mem_append_left _ (List.mem_append_right _ (h))))))) hown hT.1 hW cf_e5 rfl 3 (by decide) (hts (.fieldLink RX5 29 "GameCafe" "owned" "[LGameCafe$Copy;") (List.mem_of_getElem? (i := 4) rfl)) (fun _ h9 => h9) rfl dX5_buy_30 ?_
    refine lv_iload_n hx hb dX5_buy_33 rfl (lv_at hl 0 rfl) ?_
    refine cf_new (ci := 0) (fs := [.int 0, .null, .null, .int 0]) (C := RX0) (T := TX0) (N := 4) (ad := ad) hx hb hts (fun _ h => List.mem_cons_of_mem _ (List.mem_append_left _ (List.mem_append_left _ (List.mem_append_left _ (List.mem_append_right _ (h)))))) tyX0 tyX0_ok hown (hts (.classLink RX5 27 RX0) (List.mem_of_getElem? (i := 5) rfl)) (hts (.instantiable RX0 4) (List.mem_of_getElem? (i := 6) rfl)) (hts (.initialized RX0) (List.mem_of_getElem? (i := 7) rfl)) hT.1 hW hS 0 nc (show cf_E cT nc ng S P O ad 0 nc = none from if_neg (Nat.lt_irrefl nc)) rfl (fun j hj => by rcases (show j = 0 ∨ j = 1 ∨ j = 2 ∨ j = 3 by omega) with rfl | rfl | rfl | rfl <;> rfl) (Nat.le_of_ble_eq_true rfl) (Nat.le_of_ble_eq_true rfl) dX5_buy_34 (fun q3 H hW hS => ?_)
    have hl : lv_has ls 3 [(2, .int (nI nc)), (0, .ref ((cf_g2 ad 0 nc q3) 5 0)), (1, .int x)] := hl
    refine lv_dup hx hb dX5_buy_37 rfl ?_
    refine lv_iload_n hx hb dX5_buy_38 rfl (lv_at hl 0 rfl) ?_
    refine lv_aload_n hx hb dX5_buy_39 rfl (lv_at hl 1 rfl) ?_
    refine cf_get (v := .ref (ad 11 0)) (k := 5) (i := 0) (ad := (cf_g2 ad 0 nc q3)) (ci := 5) (C := RX5) (T := TX5) (N := 9) hx hb hts (fun _ h => List.mem_cons_of_mem _ (List.mem_append_left _ (List.mem_append_left _ (List.mem_append_left _ (List.mem_append_left _ (List.mem_append_right _ (h))))))) hown hT.1 hW ((cf_g2n (fun q9 => absurd q9.1 (by decide))).trans (cf_e5.trans (by rw [hbt]))) rfl 0 (by decide) (hts (.fieldLink RX5 11 "GameCafe" "games" "[LGameCafe$Game;") (List.mem_of_getElem? (i := 8) rfl)) (fun _ h9 => h9) rfl dX5_buy_40 ?_
    refine lv_iload_n hx hb dX5_buy_43 rfl (lv_at hl 2 rfl) ?_
    refine cf_aldN (t0 := 3) (C := RX1) (n := 5) (k := 11) (i := 0) (ad := (cf_g2 ad 0 nc q3)) (v := .ref ((cf_g2 ad 0 nc q3) 1 gm)) hx hb hT.1 hW ((cf_g2n (fun q9 => absurd q9.1 (by decide))).trans cf_e11) rfl gm hxg hg (by decide) dX5_buy_44 rfl ?_
    refine va_callv (va_runI (As := [.int (nI nc), .ref ((cf_g2 ad 0 nc q3) 1 gm)]) (rest := [.ref ((cf_g2 ad 0 nc q3) 0 nc), .int (nI nc), .ref ((cf_g2 ad 0 nc q3) 14 0)]) ⟨hx, hb, hml, hown, hts⟩ (c_X0_init l D cT z (cf_g2 ad 0 nc q3) (cf_g2 (cf_E cT nc ng S P O ad) 0 nc (some (.inr (0, [.int 0, .null, .null, .int 0])))) (nI nc) (.int (S 1 gm 0)) (.int (S 1 gm 1)) (.int (S 1 gm 2)) (.int (S 1 gm 3)) (.ref (ad 9 gm)) (S 8 gm) cf_g2s ((cf_g2n (fun q9 => absurd q9.1 (by decide))).trans (cf_e1 hg)) ((cf_g2n (fun q9 => absurd q9.1 (by decide))).trans (cf_e8 hg)) ((cf_g2n (fun q9 => absurd q9.1 (by decide))).trans (show cf_E cT nc ng S P O ad 7 nc = none from if_neg (Nat.lt_irrefl nc)))) (cwI 2 hts gX5_buy_X0_init rfl rfl rfl (hts (.initialized RX0) (List.mem_of_getElem? (i := 7) rfl)) (hts (.methodLink RX5 99 yX0_init) (List.mem_of_getElem? (i := 15) rfl)) (hts (.instanceMethod yX0_init) (List.mem_of_getElem? (i := 16) rfl)) rfl (by decide +kernel) ⟨Nat.le_of_ble_eq_true rfl, Nat.le_of_ble_eq_true rfl⟩) (cf_preS hT hS hW) rfl rfl hl.1 rfl (lv_room (Nat.le_of_ble_eq_true rfl)) dX5_buy_45 ⟨(Nat.le_of_ble_eq_true rfl), (Nat.le_of_ble_eq_true rfl)⟩) hS (fun _ _ h => h) (fun _ h => h) (fun u9 t9 H locs ht hvm hw hW hz1 hk1 hS => ?_)
    have hW : cf_W D z (cf_g2 (cf_g2 (cf_g2 (cf_E cT nc ng S P O ad) 0 nc (some (.inr (0, [.int 0, .null, .null, .int 0])))) 7 nc (some (.inl (cT 0, 4, .inl (S 8 gm))))) 0 nc (some (.inr (0, [.int (nI nc), .ref ((cf_g2 ad 0 nc q3) 1 gm), .ref ((cf_g2 (cf_g2 ad 0 nc q3) 7 nc u9) 7 nc), .int 0])))) (cf_g2 (cf_g2 ad 0 nc q3) 7 nc u9) H := cf_W.er ht hW
    have hl : lv_has ls 3 [(2, .int (nI nc)), (0, .ref ((cf_g2 (cf_g2 ad 0 nc q3) 7 nc u9) 5 0)), (1, .int x)] := hl
    refine cf_astN (t0 := 6) (k := 14) (i := 0) (k2 := 0) (i2 := nc) (ad := (cf_g2 (cf_g2 ad 0 nc q3) 7 nc u9)) (ci := 0) (r := (RX0, TX0, 4)) (n := 15) (f := (cf_rw (ad 0) (P 14 0))) hx hb hT.1 hW hS ((cf_g2n (fun q9 => absurd q9.1 (by decide))).trans ((cf_g2n (fun q9 => absurd q9.1 (by decide))).trans ((cf_g2n (fun q9 => absurd q9.1 (by decide))).trans cf_e14))) rfl cf_g2s rfl nc rfl hn15 (by decide) dX5_buy_48 (E2 := (cf_g2 (cf_g2 (cf_g2 (cf_g2 (cf_E cT nc ng S P O ad) 0 nc (some (.inr (0, [.int 0, .null, .null, .int 0])))) 7 nc (some (.inl (cT 0, 4, .inl (S 8 gm))))) 0 nc (some (.inr (0, [.int (nI nc), .ref ((cf_g2 ad 0 nc q3) 1 gm), .ref ((cf_g2 (cf_g2 ad 0 nc q3) 7 nc u9) 7 nc), .int 0])))) 14 0 (some (.inl (cT 6, 15, .inr (.inr (.inr (.inr (va_up (cf_rw (ad 0) (P 14 0)) nc (some ((cf_g2 (cf_g2 ad 0 nc q3) 7 nc u9) 0 nc))))))))))) rfl (fun H locs hW hS => ?_)
    have hW := cf_W.eqv hW (cf_buyE (ad := ad) (gm := gm) hO2 hL hB2)
    have hag : ∀ k i, k ≠ 0 → k ≠ 7 → (cf_g2 (cf_g2 ad 0 nc q3) 7 nc u9) k i = ad k i := fun k i h0 h7 => by simp [cf_g2, h0, h7]
    generalize (cf_g2 (cf_g2 ad 0 nc q3) 7 nc u9) = ad at hW hl hag ⊢
    refine lv_aload_n hx hb dX5_buy_49 rfl (lv_at hl 1 rfl) ?_
    refine lv_iload_n hx hb dX5_buy_50 rfl (lv_at hl 0 rfl) ?_
    refine lv_iconst (v := 1) hx hb dX5_buy_51 (by decide) ?_
    refine lv_iadd hx hb dX5_buy_52 ?_
    refine cf_putE (v := .int ((nI nc) + 1)) (ty := .int) (ci := 5) (C := RX5) (T := TX5) (N := 9) hx hb hts (fun _ h => List.mem_cons_of_mem _ (List.mem_append_left _ (List.mem_append_left _ (List.mem_append_left _ (List.mem_append_left _ (List.mem_append_right _ (h))))))) tyX5 tyX5_ok nmX5 hown hT.1 hW hS cf_e5 rfl 6 (by decide) (hts (.fieldLink RX5 42 "GameCafe" "bought" "I") (List.mem_of_getElem? (i := 3) rfl)) (fun _ h9 => h9) rfl (by decide +kernel) rfl rfl (Nat.le_of_ble_eq_true rfl) dX5_buy_53 (E2 := (cf_E cT (nc + 1) ng (cf_s3 (cf_buyS S nc gm) 5 0 0 ((nI nc) + 1)) (cf_buyP P nc gm) O ad)) (cf_upS 5 0 (upd ((cf_buyS S nc gm) 5 0) 0 ((nI nc) + 1)) rfl) (fun H locs hW hS => ?_)
    refine lv_iload_n hx hb dX5_buy_56 rfl (lv_at hl 0 rfl) ?_
    refine vx_ret ?_
    refine W.widen (k := 3) (n := 14) (by omega) (by omega) ?_
    exact W.iret (v := (nI nc)) hx hb hr (fun t9 ht9 hw9 => ⟨⟨(nI nc), ((cf_s3 (cf_buyS S nc gm) 5 0 0 ((nI nc) + 1)), (cf_buyP P nc gm), ad), rfl, ⟨gm, hg, hxg, hn15, rfl, rfl, rfl, hag⟩, cf_W.re ht9 hW⟩, hS.F ht9⟩) hS.2.2 dX5_buy_57
  · exact cf_throw (text := "there can be no more copies") hx hb hl0 hown (by decide +kernel) (hts (.classLink RX5 83 "java/lang/IllegalStateException") (List.mem_of_getElem? (i := 1) rfl)) (hts (.initialized "java/lang/IllegalStateException") (List.mem_of_getElem? (i := 2) rfl)) (List.mem_of_getElem? (i := 3) rfl) (List.mem_of_getElem? (i := 2) rfl) (fun w h => hts w (List.mem_cons_of_mem _ (List.mem_append_left _ (List.mem_append_right _ (h))))) cf_ng_ise cf_gd_ise hT hW hS (hl.1.trans hml.symm) dX5_buy_14 dX5_buy_17 dX5_buy_18 dX5_buy_20 dX5_buy_23 htab (by decide) hlocks (Or.inr ⟨rfl, hA, fun q => c11_2 (nI_lt q (by decide))⟩) (by decide)
