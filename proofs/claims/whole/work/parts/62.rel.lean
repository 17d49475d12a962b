/-- the class and the reference tell the same: counts and the minute -/
def cf_Ra (nc ng : Nat) (S : cf_S) (P : cf_Pt) : Prop := nc ≤ 15 ∧ ng ≤ 60 ∧ S 5 0 0 = nI nc ∧ S 5 0 1 = nI ng ∧ S 6 0 11 = nI nc ∧ S 6 0 15 = nI ng ∧ (∃ t : Nat, t ≤ 100000 ∧ S 5 0 2 = nI t ∧ S 6 0 0 = nI t) ∧ ∀ j, P 14 0 j = if j < nc then j + 1 else 0
def cf_Rg (n : Nat) (S : cf_S) : Prop := (∀ j, j < 5 → S 1 j 0 = S 17 1 j ∧ S 1 j 1 = S 17 2 j ∧ S 1 j 2 = S 17 3 j ∧ (∃ q : Nat, q ≤ 60 ∧ S 17 3 j = nI q) ∧ ∃ q : Nat, q ≤ n ∧ S 1 j 3 = nI q ∧ S 17 6 j = nI q) ∧ ∀ j k, j < 5 → k < 4 → S 8 j k = S 17 4 (4 * j + k) ∧ S 9 j k = S 17 5 (4 * j + k) ∧ ∃ q : Nat, q ≤ 20 ∧ S 8 j k = nI q
def cf_Rt (S : cf_S) : Prop := ∀ j, j < 6 → S 3 j 0 = S 17 7 j ∧ ∃ q : Nat, q ≤ 60 ∧ S 17 8 j = nI q ∧ S 3 j 1 = nI q - 1
def cf_Rs (S : cf_S) : Prop := ∀ j, j < 3 → (∃ q : Nat, q ≤ 100060 ∧ S 4 j 0 = nI q ∧ S 17 10 j = nI q) ∧ ∀ k, k < 5 → (S 10 j k = 1 ∧ S 17 9 (5 * j + k) = 0) ∨ (S 10 j k = 0 ∧ S 17 9 (5 * j + k) = 1)
def cf_Rc (nc : Nat) (S : cf_S) (P : cf_Pt) : Prop := (∀ j, j < nc → P 0 j 0 < 5 ∧ S 17 12 j = nI (P 0 j 0) ∧ S 0 j 0 = S 17 13 j ∧ ∀ k, k < 4 → ∃ q : Nat, q ≤ 40 ∧ S 7 j k = nI q ∧ S 17 14 (4 * j + k) = nI q) ∧ ∀ j, nc ≤ j → j < 15 → S 17 13 j = 0
def cf_Rq (nc ng : Nat) (S : cf_S) (P : cf_Pt) : Prop := (∀ j, j < ng → P 2 j 0 < nc ∧ P 2 j 1 < 6 ∧ S 2 j 0 = S 17 19 j ∧ S 2 j 1 = S 17 16 j ∧ S 17 17 j = nI (P 2 j 1) ∧ S 17 18 j = nI (P 2 j 0) ∧ ((S 17 20 j = 0 ∧ P 15 0 j = j + 1) ∨ (S 17 20 j = 1 ∧ P 15 0 j = 0))) ∧ (∀ j, ng ≤ j → P 15 0 j = 0) ∧ ∀ j, ng ≤ j → j < 60 → S 17 20 j = 0
def cf_Rl (nc ng : Nat) (S : cf_S) (P : cf_Pt) : Prop := (∀ j, j < ng → P 15 0 j ≠ 0 → S 17 13 (P 2 j 0) = 1) ∧ (∀ i j, i < ng → j < ng → P 15 0 i ≠ 0 → P 15 0 j ≠ 0 → i ≠ j → P 2 i 0 ≠ P 2 j 0) ∧ (∀ b, P 16 0 b ≤ nc) ∧ (∀ b, b < 6 → (P 16 0 b = 0 ∧ S 17 21 b = 0) ∨ ∃ c : Nat, c < nc ∧ P 16 0 b = c + 1 ∧ S 17 21 b = nI (c + 1) ∧ S 17 13 c = 2 ∧ S 17 22 b = cf_worthM (fun k => S 17 14 (4 * c + k))) ∧ ∀ b b2, b < 6 → b2 < 6 → b ≠ b2 → P 16 0 b ≠ 0 → P 16 0 b ≠ P 16 0 b2
def cf_R (n nc ng : Nat) (S : cf_S) (P : cf_Pt) : Prop := cf_Ra nc ng S P ∧ cf_Rg n S ∧ cf_Rt S ∧ cf_Rs S ∧ cf_Rc nc S P ∧ cf_Rq nc ng S P ∧ cf_Rl nc ng S P
theorem cf_Rg.up {n : Nat} {S : cf_S} (h : cf_Rg n S) : cf_Rg (n + 1) S := by
  refine ⟨fun j hj => ?_, h.2⟩
  obtain ⟨a, b, c, d, q, hq, e, f⟩ := h.1 j hj
  exact ⟨a, b, c, d, q, Nat.le_succ_of_le hq, e, f⟩
theorem cf_R.th {n nc ng : Nat} {S : cf_S} {P : cf_Pt} {k : Int32} (h : cf_R n nc ng S P) : cf_R (n + 1) nc ng (cf_s3 S 6 0 23 k) P := by
  obtain ⟨a, b, c, d, e, f, g⟩ := h
  exact ⟨a, b.up, c, d, e, f, g⟩
theorem cf_R.th2 {n nc ng : Nat} {S : cf_S} {P : cf_Pt} {k k2 : Int32} (h : cf_R n nc ng S P) : cf_R (n + 1) nc ng (cf_s3 (cf_s3 S 6 0 23 k) 6 0 23 k2) P := by
  obtain ⟨a, b, c, d, e, f, g⟩ := h
  exact ⟨a, b.up, c, d, e, f, g⟩
theorem cf_no {p : Prop} {k : Int32} (hk : ¬ k = 0) : k = 0 → p := fun q => absurd q hk
theorem cf_vpu {O : Nat → Int64} {w : Int64} : vp_updL O 0 w 0 = w := by simp [vp_updL]
theorem cf_vpe (O : Nat → Int64) {v v2 : Int32} (h : v2 = v) : vp_updL O 0 v.toInt64 0 = v2.toInt64 := by rw [cf_vpu, h]
/-- a group is there for the class when it is for the reference -/
theorem cf_R.lv {n nc ng : Nat} {S : cf_S} {P : cf_Pt} (h : cf_R n nc ng S P) (x : Int32) : cf_lv P x ↔ cf_lvM S ng x := by
  obtain ⟨a, -, -, -, -, f, -⟩ := h
  constructor
  · rintro ⟨j, hj, hx, h0⟩
    have hl : j < ng := Nat.not_le.mp fun q => h0 (f.2.1 j q)
    rcases (f.1 j hl).2.2.2.2.2.2 with ⟨h1, h2⟩ | ⟨h1, h2⟩
    · exact ⟨j, hl, hx, h1⟩
    · exact absurd h2 h0
  · rintro ⟨j, hj, hx, h0⟩
    rcases (f.1 j hj).2.2.2.2.2.2 with ⟨h1, h2⟩ | ⟨h1, h2⟩
    · exact ⟨j, Nat.lt_of_lt_of_le hj a.2.1, hx, by omega⟩
    · rw [h1] at h0; exact absurd h0 (by decide)
theorem cf_sim_parts {n nc ng : Nat} {S : cf_S} {P : cf_Pt} {O : Nat → Int64} {ad : cf_Ad} {x y : Int32} (hR : cf_R n nc ng S P) {r : Int32} {u : cf_St} (hL : (r = 1 ∧ ¬ (cf_ix x nc ∧ cf_ix y 4) ∧ u = (nc, ng, S, P, O, ad)) ∨ (r = 0 ∧ ∃ v : Int32, (∃ cp k : Nat, cp < nc ∧ x = nI cp ∧ k < 4 ∧ y = nI k ∧ v = S 7 cp k) ∧ u = (nc, ng, S, P, vp_updL O 0 v.toInt64, ad))) {v2 : Int32} {T : cf_S} (hM : (¬ (cf_ix x u.1 ∧ cf_ix y 4) ∧ T = (cf_s3 u.2.2.1 6 0 23 1)) ∨ ∃ cp k : Nat, cp < u.1 ∧ x = nI cp ∧ k < 4 ∧ y = nI k ∧ v2 = u.2.2.1 17 14 (4 * cp + k) ∧ T = (cf_s3 u.2.2.1 6 0 23 0)) : T 6 0 23 = r ∧ (r = 0 → u.2.2.2.2.1 0 = v2.toInt64) ∧ cf_R (n + 1) u.1 u.2.1 T u.2.2.2.1 := by
  rcases hL with ⟨rfl, h1, rfl⟩ | ⟨rfl, v, ⟨cp, k, hc, hx, hk, hy, hv⟩, rfl⟩
  · dsimp only at hM
    rcases hM with ⟨-, rfl⟩ | ⟨cp, k, hc, hx, hk, hy, -, -⟩
    · exact ⟨cf_s3s, cf_no (by decide), hR.th⟩
    · exact absurd ⟨⟨cp, hc, hx⟩, ⟨k, hk, hy⟩⟩ h1
  · dsimp only at hM
    rcases hM with ⟨h1, -⟩ | ⟨cp2, k2, hc2, hx2, hk2, hy2, hv2, rfl⟩
    · exact absurd ⟨⟨cp, hc, hx⟩, ⟨k, hk, hy⟩⟩ h1
    · have hn := hR.1.1
      have e1 : cp2 = cp := cf_nI_inj (by omega) (by omega) (hx2.symm.trans hx)
      have e2 : k2 = k := cf_nI_inj (by omega) (by omega) (hy2.symm.trans hy)
      subst e1; subst e2
      obtain ⟨q, -, e3, e4⟩ := (hR.2.2.2.2.1.1 cp2 hc).2.2.2 k2 hk
      exact ⟨cf_s3s, fun _ => cf_vpe O (v := v) (by rw [hv2, hv, e3, e4]), hR.th⟩

theorem cf_sim_whereIs {n nc ng : Nat} {S : cf_S} {P : cf_Pt} {O : Nat → Int64} {ad : cf_Ad} {x : Int32} (hR : cf_R n nc ng S P) {r : Int32} {u : cf_St} (hL : (r = 1 ∧ ¬ (cf_ix x nc) ∧ u = (nc, ng, S, P, O, ad)) ∨ (r = 0 ∧ ∃ v : Int32, (∃ cp : Nat, cp < nc ∧ x = nI cp ∧ v = S 0 cp 0) ∧ u = (nc, ng, S, P, vp_updL O 0 v.toInt64, ad))) {v2 : Int32} {T : cf_S} (hM : (¬ cf_ix x u.1 ∧ T = (cf_s3 u.2.2.1 6 0 23 1)) ∨ ∃ cp : Nat, cp < u.1 ∧ x = nI cp ∧ v2 = u.2.2.1 17 13 cp ∧ T = (cf_s3 u.2.2.1 6 0 23 0)) : T 6 0 23 = r ∧ (r = 0 → u.2.2.2.2.1 0 = v2.toInt64) ∧ cf_R (n + 1) u.1 u.2.1 T u.2.2.2.1 := by
  rcases hL with ⟨rfl, h1, rfl⟩ | ⟨rfl, v, ⟨cp, hc, hx, hv⟩, rfl⟩
  · dsimp only at hM
    rcases hM with ⟨-, rfl⟩ | ⟨cp, hc, hx, -, -⟩
    · exact ⟨cf_s3s, cf_no (by decide), hR.th⟩
    · exact absurd ⟨cp, hc, hx⟩ h1
  · dsimp only at hM
    rcases hM with ⟨h1, -⟩ | ⟨cp2, hc2, hx2, hv2, rfl⟩
    · exact absurd ⟨cp, hc, hx⟩ h1
    · have hn := hR.1.1
      have e1 : cp2 = cp := cf_nI_inj (by omega) (by omega) (hx2.symm.trans hx)
      subst e1
      exact ⟨cf_s3s, fun _ => cf_vpe O (v := v) (by rw [hv2, hv, (hR.2.2.2.2.1.1 cp2 hc).2.2.1]), hR.th⟩

theorem cf_sim_at {n nc ng : Nat} {S : cf_S} {P : cf_Pt} {O : Nat → Int64} {ad : cf_Ad} {x : Int32} (hR : cf_R n nc ng S P) {r : Int32} {u : cf_St} (hL : (r = 1 ∧ ¬ (cf_ix x 6) ∧ u = (nc, ng, S, P, O, ad)) ∨ (r = 0 ∧ ∃ v : Int32, (∃ j : Nat, j < 6 ∧ x = nI j ∧ v = S 3 j 1) ∧ u = (nc, ng, S, P, vp_updL O 0 v.toInt64, ad))) {v2 : Int32} {T : cf_S} (hM : (¬ cf_ix x 6 ∧ T = (cf_s3 u.2.2.1 6 0 23 1)) ∨ ∃ j : Nat, j < 6 ∧ x = nI j ∧ v2 = u.2.2.1 17 8 j - 1 ∧ T = (cf_s3 u.2.2.1 6 0 23 0)) : T 6 0 23 = r ∧ (r = 0 → u.2.2.2.2.1 0 = v2.toInt64) ∧ cf_R (n + 1) u.1 u.2.1 T u.2.2.2.1 := by
  rcases hL with ⟨rfl, h1, rfl⟩ | ⟨rfl, v, ⟨cp, hc, hx, hv⟩, rfl⟩
  · dsimp only at hM
    rcases hM with ⟨-, rfl⟩ | ⟨cp, hc, hx, -, -⟩
    · exact ⟨cf_s3s, cf_no (by decide), hR.th⟩
    · exact absurd ⟨cp, hc, hx⟩ h1
  · dsimp only at hM
    rcases hM with ⟨h1, -⟩ | ⟨cp2, hc2, hx2, hv2, rfl⟩
    · exact absurd ⟨cp, hc, hx⟩ h1
    · have e1 : cp2 = cp := cf_nI_inj (by omega) (by omega) (hx2.symm.trans hx)
      subst e1
      obtain ⟨-, q, -, e3, e4⟩ := hR.2.2.1 cp2 hc
      exact ⟨cf_s3s, fun _ => cf_vpe O (v := v) (by rw [hv2, hv, e3, e4]), hR.th⟩

theorem cf_sim_plays {n nc ng : Nat} {S : cf_S} {P : cf_Pt} {O : Nat → Int64} {ad : cf_Ad} {x : Int32} (hR : cf_R n nc ng S P) {r : Int32} {u : cf_St} (hL : (r = 1 ∧ ¬ (cf_ix x 5) ∧ u = (nc, ng, S, P, O, ad)) ∨ (r = 0 ∧ ∃ v : Int32, (∃ j : Nat, j < 5 ∧ x = nI j ∧ v = S 1 j 3) ∧ u = (nc, ng, S, P, vp_updL O 0 v.toInt64, ad))) {v2 : Int32} {T : cf_S} (hM : (¬ cf_ix x 5 ∧ T = (cf_s3 u.2.2.1 6 0 23 1)) ∨ ∃ j : Nat, j < 5 ∧ x = nI j ∧ v2 = u.2.2.1 17 6 j ∧ T = (cf_s3 u.2.2.1 6 0 23 0)) : T 6 0 23 = r ∧ (r = 0 → u.2.2.2.2.1 0 = v2.toInt64) ∧ cf_R (n + 1) u.1 u.2.1 T u.2.2.2.1 := by
  rcases hL with ⟨rfl, h1, rfl⟩ | ⟨rfl, v, ⟨cp, hc, hx, hv⟩, rfl⟩
  · dsimp only at hM
    rcases hM with ⟨-, rfl⟩ | ⟨cp, hc, hx, -, -⟩
    · exact ⟨cf_s3s, cf_no (by decide), hR.th⟩
    · exact absurd ⟨cp, hc, hx⟩ h1
  · dsimp only at hM
    rcases hM with ⟨h1, -⟩ | ⟨cp2, hc2, hx2, hv2, rfl⟩
    · exact absurd ⟨cp, hc, hx⟩ h1
    · have e1 : cp2 = cp := cf_nI_inj (by omega) (by omega) (hx2.symm.trans hx)
      subst e1
      obtain ⟨-, -, -, -, q, -, e3, e4⟩ := hR.2.1.1 cp2 hc
      exact ⟨cf_s3s, fun _ => cf_vpe O (v := v) (by rw [hv2, hv, e3, e4]), hR.th⟩

theorem cf_sim_copyOf {n nc ng : Nat} {S : cf_S} {P : cf_Pt} {O : Nat → Int64} {ad : cf_Ad} {x : Int32} (hR : cf_R n nc ng S P) {r : Int32} {u : cf_St} (hL : (r = 1 ∧ ¬ (cf_lv P x) ∧ u = (nc, ng, S, P, O, ad)) ∨ (r = 0 ∧ ∃ v : Int32, (∃ gp : Nat, gp < 60 ∧ x = nI gp ∧ P 15 0 gp = gp + 1 ∧ gp < ng ∧ v = nI (P 2 gp 0)) ∧ u = (nc, ng, S, P, vp_updL O 0 v.toInt64, ad))) {v2 : Int32} {T : cf_S} (hM : (¬ cf_lvM u.2.2.1 u.2.1 x ∧ T = (cf_s3 u.2.2.1 6 0 23 1)) ∨ ∃ j : Nat, j < u.2.1 ∧ x = nI j ∧ u.2.2.1 17 20 j = 0 ∧ v2 = u.2.2.1 17 18 j ∧ T = (cf_s3 u.2.2.1 6 0 23 0)) : T 6 0 23 = r ∧ (r = 0 → u.2.2.2.2.1 0 = v2.toInt64) ∧ cf_R (n + 1) u.1 u.2.1 T u.2.2.2.1 := by
  rcases hL with ⟨rfl, h1, rfl⟩ | ⟨rfl, v, ⟨cp, hc60, hx, hP, hc, hv⟩, rfl⟩
  · dsimp only at hM
    rcases hM with ⟨-, rfl⟩ | ⟨cp, hc, hx, h0, -, -⟩
    · exact ⟨cf_s3s, cf_no (by decide), hR.th⟩
    · exact absurd ((hR.lv x).mpr ⟨cp, hc, hx, h0⟩) h1
  · dsimp only at hM
    rcases hM with ⟨h1, -⟩ | ⟨cp2, hc2, hx2, h0, hv2, rfl⟩
    · exact absurd ((hR.lv x).mp ⟨cp, hc60, hx, by omega⟩) h1
    · have hn := hR.1.2.1
      have e1 : cp2 = cp := cf_nI_inj (by omega) (by omega) (hx2.symm.trans hx)
      subst e1
      exact ⟨cf_s3s, fun _ => cf_vpe O (v := v) (by rw [hv2, hv, (hR.2.2.2.2.2.1.1 cp2 hc).2.2.2.2.2.1]), hR.th⟩

theorem cf_sim_teaching {n nc ng : Nat} {S : cf_S} {P : cf_Pt} {O : Nat → Int64} {ad : cf_Ad} {x : Int32} (hR : cf_R n nc ng S P) {r : Int32} {u : cf_St} (hL : (r = 1 ∧ ¬ (cf_ix x 3) ∧ u = (nc, ng, S, P, O, ad)) ∨ (r = 0 ∧ ∃ v : Int32, (∃ j : Nat, j < 3 ∧ x = nI j ∧ v = if 0 < S 4 j 0 - S 5 0 2 then S 4 j 0 - S 5 0 2 else 0) ∧ u = (nc, ng, S, P, vp_updL O 0 v.toInt64, ad))) {v2 : Int32} {T : cf_S} (hM : (¬ cf_ix x 3 ∧ T = (cf_s3 u.2.2.1 6 0 23 1)) ∨ ∃ j : Nat, j < 3 ∧ x = nI j ∧ ((¬ u.2.2.1 17 10 j ≤ u.2.2.1 6 0 0 ∧ v2 = u.2.2.1 17 10 j - u.2.2.1 6 0 0) ∨ (u.2.2.1 17 10 j ≤ u.2.2.1 6 0 0 ∧ v2 = 0)) ∧ T = (cf_s3 u.2.2.1 6 0 23 0)) : T 6 0 23 = r ∧ (r = 0 → u.2.2.2.2.1 0 = v2.toInt64) ∧ cf_R (n + 1) u.1 u.2.1 T u.2.2.2.1 := by
  rcases hL with ⟨rfl, h1, rfl⟩ | ⟨rfl, v, ⟨cp, hc, hx, hv⟩, rfl⟩
  · dsimp only at hM
    rcases hM with ⟨-, rfl⟩ | ⟨cp, hc, hx, -, -⟩
    · exact ⟨cf_s3s, cf_no (by decide), hR.th⟩
    · exact absurd ⟨cp, hc, hx⟩ h1
  · dsimp only at hM
    rcases hM with ⟨h1, -⟩ | ⟨cp2, hc2, hx2, hv2, rfl⟩
    · exact absurd ⟨cp, hc, hx⟩ h1
    · have e1 : cp2 = cp := cf_nI_inj (by omega) (by omega) (hx2.symm.trans hx)
      subst e1
      obtain ⟨⟨q, hq, e3, e4⟩, -⟩ := hR.2.2.2.1 cp2 hc
      obtain ⟨t, ht, e5, e6⟩ := hR.1.2.2.2.2.2.2.1
      refine ⟨cf_s3s, fun _ => ?_, hR.th⟩
      show vp_updL O 0 v.toInt64 0 = v2.toInt64
      rw [cf_vpu]
      rw [e3, e5] at hv
      rw [e4, e6] at hv2
      rcases hv2 with ⟨h2, hv2⟩ | ⟨h2, hv2⟩
      · have hlt : t < q := (nI_ltI (by omega) (by omega)).mp (Int32.not_le.mp h2)
        rw [if_pos] at hv
        · rw [hv, hv2]
        · rw [Int32.lt_iff_toInt_lt, pk_sub_toInt (by omega) (by omega)]
          show (0 : Int) < _
          omega
      · have hle : q ≤ t := Nat.not_lt.mp fun h => Int32.not_le.mpr (nI_lt h (by omega)) h2
        rw [if_neg] at hv
        · rw [hv, hv2]
        · rw [Int32.lt_iff_toInt_lt, pk_sub_toInt (by omega) (by omega)]
          show ¬ (0 : Int) < _
          omega
