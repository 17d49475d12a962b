theorem cf_comeN {w h o : Nat} (hw : w ≤ 20) (hh : h ≤ 40) (ho : o ≤ 40) : ∃ m : Nat, m ≤ o ∧ h + m ≤ 40 ∧ cf_come (nI w) (nI h) (nI o) = nI m ∧ cf_comeM (nI w) (nI h) (nI o) = nI m := by
  unfold cf_come cf_comeM
  by_cases hle : w ≤ h
  · refine ⟨0, Nat.zero_le _, by omega, ?_, ?_⟩
    · have h1 : ¬ (0 : Int32) < nI w - nI h := by
        rw [Int32.lt_iff_toInt_lt, pk_sub_toInt (by omega) (by omega)]
        show ¬ (0 : Int) < _
        omega
      rw [if_neg h1]
      have h2 : ¬ nI o < 0 := nI_pos (by omega)
      rw [if_neg h2]; rfl
    · by_cases h3 : nI w - nI h < nI o
      · rw [if_pos h3]
        by_cases h4 : nI w - nI h < 0
        · rw [if_pos h4]; rfl
        · rw [if_neg h4]
          rw [Int32.lt_iff_toInt_lt, pk_sub_toInt (by omega) (by omega)] at h4
          have h5 : ¬ ((w : Int) - h < 0) := h4
          have h6 : w = h := by omega
          subst h6
          simp
          rfl
      · rw [if_neg h3]
        rw [Int32.lt_iff_toInt_lt, pk_sub_toInt (by omega) (by omega), nI_toInt (by omega)] at h3
        have h6 : o = 0 := by omega
        subst h6
        rfl
  · have e : nI w - nI h = nI (w - h) := pk_sub (by omega)
    rw [e]
    have h1 : (0 : Int32) < nI (w - h) := nI_lt (a := 0) (by omega) (by omega)
    rw [if_pos h1]
    by_cases h2 : o < w - h
    · have h3 : nI o < nI (w - h) := nI_lt h2 (by omega)
      have h4 : ¬ nI (w - h) < nI o := fun q => Int32.lt_irrefl (Int32.lt_trans h3 q)
      refine ⟨o, Nat.le_refl o, by omega, by rw [if_pos h3], ?_⟩
      rw [if_neg h4, if_neg (nI_pos (by omega))]
    · have h3 : ¬ nI o < nI (w - h) := fun q => h2 ((nI_ltI (by omega) (by omega)).mp q)
      refine ⟨w - h, by omega, by omega, by rw [if_neg h3], ?_⟩
      by_cases h4 : nI (w - h) < nI o
      · rw [if_pos h4, if_neg (nI_pos (by omega))]
      · rw [if_neg h4, if_neg (nI_pos (by omega))]
        have h5 : ¬ w - h < o := fun q => h4 (nI_lt q (by omega))
        rw [show o = w - h by omega]
theorem cf_sim_giveBack {n nc ng : Nat} {S : cf_S} {P : cf_Pt} {O : Nat → Int64} {ad : cf_Ad} {x y a1 : Int32} (hR : cf_R n nc ng S P) {r : Int32} {u : cf_St} (hL : (r = 1 ∧ ¬ (cf_ix x 6 ∧ cf_ix y 4) ∧ u = (nc, ng, S, P, O, ad)) ∨ (r = 2 ∧ (cf_ix x 6 ∧ cf_ix y 4) ∧ ¬ (cf_rg a1 0 20) ∧ u = (nc, ng, S, P, O, ad)) ∨ (r = 3 ∧ (cf_ix x 6 ∧ cf_ix y 4) ∧ (cf_rg a1 0 20) ∧ ¬ (∀ b k : Nat, x = nI b → b < 6 → y = nI k → k < 4 → P 16 0 b ≠ 0 ∧ a1 ≤ S 7 (P 16 0 b - 1) k) ∧ u = (nc, ng, S, P, O, ad)) ∨ (r = 0 ∧ ∃ v : Int32, ∃ T : cf_S × cf_Pt, (∃ cp b k : Nat, cp < nc ∧ P 16 0 b = cp + 1 ∧ b < 6 ∧ x = nI b ∧ k < 4 ∧ y = nI k ∧ (cf_rg a1 0 20) ∧ a1 ≤ S 7 cp k ∧ v = cf_worth (S 7 cp) - a1 * (100 * (y + 1)) ∧ T = (cf_s3 (cf_s3 S 7 cp k (S 7 cp k - a1)) 0 cp 0 0, cf_p3 P 16 0 b 0)) ∧ u = (nc, ng, T.1, T.2, vp_updL O 0 v.toInt64, ad))) {v2 : Int32} {T : cf_S} (hM : (¬ (cf_ix x 6 ∧ cf_ix y 4) ∧ T = (cf_s3 u.2.2.1 6 0 23 1)) ∨ ((cf_ix x 6 ∧ cf_ix y 4) ∧ ¬ (cf_rg a1 0 20) ∧ T = (cf_s3 u.2.2.1 6 0 23 2)) ∨ ∃ b k : Nat, b < 6 ∧ x = nI b ∧ k < 4 ∧ y = nI k ∧ (cf_rg a1 0 20) ∧ (((u.2.2.1 17 21 b - 1 = -1 ∨ ∃ cp : Nat, cp < u.1 ∧ u.2.2.1 17 21 b - 1 = nI cp ∧ ¬ a1 ≤ u.2.2.1 17 14 (4 * cp + k)) ∧ T = cf_s3 (cf_s3 u.2.2.1 6 0 23 0) 6 0 23 3) ∨ ∃ cp : Nat, cp < u.1 ∧ u.2.2.1 17 21 b - 1 = nI cp ∧ a1 ≤ u.2.2.1 17 14 (4 * cp + k) ∧ v2 = u.2.2.1 17 22 b - 100 * (y + 1) * a1 ∧ T = cf_s3 (cf_s3 (cf_s3 (cf_s3 u.2.2.1 6 0 23 0) 17 14 (4 * cp + k) (u.2.2.1 17 14 (4 * cp + k) - a1)) 17 13 cp 0) 17 21 b 0)) : T 6 0 23 = r ∧ (r = 0 → u.2.2.2.2.1 0 = v2.toInt64) ∧ cf_R (n + 1) u.1 u.2.1 T u.2.2.2.1 := by
  have hn15 := hR.1.1
  rcases hL with ⟨rfl, h1, rfl⟩ | ⟨rfl, h1, h2, rfl⟩ | ⟨rfl, h1, h2, h3, rfl⟩ | ⟨rfl, v, Tc, ⟨cp, b, k, hc, hP, hb, hx, hk, hy, hr, hle, hv, rfl⟩, rfl⟩
  · dsimp only at hM
    rcases hM with ⟨-, rfl⟩ | ⟨h, -⟩ | ⟨cp, k, hc, hx, hk, hy, -⟩
    · exact ⟨cf_s3s, cf_no (by decide), hR.th⟩
    · exact absurd h h1
    · exact absurd ⟨⟨cp, hc, hx⟩, ⟨k, hk, hy⟩⟩ h1
  · dsimp only at hM
    rcases hM with ⟨h, -⟩ | ⟨-, -, rfl⟩ | ⟨cp, k, hc, hx, hk, hy, h, -⟩
    · exact absurd h1 h
    · exact ⟨cf_s3s, cf_no (by decide), hR.th⟩
    · exact absurd h h2
  · dsimp only at hM
    rcases hM with ⟨h, -⟩ | ⟨-, h, -⟩ | ⟨b, k, hb, hx, hk, hy, -, ⟨-, rfl⟩ | ⟨cp, hc, h4, h5, -⟩⟩
    · exact absurd h1 h
    · exact absurd h2 h
    · exact ⟨cf_s3s, cf_no (by decide), hR.th2⟩
    · refine absurd (fun b2 k2 hx2 hb2 hy2 hk2 => ?_) h3
      have e1 : b2 = b := cf_nI_inj (by omega) (by omega) (hx2.symm.trans hx)
      have e2 : k2 = k := cf_nI_inj (by omega) (by omega) (hy2.symm.trans hy)
      subst e1; subst e2
      rcases hR.2.2.2.2.2.2.2.2.2.1 b2 hb with h | ⟨c, hc', g1, g2, -⟩
      · rw [h.2] at h4
        exact absurd h4.symm (fun q => cf_nIm1 (n := cp) (by omega) q)
      · rw [g2, nI_pred] at h4
        have e3 : c = cp := cf_nI_inj (by omega) (by omega) h4
        subst e3
        obtain ⟨q, -, e4, e5⟩ := (hR.2.2.2.2.1.1 c hc).2.2.2 k2 hk
        refine ⟨by omega, ?_⟩
        rw [g1, Nat.add_sub_cancel, e4, ← e5]
        exact h5
  · dsimp only at hM
    obtain ⟨g21, g13, g22⟩ : S 17 21 b = nI (cp + 1) ∧ S 17 13 cp = 2 ∧ S 17 22 b = cf_worthM (fun k => S 17 14 (4 * cp + k)) := by
      rcases hR.2.2.2.2.2.2.2.2.2.1 b hb with h | ⟨c, hc', g1, g2, g3, g4⟩
      · omega
      · have e3 : c = cp := by omega
        subst e3
        exact ⟨g2, g3, g4⟩
    obtain ⟨qh, hqh, e5, e6⟩ := (hR.2.2.2.2.1.1 cp hc).2.2.2 k hk
    have s21 : cf_s3 (cf_s3 S 7 cp k (S 7 cp k - a1)) 0 cp 0 0 17 21 b = nI (cp + 1) := g21
    rcases hM with ⟨h, -⟩ | ⟨-, h, -⟩ | ⟨b2, k2, hb2, hx2, hk2, hy2, -, hM⟩
    · exact absurd ⟨⟨b, hb, hx⟩, ⟨k, hk, hy⟩⟩ h
    · exact absurd hr h
    · have e1 : b2 = b := cf_nI_inj (by omega) (by omega) (hx2.symm.trans hx)
      have e2 : k2 = k := cf_nI_inj (by omega) (by omega) (hy2.symm.trans hy)
      subst e1; subst e2
      rw [s21, nI_pred] at hM
      rcases hM with ⟨h | ⟨c, hc', h4, h5⟩, -⟩ | ⟨c, hc', h4, h5, hv2, rfl⟩
      · exact absurd h (cf_nIm1 (by omega))
      · have e3 : c = cp := cf_nI_inj (by omega) (by omega) h4.symm
        subst e3
        exfalso
        apply h5
        show a1 ≤ S 17 14 (4 * c + k2)
        rw [e6, ← e5]; exact hle
      · have e3 : c = cp := cf_nI_inj (by omega) (by omega) h4.symm
        subst e3
        have hw := hR.worth hc
        refine ⟨rfl, fun _ => cf_vpe O (v := v) ?_, ?_⟩
        · rw [hv, hv2, hw]
          show S 17 22 b2 - 100 * (y + 1) * a1 = _
          rw [g22, Int32.mul_comm a1]
        obtain ⟨a, bb, cc, d, e, f, g⟩ := hR
        obtain ⟨m, hm, hma⟩ := cf_rgN (m := 20) (by decide) (by decide) hr
        have hmq : m ≤ qh := by rw [hma, e5] at hle; exact cf_leN (by omega) (by omega) hle
        have hsub : S 7 c k2 - a1 = nI (qh - m) := by rw [e5, hma]; exact pk_sub hmq
        have hsub2 : cf_s3 (cf_s3 S 7 c k2 (S 7 c k2 - a1)) 0 c 0 0 17 14 (4 * c + k2) - a1 = nI (qh - m) := by
          show S 17 14 (4 * c + k2) - a1 = _
          rw [e6, hma]; exact pk_sub hmq
        rw [hsub2, hsub]
        have p16 : ∀ j, cf_p3 P 16 0 b2 0 16 0 j = if j = b2 then 0 else P 16 0 j := fun j => by by_cases h : j = b2 <;> simp [cf_p3, cf_g2, cf_u, h]
        generalize hT : cf_s3 (cf_s3 (cf_s3 (cf_s3 (cf_s3 (cf_s3 S 7 c k2 (nI (qh - m))) 0 c 0 0) 6 0 23 0) 17 14 (4 * c + k2) (nI (qh - m))) 17 13 c 0) 17 21 b2 0 = T
        show cf_R (n + 1) nc ng T (cf_p3 P 16 0 b2 0)
        have t13 : ∀ j, T 17 13 j = if j = c then 0 else S 17 13 j := fun j => by subst hT; by_cases h : j = c <;> simp [cf_s3, cf_g2, upd, h]
        have t0 : ∀ j, T 0 j 0 = if j = c then 0 else S 0 j 0 := fun j => by subst hT; by_cases h : j = c <;> simp [cf_s3, cf_g2, upd, h]
        have t21 : ∀ j, T 17 21 j = if j = b2 then 0 else S 17 21 j := fun j => by subst hT; by_cases h : j = b2 <;> simp [cf_s3, cf_g2, upd, h]
        have t22 : T 17 22 = S 17 22 := by subst hT; rfl
        have t14 : ∀ j i, i < 4 → T 17 14 (4 * j + i) = if j = c ∧ i = k2 then nI (qh - m) else S 17 14 (4 * j + i) := fun j i hi => by
          subst hT
          by_cases h : j = c ∧ i = k2
          · obtain ⟨rfl, rfl⟩ := h
            rw [if_pos ⟨rfl, rfl⟩, cf_s3n (by simp), cf_s3n (by simp), cf_s3s]
          · rw [if_neg h, cf_s3n (by simp), cf_s3n (by simp), cf_s3n (fun q => h ((cf_4 hi hk).mp q.2.2))]; rfl
        have t7 : ∀ j i, T 7 j i = if j = c ∧ i = k2 then nI (qh - m) else S 7 j i := fun j i => by
          subst hT
          by_cases h : j = c ∧ i = k2
          · obtain ⟨rfl, rfl⟩ := h
            rw [if_pos ⟨rfl, rfl⟩, cf_s3n (by simp), cf_s3n (by simp), cf_s3n (by simp), cf_s3n (by simp), cf_s3n (by simp), cf_s3s]
          · rw [if_neg h, cf_s3n (by simp), cf_s3n (by simp), cf_s3n (by simp), cf_s3n (by simp), cf_s3n (by simp), cf_s3n (fun q => h q.2)]
        refine ⟨by subst hT; exact a, by subst hT; exact bb.up, by subst hT; exact cc, by subst hT; exact d, ⟨fun j hj => ?_, fun j h1 h2 => ?_⟩, by subst hT; exact f, ?_⟩
        · obtain ⟨g1, g2, g3, g4⟩ := e.1 j hj
          refine ⟨g1, by subst hT; exact g2, ?_, fun i hi => ?_⟩
          · rw [t0, t13]
            by_cases h : j = c
            · rw [if_pos h, if_pos h]
            · rw [if_neg h, if_neg h]; exact g3
          · rw [t7, t14 j i hi]
            by_cases h : j = c ∧ i = k2
            · exact ⟨qh - m, by omega, by rw [if_pos h], by rw [if_pos h]⟩
            · rw [if_neg h, if_neg h]; exact g4 i hi
        · rw [t13, if_neg (by omega)]; exact e.2 j h1 h2
        · refine ⟨fun j hj hl => ?_, g.2.1, fun j => ?_, fun j hj => ?_, fun i j hi hj hij h0 => ?_⟩
          · have := g.1 j hj hl
            rw [t13]
            show (if P 2 j 0 = c then (0 : Int32) else S 17 13 (P 2 j 0)) = 1
            rw [if_neg]
            · exact this
            · intro q; rw [q, g13] at this; exact absurd this (by decide)
          · rw [p16]
            by_cases h : j = b2
            · rw [if_pos h]; omega
            · rw [if_neg h]; exact g.2.2.1 j
          · rw [p16, t21]
            by_cases h : j = b2
            · rw [if_pos h, if_pos h]; exact Or.inl ⟨rfl, rfl⟩
            · rw [if_neg h, if_neg h]
              rcases g.2.2.2.1 j hj with h9 | ⟨c', hc', g1, g2, g3, g4⟩
              · exact Or.inl h9
              · have hne : c' ≠ c := fun q => by
                  have h0 : P 16 0 j ≠ 0 := by omega
                  exact g.2.2.2.2 j b2 hj hb h h0 (by omega)
                refine Or.inr ⟨c', hc', g1, g2, by rw [t13, if_neg hne]; exact g3, ?_⟩
                rw [t22, g4]
                exact cf_worthM_cong fun i hi => by rw [t14 c' i hi, if_neg (fun q => hne q.1)]
          · rw [p16] at h0 ⊢
            rw [p16]
            by_cases h : i = b2
            · rw [if_pos h] at h0; exact absurd rfl h0
            · rw [if_neg h] at h0 ⊢
              by_cases h' : j = b2
              · rw [if_pos h']; exact h0
              · rw [if_neg h']; exact g.2.2.2.2 i j hi hj hij h0

theorem cf_sim_go {n nc ng : Nat} {S : cf_S} {P : cf_Pt} {O : Nat → Int64} {ad : cf_Ad} {x : Int32} (hR : cf_R n nc ng S P) {r : Int32} {u : cf_St} (hL : (r = 1 ∧ ¬ (cf_lv P x) ∧ u = (nc, ng, S, P, O, ad)) ∨ (r = 0 ∧ ∃ v : Int32, ∃ T : cf_S × cf_Pt, (∃ gp : Nat, gp < 60 ∧ x = nI gp ∧ P 15 0 gp = gp + 1 ∧ gp < ng ∧ v = S 5 0 2 - S 2 gp 0 ∧ T = (cf_s3 (cf_s3 (cf_s3 S 3 (P 2 gp 1) 1 (-1)) 0 (P 2 gp 0) 0 0) 1 (P 0 (P 2 gp 0) 0) 3 (S 1 (P 0 (P 2 gp 0) 0) 3 + 1), cf_p3 P 15 0 gp 0)) ∧ u = (nc, ng, T.1, T.2, vp_updL O 0 v.toInt64, ad))) {v2 : Int32} {T : cf_S} (hM : (¬ cf_lvM u.2.2.1 u.2.1 x ∧ T = (cf_s3 u.2.2.1 6 0 23 1)) ∨ ∃ j : Nat, j < u.2.1 ∧ x = nI j ∧ u.2.2.1 17 20 j = 0 ∧ v2 = u.2.2.1 6 0 0 - u.2.2.1 17 19 j ∧ T = (cf_s3 (cf_s3 (cf_s3 (cf_s3 (cf_s3 u.2.2.1 6 0 23 0) 17 20 j 1) 17 8 (P 2 j 1) 0) 17 13 (P 2 j 0) 0) 17 6 (u.2.2.2.1 0 (P 2 j 0) 0) ((u.2.2.1 17 6 (u.2.2.2.1 0 (P 2 j 0) 0)) + 1))) : T 6 0 23 = r ∧ (r = 0 → u.2.2.2.2.1 0 = v2.toInt64) ∧ cf_R (n + 1) u.1 u.2.1 T u.2.2.2.1 := by
  have hn15 := hR.1.1
  have hn60 := hR.1.2.1
  rcases hL with ⟨rfl, h1, rfl⟩ | ⟨rfl, v, Tc, ⟨gp, hg60, hx, hP, hg, hv, rfl⟩, rfl⟩
  · dsimp only at hM
    rcases hM with ⟨-, rfl⟩ | ⟨j, hj, hx, h0, -⟩
    · exact ⟨cf_s3s, cf_no (by decide), hR.th⟩
    · exact absurd ((hR.lv x).mpr ⟨j, hj, hx, h0⟩) h1
  · dsimp only at hM
    rcases hM with ⟨h, -⟩ | ⟨j, hj, hx2, h0, hv2, rfl⟩
    · exact absurd ((hR.lv x).mp ⟨gp, hg60, hx, by omega⟩) h
    · have e1 : j = gp := cf_nI_inj (by omega) (by omega) (hx2.symm.trans hx)
      subst e1
      obtain ⟨a, b, c, d, e, f, g⟩ := hR
      obtain ⟨f1, f2, f3, f4, f5, f6, f7⟩ := f.1 j hg
      obtain ⟨e1, e2, e3, e4⟩ := e.1 (P 2 j 0) f1
      obtain ⟨t, ht, hn1, hn2⟩ := a.2.2.2.2.2.2.1
      have c13 : S 17 13 (P 2 j 0) = 1 := g.1 j hg (by omega)
      refine ⟨rfl, fun _ => cf_vpe O (v := v) ?_, ?_⟩
      · rw [hv, hv2, hn1, f3]
        show S 6 0 0 - S 17 19 j = _
        rw [hn2]
      have p15 : ∀ i, cf_p3 P 15 0 j 0 15 0 i = if i = j then 0 else P 15 0 i := fun i => by by_cases h : i = j <;> simp [cf_p3, cf_g2, cf_u, h]
      generalize hT : cf_s3 (cf_s3 (cf_s3 (cf_s3 (cf_s3 (cf_s3 (cf_s3 (cf_s3 S 3 (P 2 j 1) 1 (-1)) 0 (P 2 j 0) 0 0) 1 (P 0 (P 2 j 0) 0) 3 (S 1 (P 0 (P 2 j 0) 0) 3 + 1)) 6 0 23 0) 17 20 j 1) 17 8 (P 2 j 1) 0) 17 13 (P 2 j 0) 0) 17 6 (cf_p3 P 15 0 j 0 0 (P 2 j 0) 0) (cf_s3 (cf_s3 (cf_s3 S 3 (P 2 j 1) 1 (-1)) 0 (P 2 j 0) 0 0) 1 (P 0 (P 2 j 0) 0) 3 (S 1 (P 0 (P 2 j 0) 0) 3 + 1) 17 6 (cf_p3 P 15 0 j 0 0 (P 2 j 0) 0) + 1) = T
      show cf_R (n + 1) nc ng T (cf_p3 P 15 0 j 0)
      have pg : cf_p3 P 15 0 j 0 0 (P 2 j 0) 0 = P 0 (P 2 j 0) 0 := rfl
      rw [pg] at hT
      have t13 : ∀ i, T 17 13 i = if i = P 2 j 0 then 0 else S 17 13 i := fun i => by subst hT; by_cases h : i = P 2 j 0 <;> simp [cf_s3, cf_g2, upd, h]
      have t0 : ∀ i, T 0 i 0 = if i = P 2 j 0 then 0 else S 0 i 0 := fun i => by subst hT; by_cases h : i = P 2 j 0 <;> simp [cf_s3, cf_g2, upd, h]
      have t8 : ∀ i, T 17 8 i = if i = P 2 j 1 then 0 else S 17 8 i := fun i => by subst hT; by_cases h : i = P 2 j 1 <;> simp [cf_s3, cf_g2, upd, h]
      have t31 : ∀ i, T 3 i 1 = if i = P 2 j 1 then -1 else S 3 i 1 := fun i => by subst hT; by_cases h : i = P 2 j 1 <;> simp [cf_s3, cf_g2, upd, h]
      have t30 : ∀ i, T 3 i 0 = S 3 i 0 := fun i => by subst hT; by_cases h : i = P 2 j 1 <;> simp [cf_s3, cf_g2, upd, h]
      have t20 : ∀ i, T 17 20 i = if i = j then 1 else S 17 20 i := fun i => by subst hT; by_cases h : i = j <;> simp [cf_s3, cf_g2, upd, h]
      have t6 : ∀ i, T 17 6 i = if i = P 0 (P 2 j 0) 0 then S 17 6 i + 1 else S 17 6 i := fun i => by subst hT; by_cases h : i = P 0 (P 2 j 0) 0 <;> simp [cf_s3, cf_g2, upd, h]
      have t13g : ∀ i, T 1 i 3 = if i = P 0 (P 2 j 0) 0 then S 1 i 3 + 1 else S 1 i 3 := fun i => by subst hT; by_cases h : i = P 0 (P 2 j 0) 0 <;> simp [cf_s3, cf_g2, upd, h]
      have t1k : ∀ i k, k < 3 → T 1 i k = S 1 i k := fun i k hk => by
        have hk3 : k ≠ 3 := by omega
        subst hT; by_cases h : i = P 0 (P 2 j 0) 0 <;> simp [cf_s3, cf_g2, upd, h, hk3]
      refine ⟨by subst hT; exact a, ⟨fun i hi => ?_, by subst hT; exact b.2⟩, fun i hi => ?_, by subst hT; exact d, ⟨fun i hi => ?_, fun i h1 h2 => ?_⟩, ⟨fun i hi => ?_, fun i hi => ?_, fun i hi hi2 => ?_⟩, fun i hi hl => ?_, fun i k hi hk h1 h2 hne => ?_, g.2.2.1, fun q hq => ?_, g.2.2.2.2⟩
      · obtain ⟨b1, b2, b3, b4, q, hq, b5, b6⟩ := b.1 i hi
        refine ⟨by rw [t1k i 0 (by decide)]; subst hT; exact b1, by rw [t1k i 1 (by decide)]; subst hT; exact b2, by rw [t1k i 2 (by decide)]; subst hT; exact b3, by subst hT; exact b4, ?_⟩
        rw [t13g, t6, b5, b6]
        by_cases h : i = P 0 (P 2 j 0) 0
        · rw [if_pos h]; exact ⟨q + 1, by omega, nI_1 q, nI_1 q⟩
        · rw [if_neg h]; exact ⟨q, by omega, rfl, rfl⟩
      · obtain ⟨c1, q, hq, c2, c3⟩ := c i hi
        refine ⟨by rw [t30]; subst hT; exact c1, ?_⟩
        rw [t8, t31]
        by_cases h : i = P 2 j 1
        · rw [if_pos h, if_pos h]; exact ⟨0, by decide, rfl, rfl⟩
        · rw [if_neg h, if_neg h]; exact ⟨q, hq, c2, c3⟩
      · obtain ⟨g1, g2, g3, g4⟩ := e.1 i hi
        refine ⟨g1, by subst hT; exact g2, ?_, by subst hT; exact g4⟩
        rw [t0, t13]
        by_cases h : i = P 2 j 0
        · rw [if_pos h, if_pos h]
        · rw [if_neg h, if_neg h]; exact g3
      · rw [t13]
        by_cases h : i = P 2 j 0
        · rw [if_pos h]
        · rw [if_neg h]; exact e.2 i h1 h2
      · obtain ⟨k1, k2, k3, k4, k5, k6, k7⟩ := f.1 i hi
        refine ⟨k1, k2, by subst hT; exact k3, by subst hT; exact k4, by subst hT; exact k5, by subst hT; exact k6, ?_⟩
        rw [t20, p15]
        by_cases h : i = j
        · rw [if_pos h, if_pos h]; exact Or.inr ⟨rfl, rfl⟩
        · rw [if_neg h, if_neg h]; exact k7
      · rw [p15]
        by_cases h : i = j
        · rw [if_pos h]
        · rw [if_neg h]; exact f.2.1 i hi
      · rw [t20, if_neg (by omega)]; exact f.2.2 i hi hi2
      · rw [p15] at hl
        by_cases h : i = j
        · rw [if_pos h] at hl; exact absurd rfl hl
        · rw [if_neg h] at hl
          rw [t13]
          show (if P 2 i 0 = P 2 j 0 then (0 : Int32) else S 17 13 (P 2 i 0)) = 1
          rw [if_neg (g.2.1 i j hi hg hl (by omega) h)]
          exact g.1 i hi hl
      · rw [p15] at h1 h2
        by_cases hij : i = j
        · rw [if_pos hij] at h1; exact absurd rfl h1
        · by_cases hkj : k = j
          · rw [if_pos hkj] at h2; exact absurd rfl h2
          · rw [if_neg hij] at h1; rw [if_neg hkj] at h2
            exact g.2.1 i k hi hk h1 h2 hne
      · rcases g.2.2.2.1 q hq with h9 | ⟨c', hc', g1, g2, g3, g4⟩
        · exact Or.inl (by subst hT; exact h9)
        · have hne : c' ≠ P 2 j 0 := fun q => by rw [q, c13] at g3; exact absurd g3 (by decide)
          exact Or.inr ⟨c', hc', g1, by subst hT; exact g2, by rw [t13, if_neg hne]; exact g3, by subst hT; exact g4⟩
