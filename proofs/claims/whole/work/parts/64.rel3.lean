theorem cf_worth_eq {f g : Nat → Int32} (h : ∀ k, k < 4 → f k = g k) : cf_worth f = cf_worthM g := by
  unfold cf_worth cf_worthM
  rw [h 0 (by decide), h 1 (by decide), h 2 (by decide), h 3 (by decide), Int32.mul_comm (g 0), Int32.mul_comm (g 1), Int32.mul_comm (g 2), Int32.mul_comm (g 3)]
theorem cf_worthM_cong {f g : Nat → Int32} (h : ∀ k, k < 4 → f k = g k) : cf_worthM f = cf_worthM g := by
  unfold cf_worthM
  rw [h 0 (by decide), h 1 (by decide), h 2 (by decide), h 3 (by decide)]
theorem cf_R.worth {n nc ng : Nat} {S : cf_S} {P : cf_Pt} (h : cf_R n nc ng S P) {c : Nat} (hc : c < nc) : cf_worth (S 7 c) = cf_worthM (fun k => S 17 14 (4 * c + k)) := cf_worth_eq fun k hk => by
  obtain ⟨q, -, e1, e2⟩ := (h.2.2.2.2.1.1 c hc).2.2.2 k hk
  rw [e1, e2]
theorem cf_le0 {q : Nat} (hq : q < 2 ^ 31) (h : nI q ≤ 0) : q = 0 := by
  rcases Nat.eq_zero_or_pos q with h9 | h9
  · exact h9
  · exact absurd (show nI 0 < nI q from nI_lt h9 hq) (Int32.not_lt.mpr h)
theorem cf_leN {a b : Nat} (ha : a < 2 ^ 31) (hb : b < 2 ^ 31) (h : nI a ≤ nI b) : a ≤ b := by
  rcases Nat.lt_or_ge b a with h9 | h9
  · exact absurd (nI_lt h9 ha) (Int32.not_lt.mpr h)
  · exact h9
theorem cf_sim_buy {n nc ng : Nat} {S : cf_S} {P : cf_Pt} {O : Nat → Int64} {ad : cf_Ad} {x : Int32} (hR : cf_R n nc ng S P) {r : Int32} {u : cf_St} (hL : (r = 1 ∧ ¬ (cf_ix x 5) ∧ u = (nc, ng, S, P, O, ad)) ∨ (r = 2 ∧ (cf_ix x 5) ∧ ¬ (nc < 15) ∧ u = (nc, ng, S, P, O, ad)) ∨ (r = 0 ∧ ∃ v : Int32, ∃ T : cf_S × cf_Pt × cf_Ad, (∃ gm : Nat, gm < 5 ∧ x = nI gm ∧ nc < 15 ∧ v = nI nc ∧ T.1 = cf_s3 (cf_buyS S nc gm) 5 0 0 (nI nc + 1) ∧ T.2.1 = cf_buyP P nc gm ∧ ∀ k i, k ≠ 0 → k ≠ 7 → T.2.2 k i = ad k i) ∧ u = ((nc + 1), ng, T.1, T.2.1, vp_updL O 0 v.toInt64, T.2.2))) {v2 : Int32} {T : cf_S} (hM : (¬ cf_ix x 5 ∧ T = (cf_s3 u.2.2.1 6 0 23 1)) ∨ (cf_ix x 5 ∧ nc = 15 ∧ T = (cf_s3 u.2.2.1 6 0 23 2)) ∨ ∃ gm : Nat, gm < 5 ∧ x = nI gm ∧ nc < 15 ∧ v2 = nI nc ∧ T = (cf_s3 (cf_s3 (cf_s3 (cf_s3 (cf_s3 (cf_s3 (cf_s3 u.2.2.1 6 0 23 0) 17 12 nc x) 17 14 (4 * nc + 0) (u.2.2.1 17 4 (4 * gm + 0))) 17 14 (4 * nc + 1) (u.2.2.1 17 4 (4 * gm + 1))) 17 14 (4 * nc + 2) (u.2.2.1 17 4 (4 * gm + 2))) 17 14 (4 * nc + 3) (u.2.2.1 17 4 (4 * gm + 3))) 6 0 11 ((nI nc) + 1))) : T 6 0 23 = r ∧ (r = 0 → u.2.2.2.2.1 0 = v2.toInt64) ∧ cf_R (n + 1) u.1 u.2.1 T u.2.2.2.1 := by
  rcases hL with ⟨rfl, h1, rfl⟩ | ⟨rfl, h1, h2, rfl⟩ | ⟨rfl, v, ⟨S1, P1, ad1⟩, ⟨gm, hg, hx, hlt, hv, hS1, hP1, hag⟩, rfl⟩
  · dsimp only at hM
    rcases hM with ⟨-, rfl⟩ | ⟨h, -⟩ | ⟨j, hj, hx, -⟩
    · exact ⟨cf_s3s, cf_no (by decide), hR.th⟩
    · exact absurd h h1
    · exact absurd ⟨j, hj, hx⟩ h1
  · dsimp only at hM
    rcases hM with ⟨h, -⟩ | ⟨-, -, rfl⟩ | ⟨j, hj, hx, h, -⟩
    · exact absurd h1 h
    · exact ⟨cf_s3s, cf_no (by decide), hR.th⟩
    · exact absurd h h2
  · dsimp only at hM hS1 hP1
    subst hS1; subst hP1
    rcases hM with ⟨h, -⟩ | ⟨-, h, -⟩ | ⟨g2, hg2, hx2, -, hv2, rfl⟩
    · exact absurd ⟨gm, hg, hx⟩ h
    · omega
    · have e1 : g2 = gm := cf_nI_inj (by omega) (by omega) (hx2.symm.trans hx)
      subst e1
      refine ⟨rfl, fun _ => cf_vpe O (v := v) (by rw [hv, hv2]), ?_⟩
      obtain ⟨a, b, c, d, e, f, g⟩ := hR
      obtain ⟨a1, a2, a3, a4, a5, a6, a7, a8⟩ := a
      generalize hT : cf_s3 (cf_s3 (cf_s3 (cf_s3 (cf_s3 (cf_s3 (cf_s3 (cf_s3 (cf_buyS S nc g2) 5 0 0 (nI nc + 1)) 6 0 23 0) 17 12 nc x) 17 14 (4 * nc + 0) (cf_s3 (cf_buyS S nc g2) 5 0 0 (nI nc + 1) 17 4 (4 * g2 + 0))) 17 14 (4 * nc + 1) (cf_s3 (cf_buyS S nc g2) 5 0 0 (nI nc + 1) 17 4 (4 * g2 + 1))) 17 14 (4 * nc + 2) (cf_s3 (cf_buyS S nc g2) 5 0 0 (nI nc + 1) 17 4 (4 * g2 + 2))) 17 14 (4 * nc + 3) (cf_s3 (cf_buyS S nc g2) 5 0 0 (nI nc + 1) 17 4 (4 * g2 + 3))) 6 0 11 (nI nc + 1) = T
      show cf_R (n + 1) (nc + 1) ng T (cf_buyP P nc g2)
      have t12 : ∀ j, T 17 12 j = if j = nc then x else S 17 12 j := fun j => by subst hT; by_cases h : j = nc <;> simp [cf_s3, cf_g2, upd, cf_buyS, h]
      have t14 : ∀ j, (∀ k, k < 4 → j ≠ 4 * nc + k) → T 17 14 j = S 17 14 j := fun j hj => by
        have n0 := hj 0 (by decide); have n1 := hj 1 (by decide); have n2 := hj 2 (by decide); have n3 := hj 3 (by decide)
        subst hT; rw [cf_s3n (by simp), cf_s3n (fun q => n3 q.2.2), cf_s3n (fun q => n2 q.2.2), cf_s3n (fun q => n1 q.2.2), cf_s3n (fun q => n0 q.2.2)]; rfl
      have t14n : ∀ k, k < 4 → T 17 14 (4 * nc + k) = S 17 4 (4 * g2 + k) := fun k hk => by
        subst hT
        match k, hk with
        | 0, _ => rw [cf_s3n (by simp), cf_s3n (by simp), cf_s3n (by simp), cf_s3n (by simp), cf_s3s]; rfl
        | 1, _ => rw [cf_s3n (by simp), cf_s3n (by simp), cf_s3n (by simp), cf_s3s]; rfl
        | 2, _ => rw [cf_s3n (by simp), cf_s3n (by simp), cf_s3s]; rfl
        | 3, _ => rw [cf_s3n (by simp), cf_s3s]; rfl
      have t0 : ∀ j, j ≠ nc → T 0 j = S 0 j := fun j hj => by subst hT; funext i; simp [cf_s3, cf_g2, upd, cf_buyS, hj]
      have t7 : ∀ j, j ≠ nc → T 7 j = S 7 j := fun j hj => by subst hT; funext i; simp [cf_s3, cf_g2, upd, cf_buyS, hj]
      have t0n : T 0 nc 0 = 0 := by subst hT; simp [cf_s3, cf_g2, upd, cf_buyS]
      have t7n : T 7 nc = S 8 g2 := by subst hT; funext i; simp [cf_s3, cf_g2, upd, cf_buyS]
      have p0 : ∀ j, j ≠ nc → cf_buyP P nc g2 0 j = P 0 j := fun j hj => by funext i; simp [cf_buyP, cf_p3, cf_g2, cf_u, hj]
      have p0n : cf_buyP P nc g2 0 nc 0 = g2 := by simp [cf_buyP, cf_g2]
      have p14 : ∀ j, cf_buyP P nc g2 14 0 j = if j = nc then nc + 1 else P 14 0 j := fun j => by by_cases h : j = nc <;> simp [cf_buyP, cf_p3, cf_g2, cf_u, h]
      have k13 : T 17 13 = S 17 13 := by subst hT; rfl
      have k21 : T 17 21 = S 17 21 := by subst hT; rfl
      have k22 : T 17 22 = S 17 22 := by subst hT; rfl
      refine ⟨⟨hlt, a2, by subst hT; exact nI_1 nc, by subst hT; exact a4, by subst hT; exact nI_1 nc, by subst hT; exact a6, by subst hT; exact a7, fun j => ?_⟩, by subst hT; exact b.up, by subst hT; exact c, by subst hT; exact d, ⟨fun j hj => ?_, fun j hj hj2 => ?_⟩, ?_, ?_⟩
      · rw [p14]
        by_cases h : j = nc
        · rw [if_pos h, if_pos (by omega), h]
        · rw [if_neg h, a8]
          by_cases h2 : j < nc
          · rw [if_pos h2, if_pos (by omega)]
          · rw [if_neg h2, if_neg (by omega)]
      · by_cases h : j = nc
        · subst h
          refine ⟨by rw [p0n]; exact hg, by rw [t12, if_pos rfl, p0n, hx], by rw [t0n, k13, e.2 j (Nat.le_refl j) (by omega)], fun k hk => ?_⟩
          obtain ⟨e3, -, q, hq, e4⟩ := b.2 g2 k hg hk
          exact ⟨q, by omega, by rw [t7n, e4], by rw [t14n k hk, ← e3, e4]⟩
        · obtain ⟨e1, e2, e3, e4⟩ := e.1 j (by omega)
          refine ⟨by rw [p0 j h]; exact e1, by rw [t12, if_neg h, p0 j h]; exact e2, by rw [t0 j h, k13]; exact e3, fun k hk => ?_⟩
          obtain ⟨q, hq, e5, e6⟩ := e4 k hk
          exact ⟨q, hq, by rw [t7 j h]; exact e5, by rw [t14 _ (fun i hi => by omega)]; exact e6⟩
      · rw [k13]; exact e.2 j (by omega) hj2
      · refine ⟨fun j hj => ?_, f.2.1, by subst hT; exact f.2.2⟩
        obtain ⟨f1, f2⟩ := f.1 j hj
        exact ⟨Nat.lt_succ_of_lt f1, by subst hT; exact f2⟩
      · refine ⟨by rw [k13]; exact g.1, g.2.1, fun b => Nat.le_succ_of_le (g.2.2.1 b), fun b hb => ?_, g.2.2.2.2⟩
        rcases g.2.2.2.1 b hb with h | ⟨c, hc, g1, g2', g3, g4⟩
        · exact Or.inl ⟨h.1, by rw [k21]; exact h.2⟩
        · refine Or.inr ⟨c, by omega, g1, by rw [k21]; exact g2', by rw [k13]; exact g3, ?_⟩
          rw [k22, g4]
          exact cf_worthM_cong fun k hk => (t14 _ (fun i hi => by omega)).symm

theorem cf_sim_count {n nc ng : Nat} {S : cf_S} {P : cf_Pt} {O : Nat → Int64} {ad : cf_Ad} {x y a1 : Int32} (hR : cf_R n nc ng S P) {r : Int32} {u : cf_St} (hL : (r = 1 ∧ ¬ (cf_ix x nc ∧ cf_ix y 4) ∧ u = (nc, ng, S, P, O, ad)) ∨ (r = 2 ∧ (cf_ix x nc ∧ cf_ix y 4) ∧ ¬ (cf_rg a1 (-20) 20) ∧ u = (nc, ng, S, P, O, ad)) ∨ (r = 3 ∧ (cf_ix x nc ∧ cf_ix y 4) ∧ (cf_rg a1 (-20) 20) ∧ ¬ (∀ cp k : Nat, x = nI cp → cp < nc → y = nI k → k < 4 → S 0 cp 0 ≠ 2 ∧ cf_rg (S 7 cp k + a1) 0 40) ∧ u = (nc, ng, S, P, O, ad)) ∨ (r = 0 ∧ ∃ v : Int32, ∃ T : cf_S, (∃ cp k : Nat, cp < nc ∧ x = nI cp ∧ k < 4 ∧ y = nI k ∧ (cf_rg a1 (-20) 20) ∧ S 0 cp 0 ≠ 2 ∧ cf_rg (S 7 cp k + a1) 0 40 ∧ v = S 7 cp k + a1 ∧ T = cf_s3 S 7 cp k (S 7 cp k + a1)) ∧ u = (nc, ng, T, P, vp_updL O 0 v.toInt64, ad))) {v2 : Int32} {T : cf_S} (hM : (¬ (cf_ix x u.1 ∧ cf_ix y 4) ∧ T = (cf_s3 u.2.2.1 6 0 23 1)) ∨ ((cf_ix x u.1 ∧ cf_ix y 4) ∧ ¬ (cf_rg a1 (-20) 20) ∧ T = (cf_s3 u.2.2.1 6 0 23 2)) ∨ ∃ cp k : Nat, cp < u.1 ∧ x = nI cp ∧ k < 4 ∧ y = nI k ∧ (cf_rg a1 (-20) 20) ∧ ((¬ (¬ u.2.2.1 17 13 cp = 2 ∧ cf_rg (u.2.2.1 17 14 (4 * cp + k) + a1) 0 40) ∧ T = cf_s3 (cf_s3 u.2.2.1 6 0 23 0) 6 0 23 3) ∨ (¬ u.2.2.1 17 13 cp = 2 ∧ cf_rg (u.2.2.1 17 14 (4 * cp + k) + a1) 0 40 ∧ v2 = u.2.2.1 17 14 (4 * cp + k) + a1 ∧ T = cf_s3 (cf_s3 u.2.2.1 6 0 23 0) 17 14 (4 * cp + k) (u.2.2.1 17 14 (4 * cp + k) + a1)))) : T 6 0 23 = r ∧ (r = 0 → u.2.2.2.2.1 0 = v2.toInt64) ∧ cf_R (n + 1) u.1 u.2.1 T u.2.2.2.1 := by
  rcases hL with ⟨rfl, h1, rfl⟩ | ⟨rfl, h1, h2, rfl⟩ | ⟨rfl, h1, h2, h3, rfl⟩ | ⟨rfl, v, Tc, ⟨cp, k, hc, hx, hk, hy, hr, hp, hn, hv, rfl⟩, rfl⟩
  · dsimp only at hM
    rcases hM with ⟨-, rfl⟩ | ⟨h, -⟩ | ⟨cp, k, hc, hx, hk, hy, -⟩
    · exact ⟨cf_s3s, cf_no (by decide), hR.th⟩
    · exact absurd h h1
    · exact absurd ⟨⟨cp, hc, hx⟩, ⟨k, hk, hy⟩⟩ h1
  · dsimp only at hM
    rcases hM with ⟨h, -⟩ | ⟨-, -, rfl⟩ | ⟨cp, k, hc, hx, hk, hy, h, -⟩
    · exact absurd h1 h
    · exact ⟨cf_s3s, cf_no (by decide), hR.th⟩
    · exact absurd h h2
  · dsimp only at hM
    rcases hM with ⟨h, -⟩ | ⟨-, h, -⟩ | ⟨cp, k, hc, hx, hk, hy, -, ⟨-, rfl⟩ | ⟨h4, h5, -⟩⟩
    · exact absurd h1 h
    · exact absurd h2 h
    · exact ⟨cf_s3s, cf_no (by decide), hR.th2⟩
    · refine absurd (fun c2 k2 hx2 hc2 hy2 hk2 => ?_) h3
      have hn := hR.1.1
      have e1 : c2 = cp := cf_nI_inj (by omega) (by omega) (hx2.symm.trans hx)
      have e2 : k2 = k := cf_nI_inj (by omega) (by omega) (hy2.symm.trans hy)
      subst e1; subst e2
      obtain ⟨-, -, e3, e4⟩ := hR.2.2.2.2.1.1 c2 hc
      obtain ⟨q, hq, e5, e6⟩ := e4 k2 hk
      rw [e3, e5, ← e6]
      exact ⟨h4, h5⟩
  · dsimp only at hM
    have hn15 := hR.1.1
    obtain ⟨-, -, e3, e4⟩ := hR.2.2.2.2.1.1 cp hc
    obtain ⟨q, hq, e5, e6⟩ := e4 k hk
    rcases hM with ⟨h, -⟩ | ⟨-, h, -⟩ | ⟨c2, k2, hc2, hx2, hk2, hy2, -, hM⟩
    · exact absurd ⟨⟨cp, hc, hx⟩, ⟨k, hk, hy⟩⟩ h
    · exact absurd hr h
    · have e1 : c2 = cp := cf_nI_inj (by omega) (by omega) (hx2.symm.trans hx)
      have e2 : k2 = k := cf_nI_inj (by omega) (by omega) (hy2.symm.trans hy)
      subst e1; subst e2
      have e7 : cf_s3 S 7 c2 k2 (S 7 c2 k2 + a1) 17 14 (4 * c2 + k2) = S 7 c2 k2 := (show S 17 14 (4 * c2 + k2) = _ from e6.trans e5.symm)
      have e8 : cf_s3 S 7 c2 k2 (S 7 c2 k2 + a1) 17 13 c2 = S 0 c2 0 := e3.symm
      rw [e7, e8] at hM
      rcases hM with ⟨h, -⟩ | ⟨-, -, hv2, rfl⟩
      · exact absurd ⟨hp, hn⟩ h
      · refine ⟨rfl, fun _ => cf_vpe O (v := v) (by rw [hv, hv2]), ?_⟩
        obtain ⟨a, b, c, d, e, f, g⟩ := hR
        generalize hT : cf_s3 (cf_s3 (cf_s3 S 7 c2 k2 (S 7 c2 k2 + a1)) 6 0 23 0) 17 14 (4 * c2 + k2) (S 7 c2 k2 + a1) = T
        obtain ⟨q2, hq2, e9⟩ := cf_rgN (m := 40) (by decide) (by decide) hn
        have t14 : ∀ j i, i < 4 → T 17 14 (4 * j + i) = if j = c2 ∧ i = k2 then nI q2 else S 17 14 (4 * j + i) := fun j i hi => by
          subst hT
          by_cases h : j = c2 ∧ i = k2
          · obtain ⟨rfl, rfl⟩ := h
            rw [cf_s3s, if_pos ⟨rfl, rfl⟩, e9]
          · rw [if_neg h, cf_s3n (fun q => h ((cf_4 hi hk).mp q.2.2))]; rfl
        have t7 : ∀ j i, T 7 j i = if j = c2 ∧ i = k2 then nI q2 else S 7 j i := fun j i => by
          subst hT
          by_cases h : j = c2 ∧ i = k2
          · obtain ⟨rfl, rfl⟩ := h
            rw [if_pos ⟨rfl, rfl⟩, cf_s3n (by simp), cf_s3n (by simp), cf_s3s, e9]
          · rw [if_neg h, cf_s3n (by simp), cf_s3n (by simp), cf_s3n (fun q => h q.2)]
        refine ⟨by subst hT; exact a, by subst hT; exact b.up, by subst hT; exact c, by subst hT; exact d, ⟨fun j hj => ?_, by subst hT; exact e.2⟩, by subst hT; exact f, ?_⟩
        · obtain ⟨g1, g2, g3, g4⟩ := e.1 j hj
          refine ⟨g1, by subst hT; exact g2, by subst hT; exact g3, fun i hi => ?_⟩
          rw [t7, t14 j i hi]
          by_cases h : j = c2 ∧ i = k2
          · exact ⟨q2, hq2, by rw [if_pos h], by rw [if_pos h]⟩
          · rw [if_neg h, if_neg h]; exact g4 i hi
        · refine ⟨by subst hT; exact g.1, g.2.1, g.2.2.1, fun b hb => ?_, g.2.2.2.2⟩
          rcases g.2.2.2.1 b hb with h | ⟨c, hc, g1, g2, g3, g4⟩
          · exact Or.inl (by subst hT; exact h)
          · refine Or.inr ⟨c, hc, g1, by subst hT; exact g2, by subst hT; exact g3, ?_⟩
            have hne : c ≠ c2 := fun q => hp (by rw [e3, ← q]; exact g3)
            have e10 : T 17 22 b = S 17 22 b := by subst hT; rfl
            rw [e10, g4]
            exact cf_worthM_cong fun i hi => by rw [t14 c i hi, if_neg (fun q => hne q.1)]

theorem cf_sim_lend {n nc ng : Nat} {S : cf_S} {P : cf_Pt} {O : Nat → Int64} {ad : cf_Ad} {x y : Int32} (hR : cf_R n nc ng S P) {r : Int32} {u : cf_St} (hL : (r = 1 ∧ ¬ (cf_ix x nc ∧ cf_ix y 6) ∧ u = (nc, ng, S, P, O, ad)) ∨ (r = 2 ∧ (cf_ix x nc ∧ cf_ix y 6) ∧ ¬ (∀ cp b : Nat, x = nI cp → cp < nc → y = nI b → b < 6 → S 0 cp 0 = 0 ∧ P 16 0 b = 0) ∧ u = (nc, ng, S, P, O, ad)) ∨ (r = 0 ∧ ∃ v : Int32, ∃ T : cf_S × cf_Pt, (∃ cp b : Nat, cp < nc ∧ x = nI cp ∧ b < 6 ∧ y = nI b ∧ S 0 cp 0 = 0 ∧ P 16 0 b = 0 ∧ v = cf_worth (S 7 cp) ∧ T = (cf_s3 S 0 cp 0 2, cf_p3 P 16 0 b (cp + 1))) ∧ u = (nc, ng, T.1, T.2, vp_updL O 0 v.toInt64, ad))) {v2 : Int32} {T : cf_S} (hM : (¬ (cf_ix x u.1 ∧ cf_ix y 6) ∧ T = (cf_s3 u.2.2.1 6 0 23 1)) ∨ ∃ cp b : Nat, cp < u.1 ∧ x = nI cp ∧ b < 6 ∧ y = nI b ∧ ((¬ (u.2.2.1 17 13 cp = 0 ∧ u.2.2.1 17 21 b ≤ 0) ∧ T = (cf_s3 u.2.2.1 6 0 23 2)) ∨ (u.2.2.1 17 13 cp = 0 ∧ u.2.2.1 17 21 b ≤ 0 ∧ v2 = (cf_worthM (fun k => u.2.2.1 17 14 (4 * cp + k))) ∧ T = cf_s3 (cf_s3 (cf_s3 (cf_s3 u.2.2.1 6 0 23 0) 17 13 cp 2) 17 21 b (x + 1)) 17 22 b (cf_worthM (fun k => u.2.2.1 17 14 (4 * cp + k)))))) : T 6 0 23 = r ∧ (r = 0 → u.2.2.2.2.1 0 = v2.toInt64) ∧ cf_R (n + 1) u.1 u.2.1 T u.2.2.2.1 := by
  have hn15 := hR.1.1
  rcases hL with ⟨rfl, h1, rfl⟩ | ⟨rfl, h1, h2, rfl⟩ | ⟨rfl, v, Tc, ⟨cp, b, hc, hx, hb, hy, hp, hP, hv, rfl⟩, rfl⟩
  · dsimp only at hM
    rcases hM with ⟨-, rfl⟩ | ⟨cp, b, hc, hx, hb, hy, -⟩
    · exact ⟨cf_s3s, cf_no (by decide), hR.th⟩
    · exact absurd ⟨⟨cp, hc, hx⟩, ⟨b, hb, hy⟩⟩ h1
  · dsimp only at hM
    rcases hM with ⟨h, -⟩ | ⟨cp, b, hc, hx, hb, hy, ⟨-, rfl⟩ | ⟨h4, h5, -⟩⟩
    · exact absurd h1 h
    · exact ⟨cf_s3s, cf_no (by decide), hR.th⟩
    · refine absurd (fun c2 b2 hx2 hc2 hy2 hb2 => ?_) h2
      have e1 : c2 = cp := cf_nI_inj (by omega) (by omega) (hx2.symm.trans hx)
      have e2 : b2 = b := cf_nI_inj (by omega) (by omega) (hy2.symm.trans hy)
      subst e1; subst e2
      refine ⟨by rw [(hR.2.2.2.2.1.1 c2 hc).2.2.1]; exact h4, ?_⟩
      rcases hR.2.2.2.2.2.2.2.2.2.1 b2 hb with h | ⟨c, hc, -, g2, -⟩
      · exact h.1
      · rw [g2] at h5
        have := cf_le0 (by omega) h5
        omega
  · dsimp only at hM
    have e3 := (hR.2.2.2.2.1.1 cp hc).2.2.1
    have h21 : S 17 21 b = 0 := by
      rcases hR.2.2.2.2.2.2.2.2.2.1 b hb with h | ⟨c, hc, g1, -⟩
      · exact h.2
      · omega
    rcases hM with ⟨h, -⟩ | ⟨c2, b2, hc2, hx2, hb2, hy2, hM⟩
    · exact absurd ⟨⟨cp, hc, hx⟩, ⟨b, hb, hy⟩⟩ h
    · have e1 : c2 = cp := cf_nI_inj (by omega) (by omega) (hx2.symm.trans hx)
      have e2 : b2 = b := cf_nI_inj (by omega) (by omega) (hy2.symm.trans hy)
      subst e1; subst e2
      rcases hM with ⟨h, -⟩ | ⟨-, -, hv2, rfl⟩
      · exact absurd ⟨show S 17 13 c2 = 0 by rw [← e3]; exact hp, show S 17 21 b2 ≤ 0 by rw [h21]; decide⟩ h
      · have hw := hR.worth hc
        refine ⟨rfl, fun _ => cf_vpe O (v := v) (by rw [hv, hv2, hw]; rfl), ?_⟩
        obtain ⟨a, bb, c, d, e, f, g⟩ := hR
        have p16 : ∀ j, cf_p3 P 16 0 b2 (c2 + 1) 16 0 j = if j = b2 then c2 + 1 else P 16 0 j := fun j => by by_cases h : j = b2 <;> simp [cf_p3, cf_g2, cf_u, h]
        have hx1 : x + 1 = nI (c2 + 1) := by rw [hx]; exact nI_1 c2
        generalize hT : cf_s3 (cf_s3 (cf_s3 (cf_s3 (cf_s3 S 0 c2 0 2) 6 0 23 0) 17 13 c2 2) 17 21 b2 (x + 1)) 17 22 b2 (cf_worthM fun k => cf_s3 S 0 c2 0 2 17 14 (4 * c2 + k)) = T
        show cf_R (n + 1) nc ng T (cf_p3 P 16 0 b2 (c2 + 1))
        have t13 : ∀ j, T 17 13 j = if j = c2 then 2 else S 17 13 j := fun j => by subst hT; by_cases h : j = c2 <;> simp [cf_s3, cf_g2, upd, h]
        have t0 : ∀ j, T 0 j 0 = if j = c2 then 2 else S 0 j 0 := fun j => by subst hT; by_cases h : j = c2 <;> simp [cf_s3, cf_g2, upd, h]
        have t21 : ∀ j, T 17 21 j = if j = b2 then nI (c2 + 1) else S 17 21 j := fun j => by subst hT; rw [hx1]; by_cases h : j = b2 <;> simp [cf_s3, cf_g2, upd, h]
        have t22 : ∀ j, T 17 22 j = if j = b2 then cf_worthM (fun k => S 17 14 (4 * c2 + k)) else S 17 22 j := fun j => by
          subst hT
          by_cases h : j = b2
          · rw [if_pos h, h, cf_s3s]; rfl
          · rw [if_neg h, cf_s3n (fun q => h q.2.2)]; rfl
        have t14 : T 17 14 = S 17 14 := by subst hT; rfl
        have c13 : S 17 13 c2 = 0 := by rw [← e3]; exact hp
        refine ⟨by subst hT; exact a, by subst hT; exact bb.up, by subst hT; exact c, by subst hT; exact d, ⟨fun j hj => ?_, fun j h1 h2 => ?_⟩, by subst hT; exact f, ?_⟩
        · obtain ⟨g1, g2, g3, g4⟩ := e.1 j hj
          refine ⟨g1, by subst hT; exact g2, ?_, by subst hT; exact g4⟩
          rw [t0, t13]
          by_cases h : j = c2
          · rw [if_pos h, if_pos h]
          · rw [if_neg h, if_neg h]; exact g3
        · rw [t13, if_neg (by omega)]; exact e.2 j h1 h2
        · refine ⟨fun j hj hl => ?_, g.2.1, fun j => ?_, fun j hj => ?_, fun i j hi hj hij h0 => ?_⟩
          · have := g.1 j hj hl
            rw [t13]
            show (if P 2 j 0 = c2 then (2 : Int32) else S 17 13 (P 2 j 0)) = 1
            rw [if_neg]
            · exact this
            · intro q; rw [q, c13] at this; exact absurd this (by decide)
          · rw [p16]
            by_cases h : j = b2
            · rw [if_pos h]; omega
            · rw [if_neg h]; exact g.2.2.1 j
          · rw [p16, t21]
            by_cases h : j = b2
            · rw [if_pos h, if_pos h]
              exact Or.inr ⟨c2, hc, rfl, rfl, by rw [t13, if_pos rfl], by rw [t22, if_pos h, t14]⟩
            · rw [if_neg h, if_neg h]
              rcases g.2.2.2.1 j hj with h9 | ⟨c', hc', g1, g2, g3, g4⟩
              · exact Or.inl h9
              · have hne : c' ≠ c2 := fun q => by rw [q, c13] at g3; exact absurd g3 (by decide)
                exact Or.inr ⟨c', hc', g1, g2, by rw [t13, if_neg hne]; exact g3, by rw [t22, if_neg h, t14]; exact g4⟩
          · rw [p16] at h0 ⊢
            rw [p16]
            have hfree : ∀ t, t < 6 → P 16 0 t ≠ c2 + 1 := by
              intro t ht q
              rcases g.2.2.2.1 t ht with h9 | ⟨c', hc', g1, g2, g3, g4⟩
              · omega
              · have : c' = c2 := by omega
                rw [this, c13] at g3; exact absurd g3 (by decide)
            by_cases h : i = b2
            · rw [if_pos h, if_neg (by omega)]; exact fun q => hfree j hj q.symm
            · rw [if_neg h] at h0 ⊢
              by_cases h' : j = b2
              · rw [if_pos h']; exact hfree i hi
              · rw [if_neg h']; exact g.2.2.2.2 i j hi hj hij h0
