theorem cf_sim_fill {n nc ng : Nat} {S : cf_S} {P : cf_Pt} {O : Nat → Int64} {ad : cf_Ad} {x y : Int32} (hR : cf_R n nc ng S P) {r : Int32} {u : cf_St} (hL : (r = 1 ∧ ¬ (cf_ix x nc ∧ cf_ix y nc) ∧ u = (nc, ng, S, P, O, ad)) ∨ (r = 2 ∧ (cf_ix x nc ∧ cf_ix y nc) ∧ ¬ (x ≠ y ∧ ∀ cp dp : Nat, x = nI cp → cp < nc → y = nI dp → dp < nc → P 0 cp 0 = P 0 dp 0) ∧ u = (nc, ng, S, P, O, ad)) ∨ (r = 3 ∧ (cf_ix x nc ∧ cf_ix y nc) ∧ (x ≠ y ∧ ∀ cp dp : Nat, x = nI cp → cp < nc → y = nI dp → dp < nc → P 0 cp 0 = P 0 dp 0) ∧ ¬ (∀ cp dp : Nat, x = nI cp → cp < nc → y = nI dp → dp < nc → S 0 cp 0 = 0 ∧ S 0 dp 0 = 0) ∧ u = (nc, ng, S, P, O, ad)) ∨ (r = 0 ∧ ∃ v : Int32, ∃ T : cf_S, (∃ cp dp : Nat, cp < nc ∧ x = nI cp ∧ dp < nc ∧ y = nI dp ∧ x ≠ y ∧ P 0 cp 0 = P 0 dp 0 ∧ S 0 cp 0 = 0 ∧ S 0 dp 0 = 0 ∧ cf_fillI S T (P 0 cp 0) cp dp 4 v) ∧ u = (nc, ng, T, P, vp_updL O 0 v.toInt64, ad))) {v2 : Int32} {T : cf_S} (hM : (¬ (cf_ix x u.1 ∧ cf_ix y u.1) ∧ T = (cf_s3 u.2.2.1 6 0 23 1)) ∨ ∃ cp dp : Nat, cp < u.1 ∧ x = nI cp ∧ dp < u.1 ∧ y = nI dp ∧ ((¬ (cp ≠ dp ∧ u.2.2.2.1 0 cp 0 = u.2.2.2.1 0 dp 0) ∧ T = cf_s3 (cf_s3 u.2.2.1 6 0 23 0) 6 0 23 2) ∨ ((cp ≠ dp ∧ u.2.2.2.1 0 cp 0 = u.2.2.2.1 0 dp 0) ∧ ¬ (u.2.2.1 17 13 cp = 0 ∧ u.2.2.1 17 13 dp = 0) ∧ T = cf_s3 (cf_s3 u.2.2.1 6 0 23 0) 6 0 23 3) ∨ ((cp ≠ dp ∧ u.2.2.2.1 0 cp 0 = u.2.2.2.1 0 dp 0) ∧ (u.2.2.1 17 13 cp = 0 ∧ u.2.2.1 17 13 dp = 0) ∧ cf_fillM (cf_s3 u.2.2.1 6 0 23 0) T (u.2.2.2.1 0 cp 0) cp dp 4 v2))) : T 6 0 23 = r ∧ (r = 0 → u.2.2.2.2.1 0 = v2.toInt64) ∧ cf_R (n + 1) u.1 u.2.1 T u.2.2.2.1 := by
  have hn15 := hR.1.1
  rcases hL with ⟨rfl, h1, rfl⟩ | ⟨rfl, h1, h2, rfl⟩ | ⟨rfl, h1, h2, h3, rfl⟩ | ⟨rfl, v, Tc, ⟨cp, dp, hc, hx, hd, hy, hxy, hg, hp, hq, hf⟩, rfl⟩
  · dsimp only at hM
    rcases hM with ⟨-, rfl⟩ | ⟨cp, dp, hc, hx, hd, hy, -⟩
    · exact ⟨cf_s3s, cf_no (by decide), hR.th⟩
    · exact absurd ⟨⟨cp, hc, hx⟩, ⟨dp, hd, hy⟩⟩ h1
  · dsimp only at hM
    rcases hM with ⟨h, -⟩ | ⟨cp, dp, hc, hx, hd, hy, ⟨-, rfl⟩ | ⟨h4, -⟩ | ⟨h4, -⟩⟩
    · exact absurd h1 h
    · exact ⟨cf_s3s, cf_no (by decide), hR.th2⟩
    all_goals
      refine absurd ⟨fun q => h4.1 (cf_nI_inj (by omega) (by omega) (hx.symm.trans (q.trans hy))), fun c2 d2 hx2 hc2 hy2 hd2 => ?_⟩ h2
      have e1 : c2 = cp := cf_nI_inj (by omega) (by omega) (hx2.symm.trans hx)
      have e2 : d2 = dp := cf_nI_inj (by omega) (by omega) (hy2.symm.trans hy)
      rw [e1, e2]
      exact h4.2
  · dsimp only at hM
    rcases hM with ⟨h, -⟩ | ⟨cp, dp, hc, hx, hd, hy, ⟨h4, -⟩ | ⟨-, -, rfl⟩ | ⟨-, h4, -⟩⟩
    · exact absurd h1 h
    · exact absurd ⟨fun q => h2.1 (by rw [hx, hy, q]), h2.2 cp dp hx hc hy hd⟩ h4
    · exact ⟨cf_s3s, cf_no (by decide), hR.th2⟩
    · refine absurd (fun c2 d2 hx2 hc2 hy2 hd2 => ?_) h3
      have e1 : c2 = cp := cf_nI_inj (by omega) (by omega) (hx2.symm.trans hx)
      have e2 : d2 = dp := cf_nI_inj (by omega) (by omega) (hy2.symm.trans hy)
      rw [e1, e2, (hR.2.2.2.2.1.1 cp hc).2.2.1, (hR.2.2.2.2.1.1 dp hd).2.2.1]
      exact h4
  · dsimp only at hM
    obtain ⟨i1, i2, i3, i4⟩ := hf
    have k17 : Tc 17 = S 17 := funext fun b => i3 17 b (by simp) (by simp)
    have hne : cp ≠ dp := fun q => hxy (by rw [hx, hy, q])
    obtain ⟨ec1, ec2, ec3, ec4⟩ := hR.2.2.2.2.1.1 cp hc
    obtain ⟨ed1, ed2, ed3, ed4⟩ := hR.2.2.2.2.1.1 dp hd
    rcases hM with ⟨h, -⟩ | ⟨c2, d2, hc2, hx2, hd2, hy2, hM⟩
    · exact absurd ⟨⟨cp, hc, hx⟩, ⟨dp, hd, hy⟩⟩ h
    · have e1 : c2 = cp := cf_nI_inj (by omega) (by omega) (hx2.symm.trans hx)
      have e2 : d2 = dp := cf_nI_inj (by omega) (by omega) (hy2.symm.trans hy)
      subst e1; subst e2
      rw [k17] at hM
      rcases hM with ⟨h, -⟩ | ⟨-, h, -⟩ | ⟨-, -, m1, m2, m3, m4, m5⟩
      · exact absurd ⟨hne, hg⟩ h
      · exact absurd ⟨by rw [← ec3]; exact hp, by rw [← ed3]; exact hq⟩ h
      · have z17 : ∀ b, cf_s3 Tc 6 0 23 0 17 b = S 17 b := fun b => congrFun k17 b
        simp only [z17] at m1 m2 m3 m5
        have key : ∀ k, k < 4 → ∃ m h o : Nat, m ≤ o ∧ h + m ≤ 40 ∧ o ≤ 40 ∧ S 7 c2 k = nI h ∧ S 7 d2 k = nI o ∧ S 17 14 (4 * c2 + k) = nI h ∧ S 17 14 (4 * d2 + k) = nI o ∧ cf_come (S 8 (P 0 c2 0) k) (S 7 c2 k) (S 7 d2 k) = nI m ∧ cf_comeM (S 17 4 (4 * P 0 c2 0 + k)) (S 17 14 (4 * c2 + k)) (S 17 14 (4 * d2 + k)) = nI m := by
          intro k hk
          obtain ⟨h, hh, a1, a2⟩ := ec4 k hk
          obtain ⟨o, ho, b1, b2⟩ := ed4 k hk
          obtain ⟨g1, -, w, hw, g2⟩ := hR.2.1.2 (P 0 c2 0) k ec1 hk
          obtain ⟨m, q1, q2, q3, q4⟩ := cf_comeN hw hh ho
          refine ⟨m, h, o, q1, q2, ho, a1, b1, a2, b2, ?_, ?_⟩
          · rw [a1, b1, g2]; exact q3
          · rw [a2, b2, ← g1, g2]; exact q4
        have hvv : v2 = v := by
          rw [i4, m5]
          simp only [cf_comes, cf_comesM]
          obtain ⟨_, _, _, -, -, -, -, -, -, -, a0, b0⟩ := key 0 (by decide)
          obtain ⟨_, _, _, -, -, -, -, -, -, -, a1, b1⟩ := key 1 (by decide)
          obtain ⟨_, _, _, -, -, -, -, -, -, -, a2, b2⟩ := key 2 (by decide)
          obtain ⟨_, _, _, -, -, -, -, -, -, -, a3, b3⟩ := key 3 (by decide)
          rw [a0, a1, a2, a3, b0, b1, b2, b3]
        have t6 : ∀ j, j ≠ 23 → T 6 0 j = S 6 0 j := fun j hj => by
          rw [m4 6 0 (by simp), cf_s3n (fun q => hj q.2.2), i3 6 0 (by simp) (by simp)]
        have tk : ∀ a b, ¬ (a = 17 ∧ b = 14) → a ≠ 7 → a ≠ 6 → T a b = S a b := fun a b h1 h7 h6 => by
          rw [m4 a b h1]
          funext j
          rw [cf_s3n (fun q => h6 q.1), i3 a b (fun q => h7 q.1) (fun q => h7 q.1)]
        refine ⟨by rw [m4 6 0 (by simp), cf_s3s], fun _ => cf_vpe O (v := v) hvv, ?_⟩
        show cf_R (n + 1) nc ng T P
        have tw : ∀ a, a ≠ 17 → a ≠ 7 → a ≠ 6 → T a = S a := fun a h1 h7 h6 => funext fun b => tk a b (fun q => h1 q.1) h7 h6
        have ts : ∀ b, b ≠ 14 → T 17 b = S 17 b := fun b hb => tk 17 b (fun q => hb q.2) (by decide) (by decide)
        have t14 : ∀ j, j ≠ c2 → j ≠ d2 → ∀ k, k < 4 → T 17 14 (4 * j + k) = S 17 14 (4 * j + k) := fun j h1 h2 k hk => m3 _ (fun i hi => by omega) (fun i hi => by omega)
        have t7 : ∀ j, j ≠ c2 → j ≠ d2 → T 7 j = S 7 j := fun j h1 h2 => by
          rw [m4 7 j (by simp)]
          funext i
          rw [cf_s3n (by simp), i3 7 j (fun q => h1 q.2) (fun q => h2 q.2)]
        have t7c : ∀ k, T 7 c2 k = Tc 7 c2 k := fun k => by rw [m4 7 c2 (by simp), cf_s3n (by simp)]
        have t7d : ∀ k, T 7 d2 k = Tc 7 d2 k := fun k => by rw [m4 7 d2 (by simp), cf_s3n (by simp)]
        obtain ⟨a, b, c, d, e, f, g⟩ := hR
        obtain ⟨a1, a2, a3, a4, a5, a6, a7, a8⟩ := a
        have k1 := tw 1 (by decide) (by decide) (by decide)
        have k2 := tw 2 (by decide) (by decide) (by decide)
        have k3 := tw 3 (by decide) (by decide) (by decide)
        have k4 := tw 4 (by decide) (by decide) (by decide)
        have k5 := tw 5 (by decide) (by decide) (by decide)
        have k8 := tw 8 (by decide) (by decide) (by decide)
        have k9 := tw 9 (by decide) (by decide) (by decide)
        have k10 := tw 10 (by decide) (by decide) (by decide)
        have k0 := tw 0 (by decide) (by decide) (by decide)
        refine ⟨⟨a1, a2, by rw [k5]; exact a3, by rw [k5]; exact a4, by rw [t6 11 (by decide)]; exact a5, by rw [t6 15 (by decide)]; exact a6, by rw [k5, t6 0 (by decide)]; exact a7, a8⟩, ?_, ?_, ?_, ⟨fun j hj => ?_, ?_⟩, ?_, ?_⟩
        · unfold cf_Rg
          rw [k1, k8, k9, ts 1 (by decide), ts 2 (by decide), ts 3 (by decide), ts 4 (by decide), ts 5 (by decide), ts 6 (by decide)]
          exact b.up
        · unfold cf_Rt
          rw [k3, ts 7 (by decide), ts 8 (by decide)]
          exact c
        · unfold cf_Rs
          rw [k4, k10, ts 9 (by decide), ts 10 (by decide)]
          exact d
        · rw [ts 12 (by decide), ts 13 (by decide), k0]
          obtain ⟨e1, e2, e3, e4⟩ := e.1 j hj
          refine ⟨e1, e2, e3, fun k hk => ?_⟩
          obtain ⟨m, h, o, q1, q2, q3, q4, q5, q6, q7, q8, q9⟩ := key k hk
          by_cases hjc : j = c2
          · subst hjc
            refine ⟨h + m, q2, ?_, ?_⟩
            · rw [t7c, i1 k, if_pos hk, q8, q4, nI_add]
            · rw [m1 k hk, if_pos hk, q9, q6, nI_add]
          · by_cases hjd : j = d2
            · subst hjd
              refine ⟨o - m, by omega, ?_, ?_⟩
              · rw [t7d, i2 k, if_pos hk, q8, q5]; exact pk_sub q1
              · rw [m2 k hk, if_pos hk, q9, q7]; exact pk_sub q1
            · rw [t7 j hjc hjd, t14 j hjc hjd k hk]
              exact e4 k hk
        · rw [ts 13 (by decide)]; exact e.2
        · unfold cf_Rq
          rw [k2, ts 19 (by decide), ts 16 (by decide), ts 17 (by decide), ts 18 (by decide), ts 20 (by decide)]
          exact f
        · refine ⟨by rw [ts 13 (by decide)]; exact g.1, g.2.1, g.2.2.1, fun b hb => ?_, g.2.2.2.2⟩
          rw [ts 21 (by decide), ts 13 (by decide), ts 22 (by decide)]
          rcases g.2.2.2.1 b hb with h9 | ⟨c', hc', g1, g2, g3, g4⟩
          · exact Or.inl h9
          · have n1 : c' ≠ c2 := fun q => by rw [q, ← ec3, hp] at g3; exact absurd g3 (by decide)
            have n2 : c' ≠ d2 := fun q => by rw [q, ← ed3, hq] at g3; exact absurd g3 (by decide)
            refine Or.inr ⟨c', hc', g1, g2, g3, ?_⟩
            rw [g4]
            exact cf_worthM_cong fun i hi => (t14 c' n1 n2 i hi).symm

theorem cf_sim_grow {n nc ng : Nat} {S : cf_S} {P : cf_Pt} {O : Nat → Int64} {ad : cf_Ad} {x a1 : Int32} (hR : cf_R n nc ng S P) {r : Int32} {u : cf_St} (hL : (r = 1 ∧ ¬ (cf_lv P x) ∧ u = (nc, ng, S, P, O, ad)) ∨ (r = 2 ∧ (cf_lv P x) ∧ ¬ (cf_rg a1 1 7) ∧ u = (nc, ng, S, P, O, ad)) ∨ (r = 3 ∧ (cf_lv P x) ∧ (cf_rg a1 1 7) ∧ ¬ (∀ gp : Nat, x = nI gp → gp < 60 → P 15 0 gp = gp + 1 → gp < ng → S 2 gp 1 + a1 ≤ S 1 (P 0 (P 2 gp 0) 0) 1 ∧ (S 2 gp 1 + a1 ≤ S 3 (P 2 gp 1) 0 ∨ ∃ t, cf_best (cf_okT S (S 2 gp 1 + a1)) (cf_ltT S) 6 = some t)) ∧ u = (nc, ng, S, P, O, ad)) ∨ (r = 0 ∧ ∃ v : Int32, ∃ T : cf_S × cf_Pt, (∃ gp t : Nat, gp < 60 ∧ x = nI gp ∧ P 15 0 gp = gp + 1 ∧ gp < ng ∧ (cf_rg a1 1 7) ∧ S 2 gp 1 + a1 ≤ S 1 (P 0 (P 2 gp 0) 0) 1 ∧ ((S 2 gp 1 + a1 ≤ S 3 (P 2 gp 1) 0 ∧ t = P 2 gp 1) ∨ (S 3 (P 2 gp 1) 0 < S 2 gp 1 + a1 ∧ cf_best (cf_okT S (S 2 gp 1 + a1)) (cf_ltT S) 6 = some t)) ∧ v = nI t ∧ T = (cf_s3 (cf_s3 (cf_s3 S 3 (P 2 gp 1) 1 (-1)) 3 t 1 x) 2 gp 1 (S 2 gp 1 + a1), cf_p3 P 2 gp 1 t)) ∧ u = (nc, ng, T.1, T.2, vp_updL O 0 v.toInt64, ad))) {v2 : Int32} {T : cf_S} (hM : (¬ cf_lvM u.2.2.1 u.2.1 x ∧ T = (cf_s3 u.2.2.1 6 0 23 1)) ∨ ∃ j : Nat, j < u.2.1 ∧ x = nI j ∧ u.2.2.1 17 20 j = 0 ∧ ((¬ cf_rg a1 1 7 ∧ T = cf_s3 (cf_s3 u.2.2.1 6 0 23 0) 6 0 23 2) ∨ (cf_rg a1 1 7 ∧ ∃ b : Option Nat, (((u.2.2.1 17 16 j + a1) ≤ u.2.2.1 17 7 (P 2 j 1) ∧ b = some (P 2 j 1)) ∨ (u.2.2.1 17 7 (P 2 j 1) < (u.2.2.1 17 16 j + a1) ∧ b = cf_best (cf_okTM u.2.2.1 (u.2.2.1 17 16 j + a1)) (cf_ltTM u.2.2.1) 6)) ∧ ((¬ ((u.2.2.1 17 16 j + a1) ≤ u.2.2.1 17 2 (u.2.2.2.1 0 (P 2 j 0) 0) ∧ ¬ b = none) ∧ T = cf_s3 (cf_s3 u.2.2.1 6 0 23 0) 6 0 23 3) ∨ ∃ t : Nat, b = some t ∧ (u.2.2.1 17 16 j + a1) ≤ u.2.2.1 17 2 (u.2.2.2.1 0 (P 2 j 0) 0) ∧ v2 = nI t ∧ T = (cf_s3 (cf_s3 (cf_s3 (cf_s3 (cf_s3 u.2.2.1 6 0 23 0) 17 8 (P 2 j 1) 0) 17 8 t (x + 1)) 17 17 j (nI t)) 17 16 j ((u.2.2.1 17 16 j) + a1)))))) : T 6 0 23 = r ∧ (r = 0 → u.2.2.2.2.1 0 = v2.toInt64) ∧ cf_R (n + 1) u.1 u.2.1 T u.2.2.2.1 := by
  have hn15 := hR.1.1
  have hn60 := hR.1.2.1
  have same : ∀ j, j < ng → P 2 j 0 < nc ∧ P 2 j 1 < 6 ∧ S 17 16 j = S 2 j 1 ∧ S 17 2 (P 0 (P 2 j 0) 0) = S 1 (P 0 (P 2 j 0) 0) 1 ∧ S 17 7 (P 2 j 1) = S 3 (P 2 j 1) 0 := by
    intro j hj
    obtain ⟨f1, f2, f3, f4, -⟩ := hR.2.2.2.2.2.1.1 j hj
    exact ⟨f1, f2, f4.symm, ((hR.2.1.1 _ (hR.2.2.2.2.1.1 _ f1).1).2.1).symm, ((hR.2.2.1 _ f2).1).symm⟩
  rcases hL with ⟨rfl, h1, rfl⟩ | ⟨rfl, h1, h2, rfl⟩ | ⟨rfl, h1, h2, h3, rfl⟩ | ⟨rfl, v, Tc, ⟨gp, t, hg60, hx, hP, hg, hr, hle, ht, hv, rfl⟩, rfl⟩
  · dsimp only at hM
    rcases hM with ⟨-, rfl⟩ | ⟨j, hj, hx, h0, -⟩
    · exact ⟨cf_s3s, cf_no (by decide), hR.th⟩
    · exact absurd ((hR.lv x).mpr ⟨j, hj, hx, h0⟩) h1
  · dsimp only at hM
    rcases hM with ⟨h, -⟩ | ⟨j, hj, hx, h0, ⟨-, rfl⟩ | ⟨h, -⟩⟩
    · exact absurd ((hR.lv x).mp h1) h
    · exact ⟨cf_s3s, cf_no (by decide), hR.th2⟩
    · exact absurd h h2
  · dsimp only at hM
    rcases hM with ⟨h, -⟩ | ⟨j, hj, hx, h0, ⟨h, -⟩ | ⟨-, b, hb, ⟨-, rfl⟩ | ⟨t, hbt, hle, -, -⟩⟩⟩
    · exact absurd ((hR.lv x).mp h1) h
    · exact absurd h2 h
    · exact ⟨cf_s3s, cf_no (by decide), hR.th2⟩
    · obtain ⟨f1, f2, f4, f5, f6⟩ := same j hj
      refine absurd (fun g2 hx2 hg2 hP2 hgn => ?_) h3
      have e1 : g2 = j := cf_nI_inj (by omega) (by omega) (hx2.symm.trans hx)
      subst e1
      rw [← f4, ← f5, ← f6]
      refine ⟨hle, ?_⟩
      rcases hb with ⟨hb, -⟩ | ⟨hb, hb2⟩
      · exact Or.inl hb
      · exact Or.inr ⟨t, by rw [hR.best]; exact hb2.symm.trans hbt⟩
  · dsimp only at hM
    obtain ⟨f1, f2, f4, f5, f6⟩ := same gp hg
    rcases hM with ⟨h, -⟩ | ⟨j, hj, hx2, h0, hM⟩
    · exact absurd ((hR.lv x).mp ⟨gp, hg60, hx, by omega⟩) h
    · have e1 : j = gp := cf_nI_inj (by omega) (by omega) (hx2.symm.trans hx)
      subst e1
      have s16 : cf_s3 (cf_s3 (cf_s3 S 3 (P 2 j 1) 1 (-1)) 3 t 1 x) 2 j 1 (S 2 j 1 + a1) 17 16 j = S 2 j 1 := f4
      have s7 : cf_s3 (cf_s3 (cf_s3 S 3 (P 2 j 1) 1 (-1)) 3 t 1 x) 2 j 1 (S 2 j 1 + a1) 17 7 (P 2 j 1) = S 3 (P 2 j 1) 0 := f6
      have s2 : cf_s3 (cf_s3 (cf_s3 S 3 (P 2 j 1) 1 (-1)) 3 t 1 x) 2 j 1 (S 2 j 1 + a1) 17 2 (cf_p3 P 2 j 1 t 0 (P 2 j 0) 0) = S 1 (P 0 (P 2 j 0) 0) 1 := f5
      rw [s16, s7, s2] at hM
      have hbest : ∀ z, cf_best (cf_okTM (cf_s3 (cf_s3 (cf_s3 S 3 (P 2 j 1) 1 (-1)) 3 t 1 x) 2 j 1 (S 2 j 1 + a1)) z) (cf_ltTM (cf_s3 (cf_s3 (cf_s3 S 3 (P 2 j 1) 1 (-1)) 3 t 1 x) 2 j 1 (S 2 j 1 + a1))) 6 = cf_best (cf_okT S z) (cf_ltT S) 6 := fun z => (hR.best z).symm
      rw [hbest] at hM
      rcases hM with ⟨h, -⟩ | ⟨-, b, hb, hM⟩
      · exact absurd hr h
      · have hbt : b = some t := by
          rcases hb with ⟨hb, rfl⟩ | ⟨hb, rfl⟩ <;> rcases ht with ⟨h, rfl⟩ | ⟨h, h2⟩
          · rfl
          · exact absurd hb (Int32.not_le.mpr h)
          · exact absurd h (Int32.not_le.mpr hb)
          · exact h2
        have ht6 : t < 6 := by
          rcases ht with ⟨h, rfl⟩ | ⟨h, h2⟩
          · exact f2
          · exact (cf_best_in h2).1
        rcases hM with ⟨h, -⟩ | ⟨t2, hbt2, -, hv2, rfl⟩
        · exact absurd ⟨hle, by rw [hbt]; exact fun q => nomatch q⟩ h
        · have e2 : t2 = t := Option.some.inj (hbt2.symm.trans hbt)
          subst e2
          refine ⟨rfl, fun _ => cf_vpe O (v := v) (by rw [hv, hv2]), ?_⟩
          obtain ⟨a, b, c, d, e, f, g⟩ := hR
          have hx1 : x + 1 = nI (j + 1) := by rw [hx]; exact nI_1 j
          have p21 : ∀ i, cf_p3 P 2 j 1 t2 2 i 1 = if i = j then t2 else P 2 i 1 := fun i => by by_cases h : i = j <;> simp [cf_p3, cf_g2, cf_u, h]
          have p20 : ∀ i, cf_p3 P 2 j 1 t2 2 i 0 = P 2 i 0 := fun i => by by_cases h : i = j <;> simp [cf_p3, cf_g2, cf_u, h]
          generalize hT : cf_s3 (cf_s3 (cf_s3 (cf_s3 (cf_s3 (cf_s3 (cf_s3 (cf_s3 S 3 (P 2 j 1) 1 (-1)) 3 t2 1 x) 2 j 1 (S 2 j 1 + a1)) 6 0 23 0) 17 8 (P 2 j 1) 0) 17 8 t2 (x + 1)) 17 17 j (nI t2)) 17 16 j (S 2 j 1 + a1) = T
          show cf_R (n + 1) nc ng T (cf_p3 P 2 j 1 t2)
          have t8 : ∀ i, T 17 8 i = if i = t2 then x + 1 else if i = P 2 j 1 then 0 else S 17 8 i := fun i => by
            subst hT
            by_cases h : i = t2
            · simp [cf_s3, cf_g2, upd, h]
            · by_cases h2 : i = P 2 j 1
              · rw [if_neg h, if_pos h2, cf_s3n (by simp), cf_s3n (by simp), cf_s3n (fun q => h q.2.2), h2, cf_s3s]
              · rw [if_neg h, if_neg h2, cf_s3n (by simp), cf_s3n (by simp), cf_s3n (fun q => h q.2.2), cf_s3n (fun q => h2 q.2.2)]; rfl
          have t31 : ∀ i, T 3 i 1 = if i = t2 then x else if i = P 2 j 1 then -1 else S 3 i 1 := fun i => by
            subst hT
            rw [cf_s3n (by simp), cf_s3n (by simp), cf_s3n (by simp), cf_s3n (by simp), cf_s3n (by simp), cf_s3n (by simp)]
            by_cases h : i = t2
            · rw [if_pos h, h, cf_s3s]
            · rw [if_neg h, cf_s3n (fun q => h q.2.1)]
              by_cases h2 : i = P 2 j 1
              · rw [if_pos h2, h2, cf_s3s]
              · rw [if_neg h2, cf_s3n (fun q => h2 q.2.1)]
          have t30 : ∀ i, T 3 i 0 = S 3 i 0 := fun i => by
            subst hT
            rw [cf_s3n (by simp), cf_s3n (by simp), cf_s3n (by simp), cf_s3n (by simp), cf_s3n (by simp), cf_s3n (by simp), cf_s3n (by simp), cf_s3n (by simp)]
          have t21 : ∀ i, T 2 i 1 = if i = j then S 2 j 1 + a1 else S 2 i 1 := fun i => by subst hT; by_cases h : i = j <;> simp [cf_s3, cf_g2, upd, h]
          have t20 : ∀ i, T 2 i 0 = S 2 i 0 := fun i => by subst hT; by_cases h : i = j <;> simp [cf_s3, cf_g2, upd, h]
          have t16 : ∀ i, T 17 16 i = if i = j then S 2 j 1 + a1 else S 17 16 i := fun i => by subst hT; by_cases h : i = j <;> simp [cf_s3, cf_g2, upd, h]
          have t17 : ∀ i, T 17 17 i = if i = j then nI t2 else S 17 17 i := fun i => by subst hT; by_cases h : i = j <;> simp [cf_s3, cf_g2, upd, h]
          refine ⟨by subst hT; exact a, by subst hT; exact b.up, fun i hi => ?_, by subst hT; exact d, by subst hT; exact e, ⟨fun i hi => ?_, f.2.1, by subst hT; exact f.2.2⟩, fun i hi hl => ?_, fun i k hi hk h1 h2 hne => ?_, g.2.2.1, by subst hT; exact g.2.2.2.1, g.2.2.2.2⟩
          · obtain ⟨c1, q, hq, c2, c3⟩ := c i hi
            refine ⟨by rw [t30]; subst hT; exact c1, ?_⟩
            rw [t8, t31]
            by_cases h : i = t2
            · rw [if_pos h, if_pos h, hx1]
              exact ⟨j + 1, by omega, rfl, by rw [nI_pred]; exact hx⟩
            · rw [if_neg h, if_neg h]
              by_cases h2 : i = P 2 j 1
              · rw [if_pos h2, if_pos h2]; exact ⟨0, by decide, rfl, rfl⟩
              · rw [if_neg h2, if_neg h2]; exact ⟨q, hq, c2, c3⟩
          · obtain ⟨k1, k2, k3, k4, k5, k6, k7⟩ := f.1 i hi
            rw [p20, p21, t20, t21, t16, t17]
            refine ⟨k1, ?_, by subst hT; exact k3, ?_, ?_, by subst hT; exact k6, by subst hT; exact k7⟩
            · by_cases h : i = j
              · rw [if_pos h]; exact ht6
              · rw [if_neg h]; exact k2
            · by_cases h : i = j
              · rw [if_pos h, if_pos h]
              · rw [if_neg h, if_neg h]; exact k4
            · by_cases h : i = j
              · rw [if_pos h, if_pos h]
              · rw [if_neg h, if_neg h]; exact k5
          · rw [p20]; subst hT; exact g.1 i hi hl
          · rw [p20, p20]; exact g.2.1 i k hi hk h1 h2 hne
