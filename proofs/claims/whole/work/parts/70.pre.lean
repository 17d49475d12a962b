def cf_H (nc ng : Nat) (S : cf_S) (P P0 : cf_Pt) : Prop := S 6 0 11 = nI nc ∧ nc ≤ 15 ∧ S 6 0 15 = nI ng ∧ ng ≤ 60 ∧ (∀ j, j < nc → S 17 12 j = nI (P 0 j 0) ∧ P 0 j 0 < 5) ∧ (∀ j, j < ng → S 17 17 j = nI (P0 2 j 1) ∧ P0 2 j 1 < 6 ∧ S 17 18 j = nI (P0 2 j 0) ∧ P0 2 j 0 < nc) ∧ ∀ j, j < 6 → S 17 21 j = 0 ∨ ∃ cp : Nat, cp < nc ∧ S 17 21 j = nI (cp + 1)
theorem cf_R.H {n nc ng : Nat} {S : cf_S} {P : cf_Pt} (h : cf_R n nc ng S P) : cf_H nc ng S P P := by
  obtain ⟨a, -, -, -, e, f, g⟩ := h
  refine ⟨a.2.2.2.2.1, a.1, a.2.2.2.2.2.1, a.2.1, fun j hj => ⟨(e.1 j hj).2.1, (e.1 j hj).1⟩, fun j hj => ?_, fun j hj => ?_⟩
  · obtain ⟨f1, f2, f3, f4, f5, f6, -⟩ := f.1 j hj
    exact ⟨f5, f2, f6, f1⟩
  · rcases g.2.2.2.1 j hj with h | ⟨c, hc, -, h, -⟩
    · exact Or.inl h.2
    · exact Or.inr ⟨c, hc, h⟩
/-- what the helpers ask of a world -/
theorem cf_R.O {n nc ng : Nat} {S : cf_S} {P : cf_Pt} (h : cf_R n nc ng S P) : (∀ j, P 14 0 j = if j < nc then j + 1 else 0) := h.1.2.2.2.2.2.2.2
theorem cf_R.G {n nc ng : Nat} {S : cf_S} {P : cf_Pt} (h : cf_R n nc ng S P) : ∀ j, j < nc → P 0 j 0 < 5 := fun j hj => (h.2.2.2.2.1.1 j hj).1
theorem cf_R.L {n nc ng : Nat} {S : cf_S} {P : cf_Pt} (h : cf_R n nc ng S P) : ∀ j, j < ng → P 2 j 0 < nc ∧ P 2 j 1 < 6 := fun j hj => ⟨(h.2.2.2.2.2.1.1 j hj).1, (h.2.2.2.2.2.1.1 j hj).2.1⟩
theorem cf_R.Q {n nc ng : Nat} {S : cf_S} {P : cf_Pt} (h : cf_R n nc ng S P) : ∀ j, P 15 0 j = 0 ∨ (P 15 0 j = j + 1 ∧ j < ng) := fun j => by
  rcases Nat.lt_or_ge j ng with hj | hj
  · rcases (h.2.2.2.2.2.1.1 j hj).2.2.2.2.2.2 with q | q
    · exact Or.inr ⟨q.2, hj⟩
    · exact Or.inl q.2
  · exact Or.inl (h.2.2.2.2.2.1.2.1 j hj)
theorem cf_R.Q2 {n nc ng : Nat} {S : cf_S} {P : cf_Pt} (h : cf_R n nc ng S P) : ∀ j, P 15 0 j ≤ ng := fun j => by
  rcases h.Q j with q | ⟨q, hq⟩ <;> omega
theorem cf_R.B {n nc ng : Nat} {S : cf_S} {P : cf_Pt} (h : cf_R n nc ng S P) : ∀ j, P 16 0 j ≤ nc := h.2.2.2.2.2.2.2.2.1
theorem cf_R.p0 {n nc ng : Nat} {S : cf_S} {P : cf_Pt} (h : cf_R n nc ng S P) (hn : n ≤ 1000) : ∀ j, j < 5 → 0 ≤ S 1 j 3 := fun j hj => by
  obtain ⟨-, -, -, -, q, hq, e, -⟩ := h.2.1.1 j hj
  rw [e]
  exact Int32.not_lt.mp (nI_pos (by omega))
theorem cf_R.k10 {n nc ng : Nat} {S : cf_S} {P : cf_Pt} (h : cf_R n nc ng S P) : ∀ j k, j < 3 → k < 5 → S 10 j k = 0 ∨ S 10 j k = 1 := fun j k hj hk => by
  rcases (h.2.2.2.1 j hj).2 k hk with q | q
  · exact Or.inr q.1
  · exact Or.inl q.1
theorem cf_pre_setGame {n nc ng : Nat} {S : cf_S} {P : cf_Pt} {O : Nat → Int64} {ad : cf_Ad} {x a1 a2 a3 : Int32} (hR : cf_R n nc ng S P) {r : Int32} {u : cf_St} (hL : (r = 1 ∧ ¬ (cf_ix x 5) ∧ u = (nc, ng, S, P, O, ad)) ∨ (r = 2 ∧ (cf_ix x 5) ∧ ¬ (cf_rg a1 1 8 ∧ cf_rg a2 a1 8 ∧ cf_rg a3 1 60) ∧ u = (nc, ng, S, P, O, ad)) ∨ (r = 0 ∧ ∃ T : cf_S, (∃ j : Nat, j < 5 ∧ x = nI j ∧ (cf_rg a1 1 8 ∧ cf_rg a2 a1 8 ∧ cf_rg a3 1 60) ∧ T = cf_s3 (cf_s3 (cf_s3 S 1 j 0 a1) 1 j 1 a2) 1 j 2 a3) ∧ u = (nc, ng, T, P, O, ad))) : (u.1 = nc) ∧ (u.2.1 = ng) ∧ (∀ k, k = 5 ∨ k = 6 ∨ k = 17 ∨ k = 18 → u.2.2.2.2.2 k 0 = ad k 0) ∧ cf_H nc ng u.2.2.1 u.2.2.2.1 P := by
  rcases hL with ⟨-, -, rfl⟩ | ⟨-, -, -, rfl⟩ | ⟨-, Tc, h, rfl⟩
  · exact ⟨rfl, rfl, fun _ _ => rfl, hR.H⟩
  · exact ⟨rfl, rfl, fun _ _ => rfl, hR.H⟩
  · obtain ⟨j, -, -, -, rfl⟩ := h
    exact ⟨rfl, rfl, fun _ _ => rfl, hR.H⟩

theorem cf_pre_setParts {n nc ng : Nat} {S : cf_S} {P : cf_Pt} {O : Nat → Int64} {ad : cf_Ad} {x y a1 a2 : Int32} (hR : cf_R n nc ng S P) {r : Int32} {u : cf_St} (hL : (r = 1 ∧ ¬ (cf_ix x 5 ∧ cf_ix y 4) ∧ u = (nc, ng, S, P, O, ad)) ∨ (r = 2 ∧ (cf_ix x 5 ∧ cf_ix y 4) ∧ ¬ (cf_rg a1 0 20 ∧ cf_rg a2 0 a1) ∧ u = (nc, ng, S, P, O, ad)) ∨ (r = 0 ∧ ∃ T : cf_S, (∃ j k : Nat, j < 5 ∧ x = nI j ∧ k < 4 ∧ y = nI k ∧ (cf_rg a1 0 20 ∧ cf_rg a2 0 a1) ∧ T = cf_s3 (cf_s3 S 8 j k a1) 9 j k a2) ∧ u = (nc, ng, T, P, O, ad))) : (u.1 = nc) ∧ (u.2.1 = ng) ∧ (∀ k, k = 5 ∨ k = 6 ∨ k = 17 ∨ k = 18 → u.2.2.2.2.2 k 0 = ad k 0) ∧ cf_H nc ng u.2.2.1 u.2.2.2.1 P := by
  rcases hL with ⟨-, -, rfl⟩ | ⟨-, -, -, rfl⟩ | ⟨-, Tc, h, rfl⟩
  · exact ⟨rfl, rfl, fun _ _ => rfl, hR.H⟩
  · exact ⟨rfl, rfl, fun _ _ => rfl, hR.H⟩
  · obtain ⟨j, k, -, -, -, -, -, rfl⟩ := h
    exact ⟨rfl, rfl, fun _ _ => rfl, hR.H⟩

theorem cf_pre_setSeats {n nc ng : Nat} {S : cf_S} {P : cf_Pt} {O : Nat → Int64} {ad : cf_Ad} {x a1 : Int32} (hR : cf_R n nc ng S P) {r : Int32} {u : cf_St} (hL : (r = 1 ∧ ¬ (cf_ix x 6) ∧ u = (nc, ng, S, P, O, ad)) ∨ (r = 2 ∧ (cf_ix x 6) ∧ ¬ (cf_rg a1 1 8) ∧ u = (nc, ng, S, P, O, ad)) ∨ (r = 3 ∧ (cf_ix x 6) ∧ (cf_rg a1 1 8) ∧ ¬ (∀ j : Nat, j < 6 → x = nI j → S 3 j 1 = -1) ∧ u = (nc, ng, S, P, O, ad)) ∨ (r = 0 ∧ ∃ v : Int32, ∃ T : cf_S, (∃ j : Nat, j < 6 ∧ x = nI j ∧ (cf_rg a1 1 8) ∧ S 3 j 1 = -1 ∧ v = S 3 j 0 ∧ T = cf_s3 S 3 j 0 a1) ∧ u = (nc, ng, T, P, vp_updL O 0 v.toInt64, ad))) : (u.1 = nc) ∧ (u.2.1 = ng) ∧ (∀ k, k = 5 ∨ k = 6 ∨ k = 17 ∨ k = 18 → u.2.2.2.2.2 k 0 = ad k 0) ∧ cf_H nc ng u.2.2.1 u.2.2.2.1 P := by
  rcases hL with ⟨-, -, rfl⟩ | ⟨-, -, -, rfl⟩ | ⟨-, -, -, -, rfl⟩ | ⟨-, v, Tc, h, rfl⟩
  · exact ⟨rfl, rfl, fun _ _ => rfl, hR.H⟩
  · exact ⟨rfl, rfl, fun _ _ => rfl, hR.H⟩
  · exact ⟨rfl, rfl, fun _ _ => rfl, hR.H⟩
  · obtain ⟨j, -, -, -, -, -, rfl⟩ := h
    exact ⟨rfl, rfl, fun _ _ => rfl, hR.H⟩

theorem cf_pre_teach {n nc ng : Nat} {S : cf_S} {P : cf_Pt} {O : Nat → Int64} {ad : cf_Ad} {x y b1 : Int32} (hR : cf_R n nc ng S P) {r : Int32} {u : cf_St} (hL : (r = 1 ∧ ¬ (cf_ix x 3 ∧ cf_ix y 5) ∧ u = (nc, ng, S, P, O, ad)) ∨ (r = 0 ∧ ∃ v : Int32, ∃ T : cf_S, (∃ j k : Nat, j < 3 ∧ x = nI j ∧ k < 5 ∧ y = nI k ∧ v = S 10 j k ∧ T = cf_s3 S 10 j k b1) ∧ ∃ w : Int64, ((v = 0 ∧ w = 0) ∨ (¬ v = 0 ∧ w = 1)) ∧ u = (nc, ng, T, P, vp_updL O 0 w, ad))) : (u.1 = nc) ∧ (u.2.1 = ng) ∧ (∀ k, k = 5 ∨ k = 6 ∨ k = 17 ∨ k = 18 → u.2.2.2.2.2 k 0 = ad k 0) ∧ cf_H nc ng u.2.2.1 u.2.2.2.1 P := by
  rcases hL with ⟨-, -, rfl⟩ | ⟨-, v, Tc, h, w, -, rfl⟩
  · exact ⟨rfl, rfl, fun _ _ => rfl, hR.H⟩
  · obtain ⟨j, k, -, -, -, -, -, rfl⟩ := h
    exact ⟨rfl, rfl, fun _ _ => rfl, hR.H⟩

theorem cf_pre_buy {n nc ng : Nat} {S : cf_S} {P : cf_Pt} {O : Nat → Int64} {ad : cf_Ad} {x : Int32} (hR : cf_R n nc ng S P) {r : Int32} {u : cf_St} (hL : (r = 1 ∧ ¬ (cf_ix x 5) ∧ u = (nc, ng, S, P, O, ad)) ∨ (r = 2 ∧ (cf_ix x 5) ∧ ¬ (nc < 15) ∧ u = (nc, ng, S, P, O, ad)) ∨ (r = 0 ∧ ∃ v : Int32, ∃ T : cf_S × cf_Pt × cf_Ad, (∃ gm : Nat, gm < 5 ∧ x = nI gm ∧ nc < 15 ∧ v = nI nc ∧ T.1 = cf_s3 (cf_buyS S nc gm) 5 0 0 (nI nc + 1) ∧ T.2.1 = cf_buyP P nc gm ∧ ∀ k i, k ≠ 0 → k ≠ 7 → T.2.2 k i = ad k i) ∧ u = ((nc + 1), ng, T.1, T.2.1, vp_updL O 0 v.toInt64, T.2.2))) : (u.1 = nc ∨ True) ∧ (u.2.1 = ng) ∧ (∀ k, k = 5 ∨ k = 6 ∨ k = 17 ∨ k = 18 → u.2.2.2.2.2 k 0 = ad k 0) ∧ u.2.2.1 6 0 11 = nI nc := by
  rcases hL with ⟨-, -, rfl⟩ | ⟨-, -, -, rfl⟩ | ⟨-, v, ⟨S1, P1, ad1⟩, h, rfl⟩
  · exact ⟨Or.inl rfl, rfl, fun _ _ => rfl, hR.1.2.2.2.2.1⟩
  · exact ⟨Or.inl rfl, rfl, fun _ _ => rfl, hR.1.2.2.2.2.1⟩
  · obtain ⟨gm, -, -, -, -, h1, -, hag⟩ := h
    dsimp only at h1 hag
    subst h1
    exact ⟨Or.inr trivial, rfl, fun k hk => hag k 0 (by omega) (by omega), hR.1.2.2.2.2.1⟩

theorem cf_pre_count {n nc ng : Nat} {S : cf_S} {P : cf_Pt} {O : Nat → Int64} {ad : cf_Ad} {x y a1 : Int32} (hR : cf_R n nc ng S P) {r : Int32} {u : cf_St} (hL : (r = 1 ∧ ¬ (cf_ix x nc ∧ cf_ix y 4) ∧ u = (nc, ng, S, P, O, ad)) ∨ (r = 2 ∧ (cf_ix x nc ∧ cf_ix y 4) ∧ ¬ (cf_rg a1 (-20) 20) ∧ u = (nc, ng, S, P, O, ad)) ∨ (r = 3 ∧ (cf_ix x nc ∧ cf_ix y 4) ∧ (cf_rg a1 (-20) 20) ∧ ¬ (∀ cp k : Nat, x = nI cp → cp < nc → y = nI k → k < 4 → S 0 cp 0 ≠ 2 ∧ cf_rg (S 7 cp k + a1) 0 40) ∧ u = (nc, ng, S, P, O, ad)) ∨ (r = 0 ∧ ∃ v : Int32, ∃ T : cf_S, (∃ cp k : Nat, cp < nc ∧ x = nI cp ∧ k < 4 ∧ y = nI k ∧ (cf_rg a1 (-20) 20) ∧ S 0 cp 0 ≠ 2 ∧ cf_rg (S 7 cp k + a1) 0 40 ∧ v = S 7 cp k + a1 ∧ T = cf_s3 S 7 cp k (S 7 cp k + a1)) ∧ u = (nc, ng, T, P, vp_updL O 0 v.toInt64, ad))) : (u.1 = nc) ∧ (u.2.1 = ng) ∧ (∀ k, k = 5 ∨ k = 6 ∨ k = 17 ∨ k = 18 → u.2.2.2.2.2 k 0 = ad k 0) ∧ cf_H nc ng u.2.2.1 u.2.2.2.1 P := by
  rcases hL with ⟨-, -, rfl⟩ | ⟨-, -, -, rfl⟩ | ⟨-, -, -, -, rfl⟩ | ⟨-, v, Tc, h, rfl⟩
  · exact ⟨rfl, rfl, fun _ _ => rfl, hR.H⟩
  · exact ⟨rfl, rfl, fun _ _ => rfl, hR.H⟩
  · exact ⟨rfl, rfl, fun _ _ => rfl, hR.H⟩
  · obtain ⟨cp, k, -, -, -, -, -, -, -, -, rfl⟩ := h
    exact ⟨rfl, rfl, fun _ _ => rfl, hR.H⟩

theorem cf_pre_fill {n nc ng : Nat} {S : cf_S} {P : cf_Pt} {O : Nat → Int64} {ad : cf_Ad} {x y : Int32} (hR : cf_R n nc ng S P) {r : Int32} {u : cf_St} (hL : (r = 1 ∧ ¬ (cf_ix x nc ∧ cf_ix y nc) ∧ u = (nc, ng, S, P, O, ad)) ∨ (r = 2 ∧ (cf_ix x nc ∧ cf_ix y nc) ∧ ¬ (x ≠ y ∧ ∀ cp dp : Nat, x = nI cp → cp < nc → y = nI dp → dp < nc → P 0 cp 0 = P 0 dp 0) ∧ u = (nc, ng, S, P, O, ad)) ∨ (r = 3 ∧ (cf_ix x nc ∧ cf_ix y nc) ∧ (x ≠ y ∧ ∀ cp dp : Nat, x = nI cp → cp < nc → y = nI dp → dp < nc → P 0 cp 0 = P 0 dp 0) ∧ ¬ (∀ cp dp : Nat, x = nI cp → cp < nc → y = nI dp → dp < nc → S 0 cp 0 = 0 ∧ S 0 dp 0 = 0) ∧ u = (nc, ng, S, P, O, ad)) ∨ (r = 0 ∧ ∃ v : Int32, ∃ T : cf_S, (∃ cp dp : Nat, cp < nc ∧ x = nI cp ∧ dp < nc ∧ y = nI dp ∧ x ≠ y ∧ P 0 cp 0 = P 0 dp 0 ∧ S 0 cp 0 = 0 ∧ S 0 dp 0 = 0 ∧ cf_fillI S T (P 0 cp 0) cp dp 4 v) ∧ u = (nc, ng, T, P, vp_updL O 0 v.toInt64, ad))) : (u.1 = nc) ∧ (u.2.1 = ng) ∧ (∀ k, k = 5 ∨ k = 6 ∨ k = 17 ∨ k = 18 → u.2.2.2.2.2 k 0 = ad k 0) ∧ cf_H nc ng u.2.2.1 u.2.2.2.1 P := by
  rcases hL with ⟨-, -, rfl⟩ | ⟨-, -, -, rfl⟩ | ⟨-, -, -, -, rfl⟩ | ⟨-, v, Tc, h, rfl⟩
  · exact ⟨rfl, rfl, fun _ _ => rfl, hR.H⟩
  · exact ⟨rfl, rfl, fun _ _ => rfl, hR.H⟩
  · exact ⟨rfl, rfl, fun _ _ => rfl, hR.H⟩
  · obtain ⟨cp, dp, -, -, -, -, -, -, -, -, -, -, h3, -⟩ := h
    refine ⟨rfl, rfl, fun _ _ => rfl, ?_⟩
    show cf_H nc ng Tc P P
    have k6 : Tc 6 = S 6 := funext fun b => h3 6 b (by simp) (by simp)
    have k17 : Tc 17 = S 17 := funext fun b => h3 17 b (by simp) (by simp)
    unfold cf_H
    rw [k6, k17]
    exact hR.H

theorem cf_pre_seat {n nc ng : Nat} {S : cf_S} {P : cf_Pt} {O : Nat → Int64} {ad : cf_Ad} {x y b1 : Int32} (hR : cf_R n nc ng S P) {r : Int32} {u : cf_St} (hL : (r = 1 ∧ ¬ (cf_ix y 5) ∧ u = (nc, ng, S, P, O, ad)) ∨ (r = 2 ∧ (cf_ix y 5) ∧ ¬ (∀ gm : Nat, gm < 5 → y = nI gm → cf_rg x 1 8 ∧ ¬ x < S 1 gm 0 ∧ ¬ S 1 gm 1 < x) ∧ u = (nc, ng, S, P, O, ad)) ∨ (r = 3 ∧ (cf_ix y 5) ∧ (∀ gm : Nat, gm < 5 → y = nI gm → cf_rg x 1 8 ∧ ¬ x < S 1 gm 0 ∧ ¬ S 1 gm 1 < x) ∧ ¬ (∀ gm : Nat, gm < 5 → y = nI gm → ng < 60 ∧ (∃ t, cf_best (cf_okT S x) (cf_ltT S) 6 = some t) ∧ (∃ u, cf_fst (cf_okC nc S P gm) 15 (some u)) ∧ (b1 = 0 → ∃ u, cf_fst (cf_okS S gm) 3 (some u))) ∧ u = (nc, ng, S, P, O, ad)) ∨ (r = 0 ∧ ∃ v : Int32, ∃ T : cf_S × cf_Pt × cf_Ad, (∃ gm : Nat, gm < 5 ∧ y = nI gm ∧ ng < 60 ∧ (cf_rg x 1 8 ∧ ¬ x < S 1 gm 0 ∧ ¬ S 1 gm 1 < x) ∧ ∃ t c9 : Nat, cf_best (cf_okT S x) (cf_ltT S) 6 = some t ∧ cf_fst (cf_okC nc S P gm) 15 (some c9) ∧ v = nI ng ∧ T.2.1 = cf_seatP P ng c9 t ∧ (∀ k i, k ≠ 2 → T.2.2 k i = ad k i) ∧ ((¬ b1 = 0 ∧ T.1 = (cf_s3 (cf_s3 (cf_s3 (cf_seatS S ng x (S 5 0 2)) 5 0 1 ((nI ng) + 1)) 3 t 1 (nI ng)) 0 c9 0 1)) ∨ (b1 = 0 ∧ ∃ u9, cf_fst (cf_okS S gm) 3 (some u9) ∧ T.1 = (cf_s3 (cf_s3 (cf_s3 (cf_seatS (cf_s3 S 4 u9 0 ((S 5 0 2) + (S 1 gm 2))) ng x (S 5 0 2)) 5 0 1 ((nI ng) + 1)) 3 t 1 (nI ng)) 0 c9 0 1)))) ∧ u = (nc, (ng + 1), T.1, T.2.1, vp_updL O 0 v.toInt64, T.2.2))) : (u.1 = nc) ∧ (u.2.1 = ng ∨ True) ∧ (∀ k, k = 5 ∨ k = 6 ∨ k = 17 ∨ k = 18 → u.2.2.2.2.2 k 0 = ad k 0) ∧ cf_H nc ng u.2.2.1 u.2.2.2.1 P := by
  rcases hL with ⟨-, -, rfl⟩ | ⟨-, -, -, rfl⟩ | ⟨-, -, -, -, rfl⟩ | ⟨-, v, ⟨S1, P1, ad1⟩, h, rfl⟩
  · exact ⟨rfl, Or.inl rfl, fun _ _ => rfl, hR.H⟩
  · exact ⟨rfl, Or.inl rfl, fun _ _ => rfl, hR.H⟩
  · exact ⟨rfl, Or.inl rfl, fun _ _ => rfl, hR.H⟩
  · obtain ⟨gm, -, -, -, -, t, c9, -, -, -, h1, hag, h2⟩ := h
    dsimp only at h1 hag h2
    subst h1
    refine ⟨rfl, Or.inr trivial, fun k hk => hag k 0 (by omega), ?_⟩
    rcases h2 with ⟨-, rfl⟩ | ⟨-, u9, -, rfl⟩ <;> exact hR.H

theorem cf_pre_grow {n nc ng : Nat} {S : cf_S} {P : cf_Pt} {O : Nat → Int64} {ad : cf_Ad} {x a1 : Int32} (hR : cf_R n nc ng S P) {r : Int32} {u : cf_St} (hL : (r = 1 ∧ ¬ (cf_lv P x) ∧ u = (nc, ng, S, P, O, ad)) ∨ (r = 2 ∧ (cf_lv P x) ∧ ¬ (cf_rg a1 1 7) ∧ u = (nc, ng, S, P, O, ad)) ∨ (r = 3 ∧ (cf_lv P x) ∧ (cf_rg a1 1 7) ∧ ¬ (∀ gp : Nat, x = nI gp → gp < 60 → P 15 0 gp = gp + 1 → gp < ng → S 2 gp 1 + a1 ≤ S 1 (P 0 (P 2 gp 0) 0) 1 ∧ (S 2 gp 1 + a1 ≤ S 3 (P 2 gp 1) 0 ∨ ∃ t, cf_best (cf_okT S (S 2 gp 1 + a1)) (cf_ltT S) 6 = some t)) ∧ u = (nc, ng, S, P, O, ad)) ∨ (r = 0 ∧ ∃ v : Int32, ∃ T : cf_S × cf_Pt, (∃ gp t : Nat, gp < 60 ∧ x = nI gp ∧ P 15 0 gp = gp + 1 ∧ gp < ng ∧ (cf_rg a1 1 7) ∧ S 2 gp 1 + a1 ≤ S 1 (P 0 (P 2 gp 0) 0) 1 ∧ ((S 2 gp 1 + a1 ≤ S 3 (P 2 gp 1) 0 ∧ t = P 2 gp 1) ∨ (S 3 (P 2 gp 1) 0 < S 2 gp 1 + a1 ∧ cf_best (cf_okT S (S 2 gp 1 + a1)) (cf_ltT S) 6 = some t)) ∧ v = nI t ∧ T = (cf_s3 (cf_s3 (cf_s3 S 3 (P 2 gp 1) 1 (-1)) 3 t 1 x) 2 gp 1 (S 2 gp 1 + a1), cf_p3 P 2 gp 1 t)) ∧ u = (nc, ng, T.1, T.2, vp_updL O 0 v.toInt64, ad))) : (u.1 = nc) ∧ (u.2.1 = ng) ∧ (∀ k, k = 5 ∨ k = 6 ∨ k = 17 ∨ k = 18 → u.2.2.2.2.2 k 0 = ad k 0) ∧ cf_H nc ng u.2.2.1 u.2.2.2.1 P := by
  rcases hL with ⟨-, -, rfl⟩ | ⟨-, -, -, rfl⟩ | ⟨-, -, -, -, rfl⟩ | ⟨-, v, Tc, h, rfl⟩
  · exact ⟨rfl, rfl, fun _ _ => rfl, hR.H⟩
  · exact ⟨rfl, rfl, fun _ _ => rfl, hR.H⟩
  · exact ⟨rfl, rfl, fun _ _ => rfl, hR.H⟩
  · obtain ⟨gp, t, -, -, -, -, -, -, -, -, rfl⟩ := h
    exact ⟨rfl, rfl, fun _ _ => rfl, hR.H⟩

theorem cf_pre_go {n nc ng : Nat} {S : cf_S} {P : cf_Pt} {O : Nat → Int64} {ad : cf_Ad} {x : Int32} (hR : cf_R n nc ng S P) {r : Int32} {u : cf_St} (hL : (r = 1 ∧ ¬ (cf_lv P x) ∧ u = (nc, ng, S, P, O, ad)) ∨ (r = 0 ∧ ∃ v : Int32, ∃ T : cf_S × cf_Pt, (∃ gp : Nat, gp < 60 ∧ x = nI gp ∧ P 15 0 gp = gp + 1 ∧ gp < ng ∧ v = S 5 0 2 - S 2 gp 0 ∧ T = (cf_s3 (cf_s3 (cf_s3 S 3 (P 2 gp 1) 1 (-1)) 0 (P 2 gp 0) 0 0) 1 (P 0 (P 2 gp 0) 0) 3 (S 1 (P 0 (P 2 gp 0) 0) 3 + 1), cf_p3 P 15 0 gp 0)) ∧ u = (nc, ng, T.1, T.2, vp_updL O 0 v.toInt64, ad))) : (u.1 = nc) ∧ (u.2.1 = ng) ∧ (∀ k, k = 5 ∨ k = 6 ∨ k = 17 ∨ k = 18 → u.2.2.2.2.2 k 0 = ad k 0) ∧ cf_H nc ng u.2.2.1 u.2.2.2.1 P := by
  rcases hL with ⟨-, -, rfl⟩ | ⟨-, v, Tc, h, rfl⟩
  · exact ⟨rfl, rfl, fun _ _ => rfl, hR.H⟩
  · obtain ⟨gp, -, -, -, -, -, rfl⟩ := h
    exact ⟨rfl, rfl, fun _ _ => rfl, hR.H⟩

theorem cf_pre_advance {n nc ng : Nat} {S : cf_S} {P : cf_Pt} {O : Nat → Int64} {ad : cf_Ad} {x : Int32} (hR : cf_R n nc ng S P) {r : Int32} {u : cf_St} (hL : (r = 1 ∧ ¬ (cf_rg x 1 1000) ∧ u = (nc, ng, S, P, O, ad)) ∨ (r = 2 ∧ (cf_rg x 1 1000) ∧ ¬ (S 5 0 2 + x ≤ 100000) ∧ u = (nc, ng, S, P, O, ad)) ∨ (r = 0 ∧ ∃ v : Int32, ∃ T : cf_S, (cf_rg x 1 1000 ∧ (S 5 0 2 + x ≤ 100000) ∧ v = S 5 0 2 + x ∧ T = cf_s3 S 5 0 2 (S 5 0 2 + x)) ∧ u = (nc, ng, T, P, vp_updL O 0 v.toInt64, ad))) : (u.1 = nc) ∧ (u.2.1 = ng) ∧ (∀ k, k = 5 ∨ k = 6 ∨ k = 17 ∨ k = 18 → u.2.2.2.2.2 k 0 = ad k 0) ∧ cf_H nc ng u.2.2.1 u.2.2.2.1 P := by
  rcases hL with ⟨-, -, rfl⟩ | ⟨-, -, -, rfl⟩ | ⟨-, v, Tc, h, rfl⟩
  · exact ⟨rfl, rfl, fun _ _ => rfl, hR.H⟩
  · exact ⟨rfl, rfl, fun _ _ => rfl, hR.H⟩
  · obtain ⟨-, -, -, rfl⟩ := h
    exact ⟨rfl, rfl, fun _ _ => rfl, hR.H⟩

theorem cf_pre_lend {n nc ng : Nat} {S : cf_S} {P : cf_Pt} {O : Nat → Int64} {ad : cf_Ad} {x y : Int32} (hR : cf_R n nc ng S P) {r : Int32} {u : cf_St} (hL : (r = 1 ∧ ¬ (cf_ix x nc ∧ cf_ix y 6) ∧ u = (nc, ng, S, P, O, ad)) ∨ (r = 2 ∧ (cf_ix x nc ∧ cf_ix y 6) ∧ ¬ (∀ cp b : Nat, x = nI cp → cp < nc → y = nI b → b < 6 → S 0 cp 0 = 0 ∧ P 16 0 b = 0) ∧ u = (nc, ng, S, P, O, ad)) ∨ (r = 0 ∧ ∃ v : Int32, ∃ T : cf_S × cf_Pt, (∃ cp b : Nat, cp < nc ∧ x = nI cp ∧ b < 6 ∧ y = nI b ∧ S 0 cp 0 = 0 ∧ P 16 0 b = 0 ∧ v = cf_worth (S 7 cp) ∧ T = (cf_s3 S 0 cp 0 2, cf_p3 P 16 0 b (cp + 1))) ∧ u = (nc, ng, T.1, T.2, vp_updL O 0 v.toInt64, ad))) : (u.1 = nc) ∧ (u.2.1 = ng) ∧ (∀ k, k = 5 ∨ k = 6 ∨ k = 17 ∨ k = 18 → u.2.2.2.2.2 k 0 = ad k 0) ∧ cf_H nc ng u.2.2.1 u.2.2.2.1 P := by
  rcases hL with ⟨-, -, rfl⟩ | ⟨-, -, -, rfl⟩ | ⟨-, v, Tc, h, rfl⟩
  · exact ⟨rfl, rfl, fun _ _ => rfl, hR.H⟩
  · exact ⟨rfl, rfl, fun _ _ => rfl, hR.H⟩
  · obtain ⟨cp, b, -, -, -, -, -, -, -, rfl⟩ := h
    exact ⟨rfl, rfl, fun _ _ => rfl, hR.H⟩

theorem cf_pre_giveBack {n nc ng : Nat} {S : cf_S} {P : cf_Pt} {O : Nat → Int64} {ad : cf_Ad} {x y a1 : Int32} (hR : cf_R n nc ng S P) {r : Int32} {u : cf_St} (hL : (r = 1 ∧ ¬ (cf_ix x 6 ∧ cf_ix y 4) ∧ u = (nc, ng, S, P, O, ad)) ∨ (r = 2 ∧ (cf_ix x 6 ∧ cf_ix y 4) ∧ ¬ (cf_rg a1 0 20) ∧ u = (nc, ng, S, P, O, ad)) ∨ (r = 3 ∧ (cf_ix x 6 ∧ cf_ix y 4) ∧ (cf_rg a1 0 20) ∧ ¬ (∀ b k : Nat, x = nI b → b < 6 → y = nI k → k < 4 → P 16 0 b ≠ 0 ∧ a1 ≤ S 7 (P 16 0 b - 1) k) ∧ u = (nc, ng, S, P, O, ad)) ∨ (r = 0 ∧ ∃ v : Int32, ∃ T : cf_S × cf_Pt, (∃ cp b k : Nat, cp < nc ∧ P 16 0 b = cp + 1 ∧ b < 6 ∧ x = nI b ∧ k < 4 ∧ y = nI k ∧ (cf_rg a1 0 20) ∧ a1 ≤ S 7 cp k ∧ v = cf_worth (S 7 cp) - a1 * (100 * (y + 1)) ∧ T = (cf_s3 (cf_s3 S 7 cp k (S 7 cp k - a1)) 0 cp 0 0, cf_p3 P 16 0 b 0)) ∧ u = (nc, ng, T.1, T.2, vp_updL O 0 v.toInt64, ad))) : (u.1 = nc) ∧ (u.2.1 = ng) ∧ (∀ k, k = 5 ∨ k = 6 ∨ k = 17 ∨ k = 18 → u.2.2.2.2.2 k 0 = ad k 0) ∧ cf_H nc ng u.2.2.1 u.2.2.2.1 P := by
  rcases hL with ⟨-, -, rfl⟩ | ⟨-, -, -, rfl⟩ | ⟨-, -, -, -, rfl⟩ | ⟨-, v, Tc, h, rfl⟩
  · exact ⟨rfl, rfl, fun _ _ => rfl, hR.H⟩
  · exact ⟨rfl, rfl, fun _ _ => rfl, hR.H⟩
  · exact ⟨rfl, rfl, fun _ _ => rfl, hR.H⟩
  · obtain ⟨cp, b, k, -, -, -, -, -, -, -, -, -, rfl⟩ := h
    exact ⟨rfl, rfl, fun _ _ => rfl, hR.H⟩

theorem cf_pre_parts {n nc ng : Nat} {S : cf_S} {P : cf_Pt} {O : Nat → Int64} {ad : cf_Ad} {x y : Int32} (hR : cf_R n nc ng S P) {r : Int32} {u : cf_St} (hL : (r = 1 ∧ ¬ (cf_ix x nc ∧ cf_ix y 4) ∧ u = (nc, ng, S, P, O, ad)) ∨ (r = 0 ∧ ∃ v : Int32, (∃ cp k : Nat, cp < nc ∧ x = nI cp ∧ k < 4 ∧ y = nI k ∧ v = S 7 cp k) ∧ u = (nc, ng, S, P, vp_updL O 0 v.toInt64, ad))) : (u.1 = nc) ∧ (u.2.1 = ng) ∧ (∀ k, k = 5 ∨ k = 6 ∨ k = 17 ∨ k = 18 → u.2.2.2.2.2 k 0 = ad k 0) ∧ cf_H nc ng u.2.2.1 u.2.2.2.1 P := by
  rcases hL with ⟨-, -, rfl⟩ | ⟨-, v, h, rfl⟩
  · exact ⟨rfl, rfl, fun _ _ => rfl, hR.H⟩
  · exact ⟨rfl, rfl, fun _ _ => rfl, hR.H⟩

theorem cf_pre_canBePlayed {n nc ng : Nat} {S : cf_S} {P : cf_Pt} {O : Nat → Int64} {ad : cf_Ad} {x : Int32} (hR : cf_R n nc ng S P) {r : Int32} {u : cf_St} (hL : (r = 1 ∧ ¬ (cf_ix x nc) ∧ u = (nc, ng, S, P, O, ad)) ∨ (r = 0 ∧ ∃ v : Int32, (∃ cp : Nat, cp < nc ∧ x = nI cp ∧ cf_B v (cf_play (S 7 cp) (S 9 (P 0 cp 0)))) ∧ ∃ w : Int64, ((v = 0 ∧ w = 0) ∨ (¬ v = 0 ∧ w = 1)) ∧ u = (nc, ng, S, P, vp_updL O 0 w, ad))) : (u.1 = nc) ∧ (u.2.1 = ng) ∧ (∀ k, k = 5 ∨ k = 6 ∨ k = 17 ∨ k = 18 → u.2.2.2.2.2 k 0 = ad k 0) ∧ cf_H nc ng u.2.2.1 u.2.2.2.1 P := by
  rcases hL with ⟨-, -, rfl⟩ | ⟨-, v, h, w, -, rfl⟩
  · exact ⟨rfl, rfl, fun _ _ => rfl, hR.H⟩
  · exact ⟨rfl, rfl, fun _ _ => rfl, hR.H⟩

theorem cf_pre_whereIs {n nc ng : Nat} {S : cf_S} {P : cf_Pt} {O : Nat → Int64} {ad : cf_Ad} {x : Int32} (hR : cf_R n nc ng S P) {r : Int32} {u : cf_St} (hL : (r = 1 ∧ ¬ (cf_ix x nc) ∧ u = (nc, ng, S, P, O, ad)) ∨ (r = 0 ∧ ∃ v : Int32, (∃ cp : Nat, cp < nc ∧ x = nI cp ∧ v = S 0 cp 0) ∧ u = (nc, ng, S, P, vp_updL O 0 v.toInt64, ad))) : (u.1 = nc) ∧ (u.2.1 = ng) ∧ (∀ k, k = 5 ∨ k = 6 ∨ k = 17 ∨ k = 18 → u.2.2.2.2.2 k 0 = ad k 0) ∧ cf_H nc ng u.2.2.1 u.2.2.2.1 P := by
  rcases hL with ⟨-, -, rfl⟩ | ⟨-, v, h, rfl⟩
  · exact ⟨rfl, rfl, fun _ _ => rfl, hR.H⟩
  · exact ⟨rfl, rfl, fun _ _ => rfl, hR.H⟩

theorem cf_pre_at {n nc ng : Nat} {S : cf_S} {P : cf_Pt} {O : Nat → Int64} {ad : cf_Ad} {x : Int32} (hR : cf_R n nc ng S P) {r : Int32} {u : cf_St} (hL : (r = 1 ∧ ¬ (cf_ix x 6) ∧ u = (nc, ng, S, P, O, ad)) ∨ (r = 0 ∧ ∃ v : Int32, (∃ j : Nat, j < 6 ∧ x = nI j ∧ v = S 3 j 1) ∧ u = (nc, ng, S, P, vp_updL O 0 v.toInt64, ad))) : (u.1 = nc) ∧ (u.2.1 = ng) ∧ (∀ k, k = 5 ∨ k = 6 ∨ k = 17 ∨ k = 18 → u.2.2.2.2.2 k 0 = ad k 0) ∧ cf_H nc ng u.2.2.1 u.2.2.2.1 P := by
  rcases hL with ⟨-, -, rfl⟩ | ⟨-, v, h, rfl⟩
  · exact ⟨rfl, rfl, fun _ _ => rfl, hR.H⟩
  · exact ⟨rfl, rfl, fun _ _ => rfl, hR.H⟩

theorem cf_pre_copyOf {n nc ng : Nat} {S : cf_S} {P : cf_Pt} {O : Nat → Int64} {ad : cf_Ad} {x : Int32} (hR : cf_R n nc ng S P) {r : Int32} {u : cf_St} (hL : (r = 1 ∧ ¬ (cf_lv P x) ∧ u = (nc, ng, S, P, O, ad)) ∨ (r = 0 ∧ ∃ v : Int32, (∃ gp : Nat, gp < 60 ∧ x = nI gp ∧ P 15 0 gp = gp + 1 ∧ gp < ng ∧ v = nI (P 2 gp 0)) ∧ u = (nc, ng, S, P, vp_updL O 0 v.toInt64, ad))) : (u.1 = nc) ∧ (u.2.1 = ng) ∧ (∀ k, k = 5 ∨ k = 6 ∨ k = 17 ∨ k = 18 → u.2.2.2.2.2 k 0 = ad k 0) ∧ cf_H nc ng u.2.2.1 u.2.2.2.1 P := by
  rcases hL with ⟨-, -, rfl⟩ | ⟨-, v, h, rfl⟩
  · exact ⟨rfl, rfl, fun _ _ => rfl, hR.H⟩
  · exact ⟨rfl, rfl, fun _ _ => rfl, hR.H⟩

theorem cf_pre_teaching {n nc ng : Nat} {S : cf_S} {P : cf_Pt} {O : Nat → Int64} {ad : cf_Ad} {x : Int32} (hR : cf_R n nc ng S P) {r : Int32} {u : cf_St} (hL : (r = 1 ∧ ¬ (cf_ix x 3) ∧ u = (nc, ng, S, P, O, ad)) ∨ (r = 0 ∧ ∃ v : Int32, (∃ j : Nat, j < 3 ∧ x = nI j ∧ v = if 0 < S 4 j 0 - S 5 0 2 then S 4 j 0 - S 5 0 2 else 0) ∧ u = (nc, ng, S, P, vp_updL O 0 v.toInt64, ad))) : (u.1 = nc) ∧ (u.2.1 = ng) ∧ (∀ k, k = 5 ∨ k = 6 ∨ k = 17 ∨ k = 18 → u.2.2.2.2.2 k 0 = ad k 0) ∧ cf_H nc ng u.2.2.1 u.2.2.2.1 P := by
  rcases hL with ⟨-, -, rfl⟩ | ⟨-, v, h, rfl⟩
  · exact ⟨rfl, rfl, fun _ _ => rfl, hR.H⟩
  · exact ⟨rfl, rfl, fun _ _ => rfl, hR.H⟩

theorem cf_pre_plays {n nc ng : Nat} {S : cf_S} {P : cf_Pt} {O : Nat → Int64} {ad : cf_Ad} {x : Int32} (hR : cf_R n nc ng S P) {r : Int32} {u : cf_St} (hL : (r = 1 ∧ ¬ (cf_ix x 5) ∧ u = (nc, ng, S, P, O, ad)) ∨ (r = 0 ∧ ∃ v : Int32, (∃ j : Nat, j < 5 ∧ x = nI j ∧ v = S 1 j 3) ∧ u = (nc, ng, S, P, vp_updL O 0 v.toInt64, ad))) : (u.1 = nc) ∧ (u.2.1 = ng) ∧ (∀ k, k = 5 ∨ k = 6 ∨ k = 17 ∨ k = 18 → u.2.2.2.2.2 k 0 = ad k 0) ∧ cf_H nc ng u.2.2.1 u.2.2.2.1 P := by
  rcases hL with ⟨-, -, rfl⟩ | ⟨-, v, h, rfl⟩
  · exact ⟨rfl, rfl, fun _ _ => rfl, hR.H⟩
  · exact ⟨rfl, rfl, fun _ _ => rfl, hR.H⟩

theorem cf_pre_propose {n nc ng : Nat} {S : cf_S} {P : cf_Pt} {O : Nat → Int64} {ad : cf_Ad} {x : Int32} (hR : cf_R n nc ng S P) {r : Int32} {u : cf_St} (hL : (r = 1 ∧ ¬ (cf_rg x 1 8) ∧ u = (nc, ng, S, P, O, ad)) ∨ (r = 0 ∧ ∃ v : Int32, (cf_rg x 1 8 ∧ ∃ b : Option Nat, v = cf_oi b ∧ b = cf_best (cf_okP nc S P x) (cf_ltP S) 5) ∧ u = (nc, ng, S, P, vp_updL O 0 v.toInt64, ad))) : (u.1 = nc) ∧ (u.2.1 = ng) ∧ (∀ k, k = 5 ∨ k = 6 ∨ k = 17 ∨ k = 18 → u.2.2.2.2.2 k 0 = ad k 0) ∧ cf_H nc ng u.2.2.1 u.2.2.2.1 P := by
  rcases hL with ⟨-, -, rfl⟩ | ⟨-, v, h, rfl⟩
  · exact ⟨rfl, rfl, fun _ _ => rfl, hR.H⟩
  · exact ⟨rfl, rfl, fun _ _ => rfl, hR.H⟩
