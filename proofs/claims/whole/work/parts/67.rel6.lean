theorem cf_sn {t : Nat} : ¬ (some t = none) := by simp
theorem cf_s3c {S : cf_S} {k i j k2 i2 j2 : Nat} {v v2 : Int32} (h : ¬ (k = k2 ∧ i = i2)) : cf_s3 (cf_s3 S k i j v) k2 i2 j2 v2 = cf_s3 (cf_s3 S k2 i2 j2 v2) k i j v := by
  funext a b c
  by_cases h1 : a = k ∧ b = i
  · obtain ⟨rfl, rfl⟩ := h1
    rw [cf_s3n (fun q => h ⟨q.1, q.2.1⟩)]
    by_cases h2 : c = j
    · subst h2; rw [cf_s3s, cf_s3s]
    · rw [cf_s3n (fun q => h2 q.2.2), cf_s3n (fun q => h2 q.2.2), cf_s3n (fun q => h ⟨q.1, q.2.1⟩)]
  · rw [cf_s3n (a := a) (b := b) (c := c) (k := k) (i := i) (fun q => h1 ⟨q.1, q.2.1⟩)]
    by_cases h2 : a = k2 ∧ b = i2 ∧ c = j2
    · obtain ⟨rfl, rfl, rfl⟩ := h2
      rw [cf_s3s, cf_s3s]
    · rw [cf_s3n h2, cf_s3n h2, cf_s3n (fun q => h1 ⟨q.1, q.2.1⟩)]
theorem cf_seatSc {S : cf_S} {ng i j : Nat} {x y v : Int32} : cf_s3 (cf_seatS S ng x y) 17 i j v = cf_seatS (cf_s3 S 17 i j v) ng x y := by
  funext a b c
  by_cases h2 : a = 2 ∧ b = ng
  · obtain ⟨rfl, rfl⟩ := h2
    rw [cf_s3n (by simp)]
    simp [cf_seatS, cf_g2]
  · have e : ∀ Z : cf_S, cf_seatS Z ng x y a b = Z a b := fun Z => cf_g2n h2
    rw [e]
    by_cases h3 : a = 17 ∧ b = i ∧ c = j
    · obtain ⟨rfl, rfl, rfl⟩ := h3
      rw [cf_s3s, cf_s3s]
    · rw [cf_s3n h3, cf_s3n h3, e]
/-- the end state of a seating, from the state Z with the teacher's minute in it -/
def cf_F (Z : cf_S) (ng t c : Nat) (x w : Int32) : cf_S := cf_s3 (cf_s3 (cf_s3 (cf_s3 (cf_s3 (cf_s3 (cf_s3 (cf_s3 (cf_s3 (cf_s3 (cf_s3 (cf_seatS Z ng x w) 5 0 1 (nI ng + 1)) 3 t 1 (nI ng)) 0 c 0 1) 6 0 23 0) 17 8 t (nI ng + 1)) 17 13 c 1) 17 16 ng x) 17 17 ng (nI t)) 17 18 ng (nI c)) 17 19 ng w) 6 0 15 (nI ng + 1)
theorem cf_R.until {n nc ng : Nat} {S : cf_S} {P : cf_Pt} (h : cf_R n nc ng S P) {u q : Nat} (hq : q ≤ 100060) : cf_R n nc ng (cf_s3 (cf_s3 S 4 u 0 (nI q)) 17 10 u (nI q)) P := by
  obtain ⟨a, b, c, d, e, f, g⟩ := h
  refine ⟨a, b, c, fun j hj => ⟨?_, (d j hj).2⟩, e, f, g⟩
  obtain ⟨⟨q2, hq2, e1, e2⟩, -⟩ := d j hj
  by_cases hju : j = u
  · subst hju
    exact ⟨q, hq, by rw [cf_s3n (by simp), cf_s3s], by rw [cf_s3s]⟩
  · exact ⟨q2, hq2, by rw [cf_s3n (by simp), cf_s3n (fun h => hju h.2.1)]; exact e1, by rw [cf_s3n (fun h => hju h.2.2), cf_s3n (by simp)]; exact e2⟩
theorem cf_R.seat {n nc ng : Nat} {Z : cf_S} {P : cf_Pt} (h : cf_R n nc ng Z P) (hlt : ng < 60) {t c9 : Nat} (ht : t < 6) (hc9 : c9 < nc) (c13 : Z 17 13 c9 = 0) {x w : Int32} : cf_R (n + 1) nc (ng + 1) (cf_F Z ng t c9 x w) (cf_seatP P ng c9 t) := by
  obtain ⟨a, b, c, d, e, f, g⟩ := h
  obtain ⟨a1, a2, a3, a4, a5, a6, a7, a8⟩ := a
  generalize hT : cf_F Z ng t c9 x w = T
  have p15 : ∀ j, cf_seatP P ng c9 t 15 0 j = if j = ng then ng + 1 else P 15 0 j := fun j => by by_cases h : j = ng <;> simp [cf_seatP, cf_p3, cf_g2, cf_u, h]
  have p2 : ∀ j, j ≠ ng → cf_seatP P ng c9 t 2 j = P 2 j := fun j h => by funext i; simp [cf_seatP, cf_p3, cf_g2, cf_u, h]
  have p20 : cf_seatP P ng c9 t 2 ng 0 = c9 := by simp [cf_seatP, cf_g2]
  have p21 : cf_seatP P ng c9 t 2 ng 1 = t := by simp [cf_seatP, cf_g2]
  have t0 : ∀ i, T 0 i 0 = if i = c9 then 1 else Z 0 i 0 := fun i => by subst hT; by_cases h : i = c9 <;> simp [cf_F, cf_seatS, cf_s3, cf_g2, upd, h]
  have t13 : ∀ i, T 17 13 i = if i = c9 then 1 else Z 17 13 i := fun i => by subst hT; by_cases h : i = c9 <;> simp [cf_F, cf_seatS, cf_s3, cf_g2, upd, h]
  have t8 : ∀ i, T 17 8 i = if i = t then nI ng + 1 else Z 17 8 i := fun i => by subst hT; by_cases h : i = t <;> simp [cf_F, cf_seatS, cf_s3, cf_g2, upd, h]
  have t31 : ∀ i, T 3 i 1 = if i = t then nI ng else Z 3 i 1 := fun i => by subst hT; by_cases h : i = t <;> simp [cf_F, cf_seatS, cf_s3, cf_g2, upd, h]
  have t30 : ∀ i, T 3 i 0 = Z 3 i 0 := fun i => by subst hT; by_cases h : i = t <;> simp [cf_F, cf_seatS, cf_s3, cf_g2, upd, h]
  have t2 : ∀ i, i ≠ ng → T 2 i = Z 2 i := fun i h => by subst hT; funext k; simp [cf_F, cf_seatS, cf_s3, cf_g2, upd, h]
  have t20 : T 2 ng 0 = w := by subst hT; simp [cf_F, cf_seatS, cf_s3, cf_g2, upd]
  have t21 : T 2 ng 1 = x := by subst hT; simp [cf_F, cf_seatS, cf_s3, cf_g2, upd]
  have t16 : ∀ i, T 17 16 i = if i = ng then x else Z 17 16 i := fun i => by subst hT; by_cases h : i = ng <;> simp [cf_F, cf_seatS, cf_s3, cf_g2, upd, h]
  have t17 : ∀ i, T 17 17 i = if i = ng then nI t else Z 17 17 i := fun i => by subst hT; by_cases h : i = ng <;> simp [cf_F, cf_seatS, cf_s3, cf_g2, upd, h]
  have t18 : ∀ i, T 17 18 i = if i = ng then nI c9 else Z 17 18 i := fun i => by subst hT; by_cases h : i = ng <;> simp [cf_F, cf_seatS, cf_s3, cf_g2, upd, h]
  have t19 : ∀ i, T 17 19 i = if i = ng then w else Z 17 19 i := fun i => by subst hT; by_cases h : i = ng <;> simp [cf_F, cf_seatS, cf_s3, cf_g2, upd, h]
  have t1720 : T 17 20 = Z 17 20 := by subst hT; rfl
  refine ⟨⟨a1, hlt, by subst hT; exact a3, by subst hT; exact nI_1 ng, by subst hT; exact a5, by subst hT; exact nI_1 ng, by subst hT; exact a7, a8⟩, by subst hT; exact b.up, fun i hi => ?_, by subst hT; exact d, ⟨fun i hi => ?_, fun i h1 h2 => ?_⟩, ⟨fun i hi => ?_, fun i hi => ?_, fun i h1 h2 => ?_⟩, fun i hi hl => ?_, fun i k hi hk h1 h2 hne => ?_, g.2.2.1, fun q hq => ?_, g.2.2.2.2⟩
  · obtain ⟨c1, q, hq, c2, c3⟩ := c i hi
    refine ⟨by rw [t30]; subst hT; exact c1, ?_⟩
    rw [t8, t31]
    by_cases h : i = t
    · rw [if_pos h, if_pos h]
      exact ⟨ng + 1, by omega, nI_1 ng, (nI_pred ng).symm⟩
    · rw [if_neg h, if_neg h]; exact ⟨q, hq, c2, c3⟩
  · obtain ⟨g1, g2, g3, g4⟩ := e.1 i hi
    refine ⟨g1, by subst hT; exact g2, ?_, by subst hT; exact g4⟩
    rw [t0, t13]
    by_cases h : i = c9
    · rw [if_pos h, if_pos h]
    · rw [if_neg h, if_neg h]; exact g3
  · rw [t13, if_neg (by omega)]; exact e.2 i h1 h2
  · rw [t16, t17, t18, t19, t1720, p15]
    by_cases h : i = ng
    · subst h
      rw [p20, p21, t20, t21, if_pos rfl, if_pos rfl, if_pos rfl, if_pos rfl, if_pos rfl]
      exact ⟨hc9, ht, rfl, rfl, rfl, rfl, Or.inl ⟨f.2.2 i (Nat.le_refl i) hlt, rfl⟩⟩
    · rw [p2 i h, t2 i h, if_neg h, if_neg h, if_neg h, if_neg h, if_neg h]
      exact f.1 i (by omega)
  · rw [p15, if_neg (by omega)]; exact f.2.1 i (by omega)
  · rw [t1720]; exact f.2.2 i (by omega) h2
  · rw [p15] at hl
    by_cases h : i = ng
    · rw [h, p20, t13, if_pos rfl]
    · rw [if_neg h] at hl
      rw [p2 i h, t13]
      by_cases h2 : P 2 i 0 = c9
      · rw [if_pos h2]
      · rw [if_neg h2]; exact g.1 i (by omega) hl
  · rw [p15] at h1 h2
    have old : ∀ z, z < ng → P 15 0 z ≠ 0 → P 2 z 0 ≠ c9 := fun z hz hl q => by
      have := g.1 z hz hl
      rw [q, c13] at this
      exact absurd this (by decide)
    by_cases hi2 : i = ng
    · by_cases hk2 : k = ng
      · exact absurd (hi2.trans hk2.symm) hne
      · rw [if_neg hk2] at h2
        rw [hi2, p20, p2 k hk2]
        exact fun q => old k (by omega) h2 q.symm
    · rw [if_neg hi2] at h1
      by_cases hk2 : k = ng
      · rw [hk2, p20, p2 i hi2]; exact old i (by omega) h1
      · rw [if_neg hk2] at h2
        rw [p2 i hi2, p2 k hk2]
        exact g.2.1 i k (by omega) (by omega) h1 h2 hne
  · rcases g.2.2.2.1 q hq with h9 | ⟨c', hc', g1, g2, g3, g4⟩
    · exact Or.inl (by subst hT; exact h9)
    · have hne : c' ≠ c9 := fun q => by rw [q, c13] at g3; exact absurd g3 (by decide)
      exact Or.inr ⟨c', hc', g1, by subst hT; exact g2, by rw [t13, if_neg hne]; exact g3, by subst hT; exact g4⟩
theorem cf_sim_seat {n nc ng : Nat} {S : cf_S} {P : cf_Pt} {O : Nat → Int64} {ad : cf_Ad} {x y b1 : Int32} (hR : cf_R n nc ng S P) {r : Int32} {u : cf_St} (hL : (r = 1 ∧ ¬ (cf_ix y 5) ∧ u = (nc, ng, S, P, O, ad)) ∨ (r = 2 ∧ (cf_ix y 5) ∧ ¬ (∀ gm : Nat, gm < 5 → y = nI gm → cf_rg x 1 8 ∧ ¬ x < S 1 gm 0 ∧ ¬ S 1 gm 1 < x) ∧ u = (nc, ng, S, P, O, ad)) ∨ (r = 3 ∧ (cf_ix y 5) ∧ (∀ gm : Nat, gm < 5 → y = nI gm → cf_rg x 1 8 ∧ ¬ x < S 1 gm 0 ∧ ¬ S 1 gm 1 < x) ∧ ¬ (∀ gm : Nat, gm < 5 → y = nI gm → ng < 60 ∧ (∃ t, cf_best (cf_okT S x) (cf_ltT S) 6 = some t) ∧ (∃ u, cf_fst (cf_okC nc S P gm) 15 (some u)) ∧ (b1 = 0 → ∃ u, cf_fst (cf_okS S gm) 3 (some u))) ∧ u = (nc, ng, S, P, O, ad)) ∨ (r = 0 ∧ ∃ v : Int32, ∃ T : cf_S × cf_Pt × cf_Ad, (∃ gm : Nat, gm < 5 ∧ y = nI gm ∧ ng < 60 ∧ (cf_rg x 1 8 ∧ ¬ x < S 1 gm 0 ∧ ¬ S 1 gm 1 < x) ∧ ∃ t c9 : Nat, cf_best (cf_okT S x) (cf_ltT S) 6 = some t ∧ cf_fst (cf_okC nc S P gm) 15 (some c9) ∧ v = nI ng ∧ T.2.1 = cf_seatP P ng c9 t ∧ (∀ k i, k ≠ 2 → T.2.2 k i = ad k i) ∧ ((¬ b1 = 0 ∧ T.1 = (cf_s3 (cf_s3 (cf_s3 (cf_seatS S ng x (S 5 0 2)) 5 0 1 ((nI ng) + 1)) 3 t 1 (nI ng)) 0 c9 0 1)) ∨ (b1 = 0 ∧ ∃ u9, cf_fst (cf_okS S gm) 3 (some u9) ∧ T.1 = (cf_s3 (cf_s3 (cf_s3 (cf_seatS (cf_s3 S 4 u9 0 ((S 5 0 2) + (S 1 gm 2))) ng x (S 5 0 2)) 5 0 1 ((nI ng) + 1)) 3 t 1 (nI ng)) 0 c9 0 1)))) ∧ u = (nc, (ng + 1), T.1, T.2.1, vp_updL O 0 v.toInt64, T.2.2))) {v2 : Int32} {T : cf_S} (hM : (¬ cf_ix y 5 ∧ T = (cf_s3 u.2.2.1 6 0 23 1)) ∨ ∃ gm : Nat, gm < 5 ∧ y = nI gm ∧ ((¬ (cf_rg x 1 8 ∧ cf_rg x (u.2.2.1 17 1 gm) (u.2.2.1 17 2 gm)) ∧ T = (cf_s3 u.2.2.1 6 0 23 2)) ∨ ((cf_rg x 1 8 ∧ cf_rg x (u.2.2.1 17 1 gm) (u.2.2.1 17 2 gm)) ∧ ∃ tb cb sb : Option Nat, tb = cf_best (cf_okTM u.2.2.1 x) (cf_ltTM u.2.2.1) 6 ∧ cf_fst (cf_okCM u.2.2.1 u.2.2.2.1 gm) u.1 cb ∧ ((¬ b1 = 0 ∧ sb = some 0) ∨ (b1 = 0 ∧ cf_fst (cf_okSM u.2.2.1 gm) 3 sb)) ∧ ((¬ (ng < 60 ∧ ¬ tb = none ∧ ¬ cb = none ∧ ¬ sb = none) ∧ T = cf_s3 (cf_s3 u.2.2.1 6 0 23 0) 6 0 23 3) ∨ ∃ t c9 u7 : Nat, ng < 60 ∧ tb = some t ∧ cb = some c9 ∧ sb = some u7 ∧ v2 = nI ng ∧ ((¬ b1 = 0 ∧ T = (cf_s3 (cf_s3 (cf_s3 (cf_s3 (cf_s3 (cf_s3 (cf_s3 (cf_s3 u.2.2.1 6 0 23 0) 17 8 t ((nI ng) + 1)) 17 13 c9 1) 17 16 ng x) 17 17 ng (nI t)) 17 18 ng (nI c9)) 17 19 ng (u.2.2.1 6 0 0)) 6 0 15 ((nI ng) + 1))) ∨ (b1 = 0 ∧ T = (cf_s3 (cf_s3 (cf_s3 (cf_s3 (cf_s3 (cf_s3 (cf_s3 (cf_s3 (cf_s3 u.2.2.1 6 0 23 0) 17 10 u7 ((u.2.2.1 6 0 0) + (u.2.2.1 17 3 gm))) 17 8 t ((nI ng) + 1)) 17 13 c9 1) 17 16 ng x) 17 17 ng (nI t)) 17 18 ng (nI c9)) 17 19 ng (u.2.2.1 6 0 0)) 6 0 15 ((nI ng) + 1)))))))) : T 6 0 23 = r ∧ (r = 0 → u.2.2.2.2.1 0 = v2.toInt64) ∧ cf_R (n + 1) u.1 u.2.1 T u.2.2.2.1 := by
  have hn15 := hR.1.1
  have hn60 := hR.1.2.1
  have hrg : ∀ gm, gm < 5 → ((cf_rg x 1 8 ∧ ¬ x < S 1 gm 0 ∧ ¬ S 1 gm 1 < x) ↔ (cf_rg x 1 8 ∧ cf_rg x (S 17 1 gm) (S 17 2 gm))) := fun gm hg => by
    obtain ⟨e1, e2, -⟩ := hR.2.1.1 gm hg
    rw [e1, e2, cf_rg2]
  rcases hL with ⟨rfl, h1, rfl⟩ | ⟨rfl, h1, h2, rfl⟩ | ⟨rfl, h1, h2, h3, rfl⟩ | ⟨rfl, v, ⟨S1, P1, ad1⟩, ⟨gm, hg, hy, hlt, hr, t, c9, hbest, hfst, hv, hP1, hag, hS⟩, rfl⟩
  · dsimp only at hM
    rcases hM with ⟨-, rfl⟩ | ⟨gm, hg, hy, -⟩
    · exact ⟨cf_s3s, cf_no (by decide), hR.th⟩
    · exact absurd ⟨gm, hg, hy⟩ h1
  · dsimp only at hM
    rcases hM with ⟨h, -⟩ | ⟨gm, hg, hy, ⟨-, rfl⟩ | ⟨h, -⟩⟩
    · exact absurd h1 h
    · exact ⟨cf_s3s, cf_no (by decide), hR.th⟩
    · refine absurd (fun g2 hg2 hy2 => ?_) h2
      have e1 : g2 = gm := cf_nI_inj (by omega) (by omega) (hy2.symm.trans hy)
      subst e1
      exact (hrg g2 hg2).mpr h
  · dsimp only at hM
    rcases hM with ⟨h, -⟩ | ⟨gm, hg, hy, ⟨h, -⟩ | ⟨-, tb, cb, sb, htb, hcb, hsb, ⟨-, rfl⟩ | ⟨t, c9, u, hn, rfl, rfl, rfl, -⟩⟩⟩
    · exact absurd h1 h
    · exact absurd ((hrg gm hg).mp (h2 gm hg hy)) h
    · exact ⟨cf_s3s, cf_no (by decide), hR.th2⟩
    · refine absurd (fun g2 hg2 hy2 => ?_) h3
      have e1 : g2 = gm := cf_nI_inj (by omega) (by omega) (hy2.symm.trans hy)
      subst e1
      refine ⟨hn, ⟨t, by rw [hR.best]; exact htb.symm⟩, ⟨c9, hR.fst.mpr hcb⟩, fun hb => ?_⟩
      rcases hsb with ⟨hb2, -⟩ | ⟨-, hsb⟩
      · exact absurd hb hb2
      · exact ⟨u, (hR.fstS hg).mpr hsb⟩
  · dsimp only at hM hP1 hS
    have ht6 : t < 6 := (cf_best_in hbest).1
    have hc9 : c9 < nc := (cf_fst_so hfst).2.1
    have c13 : S 17 13 c9 = 0 := by
      have := (cf_fst_so hfst).2.2.2.1
      rw [← (hR.2.2.2.2.1.1 c9 hc9).2.2.1]; exact this
    obtain ⟨tm, htm, hn1, hn2⟩ := hR.1.2.2.2.2.2.2.1
    obtain ⟨eg1, eg2, eg3, ⟨ql, hql, eg4⟩, -⟩ := hR.2.1.1 gm hg
    subst hP1
    have hz17 : S1 17 = S 17 := by
      rcases hS with ⟨-, h⟩ | ⟨-, u9, -, h⟩ <;> (subst h; rfl)
    have hz6 : S1 6 = S 6 := by
      rcases hS with ⟨-, h⟩ | ⟨-, u9, -, h⟩ <;> (subst h; rfl)
    have q1 : ∀ z, cf_okTM S1 z = cf_okTM S z := fun z => by unfold cf_okTM; rw [hz17]
    have q2 : cf_ltTM S1 = cf_ltTM S := by unfold cf_ltTM; rw [hz17]
    have q3 : cf_okCM S1 (cf_seatP P ng c9 t) gm = cf_okCM S P gm := by
      unfold cf_okCM cf_playM
      rw [hz17]; rfl
    have q4 : cf_okSM S1 gm = cf_okSM S gm := by unfold cf_okSM; rw [hz17, hz6]
    rcases hM with ⟨h, -⟩ | ⟨g2, hg2, hy2, hM⟩
    · exact absurd ⟨gm, hg, hy⟩ h
    · have e1 : g2 = gm := cf_nI_inj (by omega) (by omega) (hy2.symm.trans hy)
      subst e1
      rw [hz17, hz6, q1, q2, q3, q4, hn2] at hM
      rw [hn1] at hS
      rcases hM with ⟨h, -⟩ | ⟨-, tb, cb, sb, htb, hcb, hsb, hM⟩
      · exact absurd ((hrg g2 hg).mp hr) h
      · have htb2 : tb = some t := by rw [htb, ← hR.best]; exact hbest
        have hcb2 : cb = some c9 := cf_fst_one hcb (hR.fst.mp hfst)
        rcases hM with ⟨h, -⟩ | ⟨t2, c2, u2, -, h1, h2, h3, hv2, hM⟩
        · refine absurd ⟨hlt, (by rw [htb2]; exact cf_sn), (by rw [hcb2]; exact cf_sn), ?_⟩ h
          rcases hsb with ⟨-, hs⟩ | ⟨hb, hs⟩
          · rw [hs]; exact cf_sn
          · rcases hS with ⟨hb2, -⟩ | ⟨-, u9, hu, -⟩
            · exact absurd hb hb2
            · rw [cf_fst_one hs ((hR.fstS hg).mp hu)]; exact cf_sn
        · have e2 : t2 = t := Option.some.inj (h1.symm.trans htb2)
          have e3 : c2 = c9 := Option.some.inj (h2.symm.trans hcb2)
          subst e2; subst e3
          have hfin : T 6 0 23 = 0 ∧ cf_R (n + 1) nc (ng + 1) T (cf_seatP P ng c2 t2) := by
            rcases hS with ⟨hb, rfl⟩ | ⟨hb, u9, hu, rfl⟩ <;> rcases hM with ⟨hb2, rfl⟩ | ⟨hb2, rfl⟩
            · exact ⟨rfl, hR.seat hlt ht6 hc9 c13⟩
            · exact absurd hb2 hb
            · exact absurd hb hb2
            · have hu2 : u2 = u9 := by
                rcases hsb with ⟨hb3, -⟩ | ⟨-, hs⟩
                · exact absurd hb hb3
                · exact Option.some.inj (h3.symm.trans (cf_fst_one hs ((hR.fstS hg).mp hu)))
              subst hu2
              have hq : nI tm + S 17 3 g2 = nI (tm + ql) := by rw [eg4, nI_add]
              refine ⟨rfl, ?_⟩
              have hRZ := hR.until (u := u2) (q := tm + ql) (by omega)
              have := hRZ.seat hlt ht6 hc9 (show cf_s3 (cf_s3 S 4 u2 0 (nI (tm + ql))) 17 10 u2 (nI (tm + ql)) 17 13 c2 = 0 from c13) (x := x) (w := nI tm)
              rw [eg3, hq]
              rw [cf_s3c (k := 6) (i := 0) (k2 := 17) (i2 := 10) (by decide), cf_s3c (k := 0) (i := c2) (k2 := 17) (i2 := 10) (by simp), cf_s3c (k := 3) (i := t2) (k2 := 17) (i2 := 10) (by simp), cf_s3c (k := 5) (i := 0) (k2 := 17) (i2 := 10) (by decide), cf_seatSc]
              exact this
          exact ⟨hfin.1, fun _ => cf_vpe O (v := v) (by rw [hv, hv2]), hfin.2⟩
