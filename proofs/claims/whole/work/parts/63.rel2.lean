theorem cf_R.play {n nc ng : Nat} {S : cf_S} {P : cf_Pt} (h : cf_R n nc ng S P) {u : Nat} (hu : u < nc) : cf_play (S 7 u) (S 9 (P 0 u 0)) ↔ cf_playM S P u := by
  obtain ⟨hg, -, -, hq⟩ := h.2.2.2.2.1.1 u hu
  have key : ∀ k, k < 4 → (S 9 (P 0 u 0) k ≤ S 7 u k ↔ S 17 5 (4 * P 0 u 0 + k) ≤ S 17 14 (4 * u + k)) := by
    intro k hk
    obtain ⟨q, -, e1, e2⟩ := hq k hk
    obtain ⟨-, e3, -⟩ := h.2.1.2 (P 0 u 0) k hg hk
    rw [e1, e2, e3]
  exact ⟨fun a k hk => (key k hk).mp (a k hk), fun a k hk => (key k hk).mpr (a k hk)⟩
theorem cf_m1 {q : Nat} (hq : q < 2 ^ 31) : nI q - 1 = -1 ↔ nI q = 0 := by
  constructor
  · intro h
    have := congrArg (fun x => x + 1) h
    simpa using this
  · intro h
    rw [h]; rfl
theorem cf_R.best {n nc ng : Nat} {S : cf_S} {P : cf_Pt} (h : cf_R n nc ng S P) (x : Int32) : cf_best (cf_okT S x) (cf_ltT S) 6 = cf_best (cf_okTM S x) (cf_ltTM S) 6 := by
  refine cf_best_cong (fun i hi => ?_) (fun i j hi hj => ?_)
  · obtain ⟨e1, q, hq, e2, e3⟩ := h.2.2.1 i hi
    unfold cf_okT cf_okTM
    rw [e1, e2, e3]
    congr 1
    exact decide_eq_decide.mpr (cf_m1 (by omega))
  · unfold cf_ltT cf_ltTM
    rw [(h.2.2.1 i hi).1, (h.2.2.1 j hj).1]
theorem cf_R.okC {n nc ng : Nat} {S : cf_S} {P : cf_Pt} (h : cf_R n nc ng S P) {g u : Nat} (hu : u < nc) : cf_okC nc S P g u ↔ cf_okCM S P g u := by
  unfold cf_okC cf_okCM
  rw [(h.2.2.2.2.1.1 u hu).2.2.1, h.play hu]
  exact ⟨fun q => q.2, fun q => ⟨hu, q⟩⟩
theorem cf_R.fst {n nc ng : Nat} {S : cf_S} {P : cf_Pt} (h : cf_R n nc ng S P) {g : Nat} {b : Option Nat} : cf_fst (cf_okC nc S P g) 15 b ↔ cf_fst (cf_okCM S P g) nc b := by
  have hn := h.1.1
  constructor
  · rintro (⟨rfl, h1⟩ | ⟨i, rfl, hi, h1, h2⟩)
    · exact Or.inl ⟨rfl, fun u hu q => h1 u (by omega) ((h.okC hu).mpr q)⟩
    · have hl := h1.1
      exact Or.inr ⟨i, rfl, hl, (h.okC hl).mp h1, fun u hu q => h2 u hu ((h.okC (Nat.lt_trans hu hl)).mpr q)⟩
  · rintro (⟨rfl, h1⟩ | ⟨i, rfl, hi, h1, h2⟩)
    · exact Or.inl ⟨rfl, fun u hu q => h1 u q.1 ((h.okC q.1).mp q)⟩
    · exact Or.inr ⟨i, rfl, by omega, (h.okC hi).mpr h1, fun u hu q => h2 u hu ((h.okC q.1).mp q)⟩
theorem cf_R.fstS {n nc ng : Nat} {S : cf_S} {P : cf_Pt} (h : cf_R n nc ng S P) {g : Nat} (hg : g < 5) {b : Option Nat} : cf_fst (cf_okS S g) 3 b ↔ cf_fst (cf_okSM S g) 3 b := by
  have key : ∀ u, u < 3 → (cf_okS S g u ↔ cf_okSM S g u) := by
    intro u hu
    obtain ⟨⟨q, hq, e1, e2⟩, h3⟩ := h.2.2.2.1 u hu
    obtain ⟨t, ht, e4, e5⟩ := h.1.2.2.2.2.2.2.1
    unfold cf_okS cf_okSM
    rw [e1, e2, e4, e5]
    rcases h3 g hg with ⟨e6, e7⟩ | ⟨e6, e7⟩
    · rw [e6, e7]
      exact ⟨fun a => ⟨by decide, Int32.not_lt.mp a.2⟩, fun a => ⟨by decide, Int32.not_lt.mpr a.2⟩⟩
    · rw [e6, e7]
      exact ⟨fun a => absurd rfl a.1, fun a => absurd rfl a.1⟩
  constructor
  · rintro (⟨rfl, h1⟩ | ⟨i, rfl, hi, h1, h2⟩)
    · exact Or.inl ⟨rfl, fun u hu q => h1 u hu ((key u hu).mpr q)⟩
    · exact Or.inr ⟨i, rfl, hi, (key i hi).mp h1, fun u hu q => h2 u hu ((key u (Nat.lt_trans hu hi)).mpr q)⟩
  · rintro (⟨rfl, h1⟩ | ⟨i, rfl, hi, h1, h2⟩)
    · exact Or.inl ⟨rfl, fun u hu q => h1 u hu ((key u hu).mp q)⟩
    · exact Or.inr ⟨i, rfl, hi, (key i hi).mpr h1, fun u hu q => h2 u hu ((key u (Nat.lt_trans hu hi)).mp q)⟩
theorem cf_least {ok : Nat → Prop} : ∀ c : Nat, ok c → ∃ i, i ≤ c ∧ ok i ∧ ∀ u, u < i → ¬ ok u := by
  intro c
  induction c using Nat.strongRecOn with
  | ind c ih =>
    intro h
    by_cases hu : ∃ u, u < c ∧ ok u
    · obtain ⟨u, h1, h2⟩ := hu
      obtain ⟨i, h3, h4⟩ := ih u h1 h2
      exact ⟨i, by omega, h4⟩
    · exact ⟨c, Nat.le_refl c, h, fun u h1 h2 => hu ⟨u, h1, h2⟩⟩
theorem cf_fst_ex {ok : Nat → Prop} {N : Nat} : (∃ u, cf_fst ok N (some u)) ↔ ∃ c, c < N ∧ ok c := by
  constructor
  · rintro ⟨u, h⟩; exact ⟨u, cf_fst_so h⟩
  · rintro ⟨c, hc, h⟩
    obtain ⟨i, h1, h2, h3⟩ := cf_least c h
    exact ⟨i, Or.inr ⟨i, rfl, by omega, h2, h3⟩⟩
theorem cf_rg2 {x a b : Int32} : (¬ x < a ∧ ¬ b < x) ↔ cf_rg x a b := ⟨fun h => ⟨Int32.not_lt.mp h.1, Int32.not_lt.mp h.2⟩, fun h => ⟨Int32.not_lt.mpr h.1, Int32.not_lt.mpr h.2⟩⟩
theorem cf_lt60 {n : Nat} (h : n ≤ 60) : nI n < 60 ↔ n < 60 := nI_ltI (b := 60) (by omega) (by decide)
theorem cf_some {b : Option Nat} : (∃ t, b = some t) ↔ ¬ b = none := by
  cases b <;> simp
theorem cf_R.okP {n nc ng : Nat} {S : cf_S} {P : cf_Pt} (h : cf_R n nc ng S P) (x : Int32) {g : Nat} (hg : g < 5) : cf_okP nc S P x g = cf_okPM S P nc ng x g := by
  refine cf_dec_iff ?_
  obtain ⟨e1, e2, -⟩ := h.2.1.1 g hg
  unfold cf_canM
  show (S 5 0 1 < 60 ∧ (¬ x < S 1 g 0 ∧ ¬ S 1 g 1 < x) ∧ (∃ t, cf_best (cf_okT S x) (cf_ltT S) 6 = some t) ∧ ∃ u, cf_fst (cf_okC nc S P g) 15 (some u)) ↔ _
  rw [h.1.2.2.2.1, cf_lt60 h.1.2.1, h.best x, cf_some, e1, e2, cf_rg2, show (∃ u, cf_fst (cf_okC nc S P g) 15 (some u)) ↔ ∃ c, c < nc ∧ cf_okCM S P g c from ⟨fun ⟨u, q⟩ => cf_fst_ex.mp ⟨u, h.fst.mp q⟩, fun q => by obtain ⟨u, q⟩ := cf_fst_ex.mpr q; exact ⟨u, h.fst.mpr q⟩⟩]
  constructor
  · rintro ⟨a, b, c, d⟩; exact ⟨a, c, b, d⟩
  · rintro ⟨a, c, b, d⟩; exact ⟨a, b, c, d⟩
theorem cf_rgN {a lo : Int32} {m : Nat} (hlo : 0 ≤ lo) (hm : m < 2 ^ 31) (h : cf_rg a lo (nI m)) : ∃ q : Nat, q ≤ m ∧ a = nI q := by
  obtain ⟨j, hj, rfl⟩ := nI_of (Int32.not_lt.mpr (Int32.le_trans hlo h.1))
  refine ⟨j, ?_, rfl⟩
  have := h.2
  rcases Nat.lt_or_ge m j with h9 | h9
  · exact absurd (nI_lt h9 hj) (Int32.not_lt.mpr this)
  · exact h9
theorem cf_4 {a b c d : Nat} (hb : b < 4) (hd : d < 4) : 4 * a + b = 4 * c + d ↔ a = c ∧ b = d := by omega
theorem cf_5 {a b c d : Nat} (hb : b < 5) (hd : d < 5) : 5 * a + b = 5 * c + d ↔ a = c ∧ b = d := by omega
theorem cf_sim_canBePlayed {n nc ng : Nat} {S : cf_S} {P : cf_Pt} {O : Nat → Int64} {ad : cf_Ad} {x : Int32} (hR : cf_R n nc ng S P) {r : Int32} {u : cf_St} (hL : (r = 1 ∧ ¬ (cf_ix x nc) ∧ u = (nc, ng, S, P, O, ad)) ∨ (r = 0 ∧ ∃ v : Int32, (∃ cp : Nat, cp < nc ∧ x = nI cp ∧ cf_B v (cf_play (S 7 cp) (S 9 (P 0 cp 0)))) ∧ ∃ w : Int64, ((v = 0 ∧ w = 0) ∨ (¬ v = 0 ∧ w = 1)) ∧ u = (nc, ng, S, P, vp_updL O 0 w, ad))) {v2 : Int32} {T : cf_S} (hM : (¬ cf_ix x u.1 ∧ T = (cf_s3 u.2.2.1 6 0 23 1)) ∨ ∃ cp : Nat, cp < u.1 ∧ x = nI cp ∧ cf_B v2 (cf_playM u.2.2.1 u.2.2.2.1 cp) ∧ T = (cf_s3 u.2.2.1 6 0 23 0)) : T 6 0 23 = r ∧ (r = 0 → u.2.2.2.2.1 0 = (if v2 = 0 then 0 else 1)) ∧ cf_R (n + 1) u.1 u.2.1 T u.2.2.2.1 := by
  rcases hL with ⟨rfl, h1, rfl⟩ | ⟨rfl, v, ⟨cp, hc, hx, hv⟩, w, hw, rfl⟩
  · dsimp only at hM
    rcases hM with ⟨-, rfl⟩ | ⟨cp, hc, hx, -, -⟩
    · exact ⟨cf_s3s, cf_no (by decide), hR.th⟩
    · exact absurd ⟨cp, hc, hx⟩ h1
  · dsimp only at hM
    rcases hM with ⟨h1, -⟩ | ⟨cp2, hc2, hx2, hv2, rfl⟩
    · exact absurd ⟨cp, hc, hx⟩ h1
    · have hn := hR.1.1
      have e1 : cp2 = cp := cf_nI_inj (by omega) (by omega) (hx2.symm.trans hx)
      subst e1
      refine ⟨cf_s3s, fun _ => ?_, hR.th⟩
      show vp_updL O 0 w 0 = if v2 = 0 then 0 else 1
      rw [cf_vpu]
      rw [hR.play hc] at hv
      rcases hv with ⟨rfl, hv⟩ | ⟨rfl, hv⟩ <;> rcases hv2 with ⟨rfl, hv2⟩ | ⟨rfl, hv2⟩ <;> rcases hw with ⟨hw1, rfl⟩ | ⟨hw1, rfl⟩ <;> first | rfl | exact absurd hv hv2 | exact absurd hv2 hv | exact absurd hw1 (by decide) | exact absurd rfl hw1

theorem cf_sim_propose {n nc ng : Nat} {S : cf_S} {P : cf_Pt} {O : Nat → Int64} {ad : cf_Ad} {x : Int32} (hR : cf_R n nc ng S P) {r : Int32} {u : cf_St} (hL : (r = 1 ∧ ¬ (cf_rg x 1 8) ∧ u = (nc, ng, S, P, O, ad)) ∨ (r = 0 ∧ ∃ v : Int32, (cf_rg x 1 8 ∧ ∃ b : Option Nat, v = cf_oi b ∧ b = cf_best (cf_okP nc S P x) (cf_ltP S) 5) ∧ u = (nc, ng, S, P, vp_updL O 0 v.toInt64, ad))) {v2 : Int32} {T : cf_S} (hM : (¬ cf_rg x 1 8 ∧ T = (cf_s3 u.2.2.1 6 0 23 1)) ∨ (cf_rg x 1 8 ∧ T = (cf_s3 u.2.2.1 6 0 23 0) ∧ ∃ b : Option Nat, v2 = cf_oi b ∧ b = cf_best (cf_okPM u.2.2.1 u.2.2.2.1 u.1 u.2.1 x) (cf_ltPM u.2.2.1) 5)) : T 6 0 23 = r ∧ (r = 0 → u.2.2.2.2.1 0 = v2.toInt64) ∧ cf_R (n + 1) u.1 u.2.1 T u.2.2.2.1 := by
  rcases hL with ⟨rfl, h1, rfl⟩ | ⟨rfl, v, ⟨hx, b, hv, hb⟩, rfl⟩
  · dsimp only at hM
    rcases hM with ⟨-, rfl⟩ | ⟨hx, -, -⟩
    · exact ⟨cf_s3s, cf_no (by decide), hR.th⟩
    · exact absurd hx h1
  · dsimp only at hM
    rcases hM with ⟨h1, -⟩ | ⟨hx2, rfl, b2, hv2, hb2⟩
    · exact absurd hx h1
    · have e : b2 = b := by
        rw [hb, hb2]
        refine (cf_best_cong (fun i hi => hR.okP x hi) (fun i j hi hj => ?_)).symm
        obtain ⟨-, -, -, -, q, -, e1, e2⟩ := hR.2.1.1 i hi
        obtain ⟨-, -, -, -, q2, -, e3, e4⟩ := hR.2.1.1 j hj
        show decide (S 1 j 3 < S 1 i 3) = decide (S 17 6 j < S 17 6 i)
        rw [e1, e2, e3, e4]
      exact ⟨cf_s3s, fun _ => cf_vpe O (v := v) (by rw [hv2, hv, e]), hR.th⟩

theorem cf_sim_setGame {n nc ng : Nat} {S : cf_S} {P : cf_Pt} {O : Nat → Int64} {ad : cf_Ad} {x a1 a2 a3 : Int32} (hR : cf_R n nc ng S P) {r : Int32} {u : cf_St} (hL : (r = 1 ∧ ¬ (cf_ix x 5) ∧ u = (nc, ng, S, P, O, ad)) ∨ (r = 2 ∧ (cf_ix x 5) ∧ ¬ (cf_rg a1 1 8 ∧ cf_rg a2 a1 8 ∧ cf_rg a3 1 60) ∧ u = (nc, ng, S, P, O, ad)) ∨ (r = 0 ∧ ∃ T : cf_S, (∃ j : Nat, j < 5 ∧ x = nI j ∧ (cf_rg a1 1 8 ∧ cf_rg a2 a1 8 ∧ cf_rg a3 1 60) ∧ T = cf_s3 (cf_s3 (cf_s3 S 1 j 0 a1) 1 j 1 a2) 1 j 2 a3) ∧ u = (nc, ng, T, P, O, ad))) {v2 : Int32} {T : cf_S} (hM : (¬ cf_ix x 5 ∧ T = (cf_s3 u.2.2.1 6 0 23 1)) ∨ (cf_ix x 5 ∧ ¬ (cf_rg a1 1 8 ∧ cf_rg a2 a1 8 ∧ cf_rg a3 1 60) ∧ T = (cf_s3 u.2.2.1 6 0 23 2)) ∨ ∃ j : Nat, j < 5 ∧ x = nI j ∧ (cf_rg a1 1 8 ∧ cf_rg a2 a1 8 ∧ cf_rg a3 1 60) ∧ T = cf_s3 (cf_s3 (cf_s3 (cf_s3 u.2.2.1 6 0 23 0) 17 1 j a1) 17 2 j a2) 17 3 j a3) : T 6 0 23 = r ∧ cf_R (n + 1) u.1 u.2.1 T u.2.2.2.1 := by
  rcases hL with ⟨rfl, h1, rfl⟩ | ⟨rfl, h1, h2, rfl⟩ | ⟨rfl, Tc, ⟨j, hj, hx, hr, rfl⟩, rfl⟩
  · dsimp only at hM
    rcases hM with ⟨-, rfl⟩ | ⟨h, -⟩ | ⟨j, hj, hx, -⟩
    · exact ⟨cf_s3s, hR.th⟩
    · exact absurd h h1
    · exact absurd ⟨j, hj, hx⟩ h1
  · dsimp only at hM
    rcases hM with ⟨h, -⟩ | ⟨-, -, rfl⟩ | ⟨j, hj, hx, h, -⟩
    · exact absurd h1 h
    · exact ⟨cf_s3s, hR.th⟩
    · exact absurd h h2
  · dsimp only at hM
    rcases hM with ⟨h, -⟩ | ⟨-, h, -⟩ | ⟨j2, hj2, hx2, -, rfl⟩
    · exact absurd ⟨j, hj, hx⟩ h
    · exact absurd hr h
    · have e1 : j2 = j := cf_nI_inj (by omega) (by omega) (hx2.symm.trans hx)
      subst e1
      obtain ⟨a, b, c, d, e, f, g⟩ := hR
      refine ⟨rfl, a, ⟨fun t ht => ?_, b.2⟩, c, d, e, f, g⟩
      by_cases htj : t = j2
      · subst htj
        obtain ⟨-, -, -, -, q⟩ := b.1 t ht
        obtain ⟨q2, hq2⟩ := cf_rgN (m := 60) (by decide) (by decide) hr.2.2
        obtain ⟨q3, h3, h4, h5⟩ := q
        refine ⟨by simp [cf_s3, cf_g2, upd], by simp [cf_s3, cf_g2, upd], by simp [cf_s3, cf_g2, upd], ⟨q2, hq2.1, ?_⟩, q3, by omega, ?_, ?_⟩
        · rw [← hq2.2]; simp [cf_s3, cf_g2, upd]
        · rw [← h4]; simp [cf_s3, cf_g2, upd]
        · rw [← h5]; simp [cf_s3, cf_g2, upd]
      · obtain ⟨e1, e2, e3, ⟨q, h1, h2⟩, q3, h3, h4, h5⟩ := b.1 t ht
        refine ⟨?_, ?_, ?_, ⟨q, h1, ?_⟩, q3, by omega, ?_, ?_⟩
        · simpa [cf_s3, cf_g2, upd, htj] using e1
        · simpa [cf_s3, cf_g2, upd, htj] using e2
        · simpa [cf_s3, cf_g2, upd, htj] using e3
        · simpa [cf_s3, cf_g2, upd, htj] using h2
        · simpa [cf_s3, cf_g2, upd, htj] using h4
        · simpa [cf_s3, cf_g2, upd, htj] using h5

theorem cf_sim_setParts {n nc ng : Nat} {S : cf_S} {P : cf_Pt} {O : Nat → Int64} {ad : cf_Ad} {x y a1 a2 : Int32} (hR : cf_R n nc ng S P) {r : Int32} {u : cf_St} (hL : (r = 1 ∧ ¬ (cf_ix x 5 ∧ cf_ix y 4) ∧ u = (nc, ng, S, P, O, ad)) ∨ (r = 2 ∧ (cf_ix x 5 ∧ cf_ix y 4) ∧ ¬ (cf_rg a1 0 20 ∧ cf_rg a2 0 a1) ∧ u = (nc, ng, S, P, O, ad)) ∨ (r = 0 ∧ ∃ T : cf_S, (∃ j k : Nat, j < 5 ∧ x = nI j ∧ k < 4 ∧ y = nI k ∧ (cf_rg a1 0 20 ∧ cf_rg a2 0 a1) ∧ T = cf_s3 (cf_s3 S 8 j k a1) 9 j k a2) ∧ u = (nc, ng, T, P, O, ad))) {v2 : Int32} {T : cf_S} (hM : (¬ (cf_ix x 5 ∧ cf_ix y 4) ∧ T = (cf_s3 u.2.2.1 6 0 23 1)) ∨ ((cf_ix x 5 ∧ cf_ix y 4) ∧ ¬ (cf_rg a1 0 20 ∧ cf_rg a2 0 a1) ∧ T = (cf_s3 u.2.2.1 6 0 23 2)) ∨ ∃ j k : Nat, j < 5 ∧ x = nI j ∧ k < 4 ∧ y = nI k ∧ (cf_rg a1 0 20 ∧ cf_rg a2 0 a1) ∧ T = cf_s3 (cf_s3 (cf_s3 u.2.2.1 6 0 23 0) 17 4 (4 * j + k) a1) 17 5 (4 * j + k) a2) : T 6 0 23 = r ∧ cf_R (n + 1) u.1 u.2.1 T u.2.2.2.1 := by
  rcases hL with ⟨rfl, h1, rfl⟩ | ⟨rfl, h1, h2, rfl⟩ | ⟨rfl, Tc, ⟨j, k, hj, hx, hk, hy, hr, rfl⟩, rfl⟩
  · dsimp only at hM
    rcases hM with ⟨-, rfl⟩ | ⟨h, -⟩ | ⟨j, k, hj, hx, hk, hy, -⟩
    · exact ⟨cf_s3s, hR.th⟩
    · exact absurd h h1
    · exact absurd ⟨⟨j, hj, hx⟩, ⟨k, hk, hy⟩⟩ h1
  · dsimp only at hM
    rcases hM with ⟨h, -⟩ | ⟨-, -, rfl⟩ | ⟨j, k, hj, hx, hk, hy, h, -⟩
    · exact absurd h1 h
    · exact ⟨cf_s3s, hR.th⟩
    · exact absurd h h2
  · dsimp only at hM
    rcases hM with ⟨h, -⟩ | ⟨-, h, -⟩ | ⟨j2, k2, hj2, hx2, hk2, hy2, -, rfl⟩
    · exact absurd ⟨⟨j, hj, hx⟩, ⟨k, hk, hy⟩⟩ h
    · exact absurd hr h
    · have e1 : j2 = j := cf_nI_inj (by omega) (by omega) (hx2.symm.trans hx)
      have e2 : k2 = k := cf_nI_inj (by omega) (by omega) (hy2.symm.trans hy)
      subst e1; subst e2
      obtain ⟨a, b, c, d, e, f, g⟩ := hR
      refine ⟨rfl, a, ⟨b.up.1, fun t i ht hi => ?_⟩, c, d, e, f, g⟩
      obtain ⟨e1, e2, q, hq, e3⟩ := b.2 t i ht hi
      have hix := cf_4 (a := t) (c := j2) hi hk2
      by_cases htj : t = j2 ∧ i = k2
      · obtain ⟨rfl, rfl⟩ := htj
        obtain ⟨q2, hq2, e4⟩ := cf_rgN (m := 20) (by decide) (by decide) hr.1
        refine ⟨by simp [cf_s3, cf_g2, upd], by simp [cf_s3, cf_g2, upd], q2, hq2, ?_⟩
        rw [← e4]; simp [cf_s3, cf_g2, upd]
      · have hn1 : ¬ 4 * t + i = 4 * j2 + k2 := fun q => htj (hix.mp q)
        have h8 : ∀ (Z : cf_S) (A B : Int32), cf_s3 (cf_s3 (cf_s3 Z 6 0 23 0) 17 4 (4 * j2 + k2) A) 17 5 (4 * j2 + k2) B 17 4 (4 * t + i) = Z 17 4 (4 * t + i) := fun Z A B => by rw [cf_s3n (by simp), cf_s3n (fun q => hn1 q.2.2), cf_s3n (by simp)]
        have h9 : ∀ (Z : cf_S) (A B : Int32), cf_s3 (cf_s3 (cf_s3 Z 6 0 23 0) 17 4 (4 * j2 + k2) A) 17 5 (4 * j2 + k2) B 17 5 (4 * t + i) = Z 17 5 (4 * t + i) := fun Z A B => by rw [cf_s3n (fun q => hn1 q.2.2), cf_s3n (by simp), cf_s3n (by simp)]
        have h6 : ∀ (Z : cf_S) (A B : Int32), cf_s3 (cf_s3 Z 8 j2 k2 A) 9 j2 k2 B 8 t i = Z 8 t i := fun Z A B => by rw [cf_s3n (by simp), cf_s3n (fun q => htj q.2)]
        have h7 : ∀ (Z : cf_S) (A B : Int32), cf_s3 (cf_s3 Z 8 j2 k2 A) 9 j2 k2 B 9 t i = Z 9 t i := fun Z A B => by rw [cf_s3n (fun q => htj q.2), cf_s3n (by simp)]
        refine ⟨?_, ?_, q, hq, ?_⟩
        · exact (h6 S a1 a2).trans (e1.trans (h8 S a1 a2).symm)
        · exact (h7 S a1 a2).trans (e2.trans (h9 S a1 a2).symm)
        · exact (h6 S a1 a2).trans e3

theorem cf_sim_advance {n nc ng : Nat} {S : cf_S} {P : cf_Pt} {O : Nat → Int64} {ad : cf_Ad} {x : Int32} (hR : cf_R n nc ng S P) {r : Int32} {u : cf_St} (hL : (r = 1 ∧ ¬ (cf_rg x 1 1000) ∧ u = (nc, ng, S, P, O, ad)) ∨ (r = 2 ∧ (cf_rg x 1 1000) ∧ ¬ (S 5 0 2 + x ≤ 100000) ∧ u = (nc, ng, S, P, O, ad)) ∨ (r = 0 ∧ ∃ v : Int32, ∃ T : cf_S, (cf_rg x 1 1000 ∧ (S 5 0 2 + x ≤ 100000) ∧ v = S 5 0 2 + x ∧ T = cf_s3 S 5 0 2 (S 5 0 2 + x)) ∧ u = (nc, ng, T, P, vp_updL O 0 v.toInt64, ad))) {v2 : Int32} {T : cf_S} (hM : (¬ cf_rg x 1 1000 ∧ T = cf_s3 (cf_s3 u.2.2.1 6 0 23 1) 6 0 0 (u.2.2.1 6 0 0 + 0)) ∨ (cf_rg x 1 1000 ∧ ¬ (u.2.2.1 6 0 0 + x ≤ 100000) ∧ T = cf_s3 (cf_s3 u.2.2.1 6 0 23 2) 6 0 0 (u.2.2.1 6 0 0 + 0)) ∨ (cf_rg x 1 1000 ∧ (u.2.2.1 6 0 0 + x ≤ 100000) ∧ v2 = u.2.2.1 6 0 0 + x ∧ T = cf_s3 (cf_s3 u.2.2.1 6 0 23 0) 6 0 0 (u.2.2.1 6 0 0 + x))) : T 6 0 23 = r ∧ (r = 0 → u.2.2.2.2.1 0 = v2.toInt64) ∧ cf_R (n + 1) u.1 u.2.1 T u.2.2.2.1 := by
  obtain ⟨t, ht, e1, e2⟩ := hR.1.2.2.2.2.2.2.1
  rcases hL with ⟨rfl, h1, rfl⟩ | ⟨rfl, h1, h2, rfl⟩ | ⟨rfl, v, Tc, ⟨hx, hy, hv, rfl⟩, rfl⟩
  · dsimp only at hM
    rcases hM with ⟨-, rfl⟩ | ⟨h, -⟩ | ⟨h, -⟩
    · refine ⟨rfl, cf_no (by decide), ?_⟩
      obtain ⟨a, b, c, d, e, f, g⟩ := hR
      obtain ⟨a1, a2, a3, a4, a5, a6, a7, a8⟩ := a
      exact ⟨⟨a1, a2, a3, a4, a5, a6, ⟨t, ht, e1, by rw [cf_s3s, e2]; simp⟩, a8⟩, b.up, c, d, e, f, g⟩
    · exact absurd h h1
    · exact absurd h h1
  · dsimp only at hM
    rw [e1] at h2
    rw [e2] at hM
    rcases hM with ⟨h, -⟩ | ⟨-, -, rfl⟩ | ⟨-, h, -⟩
    · exact absurd h1 h
    · refine ⟨rfl, cf_no (by decide), ?_⟩
      obtain ⟨a, b, c, d, e, f, g⟩ := hR
      obtain ⟨a1, a2, a3, a4, a5, a6, a7, a8⟩ := a
      exact ⟨⟨a1, a2, a3, a4, a5, a6, ⟨t, ht, e1, by rw [cf_s3s]; simp⟩, a8⟩, b.up, c, d, e, f, g⟩
    · exact absurd h h2
  · dsimp only at hM
    rw [e1] at hy hv
    have e3 : cf_s3 S 5 0 2 (S 5 0 2 + x) 6 0 0 = nI t := e2
    rw [e3] at hM
    rcases hM with ⟨h, -⟩ | ⟨-, h, -⟩ | ⟨-, -, hv2, rfl⟩
    · exact absurd hx h
    · exact absurd hy h
    · refine ⟨rfl, fun _ => cf_vpe O (v := v) (by rw [hv, hv2]), ?_⟩
      obtain ⟨a, b, c, d, e, f, g⟩ := hR
      obtain ⟨a1, a2, a3, a4, a5, a6, a7, a8⟩ := a
      obtain ⟨q, hq, hxq⟩ := cf_rgN (m := 1000) (by decide) (by decide) hx
      have e4 : nI t + x = nI (t + q) := by rw [hxq, nI_add]
      have hle : t + q ≤ 100000 := by
        rw [e4] at hy
        rcases Nat.lt_or_ge 100000 (t + q) with h9 | h9
        · exact absurd (nI_lt h9 (by omega)) (Int32.not_lt.mpr hy)
        · exact h9
      refine ⟨⟨a1, a2, a3, a4, a5, a6, ⟨t + q, hle, ?_, ?_⟩, a8⟩, b.up, c, d, e, f, g⟩
      · show cf_s3 S 5 0 2 (S 5 0 2 + x) 5 0 2 = _
        rw [cf_s3s, e1, e4]
      · show cf_s3 _ 6 0 0 (nI t + x) 6 0 0 = _
        rw [cf_s3s, e4]

theorem cf_sim_setSeats {n nc ng : Nat} {S : cf_S} {P : cf_Pt} {O : Nat → Int64} {ad : cf_Ad} {x a1 : Int32} (hR : cf_R n nc ng S P) {r : Int32} {u : cf_St} (hL : (r = 1 ∧ ¬ (cf_ix x 6) ∧ u = (nc, ng, S, P, O, ad)) ∨ (r = 2 ∧ (cf_ix x 6) ∧ ¬ (cf_rg a1 1 8) ∧ u = (nc, ng, S, P, O, ad)) ∨ (r = 3 ∧ (cf_ix x 6) ∧ (cf_rg a1 1 8) ∧ ¬ (∀ j : Nat, j < 6 → x = nI j → S 3 j 1 = -1) ∧ u = (nc, ng, S, P, O, ad)) ∨ (r = 0 ∧ ∃ v : Int32, ∃ T : cf_S, (∃ j : Nat, j < 6 ∧ x = nI j ∧ (cf_rg a1 1 8) ∧ S 3 j 1 = -1 ∧ v = S 3 j 0 ∧ T = cf_s3 S 3 j 0 a1) ∧ u = (nc, ng, T, P, vp_updL O 0 v.toInt64, ad))) {v2 : Int32} {T : cf_S} (hM : (¬ cf_ix x 6 ∧ T = (cf_s3 u.2.2.1 6 0 23 1)) ∨ (cf_ix x 6 ∧ ¬ cf_rg a1 1 8 ∧ T = (cf_s3 u.2.2.1 6 0 23 2)) ∨ ∃ j : Nat, j < 6 ∧ x = nI j ∧ cf_rg a1 1 8 ∧ ((0 < u.2.2.1 17 8 j ∧ T = (cf_s3 u.2.2.1 6 0 23 3)) ∨ (u.2.2.1 17 8 j ≤ 0 ∧ v2 = u.2.2.1 17 7 j ∧ T = cf_s3 (cf_s3 u.2.2.1 6 0 23 0) 17 7 j a1))) : T 6 0 23 = r ∧ (r = 0 → u.2.2.2.2.1 0 = v2.toInt64) ∧ cf_R (n + 1) u.1 u.2.1 T u.2.2.2.1 := by
  rcases hL with ⟨rfl, h1, rfl⟩ | ⟨rfl, h1, h2, rfl⟩ | ⟨rfl, h1, h2, h3, rfl⟩ | ⟨rfl, v, Tc, ⟨j, hj, hx, hr, hf, hv, rfl⟩, rfl⟩
  · dsimp only at hM
    rcases hM with ⟨-, rfl⟩ | ⟨h, -⟩ | ⟨j, hj, hx, -⟩
    · exact ⟨cf_s3s, cf_no (by decide), hR.th⟩
    · exact absurd h h1
    · exact absurd ⟨j, hj, hx⟩ h1
  · dsimp only at hM
    rcases hM with ⟨h, -⟩ | ⟨-, -, rfl⟩ | ⟨j, hj, hx, h, -⟩
    · exact absurd h1 h
    · exact ⟨cf_s3s, cf_no (by decide), hR.th⟩
    · exact absurd h h2
  · dsimp only at hM
    rcases hM with ⟨h, -⟩ | ⟨-, h, -⟩ | ⟨j, hj, hx, h, ⟨h4, rfl⟩ | ⟨h4, -⟩⟩
    · exact absurd h1 h
    · exact absurd h2 h
    · exact ⟨cf_s3s, cf_no (by decide), hR.th⟩
    · exfalso
      refine h3 fun j2 hj2 hx2 => ?_
      have e1 : j2 = j := cf_nI_inj (by omega) (by omega) (hx2.symm.trans hx)
      subst e1
      obtain ⟨-, q, hq, e2, e3⟩ := hR.2.2.1 j2 hj
      rw [e2] at h4
      rw [e3, cf_m1 (by omega)]
      have hq0 : q = 0 := by
        rcases Nat.eq_zero_or_pos q with h9 | h9
        · exact h9
        · exact absurd (show nI 0 < nI q from nI_lt h9 (by omega)) (Int32.not_lt.mpr h4)
      rw [hq0]; rfl
  · dsimp only at hM
    rcases hM with ⟨h, -⟩ | ⟨-, h, -⟩ | ⟨j2, hj2, hx2, -, hM⟩
    · exact absurd ⟨j, hj, hx⟩ h
    · exact absurd hr h
    · have e1 : j2 = j := cf_nI_inj (by omega) (by omega) (hx2.symm.trans hx)
      subst e1
      obtain ⟨e4, q, hq, e2, e3⟩ := hR.2.2.1 j2 hj
      rw [e3, cf_m1 (by omega)] at hf
      have e5 : cf_s3 S 3 j2 0 a1 17 8 j2 = nI q := e2
      have e6 : cf_s3 S 3 j2 0 a1 17 7 j2 = S 17 7 j2 := rfl
      rw [e5, e6, hf] at hM
      rcases hM with ⟨h, -⟩ | ⟨-, hv2, rfl⟩
      · exact absurd h (by decide)
      · refine ⟨rfl, fun _ => cf_vpe O (v := v) (by rw [hv, hv2, e4]), ?_⟩
        obtain ⟨a, b, c, d, e, f, g⟩ := hR
        refine ⟨a, b.up, fun t ht => ?_, d, e, f, g⟩
        obtain ⟨g1, q2, hq2, g2, g3⟩ := c t ht
        by_cases htj : t = j2
        · subst htj
          exact ⟨by simp [cf_s3, cf_g2, upd], q2, hq2, g2, by simpa [cf_s3, cf_g2, upd] using g3⟩
        · exact ⟨by simpa [cf_s3, cf_g2, upd, htj] using g1, q2, hq2, g2, by simpa [cf_s3, cf_g2, upd, htj] using g3⟩

theorem cf_sim_teach {n nc ng : Nat} {S : cf_S} {P : cf_Pt} {O : Nat → Int64} {ad : cf_Ad} {x y b1 : Int32} (hb1 : b1 = 0 ∨ b1 = 1) (hR : cf_R n nc ng S P) {r : Int32} {u : cf_St} (hL : (r = 1 ∧ ¬ (cf_ix x 3 ∧ cf_ix y 5) ∧ u = (nc, ng, S, P, O, ad)) ∨ (r = 0 ∧ ∃ v : Int32, ∃ T : cf_S, (∃ j k : Nat, j < 3 ∧ x = nI j ∧ k < 5 ∧ y = nI k ∧ v = S 10 j k ∧ T = cf_s3 S 10 j k b1) ∧ ∃ w : Int64, ((v = 0 ∧ w = 0) ∨ (¬ v = 0 ∧ w = 1)) ∧ u = (nc, ng, T, P, vp_updL O 0 w, ad))) {v2 : Int32} {T : cf_S} (hM : (¬ (cf_ix x 3 ∧ cf_ix y 5) ∧ T = (cf_s3 u.2.2.1 6 0 23 1)) ∨ ∃ j k : Nat, j < 3 ∧ x = nI j ∧ k < 5 ∧ y = nI k ∧ cf_B v2 (u.2.2.1 17 9 (5 * j + k) = 0) ∧ ∃ v : Int32, ((b1 = 0 ∧ v = 1) ∨ (¬ b1 = 0 ∧ v = 0)) ∧ T = cf_s3 (cf_s3 u.2.2.1 6 0 23 0) 17 9 (5 * j + k) v) : T 6 0 23 = r ∧ (r = 0 → u.2.2.2.2.1 0 = (if v2 = 0 then 0 else 1)) ∧ cf_R (n + 1) u.1 u.2.1 T u.2.2.2.1 := by
  rcases hL with ⟨rfl, h1, rfl⟩ | ⟨rfl, v, Tc, ⟨j, k, hj, hx, hk, hy, hv, rfl⟩, w, hw, rfl⟩
  · dsimp only at hM
    rcases hM with ⟨-, rfl⟩ | ⟨j, k, hj, hx, hk, hy, -⟩
    · exact ⟨cf_s3s, cf_no (by decide), hR.th⟩
    · exact absurd ⟨⟨j, hj, hx⟩, ⟨k, hk, hy⟩⟩ h1
  · dsimp only at hM
    rcases hM with ⟨h, -⟩ | ⟨j2, k2, hj2, hx2, hk2, hy2, hv2, w2, hw2, rfl⟩
    · exact absurd ⟨⟨j, hj, hx⟩, ⟨k, hk, hy⟩⟩ h
    · have e1 : j2 = j := cf_nI_inj (by omega) (by omega) (hx2.symm.trans hx)
      have e2 : k2 = k := cf_nI_inj (by omega) (by omega) (hy2.symm.trans hy)
      subst e1; subst e2
      obtain ⟨a, b, c, d, e, f, g⟩ := hR
      refine ⟨rfl, fun _ => ?_, a, b.up, c, fun t ht => ?_, e, f, g⟩
      · show vp_updL O 0 w 0 = if v2 = 0 then 0 else 1
        rw [cf_vpu]
        have e3 : cf_s3 S 10 j2 k2 b1 17 9 (5 * j2 + k2) = S 17 9 (5 * j2 + k2) := rfl
        rw [e3] at hv2
        rcases (d j2 hj).2 k2 hk with ⟨h1, h2⟩ | ⟨h1, h2⟩ <;> rw [h1] at hv <;> rw [h2] at hv2 <;> subst hv <;> rcases hw with ⟨hw, rfl⟩ | ⟨hw, rfl⟩ <;> rcases hv2 with ⟨rfl, h⟩ | ⟨rfl, h⟩ <;> first | rfl | exact absurd h (by decide) | exact absurd hw (by decide) | exact absurd rfl h | exact absurd rfl hw
      · refine ⟨(d t ht).1, fun i hi => ?_⟩
        have hix := cf_5 (a := t) (c := j2) hi hk2
        by_cases htj : t = j2 ∧ i = k2
        · obtain ⟨rfl, rfl⟩ := htj
          have g1 : cf_s3 (cf_s3 (cf_s3 S 10 t i b1) 6 0 23 0) 17 9 (5 * t + i) w2 10 t i = b1 := by rw [cf_s3n (by simp), cf_s3n (by simp), cf_s3s]
          rw [g1, cf_s3s]
          rcases hb1 with rfl | rfl <;> rcases hw2 with ⟨h, rfl⟩ | ⟨h, rfl⟩
          · exact Or.inr ⟨rfl, rfl⟩
          · exact absurd rfl h
          · exact absurd h (by decide)
          · exact Or.inl ⟨rfl, rfl⟩
        · have hn1 : ¬ 5 * t + i = 5 * j2 + k2 := fun q => htj (hix.mp q)
          have g1 : cf_s3 (cf_s3 (cf_s3 S 10 j2 k2 b1) 6 0 23 0) 17 9 (5 * j2 + k2) w2 10 t i = S 10 t i := by rw [cf_s3n (by simp), cf_s3n (by simp), cf_s3n (fun q => htj q.2)]
          have g2 : cf_s3 (cf_s3 (cf_s3 S 10 j2 k2 b1) 6 0 23 0) 17 9 (5 * j2 + k2) w2 17 9 (5 * t + i) = S 17 9 (5 * t + i) := by rw [cf_s3n (fun q => hn1 q.2.2), cf_s3n (by simp), cf_s3n (by simp)]
          rw [g1, g2]
          exact (d t ht).2 i hi
