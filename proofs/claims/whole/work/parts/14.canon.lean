/-! ===== conditions in one form, for the class and for the reference ===== -/
/-- x is one of the numbers 0 .. n - 1 -/
def cf_ix (x : Int32) (n : Nat) : Prop := ∃ j : Nat, j < n ∧ x = nI j
def cf_rg (x lo hi : Int32) : Prop := lo ≤ x ∧ x ≤ hi
theorem cf_nix1 {x : Int32} {n : Nat} (hn : n < 2 ^ 31) (h : x < 0) : ¬ cf_ix x n := by
  rintro ⟨j, hj, rfl⟩
  exact nI_pos (Nat.lt_trans hj hn) h
theorem cf_nix2 {x y : Int32} {n : Nat} (hn : n < 2 ^ 31) (hy : y = nI n) (h : ¬ x < y) : ¬ cf_ix x n := by
  rintro ⟨j, hj, rfl⟩
  subst hy
  exact h (nI_lt hj hn)
theorem cf_ix_of {x y : Int32} {n : Nat} (hn : n < 2 ^ 31) (hy : y = nI n) (h1 : ¬ x < 0) (h2 : x < y) : cf_ix x n := by
  subst hy
  exact cf_ofr x n hn h1 h2
theorem cf_nrg1 {x lo hi : Int32} (h : x < lo) : ¬ cf_rg x lo hi := fun q => absurd q.1 (Int32.not_le.mpr h)
theorem cf_nrg2 {x lo hi : Int32} (h : ¬ x ≤ hi) : ¬ cf_rg x lo hi := fun q => h q.2
theorem cf_rg_of {x lo hi : Int32} (h1 : ¬ x < lo) (h2 : x ≤ hi) : cf_rg x lo hi := ⟨Int32.not_lt.mp h1, h2⟩
theorem cf_nI_inj {a b : Nat} (ha : a < 2 ^ 31) (hb : b < 2 ^ 31) (h : nI a = nI b) : a = b := (nI_eq ha hb).mp h
/-- 0 .. n - 1 told by a range -/
theorem cf_rg_ix {x y : Int32} {n : Nat} (hn : n < 2 ^ 30) (hy : y = nI n - nI 1) : cf_rg x 0 y ↔ cf_ix x n := by
  subst hy
  constructor
  · rintro ⟨h1, h2⟩
    obtain ⟨j, hj, rfl⟩ := nI_of (Int32.not_lt.mpr h1)
    rw [Int32.le_iff_toInt_le, pk_sub_toInt hn (by decide), nI_toInt hj] at h2
    exact ⟨j, by omega, rfl⟩
  · rintro ⟨j, hj, rfl⟩
    refine ⟨nI_pos' (by omega), ?_⟩
    rw [Int32.le_iff_toInt_le, pk_sub_toInt hn (by decide), nI_toInt (by omega)]
    omega
/-- codes of a call: which of its conditions failed first -/
def cf_cd1 (k : Int32) (a : Prop) : Prop := (k = 1 ∧ ¬ a) ∨ (k = 0 ∧ a)
def cf_cd2 (k : Int32) (a b : Prop) : Prop := (k = 1 ∧ ¬ a) ∨ (k = 2 ∧ a ∧ ¬ b) ∨ (k = 0 ∧ a ∧ b)
def cf_cd3 (k : Int32) (a b c : Prop) : Prop := (k = 1 ∧ ¬ a) ∨ (k = 2 ∧ a ∧ ¬ b) ∨ (k = 3 ∧ a ∧ b ∧ ¬ c) ∨ (k = 0 ∧ a ∧ b ∧ c)
theorem cf_cd1_one {k k2 : Int32} {a : Prop} (h : cf_cd1 k a) (h2 : cf_cd1 k2 a) : k = k2 := by
  rcases h with ⟨rfl, h⟩ | ⟨rfl, h⟩ <;> rcases h2 with ⟨rfl, h2⟩ | ⟨rfl, h2⟩ <;> first | rfl | exact absurd ‹a› ‹¬ a›
theorem cf_cd2_one {k k2 : Int32} {a b : Prop} (h : cf_cd2 k a b) (h2 : cf_cd2 k2 a b) : k = k2 := by
  rcases h with ⟨rfl, h⟩ | ⟨rfl, h, h'⟩ | ⟨rfl, h, h'⟩ <;> rcases h2 with ⟨rfl, h2⟩ | ⟨rfl, h2, h2'⟩ | ⟨rfl, h2, h2'⟩ <;> first | rfl | exact absurd ‹a› ‹¬ a› | exact absurd ‹b› ‹¬ b›
theorem cf_cd3_one {k k2 : Int32} {a b c : Prop} (h : cf_cd3 k a b c) (h2 : cf_cd3 k2 a b c) : k = k2 := by
  rcases h with ⟨rfl, h⟩ | ⟨rfl, h, h'⟩ | ⟨rfl, h, h', h''⟩ | ⟨rfl, h, h', h''⟩ <;> rcases h2 with ⟨rfl, h2⟩ | ⟨rfl, h2, h2'⟩ | ⟨rfl, h2, h2', h2''⟩ | ⟨rfl, h2, h2', h2''⟩ <;> first | rfl | exact absurd ‹a› ‹¬ a› | exact absurd ‹b› ‹¬ b› | exact absurd ‹c› ‹¬ c›
/-! one number, one pointer of the state changed -/
def cf_s3 (S : cf_S) (k i j : Nat) (v : Int32) : cf_S := cf_g2 S k i (upd (S k i) j v)
def cf_p3 (P : cf_Pt) (k i j : Nat) (v : Nat) : cf_Pt := cf_g2 P k i (cf_u (P k i) j v)
theorem cf_s3s {S : cf_S} {k i j : Nat} {v : Int32} : cf_s3 S k i j v k i j = v := by simp [cf_s3, cf_g2, upd]
theorem cf_s3n {S : cf_S} {k i j a b c : Nat} {v : Int32} (h : ¬ (a = k ∧ b = i ∧ c = j)) : cf_s3 S k i j v a b c = S a b c := by
  by_cases h1 : a = k ∧ b = i
  · obtain ⟨rfl, rfl⟩ := h1
    have hc : c ≠ j := fun q => h ⟨rfl, rfl, q⟩
    simp [cf_s3, cf_g2, upd, hc]
  · simp [cf_s3, cf_g2, h1]
theorem cf_p3s {P : cf_Pt} {k i j v : Nat} : cf_p3 P k i j v k i j = v := by simp [cf_p3, cf_g2, cf_u]
theorem cf_p3n {P : cf_Pt} {k i j a b c v : Nat} (h : ¬ (a = k ∧ b = i ∧ c = j)) : cf_p3 P k i j v a b c = P a b c := by
  by_cases h1 : a = k ∧ b = i
  · obtain ⟨rfl, rfl⟩ := h1
    have hc : c ≠ j := fun q => h ⟨rfl, rfl, q⟩
    simp [cf_p3, cf_g2, cf_u, hc]
  · simp [cf_p3, cf_g2, h1]
section
variable {cT : Nat → ClassId} {nc ng : Nat} {S : cf_S} {P : cf_Pt} {O : Nat → Int64} {ad : cf_Ad}
theorem cf_up14 {j n : Nat} : cf_g2 (cf_E cT nc ng S P O ad) 14 0 (some (.inl (cT 6, 15, .inr (.inr (.inr (.inr (va_up (cf_rw (ad 0) (P 14 0)) j (some (ad 0 n))))))))) = cf_E cT nc ng S (cf_p3 P 14 0 j (n + 1)) O ad := by
  rw [cf_rwU]; exact cf_upP 14 0 _ rfl
theorem cf_up15 {j n : Nat} : cf_g2 (cf_E cT nc ng S P O ad) 15 0 (some (.inl (cT 7, 60, .inr (.inr (.inr (.inr (va_up (cf_rw (ad 2) (P 15 0)) j (some (ad 2 n))))))))) = cf_E cT nc ng S (cf_p3 P 15 0 j (n + 1)) O ad := by
  rw [cf_rwU]; exact cf_upP 15 0 _ rfl
theorem cf_up16 {j n : Nat} : cf_g2 (cf_E cT nc ng S P O ad) 16 0 (some (.inl (cT 6, 6, .inr (.inr (.inr (.inr (va_up (cf_rw (ad 0) (P 16 0)) j (some (ad 0 n))))))))) = cf_E cT nc ng S (cf_p3 P 16 0 j (n + 1)) O ad := by
  rw [cf_rwU]; exact cf_upP 16 0 _ rfl
theorem cf_up15N {j : Nat} : cf_g2 (cf_E cT nc ng S P O ad) 15 0 (some (.inl (cT 7, 60, .inr (.inr (.inr (.inr (va_up (cf_rw (ad 2) (P 15 0)) j none))))))) = cf_E cT nc ng S (cf_p3 P 15 0 j 0) O ad := by
  rw [cf_rwN]; exact cf_upP 15 0 _ rfl
theorem cf_up16N {j : Nat} : cf_g2 (cf_E cT nc ng S P O ad) 16 0 (some (.inl (cT 6, 6, .inr (.inr (.inr (.inr (va_up (cf_rw (ad 0) (P 16 0)) j none))))))) = cf_E cT nc ng S (cf_p3 P 16 0 j 0) O ad := by
  rw [cf_rwN]; exact cf_upP 16 0 _ rfl
end
/-! which exception, by the first condition that failed -/
def cf_x1 (a : Prop) : String → Prop := fun e => e = cf_iob ∧ ¬ a
def cf_x2 (a : Prop) : String → Prop := fun e => e = cf_iae ∧ ¬ a
def cf_x12 (a b : Prop) : String → Prop := fun e => (e = cf_iob ∧ ¬ a) ∨ (e = cf_iae ∧ a ∧ ¬ b)
def cf_x13 (a b : Prop) : String → Prop := fun e => (e = cf_iob ∧ ¬ a) ∨ (e = cf_ise ∧ a ∧ ¬ b)
def cf_x23 (a b : Prop) : String → Prop := fun e => (e = cf_iae ∧ ¬ a) ∨ (e = cf_ise ∧ a ∧ ¬ b)
def cf_x123 (a b c : Prop) : String → Prop := fun e => (e = cf_iob ∧ ¬ a) ∨ (e = cf_iae ∧ a ∧ ¬ b) ∨ (e = cf_ise ∧ a ∧ b ∧ ¬ c)
theorem cf_B.iff {r : Int32} {a b : Prop} (h : cf_B r a) (e : a ↔ b) : cf_B r b := by
  rcases h with ⟨h1, h2⟩ | ⟨h1, h2⟩
  · exact Or.inl ⟨h1, e.mp h2⟩
  · exact Or.inr ⟨h1, fun q => h2 (e.mpr q)⟩
