theorem cf_c_new {cT : Nat → ClassId} {nc ng : Nat} {O : Nat → Int64} {ad : cf_Ad} {q q2 a b : Nat} {r : Nat → Int32} {p : Nat → Nat} (hb0 : a = 0 → b ≠ nc) (hb7 : a = 7 → b ≠ nc) (h2 : a = 2 → b < ng → p 0 ≠ nc) (h14 : a = 14 → b < 1 → ∀ j, p j ≠ nc + 1) (h16 : a = 16 → b < 1 → ∀ j, p j ≠ nc + 1) :
    cf_c cT nc ng O ad a b r p = cf_c cT (nc + 1) ng O (cf_g2 (cf_g2 ad 0 nc q) 7 nc q2) a b r p := by
  have hr : ∀ f : Nat → Nat, (∀ j, f j ≠ nc + 1) → cf_rw (cf_g2 (cf_g2 ad 0 nc q) 7 nc q2 0) f = cf_rw (ad 0) f := by
    intro f hf
    funext j
    by_cases h0 : f j = 0
    · simp [cf_rw, h0]
    · have : f j - 1 ≠ nc := by have := hf j; omega
      simp [cf_rw, h0, cf_g2, this]
  unfold cf_c
  split
  · have hb := hb0 rfl
    by_cases h : b < nc
    · have h1 : b < nc + 1 := by omega
      simp [h, h1, cf_g2, hb]
    · have h1 : ¬ b < nc + 1 := by omega
      simp [h, h1]
  · simp [cf_g2]
  · by_cases h : b < ng
    · have := h2 rfl h
      simp [h, cf_g2, this]
    · simp [h]
  · rfl
  · simp [cf_g2]
  · simp [cf_g2]
  · simp [cf_g2]
  · have hb := hb7 rfl
    by_cases h : b < nc
    · have h1 : b < nc + 1 := by omega
      simp [h, h1]
    · have h1 : ¬ b < nc + 1 := by omega
      simp [h, h1]
  · rfl
  · rfl
  · rfl
  · simp [cf_g2]
  · simp [cf_g2]
  · simp [cf_g2]
  · by_cases hb : b < 1
    · rw [if_pos hb, if_pos hb, hr p (h14 rfl hb)]
    · rw [if_neg hb, if_neg hb]
  · rfl
  · by_cases hb : b < 1
    · rw [if_pos hb, if_pos hb, hr p (h16 rfl hb)]
    · rw [if_neg hb, if_neg hb]
  · rfl
  · rfl
  · rfl
theorem cf_c_newG {cT : Nat → ClassId} {nc ng : Nat} {O : Nat → Int64} {ad : cf_Ad} {q a b : Nat} {r : Nat → Int32} {p : Nat → Nat} (hb2 : a = 2 → b ≠ ng) (h15 : a = 15 → b < 1 → ∀ j, p j ≠ ng + 1) :
    cf_c cT nc ng O ad a b r p = cf_c cT nc (ng + 1) O (cf_g2 ad 2 ng q) a b r p := by
  have hr : ∀ f : Nat → Nat, (∀ j, f j ≠ ng + 1) → cf_rw (cf_g2 ad 2 ng q 2) f = cf_rw (ad 2) f := by
    intro f hf
    funext j
    by_cases h0 : f j = 0
    · simp [cf_rw, h0]
    · have : f j - 1 ≠ ng := by have := hf j; omega
      simp [cf_rw, h0, cf_g2, this]
  have hr0 : ∀ f : Nat → Nat, cf_rw (cf_g2 ad 2 ng q 0) f = cf_rw (ad 0) f := fun f => rfl
  unfold cf_c
  split
  · simp [cf_g2]
  · simp [cf_g2]
  · have hb := hb2 rfl
    by_cases h : b < ng
    · have h1 : b < ng + 1 := by omega
      simp [h, h1, cf_g2]
    · have h1 : ¬ b < ng + 1 := by omega
      simp [h, h1]
  · rfl
  · simp [cf_g2]
  · simp [cf_g2]
  · simp [cf_g2]
  · rfl
  · rfl
  · rfl
  · rfl
  · simp [cf_g2]
  · simp [cf_g2]
  · simp [cf_g2]
  · rw [hr0]
  · by_cases hb : b < 1
    · rw [if_pos hb, if_pos hb, hr p (h15 rfl hb)]
    · rw [if_neg hb, if_neg hb]
  · rw [hr0]
  · rfl
  · rfl
  · rfl
def cf_buyS (S : cf_S) (nc gm : Nat) : cf_S := cf_g2 (cf_g2 S 0 nc (fun _ => 0)) 7 nc (S 8 gm)
def cf_buyP (P : cf_Pt) (nc gm : Nat) : cf_Pt := cf_g2 (cf_p3 P 14 0 nc (nc + 1)) 0 nc (fun _ => gm)
theorem cf_buyE {cT : Nat → ClassId} {nc ng gm q q2 : Nat} {S : cf_S} {P : cf_Pt} {O : Nat → Int64} {ad : cf_Ad} {e0 : va_E} (hO : ∀ j, P 14 0 j = if j < nc then j + 1 else 0) (hL : ∀ j, j < ng → P 2 j 0 < nc ∧ P 2 j 1 < 6) (hB : ∀ j, P 16 0 j ≤ nc) :
    cf_g2 (cf_g2 (cf_g2 (cf_g2 (cf_E cT nc ng S P O ad) 0 nc (some e0)) 7 nc (some (.inl (cT 0, 4, .inl (S 8 gm))))) 0 nc (some (.inr (0, [.int (nI nc), .ref (cf_g2 ad 0 nc q 1 gm), .ref (cf_g2 (cf_g2 ad 0 nc q) 7 nc q2 7 nc), .int 0])))) 14 0 (some (.inl (cT 6, 15, .inr (.inr (.inr (.inr (va_up (cf_rw (ad 0) (P 14 0)) nc (some (cf_g2 (cf_g2 ad 0 nc q) 7 nc q2 0 nc)))))))))
    = cf_E cT (nc + 1) ng (cf_buyS S nc gm) (cf_buyP P nc gm) O (cf_g2 (cf_g2 ad 0 nc q) 7 nc q2) := by
  funext a b
  by_cases h14 : a = 14 ∧ b = 0
  · obtain ⟨rfl, rfl⟩ := h14
    rw [cf_g2s, cf_e14]
    congr 8
    funext j
    have e1 : cf_buyP P nc gm 14 0 j = cf_p3 P 14 0 nc (nc + 1) 14 0 j := by rw [cf_buyP, cf_g2n (fun q => absurd q.1 (by decide))]
    by_cases hj : j = nc
    · subst hj
      rw [cf_rw, e1, cf_p3s]
      simp [va_up]
    · have e2 : cf_p3 P 14 0 nc (nc + 1) 14 0 j = P 14 0 j := cf_p3n (fun q => hj q.2.2)
      rw [cf_rw, e1, e2]
      simp only [va_up, hj, if_false, cf_rw]
      have := hO j
      by_cases hl : j < nc
      · rw [if_pos hl] at this
        have hne : j ≠ nc := hj
        simp [this, cf_g2, hne]
      · rw [if_neg hl] at this
        simp [this]
  rw [cf_g2n h14]
  by_cases h0 : a = 0 ∧ b = nc
  · obtain ⟨rfl, rfl⟩ := h0
    rw [cf_g2s, cf_e0 (Nat.lt_succ_self _)]
    simp [cf_buyS, cf_buyP, cf_g2]
  rw [cf_g2n h0]
  by_cases h7 : a = 7 ∧ b = nc
  · obtain ⟨rfl, rfl⟩ := h7
    rw [cf_g2s, cf_e7 (Nat.lt_succ_self _), cf_buyS, cf_g2s]
  rw [cf_g2n h7, cf_g2n h0]
  show cf_c cT nc ng O ad a b (S a b) (P a b) = cf_c cT (nc + 1) ng O _ a b (cf_buyS S nc gm a b) (cf_buyP P nc gm a b)
  rw [cf_buyS, cf_g2n h7, cf_g2n h0, cf_buyP, cf_g2n h0, cf_p3, cf_g2n h14]
  refine cf_c_new (fun h hb => h0 ⟨h, hb⟩) (fun h hb => h7 ⟨h, hb⟩) (fun h hb => ?_) (fun h hb j => absurd ⟨h, by omega⟩ h14) (fun h hb j => ?_)
  · subst h; have := (hL b hb).1; omega
  · subst h
    have hb0 : b = 0 := by omega
    subst hb0
    have := hB j; omega
def cf_seatS (S : cf_S) (ng : Nat) (x y : Int32) : cf_S := cf_g2 S 2 ng (fun j => if j = 0 then y else x)
def cf_seatP (P : cf_Pt) (ng c9 t9 : Nat) : cf_Pt := cf_g2 (cf_p3 P 15 0 ng (ng + 1)) 2 ng (fun j => if j = 0 then c9 else t9)
theorem cf_seatE {cT : Nat → ClassId} {nc ng t9 c9 q : Nat} {x y : Int32} {S : cf_S} {P : cf_Pt} {O : Nat → Int64} {ad : cf_Ad} (hQ : ∀ j, P 15 0 j ≤ ng) :
    cf_g2 (cf_g2 (cf_E cT nc ng S P O ad) 2 ng (some (.inr (2, [.ref (cf_g2 ad 2 ng q 0 c9), .int y, .int x, .ref (cf_g2 ad 2 ng q 3 t9)])))) 15 0 (some (.inl (cT 7, 60, .inr (.inr (.inr (.inr (va_up (cf_rw (ad 2) (P 15 0)) ng (some (cf_g2 ad 2 ng q 2 ng)))))))))
    = cf_E cT nc (ng + 1) (cf_seatS S ng x y) (cf_seatP P ng c9 t9) O (cf_g2 ad 2 ng q) := by
  funext a b
  by_cases h15 : a = 15 ∧ b = 0
  · obtain ⟨rfl, rfl⟩ := h15
    rw [cf_g2s, cf_e15]
    congr 8
    funext j
    have e1 : cf_seatP P ng c9 t9 15 0 j = cf_p3 P 15 0 ng (ng + 1) 15 0 j := by rw [cf_seatP, cf_g2n (fun q => absurd q.1 (by decide))]
    by_cases hj : j = ng
    · subst hj
      rw [cf_rw, e1, cf_p3s]
      simp [va_up]
    · have e2 : cf_p3 P 15 0 ng (ng + 1) 15 0 j = P 15 0 j := cf_p3n (fun q => hj q.2.2)
      rw [cf_rw, e1, e2]
      simp only [va_up, hj, if_false, cf_rw]
      have := hQ j
      by_cases h0 : P 15 0 j = 0
      · simp [h0]
      · have hne : P 15 0 j - 1 ≠ ng := by omega
        simp [h0, cf_g2, hne]
  rw [cf_g2n h15]
  by_cases h2 : a = 2 ∧ b = ng
  · obtain ⟨rfl, rfl⟩ := h2
    rw [cf_g2s, cf_e2 (Nat.lt_succ_self _)]
    simp [cf_seatS, cf_seatP, cf_g2]
  rw [cf_g2n h2]
  show cf_c cT nc ng O ad a b (S a b) (P a b) = cf_c cT nc (ng + 1) O _ a b (cf_seatS S ng x y a b) (cf_seatP P ng c9 t9 a b)
  rw [cf_seatS, cf_g2n h2, cf_seatP, cf_g2n h2, cf_p3, cf_g2n h15]
  exact cf_c_newG (fun h hb => h2 ⟨h, hb⟩) (fun h hb j => absurd ⟨h, by omega⟩ h15)
