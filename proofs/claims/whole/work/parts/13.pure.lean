/-! ===== plain facts ===== -/
abbrev cf_Qi (D : va_G) (z : Nat) {σ : Type} (post : Int32 → σ → Prop) (E : σ → cf_T) (ad : σ → cf_Ad) := va_Qi post (fun u t => cf_W D z (E u) (ad u) t.heap) (fun q => z ≤ q)
abbrev cf_Qv (D : va_G) (z : Nat) {σ : Type} (post : σ → Prop) (E : σ → cf_T) (ad : σ → cf_Ad) := va_Qv post (fun u t => cf_W D z (E u) (ad u) t.heap) (fun q => z ≤ q)
abbrev cf_Qq (D : va_G) (z : Nat) {σ : Type} (post : Option Nat → σ → Prop) (E : σ → cf_T) (ad : σ → cf_Ad) := va_Qq post (fun u t => cf_W D z (E u) (ad u) t.heap) (fun q => z ≤ q)
/-- a boolean answer -/
def cf_B (r : Int32) (p : Prop) : Prop := (r = 1 ∧ p) ∨ (r = 0 ∧ ¬ p)
/-- enough parts of each of the four kinds -/
def cf_play (h nd : Nat → Int32) : Prop := ∀ k, k < 4 → nd k ≤ h k
theorem cf_all4 {p : Nat → Prop} (h0 : p 0) (h1 : p 1) (h2 : p 2) (h3 : p 3) : ∀ k, k < 4 → p k := by
  intro k hk
  match k, hk with
  | 0, _ => exact h0
  | 1, _ => exact h1
  | 2, _ => exact h2
  | 3, _ => exact h3
/-- the best so far of those that will do -/
def cf_best (ok : Nat → Bool) (lt : Nat → Nat → Bool) : Nat → Option Nat
  | 0 => none
  | n + 1 => match cf_best ok lt n with
    | none => if ok n = true then some n else none
    | some t => if ok n = true ∧ lt n t = true then some n else some t
theorem cf_best_no {ok : Nat → Bool} {lt : Nat → Nat → Bool} {n : Nat} (h : ok n = false) : cf_best ok lt (n + 1) = cf_best ok lt n := by
  rw [cf_best]
  cases cf_best ok lt n <;> simp [h]
theorem cf_best_first {ok : Nat → Bool} {lt : Nat → Nat → Bool} {n : Nat} (h : ok n = true) (hb : cf_best ok lt n = none) : cf_best ok lt (n + 1) = some n := by
  rw [cf_best, hb]
  simp [h]
theorem cf_best_new {ok : Nat → Bool} {lt : Nat → Nat → Bool} {n t : Nat} (h : ok n = true) (hb : cf_best ok lt n = some t) (hl : lt n t = true) : cf_best ok lt (n + 1) = some n := by
  rw [cf_best, hb]
  simp [h, hl]
theorem cf_best_old {ok : Nat → Bool} {lt : Nat → Nat → Bool} {n t : Nat} (hb : cf_best ok lt n = some t) (hl : lt n t = false) : cf_best ok lt (n + 1) = some t := by
  rw [cf_best, hb]
  simp [hl]
theorem cf_best_in {ok : Nat → Bool} {lt : Nat → Nat → Bool} : ∀ {n t : Nat}, cf_best ok lt n = some t → t < n ∧ ok t = true := by
  intro n
  induction n with
  | zero => intro t h; cases h
  | succ n ih =>
    intro t h
    cases hb : cf_best ok lt n with
    | none =>
      by_cases ho : ok n = true
      · rw [cf_best_first ho hb] at h
        cases h
        exact ⟨Nat.lt_succ_self _, ho⟩
      · rw [cf_best_no (by simpa using ho), hb] at h
        cases h
    | some u =>
      by_cases ho : ok n = true ∧ lt n u = true
      · rw [cf_best_new ho.1 hb ho.2] at h
        cases h
        exact ⟨Nat.lt_succ_self _, ho.1⟩
      · rw [cf_best, hb] at h
        simp only [ho, if_false] at h
        cases h
        obtain ⟨h1, h2⟩ := ih hb
        exact ⟨Nat.lt_succ_of_lt h1, h2⟩
theorem cf_best_cong {ok ok2 : Nat → Bool} {lt lt2 : Nat → Nat → Bool} : ∀ {n : Nat}, (∀ i, i < n → ok i = ok2 i) → (∀ i j, i < n → j < n → lt i j = lt2 i j) → cf_best ok lt n = cf_best ok2 lt2 n := by
  intro n
  induction n with
  | zero => intro _ _; rfl
  | succ n ih =>
    intro h1 h2
    have e := ih (fun i hi => h1 i (Nat.lt_succ_of_lt hi)) (fun i j hi hj => h2 i j (Nat.lt_succ_of_lt hi) (Nat.lt_succ_of_lt hj))
    cases hb : cf_best ok lt n with
    | none =>
      rw [hb] at e
      rw [cf_best, hb, cf_best, ← e, h1 n (Nat.lt_succ_self n)]
    | some t =>
      rw [hb] at e
      have ht := (cf_best_in hb).1
      rw [cf_best, hb, cf_best, ← e]
      simp only [h1 n (Nat.lt_succ_self n), h2 n t (Nat.lt_succ_self n) (Nat.lt_succ_of_lt ht)]
/-- the first that will do -/
def cf_fst (ok : Nat → Prop) (N : Nat) (r : Option Nat) : Prop := (r = none ∧ ∀ u, u < N → ¬ ok u) ∨ ∃ i, r = some i ∧ i < N ∧ ok i ∧ ∀ u, u < i → ¬ ok u
theorem cf_fst_one {ok : Nat → Prop} {N : Nat} {r r2 : Option Nat} (h : cf_fst ok N r) (h2 : cf_fst ok N r2) : r = r2 := by
  rcases h with ⟨rfl, h⟩ | ⟨i, rfl, hi, ho, hu⟩ <;> rcases h2 with ⟨rfl, h2⟩ | ⟨j, rfl, hj, ho2, hu2⟩
  · rfl
  · exact absurd ho2 (h j hj)
  · exact absurd ho (h2 i hi)
  · rcases Nat.lt_trichotomy i j with q | q | q
    · exact absurd ho (hu2 i q)
    · rw [q]
    · exact absurd ho2 (hu j q)
section
variable {p : Program} {l : Launch} {e : Env} {R : Room} {s : State} {m : MethodId} {args : Array Value} {below : List Frame} {meth : Method} {c : Code} {cells slots : Nat} {Q : State → Prop} {pc : Nat}
theorem cf_loopW {β : Type} (I : Nat → Heap → List Loc → Array Slot → β → Prop) (N : Nat) (hx : ∀ H locs ls b, I N H locs ls b → W p l e R s m args below meth c H locs cells slots Q (F0 m pc ls [])) (hs : ∀ i H locs ls b, i < N → I i H locs ls b → (∀ H2 locs2 ls2 b2, I (i + 1) H2 locs2 ls2 b2 → W p l e R s m args below meth c H2 locs2 cells slots Q (F0 m pc ls2 [])) → W p l e R s m args below meth c H locs cells slots Q (F0 m pc ls []))
    {H : Heap} {locs : List Loc} {ls : Array Slot} (b : β) (h0 : I 0 H locs ls b) : W p l e R s m args below meth c H locs cells slots Q (F0 m pc ls []) :=
  cf_loop (α := Heap × List Loc × Array Slot × β) (fun _ a => W p l e R s m args below meth c a.1 a.2.1 cells slots Q (F0 m pc a.2.2.1 [])) (fun i a => I i a.1 a.2.1 a.2.2.1 a.2.2.2) N (fun a h => hx a.1 a.2.1 a.2.2.1 a.2.2.2 h) (fun i a hi h ih => hs i a.1 a.2.1 a.2.2.1 a.2.2.2 hi h (fun H2 locs2 ls2 b2 h2 => ih (H2, locs2, ls2, b2) h2)) 0 (H, locs, ls, b) (Nat.zero_le N) h0
end
theorem cf_ofr (x : Int32) (n : Nat) (hn : n < 2 ^ 31) (h1 : ¬ x < 0) (h2 : x < nI n) : ∃ j : Nat, j < n ∧ x = nI j := by
  rcases pk_ix x hn with h | h | h
  · exact absurd h h1
  · exact absurd h2 (Int32.not_lt.mpr h)
  · exact h
theorem cf_lt_of {j n : Nat} (hj : j < 2 ^ 31) (hn : n < 2 ^ 31) (h : nI j < nI n) : j < n := (nI_ltI hj hn).mp h
theorem cf_W.inj {D : va_G} {z : Nat} {E : cf_T} {ad : cf_Ad} {H : Heap} (h : cf_W D z E ad H) {k i k2 i2 : Nat} {e e2 : va_E} (he : E k i = some e) (he2 : E k2 i2 = some e2) (hq : ad k i = ad k2 i2) : k = k2 ∧ i = i2 := h.2.2 k i k2 i2 e e2 he he2 hq
theorem cf_B.t {r : Int32} {q : Prop} (h : cf_B r q) (h0 : ¬ r = 0) : q := by
  rcases h with ⟨-, h⟩ | ⟨h, -⟩
  · exact h
  · exact absurd h h0
theorem cf_B.f {r : Int32} {q : Prop} (h : cf_B r q) (h0 : r = 0) : ¬ q := by
  rcases h with ⟨h, -⟩ | ⟨-, h⟩
  · rw [h] at h0; exact absurd h0 (by decide)
  · exact h
theorem cf_B.nar {r : Int32} {q : Prop} (h : cf_B r q) : narrow .boolean (.int r) = .int r := by
  rcases h with ⟨h, -⟩ | ⟨h, -⟩ <;> subst h <;> rfl
/-- a copy that is there, of the game, on the shelf, and can be played -/
def cf_okC (nc : Nat) (S : cf_S) (P : cf_Pt) (g : Nat) : Nat → Prop := fun u => u < nc ∧ P 0 u 0 = g ∧ S 0 u 0 = 0 ∧ cf_play (S 7 u) (S 9 (P 0 u 0))
def cf_okS (S : cf_S) (g : Nat) : Nat → Prop := fun u => ¬ S 10 u g = 0 ∧ ¬ S 5 0 2 < S 4 u 0
theorem cf_snoc {q : Nat → Prop} {i : Nat} (h : ∀ u, u < i → ¬ q u) (hi : ¬ q i) : ∀ u, u < i + 1 → ¬ q u := by
  intro u hu
  rcases Nat.lt_succ_iff_lt_or_eq.mp hu with h1 | h1
  · exact h u h1
  · rw [h1]; exact hi
