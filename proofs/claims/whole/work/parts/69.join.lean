theorem cf_Tb.narrow {D : va_G} {cT : Nat → ClassId} {z z2 : Nat} {s : State} {H : Heap} (h : cf_Tb D cT z s H) (hz : z ≤ z2) : cf_Tb D cT z2 s H :=
  ⟨h.1, ⟨h.2.1.1.narrow (fun q hq => Nat.le_trans hz hq), h.2.1.2.narrow (fun q hq => Nat.le_trans hz hq)⟩, h.2.2⟩
theorem cf_none {D : va_G} {z : Nat} {ad : cf_Ad} {H : Heap} (hz : z ≤ H.size) : cf_W D z (fun _ _ => none) ad H := ⟨hz, fun k i e h => (by cases h), fun k i k2 i2 e e2 h => (by cases h)⟩
section
variable {p : Program} {l : Launch} {e : Env} {R : Room} {s : State} {m : MethodId} {args : Array Value} {below : List Frame} {meth : Method} {H : Heap} {locs : List Loc} {cells slots : Nat} {Q : State → Prop}
variable {cc : ByteArray} {pc : Nat} {ls : Array Slot} {rest : List Value} {D : va_G} {tys : List (ClassId × FieldType)} {H0 : Heap} {z : Nat}
/-- a new reference, in a world of its own -/
theorem cf_new6 {c0 : Code} (hexec : p.tables.exec = Jvm.exec) (hb : c0.code = cc) {own : String} {index : Nat} {Ts : List Cond} (hts : ∀ w ∈ Ts, w.before args s = true) (hin : ∀ w ∈ u_ws RX6 TX6 24, w ∈ Ts) (hown : s.vm.findClass own = some m.cls) (hcl : (Cond.classLink own index RX6).before args s = true) (hinst : (Cond.instantiable RX6 24).before args s = true) (hini : (Cond.initialized RX6).before args s = true)
    (hK : va_K D vwCl tys s) (hz : z ≤ H.size) (hS : va_S (fun q => z ≤ q) H0 H locs) (hcells : cells + 1 ≤ R.cells) (hslots : slots + 24 ≤ R.slots) (hdg : decode cc pc = .ok (.new index, 3))
    (kk : ∀ H1 : Heap, H1.size = H.size + 1 → (∀ q : Nat, q < H.size → H1[q]? = H[q]?) → cf_W D H.size cf_N6 (cf_g2 (fun _ _ => 0) 6 0 H.size) H1 → va_S (fun q => z ≤ q) H0 H1 locs →
      W p l e R s m args below meth c0 H1 locs (cells + 1) (slots + 24) Q (F0 m (pc + 3) ls (.ref H.size :: rest))) : W p l e R s m args below meth c0 H locs cells slots Q (F0 m pc ls rest) := by
  have hc : vwCl[6]? = some (RX6, TX6, 24) := rfl
  have hKn := hK.1 6 _ hc
  refine W.newcK hexec hb hown hcl hinst hini rfl hdg hcells hslots hKn.2.1 rfl fun H1 kC hkC e1 z1 o1 => ?_
  refine kk H1 z1 o1 ?_ ⟨Nat.le_trans hS.1 (by omega), fun x h1 h2 => (o1 x (Nat.lt_of_lt_of_le h1 hS.1)).trans (hS.2.1 x h1 h2), hS.2.2⟩
  have hfs : ∀ j, j < 24 → defaultValue (tyX6 j) = vp_V [.int 0, .null, .null, .null, .null, .null, .null, .null, .null, .null, .null, .int 0, .null, .null, .null, .int 0, .null, .null, .null, .null, .null, .null, .null, .int 0] j := fun j hj => by
    rcases (show j = 0 ∨ j = 1 ∨ j = 2 ∨ j = 3 ∨ j = 4 ∨ j = 5 ∨ j = 6 ∨ j = 7 ∨ j = 8 ∨ j = 9 ∨ j = 10 ∨ j = 11 ∨ j = 12 ∨ j = 13 ∨ j = 14 ∨ j = 15 ∨ j = 16 ∨ j = 17 ∨ j = 18 ∨ j = 19 ∨ j = 20 ∨ j = 21 ∨ j = 22 ∨ j = 23 by omega) with rfl | rfl | rfl | rfl | rfl | rfl | rfl | rfl | rfl | rfl | rfl | rfl | rfl | rfl | rfl | rfl | rfl | rfl | rfl | rfl | rfl | rfl | rfl | rfl <;> rfl
  exact (cf_none (D := D) (z := H.size) (ad := fun _ _ => 0) (Nat.le_refl H.size)).new rfl ⟨_, hc, (u_born tyX6 hts hin hKn hkC e1 tyX6_ok).to hfs⟩ (by omega) o1
end
/-- two worlds side by side -/
theorem cf_join {D : va_G} {z z6 : Nat} {E5 E6 : cf_T} {b5 b6 : cf_Ad} {H : Heap} (h5 : cf_W D z E5 b5 H) (h6 : cf_W D z6 E6 b6 H) (hz : z ≤ z6) (hlt : ∀ k i e, E5 k i = some e → b5 k i < z6) : cf_W D z (fun k i => if cf_m6 k = true then E6 k i else E5 k i) (fun k => if cf_m6 k = true then b6 k else b5 k) H := by
  refine ⟨h5.1, fun k i e he => ?_, fun k i k2 i2 e e2 he he2 hq => ?_⟩
  · by_cases hk : cf_m6 k = true
    · simp only [if_pos hk] at he ⊢
      exact ⟨h6.at he, Nat.le_trans hz (h6.ge he)⟩
    · simp only [if_neg hk] at he ⊢
      exact ⟨h5.at he, h5.ge he⟩
  · by_cases hk : cf_m6 k = true <;> by_cases hk2 : cf_m6 k2 = true
    · simp only [if_pos hk] at he hq; simp only [if_pos hk2] at he2 hq
      exact h6.2.2 k i k2 i2 e e2 he he2 hq
    · simp only [if_pos hk] at he hq; simp only [if_neg hk2] at he2 hq
      have a1 := h6.ge he; have a2 := hlt k2 i2 e2 he2; omega
    · simp only [if_neg hk] at he hq; simp only [if_pos hk2] at he2 hq
      have a1 := h6.ge he2; have a2 := hlt k i e he; omega
    · simp only [if_neg hk] at he hq; simp only [if_neg hk2] at he2 hq
      exact h5.2.2 k i k2 i2 e e2 he he2 hq
def cf_S0 : cf_S := fun k i j => if k = 1 then (if j = 0 then 2 else if j = 1 then 4 else if j = 2 then 10 else 0) else if k = 3 then (if j = 0 then nI i + 2 else -1) else if k = 8 then cf_f5 j else if k = 9 then cf_f4 j else if k = 10 then cf_fT j else if k = 6 ∨ k = 17 then cf_L3 6 k i j else 0
def cf_adJ (b5 b6 : cf_Ad) : cf_Ad := fun k => if cf_m6 k = true then b6 k else b5 k
theorem cf_E0 {cT : Nat → ClassId} {b5 b6 : cf_Ad} {q : Nat} :
    cf_g2 (cf_g2 (cf_g2 (cf_g2 (fun k i => if cf_m6 k = true then cf_K cf_m6 (cf_E cT 0 0 (cf_L3 6) cf_P0 cf_O0 b6) k i else cf_w5 cT 5 6 3 b5 k i) 11 0 (some (.inl (cT 3, 5, .inr (.inr (.inr (.inr (fun j => some (b5 1 j))))))))) 12 0 (some (.inl (cT 4, 6, .inr (.inr (.inr (.inr (fun j => some (b5 3 j))))))))) 13 0 (some (.inl (cT 5, 3, .inr (.inr (.inr (.inr (fun j => some (b5 4 j))))))))) 18 0 (some (.inl (cT 2, 1, .inr (.inl (fun _ => 0))))) = cf_E cT 0 0 cf_S0 cf_P0 cf_O0 (cf_g2 (cf_adJ b5 b6) 18 0 q) := by
  funext a b
  have hrw : ∀ f : Nat → Nat, cf_rw f (fun _ => 0) = fun _ => none := fun f => by funext j; simp [cf_rw]
  have h6 : cf_S0 6 = cf_L3 6 6 := by funext i j; simp [cf_S0]
  have h17 : cf_S0 17 = cf_L3 6 17 := by funext i j; simp [cf_S0]
  by_cases hb : b = 0
  · subst hb
    match a with
    | 0 => rfl
    | 1 => rfl
    | 2 => rfl
    | 3 => rfl
    | 4 => rfl
    | 5 => rfl
    | 6 =>
      show cf_c cT 0 0 cf_O0 b6 6 0 (cf_L3 6 6 0) (cf_P0 6 0) = cf_c cT 0 0 cf_O0 (cf_g2 (cf_adJ b5 b6) 18 0 q) 6 0 (cf_S0 6 0) (cf_P0 6 0)
      rw [h6]; rfl
    | 7 => rfl
    | 8 => rfl
    | 9 => rfl
    | 10 => rfl
    | 11 => rfl
    | 12 => rfl
    | 13 => rfl
    | 14 => show some _ = some _; rw [hrw]
    | 15 => show some _ = some _; rw [hrw]
    | 16 => show some _ = some _; rw [hrw]
    | 17 =>
      show cf_c cT 0 0 cf_O0 b6 17 0 (cf_L3 6 17 0) (cf_P0 17 0) = cf_c cT 0 0 cf_O0 (cf_g2 (cf_adJ b5 b6) 18 0 q) 17 0 (cf_S0 17 0) (cf_P0 17 0)
      rw [h17]; rfl
    | 18 => rfl
    | n + 19 => simp [cf_g2, cf_m6, cf_w5, cf_E, cf_c]
  · match a with
    | 0 => simp [cf_g2, cf_m6, cf_w5, cf_E, cf_c]
    | 1 => simp only [cf_g2, hb, and_false, if_false]; rfl
    | 2 => simp [cf_g2, cf_m6, cf_w5, cf_E, cf_c]
    | 3 => simp only [cf_g2, hb, and_false, if_false]; rfl
    | 4 => simp only [cf_g2, hb, and_false, if_false]; rfl
    | 5 => simp [cf_g2, cf_m6, cf_w5, cf_E, cf_c, hb]
    | 6 => simp [cf_g2, cf_m6, cf_w5, cf_E, cf_c, cf_K, hb]
    | 7 => simp [cf_g2, cf_m6, cf_w5, cf_E, cf_c]
    | 8 => simp only [cf_g2, hb, and_false, if_false]; rfl
    | 9 => simp only [cf_g2, hb, and_false, if_false]; rfl
    | 10 => simp only [cf_g2, hb, and_false, if_false]; rfl
    | 11 => simp [cf_g2, cf_m6, cf_w5, cf_E, cf_c, hb]
    | 12 => simp [cf_g2, cf_m6, cf_w5, cf_E, cf_c, hb]
    | 13 => simp [cf_g2, cf_m6, cf_w5, cf_E, cf_c, hb]
    | 14 => simp [cf_g2, cf_m6, cf_w5, cf_E, cf_c, hb]
    | 15 => simp [cf_g2, cf_m6, cf_w5, cf_E, cf_c, hb]
    | 16 => simp [cf_g2, cf_m6, cf_w5, cf_E, cf_c, hb]
    | 17 =>
      simp only [cf_g2, hb, and_false, if_false]
      show cf_c cT 0 0 cf_O0 b6 17 b (cf_L3 6 17 b) (cf_P0 17 b) = cf_c cT 0 0 cf_O0 (cf_g2 (cf_adJ b5 b6) 18 0 q) 17 b (cf_S0 17 b) (cf_P0 17 b)
      rw [h17]; rfl
    | 18 => simp [cf_g2, cf_m6, cf_w5, cf_E, cf_c, hb]
    | n + 19 => simp [cf_g2, cf_m6, cf_w5, cf_E, cf_c]
set_option maxRecDepth 100000 in
theorem cf_R0 : cf_R 0 0 0 cf_S0 cf_P0 := by
  refine ⟨⟨by decide, by decide, rfl, rfl, rfl, rfl, ⟨0, by decide, rfl, rfl⟩, fun j => rfl⟩, ⟨fun j hj => ?_, fun j k hj hk => ?_⟩, fun j hj => ?_, fun j hj => ⟨⟨0, by decide, ?_, ?_⟩, fun k hk => Or.inl ?_⟩, ⟨fun j hj => absurd hj (Nat.not_lt_zero j), fun j _ hj => ?_⟩, ⟨fun j hj => absurd hj (Nat.not_lt_zero j), fun j _ => rfl, fun j _ hj => ?_⟩, ⟨fun j hj => absurd hj (Nat.not_lt_zero j), fun i j hi => absurd hi (Nat.not_lt_zero i), fun b => Nat.le_refl 0, fun b hb => Or.inl ⟨rfl, ?_⟩, fun b b2 _ _ _ h => absurd rfl h⟩⟩
  · have h : ∀ j, j < 5 → cf_S0 1 j 0 = cf_S0 17 1 j ∧ cf_S0 1 j 1 = cf_S0 17 2 j ∧ cf_S0 1 j 2 = cf_S0 17 3 j ∧ cf_S0 17 3 j = nI 10 ∧ cf_S0 1 j 3 = nI 0 ∧ cf_S0 17 6 j = nI 0 := by decide +kernel
    obtain ⟨h1, h2, h3, h4, h5, h6⟩ := h j hj
    exact ⟨h1, h2, h3, ⟨10, by decide, h4⟩, 0, by decide, h5, h6⟩
  · have h : ∀ j, j < 5 → ∀ k, k < 4 → cf_S0 8 j k = cf_S0 17 4 (4 * j + k) ∧ cf_S0 9 j k = cf_S0 17 5 (4 * j + k) ∧ cf_S0 8 j k = nI 5 := by decide +kernel
    obtain ⟨h1, h2, h3⟩ := h j hj k hk
    exact ⟨h1, h2, 5, by decide, h3⟩
  · have h : ∀ j, j < 6 → cf_S0 3 j 0 = cf_S0 17 7 j ∧ cf_S0 17 8 j = nI 0 ∧ cf_S0 3 j 1 = nI 0 - 1 := by decide +kernel
    obtain ⟨h1, h2, h3⟩ := h j hj
    exact ⟨h1, 0, by decide, h2, h3⟩
  · exact (by decide +kernel : ∀ j, j < 3 → cf_S0 4 j 0 = nI 0) j hj
  · exact (by decide +kernel : ∀ j, j < 3 → cf_S0 17 10 j = nI 0) j hj
  · exact (by decide +kernel : ∀ j, j < 3 → ∀ k, k < 5 → cf_S0 10 j k = 1 ∧ cf_S0 17 9 (5 * j + k) = 0) j hj k hk
  · exact (by decide +kernel : ∀ j, j < 15 → cf_S0 17 13 j = 0) j hj
  · exact (by decide +kernel : ∀ j, j < 60 → cf_S0 17 20 j = 0) j hj
  · exact (by decide +kernel : ∀ j, j < 6 → cf_S0 17 21 j = 0) b hb
