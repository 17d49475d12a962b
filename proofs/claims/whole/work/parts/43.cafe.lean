section
variable {p : Program} {l : Launch} {e : Env} {R : Room} {s : State} {m : MethodId} {args : Array Value} {below : List Frame} {meth : Method} {c : Code} {cells slots : Nat} {Q : State → Prop} {pc : Nat}
/-- a loop whose every round makes cells -/
theorem cf_loopC {β : Type} (I : Nat → Heap → List Loc → Array Slot → β → Prop) (N dc ds : Nat) (hx : ∀ H locs ls b, I N H locs ls b → W p l e R s m args below meth c H locs (cells + N * dc) (slots + N * ds) Q (F0 m pc ls []))
    (hs : ∀ i H locs ls b, i < N → I i H locs ls b → (∀ H2 locs2 ls2 b2, I (i + 1) H2 locs2 ls2 b2 → W p l e R s m args below meth c H2 locs2 (cells + (i + 1) * dc) (slots + (i + 1) * ds) Q (F0 m pc ls2 [])) → W p l e R s m args below meth c H locs (cells + i * dc) (slots + i * ds) Q (F0 m pc ls []))
    {H : Heap} {locs : List Loc} {ls : Array Slot} (b : β) (h0 : I 0 H locs ls b) : W p l e R s m args below meth c H locs cells slots Q (F0 m pc ls []) := by
  have := cf_loop (α := Heap × List Loc × Array Slot × β) (fun i a => W p l e R s m args below meth c a.1 a.2.1 (cells + i * dc) (slots + i * ds) Q (F0 m pc a.2.2.1 [])) (fun i a => I i a.1 a.2.1 a.2.2.1 a.2.2.2) N (fun a h => hx a.1 a.2.1 a.2.2.1 a.2.2.2 h) (fun i a hi h ih => hs i a.1 a.2.1 a.2.2.1 a.2.2.2 hi h (fun H2 locs2 ls2 b2 h2 => ih (H2, locs2, ls2, b2) h2)) 0 (H, locs, ls, b) (Nat.zero_le N) h0
  simpa using this
end
def cf_f5 : Nat → Int32 := (upd (upd (upd (upd (fun _ => 0) 0 5) 1 5) 2 5) 3 5)
def cf_f4 : Nat → Int32 := (upd (upd (upd (upd (fun _ => 0) 0 4) 1 4) 2 4) 3 4)
def cf_fT : Nat → Int32 := (upd (upd (upd (upd (upd (fun _ => 0) 0 1) 1 1) 2 1) 3 1) 4 1)
abbrev cf_N5 : cf_T := cf_g2 (fun _ _ => none) 5 0 (some (.inr (5, [.null, .null, .null, .null, .null, .null, .int 0, .int 0, .int 0])))
/-- the café while it is made: n1 games, n3 tables, n4 teachers stand -/
def cf_w5 (cT : Nat → ClassId) (n1 n3 n4 : Nat) (ad : cf_Ad) : cf_T := fun k i => match k with
  | 1 => if i < n1 then some (.inr (1, [.int 2, .int 4, .int 10, .int 0, .ref (ad 8 i), .ref (ad 9 i)])) else none
  | 3 => if i < n3 then some (.inr (3, [.int (nI i), .int (nI i + 2), .int (-1)])) else none
  | 4 => if i < n4 then some (.inr (4, [.ref (ad 10 i), .int 0])) else none
  | 5 => if i < 1 then some (.inr (5, [.ref (ad 11 0), .ref (ad 12 0), .ref (ad 13 0), .ref (ad 14 0), .ref (ad 15 0), .ref (ad 16 0), .int 0, .int 0, .int 0])) else none
  | 8 => if i < n1 then some (.inl (cT 0, 4, .inl cf_f5)) else none
  | 9 => if i < n1 then some (.inl (cT 0, 4, .inl cf_f4)) else none
  | 10 => if i < n4 then some (.inl (cT 1, 5, .inl cf_fT)) else none
  | 11 => if i < 1 then some (.inl (cT 3, 5, .inr (.inr (.inr (.inr (fun j => if j < n1 then some (ad 1 j) else none)))))) else none
  | 12 => if i < 1 then some (.inl (cT 4, 6, .inr (.inr (.inr (.inr (fun j => if j < n3 then some (ad 3 j) else none)))))) else none
  | 13 => if i < 1 then some (.inl (cT 5, 3, .inr (.inr (.inr (.inr (fun j => if j < n4 then some (ad 4 j) else none)))))) else none
  | 14 => if i < 1 then some (.inl (cT 6, 15, .inr (.inr (.inr (.inr (fun _ => none)))))) else none
  | 15 => if i < 1 then some (.inl (cT 7, 60, .inr (.inr (.inr (.inr (fun _ => none)))))) else none
  | 16 => if i < 1 then some (.inl (cT 6, 6, .inr (.inr (.inr (.inr (fun _ => none)))))) else none
  | _ => none
theorem cf_w5A {cT : Nat → ClassId} {ad : cf_Ad} {q1 q2 q3 q4 q5 q6 : Nat} : (cf_g2 (cf_g2 (cf_g2 (cf_g2 (cf_g2 (cf_g2 (cf_g2 cf_N5 11 0 (some (.inl (cT 3, 5, .inr (.inr (.inr (.inr (fun _ => none)))))))) 12 0 (some (.inl (cT 4, 6, .inr (.inr (.inr (.inr (fun _ => none)))))))) 13 0 (some (.inl (cT 5, 3, .inr (.inr (.inr (.inr (fun _ => none)))))))) 14 0 (some (.inl (cT 6, 15, .inr (.inr (.inr (.inr (fun _ => none)))))))) 15 0 (some (.inl (cT 7, 60, .inr (.inr (.inr (.inr (fun _ => none)))))))) 16 0 (some (.inl (cT 6, 6, .inr (.inr (.inr (.inr (fun _ => none)))))))) 5 0 (some (.inr (5, [.ref ((cf_g2 ad 11 0 q1) 11 0), .ref ((cf_g2 (cf_g2 ad 11 0 q1) 12 0 q2) 12 0), .ref ((cf_g2 (cf_g2 (cf_g2 ad 11 0 q1) 12 0 q2) 13 0 q3) 13 0), .ref ((cf_g2 (cf_g2 (cf_g2 (cf_g2 ad 11 0 q1) 12 0 q2) 13 0 q3) 14 0 q4) 14 0), .ref ((cf_g2 (cf_g2 (cf_g2 (cf_g2 (cf_g2 ad 11 0 q1) 12 0 q2) 13 0 q3) 14 0 q4) 15 0 q5) 15 0), .ref ((cf_g2 (cf_g2 (cf_g2 (cf_g2 (cf_g2 (cf_g2 ad 11 0 q1) 12 0 q2) 13 0 q3) 14 0 q4) 15 0 q5) 16 0 q6) 16 0), .int 0, .int 0, .int 0])))) = cf_w5 cT 0 0 0 (cf_g2 (cf_g2 (cf_g2 (cf_g2 (cf_g2 (cf_g2 ad 11 0 q1) 12 0 q2) 13 0 q3) 14 0 q4) 15 0 q5) 16 0 q6) := by
  funext a b
  by_cases hb : b = 0
  · subst hb
    match a with
    | 0 => rfl
    | 1 => rfl
    | 2 => rfl
    | 3 => rfl
    | 4 => rfl
    | 5 => rfl
    | 6 => rfl
    | 7 => rfl
    | 8 => rfl
    | 9 => rfl
    | 10 => rfl
    | 11 => simp [cf_g2, cf_w5]
    | 12 => simp [cf_g2, cf_w5]
    | 13 => simp [cf_g2, cf_w5]
    | 14 => rfl
    | 15 => rfl
    | 16 => rfl
    | n + 17 => simp [cf_g2, cf_w5]
  · match a with
    | 0 => simp [cf_g2, cf_w5, hb]
    | 1 => simp [cf_g2, cf_w5, hb]
    | 2 => simp [cf_g2, cf_w5, hb]
    | 3 => simp [cf_g2, cf_w5, hb]
    | 4 => simp [cf_g2, cf_w5, hb]
    | 5 => simp [cf_g2, cf_w5, hb]
    | 6 => simp [cf_g2, cf_w5, hb]
    | 7 => simp [cf_g2, cf_w5, hb]
    | 8 => simp [cf_g2, cf_w5, hb]
    | 9 => simp [cf_g2, cf_w5, hb]
    | 10 => simp [cf_g2, cf_w5, hb]
    | 11 => simp [cf_g2, cf_w5, hb]
    | 12 => simp [cf_g2, cf_w5, hb]
    | 13 => simp [cf_g2, cf_w5, hb]
    | 14 => simp [cf_g2, cf_w5, hb]
    | 15 => simp [cf_g2, cf_w5, hb]
    | 16 => simp [cf_g2, cf_w5, hb]
    | n + 17 => simp [cf_g2, cf_w5]
theorem cf_w5S4 {cT : Nat → ClassId} {i : Nat} {b : cf_Ad} {q11 u8 : Nat} : (cf_g2 (cf_g2 (cf_g2 (cf_g2 (cf_w5 cT 5 6 i b) 4 i (some (.inr (4, [.null, .int 0])))) 10 i (some (.inl (cT 1, 5, .inl cf_fT)))) 4 i (some (.inr (4, [.ref ((cf_g2 (cf_g2 b 4 i q11) 10 i u8) 10 i), .int 0])))) 13 0 (some (.inl (cT 5, 3, .inr (.inr (.inr (.inr (va_up (fun j => if j < i then some (b 4 j) else none) i (some ((cf_g2 (cf_g2 b 4 i q11) 10 i u8) 4 i)))))))))) = (cf_w5 cT 5 6 (i + 1) (cf_g2 (cf_g2 b 4 i q11) 10 i u8)) := by
  funext a j
  have ht : ∀ n : Nat, j < n + 1 ↔ (j < n ∨ j = n) := fun n => by omega
  match a with
  | 0 => simp [cf_g2, cf_w5]
  | 1 => simp [cf_g2, cf_w5]
  | 2 => simp [cf_g2, cf_w5]
  | 3 => simp [cf_g2, cf_w5]
  | 4 =>
    by_cases h1 : j = i
    · subst h1; simp [cf_g2, cf_w5]
    · by_cases h2 : j < i
      · have h3 : j < i + 1 := by omega
        simp [cf_g2, cf_w5, h1, h2, h3]
      · have h3 : ¬ j < i + 1 := by omega
        simp [cf_g2, cf_w5, h1, h2, h3]
  | 5 => simp [cf_g2, cf_w5]
  | 6 => simp [cf_g2, cf_w5]
  | 7 => simp [cf_g2, cf_w5]
  | 8 => simp [cf_g2, cf_w5]
  | 9 => simp [cf_g2, cf_w5]
  | 10 =>
    by_cases h1 : j = i
    · subst h1; simp [cf_g2, cf_w5]
    · by_cases h2 : j < i
      · have h3 : j < i + 1 := by omega
        simp [cf_g2, cf_w5, h1, h2, h3]
      · have h3 : ¬ j < i + 1 := by omega
        simp [cf_g2, cf_w5, h1, h2, h3]
  | 11 => simp [cf_g2, cf_w5]
  | 12 => simp [cf_g2, cf_w5]
  | 13 =>
    by_cases h0 : j = 0
    · subst h0
      simp only [cf_g2, cf_w5]
      simp
      funext q
      by_cases h1 : q = i
      · subst h1; simp [va_up, cf_g2]
      · by_cases h2 : q < i
        · have h3 : q < i + 1 := by omega
          simp [va_up, cf_g2, h1, h2, h3]
        · have h3 : ¬ q < i + 1 := by omega
          simp [va_up, cf_g2, h1, h2, h3]
    · simp [cf_g2, cf_w5, h0]
  | 14 => simp [cf_g2, cf_w5]
  | 15 => simp [cf_g2, cf_w5]
  | 16 => simp [cf_g2, cf_w5]
  | n + 17 => simp [cf_g2, cf_w5]
theorem cf_w5S3 {cT : Nat → ClassId} {i : Nat} {b : cf_Ad} {q13 : Nat} : (cf_g2 (cf_g2 (cf_w5 cT 5 i 0 b) 3 i (some (.inr (3, [.int (nI i), .int (nI i + 2), .int (-1)])))) 12 0 (some (.inl (cT 4, 6, .inr (.inr (.inr (.inr (va_up (fun j => if j < i then some (b 3 j) else none) i (some ((cf_g2 b 3 i q13) 3 i)))))))))) = (cf_w5 cT 5 (i + 1) 0 (cf_g2 b 3 i q13)) := by
  funext a j
  have ht : ∀ n : Nat, j < n + 1 ↔ (j < n ∨ j = n) := fun n => by omega
  match a with
  | 0 => simp [cf_g2, cf_w5]
  | 1 => simp [cf_g2, cf_w5]
  | 2 => simp [cf_g2, cf_w5]
  | 3 =>
    by_cases h1 : j = i
    · subst h1; simp [cf_g2, cf_w5]
    · by_cases h2 : j < i
      · have h3 : j < i + 1 := by omega
        simp [cf_g2, cf_w5, h1, h2, h3]
      · have h3 : ¬ j < i + 1 := by omega
        simp [cf_g2, cf_w5, h1, h2, h3]
  | 4 => simp [cf_g2, cf_w5]
  | 5 => simp [cf_g2, cf_w5]
  | 6 => simp [cf_g2, cf_w5]
  | 7 => simp [cf_g2, cf_w5]
  | 8 => simp [cf_g2, cf_w5]
  | 9 => simp [cf_g2, cf_w5]
  | 10 => simp [cf_g2, cf_w5]
  | 11 => simp [cf_g2, cf_w5]
  | 12 =>
    by_cases h0 : j = 0
    · subst h0
      simp only [cf_g2, cf_w5]
      simp
      funext q
      by_cases h1 : q = i
      · subst h1; simp [va_up, cf_g2]
      · by_cases h2 : q < i
        · have h3 : q < i + 1 := by omega
          simp [va_up, cf_g2, h1, h2, h3]
        · have h3 : ¬ q < i + 1 := by omega
          simp [va_up, cf_g2, h1, h2, h3]
    · simp [cf_g2, cf_w5, h0]
  | 13 => simp [cf_g2, cf_w5]
  | 14 => simp [cf_g2, cf_w5]
  | 15 => simp [cf_g2, cf_w5]
  | 16 => simp [cf_g2, cf_w5]
  | n + 17 => simp [cf_g2, cf_w5]
theorem cf_w5S1 {cT : Nat → ClassId} {i : Nat} {b : cf_Ad} {q15 u8 u9 : Nat} : (cf_g2 (cf_g2 (cf_g2 (cf_g2 (cf_g2 (cf_w5 cT i 0 0 b) 1 i (some (.inr (1, [.int 0, .int 0, .int 0, .int 0, .null, .null])))) 8 i (some (.inl (cT 0, 4, .inl cf_f5)))) 9 i (some (.inl (cT 0, 4, .inl cf_f4)))) 1 i (some (.inr (1, [.int 2, .int 4, .int 10, .int 0, .ref ((cf_g2 (cf_g2 b 1 i q15) 8 i u8) 8 i), .ref ((cf_g2 (cf_g2 (cf_g2 b 1 i q15) 8 i u8) 9 i u9) 9 i)])))) 11 0 (some (.inl (cT 3, 5, .inr (.inr (.inr (.inr (va_up (fun j => if j < i then some (b 1 j) else none) i (some ((cf_g2 (cf_g2 (cf_g2 b 1 i q15) 8 i u8) 9 i u9) 1 i)))))))))) = (cf_w5 cT (i + 1) 0 0 (cf_g2 (cf_g2 (cf_g2 b 1 i q15) 8 i u8) 9 i u9)) := by
  funext a j
  have ht : ∀ n : Nat, j < n + 1 ↔ (j < n ∨ j = n) := fun n => by omega
  match a with
  | 0 => simp [cf_g2, cf_w5]
  | 1 =>
    by_cases h1 : j = i
    · subst h1; simp [cf_g2, cf_w5]
    · by_cases h2 : j < i
      · have h3 : j < i + 1 := by omega
        simp [cf_g2, cf_w5, h1, h2, h3]
      · have h3 : ¬ j < i + 1 := by omega
        simp [cf_g2, cf_w5, h1, h2, h3]
  | 2 => simp [cf_g2, cf_w5]
  | 3 => simp [cf_g2, cf_w5]
  | 4 => simp [cf_g2, cf_w5]
  | 5 => simp [cf_g2, cf_w5]
  | 6 => simp [cf_g2, cf_w5]
  | 7 => simp [cf_g2, cf_w5]
  | 8 =>
    by_cases h1 : j = i
    · subst h1; simp [cf_g2, cf_w5]
    · by_cases h2 : j < i
      · have h3 : j < i + 1 := by omega
        simp [cf_g2, cf_w5, h1, h2, h3]
      · have h3 : ¬ j < i + 1 := by omega
        simp [cf_g2, cf_w5, h1, h2, h3]
  | 9 =>
    by_cases h1 : j = i
    · subst h1; simp [cf_g2, cf_w5]
    · by_cases h2 : j < i
      · have h3 : j < i + 1 := by omega
        simp [cf_g2, cf_w5, h1, h2, h3]
      · have h3 : ¬ j < i + 1 := by omega
        simp [cf_g2, cf_w5, h1, h2, h3]
  | 10 => simp [cf_g2, cf_w5]
  | 11 =>
    by_cases h0 : j = 0
    · subst h0
      simp only [cf_g2, cf_w5]
      simp
      funext q
      by_cases h1 : q = i
      · subst h1; simp [va_up, cf_g2]
      · by_cases h2 : q < i
        · have h3 : q < i + 1 := by omega
          simp [va_up, cf_g2, h1, h2, h3]
        · have h3 : ¬ q < i + 1 := by omega
          simp [va_up, cf_g2, h1, h2, h3]
    · simp [cf_g2, cf_w5, h0]
  | 12 => simp [cf_g2, cf_w5]
  | 13 => simp [cf_g2, cf_w5]
  | 14 => simp [cf_g2, cf_w5]
  | 15 => simp [cf_g2, cf_w5]
  | 16 => simp [cf_g2, cf_w5]
  | n + 17 => simp [cf_g2, cf_w5]
set_option maxHeartbeats 4000000 in
set_option maxRecDepth 100000 in
/-- X5_init -/
theorem c_X5_init (l : Launch) (D : va_G) (cT : Nat → ClassId) (z : Nat) (ad : cf_Ad) : Met l yX5_init wsX5_init ({ frames := 2, cells := 33, slots := 204, locals := 34 }) (va_Pc [.ref (ad 5 0)] (cf_P D cT z cf_N5 ad)) (cf_Qv D z (fun (b : cf_Ad) => b 5 0 = ad 5 0) (fun b => cf_w5 cT 5 6 3 b) (fun b => b)) 33 204 (fun q => z ≤ q) := by
  refine Met.ofW (cc := cX5_init) (maxL := 2) (ret := none) (by decide) rfl ?_
  intro p e s m args below meth c s₁ B hml hv
  obtain ⟨rfl, hW, hT⟩ := hv
  have hx := B.exec
  have hb := B.bytes
  have hr := B.returns
  have hts := atoms_spec (ws := wsX5_init) B.pre
  have hown : s.vm.findClass RX5 = some m.cls := findClass_of_methodNamed B.named
  have hlocks := B.notSynchronized
  have hS : va_S (fun q => z ≤ q) s.heap s.heap [] := va_S.rf
  have hl := lv_entry ([.ref (ad 5 0)]) (n := 2) (Nat.le_of_ble_eq_true rfl)
  rw [lg_entry_eq]
  generalize (lg_sl ([.ref (ad 5 0)]) ++ List.replicate (2 - (lg_sl ([.ref (ad 5 0)])).length) Slot.unset).toArray = ls at hl ⊢
  have hl : lv_has ls 2 [(0, .ref (ad 5 0))] := hl
  skip
  have hin0 : meth.name = "<init>" := (name_of_methodNamed B.named B.method).1
  refine lv_aload_n hx hb dX5_init_0 rfl (lv_at hl 0 rfl) ?_
  refine W.objInit hx hb hown (hts (.methodLink RX5 1 objectInit) (List.mem_of_getElem? (i := 1) rfl)) (hts (.instanceMethod objectInit) (List.mem_of_getElem? (i := 2) rfl)) (hts (.code objectInit ⟨#[0xb1]⟩ 1 none) (List.mem_of_getElem? (i := 3) rfl)) rfl (by rw [hml]; exact hl.1) rfl dX5_init_1 (Nat.le_of_ble_eq_true rfl) (Nat.le_of_ble_eq_true rfl) ?_
  refine W.eq (g2 := F0 m 4 ls []) rfl ?_
  refine lv_aload_n hx hb dX5_init_4 rfl (lv_at hl 0 rfl) ?_
  refine lv_iconst (v := 5) hx hb dX5_init_5 (by decide) ?_
  refine cf_newq (C := RX1) (ad := ad) (N' := 5) hx hb hown (hts (.classLink RX5 9 RX1) (List.mem_of_getElem? (i := 4) rfl)) (hT.2.2.2.2.2.1 RX1 (List.mem_of_getElem? (i := 0) rfl)) hT.1 hW hS 11 0 (show cf_N5 11 0 = none from rfl) 3 rfl (by decide) rfl (Nat.le_of_ble_eq_true rfl) (Nat.le_of_ble_eq_true rfl) (Nat.le_of_ble_eq_true rfl) dX5_init_6 (fun q1 H hW hS => ?_)
  have hl : lv_has ls 2 [(0, .ref ((cf_g2 ad 11 0 q1) 5 0))] := hl
  refine cf_putFE (v := .ref ((cf_g2 ad 11 0 q1) 11 0)) (k := 5) (i := 0) (ad := (cf_g2 ad 11 0 q1)) (ty := (.array (.object "GameCafe$Game"))) (ci := 5) (C := RX5) (T := TX5) (N := 9) hx hb hts (fun _ h => List.mem_cons_of_mem _ (List.mem_append_left _ (List.mem_append_left _ (List.mem_append_left _ (List.mem_append_right _ (h)))))) tyX5 tyX5_ok nmX5 hown hT.1 hW hS ((cf_g2n (fun q9 => absurd q9.1 (by decide))).trans cf_g2s) rfl 0 (by decide) (hts (.fieldLink RX5 11 "GameCafe" "games" "[LGameCafe$Game;") (List.mem_of_getElem? (i := 5) rfl)) (fun _ h9 => h9) rfl hin0 rfl (by decide +kernel) rfl rfl (Nat.le_of_ble_eq_true rfl) dX5_init_9 (E2 := (cf_g2 (cf_g2 cf_N5 11 0 (some (.inl (cT 3, 5, .inr (.inr (.inr (.inr (fun _ => none)))))))) 5 0 (some (.inr (5, [.ref ((cf_g2 ad 11 0 q1) 11 0), .null, .null, .null, .null, .null, .int 0, .int 0, .int 0]))))) rfl (fun H locs hW hS => ?_)
  refine lv_aload_n hx hb dX5_init_12 rfl (lv_at hl 0 rfl) ?_
  refine lv_bipush (v := 6) hx hb dX5_init_13 (by decide) ?_
  refine cf_newq (C := RX3) (ad := (cf_g2 ad 11 0 q1)) (N' := 6) hx hb hown (hts (.classLink RX5 15 RX3) (List.mem_of_getElem? (i := 6) rfl)) (hT.2.2.2.2.2.1 RX3 (List.mem_of_getElem? (i := 1) rfl)) hT.1 hW hS 12 0 ((cf_g2n (fun q9 => absurd q9.1 (by decide))).trans ((cf_g2n (fun q9 => absurd q9.1 (by decide))).trans (show cf_N5 12 0 = none from rfl))) 4 rfl (by decide) rfl (Nat.le_of_ble_eq_true rfl) (Nat.le_of_ble_eq_true rfl) (Nat.le_of_ble_eq_true rfl) dX5_init_15 (fun q2 H hW hS => ?_)
  have hl : lv_has ls 2 [(0, .ref ((cf_g2 (cf_g2 ad 11 0 q1) 12 0 q2) 5 0))] := hl
  refine cf_putFE (v := .ref ((cf_g2 (cf_g2 ad 11 0 q1) 12 0 q2) 12 0)) (k := 5) (i := 0) (ad := (cf_g2 (cf_g2 ad 11 0 q1) 12 0 q2)) (ty := (.array (.object "GameCafe$Table"))) (ci := 5) (C := RX5) (T := TX5) (N := 9) hx hb hts (fun _ h => List.mem_cons_of_mem _ (List.mem_append_left _ (List.mem_append_left _ (List.mem_append_left _ (List.mem_append_right _ (h)))))) tyX5 tyX5_ok nmX5 hown hT.1 hW hS ((cf_g2n (fun q9 => absurd q9.1 (by decide))).trans cf_g2s) rfl 1 (by decide) (hts (.fieldLink RX5 17 "GameCafe" "tables" "[LGameCafe$Table;") (List.mem_of_getElem? (i := 7) rfl)) (fun _ h9 => h9) rfl hin0 rfl (by decide +kernel) rfl rfl (Nat.le_of_ble_eq_true rfl) dX5_init_18 (E2 := (cf_g2 (cf_g2 (cf_g2 cf_N5 11 0 (some (.inl (cT 3, 5, .inr (.inr (.inr (.inr (fun _ => none)))))))) 12 0 (some (.inl (cT 4, 6, .inr (.inr (.inr (.inr (fun _ => none)))))))) 5 0 (some (.inr (5, [.ref ((cf_g2 ad 11 0 q1) 11 0), .ref ((cf_g2 (cf_g2 ad 11 0 q1) 12 0 q2) 12 0), .null, .null, .null, .null, .int 0, .int 0, .int 0]))))) cf_g2r (fun H locs hW hS => ?_)
  refine lv_aload_n hx hb dX5_init_21 rfl (lv_at hl 0 rfl) ?_
  refine lv_iconst (v := 3) hx hb dX5_init_22 (by decide) ?_
  refine cf_newq (C := RX4) (ad := (cf_g2 (cf_g2 ad 11 0 q1) 12 0 q2)) (N' := 3) hx hb hown (hts (.classLink RX5 21 RX4) (List.mem_of_getElem? (i := 8) rfl)) (hT.2.2.2.2.2.1 RX4 (List.mem_of_getElem? (i := 2) rfl)) hT.1 hW hS 13 0 ((cf_g2n (fun q9 => absurd q9.1 (by decide))).trans ((cf_g2n (fun q9 => absurd q9.1 (by decide))).trans ((cf_g2n (fun q9 => absurd q9.1 (by decide))).trans (show cf_N5 13 0 = none from rfl)))) 5 rfl (by decide) rfl (Nat.le_of_ble_eq_true rfl) (Nat.le_of_ble_eq_true rfl) (Nat.le_of_ble_eq_true rfl) dX5_init_23 (fun q3 H hW hS => ?_)
  have hl : lv_has ls 2 [(0, .ref ((cf_g2 (cf_g2 (cf_g2 ad 11 0 q1) 12 0 q2) 13 0 q3) 5 0))] := hl
  refine cf_putFE (v := .ref ((cf_g2 (cf_g2 (cf_g2 ad 11 0 q1) 12 0 q2) 13 0 q3) 13 0)) (k := 5) (i := 0) (ad := (cf_g2 (cf_g2 (cf_g2 ad 11 0 q1) 12 0 q2) 13 0 q3)) (ty := (.array (.object "GameCafe$Teacher"))) (ci := 5) (C := RX5) (T := TX5) (N := 9) hx hb hts (fun _ h => List.mem_cons_of_mem _ (List.mem_append_left _ (List.mem_append_left _ (List.mem_append_left _ (List.mem_append_right _ (h)))))) tyX5 tyX5_ok nmX5 hown hT.1 hW hS ((cf_g2n (fun q9 => absurd q9.1 (by decide))).trans cf_g2s) rfl 2 (by decide) (hts (.fieldLink RX5 23 "GameCafe" "staff" "[LGameCafe$Teacher;") (List.mem_of_getElem? (i := 9) rfl)) (fun _ h9 => h9) rfl hin0 rfl (by decide +kernel) rfl rfl (Nat.le_of_ble_eq_true rfl) dX5_init_26 (E2 := (cf_g2 (cf_g2 (cf_g2 (cf_g2 cf_N5 11 0 (some (.inl (cT 3, 5, .inr (.inr (.inr (.inr (fun _ => none)))))))) 12 0 (some (.inl (cT 4, 6, .inr (.inr (.inr (.inr (fun _ => none)))))))) 13 0 (some (.inl (cT 5, 3, .inr (.inr (.inr (.inr (fun _ => none)))))))) 5 0 (some (.inr (5, [.ref ((cf_g2 ad 11 0 q1) 11 0), .ref ((cf_g2 (cf_g2 ad 11 0 q1) 12 0 q2) 12 0), .ref ((cf_g2 (cf_g2 (cf_g2 ad 11 0 q1) 12 0 q2) 13 0 q3) 13 0), .null, .null, .null, .int 0, .int 0, .int 0]))))) cf_g2r (fun H locs hW hS => ?_)
  refine lv_aload_n hx hb dX5_init_29 rfl (lv_at hl 0 rfl) ?_
  refine lv_bipush (v := 15) hx hb dX5_init_30 (by decide) ?_
  refine cf_newq (C := RX0) (ad := (cf_g2 (cf_g2 (cf_g2 ad 11 0 q1) 12 0 q2) 13 0 q3)) (N' := 15) hx hb hown (hts (.classLink RX5 27 RX0) (List.mem_of_getElem? (i := 10) rfl)) (hT.2.2.2.2.2.1 RX0 (List.mem_of_getElem? (i := 3) rfl)) hT.1 hW hS 14 0 ((cf_g2n (fun q9 => absurd q9.1 (by decide))).trans ((cf_g2n (fun q9 => absurd q9.1 (by decide))).trans ((cf_g2n (fun q9 => absurd q9.1 (by decide))).trans ((cf_g2n (fun q9 => absurd q9.1 (by decide))).trans (show cf_N5 14 0 = none from rfl))))) 6 rfl (by decide) rfl (Nat.le_of_ble_eq_true rfl) (Nat.le_of_ble_eq_true rfl) (Nat.le_of_ble_eq_true rfl) dX5_init_32 (fun q4 H hW hS => ?_)
  have hl : lv_has ls 2 [(0, .ref ((cf_g2 (cf_g2 (cf_g2 (cf_g2 ad 11 0 q1) 12 0 q2) 13 0 q3) 14 0 q4) 5 0))] := hl
  refine cf_putFE (v := .ref ((cf_g2 (cf_g2 (cf_g2 (cf_g2 ad 11 0 q1) 12 0 q2) 13 0 q3) 14 0 q4) 14 0)) (k := 5) (i := 0) (ad := (cf_g2 (cf_g2 (cf_g2 (cf_g2 ad 11 0 q1) 12 0 q2) 13 0 q3) 14 0 q4)) (ty := (.array (.object "GameCafe$Copy"))) (ci := 5) (C := RX5) (T := TX5) (N := 9) hx hb hts (fun _ h => List.mem_cons_of_mem _ (List.mem_append_left _ (List.mem_append_left _ (List.mem_append_left _ (List.mem_append_right _ (h)))))) tyX5 tyX5_ok nmX5 hown hT.1 hW hS ((cf_g2n (fun q9 => absurd q9.1 (by decide))).trans cf_g2s) rfl 3 (by decide) (hts (.fieldLink RX5 29 "GameCafe" "owned" "[LGameCafe$Copy;") (List.mem_of_getElem? (i := 11) rfl)) (fun _ h9 => h9) rfl hin0 rfl (by decide +kernel) rfl rfl (Nat.le_of_ble_eq_true rfl) dX5_init_35 (E2 := (cf_g2 (cf_g2 (cf_g2 (cf_g2 (cf_g2 cf_N5 11 0 (some (.inl (cT 3, 5, .inr (.inr (.inr (.inr (fun _ => none)))))))) 12 0 (some (.inl (cT 4, 6, .inr (.inr (.inr (.inr (fun _ => none)))))))) 13 0 (some (.inl (cT 5, 3, .inr (.inr (.inr (.inr (fun _ => none)))))))) 14 0 (some (.inl (cT 6, 15, .inr (.inr (.inr (.inr (fun _ => none)))))))) 5 0 (some (.inr (5, [.ref ((cf_g2 ad 11 0 q1) 11 0), .ref ((cf_g2 (cf_g2 ad 11 0 q1) 12 0 q2) 12 0), .ref ((cf_g2 (cf_g2 (cf_g2 ad 11 0 q1) 12 0 q2) 13 0 q3) 13 0), .ref ((cf_g2 (cf_g2 (cf_g2 (cf_g2 ad 11 0 q1) 12 0 q2) 13 0 q3) 14 0 q4) 14 0), .null, .null, .int 0, .int 0, .int 0]))))) cf_g2r (fun H locs hW hS => ?_)
  refine lv_aload_n hx hb dX5_init_38 rfl (lv_at hl 0 rfl) ?_
  refine lv_bipush (v := 60) hx hb dX5_init_39 (by decide) ?_
  refine cf_newq (C := RX2) (ad := (cf_g2 (cf_g2 (cf_g2 (cf_g2 ad 11 0 q1) 12 0 q2) 13 0 q3) 14 0 q4)) (N' := 60) hx hb hown (hts (.classLink RX5 33 RX2) (List.mem_of_getElem? (i := 12) rfl)) (hT.2.2.2.2.2.1 RX2 (List.mem_of_getElem? (i := 4) rfl)) hT.1 hW hS 15 0 ((cf_g2n (fun q9 => absurd q9.1 (by decide))).trans ((cf_g2n (fun q9 => absurd q9.1 (by decide))).trans ((cf_g2n (fun q9 => absurd q9.1 (by decide))).trans ((cf_g2n (fun q9 => absurd q9.1 (by decide))).trans ((cf_g2n (fun q9 => absurd q9.1 (by decide))).trans (show cf_N5 15 0 = none from rfl)))))) 7 rfl (by decide) rfl (Nat.le_of_ble_eq_true rfl) (Nat.le_of_ble_eq_true rfl) (Nat.le_of_ble_eq_true rfl) dX5_init_41 (fun q5 H hW hS => ?_)
  have hl : lv_has ls 2 [(0, .ref ((cf_g2 (cf_g2 (cf_g2 (cf_g2 (cf_g2 ad 11 0 q1) 12 0 q2) 13 0 q3) 14 0 q4) 15 0 q5) 5 0))] := hl
  refine cf_putFE (v := .ref ((cf_g2 (cf_g2 (cf_g2 (cf_g2 (cf_g2 ad 11 0 q1) 12 0 q2) 13 0 q3) 14 0 q4) 15 0 q5) 15 0)) (k := 5) (i := 0) (ad := (cf_g2 (cf_g2 (cf_g2 (cf_g2 (cf_g2 ad 11 0 q1) 12 0 q2) 13 0 q3) 14 0 q4) 15 0 q5)) (ty := (.array (.object "GameCafe$Group"))) (ci := 5) (C := RX5) (T := TX5) (N := 9) hx hb hts (fun _ h => List.mem_cons_of_mem _ (List.mem_append_left _ (List.mem_append_left _ (List.mem_append_left _ (List.mem_append_right _ (h)))))) tyX5 tyX5_ok nmX5 hown hT.1 hW hS ((cf_g2n (fun q9 => absurd q9.1 (by decide))).trans cf_g2s) rfl 4 (by decide) (hts (.fieldLink RX5 35 "GameCafe" "groups" "[LGameCafe$Group;") (List.mem_of_getElem? (i := 13) rfl)) (fun _ h9 => h9) rfl hin0 rfl (by decide +kernel) rfl rfl (Nat.le_of_ble_eq_true rfl) dX5_init_44 (E2 := (cf_g2 (cf_g2 (cf_g2 (cf_g2 (cf_g2 (cf_g2 cf_N5 11 0 (some (.inl (cT 3, 5, .inr (.inr (.inr (.inr (fun _ => none)))))))) 12 0 (some (.inl (cT 4, 6, .inr (.inr (.inr (.inr (fun _ => none)))))))) 13 0 (some (.inl (cT 5, 3, .inr (.inr (.inr (.inr (fun _ => none)))))))) 14 0 (some (.inl (cT 6, 15, .inr (.inr (.inr (.inr (fun _ => none)))))))) 15 0 (some (.inl (cT 7, 60, .inr (.inr (.inr (.inr (fun _ => none)))))))) 5 0 (some (.inr (5, [.ref ((cf_g2 ad 11 0 q1) 11 0), .ref ((cf_g2 (cf_g2 ad 11 0 q1) 12 0 q2) 12 0), .ref ((cf_g2 (cf_g2 (cf_g2 ad 11 0 q1) 12 0 q2) 13 0 q3) 13 0), .ref ((cf_g2 (cf_g2 (cf_g2 (cf_g2 ad 11 0 q1) 12 0 q2) 13 0 q3) 14 0 q4) 14 0), .ref ((cf_g2 (cf_g2 (cf_g2 (cf_g2 (cf_g2 ad 11 0 q1) 12 0 q2) 13 0 q3) 14 0 q4) 15 0 q5) 15 0), .null, .int 0, .int 0, .int 0]))))) cf_g2r (fun H locs hW hS => ?_)
  refine lv_aload_n hx hb dX5_init_47 rfl (lv_at hl 0 rfl) ?_
  refine lv_bipush (v := 6) hx hb dX5_init_48 (by decide) ?_
  refine cf_newq (C := RX0) (ad := (cf_g2 (cf_g2 (cf_g2 (cf_g2 (cf_g2 ad 11 0 q1) 12 0 q2) 13 0 q3) 14 0 q4) 15 0 q5)) (N' := 6) hx hb hown (hts (.classLink RX5 27 RX0) (List.mem_of_getElem? (i := 10) rfl)) (hT.2.2.2.2.2.1 RX0 (List.mem_of_getElem? (i := 3) rfl)) hT.1 hW hS 16 0 ((cf_g2n (fun q9 => absurd q9.1 (by decide))).trans ((cf_g2n (fun q9 => absurd q9.1 (by decide))).trans ((cf_g2n (fun q9 => absurd q9.1 (by decide))).trans ((cf_g2n (fun q9 => absurd q9.1 (by decide))).trans ((cf_g2n (fun q9 => absurd q9.1 (by decide))).trans ((cf_g2n (fun q9 => absurd q9.1 (by decide))).trans (show cf_N5 16 0 = none from rfl))))))) 6 rfl (by decide) rfl (Nat.le_of_ble_eq_true rfl) (Nat.le_of_ble_eq_true rfl) (Nat.le_of_ble_eq_true rfl) dX5_init_50 (fun q6 H hW hS => ?_)
  have hl : lv_has ls 2 [(0, .ref ((cf_g2 (cf_g2 (cf_g2 (cf_g2 (cf_g2 (cf_g2 ad 11 0 q1) 12 0 q2) 13 0 q3) 14 0 q4) 15 0 q5) 16 0 q6) 5 0))] := hl
  refine cf_putFE (v := .ref ((cf_g2 (cf_g2 (cf_g2 (cf_g2 (cf_g2 (cf_g2 ad 11 0 q1) 12 0 q2) 13 0 q3) 14 0 q4) 15 0 q5) 16 0 q6) 16 0)) (k := 5) (i := 0) (ad := (cf_g2 (cf_g2 (cf_g2 (cf_g2 (cf_g2 (cf_g2 ad 11 0 q1) 12 0 q2) 13 0 q3) 14 0 q4) 15 0 q5) 16 0 q6)) (ty := (.array (.object "GameCafe$Copy"))) (ci := 5) (C := RX5) (T := TX5) (N := 9) hx hb hts (fun _ h => List.mem_cons_of_mem _ (List.mem_append_left _ (List.mem_append_left _ (List.mem_append_left _ (List.mem_append_right _ (h)))))) tyX5 tyX5_ok nmX5 hown hT.1 hW hS ((cf_g2n (fun q9 => absurd q9.1 (by decide))).trans cf_g2s) rfl 5 (by decide) (hts (.fieldLink RX5 39 "GameCafe" "borrowed" "[LGameCafe$Copy;") (List.mem_of_getElem? (i := 14) rfl)) (fun _ h9 => h9) rfl hin0 rfl (by decide +kernel) rfl rfl (Nat.le_of_ble_eq_true rfl) dX5_init_53 (E2 := (cf_g2 (cf_g2 (cf_g2 (cf_g2 (cf_g2 (cf_g2 (cf_g2 cf_N5 11 0 (some (.inl (cT 3, 5, .inr (.inr (.inr (.inr (fun _ => none)))))))) 12 0 (some (.inl (cT 4, 6, .inr (.inr (.inr (.inr (fun _ => none)))))))) 13 0 (some (.inl (cT 5, 3, .inr (.inr (.inr (.inr (fun _ => none)))))))) 14 0 (some (.inl (cT 6, 15, .inr (.inr (.inr (.inr (fun _ => none)))))))) 15 0 (some (.inl (cT 7, 60, .inr (.inr (.inr (.inr (fun _ => none)))))))) 16 0 (some (.inl (cT 6, 6, .inr (.inr (.inr (.inr (fun _ => none)))))))) 5 0 (some (.inr (5, [.ref ((cf_g2 ad 11 0 q1) 11 0), .ref ((cf_g2 (cf_g2 ad 11 0 q1) 12 0 q2) 12 0), .ref ((cf_g2 (cf_g2 (cf_g2 ad 11 0 q1) 12 0 q2) 13 0 q3) 13 0), .ref ((cf_g2 (cf_g2 (cf_g2 (cf_g2 ad 11 0 q1) 12 0 q2) 13 0 q3) 14 0 q4) 14 0), .ref ((cf_g2 (cf_g2 (cf_g2 (cf_g2 (cf_g2 ad 11 0 q1) 12 0 q2) 13 0 q3) 14 0 q4) 15 0 q5) 15 0), .ref ((cf_g2 (cf_g2 (cf_g2 (cf_g2 (cf_g2 (cf_g2 ad 11 0 q1) 12 0 q2) 13 0 q3) 14 0 q4) 15 0 q5) 16 0 q6) 16 0), .int 0, .int 0, .int 0]))))) cf_g2r (fun H locs hW hS => ?_)
  refine lv_aload_n hx hb dX5_init_56 rfl (lv_at hl 0 rfl) ?_
  refine lv_iconst (v := 0) hx hb dX5_init_57 (by decide) ?_
  refine cf_putE (v := .int 0) (k := 5) (i := 0) (ad := (cf_g2 (cf_g2 (cf_g2 (cf_g2 (cf_g2 (cf_g2 ad 11 0 q1) 12 0 q2) 13 0 q3) 14 0 q4) 15 0 q5) 16 0 q6)) (ty := .int) (ci := 5) (C := RX5) (T := TX5) (N := 9) hx hb hts (fun _ h => List.mem_cons_of_mem _ (List.mem_append_left _ (List.mem_append_left _ (List.mem_append_left _ (List.mem_append_right _ (h)))))) tyX5 tyX5_ok nmX5 hown hT.1 hW hS cf_g2s rfl 6 (by decide) (hts (.fieldLink RX5 42 "GameCafe" "bought" "I") (List.mem_of_getElem? (i := 15) rfl)) (fun _ h9 => h9) rfl (by decide +kernel) rfl rfl (Nat.le_of_ble_eq_true rfl) dX5_init_58 (E2 := (cf_g2 (cf_g2 (cf_g2 (cf_g2 (cf_g2 (cf_g2 (cf_g2 cf_N5 11 0 (some (.inl (cT 3, 5, .inr (.inr (.inr (.inr (fun _ => none)))))))) 12 0 (some (.inl (cT 4, 6, .inr (.inr (.inr (.inr (fun _ => none)))))))) 13 0 (some (.inl (cT 5, 3, .inr (.inr (.inr (.inr (fun _ => none)))))))) 14 0 (some (.inl (cT 6, 15, .inr (.inr (.inr (.inr (fun _ => none)))))))) 15 0 (some (.inl (cT 7, 60, .inr (.inr (.inr (.inr (fun _ => none)))))))) 16 0 (some (.inl (cT 6, 6, .inr (.inr (.inr (.inr (fun _ => none)))))))) 5 0 (some (.inr (5, [.ref ((cf_g2 ad 11 0 q1) 11 0), .ref ((cf_g2 (cf_g2 ad 11 0 q1) 12 0 q2) 12 0), .ref ((cf_g2 (cf_g2 (cf_g2 ad 11 0 q1) 12 0 q2) 13 0 q3) 13 0), .ref ((cf_g2 (cf_g2 (cf_g2 (cf_g2 ad 11 0 q1) 12 0 q2) 13 0 q3) 14 0 q4) 14 0), .ref ((cf_g2 (cf_g2 (cf_g2 (cf_g2 (cf_g2 ad 11 0 q1) 12 0 q2) 13 0 q3) 14 0 q4) 15 0 q5) 15 0), .ref ((cf_g2 (cf_g2 (cf_g2 (cf_g2 (cf_g2 (cf_g2 ad 11 0 q1) 12 0 q2) 13 0 q3) 14 0 q4) 15 0 q5) 16 0 q6) 16 0), .int 0, .int 0, .int 0]))))) cf_g2c (fun H locs hW hS => ?_)
  refine lv_aload_n hx hb dX5_init_61 rfl (lv_at hl 0 rfl) ?_
  refine lv_iconst (v := 0) hx hb dX5_init_62 (by decide) ?_
  refine cf_putE (v := .int 0) (k := 5) (i := 0) (ad := (cf_g2 (cf_g2 (cf_g2 (cf_g2 (cf_g2 (cf_g2 ad 11 0 q1) 12 0 q2) 13 0 q3) 14 0 q4) 15 0 q5) 16 0 q6)) (ty := .int) (ci := 5) (C := RX5) (T := TX5) (N := 9) hx hb hts (fun _ h => List.mem_cons_of_mem _ (List.mem_append_left _ (List.mem_append_left _ (List.mem_append_left _ (List.mem_append_right _ (h)))))) tyX5 tyX5_ok nmX5 hown hT.1 hW hS cf_g2s rfl 7 (by decide) (hts (.fieldLink RX5 46 "GameCafe" "seated" "I") (List.mem_of_getElem? (i := 16) rfl)) (fun _ h9 => h9) rfl (by decide +kernel) rfl rfl (Nat.le_of_ble_eq_true rfl) dX5_init_63 (E2 := (cf_g2 (cf_g2 (cf_g2 (cf_g2 (cf_g2 (cf_g2 (cf_g2 cf_N5 11 0 (some (.inl (cT 3, 5, .inr (.inr (.inr (.inr (fun _ => none)))))))) 12 0 (some (.inl (cT 4, 6, .inr (.inr (.inr (.inr (fun _ => none)))))))) 13 0 (some (.inl (cT 5, 3, .inr (.inr (.inr (.inr (fun _ => none)))))))) 14 0 (some (.inl (cT 6, 15, .inr (.inr (.inr (.inr (fun _ => none)))))))) 15 0 (some (.inl (cT 7, 60, .inr (.inr (.inr (.inr (fun _ => none)))))))) 16 0 (some (.inl (cT 6, 6, .inr (.inr (.inr (.inr (fun _ => none)))))))) 5 0 (some (.inr (5, [.ref ((cf_g2 ad 11 0 q1) 11 0), .ref ((cf_g2 (cf_g2 ad 11 0 q1) 12 0 q2) 12 0), .ref ((cf_g2 (cf_g2 (cf_g2 ad 11 0 q1) 12 0 q2) 13 0 q3) 13 0), .ref ((cf_g2 (cf_g2 (cf_g2 (cf_g2 ad 11 0 q1) 12 0 q2) 13 0 q3) 14 0 q4) 14 0), .ref ((cf_g2 (cf_g2 (cf_g2 (cf_g2 (cf_g2 ad 11 0 q1) 12 0 q2) 13 0 q3) 14 0 q4) 15 0 q5) 15 0), .ref ((cf_g2 (cf_g2 (cf_g2 (cf_g2 (cf_g2 (cf_g2 ad 11 0 q1) 12 0 q2) 13 0 q3) 14 0 q4) 15 0 q5) 16 0 q6) 16 0), .int 0, .int 0, .int 0]))))) cf_g2c (fun H locs hW hS => ?_)
  refine lv_aload_n hx hb dX5_init_66 rfl (lv_at hl 0 rfl) ?_
  refine lv_iconst (v := 0) hx hb dX5_init_67 (by decide) ?_
  refine cf_putE (v := .int 0) (k := 5) (i := 0) (ad := (cf_g2 (cf_g2 (cf_g2 (cf_g2 (cf_g2 (cf_g2 ad 11 0 q1) 12 0 q2) 13 0 q3) 14 0 q4) 15 0 q5) 16 0 q6)) (ty := .int) (ci := 5) (C := RX5) (T := TX5) (N := 9) hx hb hts (fun _ h => List.mem_cons_of_mem _ (List.mem_append_left _ (List.mem_append_left _ (List.mem_append_left _ (List.mem_append_right _ (h)))))) tyX5 tyX5_ok nmX5 hown hT.1 hW hS cf_g2s rfl 8 (by decide) (hts (.fieldLink RX5 49 "GameCafe" "now" "I") (List.mem_of_getElem? (i := 17) rfl)) (fun _ h9 => h9) rfl (by decide +kernel) rfl rfl (Nat.le_of_ble_eq_true rfl) dX5_init_68 (E2 := (cf_g2 (cf_g2 (cf_g2 (cf_g2 (cf_g2 (cf_g2 (cf_g2 cf_N5 11 0 (some (.inl (cT 3, 5, .inr (.inr (.inr (.inr (fun _ => none)))))))) 12 0 (some (.inl (cT 4, 6, .inr (.inr (.inr (.inr (fun _ => none)))))))) 13 0 (some (.inl (cT 5, 3, .inr (.inr (.inr (.inr (fun _ => none)))))))) 14 0 (some (.inl (cT 6, 15, .inr (.inr (.inr (.inr (fun _ => none)))))))) 15 0 (some (.inl (cT 7, 60, .inr (.inr (.inr (.inr (fun _ => none)))))))) 16 0 (some (.inl (cT 6, 6, .inr (.inr (.inr (.inr (fun _ => none)))))))) 5 0 (some (.inr (5, [.ref ((cf_g2 ad 11 0 q1) 11 0), .ref ((cf_g2 (cf_g2 ad 11 0 q1) 12 0 q2) 12 0), .ref ((cf_g2 (cf_g2 (cf_g2 ad 11 0 q1) 12 0 q2) 13 0 q3) 13 0), .ref ((cf_g2 (cf_g2 (cf_g2 (cf_g2 ad 11 0 q1) 12 0 q2) 13 0 q3) 14 0 q4) 14 0), .ref ((cf_g2 (cf_g2 (cf_g2 (cf_g2 (cf_g2 ad 11 0 q1) 12 0 q2) 13 0 q3) 14 0 q4) 15 0 q5) 15 0), .ref ((cf_g2 (cf_g2 (cf_g2 (cf_g2 (cf_g2 (cf_g2 ad 11 0 q1) 12 0 q2) 13 0 q3) 14 0 q4) 15 0 q5) 16 0 q6) 16 0), .int 0, .int 0, .int 0]))))) cf_g2c (fun H locs hW hS => ?_)
  refine lv_iconst (v := 0) hx hb dX5_init_71 (by decide) ?_
  refine lv_istore_n (lv' := [(1, .int 0), (0, .ref ((cf_g2 (cf_g2 (cf_g2 (cf_g2 (cf_g2 (cf_g2 ad 11 0 q1) 12 0 q2) 13 0 q3) 14 0 q4) 15 0 q5) 16 0 q6) 5 0))]) hx hb dX5_init_72 rfl hl (by decide) rfl (fun ls hl => ?_)
  have hW := cf_W.eqv hW (cf_w5A (cT := cT) (ad := ad))
  have hb5 : (cf_g2 (cf_g2 (cf_g2 (cf_g2 (cf_g2 (cf_g2 ad 11 0 q1) 12 0 q2) 13 0 q3) 14 0 q4) 15 0 q5) 16 0 q6) 5 0 = ad 5 0 := rfl
  generalize (cf_g2 (cf_g2 (cf_g2 (cf_g2 (cf_g2 (cf_g2 ad 11 0 q1) 12 0 q2) 13 0 q3) 14 0 q4) 15 0 q5) 16 0 q6) = b at hW hl hb5 ⊢
  refine W.widen (k := 6) (n := 95) (by decide) (by decide) ?_
  refine cf_loopC (β := cf_Ad) (fun i H locs ls (b : cf_Ad) => cf_W D z (cf_w5 cT i 0 0 b) b H ∧ va_S (fun q => z ≤ q) s.heap H locs ∧ lv_has ls 2 [(0, .ref (b 5 0)), (1, .int (nI i))] ∧ b 5 0 = ad 5 0) 5 3 14 (fun H locs ls b hI => ?_) (fun i H locs ls b hi hI ih => ?_) b ⟨hW, hS, lv_sub hl [1, 0] rfl, hb5⟩
  · obtain ⟨hW, hS, hl, hb5⟩ := hI
    refine W.widen (k := 21) (n := 165) (by omega) (by omega) ?_
    refine lv_iload_n hx hb dX5_init_73 rfl (lv_at hl 1 rfl) ?_
    refine lv_iconst (v := 5) hx hb dX5_init_74 (by decide) ?_
    refine lv_icmp_ge (tgt := 97) hx hb dX5_init_75 (by decide) (fun c75_7 => ?_) (fun c75_7 => (by first | exact absurd (nI_le (Nat.le_refl 5) (by decide)) c75_7 | exact absurd c75_7 (nI_le (Nat.le_refl 5) (by decide))))
    refine lv_iconst (v := 0) hx hb dX5_init_97 (by decide) ?_
    refine lv_istore_n (lv' := [(1, .int 0), (0, .ref (b 5 0))]) hx hb dX5_init_98 rfl hl (by decide) rfl (fun ls hl => ?_)
    refine cf_loopC (β := cf_Ad) (fun i H locs ls (b : cf_Ad) => cf_W D z (cf_w5 cT 5 i 0 b) b H ∧ va_S (fun q => z ≤ q) s.heap H locs ∧ lv_has ls 2 [(0, .ref (b 5 0)), (1, .int (nI i))] ∧ b 5 0 = ad 5 0) 6 1 3 (fun H locs ls b hI => ?_) (fun i H locs ls b hi hI ih => ?_) b ⟨hW, hS, lv_sub hl [1, 0] rfl, hb5⟩
    · obtain ⟨hW, hS, hl, hb5⟩ := hI
      refine W.widen (k := 27) (n := 183) (by omega) (by omega) ?_
      refine lv_iload_n hx hb dX5_init_99 rfl (lv_at hl 1 rfl) ?_
      refine lv_bipush (v := 6) hx hb dX5_init_100 (by decide) ?_
      refine lv_icmp_ge (tgt := 128) hx hb dX5_init_102 (by decide) (fun c102_8 => ?_) (fun c102_8 => (by first | exact absurd (nI_le (Nat.le_refl 6) (by decide)) c102_8 | exact absurd c102_8 (nI_le (Nat.le_refl 6) (by decide))))
      refine lv_iconst (v := 0) hx hb dX5_init_128 (by decide) ?_
      refine lv_istore_n (lv' := [(1, .int 0), (0, .ref (b 5 0))]) hx hb dX5_init_129 rfl hl (by decide) rfl (fun ls hl => ?_)
      refine cf_loopC (β := cf_Ad) (fun i H locs ls (b : cf_Ad) => cf_W D z (cf_w5 cT 5 6 i b) b H ∧ va_S (fun q => z ≤ q) s.heap H locs ∧ lv_has ls 2 [(0, .ref (b 5 0)), (1, .int (nI i))] ∧ b 5 0 = ad 5 0) 3 2 7 (fun H locs ls b hI => ?_) (fun i H locs ls b hi hI ih => ?_) b ⟨hW, hS, lv_sub hl [1, 0] rfl, hb5⟩
      · obtain ⟨hW, hS, hl, hb5⟩ := hI
        refine W.widen (k := 33) (n := 204) (by omega) (by omega) ?_
        refine lv_iload_n hx hb dX5_init_130 rfl (lv_at hl 1 rfl) ?_
        refine lv_iconst (v := 3) hx hb dX5_init_131 (by decide) ?_
        refine lv_icmp_ge (tgt := 154) hx hb dX5_init_132 (by decide) (fun c132_9 => ?_) (fun c132_9 => (by first | exact absurd (nI_le (Nat.le_refl 3) (by decide)) c132_9 | exact absurd c132_9 (nI_le (Nat.le_refl 3) (by decide))))
        exact W.vret hx hb hr (fun t9 ht9 hw9 => ⟨⟨b, rfl, hb5, cf_W.re ht9 hW⟩, hS.F ht9⟩) hS.2.2 dX5_init_154
      · obtain ⟨hW, hS, hl, hb5⟩ := hI
        refine lv_iload_n hx hb dX5_init_130 rfl (lv_at hl 1 rfl) ?_
        refine lv_iconst (v := 3) hx hb dX5_init_131 (by decide) ?_
        refine lv_icmp_ge (tgt := 154) hx hb dX5_init_132 (by decide) (fun c132_10 => (by first | exact absurd c132_10 (nI_ge hi (by decide)) | exact absurd (nI_ge hi (by decide)) c132_10)) (fun c132_10 => ?_)
        refine lv_aload_n hx hb dX5_init_135 rfl (lv_at hl 0 rfl) ?_
        refine cf_get (v := .ref (b 13 0)) (k := 5) (i := 0) (ad := b) (ci := 5) (C := RX5) (T := TX5) (N := 9) hx hb hts (fun _ h => List.mem_cons_of_mem _ (List.mem_append_left _ (List.mem_append_left _ (List.mem_append_left _ (List.mem_append_right _ (h)))))) hown hT.1 hW rfl rfl 2 (by decide) (hts (.fieldLink RX5 23 "GameCafe" "staff" "[LGameCafe$Teacher;") (List.mem_of_getElem? (i := 9) rfl)) (fun _ h9 => h9) rfl dX5_init_136 ?_
        refine lv_iload_n hx hb dX5_init_139 rfl (lv_at hl 1 rfl) ?_
        refine cf_new (ci := 4) (fs := [.null, .int 0]) (C := RX4) (T := TX4) (N := 2) (ad := b) hx hb hts (fun _ h => List.mem_cons_of_mem _ (List.mem_append_right _ (h))) tyX4 tyX4_ok hown (hts (.classLink RX5 21 RX4) (List.mem_of_getElem? (i := 8) rfl)) (hts (.instantiable RX4 2) (List.mem_of_getElem? (i := 22) rfl)) (hts (.initialized RX4) (List.mem_of_getElem? (i := 23) rfl)) hT.1 hW hS 4 i (show (cf_w5 cT 5 6 i b) 4 i = none from if_neg (Nat.lt_irrefl i)) rfl (fun j hj => by rcases (show j = 0 ∨ j = 1 by omega) with rfl | rfl <;> rfl) (by show _ ≤ 33; omega) (by show _ ≤ 204; omega) dX5_init_140 (fun q11 H hW hS => ?_)
        have hl : lv_has ls 2 [(0, .ref ((cf_g2 b 4 i q11) 5 0)), (1, .int (nI i))] := hl
        refine lv_dup hx hb dX5_init_143 rfl ?_
        have hnest : va_Nw (.methodLinkNest RX5 56 yX4_init RX5) s := hT.2.2.2.1 (RX5, 56, yX4_init, RX5) (List.mem_of_getElem? (i := 1) rfl)
        refine va_callv (va_runIN (As := []) (rest := [.ref ((cf_g2 b 4 i q11) 4 i), .int (nI i), .ref ((cf_g2 b 4 i q11) 13 0)]) ⟨hx, hb, hml, hown, hts⟩ (c_X4_init l D cT z (cf_g2 b 4 i q11) (cf_g2 (cf_w5 cT 5 6 i b) 4 i (some (.inr (4, [.null, .int 0])))) cf_g2s ((cf_g2n (fun q9 => absurd q9.1 (by decide))).trans (show (cf_w5 cT 5 6 i b) 10 i = none from if_neg (Nat.lt_irrefl i)))) ⟨va_cnB 0 hts ggX5_init_X4_init rfl rfl rfl hnest (hts (.initialized RX4) (List.mem_of_getElem? (i := 23) rfl)) (by decide +kernel) ⟨Nat.le_of_ble_eq_true rfl, Nat.le_of_ble_eq_true rfl⟩, rfl, (hts (.instanceMethod yX4_init) (List.mem_of_getElem? (i := 41) rfl))⟩ (cf_preS hT hS hW) rfl rfl hl.1 rfl (lv_room (Nat.le_of_ble_eq_true rfl)) dX5_init_144 ⟨(by show _ ≤ 33; omega), (by show _ ≤ 204; omega)⟩) hS (fun _ _ h => h) (fun _ h => h) (fun u8 t9 H locs ht hvm hw hW hz1 hk1 hS => ?_)
        have hW : cf_W D z (cf_g2 (cf_g2 (cf_g2 (cf_w5 cT 5 6 i b) 4 i (some (.inr (4, [.null, .int 0])))) 10 i (some (.inl (cT 1, 5, .inl cf_fT)))) 4 i (some (.inr (4, [.ref ((cf_g2 (cf_g2 b 4 i q11) 10 i u8) 10 i), .int 0])))) (cf_g2 (cf_g2 b 4 i q11) 10 i u8) H := cf_W.er ht hW
        have hl : lv_has ls 2 [(0, .ref ((cf_g2 (cf_g2 b 4 i q11) 10 i u8) 5 0)), (1, .int (nI i))] := hl
        refine cf_astN (t0 := 5) (k := 13) (i := 0) (k2 := 4) (i2 := i) (ad := (cf_g2 (cf_g2 b 4 i q11) 10 i u8)) (ci := 4) (r := (RX4, TX4, 2)) (n := 3) (f := (fun j => if j < i then some (b 4 j) else none)) hx hb hT.1 hW hS ((cf_g2n (fun q9 => absurd q9.1 (by decide))).trans ((cf_g2n (fun q9 => absurd q9.1 (by decide))).trans ((cf_g2n (fun q9 => absurd q9.1 (by decide))).trans rfl))) rfl cf_g2s rfl i rfl hi (by decide) dX5_init_147 (E2 := (cf_g2 (cf_g2 (cf_g2 (cf_g2 (cf_w5 cT 5 6 i b) 4 i (some (.inr (4, [.null, .int 0])))) 10 i (some (.inl (cT 1, 5, .inl cf_fT)))) 4 i (some (.inr (4, [.ref ((cf_g2 (cf_g2 b 4 i q11) 10 i u8) 10 i), .int 0])))) 13 0 (some (.inl (cT 5, 3, .inr (.inr (.inr (.inr (va_up (fun j => if j < i then some (b 4 j) else none) i (some ((cf_g2 (cf_g2 b 4 i q11) 10 i u8) 4 i))))))))))) rfl (fun H locs hW hS => ?_)
        have hW := cf_W.eqv hW (cf_w5S4 (cT := cT) (i := i) (b := b))
        refine W.widen (k := 27 + (i + 1) * 2) (n := 183 + (i + 1) * 7) (by omega) (by omega) ?_
        refine lv_iinc (v := (nI (i + 1))) (lv' := [(1, .int (nI (i + 1))), (0, .ref ((cf_g2 (cf_g2 b 4 i q11) 10 i u8) 5 0))]) hx hb dX5_init_148 hl (k := 1) rfl (nI_1 i) (by decide) rfl (fun ls hl => ?_)
        refine lv_goto (tgt := 130) hx hb dX5_init_151 (by decide) ?_
        exact ih _ _ _ (cf_g2 (cf_g2 b 4 i q11) 10 i u8) ⟨hW, hS, lv_sub hl [1, 0] rfl, hb5⟩
    · obtain ⟨hW, hS, hl, hb5⟩ := hI
      refine lv_iload_n hx hb dX5_init_99 rfl (lv_at hl 1 rfl) ?_
      refine lv_bipush (v := 6) hx hb dX5_init_100 (by decide) ?_
      refine lv_icmp_ge (tgt := 128) hx hb dX5_init_102 (by decide) (fun c102_12 => (by first | exact absurd c102_12 (nI_ge hi (by decide)) | exact absurd (nI_ge hi (by decide)) c102_12)) (fun c102_12 => ?_)
      refine lv_aload_n hx hb dX5_init_105 rfl (lv_at hl 0 rfl) ?_
      refine cf_get (v := .ref (b 12 0)) (k := 5) (i := 0) (ad := b) (ci := 5) (C := RX5) (T := TX5) (N := 9) hx hb hts (fun _ h => List.mem_cons_of_mem _ (List.mem_append_left _ (List.mem_append_left _ (List.mem_append_left _ (List.mem_append_right _ (h)))))) hown hT.1 hW rfl rfl 1 (by decide) (hts (.fieldLink RX5 17 "GameCafe" "tables" "[LGameCafe$Table;") (List.mem_of_getElem? (i := 7) rfl)) (fun _ h9 => h9) rfl dX5_init_106 ?_
      refine lv_iload_n hx hb dX5_init_109 rfl (lv_at hl 1 rfl) ?_
      refine cf_new (ci := 3) (fs := [.int 0, .int 0, .int 0]) (C := RX3) (T := TX3) (N := 3) (ad := b) hx hb hts (fun _ h => List.mem_cons_of_mem _ (List.mem_append_left _ (List.mem_append_right _ (h)))) tyX3 tyX3_ok hown (hts (.classLink RX5 15 RX3) (List.mem_of_getElem? (i := 6) rfl)) (hts (.instantiable RX3 3) (List.mem_of_getElem? (i := 20) rfl)) (hts (.initialized RX3) (List.mem_of_getElem? (i := 21) rfl)) hT.1 hW hS 3 i (show (cf_w5 cT 5 i 0 b) 3 i = none from if_neg (Nat.lt_irrefl i)) rfl (fun j hj => by rcases (show j = 0 ∨ j = 1 ∨ j = 2 by omega) with rfl | rfl | rfl <;> rfl) (by show _ ≤ 33; omega) (by show _ ≤ 204; omega) dX5_init_110 (fun q13 H hW hS => ?_)
      have hl : lv_has ls 2 [(0, .ref ((cf_g2 b 3 i q13) 5 0)), (1, .int (nI i))] := hl
      refine lv_dup hx hb dX5_init_113 rfl ?_
      refine lv_iload_n hx hb dX5_init_114 rfl (lv_at hl 1 rfl) ?_
      refine lv_iload_n hx hb dX5_init_115 rfl (lv_at hl 1 rfl) ?_
      refine lv_iconst (v := 2) hx hb dX5_init_116 (by decide) ?_
      refine lv_iadd hx hb dX5_init_117 ?_
      refine va_callv (va_runI (As := [.int (nI i), .int ((nI i) + 2)]) (rest := [.ref ((cf_g2 b 3 i q13) 3 i), .int (nI i), .ref ((cf_g2 b 3 i q13) 12 0)]) ⟨hx, hb, hml, hown, hts⟩ (c_X3_init l D cT z (cf_g2 b 3 i q13) (cf_g2 (cf_w5 cT 5 i 0 b) 3 i (some (.inr (3, [.int 0, .int 0, .int 0])))) (nI i) (nI i + 2) cf_g2s) (cwI 2 hts gX5_init_X3_init rfl rfl rfl (hts (.initialized RX3) (List.mem_of_getElem? (i := 21) rfl)) (hts (.methodLink RX5 53 yX3_init) (List.mem_of_getElem? (i := 34) rfl)) (hts (.instanceMethod yX3_init) (List.mem_of_getElem? (i := 35) rfl)) rfl (by decide +kernel) ⟨Nat.le_of_ble_eq_true rfl, Nat.le_of_ble_eq_true rfl⟩) (cf_preS hT hS hW) rfl rfl hl.1 rfl (lv_room (Nat.le_of_ble_eq_true rfl)) dX5_init_118 ⟨(by show _ ≤ 33; omega), (by show _ ≤ 204; omega)⟩) hS (fun _ _ h => h) (fun _ h => h) (fun u8 t9 H locs ht hvm hw hW hz1 hk1 hS => ?_)
      have hW : cf_W D z (cf_g2 (cf_w5 cT 5 i 0 b) 3 i (some (.inr (3, [.int (nI i), .int (nI i + 2), .int (-1)])))) (cf_g2 b 3 i q13) H := cf_W.eqv (cf_W.er ht hW) cf_g2c
      refine cf_astN (t0 := 4) (k := 12) (i := 0) (k2 := 3) (i2 := i) (ad := (cf_g2 b 3 i q13)) (ci := 3) (r := (RX3, TX3, 3)) (n := 6) (f := (fun j => if j < i then some (b 3 j) else none)) hx hb hT.1 hW hS ((cf_g2n (fun q9 => absurd q9.1 (by decide))).trans rfl) rfl cf_g2s rfl i rfl hi (by decide) dX5_init_121 (E2 := (cf_g2 (cf_g2 (cf_w5 cT 5 i 0 b) 3 i (some (.inr (3, [.int (nI i), .int (nI i + 2), .int (-1)])))) 12 0 (some (.inl (cT 4, 6, .inr (.inr (.inr (.inr (va_up (fun j => if j < i then some (b 3 j) else none) i (some ((cf_g2 b 3 i q13) 3 i))))))))))) rfl (fun H locs hW hS => ?_)
      have hW := cf_W.eqv hW (cf_w5S3 (cT := cT) (i := i) (b := b))
      refine W.widen (k := 21 + (i + 1) * 1) (n := 165 + (i + 1) * 3) (by omega) (by omega) ?_
      refine lv_iinc (v := (nI (i + 1))) (lv' := [(1, .int (nI (i + 1))), (0, .ref ((cf_g2 b 3 i q13) 5 0))]) hx hb dX5_init_122 hl (k := 1) rfl (nI_1 i) (by decide) rfl (fun ls hl => ?_)
      refine lv_goto (tgt := 99) hx hb dX5_init_125 (by decide) ?_
      exact ih _ _ _ (cf_g2 b 3 i q13) ⟨hW, hS, lv_sub hl [1, 0] rfl, hb5⟩
  · obtain ⟨hW, hS, hl, hb5⟩ := hI
    refine lv_iload_n hx hb dX5_init_73 rfl (lv_at hl 1 rfl) ?_
    refine lv_iconst (v := 5) hx hb dX5_init_74 (by decide) ?_
    refine lv_icmp_ge (tgt := 97) hx hb dX5_init_75 (by decide) (fun c75_14 => (by first | exact absurd c75_14 (nI_ge hi (by decide)) | exact absurd (nI_ge hi (by decide)) c75_14)) (fun c75_14 => ?_)
    refine lv_aload_n hx hb dX5_init_78 rfl (lv_at hl 0 rfl) ?_
    refine cf_get (v := .ref (b 11 0)) (k := 5) (i := 0) (ad := b) (ci := 5) (C := RX5) (T := TX5) (N := 9) hx hb hts (fun _ h => List.mem_cons_of_mem _ (List.mem_append_left _ (List.mem_append_left _ (List.mem_append_left _ (List.mem_append_right _ (h)))))) hown hT.1 hW rfl rfl 0 (by decide) (hts (.fieldLink RX5 11 "GameCafe" "games" "[LGameCafe$Game;") (List.mem_of_getElem? (i := 5) rfl)) (fun _ h9 => h9) rfl dX5_init_79 ?_
    refine lv_iload_n hx hb dX5_init_82 rfl (lv_at hl 1 rfl) ?_
    refine cf_new (ci := 1) (fs := [.int 0, .int 0, .int 0, .int 0, .null, .null]) (C := RX1) (T := TX1) (N := 6) (ad := b) hx hb hts (fun _ h => List.mem_cons_of_mem _ (List.mem_append_left _ (List.mem_append_left _ (List.mem_append_right _ (h))))) tyX1 tyX1_ok hown (hts (.classLink RX5 9 RX1) (List.mem_of_getElem? (i := 4) rfl)) (hts (.instantiable RX1 6) (List.mem_of_getElem? (i := 18) rfl)) (hts (.initialized RX1) (List.mem_of_getElem? (i := 19) rfl)) hT.1 hW hS 1 i (show (cf_w5 cT i 0 0 b) 1 i = none from if_neg (Nat.lt_irrefl i)) rfl (fun j hj => by rcases (show j = 0 ∨ j = 1 ∨ j = 2 ∨ j = 3 ∨ j = 4 ∨ j = 5 by omega) with rfl | rfl | rfl | rfl | rfl | rfl <;> rfl) (by show _ ≤ 33; omega) (by show _ ≤ 204; omega) dX5_init_83 (fun q15 H hW hS => ?_)
    have hl : lv_has ls 2 [(0, .ref ((cf_g2 b 1 i q15) 5 0)), (1, .int (nI i))] := hl
    refine lv_dup hx hb dX5_init_86 rfl ?_
    have hnest : va_Nw (.methodLinkNest RX5 52 yX1_init RX5) s := hT.2.2.2.1 (RX5, 52, yX1_init, RX5) (List.mem_of_getElem? (i := 0) rfl)
    refine va_callv (va_runIN (As := []) (rest := [.ref ((cf_g2 b 1 i q15) 1 i), .int (nI i), .ref ((cf_g2 b 1 i q15) 11 0)]) ⟨hx, hb, hml, hown, hts⟩ (c_X1_init l D cT z (cf_g2 b 1 i q15) (cf_g2 (cf_w5 cT i 0 0 b) 1 i (some (.inr (1, [.int 0, .int 0, .int 0, .int 0, .null, .null])))) cf_g2s ((cf_g2n (fun q9 => absurd q9.1 (by decide))).trans (show (cf_w5 cT i 0 0 b) 8 i = none from if_neg (Nat.lt_irrefl i))) ((cf_g2n (fun q9 => absurd q9.1 (by decide))).trans (show (cf_w5 cT i 0 0 b) 9 i = none from if_neg (Nat.lt_irrefl i)))) ⟨va_cnB 0 hts ggX5_init_X1_init rfl rfl rfl hnest (hts (.initialized RX1) (List.mem_of_getElem? (i := 19) rfl)) (by decide +kernel) ⟨Nat.le_of_ble_eq_true rfl, Nat.le_of_ble_eq_true rfl⟩, rfl, (hts (.instanceMethod yX1_init) (List.mem_of_getElem? (i := 24) rfl))⟩ (cf_preS hT hS hW) rfl rfl hl.1 rfl (lv_room (Nat.le_of_ble_eq_true rfl)) dX5_init_87 ⟨(by show _ ≤ 33; omega), (by show _ ≤ 204; omega)⟩) hS (fun _ _ h => h) (fun _ h => h) (fun ⟨u8, u9⟩ t9 H locs ht hvm hw hW hz1 hk1 hS => ?_)
    have hW : cf_W D z (cf_g2 (cf_g2 (cf_g2 (cf_g2 (cf_w5 cT i 0 0 b) 1 i (some (.inr (1, [.int 0, .int 0, .int 0, .int 0, .null, .null])))) 8 i (some (.inl (cT 0, 4, .inl cf_f5)))) 9 i (some (.inl (cT 0, 4, .inl cf_f4)))) 1 i (some (.inr (1, [.int 2, .int 4, .int 10, .int 0, .ref ((cf_g2 (cf_g2 b 1 i q15) 8 i u8) 8 i), .ref ((cf_g2 (cf_g2 (cf_g2 b 1 i q15) 8 i u8) 9 i u9) 9 i)])))) (cf_g2 (cf_g2 (cf_g2 b 1 i q15) 8 i u8) 9 i u9) H := cf_W.er ht hW
    have hl : lv_has ls 2 [(0, .ref ((cf_g2 (cf_g2 (cf_g2 b 1 i q15) 8 i u8) 9 i u9) 5 0)), (1, .int (nI i))] := hl
    refine cf_astN (t0 := 3) (k := 11) (i := 0) (k2 := 1) (i2 := i) (ad := (cf_g2 (cf_g2 (cf_g2 b 1 i q15) 8 i u8) 9 i u9)) (ci := 1) (r := (RX1, TX1, 6)) (n := 5) (f := (fun j => if j < i then some (b 1 j) else none)) hx hb hT.1 hW hS ((cf_g2n (fun q9 => absurd q9.1 (by decide))).trans ((cf_g2n (fun q9 => absurd q9.1 (by decide))).trans ((cf_g2n (fun q9 => absurd q9.1 (by decide))).trans ((cf_g2n (fun q9 => absurd q9.1 (by decide))).trans rfl)))) rfl cf_g2s rfl i rfl hi (by decide) dX5_init_90 (E2 := (cf_g2 (cf_g2 (cf_g2 (cf_g2 (cf_g2 (cf_w5 cT i 0 0 b) 1 i (some (.inr (1, [.int 0, .int 0, .int 0, .int 0, .null, .null])))) 8 i (some (.inl (cT 0, 4, .inl cf_f5)))) 9 i (some (.inl (cT 0, 4, .inl cf_f4)))) 1 i (some (.inr (1, [.int 2, .int 4, .int 10, .int 0, .ref ((cf_g2 (cf_g2 b 1 i q15) 8 i u8) 8 i), .ref ((cf_g2 (cf_g2 (cf_g2 b 1 i q15) 8 i u8) 9 i u9) 9 i)])))) 11 0 (some (.inl (cT 3, 5, .inr (.inr (.inr (.inr (va_up (fun j => if j < i then some (b 1 j) else none) i (some ((cf_g2 (cf_g2 (cf_g2 b 1 i q15) 8 i u8) 9 i u9) 1 i))))))))))) rfl (fun H locs hW hS => ?_)
    have hW := cf_W.eqv hW (cf_w5S1 (cT := cT) (i := i) (b := b))
    refine W.widen (k := 6 + (i + 1) * 3) (n := 95 + (i + 1) * 14) (by omega) (by omega) ?_
    refine lv_iinc (v := (nI (i + 1))) (lv' := [(1, .int (nI (i + 1))), (0, .ref ((cf_g2 (cf_g2 (cf_g2 b 1 i q15) 8 i u8) 9 i u9) 5 0))]) hx hb dX5_init_91 hl (k := 1) rfl (nI_1 i) (by decide) rfl (fun ls hl => ?_)
    refine lv_goto (tgt := 73) hx hb dX5_init_94 (by decide) ?_
    exact ih _ _ _ (cf_g2 (cf_g2 (cf_g2 b 1 i q15) 8 i u8) 9 i u9) ⟨hW, hS, lv_sub hl [1, 0] rfl, hb5⟩
