abbrev cf_N6 : cf_T := cf_g2 (fun _ _ => none) 6 0 (some (.inr (6, [.int 0, .null, .null, .null, .null, .null, .null, .null, .null, .null, .null, .int 0, .null, .null, .null, .int 0, .null, .null, .null, .null, .null, .null, .null, .int 0])))
/-- a part of a world, by kinds -/
def cf_K (M : Nat → Bool) (E : cf_T) : cf_T := fun k i => if M k = true then E k i else none
theorem cf_upK {M : Nat → Bool} {E : cf_T} {k i : Nat} {e : Option va_E} (h : M k = true) : cf_g2 (cf_K M E) k i e = cf_K M (cf_g2 E k i e) := by
  funext a b
  by_cases hab : a = k ∧ b = i
  · obtain ⟨rfl, rfl⟩ := hab
    simp [cf_K, cf_g2, h]
  · simp [cf_K, cf_g2, hab]
abbrev cf_m6 : Nat → Bool := fun k => k == 6 || k == 17
def cf_w6 (cT : Nat → ClassId) (n : Nat) (g : Nat → Value) : cf_T := fun k i => if k = 6 ∧ i = 0 then some (.inr (6, (List.range 24).map g)) else if k = 17 ∧ i < n ∧ 0 < cf_len i then some (.inl (cT 0, cf_len i, .inl (fun _ => 0))) else none
/-- the reference while it is made: the fields below n stand -/
def cf_q6 (D : va_G) (cT : Nat → ClassId) (z n a0 : Nat) (H : Heap) : Prop := ∃ (ad : cf_Ad) (g : Nat → Value), ad 6 0 = a0 ∧ cf_W D z (cf_w6 cT n g) ad H ∧ ∀ f, f < 24 → g f = if f < n ∧ 0 < cf_len f then .ref (ad 17 f) else if cf_len f = 0 then .int 0 else .null
theorem cf_w6a {cT : Nat → ClassId} {n f : Nat} {g : Nat → Value} (hn : n ≤ f) (hp : 0 < cf_len f) (hgap : ∀ f2, n ≤ f2 → f2 < f → cf_len f2 = 0) : cf_g2 (cf_w6 cT n g) 17 f (some (.inl (cT 0, cf_len f, .inl (fun _ => 0)))) = cf_w6 cT (f + 1) g := by
  funext a b
  by_cases h : a = 17 ∧ b = f
  · obtain ⟨rfl, rfl⟩ := h
    simp [cf_g2, cf_w6, hp]
  · rw [cf_g2n h]
    unfold cf_w6
    by_cases h6 : a = 6 ∧ b = 0
    · simp [h6]
    · rw [if_neg h6, if_neg h6]
      have hiff : (a = 17 ∧ b < n ∧ 0 < cf_len b) ↔ (a = 17 ∧ b < f + 1 ∧ 0 < cf_len b) := by
        constructor
        · rintro ⟨h1, h2, h3⟩; exact ⟨h1, by omega, h3⟩
        · rintro ⟨h1, h2, h3⟩
          refine ⟨h1, ?_, h3⟩
          have hbf : b ≠ f := fun q => h ⟨h1, q⟩
          rcases Nat.lt_or_ge b n with h4 | h4
          · exact h4
          · have := hgap b h4 (by omega); omega
      by_cases h7 : a = 17 ∧ b < n ∧ 0 < cf_len b
      · rw [if_pos h7, if_pos (hiff.mp h7)]
      · rw [if_neg h7, if_neg (fun q => h7 (hiff.mpr q))]
theorem cf_rangeset {g : Nat → Value} {f N : Nat} {v : Value} : ((List.range N).map g).set f v = (List.range N).map (fun k => if k = f then v else g k) := by
  refine List.ext_getElem (by simp) fun k h1 h2 => ?_
  rw [List.getElem_set]
  by_cases h : f = k
  · subst h; simp
  · simp [h, Ne.symm h, fun q : k = f => h q.symm]
theorem cf_w6b {cT : Nat → ClassId} {n f : Nat} {g : Nat → Value} {v : Value} : cf_g2 (cf_w6 cT n g) 6 0 (some (.inr (6, ((List.range 24).map g).set f v))) = cf_w6 cT n (fun k => if k = f then v else g k) := by
  funext a b
  by_cases h : a = 6 ∧ b = 0
  · simp only [cf_g2, cf_w6, h, and_self, if_true, cf_rangeset]
  · rw [cf_g2n h]
    unfold cf_w6
    rw [if_neg h, if_neg h]
section
variable {p : Program} {l : Launch} {e : Env} {R : Room} {s : State} {m : MethodId} {args : Array Value} {below : List Frame} {meth : Method} {c : Code} {H : Heap} {locs : List Loc} {cells slots : Nat} {Q : State → Prop}
variable {cc : ByteArray} {pc : Nat} {ls : Array Slot} {rest : List Value} {D : va_G} {H0 : Heap} {z a0 n : Nat} {cT : Nat → ClassId}
/-- new int[len], put into the field f -/
theorem cf_row6 (hexec : p.tables.exec = Jvm.exec) (hb : c.code = cc) {index : Nat} {Ts : List Cond} (hts : ∀ w ∈ Ts, w.before args s = true) (hin : ∀ w ∈ wsX60, w ∈ Ts) (hown : s.vm.findClass RX6 = some m.cls) (hK : va_K D vwCl (cf_tys cT) s) (harr : (Cond.arrayClass (newarray.typeOf .int)).before args s = true) (hq : cf_q6 D cT z n a0 H) (hS : va_S (fun q => z ≤ q) H0 H locs) (f len : Nat) (hf : f < 24) (hlen : cf_len f = len) (hp : 0 < len) (hl60 : len ≤ 60) (hn : n ≤ f) (hgap : ∀ f2, n ≤ f2 → f2 < f → cf_len f2 = 0) {y : Int32} (hy : y = nI len)
    (hlink : (Cond.fieldLink RX6 index "GameCafeModel" (TX6 f).2.1 (TX6 f).2.2.1).before args s = true) (hcls : (TX6 f).1 = "GameCafeModel") (hfin : (TX6 f).2.2.2 = true) (hin2 : meth.name = "<init>") (hd : parseFieldDescriptor (TX6 f).2.2.1 = some (.array .int)) (hcells : cells + 1 ≤ R.cells) (hslots : slots + len ≤ R.slots) (hdg : decode cc pc = .ok (.newarray .int, 2)) (hdg2 : decode cc (pc + 2) = .ok (.putfield index, 3))
    (kk : ∀ (H1 : Heap) (locs1 : List Loc), cf_q6 D cT z (f + 1) a0 H1 → va_S (fun q => z ≤ q) H0 H1 locs1 → W p l e R s m args below meth c H1 locs1 (cells + 1) (slots + len) Q (F0 m (pc + 5) ls rest)) : W p l e R s m args below meth c H locs cells slots Q (F0 m pc ls (.int y :: .ref a0 :: rest)) := by
  obtain ⟨ad, g, ha, hW, hg⟩ := hq
  subst ha; subst hy
  have hp2 : 0 < cf_len f := by omega
  refine cf_newa (atype := .int) (ty := .int) (ad := ad) (N' := len) (a0 := (len, .inl (fun _ => 0))) hexec hb harr hK hW hS 17 f (by rw [cf_w6, if_neg (fun q => absurd q.1 (by decide)), if_neg (fun q => by omega)]) 0 rfl rfl (fun _ => rfl) (fun q => absurd q (nI_pos (by omega))) (nI_clamp (by omega)) (by show len * 4 ≤ _; omega) hcells hslots hdg (fun q H hW hS => ?_)
  have hW : cf_W D z (cf_w6 cT (f + 1) g) (cf_g2 ad 17 f q) H := cf_W.eqv hW (by subst hlen; exact cf_w6a hn hp2 hgap)
  refine cf_putFE (v := .ref (cf_g2 ad 17 f q 17 f)) (k := 6) (i := 0) (ad := cf_g2 ad 17 f q) (ty := .array .int) (ci := 6) (C := RX6) (T := TX6) (N := 24) (fs := (List.range 24).map g) hexec hb hts hin tyX6 tyX6_ok nmX6 hown hK hW hS (by rw [cf_w6, if_pos ⟨rfl, rfl⟩]) rfl f hf hlink (fun x h9 => by rw [hcls] at h9; exact h9) hfin hin2 hcls hd rfl rfl (by simp; exact hf) hdg2 (E2 := cf_w6 cT (f + 1) (fun k => if k = f then .ref (cf_g2 ad 17 f q 17 f) else g k)) cf_w6b (fun H1 locs1 hW hS => ?_)
  refine kk H1 locs1 ⟨cf_g2 ad 17 f q, _, rfl, hW, fun f2 h2 => ?_⟩ hS
  by_cases h : f2 = f
  · subst h
    rw [if_pos rfl, if_pos ⟨Nat.lt_succ_self _, hp2⟩]
  · rw [if_neg h, hg f2 h2, cf_g2n (fun q => h q.2)]
    have hiff : (f2 < n ∧ 0 < cf_len f2) ↔ (f2 < f + 1 ∧ 0 < cf_len f2) := by
      constructor
      · rintro ⟨h1, h3⟩; exact ⟨by omega, h3⟩
      · rintro ⟨h1, h3⟩
        refine ⟨?_, h3⟩
        rcases Nat.lt_or_ge f2 n with h4 | h4
        · exact h4
        · have := hgap f2 h4 (by omega); omega
    by_cases h7 : f2 < n ∧ 0 < cf_len f2
    · rw [if_pos h7, if_pos (hiff.mp h7)]
    · rw [if_neg h7, if_neg (fun q => h7 (hiff.mpr q))]
end
abbrev cf_P0 : cf_Pt := fun _ _ _ => 0
abbrev cf_O0 : Nat → Int64 := fun _ => 0
abbrev cf_Z0 : cf_S := fun _ _ _ => 0
def cf_L1 : Nat → cf_S
  | 0 => cf_Z0
  | n + 1 => cf_s3 (cf_s3 (cf_s3 (cf_L1 n) 17 1 n 2) 17 2 n 4) 17 3 n 10
def cf_L2 : Nat → cf_S
  | 0 => cf_L1 5
  | n + 1 => cf_s3 (cf_s3 (cf_L2 n) 17 4 n 5) 17 5 n 4
def cf_L3 : Nat → cf_S
  | 0 => cf_L2 20
  | n + 1 => cf_s3 (cf_L3 n) 17 7 n (nI n + 2)
theorem cf_q6end {D : va_G} {cT : Nat → ClassId} {z a0 : Nat} {H : Heap} (h : cf_q6 D cT z 23 a0 H) : ∃ ad : cf_Ad, ad 6 0 = a0 ∧ cf_W D z (cf_K cf_m6 (cf_E cT 0 0 cf_Z0 cf_P0 cf_O0 ad)) ad H := by
  obtain ⟨ad, g, ha, hW, hg⟩ := h
  refine ⟨ad, ha, cf_W.eqv hW ?_⟩
  funext a b
  by_cases h6 : a = 6 ∧ b = 0
  · obtain ⟨rfl, rfl⟩ := h6
    rw [cf_w6, if_pos ⟨rfl, rfl⟩, show (List.range 24).map g = [g 0, g 1, g 2, g 3, g 4, g 5, g 6, g 7, g 8, g 9, g 10, g 11, g 12, g 13, g 14, g 15, g 16, g 17, g 18, g 19, g 20, g 21, g 22, g 23] from rfl]
    rw [hg 0 (by decide), hg 1 (by decide), hg 2 (by decide), hg 3 (by decide), hg 4 (by decide), hg 5 (by decide), hg 6 (by decide), hg 7 (by decide), hg 8 (by decide), hg 9 (by decide), hg 10 (by decide), hg 11 (by decide), hg 12 (by decide), hg 13 (by decide), hg 14 (by decide), hg 15 (by decide), hg 16 (by decide), hg 17 (by decide), hg 18 (by decide), hg 19 (by decide), hg 20 (by decide), hg 21 (by decide), hg 22 (by decide), hg 23 (by decide)]
    rfl
  · rw [cf_w6, if_neg h6]
    by_cases h17 : a = 17
    · subst h17
      show _ = (if 0 < cf_len b then some _ else none)
      by_cases hl : 0 < cf_len b
      · rw [if_pos hl, if_pos]
        refine ⟨rfl, ?_, hl⟩
        rcases Nat.lt_or_ge b 23 with h4 | h4
        · exact h4
        · exfalso
          have h0 : cf_len b = 0 := by
            unfold cf_len
            split <;> first | rfl | omega
          omega
      · rw [if_neg hl, if_neg (fun q => hl q.2.2)]
    · rw [if_neg (fun q => h17 q.1)]
      unfold cf_K
      by_cases h66 : a = 6
      · subst h66
        have hb : ¬ b < 1 := fun q => h6 ⟨rfl, by omega⟩
        show _ = (if b < 1 then some _ else none)
        rw [if_neg hb]
      · simp [cf_m6, h66, h17]
theorem cf_q6start {D : va_G} {cT : Nat → ClassId} {z : Nat} {H : Heap} {ad : cf_Ad} (hW : cf_W D z cf_N6 ad H) : cf_q6 D cT z 1 (ad 6 0) H := by
  refine ⟨ad, fun f => if cf_len f = 0 then .int 0 else .null, rfl, cf_W.eqv hW ?_, fun f hf => ?_⟩
  · funext a b
    by_cases h6 : a = 6 ∧ b = 0
    · obtain ⟨rfl, rfl⟩ := h6; rfl
    · rw [cf_N6, cf_g2n h6, cf_w6, if_neg h6, if_neg]
      rintro ⟨-, h1, h2⟩
      have h0 : b = 0 := by omega
      subst h0
      exact absurd h2 (by decide)
  · rw [if_neg]
    rintro ⟨h1, h2⟩
    have h0 : f = 0 := by omega
    subst h0
    exact absurd h2 (by decide)
set_option maxHeartbeats 4000000 in
set_option maxRecDepth 100000 in
/-- X6_init -/
theorem c_X6_init (l : Launch) (D : va_G) (cT : Nat → ClassId) (z a0 : Nat) (ad0 : cf_Ad) (ha0 : ad0 6 0 = a0) : Met l yX6_init wsX6_init ({ frames := 1, cells := 20, slots := 492, locals := 12 }) (va_Pc [.ref a0] (cf_P D cT z cf_N6 ad0)) (cf_Qv D z (fun (b : cf_Ad) => b 6 0 = a0) (fun b => cf_K cf_m6 (cf_E cT 0 0 (cf_L3 6) cf_P0 cf_O0 b)) (fun b => b)) 20 492 (fun q => z ≤ q) := by
  refine Met.ofW (cc := cX6_init) (maxL := 2) (ret := none) (by decide) rfl ?_
  intro p e s m args below meth c s₁ B hml hv
  obtain ⟨rfl, hW, hT⟩ := hv
  have hx := B.exec
  have hb := B.bytes
  have hr := B.returns
  have hts := atoms_spec (ws := wsX6_init) B.pre
  have hown : s.vm.findClass RX6 = some m.cls := findClass_of_methodNamed B.named
  have hlocks := B.notSynchronized
  have hS : va_S (fun q => z ≤ q) s.heap s.heap [] := va_S.rf
  have hl := lv_entry ([.ref a0]) (n := 2) (Nat.le_of_ble_eq_true rfl)
  rw [lg_entry_eq]
  generalize (lg_sl ([.ref a0]) ++ List.replicate (2 - (lg_sl ([.ref a0])).length) Slot.unset).toArray = ls at hl ⊢
  have hl : lv_has ls 2 [(0, .ref a0)] := hl
  skip
  have hin0 : meth.name = "<init>" := (name_of_methodNamed B.named B.method).1
  refine lv_aload_n hx hb dX6_init_0 rfl (lv_at hl 0 rfl) ?_
  refine W.objInit hx hb hown (hts (.methodLink RX6 1 objectInit) (List.mem_of_getElem? (i := 1) rfl)) (hts (.instanceMethod objectInit) (List.mem_of_getElem? (i := 2) rfl)) (hts (.code objectInit ⟨#[0xb1]⟩ 1 none) (List.mem_of_getElem? (i := 3) rfl)) rfl (by rw [hml]; exact hl.1) rfl dX6_init_1 (Nat.le_of_ble_eq_true rfl) (Nat.le_of_ble_eq_true rfl) ?_
  refine W.eq (g2 := F0 m 4 ls []) rfl ?_
  have hq : cf_q6 D cT z 1 a0 s.heap := ha0 ▸ cf_q6start hW
  refine lv_aload_n hx hb dX6_init_4 rfl (lv_at hl 0 rfl) ?_
  refine lv_iconst (v := 5) hx hb dX6_init_5 (by decide) ?_
  refine cf_row6 (n := 1) hx hb hts (fun _ h => List.mem_cons_of_mem _ (List.mem_append_right _ (h))) hown hT.1 (hts (.arrayClass .int) (List.mem_of_getElem? (i := 4) rfl)) hq hS 1 5 (by decide) rfl (by decide) (by decide) (by decide) (fun f2 h1 h2 => by omega) rfl (hts (.fieldLink RX6 7 "GameCafeModel" "leasts" "[I") (List.mem_of_getElem? (i := 5) rfl)) rfl rfl hin0 (by decide +kernel) (Nat.le_of_ble_eq_true rfl) (Nat.le_of_ble_eq_true rfl) dX6_init_6 dX6_init_8 (fun H locs hq hS => ?_)
  refine lv_aload_n hx hb dX6_init_11 rfl (lv_at hl 0 rfl) ?_
  refine lv_iconst (v := 5) hx hb dX6_init_12 (by decide) ?_
  refine cf_row6 (n := 2) hx hb hts (fun _ h => List.mem_cons_of_mem _ (List.mem_append_right _ (h))) hown hT.1 (hts (.arrayClass .int) (List.mem_of_getElem? (i := 4) rfl)) hq hS 2 5 (by decide) rfl (by decide) (by decide) (by decide) (fun f2 h1 h2 => by omega) rfl (hts (.fieldLink RX6 13 "GameCafeModel" "mosts" "[I") (List.mem_of_getElem? (i := 6) rfl)) rfl rfl hin0 (by decide +kernel) (Nat.le_of_ble_eq_true rfl) (Nat.le_of_ble_eq_true rfl) dX6_init_13 dX6_init_15 (fun H locs hq hS => ?_)
  refine lv_aload_n hx hb dX6_init_18 rfl (lv_at hl 0 rfl) ?_
  refine lv_iconst (v := 5) hx hb dX6_init_19 (by decide) ?_
  refine cf_row6 (n := 3) hx hb hts (fun _ h => List.mem_cons_of_mem _ (List.mem_append_right _ (h))) hown hT.1 (hts (.arrayClass .int) (List.mem_of_getElem? (i := 4) rfl)) hq hS 3 5 (by decide) rfl (by decide) (by decide) (by decide) (fun f2 h1 h2 => by omega) rfl (hts (.fieldLink RX6 16 "GameCafeModel" "minutes" "[I") (List.mem_of_getElem? (i := 7) rfl)) rfl rfl hin0 (by decide +kernel) (Nat.le_of_ble_eq_true rfl) (Nat.le_of_ble_eq_true rfl) dX6_init_20 dX6_init_22 (fun H locs hq hS => ?_)
  refine lv_aload_n hx hb dX6_init_25 rfl (lv_at hl 0 rfl) ?_
  refine lv_bipush (v := 20) hx hb dX6_init_26 (by decide) ?_
  refine cf_row6 (n := 4) hx hb hts (fun _ h => List.mem_cons_of_mem _ (List.mem_append_right _ (h))) hown hT.1 (hts (.arrayClass .int) (List.mem_of_getElem? (i := 4) rfl)) hq hS 4 20 (by decide) rfl (by decide) (by decide) (by decide) (fun f2 h1 h2 => by omega) rfl (hts (.fieldLink RX6 19 "GameCafeModel" "wholes" "[I") (List.mem_of_getElem? (i := 8) rfl)) rfl rfl hin0 (by decide +kernel) (Nat.le_of_ble_eq_true rfl) (Nat.le_of_ble_eq_true rfl) dX6_init_28 dX6_init_30 (fun H locs hq hS => ?_)
  refine lv_aload_n hx hb dX6_init_33 rfl (lv_at hl 0 rfl) ?_
  refine lv_bipush (v := 20) hx hb dX6_init_34 (by decide) ?_
  refine cf_row6 (n := 5) hx hb hts (fun _ h => List.mem_cons_of_mem _ (List.mem_append_right _ (h))) hown hT.1 (hts (.arrayClass .int) (List.mem_of_getElem? (i := 4) rfl)) hq hS 5 20 (by decide) rfl (by decide) (by decide) (by decide) (fun f2 h1 h2 => by omega) rfl (hts (.fieldLink RX6 22 "GameCafeModel" "needs" "[I") (List.mem_of_getElem? (i := 9) rfl)) rfl rfl hin0 (by decide +kernel) (Nat.le_of_ble_eq_true rfl) (Nat.le_of_ble_eq_true rfl) dX6_init_36 dX6_init_38 (fun H locs hq hS => ?_)
  refine lv_aload_n hx hb dX6_init_41 rfl (lv_at hl 0 rfl) ?_
  refine lv_iconst (v := 5) hx hb dX6_init_42 (by decide) ?_
  refine cf_row6 (n := 6) hx hb hts (fun _ h => List.mem_cons_of_mem _ (List.mem_append_right _ (h))) hown hT.1 (hts (.arrayClass .int) (List.mem_of_getElem? (i := 4) rfl)) hq hS 6 5 (by decide) rfl (by decide) (by decide) (by decide) (fun f2 h1 h2 => by omega) rfl (hts (.fieldLink RX6 25 "GameCafeModel" "played" "[I") (List.mem_of_getElem? (i := 10) rfl)) rfl rfl hin0 (by decide +kernel) (Nat.le_of_ble_eq_true rfl) (Nat.le_of_ble_eq_true rfl) dX6_init_43 dX6_init_45 (fun H locs hq hS => ?_)
  refine lv_aload_n hx hb dX6_init_48 rfl (lv_at hl 0 rfl) ?_
  refine lv_bipush (v := 6) hx hb dX6_init_49 (by decide) ?_
  refine cf_row6 (n := 7) hx hb hts (fun _ h => List.mem_cons_of_mem _ (List.mem_append_right _ (h))) hown hT.1 (hts (.arrayClass .int) (List.mem_of_getElem? (i := 4) rfl)) hq hS 7 6 (by decide) rfl (by decide) (by decide) (by decide) (fun f2 h1 h2 => by omega) rfl (hts (.fieldLink RX6 28 "GameCafeModel" "seats" "[I") (List.mem_of_getElem? (i := 11) rfl)) rfl rfl hin0 (by decide +kernel) (Nat.le_of_ble_eq_true rfl) (Nat.le_of_ble_eq_true rfl) dX6_init_51 dX6_init_53 (fun H locs hq hS => ?_)
  refine lv_aload_n hx hb dX6_init_56 rfl (lv_at hl 0 rfl) ?_
  refine lv_bipush (v := 6) hx hb dX6_init_57 (by decide) ?_
  refine cf_row6 (n := 8) hx hb hts (fun _ h => List.mem_cons_of_mem _ (List.mem_append_right _ (h))) hown hT.1 (hts (.arrayClass .int) (List.mem_of_getElem? (i := 4) rfl)) hq hS 8 6 (by decide) rfl (by decide) (by decide) (by decide) (fun f2 h1 h2 => by omega) rfl (hts (.fieldLink RX6 31 "GameCafeModel" "taken" "[I") (List.mem_of_getElem? (i := 12) rfl)) rfl rfl hin0 (by decide +kernel) (Nat.le_of_ble_eq_true rfl) (Nat.le_of_ble_eq_true rfl) dX6_init_59 dX6_init_61 (fun H locs hq hS => ?_)
  refine lv_aload_n hx hb dX6_init_64 rfl (lv_at hl 0 rfl) ?_
  refine lv_bipush (v := 15) hx hb dX6_init_65 (by decide) ?_
  refine cf_row6 (n := 9) hx hb hts (fun _ h => List.mem_cons_of_mem _ (List.mem_append_right _ (h))) hown hT.1 (hts (.arrayClass .int) (List.mem_of_getElem? (i := 4) rfl)) hq hS 9 15 (by decide) rfl (by decide) (by decide) (by decide) (fun f2 h1 h2 => by omega) rfl (hts (.fieldLink RX6 34 "GameCafeModel" "ignorant" "[I") (List.mem_of_getElem? (i := 13) rfl)) rfl rfl hin0 (by decide +kernel) (Nat.le_of_ble_eq_true rfl) (Nat.le_of_ble_eq_true rfl) dX6_init_67 dX6_init_69 (fun H locs hq hS => ?_)
  refine lv_aload_n hx hb dX6_init_72 rfl (lv_at hl 0 rfl) ?_
  refine lv_iconst (v := 3) hx hb dX6_init_73 (by decide) ?_
  refine cf_row6 (n := 10) hx hb hts (fun _ h => List.mem_cons_of_mem _ (List.mem_append_right _ (h))) hown hT.1 (hts (.arrayClass .int) (List.mem_of_getElem? (i := 4) rfl)) hq hS 10 3 (by decide) rfl (by decide) (by decide) (by decide) (fun f2 h1 h2 => by omega) rfl (hts (.fieldLink RX6 37 "GameCafeModel" "until" "[I") (List.mem_of_getElem? (i := 14) rfl)) rfl rfl hin0 (by decide +kernel) (Nat.le_of_ble_eq_true rfl) (Nat.le_of_ble_eq_true rfl) dX6_init_74 dX6_init_76 (fun H locs hq hS => ?_)
  refine lv_aload_n hx hb dX6_init_79 rfl (lv_at hl 0 rfl) ?_
  refine lv_bipush (v := 15) hx hb dX6_init_80 (by decide) ?_
  refine cf_row6 (n := 11) hx hb hts (fun _ h => List.mem_cons_of_mem _ (List.mem_append_right _ (h))) hown hT.1 (hts (.arrayClass .int) (List.mem_of_getElem? (i := 4) rfl)) hq hS 12 15 (by decide) rfl (by decide) (by decide) (by decide) (fun f2 h1 h2 => by rw [show f2 = 11 by omega]; rfl) rfl (hts (.fieldLink RX6 40 "GameCafeModel" "games" "[I") (List.mem_of_getElem? (i := 15) rfl)) rfl rfl hin0 (by decide +kernel) (Nat.le_of_ble_eq_true rfl) (Nat.le_of_ble_eq_true rfl) dX6_init_82 dX6_init_84 (fun H locs hq hS => ?_)
  refine lv_aload_n hx hb dX6_init_87 rfl (lv_at hl 0 rfl) ?_
  refine lv_bipush (v := 15) hx hb dX6_init_88 (by decide) ?_
  refine cf_row6 (n := 13) hx hb hts (fun _ h => List.mem_cons_of_mem _ (List.mem_append_right _ (h))) hown hT.1 (hts (.arrayClass .int) (List.mem_of_getElem? (i := 4) rfl)) hq hS 13 15 (by decide) rfl (by decide) (by decide) (by decide) (fun f2 h1 h2 => by omega) rfl (hts (.fieldLink RX6 43 "GameCafeModel" "places" "[I") (List.mem_of_getElem? (i := 16) rfl)) rfl rfl hin0 (by decide +kernel) (Nat.le_of_ble_eq_true rfl) (Nat.le_of_ble_eq_true rfl) dX6_init_90 dX6_init_92 (fun H locs hq hS => ?_)
  refine lv_aload_n hx hb dX6_init_95 rfl (lv_at hl 0 rfl) ?_
  refine lv_bipush (v := 60) hx hb dX6_init_96 (by decide) ?_
  refine cf_row6 (n := 14) hx hb hts (fun _ h => List.mem_cons_of_mem _ (List.mem_append_right _ (h))) hown hT.1 (hts (.arrayClass .int) (List.mem_of_getElem? (i := 4) rfl)) hq hS 14 60 (by decide) rfl (by decide) (by decide) (by decide) (fun f2 h1 h2 => by omega) rfl (hts (.fieldLink RX6 46 "GameCafeModel" "parts" "[I") (List.mem_of_getElem? (i := 17) rfl)) rfl rfl hin0 (by decide +kernel) (Nat.le_of_ble_eq_true rfl) (Nat.le_of_ble_eq_true rfl) dX6_init_98 dX6_init_100 (fun H locs hq hS => ?_)
  refine lv_aload_n hx hb dX6_init_103 rfl (lv_at hl 0 rfl) ?_
  refine lv_bipush (v := 60) hx hb dX6_init_104 (by decide) ?_
  refine cf_row6 (n := 15) hx hb hts (fun _ h => List.mem_cons_of_mem _ (List.mem_append_right _ (h))) hown hT.1 (hts (.arrayClass .int) (List.mem_of_getElem? (i := 4) rfl)) hq hS 16 60 (by decide) rfl (by decide) (by decide) (by decide) (fun f2 h1 h2 => by rw [show f2 = 15 by omega]; rfl) rfl (hts (.fieldLink RX6 49 "GameCafeModel" "people" "[I") (List.mem_of_getElem? (i := 18) rfl)) rfl rfl hin0 (by decide +kernel) (Nat.le_of_ble_eq_true rfl) (Nat.le_of_ble_eq_true rfl) dX6_init_106 dX6_init_108 (fun H locs hq hS => ?_)
  refine lv_aload_n hx hb dX6_init_111 rfl (lv_at hl 0 rfl) ?_
  refine lv_bipush (v := 60) hx hb dX6_init_112 (by decide) ?_
  refine cf_row6 (n := 17) hx hb hts (fun _ h => List.mem_cons_of_mem _ (List.mem_append_right _ (h))) hown hT.1 (hts (.arrayClass .int) (List.mem_of_getElem? (i := 4) rfl)) hq hS 17 60 (by decide) rfl (by decide) (by decide) (by decide) (fun f2 h1 h2 => by omega) rfl (hts (.fieldLink RX6 52 "GameCafeModel" "tables" "[I") (List.mem_of_getElem? (i := 19) rfl)) rfl rfl hin0 (by decide +kernel) (Nat.le_of_ble_eq_true rfl) (Nat.le_of_ble_eq_true rfl) dX6_init_114 dX6_init_116 (fun H locs hq hS => ?_)
  refine lv_aload_n hx hb dX6_init_119 rfl (lv_at hl 0 rfl) ?_
  refine lv_bipush (v := 60) hx hb dX6_init_120 (by decide) ?_
  refine cf_row6 (n := 18) hx hb hts (fun _ h => List.mem_cons_of_mem _ (List.mem_append_right _ (h))) hown hT.1 (hts (.arrayClass .int) (List.mem_of_getElem? (i := 4) rfl)) hq hS 18 60 (by decide) rfl (by decide) (by decide) (by decide) (fun f2 h1 h2 => by omega) rfl (hts (.fieldLink RX6 55 "GameCafeModel" "ofGroup" "[I") (List.mem_of_getElem? (i := 20) rfl)) rfl rfl hin0 (by decide +kernel) (Nat.le_of_ble_eq_true rfl) (Nat.le_of_ble_eq_true rfl) dX6_init_122 dX6_init_124 (fun H locs hq hS => ?_)
  refine lv_aload_n hx hb dX6_init_127 rfl (lv_at hl 0 rfl) ?_
  refine lv_bipush (v := 60) hx hb dX6_init_128 (by decide) ?_
  refine cf_row6 (n := 19) hx hb hts (fun _ h => List.mem_cons_of_mem _ (List.mem_append_right _ (h))) hown hT.1 (hts (.arrayClass .int) (List.mem_of_getElem? (i := 4) rfl)) hq hS 19 60 (by decide) rfl (by decide) (by decide) (by decide) (fun f2 h1 h2 => by omega) rfl (hts (.fieldLink RX6 58 "GameCafeModel" "since" "[I") (List.mem_of_getElem? (i := 21) rfl)) rfl rfl hin0 (by decide +kernel) (Nat.le_of_ble_eq_true rfl) (Nat.le_of_ble_eq_true rfl) dX6_init_130 dX6_init_132 (fun H locs hq hS => ?_)
  refine lv_aload_n hx hb dX6_init_135 rfl (lv_at hl 0 rfl) ?_
  refine lv_bipush (v := 60) hx hb dX6_init_136 (by decide) ?_
  refine cf_row6 (n := 20) hx hb hts (fun _ h => List.mem_cons_of_mem _ (List.mem_append_right _ (h))) hown hT.1 (hts (.arrayClass .int) (List.mem_of_getElem? (i := 4) rfl)) hq hS 20 60 (by decide) rfl (by decide) (by decide) (by decide) (fun f2 h1 h2 => by omega) rfl (hts (.fieldLink RX6 61 "GameCafeModel" "gone" "[I") (List.mem_of_getElem? (i := 22) rfl)) rfl rfl hin0 (by decide +kernel) (Nat.le_of_ble_eq_true rfl) (Nat.le_of_ble_eq_true rfl) dX6_init_138 dX6_init_140 (fun H locs hq hS => ?_)
  refine lv_aload_n hx hb dX6_init_143 rfl (lv_at hl 0 rfl) ?_
  refine lv_bipush (v := 6) hx hb dX6_init_144 (by decide) ?_
  refine cf_row6 (n := 21) hx hb hts (fun _ h => List.mem_cons_of_mem _ (List.mem_append_right _ (h))) hown hT.1 (hts (.arrayClass .int) (List.mem_of_getElem? (i := 4) rfl)) hq hS 21 6 (by decide) rfl (by decide) (by decide) (by decide) (fun f2 h1 h2 => by omega) rfl (hts (.fieldLink RX6 64 "GameCafeModel" "lent" "[I") (List.mem_of_getElem? (i := 23) rfl)) rfl rfl hin0 (by decide +kernel) (Nat.le_of_ble_eq_true rfl) (Nat.le_of_ble_eq_true rfl) dX6_init_146 dX6_init_148 (fun H locs hq hS => ?_)
  refine lv_aload_n hx hb dX6_init_151 rfl (lv_at hl 0 rfl) ?_
  refine lv_bipush (v := 6) hx hb dX6_init_152 (by decide) ?_
  refine cf_row6 (n := 22) hx hb hts (fun _ h => List.mem_cons_of_mem _ (List.mem_append_right _ (h))) hown hT.1 (hts (.arrayClass .int) (List.mem_of_getElem? (i := 4) rfl)) hq hS 22 6 (by decide) rfl (by decide) (by decide) (by decide) (fun f2 h1 h2 => by omega) rfl (hts (.fieldLink RX6 67 "GameCafeModel" "deposits" "[I") (List.mem_of_getElem? (i := 24) rfl)) rfl rfl hin0 (by decide +kernel) (Nat.le_of_ble_eq_true rfl) (Nat.le_of_ble_eq_true rfl) dX6_init_154 dX6_init_156 (fun H locs hq hS => ?_)
  refine W.widen (k := 20) (n := 492) (by decide) (by decide) ?_
  obtain ⟨ad, had, hW⟩ := cf_q6end hq
  subst had
  have hl : lv_has ls 2 [(0, .ref (ad 6 0))] := hl
  refine lv_iconst (v := 0) hx hb dX6_init_159 (by decide) ?_
  refine lv_istore_n (lv' := [(1, .int 0), (0, .ref (ad 6 0))]) hx hb dX6_init_160 rfl hl (by decide) rfl (fun ls hl => ?_)
  refine cf_loopW (β := Unit) (fun i H locs ls b => cf_W D z ((cf_K cf_m6 (cf_E cT 0 0 (cf_L1 i) cf_P0 cf_O0 ad))) ad H ∧ va_S (fun q => z ≤ q) s.heap H locs ∧ lv_has ls 2 [(0, .ref (ad 6 0)), (1, .int (nI i))] ∧ True) 5 (fun H locs ls b hI => ?_) (fun i H locs ls b hi hI ih => ?_) () ⟨hW, hS, lv_sub hl [1, 0] rfl, trivial⟩
  · obtain ⟨hW, hS, hl, hI⟩ := hI
    have hW : cf_W D z (cf_K cf_m6 (cf_E cT 0 0 (cf_L1 5) cf_P0 cf_O0 ad)) ad H := hW
    refine lv_iload_n hx hb dX6_init_161 rfl (lv_at hl 1 rfl) ?_
    refine lv_iconst (v := 5) hx hb dX6_init_162 (by decide) ?_
    refine lv_icmp_ge (tgt := 194) hx hb dX6_init_163 (by decide) (fun c163_1 => ?_) (fun c163_1 => (by first | exact absurd (nI_le (Nat.le_refl 5) (by decide)) c163_1 | exact absurd c163_1 (nI_le (Nat.le_refl 5) (by decide))))
    refine lv_iconst (v := 0) hx hb dX6_init_194 (by decide) ?_
    refine lv_istore_n (lv' := [(1, .int 0), (0, .ref (ad 6 0))]) hx hb dX6_init_195 rfl hl (by decide) rfl (fun ls hl => ?_)
    refine cf_loopW (β := Unit) (fun i H locs ls b => cf_W D z ((cf_K cf_m6 (cf_E cT 0 0 (cf_L2 i) cf_P0 cf_O0 ad))) ad H ∧ va_S (fun q => z ≤ q) s.heap H locs ∧ lv_has ls 2 [(0, .ref (ad 6 0)), (1, .int (nI i))] ∧ True) 20 (fun H locs ls b hI => ?_) (fun i H locs ls b hi hI ih => ?_) () ⟨hW, hS, lv_sub hl [1, 0] rfl, trivial⟩
    · obtain ⟨hW, hS, hl, hI⟩ := hI
      have hW : cf_W D z (cf_K cf_m6 (cf_E cT 0 0 (cf_L2 20) cf_P0 cf_O0 ad)) ad H := hW
      refine lv_iload_n hx hb dX6_init_196 rfl (lv_at hl 1 rfl) ?_
      refine lv_bipush (v := 20) hx hb dX6_init_197 (by decide) ?_
      refine lv_icmp_ge (tgt := 222) hx hb dX6_init_199 (by decide) (fun c199_2 => ?_) (fun c199_2 => (by first | exact absurd (nI_le (Nat.le_refl 20) (by decide)) c199_2 | exact absurd c199_2 (nI_le (Nat.le_refl 20) (by decide))))
      refine lv_iconst (v := 0) hx hb dX6_init_222 (by decide) ?_
      refine lv_istore_n (lv' := [(1, .int 0), (0, .ref (ad 6 0))]) hx hb dX6_init_223 rfl hl (by decide) rfl (fun ls hl => ?_)
      refine cf_loopW (β := Unit) (fun i H locs ls b => cf_W D z ((cf_K cf_m6 (cf_E cT 0 0 (cf_L3 i) cf_P0 cf_O0 ad))) ad H ∧ va_S (fun q => z ≤ q) s.heap H locs ∧ lv_has ls 2 [(0, .ref (ad 6 0)), (1, .int (nI i))] ∧ True) 6 (fun H locs ls b hI => ?_) (fun i H locs ls b hi hI ih => ?_) () ⟨hW, hS, lv_sub hl [1, 0] rfl, trivial⟩
      · obtain ⟨hW, hS, hl, hI⟩ := hI
        have hW : cf_W D z (cf_K cf_m6 (cf_E cT 0 0 (cf_L3 6) cf_P0 cf_O0 ad)) ad H := hW
        refine lv_iload_n hx hb dX6_init_224 rfl (lv_at hl 1 rfl) ?_
        refine lv_bipush (v := 6) hx hb dX6_init_225 (by decide) ?_
        refine lv_icmp_ge (tgt := 245) hx hb dX6_init_227 (by decide) (fun c227_3 => ?_) (fun c227_3 => (by first | exact absurd (nI_le (Nat.le_refl 6) (by decide)) c227_3 | exact absurd c227_3 (nI_le (Nat.le_refl 6) (by decide))))
        exact W.vret hx hb hr (fun t9 ht9 hw9 => ⟨⟨ad, rfl, rfl, cf_W.re ht9 hW⟩, hS.F ht9⟩) hS.2.2 dX6_init_245
      · obtain ⟨hW, hS, hl, hI⟩ := hI
        refine lv_iload_n hx hb dX6_init_224 rfl (lv_at hl 1 rfl) ?_
        refine lv_bipush (v := 6) hx hb dX6_init_225 (by decide) ?_
        refine lv_icmp_ge (tgt := 245) hx hb dX6_init_227 (by decide) (fun c227_4 => (by first | exact absurd c227_4 (nI_ge hi (by decide)) | exact absurd (nI_ge hi (by decide)) c227_4)) (fun c227_4 => ?_)
        refine lv_aload_n hx hb dX6_init_230 rfl (lv_at hl 0 rfl) ?_
        refine cf_get (v := .ref (ad 17 7)) (ci := 6) (C := RX6) (T := TX6) (N := 24) hx hb hts (fun _ h => List.mem_cons_of_mem _ (List.mem_append_right _ (h))) hown hT.1 hW (show (cf_K cf_m6 (cf_E cT 0 0 (cf_L3 i) cf_P0 cf_O0 ad)) 6 0 = _ from cf_e6 (cT := cT) (nc := 0) (ng := 0) (S := (cf_L3 i)) (P := cf_P0) (O := cf_O0) (ad := ad)) rfl 7 (by decide) (hts (.fieldLink RX6 28 "GameCafeModel" "seats" "[I") (List.mem_of_getElem? (i := 11) rfl)) (fun _ h9 => h9) rfl dX6_init_231 ?_
        refine lv_iload_n hx hb dX6_init_234 rfl (lv_at hl 1 rfl) ?_
        refine lv_iload_n hx hb dX6_init_235 rfl (lv_at hl 1 rfl) ?_
        refine lv_iconst (v := 2) hx hb dX6_init_236 (by decide) ?_
        refine lv_iadd hx hb dX6_init_237 ?_
        refine cf_istN (t0 := 0) (k := 17) (i := 7) (n := 6) (f := (cf_L3 i) 17 7) hx hb hT.1 hW hS (show cf_K cf_m6 (cf_E cT 0 0 (cf_L3 i) cf_P0 cf_O0 ad) 17 7 = _ from cf_e17 (cT := cT) (nc := 0) (ng := 0) (S := (cf_L3 i)) (P := cf_P0) (O := cf_O0) (ad := ad) (i := 7) (by decide)) rfl i rfl hi (by decide) dX6_init_238 (E2 := (cf_K cf_m6 (cf_E cT 0 0 (cf_s3 (cf_L3 i) 17 7 i ((nI i) + 2)) cf_P0 cf_O0 ad))) ((cf_upK rfl).trans (congrArg (cf_K cf_m6) (cf_upS 17 7 (upd ((cf_L3 i) 17 7) i ((nI i) + 2)) (cf_c17 (i := 7) (by decide))))) (fun H locs hW hS => ?_)
        refine lv_iinc (v := (nI (i + 1))) (lv' := [(1, .int (nI (i + 1))), (0, .ref (ad 6 0))]) hx hb dX6_init_239 hl (k := 1) rfl (nI_1 i) (by decide) rfl (fun ls hl => ?_)
        refine lv_goto (tgt := 224) hx hb dX6_init_242 (by decide) ?_
        exact ih _ _ _ () ⟨hW, hS, lv_sub hl [1, 0] rfl, trivial⟩
    · obtain ⟨hW, hS, hl, hI⟩ := hI
      refine lv_iload_n hx hb dX6_init_196 rfl (lv_at hl 1 rfl) ?_
      refine lv_bipush (v := 20) hx hb dX6_init_197 (by decide) ?_
      refine lv_icmp_ge (tgt := 222) hx hb dX6_init_199 (by decide) (fun c199_5 => (by first | exact absurd c199_5 (nI_ge hi (by decide)) | exact absurd (nI_ge hi (by decide)) c199_5)) (fun c199_5 => ?_)
      refine lv_aload_n hx hb dX6_init_202 rfl (lv_at hl 0 rfl) ?_
      refine cf_get (v := .ref (ad 17 4)) (ci := 6) (C := RX6) (T := TX6) (N := 24) hx hb hts (fun _ h => List.mem_cons_of_mem _ (List.mem_append_right _ (h))) hown hT.1 hW (show (cf_K cf_m6 (cf_E cT 0 0 (cf_L2 i) cf_P0 cf_O0 ad)) 6 0 = _ from cf_e6 (cT := cT) (nc := 0) (ng := 0) (S := (cf_L2 i)) (P := cf_P0) (O := cf_O0) (ad := ad)) rfl 4 (by decide) (hts (.fieldLink RX6 19 "GameCafeModel" "wholes" "[I") (List.mem_of_getElem? (i := 8) rfl)) (fun _ h9 => h9) rfl dX6_init_203 ?_
      refine lv_iload_n hx hb dX6_init_206 rfl (lv_at hl 1 rfl) ?_
      refine lv_iconst (v := 5) hx hb dX6_init_207 (by decide) ?_
      refine cf_istN (t0 := 0) (k := 17) (i := 4) (n := 20) (f := (cf_L2 i) 17 4) hx hb hT.1 hW hS (show cf_K cf_m6 (cf_E cT 0 0 (cf_L2 i) cf_P0 cf_O0 ad) 17 4 = _ from cf_e17 (cT := cT) (nc := 0) (ng := 0) (S := (cf_L2 i)) (P := cf_P0) (O := cf_O0) (ad := ad) (i := 4) (by decide)) rfl i rfl hi (by decide) dX6_init_208 (E2 := (cf_K cf_m6 (cf_E cT 0 0 (cf_s3 (cf_L2 i) 17 4 i 5) cf_P0 cf_O0 ad))) ((cf_upK rfl).trans (congrArg (cf_K cf_m6) (cf_upS 17 4 (upd ((cf_L2 i) 17 4) i 5) (cf_c17 (i := 4) (by decide))))) (fun H locs hW hS => ?_)
      refine lv_aload_n hx hb dX6_init_209 rfl (lv_at hl 0 rfl) ?_
      refine cf_get (v := .ref (ad 17 5)) (ci := 6) (C := RX6) (T := TX6) (N := 24) hx hb hts (fun _ h => List.mem_cons_of_mem _ (List.mem_append_right _ (h))) hown hT.1 hW (show (cf_K cf_m6 (cf_E cT 0 0 (cf_s3 (cf_L2 i) 17 4 i 5) cf_P0 cf_O0 ad)) 6 0 = _ from cf_e6 (cT := cT) (nc := 0) (ng := 0) (S := (cf_s3 (cf_L2 i) 17 4 i 5)) (P := cf_P0) (O := cf_O0) (ad := ad)) rfl 5 (by decide) (hts (.fieldLink RX6 22 "GameCafeModel" "needs" "[I") (List.mem_of_getElem? (i := 9) rfl)) (fun _ h9 => h9) rfl dX6_init_210 ?_
      refine lv_iload_n hx hb dX6_init_213 rfl (lv_at hl 1 rfl) ?_
      refine lv_iconst (v := 4) hx hb dX6_init_214 (by decide) ?_
      refine cf_istN (t0 := 0) (k := 17) (i := 5) (n := 20) (f := (cf_s3 (cf_L2 i) 17 4 i 5) 17 5) hx hb hT.1 hW hS (show cf_K cf_m6 (cf_E cT 0 0 (cf_s3 (cf_L2 i) 17 4 i 5) cf_P0 cf_O0 ad) 17 5 = _ from cf_e17 (cT := cT) (nc := 0) (ng := 0) (S := (cf_s3 (cf_L2 i) 17 4 i 5)) (P := cf_P0) (O := cf_O0) (ad := ad) (i := 5) (by decide)) rfl i rfl hi (by decide) dX6_init_215 (E2 := (cf_K cf_m6 (cf_E cT 0 0 (cf_s3 (cf_s3 (cf_L2 i) 17 4 i 5) 17 5 i 4) cf_P0 cf_O0 ad))) ((cf_upK rfl).trans (congrArg (cf_K cf_m6) (cf_upS 17 5 (upd ((cf_s3 (cf_L2 i) 17 4 i 5) 17 5) i 4) (cf_c17 (i := 5) (by decide))))) (fun H locs hW hS => ?_)
      refine lv_iinc (v := (nI (i + 1))) (lv' := [(1, .int (nI (i + 1))), (0, .ref (ad 6 0))]) hx hb dX6_init_216 hl (k := 1) rfl (nI_1 i) (by decide) rfl (fun ls hl => ?_)
      refine lv_goto (tgt := 196) hx hb dX6_init_219 (by decide) ?_
      exact ih _ _ _ () ⟨hW, hS, lv_sub hl [1, 0] rfl, trivial⟩
  · obtain ⟨hW, hS, hl, hI⟩ := hI
    refine lv_iload_n hx hb dX6_init_161 rfl (lv_at hl 1 rfl) ?_
    refine lv_iconst (v := 5) hx hb dX6_init_162 (by decide) ?_
    refine lv_icmp_ge (tgt := 194) hx hb dX6_init_163 (by decide) (fun c163_6 => (by first | exact absurd c163_6 (nI_ge hi (by decide)) | exact absurd (nI_ge hi (by decide)) c163_6)) (fun c163_6 => ?_)
    refine lv_aload_n hx hb dX6_init_166 rfl (lv_at hl 0 rfl) ?_
    refine cf_get (v := .ref (ad 17 1)) (ci := 6) (C := RX6) (T := TX6) (N := 24) hx hb hts (fun _ h => List.mem_cons_of_mem _ (List.mem_append_right _ (h))) hown hT.1 hW (show (cf_K cf_m6 (cf_E cT 0 0 (cf_L1 i) cf_P0 cf_O0 ad)) 6 0 = _ from cf_e6 (cT := cT) (nc := 0) (ng := 0) (S := (cf_L1 i)) (P := cf_P0) (O := cf_O0) (ad := ad)) rfl 1 (by decide) (hts (.fieldLink RX6 7 "GameCafeModel" "leasts" "[I") (List.mem_of_getElem? (i := 5) rfl)) (fun _ h9 => h9) rfl dX6_init_167 ?_
    refine lv_iload_n hx hb dX6_init_170 rfl (lv_at hl 1 rfl) ?_
    refine lv_iconst (v := 2) hx hb dX6_init_171 (by decide) ?_
    refine cf_istN (t0 := 0) (k := 17) (i := 1) (n := 5) (f := (cf_L1 i) 17 1) hx hb hT.1 hW hS (show cf_K cf_m6 (cf_E cT 0 0 (cf_L1 i) cf_P0 cf_O0 ad) 17 1 = _ from cf_e17 (cT := cT) (nc := 0) (ng := 0) (S := (cf_L1 i)) (P := cf_P0) (O := cf_O0) (ad := ad) (i := 1) (by decide)) rfl i rfl hi (by decide) dX6_init_172 (E2 := (cf_K cf_m6 (cf_E cT 0 0 (cf_s3 (cf_L1 i) 17 1 i 2) cf_P0 cf_O0 ad))) ((cf_upK rfl).trans (congrArg (cf_K cf_m6) (cf_upS 17 1 (upd ((cf_L1 i) 17 1) i 2) (cf_c17 (i := 1) (by decide))))) (fun H locs hW hS => ?_)
    refine lv_aload_n hx hb dX6_init_173 rfl (lv_at hl 0 rfl) ?_
    refine cf_get (v := .ref (ad 17 2)) (ci := 6) (C := RX6) (T := TX6) (N := 24) hx hb hts (fun _ h => List.mem_cons_of_mem _ (List.mem_append_right _ (h))) hown hT.1 hW (show (cf_K cf_m6 (cf_E cT 0 0 (cf_s3 (cf_L1 i) 17 1 i 2) cf_P0 cf_O0 ad)) 6 0 = _ from cf_e6 (cT := cT) (nc := 0) (ng := 0) (S := (cf_s3 (cf_L1 i) 17 1 i 2)) (P := cf_P0) (O := cf_O0) (ad := ad)) rfl 2 (by decide) (hts (.fieldLink RX6 13 "GameCafeModel" "mosts" "[I") (List.mem_of_getElem? (i := 6) rfl)) (fun _ h9 => h9) rfl dX6_init_174 ?_
    refine lv_iload_n hx hb dX6_init_177 rfl (lv_at hl 1 rfl) ?_
    refine lv_iconst (v := 4) hx hb dX6_init_178 (by decide) ?_
    refine cf_istN (t0 := 0) (k := 17) (i := 2) (n := 5) (f := (cf_s3 (cf_L1 i) 17 1 i 2) 17 2) hx hb hT.1 hW hS (show cf_K cf_m6 (cf_E cT 0 0 (cf_s3 (cf_L1 i) 17 1 i 2) cf_P0 cf_O0 ad) 17 2 = _ from cf_e17 (cT := cT) (nc := 0) (ng := 0) (S := (cf_s3 (cf_L1 i) 17 1 i 2)) (P := cf_P0) (O := cf_O0) (ad := ad) (i := 2) (by decide)) rfl i rfl hi (by decide) dX6_init_179 (E2 := (cf_K cf_m6 (cf_E cT 0 0 (cf_s3 (cf_s3 (cf_L1 i) 17 1 i 2) 17 2 i 4) cf_P0 cf_O0 ad))) ((cf_upK rfl).trans (congrArg (cf_K cf_m6) (cf_upS 17 2 (upd ((cf_s3 (cf_L1 i) 17 1 i 2) 17 2) i 4) (cf_c17 (i := 2) (by decide))))) (fun H locs hW hS => ?_)
    refine lv_aload_n hx hb dX6_init_180 rfl (lv_at hl 0 rfl) ?_
    refine cf_get (v := .ref (ad 17 3)) (ci := 6) (C := RX6) (T := TX6) (N := 24) hx hb hts (fun _ h => List.mem_cons_of_mem _ (List.mem_append_right _ (h))) hown hT.1 hW (show (cf_K cf_m6 (cf_E cT 0 0 (cf_s3 (cf_s3 (cf_L1 i) 17 1 i 2) 17 2 i 4) cf_P0 cf_O0 ad)) 6 0 = _ from cf_e6 (cT := cT) (nc := 0) (ng := 0) (S := (cf_s3 (cf_s3 (cf_L1 i) 17 1 i 2) 17 2 i 4)) (P := cf_P0) (O := cf_O0) (ad := ad)) rfl 3 (by decide) (hts (.fieldLink RX6 16 "GameCafeModel" "minutes" "[I") (List.mem_of_getElem? (i := 7) rfl)) (fun _ h9 => h9) rfl dX6_init_181 ?_
    refine lv_iload_n hx hb dX6_init_184 rfl (lv_at hl 1 rfl) ?_
    refine lv_bipush (v := 10) hx hb dX6_init_185 (by decide) ?_
    refine cf_istN (t0 := 0) (k := 17) (i := 3) (n := 5) (f := (cf_s3 (cf_s3 (cf_L1 i) 17 1 i 2) 17 2 i 4) 17 3) hx hb hT.1 hW hS (show cf_K cf_m6 (cf_E cT 0 0 (cf_s3 (cf_s3 (cf_L1 i) 17 1 i 2) 17 2 i 4) cf_P0 cf_O0 ad) 17 3 = _ from cf_e17 (cT := cT) (nc := 0) (ng := 0) (S := (cf_s3 (cf_s3 (cf_L1 i) 17 1 i 2) 17 2 i 4)) (P := cf_P0) (O := cf_O0) (ad := ad) (i := 3) (by decide)) rfl i rfl hi (by decide) dX6_init_187 (E2 := (cf_K cf_m6 (cf_E cT 0 0 (cf_s3 (cf_s3 (cf_s3 (cf_L1 i) 17 1 i 2) 17 2 i 4) 17 3 i 10) cf_P0 cf_O0 ad))) ((cf_upK rfl).trans (congrArg (cf_K cf_m6) (cf_upS 17 3 (upd ((cf_s3 (cf_s3 (cf_L1 i) 17 1 i 2) 17 2 i 4) 17 3) i 10) (cf_c17 (i := 3) (by decide))))) (fun H locs hW hS => ?_)
    refine lv_iinc (v := (nI (i + 1))) (lv' := [(1, .int (nI (i + 1))), (0, .ref (ad 6 0))]) hx hb dX6_init_188 hl (k := 1) rfl (nI_1 i) (by decide) rfl (fun ls hl => ?_)
    refine lv_goto (tgt := 161) hx hb dX6_init_191 (by decide) ?_
    exact ih _ _ _ () ⟨hW, hS, lv_sub hl [1, 0] rfl, trivial⟩
