theorem cf_vkR {own tx : String} {k : Nat} {A : Array Value} {s : State} {cur : Nat} (hcur : s.vm.findClass own = some cur) (h : (Cond.stringRef own k tx).before A s = true) : ∃ a : Nat, vk_R own k tx a s := by
  obtain ⟨_, _, _, a, -, -, -, -, -, he⟩ := Cond.stringRef_spec hcur h
  exact ⟨a, vk_R.of h he⟩
set_option maxHeartbeats 4000000 in
set_option maxRecDepth 100000 in
/-- what the tables say at the law's entry -/
theorem cf_start {p : Program} {s : State} {m : MethodId} {meth : Method} {c : Code} {b L : Nat} {xs : Nat → Int32} (C0 : lw_At p s m meth c b L xs) : ∃ (D : va_G) (cT : Nat → ClassId), cf_Tb D cT s.heap.size s s.heap := by
  obtain ⟨hx, hb, hr, hml, hown, hts, hX, hbl, hlocks, hgv⟩ := id C0
  have hg := flat_of_before _ hgv
  obtain ⟨c0, iS0, hKn0⟩ := u_known (C := RX0) (T := TX0) (N := 4) (n := 4) hts inX0 (hts (.instantiable RX0 4) (by decide +kernel))
  obtain ⟨c1, iS1, hKn1⟩ := u_known (C := RX1) (T := TX1) (N := 6) (n := 6) hts inX1 (hts (.instantiable RX1 6) (by decide +kernel))
  obtain ⟨c2, iS2, hKn2⟩ := u_known (C := RX2) (T := TX2) (N := 4) (n := 4) hts inX2 (hts (.instantiable RX2 4) (by decide +kernel))
  obtain ⟨c3, iS3, hKn3⟩ := u_known (C := RX3) (T := TX3) (N := 3) (n := 3) hts inX3 (hts (.instantiable RX3 3) (by decide +kernel))
  obtain ⟨c4, iS4, hKn4⟩ := u_known (C := RX4) (T := TX4) (N := 2) (n := 2) hts inX4 (hts (.instantiable RX4 2) (by decide +kernel))
  obtain ⟨c5, iS5, hKn5⟩ := u_known (C := RX5) (T := TX5) (N := 9) (n := 9) hts inX5 (hts (.instantiable RX5 9) (by decide +kernel))
  obtain ⟨c6, iS6, hKn6⟩ := u_known (C := RX6) (T := TX6) (N := 24) (n := 24) hts inX6 (hts (.instantiable RX6 24) (by decide +kernel))
  obtain ⟨dC, dI, hKc⟩ : ∃ (dC : Nat → ClassId) (dI : Nat → Nat → Nat), ∀ (k : Nat) (q : vw_C), vwCl[k]? = some q → u_Kn s q.1 q.2.1 q.2.2 (dC k) (dI k) := by
    refine ⟨fun k => if k = 0 then c0 else if k = 1 then c1 else if k = 2 then c2 else if k = 3 then c3 else if k = 4 then c4 else if k = 5 then c5 else c6, fun k => if k = 0 then iS0 else if k = 1 then iS1 else if k = 2 then iS2 else if k = 3 then iS3 else if k = 4 then iS4 else if k = 5 then iS5 else iS6, ?_⟩
    intro k q hq
    match k, hq with
    | 0, hq => cases hq; exact hKn0
    | 1, hq => cases hq; exact hKn1
    | 2, hq => cases hq; exact hKn2
    | 3, hq => cases hq; exact hKn3
    | 4, hq => cases hq; exact hKn4
    | 5, hq => cases hq; exact hKn5
    | 6, hq => cases hq; exact hKn6
    | k + 7, hq => simp [vwCl] at hq
  have prim : ∀ ty : FieldType, (Cond.arrayClass ty).before #[Value.ref b] s = true → ∃ cA, ArrOfT s cA ty ∧ s.vm.findClass ("[" ++ ty.toString) = some cA := fun ty h => by
    obtain ⟨cA, kA, comp, h1, h2, h3⟩ := Cond.arrayClass_spec h
    exact ⟨cA, fun n z => ⟨fun k h => (by cases h), kA, h2, comp, h3⟩, h1⟩
  have obj : ∀ C : String, (Cond.arrayOver (.object C)).before #[Value.ref b] s = true → ∃ cA, ArrOfT s cA (.object C) ∧ va_RA s cA (.object C) := fun C h => by
    obtain ⟨comp, cA, kA, h1, h2, h3, h4, h5⟩ := Cond.arrayOver_spec h
    exact ⟨cA, fun n z => ⟨fun k h => (by cases h), kA, h3, comp, h4⟩, kA, comp, h3, h4, h1, h5⟩
  obtain ⟨a0, g0, n0⟩ := prim .int (hts (.arrayClass .int) (by decide +kernel))
  obtain ⟨a1, g1, n1⟩ := prim .boolean (hts (.arrayClass .boolean) (by decide +kernel))
  obtain ⟨a2, g2, n2⟩ := prim .long (hts (.arrayClass .long) (by decide +kernel))
  obtain ⟨a3, g3, n3⟩ := obj RX1 (hts (.arrayOver (.object RX1)) (by decide +kernel))
  obtain ⟨a4, g4, n4⟩ := obj RX3 (hts (.arrayOver (.object RX3)) (by decide +kernel))
  obtain ⟨a5, g5, n5⟩ := obj RX4 (hts (.arrayOver (.object RX4)) (by decide +kernel))
  obtain ⟨a6, g6, n6⟩ := obj RX0 (hts (.arrayOver (.object RX0)) (by decide +kernel))
  obtain ⟨a7, g7, n7⟩ := obj RX2 (hts (.arrayOver (.object RX2)) (by decide +kernel))
  obtain ⟨cT, hcT⟩ : ∃ cT : Nat → ClassId, cT 0 = a0 ∧ cT 1 = a1 ∧ cT 2 = a2 ∧ cT 3 = a3 ∧ cT 4 = a4 ∧ cT 5 = a5 ∧ cT 6 = a6 ∧ cT 7 = a7 := ⟨fun k => match k with | 0 => a0 | 1 => a1 | 2 => a2 | 3 => a3 | 4 => a4 | 5 => a5 | 6 => a6 | _ => a7, rfl, rfl, rfl, rfl, rfl, rfl, rfl, rfl⟩
  obtain ⟨t0, t1, t2, t3, t4, t5, t6, t7⟩ := hcT
  have hA : ∀ a : Nat, a < s.heap.size → ¬ s.heap.size ≤ a := fun a h => Nat.not_le.mpr h
  refine ⟨(dC, dI), cT, ⟨hKc, fun k q hq => ?_⟩, ⟨vx_Zqof (hts (.laysStatic Bundle.tN "UNASSIGNED_STACK" Bundle.steD) (by decide +kernel)) (hts (.initialized Bundle.tN) (by decide +kernel)) (hg (.isRef (.static Bundle.tN "UNASSIGNED_STACK" Bundle.steD)) (by decide +kernel)) hA, vx_Zqof (hts (.laysStatic Bundle.tN "SUPPRESSED_SENTINEL" Bundle.listD) (by decide +kernel)) (hts (.initialized Bundle.tN) (by decide +kernel)) (hg (.isRef (.static Bundle.tN "SUPPRESSED_SENTINEL" Bundle.listD)) (by decide +kernel)) hA⟩, ?_, ?_, ?_, ?_, ?_, ?_⟩
  · match k, hq with
    | 0, hq => cases hq; rw [t0]; exact ⟨g0, n0⟩
    | 1, hq => cases hq; rw [t1]; exact ⟨g1, n1⟩
    | 2, hq => cases hq; rw [t2]; exact ⟨g2, n2⟩
    | 3, hq => cases hq; rw [t3]; exact ⟨g3, n3⟩
    | 4, hq => cases hq; rw [t4]; exact ⟨g4, n4⟩
    | 5, hq => cases hq; rw [t5]; exact ⟨g5, n5⟩
    | 6, hq => cases hq; rw [t6]; exact ⟨g6, n6⟩
    | 7, hq => cases hq; rw [t7]; exact ⟨g7, n7⟩
    | k + 8, hq => simp [cf_tys] at hq
  · intro q hq
    have : Cond.castable q.1 q.2 ∈ lw_tbl := (by decide +kernel : ∀ q ∈ cf_ca, Cond.castable q.1 q.2 ∈ lw_tbl) q hq
    exact va_Nw.of rfl (hts _ this)
  · intro q hq
    have : Cond.methodLinkNest q.1 q.2.1 q.2.2.1 q.2.2.2 ∈ lw_tbl := (by decide +kernel : ∀ q ∈ cf_ln, Cond.methodLinkNest q.1 q.2.1 q.2.2.1 q.2.2.2 ∈ lw_tbl) q hq
    exact va_Nw.of rfl (hts _ this)
  · intro q hq
    simp only [cf_nc, List.mem_cons, List.not_mem_nil, or_false] at hq
    rcases hq with rfl | rfl | rfl | rfl | rfl | rfl <;> exact va_Nc.of (hg _ (by decide +kernel))
  · intro C hC
    simp only [cf_ao, List.mem_cons, List.not_mem_nil, or_false] at hC
    rcases hC with rfl | rfl | rfl | rfl | rfl <;> exact va_AO.of (hts _ (by decide +kernel))
  · intro q hq
    have : Cond.stringRef RX5 q.1 q.2 ∈ lw_tbl := (by decide +kernel : ∀ q ∈ cf_str, Cond.stringRef RX5 q.1 q.2 ∈ lw_tbl) q hq
    exact cf_vkR hKn5.2.1 (hts _ this)
  · intro q hq
    have : Cond.declares q ∈ lw_tbl := (by decide +kernel : ∀ q ∈ cf_dc, Cond.declares q ∈ lw_tbl) q hq
    exact va_Nw.of rfl (hts _ this)
