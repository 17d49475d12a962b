/-! ===== the worlds of this claim: cells by roles (a kind and a place), each role's content told by rows of numbers ===== -/
/-- a function of two places, changed at one -/
def cf_g2 {α : Type} (f : Nat → Nat → α) (k i : Nat) (v : α) : Nat → Nat → α := fun a b => if a = k ∧ b = i then v else f a b
theorem cf_g2s {α : Type} {f : Nat → Nat → α} {k i : Nat} {v : α} : cf_g2 f k i v k i = v := by simp [cf_g2]
theorem cf_g2n {α : Type} {f : Nat → Nat → α} {k i a b : Nat} {v : α} (h : ¬ (a = k ∧ b = i)) : cf_g2 f k i v a b = f a b := if_neg h
abbrev cf_T : Type := Nat → Nat → Option va_E
abbrev cf_Ad : Type := Nat → Nat → Nat
/-- the heap holds E's cells at the addresses ad, all of them at z or above, no two at one address -/
def cf_W (D : va_G) (z : Nat) (E : cf_T) (ad : cf_Ad) (H : Heap) : Prop :=
  z ≤ H.size ∧ (∀ (k i : Nat) (e : va_E), E k i = some e → va_at D vwCl (ad k i, e) H ∧ z ≤ ad k i) ∧
  ∀ (k i k2 i2 : Nat) (e e2 : va_E), E k i = some e → E k2 i2 = some e2 → ad k i = ad k2 i2 → k = k2 ∧ i = i2
section
variable {D : va_G} {z : Nat} {E : cf_T} {ad : cf_Ad} {H H1 : Heap}
theorem cf_W.lt (h : cf_W D z E ad H) {k i : Nat} {e : va_E} (he : E k i = some e) : ad k i < H.size := (h.2.1 k i e he).1.lt
theorem cf_W.ge (h : cf_W D z E ad H) {k i : Nat} {e : va_E} (he : E k i = some e) : z ≤ ad k i := (h.2.1 k i e he).2
theorem cf_W.at (h : cf_W D z E ad H) {k i : Nat} {e : va_E} (he : E k i = some e) : va_at D vwCl (ad k i, e) H := (h.2.1 k i e he).1
theorem cf_W.p1 (h : cf_W D z E ad H) {k i : Nat} {e : va_E} (he : E k i = some e) : va_P D vwCl [(ad k i, e)] H := by
  intro j q hq
  have hj : j < 1 := (List.getElem?_eq_some_iff.mp hq).1
  rw [show j = 0 by omega] at hq
  cases hq
  exact h.at he
theorem cf_W.kept (h : cf_W D z E ad H) (hz : H.size ≤ H1.size) (hq : ∀ q : Nat, q < H.size → H1[q]? = H[q]?) : cf_W D z E ad H1 :=
  ⟨Nat.le_trans h.1 hz, fun k i e he => ⟨(h.at he).kept (hq _ (h.lt he)), h.ge he⟩, h.2.2⟩
theorem cf_W.put (h : cf_W D z E ad H) {k i : Nat} {e0 e : va_E} (he : E k i = some e0) (h1 : va_at D vwCl (ad k i, e) H1) (hs : H1.size = H.size) (oq : ∀ q : Nat, q ≠ ad k i → H1[q]? = H[q]?) : cf_W D z (cf_g2 E k i (some e)) ad H1 := by
  have key : ∀ (a b : Nat) (x : va_E), cf_g2 E k i (some e) a b = some x → (a = k ∧ b = i ∧ x = e) ∨ (¬ (a = k ∧ b = i) ∧ E a b = some x) := by
    intro a b x hx
    by_cases hab : a = k ∧ b = i
    · obtain ⟨rfl, rfl⟩ := hab
      rw [cf_g2s] at hx
      exact Or.inl ⟨rfl, rfl, (Option.some.inj hx).symm⟩
    · rw [cf_g2n hab] at hx
      exact Or.inr ⟨hab, hx⟩
  refine ⟨by rw [hs]; exact h.1, fun a b x hx => ?_, fun a b a2 b2 x x2 hx hx2 hq => ?_⟩
  · rcases key a b x hx with ⟨rfl, rfl, rfl⟩ | ⟨hab, hx⟩
    · exact ⟨h1, h.ge he⟩
    · exact ⟨(h.at hx).kept (oq _ (fun q => hab (h.2.2 a b k i x e0 hx he q))), h.ge hx⟩
  · have l1 : ∃ y, E a b = some y := by
      rcases key a b x hx with ⟨rfl, rfl, rfl⟩ | ⟨-, hx⟩
      · exact ⟨e0, he⟩
      · exact ⟨x, hx⟩
    have l2 : ∃ y, E a2 b2 = some y := by
      rcases key a2 b2 x2 hx2 with ⟨rfl, rfl, rfl⟩ | ⟨-, hx⟩
      · exact ⟨e0, he⟩
      · exact ⟨x2, hx⟩
    obtain ⟨y, hy⟩ := l1
    obtain ⟨y2, hy2⟩ := l2
    exact h.2.2 a b a2 b2 y y2 hy hy2 hq
theorem cf_W.new (h : cf_W D z E ad H) {k i : Nat} {e : va_E} (he : E k i = none) (h1 : va_at D vwCl (H.size, e) H1) (hs : H.size ≤ H1.size) (oq : ∀ q : Nat, q < H.size → H1[q]? = H[q]?) : cf_W D z (cf_g2 E k i (some e)) (cf_g2 ad k i H.size) H1 := by
  have key : ∀ (a b : Nat) (x : va_E), cf_g2 E k i (some e) a b = some x → (a = k ∧ b = i ∧ x = e ∧ cf_g2 ad k i H.size a b = H.size) ∨ (¬ (a = k ∧ b = i) ∧ E a b = some x ∧ cf_g2 ad k i H.size a b = ad a b ∧ ad a b < H.size) := by
    intro a b x hx
    by_cases hab : a = k ∧ b = i
    · obtain ⟨rfl, rfl⟩ := hab
      rw [cf_g2s] at hx
      exact Or.inl ⟨rfl, rfl, (Option.some.inj hx).symm, cf_g2s⟩
    · rw [cf_g2n hab] at hx
      exact Or.inr ⟨hab, hx, cf_g2n hab, h.lt hx⟩
  refine ⟨Nat.le_trans h.1 hs, fun a b x hx => ?_, fun a b a2 b2 x x2 hx hx2 hq => ?_⟩
  · rcases key a b x hx with ⟨rfl, rfl, rfl, ha⟩ | ⟨-, hx, ha, hl⟩
    · rw [ha]; exact ⟨h1, h.1⟩
    · rw [ha]; exact ⟨(h.at hx).kept (oq _ hl), h.ge hx⟩
  · rcases key a b x hx with ⟨rfl, rfl, -, ha⟩ | ⟨-, hx, ha, hl⟩ <;> rcases key a2 b2 x2 hx2 with ⟨rfl, rfl, -, ha2⟩ | ⟨-, hx2, ha2, hl2⟩
    · exact ⟨rfl, rfl⟩
    · rw [ha, ha2] at hq; omega
    · rw [ha, ha2] at hq; omega
    · rw [ha, ha2] at hq; exact h.2.2 a b a2 b2 x x2 hx hx2 hq
theorem cf_W.recv {s : State} {tys : List (ClassId × FieldType)} (h : cf_W D z E ad H) (hK : va_K D vwCl tys s) {k i ci : Nat} {fs : List Value} {q : vw_C} (he : E k i = some (.inr (ci, fs))) (hc : vwCl[ci]? = some q) : ∃ cell : Cell, H[ad k i]? = some cell ∧ cell.vm.isStatics = false ∧ s.vm.findClass q.1 = some cell.cls :=
  va_recv hK (h.p1 he) hc (q0 := 0) rfl
end
/-! rows -/
section
variable {p : Program} {l : Launch} {e : Env} {R : Room} {s : State} {m : MethodId} {args : Array Value} {below : List Frame} {meth : Method} {c : Code} {H : Heap} {locs : List Loc} {cells slots : Nat} {Q : State → Prop}
variable {cc : ByteArray} {pc : Nat} {ls : Array Slot} {rest : List Value} {D : va_G} {A : Nat → Prop} {tys : List (ClassId × FieldType)} {H0 : Heap} {z : Nat} {E : cf_T} {ad : cf_Ad}
theorem cf_get (hexec : p.tables.exec = Jvm.exec) (hb : c.code = cc) {own ref C : String} {T : u_T} {N ci index : Nat} {Ts : List Cond} (hts : ∀ w ∈ Ts, w.before args s = true) (hin : ∀ w ∈ u_ws C T N, w ∈ Ts) (hown : s.vm.findClass own = some m.cls) (hK : va_K D vwCl tys s) (hW : cf_W D z E ad H) {k i : Nat} {fs : List Value} (he : E k i = some (.inr (ci, fs))) (hc : vwCl[ci]? = some (C, T, N)) (j : Nat) (hj : j < N) (hlink : (Cond.fieldLink own index ref (T j).2.1 (T j).2.2.1).before args s = true) (hsame : ∀ x, s.fieldFound? (T j).1 (T j).2.1 (T j).2.2.1 = some x → s.fieldFound? ref (T j).2.1 (T j).2.2.1 = some x) {v : Value} (hv : fs[j]? = some v) (hdg : decode cc pc = .ok (.getfield index, 3))
    (kk : W p l e R s m args below meth c H locs cells slots Q (F0 m (pc + 3) ls (v :: rest))) : W p l e R s m args below meth c H locs cells slots Q (F0 m pc ls (.ref (ad k i) :: rest)) :=
  va_get hexec hb hts hin hown hK (hW.p1 he) 0 rfl hc j hj hlink hsame hv hdg kk
theorem cf_put (hexec : p.tables.exec = Jvm.exec) (hb : c.code = cc) {own ref C : String} {T : u_T} {N ci index : Nat} {Ts : List Cond} (hts : ∀ w ∈ Ts, w.before args s = true) (hin : ∀ w ∈ u_ws C T N, w ∈ Ts) (ty0 : Nat → FieldType) (hty : ∀ k, k < N → parseFieldDescriptor (T k).2.2.1 = some (ty0 k)) (hnm : ∀ a, a < N → ∀ b, b < N → a ≠ b → (T a).2.1 ≠ (T b).2.1) (hown : s.vm.findClass own = some m.cls) (hK : va_K D vwCl tys s) (hW : cf_W D z E ad H) (hS0 : va_S (fun q => z ≤ q) H0 H locs) {k i : Nat} {fs : List Value} (he : E k i = some (.inr (ci, fs))) (hc : vwCl[ci]? = some (C, T, N)) (j : Nat) (hj : j < N) (hlink : (Cond.fieldLink own index ref (T j).2.1 (T j).2.2.1).before args s = true) (hsame : ∀ x, s.fieldFound? (T j).1 (T j).2.1 (T j).2.2.1 = some x → s.fieldFound? ref (T j).2.1 (T j).2.2.1 = some x) (hfin : (T j).2.2.2 = false) {ty : FieldType} {v : Value} (hd : parseFieldDescriptor (T j).2.2.1 = some ty) (hn : narrow ty v = v) (hfit : fits ty v = true) (hl : j < fs.length)
    (hdg : decode cc pc = .ok (.putfield index, 3)) (kk : ∀ (H1 : Heap) (locs1 : List Loc), cf_W D z (cf_g2 E k i (some (.inr (ci, fs.set j v)))) ad H1 → va_S (fun q => z ≤ q) H0 H1 locs1 → W p l e R s m args below meth c H1 locs1 cells slots Q (F0 m (pc + 3) ls rest)) : W p l e R s m args below meth c H locs cells slots Q (F0 m pc ls (v :: .ref (ad k i) :: rest)) := by
  have hap := va_apart (own := own) hts hin ty0 hty hnm hK hc
  obtain ⟨r, h1, cell, q1, q2, q3, q4⟩ := hW.at he
  have hr : r = (C, T, N) := Option.some.inj (h1.symm.trans hc)
  subst hr
  obtain ⟨hS, hfc, kC, hkC, hkind⟩ := hK.1 ci _ hc
  obtain ⟨cf, kf, fi, f, hi, hsl⟩ := hS j hj
  have hlay := hts _ (hin _ (u_in_lay hj))
  unfold u_lay at hlay
  rw [if_neg (by rw [hfin]; decide)] at hlay
  have hst := (u_facts hfc hkC (u_lays hts hin hj) hi).1
  have h6 := u_store hfc hkC hkind hlay hi hd hn hfit
  refine W.putK hexec hb (f := f) ⟨hown, hlink, ⟨_, _, _, hsame _ hi⟩, hst⟩ (by rw [q2]; exact h6) q1 q3 (by rw [hsl]; exact k2_hasslot (q4 j hj)) rfl rfl hdg fun H' e1 e2 e3 => ?_
  rw [hsl] at e1 ⊢
  exact kk H' _ (hW.put he ⟨_, hc, t_OB.to (V := updV (vp_V fs) j v) ⟨_, e1, q2, q3, t_set q4 hap hj v⟩ (fun n _ => vp_updV_set hl v n)⟩ e2 e3) (hS0.put e2 e3 (hW.ge he))
theorem cf_iald (hexec : p.tables.exec = Jvm.exec) (hb : c.code = cc) (hK : va_K D vwCl tys s) (hW : cf_W D z E ad H) {k i : Nat} (t0 : Nat) {cA : ClassId} {n : Nat} {f : Nat → Int32} (he : E k i = some (.inl (cA, n, .inl f))) (ht : tys[t0]? = some (cA, .int)) {x : Int32} (hin : vp_in x n) (hdg : decode cc pc = .ok (.iaload, 1))
    (kk : W p l e R s m args below meth c H locs cells slots Q (F0 m (pc + 1) ls (.int (f x.toNatClampNeg) :: rest))) : W p l e R s m args below meth c H locs cells slots Q (F0 m pc ls (.int x :: .ref (ad k i) :: rest)) :=
  va_iald hexec hb hK (hW.p1 he) 0 t0 rfl ht hin hdg kk
theorem cf_zald (hexec : p.tables.exec = Jvm.exec) (hb : c.code = cc) (hK : va_K D vwCl tys s) (hW : cf_W D z E ad H) {k i : Nat} (t0 : Nat) {cA : ClassId} {n : Nat} {f : Nat → Int32} (he : E k i = some (.inl (cA, n, .inl f))) (ht : tys[t0]? = some (cA, .boolean)) {x : Int32} (hin : vp_in x n) (hdg : decode cc pc = .ok (.baload, 1))
    (kk : W p l e R s m args below meth c H locs cells slots Q (F0 m (pc + 1) ls (.int (f x.toNatClampNeg) :: rest))) : W p l e R s m args below meth c H locs cells slots Q (F0 m pc ls (.int x :: .ref (ad k i) :: rest)) :=
  va_zald hexec hb hK (hW.p1 he) 0 t0 rfl ht hin hdg kk
theorem cf_lald (hexec : p.tables.exec = Jvm.exec) (hb : c.code = cc) (hK : va_K D vwCl tys s) (hW : cf_W D z E ad H) {k i : Nat} (t0 : Nat) {cA : ClassId} {n : Nat} {f : Nat → Int64} (he : E k i = some (.inl (cA, n, .inr (.inl f)))) (ht : tys[t0]? = some (cA, .long)) {x : Int32} (hin : vp_in x n) (hdg : decode cc pc = .ok (.laload, 1))
    (kk : W p l e R s m args below meth c H locs cells slots Q (F0 m (pc + 1) ls (.long (f x.toNatClampNeg) :: rest))) : W p l e R s m args below meth c H locs cells slots Q (F0 m pc ls (.int x :: .ref (ad k i) :: rest)) :=
  va_lald hexec hb hK (hW.p1 he) 0 t0 rfl ht hin hdg kk
theorem cf_aald (hexec : p.tables.exec = Jvm.exec) (hb : c.code = cc) (hK : va_K D vwCl tys s) (hW : cf_W D z E ad H) {k i : Nat} (t0 : Nat) {cA : ClassId} {C : String} {n : Nat} {f : Nat → Option Nat} (he : E k i = some (.inl (cA, n, .inr (.inr (.inr (.inr f)))))) (ht : tys[t0]? = some (cA, .object C)) {x : Int32} (hin : vp_in x n) (hdg : decode cc pc = .ok (.aaload, 1))
    {v : Value} (hv : va_rf (f x.toNatClampNeg) = v) (kk : W p l e R s m args below meth c H locs cells slots Q (F0 m (pc + 1) ls (v :: rest))) : W p l e R s m args below meth c H locs cells slots Q (F0 m pc ls (.int x :: .ref (ad k i) :: rest)) := by
  subst hv
  exact va_aldq hexec hb hK (hW.p1 he) 0 t0 rfl ht hin hdg kk
theorem cf_alen (hexec : p.tables.exec = Jvm.exec) (hb : c.code = cc) (hK : va_K D vwCl tys s) (hW : cf_W D z E ad H) {k i : Nat} (t0 : Nat) {cA : ClassId} {x : vp_A} (he : E k i = some (.inl (cA, x))) {ty : FieldType} (ht : tys[t0]? = some (cA, ty)) {v : Int32} (hv : Int32.ofNat x.1 = v) (hdg : decode cc pc = .ok (.arraylength, 1))
    (kk : W p l e R s m args below meth c H locs cells slots Q (F0 m (pc + 1) ls (.int v :: rest))) : W p l e R s m args below meth c H locs cells slots Q (F0 m pc ls (.ref (ad k i) :: rest)) :=
  va_alen hexec hb hK (hW.p1 he) 0 t0 rfl ht hv hdg kk
theorem cf_iast (hexec : p.tables.exec = Jvm.exec) (hb : c.code = cc) (hK : va_K D vwCl tys s) (hW : cf_W D z E ad H) (hS : va_S (fun q => z ≤ q) H0 H locs) {k i : Nat} (t0 : Nat) {cA : ClassId} {n : Nat} {f : Nat → Int32} (he : E k i = some (.inl (cA, n, .inl f))) (ht : tys[t0]? = some (cA, .int)) {j x : Int32} (hin : vp_in j n) (hdg : decode cc pc = .ok (.iastore, 1))
    (kk : ∀ (H1 : Heap) (locs1 : List Loc), cf_W D z (cf_g2 E k i (some (.inl (cA, n, .inl (upd f j.toNatClampNeg x))))) ad H1 → va_S (fun q => z ≤ q) H0 H1 locs1 → W p l e R s m args below meth c H1 locs1 cells slots Q (F0 m (pc + 1) ls rest)) : W p l e R s m args below meth c H locs cells slots Q (F0 m pc ls (.int x :: .int j :: .ref (ad k i) :: rest)) := by
  refine W.iast hexec hb (hW.at he) ((hK.2 t0 _ ht).1 n (fun j => .int (f j))) (fun q => by cases q) (by show ¬ (j < 0 ∨ (arrV _ _ _).slots.size ≤ _); rw [arrV_size]; exact hin) rfl rfl hdg fun H1 e z oq => ?_
  refine kk H1 _ (hW.put he ?_ z oq) (hS.put z oq (hW.ge he))
  show H1[ad k i]? = some (vp_cell _ _)
  rw [e, vp_cell_i, vp_cell_i, arrV_store]
  congr 2
  funext q
  by_cases hq : q = j.toNatClampNeg
  · subst hq
    simp [updV, upd]
  · simp [updV, upd, hq]
theorem cf_zast (hexec : p.tables.exec = Jvm.exec) (hb : c.code = cc) (hK : va_K D vwCl tys s) (hW : cf_W D z E ad H) (hS : va_S (fun q => z ≤ q) H0 H locs) {k i : Nat} (t0 : Nat) {cA : ClassId} {n : Nat} {f : Nat → Int32} (he : E k i = some (.inl (cA, n, .inl f))) (ht : tys[t0]? = some (cA, .boolean)) {j x : Int32} (hin : vp_in j n) (hdg : decode cc pc = .ok (.bastore, 1))
    (kk : ∀ (H1 : Heap) (locs1 : List Loc), cf_W D z (cf_g2 E k i (some (.inl (cA, n, .inl (upd f j.toNatClampNeg (vp_nar .boolean x)))))) ad H1 → va_S (fun q => z ≤ q) H0 H1 locs1 → W p l e R s m args below meth c H1 locs1 cells slots Q (F0 m (pc + 1) ls rest)) : W p l e R s m args below meth c H locs cells slots Q (F0 m pc ls (.int x :: .int j :: .ref (ad k i) :: rest)) := by
  refine W.zast hexec hb (hW.at he) ((hK.2 t0 _ ht).1 n (fun j => .int (f j))) (fun q => by cases q) (by show ¬ (j < 0 ∨ (arrV _ _ _).slots.size ≤ _); rw [arrV_size]; exact hin) rfl rfl hdg fun H1 e z oq => ?_
  refine kk H1 _ (hW.put he ?_ z oq) (hS.put z oq (hW.ge he))
  show H1[ad k i]? = some (vp_cell _ _)
  rw [e, vp_cell_i, vp_cell_i, arrV_store]
  congr 2
  funext q
  by_cases hq : q = j.toNatClampNeg
  · subst hq
    simp [updV, upd, vp_nar]
    try rfl
  · simp [updV, upd, hq]
theorem cf_last (hexec : p.tables.exec = Jvm.exec) (hb : c.code = cc) (hK : va_K D vwCl tys s) (hW : cf_W D z E ad H) (hS : va_S (fun q => z ≤ q) H0 H locs) {k i : Nat} (t0 : Nat) {cA : ClassId} {n : Nat} {f : Nat → Int64} (he : E k i = some (.inl (cA, n, .inr (.inl f)))) (ht : tys[t0]? = some (cA, .long)) {j : Int32} {x : Int64} (hin : vp_in j n) (hdg : decode cc pc = .ok (.lastore, 1))
    (kk : ∀ (H1 : Heap) (locs1 : List Loc), cf_W D z (cf_g2 E k i (some (.inl (cA, n, .inr (.inl (vp_updL f j.toNatClampNeg x)))))) ad H1 → va_S (fun q => z ≤ q) H0 H1 locs1 → W p l e R s m args below meth c H1 locs1 cells slots Q (F0 m (pc + 1) ls rest)) : W p l e R s m args below meth c H locs cells slots Q (F0 m pc ls (.long x :: .int j :: .ref (ad k i) :: rest)) := by
  refine W.last hexec hb (hW.at he) ((hK.2 t0 _ ht).1 n (fun j => .long (f j))) (fun q => by cases q) (by show ¬ (j < 0 ∨ (arrV _ _ _).slots.size ≤ _); rw [arrV_size]; exact hin) rfl rfl hdg fun H1 e z oq => ?_
  refine kk H1 _ (hW.put he ?_ z oq) (hS.put z oq (hW.ge he))
  show H1[ad k i]? = some (vp_cell _ _)
  rw [e, vp_cell_l, vp_cell_l, arrV_store]
  congr 2
  funext q
  by_cases hq : q = j.toNatClampNeg
  · subst hq
    simp [updV, vp_updL]
  · simp [updV, vp_updL, hq]
theorem cf_aast (hexec : p.tables.exec = Jvm.exec) (hb : c.code = cc) (hK : va_K D vwCl tys s) (hW : cf_W D z E ad H) (hS : va_S (fun q => z ≤ q) H0 H locs) {k i k2 i2 : Nat} (t0 ci : Nat) {cA : ClassId} {r : vw_C} {n : Nat} {vs : List Value} {f : Nat → Option Nat} (he : E k i = some (.inl (cA, n, .inr (.inr (.inr (.inr f)))))) (ht : tys[t0]? = some (cA, .object r.1)) (hv : E k2 i2 = some (.inr (ci, vs))) (hc : vwCl[ci]? = some r) {j : Int32} (hin : vp_in j n) (hdg : decode cc pc = .ok (.aastore, 1))
    (kk : ∀ (H1 : Heap) (locs1 : List Loc), cf_W D z (cf_g2 E k i (some (.inl (cA, n, .inr (.inr (.inr (.inr (va_up f j.toNatClampNeg (some (ad k2 i2)))))))))) ad H1 → va_S (fun q => z ≤ q) H0 H1 locs1 → W p l e R s m args below meth c H1 locs1 cells slots Q (F0 m (pc + 1) ls rest)) : W p l e R s m args below meth c H locs cells slots Q (F0 m pc ls (.ref (ad k2 i2) :: .int j :: .ref (ad k i) :: rest)) := by
  have hlt : j.toNatClampNeg < n := Nat.not_le.mp fun q => hin (Or.inr q)
  have h0 : ¬ j < 0 := fun q => hin (Or.inl q)
  obtain ⟨r', hr', cellV, g1, g2, g3, -⟩ := hW.at hv
  have hcls := (hK.1 ci r hc).2
  obtain ⟨kA, comp, k1, k2, k3, -⟩ := (hK.2 t0 _ ht).2
  have hcomp : comp = D.1 ci := Option.some.inj (k3.symm.trans hcls.1)
  subst hcomp
  obtain ⟨kC, hkC, -⟩ := hcls.2
  refine W.aast hexec hb (hW.at he) (fun q h => by cases h) (fun h => by cases h) k1 k2 rfl hkC ⟨h0, by show _ < (arrV _ _ _).slots.size; rw [arrV_size]; exact hlt⟩ g1 (fun q h => by rw [g3] at h; cases h) (by rw [g2]; exact hkC) (by rw [g2]; exact va_assign hcls) rfl rfl hdg fun H1 e z oq => ?_
  refine kk H1 _ (hW.put he ?_ z oq) (hS.put z oq (hW.ge he))
  show H1[ad k i]? = some (vp_cell _ _)
  rw [e, vp_cell_q, vp_cell_q, arrV_store]
  congr 2
  funext q
  by_cases hq : q = j.toNatClampNeg
  · subst hq
    simp [updV, va_up, va_rf]
  · simp [updV, va_up, hq]
theorem cf_aastN (hexec : p.tables.exec = Jvm.exec) (hb : c.code = cc) (hK : va_K D vwCl tys s) (hW : cf_W D z E ad H) (hS : va_S (fun q => z ≤ q) H0 H locs) {k i : Nat} (t0 : Nat) {cA : ClassId} {C : String} {n : Nat} {f : Nat → Option Nat} (he : E k i = some (.inl (cA, n, .inr (.inr (.inr (.inr f)))))) (ht : tys[t0]? = some (cA, .object C)) {j : Int32} (hin : vp_in j n) (hdg : decode cc pc = .ok (.aastore, 1))
    (kk : ∀ (H1 : Heap) (locs1 : List Loc), cf_W D z (cf_g2 E k i (some (.inl (cA, n, .inr (.inr (.inr (.inr (va_up f j.toNatClampNeg none)))))))) ad H1 → va_S (fun q => z ≤ q) H0 H1 locs1 → W p l e R s m args below meth c H1 locs1 cells slots Q (F0 m (pc + 1) ls rest)) : W p l e R s m args below meth c H locs cells slots Q (F0 m pc ls (.null :: .int j :: .ref (ad k i) :: rest)) := by
  refine va_WaastN (C := C) hexec hb (hW.at he) ((hK.2 t0 _ ht).1 n (fun j => va_rf (f j))) (fun h => by cases h) (by show ¬ (j < 0 ∨ (arrV _ _ _).slots.size ≤ _); rw [arrV_size]; exact hin) rfl rfl hdg fun H1 e z oq => ?_
  refine kk H1 _ (hW.put he ?_ z oq) (hS.put z oq (hW.ge he))
  show H1[ad k i]? = some (vp_cell _ _)
  rw [e, vp_cell_q, vp_cell_q, arrV_store]
  congr 2
  funext q
  by_cases hq : q = j.toNatClampNeg
  · subst hq
    simp [updV, va_up, va_rf]
  · simp [updV, va_up, hq]
end
