/-! ===== ends of methods that throw: the world stays ===== -/
abbrev cf_nm : List String := ["java/lang/RuntimeException", "java/lang/Exception"]
/-- what a throwing end says: which exception, and the world as it was -/
abbrev cf_X (D : va_G) (z : Nat) (E : cf_T) (ad : cf_Ad) (px : String → Prop) : String → State → State → Prop := vx_X (fun _ : Unit => True) (fun e _ t => px e ∧ cf_W D z E ad t.heap) (fun q => z ≤ q)
def cf_ng (x : String) : List Cond := Cond.castable x x :: cf_dc.map Cond.declares
theorem cf_ng_iob : ∀ w ∈ (vx_atS RX5 215 cf_iob cf_nm).filter (fun w => !goodWord w), w ∈ cf_ng cf_iob := by decide +kernel
theorem cf_ng_iae : ∀ w ∈ (vx_atS RX5 122 cf_iae cf_nm).filter (fun w => !goodWord w), w ∈ cf_ng cf_iae := by decide +kernel
theorem cf_ng_ise : ∀ w ∈ (vx_atS RX5 87 cf_ise cf_nm).filter (fun w => !goodWord w), w ∈ cf_ng cf_ise := by decide +kernel
theorem cf_gd_iob : ∀ w ∈ Cond.classLink RX5 211 cf_iob :: Cond.initialized cf_iob :: vx_atS RX5 215 cf_iob cf_nm, vx_ot w = true := by decide +kernel
theorem cf_gd_iae : ∀ w ∈ Cond.classLink RX5 118 cf_iae :: Cond.initialized cf_iae :: vx_atS RX5 122 cf_iae cf_nm, vx_ot w = true := by decide +kernel
theorem cf_gd_ise : ∀ w ∈ Cond.classLink RX5 83 cf_ise :: Cond.initialized cf_ise :: vx_atS RX5 87 cf_ise cf_nm, vx_ot w = true := by decide +kernel
theorem cf_fit_nm : ∀ n ∈ cf_nm, Bundle.fit n = true := by decide +kernel
section
variable {p : Program} {l : Launch} {e : Env} {R : Room} {s : State} {m : MethodId} {args : Array Value} {below : List Frame} {meth : Method} {c : Code} {H : Heap} {locs : List Loc} {cells slots : Nat}
variable {cc : ByteArray} {pc : Nat} {ls : Array Slot} {rest : List Value} {D : va_G} {cT : Nat → ClassId} {z : Nat} {E : cf_T} {ad : cf_Ad}
theorem cf_throw {cls text : String} {ik is ic mc ms : Nat} {px : String → Prop} {Qc : Array Value → State → Outcome → State → Prop} (hexec : p.tables.exec = Jvm.exec) (hb : c.code = cc) (hl : l.stackTraces = false) (hown : s.vm.findClass RX5 = some m.cls) (hcls : Bundle.fit cls = true)
    (hk : (Cond.classLink RX5 ik cls).before args s = true) (hini : (Cond.initialized cls).before args s = true) (hstr : (is, text) ∈ cf_str) (hca : (cls, cls) ∈ cf_ca)
    (hat : ∀ w ∈ (vx_atS RX5 ic cls cf_nm).filter goodWord, w.before args s = true) (hng : ∀ w ∈ (vx_atS RX5 ic cls cf_nm).filter (fun w => !goodWord w), w ∈ cf_ng cls) (hgd : ∀ w ∈ Cond.classLink RX5 ik cls :: Cond.initialized cls :: vx_atS RX5 ic cls cf_nm, vx_ot w = true)
    (hT : cf_Tb D cT z s s.heap) (hW : cf_W D z E ad H) (hS : va_S (fun q => z ≤ q) s.heap H locs) (hsize : ls.size = c.maxLocals)
    (d0 : decode cc pc = .ok (.new ik, 3)) (d3 : decode cc (pc + 3) = .ok (.dup, 1)) (d4 : decode cc (pc + 4) = .ok (.ldc is, 2)) (d6 : decode cc (pc + 6) = .ok (.invokespecial ic, 3)) (d9 : decode cc (pc + 9) = .ok (.athrow, 1))
    (htab : ∀ x ∈ c.exceptionTable.toList, False) (hR : 6 ≤ R.frames ∧ (rest.map fun v => v.category).sum + 82 ≤ R.locals ∧ cells + 1 ≤ R.cells ∧ slots + 6 ≤ R.slots) (hlocks : meth.locks = false)
    (hpx : px cls) (hcs : cells + 1 ≤ mc ∧ slots + 6 ≤ ms) :
    W p l e R s m args below meth c H locs cells slots (vx_MQ below Qc (cf_X D z E ad px) args s mc ms (fun q => z ≤ q)) (F0 m pc ls rest) := by
  obtain ⟨sa, ha⟩ := hT.2.2.2.2.2.2.1 _ hstr
  exact vx_throwS (names := cf_nm) (A := fun q => z ≤ q) hexec hb hl hown hcls cf_fit_nm hk hini ha (vx_hat hat hng (vx_c (va_Nw.use rfl (hT.2.2.1 _ hca)) (fun w hw => by
    obtain ⟨q, hq, rfl⟩ := List.mem_map.mp hw
    exact va_Nw.use rfl (hT.2.2.2.2.2.2.2 _ hq)))) hgd hT.2.1.1 hT.2.1.2 hS hsize d0 d3 d4 d6 d9 (fun x h => (htab x h).elim) hR.1 hR.2.1 hR.2.2.1 hR.2.2.2 hlocks
    (fun t _ hz hq => ⟨(), trivial, ⟨hpx, hW.kept hz hq⟩, Nat.le_trans hS.1 hz, fun q h1 h2 => (hq q (Nat.lt_of_lt_of_le h1 hS.1)).trans (hS.2.1 q h1 h2)⟩) hS.2.2 hcs.1 hcs.2
/-- a callee's exception goes on to the caller's caller -/
theorem cf_pass {E9 : String} {ce : Cell} {q : Addr} {mc ms : Nat} {px : String → Prop} {Qc : Array Value → State → Outcome → State → Prop} (htab : ∀ x ∈ c.exceptionTable.toList, False) (hlocks : meth.locks = false) (hce : H[q]? = some ce) (hcv : ce.vm = .none) (hcl : s.vm.findClass E9 = some ce.cls)
    (hS : va_S (fun q => z ≤ q) s.heap H locs) (hW : cf_W D z E ad H) (hpx : px E9) (hcs : cells ≤ mc ∧ slots ≤ ms) :
    vx_W p l e R s m args below meth c H locs cells slots (vx_MQ below Qc (cf_X D z E ad px) args s mc ms (fun q => z ≤ q)) (F0 m pc ls rest) q :=
  vx_out (fun x h => (htab x h).elim) hlocks hce hcv hcl (fun t ht _ => ⟨(), trivial, ⟨hpx, by rw [ht]; exact hW⟩, hS.F ht⟩) hS.2.2 hcs.1 hcs.2
end
/-! rows with a counted index -/
section
variable {p : Program} {l : Launch} {e : Env} {R : Room} {s : State} {m : MethodId} {args : Array Value} {below : List Frame} {meth : Method} {c : Code} {H : Heap} {locs : List Loc} {cells slots : Nat} {Q : State → Prop}
variable {cc : ByteArray} {pc : Nat} {ls : Array Slot} {rest : List Value} {D : va_G} {A : Nat → Prop} {tys : List (ClassId × FieldType)} {H0 : Heap} {z : Nat} {E : cf_T} {ad : cf_Ad}
theorem cf_ildN (hexec : p.tables.exec = Jvm.exec) (hb : c.code = cc) (hK : va_K D vwCl tys s) (hW : cf_W D z E ad H) {k i : Nat} (t0 : Nat) {cA : ClassId} {n : Nat} {f : Nat → Int32} (he : E k i = some (.inl (cA, n, .inl f))) (ht : tys[t0]? = some (cA, .int)) {x : Int32} (j : Nat) (hx : x = nI j) (hj : j < n) (hn : n < 2 ^ 31) (hdg : decode cc pc = .ok (.iaload, 1))
    {v : Int32} (hv : f j = v) (kk : W p l e R s m args below meth c H locs cells slots Q (F0 m (pc + 1) ls (.int v :: rest))) : W p l e R s m args below meth c H locs cells slots Q (F0 m pc ls (.int x :: .ref (ad k i) :: rest)) := by
  subst hx
  refine cf_iald hexec hb hK hW t0 he ht (vp_in_nI hj hn) hdg ?_
  rw [nI_clamp (Nat.lt_trans hj hn), hv]
  exact kk
theorem cf_zldN (hexec : p.tables.exec = Jvm.exec) (hb : c.code = cc) (hK : va_K D vwCl tys s) (hW : cf_W D z E ad H) {k i : Nat} (t0 : Nat) {cA : ClassId} {n : Nat} {f : Nat → Int32} (he : E k i = some (.inl (cA, n, .inl f))) (ht : tys[t0]? = some (cA, .boolean)) {x : Int32} (j : Nat) (hx : x = nI j) (hj : j < n) (hn : n < 2 ^ 31) (hdg : decode cc pc = .ok (.baload, 1))
    {v : Int32} (hv : f j = v) (kk : W p l e R s m args below meth c H locs cells slots Q (F0 m (pc + 1) ls (.int v :: rest))) : W p l e R s m args below meth c H locs cells slots Q (F0 m pc ls (.int x :: .ref (ad k i) :: rest)) := by
  subst hx
  refine cf_zald hexec hb hK hW t0 he ht (vp_in_nI hj hn) hdg ?_
  rw [nI_clamp (Nat.lt_trans hj hn), hv]
  exact kk
theorem cf_aldN (hexec : p.tables.exec = Jvm.exec) (hb : c.code = cc) (hK : va_K D vwCl tys s) (hW : cf_W D z E ad H) {k i : Nat} (t0 : Nat) {cA : ClassId} {C : String} {n : Nat} {f : Nat → Option Nat} (he : E k i = some (.inl (cA, n, .inr (.inr (.inr (.inr f)))))) (ht : tys[t0]? = some (cA, .object C)) {x : Int32} (j : Nat) (hx : x = nI j) (hj : j < n) (hn : n < 2 ^ 31) (hdg : decode cc pc = .ok (.aaload, 1))
    {v : Value} (hv : va_rf (f j) = v) (kk : W p l e R s m args below meth c H locs cells slots Q (F0 m (pc + 1) ls (v :: rest))) : W p l e R s m args below meth c H locs cells slots Q (F0 m pc ls (.int x :: .ref (ad k i) :: rest)) := by
  subst hx
  exact cf_aald hexec hb hK hW t0 he ht (vp_in_nI hj hn) hdg (by rw [nI_clamp (Nat.lt_trans hj hn)]; exact hv) kk
theorem cf_istN (hexec : p.tables.exec = Jvm.exec) (hb : c.code = cc) (hK : va_K D vwCl tys s) (hW : cf_W D z E ad H) (hS : va_S (fun q => z ≤ q) H0 H locs) {k i : Nat} (t0 : Nat) {cA : ClassId} {n : Nat} {f : Nat → Int32} (he : E k i = some (.inl (cA, n, .inl f))) (ht : tys[t0]? = some (cA, .int)) {y x : Int32} (j : Nat) (hx : y = nI j) (hj : j < n) (hn : n < 2 ^ 31) (hdg : decode cc pc = .ok (.iastore, 1)) {E2 : cf_T} (hE : cf_g2 E k i (some (.inl (cA, n, .inl (upd f j x)))) = E2)
    (kk : ∀ (H1 : Heap) (locs1 : List Loc), cf_W D z E2 ad H1 → va_S (fun q => z ≤ q) H0 H1 locs1 → W p l e R s m args below meth c H1 locs1 cells slots Q (F0 m (pc + 1) ls rest)) : W p l e R s m args below meth c H locs cells slots Q (F0 m pc ls (.int x :: .int y :: .ref (ad k i) :: rest)) := by
  subst hx; subst hE
  refine cf_iast hexec hb hK hW hS t0 he ht (vp_in_nI hj hn) hdg (fun H1 locs1 h1 h2 => kk H1 locs1 ?_ h2)
  rw [nI_clamp (Nat.lt_trans hj hn)] at h1
  exact h1
theorem cf_zstN (hexec : p.tables.exec = Jvm.exec) (hb : c.code = cc) (hK : va_K D vwCl tys s) (hW : cf_W D z E ad H) (hS : va_S (fun q => z ≤ q) H0 H locs) {k i : Nat} (t0 : Nat) {cA : ClassId} {n : Nat} {f : Nat → Int32} (he : E k i = some (.inl (cA, n, .inl f))) (ht : tys[t0]? = some (cA, .boolean)) {y x : Int32} (j : Nat) (hx : y = nI j) (hj : j < n) (hn : n < 2 ^ 31) (hdg : decode cc pc = .ok (.bastore, 1)) {v : Int32} (hv : vp_nar .boolean x = v) {E2 : cf_T} (hE : cf_g2 E k i (some (.inl (cA, n, .inl (upd f j v)))) = E2)
    (kk : ∀ (H1 : Heap) (locs1 : List Loc), cf_W D z E2 ad H1 → va_S (fun q => z ≤ q) H0 H1 locs1 → W p l e R s m args below meth c H1 locs1 cells slots Q (F0 m (pc + 1) ls rest)) : W p l e R s m args below meth c H locs cells slots Q (F0 m pc ls (.int x :: .int y :: .ref (ad k i) :: rest)) := by
  subst hx; subst hE; subst hv
  refine cf_zast hexec hb hK hW hS t0 he ht (vp_in_nI hj hn) hdg (fun H1 locs1 h1 h2 => kk H1 locs1 ?_ h2)
  rw [nI_clamp (Nat.lt_trans hj hn)] at h1
  exact h1
theorem cf_astN (hexec : p.tables.exec = Jvm.exec) (hb : c.code = cc) (hK : va_K D vwCl tys s) (hW : cf_W D z E ad H) (hS : va_S (fun q => z ≤ q) H0 H locs) {k i k2 i2 : Nat} (t0 ci : Nat) {cA : ClassId} {r : vw_C} {n : Nat} {vs : List Value} {f : Nat → Option Nat} (he : E k i = some (.inl (cA, n, .inr (.inr (.inr (.inr f)))))) (ht : tys[t0]? = some (cA, .object r.1)) (hv : E k2 i2 = some (.inr (ci, vs))) (hc : vwCl[ci]? = some r) {y : Int32} (j : Nat) (hx : y = nI j) (hj : j < n) (hn : n < 2 ^ 31) (hdg : decode cc pc = .ok (.aastore, 1)) {E2 : cf_T} (hE : cf_g2 E k i (some (.inl (cA, n, .inr (.inr (.inr (.inr (va_up f j (some (ad k2 i2))))))))) = E2)
    (kk : ∀ (H1 : Heap) (locs1 : List Loc), cf_W D z E2 ad H1 → va_S (fun q => z ≤ q) H0 H1 locs1 → W p l e R s m args below meth c H1 locs1 cells slots Q (F0 m (pc + 1) ls rest)) : W p l e R s m args below meth c H locs cells slots Q (F0 m pc ls (.ref (ad k2 i2) :: .int y :: .ref (ad k i) :: rest)) := by
  subst hx; subst hE
  refine cf_aast hexec hb hK hW hS t0 ci he ht hv hc (vp_in_nI hj hn) hdg (fun H1 locs1 h1 h2 => kk H1 locs1 ?_ h2)
  rw [nI_clamp (Nat.lt_trans hj hn)] at h1
  exact h1
theorem cf_astNN (hexec : p.tables.exec = Jvm.exec) (hb : c.code = cc) (hK : va_K D vwCl tys s) (hW : cf_W D z E ad H) (hS : va_S (fun q => z ≤ q) H0 H locs) {k i : Nat} (t0 : Nat) {cA : ClassId} {C : String} {n : Nat} {f : Nat → Option Nat} (he : E k i = some (.inl (cA, n, .inr (.inr (.inr (.inr f)))))) (ht : tys[t0]? = some (cA, .object C)) {y : Int32} (j : Nat) (hx : y = nI j) (hj : j < n) (hn : n < 2 ^ 31) (hdg : decode cc pc = .ok (.aastore, 1)) {E2 : cf_T} (hE : cf_g2 E k i (some (.inl (cA, n, .inr (.inr (.inr (.inr (va_up f j none))))))) = E2)
    (kk : ∀ (H1 : Heap) (locs1 : List Loc), cf_W D z E2 ad H1 → va_S (fun q => z ≤ q) H0 H1 locs1 → W p l e R s m args below meth c H1 locs1 cells slots Q (F0 m (pc + 1) ls rest)) : W p l e R s m args below meth c H locs cells slots Q (F0 m pc ls (.null :: .int y :: .ref (ad k i) :: rest)) := by
  subst hx; subst hE
  refine cf_aastN hexec hb hK hW hS t0 he ht (vp_in_nI hj hn) hdg (fun H1 locs1 h1 h2 => kk H1 locs1 ?_ h2)
  rw [nI_clamp (Nat.lt_trans hj hn)] at h1
  exact h1
theorem cf_putE (hexec : p.tables.exec = Jvm.exec) (hb : c.code = cc) {own ref C : String} {T : u_T} {N ci index : Nat} {Ts : List Cond} (hts : ∀ w ∈ Ts, w.before args s = true) (hin : ∀ w ∈ u_ws C T N, w ∈ Ts) (ty0 : Nat → FieldType) (hty : ∀ k, k < N → parseFieldDescriptor (T k).2.2.1 = some (ty0 k)) (hnm : ∀ a, a < N → ∀ b, b < N → a ≠ b → (T a).2.1 ≠ (T b).2.1) (hown : s.vm.findClass own = some m.cls) (hK : va_K D vwCl tys s) (hW : cf_W D z E ad H) (hS0 : va_S (fun q => z ≤ q) H0 H locs) {k i : Nat} {fs : List Value} (he : E k i = some (.inr (ci, fs))) (hc : vwCl[ci]? = some (C, T, N)) (j : Nat) (hj : j < N) (hlink : (Cond.fieldLink own index ref (T j).2.1 (T j).2.2.1).before args s = true) (hsame : ∀ x, s.fieldFound? (T j).1 (T j).2.1 (T j).2.2.1 = some x → s.fieldFound? ref (T j).2.1 (T j).2.2.1 = some x) (hfin : (T j).2.2.2 = false) {ty : FieldType} {v : Value} (hd : parseFieldDescriptor (T j).2.2.1 = some ty) (hn : narrow ty v = v) (hfit : fits ty v = true) (hl : j < fs.length)
    (hdg : decode cc pc = .ok (.putfield index, 3)) {E2 : cf_T} (hE : cf_g2 E k i (some (.inr (ci, fs.set j v))) = E2) (kk : ∀ (H1 : Heap) (locs1 : List Loc), cf_W D z E2 ad H1 → va_S (fun q => z ≤ q) H0 H1 locs1 → W p l e R s m args below meth c H1 locs1 cells slots Q (F0 m (pc + 3) ls rest)) : W p l e R s m args below meth c H locs cells slots Q (F0 m pc ls (v :: .ref (ad k i) :: rest)) := by
  subst hE
  exact cf_put hexec hb hts hin ty0 hty hnm hown hK hW hS0 he hc j hj hlink hsame hfin hd hn hfit hl hdg kk
end
/-! loops: a counter from i up to N -/
theorem cf_loop {α : Type} (G : Nat → α → Prop) (I : Nat → α → Prop) (N : Nat) (hx : ∀ a, I N a → G N a) (hs : ∀ i a, i < N → I i a → (∀ b, I (i + 1) b → G (i + 1) b) → G i a) : ∀ (i : Nat) (a : α), i ≤ N → I i a → G i a := by
  have key : ∀ (n i : Nat) (a : α), i ≤ N → N - i ≤ n → I i a → G i a := by
    intro n
    induction n with
    | zero =>
      intro i a h1 h2 h3
      have : i = N := by omega
      subst this
      exact hx a h3
    | succ n ih =>
      intro i a h1 h2 h3
      by_cases h : i = N
      · subst h; exact hx a h3
      · exact hs i a (by omega) h3 (fun b hb => ih (i + 1) b (by omega) (by omega) hb)
  exact fun i a h1 h2 => key (N - i) i a h1 (Nat.le_refl _) h2
theorem cf_W.re {D : va_G} {z : Nat} {E : cf_T} {ad : cf_Ad} {H : Heap} {t : State} (ht : t.heap = H) (h : cf_W D z E ad H) : cf_W D z E ad t.heap := ht ▸ h
theorem cf_W.er {D : va_G} {z : Nat} {E : cf_T} {ad : cf_Ad} {H : Heap} {t : State} (ht : t.heap = H) (h : cf_W D z E ad t.heap) : cf_W D z E ad H := ht ▸ h
/-! ===== BEGIN .. of methods that hand back an object of the pool ===== -/
section
variable {p : Program} {l : Launch} {e : Env} {R : Room} {s : State} {m : MethodId} {args : Array Value} {below : List Frame} {meth : Method} {c : Code} {H : Heap} {locs : List Loc} {cells slots : Nat} {Q : State → Prop}
variable {mc ms : Nat} {free : Addr → Prop} {A0 A1 : Nat → Prop} {H0 : Heap} {a : Array Value} {pc : Nat} {ls : Array Slot} {st0 rest : List Value}
theorem vx_callq {S SX : Type} {post : Option Nat → S → Prop} {px : SX → Prop} {B : S → State → Prop} {BX : String → SX → State → Prop} {AX : Nat → Prop} (hr : vx_Run p l e R s m args below meth c H locs cells slots mc ms (F0 m pc ls st0) rest (va_Qq post B A1 a) (vx_X px BX AX) free) (hS : va_S A0 H0 H locs) (hA : ∀ q, q < H.size → A1 q → A0 q) (hf : ∀ q, free q → A0 q) (hAX : ∀ q, q < H.size → AX q → A0 q)
    (kx : ∀ (E : String) (ce : Cell) (q9 : Addr) (u : SX) (t : State) (H1 : Heap) (locs1 : List Loc), t.heap = H1 → s.vm.Alike t.vm → px u → BX E u t → H.size ≤ H1.size → (∀ q : Nat, q < H.size → ¬ AX q → H1[q]? = H[q]?) → va_S A0 H0 H1 locs1 → H1[q9]? = some ce → ce.vm = .none → s.vm.findClass E = some ce.cls → vx_W p l e R s m args below meth c H1 locs1 (cells + mc) (slots + ms) Q (F0 m pc ls rest) q9)
    (kk : ∀ (r : Option Nat) (u : S) (t : State) (H1 : Heap) (locs1 : List Loc), t.heap = H1 → s.vm.Alike t.vm → post r u → B u t → H.size ≤ H1.size → (∀ q : Nat, q < H.size → ¬ A1 q → H1[q]? = H[q]?) → va_S A0 H0 H1 locs1 → W p l e R s m args below meth c H1 locs1 (cells + mc) (slots + ms) Q (F0 m (pc + 3) ls (va_rf r :: rest))) : W p l e R s m args below meth c H locs cells slots Q (F0 m pc ls st0) := by
  intro T hT X
  rcases hr T hT X with ⟨v, st₀, t, T', L, h0, X', hL, e1, e2, ⟨⟨r, u, hv, hp, hb⟩, hF⟩, st⟩ | ⟨q, st₀, t, T', L, E, ce, h0, X', hL, e1, e2, ⟨u, hp, hb, hF⟩, hce, hcv, hcl, st⟩
  · cases hv
    obtain ⟨k1, k2, k3⟩ := vx_keep h0 e1 hS hA hf hL hF
    obtain ⟨t2, a1, b1⟩ := kk r u t T'.heap (locs ++ L) e1.symm (by rw [← e2]; exact X'.warmed.alike) hp hb k1 k2 k3 T' rfl X'
    exact ⟨t2, st t2 a1, b1⟩
  · obtain ⟨k1, k2, k3⟩ := vx_keep h0 e1 hS hAX hf hL hF
    obtain ⟨t2, a1, b1⟩ := kx E ce q u t T'.heap (locs ++ L) e1.symm (by rw [← e2]; exact X'.warmed.alike) hp hb k1 k2 k3 (by rw [e1]; exact hce) hcv hcl T' rfl X'
    exact ⟨t2, st.trans a1, b1⟩
end
/-! ===== END ===== -/
