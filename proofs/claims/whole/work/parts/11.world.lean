/-! ===== what the tables say, as it stays through a run: classes, arrays' classes, the two statics of Throwable, castables, links of nest mates, texts ===== -/
abbrev cf_iob : String := "java/lang/IndexOutOfBoundsException"
abbrev cf_iae : String := "java/lang/IllegalArgumentException"
abbrev cf_ise : String := "java/lang/IllegalStateException"
def cf_ca : List (String × String) := [(cf_iob, cf_iob), (cf_iae, cf_iae), (cf_ise, cf_ise), ("[I", "java/lang/Cloneable")]
def cf_ln : List (String × Nat × MethodName × String) := [(RX5, 52, yX1_init, RX5), (RX5, 56, yX4_init, RX5), (RX0, 39, yX5_worthOfPart, RX5)]
def cf_nc : List (String × String) := [(cf_iae, cf_iob), (cf_ise, cf_iob), (cf_iob, cf_iae), (cf_ise, cf_iae), (cf_iob, cf_ise), (cf_iae, cf_ise)]
def cf_dc : List MethodName := [Bundle.initS "java/lang/RuntimeException", Bundle.initS "java/lang/Exception", Bundle.initS Bundle.tN]
theorem cf_warmD {x : MethodName} {s U : State} (hW : s.WarmedH U.vm) (hZ : va_Nw (.declares x) s) : va_Nw (.declares x) U := va_tabs rfl (rfl : (s.setVm U.vm).vm = U.vm) (by rw [Cond.declares_setVm hW.alike]; exact hZ)
def cf_ao : List String := [RX1, RX3, RX4, RX0, RX2]
def cf_str : List (Nat × String) := [(218, "there is no such number"), (220, "an argument is out of range"), (85, "a group is at the table"), (97, "there can be no more copies"), (213, "there is no such copy"), (112, "the parts of the copy cannot change so"), (120, "a copy is filled from another one of its game"), (123, "a copy is not on the shelf"), (133, "the game is not for so many people"), (147, "the group cannot be seated"), (216, "there is no such group"), (170, "no table can be had"), (182, "the minute would be above the last one"), (184, "the copy cannot be lent to the borrower"), (190, "there is no such copy to come back")]
abbrev cf_tys (cT : Nat → ClassId) : List (ClassId × FieldType) := [(cT 0, .int), (cT 1, .boolean), (cT 2, .long), (cT 3, .object RX1), (cT 4, .object RX3), (cT 5, .object RX4), (cT 6, .object RX0), (cT 7, .object RX2)]
abbrev cf_U (z : Nat) (U : State) (H : Heap) : Prop := vx_Zq Bundle.tN "UNASSIGNED_STACK" Bundle.steD (fun q => z ≤ q) U H ∧ vx_Zq Bundle.tN "SUPPRESSED_SENTINEL" Bundle.listD (fun q => z ≤ q) U H
def cf_Tb (D : va_G) (cT : Nat → ClassId) (z : Nat) (U : State) (H : Heap) : Prop :=
  va_K D vwCl (cf_tys cT) U ∧ cf_U z U H ∧ (∀ q ∈ cf_ca, va_Nw (.castable q.1 q.2) U) ∧ (∀ q ∈ cf_ln, va_Nw (.methodLinkNest q.1 q.2.1 q.2.2.1 q.2.2.2) U) ∧ (∀ q ∈ cf_nc, va_Nc q.1 q.2 U) ∧ (∀ C ∈ cf_ao, va_AO C U) ∧ (∀ q ∈ cf_str, ∃ a : Nat, vk_R RX5 q.1 q.2 a U) ∧ ∀ q ∈ cf_dc, va_Nw (.declares q) U
theorem cf_Tb.warm {D : va_G} {cT : Nat → ClassId} {z : Nat} {s U : State} {H : Heap} (hW : s.WarmedH U.vm) (h : cf_Tb D cT z s H) : cf_Tb D cT z U H := by
  obtain ⟨h1, ⟨h2, h3⟩, h4, h5, h6, h7, h8, h9⟩ := h
  refine ⟨va_K.moved hW.alike h1, ⟨h2.moved hW.alike, h3.moved hW.alike⟩, fun q hq => va_Nw.warmC hW (h4 q hq), fun q hq => va_Nw.warmM hW (h5 q hq), fun q hq => (h6 q hq).moved hW.alike, fun C hC => (h7 C hC).moved hW.alike, fun q hq => ?_, fun q hq => cf_warmD hW (h9 q hq)⟩
  obtain ⟨a, ha⟩ := h8 q hq
  exact ⟨a, ha.warm hW⟩
theorem cf_Tb.kept {D : va_G} {cT : Nat → ClassId} {z : Nat} {s : State} {H H1 : Heap} (h : cf_Tb D cT z s H) (hq : ∀ q : Nat, q < H.size → ¬ z ≤ q → H1[q]? = H[q]?) : cf_Tb D cT z s H1 :=
  ⟨h.1, ⟨h.2.1.1.kept hq, h.2.1.2.kept hq⟩, h.2.2⟩
/-- a method's start: the world, and the tables -/
def cf_P (D : va_G) (cT : Nat → ClassId) (z : Nat) (E : cf_T) (ad : cf_Ad) (U : State) : Prop := cf_W D z E ad U.heap ∧ cf_Tb D cT z U U.heap
theorem cf_P.blind {D : va_G} {cT : Nat → ClassId} {z : Nat} {E : cf_T} {ad : cf_Ad} {As : List Value} : FrameBlind (va_Pc As (cf_P D cT z E ad)) :=
  fun a U g mk q => ⟨q.1, q.2.1, cf_Tb.warm (s := U) (U := U.calling g mk a) (State.WarmedH.refl U) q.2.2⟩
theorem cf_P.at {D : va_G} {cT : Nat → ClassId} {z : Nat} {E : cf_T} {ad : cf_Ad} {s : State} {H : Heap} {locs : List Loc} (hT : cf_Tb D cT z s s.heap) (hS : va_S (fun q => z ≤ q) s.heap H locs) (hW : cf_W D z E ad H) : ∀ U : State, U.heap = H → s.WarmedH U.vm → cf_P D cT z E ad U := by
  intro U hU hw
  refine ⟨by rw [hU]; exact hW, ?_⟩
  rw [hU]
  exact cf_Tb.warm hw (hT.kept hS.2.1)
theorem cf_preV {D : va_G} {cT : Nat → ClassId} {z : Nat} {E : cf_T} {ad : cf_Ad} {s : State} {H : Heap} {locs : List Loc} (hT : cf_Tb D cT z s s.heap) (hS : va_S (fun q => z ≤ q) s.heap H locs) (hW : cf_W D z E ad H) {As : List Value} {C : String} {T : u_T} {N ci k i : Nat} {fs : List Value} (he : E k i = some (.inr (ci, fs))) (hc : vwCl[ci]? = some (C, T, N)) : PreV s H C (ad k i) (va_Pc (.ref (ad k i) :: As) (cf_P D cT z E ad)) As :=
  ⟨cf_P.blind, hW.recv hT.1 he hc, fun U hU hw => ⟨rfl, cf_P.at hT hS hW U hU hw⟩⟩
theorem cf_preS {D : va_G} {cT : Nat → ClassId} {z : Nat} {E : cf_T} {ad : cf_Ad} {s : State} {H : Heap} {locs : List Loc} (hT : cf_Tb D cT z s s.heap) (hS : va_S (fun q => z ≤ q) s.heap H locs) (hW : cf_W D z E ad H) {As : List Value} : PreS s H (va_Pc As (cf_P D cT z E ad)) As :=
  ⟨cf_P.blind, fun U hU hw => ⟨rfl, cf_P.at hT hS hW U hU hw⟩⟩
/-! ===== the contents of the roles ===== -/
def cf_len : Nat → Nat := fun i => match i with
  | 1 => 5
  | 2 => 5
  | 3 => 5
  | 4 => 20
  | 5 => 20
  | 6 => 5
  | 7 => 6
  | 8 => 6
  | 9 => 15
  | 10 => 3
  | 12 => 15
  | 13 => 15
  | 14 => 60
  | 16 => 60
  | 17 => 60
  | 18 => 60
  | 19 => 60
  | 20 => 60
  | 21 => 6
  | 22 => 6
  | _ => 0
abbrev cf_S : Type := Nat → Nat → Nat → Int32
abbrev cf_Pt : Type := Nat → Nat → Nat → Nat
/-- a row of references by numbers: 0 is null, n + 1 the object n -/
def cf_rw (f : Nat → Nat) (p : Nat → Nat) : Nat → Option Nat := fun j => if p j = 0 then none else some (f (p j - 1))
def cf_c (cT : Nat → ClassId) (nc ng : Nat) (O : Nat → Int64) (ad : cf_Ad) (k i : Nat) (r : Nat → Int32) (p : Nat → Nat) : Option va_E := match k with
  | 0 => if i < nc then some (.inr (0, [.int (nI i), .ref (ad 1 (p 0)), .ref (ad 7 i), .int (r 0)])) else none
  | 1 => if i < 5 then some (.inr (1, [.int (r 0), .int (r 1), .int (r 2), .int (r 3), .ref (ad 8 i), .ref (ad 9 i)])) else none
  | 2 => if i < ng then some (.inr (2, [.ref (ad 0 (p 0)), .int (r 0), .int (r 1), .ref (ad 3 (p 1))])) else none
  | 3 => if i < 6 then some (.inr (3, [.int (nI i), .int (r 0), .int (r 1)])) else none
  | 4 => if i < 3 then some (.inr (4, [.ref (ad 10 i), .int (r 0)])) else none
  | 5 => if i < 1 then some (.inr (5, [.ref (ad 11 0), .ref (ad 12 0), .ref (ad 13 0), .ref (ad 14 0), .ref (ad 15 0), .ref (ad 16 0), .int (r 0), .int (r 1), .int (r 2)])) else none
  | 6 => if i < 1 then some (.inr (6, [.int (r 0), .ref (ad 17 1), .ref (ad 17 2), .ref (ad 17 3), .ref (ad 17 4), .ref (ad 17 5), .ref (ad 17 6), .ref (ad 17 7), .ref (ad 17 8), .ref (ad 17 9), .ref (ad 17 10), .int (r 11), .ref (ad 17 12), .ref (ad 17 13), .ref (ad 17 14), .int (r 15), .ref (ad 17 16), .ref (ad 17 17), .ref (ad 17 18), .ref (ad 17 19), .ref (ad 17 20), .ref (ad 17 21), .ref (ad 17 22), .int (r 23)])) else none
  | 7 => if i < nc then some (.inl (cT 0, 4, .inl r)) else none
  | 8 => if i < 5 then some (.inl (cT 0, 4, .inl r)) else none
  | 9 => if i < 5 then some (.inl (cT 0, 4, .inl r)) else none
  | 10 => if i < 3 then some (.inl (cT 1, 5, .inl r)) else none
  | 11 => if i < 1 then some (.inl (cT 3, 5, .inr (.inr (.inr (.inr (fun j => some (ad 1 j))))))) else none
  | 12 => if i < 1 then some (.inl (cT 4, 6, .inr (.inr (.inr (.inr (fun j => some (ad 3 j))))))) else none
  | 13 => if i < 1 then some (.inl (cT 5, 3, .inr (.inr (.inr (.inr (fun j => some (ad 4 j))))))) else none
  | 14 => if i < 1 then some (.inl (cT 6, 15, .inr (.inr (.inr (.inr (cf_rw (ad 0) p)))))) else none
  | 15 => if i < 1 then some (.inl (cT 7, 60, .inr (.inr (.inr (.inr (cf_rw (ad 2) p)))))) else none
  | 16 => if i < 1 then some (.inl (cT 6, 6, .inr (.inr (.inr (.inr (cf_rw (ad 0) p)))))) else none
  | 17 => if 0 < cf_len i then some (.inl (cT 0, cf_len i, .inl r)) else none
  | 18 => if i < 1 then some (.inl (cT 2, 1, .inr (.inl O))) else none
  | _ => none
def cf_E (cT : Nat → ClassId) (nc ng : Nat) (S : cf_S) (P : cf_Pt) (O : Nat → Int64) (ad : cf_Ad) : cf_T := fun k i => cf_c cT nc ng O ad k i (S k i) (P k i)
section
variable {cT : Nat → ClassId} {nc ng : Nat} {S : cf_S} {P : cf_Pt} {O : Nat → Int64} {ad : cf_Ad} {i : Nat}
theorem cf_e0 (h : i < nc) : cf_E cT nc ng S P O ad 0 i = some (.inr (0, [.int (nI i), .ref (ad 1 (P 0 i 0)), .ref (ad 7 i), .int (S 0 i 0)])) := if_pos h
theorem cf_e1 (h : i < 5) : cf_E cT nc ng S P O ad 1 i = some (.inr (1, [.int (S 1 i 0), .int (S 1 i 1), .int (S 1 i 2), .int (S 1 i 3), .ref (ad 8 i), .ref (ad 9 i)])) := if_pos h
theorem cf_e2 (h : i < ng) : cf_E cT nc ng S P O ad 2 i = some (.inr (2, [.ref (ad 0 (P 2 i 0)), .int (S 2 i 0), .int (S 2 i 1), .ref (ad 3 (P 2 i 1))])) := if_pos h
theorem cf_e3 (h : i < 6) : cf_E cT nc ng S P O ad 3 i = some (.inr (3, [.int (nI i), .int (S 3 i 0), .int (S 3 i 1)])) := if_pos h
theorem cf_e4 (h : i < 3) : cf_E cT nc ng S P O ad 4 i = some (.inr (4, [.ref (ad 10 i), .int (S 4 i 0)])) := if_pos h
theorem cf_e5 : cf_E cT nc ng S P O ad 5 0 = some (.inr (5, [.ref (ad 11 0), .ref (ad 12 0), .ref (ad 13 0), .ref (ad 14 0), .ref (ad 15 0), .ref (ad 16 0), .int (S 5 0 0), .int (S 5 0 1), .int (S 5 0 2)])) := rfl
theorem cf_e6 : cf_E cT nc ng S P O ad 6 0 = some (.inr (6, [.int (S 6 0 0), .ref (ad 17 1), .ref (ad 17 2), .ref (ad 17 3), .ref (ad 17 4), .ref (ad 17 5), .ref (ad 17 6), .ref (ad 17 7), .ref (ad 17 8), .ref (ad 17 9), .ref (ad 17 10), .int (S 6 0 11), .ref (ad 17 12), .ref (ad 17 13), .ref (ad 17 14), .int (S 6 0 15), .ref (ad 17 16), .ref (ad 17 17), .ref (ad 17 18), .ref (ad 17 19), .ref (ad 17 20), .ref (ad 17 21), .ref (ad 17 22), .int (S 6 0 23)])) := rfl
theorem cf_e7 (h : i < nc) : cf_E cT nc ng S P O ad 7 i = some (.inl (cT 0, 4, .inl (S 7 i))) := if_pos h
theorem cf_e8 (h : i < 5) : cf_E cT nc ng S P O ad 8 i = some (.inl (cT 0, 4, .inl (S 8 i))) := if_pos h
theorem cf_e9 (h : i < 5) : cf_E cT nc ng S P O ad 9 i = some (.inl (cT 0, 4, .inl (S 9 i))) := if_pos h
theorem cf_e10 (h : i < 3) : cf_E cT nc ng S P O ad 10 i = some (.inl (cT 1, 5, .inl (S 10 i))) := if_pos h
theorem cf_e11 : cf_E cT nc ng S P O ad 11 0 = some (.inl (cT 3, 5, .inr (.inr (.inr (.inr (fun j => some (ad 1 j))))))) := rfl
theorem cf_e12 : cf_E cT nc ng S P O ad 12 0 = some (.inl (cT 4, 6, .inr (.inr (.inr (.inr (fun j => some (ad 3 j))))))) := rfl
theorem cf_e13 : cf_E cT nc ng S P O ad 13 0 = some (.inl (cT 5, 3, .inr (.inr (.inr (.inr (fun j => some (ad 4 j))))))) := rfl
theorem cf_e14 : cf_E cT nc ng S P O ad 14 0 = some (.inl (cT 6, 15, .inr (.inr (.inr (.inr (cf_rw (ad 0) (P 14 0))))))) := rfl
theorem cf_e15 : cf_E cT nc ng S P O ad 15 0 = some (.inl (cT 7, 60, .inr (.inr (.inr (.inr (cf_rw (ad 2) (P 15 0))))))) := rfl
theorem cf_e16 : cf_E cT nc ng S P O ad 16 0 = some (.inl (cT 6, 6, .inr (.inr (.inr (.inr (cf_rw (ad 0) (P 16 0))))))) := rfl
theorem cf_e17 (h : 0 < cf_len i) : cf_E cT nc ng S P O ad 17 i = some (.inl (cT 0, cf_len i, .inl (S 17 i))) := if_pos h
theorem cf_e18 : cf_E cT nc ng S P O ad 18 0 = some (.inl (cT 2, 1, .inr (.inl O))) := rfl
theorem cf_c0 {r : Nat → Int32} {p : Nat → Nat} (h : i < nc) : cf_c cT nc ng O ad 0 i r p = some (.inr (0, [.int (nI i), .ref (ad 1 (p 0)), .ref (ad 7 i), .int (r 0)])) := if_pos h
theorem cf_c1 {r : Nat → Int32} {p : Nat → Nat} (h : i < 5) : cf_c cT nc ng O ad 1 i r p = some (.inr (1, [.int (r 0), .int (r 1), .int (r 2), .int (r 3), .ref (ad 8 i), .ref (ad 9 i)])) := if_pos h
theorem cf_c2 {r : Nat → Int32} {p : Nat → Nat} (h : i < ng) : cf_c cT nc ng O ad 2 i r p = some (.inr (2, [.ref (ad 0 (p 0)), .int (r 0), .int (r 1), .ref (ad 3 (p 1))])) := if_pos h
theorem cf_c3 {r : Nat → Int32} {p : Nat → Nat} (h : i < 6) : cf_c cT nc ng O ad 3 i r p = some (.inr (3, [.int (nI i), .int (r 0), .int (r 1)])) := if_pos h
theorem cf_c4 {r : Nat → Int32} {p : Nat → Nat} (h : i < 3) : cf_c cT nc ng O ad 4 i r p = some (.inr (4, [.ref (ad 10 i), .int (r 0)])) := if_pos h
theorem cf_c5 {r : Nat → Int32} {p : Nat → Nat} : cf_c cT nc ng O ad 5 0 r p = some (.inr (5, [.ref (ad 11 0), .ref (ad 12 0), .ref (ad 13 0), .ref (ad 14 0), .ref (ad 15 0), .ref (ad 16 0), .int (r 0), .int (r 1), .int (r 2)])) := rfl
theorem cf_c6 {r : Nat → Int32} {p : Nat → Nat} : cf_c cT nc ng O ad 6 0 r p = some (.inr (6, [.int (r 0), .ref (ad 17 1), .ref (ad 17 2), .ref (ad 17 3), .ref (ad 17 4), .ref (ad 17 5), .ref (ad 17 6), .ref (ad 17 7), .ref (ad 17 8), .ref (ad 17 9), .ref (ad 17 10), .int (r 11), .ref (ad 17 12), .ref (ad 17 13), .ref (ad 17 14), .int (r 15), .ref (ad 17 16), .ref (ad 17 17), .ref (ad 17 18), .ref (ad 17 19), .ref (ad 17 20), .ref (ad 17 21), .ref (ad 17 22), .int (r 23)])) := rfl
theorem cf_c7 {r : Nat → Int32} {p : Nat → Nat} (h : i < nc) : cf_c cT nc ng O ad 7 i r p = some (.inl (cT 0, 4, .inl r)) := if_pos h
theorem cf_c8 {r : Nat → Int32} {p : Nat → Nat} (h : i < 5) : cf_c cT nc ng O ad 8 i r p = some (.inl (cT 0, 4, .inl r)) := if_pos h
theorem cf_c9 {r : Nat → Int32} {p : Nat → Nat} (h : i < 5) : cf_c cT nc ng O ad 9 i r p = some (.inl (cT 0, 4, .inl r)) := if_pos h
theorem cf_c10 {r : Nat → Int32} {p : Nat → Nat} (h : i < 3) : cf_c cT nc ng O ad 10 i r p = some (.inl (cT 1, 5, .inl r)) := if_pos h
theorem cf_c11 {r : Nat → Int32} {p : Nat → Nat} : cf_c cT nc ng O ad 11 0 r p = some (.inl (cT 3, 5, .inr (.inr (.inr (.inr (fun j => some (ad 1 j))))))) := rfl
theorem cf_c12 {r : Nat → Int32} {p : Nat → Nat} : cf_c cT nc ng O ad 12 0 r p = some (.inl (cT 4, 6, .inr (.inr (.inr (.inr (fun j => some (ad 3 j))))))) := rfl
theorem cf_c13 {r : Nat → Int32} {p : Nat → Nat} : cf_c cT nc ng O ad 13 0 r p = some (.inl (cT 5, 3, .inr (.inr (.inr (.inr (fun j => some (ad 4 j))))))) := rfl
theorem cf_c14 {r : Nat → Int32} {p : Nat → Nat} : cf_c cT nc ng O ad 14 0 r p = some (.inl (cT 6, 15, .inr (.inr (.inr (.inr (cf_rw (ad 0) p)))))) := rfl
theorem cf_c15 {r : Nat → Int32} {p : Nat → Nat} : cf_c cT nc ng O ad 15 0 r p = some (.inl (cT 7, 60, .inr (.inr (.inr (.inr (cf_rw (ad 2) p)))))) := rfl
theorem cf_c16 {r : Nat → Int32} {p : Nat → Nat} : cf_c cT nc ng O ad 16 0 r p = some (.inl (cT 6, 6, .inr (.inr (.inr (.inr (cf_rw (ad 0) p)))))) := rfl
theorem cf_c17 {r : Nat → Int32} {p : Nat → Nat} (h : 0 < cf_len i) : cf_c cT nc ng O ad 17 i r p = some (.inl (cT 0, cf_len i, .inl r)) := if_pos h
theorem cf_c18 {r : Nat → Int32} {p : Nat → Nat} : cf_c cT nc ng O ad 18 0 r p = some (.inl (cT 2, 1, .inr (.inl O))) := rfl
theorem cf_upSP (k i : Nat) (r : Nat → Int32) (p : Nat → Nat) {e : va_E} (he : cf_c cT nc ng O ad k i r p = some e) : cf_g2 (cf_E cT nc ng S P O ad) k i (some e) = cf_E cT nc ng (cf_g2 S k i r) (cf_g2 P k i p) O ad := by
  funext a b
  by_cases h : a = k ∧ b = i
  · obtain ⟨rfl, rfl⟩ := h
    rw [cf_g2s]
    show _ = cf_c cT nc ng O ad a b (cf_g2 S a b r a b) (cf_g2 P a b p a b)
    rw [cf_g2s, cf_g2s]
    exact he.symm
  · rw [cf_g2n h]
    show cf_c cT nc ng O ad a b (S a b) (P a b) = cf_c cT nc ng O ad a b (cf_g2 S k i r a b) (cf_g2 P k i p a b)
    rw [cf_g2n h, cf_g2n h]
theorem cf_upS (k i : Nat) (r : Nat → Int32) {e : va_E} (he : cf_c cT nc ng O ad k i r (P k i) = some e) : cf_g2 (cf_E cT nc ng S P O ad) k i (some e) = cf_E cT nc ng (cf_g2 S k i r) P O ad := by
  rw [cf_upSP k i r (P k i) he]
  congr 1
  funext a b
  by_cases h : a = k ∧ b = i
  · obtain ⟨rfl, rfl⟩ := h
    exact cf_g2s
  · exact cf_g2n h
theorem cf_upP (k i : Nat) (p : Nat → Nat) {e : va_E} (he : cf_c cT nc ng O ad k i (S k i) p = some e) : cf_g2 (cf_E cT nc ng S P O ad) k i (some e) = cf_E cT nc ng S (cf_g2 P k i p) O ad := by
  rw [cf_upSP k i (S k i) p he]
  congr 1
  funext a b
  by_cases h : a = k ∧ b = i
  · obtain ⟨rfl, rfl⟩ := h
    exact cf_g2s
  · exact cf_g2n h
theorem cf_upO {x : Int64} {j : Nat} (hj : j = 0) : cf_g2 (cf_E cT nc ng S P O ad) 18 0 (some (.inl (cT 2, 1, .inr (.inl (vp_updL O j x))))) = cf_E cT nc ng S P (vp_updL O 0 x) ad := by
  subst hj
  funext a b
  by_cases h : a = 18 ∧ b = 0
  · obtain ⟨rfl, rfl⟩ := h
    rw [cf_g2s]
    rfl
  · rw [cf_g2n h]
    show cf_c cT nc ng O ad a b (S a b) (P a b) = cf_c cT nc ng (vp_updL O 0 x) ad a b (S a b) (P a b)
    unfold cf_c
    split <;> first | rfl | skip
    rename_i h18
    by_cases hb : b = 0
    · exact absurd ⟨rfl, hb⟩ h
    · rw [if_neg (by omega), if_neg (by omega)]
end
theorem cf_rw0 {f p : Nat → Nat} {j : Nat} (h : p j = 0) : va_rf (cf_rw f p j) = .null := by simp [cf_rw, h, va_rf]
theorem cf_rwS {f p : Nat → Nat} {j n : Nat} (h : p j = n + 1) : va_rf (cf_rw f p j) = .ref (f n) := by simp [cf_rw, h, va_rf]
def cf_u {α : Type} (f : Nat → α) (k : Nat) (x : α) : Nat → α := fun j => if j = k then x else f j
theorem cf_us {α : Type} {f : Nat → α} {k : Nat} {x : α} : cf_u f k x k = x := if_pos rfl
theorem cf_un {α : Type} {f : Nat → α} {k j : Nat} {x : α} (h : j ≠ k) : cf_u f k x j = f j := if_neg h
theorem cf_rwU {f p : Nat → Nat} {j n : Nat} : va_up (cf_rw f p) j (some (f n)) = cf_rw f (cf_u p j (n + 1)) := by
  funext a
  by_cases h : a = j
  · subst h; simp [va_up, cf_rw, cf_u]
  · simp [va_up, cf_rw, cf_u, h]
theorem cf_rwN {f p : Nat → Nat} {j : Nat} : va_up (cf_rw f p) j none = cf_rw f (cf_u p j 0) := by
  funext a
  by_cases h : a = j
  · subst h; simp [va_up, cf_rw, cf_u]
  · simp [va_up, cf_rw, cf_u, h]
