section
-- ===== PART A: goes FIRST, ahead of the names: the tables' words, and 'selects' of the private methods out of them =====
/-- a private method of a class that the tables say can be made, by its rows of tables_1 -/
def lw_okq (q : MethodName × Nat) : Prop := (q.1.cls ≠ "java/lang/invoke/MethodHandle" ∧ q.1.cls ≠ "java/lang/invoke/VarHandle") ∧ Cond.instantiable q.1.cls q.2 ∈ tables_1 ∧ Cond.privateMethod q.1 ∈ tables_1 ∧ Cond.instanceMethod q.1 ∈ tables_1
theorem lw_p0 : lw_okq (⟨"java/lang/Throwable", "fillInStackTrace", "(I)Ljava/lang/Throwable;"⟩, 6) := ⟨⟨by decide +kernel, by decide +kernel⟩, List.mem_of_getElem? (i := 186) (by decide +kernel), List.mem_of_getElem? (i := 184) (by decide +kernel), List.mem_of_getElem? (i := 185) (by decide +kernel)⟩
theorem lw_p1 : lw_okq (⟨"GameCafe", "copyNumbered", "(I)LGameCafe$Copy;"⟩, 9) := ⟨⟨by decide +kernel, by decide +kernel⟩, List.mem_of_getElem? (i := 16) (by decide +kernel), List.mem_of_getElem? (i := 317) (by decide +kernel), List.mem_of_getElem? (i := 318) (by decide +kernel)⟩
theorem lw_p2 : lw_okq (⟨"GameCafe", "freeTableFor", "(I)LGameCafe$Table;"⟩, 9) := ⟨⟨by decide +kernel, by decide +kernel⟩, List.mem_of_getElem? (i := 16) (by decide +kernel), List.mem_of_getElem? (i := 354) (by decide +kernel), List.mem_of_getElem? (i := 355) (by decide +kernel)⟩
theorem lw_p3 : lw_okq (⟨"GameCafe", "playableCopyOf", "(LGameCafe$Game;)LGameCafe$Copy;"⟩, 9) := ⟨⟨by decide +kernel, by decide +kernel⟩, List.mem_of_getElem? (i := 16) (by decide +kernel), List.mem_of_getElem? (i := 358) (by decide +kernel), List.mem_of_getElem? (i := 359) (by decide +kernel)⟩
theorem lw_p4 : lw_okq (⟨"GameCafe", "freeTeacherOf", "(I)LGameCafe$Teacher;"⟩, 9) := ⟨⟨by decide +kernel, by decide +kernel⟩, List.mem_of_getElem? (i := 16) (by decide +kernel), List.mem_of_getElem? (i := 366) (by decide +kernel), List.mem_of_getElem? (i := 367) (by decide +kernel)⟩
theorem lw_p5 : lw_okq (⟨"GameCafe", "groupNumbered", "(I)LGameCafe$Group;"⟩, 9) := ⟨⟨by decide +kernel, by decide +kernel⟩, List.mem_of_getElem? (i := 16) (by decide +kernel), List.mem_of_getElem? (i := 400) (by decide +kernel), List.mem_of_getElem? (i := 401) (by decide +kernel)⟩
theorem lw_p6 : lw_okq (⟨"GameCafe", "canSeatKnowing", "(ILGameCafe$Game;)Z"⟩, 9) := ⟨⟨by decide +kernel, by decide +kernel⟩, List.mem_of_getElem? (i := 16) (by decide +kernel), List.mem_of_getElem? (i := 503) (by decide +kernel), List.mem_of_getElem? (i := 504) (by decide +kernel)⟩
theorem lw_p7 : lw_okq (⟨"GameCafeModel", "isCopy", "(I)Z"⟩, 24) := ⟨⟨by decide +kernel, by decide +kernel⟩, List.mem_of_getElem? (i := 507) (by decide +kernel), List.mem_of_getElem? (i := 620) (by decide +kernel), List.mem_of_getElem? (i := 621) (by decide +kernel)⟩
theorem lw_p8 : lw_okq (⟨"GameCafeModel", "fails", "(I)I"⟩, 24) := ⟨⟨by decide +kernel, by decide +kernel⟩, List.mem_of_getElem? (i := 507) (by decide +kernel), List.mem_of_getElem? (i := 624) (by decide +kernel), List.mem_of_getElem? (i := 625) (by decide +kernel)⟩
theorem lw_p9 : lw_okq (⟨"GameCafeModel", "tableFor", "(I)I"⟩, 24) := ⟨⟨by decide +kernel, by decide +kernel⟩, List.mem_of_getElem? (i := 507) (by decide +kernel), List.mem_of_getElem? (i := 636) (by decide +kernel), List.mem_of_getElem? (i := 637) (by decide +kernel)⟩
theorem lw_p10 : lw_okq (⟨"GameCafeModel", "copyFor", "(I)I"⟩, 24) := ⟨⟨by decide +kernel, by decide +kernel⟩, List.mem_of_getElem? (i := 507) (by decide +kernel), List.mem_of_getElem? (i := 640) (by decide +kernel), List.mem_of_getElem? (i := 641) (by decide +kernel)⟩
theorem lw_p11 : lw_okq (⟨"GameCafeModel", "playable", "(I)Z"⟩, 24) := ⟨⟨by decide +kernel, by decide +kernel⟩, List.mem_of_getElem? (i := 507) (by decide +kernel), List.mem_of_getElem? (i := 644) (by decide +kernel), List.mem_of_getElem? (i := 645) (by decide +kernel)⟩
theorem lw_p12 : lw_okq (⟨"GameCafeModel", "teacherFor", "(I)I"⟩, 24) := ⟨⟨by decide +kernel, by decide +kernel⟩, List.mem_of_getElem? (i := 507) (by decide +kernel), List.mem_of_getElem? (i := 648) (by decide +kernel), List.mem_of_getElem? (i := 649) (by decide +kernel)⟩
theorem lw_p13 : lw_okq (⟨"GameCafeModel", "isThere", "(I)Z"⟩, 24) := ⟨⟨by decide +kernel, by decide +kernel⟩, List.mem_of_getElem? (i := 507) (by decide +kernel), List.mem_of_getElem? (i := 656) (by decide +kernel), List.mem_of_getElem? (i := 657) (by decide +kernel)⟩
def lw_privs_1 : List (MethodName × Nat) := [(⟨"java/lang/Throwable", "fillInStackTrace", "(I)Ljava/lang/Throwable;"⟩, 6), (⟨"GameCafe", "copyNumbered", "(I)LGameCafe$Copy;"⟩, 9), (⟨"GameCafe", "freeTableFor", "(I)LGameCafe$Table;"⟩, 9), (⟨"GameCafe", "playableCopyOf", "(LGameCafe$Game;)LGameCafe$Copy;"⟩, 9), (⟨"GameCafe", "freeTeacherOf", "(I)LGameCafe$Teacher;"⟩, 9), (⟨"GameCafe", "groupNumbered", "(I)LGameCafe$Group;"⟩, 9), (⟨"GameCafe", "canSeatKnowing", "(ILGameCafe$Game;)Z"⟩, 9), (⟨"GameCafeModel", "isCopy", "(I)Z"⟩, 24), (⟨"GameCafeModel", "fails", "(I)I"⟩, 24), (⟨"GameCafeModel", "tableFor", "(I)I"⟩, 24), (⟨"GameCafeModel", "copyFor", "(I)I"⟩, 24), (⟨"GameCafeModel", "playable", "(I)Z"⟩, 24), (⟨"GameCafeModel", "teacherFor", "(I)I"⟩, 24), (⟨"GameCafeModel", "isThere", "(I)Z"⟩, 24)]
theorem lw_r1 : ∀ q ∈ lw_privs_1, lw_okq q := List.forall_mem_cons.mpr ⟨lw_p0, List.forall_mem_cons.mpr ⟨lw_p1, List.forall_mem_cons.mpr ⟨lw_p2, List.forall_mem_cons.mpr ⟨lw_p3, List.forall_mem_cons.mpr ⟨lw_p4, List.forall_mem_cons.mpr ⟨lw_p5, List.forall_mem_cons.mpr ⟨lw_p6, List.forall_mem_cons.mpr ⟨lw_p7, List.forall_mem_cons.mpr ⟨lw_p8, List.forall_mem_cons.mpr ⟨lw_p9, List.forall_mem_cons.mpr ⟨lw_p10, List.forall_mem_cons.mpr ⟨lw_p11, List.forall_mem_cons.mpr ⟨lw_p12, List.forall_mem_cons.mpr ⟨lw_p13, fun _ h => absurd h List.not_mem_nil⟩⟩⟩⟩⟩⟩⟩⟩⟩⟩⟩⟩⟩⟩
def lw_privs : List (MethodName × Nat) := lw_privs_1
def lw_tbl : List Cond := k2_sels lw_privs ++ tables_1
theorem lw_privs_ok : ∀ q ∈ lw_privs, lw_okq q := lw_r1
end
section
/-! ===== BEGIN words of one list among another's, by their places ===== -/
theorem goodIn_r {big : List Cond} (ws : List Cond) (ps : List Nat) (hp : ws = ps.filterMap (fun i => big[i]?)) (h : ws.all goodWord = true) : GoodIn big ws := by
  intro w hw
  have h1 := List.all_eq_true.mp h w hw
  rw [hp] at hw
  obtain ⟨i, -, hi⟩ := List.mem_filterMap.mp hw
  have hm : w ∈ big := by first | exact List.mem_of_getElem? hi | exact List.getElem?_mem hi
  exact ⟨hm, good_of_word h1⟩
theorem goodIn_app {big a b : List Cond} (ha : GoodIn big a) (hb : GoodIn big b) : GoodIn big (a ++ b) := fun w h => (List.mem_append.mp h).elim (ha w) (hb w)
theorem goodIn_ca {big a b : List Cond} {c : Cond} (ha : GoodIn big (c :: a)) (hb : GoodIn big b) : GoodIn big (c :: (a ++ b)) := fun w h => (List.mem_cons.mp h).elim (fun e => ha w (List.mem_cons.mpr (Or.inl e))) (fun h => (List.mem_append.mp h).elim (fun h => ha w (List.mem_cons.mpr (Or.inr h))) (hb w))
theorem goodIn_sub {big ws : List Cond} (hm : ∀ w ∈ ws, w ∈ big) (h : ws.all goodWord = true) : GoodIn big ws := fun w hw => ⟨hm w hw, good_of_word (List.all_eq_true.mp h w hw)⟩
/-! ===== END ===== -/

/-! ===== BEGIN exceptions that leave a method, and their catching by the caller (launches without stack traces) ===== -/
section VXA
/-! The laws vx_back, vx_callV, vx_callS, vx_callSW, vx_throw0, vx_throwS follow proofs of the library, with one case more: JvmDerived/Free/Laws.lean (Back.of_free), Shelf42/LK1.lean (callV, callS), Shelf/KitTraced.lean (throwNew0V, throwNewS). -/
/-- where a method has thrown q: the class by its name, the cell, what was written, the world -/
def vx_T (XC : String → State → State → Prop) (st : State) (q : Addr) (t : State) (mc ms : Nat) (free : Addr → Prop) : Prop :=
  ∃ (E : String) (ce : Cell) (L : List Loc), XC E st t ∧ t.heap[q]? = some ce ∧ ce.vm = .none ∧ st.vm.findClass E = some ce.cls ∧ st.WarmedH t.vm ∧ st.sameButNew ({ t with vm := st.vm } : State) L mc ms ∧ ∀ z ∈ L, free z.base
def vx_Q (Qc : Array Value → State → Outcome → State → Prop) (XC : String → State → State → Prop) (mc ms : Nat) (free : Addr → Prop) : Array Value → State → Outcome → State → Prop := fun a st o t =>
  (Qc a st o t ∧ ∃ L, FrameEnd st o t L mc ms ∧ ∀ q ∈ L, free q.base) ∨ ∃ q, o = .threw q ∧ vx_T XC st q t mc ms free
/-- a callee that returns or throws -/
def vx_Met (l : Launch) (y : MethodName) (ws : List Cond) (rm : Room) (Pc : Array Value → State → Prop) (Qc : Array Value → State → Outcome → State → Prop) (XC : String → State → State → Prop) (mc ms : Nat) (free : Addr → Prop) : Prop :=
  MetFree l y (headSpec ws rm) Pc (fun _ _ _ _ _ => True) (vx_Q Qc XC mc ms free)
def vx_Post (XC : String → State → State → Prop) (mc ms : Nat) (free : Addr → Prop) : Pt → Array Value → Addr → Pt → Prop := fun A a q B =>
  ∃ (g : JFrame) (mk : MethodId) (t : State) (L : List Loc) (E : String) (ce : Cell), B.U.heap = t.heap ∧ B.U.vm = t.vm ∧ XC E (A.U.calling g mk a) t ∧ t.heap[q]? = some ce ∧ ce.vm = .none ∧ A.U.vm.findClass E = some ce.cls ∧ B.locs = A.locs ++ L ∧ (∀ z ∈ L, free z.base) ∧ B.cells = A.cells + mc ∧ B.slots = A.slots + ms
def vx_Back (l : Launch) (R : Room) (p : Program) (e : Env) (below : List Frame) (s : State) (sargs : Array Value) (y : MethodName) (len W9 : Nat)
    (Pre : Pt → Array Value → Prop) (Post : Pt → Array Value → Option Value → Pt → Prop) (PostX : Pt → Array Value → Addr → Pt → Prop) : Prop :=
  ∀ (m : MethodId) (meth : Method) (c : Code) (A : Pt) (g : JFrame) (ig : Instr) (mk : MethodId) (a : Array Value),
    Stand p l e R s m sargs below meth c A.U A.locs A.cells A.slots → g.method = m → g.locals.size = c.maxLocals → decode c.code g.pc = .ok (ig, len) →
    2 * g.monitorRoom + (g.stack.map fun v => v.category).sum ≤ W9 → A.U.methodNamed? y = some mk → Pre A a →
    (∃ (v : Option Value) (B : Pt), Stand p l e R s m sargs below meth c B.U B.locs B.cells B.slots ∧ Post A a v B ∧
      Steps p.tables e below (doInvoke e (A.U.setTop g) [] mk a).1 (B.U.setTop { g with pc := g.pc + len, stack := v.toList ++ g.stack })) ∨
    (∃ (q : Addr) (B : Pt), Stand p l e R s m sargs below meth c B.U B.locs B.cells B.slots ∧ PostX A a q B ∧
      Steps p.tables e below (doInvoke e (A.U.setTop g) [] mk a).1 ((B.U.setTop g).pushFrame (.throwing q)))
section Payer
variable {l : Launch} {R : Room} {p : Program} {e : Env} {below : List Frame} {s : State} {sargs : Array Value} {y : MethodName} {len W9 : Nat}
theorem vx_back {ws : List Cond} {rm : Room} {Pc : Array Value → State → Prop} {Qc : Array Value → State → Outcome → State → Prop} {XC : String → State → State → Prop} {mc ms : Nat} {free : Addr → Prop} {bytes : ByteArray} {maxL : Nat} {ret : Option FieldType}
    (hM : vx_Met l y ws rm Pc Qc XC mc ms free) (hblind : FrameBlind Pc) (hrc : rm.cells = mc) (hrs : rm.slots = ms)
    (hframes : rm.frames + 1 ≤ R.frames) (hlocals : W9 + (maxL + 11) + rm.locals ≤ R.locals)
    (hws : ∀ w ∈ ws, ∀ a' U, s.WarmedH U.vm → w.before a' U = true) (hcode : Cond.code y bytes maxL ret ∈ ws) (hinit : ∀ a' U, s.WarmedH U.vm → (Cond.initialized y.cls).before a' U = true) :
    vx_Back l R p e below s sargs y len W9 (PreOf R mc ms Pc) (PostOf Qc mc ms free) (vx_Post XC mc ms free) := by
  intro m meth c A g ig mk a X hg hsize hdg hW hn hp
  have h1 : (headSpec ws rm).pre.before a A.U = true := atoms_intro fun w hw => hws w hw _ _ X.warmed
  have h2 : (Cond.code y bytes maxL ret).before a A.U = true := hws _ hcode _ _ X.warmed
  have h3 : (Cond.initialized y.cls).before a A.U = true := hinit _ _ X.warmed
  have h4 : A.cells + (headSpec ws rm).room.cells ≤ R.cells := by rw [show (headSpec ws rm).room.cells = mc from hrc]; exact hp.1
  have h5 : A.slots + (headSpec ws rm).room.slots ≤ R.slots := by rw [show (headSpec ws rm).room.slots = ms from hrs]; exact hp.2.1
  have hPc : Pc a (A.U.calling g mk a) := hblind _ _ _ _ hp.2.2
  obtain ⟨U, Ls, c0, s0⟩ := A
  dsimp only [Pt.U, Pt.locs, Pt.cells, Pt.slots] at h1 h2 h3 h4 h5 X hn hPc ⊢
  obtain ⟨methY, cY, hmY, hcY, -, hlY, -, -, -, -⟩ := Cond.code_spec hn h2
  obtain ⟨kY, hkY, -⟩ := className_of_methodNamed hn
  have hinitY : kY.init = .initialized := Cond.initialized_spec (findClass_of_methodNamed hn) hkY h3
  have h : At U g.method c below := by rw [hg]; exact X.here
  have hlocals9 : W9 + (maxL + 11) + (headSpec ws rm).room.locals ≤ R.locals := hlocals
  have happ : (headSpec ws rm).appliesLoose y e.platform (U.calling g mk a) = true :=
    Spec.appliesLoose_calling (g := g) h hdg hn hkY hinitY
      (X.room_calling (g := g) (R' := (headSpec ws rm).room) hsize hmY hcY hframes (by rw [hlY]; omega) h4 h5) h1
  obtain ⟨mid, hmid⟩ := h.above
  have hfr : (U.setTop g).frames = (.java g :: mid) ++ below := by rw [State.frames_setTop' g h.top, hmid]; rfl
  obtain ⟨o, s₂, hsteps, -, hend, hq⟩ := Steps.callFree hM p X.admits X.cas X.clock (acts := []) hfr happ hPc trivial
  have hq' : vx_Q Qc XC mc ms free a (U.calling g mk a) o s₂ := hq
  rw [State.frames_setTop' g h.top] at hend
  obtain ⟨g₀, hg0⟩ := Option.isSome_iff_exists.mp h.top
  obtain ⟨r, hr⟩ := State.topJava?_eq_some.mp hg0
  have hr' : (({ U with heap := s₂.heap, slotsUsed := s₂.slotsUsed } : State).setVm s₂.vm).frames = .java g₀ :: r := hr
  rcases hq' with ⟨hqc, L, hfe, hL⟩ | ⟨q, rfl, E, ce, L, hx, hce, hcv, hcl, hW₂, hsm, hL⟩
  · obtain ⟨⟨v, rfl⟩, hW₂, e2, q2, q3, q4, q5, q6⟩ := id hfe
    have e3 : s₂ = ({ (U.calling g mk a).setFrames s₂.frames with heap := s₂.heap, slotsUsed := s₂.slotsUsed } : State).setVm s₂.vm := by
      have : s₂ = ({ s₂ with vm := (U.calling g mk a).vm } : State).setVm s₂.vm := rfl
      rw [e2] at this
      exact this
    obtain ⟨c₂, i₂, len₂, hc₂, hd₂, hf₂⟩ := hend
    have hW' : U.WarmedH s₂.vm := hW₂
    have hcc : c₂ = c := by
      have h1 : s₂.code? g.method = U.code? g.method := by
        rw [State.code?_eq, State.code?_eq, hW'.alike.method?]
      exact Option.some.inj (hc₂.symm.trans (h1.trans h.code))
    subst hcc
    have hlen : len₂ = len := by rw [hdg] at hd₂; cases hd₂; rfl
    subst hlen
    have hs₂ : s₂ = (({ U with heap := s₂.heap, slotsUsed := s₂.slotsUsed } : State).setVm s₂.vm).setTop { g with pc := g.pc + len₂, stack := v.toList ++ g.stack } := by
      refine e3.trans ?_
      rw [hf₂, State.calling_eq h.top, State.setFrames_setFrames, State.setTop_of_frames _ hr', hr]
      rfl
    have hsame : U.sameButNew ({ U with heap := s₂.heap, slotsUsed := s₂.slotsUsed } : State) L mc ms := by
      refine ⟨?_, q2, q3, q4, q5, q6⟩
      obtain ⟨t, ht, -⟩ := State.frames_cons hr
      show ({ U with heap := s₂.heap, slotsUsed := s₂.slotsUsed } : State) = { U.setFrames U.frames with heap := s₂.heap, slotsUsed := s₂.slotsUsed }
      rw [State.setFrames_self ht]
    subst hg
    refine Or.inl ⟨v, ⟨(({ U with heap := s₂.heap, slotsUsed := s₂.slotsUsed } : State).setVm s₂.vm), Ls ++ L, c0 + mc, s0 + ms⟩,
      ⟨X.admits, X.cas, X.clock, X.frames, X.room, X.hears, X.method, X.code, (X.here.setHeapUsed s₂.heap s₂.slotsUsed).setVm hW'.alike, X.tail, State.WarmedH.trans X.warmed hW', X.limits, X.bytes, X.same.trans (hsame.setVm s.vm)⟩,
      ⟨g, mk, s₂, L, rfl, rfl, hqc, rfl, hL, rfl, rfl⟩, ?_⟩
    show Steps p.tables e below _ ((({ U with heap := s₂.heap, slotsUsed := s₂.slotsUsed } : State).setVm s₂.vm).setTop { g with pc := g.pc + len₂, stack := v.toList ++ g.stack })
    rw [← hs₂]
    exact hsteps
  · obtain ⟨e2, q2, q3, q4, q5, q6⟩ := id hsm
    have e3 : s₂ = ({ (U.calling g mk a).setFrames s₂.frames with heap := s₂.heap, slotsUsed := s₂.slotsUsed } : State).setVm s₂.vm := by
      have : s₂ = ({ s₂ with vm := (U.calling g mk a).vm } : State).setVm s₂.vm := rfl
      rw [e2] at this
      exact this
    have hf₂ : s₂.frames = .throwing q :: .java g :: U.frames.tail := hend
    have hW' : U.WarmedH s₂.vm := hW₂
    have hs₂ : s₂ = ((({ U with heap := s₂.heap, slotsUsed := s₂.slotsUsed } : State).setVm s₂.vm).setTop g).pushFrame (.throwing q) := by
      refine e3.trans ?_
      rw [hf₂, State.calling_eq h.top, State.setFrames_setFrames, State.pushFrame, State.frames_setTop _ hr', State.setTop_of_frames _ hr', State.setFrames_setFrames, hr]
      rfl
    have hsame : U.sameButNew ({ U with heap := s₂.heap, slotsUsed := s₂.slotsUsed } : State) L mc ms := by
      refine ⟨?_, q2, q3, q4, q5, q6⟩
      obtain ⟨t, ht, -⟩ := State.frames_cons hr
      show ({ U with heap := s₂.heap, slotsUsed := s₂.slotsUsed } : State) = { U.setFrames U.frames with heap := s₂.heap, slotsUsed := s₂.slotsUsed }
      rw [State.setFrames_self ht]
    subst hg
    refine Or.inr ⟨q, ⟨(({ U with heap := s₂.heap, slotsUsed := s₂.slotsUsed } : State).setVm s₂.vm), Ls ++ L, c0 + mc, s0 + ms⟩,
      ⟨X.admits, X.cas, X.clock, X.frames, X.room, X.hears, X.method, X.code, (X.here.setHeapUsed s₂.heap s₂.slotsUsed).setVm hW'.alike, X.tail, State.WarmedH.trans X.warmed hW', X.limits, X.bytes, X.same.trans (hsame.setVm s.vm)⟩,
      ⟨g, mk, s₂, L, E, ce, rfl, rfl, hx, hce, hcv, hcl, rfl, hL, rfl, rfl⟩, ?_⟩
    show Steps p.tables e below _ (((({ U with heap := s₂.heap, slotsUsed := s₂.slotsUsed } : State).setVm s₂.vm).setTop g).pushFrame (.throwing q))
    rw [← hs₂]
    exact hsteps
end Payer
section Calls
variable {p : Program} {l : Launch} {e : Env} {R : Room} {s : State} {m : MethodId} {args : Array Value} {below : List Frame} {meth : Method} {c : Code} {T : State} {locs : List Loc} {cells slots : Nat}
theorem vx_callV (X : Stand p l e R s m args below meth c T locs cells slots) (hexec : p.tables.exec = Jvm.exec) {own C : String} {index : Nat} {y : MethodName} {bytes : ByteArray} {maxL : Nat} {ret : Option FieldType}
    (hown : s.vm.findClass own = some m.cls) (hlink : (Cond.methodLink own index y).before args s = true) (hinst : (Cond.instanceMethod y).before args s = true) (hsel : (Cond.selects C y y).before args s = true)
    (hcode : (Cond.code y bytes maxL ret).before args s = true) (hy : y.cls ≠ "java/lang/invoke/MethodHandle" ∧ y.cls ≠ "java/lang/invoke/VarHandle")
    {W9 : Nat} {Pre : Pt → Array Value → Prop} {Post : Pt → Array Value → Option Value → Pt → Prop} {PostX : Pt → Array Value → Addr → Pt → Prop} (hK : vx_Back l R p e below s args y 3 W9 Pre Post PostX)
    {b : Addr} {cellB : Cell} (hcell : T.heap[b]? = some cellB) (hobj : cellB.vm.isStatics = false) (hcls : s.vm.findClass C = some cellB.cls)
    {g : JFrame} (hg : g.method = m) (hsize : g.locals.size = c.maxLocals) {argsL rest : List Value} (hlen : ∀ sig, parseMethodDescriptor y.desc = some sig → argsL.length = sig.parameters.length)
    (hstack : g.stack = argsL.reverse ++ .ref b :: rest) (hW : 2 * g.monitorRoom + (rest.map fun v => v.category).sum ≤ W9) (hdg : decode c.code g.pc = .ok (.invokevirtual index, 3))
    (hpre : ∀ vm₁, s.WarmedH vm₁ → Pre ⟨T.setVm vm₁, locs, cells, slots⟩ (Value.ref b :: argsL).toArray) :
    (∃ (v : Option Value) (vm₁ : Vm) (B : Pt), s.WarmedH vm₁ ∧ Stand p l e R s m args below meth c B.U B.locs B.cells B.slots ∧ Post ⟨T.setVm vm₁, locs, cells, slots⟩ (Value.ref b :: argsL).toArray v B ∧
      ∀ target, Steps p.tables e below (B.U.setTop { g with pc := g.pc + 3, stack := v.toList ++ rest }) target → Steps p.tables e below (T.setTop g) target) ∨
    (∃ (q : Addr) (vm₁ : Vm) (B : Pt), s.WarmedH vm₁ ∧ Stand p l e R s m args below meth c B.U B.locs B.cells B.slots ∧ PostX ⟨T.setVm vm₁, locs, cells, slots⟩ (Value.ref b :: argsL).toArray q B ∧
      Steps p.tables e below (T.setTop g) ((B.U.setTop { g with stack := rest }).pushFrame (.throwing q))) := by
  obtain ⟨mk, methM, hnamed, hmethM, hstM, habM⟩ := Cond.instanceMethod_spec hinst
  obtain ⟨methM', cM, hmethM', -, -, -, -, -, -, hsigM⟩ := Cond.code_spec hnamed hcode
  cases hmethM.symm.trans hmethM'
  obtain ⟨c2, r2, m2, q1, q2, q3, q4, kP, hkP, hkPi⟩ := Cond.selects_spec hsel
  cases hcls.symm.trans q1
  cases (State.methodFound?_of_named hnamed hy).symm.trans q2
  cases hnamed.symm.trans q3
  have hselP : selectMethod e.platform s.vm cellB.cls mk = .method mk := by rw [Launch.admits_selectMethod X.admits]; exact q4
  obtain ⟨vm₁, X₁, hstep₁⟩ := X.invokevirtual hexec hown hlink hnamed hmethM hstM hkP hkPi hy (a := b) (cell := cellB) hcell
    (fun z h => by rw [h] at hobj; cases hobj) hselP hmethM habM hkP hkPi (g := g) hg (argsL := argsL) (rest := rest) (hlen _ hsigM) hstack hdg
  rcases hK m meth c ⟨T.setVm vm₁, locs, cells, slots⟩ { g with stack := rest } (.invokevirtual index) mk (Value.ref b :: argsL).toArray X₁ hg hsize hdg hW (X₁.named hnamed) (hpre vm₁ X₁.warmed) with ⟨v, B, X', hpost, hsteps⟩ | ⟨q, B, X', hpost, hsteps⟩
  · exact Or.inl ⟨v, vm₁, B, X₁.warmed, X', hpost, fun target h => hstep₁ _ fun acts => by rw [doInvoke_state]; exact hsteps.trans h⟩
  · exact Or.inr ⟨q, vm₁, B, X₁.warmed, X', hpost, hstep₁ _ fun acts => by rw [doInvoke_state]; exact hsteps⟩
theorem vx_callS (X : Stand p l e R s m args below meth c T locs cells slots) (hexec : p.tables.exec = Jvm.exec) {own : String} {index : Nat} {y : MethodName} {bytes : ByteArray} {maxL : Nat} {ret : Option FieldType}
    (hown : s.vm.findClass own = some m.cls) (hlink : (Cond.methodLink own index y).before args s = true) (hstat : (Cond.static y).before args s = true) (hinit : (Cond.initialized y.cls).before args s = true)
    (hcode : (Cond.code y bytes maxL ret).before args s = true) (hy : y.cls ≠ "java/lang/invoke/MethodHandle" ∧ y.cls ≠ "java/lang/invoke/VarHandle")
    {W9 : Nat} {Pre : Pt → Array Value → Prop} {Post : Pt → Array Value → Option Value → Pt → Prop} {PostX : Pt → Array Value → Addr → Pt → Prop} (hK : vx_Back l R p e below s args y 3 W9 Pre Post PostX)
    {g : JFrame} (hg : g.method = m) (hsize : g.locals.size = c.maxLocals) {argsL rest : List Value} (hlen : ∀ sig, parseMethodDescriptor y.desc = some sig → argsL.length = sig.parameters.length)
    (hstack : g.stack = argsL.reverse ++ rest) (hW : 2 * g.monitorRoom + (rest.map fun v => v.category).sum ≤ W9) (hdg : decode c.code g.pc = .ok (.invokestatic index, 3))
    (hpre : ∀ vm₁, s.WarmedH vm₁ → Pre ⟨T.setVm vm₁, locs, cells, slots⟩ argsL.toArray) :
    (∃ (v : Option Value) (vm₁ : Vm) (B : Pt), s.WarmedH vm₁ ∧ Stand p l e R s m args below meth c B.U B.locs B.cells B.slots ∧ Post ⟨T.setVm vm₁, locs, cells, slots⟩ argsL.toArray v B ∧
      ∀ target, Steps p.tables e below (B.U.setTop { g with pc := g.pc + 3, stack := v.toList ++ rest }) target → Steps p.tables e below (T.setTop g) target) ∨
    (∃ (q : Addr) (vm₁ : Vm) (B : Pt), s.WarmedH vm₁ ∧ Stand p l e R s m args below meth c B.U B.locs B.cells B.slots ∧ PostX ⟨T.setVm vm₁, locs, cells, slots⟩ argsL.toArray q B ∧
      Steps p.tables e below (T.setTop g) ((B.U.setTop { g with stack := rest }).pushFrame (.throwing q))) := by
  obtain ⟨mk, hnamed⟩ := Cond.code_named hcode
  obtain ⟨methM, cM, hmethM, -, -, -, -, -, -, hsigM⟩ := Cond.code_spec hnamed hcode
  have hstatic : methM.isStatic = true := Cond.static_spec hnamed hmethM hstat
  obtain ⟨kP, hkP, -⟩ := className_of_methodNamed hnamed
  have hinitP : kP.init = .initialized := Cond.initialized_spec (findClass_of_methodNamed hnamed) hkP hinit
  obtain ⟨vm₁, X₁, hstep₁⟩ := X.invokestatic hexec hown hlink hnamed hmethM hstatic hkP hinitP hy (g := g) hg (argsL := argsL) (rest := rest) (hlen _ hsigM) hstack hdg
  rcases hK m meth c ⟨T.setVm vm₁, locs, cells, slots⟩ { g with stack := rest } (.invokestatic index) mk argsL.toArray X₁ hg hsize hdg hW (X₁.named hnamed) (hpre vm₁ X₁.warmed) with ⟨v, B, X', hpost, hsteps⟩ | ⟨q, B, X', hpost, hsteps⟩
  · exact Or.inl ⟨v, vm₁, B, X₁.warmed, X', hpost, fun target h => hstep₁ _ fun acts => by rw [doInvoke_state]; exact hsteps.trans h⟩
  · exact Or.inr ⟨q, vm₁, B, X₁.warmed, X', hpost, hstep₁ _ fun acts => by rw [doInvoke_state]; exact hsteps⟩
end Calls
theorem vx_cls {s : State} {T : State} {vm₁ : Vm} {E : String} {k : ClassId} (hW : s.WarmedH vm₁) (h : (T.setVm vm₁).vm.findClass E = some k) : s.vm.findClass E = some k := by
  have h1 : vm₁.findClass E = some k := h
  rw [hW.alike.findClass] at h1
  exact h1
/-- the method's frame g, with q thrown over it -/
def vx_W (p : Program) (l : Launch) (e : Env) (R : Room) (s : State) (m : MethodId) (args : Array Value) (below : List Frame) (meth : Method) (c : Code) (H : Heap) (locs : List Loc) (cells slots : Nat) (Q : State → Prop) (g : JFrame) (q : Addr) : Prop :=
  ∀ T : State, T.heap = H → Stand p l e R s m args below meth c T locs cells slots → ∃ t, Steps p.tables e below ((T.setTop g).pushFrame (.throwing q)) t ∧ Q t
def vx_Run (p : Program) (l : Launch) (e : Env) (R : Room) (s : State) (m : MethodId) (args : Array Value) (below : List Frame) (meth : Method) (c : Code) (H : Heap) (locs : List Loc) (cells slots mc ms : Nat) (g : JFrame) (rest : List Value) (Qa : State → Outcome → State → Prop) (XC : String → State → State → Prop) (free : Addr → Prop) : Prop :=
  ∀ T : State, T.heap = H → Stand p l e R s m args below meth c T locs cells slots →
    (∃ (v : Option Value) (st₀ t T' : State) (L : List Loc), st₀.heap = H ∧ Stand p l e R s m args below meth c T' (locs ++ L) (cells + mc) (slots + ms) ∧ (∀ q ∈ L, free q.base) ∧ T'.heap = t.heap ∧ T'.vm = t.vm ∧ Qa st₀ (.returned v) t ∧
      Goes p e below T g T' { g with pc := g.pc + 3, stack := v.toList ++ rest }) ∨
    (∃ (q : Addr) (st₀ t T' : State) (L : List Loc) (E : String) (ce : Cell), st₀.heap = H ∧ Stand p l e R s m args below meth c T' (locs ++ L) (cells + mc) (slots + ms) ∧ (∀ z ∈ L, free z.base) ∧ T'.heap = t.heap ∧ T'.vm = t.vm ∧ XC E st₀ t ∧ t.heap[q]? = some ce ∧ ce.vm = .none ∧ s.vm.findClass E = some ce.cls ∧
      Steps p.tables e below (T.setTop g) ((T'.setTop { g with stack := rest }).pushFrame (.throwing q)))
def vx_X {S : Type} (px : S → Prop) (B : String → S → State → Prop) (A : Nat → Prop) : String → State → State → Prop := fun E st t => ∃ u : S, px u ∧ B E u t ∧ va_F A st t
section Runs
variable {p : Program} {l : Launch} {e : Env} {R : Room} {s : State} {m : MethodId} {args : Array Value} {below : List Frame} {meth : Method} {c : Code} {H : Heap} {locs : List Loc} {cells slots : Nat}
variable {y : MethodName} {bytes cc : ByteArray} {maxL nL mc ms n index : Nat} {ret : Option FieldType} {ws : List Cond} {rm : Room} {Pc : Array Value → State → Prop} {Qc : Array Value → State → Outcome → State → Prop} {XC : String → State → State → Prop} {free : Addr → Prop} {Ts : List Cond} {own C : String} {b : Addr} {As rest : List Value} {g : JFrame}
theorem vx_callBack (cb : CallB R s args own index y bytes maxL ret ws rm mc ms n) (hM : vx_Met l y ws rm Pc Qc XC mc ms free) (hbl : FrameBlind Pc) : vx_Back l R p e below s args y 3 8 (PreOf R mc ms Pc) (PostOf Qc mc ms free) (vx_Post XC mc ms free) := by
  obtain ⟨hrc, hrs, hfr, hlo, hws, hcw, -, hini, -⟩ := cb
  exact vx_back (bytes := bytes) (maxL := maxL) (ret := ret) hM hbl hrc hrs hfr hlo hws hcw (fun a' U hW => word_at hW (Or.inl (by first | rfl | simp [Cond.onTables, Cond.keeps, Cond.steady])) hini)
theorem vx_runV (S : CallFix p m c cc nL s args Ts own) (hM : vx_Met l y ws rm Pc Qc XC mc ms free) (cw : CallW R s args own C index y bytes maxL ret ws rm mc ms n) (hp : PreV s H C b Pc As)
    (hg : g.method = m) (hn : As.length = n) (hsize : g.locals.size = nL) (hstack : g.stack = As.reverse ++ .ref b :: rest) (hW : 2 * g.monitorRoom + (rest.map fun v => v.category).sum ≤ 8) (hdg : decode cc g.pc = .ok (.invokevirtual index, 3)) (hf : cells + mc ≤ R.cells ∧ slots + ms ≤ R.slots) :
    vx_Run p l e R s m args below meth c H locs cells slots mc ms g rest (Qc (Value.ref b :: As).toArray) XC free := by
  have hK : vx_Back l R p e below s args y 3 8 (PreOf R mc ms Pc) (PostOf Qc mc ms free) (vx_Post XC mc ms free) := vx_callBack cw.1 hM hp.1
  obtain ⟨⟨-, -, -, -, -, -, hcode, -, hy, hlen, hl⟩, hin, hse⟩ := cw
  obtain ⟨hx, hb, hml, ho, -⟩ := S
  obtain ⟨-, ⟨cellB, hcB, hoB, hclB⟩, hPc⟩ := hp
  intro T hT X
  rcases vx_callV X hx (C := C) (bytes := bytes) (maxL := maxL) (ret := ret) ho hl hin hse hcode hy hK (by rw [hT]; exact hcB) hoB hclB hg (hsize.trans hml.symm) (argsL := As) (rest := rest) (fun sig h => hn.trans (hlen sig h)) hstack hW (by rw [hb]; exact hdg)
    (fun vm₁ hW₁ => ⟨hf.1, hf.2, hPc (T.setVm vm₁) hT hW₁⟩) with ⟨v, vm₁, ⟨U', l2, c2, s2⟩, hW₁, X', ⟨g', mk, t, L, e1, e2, hq, h1, hL, h2, h3⟩, st⟩ | ⟨q, vm₁, ⟨U', l2, c2, s2⟩, hW₁, X', ⟨g', mk, t, L, E, ce, e1, e2, hq, hce, hcv, hcl, h1, hL, h2, h3⟩, st⟩
  · dsimp only [Pt.U, Pt.locs, Pt.cells, Pt.slots] at X' e1 e2 h1 h2 h3 st
    subst h1; subst h2; subst h3
    exact Or.inl ⟨v, (T.setVm vm₁).calling g' mk (Value.ref b :: As).toArray, t, U', L, hT, X', hL, e1, e2, hq, st⟩
  · dsimp only [Pt.U, Pt.locs, Pt.cells, Pt.slots] at X' e1 e2 h1 h2 h3 st hcl
    subst h1; subst h2; subst h3
    exact Or.inr ⟨q, (T.setVm vm₁).calling g' mk (Value.ref b :: As).toArray, t, U', L, E, ce, hT, X', hL, e1, e2, hq, hce, hcv, vx_cls hW₁ hcl, st⟩
theorem vx_runS (S : CallFix p m c cc nL s args Ts own) (hM : vx_Met l y ws rm Pc Qc XC mc ms free) (cw : CallB R s args own index y bytes maxL ret ws rm mc ms n ∧ (Cond.static y).before args s = true) (hp : PreS s H Pc As)
    (hg : g.method = m) (hn : As.length = n) (hsize : g.locals.size = nL) (hstack : g.stack = As.reverse ++ rest) (hW : 2 * g.monitorRoom + (rest.map fun v => v.category).sum ≤ 8) (hdg : decode cc g.pc = .ok (.invokestatic index, 3)) (hf : cells + mc ≤ R.cells ∧ slots + ms ≤ R.slots) :
    vx_Run p l e R s m args below meth c H locs cells slots mc ms g rest (Qc As.toArray) XC free := by
  have hK : vx_Back l R p e below s args y 3 8 (PreOf R mc ms Pc) (PostOf Qc mc ms free) (vx_Post XC mc ms free) := vx_callBack cw.1 hM hp.1
  obtain ⟨⟨-, -, -, -, -, -, hcode, hini, hy, hlen, hl⟩, hstt⟩ := cw
  obtain ⟨hx, hb, hml, ho, -⟩ := S
  intro T hT X
  rcases vx_callS X hx (bytes := bytes) (maxL := maxL) (ret := ret) ho hl hstt hini hcode hy hK hg (hsize.trans hml.symm) (argsL := As) (rest := rest) (fun sig h => hn.trans (hlen sig h)) hstack hW (by rw [hb]; exact hdg)
    (fun vm₁ hW₁ => ⟨hf.1, hf.2, hp.2 (T.setVm vm₁) hT hW₁⟩) with ⟨v, vm₁, ⟨U', l2, c2, s2⟩, hW₁, X', ⟨g', mk, t, L, e1, e2, hq, h1, hL, h2, h3⟩, st⟩ | ⟨q, vm₁, ⟨U', l2, c2, s2⟩, hW₁, X', ⟨g', mk, t, L, E, ce, e1, e2, hq, hce, hcv, hcl, h1, hL, h2, h3⟩, st⟩
  · dsimp only [Pt.U, Pt.locs, Pt.cells, Pt.slots] at X' e1 e2 h1 h2 h3 st
    subst h1; subst h2; subst h3
    exact Or.inl ⟨v, (T.setVm vm₁).calling g' mk As.toArray, t, U', L, hT, X', hL, e1, e2, hq, st⟩
  · dsimp only [Pt.U, Pt.locs, Pt.cells, Pt.slots] at X' e1 e2 h1 h2 h3 st hcl
    subst h1; subst h2; subst h3
    exact Or.inr ⟨q, (T.setVm vm₁).calling g' mk As.toArray, t, U', L, E, ce, hT, X', hL, e1, e2, hq, hce, hcv, vx_cls hW₁ hcl, st⟩
end Runs
section Rows
variable {p : Program} {l : Launch} {e : Env} {R : Room} {s : State} {m : MethodId} {args : Array Value} {below : List Frame} {meth : Method} {c : Code} {H : Heap} {locs : List Loc} {cells slots : Nat} {Q : State → Prop}
variable {mc ms : Nat} {free : Addr → Prop} {A0 A1 : Nat → Prop} {H0 : Heap} {a : Array Value} {pc : Nat} {ls : Array Slot} {st0 rest : List Value}
theorem vx_keep {st₀ t T' : State} {L : List Loc} (h0 : st₀.heap = H) (e1 : T'.heap = t.heap) (hS : va_S A0 H0 H locs) (hA : ∀ q, q < H.size → A1 q → A0 q) (hf : ∀ q, free q → A0 q) (hL : ∀ q ∈ L, free q.base) (hF : va_F A1 st₀ t) :
    H.size ≤ T'.heap.size ∧ (∀ q : Nat, q < H.size → ¬ A1 q → T'.heap[q]? = H[q]?) ∧ va_S A0 H0 T'.heap (locs ++ L) := by
  obtain ⟨hz, hk⟩ := hF
  rw [h0] at hz hk
  exact ⟨by rw [e1]; exact hz, fun q h1 h2 => by rw [e1]; exact hk q h1 h2,
    ⟨Nat.le_trans hS.1 (by rw [e1]; exact hz), fun q h1 h2 => by rw [e1, hk q (Nat.lt_of_lt_of_le h1 hS.1) (fun z => h2 (hA q (Nat.lt_of_lt_of_le h1 hS.1) z))]; exact hS.2.1 q h1 h2, fun q hq => by
      rcases List.mem_append.mp hq with h | h
      · exact hS.2.2 q h
      · exact hf _ (hL q h)⟩⟩
theorem vx_calli {S SX : Type} {post : Int32 → S → Prop} {px : SX → Prop} {B : S → State → Prop} {BX : String → SX → State → Prop} {AX : Nat → Prop} (hr : vx_Run p l e R s m args below meth c H locs cells slots mc ms (F0 m pc ls st0) rest (va_Qi post B A1 a) (vx_X px BX AX) free) (hS : va_S A0 H0 H locs) (hA : ∀ q, q < H.size → A1 q → A0 q) (hf : ∀ q, free q → A0 q) (hAX : ∀ q, q < H.size → AX q → A0 q)
    (kx : ∀ (E : String) (ce : Cell) (q9 : Addr) (u : SX) (t : State) (H1 : Heap) (locs1 : List Loc), t.heap = H1 → s.vm.Alike t.vm → px u → BX E u t → H.size ≤ H1.size → (∀ q : Nat, q < H.size → ¬ AX q → H1[q]? = H[q]?) → va_S A0 H0 H1 locs1 → H1[q9]? = some ce → ce.vm = .none → s.vm.findClass E = some ce.cls → vx_W p l e R s m args below meth c H1 locs1 (cells + mc) (slots + ms) Q (F0 m pc ls rest) q9)
    (kk : ∀ (r : Int32) (u : S) (t : State) (H1 : Heap) (locs1 : List Loc), t.heap = H1 → s.vm.Alike t.vm → post r u → B u t → H.size ≤ H1.size → (∀ q : Nat, q < H.size → ¬ A1 q → H1[q]? = H[q]?) → va_S A0 H0 H1 locs1 → W p l e R s m args below meth c H1 locs1 (cells + mc) (slots + ms) Q (F0 m (pc + 3) ls (.int r :: rest))) : W p l e R s m args below meth c H locs cells slots Q (F0 m pc ls st0) := by
  intro T hT X
  rcases hr T hT X with ⟨v, st₀, t, T', L, h0, X', hL, e1, e2, ⟨⟨r, u, hv, hp, hb⟩, hF⟩, st⟩ | ⟨q, st₀, t, T', L, E, ce, h0, X', hL, e1, e2, ⟨u, hp, hb, hF⟩, hce, hcv, hcl, st⟩
  · cases hv
    obtain ⟨k1, k2, k3⟩ := vx_keep h0 e1 hS hA hf hL hF
    obtain ⟨t2, a1, b1⟩ := kk r u t T'.heap (locs ++ L) e1.symm (by rw [← e2]; exact X'.warmed.alike) hp hb k1 k2 k3 T' rfl X'
    exact ⟨t2, st t2 a1, b1⟩
  · obtain ⟨k1, k2, k3⟩ := vx_keep h0 e1 hS hAX hf hL hF
    obtain ⟨t2, a1, b1⟩ := kx E ce q u t T'.heap (locs ++ L) e1.symm (by rw [← e2]; exact X'.warmed.alike) hp hb k1 k2 k3 (by rw [e1]; exact hce) hcv hcl T' rfl X'
    exact ⟨t2, st.trans a1, b1⟩
theorem vx_calll {S SX : Type} {post : Int64 → S → Prop} {px : SX → Prop} {B : S → State → Prop} {BX : String → SX → State → Prop} {AX : Nat → Prop} (hr : vx_Run p l e R s m args below meth c H locs cells slots mc ms (F0 m pc ls st0) rest (va_Ql post B A1 a) (vx_X px BX AX) free) (hS : va_S A0 H0 H locs) (hA : ∀ q, q < H.size → A1 q → A0 q) (hf : ∀ q, free q → A0 q) (hAX : ∀ q, q < H.size → AX q → A0 q)
    (kx : ∀ (E : String) (ce : Cell) (q9 : Addr) (u : SX) (t : State) (H1 : Heap) (locs1 : List Loc), t.heap = H1 → s.vm.Alike t.vm → px u → BX E u t → H.size ≤ H1.size → (∀ q : Nat, q < H.size → ¬ AX q → H1[q]? = H[q]?) → va_S A0 H0 H1 locs1 → H1[q9]? = some ce → ce.vm = .none → s.vm.findClass E = some ce.cls → vx_W p l e R s m args below meth c H1 locs1 (cells + mc) (slots + ms) Q (F0 m pc ls rest) q9)
    (kk : ∀ (r : Int64) (u : S) (t : State) (H1 : Heap) (locs1 : List Loc), t.heap = H1 → s.vm.Alike t.vm → post r u → B u t → H.size ≤ H1.size → (∀ q : Nat, q < H.size → ¬ A1 q → H1[q]? = H[q]?) → va_S A0 H0 H1 locs1 → W p l e R s m args below meth c H1 locs1 (cells + mc) (slots + ms) Q (F0 m (pc + 3) ls (.long r :: rest))) : W p l e R s m args below meth c H locs cells slots Q (F0 m pc ls st0) := by
  intro T hT X
  rcases hr T hT X with ⟨v, st₀, t, T', L, h0, X', hL, e1, e2, ⟨⟨r, u, hv, hp, hb⟩, hF⟩, st⟩ | ⟨q, st₀, t, T', L, E, ce, h0, X', hL, e1, e2, ⟨u, hp, hb, hF⟩, hce, hcv, hcl, st⟩
  · cases hv
    obtain ⟨k1, k2, k3⟩ := vx_keep h0 e1 hS hA hf hL hF
    obtain ⟨t2, a1, b1⟩ := kk r u t T'.heap (locs ++ L) e1.symm (by rw [← e2]; exact X'.warmed.alike) hp hb k1 k2 k3 T' rfl X'
    exact ⟨t2, st t2 a1, b1⟩
  · obtain ⟨k1, k2, k3⟩ := vx_keep h0 e1 hS hAX hf hL hF
    obtain ⟨t2, a1, b1⟩ := kx E ce q u t T'.heap (locs ++ L) e1.symm (by rw [← e2]; exact X'.warmed.alike) hp hb k1 k2 k3 (by rw [e1]; exact hce) hcv hcl T' rfl X'
    exact ⟨t2, st.trans a1, b1⟩
theorem vx_callf {S SX : Type} {post : UInt32 → S → Prop} {px : SX → Prop} {B : S → State → Prop} {BX : String → SX → State → Prop} {AX : Nat → Prop} (hr : vx_Run p l e R s m args below meth c H locs cells slots mc ms (F0 m pc ls st0) rest (va_Qf post B A1 a) (vx_X px BX AX) free) (hS : va_S A0 H0 H locs) (hA : ∀ q, q < H.size → A1 q → A0 q) (hf : ∀ q, free q → A0 q) (hAX : ∀ q, q < H.size → AX q → A0 q)
    (kx : ∀ (E : String) (ce : Cell) (q9 : Addr) (u : SX) (t : State) (H1 : Heap) (locs1 : List Loc), t.heap = H1 → s.vm.Alike t.vm → px u → BX E u t → H.size ≤ H1.size → (∀ q : Nat, q < H.size → ¬ AX q → H1[q]? = H[q]?) → va_S A0 H0 H1 locs1 → H1[q9]? = some ce → ce.vm = .none → s.vm.findClass E = some ce.cls → vx_W p l e R s m args below meth c H1 locs1 (cells + mc) (slots + ms) Q (F0 m pc ls rest) q9)
    (kk : ∀ (r : UInt32) (u : S) (t : State) (H1 : Heap) (locs1 : List Loc), t.heap = H1 → s.vm.Alike t.vm → post r u → B u t → H.size ≤ H1.size → (∀ q : Nat, q < H.size → ¬ A1 q → H1[q]? = H[q]?) → va_S A0 H0 H1 locs1 → W p l e R s m args below meth c H1 locs1 (cells + mc) (slots + ms) Q (F0 m (pc + 3) ls (.float r :: rest))) : W p l e R s m args below meth c H locs cells slots Q (F0 m pc ls st0) := by
  intro T hT X
  rcases hr T hT X with ⟨v, st₀, t, T', L, h0, X', hL, e1, e2, ⟨⟨r, u, hv, hp, hb⟩, hF⟩, st⟩ | ⟨q, st₀, t, T', L, E, ce, h0, X', hL, e1, e2, ⟨u, hp, hb, hF⟩, hce, hcv, hcl, st⟩
  · cases hv
    obtain ⟨k1, k2, k3⟩ := vx_keep h0 e1 hS hA hf hL hF
    obtain ⟨t2, a1, b1⟩ := kk r u t T'.heap (locs ++ L) e1.symm (by rw [← e2]; exact X'.warmed.alike) hp hb k1 k2 k3 T' rfl X'
    exact ⟨t2, st t2 a1, b1⟩
  · obtain ⟨k1, k2, k3⟩ := vx_keep h0 e1 hS hAX hf hL hF
    obtain ⟨t2, a1, b1⟩ := kx E ce q u t T'.heap (locs ++ L) e1.symm (by rw [← e2]; exact X'.warmed.alike) hp hb k1 k2 k3 (by rw [e1]; exact hce) hcv hcl T' rfl X'
    exact ⟨t2, st.trans a1, b1⟩
theorem vx_calld {S SX : Type} {post : UInt64 → S → Prop} {px : SX → Prop} {B : S → State → Prop} {BX : String → SX → State → Prop} {AX : Nat → Prop} (hr : vx_Run p l e R s m args below meth c H locs cells slots mc ms (F0 m pc ls st0) rest (va_Qd post B A1 a) (vx_X px BX AX) free) (hS : va_S A0 H0 H locs) (hA : ∀ q, q < H.size → A1 q → A0 q) (hf : ∀ q, free q → A0 q) (hAX : ∀ q, q < H.size → AX q → A0 q)
    (kx : ∀ (E : String) (ce : Cell) (q9 : Addr) (u : SX) (t : State) (H1 : Heap) (locs1 : List Loc), t.heap = H1 → s.vm.Alike t.vm → px u → BX E u t → H.size ≤ H1.size → (∀ q : Nat, q < H.size → ¬ AX q → H1[q]? = H[q]?) → va_S A0 H0 H1 locs1 → H1[q9]? = some ce → ce.vm = .none → s.vm.findClass E = some ce.cls → vx_W p l e R s m args below meth c H1 locs1 (cells + mc) (slots + ms) Q (F0 m pc ls rest) q9)
    (kk : ∀ (r : UInt64) (u : S) (t : State) (H1 : Heap) (locs1 : List Loc), t.heap = H1 → s.vm.Alike t.vm → post r u → B u t → H.size ≤ H1.size → (∀ q : Nat, q < H.size → ¬ A1 q → H1[q]? = H[q]?) → va_S A0 H0 H1 locs1 → W p l e R s m args below meth c H1 locs1 (cells + mc) (slots + ms) Q (F0 m (pc + 3) ls (.double r :: rest))) : W p l e R s m args below meth c H locs cells slots Q (F0 m pc ls st0) := by
  intro T hT X
  rcases hr T hT X with ⟨v, st₀, t, T', L, h0, X', hL, e1, e2, ⟨⟨r, u, hv, hp, hb⟩, hF⟩, st⟩ | ⟨q, st₀, t, T', L, E, ce, h0, X', hL, e1, e2, ⟨u, hp, hb, hF⟩, hce, hcv, hcl, st⟩
  · cases hv
    obtain ⟨k1, k2, k3⟩ := vx_keep h0 e1 hS hA hf hL hF
    obtain ⟨t2, a1, b1⟩ := kk r u t T'.heap (locs ++ L) e1.symm (by rw [← e2]; exact X'.warmed.alike) hp hb k1 k2 k3 T' rfl X'
    exact ⟨t2, st t2 a1, b1⟩
  · obtain ⟨k1, k2, k3⟩ := vx_keep h0 e1 hS hAX hf hL hF
    obtain ⟨t2, a1, b1⟩ := kx E ce q u t T'.heap (locs ++ L) e1.symm (by rw [← e2]; exact X'.warmed.alike) hp hb k1 k2 k3 (by rw [e1]; exact hce) hcv hcl T' rfl X'
    exact ⟨t2, st.trans a1, b1⟩
theorem vx_callv {S SX : Type} {post : S → Prop} {px : SX → Prop} {B : S → State → Prop} {BX : String → SX → State → Prop} {AX : Nat → Prop} (hr : vx_Run p l e R s m args below meth c H locs cells slots mc ms (F0 m pc ls st0) rest (va_Qv post B A1 a) (vx_X px BX AX) free) (hS : va_S A0 H0 H locs) (hA : ∀ q, q < H.size → A1 q → A0 q) (hf : ∀ q, free q → A0 q) (hAX : ∀ q, q < H.size → AX q → A0 q)
    (kx : ∀ (E : String) (ce : Cell) (q9 : Addr) (u : SX) (t : State) (H1 : Heap) (locs1 : List Loc), t.heap = H1 → s.vm.Alike t.vm → px u → BX E u t → H.size ≤ H1.size → (∀ q : Nat, q < H.size → ¬ AX q → H1[q]? = H[q]?) → va_S A0 H0 H1 locs1 → H1[q9]? = some ce → ce.vm = .none → s.vm.findClass E = some ce.cls → vx_W p l e R s m args below meth c H1 locs1 (cells + mc) (slots + ms) Q (F0 m pc ls rest) q9)
    (kk : ∀ (u : S) (t : State) (H1 : Heap) (locs1 : List Loc), t.heap = H1 → s.vm.Alike t.vm → post u → B u t → H.size ≤ H1.size → (∀ q : Nat, q < H.size → ¬ A1 q → H1[q]? = H[q]?) → va_S A0 H0 H1 locs1 → W p l e R s m args below meth c H1 locs1 (cells + mc) (slots + ms) Q (F0 m (pc + 3) ls (rest))) : W p l e R s m args below meth c H locs cells slots Q (F0 m pc ls st0) := by
  intro T hT X
  rcases hr T hT X with ⟨v, st₀, t, T', L, h0, X', hL, e1, e2, ⟨⟨u, hv, hp, hb⟩, hF⟩, st⟩ | ⟨q, st₀, t, T', L, E, ce, h0, X', hL, e1, e2, ⟨u, hp, hb, hF⟩, hce, hcv, hcl, st⟩
  · cases hv
    obtain ⟨k1, k2, k3⟩ := vx_keep h0 e1 hS hA hf hL hF
    obtain ⟨t2, a1, b1⟩ := kk u t T'.heap (locs ++ L) e1.symm (by rw [← e2]; exact X'.warmed.alike) hp hb k1 k2 k3 T' rfl X'
    exact ⟨t2, st t2 a1, b1⟩
  · obtain ⟨k1, k2, k3⟩ := vx_keep h0 e1 hS hAX hf hL hF
    obtain ⟨t2, a1, b1⟩ := kx E ce q u t T'.heap (locs ++ L) e1.symm (by rw [← e2]; exact X'.warmed.alike) hp hb k1 k2 k3 (by rw [e1]; exact hce) hcv hcl T' rfl X'
    exact ⟨t2, st.trans a1, b1⟩
/-- caught by the row x of this method's table; the rows ahead don't take it -/
theorem vx_catch {own name : String} {E : String} {ce : Cell} {q : Addr} (hown : s.vm.findClass own = some m.cls) (pre : List ExceptionTableEntry) (x : ExceptionTableEntry) (suf : List ExceptionTableEntry) (hsplit : c.exceptionTable.toList = pre ++ x :: suf)
    (hpass : ∀ z ∈ pre, covers z pc = false ∨ (z.catchType ≠ 0 ∧ ∃ nm : String, (Cond.classLink own z.catchType nm).before args s = true ∧ va_Nc E nm s)) (hx : covers x pc = true) (h0 : x.catchType ≠ 0)
    (hlink : (Cond.classLink own x.catchType name).before args s = true) (hcast : (Cond.castable E name).before args s = true) (hcell : H[q]? = some ce) (hv : ce.vm = .none) (hcl : s.vm.findClass E = some ce.cls)
    (kk : W p l e R s m args below meth c H locs cells slots Q (F0 m x.handlerPc ls [.ref q])) : vx_W p l e R s m args below meth c H locs cells slots Q (F0 m pc ls rest) q := by
  intro T hT X
  have hpl : e.platform.magicAccessors = ({} : Platform).magicAccessors := by rw [X.admits.platform]
  obtain ⟨c3, c4, hc3, hc4, hasg⟩ := Cond.castable_spec hcast
  cases Option.some.inj (hc3.symm.trans hcl)
  obtain ⟨c5, hc5, hcl5⟩ := Cond.classLink_spec hown hlink e.platform hpl
  cases Option.some.inj (hc4.symm.trans hc5)
  obtain ⟨vm', X', st⟩ := X.thenCaughtThrough q (g := F0 m pc ls rest) rfl (Steps.refl _) (by rw [hT]; exact hcell) (by rw [hv]; rfl) (by obtain ⟨k9, h9, -⟩ := Vm.findClass_spec hcl; exact ⟨k9, h9⟩) pre x suf hsplit
    (fun z hz => by
      rcases hpass z hz with h | ⟨hz0, nm, hl1, hn1⟩
      · exact Or.inl h
      · obtain ⟨c6, hc6, hcl6⟩ := Cond.classLink_spec hown hl1 e.platform hpl
        obtain ⟨a8, b8, h1, h2, h3⟩ := hn1
        cases Option.some.inj (h1.symm.trans hcl)
        cases Option.some.inj (h2.symm.trans hc6)
        exact Or.inr ⟨hz0, _, hcl6, h3⟩) hx (Or.inr ⟨h0, c4, hcl5, hasg⟩)
  obtain ⟨t, a1, b1⟩ := kk (T.setVm vm') hT X'
  exact ⟨t, st.trans a1, b1⟩
end Rows
section Ends
variable {p : Program} {l : Launch} {e : Env} {R : Room} {s : State} {m : MethodId} {args : Array Value} {below : List Frame} {meth : Method} {c : Code} {H : Heap} {locs : List Loc} {cells slots : Nat} {Q : State → Prop}
variable {mc ms : Nat} {free : Addr → Prop} {A0 A1 : Nat → Prop} {H0 : Heap} {a : Array Value} {ls : Array Slot} {st0 rest : List Value}
variable {Qc : Array Value → State → Outcome → State → Prop} {XC : String → State → State → Prop}
/-- what a body that may throw owes at its end -/
def vx_MQ (below : List Frame) (Qc : Array Value → State → Outcome → State → Prop) (XC : String → State → State → Prop) (a : Array Value) (s : State) (mc ms : Nat) (free : Addr → Prop) : State → Prop := fun t =>
  ∃ o, t.status = .running ∧ Ended t below o ∧ vx_Q Qc XC mc ms free a s o t
theorem vx_ret {g : JFrame} {mc ms : Nat} (k : W p l e R s m args below meth c H locs cells slots (MQ below Qc args s mc ms free) g) : W p l e R s m args below meth c H locs cells slots (vx_MQ below Qc XC args s mc ms free) g := by
  intro T hT X
  obtain ⟨t, a1, o, b1, b2, b3, b4⟩ := k T hT X
  exact ⟨t, a1, o, b1, b2, Or.inl ⟨b3, b4⟩⟩
/-- not caught here: it goes on to the caller -/
theorem vx_widen {g : JFrame} {q : Addr} {k n : Nat} (h1 : cells ≤ k) (h2 : slots ≤ n) (kk : vx_W p l e R s m args below meth c H locs k n Q g q) : vx_W p l e R s m args below meth c H locs cells slots Q g q := fun T hT X => kk T hT (stand_widen X h1 h2)
theorem vx_out {pc : Nat} {E : String} {ce : Cell} {q : Addr} {mc ms : Nat} (hout : ∀ x ∈ c.exceptionTable.toList, covers x pc = false) (hlocks : meth.locks = false) (hcell : H[q]? = some ce) (hv : ce.vm = .none) (hcl : s.vm.findClass E = some ce.cls)
    (hx : ∀ t : State, t.heap = H → s.vm.Alike t.vm → XC E s t) (hf : ∀ z ∈ locs, free z.base) (hc : cells ≤ mc) (hs : slots ≤ ms) :
    vx_W p l e R s m args below meth c H locs cells slots (vx_MQ below Qc XC args s mc ms free) (F0 m pc ls rest) q := by
  intro T hT X
  obtain ⟨st1, hrun, hend, hW, hsm⟩ := X.leaveThrown q (g := F0 m pc ls rest) rfl rfl rfl hout hlocks
  have hcell9 : (T.setFrames (.throwing q :: below)).heap[q]? = some ce := by
    show T.heap[q]? = some ce
    rw [hT]; exact hcell
  exact ⟨_, st1, .threw q, hrun, hend, Or.inr ⟨q, rfl, E, ce, locs, hx _ hT hW.alike, hcell9, hv, hcl, hW, hsm.mono hc hs, hf⟩⟩
theorem vx_frame {U : State} {k n : Nat} (h : s.sameButNew ({ U with vm := s.vm } : State) locs k n) : s.heap.size ≤ U.heap.size ∧ ∀ q : Nat, q < s.heap.size → (∀ z ∈ locs, z.base ≠ q) → U.heap[q]? = s.heap[q]? := by
  obtain ⟨-, h2, -, -, -, h6⟩ := h
  refine ⟨h2, fun q hq hz => ?_⟩
  obtain ⟨c9, e1, e2, e3, e4⟩ := h6 q _ (Array.getElem?_eq_getElem hq)
  have hs : c9.slots = (s.heap[q]).slots := Array.ext_getElem? fun i => e4 i fun hm => hz _ hm rfl
  have h9 : c9 = s.heap[q] := by
    rw [hs] at e2
    exact e2
  have e5 : U.heap[q]? = some c9 := e1
  rw [e5, h9, Array.getElem?_eq_getElem hq]
/-- the words of a throw but the four that speak of the heap -/
def vx_no (w : Cond) : Bool := decide (w ≠ .isRef (.static Bundle.tN "UNASSIGNED_STACK" Bundle.steD)) && decide (w ≠ .isRef (.static Bundle.tN "SUPPRESSED_SENTINEL" Bundle.listD)) && decide (w ≠ .laysStatic Bundle.tN "UNASSIGNED_STACK" Bundle.steD) && decide (w ≠ .laysStatic Bundle.tN "SUPPRESSED_SENTINEL" Bundle.listD)
def vx_at0 (own : String) (ic : Nat) (X : String) (names : List String) : List Cond := (Bundle.ownAtoms0 own ic X names).filter vx_no
def vx_atS (own : String) (ic : Nat) (X : String) (names : List String) : List Cond := (Bundle.ownAtoms own ic X names).filter vx_no
/-- a word that the tables alone decide, or a good one -/
def vx_ot (w : Cond) : Bool := w.onTables || goodWord w
theorem vx_ot_at {args a' : Array Value} {s U : State} {w : Cond} (hW : s.WarmedH U.vm) (hvm : s.vm = U.vm) (hg : vx_ot w = true) (h : w.before args s = true) : w.before a' U = true := by
  simp only [vx_ot, Bool.or_eq_true] at hg
  rcases hg with hg | hg
  · exact va_tabs hg hvm h
  · exact word_at hW (good_of_word hg) h
/-- a list's words: the good ones out of the method's own list, the others by premises of their own -/
theorem vx_hat {args : Array Value} {s : State} {L B : List Cond} (h1 : ∀ w ∈ L.filter goodWord, w.before args s = true) (h2 : ∀ w ∈ L.filter (fun w => !goodWord w), w ∈ B) (h3 : ∀ w ∈ B, w.before args s = true) : ∀ w ∈ L, w.before args s = true := by
  intro w hw
  by_cases g : goodWord w = true
  · exact h1 w (List.mem_filter.mpr ⟨hw, g⟩)
  · refine h3 w (h2 w (List.mem_filter.mpr ⟨hw, ?_⟩))
    show (!goodWord w) = true
    cases hgw : goodWord w
    · rfl
    · exact absurd hgw g
theorem vx_c {args : Array Value} {s : State} {w : Cond} {B : List Cond} (h : w.before args s = true) (t : ∀ w ∈ B, w.before args s = true) : ∀ w' ∈ w :: B, w'.before args s = true := fun w' h' => (List.mem_cons.mp h').elim (fun e => by rw [e]; exact h) (t w')
theorem vx_n {args : Array Value} {s : State} : ∀ w ∈ ([] : List Cond), w.before args s = true := fun _ h => nomatch h
theorem vx_own {args : Array Value} {s : State} {L : List Cond} (h1 : ∀ w ∈ L.filter vx_no, w.before args s = true)
    (hU : (Cond.isRef (.static Bundle.tN "UNASSIGNED_STACK" Bundle.steD)).before args s = true) (hN : (Cond.isRef (.static Bundle.tN "SUPPRESSED_SENTINEL" Bundle.listD)).before args s = true)
    (lU : (Cond.laysStatic Bundle.tN "UNASSIGNED_STACK" Bundle.steD).before args s = true) (lN : (Cond.laysStatic Bundle.tN "SUPPRESSED_SENTINEL" Bundle.listD).before args s = true) : ∀ w ∈ L, w.before args s = true := by
  intro w hw
  by_cases e1 : w = .isRef (.static Bundle.tN "UNASSIGNED_STACK" Bundle.steD)
  · rw [e1]; exact hU
  · by_cases e2 : w = .isRef (.static Bundle.tN "SUPPRESSED_SENTINEL" Bundle.listD)
    · rw [e2]; exact hN
    · by_cases e3 : w = .laysStatic Bundle.tN "UNASSIGNED_STACK" Bundle.steD
      · rw [e3]; exact lU
      · by_cases e4 : w = .laysStatic Bundle.tN "SUPPRESSED_SENTINEL" Bundle.listD
        · rw [e4]; exact lN
        · exact h1 w (List.mem_filter.mpr ⟨hw, by unfold vx_no; rw [decide_eq_true e1, decide_eq_true e2, decide_eq_true e3, decide_eq_true e4]; rfl⟩)
/-- where a static field lies, its class's statics cell in H -/
def vx_L (C n d : String) (A : Nat → Prop) (U : State) (H : Heap) : Prop := ∃ (c : ClassId) (k : Class) (i : Nat) (f : Field) (a : Nat) (cell : Cell), U.vm.findClass C = some c ∧ U.fieldFound? C n d = some (c, k, i, f) ∧ f.isStatic = true ∧ k.statics = some a ∧ H[a]? = some cell ∧ cell.vm.isStatics = true ∧ cell.cls = c ∧ f.slot < cell.slots.size ∧ k.staticTypes[f.slot]? = some f.type ∧ ¬ A a
theorem vx_L.moved {C n d : String} {A : Nat → Prop} {u U : State} {H : Heap} (hvm : u.vm.Alike U.vm) (h : vx_L C n d A u H) : vx_L C n d A U H := by
  obtain ⟨c, k, i, f, a, cell, h1, h2, h3, h4, h5, h6, h7, h8, h9, h10⟩ := h
  obtain ⟨k', hi', he⟩ := State.fieldFound?_setVm hvm h2
  exact ⟨c, k', i, f, a, cell, by rw [hvm.findClass]; exact h1, hi', h3, by rw [he]; exact h4, h5, h6, h7, h8, by rw [he]; exact h9, h10⟩
theorem vx_L.kept {C n d : String} {A : Nat → Prop} {U : State} {H H1 : Heap} (h : vx_L C n d A U H) (hq : ∀ a : Nat, a < H.size → ¬ A a → H1[a]? = H[a]?) : vx_L C n d A U H1 := by
  obtain ⟨c, k, i, f, a, cell, h1, h2, h3, h4, h5, h6, h7, h8, h9, h10⟩ := h
  exact ⟨c, k, i, f, a, cell, h1, h2, h3, h4, by rw [hq a (Array.getElem?_eq_some_iff.mp h5).1 h10]; exact h5, h6, h7, h8, h9, h10⟩
theorem vx_L.narrow {C n d : String} {A B : Nat → Prop} {U : State} {H : Heap} (h : vx_L C n d A U H) (hAB : ∀ q, B q → A q) : vx_L C n d B U H := by
  obtain ⟨c, k, i, f, a, cell, h1, h2, h3, h4, h5, h6, h7, h8, h9, h10⟩ := h
  exact ⟨c, k, i, f, a, cell, h1, h2, h3, h4, h5, h6, h7, h8, h9, fun z => h10 (hAB _ z)⟩
theorem vx_L.word {C n d : String} {A : Nat → Prop} {s : State} {args : Array Value} (h : vx_L C n d A s s.heap) : (Cond.laysStatic C n d).before args s = true := by
  obtain ⟨c, k, i, f, a, cell, h1, h2, h3, h4, h5, h6, h7, h8, h9, -⟩ := h
  show (Cond.laysStatic C n d).holds args s none s [] = true
  exact Cond.laysStatic_of h1 h2 h3 h4 h5 h6 h7 h8 h9
/-- .. and what it holds: null or some reference -/
def vx_Zq (C n d : String) (A : Nat → Prop) (U : State) (H : Heap) : Prop := va_Zq C n d A U H ∧ vx_L C n d A U H
theorem vx_Zq.moved {C n d : String} {A : Nat → Prop} {u U : State} {H : Heap} (hvm : u.vm.Alike U.vm) (h : vx_Zq C n d A u H) : vx_Zq C n d A U H := ⟨va_Zq.moved hvm h.1, vx_L.moved hvm h.2⟩
theorem vx_Zq.kept {C n d : String} {A : Nat → Prop} {U : State} {H H1 : Heap} (h : vx_Zq C n d A U H) (hq : ∀ a : Nat, a < H.size → ¬ A a → H1[a]? = H[a]?) : vx_Zq C n d A U H1 := ⟨va_Zq.kept h.1 hq, vx_L.kept h.2 hq⟩
theorem vx_Zq.narrow {C n d : String} {A B : Nat → Prop} {U : State} {H : Heap} (h : vx_Zq C n d A U H) (hAB : ∀ q, B q → A q) : vx_Zq C n d B U H := ⟨va_Zq.narrow h.1 hAB, vx_L.narrow h.2 hAB⟩
theorem vx_Zqof {args : Array Value} {s : State} {C n d : String} {A : Nat → Prop} (hl : (Cond.laysStatic C n d).before args s = true) (hini : (Cond.initialized C).before args s = true) (h : (Cond.isRef (.static C n d)).before args s = true) (hA : ∀ a : Nat, a < s.heap.size → ¬ A a) : vx_Zq C n d A s s.heap := by
  refine ⟨va_Zqof hl hini h hA, ?_⟩
  obtain ⟨c, k, i, f, a, cell, h1, h2, h3, h4, h5, h6, h7, h8, h9⟩ := Cond.laysStatic_spec hl
  exact ⟨c, k, i, f, a, cell, h1, h2, h3, h4, h5, h6, h7, h8, h9, hA a (Array.getElem?_eq_some_iff.mp h5).1⟩
theorem vx_isRef {C n d : String} {v : Value} {A : Nat → Prop} {s : State} {args : Array Value} (h : va_Z C n d v A s s.heap) (hv : v.isRef = true) : (Cond.isRef (.static C n d)).before args s = true := by
  obtain ⟨cf, kf, fi, f, a, cell, h1, h2, h3, h4, h5, h6, h7, -⟩ := h
  have he : (Term.static C n d).eval args s none [] s = some v := by
    simp [Term.eval, State.fieldNamed?, h1, h2, h4, h5, h6, h7]
  simp only [Cond.before, Cond.holds, Cond.value, he]
  cases v <;> simp_all [Value.isRef]
theorem vx_isRefq {C n d : String} {A : Nat → Prop} {s : State} {args : Array Value} (h : va_Zq C n d A s s.heap) : (Cond.isRef (.static C n d)).before args s = true := by
  rcases h with h | ⟨t, h⟩
  · exact vx_isRef h rfl
  · exact vx_isRef h rfl
/-- the same frame, seen from here: as if the method were called anew in this heap -/
theorem vx_rebase {T : State} (X : Stand p l e R s m args below meth c T locs cells slots) {R' : Room} (hf : R'.frames ≤ R.frames) (hl : R'.locals ≤ R.locals) (hc : cells + R'.cells ≤ R.cells) (hs : slots + R'.slots ≤ R.slots) :
    Stand p l e R' ((T.setVm s.vm).setFrames (.invoking m args :: below)) m args below meth c T [] 0 0 := by
  have htop : (T.setVm s.vm).topJava?.isSome := X.here.top
  have hF : ((T.setVm s.vm).setFrames (.invoking m args :: below)).frames = .invoking m args :: below := State.frames_setFrames _ (State.cur_lt_of_top htop)
  obtain ⟨g₀, hg0⟩ := Option.isSome_iff_exists.mp htop
  obtain ⟨r, hr⟩ := State.topJava?_eq_some.mp hg0
  have hl9 : e.platform.stackLimits (T.setVm s.vm).me = e.platform.stackLimits s.me := X.limits
  have hb9 : (T.setVm s.vm).me.stackBytes = s.me.stackBytes := X.bytes
  refine ⟨X.admits, X.cas, X.clock, hF, ?_, X.hears, X.method, X.code, X.here, X.tail, X.warmed, ?_, ?_, ?_⟩
  · have h := X.room
    have hU : ((T.setVm s.vm).setFrames (.invoking m args :: below)).localsInUse = s.localsInUse := by
      rw [State.localsInUse_invoking hF (meth := meth) (c := c) X.method X.code, State.localsInUse_invoking X.frames X.method X.code]
    simp only [State.hasRoom, Bool.and_eq_true, decide_eq_true_eq] at h ⊢
    obtain ⟨⟨⟨⟨h1, h2, h3, h4, h5, h6⟩, h7⟩, h8⟩, h9⟩ := h
    rw [X.frames, List.length_cons] at h2 h3
    have q1 := X.heapSize
    have q2 := X.used
    simp only [hF, hU, List.length_cons, State.stackLimits_setFrames, State.stackBytes_setFrames, hl9, hb9]
    refine ⟨⟨⟨⟨by omega, by omega, by omega, by omega, by omega, h6⟩, ?_⟩, ?_⟩, X.book⟩
    · show T.heap.size + R'.cells ≤ e.platform.maxCells
      omega
    · show T.slotsUsed + R'.slots ≤ e.platform.maxSlots
      omega
  · rw [State.stackLimits_setFrames]; rfl
  · rw [State.stackBytes_setFrames]; rfl
  · refine ⟨?_, Nat.le_refl _, Nat.le_refl _, ?_, ?_, fun a c9 h9 => ⟨c9, h9, rfl, rfl, fun _ _ => rfl⟩⟩
    · obtain ⟨t, ht, -⟩ := State.frames_cons hr
      show T.setVm s.vm = { ((T.setVm s.vm).setFrames (.invoking m args :: below)).setFrames (T.setVm s.vm).frames with heap := T.heap, slotsUsed := T.slotsUsed }
      rw [State.setFrames_setFrames, State.setFrames_self ht]
      rfl
    · show T.slotsUsed = T.slotsUsed + ((T.heap.toList.drop T.heap.size).map (·.slots.size)).sum
      rw [List.drop_eq_nil_of_le (Nat.le_of_eq Array.length_toList)]
      rfl
    · show ((T.heap.toList.drop T.heap.size).map (·.slots.size)).sum ≤ 0
      rw [List.drop_eq_nil_of_le (Nat.le_of_eq Array.length_toList)]
      exact Nat.le_refl _
/-- 'throw new E()': new; dup; invokespecial; athrow -/
theorem vx_throw0 {cc : ByteArray} {pc : Nat} (hexec : p.tables.exec = Jvm.exec) (hb : c.code = cc) (hl : l.stackTraces = false) {own cls : String} {names : List String} {ik ic mc ms : Nat} {A : Nat → Prop}
    (hown : s.vm.findClass own = some m.cls) (hcls : Bundle.fit cls = true) (hnames : ∀ n ∈ names, Bundle.fit n = true)
    (hk : (Cond.classLink own ik cls).before args s = true) (hini : (Cond.initialized cls).before args s = true) (hat : ∀ w ∈ vx_at0 own ic cls names, w.before args s = true)
    (hgood : ∀ w ∈ Cond.classLink own ik cls :: Cond.initialized cls :: vx_at0 own ic cls names, vx_ot w = true)
    (hU : vx_Zq Bundle.tN "UNASSIGNED_STACK" Bundle.steD A s s.heap) (hN : vx_Zq Bundle.tN "SUPPRESSED_SENTINEL" Bundle.listD A s s.heap) (hS : va_S A s.heap H locs) (hsize : ls.size = c.maxLocals)
    (d0 : decode cc pc = .ok (.new ik, 3)) (d3 : decode cc (pc + 3) = .ok (.dup, 1)) (d4 : decode cc (pc + 4) = .ok (.invokespecial ic, 3)) (d7 : decode cc (pc + 7) = .ok (.athrow, 1))
    (hout : ∀ x ∈ c.exceptionTable.toList, covers x (pc + 7) = false)
    (hRframes : names.length + 3 < R.frames) (hRlocals : (rest.map fun v => v.category).sum + (13 * (names.length + 1) + 42) ≤ R.locals) (hRcells : cells + 1 ≤ R.cells) (hRslots : slots + 6 ≤ R.slots) (hlocks : meth.locks = false)
    (hx : ∀ t : State, s.vm.Alike t.vm → H.size ≤ t.heap.size → (∀ q : Nat, q < H.size → t.heap[q]? = H[q]?) → XC cls s t)
    (hf : ∀ z ∈ locs, free z.base) (hc : cells + 1 ≤ mc) (hs : slots + 6 ≤ ms) :
    W p l e R s m args below meth c H locs cells slots (vx_MQ below Qc XC args s mc ms free) (F0 m pc ls rest) := by
  intro T hT X
  have htr : e.platform.stackTraces = false := (show e.platform.stackTraces = l.stackTraces by rw [X.admits.platform]).trans hl
  have Y := vx_rebase X (R' := { frames := R.frames, locals := R.locals, cells := 1, slots := 6 }) (Nat.le_refl _) (Nat.le_refl _) hRcells hRslots
  obtain ⟨s', hA⟩ : ∃ z, z = (T.setVm s.vm).setFrames (.invoking m args :: below) := ⟨_, rfl⟩
  rw [← hA] at Y
  have hvm : s'.vm = s.vm := by rw [hA]; rfl
  have hhp : s'.heap = H := by rw [hA]; exact hT
  have hW0 : s.WarmedH s'.vm := by rw [hvm]; exact State.WarmedH.refl s
  have hat' : ∀ w ∈ vx_at0 own ic cls names, w.before args s' = true := fun w hw => vx_ot_at hW0 hvm.symm (hgood w (List.mem_cons_of_mem _ (List.mem_cons_of_mem _ hw))) (hat w hw)
  have hk' : (Cond.classLink own ik cls).before args s' = true := vx_ot_at hW0 hvm.symm (hgood _ List.mem_cons_self) hk
  have hini' : (Cond.initialized cls).before args s' = true := vx_ot_at hW0 hvm.symm (hgood _ (List.mem_cons_of_mem _ List.mem_cons_self)) hini
  have hU' : vx_Zq Bundle.tN "UNASSIGNED_STACK" Bundle.steD A s' s'.heap := by rw [hhp]; exact vx_Zq.moved hW0.alike (hU.kept hS.2.1)
  have hN' : vx_Zq Bundle.tN "SUPPRESSED_SENTINEL" Bundle.listD A s' s'.heap := by rw [hhp]; exact vx_Zq.moved hW0.alike (hN.kept hS.2.1)
  have h : ∀ w ∈ Bundle.ownAtoms0 own ic cls names, w.before args s' = true := vx_own hat' (vx_isRefq hU'.1) (vx_isRefq hN'.1) hU'.2.word hN'.2.word
  have hown' : s'.vm.findClass own = some m.cls := by rw [hvm]; exact hown
  have hins : (Cond.instantiable cls 6).before args s' = true := h _ (by simp [Bundle.ownAtoms0])
  obtain ⟨vm₁, cX, kX, hfX, hkX, -, -, X₁, st1⟩ := Y.newCold hexec (own := own) (C := cls) (index := ik) (n := 6) hown' hk' hins hini'
    (g := F0 m pc ls rest) rfl (by rw [hb]; exact d0) (Nat.le_refl _) (Nat.le_refl _)
  generalize hT1 : (T.setVm vm₁).pushCell { cls := cX, slots := kX.instanceTypes.map defaultValue, vm := .none } = T1 at X₁ st1
  have hcat : (Value.ref T.heap.size).category = 1 := rfl
  have hcellA : T1.heap[T.heap.size]? = some (freshCell cX kX) := by rw [← hT1]; exact State.heap_pushCell_size _ _
  have d3' : decode c.code (pc + 3) = .ok (.dup, 1) := by rw [hb]; exact d3
  obtain ⟨U, hsteps, hrun, hend, hW, hsame, ce, hce, hO⟩ := X₁.ctorThrow0 hexec htr (own := own) (cls := cls) (names := names) (ic := ic) hown' hcls hnames h (fun x hx => nomatch hx) hfX hkX hcellA (by rw [hhp, hT]; exact Nat.le_refl _)
    (g := { method := m, pc := pc + 4, locals := ls, stack := .ref T.heap.size :: .ref T.heap.size :: rest, locked := none }) rfl hsize rfl rfl (rest := rest) rfl
    (by rw [hb]; exact d4) (by rw [hb]; exact d7) hout hRframes (by simp only [List.map_cons, List.sum_cons, hcat]; omega) hlocks
  obtain ⟨f1, f2⟩ := vx_frame hsame
  rw [hhp] at f1 f2
  have hWs : s.WarmedH U.vm := State.WarmedH.trans hW0 hW
  have hcl : s.vm.findClass cls = some ce.cls := by
    have h9 := hO.cls
    rw [hvm] at h9
    exact h9
  have hall : s.sameButNew ({ U with vm := s.vm } : State) locs mc ms := by
    subst hA
    obtain ⟨e1, e2⟩ := hsame
    rw [State.setFrames_setFrames] at e1
    have h2 : (T.setVm s.vm).sameButNew ({ U with vm := s.vm } : State) [] (0 + 1) (0 + 6) := ⟨e1, e2⟩
    have h3 := X.same.trans h2
    rw [List.append_nil] at h3
    exact h3.mono hc hs
  refine ⟨U, ?_, .threw T.heap.size, hrun, hend, Or.inr ⟨T.heap.size, rfl, cls, ce, locs, hx U hWs.alike f1 (fun q hq => f2 q hq (fun z hz => nomatch hz)), hce, hO.vm, hcl, hWs, hall, hf⟩⟩
  refine st1 _ ?_
  show Steps p.tables e below (T1.setTop { method := m, pc := pc + 3, locals := ls, stack := .ref T.heap.size :: rest, locked := none }) _
  jvm_step X₁.here [X₁.here.top, hexec, d3', Value.category]
  exact hsteps
/-- 'throw new E("text")': new; dup; ldc; invokespecial; athrow -/
theorem vx_throwS {cc : ByteArray} {pc : Nat} (hexec : p.tables.exec = Jvm.exec) (hb : c.code = cc) (hl : l.stackTraces = false) {own cls text : String} {names : List String} {ik is ic mc ms sa : Nat} {A : Nat → Prop}
    (hown : s.vm.findClass own = some m.cls) (hcls : Bundle.fit cls = true) (hnames : ∀ n ∈ names, Bundle.fit n = true)
    (hk : (Cond.classLink own ik cls).before args s = true) (hini : (Cond.initialized cls).before args s = true) (hstr : vk_R own is text sa s) (hat : ∀ w ∈ vx_atS own ic cls names, w.before args s = true)
    (hgood : ∀ w ∈ Cond.classLink own ik cls :: Cond.initialized cls :: vx_atS own ic cls names, vx_ot w = true)
    (hU : vx_Zq Bundle.tN "UNASSIGNED_STACK" Bundle.steD A s s.heap) (hN : vx_Zq Bundle.tN "SUPPRESSED_SENTINEL" Bundle.listD A s s.heap) (hS : va_S A s.heap H locs) (hsize : ls.size = c.maxLocals)
    (d0 : decode cc pc = .ok (.new ik, 3)) (d3 : decode cc (pc + 3) = .ok (.dup, 1)) (d4 : decode cc (pc + 4) = .ok (.ldc is, 2)) (d6 : decode cc (pc + 6) = .ok (.invokespecial ic, 3)) (d9 : decode cc (pc + 9) = .ok (.athrow, 1))
    (hout : ∀ x ∈ c.exceptionTable.toList, covers x (pc + 9) = false)
    (hRframes : names.length + 3 < R.frames) (hRlocals : (rest.map fun v => v.category).sum + (13 * (names.length + 1) + 43) ≤ R.locals) (hRcells : cells + 1 ≤ R.cells) (hRslots : slots + 6 ≤ R.slots) (hlocks : meth.locks = false)
    (hx : ∀ t : State, s.vm.Alike t.vm → H.size ≤ t.heap.size → (∀ q : Nat, q < H.size → t.heap[q]? = H[q]?) → XC cls s t)
    (hf : ∀ z ∈ locs, free z.base) (hc : cells + 1 ≤ mc) (hs : slots + 6 ≤ ms) :
    W p l e R s m args below meth c H locs cells slots (vx_MQ below Qc XC args s mc ms free) (F0 m pc ls rest) := by
  intro T hT X
  have htr : e.platform.stackTraces = false := (show e.platform.stackTraces = l.stackTraces by rw [X.admits.platform]).trans hl
  have Y := vx_rebase X (R' := { frames := R.frames, locals := R.locals, cells := 1, slots := 6 }) (Nat.le_refl _) (Nat.le_refl _) hRcells hRslots
  obtain ⟨s', hA⟩ : ∃ z, z = (T.setVm s.vm).setFrames (.invoking m args :: below) := ⟨_, rfl⟩
  rw [← hA] at Y
  have hvm : s'.vm = s.vm := by rw [hA]; rfl
  have hhp : s'.heap = H := by rw [hA]; exact hT
  have hW0 : s.WarmedH s'.vm := by rw [hvm]; exact State.WarmedH.refl s
  have hat' : ∀ w ∈ vx_atS own ic cls names, w.before args s' = true := fun w hw => vx_ot_at hW0 hvm.symm (hgood w (List.mem_cons_of_mem _ (List.mem_cons_of_mem _ hw))) (hat w hw)
  have hk' : (Cond.classLink own ik cls).before args s' = true := vx_ot_at hW0 hvm.symm (hgood _ List.mem_cons_self) hk
  have hini' : (Cond.initialized cls).before args s' = true := vx_ot_at hW0 hvm.symm (hgood _ (List.mem_cons_of_mem _ List.mem_cons_self)) hini
  have hU' : vx_Zq Bundle.tN "UNASSIGNED_STACK" Bundle.steD A s' s'.heap := by rw [hhp]; exact vx_Zq.moved hW0.alike (hU.kept hS.2.1)
  have hN' : vx_Zq Bundle.tN "SUPPRESSED_SENTINEL" Bundle.listD A s' s'.heap := by rw [hhp]; exact vx_Zq.moved hW0.alike (hN.kept hS.2.1)
  have h : ∀ w ∈ Bundle.ownAtoms own ic cls names, w.before args s' = true := vx_own hat' (vx_isRefq hU'.1) (vx_isRefq hN'.1) hU'.2.word hN'.2.word
  have hown' : s'.vm.findClass own = some m.cls := by rw [hvm]; exact hown
  have hins : (Cond.instantiable cls 6).before args s' = true := h _ (by simp [Bundle.ownAtoms])
  obtain ⟨vm₁, cX, kX, hfX, hkX, -, -, X₁, st1⟩ := Y.newCold hexec (own := own) (C := cls) (index := ik) (n := 6) hown' hk' hins hini'
    (g := F0 m pc ls rest) rfl (by rw [hb]; exact d0) (Nat.le_refl _) (Nat.le_refl _)
  generalize hT1 : (T.setVm vm₁).pushCell { cls := cX, slots := kX.instanceTypes.map defaultValue, vm := .none } = T1 at X₁ st1
  have hcat : (Value.ref T.heap.size).category = 1 := rfl
  have hcellA : T1.heap[T.heap.size]? = some (freshCell cX kX) := by rw [← hT1]; exact State.heap_pushCell_size _ _
  have d3' : decode c.code (pc + 3) = .ok (.dup, 1) := by rw [hb]; exact d3
  have d4' : decode c.code (pc + 4) = .ok (.ldc is, 2) := by rw [hb]; exact d4
  have hstr' : vk_R own is text sa s' := vk_R.warm hW0 hstr
  obtain ⟨U, hsteps, hrun, hend, hW, hsame, ce, hce, hO⟩ := X₁.ctorThrowS hexec htr (own := own) (cls := cls) (names := names) (ic := ic) hown' hcls hnames h (fun x hx => nomatch hx) hfX hkX hcellA (by rw [hhp, hT]; exact Nat.le_refl _) (msg := .ref sa) rfl
    (g := { method := m, pc := pc + 6, locals := ls, stack := .ref sa :: .ref T.heap.size :: .ref T.heap.size :: rest, locked := none }) rfl hsize rfl rfl (rest := rest) rfl
    (by rw [hb]; exact d6) (by rw [hb]; exact d9) hout hRframes (by simp only [List.map_cons, List.sum_cons, hcat]; omega) hlocks
  obtain ⟨f1, f2⟩ := vx_frame hsame
  rw [hhp] at f1 f2
  have hWs : s.WarmedH U.vm := State.WarmedH.trans hW0 hW
  have hcl : s.vm.findClass cls = some ce.cls := by
    have h9 := hO.cls
    rw [hvm] at h9
    exact h9
  have hall : s.sameButNew ({ U with vm := s.vm } : State) locs mc ms := by
    subst hA
    obtain ⟨e1, e2⟩ := hsame
    rw [State.setFrames_setFrames] at e1
    have h2 : (T.setVm s.vm).sameButNew ({ U with vm := s.vm } : State) [] (0 + 1) (0 + 6) := ⟨e1, e2⟩
    have h3 := X.same.trans h2
    rw [List.append_nil] at h3
    exact h3.mono hc hs
  refine ⟨U, ?_, .threw T.heap.size, hrun, hend, Or.inr ⟨T.heap.size, rfl, cls, ce, locs, hx U hWs.alike f1 (fun q hq => f2 q hq (fun z hz => nomatch hz)), hce, hO.vm, hcl, hWs, hall, hf⟩⟩
  refine st1 _ ?_
  show Steps p.tables e below (T1.setTop { method := m, pc := pc + 3, locals := ls, stack := .ref T.heap.size :: rest, locked := none }) _
  jvm_step X₁.here [X₁.here.top, hexec, d3', Value.category]
  exact X₁.ldcString hexec (own := own) (text := text) (index := is) (a := sa) hown' hstr'.1 hstr'.2
    (g := { method := m, pc := pc + 4, locals := ls, stack := .ref T.heap.size :: .ref T.heap.size :: rest, locked := none }) rfl d4' _ hsteps
/-- 'throw new E("text")', the text by a wide index -/
theorem vx_throwSW {cc : ByteArray} {pc : Nat} (hexec : p.tables.exec = Jvm.exec) (hb : c.code = cc) (hl : l.stackTraces = false) {own cls text : String} {names : List String} {ik is ic mc ms sa : Nat} {A : Nat → Prop}
    (hown : s.vm.findClass own = some m.cls) (hcls : Bundle.fit cls = true) (hnames : ∀ n ∈ names, Bundle.fit n = true)
    (hk : (Cond.classLink own ik cls).before args s = true) (hini : (Cond.initialized cls).before args s = true) (hstr : vk_R own is text sa s) (hat : ∀ w ∈ vx_atS own ic cls names, w.before args s = true)
    (hgood : ∀ w ∈ Cond.classLink own ik cls :: Cond.initialized cls :: vx_atS own ic cls names, vx_ot w = true)
    (hU : vx_Zq Bundle.tN "UNASSIGNED_STACK" Bundle.steD A s s.heap) (hN : vx_Zq Bundle.tN "SUPPRESSED_SENTINEL" Bundle.listD A s s.heap) (hS : va_S A s.heap H locs) (hsize : ls.size = c.maxLocals)
    (d0 : decode cc pc = .ok (.new ik, 3)) (d3 : decode cc (pc + 3) = .ok (.dup, 1)) (d4 : decode cc (pc + 4) = .ok (.ldc_w is, 3)) (d7 : decode cc (pc + 7) = .ok (.invokespecial ic, 3)) (d10 : decode cc (pc + 10) = .ok (.athrow, 1))
    (hout : ∀ x ∈ c.exceptionTable.toList, covers x (pc + 10) = false)
    (hRframes : names.length + 3 < R.frames) (hRlocals : (rest.map fun v => v.category).sum + (13 * (names.length + 1) + 43) ≤ R.locals) (hRcells : cells + 1 ≤ R.cells) (hRslots : slots + 6 ≤ R.slots) (hlocks : meth.locks = false)
    (hx : ∀ t : State, s.vm.Alike t.vm → H.size ≤ t.heap.size → (∀ q : Nat, q < H.size → t.heap[q]? = H[q]?) → XC cls s t)
    (hf : ∀ z ∈ locs, free z.base) (hc : cells + 1 ≤ mc) (hs : slots + 6 ≤ ms) :
    W p l e R s m args below meth c H locs cells slots (vx_MQ below Qc XC args s mc ms free) (F0 m pc ls rest) := by
  intro T hT X
  have htr : e.platform.stackTraces = false := (show e.platform.stackTraces = l.stackTraces by rw [X.admits.platform]).trans hl
  have Y := vx_rebase X (R' := { frames := R.frames, locals := R.locals, cells := 1, slots := 6 }) (Nat.le_refl _) (Nat.le_refl _) hRcells hRslots
  obtain ⟨s', hA⟩ : ∃ z, z = (T.setVm s.vm).setFrames (.invoking m args :: below) := ⟨_, rfl⟩
  rw [← hA] at Y
  have hvm : s'.vm = s.vm := by rw [hA]; rfl
  have hhp : s'.heap = H := by rw [hA]; exact hT
  have hW0 : s.WarmedH s'.vm := by rw [hvm]; exact State.WarmedH.refl s
  have hat' : ∀ w ∈ vx_atS own ic cls names, w.before args s' = true := fun w hw => vx_ot_at hW0 hvm.symm (hgood w (List.mem_cons_of_mem _ (List.mem_cons_of_mem _ hw))) (hat w hw)
  have hk' : (Cond.classLink own ik cls).before args s' = true := vx_ot_at hW0 hvm.symm (hgood _ List.mem_cons_self) hk
  have hini' : (Cond.initialized cls).before args s' = true := vx_ot_at hW0 hvm.symm (hgood _ (List.mem_cons_of_mem _ List.mem_cons_self)) hini
  have hU' : vx_Zq Bundle.tN "UNASSIGNED_STACK" Bundle.steD A s' s'.heap := by rw [hhp]; exact vx_Zq.moved hW0.alike (hU.kept hS.2.1)
  have hN' : vx_Zq Bundle.tN "SUPPRESSED_SENTINEL" Bundle.listD A s' s'.heap := by rw [hhp]; exact vx_Zq.moved hW0.alike (hN.kept hS.2.1)
  have h : ∀ w ∈ Bundle.ownAtoms own ic cls names, w.before args s' = true := vx_own hat' (vx_isRefq hU'.1) (vx_isRefq hN'.1) hU'.2.word hN'.2.word
  have hown' : s'.vm.findClass own = some m.cls := by rw [hvm]; exact hown
  have hins : (Cond.instantiable cls 6).before args s' = true := h _ (by simp [Bundle.ownAtoms])
  obtain ⟨vm₁, cX, kX, hfX, hkX, -, -, X₁, st1⟩ := Y.newCold hexec (own := own) (C := cls) (index := ik) (n := 6) hown' hk' hins hini'
    (g := F0 m pc ls rest) rfl (by rw [hb]; exact d0) (Nat.le_refl _) (Nat.le_refl _)
  generalize hT1 : (T.setVm vm₁).pushCell { cls := cX, slots := kX.instanceTypes.map defaultValue, vm := .none } = T1 at X₁ st1
  have hcat : (Value.ref T.heap.size).category = 1 := rfl
  have hcellA : T1.heap[T.heap.size]? = some (freshCell cX kX) := by rw [← hT1]; exact State.heap_pushCell_size _ _
  have d3' : decode c.code (pc + 3) = .ok (.dup, 1) := by rw [hb]; exact d3
  have d4' : decode c.code (pc + 4) = .ok (.ldc_w is, 3) := by rw [hb]; exact d4
  have hstr' : vk_R own is text sa s' := vk_R.warm hW0 hstr
  obtain ⟨U, hsteps, hrun, hend, hW, hsame, ce, hce, hO⟩ := X₁.ctorThrowS hexec htr (own := own) (cls := cls) (names := names) (ic := ic) hown' hcls hnames h (fun x hx => nomatch hx) hfX hkX hcellA (by rw [hhp, hT]; exact Nat.le_refl _) (msg := .ref sa) rfl
    (g := { method := m, pc := pc + 7, locals := ls, stack := .ref sa :: .ref T.heap.size :: .ref T.heap.size :: rest, locked := none }) rfl hsize rfl rfl (rest := rest) rfl
    (by rw [hb]; exact d7) (by rw [hb]; exact d10) hout hRframes (by simp only [List.map_cons, List.sum_cons, hcat]; omega) hlocks
  obtain ⟨f1, f2⟩ := vx_frame hsame
  rw [hhp] at f1 f2
  have hWs : s.WarmedH U.vm := State.WarmedH.trans hW0 hW
  have hcl : s.vm.findClass cls = some ce.cls := by
    have h9 := hO.cls
    rw [hvm] at h9
    exact h9
  have hall : s.sameButNew ({ U with vm := s.vm } : State) locs mc ms := by
    subst hA
    obtain ⟨e1, e2⟩ := hsame
    rw [State.setFrames_setFrames] at e1
    have h2 : (T.setVm s.vm).sameButNew ({ U with vm := s.vm } : State) [] (0 + 1) (0 + 6) := ⟨e1, e2⟩
    have h3 := X.same.trans h2
    rw [List.append_nil] at h3
    exact h3.mono hc hs
  refine ⟨U, ?_, .threw T.heap.size, hrun, hend, Or.inr ⟨T.heap.size, rfl, cls, ce, locs, hx U hWs.alike f1 (fun q hq => f2 q hq (fun z hz => nomatch hz)), hce, hO.vm, hcl, hWs, hall, hf⟩⟩
  refine st1 _ ?_
  show Steps p.tables e below (T1.setTop { method := m, pc := pc + 3, locals := ls, stack := .ref T.heap.size :: rest, locked := none }) _
  jvm_step X₁.here [X₁.here.top, hexec, d3', Value.category]
  exact X₁.ldcStringW hexec (own := own) (text := text) (index := is) (a := sa) hown' hstr'.1 hstr'.2
    (g := { method := m, pc := pc + 4, locals := ls, stack := .ref T.heap.size :: .ref T.heap.size :: rest, locked := none }) rfl d4' _ hsteps
end Ends
section Bodies
variable {l : Launch}
theorem vx_ofW {y : MethodName} {ws ws' : List Cond} {rm : Room} {Pc : Array Value → State → Prop} {Qc : Array Value → State → Outcome → State → Prop} {XC : String → State → State → Prop} {mc ms : Nat} {free : Addr → Prop} {cc : ByteArray} {maxL : Nat} {ret : Option FieldType}
    (hy : plainName y.cls = true) (hw : ws = Cond.code y cc maxL ret :: ws')
    (body : ∀ p e s m args below meth c s₁, BodyLoose p l y (headSpec ws rm) cc maxL ret e s m args below meth c s₁ → c.maxLocals = maxL → (∀ x ∈ c.exceptionTable.toList, False) → Pc args s →
      W p l e (headSpec ws rm).room s m args below meth c s.heap [] 0 0 (vx_MQ below Qc XC args s mc ms free) (entryFrame m args maxL)) : vx_Met l y ws rm Pc Qc XC mc ms free := by
  refine MetFree.of_bodyS (code := cc) (maxLocals := maxL) (ret := ret) hy ?_ ?_
  · intro args s m h hn
    obtain ⟨meth, c, h1, h2, h3, h4, h5, h6, -, -⟩ := Cond.code_spec hn (atoms_spec (ws := ws) h _ (by rw [hw]; exact List.mem_cons_self))
    exact ⟨meth, c, h1, h2, h3, h4, h5, h6⟩
  · intro p e s m args below meth c s₁ B hml hP _
    have hh0 : s₁.heap = s.heap := by rw [B.state]; rfl
    have ht : ∀ x ∈ c.exceptionTable.toList, False := by
      obtain ⟨meth9, c9, h1, h2, -, -, -, -, h7, -⟩ := Cond.code_spec B.named (atoms_spec (ws := ws) B.pre _ (by rw [hw]; exact List.mem_cons_self))
      cases Option.some.inj (h1.symm.trans B.method)
      cases Option.some.inj (h2.symm.trans (Stand.of_body B).code)
      intro x hx
      rw [Array.isEmpty_iff.mp h7] at hx
      cases hx
    obtain ⟨t, a1, o, b1, b2, b3⟩ := body p e s m args below meth c s₁ B hml ht hP s₁ hh0 (Stand.of_body B)
    exact ⟨t, o, a1, b1, b2, b3⟩
/-- the table of a body with handlers -/
theorem vx_table {p : Program} {x y : MethodName} {S : Spec} {cc bytes : ByteArray} {maxL maxL' : Nat} {ret ret' : Option FieldType} {e : Env} {s s₁ : State} {m : MethodId} {args : Array Value} {below : List Frame} {meth : Method} {c : Code} {hh : List (Nat × Nat × Nat × Nat)}
    (B : BodyLoose p l y S cc maxL ret e s m args below meth c s₁) (h : (Cond.codeWith y bytes maxL' ret' hh).before args s = true) : c.exceptionTable.toList = tableOf hh := by
  obtain ⟨m9, meth9, c9, hn9, h1, h2, -, -, h6, -⟩ := Cond.codeWith_spec h
  cases Option.some.inj (hn9.symm.trans B.named)
  cases Option.some.inj (h1.symm.trans B.method)
  cases Option.some.inj (h2.symm.trans (Stand.of_body B).code)
  rw [← h6, table_eq]
end Bodies
end VXA
/-! ===== END ===== -/
/-! ===== BEGIN a static call of a method with an exception table ===== -/
section VXS
variable {p : Program} {l : Launch} {e : Env} {R : Room} {s : State} {m : MethodId} {args : Array Value} {below : List Frame} {meth : Method} {c : Code} {T : State} {H : Heap} {locs : List Loc} {cells slots : Nat}
abbrev vx_CSW (R : Room) (s : State) (args : Array Value) (own : String) (index : Nat) (y : MethodName) (bytes : ByteArray) (maxL : Nat) (ret : Option FieldType) (hh : List (Nat × Nat × Nat × Nat)) (ws : List Cond) (rm : Room) (mc ms n : Nat) : Prop :=
  (rm.cells = mc ∧ rm.slots = ms ∧ rm.frames + 1 ≤ R.frames ∧ 8 + (maxL + 11) + rm.locals ≤ R.locals ∧ (∀ w ∈ ws, ∀ (a' : Array Value) (U : State), s.WarmedH U.vm → w.before a' U = true) ∧ Cond.codeWith y bytes maxL ret hh ∈ ws) ∧
  (Cond.codeWith y bytes maxL ret hh).before args s = true ∧ (Cond.initialized y.cls).before args s = true ∧ (y.cls ≠ "java/lang/invoke/MethodHandle" ∧ y.cls ≠ "java/lang/invoke/VarHandle") ∧
  (∀ sig, parseMethodDescriptor y.desc = some sig → n = sig.parameters.length) ∧ (Cond.methodLink own index y).before args s = true ∧ (Cond.static y).before args s = true
theorem vx_cwSW {own : String} {index maxL mc ms : Nat} {y : MethodName} {bytes : ByteArray} {ret : Option FieldType} {hh : List (Nat × Nat × Nat × Nat)} {Ts ws ws' : List Cond} {rm : Room} (n : Nat) (ht : ∀ w ∈ Ts, w.before args s = true) (hT : GoodIn Ts (va_wsS own index y ws)) (hw : ws = Cond.codeWith y bytes maxL ret hh :: ws') (hrc : rm.cells = mc) (hrs : rm.slots = ms)
    (hd : y.cls ≠ "java/lang/invoke/MethodHandle" ∧ y.cls ≠ "java/lang/invoke/VarHandle" ∧ (parseMethodDescriptor y.desc).map (fun d => d.parameters.length) = some n) (hR : rm.frames + 1 ≤ R.frames ∧ 8 + (maxL + 11) + rm.locals ≤ R.locals) :
    vx_CSW R s args own index y bytes maxL ret hh ws rm mc ms n := by
  have ok : ∀ w ∈ va_wsS own index y ws, w.before args s = true := fun w h => ht w (hT w h).1
  have hG : GoodIn Ts ws := fun w h => hT w (by unfold va_wsS; exact List.mem_append_right _ h)
  have hc : Cond.codeWith y bytes maxL ret hh ∈ ws := by rw [hw]; exact List.mem_cons_self
  refine ⟨⟨hrc, hrs, hR.1, hR.2, pay_in ht hG, hc⟩, ht _ (hG _ hc).1, ok _ (by simp [va_wsS]), ⟨hd.1, hd.2.1⟩, fun sig h => ?_, ok _ (by simp [va_wsS]), ok _ (by simp [va_wsS])⟩
  have h2 := hd.2.2
  rw [h] at h2
  exact (Option.some.inj h2).symm
theorem vx_callSW (X : Stand p l e R s m args below meth c T locs cells slots) (hexec : p.tables.exec = Jvm.exec) {own : String} {index : Nat} {y : MethodName} {bytes : ByteArray} {maxL : Nat} {ret : Option FieldType} {hh : List (Nat × Nat × Nat × Nat)}
    (hown : s.vm.findClass own = some m.cls) (hlink : (Cond.methodLink own index y).before args s = true) (hstat : (Cond.static y).before args s = true) (hinit : (Cond.initialized y.cls).before args s = true)
    (hcode : (Cond.codeWith y bytes maxL ret hh).before args s = true) (hy : y.cls ≠ "java/lang/invoke/MethodHandle" ∧ y.cls ≠ "java/lang/invoke/VarHandle")
    {W9 : Nat} {Pre : Pt → Array Value → Prop} {Post : Pt → Array Value → Option Value → Pt → Prop} (hK : Back l R p e below s args y 3 W9 Pre Post)
    {g : JFrame} (hg : g.method = m) (hsize : g.locals.size = c.maxLocals) {argsL rest : List Value} (hlen : ∀ sig, parseMethodDescriptor y.desc = some sig → argsL.length = sig.parameters.length)
    (hstack : g.stack = argsL.reverse ++ rest) (hW : 2 * g.monitorRoom + (rest.map fun v => v.category).sum ≤ W9) (hdg : decode c.code g.pc = .ok (.invokestatic index, 3))
    (hpre : ∀ vm₁, s.WarmedH vm₁ → Pre ⟨T.setVm vm₁, locs, cells, slots⟩ argsL.toArray) :
    ∃ (v : Option Value) (vm₁ : Vm) (B : Pt), s.WarmedH vm₁ ∧ Stand p l e R s m args below meth c B.U B.locs B.cells B.slots ∧ Post ⟨T.setVm vm₁, locs, cells, slots⟩ argsL.toArray v B ∧
      ∀ target, Steps p.tables e below (B.U.setTop { g with pc := g.pc + 3, stack := v.toList ++ rest }) target → Steps p.tables e below (T.setTop g) target := by
  obtain ⟨mk, methM, cM, hnamed, hmethM, -, -, -, -, -, -, hsigM⟩ := Cond.codeWith_spec hcode
  have hstatic : methM.isStatic = true := Cond.static_spec hnamed hmethM hstat
  obtain ⟨kP, hkP, -⟩ := className_of_methodNamed hnamed
  have hinitP : kP.init = .initialized := Cond.initialized_spec (findClass_of_methodNamed hnamed) hkP hinit
  obtain ⟨vm₁, X₁, hstep₁⟩ := X.invokestatic hexec hown hlink hnamed hmethM hstatic hkP hinitP hy (g := g) hg (argsL := argsL) (rest := rest) (hlen _ hsigM) hstack hdg
  obtain ⟨v, B, X', hpost, hsteps⟩ := hK m meth c ⟨T.setVm vm₁, locs, cells, slots⟩ { g with stack := rest } (.invokestatic index) mk argsL.toArray X₁ hg hsize hdg hW (X₁.named hnamed) (hpre vm₁ X₁.warmed)
  exact ⟨v, vm₁, B, X₁.warmed, X', hpost, fun target h => hstep₁ _ fun acts => by rw [doInvoke_state]; exact hsteps.trans h⟩
theorem vx_runSW {y : MethodName} {bytes cc : ByteArray} {maxL nL mc ms n index : Nat} {ret : Option FieldType} {hh : List (Nat × Nat × Nat × Nat)} {ws : List Cond} {rm : Room} {Pc : Array Value → State → Prop} {Qc : Array Value → State → Outcome → State → Prop} {free : Addr → Prop} {Ts : List Cond} {own : String} {As rest : List Value} {g : JFrame}
    (S : CallFix p m c cc nL s args Ts own) (hM : Met l y ws rm Pc Qc mc ms free) (cw : vx_CSW R s args own index y bytes maxL ret hh ws rm mc ms n) (hp : PreS s H Pc As)
    (hg : g.method = m) (hn : As.length = n) (hsize : g.locals.size = nL) (hstack : g.stack = As.reverse ++ rest) (hW : 2 * g.monitorRoom + (rest.map fun v => v.category).sum ≤ 8) (hdg : decode cc g.pc = .ok (.invokestatic index, 3)) (hf : cells + mc ≤ R.cells ∧ slots + ms ≤ R.slots) :
    va_Run p l e R s m args below meth c H locs cells slots mc ms g rest (Qc As.toArray) (free) := by
  obtain ⟨⟨hrc, hrs, hfr, hlo, hws, hcw⟩, hcode, hini, hy, hlen, hl, hstt⟩ := cw
  have hK : Back l R p e below s args y 3 8 (PreOf R mc ms Pc) (PostOf Qc mc ms free) := va_backW (hh := hh) (bytes := bytes) (maxL := maxL) (ret := ret) hM hp.1 hrc hrs hfr hlo hws hcw (fun a' U hW => word_at hW (Or.inl (by first | rfl | simp [Cond.onTables, Cond.keeps, Cond.steady])) hini)
  obtain ⟨hx, hb, hml, ho, -⟩ := S
  intro T hT X
  obtain ⟨v, vm₁, ⟨U', l2, c2, s2⟩, hW₁, X', ⟨g', mk, t, L, e1, e2, hq, h1, hL, h2, h3⟩, st⟩ := vx_callSW X hx (hh := hh) (bytes := bytes) (maxL := maxL) (ret := ret) ho hl hstt hini hcode hy hK hg (hsize.trans hml.symm) (argsL := As) (rest := rest) (fun sig h => hn.trans (hlen sig h)) hstack hW (by rw [hb]; exact hdg)
    (fun vm₁ hW₁ => ⟨hf.1, hf.2, hp.2 (T.setVm vm₁) hT hW₁⟩)
  dsimp only [Pt.U, Pt.locs, Pt.cells, Pt.slots] at X' e1 e2 h1 h2 h3 st
  subst h1; subst h2; subst h3
  exact ⟨v, (T.setVm vm₁).calling g' mk As.toArray, t, U', L, hT, X', hL, e1, e2, hq, st⟩
/-- not caught here, past rows that name other classes: it goes on to the caller -/
theorem vx_outP {p : Program} {l : Launch} {e : Env} {R : Room} {s : State} {m : MethodId} {args : Array Value} {below : List Frame} {meth : Method} {c : Code} {H : Heap} {locs : List Loc} {cells slots : Nat} {free : Addr → Prop} {ls : Array Slot} {rest : List Value} {Qc : Array Value → State → Outcome → State → Prop} {XC : String → State → State → Prop}
    {pc : Nat} {own E : String} {ce : Cell} {q : Addr} {mc ms : Nat} (hown : s.vm.findClass own = some m.cls) (hlocks : meth.locks = false)
    (hpass : ∀ z ∈ c.exceptionTable.toList, covers z pc = false ∨ (z.catchType ≠ 0 ∧ ∃ nm : String, (Cond.classLink own z.catchType nm).before args s = true ∧ va_Nc E nm s)) (hcell : H[q]? = some ce) (hv : ce.vm = .none) (hcl : s.vm.findClass E = some ce.cls)
    (hx : ∀ t : State, t.heap = H → s.vm.Alike t.vm → XC E s t) (hf : ∀ z ∈ locs, free z.base) (hc : cells ≤ mc) (hs : slots ≤ ms) :
    vx_W p l e R s m args below meth c H locs cells slots (vx_MQ below Qc XC args s mc ms free) (F0 m pc ls rest) q := by
  intro T hT X
  have hpl : e.platform.magicAccessors = ({} : Platform).magicAccessors := by rw [X.admits.platform]
  obtain ⟨vm', hW', X', st⟩ := X.outThrough hlocks q (g := F0 m pc ls rest) rfl rfl rfl (cell := ce) (by rw [hT]; exact hcell) (by rw [hv]; rfl)
    (by obtain ⟨k9, h9, -⟩ := Vm.findClass_spec hcl; exact ⟨k9, h9⟩) (fun z hz => by
      rcases hpass z hz with h | ⟨hz0, nm, hl1, hn1⟩
      · exact Or.inl h
      · obtain ⟨c6, hc6, hcl6⟩ := Cond.classLink_spec hown hl1 e.platform hpl
        obtain ⟨a8, b8, h1, h2, h3⟩ := hn1
        cases Option.some.inj (h1.symm.trans hcl)
        cases Option.some.inj (h2.symm.trans hc6)
        exact Or.inr ⟨hz0, _, hcl6, h3⟩)
  obtain ⟨g₀, hfr⟩ := X'.frames_eq
  have hcell9 : ((T.setVm vm').setFrames (.throwing q :: below)).heap[q]? = some ce := by
    show T.heap[q]? = some ce
    rw [hT]; exact hcell
  have hend : Ended ((T.setVm vm').setFrames (.throwing q :: below)) below (.threw q) := State.frames_setFrames _ (State.cur_lt_of_frames hfr)
  refine ⟨(T.setVm vm').setFrames (.throwing q :: below), ?_, .threw q, X'.here.running, hend, Or.inr ⟨q, rfl, E, ce, locs, hx _ hT (X'.ends _).1.alike, hcell9, hv, hcl, (X'.ends _).1, (X'.ends _).2.mono hc hs, hf⟩⟩
  rw [X.pushThrowing_eq]
  exact st
/-- a thing of a world lies in the heap -/
theorem vx_lt {D : va_G} {cl : List vw_C} {ws : va_W} {H1 : Heap} (h : va_P D cl ws H1) {k : Nat} {q : Nat × va_E} (hk : ws[k]? = some q) : q.1 < H1.size := (h k q hk).lt
end VXS
/-! ===== END ===== -/
/-! ===== BEGIN methods with a table of their own: called by a name, returning or throwing ===== -/
section VXH
/-! vx_backW, vx_callVX, vx_callSX, vx_callVW, vx_runVW, vx_runVX, vx_runSX, vx_ofWH follow the same proofs as their sisters above (Free/Laws.lean, Shelf42/LK1.lean); vx_outP calls Shelf42/NT130.lean (outThrough). -/
section
variable {l : Launch} {R : Room} {p : Program} {e : Env} {below : List Frame} {s : State} {sargs : Array Value} {y : MethodName} {len W9 : Nat}
theorem vx_backW {ws : List Cond} {rm : Room} {Pc : Array Value → State → Prop} {Qc : Array Value → State → Outcome → State → Prop} {XC : String → State → State → Prop} {mc ms : Nat} {free : Addr → Prop} {bytes : ByteArray} {maxL : Nat} {ret : Option FieldType} {hh : List (Nat × Nat × Nat × Nat)}
    (hM : vx_Met l y ws rm Pc Qc XC mc ms free) (hblind : FrameBlind Pc) (hrc : rm.cells = mc) (hrs : rm.slots = ms)
    (hframes : rm.frames + 1 ≤ R.frames) (hlocals : W9 + (maxL + 11) + rm.locals ≤ R.locals)
    (hws : ∀ w ∈ ws, ∀ a' U, s.WarmedH U.vm → w.before a' U = true) (hcode : Cond.codeWith y bytes maxL ret hh ∈ ws) (hinit : ∀ a' U, s.WarmedH U.vm → (Cond.initialized y.cls).before a' U = true) :
    vx_Back l R p e below s sargs y len W9 (PreOf R mc ms Pc) (PostOf Qc mc ms free) (vx_Post XC mc ms free) := by
  intro m meth c A g ig mk a X hg hsize hdg hW hn hp
  have h1 : (headSpec ws rm).pre.before a A.U = true := atoms_intro fun w hw => hws w hw _ _ X.warmed
  have h2 : (Cond.codeWith y bytes maxL ret hh).before a A.U = true := hws _ hcode _ _ X.warmed
  have h3 : (Cond.initialized y.cls).before a A.U = true := hinit _ _ X.warmed
  have h4 : A.cells + (headSpec ws rm).room.cells ≤ R.cells := by rw [show (headSpec ws rm).room.cells = mc from hrc]; exact hp.1
  have h5 : A.slots + (headSpec ws rm).room.slots ≤ R.slots := by rw [show (headSpec ws rm).room.slots = ms from hrs]; exact hp.2.1
  have hPc : Pc a (A.U.calling g mk a) := hblind _ _ _ _ hp.2.2
  obtain ⟨U, Ls, c0, s0⟩ := A
  dsimp only [Pt.U, Pt.locs, Pt.cells, Pt.slots] at h1 h2 h3 h4 h5 X hn hPc ⊢
  obtain ⟨m9, methY, cY, hn9, hmY, hcY, -, hlY, -⟩ := Cond.codeWith_spec h2
  cases Option.some.inj (hn9.symm.trans hn)
  obtain ⟨kY, hkY, -⟩ := className_of_methodNamed hn
  have hinitY : kY.init = .initialized := Cond.initialized_spec (findClass_of_methodNamed hn) hkY h3
  have h : At U g.method c below := by rw [hg]; exact X.here
  have hlocals9 : W9 + (maxL + 11) + (headSpec ws rm).room.locals ≤ R.locals := hlocals
  have happ : (headSpec ws rm).appliesLoose y e.platform (U.calling g mk a) = true :=
    Spec.appliesLoose_calling (g := g) h hdg hn hkY hinitY
      (X.room_calling (g := g) (R' := (headSpec ws rm).room) hsize hmY hcY hframes (by rw [hlY]; omega) h4 h5) h1
  obtain ⟨mid, hmid⟩ := h.above
  have hfr : (U.setTop g).frames = (.java g :: mid) ++ below := by rw [State.frames_setTop' g h.top, hmid]; rfl
  obtain ⟨o, s₂, hsteps, -, hend, hq⟩ := Steps.callFree hM p X.admits X.cas X.clock (acts := []) hfr happ hPc trivial
  have hq' : vx_Q Qc XC mc ms free a (U.calling g mk a) o s₂ := hq
  rw [State.frames_setTop' g h.top] at hend
  obtain ⟨g₀, hg0⟩ := Option.isSome_iff_exists.mp h.top
  obtain ⟨r, hr⟩ := State.topJava?_eq_some.mp hg0
  have hr' : (({ U with heap := s₂.heap, slotsUsed := s₂.slotsUsed } : State).setVm s₂.vm).frames = .java g₀ :: r := hr
  rcases hq' with ⟨hqc, L, hfe, hL⟩ | ⟨q, rfl, E, ce, L, hx, hce, hcv, hcl, hW₂, hsm, hL⟩
  · obtain ⟨⟨v, rfl⟩, hW₂, e2, q2, q3, q4, q5, q6⟩ := id hfe
    have e3 : s₂ = ({ (U.calling g mk a).setFrames s₂.frames with heap := s₂.heap, slotsUsed := s₂.slotsUsed } : State).setVm s₂.vm := by
      have : s₂ = ({ s₂ with vm := (U.calling g mk a).vm } : State).setVm s₂.vm := rfl
      rw [e2] at this
      exact this
    obtain ⟨c₂, i₂, len₂, hc₂, hd₂, hf₂⟩ := hend
    have hW' : U.WarmedH s₂.vm := hW₂
    have hcc : c₂ = c := by
      have h1 : s₂.code? g.method = U.code? g.method := by
        rw [State.code?_eq, State.code?_eq, hW'.alike.method?]
      exact Option.some.inj (hc₂.symm.trans (h1.trans h.code))
    subst hcc
    have hlen : len₂ = len := by rw [hdg] at hd₂; cases hd₂; rfl
    subst hlen
    have hs₂ : s₂ = (({ U with heap := s₂.heap, slotsUsed := s₂.slotsUsed } : State).setVm s₂.vm).setTop { g with pc := g.pc + len₂, stack := v.toList ++ g.stack } := by
      refine e3.trans ?_
      rw [hf₂, State.calling_eq h.top, State.setFrames_setFrames, State.setTop_of_frames _ hr', hr]
      rfl
    have hsame : U.sameButNew ({ U with heap := s₂.heap, slotsUsed := s₂.slotsUsed } : State) L mc ms := by
      refine ⟨?_, q2, q3, q4, q5, q6⟩
      obtain ⟨t, ht, -⟩ := State.frames_cons hr
      show ({ U with heap := s₂.heap, slotsUsed := s₂.slotsUsed } : State) = { U.setFrames U.frames with heap := s₂.heap, slotsUsed := s₂.slotsUsed }
      rw [State.setFrames_self ht]
    subst hg
    refine Or.inl ⟨v, ⟨(({ U with heap := s₂.heap, slotsUsed := s₂.slotsUsed } : State).setVm s₂.vm), Ls ++ L, c0 + mc, s0 + ms⟩,
      ⟨X.admits, X.cas, X.clock, X.frames, X.room, X.hears, X.method, X.code, (X.here.setHeapUsed s₂.heap s₂.slotsUsed).setVm hW'.alike, X.tail, State.WarmedH.trans X.warmed hW', X.limits, X.bytes, X.same.trans (hsame.setVm s.vm)⟩,
      ⟨g, mk, s₂, L, rfl, rfl, hqc, rfl, hL, rfl, rfl⟩, ?_⟩
    show Steps p.tables e below _ ((({ U with heap := s₂.heap, slotsUsed := s₂.slotsUsed } : State).setVm s₂.vm).setTop { g with pc := g.pc + len₂, stack := v.toList ++ g.stack })
    rw [← hs₂]
    exact hsteps
  · obtain ⟨e2, q2, q3, q4, q5, q6⟩ := id hsm
    have e3 : s₂ = ({ (U.calling g mk a).setFrames s₂.frames with heap := s₂.heap, slotsUsed := s₂.slotsUsed } : State).setVm s₂.vm := by
      have : s₂ = ({ s₂ with vm := (U.calling g mk a).vm } : State).setVm s₂.vm := rfl
      rw [e2] at this
      exact this
    have hf₂ : s₂.frames = .throwing q :: .java g :: U.frames.tail := hend
    have hW' : U.WarmedH s₂.vm := hW₂
    have hs₂ : s₂ = ((({ U with heap := s₂.heap, slotsUsed := s₂.slotsUsed } : State).setVm s₂.vm).setTop g).pushFrame (.throwing q) := by
      refine e3.trans ?_
      rw [hf₂, State.calling_eq h.top, State.setFrames_setFrames, State.pushFrame, State.frames_setTop _ hr', State.setTop_of_frames _ hr', State.setFrames_setFrames, hr]
      rfl
    have hsame : U.sameButNew ({ U with heap := s₂.heap, slotsUsed := s₂.slotsUsed } : State) L mc ms := by
      refine ⟨?_, q2, q3, q4, q5, q6⟩
      obtain ⟨t, ht, -⟩ := State.frames_cons hr
      show ({ U with heap := s₂.heap, slotsUsed := s₂.slotsUsed } : State) = { U.setFrames U.frames with heap := s₂.heap, slotsUsed := s₂.slotsUsed }
      rw [State.setFrames_self ht]
    subst hg
    refine Or.inr ⟨q, ⟨(({ U with heap := s₂.heap, slotsUsed := s₂.slotsUsed } : State).setVm s₂.vm), Ls ++ L, c0 + mc, s0 + ms⟩,
      ⟨X.admits, X.cas, X.clock, X.frames, X.room, X.hears, X.method, X.code, (X.here.setHeapUsed s₂.heap s₂.slotsUsed).setVm hW'.alike, X.tail, State.WarmedH.trans X.warmed hW', X.limits, X.bytes, X.same.trans (hsame.setVm s.vm)⟩,
      ⟨g, mk, s₂, L, E, ce, rfl, rfl, hx, hce, hcv, hcl, rfl, hL, rfl, rfl⟩, ?_⟩
    show Steps p.tables e below _ (((({ U with heap := s₂.heap, slotsUsed := s₂.slotsUsed } : State).setVm s₂.vm).setTop g).pushFrame (.throwing q))
    rw [← hs₂]
    exact hsteps
end
variable {p : Program} {l : Launch} {e : Env} {R : Room} {s : State} {m : MethodId} {args : Array Value} {below : List Frame} {meth : Method} {c : Code} {T : State} {H : Heap} {locs : List Loc} {cells slots : Nat}
theorem vx_callVX (X : Stand p l e R s m args below meth c T locs cells slots) (hexec : p.tables.exec = Jvm.exec) {own C : String} {index : Nat} {y : MethodName} {bytes : ByteArray} {maxL : Nat} {ret : Option FieldType} {hh : List (Nat × Nat × Nat × Nat)}
    (hown : s.vm.findClass own = some m.cls) (hlink : (Cond.methodLink own index y).before args s = true) (hinst : (Cond.instanceMethod y).before args s = true) (hsel : (Cond.selects C y y).before args s = true)
    (hcode : (Cond.codeWith y bytes maxL ret hh).before args s = true) (hy : y.cls ≠ "java/lang/invoke/MethodHandle" ∧ y.cls ≠ "java/lang/invoke/VarHandle")
    {W9 : Nat} {Pre : Pt → Array Value → Prop} {Post : Pt → Array Value → Option Value → Pt → Prop} {PostX : Pt → Array Value → Addr → Pt → Prop} (hK : vx_Back l R p e below s args y 3 W9 Pre Post PostX)
    {b : Addr} {cellB : Cell} (hcell : T.heap[b]? = some cellB) (hobj : cellB.vm.isStatics = false) (hcls : s.vm.findClass C = some cellB.cls)
    {g : JFrame} (hg : g.method = m) (hsize : g.locals.size = c.maxLocals) {argsL rest : List Value} (hlen : ∀ sig, parseMethodDescriptor y.desc = some sig → argsL.length = sig.parameters.length)
    (hstack : g.stack = argsL.reverse ++ .ref b :: rest) (hW : 2 * g.monitorRoom + (rest.map fun v => v.category).sum ≤ W9) (hdg : decode c.code g.pc = .ok (.invokevirtual index, 3))
    (hpre : ∀ vm₁, s.WarmedH vm₁ → Pre ⟨T.setVm vm₁, locs, cells, slots⟩ (Value.ref b :: argsL).toArray) :
    (∃ (v : Option Value) (vm₁ : Vm) (B : Pt), s.WarmedH vm₁ ∧ Stand p l e R s m args below meth c B.U B.locs B.cells B.slots ∧ Post ⟨T.setVm vm₁, locs, cells, slots⟩ (Value.ref b :: argsL).toArray v B ∧
      ∀ target, Steps p.tables e below (B.U.setTop { g with pc := g.pc + 3, stack := v.toList ++ rest }) target → Steps p.tables e below (T.setTop g) target) ∨
    (∃ (q : Addr) (vm₁ : Vm) (B : Pt), s.WarmedH vm₁ ∧ Stand p l e R s m args below meth c B.U B.locs B.cells B.slots ∧ PostX ⟨T.setVm vm₁, locs, cells, slots⟩ (Value.ref b :: argsL).toArray q B ∧
      Steps p.tables e below (T.setTop g) ((B.U.setTop { g with stack := rest }).pushFrame (.throwing q))) := by
  obtain ⟨mk, methM, hnamed, hmethM, hstM, habM⟩ := Cond.instanceMethod_spec hinst
  obtain ⟨m8, methM', cM, hn8, hmethM', -, -, -, -, -, -, hsigM⟩ := Cond.codeWith_spec hcode
  cases Option.some.inj (hn8.symm.trans hnamed)
  cases hmethM.symm.trans hmethM'
  obtain ⟨c2, r2, m2, q1, q2, q3, q4, kP, hkP, hkPi⟩ := Cond.selects_spec hsel
  cases hcls.symm.trans q1
  cases (State.methodFound?_of_named hnamed hy).symm.trans q2
  cases hnamed.symm.trans q3
  have hselP : selectMethod e.platform s.vm cellB.cls mk = .method mk := by rw [Launch.admits_selectMethod X.admits]; exact q4
  obtain ⟨vm₁, X₁, hstep₁⟩ := X.invokevirtual hexec hown hlink hnamed hmethM hstM hkP hkPi hy (a := b) (cell := cellB) hcell
    (fun z h => by rw [h] at hobj; cases hobj) hselP hmethM habM hkP hkPi (g := g) hg (argsL := argsL) (rest := rest) (hlen _ hsigM) hstack hdg
  rcases hK m meth c ⟨T.setVm vm₁, locs, cells, slots⟩ { g with stack := rest } (.invokevirtual index) mk (Value.ref b :: argsL).toArray X₁ hg hsize hdg hW (X₁.named hnamed) (hpre vm₁ X₁.warmed) with ⟨v, B, X', hpost, hsteps⟩ | ⟨q, B, X', hpost, hsteps⟩
  · exact Or.inl ⟨v, vm₁, B, X₁.warmed, X', hpost, fun target h => hstep₁ _ fun acts => by rw [doInvoke_state]; exact hsteps.trans h⟩
  · exact Or.inr ⟨q, vm₁, B, X₁.warmed, X', hpost, hstep₁ _ fun acts => by rw [doInvoke_state]; exact hsteps⟩
theorem vx_callSX (X : Stand p l e R s m args below meth c T locs cells slots) (hexec : p.tables.exec = Jvm.exec) {own : String} {index : Nat} {y : MethodName} {bytes : ByteArray} {maxL : Nat} {ret : Option FieldType} {hh : List (Nat × Nat × Nat × Nat)}
    (hown : s.vm.findClass own = some m.cls) (hlink : (Cond.methodLink own index y).before args s = true) (hstat : (Cond.static y).before args s = true) (hinit : (Cond.initialized y.cls).before args s = true)
    (hcode : (Cond.codeWith y bytes maxL ret hh).before args s = true) (hy : y.cls ≠ "java/lang/invoke/MethodHandle" ∧ y.cls ≠ "java/lang/invoke/VarHandle")
    {W9 : Nat} {Pre : Pt → Array Value → Prop} {Post : Pt → Array Value → Option Value → Pt → Prop} {PostX : Pt → Array Value → Addr → Pt → Prop} (hK : vx_Back l R p e below s args y 3 W9 Pre Post PostX)
    {g : JFrame} (hg : g.method = m) (hsize : g.locals.size = c.maxLocals) {argsL rest : List Value} (hlen : ∀ sig, parseMethodDescriptor y.desc = some sig → argsL.length = sig.parameters.length)
    (hstack : g.stack = argsL.reverse ++ rest) (hW : 2 * g.monitorRoom + (rest.map fun v => v.category).sum ≤ W9) (hdg : decode c.code g.pc = .ok (.invokestatic index, 3))
    (hpre : ∀ vm₁, s.WarmedH vm₁ → Pre ⟨T.setVm vm₁, locs, cells, slots⟩ argsL.toArray) :
    (∃ (v : Option Value) (vm₁ : Vm) (B : Pt), s.WarmedH vm₁ ∧ Stand p l e R s m args below meth c B.U B.locs B.cells B.slots ∧ Post ⟨T.setVm vm₁, locs, cells, slots⟩ argsL.toArray v B ∧
      ∀ target, Steps p.tables e below (B.U.setTop { g with pc := g.pc + 3, stack := v.toList ++ rest }) target → Steps p.tables e below (T.setTop g) target) ∨
    (∃ (q : Addr) (vm₁ : Vm) (B : Pt), s.WarmedH vm₁ ∧ Stand p l e R s m args below meth c B.U B.locs B.cells B.slots ∧ PostX ⟨T.setVm vm₁, locs, cells, slots⟩ argsL.toArray q B ∧
      Steps p.tables e below (T.setTop g) ((B.U.setTop { g with stack := rest }).pushFrame (.throwing q))) := by
  obtain ⟨mk, methM, cM, hnamed, hmethM, -, -, -, -, -, -, hsigM⟩ := Cond.codeWith_spec hcode
  have hstatic : methM.isStatic = true := Cond.static_spec hnamed hmethM hstat
  obtain ⟨kP, hkP, -⟩ := className_of_methodNamed hnamed
  have hinitP : kP.init = .initialized := Cond.initialized_spec (findClass_of_methodNamed hnamed) hkP hinit
  obtain ⟨vm₁, X₁, hstep₁⟩ := X.invokestatic hexec hown hlink hnamed hmethM hstatic hkP hinitP hy (g := g) hg (argsL := argsL) (rest := rest) (hlen _ hsigM) hstack hdg
  rcases hK m meth c ⟨T.setVm vm₁, locs, cells, slots⟩ { g with stack := rest } (.invokestatic index) mk argsL.toArray X₁ hg hsize hdg hW (X₁.named hnamed) (hpre vm₁ X₁.warmed) with ⟨v, B, X', hpost, hsteps⟩ | ⟨q, B, X', hpost, hsteps⟩
  · exact Or.inl ⟨v, vm₁, B, X₁.warmed, X', hpost, fun target h => hstep₁ _ fun acts => by rw [doInvoke_state]; exact hsteps.trans h⟩
  · exact Or.inr ⟨q, vm₁, B, X₁.warmed, X', hpost, hstep₁ _ fun acts => by rw [doInvoke_state]; exact hsteps⟩
theorem vx_callVW (X : Stand p l e R s m args below meth c T locs cells slots) (hexec : p.tables.exec = Jvm.exec) {own C : String} {index : Nat} {y : MethodName} {bytes : ByteArray} {maxL : Nat} {ret : Option FieldType} {hh : List (Nat × Nat × Nat × Nat)}
    (hown : s.vm.findClass own = some m.cls) (hlink : (Cond.methodLink own index y).before args s = true) (hinst : (Cond.instanceMethod y).before args s = true) (hsel : (Cond.selects C y y).before args s = true)
    (hcode : (Cond.codeWith y bytes maxL ret hh).before args s = true) (hy : y.cls ≠ "java/lang/invoke/MethodHandle" ∧ y.cls ≠ "java/lang/invoke/VarHandle")
    {W9 : Nat} {Pre : Pt → Array Value → Prop} {Post : Pt → Array Value → Option Value → Pt → Prop} (hK : Back l R p e below s args y 3 W9 Pre Post)
    {b : Addr} {cellB : Cell} (hcell : T.heap[b]? = some cellB) (hobj : cellB.vm.isStatics = false) (hcls : s.vm.findClass C = some cellB.cls)
    {g : JFrame} (hg : g.method = m) (hsize : g.locals.size = c.maxLocals) {argsL rest : List Value} (hlen : ∀ sig, parseMethodDescriptor y.desc = some sig → argsL.length = sig.parameters.length)
    (hstack : g.stack = argsL.reverse ++ .ref b :: rest) (hW : 2 * g.monitorRoom + (rest.map fun v => v.category).sum ≤ W9) (hdg : decode c.code g.pc = .ok (.invokevirtual index, 3))
    (hpre : ∀ vm₁, s.WarmedH vm₁ → Pre ⟨T.setVm vm₁, locs, cells, slots⟩ (Value.ref b :: argsL).toArray) :
    ∃ (v : Option Value) (vm₁ : Vm) (B : Pt), s.WarmedH vm₁ ∧ Stand p l e R s m args below meth c B.U B.locs B.cells B.slots ∧ Post ⟨T.setVm vm₁, locs, cells, slots⟩ (Value.ref b :: argsL).toArray v B ∧
      ∀ target, Steps p.tables e below (B.U.setTop { g with pc := g.pc + 3, stack := v.toList ++ rest }) target → Steps p.tables e below (T.setTop g) target := by
  obtain ⟨mk, methM, hnamed, hmethM, hstM, habM⟩ := Cond.instanceMethod_spec hinst
  obtain ⟨m8, methM', cM, hn8, hmethM', -, -, -, -, -, -, hsigM⟩ := Cond.codeWith_spec hcode
  cases Option.some.inj (hn8.symm.trans hnamed)
  cases hmethM.symm.trans hmethM'
  obtain ⟨c2, r2, m2, q1, q2, q3, q4, kP, hkP, hkPi⟩ := Cond.selects_spec hsel
  cases hcls.symm.trans q1
  cases (State.methodFound?_of_named hnamed hy).symm.trans q2
  cases hnamed.symm.trans q3
  have hselP : selectMethod e.platform s.vm cellB.cls mk = .method mk := by rw [Launch.admits_selectMethod X.admits]; exact q4
  obtain ⟨vm₁, X₁, hstep₁⟩ := X.invokevirtual hexec hown hlink hnamed hmethM hstM hkP hkPi hy (a := b) (cell := cellB) hcell
    (fun z h => by rw [h] at hobj; cases hobj) hselP hmethM habM hkP hkPi (g := g) hg (argsL := argsL) (rest := rest) (hlen _ hsigM) hstack hdg
  obtain ⟨v, B, X', hpost, hsteps⟩ := hK m meth c ⟨T.setVm vm₁, locs, cells, slots⟩ { g with stack := rest } (.invokevirtual index) mk (Value.ref b :: argsL).toArray X₁ hg hsize hdg hW (X₁.named hnamed) (hpre vm₁ X₁.warmed)
  exact ⟨v, vm₁, B, X₁.warmed, X', hpost, fun target h => hstep₁ _ fun acts => by rw [doInvoke_state]; exact hsteps.trans h⟩
abbrev vx_CVW (R : Room) (s : State) (args : Array Value) (own C : String) (index : Nat) (y : MethodName) (bytes : ByteArray) (maxL : Nat) (ret : Option FieldType) (hh : List (Nat × Nat × Nat × Nat)) (ws : List Cond) (rm : Room) (mc ms n : Nat) : Prop :=
  (rm.cells = mc ∧ rm.slots = ms ∧ rm.frames + 1 ≤ R.frames ∧ 8 + (maxL + 11) + rm.locals ≤ R.locals ∧ (∀ w ∈ ws, ∀ (a' : Array Value) (U : State), s.WarmedH U.vm → w.before a' U = true) ∧ Cond.codeWith y bytes maxL ret hh ∈ ws) ∧
  (Cond.codeWith y bytes maxL ret hh).before args s = true ∧ (Cond.initialized y.cls).before args s = true ∧ (y.cls ≠ "java/lang/invoke/MethodHandle" ∧ y.cls ≠ "java/lang/invoke/VarHandle") ∧
  (∀ sig, parseMethodDescriptor y.desc = some sig → n = sig.parameters.length) ∧ (Cond.methodLink own index y).before args s = true ∧ (Cond.instanceMethod y).before args s = true ∧ (Cond.selects C y y).before args s = true
theorem vx_cwVW {own C : String} {index maxL mc ms : Nat} {y : MethodName} {bytes : ByteArray} {ret : Option FieldType} {hh : List (Nat × Nat × Nat × Nat)} {Ts ws ws' : List Cond} {rm : Room} (n : Nat) (ht : ∀ w ∈ Ts, w.before args s = true) (hT : GoodIn Ts (wsV own index C y ws)) (hw : ws = Cond.codeWith y bytes maxL ret hh :: ws') (hrc : rm.cells = mc) (hrs : rm.slots = ms)
    (hd : y.cls = C ∧ y.cls ≠ "java/lang/invoke/MethodHandle" ∧ y.cls ≠ "java/lang/invoke/VarHandle" ∧ (parseMethodDescriptor y.desc).map (fun d => d.parameters.length) = some n) (hR : rm.frames + 1 ≤ R.frames ∧ 8 + (maxL + 11) + rm.locals ≤ R.locals) :
    vx_CVW R s args own C index y bytes maxL ret hh ws rm mc ms n := by
  obtain ⟨hC, hd⟩ := hd
  subst hC
  have ok : ∀ w ∈ wsV own index y.cls y ws, w.before args s = true := fun w h => ht w (hT w h).1
  have hG : GoodIn Ts ws := fun w h => hT w (by unfold wsV; exact List.mem_append_right _ h)
  have hc : Cond.codeWith y bytes maxL ret hh ∈ ws := by rw [hw]; exact List.mem_cons_self
  refine ⟨⟨hrc, hrs, hR.1, hR.2, pay_in ht hG, hc⟩, ht _ (hG _ hc).1, ok _ (by simp [wsV]), ⟨hd.1, hd.2.1⟩, fun sig h => ?_, ok _ (by simp [wsV]), ok _ (by simp [wsV]), ok _ (by simp [wsV])⟩
  have h2 := hd.2.2
  rw [h] at h2
  exact (Option.some.inj h2).symm
theorem vx_runVW {y : MethodName} {bytes cc : ByteArray} {maxL nL mc ms n index : Nat} {ret : Option FieldType} {hh : List (Nat × Nat × Nat × Nat)} {ws : List Cond} {rm : Room} {Pc : Array Value → State → Prop} {Qc : Array Value → State → Outcome → State → Prop} {free : Addr → Prop} {Ts : List Cond} {own C : String} {b : Addr} {As rest : List Value} {g : JFrame}
    (S : CallFix p m c cc nL s args Ts own) (hM : Met l y ws rm Pc Qc mc ms free) (cw : vx_CVW R s args own C index y bytes maxL ret hh ws rm mc ms n) (hp : PreV s H C b Pc As)
    (hg : g.method = m) (hn : As.length = n) (hsize : g.locals.size = nL) (hstack : g.stack = As.reverse ++ .ref b :: rest) (hW : 2 * g.monitorRoom + (rest.map fun v => v.category).sum ≤ 8) (hdg : decode cc g.pc = .ok (.invokevirtual index, 3)) (hf : cells + mc ≤ R.cells ∧ slots + ms ≤ R.slots) :
    va_Run p l e R s m args below meth c H locs cells slots mc ms g rest (Qc (Value.ref b :: As).toArray) free := by
  obtain ⟨⟨hrc, hrs, hfr, hlo, hws, hcw⟩, hcode, hini, hy, hlen, hl, hin, hse⟩ := cw
  have hK : Back l R p e below s args y 3 8 (PreOf R mc ms Pc) (PostOf Qc mc ms free) := va_backW (hh := hh) (bytes := bytes) (maxL := maxL) (ret := ret) hM hp.1 hrc hrs hfr hlo hws hcw (fun a' U hW => word_at hW (Or.inl (by first | rfl | simp [Cond.onTables, Cond.keeps, Cond.steady])) hini)
  obtain ⟨hx, hb, hml, ho, -⟩ := S
  obtain ⟨-, ⟨cellB, hcB, hoB, hclB⟩, hPc⟩ := hp
  intro T hT X
  obtain ⟨v, vm₁, ⟨U', l2, c2, s2⟩, hW₁, X', ⟨g', mk, t, L, e1, e2, hq, h1, hL, h2, h3⟩, st⟩ := vx_callVW X hx (C := C) (hh := hh) (bytes := bytes) (maxL := maxL) (ret := ret) ho hl hin hse hcode hy hK (by rw [hT]; exact hcB) hoB hclB hg (hsize.trans hml.symm) (argsL := As) (rest := rest) (fun sig h => hn.trans (hlen sig h)) hstack hW (by rw [hb]; exact hdg)
    (fun vm₁ hW₁ => ⟨hf.1, hf.2, hPc (T.setVm vm₁) hT hW₁⟩)
  dsimp only [Pt.U, Pt.locs, Pt.cells, Pt.slots] at X' e1 e2 h1 h2 h3 st
  subst h1; subst h2; subst h3
  exact ⟨v, (T.setVm vm₁).calling g' mk (Value.ref b :: As).toArray, t, U', L, hT, X', hL, e1, e2, hq, st⟩
section
variable {y : MethodName} {bytes cc : ByteArray} {maxL nL mc ms n index : Nat} {ret : Option FieldType} {ws : List Cond} {rm : Room} {Pc : Array Value → State → Prop} {Qc : Array Value → State → Outcome → State → Prop} {XC : String → State → State → Prop} {free : Addr → Prop} {Ts : List Cond} {own C : String} {b : Addr} {As rest : List Value} {g : JFrame}
theorem vx_runVX {hh : List (Nat × Nat × Nat × Nat)} (S : CallFix p m c cc nL s args Ts own) (hM : vx_Met l y ws rm Pc Qc XC mc ms free) (cw : vx_CVW R s args own C index y bytes maxL ret hh ws rm mc ms n) (hp : PreV s H C b Pc As)
    (hg : g.method = m) (hn : As.length = n) (hsize : g.locals.size = nL) (hstack : g.stack = As.reverse ++ .ref b :: rest) (hW : 2 * g.monitorRoom + (rest.map fun v => v.category).sum ≤ 8) (hdg : decode cc g.pc = .ok (.invokevirtual index, 3)) (hf : cells + mc ≤ R.cells ∧ slots + ms ≤ R.slots) :
    vx_Run p l e R s m args below meth c H locs cells slots mc ms g rest (Qc (Value.ref b :: As).toArray) XC free := by
  obtain ⟨⟨hrc, hrs, hfr, hlo, hws, hcw⟩, hcode, hini, hy, hlen, hl, hin, hse⟩ := cw
  have hK : vx_Back l R p e below s args y 3 8 (PreOf R mc ms Pc) (PostOf Qc mc ms free) (vx_Post XC mc ms free) := vx_backW (hh := hh) (bytes := bytes) (maxL := maxL) (ret := ret) hM hp.1 hrc hrs hfr hlo hws hcw (fun a' U hW => word_at hW (Or.inl (by first | rfl | simp [Cond.onTables, Cond.keeps, Cond.steady])) hini)
  obtain ⟨hx, hb, hml, ho, -⟩ := S
  obtain ⟨-, ⟨cellB, hcB, hoB, hclB⟩, hPc⟩ := hp
  intro T hT X
  rcases vx_callVX X hx (C := C) (hh := hh) (bytes := bytes) (maxL := maxL) (ret := ret) ho hl hin hse hcode hy hK (by rw [hT]; exact hcB) hoB hclB hg (hsize.trans hml.symm) (argsL := As) (rest := rest) (fun sig h => hn.trans (hlen sig h)) hstack hW (by rw [hb]; exact hdg)
    (fun vm₁ hW₁ => ⟨hf.1, hf.2, hPc (T.setVm vm₁) hT hW₁⟩) with ⟨v, vm₁, ⟨U', l2, c2, s2⟩, hW₁, X', ⟨g', mk, t, L, e1, e2, hq, h1, hL, h2, h3⟩, st⟩ | ⟨q, vm₁, ⟨U', l2, c2, s2⟩, hW₁, X', ⟨g', mk, t, L, E, ce, e1, e2, hq, hce, hcv, hcl, h1, hL, h2, h3⟩, st⟩
  · dsimp only [Pt.U, Pt.locs, Pt.cells, Pt.slots] at X' e1 e2 h1 h2 h3 st
    subst h1; subst h2; subst h3
    exact Or.inl ⟨v, (T.setVm vm₁).calling g' mk (Value.ref b :: As).toArray, t, U', L, hT, X', hL, e1, e2, hq, st⟩
  · dsimp only [Pt.U, Pt.locs, Pt.cells, Pt.slots] at X' e1 e2 h1 h2 h3 st hcl
    subst h1; subst h2; subst h3
    exact Or.inr ⟨q, (T.setVm vm₁).calling g' mk (Value.ref b :: As).toArray, t, U', L, E, ce, hT, X', hL, e1, e2, hq, hce, hcv, vx_cls hW₁ hcl, st⟩
theorem vx_runSX {hh : List (Nat × Nat × Nat × Nat)} (S : CallFix p m c cc nL s args Ts own) (hM : vx_Met l y ws rm Pc Qc XC mc ms free) (cw : vx_CSW R s args own index y bytes maxL ret hh ws rm mc ms n) (hp : PreS s H Pc As)
    (hg : g.method = m) (hn : As.length = n) (hsize : g.locals.size = nL) (hstack : g.stack = As.reverse ++ rest) (hW : 2 * g.monitorRoom + (rest.map fun v => v.category).sum ≤ 8) (hdg : decode cc g.pc = .ok (.invokestatic index, 3)) (hf : cells + mc ≤ R.cells ∧ slots + ms ≤ R.slots) :
    vx_Run p l e R s m args below meth c H locs cells slots mc ms g rest (Qc As.toArray) XC free := by
  obtain ⟨⟨hrc, hrs, hfr, hlo, hws, hcw⟩, hcode, hini, hy, hlen, hl, hstt⟩ := cw
  have hK : vx_Back l R p e below s args y 3 8 (PreOf R mc ms Pc) (PostOf Qc mc ms free) (vx_Post XC mc ms free) := vx_backW (hh := hh) (bytes := bytes) (maxL := maxL) (ret := ret) hM hp.1 hrc hrs hfr hlo hws hcw (fun a' U hW => word_at hW (Or.inl (by first | rfl | simp [Cond.onTables, Cond.keeps, Cond.steady])) hini)
  obtain ⟨hx, hb, hml, ho, -⟩ := S
  intro T hT X
  rcases vx_callSX X hx (hh := hh) (bytes := bytes) (maxL := maxL) (ret := ret) ho hl hstt hini hcode hy hK hg (hsize.trans hml.symm) (argsL := As) (rest := rest) (fun sig h => hn.trans (hlen sig h)) hstack hW (by rw [hb]; exact hdg)
    (fun vm₁ hW₁ => ⟨hf.1, hf.2, hp.2 (T.setVm vm₁) hT hW₁⟩) with ⟨v, vm₁, ⟨U', l2, c2, s2⟩, hW₁, X', ⟨g', mk, t, L, e1, e2, hq, h1, hL, h2, h3⟩, st⟩ | ⟨q, vm₁, ⟨U', l2, c2, s2⟩, hW₁, X', ⟨g', mk, t, L, E, ce, e1, e2, hq, hce, hcv, hcl, h1, hL, h2, h3⟩, st⟩
  · dsimp only [Pt.U, Pt.locs, Pt.cells, Pt.slots] at X' e1 e2 h1 h2 h3 st
    subst h1; subst h2; subst h3
    exact Or.inl ⟨v, (T.setVm vm₁).calling g' mk As.toArray, t, U', L, hT, X', hL, e1, e2, hq, st⟩
  · dsimp only [Pt.U, Pt.locs, Pt.cells, Pt.slots] at X' e1 e2 h1 h2 h3 st hcl
    subst h1; subst h2; subst h3
    exact Or.inr ⟨q, (T.setVm vm₁).calling g' mk As.toArray, t, U', L, E, ce, hT, X', hL, e1, e2, hq, hce, hcv, vx_cls hW₁ hcl, st⟩
end
end VXH
theorem vx_ofWH {l : Launch} {y : MethodName} {ws ws' : List Cond} {rm : Room} {Pc : Array Value → State → Prop} {Qc : Array Value → State → Outcome → State → Prop} {XC : String → State → State → Prop} {mc ms : Nat} {free : Addr → Prop} {cc : ByteArray} {maxL : Nat} {ret : Option FieldType} {hh : List (Nat × Nat × Nat × Nat)}
    (hy : plainName y.cls = true) (hw : ws = Cond.codeWith y cc maxL ret hh :: ws')
    (body : ∀ p e s m args below meth c s₁, BodyLoose p l y (headSpec ws rm) cc maxL ret e s m args below meth c s₁ → c.maxLocals = maxL → Pc args s →
      W p l e (headSpec ws rm).room s m args below meth c s.heap [] 0 0 (vx_MQ below Qc XC args s mc ms free) (entryFrame m args maxL)) : vx_Met l y ws rm Pc Qc XC mc ms free := by
  refine MetFree.of_bodyS (code := cc) (maxLocals := maxL) (ret := ret) hy ?_ ?_
  · intro args s m h hn
    obtain ⟨m9, meth, c, hn9, h1, h2, h3, h4, -, h5, h6, -⟩ := Cond.codeWith_spec (atoms_spec (ws := ws) h _ (by rw [hw]; exact List.mem_cons_self))
    cases hn.symm.trans hn9
    exact ⟨meth, c, h1, h2, h3, h4, h5, h6⟩
  · intro p e s m args below meth c s₁ B hml hP _
    have hh0 : s₁.heap = s.heap := by rw [B.state]; rfl
    obtain ⟨t, a1, o, b1, b2, b3⟩ := body p e s m args below meth c s₁ B hml hP s₁ hh0 (Stand.of_body B)
    exact ⟨t, o, a1, b1, b2, b3⟩
/-! ===== END ===== -/
end
section
/-! ===== BEGIN printed: names, fields, word lists, decode rows ===== -/
def RX0 : String := "GameCafe$Copy"
def TX0 : u_T := fun k => match k with
  | 0 => ("GameCafe$Copy", "number", "I", true)
  | 1 => ("GameCafe$Copy", "game", "LGameCafe$Game;", true)
  | 2 => ("GameCafe$Copy", "has", "[I", true)
  | _ => ("GameCafe$Copy", "place", "I", false)
def tyX0 : Nat → FieldType := fun k => match k with
  | 0 => .int
  | 1 => .object "GameCafe$Game"
  | 2 => .array .int
  | _ => .int
abbrev wsX00 : List Cond := u_ws RX0 TX0 4
theorem nmX0 : ∀ a, a < 4 → ∀ b, b < 4 → a ≠ b → (TX0 a).2.1 ≠ (TX0 b).2.1 := by decide +kernel
theorem tyX0_ok : ∀ k, k < 4 → parseFieldDescriptor (TX0 k).2.2.1 = some (tyX0 k) := by decide +kernel
abbrev cX0_init : ByteArray := prog_2_method_1_code
def yX0_init : MethodName := ⟨RX0, "<init>", "(ILGameCafe$Game;)V"⟩
abbrev cX0_isPlayable : ByteArray := prog_2_method_2_code
def yX0_isPlayable : MethodName := ⟨RX0, "isPlayable", "()Z"⟩
abbrev cX0_worth : ByteArray := prog_2_method_3_code
def yX0_worth : MethodName := ⟨RX0, "worth", "()I"⟩
abbrev cX0_fillFrom : ByteArray := prog_2_method_4_code
def yX0_fillFrom : MethodName := ⟨RX0, "fillFrom", "(LGameCafe$Copy;)I"⟩
def RX1 : String := "GameCafe$Game"
def TX1 : u_T := fun k => match k with
  | 0 => ("GameCafe$Game", "least", "I", false)
  | 1 => ("GameCafe$Game", "most", "I", false)
  | 2 => ("GameCafe$Game", "lesson", "I", false)
  | 3 => ("GameCafe$Game", "timesPlayed", "I", false)
  | 4 => ("GameCafe$Game", "whole", "[I", true)
  | _ => ("GameCafe$Game", "need", "[I", true)
def tyX1 : Nat → FieldType := fun k => match k with
  | 0 => .int
  | 1 => .int
  | 2 => .int
  | 3 => .int
  | 4 => .array .int
  | _ => .array .int
abbrev wsX10 : List Cond := u_ws RX1 TX1 6
theorem nmX1 : ∀ a, a < 6 → ∀ b, b < 6 → a ≠ b → (TX1 a).2.1 ≠ (TX1 b).2.1 := by decide +kernel
theorem tyX1_ok : ∀ k, k < 6 → parseFieldDescriptor (TX1 k).2.2.1 = some (tyX1 k) := by decide +kernel
abbrev cX1_init : ByteArray := prog_3_method_1_code
def yX1_init : MethodName := ⟨RX1, "<init>", "()V"⟩
abbrev cX1_isFor : ByteArray := prog_3_method_2_code
def yX1_isFor : MethodName := ⟨RX1, "isFor", "(I)Z"⟩
def RX2 : String := "GameCafe$Group"
def TX2 : u_T := fun k => match k with
  | 0 => ("GameCafe$Group", "copy", "LGameCafe$Copy;", true)
  | 1 => ("GameCafe$Group", "since", "I", true)
  | 2 => ("GameCafe$Group", "people", "I", false)
  | _ => ("GameCafe$Group", "table", "LGameCafe$Table;", false)
def tyX2 : Nat → FieldType := fun k => match k with
  | 0 => .object "GameCafe$Copy"
  | 1 => .int
  | 2 => .int
  | _ => .object "GameCafe$Table"
abbrev wsX20 : List Cond := u_ws RX2 TX2 4
theorem nmX2 : ∀ a, a < 4 → ∀ b, b < 4 → a ≠ b → (TX2 a).2.1 ≠ (TX2 b).2.1 := by decide +kernel
theorem tyX2_ok : ∀ k, k < 4 → parseFieldDescriptor (TX2 k).2.2.1 = some (tyX2 k) := by decide +kernel
abbrev cX2_init : ByteArray := prog_4_method_1_code
def yX2_init : MethodName := ⟨RX2, "<init>", "(ILGameCafe$Table;LGameCafe$Copy;I)V"⟩
def RX3 : String := "GameCafe$Table"
def TX3 : u_T := fun k => match k with
  | 0 => ("GameCafe$Table", "number", "I", true)
  | 1 => ("GameCafe$Table", "seats", "I", false)
  | _ => ("GameCafe$Table", "group", "I", false)
def tyX3 : Nat → FieldType := fun k => match k with
  | 0 => .int
  | 1 => .int
  | _ => .int
abbrev wsX30 : List Cond := u_ws RX3 TX3 3
theorem nmX3 : ∀ a, a < 3 → ∀ b, b < 3 → a ≠ b → (TX3 a).2.1 ≠ (TX3 b).2.1 := by decide +kernel
theorem tyX3_ok : ∀ k, k < 3 → parseFieldDescriptor (TX3 k).2.2.1 = some (tyX3 k) := by decide +kernel
abbrev cX3_init : ByteArray := prog_5_method_1_code
def yX3_init : MethodName := ⟨RX3, "<init>", "(II)V"⟩
def RX4 : String := "GameCafe$Teacher"
def TX4 : u_T := fun k => match k with
  | 0 => ("GameCafe$Teacher", "knows", "[Z", true)
  | _ => ("GameCafe$Teacher", "busyUntil", "I", false)
def tyX4 : Nat → FieldType := fun k => match k with
  | 0 => .array .boolean
  | _ => .int
abbrev wsX40 : List Cond := u_ws RX4 TX4 2
theorem nmX4 : ∀ a, a < 2 → ∀ b, b < 2 → a ≠ b → (TX4 a).2.1 ≠ (TX4 b).2.1 := by decide +kernel
theorem tyX4_ok : ∀ k, k < 2 → parseFieldDescriptor (TX4 k).2.2.1 = some (tyX4 k) := by decide +kernel
abbrev cX4_init : ByteArray := prog_6_method_1_code
def yX4_init : MethodName := ⟨RX4, "<init>", "()V"⟩
def RX5 : String := "GameCafe"
def TX5 : u_T := fun k => match k with
  | 0 => ("GameCafe", "games", "[LGameCafe$Game;", true)
  | 1 => ("GameCafe", "tables", "[LGameCafe$Table;", true)
  | 2 => ("GameCafe", "staff", "[LGameCafe$Teacher;", true)
  | 3 => ("GameCafe", "owned", "[LGameCafe$Copy;", true)
  | 4 => ("GameCafe", "groups", "[LGameCafe$Group;", true)
  | 5 => ("GameCafe", "borrowed", "[LGameCafe$Copy;", true)
  | 6 => ("GameCafe", "bought", "I", false)
  | 7 => ("GameCafe", "seated", "I", false)
  | _ => ("GameCafe", "now", "I", false)
def tyX5 : Nat → FieldType := fun k => match k with
  | 0 => .array (.object "GameCafe$Game")
  | 1 => .array (.object "GameCafe$Table")
  | 2 => .array (.object "GameCafe$Teacher")
  | 3 => .array (.object "GameCafe$Copy")
  | 4 => .array (.object "GameCafe$Group")
  | 5 => .array (.object "GameCafe$Copy")
  | 6 => .int
  | 7 => .int
  | _ => .int
abbrev wsX50 : List Cond := u_ws RX5 TX5 9
theorem nmX5 : ∀ a, a < 9 → ∀ b, b < 9 → a ≠ b → (TX5 a).2.1 ≠ (TX5 b).2.1 := by decide +kernel
theorem tyX5_ok : ∀ k, k < 9 → parseFieldDescriptor (TX5 k).2.2.1 = some (tyX5 k) := by decide +kernel
abbrev cX5_init : ByteArray := prog_1_method_1_code
def yX5_init : MethodName := ⟨RX5, "<init>", "()V"⟩
abbrev cX5_setGame : ByteArray := prog_1_method_2_code
def yX5_setGame : MethodName := ⟨RX5, "setGame", "(IIII)V"⟩
abbrev cX5_setParts : ByteArray := prog_1_method_3_code
def yX5_setParts : MethodName := ⟨RX5, "setParts", "(IIII)V"⟩
abbrev cX5_setSeats : ByteArray := prog_1_method_4_code
def yX5_setSeats : MethodName := ⟨RX5, "setSeats", "(II)I"⟩
abbrev cX5_teach : ByteArray := prog_1_method_5_code
def yX5_teach : MethodName := ⟨RX5, "teach", "(IIZ)Z"⟩
abbrev cX5_buy : ByteArray := prog_1_method_6_code
def yX5_buy : MethodName := ⟨RX5, "buy", "(I)I"⟩
abbrev cX5_count : ByteArray := prog_1_method_7_code
def yX5_count : MethodName := ⟨RX5, "count", "(III)I"⟩
abbrev cX5_fill : ByteArray := prog_1_method_8_code
def yX5_fill : MethodName := ⟨RX5, "fill", "(II)I"⟩
abbrev cX5_seat : ByteArray := prog_1_method_9_code
def yX5_seat : MethodName := ⟨RX5, "seat", "(IIZ)I"⟩
abbrev cX5_grow : ByteArray := prog_1_method_10_code
def yX5_grow : MethodName := ⟨RX5, "grow", "(II)I"⟩
abbrev cX5_go : ByteArray := prog_1_method_11_code
def yX5_go : MethodName := ⟨RX5, "go", "(I)I"⟩
abbrev cX5_advance : ByteArray := prog_1_method_12_code
def yX5_advance : MethodName := ⟨RX5, "advance", "(I)I"⟩
abbrev cX5_lend : ByteArray := prog_1_method_13_code
def yX5_lend : MethodName := ⟨RX5, "lend", "(II)I"⟩
abbrev cX5_giveBack : ByteArray := prog_1_method_14_code
def yX5_giveBack : MethodName := ⟨RX5, "giveBack", "(III)I"⟩
abbrev cX5_minute : ByteArray := prog_1_method_15_code
def yX5_minute : MethodName := ⟨RX5, "minute", "()I"⟩
abbrev cX5_copies : ByteArray := prog_1_method_16_code
def yX5_copies : MethodName := ⟨RX5, "copies", "()I"⟩
abbrev cX5_parts : ByteArray := prog_1_method_17_code
def yX5_parts : MethodName := ⟨RX5, "parts", "(II)I"⟩
abbrev cX5_canBePlayed : ByteArray := prog_1_method_18_code
def yX5_canBePlayed : MethodName := ⟨RX5, "canBePlayed", "(I)Z"⟩
abbrev cX5_whereIs : ByteArray := prog_1_method_19_code
def yX5_whereIs : MethodName := ⟨RX5, "whereIs", "(I)I"⟩
abbrev cX5_at : ByteArray := prog_1_method_20_code
def yX5_at : MethodName := ⟨RX5, "at", "(I)I"⟩
abbrev cX5_copyOf : ByteArray := prog_1_method_21_code
def yX5_copyOf : MethodName := ⟨RX5, "copyOf", "(I)I"⟩
abbrev cX5_teaching : ByteArray := prog_1_method_22_code
def yX5_teaching : MethodName := ⟨RX5, "teaching", "(I)I"⟩
abbrev cX5_plays : ByteArray := prog_1_method_23_code
def yX5_plays : MethodName := ⟨RX5, "plays", "(I)I"⟩
abbrev cX5_propose : ByteArray := prog_1_method_24_code
def yX5_propose : MethodName := ⟨RX5, "propose", "(I)I"⟩
abbrev cX5_canSeatKnowing : ByteArray := prog_1_method_25_code
def yX5_canSeatKnowing : MethodName := ⟨RX5, "canSeatKnowing", "(ILGameCafe$Game;)Z"⟩
abbrev cX5_freeTableFor : ByteArray := prog_1_method_26_code
def yX5_freeTableFor : MethodName := ⟨RX5, "freeTableFor", "(I)LGameCafe$Table;"⟩
abbrev cX5_playableCopyOf : ByteArray := prog_1_method_27_code
def yX5_playableCopyOf : MethodName := ⟨RX5, "playableCopyOf", "(LGameCafe$Game;)LGameCafe$Copy;"⟩
abbrev cX5_freeTeacherOf : ByteArray := prog_1_method_28_code
def yX5_freeTeacherOf : MethodName := ⟨RX5, "freeTeacherOf", "(I)LGameCafe$Teacher;"⟩
abbrev cX5_copyNumbered : ByteArray := prog_1_method_29_code
def yX5_copyNumbered : MethodName := ⟨RX5, "copyNumbered", "(I)LGameCafe$Copy;"⟩
abbrev cX5_groupNumbered : ByteArray := prog_1_method_30_code
def yX5_groupNumbered : MethodName := ⟨RX5, "groupNumbered", "(I)LGameCafe$Group;"⟩
abbrev cX5_worthOfPart : ByteArray := prog_1_method_31_code
def yX5_worthOfPart : MethodName := ⟨RX5, "worthOfPart", "(I)I"⟩
abbrev cX5_checkNumber : ByteArray := prog_1_method_32_code
def yX5_checkNumber : MethodName := ⟨RX5, "checkNumber", "(II)V"⟩
abbrev cX5_checkRange : ByteArray := prog_1_method_33_code
def yX5_checkRange : MethodName := ⟨RX5, "checkRange", "(III)V"⟩
def RX6 : String := "GameCafeModel"
def TX6 : u_T := fun k => match k with
  | 0 => ("GameCafeModel", "minute", "I", false)
  | 1 => ("GameCafeModel", "leasts", "[I", true)
  | 2 => ("GameCafeModel", "mosts", "[I", true)
  | 3 => ("GameCafeModel", "minutes", "[I", true)
  | 4 => ("GameCafeModel", "wholes", "[I", true)
  | 5 => ("GameCafeModel", "needs", "[I", true)
  | 6 => ("GameCafeModel", "played", "[I", true)
  | 7 => ("GameCafeModel", "seats", "[I", true)
  | 8 => ("GameCafeModel", "taken", "[I", true)
  | 9 => ("GameCafeModel", "ignorant", "[I", true)
  | 10 => ("GameCafeModel", "until", "[I", true)
  | 11 => ("GameCafeModel", "copies", "I", false)
  | 12 => ("GameCafeModel", "games", "[I", true)
  | 13 => ("GameCafeModel", "places", "[I", true)
  | 14 => ("GameCafeModel", "parts", "[I", true)
  | 15 => ("GameCafeModel", "groups", "I", false)
  | 16 => ("GameCafeModel", "people", "[I", true)
  | 17 => ("GameCafeModel", "tables", "[I", true)
  | 18 => ("GameCafeModel", "ofGroup", "[I", true)
  | 19 => ("GameCafeModel", "since", "[I", true)
  | 20 => ("GameCafeModel", "gone", "[I", true)
  | 21 => ("GameCafeModel", "lent", "[I", true)
  | 22 => ("GameCafeModel", "deposits", "[I", true)
  | _ => ("GameCafeModel", "thrown", "I", false)
def tyX6 : Nat → FieldType := fun k => match k with
  | 0 => .int
  | 1 => .array .int
  | 2 => .array .int
  | 3 => .array .int
  | 4 => .array .int
  | 5 => .array .int
  | 6 => .array .int
  | 7 => .array .int
  | 8 => .array .int
  | 9 => .array .int
  | 10 => .array .int
  | 11 => .int
  | 12 => .array .int
  | 13 => .array .int
  | 14 => .array .int
  | 15 => .int
  | 16 => .array .int
  | 17 => .array .int
  | 18 => .array .int
  | 19 => .array .int
  | 20 => .array .int
  | 21 => .array .int
  | 22 => .array .int
  | _ => .int
abbrev wsX60 : List Cond := u_ws RX6 TX6 24
theorem nmX6 : ∀ a, a < 24 → ∀ b, b < 24 → a ≠ b → (TX6 a).2.1 ≠ (TX6 b).2.1 := by decide +kernel
theorem tyX6_ok : ∀ k, k < 24 → parseFieldDescriptor (TX6 k).2.2.1 = some (tyX6 k) := by decide +kernel
abbrev cX6_init : ByteArray := prog_8_method_1_code
def yX6_init : MethodName := ⟨RX6, "<init>", "()V"⟩
abbrev cX6_thrown : ByteArray := prog_8_method_2_code
def yX6_thrown : MethodName := ⟨RX6, "thrown", "()I"⟩
abbrev cX6_fails : ByteArray := prog_8_method_3_code
def yX6_fails : MethodName := ⟨RX6, "fails", "(I)I"⟩
abbrev cX6_in : ByteArray := prog_8_method_4_code
def yX6_in : MethodName := ⟨RX6, "in", "(III)Z"⟩
abbrev cX6_isGame : ByteArray := prog_8_method_5_code
def yX6_isGame : MethodName := ⟨RX6, "isGame", "(I)Z"⟩
abbrev cX6_isCopy : ByteArray := prog_8_method_6_code
def yX6_isCopy : MethodName := ⟨RX6, "isCopy", "(I)Z"⟩
abbrev cX6_isThere : ByteArray := prog_8_method_7_code
def yX6_isThere : MethodName := ⟨RX6, "isThere", "(I)Z"⟩
abbrev cX6_setGame : ByteArray := prog_8_method_8_code
def yX6_setGame : MethodName := ⟨RX6, "setGame", "(IIII)V"⟩
abbrev cX6_setParts : ByteArray := prog_8_method_9_code
def yX6_setParts : MethodName := ⟨RX6, "setParts", "(IIII)V"⟩
abbrev cX6_setSeats : ByteArray := prog_8_method_10_code
def yX6_setSeats : MethodName := ⟨RX6, "setSeats", "(II)I"⟩
abbrev cX6_teach : ByteArray := prog_8_method_11_code
def yX6_teach : MethodName := ⟨RX6, "teach", "(IIZ)Z"⟩
abbrev cX6_buy : ByteArray := prog_8_method_12_code
def yX6_buy : MethodName := ⟨RX6, "buy", "(I)I"⟩
abbrev cX6_count : ByteArray := prog_8_method_13_code
def yX6_count : MethodName := ⟨RX6, "count", "(III)I"⟩
abbrev cX6_fill : ByteArray := prog_8_method_14_code
def yX6_fill : MethodName := ⟨RX6, "fill", "(II)I"⟩
abbrev cX6_playable : ByteArray := prog_8_method_15_code
def yX6_playable : MethodName := ⟨RX6, "playable", "(I)Z"⟩
abbrev cX6_tableFor : ByteArray := prog_8_method_16_code
def yX6_tableFor : MethodName := ⟨RX6, "tableFor", "(I)I"⟩
abbrev cX6_copyFor : ByteArray := prog_8_method_17_code
def yX6_copyFor : MethodName := ⟨RX6, "copyFor", "(I)I"⟩
abbrev cX6_teacherFor : ByteArray := prog_8_method_18_code
def yX6_teacherFor : MethodName := ⟨RX6, "teacherFor", "(I)I"⟩
abbrev cX6_seat : ByteArray := prog_8_method_19_code
def yX6_seat : MethodName := ⟨RX6, "seat", "(IIZ)I"⟩
abbrev cX6_grow : ByteArray := prog_8_method_20_code
def yX6_grow : MethodName := ⟨RX6, "grow", "(II)I"⟩
abbrev cX6_go : ByteArray := prog_8_method_21_code
def yX6_go : MethodName := ⟨RX6, "go", "(I)I"⟩
abbrev cX6_advance : ByteArray := prog_8_method_22_code
def yX6_advance : MethodName := ⟨RX6, "advance", "(I)I"⟩
abbrev cX6_lend : ByteArray := prog_8_method_23_code
def yX6_lend : MethodName := ⟨RX6, "lend", "(II)I"⟩
abbrev cX6_giveBack : ByteArray := prog_8_method_24_code
def yX6_giveBack : MethodName := ⟨RX6, "giveBack", "(III)I"⟩
abbrev cX6_minute : ByteArray := prog_8_method_25_code
def yX6_minute : MethodName := ⟨RX6, "minute", "()I"⟩
abbrev cX6_copies : ByteArray := prog_8_method_26_code
def yX6_copies : MethodName := ⟨RX6, "copies", "()I"⟩
abbrev cX6_parts : ByteArray := prog_8_method_27_code
def yX6_parts : MethodName := ⟨RX6, "parts", "(II)I"⟩
abbrev cX6_canBePlayed : ByteArray := prog_8_method_28_code
def yX6_canBePlayed : MethodName := ⟨RX6, "canBePlayed", "(I)Z"⟩
abbrev cX6_whereIs : ByteArray := prog_8_method_29_code
def yX6_whereIs : MethodName := ⟨RX6, "whereIs", "(I)I"⟩
abbrev cX6_at : ByteArray := prog_8_method_30_code
def yX6_at : MethodName := ⟨RX6, "at", "(I)I"⟩
abbrev cX6_copyOf : ByteArray := prog_8_method_31_code
def yX6_copyOf : MethodName := ⟨RX6, "copyOf", "(I)I"⟩
abbrev cX6_teaching : ByteArray := prog_8_method_32_code
def yX6_teaching : MethodName := ⟨RX6, "teaching", "(I)I"⟩
abbrev cX6_plays : ByteArray := prog_8_method_33_code
def yX6_plays : MethodName := ⟨RX6, "plays", "(I)I"⟩
abbrev cX6_propose : ByteArray := prog_8_method_34_code
def yX6_propose : MethodName := ⟨RX6, "propose", "(I)I"⟩
def RJx8e188 : String := "java/lang/Cloneable"
def TJx8e188 : u_T := fun k => match k with
  | _ => ("", "", "", false)
def tyJx8e188 : Nat → FieldType := fun k => match k with
  | _ => .int
abbrev wsJx8e1880 : List Cond := u_ws RJx8e188 TJx8e188 0
theorem nmJx8e188 : ∀ a, a < 0 → ∀ b, b < 0 → a ≠ b → (TJx8e188 a).2.1 ≠ (TJx8e188 b).2.1 := by decide +kernel
theorem tyJx8e188_ok : ∀ k, k < 0 → parseFieldDescriptor (TJx8e188 k).2.2.1 = some (tyJx8e188 k) := by decide +kernel
def RJ9 : String := "java/lang/Math"
def TJ9 : u_T := fun k => match k with
  | _ => ("", "", "", false)
def tyJ9 : Nat → FieldType := fun k => match k with
  | _ => .int
abbrev wsJ90 : List Cond := u_ws RJ9 TJ9 0
theorem nmJ9 : ∀ a, a < 0 → ∀ b, b < 0 → a ≠ b → (TJ9 a).2.1 ≠ (TJ9 b).2.1 := by decide +kernel
theorem tyJ9_ok : ∀ k, k < 0 → parseFieldDescriptor (TJ9 k).2.2.1 = some (tyJ9 k) := by decide +kernel
abbrev cJ9_max_7cf53 : ByteArray := prog_14_method_65_code
def yJ9_max_7cf53 : MethodName := ⟨RJ9, "max", "(II)I"⟩
abbrev cJ9_min_7cf53 : ByteArray := prog_14_method_69_code
def yJ9_min_7cf53 : MethodName := ⟨RJ9, "min", "(II)I"⟩
def RJ0 : String := "java/lang/String"
def TJ0 : u_T := fun k => match k with
  | _ => ("", "", "", false)
def tyJ0 : Nat → FieldType := fun k => match k with
  | _ => .int
abbrev wsJ00 : List Cond := u_ws RJ0 TJ0 0
theorem nmJ0 : ∀ a, a < 0 → ∀ b, b < 0 → a ≠ b → (TJ0 a).2.1 ≠ (TJ0 b).2.1 := by decide +kernel
theorem tyJ0_ok : ∀ k, k < 0 → parseFieldDescriptor (TJ0 k).2.2.1 = some (tyJ0 k) := by decide +kernel
def RL : String := "GameCafeLaw"
abbrev cL_setGame : ByteArray := method_3_code
def yL_setGame : MethodName := ⟨RL, "setGame", "(LGameCafe;IIII)I"⟩
abbrev cL_setParts : ByteArray := method_4_code
def yL_setParts : MethodName := ⟨RL, "setParts", "(LGameCafe;IIII)I"⟩
abbrev cL_setSeats : ByteArray := method_5_code
def yL_setSeats : MethodName := ⟨RL, "setSeats", "(LGameCafe;II[J)I"⟩
abbrev cL_teach : ByteArray := method_6_code
def yL_teach : MethodName := ⟨RL, "teach", "(LGameCafe;IIZ[J)I"⟩
abbrev cL_buy : ByteArray := method_7_code
def yL_buy : MethodName := ⟨RL, "buy", "(LGameCafe;I[J)I"⟩
abbrev cL_count : ByteArray := method_8_code
def yL_count : MethodName := ⟨RL, "count", "(LGameCafe;III[J)I"⟩
abbrev cL_fill : ByteArray := method_9_code
def yL_fill : MethodName := ⟨RL, "fill", "(LGameCafe;II[J)I"⟩
abbrev cL_seat : ByteArray := method_10_code
def yL_seat : MethodName := ⟨RL, "seat", "(LGameCafe;IIZ[J)I"⟩
abbrev cL_grow : ByteArray := method_11_code
def yL_grow : MethodName := ⟨RL, "grow", "(LGameCafe;II[J)I"⟩
abbrev cL_go : ByteArray := method_12_code
def yL_go : MethodName := ⟨RL, "go", "(LGameCafe;I[J)I"⟩
abbrev cL_advance : ByteArray := method_13_code
def yL_advance : MethodName := ⟨RL, "advance", "(LGameCafe;I[J)I"⟩
abbrev cL_lend : ByteArray := method_14_code
def yL_lend : MethodName := ⟨RL, "lend", "(LGameCafe;II[J)I"⟩
abbrev cL_giveBack : ByteArray := method_15_code
def yL_giveBack : MethodName := ⟨RL, "giveBack", "(LGameCafe;III[J)I"⟩
abbrev cL_parts : ByteArray := method_16_code
def yL_parts : MethodName := ⟨RL, "parts", "(LGameCafe;II[J)I"⟩
abbrev cL_canBePlayed : ByteArray := method_17_code
def yL_canBePlayed : MethodName := ⟨RL, "canBePlayed", "(LGameCafe;I[J)I"⟩
abbrev cL_whereIs : ByteArray := method_18_code
def yL_whereIs : MethodName := ⟨RL, "whereIs", "(LGameCafe;I[J)I"⟩
abbrev cL_at : ByteArray := method_19_code
def yL_at : MethodName := ⟨RL, "at", "(LGameCafe;I[J)I"⟩
abbrev cL_copyOf : ByteArray := method_20_code
def yL_copyOf : MethodName := ⟨RL, "copyOf", "(LGameCafe;I[J)I"⟩
abbrev cL_teaching : ByteArray := method_21_code
def yL_teaching : MethodName := ⟨RL, "teaching", "(LGameCafe;I[J)I"⟩
abbrev cL_plays : ByteArray := method_22_code
def yL_plays : MethodName := ⟨RL, "plays", "(LGameCafe;I[J)I"⟩
abbrev cL_propose : ByteArray := method_23_code
def yL_propose : MethodName := ⟨RL, "propose", "(LGameCafe;I[J)I"⟩
abbrev cL_law : ByteArray := code
def yL_law : MethodName := ⟨RL, "law", "([I)Z"⟩
def wsX0_init : List Cond := .code yX0_init cX0_init 3 none :: ([.methodLink RX0 3 objectInit, .instanceMethod objectInit, .code objectInit ⟨#[0xb1]⟩ 1 none, .fieldLink RX0 9 "GameCafe$Copy" "place" "I", .fieldLink RX0 15 "GameCafe$Copy" "number" "I", .fieldLink RX0 18 "GameCafe$Copy" "game" "LGameCafe$Game;", .fieldLink RX0 22 "GameCafe$Game" "whole" "[I", .methodLink RX0 28 ⟨"[I", "clone", "()Ljava/lang/Object;"⟩, .sameMethod "[I" "java/lang/Object" "clone" "()Ljava/lang/Object;", .native ⟨"java/lang/Object", "clone", "()Ljava/lang/Object;"⟩, .instanceMethod ⟨"java/lang/Object", "clone", "()Ljava/lang/Object;"⟩, .selects "[I" ⟨"[I", "clone", "()Ljava/lang/Object;"⟩ ⟨"java/lang/Object", "clone", "()Ljava/lang/Object;"⟩, .classLink RX0 29 "[I", .fieldLink RX0 33 "GameCafe$Copy" "has" "[I"] ++ wsX00 ++ wsX10)
def wsX0_isPlayable : List Cond := .code yX0_isPlayable cX0_isPlayable 2 (some .boolean) :: ([.fieldLink RX0 33 "GameCafe$Copy" "has" "[I", .fieldLink RX0 18 "GameCafe$Copy" "game" "LGameCafe$Game;", .fieldLink RX0 36 "GameCafe$Game" "need" "[I"] ++ wsX00 ++ wsX10)
def wsX5_worthOfPart : List Cond := .code yX5_worthOfPart cX5_worthOfPart 1 (some .int) :: ([])
def wsX0_worth : List Cond := .code yX0_worth cX0_worth 3 (some .int) :: ([.fieldLink RX0 33 "GameCafe$Copy" "has" "[I", .static yX5_worthOfPart, .initialized RX5, .code yX5_worthOfPart cX5_worthOfPart 1 (some .int)] ++ wsX00)
def wsX0_fillFrom : List Cond := .code yX0_fillFrom cX0_fillFrom 6 (some .int) :: ([.fieldLink RX0 18 "GameCafe$Copy" "game" "LGameCafe$Game;", .fieldLink RX0 22 "GameCafe$Game" "whole" "[I", .fieldLink RX0 33 "GameCafe$Copy" "has" "[I", .methodLink RX0 43 Lib.Math.max.name, .static Lib.Math.max.name, .initialized "java/lang/Math", .code Lib.Math.max.name Lib.Math.max.code 2 (some .int), .methodLink RX0 49 Lib.Math.min.name, .static Lib.Math.min.name, .code Lib.Math.min.name Lib.Math.min.code 2 (some .int)] ++ wsX00 ++ wsX10)
def wsX1_init : List Cond := .code yX1_init cX1_init 1 none :: ([.methodLink RX1 1 objectInit, .instanceMethod objectInit, .code objectInit ⟨#[0xb1]⟩ 1 none, .fieldLink RX1 7 "GameCafe$Game" "least" "I", .fieldLink RX1 13 "GameCafe$Game" "most" "I", .fieldLink RX1 16 "GameCafe$Game" "lesson" "I", .fieldLink RX1 19 "GameCafe$Game" "timesPlayed" "I", .arrayClass .int, .fieldLink RX1 22 "GameCafe$Game" "whole" "[I", .fieldLink RX1 26 "GameCafe$Game" "need" "[I"] ++ wsX10)
def wsX1_isFor : List Cond := .code yX1_isFor cX1_isFor 2 (some .boolean) :: ([.fieldLink RX1 7 "GameCafe$Game" "least" "I", .fieldLink RX1 13 "GameCafe$Game" "most" "I"] ++ wsX10)
def wsX2_init : List Cond := .code yX2_init cX2_init 5 none :: ([.methodLink RX2 1 objectInit, .instanceMethod objectInit, .code objectInit ⟨#[0xb1]⟩ 1 none, .fieldLink RX2 7 "GameCafe$Group" "people" "I", .fieldLink RX2 13 "GameCafe$Group" "table" "LGameCafe$Table;", .fieldLink RX2 17 "GameCafe$Group" "copy" "LGameCafe$Copy;", .fieldLink RX2 21 "GameCafe$Group" "since" "I"] ++ wsX20)
def wsX3_init : List Cond := .code yX3_init cX3_init 3 none :: ([.methodLink RX3 3 objectInit, .instanceMethod objectInit, .code objectInit ⟨#[0xb1]⟩ 1 none, .fieldLink RX3 9 "GameCafe$Table" "group" "I", .fieldLink RX3 15 "GameCafe$Table" "number" "I", .fieldLink RX3 18 "GameCafe$Table" "seats" "I"] ++ wsX30)
def wsX4_init : List Cond := .code yX4_init cX4_init 1 none :: ([.methodLink RX4 1 objectInit, .instanceMethod objectInit, .code objectInit ⟨#[0xb1]⟩ 1 none, .arrayClass .boolean, .fieldLink RX4 7 "GameCafe$Teacher" "knows" "[Z", .fieldLink RX4 13 "GameCafe$Teacher" "busyUntil" "I"] ++ wsX40)
def wsX5_init_r1 : List Cond := [Cond.methodLink RX5 1 objectInit, Cond.instanceMethod objectInit, Cond.code objectInit ⟨#[0xb1]⟩ 1 none, Cond.classLink RX5 9 RX1, Cond.fieldLink RX5 11 "GameCafe" "games" "[LGameCafe$Game;", Cond.classLink RX5 15 RX3, Cond.fieldLink RX5 17 "GameCafe" "tables" "[LGameCafe$Table;", Cond.classLink RX5 21 RX4, Cond.fieldLink RX5 23 "GameCafe" "staff" "[LGameCafe$Teacher;", Cond.classLink RX5 27 RX0, Cond.fieldLink RX5 29 "GameCafe" "owned" "[LGameCafe$Copy;", Cond.classLink RX5 33 RX2, Cond.fieldLink RX5 35 "GameCafe" "groups" "[LGameCafe$Group;", Cond.fieldLink RX5 39 "GameCafe" "borrowed" "[LGameCafe$Copy;", Cond.fieldLink RX5 42 "GameCafe" "bought" "I", Cond.fieldLink RX5 46 "GameCafe" "seated" "I", Cond.fieldLink RX5 49 "GameCafe" "now" "I", Cond.instantiable RX1 6, Cond.initialized RX1, Cond.instantiable RX3 3, Cond.initialized RX3, Cond.instantiable RX4 2, Cond.initialized RX4, Cond.instanceMethod yX1_init]
def wsX5_init_r2 : List Cond := [Cond.code yX1_init cX1_init 1 none, Cond.methodLink RX1 1 objectInit, Cond.fieldLink RX1 7 "GameCafe$Game" "least" "I", Cond.fieldLink RX1 13 "GameCafe$Game" "most" "I", Cond.fieldLink RX1 16 "GameCafe$Game" "lesson" "I", Cond.fieldLink RX1 19 "GameCafe$Game" "timesPlayed" "I", Cond.arrayClass .int, Cond.fieldLink RX1 22 "GameCafe$Game" "whole" "[I", Cond.fieldLink RX1 26 "GameCafe$Game" "need" "[I", Cond.methodLink RX5 53 yX3_init, Cond.instanceMethod yX3_init, Cond.code yX3_init cX3_init 3 none, Cond.methodLink RX3 3 objectInit, Cond.fieldLink RX3 9 "GameCafe$Table" "group" "I", Cond.fieldLink RX3 15 "GameCafe$Table" "number" "I", Cond.fieldLink RX3 18 "GameCafe$Table" "seats" "I", Cond.instanceMethod yX4_init, Cond.code yX4_init cX4_init 1 none, Cond.methodLink RX4 1 objectInit, Cond.arrayClass .boolean, Cond.fieldLink RX4 7 "GameCafe$Teacher" "knows" "[Z", Cond.fieldLink RX4 13 "GameCafe$Teacher" "busyUntil" "I"]
def wsX5_init : List Cond := .code yX5_init cX5_init 2 none :: ((wsX5_init_r1 ++ wsX5_init_r2) ++ wsX50 ++ wsX10 ++ wsX30 ++ wsX40)
def wsX5_checkNumber : List Cond := .code yX5_checkNumber cX5_checkNumber 2 none :: ([.classLink RX5 211 "java/lang/IndexOutOfBoundsException", .initialized "java/lang/IndexOutOfBoundsException"] ++ (vx_atS RX5 215 "java/lang/IndexOutOfBoundsException" ["java/lang/RuntimeException", "java/lang/Exception"]).filter goodWord)
def wsX5_checkRange : List Cond := .code yX5_checkRange cX5_checkRange 3 none :: ([.classLink RX5 118 "java/lang/IllegalArgumentException", .initialized "java/lang/IllegalArgumentException"] ++ (vx_atS RX5 122 "java/lang/IllegalArgumentException" ["java/lang/RuntimeException", "java/lang/Exception"]).filter goodWord)
def wsX5_setGame : List Cond := .code yX5_setGame cX5_setGame 6 none :: ([.fieldLink RX5 11 "GameCafe" "games" "[LGameCafe$Game;", .fieldLink RX5 64 "GameCafe$Game" "least" "I", .fieldLink RX5 67 "GameCafe$Game" "most" "I", .fieldLink RX5 70 "GameCafe$Game" "lesson" "I", .methodLink RX5 57 yX5_checkNumber, .static yX5_checkNumber, .initialized RX5, .code yX5_checkNumber cX5_checkNumber 2 none, .classLink RX5 211 "java/lang/IndexOutOfBoundsException", .initialized "java/lang/IndexOutOfBoundsException", .methodLink RX5 60 yX5_checkRange, .static yX5_checkRange, .code yX5_checkRange cX5_checkRange 3 none, .classLink RX5 118 "java/lang/IllegalArgumentException", .initialized "java/lang/IllegalArgumentException"] ++ wsX50 ++ wsX10 ++ (vx_atS RX5 215 "java/lang/IndexOutOfBoundsException" ["java/lang/RuntimeException", "java/lang/Exception"]).filter goodWord ++ (vx_atS RX5 122 "java/lang/IllegalArgumentException" ["java/lang/RuntimeException", "java/lang/Exception"]).filter goodWord)
def wsX5_setParts : List Cond := .code yX5_setParts cX5_setParts 6 none :: ([.fieldLink RX5 11 "GameCafe" "games" "[LGameCafe$Game;", .fieldLink RX5 73 "GameCafe$Game" "whole" "[I", .fieldLink RX5 77 "GameCafe$Game" "need" "[I", .methodLink RX5 57 yX5_checkNumber, .static yX5_checkNumber, .initialized RX5, .code yX5_checkNumber cX5_checkNumber 2 none, .classLink RX5 211 "java/lang/IndexOutOfBoundsException", .initialized "java/lang/IndexOutOfBoundsException", .methodLink RX5 60 yX5_checkRange, .static yX5_checkRange, .code yX5_checkRange cX5_checkRange 3 none, .classLink RX5 118 "java/lang/IllegalArgumentException", .initialized "java/lang/IllegalArgumentException"] ++ wsX50 ++ wsX10 ++ (vx_atS RX5 215 "java/lang/IndexOutOfBoundsException" ["java/lang/RuntimeException", "java/lang/Exception"]).filter goodWord ++ (vx_atS RX5 122 "java/lang/IllegalArgumentException" ["java/lang/RuntimeException", "java/lang/Exception"]).filter goodWord)
def wsX5_setSeats : List Cond := .code yX5_setSeats cX5_setSeats 5 (some .int) :: ([.classLink RX5 83 "java/lang/IllegalStateException", .initialized "java/lang/IllegalStateException", .fieldLink RX5 17 "GameCafe" "tables" "[LGameCafe$Table;", .fieldLink RX5 80 "GameCafe$Table" "group" "I", .fieldLink RX5 90 "GameCafe$Table" "seats" "I", .methodLink RX5 57 yX5_checkNumber, .static yX5_checkNumber, .initialized RX5, .code yX5_checkNumber cX5_checkNumber 2 none, .classLink RX5 211 "java/lang/IndexOutOfBoundsException", .initialized "java/lang/IndexOutOfBoundsException", .methodLink RX5 60 yX5_checkRange, .static yX5_checkRange, .code yX5_checkRange cX5_checkRange 3 none, .classLink RX5 118 "java/lang/IllegalArgumentException", .initialized "java/lang/IllegalArgumentException"] ++ wsX50 ++ wsX30 ++ (vx_atS RX5 87 "java/lang/IllegalStateException" ["java/lang/RuntimeException", "java/lang/Exception"]).filter goodWord ++ (vx_atS RX5 215 "java/lang/IndexOutOfBoundsException" ["java/lang/RuntimeException", "java/lang/Exception"]).filter goodWord ++ (vx_atS RX5 122 "java/lang/IllegalArgumentException" ["java/lang/RuntimeException", "java/lang/Exception"]).filter goodWord)
def wsX5_teach : List Cond := .code yX5_teach cX5_teach 6 (some .boolean) :: ([.fieldLink RX5 23 "GameCafe" "staff" "[LGameCafe$Teacher;", .fieldLink RX5 93 "GameCafe$Teacher" "knows" "[Z", .methodLink RX5 57 yX5_checkNumber, .static yX5_checkNumber, .initialized RX5, .code yX5_checkNumber cX5_checkNumber 2 none, .classLink RX5 211 "java/lang/IndexOutOfBoundsException", .initialized "java/lang/IndexOutOfBoundsException"] ++ wsX50 ++ wsX40 ++ (vx_atS RX5 215 "java/lang/IndexOutOfBoundsException" ["java/lang/RuntimeException", "java/lang/Exception"]).filter goodWord)
def wsX5_buy_r1 : List Cond := [Cond.classLink RX5 83 "java/lang/IllegalStateException", Cond.initialized "java/lang/IllegalStateException", Cond.fieldLink RX5 42 "GameCafe" "bought" "I", Cond.fieldLink RX5 29 "GameCafe" "owned" "[LGameCafe$Copy;", Cond.classLink RX5 27 RX0, Cond.instantiable RX0 4, Cond.initialized RX0, Cond.fieldLink RX5 11 "GameCafe" "games" "[LGameCafe$Game;", Cond.methodLink RX5 57 yX5_checkNumber, Cond.static yX5_checkNumber, Cond.initialized RX5, Cond.code yX5_checkNumber cX5_checkNumber 2 none, Cond.classLink RX5 211 "java/lang/IndexOutOfBoundsException", Cond.initialized "java/lang/IndexOutOfBoundsException", Cond.methodLink RX5 99 yX0_init, Cond.instanceMethod yX0_init, Cond.code yX0_init cX0_init 3 none, Cond.methodLink RX0 3 objectInit, Cond.instanceMethod objectInit, Cond.code objectInit ⟨#[0xb1]⟩ 1 none, Cond.fieldLink RX0 9 "GameCafe$Copy" "place" "I", Cond.fieldLink RX0 15 "GameCafe$Copy" "number" "I", Cond.fieldLink RX0 18 "GameCafe$Copy" "game" "LGameCafe$Game;", Cond.fieldLink RX0 22 "GameCafe$Game" "whole" "[I"]
def wsX5_buy_r2 : List Cond := [Cond.methodLink RX0 28 ⟨"[I", "clone", "()Ljava/lang/Object;"⟩, Cond.sameMethod "[I" "java/lang/Object" "clone" "()Ljava/lang/Object;", Cond.native ⟨"java/lang/Object", "clone", "()Ljava/lang/Object;"⟩, Cond.instanceMethod ⟨"java/lang/Object", "clone", "()Ljava/lang/Object;"⟩, Cond.selects "[I" ⟨"[I", "clone", "()Ljava/lang/Object;"⟩ ⟨"java/lang/Object", "clone", "()Ljava/lang/Object;"⟩, Cond.classLink RX0 29 "[I", Cond.fieldLink RX0 33 "GameCafe$Copy" "has" "[I"]
def wsX5_buy : List Cond := .code yX5_buy cX5_buy 3 (some .int) :: ((wsX5_buy_r1 ++ wsX5_buy_r2) ++ wsX50 ++ wsX00 ++ wsX10 ++ (vx_atS RX5 87 "java/lang/IllegalStateException" ["java/lang/RuntimeException", "java/lang/Exception"]).filter goodWord ++ (vx_atS RX5 215 "java/lang/IndexOutOfBoundsException" ["java/lang/RuntimeException", "java/lang/Exception"]).filter goodWord)
def wsX5_copyNumbered : List Cond := .code yX5_copyNumbered cX5_copyNumbered 2 (some (.object "GameCafe$Copy")) :: ([.classLink RX5 211 "java/lang/IndexOutOfBoundsException", .initialized "java/lang/IndexOutOfBoundsException", .fieldLink RX5 29 "GameCafe" "owned" "[LGameCafe$Copy;"] ++ wsX50 ++ (vx_atS RX5 215 "java/lang/IndexOutOfBoundsException" ["java/lang/RuntimeException", "java/lang/Exception"]).filter goodWord)
def wsX5_count : List Cond := .code yX5_count cX5_count 6 (some .int) :: ([.classLink RX5 83 "java/lang/IllegalStateException", .initialized "java/lang/IllegalStateException", .fieldLink RX5 106 "GameCafe$Copy" "has" "[I", .fieldLink RX5 109 "GameCafe$Copy" "place" "I", .methodLink RX5 102 yX5_copyNumbered, .instanceMethod yX5_copyNumbered, .selects RX5 yX5_copyNumbered yX5_copyNumbered, .initialized RX5, .code yX5_copyNumbered cX5_copyNumbered 2 (some (.object "GameCafe$Copy")), .classLink RX5 211 "java/lang/IndexOutOfBoundsException", .initialized "java/lang/IndexOutOfBoundsException", .fieldLink RX5 29 "GameCafe" "owned" "[LGameCafe$Copy;", .methodLink RX5 57 yX5_checkNumber, .static yX5_checkNumber, .code yX5_checkNumber cX5_checkNumber 2 none, .methodLink RX5 60 yX5_checkRange, .static yX5_checkRange, .code yX5_checkRange cX5_checkRange 3 none, .classLink RX5 118 "java/lang/IllegalArgumentException", .initialized "java/lang/IllegalArgumentException"] ++ wsX00 ++ wsX50 ++ (vx_atS RX5 87 "java/lang/IllegalStateException" ["java/lang/RuntimeException", "java/lang/Exception"]).filter goodWord ++ (vx_atS RX5 215 "java/lang/IndexOutOfBoundsException" ["java/lang/RuntimeException", "java/lang/Exception"]).filter goodWord ++ (vx_atS RX5 122 "java/lang/IllegalArgumentException" ["java/lang/RuntimeException", "java/lang/Exception"]).filter goodWord)
def wsX5_fill_r1 : List Cond := [Cond.classLink RX5 118 "java/lang/IllegalArgumentException", Cond.initialized "java/lang/IllegalArgumentException", Cond.classLink RX5 83 "java/lang/IllegalStateException", Cond.initialized "java/lang/IllegalStateException", Cond.fieldLink RX5 114 "GameCafe$Copy" "game" "LGameCafe$Game;", Cond.fieldLink RX5 109 "GameCafe$Copy" "place" "I", Cond.methodLink RX5 102 yX5_copyNumbered, Cond.instanceMethod yX5_copyNumbered, Cond.selects RX5 yX5_copyNumbered yX5_copyNumbered, Cond.initialized RX5, Cond.code yX5_copyNumbered cX5_copyNumbered 2 (some (.object "GameCafe$Copy")), Cond.classLink RX5 211 "java/lang/IndexOutOfBoundsException", Cond.initialized "java/lang/IndexOutOfBoundsException", Cond.fieldLink RX5 29 "GameCafe" "owned" "[LGameCafe$Copy;", Cond.methodLink RX5 125 yX0_fillFrom, Cond.instanceMethod yX0_fillFrom, Cond.selects RX0 yX0_fillFrom yX0_fillFrom, Cond.initialized RX0, Cond.code yX0_fillFrom cX0_fillFrom 6 (some .int), Cond.fieldLink RX0 18 "GameCafe$Copy" "game" "LGameCafe$Game;", Cond.fieldLink RX0 22 "GameCafe$Game" "whole" "[I", Cond.fieldLink RX0 33 "GameCafe$Copy" "has" "[I", Cond.methodLink RX0 43 Lib.Math.max.name, Cond.static Lib.Math.max.name]
def wsX5_fill_r2 : List Cond := [Cond.initialized "java/lang/Math", Cond.code Lib.Math.max.name Lib.Math.max.code 2 (some .int), Cond.methodLink RX0 49 Lib.Math.min.name, Cond.static Lib.Math.min.name, Cond.code Lib.Math.min.name Lib.Math.min.code 2 (some .int)]
def wsX5_fill : List Cond := .code yX5_fill cX5_fill 5 (some .int) :: ((wsX5_fill_r1 ++ wsX5_fill_r2) ++ wsX00 ++ wsX50 ++ wsX10 ++ (vx_atS RX5 122 "java/lang/IllegalArgumentException" ["java/lang/RuntimeException", "java/lang/Exception"]).filter goodWord ++ (vx_atS RX5 87 "java/lang/IllegalStateException" ["java/lang/RuntimeException", "java/lang/Exception"]).filter goodWord ++ (vx_atS RX5 215 "java/lang/IndexOutOfBoundsException" ["java/lang/RuntimeException", "java/lang/Exception"]).filter goodWord)
def wsX5_freeTableFor : List Cond := .code yX5_freeTableFor cX5_freeTableFor 8 (some (.object "GameCafe$Table")) :: ([.fieldLink RX5 17 "GameCafe" "tables" "[LGameCafe$Table;", .fieldLink RX5 80 "GameCafe$Table" "group" "I", .fieldLink RX5 90 "GameCafe$Table" "seats" "I"] ++ wsX50 ++ wsX30)
def wsX5_playableCopyOf : List Cond := .code yX5_playableCopyOf cX5_playableCopyOf 6 (some (.object "GameCafe$Copy")) :: ([.fieldLink RX5 29 "GameCafe" "owned" "[LGameCafe$Copy;", .fieldLink RX5 114 "GameCafe$Copy" "game" "LGameCafe$Game;", .fieldLink RX5 109 "GameCafe$Copy" "place" "I", .methodLink RX5 196 yX0_isPlayable, .instanceMethod yX0_isPlayable, .selects RX0 yX0_isPlayable yX0_isPlayable, .initialized RX0, .code yX0_isPlayable cX0_isPlayable 2 (some .boolean), .fieldLink RX0 33 "GameCafe$Copy" "has" "[I", .fieldLink RX0 18 "GameCafe$Copy" "game" "LGameCafe$Game;", .fieldLink RX0 36 "GameCafe$Game" "need" "[I"] ++ wsX50 ++ wsX00 ++ wsX10)
def wsX5_freeTeacherOf : List Cond := .code yX5_freeTeacherOf cX5_freeTeacherOf 6 (some (.object "GameCafe$Teacher")) :: ([.fieldLink RX5 23 "GameCafe" "staff" "[LGameCafe$Teacher;", .fieldLink RX5 93 "GameCafe$Teacher" "knows" "[Z", .fieldLink RX5 149 "GameCafe$Teacher" "busyUntil" "I", .fieldLink RX5 49 "GameCafe" "now" "I"] ++ wsX50 ++ wsX40)
def wsX5_seat_r1 : List Cond := [Cond.classLink RX5 118 "java/lang/IllegalArgumentException", Cond.initialized "java/lang/IllegalArgumentException", Cond.classLink RX5 83 "java/lang/IllegalStateException", Cond.initialized "java/lang/IllegalStateException", Cond.fieldLink RX5 11 "GameCafe" "games" "[LGameCafe$Game;", Cond.fieldLink RX5 46 "GameCafe" "seated" "I", Cond.fieldLink RX5 49 "GameCafe" "now" "I", Cond.fieldLink RX5 70 "GameCafe$Game" "lesson" "I", Cond.fieldLink RX5 149 "GameCafe$Teacher" "busyUntil" "I", Cond.fieldLink RX5 35 "GameCafe" "groups" "[LGameCafe$Group;", Cond.classLink RX5 33 RX2, Cond.instantiable RX2 4, Cond.initialized RX2, Cond.fieldLink RX5 80 "GameCafe$Table" "group" "I", Cond.fieldLink RX5 109 "GameCafe$Copy" "place" "I", Cond.methodLink RX5 57 yX5_checkNumber, Cond.static yX5_checkNumber, Cond.initialized RX5, Cond.code yX5_checkNumber cX5_checkNumber 2 none, Cond.classLink RX5 211 "java/lang/IndexOutOfBoundsException", Cond.initialized "java/lang/IndexOutOfBoundsException", Cond.methodLink RX5 60 yX5_checkRange, Cond.static yX5_checkRange, Cond.code yX5_checkRange cX5_checkRange 3 none]
def wsX5_seat_r2 : List Cond := [Cond.methodLink RX5 129 yX1_isFor, Cond.instanceMethod yX1_isFor, Cond.selects RX1 yX1_isFor yX1_isFor, Cond.initialized RX1, Cond.code yX1_isFor cX1_isFor 2 (some .boolean), Cond.fieldLink RX1 7 "GameCafe$Game" "least" "I", Cond.fieldLink RX1 13 "GameCafe$Game" "most" "I", Cond.methodLink RX5 135 yX5_freeTableFor, Cond.instanceMethod yX5_freeTableFor, Cond.selects RX5 yX5_freeTableFor yX5_freeTableFor, Cond.code yX5_freeTableFor cX5_freeTableFor 8 (some (.object "GameCafe$Table")), Cond.fieldLink RX5 17 "GameCafe" "tables" "[LGameCafe$Table;", Cond.fieldLink RX5 90 "GameCafe$Table" "seats" "I", Cond.methodLink RX5 139 yX5_playableCopyOf, Cond.instanceMethod yX5_playableCopyOf, Cond.selects RX5 yX5_playableCopyOf yX5_playableCopyOf, Cond.code yX5_playableCopyOf cX5_playableCopyOf 6 (some (.object "GameCafe$Copy")), Cond.fieldLink RX5 29 "GameCafe" "owned" "[LGameCafe$Copy;", Cond.fieldLink RX5 114 "GameCafe$Copy" "game" "LGameCafe$Game;", Cond.methodLink RX5 196 yX0_isPlayable, Cond.instanceMethod yX0_isPlayable, Cond.selects RX0 yX0_isPlayable yX0_isPlayable, Cond.initialized RX0, Cond.code yX0_isPlayable cX0_isPlayable 2 (some .boolean)]
def wsX5_seat_r3 : List Cond := [Cond.fieldLink RX0 33 "GameCafe$Copy" "has" "[I", Cond.fieldLink RX0 18 "GameCafe$Copy" "game" "LGameCafe$Game;", Cond.fieldLink RX0 36 "GameCafe$Game" "need" "[I", Cond.methodLink RX5 143 yX5_freeTeacherOf, Cond.instanceMethod yX5_freeTeacherOf, Cond.selects RX5 yX5_freeTeacherOf yX5_freeTeacherOf, Cond.code yX5_freeTeacherOf cX5_freeTeacherOf 6 (some (.object "GameCafe$Teacher")), Cond.fieldLink RX5 23 "GameCafe" "staff" "[LGameCafe$Teacher;", Cond.fieldLink RX5 93 "GameCafe$Teacher" "knows" "[Z", Cond.methodLink RX5 152 yX2_init, Cond.instanceMethod yX2_init, Cond.code yX2_init cX2_init 5 none, Cond.methodLink RX2 1 objectInit, Cond.instanceMethod objectInit, Cond.code objectInit ⟨#[0xb1]⟩ 1 none, Cond.fieldLink RX2 7 "GameCafe$Group" "people" "I", Cond.fieldLink RX2 13 "GameCafe$Group" "table" "LGameCafe$Table;", Cond.fieldLink RX2 17 "GameCafe$Group" "copy" "LGameCafe$Copy;", Cond.fieldLink RX2 21 "GameCafe$Group" "since" "I"]
def wsX5_seat : List Cond := .code yX5_seat cX5_seat 9 (some .int) :: ((wsX5_seat_r1 ++ (wsX5_seat_r2 ++ wsX5_seat_r3)) ++ wsX50 ++ wsX10 ++ wsX40 ++ wsX20 ++ wsX30 ++ wsX00 ++ (vx_atS RX5 122 "java/lang/IllegalArgumentException" ["java/lang/RuntimeException", "java/lang/Exception"]).filter goodWord ++ (vx_atS RX5 87 "java/lang/IllegalStateException" ["java/lang/RuntimeException", "java/lang/Exception"]).filter goodWord ++ (vx_atS RX5 215 "java/lang/IndexOutOfBoundsException" ["java/lang/RuntimeException", "java/lang/Exception"]).filter goodWord)
def wsX5_groupNumbered : List Cond := .code yX5_groupNumbered cX5_groupNumbered 2 (some (.object "GameCafe$Group")) :: ([.classLink RX5 211 "java/lang/IndexOutOfBoundsException", .initialized "java/lang/IndexOutOfBoundsException", .fieldLink RX5 35 "GameCafe" "groups" "[LGameCafe$Group;"] ++ wsX50 ++ (vx_atS RX5 215 "java/lang/IndexOutOfBoundsException" ["java/lang/RuntimeException", "java/lang/Exception"]).filter goodWord)
def wsX5_grow_r1 : List Cond := [Cond.classLink RX5 83 "java/lang/IllegalStateException", Cond.initialized "java/lang/IllegalStateException", Cond.fieldLink RX5 159 "GameCafe$Group" "people" "I", Cond.fieldLink RX5 162 "GameCafe$Group" "copy" "LGameCafe$Copy;", Cond.fieldLink RX5 114 "GameCafe$Copy" "game" "LGameCafe$Game;", Cond.fieldLink RX5 67 "GameCafe$Game" "most" "I", Cond.fieldLink RX5 166 "GameCafe$Group" "table" "LGameCafe$Table;", Cond.fieldLink RX5 90 "GameCafe$Table" "seats" "I", Cond.fieldLink RX5 80 "GameCafe$Table" "group" "I", Cond.fieldLink RX5 172 "GameCafe$Table" "number" "I", Cond.methodLink RX5 155 yX5_groupNumbered, Cond.instanceMethod yX5_groupNumbered, Cond.selects RX5 yX5_groupNumbered yX5_groupNumbered, Cond.initialized RX5, Cond.code yX5_groupNumbered cX5_groupNumbered 2 (some (.object "GameCafe$Group")), Cond.classLink RX5 211 "java/lang/IndexOutOfBoundsException", Cond.initialized "java/lang/IndexOutOfBoundsException", Cond.fieldLink RX5 35 "GameCafe" "groups" "[LGameCafe$Group;", Cond.methodLink RX5 60 yX5_checkRange, Cond.static yX5_checkRange, Cond.code yX5_checkRange cX5_checkRange 3 none, Cond.classLink RX5 118 "java/lang/IllegalArgumentException", Cond.initialized "java/lang/IllegalArgumentException", Cond.methodLink RX5 135 yX5_freeTableFor]
def wsX5_grow_r2 : List Cond := [Cond.instanceMethod yX5_freeTableFor, Cond.selects RX5 yX5_freeTableFor yX5_freeTableFor, Cond.code yX5_freeTableFor cX5_freeTableFor 8 (some (.object "GameCafe$Table")), Cond.fieldLink RX5 17 "GameCafe" "tables" "[LGameCafe$Table;"]
def wsX5_grow : List Cond := .code yX5_grow cX5_grow 6 (some .int) :: ((wsX5_grow_r1 ++ wsX5_grow_r2) ++ wsX20 ++ wsX00 ++ wsX10 ++ wsX30 ++ wsX50 ++ (vx_atS RX5 87 "java/lang/IllegalStateException" ["java/lang/RuntimeException", "java/lang/Exception"]).filter goodWord ++ (vx_atS RX5 215 "java/lang/IndexOutOfBoundsException" ["java/lang/RuntimeException", "java/lang/Exception"]).filter goodWord ++ (vx_atS RX5 122 "java/lang/IllegalArgumentException" ["java/lang/RuntimeException", "java/lang/Exception"]).filter goodWord)
def wsX5_go : List Cond := .code yX5_go cX5_go 3 (some .int) :: ([.fieldLink RX5 166 "GameCafe$Group" "table" "LGameCafe$Table;", .fieldLink RX5 80 "GameCafe$Table" "group" "I", .fieldLink RX5 162 "GameCafe$Group" "copy" "LGameCafe$Copy;", .fieldLink RX5 109 "GameCafe$Copy" "place" "I", .fieldLink RX5 114 "GameCafe$Copy" "game" "LGameCafe$Game;", .fieldLink RX5 175 "GameCafe$Game" "timesPlayed" "I", .fieldLink RX5 35 "GameCafe" "groups" "[LGameCafe$Group;", .fieldLink RX5 49 "GameCafe" "now" "I", .fieldLink RX5 178 "GameCafe$Group" "since" "I", .methodLink RX5 155 yX5_groupNumbered, .instanceMethod yX5_groupNumbered, .selects RX5 yX5_groupNumbered yX5_groupNumbered, .initialized RX5, .code yX5_groupNumbered cX5_groupNumbered 2 (some (.object "GameCafe$Group")), .classLink RX5 211 "java/lang/IndexOutOfBoundsException", .initialized "java/lang/IndexOutOfBoundsException"] ++ wsX20 ++ wsX30 ++ wsX00 ++ wsX10 ++ wsX50 ++ (vx_atS RX5 215 "java/lang/IndexOutOfBoundsException" ["java/lang/RuntimeException", "java/lang/Exception"]).filter goodWord)
def wsX5_advance : List Cond := .code yX5_advance cX5_advance 2 (some .int) :: ([.classLink RX5 83 "java/lang/IllegalStateException", .initialized "java/lang/IllegalStateException", .fieldLink RX5 49 "GameCafe" "now" "I", .constant RX5 181 (100000), .methodLink RX5 60 yX5_checkRange, .static yX5_checkRange, .initialized RX5, .code yX5_checkRange cX5_checkRange 3 none, .classLink RX5 118 "java/lang/IllegalArgumentException", .initialized "java/lang/IllegalArgumentException"] ++ wsX50 ++ (vx_atS RX5 87 "java/lang/IllegalStateException" ["java/lang/RuntimeException", "java/lang/Exception"]).filter goodWord ++ (vx_atS RX5 122 "java/lang/IllegalArgumentException" ["java/lang/RuntimeException", "java/lang/Exception"]).filter goodWord)
def wsX5_lend : List Cond := .code yX5_lend cX5_lend 4 (some .int) :: ([.classLink RX5 83 "java/lang/IllegalStateException", .initialized "java/lang/IllegalStateException", .fieldLink RX5 109 "GameCafe$Copy" "place" "I", .fieldLink RX5 39 "GameCafe" "borrowed" "[LGameCafe$Copy;", .methodLink RX5 102 yX5_copyNumbered, .instanceMethod yX5_copyNumbered, .selects RX5 yX5_copyNumbered yX5_copyNumbered, .initialized RX5, .code yX5_copyNumbered cX5_copyNumbered 2 (some (.object "GameCafe$Copy")), .classLink RX5 211 "java/lang/IndexOutOfBoundsException", .initialized "java/lang/IndexOutOfBoundsException", .fieldLink RX5 29 "GameCafe" "owned" "[LGameCafe$Copy;", .methodLink RX5 57 yX5_checkNumber, .static yX5_checkNumber, .code yX5_checkNumber cX5_checkNumber 2 none, .methodLink RX5 186 yX0_worth, .instanceMethod yX0_worth, .selects RX0 yX0_worth yX0_worth, .initialized RX0, .code yX0_worth cX0_worth 3 (some .int), .fieldLink RX0 33 "GameCafe$Copy" "has" "[I", .static yX5_worthOfPart, .code yX5_worthOfPart cX5_worthOfPart 1 (some .int)] ++ wsX00 ++ wsX50 ++ (vx_atS RX5 87 "java/lang/IllegalStateException" ["java/lang/RuntimeException", "java/lang/Exception"]).filter goodWord ++ (vx_atS RX5 215 "java/lang/IndexOutOfBoundsException" ["java/lang/RuntimeException", "java/lang/Exception"]).filter goodWord)
def wsX5_giveBack_r1 : List Cond := [Cond.classLink RX5 83 "java/lang/IllegalStateException", Cond.initialized "java/lang/IllegalStateException", Cond.fieldLink RX5 39 "GameCafe" "borrowed" "[LGameCafe$Copy;", Cond.fieldLink RX5 106 "GameCafe$Copy" "has" "[I", Cond.fieldLink RX5 109 "GameCafe$Copy" "place" "I", Cond.methodLink RX5 57 yX5_checkNumber, Cond.static yX5_checkNumber, Cond.initialized RX5, Cond.code yX5_checkNumber cX5_checkNumber 2 none, Cond.classLink RX5 211 "java/lang/IndexOutOfBoundsException", Cond.initialized "java/lang/IndexOutOfBoundsException", Cond.methodLink RX5 60 yX5_checkRange, Cond.static yX5_checkRange, Cond.code yX5_checkRange cX5_checkRange 3 none, Cond.classLink RX5 118 "java/lang/IllegalArgumentException", Cond.initialized "java/lang/IllegalArgumentException", Cond.methodLink RX5 186 yX0_worth, Cond.instanceMethod yX0_worth, Cond.selects RX0 yX0_worth yX0_worth, Cond.initialized RX0, Cond.code yX0_worth cX0_worth 3 (some .int), Cond.fieldLink RX0 33 "GameCafe$Copy" "has" "[I", Cond.static yX5_worthOfPart, Cond.code yX5_worthOfPart cX5_worthOfPart 1 (some .int)]
def wsX5_giveBack_r2 : List Cond := [Cond.methodLink RX5 192 yX5_worthOfPart]
def wsX5_giveBack : List Cond := .code yX5_giveBack cX5_giveBack 6 (some .int) :: ((wsX5_giveBack_r1 ++ wsX5_giveBack_r2) ++ wsX50 ++ wsX00 ++ (vx_atS RX5 87 "java/lang/IllegalStateException" ["java/lang/RuntimeException", "java/lang/Exception"]).filter goodWord ++ (vx_atS RX5 215 "java/lang/IndexOutOfBoundsException" ["java/lang/RuntimeException", "java/lang/Exception"]).filter goodWord ++ (vx_atS RX5 122 "java/lang/IllegalArgumentException" ["java/lang/RuntimeException", "java/lang/Exception"]).filter goodWord)
def wsX5_minute : List Cond := .code yX5_minute cX5_minute 1 (some .int) :: ([.fieldLink RX5 49 "GameCafe" "now" "I"] ++ wsX50)
def wsX5_copies : List Cond := .code yX5_copies cX5_copies 1 (some .int) :: ([.fieldLink RX5 42 "GameCafe" "bought" "I"] ++ wsX50)
def wsX5_parts : List Cond := .code yX5_parts cX5_parts 4 (some .int) :: ([.fieldLink RX5 106 "GameCafe$Copy" "has" "[I", .methodLink RX5 102 yX5_copyNumbered, .instanceMethod yX5_copyNumbered, .selects RX5 yX5_copyNumbered yX5_copyNumbered, .initialized RX5, .code yX5_copyNumbered cX5_copyNumbered 2 (some (.object "GameCafe$Copy")), .classLink RX5 211 "java/lang/IndexOutOfBoundsException", .initialized "java/lang/IndexOutOfBoundsException", .fieldLink RX5 29 "GameCafe" "owned" "[LGameCafe$Copy;", .methodLink RX5 57 yX5_checkNumber, .static yX5_checkNumber, .code yX5_checkNumber cX5_checkNumber 2 none] ++ wsX00 ++ wsX50 ++ (vx_atS RX5 215 "java/lang/IndexOutOfBoundsException" ["java/lang/RuntimeException", "java/lang/Exception"]).filter goodWord)
def wsX5_canBePlayed : List Cond := .code yX5_canBePlayed cX5_canBePlayed 2 (some .boolean) :: ([.methodLink RX5 102 yX5_copyNumbered, .instanceMethod yX5_copyNumbered, .selects RX5 yX5_copyNumbered yX5_copyNumbered, .initialized RX5, .code yX5_copyNumbered cX5_copyNumbered 2 (some (.object "GameCafe$Copy")), .classLink RX5 211 "java/lang/IndexOutOfBoundsException", .initialized "java/lang/IndexOutOfBoundsException", .fieldLink RX5 29 "GameCafe" "owned" "[LGameCafe$Copy;", .methodLink RX5 196 yX0_isPlayable, .instanceMethod yX0_isPlayable, .selects RX0 yX0_isPlayable yX0_isPlayable, .initialized RX0, .code yX0_isPlayable cX0_isPlayable 2 (some .boolean), .fieldLink RX0 33 "GameCafe$Copy" "has" "[I", .fieldLink RX0 18 "GameCafe$Copy" "game" "LGameCafe$Game;", .fieldLink RX0 36 "GameCafe$Game" "need" "[I"] ++ wsX50 ++ wsX00 ++ wsX10 ++ (vx_atS RX5 215 "java/lang/IndexOutOfBoundsException" ["java/lang/RuntimeException", "java/lang/Exception"]).filter goodWord)
def wsX5_whereIs : List Cond := .code yX5_whereIs cX5_whereIs 2 (some .int) :: ([.fieldLink RX5 109 "GameCafe$Copy" "place" "I", .methodLink RX5 102 yX5_copyNumbered, .instanceMethod yX5_copyNumbered, .selects RX5 yX5_copyNumbered yX5_copyNumbered, .initialized RX5, .code yX5_copyNumbered cX5_copyNumbered 2 (some (.object "GameCafe$Copy")), .classLink RX5 211 "java/lang/IndexOutOfBoundsException", .initialized "java/lang/IndexOutOfBoundsException", .fieldLink RX5 29 "GameCafe" "owned" "[LGameCafe$Copy;"] ++ wsX00 ++ wsX50 ++ (vx_atS RX5 215 "java/lang/IndexOutOfBoundsException" ["java/lang/RuntimeException", "java/lang/Exception"]).filter goodWord)
def wsX5_at : List Cond := .code yX5_at cX5_at 2 (some .int) :: ([.fieldLink RX5 17 "GameCafe" "tables" "[LGameCafe$Table;", .fieldLink RX5 80 "GameCafe$Table" "group" "I", .methodLink RX5 57 yX5_checkNumber, .static yX5_checkNumber, .initialized RX5, .code yX5_checkNumber cX5_checkNumber 2 none, .classLink RX5 211 "java/lang/IndexOutOfBoundsException", .initialized "java/lang/IndexOutOfBoundsException"] ++ wsX50 ++ wsX30 ++ (vx_atS RX5 215 "java/lang/IndexOutOfBoundsException" ["java/lang/RuntimeException", "java/lang/Exception"]).filter goodWord)
def wsX5_copyOf : List Cond := .code yX5_copyOf cX5_copyOf 2 (some .int) :: ([.fieldLink RX5 162 "GameCafe$Group" "copy" "LGameCafe$Copy;", .fieldLink RX5 200 "GameCafe$Copy" "number" "I", .methodLink RX5 155 yX5_groupNumbered, .instanceMethod yX5_groupNumbered, .selects RX5 yX5_groupNumbered yX5_groupNumbered, .initialized RX5, .code yX5_groupNumbered cX5_groupNumbered 2 (some (.object "GameCafe$Group")), .classLink RX5 211 "java/lang/IndexOutOfBoundsException", .initialized "java/lang/IndexOutOfBoundsException", .fieldLink RX5 35 "GameCafe" "groups" "[LGameCafe$Group;"] ++ wsX20 ++ wsX00 ++ wsX50 ++ (vx_atS RX5 215 "java/lang/IndexOutOfBoundsException" ["java/lang/RuntimeException", "java/lang/Exception"]).filter goodWord)
def wsX5_teaching : List Cond := .code yX5_teaching cX5_teaching 2 (some .int) :: ([.fieldLink RX5 23 "GameCafe" "staff" "[LGameCafe$Teacher;", .fieldLink RX5 149 "GameCafe$Teacher" "busyUntil" "I", .fieldLink RX5 49 "GameCafe" "now" "I", .methodLink RX5 201 Lib.Math.max.name, .static Lib.Math.max.name, .initialized "java/lang/Math", .code Lib.Math.max.name Lib.Math.max.code 2 (some .int), .methodLink RX5 57 yX5_checkNumber, .static yX5_checkNumber, .initialized RX5, .code yX5_checkNumber cX5_checkNumber 2 none, .classLink RX5 211 "java/lang/IndexOutOfBoundsException", .initialized "java/lang/IndexOutOfBoundsException"] ++ wsX50 ++ wsX40 ++ (vx_atS RX5 215 "java/lang/IndexOutOfBoundsException" ["java/lang/RuntimeException", "java/lang/Exception"]).filter goodWord)
def wsX5_plays : List Cond := .code yX5_plays cX5_plays 2 (some .int) :: ([.fieldLink RX5 11 "GameCafe" "games" "[LGameCafe$Game;", .fieldLink RX5 175 "GameCafe$Game" "timesPlayed" "I", .methodLink RX5 57 yX5_checkNumber, .static yX5_checkNumber, .initialized RX5, .code yX5_checkNumber cX5_checkNumber 2 none, .classLink RX5 211 "java/lang/IndexOutOfBoundsException", .initialized "java/lang/IndexOutOfBoundsException"] ++ wsX50 ++ wsX10 ++ (vx_atS RX5 215 "java/lang/IndexOutOfBoundsException" ["java/lang/RuntimeException", "java/lang/Exception"]).filter goodWord)
def wsX5_canSeatKnowing_r1 : List Cond := [Cond.fieldLink RX5 46 "GameCafe" "seated" "I", Cond.methodLink RX5 129 yX1_isFor, Cond.instanceMethod yX1_isFor, Cond.selects RX1 yX1_isFor yX1_isFor, Cond.initialized RX1, Cond.code yX1_isFor cX1_isFor 2 (some .boolean), Cond.fieldLink RX1 7 "GameCafe$Game" "least" "I", Cond.fieldLink RX1 13 "GameCafe$Game" "most" "I", Cond.methodLink RX5 135 yX5_freeTableFor, Cond.instanceMethod yX5_freeTableFor, Cond.selects RX5 yX5_freeTableFor yX5_freeTableFor, Cond.initialized RX5, Cond.code yX5_freeTableFor cX5_freeTableFor 8 (some (.object "GameCafe$Table")), Cond.fieldLink RX5 17 "GameCafe" "tables" "[LGameCafe$Table;", Cond.fieldLink RX5 80 "GameCafe$Table" "group" "I", Cond.fieldLink RX5 90 "GameCafe$Table" "seats" "I", Cond.methodLink RX5 139 yX5_playableCopyOf, Cond.instanceMethod yX5_playableCopyOf, Cond.selects RX5 yX5_playableCopyOf yX5_playableCopyOf, Cond.code yX5_playableCopyOf cX5_playableCopyOf 6 (some (.object "GameCafe$Copy")), Cond.fieldLink RX5 29 "GameCafe" "owned" "[LGameCafe$Copy;", Cond.fieldLink RX5 114 "GameCafe$Copy" "game" "LGameCafe$Game;", Cond.fieldLink RX5 109 "GameCafe$Copy" "place" "I", Cond.methodLink RX5 196 yX0_isPlayable]
def wsX5_canSeatKnowing_r2 : List Cond := [Cond.instanceMethod yX0_isPlayable, Cond.selects RX0 yX0_isPlayable yX0_isPlayable, Cond.initialized RX0, Cond.code yX0_isPlayable cX0_isPlayable 2 (some .boolean), Cond.fieldLink RX0 33 "GameCafe$Copy" "has" "[I", Cond.fieldLink RX0 18 "GameCafe$Copy" "game" "LGameCafe$Game;", Cond.fieldLink RX0 36 "GameCafe$Game" "need" "[I"]
def wsX5_canSeatKnowing : List Cond := .code yX5_canSeatKnowing cX5_canSeatKnowing 3 (some .boolean) :: ((wsX5_canSeatKnowing_r1 ++ wsX5_canSeatKnowing_r2) ++ wsX50 ++ wsX10 ++ wsX30 ++ wsX00)
def wsX5_propose_r1 : List Cond := [Cond.fieldLink RX5 11 "GameCafe" "games" "[LGameCafe$Game;", Cond.fieldLink RX5 175 "GameCafe$Game" "timesPlayed" "I", Cond.methodLink RX5 60 yX5_checkRange, Cond.static yX5_checkRange, Cond.initialized RX5, Cond.code yX5_checkRange cX5_checkRange 3 none, Cond.classLink RX5 118 "java/lang/IllegalArgumentException", Cond.initialized "java/lang/IllegalArgumentException", Cond.methodLink RX5 207 yX5_canSeatKnowing, Cond.instanceMethod yX5_canSeatKnowing, Cond.selects RX5 yX5_canSeatKnowing yX5_canSeatKnowing, Cond.code yX5_canSeatKnowing cX5_canSeatKnowing 3 (some .boolean), Cond.fieldLink RX5 46 "GameCafe" "seated" "I", Cond.methodLink RX5 129 yX1_isFor, Cond.instanceMethod yX1_isFor, Cond.selects RX1 yX1_isFor yX1_isFor, Cond.initialized RX1, Cond.code yX1_isFor cX1_isFor 2 (some .boolean), Cond.fieldLink RX1 7 "GameCafe$Game" "least" "I", Cond.fieldLink RX1 13 "GameCafe$Game" "most" "I", Cond.methodLink RX5 135 yX5_freeTableFor, Cond.instanceMethod yX5_freeTableFor, Cond.selects RX5 yX5_freeTableFor yX5_freeTableFor, Cond.code yX5_freeTableFor cX5_freeTableFor 8 (some (.object "GameCafe$Table"))]
def wsX5_propose_r2 : List Cond := [Cond.fieldLink RX5 17 "GameCafe" "tables" "[LGameCafe$Table;", Cond.fieldLink RX5 80 "GameCafe$Table" "group" "I", Cond.fieldLink RX5 90 "GameCafe$Table" "seats" "I", Cond.methodLink RX5 139 yX5_playableCopyOf, Cond.instanceMethod yX5_playableCopyOf, Cond.selects RX5 yX5_playableCopyOf yX5_playableCopyOf, Cond.code yX5_playableCopyOf cX5_playableCopyOf 6 (some (.object "GameCafe$Copy")), Cond.fieldLink RX5 29 "GameCafe" "owned" "[LGameCafe$Copy;", Cond.fieldLink RX5 114 "GameCafe$Copy" "game" "LGameCafe$Game;", Cond.fieldLink RX5 109 "GameCafe$Copy" "place" "I", Cond.methodLink RX5 196 yX0_isPlayable, Cond.instanceMethod yX0_isPlayable, Cond.selects RX0 yX0_isPlayable yX0_isPlayable, Cond.initialized RX0, Cond.code yX0_isPlayable cX0_isPlayable 2 (some .boolean), Cond.fieldLink RX0 33 "GameCafe$Copy" "has" "[I", Cond.fieldLink RX0 18 "GameCafe$Copy" "game" "LGameCafe$Game;", Cond.fieldLink RX0 36 "GameCafe$Game" "need" "[I"]
def wsX5_propose : List Cond := .code yX5_propose cX5_propose 5 (some .int) :: ((wsX5_propose_r1 ++ wsX5_propose_r2) ++ wsX50 ++ wsX10 ++ wsX30 ++ wsX00 ++ (vx_atS RX5 122 "java/lang/IllegalArgumentException" ["java/lang/RuntimeException", "java/lang/Exception"]).filter goodWord)
def wsX6_init : List Cond := .code yX6_init cX6_init 2 none :: ([.methodLink RX6 1 objectInit, .instanceMethod objectInit, .code objectInit ⟨#[0xb1]⟩ 1 none, .arrayClass .int, .fieldLink RX6 7 "GameCafeModel" "leasts" "[I", .fieldLink RX6 13 "GameCafeModel" "mosts" "[I", .fieldLink RX6 16 "GameCafeModel" "minutes" "[I", .fieldLink RX6 19 "GameCafeModel" "wholes" "[I", .fieldLink RX6 22 "GameCafeModel" "needs" "[I", .fieldLink RX6 25 "GameCafeModel" "played" "[I", .fieldLink RX6 28 "GameCafeModel" "seats" "[I", .fieldLink RX6 31 "GameCafeModel" "taken" "[I", .fieldLink RX6 34 "GameCafeModel" "ignorant" "[I", .fieldLink RX6 37 "GameCafeModel" "until" "[I", .fieldLink RX6 40 "GameCafeModel" "games" "[I", .fieldLink RX6 43 "GameCafeModel" "places" "[I", .fieldLink RX6 46 "GameCafeModel" "parts" "[I", .fieldLink RX6 49 "GameCafeModel" "people" "[I", .fieldLink RX6 52 "GameCafeModel" "tables" "[I", .fieldLink RX6 55 "GameCafeModel" "ofGroup" "[I", .fieldLink RX6 58 "GameCafeModel" "since" "[I", .fieldLink RX6 61 "GameCafeModel" "gone" "[I", .fieldLink RX6 64 "GameCafeModel" "lent" "[I", .fieldLink RX6 67 "GameCafeModel" "deposits" "[I"] ++ wsX60)
def wsX6_thrown : List Cond := .code yX6_thrown cX6_thrown 1 (some .int) :: ([.fieldLink RX6 70 "GameCafeModel" "thrown" "I"] ++ wsX60)
def wsX6_fails : List Cond := .code yX6_fails cX6_fails 2 (some .int) :: ([.fieldLink RX6 70 "GameCafeModel" "thrown" "I"] ++ wsX60)
def wsX6_in : List Cond := .code yX6_in cX6_in 3 (some .boolean) :: ([])
def wsX6_isGame : List Cond := .code yX6_isGame cX6_isGame 1 (some .boolean) :: ([.methodLink RX6 74 yX6_in, .static yX6_in, .initialized RX6, .code yX6_in cX6_in 3 (some .boolean)])
def wsX6_isCopy : List Cond := .code yX6_isCopy cX6_isCopy 2 (some .boolean) :: ([.fieldLink RX6 78 "GameCafeModel" "copies" "I", .methodLink RX6 74 yX6_in, .static yX6_in, .initialized RX6, .code yX6_in cX6_in 3 (some .boolean)] ++ wsX60)
def wsX6_isThere : List Cond := .code yX6_isThere cX6_isThere 2 (some .boolean) :: ([.fieldLink RX6 81 "GameCafeModel" "groups" "I", .fieldLink RX6 61 "GameCafeModel" "gone" "[I", .fieldLink RX6 70 "GameCafeModel" "thrown" "I", .methodLink RX6 74 yX6_in, .static yX6_in, .initialized RX6, .code yX6_in cX6_in 3 (some .boolean)] ++ wsX60)
def wsX6_setGame : List Cond := .code yX6_setGame cX6_setGame 5 none :: ([.fieldLink RX6 70 "GameCafeModel" "thrown" "I", .fieldLink RX6 7 "GameCafeModel" "leasts" "[I", .fieldLink RX6 13 "GameCafeModel" "mosts" "[I", .fieldLink RX6 16 "GameCafeModel" "minutes" "[I", .methodLink RX6 84 yX6_isGame, .static yX6_isGame, .initialized RX6, .code yX6_isGame cX6_isGame 1 (some .boolean), .methodLink RX6 74 yX6_in, .static yX6_in, .code yX6_in cX6_in 3 (some .boolean)] ++ wsX60)
def wsX6_setParts : List Cond := .code yX6_setParts cX6_setParts 5 none :: ([.fieldLink RX6 70 "GameCafeModel" "thrown" "I", .fieldLink RX6 19 "GameCafeModel" "wholes" "[I", .fieldLink RX6 22 "GameCafeModel" "needs" "[I", .methodLink RX6 84 yX6_isGame, .static yX6_isGame, .initialized RX6, .code yX6_isGame cX6_isGame 1 (some .boolean), .methodLink RX6 74 yX6_in, .static yX6_in, .code yX6_in cX6_in 3 (some .boolean)] ++ wsX60)
def wsX6_setSeats : List Cond := .code yX6_setSeats cX6_setSeats 4 (some .int) :: ([.fieldLink RX6 31 "GameCafeModel" "taken" "[I", .fieldLink RX6 70 "GameCafeModel" "thrown" "I", .fieldLink RX6 28 "GameCafeModel" "seats" "[I", .methodLink RX6 74 yX6_in, .static yX6_in, .initialized RX6, .code yX6_in cX6_in 3 (some .boolean)] ++ wsX60)
def wsX6_teach : List Cond := .code yX6_teach cX6_teach 5 (some .boolean) :: ([.fieldLink RX6 70 "GameCafeModel" "thrown" "I", .fieldLink RX6 34 "GameCafeModel" "ignorant" "[I", .methodLink RX6 74 yX6_in, .static yX6_in, .initialized RX6, .code yX6_in cX6_in 3 (some .boolean), .methodLink RX6 84 yX6_isGame, .static yX6_isGame, .code yX6_isGame cX6_isGame 1 (some .boolean)] ++ wsX60)
def wsX6_buy : List Cond := .code yX6_buy cX6_buy 3 (some .int) :: ([.fieldLink RX6 78 "GameCafeModel" "copies" "I", .fieldLink RX6 70 "GameCafeModel" "thrown" "I", .fieldLink RX6 40 "GameCafeModel" "games" "[I", .fieldLink RX6 46 "GameCafeModel" "parts" "[I", .fieldLink RX6 19 "GameCafeModel" "wholes" "[I", .methodLink RX6 84 yX6_isGame, .static yX6_isGame, .initialized RX6, .code yX6_isGame cX6_isGame 1 (some .boolean), .methodLink RX6 74 yX6_in, .static yX6_in, .code yX6_in cX6_in 3 (some .boolean)] ++ wsX60)
def wsX6_count : List Cond := .code yX6_count cX6_count 5 (some .int) :: ([.fieldLink RX6 70 "GameCafeModel" "thrown" "I", .fieldLink RX6 46 "GameCafeModel" "parts" "[I", .fieldLink RX6 43 "GameCafeModel" "places" "[I", .methodLink RX6 88 yX6_isCopy, .instanceMethod yX6_isCopy, .selects RX6 yX6_isCopy yX6_isCopy, .initialized RX6, .code yX6_isCopy cX6_isCopy 2 (some .boolean), .fieldLink RX6 78 "GameCafeModel" "copies" "I", .methodLink RX6 74 yX6_in, .static yX6_in, .code yX6_in cX6_in 3 (some .boolean), .methodLink RX6 91 yX6_fails, .instanceMethod yX6_fails, .selects RX6 yX6_fails yX6_fails, .code yX6_fails cX6_fails 2 (some .int)] ++ wsX60)
def wsX6_fill : List Cond := .code yX6_fill cX6_fill 7 (some .int) :: ([.fieldLink RX6 70 "GameCafeModel" "thrown" "I", .fieldLink RX6 40 "GameCafeModel" "games" "[I", .fieldLink RX6 43 "GameCafeModel" "places" "[I", .fieldLink RX6 19 "GameCafeModel" "wholes" "[I", .fieldLink RX6 46 "GameCafeModel" "parts" "[I", .methodLink RX6 88 yX6_isCopy, .instanceMethod yX6_isCopy, .selects RX6 yX6_isCopy yX6_isCopy, .initialized RX6, .code yX6_isCopy cX6_isCopy 2 (some .boolean), .fieldLink RX6 78 "GameCafeModel" "copies" "I", .methodLink RX6 74 yX6_in, .static yX6_in, .code yX6_in cX6_in 3 (some .boolean), .methodLink RX6 91 yX6_fails, .instanceMethod yX6_fails, .selects RX6 yX6_fails yX6_fails, .code yX6_fails cX6_fails 2 (some .int)] ++ wsX60)
def wsX6_playable : List Cond := .code yX6_playable cX6_playable 4 (some .boolean) :: ([.fieldLink RX6 46 "GameCafeModel" "parts" "[I", .fieldLink RX6 22 "GameCafeModel" "needs" "[I", .fieldLink RX6 40 "GameCafeModel" "games" "[I"] ++ wsX60)
def wsX6_tableFor : List Cond := .code yX6_tableFor cX6_tableFor 5 (some .int) :: ([.fieldLink RX6 31 "GameCafeModel" "taken" "[I", .fieldLink RX6 28 "GameCafeModel" "seats" "[I"] ++ wsX60)
def wsX6_copyFor : List Cond := .code yX6_copyFor cX6_copyFor 3 (some .int) :: ([.fieldLink RX6 78 "GameCafeModel" "copies" "I", .fieldLink RX6 40 "GameCafeModel" "games" "[I", .fieldLink RX6 43 "GameCafeModel" "places" "[I", .methodLink RX6 95 yX6_playable, .instanceMethod yX6_playable, .selects RX6 yX6_playable yX6_playable, .initialized RX6, .code yX6_playable cX6_playable 4 (some .boolean), .fieldLink RX6 46 "GameCafeModel" "parts" "[I", .fieldLink RX6 22 "GameCafeModel" "needs" "[I"] ++ wsX60)
def wsX6_teacherFor : List Cond := .code yX6_teacherFor cX6_teacherFor 3 (some .int) :: ([.fieldLink RX6 34 "GameCafeModel" "ignorant" "[I", .fieldLink RX6 37 "GameCafeModel" "until" "[I", .fieldLink RX6 98 "GameCafeModel" "minute" "I"] ++ wsX60)
def wsX6_seat_r1 : List Cond := [Cond.fieldLink RX6 7 "GameCafeModel" "leasts" "[I", Cond.fieldLink RX6 13 "GameCafeModel" "mosts" "[I", Cond.fieldLink RX6 70 "GameCafeModel" "thrown" "I", Cond.fieldLink RX6 81 "GameCafeModel" "groups" "I", Cond.fieldLink RX6 37 "GameCafeModel" "until" "[I", Cond.fieldLink RX6 98 "GameCafeModel" "minute" "I", Cond.fieldLink RX6 16 "GameCafeModel" "minutes" "[I", Cond.fieldLink RX6 31 "GameCafeModel" "taken" "[I", Cond.fieldLink RX6 43 "GameCafeModel" "places" "[I", Cond.fieldLink RX6 49 "GameCafeModel" "people" "[I", Cond.fieldLink RX6 52 "GameCafeModel" "tables" "[I", Cond.fieldLink RX6 55 "GameCafeModel" "ofGroup" "[I", Cond.fieldLink RX6 58 "GameCafeModel" "since" "[I", Cond.methodLink RX6 84 yX6_isGame, Cond.static yX6_isGame, Cond.initialized RX6, Cond.code yX6_isGame cX6_isGame 1 (some .boolean), Cond.methodLink RX6 74 yX6_in, Cond.static yX6_in, Cond.code yX6_in cX6_in 3 (some .boolean), Cond.methodLink RX6 101 yX6_tableFor, Cond.instanceMethod yX6_tableFor, Cond.selects RX6 yX6_tableFor yX6_tableFor, Cond.code yX6_tableFor cX6_tableFor 5 (some .int)]
def wsX6_seat_r2 : List Cond := [Cond.fieldLink RX6 28 "GameCafeModel" "seats" "[I", Cond.methodLink RX6 104 yX6_copyFor, Cond.instanceMethod yX6_copyFor, Cond.selects RX6 yX6_copyFor yX6_copyFor, Cond.code yX6_copyFor cX6_copyFor 3 (some .int), Cond.fieldLink RX6 78 "GameCafeModel" "copies" "I", Cond.fieldLink RX6 40 "GameCafeModel" "games" "[I", Cond.methodLink RX6 95 yX6_playable, Cond.instanceMethod yX6_playable, Cond.selects RX6 yX6_playable yX6_playable, Cond.code yX6_playable cX6_playable 4 (some .boolean), Cond.fieldLink RX6 46 "GameCafeModel" "parts" "[I", Cond.fieldLink RX6 22 "GameCafeModel" "needs" "[I", Cond.methodLink RX6 107 yX6_teacherFor, Cond.instanceMethod yX6_teacherFor, Cond.selects RX6 yX6_teacherFor yX6_teacherFor, Cond.code yX6_teacherFor cX6_teacherFor 3 (some .int), Cond.fieldLink RX6 34 "GameCafeModel" "ignorant" "[I", Cond.methodLink RX6 91 yX6_fails, Cond.instanceMethod yX6_fails, Cond.selects RX6 yX6_fails yX6_fails, Cond.code yX6_fails cX6_fails 2 (some .int)]
def wsX6_seat : List Cond := .code yX6_seat cX6_seat 7 (some .int) :: ((wsX6_seat_r1 ++ wsX6_seat_r2) ++ wsX60)
def wsX6_grow_r1 : List Cond := [Cond.fieldLink RX6 49 "GameCafeModel" "people" "[I", Cond.fieldLink RX6 28 "GameCafeModel" "seats" "[I", Cond.fieldLink RX6 52 "GameCafeModel" "tables" "[I", Cond.fieldLink RX6 13 "GameCafeModel" "mosts" "[I", Cond.fieldLink RX6 40 "GameCafeModel" "games" "[I", Cond.fieldLink RX6 55 "GameCafeModel" "ofGroup" "[I", Cond.fieldLink RX6 31 "GameCafeModel" "taken" "[I", Cond.methodLink RX6 110 yX6_isThere, Cond.instanceMethod yX6_isThere, Cond.selects RX6 yX6_isThere yX6_isThere, Cond.initialized RX6, Cond.code yX6_isThere cX6_isThere 2 (some .boolean), Cond.fieldLink RX6 81 "GameCafeModel" "groups" "I", Cond.fieldLink RX6 61 "GameCafeModel" "gone" "[I", Cond.fieldLink RX6 70 "GameCafeModel" "thrown" "I", Cond.methodLink RX6 74 yX6_in, Cond.static yX6_in, Cond.code yX6_in cX6_in 3 (some .boolean), Cond.methodLink RX6 91 yX6_fails, Cond.instanceMethod yX6_fails, Cond.selects RX6 yX6_fails yX6_fails, Cond.code yX6_fails cX6_fails 2 (some .int), Cond.methodLink RX6 101 yX6_tableFor, Cond.instanceMethod yX6_tableFor]
def wsX6_grow_r2 : List Cond := [Cond.selects RX6 yX6_tableFor yX6_tableFor, Cond.code yX6_tableFor cX6_tableFor 5 (some .int)]
def wsX6_grow : List Cond := .code yX6_grow cX6_grow 5 (some .int) :: ((wsX6_grow_r1 ++ wsX6_grow_r2) ++ wsX60)
def wsX6_go : List Cond := .code yX6_go cX6_go 2 (some .int) :: ([.fieldLink RX6 61 "GameCafeModel" "gone" "[I", .fieldLink RX6 31 "GameCafeModel" "taken" "[I", .fieldLink RX6 52 "GameCafeModel" "tables" "[I", .fieldLink RX6 43 "GameCafeModel" "places" "[I", .fieldLink RX6 55 "GameCafeModel" "ofGroup" "[I", .fieldLink RX6 25 "GameCafeModel" "played" "[I", .fieldLink RX6 40 "GameCafeModel" "games" "[I", .fieldLink RX6 98 "GameCafeModel" "minute" "I", .fieldLink RX6 58 "GameCafeModel" "since" "[I", .methodLink RX6 110 yX6_isThere, .instanceMethod yX6_isThere, .selects RX6 yX6_isThere yX6_isThere, .initialized RX6, .code yX6_isThere cX6_isThere 2 (some .boolean), .fieldLink RX6 81 "GameCafeModel" "groups" "I", .fieldLink RX6 70 "GameCafeModel" "thrown" "I", .methodLink RX6 74 yX6_in, .static yX6_in, .code yX6_in cX6_in 3 (some .boolean)] ++ wsX60)
def wsX6_advance : List Cond := .code yX6_advance cX6_advance 2 (some .int) :: ([.fieldLink RX6 98 "GameCafeModel" "minute" "I", .constant RX6 113 (100000), .fieldLink RX6 70 "GameCafeModel" "thrown" "I", .methodLink RX6 74 yX6_in, .static yX6_in, .initialized RX6, .code yX6_in cX6_in 3 (some .boolean)] ++ wsX60)
def wsX6_lend : List Cond := .code yX6_lend cX6_lend 5 (some .int) :: ([.fieldLink RX6 43 "GameCafeModel" "places" "[I", .fieldLink RX6 64 "GameCafeModel" "lent" "[I", .fieldLink RX6 70 "GameCafeModel" "thrown" "I", .fieldLink RX6 46 "GameCafeModel" "parts" "[I", .fieldLink RX6 67 "GameCafeModel" "deposits" "[I", .methodLink RX6 88 yX6_isCopy, .instanceMethod yX6_isCopy, .selects RX6 yX6_isCopy yX6_isCopy, .initialized RX6, .code yX6_isCopy cX6_isCopy 2 (some .boolean), .fieldLink RX6 78 "GameCafeModel" "copies" "I", .methodLink RX6 74 yX6_in, .static yX6_in, .code yX6_in cX6_in 3 (some .boolean)] ++ wsX60)
def wsX6_giveBack : List Cond := .code yX6_giveBack cX6_giveBack 5 (some .int) :: ([.fieldLink RX6 70 "GameCafeModel" "thrown" "I", .fieldLink RX6 64 "GameCafeModel" "lent" "[I", .fieldLink RX6 46 "GameCafeModel" "parts" "[I", .fieldLink RX6 43 "GameCafeModel" "places" "[I", .fieldLink RX6 67 "GameCafeModel" "deposits" "[I", .methodLink RX6 74 yX6_in, .static yX6_in, .initialized RX6, .code yX6_in cX6_in 3 (some .boolean), .methodLink RX6 91 yX6_fails, .instanceMethod yX6_fails, .selects RX6 yX6_fails yX6_fails, .code yX6_fails cX6_fails 2 (some .int)] ++ wsX60)
def wsX6_minute : List Cond := .code yX6_minute cX6_minute 1 (some .int) :: ([.fieldLink RX6 70 "GameCafeModel" "thrown" "I", .fieldLink RX6 98 "GameCafeModel" "minute" "I"] ++ wsX60)
def wsX6_copies : List Cond := .code yX6_copies cX6_copies 1 (some .int) :: ([.fieldLink RX6 70 "GameCafeModel" "thrown" "I", .fieldLink RX6 78 "GameCafeModel" "copies" "I"] ++ wsX60)
def wsX6_parts : List Cond := .code yX6_parts cX6_parts 3 (some .int) :: ([.fieldLink RX6 70 "GameCafeModel" "thrown" "I", .fieldLink RX6 46 "GameCafeModel" "parts" "[I", .methodLink RX6 88 yX6_isCopy, .instanceMethod yX6_isCopy, .selects RX6 yX6_isCopy yX6_isCopy, .initialized RX6, .code yX6_isCopy cX6_isCopy 2 (some .boolean), .fieldLink RX6 78 "GameCafeModel" "copies" "I", .methodLink RX6 74 yX6_in, .static yX6_in, .code yX6_in cX6_in 3 (some .boolean)] ++ wsX60)
def wsX6_canBePlayed : List Cond := .code yX6_canBePlayed cX6_canBePlayed 2 (some .boolean) :: ([.fieldLink RX6 70 "GameCafeModel" "thrown" "I", .methodLink RX6 88 yX6_isCopy, .instanceMethod yX6_isCopy, .selects RX6 yX6_isCopy yX6_isCopy, .initialized RX6, .code yX6_isCopy cX6_isCopy 2 (some .boolean), .fieldLink RX6 78 "GameCafeModel" "copies" "I", .methodLink RX6 74 yX6_in, .static yX6_in, .code yX6_in cX6_in 3 (some .boolean), .methodLink RX6 95 yX6_playable, .instanceMethod yX6_playable, .selects RX6 yX6_playable yX6_playable, .code yX6_playable cX6_playable 4 (some .boolean), .fieldLink RX6 46 "GameCafeModel" "parts" "[I", .fieldLink RX6 22 "GameCafeModel" "needs" "[I", .fieldLink RX6 40 "GameCafeModel" "games" "[I"] ++ wsX60)
def wsX6_whereIs : List Cond := .code yX6_whereIs cX6_whereIs 2 (some .int) :: ([.fieldLink RX6 70 "GameCafeModel" "thrown" "I", .fieldLink RX6 43 "GameCafeModel" "places" "[I", .methodLink RX6 88 yX6_isCopy, .instanceMethod yX6_isCopy, .selects RX6 yX6_isCopy yX6_isCopy, .initialized RX6, .code yX6_isCopy cX6_isCopy 2 (some .boolean), .fieldLink RX6 78 "GameCafeModel" "copies" "I", .methodLink RX6 74 yX6_in, .static yX6_in, .code yX6_in cX6_in 3 (some .boolean)] ++ wsX60)
def wsX6_at : List Cond := .code yX6_at cX6_at 2 (some .int) :: ([.fieldLink RX6 70 "GameCafeModel" "thrown" "I", .fieldLink RX6 31 "GameCafeModel" "taken" "[I", .methodLink RX6 74 yX6_in, .static yX6_in, .initialized RX6, .code yX6_in cX6_in 3 (some .boolean)] ++ wsX60)
def wsX6_copyOf : List Cond := .code yX6_copyOf cX6_copyOf 2 (some .int) :: ([.fieldLink RX6 55 "GameCafeModel" "ofGroup" "[I", .methodLink RX6 110 yX6_isThere, .instanceMethod yX6_isThere, .selects RX6 yX6_isThere yX6_isThere, .initialized RX6, .code yX6_isThere cX6_isThere 2 (some .boolean), .fieldLink RX6 81 "GameCafeModel" "groups" "I", .fieldLink RX6 61 "GameCafeModel" "gone" "[I", .fieldLink RX6 70 "GameCafeModel" "thrown" "I", .methodLink RX6 74 yX6_in, .static yX6_in, .code yX6_in cX6_in 3 (some .boolean)] ++ wsX60)
def wsX6_teaching : List Cond := .code yX6_teaching cX6_teaching 2 (some .int) :: ([.fieldLink RX6 70 "GameCafeModel" "thrown" "I", .fieldLink RX6 37 "GameCafeModel" "until" "[I", .fieldLink RX6 98 "GameCafeModel" "minute" "I", .methodLink RX6 74 yX6_in, .static yX6_in, .initialized RX6, .code yX6_in cX6_in 3 (some .boolean)] ++ wsX60)
def wsX6_plays : List Cond := .code yX6_plays cX6_plays 2 (some .int) :: ([.fieldLink RX6 70 "GameCafeModel" "thrown" "I", .fieldLink RX6 25 "GameCafeModel" "played" "[I", .methodLink RX6 84 yX6_isGame, .static yX6_isGame, .initialized RX6, .code yX6_isGame cX6_isGame 1 (some .boolean), .methodLink RX6 74 yX6_in, .static yX6_in, .code yX6_in cX6_in 3 (some .boolean)] ++ wsX60)
def wsX6_propose_r1 : List Cond := [Cond.fieldLink RX6 70 "GameCafeModel" "thrown" "I", Cond.fieldLink RX6 81 "GameCafeModel" "groups" "I", Cond.fieldLink RX6 7 "GameCafeModel" "leasts" "[I", Cond.fieldLink RX6 13 "GameCafeModel" "mosts" "[I", Cond.fieldLink RX6 25 "GameCafeModel" "played" "[I", Cond.methodLink RX6 74 yX6_in, Cond.static yX6_in, Cond.initialized RX6, Cond.code yX6_in cX6_in 3 (some .boolean), Cond.methodLink RX6 101 yX6_tableFor, Cond.instanceMethod yX6_tableFor, Cond.selects RX6 yX6_tableFor yX6_tableFor, Cond.code yX6_tableFor cX6_tableFor 5 (some .int), Cond.fieldLink RX6 31 "GameCafeModel" "taken" "[I", Cond.fieldLink RX6 28 "GameCafeModel" "seats" "[I", Cond.methodLink RX6 104 yX6_copyFor, Cond.instanceMethod yX6_copyFor, Cond.selects RX6 yX6_copyFor yX6_copyFor, Cond.code yX6_copyFor cX6_copyFor 3 (some .int), Cond.fieldLink RX6 78 "GameCafeModel" "copies" "I", Cond.fieldLink RX6 40 "GameCafeModel" "games" "[I", Cond.fieldLink RX6 43 "GameCafeModel" "places" "[I", Cond.methodLink RX6 95 yX6_playable, Cond.instanceMethod yX6_playable]
def wsX6_propose_r2 : List Cond := [Cond.selects RX6 yX6_playable yX6_playable, Cond.code yX6_playable cX6_playable 4 (some .boolean), Cond.fieldLink RX6 46 "GameCafeModel" "parts" "[I", Cond.fieldLink RX6 22 "GameCafeModel" "needs" "[I"]
def wsX6_propose : List Cond := .code yX6_propose cX6_propose 5 (some .int) :: ((wsX6_propose_r1 ++ wsX6_propose_r2) ++ wsX60)
def wsJ9_max_7cf53 : List Cond := .code yJ9_max_7cf53 cJ9_max_7cf53 2 (some .int) :: ([])
def wsJ9_min_7cf53 : List Cond := .code yJ9_min_7cf53 cJ9_min_7cf53 2 (some .int) :: ([])
def wsL_setGame : List Cond := .codeWith yL_setGame cL_setGame 6 (some .int) [(0, 9, 12, 13), (0, 9, 16, 15)] :: ([.classLink RL 13 "java/lang/IndexOutOfBoundsException", .classLink RL 15 "java/lang/IllegalArgumentException", .methodLink RL 7 yX5_setGame, .instanceMethod yX5_setGame, .selects RX5 yX5_setGame yX5_setGame, .initialized RX5, .code yX5_setGame cX5_setGame 6 none, .fieldLink RX5 11 "GameCafe" "games" "[LGameCafe$Game;", .fieldLink RX5 64 "GameCafe$Game" "least" "I", .fieldLink RX5 67 "GameCafe$Game" "most" "I", .fieldLink RX5 70 "GameCafe$Game" "lesson" "I", .methodLink RX5 57 yX5_checkNumber, .static yX5_checkNumber, .code yX5_checkNumber cX5_checkNumber 2 none, .classLink RX5 211 "java/lang/IndexOutOfBoundsException", .initialized "java/lang/IndexOutOfBoundsException", .methodLink RX5 60 yX5_checkRange, .static yX5_checkRange, .code yX5_checkRange cX5_checkRange 3 none, .classLink RX5 118 "java/lang/IllegalArgumentException", .initialized "java/lang/IllegalArgumentException"] ++ wsX50 ++ wsX10 ++ (vx_atS RX5 215 "java/lang/IndexOutOfBoundsException" ["java/lang/RuntimeException", "java/lang/Exception"]).filter goodWord ++ (vx_atS RX5 122 "java/lang/IllegalArgumentException" ["java/lang/RuntimeException", "java/lang/Exception"]).filter goodWord)
def wsL_setParts : List Cond := .codeWith yL_setParts cL_setParts 6 (some .int) [(0, 9, 12, 13), (0, 9, 16, 15)] :: ([.classLink RL 13 "java/lang/IndexOutOfBoundsException", .classLink RL 15 "java/lang/IllegalArgumentException", .methodLink RL 17 yX5_setParts, .instanceMethod yX5_setParts, .selects RX5 yX5_setParts yX5_setParts, .initialized RX5, .code yX5_setParts cX5_setParts 6 none, .fieldLink RX5 11 "GameCafe" "games" "[LGameCafe$Game;", .fieldLink RX5 73 "GameCafe$Game" "whole" "[I", .fieldLink RX5 77 "GameCafe$Game" "need" "[I", .methodLink RX5 57 yX5_checkNumber, .static yX5_checkNumber, .code yX5_checkNumber cX5_checkNumber 2 none, .classLink RX5 211 "java/lang/IndexOutOfBoundsException", .initialized "java/lang/IndexOutOfBoundsException", .methodLink RX5 60 yX5_checkRange, .static yX5_checkRange, .code yX5_checkRange cX5_checkRange 3 none, .classLink RX5 118 "java/lang/IllegalArgumentException", .initialized "java/lang/IllegalArgumentException"] ++ wsX50 ++ wsX10 ++ (vx_atS RX5 215 "java/lang/IndexOutOfBoundsException" ["java/lang/RuntimeException", "java/lang/Exception"]).filter goodWord ++ (vx_atS RX5 122 "java/lang/IllegalArgumentException" ["java/lang/RuntimeException", "java/lang/Exception"]).filter goodWord)
def wsL_setSeats : List Cond := .codeWith yL_setSeats cL_setSeats 5 (some .int) [(0, 10, 13, 13), (0, 10, 17, 15), (0, 10, 21, 24)] :: ([.classLink RL 13 "java/lang/IndexOutOfBoundsException", .classLink RL 15 "java/lang/IllegalArgumentException", .classLink RL 24 "java/lang/IllegalStateException", .methodLink RL 20 yX5_setSeats, .instanceMethod yX5_setSeats, .selects RX5 yX5_setSeats yX5_setSeats, .initialized RX5, .code yX5_setSeats cX5_setSeats 5 (some .int), .classLink RX5 83 "java/lang/IllegalStateException", .initialized "java/lang/IllegalStateException", .fieldLink RX5 17 "GameCafe" "tables" "[LGameCafe$Table;", .fieldLink RX5 80 "GameCafe$Table" "group" "I", .fieldLink RX5 90 "GameCafe$Table" "seats" "I", .methodLink RX5 57 yX5_checkNumber, .static yX5_checkNumber, .code yX5_checkNumber cX5_checkNumber 2 none, .classLink RX5 211 "java/lang/IndexOutOfBoundsException", .initialized "java/lang/IndexOutOfBoundsException", .methodLink RX5 60 yX5_checkRange, .static yX5_checkRange, .code yX5_checkRange cX5_checkRange 3 none, .classLink RX5 118 "java/lang/IllegalArgumentException", .initialized "java/lang/IllegalArgumentException"] ++ wsX50 ++ wsX30 ++ (vx_atS RX5 87 "java/lang/IllegalStateException" ["java/lang/RuntimeException", "java/lang/Exception"]).filter goodWord ++ (vx_atS RX5 215 "java/lang/IndexOutOfBoundsException" ["java/lang/RuntimeException", "java/lang/Exception"]).filter goodWord ++ (vx_atS RX5 122 "java/lang/IllegalArgumentException" ["java/lang/RuntimeException", "java/lang/Exception"]).filter goodWord)
def wsL_teach : List Cond := .codeWith yL_teach cL_teach 6 (some .int) [(0, 19, 22, 13)] :: ([.classLink RL 13 "java/lang/IndexOutOfBoundsException", .methodLink RL 26 yX5_teach, .instanceMethod yX5_teach, .selects RX5 yX5_teach yX5_teach, .initialized RX5, .code yX5_teach cX5_teach 6 (some .boolean), .fieldLink RX5 23 "GameCafe" "staff" "[LGameCafe$Teacher;", .fieldLink RX5 93 "GameCafe$Teacher" "knows" "[Z", .methodLink RX5 57 yX5_checkNumber, .static yX5_checkNumber, .code yX5_checkNumber cX5_checkNumber 2 none, .classLink RX5 211 "java/lang/IndexOutOfBoundsException", .initialized "java/lang/IndexOutOfBoundsException"] ++ wsX50 ++ wsX40 ++ (vx_atS RX5 215 "java/lang/IndexOutOfBoundsException" ["java/lang/RuntimeException", "java/lang/Exception"]).filter goodWord)
def wsL_buy_r1 : List Cond := [Cond.classLink RL 13 "java/lang/IndexOutOfBoundsException", Cond.classLink RL 24 "java/lang/IllegalStateException", Cond.methodLink RL 30 yX5_buy, Cond.instanceMethod yX5_buy, Cond.selects RX5 yX5_buy yX5_buy, Cond.initialized RX5, Cond.code yX5_buy cX5_buy 3 (some .int), Cond.classLink RX5 83 "java/lang/IllegalStateException", Cond.initialized "java/lang/IllegalStateException", Cond.fieldLink RX5 42 "GameCafe" "bought" "I", Cond.fieldLink RX5 29 "GameCafe" "owned" "[LGameCafe$Copy;", Cond.classLink RX5 27 RX0, Cond.instantiable RX0 4, Cond.initialized RX0, Cond.fieldLink RX5 11 "GameCafe" "games" "[LGameCafe$Game;", Cond.methodLink RX5 57 yX5_checkNumber, Cond.static yX5_checkNumber, Cond.code yX5_checkNumber cX5_checkNumber 2 none, Cond.classLink RX5 211 "java/lang/IndexOutOfBoundsException", Cond.initialized "java/lang/IndexOutOfBoundsException", Cond.methodLink RX5 99 yX0_init, Cond.instanceMethod yX0_init, Cond.code yX0_init cX0_init 3 none, Cond.methodLink RX0 3 objectInit]
def wsL_buy_r2 : List Cond := [Cond.instanceMethod objectInit, Cond.code objectInit ⟨#[0xb1]⟩ 1 none, Cond.fieldLink RX0 9 "GameCafe$Copy" "place" "I", Cond.fieldLink RX0 15 "GameCafe$Copy" "number" "I", Cond.fieldLink RX0 18 "GameCafe$Copy" "game" "LGameCafe$Game;", Cond.fieldLink RX0 22 "GameCafe$Game" "whole" "[I", Cond.methodLink RX0 28 ⟨"[I", "clone", "()Ljava/lang/Object;"⟩, Cond.sameMethod "[I" "java/lang/Object" "clone" "()Ljava/lang/Object;", Cond.native ⟨"java/lang/Object", "clone", "()Ljava/lang/Object;"⟩, Cond.instanceMethod ⟨"java/lang/Object", "clone", "()Ljava/lang/Object;"⟩, Cond.selects "[I" ⟨"[I", "clone", "()Ljava/lang/Object;"⟩ ⟨"java/lang/Object", "clone", "()Ljava/lang/Object;"⟩, Cond.classLink RX0 29 "[I", Cond.fieldLink RX0 33 "GameCafe$Copy" "has" "[I"]
def wsL_buy : List Cond := .codeWith yL_buy cL_buy 4 (some .int) [(0, 9, 12, 13), (0, 9, 15, 24)] :: ((wsL_buy_r1 ++ wsL_buy_r2) ++ wsX50 ++ wsX00 ++ wsX10 ++ (vx_atS RX5 87 "java/lang/IllegalStateException" ["java/lang/RuntimeException", "java/lang/Exception"]).filter goodWord ++ (vx_atS RX5 215 "java/lang/IndexOutOfBoundsException" ["java/lang/RuntimeException", "java/lang/Exception"]).filter goodWord)
def wsL_count_r1 : List Cond := [Cond.classLink RL 13 "java/lang/IndexOutOfBoundsException", Cond.classLink RL 15 "java/lang/IllegalArgumentException", Cond.classLink RL 24 "java/lang/IllegalStateException", Cond.methodLink RL 34 yX5_count, Cond.instanceMethod yX5_count, Cond.selects RX5 yX5_count yX5_count, Cond.initialized RX5, Cond.code yX5_count cX5_count 6 (some .int), Cond.classLink RX5 83 "java/lang/IllegalStateException", Cond.initialized "java/lang/IllegalStateException", Cond.fieldLink RX5 106 "GameCafe$Copy" "has" "[I", Cond.fieldLink RX5 109 "GameCafe$Copy" "place" "I", Cond.methodLink RX5 102 yX5_copyNumbered, Cond.instanceMethod yX5_copyNumbered, Cond.selects RX5 yX5_copyNumbered yX5_copyNumbered, Cond.code yX5_copyNumbered cX5_copyNumbered 2 (some (.object "GameCafe$Copy")), Cond.classLink RX5 211 "java/lang/IndexOutOfBoundsException", Cond.initialized "java/lang/IndexOutOfBoundsException", Cond.fieldLink RX5 29 "GameCafe" "owned" "[LGameCafe$Copy;", Cond.methodLink RX5 57 yX5_checkNumber, Cond.static yX5_checkNumber, Cond.code yX5_checkNumber cX5_checkNumber 2 none, Cond.methodLink RX5 60 yX5_checkRange, Cond.static yX5_checkRange]
def wsL_count_r2 : List Cond := [Cond.code yX5_checkRange cX5_checkRange 3 none, Cond.classLink RX5 118 "java/lang/IllegalArgumentException", Cond.initialized "java/lang/IllegalArgumentException"]
def wsL_count : List Cond := .codeWith yL_count cL_count 6 (some .int) [(0, 12, 15, 13), (0, 12, 19, 15), (0, 12, 23, 24)] :: ((wsL_count_r1 ++ wsL_count_r2) ++ wsX00 ++ wsX50 ++ (vx_atS RX5 87 "java/lang/IllegalStateException" ["java/lang/RuntimeException", "java/lang/Exception"]).filter goodWord ++ (vx_atS RX5 215 "java/lang/IndexOutOfBoundsException" ["java/lang/RuntimeException", "java/lang/Exception"]).filter goodWord ++ (vx_atS RX5 122 "java/lang/IllegalArgumentException" ["java/lang/RuntimeException", "java/lang/Exception"]).filter goodWord)
def wsL_fill_r1 : List Cond := [Cond.classLink RL 13 "java/lang/IndexOutOfBoundsException", Cond.classLink RL 15 "java/lang/IllegalArgumentException", Cond.classLink RL 24 "java/lang/IllegalStateException", Cond.methodLink RL 38 yX5_fill, Cond.instanceMethod yX5_fill, Cond.selects RX5 yX5_fill yX5_fill, Cond.initialized RX5, Cond.code yX5_fill cX5_fill 5 (some .int), Cond.classLink RX5 118 "java/lang/IllegalArgumentException", Cond.initialized "java/lang/IllegalArgumentException", Cond.classLink RX5 83 "java/lang/IllegalStateException", Cond.initialized "java/lang/IllegalStateException", Cond.fieldLink RX5 114 "GameCafe$Copy" "game" "LGameCafe$Game;", Cond.fieldLink RX5 109 "GameCafe$Copy" "place" "I", Cond.methodLink RX5 102 yX5_copyNumbered, Cond.instanceMethod yX5_copyNumbered, Cond.selects RX5 yX5_copyNumbered yX5_copyNumbered, Cond.code yX5_copyNumbered cX5_copyNumbered 2 (some (.object "GameCafe$Copy")), Cond.classLink RX5 211 "java/lang/IndexOutOfBoundsException", Cond.initialized "java/lang/IndexOutOfBoundsException", Cond.fieldLink RX5 29 "GameCafe" "owned" "[LGameCafe$Copy;", Cond.methodLink RX5 125 yX0_fillFrom, Cond.instanceMethod yX0_fillFrom, Cond.selects RX0 yX0_fillFrom yX0_fillFrom]
def wsL_fill_r2 : List Cond := [Cond.initialized RX0, Cond.code yX0_fillFrom cX0_fillFrom 6 (some .int), Cond.fieldLink RX0 18 "GameCafe$Copy" "game" "LGameCafe$Game;", Cond.fieldLink RX0 22 "GameCafe$Game" "whole" "[I", Cond.fieldLink RX0 33 "GameCafe$Copy" "has" "[I", Cond.methodLink RX0 43 Lib.Math.max.name, Cond.static Lib.Math.max.name, Cond.initialized "java/lang/Math", Cond.code Lib.Math.max.name Lib.Math.max.code 2 (some .int), Cond.methodLink RX0 49 Lib.Math.min.name, Cond.static Lib.Math.min.name, Cond.code Lib.Math.min.name Lib.Math.min.code 2 (some .int)]
def wsL_fill : List Cond := .codeWith yL_fill cL_fill 5 (some .int) [(0, 10, 13, 13), (0, 10, 17, 15), (0, 10, 21, 24)] :: ((wsL_fill_r1 ++ wsL_fill_r2) ++ wsX00 ++ wsX50 ++ wsX10 ++ (vx_atS RX5 122 "java/lang/IllegalArgumentException" ["java/lang/RuntimeException", "java/lang/Exception"]).filter goodWord ++ (vx_atS RX5 87 "java/lang/IllegalStateException" ["java/lang/RuntimeException", "java/lang/Exception"]).filter goodWord ++ (vx_atS RX5 215 "java/lang/IndexOutOfBoundsException" ["java/lang/RuntimeException", "java/lang/Exception"]).filter goodWord)
def wsL_seat_r1 : List Cond := [Cond.classLink RL 13 "java/lang/IndexOutOfBoundsException", Cond.classLink RL 15 "java/lang/IllegalArgumentException", Cond.classLink RL 24 "java/lang/IllegalStateException", Cond.methodLink RL 41 yX5_seat, Cond.instanceMethod yX5_seat, Cond.selects RX5 yX5_seat yX5_seat, Cond.initialized RX5, Cond.code yX5_seat cX5_seat 9 (some .int), Cond.classLink RX5 118 "java/lang/IllegalArgumentException", Cond.initialized "java/lang/IllegalArgumentException", Cond.classLink RX5 83 "java/lang/IllegalStateException", Cond.initialized "java/lang/IllegalStateException", Cond.fieldLink RX5 11 "GameCafe" "games" "[LGameCafe$Game;", Cond.fieldLink RX5 46 "GameCafe" "seated" "I", Cond.fieldLink RX5 49 "GameCafe" "now" "I", Cond.fieldLink RX5 70 "GameCafe$Game" "lesson" "I", Cond.fieldLink RX5 149 "GameCafe$Teacher" "busyUntil" "I", Cond.fieldLink RX5 35 "GameCafe" "groups" "[LGameCafe$Group;", Cond.classLink RX5 33 RX2, Cond.instantiable RX2 4, Cond.initialized RX2, Cond.fieldLink RX5 80 "GameCafe$Table" "group" "I", Cond.fieldLink RX5 109 "GameCafe$Copy" "place" "I", Cond.methodLink RX5 57 yX5_checkNumber]
def wsL_seat_r2 : List Cond := [Cond.static yX5_checkNumber, Cond.code yX5_checkNumber cX5_checkNumber 2 none, Cond.classLink RX5 211 "java/lang/IndexOutOfBoundsException", Cond.initialized "java/lang/IndexOutOfBoundsException", Cond.methodLink RX5 60 yX5_checkRange, Cond.static yX5_checkRange, Cond.code yX5_checkRange cX5_checkRange 3 none, Cond.methodLink RX5 129 yX1_isFor, Cond.instanceMethod yX1_isFor, Cond.selects RX1 yX1_isFor yX1_isFor, Cond.initialized RX1, Cond.code yX1_isFor cX1_isFor 2 (some .boolean), Cond.fieldLink RX1 7 "GameCafe$Game" "least" "I", Cond.fieldLink RX1 13 "GameCafe$Game" "most" "I", Cond.methodLink RX5 135 yX5_freeTableFor, Cond.instanceMethod yX5_freeTableFor, Cond.selects RX5 yX5_freeTableFor yX5_freeTableFor, Cond.code yX5_freeTableFor cX5_freeTableFor 8 (some (.object "GameCafe$Table")), Cond.fieldLink RX5 17 "GameCafe" "tables" "[LGameCafe$Table;", Cond.fieldLink RX5 90 "GameCafe$Table" "seats" "I", Cond.methodLink RX5 139 yX5_playableCopyOf, Cond.instanceMethod yX5_playableCopyOf, Cond.selects RX5 yX5_playableCopyOf yX5_playableCopyOf, Cond.code yX5_playableCopyOf cX5_playableCopyOf 6 (some (.object "GameCafe$Copy"))]
def wsL_seat_r3 : List Cond := [Cond.fieldLink RX5 29 "GameCafe" "owned" "[LGameCafe$Copy;", Cond.fieldLink RX5 114 "GameCafe$Copy" "game" "LGameCafe$Game;", Cond.methodLink RX5 196 yX0_isPlayable, Cond.instanceMethod yX0_isPlayable, Cond.selects RX0 yX0_isPlayable yX0_isPlayable, Cond.initialized RX0, Cond.code yX0_isPlayable cX0_isPlayable 2 (some .boolean), Cond.fieldLink RX0 33 "GameCafe$Copy" "has" "[I", Cond.fieldLink RX0 18 "GameCafe$Copy" "game" "LGameCafe$Game;", Cond.fieldLink RX0 36 "GameCafe$Game" "need" "[I", Cond.methodLink RX5 143 yX5_freeTeacherOf, Cond.instanceMethod yX5_freeTeacherOf, Cond.selects RX5 yX5_freeTeacherOf yX5_freeTeacherOf, Cond.code yX5_freeTeacherOf cX5_freeTeacherOf 6 (some (.object "GameCafe$Teacher")), Cond.fieldLink RX5 23 "GameCafe" "staff" "[LGameCafe$Teacher;", Cond.fieldLink RX5 93 "GameCafe$Teacher" "knows" "[Z", Cond.methodLink RX5 152 yX2_init, Cond.instanceMethod yX2_init, Cond.code yX2_init cX2_init 5 none, Cond.methodLink RX2 1 objectInit, Cond.instanceMethod objectInit, Cond.code objectInit ⟨#[0xb1]⟩ 1 none, Cond.fieldLink RX2 7 "GameCafe$Group" "people" "I", Cond.fieldLink RX2 13 "GameCafe$Group" "table" "LGameCafe$Table;"]
def wsL_seat_r4 : List Cond := [Cond.fieldLink RX2 17 "GameCafe$Group" "copy" "LGameCafe$Copy;", Cond.fieldLink RX2 21 "GameCafe$Group" "since" "I"]
def wsL_seat : List Cond := .codeWith yL_seat cL_seat 6 (some .int) [(0, 12, 15, 13), (0, 12, 19, 15), (0, 12, 23, 24)] :: ((wsL_seat_r1 ++ (wsL_seat_r2 ++ (wsL_seat_r3 ++ wsL_seat_r4))) ++ wsX50 ++ wsX10 ++ wsX40 ++ wsX20 ++ wsX30 ++ wsX00 ++ (vx_atS RX5 122 "java/lang/IllegalArgumentException" ["java/lang/RuntimeException", "java/lang/Exception"]).filter goodWord ++ (vx_atS RX5 87 "java/lang/IllegalStateException" ["java/lang/RuntimeException", "java/lang/Exception"]).filter goodWord ++ (vx_atS RX5 215 "java/lang/IndexOutOfBoundsException" ["java/lang/RuntimeException", "java/lang/Exception"]).filter goodWord)
def wsL_grow_r1 : List Cond := [Cond.classLink RL 13 "java/lang/IndexOutOfBoundsException", Cond.classLink RL 15 "java/lang/IllegalArgumentException", Cond.classLink RL 24 "java/lang/IllegalStateException", Cond.methodLink RL 45 yX5_grow, Cond.instanceMethod yX5_grow, Cond.selects RX5 yX5_grow yX5_grow, Cond.initialized RX5, Cond.code yX5_grow cX5_grow 6 (some .int), Cond.classLink RX5 83 "java/lang/IllegalStateException", Cond.initialized "java/lang/IllegalStateException", Cond.fieldLink RX5 159 "GameCafe$Group" "people" "I", Cond.fieldLink RX5 162 "GameCafe$Group" "copy" "LGameCafe$Copy;", Cond.fieldLink RX5 114 "GameCafe$Copy" "game" "LGameCafe$Game;", Cond.fieldLink RX5 67 "GameCafe$Game" "most" "I", Cond.fieldLink RX5 166 "GameCafe$Group" "table" "LGameCafe$Table;", Cond.fieldLink RX5 90 "GameCafe$Table" "seats" "I", Cond.fieldLink RX5 80 "GameCafe$Table" "group" "I", Cond.fieldLink RX5 172 "GameCafe$Table" "number" "I", Cond.methodLink RX5 155 yX5_groupNumbered, Cond.instanceMethod yX5_groupNumbered, Cond.selects RX5 yX5_groupNumbered yX5_groupNumbered, Cond.code yX5_groupNumbered cX5_groupNumbered 2 (some (.object "GameCafe$Group")), Cond.classLink RX5 211 "java/lang/IndexOutOfBoundsException", Cond.initialized "java/lang/IndexOutOfBoundsException"]
def wsL_grow_r2 : List Cond := [Cond.fieldLink RX5 35 "GameCafe" "groups" "[LGameCafe$Group;", Cond.methodLink RX5 60 yX5_checkRange, Cond.static yX5_checkRange, Cond.code yX5_checkRange cX5_checkRange 3 none, Cond.classLink RX5 118 "java/lang/IllegalArgumentException", Cond.initialized "java/lang/IllegalArgumentException", Cond.methodLink RX5 135 yX5_freeTableFor, Cond.instanceMethod yX5_freeTableFor, Cond.selects RX5 yX5_freeTableFor yX5_freeTableFor, Cond.code yX5_freeTableFor cX5_freeTableFor 8 (some (.object "GameCafe$Table")), Cond.fieldLink RX5 17 "GameCafe" "tables" "[LGameCafe$Table;"]
def wsL_grow : List Cond := .codeWith yL_grow cL_grow 5 (some .int) [(0, 10, 13, 13), (0, 10, 17, 15), (0, 10, 21, 24)] :: ((wsL_grow_r1 ++ wsL_grow_r2) ++ wsX20 ++ wsX00 ++ wsX10 ++ wsX30 ++ wsX50 ++ (vx_atS RX5 87 "java/lang/IllegalStateException" ["java/lang/RuntimeException", "java/lang/Exception"]).filter goodWord ++ (vx_atS RX5 215 "java/lang/IndexOutOfBoundsException" ["java/lang/RuntimeException", "java/lang/Exception"]).filter goodWord ++ (vx_atS RX5 122 "java/lang/IllegalArgumentException" ["java/lang/RuntimeException", "java/lang/Exception"]).filter goodWord)
def wsL_go : List Cond := .codeWith yL_go cL_go 4 (some .int) [(0, 9, 12, 13)] :: ([.classLink RL 13 "java/lang/IndexOutOfBoundsException", .methodLink RL 48 yX5_go, .instanceMethod yX5_go, .selects RX5 yX5_go yX5_go, .initialized RX5, .code yX5_go cX5_go 3 (some .int), .fieldLink RX5 166 "GameCafe$Group" "table" "LGameCafe$Table;", .fieldLink RX5 80 "GameCafe$Table" "group" "I", .fieldLink RX5 162 "GameCafe$Group" "copy" "LGameCafe$Copy;", .fieldLink RX5 109 "GameCafe$Copy" "place" "I", .fieldLink RX5 114 "GameCafe$Copy" "game" "LGameCafe$Game;", .fieldLink RX5 175 "GameCafe$Game" "timesPlayed" "I", .fieldLink RX5 35 "GameCafe" "groups" "[LGameCafe$Group;", .fieldLink RX5 49 "GameCafe" "now" "I", .fieldLink RX5 178 "GameCafe$Group" "since" "I", .methodLink RX5 155 yX5_groupNumbered, .instanceMethod yX5_groupNumbered, .selects RX5 yX5_groupNumbered yX5_groupNumbered, .code yX5_groupNumbered cX5_groupNumbered 2 (some (.object "GameCafe$Group")), .classLink RX5 211 "java/lang/IndexOutOfBoundsException", .initialized "java/lang/IndexOutOfBoundsException"] ++ wsX20 ++ wsX30 ++ wsX00 ++ wsX10 ++ wsX50 ++ (vx_atS RX5 215 "java/lang/IndexOutOfBoundsException" ["java/lang/RuntimeException", "java/lang/Exception"]).filter goodWord)
def wsL_advance : List Cond := .codeWith yL_advance cL_advance 4 (some .int) [(0, 9, 12, 15), (0, 9, 15, 24)] :: ([.classLink RL 15 "java/lang/IllegalArgumentException", .classLink RL 24 "java/lang/IllegalStateException", .methodLink RL 51 yX5_advance, .instanceMethod yX5_advance, .selects RX5 yX5_advance yX5_advance, .initialized RX5, .code yX5_advance cX5_advance 2 (some .int), .classLink RX5 83 "java/lang/IllegalStateException", .initialized "java/lang/IllegalStateException", .fieldLink RX5 49 "GameCafe" "now" "I", .constant RX5 181 (100000), .methodLink RX5 60 yX5_checkRange, .static yX5_checkRange, .code yX5_checkRange cX5_checkRange 3 none, .classLink RX5 118 "java/lang/IllegalArgumentException", .initialized "java/lang/IllegalArgumentException"] ++ wsX50 ++ (vx_atS RX5 87 "java/lang/IllegalStateException" ["java/lang/RuntimeException", "java/lang/Exception"]).filter goodWord ++ (vx_atS RX5 122 "java/lang/IllegalArgumentException" ["java/lang/RuntimeException", "java/lang/Exception"]).filter goodWord)
def wsL_lend_r1 : List Cond := [Cond.classLink RL 13 "java/lang/IndexOutOfBoundsException", Cond.classLink RL 24 "java/lang/IllegalStateException", Cond.methodLink RL 54 yX5_lend, Cond.instanceMethod yX5_lend, Cond.selects RX5 yX5_lend yX5_lend, Cond.initialized RX5, Cond.code yX5_lend cX5_lend 4 (some .int), Cond.classLink RX5 83 "java/lang/IllegalStateException", Cond.initialized "java/lang/IllegalStateException", Cond.fieldLink RX5 109 "GameCafe$Copy" "place" "I", Cond.fieldLink RX5 39 "GameCafe" "borrowed" "[LGameCafe$Copy;", Cond.methodLink RX5 102 yX5_copyNumbered, Cond.instanceMethod yX5_copyNumbered, Cond.selects RX5 yX5_copyNumbered yX5_copyNumbered, Cond.code yX5_copyNumbered cX5_copyNumbered 2 (some (.object "GameCafe$Copy")), Cond.classLink RX5 211 "java/lang/IndexOutOfBoundsException", Cond.initialized "java/lang/IndexOutOfBoundsException", Cond.fieldLink RX5 29 "GameCafe" "owned" "[LGameCafe$Copy;", Cond.methodLink RX5 57 yX5_checkNumber, Cond.static yX5_checkNumber, Cond.code yX5_checkNumber cX5_checkNumber 2 none, Cond.methodLink RX5 186 yX0_worth, Cond.instanceMethod yX0_worth, Cond.selects RX0 yX0_worth yX0_worth]
def wsL_lend_r2 : List Cond := [Cond.initialized RX0, Cond.code yX0_worth cX0_worth 3 (some .int), Cond.fieldLink RX0 33 "GameCafe$Copy" "has" "[I", Cond.static yX5_worthOfPart, Cond.code yX5_worthOfPart cX5_worthOfPart 1 (some .int)]
def wsL_lend : List Cond := .codeWith yL_lend cL_lend 5 (some .int) [(0, 10, 13, 13), (0, 10, 17, 24)] :: ((wsL_lend_r1 ++ wsL_lend_r2) ++ wsX00 ++ wsX50 ++ (vx_atS RX5 87 "java/lang/IllegalStateException" ["java/lang/RuntimeException", "java/lang/Exception"]).filter goodWord ++ (vx_atS RX5 215 "java/lang/IndexOutOfBoundsException" ["java/lang/RuntimeException", "java/lang/Exception"]).filter goodWord)
def wsL_giveBack_r1 : List Cond := [Cond.classLink RL 13 "java/lang/IndexOutOfBoundsException", Cond.classLink RL 15 "java/lang/IllegalArgumentException", Cond.classLink RL 24 "java/lang/IllegalStateException", Cond.methodLink RL 57 yX5_giveBack, Cond.instanceMethod yX5_giveBack, Cond.selects RX5 yX5_giveBack yX5_giveBack, Cond.initialized RX5, Cond.code yX5_giveBack cX5_giveBack 6 (some .int), Cond.classLink RX5 83 "java/lang/IllegalStateException", Cond.initialized "java/lang/IllegalStateException", Cond.fieldLink RX5 39 "GameCafe" "borrowed" "[LGameCafe$Copy;", Cond.fieldLink RX5 106 "GameCafe$Copy" "has" "[I", Cond.fieldLink RX5 109 "GameCafe$Copy" "place" "I", Cond.methodLink RX5 57 yX5_checkNumber, Cond.static yX5_checkNumber, Cond.code yX5_checkNumber cX5_checkNumber 2 none, Cond.classLink RX5 211 "java/lang/IndexOutOfBoundsException", Cond.initialized "java/lang/IndexOutOfBoundsException", Cond.methodLink RX5 60 yX5_checkRange, Cond.static yX5_checkRange, Cond.code yX5_checkRange cX5_checkRange 3 none, Cond.classLink RX5 118 "java/lang/IllegalArgumentException", Cond.initialized "java/lang/IllegalArgumentException", Cond.methodLink RX5 186 yX0_worth]
def wsL_giveBack_r2 : List Cond := [Cond.instanceMethod yX0_worth, Cond.selects RX0 yX0_worth yX0_worth, Cond.initialized RX0, Cond.code yX0_worth cX0_worth 3 (some .int), Cond.fieldLink RX0 33 "GameCafe$Copy" "has" "[I", Cond.static yX5_worthOfPart, Cond.code yX5_worthOfPart cX5_worthOfPart 1 (some .int), Cond.methodLink RX5 192 yX5_worthOfPart]
def wsL_giveBack : List Cond := .codeWith yL_giveBack cL_giveBack 6 (some .int) [(0, 12, 15, 13), (0, 12, 19, 15), (0, 12, 23, 24)] :: ((wsL_giveBack_r1 ++ wsL_giveBack_r2) ++ wsX50 ++ wsX00 ++ (vx_atS RX5 87 "java/lang/IllegalStateException" ["java/lang/RuntimeException", "java/lang/Exception"]).filter goodWord ++ (vx_atS RX5 215 "java/lang/IndexOutOfBoundsException" ["java/lang/RuntimeException", "java/lang/Exception"]).filter goodWord ++ (vx_atS RX5 122 "java/lang/IllegalArgumentException" ["java/lang/RuntimeException", "java/lang/Exception"]).filter goodWord)
def wsL_parts : List Cond := .codeWith yL_parts cL_parts 5 (some .int) [(0, 10, 13, 13)] :: ([.classLink RL 13 "java/lang/IndexOutOfBoundsException", .methodLink RL 60 yX5_parts, .instanceMethod yX5_parts, .selects RX5 yX5_parts yX5_parts, .initialized RX5, .code yX5_parts cX5_parts 4 (some .int), .fieldLink RX5 106 "GameCafe$Copy" "has" "[I", .methodLink RX5 102 yX5_copyNumbered, .instanceMethod yX5_copyNumbered, .selects RX5 yX5_copyNumbered yX5_copyNumbered, .code yX5_copyNumbered cX5_copyNumbered 2 (some (.object "GameCafe$Copy")), .classLink RX5 211 "java/lang/IndexOutOfBoundsException", .initialized "java/lang/IndexOutOfBoundsException", .fieldLink RX5 29 "GameCafe" "owned" "[LGameCafe$Copy;", .methodLink RX5 57 yX5_checkNumber, .static yX5_checkNumber, .code yX5_checkNumber cX5_checkNumber 2 none] ++ wsX00 ++ wsX50 ++ (vx_atS RX5 215 "java/lang/IndexOutOfBoundsException" ["java/lang/RuntimeException", "java/lang/Exception"]).filter goodWord)
def wsL_canBePlayed : List Cond := .codeWith yL_canBePlayed cL_canBePlayed 4 (some .int) [(0, 16, 19, 13)] :: ([.classLink RL 13 "java/lang/IndexOutOfBoundsException", .methodLink RL 63 yX5_canBePlayed, .instanceMethod yX5_canBePlayed, .selects RX5 yX5_canBePlayed yX5_canBePlayed, .initialized RX5, .code yX5_canBePlayed cX5_canBePlayed 2 (some .boolean), .methodLink RX5 102 yX5_copyNumbered, .instanceMethod yX5_copyNumbered, .selects RX5 yX5_copyNumbered yX5_copyNumbered, .code yX5_copyNumbered cX5_copyNumbered 2 (some (.object "GameCafe$Copy")), .classLink RX5 211 "java/lang/IndexOutOfBoundsException", .initialized "java/lang/IndexOutOfBoundsException", .fieldLink RX5 29 "GameCafe" "owned" "[LGameCafe$Copy;", .methodLink RX5 196 yX0_isPlayable, .instanceMethod yX0_isPlayable, .selects RX0 yX0_isPlayable yX0_isPlayable, .initialized RX0, .code yX0_isPlayable cX0_isPlayable 2 (some .boolean), .fieldLink RX0 33 "GameCafe$Copy" "has" "[I", .fieldLink RX0 18 "GameCafe$Copy" "game" "LGameCafe$Game;", .fieldLink RX0 36 "GameCafe$Game" "need" "[I"] ++ wsX50 ++ wsX00 ++ wsX10 ++ (vx_atS RX5 215 "java/lang/IndexOutOfBoundsException" ["java/lang/RuntimeException", "java/lang/Exception"]).filter goodWord)
def wsL_whereIs : List Cond := .codeWith yL_whereIs cL_whereIs 4 (some .int) [(0, 9, 12, 13)] :: ([.classLink RL 13 "java/lang/IndexOutOfBoundsException", .methodLink RL 67 yX5_whereIs, .instanceMethod yX5_whereIs, .selects RX5 yX5_whereIs yX5_whereIs, .initialized RX5, .code yX5_whereIs cX5_whereIs 2 (some .int), .fieldLink RX5 109 "GameCafe$Copy" "place" "I", .methodLink RX5 102 yX5_copyNumbered, .instanceMethod yX5_copyNumbered, .selects RX5 yX5_copyNumbered yX5_copyNumbered, .code yX5_copyNumbered cX5_copyNumbered 2 (some (.object "GameCafe$Copy")), .classLink RX5 211 "java/lang/IndexOutOfBoundsException", .initialized "java/lang/IndexOutOfBoundsException", .fieldLink RX5 29 "GameCafe" "owned" "[LGameCafe$Copy;"] ++ wsX00 ++ wsX50 ++ (vx_atS RX5 215 "java/lang/IndexOutOfBoundsException" ["java/lang/RuntimeException", "java/lang/Exception"]).filter goodWord)
def wsL_at : List Cond := .codeWith yL_at cL_at 4 (some .int) [(0, 9, 12, 13)] :: ([.classLink RL 13 "java/lang/IndexOutOfBoundsException", .methodLink RL 70 yX5_at, .instanceMethod yX5_at, .selects RX5 yX5_at yX5_at, .initialized RX5, .code yX5_at cX5_at 2 (some .int), .fieldLink RX5 17 "GameCafe" "tables" "[LGameCafe$Table;", .fieldLink RX5 80 "GameCafe$Table" "group" "I", .methodLink RX5 57 yX5_checkNumber, .static yX5_checkNumber, .code yX5_checkNumber cX5_checkNumber 2 none, .classLink RX5 211 "java/lang/IndexOutOfBoundsException", .initialized "java/lang/IndexOutOfBoundsException"] ++ wsX50 ++ wsX30 ++ (vx_atS RX5 215 "java/lang/IndexOutOfBoundsException" ["java/lang/RuntimeException", "java/lang/Exception"]).filter goodWord)
def wsL_copyOf : List Cond := .codeWith yL_copyOf cL_copyOf 4 (some .int) [(0, 9, 12, 13)] :: ([.classLink RL 13 "java/lang/IndexOutOfBoundsException", .methodLink RL 73 yX5_copyOf, .instanceMethod yX5_copyOf, .selects RX5 yX5_copyOf yX5_copyOf, .initialized RX5, .code yX5_copyOf cX5_copyOf 2 (some .int), .fieldLink RX5 162 "GameCafe$Group" "copy" "LGameCafe$Copy;", .fieldLink RX5 200 "GameCafe$Copy" "number" "I", .methodLink RX5 155 yX5_groupNumbered, .instanceMethod yX5_groupNumbered, .selects RX5 yX5_groupNumbered yX5_groupNumbered, .code yX5_groupNumbered cX5_groupNumbered 2 (some (.object "GameCafe$Group")), .classLink RX5 211 "java/lang/IndexOutOfBoundsException", .initialized "java/lang/IndexOutOfBoundsException", .fieldLink RX5 35 "GameCafe" "groups" "[LGameCafe$Group;"] ++ wsX20 ++ wsX00 ++ wsX50 ++ (vx_atS RX5 215 "java/lang/IndexOutOfBoundsException" ["java/lang/RuntimeException", "java/lang/Exception"]).filter goodWord)
def wsL_teaching : List Cond := .codeWith yL_teaching cL_teaching 4 (some .int) [(0, 9, 12, 13)] :: ([.classLink RL 13 "java/lang/IndexOutOfBoundsException", .methodLink RL 76 yX5_teaching, .instanceMethod yX5_teaching, .selects RX5 yX5_teaching yX5_teaching, .initialized RX5, .code yX5_teaching cX5_teaching 2 (some .int), .fieldLink RX5 23 "GameCafe" "staff" "[LGameCafe$Teacher;", .fieldLink RX5 149 "GameCafe$Teacher" "busyUntil" "I", .fieldLink RX5 49 "GameCafe" "now" "I", .methodLink RX5 201 Lib.Math.max.name, .static Lib.Math.max.name, .initialized "java/lang/Math", .code Lib.Math.max.name Lib.Math.max.code 2 (some .int), .methodLink RX5 57 yX5_checkNumber, .static yX5_checkNumber, .code yX5_checkNumber cX5_checkNumber 2 none, .classLink RX5 211 "java/lang/IndexOutOfBoundsException", .initialized "java/lang/IndexOutOfBoundsException"] ++ wsX50 ++ wsX40 ++ (vx_atS RX5 215 "java/lang/IndexOutOfBoundsException" ["java/lang/RuntimeException", "java/lang/Exception"]).filter goodWord)
def wsL_plays : List Cond := .codeWith yL_plays cL_plays 4 (some .int) [(0, 9, 12, 13)] :: ([.classLink RL 13 "java/lang/IndexOutOfBoundsException", .methodLink RL 79 yX5_plays, .instanceMethod yX5_plays, .selects RX5 yX5_plays yX5_plays, .initialized RX5, .code yX5_plays cX5_plays 2 (some .int), .fieldLink RX5 11 "GameCafe" "games" "[LGameCafe$Game;", .fieldLink RX5 175 "GameCafe$Game" "timesPlayed" "I", .methodLink RX5 57 yX5_checkNumber, .static yX5_checkNumber, .code yX5_checkNumber cX5_checkNumber 2 none, .classLink RX5 211 "java/lang/IndexOutOfBoundsException", .initialized "java/lang/IndexOutOfBoundsException"] ++ wsX50 ++ wsX10 ++ (vx_atS RX5 215 "java/lang/IndexOutOfBoundsException" ["java/lang/RuntimeException", "java/lang/Exception"]).filter goodWord)
def wsL_propose_r1 : List Cond := [Cond.classLink RL 15 "java/lang/IllegalArgumentException", Cond.methodLink RL 82 yX5_propose, Cond.instanceMethod yX5_propose, Cond.selects RX5 yX5_propose yX5_propose, Cond.initialized RX5, Cond.code yX5_propose cX5_propose 5 (some .int), Cond.fieldLink RX5 11 "GameCafe" "games" "[LGameCafe$Game;", Cond.fieldLink RX5 175 "GameCafe$Game" "timesPlayed" "I", Cond.methodLink RX5 60 yX5_checkRange, Cond.static yX5_checkRange, Cond.code yX5_checkRange cX5_checkRange 3 none, Cond.classLink RX5 118 "java/lang/IllegalArgumentException", Cond.initialized "java/lang/IllegalArgumentException", Cond.methodLink RX5 207 yX5_canSeatKnowing, Cond.instanceMethod yX5_canSeatKnowing, Cond.selects RX5 yX5_canSeatKnowing yX5_canSeatKnowing, Cond.code yX5_canSeatKnowing cX5_canSeatKnowing 3 (some .boolean), Cond.fieldLink RX5 46 "GameCafe" "seated" "I", Cond.methodLink RX5 129 yX1_isFor, Cond.instanceMethod yX1_isFor, Cond.selects RX1 yX1_isFor yX1_isFor, Cond.initialized RX1, Cond.code yX1_isFor cX1_isFor 2 (some .boolean), Cond.fieldLink RX1 7 "GameCafe$Game" "least" "I"]
def wsL_propose_r2 : List Cond := [Cond.fieldLink RX1 13 "GameCafe$Game" "most" "I", Cond.methodLink RX5 135 yX5_freeTableFor, Cond.instanceMethod yX5_freeTableFor, Cond.selects RX5 yX5_freeTableFor yX5_freeTableFor, Cond.code yX5_freeTableFor cX5_freeTableFor 8 (some (.object "GameCafe$Table")), Cond.fieldLink RX5 17 "GameCafe" "tables" "[LGameCafe$Table;", Cond.fieldLink RX5 80 "GameCafe$Table" "group" "I", Cond.fieldLink RX5 90 "GameCafe$Table" "seats" "I", Cond.methodLink RX5 139 yX5_playableCopyOf, Cond.instanceMethod yX5_playableCopyOf, Cond.selects RX5 yX5_playableCopyOf yX5_playableCopyOf, Cond.code yX5_playableCopyOf cX5_playableCopyOf 6 (some (.object "GameCafe$Copy")), Cond.fieldLink RX5 29 "GameCafe" "owned" "[LGameCafe$Copy;", Cond.fieldLink RX5 114 "GameCafe$Copy" "game" "LGameCafe$Game;", Cond.fieldLink RX5 109 "GameCafe$Copy" "place" "I", Cond.methodLink RX5 196 yX0_isPlayable, Cond.instanceMethod yX0_isPlayable, Cond.selects RX0 yX0_isPlayable yX0_isPlayable, Cond.initialized RX0, Cond.code yX0_isPlayable cX0_isPlayable 2 (some .boolean), Cond.fieldLink RX0 33 "GameCafe$Copy" "has" "[I", Cond.fieldLink RX0 18 "GameCafe$Copy" "game" "LGameCafe$Game;", Cond.fieldLink RX0 36 "GameCafe$Game" "need" "[I"]
def wsL_propose : List Cond := .codeWith yL_propose cL_propose 4 (some .int) [(0, 9, 12, 15)] :: ((wsL_propose_r1 ++ wsL_propose_r2) ++ wsX50 ++ wsX10 ++ wsX30 ++ wsX00 ++ (vx_atS RX5 122 "java/lang/IllegalArgumentException" ["java/lang/RuntimeException", "java/lang/Exception"]).filter goodWord)
def wsL_law0_r1 : List Cond := [Cond.classLink RL 8 RX5, Cond.instantiable RX5 9, Cond.initialized RX5, Cond.classLink RL 86 RX6, Cond.instantiable RX6 24, Cond.initialized RX6, Cond.arrayClass .long, Cond.methodLink RL 85 yX5_init, Cond.instanceMethod yX5_init, Cond.code yX5_init cX5_init 2 none, Cond.methodLink RX5 1 objectInit, Cond.instanceMethod objectInit, Cond.code objectInit ⟨#[0xb1]⟩ 1 none, Cond.classLink RX5 9 RX1, Cond.fieldLink RX5 11 "GameCafe" "games" "[LGameCafe$Game;", Cond.classLink RX5 15 RX3, Cond.fieldLink RX5 17 "GameCafe" "tables" "[LGameCafe$Table;", Cond.classLink RX5 21 RX4, Cond.fieldLink RX5 23 "GameCafe" "staff" "[LGameCafe$Teacher;", Cond.classLink RX5 27 RX0, Cond.fieldLink RX5 29 "GameCafe" "owned" "[LGameCafe$Copy;", Cond.classLink RX5 33 RX2, Cond.fieldLink RX5 35 "GameCafe" "groups" "[LGameCafe$Group;", Cond.fieldLink RX5 39 "GameCafe" "borrowed" "[LGameCafe$Copy;"]
def wsL_law0_r2 : List Cond := [Cond.fieldLink RX5 42 "GameCafe" "bought" "I", Cond.fieldLink RX5 46 "GameCafe" "seated" "I", Cond.fieldLink RX5 49 "GameCafe" "now" "I", Cond.instantiable RX1 6, Cond.initialized RX1, Cond.instantiable RX3 3, Cond.initialized RX3, Cond.instantiable RX4 2, Cond.initialized RX4, Cond.instanceMethod yX1_init, Cond.code yX1_init cX1_init 1 none, Cond.methodLink RX1 1 objectInit, Cond.fieldLink RX1 7 "GameCafe$Game" "least" "I", Cond.fieldLink RX1 13 "GameCafe$Game" "most" "I", Cond.fieldLink RX1 16 "GameCafe$Game" "lesson" "I", Cond.fieldLink RX1 19 "GameCafe$Game" "timesPlayed" "I", Cond.arrayClass .int, Cond.fieldLink RX1 22 "GameCafe$Game" "whole" "[I", Cond.fieldLink RX1 26 "GameCafe$Game" "need" "[I", Cond.methodLink RX5 53 yX3_init, Cond.instanceMethod yX3_init, Cond.code yX3_init cX3_init 3 none, Cond.methodLink RX3 3 objectInit, Cond.fieldLink RX3 9 "GameCafe$Table" "group" "I"]
def wsL_law0_r3 : List Cond := [Cond.fieldLink RX3 15 "GameCafe$Table" "number" "I", Cond.fieldLink RX3 18 "GameCafe$Table" "seats" "I", Cond.instanceMethod yX4_init, Cond.code yX4_init cX4_init 1 none, Cond.methodLink RX4 1 objectInit, Cond.arrayClass .boolean, Cond.fieldLink RX4 7 "GameCafe$Teacher" "knows" "[Z", Cond.fieldLink RX4 13 "GameCafe$Teacher" "busyUntil" "I", Cond.methodLink RL 88 yX6_init, Cond.instanceMethod yX6_init, Cond.code yX6_init cX6_init 2 none, Cond.methodLink RX6 1 objectInit, Cond.fieldLink RX6 7 "GameCafeModel" "leasts" "[I", Cond.fieldLink RX6 13 "GameCafeModel" "mosts" "[I", Cond.fieldLink RX6 16 "GameCafeModel" "minutes" "[I", Cond.fieldLink RX6 19 "GameCafeModel" "wholes" "[I", Cond.fieldLink RX6 22 "GameCafeModel" "needs" "[I", Cond.fieldLink RX6 25 "GameCafeModel" "played" "[I", Cond.fieldLink RX6 28 "GameCafeModel" "seats" "[I", Cond.fieldLink RX6 31 "GameCafeModel" "taken" "[I", Cond.fieldLink RX6 34 "GameCafeModel" "ignorant" "[I", Cond.fieldLink RX6 37 "GameCafeModel" "until" "[I", Cond.fieldLink RX6 40 "GameCafeModel" "games" "[I", Cond.fieldLink RX6 43 "GameCafeModel" "places" "[I"]
def wsL_law0_r4 : List Cond := [Cond.fieldLink RX6 46 "GameCafeModel" "parts" "[I", Cond.fieldLink RX6 49 "GameCafeModel" "people" "[I", Cond.fieldLink RX6 52 "GameCafeModel" "tables" "[I", Cond.fieldLink RX6 55 "GameCafeModel" "ofGroup" "[I", Cond.fieldLink RX6 58 "GameCafeModel" "since" "[I", Cond.fieldLink RX6 61 "GameCafeModel" "gone" "[I", Cond.fieldLink RX6 64 "GameCafeModel" "lent" "[I", Cond.fieldLink RX6 67 "GameCafeModel" "deposits" "[I", Cond.methodLink RL 89 yL_setGame, Cond.static yL_setGame, Cond.initialized RL, Cond.codeWith yL_setGame cL_setGame 6 (some .int) [(0, 9, 12, 13), (0, 9, 16, 15)], Cond.classLink RL 13 "java/lang/IndexOutOfBoundsException", Cond.classLink RL 15 "java/lang/IllegalArgumentException", Cond.methodLink RL 7 yX5_setGame, Cond.instanceMethod yX5_setGame, Cond.selects RX5 yX5_setGame yX5_setGame, Cond.code yX5_setGame cX5_setGame 6 none, Cond.fieldLink RX5 64 "GameCafe$Game" "least" "I", Cond.fieldLink RX5 67 "GameCafe$Game" "most" "I", Cond.fieldLink RX5 70 "GameCafe$Game" "lesson" "I", Cond.methodLink RX5 57 yX5_checkNumber, Cond.static yX5_checkNumber, Cond.code yX5_checkNumber cX5_checkNumber 2 none]
def wsL_law0_r5 : List Cond := [Cond.classLink RX5 211 "java/lang/IndexOutOfBoundsException", Cond.initialized "java/lang/IndexOutOfBoundsException", Cond.methodLink RX5 60 yX5_checkRange, Cond.static yX5_checkRange, Cond.code yX5_checkRange cX5_checkRange 3 none, Cond.classLink RX5 118 "java/lang/IllegalArgumentException", Cond.initialized "java/lang/IllegalArgumentException", Cond.methodLink RL 94 yX6_setGame, Cond.instanceMethod yX6_setGame, Cond.selects RX6 yX6_setGame yX6_setGame, Cond.code yX6_setGame cX6_setGame 5 none, Cond.fieldLink RX6 70 "GameCafeModel" "thrown" "I", Cond.methodLink RX6 84 yX6_isGame, Cond.static yX6_isGame, Cond.code yX6_isGame cX6_isGame 1 (some .boolean), Cond.methodLink RX6 74 yX6_in, Cond.static yX6_in, Cond.code yX6_in cX6_in 3 (some .boolean), Cond.methodLink RL 95 yX6_thrown, Cond.instanceMethod yX6_thrown, Cond.selects RX6 yX6_thrown yX6_thrown, Cond.code yX6_thrown cX6_thrown 1 (some .int), Cond.methodLink RL 99 yL_setParts, Cond.static yL_setParts]
def wsL_law0_r6 : List Cond := [Cond.codeWith yL_setParts cL_setParts 6 (some .int) [(0, 9, 12, 13), (0, 9, 16, 15)], Cond.methodLink RL 17 yX5_setParts, Cond.instanceMethod yX5_setParts, Cond.selects RX5 yX5_setParts yX5_setParts, Cond.code yX5_setParts cX5_setParts 6 none, Cond.fieldLink RX5 73 "GameCafe$Game" "whole" "[I", Cond.fieldLink RX5 77 "GameCafe$Game" "need" "[I", Cond.methodLink RL 101 yX6_setParts, Cond.instanceMethod yX6_setParts, Cond.selects RX6 yX6_setParts yX6_setParts, Cond.code yX6_setParts cX6_setParts 5 none, Cond.methodLink RL 102 yL_setSeats, Cond.static yL_setSeats, Cond.codeWith yL_setSeats cL_setSeats 5 (some .int) [(0, 10, 13, 13), (0, 10, 17, 15), (0, 10, 21, 24)], Cond.classLink RL 24 "java/lang/IllegalStateException", Cond.methodLink RL 20 yX5_setSeats, Cond.instanceMethod yX5_setSeats, Cond.selects RX5 yX5_setSeats yX5_setSeats, Cond.code yX5_setSeats cX5_setSeats 5 (some .int), Cond.classLink RX5 83 "java/lang/IllegalStateException", Cond.initialized "java/lang/IllegalStateException", Cond.fieldLink RX5 80 "GameCafe$Table" "group" "I", Cond.fieldLink RX5 90 "GameCafe$Table" "seats" "I", Cond.methodLink RL 105 yX6_setSeats]
def wsL_law0_r7 : List Cond := [Cond.instanceMethod yX6_setSeats, Cond.selects RX6 yX6_setSeats yX6_setSeats, Cond.code yX6_setSeats cX6_setSeats 4 (some .int), Cond.methodLink RL 106 yL_teach, Cond.static yL_teach, Cond.codeWith yL_teach cL_teach 6 (some .int) [(0, 19, 22, 13)], Cond.methodLink RL 26 yX5_teach, Cond.instanceMethod yX5_teach, Cond.selects RX5 yX5_teach yX5_teach, Cond.code yX5_teach cX5_teach 6 (some .boolean), Cond.fieldLink RX5 93 "GameCafe$Teacher" "knows" "[Z", Cond.methodLink RL 109 yX6_teach, Cond.instanceMethod yX6_teach, Cond.selects RX6 yX6_teach yX6_teach, Cond.code yX6_teach cX6_teach 5 (some .boolean), Cond.methodLink RL 110 yL_buy, Cond.static yL_buy, Cond.codeWith yL_buy cL_buy 4 (some .int) [(0, 9, 12, 13), (0, 9, 15, 24)], Cond.methodLink RL 30 yX5_buy, Cond.instanceMethod yX5_buy, Cond.selects RX5 yX5_buy yX5_buy, Cond.code yX5_buy cX5_buy 3 (some .int), Cond.instantiable RX0 4, Cond.initialized RX0]
def wsL_law0_r8 : List Cond := [Cond.methodLink RX5 99 yX0_init, Cond.instanceMethod yX0_init, Cond.code yX0_init cX0_init 3 none, Cond.methodLink RX0 3 objectInit, Cond.fieldLink RX0 9 "GameCafe$Copy" "place" "I", Cond.fieldLink RX0 15 "GameCafe$Copy" "number" "I", Cond.fieldLink RX0 18 "GameCafe$Copy" "game" "LGameCafe$Game;", Cond.fieldLink RX0 22 "GameCafe$Game" "whole" "[I", Cond.methodLink RX0 28 ⟨"[I", "clone", "()Ljava/lang/Object;"⟩, Cond.sameMethod "[I" "java/lang/Object" "clone" "()Ljava/lang/Object;", Cond.native ⟨"java/lang/Object", "clone", "()Ljava/lang/Object;"⟩, Cond.instanceMethod ⟨"java/lang/Object", "clone", "()Ljava/lang/Object;"⟩, Cond.selects "[I" ⟨"[I", "clone", "()Ljava/lang/Object;"⟩ ⟨"java/lang/Object", "clone", "()Ljava/lang/Object;"⟩, Cond.classLink RX0 29 "[I", Cond.fieldLink RX0 33 "GameCafe$Copy" "has" "[I", Cond.methodLink RL 113 yX6_buy, Cond.instanceMethod yX6_buy, Cond.selects RX6 yX6_buy yX6_buy, Cond.code yX6_buy cX6_buy 3 (some .int), Cond.fieldLink RX6 78 "GameCafeModel" "copies" "I", Cond.methodLink RL 114 yL_count, Cond.static yL_count, Cond.codeWith yL_count cL_count 6 (some .int) [(0, 12, 15, 13), (0, 12, 19, 15), (0, 12, 23, 24)], Cond.methodLink RL 34 yX5_count]
def wsL_law0_r9 : List Cond := [Cond.instanceMethod yX5_count, Cond.selects RX5 yX5_count yX5_count, Cond.code yX5_count cX5_count 6 (some .int), Cond.fieldLink RX5 106 "GameCafe$Copy" "has" "[I", Cond.fieldLink RX5 109 "GameCafe$Copy" "place" "I", Cond.methodLink RX5 102 yX5_copyNumbered, Cond.instanceMethod yX5_copyNumbered, Cond.selects RX5 yX5_copyNumbered yX5_copyNumbered, Cond.code yX5_copyNumbered cX5_copyNumbered 2 (some (.object "GameCafe$Copy")), Cond.methodLink RL 117 yX6_count, Cond.instanceMethod yX6_count, Cond.selects RX6 yX6_count yX6_count, Cond.code yX6_count cX6_count 5 (some .int), Cond.methodLink RX6 88 yX6_isCopy, Cond.instanceMethod yX6_isCopy, Cond.selects RX6 yX6_isCopy yX6_isCopy, Cond.code yX6_isCopy cX6_isCopy 2 (some .boolean), Cond.methodLink RX6 91 yX6_fails, Cond.instanceMethod yX6_fails, Cond.selects RX6 yX6_fails yX6_fails, Cond.code yX6_fails cX6_fails 2 (some .int), Cond.methodLink RL 118 yL_fill, Cond.static yL_fill, Cond.codeWith yL_fill cL_fill 5 (some .int) [(0, 10, 13, 13), (0, 10, 17, 15), (0, 10, 21, 24)]]
def wsL_law0_r10 : List Cond := [Cond.methodLink RL 38 yX5_fill, Cond.instanceMethod yX5_fill, Cond.selects RX5 yX5_fill yX5_fill, Cond.code yX5_fill cX5_fill 5 (some .int), Cond.fieldLink RX5 114 "GameCafe$Copy" "game" "LGameCafe$Game;", Cond.methodLink RX5 125 yX0_fillFrom, Cond.instanceMethod yX0_fillFrom, Cond.selects RX0 yX0_fillFrom yX0_fillFrom, Cond.code yX0_fillFrom cX0_fillFrom 6 (some .int), Cond.methodLink RX0 43 Lib.Math.max.name, Cond.static Lib.Math.max.name, Cond.initialized "java/lang/Math", Cond.code Lib.Math.max.name Lib.Math.max.code 2 (some .int), Cond.methodLink RX0 49 Lib.Math.min.name, Cond.static Lib.Math.min.name, Cond.code Lib.Math.min.name Lib.Math.min.code 2 (some .int), Cond.methodLink RL 120 yX6_fill, Cond.instanceMethod yX6_fill, Cond.selects RX6 yX6_fill yX6_fill, Cond.code yX6_fill cX6_fill 7 (some .int), Cond.methodLink RL 121 yL_seat, Cond.static yL_seat, Cond.codeWith yL_seat cL_seat 6 (some .int) [(0, 12, 15, 13), (0, 12, 19, 15), (0, 12, 23, 24)], Cond.methodLink RL 41 yX5_seat]
def wsL_law0_r11 : List Cond := [Cond.instanceMethod yX5_seat, Cond.selects RX5 yX5_seat yX5_seat, Cond.code yX5_seat cX5_seat 9 (some .int), Cond.fieldLink RX5 149 "GameCafe$Teacher" "busyUntil" "I", Cond.instantiable RX2 4, Cond.initialized RX2, Cond.methodLink RX5 129 yX1_isFor, Cond.instanceMethod yX1_isFor, Cond.selects RX1 yX1_isFor yX1_isFor, Cond.code yX1_isFor cX1_isFor 2 (some .boolean), Cond.methodLink RX5 135 yX5_freeTableFor, Cond.instanceMethod yX5_freeTableFor, Cond.selects RX5 yX5_freeTableFor yX5_freeTableFor, Cond.code yX5_freeTableFor cX5_freeTableFor 8 (some (.object "GameCafe$Table")), Cond.methodLink RX5 139 yX5_playableCopyOf, Cond.instanceMethod yX5_playableCopyOf, Cond.selects RX5 yX5_playableCopyOf yX5_playableCopyOf, Cond.code yX5_playableCopyOf cX5_playableCopyOf 6 (some (.object "GameCafe$Copy")), Cond.methodLink RX5 196 yX0_isPlayable, Cond.instanceMethod yX0_isPlayable, Cond.selects RX0 yX0_isPlayable yX0_isPlayable, Cond.code yX0_isPlayable cX0_isPlayable 2 (some .boolean), Cond.fieldLink RX0 36 "GameCafe$Game" "need" "[I", Cond.methodLink RX5 143 yX5_freeTeacherOf]
def wsL_law0_r12 : List Cond := [Cond.instanceMethod yX5_freeTeacherOf, Cond.selects RX5 yX5_freeTeacherOf yX5_freeTeacherOf, Cond.code yX5_freeTeacherOf cX5_freeTeacherOf 6 (some (.object "GameCafe$Teacher")), Cond.methodLink RX5 152 yX2_init, Cond.instanceMethod yX2_init, Cond.code yX2_init cX2_init 5 none, Cond.methodLink RX2 1 objectInit, Cond.fieldLink RX2 7 "GameCafe$Group" "people" "I", Cond.fieldLink RX2 13 "GameCafe$Group" "table" "LGameCafe$Table;", Cond.fieldLink RX2 17 "GameCafe$Group" "copy" "LGameCafe$Copy;", Cond.fieldLink RX2 21 "GameCafe$Group" "since" "I", Cond.methodLink RL 123 yX6_seat, Cond.instanceMethod yX6_seat, Cond.selects RX6 yX6_seat yX6_seat, Cond.code yX6_seat cX6_seat 7 (some .int), Cond.fieldLink RX6 81 "GameCafeModel" "groups" "I", Cond.fieldLink RX6 98 "GameCafeModel" "minute" "I", Cond.methodLink RX6 101 yX6_tableFor, Cond.instanceMethod yX6_tableFor, Cond.selects RX6 yX6_tableFor yX6_tableFor, Cond.code yX6_tableFor cX6_tableFor 5 (some .int), Cond.methodLink RX6 104 yX6_copyFor, Cond.instanceMethod yX6_copyFor, Cond.selects RX6 yX6_copyFor yX6_copyFor]
def wsL_law0_r13 : List Cond := [Cond.code yX6_copyFor cX6_copyFor 3 (some .int), Cond.methodLink RX6 95 yX6_playable, Cond.instanceMethod yX6_playable, Cond.selects RX6 yX6_playable yX6_playable, Cond.code yX6_playable cX6_playable 4 (some .boolean), Cond.methodLink RX6 107 yX6_teacherFor, Cond.instanceMethod yX6_teacherFor, Cond.selects RX6 yX6_teacherFor yX6_teacherFor, Cond.code yX6_teacherFor cX6_teacherFor 3 (some .int), Cond.methodLink RL 124 yL_grow, Cond.static yL_grow, Cond.codeWith yL_grow cL_grow 5 (some .int) [(0, 10, 13, 13), (0, 10, 17, 15), (0, 10, 21, 24)], Cond.methodLink RL 45 yX5_grow, Cond.instanceMethod yX5_grow, Cond.selects RX5 yX5_grow yX5_grow, Cond.code yX5_grow cX5_grow 6 (some .int), Cond.fieldLink RX5 159 "GameCafe$Group" "people" "I", Cond.fieldLink RX5 162 "GameCafe$Group" "copy" "LGameCafe$Copy;", Cond.fieldLink RX5 166 "GameCafe$Group" "table" "LGameCafe$Table;", Cond.fieldLink RX5 172 "GameCafe$Table" "number" "I", Cond.methodLink RX5 155 yX5_groupNumbered, Cond.instanceMethod yX5_groupNumbered, Cond.selects RX5 yX5_groupNumbered yX5_groupNumbered, Cond.code yX5_groupNumbered cX5_groupNumbered 2 (some (.object "GameCafe$Group"))]
def wsL_law0_r14 : List Cond := [Cond.methodLink RL 126 yX6_grow, Cond.instanceMethod yX6_grow, Cond.selects RX6 yX6_grow yX6_grow, Cond.code yX6_grow cX6_grow 5 (some .int), Cond.methodLink RX6 110 yX6_isThere, Cond.instanceMethod yX6_isThere, Cond.selects RX6 yX6_isThere yX6_isThere, Cond.code yX6_isThere cX6_isThere 2 (some .boolean), Cond.methodLink RL 127 yL_go, Cond.static yL_go, Cond.codeWith yL_go cL_go 4 (some .int) [(0, 9, 12, 13)], Cond.methodLink RL 48 yX5_go, Cond.instanceMethod yX5_go, Cond.selects RX5 yX5_go yX5_go, Cond.code yX5_go cX5_go 3 (some .int), Cond.fieldLink RX5 175 "GameCafe$Game" "timesPlayed" "I", Cond.fieldLink RX5 178 "GameCafe$Group" "since" "I", Cond.methodLink RL 129 yX6_go, Cond.instanceMethod yX6_go, Cond.selects RX6 yX6_go yX6_go, Cond.code yX6_go cX6_go 2 (some .int), Cond.methodLink RL 130 yL_advance, Cond.static yL_advance, Cond.codeWith yL_advance cL_advance 4 (some .int) [(0, 9, 12, 15), (0, 9, 15, 24)]]
def wsL_law0_r15 : List Cond := [Cond.methodLink RL 51 yX5_advance, Cond.instanceMethod yX5_advance, Cond.selects RX5 yX5_advance yX5_advance, Cond.code yX5_advance cX5_advance 2 (some .int), Cond.constant RX5 181 (100000), Cond.methodLink RL 132 yX6_advance, Cond.instanceMethod yX6_advance, Cond.selects RX6 yX6_advance yX6_advance, Cond.code yX6_advance cX6_advance 2 (some .int), Cond.constant RX6 113 (100000), Cond.methodLink RL 133 yL_lend, Cond.static yL_lend, Cond.codeWith yL_lend cL_lend 5 (some .int) [(0, 10, 13, 13), (0, 10, 17, 24)], Cond.methodLink RL 54 yX5_lend, Cond.instanceMethod yX5_lend, Cond.selects RX5 yX5_lend yX5_lend, Cond.code yX5_lend cX5_lend 4 (some .int), Cond.methodLink RX5 186 yX0_worth, Cond.instanceMethod yX0_worth, Cond.selects RX0 yX0_worth yX0_worth, Cond.code yX0_worth cX0_worth 3 (some .int), Cond.static yX5_worthOfPart, Cond.code yX5_worthOfPart cX5_worthOfPart 1 (some .int), Cond.methodLink RL 135 yX6_lend]
def wsL_law0_r16 : List Cond := [Cond.instanceMethod yX6_lend, Cond.selects RX6 yX6_lend yX6_lend, Cond.code yX6_lend cX6_lend 5 (some .int), Cond.methodLink RL 136 yL_giveBack, Cond.static yL_giveBack, Cond.codeWith yL_giveBack cL_giveBack 6 (some .int) [(0, 12, 15, 13), (0, 12, 19, 15), (0, 12, 23, 24)], Cond.methodLink RL 57 yX5_giveBack, Cond.instanceMethod yX5_giveBack, Cond.selects RX5 yX5_giveBack yX5_giveBack, Cond.code yX5_giveBack cX5_giveBack 6 (some .int), Cond.methodLink RX5 192 yX5_worthOfPart, Cond.methodLink RL 138 yX6_giveBack, Cond.instanceMethod yX6_giveBack, Cond.selects RX6 yX6_giveBack yX6_giveBack, Cond.code yX6_giveBack cX6_giveBack 5 (some .int), Cond.methodLink RL 139 yX5_minute, Cond.instanceMethod yX5_minute, Cond.selects RX5 yX5_minute yX5_minute, Cond.code yX5_minute cX5_minute 1 (some .int), Cond.methodLink RL 142 yX6_minute, Cond.instanceMethod yX6_minute, Cond.selects RX6 yX6_minute yX6_minute, Cond.code yX6_minute cX6_minute 1 (some .int), Cond.methodLink RL 143 yX5_copies]
def wsL_law0_r17 : List Cond := [Cond.instanceMethod yX5_copies, Cond.selects RX5 yX5_copies yX5_copies, Cond.code yX5_copies cX5_copies 1 (some .int), Cond.methodLink RL 146 yX6_copies, Cond.instanceMethod yX6_copies, Cond.selects RX6 yX6_copies yX6_copies, Cond.code yX6_copies cX6_copies 1 (some .int), Cond.methodLink RL 147 yL_parts, Cond.static yL_parts, Cond.codeWith yL_parts cL_parts 5 (some .int) [(0, 10, 13, 13)], Cond.methodLink RL 60 yX5_parts, Cond.instanceMethod yX5_parts, Cond.selects RX5 yX5_parts yX5_parts, Cond.code yX5_parts cX5_parts 4 (some .int), Cond.methodLink RL 149 yX6_parts, Cond.instanceMethod yX6_parts, Cond.selects RX6 yX6_parts yX6_parts, Cond.code yX6_parts cX6_parts 3 (some .int), Cond.methodLink RL 150 yL_canBePlayed, Cond.static yL_canBePlayed, Cond.codeWith yL_canBePlayed cL_canBePlayed 4 (some .int) [(0, 16, 19, 13)], Cond.methodLink RL 63 yX5_canBePlayed, Cond.instanceMethod yX5_canBePlayed, Cond.selects RX5 yX5_canBePlayed yX5_canBePlayed]
def wsL_law0_r18 : List Cond := [Cond.code yX5_canBePlayed cX5_canBePlayed 2 (some .boolean), Cond.methodLink RL 152 yX6_canBePlayed, Cond.instanceMethod yX6_canBePlayed, Cond.selects RX6 yX6_canBePlayed yX6_canBePlayed, Cond.code yX6_canBePlayed cX6_canBePlayed 2 (some .boolean), Cond.methodLink RL 153 yL_whereIs, Cond.static yL_whereIs, Cond.codeWith yL_whereIs cL_whereIs 4 (some .int) [(0, 9, 12, 13)], Cond.methodLink RL 67 yX5_whereIs, Cond.instanceMethod yX5_whereIs, Cond.selects RX5 yX5_whereIs yX5_whereIs, Cond.code yX5_whereIs cX5_whereIs 2 (some .int), Cond.methodLink RL 155 yX6_whereIs, Cond.instanceMethod yX6_whereIs, Cond.selects RX6 yX6_whereIs yX6_whereIs, Cond.code yX6_whereIs cX6_whereIs 2 (some .int), Cond.methodLink RL 156 yL_at, Cond.static yL_at, Cond.codeWith yL_at cL_at 4 (some .int) [(0, 9, 12, 13)], Cond.methodLink RL 70 yX5_at, Cond.instanceMethod yX5_at, Cond.selects RX5 yX5_at yX5_at, Cond.code yX5_at cX5_at 2 (some .int), Cond.methodLink RL 158 yX6_at]
def wsL_law0_r19 : List Cond := [Cond.instanceMethod yX6_at, Cond.selects RX6 yX6_at yX6_at, Cond.code yX6_at cX6_at 2 (some .int), Cond.methodLink RL 159 yL_copyOf, Cond.static yL_copyOf, Cond.codeWith yL_copyOf cL_copyOf 4 (some .int) [(0, 9, 12, 13)], Cond.methodLink RL 73 yX5_copyOf, Cond.instanceMethod yX5_copyOf, Cond.selects RX5 yX5_copyOf yX5_copyOf, Cond.code yX5_copyOf cX5_copyOf 2 (some .int), Cond.fieldLink RX5 200 "GameCafe$Copy" "number" "I", Cond.methodLink RL 161 yX6_copyOf, Cond.instanceMethod yX6_copyOf, Cond.selects RX6 yX6_copyOf yX6_copyOf, Cond.code yX6_copyOf cX6_copyOf 2 (some .int), Cond.methodLink RL 162 yL_teaching, Cond.static yL_teaching, Cond.codeWith yL_teaching cL_teaching 4 (some .int) [(0, 9, 12, 13)], Cond.methodLink RL 76 yX5_teaching, Cond.instanceMethod yX5_teaching, Cond.selects RX5 yX5_teaching yX5_teaching, Cond.code yX5_teaching cX5_teaching 2 (some .int), Cond.methodLink RX5 201 Lib.Math.max.name, Cond.methodLink RL 164 yX6_teaching]
def wsL_law0_r20 : List Cond := [Cond.instanceMethod yX6_teaching, Cond.selects RX6 yX6_teaching yX6_teaching, Cond.code yX6_teaching cX6_teaching 2 (some .int), Cond.methodLink RL 165 yL_plays, Cond.static yL_plays, Cond.codeWith yL_plays cL_plays 4 (some .int) [(0, 9, 12, 13)], Cond.methodLink RL 79 yX5_plays, Cond.instanceMethod yX5_plays, Cond.selects RX5 yX5_plays yX5_plays, Cond.code yX5_plays cX5_plays 2 (some .int), Cond.methodLink RL 167 yX6_plays, Cond.instanceMethod yX6_plays, Cond.selects RX6 yX6_plays yX6_plays, Cond.code yX6_plays cX6_plays 2 (some .int), Cond.methodLink RL 168 yL_propose, Cond.static yL_propose, Cond.codeWith yL_propose cL_propose 4 (some .int) [(0, 9, 12, 15)], Cond.methodLink RL 82 yX5_propose, Cond.instanceMethod yX5_propose, Cond.selects RX5 yX5_propose yX5_propose, Cond.code yX5_propose cX5_propose 5 (some .int), Cond.methodLink RX5 207 yX5_canSeatKnowing, Cond.instanceMethod yX5_canSeatKnowing, Cond.selects RX5 yX5_canSeatKnowing yX5_canSeatKnowing]
def wsL_law0_r21 : List Cond := [Cond.code yX5_canSeatKnowing cX5_canSeatKnowing 3 (some .boolean), Cond.methodLink RL 170 yX6_propose, Cond.instanceMethod yX6_propose, Cond.selects RX6 yX6_propose yX6_propose, Cond.code yX6_propose cX6_propose 5 (some .int)]
def wsL_law0 : List Cond := (wsL_law0_r1 ++ (wsL_law0_r2 ++ (wsL_law0_r3 ++ (wsL_law0_r4 ++ (wsL_law0_r5 ++ (wsL_law0_r6 ++ (wsL_law0_r7 ++ (wsL_law0_r8 ++ (wsL_law0_r9 ++ (wsL_law0_r10 ++ (wsL_law0_r11 ++ (wsL_law0_r12 ++ (wsL_law0_r13 ++ (wsL_law0_r14 ++ (wsL_law0_r15 ++ (wsL_law0_r16 ++ (wsL_law0_r17 ++ (wsL_law0_r18 ++ (wsL_law0_r19 ++ (wsL_law0_r20 ++ wsL_law0_r21)))))))))))))))))))) ++ wsX50 ++ wsX60 ++ wsX10 ++ wsX30 ++ wsX40 ++ wsX00 ++ wsX20 ++ ([] : List Cond)
def wsL_law : List Cond := wsL_law0 ++ (vx_atS RX5 215 "java/lang/IndexOutOfBoundsException" ["java/lang/RuntimeException", "java/lang/Exception"]).filter goodWord ++ (vx_atS RX5 122 "java/lang/IllegalArgumentException" ["java/lang/RuntimeException", "java/lang/Exception"]).filter goodWord ++ (vx_atS RX5 87 "java/lang/IllegalStateException" ["java/lang/RuntimeException", "java/lang/Exception"]).filter goodWord
end
section
theorem cf_mem {big ws : List Cond} (ps : List Nat) (h : ws = ps.filterMap (fun i => big[i]?)) : ∀ w ∈ ws, w ∈ big := by
  intro w hw
  rw [h] at hw
  obtain ⟨i, -, hi⟩ := List.mem_filterMap.mp hw
  exact List.mem_of_getElem? hi
theorem wsL_law0_r1_in : ∀ w ∈ wsL_law0_r1, w ∈ lw_tbl := cf_mem [29, 30, 15, 520, 521, 19, 730, 31, 32, 33, 34, 35, 36, 37, 113, 39, 114, 41, 115, 43, 116, 45, 117, 118] (by decide +kernel)
theorem wsL_law0_r2_in : ∀ w ∈ wsL_law0_r2, w ∈ lw_tbl := cf_mem [119, 120, 121, 47, 16, 80, 17, 98, 18, 49, 50, 51, 52, 54, 56, 58, 79, 61, 63, 81, 82, 83, 84, 89] (by decide +kernel)
theorem wsL_law0_r3_in : ∀ w ∈ wsL_law0_r3, w ∈ lw_tbl := cf_mem [85, 87, 100, 101, 102, 112, 103, 105, 522, 523, 524, 525, 527, 528, 529, 530, 531, 532, 533, 534, 535, 536, 538, 539] (by decide +kernel)
theorem wsL_law0_r4_in : ∀ w ∈ wsL_law0_r4, w ∈ lw_tbl := cf_mem [540, 542, 543, 544, 545, 546, 547, 548, 149, 150, 14, 151, 152, 153, 154, 155, 156, 157, 53, 55, 57, 158, 159, 160] (by decide +kernel)
theorem wsL_law0_r5_in : ∀ w ∈ wsL_law0_r5, w ∈ lw_tbl := cf_mem [161, 23, 229, 230, 231, 232, 24, 603, 604, 605, 606, 549, 607, 608, 609, 610, 611, 612, 599, 600, 601, 602, 248, 249] (by decide +kernel)
theorem wsL_law0_r6_in : ∀ w ∈ wsL_law0_r6, w ∈ lw_tbl := cf_mem [250, 251, 252, 253, 254, 62, 65, 613, 614, 615, 616, 255, 256, 257, 258, 259, 260, 261, 262, 263, 25, 90, 88, 617] (by decide +kernel)
theorem wsL_law0_r7_in : ∀ w ∈ wsL_law0_r7, w ∈ lw_tbl := cf_mem [618, 619, 620, 279, 280, 281, 282, 283, 284, 285, 104, 621, 622, 623, 624, 286, 287, 288, 289, 290, 291, 292, 294, 26] (by decide +kernel)
theorem wsL_law0_r8_in : ∀ w ∈ wsL_law0_r8, w ∈ lw_tbl := cf_mem [295, 296, 297, 298, 312, 306, 308, 60, 299, 300, 301, 302, 303, 305, 310, 625, 626, 627, 628, 537, 323, 324, 325, 326] (by decide +kernel)
theorem wsL_law0_r9_in : ∀ w ∈ wsL_law0_r9, w ∈ lw_tbl := cf_mem [327, 328, 329, 311, 313, 330, 332, 1, 333, 629, 630, 631, 632, 633, 635, 7, 636, 637, 639, 8, 640, 336, 337, 338] (by decide +kernel)
theorem wsL_law0_r10_in : ∀ w ∈ wsL_law0_r10, w ∈ lw_tbl := cf_mem [339, 340, 341, 342, 309, 345, 346, 347, 348, 349, 350, 27, 351, 352, 353, 354, 641, 642, 643, 644, 355, 356, 357, 358] (by decide +kernel)
theorem wsL_law0_r11_in : ∀ w ∈ wsL_law0_r11, w ∈ lw_tbl := cf_mem [359, 360, 361, 106, 384, 28, 362, 363, 364, 365, 367, 369, 2, 370, 371, 373, 3, 374, 375, 376, 377, 378, 64, 379] (by decide +kernel)
theorem wsL_law0_r12_in : ∀ w ∈ wsL_law0_r12, w ∈ lw_tbl := cf_mem [381, 4, 382, 385, 386, 387, 388, 393, 395, 389, 391, 645, 646, 647, 648, 541, 526, 649, 651, 9, 652, 653, 655, 10] (by decide +kernel)
theorem wsL_law0_r13_in : ∀ w ∈ wsL_law0_r13, w ∈ lw_tbl := cf_mem [656, 657, 659, 11, 660, 661, 663, 12, 664, 406, 407, 408, 409, 410, 411, 412, 394, 390, 396, 86, 413, 415, 5, 416] (by decide +kernel)
theorem wsL_law0_r14_in : ∀ w ∈ wsL_law0_r14, w ∈ lw_tbl := cf_mem [665, 666, 667, 668, 669, 671, 13, 672, 419, 420, 421, 422, 423, 424, 425, 59, 392, 673, 674, 675, 676, 426, 427, 428] (by decide +kernel)
theorem wsL_law0_r15_in : ∀ w ∈ wsL_law0_r15, w ∈ lw_tbl := cf_mem [429, 430, 431, 432, 433, 677, 678, 679, 680, 681, 435, 436, 437, 438, 439, 440, 441, 443, 444, 445, 446, 448, 449, 682] (by decide +kernel)
theorem wsL_law0_r16_in : ∀ w ∈ wsL_law0_r16, w ∈ lw_tbl := cf_mem [683, 684, 685, 450, 451, 452, 453, 454, 455, 456, 458, 686, 687, 688, 689, 141, 142, 143, 144, 690, 691, 692, 693, 145] (by decide +kernel)
theorem wsL_law0_r17_in : ∀ w ∈ wsL_law0_r17, w ∈ lw_tbl := cf_mem [146, 147, 148, 694, 695, 696, 697, 459, 460, 461, 462, 463, 464, 465, 698, 699, 700, 701, 466, 467, 468, 469, 470, 471] (by decide +kernel)
theorem wsL_law0_r18_in : ∀ w ∈ wsL_law0_r18, w ∈ lw_tbl := cf_mem [472, 702, 703, 704, 705, 473, 474, 475, 476, 477, 478, 479, 706, 707, 708, 709, 480, 481, 482, 483, 484, 485, 486, 710] (by decide +kernel)
theorem wsL_law0_r19_in : ∀ w ∈ wsL_law0_r19, w ∈ lw_tbl := cf_mem [711, 712, 713, 487, 488, 489, 490, 491, 492, 493, 307, 714, 715, 716, 717, 494, 495, 496, 497, 498, 499, 500, 501, 718] (by decide +kernel)
theorem wsL_law0_r20_in : ∀ w ∈ wsL_law0_r20, w ∈ lw_tbl := cf_mem [719, 720, 721, 502, 503, 504, 505, 506, 507, 508, 722, 723, 724, 725, 509, 510, 511, 512, 513, 514, 515, 516, 518, 6] (by decide +kernel)
theorem wsL_law0_r21_in : ∀ w ∈ wsL_law0_r21, w ∈ lw_tbl := cf_mem [519, 726, 727, 728, 729] (by decide +kernel)
theorem wsX50_in : ∀ w ∈ wsX50, w ∈ lw_tbl := cf_mem [122, 124, 126, 128, 130, 132, 134, 136, 138] (by decide +kernel)
theorem wsX60_in : ∀ w ∈ wsX60, w ∈ lw_tbl := cf_mem [550, 552, 554, 556, 558, 560, 562, 564, 566, 568, 570, 572, 574, 576, 578, 580, 582, 584, 586, 588, 590, 592, 594, 596] (by decide +kernel)
theorem wsX10_in : ∀ w ∈ wsX10, w ∈ lw_tbl := cf_mem [66, 68, 70, 72, 74, 76] (by decide +kernel)
theorem wsX30_in : ∀ w ∈ wsX30, w ∈ lw_tbl := cf_mem [91, 93, 95] (by decide +kernel)
theorem wsX40_in : ∀ w ∈ wsX40, w ∈ lw_tbl := cf_mem [107, 109] (by decide +kernel)
theorem wsX00_in : ∀ w ∈ wsX00, w ∈ lw_tbl := cf_mem [314, 316, 318, 320] (by decide +kernel)
theorem wsX20_in : ∀ w ∈ wsX20, w ∈ lw_tbl := cf_mem [397, 399, 401, 403] (by decide +kernel)
theorem wsL_law_in0 : ∀ w ∈ wsL_law0, w ∈ lw_tbl := fun w h => (List.mem_append.mp h).elim (fun h => (List.mem_append.mp h).elim (fun h => (List.mem_append.mp h).elim (fun h => (List.mem_append.mp h).elim (fun h => (List.mem_append.mp h).elim (fun h => (List.mem_append.mp h).elim (fun h => (List.mem_append.mp h).elim (fun h => (List.mem_append.mp h).elim (fun h => (List.mem_append.mp h).elim (fun h => wsL_law0_r1_in w h) (fun h => (List.mem_append.mp h).elim (fun h => wsL_law0_r2_in w h) (fun h => (List.mem_append.mp h).elim (fun h => wsL_law0_r3_in w h) (fun h => (List.mem_append.mp h).elim (fun h => wsL_law0_r4_in w h) (fun h => (List.mem_append.mp h).elim (fun h => wsL_law0_r5_in w h) (fun h => (List.mem_append.mp h).elim (fun h => wsL_law0_r6_in w h) (fun h => (List.mem_append.mp h).elim (fun h => wsL_law0_r7_in w h) (fun h => (List.mem_append.mp h).elim (fun h => wsL_law0_r8_in w h) (fun h => (List.mem_append.mp h).elim (fun h => wsL_law0_r9_in w h) (fun h => (List.mem_append.mp h).elim (fun h => wsL_law0_r10_in w h) (fun h => (List.mem_append.mp h).elim (fun h => wsL_law0_r11_in w h) (fun h => (List.mem_append.mp h).elim (fun h => wsL_law0_r12_in w h) (fun h => (List.mem_append.mp h).elim (fun h => wsL_law0_r13_in w h) (fun h => (List.mem_append.mp h).elim (fun h => wsL_law0_r14_in w h) (fun h => (List.mem_append.mp h).elim (fun h => wsL_law0_r15_in w h) (fun h => (List.mem_append.mp h).elim (fun h => wsL_law0_r16_in w h) (fun h => (List.mem_append.mp h).elim (fun h => wsL_law0_r17_in w h) (fun h => (List.mem_append.mp h).elim (fun h => wsL_law0_r18_in w h) (fun h => (List.mem_append.mp h).elim (fun h => wsL_law0_r19_in w h) (fun h => (List.mem_append.mp h).elim (fun h => wsL_law0_r20_in w h) (fun h => wsL_law0_r21_in w h))))))))))))))))))))) (fun h => wsX50_in w h)) (fun h => wsX60_in w h)) (fun h => wsX10_in w h)) (fun h => wsX30_in w h)) (fun h => wsX40_in w h)) (fun h => wsX00_in w h)) (fun h => wsX20_in w h)) (fun h => absurd h List.not_mem_nil)
theorem wsL_law_x0 : ∀ w ∈ (vx_atS RX5 215 "java/lang/IndexOutOfBoundsException" ["java/lang/RuntimeException", "java/lang/Exception"]).filter goodWord, w ∈ lw_tbl := by decide +kernel
theorem wsL_law_x1 : ∀ w ∈ (vx_atS RX5 122 "java/lang/IllegalArgumentException" ["java/lang/RuntimeException", "java/lang/Exception"]).filter goodWord, w ∈ lw_tbl := by decide +kernel
theorem wsL_law_x2 : ∀ w ∈ (vx_atS RX5 87 "java/lang/IllegalStateException" ["java/lang/RuntimeException", "java/lang/Exception"]).filter goodWord, w ∈ lw_tbl := by decide +kernel
theorem wsL_law_in : ∀ w ∈ wsL_law, w ∈ lw_tbl := fun w h => (List.mem_append.mp h).elim (fun h => (List.mem_append.mp h).elim (fun h => (List.mem_append.mp h).elim (fun h => wsL_law_in0 w h) (fun h => wsL_law_x0 w h)) (fun h => wsL_law_x1 w h)) (fun h => wsL_law_x2 w h)
theorem inlX0 : ∀ w ∈ wsX00, w ∈ wsL_law := fun _ h => List.mem_append_left _ (List.mem_append_left _ (List.mem_append_left _ (List.mem_append_left _ (List.mem_append_left _ (List.mem_append_right _ h)))))
theorem inX0 : ∀ w ∈ wsX00, w ∈ lw_tbl := fun w h => wsL_law_in w (inlX0 w h)
theorem inlX1 : ∀ w ∈ wsX10, w ∈ wsL_law := fun _ h => List.mem_append_left _ (List.mem_append_left _ (List.mem_append_left _ (List.mem_append_left _ (List.mem_append_left _ (List.mem_append_left _ (List.mem_append_left _ (List.mem_append_left _ (List.mem_append_right _ h))))))))
theorem inX1 : ∀ w ∈ wsX10, w ∈ lw_tbl := fun w h => wsL_law_in w (inlX1 w h)
theorem inlX2 : ∀ w ∈ wsX20, w ∈ wsL_law := fun _ h => List.mem_append_left _ (List.mem_append_left _ (List.mem_append_left _ (List.mem_append_left _ (List.mem_append_right _ h))))
theorem inX2 : ∀ w ∈ wsX20, w ∈ lw_tbl := fun w h => wsL_law_in w (inlX2 w h)
theorem inlX3 : ∀ w ∈ wsX30, w ∈ wsL_law := fun _ h => List.mem_append_left _ (List.mem_append_left _ (List.mem_append_left _ (List.mem_append_left _ (List.mem_append_left _ (List.mem_append_left _ (List.mem_append_left _ (List.mem_append_right _ h)))))))
theorem inX3 : ∀ w ∈ wsX30, w ∈ lw_tbl := fun w h => wsL_law_in w (inlX3 w h)
theorem inlX4 : ∀ w ∈ wsX40, w ∈ wsL_law := fun _ h => List.mem_append_left _ (List.mem_append_left _ (List.mem_append_left _ (List.mem_append_left _ (List.mem_append_left _ (List.mem_append_left _ (List.mem_append_right _ h))))))
theorem inX4 : ∀ w ∈ wsX40, w ∈ lw_tbl := fun w h => wsL_law_in w (inlX4 w h)
theorem inlX5 : ∀ w ∈ wsX50, w ∈ wsL_law := fun _ h => List.mem_append_left _ (List.mem_append_left _ (List.mem_append_left _ (List.mem_append_left _ (List.mem_append_left _ (List.mem_append_left _ (List.mem_append_left _ (List.mem_append_left _ (List.mem_append_left _ (List.mem_append_left _ (List.mem_append_right _ h))))))))))
theorem inX5 : ∀ w ∈ wsX50, w ∈ lw_tbl := fun w h => wsL_law_in w (inlX5 w h)
theorem inlX6 : ∀ w ∈ wsX60, w ∈ wsL_law := fun _ h => List.mem_append_left _ (List.mem_append_left _ (List.mem_append_left _ (List.mem_append_left _ (List.mem_append_left _ (List.mem_append_left _ (List.mem_append_left _ (List.mem_append_left _ (List.mem_append_left _ (List.mem_append_right _ h)))))))))
theorem inX6 : ∀ w ∈ wsX60, w ∈ lw_tbl := fun w h => wsL_law_in w (inlX6 w h)
theorem inJx8e188 : ∀ w ∈ wsJx8e1880, w ∈ lw_tbl := by decide +kernel
theorem inJ9 : ∀ w ∈ wsJ90, w ∈ lw_tbl := by decide +kernel
theorem inJ0 : ∀ w ∈ wsJ00, w ∈ lw_tbl := by decide +kernel
end
section
abbrev vwCl : List vw_C := [(RX0, TX0, 4), (RX1, TX1, 6), (RX2, TX2, 4), (RX3, TX3, 3), (RX4, TX4, 2), (RX5, TX5, 9), (RX6, TX6, 24)]
end
section
/-! ===== the worlds of this claim: cells by roles (a kind and a place), each role's content told by rows of numbers ===== -/
/-- a function of two places, changed at one -/
def cf_g2 {α : Type} (f : Nat → Nat → α) (k i : Nat) (v : α) : Nat → Nat → α := fun a b => if a = k ∧ b = i then v else f a b
theorem cf_g2s {α : Type} {f : Nat → Nat → α} {k i : Nat} {v : α} : cf_g2 f k i v k i = v := by simp [cf_g2]
theorem cf_g2n {α : Type} {f : Nat → Nat → α} {k i a b : Nat} {v : α} (h : ¬ (a = k ∧ b = i)) : cf_g2 f k i v a b = f a b := if_neg h
abbrev cf_T : Type := Nat → Nat → Option va_E
abbrev cf_Ad : Type := Nat → Nat → Nat
/-- the heap holds E's cells at the addresses ad, all of them at z or above, no two at one address -/
def cf_W (D : va_G) (z : Nat) (E : cf_T) (ad : cf_Ad) (H : Heap) : Prop :=
  z ≤ H.size ∧ (∀ (k i : Nat) (e : va_E), E k i = some e → va_at D vwCl (ad k i, e) H ∧ z ≤ ad k i) ∧
  ∀ (k i k2 i2 : Nat) (e e2 : va_E), E k i = some e → E k2 i2 = some e2 → ad k i = ad k2 i2 → k = k2 ∧ i = i2
section
variable {D : va_G} {z : Nat} {E : cf_T} {ad : cf_Ad} {H H1 : Heap}
theorem cf_W.lt (h : cf_W D z E ad H) {k i : Nat} {e : va_E} (he : E k i = some e) : ad k i < H.size := (h.2.1 k i e he).1.lt
theorem cf_W.ge (h : cf_W D z E ad H) {k i : Nat} {e : va_E} (he : E k i = some e) : z ≤ ad k i := (h.2.1 k i e he).2
theorem cf_W.at (h : cf_W D z E ad H) {k i : Nat} {e : va_E} (he : E k i = some e) : va_at D vwCl (ad k i, e) H := (h.2.1 k i e he).1
theorem cf_W.p1 (h : cf_W D z E ad H) {k i : Nat} {e : va_E} (he : E k i = some e) : va_P D vwCl [(ad k i, e)] H := by
  intro j q hq
  have hj : j < 1 := (List.getElem?_eq_some_iff.mp hq).1
  rw [show j = 0 by omega] at hq
  cases hq
  exact h.at he
theorem cf_W.kept (h : cf_W D z E ad H) (hz : H.size ≤ H1.size) (hq : ∀ q : Nat, q < H.size → H1[q]? = H[q]?) : cf_W D z E ad H1 :=
  ⟨Nat.le_trans h.1 hz, fun k i e he => ⟨(h.at he).kept (hq _ (h.lt he)), h.ge he⟩, h.2.2⟩
theorem cf_W.put (h : cf_W D z E ad H) {k i : Nat} {e0 e : va_E} (he : E k i = some e0) (h1 : va_at D vwCl (ad k i, e) H1) (hs : H1.size = H.size) (oq : ∀ q : Nat, q ≠ ad k i → H1[q]? = H[q]?) : cf_W D z (cf_g2 E k i (some e)) ad H1 := by
  have key : ∀ (a b : Nat) (x : va_E), cf_g2 E k i (some e) a b = some x → (a = k ∧ b = i ∧ x = e) ∨ (¬ (a = k ∧ b = i) ∧ E a b = some x) := by
    intro a b x hx
    by_cases hab : a = k ∧ b = i
    · obtain ⟨rfl, rfl⟩ := hab
      rw [cf_g2s] at hx
      exact Or.inl ⟨rfl, rfl, (Option.some.inj hx).symm⟩
    · rw [cf_g2n hab] at hx
      exact Or.inr ⟨hab, hx⟩
  refine ⟨by rw [hs]; exact h.1, fun a b x hx => ?_, fun a b a2 b2 x x2 hx hx2 hq => ?_⟩
  · rcases key a b x hx with ⟨rfl, rfl, rfl⟩ | ⟨hab, hx⟩
    · exact ⟨h1, h.ge he⟩
    · exact ⟨(h.at hx).kept (oq _ (fun q => hab (h.2.2 a b k i x e0 hx he q))), h.ge hx⟩
  · have l1 : ∃ y, E a b = some y := by
      rcases key a b x hx with ⟨rfl, rfl, rfl⟩ | ⟨-, hx⟩
      · exact ⟨e0, he⟩
      · exact ⟨x, hx⟩
    have l2 : ∃ y, E a2 b2 = some y := by
      rcases key a2 b2 x2 hx2 with ⟨rfl, rfl, rfl⟩ | ⟨-, hx⟩
      · exact ⟨e0, he⟩
      · exact ⟨x2, hx⟩
    obtain ⟨y, hy⟩ := l1
    obtain ⟨y2, hy2⟩ := l2
    exact h.2.2 a b a2 b2 y y2 hy hy2 hq
theorem cf_W.new (h : cf_W D z E ad H) {k i : Nat} {e : va_E} (he : E k i = none) (h1 : va_at D vwCl (H.size, e) H1) (hs : H.size ≤ H1.size) (oq : ∀ q : Nat, q < H.size → H1[q]? = H[q]?) : cf_W D z (cf_g2 E k i (some e)) (cf_g2 ad k i H.size) H1 := by
  have key : ∀ (a b : Nat) (x : va_E), cf_g2 E k i (some e) a b = some x → (a = k ∧ b = i ∧ x = e ∧ cf_g2 ad k i H.size a b = H.size) ∨ (¬ (a = k ∧ b = i) ∧ E a b = some x ∧ cf_g2 ad k i H.size a b = ad a b ∧ ad a b < H.size) := by
    intro a b x hx
    by_cases hab : a = k ∧ b = i
    · obtain ⟨rfl, rfl⟩ := hab
      rw [cf_g2s] at hx
      exact Or.inl ⟨rfl, rfl, (Option.some.inj hx).symm, cf_g2s⟩
    · rw [cf_g2n hab] at hx
      exact Or.inr ⟨hab, hx, cf_g2n hab, h.lt hx⟩
  refine ⟨Nat.le_trans h.1 hs, fun a b x hx => ?_, fun a b a2 b2 x x2 hx hx2 hq => ?_⟩
  · rcases key a b x hx with ⟨rfl, rfl, rfl, ha⟩ | ⟨-, hx, ha, hl⟩
    · rw [ha]; exact ⟨h1, h.1⟩
    · rw [ha]; exact ⟨(h.at hx).kept (oq _ hl), h.ge hx⟩
  · rcases key a b x hx with ⟨rfl, rfl, -, ha⟩ | ⟨-, hx, ha, hl⟩ <;> rcases key a2 b2 x2 hx2 with ⟨rfl, rfl, -, ha2⟩ | ⟨-, hx2, ha2, hl2⟩
    · exact ⟨rfl, rfl⟩
    · rw [ha, ha2] at hq; omega
    · rw [ha, ha2] at hq; omega
    · rw [ha, ha2] at hq; exact h.2.2 a b a2 b2 x x2 hx hx2 hq
theorem cf_W.recv {s : State} {tys : List (ClassId × FieldType)} (h : cf_W D z E ad H) (hK : va_K D vwCl tys s) {k i ci : Nat} {fs : List Value} {q : vw_C} (he : E k i = some (.inr (ci, fs))) (hc : vwCl[ci]? = some q) : ∃ cell : Cell, H[ad k i]? = some cell ∧ cell.vm.isStatics = false ∧ s.vm.findClass q.1 = some cell.cls :=
  va_recv hK (h.p1 he) hc (q0 := 0) rfl
end
/-! rows -/
section
variable {p : Program} {l : Launch} {e : Env} {R : Room} {s : State} {m : MethodId} {args : Array Value} {below : List Frame} {meth : Method} {c : Code} {H : Heap} {locs : List Loc} {cells slots : Nat} {Q : State → Prop}
variable {cc : ByteArray} {pc : Nat} {ls : Array Slot} {rest : List Value} {D : va_G} {A : Nat → Prop} {tys : List (ClassId × FieldType)} {H0 : Heap} {z : Nat} {E : cf_T} {ad : cf_Ad}
theorem cf_get (hexec : p.tables.exec = Jvm.exec) (hb : c.code = cc) {own ref C : String} {T : u_T} {N ci index : Nat} {Ts : List Cond} (hts : ∀ w ∈ Ts, w.before args s = true) (hin : ∀ w ∈ u_ws C T N, w ∈ Ts) (hown : s.vm.findClass own = some m.cls) (hK : va_K D vwCl tys s) (hW : cf_W D z E ad H) {k i : Nat} {fs : List Value} (he : E k i = some (.inr (ci, fs))) (hc : vwCl[ci]? = some (C, T, N)) (j : Nat) (hj : j < N) (hlink : (Cond.fieldLink own index ref (T j).2.1 (T j).2.2.1).before args s = true) (hsame : ∀ x, s.fieldFound? (T j).1 (T j).2.1 (T j).2.2.1 = some x → s.fieldFound? ref (T j).2.1 (T j).2.2.1 = some x) {v : Value} (hv : fs[j]? = some v) (hdg : decode cc pc = .ok (.getfield index, 3))
    (kk : W p l e R s m args below meth c H locs cells slots Q (F0 m (pc + 3) ls (v :: rest))) : W p l e R s m args below meth c H locs cells slots Q (F0 m pc ls (.ref (ad k i) :: rest)) :=
  va_get hexec hb hts hin hown hK (hW.p1 he) 0 rfl hc j hj hlink hsame hv hdg kk
theorem cf_put (hexec : p.tables.exec = Jvm.exec) (hb : c.code = cc) {own ref C : String} {T : u_T} {N ci index : Nat} {Ts : List Cond} (hts : ∀ w ∈ Ts, w.before args s = true) (hin : ∀ w ∈ u_ws C T N, w ∈ Ts) (ty0 : Nat → FieldType) (hty : ∀ k, k < N → parseFieldDescriptor (T k).2.2.1 = some (ty0 k)) (hnm : ∀ a, a < N → ∀ b, b < N → a ≠ b → (T a).2.1 ≠ (T b).2.1) (hown : s.vm.findClass own = some m.cls) (hK : va_K D vwCl tys s) (hW : cf_W D z E ad H) (hS0 : va_S (fun q => z ≤ q) H0 H locs) {k i : Nat} {fs : List Value} (he : E k i = some (.inr (ci, fs))) (hc : vwCl[ci]? = some (C, T, N)) (j : Nat) (hj : j < N) (hlink : (Cond.fieldLink own index ref (T j).2.1 (T j).2.2.1).before args s = true) (hsame : ∀ x, s.fieldFound? (T j).1 (T j).2.1 (T j).2.2.1 = some x → s.fieldFound? ref (T j).2.1 (T j).2.2.1 = some x) (hfin : (T j).2.2.2 = false) {ty : FieldType} {v : Value} (hd : parseFieldDescriptor (T j).2.2.1 = some ty) (hn : narrow ty v = v) (hfit : fits ty v = true) (hl : j < fs.length)
    (hdg : decode cc pc = .ok (.putfield index, 3)) (kk : ∀ (H1 : Heap) (locs1 : List Loc), cf_W D z (cf_g2 E k i (some (.inr (ci, fs.set j v)))) ad H1 → va_S (fun q => z ≤ q) H0 H1 locs1 → W p l e R s m args below meth c H1 locs1 cells slots Q (F0 m (pc + 3) ls rest)) : W p l e R s m args below meth c H locs cells slots Q (F0 m pc ls (v :: .ref (ad k i) :: rest)) := by
  have hap := va_apart (own := own) hts hin ty0 hty hnm hK hc
  obtain ⟨r, h1, cell, q1, q2, q3, q4⟩ := hW.at he
  have hr : r = (C, T, N) := Option.some.inj (h1.symm.trans hc)
  subst hr
  obtain ⟨hS, hfc, kC, hkC, hkind⟩ := hK.1 ci _ hc
  obtain ⟨cf, kf, fi, f, hi, hsl⟩ := hS j hj
  have hlay := hts _ (hin _ (u_in_lay hj))
  unfold u_lay at hlay
  rw [if_neg (by rw [hfin]; decide)] at hlay
  have hst := (u_facts hfc hkC (u_lays hts hin hj) hi).1
  have h6 := u_store hfc hkC hkind hlay hi hd hn hfit
  refine W.putK hexec hb (f := f) ⟨hown, hlink, ⟨_, _, _, hsame _ hi⟩, hst⟩ (by rw [q2]; exact h6) q1 q3 (by rw [hsl]; exact k2_hasslot (q4 j hj)) rfl rfl hdg fun H' e1 e2 e3 => ?_
  rw [hsl] at e1 ⊢
  exact kk H' _ (hW.put he ⟨_, hc, t_OB.to (V := updV (vp_V fs) j v) ⟨_, e1, q2, q3, t_set q4 hap hj v⟩ (fun n _ => vp_updV_set hl v n)⟩ e2 e3) (hS0.put e2 e3 (hW.ge he))
theorem cf_iald (hexec : p.tables.exec = Jvm.exec) (hb : c.code = cc) (hK : va_K D vwCl tys s) (hW : cf_W D z E ad H) {k i : Nat} (t0 : Nat) {cA : ClassId} {n : Nat} {f : Nat → Int32} (he : E k i = some (.inl (cA, n, .inl f))) (ht : tys[t0]? = some (cA, .int)) {x : Int32} (hin : vp_in x n) (hdg : decode cc pc = .ok (.iaload, 1))
    (kk : W p l e R s m args below meth c H locs cells slots Q (F0 m (pc + 1) ls (.int (f x.toNatClampNeg) :: rest))) : W p l e R s m args below meth c H locs cells slots Q (F0 m pc ls (.int x :: .ref (ad k i) :: rest)) :=
  va_iald hexec hb hK (hW.p1 he) 0 t0 rfl ht hin hdg kk
theorem cf_zald (hexec : p.tables.exec = Jvm.exec) (hb : c.code = cc) (hK : va_K D vwCl tys s) (hW : cf_W D z E ad H) {k i : Nat} (t0 : Nat) {cA : ClassId} {n : Nat} {f : Nat → Int32} (he : E k i = some (.inl (cA, n, .inl f))) (ht : tys[t0]? = some (cA, .boolean)) {x : Int32} (hin : vp_in x n) (hdg : decode cc pc = .ok (.baload, 1))
    (kk : W p l e R s m args below meth c H locs cells slots Q (F0 m (pc + 1) ls (.int (f x.toNatClampNeg) :: rest))) : W p l e R s m args below meth c H locs cells slots Q (F0 m pc ls (.int x :: .ref (ad k i) :: rest)) :=
  va_zald hexec hb hK (hW.p1 he) 0 t0 rfl ht hin hdg kk
theorem cf_lald (hexec : p.tables.exec = Jvm.exec) (hb : c.code = cc) (hK : va_K D vwCl tys s) (hW : cf_W D z E ad H) {k i : Nat} (t0 : Nat) {cA : ClassId} {n : Nat} {f : Nat → Int64} (he : E k i = some (.inl (cA, n, .inr (.inl f)))) (ht : tys[t0]? = some (cA, .long)) {x : Int32} (hin : vp_in x n) (hdg : decode cc pc = .ok (.laload, 1))
    (kk : W p l e R s m args below meth c H locs cells slots Q (F0 m (pc + 1) ls (.long (f x.toNatClampNeg) :: rest))) : W p l e R s m args below meth c H locs cells slots Q (F0 m pc ls (.int x :: .ref (ad k i) :: rest)) :=
  va_lald hexec hb hK (hW.p1 he) 0 t0 rfl ht hin hdg kk
theorem cf_aald (hexec : p.tables.exec = Jvm.exec) (hb : c.code = cc) (hK : va_K D vwCl tys s) (hW : cf_W D z E ad H) {k i : Nat} (t0 : Nat) {cA : ClassId} {C : String} {n : Nat} {f : Nat → Option Nat} (he : E k i = some (.inl (cA, n, .inr (.inr (.inr (.inr f)))))) (ht : tys[t0]? = some (cA, .object C)) {x : Int32} (hin : vp_in x n) (hdg : decode cc pc = .ok (.aaload, 1))
    {v : Value} (hv : va_rf (f x.toNatClampNeg) = v) (kk : W p l e R s m args below meth c H locs cells slots Q (F0 m (pc + 1) ls (v :: rest))) : W p l e R s m args below meth c H locs cells slots Q (F0 m pc ls (.int x :: .ref (ad k i) :: rest)) := by
  subst hv
  exact va_aldq hexec hb hK (hW.p1 he) 0 t0 rfl ht hin hdg kk
theorem cf_alen (hexec : p.tables.exec = Jvm.exec) (hb : c.code = cc) (hK : va_K D vwCl tys s) (hW : cf_W D z E ad H) {k i : Nat} (t0 : Nat) {cA : ClassId} {x : vp_A} (he : E k i = some (.inl (cA, x))) {ty : FieldType} (ht : tys[t0]? = some (cA, ty)) {v : Int32} (hv : Int32.ofNat x.1 = v) (hdg : decode cc pc = .ok (.arraylength, 1))
    (kk : W p l e R s m args below meth c H locs cells slots Q (F0 m (pc + 1) ls (.int v :: rest))) : W p l e R s m args below meth c H locs cells slots Q (F0 m pc ls (.ref (ad k i) :: rest)) :=
  va_alen hexec hb hK (hW.p1 he) 0 t0 rfl ht hv hdg kk
theorem cf_iast (hexec : p.tables.exec = Jvm.exec) (hb : c.code = cc) (hK : va_K D vwCl tys s) (hW : cf_W D z E ad H) (hS : va_S (fun q => z ≤ q) H0 H locs) {k i : Nat} (t0 : Nat) {cA : ClassId} {n : Nat} {f : Nat → Int32} (he : E k i = some (.inl (cA, n, .inl f))) (ht : tys[t0]? = some (cA, .int)) {j x : Int32} (hin : vp_in j n) (hdg : decode cc pc = .ok (.iastore, 1))
    (kk : ∀ (H1 : Heap) (locs1 : List Loc), cf_W D z (cf_g2 E k i (some (.inl (cA, n, .inl (upd f j.toNatClampNeg x))))) ad H1 → va_S (fun q => z ≤ q) H0 H1 locs1 → W p l e R s m args below meth c H1 locs1 cells slots Q (F0 m (pc + 1) ls rest)) : W p l e R s m args below meth c H locs cells slots Q (F0 m pc ls (.int x :: .int j :: .ref (ad k i) :: rest)) := by
  refine W.iast hexec hb (hW.at he) ((hK.2 t0 _ ht).1 n (fun j => .int (f j))) (fun q => by cases q) (by show ¬ (j < 0 ∨ (arrV _ _ _).slots.size ≤ _); rw [arrV_size]; exact hin) rfl rfl hdg fun H1 e z oq => ?_
  refine kk H1 _ (hW.put he ?_ z oq) (hS.put z oq (hW.ge he))
  show H1[ad k i]? = some (vp_cell _ _)
  rw [e, vp_cell_i, vp_cell_i, arrV_store]
  congr 2
  funext q
  by_cases hq : q = j.toNatClampNeg
  · subst hq
    simp [updV, upd]
  · simp [updV, upd, hq]
theorem cf_zast (hexec : p.tables.exec = Jvm.exec) (hb : c.code = cc) (hK : va_K D vwCl tys s) (hW : cf_W D z E ad H) (hS : va_S (fun q => z ≤ q) H0 H locs) {k i : Nat} (t0 : Nat) {cA : ClassId} {n : Nat} {f : Nat → Int32} (he : E k i = some (.inl (cA, n, .inl f))) (ht : tys[t0]? = some (cA, .boolean)) {j x : Int32} (hin : vp_in j n) (hdg : decode cc pc = .ok (.bastore, 1))
    (kk : ∀ (H1 : Heap) (locs1 : List Loc), cf_W D z (cf_g2 E k i (some (.inl (cA, n, .inl (upd f j.toNatClampNeg (vp_nar .boolean x)))))) ad H1 → va_S (fun q => z ≤ q) H0 H1 locs1 → W p l e R s m args below meth c H1 locs1 cells slots Q (F0 m (pc + 1) ls rest)) : W p l e R s m args below meth c H locs cells slots Q (F0 m pc ls (.int x :: .int j :: .ref (ad k i) :: rest)) := by
  refine W.zast hexec hb (hW.at he) ((hK.2 t0 _ ht).1 n (fun j => .int (f j))) (fun q => by cases q) (by show ¬ (j < 0 ∨ (arrV _ _ _).slots.size ≤ _); rw [arrV_size]; exact hin) rfl rfl hdg fun H1 e z oq => ?_
  refine kk H1 _ (hW.put he ?_ z oq) (hS.put z oq (hW.ge he))
  show H1[ad k i]? = some (vp_cell _ _)
  rw [e, vp_cell_i, vp_cell_i, arrV_store]
  congr 2
  funext q
  by_cases hq : q = j.toNatClampNeg
  · subst hq
    simp [updV, upd, vp_nar]
    try rfl
  · simp [updV, upd, hq]
theorem cf_last (hexec : p.tables.exec = Jvm.exec) (hb : c.code = cc) (hK : va_K D vwCl tys s) (hW : cf_W D z E ad H) (hS : va_S (fun q => z ≤ q) H0 H locs) {k i : Nat} (t0 : Nat) {cA : ClassId} {n : Nat} {f : Nat → Int64} (he : E k i = some (.inl (cA, n, .inr (.inl f)))) (ht : tys[t0]? = some (cA, .long)) {j : Int32} {x : Int64} (hin : vp_in j n) (hdg : decode cc pc = .ok (.lastore, 1))
    (kk : ∀ (H1 : Heap) (locs1 : List Loc), cf_W D z (cf_g2 E k i (some (.inl (cA, n, .inr (.inl (vp_updL f j.toNatClampNeg x)))))) ad H1 → va_S (fun q => z ≤ q) H0 H1 locs1 → W p l e R s m args below meth c H1 locs1 cells slots Q (F0 m (pc + 1) ls rest)) : W p l e R s m args below meth c H locs cells slots Q (F0 m pc ls (.long x :: .int j :: .ref (ad k i) :: rest)) := by
  refine W.last hexec hb (hW.at he) ((hK.2 t0 _ ht).1 n (fun j => .long (f j))) (fun q => by cases q) (by show ¬ (j < 0 ∨ (arrV _ _ _).slots.size ≤ _); rw [arrV_size]; exact hin) rfl rfl hdg fun H1 e z oq => ?_
  refine kk H1 _ (hW.put he ?_ z oq) (hS.put z oq (hW.ge he))
  show H1[ad k i]? = some (vp_cell _ _)
  rw [e, vp_cell_l, vp_cell_l, arrV_store]
  congr 2
  funext q
  by_cases hq : q = j.toNatClampNeg
  · subst hq
    simp [updV, vp_updL]
  · simp [updV, vp_updL, hq]
theorem cf_aast (hexec : p.tables.exec = Jvm.exec) (hb : c.code = cc) (hK : va_K D vwCl tys s) (hW : cf_W D z E ad H) (hS : va_S (fun q => z ≤ q) H0 H locs) {k i k2 i2 : Nat} (t0 ci : Nat) {cA : ClassId} {r : vw_C} {n : Nat} {vs : List Value} {f : Nat → Option Nat} (he : E k i = some (.inl (cA, n, .inr (.inr (.inr (.inr f)))))) (ht : tys[t0]? = some (cA, .object r.1)) (hv : E k2 i2 = some (.inr (ci, vs))) (hc : vwCl[ci]? = some r) {j : Int32} (hin : vp_in j n) (hdg : decode cc pc = .ok (.aastore, 1))
    (kk : ∀ (H1 : Heap) (locs1 : List Loc), cf_W D z (cf_g2 E k i (some (.inl (cA, n, .inr (.inr (.inr (.inr (va_up f j.toNatClampNeg (some (ad k2 i2)))))))))) ad H1 → va_S (fun q => z ≤ q) H0 H1 locs1 → W p l e R s m args below meth c H1 locs1 cells slots Q (F0 m (pc + 1) ls rest)) : W p l e R s m args below meth c H locs cells slots Q (F0 m pc ls (.ref (ad k2 i2) :: .int j :: .ref (ad k i) :: rest)) := by
  have hlt : j.toNatClampNeg < n := Nat.not_le.mp fun q => hin (Or.inr q)
  have h0 : ¬ j < 0 := fun q => hin (Or.inl q)
  obtain ⟨r', hr', cellV, g1, g2, g3, -⟩ := hW.at hv
  have hcls := (hK.1 ci r hc).2
  obtain ⟨kA, comp, k1, k2, k3, -⟩ := (hK.2 t0 _ ht).2
  have hcomp : comp = D.1 ci := Option.some.inj (k3.symm.trans hcls.1)
  subst hcomp
  obtain ⟨kC, hkC, -⟩ := hcls.2
  refine W.aast hexec hb (hW.at he) (fun q h => by cases h) (fun h => by cases h) k1 k2 rfl hkC ⟨h0, by show _ < (arrV _ _ _).slots.size; rw [arrV_size]; exact hlt⟩ g1 (fun q h => by rw [g3] at h; cases h) (by rw [g2]; exact hkC) (by rw [g2]; exact va_assign hcls) rfl rfl hdg fun H1 e z oq => ?_
  refine kk H1 _ (hW.put he ?_ z oq) (hS.put z oq (hW.ge he))
  show H1[ad k i]? = some (vp_cell _ _)
  rw [e, vp_cell_q, vp_cell_q, arrV_store]
  congr 2
  funext q
  by_cases hq : q = j.toNatClampNeg
  · subst hq
    simp [updV, va_up, va_rf]
  · simp [updV, va_up, hq]
theorem cf_aastN (hexec : p.tables.exec = Jvm.exec) (hb : c.code = cc) (hK : va_K D vwCl tys s) (hW : cf_W D z E ad H) (hS : va_S (fun q => z ≤ q) H0 H locs) {k i : Nat} (t0 : Nat) {cA : ClassId} {C : String} {n : Nat} {f : Nat → Option Nat} (he : E k i = some (.inl (cA, n, .inr (.inr (.inr (.inr f)))))) (ht : tys[t0]? = some (cA, .object C)) {j : Int32} (hin : vp_in j n) (hdg : decode cc pc = .ok (.aastore, 1))
    (kk : ∀ (H1 : Heap) (locs1 : List Loc), cf_W D z (cf_g2 E k i (some (.inl (cA, n, .inr (.inr (.inr (.inr (va_up f j.toNatClampNeg none)))))))) ad H1 → va_S (fun q => z ≤ q) H0 H1 locs1 → W p l e R s m args below meth c H1 locs1 cells slots Q (F0 m (pc + 1) ls rest)) : W p l e R s m args below meth c H locs cells slots Q (F0 m pc ls (.null :: .int j :: .ref (ad k i) :: rest)) := by
  refine va_WaastN (C := C) hexec hb (hW.at he) ((hK.2 t0 _ ht).1 n (fun j => va_rf (f j))) (fun h => by cases h) (by show ¬ (j < 0 ∨ (arrV _ _ _).slots.size ≤ _); rw [arrV_size]; exact hin) rfl rfl hdg fun H1 e z oq => ?_
  refine kk H1 _ (hW.put he ?_ z oq) (hS.put z oq (hW.ge he))
  show H1[ad k i]? = some (vp_cell _ _)
  rw [e, vp_cell_q, vp_cell_q, arrV_store]
  congr 2
  funext q
  by_cases hq : q = j.toNatClampNeg
  · subst hq
    simp [updV, va_up, va_rf]
  · simp [updV, va_up, hq]
end
end
section
/-! ===== what the tables say, as it stays through a run: classes, arrays' classes, the two statics of Throwable, castables, links of nest mates, texts ===== -/
abbrev cf_iob : String := "java/lang/IndexOutOfBoundsException"
abbrev cf_iae : String := "java/lang/IllegalArgumentException"
abbrev cf_ise : String := "java/lang/IllegalStateException"
def cf_ca : List (String × String) := [(cf_iob, cf_iob), (cf_iae, cf_iae), (cf_ise, cf_ise), ("[I", "java/lang/Cloneable")]
def cf_ln : List (String × Nat × MethodName × String) := [(RX5, 52, yX1_init, RX5), (RX5, 56, yX4_init, RX5), (RX0, 39, yX5_worthOfPart, RX5)]
def cf_nc : List (String × String) := [(cf_iae, cf_iob), (cf_ise, cf_iob), (cf_iob, cf_iae), (cf_ise, cf_iae), (cf_iob, cf_ise), (cf_iae, cf_ise)]
def cf_ao : List String := [RX1, RX3, RX4, RX0, RX2]
def cf_str : List (Nat × String) := [(218, "there is no such number"), (220, "an argument is out of range"), (85, "a group is at the table"), (97, "there can be no more copies"), (213, "there is no such copy"), (112, "the parts of the copy cannot change so"), (120, "a copy is filled from another one of its game"), (123, "a copy is not on the shelf"), (133, "the game is not for so many people"), (147, "the group cannot be seated"), (216, "there is no such group"), (170, "no table can be had"), (182, "the minute would be above the last one"), (184, "the copy cannot be lent to the borrower"), (190, "there is no such copy to come back")]
abbrev cf_tys (cT : Nat → ClassId) : List (ClassId × FieldType) := [(cT 0, .int), (cT 1, .boolean), (cT 2, .long), (cT 3, .object RX1), (cT 4, .object RX3), (cT 5, .object RX4), (cT 6, .object RX0), (cT 7, .object RX2)]
abbrev cf_U (z : Nat) (U : State) (H : Heap) : Prop := vx_Zq Bundle.tN "UNASSIGNED_STACK" Bundle.steD (fun q => z ≤ q) U H ∧ vx_Zq Bundle.tN "SUPPRESSED_SENTINEL" Bundle.listD (fun q => z ≤ q) U H
def cf_Tb (D : va_G) (cT : Nat → ClassId) (z : Nat) (U : State) (H : Heap) : Prop :=
  va_K D vwCl (cf_tys cT) U ∧ cf_U z U H ∧ (∀ q ∈ cf_ca, va_Nw (.castable q.1 q.2) U) ∧ (∀ q ∈ cf_ln, va_Nw (.methodLinkNest q.1 q.2.1 q.2.2.1 q.2.2.2) U) ∧ (∀ q ∈ cf_nc, va_Nc q.1 q.2 U) ∧ (∀ C ∈ cf_ao, va_AO C U) ∧ ∀ q ∈ cf_str, ∃ a : Nat, vk_R RX5 q.1 q.2 a U
theorem cf_Tb.warm {D : va_G} {cT : Nat → ClassId} {z : Nat} {s U : State} {H : Heap} (hW : s.WarmedH U.vm) (h : cf_Tb D cT z s H) : cf_Tb D cT z U H := by
  obtain ⟨h1, ⟨h2, h3⟩, h4, h5, h6, h7, h8⟩ := h
  refine ⟨va_K.moved hW.alike h1, ⟨h2.moved hW.alike, h3.moved hW.alike⟩, fun q hq => va_Nw.warmC hW (h4 q hq), fun q hq => va_Nw.warmM hW (h5 q hq), fun q hq => (h6 q hq).moved hW.alike, fun C hC => (h7 C hC).moved hW.alike, fun q hq => ?_⟩
  obtain ⟨a, ha⟩ := h8 q hq
  exact ⟨a, ha.warm hW⟩
theorem cf_Tb.kept {D : va_G} {cT : Nat → ClassId} {z : Nat} {s : State} {H H1 : Heap} (h : cf_Tb D cT z s H) (hq : ∀ q : Nat, q < H.size → ¬ z ≤ q → H1[q]? = H[q]?) : cf_Tb D cT z s H1 :=
  ⟨h.1, ⟨h.2.1.1.kept hq, h.2.1.2.kept hq⟩, h.2.2⟩
/-- a method's start: the world, and the tables -/
def cf_P (D : va_G) (cT : Nat → ClassId) (z : Nat) (E : cf_T) (ad : cf_Ad) (U : State) : Prop := cf_W D z E ad U.heap ∧ cf_Tb D cT z U U.heap
theorem cf_P.blind {D : va_G} {cT : Nat → ClassId} {z : Nat} {E : cf_T} {ad : cf_Ad} {As : List Value} : FrameBlind (va_Pc As (cf_P D cT z E ad)) :=
  fun a U g mk q => ⟨q.1, q.2.1, cf_Tb.warm (s := U) (U := U.calling g mk a) (State.WarmedH.refl U) q.2.2⟩
theorem cf_P.at {D : va_G} {cT : Nat → ClassId} {z : Nat} {E : cf_T} {ad : cf_Ad} {s : State} {H : Heap} {locs : List Loc} (hT : cf_Tb D cT z s s.heap) (hS : va_S (fun q => z ≤ q) s.heap H locs) (hW : cf_W D z E ad H) : ∀ U : State, U.heap = H → s.WarmedH U.vm → cf_P D cT z E ad U := by
  intro U hU hw
  refine ⟨by rw [hU]; exact hW, ?_⟩
  rw [hU]
  exact cf_Tb.warm hw (hT.kept hS.2.1)
theorem cf_preV {D : va_G} {cT : Nat → ClassId} {z : Nat} {E : cf_T} {ad : cf_Ad} {s : State} {H : Heap} {locs : List Loc} (hT : cf_Tb D cT z s s.heap) (hS : va_S (fun q => z ≤ q) s.heap H locs) (hW : cf_W D z E ad H) {As : List Value} {C : String} {T : u_T} {N ci k i : Nat} {fs : List Value} (he : E k i = some (.inr (ci, fs))) (hc : vwCl[ci]? = some (C, T, N)) : PreV s H C (ad k i) (va_Pc (.ref (ad k i) :: As) (cf_P D cT z E ad)) As :=
  ⟨cf_P.blind, hW.recv hT.1 he hc, fun U hU hw => ⟨rfl, cf_P.at hT hS hW U hU hw⟩⟩
theorem cf_preS {D : va_G} {cT : Nat → ClassId} {z : Nat} {E : cf_T} {ad : cf_Ad} {s : State} {H : Heap} {locs : List Loc} (hT : cf_Tb D cT z s s.heap) (hS : va_S (fun q => z ≤ q) s.heap H locs) (hW : cf_W D z E ad H) {As : List Value} : PreS s H (va_Pc As (cf_P D cT z E ad)) As :=
  ⟨cf_P.blind, fun U hU hw => ⟨rfl, cf_P.at hT hS hW U hU hw⟩⟩
/-! ===== the contents of the roles ===== -/
def cf_len : Nat → Nat := fun i => match i with
  | 1 => 5
  | 2 => 5
  | 3 => 5
  | 4 => 20
  | 5 => 20
  | 6 => 5
  | 7 => 6
  | 8 => 6
  | 9 => 15
  | 10 => 3
  | 12 => 15
  | 13 => 15
  | 14 => 60
  | 16 => 60
  | 17 => 60
  | 18 => 60
  | 19 => 60
  | 20 => 60
  | 21 => 6
  | 22 => 6
  | _ => 0
abbrev cf_S : Type := Nat → Nat → Nat → Int32
abbrev cf_Pt : Type := Nat → Nat → Nat → Nat
/-- a row of references by numbers: 0 is null, n + 1 the object n -/
def cf_rw (f : Nat → Nat) (p : Nat → Nat) : Nat → Option Nat := fun j => if p j = 0 then none else some (f (p j - 1))
def cf_c (cT : Nat → ClassId) (nc ng : Nat) (O : Nat → Int64) (ad : cf_Ad) (k i : Nat) (r : Nat → Int32) (p : Nat → Nat) : Option va_E := match k with
  | 0 => if i < nc then some (.inr (0, [.int (nI i), .ref (ad 1 (p 0)), .ref (ad 7 i), .int (r 0)])) else none
  | 1 => if i < 5 then some (.inr (1, [.int (r 0), .int (r 1), .int (r 2), .int (r 3), .ref (ad 8 i), .ref (ad 9 i)])) else none
  | 2 => if i < ng then some (.inr (2, [.ref (ad 0 (p 0)), .int (r 0), .int (r 1), .ref (ad 3 (p 1))])) else none
  | 3 => if i < 6 then some (.inr (3, [.int (nI i), .int (r 0), .int (r 1)])) else none
  | 4 => if i < 3 then some (.inr (4, [.ref (ad 10 i), .int (r 0)])) else none
  | 5 => if i < 1 then some (.inr (5, [.ref (ad 11 0), .ref (ad 12 0), .ref (ad 13 0), .ref (ad 14 0), .ref (ad 15 0), .ref (ad 16 0), .int (r 0), .int (r 1), .int (r 2)])) else none
  | 6 => if i < 1 then some (.inr (6, [.int (r 0), .ref (ad 17 1), .ref (ad 17 2), .ref (ad 17 3), .ref (ad 17 4), .ref (ad 17 5), .ref (ad 17 6), .ref (ad 17 7), .ref (ad 17 8), .ref (ad 17 9), .ref (ad 17 10), .int (r 11), .ref (ad 17 12), .ref (ad 17 13), .ref (ad 17 14), .int (r 15), .ref (ad 17 16), .ref (ad 17 17), .ref (ad 17 18), .ref (ad 17 19), .ref (ad 17 20), .ref (ad 17 21), .ref (ad 17 22), .int (r 23)])) else none
  | 7 => if i < nc then some (.inl (cT 0, 4, .inl r)) else none
  | 8 => if i < 5 then some (.inl (cT 0, 4, .inl r)) else none
  | 9 => if i < 5 then some (.inl (cT 0, 4, .inl r)) else none
  | 10 => if i < 3 then some (.inl (cT 1, 5, .inl r)) else none
  | 11 => if i < 1 then some (.inl (cT 3, 5, .inr (.inr (.inr (.inr (fun j => some (ad 1 j))))))) else none
  | 12 => if i < 1 then some (.inl (cT 4, 6, .inr (.inr (.inr (.inr (fun j => some (ad 3 j))))))) else none
  | 13 => if i < 1 then some (.inl (cT 5, 3, .inr (.inr (.inr (.inr (fun j => some (ad 4 j))))))) else none
  | 14 => if i < 1 then some (.inl (cT 6, 15, .inr (.inr (.inr (.inr (cf_rw (ad 0) p)))))) else none
  | 15 => if i < 1 then some (.inl (cT 7, 60, .inr (.inr (.inr (.inr (cf_rw (ad 2) p)))))) else none
  | 16 => if i < 1 then some (.inl (cT 6, 6, .inr (.inr (.inr (.inr (cf_rw (ad 0) p)))))) else none
  | 17 => if 0 < cf_len i then some (.inl (cT 0, cf_len i, .inl r)) else none
  | 18 => if i < 1 then some (.inl (cT 2, 1, .inr (.inl O))) else none
  | _ => none
def cf_E (cT : Nat → ClassId) (nc ng : Nat) (S : cf_S) (P : cf_Pt) (O : Nat → Int64) (ad : cf_Ad) : cf_T := fun k i => cf_c cT nc ng O ad k i (S k i) (P k i)
section
variable {cT : Nat → ClassId} {nc ng : Nat} {S : cf_S} {P : cf_Pt} {O : Nat → Int64} {ad : cf_Ad} {i : Nat}
theorem cf_e0 (h : i < nc) : cf_E cT nc ng S P O ad 0 i = some (.inr (0, [.int (nI i), .ref (ad 1 (P 0 i 0)), .ref (ad 7 i), .int (S 0 i 0)])) := if_pos h
theorem cf_e1 (h : i < 5) : cf_E cT nc ng S P O ad 1 i = some (.inr (1, [.int (S 1 i 0), .int (S 1 i 1), .int (S 1 i 2), .int (S 1 i 3), .ref (ad 8 i), .ref (ad 9 i)])) := if_pos h
theorem cf_e2 (h : i < ng) : cf_E cT nc ng S P O ad 2 i = some (.inr (2, [.ref (ad 0 (P 2 i 0)), .int (S 2 i 0), .int (S 2 i 1), .ref (ad 3 (P 2 i 1))])) := if_pos h
theorem cf_e3 (h : i < 6) : cf_E cT nc ng S P O ad 3 i = some (.inr (3, [.int (nI i), .int (S 3 i 0), .int (S 3 i 1)])) := if_pos h
theorem cf_e4 (h : i < 3) : cf_E cT nc ng S P O ad 4 i = some (.inr (4, [.ref (ad 10 i), .int (S 4 i 0)])) := if_pos h
theorem cf_e5 : cf_E cT nc ng S P O ad 5 0 = some (.inr (5, [.ref (ad 11 0), .ref (ad 12 0), .ref (ad 13 0), .ref (ad 14 0), .ref (ad 15 0), .ref (ad 16 0), .int (S 5 0 0), .int (S 5 0 1), .int (S 5 0 2)])) := rfl
theorem cf_e6 : cf_E cT nc ng S P O ad 6 0 = some (.inr (6, [.int (S 6 0 0), .ref (ad 17 1), .ref (ad 17 2), .ref (ad 17 3), .ref (ad 17 4), .ref (ad 17 5), .ref (ad 17 6), .ref (ad 17 7), .ref (ad 17 8), .ref (ad 17 9), .ref (ad 17 10), .int (S 6 0 11), .ref (ad 17 12), .ref (ad 17 13), .ref (ad 17 14), .int (S 6 0 15), .ref (ad 17 16), .ref (ad 17 17), .ref (ad 17 18), .ref (ad 17 19), .ref (ad 17 20), .ref (ad 17 21), .ref (ad 17 22), .int (S 6 0 23)])) := rfl
theorem cf_e7 (h : i < nc) : cf_E cT nc ng S P O ad 7 i = some (.inl (cT 0, 4, .inl (S 7 i))) := if_pos h
theorem cf_e8 (h : i < 5) : cf_E cT nc ng S P O ad 8 i = some (.inl (cT 0, 4, .inl (S 8 i))) := if_pos h
theorem cf_e9 (h : i < 5) : cf_E cT nc ng S P O ad 9 i = some (.inl (cT 0, 4, .inl (S 9 i))) := if_pos h
theorem cf_e10 (h : i < 3) : cf_E cT nc ng S P O ad 10 i = some (.inl (cT 1, 5, .inl (S 10 i))) := if_pos h
theorem cf_e11 : cf_E cT nc ng S P O ad 11 0 = some (.inl (cT 3, 5, .inr (.inr (.inr (.inr (fun j => some (ad 1 j))))))) := rfl
theorem cf_e12 : cf_E cT nc ng S P O ad 12 0 = some (.inl (cT 4, 6, .inr (.inr (.inr (.inr (fun j => some (ad 3 j))))))) := rfl
theorem cf_e13 : cf_E cT nc ng S P O ad 13 0 = some (.inl (cT 5, 3, .inr (.inr (.inr (.inr (fun j => some (ad 4 j))))))) := rfl
theorem cf_e14 : cf_E cT nc ng S P O ad 14 0 = some (.inl (cT 6, 15, .inr (.inr (.inr (.inr (cf_rw (ad 0) (P 14 0))))))) := rfl
theorem cf_e15 : cf_E cT nc ng S P O ad 15 0 = some (.inl (cT 7, 60, .inr (.inr (.inr (.inr (cf_rw (ad 2) (P 15 0))))))) := rfl
theorem cf_e16 : cf_E cT nc ng S P O ad 16 0 = some (.inl (cT 6, 6, .inr (.inr (.inr (.inr (cf_rw (ad 0) (P 16 0))))))) := rfl
theorem cf_e17 (h : 0 < cf_len i) : cf_E cT nc ng S P O ad 17 i = some (.inl (cT 0, cf_len i, .inl (S 17 i))) := if_pos h
theorem cf_e18 : cf_E cT nc ng S P O ad 18 0 = some (.inl (cT 2, 1, .inr (.inl O))) := rfl
theorem cf_upSP (k i : Nat) (r : Nat → Int32) (p : Nat → Nat) {e : va_E} (he : cf_c cT nc ng O ad k i r p = some e) : cf_g2 (cf_E cT nc ng S P O ad) k i (some e) = cf_E cT nc ng (cf_g2 S k i r) (cf_g2 P k i p) O ad := by
  funext a b
  by_cases h : a = k ∧ b = i
  · obtain ⟨rfl, rfl⟩ := h
    rw [cf_g2s]
    show _ = cf_c cT nc ng O ad a b (cf_g2 S a b r a b) (cf_g2 P a b p a b)
    rw [cf_g2s, cf_g2s]
    exact he.symm
  · rw [cf_g2n h]
    show cf_c cT nc ng O ad a b (S a b) (P a b) = cf_c cT nc ng O ad a b (cf_g2 S k i r a b) (cf_g2 P k i p a b)
    rw [cf_g2n h, cf_g2n h]
theorem cf_upS (k i : Nat) (r : Nat → Int32) {e : va_E} (he : cf_c cT nc ng O ad k i r (P k i) = some e) : cf_g2 (cf_E cT nc ng S P O ad) k i (some e) = cf_E cT nc ng (cf_g2 S k i r) P O ad := by
  rw [cf_upSP k i r (P k i) he]
  congr 1
  funext a b
  by_cases h : a = k ∧ b = i
  · obtain ⟨rfl, rfl⟩ := h
    exact cf_g2s
  · exact cf_g2n h
theorem cf_upP (k i : Nat) (p : Nat → Nat) {e : va_E} (he : cf_c cT nc ng O ad k i (S k i) p = some e) : cf_g2 (cf_E cT nc ng S P O ad) k i (some e) = cf_E cT nc ng S (cf_g2 P k i p) O ad := by
  rw [cf_upSP k i (S k i) p he]
  congr 1
  funext a b
  by_cases h : a = k ∧ b = i
  · obtain ⟨rfl, rfl⟩ := h
    exact cf_g2s
  · exact cf_g2n h
theorem cf_upO {x : Int64} {j : Nat} (hj : j = 0) : cf_g2 (cf_E cT nc ng S P O ad) 18 0 (some (.inl (cT 2, 1, .inr (.inl (vp_updL O j x))))) = cf_E cT nc ng S P (vp_updL O 0 x) ad := by
  subst hj
  funext a b
  by_cases h : a = 18 ∧ b = 0
  · obtain ⟨rfl, rfl⟩ := h
    rw [cf_g2s]
    rfl
  · rw [cf_g2n h]
    show cf_c cT nc ng O ad a b (S a b) (P a b) = cf_c cT nc ng (vp_updL O 0 x) ad a b (S a b) (P a b)
    unfold cf_c
    split <;> first | rfl | skip
    rename_i h18
    by_cases hb : b = 0
    · exact absurd ⟨rfl, hb⟩ h
    · rw [if_neg (by omega), if_neg (by omega)]
end
theorem cf_rw0 {f p : Nat → Nat} {j : Nat} (h : p j = 0) : va_rf (cf_rw f p j) = .null := by simp [cf_rw, h, va_rf]
theorem cf_rwS {f p : Nat → Nat} {j n : Nat} (h : p j = n + 1) : va_rf (cf_rw f p j) = .ref (f n) := by simp [cf_rw, h, va_rf]
def cf_u {α : Type} (f : Nat → α) (k : Nat) (x : α) : Nat → α := fun j => if j = k then x else f j
theorem cf_us {α : Type} {f : Nat → α} {k : Nat} {x : α} : cf_u f k x k = x := if_pos rfl
theorem cf_un {α : Type} {f : Nat → α} {k j : Nat} {x : α} (h : j ≠ k) : cf_u f k x j = f j := if_neg h
theorem cf_rwU {f p : Nat → Nat} {j n : Nat} : va_up (cf_rw f p) j (some (f n)) = cf_rw f (cf_u p j (n + 1)) := by
  funext a
  by_cases h : a = j
  · subst h; simp [va_up, cf_rw, cf_u]
  · simp [va_up, cf_rw, cf_u, h]
theorem cf_rwN {f p : Nat → Nat} {j : Nat} : va_up (cf_rw f p) j none = cf_rw f (cf_u p j 0) := by
  funext a
  by_cases h : a = j
  · subst h; simp [va_up, cf_rw, cf_u]
  · simp [va_up, cf_rw, cf_u, h]
end
