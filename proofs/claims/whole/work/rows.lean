section
-- ===== PART A: goes FIRST, ahead of the names: the tables' words, and 'selects' of the private methods out of them =====
/-- a private method of a class that the tables say can be made, by its rows of tables_1 -/
def lw_okq (q : MethodName × Nat) : Prop := (q.1.cls ≠ "java/lang/invoke/MethodHandle" ∧ q.1.cls ≠ "java/lang/invoke/VarHandle") ∧ Cond.instantiable q.1.cls q.2 ∈ tables_1 ∧ Cond.privateMethod q.1 ∈ tables_1 ∧ Cond.instanceMethod q.1 ∈ tables_1
theorem lw_p0 : lw_okq (⟨"java/lang/Throwable", "fillInStackTrace", "(I)Ljava/lang/Throwable;"⟩, 6) := ⟨⟨by decide +kernel, by decide +kernel⟩, List.mem_of_getElem? (i := 186) (by decide +kernel), List.mem_of_getElem? (i := 184) (by decide +kernel), List.mem_of_getElem? (i := 185) (by decide +kernel)⟩
theorem lw_p1 : lw_okq (⟨"GameCafe", "copyNumbered", "(I)LGameCafe$Copy;"⟩, 9) := ⟨⟨by decide +kernel, by decide +kernel⟩, List.mem_of_getElem? (i := 16) (by decide +kernel), List.mem_of_getElem? (i := 317) (by decide +kernel), List.mem_of_getElem? (i := 318) (by decide +kernel)⟩
theorem lw_p2 : lw_okq (⟨"GameCafe", "freeTableFor", "(I)LGameCafe$Table;"⟩, 9) := ⟨⟨by decide +kernel, by decide +kernel⟩, List.mem_of_getElem? (i := 16) (by decide +kernel), List.mem_of_getElem? (i := 354) (by decide +kernel), List.mem_of_getElem? (i := 355) (by decide +kernel)⟩
theorem lw_p3 : lw_okq (⟨"GameCafe", "playableCopyOf", "(LGameCafe$Game;)LGameCafe$Copy;"⟩, 9) := ⟨⟨by decide +kernel, by decide +kernel⟩, List.mem_of_getElem? (i := 16) (by decide +kernel), List.mem_of_getElem? (i := 358) (by decide +kernel), List.mem_of_getElem? (i := 359) (by decide +kernel)⟩
theorem lw_p4 : lw_okq (⟨"GameCafe", "freeTeacherOf", "(I)LGameCafe$Teacher;"⟩, 9) := ⟨⟨by decide +kernel, by decide +kernel⟩, List.mem_of_getElem? (i := 16) (by decide +kernel), List.mem_of_getElem? (i := 366) (by decide +kernel), List.mem_of_getElem? (i := 367) (by decide +kernel)⟩
theorem lw_p5 : lw_okq (⟨"GameCafe", "groupNumbered", "(I)LGameCafe$Group;"⟩, 9) := ⟨⟨by decide +kernel, by decide +kernel⟩, List.mem_of_getElem? (i := 16) (by decide +kernel), List.mem_of_getElem? (i := 400) (by decide +kernel), List.mem_of_getElem? (i := 401) (by decide +kernel)⟩
theorem lw_p6 : lw_okq (⟨"GameCafe", "canSeatKnowing", "(ILGameCafe$Game;)Z"⟩, 9) := ⟨⟨by decide +kernel, by decide +kernel⟩, List.mem_of_getElem? (i := 16) (by decide +kernel), List.mem_of_getElem? (i := 503) (by decide +kernel), List.mem_of_getElem? (i := 504) (by decide +kernel)⟩
theorem lw_p7 : lw_okq (⟨"GameCafeModel", "isCopy", "(I)Z"⟩, 24) := ⟨⟨by decide +kernel, by decide +kernel⟩, List.mem_of_getElem? (i := 507) (by decide +kernel), List.mem_of_getElem? (i := 620) (by decide +kernel), List.mem_of_getElem? (i := 621) (by decide +kernel)⟩
theorem lw_p8 : lw_okq (⟨"GameCafeModel", "fails", "(I)I"⟩, 24) := ⟨⟨by decide +kernel, by decide +kernel⟩, List.mem_of_getElem? (i := 507) (by decide +kernel), List.mem_of_getElem? (i := 624) (by decide +kernel), List.mem_of_getElem? (i := 625) (by decide +kernel)⟩
theorem lw_p9 : lw_okq (⟨"GameCafeModel", "tableFor", "(I)I"⟩, 24) := ⟨⟨by decide +kernel, by decide +kernel⟩, List.mem_of_getElem? (i := 507) (by decide +kernel), List.mem_of_getElem? (i := 636) (by decide +kernel), List.mem_of_getElem? (i := 637) (by decide +kernel)⟩
theorem lw_p10 : lw_okq (⟨"GameCafeModel", "copyFor", "(I)I"⟩, 24) := ⟨⟨by decide +kernel, by decide +kernel⟩, List.mem_of_getElem? (i := 507) (by decide +kernel), List.mem_of_getElem? (i := 640) (by decide +kernel), List.mem_of_getElem? (i := 641) (by decide +kernel)⟩
theorem lw_p11 : lw_okq (⟨"GameCafeModel", "playable", "(I)Z"⟩, 24) := ⟨⟨by decide +kernel, by decide +kernel⟩, List.mem_of_getElem? (i := 507) (by decide +kernel), List.mem_of_getElem? (i := 644) (by decide +kernel), List.mem_of_getElem? (i := 645) (by decide +kernel)⟩
theorem lw_p12 : lw_okq (⟨"GameCafeModel", "teacherFor", "(I)I"⟩, 24) := ⟨⟨by decide +kernel, by decide +kernel⟩, List.mem_of_getElem? (i := 507) (by decide +kernel), List.mem_of_getElem? (i := 648) (by decide +kernel), List.mem_of_getElem? (i := 649) (by decide +kernel)⟩
theorem lw_p13 : lw_okq (⟨"GameCafeModel", "isThere", "(I)Z"⟩, 24) := ⟨⟨by decide +kernel, by decide +kernel⟩, List.mem_of_getElem? (i := 507) (by decide +kernel), List.mem_of_getElem? (i := 656) (by decide +kernel), List.mem_of_getElem? (i := 657) (by decide +kernel)⟩
def lw_privs_1 : List (MethodName × Nat) := [(⟨"java/lang/Throwable", "fillInStackTrace", "(I)Ljava/lang/Throwable;"⟩, 6), (⟨"GameCafe", "copyNumbered", "(I)LGameCafe$Copy;"⟩, 9), (⟨"GameCafe", "freeTableFor", "(I)LGameCafe$Table;"⟩, 9), (⟨"GameCafe", "playableCopyOf", "(LGameCafe$Game;)LGameCafe$Copy;"⟩, 9), (⟨"GameCafe", "freeTeacherOf", "(I)LGameCafe$Teacher;"⟩, 9), (⟨"GameCafe", "groupNumbered", "(I)LGameCafe$Group;"⟩, 9), (⟨"GameCafe", "canSeatKnowing", "(ILGameCafe$Game;)Z"⟩, 9), (⟨"GameCafeModel", "isCopy", "(I)Z"⟩, 24), (⟨"GameCafeModel", "fails", "(I)I"⟩, 24), (⟨"GameCafeModel", "tableFor", "(I)I"⟩, 24), (⟨"GameCafeModel", "copyFor", "(I)I"⟩, 24), (⟨"GameCafeModel", "playable", "(I)Z"⟩, 24), (⟨"GameCafeModel", "teacherFor", "(I)I"⟩, 24), (⟨"GameCafeModel", "isThere", "(I)Z"⟩, 24)]
theorem lw_r1 : ∀ q ∈ lw_privs_1, lw_okq q := List.forall_mem_cons.mpr ⟨lw_p0, List.forall_mem_cons.mpr ⟨lw_p1, List.forall_mem_cons.mpr ⟨lw_p2, List.forall_mem_cons.mpr ⟨lw_p3, List.forall_mem_cons.mpr ⟨lw_p4, List.forall_mem_cons.mpr ⟨lw_p5, List.forall_mem_cons.mpr ⟨lw_p6, List.forall_mem_cons.mpr ⟨lw_p7, List.forall_mem_cons.mpr ⟨lw_p8, List.forall_mem_cons.mpr ⟨lw_p9, List.forall_mem_cons.mpr ⟨lw_p10, List.forall_mem_cons.mpr ⟨lw_p11, List.forall_mem_cons.mpr ⟨lw_p12, List.forall_mem_cons.mpr ⟨lw_p13, fun _ h => absurd h List.not_mem_nil⟩⟩⟩⟩⟩⟩⟩⟩⟩⟩⟩⟩⟩⟩
def lw_privs : List (MethodName × Nat) := lw_privs_1
def lw_tbl : List Cond := k2_sels lw_privs ++ tables_1
theorem lw_privs_ok : ∀ q ∈ lw_privs, lw_okq q := lw_r1
end
section
/-! ===== BEGIN words of one list among another's, by their places ===== -/
theorem goodIn_r {big : List Cond} (ws : List Cond) (ps : List Nat) (hp : ws = ps.filterMap (fun i => big[i]?)) (h : ws.all goodWord = true) : GoodIn big ws := by
  intro w hw
  have h1 := List.all_eq_true.mp h w hw
  rw [hp] at hw
  obtain ⟨i, -, hi⟩ := List.mem_filterMap.mp hw
  have hm : w ∈ big := by first | exact List.mem_of_getElem? hi | exact List.getElem?_mem hi
  exact ⟨hm, good_of_word h1⟩
theorem goodIn_app {big a b : List Cond} (ha : GoodIn big a) (hb : GoodIn big b) : GoodIn big (a ++ b) := fun w h => (List.mem_append.mp h).elim (ha w) (hb w)
theorem goodIn_ca {big a b : List Cond} {c : Cond} (ha : GoodIn big (c :: a)) (hb : GoodIn big b) : GoodIn big (c :: (a ++ b)) := fun w h => (List.mem_cons.mp h).elim (fun e => ha w (List.mem_cons.mpr (Or.inl e))) (fun h => (List.mem_append.mp h).elim (fun h => ha w (List.mem_cons.mpr (Or.inr h))) (hb w))
theorem goodIn_sub {big ws : List Cond} (hm : ∀ w ∈ ws, w ∈ big) (h : ws.all goodWord = true) : GoodIn big ws := fun w hw => ⟨hm w hw, good_of_word (List.all_eq_true.mp h w hw)⟩
/-! ===== END ===== -/

/-! ===== BEGIN exceptions that leave a method, and their catching by the caller (launches without stack traces) ===== -/
section VXA
/-! The laws vx_back, vx_callV, vx_callS, vx_callSW, vx_throw0, vx_throwS follow proofs of the library, with one case more: JvmDerived/Free/Laws.lean (Back.of_free), Shelf42/LK1.lean (callV, callS), Shelf/KitTraced.lean (throwNew0V, throwNewS). -/
/-- where a method has thrown q: the class by its name, the cell, what was written, the world -/
def vx_T (XC : String → State → State → Prop) (st : State) (q : Addr) (t : State) (mc ms : Nat) (free : Addr → Prop) : Prop :=
  ∃ (E : String) (ce : Cell) (L : List Loc), XC E st t ∧ t.heap[q]? = some ce ∧ ce.vm = .none ∧ st.vm.findClass E = some ce.cls ∧ st.WarmedH t.vm ∧ st.sameButNew ({ t with vm := st.vm } : State) L mc ms ∧ ∀ z ∈ L, free z.base
def vx_Q (Qc : Array Value → State → Outcome → State → Prop) (XC : String → State → State → Prop) (mc ms : Nat) (free : Addr → Prop) : Array Value → State → Outcome → State → Prop := fun a st o t =>
  (Qc a st o t ∧ ∃ L, FrameEnd st o t L mc ms ∧ ∀ q ∈ L, free q.base) ∨ ∃ q, o = .threw q ∧ vx_T XC st q t mc ms free
/-- a callee that returns or throws -/
def vx_Met (l : Launch) (y : MethodName) (ws : List Cond) (rm : Room) (Pc : Array Value → State → Prop) (Qc : Array Value → State → Outcome → State → Prop) (XC : String → State → State → Prop) (mc ms : Nat) (free : Addr → Prop) : Prop :=
  MetFree l y (headSpec ws rm) Pc (fun _ _ _ _ _ => True) (vx_Q Qc XC mc ms free)
def vx_Post (XC : String → State → State → Prop) (mc ms : Nat) (free : Addr → Prop) : Pt → Array Value → Addr → Pt → Prop := fun A a q B =>
  ∃ (g : JFrame) (mk : MethodId) (t : State) (L : List Loc) (E : String) (ce : Cell), B.U.heap = t.heap ∧ B.U.vm = t.vm ∧ XC E (A.U.calling g mk a) t ∧ t.heap[q]? = some ce ∧ ce.vm = .none ∧ A.U.vm.findClass E = some ce.cls ∧ B.locs = A.locs ++ L ∧ (∀ z ∈ L, free z.base) ∧ B.cells = A.cells + mc ∧ B.slots = A.slots + ms
def vx_Back (l : Launch) (R : Room) (p : Program) (e : Env) (below : List Frame) (s : State) (sargs : Array Value) (y : MethodName) (len W9 : Nat)
    (Pre : Pt → Array Value → Prop) (Post : Pt → Array Value → Option Value → Pt → Prop) (PostX : Pt → Array Value → Addr → Pt → Prop) : Prop :=
  ∀ (m : MethodId) (meth : Method) (c : Code) (A : Pt) (g : JFrame) (ig : Instr) (mk : MethodId) (a : Array Value),
    Stand p l e R s m sargs below meth c A.U A.locs A.cells A.slots → g.method = m → g.locals.size = c.maxLocals → decode c.code g.pc = .ok (ig, len) →
    2 * g.monitorRoom + (g.stack.map fun v => v.category).sum ≤ W9 → A.U.methodNamed? y = some mk → Pre A a →
    (∃ (v : Option Value) (B : Pt), Stand p l e R s m sargs below meth c B.U B.locs B.cells B.slots ∧ Post A a v B ∧
      Steps p.tables e below (doInvoke e (A.U.setTop g) [] mk a).1 (B.U.setTop { g with pc := g.pc + len, stack := v.toList ++ g.stack })) ∨
    (∃ (q : Addr) (B : Pt), Stand p l e R s m sargs below meth c B.U B.locs B.cells B.slots ∧ PostX A a q B ∧
      Steps p.tables e below (doInvoke e (A.U.setTop g) [] mk a).1 ((B.U.setTop g).pushFrame (.throwing q)))
section Payer
variable {l : Launch} {R : Room} {p : Program} {e : Env} {below : List Frame} {s : State} {sargs : Array Value} {y : MethodName} {len W9 : Nat}
theorem vx_back {ws : List Cond} {rm : Room} {Pc : Array Value → State → Prop} {Qc : Array Value → State → Outcome → State → Prop} {XC : String → State → State → Prop} {mc ms : Nat} {free : Addr → Prop} {bytes : ByteArray} {maxL : Nat} {ret : Option FieldType}
    (hM : vx_Met l y ws rm Pc Qc XC mc ms free) (hblind : FrameBlind Pc) (hrc : rm.cells = mc) (hrs : rm.slots = ms)
    (hframes : rm.frames + 1 ≤ R.frames) (hlocals : W9 + (maxL + 11) + rm.locals ≤ R.locals)
    (hws : ∀ w ∈ ws, ∀ a' U, s.WarmedH U.vm → w.before a' U = true) (hcode : Cond.code y bytes maxL ret ∈ ws) (hinit : ∀ a' U, s.WarmedH U.vm → (Cond.initialized y.cls).before a' U = true) :
    vx_Back l R p e below s sargs y len W9 (PreOf R mc ms Pc) (PostOf Qc mc ms free) (vx_Post XC mc ms free) := by
  intro m meth c A g ig mk a X hg hsize hdg hW hn hp
  have h1 : (headSpec ws rm).pre.before a A.U = true := atoms_intro fun w hw => hws w hw _ _ X.warmed
  have h2 : (Cond.code y bytes maxL ret).before a A.U = true := hws _ hcode _ _ X.warmed
  have h3 : (Cond.initialized y.cls).before a A.U = true := hinit _ _ X.warmed
  have h4 : A.cells + (headSpec ws rm).room.cells ≤ R.cells := by rw [show (headSpec ws rm).room.cells = mc from hrc]; exact hp.1
  have h5 : A.slots + (headSpec ws rm).room.slots ≤ R.slots := by rw [show (headSpec ws rm).room.slots = ms from hrs]; exact hp.2.1
  have hPc : Pc a (A.U.calling g mk a) := hblind _ _ _ _ hp.2.2
  obtain ⟨U, Ls, c0, s0⟩ := A
  dsimp only [Pt.U, Pt.locs, Pt.cells, Pt.slots] at h1 h2 h3 h4 h5 X hn hPc ⊢
  obtain ⟨methY, cY, hmY, hcY, -, hlY, -, -, -, -⟩ := Cond.code_spec hn h2
  obtain ⟨kY, hkY, -⟩ := className_of_methodNamed hn
  have hinitY : kY.init = .initialized := Cond.initialized_spec (findClass_of_methodNamed hn) hkY h3
  have h : At U g.method c below := by rw [hg]; exact X.here
  have hlocals9 : W9 + (maxL + 11) + (headSpec ws rm).room.locals ≤ R.locals := hlocals
  have happ : (headSpec ws rm).appliesLoose y e.platform (U.calling g mk a) = true :=
    Spec.appliesLoose_calling (g := g) h hdg hn hkY hinitY
      (X.room_calling (g := g) (R' := (headSpec ws rm).room) hsize hmY hcY hframes (by rw [hlY]; omega) h4 h5) h1
  obtain ⟨mid, hmid⟩ := h.above
  have hfr : (U.setTop g).frames = (.java g :: mid) ++ below := by rw [State.frames_setTop' g h.top, hmid]; rfl
  obtain ⟨o, s₂, hsteps, -, hend, hq⟩ := Steps.callFree hM p X.admits X.cas X.clock (acts := []) hfr happ hPc trivial
  have hq' : vx_Q Qc XC mc ms free a (U.calling g mk a) o s₂ := hq
  rw [State.frames_setTop' g h.top] at hend
  obtain ⟨g₀, hg0⟩ := Option.isSome_iff_exists.mp h.top
  obtain ⟨r, hr⟩ := State.topJava?_eq_some.mp hg0
  have hr' : (({ U with heap := s₂.heap, slotsUsed := s₂.slotsUsed } : State).setVm s₂.vm).frames = .java g₀ :: r := hr
  rcases hq' with ⟨hqc, L, hfe, hL⟩ | ⟨q, rfl, E, ce, L, hx, hce, hcv, hcl, hW₂, hsm, hL⟩
  · obtain ⟨⟨v, rfl⟩, hW₂, e2, q2, q3, q4, q5, q6⟩ := id hfe
    have e3 : s₂ = ({ (U.calling g mk a).setFrames s₂.frames with heap := s₂.heap, slotsUsed := s₂.slotsUsed } : State).setVm s₂.vm := by
      have : s₂ = ({ s₂ with vm := (U.calling g mk a).vm } : State).setVm s₂.vm := rfl
      rw [e2] at this
      exact this
    obtain ⟨c₂, i₂, len₂, hc₂, hd₂, hf₂⟩ := hend
    have hW' : U.WarmedH s₂.vm := hW₂
    have hcc : c₂ = c := by
      have h1 : s₂.code? g.method = U.code? g.method := by
        rw [State.code?_eq, State.code?_eq, hW'.alike.method?]
      exact Option.some.inj (hc₂.symm.trans (h1.trans h.code))
    subst hcc
    have hlen : len₂ = len := by rw [hdg] at hd₂; cases hd₂; rfl
    subst hlen
    have hs₂ : s₂ = (({ U with heap := s₂.heap, slotsUsed := s₂.slotsUsed } : State).setVm s₂.vm).setTop { g with pc := g.pc + len₂, stack := v.toList ++ g.stack } := by
      refine e3.trans ?_
      rw [hf₂, State.calling_eq h.top, State.setFrames_setFrames, State.setTop_of_frames _ hr', hr]
      rfl
    have hsame : U.sameButNew ({ U with heap := s₂.heap, slotsUsed := s₂.slotsUsed } : State) L mc ms := by
      refine ⟨?_, q2, q3, q4, q5, q6⟩
      obtain ⟨t, ht, -⟩ := State.frames_cons hr
      show ({ U with heap := s₂.heap, slotsUsed := s₂.slotsUsed } : State) = { U.setFrames U.frames with heap := s₂.heap, slotsUsed := s₂.slotsUsed }
      rw [State.setFrames_self ht]
    subst hg
    refine Or.inl ⟨v, ⟨(({ U with heap := s₂.heap, slotsUsed := s₂.slotsUsed } : State).setVm s₂.vm), Ls ++ L, c0 + mc, s0 + ms⟩,
      ⟨X.admits, X.cas, X.clock, X.frames, X.room, X.hears, X.method, X.code, (X.here.setHeapUsed s₂.heap s₂.slotsUsed).setVm hW'.alike, X.tail, State.WarmedH.trans X.warmed hW', X.limits, X.bytes, X.same.trans (hsame.setVm s.vm)⟩,
      ⟨g, mk, s₂, L, rfl, rfl, hqc, rfl, hL, rfl, rfl⟩, ?_⟩
    show Steps p.tables e below _ ((({ U with heap := s₂.heap, slotsUsed := s₂.slotsUsed } : State).setVm s₂.vm).setTop { g with pc := g.pc + len₂, stack := v.toList ++ g.stack })
    rw [← hs₂]
    exact hsteps
  · obtain ⟨e2, q2, q3, q4, q5, q6⟩ := id hsm
    have e3 : s₂ = ({ (U.calling g mk a).setFrames s₂.frames with heap := s₂.heap, slotsUsed := s₂.slotsUsed } : State).setVm s₂.vm := by
      have : s₂ = ({ s₂ with vm := (U.calling g mk a).vm } : State).setVm s₂.vm := rfl
      rw [e2] at this
      exact this
    have hf₂ : s₂.frames = .throwing q :: .java g :: U.frames.tail := hend
    have hW' : U.WarmedH s₂.vm := hW₂
    have hs₂ : s₂ = ((({ U with heap := s₂.heap, slotsUsed := s₂.slotsUsed } : State).setVm s₂.vm).setTop g).pushFrame (.throwing q) := by
      refine e3.trans ?_
      rw [hf₂, State.calling_eq h.top, State.setFrames_setFrames, State.pushFrame, State.frames_setTop _ hr', State.setTop_of_frames _ hr', State.setFrames_setFrames, hr]
      rfl
    have hsame : U.sameButNew ({ U with heap := s₂.heap, slotsUsed := s₂.slotsUsed } : State) L mc ms := by
      refine ⟨?_, q2, q3, q4, q5, q6⟩
      obtain ⟨t, ht, -⟩ := State.frames_cons hr
      show ({ U with heap := s₂.heap, slotsUsed := s₂.slotsUsed } : State) = { U.setFrames U.frames with heap := s₂.heap, slotsUsed := s₂.slotsUsed }
      rw [State.setFrames_self ht]
    subst hg
    refine Or.inr ⟨q, ⟨(({ U with heap := s₂.heap, slotsUsed := s₂.slotsUsed } : State).setVm s₂.vm), Ls ++ L, c0 + mc, s0 + ms⟩,
      ⟨X.admits, X.cas, X.clock, X.frames, X.room, X.hears, X.method, X.code, (X.here.setHeapUsed s₂.heap s₂.slotsUsed).setVm hW'.alike, X.tail, State.WarmedH.trans X.warmed hW', X.limits, X.bytes, X.same.trans (hsame.setVm s.vm)⟩,
      ⟨g, mk, s₂, L, E, ce, rfl, rfl, hx, hce, hcv, hcl, rfl, hL, rfl, rfl⟩, ?_⟩
    show Steps p.tables e below _ (((({ U with heap := s₂.heap, slotsUsed := s₂.slotsUsed } : State).setVm s₂.vm).setTop g).pushFrame (.throwing q))
    rw [← hs₂]
    exact hsteps
end Payer
section Calls
variable {p : Program} {l : Launch} {e : Env} {R : Room} {s : State} {m : MethodId} {args : Array Value} {below : List Frame} {meth : Method} {c : Code} {T : State} {locs : List Loc} {cells slots : Nat}
theorem vx_callV (X : Stand p l e R s m args below meth c T locs cells slots) (hexec : p.tables.exec = Jvm.exec) {own C : String} {index : Nat} {y : MethodName} {bytes : ByteArray} {maxL : Nat} {ret : Option FieldType}
    (hown : s.vm.findClass own = some m.cls) (hlink : (Cond.methodLink own index y).before args s = true) (hinst : (Cond.instanceMethod y).before args s = true) (hsel : (Cond.selects C y y).before args s = true)
    (hcode : (Cond.code y bytes maxL ret).before args s = true) (hy : y.cls ≠ "java/lang/invoke/MethodHandle" ∧ y.cls ≠ "java/lang/invoke/VarHandle")
    {W9 : Nat} {Pre : Pt → Array Value → Prop} {Post : Pt → Array Value → Option Value → Pt → Prop} {PostX : Pt → Array Value → Addr → Pt → Prop} (hK : vx_Back l R p e below s args y 3 W9 Pre Post PostX)
    {b : Addr} {cellB : Cell} (hcell : T.heap[b]? = some cellB) (hobj : cellB.vm.isStatics = false) (hcls : s.vm.findClass C = some cellB.cls)
    {g : JFrame} (hg : g.method = m) (hsize : g.locals.size = c.maxLocals) {argsL rest : List Value} (hlen : ∀ sig, parseMethodDescriptor y.desc = some sig → argsL.length = sig.parameters.length)
    (hstack : g.stack = argsL.reverse ++ .ref b :: rest) (hW : 2 * g.monitorRoom + (rest.map fun v => v.category).sum ≤ W9) (hdg : decode c.code g.pc = .ok (.invokevirtual index, 3))
    (hpre : ∀ vm₁, s.WarmedH vm₁ → Pre ⟨T.setVm vm₁, locs, cells, slots⟩ (Value.ref b :: argsL).toArray) :
    (∃ (v : Option Value) (vm₁ : Vm) (B : Pt), s.WarmedH vm₁ ∧ Stand p l e R s m args below meth c B.U B.locs B.cells B.slots ∧ Post ⟨T.setVm vm₁, locs, cells, slots⟩ (Value.ref b :: argsL).toArray v B ∧
      ∀ target, Steps p.tables e below (B.U.setTop { g with pc := g.pc + 3, stack := v.toList ++ rest }) target → Steps p.tables e below (T.setTop g) target) ∨
    (∃ (q : Addr) (vm₁ : Vm) (B : Pt), s.WarmedH vm₁ ∧ Stand p l e R s m args below meth c B.U B.locs B.cells B.slots ∧ PostX ⟨T.setVm vm₁, locs, cells, slots⟩ (Value.ref b :: argsL).toArray q B ∧
      Steps p.tables e below (T.setTop g) ((B.U.setTop { g with stack := rest }).pushFrame (.throwing q))) := by
  obtain ⟨mk, methM, hnamed, hmethM, hstM, habM⟩ := Cond.instanceMethod_spec hinst
  obtain ⟨methM', cM, hmethM', -, -, -, -, -, -, hsigM⟩ := Cond.code_spec hnamed hcode
  cases hmethM.symm.trans hmethM'
  obtain ⟨c2, r2, m2, q1, q2, q3, q4, kP, hkP, hkPi⟩ := Cond.selects_spec hsel
  cases hcls.symm.trans q1
  cases (State.methodFound?_of_named hnamed hy).symm.trans q2
  cases hnamed.symm.trans q3
  have hselP : selectMethod e.platform s.vm cellB.cls mk = .method mk := by rw [Launch.admits_selectMethod X.admits]; exact q4
  obtain ⟨vm₁, X₁, hstep₁⟩ := X.invokevirtual hexec hown hlink hnamed hmethM hstM hkP hkPi hy (a := b) (cell := cellB) hcell
    (fun z h => by rw [h] at hobj; cases hobj) hselP hmethM habM hkP hkPi (g := g) hg (argsL := argsL) (rest := rest) (hlen _ hsigM) hstack hdg
  rcases hK m meth c ⟨T.setVm vm₁, locs, cells, slots⟩ { g with stack := rest } (.invokevirtual index) mk (Value.ref b :: argsL).toArray X₁ hg hsize hdg hW (X₁.named hnamed) (hpre vm₁ X₁.warmed) with ⟨v, B, X', hpost, hsteps⟩ | ⟨q, B, X', hpost, hsteps⟩
  · exact Or.inl ⟨v, vm₁, B, X₁.warmed, X', hpost, fun target h => hstep₁ _ fun acts => by rw [doInvoke_state]; exact hsteps.trans h⟩
  · exact Or.inr ⟨q, vm₁, B, X₁.warmed, X', hpost, hstep₁ _ fun acts => by rw [doInvoke_state]; exact hsteps⟩
theorem vx_callS (X : Stand p l e R s m args below meth c T locs cells slots) (hexec : p.tables.exec = Jvm.exec) {own : String} {index : Nat} {y : MethodName} {bytes : ByteArray} {maxL : Nat} {ret : Option FieldType}
    (hown : s.vm.findClass own = some m.cls) (hlink : (Cond.methodLink own index y).before args s = true) (hstat : (Cond.static y).before args s = true) (hinit : (Cond.initialized y.cls).before args s = true)
    (hcode : (Cond.code y bytes maxL ret).before args s = true) (hy : y.cls ≠ "java/lang/invoke/MethodHandle" ∧ y.cls ≠ "java/lang/invoke/VarHandle")
    {W9 : Nat} {Pre : Pt → Array Value → Prop} {Post : Pt → Array Value → Option Value → Pt → Prop} {PostX : Pt → Array Value → Addr → Pt → Prop} (hK : vx_Back l R p e below s args y 3 W9 Pre Post PostX)
    {g : JFrame} (hg : g.method = m) (hsize : g.locals.size = c.maxLocals) {argsL rest : List Value} (hlen : ∀ sig, parseMethodDescriptor y.desc = some sig → argsL.length = sig.parameters.length)
    (hstack : g.stack = argsL.reverse ++ rest) (hW : 2 * g.monitorRoom + (rest.map fun v => v.category).sum ≤ W9) (hdg : decode c.code g.pc = .ok (.invokestatic index, 3))
    (hpre : ∀ vm₁, s.WarmedH vm₁ → Pre ⟨T.setVm vm₁, locs, cells, slots⟩ argsL.toArray) :
    (∃ (v : Option Value) (vm₁ : Vm) (B : Pt), s.WarmedH vm₁ ∧ Stand p l e R s m args below meth c B.U B.locs B.cells B.slots ∧ Post ⟨T.setVm vm₁, locs, cells, slots⟩ argsL.toArray v B ∧
      ∀ target, Steps p.tables e below (B.U.setTop { g with pc := g.pc + 3, stack := v.toList ++ rest }) target → Steps p.tables e below (T.setTop g) target) ∨
    (∃ (q : Addr) (vm₁ : Vm) (B : Pt), s.WarmedH vm₁ ∧ Stand p l e R s m args below meth c B.U B.locs B.cells B.slots ∧ PostX ⟨T.setVm vm₁, locs, cells, slots⟩ argsL.toArray q B ∧
      Steps p.tables e below (T.setTop g) ((B.U.setTop { g with stack := rest }).pushFrame (.throwing q))) := by
  obtain ⟨mk, hnamed⟩ := Cond.code_named hcode
  obtain ⟨methM, cM, hmethM, -, -, -, -, -, -, hsigM⟩ := Cond.code_spec hnamed hcode
  have hstatic : methM.isStatic = true := Cond.static_spec hnamed hmethM hstat
  obtain ⟨kP, hkP, -⟩ := className_of_methodNamed hnamed
  have hinitP : kP.init = .initialized := Cond.initialized_spec (findClass_of_methodNamed hnamed) hkP hinit
  obtain ⟨vm₁, X₁, hstep₁⟩ := X.invokestatic hexec hown hlink hnamed hmethM hstatic hkP hinitP hy (g := g) hg (argsL := argsL) (rest := rest) (hlen _ hsigM) hstack hdg
  rcases hK m meth c ⟨T.setVm vm₁, locs, cells, slots⟩ { g with stack := rest } (.invokestatic index) mk argsL.toArray X₁ hg hsize hdg hW (X₁.named hnamed) (hpre vm₁ X₁.warmed) with ⟨v, B, X', hpost, hsteps⟩ | ⟨q, B, X', hpost, hsteps⟩
  · exact Or.inl ⟨v, vm₁, B, X₁.warmed, X', hpost, fun target h => hstep₁ _ fun acts => by rw [doInvoke_state]; exact hsteps.trans h⟩
  · exact Or.inr ⟨q, vm₁, B, X₁.warmed, X', hpost, hstep₁ _ fun acts => by rw [doInvoke_state]; exact hsteps⟩
end Calls
theorem vx_cls {s : State} {T : State} {vm₁ : Vm} {E : String} {k : ClassId} (hW : s.WarmedH vm₁) (h : (T.setVm vm₁).vm.findClass E = some k) : s.vm.findClass E = some k := by
  have h1 : vm₁.findClass E = some k := h
  rw [hW.alike.findClass] at h1
  exact h1
/-- the method's frame g, with q thrown over it -/
def vx_W (p : Program) (l : Launch) (e : Env) (R : Room) (s : State) (m : MethodId) (args : Array Value) (below : List Frame) (meth : Method) (c : Code) (H : Heap) (locs : List Loc) (cells slots : Nat) (Q : State → Prop) (g : JFrame) (q : Addr) : Prop :=
  ∀ T : State, T.heap = H → Stand p l e R s m args below meth c T locs cells slots → ∃ t, Steps p.tables e below ((T.setTop g).pushFrame (.throwing q)) t ∧ Q t
def vx_Run (p : Program) (l : Launch) (e : Env) (R : Room) (s : State) (m : MethodId) (args : Array Value) (below : List Frame) (meth : Method) (c : Code) (H : Heap) (locs : List Loc) (cells slots mc ms : Nat) (g : JFrame) (rest : List Value) (Qa : State → Outcome → State → Prop) (XC : String → State → State → Prop) (free : Addr → Prop) : Prop :=
  ∀ T : State, T.heap = H → Stand p l e R s m args below meth c T locs cells slots →
    (∃ (v : Option Value) (st₀ t T' : State) (L : List Loc), st₀.heap = H ∧ Stand p l e R s m args below meth c T' (locs ++ L) (cells + mc) (slots + ms) ∧ (∀ q ∈ L, free q.base) ∧ T'.heap = t.heap ∧ T'.vm = t.vm ∧ Qa st₀ (.returned v) t ∧
      Goes p e below T g T' { g with pc := g.pc + 3, stack := v.toList ++ rest }) ∨
    (∃ (q : Addr) (st₀ t T' : State) (L : List Loc) (E : String) (ce : Cell), st₀.heap = H ∧ Stand p l e R s m args below meth c T' (locs ++ L) (cells + mc) (slots + ms) ∧ (∀ z ∈ L, free z.base) ∧ T'.heap = t.heap ∧ T'.vm = t.vm ∧ XC E st₀ t ∧ t.heap[q]? = some ce ∧ ce.vm = .none ∧ s.vm.findClass E = some ce.cls ∧
      Steps p.tables e below (T.setTop g) ((T'.setTop { g with stack := rest }).pushFrame (.throwing q)))
def vx_X {S : Type} (px : S → Prop) (B : String → S → State → Prop) (A : Nat → Prop) : String → State → State → Prop := fun E st t => ∃ u : S, px u ∧ B E u t ∧ va_F A st t
section Runs
variable {p : Program} {l : Launch} {e : Env} {R : Room} {s : State} {m : MethodId} {args : Array Value} {below : List Frame} {meth : Method} {c : Code} {H : Heap} {locs : List Loc} {cells slots : Nat}
variable {y : MethodName} {bytes cc : ByteArray} {maxL nL mc ms n index : Nat} {ret : Option FieldType} {ws : List Cond} {rm : Room} {Pc : Array Value → State → Prop} {Qc : Array Value → State → Outcome → State → Prop} {XC : String → State → State → Prop} {free : Addr → Prop} {Ts : List Cond} {own C : String} {b : Addr} {As rest : List Value} {g : JFrame}
theorem vx_callBack (cb : CallB R s args own index y bytes maxL ret ws rm mc ms n) (hM : vx_Met l y ws rm Pc Qc XC mc ms free) (hbl : FrameBlind Pc) : vx_Back l R p e below s args y 3 8 (PreOf R mc ms Pc) (PostOf Qc mc ms free) (vx_Post XC mc ms free) := by
  obtain ⟨hrc, hrs, hfr, hlo, hws, hcw, -, hini, -⟩ := cb
  exact vx_back (bytes := bytes) (maxL := maxL) (ret := ret) hM hbl hrc hrs hfr hlo hws hcw (fun a' U hW => word_at hW (Or.inl (by first | rfl | simp [Cond.onTables, Cond.keeps, Cond.steady])) hini)
theorem vx_runV (S : CallFix p m c cc nL s args Ts own) (hM : vx_Met l y ws rm Pc Qc XC mc ms free) (cw : CallW R s args own C index y bytes maxL ret ws rm mc ms n) (hp : PreV s H C b Pc As)
    (hg : g.method = m) (hn : As.length = n) (hsize : g.locals.size = nL) (hstack : g.stack = As.reverse ++ .ref b :: rest) (hW : 2 * g.monitorRoom + (rest.map fun v => v.category).sum ≤ 8) (hdg : decode cc g.pc = .ok (.invokevirtual index, 3)) (hf : cells + mc ≤ R.cells ∧ slots + ms ≤ R.slots) :
    vx_Run p l e R s m args below meth c H locs cells slots mc ms g rest (Qc (Value.ref b :: As).toArray) XC free := by
  have hK : vx_Back l R p e below s args y 3 8 (PreOf R mc ms Pc) (PostOf Qc mc ms free) (vx_Post XC mc ms free) := vx_callBack cw.1 hM hp.1
  obtain ⟨⟨-, -, -, -, -, -, hcode, -, hy, hlen, hl⟩, hin, hse⟩ := cw
  obtain ⟨hx, hb, hml, ho, -⟩ := S
  obtain ⟨-, ⟨cellB, hcB, hoB, hclB⟩, hPc⟩ := hp
  intro T hT X
  rcases vx_callV X hx (C := C) (bytes := bytes) (maxL := maxL) (ret := ret) ho hl hin hse hcode hy hK (by rw [hT]; exact hcB) hoB hclB hg (hsize.trans hml.symm) (argsL := As) (rest := rest) (fun sig h => hn.trans (hlen sig h)) hstack hW (by rw [hb]; exact hdg)
    (fun vm₁ hW₁ => ⟨hf.1, hf.2, hPc (T.setVm vm₁) hT hW₁⟩) with ⟨v, vm₁, ⟨U', l2, c2, s2⟩, hW₁, X', ⟨g', mk, t, L, e1, e2, hq, h1, hL, h2, h3⟩, st⟩ | ⟨q, vm₁, ⟨U', l2, c2, s2⟩, hW₁, X', ⟨g', mk, t, L, E, ce, e1, e2, hq, hce, hcv, hcl, h1, hL, h2, h3⟩, st⟩
  · dsimp only [Pt.U, Pt.locs, Pt.cells, Pt.slots] at X' e1 e2 h1 h2 h3 st
    subst h1; subst h2; subst h3
    exact Or.inl ⟨v, (T.setVm vm₁).calling g' mk (Value.ref b :: As).toArray, t, U', L, hT, X', hL, e1, e2, hq, st⟩
  · dsimp only [Pt.U, Pt.locs, Pt.cells, Pt.slots] at X' e1 e2 h1 h2 h3 st hcl
    subst h1; subst h2; subst h3
    exact Or.inr ⟨q, (T.setVm vm₁).calling g' mk (Value.ref b :: As).toArray, t, U', L, E, ce, hT, X', hL, e1, e2, hq, hce, hcv, vx_cls hW₁ hcl, st⟩
theorem vx_runS (S : CallFix p m c cc nL s args Ts own) (hM : vx_Met l y ws rm Pc Qc XC mc ms free) (cw : CallB R s args own index y bytes maxL ret ws rm mc ms n ∧ (Cond.static y).before args s = true) (hp : PreS s H Pc As)
    (hg : g.method = m) (hn : As.length = n) (hsize : g.locals.size = nL) (hstack : g.stack = As.reverse ++ rest) (hW : 2 * g.monitorRoom + (rest.map fun v => v.category).sum ≤ 8) (hdg : decode cc g.pc = .ok (.invokestatic index, 3)) (hf : cells + mc ≤ R.cells ∧ slots + ms ≤ R.slots) :
    vx_Run p l e R s m args below meth c H locs cells slots mc ms g rest (Qc As.toArray) XC free := by
  have hK : vx_Back l R p e below s args y 3 8 (PreOf R mc ms Pc) (PostOf Qc mc ms free) (vx_Post XC mc ms free) := vx_callBack cw.1 hM hp.1
  obtain ⟨⟨-, -, -, -, -, -, hcode, hini, hy, hlen, hl⟩, hstt⟩ := cw
  obtain ⟨hx, hb, hml, ho, -⟩ := S
  intro T hT X
  rcases vx_callS X hx (bytes := bytes) (maxL := maxL) (ret := ret) ho hl hstt hini hcode hy hK hg (hsize.trans hml.symm) (argsL := As) (rest := rest) (fun sig h => hn.trans (hlen sig h)) hstack hW (by rw [hb]; exact hdg)
    (fun vm₁ hW₁ => ⟨hf.1, hf.2, hp.2 (T.setVm vm₁) hT hW₁⟩) with ⟨v, vm₁, ⟨U', l2, c2, s2⟩, hW₁, X', ⟨g', mk, t, L, e1, e2, hq, h1, hL, h2, h3⟩, st⟩ | ⟨q, vm₁, ⟨U', l2, c2, s2⟩, hW₁, X', ⟨g', mk, t, L, E, ce, e1, e2, hq, hce, hcv, hcl, h1, hL, h2, h3⟩, st⟩
  · dsimp only [Pt.U, Pt.locs, Pt.cells, Pt.slots] at X' e1 e2 h1 h2 h3 st
    subst h1; subst h2; subst h3
    exact Or.inl ⟨v, (T.setVm vm₁).calling g' mk As.toArray, t, U', L, hT, X', hL, e1, e2, hq, st⟩
  · dsimp only [Pt.U, Pt.locs, Pt.cells, Pt.slots] at X' e1 e2 h1 h2 h3 st hcl
    subst h1; subst h2; subst h3
    exact Or.inr ⟨q, (T.setVm vm₁).calling g' mk As.toArray, t, U', L, E, ce, hT, X', hL, e1, e2, hq, hce, hcv, vx_cls hW₁ hcl, st⟩
end Runs
section Rows
variable {p : Program} {l : Launch} {e : Env} {R : Room} {s : State} {m : MethodId} {args : Array Value} {below : List Frame} {meth : Method} {c : Code} {H : Heap} {locs : List Loc} {cells slots : Nat} {Q : State → Prop}
variable {mc ms : Nat} {free : Addr → Prop} {A0 A1 : Nat → Prop} {H0 : Heap} {a : Array Value} {pc : Nat} {ls : Array Slot} {st0 rest : List Value}
theorem vx_keep {st₀ t T' : State} {L : List Loc} (h0 : st₀.heap = H) (e1 : T'.heap = t.heap) (hS : va_S A0 H0 H locs) (hA : ∀ q, q < H.size → A1 q → A0 q) (hf : ∀ q, free q → A0 q) (hL : ∀ q ∈ L, free q.base) (hF : va_F A1 st₀ t) :
    H.size ≤ T'.heap.size ∧ (∀ q : Nat, q < H.size → ¬ A1 q → T'.heap[q]? = H[q]?) ∧ va_S A0 H0 T'.heap (locs ++ L) := by
  obtain ⟨hz, hk⟩ := hF
  rw [h0] at hz hk
  exact ⟨by rw [e1]; exact hz, fun q h1 h2 => by rw [e1]; exact hk q h1 h2,
    ⟨Nat.le_trans hS.1 (by rw [e1]; exact hz), fun q h1 h2 => by rw [e1, hk q (Nat.lt_of_lt_of_le h1 hS.1) (fun z => h2 (hA q (Nat.lt_of_lt_of_le h1 hS.1) z))]; exact hS.2.1 q h1 h2, fun q hq => by
      rcases List.mem_append.mp hq with h | h
      · exact hS.2.2 q h
      · exact hf _ (hL q h)⟩⟩
theorem vx_calli {S SX : Type} {post : Int32 → S → Prop} {px : SX → Prop} {B : S → State → Prop} {BX : String → SX → State → Prop} {AX : Nat → Prop} (hr : vx_Run p l e R s m args below meth c H locs cells slots mc ms (F0 m pc ls st0) rest (va_Qi post B A1 a) (vx_X px BX AX) free) (hS : va_S A0 H0 H locs) (hA : ∀ q, q < H.size → A1 q → A0 q) (hf : ∀ q, free q → A0 q) (hAX : ∀ q, q < H.size → AX q → A0 q)
    (kx : ∀ (E : String) (ce : Cell) (q9 : Addr) (u : SX) (t : State) (H1 : Heap) (locs1 : List Loc), t.heap = H1 → s.vm.Alike t.vm → px u → BX E u t → H.size ≤ H1.size → (∀ q : Nat, q < H.size → ¬ AX q → H1[q]? = H[q]?) → va_S A0 H0 H1 locs1 → H1[q9]? = some ce → ce.vm = .none → s.vm.findClass E = some ce.cls → vx_W p l e R s m args below meth c H1 locs1 (cells + mc) (slots + ms) Q (F0 m pc ls rest) q9)
    (kk : ∀ (r : Int32) (u : S) (t : State) (H1 : Heap) (locs1 : List Loc), t.heap = H1 → s.vm.Alike t.vm → post r u → B u t → H.size ≤ H1.size → (∀ q : Nat, q < H.size → ¬ A1 q → H1[q]? = H[q]?) → va_S A0 H0 H1 locs1 → W p l e R s m args below meth c H1 locs1 (cells + mc) (slots + ms) Q (F0 m (pc + 3) ls (.int r :: rest))) : W p l e R s m args below meth c H locs cells slots Q (F0 m pc ls st0) := by
  intro T hT X
  rcases hr T hT X with ⟨v, st₀, t, T', L, h0, X', hL, e1, e2, ⟨⟨r, u, hv, hp, hb⟩, hF⟩, st⟩ | ⟨q, st₀, t, T', L, E, ce, h0, X', hL, e1, e2, ⟨u, hp, hb, hF⟩, hce, hcv, hcl, st⟩
  · cases hv
    obtain ⟨k1, k2, k3⟩ := vx_keep h0 e1 hS hA hf hL hF
    obtain ⟨t2, a1, b1⟩ := kk r u t T'.heap (locs ++ L) e1.symm (by rw [← e2]; exact X'.warmed.alike) hp hb k1 k2 k3 T' rfl X'
    exact ⟨t2, st t2 a1, b1⟩
  · obtain ⟨k1, k2, k3⟩ := vx_keep h0 e1 hS hAX hf hL hF
    obtain ⟨t2, a1, b1⟩ := kx E ce q u t T'.heap (locs ++ L) e1.symm (by rw [← e2]; exact X'.warmed.alike) hp hb k1 k2 k3 (by rw [e1]; exact hce) hcv hcl T' rfl X'
    exact ⟨t2, st.trans a1, b1⟩
theorem vx_calll {S SX : Type} {post : Int64 → S → Prop} {px : SX → Prop} {B : S → State → Prop} {BX : String → SX → State → Prop} {AX : Nat → Prop} (hr : vx_Run p l e R s m args below meth c H locs cells slots mc ms (F0 m pc ls st0) rest (va_Ql post B A1 a) (vx_X px BX AX) free) (hS : va_S A0 H0 H locs) (hA : ∀ q, q < H.size → A1 q → A0 q) (hf : ∀ q, free q → A0 q) (hAX : ∀ q, q < H.size → AX q → A0 q)
    (kx : ∀ (E : String) (ce : Cell) (q9 : Addr) (u : SX) (t : State) (H1 : Heap) (locs1 : List Loc), t.heap = H1 → s.vm.Alike t.vm → px u → BX E u t → H.size ≤ H1.size → (∀ q : Nat, q < H.size → ¬ AX q → H1[q]? = H[q]?) → va_S A0 H0 H1 locs1 → H1[q9]? = some ce → ce.vm = .none → s.vm.findClass E = some ce.cls → vx_W p l e R s m args below meth c H1 locs1 (cells + mc) (slots + ms) Q (F0 m pc ls rest) q9)
    (kk : ∀ (r : Int64) (u : S) (t : State) (H1 : Heap) (locs1 : List Loc), t.heap = H1 → s.vm.Alike t.vm → post r u → B u t → H.size ≤ H1.size → (∀ q : Nat, q < H.size → ¬ A1 q → H1[q]? = H[q]?) → va_S A0 H0 H1 locs1 → W p l e R s m args below meth c H1 locs1 (cells + mc) (slots + ms) Q (F0 m (pc + 3) ls (.long r :: rest))) : W p l e R s m args below meth c H locs cells slots Q (F0 m pc ls st0) := by
  intro T hT X
  rcases hr T hT X with ⟨v, st₀, t, T', L, h0, X', hL, e1, e2, ⟨⟨r, u, hv, hp, hb⟩, hF⟩, st⟩ | ⟨q, st₀, t, T', L, E, ce, h0, X', hL, e1, e2, ⟨u, hp, hb, hF⟩, hce, hcv, hcl, st⟩
  · cases hv
    obtain ⟨k1, k2, k3⟩ := vx_keep h0 e1 hS hA hf hL hF
    obtain ⟨t2, a1, b1⟩ := kk r u t T'.heap (locs ++ L) e1.symm (by rw [← e2]; exact X'.warmed.alike) hp hb k1 k2 k3 T' rfl X'
    exact ⟨t2, st t2 a1, b1⟩
  · obtain ⟨k1, k2, k3⟩ := vx_keep h0 e1 hS hAX hf hL hF
    obtain ⟨t2, a1, b1⟩ := kx E ce q u t T'.heap (locs ++ L) e1.symm (by rw [← e2]; exact X'.warmed.alike) hp hb k1 k2 k3 (by rw [e1]; exact hce) hcv hcl T' rfl X'
    exact ⟨t2, st.trans a1, b1⟩
theorem vx_callf {S SX : Type} {post : UInt32 → S → Prop} {px : SX → Prop} {B : S → State → Prop} {BX : String → SX → State → Prop} {AX : Nat → Prop} (hr : vx_Run p l e R s m args below meth c H locs cells slots mc ms (F0 m pc ls st0) rest (va_Qf post B A1 a) (vx_X px BX AX) free) (hS : va_S A0 H0 H locs) (hA : ∀ q, q < H.size → A1 q → A0 q) (hf : ∀ q, free q → A0 q) (hAX : ∀ q, q < H.size → AX q → A0 q)
    (kx : ∀ (E : String) (ce : Cell) (q9 : Addr) (u : SX) (t : State) (H1 : Heap) (locs1 : List Loc), t.heap = H1 → s.vm.Alike t.vm → px u → BX E u t → H.size ≤ H1.size → (∀ q : Nat, q < H.size → ¬ AX q → H1[q]? = H[q]?) → va_S A0 H0 H1 locs1 → H1[q9]? = some ce → ce.vm = .none → s.vm.findClass E = some ce.cls → vx_W p l e R s m args below meth c H1 locs1 (cells + mc) (slots + ms) Q (F0 m pc ls rest) q9)
    (kk : ∀ (r : UInt32) (u : S) (t : State) (H1 : Heap) (locs1 : List Loc), t.heap = H1 → s.vm.Alike t.vm → post r u → B u t → H.size ≤ H1.size → (∀ q : Nat, q < H.size → ¬ A1 q → H1[q]? = H[q]?) → va_S A0 H0 H1 locs1 → W p l e R s m args below meth c H1 locs1 (cells + mc) (slots + ms) Q (F0 m (pc + 3) ls (.float r :: rest))) : W p l e R s m args below meth c H locs cells slots Q (F0 m pc ls st0) := by
  intro T hT X
  rcases hr T hT X with ⟨v, st₀, t, T', L, h0, X', hL, e1, e2, ⟨⟨r, u, hv, hp, hb⟩, hF⟩, st⟩ | ⟨q, st₀, t, T', L, E, ce, h0, X', hL, e1, e2, ⟨u, hp, hb, hF⟩, hce, hcv, hcl, st⟩
  · cases hv
    obtain ⟨k1, k2, k3⟩ := vx_keep h0 e1 hS hA hf hL hF
    obtain ⟨t2, a1, b1⟩ := kk r u t T'.heap (locs ++ L) e1.symm (by rw [← e2]; exact X'.warmed.alike) hp hb k1 k2 k3 T' rfl X'
    exact ⟨t2, st t2 a1, b1⟩
  · obtain ⟨k1, k2, k3⟩ := vx_keep h0 e1 hS hAX hf hL hF
    obtain ⟨t2, a1, b1⟩ := kx E ce q u t T'.heap (locs ++ L) e1.symm (by rw [← e2]; exact X'.warmed.alike) hp hb k1 k2 k3 (by rw [e1]; exact hce) hcv hcl T' rfl X'
    exact ⟨t2, st.trans a1, b1⟩
theorem vx_calld {S SX : Type} {post : UInt64 → S → Prop} {px : SX → Prop} {B : S → State → Prop} {BX : String → SX → State → Prop} {AX : Nat → Prop} (hr : vx_Run p l e R s m args below meth c H locs cells slots mc ms (F0 m pc ls st0) rest (va_Qd post B A1 a) (vx_X px BX AX) free) (hS : va_S A0 H0 H locs) (hA : ∀ q, q < H.size → A1 q → A0 q) (hf : ∀ q, free q → A0 q) (hAX : ∀ q, q < H.size → AX q → A0 q)
    (kx : ∀ (E : String) (ce : Cell) (q9 : Addr) (u : SX) (t : State) (H1 : Heap) (locs1 : List Loc), t.heap = H1 → s.vm.Alike t.vm → px u → BX E u t → H.size ≤ H1.size → (∀ q : Nat, q < H.size → ¬ AX q → H1[q]? = H[q]?) → va_S A0 H0 H1 locs1 → H1[q9]? = some ce → ce.vm = .none → s.vm.findClass E = some ce.cls → vx_W p l e R s m args below meth c H1 locs1 (cells + mc) (slots + ms) Q (F0 m pc ls rest) q9)
    (kk : ∀ (r : UInt64) (u : S) (t : State) (H1 : Heap) (locs1 : List Loc), t.heap = H1 → s.vm.Alike t.vm → post r u → B u t → H.size ≤ H1.size → (∀ q : Nat, q < H.size → ¬ A1 q → H1[q]? = H[q]?) → va_S A0 H0 H1 locs1 → W p l e R s m args below meth c H1 locs1 (cells + mc) (slots + ms) Q (F0 m (pc + 3) ls (.double r :: rest))) : W p l e R s m args below meth c H locs cells slots Q (F0 m pc ls st0) := by
  intro T hT X
  rcases hr T hT X with ⟨v, st₀, t, T', L, h0, X', hL, e1, e2, ⟨⟨r, u, hv, hp, hb⟩, hF⟩, st⟩ | ⟨q, st₀, t, T', L, E, ce, h0, X', hL, e1, e2, ⟨u, hp, hb, hF⟩, hce, hcv, hcl, st⟩
  · cases hv
    obtain ⟨k1, k2, k3⟩ := vx_keep h0 e1 hS hA hf hL hF
    obtain ⟨t2, a1, b1⟩ := kk r u t T'.heap (locs ++ L) e1.symm (by rw [← e2]; exact X'.warmed.alike) hp hb k1 k2 k3 T' rfl X'
    exact ⟨t2, st t2 a1, b1⟩
  · obtain ⟨k1, k2, k3⟩ := vx_keep h0 e1 hS hAX hf hL hF
    obtain ⟨t2, a1, b1⟩ := kx E ce q u t T'.heap (locs ++ L) e1.symm (by rw [← e2]; exact X'.warmed.alike) hp hb k1 k2 k3 (by rw [e1]; exact hce) hcv hcl T' rfl X'
    exact ⟨t2, st.trans a1, b1⟩
theorem vx_callv {S SX : Type} {post : S → Prop} {px : SX → Prop} {B : S → State → Prop} {BX : String → SX → State → Prop} {AX : Nat → Prop} (hr : vx_Run p l e R s m args below meth c H locs cells slots mc ms (F0 m pc ls st0) rest (va_Qv post B A1 a) (vx_X px BX AX) free) (hS : va_S A0 H0 H locs) (hA : ∀ q, q < H.size → A1 q → A0 q) (hf : ∀ q, free q → A0 q) (hAX : ∀ q, q < H.size → AX q → A0 q)
    (kx : ∀ (E : String) (ce : Cell) (q9 : Addr) (u : SX) (t : State) (H1 : Heap) (locs1 : List Loc), t.heap = H1 → s.vm.Alike t.vm → px u → BX E u t → H.size ≤ H1.size → (∀ q : Nat, q < H.size → ¬ AX q → H1[q]? = H[q]?) → va_S A0 H0 H1 locs1 → H1[q9]? = some ce → ce.vm = .none → s.vm.findClass E = some ce.cls → vx_W p l e R s m args below meth c H1 locs1 (cells + mc) (slots + ms) Q (F0 m pc ls rest) q9)
    (kk : ∀ (u : S) (t : State) (H1 : Heap) (locs1 : List Loc), t.heap = H1 → s.vm.Alike t.vm → post u → B u t → H.size ≤ H1.size → (∀ q : Nat, q < H.size → ¬ A1 q → H1[q]? = H[q]?) → va_S A0 H0 H1 locs1 → W p l e R s m args below meth c H1 locs1 (cells + mc) (slots + ms) Q (F0 m (pc + 3) ls (rest))) : W p l e R s m args below meth c H locs cells slots Q (F0 m pc ls st0) := by
  intro T hT X
  rcases hr T hT X with ⟨v, st₀, t, T', L, h0, X', hL, e1, e2, ⟨⟨u, hv, hp, hb⟩, hF⟩, st⟩ | ⟨q, st₀, t, T', L, E, ce, h0, X', hL, e1, e2, ⟨u, hp, hb, hF⟩, hce, hcv, hcl, st⟩
  · cases hv
    obtain ⟨k1, k2, k3⟩ := vx_keep h0 e1 hS hA hf hL hF
    obtain ⟨t2, a1, b1⟩ := kk u t T'.heap (locs ++ L) e1.symm (by rw [← e2]; exact X'.warmed.alike) hp hb k1 k2 k3 T' rfl X'
    exact ⟨t2, st t2 a1, b1⟩
  · obtain ⟨k1, k2, k3⟩ := vx_keep h0 e1 hS hAX hf hL hF
    obtain ⟨t2, a1, b1⟩ := kx E ce q u t T'.heap (locs ++ L) e1.symm (by rw [← e2]; exact X'.warmed.alike) hp hb k1 k2 k3 (by rw [e1]; exact hce) hcv hcl T' rfl X'
    exact ⟨t2, st.trans a1, b1⟩
/-- caught by the row x of this method's table; the rows ahead don't take it -/
theorem vx_catch {own name : String} {E : String} {ce : Cell} {q : Addr} (hown : s.vm.findClass own = some m.cls) (pre : List ExceptionTableEntry) (x : ExceptionTableEntry) (suf : List ExceptionTableEntry) (hsplit : c.exceptionTable.toList = pre ++ x :: suf)
    (hpass : ∀ z ∈ pre, covers z pc = false ∨ (z.catchType ≠ 0 ∧ ∃ nm : String, (Cond.classLink own z.catchType nm).before args s = true ∧ va_Nc E nm s)) (hx : covers x pc = true) (h0 : x.catchType ≠ 0)
    (hlink : (Cond.classLink own x.catchType name).before args s = true) (hcast : (Cond.castable E name).before args s = true) (hcell : H[q]? = some ce) (hv : ce.vm = .none) (hcl : s.vm.findClass E = some ce.cls)
    (kk : W p l e R s m args below meth c H locs cells slots Q (F0 m x.handlerPc ls [.ref q])) : vx_W p l e R s m args below meth c H locs cells slots Q (F0 m pc ls rest) q := by
  intro T hT X
  have hpl : e.platform.magicAccessors = ({} : Platform).magicAccessors := by rw [X.admits.platform]
  obtain ⟨c3, c4, hc3, hc4, hasg⟩ := Cond.castable_spec hcast
  cases Option.some.inj (hc3.symm.trans hcl)
  obtain ⟨c5, hc5, hcl5⟩ := Cond.classLink_spec hown hlink e.platform hpl
  cases Option.some.inj (hc4.symm.trans hc5)
  obtain ⟨vm', X', st⟩ := X.thenCaughtThrough q (g := F0 m pc ls rest) rfl (Steps.refl _) (by rw [hT]; exact hcell) (by rw [hv]; rfl) (by obtain ⟨k9, h9, -⟩ := Vm.findClass_spec hcl; exact ⟨k9, h9⟩) pre x suf hsplit
    (fun z hz => by
      rcases hpass z hz with h | ⟨hz0, nm, hl1, hn1⟩
      · exact Or.inl h
      · obtain ⟨c6, hc6, hcl6⟩ := Cond.classLink_spec hown hl1 e.platform hpl
        obtain ⟨a8, b8, h1, h2, h3⟩ := hn1
        cases Option.some.inj (h1.symm.trans hcl)
        cases Option.some.inj (h2.symm.trans hc6)
        exact Or.inr ⟨hz0, _, hcl6, h3⟩) hx (Or.inr ⟨h0, c4, hcl5, hasg⟩)
  obtain ⟨t, a1, b1⟩ := kk (T.setVm vm') hT X'
  exact ⟨t, st.trans a1, b1⟩
end Rows
section Ends
variable {p : Program} {l : Launch} {e : Env} {R : Room} {s : State} {m : MethodId} {args : Array Value} {below : List Frame} {meth : Method} {c : Code} {H : Heap} {locs : List Loc} {cells slots : Nat} {Q : State → Prop}
variable {mc ms : Nat} {free : Addr → Prop} {A0 A1 : Nat → Prop} {H0 : Heap} {a : Array Value} {ls : Array Slot} {st0 rest : List Value}
variable {Qc : Array Value → State → Outcome → State → Prop} {XC : String → State → State → Prop}
/-- what a body that may throw owes at its end -/
def vx_MQ (below : List Frame) (Qc : Array Value → State → Outcome → State → Prop) (XC : String → State → State → Prop) (a : Array Value) (s : State) (mc ms : Nat) (free : Addr → Prop) : State → Prop := fun t =>
  ∃ o, t.status = .running ∧ Ended t below o ∧ vx_Q Qc XC mc ms free a s o t
theorem vx_ret {g : JFrame} {mc ms : Nat} (k : W p l e R s m args below meth c H locs cells slots (MQ below Qc args s mc ms free) g) : W p l e R s m args below meth c H locs cells slots (vx_MQ below Qc XC args s mc ms free) g := by
  intro T hT X
  obtain ⟨t, a1, o, b1, b2, b3, b4⟩ := k T hT X
  exact ⟨t, a1, o, b1, b2, Or.inl ⟨b3, b4⟩⟩
/-- not caught here: it goes on to the caller -/
theorem vx_widen {g : JFrame} {q : Addr} {k n : Nat} (h1 : cells ≤ k) (h2 : slots ≤ n) (kk : vx_W p l e R s m args below meth c H locs k n Q g q) : vx_W p l e R s m args below meth c H locs cells slots Q g q := fun T hT X => kk T hT (stand_widen X h1 h2)
theorem vx_out {pc : Nat} {E : String} {ce : Cell} {q : Addr} {mc ms : Nat} (hout : ∀ x ∈ c.exceptionTable.toList, covers x pc = false) (hlocks : meth.locks = false) (hcell : H[q]? = some ce) (hv : ce.vm = .none) (hcl : s.vm.findClass E = some ce.cls)
    (hx : ∀ t : State, t.heap = H → s.vm.Alike t.vm → XC E s t) (hf : ∀ z ∈ locs, free z.base) (hc : cells ≤ mc) (hs : slots ≤ ms) :
    vx_W p l e R s m args below meth c H locs cells slots (vx_MQ below Qc XC args s mc ms free) (F0 m pc ls rest) q := by
  intro T hT X
  obtain ⟨st1, hrun, hend, hW, hsm⟩ := X.leaveThrown q (g := F0 m pc ls rest) rfl rfl rfl hout hlocks
  have hcell9 : (T.setFrames (.throwing q :: below)).heap[q]? = some ce := by
    show T.heap[q]? = some ce
    rw [hT]; exact hcell
  exact ⟨_, st1, .threw q, hrun, hend, Or.inr ⟨q, rfl, E, ce, locs, hx _ hT hW.alike, hcell9, hv, hcl, hW, hsm.mono hc hs, hf⟩⟩
theorem vx_frame {U : State} {k n : Nat} (h : s.sameButNew ({ U with vm := s.vm } : State) locs k n) : s.heap.size ≤ U.heap.size ∧ ∀ q : Nat, q < s.heap.size → (∀ z ∈ locs, z.base ≠ q) → U.heap[q]? = s.heap[q]? := by
  obtain ⟨-, h2, -, -, -, h6⟩ := h
  refine ⟨h2, fun q hq hz => ?_⟩
  obtain ⟨c9, e1, e2, e3, e4⟩ := h6 q _ (Array.getElem?_eq_getElem hq)
  have hs : c9.slots = (s.heap[q]).slots := Array.ext_getElem? fun i => e4 i fun hm => hz _ hm rfl
  have h9 : c9 = s.heap[q] := by
    rw [hs] at e2
    exact e2
  have e5 : U.heap[q]? = some c9 := e1
  rw [e5, h9, Array.getElem?_eq_getElem hq]
/-- the words of a throw but the four that speak of the heap -/
def vx_no (w : Cond) : Bool := decide (w ≠ .isRef (.static Bundle.tN "UNASSIGNED_STACK" Bundle.steD)) && decide (w ≠ .isRef (.static Bundle.tN "SUPPRESSED_SENTINEL" Bundle.listD)) && decide (w ≠ .laysStatic Bundle.tN "UNASSIGNED_STACK" Bundle.steD) && decide (w ≠ .laysStatic Bundle.tN "SUPPRESSED_SENTINEL" Bundle.listD)
def vx_at0 (own : String) (ic : Nat) (X : String) (names : List String) : List Cond := (Bundle.ownAtoms0 own ic X names).filter vx_no
def vx_atS (own : String) (ic : Nat) (X : String) (names : List String) : List Cond := (Bundle.ownAtoms own ic X names).filter vx_no
/-- a word that the tables alone decide, or a good one -/
def vx_ot (w : Cond) : Bool := w.onTables || goodWord w
theorem vx_ot_at {args a' : Array Value} {s U : State} {w : Cond} (hW : s.WarmedH U.vm) (hvm : s.vm = U.vm) (hg : vx_ot w = true) (h : w.before args s = true) : w.before a' U = true := by
  simp only [vx_ot, Bool.or_eq_true] at hg
  rcases hg with hg | hg
  · exact va_tabs hg hvm h
  · exact word_at hW (good_of_word hg) h
/-- a list's words: the good ones out of the method's own list, the others by premises of their own -/
theorem vx_hat {args : Array Value} {s : State} {L B : List Cond} (h1 : ∀ w ∈ L.filter goodWord, w.before args s = true) (h2 : ∀ w ∈ L.filter (fun w => !goodWord w), w ∈ B) (h3 : ∀ w ∈ B, w.before args s = true) : ∀ w ∈ L, w.before args s = true := by
  intro w hw
  by_cases g : goodWord w = true
  · exact h1 w (List.mem_filter.mpr ⟨hw, g⟩)
  · refine h3 w (h2 w (List.mem_filter.mpr ⟨hw, ?_⟩))
    show (!goodWord w) = true
    cases hgw : goodWord w
    · rfl
    · exact absurd hgw g
theorem vx_c {args : Array Value} {s : State} {w : Cond} {B : List Cond} (h : w.before args s = true) (t : ∀ w ∈ B, w.before args s = true) : ∀ w' ∈ w :: B, w'.before args s = true := fun w' h' => (List.mem_cons.mp h').elim (fun e => by rw [e]; exact h) (t w')
theorem vx_n {args : Array Value} {s : State} : ∀ w ∈ ([] : List Cond), w.before args s = true := fun _ h => nomatch h
theorem vx_own {args : Array Value} {s : State} {L : List Cond} (h1 : ∀ w ∈ L.filter vx_no, w.before args s = true)
    (hU : (Cond.isRef (.static Bundle.tN "UNASSIGNED_STACK" Bundle.steD)).before args s = true) (hN : (Cond.isRef (.static Bundle.tN "SUPPRESSED_SENTINEL" Bundle.listD)).before args s = true)
    (lU : (Cond.laysStatic Bundle.tN "UNASSIGNED_STACK" Bundle.steD).before args s = true) (lN : (Cond.laysStatic Bundle.tN "SUPPRESSED_SENTINEL" Bundle.listD).before args s = true) : ∀ w ∈ L, w.before args s = true := by
  intro w hw
  by_cases e1 : w = .isRef (.static Bundle.tN "UNASSIGNED_STACK" Bundle.steD)
  · rw [e1]; exact hU
  · by_cases e2 : w = .isRef (.static Bundle.tN "SUPPRESSED_SENTINEL" Bundle.listD)
    · rw [e2]; exact hN
    · by_cases e3 : w = .laysStatic Bundle.tN "UNASSIGNED_STACK" Bundle.steD
      · rw [e3]; exact lU
      · by_cases e4 : w = .laysStatic Bundle.tN "SUPPRESSED_SENTINEL" Bundle.listD
        · rw [e4]; exact lN
        · exact h1 w (List.mem_filter.mpr ⟨hw, by unfold vx_no; rw [decide_eq_true e1, decide_eq_true e2, decide_eq_true e3, decide_eq_true e4]; rfl⟩)
/-- where a static field lies, its class's statics cell in H -/
def vx_L (C n d : String) (A : Nat → Prop) (U : State) (H : Heap) : Prop := ∃ (c : ClassId) (k : Class) (i : Nat) (f : Field) (a : Nat) (cell : Cell), U.vm.findClass C = some c ∧ U.fieldFound? C n d = some (c, k, i, f) ∧ f.isStatic = true ∧ k.statics = some a ∧ H[a]? = some cell ∧ cell.vm.isStatics = true ∧ cell.cls = c ∧ f.slot < cell.slots.size ∧ k.staticTypes[f.slot]? = some f.type ∧ ¬ A a
theorem vx_L.moved {C n d : String} {A : Nat → Prop} {u U : State} {H : Heap} (hvm : u.vm.Alike U.vm) (h : vx_L C n d A u H) : vx_L C n d A U H := by
  obtain ⟨c, k, i, f, a, cell, h1, h2, h3, h4, h5, h6, h7, h8, h9, h10⟩ := h
  obtain ⟨k', hi', he⟩ := State.fieldFound?_setVm hvm h2
  exact ⟨c, k', i, f, a, cell, by rw [hvm.findClass]; exact h1, hi', h3, by rw [he]; exact h4, h5, h6, h7, h8, by rw [he]; exact h9, h10⟩
theorem vx_L.kept {C n d : String} {A : Nat → Prop} {U : State} {H H1 : Heap} (h : vx_L C n d A U H) (hq : ∀ a : Nat, a < H.size → ¬ A a → H1[a]? = H[a]?) : vx_L C n d A U H1 := by
  obtain ⟨c, k, i, f, a, cell, h1, h2, h3, h4, h5, h6, h7, h8, h9, h10⟩ := h
  exact ⟨c, k, i, f, a, cell, h1, h2, h3, h4, by rw [hq a (Array.getElem?_eq_some_iff.mp h5).1 h10]; exact h5, h6, h7, h8, h9, h10⟩
theorem vx_L.narrow {C n d : String} {A B : Nat → Prop} {U : State} {H : Heap} (h : vx_L C n d A U H) (hAB : ∀ q, B q → A q) : vx_L C n d B U H := by
  obtain ⟨c, k, i, f, a, cell, h1, h2, h3, h4, h5, h6, h7, h8, h9, h10⟩ := h
  exact ⟨c, k, i, f, a, cell, h1, h2, h3, h4, h5, h6, h7, h8, h9, fun z => h10 (hAB _ z)⟩
theorem vx_L.word {C n d : String} {A : Nat → Prop} {s : State} {args : Array Value} (h : vx_L C n d A s s.heap) : (Cond.laysStatic C n d).before args s = true := by
  obtain ⟨c, k, i, f, a, cell, h1, h2, h3, h4, h5, h6, h7, h8, h9, -⟩ := h
  show (Cond.laysStatic C n d).holds args s none s [] = true
  exact Cond.laysStatic_of h1 h2 h3 h4 h5 h6 h7 h8 h9
/-- .. and what it holds: null or some reference -/
def vx_Zq (C n d : String) (A : Nat → Prop) (U : State) (H : Heap) : Prop := va_Zq C n d A U H ∧ vx_L C n d A U H
theorem vx_Zq.moved {C n d : String} {A : Nat → Prop} {u U : State} {H : Heap} (hvm : u.vm.Alike U.vm) (h : vx_Zq C n d A u H) : vx_Zq C n d A U H := ⟨va_Zq.moved hvm h.1, vx_L.moved hvm h.2⟩
theorem vx_Zq.kept {C n d : String} {A : Nat → Prop} {U : State} {H H1 : Heap} (h : vx_Zq C n d A U H) (hq : ∀ a : Nat, a < H.size → ¬ A a → H1[a]? = H[a]?) : vx_Zq C n d A U H1 := ⟨va_Zq.kept h.1 hq, vx_L.kept h.2 hq⟩
theorem vx_Zq.narrow {C n d : String} {A B : Nat → Prop} {U : State} {H : Heap} (h : vx_Zq C n d A U H) (hAB : ∀ q, B q → A q) : vx_Zq C n d B U H := ⟨va_Zq.narrow h.1 hAB, vx_L.narrow h.2 hAB⟩
theorem vx_Zqof {args : Array Value} {s : State} {C n d : String} {A : Nat → Prop} (hl : (Cond.laysStatic C n d).before args s = true) (hini : (Cond.initialized C).before args s = true) (h : (Cond.isRef (.static C n d)).before args s = true) (hA : ∀ a : Nat, a < s.heap.size → ¬ A a) : vx_Zq C n d A s s.heap := by
  refine ⟨va_Zqof hl hini h hA, ?_⟩
  obtain ⟨c, k, i, f, a, cell, h1, h2, h3, h4, h5, h6, h7, h8, h9⟩ := Cond.laysStatic_spec hl
  exact ⟨c, k, i, f, a, cell, h1, h2, h3, h4, h5, h6, h7, h8, h9, hA a (Array.getElem?_eq_some_iff.mp h5).1⟩
theorem vx_isRef {C n d : String} {v : Value} {A : Nat → Prop} {s : State} {args : Array Value} (h : va_Z C n d v A s s.heap) (hv : v.isRef = true) : (Cond.isRef (.static C n d)).before args s = true := by
  obtain ⟨cf, kf, fi, f, a, cell, h1, h2, h3, h4, h5, h6, h7, -⟩ := h
  have he : (Term.static C n d).eval args s none [] s = some v := by
    simp [Term.eval, State.fieldNamed?, h1, h2, h4, h5, h6, h7]
  simp only [Cond.before, Cond.holds, Cond.value, he]
  cases v <;> simp_all [Value.isRef]
theorem vx_isRefq {C n d : String} {A : Nat → Prop} {s : State} {args : Array Value} (h : va_Zq C n d A s s.heap) : (Cond.isRef (.static C n d)).before args s = true := by
  rcases h with h | ⟨t, h⟩
  · exact vx_isRef h rfl
  · exact vx_isRef h rfl
/-- the same frame, seen from here: as if the method were called anew in this heap -/
theorem vx_rebase {T : State} (X : Stand p l e R s m args below meth c T locs cells slots) {R' : Room} (hf : R'.frames ≤ R.frames) (hl : R'.locals ≤ R.locals) (hc : cells + R'.cells ≤ R.cells) (hs : slots + R'.slots ≤ R.slots) :
    Stand p l e R' ((T.setVm s.vm).setFrames (.invoking m args :: below)) m args below meth c T [] 0 0 := by
  have htop : (T.setVm s.vm).topJava?.isSome := X.here.top
  have hF : ((T.setVm s.vm).setFrames (.invoking m args :: below)).frames = .invoking m args :: below := State.frames_setFrames _ (State.cur_lt_of_top htop)
  obtain ⟨g₀, hg0⟩ := Option.isSome_iff_exists.mp htop
  obtain ⟨r, hr⟩ := State.topJava?_eq_some.mp hg0
  have hl9 : e.platform.stackLimits (T.setVm s.vm).me = e.platform.stackLimits s.me := X.limits
  have hb9 : (T.setVm s.vm).me.stackBytes = s.me.stackBytes := X.bytes
  refine ⟨X.admits, X.cas, X.clock, hF, ?_, X.hears, X.method, X.code, X.here, X.tail, X.warmed, ?_, ?_, ?_⟩
  · have h := X.room
    have hU : ((T.setVm s.vm).setFrames (.invoking m args :: below)).localsInUse = s.localsInUse := by
      rw [State.localsInUse_invoking hF (meth := meth) (c := c) X.method X.code, State.localsInUse_invoking X.frames X.method X.code]
    simp only [State.hasRoom, Bool.and_eq_true, decide_eq_true_eq] at h ⊢
    obtain ⟨⟨⟨⟨h1, h2, h3, h4, h5, h6⟩, h7⟩, h8⟩, h9⟩ := h
    rw [X.frames, List.length_cons] at h2 h3
    have q1 := X.heapSize
    have q2 := X.used
    simp only [hF, hU, List.length_cons, State.stackLimits_setFrames, State.stackBytes_setFrames, hl9, hb9]
    refine ⟨⟨⟨⟨by omega, by omega, by omega, by omega, by omega, h6⟩, ?_⟩, ?_⟩, X.book⟩
    · show T.heap.size + R'.cells ≤ e.platform.maxCells
      omega
    · show T.slotsUsed + R'.slots ≤ e.platform.maxSlots
      omega
  · rw [State.stackLimits_setFrames]; rfl
  · rw [State.stackBytes_setFrames]; rfl
  · refine ⟨?_, Nat.le_refl _, Nat.le_refl _, ?_, ?_, fun a c9 h9 => ⟨c9, h9, rfl, rfl, fun _ _ => rfl⟩⟩
    · obtain ⟨t, ht, -⟩ := State.frames_cons hr
      show T.setVm s.vm = { ((T.setVm s.vm).setFrames (.invoking m args :: below)).setFrames (T.setVm s.vm).frames with heap := T.heap, slotsUsed := T.slotsUsed }
      rw [State.setFrames_setFrames, State.setFrames_self ht]
      rfl
    · show T.slotsUsed = T.slotsUsed + ((T.heap.toList.drop T.heap.size).map (·.slots.size)).sum
      rw [List.drop_eq_nil_of_le (Nat.le_of_eq Array.length_toList)]
      rfl
    · show ((T.heap.toList.drop T.heap.size).map (·.slots.size)).sum ≤ 0
      rw [List.drop_eq_nil_of_le (Nat.le_of_eq Array.length_toList)]
      exact Nat.le_refl _
/-- 'throw new E()': new; dup; invokespecial; athrow -/
theorem vx_throw0 {cc : ByteArray} {pc : Nat} (hexec : p.tables.exec = Jvm.exec) (hb : c.code = cc) (hl : l.stackTraces = false) {own cls : String} {names : List String} {ik ic mc ms : Nat} {A : Nat → Prop}
    (hown : s.vm.findClass own = some m.cls) (hcls : Bundle.fit cls = true) (hnames : ∀ n ∈ names, Bundle.fit n = true)
    (hk : (Cond.classLink own ik cls).before args s = true) (hini : (Cond.initialized cls).before args s = true) (hat : ∀ w ∈ vx_at0 own ic cls names, w.before args s = true)
    (hgood : ∀ w ∈ Cond.classLink own ik cls :: Cond.initialized cls :: vx_at0 own ic cls names, vx_ot w = true)
    (hU : vx_Zq Bundle.tN "UNASSIGNED_STACK" Bundle.steD A s s.heap) (hN : vx_Zq Bundle.tN "SUPPRESSED_SENTINEL" Bundle.listD A s s.heap) (hS : va_S A s.heap H locs) (hsize : ls.size = c.maxLocals)
    (d0 : decode cc pc = .ok (.new ik, 3)) (d3 : decode cc (pc + 3) = .ok (.dup, 1)) (d4 : decode cc (pc + 4) = .ok (.invokespecial ic, 3)) (d7 : decode cc (pc + 7) = .ok (.athrow, 1))
    (hout : ∀ x ∈ c.exceptionTable.toList, covers x (pc + 7) = false)
    (hRframes : names.length + 3 < R.frames) (hRlocals : (rest.map fun v => v.category).sum + (13 * (names.length + 1) + 42) ≤ R.locals) (hRcells : cells + 1 ≤ R.cells) (hRslots : slots + 6 ≤ R.slots) (hlocks : meth.locks = false)
    (hx : ∀ t : State, s.vm.Alike t.vm → H.size ≤ t.heap.size → (∀ q : Nat, q < H.size → t.heap[q]? = H[q]?) → XC cls s t)
    (hf : ∀ z ∈ locs, free z.base) (hc : cells + 1 ≤ mc) (hs : slots + 6 ≤ ms) :
    W p l e R s m args below meth c H locs cells slots (vx_MQ below Qc XC args s mc ms free) (F0 m pc ls rest) := by
  intro T hT X
  have htr : e.platform.stackTraces = false := (show e.platform.stackTraces = l.stackTraces by rw [X.admits.platform]).trans hl
  have Y := vx_rebase X (R' := { frames := R.frames, locals := R.locals, cells := 1, slots := 6 }) (Nat.le_refl _) (Nat.le_refl _) hRcells hRslots
  obtain ⟨s', hA⟩ : ∃ z, z = (T.setVm s.vm).setFrames (.invoking m args :: below) := ⟨_, rfl⟩
  rw [← hA] at Y
  have hvm : s'.vm = s.vm := by rw [hA]; rfl
  have hhp : s'.heap = H := by rw [hA]; exact hT
  have hW0 : s.WarmedH s'.vm := by rw [hvm]; exact State.WarmedH.refl s
  have hat' : ∀ w ∈ vx_at0 own ic cls names, w.before args s' = true := fun w hw => vx_ot_at hW0 hvm.symm (hgood w (List.mem_cons_of_mem _ (List.mem_cons_of_mem _ hw))) (hat w hw)
  have hk' : (Cond.classLink own ik cls).before args s' = true := vx_ot_at hW0 hvm.symm (hgood _ List.mem_cons_self) hk
  have hini' : (Cond.initialized cls).before args s' = true := vx_ot_at hW0 hvm.symm (hgood _ (List.mem_cons_of_mem _ List.mem_cons_self)) hini
  have hU' : vx_Zq Bundle.tN "UNASSIGNED_STACK" Bundle.steD A s' s'.heap := by rw [hhp]; exact vx_Zq.moved hW0.alike (hU.kept hS.2.1)
  have hN' : vx_Zq Bundle.tN "SUPPRESSED_SENTINEL" Bundle.listD A s' s'.heap := by rw [hhp]; exact vx_Zq.moved hW0.alike (hN.kept hS.2.1)
  have h : ∀ w ∈ Bundle.ownAtoms0 own ic cls names, w.before args s' = true := vx_own hat' (vx_isRefq hU'.1) (vx_isRefq hN'.1) hU'.2.word hN'.2.word
  have hown' : s'.vm.findClass own = some m.cls := by rw [hvm]; exact hown
  have hins : (Cond.instantiable cls 6).before args s' = true := h _ (by simp [Bundle.ownAtoms0])
  obtain ⟨vm₁, cX, kX, hfX, hkX, -, -, X₁, st1⟩ := Y.newCold hexec (own := own) (C := cls) (index := ik) (n := 6) hown' hk' hins hini'
    (g := F0 m pc ls rest) rfl (by rw [hb]; exact d0) (Nat.le_refl _) (Nat.le_refl _)
  generalize hT1 : (T.setVm vm₁).pushCell { cls := cX, slots := kX.instanceTypes.map defaultValue, vm := .none } = T1 at X₁ st1
  have hcat : (Value.ref T.heap.size).category = 1 := rfl
  have hcellA : T1.heap[T.heap.size]? = some (freshCell cX kX) := by rw [← hT1]; exact State.heap_pushCell_size _ _
  have d3' : decode c.code (pc + 3) = .ok (.dup, 1) := by rw [hb]; exact d3
  obtain ⟨U, hsteps, hrun, hend, hW, hsame, ce, hce, hO⟩ := X₁.ctorThrow0 hexec htr (own := own) (cls := cls) (names := names) (ic := ic) hown' hcls hnames h (fun x hx => nomatch hx) hfX hkX hcellA (by rw [hhp, hT]; exact Nat.le_refl _)
    (g := { method := m, pc := pc + 4, locals := ls, stack := .ref T.heap.size :: .ref T.heap.size :: rest, locked := none }) rfl hsize rfl rfl (rest := rest) rfl
    (by rw [hb]; exact d4) (by rw [hb]; exact d7) hout hRframes (by simp only [List.map_cons, List.sum_cons, hcat]; omega) hlocks
  obtain ⟨f1, f2⟩ := vx_frame hsame
  rw [hhp] at f1 f2
  have hWs : s.WarmedH U.vm := State.WarmedH.trans hW0 hW
  have hcl : s.vm.findClass cls = some ce.cls := by
    have h9 := hO.cls
    rw [hvm] at h9
    exact h9
  have hall : s.sameButNew ({ U with vm := s.vm } : State) locs mc ms := by
    subst hA
    obtain ⟨e1, e2⟩ := hsame
    rw [State.setFrames_setFrames] at e1
    have h2 : (T.setVm s.vm).sameButNew ({ U with vm := s.vm } : State) [] (0 + 1) (0 + 6) := ⟨e1, e2⟩
    have h3 := X.same.trans h2
    rw [List.append_nil] at h3
    exact h3.mono hc hs
  refine ⟨U, ?_, .threw T.heap.size, hrun, hend, Or.inr ⟨T.heap.size, rfl, cls, ce, locs, hx U hWs.alike f1 (fun q hq => f2 q hq (fun z hz => nomatch hz)), hce, hO.vm, hcl, hWs, hall, hf⟩⟩
  refine st1 _ ?_
  show Steps p.tables e below (T1.setTop { method := m, pc := pc + 3, locals := ls, stack := .ref T.heap.size :: rest, locked := none }) _
  jvm_step X₁.here [X₁.here.top, hexec, d3', Value.category]
  exact hsteps
/-- 'throw new E("text")': new; dup; ldc; invokespecial; athrow -/
theorem vx_throwS {cc : ByteArray} {pc : Nat} (hexec : p.tables.exec = Jvm.exec) (hb : c.code = cc) (hl : l.stackTraces = false) {own cls text : String} {names : List String} {ik is ic mc ms sa : Nat} {A : Nat → Prop}
    (hown : s.vm.findClass own = some m.cls) (hcls : Bundle.fit cls = true) (hnames : ∀ n ∈ names, Bundle.fit n = true)
    (hk : (Cond.classLink own ik cls).before args s = true) (hini : (Cond.initialized cls).before args s = true) (hstr : vk_R own is text sa s) (hat : ∀ w ∈ vx_atS own ic cls names, w.before args s = true)
    (hgood : ∀ w ∈ Cond.classLink own ik cls :: Cond.initialized cls :: vx_atS own ic cls names, vx_ot w = true)
    (hU : vx_Zq Bundle.tN "UNASSIGNED_STACK" Bundle.steD A s s.heap) (hN : vx_Zq Bundle.tN "SUPPRESSED_SENTINEL" Bundle.listD A s s.heap) (hS : va_S A s.heap H locs) (hsize : ls.size = c.maxLocals)
    (d0 : decode cc pc = .ok (.new ik, 3)) (d3 : decode cc (pc + 3) = .ok (.dup, 1)) (d4 : decode cc (pc + 4) = .ok (.ldc is, 2)) (d6 : decode cc (pc + 6) = .ok (.invokespecial ic, 3)) (d9 : decode cc (pc + 9) = .ok (.athrow, 1))
    (hout : ∀ x ∈ c.exceptionTable.toList, covers x (pc + 9) = false)
    (hRframes : names.length + 3 < R.frames) (hRlocals : (rest.map fun v => v.category).sum + (13 * (names.length + 1) + 43) ≤ R.locals) (hRcells : cells + 1 ≤ R.cells) (hRslots : slots + 6 ≤ R.slots) (hlocks : meth.locks = false)
    (hx : ∀ t : State, s.vm.Alike t.vm → H.size ≤ t.heap.size → (∀ q : Nat, q < H.size → t.heap[q]? = H[q]?) → XC cls s t)
    (hf : ∀ z ∈ locs, free z.base) (hc : cells + 1 ≤ mc) (hs : slots + 6 ≤ ms) :
    W p l e R s m args below meth c H locs cells slots (vx_MQ below Qc XC args s mc ms free) (F0 m pc ls rest) := by
  intro T hT X
  have htr : e.platform.stackTraces = false := (show e.platform.stackTraces = l.stackTraces by rw [X.admits.platform]).trans hl
  have Y := vx_rebase X (R' := { frames := R.frames, locals := R.locals, cells := 1, slots := 6 }) (Nat.le_refl _) (Nat.le_refl _) hRcells hRslots
  obtain ⟨s', hA⟩ : ∃ z, z = (T.setVm s.vm).setFrames (.invoking m args :: below) := ⟨_, rfl⟩
  rw [← hA] at Y
  have hvm : s'.vm = s.vm := by rw [hA]; rfl
  have hhp : s'.heap = H := by rw [hA]; exact hT
  have hW0 : s.WarmedH s'.vm := by rw [hvm]; exact State.WarmedH.refl s
  have hat' : ∀ w ∈ vx_atS own ic cls names, w.before args s' = true := fun w hw => vx_ot_at hW0 hvm.symm (hgood w (List.mem_cons_of_mem _ (List.mem_cons_of_mem _ hw))) (hat w hw)
  have hk' : (Cond.classLink own ik cls).before args s' = true := vx_ot_at hW0 hvm.symm (hgood _ List.mem_cons_self) hk
  have hini' : (Cond.initialized cls).before args s' = true := vx_ot_at hW0 hvm.symm (hgood _ (List.mem_cons_of_mem _ List.mem_cons_self)) hini
  have hU' : vx_Zq Bundle.tN "UNASSIGNED_STACK" Bundle.steD A s' s'.heap := by rw [hhp]; exact vx_Zq.moved hW0.alike (hU.kept hS.2.1)
  have hN' : vx_Zq Bundle.tN "SUPPRESSED_SENTINEL" Bundle.listD A s' s'.heap := by rw [hhp]; exact vx_Zq.moved hW0.alike (hN.kept hS.2.1)
  have h : ∀ w ∈ Bundle.ownAtoms own ic cls names, w.before args s' = true := vx_own hat' (vx_isRefq hU'.1) (vx_isRefq hN'.1) hU'.2.word hN'.2.word
  have hown' : s'.vm.findClass own = some m.cls := by rw [hvm]; exact hown
  have hins : (Cond.instantiable cls 6).before args s' = true := h _ (by simp [Bundle.ownAtoms])
  obtain ⟨vm₁, cX, kX, hfX, hkX, -, -, X₁, st1⟩ := Y.newCold hexec (own := own) (C := cls) (index := ik) (n := 6) hown' hk' hins hini'
    (g := F0 m pc ls rest) rfl (by rw [hb]; exact d0) (Nat.le_refl _) (Nat.le_refl _)
  generalize hT1 : (T.setVm vm₁).pushCell { cls := cX, slots := kX.instanceTypes.map defaultValue, vm := .none } = T1 at X₁ st1
  have hcat : (Value.ref T.heap.size).category = 1 := rfl
  have hcellA : T1.heap[T.heap.size]? = some (freshCell cX kX) := by rw [← hT1]; exact State.heap_pushCell_size _ _
  have d3' : decode c.code (pc + 3) = .ok (.dup, 1) := by rw [hb]; exact d3
  have d4' : decode c.code (pc + 4) = .ok (.ldc is, 2) := by rw [hb]; exact d4
  have hstr' : vk_R own is text sa s' := vk_R.warm hW0 hstr
  obtain ⟨U, hsteps, hrun, hend, hW, hsame, ce, hce, hO⟩ := X₁.ctorThrowS hexec htr (own := own) (cls := cls) (names := names) (ic := ic) hown' hcls hnames h (fun x hx => nomatch hx) hfX hkX hcellA (by rw [hhp, hT]; exact Nat.le_refl _) (msg := .ref sa) rfl
    (g := { method := m, pc := pc + 6, locals := ls, stack := .ref sa :: .ref T.heap.size :: .ref T.heap.size :: rest, locked := none }) rfl hsize rfl rfl (rest := rest) rfl
    (by rw [hb]; exact d6) (by rw [hb]; exact d9) hout hRframes (by simp only [List.map_cons, List.sum_cons, hcat]; omega) hlocks
  obtain ⟨f1, f2⟩ := vx_frame hsame
  rw [hhp] at f1 f2
  have hWs : s.WarmedH U.vm := State.WarmedH.trans hW0 hW
  have hcl : s.vm.findClass cls = some ce.cls := by
    have h9 := hO.cls
    rw [hvm] at h9
    exact h9
  have hall : s.sameButNew ({ U with vm := s.vm } : State) locs mc ms := by
    subst hA
    obtain ⟨e1, e2⟩ := hsame
    rw [State.setFrames_setFrames] at e1
    have h2 : (T.setVm s.vm).sameButNew ({ U with vm := s.vm } : State) [] (0 + 1) (0 + 6) := ⟨e1, e2⟩
    have h3 := X.same.trans h2
    rw [List.append_nil] at h3
    exact h3.mono hc hs
  refine ⟨U, ?_, .threw T.heap.size, hrun, hend, Or.inr ⟨T.heap.size, rfl, cls, ce, locs, hx U hWs.alike f1 (fun q hq => f2 q hq (fun z hz => nomatch hz)), hce, hO.vm, hcl, hWs, hall, hf⟩⟩
  refine st1 _ ?_
  show Steps p.tables e below (T1.setTop { method := m, pc := pc + 3, locals := ls, stack := .ref T.heap.size :: rest, locked := none }) _
  jvm_step X₁.here [X₁.here.top, hexec, d3', Value.category]
  exact X₁.ldcString hexec (own := own) (text := text) (index := is) (a := sa) hown' hstr'.1 hstr'.2
    (g := { method := m, pc := pc + 4, locals := ls, stack := .ref T.heap.size :: .ref T.heap.size :: rest, locked := none }) rfl d4' _ hsteps
/-- 'throw new E("text")', the text by a wide index -/
theorem vx_throwSW {cc : ByteArray} {pc : Nat} (hexec : p.tables.exec = Jvm.exec) (hb : c.code = cc) (hl : l.stackTraces = false) {own cls text : String} {names : List String} {ik is ic mc ms sa : Nat} {A : Nat → Prop}
    (hown : s.vm.findClass own = some m.cls) (hcls : Bundle.fit cls = true) (hnames : ∀ n ∈ names, Bundle.fit n = true)
    (hk : (Cond.classLink own ik cls).before args s = true) (hini : (Cond.initialized cls).before args s = true) (hstr : vk_R own is text sa s) (hat : ∀ w ∈ vx_atS own ic cls names, w.before args s = true)
    (hgood : ∀ w ∈ Cond.classLink own ik cls :: Cond.initialized cls :: vx_atS own ic cls names, vx_ot w = true)
    (hU : vx_Zq Bundle.tN "UNASSIGNED_STACK" Bundle.steD A s s.heap) (hN : vx_Zq Bundle.tN "SUPPRESSED_SENTINEL" Bundle.listD A s s.heap) (hS : va_S A s.heap H locs) (hsize : ls.size = c.maxLocals)
    (d0 : decode cc pc = .ok (.new ik, 3)) (d3 : decode cc (pc + 3) = .ok (.dup, 1)) (d4 : decode cc (pc + 4) = .ok (.ldc_w is, 3)) (d7 : decode cc (pc + 7) = .ok (.invokespecial ic, 3)) (d10 : decode cc (pc + 10) = .ok (.athrow, 1))
    (hout : ∀ x ∈ c.exceptionTable.toList, covers x (pc + 10) = false)
    (hRframes : names.length + 3 < R.frames) (hRlocals : (rest.map fun v => v.category).sum + (13 * (names.length + 1) + 43) ≤ R.locals) (hRcells : cells + 1 ≤ R.cells) (hRslots : slots + 6 ≤ R.slots) (hlocks : meth.locks = false)
    (hx : ∀ t : State, s.vm.Alike t.vm → H.size ≤ t.heap.size → (∀ q : Nat, q < H.size → t.heap[q]? = H[q]?) → XC cls s t)
    (hf : ∀ z ∈ locs, free z.base) (hc : cells + 1 ≤ mc) (hs : slots + 6 ≤ ms) :
    W p l e R s m args below meth c H locs cells slots (vx_MQ below Qc XC args s mc ms free) (F0 m pc ls rest) := by
  intro T hT X
  have htr : e.platform.stackTraces = false := (show e.platform.stackTraces = l.stackTraces by rw [X.admits.platform]).trans hl
  have Y := vx_rebase X (R' := { frames := R.frames, locals := R.locals, cells := 1, slots := 6 }) (Nat.le_refl _) (Nat.le_refl _) hRcells hRslots
  obtain ⟨s', hA⟩ : ∃ z, z = (T.setVm s.vm).setFrames (.invoking m args :: below) := ⟨_, rfl⟩
  rw [← hA] at Y
  have hvm : s'.vm = s.vm := by rw [hA]; rfl
  have hhp : s'.heap = H := by rw [hA]; exact hT
  have hW0 : s.WarmedH s'.vm := by rw [hvm]; exact State.WarmedH.refl s
  have hat' : ∀ w ∈ vx_atS own ic cls names, w.before args s' = true := fun w hw => vx_ot_at hW0 hvm.symm (hgood w (List.mem_cons_of_mem _ (List.mem_cons_of_mem _ hw))) (hat w hw)
  have hk' : (Cond.classLink own ik cls).before args s' = true := vx_ot_at hW0 hvm.symm (hgood _ List.mem_cons_self) hk
  have hini' : (Cond.initialized cls).before args s' = true := vx_ot_at hW0 hvm.symm (hgood _ (List.mem_cons_of_mem _ List.mem_cons_self)) hini
  have hU' : vx_Zq Bundle.tN "UNASSIGNED_STACK" Bundle.steD A s' s'.heap := by rw [hhp]; exact vx_Zq.moved hW0.alike (hU.kept hS.2.1)
  have hN' : vx_Zq Bundle.tN "SUPPRESSED_SENTINEL" Bundle.listD A s' s'.heap := by rw [hhp]; exact vx_Zq.moved hW0.alike (hN.kept hS.2.1)
  have h : ∀ w ∈ Bundle.ownAtoms own ic cls names, w.before args s' = true := vx_own hat' (vx_isRefq hU'.1) (vx_isRefq hN'.1) hU'.2.word hN'.2.word
  have hown' : s'.vm.findClass own = some m.cls := by rw [hvm]; exact hown
  have hins : (Cond.instantiable cls 6).before args s' = true := h _ (by simp [Bundle.ownAtoms])
  obtain ⟨vm₁, cX, kX, hfX, hkX, -, -, X₁, st1⟩ := Y.newCold hexec (own := own) (C := cls) (index := ik) (n := 6) hown' hk' hins hini'
    (g := F0 m pc ls rest) rfl (by rw [hb]; exact d0) (Nat.le_refl _) (Nat.le_refl _)
  generalize hT1 : (T.setVm vm₁).pushCell { cls := cX, slots := kX.instanceTypes.map defaultValue, vm := .none } = T1 at X₁ st1
  have hcat : (Value.ref T.heap.size).category = 1 := rfl
  have hcellA : T1.heap[T.heap.size]? = some (freshCell cX kX) := by rw [← hT1]; exact State.heap_pushCell_size _ _
  have d3' : decode c.code (pc + 3) = .ok (.dup, 1) := by rw [hb]; exact d3
  have d4' : decode c.code (pc + 4) = .ok (.ldc_w is, 3) := by rw [hb]; exact d4
  have hstr' : vk_R own is text sa s' := vk_R.warm hW0 hstr
  obtain ⟨U, hsteps, hrun, hend, hW, hsame, ce, hce, hO⟩ := X₁.ctorThrowS hexec htr (own := own) (cls := cls) (names := names) (ic := ic) hown' hcls hnames h (fun x hx => nomatch hx) hfX hkX hcellA (by rw [hhp, hT]; exact Nat.le_refl _) (msg := .ref sa) rfl
    (g := { method := m, pc := pc + 7, locals := ls, stack := .ref sa :: .ref T.heap.size :: .ref T.heap.size :: rest, locked := none }) rfl hsize rfl rfl (rest := rest) rfl
    (by rw [hb]; exact d7) (by rw [hb]; exact d10) hout hRframes (by simp only [List.map_cons, List.sum_cons, hcat]; omega) hlocks
  obtain ⟨f1, f2⟩ := vx_frame hsame
  rw [hhp] at f1 f2
  have hWs : s.WarmedH U.vm := State.WarmedH.trans hW0 hW
  have hcl : s.vm.findClass cls = some ce.cls := by
    have h9 := hO.cls
    rw [hvm] at h9
    exact h9
  have hall : s.sameButNew ({ U with vm := s.vm } : State) locs mc ms := by
    subst hA
    obtain ⟨e1, e2⟩ := hsame
    rw [State.setFrames_setFrames] at e1
    have h2 : (T.setVm s.vm).sameButNew ({ U with vm := s.vm } : State) [] (0 + 1) (0 + 6) := ⟨e1, e2⟩
    have h3 := X.same.trans h2
    rw [List.append_nil] at h3
    exact h3.mono hc hs
  refine ⟨U, ?_, .threw T.heap.size, hrun, hend, Or.inr ⟨T.heap.size, rfl, cls, ce, locs, hx U hWs.alike f1 (fun q hq => f2 q hq (fun z hz => nomatch hz)), hce, hO.vm, hcl, hWs, hall, hf⟩⟩
  refine st1 _ ?_
  show Steps p.tables e below (T1.setTop { method := m, pc := pc + 3, locals := ls, stack := .ref T.heap.size :: rest, locked := none }) _
  jvm_step X₁.here [X₁.here.top, hexec, d3', Value.category]
  exact X₁.ldcStringW hexec (own := own) (text := text) (index := is) (a := sa) hown' hstr'.1 hstr'.2
    (g := { method := m, pc := pc + 4, locals := ls, stack := .ref T.heap.size :: .ref T.heap.size :: rest, locked := none }) rfl d4' _ hsteps
end Ends
section Bodies
variable {l : Launch}
theorem vx_ofW {y : MethodName} {ws ws' : List Cond} {rm : Room} {Pc : Array Value → State → Prop} {Qc : Array Value → State → Outcome → State → Prop} {XC : String → State → State → Prop} {mc ms : Nat} {free : Addr → Prop} {cc : ByteArray} {maxL : Nat} {ret : Option FieldType}
    (hy : plainName y.cls = true) (hw : ws = Cond.code y cc maxL ret :: ws')
    (body : ∀ p e s m args below meth c s₁, BodyLoose p l y (headSpec ws rm) cc maxL ret e s m args below meth c s₁ → c.maxLocals = maxL → (∀ x ∈ c.exceptionTable.toList, False) → Pc args s →
      W p l e (headSpec ws rm).room s m args below meth c s.heap [] 0 0 (vx_MQ below Qc XC args s mc ms free) (entryFrame m args maxL)) : vx_Met l y ws rm Pc Qc XC mc ms free := by
  refine MetFree.of_bodyS (code := cc) (maxLocals := maxL) (ret := ret) hy ?_ ?_
  · intro args s m h hn
    obtain ⟨meth, c, h1, h2, h3, h4, h5, h6, -, -⟩ := Cond.code_spec hn (atoms_spec (ws := ws) h _ (by rw [hw]; exact List.mem_cons_self))
    exact ⟨meth, c, h1, h2, h3, h4, h5, h6⟩
  · intro p e s m args below meth c s₁ B hml hP _
    have hh0 : s₁.heap = s.heap := by rw [B.state]; rfl
    have ht : ∀ x ∈ c.exceptionTable.toList, False := by
      obtain ⟨meth9, c9, h1, h2, -, -, -, -, h7, -⟩ := Cond.code_spec B.named (atoms_spec (ws := ws) B.pre _ (by rw [hw]; exact List.mem_cons_self))
      cases Option.some.inj (h1.symm.trans B.method)
      cases Option.some.inj (h2.symm.trans (Stand.of_body B).code)
      intro x hx
      rw [Array.isEmpty_iff.mp h7] at hx
      cases hx
    obtain ⟨t, a1, o, b1, b2, b3⟩ := body p e s m args below meth c s₁ B hml ht hP s₁ hh0 (Stand.of_body B)
    exact ⟨t, o, a1, b1, b2, b3⟩
/-- the table of a body with handlers -/
theorem vx_table {p : Program} {x y : MethodName} {S : Spec} {cc bytes : ByteArray} {maxL maxL' : Nat} {ret ret' : Option FieldType} {e : Env} {s s₁ : State} {m : MethodId} {args : Array Value} {below : List Frame} {meth : Method} {c : Code} {hh : List (Nat × Nat × Nat × Nat)}
    (B : BodyLoose p l y S cc maxL ret e s m args below meth c s₁) (h : (Cond.codeWith y bytes maxL' ret' hh).before args s = true) : c.exceptionTable.toList = tableOf hh := by
  obtain ⟨m9, meth9, c9, hn9, h1, h2, -, -, h6, -⟩ := Cond.codeWith_spec h
  cases Option.some.inj (hn9.symm.trans B.named)
  cases Option.some.inj (h1.symm.trans B.method)
  cases Option.some.inj (h2.symm.trans (Stand.of_body B).code)
  rw [← h6, table_eq]
end Bodies
end VXA
/-! ===== END ===== -/
/-! ===== BEGIN a static call of a method with an exception table ===== -/
section VXS
variable {p : Program} {l : Launch} {e : Env} {R : Room} {s : State} {m : MethodId} {args : Array Value} {below : List Frame} {meth : Method} {c : Code} {T : State} {H : Heap} {locs : List Loc} {cells slots : Nat}
abbrev vx_CSW (R : Room) (s : State) (args : Array Value) (own : String) (index : Nat) (y : MethodName) (bytes : ByteArray) (maxL : Nat) (ret : Option FieldType) (hh : List (Nat × Nat × Nat × Nat)) (ws : List Cond) (rm : Room) (mc ms n : Nat) : Prop :=
  (rm.cells = mc ∧ rm.slots = ms ∧ rm.frames + 1 ≤ R.frames ∧ 8 + (maxL + 11) + rm.locals ≤ R.locals ∧ (∀ w ∈ ws, ∀ (a' : Array Value) (U : State), s.WarmedH U.vm → w.before a' U = true) ∧ Cond.codeWith y bytes maxL ret hh ∈ ws) ∧
  (Cond.codeWith y bytes maxL ret hh).before args s = true ∧ (Cond.initialized y.cls).before args s = true ∧ (y.cls ≠ "java/lang/invoke/MethodHandle" ∧ y.cls ≠ "java/lang/invoke/VarHandle") ∧
  (∀ sig, parseMethodDescriptor y.desc = some sig → n = sig.parameters.length) ∧ (Cond.methodLink own index y).before args s = true ∧ (Cond.static y).before args s = true
theorem vx_cwSW {own : String} {index maxL mc ms : Nat} {y : MethodName} {bytes : ByteArray} {ret : Option FieldType} {hh : List (Nat × Nat × Nat × Nat)} {Ts ws ws' : List Cond} {rm : Room} (n : Nat) (ht : ∀ w ∈ Ts, w.before args s = true) (hT : GoodIn Ts (va_wsS own index y ws)) (hw : ws = Cond.codeWith y bytes maxL ret hh :: ws') (hrc : rm.cells = mc) (hrs : rm.slots = ms)
    (hd : y.cls ≠ "java/lang/invoke/MethodHandle" ∧ y.cls ≠ "java/lang/invoke/VarHandle" ∧ (parseMethodDescriptor y.desc).map (fun d => d.parameters.length) = some n) (hR : rm.frames + 1 ≤ R.frames ∧ 8 + (maxL + 11) + rm.locals ≤ R.locals) :
    vx_CSW R s args own index y bytes maxL ret hh ws rm mc ms n := by
  have ok : ∀ w ∈ va_wsS own index y ws, w.before args s = true := fun w h => ht w (hT w h).1
  have hG : GoodIn Ts ws := fun w h => hT w (by unfold va_wsS; exact List.mem_append_right _ h)
  have hc : Cond.codeWith y bytes maxL ret hh ∈ ws := by rw [hw]; exact List.mem_cons_self
  refine ⟨⟨hrc, hrs, hR.1, hR.2, pay_in ht hG, hc⟩, ht _ (hG _ hc).1, ok _ (by simp [va_wsS]), ⟨hd.1, hd.2.1⟩, fun sig h => ?_, ok _ (by simp [va_wsS]), ok _ (by simp [va_wsS])⟩
  have h2 := hd.2.2
  rw [h] at h2
  exact (Option.some.inj h2).symm
theorem vx_callSW (X : Stand p l e R s m args below meth c T locs cells slots) (hexec : p.tables.exec = Jvm.exec) {own : String} {index : Nat} {y : MethodName} {bytes : ByteArray} {maxL : Nat} {ret : Option FieldType} {hh : List (Nat × Nat × Nat × Nat)}
    (hown : s.vm.findClass own = some m.cls) (hlink : (Cond.methodLink own index y).before args s = true) (hstat : (Cond.static y).before args s = true) (hinit : (Cond.initialized y.cls).before args s = true)
    (hcode : (Cond.codeWith y bytes maxL ret hh).before args s = true) (hy : y.cls ≠ "java/lang/invoke/MethodHandle" ∧ y.cls ≠ "java/lang/invoke/VarHandle")
    {W9 : Nat} {Pre : Pt → Array Value → Prop} {Post : Pt → Array Value → Option Value → Pt → Prop} (hK : Back l R p e below s args y 3 W9 Pre Post)
    {g : JFrame} (hg : g.method = m) (hsize : g.locals.size = c.maxLocals) {argsL rest : List Value} (hlen : ∀ sig, parseMethodDescriptor y.desc = some sig → argsL.length = sig.parameters.length)
    (hstack : g.stack = argsL.reverse ++ rest) (hW : 2 * g.monitorRoom + (rest.map fun v => v.category).sum ≤ W9) (hdg : decode c.code g.pc = .ok (.invokestatic index, 3))
    (hpre : ∀ vm₁, s.WarmedH vm₁ → Pre ⟨T.setVm vm₁, locs, cells, slots⟩ argsL.toArray) :
    ∃ (v : Option Value) (vm₁ : Vm) (B : Pt), s.WarmedH vm₁ ∧ Stand p l e R s m args below meth c B.U B.locs B.cells B.slots ∧ Post ⟨T.setVm vm₁, locs, cells, slots⟩ argsL.toArray v B ∧
      ∀ target, Steps p.tables e below (B.U.setTop { g with pc := g.pc + 3, stack := v.toList ++ rest }) target → Steps p.tables e below (T.setTop g) target := by
  obtain ⟨mk, methM, cM, hnamed, hmethM, -, -, -, -, -, -, hsigM⟩ := Cond.codeWith_spec hcode
  have hstatic : methM.isStatic = true := Cond.static_spec hnamed hmethM hstat
  obtain ⟨kP, hkP, -⟩ := className_of_methodNamed hnamed
  have hinitP : kP.init = .initialized := Cond.initialized_spec (findClass_of_methodNamed hnamed) hkP hinit
  obtain ⟨vm₁, X₁, hstep₁⟩ := X.invokestatic hexec hown hlink hnamed hmethM hstatic hkP hinitP hy (g := g) hg (argsL := argsL) (rest := rest) (hlen _ hsigM) hstack hdg
  obtain ⟨v, B, X', hpost, hsteps⟩ := hK m meth c ⟨T.setVm vm₁, locs, cells, slots⟩ { g with stack := rest } (.invokestatic index) mk argsL.toArray X₁ hg hsize hdg hW (X₁.named hnamed) (hpre vm₁ X₁.warmed)
  exact ⟨v, vm₁, B, X₁.warmed, X', hpost, fun target h => hstep₁ _ fun acts => by rw [doInvoke_state]; exact hsteps.trans h⟩
theorem vx_runSW {y : MethodName} {bytes cc : ByteArray} {maxL nL mc ms n index : Nat} {ret : Option FieldType} {hh : List (Nat × Nat × Nat × Nat)} {ws : List Cond} {rm : Room} {Pc : Array Value → State → Prop} {Qc : Array Value → State → Outcome → State → Prop} {free : Addr → Prop} {Ts : List Cond} {own : String} {As rest : List Value} {g : JFrame}
    (S : CallFix p m c cc nL s args Ts own) (hM : Met l y ws rm Pc Qc mc ms free) (cw : vx_CSW R s args own index y bytes maxL ret hh ws rm mc ms n) (hp : PreS s H Pc As)
    (hg : g.method = m) (hn : As.length = n) (hsize : g.locals.size = nL) (hstack : g.stack = As.reverse ++ rest) (hW : 2 * g.monitorRoom + (rest.map fun v => v.category).sum ≤ 8) (hdg : decode cc g.pc = .ok (.invokestatic index, 3)) (hf : cells + mc ≤ R.cells ∧ slots + ms ≤ R.slots) :
    va_Run p l e R s m args below meth c H locs cells slots mc ms g rest (Qc As.toArray) (free) := by
  obtain ⟨⟨hrc, hrs, hfr, hlo, hws, hcw⟩, hcode, hini, hy, hlen, hl, hstt⟩ := cw
  have hK : Back l R p e below s args y 3 8 (PreOf R mc ms Pc) (PostOf Qc mc ms free) := va_backW (hh := hh) (bytes := bytes) (maxL := maxL) (ret := ret) hM hp.1 hrc hrs hfr hlo hws hcw (fun a' U hW => word_at hW (Or.inl (by first | rfl | simp [Cond.onTables, Cond.keeps, Cond.steady])) hini)
  obtain ⟨hx, hb, hml, ho, -⟩ := S
  intro T hT X
  obtain ⟨v, vm₁, ⟨U', l2, c2, s2⟩, hW₁, X', ⟨g', mk, t, L, e1, e2, hq, h1, hL, h2, h3⟩, st⟩ := vx_callSW X hx (hh := hh) (bytes := bytes) (maxL := maxL) (ret := ret) ho hl hstt hini hcode hy hK hg (hsize.trans hml.symm) (argsL := As) (rest := rest) (fun sig h => hn.trans (hlen sig h)) hstack hW (by rw [hb]; exact hdg)
    (fun vm₁ hW₁ => ⟨hf.1, hf.2, hp.2 (T.setVm vm₁) hT hW₁⟩)
  dsimp only [Pt.U, Pt.locs, Pt.cells, Pt.slots] at X' e1 e2 h1 h2 h3 st
  subst h1; subst h2; subst h3
  exact ⟨v, (T.setVm vm₁).calling g' mk As.toArray, t, U', L, hT, X', hL, e1, e2, hq, st⟩
/-- not caught here, past rows that name other classes: it goes on to the caller -/
theorem vx_outP {p : Program} {l : Launch} {e : Env} {R : Room} {s : State} {m : MethodId} {args : Array Value} {below : List Frame} {meth : Method} {c : Code} {H : Heap} {locs : List Loc} {cells slots : Nat} {free : Addr → Prop} {ls : Array Slot} {rest : List Value} {Qc : Array Value → State → Outcome → State → Prop} {XC : String → State → State → Prop}
    {pc : Nat} {own E : String} {ce : Cell} {q : Addr} {mc ms : Nat} (hown : s.vm.findClass own = some m.cls) (hlocks : meth.locks = false)
    (hpass : ∀ z ∈ c.exceptionTable.toList, covers z pc = false ∨ (z.catchType ≠ 0 ∧ ∃ nm : String, (Cond.classLink own z.catchType nm).before args s = true ∧ va_Nc E nm s)) (hcell : H[q]? = some ce) (hv : ce.vm = .none) (hcl : s.vm.findClass E = some ce.cls)
    (hx : ∀ t : State, t.heap = H → s.vm.Alike t.vm → XC E s t) (hf : ∀ z ∈ locs, free z.base) (hc : cells ≤ mc) (hs : slots ≤ ms) :
    vx_W p l e R s m args below meth c H locs cells slots (vx_MQ below Qc XC args s mc ms free) (F0 m pc ls rest) q := by
  intro T hT X
  have hpl : e.platform.magicAccessors = ({} : Platform).magicAccessors := by rw [X.admits.platform]
  obtain ⟨vm', hW', X', st⟩ := X.outThrough hlocks q (g := F0 m pc ls rest) rfl rfl rfl (cell := ce) (by rw [hT]; exact hcell) (by rw [hv]; rfl)
    (by obtain ⟨k9, h9, -⟩ := Vm.findClass_spec hcl; exact ⟨k9, h9⟩) (fun z hz => by
      rcases hpass z hz with h | ⟨hz0, nm, hl1, hn1⟩
      · exact Or.inl h
      · obtain ⟨c6, hc6, hcl6⟩ := Cond.classLink_spec hown hl1 e.platform hpl
        obtain ⟨a8, b8, h1, h2, h3⟩ := hn1
        cases Option.some.inj (h1.symm.trans hcl)
        cases Option.some.inj (h2.symm.trans hc6)
        exact Or.inr ⟨hz0, _, hcl6, h3⟩)
  obtain ⟨g₀, hfr⟩ := X'.frames_eq
  have hcell9 : ((T.setVm vm').setFrames (.throwing q :: below)).heap[q]? = some ce := by
    show T.heap[q]? = some ce
    rw [hT]; exact hcell
  have hend : Ended ((T.setVm vm').setFrames (.throwing q :: below)) below (.threw q) := State.frames_setFrames _ (State.cur_lt_of_frames hfr)
  refine ⟨(T.setVm vm').setFrames (.throwing q :: below), ?_, .threw q, X'.here.running, hend, Or.inr ⟨q, rfl, E, ce, locs, hx _ hT (X'.ends _).1.alike, hcell9, hv, hcl, (X'.ends _).1, (X'.ends _).2.mono hc hs, hf⟩⟩
  rw [X.pushThrowing_eq]
  exact st
/-- a thing of a world lies in the heap -/
theorem vx_lt {D : va_G} {cl : List vw_C} {ws : va_W} {H1 : Heap} (h : va_P D cl ws H1) {k : Nat} {q : Nat × va_E} (hk : ws[k]? = some q) : q.1 < H1.size := (h k q hk).lt
end VXS
/-! ===== END ===== -/
/-! ===== BEGIN methods with a table of their own: called by a name, returning or throwing ===== -/
section VXH
/-! vx_backW, vx_callVX, vx_callSX, vx_callVW, vx_runVW, vx_runVX, vx_runSX, vx_ofWH follow the same proofs as their sisters above (Free/Laws.lean, Shelf42/LK1.lean); vx_outP calls Shelf42/NT130.lean (outThrough). -/
section
variable {l : Launch} {R : Room} {p : Program} {e : Env} {below : List Frame} {s : State} {sargs : Array Value} {y : MethodName} {len W9 : Nat}
theorem vx_backW {ws : List Cond} {rm : Room} {Pc : Array Value → State → Prop} {Qc : Array Value → State → Outcome → State → Prop} {XC : String → State → State → Prop} {mc ms : Nat} {free : Addr → Prop} {bytes : ByteArray} {maxL : Nat} {ret : Option FieldType} {hh : List (Nat × Nat × Nat × Nat)}
    (hM : vx_Met l y ws rm Pc Qc XC mc ms free) (hblind : FrameBlind Pc) (hrc : rm.cells = mc) (hrs : rm.slots = ms)
    (hframes : rm.frames + 1 ≤ R.frames) (hlocals : W9 + (maxL + 11) + rm.locals ≤ R.locals)
    (hws : ∀ w ∈ ws, ∀ a' U, s.WarmedH U.vm → w.before a' U = true) (hcode : Cond.codeWith y bytes maxL ret hh ∈ ws) (hinit : ∀ a' U, s.WarmedH U.vm → (Cond.initialized y.cls).before a' U = true) :
    vx_Back l R p e below s sargs y len W9 (PreOf R mc ms Pc) (PostOf Qc mc ms free) (vx_Post XC mc ms free) := by
  intro m meth c A g ig mk a X hg hsize hdg hW hn hp
  have h1 : (headSpec ws rm).pre.before a A.U = true := atoms_intro fun w hw => hws w hw _ _ X.warmed
  have h2 : (Cond.codeWith y bytes maxL ret hh).before a A.U = true := hws _ hcode _ _ X.warmed
  have h3 : (Cond.initialized y.cls).before a A.U = true := hinit _ _ X.warmed
  have h4 : A.cells + (headSpec ws rm).room.cells ≤ R.cells := by rw [show (headSpec ws rm).room.cells = mc from hrc]; exact hp.1
  have h5 : A.slots + (headSpec ws rm).room.slots ≤ R.slots := by rw [show (headSpec ws rm).room.slots = ms from hrs]; exact hp.2.1
  have hPc : Pc a (A.U.calling g mk a) := hblind _ _ _ _ hp.2.2
  obtain ⟨U, Ls, c0, s0⟩ := A
  dsimp only [Pt.U, Pt.locs, Pt.cells, Pt.slots] at h1 h2 h3 h4 h5 X hn hPc ⊢
  obtain ⟨m9, methY, cY, hn9, hmY, hcY, -, hlY, -⟩ := Cond.codeWith_spec h2
  cases Option.some.inj (hn9.symm.trans hn)
  obtain ⟨kY, hkY, -⟩ := className_of_methodNamed hn
  have hinitY : kY.init = .initialized := Cond.initialized_spec (findClass_of_methodNamed hn) hkY h3
  have h : At U g.method c below := by rw [hg]; exact X.here
  have hlocals9 : W9 + (maxL + 11) + (headSpec ws rm).room.locals ≤ R.locals := hlocals
  have happ : (headSpec ws rm).appliesLoose y e.platform (U.calling g mk a) = true :=
    Spec.appliesLoose_calling (g := g) h hdg hn hkY hinitY
      (X.room_calling (g := g) (R' := (headSpec ws rm).room) hsize hmY hcY hframes (by rw [hlY]; omega) h4 h5) h1
  obtain ⟨mid, hmid⟩ := h.above
  have hfr : (U.setTop g).frames = (.java g :: mid) ++ below := by rw [State.frames_setTop' g h.top, hmid]; rfl
  obtain ⟨o, s₂, hsteps, -, hend, hq⟩ := Steps.callFree hM p X.admits X.cas X.clock (acts := []) hfr happ hPc trivial
  have hq' : vx_Q Qc XC mc ms free a (U.calling g mk a) o s₂ := hq
  rw [State.frames_setTop' g h.top] at hend
  obtain ⟨g₀, hg0⟩ := Option.isSome_iff_exists.mp h.top
  obtain ⟨r, hr⟩ := State.topJava?_eq_some.mp hg0
  have hr' : (({ U with heap := s₂.heap, slotsUsed := s₂.slotsUsed } : State).setVm s₂.vm).frames = .java g₀ :: r := hr
  rcases hq' with ⟨hqc, L, hfe, hL⟩ | ⟨q, rfl, E, ce, L, hx, hce, hcv, hcl, hW₂, hsm, hL⟩
  · obtain ⟨⟨v, rfl⟩, hW₂, e2, q2, q3, q4, q5, q6⟩ := id hfe
    have e3 : s₂ = ({ (U.calling g mk a).setFrames s₂.frames with heap := s₂.heap, slotsUsed := s₂.slotsUsed } : State).setVm s₂.vm := by
      have : s₂ = ({ s₂ with vm := (U.calling g mk a).vm } : State).setVm s₂.vm := rfl
      rw [e2] at this
      exact this
    obtain ⟨c₂, i₂, len₂, hc₂, hd₂, hf₂⟩ := hend
    have hW' : U.WarmedH s₂.vm := hW₂
    have hcc : c₂ = c := by
      have h1 : s₂.code? g.method = U.code? g.method := by
        rw [State.code?_eq, State.code?_eq, hW'.alike.method?]
      exact Option.some.inj (hc₂.symm.trans (h1.trans h.code))
    subst hcc
    have hlen : len₂ = len := by rw [hdg] at hd₂; cases hd₂; rfl
    subst hlen
    have hs₂ : s₂ = (({ U with heap := s₂.heap, slotsUsed := s₂.slotsUsed } : State).setVm s₂.vm).setTop { g with pc := g.pc + len₂, stack := v.toList ++ g.stack } := by
      refine e3.trans ?_
      rw [hf₂, State.calling_eq h.top, State.setFrames_setFrames, State.setTop_of_frames _ hr', hr]
      rfl
    have hsame : U.sameButNew ({ U with heap := s₂.heap, slotsUsed := s₂.slotsUsed } : State) L mc ms := by
      refine ⟨?_, q2, q3, q4, q5, q6⟩
      obtain ⟨t, ht, -⟩ := State.frames_cons hr
      show ({ U with heap := s₂.heap, slotsUsed := s₂.slotsUsed } : State) = { U.setFrames U.frames with heap := s₂.heap, slotsUsed := s₂.slotsUsed }
      rw [State.setFrames_self ht]
    subst hg
    refine Or.inl ⟨v, ⟨(({ U with heap := s₂.heap, slotsUsed := s₂.slotsUsed } : State).setVm s₂.vm), Ls ++ L, c0 + mc, s0 + ms⟩,
      ⟨X.admits, X.cas, X.clock, X.frames, X.room, X.hears, X.method, X.code, (X.here.setHeapUsed s₂.heap s₂.slotsUsed).setVm hW'.alike, X.tail, State.WarmedH.trans X.warmed hW', X.limits, X.bytes, X.same.trans (hsame.setVm s.vm)⟩,
      ⟨g, mk, s₂, L, rfl, rfl, hqc, rfl, hL, rfl, rfl⟩, ?_⟩
    show Steps p.tables e below _ ((({ U with heap := s₂.heap, slotsUsed := s₂.slotsUsed } : State).setVm s₂.vm).setTop { g with pc := g.pc + len₂, stack := v.toList ++ g.stack })
    rw [← hs₂]
    exact hsteps
  · obtain ⟨e2, q2, q3, q4, q5, q6⟩ := id hsm
    have e3 : s₂ = ({ (U.calling g mk a).setFrames s₂.frames with heap := s₂.heap, slotsUsed := s₂.slotsUsed } : State).setVm s₂.vm := by
      have : s₂ = ({ s₂ with vm := (U.calling g mk a).vm } : State).setVm s₂.vm := rfl
      rw [e2] at this
      exact this
    have hf₂ : s₂.frames = .throwing q :: .java g :: U.frames.tail := hend
    have hW' : U.WarmedH s₂.vm := hW₂
    have hs₂ : s₂ = ((({ U with heap := s₂.heap, slotsUsed := s₂.slotsUsed } : State).setVm s₂.vm).setTop g).pushFrame (.throwing q) := by
      refine e3.trans ?_
      rw [hf₂, State.calling_eq h.top, State.setFrames_setFrames, State.pushFrame, State.frames_setTop _ hr', State.setTop_of_frames _ hr', State.setFrames_setFrames, hr]
      rfl
    have hsame : U.sameButNew ({ U with heap := s₂.heap, slotsUsed := s₂.slotsUsed } : State) L mc ms := by
      refine ⟨?_, q2, q3, q4, q5, q6⟩
      obtain ⟨t, ht, -⟩ := State.frames_cons hr
      show ({ U with heap := s₂.heap, slotsUsed := s₂.slotsUsed } : State) = { U.setFrames U.frames with heap := s₂.heap, slotsUsed := s₂.slotsUsed }
      rw [State.setFrames_self ht]
    subst hg
    refine Or.inr ⟨q, ⟨(({ U with heap := s₂.heap, slotsUsed := s₂.slotsUsed } : State).setVm s₂.vm), Ls ++ L, c0 + mc, s0 + ms⟩,
      ⟨X.admits, X.cas, X.clock, X.frames, X.room, X.hears, X.method, X.code, (X.here.setHeapUsed s₂.heap s₂.slotsUsed).setVm hW'.alike, X.tail, State.WarmedH.trans X.warmed hW', X.limits, X.bytes, X.same.trans (hsame.setVm s.vm)⟩,
      ⟨g, mk, s₂, L, E, ce, rfl, rfl, hx, hce, hcv, hcl, rfl, hL, rfl, rfl⟩, ?_⟩
    show Steps p.tables e below _ (((({ U with heap := s₂.heap, slotsUsed := s₂.slotsUsed } : State).setVm s₂.vm).setTop g).pushFrame (.throwing q))
    rw [← hs₂]
    exact hsteps
end
variable {p : Program} {l : Launch} {e : Env} {R : Room} {s : State} {m : MethodId} {args : Array Value} {below : List Frame} {meth : Method} {c : Code} {T : State} {H : Heap} {locs : List Loc} {cells slots : Nat}
theorem vx_callVX (X : Stand p l e R s m args below meth c T locs cells slots) (hexec : p.tables.exec = Jvm.exec) {own C : String} {index : Nat} {y : MethodName} {bytes : ByteArray} {maxL : Nat} {ret : Option FieldType} {hh : List (Nat × Nat × Nat × Nat)}
    (hown : s.vm.findClass own = some m.cls) (hlink : (Cond.methodLink own index y).before args s = true) (hinst : (Cond.instanceMethod y).before args s = true) (hsel : (Cond.selects C y y).before args s = true)
    (hcode : (Cond.codeWith y bytes maxL ret hh).before args s = true) (hy : y.cls ≠ "java/lang/invoke/MethodHandle" ∧ y.cls ≠ "java/lang/invoke/VarHandle")
    {W9 : Nat} {Pre : Pt → Array Value → Prop} {Post : Pt → Array Value → Option Value → Pt → Prop} {PostX : Pt → Array Value → Addr → Pt → Prop} (hK : vx_Back l R p e below s args y 3 W9 Pre Post PostX)
    {b : Addr} {cellB : Cell} (hcell : T.heap[b]? = some cellB) (hobj : cellB.vm.isStatics = false) (hcls : s.vm.findClass C = some cellB.cls)
    {g : JFrame} (hg : g.method = m) (hsize : g.locals.size = c.maxLocals) {argsL rest : List Value} (hlen : ∀ sig, parseMethodDescriptor y.desc = some sig → argsL.length = sig.parameters.length)
    (hstack : g.stack = argsL.reverse ++ .ref b :: rest) (hW : 2 * g.monitorRoom + (rest.map fun v => v.category).sum ≤ W9) (hdg : decode c.code g.pc = .ok (.invokevirtual index, 3))
    (hpre : ∀ vm₁, s.WarmedH vm₁ → Pre ⟨T.setVm vm₁, locs, cells, slots⟩ (Value.ref b :: argsL).toArray) :
    (∃ (v : Option Value) (vm₁ : Vm) (B : Pt), s.WarmedH vm₁ ∧ Stand p l e R s m args below meth c B.U B.locs B.cells B.slots ∧ Post ⟨T.setVm vm₁, locs, cells, slots⟩ (Value.ref b :: argsL).toArray v B ∧
      ∀ target, Steps p.tables e below (B.U.setTop { g with pc := g.pc + 3, stack := v.toList ++ rest }) target → Steps p.tables e below (T.setTop g) target) ∨
    (∃ (q : Addr) (vm₁ : Vm) (B : Pt), s.WarmedH vm₁ ∧ Stand p l e R s m args below meth c B.U B.locs B.cells B.slots ∧ PostX ⟨T.setVm vm₁, locs, cells, slots⟩ (Value.ref b :: argsL).toArray q B ∧
      Steps p.tables e below (T.setTop g) ((B.U.setTop { g with stack := rest }).pushFrame (.throwing q))) := by
  obtain ⟨mk, methM, hnamed, hmethM, hstM, habM⟩ := Cond.instanceMethod_spec hinst
  obtain ⟨m8, methM', cM, hn8, hmethM', -, -, -, -, -, -, hsigM⟩ := Cond.codeWith_spec hcode
  cases Option.some.inj (hn8.symm.trans hnamed)
  cases hmethM.symm.trans hmethM'
  obtain ⟨c2, r2, m2, q1, q2, q3, q4, kP, hkP, hkPi⟩ := Cond.selects_spec hsel
  cases hcls.symm.trans q1
  cases (State.methodFound?_of_named hnamed hy).symm.trans q2
  cases hnamed.symm.trans q3
  have hselP : selectMethod e.platform s.vm cellB.cls mk = .method mk := by rw [Launch.admits_selectMethod X.admits]; exact q4
  obtain ⟨vm₁, X₁, hstep₁⟩ := X.invokevirtual hexec hown hlink hnamed hmethM hstM hkP hkPi hy (a := b) (cell := cellB) hcell
    (fun z h => by rw [h] at hobj; cases hobj) hselP hmethM habM hkP hkPi (g := g) hg (argsL := argsL) (rest := rest) (hlen _ hsigM) hstack hdg
  rcases hK m meth c ⟨T.setVm vm₁, locs, cells, slots⟩ { g with stack := rest } (.invokevirtual index) mk (Value.ref b :: argsL).toArray X₁ hg hsize hdg hW (X₁.named hnamed) (hpre vm₁ X₁.warmed) with ⟨v, B, X', hpost, hsteps⟩ | ⟨q, B, X', hpost, hsteps⟩
  · exact Or.inl ⟨v, vm₁, B, X₁.warmed, X', hpost, fun target h => hstep₁ _ fun acts => by rw [doInvoke_state]; exact hsteps.trans h⟩
  · exact Or.inr ⟨q, vm₁, B, X₁.warmed, X', hpost, hstep₁ _ fun acts => by rw [doInvoke_state]; exact hsteps⟩
theorem vx_callSX (X : Stand p l e R s m args below meth c T locs cells slots) (hexec : p.tables.exec = Jvm.exec) {own : String} {index : Nat} {y : MethodName} {bytes : ByteArray} {maxL : Nat} {ret : Option FieldType} {hh : List (Nat × Nat × Nat × Nat)}
    (hown : s.vm.findClass own = some m.cls) (hlink : (Cond.methodLink own index y).before args s = true) (hstat : (Cond.static y).before args s = true) (hinit : (Cond.initialized y.cls).before args s = true)
    (hcode : (Cond.codeWith y bytes maxL ret hh).before args s = true) (hy : y.cls ≠ "java/lang/invoke/MethodHandle" ∧ y.cls ≠ "java/lang/invoke/VarHandle")
    {W9 : Nat} {Pre : Pt → Array Value → Prop} {Post : Pt → Array Value → Option Value → Pt → Prop} {PostX : Pt → Array Value → Addr → Pt → Prop} (hK : vx_Back l R p e below s args y 3 W9 Pre Post PostX)
    {g : JFrame} (hg : g.method = m) (hsize : g.locals.size = c.maxLocals) {argsL rest : List Value} (hlen : ∀ sig, parseMethodDescriptor y.desc = some sig → argsL.length = sig.parameters.length)
    (hstack : g.stack = argsL.reverse ++ rest) (hW : 2 * g.monitorRoom + (rest.map fun v => v.category).sum ≤ W9) (hdg : decode c.code g.pc = .ok (.invokestatic index, 3))
    (hpre : ∀ vm₁, s.WarmedH vm₁ → Pre ⟨T.setVm vm₁, locs, cells, slots⟩ argsL.toArray) :
    (∃ (v : Option Value) (vm₁ : Vm) (B : Pt), s.WarmedH vm₁ ∧ Stand p l e R s m args below meth c B.U B.locs B.cells B.slots ∧ Post ⟨T.setVm vm₁, locs, cells, slots⟩ argsL.toArray v B ∧
      ∀ target, Steps p.tables e below (B.U.setTop { g with pc := g.pc + 3, stack := v.toList ++ rest }) target → Steps p.tables e below (T.setTop g) target) ∨
    (∃ (q : Addr) (vm₁ : Vm) (B : Pt), s.WarmedH vm₁ ∧ Stand p l e R s m args below meth c B.U B.locs B.cells B.slots ∧ PostX ⟨T.setVm vm₁, locs, cells, slots⟩ argsL.toArray q B ∧
      Steps p.tables e below (T.setTop g) ((B.U.setTop { g with stack := rest }).pushFrame (.throwing q))) := by
  obtain ⟨mk, methM, cM, hnamed, hmethM, -, -, -, -, -, -, hsigM⟩ := Cond.codeWith_spec hcode
  have hstatic : methM.isStatic = true := Cond.static_spec hnamed hmethM hstat
  obtain ⟨kP, hkP, -⟩ := className_of_methodNamed hnamed
  have hinitP : kP.init = .initialized := Cond.initialized_spec (findClass_of_methodNamed hnamed) hkP hinit
  obtain ⟨vm₁, X₁, hstep₁⟩ := X.invokestatic hexec hown hlink hnamed hmethM hstatic hkP hinitP hy (g := g) hg (argsL := argsL) (rest := rest) (hlen _ hsigM) hstack hdg
  rcases hK m meth c ⟨T.setVm vm₁, locs, cells, slots⟩ { g with stack := rest } (.invokestatic index) mk argsL.toArray X₁ hg hsize hdg hW (X₁.named hnamed) (hpre vm₁ X₁.warmed) with ⟨v, B, X', hpost, hsteps⟩ | ⟨q, B, X', hpost, hsteps⟩
  · exact Or.inl ⟨v, vm₁, B, X₁.warmed, X', hpost, fun target h => hstep₁ _ fun acts => by rw [doInvoke_state]; exact hsteps.trans h⟩
  · exact Or.inr ⟨q, vm₁, B, X₁.warmed, X', hpost, hstep₁ _ fun acts => by rw [doInvoke_state]; exact hsteps⟩
theorem vx_callVW (X : Stand p l e R s m args below meth c T locs cells slots) (hexec : p.tables.exec = Jvm.exec) {own C : String} {index : Nat} {y : MethodName} {bytes : ByteArray} {maxL : Nat} {ret : Option FieldType} {hh : List (Nat × Nat × Nat × Nat)}
    (hown : s.vm.findClass own = some m.cls) (hlink : (Cond.methodLink own index y).before args s = true) (hinst : (Cond.instanceMethod y).before args s = true) (hsel : (Cond.selects C y y).before args s = true)
    (hcode : (Cond.codeWith y bytes maxL ret hh).before args s = true) (hy : y.cls ≠ "java/lang/invoke/MethodHandle" ∧ y.cls ≠ "java/lang/invoke/VarHandle")
    {W9 : Nat} {Pre : Pt → Array Value → Prop} {Post : Pt → Array Value → Option Value → Pt → Prop} (hK : Back l R p e below s args y 3 W9 Pre Post)
    {b : Addr} {cellB : Cell} (hcell : T.heap[b]? = some cellB) (hobj : cellB.vm.isStatics = false) (hcls : s.vm.findClass C = some cellB.cls)
    {g : JFrame} (hg : g.method = m) (hsize : g.locals.size = c.maxLocals) {argsL rest : List Value} (hlen : ∀ sig, parseMethodDescriptor y.desc = some sig → argsL.length = sig.parameters.length)
    (hstack : g.stack = argsL.reverse ++ .ref b :: rest) (hW : 2 * g.monitorRoom + (rest.map fun v => v.category).sum ≤ W9) (hdg : decode c.code g.pc = .ok (.invokevirtual index, 3))
    (hpre : ∀ vm₁, s.WarmedH vm₁ → Pre ⟨T.setVm vm₁, locs, cells, slots⟩ (Value.ref b :: argsL).toArray) :
    ∃ (v : Option Value) (vm₁ : Vm) (B : Pt), s.WarmedH vm₁ ∧ Stand p l e R s m args below meth c B.U B.locs B.cells B.slots ∧ Post ⟨T.setVm vm₁, locs, cells, slots⟩ (Value.ref b :: argsL).toArray v B ∧
      ∀ target, Steps p.tables e below (B.U.setTop { g with pc := g.pc + 3, stack := v.toList ++ rest }) target → Steps p.tables e below (T.setTop g) target := by
  obtain ⟨mk, methM, hnamed, hmethM, hstM, habM⟩ := Cond.instanceMethod_spec hinst
  obtain ⟨m8, methM', cM, hn8, hmethM', -, -, -, -, -, -, hsigM⟩ := Cond.codeWith_spec hcode
  cases Option.some.inj (hn8.symm.trans hnamed)
  cases hmethM.symm.trans hmethM'
  obtain ⟨c2, r2, m2, q1, q2, q3, q4, kP, hkP, hkPi⟩ := Cond.selects_spec hsel
  cases hcls.symm.trans q1
  cases (State.methodFound?_of_named hnamed hy).symm.trans q2
  cases hnamed.symm.trans q3
  have hselP : selectMethod e.platform s.vm cellB.cls mk = .method mk := by rw [Launch.admits_selectMethod X.admits]; exact q4
  obtain ⟨vm₁, X₁, hstep₁⟩ := X.invokevirtual hexec hown hlink hnamed hmethM hstM hkP hkPi hy (a := b) (cell := cellB) hcell
    (fun z h => by rw [h] at hobj; cases hobj) hselP hmethM habM hkP hkPi (g := g) hg (argsL := argsL) (rest := rest) (hlen _ hsigM) hstack hdg
  obtain ⟨v, B, X', hpost, hsteps⟩ := hK m meth c ⟨T.setVm vm₁, locs, cells, slots⟩ { g with stack := rest } (.invokevirtual index) mk (Value.ref b :: argsL).toArray X₁ hg hsize hdg hW (X₁.named hnamed) (hpre vm₁ X₁.warmed)
  exact ⟨v, vm₁, B, X₁.warmed, X', hpost, fun target h => hstep₁ _ fun acts => by rw [doInvoke_state]; exact hsteps.trans h⟩
abbrev vx_CVW (R : Room) (s : State) (args : Array Value) (own C : String) (index : Nat) (y : MethodName) (bytes : ByteArray) (maxL : Nat) (ret : Option FieldType) (hh : List (Nat × Nat × Nat × Nat)) (ws : List Cond) (rm : Room) (mc ms n : Nat) : Prop :=
  (rm.cells = mc ∧ rm.slots = ms ∧ rm.frames + 1 ≤ R.frames ∧ 8 + (maxL + 11) + rm.locals ≤ R.locals ∧ (∀ w ∈ ws, ∀ (a' : Array Value) (U : State), s.WarmedH U.vm → w.before a' U = true) ∧ Cond.codeWith y bytes maxL ret hh ∈ ws) ∧
  (Cond.codeWith y bytes maxL ret hh).before args s = true ∧ (Cond.initialized y.cls).before args s = true ∧ (y.cls ≠ "java/lang/invoke/MethodHandle" ∧ y.cls ≠ "java/lang/invoke/VarHandle") ∧
  (∀ sig, parseMethodDescriptor y.desc = some sig → n = sig.parameters.length) ∧ (Cond.methodLink own index y).before args s = true ∧ (Cond.instanceMethod y).before args s = true ∧ (Cond.selects C y y).before args s = true
theorem vx_cwVW {own C : String} {index maxL mc ms : Nat} {y : MethodName} {bytes : ByteArray} {ret : Option FieldType} {hh : List (Nat × Nat × Nat × Nat)} {Ts ws ws' : List Cond} {rm : Room} (n : Nat) (ht : ∀ w ∈ Ts, w.before args s = true) (hT : GoodIn Ts (wsV own index C y ws)) (hw : ws = Cond.codeWith y bytes maxL ret hh :: ws') (hrc : rm.cells = mc) (hrs : rm.slots = ms)
    (hd : y.cls = C ∧ y.cls ≠ "java/lang/invoke/MethodHandle" ∧ y.cls ≠ "java/lang/invoke/VarHandle" ∧ (parseMethodDescriptor y.desc).map (fun d => d.parameters.length) = some n) (hR : rm.frames + 1 ≤ R.frames ∧ 8 + (maxL + 11) + rm.locals ≤ R.locals) :
    vx_CVW R s args own C index y bytes maxL ret hh ws rm mc ms n := by
  obtain ⟨hC, hd⟩ := hd
  subst hC
  have ok : ∀ w ∈ wsV own index y.cls y ws, w.before args s = true := fun w h => ht w (hT w h).1
  have hG : GoodIn Ts ws := fun w h => hT w (by unfold wsV; exact List.mem_append_right _ h)
  have hc : Cond.codeWith y bytes maxL ret hh ∈ ws := by rw [hw]; exact List.mem_cons_self
  refine ⟨⟨hrc, hrs, hR.1, hR.2, pay_in ht hG, hc⟩, ht _ (hG _ hc).1, ok _ (by simp [wsV]), ⟨hd.1, hd.2.1⟩, fun sig h => ?_, ok _ (by simp [wsV]), ok _ (by simp [wsV]), ok _ (by simp [wsV])⟩
  have h2 := hd.2.2
  rw [h] at h2
  exact (Option.some.inj h2).symm
theorem vx_runVW {y : MethodName} {bytes cc : ByteArray} {maxL nL mc ms n index : Nat} {ret : Option FieldType} {hh : List (Nat × Nat × Nat × Nat)} {ws : List Cond} {rm : Room} {Pc : Array Value → State → Prop} {Qc : Array Value → State → Outcome → State → Prop} {free : Addr → Prop} {Ts : List Cond} {own C : String} {b : Addr} {As rest : List Value} {g : JFrame}
    (S : CallFix p m c cc nL s args Ts own) (hM : Met l y ws rm Pc Qc mc ms free) (cw : vx_CVW R s args own C index y bytes maxL ret hh ws rm mc ms n) (hp : PreV s H C b Pc As)
    (hg : g.method = m) (hn : As.length = n) (hsize : g.locals.size = nL) (hstack : g.stack = As.reverse ++ .ref b :: rest) (hW : 2 * g.monitorRoom + (rest.map fun v => v.category).sum ≤ 8) (hdg : decode cc g.pc = .ok (.invokevirtual index, 3)) (hf : cells + mc ≤ R.cells ∧ slots + ms ≤ R.slots) :
    va_Run p l e R s m args below meth c H locs cells slots mc ms g rest (Qc (Value.ref b :: As).toArray) free := by
  obtain ⟨⟨hrc, hrs, hfr, hlo, hws, hcw⟩, hcode, hini, hy, hlen, hl, hin, hse⟩ := cw
  have hK : Back l R p e below s args y 3 8 (PreOf R mc ms Pc) (PostOf Qc mc ms free) := va_backW (hh := hh) (bytes := bytes) (maxL := maxL) (ret := ret) hM hp.1 hrc hrs hfr hlo hws hcw (fun a' U hW => word_at hW (Or.inl (by first | rfl | simp [Cond.onTables, Cond.keeps, Cond.steady])) hini)
  obtain ⟨hx, hb, hml, ho, -⟩ := S
  obtain ⟨-, ⟨cellB, hcB, hoB, hclB⟩, hPc⟩ := hp
  intro T hT X
  obtain ⟨v, vm₁, ⟨U', l2, c2, s2⟩, hW₁, X', ⟨g', mk, t, L, e1, e2, hq, h1, hL, h2, h3⟩, st⟩ := vx_callVW X hx (C := C) (hh := hh) (bytes := bytes) (maxL := maxL) (ret := ret) ho hl hin hse hcode hy hK (by rw [hT]; exact hcB) hoB hclB hg (hsize.trans hml.symm) (argsL := As) (rest := rest) (fun sig h => hn.trans (hlen sig h)) hstack hW (by rw [hb]; exact hdg)
    (fun vm₁ hW₁ => ⟨hf.1, hf.2, hPc (T.setVm vm₁) hT hW₁⟩)
  dsimp only [Pt.U, Pt.locs, Pt.cells, Pt.slots] at X' e1 e2 h1 h2 h3 st
  subst h1; subst h2; subst h3
  exact ⟨v, (T.setVm vm₁).calling g' mk (Value.ref b :: As).toArray, t, U', L, hT, X', hL, e1, e2, hq, st⟩
section
variable {y : MethodName} {bytes cc : ByteArray} {maxL nL mc ms n index : Nat} {ret : Option FieldType} {ws : List Cond} {rm : Room} {Pc : Array Value → State → Prop} {Qc : Array Value → State → Outcome → State → Prop} {XC : String → State → State → Prop} {free : Addr → Prop} {Ts : List Cond} {own C : String} {b : Addr} {As rest : List Value} {g : JFrame}
theorem vx_runVX {hh : List (Nat × Nat × Nat × Nat)} (S : CallFix p m c cc nL s args Ts own) (hM : vx_Met l y ws rm Pc Qc XC mc ms free) (cw : vx_CVW R s args own C index y bytes maxL ret hh ws rm mc ms n) (hp : PreV s H C b Pc As)
    (hg : g.method = m) (hn : As.length = n) (hsize : g.locals.size = nL) (hstack : g.stack = As.reverse ++ .ref b :: rest) (hW : 2 * g.monitorRoom + (rest.map fun v => v.category).sum ≤ 8) (hdg : decode cc g.pc = .ok (.invokevirtual index, 3)) (hf : cells + mc ≤ R.cells ∧ slots + ms ≤ R.slots) :
    vx_Run p l e R s m args below meth c H locs cells slots mc ms g rest (Qc (Value.ref b :: As).toArray) XC free := by
  obtain ⟨⟨hrc, hrs, hfr, hlo, hws, hcw⟩, hcode, hini, hy, hlen, hl, hin, hse⟩ := cw
  have hK : vx_Back l R p e below s args y 3 8 (PreOf R mc ms Pc) (PostOf Qc mc ms free) (vx_Post XC mc ms free) := vx_backW (hh := hh) (bytes := bytes) (maxL := maxL) (ret := ret) hM hp.1 hrc hrs hfr hlo hws hcw (fun a' U hW => word_at hW (Or.inl (by first | rfl | simp [Cond.onTables, Cond.keeps, Cond.steady])) hini)
  obtain ⟨hx, hb, hml, ho, -⟩ := S
  obtain ⟨-, ⟨cellB, hcB, hoB, hclB⟩, hPc⟩ := hp
  intro T hT X
  rcases vx_callVX X hx (C := C) (hh := hh) (bytes := bytes) (maxL := maxL) (ret := ret) ho hl hin hse hcode hy hK (by rw [hT]; exact hcB) hoB hclB hg (hsize.trans hml.symm) (argsL := As) (rest := rest) (fun sig h => hn.trans (hlen sig h)) hstack hW (by rw [hb]; exact hdg)
    (fun vm₁ hW₁ => ⟨hf.1, hf.2, hPc (T.setVm vm₁) hT hW₁⟩) with ⟨v, vm₁, ⟨U', l2, c2, s2⟩, hW₁, X', ⟨g', mk, t, L, e1, e2, hq, h1, hL, h2, h3⟩, st⟩ | ⟨q, vm₁, ⟨U', l2, c2, s2⟩, hW₁, X', ⟨g', mk, t, L, E, ce, e1, e2, hq, hce, hcv, hcl, h1, hL, h2, h3⟩, st⟩
  · dsimp only [Pt.U, Pt.locs, Pt.cells, Pt.slots] at X' e1 e2 h1 h2 h3 st
    subst h1; subst h2; subst h3
    exact Or.inl ⟨v, (T.setVm vm₁).calling g' mk (Value.ref b :: As).toArray, t, U', L, hT, X', hL, e1, e2, hq, st⟩
  · dsimp only [Pt.U, Pt.locs, Pt.cells, Pt.slots] at X' e1 e2 h1 h2 h3 st hcl
    subst h1; subst h2; subst h3
    exact Or.inr ⟨q, (T.setVm vm₁).calling g' mk (Value.ref b :: As).toArray, t, U', L, E, ce, hT, X', hL, e1, e2, hq, hce, hcv, vx_cls hW₁ hcl, st⟩
theorem vx_runSX {hh : List (Nat × Nat × Nat × Nat)} (S : CallFix p m c cc nL s args Ts own) (hM : vx_Met l y ws rm Pc Qc XC mc ms free) (cw : vx_CSW R s args own index y bytes maxL ret hh ws rm mc ms n) (hp : PreS s H Pc As)
    (hg : g.method = m) (hn : As.length = n) (hsize : g.locals.size = nL) (hstack : g.stack = As.reverse ++ rest) (hW : 2 * g.monitorRoom + (rest.map fun v => v.category).sum ≤ 8) (hdg : decode cc g.pc = .ok (.invokestatic index, 3)) (hf : cells + mc ≤ R.cells ∧ slots + ms ≤ R.slots) :
    vx_Run p l e R s m args below meth c H locs cells slots mc ms g rest (Qc As.toArray) XC free := by
  obtain ⟨⟨hrc, hrs, hfr, hlo, hws, hcw⟩, hcode, hini, hy, hlen, hl, hstt⟩ := cw
  have hK : vx_Back l R p e below s args y 3 8 (PreOf R mc ms Pc) (PostOf Qc mc ms free) (vx_Post XC mc ms free) := vx_backW (hh := hh) (bytes := bytes) (maxL := maxL) (ret := ret) hM hp.1 hrc hrs hfr hlo hws hcw (fun a' U hW => word_at hW (Or.inl (by first | rfl | simp [Cond.onTables, Cond.keeps, Cond.steady])) hini)
  obtain ⟨hx, hb, hml, ho, -⟩ := S
  intro T hT X
  rcases vx_callSX X hx (hh := hh) (bytes := bytes) (maxL := maxL) (ret := ret) ho hl hstt hini hcode hy hK hg (hsize.trans hml.symm) (argsL := As) (rest := rest) (fun sig h => hn.trans (hlen sig h)) hstack hW (by rw [hb]; exact hdg)
    (fun vm₁ hW₁ => ⟨hf.1, hf.2, hp.2 (T.setVm vm₁) hT hW₁⟩) with ⟨v, vm₁, ⟨U', l2, c2, s2⟩, hW₁, X', ⟨g', mk, t, L, e1, e2, hq, h1, hL, h2, h3⟩, st⟩ | ⟨q, vm₁, ⟨U', l2, c2, s2⟩, hW₁, X', ⟨g', mk, t, L, E, ce, e1, e2, hq, hce, hcv, hcl, h1, hL, h2, h3⟩, st⟩
  · dsimp only [Pt.U, Pt.locs, Pt.cells, Pt.slots] at X' e1 e2 h1 h2 h3 st
    subst h1; subst h2; subst h3
    exact Or.inl ⟨v, (T.setVm vm₁).calling g' mk As.toArray, t, U', L, hT, X', hL, e1, e2, hq, st⟩
  · dsimp only [Pt.U, Pt.locs, Pt.cells, Pt.slots] at X' e1 e2 h1 h2 h3 st hcl
    subst h1; subst h2; subst h3
    exact Or.inr ⟨q, (T.setVm vm₁).calling g' mk As.toArray, t, U', L, E, ce, hT, X', hL, e1, e2, hq, hce, hcv, vx_cls hW₁ hcl, st⟩
end
end VXH
theorem vx_ofWH {l : Launch} {y : MethodName} {ws ws' : List Cond} {rm : Room} {Pc : Array Value → State → Prop} {Qc : Array Value → State → Outcome → State → Prop} {XC : String → State → State → Prop} {mc ms : Nat} {free : Addr → Prop} {cc : ByteArray} {maxL : Nat} {ret : Option FieldType} {hh : List (Nat × Nat × Nat × Nat)}
    (hy : plainName y.cls = true) (hw : ws = Cond.codeWith y cc maxL ret hh :: ws')
    (body : ∀ p e s m args below meth c s₁, BodyLoose p l y (headSpec ws rm) cc maxL ret e s m args below meth c s₁ → c.maxLocals = maxL → Pc args s →
      W p l e (headSpec ws rm).room s m args below meth c s.heap [] 0 0 (vx_MQ below Qc XC args s mc ms free) (entryFrame m args maxL)) : vx_Met l y ws rm Pc Qc XC mc ms free := by
  refine MetFree.of_bodyS (code := cc) (maxLocals := maxL) (ret := ret) hy ?_ ?_
  · intro args s m h hn
    obtain ⟨m9, meth, c, hn9, h1, h2, h3, h4, -, h5, h6, -⟩ := Cond.codeWith_spec (atoms_spec (ws := ws) h _ (by rw [hw]; exact List.mem_cons_self))
    cases hn.symm.trans hn9
    exact ⟨meth, c, h1, h2, h3, h4, h5, h6⟩
  · intro p e s m args below meth c s₁ B hml hP _
    have hh0 : s₁.heap = s.heap := by rw [B.state]; rfl
    obtain ⟨t, a1, o, b1, b2, b3⟩ := body p e s m args below meth c s₁ B hml hP s₁ hh0 (Stand.of_body B)
    exact ⟨t, o, a1, b1, b2, b3⟩
/-! ===== END ===== -/
end
section
/-! ===== BEGIN printed: names, fields, word lists, decode rows ===== -/
def RX0 : String := "GameCafe$Copy"
def TX0 : u_T := fun k => match k with
  | 0 => ("GameCafe$Copy", "number", "I", true)
  | 1 => ("GameCafe$Copy", "game", "LGameCafe$Game;", true)
  | 2 => ("GameCafe$Copy", "has", "[I", true)
  | _ => ("GameCafe$Copy", "place", "I", false)
def tyX0 : Nat → FieldType := fun k => match k with
  | 0 => .int
  | 1 => .object "GameCafe$Game"
  | 2 => .array .int
  | _ => .int
abbrev wsX00 : List Cond := u_ws RX0 TX0 4
theorem nmX0 : ∀ a, a < 4 → ∀ b, b < 4 → a ≠ b → (TX0 a).2.1 ≠ (TX0 b).2.1 := by decide +kernel
theorem tyX0_ok : ∀ k, k < 4 → parseFieldDescriptor (TX0 k).2.2.1 = some (tyX0 k) := by decide +kernel
abbrev cX0_init : ByteArray := prog_2_method_1_code
def yX0_init : MethodName := ⟨RX0, "<init>", "(ILGameCafe$Game;)V"⟩
abbrev cX0_isPlayable : ByteArray := prog_2_method_2_code
def yX0_isPlayable : MethodName := ⟨RX0, "isPlayable", "()Z"⟩
abbrev cX0_worth : ByteArray := prog_2_method_3_code
def yX0_worth : MethodName := ⟨RX0, "worth", "()I"⟩
abbrev cX0_fillFrom : ByteArray := prog_2_method_4_code
def yX0_fillFrom : MethodName := ⟨RX0, "fillFrom", "(LGameCafe$Copy;)I"⟩
def RX1 : String := "GameCafe$Game"
def TX1 : u_T := fun k => match k with
  | 0 => ("GameCafe$Game", "least", "I", false)
  | 1 => ("GameCafe$Game", "most", "I", false)
  | 2 => ("GameCafe$Game", "lesson", "I", false)
  | 3 => ("GameCafe$Game", "timesPlayed", "I", false)
  | 4 => ("GameCafe$Game", "whole", "[I", true)
  | _ => ("GameCafe$Game", "need", "[I", true)
def tyX1 : Nat → FieldType := fun k => match k with
  | 0 => .int
  | 1 => .int
  | 2 => .int
  | 3 => .int
  | 4 => .array .int
  | _ => .array .int
abbrev wsX10 : List Cond := u_ws RX1 TX1 6
theorem nmX1 : ∀ a, a < 6 → ∀ b, b < 6 → a ≠ b → (TX1 a).2.1 ≠ (TX1 b).2.1 := by decide +kernel
theorem tyX1_ok : ∀ k, k < 6 → parseFieldDescriptor (TX1 k).2.2.1 = some (tyX1 k) := by decide +kernel
abbrev cX1_init : ByteArray := prog_3_method_1_code
def yX1_init : MethodName := ⟨RX1, "<init>", "()V"⟩
abbrev cX1_isFor : ByteArray := prog_3_method_2_code
def yX1_isFor : MethodName := ⟨RX1, "isFor", "(I)Z"⟩
def RX2 : String := "GameCafe$Group"
def TX2 : u_T := fun k => match k with
  | 0 => ("GameCafe$Group", "copy", "LGameCafe$Copy;", true)
  | 1 => ("GameCafe$Group", "since", "I", true)
  | 2 => ("GameCafe$Group", "people", "I", false)
  | _ => ("GameCafe$Group", "table", "LGameCafe$Table;", false)
def tyX2 : Nat → FieldType := fun k => match k with
  | 0 => .object "GameCafe$Copy"
  | 1 => .int
  | 2 => .int
  | _ => .object "GameCafe$Table"
abbrev wsX20 : List Cond := u_ws RX2 TX2 4
theorem nmX2 : ∀ a, a < 4 → ∀ b, b < 4 → a ≠ b → (TX2 a).2.1 ≠ (TX2 b).2.1 := by decide +kernel
theorem tyX2_ok : ∀ k, k < 4 → parseFieldDescriptor (TX2 k).2.2.1 = some (tyX2 k) := by decide +kernel
abbrev cX2_init : ByteArray := prog_4_method_1_code
def yX2_init : MethodName := ⟨RX2, "<init>", "(ILGameCafe$Table;LGameCafe$Copy;I)V"⟩
def RX3 : String := "GameCafe$Table"
def TX3 : u_T := fun k => match k with
  | 0 => ("GameCafe$Table", "number", "I", true)
  | 1 => ("GameCafe$Table", "seats", "I", false)
  | _ => ("GameCafe$Table", "group", "I", false)
def tyX3 : Nat → FieldType := fun k => match k with
  | 0 => .int
  | 1 => .int
  | _ => .int
abbrev wsX30 : List Cond := u_ws RX3 TX3 3
theorem nmX3 : ∀ a, a < 3 → ∀ b, b < 3 → a ≠ b → (TX3 a).2.1 ≠ (TX3 b).2.1 := by decide +kernel
theorem tyX3_ok : ∀ k, k < 3 → parseFieldDescriptor (TX3 k).2.2.1 = some (tyX3 k) := by decide +kernel
abbrev cX3_init : ByteArray := prog_5_method_1_code
def yX3_init : MethodName := ⟨RX3, "<init>", "(II)V"⟩
def RX4 : String := "GameCafe$Teacher"
def TX4 : u_T := fun k => match k with
  | 0 => ("GameCafe$Teacher", "knows", "[Z", true)
  | _ => ("GameCafe$Teacher", "busyUntil", "I", false)
def tyX4 : Nat → FieldType := fun k => match k with
  | 0 => .array .boolean
  | _ => .int
abbrev wsX40 : List Cond := u_ws RX4 TX4 2
theorem nmX4 : ∀ a, a < 2 → ∀ b, b < 2 → a ≠ b → (TX4 a).2.1 ≠ (TX4 b).2.1 := by decide +kernel
theorem tyX4_ok : ∀ k, k < 2 → parseFieldDescriptor (TX4 k).2.2.1 = some (tyX4 k) := by decide +kernel
abbrev cX4_init : ByteArray := prog_6_method_1_code
def yX4_init : MethodName := ⟨RX4, "<init>", "()V"⟩
def RX5 : String := "GameCafe"
def TX5 : u_T := fun k => match k with
  | 0 => ("GameCafe", "games", "[LGameCafe$Game;", true)
  | 1 => ("GameCafe", "tables", "[LGameCafe$Table;", true)
  | 2 => ("GameCafe", "staff", "[LGameCafe$Teacher;", true)
  | 3 => ("GameCafe", "owned", "[LGameCafe$Copy;", true)
  | 4 => ("GameCafe", "groups", "[LGameCafe$Group;", true)
  | 5 => ("GameCafe", "borrowed", "[LGameCafe$Copy;", true)
  | 6 => ("GameCafe", "bought", "I", false)
  | 7 => ("GameCafe", "seated", "I", false)
  | _ => ("GameCafe", "now", "I", false)
def tyX5 : Nat → FieldType := fun k => match k with
  | 0 => .array (.object "GameCafe$Game")
  | 1 => .array (.object "GameCafe$Table")
  | 2 => .array (.object "GameCafe$Teacher")
  | 3 => .array (.object "GameCafe$Copy")
  | 4 => .array (.object "GameCafe$Group")
  | 5 => .array (.object "GameCafe$Copy")
  | 6 => .int
  | 7 => .int
  | _ => .int
abbrev wsX50 : List Cond := u_ws RX5 TX5 9
theorem nmX5 : ∀ a, a < 9 → ∀ b, b < 9 → a ≠ b → (TX5 a).2.1 ≠ (TX5 b).2.1 := by decide +kernel
theorem tyX5_ok : ∀ k, k < 9 → parseFieldDescriptor (TX5 k).2.2.1 = some (tyX5 k) := by decide +kernel
abbrev cX5_init : ByteArray := prog_1_method_1_code
def yX5_init : MethodName := ⟨RX5, "<init>", "()V"⟩
abbrev cX5_setGame : ByteArray := prog_1_method_2_code
def yX5_setGame : MethodName := ⟨RX5, "setGame", "(IIII)V"⟩
abbrev cX5_setParts : ByteArray := prog_1_method_3_code
def yX5_setParts : MethodName := ⟨RX5, "setParts", "(IIII)V"⟩
abbrev cX5_setSeats : ByteArray := prog_1_method_4_code
def yX5_setSeats : MethodName := ⟨RX5, "setSeats", "(II)I"⟩
abbrev cX5_teach : ByteArray := prog_1_method_5_code
def yX5_teach : MethodName := ⟨RX5, "teach", "(IIZ)Z"⟩
abbrev cX5_buy : ByteArray := prog_1_method_6_code
def yX5_buy : MethodName := ⟨RX5, "buy", "(I)I"⟩
abbrev cX5_count : ByteArray := prog_1_method_7_code
def yX5_count : MethodName := ⟨RX5, "count", "(III)I"⟩
abbrev cX5_fill : ByteArray := prog_1_method_8_code
def yX5_fill : MethodName := ⟨RX5, "fill", "(II)I"⟩
abbrev cX5_seat : ByteArray := prog_1_method_9_code
def yX5_seat : MethodName := ⟨RX5, "seat", "(IIZ)I"⟩
abbrev cX5_grow : ByteArray := prog_1_method_10_code
def yX5_grow : MethodName := ⟨RX5, "grow", "(II)I"⟩
abbrev cX5_go : ByteArray := prog_1_method_11_code
def yX5_go : MethodName := ⟨RX5, "go", "(I)I"⟩
abbrev cX5_advance : ByteArray := prog_1_method_12_code
def yX5_advance : MethodName := ⟨RX5, "advance", "(I)I"⟩
abbrev cX5_lend : ByteArray := prog_1_method_13_code
def yX5_lend : MethodName := ⟨RX5, "lend", "(II)I"⟩
abbrev cX5_giveBack : ByteArray := prog_1_method_14_code
def yX5_giveBack : MethodName := ⟨RX5, "giveBack", "(III)I"⟩
abbrev cX5_minute : ByteArray := prog_1_method_15_code
def yX5_minute : MethodName := ⟨RX5, "minute", "()I"⟩
abbrev cX5_copies : ByteArray := prog_1_method_16_code
def yX5_copies : MethodName := ⟨RX5, "copies", "()I"⟩
abbrev cX5_parts : ByteArray := prog_1_method_17_code
def yX5_parts : MethodName := ⟨RX5, "parts", "(II)I"⟩
abbrev cX5_canBePlayed : ByteArray := prog_1_method_18_code
def yX5_canBePlayed : MethodName := ⟨RX5, "canBePlayed", "(I)Z"⟩
abbrev cX5_whereIs : ByteArray := prog_1_method_19_code
def yX5_whereIs : MethodName := ⟨RX5, "whereIs", "(I)I"⟩
abbrev cX5_at : ByteArray := prog_1_method_20_code
def yX5_at : MethodName := ⟨RX5, "at", "(I)I"⟩
abbrev cX5_copyOf : ByteArray := prog_1_method_21_code
def yX5_copyOf : MethodName := ⟨RX5, "copyOf", "(I)I"⟩
abbrev cX5_teaching : ByteArray := prog_1_method_22_code
def yX5_teaching : MethodName := ⟨RX5, "teaching", "(I)I"⟩
abbrev cX5_plays : ByteArray := prog_1_method_23_code
def yX5_plays : MethodName := ⟨RX5, "plays", "(I)I"⟩
abbrev cX5_propose : ByteArray := prog_1_method_24_code
def yX5_propose : MethodName := ⟨RX5, "propose", "(I)I"⟩
abbrev cX5_canSeatKnowing : ByteArray := prog_1_method_25_code
def yX5_canSeatKnowing : MethodName := ⟨RX5, "canSeatKnowing", "(ILGameCafe$Game;)Z"⟩
abbrev cX5_freeTableFor : ByteArray := prog_1_method_26_code
def yX5_freeTableFor : MethodName := ⟨RX5, "freeTableFor", "(I)LGameCafe$Table;"⟩
abbrev cX5_playableCopyOf : ByteArray := prog_1_method_27_code
def yX5_playableCopyOf : MethodName := ⟨RX5, "playableCopyOf", "(LGameCafe$Game;)LGameCafe$Copy;"⟩
abbrev cX5_freeTeacherOf : ByteArray := prog_1_method_28_code
def yX5_freeTeacherOf : MethodName := ⟨RX5, "freeTeacherOf", "(I)LGameCafe$Teacher;"⟩
abbrev cX5_copyNumbered : ByteArray := prog_1_method_29_code
def yX5_copyNumbered : MethodName := ⟨RX5, "copyNumbered", "(I)LGameCafe$Copy;"⟩
abbrev cX5_groupNumbered : ByteArray := prog_1_method_30_code
def yX5_groupNumbered : MethodName := ⟨RX5, "groupNumbered", "(I)LGameCafe$Group;"⟩
abbrev cX5_worthOfPart : ByteArray := prog_1_method_31_code
def yX5_worthOfPart : MethodName := ⟨RX5, "worthOfPart", "(I)I"⟩
abbrev cX5_checkNumber : ByteArray := prog_1_method_32_code
def yX5_checkNumber : MethodName := ⟨RX5, "checkNumber", "(II)V"⟩
abbrev cX5_checkRange : ByteArray := prog_1_method_33_code
def yX5_checkRange : MethodName := ⟨RX5, "checkRange", "(III)V"⟩
def RX6 : String := "GameCafeModel"
def TX6 : u_T := fun k => match k with
  | 0 => ("GameCafeModel", "minute", "I", false)
  | 1 => ("GameCafeModel", "leasts", "[I", true)
  | 2 => ("GameCafeModel", "mosts", "[I", true)
  | 3 => ("GameCafeModel", "minutes", "[I", true)
  | 4 => ("GameCafeModel", "wholes", "[I", true)
  | 5 => ("GameCafeModel", "needs", "[I", true)
  | 6 => ("GameCafeModel", "played", "[I", true)
  | 7 => ("GameCafeModel", "seats", "[I", true)
  | 8 => ("GameCafeModel", "taken", "[I", true)
  | 9 => ("GameCafeModel", "ignorant", "[I", true)
  | 10 => ("GameCafeModel", "until", "[I", true)
  | 11 => ("GameCafeModel", "copies", "I", false)
  | 12 => ("GameCafeModel", "games", "[I", true)
  | 13 => ("GameCafeModel", "places", "[I", true)
  | 14 => ("GameCafeModel", "parts", "[I", true)
  | 15 => ("GameCafeModel", "groups", "I", false)
  | 16 => ("GameCafeModel", "people", "[I", true)
  | 17 => ("GameCafeModel", "tables", "[I", true)
  | 18 => ("GameCafeModel", "ofGroup", "[I", true)
  | 19 => ("GameCafeModel", "since", "[I", true)
  | 20 => ("GameCafeModel", "gone", "[I", true)
  | 21 => ("GameCafeModel", "lent", "[I", true)
  | 22 => ("GameCafeModel", "deposits", "[I", true)
  | _ => ("GameCafeModel", "thrown", "I", false)
def tyX6 : Nat → FieldType := fun k => match k with
  | 0 => .int
  | 1 => .array .int
  | 2 => .array .int
  | 3 => .array .int
  | 4 => .array .int
  | 5 => .array .int
  | 6 => .array .int
  | 7 => .array .int
  | 8 => .array .int
  | 9 => .array .int
  | 10 => .array .int
  | 11 => .int
  | 12 => .array .int
  | 13 => .array .int
  | 14 => .array .int
  | 15 => .int
  | 16 => .array .int
  | 17 => .array .int
  | 18 => .array .int
  | 19 => .array .int
  | 20 => .array .int
  | 21 => .array .int
  | 22 => .array .int
  | _ => .int
abbrev wsX60 : List Cond := u_ws RX6 TX6 24
theorem nmX6 : ∀ a, a < 24 → ∀ b, b < 24 → a ≠ b → (TX6 a).2.1 ≠ (TX6 b).2.1 := by decide +kernel
theorem tyX6_ok : ∀ k, k < 24 → parseFieldDescriptor (TX6 k).2.2.1 = some (tyX6 k) := by decide +kernel
abbrev cX6_init : ByteArray := prog_8_method_1_code
def yX6_init : MethodName := ⟨RX6, "<init>", "()V"⟩
abbrev cX6_thrown : ByteArray := prog_8_method_2_code
def yX6_thrown : MethodName := ⟨RX6, "thrown", "()I"⟩
abbrev cX6_fails : ByteArray := prog_8_method_3_code
def yX6_fails : MethodName := ⟨RX6, "fails", "(I)I"⟩
abbrev cX6_in : ByteArray := prog_8_method_4_code
def yX6_in : MethodName := ⟨RX6, "in", "(III)Z"⟩
abbrev cX6_isGame : ByteArray := prog_8_method_5_code
def yX6_isGame : MethodName := ⟨RX6, "isGame", "(I)Z"⟩
abbrev cX6_isCopy : ByteArray := prog_8_method_6_code
def yX6_isCopy : MethodName := ⟨RX6, "isCopy", "(I)Z"⟩
abbrev cX6_isThere : ByteArray := prog_8_method_7_code
def yX6_isThere : MethodName := ⟨RX6, "isThere", "(I)Z"⟩
abbrev cX6_setGame : ByteArray := prog_8_method_8_code
def yX6_setGame : MethodName := ⟨RX6, "setGame", "(IIII)V"⟩
abbrev cX6_setParts : ByteArray := prog_8_method_9_code
def yX6_setParts : MethodName := ⟨RX6, "setParts", "(IIII)V"⟩
abbrev cX6_setSeats : ByteArray := prog_8_method_10_code
def yX6_setSeats : MethodName := ⟨RX6, "setSeats", "(II)I"⟩
abbrev cX6_teach : ByteArray := prog_8_method_11_code
def yX6_teach : MethodName := ⟨RX6, "teach", "(IIZ)Z"⟩
abbrev cX6_buy : ByteArray := prog_8_method_12_code
def yX6_buy : MethodName := ⟨RX6, "buy", "(I)I"⟩
abbrev cX6_count : ByteArray := prog_8_method_13_code
def yX6_count : MethodName := ⟨RX6, "count", "(III)I"⟩
abbrev cX6_fill : ByteArray := prog_8_method_14_code
def yX6_fill : MethodName := ⟨RX6, "fill", "(II)I"⟩
abbrev cX6_playable : ByteArray := prog_8_method_15_code
def yX6_playable : MethodName := ⟨RX6, "playable", "(I)Z"⟩
abbrev cX6_tableFor : ByteArray := prog_8_method_16_code
def yX6_tableFor : MethodName := ⟨RX6, "tableFor", "(I)I"⟩
abbrev cX6_copyFor : ByteArray := prog_8_method_17_code
def yX6_copyFor : MethodName := ⟨RX6, "copyFor", "(I)I"⟩
abbrev cX6_teacherFor : ByteArray := prog_8_method_18_code
def yX6_teacherFor : MethodName := ⟨RX6, "teacherFor", "(I)I"⟩
abbrev cX6_seat : ByteArray := prog_8_method_19_code
def yX6_seat : MethodName := ⟨RX6, "seat", "(IIZ)I"⟩
abbrev cX6_grow : ByteArray := prog_8_method_20_code
def yX6_grow : MethodName := ⟨RX6, "grow", "(II)I"⟩
abbrev cX6_go : ByteArray := prog_8_method_21_code
def yX6_go : MethodName := ⟨RX6, "go", "(I)I"⟩
abbrev cX6_advance : ByteArray := prog_8_method_22_code
def yX6_advance : MethodName := ⟨RX6, "advance", "(I)I"⟩
abbrev cX6_lend : ByteArray := prog_8_method_23_code
def yX6_lend : MethodName := ⟨RX6, "lend", "(II)I"⟩
abbrev cX6_giveBack : ByteArray := prog_8_method_24_code
def yX6_giveBack : MethodName := ⟨RX6, "giveBack", "(III)I"⟩
abbrev cX6_minute : ByteArray := prog_8_method_25_code
def yX6_minute : MethodName := ⟨RX6, "minute", "()I"⟩
abbrev cX6_copies : ByteArray := prog_8_method_26_code
def yX6_copies : MethodName := ⟨RX6, "copies", "()I"⟩
abbrev cX6_parts : ByteArray := prog_8_method_27_code
def yX6_parts : MethodName := ⟨RX6, "parts", "(II)I"⟩
abbrev cX6_canBePlayed : ByteArray := prog_8_method_28_code
def yX6_canBePlayed : MethodName := ⟨RX6, "canBePlayed", "(I)Z"⟩
abbrev cX6_whereIs : ByteArray := prog_8_method_29_code
def yX6_whereIs : MethodName := ⟨RX6, "whereIs", "(I)I"⟩
abbrev cX6_at : ByteArray := prog_8_method_30_code
def yX6_at : MethodName := ⟨RX6, "at", "(I)I"⟩
abbrev cX6_copyOf : ByteArray := prog_8_method_31_code
def yX6_copyOf : MethodName := ⟨RX6, "copyOf", "(I)I"⟩
abbrev cX6_teaching : ByteArray := prog_8_method_32_code
def yX6_teaching : MethodName := ⟨RX6, "teaching", "(I)I"⟩
abbrev cX6_plays : ByteArray := prog_8_method_33_code
def yX6_plays : MethodName := ⟨RX6, "plays", "(I)I"⟩
abbrev cX6_propose : ByteArray := prog_8_method_34_code
def yX6_propose : MethodName := ⟨RX6, "propose", "(I)I"⟩
def RJx8e188 : String := "java/lang/Cloneable"
def TJx8e188 : u_T := fun k => match k with
  | _ => ("", "", "", false)
def tyJx8e188 : Nat → FieldType := fun k => match k with
  | _ => .int
abbrev wsJx8e1880 : List Cond := u_ws RJx8e188 TJx8e188 0
theorem nmJx8e188 : ∀ a, a < 0 → ∀ b, b < 0 → a ≠ b → (TJx8e188 a).2.1 ≠ (TJx8e188 b).2.1 := by decide +kernel
theorem tyJx8e188_ok : ∀ k, k < 0 → parseFieldDescriptor (TJx8e188 k).2.2.1 = some (tyJx8e188 k) := by decide +kernel
def RJ9 : String := "java/lang/Math"
def TJ9 : u_T := fun k => match k with
  | _ => ("", "", "", false)
def tyJ9 : Nat → FieldType := fun k => match k with
  | _ => .int
abbrev wsJ90 : List Cond := u_ws RJ9 TJ9 0
theorem nmJ9 : ∀ a, a < 0 → ∀ b, b < 0 → a ≠ b → (TJ9 a).2.1 ≠ (TJ9 b).2.1 := by decide +kernel
theorem tyJ9_ok : ∀ k, k < 0 → parseFieldDescriptor (TJ9 k).2.2.1 = some (tyJ9 k) := by decide +kernel
abbrev cJ9_max_7cf53 : ByteArray := prog_14_method_65_code
def yJ9_max_7cf53 : MethodName := ⟨RJ9, "max", "(II)I"⟩
abbrev cJ9_min_7cf53 : ByteArray := prog_14_method_69_code
def yJ9_min_7cf53 : MethodName := ⟨RJ9, "min", "(II)I"⟩
def RJ0 : String := "java/lang/String"
def TJ0 : u_T := fun k => match k with
  | _ => ("", "", "", false)
def tyJ0 : Nat → FieldType := fun k => match k with
  | _ => .int
abbrev wsJ00 : List Cond := u_ws RJ0 TJ0 0
theorem nmJ0 : ∀ a, a < 0 → ∀ b, b < 0 → a ≠ b → (TJ0 a).2.1 ≠ (TJ0 b).2.1 := by decide +kernel
theorem tyJ0_ok : ∀ k, k < 0 → parseFieldDescriptor (TJ0 k).2.2.1 = some (tyJ0 k) := by decide +kernel
def RL : String := "GameCafeLaw"
abbrev cL_setGame : ByteArray := method_3_code
def yL_setGame : MethodName := ⟨RL, "setGame", "(LGameCafe;IIII)I"⟩
abbrev cL_setParts : ByteArray := method_4_code
def yL_setParts : MethodName := ⟨RL, "setParts", "(LGameCafe;IIII)I"⟩
abbrev cL_setSeats : ByteArray := method_5_code
def yL_setSeats : MethodName := ⟨RL, "setSeats", "(LGameCafe;II[J)I"⟩
abbrev cL_teach : ByteArray := method_6_code
def yL_teach : MethodName := ⟨RL, "teach", "(LGameCafe;IIZ[J)I"⟩
abbrev cL_buy : ByteArray := method_7_code
def yL_buy : MethodName := ⟨RL, "buy", "(LGameCafe;I[J)I"⟩
abbrev cL_count : ByteArray := method_8_code
def yL_count : MethodName := ⟨RL, "count", "(LGameCafe;III[J)I"⟩
abbrev cL_fill : ByteArray := method_9_code
def yL_fill : MethodName := ⟨RL, "fill", "(LGameCafe;II[J)I"⟩
abbrev cL_seat : ByteArray := method_10_code
def yL_seat : MethodName := ⟨RL, "seat", "(LGameCafe;IIZ[J)I"⟩
abbrev cL_grow : ByteArray := method_11_code
def yL_grow : MethodName := ⟨RL, "grow", "(LGameCafe;II[J)I"⟩
abbrev cL_go : ByteArray := method_12_code
def yL_go : MethodName := ⟨RL, "go", "(LGameCafe;I[J)I"⟩
abbrev cL_advance : ByteArray := method_13_code
def yL_advance : MethodName := ⟨RL, "advance", "(LGameCafe;I[J)I"⟩
abbrev cL_lend : ByteArray := method_14_code
def yL_lend : MethodName := ⟨RL, "lend", "(LGameCafe;II[J)I"⟩
abbrev cL_giveBack : ByteArray := method_15_code
def yL_giveBack : MethodName := ⟨RL, "giveBack", "(LGameCafe;III[J)I"⟩
abbrev cL_parts : ByteArray := method_16_code
def yL_parts : MethodName := ⟨RL, "parts", "(LGameCafe;II[J)I"⟩
abbrev cL_canBePlayed : ByteArray := method_17_code
def yL_canBePlayed : MethodName := ⟨RL, "canBePlayed", "(LGameCafe;I[J)I"⟩
abbrev cL_whereIs : ByteArray := method_18_code
def yL_whereIs : MethodName := ⟨RL, "whereIs", "(LGameCafe;I[J)I"⟩
abbrev cL_at : ByteArray := method_19_code
def yL_at : MethodName := ⟨RL, "at", "(LGameCafe;I[J)I"⟩
abbrev cL_copyOf : ByteArray := method_20_code
def yL_copyOf : MethodName := ⟨RL, "copyOf", "(LGameCafe;I[J)I"⟩
abbrev cL_teaching : ByteArray := method_21_code
def yL_teaching : MethodName := ⟨RL, "teaching", "(LGameCafe;I[J)I"⟩
abbrev cL_plays : ByteArray := method_22_code
def yL_plays : MethodName := ⟨RL, "plays", "(LGameCafe;I[J)I"⟩
abbrev cL_propose : ByteArray := method_23_code
def yL_propose : MethodName := ⟨RL, "propose", "(LGameCafe;I[J)I"⟩
abbrev cL_law : ByteArray := code
def yL_law : MethodName := ⟨RL, "law", "([I)Z"⟩
def wsX0_init : List Cond := .code yX0_init cX0_init 3 none :: ([.methodLink RX0 3 objectInit, .instanceMethod objectInit, .code objectInit ⟨#[0xb1]⟩ 1 none, .fieldLink RX0 9 "GameCafe$Copy" "place" "I", .fieldLink RX0 15 "GameCafe$Copy" "number" "I", .fieldLink RX0 18 "GameCafe$Copy" "game" "LGameCafe$Game;", .fieldLink RX0 22 "GameCafe$Game" "whole" "[I", .methodLink RX0 28 ⟨"[I", "clone", "()Ljava/lang/Object;"⟩, .sameMethod "[I" "java/lang/Object" "clone" "()Ljava/lang/Object;", .native ⟨"java/lang/Object", "clone", "()Ljava/lang/Object;"⟩, .instanceMethod ⟨"java/lang/Object", "clone", "()Ljava/lang/Object;"⟩, .selects "[I" ⟨"[I", "clone", "()Ljava/lang/Object;"⟩ ⟨"java/lang/Object", "clone", "()Ljava/lang/Object;"⟩, .classLink RX0 29 "[I", .fieldLink RX0 33 "GameCafe$Copy" "has" "[I"] ++ wsX00 ++ wsX10)
def wsX0_isPlayable : List Cond := .code yX0_isPlayable cX0_isPlayable 2 (some .boolean) :: ([.fieldLink RX0 33 "GameCafe$Copy" "has" "[I", .fieldLink RX0 18 "GameCafe$Copy" "game" "LGameCafe$Game;", .fieldLink RX0 36 "GameCafe$Game" "need" "[I"] ++ wsX00 ++ wsX10)
def wsX5_worthOfPart : List Cond := .code yX5_worthOfPart cX5_worthOfPart 1 (some .int) :: ([])
def wsX0_worth : List Cond := .code yX0_worth cX0_worth 3 (some .int) :: ([.fieldLink RX0 33 "GameCafe$Copy" "has" "[I", .static yX5_worthOfPart, .initialized RX5, .code yX5_worthOfPart cX5_worthOfPart 1 (some .int)] ++ wsX00)
def wsX0_fillFrom : List Cond := .code yX0_fillFrom cX0_fillFrom 6 (some .int) :: ([.fieldLink RX0 18 "GameCafe$Copy" "game" "LGameCafe$Game;", .fieldLink RX0 22 "GameCafe$Game" "whole" "[I", .fieldLink RX0 33 "GameCafe$Copy" "has" "[I", .methodLink RX0 43 Lib.Math.max.name, .static Lib.Math.max.name, .initialized "java/lang/Math", .code Lib.Math.max.name Lib.Math.max.code 2 (some .int), .methodLink RX0 49 Lib.Math.min.name, .static Lib.Math.min.name, .code Lib.Math.min.name Lib.Math.min.code 2 (some .int)] ++ wsX00 ++ wsX10)
def wsX1_init : List Cond := .code yX1_init cX1_init 1 none :: ([.methodLink RX1 1 objectInit, .instanceMethod objectInit, .code objectInit ⟨#[0xb1]⟩ 1 none, .fieldLink RX1 7 "GameCafe$Game" "least" "I", .fieldLink RX1 13 "GameCafe$Game" "most" "I", .fieldLink RX1 16 "GameCafe$Game" "lesson" "I", .fieldLink RX1 19 "GameCafe$Game" "timesPlayed" "I", .arrayClass .int, .fieldLink RX1 22 "GameCafe$Game" "whole" "[I", .fieldLink RX1 26 "GameCafe$Game" "need" "[I"] ++ wsX10)
def wsX1_isFor : List Cond := .code yX1_isFor cX1_isFor 2 (some .boolean) :: ([.fieldLink RX1 7 "GameCafe$Game" "least" "I", .fieldLink RX1 13 "GameCafe$Game" "most" "I"] ++ wsX10)
def wsX2_init : List Cond := .code yX2_init cX2_init 5 none :: ([.methodLink RX2 1 objectInit, .instanceMethod objectInit, .code objectInit ⟨#[0xb1]⟩ 1 none, .fieldLink RX2 7 "GameCafe$Group" "people" "I", .fieldLink RX2 13 "GameCafe$Group" "table" "LGameCafe$Table;", .fieldLink RX2 17 "GameCafe$Group" "copy" "LGameCafe$Copy;", .fieldLink RX2 21 "GameCafe$Group" "since" "I"] ++ wsX20)
def wsX3_init : List Cond := .code yX3_init cX3_init 3 none :: ([.methodLink RX3 3 objectInit, .instanceMethod objectInit, .code objectInit ⟨#[0xb1]⟩ 1 none, .fieldLink RX3 9 "GameCafe$Table" "group" "I", .fieldLink RX3 15 "GameCafe$Table" "number" "I", .fieldLink RX3 18 "GameCafe$Table" "seats" "I"] ++ wsX30)
def wsX4_init : List Cond := .code yX4_init cX4_init 1 none :: ([.methodLink RX4 1 objectInit, .instanceMethod objectInit, .code objectInit ⟨#[0xb1]⟩ 1 none, .arrayClass .boolean, .fieldLink RX4 7 "GameCafe$Teacher" "knows" "[Z", .fieldLink RX4 13 "GameCafe$Teacher" "busyUntil" "I"] ++ wsX40)
def wsX5_init_r1 : List Cond := [Cond.methodLink RX5 1 objectInit, Cond.instanceMethod objectInit, Cond.code objectInit ⟨#[0xb1]⟩ 1 none, Cond.classLink RX5 9 RX1, Cond.fieldLink RX5 11 "GameCafe" "games" "[LGameCafe$Game;", Cond.classLink RX5 15 RX3, Cond.fieldLink RX5 17 "GameCafe" "tables" "[LGameCafe$Table;", Cond.classLink RX5 21 RX4, Cond.fieldLink RX5 23 "GameCafe" "staff" "[LGameCafe$Teacher;", Cond.classLink RX5 27 RX0, Cond.fieldLink RX5 29 "GameCafe" "owned" "[LGameCafe$Copy;", Cond.classLink RX5 33 RX2, Cond.fieldLink RX5 35 "GameCafe" "groups" "[LGameCafe$Group;", Cond.fieldLink RX5 39 "GameCafe" "borrowed" "[LGameCafe$Copy;", Cond.fieldLink RX5 42 "GameCafe" "bought" "I", Cond.fieldLink RX5 46 "GameCafe" "seated" "I", Cond.fieldLink RX5 49 "GameCafe" "now" "I", Cond.instantiable RX1 6, Cond.initialized RX1, Cond.instantiable RX3 3, Cond.initialized RX3, Cond.instantiable RX4 2, Cond.initialized RX4, Cond.instanceMethod yX1_init]
def wsX5_init_r2 : List Cond := [Cond.code yX1_init cX1_init 1 none, Cond.methodLink RX1 1 objectInit, Cond.fieldLink RX1 7 "GameCafe$Game" "least" "I", Cond.fieldLink RX1 13 "GameCafe$Game" "most" "I", Cond.fieldLink RX1 16 "GameCafe$Game" "lesson" "I", Cond.fieldLink RX1 19 "GameCafe$Game" "timesPlayed" "I", Cond.arrayClass .int, Cond.fieldLink RX1 22 "GameCafe$Game" "whole" "[I", Cond.fieldLink RX1 26 "GameCafe$Game" "need" "[I", Cond.methodLink RX5 53 yX3_init, Cond.instanceMethod yX3_init, Cond.code yX3_init cX3_init 3 none, Cond.methodLink RX3 3 objectInit, Cond.fieldLink RX3 9 "GameCafe$Table" "group" "I", Cond.fieldLink RX3 15 "GameCafe$Table" "number" "I", Cond.fieldLink RX3 18 "GameCafe$Table" "seats" "I", Cond.instanceMethod yX4_init, Cond.code yX4_init cX4_init 1 none, Cond.methodLink RX4 1 objectInit, Cond.arrayClass .boolean, Cond.fieldLink RX4 7 "GameCafe$Teacher" "knows" "[Z", Cond.fieldLink RX4 13 "GameCafe$Teacher" "busyUntil" "I"]
def wsX5_init : List Cond := .code yX5_init cX5_init 2 none :: ((wsX5_init_r1 ++ wsX5_init_r2) ++ wsX50 ++ wsX10 ++ wsX30 ++ wsX40)
def wsX5_checkNumber : List Cond := .code yX5_checkNumber cX5_checkNumber 2 none :: ([.classLink RX5 211 "java/lang/IndexOutOfBoundsException", .initialized "java/lang/IndexOutOfBoundsException"] ++ (vx_atS RX5 215 "java/lang/IndexOutOfBoundsException" ["java/lang/RuntimeException", "java/lang/Exception"]).filter goodWord)
def wsX5_checkRange : List Cond := .code yX5_checkRange cX5_checkRange 3 none :: ([.classLink RX5 118 "java/lang/IllegalArgumentException", .initialized "java/lang/IllegalArgumentException"] ++ (vx_atS RX5 122 "java/lang/IllegalArgumentException" ["java/lang/RuntimeException", "java/lang/Exception"]).filter goodWord)
def wsX5_setGame : List Cond := .code yX5_setGame cX5_setGame 6 none :: ([.fieldLink RX5 11 "GameCafe" "games" "[LGameCafe$Game;", .fieldLink RX5 64 "GameCafe$Game" "least" "I", .fieldLink RX5 67 "GameCafe$Game" "most" "I", .fieldLink RX5 70 "GameCafe$Game" "lesson" "I", .methodLink RX5 57 yX5_checkNumber, .static yX5_checkNumber, .initialized RX5, .code yX5_checkNumber cX5_checkNumber 2 none, .classLink RX5 211 "java/lang/IndexOutOfBoundsException", .initialized "java/lang/IndexOutOfBoundsException", .methodLink RX5 60 yX5_checkRange, .static yX5_checkRange, .code yX5_checkRange cX5_checkRange 3 none, .classLink RX5 118 "java/lang/IllegalArgumentException", .initialized "java/lang/IllegalArgumentException"] ++ wsX50 ++ wsX10 ++ (vx_atS RX5 215 "java/lang/IndexOutOfBoundsException" ["java/lang/RuntimeException", "java/lang/Exception"]).filter goodWord ++ (vx_atS RX5 122 "java/lang/IllegalArgumentException" ["java/lang/RuntimeException", "java/lang/Exception"]).filter goodWord)
def wsX5_setParts : List Cond := .code yX5_setParts cX5_setParts 6 none :: ([.fieldLink RX5 11 "GameCafe" "games" "[LGameCafe$Game;", .fieldLink RX5 73 "GameCafe$Game" "whole" "[I", .fieldLink RX5 77 "GameCafe$Game" "need" "[I", .methodLink RX5 57 yX5_checkNumber, .static yX5_checkNumber, .initialized RX5, .code yX5_checkNumber cX5_checkNumber 2 none, .classLink RX5 211 "java/lang/IndexOutOfBoundsException", .initialized "java/lang/IndexOutOfBoundsException", .methodLink RX5 60 yX5_checkRange, .static yX5_checkRange, .code yX5_checkRange cX5_checkRange 3 none, .classLink RX5 118 "java/lang/IllegalArgumentException", .initialized "java/lang/IllegalArgumentException"] ++ wsX50 ++ wsX10 ++ (vx_atS RX5 215 "java/lang/IndexOutOfBoundsException" ["java/lang/RuntimeException", "java/lang/Exception"]).filter goodWord ++ (vx_atS RX5 122 "java/lang/IllegalArgumentException" ["java/lang/RuntimeException", "java/lang/Exception"]).filter goodWord)
def wsX5_setSeats : List Cond := .code yX5_setSeats cX5_setSeats 5 (some .int) :: ([.classLink RX5 83 "java/lang/IllegalStateException", .initialized "java/lang/IllegalStateException", .fieldLink RX5 17 "GameCafe" "tables" "[LGameCafe$Table;", .fieldLink RX5 80 "GameCafe$Table" "group" "I", .fieldLink RX5 90 "GameCafe$Table" "seats" "I", .methodLink RX5 57 yX5_checkNumber, .static yX5_checkNumber, .initialized RX5, .code yX5_checkNumber cX5_checkNumber 2 none, .classLink RX5 211 "java/lang/IndexOutOfBoundsException", .initialized "java/lang/IndexOutOfBoundsException", .methodLink RX5 60 yX5_checkRange, .static yX5_checkRange, .code yX5_checkRange cX5_checkRange 3 none, .classLink RX5 118 "java/lang/IllegalArgumentException", .initialized "java/lang/IllegalArgumentException"] ++ wsX50 ++ wsX30 ++ (vx_atS RX5 87 "java/lang/IllegalStateException" ["java/lang/RuntimeException", "java/lang/Exception"]).filter goodWord ++ (vx_atS RX5 215 "java/lang/IndexOutOfBoundsException" ["java/lang/RuntimeException", "java/lang/Exception"]).filter goodWord ++ (vx_atS RX5 122 "java/lang/IllegalArgumentException" ["java/lang/RuntimeException", "java/lang/Exception"]).filter goodWord)
def wsX5_teach : List Cond := .code yX5_teach cX5_teach 6 (some .boolean) :: ([.fieldLink RX5 23 "GameCafe" "staff" "[LGameCafe$Teacher;", .fieldLink RX5 93 "GameCafe$Teacher" "knows" "[Z", .methodLink RX5 57 yX5_checkNumber, .static yX5_checkNumber, .initialized RX5, .code yX5_checkNumber cX5_checkNumber 2 none, .classLink RX5 211 "java/lang/IndexOutOfBoundsException", .initialized "java/lang/IndexOutOfBoundsException"] ++ wsX50 ++ wsX40 ++ (vx_atS RX5 215 "java/lang/IndexOutOfBoundsException" ["java/lang/RuntimeException", "java/lang/Exception"]).filter goodWord)
def wsX5_buy_r1 : List Cond := [Cond.classLink RX5 83 "java/lang/IllegalStateException", Cond.initialized "java/lang/IllegalStateException", Cond.fieldLink RX5 42 "GameCafe" "bought" "I", Cond.fieldLink RX5 29 "GameCafe" "owned" "[LGameCafe$Copy;", Cond.classLink RX5 27 RX0, Cond.instantiable RX0 4, Cond.initialized RX0, Cond.fieldLink RX5 11 "GameCafe" "games" "[LGameCafe$Game;", Cond.methodLink RX5 57 yX5_checkNumber, Cond.static yX5_checkNumber, Cond.initialized RX5, Cond.code yX5_checkNumber cX5_checkNumber 2 none, Cond.classLink RX5 211 "java/lang/IndexOutOfBoundsException", Cond.initialized "java/lang/IndexOutOfBoundsException", Cond.methodLink RX5 99 yX0_init, Cond.instanceMethod yX0_init, Cond.code yX0_init cX0_init 3 none, Cond.methodLink RX0 3 objectInit, Cond.instanceMethod objectInit, Cond.code objectInit ⟨#[0xb1]⟩ 1 none, Cond.fieldLink RX0 9 "GameCafe$Copy" "place" "I", Cond.fieldLink RX0 15 "GameCafe$Copy" "number" "I", Cond.fieldLink RX0 18 "GameCafe$Copy" "game" "LGameCafe$Game;", Cond.fieldLink RX0 22 "GameCafe$Game" "whole" "[I"]
def wsX5_buy_r2 : List Cond := [Cond.methodLink RX0 28 ⟨"[I", "clone", "()Ljava/lang/Object;"⟩, Cond.sameMethod "[I" "java/lang/Object" "clone" "()Ljava/lang/Object;", Cond.native ⟨"java/lang/Object", "clone", "()Ljava/lang/Object;"⟩, Cond.instanceMethod ⟨"java/lang/Object", "clone", "()Ljava/lang/Object;"⟩, Cond.selects "[I" ⟨"[I", "clone", "()Ljava/lang/Object;"⟩ ⟨"java/lang/Object", "clone", "()Ljava/lang/Object;"⟩, Cond.classLink RX0 29 "[I", Cond.fieldLink RX0 33 "GameCafe$Copy" "has" "[I"]
def wsX5_buy : List Cond := .code yX5_buy cX5_buy 3 (some .int) :: ((wsX5_buy_r1 ++ wsX5_buy_r2) ++ wsX50 ++ wsX00 ++ wsX10 ++ (vx_atS RX5 87 "java/lang/IllegalStateException" ["java/lang/RuntimeException", "java/lang/Exception"]).filter goodWord ++ (vx_atS RX5 215 "java/lang/IndexOutOfBoundsException" ["java/lang/RuntimeException", "java/lang/Exception"]).filter goodWord)
def wsX5_copyNumbered : List Cond := .code yX5_copyNumbered cX5_copyNumbered 2 (some (.object "GameCafe$Copy")) :: ([.classLink RX5 211 "java/lang/IndexOutOfBoundsException", .initialized "java/lang/IndexOutOfBoundsException", .fieldLink RX5 29 "GameCafe" "owned" "[LGameCafe$Copy;"] ++ wsX50 ++ (vx_atS RX5 215 "java/lang/IndexOutOfBoundsException" ["java/lang/RuntimeException", "java/lang/Exception"]).filter goodWord)
def wsX5_count : List Cond := .code yX5_count cX5_count 6 (some .int) :: ([.classLink RX5 83 "java/lang/IllegalStateException", .initialized "java/lang/IllegalStateException", .fieldLink RX5 106 "GameCafe$Copy" "has" "[I", .fieldLink RX5 109 "GameCafe$Copy" "place" "I", .methodLink RX5 102 yX5_copyNumbered, .instanceMethod yX5_copyNumbered, .selects RX5 yX5_copyNumbered yX5_copyNumbered, .initialized RX5, .code yX5_copyNumbered cX5_copyNumbered 2 (some (.object "GameCafe$Copy")), .classLink RX5 211 "java/lang/IndexOutOfBoundsException", .initialized "java/lang/IndexOutOfBoundsException", .fieldLink RX5 29 "GameCafe" "owned" "[LGameCafe$Copy;", .methodLink RX5 57 yX5_checkNumber, .static yX5_checkNumber, .code yX5_checkNumber cX5_checkNumber 2 none, .methodLink RX5 60 yX5_checkRange, .static yX5_checkRange, .code yX5_checkRange cX5_checkRange 3 none, .classLink RX5 118 "java/lang/IllegalArgumentException", .initialized "java/lang/IllegalArgumentException"] ++ wsX00 ++ wsX50 ++ (vx_atS RX5 87 "java/lang/IllegalStateException" ["java/lang/RuntimeException", "java/lang/Exception"]).filter goodWord ++ (vx_atS RX5 215 "java/lang/IndexOutOfBoundsException" ["java/lang/RuntimeException", "java/lang/Exception"]).filter goodWord ++ (vx_atS RX5 122 "java/lang/IllegalArgumentException" ["java/lang/RuntimeException", "java/lang/Exception"]).filter goodWord)
def wsX5_fill_r1 : List Cond := [Cond.classLink RX5 118 "java/lang/IllegalArgumentException", Cond.initialized "java/lang/IllegalArgumentException", Cond.classLink RX5 83 "java/lang/IllegalStateException", Cond.initialized "java/lang/IllegalStateException", Cond.fieldLink RX5 114 "GameCafe$Copy" "game" "LGameCafe$Game;", Cond.fieldLink RX5 109 "GameCafe$Copy" "place" "I", Cond.methodLink RX5 102 yX5_copyNumbered, Cond.instanceMethod yX5_copyNumbered, Cond.selects RX5 yX5_copyNumbered yX5_copyNumbered, Cond.initialized RX5, Cond.code yX5_copyNumbered cX5_copyNumbered 2 (some (.object "GameCafe$Copy")), Cond.classLink RX5 211 "java/lang/IndexOutOfBoundsException", Cond.initialized "java/lang/IndexOutOfBoundsException", Cond.fieldLink RX5 29 "GameCafe" "owned" "[LGameCafe$Copy;", Cond.methodLink RX5 125 yX0_fillFrom, Cond.instanceMethod yX0_fillFrom, Cond.selects RX0 yX0_fillFrom yX0_fillFrom, Cond.initialized RX0, Cond.code yX0_fillFrom cX0_fillFrom 6 (some .int), Cond.fieldLink RX0 18 "GameCafe$Copy" "game" "LGameCafe$Game;", Cond.fieldLink RX0 22 "GameCafe$Game" "whole" "[I", Cond.fieldLink RX0 33 "GameCafe$Copy" "has" "[I", Cond.methodLink RX0 43 Lib.Math.max.name, Cond.static Lib.Math.max.name]
def wsX5_fill_r2 : List Cond := [Cond.initialized "java/lang/Math", Cond.code Lib.Math.max.name Lib.Math.max.code 2 (some .int), Cond.methodLink RX0 49 Lib.Math.min.name, Cond.static Lib.Math.min.name, Cond.code Lib.Math.min.name Lib.Math.min.code 2 (some .int)]
def wsX5_fill : List Cond := .code yX5_fill cX5_fill 5 (some .int) :: ((wsX5_fill_r1 ++ wsX5_fill_r2) ++ wsX00 ++ wsX50 ++ wsX10 ++ (vx_atS RX5 122 "java/lang/IllegalArgumentException" ["java/lang/RuntimeException", "java/lang/Exception"]).filter goodWord ++ (vx_atS RX5 87 "java/lang/IllegalStateException" ["java/lang/RuntimeException", "java/lang/Exception"]).filter goodWord ++ (vx_atS RX5 215 "java/lang/IndexOutOfBoundsException" ["java/lang/RuntimeException", "java/lang/Exception"]).filter goodWord)
def wsX5_freeTableFor : List Cond := .code yX5_freeTableFor cX5_freeTableFor 8 (some (.object "GameCafe$Table")) :: ([.fieldLink RX5 17 "GameCafe" "tables" "[LGameCafe$Table;", .fieldLink RX5 80 "GameCafe$Table" "group" "I", .fieldLink RX5 90 "GameCafe$Table" "seats" "I"] ++ wsX50 ++ wsX30)
def wsX5_playableCopyOf : List Cond := .code yX5_playableCopyOf cX5_playableCopyOf 6 (some (.object "GameCafe$Copy")) :: ([.fieldLink RX5 29 "GameCafe" "owned" "[LGameCafe$Copy;", .fieldLink RX5 114 "GameCafe$Copy" "game" "LGameCafe$Game;", .fieldLink RX5 109 "GameCafe$Copy" "place" "I", .methodLink RX5 196 yX0_isPlayable, .instanceMethod yX0_isPlayable, .selects RX0 yX0_isPlayable yX0_isPlayable, .initialized RX0, .code yX0_isPlayable cX0_isPlayable 2 (some .boolean), .fieldLink RX0 33 "GameCafe$Copy" "has" "[I", .fieldLink RX0 18 "GameCafe$Copy" "game" "LGameCafe$Game;", .fieldLink RX0 36 "GameCafe$Game" "need" "[I"] ++ wsX50 ++ wsX00 ++ wsX10)
def wsX5_freeTeacherOf : List Cond := .code yX5_freeTeacherOf cX5_freeTeacherOf 6 (some (.object "GameCafe$Teacher")) :: ([.fieldLink RX5 23 "GameCafe" "staff" "[LGameCafe$Teacher;", .fieldLink RX5 93 "GameCafe$Teacher" "knows" "[Z", .fieldLink RX5 149 "GameCafe$Teacher" "busyUntil" "I", .fieldLink RX5 49 "GameCafe" "now" "I"] ++ wsX50 ++ wsX40)
def wsX5_seat_r1 : List Cond := [Cond.classLink RX5 118 "java/lang/IllegalArgumentException", Cond.initialized "java/lang/IllegalArgumentException", Cond.classLink RX5 83 "java/lang/IllegalStateException", Cond.initialized "java/lang/IllegalStateException", Cond.fieldLink RX5 11 "GameCafe" "games" "[LGameCafe$Game;", Cond.fieldLink RX5 46 "GameCafe" "seated" "I", Cond.fieldLink RX5 49 "GameCafe" "now" "I", Cond.fieldLink RX5 70 "GameCafe$Game" "lesson" "I", Cond.fieldLink RX5 149 "GameCafe$Teacher" "busyUntil" "I", Cond.fieldLink RX5 35 "GameCafe" "groups" "[LGameCafe$Group;", Cond.classLink RX5 33 RX2, Cond.instantiable RX2 4, Cond.initialized RX2, Cond.fieldLink RX5 80 "GameCafe$Table" "group" "I", Cond.fieldLink RX5 109 "GameCafe$Copy" "place" "I", Cond.methodLink RX5 57 yX5_checkNumber, Cond.static yX5_checkNumber, Cond.initialized RX5, Cond.code yX5_checkNumber cX5_checkNumber 2 none, Cond.classLink RX5 211 "java/lang/IndexOutOfBoundsException", Cond.initialized "java/lang/IndexOutOfBoundsException", Cond.methodLink RX5 60 yX5_checkRange, Cond.static yX5_checkRange, Cond.code yX5_checkRange cX5_checkRange 3 none]
def wsX5_seat_r2 : List Cond := [Cond.methodLink RX5 129 yX1_isFor, Cond.instanceMethod yX1_isFor, Cond.selects RX1 yX1_isFor yX1_isFor, Cond.initialized RX1, Cond.code yX1_isFor cX1_isFor 2 (some .boolean), Cond.fieldLink RX1 7 "GameCafe$Game" "least" "I", Cond.fieldLink RX1 13 "GameCafe$Game" "most" "I", Cond.methodLink RX5 135 yX5_freeTableFor, Cond.instanceMethod yX5_freeTableFor, Cond.selects RX5 yX5_freeTableFor yX5_freeTableFor, Cond.code yX5_freeTableFor cX5_freeTableFor 8 (some (.object "GameCafe$Table")), Cond.fieldLink RX5 17 "GameCafe" "tables" "[LGameCafe$Table;", Cond.fieldLink RX5 90 "GameCafe$Table" "seats" "I", Cond.methodLink RX5 139 yX5_playableCopyOf, Cond.instanceMethod yX5_playableCopyOf, Cond.selects RX5 yX5_playableCopyOf yX5_playableCopyOf, Cond.code yX5_playableCopyOf cX5_playableCopyOf 6 (some (.object "GameCafe$Copy")), Cond.fieldLink RX5 29 "GameCafe" "owned" "[LGameCafe$Copy;", Cond.fieldLink RX5 114 "GameCafe$Copy" "game" "LGameCafe$Game;", Cond.methodLink RX5 196 yX0_isPlayable, Cond.instanceMethod yX0_isPlayable, Cond.selects RX0 yX0_isPlayable yX0_isPlayable, Cond.initialized RX0, Cond.code yX0_isPlayable cX0_isPlayable 2 (some .boolean)]
def wsX5_seat_r3 : List Cond := [Cond.fieldLink RX0 33 "GameCafe$Copy" "has" "[I", Cond.fieldLink RX0 18 "GameCafe$Copy" "game" "LGameCafe$Game;", Cond.fieldLink RX0 36 "GameCafe$Game" "need" "[I", Cond.methodLink RX5 143 yX5_freeTeacherOf, Cond.instanceMethod yX5_freeTeacherOf, Cond.selects RX5 yX5_freeTeacherOf yX5_freeTeacherOf, Cond.code yX5_freeTeacherOf cX5_freeTeacherOf 6 (some (.object "GameCafe$Teacher")), Cond.fieldLink RX5 23 "GameCafe" "staff" "[LGameCafe$Teacher;", Cond.fieldLink RX5 93 "GameCafe$Teacher" "knows" "[Z", Cond.methodLink RX5 152 yX2_init, Cond.instanceMethod yX2_init, Cond.code yX2_init cX2_init 5 none, Cond.methodLink RX2 1 objectInit, Cond.instanceMethod objectInit, Cond.code objectInit ⟨#[0xb1]⟩ 1 none, Cond.fieldLink RX2 7 "GameCafe$Group" "people" "I", Cond.fieldLink RX2 13 "GameCafe$Group" "table" "LGameCafe$Table;", Cond.fieldLink RX2 17 "GameCafe$Group" "copy" "LGameCafe$Copy;", Cond.fieldLink RX2 21 "GameCafe$Group" "since" "I"]
def wsX5_seat : List Cond := .code yX5_seat cX5_seat 9 (some .int) :: ((wsX5_seat_r1 ++ (wsX5_seat_r2 ++ wsX5_seat_r3)) ++ wsX50 ++ wsX10 ++ wsX40 ++ wsX20 ++ wsX30 ++ wsX00 ++ (vx_atS RX5 122 "java/lang/IllegalArgumentException" ["java/lang/RuntimeException", "java/lang/Exception"]).filter goodWord ++ (vx_atS RX5 87 "java/lang/IllegalStateException" ["java/lang/RuntimeException", "java/lang/Exception"]).filter goodWord ++ (vx_atS RX5 215 "java/lang/IndexOutOfBoundsException" ["java/lang/RuntimeException", "java/lang/Exception"]).filter goodWord)
def wsX5_groupNumbered : List Cond := .code yX5_groupNumbered cX5_groupNumbered 2 (some (.object "GameCafe$Group")) :: ([.classLink RX5 211 "java/lang/IndexOutOfBoundsException", .initialized "java/lang/IndexOutOfBoundsException", .fieldLink RX5 35 "GameCafe" "groups" "[LGameCafe$Group;"] ++ wsX50 ++ (vx_atS RX5 215 "java/lang/IndexOutOfBoundsException" ["java/lang/RuntimeException", "java/lang/Exception"]).filter goodWord)
def wsX5_grow_r1 : List Cond := [Cond.classLink RX5 83 "java/lang/IllegalStateException", Cond.initialized "java/lang/IllegalStateException", Cond.fieldLink RX5 159 "GameCafe$Group" "people" "I", Cond.fieldLink RX5 162 "GameCafe$Group" "copy" "LGameCafe$Copy;", Cond.fieldLink RX5 114 "GameCafe$Copy" "game" "LGameCafe$Game;", Cond.fieldLink RX5 67 "GameCafe$Game" "most" "I", Cond.fieldLink RX5 166 "GameCafe$Group" "table" "LGameCafe$Table;", Cond.fieldLink RX5 90 "GameCafe$Table" "seats" "I", Cond.fieldLink RX5 80 "GameCafe$Table" "group" "I", Cond.fieldLink RX5 172 "GameCafe$Table" "number" "I", Cond.methodLink RX5 155 yX5_groupNumbered, Cond.instanceMethod yX5_groupNumbered, Cond.selects RX5 yX5_groupNumbered yX5_groupNumbered, Cond.initialized RX5, Cond.code yX5_groupNumbered cX5_groupNumbered 2 (some (.object "GameCafe$Group")), Cond.classLink RX5 211 "java/lang/IndexOutOfBoundsException", Cond.initialized "java/lang/IndexOutOfBoundsException", Cond.fieldLink RX5 35 "GameCafe" "groups" "[LGameCafe$Group;", Cond.methodLink RX5 60 yX5_checkRange, Cond.static yX5_checkRange, Cond.code yX5_checkRange cX5_checkRange 3 none, Cond.classLink RX5 118 "java/lang/IllegalArgumentException", Cond.initialized "java/lang/IllegalArgumentException", Cond.methodLink RX5 135 yX5_freeTableFor]
def wsX5_grow_r2 : List Cond := [Cond.instanceMethod yX5_freeTableFor, Cond.selects RX5 yX5_freeTableFor yX5_freeTableFor, Cond.code yX5_freeTableFor cX5_freeTableFor 8 (some (.object "GameCafe$Table")), Cond.fieldLink RX5 17 "GameCafe" "tables" "[LGameCafe$Table;"]
def wsX5_grow : List Cond := .code yX5_grow cX5_grow 6 (some .int) :: ((wsX5_grow_r1 ++ wsX5_grow_r2) ++ wsX20 ++ wsX00 ++ wsX10 ++ wsX30 ++ wsX50 ++ (vx_atS RX5 87 "java/lang/IllegalStateException" ["java/lang/RuntimeException", "java/lang/Exception"]).filter goodWord ++ (vx_atS RX5 215 "java/lang/IndexOutOfBoundsException" ["java/lang/RuntimeException", "java/lang/Exception"]).filter goodWord ++ (vx_atS RX5 122 "java/lang/IllegalArgumentException" ["java/lang/RuntimeException", "java/lang/Exception"]).filter goodWord)
def wsX5_go : List Cond := .code yX5_go cX5_go 3 (some .int) :: ([.fieldLink RX5 166 "GameCafe$Group" "table" "LGameCafe$Table;", .fieldLink RX5 80 "GameCafe$Table" "group" "I", .fieldLink RX5 162 "GameCafe$Group" "copy" "LGameCafe$Copy;", .fieldLink RX5 109 "GameCafe$Copy" "place" "I", .fieldLink RX5 114 "GameCafe$Copy" "game" "LGameCafe$Game;", .fieldLink RX5 175 "GameCafe$Game" "timesPlayed" "I", .fieldLink RX5 35 "GameCafe" "groups" "[LGameCafe$Group;", .fieldLink RX5 49 "GameCafe" "now" "I", .fieldLink RX5 178 "GameCafe$Group" "since" "I", .methodLink RX5 155 yX5_groupNumbered, .instanceMethod yX5_groupNumbered, .selects RX5 yX5_groupNumbered yX5_groupNumbered, .initialized RX5, .code yX5_groupNumbered cX5_groupNumbered 2 (some (.object "GameCafe$Group")), .classLink RX5 211 "java/lang/IndexOutOfBoundsException", .initialized "java/lang/IndexOutOfBoundsException"] ++ wsX20 ++ wsX30 ++ wsX00 ++ wsX10 ++ wsX50 ++ (vx_atS RX5 215 "java/lang/IndexOutOfBoundsException" ["java/lang/RuntimeException", "java/lang/Exception"]).filter goodWord)
def wsX5_advance : List Cond := .code yX5_advance cX5_advance 2 (some .int) :: ([.classLink RX5 83 "java/lang/IllegalStateException", .initialized "java/lang/IllegalStateException", .fieldLink RX5 49 "GameCafe" "now" "I", .constant RX5 181 (100000), .methodLink RX5 60 yX5_checkRange, .static yX5_checkRange, .initialized RX5, .code yX5_checkRange cX5_checkRange 3 none, .classLink RX5 118 "java/lang/IllegalArgumentException", .initialized "java/lang/IllegalArgumentException"] ++ wsX50 ++ (vx_atS RX5 87 "java/lang/IllegalStateException" ["java/lang/RuntimeException", "java/lang/Exception"]).filter goodWord ++ (vx_atS RX5 122 "java/lang/IllegalArgumentException" ["java/lang/RuntimeException", "java/lang/Exception"]).filter goodWord)
def wsX5_lend : List Cond := .code yX5_lend cX5_lend 4 (some .int) :: ([.classLink RX5 83 "java/lang/IllegalStateException", .initialized "java/lang/IllegalStateException", .fieldLink RX5 109 "GameCafe$Copy" "place" "I", .fieldLink RX5 39 "GameCafe" "borrowed" "[LGameCafe$Copy;", .methodLink RX5 102 yX5_copyNumbered, .instanceMethod yX5_copyNumbered, .selects RX5 yX5_copyNumbered yX5_copyNumbered, .initialized RX5, .code yX5_copyNumbered cX5_copyNumbered 2 (some (.object "GameCafe$Copy")), .classLink RX5 211 "java/lang/IndexOutOfBoundsException", .initialized "java/lang/IndexOutOfBoundsException", .fieldLink RX5 29 "GameCafe" "owned" "[LGameCafe$Copy;", .methodLink RX5 57 yX5_checkNumber, .static yX5_checkNumber, .code yX5_checkNumber cX5_checkNumber 2 none, .methodLink RX5 186 yX0_worth, .instanceMethod yX0_worth, .selects RX0 yX0_worth yX0_worth, .initialized RX0, .code yX0_worth cX0_worth 3 (some .int), .fieldLink RX0 33 "GameCafe$Copy" "has" "[I", .static yX5_worthOfPart, .code yX5_worthOfPart cX5_worthOfPart 1 (some .int)] ++ wsX00 ++ wsX50 ++ (vx_atS RX5 87 "java/lang/IllegalStateException" ["java/lang/RuntimeException", "java/lang/Exception"]).filter goodWord ++ (vx_atS RX5 215 "java/lang/IndexOutOfBoundsException" ["java/lang/RuntimeException", "java/lang/Exception"]).filter goodWord)
def wsX5_giveBack_r1 : List Cond := [Cond.classLink RX5 83 "java/lang/IllegalStateException", Cond.initialized "java/lang/IllegalStateException", Cond.fieldLink RX5 39 "GameCafe" "borrowed" "[LGameCafe$Copy;", Cond.fieldLink RX5 106 "GameCafe$Copy" "has" "[I", Cond.fieldLink RX5 109 "GameCafe$Copy" "place" "I", Cond.methodLink RX5 57 yX5_checkNumber, Cond.static yX5_checkNumber, Cond.initialized RX5, Cond.code yX5_checkNumber cX5_checkNumber 2 none, Cond.classLink RX5 211 "java/lang/IndexOutOfBoundsException", Cond.initialized "java/lang/IndexOutOfBoundsException", Cond.methodLink RX5 60 yX5_checkRange, Cond.static yX5_checkRange, Cond.code yX5_checkRange cX5_checkRange 3 none, Cond.classLink RX5 118 "java/lang/IllegalArgumentException", Cond.initialized "java/lang/IllegalArgumentException", Cond.methodLink RX5 186 yX0_worth, Cond.instanceMethod yX0_worth, Cond.selects RX0 yX0_worth yX0_worth, Cond.initialized RX0, Cond.code yX0_worth cX0_worth 3 (some .int), Cond.fieldLink RX0 33 "GameCafe$Copy" "has" "[I", Cond.static yX5_worthOfPart, Cond.code yX5_worthOfPart cX5_worthOfPart 1 (some .int)]
def wsX5_giveBack_r2 : List Cond := [Cond.methodLink RX5 192 yX5_worthOfPart]
def wsX5_giveBack : List Cond := .code yX5_giveBack cX5_giveBack 6 (some .int) :: ((wsX5_giveBack_r1 ++ wsX5_giveBack_r2) ++ wsX50 ++ wsX00 ++ (vx_atS RX5 87 "java/lang/IllegalStateException" ["java/lang/RuntimeException", "java/lang/Exception"]).filter goodWord ++ (vx_atS RX5 215 "java/lang/IndexOutOfBoundsException" ["java/lang/RuntimeException", "java/lang/Exception"]).filter goodWord ++ (vx_atS RX5 122 "java/lang/IllegalArgumentException" ["java/lang/RuntimeException", "java/lang/Exception"]).filter goodWord)
def wsX5_minute : List Cond := .code yX5_minute cX5_minute 1 (some .int) :: ([.fieldLink RX5 49 "GameCafe" "now" "I"] ++ wsX50)
def wsX5_copies : List Cond := .code yX5_copies cX5_copies 1 (some .int) :: ([.fieldLink RX5 42 "GameCafe" "bought" "I"] ++ wsX50)
def wsX5_parts : List Cond := .code yX5_parts cX5_parts 4 (some .int) :: ([.fieldLink RX5 106 "GameCafe$Copy" "has" "[I", .methodLink RX5 102 yX5_copyNumbered, .instanceMethod yX5_copyNumbered, .selects RX5 yX5_copyNumbered yX5_copyNumbered, .initialized RX5, .code yX5_copyNumbered cX5_copyNumbered 2 (some (.object "GameCafe$Copy")), .classLink RX5 211 "java/lang/IndexOutOfBoundsException", .initialized "java/lang/IndexOutOfBoundsException", .fieldLink RX5 29 "GameCafe" "owned" "[LGameCafe$Copy;", .methodLink RX5 57 yX5_checkNumber, .static yX5_checkNumber, .code yX5_checkNumber cX5_checkNumber 2 none] ++ wsX00 ++ wsX50 ++ (vx_atS RX5 215 "java/lang/IndexOutOfBoundsException" ["java/lang/RuntimeException", "java/lang/Exception"]).filter goodWord)
def wsX5_canBePlayed : List Cond := .code yX5_canBePlayed cX5_canBePlayed 2 (some .boolean) :: ([.methodLink RX5 102 yX5_copyNumbered, .instanceMethod yX5_copyNumbered, .selects RX5 yX5_copyNumbered yX5_copyNumbered, .initialized RX5, .code yX5_copyNumbered cX5_copyNumbered 2 (some (.object "GameCafe$Copy")), .classLink RX5 211 "java/lang/IndexOutOfBoundsException", .initialized "java/lang/IndexOutOfBoundsException", .fieldLink RX5 29 "GameCafe" "owned" "[LGameCafe$Copy;", .methodLink RX5 196 yX0_isPlayable, .instanceMethod yX0_isPlayable, .selects RX0 yX0_isPlayable yX0_isPlayable, .initialized RX0, .code yX0_isPlayable cX0_isPlayable 2 (some .boolean), .fieldLink RX0 33 "GameCafe$Copy" "has" "[I", .fieldLink RX0 18 "GameCafe$Copy" "game" "LGameCafe$Game;", .fieldLink RX0 36 "GameCafe$Game" "need" "[I"] ++ wsX50 ++ wsX00 ++ wsX10 ++ (vx_atS RX5 215 "java/lang/IndexOutOfBoundsException" ["java/lang/RuntimeException", "java/lang/Exception"]).filter goodWord)
def wsX5_whereIs : List Cond := .code yX5_whereIs cX5_whereIs 2 (some .int) :: ([.fieldLink RX5 109 "GameCafe$Copy" "place" "I", .methodLink RX5 102 yX5_copyNumbered, .instanceMethod yX5_copyNumbered, .selects RX5 yX5_copyNumbered yX5_copyNumbered, .initialized RX5, .code yX5_copyNumbered cX5_copyNumbered 2 (some (.object "GameCafe$Copy")), .classLink RX5 211 "java/lang/IndexOutOfBoundsException", .initialized "java/lang/IndexOutOfBoundsException", .fieldLink RX5 29 "GameCafe" "owned" "[LGameCafe$Copy;"] ++ wsX00 ++ wsX50 ++ (vx_atS RX5 215 "java/lang/IndexOutOfBoundsException" ["java/lang/RuntimeException", "java/lang/Exception"]).filter goodWord)
def wsX5_at : List Cond := .code yX5_at cX5_at 2 (some .int) :: ([.fieldLink RX5 17 "GameCafe" "tables" "[LGameCafe$Table;", .fieldLink RX5 80 "GameCafe$Table" "group" "I", .methodLink RX5 57 yX5_checkNumber, .static yX5_checkNumber, .initialized RX5, .code yX5_checkNumber cX5_checkNumber 2 none, .classLink RX5 211 "java/lang/IndexOutOfBoundsException", .initialized "java/lang/IndexOutOfBoundsException"] ++ wsX50 ++ wsX30 ++ (vx_atS RX5 215 "java/lang/IndexOutOfBoundsException" ["java/lang/RuntimeException", "java/lang/Exception"]).filter goodWord)
def wsX5_copyOf : List Cond := .code yX5_copyOf cX5_copyOf 2 (some .int) :: ([.fieldLink RX5 162 "GameCafe$Group" "copy" "LGameCafe$Copy;", .fieldLink RX5 200 "GameCafe$Copy" "number" "I", .methodLink RX5 155 yX5_groupNumbered, .instanceMethod yX5_groupNumbered, .selects RX5 yX5_groupNumbered yX5_groupNumbered, .initialized RX5, .code yX5_groupNumbered cX5_groupNumbered 2 (some (.object "GameCafe$Group")), .classLink RX5 211 "java/lang/IndexOutOfBoundsException", .initialized "java/lang/IndexOutOfBoundsException", .fieldLink RX5 35 "GameCafe" "groups" "[LGameCafe$Group;"] ++ wsX20 ++ wsX00 ++ wsX50 ++ (vx_atS RX5 215 "java/lang/IndexOutOfBoundsException" ["java/lang/RuntimeException", "java/lang/Exception"]).filter goodWord)
def wsX5_teaching : List Cond := .code yX5_teaching cX5_teaching 2 (some .int) :: ([.fieldLink RX5 23 "GameCafe" "staff" "[LGameCafe$Teacher;", .fieldLink RX5 149 "GameCafe$Teacher" "busyUntil" "I", .fieldLink RX5 49 "GameCafe" "now" "I", .methodLink RX5 201 Lib.Math.max.name, .static Lib.Math.max.name, .initialized "java/lang/Math", .code Lib.Math.max.name Lib.Math.max.code 2 (some .int), .methodLink RX5 57 yX5_checkNumber, .static yX5_checkNumber, .initialized RX5, .code yX5_checkNumber cX5_checkNumber 2 none, .classLink RX5 211 "java/lang/IndexOutOfBoundsException", .initialized "java/lang/IndexOutOfBoundsException"] ++ wsX50 ++ wsX40 ++ (vx_atS RX5 215 "java/lang/IndexOutOfBoundsException" ["java/lang/RuntimeException", "java/lang/Exception"]).filter goodWord)
def wsX5_plays : List Cond := .code yX5_plays cX5_plays 2 (some .int) :: ([.fieldLink RX5 11 "GameCafe" "games" "[LGameCafe$Game;", .fieldLink RX5 175 "GameCafe$Game" "timesPlayed" "I", .methodLink RX5 57 yX5_checkNumber, .static yX5_checkNumber, .initialized RX5, .code yX5_checkNumber cX5_checkNumber 2 none, .classLink RX5 211 "java/lang/IndexOutOfBoundsException", .initialized "java/lang/IndexOutOfBoundsException"] ++ wsX50 ++ wsX10 ++ (vx_atS RX5 215 "java/lang/IndexOutOfBoundsException" ["java/lang/RuntimeException", "java/lang/Exception"]).filter goodWord)
def wsX5_canSeatKnowing_r1 : List Cond := [Cond.fieldLink RX5 46 "GameCafe" "seated" "I", Cond.methodLink RX5 129 yX1_isFor, Cond.instanceMethod yX1_isFor, Cond.selects RX1 yX1_isFor yX1_isFor, Cond.initialized RX1, Cond.code yX1_isFor cX1_isFor 2 (some .boolean), Cond.fieldLink RX1 7 "GameCafe$Game" "least" "I", Cond.fieldLink RX1 13 "GameCafe$Game" "most" "I", Cond.methodLink RX5 135 yX5_freeTableFor, Cond.instanceMethod yX5_freeTableFor, Cond.selects RX5 yX5_freeTableFor yX5_freeTableFor, Cond.initialized RX5, Cond.code yX5_freeTableFor cX5_freeTableFor 8 (some (.object "GameCafe$Table")), Cond.fieldLink RX5 17 "GameCafe" "tables" "[LGameCafe$Table;", Cond.fieldLink RX5 80 "GameCafe$Table" "group" "I", Cond.fieldLink RX5 90 "GameCafe$Table" "seats" "I", Cond.methodLink RX5 139 yX5_playableCopyOf, Cond.instanceMethod yX5_playableCopyOf, Cond.selects RX5 yX5_playableCopyOf yX5_playableCopyOf, Cond.code yX5_playableCopyOf cX5_playableCopyOf 6 (some (.object "GameCafe$Copy")), Cond.fieldLink RX5 29 "GameCafe" "owned" "[LGameCafe$Copy;", Cond.fieldLink RX5 114 "GameCafe$Copy" "game" "LGameCafe$Game;", Cond.fieldLink RX5 109 "GameCafe$Copy" "place" "I", Cond.methodLink RX5 196 yX0_isPlayable]
def wsX5_canSeatKnowing_r2 : List Cond := [Cond.instanceMethod yX0_isPlayable, Cond.selects RX0 yX0_isPlayable yX0_isPlayable, Cond.initialized RX0, Cond.code yX0_isPlayable cX0_isPlayable 2 (some .boolean), Cond.fieldLink RX0 33 "GameCafe$Copy" "has" "[I", Cond.fieldLink RX0 18 "GameCafe$Copy" "game" "LGameCafe$Game;", Cond.fieldLink RX0 36 "GameCafe$Game" "need" "[I"]
def wsX5_canSeatKnowing : List Cond := .code yX5_canSeatKnowing cX5_canSeatKnowing 3 (some .boolean) :: ((wsX5_canSeatKnowing_r1 ++ wsX5_canSeatKnowing_r2) ++ wsX50 ++ wsX10 ++ wsX30 ++ wsX00)
def wsX5_propose_r1 : List Cond := [Cond.fieldLink RX5 11 "GameCafe" "games" "[LGameCafe$Game;", Cond.fieldLink RX5 175 "GameCafe$Game" "timesPlayed" "I", Cond.methodLink RX5 60 yX5_checkRange, Cond.static yX5_checkRange, Cond.initialized RX5, Cond.code yX5_checkRange cX5_checkRange 3 none, Cond.classLink RX5 118 "java/lang/IllegalArgumentException", Cond.initialized "java/lang/IllegalArgumentException", Cond.methodLink RX5 207 yX5_canSeatKnowing, Cond.instanceMethod yX5_canSeatKnowing, Cond.selects RX5 yX5_canSeatKnowing yX5_canSeatKnowing, Cond.code yX5_canSeatKnowing cX5_canSeatKnowing 3 (some .boolean), Cond.fieldLink RX5 46 "GameCafe" "seated" "I", Cond.methodLink RX5 129 yX1_isFor, Cond.instanceMethod yX1_isFor, Cond.selects RX1 yX1_isFor yX1_isFor, Cond.initialized RX1, Cond.code yX1_isFor cX1_isFor 2 (some .boolean), Cond.fieldLink RX1 7 "GameCafe$Game" "least" "I", Cond.fieldLink RX1 13 "GameCafe$Game" "most" "I", Cond.methodLink RX5 135 yX5_freeTableFor, Cond.instanceMethod yX5_freeTableFor, Cond.selects RX5 yX5_freeTableFor yX5_freeTableFor, Cond.code yX5_freeTableFor cX5_freeTableFor 8 (some (.object "GameCafe$Table"))]
def wsX5_propose_r2 : List Cond := [Cond.fieldLink RX5 17 "GameCafe" "tables" "[LGameCafe$Table;", Cond.fieldLink RX5 80 "GameCafe$Table" "group" "I", Cond.fieldLink RX5 90 "GameCafe$Table" "seats" "I", Cond.methodLink RX5 139 yX5_playableCopyOf, Cond.instanceMethod yX5_playableCopyOf, Cond.selects RX5 yX5_playableCopyOf yX5_playableCopyOf, Cond.code yX5_playableCopyOf cX5_playableCopyOf 6 (some (.object "GameCafe$Copy")), Cond.fieldLink RX5 29 "GameCafe" "owned" "[LGameCafe$Copy;", Cond.fieldLink RX5 114 "GameCafe$Copy" "game" "LGameCafe$Game;", Cond.fieldLink RX5 109 "GameCafe$Copy" "place" "I", Cond.methodLink RX5 196 yX0_isPlayable, Cond.instanceMethod yX0_isPlayable, Cond.selects RX0 yX0_isPlayable yX0_isPlayable, Cond.initialized RX0, Cond.code yX0_isPlayable cX0_isPlayable 2 (some .boolean), Cond.fieldLink RX0 33 "GameCafe$Copy" "has" "[I", Cond.fieldLink RX0 18 "GameCafe$Copy" "game" "LGameCafe$Game;", Cond.fieldLink RX0 36 "GameCafe$Game" "need" "[I"]
def wsX5_propose : List Cond := .code yX5_propose cX5_propose 5 (some .int) :: ((wsX5_propose_r1 ++ wsX5_propose_r2) ++ wsX50 ++ wsX10 ++ wsX30 ++ wsX00 ++ (vx_atS RX5 122 "java/lang/IllegalArgumentException" ["java/lang/RuntimeException", "java/lang/Exception"]).filter goodWord)
def wsX6_init : List Cond := .code yX6_init cX6_init 2 none :: ([.methodLink RX6 1 objectInit, .instanceMethod objectInit, .code objectInit ⟨#[0xb1]⟩ 1 none, .arrayClass .int, .fieldLink RX6 7 "GameCafeModel" "leasts" "[I", .fieldLink RX6 13 "GameCafeModel" "mosts" "[I", .fieldLink RX6 16 "GameCafeModel" "minutes" "[I", .fieldLink RX6 19 "GameCafeModel" "wholes" "[I", .fieldLink RX6 22 "GameCafeModel" "needs" "[I", .fieldLink RX6 25 "GameCafeModel" "played" "[I", .fieldLink RX6 28 "GameCafeModel" "seats" "[I", .fieldLink RX6 31 "GameCafeModel" "taken" "[I", .fieldLink RX6 34 "GameCafeModel" "ignorant" "[I", .fieldLink RX6 37 "GameCafeModel" "until" "[I", .fieldLink RX6 40 "GameCafeModel" "games" "[I", .fieldLink RX6 43 "GameCafeModel" "places" "[I", .fieldLink RX6 46 "GameCafeModel" "parts" "[I", .fieldLink RX6 49 "GameCafeModel" "people" "[I", .fieldLink RX6 52 "GameCafeModel" "tables" "[I", .fieldLink RX6 55 "GameCafeModel" "ofGroup" "[I", .fieldLink RX6 58 "GameCafeModel" "since" "[I", .fieldLink RX6 61 "GameCafeModel" "gone" "[I", .fieldLink RX6 64 "GameCafeModel" "lent" "[I", .fieldLink RX6 67 "GameCafeModel" "deposits" "[I"] ++ wsX60)
def wsX6_thrown : List Cond := .code yX6_thrown cX6_thrown 1 (some .int) :: ([.fieldLink RX6 70 "GameCafeModel" "thrown" "I"] ++ wsX60)
def wsX6_fails : List Cond := .code yX6_fails cX6_fails 2 (some .int) :: ([.fieldLink RX6 70 "GameCafeModel" "thrown" "I"] ++ wsX60)
def wsX6_in : List Cond := .code yX6_in cX6_in 3 (some .boolean) :: ([])
def wsX6_isGame : List Cond := .code yX6_isGame cX6_isGame 1 (some .boolean) :: ([.methodLink RX6 74 yX6_in, .static yX6_in, .initialized RX6, .code yX6_in cX6_in 3 (some .boolean)])
def wsX6_isCopy : List Cond := .code yX6_isCopy cX6_isCopy 2 (some .boolean) :: ([.fieldLink RX6 78 "GameCafeModel" "copies" "I", .methodLink RX6 74 yX6_in, .static yX6_in, .initialized RX6, .code yX6_in cX6_in 3 (some .boolean)] ++ wsX60)
def wsX6_isThere : List Cond := .code yX6_isThere cX6_isThere 2 (some .boolean) :: ([.fieldLink RX6 81 "GameCafeModel" "groups" "I", .fieldLink RX6 61 "GameCafeModel" "gone" "[I", .fieldLink RX6 70 "GameCafeModel" "thrown" "I", .methodLink RX6 74 yX6_in, .static yX6_in, .initialized RX6, .code yX6_in cX6_in 3 (some .boolean)] ++ wsX60)
def wsX6_setGame : List Cond := .code yX6_setGame cX6_setGame 5 none :: ([.fieldLink RX6 70 "GameCafeModel" "thrown" "I", .fieldLink RX6 7 "GameCafeModel" "leasts" "[I", .fieldLink RX6 13 "GameCafeModel" "mosts" "[I", .fieldLink RX6 16 "GameCafeModel" "minutes" "[I", .methodLink RX6 84 yX6_isGame, .static yX6_isGame, .initialized RX6, .code yX6_isGame cX6_isGame 1 (some .boolean), .methodLink RX6 74 yX6_in, .static yX6_in, .code yX6_in cX6_in 3 (some .boolean)] ++ wsX60)
def wsX6_setParts : List Cond := .code yX6_setParts cX6_setParts 5 none :: ([.fieldLink RX6 70 "GameCafeModel" "thrown" "I", .fieldLink RX6 19 "GameCafeModel" "wholes" "[I", .fieldLink RX6 22 "GameCafeModel" "needs" "[I", .methodLink RX6 84 yX6_isGame, .static yX6_isGame, .initialized RX6, .code yX6_isGame cX6_isGame 1 (some .boolean), .methodLink RX6 74 yX6_in, .static yX6_in, .code yX6_in cX6_in 3 (some .boolean)] ++ wsX60)
def wsX6_setSeats : List Cond := .code yX6_setSeats cX6_setSeats 4 (some .int) :: ([.fieldLink RX6 31 "GameCafeModel" "taken" "[I", .fieldLink RX6 70 "GameCafeModel" "thrown" "I", .fieldLink RX6 28 "GameCafeModel" "seats" "[I", .methodLink RX6 74 yX6_in, .static yX6_in, .initialized RX6, .code yX6_in cX6_in 3 (some .boolean)] ++ wsX60)
def wsX6_teach : List Cond := .code yX6_teach cX6_teach 5 (some .boolean) :: ([.fieldLink RX6 70 "GameCafeModel" "thrown" "I", .fieldLink RX6 34 "GameCafeModel" "ignorant" "[I", .methodLink RX6 74 yX6_in, .static yX6_in, .initialized RX6, .code yX6_in cX6_in 3 (some .boolean), .methodLink RX6 84 yX6_isGame, .static yX6_isGame, .code yX6_isGame cX6_isGame 1 (some .boolean)] ++ wsX60)
def wsX6_buy : List Cond := .code yX6_buy cX6_buy 3 (some .int) :: ([.fieldLink RX6 78 "GameCafeModel" "copies" "I", .fieldLink RX6 70 "GameCafeModel" "thrown" "I", .fieldLink RX6 40 "GameCafeModel" "games" "[I", .fieldLink RX6 46 "GameCafeModel" "parts" "[I", .fieldLink RX6 19 "GameCafeModel" "wholes" "[I", .methodLink RX6 84 yX6_isGame, .static yX6_isGame, .initialized RX6, .code yX6_isGame cX6_isGame 1 (some .boolean), .methodLink RX6 74 yX6_in, .static yX6_in, .code yX6_in cX6_in 3 (some .boolean)] ++ wsX60)
def wsX6_count : List Cond := .code yX6_count cX6_count 5 (some .int) :: ([.fieldLink RX6 70 "GameCafeModel" "thrown" "I", .fieldLink RX6 46 "GameCafeModel" "parts" "[I", .fieldLink RX6 43 "GameCafeModel" "places" "[I", .methodLink RX6 88 yX6_isCopy, .instanceMethod yX6_isCopy, .selects RX6 yX6_isCopy yX6_isCopy, .initialized RX6, .code yX6_isCopy cX6_isCopy 2 (some .boolean), .fieldLink RX6 78 "GameCafeModel" "copies" "I", .methodLink RX6 74 yX6_in, .static yX6_in, .code yX6_in cX6_in 3 (some .boolean), .methodLink RX6 91 yX6_fails, .instanceMethod yX6_fails, .selects RX6 yX6_fails yX6_fails, .code yX6_fails cX6_fails 2 (some .int)] ++ wsX60)
def wsX6_fill : List Cond := .code yX6_fill cX6_fill 7 (some .int) :: ([.fieldLink RX6 70 "GameCafeModel" "thrown" "I", .fieldLink RX6 40 "GameCafeModel" "games" "[I", .fieldLink RX6 43 "GameCafeModel" "places" "[I", .fieldLink RX6 19 "GameCafeModel" "wholes" "[I", .fieldLink RX6 46 "GameCafeModel" "parts" "[I", .methodLink RX6 88 yX6_isCopy, .instanceMethod yX6_isCopy, .selects RX6 yX6_isCopy yX6_isCopy, .initialized RX6, .code yX6_isCopy cX6_isCopy 2 (some .boolean), .fieldLink RX6 78 "GameCafeModel" "copies" "I", .methodLink RX6 74 yX6_in, .static yX6_in, .code yX6_in cX6_in 3 (some .boolean), .methodLink RX6 91 yX6_fails, .instanceMethod yX6_fails, .selects RX6 yX6_fails yX6_fails, .code yX6_fails cX6_fails 2 (some .int)] ++ wsX60)
def wsX6_playable : List Cond := .code yX6_playable cX6_playable 4 (some .boolean) :: ([.fieldLink RX6 46 "GameCafeModel" "parts" "[I", .fieldLink RX6 22 "GameCafeModel" "needs" "[I", .fieldLink RX6 40 "GameCafeModel" "games" "[I"] ++ wsX60)
def wsX6_tableFor : List Cond := .code yX6_tableFor cX6_tableFor 5 (some .int) :: ([.fieldLink RX6 31 "GameCafeModel" "taken" "[I", .fieldLink RX6 28 "GameCafeModel" "seats" "[I"] ++ wsX60)
def wsX6_copyFor : List Cond := .code yX6_copyFor cX6_copyFor 3 (some .int) :: ([.fieldLink RX6 78 "GameCafeModel" "copies" "I", .fieldLink RX6 40 "GameCafeModel" "games" "[I", .fieldLink RX6 43 "GameCafeModel" "places" "[I", .methodLink RX6 95 yX6_playable, .instanceMethod yX6_playable, .selects RX6 yX6_playable yX6_playable, .initialized RX6, .code yX6_playable cX6_playable 4 (some .boolean), .fieldLink RX6 46 "GameCafeModel" "parts" "[I", .fieldLink RX6 22 "GameCafeModel" "needs" "[I"] ++ wsX60)
def wsX6_teacherFor : List Cond := .code yX6_teacherFor cX6_teacherFor 3 (some .int) :: ([.fieldLink RX6 34 "GameCafeModel" "ignorant" "[I", .fieldLink RX6 37 "GameCafeModel" "until" "[I", .fieldLink RX6 98 "GameCafeModel" "minute" "I"] ++ wsX60)
def wsX6_seat_r1 : List Cond := [Cond.fieldLink RX6 7 "GameCafeModel" "leasts" "[I", Cond.fieldLink RX6 13 "GameCafeModel" "mosts" "[I", Cond.fieldLink RX6 70 "GameCafeModel" "thrown" "I", Cond.fieldLink RX6 81 "GameCafeModel" "groups" "I", Cond.fieldLink RX6 37 "GameCafeModel" "until" "[I", Cond.fieldLink RX6 98 "GameCafeModel" "minute" "I", Cond.fieldLink RX6 16 "GameCafeModel" "minutes" "[I", Cond.fieldLink RX6 31 "GameCafeModel" "taken" "[I", Cond.fieldLink RX6 43 "GameCafeModel" "places" "[I", Cond.fieldLink RX6 49 "GameCafeModel" "people" "[I", Cond.fieldLink RX6 52 "GameCafeModel" "tables" "[I", Cond.fieldLink RX6 55 "GameCafeModel" "ofGroup" "[I", Cond.fieldLink RX6 58 "GameCafeModel" "since" "[I", Cond.methodLink RX6 84 yX6_isGame, Cond.static yX6_isGame, Cond.initialized RX6, Cond.code yX6_isGame cX6_isGame 1 (some .boolean), Cond.methodLink RX6 74 yX6_in, Cond.static yX6_in, Cond.code yX6_in cX6_in 3 (some .boolean), Cond.methodLink RX6 101 yX6_tableFor, Cond.instanceMethod yX6_tableFor, Cond.selects RX6 yX6_tableFor yX6_tableFor, Cond.code yX6_tableFor cX6_tableFor 5 (some .int)]
def wsX6_seat_r2 : List Cond := [Cond.fieldLink RX6 28 "GameCafeModel" "seats" "[I", Cond.methodLink RX6 104 yX6_copyFor, Cond.instanceMethod yX6_copyFor, Cond.selects RX6 yX6_copyFor yX6_copyFor, Cond.code yX6_copyFor cX6_copyFor 3 (some .int), Cond.fieldLink RX6 78 "GameCafeModel" "copies" "I", Cond.fieldLink RX6 40 "GameCafeModel" "games" "[I", Cond.methodLink RX6 95 yX6_playable, Cond.instanceMethod yX6_playable, Cond.selects RX6 yX6_playable yX6_playable, Cond.code yX6_playable cX6_playable 4 (some .boolean), Cond.fieldLink RX6 46 "GameCafeModel" "parts" "[I", Cond.fieldLink RX6 22 "GameCafeModel" "needs" "[I", Cond.methodLink RX6 107 yX6_teacherFor, Cond.instanceMethod yX6_teacherFor, Cond.selects RX6 yX6_teacherFor yX6_teacherFor, Cond.code yX6_teacherFor cX6_teacherFor 3 (some .int), Cond.fieldLink RX6 34 "GameCafeModel" "ignorant" "[I", Cond.methodLink RX6 91 yX6_fails, Cond.instanceMethod yX6_fails, Cond.selects RX6 yX6_fails yX6_fails, Cond.code yX6_fails cX6_fails 2 (some .int)]
def wsX6_seat : List Cond := .code yX6_seat cX6_seat 7 (some .int) :: ((wsX6_seat_r1 ++ wsX6_seat_r2) ++ wsX60)
def wsX6_grow_r1 : List Cond := [Cond.fieldLink RX6 49 "GameCafeModel" "people" "[I", Cond.fieldLink RX6 28 "GameCafeModel" "seats" "[I", Cond.fieldLink RX6 52 "GameCafeModel" "tables" "[I", Cond.fieldLink RX6 13 "GameCafeModel" "mosts" "[I", Cond.fieldLink RX6 40 "GameCafeModel" "games" "[I", Cond.fieldLink RX6 55 "GameCafeModel" "ofGroup" "[I", Cond.fieldLink RX6 31 "GameCafeModel" "taken" "[I", Cond.methodLink RX6 110 yX6_isThere, Cond.instanceMethod yX6_isThere, Cond.selects RX6 yX6_isThere yX6_isThere, Cond.initialized RX6, Cond.code yX6_isThere cX6_isThere 2 (some .boolean), Cond.fieldLink RX6 81 "GameCafeModel" "groups" "I", Cond.fieldLink RX6 61 "GameCafeModel" "gone" "[I", Cond.fieldLink RX6 70 "GameCafeModel" "thrown" "I", Cond.methodLink RX6 74 yX6_in, Cond.static yX6_in, Cond.code yX6_in cX6_in 3 (some .boolean), Cond.methodLink RX6 91 yX6_fails, Cond.instanceMethod yX6_fails, Cond.selects RX6 yX6_fails yX6_fails, Cond.code yX6_fails cX6_fails 2 (some .int), Cond.methodLink RX6 101 yX6_tableFor, Cond.instanceMethod yX6_tableFor]
def wsX6_grow_r2 : List Cond := [Cond.selects RX6 yX6_tableFor yX6_tableFor, Cond.code yX6_tableFor cX6_tableFor 5 (some .int)]
def wsX6_grow : List Cond := .code yX6_grow cX6_grow 5 (some .int) :: ((wsX6_grow_r1 ++ wsX6_grow_r2) ++ wsX60)
def wsX6_go : List Cond := .code yX6_go cX6_go 2 (some .int) :: ([.fieldLink RX6 61 "GameCafeModel" "gone" "[I", .fieldLink RX6 31 "GameCafeModel" "taken" "[I", .fieldLink RX6 52 "GameCafeModel" "tables" "[I", .fieldLink RX6 43 "GameCafeModel" "places" "[I", .fieldLink RX6 55 "GameCafeModel" "ofGroup" "[I", .fieldLink RX6 25 "GameCafeModel" "played" "[I", .fieldLink RX6 40 "GameCafeModel" "games" "[I", .fieldLink RX6 98 "GameCafeModel" "minute" "I", .fieldLink RX6 58 "GameCafeModel" "since" "[I", .methodLink RX6 110 yX6_isThere, .instanceMethod yX6_isThere, .selects RX6 yX6_isThere yX6_isThere, .initialized RX6, .code yX6_isThere cX6_isThere 2 (some .boolean), .fieldLink RX6 81 "GameCafeModel" "groups" "I", .fieldLink RX6 70 "GameCafeModel" "thrown" "I", .methodLink RX6 74 yX6_in, .static yX6_in, .code yX6_in cX6_in 3 (some .boolean)] ++ wsX60)
def wsX6_advance : List Cond := .code yX6_advance cX6_advance 2 (some .int) :: ([.fieldLink RX6 98 "GameCafeModel" "minute" "I", .constant RX6 113 (100000), .fieldLink RX6 70 "GameCafeModel" "thrown" "I", .methodLink RX6 74 yX6_in, .static yX6_in, .initialized RX6, .code yX6_in cX6_in 3 (some .boolean)] ++ wsX60)
def wsX6_lend : List Cond := .code yX6_lend cX6_lend 5 (some .int) :: ([.fieldLink RX6 43 "GameCafeModel" "places" "[I", .fieldLink RX6 64 "GameCafeModel" "lent" "[I", .fieldLink RX6 70 "GameCafeModel" "thrown" "I", .fieldLink RX6 46 "GameCafeModel" "parts" "[I", .fieldLink RX6 67 "GameCafeModel" "deposits" "[I", .methodLink RX6 88 yX6_isCopy, .instanceMethod yX6_isCopy, .selects RX6 yX6_isCopy yX6_isCopy, .initialized RX6, .code yX6_isCopy cX6_isCopy 2 (some .boolean), .fieldLink RX6 78 "GameCafeModel" "copies" "I", .methodLink RX6 74 yX6_in, .static yX6_in, .code yX6_in cX6_in 3 (some .boolean)] ++ wsX60)
def wsX6_giveBack : List Cond := .code yX6_giveBack cX6_giveBack 5 (some .int) :: ([.fieldLink RX6 70 "GameCafeModel" "thrown" "I", .fieldLink RX6 64 "GameCafeModel" "lent" "[I", .fieldLink RX6 46 "GameCafeModel" "parts" "[I", .fieldLink RX6 43 "GameCafeModel" "places" "[I", .fieldLink RX6 67 "GameCafeModel" "deposits" "[I", .methodLink RX6 74 yX6_in, .static yX6_in, .initialized RX6, .code yX6_in cX6_in 3 (some .boolean), .methodLink RX6 91 yX6_fails, .instanceMethod yX6_fails, .selects RX6 yX6_fails yX6_fails, .code yX6_fails cX6_fails 2 (some .int)] ++ wsX60)
def wsX6_minute : List Cond := .code yX6_minute cX6_minute 1 (some .int) :: ([.fieldLink RX6 70 "GameCafeModel" "thrown" "I", .fieldLink RX6 98 "GameCafeModel" "minute" "I"] ++ wsX60)
def wsX6_copies : List Cond := .code yX6_copies cX6_copies 1 (some .int) :: ([.fieldLink RX6 70 "GameCafeModel" "thrown" "I", .fieldLink RX6 78 "GameCafeModel" "copies" "I"] ++ wsX60)
def wsX6_parts : List Cond := .code yX6_parts cX6_parts 3 (some .int) :: ([.fieldLink RX6 70 "GameCafeModel" "thrown" "I", .fieldLink RX6 46 "GameCafeModel" "parts" "[I", .methodLink RX6 88 yX6_isCopy, .instanceMethod yX6_isCopy, .selects RX6 yX6_isCopy yX6_isCopy, .initialized RX6, .code yX6_isCopy cX6_isCopy 2 (some .boolean), .fieldLink RX6 78 "GameCafeModel" "copies" "I", .methodLink RX6 74 yX6_in, .static yX6_in, .code yX6_in cX6_in 3 (some .boolean)] ++ wsX60)
def wsX6_canBePlayed : List Cond := .code yX6_canBePlayed cX6_canBePlayed 2 (some .boolean) :: ([.fieldLink RX6 70 "GameCafeModel" "thrown" "I", .methodLink RX6 88 yX6_isCopy, .instanceMethod yX6_isCopy, .selects RX6 yX6_isCopy yX6_isCopy, .initialized RX6, .code yX6_isCopy cX6_isCopy 2 (some .boolean), .fieldLink RX6 78 "GameCafeModel" "copies" "I", .methodLink RX6 74 yX6_in, .static yX6_in, .code yX6_in cX6_in 3 (some .boolean), .methodLink RX6 95 yX6_playable, .instanceMethod yX6_playable, .selects RX6 yX6_playable yX6_playable, .code yX6_playable cX6_playable 4 (some .boolean), .fieldLink RX6 46 "GameCafeModel" "parts" "[I", .fieldLink RX6 22 "GameCafeModel" "needs" "[I", .fieldLink RX6 40 "GameCafeModel" "games" "[I"] ++ wsX60)
def wsX6_whereIs : List Cond := .code yX6_whereIs cX6_whereIs 2 (some .int) :: ([.fieldLink RX6 70 "GameCafeModel" "thrown" "I", .fieldLink RX6 43 "GameCafeModel" "places" "[I", .methodLink RX6 88 yX6_isCopy, .instanceMethod yX6_isCopy, .selects RX6 yX6_isCopy yX6_isCopy, .initialized RX6, .code yX6_isCopy cX6_isCopy 2 (some .boolean), .fieldLink RX6 78 "GameCafeModel" "copies" "I", .methodLink RX6 74 yX6_in, .static yX6_in, .code yX6_in cX6_in 3 (some .boolean)] ++ wsX60)
def wsX6_at : List Cond := .code yX6_at cX6_at 2 (some .int) :: ([.fieldLink RX6 70 "GameCafeModel" "thrown" "I", .fieldLink RX6 31 "GameCafeModel" "taken" "[I", .methodLink RX6 74 yX6_in, .static yX6_in, .initialized RX6, .code yX6_in cX6_in 3 (some .boolean)] ++ wsX60)
def wsX6_copyOf : List Cond := .code yX6_copyOf cX6_copyOf 2 (some .int) :: ([.fieldLink RX6 55 "GameCafeModel" "ofGroup" "[I", .methodLink RX6 110 yX6_isThere, .instanceMethod yX6_isThere, .selects RX6 yX6_isThere yX6_isThere, .initialized RX6, .code yX6_isThere cX6_isThere 2 (some .boolean), .fieldLink RX6 81 "GameCafeModel" "groups" "I", .fieldLink RX6 61 "GameCafeModel" "gone" "[I", .fieldLink RX6 70 "GameCafeModel" "thrown" "I", .methodLink RX6 74 yX6_in, .static yX6_in, .code yX6_in cX6_in 3 (some .boolean)] ++ wsX60)
def wsX6_teaching : List Cond := .code yX6_teaching cX6_teaching 2 (some .int) :: ([.fieldLink RX6 70 "GameCafeModel" "thrown" "I", .fieldLink RX6 37 "GameCafeModel" "until" "[I", .fieldLink RX6 98 "GameCafeModel" "minute" "I", .methodLink RX6 74 yX6_in, .static yX6_in, .initialized RX6, .code yX6_in cX6_in 3 (some .boolean)] ++ wsX60)
def wsX6_plays : List Cond := .code yX6_plays cX6_plays 2 (some .int) :: ([.fieldLink RX6 70 "GameCafeModel" "thrown" "I", .fieldLink RX6 25 "GameCafeModel" "played" "[I", .methodLink RX6 84 yX6_isGame, .static yX6_isGame, .initialized RX6, .code yX6_isGame cX6_isGame 1 (some .boolean), .methodLink RX6 74 yX6_in, .static yX6_in, .code yX6_in cX6_in 3 (some .boolean)] ++ wsX60)
def wsX6_propose_r1 : List Cond := [Cond.fieldLink RX6 70 "GameCafeModel" "thrown" "I", Cond.fieldLink RX6 81 "GameCafeModel" "groups" "I", Cond.fieldLink RX6 7 "GameCafeModel" "leasts" "[I", Cond.fieldLink RX6 13 "GameCafeModel" "mosts" "[I", Cond.fieldLink RX6 25 "GameCafeModel" "played" "[I", Cond.methodLink RX6 74 yX6_in, Cond.static yX6_in, Cond.initialized RX6, Cond.code yX6_in cX6_in 3 (some .boolean), Cond.methodLink RX6 101 yX6_tableFor, Cond.instanceMethod yX6_tableFor, Cond.selects RX6 yX6_tableFor yX6_tableFor, Cond.code yX6_tableFor cX6_tableFor 5 (some .int), Cond.fieldLink RX6 31 "GameCafeModel" "taken" "[I", Cond.fieldLink RX6 28 "GameCafeModel" "seats" "[I", Cond.methodLink RX6 104 yX6_copyFor, Cond.instanceMethod yX6_copyFor, Cond.selects RX6 yX6_copyFor yX6_copyFor, Cond.code yX6_copyFor cX6_copyFor 3 (some .int), Cond.fieldLink RX6 78 "GameCafeModel" "copies" "I", Cond.fieldLink RX6 40 "GameCafeModel" "games" "[I", Cond.fieldLink RX6 43 "GameCafeModel" "places" "[I", Cond.methodLink RX6 95 yX6_playable, Cond.instanceMethod yX6_playable]
def wsX6_propose_r2 : List Cond := [Cond.selects RX6 yX6_playable yX6_playable, Cond.code yX6_playable cX6_playable 4 (some .boolean), Cond.fieldLink RX6 46 "GameCafeModel" "parts" "[I", Cond.fieldLink RX6 22 "GameCafeModel" "needs" "[I"]
def wsX6_propose : List Cond := .code yX6_propose cX6_propose 5 (some .int) :: ((wsX6_propose_r1 ++ wsX6_propose_r2) ++ wsX60)
def wsJ9_max_7cf53 : List Cond := .code yJ9_max_7cf53 cJ9_max_7cf53 2 (some .int) :: ([])
def wsJ9_min_7cf53 : List Cond := .code yJ9_min_7cf53 cJ9_min_7cf53 2 (some .int) :: ([])
def wsL_setGame : List Cond := .codeWith yL_setGame cL_setGame 6 (some .int) [(0, 9, 12, 13), (0, 9, 16, 15)] :: ([.classLink RL 13 "java/lang/IndexOutOfBoundsException", .classLink RL 15 "java/lang/IllegalArgumentException", .methodLink RL 7 yX5_setGame, .instanceMethod yX5_setGame, .selects RX5 yX5_setGame yX5_setGame, .initialized RX5, .code yX5_setGame cX5_setGame 6 none, .fieldLink RX5 11 "GameCafe" "games" "[LGameCafe$Game;", .fieldLink RX5 64 "GameCafe$Game" "least" "I", .fieldLink RX5 67 "GameCafe$Game" "most" "I", .fieldLink RX5 70 "GameCafe$Game" "lesson" "I", .methodLink RX5 57 yX5_checkNumber, .static yX5_checkNumber, .code yX5_checkNumber cX5_checkNumber 2 none, .classLink RX5 211 "java/lang/IndexOutOfBoundsException", .initialized "java/lang/IndexOutOfBoundsException", .methodLink RX5 60 yX5_checkRange, .static yX5_checkRange, .code yX5_checkRange cX5_checkRange 3 none, .classLink RX5 118 "java/lang/IllegalArgumentException", .initialized "java/lang/IllegalArgumentException"] ++ wsX50 ++ wsX10 ++ (vx_atS RX5 215 "java/lang/IndexOutOfBoundsException" ["java/lang/RuntimeException", "java/lang/Exception"]).filter goodWord ++ (vx_atS RX5 122 "java/lang/IllegalArgumentException" ["java/lang/RuntimeException", "java/lang/Exception"]).filter goodWord)
def wsL_setParts : List Cond := .codeWith yL_setParts cL_setParts 6 (some .int) [(0, 9, 12, 13), (0, 9, 16, 15)] :: ([.classLink RL 13 "java/lang/IndexOutOfBoundsException", .classLink RL 15 "java/lang/IllegalArgumentException", .methodLink RL 17 yX5_setParts, .instanceMethod yX5_setParts, .selects RX5 yX5_setParts yX5_setParts, .initialized RX5, .code yX5_setParts cX5_setParts 6 none, .fieldLink RX5 11 "GameCafe" "games" "[LGameCafe$Game;", .fieldLink RX5 73 "GameCafe$Game" "whole" "[I", .fieldLink RX5 77 "GameCafe$Game" "need" "[I", .methodLink RX5 57 yX5_checkNumber, .static yX5_checkNumber, .code yX5_checkNumber cX5_checkNumber 2 none, .classLink RX5 211 "java/lang/IndexOutOfBoundsException", .initialized "java/lang/IndexOutOfBoundsException", .methodLink RX5 60 yX5_checkRange, .static yX5_checkRange, .code yX5_checkRange cX5_checkRange 3 none, .classLink RX5 118 "java/lang/IllegalArgumentException", .initialized "java/lang/IllegalArgumentException"] ++ wsX50 ++ wsX10 ++ (vx_atS RX5 215 "java/lang/IndexOutOfBoundsException" ["java/lang/RuntimeException", "java/lang/Exception"]).filter goodWord ++ (vx_atS RX5 122 "java/lang/IllegalArgumentException" ["java/lang/RuntimeException", "java/lang/Exception"]).filter goodWord)
def wsL_setSeats : List Cond := .codeWith yL_setSeats cL_setSeats 5 (some .int) [(0, 10, 13, 13), (0, 10, 17, 15), (0, 10, 21, 24)] :: ([.classLink RL 13 "java/lang/IndexOutOfBoundsException", .classLink RL 15 "java/lang/IllegalArgumentException", .classLink RL 24 "java/lang/IllegalStateException", .methodLink RL 20 yX5_setSeats, .instanceMethod yX5_setSeats, .selects RX5 yX5_setSeats yX5_setSeats, .initialized RX5, .code yX5_setSeats cX5_setSeats 5 (some .int), .classLink RX5 83 "java/lang/IllegalStateException", .initialized "java/lang/IllegalStateException", .fieldLink RX5 17 "GameCafe" "tables" "[LGameCafe$Table;", .fieldLink RX5 80 "GameCafe$Table" "group" "I", .fieldLink RX5 90 "GameCafe$Table" "seats" "I", .methodLink RX5 57 yX5_checkNumber, .static yX5_checkNumber, .code yX5_checkNumber cX5_checkNumber 2 none, .classLink RX5 211 "java/lang/IndexOutOfBoundsException", .initialized "java/lang/IndexOutOfBoundsException", .methodLink RX5 60 yX5_checkRange, .static yX5_checkRange, .code yX5_checkRange cX5_checkRange 3 none, .classLink RX5 118 "java/lang/IllegalArgumentException", .initialized "java/lang/IllegalArgumentException"] ++ wsX50 ++ wsX30 ++ (vx_atS RX5 87 "java/lang/IllegalStateException" ["java/lang/RuntimeException", "java/lang/Exception"]).filter goodWord ++ (vx_atS RX5 215 "java/lang/IndexOutOfBoundsException" ["java/lang/RuntimeException", "java/lang/Exception"]).filter goodWord ++ (vx_atS RX5 122 "java/lang/IllegalArgumentException" ["java/lang/RuntimeException", "java/lang/Exception"]).filter goodWord)
def wsL_teach : List Cond := .codeWith yL_teach cL_teach 6 (some .int) [(0, 19, 22, 13)] :: ([.classLink RL 13 "java/lang/IndexOutOfBoundsException", .methodLink RL 26 yX5_teach, .instanceMethod yX5_teach, .selects RX5 yX5_teach yX5_teach, .initialized RX5, .code yX5_teach cX5_teach 6 (some .boolean), .fieldLink RX5 23 "GameCafe" "staff" "[LGameCafe$Teacher;", .fieldLink RX5 93 "GameCafe$Teacher" "knows" "[Z", .methodLink RX5 57 yX5_checkNumber, .static yX5_checkNumber, .code yX5_checkNumber cX5_checkNumber 2 none, .classLink RX5 211 "java/lang/IndexOutOfBoundsException", .initialized "java/lang/IndexOutOfBoundsException"] ++ wsX50 ++ wsX40 ++ (vx_atS RX5 215 "java/lang/IndexOutOfBoundsException" ["java/lang/RuntimeException", "java/lang/Exception"]).filter goodWord)
def wsL_buy_r1 : List Cond := [Cond.classLink RL 13 "java/lang/IndexOutOfBoundsException", Cond.classLink RL 24 "java/lang/IllegalStateException", Cond.methodLink RL 30 yX5_buy, Cond.instanceMethod yX5_buy, Cond.selects RX5 yX5_buy yX5_buy, Cond.initialized RX5, Cond.code yX5_buy cX5_buy 3 (some .int), Cond.classLink RX5 83 "java/lang/IllegalStateException", Cond.initialized "java/lang/IllegalStateException", Cond.fieldLink RX5 42 "GameCafe" "bought" "I", Cond.fieldLink RX5 29 "GameCafe" "owned" "[LGameCafe$Copy;", Cond.classLink RX5 27 RX0, Cond.instantiable RX0 4, Cond.initialized RX0, Cond.fieldLink RX5 11 "GameCafe" "games" "[LGameCafe$Game;", Cond.methodLink RX5 57 yX5_checkNumber, Cond.static yX5_checkNumber, Cond.code yX5_checkNumber cX5_checkNumber 2 none, Cond.classLink RX5 211 "java/lang/IndexOutOfBoundsException", Cond.initialized "java/lang/IndexOutOfBoundsException", Cond.methodLink RX5 99 yX0_init, Cond.instanceMethod yX0_init, Cond.code yX0_init cX0_init 3 none, Cond.methodLink RX0 3 objectInit]
def wsL_buy_r2 : List Cond := [Cond.instanceMethod objectInit, Cond.code objectInit ⟨#[0xb1]⟩ 1 none, Cond.fieldLink RX0 9 "GameCafe$Copy" "place" "I", Cond.fieldLink RX0 15 "GameCafe$Copy" "number" "I", Cond.fieldLink RX0 18 "GameCafe$Copy" "game" "LGameCafe$Game;", Cond.fieldLink RX0 22 "GameCafe$Game" "whole" "[I", Cond.methodLink RX0 28 ⟨"[I", "clone", "()Ljava/lang/Object;"⟩, Cond.sameMethod "[I" "java/lang/Object" "clone" "()Ljava/lang/Object;", Cond.native ⟨"java/lang/Object", "clone", "()Ljava/lang/Object;"⟩, Cond.instanceMethod ⟨"java/lang/Object", "clone", "()Ljava/lang/Object;"⟩, Cond.selects "[I" ⟨"[I", "clone", "()Ljava/lang/Object;"⟩ ⟨"java/lang/Object", "clone", "()Ljava/lang/Object;"⟩, Cond.classLink RX0 29 "[I", Cond.fieldLink RX0 33 "GameCafe$Copy" "has" "[I"]
def wsL_buy : List Cond := .codeWith yL_buy cL_buy 4 (some .int) [(0, 9, 12, 13), (0, 9, 15, 24)] :: ((wsL_buy_r1 ++ wsL_buy_r2) ++ wsX50 ++ wsX00 ++ wsX10 ++ (vx_atS RX5 87 "java/lang/IllegalStateException" ["java/lang/RuntimeException", "java/lang/Exception"]).filter goodWord ++ (vx_atS RX5 215 "java/lang/IndexOutOfBoundsException" ["java/lang/RuntimeException", "java/lang/Exception"]).filter goodWord)
def wsL_count_r1 : List Cond := [Cond.classLink RL 13 "java/lang/IndexOutOfBoundsException", Cond.classLink RL 15 "java/lang/IllegalArgumentException", Cond.classLink RL 24 "java/lang/IllegalStateException", Cond.methodLink RL 34 yX5_count, Cond.instanceMethod yX5_count, Cond.selects RX5 yX5_count yX5_count, Cond.initialized RX5, Cond.code yX5_count cX5_count 6 (some .int), Cond.classLink RX5 83 "java/lang/IllegalStateException", Cond.initialized "java/lang/IllegalStateException", Cond.fieldLink RX5 106 "GameCafe$Copy" "has" "[I", Cond.fieldLink RX5 109 "GameCafe$Copy" "place" "I", Cond.methodLink RX5 102 yX5_copyNumbered, Cond.instanceMethod yX5_copyNumbered, Cond.selects RX5 yX5_copyNumbered yX5_copyNumbered, Cond.code yX5_copyNumbered cX5_copyNumbered 2 (some (.object "GameCafe$Copy")), Cond.classLink RX5 211 "java/lang/IndexOutOfBoundsException", Cond.initialized "java/lang/IndexOutOfBoundsException", Cond.fieldLink RX5 29 "GameCafe" "owned" "[LGameCafe$Copy;", Cond.methodLink RX5 57 yX5_checkNumber, Cond.static yX5_checkNumber, Cond.code yX5_checkNumber cX5_checkNumber 2 none, Cond.methodLink RX5 60 yX5_checkRange, Cond.static yX5_checkRange]
def wsL_count_r2 : List Cond := [Cond.code yX5_checkRange cX5_checkRange 3 none, Cond.classLink RX5 118 "java/lang/IllegalArgumentException", Cond.initialized "java/lang/IllegalArgumentException"]
def wsL_count : List Cond := .codeWith yL_count cL_count 6 (some .int) [(0, 12, 15, 13), (0, 12, 19, 15), (0, 12, 23, 24)] :: ((wsL_count_r1 ++ wsL_count_r2) ++ wsX00 ++ wsX50 ++ (vx_atS RX5 87 "java/lang/IllegalStateException" ["java/lang/RuntimeException", "java/lang/Exception"]).filter goodWord ++ (vx_atS RX5 215 "java/lang/IndexOutOfBoundsException" ["java/lang/RuntimeException", "java/lang/Exception"]).filter goodWord ++ (vx_atS RX5 122 "java/lang/IllegalArgumentException" ["java/lang/RuntimeException", "java/lang/Exception"]).filter goodWord)
def wsL_fill_r1 : List Cond := [Cond.classLink RL 13 "java/lang/IndexOutOfBoundsException", Cond.classLink RL 15 "java/lang/IllegalArgumentException", Cond.classLink RL 24 "java/lang/IllegalStateException", Cond.methodLink RL 38 yX5_fill, Cond.instanceMethod yX5_fill, Cond.selects RX5 yX5_fill yX5_fill, Cond.initialized RX5, Cond.code yX5_fill cX5_fill 5 (some .int), Cond.classLink RX5 118 "java/lang/IllegalArgumentException", Cond.initialized "java/lang/IllegalArgumentException", Cond.classLink RX5 83 "java/lang/IllegalStateException", Cond.initialized "java/lang/IllegalStateException", Cond.fieldLink RX5 114 "GameCafe$Copy" "game" "LGameCafe$Game;", Cond.fieldLink RX5 109 "GameCafe$Copy" "place" "I", Cond.methodLink RX5 102 yX5_copyNumbered, Cond.instanceMethod yX5_copyNumbered, Cond.selects RX5 yX5_copyNumbered yX5_copyNumbered, Cond.code yX5_copyNumbered cX5_copyNumbered 2 (some (.object "GameCafe$Copy")), Cond.classLink RX5 211 "java/lang/IndexOutOfBoundsException", Cond.initialized "java/lang/IndexOutOfBoundsException", Cond.fieldLink RX5 29 "GameCafe" "owned" "[LGameCafe$Copy;", Cond.methodLink RX5 125 yX0_fillFrom, Cond.instanceMethod yX0_fillFrom, Cond.selects RX0 yX0_fillFrom yX0_fillFrom]
def wsL_fill_r2 : List Cond := [Cond.initialized RX0, Cond.code yX0_fillFrom cX0_fillFrom 6 (some .int), Cond.fieldLink RX0 18 "GameCafe$Copy" "game" "LGameCafe$Game;", Cond.fieldLink RX0 22 "GameCafe$Game" "whole" "[I", Cond.fieldLink RX0 33 "GameCafe$Copy" "has" "[I", Cond.methodLink RX0 43 Lib.Math.max.name, Cond.static Lib.Math.max.name, Cond.initialized "java/lang/Math", Cond.code Lib.Math.max.name Lib.Math.max.code 2 (some .int), Cond.methodLink RX0 49 Lib.Math.min.name, Cond.static Lib.Math.min.name, Cond.code Lib.Math.min.name Lib.Math.min.code 2 (some .int)]
def wsL_fill : List Cond := .codeWith yL_fill cL_fill 5 (some .int) [(0, 10, 13, 13), (0, 10, 17, 15), (0, 10, 21, 24)] :: ((wsL_fill_r1 ++ wsL_fill_r2) ++ wsX00 ++ wsX50 ++ wsX10 ++ (vx_atS RX5 122 "java/lang/IllegalArgumentException" ["java/lang/RuntimeException", "java/lang/Exception"]).filter goodWord ++ (vx_atS RX5 87 "java/lang/IllegalStateException" ["java/lang/RuntimeException", "java/lang/Exception"]).filter goodWord ++ (vx_atS RX5 215 "java/lang/IndexOutOfBoundsException" ["java/lang/RuntimeException", "java/lang/Exception"]).filter goodWord)
def wsL_seat_r1 : List Cond := [Cond.classLink RL 13 "java/lang/IndexOutOfBoundsException", Cond.classLink RL 15 "java/lang/IllegalArgumentException", Cond.classLink RL 24 "java/lang/IllegalStateException", Cond.methodLink RL 41 yX5_seat, Cond.instanceMethod yX5_seat, Cond.selects RX5 yX5_seat yX5_seat, Cond.initialized RX5, Cond.code yX5_seat cX5_seat 9 (some .int), Cond.classLink RX5 118 "java/lang/IllegalArgumentException", Cond.initialized "java/lang/IllegalArgumentException", Cond.classLink RX5 83 "java/lang/IllegalStateException", Cond.initialized "java/lang/IllegalStateException", Cond.fieldLink RX5 11 "GameCafe" "games" "[LGameCafe$Game;", Cond.fieldLink RX5 46 "GameCafe" "seated" "I", Cond.fieldLink RX5 49 "GameCafe" "now" "I", Cond.fieldLink RX5 70 "GameCafe$Game" "lesson" "I", Cond.fieldLink RX5 149 "GameCafe$Teacher" "busyUntil" "I", Cond.fieldLink RX5 35 "GameCafe" "groups" "[LGameCafe$Group;", Cond.classLink RX5 33 RX2, Cond.instantiable RX2 4, Cond.initialized RX2, Cond.fieldLink RX5 80 "GameCafe$Table" "group" "I", Cond.fieldLink RX5 109 "GameCafe$Copy" "place" "I", Cond.methodLink RX5 57 yX5_checkNumber]
def wsL_seat_r2 : List Cond := [Cond.static yX5_checkNumber, Cond.code yX5_checkNumber cX5_checkNumber 2 none, Cond.classLink RX5 211 "java/lang/IndexOutOfBoundsException", Cond.initialized "java/lang/IndexOutOfBoundsException", Cond.methodLink RX5 60 yX5_checkRange, Cond.static yX5_checkRange, Cond.code yX5_checkRange cX5_checkRange 3 none, Cond.methodLink RX5 129 yX1_isFor, Cond.instanceMethod yX1_isFor, Cond.selects RX1 yX1_isFor yX1_isFor, Cond.initialized RX1, Cond.code yX1_isFor cX1_isFor 2 (some .boolean), Cond.fieldLink RX1 7 "GameCafe$Game" "least" "I", Cond.fieldLink RX1 13 "GameCafe$Game" "most" "I", Cond.methodLink RX5 135 yX5_freeTableFor, Cond.instanceMethod yX5_freeTableFor, Cond.selects RX5 yX5_freeTableFor yX5_freeTableFor, Cond.code yX5_freeTableFor cX5_freeTableFor 8 (some (.object "GameCafe$Table")), Cond.fieldLink RX5 17 "GameCafe" "tables" "[LGameCafe$Table;", Cond.fieldLink RX5 90 "GameCafe$Table" "seats" "I", Cond.methodLink RX5 139 yX5_playableCopyOf, Cond.instanceMethod yX5_playableCopyOf, Cond.selects RX5 yX5_playableCopyOf yX5_playableCopyOf, Cond.code yX5_playableCopyOf cX5_playableCopyOf 6 (some (.object "GameCafe$Copy"))]
def wsL_seat_r3 : List Cond := [Cond.fieldLink RX5 29 "GameCafe" "owned" "[LGameCafe$Copy;", Cond.fieldLink RX5 114 "GameCafe$Copy" "game" "LGameCafe$Game;", Cond.methodLink RX5 196 yX0_isPlayable, Cond.instanceMethod yX0_isPlayable, Cond.selects RX0 yX0_isPlayable yX0_isPlayable, Cond.initialized RX0, Cond.code yX0_isPlayable cX0_isPlayable 2 (some .boolean), Cond.fieldLink RX0 33 "GameCafe$Copy" "has" "[I", Cond.fieldLink RX0 18 "GameCafe$Copy" "game" "LGameCafe$Game;", Cond.fieldLink RX0 36 "GameCafe$Game" "need" "[I", Cond.methodLink RX5 143 yX5_freeTeacherOf, Cond.instanceMethod yX5_freeTeacherOf, Cond.selects RX5 yX5_freeTeacherOf yX5_freeTeacherOf, Cond.code yX5_freeTeacherOf cX5_freeTeacherOf 6 (some (.object "GameCafe$Teacher")), Cond.fieldLink RX5 23 "GameCafe" "staff" "[LGameCafe$Teacher;", Cond.fieldLink RX5 93 "GameCafe$Teacher" "knows" "[Z", Cond.methodLink RX5 152 yX2_init, Cond.instanceMethod yX2_init, Cond.code yX2_init cX2_init 5 none, Cond.methodLink RX2 1 objectInit, Cond.instanceMethod objectInit, Cond.code objectInit ⟨#[0xb1]⟩ 1 none, Cond.fieldLink RX2 7 "GameCafe$Group" "people" "I", Cond.fieldLink RX2 13 "GameCafe$Group" "table" "LGameCafe$Table;"]
def wsL_seat_r4 : List Cond := [Cond.fieldLink RX2 17 "GameCafe$Group" "copy" "LGameCafe$Copy;", Cond.fieldLink RX2 21 "GameCafe$Group" "since" "I"]
def wsL_seat : List Cond := .codeWith yL_seat cL_seat 6 (some .int) [(0, 12, 15, 13), (0, 12, 19, 15), (0, 12, 23, 24)] :: ((wsL_seat_r1 ++ (wsL_seat_r2 ++ (wsL_seat_r3 ++ wsL_seat_r4))) ++ wsX50 ++ wsX10 ++ wsX40 ++ wsX20 ++ wsX30 ++ wsX00 ++ (vx_atS RX5 122 "java/lang/IllegalArgumentException" ["java/lang/RuntimeException", "java/lang/Exception"]).filter goodWord ++ (vx_atS RX5 87 "java/lang/IllegalStateException" ["java/lang/RuntimeException", "java/lang/Exception"]).filter goodWord ++ (vx_atS RX5 215 "java/lang/IndexOutOfBoundsException" ["java/lang/RuntimeException", "java/lang/Exception"]).filter goodWord)
def wsL_grow_r1 : List Cond := [Cond.classLink RL 13 "java/lang/IndexOutOfBoundsException", Cond.classLink RL 15 "java/lang/IllegalArgumentException", Cond.classLink RL 24 "java/lang/IllegalStateException", Cond.methodLink RL 45 yX5_grow, Cond.instanceMethod yX5_grow, Cond.selects RX5 yX5_grow yX5_grow, Cond.initialized RX5, Cond.code yX5_grow cX5_grow 6 (some .int), Cond.classLink RX5 83 "java/lang/IllegalStateException", Cond.initialized "java/lang/IllegalStateException", Cond.fieldLink RX5 159 "GameCafe$Group" "people" "I", Cond.fieldLink RX5 162 "GameCafe$Group" "copy" "LGameCafe$Copy;", Cond.fieldLink RX5 114 "GameCafe$Copy" "game" "LGameCafe$Game;", Cond.fieldLink RX5 67 "GameCafe$Game" "most" "I", Cond.fieldLink RX5 166 "GameCafe$Group" "table" "LGameCafe$Table;", Cond.fieldLink RX5 90 "GameCafe$Table" "seats" "I", Cond.fieldLink RX5 80 "GameCafe$Table" "group" "I", Cond.fieldLink RX5 172 "GameCafe$Table" "number" "I", Cond.methodLink RX5 155 yX5_groupNumbered, Cond.instanceMethod yX5_groupNumbered, Cond.selects RX5 yX5_groupNumbered yX5_groupNumbered, Cond.code yX5_groupNumbered cX5_groupNumbered 2 (some (.object "GameCafe$Group")), Cond.classLink RX5 211 "java/lang/IndexOutOfBoundsException", Cond.initialized "java/lang/IndexOutOfBoundsException"]
def wsL_grow_r2 : List Cond := [Cond.fieldLink RX5 35 "GameCafe" "groups" "[LGameCafe$Group;", Cond.methodLink RX5 60 yX5_checkRange, Cond.static yX5_checkRange, Cond.code yX5_checkRange cX5_checkRange 3 none, Cond.classLink RX5 118 "java/lang/IllegalArgumentException", Cond.initialized "java/lang/IllegalArgumentException", Cond.methodLink RX5 135 yX5_freeTableFor, Cond.instanceMethod yX5_freeTableFor, Cond.selects RX5 yX5_freeTableFor yX5_freeTableFor, Cond.code yX5_freeTableFor cX5_freeTableFor 8 (some (.object "GameCafe$Table")), Cond.fieldLink RX5 17 "GameCafe" "tables" "[LGameCafe$Table;"]
def wsL_grow : List Cond := .codeWith yL_grow cL_grow 5 (some .int) [(0, 10, 13, 13), (0, 10, 17, 15), (0, 10, 21, 24)] :: ((wsL_grow_r1 ++ wsL_grow_r2) ++ wsX20 ++ wsX00 ++ wsX10 ++ wsX30 ++ wsX50 ++ (vx_atS RX5 87 "java/lang/IllegalStateException" ["java/lang/RuntimeException", "java/lang/Exception"]).filter goodWord ++ (vx_atS RX5 215 "java/lang/IndexOutOfBoundsException" ["java/lang/RuntimeException", "java/lang/Exception"]).filter goodWord ++ (vx_atS RX5 122 "java/lang/IllegalArgumentException" ["java/lang/RuntimeException", "java/lang/Exception"]).filter goodWord)
def wsL_go : List Cond := .codeWith yL_go cL_go 4 (some .int) [(0, 9, 12, 13)] :: ([.classLink RL 13 "java/lang/IndexOutOfBoundsException", .methodLink RL 48 yX5_go, .instanceMethod yX5_go, .selects RX5 yX5_go yX5_go, .initialized RX5, .code yX5_go cX5_go 3 (some .int), .fieldLink RX5 166 "GameCafe$Group" "table" "LGameCafe$Table;", .fieldLink RX5 80 "GameCafe$Table" "group" "I", .fieldLink RX5 162 "GameCafe$Group" "copy" "LGameCafe$Copy;", .fieldLink RX5 109 "GameCafe$Copy" "place" "I", .fieldLink RX5 114 "GameCafe$Copy" "game" "LGameCafe$Game;", .fieldLink RX5 175 "GameCafe$Game" "timesPlayed" "I", .fieldLink RX5 35 "GameCafe" "groups" "[LGameCafe$Group;", .fieldLink RX5 49 "GameCafe" "now" "I", .fieldLink RX5 178 "GameCafe$Group" "since" "I", .methodLink RX5 155 yX5_groupNumbered, .instanceMethod yX5_groupNumbered, .selects RX5 yX5_groupNumbered yX5_groupNumbered, .code yX5_groupNumbered cX5_groupNumbered 2 (some (.object "GameCafe$Group")), .classLink RX5 211 "java/lang/IndexOutOfBoundsException", .initialized "java/lang/IndexOutOfBoundsException"] ++ wsX20 ++ wsX30 ++ wsX00 ++ wsX10 ++ wsX50 ++ (vx_atS RX5 215 "java/lang/IndexOutOfBoundsException" ["java/lang/RuntimeException", "java/lang/Exception"]).filter goodWord)
def wsL_advance : List Cond := .codeWith yL_advance cL_advance 4 (some .int) [(0, 9, 12, 15), (0, 9, 15, 24)] :: ([.classLink RL 15 "java/lang/IllegalArgumentException", .classLink RL 24 "java/lang/IllegalStateException", .methodLink RL 51 yX5_advance, .instanceMethod yX5_advance, .selects RX5 yX5_advance yX5_advance, .initialized RX5, .code yX5_advance cX5_advance 2 (some .int), .classLink RX5 83 "java/lang/IllegalStateException", .initialized "java/lang/IllegalStateException", .fieldLink RX5 49 "GameCafe" "now" "I", .constant RX5 181 (100000), .methodLink RX5 60 yX5_checkRange, .static yX5_checkRange, .code yX5_checkRange cX5_checkRange 3 none, .classLink RX5 118 "java/lang/IllegalArgumentException", .initialized "java/lang/IllegalArgumentException"] ++ wsX50 ++ (vx_atS RX5 87 "java/lang/IllegalStateException" ["java/lang/RuntimeException", "java/lang/Exception"]).filter goodWord ++ (vx_atS RX5 122 "java/lang/IllegalArgumentException" ["java/lang/RuntimeException", "java/lang/Exception"]).filter goodWord)
def wsL_lend_r1 : List Cond := [Cond.classLink RL 13 "java/lang/IndexOutOfBoundsException", Cond.classLink RL 24 "java/lang/IllegalStateException", Cond.methodLink RL 54 yX5_lend, Cond.instanceMethod yX5_lend, Cond.selects RX5 yX5_lend yX5_lend, Cond.initialized RX5, Cond.code yX5_lend cX5_lend 4 (some .int), Cond.classLink RX5 83 "java/lang/IllegalStateException", Cond.initialized "java/lang/IllegalStateException", Cond.fieldLink RX5 109 "GameCafe$Copy" "place" "I", Cond.fieldLink RX5 39 "GameCafe" "borrowed" "[LGameCafe$Copy;", Cond.methodLink RX5 102 yX5_copyNumbered, Cond.instanceMethod yX5_copyNumbered, Cond.selects RX5 yX5_copyNumbered yX5_copyNumbered, Cond.code yX5_copyNumbered cX5_copyNumbered 2 (some (.object "GameCafe$Copy")), Cond.classLink RX5 211 "java/lang/IndexOutOfBoundsException", Cond.initialized "java/lang/IndexOutOfBoundsException", Cond.fieldLink RX5 29 "GameCafe" "owned" "[LGameCafe$Copy;", Cond.methodLink RX5 57 yX5_checkNumber, Cond.static yX5_checkNumber, Cond.code yX5_checkNumber cX5_checkNumber 2 none, Cond.methodLink RX5 186 yX0_worth, Cond.instanceMethod yX0_worth, Cond.selects RX0 yX0_worth yX0_worth]
def wsL_lend_r2 : List Cond := [Cond.initialized RX0, Cond.code yX0_worth cX0_worth 3 (some .int), Cond.fieldLink RX0 33 "GameCafe$Copy" "has" "[I", Cond.static yX5_worthOfPart, Cond.code yX5_worthOfPart cX5_worthOfPart 1 (some .int)]
def wsL_lend : List Cond := .codeWith yL_lend cL_lend 5 (some .int) [(0, 10, 13, 13), (0, 10, 17, 24)] :: ((wsL_lend_r1 ++ wsL_lend_r2) ++ wsX00 ++ wsX50 ++ (vx_atS RX5 87 "java/lang/IllegalStateException" ["java/lang/RuntimeException", "java/lang/Exception"]).filter goodWord ++ (vx_atS RX5 215 "java/lang/IndexOutOfBoundsException" ["java/lang/RuntimeException", "java/lang/Exception"]).filter goodWord)
def wsL_giveBack_r1 : List Cond := [Cond.classLink RL 13 "java/lang/IndexOutOfBoundsException", Cond.classLink RL 15 "java/lang/IllegalArgumentException", Cond.classLink RL 24 "java/lang/IllegalStateException", Cond.methodLink RL 57 yX5_giveBack, Cond.instanceMethod yX5_giveBack, Cond.selects RX5 yX5_giveBack yX5_giveBack, Cond.initialized RX5, Cond.code yX5_giveBack cX5_giveBack 6 (some .int), Cond.classLink RX5 83 "java/lang/IllegalStateException", Cond.initialized "java/lang/IllegalStateException", Cond.fieldLink RX5 39 "GameCafe" "borrowed" "[LGameCafe$Copy;", Cond.fieldLink RX5 106 "GameCafe$Copy" "has" "[I", Cond.fieldLink RX5 109 "GameCafe$Copy" "place" "I", Cond.methodLink RX5 57 yX5_checkNumber, Cond.static yX5_checkNumber, Cond.code yX5_checkNumber cX5_checkNumber 2 none, Cond.classLink RX5 211 "java/lang/IndexOutOfBoundsException", Cond.initialized "java/lang/IndexOutOfBoundsException", Cond.methodLink RX5 60 yX5_checkRange, Cond.static yX5_checkRange, Cond.code yX5_checkRange cX5_checkRange 3 none, Cond.classLink RX5 118 "java/lang/IllegalArgumentException", Cond.initialized "java/lang/IllegalArgumentException", Cond.methodLink RX5 186 yX0_worth]
def wsL_giveBack_r2 : List Cond := [Cond.instanceMethod yX0_worth, Cond.selects RX0 yX0_worth yX0_worth, Cond.initialized RX0, Cond.code yX0_worth cX0_worth 3 (some .int), Cond.fieldLink RX0 33 "GameCafe$Copy" "has" "[I", Cond.static yX5_worthOfPart, Cond.code yX5_worthOfPart cX5_worthOfPart 1 (some .int), Cond.methodLink RX5 192 yX5_worthOfPart]
def wsL_giveBack : List Cond := .codeWith yL_giveBack cL_giveBack 6 (some .int) [(0, 12, 15, 13), (0, 12, 19, 15), (0, 12, 23, 24)] :: ((wsL_giveBack_r1 ++ wsL_giveBack_r2) ++ wsX50 ++ wsX00 ++ (vx_atS RX5 87 "java/lang/IllegalStateException" ["java/lang/RuntimeException", "java/lang/Exception"]).filter goodWord ++ (vx_atS RX5 215 "java/lang/IndexOutOfBoundsException" ["java/lang/RuntimeException", "java/lang/Exception"]).filter goodWord ++ (vx_atS RX5 122 "java/lang/IllegalArgumentException" ["java/lang/RuntimeException", "java/lang/Exception"]).filter goodWord)
def wsL_parts : List Cond := .codeWith yL_parts cL_parts 5 (some .int) [(0, 10, 13, 13)] :: ([.classLink RL 13 "java/lang/IndexOutOfBoundsException", .methodLink RL 60 yX5_parts, .instanceMethod yX5_parts, .selects RX5 yX5_parts yX5_parts, .initialized RX5, .code yX5_parts cX5_parts 4 (some .int), .fieldLink RX5 106 "GameCafe$Copy" "has" "[I", .methodLink RX5 102 yX5_copyNumbered, .instanceMethod yX5_copyNumbered, .selects RX5 yX5_copyNumbered yX5_copyNumbered, .code yX5_copyNumbered cX5_copyNumbered 2 (some (.object "GameCafe$Copy")), .classLink RX5 211 "java/lang/IndexOutOfBoundsException", .initialized "java/lang/IndexOutOfBoundsException", .fieldLink RX5 29 "GameCafe" "owned" "[LGameCafe$Copy;", .methodLink RX5 57 yX5_checkNumber, .static yX5_checkNumber, .code yX5_checkNumber cX5_checkNumber 2 none] ++ wsX00 ++ wsX50 ++ (vx_atS RX5 215 "java/lang/IndexOutOfBoundsException" ["java/lang/RuntimeException", "java/lang/Exception"]).filter goodWord)
def wsL_canBePlayed : List Cond := .codeWith yL_canBePlayed cL_canBePlayed 4 (some .int) [(0, 16, 19, 13)] :: ([.classLink RL 13 "java/lang/IndexOutOfBoundsException", .methodLink RL 63 yX5_canBePlayed, .instanceMethod yX5_canBePlayed, .selects RX5 yX5_canBePlayed yX5_canBePlayed, .initialized RX5, .code yX5_canBePlayed cX5_canBePlayed 2 (some .boolean), .methodLink RX5 102 yX5_copyNumbered, .instanceMethod yX5_copyNumbered, .selects RX5 yX5_copyNumbered yX5_copyNumbered, .code yX5_copyNumbered cX5_copyNumbered 2 (some (.object "GameCafe$Copy")), .classLink RX5 211 "java/lang/IndexOutOfBoundsException", .initialized "java/lang/IndexOutOfBoundsException", .fieldLink RX5 29 "GameCafe" "owned" "[LGameCafe$Copy;", .methodLink RX5 196 yX0_isPlayable, .instanceMethod yX0_isPlayable, .selects RX0 yX0_isPlayable yX0_isPlayable, .initialized RX0, .code yX0_isPlayable cX0_isPlayable 2 (some .boolean), .fieldLink RX0 33 "GameCafe$Copy" "has" "[I", .fieldLink RX0 18 "GameCafe$Copy" "game" "LGameCafe$Game;", .fieldLink RX0 36 "GameCafe$Game" "need" "[I"] ++ wsX50 ++ wsX00 ++ wsX10 ++ (vx_atS RX5 215 "java/lang/IndexOutOfBoundsException" ["java/lang/RuntimeException", "java/lang/Exception"]).filter goodWord)
def wsL_whereIs : List Cond := .codeWith yL_whereIs cL_whereIs 4 (some .int) [(0, 9, 12, 13)] :: ([.classLink RL 13 "java/lang/IndexOutOfBoundsException", .methodLink RL 67 yX5_whereIs, .instanceMethod yX5_whereIs, .selects RX5 yX5_whereIs yX5_whereIs, .initialized RX5, .code yX5_whereIs cX5_whereIs 2 (some .int), .fieldLink RX5 109 "GameCafe$Copy" "place" "I", .methodLink RX5 102 yX5_copyNumbered, .instanceMethod yX5_copyNumbered, .selects RX5 yX5_copyNumbered yX5_copyNumbered, .code yX5_copyNumbered cX5_copyNumbered 2 (some (.object "GameCafe$Copy")), .classLink RX5 211 "java/lang/IndexOutOfBoundsException", .initialized "java/lang/IndexOutOfBoundsException", .fieldLink RX5 29 "GameCafe" "owned" "[LGameCafe$Copy;"] ++ wsX00 ++ wsX50 ++ (vx_atS RX5 215 "java/lang/IndexOutOfBoundsException" ["java/lang/RuntimeException", "java/lang/Exception"]).filter goodWord)
def wsL_at : List Cond := .codeWith yL_at cL_at 4 (some .int) [(0, 9, 12, 13)] :: ([.classLink RL 13 "java/lang/IndexOutOfBoundsException", .methodLink RL 70 yX5_at, .instanceMethod yX5_at, .selects RX5 yX5_at yX5_at, .initialized RX5, .code yX5_at cX5_at 2 (some .int), .fieldLink RX5 17 "GameCafe" "tables" "[LGameCafe$Table;", .fieldLink RX5 80 "GameCafe$Table" "group" "I", .methodLink RX5 57 yX5_checkNumber, .static yX5_checkNumber, .code yX5_checkNumber cX5_checkNumber 2 none, .classLink RX5 211 "java/lang/IndexOutOfBoundsException", .initialized "java/lang/IndexOutOfBoundsException"] ++ wsX50 ++ wsX30 ++ (vx_atS RX5 215 "java/lang/IndexOutOfBoundsException" ["java/lang/RuntimeException", "java/lang/Exception"]).filter goodWord)
def wsL_copyOf : List Cond := .codeWith yL_copyOf cL_copyOf 4 (some .int) [(0, 9, 12, 13)] :: ([.classLink RL 13 "java/lang/IndexOutOfBoundsException", .methodLink RL 73 yX5_copyOf, .instanceMethod yX5_copyOf, .selects RX5 yX5_copyOf yX5_copyOf, .initialized RX5, .code yX5_copyOf cX5_copyOf 2 (some .int), .fieldLink RX5 162 "GameCafe$Group" "copy" "LGameCafe$Copy;", .fieldLink RX5 200 "GameCafe$Copy" "number" "I", .methodLink RX5 155 yX5_groupNumbered, .instanceMethod yX5_groupNumbered, .selects RX5 yX5_groupNumbered yX5_groupNumbered, .code yX5_groupNumbered cX5_groupNumbered 2 (some (.object "GameCafe$Group")), .classLink RX5 211 "java/lang/IndexOutOfBoundsException", .initialized "java/lang/IndexOutOfBoundsException", .fieldLink RX5 35 "GameCafe" "groups" "[LGameCafe$Group;"] ++ wsX20 ++ wsX00 ++ wsX50 ++ (vx_atS RX5 215 "java/lang/IndexOutOfBoundsException" ["java/lang/RuntimeException", "java/lang/Exception"]).filter goodWord)
def wsL_teaching : List Cond := .codeWith yL_teaching cL_teaching 4 (some .int) [(0, 9, 12, 13)] :: ([.classLink RL 13 "java/lang/IndexOutOfBoundsException", .methodLink RL 76 yX5_teaching, .instanceMethod yX5_teaching, .selects RX5 yX5_teaching yX5_teaching, .initialized RX5, .code yX5_teaching cX5_teaching 2 (some .int), .fieldLink RX5 23 "GameCafe" "staff" "[LGameCafe$Teacher;", .fieldLink RX5 149 "GameCafe$Teacher" "busyUntil" "I", .fieldLink RX5 49 "GameCafe" "now" "I", .methodLink RX5 201 Lib.Math.max.name, .static Lib.Math.max.name, .initialized "java/lang/Math", .code Lib.Math.max.name Lib.Math.max.code 2 (some .int), .methodLink RX5 57 yX5_checkNumber, .static yX5_checkNumber, .code yX5_checkNumber cX5_checkNumber 2 none, .classLink RX5 211 "java/lang/IndexOutOfBoundsException", .initialized "java/lang/IndexOutOfBoundsException"] ++ wsX50 ++ wsX40 ++ (vx_atS RX5 215 "java/lang/IndexOutOfBoundsException" ["java/lang/RuntimeException", "java/lang/Exception"]).filter goodWord)
def wsL_plays : List Cond := .codeWith yL_plays cL_plays 4 (some .int) [(0, 9, 12, 13)] :: ([.classLink RL 13 "java/lang/IndexOutOfBoundsException", .methodLink RL 79 yX5_plays, .instanceMethod yX5_plays, .selects RX5 yX5_plays yX5_plays, .initialized RX5, .code yX5_plays cX5_plays 2 (some .int), .fieldLink RX5 11 "GameCafe" "games" "[LGameCafe$Game;", .fieldLink RX5 175 "GameCafe$Game" "timesPlayed" "I", .methodLink RX5 57 yX5_checkNumber, .static yX5_checkNumber, .code yX5_checkNumber cX5_checkNumber 2 none, .classLink RX5 211 "java/lang/IndexOutOfBoundsException", .initialized "java/lang/IndexOutOfBoundsException"] ++ wsX50 ++ wsX10 ++ (vx_atS RX5 215 "java/lang/IndexOutOfBoundsException" ["java/lang/RuntimeException", "java/lang/Exception"]).filter goodWord)
def wsL_propose_r1 : List Cond := [Cond.classLink RL 15 "java/lang/IllegalArgumentException", Cond.methodLink RL 82 yX5_propose, Cond.instanceMethod yX5_propose, Cond.selects RX5 yX5_propose yX5_propose, Cond.initialized RX5, Cond.code yX5_propose cX5_propose 5 (some .int), Cond.fieldLink RX5 11 "GameCafe" "games" "[LGameCafe$Game;", Cond.fieldLink RX5 175 "GameCafe$Game" "timesPlayed" "I", Cond.methodLink RX5 60 yX5_checkRange, Cond.static yX5_checkRange, Cond.code yX5_checkRange cX5_checkRange 3 none, Cond.classLink RX5 118 "java/lang/IllegalArgumentException", Cond.initialized "java/lang/IllegalArgumentException", Cond.methodLink RX5 207 yX5_canSeatKnowing, Cond.instanceMethod yX5_canSeatKnowing, Cond.selects RX5 yX5_canSeatKnowing yX5_canSeatKnowing, Cond.code yX5_canSeatKnowing cX5_canSeatKnowing 3 (some .boolean), Cond.fieldLink RX5 46 "GameCafe" "seated" "I", Cond.methodLink RX5 129 yX1_isFor, Cond.instanceMethod yX1_isFor, Cond.selects RX1 yX1_isFor yX1_isFor, Cond.initialized RX1, Cond.code yX1_isFor cX1_isFor 2 (some .boolean), Cond.fieldLink RX1 7 "GameCafe$Game" "least" "I"]
def wsL_propose_r2 : List Cond := [Cond.fieldLink RX1 13 "GameCafe$Game" "most" "I", Cond.methodLink RX5 135 yX5_freeTableFor, Cond.instanceMethod yX5_freeTableFor, Cond.selects RX5 yX5_freeTableFor yX5_freeTableFor, Cond.code yX5_freeTableFor cX5_freeTableFor 8 (some (.object "GameCafe$Table")), Cond.fieldLink RX5 17 "GameCafe" "tables" "[LGameCafe$Table;", Cond.fieldLink RX5 80 "GameCafe$Table" "group" "I", Cond.fieldLink RX5 90 "GameCafe$Table" "seats" "I", Cond.methodLink RX5 139 yX5_playableCopyOf, Cond.instanceMethod yX5_playableCopyOf, Cond.selects RX5 yX5_playableCopyOf yX5_playableCopyOf, Cond.code yX5_playableCopyOf cX5_playableCopyOf 6 (some (.object "GameCafe$Copy")), Cond.fieldLink RX5 29 "GameCafe" "owned" "[LGameCafe$Copy;", Cond.fieldLink RX5 114 "GameCafe$Copy" "game" "LGameCafe$Game;", Cond.fieldLink RX5 109 "GameCafe$Copy" "place" "I", Cond.methodLink RX5 196 yX0_isPlayable, Cond.instanceMethod yX0_isPlayable, Cond.selects RX0 yX0_isPlayable yX0_isPlayable, Cond.initialized RX0, Cond.code yX0_isPlayable cX0_isPlayable 2 (some .boolean), Cond.fieldLink RX0 33 "GameCafe$Copy" "has" "[I", Cond.fieldLink RX0 18 "GameCafe$Copy" "game" "LGameCafe$Game;", Cond.fieldLink RX0 36 "GameCafe$Game" "need" "[I"]
def wsL_propose : List Cond := .codeWith yL_propose cL_propose 4 (some .int) [(0, 9, 12, 15)] :: ((wsL_propose_r1 ++ wsL_propose_r2) ++ wsX50 ++ wsX10 ++ wsX30 ++ wsX00 ++ (vx_atS RX5 122 "java/lang/IllegalArgumentException" ["java/lang/RuntimeException", "java/lang/Exception"]).filter goodWord)
def wsL_law0_r1 : List Cond := [Cond.classLink RL 8 RX5, Cond.instantiable RX5 9, Cond.initialized RX5, Cond.classLink RL 86 RX6, Cond.instantiable RX6 24, Cond.initialized RX6, Cond.arrayClass .long, Cond.methodLink RL 85 yX5_init, Cond.instanceMethod yX5_init, Cond.code yX5_init cX5_init 2 none, Cond.methodLink RX5 1 objectInit, Cond.instanceMethod objectInit, Cond.code objectInit ⟨#[0xb1]⟩ 1 none, Cond.classLink RX5 9 RX1, Cond.fieldLink RX5 11 "GameCafe" "games" "[LGameCafe$Game;", Cond.classLink RX5 15 RX3, Cond.fieldLink RX5 17 "GameCafe" "tables" "[LGameCafe$Table;", Cond.classLink RX5 21 RX4, Cond.fieldLink RX5 23 "GameCafe" "staff" "[LGameCafe$Teacher;", Cond.classLink RX5 27 RX0, Cond.fieldLink RX5 29 "GameCafe" "owned" "[LGameCafe$Copy;", Cond.classLink RX5 33 RX2, Cond.fieldLink RX5 35 "GameCafe" "groups" "[LGameCafe$Group;", Cond.fieldLink RX5 39 "GameCafe" "borrowed" "[LGameCafe$Copy;"]
def wsL_law0_r2 : List Cond := [Cond.fieldLink RX5 42 "GameCafe" "bought" "I", Cond.fieldLink RX5 46 "GameCafe" "seated" "I", Cond.fieldLink RX5 49 "GameCafe" "now" "I", Cond.instantiable RX1 6, Cond.initialized RX1, Cond.instantiable RX3 3, Cond.initialized RX3, Cond.instantiable RX4 2, Cond.initialized RX4, Cond.instanceMethod yX1_init, Cond.code yX1_init cX1_init 1 none, Cond.methodLink RX1 1 objectInit, Cond.fieldLink RX1 7 "GameCafe$Game" "least" "I", Cond.fieldLink RX1 13 "GameCafe$Game" "most" "I", Cond.fieldLink RX1 16 "GameCafe$Game" "lesson" "I", Cond.fieldLink RX1 19 "GameCafe$Game" "timesPlayed" "I", Cond.arrayClass .int, Cond.fieldLink RX1 22 "GameCafe$Game" "whole" "[I", Cond.fieldLink RX1 26 "GameCafe$Game" "need" "[I", Cond.methodLink RX5 53 yX3_init, Cond.instanceMethod yX3_init, Cond.code yX3_init cX3_init 3 none, Cond.methodLink RX3 3 objectInit, Cond.fieldLink RX3 9 "GameCafe$Table" "group" "I"]
def wsL_law0_r3 : List Cond := [Cond.fieldLink RX3 15 "GameCafe$Table" "number" "I", Cond.fieldLink RX3 18 "GameCafe$Table" "seats" "I", Cond.instanceMethod yX4_init, Cond.code yX4_init cX4_init 1 none, Cond.methodLink RX4 1 objectInit, Cond.arrayClass .boolean, Cond.fieldLink RX4 7 "GameCafe$Teacher" "knows" "[Z", Cond.fieldLink RX4 13 "GameCafe$Teacher" "busyUntil" "I", Cond.methodLink RL 88 yX6_init, Cond.instanceMethod yX6_init, Cond.code yX6_init cX6_init 2 none, Cond.methodLink RX6 1 objectInit, Cond.fieldLink RX6 7 "GameCafeModel" "leasts" "[I", Cond.fieldLink RX6 13 "GameCafeModel" "mosts" "[I", Cond.fieldLink RX6 16 "GameCafeModel" "minutes" "[I", Cond.fieldLink RX6 19 "GameCafeModel" "wholes" "[I", Cond.fieldLink RX6 22 "GameCafeModel" "needs" "[I", Cond.fieldLink RX6 25 "GameCafeModel" "played" "[I", Cond.fieldLink RX6 28 "GameCafeModel" "seats" "[I", Cond.fieldLink RX6 31 "GameCafeModel" "taken" "[I", Cond.fieldLink RX6 34 "GameCafeModel" "ignorant" "[I", Cond.fieldLink RX6 37 "GameCafeModel" "until" "[I", Cond.fieldLink RX6 40 "GameCafeModel" "games" "[I", Cond.fieldLink RX6 43 "GameCafeModel" "places" "[I"]
def wsL_law0_r4 : List Cond := [Cond.fieldLink RX6 46 "GameCafeModel" "parts" "[I", Cond.fieldLink RX6 49 "GameCafeModel" "people" "[I", Cond.fieldLink RX6 52 "GameCafeModel" "tables" "[I", Cond.fieldLink RX6 55 "GameCafeModel" "ofGroup" "[I", Cond.fieldLink RX6 58 "GameCafeModel" "since" "[I", Cond.fieldLink RX6 61 "GameCafeModel" "gone" "[I", Cond.fieldLink RX6 64 "GameCafeModel" "lent" "[I", Cond.fieldLink RX6 67 "GameCafeModel" "deposits" "[I", Cond.methodLink RL 89 yL_setGame, Cond.static yL_setGame, Cond.initialized RL, Cond.codeWith yL_setGame cL_setGame 6 (some .int) [(0, 9, 12, 13), (0, 9, 16, 15)], Cond.classLink RL 13 "java/lang/IndexOutOfBoundsException", Cond.classLink RL 15 "java/lang/IllegalArgumentException", Cond.methodLink RL 7 yX5_setGame, Cond.instanceMethod yX5_setGame, Cond.selects RX5 yX5_setGame yX5_setGame, Cond.code yX5_setGame cX5_setGame 6 none, Cond.fieldLink RX5 64 "GameCafe$Game" "least" "I", Cond.fieldLink RX5 67 "GameCafe$Game" "most" "I", Cond.fieldLink RX5 70 "GameCafe$Game" "lesson" "I", Cond.methodLink RX5 57 yX5_checkNumber, Cond.static yX5_checkNumber, Cond.code yX5_checkNumber cX5_checkNumber 2 none]
def wsL_law0_r5 : List Cond := [Cond.classLink RX5 211 "java/lang/IndexOutOfBoundsException", Cond.initialized "java/lang/IndexOutOfBoundsException", Cond.methodLink RX5 60 yX5_checkRange, Cond.static yX5_checkRange, Cond.code yX5_checkRange cX5_checkRange 3 none, Cond.classLink RX5 118 "java/lang/IllegalArgumentException", Cond.initialized "java/lang/IllegalArgumentException", Cond.methodLink RL 94 yX6_setGame, Cond.instanceMethod yX6_setGame, Cond.selects RX6 yX6_setGame yX6_setGame, Cond.code yX6_setGame cX6_setGame 5 none, Cond.fieldLink RX6 70 "GameCafeModel" "thrown" "I", Cond.methodLink RX6 84 yX6_isGame, Cond.static yX6_isGame, Cond.code yX6_isGame cX6_isGame 1 (some .boolean), Cond.methodLink RX6 74 yX6_in, Cond.static yX6_in, Cond.code yX6_in cX6_in 3 (some .boolean), Cond.methodLink RL 95 yX6_thrown, Cond.instanceMethod yX6_thrown, Cond.selects RX6 yX6_thrown yX6_thrown, Cond.code yX6_thrown cX6_thrown 1 (some .int), Cond.methodLink RL 99 yL_setParts, Cond.static yL_setParts]
def wsL_law0_r6 : List Cond := [Cond.codeWith yL_setParts cL_setParts 6 (some .int) [(0, 9, 12, 13), (0, 9, 16, 15)], Cond.methodLink RL 17 yX5_setParts, Cond.instanceMethod yX5_setParts, Cond.selects RX5 yX5_setParts yX5_setParts, Cond.code yX5_setParts cX5_setParts 6 none, Cond.fieldLink RX5 73 "GameCafe$Game" "whole" "[I", Cond.fieldLink RX5 77 "GameCafe$Game" "need" "[I", Cond.methodLink RL 101 yX6_setParts, Cond.instanceMethod yX6_setParts, Cond.selects RX6 yX6_setParts yX6_setParts, Cond.code yX6_setParts cX6_setParts 5 none, Cond.methodLink RL 102 yL_setSeats, Cond.static yL_setSeats, Cond.codeWith yL_setSeats cL_setSeats 5 (some .int) [(0, 10, 13, 13), (0, 10, 17, 15), (0, 10, 21, 24)], Cond.classLink RL 24 "java/lang/IllegalStateException", Cond.methodLink RL 20 yX5_setSeats, Cond.instanceMethod yX5_setSeats, Cond.selects RX5 yX5_setSeats yX5_setSeats, Cond.code yX5_setSeats cX5_setSeats 5 (some .int), Cond.classLink RX5 83 "java/lang/IllegalStateException", Cond.initialized "java/lang/IllegalStateException", Cond.fieldLink RX5 80 "GameCafe$Table" "group" "I", Cond.fieldLink RX5 90 "GameCafe$Table" "seats" "I", Cond.methodLink RL 105 yX6_setSeats]
def wsL_law0_r7 : List Cond := [Cond.instanceMethod yX6_setSeats, Cond.selects RX6 yX6_setSeats yX6_setSeats, Cond.code yX6_setSeats cX6_setSeats 4 (some .int), Cond.methodLink RL 106 yL_teach, Cond.static yL_teach, Cond.codeWith yL_teach cL_teach 6 (some .int) [(0, 19, 22, 13)], Cond.methodLink RL 26 yX5_teach, Cond.instanceMethod yX5_teach, Cond.selects RX5 yX5_teach yX5_teach, Cond.code yX5_teach cX5_teach 6 (some .boolean), Cond.fieldLink RX5 93 "GameCafe$Teacher" "knows" "[Z", Cond.methodLink RL 109 yX6_teach, Cond.instanceMethod yX6_teach, Cond.selects RX6 yX6_teach yX6_teach, Cond.code yX6_teach cX6_teach 5 (some .boolean), Cond.methodLink RL 110 yL_buy, Cond.static yL_buy, Cond.codeWith yL_buy cL_buy 4 (some .int) [(0, 9, 12, 13), (0, 9, 15, 24)], Cond.methodLink RL 30 yX5_buy, Cond.instanceMethod yX5_buy, Cond.selects RX5 yX5_buy yX5_buy, Cond.code yX5_buy cX5_buy 3 (some .int), Cond.instantiable RX0 4, Cond.initialized RX0]
def wsL_law0_r8 : List Cond := [Cond.methodLink RX5 99 yX0_init, Cond.instanceMethod yX0_init, Cond.code yX0_init cX0_init 3 none, Cond.methodLink RX0 3 objectInit, Cond.fieldLink RX0 9 "GameCafe$Copy" "place" "I", Cond.fieldLink RX0 15 "GameCafe$Copy" "number" "I", Cond.fieldLink RX0 18 "GameCafe$Copy" "game" "LGameCafe$Game;", Cond.fieldLink RX0 22 "GameCafe$Game" "whole" "[I", Cond.methodLink RX0 28 ⟨"[I", "clone", "()Ljava/lang/Object;"⟩, Cond.sameMethod "[I" "java/lang/Object" "clone" "()Ljava/lang/Object;", Cond.native ⟨"java/lang/Object", "clone", "()Ljava/lang/Object;"⟩, Cond.instanceMethod ⟨"java/lang/Object", "clone", "()Ljava/lang/Object;"⟩, Cond.selects "[I" ⟨"[I", "clone", "()Ljava/lang/Object;"⟩ ⟨"java/lang/Object", "clone", "()Ljava/lang/Object;"⟩, Cond.classLink RX0 29 "[I", Cond.fieldLink RX0 33 "GameCafe$Copy" "has" "[I", Cond.methodLink RL 113 yX6_buy, Cond.instanceMethod yX6_buy, Cond.selects RX6 yX6_buy yX6_buy, Cond.code yX6_buy cX6_buy 3 (some .int), Cond.fieldLink RX6 78 "GameCafeModel" "copies" "I", Cond.methodLink RL 114 yL_count, Cond.static yL_count, Cond.codeWith yL_count cL_count 6 (some .int) [(0, 12, 15, 13), (0, 12, 19, 15), (0, 12, 23, 24)], Cond.methodLink RL 34 yX5_count]
def wsL_law0_r9 : List Cond := [Cond.instanceMethod yX5_count, Cond.selects RX5 yX5_count yX5_count, Cond.code yX5_count cX5_count 6 (some .int), Cond.fieldLink RX5 106 "GameCafe$Copy" "has" "[I", Cond.fieldLink RX5 109 "GameCafe$Copy" "place" "I", Cond.methodLink RX5 102 yX5_copyNumbered, Cond.instanceMethod yX5_copyNumbered, Cond.selects RX5 yX5_copyNumbered yX5_copyNumbered, Cond.code yX5_copyNumbered cX5_copyNumbered 2 (some (.object "GameCafe$Copy")), Cond.methodLink RL 117 yX6_count, Cond.instanceMethod yX6_count, Cond.selects RX6 yX6_count yX6_count, Cond.code yX6_count cX6_count 5 (some .int), Cond.methodLink RX6 88 yX6_isCopy, Cond.instanceMethod yX6_isCopy, Cond.selects RX6 yX6_isCopy yX6_isCopy, Cond.code yX6_isCopy cX6_isCopy 2 (some .boolean), Cond.methodLink RX6 91 yX6_fails, Cond.instanceMethod yX6_fails, Cond.selects RX6 yX6_fails yX6_fails, Cond.code yX6_fails cX6_fails 2 (some .int), Cond.methodLink RL 118 yL_fill, Cond.static yL_fill, Cond.codeWith yL_fill cL_fill 5 (some .int) [(0, 10, 13, 13), (0, 10, 17, 15), (0, 10, 21, 24)]]
def wsL_law0_r10 : List Cond := [Cond.methodLink RL 38 yX5_fill, Cond.instanceMethod yX5_fill, Cond.selects RX5 yX5_fill yX5_fill, Cond.code yX5_fill cX5_fill 5 (some .int), Cond.fieldLink RX5 114 "GameCafe$Copy" "game" "LGameCafe$Game;", Cond.methodLink RX5 125 yX0_fillFrom, Cond.instanceMethod yX0_fillFrom, Cond.selects RX0 yX0_fillFrom yX0_fillFrom, Cond.code yX0_fillFrom cX0_fillFrom 6 (some .int), Cond.methodLink RX0 43 Lib.Math.max.name, Cond.static Lib.Math.max.name, Cond.initialized "java/lang/Math", Cond.code Lib.Math.max.name Lib.Math.max.code 2 (some .int), Cond.methodLink RX0 49 Lib.Math.min.name, Cond.static Lib.Math.min.name, Cond.code Lib.Math.min.name Lib.Math.min.code 2 (some .int), Cond.methodLink RL 120 yX6_fill, Cond.instanceMethod yX6_fill, Cond.selects RX6 yX6_fill yX6_fill, Cond.code yX6_fill cX6_fill 7 (some .int), Cond.methodLink RL 121 yL_seat, Cond.static yL_seat, Cond.codeWith yL_seat cL_seat 6 (some .int) [(0, 12, 15, 13), (0, 12, 19, 15), (0, 12, 23, 24)], Cond.methodLink RL 41 yX5_seat]
def wsL_law0_r11 : List Cond := [Cond.instanceMethod yX5_seat, Cond.selects RX5 yX5_seat yX5_seat, Cond.code yX5_seat cX5_seat 9 (some .int), Cond.fieldLink RX5 149 "GameCafe$Teacher" "busyUntil" "I", Cond.instantiable RX2 4, Cond.initialized RX2, Cond.methodLink RX5 129 yX1_isFor, Cond.instanceMethod yX1_isFor, Cond.selects RX1 yX1_isFor yX1_isFor, Cond.code yX1_isFor cX1_isFor 2 (some .boolean), Cond.methodLink RX5 135 yX5_freeTableFor, Cond.instanceMethod yX5_freeTableFor, Cond.selects RX5 yX5_freeTableFor yX5_freeTableFor, Cond.code yX5_freeTableFor cX5_freeTableFor 8 (some (.object "GameCafe$Table")), Cond.methodLink RX5 139 yX5_playableCopyOf, Cond.instanceMethod yX5_playableCopyOf, Cond.selects RX5 yX5_playableCopyOf yX5_playableCopyOf, Cond.code yX5_playableCopyOf cX5_playableCopyOf 6 (some (.object "GameCafe$Copy")), Cond.methodLink RX5 196 yX0_isPlayable, Cond.instanceMethod yX0_isPlayable, Cond.selects RX0 yX0_isPlayable yX0_isPlayable, Cond.code yX0_isPlayable cX0_isPlayable 2 (some .boolean), Cond.fieldLink RX0 36 "GameCafe$Game" "need" "[I", Cond.methodLink RX5 143 yX5_freeTeacherOf]
def wsL_law0_r12 : List Cond := [Cond.instanceMethod yX5_freeTeacherOf, Cond.selects RX5 yX5_freeTeacherOf yX5_freeTeacherOf, Cond.code yX5_freeTeacherOf cX5_freeTeacherOf 6 (some (.object "GameCafe$Teacher")), Cond.methodLink RX5 152 yX2_init, Cond.instanceMethod yX2_init, Cond.code yX2_init cX2_init 5 none, Cond.methodLink RX2 1 objectInit, Cond.fieldLink RX2 7 "GameCafe$Group" "people" "I", Cond.fieldLink RX2 13 "GameCafe$Group" "table" "LGameCafe$Table;", Cond.fieldLink RX2 17 "GameCafe$Group" "copy" "LGameCafe$Copy;", Cond.fieldLink RX2 21 "GameCafe$Group" "since" "I", Cond.methodLink RL 123 yX6_seat, Cond.instanceMethod yX6_seat, Cond.selects RX6 yX6_seat yX6_seat, Cond.code yX6_seat cX6_seat 7 (some .int), Cond.fieldLink RX6 81 "GameCafeModel" "groups" "I", Cond.fieldLink RX6 98 "GameCafeModel" "minute" "I", Cond.methodLink RX6 101 yX6_tableFor, Cond.instanceMethod yX6_tableFor, Cond.selects RX6 yX6_tableFor yX6_tableFor, Cond.code yX6_tableFor cX6_tableFor 5 (some .int), Cond.methodLink RX6 104 yX6_copyFor, Cond.instanceMethod yX6_copyFor, Cond.selects RX6 yX6_copyFor yX6_copyFor]
def wsL_law0_r13 : List Cond := [Cond.code yX6_copyFor cX6_copyFor 3 (some .int), Cond.methodLink RX6 95 yX6_playable, Cond.instanceMethod yX6_playable, Cond.selects RX6 yX6_playable yX6_playable, Cond.code yX6_playable cX6_playable 4 (some .boolean), Cond.methodLink RX6 107 yX6_teacherFor, Cond.instanceMethod yX6_teacherFor, Cond.selects RX6 yX6_teacherFor yX6_teacherFor, Cond.code yX6_teacherFor cX6_teacherFor 3 (some .int), Cond.methodLink RL 124 yL_grow, Cond.static yL_grow, Cond.codeWith yL_grow cL_grow 5 (some .int) [(0, 10, 13, 13), (0, 10, 17, 15), (0, 10, 21, 24)], Cond.methodLink RL 45 yX5_grow, Cond.instanceMethod yX5_grow, Cond.selects RX5 yX5_grow yX5_grow, Cond.code yX5_grow cX5_grow 6 (some .int), Cond.fieldLink RX5 159 "GameCafe$Group" "people" "I", Cond.fieldLink RX5 162 "GameCafe$Group" "copy" "LGameCafe$Copy;", Cond.fieldLink RX5 166 "GameCafe$Group" "table" "LGameCafe$Table;", Cond.fieldLink RX5 172 "GameCafe$Table" "number" "I", Cond.methodLink RX5 155 yX5_groupNumbered, Cond.instanceMethod yX5_groupNumbered, Cond.selects RX5 yX5_groupNumbered yX5_groupNumbered, Cond.code yX5_groupNumbered cX5_groupNumbered 2 (some (.object "GameCafe$Group"))]
def wsL_law0_r14 : List Cond := [Cond.methodLink RL 126 yX6_grow, Cond.instanceMethod yX6_grow, Cond.selects RX6 yX6_grow yX6_grow, Cond.code yX6_grow cX6_grow 5 (some .int), Cond.methodLink RX6 110 yX6_isThere, Cond.instanceMethod yX6_isThere, Cond.selects RX6 yX6_isThere yX6_isThere, Cond.code yX6_isThere cX6_isThere 2 (some .boolean), Cond.methodLink RL 127 yL_go, Cond.static yL_go, Cond.codeWith yL_go cL_go 4 (some .int) [(0, 9, 12, 13)], Cond.methodLink RL 48 yX5_go, Cond.instanceMethod yX5_go, Cond.selects RX5 yX5_go yX5_go, Cond.code yX5_go cX5_go 3 (some .int), Cond.fieldLink RX5 175 "GameCafe$Game" "timesPlayed" "I", Cond.fieldLink RX5 178 "GameCafe$Group" "since" "I", Cond.methodLink RL 129 yX6_go, Cond.instanceMethod yX6_go, Cond.selects RX6 yX6_go yX6_go, Cond.code yX6_go cX6_go 2 (some .int), Cond.methodLink RL 130 yL_advance, Cond.static yL_advance, Cond.codeWith yL_advance cL_advance 4 (some .int) [(0, 9, 12, 15), (0, 9, 15, 24)]]
def wsL_law0_r15 : List Cond := [Cond.methodLink RL 51 yX5_advance, Cond.instanceMethod yX5_advance, Cond.selects RX5 yX5_advance yX5_advance, Cond.code yX5_advance cX5_advance 2 (some .int), Cond.constant RX5 181 (100000), Cond.methodLink RL 132 yX6_advance, Cond.instanceMethod yX6_advance, Cond.selects RX6 yX6_advance yX6_advance, Cond.code yX6_advance cX6_advance 2 (some .int), Cond.constant RX6 113 (100000), Cond.methodLink RL 133 yL_lend, Cond.static yL_lend, Cond.codeWith yL_lend cL_lend 5 (some .int) [(0, 10, 13, 13), (0, 10, 17, 24)], Cond.methodLink RL 54 yX5_lend, Cond.instanceMethod yX5_lend, Cond.selects RX5 yX5_lend yX5_lend, Cond.code yX5_lend cX5_lend 4 (some .int), Cond.methodLink RX5 186 yX0_worth, Cond.instanceMethod yX0_worth, Cond.selects RX0 yX0_worth yX0_worth, Cond.code yX0_worth cX0_worth 3 (some .int), Cond.static yX5_worthOfPart, Cond.code yX5_worthOfPart cX5_worthOfPart 1 (some .int), Cond.methodLink RL 135 yX6_lend]
def wsL_law0_r16 : List Cond := [Cond.instanceMethod yX6_lend, Cond.selects RX6 yX6_lend yX6_lend, Cond.code yX6_lend cX6_lend 5 (some .int), Cond.methodLink RL 136 yL_giveBack, Cond.static yL_giveBack, Cond.codeWith yL_giveBack cL_giveBack 6 (some .int) [(0, 12, 15, 13), (0, 12, 19, 15), (0, 12, 23, 24)], Cond.methodLink RL 57 yX5_giveBack, Cond.instanceMethod yX5_giveBack, Cond.selects RX5 yX5_giveBack yX5_giveBack, Cond.code yX5_giveBack cX5_giveBack 6 (some .int), Cond.methodLink RX5 192 yX5_worthOfPart, Cond.methodLink RL 138 yX6_giveBack, Cond.instanceMethod yX6_giveBack, Cond.selects RX6 yX6_giveBack yX6_giveBack, Cond.code yX6_giveBack cX6_giveBack 5 (some .int), Cond.methodLink RL 139 yX5_minute, Cond.instanceMethod yX5_minute, Cond.selects RX5 yX5_minute yX5_minute, Cond.code yX5_minute cX5_minute 1 (some .int), Cond.methodLink RL 142 yX6_minute, Cond.instanceMethod yX6_minute, Cond.selects RX6 yX6_minute yX6_minute, Cond.code yX6_minute cX6_minute 1 (some .int), Cond.methodLink RL 143 yX5_copies]
def wsL_law0_r17 : List Cond := [Cond.instanceMethod yX5_copies, Cond.selects RX5 yX5_copies yX5_copies, Cond.code yX5_copies cX5_copies 1 (some .int), Cond.methodLink RL 146 yX6_copies, Cond.instanceMethod yX6_copies, Cond.selects RX6 yX6_copies yX6_copies, Cond.code yX6_copies cX6_copies 1 (some .int), Cond.methodLink RL 147 yL_parts, Cond.static yL_parts, Cond.codeWith yL_parts cL_parts 5 (some .int) [(0, 10, 13, 13)], Cond.methodLink RL 60 yX5_parts, Cond.instanceMethod yX5_parts, Cond.selects RX5 yX5_parts yX5_parts, Cond.code yX5_parts cX5_parts 4 (some .int), Cond.methodLink RL 149 yX6_parts, Cond.instanceMethod yX6_parts, Cond.selects RX6 yX6_parts yX6_parts, Cond.code yX6_parts cX6_parts 3 (some .int), Cond.methodLink RL 150 yL_canBePlayed, Cond.static yL_canBePlayed, Cond.codeWith yL_canBePlayed cL_canBePlayed 4 (some .int) [(0, 16, 19, 13)], Cond.methodLink RL 63 yX5_canBePlayed, Cond.instanceMethod yX5_canBePlayed, Cond.selects RX5 yX5_canBePlayed yX5_canBePlayed]
def wsL_law0_r18 : List Cond := [Cond.code yX5_canBePlayed cX5_canBePlayed 2 (some .boolean), Cond.methodLink RL 152 yX6_canBePlayed, Cond.instanceMethod yX6_canBePlayed, Cond.selects RX6 yX6_canBePlayed yX6_canBePlayed, Cond.code yX6_canBePlayed cX6_canBePlayed 2 (some .boolean), Cond.methodLink RL 153 yL_whereIs, Cond.static yL_whereIs, Cond.codeWith yL_whereIs cL_whereIs 4 (some .int) [(0, 9, 12, 13)], Cond.methodLink RL 67 yX5_whereIs, Cond.instanceMethod yX5_whereIs, Cond.selects RX5 yX5_whereIs yX5_whereIs, Cond.code yX5_whereIs cX5_whereIs 2 (some .int), Cond.methodLink RL 155 yX6_whereIs, Cond.instanceMethod yX6_whereIs, Cond.selects RX6 yX6_whereIs yX6_whereIs, Cond.code yX6_whereIs cX6_whereIs 2 (some .int), Cond.methodLink RL 156 yL_at, Cond.static yL_at, Cond.codeWith yL_at cL_at 4 (some .int) [(0, 9, 12, 13)], Cond.methodLink RL 70 yX5_at, Cond.instanceMethod yX5_at, Cond.selects RX5 yX5_at yX5_at, Cond.code yX5_at cX5_at 2 (some .int), Cond.methodLink RL 158 yX6_at]
def wsL_law0_r19 : List Cond := [Cond.instanceMethod yX6_at, Cond.selects RX6 yX6_at yX6_at, Cond.code yX6_at cX6_at 2 (some .int), Cond.methodLink RL 159 yL_copyOf, Cond.static yL_copyOf, Cond.codeWith yL_copyOf cL_copyOf 4 (some .int) [(0, 9, 12, 13)], Cond.methodLink RL 73 yX5_copyOf, Cond.instanceMethod yX5_copyOf, Cond.selects RX5 yX5_copyOf yX5_copyOf, Cond.code yX5_copyOf cX5_copyOf 2 (some .int), Cond.fieldLink RX5 200 "GameCafe$Copy" "number" "I", Cond.methodLink RL 161 yX6_copyOf, Cond.instanceMethod yX6_copyOf, Cond.selects RX6 yX6_copyOf yX6_copyOf, Cond.code yX6_copyOf cX6_copyOf 2 (some .int), Cond.methodLink RL 162 yL_teaching, Cond.static yL_teaching, Cond.codeWith yL_teaching cL_teaching 4 (some .int) [(0, 9, 12, 13)], Cond.methodLink RL 76 yX5_teaching, Cond.instanceMethod yX5_teaching, Cond.selects RX5 yX5_teaching yX5_teaching, Cond.code yX5_teaching cX5_teaching 2 (some .int), Cond.methodLink RX5 201 Lib.Math.max.name, Cond.methodLink RL 164 yX6_teaching]
def wsL_law0_r20 : List Cond := [Cond.instanceMethod yX6_teaching, Cond.selects RX6 yX6_teaching yX6_teaching, Cond.code yX6_teaching cX6_teaching 2 (some .int), Cond.methodLink RL 165 yL_plays, Cond.static yL_plays, Cond.codeWith yL_plays cL_plays 4 (some .int) [(0, 9, 12, 13)], Cond.methodLink RL 79 yX5_plays, Cond.instanceMethod yX5_plays, Cond.selects RX5 yX5_plays yX5_plays, Cond.code yX5_plays cX5_plays 2 (some .int), Cond.methodLink RL 167 yX6_plays, Cond.instanceMethod yX6_plays, Cond.selects RX6 yX6_plays yX6_plays, Cond.code yX6_plays cX6_plays 2 (some .int), Cond.methodLink RL 168 yL_propose, Cond.static yL_propose, Cond.codeWith yL_propose cL_propose 4 (some .int) [(0, 9, 12, 15)], Cond.methodLink RL 82 yX5_propose, Cond.instanceMethod yX5_propose, Cond.selects RX5 yX5_propose yX5_propose, Cond.code yX5_propose cX5_propose 5 (some .int), Cond.methodLink RX5 207 yX5_canSeatKnowing, Cond.instanceMethod yX5_canSeatKnowing, Cond.selects RX5 yX5_canSeatKnowing yX5_canSeatKnowing]
def wsL_law0_r21 : List Cond := [Cond.code yX5_canSeatKnowing cX5_canSeatKnowing 3 (some .boolean), Cond.methodLink RL 170 yX6_propose, Cond.instanceMethod yX6_propose, Cond.selects RX6 yX6_propose yX6_propose, Cond.code yX6_propose cX6_propose 5 (some .int)]
def wsL_law0 : List Cond := (wsL_law0_r1 ++ (wsL_law0_r2 ++ (wsL_law0_r3 ++ (wsL_law0_r4 ++ (wsL_law0_r5 ++ (wsL_law0_r6 ++ (wsL_law0_r7 ++ (wsL_law0_r8 ++ (wsL_law0_r9 ++ (wsL_law0_r10 ++ (wsL_law0_r11 ++ (wsL_law0_r12 ++ (wsL_law0_r13 ++ (wsL_law0_r14 ++ (wsL_law0_r15 ++ (wsL_law0_r16 ++ (wsL_law0_r17 ++ (wsL_law0_r18 ++ (wsL_law0_r19 ++ (wsL_law0_r20 ++ wsL_law0_r21)))))))))))))))))))) ++ wsX50 ++ wsX60 ++ wsX10 ++ wsX30 ++ wsX40 ++ wsX00 ++ wsX20 ++ ([] : List Cond)
def wsL_law : List Cond := wsL_law0 ++ (vx_atS RX5 215 "java/lang/IndexOutOfBoundsException" ["java/lang/RuntimeException", "java/lang/Exception"]).filter goodWord ++ (vx_atS RX5 122 "java/lang/IllegalArgumentException" ["java/lang/RuntimeException", "java/lang/Exception"]).filter goodWord ++ (vx_atS RX5 87 "java/lang/IllegalStateException" ["java/lang/RuntimeException", "java/lang/Exception"]).filter goodWord
end
section
theorem cf_mem {big ws : List Cond} (ps : List Nat) (h : ws = ps.filterMap (fun i => big[i]?)) : ∀ w ∈ ws, w ∈ big := by
  intro w hw
  rw [h] at hw
  obtain ⟨i, -, hi⟩ := List.mem_filterMap.mp hw
  exact List.mem_of_getElem? hi
theorem wsL_law0_r1_in : ∀ w ∈ wsL_law0_r1, w ∈ lw_tbl := cf_mem [29, 30, 15, 520, 521, 19, 730, 31, 32, 33, 34, 35, 36, 37, 113, 39, 114, 41, 115, 43, 116, 45, 117, 118] (by decide +kernel)
theorem wsL_law0_r2_in : ∀ w ∈ wsL_law0_r2, w ∈ lw_tbl := cf_mem [119, 120, 121, 47, 16, 80, 17, 98, 18, 49, 50, 51, 52, 54, 56, 58, 79, 61, 63, 81, 82, 83, 84, 89] (by decide +kernel)
theorem wsL_law0_r3_in : ∀ w ∈ wsL_law0_r3, w ∈ lw_tbl := cf_mem [85, 87, 100, 101, 102, 112, 103, 105, 522, 523, 524, 525, 527, 528, 529, 530, 531, 532, 533, 534, 535, 536, 538, 539] (by decide +kernel)
theorem wsL_law0_r4_in : ∀ w ∈ wsL_law0_r4, w ∈ lw_tbl := cf_mem [540, 542, 543, 544, 545, 546, 547, 548, 149, 150, 14, 151, 152, 153, 154, 155, 156, 157, 53, 55, 57, 158, 159, 160] (by decide +kernel)
theorem wsL_law0_r5_in : ∀ w ∈ wsL_law0_r5, w ∈ lw_tbl := cf_mem [161, 23, 229, 230, 231, 232, 24, 603, 604, 605, 606, 549, 607, 608, 609, 610, 611, 612, 599, 600, 601, 602, 248, 249] (by decide +kernel)
theorem wsL_law0_r6_in : ∀ w ∈ wsL_law0_r6, w ∈ lw_tbl := cf_mem [250, 251, 252, 253, 254, 62, 65, 613, 614, 615, 616, 255, 256, 257, 258, 259, 260, 261, 262, 263, 25, 90, 88, 617] (by decide +kernel)
theorem wsL_law0_r7_in : ∀ w ∈ wsL_law0_r7, w ∈ lw_tbl := cf_mem [618, 619, 620, 279, 280, 281, 282, 283, 284, 285, 104, 621, 622, 623, 624, 286, 287, 288, 289, 290, 291, 292, 294, 26] (by decide +kernel)
theorem wsL_law0_r8_in : ∀ w ∈ wsL_law0_r8, w ∈ lw_tbl := cf_mem [295, 296, 297, 298, 312, 306, 308, 60, 299, 300, 301, 302, 303, 305, 310, 625, 626, 627, 628, 537, 323, 324, 325, 326] (by decide +kernel)
theorem wsL_law0_r9_in : ∀ w ∈ wsL_law0_r9, w ∈ lw_tbl := cf_mem [327, 328, 329, 311, 313, 330, 332, 1, 333, 629, 630, 631, 632, 633, 635, 7, 636, 637, 639, 8, 640, 336, 337, 338] (by decide +kernel)
theorem wsL_law0_r10_in : ∀ w ∈ wsL_law0_r10, w ∈ lw_tbl := cf_mem [339, 340, 341, 342, 309, 345, 346, 347, 348, 349, 350, 27, 351, 352, 353, 354, 641, 642, 643, 644, 355, 356, 357, 358] (by decide +kernel)
theorem wsL_law0_r11_in : ∀ w ∈ wsL_law0_r11, w ∈ lw_tbl := cf_mem [359, 360, 361, 106, 384, 28, 362, 363, 364, 365, 367, 369, 2, 370, 371, 373, 3, 374, 375, 376, 377, 378, 64, 379] (by decide +kernel)
theorem wsL_law0_r12_in : ∀ w ∈ wsL_law0_r12, w ∈ lw_tbl := cf_mem [381, 4, 382, 385, 386, 387, 388, 393, 395, 389, 391, 645, 646, 647, 648, 541, 526, 649, 651, 9, 652, 653, 655, 10] (by decide +kernel)
theorem wsL_law0_r13_in : ∀ w ∈ wsL_law0_r13, w ∈ lw_tbl := cf_mem [656, 657, 659, 11, 660, 661, 663, 12, 664, 406, 407, 408, 409, 410, 411, 412, 394, 390, 396, 86, 413, 415, 5, 416] (by decide +kernel)
theorem wsL_law0_r14_in : ∀ w ∈ wsL_law0_r14, w ∈ lw_tbl := cf_mem [665, 666, 667, 668, 669, 671, 13, 672, 419, 420, 421, 422, 423, 424, 425, 59, 392, 673, 674, 675, 676, 426, 427, 428] (by decide +kernel)
theorem wsL_law0_r15_in : ∀ w ∈ wsL_law0_r15, w ∈ lw_tbl := cf_mem [429, 430, 431, 432, 433, 677, 678, 679, 680, 681, 435, 436, 437, 438, 439, 440, 441, 443, 444, 445, 446, 448, 449, 682] (by decide +kernel)
theorem wsL_law0_r16_in : ∀ w ∈ wsL_law0_r16, w ∈ lw_tbl := cf_mem [683, 684, 685, 450, 451, 452, 453, 454, 455, 456, 458, 686, 687, 688, 689, 141, 142, 143, 144, 690, 691, 692, 693, 145] (by decide +kernel)
theorem wsL_law0_r17_in : ∀ w ∈ wsL_law0_r17, w ∈ lw_tbl := cf_mem [146, 147, 148, 694, 695, 696, 697, 459, 460, 461, 462, 463, 464, 465, 698, 699, 700, 701, 466, 467, 468, 469, 470, 471] (by decide +kernel)
theorem wsL_law0_r18_in : ∀ w ∈ wsL_law0_r18, w ∈ lw_tbl := cf_mem [472, 702, 703, 704, 705, 473, 474, 475, 476, 477, 478, 479, 706, 707, 708, 709, 480, 481, 482, 483, 484, 485, 486, 710] (by decide +kernel)
theorem wsL_law0_r19_in : ∀ w ∈ wsL_law0_r19, w ∈ lw_tbl := cf_mem [711, 712, 713, 487, 488, 489, 490, 491, 492, 493, 307, 714, 715, 716, 717, 494, 495, 496, 497, 498, 499, 500, 501, 718] (by decide +kernel)
theorem wsL_law0_r20_in : ∀ w ∈ wsL_law0_r20, w ∈ lw_tbl := cf_mem [719, 720, 721, 502, 503, 504, 505, 506, 507, 508, 722, 723, 724, 725, 509, 510, 511, 512, 513, 514, 515, 516, 518, 6] (by decide +kernel)
theorem wsL_law0_r21_in : ∀ w ∈ wsL_law0_r21, w ∈ lw_tbl := cf_mem [519, 726, 727, 728, 729] (by decide +kernel)
theorem wsX50_in : ∀ w ∈ wsX50, w ∈ lw_tbl := cf_mem [122, 124, 126, 128, 130, 132, 134, 136, 138] (by decide +kernel)
theorem wsX60_in : ∀ w ∈ wsX60, w ∈ lw_tbl := cf_mem [550, 552, 554, 556, 558, 560, 562, 564, 566, 568, 570, 572, 574, 576, 578, 580, 582, 584, 586, 588, 590, 592, 594, 596] (by decide +kernel)
theorem wsX10_in : ∀ w ∈ wsX10, w ∈ lw_tbl := cf_mem [66, 68, 70, 72, 74, 76] (by decide +kernel)
theorem wsX30_in : ∀ w ∈ wsX30, w ∈ lw_tbl := cf_mem [91, 93, 95] (by decide +kernel)
theorem wsX40_in : ∀ w ∈ wsX40, w ∈ lw_tbl := cf_mem [107, 109] (by decide +kernel)
theorem wsX00_in : ∀ w ∈ wsX00, w ∈ lw_tbl := cf_mem [314, 316, 318, 320] (by decide +kernel)
theorem wsX20_in : ∀ w ∈ wsX20, w ∈ lw_tbl := cf_mem [397, 399, 401, 403] (by decide +kernel)
theorem wsL_law_in0 : ∀ w ∈ wsL_law0, w ∈ lw_tbl := fun w h => (List.mem_append.mp h).elim (fun h => (List.mem_append.mp h).elim (fun h => (List.mem_append.mp h).elim (fun h => (List.mem_append.mp h).elim (fun h => (List.mem_append.mp h).elim (fun h => (List.mem_append.mp h).elim (fun h => (List.mem_append.mp h).elim (fun h => (List.mem_append.mp h).elim (fun h => (List.mem_append.mp h).elim (fun h => wsL_law0_r1_in w h) (fun h => (List.mem_append.mp h).elim (fun h => wsL_law0_r2_in w h) (fun h => (List.mem_append.mp h).elim (fun h => wsL_law0_r3_in w h) (fun h => (List.mem_append.mp h).elim (fun h => wsL_law0_r4_in w h) (fun h => (List.mem_append.mp h).elim (fun h => wsL_law0_r5_in w h) (fun h => (List.mem_append.mp h).elim (fun h => wsL_law0_r6_in w h) (fun h => (List.mem_append.mp h).elim (fun h => wsL_law0_r7_in w h) (fun h => (List.mem_append.mp h).elim (fun h => wsL_law0_r8_in w h) (fun h => (List.mem_append.mp h).elim (fun h => wsL_law0_r9_in w h) (fun h => (List.mem_append.mp h).elim (fun h => wsL_law0_r10_in w h) (fun h => (List.mem_append.mp h).elim (fun h => wsL_law0_r11_in w h) (fun h => (List.mem_append.mp h).elim (fun h => wsL_law0_r12_in w h) (fun h => (List.mem_append.mp h).elim (fun h => wsL_law0_r13_in w h) (fun h => (List.mem_append.mp h).elim (fun h => wsL_law0_r14_in w h) (fun h => (List.mem_append.mp h).elim (fun h => wsL_law0_r15_in w h) (fun h => (List.mem_append.mp h).elim (fun h => wsL_law0_r16_in w h) (fun h => (List.mem_append.mp h).elim (fun h => wsL_law0_r17_in w h) (fun h => (List.mem_append.mp h).elim (fun h => wsL_law0_r18_in w h) (fun h => (List.mem_append.mp h).elim (fun h => wsL_law0_r19_in w h) (fun h => (List.mem_append.mp h).elim (fun h => wsL_law0_r20_in w h) (fun h => wsL_law0_r21_in w h))))))))))))))))))))) (fun h => wsX50_in w h)) (fun h => wsX60_in w h)) (fun h => wsX10_in w h)) (fun h => wsX30_in w h)) (fun h => wsX40_in w h)) (fun h => wsX00_in w h)) (fun h => wsX20_in w h)) (fun h => absurd h List.not_mem_nil)
theorem wsL_law_x0 : ∀ w ∈ (vx_atS RX5 215 "java/lang/IndexOutOfBoundsException" ["java/lang/RuntimeException", "java/lang/Exception"]).filter goodWord, w ∈ lw_tbl := by decide +kernel
theorem wsL_law_x1 : ∀ w ∈ (vx_atS RX5 122 "java/lang/IllegalArgumentException" ["java/lang/RuntimeException", "java/lang/Exception"]).filter goodWord, w ∈ lw_tbl := by decide +kernel
theorem wsL_law_x2 : ∀ w ∈ (vx_atS RX5 87 "java/lang/IllegalStateException" ["java/lang/RuntimeException", "java/lang/Exception"]).filter goodWord, w ∈ lw_tbl := by decide +kernel
theorem wsL_law_in : ∀ w ∈ wsL_law, w ∈ lw_tbl := fun w h => (List.mem_append.mp h).elim (fun h => (List.mem_append.mp h).elim (fun h => (List.mem_append.mp h).elim (fun h => wsL_law_in0 w h) (fun h => wsL_law_x0 w h)) (fun h => wsL_law_x1 w h)) (fun h => wsL_law_x2 w h)
theorem inlX0 : ∀ w ∈ wsX00, w ∈ wsL_law := fun _ h => List.mem_append_left _ (List.mem_append_left _ (List.mem_append_left _ (List.mem_append_left _ (List.mem_append_left _ (List.mem_append_right _ h)))))
theorem inX0 : ∀ w ∈ wsX00, w ∈ lw_tbl := fun w h => wsL_law_in w (inlX0 w h)
theorem inlX1 : ∀ w ∈ wsX10, w ∈ wsL_law := fun _ h => List.mem_append_left _ (List.mem_append_left _ (List.mem_append_left _ (List.mem_append_left _ (List.mem_append_left _ (List.mem_append_left _ (List.mem_append_left _ (List.mem_append_left _ (List.mem_append_right _ h))))))))
theorem inX1 : ∀ w ∈ wsX10, w ∈ lw_tbl := fun w h => wsL_law_in w (inlX1 w h)
theorem inlX2 : ∀ w ∈ wsX20, w ∈ wsL_law := fun _ h => List.mem_append_left _ (List.mem_append_left _ (List.mem_append_left _ (List.mem_append_left _ (List.mem_append_right _ h))))
theorem inX2 : ∀ w ∈ wsX20, w ∈ lw_tbl := fun w h => wsL_law_in w (inlX2 w h)
theorem inlX3 : ∀ w ∈ wsX30, w ∈ wsL_law := fun _ h => List.mem_append_left _ (List.mem_append_left _ (List.mem_append_left _ (List.mem_append_left _ (List.mem_append_left _ (List.mem_append_left _ (List.mem_append_left _ (List.mem_append_right _ h)))))))
theorem inX3 : ∀ w ∈ wsX30, w ∈ lw_tbl := fun w h => wsL_law_in w (inlX3 w h)
theorem inlX4 : ∀ w ∈ wsX40, w ∈ wsL_law := fun _ h => List.mem_append_left _ (List.mem_append_left _ (List.mem_append_left _ (List.mem_append_left _ (List.mem_append_left _ (List.mem_append_left _ (List.mem_append_right _ h))))))
theorem inX4 : ∀ w ∈ wsX40, w ∈ lw_tbl := fun w h => wsL_law_in w (inlX4 w h)
theorem inlX5 : ∀ w ∈ wsX50, w ∈ wsL_law := fun _ h => List.mem_append_left _ (List.mem_append_left _ (List.mem_append_left _ (List.mem_append_left _ (List.mem_append_left _ (List.mem_append_left _ (List.mem_append_left _ (List.mem_append_left _ (List.mem_append_left _ (List.mem_append_left _ (List.mem_append_right _ h))))))))))
theorem inX5 : ∀ w ∈ wsX50, w ∈ lw_tbl := fun w h => wsL_law_in w (inlX5 w h)
theorem inlX6 : ∀ w ∈ wsX60, w ∈ wsL_law := fun _ h => List.mem_append_left _ (List.mem_append_left _ (List.mem_append_left _ (List.mem_append_left _ (List.mem_append_left _ (List.mem_append_left _ (List.mem_append_left _ (List.mem_append_left _ (List.mem_append_left _ (List.mem_append_right _ h)))))))))
theorem inX6 : ∀ w ∈ wsX60, w ∈ lw_tbl := fun w h => wsL_law_in w (inlX6 w h)
theorem inJx8e188 : ∀ w ∈ wsJx8e1880, w ∈ lw_tbl := by decide +kernel
theorem inJ9 : ∀ w ∈ wsJ90, w ∈ lw_tbl := by decide +kernel
theorem inJ0 : ∀ w ∈ wsJ00, w ∈ lw_tbl := by decide +kernel
end
section
theorem dX0_init_0 : decode cX0_init 0 = .ok (.aload_n 0, 1) := by decide +kernel
theorem dX0_init_1 : decode cX0_init 1 = .ok (.invokespecial 3, 3) := by decide +kernel
theorem dX0_init_4 : decode cX0_init 4 = .ok (.aload_n 0, 1) := by decide +kernel
theorem dX0_init_5 : decode cX0_init 5 = .ok (.iconst 0, 1) := by decide +kernel
theorem dX0_init_6 : decode cX0_init 6 = .ok (.putfield 9, 3) := by decide +kernel
theorem dX0_init_9 : decode cX0_init 9 = .ok (.aload_n 0, 1) := by decide +kernel
theorem dX0_init_10 : decode cX0_init 10 = .ok (.iload_n 1, 1) := by decide +kernel
theorem dX0_init_11 : decode cX0_init 11 = .ok (.putfield 15, 3) := by decide +kernel
theorem dX0_init_14 : decode cX0_init 14 = .ok (.aload_n 0, 1) := by decide +kernel
theorem dX0_init_15 : decode cX0_init 15 = .ok (.aload_n 2, 1) := by decide +kernel
theorem dX0_init_16 : decode cX0_init 16 = .ok (.putfield 18, 3) := by decide +kernel
theorem dX0_init_19 : decode cX0_init 19 = .ok (.aload_n 0, 1) := by decide +kernel
theorem dX0_init_20 : decode cX0_init 20 = .ok (.aload_n 2, 1) := by decide +kernel
theorem dX0_init_21 : decode cX0_init 21 = .ok (.getfield 22, 3) := by decide +kernel
theorem dX0_init_24 : decode cX0_init 24 = .ok (.invokevirtual 28, 3) := by decide +kernel
theorem dX0_init_27 : decode cX0_init 27 = .ok (.checkcast 29, 3) := by decide +kernel
theorem dX0_init_30 : decode cX0_init 30 = .ok (.putfield 33, 3) := by decide +kernel
theorem dX0_init_33 : decode cX0_init 33 = .ok (.return_, 1) := by decide +kernel
theorem dX0_isPlayable_0 : decode cX0_isPlayable 0 = .ok (.iconst 0, 1) := by decide +kernel
theorem dX0_isPlayable_1 : decode cX0_isPlayable 1 = .ok (.istore_n 1, 1) := by decide +kernel
theorem dX0_isPlayable_2 : decode cX0_isPlayable 2 = .ok (.iload_n 1, 1) := by decide +kernel
theorem dX0_isPlayable_3 : decode cX0_isPlayable 3 = .ok (.iconst 4, 1) := by decide +kernel
theorem dX0_isPlayable_4 : decode cX0_isPlayable 4 = .ok (.if_icmp .ge 29, 3) := by decide +kernel
theorem dX0_isPlayable_7 : decode cX0_isPlayable 7 = .ok (.aload_n 0, 1) := by decide +kernel
theorem dX0_isPlayable_8 : decode cX0_isPlayable 8 = .ok (.getfield 33, 3) := by decide +kernel
theorem dX0_isPlayable_11 : decode cX0_isPlayable 11 = .ok (.iload_n 1, 1) := by decide +kernel
theorem dX0_isPlayable_12 : decode cX0_isPlayable 12 = .ok (.iaload, 1) := by decide +kernel
theorem dX0_isPlayable_13 : decode cX0_isPlayable 13 = .ok (.aload_n 0, 1) := by decide +kernel
theorem dX0_isPlayable_14 : decode cX0_isPlayable 14 = .ok (.getfield 18, 3) := by decide +kernel
theorem dX0_isPlayable_17 : decode cX0_isPlayable 17 = .ok (.getfield 36, 3) := by decide +kernel
theorem dX0_isPlayable_20 : decode cX0_isPlayable 20 = .ok (.iload_n 1, 1) := by decide +kernel
theorem dX0_isPlayable_21 : decode cX0_isPlayable 21 = .ok (.iaload, 1) := by decide +kernel
theorem dX0_isPlayable_22 : decode cX0_isPlayable 22 = .ok (.if_icmp .ge 5, 3) := by decide +kernel
theorem dX0_isPlayable_25 : decode cX0_isPlayable 25 = .ok (.iconst 0, 1) := by decide +kernel
theorem dX0_isPlayable_26 : decode cX0_isPlayable 26 = .ok (.ireturn, 1) := by decide +kernel
theorem dX0_isPlayable_27 : decode cX0_isPlayable 27 = .ok (.iinc 1 1, 3) := by decide +kernel
theorem dX0_isPlayable_30 : decode cX0_isPlayable 30 = .ok (.goto (-28), 3) := by decide +kernel
theorem dX0_isPlayable_33 : decode cX0_isPlayable 33 = .ok (.iconst 1, 1) := by decide +kernel
theorem dX0_isPlayable_34 : decode cX0_isPlayable 34 = .ok (.ireturn, 1) := by decide +kernel
set_option maxRecDepth 20000 in
theorem ggX0_worth_X5_worthOfPart : GoodIn wsX0_worth wsX5_worthOfPart := goodIn_r _ [4] (by decide +kernel) (by decide +kernel)
set_option maxRecDepth 20000 in
theorem gX0_worth_X5_worthOfPart_n39 : GoodIn wsX0_worth (wsX5_worthOfPart) := ggX0_worth_X5_worthOfPart
theorem dX0_worth_0 : decode cX0_worth 0 = .ok (.iconst 0, 1) := by decide +kernel
theorem dX0_worth_1 : decode cX0_worth 1 = .ok (.istore_n 1, 1) := by decide +kernel
theorem dX0_worth_2 : decode cX0_worth 2 = .ok (.iconst 0, 1) := by decide +kernel
theorem dX0_worth_3 : decode cX0_worth 3 = .ok (.istore_n 2, 1) := by decide +kernel
theorem dX0_worth_4 : decode cX0_worth 4 = .ok (.iload_n 2, 1) := by decide +kernel
theorem dX0_worth_5 : decode cX0_worth 5 = .ok (.iconst 4, 1) := by decide +kernel
theorem dX0_worth_6 : decode cX0_worth 6 = .ok (.if_icmp .ge 23, 3) := by decide +kernel
theorem dX0_worth_9 : decode cX0_worth 9 = .ok (.iload_n 1, 1) := by decide +kernel
theorem dX0_worth_10 : decode cX0_worth 10 = .ok (.aload_n 0, 1) := by decide +kernel
theorem dX0_worth_11 : decode cX0_worth 11 = .ok (.getfield 33, 3) := by decide +kernel
theorem dX0_worth_14 : decode cX0_worth 14 = .ok (.iload_n 2, 1) := by decide +kernel
theorem dX0_worth_15 : decode cX0_worth 15 = .ok (.iaload, 1) := by decide +kernel
theorem dX0_worth_16 : decode cX0_worth 16 = .ok (.iload_n 2, 1) := by decide +kernel
theorem dX0_worth_17 : decode cX0_worth 17 = .ok (.invokestatic 39, 3) := by decide +kernel
theorem dX0_worth_20 : decode cX0_worth 20 = .ok (.imul, 1) := by decide +kernel
theorem dX0_worth_21 : decode cX0_worth 21 = .ok (.iadd, 1) := by decide +kernel
theorem dX0_worth_22 : decode cX0_worth 22 = .ok (.istore_n 1, 1) := by decide +kernel
theorem dX0_worth_23 : decode cX0_worth 23 = .ok (.iinc 2 1, 3) := by decide +kernel
theorem dX0_worth_26 : decode cX0_worth 26 = .ok (.goto (-22), 3) := by decide +kernel
theorem dX0_worth_29 : decode cX0_worth 29 = .ok (.iload_n 1, 1) := by decide +kernel
theorem dX0_worth_30 : decode cX0_worth 30 = .ok (.ireturn, 1) := by decide +kernel
theorem dX0_fillFrom_0 : decode cX0_fillFrom 0 = .ok (.iconst 0, 1) := by decide +kernel
theorem dX0_fillFrom_1 : decode cX0_fillFrom 1 = .ok (.istore_n 2, 1) := by decide +kernel
theorem dX0_fillFrom_2 : decode cX0_fillFrom 2 = .ok (.iconst 0, 1) := by decide +kernel
theorem dX0_fillFrom_3 : decode cX0_fillFrom 3 = .ok (.istore_n 3, 1) := by decide +kernel
theorem dX0_fillFrom_4 : decode cX0_fillFrom 4 = .ok (.iload_n 3, 1) := by decide +kernel
theorem dX0_fillFrom_5 : decode cX0_fillFrom 5 = .ok (.iconst 4, 1) := by decide +kernel
theorem dX0_fillFrom_6 : decode cX0_fillFrom 6 = .ok (.if_icmp .ge 71, 3) := by decide +kernel
theorem dX0_fillFrom_9 : decode cX0_fillFrom 9 = .ok (.iconst 0, 1) := by decide +kernel
theorem dX0_fillFrom_10 : decode cX0_fillFrom 10 = .ok (.aload_n 0, 1) := by decide +kernel
theorem dX0_fillFrom_11 : decode cX0_fillFrom 11 = .ok (.getfield 18, 3) := by decide +kernel
theorem dX0_fillFrom_14 : decode cX0_fillFrom 14 = .ok (.getfield 22, 3) := by decide +kernel
theorem dX0_fillFrom_17 : decode cX0_fillFrom 17 = .ok (.iload_n 3, 1) := by decide +kernel
theorem dX0_fillFrom_18 : decode cX0_fillFrom 18 = .ok (.iaload, 1) := by decide +kernel
theorem dX0_fillFrom_19 : decode cX0_fillFrom 19 = .ok (.aload_n 0, 1) := by decide +kernel
theorem dX0_fillFrom_20 : decode cX0_fillFrom 20 = .ok (.getfield 33, 3) := by decide +kernel
theorem dX0_fillFrom_23 : decode cX0_fillFrom 23 = .ok (.iload_n 3, 1) := by decide +kernel
theorem dX0_fillFrom_24 : decode cX0_fillFrom 24 = .ok (.iaload, 1) := by decide +kernel
theorem dX0_fillFrom_25 : decode cX0_fillFrom 25 = .ok (.isub, 1) := by decide +kernel
theorem dX0_fillFrom_26 : decode cX0_fillFrom 26 = .ok (.invokestatic 43, 3) := by decide +kernel
theorem dX0_fillFrom_29 : decode cX0_fillFrom 29 = .ok (.istore 4, 2) := by decide +kernel
theorem dX0_fillFrom_31 : decode cX0_fillFrom 31 = .ok (.iload 4, 2) := by decide +kernel
theorem dX0_fillFrom_33 : decode cX0_fillFrom 33 = .ok (.aload_n 1, 1) := by decide +kernel
theorem dX0_fillFrom_34 : decode cX0_fillFrom 34 = .ok (.getfield 33, 3) := by decide +kernel
theorem dX0_fillFrom_37 : decode cX0_fillFrom 37 = .ok (.iload_n 3, 1) := by decide +kernel
theorem dX0_fillFrom_38 : decode cX0_fillFrom 38 = .ok (.iaload, 1) := by decide +kernel
theorem dX0_fillFrom_39 : decode cX0_fillFrom 39 = .ok (.invokestatic 49, 3) := by decide +kernel
theorem dX0_fillFrom_42 : decode cX0_fillFrom 42 = .ok (.istore 5, 2) := by decide +kernel
theorem dX0_fillFrom_44 : decode cX0_fillFrom 44 = .ok (.aload_n 0, 1) := by decide +kernel
theorem dX0_fillFrom_45 : decode cX0_fillFrom 45 = .ok (.getfield 33, 3) := by decide +kernel
theorem dX0_fillFrom_48 : decode cX0_fillFrom 48 = .ok (.iload_n 3, 1) := by decide +kernel
theorem dX0_fillFrom_49 : decode cX0_fillFrom 49 = .ok (.dup2, 1) := by decide +kernel
theorem dX0_fillFrom_50 : decode cX0_fillFrom 50 = .ok (.iaload, 1) := by decide +kernel
theorem dX0_fillFrom_51 : decode cX0_fillFrom 51 = .ok (.iload 5, 2) := by decide +kernel
theorem dX0_fillFrom_53 : decode cX0_fillFrom 53 = .ok (.iadd, 1) := by decide +kernel
theorem dX0_fillFrom_54 : decode cX0_fillFrom 54 = .ok (.iastore, 1) := by decide +kernel
theorem dX0_fillFrom_55 : decode cX0_fillFrom 55 = .ok (.aload_n 1, 1) := by decide +kernel
theorem dX0_fillFrom_56 : decode cX0_fillFrom 56 = .ok (.getfield 33, 3) := by decide +kernel
theorem dX0_fillFrom_59 : decode cX0_fillFrom 59 = .ok (.iload_n 3, 1) := by decide +kernel
theorem dX0_fillFrom_60 : decode cX0_fillFrom 60 = .ok (.dup2, 1) := by decide +kernel
theorem dX0_fillFrom_61 : decode cX0_fillFrom 61 = .ok (.iaload, 1) := by decide +kernel
theorem dX0_fillFrom_62 : decode cX0_fillFrom 62 = .ok (.iload 5, 2) := by decide +kernel
theorem dX0_fillFrom_64 : decode cX0_fillFrom 64 = .ok (.isub, 1) := by decide +kernel
theorem dX0_fillFrom_65 : decode cX0_fillFrom 65 = .ok (.iastore, 1) := by decide +kernel
theorem dX0_fillFrom_66 : decode cX0_fillFrom 66 = .ok (.iload_n 2, 1) := by decide +kernel
theorem dX0_fillFrom_67 : decode cX0_fillFrom 67 = .ok (.iload 5, 2) := by decide +kernel
theorem dX0_fillFrom_69 : decode cX0_fillFrom 69 = .ok (.iadd, 1) := by decide +kernel
theorem dX0_fillFrom_70 : decode cX0_fillFrom 70 = .ok (.istore_n 2, 1) := by decide +kernel
theorem dX0_fillFrom_71 : decode cX0_fillFrom 71 = .ok (.iinc 3 1, 3) := by decide +kernel
theorem dX0_fillFrom_74 : decode cX0_fillFrom 74 = .ok (.goto (-70), 3) := by decide +kernel
theorem dX0_fillFrom_77 : decode cX0_fillFrom 77 = .ok (.iload_n 2, 1) := by decide +kernel
theorem dX0_fillFrom_78 : decode cX0_fillFrom 78 = .ok (.ireturn, 1) := by decide +kernel
theorem dX1_init_0 : decode cX1_init 0 = .ok (.aload_n 0, 1) := by decide +kernel
theorem dX1_init_1 : decode cX1_init 1 = .ok (.invokespecial 1, 3) := by decide +kernel
theorem dX1_init_4 : decode cX1_init 4 = .ok (.aload_n 0, 1) := by decide +kernel
theorem dX1_init_5 : decode cX1_init 5 = .ok (.iconst 2, 1) := by decide +kernel
theorem dX1_init_6 : decode cX1_init 6 = .ok (.putfield 7, 3) := by decide +kernel
theorem dX1_init_9 : decode cX1_init 9 = .ok (.aload_n 0, 1) := by decide +kernel
theorem dX1_init_10 : decode cX1_init 10 = .ok (.iconst 4, 1) := by decide +kernel
theorem dX1_init_11 : decode cX1_init 11 = .ok (.putfield 13, 3) := by decide +kernel
theorem dX1_init_14 : decode cX1_init 14 = .ok (.aload_n 0, 1) := by decide +kernel
theorem dX1_init_15 : decode cX1_init 15 = .ok (.bipush 10, 2) := by decide +kernel
theorem dX1_init_17 : decode cX1_init 17 = .ok (.putfield 16, 3) := by decide +kernel
theorem dX1_init_20 : decode cX1_init 20 = .ok (.aload_n 0, 1) := by decide +kernel
theorem dX1_init_21 : decode cX1_init 21 = .ok (.iconst 0, 1) := by decide +kernel
theorem dX1_init_22 : decode cX1_init 22 = .ok (.putfield 19, 3) := by decide +kernel
theorem dX1_init_25 : decode cX1_init 25 = .ok (.aload_n 0, 1) := by decide +kernel
theorem dX1_init_26 : decode cX1_init 26 = .ok (.iconst 4, 1) := by decide +kernel
theorem dX1_init_27 : decode cX1_init 27 = .ok (.newarray .int, 2) := by decide +kernel
theorem dX1_init_29 : decode cX1_init 29 = .ok (.dup, 1) := by decide +kernel
theorem dX1_init_30 : decode cX1_init 30 = .ok (.iconst 0, 1) := by decide +kernel
theorem dX1_init_31 : decode cX1_init 31 = .ok (.iconst 5, 1) := by decide +kernel
theorem dX1_init_32 : decode cX1_init 32 = .ok (.iastore, 1) := by decide +kernel
theorem dX1_init_33 : decode cX1_init 33 = .ok (.dup, 1) := by decide +kernel
theorem dX1_init_34 : decode cX1_init 34 = .ok (.iconst 1, 1) := by decide +kernel
theorem dX1_init_35 : decode cX1_init 35 = .ok (.iconst 5, 1) := by decide +kernel
theorem dX1_init_36 : decode cX1_init 36 = .ok (.iastore, 1) := by decide +kernel
theorem dX1_init_37 : decode cX1_init 37 = .ok (.dup, 1) := by decide +kernel
theorem dX1_init_38 : decode cX1_init 38 = .ok (.iconst 2, 1) := by decide +kernel
theorem dX1_init_39 : decode cX1_init 39 = .ok (.iconst 5, 1) := by decide +kernel
theorem dX1_init_40 : decode cX1_init 40 = .ok (.iastore, 1) := by decide +kernel
theorem dX1_init_41 : decode cX1_init 41 = .ok (.dup, 1) := by decide +kernel
theorem dX1_init_42 : decode cX1_init 42 = .ok (.iconst 3, 1) := by decide +kernel
theorem dX1_init_43 : decode cX1_init 43 = .ok (.iconst 5, 1) := by decide +kernel
theorem dX1_init_44 : decode cX1_init 44 = .ok (.iastore, 1) := by decide +kernel
theorem dX1_init_45 : decode cX1_init 45 = .ok (.putfield 22, 3) := by decide +kernel
theorem dX1_init_48 : decode cX1_init 48 = .ok (.aload_n 0, 1) := by decide +kernel
theorem dX1_init_49 : decode cX1_init 49 = .ok (.iconst 4, 1) := by decide +kernel
theorem dX1_init_50 : decode cX1_init 50 = .ok (.newarray .int, 2) := by decide +kernel
theorem dX1_init_52 : decode cX1_init 52 = .ok (.dup, 1) := by decide +kernel
theorem dX1_init_53 : decode cX1_init 53 = .ok (.iconst 0, 1) := by decide +kernel
theorem dX1_init_54 : decode cX1_init 54 = .ok (.iconst 4, 1) := by decide +kernel
theorem dX1_init_55 : decode cX1_init 55 = .ok (.iastore, 1) := by decide +kernel
theorem dX1_init_56 : decode cX1_init 56 = .ok (.dup, 1) := by decide +kernel
theorem dX1_init_57 : decode cX1_init 57 = .ok (.iconst 1, 1) := by decide +kernel
theorem dX1_init_58 : decode cX1_init 58 = .ok (.iconst 4, 1) := by decide +kernel
theorem dX1_init_59 : decode cX1_init 59 = .ok (.iastore, 1) := by decide +kernel
theorem dX1_init_60 : decode cX1_init 60 = .ok (.dup, 1) := by decide +kernel
theorem dX1_init_61 : decode cX1_init 61 = .ok (.iconst 2, 1) := by decide +kernel
theorem dX1_init_62 : decode cX1_init 62 = .ok (.iconst 4, 1) := by decide +kernel
theorem dX1_init_63 : decode cX1_init 63 = .ok (.iastore, 1) := by decide +kernel
theorem dX1_init_64 : decode cX1_init 64 = .ok (.dup, 1) := by decide +kernel
theorem dX1_init_65 : decode cX1_init 65 = .ok (.iconst 3, 1) := by decide +kernel
theorem dX1_init_66 : decode cX1_init 66 = .ok (.iconst 4, 1) := by decide +kernel
theorem dX1_init_67 : decode cX1_init 67 = .ok (.iastore, 1) := by decide +kernel
theorem dX1_init_68 : decode cX1_init 68 = .ok (.putfield 26, 3) := by decide +kernel
theorem dX1_init_71 : decode cX1_init 71 = .ok (.return_, 1) := by decide +kernel
theorem dX1_isFor_0 : decode cX1_isFor 0 = .ok (.aload_n 0, 1) := by decide +kernel
theorem dX1_isFor_1 : decode cX1_isFor 1 = .ok (.getfield 7, 3) := by decide +kernel
theorem dX1_isFor_4 : decode cX1_isFor 4 = .ok (.iload_n 1, 1) := by decide +kernel
theorem dX1_isFor_5 : decode cX1_isFor 5 = .ok (.if_icmp .gt 15, 3) := by decide +kernel
theorem dX1_isFor_8 : decode cX1_isFor 8 = .ok (.iload_n 1, 1) := by decide +kernel
theorem dX1_isFor_9 : decode cX1_isFor 9 = .ok (.aload_n 0, 1) := by decide +kernel
theorem dX1_isFor_10 : decode cX1_isFor 10 = .ok (.getfield 13, 3) := by decide +kernel
theorem dX1_isFor_13 : decode cX1_isFor 13 = .ok (.if_icmp .gt 7, 3) := by decide +kernel
theorem dX1_isFor_16 : decode cX1_isFor 16 = .ok (.iconst 1, 1) := by decide +kernel
theorem dX1_isFor_17 : decode cX1_isFor 17 = .ok (.goto 4, 3) := by decide +kernel
theorem dX1_isFor_20 : decode cX1_isFor 20 = .ok (.iconst 0, 1) := by decide +kernel
theorem dX1_isFor_21 : decode cX1_isFor 21 = .ok (.ireturn, 1) := by decide +kernel
theorem dX2_init_0 : decode cX2_init 0 = .ok (.aload_n 0, 1) := by decide +kernel
theorem dX2_init_1 : decode cX2_init 1 = .ok (.invokespecial 1, 3) := by decide +kernel
theorem dX2_init_4 : decode cX2_init 4 = .ok (.aload_n 0, 1) := by decide +kernel
theorem dX2_init_5 : decode cX2_init 5 = .ok (.iload_n 1, 1) := by decide +kernel
theorem dX2_init_6 : decode cX2_init 6 = .ok (.putfield 7, 3) := by decide +kernel
theorem dX2_init_9 : decode cX2_init 9 = .ok (.aload_n 0, 1) := by decide +kernel
theorem dX2_init_10 : decode cX2_init 10 = .ok (.aload_n 2, 1) := by decide +kernel
theorem dX2_init_11 : decode cX2_init 11 = .ok (.putfield 13, 3) := by decide +kernel
theorem dX2_init_14 : decode cX2_init 14 = .ok (.aload_n 0, 1) := by decide +kernel
theorem dX2_init_15 : decode cX2_init 15 = .ok (.aload_n 3, 1) := by decide +kernel
theorem dX2_init_16 : decode cX2_init 16 = .ok (.putfield 17, 3) := by decide +kernel
theorem dX2_init_19 : decode cX2_init 19 = .ok (.aload_n 0, 1) := by decide +kernel
theorem dX2_init_20 : decode cX2_init 20 = .ok (.iload 4, 2) := by decide +kernel
theorem dX2_init_22 : decode cX2_init 22 = .ok (.putfield 21, 3) := by decide +kernel
theorem dX2_init_25 : decode cX2_init 25 = .ok (.return_, 1) := by decide +kernel
theorem dX3_init_0 : decode cX3_init 0 = .ok (.aload_n 0, 1) := by decide +kernel
theorem dX3_init_1 : decode cX3_init 1 = .ok (.invokespecial 3, 3) := by decide +kernel
theorem dX3_init_4 : decode cX3_init 4 = .ok (.aload_n 0, 1) := by decide +kernel
theorem dX3_init_5 : decode cX3_init 5 = .ok (.iconst (-1), 1) := by decide +kernel
theorem dX3_init_6 : decode cX3_init 6 = .ok (.putfield 9, 3) := by decide +kernel
theorem dX3_init_9 : decode cX3_init 9 = .ok (.aload_n 0, 1) := by decide +kernel
theorem dX3_init_10 : decode cX3_init 10 = .ok (.iload_n 1, 1) := by decide +kernel
theorem dX3_init_11 : decode cX3_init 11 = .ok (.putfield 15, 3) := by decide +kernel
theorem dX3_init_14 : decode cX3_init 14 = .ok (.aload_n 0, 1) := by decide +kernel
theorem dX3_init_15 : decode cX3_init 15 = .ok (.iload_n 2, 1) := by decide +kernel
theorem dX3_init_16 : decode cX3_init 16 = .ok (.putfield 18, 3) := by decide +kernel
theorem dX3_init_19 : decode cX3_init 19 = .ok (.return_, 1) := by decide +kernel
theorem dX4_init_0 : decode cX4_init 0 = .ok (.aload_n 0, 1) := by decide +kernel
theorem dX4_init_1 : decode cX4_init 1 = .ok (.invokespecial 1, 3) := by decide +kernel
theorem dX4_init_4 : decode cX4_init 4 = .ok (.aload_n 0, 1) := by decide +kernel
theorem dX4_init_5 : decode cX4_init 5 = .ok (.iconst 5, 1) := by decide +kernel
theorem dX4_init_6 : decode cX4_init 6 = .ok (.newarray .boolean, 2) := by decide +kernel
theorem dX4_init_8 : decode cX4_init 8 = .ok (.dup, 1) := by decide +kernel
theorem dX4_init_9 : decode cX4_init 9 = .ok (.iconst 0, 1) := by decide +kernel
theorem dX4_init_10 : decode cX4_init 10 = .ok (.iconst 1, 1) := by decide +kernel
theorem dX4_init_11 : decode cX4_init 11 = .ok (.bastore, 1) := by decide +kernel
theorem dX4_init_12 : decode cX4_init 12 = .ok (.dup, 1) := by decide +kernel
theorem dX4_init_13 : decode cX4_init 13 = .ok (.iconst 1, 1) := by decide +kernel
theorem dX4_init_14 : decode cX4_init 14 = .ok (.iconst 1, 1) := by decide +kernel
theorem dX4_init_15 : decode cX4_init 15 = .ok (.bastore, 1) := by decide +kernel
theorem dX4_init_16 : decode cX4_init 16 = .ok (.dup, 1) := by decide +kernel
theorem dX4_init_17 : decode cX4_init 17 = .ok (.iconst 2, 1) := by decide +kernel
theorem dX4_init_18 : decode cX4_init 18 = .ok (.iconst 1, 1) := by decide +kernel
theorem dX4_init_19 : decode cX4_init 19 = .ok (.bastore, 1) := by decide +kernel
theorem dX4_init_20 : decode cX4_init 20 = .ok (.dup, 1) := by decide +kernel
theorem dX4_init_21 : decode cX4_init 21 = .ok (.iconst 3, 1) := by decide +kernel
theorem dX4_init_22 : decode cX4_init 22 = .ok (.iconst 1, 1) := by decide +kernel
theorem dX4_init_23 : decode cX4_init 23 = .ok (.bastore, 1) := by decide +kernel
theorem dX4_init_24 : decode cX4_init 24 = .ok (.dup, 1) := by decide +kernel
theorem dX4_init_25 : decode cX4_init 25 = .ok (.iconst 4, 1) := by decide +kernel
theorem dX4_init_26 : decode cX4_init 26 = .ok (.iconst 1, 1) := by decide +kernel
theorem dX4_init_27 : decode cX4_init 27 = .ok (.bastore, 1) := by decide +kernel
theorem dX4_init_28 : decode cX4_init 28 = .ok (.putfield 7, 3) := by decide +kernel
theorem dX4_init_31 : decode cX4_init 31 = .ok (.aload_n 0, 1) := by decide +kernel
theorem dX4_init_32 : decode cX4_init 32 = .ok (.iconst 0, 1) := by decide +kernel
theorem dX4_init_33 : decode cX4_init 33 = .ok (.putfield 13, 3) := by decide +kernel
theorem dX4_init_36 : decode cX4_init 36 = .ok (.return_, 1) := by decide +kernel
set_option maxRecDepth 20000 in
theorem ggX5_init_X1_init : GoodIn wsX5_init wsX1_init := goodIn_r _ [25, 26, 2, 3, 27, 28, 29, 30, 31, 32, 33, 56, 57, 58, 59, 60, 61] (by decide +kernel) (by decide +kernel)
set_option maxRecDepth 20000 in
theorem gX5_init_X1_init_n52 : GoodIn wsX5_init (wsX1_init) := ggX5_init_X1_init
set_option maxRecDepth 20000 in
theorem ggX5_init_X3_init : GoodIn wsX5_init wsX3_init := goodIn_r _ [36, 37, 2, 3, 38, 39, 40, 62, 63, 64] (by decide +kernel) (by decide +kernel)
set_option maxRecDepth 20000 in
theorem gX5_init_X3_init : GoodIn wsX5_init (wsX3_init) := ggX5_init_X3_init
set_option maxRecDepth 20000 in
theorem ggX5_init_X4_init : GoodIn wsX5_init wsX4_init := goodIn_r _ [42, 43, 2, 3, 44, 45, 46, 65, 66] (by decide +kernel) (by decide +kernel)
set_option maxRecDepth 20000 in
theorem gX5_init_X4_init_n56 : GoodIn wsX5_init (wsX4_init) := ggX5_init_X4_init
end
section
theorem dX5_init_0 : decode cX5_init 0 = .ok (.aload_n 0, 1) := by decide +kernel
theorem dX5_init_1 : decode cX5_init 1 = .ok (.invokespecial 1, 3) := by decide +kernel
theorem dX5_init_4 : decode cX5_init 4 = .ok (.aload_n 0, 1) := by decide +kernel
theorem dX5_init_5 : decode cX5_init 5 = .ok (.iconst 5, 1) := by decide +kernel
theorem dX5_init_6 : decode cX5_init 6 = .ok (.anewarray 9, 3) := by decide +kernel
theorem dX5_init_9 : decode cX5_init 9 = .ok (.putfield 11, 3) := by decide +kernel
theorem dX5_init_12 : decode cX5_init 12 = .ok (.aload_n 0, 1) := by decide +kernel
theorem dX5_init_13 : decode cX5_init 13 = .ok (.bipush 6, 2) := by decide +kernel
theorem dX5_init_15 : decode cX5_init 15 = .ok (.anewarray 15, 3) := by decide +kernel
theorem dX5_init_18 : decode cX5_init 18 = .ok (.putfield 17, 3) := by decide +kernel
theorem dX5_init_21 : decode cX5_init 21 = .ok (.aload_n 0, 1) := by decide +kernel
theorem dX5_init_22 : decode cX5_init 22 = .ok (.iconst 3, 1) := by decide +kernel
theorem dX5_init_23 : decode cX5_init 23 = .ok (.anewarray 21, 3) := by decide +kernel
theorem dX5_init_26 : decode cX5_init 26 = .ok (.putfield 23, 3) := by decide +kernel
theorem dX5_init_29 : decode cX5_init 29 = .ok (.aload_n 0, 1) := by decide +kernel
theorem dX5_init_30 : decode cX5_init 30 = .ok (.bipush 15, 2) := by decide +kernel
theorem dX5_init_32 : decode cX5_init 32 = .ok (.anewarray 27, 3) := by decide +kernel
theorem dX5_init_35 : decode cX5_init 35 = .ok (.putfield 29, 3) := by decide +kernel
theorem dX5_init_38 : decode cX5_init 38 = .ok (.aload_n 0, 1) := by decide +kernel
theorem dX5_init_39 : decode cX5_init 39 = .ok (.bipush 60, 2) := by decide +kernel
theorem dX5_init_41 : decode cX5_init 41 = .ok (.anewarray 33, 3) := by decide +kernel
theorem dX5_init_44 : decode cX5_init 44 = .ok (.putfield 35, 3) := by decide +kernel
theorem dX5_init_47 : decode cX5_init 47 = .ok (.aload_n 0, 1) := by decide +kernel
theorem dX5_init_48 : decode cX5_init 48 = .ok (.bipush 6, 2) := by decide +kernel
theorem dX5_init_50 : decode cX5_init 50 = .ok (.anewarray 27, 3) := by decide +kernel
theorem dX5_init_53 : decode cX5_init 53 = .ok (.putfield 39, 3) := by decide +kernel
theorem dX5_init_56 : decode cX5_init 56 = .ok (.aload_n 0, 1) := by decide +kernel
theorem dX5_init_57 : decode cX5_init 57 = .ok (.iconst 0, 1) := by decide +kernel
theorem dX5_init_58 : decode cX5_init 58 = .ok (.putfield 42, 3) := by decide +kernel
theorem dX5_init_61 : decode cX5_init 61 = .ok (.aload_n 0, 1) := by decide +kernel
theorem dX5_init_62 : decode cX5_init 62 = .ok (.iconst 0, 1) := by decide +kernel
theorem dX5_init_63 : decode cX5_init 63 = .ok (.putfield 46, 3) := by decide +kernel
theorem dX5_init_66 : decode cX5_init 66 = .ok (.aload_n 0, 1) := by decide +kernel
theorem dX5_init_67 : decode cX5_init 67 = .ok (.iconst 0, 1) := by decide +kernel
theorem dX5_init_68 : decode cX5_init 68 = .ok (.putfield 49, 3) := by decide +kernel
theorem dX5_init_71 : decode cX5_init 71 = .ok (.iconst 0, 1) := by decide +kernel
theorem dX5_init_72 : decode cX5_init 72 = .ok (.istore_n 1, 1) := by decide +kernel
theorem dX5_init_73 : decode cX5_init 73 = .ok (.iload_n 1, 1) := by decide +kernel
theorem dX5_init_74 : decode cX5_init 74 = .ok (.iconst 5, 1) := by decide +kernel
theorem dX5_init_75 : decode cX5_init 75 = .ok (.if_icmp .ge 22, 3) := by decide +kernel
theorem dX5_init_78 : decode cX5_init 78 = .ok (.aload_n 0, 1) := by decide +kernel
theorem dX5_init_79 : decode cX5_init 79 = .ok (.getfield 11, 3) := by decide +kernel
theorem dX5_init_82 : decode cX5_init 82 = .ok (.iload_n 1, 1) := by decide +kernel
theorem dX5_init_83 : decode cX5_init 83 = .ok (.new 9, 3) := by decide +kernel
theorem dX5_init_86 : decode cX5_init 86 = .ok (.dup, 1) := by decide +kernel
theorem dX5_init_87 : decode cX5_init 87 = .ok (.invokespecial 52, 3) := by decide +kernel
theorem dX5_init_90 : decode cX5_init 90 = .ok (.aastore, 1) := by decide +kernel
theorem dX5_init_91 : decode cX5_init 91 = .ok (.iinc 1 1, 3) := by decide +kernel
theorem dX5_init_94 : decode cX5_init 94 = .ok (.goto (-21), 3) := by decide +kernel
theorem dX5_init_97 : decode cX5_init 97 = .ok (.iconst 0, 1) := by decide +kernel
theorem dX5_init_98 : decode cX5_init 98 = .ok (.istore_n 1, 1) := by decide +kernel
theorem dX5_init_99 : decode cX5_init 99 = .ok (.iload_n 1, 1) := by decide +kernel
theorem dX5_init_100 : decode cX5_init 100 = .ok (.bipush 6, 2) := by decide +kernel
theorem dX5_init_102 : decode cX5_init 102 = .ok (.if_icmp .ge 26, 3) := by decide +kernel
theorem dX5_init_105 : decode cX5_init 105 = .ok (.aload_n 0, 1) := by decide +kernel
theorem dX5_init_106 : decode cX5_init 106 = .ok (.getfield 17, 3) := by decide +kernel
theorem dX5_init_109 : decode cX5_init 109 = .ok (.iload_n 1, 1) := by decide +kernel
theorem dX5_init_110 : decode cX5_init 110 = .ok (.new 15, 3) := by decide +kernel
theorem dX5_init_113 : decode cX5_init 113 = .ok (.dup, 1) := by decide +kernel
theorem dX5_init_114 : decode cX5_init 114 = .ok (.iload_n 1, 1) := by decide +kernel
theorem dX5_init_115 : decode cX5_init 115 = .ok (.iload_n 1, 1) := by decide +kernel
theorem dX5_init_116 : decode cX5_init 116 = .ok (.iconst 2, 1) := by decide +kernel
theorem dX5_init_117 : decode cX5_init 117 = .ok (.iadd, 1) := by decide +kernel
theorem dX5_init_118 : decode cX5_init 118 = .ok (.invokespecial 53, 3) := by decide +kernel
theorem dX5_init_121 : decode cX5_init 121 = .ok (.aastore, 1) := by decide +kernel
theorem dX5_init_122 : decode cX5_init 122 = .ok (.iinc 1 1, 3) := by decide +kernel
theorem dX5_init_125 : decode cX5_init 125 = .ok (.goto (-26), 3) := by decide +kernel
theorem dX5_init_128 : decode cX5_init 128 = .ok (.iconst 0, 1) := by decide +kernel
theorem dX5_init_129 : decode cX5_init 129 = .ok (.istore_n 1, 1) := by decide +kernel
theorem dX5_init_130 : decode cX5_init 130 = .ok (.iload_n 1, 1) := by decide +kernel
theorem dX5_init_131 : decode cX5_init 131 = .ok (.iconst 3, 1) := by decide +kernel
theorem dX5_init_132 : decode cX5_init 132 = .ok (.if_icmp .ge 22, 3) := by decide +kernel
theorem dX5_init_135 : decode cX5_init 135 = .ok (.aload_n 0, 1) := by decide +kernel
theorem dX5_init_136 : decode cX5_init 136 = .ok (.getfield 23, 3) := by decide +kernel
theorem dX5_init_139 : decode cX5_init 139 = .ok (.iload_n 1, 1) := by decide +kernel
theorem dX5_init_140 : decode cX5_init 140 = .ok (.new 21, 3) := by decide +kernel
theorem dX5_init_143 : decode cX5_init 143 = .ok (.dup, 1) := by decide +kernel
theorem dX5_init_144 : decode cX5_init 144 = .ok (.invokespecial 56, 3) := by decide +kernel
theorem dX5_init_147 : decode cX5_init 147 = .ok (.aastore, 1) := by decide +kernel
theorem dX5_init_148 : decode cX5_init 148 = .ok (.iinc 1 1, 3) := by decide +kernel
theorem dX5_init_151 : decode cX5_init 151 = .ok (.goto (-21), 3) := by decide +kernel
theorem dX5_init_154 : decode cX5_init 154 = .ok (.return_, 1) := by decide +kernel
set_option maxRecDepth 20000 in
theorem ggX5_setGame_X5_checkNumber : GoodIn wsX5_setGame wsX5_checkNumber := goodIn_ca (goodIn_r _ [8, 9, 10] (by decide +kernel) (by decide +kernel)) (goodIn_sub (fun _ h => List.mem_cons_of_mem _ (List.mem_append_left _ (List.mem_append_right _ h))) (by decide +kernel))
set_option maxRecDepth 20000 in
theorem gX5_setGame_X5_checkNumber : GoodIn wsX5_setGame (va_wsS RX5 57 yX5_checkNumber wsX5_checkNumber) := goodIn_app (goodIn_of _ (by decide +kernel)) ggX5_setGame_X5_checkNumber
set_option maxRecDepth 20000 in
theorem ggX5_setGame_X5_checkRange : GoodIn wsX5_setGame wsX5_checkRange := goodIn_ca (goodIn_r _ [13, 14, 15] (by decide +kernel) (by decide +kernel)) (goodIn_sub (fun _ h => List.mem_cons_of_mem _ (List.mem_append_right _ h)) (by decide +kernel))
set_option maxRecDepth 20000 in
theorem gX5_setGame_X5_checkRange : GoodIn wsX5_setGame (va_wsS RX5 60 yX5_checkRange wsX5_checkRange) := goodIn_app (goodIn_of _ (by decide +kernel)) ggX5_setGame_X5_checkRange
theorem dX5_setGame_0 : decode cX5_setGame 0 = .ok (.iload_n 1, 1) := by decide +kernel
theorem dX5_setGame_1 : decode cX5_setGame 1 = .ok (.iconst 5, 1) := by decide +kernel
theorem dX5_setGame_2 : decode cX5_setGame 2 = .ok (.invokestatic 57, 3) := by decide +kernel
theorem dX5_setGame_5 : decode cX5_setGame 5 = .ok (.iload_n 2, 1) := by decide +kernel
theorem dX5_setGame_6 : decode cX5_setGame 6 = .ok (.iconst 1, 1) := by decide +kernel
theorem dX5_setGame_7 : decode cX5_setGame 7 = .ok (.bipush 8, 2) := by decide +kernel
theorem dX5_setGame_9 : decode cX5_setGame 9 = .ok (.invokestatic 60, 3) := by decide +kernel
theorem dX5_setGame_12 : decode cX5_setGame 12 = .ok (.iload_n 3, 1) := by decide +kernel
theorem dX5_setGame_13 : decode cX5_setGame 13 = .ok (.iload_n 2, 1) := by decide +kernel
theorem dX5_setGame_14 : decode cX5_setGame 14 = .ok (.bipush 8, 2) := by decide +kernel
theorem dX5_setGame_16 : decode cX5_setGame 16 = .ok (.invokestatic 60, 3) := by decide +kernel
theorem dX5_setGame_19 : decode cX5_setGame 19 = .ok (.iload 4, 2) := by decide +kernel
theorem dX5_setGame_21 : decode cX5_setGame 21 = .ok (.iconst 1, 1) := by decide +kernel
theorem dX5_setGame_22 : decode cX5_setGame 22 = .ok (.bipush 60, 2) := by decide +kernel
theorem dX5_setGame_24 : decode cX5_setGame 24 = .ok (.invokestatic 60, 3) := by decide +kernel
theorem dX5_setGame_27 : decode cX5_setGame 27 = .ok (.aload_n 0, 1) := by decide +kernel
theorem dX5_setGame_28 : decode cX5_setGame 28 = .ok (.getfield 11, 3) := by decide +kernel
theorem dX5_setGame_31 : decode cX5_setGame 31 = .ok (.iload_n 1, 1) := by decide +kernel
theorem dX5_setGame_32 : decode cX5_setGame 32 = .ok (.aaload, 1) := by decide +kernel
theorem dX5_setGame_33 : decode cX5_setGame 33 = .ok (.astore 5, 2) := by decide +kernel
theorem dX5_setGame_35 : decode cX5_setGame 35 = .ok (.aload 5, 2) := by decide +kernel
theorem dX5_setGame_37 : decode cX5_setGame 37 = .ok (.iload_n 2, 1) := by decide +kernel
theorem dX5_setGame_38 : decode cX5_setGame 38 = .ok (.putfield 64, 3) := by decide +kernel
theorem dX5_setGame_41 : decode cX5_setGame 41 = .ok (.aload 5, 2) := by decide +kernel
theorem dX5_setGame_43 : decode cX5_setGame 43 = .ok (.iload_n 3, 1) := by decide +kernel
theorem dX5_setGame_44 : decode cX5_setGame 44 = .ok (.putfield 67, 3) := by decide +kernel
theorem dX5_setGame_47 : decode cX5_setGame 47 = .ok (.aload 5, 2) := by decide +kernel
theorem dX5_setGame_49 : decode cX5_setGame 49 = .ok (.iload 4, 2) := by decide +kernel
theorem dX5_setGame_51 : decode cX5_setGame 51 = .ok (.putfield 70, 3) := by decide +kernel
theorem dX5_setGame_54 : decode cX5_setGame 54 = .ok (.return_, 1) := by decide +kernel
set_option maxRecDepth 20000 in
theorem ggX5_setParts_X5_checkNumber : GoodIn wsX5_setParts wsX5_checkNumber := goodIn_ca (goodIn_r _ [7, 8, 9] (by decide +kernel) (by decide +kernel)) (goodIn_sub (fun _ h => List.mem_cons_of_mem _ (List.mem_append_left _ (List.mem_append_right _ h))) (by decide +kernel))
set_option maxRecDepth 20000 in
theorem gX5_setParts_X5_checkNumber : GoodIn wsX5_setParts (va_wsS RX5 57 yX5_checkNumber wsX5_checkNumber) := goodIn_app (goodIn_of _ (by decide +kernel)) ggX5_setParts_X5_checkNumber
set_option maxRecDepth 20000 in
theorem ggX5_setParts_X5_checkRange : GoodIn wsX5_setParts wsX5_checkRange := goodIn_ca (goodIn_r _ [12, 13, 14] (by decide +kernel) (by decide +kernel)) (goodIn_sub (fun _ h => List.mem_cons_of_mem _ (List.mem_append_right _ h)) (by decide +kernel))
set_option maxRecDepth 20000 in
theorem gX5_setParts_X5_checkRange : GoodIn wsX5_setParts (va_wsS RX5 60 yX5_checkRange wsX5_checkRange) := goodIn_app (goodIn_of _ (by decide +kernel)) ggX5_setParts_X5_checkRange
theorem dX5_setParts_0 : decode cX5_setParts 0 = .ok (.iload_n 1, 1) := by decide +kernel
theorem dX5_setParts_1 : decode cX5_setParts 1 = .ok (.iconst 5, 1) := by decide +kernel
theorem dX5_setParts_2 : decode cX5_setParts 2 = .ok (.invokestatic 57, 3) := by decide +kernel
theorem dX5_setParts_5 : decode cX5_setParts 5 = .ok (.iload_n 2, 1) := by decide +kernel
theorem dX5_setParts_6 : decode cX5_setParts 6 = .ok (.iconst 4, 1) := by decide +kernel
theorem dX5_setParts_7 : decode cX5_setParts 7 = .ok (.invokestatic 57, 3) := by decide +kernel
theorem dX5_setParts_10 : decode cX5_setParts 10 = .ok (.iload_n 3, 1) := by decide +kernel
theorem dX5_setParts_11 : decode cX5_setParts 11 = .ok (.iconst 0, 1) := by decide +kernel
theorem dX5_setParts_12 : decode cX5_setParts 12 = .ok (.bipush 20, 2) := by decide +kernel
theorem dX5_setParts_14 : decode cX5_setParts 14 = .ok (.invokestatic 60, 3) := by decide +kernel
theorem dX5_setParts_17 : decode cX5_setParts 17 = .ok (.iload 4, 2) := by decide +kernel
theorem dX5_setParts_19 : decode cX5_setParts 19 = .ok (.iconst 0, 1) := by decide +kernel
theorem dX5_setParts_20 : decode cX5_setParts 20 = .ok (.iload_n 3, 1) := by decide +kernel
theorem dX5_setParts_21 : decode cX5_setParts 21 = .ok (.invokestatic 60, 3) := by decide +kernel
theorem dX5_setParts_24 : decode cX5_setParts 24 = .ok (.aload_n 0, 1) := by decide +kernel
theorem dX5_setParts_25 : decode cX5_setParts 25 = .ok (.getfield 11, 3) := by decide +kernel
theorem dX5_setParts_28 : decode cX5_setParts 28 = .ok (.iload_n 1, 1) := by decide +kernel
theorem dX5_setParts_29 : decode cX5_setParts 29 = .ok (.aaload, 1) := by decide +kernel
theorem dX5_setParts_30 : decode cX5_setParts 30 = .ok (.astore 5, 2) := by decide +kernel
theorem dX5_setParts_32 : decode cX5_setParts 32 = .ok (.aload 5, 2) := by decide +kernel
theorem dX5_setParts_34 : decode cX5_setParts 34 = .ok (.getfield 73, 3) := by decide +kernel
theorem dX5_setParts_37 : decode cX5_setParts 37 = .ok (.iload_n 2, 1) := by decide +kernel
theorem dX5_setParts_38 : decode cX5_setParts 38 = .ok (.iload_n 3, 1) := by decide +kernel
theorem dX5_setParts_39 : decode cX5_setParts 39 = .ok (.iastore, 1) := by decide +kernel
theorem dX5_setParts_40 : decode cX5_setParts 40 = .ok (.aload 5, 2) := by decide +kernel
theorem dX5_setParts_42 : decode cX5_setParts 42 = .ok (.getfield 77, 3) := by decide +kernel
theorem dX5_setParts_45 : decode cX5_setParts 45 = .ok (.iload_n 2, 1) := by decide +kernel
theorem dX5_setParts_46 : decode cX5_setParts 46 = .ok (.iload 4, 2) := by decide +kernel
theorem dX5_setParts_48 : decode cX5_setParts 48 = .ok (.iastore, 1) := by decide +kernel
theorem dX5_setParts_49 : decode cX5_setParts 49 = .ok (.return_, 1) := by decide +kernel
set_option maxRecDepth 20000 in
theorem ggX5_setSeats_X5_checkNumber : GoodIn wsX5_setSeats wsX5_checkNumber := goodIn_ca (goodIn_r _ [9, 10, 11] (by decide +kernel) (by decide +kernel)) (goodIn_sub (fun _ h => List.mem_cons_of_mem _ (List.mem_append_left _ (List.mem_append_right _ h))) (by decide +kernel))
set_option maxRecDepth 20000 in
theorem gX5_setSeats_X5_checkNumber : GoodIn wsX5_setSeats (va_wsS RX5 57 yX5_checkNumber wsX5_checkNumber) := goodIn_app (goodIn_of _ (by decide +kernel)) ggX5_setSeats_X5_checkNumber
set_option maxRecDepth 20000 in
theorem ggX5_setSeats_X5_checkRange : GoodIn wsX5_setSeats wsX5_checkRange := goodIn_ca (goodIn_r _ [14, 15, 16] (by decide +kernel) (by decide +kernel)) (goodIn_sub (fun _ h => List.mem_cons_of_mem _ (List.mem_append_right _ h)) (by decide +kernel))
set_option maxRecDepth 20000 in
theorem gX5_setSeats_X5_checkRange : GoodIn wsX5_setSeats (va_wsS RX5 60 yX5_checkRange wsX5_checkRange) := goodIn_app (goodIn_of _ (by decide +kernel)) ggX5_setSeats_X5_checkRange
theorem dX5_setSeats_0 : decode cX5_setSeats 0 = .ok (.iload_n 1, 1) := by decide +kernel
theorem dX5_setSeats_1 : decode cX5_setSeats 1 = .ok (.bipush 6, 2) := by decide +kernel
theorem dX5_setSeats_3 : decode cX5_setSeats 3 = .ok (.invokestatic 57, 3) := by decide +kernel
theorem dX5_setSeats_6 : decode cX5_setSeats 6 = .ok (.iload_n 2, 1) := by decide +kernel
theorem dX5_setSeats_7 : decode cX5_setSeats 7 = .ok (.iconst 1, 1) := by decide +kernel
theorem dX5_setSeats_8 : decode cX5_setSeats 8 = .ok (.bipush 8, 2) := by decide +kernel
theorem dX5_setSeats_10 : decode cX5_setSeats 10 = .ok (.invokestatic 60, 3) := by decide +kernel
theorem dX5_setSeats_13 : decode cX5_setSeats 13 = .ok (.aload_n 0, 1) := by decide +kernel
theorem dX5_setSeats_14 : decode cX5_setSeats 14 = .ok (.getfield 17, 3) := by decide +kernel
theorem dX5_setSeats_17 : decode cX5_setSeats 17 = .ok (.iload_n 1, 1) := by decide +kernel
theorem dX5_setSeats_18 : decode cX5_setSeats 18 = .ok (.aaload, 1) := by decide +kernel
theorem dX5_setSeats_19 : decode cX5_setSeats 19 = .ok (.astore_n 3, 1) := by decide +kernel
theorem dX5_setSeats_20 : decode cX5_setSeats 20 = .ok (.aload_n 3, 1) := by decide +kernel
theorem dX5_setSeats_21 : decode cX5_setSeats 21 = .ok (.getfield 80, 3) := by decide +kernel
theorem dX5_setSeats_24 : decode cX5_setSeats 24 = .ok (.iconst (-1), 1) := by decide +kernel
theorem dX5_setSeats_25 : decode cX5_setSeats 25 = .ok (.if_icmp .eq 13, 3) := by decide +kernel
theorem dX5_setSeats_28 : decode cX5_setSeats 28 = .ok (.new 83, 3) := by decide +kernel
theorem dX5_setSeats_31 : decode cX5_setSeats 31 = .ok (.dup, 1) := by decide +kernel
theorem dX5_setSeats_32 : decode cX5_setSeats 32 = .ok (.ldc 85, 2) := by decide +kernel
theorem dX5_setSeats_34 : decode cX5_setSeats 34 = .ok (.invokespecial 87, 3) := by decide +kernel
theorem dX5_setSeats_37 : decode cX5_setSeats 37 = .ok (.athrow, 1) := by decide +kernel
theorem dX5_setSeats_38 : decode cX5_setSeats 38 = .ok (.aload_n 3, 1) := by decide +kernel
theorem dX5_setSeats_39 : decode cX5_setSeats 39 = .ok (.getfield 90, 3) := by decide +kernel
theorem dX5_setSeats_42 : decode cX5_setSeats 42 = .ok (.istore 4, 2) := by decide +kernel
theorem dX5_setSeats_44 : decode cX5_setSeats 44 = .ok (.aload_n 3, 1) := by decide +kernel
theorem dX5_setSeats_45 : decode cX5_setSeats 45 = .ok (.iload_n 2, 1) := by decide +kernel
theorem dX5_setSeats_46 : decode cX5_setSeats 46 = .ok (.putfield 90, 3) := by decide +kernel
theorem dX5_setSeats_49 : decode cX5_setSeats 49 = .ok (.iload 4, 2) := by decide +kernel
theorem dX5_setSeats_51 : decode cX5_setSeats 51 = .ok (.ireturn, 1) := by decide +kernel
set_option maxRecDepth 20000 in
theorem ggX5_teach_X5_checkNumber : GoodIn wsX5_teach wsX5_checkNumber := goodIn_ca (goodIn_r _ [6, 7, 8] (by decide +kernel) (by decide +kernel)) (goodIn_sub (fun _ h => List.mem_cons_of_mem _ (List.mem_append_right _ h)) (by decide +kernel))
set_option maxRecDepth 20000 in
theorem gX5_teach_X5_checkNumber : GoodIn wsX5_teach (va_wsS RX5 57 yX5_checkNumber wsX5_checkNumber) := goodIn_app (goodIn_of _ (by decide +kernel)) ggX5_teach_X5_checkNumber
theorem dX5_teach_0 : decode cX5_teach 0 = .ok (.iload_n 1, 1) := by decide +kernel
theorem dX5_teach_1 : decode cX5_teach 1 = .ok (.iconst 3, 1) := by decide +kernel
theorem dX5_teach_2 : decode cX5_teach 2 = .ok (.invokestatic 57, 3) := by decide +kernel
theorem dX5_teach_5 : decode cX5_teach 5 = .ok (.iload_n 2, 1) := by decide +kernel
theorem dX5_teach_6 : decode cX5_teach 6 = .ok (.iconst 5, 1) := by decide +kernel
theorem dX5_teach_7 : decode cX5_teach 7 = .ok (.invokestatic 57, 3) := by decide +kernel
theorem dX5_teach_10 : decode cX5_teach 10 = .ok (.aload_n 0, 1) := by decide +kernel
theorem dX5_teach_11 : decode cX5_teach 11 = .ok (.getfield 23, 3) := by decide +kernel
theorem dX5_teach_14 : decode cX5_teach 14 = .ok (.iload_n 1, 1) := by decide +kernel
theorem dX5_teach_15 : decode cX5_teach 15 = .ok (.aaload, 1) := by decide +kernel
theorem dX5_teach_16 : decode cX5_teach 16 = .ok (.astore 4, 2) := by decide +kernel
theorem dX5_teach_18 : decode cX5_teach 18 = .ok (.aload 4, 2) := by decide +kernel
theorem dX5_teach_20 : decode cX5_teach 20 = .ok (.getfield 93, 3) := by decide +kernel
theorem dX5_teach_23 : decode cX5_teach 23 = .ok (.iload_n 2, 1) := by decide +kernel
theorem dX5_teach_24 : decode cX5_teach 24 = .ok (.baload, 1) := by decide +kernel
theorem dX5_teach_25 : decode cX5_teach 25 = .ok (.istore 5, 2) := by decide +kernel
theorem dX5_teach_27 : decode cX5_teach 27 = .ok (.aload 4, 2) := by decide +kernel
theorem dX5_teach_29 : decode cX5_teach 29 = .ok (.getfield 93, 3) := by decide +kernel
theorem dX5_teach_32 : decode cX5_teach 32 = .ok (.iload_n 2, 1) := by decide +kernel
theorem dX5_teach_33 : decode cX5_teach 33 = .ok (.iload_n 3, 1) := by decide +kernel
theorem dX5_teach_34 : decode cX5_teach 34 = .ok (.bastore, 1) := by decide +kernel
theorem dX5_teach_35 : decode cX5_teach 35 = .ok (.iload 5, 2) := by decide +kernel
theorem dX5_teach_37 : decode cX5_teach 37 = .ok (.ireturn, 1) := by decide +kernel
set_option maxRecDepth 20000 in
theorem ggX5_buy_X5_checkNumber : GoodIn wsX5_buy wsX5_checkNumber := goodIn_ca (goodIn_r _ [12, 13, 14] (by decide +kernel) (by decide +kernel)) (goodIn_sub (fun _ h => List.mem_cons_of_mem _ (List.mem_append_right _ h)) (by decide +kernel))
set_option maxRecDepth 20000 in
theorem gX5_buy_X5_checkNumber : GoodIn wsX5_buy (va_wsS RX5 57 yX5_checkNumber wsX5_checkNumber) := goodIn_app (goodIn_of _ (by decide +kernel)) ggX5_buy_X5_checkNumber
set_option maxRecDepth 20000 in
theorem ggX5_buy_X0_init : GoodIn wsX5_buy wsX0_init := goodIn_r _ [17, 18, 19, 20, 21, 22, 23, 24, 25, 26, 27, 28, 29, 30, 31, 41, 42, 43, 44, 45, 46, 47, 48, 49, 50] (by decide +kernel) (by decide +kernel)
set_option maxRecDepth 20000 in
theorem gX5_buy_X0_init : GoodIn wsX5_buy (wsX0_init) := ggX5_buy_X0_init
theorem dX5_buy_0 : decode cX5_buy 0 = .ok (.iload_n 1, 1) := by decide +kernel
theorem dX5_buy_1 : decode cX5_buy 1 = .ok (.iconst 5, 1) := by decide +kernel
theorem dX5_buy_2 : decode cX5_buy 2 = .ok (.invokestatic 57, 3) := by decide +kernel
theorem dX5_buy_5 : decode cX5_buy 5 = .ok (.aload_n 0, 1) := by decide +kernel
theorem dX5_buy_6 : decode cX5_buy 6 = .ok (.getfield 42, 3) := by decide +kernel
theorem dX5_buy_9 : decode cX5_buy 9 = .ok (.bipush 15, 2) := by decide +kernel
theorem dX5_buy_11 : decode cX5_buy 11 = .ok (.if_icmp .lt 13, 3) := by decide +kernel
theorem dX5_buy_14 : decode cX5_buy 14 = .ok (.new 83, 3) := by decide +kernel
theorem dX5_buy_17 : decode cX5_buy 17 = .ok (.dup, 1) := by decide +kernel
theorem dX5_buy_18 : decode cX5_buy 18 = .ok (.ldc 97, 2) := by decide +kernel
theorem dX5_buy_20 : decode cX5_buy 20 = .ok (.invokespecial 87, 3) := by decide +kernel
theorem dX5_buy_23 : decode cX5_buy 23 = .ok (.athrow, 1) := by decide +kernel
theorem dX5_buy_24 : decode cX5_buy 24 = .ok (.aload_n 0, 1) := by decide +kernel
theorem dX5_buy_25 : decode cX5_buy 25 = .ok (.getfield 42, 3) := by decide +kernel
theorem dX5_buy_28 : decode cX5_buy 28 = .ok (.istore_n 2, 1) := by decide +kernel
theorem dX5_buy_29 : decode cX5_buy 29 = .ok (.aload_n 0, 1) := by decide +kernel
theorem dX5_buy_30 : decode cX5_buy 30 = .ok (.getfield 29, 3) := by decide +kernel
theorem dX5_buy_33 : decode cX5_buy 33 = .ok (.iload_n 2, 1) := by decide +kernel
theorem dX5_buy_34 : decode cX5_buy 34 = .ok (.new 27, 3) := by decide +kernel
theorem dX5_buy_37 : decode cX5_buy 37 = .ok (.dup, 1) := by decide +kernel
theorem dX5_buy_38 : decode cX5_buy 38 = .ok (.iload_n 2, 1) := by decide +kernel
theorem dX5_buy_39 : decode cX5_buy 39 = .ok (.aload_n 0, 1) := by decide +kernel
theorem dX5_buy_40 : decode cX5_buy 40 = .ok (.getfield 11, 3) := by decide +kernel
theorem dX5_buy_43 : decode cX5_buy 43 = .ok (.iload_n 1, 1) := by decide +kernel
theorem dX5_buy_44 : decode cX5_buy 44 = .ok (.aaload, 1) := by decide +kernel
theorem dX5_buy_45 : decode cX5_buy 45 = .ok (.invokespecial 99, 3) := by decide +kernel
theorem dX5_buy_48 : decode cX5_buy 48 = .ok (.aastore, 1) := by decide +kernel
theorem dX5_buy_49 : decode cX5_buy 49 = .ok (.aload_n 0, 1) := by decide +kernel
theorem dX5_buy_50 : decode cX5_buy 50 = .ok (.iload_n 2, 1) := by decide +kernel
theorem dX5_buy_51 : decode cX5_buy 51 = .ok (.iconst 1, 1) := by decide +kernel
theorem dX5_buy_52 : decode cX5_buy 52 = .ok (.iadd, 1) := by decide +kernel
theorem dX5_buy_53 : decode cX5_buy 53 = .ok (.putfield 42, 3) := by decide +kernel
theorem dX5_buy_56 : decode cX5_buy 56 = .ok (.iload_n 2, 1) := by decide +kernel
theorem dX5_buy_57 : decode cX5_buy 57 = .ok (.ireturn, 1) := by decide +kernel
set_option maxRecDepth 20000 in
theorem ggX5_count_X5_copyNumbered : GoodIn wsX5_count wsX5_copyNumbered := goodIn_ca (goodIn_r _ [9, 10, 11, 12, 25, 26, 27, 28, 29, 30, 31, 32, 33] (by decide +kernel) (by decide +kernel)) (goodIn_sub (fun _ h => List.mem_cons_of_mem _ (List.mem_append_left _ (List.mem_append_right _ h))) (by decide +kernel))
set_option maxRecDepth 20000 in
theorem gX5_count_X5_copyNumbered : GoodIn wsX5_count (wsV RX5 102 RX5 yX5_copyNumbered wsX5_copyNumbered) := goodIn_app (goodIn_of _ (by decide +kernel)) ggX5_count_X5_copyNumbered
set_option maxRecDepth 20000 in
theorem ggX5_count_X5_checkNumber : GoodIn wsX5_count wsX5_checkNumber := goodIn_ca (goodIn_r _ [15, 10, 11] (by decide +kernel) (by decide +kernel)) (goodIn_sub (fun _ h => List.mem_cons_of_mem _ (List.mem_append_left _ (List.mem_append_right _ h))) (by decide +kernel))
set_option maxRecDepth 20000 in
theorem gX5_count_X5_checkNumber : GoodIn wsX5_count (va_wsS RX5 57 yX5_checkNumber wsX5_checkNumber) := goodIn_app (goodIn_of _ (by decide +kernel)) ggX5_count_X5_checkNumber
set_option maxRecDepth 20000 in
theorem ggX5_count_X5_checkRange : GoodIn wsX5_count wsX5_checkRange := goodIn_ca (goodIn_r _ [18, 19, 20] (by decide +kernel) (by decide +kernel)) (goodIn_sub (fun _ h => List.mem_cons_of_mem _ (List.mem_append_right _ h)) (by decide +kernel))
set_option maxRecDepth 20000 in
theorem gX5_count_X5_checkRange : GoodIn wsX5_count (va_wsS RX5 60 yX5_checkRange wsX5_checkRange) := goodIn_app (goodIn_of _ (by decide +kernel)) ggX5_count_X5_checkRange
theorem dX5_count_0 : decode cX5_count 0 = .ok (.aload_n 0, 1) := by decide +kernel
theorem dX5_count_1 : decode cX5_count 1 = .ok (.iload_n 1, 1) := by decide +kernel
theorem dX5_count_2 : decode cX5_count 2 = .ok (.invokevirtual 102, 3) := by decide +kernel
theorem dX5_count_5 : decode cX5_count 5 = .ok (.astore 4, 2) := by decide +kernel
theorem dX5_count_7 : decode cX5_count 7 = .ok (.iload_n 2, 1) := by decide +kernel
theorem dX5_count_8 : decode cX5_count 8 = .ok (.iconst 4, 1) := by decide +kernel
theorem dX5_count_9 : decode cX5_count 9 = .ok (.invokestatic 57, 3) := by decide +kernel
theorem dX5_count_12 : decode cX5_count 12 = .ok (.iload_n 3, 1) := by decide +kernel
theorem dX5_count_13 : decode cX5_count 13 = .ok (.bipush (-20), 2) := by decide +kernel
theorem dX5_count_15 : decode cX5_count 15 = .ok (.bipush 20, 2) := by decide +kernel
theorem dX5_count_17 : decode cX5_count 17 = .ok (.invokestatic 60, 3) := by decide +kernel
theorem dX5_count_20 : decode cX5_count 20 = .ok (.aload 4, 2) := by decide +kernel
theorem dX5_count_22 : decode cX5_count 22 = .ok (.getfield 106, 3) := by decide +kernel
theorem dX5_count_25 : decode cX5_count 25 = .ok (.iload_n 2, 1) := by decide +kernel
theorem dX5_count_26 : decode cX5_count 26 = .ok (.iaload, 1) := by decide +kernel
theorem dX5_count_27 : decode cX5_count 27 = .ok (.iload_n 3, 1) := by decide +kernel
theorem dX5_count_28 : decode cX5_count 28 = .ok (.iadd, 1) := by decide +kernel
theorem dX5_count_29 : decode cX5_count 29 = .ok (.istore 5, 2) := by decide +kernel
theorem dX5_count_31 : decode cX5_count 31 = .ok (.aload 4, 2) := by decide +kernel
theorem dX5_count_33 : decode cX5_count 33 = .ok (.getfield 109, 3) := by decide +kernel
theorem dX5_count_36 : decode cX5_count 36 = .ok (.iconst 2, 1) := by decide +kernel
theorem dX5_count_37 : decode cX5_count 37 = .ok (.if_icmp .eq 15, 3) := by decide +kernel
theorem dX5_count_40 : decode cX5_count 40 = .ok (.iload 5, 2) := by decide +kernel
theorem dX5_count_42 : decode cX5_count 42 = .ok (.ifCond .lt 10, 3) := by decide +kernel
theorem dX5_count_45 : decode cX5_count 45 = .ok (.iload 5, 2) := by decide +kernel
theorem dX5_count_47 : decode cX5_count 47 = .ok (.bipush 40, 2) := by decide +kernel
theorem dX5_count_49 : decode cX5_count 49 = .ok (.if_icmp .le 13, 3) := by decide +kernel
theorem dX5_count_52 : decode cX5_count 52 = .ok (.new 83, 3) := by decide +kernel
theorem dX5_count_55 : decode cX5_count 55 = .ok (.dup, 1) := by decide +kernel
theorem dX5_count_56 : decode cX5_count 56 = .ok (.ldc 112, 2) := by decide +kernel
theorem dX5_count_58 : decode cX5_count 58 = .ok (.invokespecial 87, 3) := by decide +kernel
theorem dX5_count_61 : decode cX5_count 61 = .ok (.athrow, 1) := by decide +kernel
theorem dX5_count_62 : decode cX5_count 62 = .ok (.aload 4, 2) := by decide +kernel
theorem dX5_count_64 : decode cX5_count 64 = .ok (.getfield 106, 3) := by decide +kernel
theorem dX5_count_67 : decode cX5_count 67 = .ok (.iload_n 2, 1) := by decide +kernel
theorem dX5_count_68 : decode cX5_count 68 = .ok (.iload 5, 2) := by decide +kernel
theorem dX5_count_70 : decode cX5_count 70 = .ok (.iastore, 1) := by decide +kernel
theorem dX5_count_71 : decode cX5_count 71 = .ok (.iload 5, 2) := by decide +kernel
theorem dX5_count_73 : decode cX5_count 73 = .ok (.ireturn, 1) := by decide +kernel
set_option maxRecDepth 20000 in
theorem ggX5_fill_X5_copyNumbered : GoodIn wsX5_fill wsX5_copyNumbered := goodIn_ca (goodIn_r _ [11, 12, 13, 14, 34, 35, 36, 37, 38, 39, 40, 41, 42] (by decide +kernel) (by decide +kernel)) (goodIn_sub (fun _ h => List.mem_cons_of_mem _ (List.mem_append_right _ h)) (by decide +kernel))
set_option maxRecDepth 20000 in
theorem gX5_fill_X5_copyNumbered : GoodIn wsX5_fill (wsV RX5 102 RX5 yX5_copyNumbered wsX5_copyNumbered) := goodIn_app (goodIn_of _ (by decide +kernel)) ggX5_fill_X5_copyNumbered
set_option maxRecDepth 20000 in
theorem ggX5_fill_X0_fillFrom : GoodIn wsX5_fill wsX0_fillFrom := goodIn_r _ [19, 20, 21, 22, 23, 24, 25, 26, 27, 28, 29, 30, 31, 32, 33, 43, 44, 45, 46, 47, 48] (by decide +kernel) (by decide +kernel)
set_option maxRecDepth 20000 in
theorem gX5_fill_X0_fillFrom : GoodIn wsX5_fill (wsV RX5 125 RX0 yX0_fillFrom wsX0_fillFrom) := goodIn_app (goodIn_of _ (by decide +kernel)) ggX5_fill_X0_fillFrom
theorem dX5_fill_0 : decode cX5_fill 0 = .ok (.aload_n 0, 1) := by decide +kernel
theorem dX5_fill_1 : decode cX5_fill 1 = .ok (.iload_n 1, 1) := by decide +kernel
theorem dX5_fill_2 : decode cX5_fill 2 = .ok (.invokevirtual 102, 3) := by decide +kernel
theorem dX5_fill_5 : decode cX5_fill 5 = .ok (.astore_n 3, 1) := by decide +kernel
theorem dX5_fill_6 : decode cX5_fill 6 = .ok (.aload_n 0, 1) := by decide +kernel
theorem dX5_fill_7 : decode cX5_fill 7 = .ok (.iload_n 2, 1) := by decide +kernel
theorem dX5_fill_8 : decode cX5_fill 8 = .ok (.invokevirtual 102, 3) := by decide +kernel
theorem dX5_fill_11 : decode cX5_fill 11 = .ok (.astore 4, 2) := by decide +kernel
theorem dX5_fill_13 : decode cX5_fill 13 = .ok (.iload_n 1, 1) := by decide +kernel
theorem dX5_fill_14 : decode cX5_fill 14 = .ok (.iload_n 2, 1) := by decide +kernel
theorem dX5_fill_15 : decode cX5_fill 15 = .ok (.if_icmp .eq 15, 3) := by decide +kernel
theorem dX5_fill_18 : decode cX5_fill 18 = .ok (.aload_n 3, 1) := by decide +kernel
theorem dX5_fill_19 : decode cX5_fill 19 = .ok (.getfield 114, 3) := by decide +kernel
theorem dX5_fill_22 : decode cX5_fill 22 = .ok (.aload 4, 2) := by decide +kernel
theorem dX5_fill_24 : decode cX5_fill 24 = .ok (.getfield 114, 3) := by decide +kernel
theorem dX5_fill_27 : decode cX5_fill 27 = .ok (.if_acmp .eq 13, 3) := by decide +kernel
theorem dX5_fill_30 : decode cX5_fill 30 = .ok (.new 118, 3) := by decide +kernel
theorem dX5_fill_33 : decode cX5_fill 33 = .ok (.dup, 1) := by decide +kernel
theorem dX5_fill_34 : decode cX5_fill 34 = .ok (.ldc 120, 2) := by decide +kernel
theorem dX5_fill_36 : decode cX5_fill 36 = .ok (.invokespecial 122, 3) := by decide +kernel
theorem dX5_fill_39 : decode cX5_fill 39 = .ok (.athrow, 1) := by decide +kernel
theorem dX5_fill_40 : decode cX5_fill 40 = .ok (.aload_n 3, 1) := by decide +kernel
theorem dX5_fill_41 : decode cX5_fill 41 = .ok (.getfield 109, 3) := by decide +kernel
theorem dX5_fill_44 : decode cX5_fill 44 = .ok (.ifCond .ne 11, 3) := by decide +kernel
theorem dX5_fill_47 : decode cX5_fill 47 = .ok (.aload 4, 2) := by decide +kernel
theorem dX5_fill_49 : decode cX5_fill 49 = .ok (.getfield 109, 3) := by decide +kernel
theorem dX5_fill_52 : decode cX5_fill 52 = .ok (.ifCond .eq 13, 3) := by decide +kernel
theorem dX5_fill_55 : decode cX5_fill 55 = .ok (.new 83, 3) := by decide +kernel
theorem dX5_fill_58 : decode cX5_fill 58 = .ok (.dup, 1) := by decide +kernel
theorem dX5_fill_59 : decode cX5_fill 59 = .ok (.ldc 123, 2) := by decide +kernel
theorem dX5_fill_61 : decode cX5_fill 61 = .ok (.invokespecial 87, 3) := by decide +kernel
theorem dX5_fill_64 : decode cX5_fill 64 = .ok (.athrow, 1) := by decide +kernel
theorem dX5_fill_65 : decode cX5_fill 65 = .ok (.aload_n 3, 1) := by decide +kernel
theorem dX5_fill_66 : decode cX5_fill 66 = .ok (.aload 4, 2) := by decide +kernel
theorem dX5_fill_68 : decode cX5_fill 68 = .ok (.invokevirtual 125, 3) := by decide +kernel
theorem dX5_fill_71 : decode cX5_fill 71 = .ok (.ireturn, 1) := by decide +kernel
set_option maxRecDepth 20000 in
theorem ggX5_seat_X5_checkNumber : GoodIn wsX5_seat wsX5_checkNumber := goodIn_ca (goodIn_r _ [19, 20, 21] (by decide +kernel) (by decide +kernel)) (goodIn_sub (fun _ h => List.mem_cons_of_mem _ (List.mem_append_right _ h)) (by decide +kernel))
set_option maxRecDepth 20000 in
theorem gX5_seat_X5_checkNumber : GoodIn wsX5_seat (va_wsS RX5 57 yX5_checkNumber wsX5_checkNumber) := goodIn_app (goodIn_of _ (by decide +kernel)) ggX5_seat_X5_checkNumber
set_option maxRecDepth 20000 in
theorem ggX5_seat_X5_checkRange : GoodIn wsX5_seat wsX5_checkRange := goodIn_ca (goodIn_r _ [24, 1, 2] (by decide +kernel) (by decide +kernel)) (goodIn_sub (fun _ h => List.mem_cons_of_mem _ (List.mem_append_left _ (List.mem_append_left _ (List.mem_append_right _ h)))) (by decide +kernel))
set_option maxRecDepth 20000 in
theorem gX5_seat_X5_checkRange : GoodIn wsX5_seat (va_wsS RX5 60 yX5_checkRange wsX5_checkRange) := goodIn_app (goodIn_of _ (by decide +kernel)) ggX5_seat_X5_checkRange
set_option maxRecDepth 20000 in
theorem ggX5_seat_X1_isFor : GoodIn wsX5_seat wsX1_isFor := goodIn_r _ [29, 30, 31, 77, 78, 79, 80, 81, 82] (by decide +kernel) (by decide +kernel)
set_option maxRecDepth 20000 in
theorem gX5_seat_X1_isFor : GoodIn wsX5_seat (wsV RX5 129 RX1 yX1_isFor wsX1_isFor) := goodIn_app (goodIn_of _ (by decide +kernel)) ggX5_seat_X1_isFor
set_option maxRecDepth 20000 in
theorem ggX5_seat_X5_freeTableFor : GoodIn wsX5_seat wsX5_freeTableFor := goodIn_r _ [35, 36, 14, 37, 68, 69, 70, 71, 72, 73, 74, 75, 76, 89, 90, 91] (by decide +kernel) (by decide +kernel)
set_option maxRecDepth 20000 in
theorem gX5_seat_X5_freeTableFor : GoodIn wsX5_seat (wsV RX5 135 RX5 yX5_freeTableFor wsX5_freeTableFor) := goodIn_app (goodIn_of _ (by decide +kernel)) ggX5_seat_X5_freeTableFor
set_option maxRecDepth 20000 in
theorem ggX5_seat_X5_playableCopyOf : GoodIn wsX5_seat wsX5_playableCopyOf := goodIn_r _ [41, 42, 43, 15, 44, 45, 46, 47, 48, 49, 50, 51, 68, 69, 70, 71, 72, 73, 74, 75, 76, 92, 93, 94, 95, 77, 78, 79, 80, 81, 82] (by decide +kernel) (by decide +kernel)
set_option maxRecDepth 20000 in
theorem gX5_seat_X5_playableCopyOf : GoodIn wsX5_seat (wsV RX5 139 RX5 yX5_playableCopyOf wsX5_playableCopyOf) := goodIn_app (goodIn_of _ (by decide +kernel)) ggX5_seat_X5_playableCopyOf
set_option maxRecDepth 20000 in
theorem ggX5_seat_X5_freeTeacherOf : GoodIn wsX5_seat wsX5_freeTeacherOf := goodIn_r _ [55, 56, 57, 9, 7, 68, 69, 70, 71, 72, 73, 74, 75, 76, 83, 84] (by decide +kernel) (by decide +kernel)
set_option maxRecDepth 20000 in
theorem gX5_seat_X5_freeTeacherOf : GoodIn wsX5_seat (wsV RX5 143 RX5 yX5_freeTeacherOf wsX5_freeTeacherOf) := goodIn_app (goodIn_of _ (by decide +kernel)) ggX5_seat_X5_freeTeacherOf
set_option maxRecDepth 20000 in
theorem ggX5_seat_X2_init : GoodIn wsX5_seat wsX2_init := goodIn_r _ [60, 61, 62, 63, 64, 65, 66, 67, 85, 86, 87, 88] (by decide +kernel) (by decide +kernel)
set_option maxRecDepth 20000 in
theorem gX5_seat_X2_init : GoodIn wsX5_seat (wsX2_init) := ggX5_seat_X2_init
theorem dX5_seat_0 : decode cX5_seat 0 = .ok (.iload_n 2, 1) := by decide +kernel
theorem dX5_seat_1 : decode cX5_seat 1 = .ok (.iconst 5, 1) := by decide +kernel
theorem dX5_seat_2 : decode cX5_seat 2 = .ok (.invokestatic 57, 3) := by decide +kernel
theorem dX5_seat_5 : decode cX5_seat 5 = .ok (.iload_n 1, 1) := by decide +kernel
theorem dX5_seat_6 : decode cX5_seat 6 = .ok (.iconst 1, 1) := by decide +kernel
theorem dX5_seat_7 : decode cX5_seat 7 = .ok (.bipush 8, 2) := by decide +kernel
theorem dX5_seat_9 : decode cX5_seat 9 = .ok (.invokestatic 60, 3) := by decide +kernel
theorem dX5_seat_12 : decode cX5_seat 12 = .ok (.aload_n 0, 1) := by decide +kernel
theorem dX5_seat_13 : decode cX5_seat 13 = .ok (.getfield 11, 3) := by decide +kernel
theorem dX5_seat_16 : decode cX5_seat 16 = .ok (.iload_n 2, 1) := by decide +kernel
theorem dX5_seat_17 : decode cX5_seat 17 = .ok (.aaload, 1) := by decide +kernel
theorem dX5_seat_18 : decode cX5_seat 18 = .ok (.astore 4, 2) := by decide +kernel
theorem dX5_seat_20 : decode cX5_seat 20 = .ok (.aload 4, 2) := by decide +kernel
theorem dX5_seat_22 : decode cX5_seat 22 = .ok (.iload_n 1, 1) := by decide +kernel
theorem dX5_seat_23 : decode cX5_seat 23 = .ok (.invokevirtual 129, 3) := by decide +kernel
theorem dX5_seat_26 : decode cX5_seat 26 = .ok (.ifCond .ne 13, 3) := by decide +kernel
theorem dX5_seat_29 : decode cX5_seat 29 = .ok (.new 118, 3) := by decide +kernel
theorem dX5_seat_32 : decode cX5_seat 32 = .ok (.dup, 1) := by decide +kernel
theorem dX5_seat_33 : decode cX5_seat 33 = .ok (.ldc 133, 2) := by decide +kernel
theorem dX5_seat_35 : decode cX5_seat 35 = .ok (.invokespecial 122, 3) := by decide +kernel
theorem dX5_seat_38 : decode cX5_seat 38 = .ok (.athrow, 1) := by decide +kernel
theorem dX5_seat_39 : decode cX5_seat 39 = .ok (.aload_n 0, 1) := by decide +kernel
theorem dX5_seat_40 : decode cX5_seat 40 = .ok (.iload_n 1, 1) := by decide +kernel
theorem dX5_seat_41 : decode cX5_seat 41 = .ok (.invokevirtual 135, 3) := by decide +kernel
theorem dX5_seat_44 : decode cX5_seat 44 = .ok (.astore 5, 2) := by decide +kernel
theorem dX5_seat_46 : decode cX5_seat 46 = .ok (.aload_n 0, 1) := by decide +kernel
theorem dX5_seat_47 : decode cX5_seat 47 = .ok (.aload 4, 2) := by decide +kernel
theorem dX5_seat_49 : decode cX5_seat 49 = .ok (.invokevirtual 139, 3) := by decide +kernel
theorem dX5_seat_52 : decode cX5_seat 52 = .ok (.astore 6, 2) := by decide +kernel
theorem dX5_seat_54 : decode cX5_seat 54 = .ok (.iload_n 3, 1) := by decide +kernel
theorem dX5_seat_55 : decode cX5_seat 55 = .ok (.ifCond .eq 7, 3) := by decide +kernel
theorem dX5_seat_58 : decode cX5_seat 58 = .ok (.aconst_null, 1) := by decide +kernel
theorem dX5_seat_59 : decode cX5_seat 59 = .ok (.goto 8, 3) := by decide +kernel
theorem dX5_seat_62 : decode cX5_seat 62 = .ok (.aload_n 0, 1) := by decide +kernel
theorem dX5_seat_63 : decode cX5_seat 63 = .ok (.iload_n 2, 1) := by decide +kernel
theorem dX5_seat_64 : decode cX5_seat 64 = .ok (.invokevirtual 143, 3) := by decide +kernel
theorem dX5_seat_67 : decode cX5_seat 67 = .ok (.astore 7, 2) := by decide +kernel
theorem dX5_seat_69 : decode cX5_seat 69 = .ok (.aload_n 0, 1) := by decide +kernel
theorem dX5_seat_70 : decode cX5_seat 70 = .ok (.getfield 46, 3) := by decide +kernel
theorem dX5_seat_73 : decode cX5_seat 73 = .ok (.bipush 60, 2) := by decide +kernel
theorem dX5_seat_75 : decode cX5_seat 75 = .ok (.if_icmp .ge 22, 3) := by decide +kernel
theorem dX5_seat_78 : decode cX5_seat 78 = .ok (.aload 5, 2) := by decide +kernel
theorem dX5_seat_80 : decode cX5_seat 80 = .ok (.ifnull 17, 3) := by decide +kernel
theorem dX5_seat_83 : decode cX5_seat 83 = .ok (.aload 6, 2) := by decide +kernel
theorem dX5_seat_85 : decode cX5_seat 85 = .ok (.ifnull 12, 3) := by decide +kernel
theorem dX5_seat_88 : decode cX5_seat 88 = .ok (.iload_n 3, 1) := by decide +kernel
theorem dX5_seat_89 : decode cX5_seat 89 = .ok (.ifCond .ne 18, 3) := by decide +kernel
theorem dX5_seat_92 : decode cX5_seat 92 = .ok (.aload 7, 2) := by decide +kernel
theorem dX5_seat_94 : decode cX5_seat 94 = .ok (.ifnonnull 13, 3) := by decide +kernel
theorem dX5_seat_97 : decode cX5_seat 97 = .ok (.new 83, 3) := by decide +kernel
theorem dX5_seat_100 : decode cX5_seat 100 = .ok (.dup, 1) := by decide +kernel
theorem dX5_seat_101 : decode cX5_seat 101 = .ok (.ldc 147, 2) := by decide +kernel
theorem dX5_seat_103 : decode cX5_seat 103 = .ok (.invokespecial 87, 3) := by decide +kernel
theorem dX5_seat_106 : decode cX5_seat 106 = .ok (.athrow, 1) := by decide +kernel
theorem dX5_seat_107 : decode cX5_seat 107 = .ok (.aload 7, 2) := by decide +kernel
theorem dX5_seat_109 : decode cX5_seat 109 = .ok (.ifnull 18, 3) := by decide +kernel
theorem dX5_seat_112 : decode cX5_seat 112 = .ok (.aload 7, 2) := by decide +kernel
theorem dX5_seat_114 : decode cX5_seat 114 = .ok (.aload_n 0, 1) := by decide +kernel
theorem dX5_seat_115 : decode cX5_seat 115 = .ok (.getfield 49, 3) := by decide +kernel
theorem dX5_seat_118 : decode cX5_seat 118 = .ok (.aload 4, 2) := by decide +kernel
theorem dX5_seat_120 : decode cX5_seat 120 = .ok (.getfield 70, 3) := by decide +kernel
theorem dX5_seat_123 : decode cX5_seat 123 = .ok (.iadd, 1) := by decide +kernel
theorem dX5_seat_124 : decode cX5_seat 124 = .ok (.putfield 149, 3) := by decide +kernel
theorem dX5_seat_127 : decode cX5_seat 127 = .ok (.aload_n 0, 1) := by decide +kernel
theorem dX5_seat_128 : decode cX5_seat 128 = .ok (.getfield 46, 3) := by decide +kernel
theorem dX5_seat_131 : decode cX5_seat 131 = .ok (.istore 8, 2) := by decide +kernel
theorem dX5_seat_133 : decode cX5_seat 133 = .ok (.aload_n 0, 1) := by decide +kernel
theorem dX5_seat_134 : decode cX5_seat 134 = .ok (.getfield 35, 3) := by decide +kernel
theorem dX5_seat_137 : decode cX5_seat 137 = .ok (.iload 8, 2) := by decide +kernel
theorem dX5_seat_139 : decode cX5_seat 139 = .ok (.new 33, 3) := by decide +kernel
theorem dX5_seat_142 : decode cX5_seat 142 = .ok (.dup, 1) := by decide +kernel
theorem dX5_seat_143 : decode cX5_seat 143 = .ok (.iload_n 1, 1) := by decide +kernel
theorem dX5_seat_144 : decode cX5_seat 144 = .ok (.aload 5, 2) := by decide +kernel
theorem dX5_seat_146 : decode cX5_seat 146 = .ok (.aload 6, 2) := by decide +kernel
theorem dX5_seat_148 : decode cX5_seat 148 = .ok (.aload_n 0, 1) := by decide +kernel
theorem dX5_seat_149 : decode cX5_seat 149 = .ok (.getfield 49, 3) := by decide +kernel
theorem dX5_seat_152 : decode cX5_seat 152 = .ok (.invokespecial 152, 3) := by decide +kernel
theorem dX5_seat_155 : decode cX5_seat 155 = .ok (.aastore, 1) := by decide +kernel
theorem dX5_seat_156 : decode cX5_seat 156 = .ok (.aload_n 0, 1) := by decide +kernel
theorem dX5_seat_157 : decode cX5_seat 157 = .ok (.iload 8, 2) := by decide +kernel
theorem dX5_seat_159 : decode cX5_seat 159 = .ok (.iconst 1, 1) := by decide +kernel
theorem dX5_seat_160 : decode cX5_seat 160 = .ok (.iadd, 1) := by decide +kernel
theorem dX5_seat_161 : decode cX5_seat 161 = .ok (.putfield 46, 3) := by decide +kernel
theorem dX5_seat_164 : decode cX5_seat 164 = .ok (.aload 5, 2) := by decide +kernel
theorem dX5_seat_166 : decode cX5_seat 166 = .ok (.iload 8, 2) := by decide +kernel
theorem dX5_seat_168 : decode cX5_seat 168 = .ok (.putfield 80, 3) := by decide +kernel
theorem dX5_seat_171 : decode cX5_seat 171 = .ok (.aload 6, 2) := by decide +kernel
theorem dX5_seat_173 : decode cX5_seat 173 = .ok (.iconst 1, 1) := by decide +kernel
theorem dX5_seat_174 : decode cX5_seat 174 = .ok (.putfield 109, 3) := by decide +kernel
theorem dX5_seat_177 : decode cX5_seat 177 = .ok (.iload 8, 2) := by decide +kernel
theorem dX5_seat_179 : decode cX5_seat 179 = .ok (.ireturn, 1) := by decide +kernel
set_option maxRecDepth 20000 in
theorem ggX5_grow_X5_groupNumbered : GoodIn wsX5_grow wsX5_groupNumbered := goodIn_ca (goodIn_r _ [15, 16, 17, 18, 46, 47, 48, 49, 50, 51, 52, 53, 54] (by decide +kernel) (by decide +kernel)) (goodIn_sub (fun _ h => List.mem_cons_of_mem _ (List.mem_append_left _ (List.mem_append_right _ h))) (by decide +kernel))
set_option maxRecDepth 20000 in
theorem gX5_grow_X5_groupNumbered : GoodIn wsX5_grow (wsV RX5 155 RX5 yX5_groupNumbered wsX5_groupNumbered) := goodIn_app (goodIn_of _ (by decide +kernel)) ggX5_grow_X5_groupNumbered
set_option maxRecDepth 20000 in
theorem ggX5_grow_X5_checkRange : GoodIn wsX5_grow wsX5_checkRange := goodIn_ca (goodIn_r _ [21, 22, 23] (by decide +kernel) (by decide +kernel)) (goodIn_sub (fun _ h => List.mem_cons_of_mem _ (List.mem_append_right _ h)) (by decide +kernel))
set_option maxRecDepth 20000 in
theorem gX5_grow_X5_checkRange : GoodIn wsX5_grow (va_wsS RX5 60 yX5_checkRange wsX5_checkRange) := goodIn_app (goodIn_of _ (by decide +kernel)) ggX5_grow_X5_checkRange
set_option maxRecDepth 20000 in
theorem ggX5_grow_X5_freeTableFor : GoodIn wsX5_grow wsX5_freeTableFor := goodIn_r _ [27, 28, 9, 8, 46, 47, 48, 49, 50, 51, 52, 53, 54, 43, 44, 45] (by decide +kernel) (by decide +kernel)
set_option maxRecDepth 20000 in
theorem gX5_grow_X5_freeTableFor : GoodIn wsX5_grow (wsV RX5 135 RX5 yX5_freeTableFor wsX5_freeTableFor) := goodIn_app (goodIn_of _ (by decide +kernel)) ggX5_grow_X5_freeTableFor
theorem dX5_grow_0 : decode cX5_grow 0 = .ok (.aload_n 0, 1) := by decide +kernel
theorem dX5_grow_1 : decode cX5_grow 1 = .ok (.iload_n 1, 1) := by decide +kernel
theorem dX5_grow_2 : decode cX5_grow 2 = .ok (.invokevirtual 155, 3) := by decide +kernel
theorem dX5_grow_5 : decode cX5_grow 5 = .ok (.astore_n 3, 1) := by decide +kernel
theorem dX5_grow_6 : decode cX5_grow 6 = .ok (.iload_n 2, 1) := by decide +kernel
theorem dX5_grow_7 : decode cX5_grow 7 = .ok (.iconst 1, 1) := by decide +kernel
theorem dX5_grow_8 : decode cX5_grow 8 = .ok (.bipush 7, 2) := by decide +kernel
theorem dX5_grow_10 : decode cX5_grow 10 = .ok (.invokestatic 60, 3) := by decide +kernel
theorem dX5_grow_13 : decode cX5_grow 13 = .ok (.aload_n 3, 1) := by decide +kernel
theorem dX5_grow_14 : decode cX5_grow 14 = .ok (.getfield 159, 3) := by decide +kernel
theorem dX5_grow_17 : decode cX5_grow 17 = .ok (.iload_n 2, 1) := by decide +kernel
theorem dX5_grow_18 : decode cX5_grow 18 = .ok (.iadd, 1) := by decide +kernel
theorem dX5_grow_19 : decode cX5_grow 19 = .ok (.istore 4, 2) := by decide +kernel
theorem dX5_grow_21 : decode cX5_grow 21 = .ok (.iload 4, 2) := by decide +kernel
theorem dX5_grow_23 : decode cX5_grow 23 = .ok (.aload_n 3, 1) := by decide +kernel
theorem dX5_grow_24 : decode cX5_grow 24 = .ok (.getfield 162, 3) := by decide +kernel
theorem dX5_grow_27 : decode cX5_grow 27 = .ok (.getfield 114, 3) := by decide +kernel
theorem dX5_grow_30 : decode cX5_grow 30 = .ok (.getfield 67, 3) := by decide +kernel
theorem dX5_grow_33 : decode cX5_grow 33 = .ok (.if_icmp .le 13, 3) := by decide +kernel
theorem dX5_grow_36 : decode cX5_grow 36 = .ok (.new 83, 3) := by decide +kernel
theorem dX5_grow_39 : decode cX5_grow 39 = .ok (.dup, 1) := by decide +kernel
theorem dX5_grow_40 : decode cX5_grow 40 = .ok (.ldc 133, 2) := by decide +kernel
theorem dX5_grow_42 : decode cX5_grow 42 = .ok (.invokespecial 87, 3) := by decide +kernel
theorem dX5_grow_45 : decode cX5_grow 45 = .ok (.athrow, 1) := by decide +kernel
theorem dX5_grow_46 : decode cX5_grow 46 = .ok (.iload 4, 2) := by decide +kernel
theorem dX5_grow_48 : decode cX5_grow 48 = .ok (.aload_n 3, 1) := by decide +kernel
theorem dX5_grow_49 : decode cX5_grow 49 = .ok (.getfield 166, 3) := by decide +kernel
theorem dX5_grow_52 : decode cX5_grow 52 = .ok (.getfield 90, 3) := by decide +kernel
theorem dX5_grow_55 : decode cX5_grow 55 = .ok (.if_icmp .gt 10, 3) := by decide +kernel
theorem dX5_grow_58 : decode cX5_grow 58 = .ok (.aload_n 3, 1) := by decide +kernel
theorem dX5_grow_59 : decode cX5_grow 59 = .ok (.getfield 166, 3) := by decide +kernel
theorem dX5_grow_62 : decode cX5_grow 62 = .ok (.goto 9, 3) := by decide +kernel
theorem dX5_grow_65 : decode cX5_grow 65 = .ok (.aload_n 0, 1) := by decide +kernel
theorem dX5_grow_66 : decode cX5_grow 66 = .ok (.iload 4, 2) := by decide +kernel
theorem dX5_grow_68 : decode cX5_grow 68 = .ok (.invokevirtual 135, 3) := by decide +kernel
theorem dX5_grow_71 : decode cX5_grow 71 = .ok (.astore 5, 2) := by decide +kernel
theorem dX5_grow_73 : decode cX5_grow 73 = .ok (.aload 5, 2) := by decide +kernel
theorem dX5_grow_75 : decode cX5_grow 75 = .ok (.ifnonnull 13, 3) := by decide +kernel
theorem dX5_grow_78 : decode cX5_grow 78 = .ok (.new 83, 3) := by decide +kernel
theorem dX5_grow_81 : decode cX5_grow 81 = .ok (.dup, 1) := by decide +kernel
theorem dX5_grow_82 : decode cX5_grow 82 = .ok (.ldc 170, 2) := by decide +kernel
theorem dX5_grow_84 : decode cX5_grow 84 = .ok (.invokespecial 87, 3) := by decide +kernel
theorem dX5_grow_87 : decode cX5_grow 87 = .ok (.athrow, 1) := by decide +kernel
theorem dX5_grow_88 : decode cX5_grow 88 = .ok (.aload_n 3, 1) := by decide +kernel
theorem dX5_grow_89 : decode cX5_grow 89 = .ok (.getfield 166, 3) := by decide +kernel
theorem dX5_grow_92 : decode cX5_grow 92 = .ok (.iconst (-1), 1) := by decide +kernel
theorem dX5_grow_93 : decode cX5_grow 93 = .ok (.putfield 80, 3) := by decide +kernel
theorem dX5_grow_96 : decode cX5_grow 96 = .ok (.aload 5, 2) := by decide +kernel
theorem dX5_grow_98 : decode cX5_grow 98 = .ok (.iload_n 1, 1) := by decide +kernel
theorem dX5_grow_99 : decode cX5_grow 99 = .ok (.putfield 80, 3) := by decide +kernel
theorem dX5_grow_102 : decode cX5_grow 102 = .ok (.aload_n 3, 1) := by decide +kernel
theorem dX5_grow_103 : decode cX5_grow 103 = .ok (.aload 5, 2) := by decide +kernel
theorem dX5_grow_105 : decode cX5_grow 105 = .ok (.putfield 166, 3) := by decide +kernel
theorem dX5_grow_108 : decode cX5_grow 108 = .ok (.aload_n 3, 1) := by decide +kernel
theorem dX5_grow_109 : decode cX5_grow 109 = .ok (.iload 4, 2) := by decide +kernel
theorem dX5_grow_111 : decode cX5_grow 111 = .ok (.putfield 159, 3) := by decide +kernel
theorem dX5_grow_114 : decode cX5_grow 114 = .ok (.aload 5, 2) := by decide +kernel
theorem dX5_grow_116 : decode cX5_grow 116 = .ok (.getfield 172, 3) := by decide +kernel
theorem dX5_grow_119 : decode cX5_grow 119 = .ok (.ireturn, 1) := by decide +kernel
set_option maxRecDepth 20000 in
theorem ggX5_go_X5_groupNumbered : GoodIn wsX5_go wsX5_groupNumbered := goodIn_ca (goodIn_r _ [14, 15, 16, 7, 34, 35, 36, 37, 38, 39, 40, 41, 42] (by decide +kernel) (by decide +kernel)) (goodIn_sub (fun _ h => List.mem_cons_of_mem _ (List.mem_append_right _ h)) (by decide +kernel))
set_option maxRecDepth 20000 in
theorem gX5_go_X5_groupNumbered : GoodIn wsX5_go (wsV RX5 155 RX5 yX5_groupNumbered wsX5_groupNumbered) := goodIn_app (goodIn_of _ (by decide +kernel)) ggX5_go_X5_groupNumbered
theorem dX5_go_0 : decode cX5_go 0 = .ok (.aload_n 0, 1) := by decide +kernel
theorem dX5_go_1 : decode cX5_go 1 = .ok (.iload_n 1, 1) := by decide +kernel
theorem dX5_go_2 : decode cX5_go 2 = .ok (.invokevirtual 155, 3) := by decide +kernel
theorem dX5_go_5 : decode cX5_go 5 = .ok (.astore_n 2, 1) := by decide +kernel
theorem dX5_go_6 : decode cX5_go 6 = .ok (.aload_n 2, 1) := by decide +kernel
theorem dX5_go_7 : decode cX5_go 7 = .ok (.getfield 166, 3) := by decide +kernel
theorem dX5_go_10 : decode cX5_go 10 = .ok (.iconst (-1), 1) := by decide +kernel
theorem dX5_go_11 : decode cX5_go 11 = .ok (.putfield 80, 3) := by decide +kernel
theorem dX5_go_14 : decode cX5_go 14 = .ok (.aload_n 2, 1) := by decide +kernel
theorem dX5_go_15 : decode cX5_go 15 = .ok (.getfield 162, 3) := by decide +kernel
theorem dX5_go_18 : decode cX5_go 18 = .ok (.iconst 0, 1) := by decide +kernel
theorem dX5_go_19 : decode cX5_go 19 = .ok (.putfield 109, 3) := by decide +kernel
theorem dX5_go_22 : decode cX5_go 22 = .ok (.aload_n 2, 1) := by decide +kernel
theorem dX5_go_23 : decode cX5_go 23 = .ok (.getfield 162, 3) := by decide +kernel
theorem dX5_go_26 : decode cX5_go 26 = .ok (.getfield 114, 3) := by decide +kernel
theorem dX5_go_29 : decode cX5_go 29 = .ok (.dup, 1) := by decide +kernel
theorem dX5_go_30 : decode cX5_go 30 = .ok (.getfield 175, 3) := by decide +kernel
theorem dX5_go_33 : decode cX5_go 33 = .ok (.iconst 1, 1) := by decide +kernel
theorem dX5_go_34 : decode cX5_go 34 = .ok (.iadd, 1) := by decide +kernel
theorem dX5_go_35 : decode cX5_go 35 = .ok (.putfield 175, 3) := by decide +kernel
theorem dX5_go_38 : decode cX5_go 38 = .ok (.aload_n 0, 1) := by decide +kernel
theorem dX5_go_39 : decode cX5_go 39 = .ok (.getfield 35, 3) := by decide +kernel
theorem dX5_go_42 : decode cX5_go 42 = .ok (.iload_n 1, 1) := by decide +kernel
theorem dX5_go_43 : decode cX5_go 43 = .ok (.aconst_null, 1) := by decide +kernel
theorem dX5_go_44 : decode cX5_go 44 = .ok (.aastore, 1) := by decide +kernel
theorem dX5_go_45 : decode cX5_go 45 = .ok (.aload_n 0, 1) := by decide +kernel
theorem dX5_go_46 : decode cX5_go 46 = .ok (.getfield 49, 3) := by decide +kernel
theorem dX5_go_49 : decode cX5_go 49 = .ok (.aload_n 2, 1) := by decide +kernel
theorem dX5_go_50 : decode cX5_go 50 = .ok (.getfield 178, 3) := by decide +kernel
theorem dX5_go_53 : decode cX5_go 53 = .ok (.isub, 1) := by decide +kernel
theorem dX5_go_54 : decode cX5_go 54 = .ok (.ireturn, 1) := by decide +kernel
set_option maxRecDepth 20000 in
theorem ggX5_advance_X5_checkRange : GoodIn wsX5_advance wsX5_checkRange := goodIn_ca (goodIn_r _ [8, 9, 10] (by decide +kernel) (by decide +kernel)) (goodIn_sub (fun _ h => List.mem_cons_of_mem _ (List.mem_append_right _ h)) (by decide +kernel))
set_option maxRecDepth 20000 in
theorem gX5_advance_X5_checkRange : GoodIn wsX5_advance (va_wsS RX5 60 yX5_checkRange wsX5_checkRange) := goodIn_app (goodIn_of _ (by decide +kernel)) ggX5_advance_X5_checkRange
theorem dX5_advance_0 : decode cX5_advance 0 = .ok (.iload_n 1, 1) := by decide +kernel
theorem dX5_advance_1 : decode cX5_advance 1 = .ok (.iconst 1, 1) := by decide +kernel
theorem dX5_advance_2 : decode cX5_advance 2 = .ok (.sipush 1000, 3) := by decide +kernel
theorem dX5_advance_5 : decode cX5_advance 5 = .ok (.invokestatic 60, 3) := by decide +kernel
theorem dX5_advance_8 : decode cX5_advance 8 = .ok (.aload_n 0, 1) := by decide +kernel
theorem dX5_advance_9 : decode cX5_advance 9 = .ok (.getfield 49, 3) := by decide +kernel
theorem dX5_advance_12 : decode cX5_advance 12 = .ok (.iload_n 1, 1) := by decide +kernel
theorem dX5_advance_13 : decode cX5_advance 13 = .ok (.iadd, 1) := by decide +kernel
theorem dX5_advance_14 : decode cX5_advance 14 = .ok (.ldc 181, 2) := by decide +kernel
theorem dX5_advance_16 : decode cX5_advance 16 = .ok (.if_icmp .le 13, 3) := by decide +kernel
theorem dX5_advance_19 : decode cX5_advance 19 = .ok (.new 83, 3) := by decide +kernel
theorem dX5_advance_22 : decode cX5_advance 22 = .ok (.dup, 1) := by decide +kernel
theorem dX5_advance_23 : decode cX5_advance 23 = .ok (.ldc 182, 2) := by decide +kernel
theorem dX5_advance_25 : decode cX5_advance 25 = .ok (.invokespecial 87, 3) := by decide +kernel
theorem dX5_advance_28 : decode cX5_advance 28 = .ok (.athrow, 1) := by decide +kernel
theorem dX5_advance_29 : decode cX5_advance 29 = .ok (.aload_n 0, 1) := by decide +kernel
theorem dX5_advance_30 : decode cX5_advance 30 = .ok (.dup, 1) := by decide +kernel
theorem dX5_advance_31 : decode cX5_advance 31 = .ok (.getfield 49, 3) := by decide +kernel
theorem dX5_advance_34 : decode cX5_advance 34 = .ok (.iload_n 1, 1) := by decide +kernel
theorem dX5_advance_35 : decode cX5_advance 35 = .ok (.iadd, 1) := by decide +kernel
theorem dX5_advance_36 : decode cX5_advance 36 = .ok (.putfield 49, 3) := by decide +kernel
theorem dX5_advance_39 : decode cX5_advance 39 = .ok (.aload_n 0, 1) := by decide +kernel
theorem dX5_advance_40 : decode cX5_advance 40 = .ok (.getfield 49, 3) := by decide +kernel
theorem dX5_advance_43 : decode cX5_advance 43 = .ok (.ireturn, 1) := by decide +kernel
set_option maxRecDepth 20000 in
theorem ggX5_lend_X5_copyNumbered : GoodIn wsX5_lend wsX5_copyNumbered := goodIn_ca (goodIn_r _ [9, 10, 11, 12, 28, 29, 30, 31, 32, 33, 34, 35, 36] (by decide +kernel) (by decide +kernel)) (goodIn_sub (fun _ h => List.mem_cons_of_mem _ (List.mem_append_right _ h)) (by decide +kernel))
set_option maxRecDepth 20000 in
theorem gX5_lend_X5_copyNumbered : GoodIn wsX5_lend (wsV RX5 102 RX5 yX5_copyNumbered wsX5_copyNumbered) := goodIn_app (goodIn_of _ (by decide +kernel)) ggX5_lend_X5_copyNumbered
set_option maxRecDepth 20000 in
theorem ggX5_lend_X5_checkNumber : GoodIn wsX5_lend wsX5_checkNumber := goodIn_ca (goodIn_r _ [15, 10, 11] (by decide +kernel) (by decide +kernel)) (goodIn_sub (fun _ h => List.mem_cons_of_mem _ (List.mem_append_right _ h)) (by decide +kernel))
set_option maxRecDepth 20000 in
theorem gX5_lend_X5_checkNumber : GoodIn wsX5_lend (va_wsS RX5 57 yX5_checkNumber wsX5_checkNumber) := goodIn_app (goodIn_of _ (by decide +kernel)) ggX5_lend_X5_checkNumber
set_option maxRecDepth 20000 in
theorem ggX5_lend_X0_worth : GoodIn wsX5_lend wsX0_worth := goodIn_r _ [20, 21, 22, 8, 23, 24, 25, 26, 27] (by decide +kernel) (by decide +kernel)
set_option maxRecDepth 20000 in
theorem gX5_lend_X0_worth : GoodIn wsX5_lend (wsV RX5 186 RX0 yX0_worth wsX0_worth) := goodIn_app (goodIn_of _ (by decide +kernel)) ggX5_lend_X0_worth
theorem dX5_lend_0 : decode cX5_lend 0 = .ok (.aload_n 0, 1) := by decide +kernel
theorem dX5_lend_1 : decode cX5_lend 1 = .ok (.iload_n 1, 1) := by decide +kernel
theorem dX5_lend_2 : decode cX5_lend 2 = .ok (.invokevirtual 102, 3) := by decide +kernel
theorem dX5_lend_5 : decode cX5_lend 5 = .ok (.astore_n 3, 1) := by decide +kernel
theorem dX5_lend_6 : decode cX5_lend 6 = .ok (.iload_n 2, 1) := by decide +kernel
theorem dX5_lend_7 : decode cX5_lend 7 = .ok (.bipush 6, 2) := by decide +kernel
theorem dX5_lend_9 : decode cX5_lend 9 = .ok (.invokestatic 57, 3) := by decide +kernel
theorem dX5_lend_12 : decode cX5_lend 12 = .ok (.aload_n 3, 1) := by decide +kernel
theorem dX5_lend_13 : decode cX5_lend 13 = .ok (.getfield 109, 3) := by decide +kernel
theorem dX5_lend_16 : decode cX5_lend 16 = .ok (.ifCond .ne 12, 3) := by decide +kernel
theorem dX5_lend_19 : decode cX5_lend 19 = .ok (.aload_n 0, 1) := by decide +kernel
theorem dX5_lend_20 : decode cX5_lend 20 = .ok (.getfield 39, 3) := by decide +kernel
theorem dX5_lend_23 : decode cX5_lend 23 = .ok (.iload_n 2, 1) := by decide +kernel
theorem dX5_lend_24 : decode cX5_lend 24 = .ok (.aaload, 1) := by decide +kernel
theorem dX5_lend_25 : decode cX5_lend 25 = .ok (.ifnull 13, 3) := by decide +kernel
theorem dX5_lend_28 : decode cX5_lend 28 = .ok (.new 83, 3) := by decide +kernel
theorem dX5_lend_31 : decode cX5_lend 31 = .ok (.dup, 1) := by decide +kernel
theorem dX5_lend_32 : decode cX5_lend 32 = .ok (.ldc 184, 2) := by decide +kernel
theorem dX5_lend_34 : decode cX5_lend 34 = .ok (.invokespecial 87, 3) := by decide +kernel
theorem dX5_lend_37 : decode cX5_lend 37 = .ok (.athrow, 1) := by decide +kernel
theorem dX5_lend_38 : decode cX5_lend 38 = .ok (.aload_n 3, 1) := by decide +kernel
theorem dX5_lend_39 : decode cX5_lend 39 = .ok (.iconst 2, 1) := by decide +kernel
theorem dX5_lend_40 : decode cX5_lend 40 = .ok (.putfield 109, 3) := by decide +kernel
theorem dX5_lend_43 : decode cX5_lend 43 = .ok (.aload_n 0, 1) := by decide +kernel
theorem dX5_lend_44 : decode cX5_lend 44 = .ok (.getfield 39, 3) := by decide +kernel
theorem dX5_lend_47 : decode cX5_lend 47 = .ok (.iload_n 2, 1) := by decide +kernel
theorem dX5_lend_48 : decode cX5_lend 48 = .ok (.aload_n 3, 1) := by decide +kernel
theorem dX5_lend_49 : decode cX5_lend 49 = .ok (.aastore, 1) := by decide +kernel
theorem dX5_lend_50 : decode cX5_lend 50 = .ok (.aload_n 3, 1) := by decide +kernel
theorem dX5_lend_51 : decode cX5_lend 51 = .ok (.invokevirtual 186, 3) := by decide +kernel
theorem dX5_lend_54 : decode cX5_lend 54 = .ok (.ireturn, 1) := by decide +kernel
set_option maxRecDepth 20000 in
theorem ggX5_giveBack_X5_checkNumber : GoodIn wsX5_giveBack wsX5_checkNumber := goodIn_ca (goodIn_r _ [9, 10, 11] (by decide +kernel) (by decide +kernel)) (goodIn_sub (fun _ h => List.mem_cons_of_mem _ (List.mem_append_left _ (List.mem_append_right _ h))) (by decide +kernel))
set_option maxRecDepth 20000 in
theorem gX5_giveBack_X5_checkNumber : GoodIn wsX5_giveBack (va_wsS RX5 57 yX5_checkNumber wsX5_checkNumber) := goodIn_app (goodIn_of _ (by decide +kernel)) ggX5_giveBack_X5_checkNumber
set_option maxRecDepth 20000 in
theorem ggX5_giveBack_X5_checkRange : GoodIn wsX5_giveBack wsX5_checkRange := goodIn_ca (goodIn_r _ [14, 15, 16] (by decide +kernel) (by decide +kernel)) (goodIn_sub (fun _ h => List.mem_cons_of_mem _ (List.mem_append_right _ h)) (by decide +kernel))
set_option maxRecDepth 20000 in
theorem gX5_giveBack_X5_checkRange : GoodIn wsX5_giveBack (va_wsS RX5 60 yX5_checkRange wsX5_checkRange) := goodIn_app (goodIn_of _ (by decide +kernel)) ggX5_giveBack_X5_checkRange
set_option maxRecDepth 20000 in
theorem ggX5_giveBack_X0_worth : GoodIn wsX5_giveBack wsX0_worth := goodIn_r _ [21, 22, 23, 8, 24, 35, 36, 37, 38] (by decide +kernel) (by decide +kernel)
set_option maxRecDepth 20000 in
theorem gX5_giveBack_X0_worth : GoodIn wsX5_giveBack (wsV RX5 186 RX0 yX0_worth wsX0_worth) := goodIn_app (goodIn_of _ (by decide +kernel)) ggX5_giveBack_X0_worth
set_option maxRecDepth 20000 in
theorem ggX5_giveBack_X5_worthOfPart : GoodIn wsX5_giveBack wsX5_worthOfPart := goodIn_r _ [24] (by decide +kernel) (by decide +kernel)
set_option maxRecDepth 20000 in
theorem gX5_giveBack_X5_worthOfPart : GoodIn wsX5_giveBack (va_wsS RX5 192 yX5_worthOfPart wsX5_worthOfPart) := goodIn_app (goodIn_of _ (by decide +kernel)) ggX5_giveBack_X5_worthOfPart
theorem dX5_giveBack_0 : decode cX5_giveBack 0 = .ok (.iload_n 1, 1) := by decide +kernel
theorem dX5_giveBack_1 : decode cX5_giveBack 1 = .ok (.bipush 6, 2) := by decide +kernel
theorem dX5_giveBack_3 : decode cX5_giveBack 3 = .ok (.invokestatic 57, 3) := by decide +kernel
theorem dX5_giveBack_6 : decode cX5_giveBack 6 = .ok (.iload_n 2, 1) := by decide +kernel
theorem dX5_giveBack_7 : decode cX5_giveBack 7 = .ok (.iconst 4, 1) := by decide +kernel
theorem dX5_giveBack_8 : decode cX5_giveBack 8 = .ok (.invokestatic 57, 3) := by decide +kernel
theorem dX5_giveBack_11 : decode cX5_giveBack 11 = .ok (.iload_n 3, 1) := by decide +kernel
theorem dX5_giveBack_12 : decode cX5_giveBack 12 = .ok (.iconst 0, 1) := by decide +kernel
theorem dX5_giveBack_13 : decode cX5_giveBack 13 = .ok (.bipush 20, 2) := by decide +kernel
theorem dX5_giveBack_15 : decode cX5_giveBack 15 = .ok (.invokestatic 60, 3) := by decide +kernel
theorem dX5_giveBack_18 : decode cX5_giveBack 18 = .ok (.aload_n 0, 1) := by decide +kernel
theorem dX5_giveBack_19 : decode cX5_giveBack 19 = .ok (.getfield 39, 3) := by decide +kernel
theorem dX5_giveBack_22 : decode cX5_giveBack 22 = .ok (.iload_n 1, 1) := by decide +kernel
theorem dX5_giveBack_23 : decode cX5_giveBack 23 = .ok (.aaload, 1) := by decide +kernel
theorem dX5_giveBack_24 : decode cX5_giveBack 24 = .ok (.astore 4, 2) := by decide +kernel
theorem dX5_giveBack_26 : decode cX5_giveBack 26 = .ok (.aload 4, 2) := by decide +kernel
theorem dX5_giveBack_28 : decode cX5_giveBack 28 = .ok (.ifnull 14, 3) := by decide +kernel
theorem dX5_giveBack_31 : decode cX5_giveBack 31 = .ok (.aload 4, 2) := by decide +kernel
theorem dX5_giveBack_33 : decode cX5_giveBack 33 = .ok (.getfield 106, 3) := by decide +kernel
theorem dX5_giveBack_36 : decode cX5_giveBack 36 = .ok (.iload_n 2, 1) := by decide +kernel
theorem dX5_giveBack_37 : decode cX5_giveBack 37 = .ok (.iaload, 1) := by decide +kernel
theorem dX5_giveBack_38 : decode cX5_giveBack 38 = .ok (.iload_n 3, 1) := by decide +kernel
theorem dX5_giveBack_39 : decode cX5_giveBack 39 = .ok (.if_icmp .ge 13, 3) := by decide +kernel
theorem dX5_giveBack_42 : decode cX5_giveBack 42 = .ok (.new 83, 3) := by decide +kernel
theorem dX5_giveBack_45 : decode cX5_giveBack 45 = .ok (.dup, 1) := by decide +kernel
theorem dX5_giveBack_46 : decode cX5_giveBack 46 = .ok (.ldc 190, 2) := by decide +kernel
theorem dX5_giveBack_48 : decode cX5_giveBack 48 = .ok (.invokespecial 87, 3) := by decide +kernel
theorem dX5_giveBack_51 : decode cX5_giveBack 51 = .ok (.athrow, 1) := by decide +kernel
theorem dX5_giveBack_52 : decode cX5_giveBack 52 = .ok (.aload 4, 2) := by decide +kernel
theorem dX5_giveBack_54 : decode cX5_giveBack 54 = .ok (.invokevirtual 186, 3) := by decide +kernel
theorem dX5_giveBack_57 : decode cX5_giveBack 57 = .ok (.istore 5, 2) := by decide +kernel
theorem dX5_giveBack_59 : decode cX5_giveBack 59 = .ok (.aload 4, 2) := by decide +kernel
theorem dX5_giveBack_61 : decode cX5_giveBack 61 = .ok (.getfield 106, 3) := by decide +kernel
theorem dX5_giveBack_64 : decode cX5_giveBack 64 = .ok (.iload_n 2, 1) := by decide +kernel
theorem dX5_giveBack_65 : decode cX5_giveBack 65 = .ok (.dup2, 1) := by decide +kernel
theorem dX5_giveBack_66 : decode cX5_giveBack 66 = .ok (.iaload, 1) := by decide +kernel
theorem dX5_giveBack_67 : decode cX5_giveBack 67 = .ok (.iload_n 3, 1) := by decide +kernel
theorem dX5_giveBack_68 : decode cX5_giveBack 68 = .ok (.isub, 1) := by decide +kernel
theorem dX5_giveBack_69 : decode cX5_giveBack 69 = .ok (.iastore, 1) := by decide +kernel
theorem dX5_giveBack_70 : decode cX5_giveBack 70 = .ok (.aload 4, 2) := by decide +kernel
theorem dX5_giveBack_72 : decode cX5_giveBack 72 = .ok (.iconst 0, 1) := by decide +kernel
theorem dX5_giveBack_73 : decode cX5_giveBack 73 = .ok (.putfield 109, 3) := by decide +kernel
theorem dX5_giveBack_76 : decode cX5_giveBack 76 = .ok (.aload_n 0, 1) := by decide +kernel
theorem dX5_giveBack_77 : decode cX5_giveBack 77 = .ok (.getfield 39, 3) := by decide +kernel
theorem dX5_giveBack_80 : decode cX5_giveBack 80 = .ok (.iload_n 1, 1) := by decide +kernel
theorem dX5_giveBack_81 : decode cX5_giveBack 81 = .ok (.aconst_null, 1) := by decide +kernel
theorem dX5_giveBack_82 : decode cX5_giveBack 82 = .ok (.aastore, 1) := by decide +kernel
theorem dX5_giveBack_83 : decode cX5_giveBack 83 = .ok (.iload 5, 2) := by decide +kernel
theorem dX5_giveBack_85 : decode cX5_giveBack 85 = .ok (.iload_n 3, 1) := by decide +kernel
theorem dX5_giveBack_86 : decode cX5_giveBack 86 = .ok (.iload_n 2, 1) := by decide +kernel
theorem dX5_giveBack_87 : decode cX5_giveBack 87 = .ok (.invokestatic 192, 3) := by decide +kernel
theorem dX5_giveBack_90 : decode cX5_giveBack 90 = .ok (.imul, 1) := by decide +kernel
theorem dX5_giveBack_91 : decode cX5_giveBack 91 = .ok (.isub, 1) := by decide +kernel
theorem dX5_giveBack_92 : decode cX5_giveBack 92 = .ok (.ireturn, 1) := by decide +kernel
theorem dX5_minute_0 : decode cX5_minute 0 = .ok (.aload_n 0, 1) := by decide +kernel
theorem dX5_minute_1 : decode cX5_minute 1 = .ok (.getfield 49, 3) := by decide +kernel
theorem dX5_minute_4 : decode cX5_minute 4 = .ok (.ireturn, 1) := by decide +kernel
theorem dX5_copies_0 : decode cX5_copies 0 = .ok (.aload_n 0, 1) := by decide +kernel
theorem dX5_copies_1 : decode cX5_copies 1 = .ok (.getfield 42, 3) := by decide +kernel
theorem dX5_copies_4 : decode cX5_copies 4 = .ok (.ireturn, 1) := by decide +kernel
set_option maxRecDepth 20000 in
theorem ggX5_parts_X5_copyNumbered : GoodIn wsX5_parts wsX5_copyNumbered := goodIn_ca (goodIn_r _ [6, 7, 8, 9, 17, 18, 19, 20, 21, 22, 23, 24, 25] (by decide +kernel) (by decide +kernel)) (goodIn_sub (fun _ h => List.mem_cons_of_mem _ (List.mem_append_right _ h)) (by decide +kernel))
set_option maxRecDepth 20000 in
theorem gX5_parts_X5_copyNumbered : GoodIn wsX5_parts (wsV RX5 102 RX5 yX5_copyNumbered wsX5_copyNumbered) := goodIn_app (goodIn_of _ (by decide +kernel)) ggX5_parts_X5_copyNumbered
set_option maxRecDepth 20000 in
theorem ggX5_parts_X5_checkNumber : GoodIn wsX5_parts wsX5_checkNumber := goodIn_ca (goodIn_r _ [12, 7, 8] (by decide +kernel) (by decide +kernel)) (goodIn_sub (fun _ h => List.mem_cons_of_mem _ (List.mem_append_right _ h)) (by decide +kernel))
set_option maxRecDepth 20000 in
theorem gX5_parts_X5_checkNumber : GoodIn wsX5_parts (va_wsS RX5 57 yX5_checkNumber wsX5_checkNumber) := goodIn_app (goodIn_of _ (by decide +kernel)) ggX5_parts_X5_checkNumber
theorem dX5_parts_0 : decode cX5_parts 0 = .ok (.aload_n 0, 1) := by decide +kernel
theorem dX5_parts_1 : decode cX5_parts 1 = .ok (.iload_n 1, 1) := by decide +kernel
theorem dX5_parts_2 : decode cX5_parts 2 = .ok (.invokevirtual 102, 3) := by decide +kernel
theorem dX5_parts_5 : decode cX5_parts 5 = .ok (.astore_n 3, 1) := by decide +kernel
theorem dX5_parts_6 : decode cX5_parts 6 = .ok (.iload_n 2, 1) := by decide +kernel
theorem dX5_parts_7 : decode cX5_parts 7 = .ok (.iconst 4, 1) := by decide +kernel
theorem dX5_parts_8 : decode cX5_parts 8 = .ok (.invokestatic 57, 3) := by decide +kernel
theorem dX5_parts_11 : decode cX5_parts 11 = .ok (.aload_n 3, 1) := by decide +kernel
theorem dX5_parts_12 : decode cX5_parts 12 = .ok (.getfield 106, 3) := by decide +kernel
theorem dX5_parts_15 : decode cX5_parts 15 = .ok (.iload_n 2, 1) := by decide +kernel
theorem dX5_parts_16 : decode cX5_parts 16 = .ok (.iaload, 1) := by decide +kernel
theorem dX5_parts_17 : decode cX5_parts 17 = .ok (.ireturn, 1) := by decide +kernel
set_option maxRecDepth 20000 in
theorem ggX5_canBePlayed_X5_copyNumbered : GoodIn wsX5_canBePlayed wsX5_copyNumbered := goodIn_ca (goodIn_r _ [5, 6, 7, 8, 17, 18, 19, 20, 21, 22, 23, 24, 25] (by decide +kernel) (by decide +kernel)) (goodIn_sub (fun _ h => List.mem_cons_of_mem _ (List.mem_append_right _ h)) (by decide +kernel))
set_option maxRecDepth 20000 in
theorem gX5_canBePlayed_X5_copyNumbered : GoodIn wsX5_canBePlayed (wsV RX5 102 RX5 yX5_copyNumbered wsX5_copyNumbered) := goodIn_app (goodIn_of _ (by decide +kernel)) ggX5_canBePlayed_X5_copyNumbered
set_option maxRecDepth 20000 in
theorem ggX5_canBePlayed_X0_isPlayable : GoodIn wsX5_canBePlayed wsX0_isPlayable := goodIn_r _ [13, 14, 15, 16, 26, 27, 28, 29, 30, 31, 32, 33, 34, 35] (by decide +kernel) (by decide +kernel)
set_option maxRecDepth 20000 in
theorem gX5_canBePlayed_X0_isPlayable : GoodIn wsX5_canBePlayed (wsV RX5 196 RX0 yX0_isPlayable wsX0_isPlayable) := goodIn_app (goodIn_of _ (by decide +kernel)) ggX5_canBePlayed_X0_isPlayable
theorem dX5_canBePlayed_0 : decode cX5_canBePlayed 0 = .ok (.aload_n 0, 1) := by decide +kernel
theorem dX5_canBePlayed_1 : decode cX5_canBePlayed 1 = .ok (.iload_n 1, 1) := by decide +kernel
theorem dX5_canBePlayed_2 : decode cX5_canBePlayed 2 = .ok (.invokevirtual 102, 3) := by decide +kernel
theorem dX5_canBePlayed_5 : decode cX5_canBePlayed 5 = .ok (.invokevirtual 196, 3) := by decide +kernel
theorem dX5_canBePlayed_8 : decode cX5_canBePlayed 8 = .ok (.ireturn, 1) := by decide +kernel
set_option maxRecDepth 20000 in
theorem ggX5_whereIs_X5_copyNumbered : GoodIn wsX5_whereIs wsX5_copyNumbered := goodIn_ca (goodIn_r _ [6, 7, 8, 9, 14, 15, 16, 17, 18, 19, 20, 21, 22] (by decide +kernel) (by decide +kernel)) (goodIn_sub (fun _ h => List.mem_cons_of_mem _ (List.mem_append_right _ h)) (by decide +kernel))
set_option maxRecDepth 20000 in
theorem gX5_whereIs_X5_copyNumbered : GoodIn wsX5_whereIs (wsV RX5 102 RX5 yX5_copyNumbered wsX5_copyNumbered) := goodIn_app (goodIn_of _ (by decide +kernel)) ggX5_whereIs_X5_copyNumbered
theorem dX5_whereIs_0 : decode cX5_whereIs 0 = .ok (.aload_n 0, 1) := by decide +kernel
theorem dX5_whereIs_1 : decode cX5_whereIs 1 = .ok (.iload_n 1, 1) := by decide +kernel
theorem dX5_whereIs_2 : decode cX5_whereIs 2 = .ok (.invokevirtual 102, 3) := by decide +kernel
theorem dX5_whereIs_5 : decode cX5_whereIs 5 = .ok (.getfield 109, 3) := by decide +kernel
theorem dX5_whereIs_8 : decode cX5_whereIs 8 = .ok (.ireturn, 1) := by decide +kernel
set_option maxRecDepth 20000 in
theorem ggX5_at_X5_checkNumber : GoodIn wsX5_at wsX5_checkNumber := goodIn_ca (goodIn_r _ [6, 7, 8] (by decide +kernel) (by decide +kernel)) (goodIn_sub (fun _ h => List.mem_cons_of_mem _ (List.mem_append_right _ h)) (by decide +kernel))
set_option maxRecDepth 20000 in
theorem gX5_at_X5_checkNumber : GoodIn wsX5_at (va_wsS RX5 57 yX5_checkNumber wsX5_checkNumber) := goodIn_app (goodIn_of _ (by decide +kernel)) ggX5_at_X5_checkNumber
theorem dX5_at_0 : decode cX5_at 0 = .ok (.iload_n 1, 1) := by decide +kernel
theorem dX5_at_1 : decode cX5_at 1 = .ok (.bipush 6, 2) := by decide +kernel
theorem dX5_at_3 : decode cX5_at 3 = .ok (.invokestatic 57, 3) := by decide +kernel
theorem dX5_at_6 : decode cX5_at 6 = .ok (.aload_n 0, 1) := by decide +kernel
theorem dX5_at_7 : decode cX5_at 7 = .ok (.getfield 17, 3) := by decide +kernel
theorem dX5_at_10 : decode cX5_at 10 = .ok (.iload_n 1, 1) := by decide +kernel
theorem dX5_at_11 : decode cX5_at 11 = .ok (.aaload, 1) := by decide +kernel
theorem dX5_at_12 : decode cX5_at 12 = .ok (.getfield 80, 3) := by decide +kernel
theorem dX5_at_15 : decode cX5_at 15 = .ok (.ireturn, 1) := by decide +kernel
set_option maxRecDepth 20000 in
theorem ggX5_copyOf_X5_groupNumbered : GoodIn wsX5_copyOf wsX5_groupNumbered := goodIn_ca (goodIn_r _ [7, 8, 9, 10, 19, 20, 21, 22, 23, 24, 25, 26, 27] (by decide +kernel) (by decide +kernel)) (goodIn_sub (fun _ h => List.mem_cons_of_mem _ (List.mem_append_right _ h)) (by decide +kernel))
set_option maxRecDepth 20000 in
theorem gX5_copyOf_X5_groupNumbered : GoodIn wsX5_copyOf (wsV RX5 155 RX5 yX5_groupNumbered wsX5_groupNumbered) := goodIn_app (goodIn_of _ (by decide +kernel)) ggX5_copyOf_X5_groupNumbered
theorem dX5_copyOf_0 : decode cX5_copyOf 0 = .ok (.aload_n 0, 1) := by decide +kernel
theorem dX5_copyOf_1 : decode cX5_copyOf 1 = .ok (.iload_n 1, 1) := by decide +kernel
theorem dX5_copyOf_2 : decode cX5_copyOf 2 = .ok (.invokevirtual 155, 3) := by decide +kernel
theorem dX5_copyOf_5 : decode cX5_copyOf 5 = .ok (.getfield 162, 3) := by decide +kernel
theorem dX5_copyOf_8 : decode cX5_copyOf 8 = .ok (.getfield 200, 3) := by decide +kernel
theorem dX5_copyOf_11 : decode cX5_copyOf 11 = .ok (.ireturn, 1) := by decide +kernel
set_option maxRecDepth 20000 in
theorem ggX5_teaching_X5_checkNumber : GoodIn wsX5_teaching wsX5_checkNumber := goodIn_ca (goodIn_r _ [11, 12, 13] (by decide +kernel) (by decide +kernel)) (goodIn_sub (fun _ h => List.mem_cons_of_mem _ (List.mem_append_right _ h)) (by decide +kernel))
set_option maxRecDepth 20000 in
theorem gX5_teaching_X5_checkNumber : GoodIn wsX5_teaching (va_wsS RX5 57 yX5_checkNumber wsX5_checkNumber) := goodIn_app (goodIn_of _ (by decide +kernel)) ggX5_teaching_X5_checkNumber
theorem dX5_teaching_0 : decode cX5_teaching 0 = .ok (.iload_n 1, 1) := by decide +kernel
theorem dX5_teaching_1 : decode cX5_teaching 1 = .ok (.iconst 3, 1) := by decide +kernel
theorem dX5_teaching_2 : decode cX5_teaching 2 = .ok (.invokestatic 57, 3) := by decide +kernel
theorem dX5_teaching_5 : decode cX5_teaching 5 = .ok (.iconst 0, 1) := by decide +kernel
theorem dX5_teaching_6 : decode cX5_teaching 6 = .ok (.aload_n 0, 1) := by decide +kernel
theorem dX5_teaching_7 : decode cX5_teaching 7 = .ok (.getfield 23, 3) := by decide +kernel
theorem dX5_teaching_10 : decode cX5_teaching 10 = .ok (.iload_n 1, 1) := by decide +kernel
theorem dX5_teaching_11 : decode cX5_teaching 11 = .ok (.aaload, 1) := by decide +kernel
theorem dX5_teaching_12 : decode cX5_teaching 12 = .ok (.getfield 149, 3) := by decide +kernel
theorem dX5_teaching_15 : decode cX5_teaching 15 = .ok (.aload_n 0, 1) := by decide +kernel
theorem dX5_teaching_16 : decode cX5_teaching 16 = .ok (.getfield 49, 3) := by decide +kernel
theorem dX5_teaching_19 : decode cX5_teaching 19 = .ok (.isub, 1) := by decide +kernel
theorem dX5_teaching_20 : decode cX5_teaching 20 = .ok (.invokestatic 201, 3) := by decide +kernel
theorem dX5_teaching_23 : decode cX5_teaching 23 = .ok (.ireturn, 1) := by decide +kernel
set_option maxRecDepth 20000 in
theorem ggX5_plays_X5_checkNumber : GoodIn wsX5_plays wsX5_checkNumber := goodIn_ca (goodIn_r _ [6, 7, 8] (by decide +kernel) (by decide +kernel)) (goodIn_sub (fun _ h => List.mem_cons_of_mem _ (List.mem_append_right _ h)) (by decide +kernel))
set_option maxRecDepth 20000 in
theorem gX5_plays_X5_checkNumber : GoodIn wsX5_plays (va_wsS RX5 57 yX5_checkNumber wsX5_checkNumber) := goodIn_app (goodIn_of _ (by decide +kernel)) ggX5_plays_X5_checkNumber
theorem dX5_plays_0 : decode cX5_plays 0 = .ok (.iload_n 1, 1) := by decide +kernel
theorem dX5_plays_1 : decode cX5_plays 1 = .ok (.iconst 5, 1) := by decide +kernel
theorem dX5_plays_2 : decode cX5_plays 2 = .ok (.invokestatic 57, 3) := by decide +kernel
theorem dX5_plays_5 : decode cX5_plays 5 = .ok (.aload_n 0, 1) := by decide +kernel
theorem dX5_plays_6 : decode cX5_plays 6 = .ok (.getfield 11, 3) := by decide +kernel
theorem dX5_plays_9 : decode cX5_plays 9 = .ok (.iload_n 1, 1) := by decide +kernel
theorem dX5_plays_10 : decode cX5_plays 10 = .ok (.aaload, 1) := by decide +kernel
theorem dX5_plays_11 : decode cX5_plays 11 = .ok (.getfield 175, 3) := by decide +kernel
theorem dX5_plays_14 : decode cX5_plays 14 = .ok (.ireturn, 1) := by decide +kernel
set_option maxRecDepth 20000 in
theorem ggX5_propose_X5_checkRange : GoodIn wsX5_propose wsX5_checkRange := goodIn_ca (goodIn_r _ [6, 7, 8] (by decide +kernel) (by decide +kernel)) (goodIn_sub (fun _ h => List.mem_cons_of_mem _ (List.mem_append_right _ h)) (by decide +kernel))
set_option maxRecDepth 20000 in
theorem gX5_propose_X5_checkRange : GoodIn wsX5_propose (va_wsS RX5 60 yX5_checkRange wsX5_checkRange) := goodIn_app (goodIn_of _ (by decide +kernel)) ggX5_propose_X5_checkRange
set_option maxRecDepth 20000 in
theorem ggX5_propose_X5_canSeatKnowing : GoodIn wsX5_propose wsX5_canSeatKnowing := goodIn_r _ [12, 13, 14, 15, 16, 17, 18, 19, 20, 21, 22, 23, 5, 24, 25, 26, 27, 28, 29, 30, 31, 32, 33, 34, 35, 36, 37, 38, 39, 40, 41, 42, 43, 44, 45, 46, 47, 48, 49, 50, 51, 52, 53, 54, 55, 56, 57, 58, 59, 60, 61, 62, 63, 64] (by decide +kernel) (by decide +kernel)
set_option maxRecDepth 20000 in
theorem gX5_propose_X5_canSeatKnowing : GoodIn wsX5_propose (wsV RX5 207 RX5 yX5_canSeatKnowing wsX5_canSeatKnowing) := goodIn_app (goodIn_of _ (by decide +kernel)) ggX5_propose_X5_canSeatKnowing
theorem dX5_propose_0 : decode cX5_propose 0 = .ok (.iload_n 1, 1) := by decide +kernel
theorem dX5_propose_1 : decode cX5_propose 1 = .ok (.iconst 1, 1) := by decide +kernel
theorem dX5_propose_2 : decode cX5_propose 2 = .ok (.bipush 8, 2) := by decide +kernel
theorem dX5_propose_4 : decode cX5_propose 4 = .ok (.invokestatic 60, 3) := by decide +kernel
theorem dX5_propose_7 : decode cX5_propose 7 = .ok (.iconst (-1), 1) := by decide +kernel
theorem dX5_propose_8 : decode cX5_propose 8 = .ok (.istore_n 2, 1) := by decide +kernel
theorem dX5_propose_9 : decode cX5_propose 9 = .ok (.iconst (-1), 1) := by decide +kernel
theorem dX5_propose_10 : decode cX5_propose 10 = .ok (.istore_n 3, 1) := by decide +kernel
theorem dX5_propose_11 : decode cX5_propose 11 = .ok (.iconst 0, 1) := by decide +kernel
theorem dX5_propose_12 : decode cX5_propose 12 = .ok (.istore 4, 2) := by decide +kernel
theorem dX5_propose_14 : decode cX5_propose 14 = .ok (.iload 4, 2) := by decide +kernel
theorem dX5_propose_16 : decode cX5_propose 16 = .ok (.iconst 5, 1) := by decide +kernel
theorem dX5_propose_17 : decode cX5_propose 17 = .ok (.if_icmp .ge 52, 3) := by decide +kernel
theorem dX5_propose_20 : decode cX5_propose 20 = .ok (.aload_n 0, 1) := by decide +kernel
theorem dX5_propose_21 : decode cX5_propose 21 = .ok (.getfield 11, 3) := by decide +kernel
theorem dX5_propose_24 : decode cX5_propose 24 = .ok (.iload 4, 2) := by decide +kernel
theorem dX5_propose_26 : decode cX5_propose 26 = .ok (.aaload, 1) := by decide +kernel
theorem dX5_propose_27 : decode cX5_propose 27 = .ok (.getfield 175, 3) := by decide +kernel
theorem dX5_propose_30 : decode cX5_propose 30 = .ok (.iload_n 3, 1) := by decide +kernel
theorem dX5_propose_31 : decode cX5_propose 31 = .ok (.if_icmp .le 32, 3) := by decide +kernel
theorem dX5_propose_34 : decode cX5_propose 34 = .ok (.aload_n 0, 1) := by decide +kernel
theorem dX5_propose_35 : decode cX5_propose 35 = .ok (.iload_n 1, 1) := by decide +kernel
theorem dX5_propose_36 : decode cX5_propose 36 = .ok (.aload_n 0, 1) := by decide +kernel
theorem dX5_propose_37 : decode cX5_propose 37 = .ok (.getfield 11, 3) := by decide +kernel
theorem dX5_propose_40 : decode cX5_propose 40 = .ok (.iload 4, 2) := by decide +kernel
theorem dX5_propose_42 : decode cX5_propose 42 = .ok (.aaload, 1) := by decide +kernel
theorem dX5_propose_43 : decode cX5_propose 43 = .ok (.invokevirtual 207, 3) := by decide +kernel
theorem dX5_propose_46 : decode cX5_propose 46 = .ok (.ifCond .eq 17, 3) := by decide +kernel
theorem dX5_propose_49 : decode cX5_propose 49 = .ok (.iload 4, 2) := by decide +kernel
theorem dX5_propose_51 : decode cX5_propose 51 = .ok (.istore_n 2, 1) := by decide +kernel
theorem dX5_propose_52 : decode cX5_propose 52 = .ok (.aload_n 0, 1) := by decide +kernel
theorem dX5_propose_53 : decode cX5_propose 53 = .ok (.getfield 11, 3) := by decide +kernel
theorem dX5_propose_56 : decode cX5_propose 56 = .ok (.iload 4, 2) := by decide +kernel
theorem dX5_propose_58 : decode cX5_propose 58 = .ok (.aaload, 1) := by decide +kernel
theorem dX5_propose_59 : decode cX5_propose 59 = .ok (.getfield 175, 3) := by decide +kernel
theorem dX5_propose_62 : decode cX5_propose 62 = .ok (.istore_n 3, 1) := by decide +kernel
theorem dX5_propose_63 : decode cX5_propose 63 = .ok (.iinc 4 1, 3) := by decide +kernel
theorem dX5_propose_66 : decode cX5_propose 66 = .ok (.goto (-52), 3) := by decide +kernel
theorem dX5_propose_69 : decode cX5_propose 69 = .ok (.iload_n 2, 1) := by decide +kernel
theorem dX5_propose_70 : decode cX5_propose 70 = .ok (.ireturn, 1) := by decide +kernel
set_option maxRecDepth 20000 in
theorem ggX5_canSeatKnowing_X1_isFor : GoodIn wsX5_canSeatKnowing wsX1_isFor := goodIn_r _ [6, 7, 8, 41, 42, 43, 44, 45, 46] (by decide +kernel) (by decide +kernel)
set_option maxRecDepth 20000 in
theorem gX5_canSeatKnowing_X1_isFor : GoodIn wsX5_canSeatKnowing (wsV RX5 129 RX1 yX1_isFor wsX1_isFor) := goodIn_app (goodIn_of _ (by decide +kernel)) ggX5_canSeatKnowing_X1_isFor
set_option maxRecDepth 20000 in
theorem ggX5_canSeatKnowing_X5_freeTableFor : GoodIn wsX5_canSeatKnowing wsX5_freeTableFor := goodIn_r _ [13, 14, 15, 16, 32, 33, 34, 35, 36, 37, 38, 39, 40, 47, 48, 49] (by decide +kernel) (by decide +kernel)
set_option maxRecDepth 20000 in
theorem gX5_canSeatKnowing_X5_freeTableFor : GoodIn wsX5_canSeatKnowing (wsV RX5 135 RX5 yX5_freeTableFor wsX5_freeTableFor) := goodIn_app (goodIn_of _ (by decide +kernel)) ggX5_canSeatKnowing_X5_freeTableFor
set_option maxRecDepth 20000 in
theorem ggX5_canSeatKnowing_X5_playableCopyOf : GoodIn wsX5_canSeatKnowing wsX5_playableCopyOf := goodIn_r _ [20, 21, 22, 23, 24, 25, 26, 27, 28, 29, 30, 31, 32, 33, 34, 35, 36, 37, 38, 39, 40, 50, 51, 52, 53, 41, 42, 43, 44, 45, 46] (by decide +kernel) (by decide +kernel)
set_option maxRecDepth 20000 in
theorem gX5_canSeatKnowing_X5_playableCopyOf : GoodIn wsX5_canSeatKnowing (wsV RX5 139 RX5 yX5_playableCopyOf wsX5_playableCopyOf) := goodIn_app (goodIn_of _ (by decide +kernel)) ggX5_canSeatKnowing_X5_playableCopyOf
theorem dX5_canSeatKnowing_0 : decode cX5_canSeatKnowing 0 = .ok (.aload_n 0, 1) := by decide +kernel
theorem dX5_canSeatKnowing_1 : decode cX5_canSeatKnowing 1 = .ok (.getfield 46, 3) := by decide +kernel
theorem dX5_canSeatKnowing_4 : decode cX5_canSeatKnowing 4 = .ok (.bipush 60, 2) := by decide +kernel
theorem dX5_canSeatKnowing_6 : decode cX5_canSeatKnowing 6 = .ok (.if_icmp .ge 31, 3) := by decide +kernel
theorem dX5_canSeatKnowing_9 : decode cX5_canSeatKnowing 9 = .ok (.aload_n 2, 1) := by decide +kernel
theorem dX5_canSeatKnowing_10 : decode cX5_canSeatKnowing 10 = .ok (.iload_n 1, 1) := by decide +kernel
theorem dX5_canSeatKnowing_11 : decode cX5_canSeatKnowing 11 = .ok (.invokevirtual 129, 3) := by decide +kernel
theorem dX5_canSeatKnowing_14 : decode cX5_canSeatKnowing 14 = .ok (.ifCond .eq 23, 3) := by decide +kernel
theorem dX5_canSeatKnowing_17 : decode cX5_canSeatKnowing 17 = .ok (.aload_n 0, 1) := by decide +kernel
theorem dX5_canSeatKnowing_18 : decode cX5_canSeatKnowing 18 = .ok (.iload_n 1, 1) := by decide +kernel
theorem dX5_canSeatKnowing_19 : decode cX5_canSeatKnowing 19 = .ok (.invokevirtual 135, 3) := by decide +kernel
theorem dX5_canSeatKnowing_22 : decode cX5_canSeatKnowing 22 = .ok (.ifnull 15, 3) := by decide +kernel
theorem dX5_canSeatKnowing_25 : decode cX5_canSeatKnowing 25 = .ok (.aload_n 0, 1) := by decide +kernel
theorem dX5_canSeatKnowing_26 : decode cX5_canSeatKnowing 26 = .ok (.aload_n 2, 1) := by decide +kernel
theorem dX5_canSeatKnowing_27 : decode cX5_canSeatKnowing 27 = .ok (.invokevirtual 139, 3) := by decide +kernel
theorem dX5_canSeatKnowing_30 : decode cX5_canSeatKnowing 30 = .ok (.ifnull 7, 3) := by decide +kernel
theorem dX5_canSeatKnowing_33 : decode cX5_canSeatKnowing 33 = .ok (.iconst 1, 1) := by decide +kernel
theorem dX5_canSeatKnowing_34 : decode cX5_canSeatKnowing 34 = .ok (.goto 4, 3) := by decide +kernel
theorem dX5_canSeatKnowing_37 : decode cX5_canSeatKnowing 37 = .ok (.iconst 0, 1) := by decide +kernel
theorem dX5_canSeatKnowing_38 : decode cX5_canSeatKnowing 38 = .ok (.ireturn, 1) := by decide +kernel
theorem dX5_freeTableFor_0 : decode cX5_freeTableFor 0 = .ok (.aconst_null, 1) := by decide +kernel
theorem dX5_freeTableFor_1 : decode cX5_freeTableFor 1 = .ok (.astore_n 2, 1) := by decide +kernel
theorem dX5_freeTableFor_2 : decode cX5_freeTableFor 2 = .ok (.aload_n 0, 1) := by decide +kernel
theorem dX5_freeTableFor_3 : decode cX5_freeTableFor 3 = .ok (.getfield 17, 3) := by decide +kernel
theorem dX5_freeTableFor_6 : decode cX5_freeTableFor 6 = .ok (.astore_n 3, 1) := by decide +kernel
theorem dX5_freeTableFor_7 : decode cX5_freeTableFor 7 = .ok (.aload_n 3, 1) := by decide +kernel
theorem dX5_freeTableFor_8 : decode cX5_freeTableFor 8 = .ok (.arraylength, 1) := by decide +kernel
theorem dX5_freeTableFor_9 : decode cX5_freeTableFor 9 = .ok (.istore 4, 2) := by decide +kernel
theorem dX5_freeTableFor_11 : decode cX5_freeTableFor 11 = .ok (.iconst 0, 1) := by decide +kernel
theorem dX5_freeTableFor_12 : decode cX5_freeTableFor 12 = .ok (.istore 5, 2) := by decide +kernel
theorem dX5_freeTableFor_14 : decode cX5_freeTableFor 14 = .ok (.iload 5, 2) := by decide +kernel
theorem dX5_freeTableFor_16 : decode cX5_freeTableFor 16 = .ok (.iload 4, 2) := by decide +kernel
theorem dX5_freeTableFor_18 : decode cX5_freeTableFor 18 = .ok (.if_icmp .ge 64, 3) := by decide +kernel
theorem dX5_freeTableFor_21 : decode cX5_freeTableFor 21 = .ok (.aload_n 3, 1) := by decide +kernel
theorem dX5_freeTableFor_22 : decode cX5_freeTableFor 22 = .ok (.iload 5, 2) := by decide +kernel
theorem dX5_freeTableFor_24 : decode cX5_freeTableFor 24 = .ok (.aaload, 1) := by decide +kernel
theorem dX5_freeTableFor_25 : decode cX5_freeTableFor 25 = .ok (.astore 6, 2) := by decide +kernel
theorem dX5_freeTableFor_27 : decode cX5_freeTableFor 27 = .ok (.aload 6, 2) := by decide +kernel
theorem dX5_freeTableFor_29 : decode cX5_freeTableFor 29 = .ok (.getfield 80, 3) := by decide +kernel
theorem dX5_freeTableFor_32 : decode cX5_freeTableFor 32 = .ok (.iconst (-1), 1) := by decide +kernel
theorem dX5_freeTableFor_33 : decode cX5_freeTableFor 33 = .ok (.if_icmp .ne 16, 3) := by decide +kernel
theorem dX5_freeTableFor_36 : decode cX5_freeTableFor 36 = .ok (.aload 6, 2) := by decide +kernel
theorem dX5_freeTableFor_38 : decode cX5_freeTableFor 38 = .ok (.getfield 90, 3) := by decide +kernel
theorem dX5_freeTableFor_41 : decode cX5_freeTableFor 41 = .ok (.iload_n 1, 1) := by decide +kernel
theorem dX5_freeTableFor_42 : decode cX5_freeTableFor 42 = .ok (.if_icmp .lt 7, 3) := by decide +kernel
theorem dX5_freeTableFor_45 : decode cX5_freeTableFor 45 = .ok (.iconst 1, 1) := by decide +kernel
theorem dX5_freeTableFor_46 : decode cX5_freeTableFor 46 = .ok (.goto 4, 3) := by decide +kernel
theorem dX5_freeTableFor_49 : decode cX5_freeTableFor 49 = .ok (.iconst 0, 1) := by decide +kernel
theorem dX5_freeTableFor_50 : decode cX5_freeTableFor 50 = .ok (.istore 7, 2) := by decide +kernel
theorem dX5_freeTableFor_52 : decode cX5_freeTableFor 52 = .ok (.iload 7, 2) := by decide +kernel
theorem dX5_freeTableFor_54 : decode cX5_freeTableFor 54 = .ok (.ifCond .eq 22, 3) := by decide +kernel
theorem dX5_freeTableFor_57 : decode cX5_freeTableFor 57 = .ok (.aload_n 2, 1) := by decide +kernel
theorem dX5_freeTableFor_58 : decode cX5_freeTableFor 58 = .ok (.ifnull 15, 3) := by decide +kernel
theorem dX5_freeTableFor_61 : decode cX5_freeTableFor 61 = .ok (.aload 6, 2) := by decide +kernel
theorem dX5_freeTableFor_63 : decode cX5_freeTableFor 63 = .ok (.getfield 90, 3) := by decide +kernel
theorem dX5_freeTableFor_66 : decode cX5_freeTableFor 66 = .ok (.aload_n 2, 1) := by decide +kernel
theorem dX5_freeTableFor_67 : decode cX5_freeTableFor 67 = .ok (.getfield 90, 3) := by decide +kernel
theorem dX5_freeTableFor_70 : decode cX5_freeTableFor 70 = .ok (.if_icmp .ge 6, 3) := by decide +kernel
theorem dX5_freeTableFor_73 : decode cX5_freeTableFor 73 = .ok (.aload 6, 2) := by decide +kernel
theorem dX5_freeTableFor_75 : decode cX5_freeTableFor 75 = .ok (.astore_n 2, 1) := by decide +kernel
theorem dX5_freeTableFor_76 : decode cX5_freeTableFor 76 = .ok (.iinc 5 1, 3) := by decide +kernel
theorem dX5_freeTableFor_79 : decode cX5_freeTableFor 79 = .ok (.goto (-65), 3) := by decide +kernel
theorem dX5_freeTableFor_82 : decode cX5_freeTableFor 82 = .ok (.aload_n 2, 1) := by decide +kernel
theorem dX5_freeTableFor_83 : decode cX5_freeTableFor 83 = .ok (.areturn, 1) := by decide +kernel
set_option maxRecDepth 20000 in
theorem ggX5_playableCopyOf_X0_isPlayable : GoodIn wsX5_playableCopyOf wsX0_isPlayable := goodIn_r _ [8, 9, 10, 11, 21, 22, 23, 24, 25, 26, 27, 28, 29, 30] (by decide +kernel) (by decide +kernel)
set_option maxRecDepth 20000 in
theorem gX5_playableCopyOf_X0_isPlayable : GoodIn wsX5_playableCopyOf (wsV RX5 196 RX0 yX0_isPlayable wsX0_isPlayable) := goodIn_app (goodIn_of _ (by decide +kernel)) ggX5_playableCopyOf_X0_isPlayable
theorem dX5_playableCopyOf_0 : decode cX5_playableCopyOf 0 = .ok (.aload_n 0, 1) := by decide +kernel
theorem dX5_playableCopyOf_1 : decode cX5_playableCopyOf 1 = .ok (.getfield 29, 3) := by decide +kernel
theorem dX5_playableCopyOf_4 : decode cX5_playableCopyOf 4 = .ok (.astore_n 2, 1) := by decide +kernel
theorem dX5_playableCopyOf_5 : decode cX5_playableCopyOf 5 = .ok (.aload_n 2, 1) := by decide +kernel
theorem dX5_playableCopyOf_6 : decode cX5_playableCopyOf 6 = .ok (.arraylength, 1) := by decide +kernel
theorem dX5_playableCopyOf_7 : decode cX5_playableCopyOf 7 = .ok (.istore_n 3, 1) := by decide +kernel
theorem dX5_playableCopyOf_8 : decode cX5_playableCopyOf 8 = .ok (.iconst 0, 1) := by decide +kernel
theorem dX5_playableCopyOf_9 : decode cX5_playableCopyOf 9 = .ok (.istore 4, 2) := by decide +kernel
theorem dX5_playableCopyOf_11 : decode cX5_playableCopyOf 11 = .ok (.iload 4, 2) := by decide +kernel
theorem dX5_playableCopyOf_13 : decode cX5_playableCopyOf 13 = .ok (.iload_n 3, 1) := by decide +kernel
theorem dX5_playableCopyOf_14 : decode cX5_playableCopyOf 14 = .ok (.if_icmp .ge 48, 3) := by decide +kernel
theorem dX5_playableCopyOf_17 : decode cX5_playableCopyOf 17 = .ok (.aload_n 2, 1) := by decide +kernel
theorem dX5_playableCopyOf_18 : decode cX5_playableCopyOf 18 = .ok (.iload 4, 2) := by decide +kernel
theorem dX5_playableCopyOf_20 : decode cX5_playableCopyOf 20 = .ok (.aaload, 1) := by decide +kernel
theorem dX5_playableCopyOf_21 : decode cX5_playableCopyOf 21 = .ok (.astore 5, 2) := by decide +kernel
theorem dX5_playableCopyOf_23 : decode cX5_playableCopyOf 23 = .ok (.aload 5, 2) := by decide +kernel
theorem dX5_playableCopyOf_25 : decode cX5_playableCopyOf 25 = .ok (.ifnull 31, 3) := by decide +kernel
theorem dX5_playableCopyOf_28 : decode cX5_playableCopyOf 28 = .ok (.aload 5, 2) := by decide +kernel
theorem dX5_playableCopyOf_30 : decode cX5_playableCopyOf 30 = .ok (.getfield 114, 3) := by decide +kernel
theorem dX5_playableCopyOf_33 : decode cX5_playableCopyOf 33 = .ok (.aload_n 1, 1) := by decide +kernel
theorem dX5_playableCopyOf_34 : decode cX5_playableCopyOf 34 = .ok (.if_acmp .ne 22, 3) := by decide +kernel
theorem dX5_playableCopyOf_37 : decode cX5_playableCopyOf 37 = .ok (.aload 5, 2) := by decide +kernel
theorem dX5_playableCopyOf_39 : decode cX5_playableCopyOf 39 = .ok (.getfield 109, 3) := by decide +kernel
theorem dX5_playableCopyOf_42 : decode cX5_playableCopyOf 42 = .ok (.ifCond .ne 14, 3) := by decide +kernel
theorem dX5_playableCopyOf_45 : decode cX5_playableCopyOf 45 = .ok (.aload 5, 2) := by decide +kernel
theorem dX5_playableCopyOf_47 : decode cX5_playableCopyOf 47 = .ok (.invokevirtual 196, 3) := by decide +kernel
theorem dX5_playableCopyOf_50 : decode cX5_playableCopyOf 50 = .ok (.ifCond .eq 6, 3) := by decide +kernel
theorem dX5_playableCopyOf_53 : decode cX5_playableCopyOf 53 = .ok (.aload 5, 2) := by decide +kernel
theorem dX5_playableCopyOf_55 : decode cX5_playableCopyOf 55 = .ok (.areturn, 1) := by decide +kernel
theorem dX5_playableCopyOf_56 : decode cX5_playableCopyOf 56 = .ok (.iinc 4 1, 3) := by decide +kernel
theorem dX5_playableCopyOf_59 : decode cX5_playableCopyOf 59 = .ok (.goto (-48), 3) := by decide +kernel
theorem dX5_playableCopyOf_62 : decode cX5_playableCopyOf 62 = .ok (.aconst_null, 1) := by decide +kernel
theorem dX5_playableCopyOf_63 : decode cX5_playableCopyOf 63 = .ok (.areturn, 1) := by decide +kernel
theorem dX5_freeTeacherOf_0 : decode cX5_freeTeacherOf 0 = .ok (.aload_n 0, 1) := by decide +kernel
theorem dX5_freeTeacherOf_1 : decode cX5_freeTeacherOf 1 = .ok (.getfield 23, 3) := by decide +kernel
theorem dX5_freeTeacherOf_4 : decode cX5_freeTeacherOf 4 = .ok (.astore_n 2, 1) := by decide +kernel
theorem dX5_freeTeacherOf_5 : decode cX5_freeTeacherOf 5 = .ok (.aload_n 2, 1) := by decide +kernel
theorem dX5_freeTeacherOf_6 : decode cX5_freeTeacherOf 6 = .ok (.arraylength, 1) := by decide +kernel
theorem dX5_freeTeacherOf_7 : decode cX5_freeTeacherOf 7 = .ok (.istore_n 3, 1) := by decide +kernel
theorem dX5_freeTeacherOf_8 : decode cX5_freeTeacherOf 8 = .ok (.iconst 0, 1) := by decide +kernel
theorem dX5_freeTeacherOf_9 : decode cX5_freeTeacherOf 9 = .ok (.istore 4, 2) := by decide +kernel
theorem dX5_freeTeacherOf_11 : decode cX5_freeTeacherOf 11 = .ok (.iload 4, 2) := by decide +kernel
theorem dX5_freeTeacherOf_13 : decode cX5_freeTeacherOf 13 = .ok (.iload_n 3, 1) := by decide +kernel
theorem dX5_freeTeacherOf_14 : decode cX5_freeTeacherOf 14 = .ok (.if_icmp .ge 40, 3) := by decide +kernel
theorem dX5_freeTeacherOf_17 : decode cX5_freeTeacherOf 17 = .ok (.aload_n 2, 1) := by decide +kernel
theorem dX5_freeTeacherOf_18 : decode cX5_freeTeacherOf 18 = .ok (.iload 4, 2) := by decide +kernel
theorem dX5_freeTeacherOf_20 : decode cX5_freeTeacherOf 20 = .ok (.aaload, 1) := by decide +kernel
theorem dX5_freeTeacherOf_21 : decode cX5_freeTeacherOf 21 = .ok (.astore 5, 2) := by decide +kernel
theorem dX5_freeTeacherOf_23 : decode cX5_freeTeacherOf 23 = .ok (.aload 5, 2) := by decide +kernel
theorem dX5_freeTeacherOf_25 : decode cX5_freeTeacherOf 25 = .ok (.getfield 93, 3) := by decide +kernel
theorem dX5_freeTeacherOf_28 : decode cX5_freeTeacherOf 28 = .ok (.iload_n 1, 1) := by decide +kernel
theorem dX5_freeTeacherOf_29 : decode cX5_freeTeacherOf 29 = .ok (.baload, 1) := by decide +kernel
theorem dX5_freeTeacherOf_30 : decode cX5_freeTeacherOf 30 = .ok (.ifCond .eq 18, 3) := by decide +kernel
theorem dX5_freeTeacherOf_33 : decode cX5_freeTeacherOf 33 = .ok (.aload 5, 2) := by decide +kernel
theorem dX5_freeTeacherOf_35 : decode cX5_freeTeacherOf 35 = .ok (.getfield 149, 3) := by decide +kernel
theorem dX5_freeTeacherOf_38 : decode cX5_freeTeacherOf 38 = .ok (.aload_n 0, 1) := by decide +kernel
theorem dX5_freeTeacherOf_39 : decode cX5_freeTeacherOf 39 = .ok (.getfield 49, 3) := by decide +kernel
theorem dX5_freeTeacherOf_42 : decode cX5_freeTeacherOf 42 = .ok (.if_icmp .gt 6, 3) := by decide +kernel
theorem dX5_freeTeacherOf_45 : decode cX5_freeTeacherOf 45 = .ok (.aload 5, 2) := by decide +kernel
theorem dX5_freeTeacherOf_47 : decode cX5_freeTeacherOf 47 = .ok (.areturn, 1) := by decide +kernel
theorem dX5_freeTeacherOf_48 : decode cX5_freeTeacherOf 48 = .ok (.iinc 4 1, 3) := by decide +kernel
theorem dX5_freeTeacherOf_51 : decode cX5_freeTeacherOf 51 = .ok (.goto (-40), 3) := by decide +kernel
theorem dX5_freeTeacherOf_54 : decode cX5_freeTeacherOf 54 = .ok (.aconst_null, 1) := by decide +kernel
theorem dX5_freeTeacherOf_55 : decode cX5_freeTeacherOf 55 = .ok (.areturn, 1) := by decide +kernel
theorem dX5_copyNumbered_0 : decode cX5_copyNumbered 0 = .ok (.iload_n 1, 1) := by decide +kernel
theorem dX5_copyNumbered_1 : decode cX5_copyNumbered 1 = .ok (.ifCond .lt 18, 3) := by decide +kernel
theorem dX5_copyNumbered_4 : decode cX5_copyNumbered 4 = .ok (.iload_n 1, 1) := by decide +kernel
theorem dX5_copyNumbered_5 : decode cX5_copyNumbered 5 = .ok (.bipush 15, 2) := by decide +kernel
theorem dX5_copyNumbered_7 : decode cX5_copyNumbered 7 = .ok (.if_icmp .ge 12, 3) := by decide +kernel
theorem dX5_copyNumbered_10 : decode cX5_copyNumbered 10 = .ok (.aload_n 0, 1) := by decide +kernel
theorem dX5_copyNumbered_11 : decode cX5_copyNumbered 11 = .ok (.getfield 29, 3) := by decide +kernel
theorem dX5_copyNumbered_14 : decode cX5_copyNumbered 14 = .ok (.iload_n 1, 1) := by decide +kernel
theorem dX5_copyNumbered_15 : decode cX5_copyNumbered 15 = .ok (.aaload, 1) := by decide +kernel
theorem dX5_copyNumbered_16 : decode cX5_copyNumbered 16 = .ok (.ifnonnull 13, 3) := by decide +kernel
theorem dX5_copyNumbered_19 : decode cX5_copyNumbered 19 = .ok (.new 211, 3) := by decide +kernel
theorem dX5_copyNumbered_22 : decode cX5_copyNumbered 22 = .ok (.dup, 1) := by decide +kernel
theorem dX5_copyNumbered_23 : decode cX5_copyNumbered 23 = .ok (.ldc 213, 2) := by decide +kernel
theorem dX5_copyNumbered_25 : decode cX5_copyNumbered 25 = .ok (.invokespecial 215, 3) := by decide +kernel
theorem dX5_copyNumbered_28 : decode cX5_copyNumbered 28 = .ok (.athrow, 1) := by decide +kernel
theorem dX5_copyNumbered_29 : decode cX5_copyNumbered 29 = .ok (.aload_n 0, 1) := by decide +kernel
theorem dX5_copyNumbered_30 : decode cX5_copyNumbered 30 = .ok (.getfield 29, 3) := by decide +kernel
theorem dX5_copyNumbered_33 : decode cX5_copyNumbered 33 = .ok (.iload_n 1, 1) := by decide +kernel
theorem dX5_copyNumbered_34 : decode cX5_copyNumbered 34 = .ok (.aaload, 1) := by decide +kernel
theorem dX5_copyNumbered_35 : decode cX5_copyNumbered 35 = .ok (.areturn, 1) := by decide +kernel
theorem dX5_groupNumbered_0 : decode cX5_groupNumbered 0 = .ok (.iload_n 1, 1) := by decide +kernel
theorem dX5_groupNumbered_1 : decode cX5_groupNumbered 1 = .ok (.ifCond .lt 18, 3) := by decide +kernel
theorem dX5_groupNumbered_4 : decode cX5_groupNumbered 4 = .ok (.iload_n 1, 1) := by decide +kernel
theorem dX5_groupNumbered_5 : decode cX5_groupNumbered 5 = .ok (.bipush 60, 2) := by decide +kernel
theorem dX5_groupNumbered_7 : decode cX5_groupNumbered 7 = .ok (.if_icmp .ge 12, 3) := by decide +kernel
theorem dX5_groupNumbered_10 : decode cX5_groupNumbered 10 = .ok (.aload_n 0, 1) := by decide +kernel
theorem dX5_groupNumbered_11 : decode cX5_groupNumbered 11 = .ok (.getfield 35, 3) := by decide +kernel
theorem dX5_groupNumbered_14 : decode cX5_groupNumbered 14 = .ok (.iload_n 1, 1) := by decide +kernel
theorem dX5_groupNumbered_15 : decode cX5_groupNumbered 15 = .ok (.aaload, 1) := by decide +kernel
theorem dX5_groupNumbered_16 : decode cX5_groupNumbered 16 = .ok (.ifnonnull 13, 3) := by decide +kernel
theorem dX5_groupNumbered_19 : decode cX5_groupNumbered 19 = .ok (.new 211, 3) := by decide +kernel
theorem dX5_groupNumbered_22 : decode cX5_groupNumbered 22 = .ok (.dup, 1) := by decide +kernel
theorem dX5_groupNumbered_23 : decode cX5_groupNumbered 23 = .ok (.ldc 216, 2) := by decide +kernel
theorem dX5_groupNumbered_25 : decode cX5_groupNumbered 25 = .ok (.invokespecial 215, 3) := by decide +kernel
theorem dX5_groupNumbered_28 : decode cX5_groupNumbered 28 = .ok (.athrow, 1) := by decide +kernel
theorem dX5_groupNumbered_29 : decode cX5_groupNumbered 29 = .ok (.aload_n 0, 1) := by decide +kernel
theorem dX5_groupNumbered_30 : decode cX5_groupNumbered 30 = .ok (.getfield 35, 3) := by decide +kernel
theorem dX5_groupNumbered_33 : decode cX5_groupNumbered 33 = .ok (.iload_n 1, 1) := by decide +kernel
theorem dX5_groupNumbered_34 : decode cX5_groupNumbered 34 = .ok (.aaload, 1) := by decide +kernel
theorem dX5_groupNumbered_35 : decode cX5_groupNumbered 35 = .ok (.areturn, 1) := by decide +kernel
theorem dX5_worthOfPart_0 : decode cX5_worthOfPart 0 = .ok (.bipush 100, 2) := by decide +kernel
theorem dX5_worthOfPart_2 : decode cX5_worthOfPart 2 = .ok (.iload_n 0, 1) := by decide +kernel
theorem dX5_worthOfPart_3 : decode cX5_worthOfPart 3 = .ok (.iconst 1, 1) := by decide +kernel
theorem dX5_worthOfPart_4 : decode cX5_worthOfPart 4 = .ok (.iadd, 1) := by decide +kernel
theorem dX5_worthOfPart_5 : decode cX5_worthOfPart 5 = .ok (.imul, 1) := by decide +kernel
theorem dX5_worthOfPart_6 : decode cX5_worthOfPart 6 = .ok (.ireturn, 1) := by decide +kernel
theorem dX5_checkNumber_0 : decode cX5_checkNumber 0 = .ok (.iload_n 0, 1) := by decide +kernel
theorem dX5_checkNumber_1 : decode cX5_checkNumber 1 = .ok (.ifCond .lt 8, 3) := by decide +kernel
theorem dX5_checkNumber_4 : decode cX5_checkNumber 4 = .ok (.iload_n 0, 1) := by decide +kernel
theorem dX5_checkNumber_5 : decode cX5_checkNumber 5 = .ok (.iload_n 1, 1) := by decide +kernel
theorem dX5_checkNumber_6 : decode cX5_checkNumber 6 = .ok (.if_icmp .lt 13, 3) := by decide +kernel
theorem dX5_checkNumber_9 : decode cX5_checkNumber 9 = .ok (.new 211, 3) := by decide +kernel
theorem dX5_checkNumber_12 : decode cX5_checkNumber 12 = .ok (.dup, 1) := by decide +kernel
theorem dX5_checkNumber_13 : decode cX5_checkNumber 13 = .ok (.ldc 218, 2) := by decide +kernel
theorem dX5_checkNumber_15 : decode cX5_checkNumber 15 = .ok (.invokespecial 215, 3) := by decide +kernel
theorem dX5_checkNumber_18 : decode cX5_checkNumber 18 = .ok (.athrow, 1) := by decide +kernel
theorem dX5_checkNumber_19 : decode cX5_checkNumber 19 = .ok (.return_, 1) := by decide +kernel
theorem dX5_checkRange_0 : decode cX5_checkRange 0 = .ok (.iload_n 0, 1) := by decide +kernel
theorem dX5_checkRange_1 : decode cX5_checkRange 1 = .ok (.iload_n 1, 1) := by decide +kernel
theorem dX5_checkRange_2 : decode cX5_checkRange 2 = .ok (.if_icmp .lt 8, 3) := by decide +kernel
theorem dX5_checkRange_5 : decode cX5_checkRange 5 = .ok (.iload_n 0, 1) := by decide +kernel
theorem dX5_checkRange_6 : decode cX5_checkRange 6 = .ok (.iload_n 2, 1) := by decide +kernel
theorem dX5_checkRange_7 : decode cX5_checkRange 7 = .ok (.if_icmp .le 13, 3) := by decide +kernel
theorem dX5_checkRange_10 : decode cX5_checkRange 10 = .ok (.new 118, 3) := by decide +kernel
theorem dX5_checkRange_13 : decode cX5_checkRange 13 = .ok (.dup, 1) := by decide +kernel
theorem dX5_checkRange_14 : decode cX5_checkRange 14 = .ok (.ldc 220, 2) := by decide +kernel
theorem dX5_checkRange_16 : decode cX5_checkRange 16 = .ok (.invokespecial 122, 3) := by decide +kernel
theorem dX5_checkRange_19 : decode cX5_checkRange 19 = .ok (.athrow, 1) := by decide +kernel
theorem dX5_checkRange_20 : decode cX5_checkRange 20 = .ok (.return_, 1) := by decide +kernel
end
section
theorem dX6_init_0 : decode cX6_init 0 = .ok (.aload_n 0, 1) := by decide +kernel
theorem dX6_init_1 : decode cX6_init 1 = .ok (.invokespecial 1, 3) := by decide +kernel
theorem dX6_init_4 : decode cX6_init 4 = .ok (.aload_n 0, 1) := by decide +kernel
theorem dX6_init_5 : decode cX6_init 5 = .ok (.iconst 5, 1) := by decide +kernel
theorem dX6_init_6 : decode cX6_init 6 = .ok (.newarray .int, 2) := by decide +kernel
theorem dX6_init_8 : decode cX6_init 8 = .ok (.putfield 7, 3) := by decide +kernel
theorem dX6_init_11 : decode cX6_init 11 = .ok (.aload_n 0, 1) := by decide +kernel
theorem dX6_init_12 : decode cX6_init 12 = .ok (.iconst 5, 1) := by decide +kernel
theorem dX6_init_13 : decode cX6_init 13 = .ok (.newarray .int, 2) := by decide +kernel
theorem dX6_init_15 : decode cX6_init 15 = .ok (.putfield 13, 3) := by decide +kernel
theorem dX6_init_18 : decode cX6_init 18 = .ok (.aload_n 0, 1) := by decide +kernel
theorem dX6_init_19 : decode cX6_init 19 = .ok (.iconst 5, 1) := by decide +kernel
theorem dX6_init_20 : decode cX6_init 20 = .ok (.newarray .int, 2) := by decide +kernel
theorem dX6_init_22 : decode cX6_init 22 = .ok (.putfield 16, 3) := by decide +kernel
theorem dX6_init_25 : decode cX6_init 25 = .ok (.aload_n 0, 1) := by decide +kernel
theorem dX6_init_26 : decode cX6_init 26 = .ok (.bipush 20, 2) := by decide +kernel
theorem dX6_init_28 : decode cX6_init 28 = .ok (.newarray .int, 2) := by decide +kernel
theorem dX6_init_30 : decode cX6_init 30 = .ok (.putfield 19, 3) := by decide +kernel
theorem dX6_init_33 : decode cX6_init 33 = .ok (.aload_n 0, 1) := by decide +kernel
theorem dX6_init_34 : decode cX6_init 34 = .ok (.bipush 20, 2) := by decide +kernel
theorem dX6_init_36 : decode cX6_init 36 = .ok (.newarray .int, 2) := by decide +kernel
theorem dX6_init_38 : decode cX6_init 38 = .ok (.putfield 22, 3) := by decide +kernel
theorem dX6_init_41 : decode cX6_init 41 = .ok (.aload_n 0, 1) := by decide +kernel
theorem dX6_init_42 : decode cX6_init 42 = .ok (.iconst 5, 1) := by decide +kernel
theorem dX6_init_43 : decode cX6_init 43 = .ok (.newarray .int, 2) := by decide +kernel
theorem dX6_init_45 : decode cX6_init 45 = .ok (.putfield 25, 3) := by decide +kernel
theorem dX6_init_48 : decode cX6_init 48 = .ok (.aload_n 0, 1) := by decide +kernel
theorem dX6_init_49 : decode cX6_init 49 = .ok (.bipush 6, 2) := by decide +kernel
theorem dX6_init_51 : decode cX6_init 51 = .ok (.newarray .int, 2) := by decide +kernel
theorem dX6_init_53 : decode cX6_init 53 = .ok (.putfield 28, 3) := by decide +kernel
theorem dX6_init_56 : decode cX6_init 56 = .ok (.aload_n 0, 1) := by decide +kernel
theorem dX6_init_57 : decode cX6_init 57 = .ok (.bipush 6, 2) := by decide +kernel
theorem dX6_init_59 : decode cX6_init 59 = .ok (.newarray .int, 2) := by decide +kernel
theorem dX6_init_61 : decode cX6_init 61 = .ok (.putfield 31, 3) := by decide +kernel
theorem dX6_init_64 : decode cX6_init 64 = .ok (.aload_n 0, 1) := by decide +kernel
theorem dX6_init_65 : decode cX6_init 65 = .ok (.bipush 15, 2) := by decide +kernel
theorem dX6_init_67 : decode cX6_init 67 = .ok (.newarray .int, 2) := by decide +kernel
theorem dX6_init_69 : decode cX6_init 69 = .ok (.putfield 34, 3) := by decide +kernel
theorem dX6_init_72 : decode cX6_init 72 = .ok (.aload_n 0, 1) := by decide +kernel
theorem dX6_init_73 : decode cX6_init 73 = .ok (.iconst 3, 1) := by decide +kernel
theorem dX6_init_74 : decode cX6_init 74 = .ok (.newarray .int, 2) := by decide +kernel
theorem dX6_init_76 : decode cX6_init 76 = .ok (.putfield 37, 3) := by decide +kernel
theorem dX6_init_79 : decode cX6_init 79 = .ok (.aload_n 0, 1) := by decide +kernel
theorem dX6_init_80 : decode cX6_init 80 = .ok (.bipush 15, 2) := by decide +kernel
theorem dX6_init_82 : decode cX6_init 82 = .ok (.newarray .int, 2) := by decide +kernel
theorem dX6_init_84 : decode cX6_init 84 = .ok (.putfield 40, 3) := by decide +kernel
theorem dX6_init_87 : decode cX6_init 87 = .ok (.aload_n 0, 1) := by decide +kernel
theorem dX6_init_88 : decode cX6_init 88 = .ok (.bipush 15, 2) := by decide +kernel
theorem dX6_init_90 : decode cX6_init 90 = .ok (.newarray .int, 2) := by decide +kernel
theorem dX6_init_92 : decode cX6_init 92 = .ok (.putfield 43, 3) := by decide +kernel
theorem dX6_init_95 : decode cX6_init 95 = .ok (.aload_n 0, 1) := by decide +kernel
theorem dX6_init_96 : decode cX6_init 96 = .ok (.bipush 60, 2) := by decide +kernel
theorem dX6_init_98 : decode cX6_init 98 = .ok (.newarray .int, 2) := by decide +kernel
theorem dX6_init_100 : decode cX6_init 100 = .ok (.putfield 46, 3) := by decide +kernel
theorem dX6_init_103 : decode cX6_init 103 = .ok (.aload_n 0, 1) := by decide +kernel
theorem dX6_init_104 : decode cX6_init 104 = .ok (.bipush 60, 2) := by decide +kernel
theorem dX6_init_106 : decode cX6_init 106 = .ok (.newarray .int, 2) := by decide +kernel
theorem dX6_init_108 : decode cX6_init 108 = .ok (.putfield 49, 3) := by decide +kernel
theorem dX6_init_111 : decode cX6_init 111 = .ok (.aload_n 0, 1) := by decide +kernel
theorem dX6_init_112 : decode cX6_init 112 = .ok (.bipush 60, 2) := by decide +kernel
theorem dX6_init_114 : decode cX6_init 114 = .ok (.newarray .int, 2) := by decide +kernel
theorem dX6_init_116 : decode cX6_init 116 = .ok (.putfield 52, 3) := by decide +kernel
theorem dX6_init_119 : decode cX6_init 119 = .ok (.aload_n 0, 1) := by decide +kernel
theorem dX6_init_120 : decode cX6_init 120 = .ok (.bipush 60, 2) := by decide +kernel
theorem dX6_init_122 : decode cX6_init 122 = .ok (.newarray .int, 2) := by decide +kernel
theorem dX6_init_124 : decode cX6_init 124 = .ok (.putfield 55, 3) := by decide +kernel
theorem dX6_init_127 : decode cX6_init 127 = .ok (.aload_n 0, 1) := by decide +kernel
theorem dX6_init_128 : decode cX6_init 128 = .ok (.bipush 60, 2) := by decide +kernel
theorem dX6_init_130 : decode cX6_init 130 = .ok (.newarray .int, 2) := by decide +kernel
theorem dX6_init_132 : decode cX6_init 132 = .ok (.putfield 58, 3) := by decide +kernel
theorem dX6_init_135 : decode cX6_init 135 = .ok (.aload_n 0, 1) := by decide +kernel
theorem dX6_init_136 : decode cX6_init 136 = .ok (.bipush 60, 2) := by decide +kernel
theorem dX6_init_138 : decode cX6_init 138 = .ok (.newarray .int, 2) := by decide +kernel
theorem dX6_init_140 : decode cX6_init 140 = .ok (.putfield 61, 3) := by decide +kernel
theorem dX6_init_143 : decode cX6_init 143 = .ok (.aload_n 0, 1) := by decide +kernel
theorem dX6_init_144 : decode cX6_init 144 = .ok (.bipush 6, 2) := by decide +kernel
theorem dX6_init_146 : decode cX6_init 146 = .ok (.newarray .int, 2) := by decide +kernel
theorem dX6_init_148 : decode cX6_init 148 = .ok (.putfield 64, 3) := by decide +kernel
theorem dX6_init_151 : decode cX6_init 151 = .ok (.aload_n 0, 1) := by decide +kernel
theorem dX6_init_152 : decode cX6_init 152 = .ok (.bipush 6, 2) := by decide +kernel
theorem dX6_init_154 : decode cX6_init 154 = .ok (.newarray .int, 2) := by decide +kernel
theorem dX6_init_156 : decode cX6_init 156 = .ok (.putfield 67, 3) := by decide +kernel
theorem dX6_init_159 : decode cX6_init 159 = .ok (.iconst 0, 1) := by decide +kernel
theorem dX6_init_160 : decode cX6_init 160 = .ok (.istore_n 1, 1) := by decide +kernel
theorem dX6_init_161 : decode cX6_init 161 = .ok (.iload_n 1, 1) := by decide +kernel
theorem dX6_init_162 : decode cX6_init 162 = .ok (.iconst 5, 1) := by decide +kernel
theorem dX6_init_163 : decode cX6_init 163 = .ok (.if_icmp .ge 31, 3) := by decide +kernel
theorem dX6_init_166 : decode cX6_init 166 = .ok (.aload_n 0, 1) := by decide +kernel
theorem dX6_init_167 : decode cX6_init 167 = .ok (.getfield 7, 3) := by decide +kernel
theorem dX6_init_170 : decode cX6_init 170 = .ok (.iload_n 1, 1) := by decide +kernel
theorem dX6_init_171 : decode cX6_init 171 = .ok (.iconst 2, 1) := by decide +kernel
theorem dX6_init_172 : decode cX6_init 172 = .ok (.iastore, 1) := by decide +kernel
theorem dX6_init_173 : decode cX6_init 173 = .ok (.aload_n 0, 1) := by decide +kernel
theorem dX6_init_174 : decode cX6_init 174 = .ok (.getfield 13, 3) := by decide +kernel
theorem dX6_init_177 : decode cX6_init 177 = .ok (.iload_n 1, 1) := by decide +kernel
theorem dX6_init_178 : decode cX6_init 178 = .ok (.iconst 4, 1) := by decide +kernel
theorem dX6_init_179 : decode cX6_init 179 = .ok (.iastore, 1) := by decide +kernel
theorem dX6_init_180 : decode cX6_init 180 = .ok (.aload_n 0, 1) := by decide +kernel
theorem dX6_init_181 : decode cX6_init 181 = .ok (.getfield 16, 3) := by decide +kernel
theorem dX6_init_184 : decode cX6_init 184 = .ok (.iload_n 1, 1) := by decide +kernel
theorem dX6_init_185 : decode cX6_init 185 = .ok (.bipush 10, 2) := by decide +kernel
theorem dX6_init_187 : decode cX6_init 187 = .ok (.iastore, 1) := by decide +kernel
theorem dX6_init_188 : decode cX6_init 188 = .ok (.iinc 1 1, 3) := by decide +kernel
theorem dX6_init_191 : decode cX6_init 191 = .ok (.goto (-30), 3) := by decide +kernel
theorem dX6_init_194 : decode cX6_init 194 = .ok (.iconst 0, 1) := by decide +kernel
theorem dX6_init_195 : decode cX6_init 195 = .ok (.istore_n 1, 1) := by decide +kernel
theorem dX6_init_196 : decode cX6_init 196 = .ok (.iload_n 1, 1) := by decide +kernel
theorem dX6_init_197 : decode cX6_init 197 = .ok (.bipush 20, 2) := by decide +kernel
theorem dX6_init_199 : decode cX6_init 199 = .ok (.if_icmp .ge 23, 3) := by decide +kernel
theorem dX6_init_202 : decode cX6_init 202 = .ok (.aload_n 0, 1) := by decide +kernel
theorem dX6_init_203 : decode cX6_init 203 = .ok (.getfield 19, 3) := by decide +kernel
theorem dX6_init_206 : decode cX6_init 206 = .ok (.iload_n 1, 1) := by decide +kernel
theorem dX6_init_207 : decode cX6_init 207 = .ok (.iconst 5, 1) := by decide +kernel
theorem dX6_init_208 : decode cX6_init 208 = .ok (.iastore, 1) := by decide +kernel
theorem dX6_init_209 : decode cX6_init 209 = .ok (.aload_n 0, 1) := by decide +kernel
theorem dX6_init_210 : decode cX6_init 210 = .ok (.getfield 22, 3) := by decide +kernel
theorem dX6_init_213 : decode cX6_init 213 = .ok (.iload_n 1, 1) := by decide +kernel
theorem dX6_init_214 : decode cX6_init 214 = .ok (.iconst 4, 1) := by decide +kernel
theorem dX6_init_215 : decode cX6_init 215 = .ok (.iastore, 1) := by decide +kernel
theorem dX6_init_216 : decode cX6_init 216 = .ok (.iinc 1 1, 3) := by decide +kernel
theorem dX6_init_219 : decode cX6_init 219 = .ok (.goto (-23), 3) := by decide +kernel
theorem dX6_init_222 : decode cX6_init 222 = .ok (.iconst 0, 1) := by decide +kernel
theorem dX6_init_223 : decode cX6_init 223 = .ok (.istore_n 1, 1) := by decide +kernel
theorem dX6_init_224 : decode cX6_init 224 = .ok (.iload_n 1, 1) := by decide +kernel
theorem dX6_init_225 : decode cX6_init 225 = .ok (.bipush 6, 2) := by decide +kernel
theorem dX6_init_227 : decode cX6_init 227 = .ok (.if_icmp .ge 18, 3) := by decide +kernel
theorem dX6_init_230 : decode cX6_init 230 = .ok (.aload_n 0, 1) := by decide +kernel
theorem dX6_init_231 : decode cX6_init 231 = .ok (.getfield 28, 3) := by decide +kernel
theorem dX6_init_234 : decode cX6_init 234 = .ok (.iload_n 1, 1) := by decide +kernel
theorem dX6_init_235 : decode cX6_init 235 = .ok (.iload_n 1, 1) := by decide +kernel
theorem dX6_init_236 : decode cX6_init 236 = .ok (.iconst 2, 1) := by decide +kernel
theorem dX6_init_237 : decode cX6_init 237 = .ok (.iadd, 1) := by decide +kernel
theorem dX6_init_238 : decode cX6_init 238 = .ok (.iastore, 1) := by decide +kernel
theorem dX6_init_239 : decode cX6_init 239 = .ok (.iinc 1 1, 3) := by decide +kernel
theorem dX6_init_242 : decode cX6_init 242 = .ok (.goto (-18), 3) := by decide +kernel
theorem dX6_init_245 : decode cX6_init 245 = .ok (.return_, 1) := by decide +kernel
theorem dX6_thrown_0 : decode cX6_thrown 0 = .ok (.aload_n 0, 1) := by decide +kernel
theorem dX6_thrown_1 : decode cX6_thrown 1 = .ok (.getfield 70, 3) := by decide +kernel
theorem dX6_thrown_4 : decode cX6_thrown 4 = .ok (.ireturn, 1) := by decide +kernel
theorem dX6_fails_0 : decode cX6_fails 0 = .ok (.aload_n 0, 1) := by decide +kernel
theorem dX6_fails_1 : decode cX6_fails 1 = .ok (.iload_n 1, 1) := by decide +kernel
theorem dX6_fails_2 : decode cX6_fails 2 = .ok (.putfield 70, 3) := by decide +kernel
theorem dX6_fails_5 : decode cX6_fails 5 = .ok (.iconst 0, 1) := by decide +kernel
theorem dX6_fails_6 : decode cX6_fails 6 = .ok (.ireturn, 1) := by decide +kernel
theorem dX6_in_0 : decode cX6_in 0 = .ok (.iload_n 0, 1) := by decide +kernel
theorem dX6_in_1 : decode cX6_in 1 = .ok (.iload_n 1, 1) := by decide +kernel
theorem dX6_in_2 : decode cX6_in 2 = .ok (.if_icmp .lt 12, 3) := by decide +kernel
theorem dX6_in_5 : decode cX6_in 5 = .ok (.iload_n 0, 1) := by decide +kernel
theorem dX6_in_6 : decode cX6_in 6 = .ok (.iload_n 2, 1) := by decide +kernel
theorem dX6_in_7 : decode cX6_in 7 = .ok (.if_icmp .gt 7, 3) := by decide +kernel
theorem dX6_in_10 : decode cX6_in 10 = .ok (.iconst 1, 1) := by decide +kernel
theorem dX6_in_11 : decode cX6_in 11 = .ok (.goto 4, 3) := by decide +kernel
theorem dX6_in_14 : decode cX6_in 14 = .ok (.iconst 0, 1) := by decide +kernel
theorem dX6_in_15 : decode cX6_in 15 = .ok (.ireturn, 1) := by decide +kernel
set_option maxRecDepth 20000 in
theorem ggX6_isGame_X6_in : GoodIn wsX6_isGame wsX6_in := goodIn_r _ [4] (by decide +kernel) (by decide +kernel)
set_option maxRecDepth 20000 in
theorem gX6_isGame_X6_in : GoodIn wsX6_isGame (va_wsS RX6 74 yX6_in wsX6_in) := goodIn_app (goodIn_of _ (by decide +kernel)) ggX6_isGame_X6_in
theorem dX6_isGame_0 : decode cX6_isGame 0 = .ok (.iload_n 0, 1) := by decide +kernel
theorem dX6_isGame_1 : decode cX6_isGame 1 = .ok (.iconst 0, 1) := by decide +kernel
theorem dX6_isGame_2 : decode cX6_isGame 2 = .ok (.iconst 4, 1) := by decide +kernel
theorem dX6_isGame_3 : decode cX6_isGame 3 = .ok (.invokestatic 74, 3) := by decide +kernel
theorem dX6_isGame_6 : decode cX6_isGame 6 = .ok (.ireturn, 1) := by decide +kernel
set_option maxRecDepth 20000 in
theorem ggX6_isCopy_X6_in : GoodIn wsX6_isCopy wsX6_in := goodIn_r _ [5] (by decide +kernel) (by decide +kernel)
set_option maxRecDepth 20000 in
theorem gX6_isCopy_X6_in : GoodIn wsX6_isCopy (va_wsS RX6 74 yX6_in wsX6_in) := goodIn_app (goodIn_of _ (by decide +kernel)) ggX6_isCopy_X6_in
theorem dX6_isCopy_0 : decode cX6_isCopy 0 = .ok (.iload_n 1, 1) := by decide +kernel
theorem dX6_isCopy_1 : decode cX6_isCopy 1 = .ok (.iconst 0, 1) := by decide +kernel
theorem dX6_isCopy_2 : decode cX6_isCopy 2 = .ok (.aload_n 0, 1) := by decide +kernel
theorem dX6_isCopy_3 : decode cX6_isCopy 3 = .ok (.getfield 78, 3) := by decide +kernel
theorem dX6_isCopy_6 : decode cX6_isCopy 6 = .ok (.iconst 1, 1) := by decide +kernel
theorem dX6_isCopy_7 : decode cX6_isCopy 7 = .ok (.isub, 1) := by decide +kernel
theorem dX6_isCopy_8 : decode cX6_isCopy 8 = .ok (.invokestatic 74, 3) := by decide +kernel
theorem dX6_isCopy_11 : decode cX6_isCopy 11 = .ok (.ireturn, 1) := by decide +kernel
set_option maxRecDepth 20000 in
theorem ggX6_isThere_X6_in : GoodIn wsX6_isThere wsX6_in := goodIn_r _ [7] (by decide +kernel) (by decide +kernel)
set_option maxRecDepth 20000 in
theorem gX6_isThere_X6_in : GoodIn wsX6_isThere (va_wsS RX6 74 yX6_in wsX6_in) := goodIn_app (goodIn_of _ (by decide +kernel)) ggX6_isThere_X6_in
theorem dX6_isThere_0 : decode cX6_isThere 0 = .ok (.aload_n 0, 1) := by decide +kernel
theorem dX6_isThere_1 : decode cX6_isThere 1 = .ok (.iload_n 1, 1) := by decide +kernel
theorem dX6_isThere_2 : decode cX6_isThere 2 = .ok (.iconst 0, 1) := by decide +kernel
theorem dX6_isThere_3 : decode cX6_isThere 3 = .ok (.aload_n 0, 1) := by decide +kernel
theorem dX6_isThere_4 : decode cX6_isThere 4 = .ok (.getfield 81, 3) := by decide +kernel
theorem dX6_isThere_7 : decode cX6_isThere 7 = .ok (.iconst 1, 1) := by decide +kernel
theorem dX6_isThere_8 : decode cX6_isThere 8 = .ok (.isub, 1) := by decide +kernel
theorem dX6_isThere_9 : decode cX6_isThere 9 = .ok (.invokestatic 74, 3) := by decide +kernel
theorem dX6_isThere_12 : decode cX6_isThere 12 = .ok (.ifCond .eq 16, 3) := by decide +kernel
theorem dX6_isThere_15 : decode cX6_isThere 15 = .ok (.aload_n 0, 1) := by decide +kernel
theorem dX6_isThere_16 : decode cX6_isThere 16 = .ok (.getfield 61, 3) := by decide +kernel
theorem dX6_isThere_19 : decode cX6_isThere 19 = .ok (.iload_n 1, 1) := by decide +kernel
theorem dX6_isThere_20 : decode cX6_isThere 20 = .ok (.iaload, 1) := by decide +kernel
theorem dX6_isThere_21 : decode cX6_isThere 21 = .ok (.ifCond .ne 7, 3) := by decide +kernel
theorem dX6_isThere_24 : decode cX6_isThere 24 = .ok (.iconst 0, 1) := by decide +kernel
theorem dX6_isThere_25 : decode cX6_isThere 25 = .ok (.goto 4, 3) := by decide +kernel
theorem dX6_isThere_28 : decode cX6_isThere 28 = .ok (.iconst 1, 1) := by decide +kernel
theorem dX6_isThere_29 : decode cX6_isThere 29 = .ok (.putfield 70, 3) := by decide +kernel
theorem dX6_isThere_32 : decode cX6_isThere 32 = .ok (.aload_n 0, 1) := by decide +kernel
theorem dX6_isThere_33 : decode cX6_isThere 33 = .ok (.getfield 70, 3) := by decide +kernel
theorem dX6_isThere_36 : decode cX6_isThere 36 = .ok (.ifCond .ne 7, 3) := by decide +kernel
theorem dX6_isThere_39 : decode cX6_isThere 39 = .ok (.iconst 1, 1) := by decide +kernel
theorem dX6_isThere_40 : decode cX6_isThere 40 = .ok (.goto 4, 3) := by decide +kernel
theorem dX6_isThere_43 : decode cX6_isThere 43 = .ok (.iconst 0, 1) := by decide +kernel
theorem dX6_isThere_44 : decode cX6_isThere 44 = .ok (.ireturn, 1) := by decide +kernel
set_option maxRecDepth 20000 in
theorem ggX6_setGame_X6_isGame : GoodIn wsX6_setGame wsX6_isGame := goodIn_r _ [8, 9, 10, 7, 11] (by decide +kernel) (by decide +kernel)
set_option maxRecDepth 20000 in
theorem gX6_setGame_X6_isGame : GoodIn wsX6_setGame (va_wsS RX6 84 yX6_isGame wsX6_isGame) := goodIn_app (goodIn_of _ (by decide +kernel)) ggX6_setGame_X6_isGame
set_option maxRecDepth 20000 in
theorem ggX6_setGame_X6_in : GoodIn wsX6_setGame wsX6_in := goodIn_r _ [11] (by decide +kernel) (by decide +kernel)
set_option maxRecDepth 20000 in
theorem gX6_setGame_X6_in : GoodIn wsX6_setGame (va_wsS RX6 74 yX6_in wsX6_in) := goodIn_app (goodIn_of _ (by decide +kernel)) ggX6_setGame_X6_in
theorem dX6_setGame_0 : decode cX6_setGame 0 = .ok (.aload_n 0, 1) := by decide +kernel
theorem dX6_setGame_1 : decode cX6_setGame 1 = .ok (.iload_n 1, 1) := by decide +kernel
theorem dX6_setGame_2 : decode cX6_setGame 2 = .ok (.invokestatic 84, 3) := by decide +kernel
theorem dX6_setGame_5 : decode cX6_setGame 5 = .ok (.ifCond .ne 7, 3) := by decide +kernel
theorem dX6_setGame_8 : decode cX6_setGame 8 = .ok (.iconst 1, 1) := by decide +kernel
theorem dX6_setGame_9 : decode cX6_setGame 9 = .ok (.goto 39, 3) := by decide +kernel
theorem dX6_setGame_12 : decode cX6_setGame 12 = .ok (.iload_n 2, 1) := by decide +kernel
theorem dX6_setGame_13 : decode cX6_setGame 13 = .ok (.iconst 1, 1) := by decide +kernel
theorem dX6_setGame_14 : decode cX6_setGame 14 = .ok (.bipush 8, 2) := by decide +kernel
theorem dX6_setGame_16 : decode cX6_setGame 16 = .ok (.invokestatic 74, 3) := by decide +kernel
theorem dX6_setGame_19 : decode cX6_setGame 19 = .ok (.ifCond .eq 24, 3) := by decide +kernel
theorem dX6_setGame_22 : decode cX6_setGame 22 = .ok (.iload_n 3, 1) := by decide +kernel
theorem dX6_setGame_23 : decode cX6_setGame 23 = .ok (.iload_n 2, 1) := by decide +kernel
theorem dX6_setGame_24 : decode cX6_setGame 24 = .ok (.bipush 8, 2) := by decide +kernel
theorem dX6_setGame_26 : decode cX6_setGame 26 = .ok (.invokestatic 74, 3) := by decide +kernel
theorem dX6_setGame_29 : decode cX6_setGame 29 = .ok (.ifCond .eq 14, 3) := by decide +kernel
theorem dX6_setGame_32 : decode cX6_setGame 32 = .ok (.iload 4, 2) := by decide +kernel
theorem dX6_setGame_34 : decode cX6_setGame 34 = .ok (.iconst 1, 1) := by decide +kernel
theorem dX6_setGame_35 : decode cX6_setGame 35 = .ok (.bipush 60, 2) := by decide +kernel
theorem dX6_setGame_37 : decode cX6_setGame 37 = .ok (.invokestatic 74, 3) := by decide +kernel
theorem dX6_setGame_40 : decode cX6_setGame 40 = .ok (.ifCond .ne 7, 3) := by decide +kernel
theorem dX6_setGame_43 : decode cX6_setGame 43 = .ok (.iconst 2, 1) := by decide +kernel
theorem dX6_setGame_44 : decode cX6_setGame 44 = .ok (.goto 4, 3) := by decide +kernel
theorem dX6_setGame_47 : decode cX6_setGame 47 = .ok (.iconst 0, 1) := by decide +kernel
theorem dX6_setGame_48 : decode cX6_setGame 48 = .ok (.putfield 70, 3) := by decide +kernel
theorem dX6_setGame_51 : decode cX6_setGame 51 = .ok (.aload_n 0, 1) := by decide +kernel
theorem dX6_setGame_52 : decode cX6_setGame 52 = .ok (.getfield 70, 3) := by decide +kernel
theorem dX6_setGame_55 : decode cX6_setGame 55 = .ok (.ifCond .ne 25, 3) := by decide +kernel
theorem dX6_setGame_58 : decode cX6_setGame 58 = .ok (.aload_n 0, 1) := by decide +kernel
theorem dX6_setGame_59 : decode cX6_setGame 59 = .ok (.getfield 7, 3) := by decide +kernel
theorem dX6_setGame_62 : decode cX6_setGame 62 = .ok (.iload_n 1, 1) := by decide +kernel
theorem dX6_setGame_63 : decode cX6_setGame 63 = .ok (.iload_n 2, 1) := by decide +kernel
theorem dX6_setGame_64 : decode cX6_setGame 64 = .ok (.iastore, 1) := by decide +kernel
theorem dX6_setGame_65 : decode cX6_setGame 65 = .ok (.aload_n 0, 1) := by decide +kernel
theorem dX6_setGame_66 : decode cX6_setGame 66 = .ok (.getfield 13, 3) := by decide +kernel
theorem dX6_setGame_69 : decode cX6_setGame 69 = .ok (.iload_n 1, 1) := by decide +kernel
theorem dX6_setGame_70 : decode cX6_setGame 70 = .ok (.iload_n 3, 1) := by decide +kernel
theorem dX6_setGame_71 : decode cX6_setGame 71 = .ok (.iastore, 1) := by decide +kernel
theorem dX6_setGame_72 : decode cX6_setGame 72 = .ok (.aload_n 0, 1) := by decide +kernel
theorem dX6_setGame_73 : decode cX6_setGame 73 = .ok (.getfield 16, 3) := by decide +kernel
theorem dX6_setGame_76 : decode cX6_setGame 76 = .ok (.iload_n 1, 1) := by decide +kernel
theorem dX6_setGame_77 : decode cX6_setGame 77 = .ok (.iload 4, 2) := by decide +kernel
theorem dX6_setGame_79 : decode cX6_setGame 79 = .ok (.iastore, 1) := by decide +kernel
theorem dX6_setGame_80 : decode cX6_setGame 80 = .ok (.return_, 1) := by decide +kernel
set_option maxRecDepth 20000 in
theorem ggX6_setParts_X6_isGame : GoodIn wsX6_setParts wsX6_isGame := goodIn_r _ [7, 8, 9, 6, 10] (by decide +kernel) (by decide +kernel)
set_option maxRecDepth 20000 in
theorem gX6_setParts_X6_isGame : GoodIn wsX6_setParts (va_wsS RX6 84 yX6_isGame wsX6_isGame) := goodIn_app (goodIn_of _ (by decide +kernel)) ggX6_setParts_X6_isGame
set_option maxRecDepth 20000 in
theorem ggX6_setParts_X6_in : GoodIn wsX6_setParts wsX6_in := goodIn_r _ [10] (by decide +kernel) (by decide +kernel)
set_option maxRecDepth 20000 in
theorem gX6_setParts_X6_in : GoodIn wsX6_setParts (va_wsS RX6 74 yX6_in wsX6_in) := goodIn_app (goodIn_of _ (by decide +kernel)) ggX6_setParts_X6_in
theorem dX6_setParts_0 : decode cX6_setParts 0 = .ok (.aload_n 0, 1) := by decide +kernel
theorem dX6_setParts_1 : decode cX6_setParts 1 = .ok (.iload_n 1, 1) := by decide +kernel
theorem dX6_setParts_2 : decode cX6_setParts 2 = .ok (.invokestatic 84, 3) := by decide +kernel
theorem dX6_setParts_5 : decode cX6_setParts 5 = .ok (.ifCond .eq 12, 3) := by decide +kernel
theorem dX6_setParts_8 : decode cX6_setParts 8 = .ok (.iload_n 2, 1) := by decide +kernel
theorem dX6_setParts_9 : decode cX6_setParts 9 = .ok (.iconst 0, 1) := by decide +kernel
theorem dX6_setParts_10 : decode cX6_setParts 10 = .ok (.iconst 3, 1) := by decide +kernel
theorem dX6_setParts_11 : decode cX6_setParts 11 = .ok (.invokestatic 74, 3) := by decide +kernel
theorem dX6_setParts_14 : decode cX6_setParts 14 = .ok (.ifCond .ne 7, 3) := by decide +kernel
theorem dX6_setParts_17 : decode cX6_setParts 17 = .ok (.iconst 1, 1) := by decide +kernel
theorem dX6_setParts_18 : decode cX6_setParts 18 = .ok (.goto 28, 3) := by decide +kernel
theorem dX6_setParts_21 : decode cX6_setParts 21 = .ok (.iload_n 3, 1) := by decide +kernel
theorem dX6_setParts_22 : decode cX6_setParts 22 = .ok (.iconst 0, 1) := by decide +kernel
theorem dX6_setParts_23 : decode cX6_setParts 23 = .ok (.bipush 20, 2) := by decide +kernel
theorem dX6_setParts_25 : decode cX6_setParts 25 = .ok (.invokestatic 74, 3) := by decide +kernel
theorem dX6_setParts_28 : decode cX6_setParts 28 = .ok (.ifCond .eq 13, 3) := by decide +kernel
theorem dX6_setParts_31 : decode cX6_setParts 31 = .ok (.iload 4, 2) := by decide +kernel
theorem dX6_setParts_33 : decode cX6_setParts 33 = .ok (.iconst 0, 1) := by decide +kernel
theorem dX6_setParts_34 : decode cX6_setParts 34 = .ok (.iload_n 3, 1) := by decide +kernel
theorem dX6_setParts_35 : decode cX6_setParts 35 = .ok (.invokestatic 74, 3) := by decide +kernel
theorem dX6_setParts_38 : decode cX6_setParts 38 = .ok (.ifCond .ne 7, 3) := by decide +kernel
theorem dX6_setParts_41 : decode cX6_setParts 41 = .ok (.iconst 2, 1) := by decide +kernel
theorem dX6_setParts_42 : decode cX6_setParts 42 = .ok (.goto 4, 3) := by decide +kernel
theorem dX6_setParts_45 : decode cX6_setParts 45 = .ok (.iconst 0, 1) := by decide +kernel
theorem dX6_setParts_46 : decode cX6_setParts 46 = .ok (.putfield 70, 3) := by decide +kernel
theorem dX6_setParts_49 : decode cX6_setParts 49 = .ok (.aload_n 0, 1) := by decide +kernel
theorem dX6_setParts_50 : decode cX6_setParts 50 = .ok (.getfield 70, 3) := by decide +kernel
theorem dX6_setParts_53 : decode cX6_setParts 53 = .ok (.ifCond .ne 26, 3) := by decide +kernel
theorem dX6_setParts_56 : decode cX6_setParts 56 = .ok (.aload_n 0, 1) := by decide +kernel
theorem dX6_setParts_57 : decode cX6_setParts 57 = .ok (.getfield 19, 3) := by decide +kernel
theorem dX6_setParts_60 : decode cX6_setParts 60 = .ok (.iconst 4, 1) := by decide +kernel
theorem dX6_setParts_61 : decode cX6_setParts 61 = .ok (.iload_n 1, 1) := by decide +kernel
theorem dX6_setParts_62 : decode cX6_setParts 62 = .ok (.imul, 1) := by decide +kernel
theorem dX6_setParts_63 : decode cX6_setParts 63 = .ok (.iload_n 2, 1) := by decide +kernel
theorem dX6_setParts_64 : decode cX6_setParts 64 = .ok (.iadd, 1) := by decide +kernel
theorem dX6_setParts_65 : decode cX6_setParts 65 = .ok (.iload_n 3, 1) := by decide +kernel
theorem dX6_setParts_66 : decode cX6_setParts 66 = .ok (.iastore, 1) := by decide +kernel
theorem dX6_setParts_67 : decode cX6_setParts 67 = .ok (.aload_n 0, 1) := by decide +kernel
theorem dX6_setParts_68 : decode cX6_setParts 68 = .ok (.getfield 22, 3) := by decide +kernel
theorem dX6_setParts_71 : decode cX6_setParts 71 = .ok (.iconst 4, 1) := by decide +kernel
theorem dX6_setParts_72 : decode cX6_setParts 72 = .ok (.iload_n 1, 1) := by decide +kernel
theorem dX6_setParts_73 : decode cX6_setParts 73 = .ok (.imul, 1) := by decide +kernel
theorem dX6_setParts_74 : decode cX6_setParts 74 = .ok (.iload_n 2, 1) := by decide +kernel
theorem dX6_setParts_75 : decode cX6_setParts 75 = .ok (.iadd, 1) := by decide +kernel
theorem dX6_setParts_76 : decode cX6_setParts 76 = .ok (.iload 4, 2) := by decide +kernel
theorem dX6_setParts_78 : decode cX6_setParts 78 = .ok (.iastore, 1) := by decide +kernel
theorem dX6_setParts_79 : decode cX6_setParts 79 = .ok (.return_, 1) := by decide +kernel
set_option maxRecDepth 20000 in
theorem ggX6_setSeats_X6_in : GoodIn wsX6_setSeats wsX6_in := goodIn_r _ [7] (by decide +kernel) (by decide +kernel)
set_option maxRecDepth 20000 in
theorem gX6_setSeats_X6_in : GoodIn wsX6_setSeats (va_wsS RX6 74 yX6_in wsX6_in) := goodIn_app (goodIn_of _ (by decide +kernel)) ggX6_setSeats_X6_in
theorem dX6_setSeats_0 : decode cX6_setSeats 0 = .ok (.aload_n 0, 1) := by decide +kernel
theorem dX6_setSeats_1 : decode cX6_setSeats 1 = .ok (.iload_n 1, 1) := by decide +kernel
theorem dX6_setSeats_2 : decode cX6_setSeats 2 = .ok (.iconst 0, 1) := by decide +kernel
theorem dX6_setSeats_3 : decode cX6_setSeats 3 = .ok (.iconst 5, 1) := by decide +kernel
theorem dX6_setSeats_4 : decode cX6_setSeats 4 = .ok (.invokestatic 74, 3) := by decide +kernel
theorem dX6_setSeats_7 : decode cX6_setSeats 7 = .ok (.ifCond .ne 7, 3) := by decide +kernel
theorem dX6_setSeats_10 : decode cX6_setSeats 10 = .ok (.iconst 1, 1) := by decide +kernel
theorem dX6_setSeats_11 : decode cX6_setSeats 11 = .ok (.goto 31, 3) := by decide +kernel
theorem dX6_setSeats_14 : decode cX6_setSeats 14 = .ok (.iload_n 2, 1) := by decide +kernel
theorem dX6_setSeats_15 : decode cX6_setSeats 15 = .ok (.iconst 1, 1) := by decide +kernel
theorem dX6_setSeats_16 : decode cX6_setSeats 16 = .ok (.bipush 8, 2) := by decide +kernel
theorem dX6_setSeats_18 : decode cX6_setSeats 18 = .ok (.invokestatic 74, 3) := by decide +kernel
theorem dX6_setSeats_21 : decode cX6_setSeats 21 = .ok (.ifCond .ne 7, 3) := by decide +kernel
theorem dX6_setSeats_24 : decode cX6_setSeats 24 = .ok (.iconst 2, 1) := by decide +kernel
theorem dX6_setSeats_25 : decode cX6_setSeats 25 = .ok (.goto 17, 3) := by decide +kernel
theorem dX6_setSeats_28 : decode cX6_setSeats 28 = .ok (.aload_n 0, 1) := by decide +kernel
theorem dX6_setSeats_29 : decode cX6_setSeats 29 = .ok (.getfield 31, 3) := by decide +kernel
theorem dX6_setSeats_32 : decode cX6_setSeats 32 = .ok (.iload_n 1, 1) := by decide +kernel
theorem dX6_setSeats_33 : decode cX6_setSeats 33 = .ok (.iaload, 1) := by decide +kernel
theorem dX6_setSeats_34 : decode cX6_setSeats 34 = .ok (.ifCond .le 7, 3) := by decide +kernel
theorem dX6_setSeats_37 : decode cX6_setSeats 37 = .ok (.iconst 3, 1) := by decide +kernel
theorem dX6_setSeats_38 : decode cX6_setSeats 38 = .ok (.goto 4, 3) := by decide +kernel
theorem dX6_setSeats_41 : decode cX6_setSeats 41 = .ok (.iconst 0, 1) := by decide +kernel
theorem dX6_setSeats_42 : decode cX6_setSeats 42 = .ok (.putfield 70, 3) := by decide +kernel
theorem dX6_setSeats_45 : decode cX6_setSeats 45 = .ok (.aload_n 0, 1) := by decide +kernel
theorem dX6_setSeats_46 : decode cX6_setSeats 46 = .ok (.getfield 70, 3) := by decide +kernel
theorem dX6_setSeats_49 : decode cX6_setSeats 49 = .ok (.ifCond .le 5, 3) := by decide +kernel
theorem dX6_setSeats_52 : decode cX6_setSeats 52 = .ok (.iconst 0, 1) := by decide +kernel
theorem dX6_setSeats_53 : decode cX6_setSeats 53 = .ok (.ireturn, 1) := by decide +kernel
theorem dX6_setSeats_54 : decode cX6_setSeats 54 = .ok (.aload_n 0, 1) := by decide +kernel
theorem dX6_setSeats_55 : decode cX6_setSeats 55 = .ok (.getfield 28, 3) := by decide +kernel
theorem dX6_setSeats_58 : decode cX6_setSeats 58 = .ok (.iload_n 1, 1) := by decide +kernel
theorem dX6_setSeats_59 : decode cX6_setSeats 59 = .ok (.iaload, 1) := by decide +kernel
theorem dX6_setSeats_60 : decode cX6_setSeats 60 = .ok (.istore_n 3, 1) := by decide +kernel
theorem dX6_setSeats_61 : decode cX6_setSeats 61 = .ok (.aload_n 0, 1) := by decide +kernel
theorem dX6_setSeats_62 : decode cX6_setSeats 62 = .ok (.getfield 28, 3) := by decide +kernel
theorem dX6_setSeats_65 : decode cX6_setSeats 65 = .ok (.iload_n 1, 1) := by decide +kernel
theorem dX6_setSeats_66 : decode cX6_setSeats 66 = .ok (.iload_n 2, 1) := by decide +kernel
theorem dX6_setSeats_67 : decode cX6_setSeats 67 = .ok (.iastore, 1) := by decide +kernel
theorem dX6_setSeats_68 : decode cX6_setSeats 68 = .ok (.iload_n 3, 1) := by decide +kernel
theorem dX6_setSeats_69 : decode cX6_setSeats 69 = .ok (.ireturn, 1) := by decide +kernel
set_option maxRecDepth 20000 in
theorem ggX6_teach_X6_in : GoodIn wsX6_teach wsX6_in := goodIn_r _ [6] (by decide +kernel) (by decide +kernel)
set_option maxRecDepth 20000 in
theorem gX6_teach_X6_in : GoodIn wsX6_teach (va_wsS RX6 74 yX6_in wsX6_in) := goodIn_app (goodIn_of _ (by decide +kernel)) ggX6_teach_X6_in
set_option maxRecDepth 20000 in
theorem ggX6_teach_X6_isGame : GoodIn wsX6_teach wsX6_isGame := goodIn_r _ [9, 3, 4, 5, 6] (by decide +kernel) (by decide +kernel)
set_option maxRecDepth 20000 in
theorem gX6_teach_X6_isGame : GoodIn wsX6_teach (va_wsS RX6 84 yX6_isGame wsX6_isGame) := goodIn_app (goodIn_of _ (by decide +kernel)) ggX6_teach_X6_isGame
theorem dX6_teach_0 : decode cX6_teach 0 = .ok (.aload_n 0, 1) := by decide +kernel
theorem dX6_teach_1 : decode cX6_teach 1 = .ok (.iload_n 1, 1) := by decide +kernel
theorem dX6_teach_2 : decode cX6_teach 2 = .ok (.iconst 0, 1) := by decide +kernel
theorem dX6_teach_3 : decode cX6_teach 3 = .ok (.iconst 2, 1) := by decide +kernel
theorem dX6_teach_4 : decode cX6_teach 4 = .ok (.invokestatic 74, 3) := by decide +kernel
theorem dX6_teach_7 : decode cX6_teach 7 = .ok (.ifCond .eq 14, 3) := by decide +kernel
theorem dX6_teach_10 : decode cX6_teach 10 = .ok (.iload_n 2, 1) := by decide +kernel
theorem dX6_teach_11 : decode cX6_teach 11 = .ok (.invokestatic 84, 3) := by decide +kernel
theorem dX6_teach_14 : decode cX6_teach 14 = .ok (.ifCond .eq 7, 3) := by decide +kernel
theorem dX6_teach_17 : decode cX6_teach 17 = .ok (.iconst 0, 1) := by decide +kernel
theorem dX6_teach_18 : decode cX6_teach 18 = .ok (.goto 4, 3) := by decide +kernel
theorem dX6_teach_21 : decode cX6_teach 21 = .ok (.iconst 1, 1) := by decide +kernel
theorem dX6_teach_22 : decode cX6_teach 22 = .ok (.putfield 70, 3) := by decide +kernel
theorem dX6_teach_25 : decode cX6_teach 25 = .ok (.aload_n 0, 1) := by decide +kernel
theorem dX6_teach_26 : decode cX6_teach 26 = .ok (.getfield 70, 3) := by decide +kernel
theorem dX6_teach_29 : decode cX6_teach 29 = .ok (.ifCond .le 5, 3) := by decide +kernel
theorem dX6_teach_32 : decode cX6_teach 32 = .ok (.iconst 0, 1) := by decide +kernel
theorem dX6_teach_33 : decode cX6_teach 33 = .ok (.ireturn, 1) := by decide +kernel
theorem dX6_teach_34 : decode cX6_teach 34 = .ok (.aload_n 0, 1) := by decide +kernel
theorem dX6_teach_35 : decode cX6_teach 35 = .ok (.getfield 34, 3) := by decide +kernel
theorem dX6_teach_38 : decode cX6_teach 38 = .ok (.iconst 5, 1) := by decide +kernel
theorem dX6_teach_39 : decode cX6_teach 39 = .ok (.iload_n 1, 1) := by decide +kernel
theorem dX6_teach_40 : decode cX6_teach 40 = .ok (.imul, 1) := by decide +kernel
theorem dX6_teach_41 : decode cX6_teach 41 = .ok (.iload_n 2, 1) := by decide +kernel
theorem dX6_teach_42 : decode cX6_teach 42 = .ok (.iadd, 1) := by decide +kernel
theorem dX6_teach_43 : decode cX6_teach 43 = .ok (.iaload, 1) := by decide +kernel
theorem dX6_teach_44 : decode cX6_teach 44 = .ok (.ifCond .ne 7, 3) := by decide +kernel
theorem dX6_teach_47 : decode cX6_teach 47 = .ok (.iconst 1, 1) := by decide +kernel
theorem dX6_teach_48 : decode cX6_teach 48 = .ok (.goto 4, 3) := by decide +kernel
theorem dX6_teach_51 : decode cX6_teach 51 = .ok (.iconst 0, 1) := by decide +kernel
theorem dX6_teach_52 : decode cX6_teach 52 = .ok (.istore 4, 2) := by decide +kernel
theorem dX6_teach_54 : decode cX6_teach 54 = .ok (.aload_n 0, 1) := by decide +kernel
theorem dX6_teach_55 : decode cX6_teach 55 = .ok (.getfield 34, 3) := by decide +kernel
theorem dX6_teach_58 : decode cX6_teach 58 = .ok (.iconst 5, 1) := by decide +kernel
theorem dX6_teach_59 : decode cX6_teach 59 = .ok (.iload_n 1, 1) := by decide +kernel
theorem dX6_teach_60 : decode cX6_teach 60 = .ok (.imul, 1) := by decide +kernel
theorem dX6_teach_61 : decode cX6_teach 61 = .ok (.iload_n 2, 1) := by decide +kernel
theorem dX6_teach_62 : decode cX6_teach 62 = .ok (.iadd, 1) := by decide +kernel
theorem dX6_teach_63 : decode cX6_teach 63 = .ok (.iload_n 3, 1) := by decide +kernel
theorem dX6_teach_64 : decode cX6_teach 64 = .ok (.ifCond .eq 7, 3) := by decide +kernel
theorem dX6_teach_67 : decode cX6_teach 67 = .ok (.iconst 0, 1) := by decide +kernel
theorem dX6_teach_68 : decode cX6_teach 68 = .ok (.goto 4, 3) := by decide +kernel
theorem dX6_teach_71 : decode cX6_teach 71 = .ok (.iconst 1, 1) := by decide +kernel
theorem dX6_teach_72 : decode cX6_teach 72 = .ok (.iastore, 1) := by decide +kernel
theorem dX6_teach_73 : decode cX6_teach 73 = .ok (.iload 4, 2) := by decide +kernel
theorem dX6_teach_75 : decode cX6_teach 75 = .ok (.ireturn, 1) := by decide +kernel
set_option maxRecDepth 20000 in
theorem ggX6_buy_X6_isGame : GoodIn wsX6_buy wsX6_isGame := goodIn_r _ [9, 10, 11, 8, 12] (by decide +kernel) (by decide +kernel)
set_option maxRecDepth 20000 in
theorem gX6_buy_X6_isGame : GoodIn wsX6_buy (va_wsS RX6 84 yX6_isGame wsX6_isGame) := goodIn_app (goodIn_of _ (by decide +kernel)) ggX6_buy_X6_isGame
theorem dX6_buy_0 : decode cX6_buy 0 = .ok (.aload_n 0, 1) := by decide +kernel
theorem dX6_buy_1 : decode cX6_buy 1 = .ok (.iload_n 1, 1) := by decide +kernel
theorem dX6_buy_2 : decode cX6_buy 2 = .ok (.invokestatic 84, 3) := by decide +kernel
theorem dX6_buy_5 : decode cX6_buy 5 = .ok (.ifCond .ne 7, 3) := by decide +kernel
theorem dX6_buy_8 : decode cX6_buy 8 = .ok (.iconst 1, 1) := by decide +kernel
theorem dX6_buy_9 : decode cX6_buy 9 = .ok (.goto 17, 3) := by decide +kernel
theorem dX6_buy_12 : decode cX6_buy 12 = .ok (.aload_n 0, 1) := by decide +kernel
theorem dX6_buy_13 : decode cX6_buy 13 = .ok (.getfield 78, 3) := by decide +kernel
theorem dX6_buy_16 : decode cX6_buy 16 = .ok (.bipush 15, 2) := by decide +kernel
theorem dX6_buy_18 : decode cX6_buy 18 = .ok (.if_icmp .ne 7, 3) := by decide +kernel
theorem dX6_buy_21 : decode cX6_buy 21 = .ok (.iconst 2, 1) := by decide +kernel
theorem dX6_buy_22 : decode cX6_buy 22 = .ok (.goto 4, 3) := by decide +kernel
theorem dX6_buy_25 : decode cX6_buy 25 = .ok (.iconst 0, 1) := by decide +kernel
theorem dX6_buy_26 : decode cX6_buy 26 = .ok (.putfield 70, 3) := by decide +kernel
theorem dX6_buy_29 : decode cX6_buy 29 = .ok (.aload_n 0, 1) := by decide +kernel
theorem dX6_buy_30 : decode cX6_buy 30 = .ok (.getfield 70, 3) := by decide +kernel
theorem dX6_buy_33 : decode cX6_buy 33 = .ok (.ifCond .le 5, 3) := by decide +kernel
theorem dX6_buy_36 : decode cX6_buy 36 = .ok (.iconst 0, 1) := by decide +kernel
theorem dX6_buy_37 : decode cX6_buy 37 = .ok (.ireturn, 1) := by decide +kernel
theorem dX6_buy_38 : decode cX6_buy 38 = .ok (.aload_n 0, 1) := by decide +kernel
theorem dX6_buy_39 : decode cX6_buy 39 = .ok (.getfield 40, 3) := by decide +kernel
theorem dX6_buy_42 : decode cX6_buy 42 = .ok (.aload_n 0, 1) := by decide +kernel
theorem dX6_buy_43 : decode cX6_buy 43 = .ok (.getfield 78, 3) := by decide +kernel
theorem dX6_buy_46 : decode cX6_buy 46 = .ok (.iload_n 1, 1) := by decide +kernel
theorem dX6_buy_47 : decode cX6_buy 47 = .ok (.iastore, 1) := by decide +kernel
theorem dX6_buy_48 : decode cX6_buy 48 = .ok (.iconst 0, 1) := by decide +kernel
theorem dX6_buy_49 : decode cX6_buy 49 = .ok (.istore_n 2, 1) := by decide +kernel
theorem dX6_buy_50 : decode cX6_buy 50 = .ok (.iload_n 2, 1) := by decide +kernel
theorem dX6_buy_51 : decode cX6_buy 51 = .ok (.iconst 4, 1) := by decide +kernel
theorem dX6_buy_52 : decode cX6_buy 52 = .ok (.if_icmp .ge 32, 3) := by decide +kernel
theorem dX6_buy_55 : decode cX6_buy 55 = .ok (.aload_n 0, 1) := by decide +kernel
theorem dX6_buy_56 : decode cX6_buy 56 = .ok (.getfield 46, 3) := by decide +kernel
theorem dX6_buy_59 : decode cX6_buy 59 = .ok (.iconst 4, 1) := by decide +kernel
theorem dX6_buy_60 : decode cX6_buy 60 = .ok (.aload_n 0, 1) := by decide +kernel
theorem dX6_buy_61 : decode cX6_buy 61 = .ok (.getfield 78, 3) := by decide +kernel
theorem dX6_buy_64 : decode cX6_buy 64 = .ok (.imul, 1) := by decide +kernel
theorem dX6_buy_65 : decode cX6_buy 65 = .ok (.iload_n 2, 1) := by decide +kernel
theorem dX6_buy_66 : decode cX6_buy 66 = .ok (.iadd, 1) := by decide +kernel
theorem dX6_buy_67 : decode cX6_buy 67 = .ok (.aload_n 0, 1) := by decide +kernel
theorem dX6_buy_68 : decode cX6_buy 68 = .ok (.getfield 19, 3) := by decide +kernel
theorem dX6_buy_71 : decode cX6_buy 71 = .ok (.iconst 4, 1) := by decide +kernel
theorem dX6_buy_72 : decode cX6_buy 72 = .ok (.iload_n 1, 1) := by decide +kernel
theorem dX6_buy_73 : decode cX6_buy 73 = .ok (.imul, 1) := by decide +kernel
theorem dX6_buy_74 : decode cX6_buy 74 = .ok (.iload_n 2, 1) := by decide +kernel
theorem dX6_buy_75 : decode cX6_buy 75 = .ok (.iadd, 1) := by decide +kernel
theorem dX6_buy_76 : decode cX6_buy 76 = .ok (.iaload, 1) := by decide +kernel
theorem dX6_buy_77 : decode cX6_buy 77 = .ok (.iastore, 1) := by decide +kernel
theorem dX6_buy_78 : decode cX6_buy 78 = .ok (.iinc 2 1, 3) := by decide +kernel
theorem dX6_buy_81 : decode cX6_buy 81 = .ok (.goto (-31), 3) := by decide +kernel
theorem dX6_buy_84 : decode cX6_buy 84 = .ok (.aload_n 0, 1) := by decide +kernel
theorem dX6_buy_85 : decode cX6_buy 85 = .ok (.dup, 1) := by decide +kernel
theorem dX6_buy_86 : decode cX6_buy 86 = .ok (.getfield 78, 3) := by decide +kernel
theorem dX6_buy_89 : decode cX6_buy 89 = .ok (.iconst 1, 1) := by decide +kernel
theorem dX6_buy_90 : decode cX6_buy 90 = .ok (.iadd, 1) := by decide +kernel
theorem dX6_buy_91 : decode cX6_buy 91 = .ok (.putfield 78, 3) := by decide +kernel
theorem dX6_buy_94 : decode cX6_buy 94 = .ok (.aload_n 0, 1) := by decide +kernel
theorem dX6_buy_95 : decode cX6_buy 95 = .ok (.getfield 78, 3) := by decide +kernel
theorem dX6_buy_98 : decode cX6_buy 98 = .ok (.iconst 1, 1) := by decide +kernel
theorem dX6_buy_99 : decode cX6_buy 99 = .ok (.isub, 1) := by decide +kernel
theorem dX6_buy_100 : decode cX6_buy 100 = .ok (.ireturn, 1) := by decide +kernel
set_option maxRecDepth 20000 in
theorem ggX6_count_X6_isCopy : GoodIn wsX6_count wsX6_isCopy := goodIn_r _ [8, 9, 10, 11, 7, 12, 17, 18, 19, 20, 21, 22, 23, 24, 25, 26, 27, 28, 29, 30, 31, 32, 33, 34, 35, 36, 37, 38, 39, 40] (by decide +kernel) (by decide +kernel)
set_option maxRecDepth 20000 in
theorem gX6_count_X6_isCopy : GoodIn wsX6_count (wsV RX6 88 RX6 yX6_isCopy wsX6_isCopy) := goodIn_app (goodIn_of _ (by decide +kernel)) ggX6_count_X6_isCopy
set_option maxRecDepth 20000 in
theorem ggX6_count_X6_in : GoodIn wsX6_count wsX6_in := goodIn_r _ [12] (by decide +kernel) (by decide +kernel)
set_option maxRecDepth 20000 in
theorem gX6_count_X6_in : GoodIn wsX6_count (va_wsS RX6 74 yX6_in wsX6_in) := goodIn_app (goodIn_of _ (by decide +kernel)) ggX6_count_X6_in
set_option maxRecDepth 20000 in
theorem ggX6_count_X6_fails : GoodIn wsX6_count wsX6_fails := goodIn_r _ [16, 1, 17, 18, 19, 20, 21, 22, 23, 24, 25, 26, 27, 28, 29, 30, 31, 32, 33, 34, 35, 36, 37, 38, 39, 40] (by decide +kernel) (by decide +kernel)
set_option maxRecDepth 20000 in
theorem gX6_count_X6_fails : GoodIn wsX6_count (wsV RX6 91 RX6 yX6_fails wsX6_fails) := goodIn_app (goodIn_of _ (by decide +kernel)) ggX6_count_X6_fails
theorem dX6_count_0 : decode cX6_count 0 = .ok (.aload_n 0, 1) := by decide +kernel
theorem dX6_count_1 : decode cX6_count 1 = .ok (.aload_n 0, 1) := by decide +kernel
theorem dX6_count_2 : decode cX6_count 2 = .ok (.iload_n 1, 1) := by decide +kernel
theorem dX6_count_3 : decode cX6_count 3 = .ok (.invokevirtual 88, 3) := by decide +kernel
theorem dX6_count_6 : decode cX6_count 6 = .ok (.ifCond .eq 12, 3) := by decide +kernel
theorem dX6_count_9 : decode cX6_count 9 = .ok (.iload_n 2, 1) := by decide +kernel
theorem dX6_count_10 : decode cX6_count 10 = .ok (.iconst 0, 1) := by decide +kernel
theorem dX6_count_11 : decode cX6_count 11 = .ok (.iconst 3, 1) := by decide +kernel
theorem dX6_count_12 : decode cX6_count 12 = .ok (.invokestatic 74, 3) := by decide +kernel
theorem dX6_count_15 : decode cX6_count 15 = .ok (.ifCond .ne 7, 3) := by decide +kernel
theorem dX6_count_18 : decode cX6_count 18 = .ok (.iconst 1, 1) := by decide +kernel
theorem dX6_count_19 : decode cX6_count 19 = .ok (.goto 19, 3) := by decide +kernel
theorem dX6_count_22 : decode cX6_count 22 = .ok (.iload_n 3, 1) := by decide +kernel
theorem dX6_count_23 : decode cX6_count 23 = .ok (.bipush (-20), 2) := by decide +kernel
theorem dX6_count_25 : decode cX6_count 25 = .ok (.bipush 20, 2) := by decide +kernel
theorem dX6_count_27 : decode cX6_count 27 = .ok (.invokestatic 74, 3) := by decide +kernel
theorem dX6_count_30 : decode cX6_count 30 = .ok (.ifCond .ne 7, 3) := by decide +kernel
theorem dX6_count_33 : decode cX6_count 33 = .ok (.iconst 2, 1) := by decide +kernel
theorem dX6_count_34 : decode cX6_count 34 = .ok (.goto 4, 3) := by decide +kernel
theorem dX6_count_37 : decode cX6_count 37 = .ok (.iconst 0, 1) := by decide +kernel
theorem dX6_count_38 : decode cX6_count 38 = .ok (.putfield 70, 3) := by decide +kernel
theorem dX6_count_41 : decode cX6_count 41 = .ok (.aload_n 0, 1) := by decide +kernel
theorem dX6_count_42 : decode cX6_count 42 = .ok (.getfield 70, 3) := by decide +kernel
theorem dX6_count_45 : decode cX6_count 45 = .ok (.ifCond .le 5, 3) := by decide +kernel
theorem dX6_count_48 : decode cX6_count 48 = .ok (.iconst 0, 1) := by decide +kernel
theorem dX6_count_49 : decode cX6_count 49 = .ok (.ireturn, 1) := by decide +kernel
theorem dX6_count_50 : decode cX6_count 50 = .ok (.aload_n 0, 1) := by decide +kernel
theorem dX6_count_51 : decode cX6_count 51 = .ok (.getfield 46, 3) := by decide +kernel
theorem dX6_count_54 : decode cX6_count 54 = .ok (.iconst 4, 1) := by decide +kernel
theorem dX6_count_55 : decode cX6_count 55 = .ok (.iload_n 1, 1) := by decide +kernel
theorem dX6_count_56 : decode cX6_count 56 = .ok (.imul, 1) := by decide +kernel
theorem dX6_count_57 : decode cX6_count 57 = .ok (.iload_n 2, 1) := by decide +kernel
theorem dX6_count_58 : decode cX6_count 58 = .ok (.iadd, 1) := by decide +kernel
theorem dX6_count_59 : decode cX6_count 59 = .ok (.iaload, 1) := by decide +kernel
theorem dX6_count_60 : decode cX6_count 60 = .ok (.iload_n 3, 1) := by decide +kernel
theorem dX6_count_61 : decode cX6_count 61 = .ok (.iadd, 1) := by decide +kernel
theorem dX6_count_62 : decode cX6_count 62 = .ok (.istore 4, 2) := by decide +kernel
theorem dX6_count_64 : decode cX6_count 64 = .ok (.aload_n 0, 1) := by decide +kernel
theorem dX6_count_65 : decode cX6_count 65 = .ok (.getfield 43, 3) := by decide +kernel
theorem dX6_count_68 : decode cX6_count 68 = .ok (.iload_n 1, 1) := by decide +kernel
theorem dX6_count_69 : decode cX6_count 69 = .ok (.iaload, 1) := by decide +kernel
theorem dX6_count_70 : decode cX6_count 70 = .ok (.iconst 2, 1) := by decide +kernel
theorem dX6_count_71 : decode cX6_count 71 = .ok (.if_icmp .eq 14, 3) := by decide +kernel
theorem dX6_count_74 : decode cX6_count 74 = .ok (.iload 4, 2) := by decide +kernel
theorem dX6_count_76 : decode cX6_count 76 = .ok (.iconst 0, 1) := by decide +kernel
theorem dX6_count_77 : decode cX6_count 77 = .ok (.bipush 40, 2) := by decide +kernel
theorem dX6_count_79 : decode cX6_count 79 = .ok (.invokestatic 74, 3) := by decide +kernel
theorem dX6_count_82 : decode cX6_count 82 = .ok (.ifCond .ne 9, 3) := by decide +kernel
theorem dX6_count_85 : decode cX6_count 85 = .ok (.aload_n 0, 1) := by decide +kernel
theorem dX6_count_86 : decode cX6_count 86 = .ok (.iconst 3, 1) := by decide +kernel
theorem dX6_count_87 : decode cX6_count 87 = .ok (.invokevirtual 91, 3) := by decide +kernel
theorem dX6_count_90 : decode cX6_count 90 = .ok (.ireturn, 1) := by decide +kernel
theorem dX6_count_91 : decode cX6_count 91 = .ok (.aload_n 0, 1) := by decide +kernel
theorem dX6_count_92 : decode cX6_count 92 = .ok (.getfield 46, 3) := by decide +kernel
theorem dX6_count_95 : decode cX6_count 95 = .ok (.iconst 4, 1) := by decide +kernel
theorem dX6_count_96 : decode cX6_count 96 = .ok (.iload_n 1, 1) := by decide +kernel
theorem dX6_count_97 : decode cX6_count 97 = .ok (.imul, 1) := by decide +kernel
theorem dX6_count_98 : decode cX6_count 98 = .ok (.iload_n 2, 1) := by decide +kernel
theorem dX6_count_99 : decode cX6_count 99 = .ok (.iadd, 1) := by decide +kernel
theorem dX6_count_100 : decode cX6_count 100 = .ok (.iload 4, 2) := by decide +kernel
theorem dX6_count_102 : decode cX6_count 102 = .ok (.iastore, 1) := by decide +kernel
theorem dX6_count_103 : decode cX6_count 103 = .ok (.iload 4, 2) := by decide +kernel
theorem dX6_count_105 : decode cX6_count 105 = .ok (.ireturn, 1) := by decide +kernel
set_option maxRecDepth 20000 in
theorem ggX6_fill_X6_isCopy : GoodIn wsX6_fill wsX6_isCopy := goodIn_r _ [10, 11, 12, 13, 9, 14, 19, 20, 21, 22, 23, 24, 25, 26, 27, 28, 29, 30, 31, 32, 33, 34, 35, 36, 37, 38, 39, 40, 41, 42] (by decide +kernel) (by decide +kernel)
set_option maxRecDepth 20000 in
theorem gX6_fill_X6_isCopy : GoodIn wsX6_fill (wsV RX6 88 RX6 yX6_isCopy wsX6_isCopy) := goodIn_app (goodIn_of _ (by decide +kernel)) ggX6_fill_X6_isCopy
set_option maxRecDepth 20000 in
theorem ggX6_fill_X6_fails : GoodIn wsX6_fill wsX6_fails := goodIn_r _ [18, 1, 19, 20, 21, 22, 23, 24, 25, 26, 27, 28, 29, 30, 31, 32, 33, 34, 35, 36, 37, 38, 39, 40, 41, 42] (by decide +kernel) (by decide +kernel)
set_option maxRecDepth 20000 in
theorem gX6_fill_X6_fails : GoodIn wsX6_fill (wsV RX6 91 RX6 yX6_fails wsX6_fails) := goodIn_app (goodIn_of _ (by decide +kernel)) ggX6_fill_X6_fails
theorem dX6_fill_0 : decode cX6_fill 0 = .ok (.aload_n 0, 1) := by decide +kernel
theorem dX6_fill_1 : decode cX6_fill 1 = .ok (.aload_n 0, 1) := by decide +kernel
theorem dX6_fill_2 : decode cX6_fill 2 = .ok (.iload_n 1, 1) := by decide +kernel
theorem dX6_fill_3 : decode cX6_fill 3 = .ok (.invokevirtual 88, 3) := by decide +kernel
theorem dX6_fill_6 : decode cX6_fill 6 = .ok (.ifCond .eq 11, 3) := by decide +kernel
theorem dX6_fill_9 : decode cX6_fill 9 = .ok (.aload_n 0, 1) := by decide +kernel
theorem dX6_fill_10 : decode cX6_fill 10 = .ok (.iload_n 2, 1) := by decide +kernel
theorem dX6_fill_11 : decode cX6_fill 11 = .ok (.invokevirtual 88, 3) := by decide +kernel
theorem dX6_fill_14 : decode cX6_fill 14 = .ok (.ifCond .ne 7, 3) := by decide +kernel
theorem dX6_fill_17 : decode cX6_fill 17 = .ok (.iconst 1, 1) := by decide +kernel
theorem dX6_fill_18 : decode cX6_fill 18 = .ok (.goto 4, 3) := by decide +kernel
theorem dX6_fill_21 : decode cX6_fill 21 = .ok (.iconst 0, 1) := by decide +kernel
theorem dX6_fill_22 : decode cX6_fill 22 = .ok (.putfield 70, 3) := by decide +kernel
theorem dX6_fill_25 : decode cX6_fill 25 = .ok (.aload_n 0, 1) := by decide +kernel
theorem dX6_fill_26 : decode cX6_fill 26 = .ok (.getfield 70, 3) := by decide +kernel
theorem dX6_fill_29 : decode cX6_fill 29 = .ok (.ifCond .le 5, 3) := by decide +kernel
theorem dX6_fill_32 : decode cX6_fill 32 = .ok (.iconst 0, 1) := by decide +kernel
theorem dX6_fill_33 : decode cX6_fill 33 = .ok (.ireturn, 1) := by decide +kernel
theorem dX6_fill_34 : decode cX6_fill 34 = .ok (.iload_n 1, 1) := by decide +kernel
theorem dX6_fill_35 : decode cX6_fill 35 = .ok (.iload_n 2, 1) := by decide +kernel
theorem dX6_fill_36 : decode cX6_fill 36 = .ok (.if_icmp .eq 18, 3) := by decide +kernel
theorem dX6_fill_39 : decode cX6_fill 39 = .ok (.aload_n 0, 1) := by decide +kernel
theorem dX6_fill_40 : decode cX6_fill 40 = .ok (.getfield 40, 3) := by decide +kernel
theorem dX6_fill_43 : decode cX6_fill 43 = .ok (.iload_n 1, 1) := by decide +kernel
theorem dX6_fill_44 : decode cX6_fill 44 = .ok (.iaload, 1) := by decide +kernel
theorem dX6_fill_45 : decode cX6_fill 45 = .ok (.aload_n 0, 1) := by decide +kernel
theorem dX6_fill_46 : decode cX6_fill 46 = .ok (.getfield 40, 3) := by decide +kernel
theorem dX6_fill_49 : decode cX6_fill 49 = .ok (.iload_n 2, 1) := by decide +kernel
theorem dX6_fill_50 : decode cX6_fill 50 = .ok (.iaload, 1) := by decide +kernel
theorem dX6_fill_51 : decode cX6_fill 51 = .ok (.if_icmp .eq 9, 3) := by decide +kernel
theorem dX6_fill_54 : decode cX6_fill 54 = .ok (.aload_n 0, 1) := by decide +kernel
theorem dX6_fill_55 : decode cX6_fill 55 = .ok (.iconst 2, 1) := by decide +kernel
theorem dX6_fill_56 : decode cX6_fill 56 = .ok (.invokevirtual 91, 3) := by decide +kernel
theorem dX6_fill_59 : decode cX6_fill 59 = .ok (.ireturn, 1) := by decide +kernel
theorem dX6_fill_60 : decode cX6_fill 60 = .ok (.aload_n 0, 1) := by decide +kernel
theorem dX6_fill_61 : decode cX6_fill 61 = .ok (.getfield 43, 3) := by decide +kernel
theorem dX6_fill_64 : decode cX6_fill 64 = .ok (.iload_n 1, 1) := by decide +kernel
theorem dX6_fill_65 : decode cX6_fill 65 = .ok (.iaload, 1) := by decide +kernel
theorem dX6_fill_66 : decode cX6_fill 66 = .ok (.ifCond .ne 12, 3) := by decide +kernel
theorem dX6_fill_69 : decode cX6_fill 69 = .ok (.aload_n 0, 1) := by decide +kernel
theorem dX6_fill_70 : decode cX6_fill 70 = .ok (.getfield 43, 3) := by decide +kernel
theorem dX6_fill_73 : decode cX6_fill 73 = .ok (.iload_n 2, 1) := by decide +kernel
theorem dX6_fill_74 : decode cX6_fill 74 = .ok (.iaload, 1) := by decide +kernel
theorem dX6_fill_75 : decode cX6_fill 75 = .ok (.ifCond .eq 9, 3) := by decide +kernel
theorem dX6_fill_78 : decode cX6_fill 78 = .ok (.aload_n 0, 1) := by decide +kernel
theorem dX6_fill_79 : decode cX6_fill 79 = .ok (.iconst 3, 1) := by decide +kernel
theorem dX6_fill_80 : decode cX6_fill 80 = .ok (.invokevirtual 91, 3) := by decide +kernel
theorem dX6_fill_83 : decode cX6_fill 83 = .ok (.ireturn, 1) := by decide +kernel
theorem dX6_fill_84 : decode cX6_fill 84 = .ok (.iconst 0, 1) := by decide +kernel
theorem dX6_fill_85 : decode cX6_fill 85 = .ok (.istore_n 3, 1) := by decide +kernel
theorem dX6_fill_86 : decode cX6_fill 86 = .ok (.iconst 0, 1) := by decide +kernel
theorem dX6_fill_87 : decode cX6_fill 87 = .ok (.istore 4, 2) := by decide +kernel
theorem dX6_fill_89 : decode cX6_fill 89 = .ok (.iload 4, 2) := by decide +kernel
theorem dX6_fill_91 : decode cX6_fill 91 = .ok (.iconst 4, 1) := by decide +kernel
theorem dX6_fill_92 : decode cX6_fill 92 = .ok (.if_icmp .ge 123, 3) := by decide +kernel
theorem dX6_fill_95 : decode cX6_fill 95 = .ok (.aload_n 0, 1) := by decide +kernel
theorem dX6_fill_96 : decode cX6_fill 96 = .ok (.getfield 19, 3) := by decide +kernel
theorem dX6_fill_99 : decode cX6_fill 99 = .ok (.iconst 4, 1) := by decide +kernel
theorem dX6_fill_100 : decode cX6_fill 100 = .ok (.aload_n 0, 1) := by decide +kernel
theorem dX6_fill_101 : decode cX6_fill 101 = .ok (.getfield 40, 3) := by decide +kernel
theorem dX6_fill_104 : decode cX6_fill 104 = .ok (.iload_n 1, 1) := by decide +kernel
theorem dX6_fill_105 : decode cX6_fill 105 = .ok (.iaload, 1) := by decide +kernel
theorem dX6_fill_106 : decode cX6_fill 106 = .ok (.imul, 1) := by decide +kernel
theorem dX6_fill_107 : decode cX6_fill 107 = .ok (.iload 4, 2) := by decide +kernel
theorem dX6_fill_109 : decode cX6_fill 109 = .ok (.iadd, 1) := by decide +kernel
theorem dX6_fill_110 : decode cX6_fill 110 = .ok (.iaload, 1) := by decide +kernel
theorem dX6_fill_111 : decode cX6_fill 111 = .ok (.aload_n 0, 1) := by decide +kernel
theorem dX6_fill_112 : decode cX6_fill 112 = .ok (.getfield 46, 3) := by decide +kernel
theorem dX6_fill_115 : decode cX6_fill 115 = .ok (.iconst 4, 1) := by decide +kernel
theorem dX6_fill_116 : decode cX6_fill 116 = .ok (.iload_n 1, 1) := by decide +kernel
theorem dX6_fill_117 : decode cX6_fill 117 = .ok (.imul, 1) := by decide +kernel
theorem dX6_fill_118 : decode cX6_fill 118 = .ok (.iload 4, 2) := by decide +kernel
theorem dX6_fill_120 : decode cX6_fill 120 = .ok (.iadd, 1) := by decide +kernel
theorem dX6_fill_121 : decode cX6_fill 121 = .ok (.iaload, 1) := by decide +kernel
theorem dX6_fill_122 : decode cX6_fill 122 = .ok (.isub, 1) := by decide +kernel
theorem dX6_fill_123 : decode cX6_fill 123 = .ok (.istore 5, 2) := by decide +kernel
theorem dX6_fill_125 : decode cX6_fill 125 = .ok (.iload 5, 2) := by decide +kernel
theorem dX6_fill_127 : decode cX6_fill 127 = .ok (.aload_n 0, 1) := by decide +kernel
theorem dX6_fill_128 : decode cX6_fill 128 = .ok (.getfield 46, 3) := by decide +kernel
theorem dX6_fill_131 : decode cX6_fill 131 = .ok (.iconst 4, 1) := by decide +kernel
theorem dX6_fill_132 : decode cX6_fill 132 = .ok (.iload_n 2, 1) := by decide +kernel
theorem dX6_fill_133 : decode cX6_fill 133 = .ok (.imul, 1) := by decide +kernel
theorem dX6_fill_134 : decode cX6_fill 134 = .ok (.iload 4, 2) := by decide +kernel
theorem dX6_fill_136 : decode cX6_fill 136 = .ok (.iadd, 1) := by decide +kernel
theorem dX6_fill_137 : decode cX6_fill 137 = .ok (.iaload, 1) := by decide +kernel
theorem dX6_fill_138 : decode cX6_fill 138 = .ok (.if_icmp .ge 8, 3) := by decide +kernel
theorem dX6_fill_141 : decode cX6_fill 141 = .ok (.iload 5, 2) := by decide +kernel
theorem dX6_fill_143 : decode cX6_fill 143 = .ok (.goto 14, 3) := by decide +kernel
theorem dX6_fill_146 : decode cX6_fill 146 = .ok (.aload_n 0, 1) := by decide +kernel
theorem dX6_fill_147 : decode cX6_fill 147 = .ok (.getfield 46, 3) := by decide +kernel
theorem dX6_fill_150 : decode cX6_fill 150 = .ok (.iconst 4, 1) := by decide +kernel
theorem dX6_fill_151 : decode cX6_fill 151 = .ok (.iload_n 2, 1) := by decide +kernel
theorem dX6_fill_152 : decode cX6_fill 152 = .ok (.imul, 1) := by decide +kernel
theorem dX6_fill_153 : decode cX6_fill 153 = .ok (.iload 4, 2) := by decide +kernel
theorem dX6_fill_155 : decode cX6_fill 155 = .ok (.iadd, 1) := by decide +kernel
theorem dX6_fill_156 : decode cX6_fill 156 = .ok (.iaload, 1) := by decide +kernel
theorem dX6_fill_157 : decode cX6_fill 157 = .ok (.istore 6, 2) := by decide +kernel
theorem dX6_fill_159 : decode cX6_fill 159 = .ok (.iload 6, 2) := by decide +kernel
theorem dX6_fill_161 : decode cX6_fill 161 = .ok (.ifCond .ge 7, 3) := by decide +kernel
theorem dX6_fill_164 : decode cX6_fill 164 = .ok (.iconst 0, 1) := by decide +kernel
theorem dX6_fill_165 : decode cX6_fill 165 = .ok (.goto 5, 3) := by decide +kernel
theorem dX6_fill_168 : decode cX6_fill 168 = .ok (.iload 6, 2) := by decide +kernel
theorem dX6_fill_170 : decode cX6_fill 170 = .ok (.istore 6, 2) := by decide +kernel
theorem dX6_fill_172 : decode cX6_fill 172 = .ok (.aload_n 0, 1) := by decide +kernel
theorem dX6_fill_173 : decode cX6_fill 173 = .ok (.getfield 46, 3) := by decide +kernel
theorem dX6_fill_176 : decode cX6_fill 176 = .ok (.iconst 4, 1) := by decide +kernel
theorem dX6_fill_177 : decode cX6_fill 177 = .ok (.iload_n 1, 1) := by decide +kernel
theorem dX6_fill_178 : decode cX6_fill 178 = .ok (.imul, 1) := by decide +kernel
theorem dX6_fill_179 : decode cX6_fill 179 = .ok (.iload 4, 2) := by decide +kernel
theorem dX6_fill_181 : decode cX6_fill 181 = .ok (.iadd, 1) := by decide +kernel
theorem dX6_fill_182 : decode cX6_fill 182 = .ok (.dup2, 1) := by decide +kernel
theorem dX6_fill_183 : decode cX6_fill 183 = .ok (.iaload, 1) := by decide +kernel
theorem dX6_fill_184 : decode cX6_fill 184 = .ok (.iload 6, 2) := by decide +kernel
theorem dX6_fill_186 : decode cX6_fill 186 = .ok (.iadd, 1) := by decide +kernel
theorem dX6_fill_187 : decode cX6_fill 187 = .ok (.iastore, 1) := by decide +kernel
theorem dX6_fill_188 : decode cX6_fill 188 = .ok (.aload_n 0, 1) := by decide +kernel
theorem dX6_fill_189 : decode cX6_fill 189 = .ok (.getfield 46, 3) := by decide +kernel
theorem dX6_fill_192 : decode cX6_fill 192 = .ok (.iconst 4, 1) := by decide +kernel
theorem dX6_fill_193 : decode cX6_fill 193 = .ok (.iload_n 2, 1) := by decide +kernel
theorem dX6_fill_194 : decode cX6_fill 194 = .ok (.imul, 1) := by decide +kernel
theorem dX6_fill_195 : decode cX6_fill 195 = .ok (.iload 4, 2) := by decide +kernel
theorem dX6_fill_197 : decode cX6_fill 197 = .ok (.iadd, 1) := by decide +kernel
theorem dX6_fill_198 : decode cX6_fill 198 = .ok (.dup2, 1) := by decide +kernel
theorem dX6_fill_199 : decode cX6_fill 199 = .ok (.iaload, 1) := by decide +kernel
theorem dX6_fill_200 : decode cX6_fill 200 = .ok (.iload 6, 2) := by decide +kernel
theorem dX6_fill_202 : decode cX6_fill 202 = .ok (.isub, 1) := by decide +kernel
theorem dX6_fill_203 : decode cX6_fill 203 = .ok (.iastore, 1) := by decide +kernel
theorem dX6_fill_204 : decode cX6_fill 204 = .ok (.iload_n 3, 1) := by decide +kernel
theorem dX6_fill_205 : decode cX6_fill 205 = .ok (.iload 6, 2) := by decide +kernel
theorem dX6_fill_207 : decode cX6_fill 207 = .ok (.iadd, 1) := by decide +kernel
theorem dX6_fill_208 : decode cX6_fill 208 = .ok (.istore_n 3, 1) := by decide +kernel
theorem dX6_fill_209 : decode cX6_fill 209 = .ok (.iinc 4 1, 3) := by decide +kernel
theorem dX6_fill_212 : decode cX6_fill 212 = .ok (.goto (-123), 3) := by decide +kernel
theorem dX6_fill_215 : decode cX6_fill 215 = .ok (.iload_n 3, 1) := by decide +kernel
theorem dX6_fill_216 : decode cX6_fill 216 = .ok (.ireturn, 1) := by decide +kernel
theorem dX6_playable_0 : decode cX6_playable 0 = .ok (.iconst 1, 1) := by decide +kernel
theorem dX6_playable_1 : decode cX6_playable 1 = .ok (.istore_n 2, 1) := by decide +kernel
theorem dX6_playable_2 : decode cX6_playable 2 = .ok (.iconst 0, 1) := by decide +kernel
theorem dX6_playable_3 : decode cX6_playable 3 = .ok (.istore_n 3, 1) := by decide +kernel
theorem dX6_playable_4 : decode cX6_playable 4 = .ok (.iload_n 3, 1) := by decide +kernel
theorem dX6_playable_5 : decode cX6_playable 5 = .ok (.iconst 4, 1) := by decide +kernel
theorem dX6_playable_6 : decode cX6_playable 6 = .ok (.if_icmp .ge 47, 3) := by decide +kernel
theorem dX6_playable_9 : decode cX6_playable 9 = .ok (.iload_n 2, 1) := by decide +kernel
theorem dX6_playable_10 : decode cX6_playable 10 = .ok (.ifCond .eq 35, 3) := by decide +kernel
theorem dX6_playable_13 : decode cX6_playable 13 = .ok (.aload_n 0, 1) := by decide +kernel
theorem dX6_playable_14 : decode cX6_playable 14 = .ok (.getfield 46, 3) := by decide +kernel
theorem dX6_playable_17 : decode cX6_playable 17 = .ok (.iconst 4, 1) := by decide +kernel
theorem dX6_playable_18 : decode cX6_playable 18 = .ok (.iload_n 1, 1) := by decide +kernel
theorem dX6_playable_19 : decode cX6_playable 19 = .ok (.imul, 1) := by decide +kernel
theorem dX6_playable_20 : decode cX6_playable 20 = .ok (.iload_n 3, 1) := by decide +kernel
theorem dX6_playable_21 : decode cX6_playable 21 = .ok (.iadd, 1) := by decide +kernel
theorem dX6_playable_22 : decode cX6_playable 22 = .ok (.iaload, 1) := by decide +kernel
theorem dX6_playable_23 : decode cX6_playable 23 = .ok (.aload_n 0, 1) := by decide +kernel
theorem dX6_playable_24 : decode cX6_playable 24 = .ok (.getfield 22, 3) := by decide +kernel
theorem dX6_playable_27 : decode cX6_playable 27 = .ok (.iconst 4, 1) := by decide +kernel
theorem dX6_playable_28 : decode cX6_playable 28 = .ok (.aload_n 0, 1) := by decide +kernel
theorem dX6_playable_29 : decode cX6_playable 29 = .ok (.getfield 40, 3) := by decide +kernel
theorem dX6_playable_32 : decode cX6_playable 32 = .ok (.iload_n 1, 1) := by decide +kernel
theorem dX6_playable_33 : decode cX6_playable 33 = .ok (.iaload, 1) := by decide +kernel
theorem dX6_playable_34 : decode cX6_playable 34 = .ok (.imul, 1) := by decide +kernel
theorem dX6_playable_35 : decode cX6_playable 35 = .ok (.iload_n 3, 1) := by decide +kernel
theorem dX6_playable_36 : decode cX6_playable 36 = .ok (.iadd, 1) := by decide +kernel
theorem dX6_playable_37 : decode cX6_playable 37 = .ok (.iaload, 1) := by decide +kernel
theorem dX6_playable_38 : decode cX6_playable 38 = .ok (.if_icmp .lt 7, 3) := by decide +kernel
theorem dX6_playable_41 : decode cX6_playable 41 = .ok (.iconst 1, 1) := by decide +kernel
theorem dX6_playable_42 : decode cX6_playable 42 = .ok (.goto 4, 3) := by decide +kernel
theorem dX6_playable_45 : decode cX6_playable 45 = .ok (.iconst 0, 1) := by decide +kernel
theorem dX6_playable_46 : decode cX6_playable 46 = .ok (.istore_n 2, 1) := by decide +kernel
theorem dX6_playable_47 : decode cX6_playable 47 = .ok (.iinc 3 1, 3) := by decide +kernel
theorem dX6_playable_50 : decode cX6_playable 50 = .ok (.goto (-46), 3) := by decide +kernel
theorem dX6_playable_53 : decode cX6_playable 53 = .ok (.iload_n 2, 1) := by decide +kernel
theorem dX6_playable_54 : decode cX6_playable 54 = .ok (.ireturn, 1) := by decide +kernel
theorem dX6_tableFor_0 : decode cX6_tableFor 0 = .ok (.iconst (-1), 1) := by decide +kernel
theorem dX6_tableFor_1 : decode cX6_tableFor 1 = .ok (.istore_n 2, 1) := by decide +kernel
theorem dX6_tableFor_2 : decode cX6_tableFor 2 = .ok (.iconst 0, 1) := by decide +kernel
theorem dX6_tableFor_3 : decode cX6_tableFor 3 = .ok (.istore_n 3, 1) := by decide +kernel
theorem dX6_tableFor_4 : decode cX6_tableFor 4 = .ok (.iload_n 3, 1) := by decide +kernel
theorem dX6_tableFor_5 : decode cX6_tableFor 5 = .ok (.bipush 6, 2) := by decide +kernel
theorem dX6_tableFor_7 : decode cX6_tableFor 7 = .ok (.if_icmp .ge 66, 3) := by decide +kernel
theorem dX6_tableFor_10 : decode cX6_tableFor 10 = .ok (.aload_n 0, 1) := by decide +kernel
theorem dX6_tableFor_11 : decode cX6_tableFor 11 = .ok (.getfield 31, 3) := by decide +kernel
theorem dX6_tableFor_14 : decode cX6_tableFor 14 = .ok (.iload_n 3, 1) := by decide +kernel
theorem dX6_tableFor_15 : decode cX6_tableFor 15 = .ok (.iaload, 1) := by decide +kernel
theorem dX6_tableFor_16 : decode cX6_tableFor 16 = .ok (.ifCond .ne 17, 3) := by decide +kernel
theorem dX6_tableFor_19 : decode cX6_tableFor 19 = .ok (.aload_n 0, 1) := by decide +kernel
theorem dX6_tableFor_20 : decode cX6_tableFor 20 = .ok (.getfield 28, 3) := by decide +kernel
theorem dX6_tableFor_23 : decode cX6_tableFor 23 = .ok (.iload_n 3, 1) := by decide +kernel
theorem dX6_tableFor_24 : decode cX6_tableFor 24 = .ok (.iaload, 1) := by decide +kernel
theorem dX6_tableFor_25 : decode cX6_tableFor 25 = .ok (.iload_n 1, 1) := by decide +kernel
theorem dX6_tableFor_26 : decode cX6_tableFor 26 = .ok (.if_icmp .lt 7, 3) := by decide +kernel
theorem dX6_tableFor_29 : decode cX6_tableFor 29 = .ok (.iconst 1, 1) := by decide +kernel
theorem dX6_tableFor_30 : decode cX6_tableFor 30 = .ok (.goto 4, 3) := by decide +kernel
theorem dX6_tableFor_33 : decode cX6_tableFor 33 = .ok (.iconst 0, 1) := by decide +kernel
theorem dX6_tableFor_34 : decode cX6_tableFor 34 = .ok (.istore 4, 2) := by decide +kernel
theorem dX6_tableFor_36 : decode cX6_tableFor 36 = .ok (.iload 4, 2) := by decide +kernel
theorem dX6_tableFor_38 : decode cX6_tableFor 38 = .ok (.ifCond .eq 27, 3) := by decide +kernel
theorem dX6_tableFor_41 : decode cX6_tableFor 41 = .ok (.iload_n 2, 1) := by decide +kernel
theorem dX6_tableFor_42 : decode cX6_tableFor 42 = .ok (.iconst (-1), 1) := by decide +kernel
theorem dX6_tableFor_43 : decode cX6_tableFor 43 = .ok (.if_icmp .eq 18, 3) := by decide +kernel
theorem dX6_tableFor_46 : decode cX6_tableFor 46 = .ok (.aload_n 0, 1) := by decide +kernel
theorem dX6_tableFor_47 : decode cX6_tableFor 47 = .ok (.getfield 28, 3) := by decide +kernel
theorem dX6_tableFor_50 : decode cX6_tableFor 50 = .ok (.iload_n 3, 1) := by decide +kernel
theorem dX6_tableFor_51 : decode cX6_tableFor 51 = .ok (.iaload, 1) := by decide +kernel
theorem dX6_tableFor_52 : decode cX6_tableFor 52 = .ok (.aload_n 0, 1) := by decide +kernel
theorem dX6_tableFor_53 : decode cX6_tableFor 53 = .ok (.getfield 28, 3) := by decide +kernel
theorem dX6_tableFor_56 : decode cX6_tableFor 56 = .ok (.iload_n 2, 1) := by decide +kernel
theorem dX6_tableFor_57 : decode cX6_tableFor 57 = .ok (.iaload, 1) := by decide +kernel
theorem dX6_tableFor_58 : decode cX6_tableFor 58 = .ok (.if_icmp .ge 7, 3) := by decide +kernel
theorem dX6_tableFor_61 : decode cX6_tableFor 61 = .ok (.iload_n 3, 1) := by decide +kernel
theorem dX6_tableFor_62 : decode cX6_tableFor 62 = .ok (.goto 4, 3) := by decide +kernel
theorem dX6_tableFor_65 : decode cX6_tableFor 65 = .ok (.iload_n 2, 1) := by decide +kernel
theorem dX6_tableFor_66 : decode cX6_tableFor 66 = .ok (.istore_n 2, 1) := by decide +kernel
theorem dX6_tableFor_67 : decode cX6_tableFor 67 = .ok (.iinc 3 1, 3) := by decide +kernel
theorem dX6_tableFor_70 : decode cX6_tableFor 70 = .ok (.goto (-66), 3) := by decide +kernel
theorem dX6_tableFor_73 : decode cX6_tableFor 73 = .ok (.iload_n 2, 1) := by decide +kernel
theorem dX6_tableFor_74 : decode cX6_tableFor 74 = .ok (.ireturn, 1) := by decide +kernel
set_option maxRecDepth 20000 in
theorem ggX6_copyFor_X6_playable : GoodIn wsX6_copyFor wsX6_playable := goodIn_r _ [8, 9, 10, 2, 11, 12, 13, 14, 15, 16, 17, 18, 19, 20, 21, 22, 23, 24, 25, 26, 27, 28, 29, 30, 31, 32, 33, 34] (by decide +kernel) (by decide +kernel)
set_option maxRecDepth 20000 in
theorem gX6_copyFor_X6_playable : GoodIn wsX6_copyFor (wsV RX6 95 RX6 yX6_playable wsX6_playable) := goodIn_app (goodIn_of _ (by decide +kernel)) ggX6_copyFor_X6_playable
theorem dX6_copyFor_0 : decode cX6_copyFor 0 = .ok (.iconst 0, 1) := by decide +kernel
theorem dX6_copyFor_1 : decode cX6_copyFor 1 = .ok (.istore_n 2, 1) := by decide +kernel
theorem dX6_copyFor_2 : decode cX6_copyFor 2 = .ok (.iload_n 2, 1) := by decide +kernel
theorem dX6_copyFor_3 : decode cX6_copyFor 3 = .ok (.aload_n 0, 1) := by decide +kernel
theorem dX6_copyFor_4 : decode cX6_copyFor 4 = .ok (.getfield 78, 3) := by decide +kernel
theorem dX6_copyFor_7 : decode cX6_copyFor 7 = .ok (.if_icmp .ge 36, 3) := by decide +kernel
theorem dX6_copyFor_10 : decode cX6_copyFor 10 = .ok (.aload_n 0, 1) := by decide +kernel
theorem dX6_copyFor_11 : decode cX6_copyFor 11 = .ok (.getfield 40, 3) := by decide +kernel
theorem dX6_copyFor_14 : decode cX6_copyFor 14 = .ok (.iload_n 2, 1) := by decide +kernel
theorem dX6_copyFor_15 : decode cX6_copyFor 15 = .ok (.iaload, 1) := by decide +kernel
theorem dX6_copyFor_16 : decode cX6_copyFor 16 = .ok (.iload_n 1, 1) := by decide +kernel
theorem dX6_copyFor_17 : decode cX6_copyFor 17 = .ok (.if_icmp .ne 20, 3) := by decide +kernel
theorem dX6_copyFor_20 : decode cX6_copyFor 20 = .ok (.aload_n 0, 1) := by decide +kernel
theorem dX6_copyFor_21 : decode cX6_copyFor 21 = .ok (.getfield 43, 3) := by decide +kernel
theorem dX6_copyFor_24 : decode cX6_copyFor 24 = .ok (.iload_n 2, 1) := by decide +kernel
theorem dX6_copyFor_25 : decode cX6_copyFor 25 = .ok (.iaload, 1) := by decide +kernel
theorem dX6_copyFor_26 : decode cX6_copyFor 26 = .ok (.ifCond .ne 11, 3) := by decide +kernel
theorem dX6_copyFor_29 : decode cX6_copyFor 29 = .ok (.aload_n 0, 1) := by decide +kernel
theorem dX6_copyFor_30 : decode cX6_copyFor 30 = .ok (.iload_n 2, 1) := by decide +kernel
theorem dX6_copyFor_31 : decode cX6_copyFor 31 = .ok (.invokevirtual 95, 3) := by decide +kernel
theorem dX6_copyFor_34 : decode cX6_copyFor 34 = .ok (.ifCond .ne 9, 3) := by decide +kernel
theorem dX6_copyFor_37 : decode cX6_copyFor 37 = .ok (.iinc 2 1, 3) := by decide +kernel
theorem dX6_copyFor_40 : decode cX6_copyFor 40 = .ok (.goto (-38), 3) := by decide +kernel
theorem dX6_copyFor_43 : decode cX6_copyFor 43 = .ok (.iload_n 2, 1) := by decide +kernel
theorem dX6_copyFor_44 : decode cX6_copyFor 44 = .ok (.aload_n 0, 1) := by decide +kernel
theorem dX6_copyFor_45 : decode cX6_copyFor 45 = .ok (.getfield 78, 3) := by decide +kernel
theorem dX6_copyFor_48 : decode cX6_copyFor 48 = .ok (.if_icmp .ge 7, 3) := by decide +kernel
theorem dX6_copyFor_51 : decode cX6_copyFor 51 = .ok (.iload_n 2, 1) := by decide +kernel
theorem dX6_copyFor_52 : decode cX6_copyFor 52 = .ok (.goto 4, 3) := by decide +kernel
theorem dX6_copyFor_55 : decode cX6_copyFor 55 = .ok (.iconst (-1), 1) := by decide +kernel
theorem dX6_copyFor_56 : decode cX6_copyFor 56 = .ok (.ireturn, 1) := by decide +kernel
theorem dX6_teacherFor_0 : decode cX6_teacherFor 0 = .ok (.iconst 0, 1) := by decide +kernel
theorem dX6_teacherFor_1 : decode cX6_teacherFor 1 = .ok (.istore_n 2, 1) := by decide +kernel
theorem dX6_teacherFor_2 : decode cX6_teacherFor 2 = .ok (.iload_n 2, 1) := by decide +kernel
theorem dX6_teacherFor_3 : decode cX6_teacherFor 3 = .ok (.iconst 3, 1) := by decide +kernel
theorem dX6_teacherFor_4 : decode cX6_teacherFor 4 = .ok (.if_icmp .ge 36, 3) := by decide +kernel
theorem dX6_teacherFor_7 : decode cX6_teacherFor 7 = .ok (.aload_n 0, 1) := by decide +kernel
theorem dX6_teacherFor_8 : decode cX6_teacherFor 8 = .ok (.getfield 34, 3) := by decide +kernel
theorem dX6_teacherFor_11 : decode cX6_teacherFor 11 = .ok (.iconst 5, 1) := by decide +kernel
theorem dX6_teacherFor_12 : decode cX6_teacherFor 12 = .ok (.iload_n 2, 1) := by decide +kernel
theorem dX6_teacherFor_13 : decode cX6_teacherFor 13 = .ok (.imul, 1) := by decide +kernel
theorem dX6_teacherFor_14 : decode cX6_teacherFor 14 = .ok (.iload_n 1, 1) := by decide +kernel
theorem dX6_teacherFor_15 : decode cX6_teacherFor 15 = .ok (.iadd, 1) := by decide +kernel
theorem dX6_teacherFor_16 : decode cX6_teacherFor 16 = .ok (.iaload, 1) := by decide +kernel
theorem dX6_teacherFor_17 : decode cX6_teacherFor 17 = .ok (.iconst 1, 1) := by decide +kernel
theorem dX6_teacherFor_18 : decode cX6_teacherFor 18 = .ok (.if_icmp .eq 16, 3) := by decide +kernel
theorem dX6_teacherFor_21 : decode cX6_teacherFor 21 = .ok (.aload_n 0, 1) := by decide +kernel
theorem dX6_teacherFor_22 : decode cX6_teacherFor 22 = .ok (.getfield 37, 3) := by decide +kernel
theorem dX6_teacherFor_25 : decode cX6_teacherFor 25 = .ok (.iload_n 2, 1) := by decide +kernel
theorem dX6_teacherFor_26 : decode cX6_teacherFor 26 = .ok (.iaload, 1) := by decide +kernel
theorem dX6_teacherFor_27 : decode cX6_teacherFor 27 = .ok (.aload_n 0, 1) := by decide +kernel
theorem dX6_teacherFor_28 : decode cX6_teacherFor 28 = .ok (.getfield 98, 3) := by decide +kernel
theorem dX6_teacherFor_31 : decode cX6_teacherFor 31 = .ok (.if_icmp .le 9, 3) := by decide +kernel
theorem dX6_teacherFor_34 : decode cX6_teacherFor 34 = .ok (.iinc 2 1, 3) := by decide +kernel
theorem dX6_teacherFor_37 : decode cX6_teacherFor 37 = .ok (.goto (-35), 3) := by decide +kernel
theorem dX6_teacherFor_40 : decode cX6_teacherFor 40 = .ok (.iload_n 2, 1) := by decide +kernel
theorem dX6_teacherFor_41 : decode cX6_teacherFor 41 = .ok (.iconst 3, 1) := by decide +kernel
theorem dX6_teacherFor_42 : decode cX6_teacherFor 42 = .ok (.if_icmp .ge 7, 3) := by decide +kernel
theorem dX6_teacherFor_45 : decode cX6_teacherFor 45 = .ok (.iload_n 2, 1) := by decide +kernel
theorem dX6_teacherFor_46 : decode cX6_teacherFor 46 = .ok (.goto 4, 3) := by decide +kernel
theorem dX6_teacherFor_49 : decode cX6_teacherFor 49 = .ok (.iconst (-1), 1) := by decide +kernel
theorem dX6_teacherFor_50 : decode cX6_teacherFor 50 = .ok (.ireturn, 1) := by decide +kernel
set_option maxRecDepth 20000 in
theorem ggX6_seat_X6_isGame : GoodIn wsX6_seat wsX6_isGame := goodIn_r _ [17, 18, 19, 16, 20] (by decide +kernel) (by decide +kernel)
set_option maxRecDepth 20000 in
theorem gX6_seat_X6_isGame : GoodIn wsX6_seat (va_wsS RX6 84 yX6_isGame wsX6_isGame) := goodIn_app (goodIn_of _ (by decide +kernel)) ggX6_seat_X6_isGame
set_option maxRecDepth 20000 in
theorem ggX6_seat_X6_in : GoodIn wsX6_seat wsX6_in := goodIn_r _ [20] (by decide +kernel) (by decide +kernel)
set_option maxRecDepth 20000 in
theorem gX6_seat_X6_in : GoodIn wsX6_seat (va_wsS RX6 74 yX6_in wsX6_in) := goodIn_app (goodIn_of _ (by decide +kernel)) ggX6_seat_X6_in
set_option maxRecDepth 20000 in
theorem ggX6_seat_X6_tableFor : GoodIn wsX6_seat wsX6_tableFor := goodIn_r _ [24, 8, 25, 47, 48, 49, 50, 51, 52, 53, 54, 55, 56, 57, 58, 59, 60, 61, 62, 63, 64, 65, 66, 67, 68, 69, 70] (by decide +kernel) (by decide +kernel)
set_option maxRecDepth 20000 in
theorem gX6_seat_X6_tableFor : GoodIn wsX6_seat (wsV RX6 101 RX6 yX6_tableFor wsX6_tableFor) := goodIn_app (goodIn_of _ (by decide +kernel)) ggX6_seat_X6_tableFor
set_option maxRecDepth 20000 in
theorem ggX6_seat_X6_copyFor : GoodIn wsX6_seat wsX6_copyFor := goodIn_r _ [29, 30, 31, 9, 32, 33, 34, 16, 35, 36, 37, 47, 48, 49, 50, 51, 52, 53, 54, 55, 56, 57, 58, 59, 60, 61, 62, 63, 64, 65, 66, 67, 68, 69, 70] (by decide +kernel) (by decide +kernel)
set_option maxRecDepth 20000 in
theorem gX6_seat_X6_copyFor : GoodIn wsX6_seat (wsV RX6 104 RX6 yX6_copyFor wsX6_copyFor) := goodIn_app (goodIn_of _ (by decide +kernel)) ggX6_seat_X6_copyFor
set_option maxRecDepth 20000 in
theorem ggX6_seat_X6_teacherFor : GoodIn wsX6_seat wsX6_teacherFor := goodIn_r _ [41, 42, 5, 6, 47, 48, 49, 50, 51, 52, 53, 54, 55, 56, 57, 58, 59, 60, 61, 62, 63, 64, 65, 66, 67, 68, 69, 70] (by decide +kernel) (by decide +kernel)
set_option maxRecDepth 20000 in
theorem gX6_seat_X6_teacherFor : GoodIn wsX6_seat (wsV RX6 107 RX6 yX6_teacherFor wsX6_teacherFor) := goodIn_app (goodIn_of _ (by decide +kernel)) ggX6_seat_X6_teacherFor
set_option maxRecDepth 20000 in
theorem ggX6_seat_X6_fails : GoodIn wsX6_seat wsX6_fails := goodIn_r _ [46, 3, 47, 48, 49, 50, 51, 52, 53, 54, 55, 56, 57, 58, 59, 60, 61, 62, 63, 64, 65, 66, 67, 68, 69, 70] (by decide +kernel) (by decide +kernel)
set_option maxRecDepth 20000 in
theorem gX6_seat_X6_fails : GoodIn wsX6_seat (wsV RX6 91 RX6 yX6_fails wsX6_fails) := goodIn_app (goodIn_of _ (by decide +kernel)) ggX6_seat_X6_fails
theorem dX6_seat_0 : decode cX6_seat 0 = .ok (.aload_n 0, 1) := by decide +kernel
theorem dX6_seat_1 : decode cX6_seat 1 = .ok (.iload_n 2, 1) := by decide +kernel
theorem dX6_seat_2 : decode cX6_seat 2 = .ok (.invokestatic 84, 3) := by decide +kernel
theorem dX6_seat_5 : decode cX6_seat 5 = .ok (.ifCond .ne 7, 3) := by decide +kernel
theorem dX6_seat_8 : decode cX6_seat 8 = .ok (.iconst 1, 1) := by decide +kernel
theorem dX6_seat_9 : decode cX6_seat 9 = .ok (.goto 37, 3) := by decide +kernel
theorem dX6_seat_12 : decode cX6_seat 12 = .ok (.iload_n 1, 1) := by decide +kernel
theorem dX6_seat_13 : decode cX6_seat 13 = .ok (.iconst 1, 1) := by decide +kernel
theorem dX6_seat_14 : decode cX6_seat 14 = .ok (.bipush 8, 2) := by decide +kernel
theorem dX6_seat_16 : decode cX6_seat 16 = .ok (.invokestatic 74, 3) := by decide +kernel
theorem dX6_seat_19 : decode cX6_seat 19 = .ok (.ifCond .eq 22, 3) := by decide +kernel
theorem dX6_seat_22 : decode cX6_seat 22 = .ok (.iload_n 1, 1) := by decide +kernel
theorem dX6_seat_23 : decode cX6_seat 23 = .ok (.aload_n 0, 1) := by decide +kernel
theorem dX6_seat_24 : decode cX6_seat 24 = .ok (.getfield 7, 3) := by decide +kernel
theorem dX6_seat_27 : decode cX6_seat 27 = .ok (.iload_n 2, 1) := by decide +kernel
theorem dX6_seat_28 : decode cX6_seat 28 = .ok (.iaload, 1) := by decide +kernel
theorem dX6_seat_29 : decode cX6_seat 29 = .ok (.aload_n 0, 1) := by decide +kernel
theorem dX6_seat_30 : decode cX6_seat 30 = .ok (.getfield 13, 3) := by decide +kernel
theorem dX6_seat_33 : decode cX6_seat 33 = .ok (.iload_n 2, 1) := by decide +kernel
theorem dX6_seat_34 : decode cX6_seat 34 = .ok (.iaload, 1) := by decide +kernel
theorem dX6_seat_35 : decode cX6_seat 35 = .ok (.invokestatic 74, 3) := by decide +kernel
theorem dX6_seat_38 : decode cX6_seat 38 = .ok (.ifCond .ne 7, 3) := by decide +kernel
theorem dX6_seat_41 : decode cX6_seat 41 = .ok (.iconst 2, 1) := by decide +kernel
theorem dX6_seat_42 : decode cX6_seat 42 = .ok (.goto 4, 3) := by decide +kernel
theorem dX6_seat_45 : decode cX6_seat 45 = .ok (.iconst 0, 1) := by decide +kernel
theorem dX6_seat_46 : decode cX6_seat 46 = .ok (.putfield 70, 3) := by decide +kernel
theorem dX6_seat_49 : decode cX6_seat 49 = .ok (.aload_n 0, 1) := by decide +kernel
theorem dX6_seat_50 : decode cX6_seat 50 = .ok (.getfield 70, 3) := by decide +kernel
theorem dX6_seat_53 : decode cX6_seat 53 = .ok (.ifCond .le 5, 3) := by decide +kernel
theorem dX6_seat_56 : decode cX6_seat 56 = .ok (.iconst 0, 1) := by decide +kernel
theorem dX6_seat_57 : decode cX6_seat 57 = .ok (.ireturn, 1) := by decide +kernel
theorem dX6_seat_58 : decode cX6_seat 58 = .ok (.aload_n 0, 1) := by decide +kernel
theorem dX6_seat_59 : decode cX6_seat 59 = .ok (.iload_n 1, 1) := by decide +kernel
theorem dX6_seat_60 : decode cX6_seat 60 = .ok (.invokevirtual 101, 3) := by decide +kernel
theorem dX6_seat_63 : decode cX6_seat 63 = .ok (.istore 4, 2) := by decide +kernel
theorem dX6_seat_65 : decode cX6_seat 65 = .ok (.aload_n 0, 1) := by decide +kernel
theorem dX6_seat_66 : decode cX6_seat 66 = .ok (.iload_n 2, 1) := by decide +kernel
theorem dX6_seat_67 : decode cX6_seat 67 = .ok (.invokevirtual 104, 3) := by decide +kernel
theorem dX6_seat_70 : decode cX6_seat 70 = .ok (.istore 5, 2) := by decide +kernel
theorem dX6_seat_72 : decode cX6_seat 72 = .ok (.iload_n 3, 1) := by decide +kernel
theorem dX6_seat_73 : decode cX6_seat 73 = .ok (.ifCond .eq 7, 3) := by decide +kernel
theorem dX6_seat_76 : decode cX6_seat 76 = .ok (.iconst 0, 1) := by decide +kernel
theorem dX6_seat_77 : decode cX6_seat 77 = .ok (.goto 8, 3) := by decide +kernel
theorem dX6_seat_80 : decode cX6_seat 80 = .ok (.aload_n 0, 1) := by decide +kernel
theorem dX6_seat_81 : decode cX6_seat 81 = .ok (.iload_n 2, 1) := by decide +kernel
theorem dX6_seat_82 : decode cX6_seat 82 = .ok (.invokevirtual 107, 3) := by decide +kernel
theorem dX6_seat_85 : decode cX6_seat 85 = .ok (.istore 6, 2) := by decide +kernel
theorem dX6_seat_87 : decode cX6_seat 87 = .ok (.aload_n 0, 1) := by decide +kernel
theorem dX6_seat_88 : decode cX6_seat 88 = .ok (.getfield 81, 3) := by decide +kernel
theorem dX6_seat_91 : decode cX6_seat 91 = .ok (.bipush 60, 2) := by decide +kernel
theorem dX6_seat_93 : decode cX6_seat 93 = .ok (.if_icmp .eq 21, 3) := by decide +kernel
theorem dX6_seat_96 : decode cX6_seat 96 = .ok (.iload 4, 2) := by decide +kernel
theorem dX6_seat_98 : decode cX6_seat 98 = .ok (.iconst (-1), 1) := by decide +kernel
theorem dX6_seat_99 : decode cX6_seat 99 = .ok (.if_icmp .eq 15, 3) := by decide +kernel
theorem dX6_seat_102 : decode cX6_seat 102 = .ok (.iload 5, 2) := by decide +kernel
theorem dX6_seat_104 : decode cX6_seat 104 = .ok (.iconst (-1), 1) := by decide +kernel
theorem dX6_seat_105 : decode cX6_seat 105 = .ok (.if_icmp .eq 9, 3) := by decide +kernel
theorem dX6_seat_108 : decode cX6_seat 108 = .ok (.iload 6, 2) := by decide +kernel
theorem dX6_seat_110 : decode cX6_seat 110 = .ok (.iconst (-1), 1) := by decide +kernel
theorem dX6_seat_111 : decode cX6_seat 111 = .ok (.if_icmp .ne 9, 3) := by decide +kernel
theorem dX6_seat_114 : decode cX6_seat 114 = .ok (.aload_n 0, 1) := by decide +kernel
theorem dX6_seat_115 : decode cX6_seat 115 = .ok (.iconst 3, 1) := by decide +kernel
theorem dX6_seat_116 : decode cX6_seat 116 = .ok (.invokevirtual 91, 3) := by decide +kernel
theorem dX6_seat_119 : decode cX6_seat 119 = .ok (.ireturn, 1) := by decide +kernel
theorem dX6_seat_120 : decode cX6_seat 120 = .ok (.iload_n 3, 1) := by decide +kernel
theorem dX6_seat_121 : decode cX6_seat 121 = .ok (.ifCond .ne 21, 3) := by decide +kernel
theorem dX6_seat_124 : decode cX6_seat 124 = .ok (.aload_n 0, 1) := by decide +kernel
theorem dX6_seat_125 : decode cX6_seat 125 = .ok (.getfield 37, 3) := by decide +kernel
theorem dX6_seat_128 : decode cX6_seat 128 = .ok (.iload 6, 2) := by decide +kernel
theorem dX6_seat_130 : decode cX6_seat 130 = .ok (.aload_n 0, 1) := by decide +kernel
theorem dX6_seat_131 : decode cX6_seat 131 = .ok (.getfield 98, 3) := by decide +kernel
theorem dX6_seat_134 : decode cX6_seat 134 = .ok (.aload_n 0, 1) := by decide +kernel
theorem dX6_seat_135 : decode cX6_seat 135 = .ok (.getfield 16, 3) := by decide +kernel
theorem dX6_seat_138 : decode cX6_seat 138 = .ok (.iload_n 2, 1) := by decide +kernel
theorem dX6_seat_139 : decode cX6_seat 139 = .ok (.iaload, 1) := by decide +kernel
theorem dX6_seat_140 : decode cX6_seat 140 = .ok (.iadd, 1) := by decide +kernel
theorem dX6_seat_141 : decode cX6_seat 141 = .ok (.iastore, 1) := by decide +kernel
theorem dX6_seat_142 : decode cX6_seat 142 = .ok (.aload_n 0, 1) := by decide +kernel
theorem dX6_seat_143 : decode cX6_seat 143 = .ok (.getfield 31, 3) := by decide +kernel
theorem dX6_seat_146 : decode cX6_seat 146 = .ok (.iload 4, 2) := by decide +kernel
theorem dX6_seat_148 : decode cX6_seat 148 = .ok (.aload_n 0, 1) := by decide +kernel
theorem dX6_seat_149 : decode cX6_seat 149 = .ok (.getfield 81, 3) := by decide +kernel
theorem dX6_seat_152 : decode cX6_seat 152 = .ok (.iconst 1, 1) := by decide +kernel
theorem dX6_seat_153 : decode cX6_seat 153 = .ok (.iadd, 1) := by decide +kernel
theorem dX6_seat_154 : decode cX6_seat 154 = .ok (.iastore, 1) := by decide +kernel
theorem dX6_seat_155 : decode cX6_seat 155 = .ok (.aload_n 0, 1) := by decide +kernel
theorem dX6_seat_156 : decode cX6_seat 156 = .ok (.getfield 43, 3) := by decide +kernel
theorem dX6_seat_159 : decode cX6_seat 159 = .ok (.iload 5, 2) := by decide +kernel
theorem dX6_seat_161 : decode cX6_seat 161 = .ok (.iconst 1, 1) := by decide +kernel
theorem dX6_seat_162 : decode cX6_seat 162 = .ok (.iastore, 1) := by decide +kernel
theorem dX6_seat_163 : decode cX6_seat 163 = .ok (.aload_n 0, 1) := by decide +kernel
theorem dX6_seat_164 : decode cX6_seat 164 = .ok (.getfield 49, 3) := by decide +kernel
theorem dX6_seat_167 : decode cX6_seat 167 = .ok (.aload_n 0, 1) := by decide +kernel
theorem dX6_seat_168 : decode cX6_seat 168 = .ok (.getfield 81, 3) := by decide +kernel
theorem dX6_seat_171 : decode cX6_seat 171 = .ok (.iload_n 1, 1) := by decide +kernel
theorem dX6_seat_172 : decode cX6_seat 172 = .ok (.iastore, 1) := by decide +kernel
theorem dX6_seat_173 : decode cX6_seat 173 = .ok (.aload_n 0, 1) := by decide +kernel
theorem dX6_seat_174 : decode cX6_seat 174 = .ok (.getfield 52, 3) := by decide +kernel
theorem dX6_seat_177 : decode cX6_seat 177 = .ok (.aload_n 0, 1) := by decide +kernel
theorem dX6_seat_178 : decode cX6_seat 178 = .ok (.getfield 81, 3) := by decide +kernel
theorem dX6_seat_181 : decode cX6_seat 181 = .ok (.iload 4, 2) := by decide +kernel
theorem dX6_seat_183 : decode cX6_seat 183 = .ok (.iastore, 1) := by decide +kernel
theorem dX6_seat_184 : decode cX6_seat 184 = .ok (.aload_n 0, 1) := by decide +kernel
theorem dX6_seat_185 : decode cX6_seat 185 = .ok (.getfield 55, 3) := by decide +kernel
theorem dX6_seat_188 : decode cX6_seat 188 = .ok (.aload_n 0, 1) := by decide +kernel
theorem dX6_seat_189 : decode cX6_seat 189 = .ok (.getfield 81, 3) := by decide +kernel
theorem dX6_seat_192 : decode cX6_seat 192 = .ok (.iload 5, 2) := by decide +kernel
theorem dX6_seat_194 : decode cX6_seat 194 = .ok (.iastore, 1) := by decide +kernel
theorem dX6_seat_195 : decode cX6_seat 195 = .ok (.aload_n 0, 1) := by decide +kernel
theorem dX6_seat_196 : decode cX6_seat 196 = .ok (.getfield 58, 3) := by decide +kernel
theorem dX6_seat_199 : decode cX6_seat 199 = .ok (.aload_n 0, 1) := by decide +kernel
theorem dX6_seat_200 : decode cX6_seat 200 = .ok (.getfield 81, 3) := by decide +kernel
theorem dX6_seat_203 : decode cX6_seat 203 = .ok (.aload_n 0, 1) := by decide +kernel
theorem dX6_seat_204 : decode cX6_seat 204 = .ok (.getfield 98, 3) := by decide +kernel
theorem dX6_seat_207 : decode cX6_seat 207 = .ok (.iastore, 1) := by decide +kernel
theorem dX6_seat_208 : decode cX6_seat 208 = .ok (.aload_n 0, 1) := by decide +kernel
theorem dX6_seat_209 : decode cX6_seat 209 = .ok (.dup, 1) := by decide +kernel
theorem dX6_seat_210 : decode cX6_seat 210 = .ok (.getfield 81, 3) := by decide +kernel
theorem dX6_seat_213 : decode cX6_seat 213 = .ok (.iconst 1, 1) := by decide +kernel
theorem dX6_seat_214 : decode cX6_seat 214 = .ok (.iadd, 1) := by decide +kernel
theorem dX6_seat_215 : decode cX6_seat 215 = .ok (.putfield 81, 3) := by decide +kernel
theorem dX6_seat_218 : decode cX6_seat 218 = .ok (.aload_n 0, 1) := by decide +kernel
theorem dX6_seat_219 : decode cX6_seat 219 = .ok (.getfield 81, 3) := by decide +kernel
theorem dX6_seat_222 : decode cX6_seat 222 = .ok (.iconst 1, 1) := by decide +kernel
theorem dX6_seat_223 : decode cX6_seat 223 = .ok (.isub, 1) := by decide +kernel
theorem dX6_seat_224 : decode cX6_seat 224 = .ok (.ireturn, 1) := by decide +kernel
set_option maxRecDepth 20000 in
theorem ggX6_grow_X6_isThere : GoodIn wsX6_grow wsX6_isThere := goodIn_r _ [12, 13, 14, 15, 16, 17, 11, 18, 27, 28, 29, 30, 31, 32, 33, 34, 35, 36, 37, 38, 39, 40, 41, 42, 43, 44, 45, 46, 47, 48, 49, 50] (by decide +kernel) (by decide +kernel)
set_option maxRecDepth 20000 in
theorem gX6_grow_X6_isThere : GoodIn wsX6_grow (wsV RX6 110 RX6 yX6_isThere wsX6_isThere) := goodIn_app (goodIn_of _ (by decide +kernel)) ggX6_grow_X6_isThere
set_option maxRecDepth 20000 in
theorem ggX6_grow_X6_in : GoodIn wsX6_grow wsX6_in := goodIn_r _ [18] (by decide +kernel) (by decide +kernel)
set_option maxRecDepth 20000 in
theorem gX6_grow_X6_in : GoodIn wsX6_grow (va_wsS RX6 74 yX6_in wsX6_in) := goodIn_app (goodIn_of _ (by decide +kernel)) ggX6_grow_X6_in
set_option maxRecDepth 20000 in
theorem ggX6_grow_X6_fails : GoodIn wsX6_grow wsX6_fails := goodIn_r _ [22, 15, 27, 28, 29, 30, 31, 32, 33, 34, 35, 36, 37, 38, 39, 40, 41, 42, 43, 44, 45, 46, 47, 48, 49, 50] (by decide +kernel) (by decide +kernel)
set_option maxRecDepth 20000 in
theorem gX6_grow_X6_fails : GoodIn wsX6_grow (wsV RX6 91 RX6 yX6_fails wsX6_fails) := goodIn_app (goodIn_of _ (by decide +kernel)) ggX6_grow_X6_fails
set_option maxRecDepth 20000 in
theorem ggX6_grow_X6_tableFor : GoodIn wsX6_grow wsX6_tableFor := goodIn_r _ [26, 7, 2, 27, 28, 29, 30, 31, 32, 33, 34, 35, 36, 37, 38, 39, 40, 41, 42, 43, 44, 45, 46, 47, 48, 49, 50] (by decide +kernel) (by decide +kernel)
set_option maxRecDepth 20000 in
theorem gX6_grow_X6_tableFor : GoodIn wsX6_grow (wsV RX6 101 RX6 yX6_tableFor wsX6_tableFor) := goodIn_app (goodIn_of _ (by decide +kernel)) ggX6_grow_X6_tableFor
theorem dX6_grow_0 : decode cX6_grow 0 = .ok (.aload_n 0, 1) := by decide +kernel
theorem dX6_grow_1 : decode cX6_grow 1 = .ok (.iload_n 1, 1) := by decide +kernel
theorem dX6_grow_2 : decode cX6_grow 2 = .ok (.invokevirtual 110, 3) := by decide +kernel
theorem dX6_grow_5 : decode cX6_grow 5 = .ok (.ifCond .ne 5, 3) := by decide +kernel
theorem dX6_grow_8 : decode cX6_grow 8 = .ok (.iconst 0, 1) := by decide +kernel
theorem dX6_grow_9 : decode cX6_grow 9 = .ok (.ireturn, 1) := by decide +kernel
theorem dX6_grow_10 : decode cX6_grow 10 = .ok (.iload_n 2, 1) := by decide +kernel
theorem dX6_grow_11 : decode cX6_grow 11 = .ok (.iconst 1, 1) := by decide +kernel
theorem dX6_grow_12 : decode cX6_grow 12 = .ok (.bipush 7, 2) := by decide +kernel
theorem dX6_grow_14 : decode cX6_grow 14 = .ok (.invokestatic 74, 3) := by decide +kernel
theorem dX6_grow_17 : decode cX6_grow 17 = .ok (.ifCond .ne 9, 3) := by decide +kernel
theorem dX6_grow_20 : decode cX6_grow 20 = .ok (.aload_n 0, 1) := by decide +kernel
theorem dX6_grow_21 : decode cX6_grow 21 = .ok (.iconst 2, 1) := by decide +kernel
theorem dX6_grow_22 : decode cX6_grow 22 = .ok (.invokevirtual 91, 3) := by decide +kernel
theorem dX6_grow_25 : decode cX6_grow 25 = .ok (.ireturn, 1) := by decide +kernel
theorem dX6_grow_26 : decode cX6_grow 26 = .ok (.aload_n 0, 1) := by decide +kernel
theorem dX6_grow_27 : decode cX6_grow 27 = .ok (.getfield 49, 3) := by decide +kernel
theorem dX6_grow_30 : decode cX6_grow 30 = .ok (.iload_n 1, 1) := by decide +kernel
theorem dX6_grow_31 : decode cX6_grow 31 = .ok (.iaload, 1) := by decide +kernel
theorem dX6_grow_32 : decode cX6_grow 32 = .ok (.iload_n 2, 1) := by decide +kernel
theorem dX6_grow_33 : decode cX6_grow 33 = .ok (.iadd, 1) := by decide +kernel
theorem dX6_grow_34 : decode cX6_grow 34 = .ok (.istore_n 3, 1) := by decide +kernel
theorem dX6_grow_35 : decode cX6_grow 35 = .ok (.aload_n 0, 1) := by decide +kernel
theorem dX6_grow_36 : decode cX6_grow 36 = .ok (.getfield 28, 3) := by decide +kernel
theorem dX6_grow_39 : decode cX6_grow 39 = .ok (.aload_n 0, 1) := by decide +kernel
theorem dX6_grow_40 : decode cX6_grow 40 = .ok (.getfield 52, 3) := by decide +kernel
theorem dX6_grow_43 : decode cX6_grow 43 = .ok (.iload_n 1, 1) := by decide +kernel
theorem dX6_grow_44 : decode cX6_grow 44 = .ok (.iaload, 1) := by decide +kernel
theorem dX6_grow_45 : decode cX6_grow 45 = .ok (.iaload, 1) := by decide +kernel
theorem dX6_grow_46 : decode cX6_grow 46 = .ok (.iload_n 3, 1) := by decide +kernel
theorem dX6_grow_47 : decode cX6_grow 47 = .ok (.if_icmp .lt 12, 3) := by decide +kernel
theorem dX6_grow_50 : decode cX6_grow 50 = .ok (.aload_n 0, 1) := by decide +kernel
theorem dX6_grow_51 : decode cX6_grow 51 = .ok (.getfield 52, 3) := by decide +kernel
theorem dX6_grow_54 : decode cX6_grow 54 = .ok (.iload_n 1, 1) := by decide +kernel
theorem dX6_grow_55 : decode cX6_grow 55 = .ok (.iaload, 1) := by decide +kernel
theorem dX6_grow_56 : decode cX6_grow 56 = .ok (.goto 8, 3) := by decide +kernel
theorem dX6_grow_59 : decode cX6_grow 59 = .ok (.aload_n 0, 1) := by decide +kernel
theorem dX6_grow_60 : decode cX6_grow 60 = .ok (.iload_n 3, 1) := by decide +kernel
theorem dX6_grow_61 : decode cX6_grow 61 = .ok (.invokevirtual 101, 3) := by decide +kernel
theorem dX6_grow_64 : decode cX6_grow 64 = .ok (.istore 4, 2) := by decide +kernel
theorem dX6_grow_66 : decode cX6_grow 66 = .ok (.iload_n 3, 1) := by decide +kernel
theorem dX6_grow_67 : decode cX6_grow 67 = .ok (.aload_n 0, 1) := by decide +kernel
theorem dX6_grow_68 : decode cX6_grow 68 = .ok (.getfield 13, 3) := by decide +kernel
theorem dX6_grow_71 : decode cX6_grow 71 = .ok (.aload_n 0, 1) := by decide +kernel
theorem dX6_grow_72 : decode cX6_grow 72 = .ok (.getfield 40, 3) := by decide +kernel
theorem dX6_grow_75 : decode cX6_grow 75 = .ok (.aload_n 0, 1) := by decide +kernel
theorem dX6_grow_76 : decode cX6_grow 76 = .ok (.getfield 55, 3) := by decide +kernel
theorem dX6_grow_79 : decode cX6_grow 79 = .ok (.iload_n 1, 1) := by decide +kernel
theorem dX6_grow_80 : decode cX6_grow 80 = .ok (.iaload, 1) := by decide +kernel
theorem dX6_grow_81 : decode cX6_grow 81 = .ok (.iaload, 1) := by decide +kernel
theorem dX6_grow_82 : decode cX6_grow 82 = .ok (.iaload, 1) := by decide +kernel
theorem dX6_grow_83 : decode cX6_grow 83 = .ok (.if_icmp .gt 9, 3) := by decide +kernel
theorem dX6_grow_86 : decode cX6_grow 86 = .ok (.iload 4, 2) := by decide +kernel
theorem dX6_grow_88 : decode cX6_grow 88 = .ok (.iconst (-1), 1) := by decide +kernel
theorem dX6_grow_89 : decode cX6_grow 89 = .ok (.if_icmp .ne 9, 3) := by decide +kernel
theorem dX6_grow_92 : decode cX6_grow 92 = .ok (.aload_n 0, 1) := by decide +kernel
theorem dX6_grow_93 : decode cX6_grow 93 = .ok (.iconst 3, 1) := by decide +kernel
theorem dX6_grow_94 : decode cX6_grow 94 = .ok (.invokevirtual 91, 3) := by decide +kernel
theorem dX6_grow_97 : decode cX6_grow 97 = .ok (.ireturn, 1) := by decide +kernel
theorem dX6_grow_98 : decode cX6_grow 98 = .ok (.aload_n 0, 1) := by decide +kernel
theorem dX6_grow_99 : decode cX6_grow 99 = .ok (.getfield 31, 3) := by decide +kernel
theorem dX6_grow_102 : decode cX6_grow 102 = .ok (.aload_n 0, 1) := by decide +kernel
theorem dX6_grow_103 : decode cX6_grow 103 = .ok (.getfield 52, 3) := by decide +kernel
theorem dX6_grow_106 : decode cX6_grow 106 = .ok (.iload_n 1, 1) := by decide +kernel
theorem dX6_grow_107 : decode cX6_grow 107 = .ok (.iaload, 1) := by decide +kernel
theorem dX6_grow_108 : decode cX6_grow 108 = .ok (.iconst 0, 1) := by decide +kernel
theorem dX6_grow_109 : decode cX6_grow 109 = .ok (.iastore, 1) := by decide +kernel
theorem dX6_grow_110 : decode cX6_grow 110 = .ok (.aload_n 0, 1) := by decide +kernel
theorem dX6_grow_111 : decode cX6_grow 111 = .ok (.getfield 31, 3) := by decide +kernel
theorem dX6_grow_114 : decode cX6_grow 114 = .ok (.iload 4, 2) := by decide +kernel
theorem dX6_grow_116 : decode cX6_grow 116 = .ok (.iload_n 1, 1) := by decide +kernel
theorem dX6_grow_117 : decode cX6_grow 117 = .ok (.iconst 1, 1) := by decide +kernel
theorem dX6_grow_118 : decode cX6_grow 118 = .ok (.iadd, 1) := by decide +kernel
theorem dX6_grow_119 : decode cX6_grow 119 = .ok (.iastore, 1) := by decide +kernel
theorem dX6_grow_120 : decode cX6_grow 120 = .ok (.aload_n 0, 1) := by decide +kernel
theorem dX6_grow_121 : decode cX6_grow 121 = .ok (.getfield 52, 3) := by decide +kernel
theorem dX6_grow_124 : decode cX6_grow 124 = .ok (.iload_n 1, 1) := by decide +kernel
theorem dX6_grow_125 : decode cX6_grow 125 = .ok (.iload 4, 2) := by decide +kernel
theorem dX6_grow_127 : decode cX6_grow 127 = .ok (.iastore, 1) := by decide +kernel
theorem dX6_grow_128 : decode cX6_grow 128 = .ok (.aload_n 0, 1) := by decide +kernel
theorem dX6_grow_129 : decode cX6_grow 129 = .ok (.getfield 49, 3) := by decide +kernel
theorem dX6_grow_132 : decode cX6_grow 132 = .ok (.iload_n 1, 1) := by decide +kernel
theorem dX6_grow_133 : decode cX6_grow 133 = .ok (.iload_n 3, 1) := by decide +kernel
theorem dX6_grow_134 : decode cX6_grow 134 = .ok (.iastore, 1) := by decide +kernel
theorem dX6_grow_135 : decode cX6_grow 135 = .ok (.iload 4, 2) := by decide +kernel
theorem dX6_grow_137 : decode cX6_grow 137 = .ok (.ireturn, 1) := by decide +kernel
set_option maxRecDepth 20000 in
theorem ggX6_go_X6_isThere : GoodIn wsX6_go wsX6_isThere := goodIn_r _ [14, 15, 1, 16, 17, 18, 13, 19, 20, 21, 22, 23, 24, 25, 26, 27, 28, 29, 30, 31, 32, 33, 34, 35, 36, 37, 38, 39, 40, 41, 42, 43] (by decide +kernel) (by decide +kernel)
set_option maxRecDepth 20000 in
theorem gX6_go_X6_isThere : GoodIn wsX6_go (wsV RX6 110 RX6 yX6_isThere wsX6_isThere) := goodIn_app (goodIn_of _ (by decide +kernel)) ggX6_go_X6_isThere
theorem dX6_go_0 : decode cX6_go 0 = .ok (.aload_n 0, 1) := by decide +kernel
theorem dX6_go_1 : decode cX6_go 1 = .ok (.iload_n 1, 1) := by decide +kernel
theorem dX6_go_2 : decode cX6_go 2 = .ok (.invokevirtual 110, 3) := by decide +kernel
theorem dX6_go_5 : decode cX6_go 5 = .ok (.ifCond .ne 5, 3) := by decide +kernel
theorem dX6_go_8 : decode cX6_go 8 = .ok (.iconst 0, 1) := by decide +kernel
theorem dX6_go_9 : decode cX6_go 9 = .ok (.ireturn, 1) := by decide +kernel
theorem dX6_go_10 : decode cX6_go 10 = .ok (.aload_n 0, 1) := by decide +kernel
theorem dX6_go_11 : decode cX6_go 11 = .ok (.getfield 61, 3) := by decide +kernel
theorem dX6_go_14 : decode cX6_go 14 = .ok (.iload_n 1, 1) := by decide +kernel
theorem dX6_go_15 : decode cX6_go 15 = .ok (.iconst 1, 1) := by decide +kernel
theorem dX6_go_16 : decode cX6_go 16 = .ok (.iastore, 1) := by decide +kernel
theorem dX6_go_17 : decode cX6_go 17 = .ok (.aload_n 0, 1) := by decide +kernel
theorem dX6_go_18 : decode cX6_go 18 = .ok (.getfield 31, 3) := by decide +kernel
theorem dX6_go_21 : decode cX6_go 21 = .ok (.aload_n 0, 1) := by decide +kernel
theorem dX6_go_22 : decode cX6_go 22 = .ok (.getfield 52, 3) := by decide +kernel
theorem dX6_go_25 : decode cX6_go 25 = .ok (.iload_n 1, 1) := by decide +kernel
theorem dX6_go_26 : decode cX6_go 26 = .ok (.iaload, 1) := by decide +kernel
theorem dX6_go_27 : decode cX6_go 27 = .ok (.iconst 0, 1) := by decide +kernel
theorem dX6_go_28 : decode cX6_go 28 = .ok (.iastore, 1) := by decide +kernel
theorem dX6_go_29 : decode cX6_go 29 = .ok (.aload_n 0, 1) := by decide +kernel
theorem dX6_go_30 : decode cX6_go 30 = .ok (.getfield 43, 3) := by decide +kernel
theorem dX6_go_33 : decode cX6_go 33 = .ok (.aload_n 0, 1) := by decide +kernel
theorem dX6_go_34 : decode cX6_go 34 = .ok (.getfield 55, 3) := by decide +kernel
theorem dX6_go_37 : decode cX6_go 37 = .ok (.iload_n 1, 1) := by decide +kernel
theorem dX6_go_38 : decode cX6_go 38 = .ok (.iaload, 1) := by decide +kernel
theorem dX6_go_39 : decode cX6_go 39 = .ok (.iconst 0, 1) := by decide +kernel
theorem dX6_go_40 : decode cX6_go 40 = .ok (.iastore, 1) := by decide +kernel
theorem dX6_go_41 : decode cX6_go 41 = .ok (.aload_n 0, 1) := by decide +kernel
theorem dX6_go_42 : decode cX6_go 42 = .ok (.getfield 25, 3) := by decide +kernel
theorem dX6_go_45 : decode cX6_go 45 = .ok (.aload_n 0, 1) := by decide +kernel
theorem dX6_go_46 : decode cX6_go 46 = .ok (.getfield 40, 3) := by decide +kernel
theorem dX6_go_49 : decode cX6_go 49 = .ok (.aload_n 0, 1) := by decide +kernel
theorem dX6_go_50 : decode cX6_go 50 = .ok (.getfield 55, 3) := by decide +kernel
theorem dX6_go_53 : decode cX6_go 53 = .ok (.iload_n 1, 1) := by decide +kernel
theorem dX6_go_54 : decode cX6_go 54 = .ok (.iaload, 1) := by decide +kernel
theorem dX6_go_55 : decode cX6_go 55 = .ok (.iaload, 1) := by decide +kernel
theorem dX6_go_56 : decode cX6_go 56 = .ok (.dup2, 1) := by decide +kernel
theorem dX6_go_57 : decode cX6_go 57 = .ok (.iaload, 1) := by decide +kernel
theorem dX6_go_58 : decode cX6_go 58 = .ok (.iconst 1, 1) := by decide +kernel
theorem dX6_go_59 : decode cX6_go 59 = .ok (.iadd, 1) := by decide +kernel
theorem dX6_go_60 : decode cX6_go 60 = .ok (.iastore, 1) := by decide +kernel
theorem dX6_go_61 : decode cX6_go 61 = .ok (.aload_n 0, 1) := by decide +kernel
theorem dX6_go_62 : decode cX6_go 62 = .ok (.getfield 98, 3) := by decide +kernel
theorem dX6_go_65 : decode cX6_go 65 = .ok (.aload_n 0, 1) := by decide +kernel
theorem dX6_go_66 : decode cX6_go 66 = .ok (.getfield 58, 3) := by decide +kernel
theorem dX6_go_69 : decode cX6_go 69 = .ok (.iload_n 1, 1) := by decide +kernel
theorem dX6_go_70 : decode cX6_go 70 = .ok (.iaload, 1) := by decide +kernel
theorem dX6_go_71 : decode cX6_go 71 = .ok (.isub, 1) := by decide +kernel
theorem dX6_go_72 : decode cX6_go 72 = .ok (.ireturn, 1) := by decide +kernel
set_option maxRecDepth 20000 in
theorem ggX6_advance_X6_in : GoodIn wsX6_advance wsX6_in := goodIn_r _ [7] (by decide +kernel) (by decide +kernel)
set_option maxRecDepth 20000 in
theorem gX6_advance_X6_in : GoodIn wsX6_advance (va_wsS RX6 74 yX6_in wsX6_in) := goodIn_app (goodIn_of _ (by decide +kernel)) ggX6_advance_X6_in
theorem dX6_advance_0 : decode cX6_advance 0 = .ok (.aload_n 0, 1) := by decide +kernel
theorem dX6_advance_1 : decode cX6_advance 1 = .ok (.iload_n 1, 1) := by decide +kernel
theorem dX6_advance_2 : decode cX6_advance 2 = .ok (.iconst 1, 1) := by decide +kernel
theorem dX6_advance_3 : decode cX6_advance 3 = .ok (.sipush 1000, 3) := by decide +kernel
theorem dX6_advance_6 : decode cX6_advance 6 = .ok (.invokestatic 74, 3) := by decide +kernel
theorem dX6_advance_9 : decode cX6_advance 9 = .ok (.ifCond .ne 7, 3) := by decide +kernel
theorem dX6_advance_12 : decode cX6_advance 12 = .ok (.iconst 1, 1) := by decide +kernel
theorem dX6_advance_13 : decode cX6_advance 13 = .ok (.goto 19, 3) := by decide +kernel
theorem dX6_advance_16 : decode cX6_advance 16 = .ok (.aload_n 0, 1) := by decide +kernel
theorem dX6_advance_17 : decode cX6_advance 17 = .ok (.getfield 98, 3) := by decide +kernel
theorem dX6_advance_20 : decode cX6_advance 20 = .ok (.iload_n 1, 1) := by decide +kernel
theorem dX6_advance_21 : decode cX6_advance 21 = .ok (.iadd, 1) := by decide +kernel
theorem dX6_advance_22 : decode cX6_advance 22 = .ok (.ldc 113, 2) := by decide +kernel
theorem dX6_advance_24 : decode cX6_advance 24 = .ok (.if_icmp .le 7, 3) := by decide +kernel
theorem dX6_advance_27 : decode cX6_advance 27 = .ok (.iconst 2, 1) := by decide +kernel
theorem dX6_advance_28 : decode cX6_advance 28 = .ok (.goto 4, 3) := by decide +kernel
theorem dX6_advance_31 : decode cX6_advance 31 = .ok (.iconst 0, 1) := by decide +kernel
theorem dX6_advance_32 : decode cX6_advance 32 = .ok (.putfield 70, 3) := by decide +kernel
theorem dX6_advance_35 : decode cX6_advance 35 = .ok (.aload_n 0, 1) := by decide +kernel
theorem dX6_advance_36 : decode cX6_advance 36 = .ok (.dup, 1) := by decide +kernel
theorem dX6_advance_37 : decode cX6_advance 37 = .ok (.getfield 98, 3) := by decide +kernel
theorem dX6_advance_40 : decode cX6_advance 40 = .ok (.aload_n 0, 1) := by decide +kernel
theorem dX6_advance_41 : decode cX6_advance 41 = .ok (.getfield 70, 3) := by decide +kernel
theorem dX6_advance_44 : decode cX6_advance 44 = .ok (.ifCond .ne 7, 3) := by decide +kernel
theorem dX6_advance_47 : decode cX6_advance 47 = .ok (.iload_n 1, 1) := by decide +kernel
theorem dX6_advance_48 : decode cX6_advance 48 = .ok (.goto 4, 3) := by decide +kernel
theorem dX6_advance_51 : decode cX6_advance 51 = .ok (.iconst 0, 1) := by decide +kernel
theorem dX6_advance_52 : decode cX6_advance 52 = .ok (.iadd, 1) := by decide +kernel
theorem dX6_advance_53 : decode cX6_advance 53 = .ok (.putfield 98, 3) := by decide +kernel
theorem dX6_advance_56 : decode cX6_advance 56 = .ok (.aload_n 0, 1) := by decide +kernel
theorem dX6_advance_57 : decode cX6_advance 57 = .ok (.getfield 70, 3) := by decide +kernel
theorem dX6_advance_60 : decode cX6_advance 60 = .ok (.ifCond .ne 10, 3) := by decide +kernel
theorem dX6_advance_63 : decode cX6_advance 63 = .ok (.aload_n 0, 1) := by decide +kernel
theorem dX6_advance_64 : decode cX6_advance 64 = .ok (.getfield 98, 3) := by decide +kernel
theorem dX6_advance_67 : decode cX6_advance 67 = .ok (.goto 4, 3) := by decide +kernel
theorem dX6_advance_70 : decode cX6_advance 70 = .ok (.iconst 0, 1) := by decide +kernel
theorem dX6_advance_71 : decode cX6_advance 71 = .ok (.ireturn, 1) := by decide +kernel
set_option maxRecDepth 20000 in
theorem ggX6_lend_X6_isCopy : GoodIn wsX6_lend wsX6_isCopy := goodIn_r _ [10, 11, 12, 13, 9, 14, 15, 16, 17, 18, 19, 20, 21, 22, 23, 24, 25, 26, 27, 28, 29, 30, 31, 32, 33, 34, 35, 36, 37, 38] (by decide +kernel) (by decide +kernel)
set_option maxRecDepth 20000 in
theorem gX6_lend_X6_isCopy : GoodIn wsX6_lend (wsV RX6 88 RX6 yX6_isCopy wsX6_isCopy) := goodIn_app (goodIn_of _ (by decide +kernel)) ggX6_lend_X6_isCopy
set_option maxRecDepth 20000 in
theorem ggX6_lend_X6_in : GoodIn wsX6_lend wsX6_in := goodIn_r _ [14] (by decide +kernel) (by decide +kernel)
set_option maxRecDepth 20000 in
theorem gX6_lend_X6_in : GoodIn wsX6_lend (va_wsS RX6 74 yX6_in wsX6_in) := goodIn_app (goodIn_of _ (by decide +kernel)) ggX6_lend_X6_in
theorem dX6_lend_0 : decode cX6_lend 0 = .ok (.aload_n 0, 1) := by decide +kernel
theorem dX6_lend_1 : decode cX6_lend 1 = .ok (.aload_n 0, 1) := by decide +kernel
theorem dX6_lend_2 : decode cX6_lend 2 = .ok (.iload_n 1, 1) := by decide +kernel
theorem dX6_lend_3 : decode cX6_lend 3 = .ok (.invokevirtual 88, 3) := by decide +kernel
theorem dX6_lend_6 : decode cX6_lend 6 = .ok (.ifCond .eq 12, 3) := by decide +kernel
theorem dX6_lend_9 : decode cX6_lend 9 = .ok (.iload_n 2, 1) := by decide +kernel
theorem dX6_lend_10 : decode cX6_lend 10 = .ok (.iconst 0, 1) := by decide +kernel
theorem dX6_lend_11 : decode cX6_lend 11 = .ok (.iconst 5, 1) := by decide +kernel
theorem dX6_lend_12 : decode cX6_lend 12 = .ok (.invokestatic 74, 3) := by decide +kernel
theorem dX6_lend_15 : decode cX6_lend 15 = .ok (.ifCond .ne 7, 3) := by decide +kernel
theorem dX6_lend_18 : decode cX6_lend 18 = .ok (.iconst 1, 1) := by decide +kernel
theorem dX6_lend_19 : decode cX6_lend 19 = .ok (.goto 26, 3) := by decide +kernel
theorem dX6_lend_22 : decode cX6_lend 22 = .ok (.aload_n 0, 1) := by decide +kernel
theorem dX6_lend_23 : decode cX6_lend 23 = .ok (.getfield 43, 3) := by decide +kernel
theorem dX6_lend_26 : decode cX6_lend 26 = .ok (.iload_n 1, 1) := by decide +kernel
theorem dX6_lend_27 : decode cX6_lend 27 = .ok (.iaload, 1) := by decide +kernel
theorem dX6_lend_28 : decode cX6_lend 28 = .ok (.ifCond .ne 12, 3) := by decide +kernel
theorem dX6_lend_31 : decode cX6_lend 31 = .ok (.aload_n 0, 1) := by decide +kernel
theorem dX6_lend_32 : decode cX6_lend 32 = .ok (.getfield 64, 3) := by decide +kernel
theorem dX6_lend_35 : decode cX6_lend 35 = .ok (.iload_n 2, 1) := by decide +kernel
theorem dX6_lend_36 : decode cX6_lend 36 = .ok (.iaload, 1) := by decide +kernel
theorem dX6_lend_37 : decode cX6_lend 37 = .ok (.ifCond .le 7, 3) := by decide +kernel
theorem dX6_lend_40 : decode cX6_lend 40 = .ok (.iconst 2, 1) := by decide +kernel
theorem dX6_lend_41 : decode cX6_lend 41 = .ok (.goto 4, 3) := by decide +kernel
theorem dX6_lend_44 : decode cX6_lend 44 = .ok (.iconst 0, 1) := by decide +kernel
theorem dX6_lend_45 : decode cX6_lend 45 = .ok (.putfield 70, 3) := by decide +kernel
theorem dX6_lend_48 : decode cX6_lend 48 = .ok (.aload_n 0, 1) := by decide +kernel
theorem dX6_lend_49 : decode cX6_lend 49 = .ok (.getfield 70, 3) := by decide +kernel
theorem dX6_lend_52 : decode cX6_lend 52 = .ok (.ifCond .le 5, 3) := by decide +kernel
theorem dX6_lend_55 : decode cX6_lend 55 = .ok (.iconst 0, 1) := by decide +kernel
theorem dX6_lend_56 : decode cX6_lend 56 = .ok (.ireturn, 1) := by decide +kernel
theorem dX6_lend_57 : decode cX6_lend 57 = .ok (.iconst 0, 1) := by decide +kernel
theorem dX6_lend_58 : decode cX6_lend 58 = .ok (.istore_n 3, 1) := by decide +kernel
theorem dX6_lend_59 : decode cX6_lend 59 = .ok (.iconst 0, 1) := by decide +kernel
theorem dX6_lend_60 : decode cX6_lend 60 = .ok (.istore 4, 2) := by decide +kernel
theorem dX6_lend_62 : decode cX6_lend 62 = .ok (.iload 4, 2) := by decide +kernel
theorem dX6_lend_64 : decode cX6_lend 64 = .ok (.iconst 4, 1) := by decide +kernel
theorem dX6_lend_65 : decode cX6_lend 65 = .ok (.if_icmp .ge 31, 3) := by decide +kernel
theorem dX6_lend_68 : decode cX6_lend 68 = .ok (.iload_n 3, 1) := by decide +kernel
theorem dX6_lend_69 : decode cX6_lend 69 = .ok (.bipush 100, 2) := by decide +kernel
theorem dX6_lend_71 : decode cX6_lend 71 = .ok (.iload 4, 2) := by decide +kernel
theorem dX6_lend_73 : decode cX6_lend 73 = .ok (.iconst 1, 1) := by decide +kernel
theorem dX6_lend_74 : decode cX6_lend 74 = .ok (.iadd, 1) := by decide +kernel
theorem dX6_lend_75 : decode cX6_lend 75 = .ok (.imul, 1) := by decide +kernel
theorem dX6_lend_76 : decode cX6_lend 76 = .ok (.aload_n 0, 1) := by decide +kernel
theorem dX6_lend_77 : decode cX6_lend 77 = .ok (.getfield 46, 3) := by decide +kernel
theorem dX6_lend_80 : decode cX6_lend 80 = .ok (.iconst 4, 1) := by decide +kernel
theorem dX6_lend_81 : decode cX6_lend 81 = .ok (.iload_n 1, 1) := by decide +kernel
theorem dX6_lend_82 : decode cX6_lend 82 = .ok (.imul, 1) := by decide +kernel
theorem dX6_lend_83 : decode cX6_lend 83 = .ok (.iload 4, 2) := by decide +kernel
theorem dX6_lend_85 : decode cX6_lend 85 = .ok (.iadd, 1) := by decide +kernel
theorem dX6_lend_86 : decode cX6_lend 86 = .ok (.iaload, 1) := by decide +kernel
theorem dX6_lend_87 : decode cX6_lend 87 = .ok (.imul, 1) := by decide +kernel
theorem dX6_lend_88 : decode cX6_lend 88 = .ok (.iadd, 1) := by decide +kernel
theorem dX6_lend_89 : decode cX6_lend 89 = .ok (.istore_n 3, 1) := by decide +kernel
theorem dX6_lend_90 : decode cX6_lend 90 = .ok (.iinc 4 1, 3) := by decide +kernel
theorem dX6_lend_93 : decode cX6_lend 93 = .ok (.goto (-31), 3) := by decide +kernel
theorem dX6_lend_96 : decode cX6_lend 96 = .ok (.aload_n 0, 1) := by decide +kernel
theorem dX6_lend_97 : decode cX6_lend 97 = .ok (.getfield 43, 3) := by decide +kernel
theorem dX6_lend_100 : decode cX6_lend 100 = .ok (.iload_n 1, 1) := by decide +kernel
theorem dX6_lend_101 : decode cX6_lend 101 = .ok (.iconst 2, 1) := by decide +kernel
theorem dX6_lend_102 : decode cX6_lend 102 = .ok (.iastore, 1) := by decide +kernel
theorem dX6_lend_103 : decode cX6_lend 103 = .ok (.aload_n 0, 1) := by decide +kernel
theorem dX6_lend_104 : decode cX6_lend 104 = .ok (.getfield 64, 3) := by decide +kernel
theorem dX6_lend_107 : decode cX6_lend 107 = .ok (.iload_n 2, 1) := by decide +kernel
theorem dX6_lend_108 : decode cX6_lend 108 = .ok (.iload_n 1, 1) := by decide +kernel
theorem dX6_lend_109 : decode cX6_lend 109 = .ok (.iconst 1, 1) := by decide +kernel
theorem dX6_lend_110 : decode cX6_lend 110 = .ok (.iadd, 1) := by decide +kernel
theorem dX6_lend_111 : decode cX6_lend 111 = .ok (.iastore, 1) := by decide +kernel
theorem dX6_lend_112 : decode cX6_lend 112 = .ok (.aload_n 0, 1) := by decide +kernel
theorem dX6_lend_113 : decode cX6_lend 113 = .ok (.getfield 67, 3) := by decide +kernel
theorem dX6_lend_116 : decode cX6_lend 116 = .ok (.iload_n 2, 1) := by decide +kernel
theorem dX6_lend_117 : decode cX6_lend 117 = .ok (.iload_n 3, 1) := by decide +kernel
theorem dX6_lend_118 : decode cX6_lend 118 = .ok (.iastore, 1) := by decide +kernel
theorem dX6_lend_119 : decode cX6_lend 119 = .ok (.iload_n 3, 1) := by decide +kernel
theorem dX6_lend_120 : decode cX6_lend 120 = .ok (.ireturn, 1) := by decide +kernel
set_option maxRecDepth 20000 in
theorem ggX6_giveBack_X6_in : GoodIn wsX6_giveBack wsX6_in := goodIn_r _ [9] (by decide +kernel) (by decide +kernel)
set_option maxRecDepth 20000 in
theorem gX6_giveBack_X6_in : GoodIn wsX6_giveBack (va_wsS RX6 74 yX6_in wsX6_in) := goodIn_app (goodIn_of _ (by decide +kernel)) ggX6_giveBack_X6_in
set_option maxRecDepth 20000 in
theorem ggX6_giveBack_X6_fails : GoodIn wsX6_giveBack wsX6_fails := goodIn_r _ [13, 1, 14, 15, 16, 17, 18, 19, 20, 21, 22, 23, 24, 25, 26, 27, 28, 29, 30, 31, 32, 33, 34, 35, 36, 37] (by decide +kernel) (by decide +kernel)
set_option maxRecDepth 20000 in
theorem gX6_giveBack_X6_fails : GoodIn wsX6_giveBack (wsV RX6 91 RX6 yX6_fails wsX6_fails) := goodIn_app (goodIn_of _ (by decide +kernel)) ggX6_giveBack_X6_fails
theorem dX6_giveBack_0 : decode cX6_giveBack 0 = .ok (.aload_n 0, 1) := by decide +kernel
theorem dX6_giveBack_1 : decode cX6_giveBack 1 = .ok (.iload_n 1, 1) := by decide +kernel
theorem dX6_giveBack_2 : decode cX6_giveBack 2 = .ok (.iconst 0, 1) := by decide +kernel
theorem dX6_giveBack_3 : decode cX6_giveBack 3 = .ok (.iconst 5, 1) := by decide +kernel
theorem dX6_giveBack_4 : decode cX6_giveBack 4 = .ok (.invokestatic 74, 3) := by decide +kernel
theorem dX6_giveBack_7 : decode cX6_giveBack 7 = .ok (.ifCond .eq 12, 3) := by decide +kernel
theorem dX6_giveBack_10 : decode cX6_giveBack 10 = .ok (.iload_n 2, 1) := by decide +kernel
theorem dX6_giveBack_11 : decode cX6_giveBack 11 = .ok (.iconst 0, 1) := by decide +kernel
theorem dX6_giveBack_12 : decode cX6_giveBack 12 = .ok (.iconst 3, 1) := by decide +kernel
theorem dX6_giveBack_13 : decode cX6_giveBack 13 = .ok (.invokestatic 74, 3) := by decide +kernel
theorem dX6_giveBack_16 : decode cX6_giveBack 16 = .ok (.ifCond .ne 7, 3) := by decide +kernel
theorem dX6_giveBack_19 : decode cX6_giveBack 19 = .ok (.iconst 1, 1) := by decide +kernel
theorem dX6_giveBack_20 : decode cX6_giveBack 20 = .ok (.goto 18, 3) := by decide +kernel
theorem dX6_giveBack_23 : decode cX6_giveBack 23 = .ok (.iload_n 3, 1) := by decide +kernel
theorem dX6_giveBack_24 : decode cX6_giveBack 24 = .ok (.iconst 0, 1) := by decide +kernel
theorem dX6_giveBack_25 : decode cX6_giveBack 25 = .ok (.bipush 20, 2) := by decide +kernel
theorem dX6_giveBack_27 : decode cX6_giveBack 27 = .ok (.invokestatic 74, 3) := by decide +kernel
theorem dX6_giveBack_30 : decode cX6_giveBack 30 = .ok (.ifCond .ne 7, 3) := by decide +kernel
theorem dX6_giveBack_33 : decode cX6_giveBack 33 = .ok (.iconst 2, 1) := by decide +kernel
theorem dX6_giveBack_34 : decode cX6_giveBack 34 = .ok (.goto 4, 3) := by decide +kernel
theorem dX6_giveBack_37 : decode cX6_giveBack 37 = .ok (.iconst 0, 1) := by decide +kernel
theorem dX6_giveBack_38 : decode cX6_giveBack 38 = .ok (.putfield 70, 3) := by decide +kernel
theorem dX6_giveBack_41 : decode cX6_giveBack 41 = .ok (.aload_n 0, 1) := by decide +kernel
theorem dX6_giveBack_42 : decode cX6_giveBack 42 = .ok (.getfield 70, 3) := by decide +kernel
theorem dX6_giveBack_45 : decode cX6_giveBack 45 = .ok (.ifCond .le 5, 3) := by decide +kernel
theorem dX6_giveBack_48 : decode cX6_giveBack 48 = .ok (.iconst 0, 1) := by decide +kernel
theorem dX6_giveBack_49 : decode cX6_giveBack 49 = .ok (.ireturn, 1) := by decide +kernel
theorem dX6_giveBack_50 : decode cX6_giveBack 50 = .ok (.aload_n 0, 1) := by decide +kernel
theorem dX6_giveBack_51 : decode cX6_giveBack 51 = .ok (.getfield 64, 3) := by decide +kernel
theorem dX6_giveBack_54 : decode cX6_giveBack 54 = .ok (.iload_n 1, 1) := by decide +kernel
theorem dX6_giveBack_55 : decode cX6_giveBack 55 = .ok (.iaload, 1) := by decide +kernel
theorem dX6_giveBack_56 : decode cX6_giveBack 56 = .ok (.iconst 1, 1) := by decide +kernel
theorem dX6_giveBack_57 : decode cX6_giveBack 57 = .ok (.isub, 1) := by decide +kernel
theorem dX6_giveBack_58 : decode cX6_giveBack 58 = .ok (.istore 4, 2) := by decide +kernel
theorem dX6_giveBack_60 : decode cX6_giveBack 60 = .ok (.iload 4, 2) := by decide +kernel
theorem dX6_giveBack_62 : decode cX6_giveBack 62 = .ok (.iconst (-1), 1) := by decide +kernel
theorem dX6_giveBack_63 : decode cX6_giveBack 63 = .ok (.if_icmp .eq 18, 3) := by decide +kernel
theorem dX6_giveBack_66 : decode cX6_giveBack 66 = .ok (.aload_n 0, 1) := by decide +kernel
theorem dX6_giveBack_67 : decode cX6_giveBack 67 = .ok (.getfield 46, 3) := by decide +kernel
theorem dX6_giveBack_70 : decode cX6_giveBack 70 = .ok (.iconst 4, 1) := by decide +kernel
theorem dX6_giveBack_71 : decode cX6_giveBack 71 = .ok (.iload 4, 2) := by decide +kernel
theorem dX6_giveBack_73 : decode cX6_giveBack 73 = .ok (.imul, 1) := by decide +kernel
theorem dX6_giveBack_74 : decode cX6_giveBack 74 = .ok (.iload_n 2, 1) := by decide +kernel
theorem dX6_giveBack_75 : decode cX6_giveBack 75 = .ok (.iadd, 1) := by decide +kernel
theorem dX6_giveBack_76 : decode cX6_giveBack 76 = .ok (.iaload, 1) := by decide +kernel
theorem dX6_giveBack_77 : decode cX6_giveBack 77 = .ok (.iload_n 3, 1) := by decide +kernel
theorem dX6_giveBack_78 : decode cX6_giveBack 78 = .ok (.if_icmp .ge 9, 3) := by decide +kernel
theorem dX6_giveBack_81 : decode cX6_giveBack 81 = .ok (.aload_n 0, 1) := by decide +kernel
theorem dX6_giveBack_82 : decode cX6_giveBack 82 = .ok (.iconst 3, 1) := by decide +kernel
theorem dX6_giveBack_83 : decode cX6_giveBack 83 = .ok (.invokevirtual 91, 3) := by decide +kernel
theorem dX6_giveBack_86 : decode cX6_giveBack 86 = .ok (.ireturn, 1) := by decide +kernel
theorem dX6_giveBack_87 : decode cX6_giveBack 87 = .ok (.aload_n 0, 1) := by decide +kernel
theorem dX6_giveBack_88 : decode cX6_giveBack 88 = .ok (.getfield 46, 3) := by decide +kernel
theorem dX6_giveBack_91 : decode cX6_giveBack 91 = .ok (.iconst 4, 1) := by decide +kernel
theorem dX6_giveBack_92 : decode cX6_giveBack 92 = .ok (.iload 4, 2) := by decide +kernel
theorem dX6_giveBack_94 : decode cX6_giveBack 94 = .ok (.imul, 1) := by decide +kernel
theorem dX6_giveBack_95 : decode cX6_giveBack 95 = .ok (.iload_n 2, 1) := by decide +kernel
theorem dX6_giveBack_96 : decode cX6_giveBack 96 = .ok (.iadd, 1) := by decide +kernel
theorem dX6_giveBack_97 : decode cX6_giveBack 97 = .ok (.dup2, 1) := by decide +kernel
theorem dX6_giveBack_98 : decode cX6_giveBack 98 = .ok (.iaload, 1) := by decide +kernel
theorem dX6_giveBack_99 : decode cX6_giveBack 99 = .ok (.iload_n 3, 1) := by decide +kernel
theorem dX6_giveBack_100 : decode cX6_giveBack 100 = .ok (.isub, 1) := by decide +kernel
theorem dX6_giveBack_101 : decode cX6_giveBack 101 = .ok (.iastore, 1) := by decide +kernel
theorem dX6_giveBack_102 : decode cX6_giveBack 102 = .ok (.aload_n 0, 1) := by decide +kernel
theorem dX6_giveBack_103 : decode cX6_giveBack 103 = .ok (.getfield 43, 3) := by decide +kernel
theorem dX6_giveBack_106 : decode cX6_giveBack 106 = .ok (.iload 4, 2) := by decide +kernel
theorem dX6_giveBack_108 : decode cX6_giveBack 108 = .ok (.iconst 0, 1) := by decide +kernel
theorem dX6_giveBack_109 : decode cX6_giveBack 109 = .ok (.iastore, 1) := by decide +kernel
theorem dX6_giveBack_110 : decode cX6_giveBack 110 = .ok (.aload_n 0, 1) := by decide +kernel
theorem dX6_giveBack_111 : decode cX6_giveBack 111 = .ok (.getfield 64, 3) := by decide +kernel
theorem dX6_giveBack_114 : decode cX6_giveBack 114 = .ok (.iload_n 1, 1) := by decide +kernel
theorem dX6_giveBack_115 : decode cX6_giveBack 115 = .ok (.iconst 0, 1) := by decide +kernel
theorem dX6_giveBack_116 : decode cX6_giveBack 116 = .ok (.iastore, 1) := by decide +kernel
theorem dX6_giveBack_117 : decode cX6_giveBack 117 = .ok (.aload_n 0, 1) := by decide +kernel
theorem dX6_giveBack_118 : decode cX6_giveBack 118 = .ok (.getfield 67, 3) := by decide +kernel
theorem dX6_giveBack_121 : decode cX6_giveBack 121 = .ok (.iload_n 1, 1) := by decide +kernel
theorem dX6_giveBack_122 : decode cX6_giveBack 122 = .ok (.iaload, 1) := by decide +kernel
theorem dX6_giveBack_123 : decode cX6_giveBack 123 = .ok (.bipush 100, 2) := by decide +kernel
theorem dX6_giveBack_125 : decode cX6_giveBack 125 = .ok (.iload_n 2, 1) := by decide +kernel
theorem dX6_giveBack_126 : decode cX6_giveBack 126 = .ok (.iconst 1, 1) := by decide +kernel
theorem dX6_giveBack_127 : decode cX6_giveBack 127 = .ok (.iadd, 1) := by decide +kernel
theorem dX6_giveBack_128 : decode cX6_giveBack 128 = .ok (.imul, 1) := by decide +kernel
theorem dX6_giveBack_129 : decode cX6_giveBack 129 = .ok (.iload_n 3, 1) := by decide +kernel
theorem dX6_giveBack_130 : decode cX6_giveBack 130 = .ok (.imul, 1) := by decide +kernel
theorem dX6_giveBack_131 : decode cX6_giveBack 131 = .ok (.isub, 1) := by decide +kernel
theorem dX6_giveBack_132 : decode cX6_giveBack 132 = .ok (.ireturn, 1) := by decide +kernel
theorem dX6_minute_0 : decode cX6_minute 0 = .ok (.aload_n 0, 1) := by decide +kernel
theorem dX6_minute_1 : decode cX6_minute 1 = .ok (.iconst 0, 1) := by decide +kernel
theorem dX6_minute_2 : decode cX6_minute 2 = .ok (.putfield 70, 3) := by decide +kernel
theorem dX6_minute_5 : decode cX6_minute 5 = .ok (.aload_n 0, 1) := by decide +kernel
theorem dX6_minute_6 : decode cX6_minute 6 = .ok (.getfield 98, 3) := by decide +kernel
theorem dX6_minute_9 : decode cX6_minute 9 = .ok (.ireturn, 1) := by decide +kernel
theorem dX6_copies_0 : decode cX6_copies 0 = .ok (.aload_n 0, 1) := by decide +kernel
theorem dX6_copies_1 : decode cX6_copies 1 = .ok (.iconst 0, 1) := by decide +kernel
theorem dX6_copies_2 : decode cX6_copies 2 = .ok (.putfield 70, 3) := by decide +kernel
theorem dX6_copies_5 : decode cX6_copies 5 = .ok (.aload_n 0, 1) := by decide +kernel
theorem dX6_copies_6 : decode cX6_copies 6 = .ok (.getfield 78, 3) := by decide +kernel
theorem dX6_copies_9 : decode cX6_copies 9 = .ok (.ireturn, 1) := by decide +kernel
set_option maxRecDepth 20000 in
theorem ggX6_parts_X6_isCopy : GoodIn wsX6_parts wsX6_isCopy := goodIn_r _ [7, 8, 9, 10, 6, 11, 12, 13, 14, 15, 16, 17, 18, 19, 20, 21, 22, 23, 24, 25, 26, 27, 28, 29, 30, 31, 32, 33, 34, 35] (by decide +kernel) (by decide +kernel)
set_option maxRecDepth 20000 in
theorem gX6_parts_X6_isCopy : GoodIn wsX6_parts (wsV RX6 88 RX6 yX6_isCopy wsX6_isCopy) := goodIn_app (goodIn_of _ (by decide +kernel)) ggX6_parts_X6_isCopy
set_option maxRecDepth 20000 in
theorem ggX6_parts_X6_in : GoodIn wsX6_parts wsX6_in := goodIn_r _ [11] (by decide +kernel) (by decide +kernel)
set_option maxRecDepth 20000 in
theorem gX6_parts_X6_in : GoodIn wsX6_parts (va_wsS RX6 74 yX6_in wsX6_in) := goodIn_app (goodIn_of _ (by decide +kernel)) ggX6_parts_X6_in
theorem dX6_parts_0 : decode cX6_parts 0 = .ok (.aload_n 0, 1) := by decide +kernel
theorem dX6_parts_1 : decode cX6_parts 1 = .ok (.aload_n 0, 1) := by decide +kernel
theorem dX6_parts_2 : decode cX6_parts 2 = .ok (.iload_n 1, 1) := by decide +kernel
theorem dX6_parts_3 : decode cX6_parts 3 = .ok (.invokevirtual 88, 3) := by decide +kernel
theorem dX6_parts_6 : decode cX6_parts 6 = .ok (.ifCond .eq 16, 3) := by decide +kernel
theorem dX6_parts_9 : decode cX6_parts 9 = .ok (.iload_n 2, 1) := by decide +kernel
theorem dX6_parts_10 : decode cX6_parts 10 = .ok (.iconst 0, 1) := by decide +kernel
theorem dX6_parts_11 : decode cX6_parts 11 = .ok (.iconst 3, 1) := by decide +kernel
theorem dX6_parts_12 : decode cX6_parts 12 = .ok (.invokestatic 74, 3) := by decide +kernel
theorem dX6_parts_15 : decode cX6_parts 15 = .ok (.ifCond .eq 7, 3) := by decide +kernel
theorem dX6_parts_18 : decode cX6_parts 18 = .ok (.iconst 0, 1) := by decide +kernel
theorem dX6_parts_19 : decode cX6_parts 19 = .ok (.goto 4, 3) := by decide +kernel
theorem dX6_parts_22 : decode cX6_parts 22 = .ok (.iconst 1, 1) := by decide +kernel
theorem dX6_parts_23 : decode cX6_parts 23 = .ok (.putfield 70, 3) := by decide +kernel
theorem dX6_parts_26 : decode cX6_parts 26 = .ok (.aload_n 0, 1) := by decide +kernel
theorem dX6_parts_27 : decode cX6_parts 27 = .ok (.getfield 70, 3) := by decide +kernel
theorem dX6_parts_30 : decode cX6_parts 30 = .ok (.ifCond .ne 16, 3) := by decide +kernel
theorem dX6_parts_33 : decode cX6_parts 33 = .ok (.aload_n 0, 1) := by decide +kernel
theorem dX6_parts_34 : decode cX6_parts 34 = .ok (.getfield 46, 3) := by decide +kernel
theorem dX6_parts_37 : decode cX6_parts 37 = .ok (.iconst 4, 1) := by decide +kernel
theorem dX6_parts_38 : decode cX6_parts 38 = .ok (.iload_n 1, 1) := by decide +kernel
theorem dX6_parts_39 : decode cX6_parts 39 = .ok (.imul, 1) := by decide +kernel
theorem dX6_parts_40 : decode cX6_parts 40 = .ok (.iload_n 2, 1) := by decide +kernel
theorem dX6_parts_41 : decode cX6_parts 41 = .ok (.iadd, 1) := by decide +kernel
theorem dX6_parts_42 : decode cX6_parts 42 = .ok (.iaload, 1) := by decide +kernel
theorem dX6_parts_43 : decode cX6_parts 43 = .ok (.goto 4, 3) := by decide +kernel
theorem dX6_parts_46 : decode cX6_parts 46 = .ok (.iconst 0, 1) := by decide +kernel
theorem dX6_parts_47 : decode cX6_parts 47 = .ok (.ireturn, 1) := by decide +kernel
set_option maxRecDepth 20000 in
theorem ggX6_canBePlayed_X6_isCopy : GoodIn wsX6_canBePlayed wsX6_isCopy := goodIn_r _ [6, 7, 8, 9, 5, 10, 18, 19, 20, 21, 22, 23, 24, 25, 26, 27, 28, 29, 30, 31, 32, 33, 34, 35, 36, 37, 38, 39, 40, 41] (by decide +kernel) (by decide +kernel)
set_option maxRecDepth 20000 in
theorem gX6_canBePlayed_X6_isCopy : GoodIn wsX6_canBePlayed (wsV RX6 88 RX6 yX6_isCopy wsX6_isCopy) := goodIn_app (goodIn_of _ (by decide +kernel)) ggX6_canBePlayed_X6_isCopy
set_option maxRecDepth 20000 in
theorem ggX6_canBePlayed_X6_playable : GoodIn wsX6_canBePlayed wsX6_playable := goodIn_r _ [14, 15, 16, 17, 18, 19, 20, 21, 22, 23, 24, 25, 26, 27, 28, 29, 30, 31, 32, 33, 34, 35, 36, 37, 38, 39, 40, 41] (by decide +kernel) (by decide +kernel)
set_option maxRecDepth 20000 in
theorem gX6_canBePlayed_X6_playable : GoodIn wsX6_canBePlayed (wsV RX6 95 RX6 yX6_playable wsX6_playable) := goodIn_app (goodIn_of _ (by decide +kernel)) ggX6_canBePlayed_X6_playable
theorem dX6_canBePlayed_0 : decode cX6_canBePlayed 0 = .ok (.aload_n 0, 1) := by decide +kernel
theorem dX6_canBePlayed_1 : decode cX6_canBePlayed 1 = .ok (.aload_n 0, 1) := by decide +kernel
theorem dX6_canBePlayed_2 : decode cX6_canBePlayed 2 = .ok (.iload_n 1, 1) := by decide +kernel
theorem dX6_canBePlayed_3 : decode cX6_canBePlayed 3 = .ok (.invokevirtual 88, 3) := by decide +kernel
theorem dX6_canBePlayed_6 : decode cX6_canBePlayed 6 = .ok (.ifCond .eq 7, 3) := by decide +kernel
theorem dX6_canBePlayed_9 : decode cX6_canBePlayed 9 = .ok (.iconst 0, 1) := by decide +kernel
theorem dX6_canBePlayed_10 : decode cX6_canBePlayed 10 = .ok (.goto 4, 3) := by decide +kernel
theorem dX6_canBePlayed_13 : decode cX6_canBePlayed 13 = .ok (.iconst 1, 1) := by decide +kernel
theorem dX6_canBePlayed_14 : decode cX6_canBePlayed 14 = .ok (.putfield 70, 3) := by decide +kernel
theorem dX6_canBePlayed_17 : decode cX6_canBePlayed 17 = .ok (.aload_n 0, 1) := by decide +kernel
theorem dX6_canBePlayed_18 : decode cX6_canBePlayed 18 = .ok (.getfield 70, 3) := by decide +kernel
theorem dX6_canBePlayed_21 : decode cX6_canBePlayed 21 = .ok (.ifCond .ne 15, 3) := by decide +kernel
theorem dX6_canBePlayed_24 : decode cX6_canBePlayed 24 = .ok (.aload_n 0, 1) := by decide +kernel
theorem dX6_canBePlayed_25 : decode cX6_canBePlayed 25 = .ok (.iload_n 1, 1) := by decide +kernel
theorem dX6_canBePlayed_26 : decode cX6_canBePlayed 26 = .ok (.invokevirtual 95, 3) := by decide +kernel
theorem dX6_canBePlayed_29 : decode cX6_canBePlayed 29 = .ok (.ifCond .eq 7, 3) := by decide +kernel
theorem dX6_canBePlayed_32 : decode cX6_canBePlayed 32 = .ok (.iconst 1, 1) := by decide +kernel
theorem dX6_canBePlayed_33 : decode cX6_canBePlayed 33 = .ok (.goto 4, 3) := by decide +kernel
theorem dX6_canBePlayed_36 : decode cX6_canBePlayed 36 = .ok (.iconst 0, 1) := by decide +kernel
theorem dX6_canBePlayed_37 : decode cX6_canBePlayed 37 = .ok (.ireturn, 1) := by decide +kernel
set_option maxRecDepth 20000 in
theorem ggX6_whereIs_X6_isCopy : GoodIn wsX6_whereIs wsX6_isCopy := goodIn_r _ [7, 8, 9, 10, 6, 11, 12, 13, 14, 15, 16, 17, 18, 19, 20, 21, 22, 23, 24, 25, 26, 27, 28, 29, 30, 31, 32, 33, 34, 35] (by decide +kernel) (by decide +kernel)
set_option maxRecDepth 20000 in
theorem gX6_whereIs_X6_isCopy : GoodIn wsX6_whereIs (wsV RX6 88 RX6 yX6_isCopy wsX6_isCopy) := goodIn_app (goodIn_of _ (by decide +kernel)) ggX6_whereIs_X6_isCopy
theorem dX6_whereIs_0 : decode cX6_whereIs 0 = .ok (.aload_n 0, 1) := by decide +kernel
theorem dX6_whereIs_1 : decode cX6_whereIs 1 = .ok (.aload_n 0, 1) := by decide +kernel
theorem dX6_whereIs_2 : decode cX6_whereIs 2 = .ok (.iload_n 1, 1) := by decide +kernel
theorem dX6_whereIs_3 : decode cX6_whereIs 3 = .ok (.invokevirtual 88, 3) := by decide +kernel
theorem dX6_whereIs_6 : decode cX6_whereIs 6 = .ok (.ifCond .eq 7, 3) := by decide +kernel
theorem dX6_whereIs_9 : decode cX6_whereIs 9 = .ok (.iconst 0, 1) := by decide +kernel
theorem dX6_whereIs_10 : decode cX6_whereIs 10 = .ok (.goto 4, 3) := by decide +kernel
theorem dX6_whereIs_13 : decode cX6_whereIs 13 = .ok (.iconst 1, 1) := by decide +kernel
theorem dX6_whereIs_14 : decode cX6_whereIs 14 = .ok (.putfield 70, 3) := by decide +kernel
theorem dX6_whereIs_17 : decode cX6_whereIs 17 = .ok (.aload_n 0, 1) := by decide +kernel
theorem dX6_whereIs_18 : decode cX6_whereIs 18 = .ok (.getfield 70, 3) := by decide +kernel
theorem dX6_whereIs_21 : decode cX6_whereIs 21 = .ok (.ifCond .ne 12, 3) := by decide +kernel
theorem dX6_whereIs_24 : decode cX6_whereIs 24 = .ok (.aload_n 0, 1) := by decide +kernel
theorem dX6_whereIs_25 : decode cX6_whereIs 25 = .ok (.getfield 43, 3) := by decide +kernel
theorem dX6_whereIs_28 : decode cX6_whereIs 28 = .ok (.iload_n 1, 1) := by decide +kernel
theorem dX6_whereIs_29 : decode cX6_whereIs 29 = .ok (.iaload, 1) := by decide +kernel
theorem dX6_whereIs_30 : decode cX6_whereIs 30 = .ok (.goto 4, 3) := by decide +kernel
theorem dX6_whereIs_33 : decode cX6_whereIs 33 = .ok (.iconst 0, 1) := by decide +kernel
theorem dX6_whereIs_34 : decode cX6_whereIs 34 = .ok (.ireturn, 1) := by decide +kernel
set_option maxRecDepth 20000 in
theorem ggX6_at_X6_in : GoodIn wsX6_at wsX6_in := goodIn_r _ [6] (by decide +kernel) (by decide +kernel)
set_option maxRecDepth 20000 in
theorem gX6_at_X6_in : GoodIn wsX6_at (va_wsS RX6 74 yX6_in wsX6_in) := goodIn_app (goodIn_of _ (by decide +kernel)) ggX6_at_X6_in
theorem dX6_at_0 : decode cX6_at 0 = .ok (.aload_n 0, 1) := by decide +kernel
theorem dX6_at_1 : decode cX6_at 1 = .ok (.iload_n 1, 1) := by decide +kernel
theorem dX6_at_2 : decode cX6_at 2 = .ok (.iconst 0, 1) := by decide +kernel
theorem dX6_at_3 : decode cX6_at 3 = .ok (.iconst 5, 1) := by decide +kernel
theorem dX6_at_4 : decode cX6_at 4 = .ok (.invokestatic 74, 3) := by decide +kernel
theorem dX6_at_7 : decode cX6_at 7 = .ok (.ifCond .eq 7, 3) := by decide +kernel
theorem dX6_at_10 : decode cX6_at 10 = .ok (.iconst 0, 1) := by decide +kernel
theorem dX6_at_11 : decode cX6_at 11 = .ok (.goto 4, 3) := by decide +kernel
theorem dX6_at_14 : decode cX6_at 14 = .ok (.iconst 1, 1) := by decide +kernel
theorem dX6_at_15 : decode cX6_at 15 = .ok (.putfield 70, 3) := by decide +kernel
theorem dX6_at_18 : decode cX6_at 18 = .ok (.aload_n 0, 1) := by decide +kernel
theorem dX6_at_19 : decode cX6_at 19 = .ok (.getfield 70, 3) := by decide +kernel
theorem dX6_at_22 : decode cX6_at 22 = .ok (.ifCond .ne 14, 3) := by decide +kernel
theorem dX6_at_25 : decode cX6_at 25 = .ok (.aload_n 0, 1) := by decide +kernel
theorem dX6_at_26 : decode cX6_at 26 = .ok (.getfield 31, 3) := by decide +kernel
theorem dX6_at_29 : decode cX6_at 29 = .ok (.iload_n 1, 1) := by decide +kernel
theorem dX6_at_30 : decode cX6_at 30 = .ok (.iaload, 1) := by decide +kernel
theorem dX6_at_31 : decode cX6_at 31 = .ok (.iconst 1, 1) := by decide +kernel
theorem dX6_at_32 : decode cX6_at 32 = .ok (.isub, 1) := by decide +kernel
theorem dX6_at_33 : decode cX6_at 33 = .ok (.goto 4, 3) := by decide +kernel
theorem dX6_at_36 : decode cX6_at 36 = .ok (.iconst 0, 1) := by decide +kernel
theorem dX6_at_37 : decode cX6_at 37 = .ok (.ireturn, 1) := by decide +kernel
set_option maxRecDepth 20000 in
theorem ggX6_copyOf_X6_isThere : GoodIn wsX6_copyOf wsX6_isThere := goodIn_r _ [6, 7, 8, 9, 10, 11, 5, 12, 13, 14, 15, 16, 17, 18, 19, 20, 21, 22, 23, 24, 25, 26, 27, 28, 29, 30, 31, 32, 33, 34, 35, 36] (by decide +kernel) (by decide +kernel)
set_option maxRecDepth 20000 in
theorem gX6_copyOf_X6_isThere : GoodIn wsX6_copyOf (wsV RX6 110 RX6 yX6_isThere wsX6_isThere) := goodIn_app (goodIn_of _ (by decide +kernel)) ggX6_copyOf_X6_isThere
theorem dX6_copyOf_0 : decode cX6_copyOf 0 = .ok (.aload_n 0, 1) := by decide +kernel
theorem dX6_copyOf_1 : decode cX6_copyOf 1 = .ok (.iload_n 1, 1) := by decide +kernel
theorem dX6_copyOf_2 : decode cX6_copyOf 2 = .ok (.invokevirtual 110, 3) := by decide +kernel
theorem dX6_copyOf_5 : decode cX6_copyOf 5 = .ok (.ifCond .eq 12, 3) := by decide +kernel
theorem dX6_copyOf_8 : decode cX6_copyOf 8 = .ok (.aload_n 0, 1) := by decide +kernel
theorem dX6_copyOf_9 : decode cX6_copyOf 9 = .ok (.getfield 55, 3) := by decide +kernel
theorem dX6_copyOf_12 : decode cX6_copyOf 12 = .ok (.iload_n 1, 1) := by decide +kernel
theorem dX6_copyOf_13 : decode cX6_copyOf 13 = .ok (.iaload, 1) := by decide +kernel
theorem dX6_copyOf_14 : decode cX6_copyOf 14 = .ok (.goto 4, 3) := by decide +kernel
theorem dX6_copyOf_17 : decode cX6_copyOf 17 = .ok (.iconst 0, 1) := by decide +kernel
theorem dX6_copyOf_18 : decode cX6_copyOf 18 = .ok (.ireturn, 1) := by decide +kernel
set_option maxRecDepth 20000 in
theorem ggX6_teaching_X6_in : GoodIn wsX6_teaching wsX6_in := goodIn_r _ [7] (by decide +kernel) (by decide +kernel)
set_option maxRecDepth 20000 in
theorem gX6_teaching_X6_in : GoodIn wsX6_teaching (va_wsS RX6 74 yX6_in wsX6_in) := goodIn_app (goodIn_of _ (by decide +kernel)) ggX6_teaching_X6_in
theorem dX6_teaching_0 : decode cX6_teaching 0 = .ok (.aload_n 0, 1) := by decide +kernel
theorem dX6_teaching_1 : decode cX6_teaching 1 = .ok (.iload_n 1, 1) := by decide +kernel
theorem dX6_teaching_2 : decode cX6_teaching 2 = .ok (.iconst 0, 1) := by decide +kernel
theorem dX6_teaching_3 : decode cX6_teaching 3 = .ok (.iconst 2, 1) := by decide +kernel
theorem dX6_teaching_4 : decode cX6_teaching 4 = .ok (.invokestatic 74, 3) := by decide +kernel
theorem dX6_teaching_7 : decode cX6_teaching 7 = .ok (.ifCond .eq 7, 3) := by decide +kernel
theorem dX6_teaching_10 : decode cX6_teaching 10 = .ok (.iconst 0, 1) := by decide +kernel
theorem dX6_teaching_11 : decode cX6_teaching 11 = .ok (.goto 4, 3) := by decide +kernel
theorem dX6_teaching_14 : decode cX6_teaching 14 = .ok (.iconst 1, 1) := by decide +kernel
theorem dX6_teaching_15 : decode cX6_teaching 15 = .ok (.putfield 70, 3) := by decide +kernel
theorem dX6_teaching_18 : decode cX6_teaching 18 = .ok (.aload_n 0, 1) := by decide +kernel
theorem dX6_teaching_19 : decode cX6_teaching 19 = .ok (.getfield 70, 3) := by decide +kernel
theorem dX6_teaching_22 : decode cX6_teaching 22 = .ok (.ifCond .ne 30, 3) := by decide +kernel
theorem dX6_teaching_25 : decode cX6_teaching 25 = .ok (.aload_n 0, 1) := by decide +kernel
theorem dX6_teaching_26 : decode cX6_teaching 26 = .ok (.getfield 37, 3) := by decide +kernel
theorem dX6_teaching_29 : decode cX6_teaching 29 = .ok (.iload_n 1, 1) := by decide +kernel
theorem dX6_teaching_30 : decode cX6_teaching 30 = .ok (.iaload, 1) := by decide +kernel
theorem dX6_teaching_31 : decode cX6_teaching 31 = .ok (.aload_n 0, 1) := by decide +kernel
theorem dX6_teaching_32 : decode cX6_teaching 32 = .ok (.getfield 98, 3) := by decide +kernel
theorem dX6_teaching_35 : decode cX6_teaching 35 = .ok (.if_icmp .le 17, 3) := by decide +kernel
theorem dX6_teaching_38 : decode cX6_teaching 38 = .ok (.aload_n 0, 1) := by decide +kernel
theorem dX6_teaching_39 : decode cX6_teaching 39 = .ok (.getfield 37, 3) := by decide +kernel
theorem dX6_teaching_42 : decode cX6_teaching 42 = .ok (.iload_n 1, 1) := by decide +kernel
theorem dX6_teaching_43 : decode cX6_teaching 43 = .ok (.iaload, 1) := by decide +kernel
theorem dX6_teaching_44 : decode cX6_teaching 44 = .ok (.aload_n 0, 1) := by decide +kernel
theorem dX6_teaching_45 : decode cX6_teaching 45 = .ok (.getfield 98, 3) := by decide +kernel
theorem dX6_teaching_48 : decode cX6_teaching 48 = .ok (.isub, 1) := by decide +kernel
theorem dX6_teaching_49 : decode cX6_teaching 49 = .ok (.goto 4, 3) := by decide +kernel
theorem dX6_teaching_52 : decode cX6_teaching 52 = .ok (.iconst 0, 1) := by decide +kernel
theorem dX6_teaching_53 : decode cX6_teaching 53 = .ok (.ireturn, 1) := by decide +kernel
set_option maxRecDepth 20000 in
theorem ggX6_plays_X6_isGame : GoodIn wsX6_plays wsX6_isGame := goodIn_r _ [6, 7, 8, 5, 9] (by decide +kernel) (by decide +kernel)
set_option maxRecDepth 20000 in
theorem gX6_plays_X6_isGame : GoodIn wsX6_plays (va_wsS RX6 84 yX6_isGame wsX6_isGame) := goodIn_app (goodIn_of _ (by decide +kernel)) ggX6_plays_X6_isGame
theorem dX6_plays_0 : decode cX6_plays 0 = .ok (.aload_n 0, 1) := by decide +kernel
theorem dX6_plays_1 : decode cX6_plays 1 = .ok (.iload_n 1, 1) := by decide +kernel
theorem dX6_plays_2 : decode cX6_plays 2 = .ok (.invokestatic 84, 3) := by decide +kernel
theorem dX6_plays_5 : decode cX6_plays 5 = .ok (.ifCond .eq 7, 3) := by decide +kernel
theorem dX6_plays_8 : decode cX6_plays 8 = .ok (.iconst 0, 1) := by decide +kernel
theorem dX6_plays_9 : decode cX6_plays 9 = .ok (.goto 4, 3) := by decide +kernel
theorem dX6_plays_12 : decode cX6_plays 12 = .ok (.iconst 1, 1) := by decide +kernel
theorem dX6_plays_13 : decode cX6_plays 13 = .ok (.putfield 70, 3) := by decide +kernel
theorem dX6_plays_16 : decode cX6_plays 16 = .ok (.aload_n 0, 1) := by decide +kernel
theorem dX6_plays_17 : decode cX6_plays 17 = .ok (.getfield 70, 3) := by decide +kernel
theorem dX6_plays_20 : decode cX6_plays 20 = .ok (.ifCond .ne 12, 3) := by decide +kernel
theorem dX6_plays_23 : decode cX6_plays 23 = .ok (.aload_n 0, 1) := by decide +kernel
theorem dX6_plays_24 : decode cX6_plays 24 = .ok (.getfield 25, 3) := by decide +kernel
theorem dX6_plays_27 : decode cX6_plays 27 = .ok (.iload_n 1, 1) := by decide +kernel
theorem dX6_plays_28 : decode cX6_plays 28 = .ok (.iaload, 1) := by decide +kernel
theorem dX6_plays_29 : decode cX6_plays 29 = .ok (.goto 4, 3) := by decide +kernel
theorem dX6_plays_32 : decode cX6_plays 32 = .ok (.iconst 0, 1) := by decide +kernel
theorem dX6_plays_33 : decode cX6_plays 33 = .ok (.ireturn, 1) := by decide +kernel
set_option maxRecDepth 20000 in
theorem ggX6_propose_X6_in : GoodIn wsX6_propose wsX6_in := goodIn_r _ [9] (by decide +kernel) (by decide +kernel)
set_option maxRecDepth 20000 in
theorem gX6_propose_X6_in : GoodIn wsX6_propose (va_wsS RX6 74 yX6_in wsX6_in) := goodIn_app (goodIn_of _ (by decide +kernel)) ggX6_propose_X6_in
set_option maxRecDepth 20000 in
theorem ggX6_propose_X6_tableFor : GoodIn wsX6_propose wsX6_tableFor := goodIn_r _ [13, 14, 15, 29, 30, 31, 32, 33, 34, 35, 36, 37, 38, 39, 40, 41, 42, 43, 44, 45, 46, 47, 48, 49, 50, 51, 52] (by decide +kernel) (by decide +kernel)
set_option maxRecDepth 20000 in
theorem gX6_propose_X6_tableFor : GoodIn wsX6_propose (wsV RX6 101 RX6 yX6_tableFor wsX6_tableFor) := goodIn_app (goodIn_of _ (by decide +kernel)) ggX6_propose_X6_tableFor
set_option maxRecDepth 20000 in
theorem ggX6_propose_X6_copyFor : GoodIn wsX6_propose wsX6_copyFor := goodIn_r _ [19, 20, 21, 22, 23, 24, 25, 8, 26, 27, 28, 29, 30, 31, 32, 33, 34, 35, 36, 37, 38, 39, 40, 41, 42, 43, 44, 45, 46, 47, 48, 49, 50, 51, 52] (by decide +kernel) (by decide +kernel)
set_option maxRecDepth 20000 in
theorem gX6_propose_X6_copyFor : GoodIn wsX6_propose (wsV RX6 104 RX6 yX6_copyFor wsX6_copyFor) := goodIn_app (goodIn_of _ (by decide +kernel)) ggX6_propose_X6_copyFor
theorem dX6_propose_0 : decode cX6_propose 0 = .ok (.aload_n 0, 1) := by decide +kernel
theorem dX6_propose_1 : decode cX6_propose 1 = .ok (.iload_n 1, 1) := by decide +kernel
theorem dX6_propose_2 : decode cX6_propose 2 = .ok (.iconst 1, 1) := by decide +kernel
theorem dX6_propose_3 : decode cX6_propose 3 = .ok (.bipush 8, 2) := by decide +kernel
theorem dX6_propose_5 : decode cX6_propose 5 = .ok (.invokestatic 74, 3) := by decide +kernel
theorem dX6_propose_8 : decode cX6_propose 8 = .ok (.ifCond .eq 7, 3) := by decide +kernel
theorem dX6_propose_11 : decode cX6_propose 11 = .ok (.iconst 0, 1) := by decide +kernel
theorem dX6_propose_12 : decode cX6_propose 12 = .ok (.goto 4, 3) := by decide +kernel
theorem dX6_propose_15 : decode cX6_propose 15 = .ok (.iconst 1, 1) := by decide +kernel
theorem dX6_propose_16 : decode cX6_propose 16 = .ok (.putfield 70, 3) := by decide +kernel
theorem dX6_propose_19 : decode cX6_propose 19 = .ok (.aload_n 0, 1) := by decide +kernel
theorem dX6_propose_20 : decode cX6_propose 20 = .ok (.getfield 70, 3) := by decide +kernel
theorem dX6_propose_23 : decode cX6_propose 23 = .ok (.ifCond .le 5, 3) := by decide +kernel
theorem dX6_propose_26 : decode cX6_propose 26 = .ok (.iconst 0, 1) := by decide +kernel
theorem dX6_propose_27 : decode cX6_propose 27 = .ok (.ireturn, 1) := by decide +kernel
theorem dX6_propose_28 : decode cX6_propose 28 = .ok (.iconst (-1), 1) := by decide +kernel
theorem dX6_propose_29 : decode cX6_propose 29 = .ok (.istore_n 2, 1) := by decide +kernel
theorem dX6_propose_30 : decode cX6_propose 30 = .ok (.iconst 0, 1) := by decide +kernel
theorem dX6_propose_31 : decode cX6_propose 31 = .ok (.istore_n 3, 1) := by decide +kernel
theorem dX6_propose_32 : decode cX6_propose 32 = .ok (.iload_n 3, 1) := by decide +kernel
theorem dX6_propose_33 : decode cX6_propose 33 = .ok (.iconst 5, 1) := by decide +kernel
theorem dX6_propose_34 : decode cX6_propose 34 = .ok (.if_icmp .ge 93, 3) := by decide +kernel
theorem dX6_propose_37 : decode cX6_propose 37 = .ok (.aload_n 0, 1) := by decide +kernel
theorem dX6_propose_38 : decode cX6_propose 38 = .ok (.getfield 81, 3) := by decide +kernel
theorem dX6_propose_41 : decode cX6_propose 41 = .ok (.bipush 60, 2) := by decide +kernel
theorem dX6_propose_43 : decode cX6_propose 43 = .ok (.if_icmp .ge 84, 3) := by decide +kernel
theorem dX6_propose_46 : decode cX6_propose 46 = .ok (.aload_n 0, 1) := by decide +kernel
theorem dX6_propose_47 : decode cX6_propose 47 = .ok (.iload_n 1, 1) := by decide +kernel
theorem dX6_propose_48 : decode cX6_propose 48 = .ok (.invokevirtual 101, 3) := by decide +kernel
theorem dX6_propose_51 : decode cX6_propose 51 = .ok (.iconst (-1), 1) := by decide +kernel
theorem dX6_propose_52 : decode cX6_propose 52 = .ok (.if_icmp .eq 75, 3) := by decide +kernel
theorem dX6_propose_55 : decode cX6_propose 55 = .ok (.iload_n 1, 1) := by decide +kernel
theorem dX6_propose_56 : decode cX6_propose 56 = .ok (.aload_n 0, 1) := by decide +kernel
theorem dX6_propose_57 : decode cX6_propose 57 = .ok (.getfield 7, 3) := by decide +kernel
theorem dX6_propose_60 : decode cX6_propose 60 = .ok (.iload_n 3, 1) := by decide +kernel
theorem dX6_propose_61 : decode cX6_propose 61 = .ok (.iaload, 1) := by decide +kernel
theorem dX6_propose_62 : decode cX6_propose 62 = .ok (.aload_n 0, 1) := by decide +kernel
theorem dX6_propose_63 : decode cX6_propose 63 = .ok (.getfield 13, 3) := by decide +kernel
theorem dX6_propose_66 : decode cX6_propose 66 = .ok (.iload_n 3, 1) := by decide +kernel
theorem dX6_propose_67 : decode cX6_propose 67 = .ok (.iaload, 1) := by decide +kernel
theorem dX6_propose_68 : decode cX6_propose 68 = .ok (.invokestatic 74, 3) := by decide +kernel
theorem dX6_propose_71 : decode cX6_propose 71 = .ok (.ifCond .eq 16, 3) := by decide +kernel
theorem dX6_propose_74 : decode cX6_propose 74 = .ok (.aload_n 0, 1) := by decide +kernel
theorem dX6_propose_75 : decode cX6_propose 75 = .ok (.iload_n 3, 1) := by decide +kernel
theorem dX6_propose_76 : decode cX6_propose 76 = .ok (.invokevirtual 104, 3) := by decide +kernel
theorem dX6_propose_79 : decode cX6_propose 79 = .ok (.iconst (-1), 1) := by decide +kernel
theorem dX6_propose_80 : decode cX6_propose 80 = .ok (.if_icmp .eq 7, 3) := by decide +kernel
theorem dX6_propose_83 : decode cX6_propose 83 = .ok (.iconst 1, 1) := by decide +kernel
theorem dX6_propose_84 : decode cX6_propose 84 = .ok (.goto 4, 3) := by decide +kernel
theorem dX6_propose_87 : decode cX6_propose 87 = .ok (.iconst 0, 1) := by decide +kernel
theorem dX6_propose_88 : decode cX6_propose 88 = .ok (.istore 4, 2) := by decide +kernel
theorem dX6_propose_90 : decode cX6_propose 90 = .ok (.iload 4, 2) := by decide +kernel
theorem dX6_propose_92 : decode cX6_propose 92 = .ok (.ifCond .eq 27, 3) := by decide +kernel
theorem dX6_propose_95 : decode cX6_propose 95 = .ok (.iload_n 2, 1) := by decide +kernel
theorem dX6_propose_96 : decode cX6_propose 96 = .ok (.iconst (-1), 1) := by decide +kernel
theorem dX6_propose_97 : decode cX6_propose 97 = .ok (.if_icmp .eq 18, 3) := by decide +kernel
theorem dX6_propose_100 : decode cX6_propose 100 = .ok (.aload_n 0, 1) := by decide +kernel
theorem dX6_propose_101 : decode cX6_propose 101 = .ok (.getfield 25, 3) := by decide +kernel
theorem dX6_propose_104 : decode cX6_propose 104 = .ok (.iload_n 3, 1) := by decide +kernel
theorem dX6_propose_105 : decode cX6_propose 105 = .ok (.iaload, 1) := by decide +kernel
theorem dX6_propose_106 : decode cX6_propose 106 = .ok (.aload_n 0, 1) := by decide +kernel
theorem dX6_propose_107 : decode cX6_propose 107 = .ok (.getfield 25, 3) := by decide +kernel
theorem dX6_propose_110 : decode cX6_propose 110 = .ok (.iload_n 2, 1) := by decide +kernel
theorem dX6_propose_111 : decode cX6_propose 111 = .ok (.iaload, 1) := by decide +kernel
theorem dX6_propose_112 : decode cX6_propose 112 = .ok (.if_icmp .le 7, 3) := by decide +kernel
theorem dX6_propose_115 : decode cX6_propose 115 = .ok (.iload_n 3, 1) := by decide +kernel
theorem dX6_propose_116 : decode cX6_propose 116 = .ok (.goto 4, 3) := by decide +kernel
theorem dX6_propose_119 : decode cX6_propose 119 = .ok (.iload_n 2, 1) := by decide +kernel
theorem dX6_propose_120 : decode cX6_propose 120 = .ok (.istore_n 2, 1) := by decide +kernel
theorem dX6_propose_121 : decode cX6_propose 121 = .ok (.iinc 3 1, 3) := by decide +kernel
theorem dX6_propose_124 : decode cX6_propose 124 = .ok (.goto (-92), 3) := by decide +kernel
theorem dX6_propose_127 : decode cX6_propose 127 = .ok (.iload_n 2, 1) := by decide +kernel
theorem dX6_propose_128 : decode cX6_propose 128 = .ok (.ireturn, 1) := by decide +kernel
theorem dJ9_max_7cf53_0 : decode cJ9_max_7cf53 0 = .ok (.iload_n 0, 1) := by decide +kernel
theorem dJ9_max_7cf53_1 : decode cJ9_max_7cf53 1 = .ok (.iload_n 1, 1) := by decide +kernel
theorem dJ9_max_7cf53_2 : decode cJ9_max_7cf53 2 = .ok (.if_icmp .lt 7, 3) := by decide +kernel
theorem dJ9_max_7cf53_5 : decode cJ9_max_7cf53 5 = .ok (.iload_n 0, 1) := by decide +kernel
theorem dJ9_max_7cf53_6 : decode cJ9_max_7cf53 6 = .ok (.goto 4, 3) := by decide +kernel
theorem dJ9_max_7cf53_9 : decode cJ9_max_7cf53 9 = .ok (.iload_n 1, 1) := by decide +kernel
theorem dJ9_max_7cf53_10 : decode cJ9_max_7cf53 10 = .ok (.ireturn, 1) := by decide +kernel
theorem dJ9_min_7cf53_0 : decode cJ9_min_7cf53 0 = .ok (.iload_n 0, 1) := by decide +kernel
theorem dJ9_min_7cf53_1 : decode cJ9_min_7cf53 1 = .ok (.iload_n 1, 1) := by decide +kernel
theorem dJ9_min_7cf53_2 : decode cJ9_min_7cf53 2 = .ok (.if_icmp .gt 7, 3) := by decide +kernel
theorem dJ9_min_7cf53_5 : decode cJ9_min_7cf53 5 = .ok (.iload_n 0, 1) := by decide +kernel
theorem dJ9_min_7cf53_6 : decode cJ9_min_7cf53 6 = .ok (.goto 4, 3) := by decide +kernel
theorem dJ9_min_7cf53_9 : decode cJ9_min_7cf53 9 = .ok (.iload_n 1, 1) := by decide +kernel
theorem dJ9_min_7cf53_10 : decode cJ9_min_7cf53 10 = .ok (.ireturn, 1) := by decide +kernel
set_option maxRecDepth 20000 in
theorem ggL_setGame_X5_setGame : GoodIn wsL_setGame wsX5_setGame := goodIn_ca (goodIn_ca (goodIn_r _ [7, 8, 9, 10, 11, 12, 13, 6, 14, 15, 16, 17, 18, 19, 20, 21, 22, 23, 24, 25, 26, 27, 28, 29, 30, 31, 32, 33, 34, 35, 36] (by decide +kernel) (by decide +kernel)) (goodIn_sub (fun _ h => List.mem_cons_of_mem _ (List.mem_append_left _ (List.mem_append_right _ h))) (by decide +kernel))) (goodIn_sub (fun _ h => List.mem_cons_of_mem _ (List.mem_append_right _ h)) (by decide +kernel))
set_option maxRecDepth 20000 in
theorem gL_setGame_X5_setGame : GoodIn wsL_setGame (wsV RL 7 RX5 yX5_setGame wsX5_setGame) := goodIn_app (goodIn_of _ (by decide +kernel)) ggL_setGame_X5_setGame
end
section
abbrev vwCl : List vw_C := [(RX0, TX0, 4), (RX1, TX1, 6), (RX2, TX2, 4), (RX3, TX3, 3), (RX4, TX4, 2), (RX5, TX5, 9), (RX6, TX6, 24)]
end
section
/-! ===== the worlds of this claim: cells by roles (a kind and a place), each role's content told by rows of numbers ===== -/
/-- a function of two places, changed at one -/
def cf_g2 {α : Type} (f : Nat → Nat → α) (k i : Nat) (v : α) : Nat → Nat → α := fun a b => if a = k ∧ b = i then v else f a b
theorem cf_g2s {α : Type} {f : Nat → Nat → α} {k i : Nat} {v : α} : cf_g2 f k i v k i = v := by simp [cf_g2]
theorem cf_g2n {α : Type} {f : Nat → Nat → α} {k i a b : Nat} {v : α} (h : ¬ (a = k ∧ b = i)) : cf_g2 f k i v a b = f a b := if_neg h
abbrev cf_T : Type := Nat → Nat → Option va_E
abbrev cf_Ad : Type := Nat → Nat → Nat
/-- the heap holds E's cells at the addresses ad, all of them at z or above, no two at one address -/
def cf_W (D : va_G) (z : Nat) (E : cf_T) (ad : cf_Ad) (H : Heap) : Prop :=
  z ≤ H.size ∧ (∀ (k i : Nat) (e : va_E), E k i = some e → va_at D vwCl (ad k i, e) H ∧ z ≤ ad k i) ∧
  ∀ (k i k2 i2 : Nat) (e e2 : va_E), E k i = some e → E k2 i2 = some e2 → ad k i = ad k2 i2 → k = k2 ∧ i = i2
section
variable {D : va_G} {z : Nat} {E : cf_T} {ad : cf_Ad} {H H1 : Heap}
theorem cf_W.lt (h : cf_W D z E ad H) {k i : Nat} {e : va_E} (he : E k i = some e) : ad k i < H.size := (h.2.1 k i e he).1.lt
theorem cf_W.ge (h : cf_W D z E ad H) {k i : Nat} {e : va_E} (he : E k i = some e) : z ≤ ad k i := (h.2.1 k i e he).2
theorem cf_W.at (h : cf_W D z E ad H) {k i : Nat} {e : va_E} (he : E k i = some e) : va_at D vwCl (ad k i, e) H := (h.2.1 k i e he).1
theorem cf_W.p1 (h : cf_W D z E ad H) {k i : Nat} {e : va_E} (he : E k i = some e) : va_P D vwCl [(ad k i, e)] H := by
  intro j q hq
  have hj : j < 1 := (List.getElem?_eq_some_iff.mp hq).1
  rw [show j = 0 by omega] at hq
  cases hq
  exact h.at he
theorem cf_W.kept (h : cf_W D z E ad H) (hz : H.size ≤ H1.size) (hq : ∀ q : Nat, q < H.size → H1[q]? = H[q]?) : cf_W D z E ad H1 :=
  ⟨Nat.le_trans h.1 hz, fun k i e he => ⟨(h.at he).kept (hq _ (h.lt he)), h.ge he⟩, h.2.2⟩
theorem cf_W.put (h : cf_W D z E ad H) {k i : Nat} {e0 e : va_E} (he : E k i = some e0) (h1 : va_at D vwCl (ad k i, e) H1) (hs : H1.size = H.size) (oq : ∀ q : Nat, q ≠ ad k i → H1[q]? = H[q]?) : cf_W D z (cf_g2 E k i (some e)) ad H1 := by
  have key : ∀ (a b : Nat) (x : va_E), cf_g2 E k i (some e) a b = some x → (a = k ∧ b = i ∧ x = e) ∨ (¬ (a = k ∧ b = i) ∧ E a b = some x) := by
    intro a b x hx
    by_cases hab : a = k ∧ b = i
    · obtain ⟨rfl, rfl⟩ := hab
      rw [cf_g2s] at hx
      exact Or.inl ⟨rfl, rfl, (Option.some.inj hx).symm⟩
    · rw [cf_g2n hab] at hx
      exact Or.inr ⟨hab, hx⟩
  refine ⟨by rw [hs]; exact h.1, fun a b x hx => ?_, fun a b a2 b2 x x2 hx hx2 hq => ?_⟩
  · rcases key a b x hx with ⟨rfl, rfl, rfl⟩ | ⟨hab, hx⟩
    · exact ⟨h1, h.ge he⟩
    · exact ⟨(h.at hx).kept (oq _ (fun q => hab (h.2.2 a b k i x e0 hx he q))), h.ge hx⟩
  · have l1 : ∃ y, E a b = some y := by
      rcases key a b x hx with ⟨rfl, rfl, rfl⟩ | ⟨-, hx⟩
      · exact ⟨e0, he⟩
      · exact ⟨x, hx⟩
    have l2 : ∃ y, E a2 b2 = some y := by
      rcases key a2 b2 x2 hx2 with ⟨rfl, rfl, rfl⟩ | ⟨-, hx⟩
      · exact ⟨e0, he⟩
      · exact ⟨x2, hx⟩
    obtain ⟨y, hy⟩ := l1
    obtain ⟨y2, hy2⟩ := l2
    exact h.2.2 a b a2 b2 y y2 hy hy2 hq
theorem cf_W.new (h : cf_W D z E ad H) {k i : Nat} {e : va_E} (he : E k i = none) (h1 : va_at D vwCl (H.size, e) H1) (hs : H.size ≤ H1.size) (oq : ∀ q : Nat, q < H.size → H1[q]? = H[q]?) : cf_W D z (cf_g2 E k i (some e)) (cf_g2 ad k i H.size) H1 := by
  have key : ∀ (a b : Nat) (x : va_E), cf_g2 E k i (some e) a b = some x → (a = k ∧ b = i ∧ x = e ∧ cf_g2 ad k i H.size a b = H.size) ∨ (¬ (a = k ∧ b = i) ∧ E a b = some x ∧ cf_g2 ad k i H.size a b = ad a b ∧ ad a b < H.size) := by
    intro a b x hx
    by_cases hab : a = k ∧ b = i
    · obtain ⟨rfl, rfl⟩ := hab
      rw [cf_g2s] at hx
      exact Or.inl ⟨rfl, rfl, (Option.some.inj hx).symm, cf_g2s⟩
    · rw [cf_g2n hab] at hx
      exact Or.inr ⟨hab, hx, cf_g2n hab, h.lt hx⟩
  refine ⟨Nat.le_trans h.1 hs, fun a b x hx => ?_, fun a b a2 b2 x x2 hx hx2 hq => ?_⟩
  · rcases key a b x hx with ⟨rfl, rfl, rfl, ha⟩ | ⟨-, hx, ha, hl⟩
    · rw [ha]; exact ⟨h1, h.1⟩
    · rw [ha]; exact ⟨(h.at hx).kept (oq _ hl), h.ge hx⟩
  · rcases key a b x hx with ⟨rfl, rfl, -, ha⟩ | ⟨-, hx, ha, hl⟩ <;> rcases key a2 b2 x2 hx2 with ⟨rfl, rfl, -, ha2⟩ | ⟨-, hx2, ha2, hl2⟩
    · exact ⟨rfl, rfl⟩
    · rw [ha, ha2] at hq; omega
    · rw [ha, ha2] at hq; omega
    · rw [ha, ha2] at hq; exact h.2.2 a b a2 b2 x x2 hx hx2 hq
theorem cf_W.recv {s : State} {tys : List (ClassId × FieldType)} (h : cf_W D z E ad H) (hK : va_K D vwCl tys s) {k i ci : Nat} {fs : List Value} {q : vw_C} (he : E k i = some (.inr (ci, fs))) (hc : vwCl[ci]? = some q) : ∃ cell : Cell, H[ad k i]? = some cell ∧ cell.vm.isStatics = false ∧ s.vm.findClass q.1 = some cell.cls :=
  va_recv hK (h.p1 he) hc (q0 := 0) rfl
end
/-! rows -/
section
variable {p : Program} {l : Launch} {e : Env} {R : Room} {s : State} {m : MethodId} {args : Array Value} {below : List Frame} {meth : Method} {c : Code} {H : Heap} {locs : List Loc} {cells slots : Nat} {Q : State → Prop}
variable {cc : ByteArray} {pc : Nat} {ls : Array Slot} {rest : List Value} {D : va_G} {A : Nat → Prop} {tys : List (ClassId × FieldType)} {H0 : Heap} {z : Nat} {E : cf_T} {ad : cf_Ad}
theorem cf_get (hexec : p.tables.exec = Jvm.exec) (hb : c.code = cc) {own ref C : String} {T : u_T} {N ci index : Nat} {Ts : List Cond} (hts : ∀ w ∈ Ts, w.before args s = true) (hin : ∀ w ∈ u_ws C T N, w ∈ Ts) (hown : s.vm.findClass own = some m.cls) (hK : va_K D vwCl tys s) (hW : cf_W D z E ad H) {k i : Nat} {fs : List Value} (he : E k i = some (.inr (ci, fs))) (hc : vwCl[ci]? = some (C, T, N)) (j : Nat) (hj : j < N) (hlink : (Cond.fieldLink own index ref (T j).2.1 (T j).2.2.1).before args s = true) (hsame : ∀ x, s.fieldFound? (T j).1 (T j).2.1 (T j).2.2.1 = some x → s.fieldFound? ref (T j).2.1 (T j).2.2.1 = some x) {v : Value} (hv : fs[j]? = some v) (hdg : decode cc pc = .ok (.getfield index, 3))
    (kk : W p l e R s m args below meth c H locs cells slots Q (F0 m (pc + 3) ls (v :: rest))) : W p l e R s m args below meth c H locs cells slots Q (F0 m pc ls (.ref (ad k i) :: rest)) :=
  va_get hexec hb hts hin hown hK (hW.p1 he) 0 rfl hc j hj hlink hsame hv hdg kk
theorem cf_put (hexec : p.tables.exec = Jvm.exec) (hb : c.code = cc) {own ref C : String} {T : u_T} {N ci index : Nat} {Ts : List Cond} (hts : ∀ w ∈ Ts, w.before args s = true) (hin : ∀ w ∈ u_ws C T N, w ∈ Ts) (ty0 : Nat → FieldType) (hty : ∀ k, k < N → parseFieldDescriptor (T k).2.2.1 = some (ty0 k)) (hnm : ∀ a, a < N → ∀ b, b < N → a ≠ b → (T a).2.1 ≠ (T b).2.1) (hown : s.vm.findClass own = some m.cls) (hK : va_K D vwCl tys s) (hW : cf_W D z E ad H) (hS0 : va_S (fun q => z ≤ q) H0 H locs) {k i : Nat} {fs : List Value} (he : E k i = some (.inr (ci, fs))) (hc : vwCl[ci]? = some (C, T, N)) (j : Nat) (hj : j < N) (hlink : (Cond.fieldLink own index ref (T j).2.1 (T j).2.2.1).before args s = true) (hsame : ∀ x, s.fieldFound? (T j).1 (T j).2.1 (T j).2.2.1 = some x → s.fieldFound? ref (T j).2.1 (T j).2.2.1 = some x) (hfin : (T j).2.2.2 = false) {ty : FieldType} {v : Value} (hd : parseFieldDescriptor (T j).2.2.1 = some ty) (hn : narrow ty v = v) (hfit : fits ty v = true) (hl : j < fs.length)
    (hdg : decode cc pc = .ok (.putfield index, 3)) (kk : ∀ (H1 : Heap) (locs1 : List Loc), cf_W D z (cf_g2 E k i (some (.inr (ci, fs.set j v)))) ad H1 → va_S (fun q => z ≤ q) H0 H1 locs1 → W p l e R s m args below meth c H1 locs1 cells slots Q (F0 m (pc + 3) ls rest)) : W p l e R s m args below meth c H locs cells slots Q (F0 m pc ls (v :: .ref (ad k i) :: rest)) := by
  have hap := va_apart (own := own) hts hin ty0 hty hnm hK hc
  obtain ⟨r, h1, cell, q1, q2, q3, q4⟩ := hW.at he
  have hr : r = (C, T, N) := Option.some.inj (h1.symm.trans hc)
  subst hr
  obtain ⟨hS, hfc, kC, hkC, hkind⟩ := hK.1 ci _ hc
  obtain ⟨cf, kf, fi, f, hi, hsl⟩ := hS j hj
  have hlay := hts _ (hin _ (u_in_lay hj))
  unfold u_lay at hlay
  rw [if_neg (by rw [hfin]; decide)] at hlay
  have hst := (u_facts hfc hkC (u_lays hts hin hj) hi).1
  have h6 := u_store hfc hkC hkind hlay hi hd hn hfit
  refine W.putK hexec hb (f := f) ⟨hown, hlink, ⟨_, _, _, hsame _ hi⟩, hst⟩ (by rw [q2]; exact h6) q1 q3 (by rw [hsl]; exact k2_hasslot (q4 j hj)) rfl rfl hdg fun H' e1 e2 e3 => ?_
  rw [hsl] at e1 ⊢
  exact kk H' _ (hW.put he ⟨_, hc, t_OB.to (V := updV (vp_V fs) j v) ⟨_, e1, q2, q3, t_set q4 hap hj v⟩ (fun n _ => vp_updV_set hl v n)⟩ e2 e3) (hS0.put e2 e3 (hW.ge he))
theorem cf_iald (hexec : p.tables.exec = Jvm.exec) (hb : c.code = cc) (hK : va_K D vwCl tys s) (hW : cf_W D z E ad H) {k i : Nat} (t0 : Nat) {cA : ClassId} {n : Nat} {f : Nat → Int32} (he : E k i = some (.inl (cA, n, .inl f))) (ht : tys[t0]? = some (cA, .int)) {x : Int32} (hin : vp_in x n) (hdg : decode cc pc = .ok (.iaload, 1))
    (kk : W p l e R s m args below meth c H locs cells slots Q (F0 m (pc + 1) ls (.int (f x.toNatClampNeg) :: rest))) : W p l e R s m args below meth c H locs cells slots Q (F0 m pc ls (.int x :: .ref (ad k i) :: rest)) :=
  va_iald hexec hb hK (hW.p1 he) 0 t0 rfl ht hin hdg kk
theorem cf_zald (hexec : p.tables.exec = Jvm.exec) (hb : c.code = cc) (hK : va_K D vwCl tys s) (hW : cf_W D z E ad H) {k i : Nat} (t0 : Nat) {cA : ClassId} {n : Nat} {f : Nat → Int32} (he : E k i = some (.inl (cA, n, .inl f))) (ht : tys[t0]? = some (cA, .boolean)) {x : Int32} (hin : vp_in x n) (hdg : decode cc pc = .ok (.baload, 1))
    (kk : W p l e R s m args below meth c H locs cells slots Q (F0 m (pc + 1) ls (.int (f x.toNatClampNeg) :: rest))) : W p l e R s m args below meth c H locs cells slots Q (F0 m pc ls (.int x :: .ref (ad k i) :: rest)) :=
  va_zald hexec hb hK (hW.p1 he) 0 t0 rfl ht hin hdg kk
theorem cf_lald (hexec : p.tables.exec = Jvm.exec) (hb : c.code = cc) (hK : va_K D vwCl tys s) (hW : cf_W D z E ad H) {k i : Nat} (t0 : Nat) {cA : ClassId} {n : Nat} {f : Nat → Int64} (he : E k i = some (.inl (cA, n, .inr (.inl f)))) (ht : tys[t0]? = some (cA, .long)) {x : Int32} (hin : vp_in x n) (hdg : decode cc pc = .ok (.laload, 1))
    (kk : W p l e R s m args below meth c H locs cells slots Q (F0 m (pc + 1) ls (.long (f x.toNatClampNeg) :: rest))) : W p l e R s m args below meth c H locs cells slots Q (F0 m pc ls (.int x :: .ref (ad k i) :: rest)) :=
  va_lald hexec hb hK (hW.p1 he) 0 t0 rfl ht hin hdg kk
theorem cf_aald (hexec : p.tables.exec = Jvm.exec) (hb : c.code = cc) (hK : va_K D vwCl tys s) (hW : cf_W D z E ad H) {k i : Nat} (t0 : Nat) {cA : ClassId} {C : String} {n : Nat} {f : Nat → Option Nat} (he : E k i = some (.inl (cA, n, .inr (.inr (.inr (.inr f)))))) (ht : tys[t0]? = some (cA, .object C)) {x : Int32} (hin : vp_in x n) (hdg : decode cc pc = .ok (.aaload, 1))
    {v : Value} (hv : va_rf (f x.toNatClampNeg) = v) (kk : W p l e R s m args below meth c H locs cells slots Q (F0 m (pc + 1) ls (v :: rest))) : W p l e R s m args below meth c H locs cells slots Q (F0 m pc ls (.int x :: .ref (ad k i) :: rest)) := by
  subst hv
  exact va_aldq hexec hb hK (hW.p1 he) 0 t0 rfl ht hin hdg kk
theorem cf_alen (hexec : p.tables.exec = Jvm.exec) (hb : c.code = cc) (hK : va_K D vwCl tys s) (hW : cf_W D z E ad H) {k i : Nat} (t0 : Nat) {cA : ClassId} {x : vp_A} (he : E k i = some (.inl (cA, x))) {ty : FieldType} (ht : tys[t0]? = some (cA, ty)) {v : Int32} (hv : Int32.ofNat x.1 = v) (hdg : decode cc pc = .ok (.arraylength, 1))
    (kk : W p l e R s m args below meth c H locs cells slots Q (F0 m (pc + 1) ls (.int v :: rest))) : W p l e R s m args below meth c H locs cells slots Q (F0 m pc ls (.ref (ad k i) :: rest)) :=
  va_alen hexec hb hK (hW.p1 he) 0 t0 rfl ht hv hdg kk
theorem cf_iast (hexec : p.tables.exec = Jvm.exec) (hb : c.code = cc) (hK : va_K D vwCl tys s) (hW : cf_W D z E ad H) (hS : va_S (fun q => z ≤ q) H0 H locs) {k i : Nat} (t0 : Nat) {cA : ClassId} {n : Nat} {f : Nat → Int32} (he : E k i = some (.inl (cA, n, .inl f))) (ht : tys[t0]? = some (cA, .int)) {j x : Int32} (hin : vp_in j n) (hdg : decode cc pc = .ok (.iastore, 1))
    (kk : ∀ (H1 : Heap) (locs1 : List Loc), cf_W D z (cf_g2 E k i (some (.inl (cA, n, .inl (upd f j.toNatClampNeg x))))) ad H1 → va_S (fun q => z ≤ q) H0 H1 locs1 → W p l e R s m args below meth c H1 locs1 cells slots Q (F0 m (pc + 1) ls rest)) : W p l e R s m args below meth c H locs cells slots Q (F0 m pc ls (.int x :: .int j :: .ref (ad k i) :: rest)) := by
  refine W.iast hexec hb (hW.at he) ((hK.2 t0 _ ht).1 n (fun j => .int (f j))) (fun q => by cases q) (by show ¬ (j < 0 ∨ (arrV _ _ _).slots.size ≤ _); rw [arrV_size]; exact hin) rfl rfl hdg fun H1 e z oq => ?_
  refine kk H1 _ (hW.put he ?_ z oq) (hS.put z oq (hW.ge he))
  show H1[ad k i]? = some (vp_cell _ _)
  rw [e, vp_cell_i, vp_cell_i, arrV_store]
  congr 2
  funext q
  by_cases hq : q = j.toNatClampNeg
  · subst hq
    simp [updV, upd]
  · simp [updV, upd, hq]
theorem cf_zast (hexec : p.tables.exec = Jvm.exec) (hb : c.code = cc) (hK : va_K D vwCl tys s) (hW : cf_W D z E ad H) (hS : va_S (fun q => z ≤ q) H0 H locs) {k i : Nat} (t0 : Nat) {cA : ClassId} {n : Nat} {f : Nat → Int32} (he : E k i = some (.inl (cA, n, .inl f))) (ht : tys[t0]? = some (cA, .boolean)) {j x : Int32} (hin : vp_in j n) (hdg : decode cc pc = .ok (.bastore, 1))
    (kk : ∀ (H1 : Heap) (locs1 : List Loc), cf_W D z (cf_g2 E k i (some (.inl (cA, n, .inl (upd f j.toNatClampNeg (vp_nar .boolean x)))))) ad H1 → va_S (fun q => z ≤ q) H0 H1 locs1 → W p l e R s m args below meth c H1 locs1 cells slots Q (F0 m (pc + 1) ls rest)) : W p l e R s m args below meth c H locs cells slots Q (F0 m pc ls (.int x :: .int j :: .ref (ad k i) :: rest)) := by
  refine W.zast hexec hb (hW.at he) ((hK.2 t0 _ ht).1 n (fun j => .int (f j))) (fun q => by cases q) (by show ¬ (j < 0 ∨ (arrV _ _ _).slots.size ≤ _); rw [arrV_size]; exact hin) rfl rfl hdg fun H1 e z oq => ?_
  refine kk H1 _ (hW.put he ?_ z oq) (hS.put z oq (hW.ge he))
  show H1[ad k i]? = some (vp_cell _ _)
  rw [e, vp_cell_i, vp_cell_i, arrV_store]
  congr 2
  funext q
  by_cases hq : q = j.toNatClampNeg
  · subst hq
    simp [updV, upd, vp_nar]
    try rfl
  · simp [updV, upd, hq]
theorem cf_last (hexec : p.tables.exec = Jvm.exec) (hb : c.code = cc) (hK : va_K D vwCl tys s) (hW : cf_W D z E ad H) (hS : va_S (fun q => z ≤ q) H0 H locs) {k i : Nat} (t0 : Nat) {cA : ClassId} {n : Nat} {f : Nat → Int64} (he : E k i = some (.inl (cA, n, .inr (.inl f)))) (ht : tys[t0]? = some (cA, .long)) {j : Int32} {x : Int64} (hin : vp_in j n) (hdg : decode cc pc = .ok (.lastore, 1))
    (kk : ∀ (H1 : Heap) (locs1 : List Loc), cf_W D z (cf_g2 E k i (some (.inl (cA, n, .inr (.inl (vp_updL f j.toNatClampNeg x)))))) ad H1 → va_S (fun q => z ≤ q) H0 H1 locs1 → W p l e R s m args below meth c H1 locs1 cells slots Q (F0 m (pc + 1) ls rest)) : W p l e R s m args below meth c H locs cells slots Q (F0 m pc ls (.long x :: .int j :: .ref (ad k i) :: rest)) := by
  refine W.last hexec hb (hW.at he) ((hK.2 t0 _ ht).1 n (fun j => .long (f j))) (fun q => by cases q) (by show ¬ (j < 0 ∨ (arrV _ _ _).slots.size ≤ _); rw [arrV_size]; exact hin) rfl rfl hdg fun H1 e z oq => ?_
  refine kk H1 _ (hW.put he ?_ z oq) (hS.put z oq (hW.ge he))
  show H1[ad k i]? = some (vp_cell _ _)
  rw [e, vp_cell_l, vp_cell_l, arrV_store]
  congr 2
  funext q
  by_cases hq : q = j.toNatClampNeg
  · subst hq
    simp [updV, vp_updL]
  · simp [updV, vp_updL, hq]
theorem cf_aast (hexec : p.tables.exec = Jvm.exec) (hb : c.code = cc) (hK : va_K D vwCl tys s) (hW : cf_W D z E ad H) (hS : va_S (fun q => z ≤ q) H0 H locs) {k i k2 i2 : Nat} (t0 ci : Nat) {cA : ClassId} {r : vw_C} {n : Nat} {vs : List Value} {f : Nat → Option Nat} (he : E k i = some (.inl (cA, n, .inr (.inr (.inr (.inr f)))))) (ht : tys[t0]? = some (cA, .object r.1)) (hv : E k2 i2 = some (.inr (ci, vs))) (hc : vwCl[ci]? = some r) {j : Int32} (hin : vp_in j n) (hdg : decode cc pc = .ok (.aastore, 1))
    (kk : ∀ (H1 : Heap) (locs1 : List Loc), cf_W D z (cf_g2 E k i (some (.inl (cA, n, .inr (.inr (.inr (.inr (va_up f j.toNatClampNeg (some (ad k2 i2)))))))))) ad H1 → va_S (fun q => z ≤ q) H0 H1 locs1 → W p l e R s m args below meth c H1 locs1 cells slots Q (F0 m (pc + 1) ls rest)) : W p l e R s m args below meth c H locs cells slots Q (F0 m pc ls (.ref (ad k2 i2) :: .int j :: .ref (ad k i) :: rest)) := by
  have hlt : j.toNatClampNeg < n := Nat.not_le.mp fun q => hin (Or.inr q)
  have h0 : ¬ j < 0 := fun q => hin (Or.inl q)
  obtain ⟨r', hr', cellV, g1, g2, g3, -⟩ := hW.at hv
  have hcls := (hK.1 ci r hc).2
  obtain ⟨kA, comp, k1, k2, k3, -⟩ := (hK.2 t0 _ ht).2
  have hcomp : comp = D.1 ci := Option.some.inj (k3.symm.trans hcls.1)
  subst hcomp
  obtain ⟨kC, hkC, -⟩ := hcls.2
  refine W.aast hexec hb (hW.at he) (fun q h => by cases h) (fun h => by cases h) k1 k2 rfl hkC ⟨h0, by show _ < (arrV _ _ _).slots.size; rw [arrV_size]; exact hlt⟩ g1 (fun q h => by rw [g3] at h; cases h) (by rw [g2]; exact hkC) (by rw [g2]; exact va_assign hcls) rfl rfl hdg fun H1 e z oq => ?_
  refine kk H1 _ (hW.put he ?_ z oq) (hS.put z oq (hW.ge he))
  show H1[ad k i]? = some (vp_cell _ _)
  rw [e, vp_cell_q, vp_cell_q, arrV_store]
  congr 2
  funext q
  by_cases hq : q = j.toNatClampNeg
  · subst hq
    simp [updV, va_up, va_rf]
  · simp [updV, va_up, hq]
theorem cf_aastN (hexec : p.tables.exec = Jvm.exec) (hb : c.code = cc) (hK : va_K D vwCl tys s) (hW : cf_W D z E ad H) (hS : va_S (fun q => z ≤ q) H0 H locs) {k i : Nat} (t0 : Nat) {cA : ClassId} {C : String} {n : Nat} {f : Nat → Option Nat} (he : E k i = some (.inl (cA, n, .inr (.inr (.inr (.inr f)))))) (ht : tys[t0]? = some (cA, .object C)) {j : Int32} (hin : vp_in j n) (hdg : decode cc pc = .ok (.aastore, 1))
    (kk : ∀ (H1 : Heap) (locs1 : List Loc), cf_W D z (cf_g2 E k i (some (.inl (cA, n, .inr (.inr (.inr (.inr (va_up f j.toNatClampNeg none)))))))) ad H1 → va_S (fun q => z ≤ q) H0 H1 locs1 → W p l e R s m args below meth c H1 locs1 cells slots Q (F0 m (pc + 1) ls rest)) : W p l e R s m args below meth c H locs cells slots Q (F0 m pc ls (.null :: .int j :: .ref (ad k i) :: rest)) := by
  refine va_WaastN (C := C) hexec hb (hW.at he) ((hK.2 t0 _ ht).1 n (fun j => va_rf (f j))) (fun h => by cases h) (by show ¬ (j < 0 ∨ (arrV _ _ _).slots.size ≤ _); rw [arrV_size]; exact hin) rfl rfl hdg fun H1 e z oq => ?_
  refine kk H1 _ (hW.put he ?_ z oq) (hS.put z oq (hW.ge he))
  show H1[ad k i]? = some (vp_cell _ _)
  rw [e, vp_cell_q, vp_cell_q, arrV_store]
  congr 2
  funext q
  by_cases hq : q = j.toNatClampNeg
  · subst hq
    simp [updV, va_up, va_rf]
  · simp [updV, va_up, hq]
end
end
section
/-! ===== what the tables say, as it stays through a run: classes, arrays' classes, the two statics of Throwable, castables, links of nest mates, texts ===== -/
abbrev cf_iob : String := "java/lang/IndexOutOfBoundsException"
abbrev cf_iae : String := "java/lang/IllegalArgumentException"
abbrev cf_ise : String := "java/lang/IllegalStateException"
def cf_ca : List (String × String) := [(cf_iob, cf_iob), (cf_iae, cf_iae), (cf_ise, cf_ise), ("[I", "java/lang/Cloneable")]
def cf_ln : List (String × Nat × MethodName × String) := [(RX5, 52, yX1_init, RX5), (RX5, 56, yX4_init, RX5), (RX0, 39, yX5_worthOfPart, RX5)]
def cf_nc : List (String × String) := [(cf_iae, cf_iob), (cf_ise, cf_iob), (cf_iob, cf_iae), (cf_ise, cf_iae), (cf_iob, cf_ise), (cf_iae, cf_ise)]
def cf_dc : List MethodName := [Bundle.initS "java/lang/RuntimeException", Bundle.initS "java/lang/Exception", Bundle.initS Bundle.tN]
theorem cf_warmD {x : MethodName} {s U : State} (hW : s.WarmedH U.vm) (hZ : va_Nw (.declares x) s) : va_Nw (.declares x) U := va_tabs rfl (rfl : (s.setVm U.vm).vm = U.vm) (by rw [Cond.declares_setVm hW.alike]; exact hZ)
def cf_ao : List String := [RX1, RX3, RX4, RX0, RX2]
def cf_str : List (Nat × String) := [(218, "there is no such number"), (220, "an argument is out of range"), (85, "a group is at the table"), (97, "there can be no more copies"), (213, "there is no such copy"), (112, "the parts of the copy cannot change so"), (120, "a copy is filled from another one of its game"), (123, "a copy is not on the shelf"), (133, "the game is not for so many people"), (147, "the group cannot be seated"), (216, "there is no such group"), (170, "no table can be had"), (182, "the minute would be above the last one"), (184, "the copy cannot be lent to the borrower"), (190, "there is no such copy to come back")]
abbrev cf_tys (cT : Nat → ClassId) : List (ClassId × FieldType) := [(cT 0, .int), (cT 1, .boolean), (cT 2, .long), (cT 3, .object RX1), (cT 4, .object RX3), (cT 5, .object RX4), (cT 6, .object RX0), (cT 7, .object RX2)]
abbrev cf_U (z : Nat) (U : State) (H : Heap) : Prop := vx_Zq Bundle.tN "UNASSIGNED_STACK" Bundle.steD (fun q => z ≤ q) U H ∧ vx_Zq Bundle.tN "SUPPRESSED_SENTINEL" Bundle.listD (fun q => z ≤ q) U H
def cf_Tb (D : va_G) (cT : Nat → ClassId) (z : Nat) (U : State) (H : Heap) : Prop :=
  va_K D vwCl (cf_tys cT) U ∧ cf_U z U H ∧ (∀ q ∈ cf_ca, va_Nw (.castable q.1 q.2) U) ∧ (∀ q ∈ cf_ln, va_Nw (.methodLinkNest q.1 q.2.1 q.2.2.1 q.2.2.2) U) ∧ (∀ q ∈ cf_nc, va_Nc q.1 q.2 U) ∧ (∀ C ∈ cf_ao, va_AO C U) ∧ (∀ q ∈ cf_str, ∃ a : Nat, vk_R RX5 q.1 q.2 a U) ∧ ∀ q ∈ cf_dc, va_Nw (.declares q) U
theorem cf_Tb.warm {D : va_G} {cT : Nat → ClassId} {z : Nat} {s U : State} {H : Heap} (hW : s.WarmedH U.vm) (h : cf_Tb D cT z s H) : cf_Tb D cT z U H := by
  obtain ⟨h1, ⟨h2, h3⟩, h4, h5, h6, h7, h8, h9⟩ := h
  refine ⟨va_K.moved hW.alike h1, ⟨h2.moved hW.alike, h3.moved hW.alike⟩, fun q hq => va_Nw.warmC hW (h4 q hq), fun q hq => va_Nw.warmM hW (h5 q hq), fun q hq => (h6 q hq).moved hW.alike, fun C hC => (h7 C hC).moved hW.alike, fun q hq => ?_, fun q hq => cf_warmD hW (h9 q hq)⟩
  obtain ⟨a, ha⟩ := h8 q hq
  exact ⟨a, ha.warm hW⟩
theorem cf_Tb.kept {D : va_G} {cT : Nat → ClassId} {z : Nat} {s : State} {H H1 : Heap} (h : cf_Tb D cT z s H) (hq : ∀ q : Nat, q < H.size → ¬ z ≤ q → H1[q]? = H[q]?) : cf_Tb D cT z s H1 :=
  ⟨h.1, ⟨h.2.1.1.kept hq, h.2.1.2.kept hq⟩, h.2.2⟩
/-- a method's start: the world, and the tables -/
def cf_P (D : va_G) (cT : Nat → ClassId) (z : Nat) (E : cf_T) (ad : cf_Ad) (U : State) : Prop := cf_W D z E ad U.heap ∧ cf_Tb D cT z U U.heap
theorem cf_P.blind {D : va_G} {cT : Nat → ClassId} {z : Nat} {E : cf_T} {ad : cf_Ad} {As : List Value} : FrameBlind (va_Pc As (cf_P D cT z E ad)) :=
  fun a U g mk q => ⟨q.1, q.2.1, cf_Tb.warm (s := U) (U := U.calling g mk a) (State.WarmedH.refl U) q.2.2⟩
theorem cf_P.at {D : va_G} {cT : Nat → ClassId} {z : Nat} {E : cf_T} {ad : cf_Ad} {s : State} {H : Heap} {locs : List Loc} (hT : cf_Tb D cT z s s.heap) (hS : va_S (fun q => z ≤ q) s.heap H locs) (hW : cf_W D z E ad H) : ∀ U : State, U.heap = H → s.WarmedH U.vm → cf_P D cT z E ad U := by
  intro U hU hw
  refine ⟨by rw [hU]; exact hW, ?_⟩
  rw [hU]
  exact cf_Tb.warm hw (hT.kept hS.2.1)
theorem cf_preV {D : va_G} {cT : Nat → ClassId} {z : Nat} {E : cf_T} {ad : cf_Ad} {s : State} {H : Heap} {locs : List Loc} (hT : cf_Tb D cT z s s.heap) (hS : va_S (fun q => z ≤ q) s.heap H locs) (hW : cf_W D z E ad H) {As : List Value} {C : String} {T : u_T} {N ci k i : Nat} {fs : List Value} (he : E k i = some (.inr (ci, fs))) (hc : vwCl[ci]? = some (C, T, N)) : PreV s H C (ad k i) (va_Pc (.ref (ad k i) :: As) (cf_P D cT z E ad)) As :=
  ⟨cf_P.blind, hW.recv hT.1 he hc, fun U hU hw => ⟨rfl, cf_P.at hT hS hW U hU hw⟩⟩
theorem cf_preS {D : va_G} {cT : Nat → ClassId} {z : Nat} {E : cf_T} {ad : cf_Ad} {s : State} {H : Heap} {locs : List Loc} (hT : cf_Tb D cT z s s.heap) (hS : va_S (fun q => z ≤ q) s.heap H locs) (hW : cf_W D z E ad H) {As : List Value} : PreS s H (va_Pc As (cf_P D cT z E ad)) As :=
  ⟨cf_P.blind, fun U hU hw => ⟨rfl, cf_P.at hT hS hW U hU hw⟩⟩
/-! ===== the contents of the roles ===== -/
def cf_len : Nat → Nat := fun i => match i with
  | 1 => 5
  | 2 => 5
  | 3 => 5
  | 4 => 20
  | 5 => 20
  | 6 => 5
  | 7 => 6
  | 8 => 6
  | 9 => 15
  | 10 => 3
  | 12 => 15
  | 13 => 15
  | 14 => 60
  | 16 => 60
  | 17 => 60
  | 18 => 60
  | 19 => 60
  | 20 => 60
  | 21 => 6
  | 22 => 6
  | _ => 0
abbrev cf_S : Type := Nat → Nat → Nat → Int32
abbrev cf_Pt : Type := Nat → Nat → Nat → Nat
/-- a row of references by numbers: 0 is null, n + 1 the object n -/
def cf_rw (f : Nat → Nat) (p : Nat → Nat) : Nat → Option Nat := fun j => if p j = 0 then none else some (f (p j - 1))
def cf_c (cT : Nat → ClassId) (nc ng : Nat) (O : Nat → Int64) (ad : cf_Ad) (k i : Nat) (r : Nat → Int32) (p : Nat → Nat) : Option va_E := match k with
  | 0 => if i < nc then some (.inr (0, [.int (nI i), .ref (ad 1 (p 0)), .ref (ad 7 i), .int (r 0)])) else none
  | 1 => if i < 5 then some (.inr (1, [.int (r 0), .int (r 1), .int (r 2), .int (r 3), .ref (ad 8 i), .ref (ad 9 i)])) else none
  | 2 => if i < ng then some (.inr (2, [.ref (ad 0 (p 0)), .int (r 0), .int (r 1), .ref (ad 3 (p 1))])) else none
  | 3 => if i < 6 then some (.inr (3, [.int (nI i), .int (r 0), .int (r 1)])) else none
  | 4 => if i < 3 then some (.inr (4, [.ref (ad 10 i), .int (r 0)])) else none
  | 5 => if i < 1 then some (.inr (5, [.ref (ad 11 0), .ref (ad 12 0), .ref (ad 13 0), .ref (ad 14 0), .ref (ad 15 0), .ref (ad 16 0), .int (r 0), .int (r 1), .int (r 2)])) else none
  | 6 => if i < 1 then some (.inr (6, [.int (r 0), .ref (ad 17 1), .ref (ad 17 2), .ref (ad 17 3), .ref (ad 17 4), .ref (ad 17 5), .ref (ad 17 6), .ref (ad 17 7), .ref (ad 17 8), .ref (ad 17 9), .ref (ad 17 10), .int (r 11), .ref (ad 17 12), .ref (ad 17 13), .ref (ad 17 14), .int (r 15), .ref (ad 17 16), .ref (ad 17 17), .ref (ad 17 18), .ref (ad 17 19), .ref (ad 17 20), .ref (ad 17 21), .ref (ad 17 22), .int (r 23)])) else none
  | 7 => if i < nc then some (.inl (cT 0, 4, .inl r)) else none
  | 8 => if i < 5 then some (.inl (cT 0, 4, .inl r)) else none
  | 9 => if i < 5 then some (.inl (cT 0, 4, .inl r)) else none
  | 10 => if i < 3 then some (.inl (cT 1, 5, .inl r)) else none
  | 11 => if i < 1 then some (.inl (cT 3, 5, .inr (.inr (.inr (.inr (fun j => some (ad 1 j))))))) else none
  | 12 => if i < 1 then some (.inl (cT 4, 6, .inr (.inr (.inr (.inr (fun j => some (ad 3 j))))))) else none
  | 13 => if i < 1 then some (.inl (cT 5, 3, .inr (.inr (.inr (.inr (fun j => some (ad 4 j))))))) else none
  | 14 => if i < 1 then some (.inl (cT 6, 15, .inr (.inr (.inr (.inr (cf_rw (ad 0) p)))))) else none
  | 15 => if i < 1 then some (.inl (cT 7, 60, .inr (.inr (.inr (.inr (cf_rw (ad 2) p)))))) else none
  | 16 => if i < 1 then some (.inl (cT 6, 6, .inr (.inr (.inr (.inr (cf_rw (ad 0) p)))))) else none
  | 17 => if 0 < cf_len i then some (.inl (cT 0, cf_len i, .inl r)) else none
  | 18 => if i < 1 then some (.inl (cT 2, 1, .inr (.inl O))) else none
  | _ => none
def cf_E (cT : Nat → ClassId) (nc ng : Nat) (S : cf_S) (P : cf_Pt) (O : Nat → Int64) (ad : cf_Ad) : cf_T := fun k i => cf_c cT nc ng O ad k i (S k i) (P k i)
section
variable {cT : Nat → ClassId} {nc ng : Nat} {S : cf_S} {P : cf_Pt} {O : Nat → Int64} {ad : cf_Ad} {i : Nat}
theorem cf_e0 (h : i < nc) : cf_E cT nc ng S P O ad 0 i = some (.inr (0, [.int (nI i), .ref (ad 1 (P 0 i 0)), .ref (ad 7 i), .int (S 0 i 0)])) := if_pos h
theorem cf_e1 (h : i < 5) : cf_E cT nc ng S P O ad 1 i = some (.inr (1, [.int (S 1 i 0), .int (S 1 i 1), .int (S 1 i 2), .int (S 1 i 3), .ref (ad 8 i), .ref (ad 9 i)])) := if_pos h
theorem cf_e2 (h : i < ng) : cf_E cT nc ng S P O ad 2 i = some (.inr (2, [.ref (ad 0 (P 2 i 0)), .int (S 2 i 0), .int (S 2 i 1), .ref (ad 3 (P 2 i 1))])) := if_pos h
theorem cf_e3 (h : i < 6) : cf_E cT nc ng S P O ad 3 i = some (.inr (3, [.int (nI i), .int (S 3 i 0), .int (S 3 i 1)])) := if_pos h
theorem cf_e4 (h : i < 3) : cf_E cT nc ng S P O ad 4 i = some (.inr (4, [.ref (ad 10 i), .int (S 4 i 0)])) := if_pos h
theorem cf_e5 : cf_E cT nc ng S P O ad 5 0 = some (.inr (5, [.ref (ad 11 0), .ref (ad 12 0), .ref (ad 13 0), .ref (ad 14 0), .ref (ad 15 0), .ref (ad 16 0), .int (S 5 0 0), .int (S 5 0 1), .int (S 5 0 2)])) := rfl
theorem cf_e6 : cf_E cT nc ng S P O ad 6 0 = some (.inr (6, [.int (S 6 0 0), .ref (ad 17 1), .ref (ad 17 2), .ref (ad 17 3), .ref (ad 17 4), .ref (ad 17 5), .ref (ad 17 6), .ref (ad 17 7), .ref (ad 17 8), .ref (ad 17 9), .ref (ad 17 10), .int (S 6 0 11), .ref (ad 17 12), .ref (ad 17 13), .ref (ad 17 14), .int (S 6 0 15), .ref (ad 17 16), .ref (ad 17 17), .ref (ad 17 18), .ref (ad 17 19), .ref (ad 17 20), .ref (ad 17 21), .ref (ad 17 22), .int (S 6 0 23)])) := rfl
theorem cf_e7 (h : i < nc) : cf_E cT nc ng S P O ad 7 i = some (.inl (cT 0, 4, .inl (S 7 i))) := if_pos h
theorem cf_e8 (h : i < 5) : cf_E cT nc ng S P O ad 8 i = some (.inl (cT 0, 4, .inl (S 8 i))) := if_pos h
theorem cf_e9 (h : i < 5) : cf_E cT nc ng S P O ad 9 i = some (.inl (cT 0, 4, .inl (S 9 i))) := if_pos h
theorem cf_e10 (h : i < 3) : cf_E cT nc ng S P O ad 10 i = some (.inl (cT 1, 5, .inl (S 10 i))) := if_pos h
theorem cf_e11 : cf_E cT nc ng S P O ad 11 0 = some (.inl (cT 3, 5, .inr (.inr (.inr (.inr (fun j => some (ad 1 j))))))) := rfl
theorem cf_e12 : cf_E cT nc ng S P O ad 12 0 = some (.inl (cT 4, 6, .inr (.inr (.inr (.inr (fun j => some (ad 3 j))))))) := rfl
theorem cf_e13 : cf_E cT nc ng S P O ad 13 0 = some (.inl (cT 5, 3, .inr (.inr (.inr (.inr (fun j => some (ad 4 j))))))) := rfl
theorem cf_e14 : cf_E cT nc ng S P O ad 14 0 = some (.inl (cT 6, 15, .inr (.inr (.inr (.inr (cf_rw (ad 0) (P 14 0))))))) := rfl
theorem cf_e15 : cf_E cT nc ng S P O ad 15 0 = some (.inl (cT 7, 60, .inr (.inr (.inr (.inr (cf_rw (ad 2) (P 15 0))))))) := rfl
theorem cf_e16 : cf_E cT nc ng S P O ad 16 0 = some (.inl (cT 6, 6, .inr (.inr (.inr (.inr (cf_rw (ad 0) (P 16 0))))))) := rfl
theorem cf_e17 (h : 0 < cf_len i) : cf_E cT nc ng S P O ad 17 i = some (.inl (cT 0, cf_len i, .inl (S 17 i))) := if_pos h
theorem cf_e18 : cf_E cT nc ng S P O ad 18 0 = some (.inl (cT 2, 1, .inr (.inl O))) := rfl
theorem cf_c0 {r : Nat → Int32} {p : Nat → Nat} (h : i < nc) : cf_c cT nc ng O ad 0 i r p = some (.inr (0, [.int (nI i), .ref (ad 1 (p 0)), .ref (ad 7 i), .int (r 0)])) := if_pos h
theorem cf_c1 {r : Nat → Int32} {p : Nat → Nat} (h : i < 5) : cf_c cT nc ng O ad 1 i r p = some (.inr (1, [.int (r 0), .int (r 1), .int (r 2), .int (r 3), .ref (ad 8 i), .ref (ad 9 i)])) := if_pos h
theorem cf_c2 {r : Nat → Int32} {p : Nat → Nat} (h : i < ng) : cf_c cT nc ng O ad 2 i r p = some (.inr (2, [.ref (ad 0 (p 0)), .int (r 0), .int (r 1), .ref (ad 3 (p 1))])) := if_pos h
theorem cf_c3 {r : Nat → Int32} {p : Nat → Nat} (h : i < 6) : cf_c cT nc ng O ad 3 i r p = some (.inr (3, [.int (nI i), .int (r 0), .int (r 1)])) := if_pos h
theorem cf_c4 {r : Nat → Int32} {p : Nat → Nat} (h : i < 3) : cf_c cT nc ng O ad 4 i r p = some (.inr (4, [.ref (ad 10 i), .int (r 0)])) := if_pos h
theorem cf_c5 {r : Nat → Int32} {p : Nat → Nat} : cf_c cT nc ng O ad 5 0 r p = some (.inr (5, [.ref (ad 11 0), .ref (ad 12 0), .ref (ad 13 0), .ref (ad 14 0), .ref (ad 15 0), .ref (ad 16 0), .int (r 0), .int (r 1), .int (r 2)])) := rfl
theorem cf_c6 {r : Nat → Int32} {p : Nat → Nat} : cf_c cT nc ng O ad 6 0 r p = some (.inr (6, [.int (r 0), .ref (ad 17 1), .ref (ad 17 2), .ref (ad 17 3), .ref (ad 17 4), .ref (ad 17 5), .ref (ad 17 6), .ref (ad 17 7), .ref (ad 17 8), .ref (ad 17 9), .ref (ad 17 10), .int (r 11), .ref (ad 17 12), .ref (ad 17 13), .ref (ad 17 14), .int (r 15), .ref (ad 17 16), .ref (ad 17 17), .ref (ad 17 18), .ref (ad 17 19), .ref (ad 17 20), .ref (ad 17 21), .ref (ad 17 22), .int (r 23)])) := rfl
theorem cf_c7 {r : Nat → Int32} {p : Nat → Nat} (h : i < nc) : cf_c cT nc ng O ad 7 i r p = some (.inl (cT 0, 4, .inl r)) := if_pos h
theorem cf_c8 {r : Nat → Int32} {p : Nat → Nat} (h : i < 5) : cf_c cT nc ng O ad 8 i r p = some (.inl (cT 0, 4, .inl r)) := if_pos h
theorem cf_c9 {r : Nat → Int32} {p : Nat → Nat} (h : i < 5) : cf_c cT nc ng O ad 9 i r p = some (.inl (cT 0, 4, .inl r)) := if_pos h
theorem cf_c10 {r : Nat → Int32} {p : Nat → Nat} (h : i < 3) : cf_c cT nc ng O ad 10 i r p = some (.inl (cT 1, 5, .inl r)) := if_pos h
theorem cf_c11 {r : Nat → Int32} {p : Nat → Nat} : cf_c cT nc ng O ad 11 0 r p = some (.inl (cT 3, 5, .inr (.inr (.inr (.inr (fun j => some (ad 1 j))))))) := rfl
theorem cf_c12 {r : Nat → Int32} {p : Nat → Nat} : cf_c cT nc ng O ad 12 0 r p = some (.inl (cT 4, 6, .inr (.inr (.inr (.inr (fun j => some (ad 3 j))))))) := rfl
theorem cf_c13 {r : Nat → Int32} {p : Nat → Nat} : cf_c cT nc ng O ad 13 0 r p = some (.inl (cT 5, 3, .inr (.inr (.inr (.inr (fun j => some (ad 4 j))))))) := rfl
theorem cf_c14 {r : Nat → Int32} {p : Nat → Nat} : cf_c cT nc ng O ad 14 0 r p = some (.inl (cT 6, 15, .inr (.inr (.inr (.inr (cf_rw (ad 0) p)))))) := rfl
theorem cf_c15 {r : Nat → Int32} {p : Nat → Nat} : cf_c cT nc ng O ad 15 0 r p = some (.inl (cT 7, 60, .inr (.inr (.inr (.inr (cf_rw (ad 2) p)))))) := rfl
theorem cf_c16 {r : Nat → Int32} {p : Nat → Nat} : cf_c cT nc ng O ad 16 0 r p = some (.inl (cT 6, 6, .inr (.inr (.inr (.inr (cf_rw (ad 0) p)))))) := rfl
theorem cf_c17 {r : Nat → Int32} {p : Nat → Nat} (h : 0 < cf_len i) : cf_c cT nc ng O ad 17 i r p = some (.inl (cT 0, cf_len i, .inl r)) := if_pos h
theorem cf_c18 {r : Nat → Int32} {p : Nat → Nat} : cf_c cT nc ng O ad 18 0 r p = some (.inl (cT 2, 1, .inr (.inl O))) := rfl
theorem cf_upSP (k i : Nat) (r : Nat → Int32) (p : Nat → Nat) {e : va_E} (he : cf_c cT nc ng O ad k i r p = some e) : cf_g2 (cf_E cT nc ng S P O ad) k i (some e) = cf_E cT nc ng (cf_g2 S k i r) (cf_g2 P k i p) O ad := by
  funext a b
  by_cases h : a = k ∧ b = i
  · obtain ⟨rfl, rfl⟩ := h
    rw [cf_g2s]
    show _ = cf_c cT nc ng O ad a b (cf_g2 S a b r a b) (cf_g2 P a b p a b)
    rw [cf_g2s, cf_g2s]
    exact he.symm
  · rw [cf_g2n h]
    show cf_c cT nc ng O ad a b (S a b) (P a b) = cf_c cT nc ng O ad a b (cf_g2 S k i r a b) (cf_g2 P k i p a b)
    rw [cf_g2n h, cf_g2n h]
theorem cf_upS (k i : Nat) (r : Nat → Int32) {e : va_E} (he : cf_c cT nc ng O ad k i r (P k i) = some e) : cf_g2 (cf_E cT nc ng S P O ad) k i (some e) = cf_E cT nc ng (cf_g2 S k i r) P O ad := by
  rw [cf_upSP k i r (P k i) he]
  congr 1
  funext a b
  by_cases h : a = k ∧ b = i
  · obtain ⟨rfl, rfl⟩ := h
    exact cf_g2s
  · exact cf_g2n h
theorem cf_upP (k i : Nat) (p : Nat → Nat) {e : va_E} (he : cf_c cT nc ng O ad k i (S k i) p = some e) : cf_g2 (cf_E cT nc ng S P O ad) k i (some e) = cf_E cT nc ng S (cf_g2 P k i p) O ad := by
  rw [cf_upSP k i (S k i) p he]
  congr 1
  funext a b
  by_cases h : a = k ∧ b = i
  · obtain ⟨rfl, rfl⟩ := h
    exact cf_g2s
  · exact cf_g2n h
theorem cf_upO {x : Int64} {j : Nat} (hj : j = 0) : cf_g2 (cf_E cT nc ng S P O ad) 18 0 (some (.inl (cT 2, 1, .inr (.inl (vp_updL O j x))))) = cf_E cT nc ng S P (vp_updL O 0 x) ad := by
  subst hj
  funext a b
  by_cases h : a = 18 ∧ b = 0
  · obtain ⟨rfl, rfl⟩ := h
    rw [cf_g2s]
    rfl
  · rw [cf_g2n h]
    show cf_c cT nc ng O ad a b (S a b) (P a b) = cf_c cT nc ng (vp_updL O 0 x) ad a b (S a b) (P a b)
    unfold cf_c
    split <;> first | rfl | skip
    rename_i h18
    by_cases hb : b = 0
    · exact absurd ⟨rfl, hb⟩ h
    · rw [if_neg (by omega), if_neg (by omega)]
end
theorem cf_rw0 {f p : Nat → Nat} {j : Nat} (h : p j = 0) : va_rf (cf_rw f p j) = .null := by simp [cf_rw, h, va_rf]
theorem cf_rwS {f p : Nat → Nat} {j n : Nat} (h : p j = n + 1) : va_rf (cf_rw f p j) = .ref (f n) := by simp [cf_rw, h, va_rf]
def cf_u {α : Type} (f : Nat → α) (k : Nat) (x : α) : Nat → α := fun j => if j = k then x else f j
theorem cf_us {α : Type} {f : Nat → α} {k : Nat} {x : α} : cf_u f k x k = x := if_pos rfl
theorem cf_un {α : Type} {f : Nat → α} {k j : Nat} {x : α} (h : j ≠ k) : cf_u f k x j = f j := if_neg h
theorem cf_rwU {f p : Nat → Nat} {j n : Nat} : va_up (cf_rw f p) j (some (f n)) = cf_rw f (cf_u p j (n + 1)) := by
  funext a
  by_cases h : a = j
  · subst h; simp [va_up, cf_rw, cf_u]
  · simp [va_up, cf_rw, cf_u, h]
theorem cf_rwN {f p : Nat → Nat} {j : Nat} : va_up (cf_rw f p) j none = cf_rw f (cf_u p j 0) := by
  funext a
  by_cases h : a = j
  · subst h; simp [va_up, cf_rw, cf_u]
  · simp [va_up, cf_rw, cf_u, h]
end
section
/-! ===== ends of methods that throw: the world stays ===== -/
abbrev cf_nm : List String := ["java/lang/RuntimeException", "java/lang/Exception"]
/-- what a throwing end says: which exception, and the world as it was -/
abbrev cf_X (D : va_G) (z : Nat) (E : cf_T) (ad : cf_Ad) (px : String → Prop) : String → State → State → Prop := vx_X (fun _ : Unit => True) (fun e _ t => px e ∧ cf_W D z E ad t.heap) (fun q => z ≤ q)
def cf_ng (x : String) : List Cond := Cond.castable x x :: cf_dc.map Cond.declares
theorem cf_ng_iob : ∀ w ∈ (vx_atS RX5 215 cf_iob cf_nm).filter (fun w => !goodWord w), w ∈ cf_ng cf_iob := by decide +kernel
theorem cf_ng_iae : ∀ w ∈ (vx_atS RX5 122 cf_iae cf_nm).filter (fun w => !goodWord w), w ∈ cf_ng cf_iae := by decide +kernel
theorem cf_ng_ise : ∀ w ∈ (vx_atS RX5 87 cf_ise cf_nm).filter (fun w => !goodWord w), w ∈ cf_ng cf_ise := by decide +kernel
theorem cf_gd_iob : ∀ w ∈ Cond.classLink RX5 211 cf_iob :: Cond.initialized cf_iob :: vx_atS RX5 215 cf_iob cf_nm, vx_ot w = true := by decide +kernel
theorem cf_gd_iae : ∀ w ∈ Cond.classLink RX5 118 cf_iae :: Cond.initialized cf_iae :: vx_atS RX5 122 cf_iae cf_nm, vx_ot w = true := by decide +kernel
theorem cf_gd_ise : ∀ w ∈ Cond.classLink RX5 83 cf_ise :: Cond.initialized cf_ise :: vx_atS RX5 87 cf_ise cf_nm, vx_ot w = true := by decide +kernel
theorem cf_fit_nm : ∀ n ∈ cf_nm, Bundle.fit n = true := by decide +kernel
section
variable {p : Program} {l : Launch} {e : Env} {R : Room} {s : State} {m : MethodId} {args : Array Value} {below : List Frame} {meth : Method} {c : Code} {H : Heap} {locs : List Loc} {cells slots : Nat}
variable {cc : ByteArray} {pc : Nat} {ls : Array Slot} {rest : List Value} {D : va_G} {cT : Nat → ClassId} {z : Nat} {E : cf_T} {ad : cf_Ad}
theorem cf_throw {cls text : String} {ik is ic mc ms : Nat} {px : String → Prop} {Qc : Array Value → State → Outcome → State → Prop} (hexec : p.tables.exec = Jvm.exec) (hb : c.code = cc) (hl : l.stackTraces = false) (hown : s.vm.findClass RX5 = some m.cls) (hcls : Bundle.fit cls = true)
    (hk : (Cond.classLink RX5 ik cls).before args s = true) (hini : (Cond.initialized cls).before args s = true) (hstr : (is, text) ∈ cf_str) (hca : (cls, cls) ∈ cf_ca)
    (hat : ∀ w ∈ (vx_atS RX5 ic cls cf_nm).filter goodWord, w.before args s = true) (hng : ∀ w ∈ (vx_atS RX5 ic cls cf_nm).filter (fun w => !goodWord w), w ∈ cf_ng cls) (hgd : ∀ w ∈ Cond.classLink RX5 ik cls :: Cond.initialized cls :: vx_atS RX5 ic cls cf_nm, vx_ot w = true)
    (hT : cf_Tb D cT z s s.heap) (hW : cf_W D z E ad H) (hS : va_S (fun q => z ≤ q) s.heap H locs) (hsize : ls.size = c.maxLocals)
    (d0 : decode cc pc = .ok (.new ik, 3)) (d3 : decode cc (pc + 3) = .ok (.dup, 1)) (d4 : decode cc (pc + 4) = .ok (.ldc is, 2)) (d6 : decode cc (pc + 6) = .ok (.invokespecial ic, 3)) (d9 : decode cc (pc + 9) = .ok (.athrow, 1))
    (htab : ∀ x ∈ c.exceptionTable.toList, False) (hR : 6 ≤ R.frames ∧ (rest.map fun v => v.category).sum + 82 ≤ R.locals ∧ cells + 1 ≤ R.cells ∧ slots + 6 ≤ R.slots) (hlocks : meth.locks = false)
    (hpx : px cls) (hcs : cells + 1 ≤ mc ∧ slots + 6 ≤ ms) :
    W p l e R s m args below meth c H locs cells slots (vx_MQ below Qc (cf_X D z E ad px) args s mc ms (fun q => z ≤ q)) (F0 m pc ls rest) := by
  obtain ⟨sa, ha⟩ := hT.2.2.2.2.2.2.1 _ hstr
  exact vx_throwS (names := cf_nm) (A := fun q => z ≤ q) hexec hb hl hown hcls cf_fit_nm hk hini ha (vx_hat hat hng (vx_c (va_Nw.use rfl (hT.2.2.1 _ hca)) (fun w hw => by
    obtain ⟨q, hq, rfl⟩ := List.mem_map.mp hw
    exact va_Nw.use rfl (hT.2.2.2.2.2.2.2 _ hq)))) hgd hT.2.1.1 hT.2.1.2 hS hsize d0 d3 d4 d6 d9 (fun x h => (htab x h).elim) hR.1 hR.2.1 hR.2.2.1 hR.2.2.2 hlocks
    (fun t _ hz hq => ⟨(), trivial, ⟨hpx, hW.kept hz hq⟩, Nat.le_trans hS.1 hz, fun q h1 h2 => (hq q (Nat.lt_of_lt_of_le h1 hS.1)).trans (hS.2.1 q h1 h2)⟩) hS.2.2 hcs.1 hcs.2
/-- a callee's exception goes on to the caller's caller -/
theorem cf_pass {E9 : String} {ce : Cell} {q : Addr} {mc ms : Nat} {px : String → Prop} {Qc : Array Value → State → Outcome → State → Prop} (htab : ∀ x ∈ c.exceptionTable.toList, False) (hlocks : meth.locks = false) (hce : H[q]? = some ce) (hcv : ce.vm = .none) (hcl : s.vm.findClass E9 = some ce.cls)
    (hS : va_S (fun q => z ≤ q) s.heap H locs) (hW : cf_W D z E ad H) (hpx : px E9) (hcs : cells ≤ mc ∧ slots ≤ ms) :
    vx_W p l e R s m args below meth c H locs cells slots (vx_MQ below Qc (cf_X D z E ad px) args s mc ms (fun q => z ≤ q)) (F0 m pc ls rest) q :=
  vx_out (fun x h => (htab x h).elim) hlocks hce hcv hcl (fun t ht _ => ⟨(), trivial, ⟨hpx, by rw [ht]; exact hW⟩, hS.F ht⟩) hS.2.2 hcs.1 hcs.2
end
/-! rows with a counted index -/
section
variable {p : Program} {l : Launch} {e : Env} {R : Room} {s : State} {m : MethodId} {args : Array Value} {below : List Frame} {meth : Method} {c : Code} {H : Heap} {locs : List Loc} {cells slots : Nat} {Q : State → Prop}
variable {cc : ByteArray} {pc : Nat} {ls : Array Slot} {rest : List Value} {D : va_G} {A : Nat → Prop} {tys : List (ClassId × FieldType)} {H0 : Heap} {z : Nat} {E : cf_T} {ad : cf_Ad}
theorem cf_ildN (hexec : p.tables.exec = Jvm.exec) (hb : c.code = cc) (hK : va_K D vwCl tys s) (hW : cf_W D z E ad H) {k i : Nat} (t0 : Nat) {cA : ClassId} {n : Nat} {f : Nat → Int32} (he : E k i = some (.inl (cA, n, .inl f))) (ht : tys[t0]? = some (cA, .int)) {x : Int32} (j : Nat) (hx : x = nI j) (hj : j < n) (hn : n < 2 ^ 31) (hdg : decode cc pc = .ok (.iaload, 1))
    {v : Int32} (hv : f j = v) (kk : W p l e R s m args below meth c H locs cells slots Q (F0 m (pc + 1) ls (.int v :: rest))) : W p l e R s m args below meth c H locs cells slots Q (F0 m pc ls (.int x :: .ref (ad k i) :: rest)) := by
  subst hx
  refine cf_iald hexec hb hK hW t0 he ht (vp_in_nI hj hn) hdg ?_
  rw [nI_clamp (Nat.lt_trans hj hn), hv]
  exact kk
theorem cf_zldN (hexec : p.tables.exec = Jvm.exec) (hb : c.code = cc) (hK : va_K D vwCl tys s) (hW : cf_W D z E ad H) {k i : Nat} (t0 : Nat) {cA : ClassId} {n : Nat} {f : Nat → Int32} (he : E k i = some (.inl (cA, n, .inl f))) (ht : tys[t0]? = some (cA, .boolean)) {x : Int32} (j : Nat) (hx : x = nI j) (hj : j < n) (hn : n < 2 ^ 31) (hdg : decode cc pc = .ok (.baload, 1))
    {v : Int32} (hv : f j = v) (kk : W p l e R s m args below meth c H locs cells slots Q (F0 m (pc + 1) ls (.int v :: rest))) : W p l e R s m args below meth c H locs cells slots Q (F0 m pc ls (.int x :: .ref (ad k i) :: rest)) := by
  subst hx
  refine cf_zald hexec hb hK hW t0 he ht (vp_in_nI hj hn) hdg ?_
  rw [nI_clamp (Nat.lt_trans hj hn), hv]
  exact kk
theorem cf_aldN (hexec : p.tables.exec = Jvm.exec) (hb : c.code = cc) (hK : va_K D vwCl tys s) (hW : cf_W D z E ad H) {k i : Nat} (t0 : Nat) {cA : ClassId} {C : String} {n : Nat} {f : Nat → Option Nat} (he : E k i = some (.inl (cA, n, .inr (.inr (.inr (.inr f)))))) (ht : tys[t0]? = some (cA, .object C)) {x : Int32} (j : Nat) (hx : x = nI j) (hj : j < n) (hn : n < 2 ^ 31) (hdg : decode cc pc = .ok (.aaload, 1))
    {v : Value} (hv : va_rf (f j) = v) (kk : W p l e R s m args below meth c H locs cells slots Q (F0 m (pc + 1) ls (v :: rest))) : W p l e R s m args below meth c H locs cells slots Q (F0 m pc ls (.int x :: .ref (ad k i) :: rest)) := by
  subst hx
  exact cf_aald hexec hb hK hW t0 he ht (vp_in_nI hj hn) hdg (by rw [nI_clamp (Nat.lt_trans hj hn)]; exact hv) kk
theorem cf_istN (hexec : p.tables.exec = Jvm.exec) (hb : c.code = cc) (hK : va_K D vwCl tys s) (hW : cf_W D z E ad H) (hS : va_S (fun q => z ≤ q) H0 H locs) {k i : Nat} (t0 : Nat) {cA : ClassId} {n : Nat} {f : Nat → Int32} (he : E k i = some (.inl (cA, n, .inl f))) (ht : tys[t0]? = some (cA, .int)) {y x : Int32} (j : Nat) (hx : y = nI j) (hj : j < n) (hn : n < 2 ^ 31) (hdg : decode cc pc = .ok (.iastore, 1)) {E2 : cf_T} (hE : cf_g2 E k i (some (.inl (cA, n, .inl (upd f j x)))) = E2)
    (kk : ∀ (H1 : Heap) (locs1 : List Loc), cf_W D z E2 ad H1 → va_S (fun q => z ≤ q) H0 H1 locs1 → W p l e R s m args below meth c H1 locs1 cells slots Q (F0 m (pc + 1) ls rest)) : W p l e R s m args below meth c H locs cells slots Q (F0 m pc ls (.int x :: .int y :: .ref (ad k i) :: rest)) := by
  subst hx; subst hE
  refine cf_iast hexec hb hK hW hS t0 he ht (vp_in_nI hj hn) hdg (fun H1 locs1 h1 h2 => kk H1 locs1 ?_ h2)
  rw [nI_clamp (Nat.lt_trans hj hn)] at h1
  exact h1
theorem cf_zstN (hexec : p.tables.exec = Jvm.exec) (hb : c.code = cc) (hK : va_K D vwCl tys s) (hW : cf_W D z E ad H) (hS : va_S (fun q => z ≤ q) H0 H locs) {k i : Nat} (t0 : Nat) {cA : ClassId} {n : Nat} {f : Nat → Int32} (he : E k i = some (.inl (cA, n, .inl f))) (ht : tys[t0]? = some (cA, .boolean)) {y x : Int32} (j : Nat) (hx : y = nI j) (hj : j < n) (hn : n < 2 ^ 31) (hdg : decode cc pc = .ok (.bastore, 1)) {v : Int32} (hv : vp_nar .boolean x = v) {E2 : cf_T} (hE : cf_g2 E k i (some (.inl (cA, n, .inl (upd f j v)))) = E2)
    (kk : ∀ (H1 : Heap) (locs1 : List Loc), cf_W D z E2 ad H1 → va_S (fun q => z ≤ q) H0 H1 locs1 → W p l e R s m args below meth c H1 locs1 cells slots Q (F0 m (pc + 1) ls rest)) : W p l e R s m args below meth c H locs cells slots Q (F0 m pc ls (.int x :: .int y :: .ref (ad k i) :: rest)) := by
  subst hx; subst hE; subst hv
  refine cf_zast hexec hb hK hW hS t0 he ht (vp_in_nI hj hn) hdg (fun H1 locs1 h1 h2 => kk H1 locs1 ?_ h2)
  rw [nI_clamp (Nat.lt_trans hj hn)] at h1
  exact h1
theorem cf_astN (hexec : p.tables.exec = Jvm.exec) (hb : c.code = cc) (hK : va_K D vwCl tys s) (hW : cf_W D z E ad H) (hS : va_S (fun q => z ≤ q) H0 H locs) {k i k2 i2 : Nat} (t0 ci : Nat) {cA : ClassId} {r : vw_C} {n : Nat} {vs : List Value} {f : Nat → Option Nat} (he : E k i = some (.inl (cA, n, .inr (.inr (.inr (.inr f)))))) (ht : tys[t0]? = some (cA, .object r.1)) (hv : E k2 i2 = some (.inr (ci, vs))) (hc : vwCl[ci]? = some r) {y : Int32} (j : Nat) (hx : y = nI j) (hj : j < n) (hn : n < 2 ^ 31) (hdg : decode cc pc = .ok (.aastore, 1)) {E2 : cf_T} (hE : cf_g2 E k i (some (.inl (cA, n, .inr (.inr (.inr (.inr (va_up f j (some (ad k2 i2))))))))) = E2)
    (kk : ∀ (H1 : Heap) (locs1 : List Loc), cf_W D z E2 ad H1 → va_S (fun q => z ≤ q) H0 H1 locs1 → W p l e R s m args below meth c H1 locs1 cells slots Q (F0 m (pc + 1) ls rest)) : W p l e R s m args below meth c H locs cells slots Q (F0 m pc ls (.ref (ad k2 i2) :: .int y :: .ref (ad k i) :: rest)) := by
  subst hx; subst hE
  refine cf_aast hexec hb hK hW hS t0 ci he ht hv hc (vp_in_nI hj hn) hdg (fun H1 locs1 h1 h2 => kk H1 locs1 ?_ h2)
  rw [nI_clamp (Nat.lt_trans hj hn)] at h1
  exact h1
theorem cf_astNN (hexec : p.tables.exec = Jvm.exec) (hb : c.code = cc) (hK : va_K D vwCl tys s) (hW : cf_W D z E ad H) (hS : va_S (fun q => z ≤ q) H0 H locs) {k i : Nat} (t0 : Nat) {cA : ClassId} {C : String} {n : Nat} {f : Nat → Option Nat} (he : E k i = some (.inl (cA, n, .inr (.inr (.inr (.inr f)))))) (ht : tys[t0]? = some (cA, .object C)) {y : Int32} (j : Nat) (hx : y = nI j) (hj : j < n) (hn : n < 2 ^ 31) (hdg : decode cc pc = .ok (.aastore, 1)) {E2 : cf_T} (hE : cf_g2 E k i (some (.inl (cA, n, .inr (.inr (.inr (.inr (va_up f j none))))))) = E2)
    (kk : ∀ (H1 : Heap) (locs1 : List Loc), cf_W D z E2 ad H1 → va_S (fun q => z ≤ q) H0 H1 locs1 → W p l e R s m args below meth c H1 locs1 cells slots Q (F0 m (pc + 1) ls rest)) : W p l e R s m args below meth c H locs cells slots Q (F0 m pc ls (.null :: .int y :: .ref (ad k i) :: rest)) := by
  subst hx; subst hE
  refine cf_aastN hexec hb hK hW hS t0 he ht (vp_in_nI hj hn) hdg (fun H1 locs1 h1 h2 => kk H1 locs1 ?_ h2)
  rw [nI_clamp (Nat.lt_trans hj hn)] at h1
  exact h1
theorem cf_putE (hexec : p.tables.exec = Jvm.exec) (hb : c.code = cc) {own ref C : String} {T : u_T} {N ci index : Nat} {Ts : List Cond} (hts : ∀ w ∈ Ts, w.before args s = true) (hin : ∀ w ∈ u_ws C T N, w ∈ Ts) (ty0 : Nat → FieldType) (hty : ∀ k, k < N → parseFieldDescriptor (T k).2.2.1 = some (ty0 k)) (hnm : ∀ a, a < N → ∀ b, b < N → a ≠ b → (T a).2.1 ≠ (T b).2.1) (hown : s.vm.findClass own = some m.cls) (hK : va_K D vwCl tys s) (hW : cf_W D z E ad H) (hS0 : va_S (fun q => z ≤ q) H0 H locs) {k i : Nat} {fs : List Value} (he : E k i = some (.inr (ci, fs))) (hc : vwCl[ci]? = some (C, T, N)) (j : Nat) (hj : j < N) (hlink : (Cond.fieldLink own index ref (T j).2.1 (T j).2.2.1).before args s = true) (hsame : ∀ x, s.fieldFound? (T j).1 (T j).2.1 (T j).2.2.1 = some x → s.fieldFound? ref (T j).2.1 (T j).2.2.1 = some x) (hfin : (T j).2.2.2 = false) {ty : FieldType} {v : Value} (hd : parseFieldDescriptor (T j).2.2.1 = some ty) (hn : narrow ty v = v) (hfit : fits ty v = true) (hl : j < fs.length)
    (hdg : decode cc pc = .ok (.putfield index, 3)) {E2 : cf_T} (hE : cf_g2 E k i (some (.inr (ci, fs.set j v))) = E2) (kk : ∀ (H1 : Heap) (locs1 : List Loc), cf_W D z E2 ad H1 → va_S (fun q => z ≤ q) H0 H1 locs1 → W p l e R s m args below meth c H1 locs1 cells slots Q (F0 m (pc + 3) ls rest)) : W p l e R s m args below meth c H locs cells slots Q (F0 m pc ls (v :: .ref (ad k i) :: rest)) := by
  subst hE
  exact cf_put hexec hb hts hin ty0 hty hnm hown hK hW hS0 he hc j hj hlink hsame hfin hd hn hfit hl hdg kk
end
/-! loops: a counter from i up to N -/
theorem cf_loop {α : Type} (G : Nat → α → Prop) (I : Nat → α → Prop) (N : Nat) (hx : ∀ a, I N a → G N a) (hs : ∀ i a, i < N → I i a → (∀ b, I (i + 1) b → G (i + 1) b) → G i a) : ∀ (i : Nat) (a : α), i ≤ N → I i a → G i a := by
  have key : ∀ (n i : Nat) (a : α), i ≤ N → N - i ≤ n → I i a → G i a := by
    intro n
    induction n with
    | zero =>
      intro i a h1 h2 h3
      have : i = N := by omega
      subst this
      exact hx a h3
    | succ n ih =>
      intro i a h1 h2 h3
      by_cases h : i = N
      · subst h; exact hx a h3
      · exact hs i a (by omega) h3 (fun b hb => ih (i + 1) b (by omega) (by omega) hb)
  exact fun i a h1 h2 => key (N - i) i a h1 (Nat.le_refl _) h2
theorem cf_W.re {D : va_G} {z : Nat} {E : cf_T} {ad : cf_Ad} {H : Heap} {t : State} (ht : t.heap = H) (h : cf_W D z E ad H) : cf_W D z E ad t.heap := ht ▸ h
theorem cf_W.er {D : va_G} {z : Nat} {E : cf_T} {ad : cf_Ad} {H : Heap} {t : State} (ht : t.heap = H) (h : cf_W D z E ad t.heap) : cf_W D z E ad H := ht ▸ h
/-! ===== BEGIN .. of methods that hand back an object of the pool ===== -/
section
variable {p : Program} {l : Launch} {e : Env} {R : Room} {s : State} {m : MethodId} {args : Array Value} {below : List Frame} {meth : Method} {c : Code} {H : Heap} {locs : List Loc} {cells slots : Nat} {Q : State → Prop}
variable {mc ms : Nat} {free : Addr → Prop} {A0 A1 : Nat → Prop} {H0 : Heap} {a : Array Value} {pc : Nat} {ls : Array Slot} {st0 rest : List Value}
theorem vx_callq {S SX : Type} {post : Option Nat → S → Prop} {px : SX → Prop} {B : S → State → Prop} {BX : String → SX → State → Prop} {AX : Nat → Prop} (hr : vx_Run p l e R s m args below meth c H locs cells slots mc ms (F0 m pc ls st0) rest (va_Qq post B A1 a) (vx_X px BX AX) free) (hS : va_S A0 H0 H locs) (hA : ∀ q, q < H.size → A1 q → A0 q) (hf : ∀ q, free q → A0 q) (hAX : ∀ q, q < H.size → AX q → A0 q)
    (kx : ∀ (E : String) (ce : Cell) (q9 : Addr) (u : SX) (t : State) (H1 : Heap) (locs1 : List Loc), t.heap = H1 → s.vm.Alike t.vm → px u → BX E u t → H.size ≤ H1.size → (∀ q : Nat, q < H.size → ¬ AX q → H1[q]? = H[q]?) → va_S A0 H0 H1 locs1 → H1[q9]? = some ce → ce.vm = .none → s.vm.findClass E = some ce.cls → vx_W p l e R s m args below meth c H1 locs1 (cells + mc) (slots + ms) Q (F0 m pc ls rest) q9)
    (kk : ∀ (r : Option Nat) (u : S) (t : State) (H1 : Heap) (locs1 : List Loc), t.heap = H1 → s.vm.Alike t.vm → post r u → B u t → H.size ≤ H1.size → (∀ q : Nat, q < H.size → ¬ A1 q → H1[q]? = H[q]?) → va_S A0 H0 H1 locs1 → W p l e R s m args below meth c H1 locs1 (cells + mc) (slots + ms) Q (F0 m (pc + 3) ls (va_rf r :: rest))) : W p l e R s m args below meth c H locs cells slots Q (F0 m pc ls st0) := by
  intro T hT X
  rcases hr T hT X with ⟨v, st₀, t, T', L, h0, X', hL, e1, e2, ⟨⟨r, u, hv, hp, hb⟩, hF⟩, st⟩ | ⟨q, st₀, t, T', L, E, ce, h0, X', hL, e1, e2, ⟨u, hp, hb, hF⟩, hce, hcv, hcl, st⟩
  · cases hv
    obtain ⟨k1, k2, k3⟩ := vx_keep h0 e1 hS hA hf hL hF
    obtain ⟨t2, a1, b1⟩ := kk r u t T'.heap (locs ++ L) e1.symm (by rw [← e2]; exact X'.warmed.alike) hp hb k1 k2 k3 T' rfl X'
    exact ⟨t2, st t2 a1, b1⟩
  · obtain ⟨k1, k2, k3⟩ := vx_keep h0 e1 hS hAX hf hL hF
    obtain ⟨t2, a1, b1⟩ := kx E ce q u t T'.heap (locs ++ L) e1.symm (by rw [← e2]; exact X'.warmed.alike) hp hb k1 k2 k3 (by rw [e1]; exact hce) hcv hcl T' rfl X'
    exact ⟨t2, st.trans a1, b1⟩
end
/-! ===== END ===== -/
end
section
/-! ===== plain facts ===== -/
abbrev cf_Qi (D : va_G) (z : Nat) {σ : Type} (post : Int32 → σ → Prop) (E : σ → cf_T) (ad : σ → cf_Ad) := va_Qi post (fun u t => cf_W D z (E u) (ad u) t.heap) (fun q => z ≤ q)
abbrev cf_Qv (D : va_G) (z : Nat) {σ : Type} (post : σ → Prop) (E : σ → cf_T) (ad : σ → cf_Ad) := va_Qv post (fun u t => cf_W D z (E u) (ad u) t.heap) (fun q => z ≤ q)
abbrev cf_Qq (D : va_G) (z : Nat) {σ : Type} (post : Option Nat → σ → Prop) (E : σ → cf_T) (ad : σ → cf_Ad) := va_Qq post (fun u t => cf_W D z (E u) (ad u) t.heap) (fun q => z ≤ q)
/-- a boolean answer -/
def cf_B (r : Int32) (p : Prop) : Prop := (r = 1 ∧ p) ∨ (r = 0 ∧ ¬ p)
/-- enough parts of each of the four kinds -/
def cf_play (h nd : Nat → Int32) : Prop := ∀ k, k < 4 → nd k ≤ h k
theorem cf_all4 {p : Nat → Prop} (h0 : p 0) (h1 : p 1) (h2 : p 2) (h3 : p 3) : ∀ k, k < 4 → p k := by
  intro k hk
  match k, hk with
  | 0, _ => exact h0
  | 1, _ => exact h1
  | 2, _ => exact h2
  | 3, _ => exact h3
/-- the best so far of those that will do -/
def cf_best (ok : Nat → Bool) (lt : Nat → Nat → Bool) : Nat → Option Nat
  | 0 => none
  | n + 1 => match cf_best ok lt n with
    | none => if ok n = true then some n else none
    | some t => if ok n = true ∧ lt n t = true then some n else some t
theorem cf_best_no {ok : Nat → Bool} {lt : Nat → Nat → Bool} {n : Nat} (h : ok n = false) : cf_best ok lt (n + 1) = cf_best ok lt n := by
  rw [cf_best]
  cases cf_best ok lt n <;> simp [h]
theorem cf_best_first {ok : Nat → Bool} {lt : Nat → Nat → Bool} {n : Nat} (h : ok n = true) (hb : cf_best ok lt n = none) : cf_best ok lt (n + 1) = some n := by
  rw [cf_best, hb]
  simp [h]
theorem cf_best_new {ok : Nat → Bool} {lt : Nat → Nat → Bool} {n t : Nat} (h : ok n = true) (hb : cf_best ok lt n = some t) (hl : lt n t = true) : cf_best ok lt (n + 1) = some n := by
  rw [cf_best, hb]
  simp [h, hl]
theorem cf_best_old {ok : Nat → Bool} {lt : Nat → Nat → Bool} {n t : Nat} (hb : cf_best ok lt n = some t) (hl : lt n t = false) : cf_best ok lt (n + 1) = some t := by
  rw [cf_best, hb]
  simp [hl]
theorem cf_best_in {ok : Nat → Bool} {lt : Nat → Nat → Bool} : ∀ {n t : Nat}, cf_best ok lt n = some t → t < n ∧ ok t = true := by
  intro n
  induction n with
  | zero => intro t h; cases h
  | succ n ih =>
    intro t h
    cases hb : cf_best ok lt n with
    | none =>
      by_cases ho : ok n = true
      · rw [cf_best_first ho hb] at h
        cases h
        exact ⟨Nat.lt_succ_self _, ho⟩
      · rw [cf_best_no (by simpa using ho), hb] at h
        cases h
    | some u =>
      by_cases ho : ok n = true ∧ lt n u = true
      · rw [cf_best_new ho.1 hb ho.2] at h
        cases h
        exact ⟨Nat.lt_succ_self _, ho.1⟩
      · rw [cf_best, hb] at h
        simp only [ho, if_false] at h
        cases h
        obtain ⟨h1, h2⟩ := ih hb
        exact ⟨Nat.lt_succ_of_lt h1, h2⟩
theorem cf_best_cong {ok ok2 : Nat → Bool} {lt lt2 : Nat → Nat → Bool} : ∀ {n : Nat}, (∀ i, i < n → ok i = ok2 i) → (∀ i j, i < n → j < n → lt i j = lt2 i j) → cf_best ok lt n = cf_best ok2 lt2 n := by
  intro n
  induction n with
  | zero => intro _ _; rfl
  | succ n ih =>
    intro h1 h2
    have e := ih (fun i hi => h1 i (Nat.lt_succ_of_lt hi)) (fun i j hi hj => h2 i j (Nat.lt_succ_of_lt hi) (Nat.lt_succ_of_lt hj))
    cases hb : cf_best ok lt n with
    | none =>
      rw [hb] at e
      rw [cf_best, hb, cf_best, ← e, h1 n (Nat.lt_succ_self n)]
    | some t =>
      rw [hb] at e
      have ht := (cf_best_in hb).1
      rw [cf_best, hb, cf_best, ← e]
      simp only [h1 n (Nat.lt_succ_self n), h2 n t (Nat.lt_succ_self n) (Nat.lt_succ_of_lt ht)]
/-- the first that will do -/
def cf_fst (ok : Nat → Prop) (N : Nat) (r : Option Nat) : Prop := (r = none ∧ ∀ u, u < N → ¬ ok u) ∨ ∃ i, r = some i ∧ i < N ∧ ok i ∧ ∀ u, u < i → ¬ ok u
theorem cf_fst_one {ok : Nat → Prop} {N : Nat} {r r2 : Option Nat} (h : cf_fst ok N r) (h2 : cf_fst ok N r2) : r = r2 := by
  rcases h with ⟨rfl, h⟩ | ⟨i, rfl, hi, ho, hu⟩ <;> rcases h2 with ⟨rfl, h2⟩ | ⟨j, rfl, hj, ho2, hu2⟩
  · rfl
  · exact absurd ho2 (h j hj)
  · exact absurd ho (h2 i hi)
  · rcases Nat.lt_trichotomy i j with q | q | q
    · exact absurd ho (hu2 i q)
    · rw [q]
    · exact absurd ho2 (hu j q)
section
variable {p : Program} {l : Launch} {e : Env} {R : Room} {s : State} {m : MethodId} {args : Array Value} {below : List Frame} {meth : Method} {c : Code} {cells slots : Nat} {Q : State → Prop} {pc : Nat}
theorem cf_loopW {β : Type} (I : Nat → Heap → List Loc → Array Slot → β → Prop) (N : Nat) (hx : ∀ H locs ls b, I N H locs ls b → W p l e R s m args below meth c H locs cells slots Q (F0 m pc ls [])) (hs : ∀ i H locs ls b, i < N → I i H locs ls b → (∀ H2 locs2 ls2 b2, I (i + 1) H2 locs2 ls2 b2 → W p l e R s m args below meth c H2 locs2 cells slots Q (F0 m pc ls2 [])) → W p l e R s m args below meth c H locs cells slots Q (F0 m pc ls []))
    {H : Heap} {locs : List Loc} {ls : Array Slot} (b : β) (h0 : I 0 H locs ls b) : W p l e R s m args below meth c H locs cells slots Q (F0 m pc ls []) :=
  cf_loop (α := Heap × List Loc × Array Slot × β) (fun _ a => W p l e R s m args below meth c a.1 a.2.1 cells slots Q (F0 m pc a.2.2.1 [])) (fun i a => I i a.1 a.2.1 a.2.2.1 a.2.2.2) N (fun a h => hx a.1 a.2.1 a.2.2.1 a.2.2.2 h) (fun i a hi h ih => hs i a.1 a.2.1 a.2.2.1 a.2.2.2 hi h (fun H2 locs2 ls2 b2 h2 => ih (H2, locs2, ls2, b2) h2)) 0 (H, locs, ls, b) (Nat.zero_le N) h0
end
theorem cf_ofr (x : Int32) (n : Nat) (hn : n < 2 ^ 31) (h1 : ¬ x < 0) (h2 : x < nI n) : ∃ j : Nat, j < n ∧ x = nI j := by
  rcases pk_ix x hn with h | h | h
  · exact absurd h h1
  · exact absurd h2 (Int32.not_lt.mpr h)
  · exact h
theorem cf_lt_of {j n : Nat} (hj : j < 2 ^ 31) (hn : n < 2 ^ 31) (h : nI j < nI n) : j < n := (nI_ltI hj hn).mp h
theorem cf_W.inj {D : va_G} {z : Nat} {E : cf_T} {ad : cf_Ad} {H : Heap} (h : cf_W D z E ad H) {k i k2 i2 : Nat} {e e2 : va_E} (he : E k i = some e) (he2 : E k2 i2 = some e2) (hq : ad k i = ad k2 i2) : k = k2 ∧ i = i2 := h.2.2 k i k2 i2 e e2 he he2 hq
theorem cf_B.t {r : Int32} {q : Prop} (h : cf_B r q) (h0 : ¬ r = 0) : q := by
  rcases h with ⟨-, h⟩ | ⟨h, -⟩
  · exact h
  · exact absurd h h0
theorem cf_B.f {r : Int32} {q : Prop} (h : cf_B r q) (h0 : r = 0) : ¬ q := by
  rcases h with ⟨h, -⟩ | ⟨-, h⟩
  · rw [h] at h0; exact absurd h0 (by decide)
  · exact h
theorem cf_B.nar {r : Int32} {q : Prop} (h : cf_B r q) : narrow .boolean (.int r) = .int r := by
  rcases h with ⟨h, -⟩ | ⟨h, -⟩ <;> subst h <;> rfl
/-- a copy that is there, of the game, on the shelf, and can be played -/
def cf_okC (nc : Nat) (S : cf_S) (P : cf_Pt) (g : Nat) : Nat → Prop := fun u => u < nc ∧ P 0 u 0 = g ∧ S 0 u 0 = 0 ∧ cf_play (S 7 u) (S 9 (P 0 u 0))
def cf_okS (S : cf_S) (g : Nat) : Nat → Prop := fun u => ¬ S 10 u g = 0 ∧ ¬ S 5 0 2 < S 4 u 0
theorem cf_snoc {q : Nat → Prop} {i : Nat} (h : ∀ u, u < i → ¬ q u) (hi : ¬ q i) : ∀ u, u < i + 1 → ¬ q u := by
  intro u hu
  rcases Nat.lt_succ_iff_lt_or_eq.mp hu with h1 | h1
  · exact h u h1
  · rw [h1]; exact hi
end
section
/-! ===== conditions in one form, for the class and for the reference ===== -/
/-- x is one of the numbers 0 .. n - 1 -/
def cf_ix (x : Int32) (n : Nat) : Prop := ∃ j : Nat, j < n ∧ x = nI j
def cf_rg (x lo hi : Int32) : Prop := lo ≤ x ∧ x ≤ hi
theorem cf_nix1 {x : Int32} {n : Nat} (hn : n < 2 ^ 31) (h : x < 0) : ¬ cf_ix x n := by
  rintro ⟨j, hj, rfl⟩
  exact nI_pos (Nat.lt_trans hj hn) h
theorem cf_nix2 {x y : Int32} {n : Nat} (hn : n < 2 ^ 31) (hy : y = nI n) (h : ¬ x < y) : ¬ cf_ix x n := by
  rintro ⟨j, hj, rfl⟩
  subst hy
  exact h (nI_lt hj hn)
theorem cf_ix_of {x y : Int32} {n : Nat} (hn : n < 2 ^ 31) (hy : y = nI n) (h1 : ¬ x < 0) (h2 : x < y) : cf_ix x n := by
  subst hy
  exact cf_ofr x n hn h1 h2
theorem cf_nrg1 {x lo hi : Int32} (h : x < lo) : ¬ cf_rg x lo hi := fun q => absurd q.1 (Int32.not_le.mpr h)
theorem cf_nrg2 {x lo hi : Int32} (h : ¬ x ≤ hi) : ¬ cf_rg x lo hi := fun q => h q.2
theorem cf_rg_of {x lo hi : Int32} (h1 : ¬ x < lo) (h2 : x ≤ hi) : cf_rg x lo hi := ⟨Int32.not_lt.mp h1, h2⟩
theorem cf_nI_inj {a b : Nat} (ha : a < 2 ^ 31) (hb : b < 2 ^ 31) (h : nI a = nI b) : a = b := (nI_eq ha hb).mp h
/-- 0 .. n - 1 told by a range -/
theorem cf_rg_ix {x y : Int32} {n : Nat} (hn : n < 2 ^ 30) (hy : y = nI n - nI 1) : cf_rg x 0 y ↔ cf_ix x n := by
  subst hy
  constructor
  · rintro ⟨h1, h2⟩
    obtain ⟨j, hj, rfl⟩ := nI_of (Int32.not_lt.mpr h1)
    rw [Int32.le_iff_toInt_le, pk_sub_toInt hn (by decide), nI_toInt hj] at h2
    exact ⟨j, by omega, rfl⟩
  · rintro ⟨j, hj, rfl⟩
    refine ⟨nI_pos' (by omega), ?_⟩
    rw [Int32.le_iff_toInt_le, pk_sub_toInt hn (by decide), nI_toInt (by omega)]
    omega
/-- codes of a call: which of its conditions failed first -/
def cf_cd1 (k : Int32) (a : Prop) : Prop := (k = 1 ∧ ¬ a) ∨ (k = 0 ∧ a)
def cf_cd2 (k : Int32) (a b : Prop) : Prop := (k = 1 ∧ ¬ a) ∨ (k = 2 ∧ a ∧ ¬ b) ∨ (k = 0 ∧ a ∧ b)
def cf_cd3 (k : Int32) (a b c : Prop) : Prop := (k = 1 ∧ ¬ a) ∨ (k = 2 ∧ a ∧ ¬ b) ∨ (k = 3 ∧ a ∧ b ∧ ¬ c) ∨ (k = 0 ∧ a ∧ b ∧ c)
theorem cf_cd1_one {k k2 : Int32} {a : Prop} (h : cf_cd1 k a) (h2 : cf_cd1 k2 a) : k = k2 := by
  rcases h with ⟨rfl, h⟩ | ⟨rfl, h⟩ <;> rcases h2 with ⟨rfl, h2⟩ | ⟨rfl, h2⟩ <;> first | rfl | exact absurd ‹a› ‹¬ a›
theorem cf_cd2_one {k k2 : Int32} {a b : Prop} (h : cf_cd2 k a b) (h2 : cf_cd2 k2 a b) : k = k2 := by
  rcases h with ⟨rfl, h⟩ | ⟨rfl, h, h'⟩ | ⟨rfl, h, h'⟩ <;> rcases h2 with ⟨rfl, h2⟩ | ⟨rfl, h2, h2'⟩ | ⟨rfl, h2, h2'⟩ <;> first | rfl | exact absurd ‹a› ‹¬ a› | exact absurd ‹b› ‹¬ b›
theorem cf_cd3_one {k k2 : Int32} {a b c : Prop} (h : cf_cd3 k a b c) (h2 : cf_cd3 k2 a b c) : k = k2 := by
  rcases h with ⟨rfl, h⟩ | ⟨rfl, h, h'⟩ | ⟨rfl, h, h', h''⟩ | ⟨rfl, h, h', h''⟩ <;> rcases h2 with ⟨rfl, h2⟩ | ⟨rfl, h2, h2'⟩ | ⟨rfl, h2, h2', h2''⟩ | ⟨rfl, h2, h2', h2''⟩ <;> first | rfl | exact absurd ‹a› ‹¬ a› | exact absurd ‹b› ‹¬ b› | exact absurd ‹c› ‹¬ c›
/-! one number, one pointer of the state changed -/
def cf_s3 (S : cf_S) (k i j : Nat) (v : Int32) : cf_S := cf_g2 S k i (upd (S k i) j v)
def cf_p3 (P : cf_Pt) (k i j : Nat) (v : Nat) : cf_Pt := cf_g2 P k i (cf_u (P k i) j v)
theorem cf_s3s {S : cf_S} {k i j : Nat} {v : Int32} : cf_s3 S k i j v k i j = v := by simp [cf_s3, cf_g2, upd]
theorem cf_s3n {S : cf_S} {k i j a b c : Nat} {v : Int32} (h : ¬ (a = k ∧ b = i ∧ c = j)) : cf_s3 S k i j v a b c = S a b c := by
  by_cases h1 : a = k ∧ b = i
  · obtain ⟨rfl, rfl⟩ := h1
    have hc : c ≠ j := fun q => h ⟨rfl, rfl, q⟩
    simp [cf_s3, cf_g2, upd, hc]
  · simp [cf_s3, cf_g2, h1]
theorem cf_p3s {P : cf_Pt} {k i j v : Nat} : cf_p3 P k i j v k i j = v := by simp [cf_p3, cf_g2, cf_u]
theorem cf_p3n {P : cf_Pt} {k i j a b c v : Nat} (h : ¬ (a = k ∧ b = i ∧ c = j)) : cf_p3 P k i j v a b c = P a b c := by
  by_cases h1 : a = k ∧ b = i
  · obtain ⟨rfl, rfl⟩ := h1
    have hc : c ≠ j := fun q => h ⟨rfl, rfl, q⟩
    simp [cf_p3, cf_g2, cf_u, hc]
  · simp [cf_p3, cf_g2, h1]
section
variable {cT : Nat → ClassId} {nc ng : Nat} {S : cf_S} {P : cf_Pt} {O : Nat → Int64} {ad : cf_Ad}
theorem cf_up14 {j n : Nat} : cf_g2 (cf_E cT nc ng S P O ad) 14 0 (some (.inl (cT 6, 15, .inr (.inr (.inr (.inr (va_up (cf_rw (ad 0) (P 14 0)) j (some (ad 0 n))))))))) = cf_E cT nc ng S (cf_p3 P 14 0 j (n + 1)) O ad := by
  rw [cf_rwU]; exact cf_upP 14 0 _ rfl
theorem cf_up15 {j n : Nat} : cf_g2 (cf_E cT nc ng S P O ad) 15 0 (some (.inl (cT 7, 60, .inr (.inr (.inr (.inr (va_up (cf_rw (ad 2) (P 15 0)) j (some (ad 2 n))))))))) = cf_E cT nc ng S (cf_p3 P 15 0 j (n + 1)) O ad := by
  rw [cf_rwU]; exact cf_upP 15 0 _ rfl
theorem cf_up16 {j n : Nat} : cf_g2 (cf_E cT nc ng S P O ad) 16 0 (some (.inl (cT 6, 6, .inr (.inr (.inr (.inr (va_up (cf_rw (ad 0) (P 16 0)) j (some (ad 0 n))))))))) = cf_E cT nc ng S (cf_p3 P 16 0 j (n + 1)) O ad := by
  rw [cf_rwU]; exact cf_upP 16 0 _ rfl
theorem cf_up15N {j : Nat} : cf_g2 (cf_E cT nc ng S P O ad) 15 0 (some (.inl (cT 7, 60, .inr (.inr (.inr (.inr (va_up (cf_rw (ad 2) (P 15 0)) j none))))))) = cf_E cT nc ng S (cf_p3 P 15 0 j 0) O ad := by
  rw [cf_rwN]; exact cf_upP 15 0 _ rfl
theorem cf_up16N {j : Nat} : cf_g2 (cf_E cT nc ng S P O ad) 16 0 (some (.inl (cT 6, 6, .inr (.inr (.inr (.inr (va_up (cf_rw (ad 0) (P 16 0)) j none))))))) = cf_E cT nc ng S (cf_p3 P 16 0 j 0) O ad := by
  rw [cf_rwN]; exact cf_upP 16 0 _ rfl
end
/-! which exception, by the first condition that failed -/
def cf_x1 (a : Prop) : String → Prop := fun e => e = cf_iob ∧ ¬ a
def cf_x2 (a : Prop) : String → Prop := fun e => e = cf_iae ∧ ¬ a
def cf_x12 (a b : Prop) : String → Prop := fun e => (e = cf_iob ∧ ¬ a) ∨ (e = cf_iae ∧ a ∧ ¬ b)
def cf_x13 (a b : Prop) : String → Prop := fun e => (e = cf_iob ∧ ¬ a) ∨ (e = cf_ise ∧ a ∧ ¬ b)
def cf_x23 (a b : Prop) : String → Prop := fun e => (e = cf_iae ∧ ¬ a) ∨ (e = cf_ise ∧ a ∧ ¬ b)
def cf_x123 (a b c : Prop) : String → Prop := fun e => (e = cf_iob ∧ ¬ a) ∨ (e = cf_iae ∧ a ∧ ¬ b) ∨ (e = cf_ise ∧ a ∧ b ∧ ¬ c)
theorem cf_B.iff {r : Int32} {a b : Prop} (h : cf_B r a) (e : a ↔ b) : cf_B r b := by
  rcases h with ⟨h1, h2⟩ | ⟨h1, h2⟩
  · exact Or.inl ⟨h1, e.mp h2⟩
  · exact Or.inr ⟨h1, fun q => h2 (e.mpr q)⟩
end
section
set_option maxHeartbeats 4000000 in
set_option maxRecDepth 100000 in
/-- what a part is worth -/
theorem c_X5_worthOfPart (l : Launch) (D : va_G) (cT : Nat → ClassId) (z : Nat) (ad : cf_Ad) (E : cf_T) (x : Int32)  : Met l yX5_worthOfPart wsX5_worthOfPart ({ frames := 0, cells := 0, slots := 0, locals := 0 }) (va_Pc [.int x] (cf_P D cT z E ad)) (cf_Qi D z (fun (r : Int32) (_ : Unit) => r = 100 * (x + 1)) (fun _ => E) (fun _ => ad)) 0 0 (fun q => z ≤ q) := by
  refine Met.ofW (cc := cX5_worthOfPart) (maxL := 1) (ret := (some .int)) (by decide) rfl ?_
  intro p e s m args below meth c s₁ B hml hv
  obtain ⟨rfl, hW, hT⟩ := hv
  have hx := B.exec
  have hb := B.bytes
  have hr := B.returns
  have hts := atoms_spec (ws := wsX5_worthOfPart) B.pre
  have hown : s.vm.findClass RX5 = some m.cls := findClass_of_methodNamed B.named
  have hlocks := B.notSynchronized
  have hS : va_S (fun q => z ≤ q) s.heap s.heap [] := va_S.rf
  have hl := lv_entry ([.int x]) (n := 1) (Nat.le_of_ble_eq_true rfl)
  rw [lg_entry_eq]
  generalize (lg_sl ([.int x]) ++ List.replicate (1 - (lg_sl ([.int x])).length) Slot.unset).toArray = ls at hl ⊢
  have hl : lv_has ls 1 [(0, .int x)] := hl
  skip
  refine lv_bipush (v := 100) hx hb dX5_worthOfPart_0 (by decide) ?_
  refine lv_iload_n hx hb dX5_worthOfPart_2 rfl (lv_at hl 0 rfl) ?_
  refine lv_iconst (v := 1) hx hb dX5_worthOfPart_3 (by decide) ?_
  refine lv_iadd hx hb dX5_worthOfPart_4 ?_
  refine lv_imul hx hb dX5_worthOfPart_5 ?_
  exact W.iret (v := (100 * (x + 1))) hx hb hr (fun t9 ht9 hw9 => ⟨⟨(100 * (x + 1)), (), rfl, rfl, cf_W.re ht9 hW⟩, hS.F ht9⟩) hS.2.2 dX5_worthOfPart_6
set_option maxHeartbeats 4000000 in
set_option maxRecDepth 100000 in
/-- a number below a bound, or IndexOutOfBoundsException -/
theorem c_X5_checkNumber (l : Launch) (D : va_G) (cT : Nat → ClassId) (z : Nat) (ad : cf_Ad) (E : cf_T) (x y : Int32) (n : Nat) (hn : n < 2 ^ 31) (hy : y = nI n) (hl0 : l.stackTraces = false)  : vx_Met l yX5_checkNumber wsX5_checkNumber ({ frames := 6, cells := 1, slots := 6, locals := 82 }) (va_Pc [.int x, .int y] (cf_P D cT z E ad)) (cf_Qv D z (fun (_ : Unit) => cf_ix x n) (fun _ => E) (fun _ => ad)) (cf_X D z E ad (fun e => e = cf_iob ∧ ¬ cf_ix x n)) 1 6 (fun q => z ≤ q) := by
  refine vx_ofW (cc := cX5_checkNumber) (maxL := 2) (ret := none) (by decide) rfl ?_
  intro p e s m args below meth c s₁ B hml htab hv
  obtain ⟨rfl, hW, hT⟩ := hv
  have hx := B.exec
  have hb := B.bytes
  have hr := B.returns
  have hts := atoms_spec (ws := wsX5_checkNumber) B.pre
  have hown : s.vm.findClass RX5 = some m.cls := findClass_of_methodNamed B.named
  have hlocks := B.notSynchronized
  have hS : va_S (fun q => z ≤ q) s.heap s.heap [] := va_S.rf
  have hl := lv_entry ([.int x, .int y]) (n := 2) (Nat.le_of_ble_eq_true rfl)
  rw [lg_entry_eq]
  generalize (lg_sl ([.int x, .int y]) ++ List.replicate (2 - (lg_sl ([.int x, .int y])).length) Slot.unset).toArray = ls at hl ⊢
  have hl : lv_has ls 2 [(0, .int x), (1, .int y)] := hl
  skip
  refine lv_iload_n hx hb dX5_checkNumber_0 rfl (lv_at hl 0 rfl) ?_
  refine lv_if_lt (tgt := 9) hx hb dX5_checkNumber_1 (by decide) (fun c1_1 => ?_) (fun c1_1 => ?_)
  · exact cf_throw (text := "there is no such number") hx hb hl0 hown (by decide +kernel) (hts (.classLink RX5 211 "java/lang/IndexOutOfBoundsException") (List.mem_of_getElem? (i := 1) rfl)) (hts (.initialized "java/lang/IndexOutOfBoundsException") (List.mem_of_getElem? (i := 2) rfl)) (List.mem_of_getElem? (i := 0) rfl) (List.mem_of_getElem? (i := 0) rfl) (fun w h => hts w (List.mem_cons_of_mem _ (List.mem_append_right _ (h)))) cf_ng_iob cf_gd_iob hT hW hS (hl.1.trans hml.symm) dX5_checkNumber_9 dX5_checkNumber_12 dX5_checkNumber_13 dX5_checkNumber_15 dX5_checkNumber_18 htab (by decide) hlocks ⟨rfl, cf_nix1 hn c1_1⟩ (by decide)
  · refine lv_iload_n hx hb dX5_checkNumber_4 rfl (lv_at hl 0 rfl) ?_
    refine lv_iload_n hx hb dX5_checkNumber_5 rfl (lv_at hl 1 rfl) ?_
    refine lv_icmp_lt (tgt := 19) hx hb dX5_checkNumber_6 (by decide) (fun c6_2 => ?_) (fun c6_2 => ?_)
    · refine vx_ret ?_
      refine W.widen (k := 1) (n := 6) (by omega) (by omega) ?_
      exact W.vret hx hb hr (fun t9 ht9 hw9 => ⟨⟨(), rfl, cf_ix_of hn hy c1_1 c6_2, cf_W.re ht9 hW⟩, hS.F ht9⟩) hS.2.2 dX5_checkNumber_19
    · exact cf_throw (text := "there is no such number") hx hb hl0 hown (by decide +kernel) (hts (.classLink RX5 211 "java/lang/IndexOutOfBoundsException") (List.mem_of_getElem? (i := 1) rfl)) (hts (.initialized "java/lang/IndexOutOfBoundsException") (List.mem_of_getElem? (i := 2) rfl)) (List.mem_of_getElem? (i := 0) rfl) (List.mem_of_getElem? (i := 0) rfl) (fun w h => hts w (List.mem_cons_of_mem _ (List.mem_append_right _ (h)))) cf_ng_iob cf_gd_iob hT hW hS (hl.1.trans hml.symm) dX5_checkNumber_9 dX5_checkNumber_12 dX5_checkNumber_13 dX5_checkNumber_15 dX5_checkNumber_18 htab (by decide) hlocks ⟨rfl, cf_nix2 hn hy c6_2⟩ (by decide)
set_option maxHeartbeats 4000000 in
set_option maxRecDepth 100000 in
/-- a value within a range, or IllegalArgumentException -/
theorem c_X5_checkRange (l : Launch) (D : va_G) (cT : Nat → ClassId) (z : Nat) (ad : cf_Ad) (E : cf_T) (x lo hi : Int32) (hl0 : l.stackTraces = false)  : vx_Met l yX5_checkRange wsX5_checkRange ({ frames := 6, cells := 1, slots := 6, locals := 82 }) (va_Pc [.int x, .int lo, .int hi] (cf_P D cT z E ad)) (cf_Qv D z (fun (_ : Unit) => cf_rg x lo hi) (fun _ => E) (fun _ => ad)) (cf_X D z E ad (fun e => e = cf_iae ∧ ¬ cf_rg x lo hi)) 1 6 (fun q => z ≤ q) := by
  refine vx_ofW (cc := cX5_checkRange) (maxL := 3) (ret := none) (by decide) rfl ?_
  intro p e s m args below meth c s₁ B hml htab hv
  obtain ⟨rfl, hW, hT⟩ := hv
  have hx := B.exec
  have hb := B.bytes
  have hr := B.returns
  have hts := atoms_spec (ws := wsX5_checkRange) B.pre
  have hown : s.vm.findClass RX5 = some m.cls := findClass_of_methodNamed B.named
  have hlocks := B.notSynchronized
  have hS : va_S (fun q => z ≤ q) s.heap s.heap [] := va_S.rf
  have hl := lv_entry ([.int x, .int lo, .int hi]) (n := 3) (Nat.le_of_ble_eq_true rfl)
  rw [lg_entry_eq]
  generalize (lg_sl ([.int x, .int lo, .int hi]) ++ List.replicate (3 - (lg_sl ([.int x, .int lo, .int hi])).length) Slot.unset).toArray = ls at hl ⊢
  have hl : lv_has ls 3 [(0, .int x), (1, .int lo), (2, .int hi)] := hl
  skip
  refine lv_iload_n hx hb dX5_checkRange_0 rfl (lv_at hl 0 rfl) ?_
  refine lv_iload_n hx hb dX5_checkRange_1 rfl (lv_at hl 1 rfl) ?_
  refine lv_icmp_lt (tgt := 10) hx hb dX5_checkRange_2 (by decide) (fun c2_1 => ?_) (fun c2_1 => ?_)
  · exact cf_throw (text := "an argument is out of range") hx hb hl0 hown (by decide +kernel) (hts (.classLink RX5 118 "java/lang/IllegalArgumentException") (List.mem_of_getElem? (i := 1) rfl)) (hts (.initialized "java/lang/IllegalArgumentException") (List.mem_of_getElem? (i := 2) rfl)) (List.mem_of_getElem? (i := 1) rfl) (List.mem_of_getElem? (i := 1) rfl) (fun w h => hts w (List.mem_cons_of_mem _ (List.mem_append_right _ (h)))) cf_ng_iae cf_gd_iae hT hW hS (hl.1.trans hml.symm) dX5_checkRange_10 dX5_checkRange_13 dX5_checkRange_14 dX5_checkRange_16 dX5_checkRange_19 htab (by decide) hlocks ⟨rfl, cf_nrg1 c2_1⟩ (by decide)
  · refine lv_iload_n hx hb dX5_checkRange_5 rfl (lv_at hl 0 rfl) ?_
    refine lv_iload_n hx hb dX5_checkRange_6 rfl (lv_at hl 2 rfl) ?_
    refine lv_icmp_le (tgt := 20) hx hb dX5_checkRange_7 (by decide) (fun c7_2 => ?_) (fun c7_2 => ?_)
    · refine vx_ret ?_
      refine W.widen (k := 1) (n := 6) (by omega) (by omega) ?_
      exact W.vret hx hb hr (fun t9 ht9 hw9 => ⟨⟨(), rfl, cf_rg_of c2_1 c7_2, cf_W.re ht9 hW⟩, hS.F ht9⟩) hS.2.2 dX5_checkRange_20
    · exact cf_throw (text := "an argument is out of range") hx hb hl0 hown (by decide +kernel) (hts (.classLink RX5 118 "java/lang/IllegalArgumentException") (List.mem_of_getElem? (i := 1) rfl)) (hts (.initialized "java/lang/IllegalArgumentException") (List.mem_of_getElem? (i := 2) rfl)) (List.mem_of_getElem? (i := 1) rfl) (List.mem_of_getElem? (i := 1) rfl) (fun w h => hts w (List.mem_cons_of_mem _ (List.mem_append_right _ (h)))) cf_ng_iae cf_gd_iae hT hW hS (hl.1.trans hml.symm) dX5_checkRange_10 dX5_checkRange_13 dX5_checkRange_14 dX5_checkRange_16 dX5_checkRange_19 htab (by decide) hlocks ⟨rfl, cf_nrg2 c7_2⟩ (by decide)
set_option maxHeartbeats 4000000 in
set_option maxRecDepth 100000 in
/-- is the game for so many people -/
theorem c_X1_isFor (l : Launch) (D : va_G) (cT : Nat → ClassId) (z : Nat) (ad : cf_Ad) (nc ng : Nat) (S : cf_S) (P : cf_Pt) (O : Nat → Int64) {g : Nat} (hg : g < 5) (x : Int32) : Met l yX1_isFor wsX1_isFor ({ frames := 0, cells := 0, slots := 0, locals := 0 }) (va_Pc [.ref (ad 1 g), .int x] (cf_P D cT z (cf_E cT nc ng S P O ad) ad)) (cf_Qi D z (fun (r : Int32) (_ : Unit) => cf_B r (¬ x < S 1 g 0 ∧ ¬ S 1 g 1 < x)) (fun _ => (cf_E cT nc ng S P O ad)) (fun _ => ad)) 0 0 (fun q => z ≤ q) := by
  refine Met.ofW (cc := cX1_isFor) (maxL := 2) (ret := (some .boolean)) (by decide) rfl ?_
  intro p e s m args below meth c s₁ B hml hv
  obtain ⟨rfl, hW, hT⟩ := hv
  have hx := B.exec
  have hb := B.bytes
  have hr := B.returns
  have hts := atoms_spec (ws := wsX1_isFor) B.pre
  have hown : s.vm.findClass RX1 = some m.cls := findClass_of_methodNamed B.named
  have hlocks := B.notSynchronized
  have hS : va_S (fun q => z ≤ q) s.heap s.heap [] := va_S.rf
  have hl := lv_entry ([.ref (ad 1 g), .int x]) (n := 2) (Nat.le_of_ble_eq_true rfl)
  rw [lg_entry_eq]
  generalize (lg_sl ([.ref (ad 1 g), .int x]) ++ List.replicate (2 - (lg_sl ([.ref (ad 1 g), .int x])).length) Slot.unset).toArray = ls at hl ⊢
  have hl : lv_has ls 2 [(0, .ref (ad 1 g)), (1, .int x)] := hl
  skip
  refine lv_aload_n hx hb dX1_isFor_0 rfl (lv_at hl 0 rfl) ?_
  refine cf_get (v := .int (S 1 g 0)) (ci := 1) (C := RX1) (T := TX1) (N := 6) hx hb hts (fun _ h => List.mem_cons_of_mem _ (List.mem_append_right _ (h))) hown hT.1 hW (cf_e1 hg) rfl 0 (by decide) (hts (.fieldLink RX1 7 "GameCafe$Game" "least" "I") (List.mem_of_getElem? (i := 1) rfl)) (fun _ h9 => h9) rfl dX1_isFor_1 ?_
  refine lv_iload_n hx hb dX1_isFor_4 rfl (lv_at hl 1 rfl) ?_
  refine lv_icmp_gt (tgt := 20) hx hb dX1_isFor_5 (by decide) (fun c5_1 => ?_) (fun c5_1 => ?_)
  · refine lv_iconst (v := 0) hx hb dX1_isFor_20 (by decide) ?_
    exact W.zret (v := 0) (ty := .boolean) hx hb hr (by rfl) (fun t9 ht9 hw9 => ⟨⟨0, (), rfl, Or.inr ⟨rfl, fun q => q.1 c5_1⟩, cf_W.re ht9 hW⟩, hS.F ht9⟩) hS.2.2 dX1_isFor_21
  · refine lv_iload_n hx hb dX1_isFor_8 rfl (lv_at hl 1 rfl) ?_
    refine lv_aload_n hx hb dX1_isFor_9 rfl (lv_at hl 0 rfl) ?_
    refine cf_get (v := .int (S 1 g 1)) (ci := 1) (C := RX1) (T := TX1) (N := 6) hx hb hts (fun _ h => List.mem_cons_of_mem _ (List.mem_append_right _ (h))) hown hT.1 hW (cf_e1 hg) rfl 1 (by decide) (hts (.fieldLink RX1 13 "GameCafe$Game" "most" "I") (List.mem_of_getElem? (i := 2) rfl)) (fun _ h9 => h9) rfl dX1_isFor_10 ?_
    refine lv_icmp_gt (tgt := 20) hx hb dX1_isFor_13 (by decide) (fun c13_2 => ?_) (fun c13_2 => ?_)
    · refine lv_iconst (v := 0) hx hb dX1_isFor_20 (by decide) ?_
      exact W.zret (v := 0) (ty := .boolean) hx hb hr (by rfl) (fun t9 ht9 hw9 => ⟨⟨0, (), rfl, Or.inr ⟨rfl, fun q => q.2 c13_2⟩, cf_W.re ht9 hW⟩, hS.F ht9⟩) hS.2.2 dX1_isFor_21
    · refine lv_iconst (v := 1) hx hb dX1_isFor_16 (by decide) ?_
      refine lv_goto (tgt := 21) hx hb dX1_isFor_17 (by decide) ?_
      exact W.zret (v := 1) (ty := .boolean) hx hb hr (by rfl) (fun t9 ht9 hw9 => ⟨⟨1, (), rfl, Or.inl ⟨rfl, c5_1, c13_2⟩, cf_W.re ht9 hW⟩, hS.F ht9⟩) hS.2.2 dX1_isFor_21
end
section
/-- x is a group that has not gone -/
def cf_lv (P : cf_Pt) (x : Int32) : Prop := ∃ j : Nat, j < 60 ∧ x = nI j ∧ P 15 0 j ≠ 0
theorem cf_far1 {x : Int32} {nc : Nat} (hnc : nc ≤ 15) (h : x < 0) : ¬ cf_ix x nc := cf_nix1 (by omega) h
theorem cf_far2 {x : Int32} {nc : Nat} (hnc : nc ≤ 15) (h : 15 ≤ x) : ¬ cf_ix x nc := by
  rintro ⟨j, hj, rfl⟩
  exact absurd h (nI_ge (a := j) (b := 15) (by omega) (by decide))
theorem cf_far3 {x : Int32} {j nc : Nat} (hj : j < 15) (hx : x = nI j) (hnc : nc ≤ 15) (hin : ¬ j < nc) : ¬ cf_ix x nc := by
  rintro ⟨i, hi, h⟩
  have := cf_nI_inj (by omega) (by omega) (hx.symm.trans h)
  omega
theorem cf_farG1 {x : Int32} {P : cf_Pt} (h : x < 0) : ¬ cf_lv P x := by
  rintro ⟨j, hj, rfl, -⟩
  exact nI_pos (by omega) h
theorem cf_farG2 {x : Int32} {P : cf_Pt} (h : 60 ≤ x) : ¬ cf_lv P x := by
  rintro ⟨j, hj, rfl, -⟩
  exact absurd h (nI_ge (a := j) (b := 60) (by omega) (by decide))
theorem cf_farG3 {x : Int32} {j : Nat} {P : cf_Pt} (hj : j < 60) (hx : x = nI j) (h0 : P 15 0 j = 0) : ¬ cf_lv P x := by
  rintro ⟨i, hi, h, h2⟩
  have := cf_nI_inj (by omega) (by omega) (hx.symm.trans h)
  subst this
  exact h2 h0
def cf_worth (h : Nat → Int32) : Int32 := 0 + h 0 * (100 * (0 + 1)) + h 1 * (100 * (1 + 1)) + h 2 * (100 * (2 + 1)) + h 3 * (100 * (3 + 1))
/-- a table that is free and has seats enough -/
def cf_okT (S : cf_S) (x : Int32) : Nat → Bool := fun u => decide (S 3 u 1 = -1) && !decide (S 3 u 0 < x)
def cf_ltT (S : cf_S) : Nat → Nat → Bool := fun u t => decide (S 3 u 0 < S 3 t 0)
theorem cf_okT_of {S : cf_S} {x : Int32} {u : Nat} (h1 : S 3 u 1 = -1) (h2 : ¬ S 3 u 0 < x) : cf_okT S x u = true := by

  simp [cf_okT, h1, h2]
set_option maxHeartbeats 4000000 in
set_option maxRecDepth 100000 in
/-- can the copy be played -/
theorem c_X0_isPlayable (l : Launch) (D : va_G) (cT : Nat → ClassId) (z : Nat) (ad : cf_Ad) (nc ng : Nat) (S : cf_S) (P : cf_Pt) (O : Nat → Int64) {cp : Nat} (hc : cp < nc) (hg : P 0 cp 0 < 5) : Met l yX0_isPlayable wsX0_isPlayable ({ frames := 0, cells := 0, slots := 0, locals := 0 }) (va_Pc [.ref (ad 0 cp)] (cf_P D cT z (cf_E cT nc ng S P O ad) ad)) (cf_Qi D z (fun (r : Int32) (_ : Unit) => cf_B r (cf_play (S 7 cp) (S 9 (P 0 cp 0)))) (fun _ => (cf_E cT nc ng S P O ad)) (fun _ => ad)) 0 0 (fun q => z ≤ q) := by
  refine Met.ofW (cc := cX0_isPlayable) (maxL := 2) (ret := (some .boolean)) (by decide) rfl ?_
  intro p e s m args below meth c s₁ B hml hv
  obtain ⟨rfl, hW, hT⟩ := hv
  have hx := B.exec
  have hb := B.bytes
  have hr := B.returns
  have hts := atoms_spec (ws := wsX0_isPlayable) B.pre
  have hown : s.vm.findClass RX0 = some m.cls := findClass_of_methodNamed B.named
  have hlocks := B.notSynchronized
  have hS : va_S (fun q => z ≤ q) s.heap s.heap [] := va_S.rf
  have hl := lv_entry ([.ref (ad 0 cp)]) (n := 2) (Nat.le_of_ble_eq_true rfl)
  rw [lg_entry_eq]
  generalize (lg_sl ([.ref (ad 0 cp)]) ++ List.replicate (2 - (lg_sl ([.ref (ad 0 cp)])).length) Slot.unset).toArray = ls at hl ⊢
  have hl : lv_has ls 2 [(0, .ref (ad 0 cp))] := hl
  skip
  refine lv_iconst (v := 0) hx hb dX0_isPlayable_0 (by decide) ?_
  refine lv_istore_n (lv' := [(1, .int 0), (0, .ref (ad 0 cp))]) hx hb dX0_isPlayable_1 rfl hl (by decide) rfl (fun ls hl => ?_)
  refine lv_iload_n hx hb dX0_isPlayable_2 rfl (lv_at hl 0 rfl) ?_
  refine lv_iconst (v := 4) hx hb dX0_isPlayable_3 (by decide) ?_
  refine lv_icmp_ge (tgt := 33) hx hb dX0_isPlayable_4 (by decide) (fun c4_1 => absurd c4_1 (by decide)) (fun c4_1 => ?_)
  refine lv_aload_n hx hb dX0_isPlayable_7 rfl (lv_at hl 1 rfl) ?_
  refine cf_get (v := .ref (ad 7 cp)) (ci := 0) (C := RX0) (T := TX0) (N := 4) hx hb hts (fun _ h => List.mem_cons_of_mem _ (List.mem_append_left _ (List.mem_append_right _ (h)))) hown hT.1 hW (cf_e0 hc) rfl 2 (by decide) (hts (.fieldLink RX0 33 "GameCafe$Copy" "has" "[I") (List.mem_of_getElem? (i := 1) rfl)) (fun _ h9 => h9) rfl dX0_isPlayable_8 ?_
  refine lv_iload_n hx hb dX0_isPlayable_11 rfl (lv_at hl 0 rfl) ?_
  refine cf_ildN (t0 := 0) (n := 4) (f := S 7 cp) (v := (S 7 cp 0)) hx hb hT.1 hW (cf_e7 hc) rfl 0 rfl (by decide) (by decide) dX0_isPlayable_12 rfl ?_
  refine lv_aload_n hx hb dX0_isPlayable_13 rfl (lv_at hl 1 rfl) ?_
  refine cf_get (v := .ref (ad 1 (P 0 cp 0))) (ci := 0) (C := RX0) (T := TX0) (N := 4) hx hb hts (fun _ h => List.mem_cons_of_mem _ (List.mem_append_left _ (List.mem_append_right _ (h)))) hown hT.1 hW (cf_e0 hc) rfl 1 (by decide) (hts (.fieldLink RX0 18 "GameCafe$Copy" "game" "LGameCafe$Game;") (List.mem_of_getElem? (i := 2) rfl)) (fun _ h9 => h9) rfl dX0_isPlayable_14 ?_
  refine cf_get (v := .ref (ad 9 (P 0 cp 0))) (ci := 1) (C := RX1) (T := TX1) (N := 6) hx hb hts (fun _ h => List.mem_cons_of_mem _ (List.mem_append_right _ (h))) hown hT.1 hW (cf_e1 hg) rfl 5 (by decide) (hts (.fieldLink RX0 36 "GameCafe$Game" "need" "[I") (List.mem_of_getElem? (i := 3) rfl)) (fun _ h9 => h9) rfl dX0_isPlayable_17 ?_
  refine lv_iload_n hx hb dX0_isPlayable_20 rfl (lv_at hl 0 rfl) ?_
  refine cf_ildN (t0 := 0) (n := 4) (f := S 9 (P 0 cp 0)) (v := (S 9 (P 0 cp 0) 0)) hx hb hT.1 hW (cf_e9 hg) rfl 0 rfl (by decide) (by decide) dX0_isPlayable_21 rfl ?_
  refine lv_icmp_ge (tgt := 27) hx hb dX0_isPlayable_22 (by decide) (fun c22_2 => ?_) (fun c22_2 => ?_)
  · refine lv_iinc (v := 1) (lv' := [(1, .int 1), (0, .ref (ad 0 cp))]) hx hb dX0_isPlayable_27 hl (k := 0) rfl (by decide) (by decide) rfl (fun ls hl => ?_)
    refine lv_goto (tgt := 2) hx hb dX0_isPlayable_30 (by decide) ?_
    refine lv_iload_n hx hb dX0_isPlayable_2 rfl (lv_at hl 0 rfl) ?_
    refine lv_iconst (v := 4) hx hb dX0_isPlayable_3 (by decide) ?_
    refine lv_icmp_ge (tgt := 33) hx hb dX0_isPlayable_4 (by decide) (fun c4_3 => absurd c4_3 (by decide)) (fun c4_3 => ?_)
    refine lv_aload_n hx hb dX0_isPlayable_7 rfl (lv_at hl 1 rfl) ?_
    refine cf_get (v := .ref (ad 7 cp)) (ci := 0) (C := RX0) (T := TX0) (N := 4) hx hb hts (fun _ h => List.mem_cons_of_mem _ (List.mem_append_left _ (List.mem_append_right _ (h)))) hown hT.1 hW (cf_e0 hc) rfl 2 (by decide) (hts (.fieldLink RX0 33 "GameCafe$Copy" "has" "[I") (List.mem_of_getElem? (i := 1) rfl)) (fun _ h9 => h9) rfl dX0_isPlayable_8 ?_
    refine lv_iload_n hx hb dX0_isPlayable_11 rfl (lv_at hl 0 rfl) ?_
    refine cf_ildN (t0 := 0) (n := 4) (f := S 7 cp) (v := (S 7 cp 1)) hx hb hT.1 hW (cf_e7 hc) rfl 1 rfl (by decide) (by decide) dX0_isPlayable_12 rfl ?_
    refine lv_aload_n hx hb dX0_isPlayable_13 rfl (lv_at hl 1 rfl) ?_
    refine cf_get (v := .ref (ad 1 (P 0 cp 0))) (ci := 0) (C := RX0) (T := TX0) (N := 4) hx hb hts (fun _ h => List.mem_cons_of_mem _ (List.mem_append_left _ (List.mem_append_right _ (h)))) hown hT.1 hW (cf_e0 hc) rfl 1 (by decide) (hts (.fieldLink RX0 18 "GameCafe$Copy" "game" "LGameCafe$Game;") (List.mem_of_getElem? (i := 2) rfl)) (fun _ h9 => h9) rfl dX0_isPlayable_14 ?_
    refine cf_get (v := .ref (ad 9 (P 0 cp 0))) (ci := 1) (C := RX1) (T := TX1) (N := 6) hx hb hts (fun _ h => List.mem_cons_of_mem _ (List.mem_append_right _ (h))) hown hT.1 hW (cf_e1 hg) rfl 5 (by decide) (hts (.fieldLink RX0 36 "GameCafe$Game" "need" "[I") (List.mem_of_getElem? (i := 3) rfl)) (fun _ h9 => h9) rfl dX0_isPlayable_17 ?_
    refine lv_iload_n hx hb dX0_isPlayable_20 rfl (lv_at hl 0 rfl) ?_
    refine cf_ildN (t0 := 0) (n := 4) (f := S 9 (P 0 cp 0)) (v := (S 9 (P 0 cp 0) 1)) hx hb hT.1 hW (cf_e9 hg) rfl 1 rfl (by decide) (by decide) dX0_isPlayable_21 rfl ?_
    refine lv_icmp_ge (tgt := 27) hx hb dX0_isPlayable_22 (by decide) (fun c22_4 => ?_) (fun c22_4 => ?_)
    · refine lv_iinc (v := 2) (lv' := [(1, .int 2), (0, .ref (ad 0 cp))]) hx hb dX0_isPlayable_27 hl (k := 0) rfl (by decide) (by decide) rfl (fun ls hl => ?_)
      refine lv_goto (tgt := 2) hx hb dX0_isPlayable_30 (by decide) ?_
      refine lv_iload_n hx hb dX0_isPlayable_2 rfl (lv_at hl 0 rfl) ?_
      refine lv_iconst (v := 4) hx hb dX0_isPlayable_3 (by decide) ?_
      refine lv_icmp_ge (tgt := 33) hx hb dX0_isPlayable_4 (by decide) (fun c4_5 => absurd c4_5 (by decide)) (fun c4_5 => ?_)
      refine lv_aload_n hx hb dX0_isPlayable_7 rfl (lv_at hl 1 rfl) ?_
      refine cf_get (v := .ref (ad 7 cp)) (ci := 0) (C := RX0) (T := TX0) (N := 4) hx hb hts (fun _ h => List.mem_cons_of_mem _ (List.mem_append_left _ (List.mem_append_right _ (h)))) hown hT.1 hW (cf_e0 hc) rfl 2 (by decide) (hts (.fieldLink RX0 33 "GameCafe$Copy" "has" "[I") (List.mem_of_getElem? (i := 1) rfl)) (fun _ h9 => h9) rfl dX0_isPlayable_8 ?_
      refine lv_iload_n hx hb dX0_isPlayable_11 rfl (lv_at hl 0 rfl) ?_
      refine cf_ildN (t0 := 0) (n := 4) (f := S 7 cp) (v := (S 7 cp 2)) hx hb hT.1 hW (cf_e7 hc) rfl 2 rfl (by decide) (by decide) dX0_isPlayable_12 rfl ?_
      refine lv_aload_n hx hb dX0_isPlayable_13 rfl (lv_at hl 1 rfl) ?_
      refine cf_get (v := .ref (ad 1 (P 0 cp 0))) (ci := 0) (C := RX0) (T := TX0) (N := 4) hx hb hts (fun _ h => List.mem_cons_of_mem _ (List.mem_append_left _ (List.mem_append_right _ (h)))) hown hT.1 hW (cf_e0 hc) rfl 1 (by decide) (hts (.fieldLink RX0 18 "GameCafe$Copy" "game" "LGameCafe$Game;") (List.mem_of_getElem? (i := 2) rfl)) (fun _ h9 => h9) rfl dX0_isPlayable_14 ?_
      refine cf_get (v := .ref (ad 9 (P 0 cp 0))) (ci := 1) (C := RX1) (T := TX1) (N := 6) hx hb hts (fun _ h => List.mem_cons_of_mem _ (List.mem_append_right _ (h))) hown hT.1 hW (cf_e1 hg) rfl 5 (by decide) (hts (.fieldLink RX0 36 "GameCafe$Game" "need" "[I") (List.mem_of_getElem? (i := 3) rfl)) (fun _ h9 => h9) rfl dX0_isPlayable_17 ?_
      refine lv_iload_n hx hb dX0_isPlayable_20 rfl (lv_at hl 0 rfl) ?_
      refine cf_ildN (t0 := 0) (n := 4) (f := S 9 (P 0 cp 0)) (v := (S 9 (P 0 cp 0) 2)) hx hb hT.1 hW (cf_e9 hg) rfl 2 rfl (by decide) (by decide) dX0_isPlayable_21 rfl ?_
      refine lv_icmp_ge (tgt := 27) hx hb dX0_isPlayable_22 (by decide) (fun c22_6 => ?_) (fun c22_6 => ?_)
      · refine lv_iinc (v := 3) (lv' := [(1, .int 3), (0, .ref (ad 0 cp))]) hx hb dX0_isPlayable_27 hl (k := 0) rfl (by decide) (by decide) rfl (fun ls hl => ?_)
        refine lv_goto (tgt := 2) hx hb dX0_isPlayable_30 (by decide) ?_
        refine lv_iload_n hx hb dX0_isPlayable_2 rfl (lv_at hl 0 rfl) ?_
        refine lv_iconst (v := 4) hx hb dX0_isPlayable_3 (by decide) ?_
        refine lv_icmp_ge (tgt := 33) hx hb dX0_isPlayable_4 (by decide) (fun c4_7 => absurd c4_7 (by decide)) (fun c4_7 => ?_)
        refine lv_aload_n hx hb dX0_isPlayable_7 rfl (lv_at hl 1 rfl) ?_
        refine cf_get (v := .ref (ad 7 cp)) (ci := 0) (C := RX0) (T := TX0) (N := 4) hx hb hts (fun _ h => List.mem_cons_of_mem _ (List.mem_append_left _ (List.mem_append_right _ (h)))) hown hT.1 hW (cf_e0 hc) rfl 2 (by decide) (hts (.fieldLink RX0 33 "GameCafe$Copy" "has" "[I") (List.mem_of_getElem? (i := 1) rfl)) (fun _ h9 => h9) rfl dX0_isPlayable_8 ?_
        refine lv_iload_n hx hb dX0_isPlayable_11 rfl (lv_at hl 0 rfl) ?_
        refine cf_ildN (t0 := 0) (n := 4) (f := S 7 cp) (v := (S 7 cp 3)) hx hb hT.1 hW (cf_e7 hc) rfl 3 rfl (by decide) (by decide) dX0_isPlayable_12 rfl ?_
        refine lv_aload_n hx hb dX0_isPlayable_13 rfl (lv_at hl 1 rfl) ?_
        refine cf_get (v := .ref (ad 1 (P 0 cp 0))) (ci := 0) (C := RX0) (T := TX0) (N := 4) hx hb hts (fun _ h => List.mem_cons_of_mem _ (List.mem_append_left _ (List.mem_append_right _ (h)))) hown hT.1 hW (cf_e0 hc) rfl 1 (by decide) (hts (.fieldLink RX0 18 "GameCafe$Copy" "game" "LGameCafe$Game;") (List.mem_of_getElem? (i := 2) rfl)) (fun _ h9 => h9) rfl dX0_isPlayable_14 ?_
        refine cf_get (v := .ref (ad 9 (P 0 cp 0))) (ci := 1) (C := RX1) (T := TX1) (N := 6) hx hb hts (fun _ h => List.mem_cons_of_mem _ (List.mem_append_right _ (h))) hown hT.1 hW (cf_e1 hg) rfl 5 (by decide) (hts (.fieldLink RX0 36 "GameCafe$Game" "need" "[I") (List.mem_of_getElem? (i := 3) rfl)) (fun _ h9 => h9) rfl dX0_isPlayable_17 ?_
        refine lv_iload_n hx hb dX0_isPlayable_20 rfl (lv_at hl 0 rfl) ?_
        refine cf_ildN (t0 := 0) (n := 4) (f := S 9 (P 0 cp 0)) (v := (S 9 (P 0 cp 0) 3)) hx hb hT.1 hW (cf_e9 hg) rfl 3 rfl (by decide) (by decide) dX0_isPlayable_21 rfl ?_
        refine lv_icmp_ge (tgt := 27) hx hb dX0_isPlayable_22 (by decide) (fun c22_8 => ?_) (fun c22_8 => ?_)
        · refine lv_iinc (v := 4) (lv' := [(1, .int 4), (0, .ref (ad 0 cp))]) hx hb dX0_isPlayable_27 hl (k := 0) rfl (by decide) (by decide) rfl (fun ls hl => ?_)
          refine lv_goto (tgt := 2) hx hb dX0_isPlayable_30 (by decide) ?_
          refine lv_iload_n hx hb dX0_isPlayable_2 rfl (lv_at hl 0 rfl) ?_
          refine lv_iconst (v := 4) hx hb dX0_isPlayable_3 (by decide) ?_
          refine lv_icmp_ge (tgt := 33) hx hb dX0_isPlayable_4 (by decide) (fun c4_9 => ?_) (fun c4_9 => absurd (by decide) c4_9)
          refine lv_iconst (v := 1) hx hb dX0_isPlayable_33 (by decide) ?_
          exact W.zret (v := 1) (ty := .boolean) hx hb hr (by rfl) (fun t9 ht9 hw9 => ⟨⟨1, (), rfl, Or.inl ⟨rfl, cf_all4 c22_2 c22_4 c22_6 c22_8⟩, cf_W.re ht9 hW⟩, hS.F ht9⟩) hS.2.2 dX0_isPlayable_34
        · refine lv_iconst (v := 0) hx hb dX0_isPlayable_25 (by decide) ?_
          exact W.zret (v := 0) (ty := .boolean) hx hb hr (by rfl) (fun t9 ht9 hw9 => ⟨⟨0, (), rfl, Or.inr ⟨rfl, fun q => c22_8 (q 3 (by decide))⟩, cf_W.re ht9 hW⟩, hS.F ht9⟩) hS.2.2 dX0_isPlayable_26
      · refine lv_iconst (v := 0) hx hb dX0_isPlayable_25 (by decide) ?_
        exact W.zret (v := 0) (ty := .boolean) hx hb hr (by rfl) (fun t9 ht9 hw9 => ⟨⟨0, (), rfl, Or.inr ⟨rfl, fun q => c22_6 (q 2 (by decide))⟩, cf_W.re ht9 hW⟩, hS.F ht9⟩) hS.2.2 dX0_isPlayable_26
    · refine lv_iconst (v := 0) hx hb dX0_isPlayable_25 (by decide) ?_
      exact W.zret (v := 0) (ty := .boolean) hx hb hr (by rfl) (fun t9 ht9 hw9 => ⟨⟨0, (), rfl, Or.inr ⟨rfl, fun q => c22_4 (q 1 (by decide))⟩, cf_W.re ht9 hW⟩, hS.F ht9⟩) hS.2.2 dX0_isPlayable_26
  · refine lv_iconst (v := 0) hx hb dX0_isPlayable_25 (by decide) ?_
    exact W.zret (v := 0) (ty := .boolean) hx hb hr (by rfl) (fun t9 ht9 hw9 => ⟨⟨0, (), rfl, Or.inr ⟨rfl, fun q => c22_2 (q 0 (by decide))⟩, cf_W.re ht9 hW⟩, hS.F ht9⟩) hS.2.2 dX0_isPlayable_26
set_option maxHeartbeats 4000000 in
set_option maxRecDepth 100000 in
/-- what all parts of the copy are worth -/
theorem c_X0_worth (l : Launch) (D : va_G) (cT : Nat → ClassId) (z : Nat) (ad : cf_Ad) (nc ng : Nat) (S : cf_S) (P : cf_Pt) (O : Nat → Int64) {cp : Nat} (hc : cp < nc) : Met l yX0_worth wsX0_worth ({ frames := 1, cells := 0, slots := 0, locals := 20 }) (va_Pc [.ref (ad 0 cp)] (cf_P D cT z (cf_E cT nc ng S P O ad) ad)) (cf_Qi D z (fun (r : Int32) (_ : Unit) => r = cf_worth (S 7 cp)) (fun _ => (cf_E cT nc ng S P O ad)) (fun _ => ad)) 0 0 (fun q => z ≤ q) := by
  refine Met.ofW (cc := cX0_worth) (maxL := 3) (ret := (some .int)) (by decide) rfl ?_
  intro p e s m args below meth c s₁ B hml hv
  obtain ⟨rfl, hW, hT⟩ := hv
  have hx := B.exec
  have hb := B.bytes
  have hr := B.returns
  have hts := atoms_spec (ws := wsX0_worth) B.pre
  have hown : s.vm.findClass RX0 = some m.cls := findClass_of_methodNamed B.named
  have hlocks := B.notSynchronized
  have hS : va_S (fun q => z ≤ q) s.heap s.heap [] := va_S.rf
  have hl := lv_entry ([.ref (ad 0 cp)]) (n := 3) (Nat.le_of_ble_eq_true rfl)
  rw [lg_entry_eq]
  generalize (lg_sl ([.ref (ad 0 cp)]) ++ List.replicate (3 - (lg_sl ([.ref (ad 0 cp)])).length) Slot.unset).toArray = ls at hl ⊢
  have hl : lv_has ls 3 [(0, .ref (ad 0 cp))] := hl
  skip
  have hnest : va_Nw (.methodLinkNest RX0 39 yX5_worthOfPart RX5) s := hT.2.2.2.1 (RX0, 39, yX5_worthOfPart, RX5) (List.mem_of_getElem? (i := 2) rfl)
  refine lv_iconst (v := 0) hx hb dX0_worth_0 (by decide) ?_
  refine lv_istore_n (lv' := [(1, .int 0), (0, .ref (ad 0 cp))]) hx hb dX0_worth_1 rfl hl (by decide) rfl (fun ls hl => ?_)
  refine lv_iconst (v := 0) hx hb dX0_worth_2 (by decide) ?_
  refine lv_istore_n (lv' := [(2, .int 0), (1, .int 0), (0, .ref (ad 0 cp))]) hx hb dX0_worth_3 rfl hl (by decide) rfl (fun ls hl => ?_)
  refine lv_iload_n hx hb dX0_worth_4 rfl (lv_at hl 0 rfl) ?_
  refine lv_iconst (v := 4) hx hb dX0_worth_5 (by decide) ?_
  refine lv_icmp_ge (tgt := 29) hx hb dX0_worth_6 (by decide) (fun c6_1 => absurd c6_1 (by decide)) (fun c6_1 => ?_)
  refine lv_iload_n hx hb dX0_worth_9 rfl (lv_at hl 1 rfl) ?_
  refine lv_aload_n hx hb dX0_worth_10 rfl (lv_at hl 2 rfl) ?_
  refine cf_get (v := .ref (ad 7 cp)) (ci := 0) (C := RX0) (T := TX0) (N := 4) hx hb hts (fun _ h => List.mem_cons_of_mem _ (List.mem_append_right _ (h))) hown hT.1 hW (cf_e0 hc) rfl 2 (by decide) (hts (.fieldLink RX0 33 "GameCafe$Copy" "has" "[I") (List.mem_of_getElem? (i := 1) rfl)) (fun _ h9 => h9) rfl dX0_worth_11 ?_
  refine lv_iload_n hx hb dX0_worth_14 rfl (lv_at hl 0 rfl) ?_
  refine cf_ildN (t0 := 0) (n := 4) (f := S 7 cp) (v := (S 7 cp 0)) hx hb hT.1 hW (cf_e7 hc) rfl 0 rfl (by decide) (by decide) dX0_worth_15 rfl ?_
  refine lv_iload_n hx hb dX0_worth_16 rfl (lv_at hl 0 rfl) ?_
  refine va_calli (va_runSN (As := [.int 0]) (rest := [.int (S 7 cp 0), .int 0]) ⟨hx, hb, hml, hown, hts⟩ (c_X5_worthOfPart l D cT z ad _ 0) ⟨va_cnB 1 hts ggX0_worth_X5_worthOfPart rfl rfl rfl hnest (hts (.initialized RX5) (List.mem_of_getElem? (i := 3) rfl)) (by decide +kernel) ⟨Nat.le_of_ble_eq_true rfl, Nat.le_of_ble_eq_true rfl⟩, (hts (.static yX5_worthOfPart) (List.mem_of_getElem? (i := 2) rfl)), trivial⟩ (cf_preS hT hS hW) rfl rfl hl.1 rfl (lv_room (Nat.le_of_ble_eq_true rfl)) dX0_worth_17 ⟨Nat.le_of_ble_eq_true rfl, Nat.le_of_ble_eq_true rfl⟩) hS (fun _ _ h => h) (fun _ h => h) (fun r2 ur2 t9 H locs ht hvm hw hW hz1 hk1 hS => ?_)
  have hW := cf_W.er ht hW
  subst hw
  refine lv_imul hx hb dX0_worth_20 ?_
  refine lv_iadd hx hb dX0_worth_21 ?_
  refine lv_istore_n (lv' := [(1, .int (0 + ((S 7 cp 0) * (100 * (0 + 1))))), (2, .int 0), (0, .ref (ad 0 cp))]) hx hb dX0_worth_22 rfl hl (by decide) rfl (fun ls hl => ?_)
  refine lv_iinc (v := 1) (lv' := [(2, .int 1), (1, .int (0 + ((S 7 cp 0) * (100 * (0 + 1))))), (0, .ref (ad 0 cp))]) hx hb dX0_worth_23 hl (k := 1) rfl (by decide) (by decide) rfl (fun ls hl => ?_)
  refine lv_goto (tgt := 4) hx hb dX0_worth_26 (by decide) ?_
  refine lv_iload_n hx hb dX0_worth_4 rfl (lv_at hl 0 rfl) ?_
  refine lv_iconst (v := 4) hx hb dX0_worth_5 (by decide) ?_
  refine lv_icmp_ge (tgt := 29) hx hb dX0_worth_6 (by decide) (fun c6_3 => absurd c6_3 (by decide)) (fun c6_3 => ?_)
  refine lv_iload_n hx hb dX0_worth_9 rfl (lv_at hl 1 rfl) ?_
  refine lv_aload_n hx hb dX0_worth_10 rfl (lv_at hl 2 rfl) ?_
  refine cf_get (v := .ref (ad 7 cp)) (ci := 0) (C := RX0) (T := TX0) (N := 4) hx hb hts (fun _ h => List.mem_cons_of_mem _ (List.mem_append_right _ (h))) hown hT.1 hW (cf_e0 hc) rfl 2 (by decide) (hts (.fieldLink RX0 33 "GameCafe$Copy" "has" "[I") (List.mem_of_getElem? (i := 1) rfl)) (fun _ h9 => h9) rfl dX0_worth_11 ?_
  refine lv_iload_n hx hb dX0_worth_14 rfl (lv_at hl 0 rfl) ?_
  refine cf_ildN (t0 := 0) (n := 4) (f := S 7 cp) (v := (S 7 cp 1)) hx hb hT.1 hW (cf_e7 hc) rfl 1 rfl (by decide) (by decide) dX0_worth_15 rfl ?_
  refine lv_iload_n hx hb dX0_worth_16 rfl (lv_at hl 0 rfl) ?_
  refine va_calli (va_runSN (As := [.int 1]) (rest := [.int (S 7 cp 1), .int (0 + ((S 7 cp 0) * (100 * (0 + 1))))]) ⟨hx, hb, hml, hown, hts⟩ (c_X5_worthOfPart l D cT z ad _ 1) ⟨va_cnB 1 hts ggX0_worth_X5_worthOfPart rfl rfl rfl hnest (hts (.initialized RX5) (List.mem_of_getElem? (i := 3) rfl)) (by decide +kernel) ⟨Nat.le_of_ble_eq_true rfl, Nat.le_of_ble_eq_true rfl⟩, (hts (.static yX5_worthOfPart) (List.mem_of_getElem? (i := 2) rfl)), trivial⟩ (cf_preS hT hS hW) rfl rfl hl.1 rfl (lv_room (Nat.le_of_ble_eq_true rfl)) dX0_worth_17 ⟨Nat.le_of_ble_eq_true rfl, Nat.le_of_ble_eq_true rfl⟩) hS (fun _ _ h => h) (fun _ h => h) (fun r4 ur4 t9 H locs ht hvm hw hW hz1 hk1 hS => ?_)
  have hW := cf_W.er ht hW
  subst hw
  refine lv_imul hx hb dX0_worth_20 ?_
  refine lv_iadd hx hb dX0_worth_21 ?_
  refine lv_istore_n (lv' := [(1, .int ((0 + ((S 7 cp 0) * (100 * (0 + 1)))) + ((S 7 cp 1) * (100 * (1 + 1))))), (2, .int 1), (0, .ref (ad 0 cp))]) hx hb dX0_worth_22 rfl hl (by decide) rfl (fun ls hl => ?_)
  refine lv_iinc (v := 2) (lv' := [(2, .int 2), (1, .int ((0 + ((S 7 cp 0) * (100 * (0 + 1)))) + ((S 7 cp 1) * (100 * (1 + 1))))), (0, .ref (ad 0 cp))]) hx hb dX0_worth_23 hl (k := 1) rfl (by decide) (by decide) rfl (fun ls hl => ?_)
  refine lv_goto (tgt := 4) hx hb dX0_worth_26 (by decide) ?_
  refine lv_iload_n hx hb dX0_worth_4 rfl (lv_at hl 0 rfl) ?_
  refine lv_iconst (v := 4) hx hb dX0_worth_5 (by decide) ?_
  refine lv_icmp_ge (tgt := 29) hx hb dX0_worth_6 (by decide) (fun c6_5 => absurd c6_5 (by decide)) (fun c6_5 => ?_)
  refine lv_iload_n hx hb dX0_worth_9 rfl (lv_at hl 1 rfl) ?_
  refine lv_aload_n hx hb dX0_worth_10 rfl (lv_at hl 2 rfl) ?_
  refine cf_get (v := .ref (ad 7 cp)) (ci := 0) (C := RX0) (T := TX0) (N := 4) hx hb hts (fun _ h => List.mem_cons_of_mem _ (List.mem_append_right _ (h))) hown hT.1 hW (cf_e0 hc) rfl 2 (by decide) (hts (.fieldLink RX0 33 "GameCafe$Copy" "has" "[I") (List.mem_of_getElem? (i := 1) rfl)) (fun _ h9 => h9) rfl dX0_worth_11 ?_
  refine lv_iload_n hx hb dX0_worth_14 rfl (lv_at hl 0 rfl) ?_
  refine cf_ildN (t0 := 0) (n := 4) (f := S 7 cp) (v := (S 7 cp 2)) hx hb hT.1 hW (cf_e7 hc) rfl 2 rfl (by decide) (by decide) dX0_worth_15 rfl ?_
  refine lv_iload_n hx hb dX0_worth_16 rfl (lv_at hl 0 rfl) ?_
  refine va_calli (va_runSN (As := [.int 2]) (rest := [.int (S 7 cp 2), .int ((0 + ((S 7 cp 0) * (100 * (0 + 1)))) + ((S 7 cp 1) * (100 * (1 + 1))))]) ⟨hx, hb, hml, hown, hts⟩ (c_X5_worthOfPart l D cT z ad _ 2) ⟨va_cnB 1 hts ggX0_worth_X5_worthOfPart rfl rfl rfl hnest (hts (.initialized RX5) (List.mem_of_getElem? (i := 3) rfl)) (by decide +kernel) ⟨Nat.le_of_ble_eq_true rfl, Nat.le_of_ble_eq_true rfl⟩, (hts (.static yX5_worthOfPart) (List.mem_of_getElem? (i := 2) rfl)), trivial⟩ (cf_preS hT hS hW) rfl rfl hl.1 rfl (lv_room (Nat.le_of_ble_eq_true rfl)) dX0_worth_17 ⟨Nat.le_of_ble_eq_true rfl, Nat.le_of_ble_eq_true rfl⟩) hS (fun _ _ h => h) (fun _ h => h) (fun r6 ur6 t9 H locs ht hvm hw hW hz1 hk1 hS => ?_)
  have hW := cf_W.er ht hW
  subst hw
  refine lv_imul hx hb dX0_worth_20 ?_
  refine lv_iadd hx hb dX0_worth_21 ?_
  refine lv_istore_n (lv' := [(1, .int (((0 + ((S 7 cp 0) * (100 * (0 + 1)))) + ((S 7 cp 1) * (100 * (1 + 1)))) + ((S 7 cp 2) * (100 * (2 + 1))))), (2, .int 2), (0, .ref (ad 0 cp))]) hx hb dX0_worth_22 rfl hl (by decide) rfl (fun ls hl => ?_)
  refine lv_iinc (v := 3) (lv' := [(2, .int 3), (1, .int (((0 + ((S 7 cp 0) * (100 * (0 + 1)))) + ((S 7 cp 1) * (100 * (1 + 1)))) + ((S 7 cp 2) * (100 * (2 + 1))))), (0, .ref (ad 0 cp))]) hx hb dX0_worth_23 hl (k := 1) rfl (by decide) (by decide) rfl (fun ls hl => ?_)
  refine lv_goto (tgt := 4) hx hb dX0_worth_26 (by decide) ?_
  refine lv_iload_n hx hb dX0_worth_4 rfl (lv_at hl 0 rfl) ?_
  refine lv_iconst (v := 4) hx hb dX0_worth_5 (by decide) ?_
  refine lv_icmp_ge (tgt := 29) hx hb dX0_worth_6 (by decide) (fun c6_7 => absurd c6_7 (by decide)) (fun c6_7 => ?_)
  refine lv_iload_n hx hb dX0_worth_9 rfl (lv_at hl 1 rfl) ?_
  refine lv_aload_n hx hb dX0_worth_10 rfl (lv_at hl 2 rfl) ?_
  refine cf_get (v := .ref (ad 7 cp)) (ci := 0) (C := RX0) (T := TX0) (N := 4) hx hb hts (fun _ h => List.mem_cons_of_mem _ (List.mem_append_right _ (h))) hown hT.1 hW (cf_e0 hc) rfl 2 (by decide) (hts (.fieldLink RX0 33 "GameCafe$Copy" "has" "[I") (List.mem_of_getElem? (i := 1) rfl)) (fun _ h9 => h9) rfl dX0_worth_11 ?_
  refine lv_iload_n hx hb dX0_worth_14 rfl (lv_at hl 0 rfl) ?_
  refine cf_ildN (t0 := 0) (n := 4) (f := S 7 cp) (v := (S 7 cp 3)) hx hb hT.1 hW (cf_e7 hc) rfl 3 rfl (by decide) (by decide) dX0_worth_15 rfl ?_
  refine lv_iload_n hx hb dX0_worth_16 rfl (lv_at hl 0 rfl) ?_
  refine va_calli (va_runSN (As := [.int 3]) (rest := [.int (S 7 cp 3), .int (((0 + ((S 7 cp 0) * (100 * (0 + 1)))) + ((S 7 cp 1) * (100 * (1 + 1)))) + ((S 7 cp 2) * (100 * (2 + 1))))]) ⟨hx, hb, hml, hown, hts⟩ (c_X5_worthOfPart l D cT z ad _ 3) ⟨va_cnB 1 hts ggX0_worth_X5_worthOfPart rfl rfl rfl hnest (hts (.initialized RX5) (List.mem_of_getElem? (i := 3) rfl)) (by decide +kernel) ⟨Nat.le_of_ble_eq_true rfl, Nat.le_of_ble_eq_true rfl⟩, (hts (.static yX5_worthOfPart) (List.mem_of_getElem? (i := 2) rfl)), trivial⟩ (cf_preS hT hS hW) rfl rfl hl.1 rfl (lv_room (Nat.le_of_ble_eq_true rfl)) dX0_worth_17 ⟨Nat.le_of_ble_eq_true rfl, Nat.le_of_ble_eq_true rfl⟩) hS (fun _ _ h => h) (fun _ h => h) (fun r8 ur8 t9 H locs ht hvm hw hW hz1 hk1 hS => ?_)
  have hW := cf_W.er ht hW
  subst hw
  refine lv_imul hx hb dX0_worth_20 ?_
  refine lv_iadd hx hb dX0_worth_21 ?_
  refine lv_istore_n (lv' := [(1, .int ((((0 + ((S 7 cp 0) * (100 * (0 + 1)))) + ((S 7 cp 1) * (100 * (1 + 1)))) + ((S 7 cp 2) * (100 * (2 + 1)))) + ((S 7 cp 3) * (100 * (3 + 1))))), (2, .int 3), (0, .ref (ad 0 cp))]) hx hb dX0_worth_22 rfl hl (by decide) rfl (fun ls hl => ?_)
  refine lv_iinc (v := 4) (lv' := [(2, .int 4), (1, .int ((((0 + ((S 7 cp 0) * (100 * (0 + 1)))) + ((S 7 cp 1) * (100 * (1 + 1)))) + ((S 7 cp 2) * (100 * (2 + 1)))) + ((S 7 cp 3) * (100 * (3 + 1))))), (0, .ref (ad 0 cp))]) hx hb dX0_worth_23 hl (k := 1) rfl (by decide) (by decide) rfl (fun ls hl => ?_)
  refine lv_goto (tgt := 4) hx hb dX0_worth_26 (by decide) ?_
  refine lv_iload_n hx hb dX0_worth_4 rfl (lv_at hl 0 rfl) ?_
  refine lv_iconst (v := 4) hx hb dX0_worth_5 (by decide) ?_
  refine lv_icmp_ge (tgt := 29) hx hb dX0_worth_6 (by decide) (fun c6_9 => ?_) (fun c6_9 => absurd (by decide) c6_9)
  refine lv_iload_n hx hb dX0_worth_29 rfl (lv_at hl 1 rfl) ?_
  exact W.iret (v := ((((0 + ((S 7 cp 0) * (100 * (0 + 1)))) + ((S 7 cp 1) * (100 * (1 + 1)))) + ((S 7 cp 2) * (100 * (2 + 1)))) + ((S 7 cp 3) * (100 * (3 + 1))))) hx hb hr (fun t9 ht9 hw9 => ⟨⟨((((0 + ((S 7 cp 0) * (100 * (0 + 1)))) + ((S 7 cp 1) * (100 * (1 + 1)))) + ((S 7 cp 2) * (100 * (2 + 1)))) + ((S 7 cp 3) * (100 * (3 + 1)))), (), rfl, rfl, cf_W.re ht9 hW⟩, hS.F ht9⟩) hS.2.2 dX0_worth_30
set_option maxHeartbeats 4000000 in
set_option maxRecDepth 100000 in
/-- the copy of a number, or IndexOutOfBoundsException -/
theorem c_X5_copyNumbered (l : Launch) (D : va_G) (cT : Nat → ClassId) (z : Nat) (ad : cf_Ad) (nc ng : Nat) (S : cf_S) (P : cf_Pt) (O : Nat → Int64) (hl0 : l.stackTraces = false) (x : Int32) (hnc : nc ≤ 15) (hO : ∀ j, j < 15 → P 14 0 j = if j < nc then j + 1 else 0) : vx_Met l yX5_copyNumbered wsX5_copyNumbered ({ frames := 6, cells := 1, slots := 6, locals := 82 }) (va_Pc [.ref (ad 5 0), .int x] (cf_P D cT z (cf_E cT nc ng S P O ad) ad)) (cf_Qq D z (fun (r : Option Nat) (_ : Unit) => ∃ j : Nat, j < nc ∧ x = nI j ∧ r = some (ad 0 j)) (fun _ => (cf_E cT nc ng S P O ad)) (fun _ => ad)) (cf_X D z (cf_E cT nc ng S P O ad) ad (fun e => e = cf_iob ∧ ¬ cf_ix x nc)) 1 6 (fun q => z ≤ q) := by
  refine vx_ofW (cc := cX5_copyNumbered) (maxL := 2) (ret := (some (.object "GameCafe$Copy"))) (by decide) rfl ?_
  intro p e s m args below meth c s₁ B hml htab hv
  obtain ⟨rfl, hW, hT⟩ := hv
  have hx := B.exec
  have hb := B.bytes
  have hr := B.returns
  have hts := atoms_spec (ws := wsX5_copyNumbered) B.pre
  have hown : s.vm.findClass RX5 = some m.cls := findClass_of_methodNamed B.named
  have hlocks := B.notSynchronized
  have hS : va_S (fun q => z ≤ q) s.heap s.heap [] := va_S.rf
  have hl := lv_entry ([.ref (ad 5 0), .int x]) (n := 2) (Nat.le_of_ble_eq_true rfl)
  rw [lg_entry_eq]
  generalize (lg_sl ([.ref (ad 5 0), .int x]) ++ List.replicate (2 - (lg_sl ([.ref (ad 5 0), .int x])).length) Slot.unset).toArray = ls at hl ⊢
  have hl : lv_has ls 2 [(0, .ref (ad 5 0)), (1, .int x)] := hl
  skip
  refine lv_iload_n hx hb dX5_copyNumbered_0 rfl (lv_at hl 1 rfl) ?_
  refine lv_if_lt (tgt := 19) hx hb dX5_copyNumbered_1 (by decide) (fun c1_1 => ?_) (fun c1_1 => ?_)
  · exact cf_throw (text := "there is no such copy") hx hb hl0 hown (by decide +kernel) (hts (.classLink RX5 211 "java/lang/IndexOutOfBoundsException") (List.mem_of_getElem? (i := 1) rfl)) (hts (.initialized "java/lang/IndexOutOfBoundsException") (List.mem_of_getElem? (i := 2) rfl)) (List.mem_of_getElem? (i := 4) rfl) (List.mem_of_getElem? (i := 0) rfl) (fun w h => hts w (List.mem_cons_of_mem _ (List.mem_append_right _ (h)))) cf_ng_iob cf_gd_iob hT hW hS (hl.1.trans hml.symm) dX5_copyNumbered_19 dX5_copyNumbered_22 dX5_copyNumbered_23 dX5_copyNumbered_25 dX5_copyNumbered_28 htab (by decide) hlocks ⟨rfl, cf_far1 hnc c1_1⟩ (by decide)
  · refine lv_iload_n hx hb dX5_copyNumbered_4 rfl (lv_at hl 1 rfl) ?_
    refine lv_bipush (v := 15) hx hb dX5_copyNumbered_5 (by decide) ?_
    refine lv_icmp_ge (tgt := 19) hx hb dX5_copyNumbered_7 (by decide) (fun c7_2 => ?_) (fun c7_2 => ?_)
    · exact cf_throw (text := "there is no such copy") hx hb hl0 hown (by decide +kernel) (hts (.classLink RX5 211 "java/lang/IndexOutOfBoundsException") (List.mem_of_getElem? (i := 1) rfl)) (hts (.initialized "java/lang/IndexOutOfBoundsException") (List.mem_of_getElem? (i := 2) rfl)) (List.mem_of_getElem? (i := 4) rfl) (List.mem_of_getElem? (i := 0) rfl) (fun w h => hts w (List.mem_cons_of_mem _ (List.mem_append_right _ (h)))) cf_ng_iob cf_gd_iob hT hW hS (hl.1.trans hml.symm) dX5_copyNumbered_19 dX5_copyNumbered_22 dX5_copyNumbered_23 dX5_copyNumbered_25 dX5_copyNumbered_28 htab (by decide) hlocks ⟨rfl, cf_far2 hnc c7_2⟩ (by decide)
    · obtain ⟨j, hj, hjx⟩ := cf_ofr x 15 (by decide) c1_1 (Int32.not_le.mp c7_2)
      by_cases hin : j < nc
      · refine lv_aload_n hx hb dX5_copyNumbered_10 rfl (lv_at hl 0 rfl) ?_
        refine cf_get (v := .ref (ad 14 0)) (ci := 5) (C := RX5) (T := TX5) (N := 9) hx hb hts (fun _ h => List.mem_cons_of_mem _ (List.mem_append_left _ (List.mem_append_right _ (h)))) hown hT.1 hW cf_e5 rfl 3 (by decide) (hts (.fieldLink RX5 29 "GameCafe" "owned" "[LGameCafe$Copy;") (List.mem_of_getElem? (i := 3) rfl)) (fun _ h9 => h9) rfl dX5_copyNumbered_11 ?_
        refine lv_iload_n hx hb dX5_copyNumbered_14 rfl (lv_at hl 1 rfl) ?_
        refine cf_aldN (t0 := 6) (C := RX0) (n := 15) (v := .ref (ad 0 j)) hx hb hT.1 hW cf_e14 rfl j hjx hj (by decide) dX5_copyNumbered_15 (cf_rwS ((hO j hj).trans (if_pos hin))) ?_
        refine lv_ifnonnull (tgt := 29) hx hb dX5_copyNumbered_16 (by decide) ?_
        refine lv_aload_n hx hb dX5_copyNumbered_29 rfl (lv_at hl 0 rfl) ?_
        refine cf_get (v := .ref (ad 14 0)) (ci := 5) (C := RX5) (T := TX5) (N := 9) hx hb hts (fun _ h => List.mem_cons_of_mem _ (List.mem_append_left _ (List.mem_append_right _ (h)))) hown hT.1 hW cf_e5 rfl 3 (by decide) (hts (.fieldLink RX5 29 "GameCafe" "owned" "[LGameCafe$Copy;") (List.mem_of_getElem? (i := 3) rfl)) (fun _ h9 => h9) rfl dX5_copyNumbered_30 ?_
        refine lv_iload_n hx hb dX5_copyNumbered_33 rfl (lv_at hl 1 rfl) ?_
        refine cf_aldN (t0 := 6) (C := RX0) (n := 15) (v := .ref (ad 0 j)) hx hb hT.1 hW cf_e14 rfl j hjx hj (by decide) dX5_copyNumbered_34 (cf_rwS ((hO j hj).trans (if_pos hin))) ?_
        refine vx_ret ?_
        refine W.widen (k := 1) (n := 6) (by omega) (by omega) ?_
        exact W.aret (v := .ref (ad 0 j)) hx hb hr (Or.inl ⟨_, rfl⟩) (Or.inr ⟨_, rfl⟩) (fun t9 ht9 hw9 => ⟨⟨(some (ad 0 j)), (), rfl, ⟨j, hin, hjx, rfl⟩, cf_W.re ht9 hW⟩, hS.F ht9⟩) hS.2.2 dX5_copyNumbered_35
      · refine lv_aload_n hx hb dX5_copyNumbered_10 rfl (lv_at hl 0 rfl) ?_
        refine cf_get (v := .ref (ad 14 0)) (ci := 5) (C := RX5) (T := TX5) (N := 9) hx hb hts (fun _ h => List.mem_cons_of_mem _ (List.mem_append_left _ (List.mem_append_right _ (h)))) hown hT.1 hW cf_e5 rfl 3 (by decide) (hts (.fieldLink RX5 29 "GameCafe" "owned" "[LGameCafe$Copy;") (List.mem_of_getElem? (i := 3) rfl)) (fun _ h9 => h9) rfl dX5_copyNumbered_11 ?_
        refine lv_iload_n hx hb dX5_copyNumbered_14 rfl (lv_at hl 1 rfl) ?_
        refine cf_aldN (t0 := 6) (C := RX0) (n := 15) (v := .null) hx hb hT.1 hW cf_e14 rfl j hjx hj (by decide) dX5_copyNumbered_15 (cf_rw0 ((hO j hj).trans (if_neg hin))) ?_
        refine lv_ifnonnullN hx hb dX5_copyNumbered_16 ?_
        exact cf_throw (text := "there is no such copy") hx hb hl0 hown (by decide +kernel) (hts (.classLink RX5 211 "java/lang/IndexOutOfBoundsException") (List.mem_of_getElem? (i := 1) rfl)) (hts (.initialized "java/lang/IndexOutOfBoundsException") (List.mem_of_getElem? (i := 2) rfl)) (List.mem_of_getElem? (i := 4) rfl) (List.mem_of_getElem? (i := 0) rfl) (fun w h => hts w (List.mem_cons_of_mem _ (List.mem_append_right _ (h)))) cf_ng_iob cf_gd_iob hT hW hS (hl.1.trans hml.symm) dX5_copyNumbered_19 dX5_copyNumbered_22 dX5_copyNumbered_23 dX5_copyNumbered_25 dX5_copyNumbered_28 htab (by decide) hlocks ⟨rfl, cf_far3 hj hjx hnc hin⟩ (by decide)
set_option maxHeartbeats 4000000 in
set_option maxRecDepth 100000 in
/-- the group of a number, or IndexOutOfBoundsException -/
theorem c_X5_groupNumbered (l : Launch) (D : va_G) (cT : Nat → ClassId) (z : Nat) (ad : cf_Ad) (nc ng : Nat) (S : cf_S) (P : cf_Pt) (O : Nat → Int64) (hl0 : l.stackTraces = false) (x : Int32) (hQ : ∀ j, j < 60 → P 15 0 j = 0 ∨ (P 15 0 j = j + 1 ∧ j < ng)) : vx_Met l yX5_groupNumbered wsX5_groupNumbered ({ frames := 6, cells := 1, slots := 6, locals := 82 }) (va_Pc [.ref (ad 5 0), .int x] (cf_P D cT z (cf_E cT nc ng S P O ad) ad)) (cf_Qq D z (fun (r : Option Nat) (_ : Unit) => ∃ j : Nat, j < 60 ∧ x = nI j ∧ P 15 0 j = j + 1 ∧ j < ng ∧ r = some (ad 2 j)) (fun _ => (cf_E cT nc ng S P O ad)) (fun _ => ad)) (cf_X D z (cf_E cT nc ng S P O ad) ad (fun e => e = cf_iob ∧ ¬ cf_lv P x)) 1 6 (fun q => z ≤ q) := by
  refine vx_ofW (cc := cX5_groupNumbered) (maxL := 2) (ret := (some (.object "GameCafe$Group"))) (by decide) rfl ?_
  intro p e s m args below meth c s₁ B hml htab hv
  obtain ⟨rfl, hW, hT⟩ := hv
  have hx := B.exec
  have hb := B.bytes
  have hr := B.returns
  have hts := atoms_spec (ws := wsX5_groupNumbered) B.pre
  have hown : s.vm.findClass RX5 = some m.cls := findClass_of_methodNamed B.named
  have hlocks := B.notSynchronized
  have hS : va_S (fun q => z ≤ q) s.heap s.heap [] := va_S.rf
  have hl := lv_entry ([.ref (ad 5 0), .int x]) (n := 2) (Nat.le_of_ble_eq_true rfl)
  rw [lg_entry_eq]
  generalize (lg_sl ([.ref (ad 5 0), .int x]) ++ List.replicate (2 - (lg_sl ([.ref (ad 5 0), .int x])).length) Slot.unset).toArray = ls at hl ⊢
  have hl : lv_has ls 2 [(0, .ref (ad 5 0)), (1, .int x)] := hl
  skip
  refine lv_iload_n hx hb dX5_groupNumbered_0 rfl (lv_at hl 1 rfl) ?_
  refine lv_if_lt (tgt := 19) hx hb dX5_groupNumbered_1 (by decide) (fun c1_1 => ?_) (fun c1_1 => ?_)
  · exact cf_throw (text := "there is no such group") hx hb hl0 hown (by decide +kernel) (hts (.classLink RX5 211 "java/lang/IndexOutOfBoundsException") (List.mem_of_getElem? (i := 1) rfl)) (hts (.initialized "java/lang/IndexOutOfBoundsException") (List.mem_of_getElem? (i := 2) rfl)) (List.mem_of_getElem? (i := 10) rfl) (List.mem_of_getElem? (i := 0) rfl) (fun w h => hts w (List.mem_cons_of_mem _ (List.mem_append_right _ (h)))) cf_ng_iob cf_gd_iob hT hW hS (hl.1.trans hml.symm) dX5_groupNumbered_19 dX5_groupNumbered_22 dX5_groupNumbered_23 dX5_groupNumbered_25 dX5_groupNumbered_28 htab (by decide) hlocks ⟨rfl, cf_farG1 c1_1⟩ (by decide)
  · refine lv_iload_n hx hb dX5_groupNumbered_4 rfl (lv_at hl 1 rfl) ?_
    refine lv_bipush (v := 60) hx hb dX5_groupNumbered_5 (by decide) ?_
    refine lv_icmp_ge (tgt := 19) hx hb dX5_groupNumbered_7 (by decide) (fun c7_2 => ?_) (fun c7_2 => ?_)
    · exact cf_throw (text := "there is no such group") hx hb hl0 hown (by decide +kernel) (hts (.classLink RX5 211 "java/lang/IndexOutOfBoundsException") (List.mem_of_getElem? (i := 1) rfl)) (hts (.initialized "java/lang/IndexOutOfBoundsException") (List.mem_of_getElem? (i := 2) rfl)) (List.mem_of_getElem? (i := 10) rfl) (List.mem_of_getElem? (i := 0) rfl) (fun w h => hts w (List.mem_cons_of_mem _ (List.mem_append_right _ (h)))) cf_ng_iob cf_gd_iob hT hW hS (hl.1.trans hml.symm) dX5_groupNumbered_19 dX5_groupNumbered_22 dX5_groupNumbered_23 dX5_groupNumbered_25 dX5_groupNumbered_28 htab (by decide) hlocks ⟨rfl, cf_farG2 c7_2⟩ (by decide)
    · obtain ⟨j, hj, hjx⟩ := cf_ofr x 60 (by decide) c1_1 (Int32.not_le.mp c7_2)
      rcases hQ j hj with h0 | h0
      · refine lv_aload_n hx hb dX5_groupNumbered_10 rfl (lv_at hl 0 rfl) ?_
        refine cf_get (v := .ref (ad 15 0)) (ci := 5) (C := RX5) (T := TX5) (N := 9) hx hb hts (fun _ h => List.mem_cons_of_mem _ (List.mem_append_left _ (List.mem_append_right _ (h)))) hown hT.1 hW cf_e5 rfl 4 (by decide) (hts (.fieldLink RX5 35 "GameCafe" "groups" "[LGameCafe$Group;") (List.mem_of_getElem? (i := 3) rfl)) (fun _ h9 => h9) rfl dX5_groupNumbered_11 ?_
        refine lv_iload_n hx hb dX5_groupNumbered_14 rfl (lv_at hl 1 rfl) ?_
        refine cf_aldN (t0 := 7) (C := RX2) (n := 60) (v := .null) hx hb hT.1 hW cf_e15 rfl j hjx hj (by decide) dX5_groupNumbered_15 (cf_rw0 h0) ?_
        refine lv_ifnonnullN hx hb dX5_groupNumbered_16 ?_
        exact cf_throw (text := "there is no such group") hx hb hl0 hown (by decide +kernel) (hts (.classLink RX5 211 "java/lang/IndexOutOfBoundsException") (List.mem_of_getElem? (i := 1) rfl)) (hts (.initialized "java/lang/IndexOutOfBoundsException") (List.mem_of_getElem? (i := 2) rfl)) (List.mem_of_getElem? (i := 10) rfl) (List.mem_of_getElem? (i := 0) rfl) (fun w h => hts w (List.mem_cons_of_mem _ (List.mem_append_right _ (h)))) cf_ng_iob cf_gd_iob hT hW hS (hl.1.trans hml.symm) dX5_groupNumbered_19 dX5_groupNumbered_22 dX5_groupNumbered_23 dX5_groupNumbered_25 dX5_groupNumbered_28 htab (by decide) hlocks ⟨rfl, cf_farG3 hj hjx h0⟩ (by decide)
      · refine lv_aload_n hx hb dX5_groupNumbered_10 rfl (lv_at hl 0 rfl) ?_
        refine cf_get (v := .ref (ad 15 0)) (ci := 5) (C := RX5) (T := TX5) (N := 9) hx hb hts (fun _ h => List.mem_cons_of_mem _ (List.mem_append_left _ (List.mem_append_right _ (h)))) hown hT.1 hW cf_e5 rfl 4 (by decide) (hts (.fieldLink RX5 35 "GameCafe" "groups" "[LGameCafe$Group;") (List.mem_of_getElem? (i := 3) rfl)) (fun _ h9 => h9) rfl dX5_groupNumbered_11 ?_
        refine lv_iload_n hx hb dX5_groupNumbered_14 rfl (lv_at hl 1 rfl) ?_
        refine cf_aldN (t0 := 7) (C := RX2) (n := 60) (v := .ref (ad 2 j)) hx hb hT.1 hW cf_e15 rfl j hjx hj (by decide) dX5_groupNumbered_15 (cf_rwS h0.1) ?_
        refine lv_ifnonnull (tgt := 29) hx hb dX5_groupNumbered_16 (by decide) ?_
        refine lv_aload_n hx hb dX5_groupNumbered_29 rfl (lv_at hl 0 rfl) ?_
        refine cf_get (v := .ref (ad 15 0)) (ci := 5) (C := RX5) (T := TX5) (N := 9) hx hb hts (fun _ h => List.mem_cons_of_mem _ (List.mem_append_left _ (List.mem_append_right _ (h)))) hown hT.1 hW cf_e5 rfl 4 (by decide) (hts (.fieldLink RX5 35 "GameCafe" "groups" "[LGameCafe$Group;") (List.mem_of_getElem? (i := 3) rfl)) (fun _ h9 => h9) rfl dX5_groupNumbered_30 ?_
        refine lv_iload_n hx hb dX5_groupNumbered_33 rfl (lv_at hl 1 rfl) ?_
        refine cf_aldN (t0 := 7) (C := RX2) (n := 60) (v := .ref (ad 2 j)) hx hb hT.1 hW cf_e15 rfl j hjx hj (by decide) dX5_groupNumbered_34 (cf_rwS h0.1) ?_
        refine vx_ret ?_
        refine W.widen (k := 1) (n := 6) (by omega) (by omega) ?_
        exact W.aret (v := .ref (ad 2 j)) hx hb hr (Or.inl ⟨_, rfl⟩) (Or.inr ⟨_, rfl⟩) (fun t9 ht9 hw9 => ⟨⟨(some (ad 2 j)), (), rfl, ⟨j, hj, hjx, h0.1, h0.2, rfl⟩, cf_W.re ht9 hW⟩, hS.F ht9⟩) hS.2.2 dX5_groupNumbered_35
set_option maxHeartbeats 4000000 in
set_option maxRecDepth 100000 in
/-- the free table with the fewest seats that are enough -/
theorem c_X5_freeTableFor (l : Launch) (D : va_G) (cT : Nat → ClassId) (z : Nat) (ad : cf_Ad) (nc ng : Nat) (S : cf_S) (P : cf_Pt) (O : Nat → Int64) (x : Int32) : Met l yX5_freeTableFor wsX5_freeTableFor ({ frames := 0, cells := 0, slots := 0, locals := 0 }) (va_Pc [.ref (ad 5 0), .int x] (cf_P D cT z (cf_E cT nc ng S P O ad) ad)) (cf_Qq D z (fun (r : Option Nat) (_ : Unit) => ∃ b : Option Nat, b = cf_best (cf_okT S x) (cf_ltT S) 6 ∧ r = b.map (ad 3)) (fun _ => (cf_E cT nc ng S P O ad)) (fun _ => ad)) 0 0 (fun q => z ≤ q) := by
  refine Met.ofW (cc := cX5_freeTableFor) (maxL := 8) (ret := (some (.object "GameCafe$Table"))) (by decide) rfl ?_
  intro p e s m args below meth c s₁ B hml hv
  obtain ⟨rfl, hW, hT⟩ := hv
  have hx := B.exec
  have hb := B.bytes
  have hr := B.returns
  have hts := atoms_spec (ws := wsX5_freeTableFor) B.pre
  have hown : s.vm.findClass RX5 = some m.cls := findClass_of_methodNamed B.named
  have hlocks := B.notSynchronized
  have hS : va_S (fun q => z ≤ q) s.heap s.heap [] := va_S.rf
  have hl := lv_entry ([.ref (ad 5 0), .int x]) (n := 8) (Nat.le_of_ble_eq_true rfl)
  rw [lg_entry_eq]
  generalize (lg_sl ([.ref (ad 5 0), .int x]) ++ List.replicate (8 - (lg_sl ([.ref (ad 5 0), .int x])).length) Slot.unset).toArray = ls at hl ⊢
  have hl : lv_has ls 8 [(0, .ref (ad 5 0)), (1, .int x)] := hl
  skip
  refine lv_null hx hb dX5_freeTableFor_0 ?_
  refine lv_astore_nN (lv' := [(2, .null), (0, .ref (ad 5 0)), (1, .int x)]) hx hb dX5_freeTableFor_1 rfl hl (by decide) rfl (fun ls hl => ?_)
  refine lv_aload_n hx hb dX5_freeTableFor_2 rfl (lv_at hl 1 rfl) ?_
  refine cf_get (v := .ref (ad 12 0)) (ci := 5) (C := RX5) (T := TX5) (N := 9) hx hb hts (fun _ h => List.mem_cons_of_mem _ (List.mem_append_left _ (List.mem_append_right _ (h)))) hown hT.1 hW cf_e5 rfl 1 (by decide) (hts (.fieldLink RX5 17 "GameCafe" "tables" "[LGameCafe$Table;") (List.mem_of_getElem? (i := 1) rfl)) (fun _ h9 => h9) rfl dX5_freeTableFor_3 ?_
  refine lv_astore_n (lv' := [(3, .ref (ad 12 0)), (2, .null), (0, .ref (ad 5 0)), (1, .int x)]) hx hb dX5_freeTableFor_6 rfl hl (by decide) rfl (fun ls hl => ?_)
  refine lv_aload_n hx hb dX5_freeTableFor_7 rfl (lv_at hl 0 rfl) ?_
  refine cf_alen (t0 := 4) (v := nI 6) hx hb hT.1 hW cf_e12 (ty := .object RX3) rfl rfl dX5_freeTableFor_8 ?_
  refine lv_istore (lv' := [(4, .int (nI 6)), (3, .ref (ad 12 0)), (2, .null), (0, .ref (ad 5 0)), (1, .int x)]) hx hb dX5_freeTableFor_9 hl (by decide) rfl (fun ls hl => ?_)
  refine lv_iconst (v := 0) hx hb dX5_freeTableFor_11 (by decide) ?_
  refine lv_istore (lv' := [(5, .int 0), (4, .int (nI 6)), (3, .ref (ad 12 0)), (2, .null), (0, .ref (ad 5 0)), (1, .int x)]) hx hb dX5_freeTableFor_12 hl (by decide) rfl (fun ls hl => ?_)
  refine cf_loopW (β := Option Nat) (fun i H locs ls b => cf_W D z (cf_E cT nc ng S P O ad) ad H ∧ va_S (fun q => z ≤ q) s.heap H locs ∧ lv_has ls 8 [(0, .ref (ad 5 0)), (1, .int x), (2, va_rf (b.map (ad 3))), (3, .ref (ad 12 0)), (4, .int (nI 6)), (5, .int (nI i))] ∧ b = cf_best (cf_okT S x) (cf_ltT S) i) 6 (fun H locs ls b hI => ?_) (fun i H locs ls b hi hI ih => ?_) none ⟨hW, hS, lv_sub hl [4, 5, 3, 2, 1, 0] rfl, rfl⟩
  · obtain ⟨hW, hS, hl, hI⟩ := hI
    rcases b with _ | t
    · have hl : lv_has ls 8 [(0, .ref (ad 5 0)), (1, .int x), (2, .null), (3, .ref (ad 12 0)), (4, .int (nI 6)), (5, .int (nI 6))] := hl
      refine lv_iload hx hb dX5_freeTableFor_14 (lv_at hl 5 rfl) ?_
      refine lv_iload hx hb dX5_freeTableFor_16 (lv_at hl 4 rfl) ?_
      refine lv_icmp_ge (tgt := 82) hx hb dX5_freeTableFor_18 (by decide) (fun c18_1 => ?_) (fun c18_1 => absurd (nI_le (Nat.le_refl 6) (by decide)) c18_1)
      refine lv_aload_nN hx hb dX5_freeTableFor_82 rfl (lv_at hl 2 rfl) ?_
      exact W.aret (v := .null) hx hb hr (Or.inl ⟨_, rfl⟩) (Or.inl rfl) (fun t9 ht9 hw9 => ⟨⟨none, (), rfl, ⟨none, hI, rfl⟩, cf_W.re ht9 hW⟩, hS.F ht9⟩) hS.2.2 dX5_freeTableFor_83
    · have hl : lv_has ls 8 [(0, .ref (ad 5 0)), (1, .int x), (2, .ref (ad 3 t)), (3, .ref (ad 12 0)), (4, .int (nI 6)), (5, .int (nI 6))] := hl
      refine lv_iload hx hb dX5_freeTableFor_14 (lv_at hl 5 rfl) ?_
      refine lv_iload hx hb dX5_freeTableFor_16 (lv_at hl 4 rfl) ?_
      refine lv_icmp_ge (tgt := 82) hx hb dX5_freeTableFor_18 (by decide) (fun c18_2 => ?_) (fun c18_2 => absurd (nI_le (Nat.le_refl 6) (by decide)) c18_2)
      refine lv_aload_n hx hb dX5_freeTableFor_82 rfl (lv_at hl 2 rfl) ?_
      exact W.aret (v := .ref (ad 3 t)) hx hb hr (Or.inl ⟨_, rfl⟩) (Or.inr ⟨_, rfl⟩) (fun t9 ht9 hw9 => ⟨⟨(some (ad 3 t)), (), rfl, ⟨some t, hI, rfl⟩, cf_W.re ht9 hW⟩, hS.F ht9⟩) hS.2.2 dX5_freeTableFor_83
  · obtain ⟨hW, hS, hl, hI⟩ := hI
    rcases b with _ | t
    · have hl : lv_has ls 8 [(0, .ref (ad 5 0)), (1, .int x), (2, .null), (3, .ref (ad 12 0)), (4, .int (nI 6)), (5, .int (nI i))] := hl
      refine lv_iload hx hb dX5_freeTableFor_14 (lv_at hl 5 rfl) ?_
      refine lv_iload hx hb dX5_freeTableFor_16 (lv_at hl 4 rfl) ?_
      refine lv_icmp_ge (tgt := 82) hx hb dX5_freeTableFor_18 (by decide) (fun c18_3 => absurd c18_3 (nI_ge hi (by decide))) (fun c18_3 => ?_)
      refine lv_aload_n hx hb dX5_freeTableFor_21 rfl (lv_at hl 3 rfl) ?_
      refine lv_iload hx hb dX5_freeTableFor_22 (lv_at hl 5 rfl) ?_
      refine cf_aldN (t0 := 4) (C := RX3) (n := 6) (v := .ref (ad 3 i)) hx hb hT.1 hW cf_e12 rfl i rfl hi (by decide) dX5_freeTableFor_24 rfl ?_
      refine lv_astore (lv' := [(6, .ref (ad 3 i)), (0, .ref (ad 5 0)), (1, .int x), (2, .null), (3, .ref (ad 12 0)), (4, .int (nI 6)), (5, .int (nI i))]) hx hb dX5_freeTableFor_25 hl (by decide) rfl (fun ls hl => ?_)
      refine lv_aload hx hb dX5_freeTableFor_27 (lv_at hl 0 rfl) ?_
      refine cf_get (v := .int (S 3 i 1)) (ci := 3) (C := RX3) (T := TX3) (N := 3) hx hb hts (fun _ h => List.mem_cons_of_mem _ (List.mem_append_right _ (h))) hown hT.1 hW (cf_e3 hi) rfl 2 (by decide) (hts (.fieldLink RX5 80 "GameCafe$Table" "group" "I") (List.mem_of_getElem? (i := 2) rfl)) (fun _ h9 => h9) rfl dX5_freeTableFor_29 ?_
      refine lv_iconst (v := (-1)) hx hb dX5_freeTableFor_32 (by decide) ?_
      refine lv_icmp_ne (tgt := 49) hx hb dX5_freeTableFor_33 (by decide) (fun c33_4 => ?_) (fun c33_4 => ?_)
      · refine lv_iconst (v := 0) hx hb dX5_freeTableFor_49 (by decide) ?_
        refine lv_istore (lv' := [(7, .int 0), (6, .ref (ad 3 i)), (0, .ref (ad 5 0)), (1, .int x), (2, .null), (3, .ref (ad 12 0)), (4, .int (nI 6)), (5, .int (nI i))]) hx hb dX5_freeTableFor_50 hl (by decide) rfl (fun ls hl => ?_)
        refine lv_iload hx hb dX5_freeTableFor_52 (lv_at hl 0 rfl) ?_
        refine lv_if_eq (tgt := 76) hx hb dX5_freeTableFor_54 (by decide) (fun c54_5 => ?_) (fun c54_5 => absurd rfl c54_5)
        refine lv_iinc (v := (nI (i + 1))) (lv' := [(5, .int (nI (i + 1))), (7, .int 0), (6, .ref (ad 3 i)), (0, .ref (ad 5 0)), (1, .int x), (2, .null), (3, .ref (ad 12 0)), (4, .int (nI 6))]) hx hb dX5_freeTableFor_76 hl (k := 7) rfl (nI_1 i) (by decide) rfl (fun ls hl => ?_)
        refine lv_goto (tgt := 14) hx hb dX5_freeTableFor_79 (by decide) ?_
        exact ih _ _ _ none ⟨hW, hS, lv_sub hl [3, 4, 5, 6, 7, 0] rfl, (hI.trans (cf_best_no (by simp [cf_okT, c33_4])).symm)⟩
      · refine lv_aload hx hb dX5_freeTableFor_36 (lv_at hl 0 rfl) ?_
        refine cf_get (v := .int (S 3 i 0)) (ci := 3) (C := RX3) (T := TX3) (N := 3) hx hb hts (fun _ h => List.mem_cons_of_mem _ (List.mem_append_right _ (h))) hown hT.1 hW (cf_e3 hi) rfl 1 (by decide) (hts (.fieldLink RX5 90 "GameCafe$Table" "seats" "I") (List.mem_of_getElem? (i := 3) rfl)) (fun _ h9 => h9) rfl dX5_freeTableFor_38 ?_
        refine lv_iload_n hx hb dX5_freeTableFor_41 rfl (lv_at hl 2 rfl) ?_
        refine lv_icmp_lt (tgt := 49) hx hb dX5_freeTableFor_42 (by decide) (fun c42_6 => ?_) (fun c42_6 => ?_)
        · refine lv_iconst (v := 0) hx hb dX5_freeTableFor_49 (by decide) ?_
          refine lv_istore (lv' := [(7, .int 0), (6, .ref (ad 3 i)), (0, .ref (ad 5 0)), (1, .int x), (2, .null), (3, .ref (ad 12 0)), (4, .int (nI 6)), (5, .int (nI i))]) hx hb dX5_freeTableFor_50 hl (by decide) rfl (fun ls hl => ?_)
          refine lv_iload hx hb dX5_freeTableFor_52 (lv_at hl 0 rfl) ?_
          refine lv_if_eq (tgt := 76) hx hb dX5_freeTableFor_54 (by decide) (fun c54_7 => ?_) (fun c54_7 => absurd rfl c54_7)
          refine lv_iinc (v := (nI (i + 1))) (lv' := [(5, .int (nI (i + 1))), (7, .int 0), (6, .ref (ad 3 i)), (0, .ref (ad 5 0)), (1, .int x), (2, .null), (3, .ref (ad 12 0)), (4, .int (nI 6))]) hx hb dX5_freeTableFor_76 hl (k := 7) rfl (nI_1 i) (by decide) rfl (fun ls hl => ?_)
          refine lv_goto (tgt := 14) hx hb dX5_freeTableFor_79 (by decide) ?_
          exact ih _ _ _ none ⟨hW, hS, lv_sub hl [3, 4, 5, 6, 7, 0] rfl, (hI.trans (cf_best_no (by simp [cf_okT, c42_6])).symm)⟩
        · have hok : cf_okT S x i = true := cf_okT_of c33_4 c42_6
          refine lv_iconst (v := 1) hx hb dX5_freeTableFor_45 (by decide) ?_
          refine lv_goto (tgt := 50) hx hb dX5_freeTableFor_46 (by decide) ?_
          refine lv_istore (lv' := [(7, .int 1), (6, .ref (ad 3 i)), (0, .ref (ad 5 0)), (1, .int x), (2, .null), (3, .ref (ad 12 0)), (4, .int (nI 6)), (5, .int (nI i))]) hx hb dX5_freeTableFor_50 hl (by decide) rfl (fun ls hl => ?_)
          refine lv_iload hx hb dX5_freeTableFor_52 (lv_at hl 0 rfl) ?_
          refine lv_if_eq (tgt := 76) hx hb dX5_freeTableFor_54 (by decide) (fun c54_8 => absurd c54_8 (by decide)) (fun c54_8 => ?_)
          refine lv_aload_nN hx hb dX5_freeTableFor_57 rfl (lv_at hl 4 rfl) ?_
          refine lv_ifnullN (tgt := 73) hx hb dX5_freeTableFor_58 (by decide) ?_
          refine lv_aload hx hb dX5_freeTableFor_73 (lv_at hl 1 rfl) ?_
          refine lv_astore_n (lv' := [(2, .ref (ad 3 i)), (7, .int 1), (6, .ref (ad 3 i)), (0, .ref (ad 5 0)), (1, .int x), (3, .ref (ad 12 0)), (4, .int (nI 6)), (5, .int (nI i))]) hx hb dX5_freeTableFor_75 rfl hl (by decide) rfl (fun ls hl => ?_)
          refine lv_iinc (v := (nI (i + 1))) (lv' := [(5, .int (nI (i + 1))), (2, .ref (ad 3 i)), (7, .int 1), (6, .ref (ad 3 i)), (0, .ref (ad 5 0)), (1, .int x), (3, .ref (ad 12 0)), (4, .int (nI 6))]) hx hb dX5_freeTableFor_76 hl (k := 7) rfl (nI_1 i) (by decide) rfl (fun ls hl => ?_)
          refine lv_goto (tgt := 14) hx hb dX5_freeTableFor_79 (by decide) ?_
          exact ih _ _ _ (some i) ⟨hW, hS, lv_sub hl [4, 5, 1, 6, 7, 0] rfl, ((cf_best_first hok hI.symm).symm)⟩
    · have hl : lv_has ls 8 [(0, .ref (ad 5 0)), (1, .int x), (2, .ref (ad 3 t)), (3, .ref (ad 12 0)), (4, .int (nI 6)), (5, .int (nI i))] := hl
      have ht6 : t < 6 := Nat.lt_trans (cf_best_in hI.symm).1 hi
      refine lv_iload hx hb dX5_freeTableFor_14 (lv_at hl 5 rfl) ?_
      refine lv_iload hx hb dX5_freeTableFor_16 (lv_at hl 4 rfl) ?_
      refine lv_icmp_ge (tgt := 82) hx hb dX5_freeTableFor_18 (by decide) (fun c18_9 => absurd c18_9 (nI_ge hi (by decide))) (fun c18_9 => ?_)
      refine lv_aload_n hx hb dX5_freeTableFor_21 rfl (lv_at hl 3 rfl) ?_
      refine lv_iload hx hb dX5_freeTableFor_22 (lv_at hl 5 rfl) ?_
      refine cf_aldN (t0 := 4) (C := RX3) (n := 6) (v := .ref (ad 3 i)) hx hb hT.1 hW cf_e12 rfl i rfl hi (by decide) dX5_freeTableFor_24 rfl ?_
      refine lv_astore (lv' := [(6, .ref (ad 3 i)), (0, .ref (ad 5 0)), (1, .int x), (2, .ref (ad 3 t)), (3, .ref (ad 12 0)), (4, .int (nI 6)), (5, .int (nI i))]) hx hb dX5_freeTableFor_25 hl (by decide) rfl (fun ls hl => ?_)
      refine lv_aload hx hb dX5_freeTableFor_27 (lv_at hl 0 rfl) ?_
      refine cf_get (v := .int (S 3 i 1)) (ci := 3) (C := RX3) (T := TX3) (N := 3) hx hb hts (fun _ h => List.mem_cons_of_mem _ (List.mem_append_right _ (h))) hown hT.1 hW (cf_e3 hi) rfl 2 (by decide) (hts (.fieldLink RX5 80 "GameCafe$Table" "group" "I") (List.mem_of_getElem? (i := 2) rfl)) (fun _ h9 => h9) rfl dX5_freeTableFor_29 ?_
      refine lv_iconst (v := (-1)) hx hb dX5_freeTableFor_32 (by decide) ?_
      refine lv_icmp_ne (tgt := 49) hx hb dX5_freeTableFor_33 (by decide) (fun c33_10 => ?_) (fun c33_10 => ?_)
      · refine lv_iconst (v := 0) hx hb dX5_freeTableFor_49 (by decide) ?_
        refine lv_istore (lv' := [(7, .int 0), (6, .ref (ad 3 i)), (0, .ref (ad 5 0)), (1, .int x), (2, .ref (ad 3 t)), (3, .ref (ad 12 0)), (4, .int (nI 6)), (5, .int (nI i))]) hx hb dX5_freeTableFor_50 hl (by decide) rfl (fun ls hl => ?_)
        refine lv_iload hx hb dX5_freeTableFor_52 (lv_at hl 0 rfl) ?_
        refine lv_if_eq (tgt := 76) hx hb dX5_freeTableFor_54 (by decide) (fun c54_11 => ?_) (fun c54_11 => absurd rfl c54_11)
        refine lv_iinc (v := (nI (i + 1))) (lv' := [(5, .int (nI (i + 1))), (7, .int 0), (6, .ref (ad 3 i)), (0, .ref (ad 5 0)), (1, .int x), (2, .ref (ad 3 t)), (3, .ref (ad 12 0)), (4, .int (nI 6))]) hx hb dX5_freeTableFor_76 hl (k := 7) rfl (nI_1 i) (by decide) rfl (fun ls hl => ?_)
        refine lv_goto (tgt := 14) hx hb dX5_freeTableFor_79 (by decide) ?_
        exact ih _ _ _ (some t) ⟨hW, hS, lv_sub hl [3, 4, 5, 6, 7, 0] rfl, (hI.trans (cf_best_no (by simp [cf_okT, c33_10])).symm)⟩
      · refine lv_aload hx hb dX5_freeTableFor_36 (lv_at hl 0 rfl) ?_
        refine cf_get (v := .int (S 3 i 0)) (ci := 3) (C := RX3) (T := TX3) (N := 3) hx hb hts (fun _ h => List.mem_cons_of_mem _ (List.mem_append_right _ (h))) hown hT.1 hW (cf_e3 hi) rfl 1 (by decide) (hts (.fieldLink RX5 90 "GameCafe$Table" "seats" "I") (List.mem_of_getElem? (i := 3) rfl)) (fun _ h9 => h9) rfl dX5_freeTableFor_38 ?_
        refine lv_iload_n hx hb dX5_freeTableFor_41 rfl (lv_at hl 2 rfl) ?_
        refine lv_icmp_lt (tgt := 49) hx hb dX5_freeTableFor_42 (by decide) (fun c42_12 => ?_) (fun c42_12 => ?_)
        · refine lv_iconst (v := 0) hx hb dX5_freeTableFor_49 (by decide) ?_
          refine lv_istore (lv' := [(7, .int 0), (6, .ref (ad 3 i)), (0, .ref (ad 5 0)), (1, .int x), (2, .ref (ad 3 t)), (3, .ref (ad 12 0)), (4, .int (nI 6)), (5, .int (nI i))]) hx hb dX5_freeTableFor_50 hl (by decide) rfl (fun ls hl => ?_)
          refine lv_iload hx hb dX5_freeTableFor_52 (lv_at hl 0 rfl) ?_
          refine lv_if_eq (tgt := 76) hx hb dX5_freeTableFor_54 (by decide) (fun c54_13 => ?_) (fun c54_13 => absurd rfl c54_13)
          refine lv_iinc (v := (nI (i + 1))) (lv' := [(5, .int (nI (i + 1))), (7, .int 0), (6, .ref (ad 3 i)), (0, .ref (ad 5 0)), (1, .int x), (2, .ref (ad 3 t)), (3, .ref (ad 12 0)), (4, .int (nI 6))]) hx hb dX5_freeTableFor_76 hl (k := 7) rfl (nI_1 i) (by decide) rfl (fun ls hl => ?_)
          refine lv_goto (tgt := 14) hx hb dX5_freeTableFor_79 (by decide) ?_
          exact ih _ _ _ (some t) ⟨hW, hS, lv_sub hl [3, 4, 5, 6, 7, 0] rfl, (hI.trans (cf_best_no (by simp [cf_okT, c42_12])).symm)⟩
        · have hok : cf_okT S x i = true := cf_okT_of c33_10 c42_12
          refine lv_iconst (v := 1) hx hb dX5_freeTableFor_45 (by decide) ?_
          refine lv_goto (tgt := 50) hx hb dX5_freeTableFor_46 (by decide) ?_
          refine lv_istore (lv' := [(7, .int 1), (6, .ref (ad 3 i)), (0, .ref (ad 5 0)), (1, .int x), (2, .ref (ad 3 t)), (3, .ref (ad 12 0)), (4, .int (nI 6)), (5, .int (nI i))]) hx hb dX5_freeTableFor_50 hl (by decide) rfl (fun ls hl => ?_)
          refine lv_iload hx hb dX5_freeTableFor_52 (lv_at hl 0 rfl) ?_
          refine lv_if_eq (tgt := 76) hx hb dX5_freeTableFor_54 (by decide) (fun c54_14 => absurd c54_14 (by decide)) (fun c54_14 => ?_)
          refine lv_aload_n hx hb dX5_freeTableFor_57 rfl (lv_at hl 4 rfl) ?_
          refine lv_ifnull hx hb dX5_freeTableFor_58 ?_
          refine lv_aload hx hb dX5_freeTableFor_61 (lv_at hl 1 rfl) ?_
          refine cf_get (v := .int (S 3 i 0)) (ci := 3) (C := RX3) (T := TX3) (N := 3) hx hb hts (fun _ h => List.mem_cons_of_mem _ (List.mem_append_right _ (h))) hown hT.1 hW (cf_e3 hi) rfl 1 (by decide) (hts (.fieldLink RX5 90 "GameCafe$Table" "seats" "I") (List.mem_of_getElem? (i := 3) rfl)) (fun _ h9 => h9) rfl dX5_freeTableFor_63 ?_
          refine lv_aload_n hx hb dX5_freeTableFor_66 rfl (lv_at hl 4 rfl) ?_
          refine cf_get (v := .int (S 3 t 0)) (ci := 3) (C := RX3) (T := TX3) (N := 3) hx hb hts (fun _ h => List.mem_cons_of_mem _ (List.mem_append_right _ (h))) hown hT.1 hW (cf_e3 ht6) rfl 1 (by decide) (hts (.fieldLink RX5 90 "GameCafe$Table" "seats" "I") (List.mem_of_getElem? (i := 3) rfl)) (fun _ h9 => h9) rfl dX5_freeTableFor_67 ?_
          refine lv_icmp_ge (tgt := 76) hx hb dX5_freeTableFor_70 (by decide) (fun c70_15 => ?_) (fun c70_15 => ?_)
          · refine lv_iinc (v := (nI (i + 1))) (lv' := [(5, .int (nI (i + 1))), (7, .int 1), (6, .ref (ad 3 i)), (0, .ref (ad 5 0)), (1, .int x), (2, .ref (ad 3 t)), (3, .ref (ad 12 0)), (4, .int (nI 6))]) hx hb dX5_freeTableFor_76 hl (k := 7) rfl (nI_1 i) (by decide) rfl (fun ls hl => ?_)
            refine lv_goto (tgt := 14) hx hb dX5_freeTableFor_79 (by decide) ?_
            exact ih _ _ _ (some t) ⟨hW, hS, lv_sub hl [3, 4, 5, 6, 7, 0] rfl, ((cf_best_old hI.symm (decide_eq_false (Int32.not_lt.mpr c70_15))).symm)⟩
          · refine lv_aload hx hb dX5_freeTableFor_73 (lv_at hl 1 rfl) ?_
            refine lv_astore_n (lv' := [(2, .ref (ad 3 i)), (7, .int 1), (6, .ref (ad 3 i)), (0, .ref (ad 5 0)), (1, .int x), (3, .ref (ad 12 0)), (4, .int (nI 6)), (5, .int (nI i))]) hx hb dX5_freeTableFor_75 rfl hl (by decide) rfl (fun ls hl => ?_)
            refine lv_iinc (v := (nI (i + 1))) (lv' := [(5, .int (nI (i + 1))), (2, .ref (ad 3 i)), (7, .int 1), (6, .ref (ad 3 i)), (0, .ref (ad 5 0)), (1, .int x), (3, .ref (ad 12 0)), (4, .int (nI 6))]) hx hb dX5_freeTableFor_76 hl (k := 7) rfl (nI_1 i) (by decide) rfl (fun ls hl => ?_)
            refine lv_goto (tgt := 14) hx hb dX5_freeTableFor_79 (by decide) ?_
            exact ih _ _ _ (some i) ⟨hW, hS, lv_sub hl [4, 5, 1, 6, 7, 0] rfl, ((cf_best_new hok hI.symm (decide_eq_true (Int32.not_le.mp c70_15))).symm)⟩
end
section
set_option maxHeartbeats 4000000 in
set_option maxRecDepth 100000 in
/-- the lowest copy of a game that is on the shelf and can be played -/
theorem c_X5_playableCopyOf (l : Launch) (D : va_G) (cT : Nat → ClassId) (z : Nat) (ad : cf_Ad) (nc ng : Nat) (S : cf_S) (P : cf_Pt) (O : Nat → Int64) {gm : Nat} (hg : gm < 5) (hO : ∀ j, j < 15 → P 14 0 j = if j < nc then j + 1 else 0) (hG : ∀ j, j < nc → P 0 j 0 < 5) : Met l yX5_playableCopyOf wsX5_playableCopyOf ({ frames := 1, cells := 0, slots := 0, locals := 21 }) (va_Pc [.ref (ad 5 0), .ref (ad 1 gm)] (cf_P D cT z (cf_E cT nc ng S P O ad) ad)) (cf_Qq D z (fun (r : Option Nat) (_ : Unit) => ∃ b : Option Nat, cf_fst (cf_okC nc S P gm) 15 b ∧ r = b.map (ad 0)) (fun _ => (cf_E cT nc ng S P O ad)) (fun _ => ad)) 0 0 (fun q => z ≤ q) := by
  refine Met.ofW (cc := cX5_playableCopyOf) (maxL := 6) (ret := (some (.object "GameCafe$Copy"))) (by decide) rfl ?_
  intro p e s m args below meth c s₁ B hml hv
  obtain ⟨rfl, hW, hT⟩ := hv
  have hx := B.exec
  have hb := B.bytes
  have hr := B.returns
  have hts := atoms_spec (ws := wsX5_playableCopyOf) B.pre
  have hown : s.vm.findClass RX5 = some m.cls := findClass_of_methodNamed B.named
  have hlocks := B.notSynchronized
  have hS : va_S (fun q => z ≤ q) s.heap s.heap [] := va_S.rf
  have hl := lv_entry ([.ref (ad 5 0), .ref (ad 1 gm)]) (n := 6) (Nat.le_of_ble_eq_true rfl)
  rw [lg_entry_eq]
  generalize (lg_sl ([.ref (ad 5 0), .ref (ad 1 gm)]) ++ List.replicate (6 - (lg_sl ([.ref (ad 5 0), .ref (ad 1 gm)])).length) Slot.unset).toArray = ls at hl ⊢
  have hl : lv_has ls 6 [(0, .ref (ad 5 0)), (1, .ref (ad 1 gm))] := hl
  skip
  refine lv_aload_n hx hb dX5_playableCopyOf_0 rfl (lv_at hl 0 rfl) ?_
  refine cf_get (v := .ref (ad 14 0)) (ci := 5) (C := RX5) (T := TX5) (N := 9) hx hb hts (fun _ h => List.mem_cons_of_mem _ (List.mem_append_left _ (List.mem_append_left _ (List.mem_append_right _ (h))))) hown hT.1 hW cf_e5 rfl 3 (by decide) (hts (.fieldLink RX5 29 "GameCafe" "owned" "[LGameCafe$Copy;") (List.mem_of_getElem? (i := 1) rfl)) (fun _ h9 => h9) rfl dX5_playableCopyOf_1 ?_
  refine lv_astore_n (lv' := [(2, .ref (ad 14 0)), (0, .ref (ad 5 0)), (1, .ref (ad 1 gm))]) hx hb dX5_playableCopyOf_4 rfl hl (by decide) rfl (fun ls hl => ?_)
  refine lv_aload_n hx hb dX5_playableCopyOf_5 rfl (lv_at hl 0 rfl) ?_
  refine cf_alen (t0 := 6) (v := nI 15) hx hb hT.1 hW cf_e14 (ty := .object RX0) rfl rfl dX5_playableCopyOf_6 ?_
  refine lv_istore_n (lv' := [(3, .int (nI 15)), (2, .ref (ad 14 0)), (0, .ref (ad 5 0)), (1, .ref (ad 1 gm))]) hx hb dX5_playableCopyOf_7 rfl hl (by decide) rfl (fun ls hl => ?_)
  refine lv_iconst (v := 0) hx hb dX5_playableCopyOf_8 (by decide) ?_
  refine lv_istore (lv' := [(4, .int 0), (3, .int (nI 15)), (2, .ref (ad 14 0)), (0, .ref (ad 5 0)), (1, .ref (ad 1 gm))]) hx hb dX5_playableCopyOf_9 hl (by decide) rfl (fun ls hl => ?_)
  refine cf_loopW (β := Unit) (fun i H locs ls b => cf_W D z (cf_E cT nc ng S P O ad) ad H ∧ va_S (fun q => z ≤ q) s.heap H locs ∧ lv_has ls 6 [(0, .ref (ad 5 0)), (1, .ref (ad 1 gm)), (2, .ref (ad 14 0)), (3, .int (nI 15)), (4, .int (nI i))] ∧ ∀ u, u < i → ¬ cf_okC nc S P gm u) 15 (fun H locs ls b hI => ?_) (fun i H locs ls b hi hI ih => ?_) () ⟨hW, hS, lv_sub hl [3, 4, 2, 1, 0] rfl, fun u hu => absurd hu (Nat.not_lt_zero u)⟩
  · obtain ⟨hW, hS, hl, hI⟩ := hI
    refine lv_iload hx hb dX5_playableCopyOf_11 (lv_at hl 4 rfl) ?_
    refine lv_iload_n hx hb dX5_playableCopyOf_13 rfl (lv_at hl 3 rfl) ?_
    refine lv_icmp_ge (tgt := 62) hx hb dX5_playableCopyOf_14 (by decide) (fun c14_1 => ?_) (fun c14_1 => absurd (nI_le (Nat.le_refl 15) (by decide)) c14_1)
    refine lv_null hx hb dX5_playableCopyOf_62 ?_
    exact W.aret (v := .null) hx hb hr (Or.inl ⟨_, rfl⟩) (Or.inl rfl) (fun t9 ht9 hw9 => ⟨⟨none, (), rfl, ⟨none, Or.inl ⟨rfl, hI⟩, rfl⟩, cf_W.re ht9 hW⟩, hS.F ht9⟩) hS.2.2 dX5_playableCopyOf_63
  · obtain ⟨hW, hS, hl, hI⟩ := hI
    refine lv_iload hx hb dX5_playableCopyOf_11 (lv_at hl 4 rfl) ?_
    refine lv_iload_n hx hb dX5_playableCopyOf_13 rfl (lv_at hl 3 rfl) ?_
    refine lv_icmp_ge (tgt := 62) hx hb dX5_playableCopyOf_14 (by decide) (fun c14_2 => absurd c14_2 (nI_ge hi (by decide))) (fun c14_2 => ?_)
    refine lv_aload_n hx hb dX5_playableCopyOf_17 rfl (lv_at hl 2 rfl) ?_
    refine lv_iload hx hb dX5_playableCopyOf_18 (lv_at hl 4 rfl) ?_
    by_cases hin : i < nc
    · refine cf_aldN (t0 := 6) (C := RX0) (n := 15) (v := .ref (ad 0 i)) hx hb hT.1 hW cf_e14 rfl i rfl hi (by decide) dX5_playableCopyOf_20 (cf_rwS ((hO i hi).trans (if_pos hin))) ?_
      refine lv_astore (lv' := [(5, .ref (ad 0 i)), (0, .ref (ad 5 0)), (1, .ref (ad 1 gm)), (2, .ref (ad 14 0)), (3, .int (nI 15)), (4, .int (nI i))]) hx hb dX5_playableCopyOf_21 hl (by decide) rfl (fun ls hl => ?_)
      refine lv_aload hx hb dX5_playableCopyOf_23 (lv_at hl 0 rfl) ?_
      refine lv_ifnull hx hb dX5_playableCopyOf_25 ?_
      refine lv_aload hx hb dX5_playableCopyOf_28 (lv_at hl 0 rfl) ?_
      refine cf_get (v := .ref (ad 1 (P 0 i 0))) (ci := 0) (C := RX0) (T := TX0) (N := 4) hx hb hts (fun _ h => List.mem_cons_of_mem _ (List.mem_append_left _ (List.mem_append_right _ (h)))) hown hT.1 hW (cf_e0 hin) rfl 1 (by decide) (hts (.fieldLink RX5 114 "GameCafe$Copy" "game" "LGameCafe$Game;") (List.mem_of_getElem? (i := 2) rfl)) (fun _ h9 => h9) rfl dX5_playableCopyOf_30 ?_
      refine lv_aload_n hx hb dX5_playableCopyOf_33 rfl (lv_at hl 2 rfl) ?_
      refine lv_acmp_ne (rx := (some (ad 1 (P 0 i 0)))) (ry := (some (ad 1 gm))) (tgt := 56) hx hb dX5_playableCopyOf_34 (by decide) (fun c34_3 => ?_) (fun c34_3 => ?_)
      · refine lv_iinc (v := (nI (i + 1))) (lv' := [(4, .int (nI (i + 1))), (5, .ref (ad 0 i)), (0, .ref (ad 5 0)), (1, .ref (ad 1 gm)), (2, .ref (ad 14 0)), (3, .int (nI 15))]) hx hb dX5_playableCopyOf_56 hl (k := 5) rfl (nI_1 i) (by decide) rfl (fun ls hl => ?_)
        refine lv_goto (tgt := 11) hx hb dX5_playableCopyOf_59 (by decide) ?_
        exact ih _ _ _ () ⟨hW, hS, lv_sub hl [2, 3, 4, 5, 0] rfl, (cf_snoc hI (fun h => c34_3 (congrArg some (congrArg (ad 1) h.2.1))))⟩
      · have hgm : P 0 i 0 = gm := (hW.inj (cf_e1 (hG i hin)) (cf_e1 hg) (Option.some.inj (c34_3))).2
        refine lv_aload hx hb dX5_playableCopyOf_37 (lv_at hl 0 rfl) ?_
        refine cf_get (v := .int (S 0 i 0)) (ci := 0) (C := RX0) (T := TX0) (N := 4) hx hb hts (fun _ h => List.mem_cons_of_mem _ (List.mem_append_left _ (List.mem_append_right _ (h)))) hown hT.1 hW (cf_e0 hin) rfl 3 (by decide) (hts (.fieldLink RX5 109 "GameCafe$Copy" "place" "I") (List.mem_of_getElem? (i := 3) rfl)) (fun _ h9 => h9) rfl dX5_playableCopyOf_39 ?_
        refine lv_if_ne (tgt := 56) hx hb dX5_playableCopyOf_42 (by decide) (fun c42_4 => ?_) (fun c42_4 => ?_)
        · refine lv_iinc (v := (nI (i + 1))) (lv' := [(4, .int (nI (i + 1))), (5, .ref (ad 0 i)), (0, .ref (ad 5 0)), (1, .ref (ad 1 gm)), (2, .ref (ad 14 0)), (3, .int (nI 15))]) hx hb dX5_playableCopyOf_56 hl (k := 5) rfl (nI_1 i) (by decide) rfl (fun ls hl => ?_)
          refine lv_goto (tgt := 11) hx hb dX5_playableCopyOf_59 (by decide) ?_
          exact ih _ _ _ () ⟨hW, hS, lv_sub hl [2, 3, 4, 5, 0] rfl, (cf_snoc hI (fun h => c42_4 h.2.2.1))⟩
        · refine lv_aload hx hb dX5_playableCopyOf_45 (lv_at hl 0 rfl) ?_
          refine va_calli (va_runV (As := []) (rest := []) ⟨hx, hb, hml, hown, hts⟩ (c_X0_isPlayable l D cT z ad nc ng S P O hin (hG i hin)) (cwV 0 hts gX5_playableCopyOf_X0_isPlayable rfl rfl rfl (by decide +kernel) ⟨Nat.le_of_ble_eq_true rfl, Nat.le_of_ble_eq_true rfl⟩) (cf_preV (T := TX0) (N := 4) hT hS hW (cf_e0 hin) rfl) rfl rfl hl.1 rfl (lv_room (Nat.le_of_ble_eq_true rfl)) dX5_playableCopyOf_47 ⟨Nat.le_of_ble_eq_true rfl, Nat.le_of_ble_eq_true rfl⟩) hS (fun _ _ h => h) (fun _ h => h) (fun r5 ur5 t9 H locs ht hvm hw hW hz1 hk1 hS => ?_)
          have hW := cf_W.er ht hW
          refine lv_if_eq (tgt := 56) hx hb dX5_playableCopyOf_50 (by decide) (fun c50_6 => ?_) (fun c50_6 => ?_)
          · refine lv_iinc (v := (nI (i + 1))) (lv' := [(4, .int (nI (i + 1))), (5, .ref (ad 0 i)), (0, .ref (ad 5 0)), (1, .ref (ad 1 gm)), (2, .ref (ad 14 0)), (3, .int (nI 15))]) hx hb dX5_playableCopyOf_56 hl (k := 5) rfl (nI_1 i) (by decide) rfl (fun ls hl => ?_)
            refine lv_goto (tgt := 11) hx hb dX5_playableCopyOf_59 (by decide) ?_
            exact ih _ _ _ () ⟨hW, hS, lv_sub hl [2, 3, 4, 5, 0] rfl, (cf_snoc hI (fun h => hw.f c50_6 h.2.2.2))⟩
          · refine lv_aload hx hb dX5_playableCopyOf_53 (lv_at hl 0 rfl) ?_
            exact W.aret (v := .ref (ad 0 i)) hx hb hr (Or.inl ⟨_, rfl⟩) (Or.inr ⟨_, rfl⟩) (fun t9 ht9 hw9 => ⟨⟨(some (ad 0 i)), (), rfl, ⟨some i, Or.inr ⟨i, rfl, hi, ⟨hin, hgm, c42_4, hw.t c50_6⟩, hI⟩, rfl⟩, cf_W.re ht9 hW⟩, hS.F ht9⟩) hS.2.2 dX5_playableCopyOf_55
    · refine cf_aldN (t0 := 6) (C := RX0) (n := 15) (v := .null) hx hb hT.1 hW cf_e14 rfl i rfl hi (by decide) dX5_playableCopyOf_20 (cf_rw0 ((hO i hi).trans (if_neg hin))) ?_
      refine lv_astoreN (lv' := [(5, .null), (0, .ref (ad 5 0)), (1, .ref (ad 1 gm)), (2, .ref (ad 14 0)), (3, .int (nI 15)), (4, .int (nI i))]) hx hb dX5_playableCopyOf_21 hl (by decide) rfl (fun ls hl => ?_)
      refine lv_aloadN hx hb dX5_playableCopyOf_23 (lv_at hl 0 rfl) ?_
      refine lv_ifnullN (tgt := 56) hx hb dX5_playableCopyOf_25 (by decide) ?_
      refine lv_iinc (v := (nI (i + 1))) (lv' := [(4, .int (nI (i + 1))), (5, .null), (0, .ref (ad 5 0)), (1, .ref (ad 1 gm)), (2, .ref (ad 14 0)), (3, .int (nI 15))]) hx hb dX5_playableCopyOf_56 hl (k := 5) rfl (nI_1 i) (by decide) rfl (fun ls hl => ?_)
      refine lv_goto (tgt := 11) hx hb dX5_playableCopyOf_59 (by decide) ?_
      exact ih _ _ _ () ⟨hW, hS, lv_sub hl [2, 3, 4, 5, 0] rfl, (cf_snoc hI (fun h => hin h.1))⟩
set_option maxHeartbeats 4000000 in
set_option maxRecDepth 100000 in
/-- the lowest of the staff who knows a game and is free -/
theorem c_X5_freeTeacherOf (l : Launch) (D : va_G) (cT : Nat → ClassId) (z : Nat) (ad : cf_Ad) (nc ng : Nat) (S : cf_S) (P : cf_Pt) (O : Nat → Int64) {gm : Nat} (hg : gm < 5) (x : Int32) (hxg : x = nI gm) : Met l yX5_freeTeacherOf wsX5_freeTeacherOf ({ frames := 0, cells := 0, slots := 0, locals := 0 }) (va_Pc [.ref (ad 5 0), .int x] (cf_P D cT z (cf_E cT nc ng S P O ad) ad)) (cf_Qq D z (fun (r : Option Nat) (_ : Unit) => ∃ b : Option Nat, cf_fst (cf_okS S gm) 3 b ∧ r = b.map (ad 4)) (fun _ => (cf_E cT nc ng S P O ad)) (fun _ => ad)) 0 0 (fun q => z ≤ q) := by
  refine Met.ofW (cc := cX5_freeTeacherOf) (maxL := 6) (ret := (some (.object "GameCafe$Teacher"))) (by decide) rfl ?_
  intro p e s m args below meth c s₁ B hml hv
  obtain ⟨rfl, hW, hT⟩ := hv
  have hx := B.exec
  have hb := B.bytes
  have hr := B.returns
  have hts := atoms_spec (ws := wsX5_freeTeacherOf) B.pre
  have hown : s.vm.findClass RX5 = some m.cls := findClass_of_methodNamed B.named
  have hlocks := B.notSynchronized
  have hS : va_S (fun q => z ≤ q) s.heap s.heap [] := va_S.rf
  have hl := lv_entry ([.ref (ad 5 0), .int x]) (n := 6) (Nat.le_of_ble_eq_true rfl)
  rw [lg_entry_eq]
  generalize (lg_sl ([.ref (ad 5 0), .int x]) ++ List.replicate (6 - (lg_sl ([.ref (ad 5 0), .int x])).length) Slot.unset).toArray = ls at hl ⊢
  have hl : lv_has ls 6 [(0, .ref (ad 5 0)), (1, .int x)] := hl
  skip
  refine lv_aload_n hx hb dX5_freeTeacherOf_0 rfl (lv_at hl 0 rfl) ?_
  refine cf_get (v := .ref (ad 13 0)) (ci := 5) (C := RX5) (T := TX5) (N := 9) hx hb hts (fun _ h => List.mem_cons_of_mem _ (List.mem_append_left _ (List.mem_append_right _ (h)))) hown hT.1 hW cf_e5 rfl 2 (by decide) (hts (.fieldLink RX5 23 "GameCafe" "staff" "[LGameCafe$Teacher;") (List.mem_of_getElem? (i := 1) rfl)) (fun _ h9 => h9) rfl dX5_freeTeacherOf_1 ?_
  refine lv_astore_n (lv' := [(2, .ref (ad 13 0)), (0, .ref (ad 5 0)), (1, .int x)]) hx hb dX5_freeTeacherOf_4 rfl hl (by decide) rfl (fun ls hl => ?_)
  refine lv_aload_n hx hb dX5_freeTeacherOf_5 rfl (lv_at hl 0 rfl) ?_
  refine cf_alen (t0 := 5) (v := nI 3) hx hb hT.1 hW cf_e13 (ty := .object RX4) rfl rfl dX5_freeTeacherOf_6 ?_
  refine lv_istore_n (lv' := [(3, .int (nI 3)), (2, .ref (ad 13 0)), (0, .ref (ad 5 0)), (1, .int x)]) hx hb dX5_freeTeacherOf_7 rfl hl (by decide) rfl (fun ls hl => ?_)
  refine lv_iconst (v := 0) hx hb dX5_freeTeacherOf_8 (by decide) ?_
  refine lv_istore (lv' := [(4, .int 0), (3, .int (nI 3)), (2, .ref (ad 13 0)), (0, .ref (ad 5 0)), (1, .int x)]) hx hb dX5_freeTeacherOf_9 hl (by decide) rfl (fun ls hl => ?_)
  refine cf_loopW (β := Unit) (fun i H locs ls b => cf_W D z (cf_E cT nc ng S P O ad) ad H ∧ va_S (fun q => z ≤ q) s.heap H locs ∧ lv_has ls 6 [(0, .ref (ad 5 0)), (1, .int x), (2, .ref (ad 13 0)), (3, .int (nI 3)), (4, .int (nI i))] ∧ ∀ u, u < i → ¬ cf_okS S gm u) 3 (fun H locs ls b hI => ?_) (fun i H locs ls b hi hI ih => ?_) () ⟨hW, hS, lv_sub hl [3, 4, 2, 1, 0] rfl, fun u hu => absurd hu (Nat.not_lt_zero u)⟩
  · obtain ⟨hW, hS, hl, hI⟩ := hI
    refine lv_iload hx hb dX5_freeTeacherOf_11 (lv_at hl 4 rfl) ?_
    refine lv_iload_n hx hb dX5_freeTeacherOf_13 rfl (lv_at hl 3 rfl) ?_
    refine lv_icmp_ge (tgt := 54) hx hb dX5_freeTeacherOf_14 (by decide) (fun c14_1 => ?_) (fun c14_1 => absurd (nI_le (Nat.le_refl 3) (by decide)) c14_1)
    refine lv_null hx hb dX5_freeTeacherOf_54 ?_
    exact W.aret (v := .null) hx hb hr (Or.inl ⟨_, rfl⟩) (Or.inl rfl) (fun t9 ht9 hw9 => ⟨⟨none, (), rfl, ⟨none, Or.inl ⟨rfl, hI⟩, rfl⟩, cf_W.re ht9 hW⟩, hS.F ht9⟩) hS.2.2 dX5_freeTeacherOf_55
  · obtain ⟨hW, hS, hl, hI⟩ := hI
    refine lv_iload hx hb dX5_freeTeacherOf_11 (lv_at hl 4 rfl) ?_
    refine lv_iload_n hx hb dX5_freeTeacherOf_13 rfl (lv_at hl 3 rfl) ?_
    refine lv_icmp_ge (tgt := 54) hx hb dX5_freeTeacherOf_14 (by decide) (fun c14_2 => absurd c14_2 (nI_ge hi (by decide))) (fun c14_2 => ?_)
    refine lv_aload_n hx hb dX5_freeTeacherOf_17 rfl (lv_at hl 2 rfl) ?_
    refine lv_iload hx hb dX5_freeTeacherOf_18 (lv_at hl 4 rfl) ?_
    refine cf_aldN (t0 := 5) (C := RX4) (n := 3) (v := .ref (ad 4 i)) hx hb hT.1 hW cf_e13 rfl i rfl hi (by decide) dX5_freeTeacherOf_20 rfl ?_
    refine lv_astore (lv' := [(5, .ref (ad 4 i)), (0, .ref (ad 5 0)), (1, .int x), (2, .ref (ad 13 0)), (3, .int (nI 3)), (4, .int (nI i))]) hx hb dX5_freeTeacherOf_21 hl (by decide) rfl (fun ls hl => ?_)
    refine lv_aload hx hb dX5_freeTeacherOf_23 (lv_at hl 0 rfl) ?_
    refine cf_get (v := .ref (ad 10 i)) (ci := 4) (C := RX4) (T := TX4) (N := 2) hx hb hts (fun _ h => List.mem_cons_of_mem _ (List.mem_append_right _ (h))) hown hT.1 hW (cf_e4 hi) rfl 0 (by decide) (hts (.fieldLink RX5 93 "GameCafe$Teacher" "knows" "[Z") (List.mem_of_getElem? (i := 2) rfl)) (fun _ h9 => h9) rfl dX5_freeTeacherOf_25 ?_
    refine lv_iload_n hx hb dX5_freeTeacherOf_28 rfl (lv_at hl 2 rfl) ?_
    refine cf_zldN (t0 := 1) (n := 5) (f := S 10 i) (v := (S 10 i gm)) hx hb hT.1 hW (cf_e10 hi) rfl gm hxg hg (by decide) dX5_freeTeacherOf_29 rfl ?_
    refine lv_if_eq (tgt := 48) hx hb dX5_freeTeacherOf_30 (by decide) (fun c30_3 => ?_) (fun c30_3 => ?_)
    · refine lv_iinc (v := (nI (i + 1))) (lv' := [(4, .int (nI (i + 1))), (5, .ref (ad 4 i)), (0, .ref (ad 5 0)), (1, .int x), (2, .ref (ad 13 0)), (3, .int (nI 3))]) hx hb dX5_freeTeacherOf_48 hl (k := 5) rfl (nI_1 i) (by decide) rfl (fun ls hl => ?_)
      refine lv_goto (tgt := 11) hx hb dX5_freeTeacherOf_51 (by decide) ?_
      exact ih _ _ _ () ⟨hW, hS, lv_sub hl [2, 3, 4, 5, 0] rfl, (cf_snoc hI (fun h => h.1 c30_3))⟩
    · refine lv_aload hx hb dX5_freeTeacherOf_33 (lv_at hl 0 rfl) ?_
      refine cf_get (v := .int (S 4 i 0)) (ci := 4) (C := RX4) (T := TX4) (N := 2) hx hb hts (fun _ h => List.mem_cons_of_mem _ (List.mem_append_right _ (h))) hown hT.1 hW (cf_e4 hi) rfl 1 (by decide) (hts (.fieldLink RX5 149 "GameCafe$Teacher" "busyUntil" "I") (List.mem_of_getElem? (i := 3) rfl)) (fun _ h9 => h9) rfl dX5_freeTeacherOf_35 ?_
      refine lv_aload_n hx hb dX5_freeTeacherOf_38 rfl (lv_at hl 1 rfl) ?_
      refine cf_get (v := .int (S 5 0 2)) (ci := 5) (C := RX5) (T := TX5) (N := 9) hx hb hts (fun _ h => List.mem_cons_of_mem _ (List.mem_append_left _ (List.mem_append_right _ (h)))) hown hT.1 hW cf_e5 rfl 8 (by decide) (hts (.fieldLink RX5 49 "GameCafe" "now" "I") (List.mem_of_getElem? (i := 4) rfl)) (fun _ h9 => h9) rfl dX5_freeTeacherOf_39 ?_
      refine lv_icmp_gt (tgt := 48) hx hb dX5_freeTeacherOf_42 (by decide) (fun c42_4 => ?_) (fun c42_4 => ?_)
      · refine lv_iinc (v := (nI (i + 1))) (lv' := [(4, .int (nI (i + 1))), (5, .ref (ad 4 i)), (0, .ref (ad 5 0)), (1, .int x), (2, .ref (ad 13 0)), (3, .int (nI 3))]) hx hb dX5_freeTeacherOf_48 hl (k := 5) rfl (nI_1 i) (by decide) rfl (fun ls hl => ?_)
        refine lv_goto (tgt := 11) hx hb dX5_freeTeacherOf_51 (by decide) ?_
        exact ih _ _ _ () ⟨hW, hS, lv_sub hl [2, 3, 4, 5, 0] rfl, (cf_snoc hI (fun h => h.2 c42_4))⟩
      · refine lv_aload hx hb dX5_freeTeacherOf_45 (lv_at hl 0 rfl) ?_
        exact W.aret (v := .ref (ad 4 i)) hx hb hr (Or.inl ⟨_, rfl⟩) (Or.inr ⟨_, rfl⟩) (fun t9 ht9 hw9 => ⟨⟨(some (ad 4 i)), (), rfl, ⟨some i, Or.inr ⟨i, rfl, hi, ⟨c30_3, c42_4⟩, hI⟩, rfl⟩, cf_W.re ht9 hW⟩, hS.F ht9⟩) hS.2.2 dX5_freeTeacherOf_47
set_option maxHeartbeats 4000000 in
set_option maxRecDepth 100000 in
/-- could some people be seated for a game that they know -/
theorem c_X5_canSeatKnowing (l : Launch) (D : va_G) (cT : Nat → ClassId) (z : Nat) (ad : cf_Ad) (nc ng : Nat) (S : cf_S) (P : cf_Pt) (O : Nat → Int64) {gm : Nat} (hg : gm < 5) (x : Int32) (hO : ∀ j, j < 15 → P 14 0 j = if j < nc then j + 1 else 0) (hG : ∀ j, j < nc → P 0 j 0 < 5) : Met l yX5_canSeatKnowing wsX5_canSeatKnowing ({ frames := 2, cells := 0, slots := 0, locals := 46 }) (va_Pc [.ref (ad 5 0), .int x, .ref (ad 1 gm)] (cf_P D cT z (cf_E cT nc ng S P O ad) ad)) (cf_Qi D z (fun (r : Int32) (_ : Unit) => cf_B r (S 5 0 1 < 60 ∧ (¬ x < S 1 gm 0 ∧ ¬ S 1 gm 1 < x) ∧ (∃ t, cf_best (cf_okT S x) (cf_ltT S) 6 = some t) ∧ ∃ u, cf_fst (cf_okC nc S P gm) 15 (some u))) (fun _ => (cf_E cT nc ng S P O ad)) (fun _ => ad)) 0 0 (fun q => z ≤ q) := by
  refine Met.ofW (cc := cX5_canSeatKnowing) (maxL := 3) (ret := (some .boolean)) (by decide) rfl ?_
  intro p e s m args below meth c s₁ B hml hv
  obtain ⟨rfl, hW, hT⟩ := hv
  have hx := B.exec
  have hb := B.bytes
  have hr := B.returns
  have hts := atoms_spec (ws := wsX5_canSeatKnowing) B.pre
  have hown : s.vm.findClass RX5 = some m.cls := findClass_of_methodNamed B.named
  have hlocks := B.notSynchronized
  have hS : va_S (fun q => z ≤ q) s.heap s.heap [] := va_S.rf
  have hl := lv_entry ([.ref (ad 5 0), .int x, .ref (ad 1 gm)]) (n := 3) (Nat.le_of_ble_eq_true rfl)
  rw [lg_entry_eq]
  generalize (lg_sl ([.ref (ad 5 0), .int x, .ref (ad 1 gm)]) ++ List.replicate (3 - (lg_sl ([.ref (ad 5 0), .int x, .ref (ad 1 gm)])).length) Slot.unset).toArray = ls at hl ⊢
  have hl : lv_has ls 3 [(0, .ref (ad 5 0)), (1, .int x), (2, .ref (ad 1 gm))] := hl
  skip
  refine lv_aload_n hx hb dX5_canSeatKnowing_0 rfl (lv_at hl 0 rfl) ?_
  refine cf_get (v := .int (S 5 0 1)) (ci := 5) (C := RX5) (T := TX5) (N := 9) hx hb hts (fun _ h => List.mem_cons_of_mem _ (List.mem_append_left _ (List.mem_append_left _ (List.mem_append_left _ (List.mem_append_right _ (h)))))) hown hT.1 hW cf_e5 rfl 7 (by decide) (hts (.fieldLink RX5 46 "GameCafe" "seated" "I") (List.mem_of_getElem? (i := 1) rfl)) (fun _ h9 => h9) rfl dX5_canSeatKnowing_1 ?_
  refine lv_bipush (v := 60) hx hb dX5_canSeatKnowing_4 (by decide) ?_
  refine lv_icmp_ge (tgt := 37) hx hb dX5_canSeatKnowing_6 (by decide) (fun c6_1 => ?_) (fun c6_1 => ?_)
  · refine lv_iconst (v := 0) hx hb dX5_canSeatKnowing_37 (by decide) ?_
    exact W.zret (v := 0) (ty := .boolean) hx hb hr (by rfl) (fun t9 ht9 hw9 => ⟨⟨0, (), rfl, Or.inr ⟨rfl, fun h => absurd h.1 (Int32.not_lt.mpr c6_1)⟩, cf_W.re ht9 hW⟩, hS.F ht9⟩) hS.2.2 dX5_canSeatKnowing_38
  · refine lv_aload_n hx hb dX5_canSeatKnowing_9 rfl (lv_at hl 2 rfl) ?_
    refine lv_iload_n hx hb dX5_canSeatKnowing_10 rfl (lv_at hl 1 rfl) ?_
    refine va_calli (va_runV (As := [.int x]) (rest := []) ⟨hx, hb, hml, hown, hts⟩ (c_X1_isFor l D cT z ad nc ng S P O hg x) (cwV 1 hts gX5_canSeatKnowing_X1_isFor rfl rfl rfl (by decide +kernel) ⟨Nat.le_of_ble_eq_true rfl, Nat.le_of_ble_eq_true rfl⟩) (cf_preV (T := TX1) (N := 6) hT hS hW (cf_e1 hg) rfl) rfl rfl hl.1 rfl (lv_room (Nat.le_of_ble_eq_true rfl)) dX5_canSeatKnowing_11 ⟨Nat.le_of_ble_eq_true rfl, Nat.le_of_ble_eq_true rfl⟩) hS (fun _ _ h => h) (fun _ h => h) (fun r2 ur2 t9 H locs ht hvm hw hW hz1 hk1 hS => ?_)
    have hW := cf_W.er ht hW
    have hw1 := hw
    refine lv_if_eq (tgt := 37) hx hb dX5_canSeatKnowing_14 (by decide) (fun c14_3 => ?_) (fun c14_3 => ?_)
    · refine lv_iconst (v := 0) hx hb dX5_canSeatKnowing_37 (by decide) ?_
      exact W.zret (v := 0) (ty := .boolean) hx hb hr (by rfl) (fun t9 ht9 hw9 => ⟨⟨0, (), rfl, Or.inr ⟨rfl, fun h => hw1.f c14_3 h.2.1⟩, cf_W.re ht9 hW⟩, hS.F ht9⟩) hS.2.2 dX5_canSeatKnowing_38
    · refine lv_aload_n hx hb dX5_canSeatKnowing_17 rfl (lv_at hl 0 rfl) ?_
      refine lv_iload_n hx hb dX5_canSeatKnowing_18 rfl (lv_at hl 1 rfl) ?_
      refine va_callq (va_runV (As := [.int x]) (rest := []) ⟨hx, hb, hml, hown, hts⟩ (c_X5_freeTableFor l D cT z ad nc ng S P O x) (cwV 1 hts gX5_canSeatKnowing_X5_freeTableFor rfl rfl rfl (by decide +kernel) ⟨Nat.le_of_ble_eq_true rfl, Nat.le_of_ble_eq_true rfl⟩) (cf_preV (T := TX5) (N := 9) hT hS hW cf_e5 rfl) rfl rfl hl.1 rfl (lv_room (Nat.le_of_ble_eq_true rfl)) dX5_canSeatKnowing_19 ⟨Nat.le_of_ble_eq_true rfl, Nat.le_of_ble_eq_true rfl⟩) hS (fun _ _ h => h) (fun _ h => h) (fun r4 ur4 t9 H locs ht hvm hw hW hz1 hk1 hS => ?_)
      have hW := cf_W.er ht hW
      obtain ⟨b1, hb1, rfl⟩ := hw
      rcases b1 with _ | t1
      · refine lv_ifnullN (tgt := 37) hx hb dX5_canSeatKnowing_22 (by decide) ?_
        refine lv_iconst (v := 0) hx hb dX5_canSeatKnowing_37 (by decide) ?_
        exact W.zret (v := 0) (ty := .boolean) hx hb hr (by rfl) (fun t9 ht9 hw9 => ⟨⟨0, (), rfl, Or.inr ⟨rfl, fun h => by obtain ⟨t, ht⟩ := h.2.2.1; rw [ht] at hb1; cases hb1⟩, cf_W.re ht9 hW⟩, hS.F ht9⟩) hS.2.2 dX5_canSeatKnowing_38
      · refine lv_ifnull hx hb dX5_canSeatKnowing_22 ?_
        refine lv_aload_n hx hb dX5_canSeatKnowing_25 rfl (lv_at hl 0 rfl) ?_
        refine lv_aload_n hx hb dX5_canSeatKnowing_26 rfl (lv_at hl 2 rfl) ?_
        refine va_callq (va_runV (As := [.ref (ad 1 gm)]) (rest := []) ⟨hx, hb, hml, hown, hts⟩ (c_X5_playableCopyOf l D cT z ad nc ng S P O hg hO hG) (cwV 1 hts gX5_canSeatKnowing_X5_playableCopyOf rfl rfl rfl (by decide +kernel) ⟨Nat.le_of_ble_eq_true rfl, Nat.le_of_ble_eq_true rfl⟩) (cf_preV (T := TX5) (N := 9) hT hS hW cf_e5 rfl) rfl rfl hl.1 rfl (lv_room (Nat.le_of_ble_eq_true rfl)) dX5_canSeatKnowing_27 ⟨Nat.le_of_ble_eq_true rfl, Nat.le_of_ble_eq_true rfl⟩) hS (fun _ _ h => h) (fun _ h => h) (fun r5 ur5 t9 H locs ht hvm hw hW hz1 hk1 hS => ?_)
        have hW := cf_W.er ht hW
        obtain ⟨b2, hb2, rfl⟩ := hw
        rcases b2 with _ | u1
        · refine lv_ifnullN (tgt := 37) hx hb dX5_canSeatKnowing_30 (by decide) ?_
          refine lv_iconst (v := 0) hx hb dX5_canSeatKnowing_37 (by decide) ?_
          exact W.zret (v := 0) (ty := .boolean) hx hb hr (by rfl) (fun t9 ht9 hw9 => ⟨⟨0, (), rfl, Or.inr ⟨rfl, fun h => by obtain ⟨u, hu⟩ := h.2.2.2; cases cf_fst_one hb2 hu⟩, cf_W.re ht9 hW⟩, hS.F ht9⟩) hS.2.2 dX5_canSeatKnowing_38
        · refine lv_ifnull hx hb dX5_canSeatKnowing_30 ?_
          refine lv_iconst (v := 1) hx hb dX5_canSeatKnowing_33 (by decide) ?_
          refine lv_goto (tgt := 38) hx hb dX5_canSeatKnowing_34 (by decide) ?_
          exact W.zret (v := 1) (ty := .boolean) hx hb hr (by rfl) (fun t9 ht9 hw9 => ⟨⟨1, (), rfl, Or.inl ⟨rfl, Int32.not_le.mp c6_1, hw1.t c14_3, ⟨t1, hb1.symm⟩, ⟨u1, hb2⟩⟩, cf_W.re ht9 hW⟩, hS.F ht9⟩) hS.2.2 dX5_canSeatKnowing_38
end
section
set_option maxHeartbeats 4000000 in
set_option maxRecDepth 100000 in
/-- X5_minute -/
theorem c_X5_minute (l : Launch) (D : va_G) (cT : Nat → ClassId) (z : Nat) (ad : cf_Ad) (nc ng : Nat) (S : cf_S) (P : cf_Pt) (O : Nat → Int64)  : Met l yX5_minute wsX5_minute ({ frames := 0, cells := 0, slots := 0, locals := 0 }) (va_Pc [.ref (ad 5 0)] (cf_P D cT z (cf_E cT nc ng S P O ad) ad)) (cf_Qi D z (fun (r : Int32) (_ : Unit) => r = S 5 0 2) (fun _ => (cf_E cT nc ng S P O ad)) (fun _ => ad)) 0 0 (fun q => z ≤ q) := by
  refine Met.ofW (cc := cX5_minute) (maxL := 1) (ret := (some .int)) (by decide) rfl ?_
  intro p e s m args below meth c s₁ B hml hv
  obtain ⟨rfl, hW, hT⟩ := hv
  have hx := B.exec
  have hb := B.bytes
  have hr := B.returns
  have hts := atoms_spec (ws := wsX5_minute) B.pre
  have hown : s.vm.findClass RX5 = some m.cls := findClass_of_methodNamed B.named
  have hlocks := B.notSynchronized
  have hS : va_S (fun q => z ≤ q) s.heap s.heap [] := va_S.rf
  have hl := lv_entry ([.ref (ad 5 0)]) (n := 1) (Nat.le_of_ble_eq_true rfl)
  rw [lg_entry_eq]
  generalize (lg_sl ([.ref (ad 5 0)]) ++ List.replicate (1 - (lg_sl ([.ref (ad 5 0)])).length) Slot.unset).toArray = ls at hl ⊢
  have hl : lv_has ls 1 [(0, .ref (ad 5 0))] := hl
  skip
  refine lv_aload_n hx hb dX5_minute_0 rfl (lv_at hl 0 rfl) ?_
  refine cf_get (v := .int (S 5 0 2)) (ci := 5) (C := RX5) (T := TX5) (N := 9) hx hb hts (fun _ h => List.mem_cons_of_mem _ (List.mem_append_right _ (h))) hown hT.1 hW cf_e5 rfl 8 (by decide) (hts (.fieldLink RX5 49 "GameCafe" "now" "I") (List.mem_of_getElem? (i := 1) rfl)) (fun _ h9 => h9) rfl dX5_minute_1 ?_
  exact W.iret (v := (S 5 0 2)) hx hb hr (fun t9 ht9 hw9 => ⟨⟨(S 5 0 2), (), rfl, rfl, cf_W.re ht9 hW⟩, hS.F ht9⟩) hS.2.2 dX5_minute_4
set_option maxHeartbeats 4000000 in
set_option maxRecDepth 100000 in
/-- X5_copies -/
theorem c_X5_copies (l : Launch) (D : va_G) (cT : Nat → ClassId) (z : Nat) (ad : cf_Ad) (nc ng : Nat) (S : cf_S) (P : cf_Pt) (O : Nat → Int64)  : Met l yX5_copies wsX5_copies ({ frames := 0, cells := 0, slots := 0, locals := 0 }) (va_Pc [.ref (ad 5 0)] (cf_P D cT z (cf_E cT nc ng S P O ad) ad)) (cf_Qi D z (fun (r : Int32) (_ : Unit) => r = S 5 0 0) (fun _ => (cf_E cT nc ng S P O ad)) (fun _ => ad)) 0 0 (fun q => z ≤ q) := by
  refine Met.ofW (cc := cX5_copies) (maxL := 1) (ret := (some .int)) (by decide) rfl ?_
  intro p e s m args below meth c s₁ B hml hv
  obtain ⟨rfl, hW, hT⟩ := hv
  have hx := B.exec
  have hb := B.bytes
  have hr := B.returns
  have hts := atoms_spec (ws := wsX5_copies) B.pre
  have hown : s.vm.findClass RX5 = some m.cls := findClass_of_methodNamed B.named
  have hlocks := B.notSynchronized
  have hS : va_S (fun q => z ≤ q) s.heap s.heap [] := va_S.rf
  have hl := lv_entry ([.ref (ad 5 0)]) (n := 1) (Nat.le_of_ble_eq_true rfl)
  rw [lg_entry_eq]
  generalize (lg_sl ([.ref (ad 5 0)]) ++ List.replicate (1 - (lg_sl ([.ref (ad 5 0)])).length) Slot.unset).toArray = ls at hl ⊢
  have hl : lv_has ls 1 [(0, .ref (ad 5 0))] := hl
  skip
  refine lv_aload_n hx hb dX5_copies_0 rfl (lv_at hl 0 rfl) ?_
  refine cf_get (v := .int (S 5 0 0)) (ci := 5) (C := RX5) (T := TX5) (N := 9) hx hb hts (fun _ h => List.mem_cons_of_mem _ (List.mem_append_right _ (h))) hown hT.1 hW cf_e5 rfl 6 (by decide) (hts (.fieldLink RX5 42 "GameCafe" "bought" "I") (List.mem_of_getElem? (i := 1) rfl)) (fun _ h9 => h9) rfl dX5_copies_1 ?_
  exact W.iret (v := (S 5 0 0)) hx hb hr (fun t9 ht9 hw9 => ⟨⟨(S 5 0 0), (), rfl, rfl, cf_W.re ht9 hW⟩, hS.F ht9⟩) hS.2.2 dX5_copies_4
set_option maxHeartbeats 4000000 in
set_option maxRecDepth 100000 in
/-- X5_parts -/
theorem c_X5_parts (l : Launch) (D : va_G) (cT : Nat → ClassId) (z : Nat) (ad : cf_Ad) (nc ng : Nat) (S : cf_S) (P : cf_Pt) (O : Nat → Int64) (hl0 : l.stackTraces = false) (x y : Int32) (hnc : nc ≤ 15) (hO : ∀ j, j < 15 → P 14 0 j = if j < nc then j + 1 else 0) : vx_Met l yX5_parts wsX5_parts ({ frames := 7, cells := 2, slots := 12, locals := 103 }) (va_Pc [.ref (ad 5 0), .int x, .int y] (cf_P D cT z (cf_E cT nc ng S P O ad) ad)) (cf_Qi D z (fun (r : Int32) (_ : Unit) => ∃ cp k : Nat, cp < nc ∧ x = nI cp ∧ k < 4 ∧ y = nI k ∧ r = S 7 cp k) (fun _ => (cf_E cT nc ng S P O ad)) (fun _ => ad)) (cf_X D z (cf_E cT nc ng S P O ad) ad (cf_x1 (cf_ix x nc ∧ cf_ix y 4))) 2 12 (fun q => z ≤ q) := by
  refine vx_ofW (cc := cX5_parts) (maxL := 4) (ret := (some .int)) (by decide) rfl ?_
  intro p e s m args below meth c s₁ B hml htab hv
  obtain ⟨rfl, hW, hT⟩ := hv
  have hx := B.exec
  have hb := B.bytes
  have hr := B.returns
  have hts := atoms_spec (ws := wsX5_parts) B.pre
  have hown : s.vm.findClass RX5 = some m.cls := findClass_of_methodNamed B.named
  have hlocks := B.notSynchronized
  have hS : va_S (fun q => z ≤ q) s.heap s.heap [] := va_S.rf
  have hl := lv_entry ([.ref (ad 5 0), .int x, .int y]) (n := 4) (Nat.le_of_ble_eq_true rfl)
  rw [lg_entry_eq]
  generalize (lg_sl ([.ref (ad 5 0), .int x, .int y]) ++ List.replicate (4 - (lg_sl ([.ref (ad 5 0), .int x, .int y])).length) Slot.unset).toArray = ls at hl ⊢
  have hl : lv_has ls 4 [(0, .ref (ad 5 0)), (1, .int x), (2, .int y)] := hl
  skip
  refine lv_aload_n hx hb dX5_parts_0 rfl (lv_at hl 0 rfl) ?_
  refine lv_iload_n hx hb dX5_parts_1 rfl (lv_at hl 1 rfl) ?_
  refine vx_callq (vx_runV (As := [.int x]) (rest := []) ⟨hx, hb, hml, hown, hts⟩ (c_X5_copyNumbered l D cT z ad nc ng S P O hl0 x hnc hO) (cwV 1 hts gX5_parts_X5_copyNumbered rfl rfl rfl (by decide +kernel) ⟨Nat.le_of_ble_eq_true rfl, Nat.le_of_ble_eq_true rfl⟩) (cf_preV (T := TX5) (N := 9) hT hS hW cf_e5 rfl) rfl rfl hl.1 rfl (lv_room (Nat.le_of_ble_eq_true rfl)) dX5_parts_2 ⟨Nat.le_of_ble_eq_true rfl, Nat.le_of_ble_eq_true rfl⟩) hS (fun _ _ h => h) (fun _ h => h) (fun _ _ h => h) (fun E9 ce q9 u9 t9 H locs ht hvm hu hB hz1 hk1 hS hce hcv hcl => ?_) (fun r1 ur1 t9 H locs ht hvm hw hW hz1 hk1 hS => ?_)
  · obtain ⟨hp, hW⟩ := hB
    have hW := cf_W.er ht hW
    exact cf_pass htab hlocks hce hcv hcl hS hW (⟨hp.1, fun q => hp.2 q.1⟩) ⟨Nat.le_of_ble_eq_true rfl, Nat.le_of_ble_eq_true rfl⟩
  have hW := cf_W.er ht hW
  obtain ⟨cp, hc, hxc, rfl⟩ := hw
  refine lv_astore_n (lv' := [(3, .ref (ad 0 cp)), (0, .ref (ad 5 0)), (1, .int x), (2, .int y)]) hx hb dX5_parts_5 rfl hl (by decide) rfl (fun ls hl => ?_)
  refine lv_iload_n hx hb dX5_parts_6 rfl (lv_at hl 3 rfl) ?_
  refine lv_iconst (v := 4) hx hb dX5_parts_7 (by decide) ?_
  refine vx_callv (vx_runS (As := [.int y, .int 4]) (rest := []) ⟨hx, hb, hml, hown, hts⟩ (c_X5_checkNumber l D cT z ad _ y 4 4 (by decide) rfl hl0) (va_cwS 2 hts gX5_parts_X5_checkNumber rfl rfl rfl (by decide +kernel) ⟨Nat.le_of_ble_eq_true rfl, Nat.le_of_ble_eq_true rfl⟩) (cf_preS hT hS hW) rfl rfl hl.1 rfl (lv_room (Nat.le_of_ble_eq_true rfl)) dX5_parts_8 ⟨Nat.le_of_ble_eq_true rfl, Nat.le_of_ble_eq_true rfl⟩) hS (fun _ _ h => h) (fun _ h => h) (fun _ _ h => h) (fun E9 ce q9 u9 t9 H locs ht hvm hu hB hz1 hk1 hS hce hcv hcl => ?_) (fun ur2 t9 H locs ht hvm hw hW hz1 hk1 hS => ?_)
  · obtain ⟨hp, hW⟩ := hB
    have hW := cf_W.er ht hW
    exact cf_pass htab hlocks hce hcv hcl hS hW (⟨hp.1, fun q => hp.2 q.2⟩) ⟨Nat.le_of_ble_eq_true rfl, Nat.le_of_ble_eq_true rfl⟩
  have hW := cf_W.er ht hW
  have hy := hw
  obtain ⟨k, hk, hyk⟩ := hy
  refine lv_aload_n hx hb dX5_parts_11 rfl (lv_at hl 0 rfl) ?_
  refine cf_get (v := .ref (ad 7 cp)) (ci := 0) (C := RX0) (T := TX0) (N := 4) hx hb hts (fun _ h => List.mem_cons_of_mem _ (List.mem_append_left _ (List.mem_append_left _ (List.mem_append_right _ (h))))) hown hT.1 hW (cf_e0 hc) rfl 2 (by decide) (hts (.fieldLink RX5 106 "GameCafe$Copy" "has" "[I") (List.mem_of_getElem? (i := 1) rfl)) (fun _ h9 => h9) rfl dX5_parts_12 ?_
  refine lv_iload_n hx hb dX5_parts_15 rfl (lv_at hl 3 rfl) ?_
  refine cf_ildN (t0 := 0) (n := 4) (f := S 7 cp) (v := (S 7 cp k)) hx hb hT.1 hW (cf_e7 hc) rfl k hyk hk (by decide) dX5_parts_16 rfl ?_
  refine vx_ret ?_
  refine W.widen (k := 2) (n := 12) (by omega) (by omega) ?_
  exact W.iret (v := (S 7 cp k)) hx hb hr (fun t9 ht9 hw9 => ⟨⟨(S 7 cp k), (), rfl, ⟨cp, k, hc, hxc, hk, hyk, rfl⟩, cf_W.re ht9 hW⟩, hS.F ht9⟩) hS.2.2 dX5_parts_17
set_option maxHeartbeats 4000000 in
set_option maxRecDepth 100000 in
/-- X5_canBePlayed -/
theorem c_X5_canBePlayed (l : Launch) (D : va_G) (cT : Nat → ClassId) (z : Nat) (ad : cf_Ad) (nc ng : Nat) (S : cf_S) (P : cf_Pt) (O : Nat → Int64) (hl0 : l.stackTraces = false) (x : Int32) (hnc : nc ≤ 15) (hO : ∀ j, j < 15 → P 14 0 j = if j < nc then j + 1 else 0) (hG : ∀ j, j < nc → P 0 j 0 < 5) : vx_Met l yX5_canBePlayed wsX5_canBePlayed ({ frames := 7, cells := 1, slots := 6, locals := 103 }) (va_Pc [.ref (ad 5 0), .int x] (cf_P D cT z (cf_E cT nc ng S P O ad) ad)) (cf_Qi D z (fun (r : Int32) (_ : Unit) => ∃ cp : Nat, cp < nc ∧ x = nI cp ∧ cf_B r (cf_play (S 7 cp) (S 9 (P 0 cp 0)))) (fun _ => (cf_E cT nc ng S P O ad)) (fun _ => ad)) (cf_X D z (cf_E cT nc ng S P O ad) ad (cf_x1 (cf_ix x nc))) 1 6 (fun q => z ≤ q) := by
  refine vx_ofW (cc := cX5_canBePlayed) (maxL := 2) (ret := (some .boolean)) (by decide) rfl ?_
  intro p e s m args below meth c s₁ B hml htab hv
  obtain ⟨rfl, hW, hT⟩ := hv
  have hx := B.exec
  have hb := B.bytes
  have hr := B.returns
  have hts := atoms_spec (ws := wsX5_canBePlayed) B.pre
  have hown : s.vm.findClass RX5 = some m.cls := findClass_of_methodNamed B.named
  have hlocks := B.notSynchronized
  have hS : va_S (fun q => z ≤ q) s.heap s.heap [] := va_S.rf
  have hl := lv_entry ([.ref (ad 5 0), .int x]) (n := 2) (Nat.le_of_ble_eq_true rfl)
  rw [lg_entry_eq]
  generalize (lg_sl ([.ref (ad 5 0), .int x]) ++ List.replicate (2 - (lg_sl ([.ref (ad 5 0), .int x])).length) Slot.unset).toArray = ls at hl ⊢
  have hl : lv_has ls 2 [(0, .ref (ad 5 0)), (1, .int x)] := hl
  skip
  refine lv_aload_n hx hb dX5_canBePlayed_0 rfl (lv_at hl 0 rfl) ?_
  refine lv_iload_n hx hb dX5_canBePlayed_1 rfl (lv_at hl 1 rfl) ?_
  refine vx_callq (vx_runV (As := [.int x]) (rest := []) ⟨hx, hb, hml, hown, hts⟩ (c_X5_copyNumbered l D cT z ad nc ng S P O hl0 x hnc hO) (cwV 1 hts gX5_canBePlayed_X5_copyNumbered rfl rfl rfl (by decide +kernel) ⟨Nat.le_of_ble_eq_true rfl, Nat.le_of_ble_eq_true rfl⟩) (cf_preV (T := TX5) (N := 9) hT hS hW cf_e5 rfl) rfl rfl hl.1 rfl (lv_room (Nat.le_of_ble_eq_true rfl)) dX5_canBePlayed_2 ⟨Nat.le_of_ble_eq_true rfl, Nat.le_of_ble_eq_true rfl⟩) hS (fun _ _ h => h) (fun _ h => h) (fun _ _ h => h) (fun E9 ce q9 u9 t9 H locs ht hvm hu hB hz1 hk1 hS hce hcv hcl => ?_) (fun r1 ur1 t9 H locs ht hvm hw hW hz1 hk1 hS => ?_)
  · obtain ⟨hp, hW⟩ := hB
    have hW := cf_W.er ht hW
    exact cf_pass htab hlocks hce hcv hcl hS hW (hp) ⟨Nat.le_of_ble_eq_true rfl, Nat.le_of_ble_eq_true rfl⟩
  have hW := cf_W.er ht hW
  obtain ⟨cp, hc, hxc, rfl⟩ := hw
  refine va_calli (va_runV (As := []) (rest := []) ⟨hx, hb, hml, hown, hts⟩ (c_X0_isPlayable l D cT z ad nc ng S P O hc (hG cp hc)) (cwV 0 hts gX5_canBePlayed_X0_isPlayable rfl rfl rfl (by decide +kernel) ⟨Nat.le_of_ble_eq_true rfl, Nat.le_of_ble_eq_true rfl⟩) (cf_preV (T := TX0) (N := 4) hT hS hW (cf_e0 hc) rfl) rfl rfl hl.1 rfl (lv_room (Nat.le_of_ble_eq_true rfl)) dX5_canBePlayed_5 ⟨Nat.le_of_ble_eq_true rfl, Nat.le_of_ble_eq_true rfl⟩) hS (fun _ _ h => h) (fun _ h => h) (fun r2 ur2 t9 H locs ht hvm hw hW hz1 hk1 hS => ?_)
  have hW := cf_W.er ht hW
  refine vx_ret ?_
  refine W.widen (k := 1) (n := 6) (by omega) (by omega) ?_
  exact W.zret (v := r2) (ty := .boolean) hx hb hr hw.nar (fun t9 ht9 hw9 => ⟨⟨r2, (), rfl, ⟨cp, hc, hxc, hw⟩, cf_W.re ht9 hW⟩, hS.F ht9⟩) hS.2.2 dX5_canBePlayed_8
set_option maxHeartbeats 4000000 in
set_option maxRecDepth 100000 in
/-- X5_whereIs -/
theorem c_X5_whereIs (l : Launch) (D : va_G) (cT : Nat → ClassId) (z : Nat) (ad : cf_Ad) (nc ng : Nat) (S : cf_S) (P : cf_Pt) (O : Nat → Int64) (hl0 : l.stackTraces = false) (x : Int32) (hnc : nc ≤ 15) (hO : ∀ j, j < 15 → P 14 0 j = if j < nc then j + 1 else 0) : vx_Met l yX5_whereIs wsX5_whereIs ({ frames := 7, cells := 1, slots := 6, locals := 103 }) (va_Pc [.ref (ad 5 0), .int x] (cf_P D cT z (cf_E cT nc ng S P O ad) ad)) (cf_Qi D z (fun (r : Int32) (_ : Unit) => ∃ cp : Nat, cp < nc ∧ x = nI cp ∧ r = S 0 cp 0) (fun _ => (cf_E cT nc ng S P O ad)) (fun _ => ad)) (cf_X D z (cf_E cT nc ng S P O ad) ad (cf_x1 (cf_ix x nc))) 1 6 (fun q => z ≤ q) := by
  refine vx_ofW (cc := cX5_whereIs) (maxL := 2) (ret := (some .int)) (by decide) rfl ?_
  intro p e s m args below meth c s₁ B hml htab hv
  obtain ⟨rfl, hW, hT⟩ := hv
  have hx := B.exec
  have hb := B.bytes
  have hr := B.returns
  have hts := atoms_spec (ws := wsX5_whereIs) B.pre
  have hown : s.vm.findClass RX5 = some m.cls := findClass_of_methodNamed B.named
  have hlocks := B.notSynchronized
  have hS : va_S (fun q => z ≤ q) s.heap s.heap [] := va_S.rf
  have hl := lv_entry ([.ref (ad 5 0), .int x]) (n := 2) (Nat.le_of_ble_eq_true rfl)
  rw [lg_entry_eq]
  generalize (lg_sl ([.ref (ad 5 0), .int x]) ++ List.replicate (2 - (lg_sl ([.ref (ad 5 0), .int x])).length) Slot.unset).toArray = ls at hl ⊢
  have hl : lv_has ls 2 [(0, .ref (ad 5 0)), (1, .int x)] := hl
  skip
  refine lv_aload_n hx hb dX5_whereIs_0 rfl (lv_at hl 0 rfl) ?_
  refine lv_iload_n hx hb dX5_whereIs_1 rfl (lv_at hl 1 rfl) ?_
  refine vx_callq (vx_runV (As := [.int x]) (rest := []) ⟨hx, hb, hml, hown, hts⟩ (c_X5_copyNumbered l D cT z ad nc ng S P O hl0 x hnc hO) (cwV 1 hts gX5_whereIs_X5_copyNumbered rfl rfl rfl (by decide +kernel) ⟨Nat.le_of_ble_eq_true rfl, Nat.le_of_ble_eq_true rfl⟩) (cf_preV (T := TX5) (N := 9) hT hS hW cf_e5 rfl) rfl rfl hl.1 rfl (lv_room (Nat.le_of_ble_eq_true rfl)) dX5_whereIs_2 ⟨Nat.le_of_ble_eq_true rfl, Nat.le_of_ble_eq_true rfl⟩) hS (fun _ _ h => h) (fun _ h => h) (fun _ _ h => h) (fun E9 ce q9 u9 t9 H locs ht hvm hu hB hz1 hk1 hS hce hcv hcl => ?_) (fun r1 ur1 t9 H locs ht hvm hw hW hz1 hk1 hS => ?_)
  · obtain ⟨hp, hW⟩ := hB
    have hW := cf_W.er ht hW
    exact cf_pass htab hlocks hce hcv hcl hS hW (hp) ⟨Nat.le_of_ble_eq_true rfl, Nat.le_of_ble_eq_true rfl⟩
  have hW := cf_W.er ht hW
  obtain ⟨cp, hc, hxc, rfl⟩ := hw
  refine cf_get (v := .int (S 0 cp 0)) (ci := 0) (C := RX0) (T := TX0) (N := 4) hx hb hts (fun _ h => List.mem_cons_of_mem _ (List.mem_append_left _ (List.mem_append_left _ (List.mem_append_right _ (h))))) hown hT.1 hW (cf_e0 hc) rfl 3 (by decide) (hts (.fieldLink RX5 109 "GameCafe$Copy" "place" "I") (List.mem_of_getElem? (i := 1) rfl)) (fun _ h9 => h9) rfl dX5_whereIs_5 ?_
  refine vx_ret ?_
  refine W.widen (k := 1) (n := 6) (by omega) (by omega) ?_
  exact W.iret (v := (S 0 cp 0)) hx hb hr (fun t9 ht9 hw9 => ⟨⟨(S 0 cp 0), (), rfl, ⟨cp, hc, hxc, rfl⟩, cf_W.re ht9 hW⟩, hS.F ht9⟩) hS.2.2 dX5_whereIs_8
set_option maxHeartbeats 4000000 in
set_option maxRecDepth 100000 in
/-- X5_at -/
theorem c_X5_at (l : Launch) (D : va_G) (cT : Nat → ClassId) (z : Nat) (ad : cf_Ad) (nc ng : Nat) (S : cf_S) (P : cf_Pt) (O : Nat → Int64) (hl0 : l.stackTraces = false) (x : Int32) : vx_Met l yX5_at wsX5_at ({ frames := 7, cells := 1, slots := 6, locals := 103 }) (va_Pc [.ref (ad 5 0), .int x] (cf_P D cT z (cf_E cT nc ng S P O ad) ad)) (cf_Qi D z (fun (r : Int32) (_ : Unit) => ∃ j : Nat, j < 6 ∧ x = nI j ∧ r = S 3 j 1) (fun _ => (cf_E cT nc ng S P O ad)) (fun _ => ad)) (cf_X D z (cf_E cT nc ng S P O ad) ad (cf_x1 (cf_ix x 6))) 1 6 (fun q => z ≤ q) := by
  refine vx_ofW (cc := cX5_at) (maxL := 2) (ret := (some .int)) (by decide) rfl ?_
  intro p e s m args below meth c s₁ B hml htab hv
  obtain ⟨rfl, hW, hT⟩ := hv
  have hx := B.exec
  have hb := B.bytes
  have hr := B.returns
  have hts := atoms_spec (ws := wsX5_at) B.pre
  have hown : s.vm.findClass RX5 = some m.cls := findClass_of_methodNamed B.named
  have hlocks := B.notSynchronized
  have hS : va_S (fun q => z ≤ q) s.heap s.heap [] := va_S.rf
  have hl := lv_entry ([.ref (ad 5 0), .int x]) (n := 2) (Nat.le_of_ble_eq_true rfl)
  rw [lg_entry_eq]
  generalize (lg_sl ([.ref (ad 5 0), .int x]) ++ List.replicate (2 - (lg_sl ([.ref (ad 5 0), .int x])).length) Slot.unset).toArray = ls at hl ⊢
  have hl : lv_has ls 2 [(0, .ref (ad 5 0)), (1, .int x)] := hl
  skip
  refine lv_iload_n hx hb dX5_at_0 rfl (lv_at hl 1 rfl) ?_
  refine lv_bipush (v := 6) hx hb dX5_at_1 (by decide) ?_
  refine vx_callv (vx_runS (As := [.int x, .int 6]) (rest := []) ⟨hx, hb, hml, hown, hts⟩ (c_X5_checkNumber l D cT z ad _ x 6 6 (by decide) rfl hl0) (va_cwS 2 hts gX5_at_X5_checkNumber rfl rfl rfl (by decide +kernel) ⟨Nat.le_of_ble_eq_true rfl, Nat.le_of_ble_eq_true rfl⟩) (cf_preS hT hS hW) rfl rfl hl.1 rfl (lv_room (Nat.le_of_ble_eq_true rfl)) dX5_at_3 ⟨Nat.le_of_ble_eq_true rfl, Nat.le_of_ble_eq_true rfl⟩) hS (fun _ _ h => h) (fun _ h => h) (fun _ _ h => h) (fun E9 ce q9 u9 t9 H locs ht hvm hu hB hz1 hk1 hS hce hcv hcl => ?_) (fun ur1 t9 H locs ht hvm hw hW hz1 hk1 hS => ?_)
  · obtain ⟨hp, hW⟩ := hB
    have hW := cf_W.er ht hW
    exact cf_pass htab hlocks hce hcv hcl hS hW (hp) ⟨Nat.le_of_ble_eq_true rfl, Nat.le_of_ble_eq_true rfl⟩
  have hW := cf_W.er ht hW
  have hi := hw
  obtain ⟨j, hj, hxj⟩ := hi
  refine lv_aload_n hx hb dX5_at_6 rfl (lv_at hl 0 rfl) ?_
  refine cf_get (v := .ref (ad 12 0)) (ci := 5) (C := RX5) (T := TX5) (N := 9) hx hb hts (fun _ h => List.mem_cons_of_mem _ (List.mem_append_left _ (List.mem_append_left _ (List.mem_append_right _ (h))))) hown hT.1 hW cf_e5 rfl 1 (by decide) (hts (.fieldLink RX5 17 "GameCafe" "tables" "[LGameCafe$Table;") (List.mem_of_getElem? (i := 1) rfl)) (fun _ h9 => h9) rfl dX5_at_7 ?_
  refine lv_iload_n hx hb dX5_at_10 rfl (lv_at hl 1 rfl) ?_
  refine cf_aldN (t0 := 4) (C := RX3) (n := 6) (v := .ref (ad 3 j)) hx hb hT.1 hW cf_e12 rfl j hxj hj (by decide) dX5_at_11 rfl ?_
  refine cf_get (v := .int (S 3 j 1)) (ci := 3) (C := RX3) (T := TX3) (N := 3) hx hb hts (fun _ h => List.mem_cons_of_mem _ (List.mem_append_left _ (List.mem_append_right _ (h)))) hown hT.1 hW (cf_e3 hj) rfl 2 (by decide) (hts (.fieldLink RX5 80 "GameCafe$Table" "group" "I") (List.mem_of_getElem? (i := 2) rfl)) (fun _ h9 => h9) rfl dX5_at_12 ?_
  refine vx_ret ?_
  refine W.widen (k := 1) (n := 6) (by omega) (by omega) ?_
  exact W.iret (v := (S 3 j 1)) hx hb hr (fun t9 ht9 hw9 => ⟨⟨(S 3 j 1), (), rfl, ⟨j, hj, hxj, rfl⟩, cf_W.re ht9 hW⟩, hS.F ht9⟩) hS.2.2 dX5_at_15
set_option maxHeartbeats 4000000 in
set_option maxRecDepth 100000 in
/-- X5_copyOf -/
theorem c_X5_copyOf (l : Launch) (D : va_G) (cT : Nat → ClassId) (z : Nat) (ad : cf_Ad) (nc ng : Nat) (S : cf_S) (P : cf_Pt) (O : Nat → Int64) (hl0 : l.stackTraces = false) (x : Int32) (hQ : ∀ j, j < 60 → P 15 0 j = 0 ∨ (P 15 0 j = j + 1 ∧ j < ng)) (hL : ∀ j, j < ng → P 2 j 0 < nc ∧ P 2 j 1 < 6) : vx_Met l yX5_copyOf wsX5_copyOf ({ frames := 7, cells := 1, slots := 6, locals := 103 }) (va_Pc [.ref (ad 5 0), .int x] (cf_P D cT z (cf_E cT nc ng S P O ad) ad)) (cf_Qi D z (fun (r : Int32) (_ : Unit) => ∃ gp : Nat, gp < 60 ∧ x = nI gp ∧ P 15 0 gp = gp + 1 ∧ gp < ng ∧ r = nI (P 2 gp 0)) (fun _ => (cf_E cT nc ng S P O ad)) (fun _ => ad)) (cf_X D z (cf_E cT nc ng S P O ad) ad (cf_x1 (cf_lv P x))) 1 6 (fun q => z ≤ q) := by
  refine vx_ofW (cc := cX5_copyOf) (maxL := 2) (ret := (some .int)) (by decide) rfl ?_
  intro p e s m args below meth c s₁ B hml htab hv
  obtain ⟨rfl, hW, hT⟩ := hv
  have hx := B.exec
  have hb := B.bytes
  have hr := B.returns
  have hts := atoms_spec (ws := wsX5_copyOf) B.pre
  have hown : s.vm.findClass RX5 = some m.cls := findClass_of_methodNamed B.named
  have hlocks := B.notSynchronized
  have hS : va_S (fun q => z ≤ q) s.heap s.heap [] := va_S.rf
  have hl := lv_entry ([.ref (ad 5 0), .int x]) (n := 2) (Nat.le_of_ble_eq_true rfl)
  rw [lg_entry_eq]
  generalize (lg_sl ([.ref (ad 5 0), .int x]) ++ List.replicate (2 - (lg_sl ([.ref (ad 5 0), .int x])).length) Slot.unset).toArray = ls at hl ⊢
  have hl : lv_has ls 2 [(0, .ref (ad 5 0)), (1, .int x)] := hl
  skip
  refine lv_aload_n hx hb dX5_copyOf_0 rfl (lv_at hl 0 rfl) ?_
  refine lv_iload_n hx hb dX5_copyOf_1 rfl (lv_at hl 1 rfl) ?_
  refine vx_callq (vx_runV (As := [.int x]) (rest := []) ⟨hx, hb, hml, hown, hts⟩ (c_X5_groupNumbered l D cT z ad nc ng S P O hl0 x hQ) (cwV 1 hts gX5_copyOf_X5_groupNumbered rfl rfl rfl (by decide +kernel) ⟨Nat.le_of_ble_eq_true rfl, Nat.le_of_ble_eq_true rfl⟩) (cf_preV (T := TX5) (N := 9) hT hS hW cf_e5 rfl) rfl rfl hl.1 rfl (lv_room (Nat.le_of_ble_eq_true rfl)) dX5_copyOf_2 ⟨Nat.le_of_ble_eq_true rfl, Nat.le_of_ble_eq_true rfl⟩) hS (fun _ _ h => h) (fun _ h => h) (fun _ _ h => h) (fun E9 ce q9 u9 t9 H locs ht hvm hu hB hz1 hk1 hS hce hcv hcl => ?_) (fun r1 ur1 t9 H locs ht hvm hw hW hz1 hk1 hS => ?_)
  · obtain ⟨hp, hW⟩ := hB
    have hW := cf_W.er ht hW
    exact cf_pass htab hlocks hce hcv hcl hS hW (hp) ⟨Nat.le_of_ble_eq_true rfl, Nat.le_of_ble_eq_true rfl⟩
  have hW := cf_W.er ht hW
  obtain ⟨gp, hg60, hxg, hgP, hgn, rfl⟩ := hw
  refine cf_get (v := .ref (ad 0 (P 2 gp 0))) (ci := 2) (C := RX2) (T := TX2) (N := 4) hx hb hts (fun _ h => List.mem_cons_of_mem _ (List.mem_append_left _ (List.mem_append_left _ (List.mem_append_left _ (List.mem_append_right _ (h)))))) hown hT.1 hW (cf_e2 hgn) rfl 0 (by decide) (hts (.fieldLink RX5 162 "GameCafe$Group" "copy" "LGameCafe$Copy;") (List.mem_of_getElem? (i := 1) rfl)) (fun _ h9 => h9) rfl dX5_copyOf_5 ?_
  refine cf_get (v := .int (nI (P 2 gp 0))) (ci := 0) (C := RX0) (T := TX0) (N := 4) hx hb hts (fun _ h => List.mem_cons_of_mem _ (List.mem_append_left _ (List.mem_append_left _ (List.mem_append_right _ (h))))) hown hT.1 hW (cf_e0 (hL gp hgn).1) rfl 0 (by decide) (hts (.fieldLink RX5 200 "GameCafe$Copy" "number" "I") (List.mem_of_getElem? (i := 2) rfl)) (fun _ h9 => h9) rfl dX5_copyOf_8 ?_
  refine vx_ret ?_
  refine W.widen (k := 1) (n := 6) (by omega) (by omega) ?_
  exact W.iret (v := (nI (P 2 gp 0))) hx hb hr (fun t9 ht9 hw9 => ⟨⟨(nI (P 2 gp 0)), (), rfl, ⟨gp, hg60, hxg, hgP, hgn, rfl⟩, cf_W.re ht9 hW⟩, hS.F ht9⟩) hS.2.2 dX5_copyOf_11
set_option maxHeartbeats 4000000 in
set_option maxRecDepth 100000 in
/-- X5_teaching -/
theorem c_X5_teaching (l : Launch) (D : va_G) (cT : Nat → ClassId) (z : Nat) (ad : cf_Ad) (nc ng : Nat) (S : cf_S) (P : cf_Pt) (O : Nat → Int64) (hl0 : l.stackTraces = false) (x : Int32) : vx_Met l yX5_teaching wsX5_teaching ({ frames := 7, cells := 1, slots := 6, locals := 103 }) (va_Pc [.ref (ad 5 0), .int x] (cf_P D cT z (cf_E cT nc ng S P O ad) ad)) (cf_Qi D z (fun (r : Int32) (_ : Unit) => ∃ j : Nat, j < 3 ∧ x = nI j ∧ r = if 0 < S 4 j 0 - S 5 0 2 then S 4 j 0 - S 5 0 2 else 0) (fun _ => (cf_E cT nc ng S P O ad)) (fun _ => ad)) (cf_X D z (cf_E cT nc ng S P O ad) ad (cf_x1 (cf_ix x 3))) 1 6 (fun q => z ≤ q) := by
  refine vx_ofW (cc := cX5_teaching) (maxL := 2) (ret := (some .int)) (by decide) rfl ?_
  intro p e s m args below meth c s₁ B hml htab hv
  obtain ⟨rfl, hW, hT⟩ := hv
  have hx := B.exec
  have hb := B.bytes
  have hr := B.returns
  have hts := atoms_spec (ws := wsX5_teaching) B.pre
  have hown : s.vm.findClass RX5 = some m.cls := findClass_of_methodNamed B.named
  have hlocks := B.notSynchronized
  have hS : va_S (fun q => z ≤ q) s.heap s.heap [] := va_S.rf
  have hl := lv_entry ([.ref (ad 5 0), .int x]) (n := 2) (Nat.le_of_ble_eq_true rfl)
  rw [lg_entry_eq]
  generalize (lg_sl ([.ref (ad 5 0), .int x]) ++ List.replicate (2 - (lg_sl ([.ref (ad 5 0), .int x])).length) Slot.unset).toArray = ls at hl ⊢
  have hl : lv_has ls 2 [(0, .ref (ad 5 0)), (1, .int x)] := hl
  skip
  refine lv_iload_n hx hb dX5_teaching_0 rfl (lv_at hl 1 rfl) ?_
  refine lv_iconst (v := 3) hx hb dX5_teaching_1 (by decide) ?_
  refine vx_callv (vx_runS (As := [.int x, .int 3]) (rest := []) ⟨hx, hb, hml, hown, hts⟩ (c_X5_checkNumber l D cT z ad _ x 3 3 (by decide) rfl hl0) (va_cwS 2 hts gX5_teaching_X5_checkNumber rfl rfl rfl (by decide +kernel) ⟨Nat.le_of_ble_eq_true rfl, Nat.le_of_ble_eq_true rfl⟩) (cf_preS hT hS hW) rfl rfl hl.1 rfl (lv_room (Nat.le_of_ble_eq_true rfl)) dX5_teaching_2 ⟨Nat.le_of_ble_eq_true rfl, Nat.le_of_ble_eq_true rfl⟩) hS (fun _ _ h => h) (fun _ h => h) (fun _ _ h => h) (fun E9 ce q9 u9 t9 H locs ht hvm hu hB hz1 hk1 hS hce hcv hcl => ?_) (fun ur1 t9 H locs ht hvm hw hW hz1 hk1 hS => ?_)
  · obtain ⟨hp, hW⟩ := hB
    have hW := cf_W.er ht hW
    exact cf_pass htab hlocks hce hcv hcl hS hW (hp) ⟨Nat.le_of_ble_eq_true rfl, Nat.le_of_ble_eq_true rfl⟩
  have hW := cf_W.er ht hW
  have hi := hw
  obtain ⟨j, hj, hxj⟩ := hi
  refine lv_iconst (v := 0) hx hb dX5_teaching_5 (by decide) ?_
  refine lv_aload_n hx hb dX5_teaching_6 rfl (lv_at hl 0 rfl) ?_
  refine cf_get (v := .ref (ad 13 0)) (ci := 5) (C := RX5) (T := TX5) (N := 9) hx hb hts (fun _ h => List.mem_cons_of_mem _ (List.mem_append_left _ (List.mem_append_left _ (List.mem_append_right _ (h))))) hown hT.1 hW cf_e5 rfl 2 (by decide) (hts (.fieldLink RX5 23 "GameCafe" "staff" "[LGameCafe$Teacher;") (List.mem_of_getElem? (i := 1) rfl)) (fun _ h9 => h9) rfl dX5_teaching_7 ?_
  refine lv_iload_n hx hb dX5_teaching_10 rfl (lv_at hl 1 rfl) ?_
  refine cf_aldN (t0 := 5) (C := RX4) (n := 3) (v := .ref (ad 4 j)) hx hb hT.1 hW cf_e13 rfl j hxj hj (by decide) dX5_teaching_11 rfl ?_
  refine cf_get (v := .int (S 4 j 0)) (ci := 4) (C := RX4) (T := TX4) (N := 2) hx hb hts (fun _ h => List.mem_cons_of_mem _ (List.mem_append_left _ (List.mem_append_right _ (h)))) hown hT.1 hW (cf_e4 hj) rfl 1 (by decide) (hts (.fieldLink RX5 149 "GameCafe$Teacher" "busyUntil" "I") (List.mem_of_getElem? (i := 2) rfl)) (fun _ h9 => h9) rfl dX5_teaching_12 ?_
  refine lv_aload_n hx hb dX5_teaching_15 rfl (lv_at hl 0 rfl) ?_
  refine cf_get (v := .int (S 5 0 2)) (ci := 5) (C := RX5) (T := TX5) (N := 9) hx hb hts (fun _ h => List.mem_cons_of_mem _ (List.mem_append_left _ (List.mem_append_left _ (List.mem_append_right _ (h))))) hown hT.1 hW cf_e5 rfl 8 (by decide) (hts (.fieldLink RX5 49 "GameCafe" "now" "I") (List.mem_of_getElem? (i := 3) rfl)) (fun _ h9 => h9) rfl dX5_teaching_16 ?_
  refine lv_isub hx hb dX5_teaching_19 ?_
  refine va_mmax hx hb (hml.trans hl.1.symm) hown (hts (.methodLink RX5 201 Lib.Math.max.name) (List.mem_of_getElem? (i := 4) rfl)) (hts (.static Lib.Math.max.name) (List.mem_of_getElem? (i := 5) rfl)) (hts (.initialized "java/lang/Math") (List.mem_of_getElem? (i := 6) rfl)) (hts (.code Lib.Math.max.name Lib.Math.max.code 2 (some .int)) (List.mem_of_getElem? (i := 7) rfl)) (by decide) (by decide) (by decide) (by decide) dX5_teaching_20 ?_
  refine vx_ret ?_
  refine W.widen (k := 1) (n := 6) (by omega) (by omega) ?_
  exact W.iret (v := (if 0 < ((S 4 j 0) - (S 5 0 2)) then ((S 4 j 0) - (S 5 0 2)) else 0)) hx hb hr (fun t9 ht9 hw9 => ⟨⟨(if 0 < ((S 4 j 0) - (S 5 0 2)) then ((S 4 j 0) - (S 5 0 2)) else 0), (), rfl, ⟨j, hj, hxj, rfl⟩, cf_W.re ht9 hW⟩, hS.F ht9⟩) hS.2.2 dX5_teaching_23
set_option maxHeartbeats 4000000 in
set_option maxRecDepth 100000 in
/-- X5_plays -/
theorem c_X5_plays (l : Launch) (D : va_G) (cT : Nat → ClassId) (z : Nat) (ad : cf_Ad) (nc ng : Nat) (S : cf_S) (P : cf_Pt) (O : Nat → Int64) (hl0 : l.stackTraces = false) (x : Int32) : vx_Met l yX5_plays wsX5_plays ({ frames := 7, cells := 1, slots := 6, locals := 103 }) (va_Pc [.ref (ad 5 0), .int x] (cf_P D cT z (cf_E cT nc ng S P O ad) ad)) (cf_Qi D z (fun (r : Int32) (_ : Unit) => ∃ j : Nat, j < 5 ∧ x = nI j ∧ r = S 1 j 3) (fun _ => (cf_E cT nc ng S P O ad)) (fun _ => ad)) (cf_X D z (cf_E cT nc ng S P O ad) ad (cf_x1 (cf_ix x 5))) 1 6 (fun q => z ≤ q) := by
  refine vx_ofW (cc := cX5_plays) (maxL := 2) (ret := (some .int)) (by decide) rfl ?_
  intro p e s m args below meth c s₁ B hml htab hv
  obtain ⟨rfl, hW, hT⟩ := hv
  have hx := B.exec
  have hb := B.bytes
  have hr := B.returns
  have hts := atoms_spec (ws := wsX5_plays) B.pre
  have hown : s.vm.findClass RX5 = some m.cls := findClass_of_methodNamed B.named
  have hlocks := B.notSynchronized
  have hS : va_S (fun q => z ≤ q) s.heap s.heap [] := va_S.rf
  have hl := lv_entry ([.ref (ad 5 0), .int x]) (n := 2) (Nat.le_of_ble_eq_true rfl)
  rw [lg_entry_eq]
  generalize (lg_sl ([.ref (ad 5 0), .int x]) ++ List.replicate (2 - (lg_sl ([.ref (ad 5 0), .int x])).length) Slot.unset).toArray = ls at hl ⊢
  have hl : lv_has ls 2 [(0, .ref (ad 5 0)), (1, .int x)] := hl
  skip
  refine lv_iload_n hx hb dX5_plays_0 rfl (lv_at hl 1 rfl) ?_
  refine lv_iconst (v := 5) hx hb dX5_plays_1 (by decide) ?_
  refine vx_callv (vx_runS (As := [.int x, .int 5]) (rest := []) ⟨hx, hb, hml, hown, hts⟩ (c_X5_checkNumber l D cT z ad _ x 5 5 (by decide) rfl hl0) (va_cwS 2 hts gX5_plays_X5_checkNumber rfl rfl rfl (by decide +kernel) ⟨Nat.le_of_ble_eq_true rfl, Nat.le_of_ble_eq_true rfl⟩) (cf_preS hT hS hW) rfl rfl hl.1 rfl (lv_room (Nat.le_of_ble_eq_true rfl)) dX5_plays_2 ⟨Nat.le_of_ble_eq_true rfl, Nat.le_of_ble_eq_true rfl⟩) hS (fun _ _ h => h) (fun _ h => h) (fun _ _ h => h) (fun E9 ce q9 u9 t9 H locs ht hvm hu hB hz1 hk1 hS hce hcv hcl => ?_) (fun ur1 t9 H locs ht hvm hw hW hz1 hk1 hS => ?_)
  · obtain ⟨hp, hW⟩ := hB
    have hW := cf_W.er ht hW
    exact cf_pass htab hlocks hce hcv hcl hS hW (hp) ⟨Nat.le_of_ble_eq_true rfl, Nat.le_of_ble_eq_true rfl⟩
  have hW := cf_W.er ht hW
  have hi := hw
  obtain ⟨j, hj, hxj⟩ := hi
  refine lv_aload_n hx hb dX5_plays_5 rfl (lv_at hl 0 rfl) ?_
  refine cf_get (v := .ref (ad 11 0)) (ci := 5) (C := RX5) (T := TX5) (N := 9) hx hb hts (fun _ h => List.mem_cons_of_mem _ (List.mem_append_left _ (List.mem_append_left _ (List.mem_append_right _ (h))))) hown hT.1 hW cf_e5 rfl 0 (by decide) (hts (.fieldLink RX5 11 "GameCafe" "games" "[LGameCafe$Game;") (List.mem_of_getElem? (i := 1) rfl)) (fun _ h9 => h9) rfl dX5_plays_6 ?_
  refine lv_iload_n hx hb dX5_plays_9 rfl (lv_at hl 1 rfl) ?_
  refine cf_aldN (t0 := 3) (C := RX1) (n := 5) (v := .ref (ad 1 j)) hx hb hT.1 hW cf_e11 rfl j hxj hj (by decide) dX5_plays_10 rfl ?_
  refine cf_get (v := .int (S 1 j 3)) (ci := 1) (C := RX1) (T := TX1) (N := 6) hx hb hts (fun _ h => List.mem_cons_of_mem _ (List.mem_append_left _ (List.mem_append_right _ (h)))) hown hT.1 hW (cf_e1 hj) rfl 3 (by decide) (hts (.fieldLink RX5 175 "GameCafe$Game" "timesPlayed" "I") (List.mem_of_getElem? (i := 2) rfl)) (fun _ h9 => h9) rfl dX5_plays_11 ?_
  refine vx_ret ?_
  refine W.widen (k := 1) (n := 6) (by omega) (by omega) ?_
  exact W.iret (v := (S 1 j 3)) hx hb hr (fun t9 ht9 hw9 => ⟨⟨(S 1 j 3), (), rfl, ⟨j, hj, hxj, rfl⟩, cf_W.re ht9 hW⟩, hS.F ht9⟩) hS.2.2 dX5_plays_14
set_option maxHeartbeats 4000000 in
set_option maxRecDepth 100000 in
/-- X5_setGame -/
theorem c_X5_setGame (l : Launch) (D : va_G) (cT : Nat → ClassId) (z : Nat) (ad : cf_Ad) (nc ng : Nat) (S : cf_S) (P : cf_Pt) (O : Nat → Int64) (hl0 : l.stackTraces = false) (x a1 a2 a3 : Int32) : vx_Met l yX5_setGame wsX5_setGame ({ frames := 7, cells := 4, slots := 24, locals := 104 }) (va_Pc [.ref (ad 5 0), .int x, .int a1, .int a2, .int a3] (cf_P D cT z (cf_E cT nc ng S P O ad) ad)) (cf_Qv D z (fun (T : cf_S) => ∃ j : Nat, j < 5 ∧ x = nI j ∧ (cf_rg a1 1 8 ∧ cf_rg a2 a1 8 ∧ cf_rg a3 1 60) ∧ T = cf_s3 (cf_s3 (cf_s3 S 1 j 0 a1) 1 j 1 a2) 1 j 2 a3) (fun T => cf_E cT nc ng T P O ad) (fun _ => ad)) (cf_X D z (cf_E cT nc ng S P O ad) ad (cf_x12 (cf_ix x 5) (cf_rg a1 1 8 ∧ cf_rg a2 a1 8 ∧ cf_rg a3 1 60))) 4 24 (fun q => z ≤ q) := by
  refine vx_ofW (cc := cX5_setGame) (maxL := 6) (ret := none) (by decide) rfl ?_
  intro p e s m args below meth c s₁ B hml htab hv
  obtain ⟨rfl, hW, hT⟩ := hv
  have hx := B.exec
  have hb := B.bytes
  have hr := B.returns
  have hts := atoms_spec (ws := wsX5_setGame) B.pre
  have hown : s.vm.findClass RX5 = some m.cls := findClass_of_methodNamed B.named
  have hlocks := B.notSynchronized
  have hS : va_S (fun q => z ≤ q) s.heap s.heap [] := va_S.rf
  have hl := lv_entry ([.ref (ad 5 0), .int x, .int a1, .int a2, .int a3]) (n := 6) (Nat.le_of_ble_eq_true rfl)
  rw [lg_entry_eq]
  generalize (lg_sl ([.ref (ad 5 0), .int x, .int a1, .int a2, .int a3]) ++ List.replicate (6 - (lg_sl ([.ref (ad 5 0), .int x, .int a1, .int a2, .int a3])).length) Slot.unset).toArray = ls at hl ⊢
  have hl : lv_has ls 6 [(0, .ref (ad 5 0)), (1, .int x), (2, .int a1), (3, .int a2), (4, .int a3)] := hl
  skip
  refine lv_iload_n hx hb dX5_setGame_0 rfl (lv_at hl 1 rfl) ?_
  refine lv_iconst (v := 5) hx hb dX5_setGame_1 (by decide) ?_
  refine vx_callv (vx_runS (As := [.int x, .int 5]) (rest := []) ⟨hx, hb, hml, hown, hts⟩ (c_X5_checkNumber l D cT z ad _ x 5 5 (by decide) rfl hl0) (va_cwS 2 hts gX5_setGame_X5_checkNumber rfl rfl rfl (by decide +kernel) ⟨Nat.le_of_ble_eq_true rfl, Nat.le_of_ble_eq_true rfl⟩) (cf_preS hT hS hW) rfl rfl hl.1 rfl (lv_room (Nat.le_of_ble_eq_true rfl)) dX5_setGame_2 ⟨Nat.le_of_ble_eq_true rfl, Nat.le_of_ble_eq_true rfl⟩) hS (fun _ _ h => h) (fun _ h => h) (fun _ _ h => h) (fun E9 ce q9 u9 t9 H locs ht hvm hu hB hz1 hk1 hS hce hcv hcl => ?_) (fun ur1 t9 H locs ht hvm hw hW hz1 hk1 hS => ?_)
  · obtain ⟨hp, hW⟩ := hB
    have hW := cf_W.er ht hW
    exact cf_pass htab hlocks hce hcv hcl hS hW (Or.inl hp) ⟨Nat.le_of_ble_eq_true rfl, Nat.le_of_ble_eq_true rfl⟩
  have hW := cf_W.er ht hW
  have hi := hw
  refine lv_iload_n hx hb dX5_setGame_5 rfl (lv_at hl 2 rfl) ?_
  refine lv_iconst (v := 1) hx hb dX5_setGame_6 (by decide) ?_
  refine lv_bipush (v := 8) hx hb dX5_setGame_7 (by decide) ?_
  refine vx_callv (vx_runS (As := [.int a1, .int 1, .int 8]) (rest := []) ⟨hx, hb, hml, hown, hts⟩ (c_X5_checkRange l D cT z ad _ a1 1 8 hl0) (va_cwS 3 hts gX5_setGame_X5_checkRange rfl rfl rfl (by decide +kernel) ⟨Nat.le_of_ble_eq_true rfl, Nat.le_of_ble_eq_true rfl⟩) (cf_preS hT hS hW) rfl rfl hl.1 rfl (lv_room (Nat.le_of_ble_eq_true rfl)) dX5_setGame_9 ⟨Nat.le_of_ble_eq_true rfl, Nat.le_of_ble_eq_true rfl⟩) hS (fun _ _ h => h) (fun _ h => h) (fun _ _ h => h) (fun E9 ce q9 u9 t9 H locs ht hvm hu hB hz1 hk1 hS hce hcv hcl => ?_) (fun ur2 t9 H locs ht hvm hw hW hz1 hk1 hS => ?_)
  · obtain ⟨hp, hW⟩ := hB
    have hW := cf_W.er ht hW
    exact cf_pass htab hlocks hce hcv hcl hS hW (Or.inr ⟨hp.1, hi, fun q => hp.2 q.1⟩) ⟨Nat.le_of_ble_eq_true rfl, Nat.le_of_ble_eq_true rfl⟩
  have hW := cf_W.er ht hW
  have h1 := hw
  refine lv_iload_n hx hb dX5_setGame_12 rfl (lv_at hl 3 rfl) ?_
  refine lv_iload_n hx hb dX5_setGame_13 rfl (lv_at hl 2 rfl) ?_
  refine lv_bipush (v := 8) hx hb dX5_setGame_14 (by decide) ?_
  refine vx_callv (vx_runS (As := [.int a2, .int a1, .int 8]) (rest := []) ⟨hx, hb, hml, hown, hts⟩ (c_X5_checkRange l D cT z ad _ a2 a1 8 hl0) (va_cwS 3 hts gX5_setGame_X5_checkRange rfl rfl rfl (by decide +kernel) ⟨Nat.le_of_ble_eq_true rfl, Nat.le_of_ble_eq_true rfl⟩) (cf_preS hT hS hW) rfl rfl hl.1 rfl (lv_room (Nat.le_of_ble_eq_true rfl)) dX5_setGame_16 ⟨Nat.le_of_ble_eq_true rfl, Nat.le_of_ble_eq_true rfl⟩) hS (fun _ _ h => h) (fun _ h => h) (fun _ _ h => h) (fun E9 ce q9 u9 t9 H locs ht hvm hu hB hz1 hk1 hS hce hcv hcl => ?_) (fun ur3 t9 H locs ht hvm hw hW hz1 hk1 hS => ?_)
  · obtain ⟨hp, hW⟩ := hB
    have hW := cf_W.er ht hW
    exact cf_pass htab hlocks hce hcv hcl hS hW (Or.inr ⟨hp.1, hi, fun q => hp.2 q.2.1⟩) ⟨Nat.le_of_ble_eq_true rfl, Nat.le_of_ble_eq_true rfl⟩
  have hW := cf_W.er ht hW
  have h2 := hw
  refine lv_iload hx hb dX5_setGame_19 (lv_at hl 4 rfl) ?_
  refine lv_iconst (v := 1) hx hb dX5_setGame_21 (by decide) ?_
  refine lv_bipush (v := 60) hx hb dX5_setGame_22 (by decide) ?_
  refine vx_callv (vx_runS (As := [.int a3, .int 1, .int 60]) (rest := []) ⟨hx, hb, hml, hown, hts⟩ (c_X5_checkRange l D cT z ad _ a3 1 60 hl0) (va_cwS 3 hts gX5_setGame_X5_checkRange rfl rfl rfl (by decide +kernel) ⟨Nat.le_of_ble_eq_true rfl, Nat.le_of_ble_eq_true rfl⟩) (cf_preS hT hS hW) rfl rfl hl.1 rfl (lv_room (Nat.le_of_ble_eq_true rfl)) dX5_setGame_24 ⟨Nat.le_of_ble_eq_true rfl, Nat.le_of_ble_eq_true rfl⟩) hS (fun _ _ h => h) (fun _ h => h) (fun _ _ h => h) (fun E9 ce q9 u9 t9 H locs ht hvm hu hB hz1 hk1 hS hce hcv hcl => ?_) (fun ur4 t9 H locs ht hvm hw hW hz1 hk1 hS => ?_)
  · obtain ⟨hp, hW⟩ := hB
    have hW := cf_W.er ht hW
    exact cf_pass htab hlocks hce hcv hcl hS hW (Or.inr ⟨hp.1, hi, fun q => hp.2 q.2.2⟩) ⟨Nat.le_of_ble_eq_true rfl, Nat.le_of_ble_eq_true rfl⟩
  have hW := cf_W.er ht hW
  have h3 := hw
  obtain ⟨j, hj, hxj⟩ := hi
  refine lv_aload_n hx hb dX5_setGame_27 rfl (lv_at hl 0 rfl) ?_
  refine cf_get (v := .ref (ad 11 0)) (ci := 5) (C := RX5) (T := TX5) (N := 9) hx hb hts (fun _ h => List.mem_cons_of_mem _ (List.mem_append_left _ (List.mem_append_left _ (List.mem_append_left _ (List.mem_append_right _ (h)))))) hown hT.1 hW cf_e5 rfl 0 (by decide) (hts (.fieldLink RX5 11 "GameCafe" "games" "[LGameCafe$Game;") (List.mem_of_getElem? (i := 1) rfl)) (fun _ h9 => h9) rfl dX5_setGame_28 ?_
  refine lv_iload_n hx hb dX5_setGame_31 rfl (lv_at hl 1 rfl) ?_
  refine cf_aldN (t0 := 3) (C := RX1) (n := 5) (v := .ref (ad 1 j)) hx hb hT.1 hW cf_e11 rfl j hxj hj (by decide) dX5_setGame_32 rfl ?_
  refine lv_astore (lv' := [(5, .ref (ad 1 j)), (0, .ref (ad 5 0)), (1, .int x), (2, .int a1), (3, .int a2), (4, .int a3)]) hx hb dX5_setGame_33 hl (by decide) rfl (fun ls hl => ?_)
  refine lv_aload hx hb dX5_setGame_35 (lv_at hl 0 rfl) ?_
  refine lv_iload_n hx hb dX5_setGame_37 rfl (lv_at hl 3 rfl) ?_
  refine cf_putE (v := .int a1) (ty := .int) (ci := 1) (C := RX1) (T := TX1) (N := 6) hx hb hts (fun _ h => List.mem_cons_of_mem _ (List.mem_append_left _ (List.mem_append_left _ (List.mem_append_right _ (h))))) tyX1 tyX1_ok nmX1 hown hT.1 hW hS (cf_e1 hj) rfl 0 (by decide) (hts (.fieldLink RX5 64 "GameCafe$Game" "least" "I") (List.mem_of_getElem? (i := 2) rfl)) (fun _ h9 => h9) rfl (by decide +kernel) rfl rfl (Nat.le_of_ble_eq_true rfl) dX5_setGame_38 (E2 := (cf_E cT nc ng (cf_s3 S 1 j 0 a1) P O ad)) (cf_upS 1 j (upd (S 1 j) 0 a1) (cf_c1 hj)) (fun H locs hW hS => ?_)
  refine lv_aload hx hb dX5_setGame_41 (lv_at hl 0 rfl) ?_
  refine lv_iload_n hx hb dX5_setGame_43 rfl (lv_at hl 4 rfl) ?_
  refine cf_putE (v := .int a2) (ty := .int) (ci := 1) (C := RX1) (T := TX1) (N := 6) hx hb hts (fun _ h => List.mem_cons_of_mem _ (List.mem_append_left _ (List.mem_append_left _ (List.mem_append_right _ (h))))) tyX1 tyX1_ok nmX1 hown hT.1 hW hS (cf_e1 hj) rfl 1 (by decide) (hts (.fieldLink RX5 67 "GameCafe$Game" "most" "I") (List.mem_of_getElem? (i := 3) rfl)) (fun _ h9 => h9) rfl (by decide +kernel) rfl rfl (Nat.le_of_ble_eq_true rfl) dX5_setGame_44 (E2 := (cf_E cT nc ng (cf_s3 (cf_s3 S 1 j 0 a1) 1 j 1 a2) P O ad)) (cf_upS 1 j (upd ((cf_s3 S 1 j 0 a1) 1 j) 1 a2) (cf_c1 hj)) (fun H locs hW hS => ?_)
  refine lv_aload hx hb dX5_setGame_47 (lv_at hl 0 rfl) ?_
  refine lv_iload hx hb dX5_setGame_49 (lv_at hl 5 rfl) ?_
  refine cf_putE (v := .int a3) (ty := .int) (ci := 1) (C := RX1) (T := TX1) (N := 6) hx hb hts (fun _ h => List.mem_cons_of_mem _ (List.mem_append_left _ (List.mem_append_left _ (List.mem_append_right _ (h))))) tyX1 tyX1_ok nmX1 hown hT.1 hW hS (cf_e1 hj) rfl 2 (by decide) (hts (.fieldLink RX5 70 "GameCafe$Game" "lesson" "I") (List.mem_of_getElem? (i := 4) rfl)) (fun _ h9 => h9) rfl (by decide +kernel) rfl rfl (Nat.le_of_ble_eq_true rfl) dX5_setGame_51 (E2 := (cf_E cT nc ng (cf_s3 (cf_s3 (cf_s3 S 1 j 0 a1) 1 j 1 a2) 1 j 2 a3) P O ad)) (cf_upS 1 j (upd ((cf_s3 (cf_s3 S 1 j 0 a1) 1 j 1 a2) 1 j) 2 a3) (cf_c1 hj)) (fun H locs hW hS => ?_)
  refine vx_ret ?_
  refine W.widen (k := 4) (n := 24) (by omega) (by omega) ?_
  exact W.vret hx hb hr (fun t9 ht9 hw9 => ⟨⟨(cf_s3 (cf_s3 (cf_s3 S 1 j 0 a1) 1 j 1 a2) 1 j 2 a3), rfl, ⟨j, hj, hxj, ⟨h1, h2, h3⟩, rfl⟩, cf_W.re ht9 hW⟩, hS.F ht9⟩) hS.2.2 dX5_setGame_54
set_option maxHeartbeats 4000000 in
set_option maxRecDepth 100000 in
/-- X5_setParts -/
theorem c_X5_setParts (l : Launch) (D : va_G) (cT : Nat → ClassId) (z : Nat) (ad : cf_Ad) (nc ng : Nat) (S : cf_S) (P : cf_Pt) (O : Nat → Int64) (hl0 : l.stackTraces = false) (x y a1 a2 : Int32) : vx_Met l yX5_setParts wsX5_setParts ({ frames := 7, cells := 4, slots := 24, locals := 104 }) (va_Pc [.ref (ad 5 0), .int x, .int y, .int a1, .int a2] (cf_P D cT z (cf_E cT nc ng S P O ad) ad)) (cf_Qv D z (fun (T : cf_S) => ∃ j k : Nat, j < 5 ∧ x = nI j ∧ k < 4 ∧ y = nI k ∧ (cf_rg a1 0 20 ∧ cf_rg a2 0 a1) ∧ T = cf_s3 (cf_s3 S 8 j k a1) 9 j k a2) (fun T => cf_E cT nc ng T P O ad) (fun _ => ad)) (cf_X D z (cf_E cT nc ng S P O ad) ad (cf_x12 (cf_ix x 5 ∧ cf_ix y 4) (cf_rg a1 0 20 ∧ cf_rg a2 0 a1))) 4 24 (fun q => z ≤ q) := by
  refine vx_ofW (cc := cX5_setParts) (maxL := 6) (ret := none) (by decide) rfl ?_
  intro p e s m args below meth c s₁ B hml htab hv
  obtain ⟨rfl, hW, hT⟩ := hv
  have hx := B.exec
  have hb := B.bytes
  have hr := B.returns
  have hts := atoms_spec (ws := wsX5_setParts) B.pre
  have hown : s.vm.findClass RX5 = some m.cls := findClass_of_methodNamed B.named
  have hlocks := B.notSynchronized
  have hS : va_S (fun q => z ≤ q) s.heap s.heap [] := va_S.rf
  have hl := lv_entry ([.ref (ad 5 0), .int x, .int y, .int a1, .int a2]) (n := 6) (Nat.le_of_ble_eq_true rfl)
  rw [lg_entry_eq]
  generalize (lg_sl ([.ref (ad 5 0), .int x, .int y, .int a1, .int a2]) ++ List.replicate (6 - (lg_sl ([.ref (ad 5 0), .int x, .int y, .int a1, .int a2])).length) Slot.unset).toArray = ls at hl ⊢
  have hl : lv_has ls 6 [(0, .ref (ad 5 0)), (1, .int x), (2, .int y), (3, .int a1), (4, .int a2)] := hl
  skip
  refine lv_iload_n hx hb dX5_setParts_0 rfl (lv_at hl 1 rfl) ?_
  refine lv_iconst (v := 5) hx hb dX5_setParts_1 (by decide) ?_
  refine vx_callv (vx_runS (As := [.int x, .int 5]) (rest := []) ⟨hx, hb, hml, hown, hts⟩ (c_X5_checkNumber l D cT z ad _ x 5 5 (by decide) rfl hl0) (va_cwS 2 hts gX5_setParts_X5_checkNumber rfl rfl rfl (by decide +kernel) ⟨Nat.le_of_ble_eq_true rfl, Nat.le_of_ble_eq_true rfl⟩) (cf_preS hT hS hW) rfl rfl hl.1 rfl (lv_room (Nat.le_of_ble_eq_true rfl)) dX5_setParts_2 ⟨Nat.le_of_ble_eq_true rfl, Nat.le_of_ble_eq_true rfl⟩) hS (fun _ _ h => h) (fun _ h => h) (fun _ _ h => h) (fun E9 ce q9 u9 t9 H locs ht hvm hu hB hz1 hk1 hS hce hcv hcl => ?_) (fun ur1 t9 H locs ht hvm hw hW hz1 hk1 hS => ?_)
  · obtain ⟨hp, hW⟩ := hB
    have hW := cf_W.er ht hW
    exact cf_pass htab hlocks hce hcv hcl hS hW (Or.inl ⟨hp.1, fun q => hp.2 q.1⟩) ⟨Nat.le_of_ble_eq_true rfl, Nat.le_of_ble_eq_true rfl⟩
  have hW := cf_W.er ht hW
  have hi := hw
  refine lv_iload_n hx hb dX5_setParts_5 rfl (lv_at hl 2 rfl) ?_
  refine lv_iconst (v := 4) hx hb dX5_setParts_6 (by decide) ?_
  refine vx_callv (vx_runS (As := [.int y, .int 4]) (rest := []) ⟨hx, hb, hml, hown, hts⟩ (c_X5_checkNumber l D cT z ad _ y 4 4 (by decide) rfl hl0) (va_cwS 2 hts gX5_setParts_X5_checkNumber rfl rfl rfl (by decide +kernel) ⟨Nat.le_of_ble_eq_true rfl, Nat.le_of_ble_eq_true rfl⟩) (cf_preS hT hS hW) rfl rfl hl.1 rfl (lv_room (Nat.le_of_ble_eq_true rfl)) dX5_setParts_7 ⟨Nat.le_of_ble_eq_true rfl, Nat.le_of_ble_eq_true rfl⟩) hS (fun _ _ h => h) (fun _ h => h) (fun _ _ h => h) (fun E9 ce q9 u9 t9 H locs ht hvm hu hB hz1 hk1 hS hce hcv hcl => ?_) (fun ur2 t9 H locs ht hvm hw hW hz1 hk1 hS => ?_)
  · obtain ⟨hp, hW⟩ := hB
    have hW := cf_W.er ht hW
    exact cf_pass htab hlocks hce hcv hcl hS hW (Or.inl ⟨hp.1, fun q => hp.2 q.2⟩) ⟨Nat.le_of_ble_eq_true rfl, Nat.le_of_ble_eq_true rfl⟩
  have hW := cf_W.er ht hW
  have hy := hw
  refine lv_iload_n hx hb dX5_setParts_10 rfl (lv_at hl 3 rfl) ?_
  refine lv_iconst (v := 0) hx hb dX5_setParts_11 (by decide) ?_
  refine lv_bipush (v := 20) hx hb dX5_setParts_12 (by decide) ?_
  refine vx_callv (vx_runS (As := [.int a1, .int 0, .int 20]) (rest := []) ⟨hx, hb, hml, hown, hts⟩ (c_X5_checkRange l D cT z ad _ a1 0 20 hl0) (va_cwS 3 hts gX5_setParts_X5_checkRange rfl rfl rfl (by decide +kernel) ⟨Nat.le_of_ble_eq_true rfl, Nat.le_of_ble_eq_true rfl⟩) (cf_preS hT hS hW) rfl rfl hl.1 rfl (lv_room (Nat.le_of_ble_eq_true rfl)) dX5_setParts_14 ⟨Nat.le_of_ble_eq_true rfl, Nat.le_of_ble_eq_true rfl⟩) hS (fun _ _ h => h) (fun _ h => h) (fun _ _ h => h) (fun E9 ce q9 u9 t9 H locs ht hvm hu hB hz1 hk1 hS hce hcv hcl => ?_) (fun ur3 t9 H locs ht hvm hw hW hz1 hk1 hS => ?_)
  · obtain ⟨hp, hW⟩ := hB
    have hW := cf_W.er ht hW
    exact cf_pass htab hlocks hce hcv hcl hS hW (Or.inr ⟨hp.1, ⟨hi, hy⟩, fun q => hp.2 q.1⟩) ⟨Nat.le_of_ble_eq_true rfl, Nat.le_of_ble_eq_true rfl⟩
  have hW := cf_W.er ht hW
  have h1 := hw
  refine lv_iload hx hb dX5_setParts_17 (lv_at hl 4 rfl) ?_
  refine lv_iconst (v := 0) hx hb dX5_setParts_19 (by decide) ?_
  refine lv_iload_n hx hb dX5_setParts_20 rfl (lv_at hl 3 rfl) ?_
  refine vx_callv (vx_runS (As := [.int a2, .int 0, .int a1]) (rest := []) ⟨hx, hb, hml, hown, hts⟩ (c_X5_checkRange l D cT z ad _ a2 0 a1 hl0) (va_cwS 3 hts gX5_setParts_X5_checkRange rfl rfl rfl (by decide +kernel) ⟨Nat.le_of_ble_eq_true rfl, Nat.le_of_ble_eq_true rfl⟩) (cf_preS hT hS hW) rfl rfl hl.1 rfl (lv_room (Nat.le_of_ble_eq_true rfl)) dX5_setParts_21 ⟨Nat.le_of_ble_eq_true rfl, Nat.le_of_ble_eq_true rfl⟩) hS (fun _ _ h => h) (fun _ h => h) (fun _ _ h => h) (fun E9 ce q9 u9 t9 H locs ht hvm hu hB hz1 hk1 hS hce hcv hcl => ?_) (fun ur4 t9 H locs ht hvm hw hW hz1 hk1 hS => ?_)
  · obtain ⟨hp, hW⟩ := hB
    have hW := cf_W.er ht hW
    exact cf_pass htab hlocks hce hcv hcl hS hW (Or.inr ⟨hp.1, ⟨hi, hy⟩, fun q => hp.2 q.2⟩) ⟨Nat.le_of_ble_eq_true rfl, Nat.le_of_ble_eq_true rfl⟩
  have hW := cf_W.er ht hW
  have h2 := hw
  obtain ⟨j, hj, hxj⟩ := hi
  obtain ⟨k, hk, hyk⟩ := hy
  refine lv_aload_n hx hb dX5_setParts_24 rfl (lv_at hl 0 rfl) ?_
  refine cf_get (v := .ref (ad 11 0)) (ci := 5) (C := RX5) (T := TX5) (N := 9) hx hb hts (fun _ h => List.mem_cons_of_mem _ (List.mem_append_left _ (List.mem_append_left _ (List.mem_append_left _ (List.mem_append_right _ (h)))))) hown hT.1 hW cf_e5 rfl 0 (by decide) (hts (.fieldLink RX5 11 "GameCafe" "games" "[LGameCafe$Game;") (List.mem_of_getElem? (i := 1) rfl)) (fun _ h9 => h9) rfl dX5_setParts_25 ?_
  refine lv_iload_n hx hb dX5_setParts_28 rfl (lv_at hl 1 rfl) ?_
  refine cf_aldN (t0 := 3) (C := RX1) (n := 5) (v := .ref (ad 1 j)) hx hb hT.1 hW cf_e11 rfl j hxj hj (by decide) dX5_setParts_29 rfl ?_
  refine lv_astore (lv' := [(5, .ref (ad 1 j)), (0, .ref (ad 5 0)), (1, .int x), (2, .int y), (3, .int a1), (4, .int a2)]) hx hb dX5_setParts_30 hl (by decide) rfl (fun ls hl => ?_)
  refine lv_aload hx hb dX5_setParts_32 (lv_at hl 0 rfl) ?_
  refine cf_get (v := .ref (ad 8 j)) (ci := 1) (C := RX1) (T := TX1) (N := 6) hx hb hts (fun _ h => List.mem_cons_of_mem _ (List.mem_append_left _ (List.mem_append_left _ (List.mem_append_right _ (h))))) hown hT.1 hW (cf_e1 hj) rfl 4 (by decide) (hts (.fieldLink RX5 73 "GameCafe$Game" "whole" "[I") (List.mem_of_getElem? (i := 2) rfl)) (fun _ h9 => h9) rfl dX5_setParts_34 ?_
  refine lv_iload_n hx hb dX5_setParts_37 rfl (lv_at hl 3 rfl) ?_
  refine lv_iload_n hx hb dX5_setParts_38 rfl (lv_at hl 4 rfl) ?_
  refine cf_istN (t0 := 0) (n := 4) (f := S 8 j) hx hb hT.1 hW hS (cf_e8 hj) rfl k hyk hk (by decide) dX5_setParts_39 (E2 := (cf_E cT nc ng (cf_s3 S 8 j k a1) P O ad)) (cf_upS 8 j (upd (S 8 j) k a1) (cf_c8 hj)) (fun H locs hW hS => ?_)
  refine lv_aload hx hb dX5_setParts_40 (lv_at hl 0 rfl) ?_
  refine cf_get (v := .ref (ad 9 j)) (ci := 1) (C := RX1) (T := TX1) (N := 6) hx hb hts (fun _ h => List.mem_cons_of_mem _ (List.mem_append_left _ (List.mem_append_left _ (List.mem_append_right _ (h))))) hown hT.1 hW (cf_e1 hj) rfl 5 (by decide) (hts (.fieldLink RX5 77 "GameCafe$Game" "need" "[I") (List.mem_of_getElem? (i := 3) rfl)) (fun _ h9 => h9) rfl dX5_setParts_42 ?_
  refine lv_iload_n hx hb dX5_setParts_45 rfl (lv_at hl 3 rfl) ?_
  refine lv_iload hx hb dX5_setParts_46 (lv_at hl 5 rfl) ?_
  refine cf_istN (t0 := 0) (n := 4) (f := (cf_s3 S 8 j k a1) 9 j) hx hb hT.1 hW hS (cf_e9 hj) rfl k hyk hk (by decide) dX5_setParts_48 (E2 := (cf_E cT nc ng (cf_s3 (cf_s3 S 8 j k a1) 9 j k a2) P O ad)) (cf_upS 9 j (upd ((cf_s3 S 8 j k a1) 9 j) k a2) (cf_c9 hj)) (fun H locs hW hS => ?_)
  refine vx_ret ?_
  refine W.widen (k := 4) (n := 24) (by omega) (by omega) ?_
  exact W.vret hx hb hr (fun t9 ht9 hw9 => ⟨⟨(cf_s3 (cf_s3 S 8 j k a1) 9 j k a2), rfl, ⟨j, k, hj, hxj, hk, hyk, ⟨h1, h2⟩, rfl⟩, cf_W.re ht9 hW⟩, hS.F ht9⟩) hS.2.2 dX5_setParts_49
set_option maxHeartbeats 4000000 in
set_option maxRecDepth 100000 in
/-- X5_setSeats -/
theorem c_X5_setSeats (l : Launch) (D : va_G) (cT : Nat → ClassId) (z : Nat) (ad : cf_Ad) (nc ng : Nat) (S : cf_S) (P : cf_Pt) (O : Nat → Int64) (hl0 : l.stackTraces = false) (x a1 : Int32) : vx_Met l yX5_setSeats wsX5_setSeats ({ frames := 7, cells := 3, slots := 18, locals := 104 }) (va_Pc [.ref (ad 5 0), .int x, .int a1] (cf_P D cT z (cf_E cT nc ng S P O ad) ad)) (cf_Qi D z (fun (r : Int32) (T : cf_S) => ∃ j : Nat, j < 6 ∧ x = nI j ∧ (cf_rg a1 1 8) ∧ S 3 j 1 = -1 ∧ r = S 3 j 0 ∧ T = cf_s3 S 3 j 0 a1) (fun T => cf_E cT nc ng T P O ad) (fun _ => ad)) (cf_X D z (cf_E cT nc ng S P O ad) ad (cf_x123 (cf_ix x 6) (cf_rg a1 1 8) (∀ j : Nat, j < 6 → x = nI j → S 3 j 1 = -1))) 3 18 (fun q => z ≤ q) := by
  refine vx_ofW (cc := cX5_setSeats) (maxL := 5) (ret := (some .int)) (by decide) rfl ?_
  intro p e s m args below meth c s₁ B hml htab hv
  obtain ⟨rfl, hW, hT⟩ := hv
  have hx := B.exec
  have hb := B.bytes
  have hr := B.returns
  have hts := atoms_spec (ws := wsX5_setSeats) B.pre
  have hown : s.vm.findClass RX5 = some m.cls := findClass_of_methodNamed B.named
  have hlocks := B.notSynchronized
  have hS : va_S (fun q => z ≤ q) s.heap s.heap [] := va_S.rf
  have hl := lv_entry ([.ref (ad 5 0), .int x, .int a1]) (n := 5) (Nat.le_of_ble_eq_true rfl)
  rw [lg_entry_eq]
  generalize (lg_sl ([.ref (ad 5 0), .int x, .int a1]) ++ List.replicate (5 - (lg_sl ([.ref (ad 5 0), .int x, .int a1])).length) Slot.unset).toArray = ls at hl ⊢
  have hl : lv_has ls 5 [(0, .ref (ad 5 0)), (1, .int x), (2, .int a1)] := hl
  skip
  refine lv_iload_n hx hb dX5_setSeats_0 rfl (lv_at hl 1 rfl) ?_
  refine lv_bipush (v := 6) hx hb dX5_setSeats_1 (by decide) ?_
  refine vx_callv (vx_runS (As := [.int x, .int 6]) (rest := []) ⟨hx, hb, hml, hown, hts⟩ (c_X5_checkNumber l D cT z ad _ x 6 6 (by decide) rfl hl0) (va_cwS 2 hts gX5_setSeats_X5_checkNumber rfl rfl rfl (by decide +kernel) ⟨Nat.le_of_ble_eq_true rfl, Nat.le_of_ble_eq_true rfl⟩) (cf_preS hT hS hW) rfl rfl hl.1 rfl (lv_room (Nat.le_of_ble_eq_true rfl)) dX5_setSeats_3 ⟨Nat.le_of_ble_eq_true rfl, Nat.le_of_ble_eq_true rfl⟩) hS (fun _ _ h => h) (fun _ h => h) (fun _ _ h => h) (fun E9 ce q9 u9 t9 H locs ht hvm hu hB hz1 hk1 hS hce hcv hcl => ?_) (fun ur1 t9 H locs ht hvm hw hW hz1 hk1 hS => ?_)
  · obtain ⟨hp, hW⟩ := hB
    have hW := cf_W.er ht hW
    exact cf_pass htab hlocks hce hcv hcl hS hW (Or.inl hp) ⟨Nat.le_of_ble_eq_true rfl, Nat.le_of_ble_eq_true rfl⟩
  have hW := cf_W.er ht hW
  have hi := hw
  refine lv_iload_n hx hb dX5_setSeats_6 rfl (lv_at hl 2 rfl) ?_
  refine lv_iconst (v := 1) hx hb dX5_setSeats_7 (by decide) ?_
  refine lv_bipush (v := 8) hx hb dX5_setSeats_8 (by decide) ?_
  refine vx_callv (vx_runS (As := [.int a1, .int 1, .int 8]) (rest := []) ⟨hx, hb, hml, hown, hts⟩ (c_X5_checkRange l D cT z ad _ a1 1 8 hl0) (va_cwS 3 hts gX5_setSeats_X5_checkRange rfl rfl rfl (by decide +kernel) ⟨Nat.le_of_ble_eq_true rfl, Nat.le_of_ble_eq_true rfl⟩) (cf_preS hT hS hW) rfl rfl hl.1 rfl (lv_room (Nat.le_of_ble_eq_true rfl)) dX5_setSeats_10 ⟨Nat.le_of_ble_eq_true rfl, Nat.le_of_ble_eq_true rfl⟩) hS (fun _ _ h => h) (fun _ h => h) (fun _ _ h => h) (fun E9 ce q9 u9 t9 H locs ht hvm hu hB hz1 hk1 hS hce hcv hcl => ?_) (fun ur2 t9 H locs ht hvm hw hW hz1 hk1 hS => ?_)
  · obtain ⟨hp, hW⟩ := hB
    have hW := cf_W.er ht hW
    exact cf_pass htab hlocks hce hcv hcl hS hW (Or.inr (Or.inl ⟨hp.1, hi, hp.2⟩)) ⟨Nat.le_of_ble_eq_true rfl, Nat.le_of_ble_eq_true rfl⟩
  have hW := cf_W.er ht hW
  have h1 := hw
  have hi0 := hi
  obtain ⟨j, hj, hxj⟩ := hi
  refine lv_aload_n hx hb dX5_setSeats_13 rfl (lv_at hl 0 rfl) ?_
  refine cf_get (v := .ref (ad 12 0)) (ci := 5) (C := RX5) (T := TX5) (N := 9) hx hb hts (fun _ h => List.mem_cons_of_mem _ (List.mem_append_left _ (List.mem_append_left _ (List.mem_append_left _ (List.mem_append_left _ (List.mem_append_right _ (h))))))) hown hT.1 hW cf_e5 rfl 1 (by decide) (hts (.fieldLink RX5 17 "GameCafe" "tables" "[LGameCafe$Table;") (List.mem_of_getElem? (i := 3) rfl)) (fun _ h9 => h9) rfl dX5_setSeats_14 ?_
  refine lv_iload_n hx hb dX5_setSeats_17 rfl (lv_at hl 1 rfl) ?_
  refine cf_aldN (t0 := 4) (C := RX3) (n := 6) (v := .ref (ad 3 j)) hx hb hT.1 hW cf_e12 rfl j hxj hj (by decide) dX5_setSeats_18 rfl ?_
  refine lv_astore_n (lv' := [(3, .ref (ad 3 j)), (0, .ref (ad 5 0)), (1, .int x), (2, .int a1)]) hx hb dX5_setSeats_19 rfl hl (by decide) rfl (fun ls hl => ?_)
  refine lv_aload_n hx hb dX5_setSeats_20 rfl (lv_at hl 0 rfl) ?_
  refine cf_get (v := .int (S 3 j 1)) (ci := 3) (C := RX3) (T := TX3) (N := 3) hx hb hts (fun _ h => List.mem_cons_of_mem _ (List.mem_append_left _ (List.mem_append_left _ (List.mem_append_left _ (List.mem_append_right _ (h)))))) hown hT.1 hW (cf_e3 hj) rfl 2 (by decide) (hts (.fieldLink RX5 80 "GameCafe$Table" "group" "I") (List.mem_of_getElem? (i := 4) rfl)) (fun _ h9 => h9) rfl dX5_setSeats_21 ?_
  refine lv_iconst (v := (-1)) hx hb dX5_setSeats_24 (by decide) ?_
  refine lv_icmp_eq (tgt := 38) hx hb dX5_setSeats_25 (by decide) (fun c25_3 => ?_) (fun c25_3 => ?_)
  · refine lv_aload_n hx hb dX5_setSeats_38 rfl (lv_at hl 0 rfl) ?_
    refine cf_get (v := .int (S 3 j 0)) (ci := 3) (C := RX3) (T := TX3) (N := 3) hx hb hts (fun _ h => List.mem_cons_of_mem _ (List.mem_append_left _ (List.mem_append_left _ (List.mem_append_left _ (List.mem_append_right _ (h)))))) hown hT.1 hW (cf_e3 hj) rfl 1 (by decide) (hts (.fieldLink RX5 90 "GameCafe$Table" "seats" "I") (List.mem_of_getElem? (i := 5) rfl)) (fun _ h9 => h9) rfl dX5_setSeats_39 ?_
    refine lv_istore (lv' := [(4, .int (S 3 j 0)), (3, .ref (ad 3 j)), (0, .ref (ad 5 0)), (1, .int x), (2, .int a1)]) hx hb dX5_setSeats_42 hl (by decide) rfl (fun ls hl => ?_)
    refine lv_aload_n hx hb dX5_setSeats_44 rfl (lv_at hl 1 rfl) ?_
    refine lv_iload_n hx hb dX5_setSeats_45 rfl (lv_at hl 4 rfl) ?_
    refine cf_putE (v := .int a1) (ty := .int) (ci := 3) (C := RX3) (T := TX3) (N := 3) hx hb hts (fun _ h => List.mem_cons_of_mem _ (List.mem_append_left _ (List.mem_append_left _ (List.mem_append_left _ (List.mem_append_right _ (h)))))) tyX3 tyX3_ok nmX3 hown hT.1 hW hS (cf_e3 hj) rfl 1 (by decide) (hts (.fieldLink RX5 90 "GameCafe$Table" "seats" "I") (List.mem_of_getElem? (i := 5) rfl)) (fun _ h9 => h9) rfl (by decide +kernel) rfl rfl (Nat.le_of_ble_eq_true rfl) dX5_setSeats_46 (E2 := (cf_E cT nc ng (cf_s3 S 3 j 0 a1) P O ad)) (cf_upS 3 j (upd (S 3 j) 0 a1) (cf_c3 hj)) (fun H locs hW hS => ?_)
    refine lv_iload hx hb dX5_setSeats_49 (lv_at hl 0 rfl) ?_
    refine vx_ret ?_
    refine W.widen (k := 3) (n := 18) (by omega) (by omega) ?_
    exact W.iret (v := (S 3 j 0)) hx hb hr (fun t9 ht9 hw9 => ⟨⟨(S 3 j 0), (cf_s3 S 3 j 0 a1), rfl, ⟨j, hj, hxj, h1, c25_3, rfl, rfl⟩, cf_W.re ht9 hW⟩, hS.F ht9⟩) hS.2.2 dX5_setSeats_51
  · exact cf_throw (text := "a group is at the table") hx hb hl0 hown (by decide +kernel) (hts (.classLink RX5 83 "java/lang/IllegalStateException") (List.mem_of_getElem? (i := 1) rfl)) (hts (.initialized "java/lang/IllegalStateException") (List.mem_of_getElem? (i := 2) rfl)) (List.mem_of_getElem? (i := 2) rfl) (List.mem_of_getElem? (i := 2) rfl) (fun w h => hts w (List.mem_cons_of_mem _ (List.mem_append_left _ (List.mem_append_left _ (List.mem_append_right _ (h)))))) cf_ng_ise cf_gd_ise hT hW hS (hl.1.trans hml.symm) dX5_setSeats_28 dX5_setSeats_31 dX5_setSeats_32 dX5_setSeats_34 dX5_setSeats_37 htab (by decide) hlocks (Or.inr (Or.inr ⟨rfl, hi0, h1, fun q => c25_3 (q j hj hxj)⟩)) (by decide)
set_option maxHeartbeats 4000000 in
set_option maxRecDepth 100000 in
/-- X5_teach -/
theorem c_X5_teach (l : Launch) (D : va_G) (cT : Nat → ClassId) (z : Nat) (ad : cf_Ad) (nc ng : Nat) (S : cf_S) (P : cf_Pt) (O : Nat → Int64) (hl0 : l.stackTraces = false) (x y b1 : Int32) (hb1 : b1 = 0 ∨ b1 = 1) (hK10 : ∀ j k, j < 3 → k < 5 → S 10 j k = 0 ∨ S 10 j k = 1) : vx_Met l yX5_teach wsX5_teach ({ frames := 7, cells := 2, slots := 12, locals := 103 }) (va_Pc [.ref (ad 5 0), .int x, .int y, .int b1] (cf_P D cT z (cf_E cT nc ng S P O ad) ad)) (cf_Qi D z (fun (r : Int32) (T : cf_S) => ∃ j k : Nat, j < 3 ∧ x = nI j ∧ k < 5 ∧ y = nI k ∧ r = S 10 j k ∧ T = cf_s3 S 10 j k b1) (fun T => cf_E cT nc ng T P O ad) (fun _ => ad)) (cf_X D z (cf_E cT nc ng S P O ad) ad (cf_x1 (cf_ix x 3 ∧ cf_ix y 5))) 2 12 (fun q => z ≤ q) := by
  refine vx_ofW (cc := cX5_teach) (maxL := 6) (ret := (some .boolean)) (by decide) rfl ?_
  intro p e s m args below meth c s₁ B hml htab hv
  obtain ⟨rfl, hW, hT⟩ := hv
  have hx := B.exec
  have hb := B.bytes
  have hr := B.returns
  have hts := atoms_spec (ws := wsX5_teach) B.pre
  have hown : s.vm.findClass RX5 = some m.cls := findClass_of_methodNamed B.named
  have hlocks := B.notSynchronized
  have hS : va_S (fun q => z ≤ q) s.heap s.heap [] := va_S.rf
  have hl := lv_entry ([.ref (ad 5 0), .int x, .int y, .int b1]) (n := 6) (Nat.le_of_ble_eq_true rfl)
  rw [lg_entry_eq]
  generalize (lg_sl ([.ref (ad 5 0), .int x, .int y, .int b1]) ++ List.replicate (6 - (lg_sl ([.ref (ad 5 0), .int x, .int y, .int b1])).length) Slot.unset).toArray = ls at hl ⊢
  have hl : lv_has ls 6 [(0, .ref (ad 5 0)), (1, .int x), (2, .int y), (3, .int b1)] := hl
  skip
  refine lv_iload_n hx hb dX5_teach_0 rfl (lv_at hl 1 rfl) ?_
  refine lv_iconst (v := 3) hx hb dX5_teach_1 (by decide) ?_
  refine vx_callv (vx_runS (As := [.int x, .int 3]) (rest := []) ⟨hx, hb, hml, hown, hts⟩ (c_X5_checkNumber l D cT z ad _ x 3 3 (by decide) rfl hl0) (va_cwS 2 hts gX5_teach_X5_checkNumber rfl rfl rfl (by decide +kernel) ⟨Nat.le_of_ble_eq_true rfl, Nat.le_of_ble_eq_true rfl⟩) (cf_preS hT hS hW) rfl rfl hl.1 rfl (lv_room (Nat.le_of_ble_eq_true rfl)) dX5_teach_2 ⟨Nat.le_of_ble_eq_true rfl, Nat.le_of_ble_eq_true rfl⟩) hS (fun _ _ h => h) (fun _ h => h) (fun _ _ h => h) (fun E9 ce q9 u9 t9 H locs ht hvm hu hB hz1 hk1 hS hce hcv hcl => ?_) (fun ur1 t9 H locs ht hvm hw hW hz1 hk1 hS => ?_)
  · obtain ⟨hp, hW⟩ := hB
    have hW := cf_W.er ht hW
    exact cf_pass htab hlocks hce hcv hcl hS hW (⟨hp.1, fun q => hp.2 q.1⟩) ⟨Nat.le_of_ble_eq_true rfl, Nat.le_of_ble_eq_true rfl⟩
  have hW := cf_W.er ht hW
  have hi := hw
  refine lv_iload_n hx hb dX5_teach_5 rfl (lv_at hl 2 rfl) ?_
  refine lv_iconst (v := 5) hx hb dX5_teach_6 (by decide) ?_
  refine vx_callv (vx_runS (As := [.int y, .int 5]) (rest := []) ⟨hx, hb, hml, hown, hts⟩ (c_X5_checkNumber l D cT z ad _ y 5 5 (by decide) rfl hl0) (va_cwS 2 hts gX5_teach_X5_checkNumber rfl rfl rfl (by decide +kernel) ⟨Nat.le_of_ble_eq_true rfl, Nat.le_of_ble_eq_true rfl⟩) (cf_preS hT hS hW) rfl rfl hl.1 rfl (lv_room (Nat.le_of_ble_eq_true rfl)) dX5_teach_7 ⟨Nat.le_of_ble_eq_true rfl, Nat.le_of_ble_eq_true rfl⟩) hS (fun _ _ h => h) (fun _ h => h) (fun _ _ h => h) (fun E9 ce q9 u9 t9 H locs ht hvm hu hB hz1 hk1 hS hce hcv hcl => ?_) (fun ur2 t9 H locs ht hvm hw hW hz1 hk1 hS => ?_)
  · obtain ⟨hp, hW⟩ := hB
    have hW := cf_W.er ht hW
    exact cf_pass htab hlocks hce hcv hcl hS hW (⟨hp.1, fun q => hp.2 q.2⟩) ⟨Nat.le_of_ble_eq_true rfl, Nat.le_of_ble_eq_true rfl⟩
  have hW := cf_W.er ht hW
  have hy := hw
  obtain ⟨j, hj, hxj⟩ := hi
  obtain ⟨k, hk, hyk⟩ := hy
  refine lv_aload_n hx hb dX5_teach_10 rfl (lv_at hl 0 rfl) ?_
  refine cf_get (v := .ref (ad 13 0)) (ci := 5) (C := RX5) (T := TX5) (N := 9) hx hb hts (fun _ h => List.mem_cons_of_mem _ (List.mem_append_left _ (List.mem_append_left _ (List.mem_append_right _ (h))))) hown hT.1 hW cf_e5 rfl 2 (by decide) (hts (.fieldLink RX5 23 "GameCafe" "staff" "[LGameCafe$Teacher;") (List.mem_of_getElem? (i := 1) rfl)) (fun _ h9 => h9) rfl dX5_teach_11 ?_
  refine lv_iload_n hx hb dX5_teach_14 rfl (lv_at hl 1 rfl) ?_
  refine cf_aldN (t0 := 5) (C := RX4) (n := 3) (v := .ref (ad 4 j)) hx hb hT.1 hW cf_e13 rfl j hxj hj (by decide) dX5_teach_15 rfl ?_
  refine lv_astore (lv' := [(4, .ref (ad 4 j)), (0, .ref (ad 5 0)), (1, .int x), (2, .int y), (3, .int b1)]) hx hb dX5_teach_16 hl (by decide) rfl (fun ls hl => ?_)
  refine lv_aload hx hb dX5_teach_18 (lv_at hl 0 rfl) ?_
  refine cf_get (v := .ref (ad 10 j)) (ci := 4) (C := RX4) (T := TX4) (N := 2) hx hb hts (fun _ h => List.mem_cons_of_mem _ (List.mem_append_left _ (List.mem_append_right _ (h)))) hown hT.1 hW (cf_e4 hj) rfl 0 (by decide) (hts (.fieldLink RX5 93 "GameCafe$Teacher" "knows" "[Z") (List.mem_of_getElem? (i := 2) rfl)) (fun _ h9 => h9) rfl dX5_teach_20 ?_
  refine lv_iload_n hx hb dX5_teach_23 rfl (lv_at hl 3 rfl) ?_
  refine cf_zldN (t0 := 1) (n := 5) (f := S 10 j) (v := (S 10 j k)) hx hb hT.1 hW (cf_e10 hj) rfl k hyk hk (by decide) dX5_teach_24 rfl ?_
  refine lv_istore (lv' := [(5, .int (S 10 j k)), (4, .ref (ad 4 j)), (0, .ref (ad 5 0)), (1, .int x), (2, .int y), (3, .int b1)]) hx hb dX5_teach_25 hl (by decide) rfl (fun ls hl => ?_)
  refine lv_aload hx hb dX5_teach_27 (lv_at hl 1 rfl) ?_
  refine cf_get (v := .ref (ad 10 j)) (ci := 4) (C := RX4) (T := TX4) (N := 2) hx hb hts (fun _ h => List.mem_cons_of_mem _ (List.mem_append_left _ (List.mem_append_right _ (h)))) hown hT.1 hW (cf_e4 hj) rfl 0 (by decide) (hts (.fieldLink RX5 93 "GameCafe$Teacher" "knows" "[Z") (List.mem_of_getElem? (i := 2) rfl)) (fun _ h9 => h9) rfl dX5_teach_29 ?_
  refine lv_iload_n hx hb dX5_teach_32 rfl (lv_at hl 4 rfl) ?_
  refine lv_iload_n hx hb dX5_teach_33 rfl (lv_at hl 5 rfl) ?_
  refine cf_zstN (t0 := 1) (n := 5) (f := S 10 j) hx hb hT.1 hW hS (cf_e10 hj) rfl k hyk hk (by decide) dX5_teach_34 (by rcases hb1 with rfl | rfl <;> rfl) (E2 := (cf_E cT nc ng (cf_s3 S 10 j k b1) P O ad)) (cf_upS 10 j (upd (S 10 j) k b1) (cf_c10 hj)) (fun H locs hW hS => ?_)
  refine lv_iload hx hb dX5_teach_35 (lv_at hl 0 rfl) ?_
  refine vx_ret ?_
  refine W.widen (k := 2) (n := 12) (by omega) (by omega) ?_
  exact W.zret (v := (S 10 j k)) (ty := .boolean) hx hb hr (by rcases hK10 j k hj hk with h | h <;> rw [h] <;> rfl) (fun t9 ht9 hw9 => ⟨⟨(S 10 j k), (cf_s3 S 10 j k b1), rfl, ⟨j, k, hj, hxj, hk, hyk, rfl, rfl⟩, cf_W.re ht9 hW⟩, hS.F ht9⟩) hS.2.2 dX5_teach_37
set_option maxHeartbeats 4000000 in
set_option maxRecDepth 100000 in
/-- X5_advance -/
theorem c_X5_advance (l : Launch) (D : va_G) (cT : Nat → ClassId) (z : Nat) (ad : cf_Ad) (nc ng : Nat) (S : cf_S) (P : cf_Pt) (O : Nat → Int64) (hl0 : l.stackTraces = false) (x : Int32) : vx_Met l yX5_advance wsX5_advance ({ frames := 7, cells := 2, slots := 12, locals := 104 }) (va_Pc [.ref (ad 5 0), .int x] (cf_P D cT z (cf_E cT nc ng S P O ad) ad)) (cf_Qi D z (fun (r : Int32) (T : cf_S) => cf_rg x 1 1000 ∧ (S 5 0 2 + x ≤ 100000) ∧ r = S 5 0 2 + x ∧ T = cf_s3 S 5 0 2 (S 5 0 2 + x)) (fun T => cf_E cT nc ng T P O ad) (fun _ => ad)) (cf_X D z (cf_E cT nc ng S P O ad) ad (cf_x23 (cf_rg x 1 1000) (S 5 0 2 + x ≤ 100000))) 2 12 (fun q => z ≤ q) := by
  refine vx_ofW (cc := cX5_advance) (maxL := 2) (ret := (some .int)) (by decide) rfl ?_
  intro p e s m args below meth c s₁ B hml htab hv
  obtain ⟨rfl, hW, hT⟩ := hv
  have hx := B.exec
  have hb := B.bytes
  have hr := B.returns
  have hts := atoms_spec (ws := wsX5_advance) B.pre
  have hown : s.vm.findClass RX5 = some m.cls := findClass_of_methodNamed B.named
  have hlocks := B.notSynchronized
  have hS : va_S (fun q => z ≤ q) s.heap s.heap [] := va_S.rf
  have hl := lv_entry ([.ref (ad 5 0), .int x]) (n := 2) (Nat.le_of_ble_eq_true rfl)
  rw [lg_entry_eq]
  generalize (lg_sl ([.ref (ad 5 0), .int x]) ++ List.replicate (2 - (lg_sl ([.ref (ad 5 0), .int x])).length) Slot.unset).toArray = ls at hl ⊢
  have hl : lv_has ls 2 [(0, .ref (ad 5 0)), (1, .int x)] := hl
  skip
  refine lv_iload_n hx hb dX5_advance_0 rfl (lv_at hl 1 rfl) ?_
  refine lv_iconst (v := 1) hx hb dX5_advance_1 (by decide) ?_
  refine lv_sipush (v := 1000) hx hb dX5_advance_2 (by decide) ?_
  refine vx_callv (vx_runS (As := [.int x, .int 1, .int 1000]) (rest := []) ⟨hx, hb, hml, hown, hts⟩ (c_X5_checkRange l D cT z ad _ x 1 1000 hl0) (va_cwS 3 hts gX5_advance_X5_checkRange rfl rfl rfl (by decide +kernel) ⟨Nat.le_of_ble_eq_true rfl, Nat.le_of_ble_eq_true rfl⟩) (cf_preS hT hS hW) rfl rfl hl.1 rfl (lv_room (Nat.le_of_ble_eq_true rfl)) dX5_advance_5 ⟨Nat.le_of_ble_eq_true rfl, Nat.le_of_ble_eq_true rfl⟩) hS (fun _ _ h => h) (fun _ h => h) (fun _ _ h => h) (fun E9 ce q9 u9 t9 H locs ht hvm hu hB hz1 hk1 hS hce hcv hcl => ?_) (fun ur1 t9 H locs ht hvm hw hW hz1 hk1 hS => ?_)
  · obtain ⟨hp, hW⟩ := hB
    have hW := cf_W.er ht hW
    exact cf_pass htab hlocks hce hcv hcl hS hW (Or.inl hp) ⟨Nat.le_of_ble_eq_true rfl, Nat.le_of_ble_eq_true rfl⟩
  have hW := cf_W.er ht hW
  have h1 := hw
  refine lv_aload_n hx hb dX5_advance_8 rfl (lv_at hl 0 rfl) ?_
  refine cf_get (v := .int (S 5 0 2)) (ci := 5) (C := RX5) (T := TX5) (N := 9) hx hb hts (fun _ h => List.mem_cons_of_mem _ (List.mem_append_left _ (List.mem_append_left _ (List.mem_append_right _ (h))))) hown hT.1 hW cf_e5 rfl 8 (by decide) (hts (.fieldLink RX5 49 "GameCafe" "now" "I") (List.mem_of_getElem? (i := 3) rfl)) (fun _ h9 => h9) rfl dX5_advance_9 ?_
  refine lv_iload_n hx hb dX5_advance_12 rfl (lv_at hl 1 rfl) ?_
  refine lv_iadd hx hb dX5_advance_13 ?_
  refine lv_ldc hx hb hown (hts (.constant RX5 181 (100000)) (List.mem_of_getElem? (i := 4) rfl)) dX5_advance_14 ?_
  refine lv_icmp_le (tgt := 29) hx hb dX5_advance_16 (by decide) (fun c16_2 => ?_) (fun c16_2 => ?_)
  · refine lv_aload_n hx hb dX5_advance_29 rfl (lv_at hl 0 rfl) ?_
    refine lv_dup hx hb dX5_advance_30 rfl ?_
    refine cf_get (v := .int (S 5 0 2)) (ci := 5) (C := RX5) (T := TX5) (N := 9) hx hb hts (fun _ h => List.mem_cons_of_mem _ (List.mem_append_left _ (List.mem_append_left _ (List.mem_append_right _ (h))))) hown hT.1 hW cf_e5 rfl 8 (by decide) (hts (.fieldLink RX5 49 "GameCafe" "now" "I") (List.mem_of_getElem? (i := 3) rfl)) (fun _ h9 => h9) rfl dX5_advance_31 ?_
    refine lv_iload_n hx hb dX5_advance_34 rfl (lv_at hl 1 rfl) ?_
    refine lv_iadd hx hb dX5_advance_35 ?_
    refine cf_putE (v := .int ((S 5 0 2) + x)) (ty := .int) (ci := 5) (C := RX5) (T := TX5) (N := 9) hx hb hts (fun _ h => List.mem_cons_of_mem _ (List.mem_append_left _ (List.mem_append_left _ (List.mem_append_right _ (h))))) tyX5 tyX5_ok nmX5 hown hT.1 hW hS cf_e5 rfl 8 (by decide) (hts (.fieldLink RX5 49 "GameCafe" "now" "I") (List.mem_of_getElem? (i := 3) rfl)) (fun _ h9 => h9) rfl (by decide +kernel) rfl rfl (Nat.le_of_ble_eq_true rfl) dX5_advance_36 (E2 := (cf_E cT nc ng (cf_s3 S 5 0 2 ((S 5 0 2) + x)) P O ad)) (cf_upS 5 0 (upd (S 5 0) 2 ((S 5 0 2) + x)) rfl) (fun H locs hW hS => ?_)
    refine lv_aload_n hx hb dX5_advance_39 rfl (lv_at hl 0 rfl) ?_
    refine cf_get (v := .int ((S 5 0 2) + x)) (ci := 5) (C := RX5) (T := TX5) (N := 9) hx hb hts (fun _ h => List.mem_cons_of_mem _ (List.mem_append_left _ (List.mem_append_left _ (List.mem_append_right _ (h))))) hown hT.1 hW cf_e5 rfl 8 (by decide) (hts (.fieldLink RX5 49 "GameCafe" "now" "I") (List.mem_of_getElem? (i := 3) rfl)) (fun _ h9 => h9) (congrArg (fun x => some (Value.int x)) (by simp [cf_s3, cf_g2, upd] : (cf_s3 S 5 0 2 ((S 5 0 2) + x)) 5 0 2 = ((S 5 0 2) + x))) dX5_advance_40 ?_
    refine vx_ret ?_
    refine W.widen (k := 2) (n := 12) (by omega) (by omega) ?_
    exact W.iret (v := ((S 5 0 2) + x)) hx hb hr (fun t9 ht9 hw9 => ⟨⟨((S 5 0 2) + x), (cf_s3 S 5 0 2 ((S 5 0 2) + x)), rfl, ⟨h1, c16_2, rfl, rfl⟩, cf_W.re ht9 hW⟩, hS.F ht9⟩) hS.2.2 dX5_advance_43
  · exact cf_throw (text := "the minute would be above the last one") hx hb hl0 hown (by decide +kernel) (hts (.classLink RX5 83 "java/lang/IllegalStateException") (List.mem_of_getElem? (i := 1) rfl)) (hts (.initialized "java/lang/IllegalStateException") (List.mem_of_getElem? (i := 2) rfl)) (List.mem_of_getElem? (i := 12) rfl) (List.mem_of_getElem? (i := 2) rfl) (fun w h => hts w (List.mem_cons_of_mem _ (List.mem_append_left _ (List.mem_append_right _ (h))))) cf_ng_ise cf_gd_ise hT hW hS (hl.1.trans hml.symm) dX5_advance_19 dX5_advance_22 dX5_advance_23 dX5_advance_25 dX5_advance_28 htab (by decide) hlocks (Or.inr ⟨rfl, h1, c16_2⟩) (by decide)
end
section
set_option maxHeartbeats 4000000 in
set_option maxRecDepth 100000 in
/-- X5_count -/
theorem c_X5_count (l : Launch) (D : va_G) (cT : Nat → ClassId) (z : Nat) (ad : cf_Ad) (nc ng : Nat) (S : cf_S) (P : cf_Pt) (O : Nat → Int64) (hl0 : l.stackTraces = false) (x y a1 : Int32) (hnc : nc ≤ 15) (hO : ∀ j, j < 15 → P 14 0 j = if j < nc then j + 1 else 0) : vx_Met l yX5_count wsX5_count ({ frames := 7, cells := 4, slots := 24, locals := 104 }) (va_Pc [.ref (ad 5 0), .int x, .int y, .int a1] (cf_P D cT z (cf_E cT nc ng S P O ad) ad)) (cf_Qi D z (fun (r : Int32) (T : cf_S) => ∃ cp k : Nat, cp < nc ∧ x = nI cp ∧ k < 4 ∧ y = nI k ∧ (cf_rg a1 (-20) 20) ∧ S 0 cp 0 ≠ 2 ∧ cf_rg (S 7 cp k + a1) 0 40 ∧ r = S 7 cp k + a1 ∧ T = cf_s3 S 7 cp k (S 7 cp k + a1)) (fun T => cf_E cT nc ng T P O ad) (fun _ => ad)) (cf_X D z (cf_E cT nc ng S P O ad) ad (cf_x123 (cf_ix x nc ∧ cf_ix y 4) (cf_rg a1 (-20) 20) (∀ cp k : Nat, x = nI cp → cp < nc → y = nI k → k < 4 → S 0 cp 0 ≠ 2 ∧ cf_rg (S 7 cp k + a1) 0 40))) 4 24 (fun q => z ≤ q) := by
  refine vx_ofW (cc := cX5_count) (maxL := 6) (ret := (some .int)) (by decide) rfl ?_
  intro p e s m args below meth c s₁ B hml htab hv
  obtain ⟨rfl, hW, hT⟩ := hv
  have hx := B.exec
  have hb := B.bytes
  have hr := B.returns
  have hts := atoms_spec (ws := wsX5_count) B.pre
  have hown : s.vm.findClass RX5 = some m.cls := findClass_of_methodNamed B.named
  have hlocks := B.notSynchronized
  have hS : va_S (fun q => z ≤ q) s.heap s.heap [] := va_S.rf
  have hl := lv_entry ([.ref (ad 5 0), .int x, .int y, .int a1]) (n := 6) (Nat.le_of_ble_eq_true rfl)
  rw [lg_entry_eq]
  generalize (lg_sl ([.ref (ad 5 0), .int x, .int y, .int a1]) ++ List.replicate (6 - (lg_sl ([.ref (ad 5 0), .int x, .int y, .int a1])).length) Slot.unset).toArray = ls at hl ⊢
  have hl : lv_has ls 6 [(0, .ref (ad 5 0)), (1, .int x), (2, .int y), (3, .int a1)] := hl
  skip
  refine lv_aload_n hx hb dX5_count_0 rfl (lv_at hl 0 rfl) ?_
  refine lv_iload_n hx hb dX5_count_1 rfl (lv_at hl 1 rfl) ?_
  refine vx_callq (vx_runV (As := [.int x]) (rest := []) ⟨hx, hb, hml, hown, hts⟩ (c_X5_copyNumbered l D cT z ad nc ng S P O hl0 x hnc hO) (cwV 1 hts gX5_count_X5_copyNumbered rfl rfl rfl (by decide +kernel) ⟨Nat.le_of_ble_eq_true rfl, Nat.le_of_ble_eq_true rfl⟩) (cf_preV (T := TX5) (N := 9) hT hS hW cf_e5 rfl) rfl rfl hl.1 rfl (lv_room (Nat.le_of_ble_eq_true rfl)) dX5_count_2 ⟨Nat.le_of_ble_eq_true rfl, Nat.le_of_ble_eq_true rfl⟩) hS (fun _ _ h => h) (fun _ h => h) (fun _ _ h => h) (fun E9 ce q9 u9 t9 H locs ht hvm hu hB hz1 hk1 hS hce hcv hcl => ?_) (fun r1 ur1 t9 H locs ht hvm hw hW hz1 hk1 hS => ?_)
  · obtain ⟨hp, hW⟩ := hB
    have hW := cf_W.er ht hW
    exact cf_pass htab hlocks hce hcv hcl hS hW (Or.inl ⟨hp.1, fun q => hp.2 q.1⟩) ⟨Nat.le_of_ble_eq_true rfl, Nat.le_of_ble_eq_true rfl⟩
  have hW := cf_W.er ht hW
  obtain ⟨cp, hc, hxc, rfl⟩ := hw
  refine lv_astore (lv' := [(4, .ref (ad 0 cp)), (0, .ref (ad 5 0)), (1, .int x), (2, .int y), (3, .int a1)]) hx hb dX5_count_5 hl (by decide) rfl (fun ls hl => ?_)
  refine lv_iload_n hx hb dX5_count_7 rfl (lv_at hl 3 rfl) ?_
  refine lv_iconst (v := 4) hx hb dX5_count_8 (by decide) ?_
  refine vx_callv (vx_runS (As := [.int y, .int 4]) (rest := []) ⟨hx, hb, hml, hown, hts⟩ (c_X5_checkNumber l D cT z ad _ y 4 4 (by decide) rfl hl0) (va_cwS 2 hts gX5_count_X5_checkNumber rfl rfl rfl (by decide +kernel) ⟨Nat.le_of_ble_eq_true rfl, Nat.le_of_ble_eq_true rfl⟩) (cf_preS hT hS hW) rfl rfl hl.1 rfl (lv_room (Nat.le_of_ble_eq_true rfl)) dX5_count_9 ⟨Nat.le_of_ble_eq_true rfl, Nat.le_of_ble_eq_true rfl⟩) hS (fun _ _ h => h) (fun _ h => h) (fun _ _ h => h) (fun E9 ce q9 u9 t9 H locs ht hvm hu hB hz1 hk1 hS hce hcv hcl => ?_) (fun ur2 t9 H locs ht hvm hw hW hz1 hk1 hS => ?_)
  · obtain ⟨hp, hW⟩ := hB
    have hW := cf_W.er ht hW
    exact cf_pass htab hlocks hce hcv hcl hS hW (Or.inl ⟨hp.1, fun q => hp.2 q.2⟩) ⟨Nat.le_of_ble_eq_true rfl, Nat.le_of_ble_eq_true rfl⟩
  have hW := cf_W.er ht hW
  have hy := hw
  have hA : cf_ix x nc ∧ cf_ix y 4 := ⟨⟨cp, hc, hxc⟩, hy⟩
  refine lv_iload_n hx hb dX5_count_12 rfl (lv_at hl 4 rfl) ?_
  refine lv_bipush (v := (-20)) hx hb dX5_count_13 (by decide) ?_
  refine lv_bipush (v := 20) hx hb dX5_count_15 (by decide) ?_
  refine vx_callv (vx_runS (As := [.int a1, .int (-20), .int 20]) (rest := []) ⟨hx, hb, hml, hown, hts⟩ (c_X5_checkRange l D cT z ad _ a1 (-20) 20 hl0) (va_cwS 3 hts gX5_count_X5_checkRange rfl rfl rfl (by decide +kernel) ⟨Nat.le_of_ble_eq_true rfl, Nat.le_of_ble_eq_true rfl⟩) (cf_preS hT hS hW) rfl rfl hl.1 rfl (lv_room (Nat.le_of_ble_eq_true rfl)) dX5_count_17 ⟨Nat.le_of_ble_eq_true rfl, Nat.le_of_ble_eq_true rfl⟩) hS (fun _ _ h => h) (fun _ h => h) (fun _ _ h => h) (fun E9 ce q9 u9 t9 H locs ht hvm hu hB hz1 hk1 hS hce hcv hcl => ?_) (fun ur3 t9 H locs ht hvm hw hW hz1 hk1 hS => ?_)
  · obtain ⟨hp, hW⟩ := hB
    have hW := cf_W.er ht hW
    exact cf_pass htab hlocks hce hcv hcl hS hW (Or.inr (Or.inl ⟨hp.1, hA, hp.2⟩)) ⟨Nat.le_of_ble_eq_true rfl, Nat.le_of_ble_eq_true rfl⟩
  have hW := cf_W.er ht hW
  have h1 := hw
  obtain ⟨k, hk, hyk⟩ := hy
  refine lv_aload hx hb dX5_count_20 (lv_at hl 0 rfl) ?_
  refine cf_get (v := .ref (ad 7 cp)) (ci := 0) (C := RX0) (T := TX0) (N := 4) hx hb hts (fun _ h => List.mem_cons_of_mem _ (List.mem_append_left _ (List.mem_append_left _ (List.mem_append_left _ (List.mem_append_left _ (List.mem_append_right _ (h))))))) hown hT.1 hW (cf_e0 hc) rfl 2 (by decide) (hts (.fieldLink RX5 106 "GameCafe$Copy" "has" "[I") (List.mem_of_getElem? (i := 3) rfl)) (fun _ h9 => h9) rfl dX5_count_22 ?_
  refine lv_iload_n hx hb dX5_count_25 rfl (lv_at hl 3 rfl) ?_
  refine cf_ildN (t0 := 0) (n := 4) (f := S 7 cp) (v := (S 7 cp k)) hx hb hT.1 hW (cf_e7 hc) rfl k hyk hk (by decide) dX5_count_26 rfl ?_
  refine lv_iload_n hx hb dX5_count_27 rfl (lv_at hl 4 rfl) ?_
  refine lv_iadd hx hb dX5_count_28 ?_
  refine lv_istore (lv' := [(5, .int ((S 7 cp k) + a1)), (4, .ref (ad 0 cp)), (0, .ref (ad 5 0)), (1, .int x), (2, .int y), (3, .int a1)]) hx hb dX5_count_29 hl (by decide) rfl (fun ls hl => ?_)
  refine lv_aload hx hb dX5_count_31 (lv_at hl 1 rfl) ?_
  refine cf_get (v := .int (S 0 cp 0)) (ci := 0) (C := RX0) (T := TX0) (N := 4) hx hb hts (fun _ h => List.mem_cons_of_mem _ (List.mem_append_left _ (List.mem_append_left _ (List.mem_append_left _ (List.mem_append_left _ (List.mem_append_right _ (h))))))) hown hT.1 hW (cf_e0 hc) rfl 3 (by decide) (hts (.fieldLink RX5 109 "GameCafe$Copy" "place" "I") (List.mem_of_getElem? (i := 4) rfl)) (fun _ h9 => h9) rfl dX5_count_33 ?_
  refine lv_iconst (v := 2) hx hb dX5_count_36 (by decide) ?_
  refine lv_icmp_eq (tgt := 52) hx hb dX5_count_37 (by decide) (fun c37_4 => ?_) (fun c37_4 => ?_)
  · exact cf_throw (text := "the parts of the copy cannot change so") hx hb hl0 hown (by decide +kernel) (hts (.classLink RX5 83 "java/lang/IllegalStateException") (List.mem_of_getElem? (i := 1) rfl)) (hts (.initialized "java/lang/IllegalStateException") (List.mem_of_getElem? (i := 2) rfl)) (List.mem_of_getElem? (i := 5) rfl) (List.mem_of_getElem? (i := 2) rfl) (fun w h => hts w (List.mem_cons_of_mem _ (List.mem_append_left _ (List.mem_append_left _ (List.mem_append_right _ (h)))))) cf_ng_ise cf_gd_ise hT hW hS (hl.1.trans hml.symm) dX5_count_52 dX5_count_55 dX5_count_56 dX5_count_58 dX5_count_61 htab (by decide) hlocks (Or.inr (Or.inr ⟨rfl, hA, h1, fun q => (q cp k hxc hc hyk hk).1 c37_4⟩)) (by decide)
  · refine lv_iload hx hb dX5_count_40 (lv_at hl 0 rfl) ?_
    refine lv_if_lt (tgt := 52) hx hb dX5_count_42 (by decide) (fun c42_5 => ?_) (fun c42_5 => ?_)
    · exact cf_throw (text := "the parts of the copy cannot change so") hx hb hl0 hown (by decide +kernel) (hts (.classLink RX5 83 "java/lang/IllegalStateException") (List.mem_of_getElem? (i := 1) rfl)) (hts (.initialized "java/lang/IllegalStateException") (List.mem_of_getElem? (i := 2) rfl)) (List.mem_of_getElem? (i := 5) rfl) (List.mem_of_getElem? (i := 2) rfl) (fun w h => hts w (List.mem_cons_of_mem _ (List.mem_append_left _ (List.mem_append_left _ (List.mem_append_right _ (h)))))) cf_ng_ise cf_gd_ise hT hW hS (hl.1.trans hml.symm) dX5_count_52 dX5_count_55 dX5_count_56 dX5_count_58 dX5_count_61 htab (by decide) hlocks (Or.inr (Or.inr ⟨rfl, hA, h1, fun q => absurd c42_5 (Int32.not_lt.mpr (q cp k hxc hc hyk hk).2.1)⟩)) (by decide)
    · refine lv_iload hx hb dX5_count_45 (lv_at hl 0 rfl) ?_
      refine lv_bipush (v := 40) hx hb dX5_count_47 (by decide) ?_
      refine lv_icmp_le (tgt := 62) hx hb dX5_count_49 (by decide) (fun c49_6 => ?_) (fun c49_6 => ?_)
      · refine lv_aload hx hb dX5_count_62 (lv_at hl 1 rfl) ?_
        refine cf_get (v := .ref (ad 7 cp)) (ci := 0) (C := RX0) (T := TX0) (N := 4) hx hb hts (fun _ h => List.mem_cons_of_mem _ (List.mem_append_left _ (List.mem_append_left _ (List.mem_append_left _ (List.mem_append_left _ (List.mem_append_right _ (h))))))) hown hT.1 hW (cf_e0 hc) rfl 2 (by decide) (hts (.fieldLink RX5 106 "GameCafe$Copy" "has" "[I") (List.mem_of_getElem? (i := 3) rfl)) (fun _ h9 => h9) rfl dX5_count_64 ?_
        refine lv_iload_n hx hb dX5_count_67 rfl (lv_at hl 4 rfl) ?_
        refine lv_iload hx hb dX5_count_68 (lv_at hl 0 rfl) ?_
        refine cf_istN (t0 := 0) (n := 4) (f := S 7 cp) hx hb hT.1 hW hS (cf_e7 hc) rfl k hyk hk (by decide) dX5_count_70 (E2 := (cf_E cT nc ng (cf_s3 S 7 cp k ((S 7 cp k) + a1)) P O ad)) (cf_upS 7 cp (upd (S 7 cp) k ((S 7 cp k) + a1)) (cf_c7 hc)) (fun H locs hW hS => ?_)
        refine lv_iload hx hb dX5_count_71 (lv_at hl 0 rfl) ?_
        refine vx_ret ?_
        refine W.widen (k := 4) (n := 24) (by omega) (by omega) ?_
        exact W.iret (v := ((S 7 cp k) + a1)) hx hb hr (fun t9 ht9 hw9 => ⟨⟨((S 7 cp k) + a1), (cf_s3 S 7 cp k ((S 7 cp k) + a1)), rfl, ⟨cp, k, hc, hxc, hk, hyk, h1, c37_4, ⟨Int32.not_lt.mp c42_5, c49_6⟩, rfl, rfl⟩, cf_W.re ht9 hW⟩, hS.F ht9⟩) hS.2.2 dX5_count_73
      · exact cf_throw (text := "the parts of the copy cannot change so") hx hb hl0 hown (by decide +kernel) (hts (.classLink RX5 83 "java/lang/IllegalStateException") (List.mem_of_getElem? (i := 1) rfl)) (hts (.initialized "java/lang/IllegalStateException") (List.mem_of_getElem? (i := 2) rfl)) (List.mem_of_getElem? (i := 5) rfl) (List.mem_of_getElem? (i := 2) rfl) (fun w h => hts w (List.mem_cons_of_mem _ (List.mem_append_left _ (List.mem_append_left _ (List.mem_append_right _ (h)))))) cf_ng_ise cf_gd_ise hT hW hS (hl.1.trans hml.symm) dX5_count_52 dX5_count_55 dX5_count_56 dX5_count_58 dX5_count_61 htab (by decide) hlocks (Or.inr (Or.inr ⟨rfl, hA, h1, fun q => c49_6 (q cp k hxc hc hyk hk).2.2⟩)) (by decide)
set_option maxHeartbeats 4000000 in
set_option maxRecDepth 100000 in
/-- X5_lend -/
theorem c_X5_lend (l : Launch) (D : va_G) (cT : Nat → ClassId) (z : Nat) (ad : cf_Ad) (nc ng : Nat) (S : cf_S) (P : cf_Pt) (O : Nat → Int64) (hl0 : l.stackTraces = false) (x y : Int32) (hnc : nc ≤ 15) (hO : ∀ j, j < 15 → P 14 0 j = if j < nc then j + 1 else 0) : vx_Met l yX5_lend wsX5_lend ({ frames := 7, cells := 3, slots := 18, locals := 103 }) (va_Pc [.ref (ad 5 0), .int x, .int y] (cf_P D cT z (cf_E cT nc ng S P O ad) ad)) (cf_Qi D z (fun (r : Int32) (T : cf_S × cf_Pt) => ∃ cp b : Nat, cp < nc ∧ x = nI cp ∧ b < 6 ∧ y = nI b ∧ S 0 cp 0 = 0 ∧ P 16 0 b = 0 ∧ r = cf_worth (S 7 cp) ∧ T = (cf_s3 S 0 cp 0 2, cf_p3 P 16 0 b (cp + 1))) (fun T => cf_E cT nc ng T.1 T.2 O ad) (fun _ => ad)) (cf_X D z (cf_E cT nc ng S P O ad) ad (cf_x13 (cf_ix x nc ∧ cf_ix y 6) (∀ cp b : Nat, x = nI cp → cp < nc → y = nI b → b < 6 → S 0 cp 0 = 0 ∧ P 16 0 b = 0))) 3 18 (fun q => z ≤ q) := by
  refine vx_ofW (cc := cX5_lend) (maxL := 4) (ret := (some .int)) (by decide) rfl ?_
  intro p e s m args below meth c s₁ B hml htab hv
  obtain ⟨rfl, hW, hT⟩ := hv
  have hx := B.exec
  have hb := B.bytes
  have hr := B.returns
  have hts := atoms_spec (ws := wsX5_lend) B.pre
  have hown : s.vm.findClass RX5 = some m.cls := findClass_of_methodNamed B.named
  have hlocks := B.notSynchronized
  have hS : va_S (fun q => z ≤ q) s.heap s.heap [] := va_S.rf
  have hl := lv_entry ([.ref (ad 5 0), .int x, .int y]) (n := 4) (Nat.le_of_ble_eq_true rfl)
  rw [lg_entry_eq]
  generalize (lg_sl ([.ref (ad 5 0), .int x, .int y]) ++ List.replicate (4 - (lg_sl ([.ref (ad 5 0), .int x, .int y])).length) Slot.unset).toArray = ls at hl ⊢
  have hl : lv_has ls 4 [(0, .ref (ad 5 0)), (1, .int x), (2, .int y)] := hl
  skip
  refine lv_aload_n hx hb dX5_lend_0 rfl (lv_at hl 0 rfl) ?_
  refine lv_iload_n hx hb dX5_lend_1 rfl (lv_at hl 1 rfl) ?_
  refine vx_callq (vx_runV (As := [.int x]) (rest := []) ⟨hx, hb, hml, hown, hts⟩ (c_X5_copyNumbered l D cT z ad nc ng S P O hl0 x hnc hO) (cwV 1 hts gX5_lend_X5_copyNumbered rfl rfl rfl (by decide +kernel) ⟨Nat.le_of_ble_eq_true rfl, Nat.le_of_ble_eq_true rfl⟩) (cf_preV (T := TX5) (N := 9) hT hS hW cf_e5 rfl) rfl rfl hl.1 rfl (lv_room (Nat.le_of_ble_eq_true rfl)) dX5_lend_2 ⟨Nat.le_of_ble_eq_true rfl, Nat.le_of_ble_eq_true rfl⟩) hS (fun _ _ h => h) (fun _ h => h) (fun _ _ h => h) (fun E9 ce q9 u9 t9 H locs ht hvm hu hB hz1 hk1 hS hce hcv hcl => ?_) (fun r1 ur1 t9 H locs ht hvm hw hW hz1 hk1 hS => ?_)
  · obtain ⟨hp, hW⟩ := hB
    have hW := cf_W.er ht hW
    exact cf_pass htab hlocks hce hcv hcl hS hW (Or.inl ⟨hp.1, fun q => hp.2 q.1⟩) ⟨Nat.le_of_ble_eq_true rfl, Nat.le_of_ble_eq_true rfl⟩
  have hW := cf_W.er ht hW
  obtain ⟨cp, hc, hxc, rfl⟩ := hw
  refine lv_astore_n (lv' := [(3, .ref (ad 0 cp)), (0, .ref (ad 5 0)), (1, .int x), (2, .int y)]) hx hb dX5_lend_5 rfl hl (by decide) rfl (fun ls hl => ?_)
  refine lv_iload_n hx hb dX5_lend_6 rfl (lv_at hl 3 rfl) ?_
  refine lv_bipush (v := 6) hx hb dX5_lend_7 (by decide) ?_
  refine vx_callv (vx_runS (As := [.int y, .int 6]) (rest := []) ⟨hx, hb, hml, hown, hts⟩ (c_X5_checkNumber l D cT z ad _ y 6 6 (by decide) rfl hl0) (va_cwS 2 hts gX5_lend_X5_checkNumber rfl rfl rfl (by decide +kernel) ⟨Nat.le_of_ble_eq_true rfl, Nat.le_of_ble_eq_true rfl⟩) (cf_preS hT hS hW) rfl rfl hl.1 rfl (lv_room (Nat.le_of_ble_eq_true rfl)) dX5_lend_9 ⟨Nat.le_of_ble_eq_true rfl, Nat.le_of_ble_eq_true rfl⟩) hS (fun _ _ h => h) (fun _ h => h) (fun _ _ h => h) (fun E9 ce q9 u9 t9 H locs ht hvm hu hB hz1 hk1 hS hce hcv hcl => ?_) (fun ur2 t9 H locs ht hvm hw hW hz1 hk1 hS => ?_)
  · obtain ⟨hp, hW⟩ := hB
    have hW := cf_W.er ht hW
    exact cf_pass htab hlocks hce hcv hcl hS hW (Or.inl ⟨hp.1, fun q => hp.2 q.2⟩) ⟨Nat.le_of_ble_eq_true rfl, Nat.le_of_ble_eq_true rfl⟩
  have hW := cf_W.er ht hW
  have hy := hw
  have hA : cf_ix x nc ∧ cf_ix y 6 := ⟨⟨cp, hc, hxc⟩, hy⟩
  obtain ⟨k, hk, hyk⟩ := hy
  refine lv_aload_n hx hb dX5_lend_12 rfl (lv_at hl 0 rfl) ?_
  refine cf_get (v := .int (S 0 cp 0)) (ci := 0) (C := RX0) (T := TX0) (N := 4) hx hb hts (fun _ h => List.mem_cons_of_mem _ (List.mem_append_left _ (List.mem_append_left _ (List.mem_append_left _ (List.mem_append_right _ (h)))))) hown hT.1 hW (cf_e0 hc) rfl 3 (by decide) (hts (.fieldLink RX5 109 "GameCafe$Copy" "place" "I") (List.mem_of_getElem? (i := 3) rfl)) (fun _ h9 => h9) rfl dX5_lend_13 ?_
  refine lv_if_ne (tgt := 28) hx hb dX5_lend_16 (by decide) (fun c16_3 => ?_) (fun c16_3 => ?_)
  · exact cf_throw (text := "the copy cannot be lent to the borrower") hx hb hl0 hown (by decide +kernel) (hts (.classLink RX5 83 "java/lang/IllegalStateException") (List.mem_of_getElem? (i := 1) rfl)) (hts (.initialized "java/lang/IllegalStateException") (List.mem_of_getElem? (i := 2) rfl)) (List.mem_of_getElem? (i := 13) rfl) (List.mem_of_getElem? (i := 2) rfl) (fun w h => hts w (List.mem_cons_of_mem _ (List.mem_append_left _ (List.mem_append_right _ (h))))) cf_ng_ise cf_gd_ise hT hW hS (hl.1.trans hml.symm) dX5_lend_28 dX5_lend_31 dX5_lend_32 dX5_lend_34 dX5_lend_37 htab (by decide) hlocks (Or.inr ⟨rfl, hA, fun q => c16_3 (q cp k hxc hc hyk hk).1⟩) (by decide)
  · refine lv_aload_n hx hb dX5_lend_19 rfl (lv_at hl 1 rfl) ?_
    refine cf_get (v := .ref (ad 16 0)) (ci := 5) (C := RX5) (T := TX5) (N := 9) hx hb hts (fun _ h => List.mem_cons_of_mem _ (List.mem_append_left _ (List.mem_append_left _ (List.mem_append_right _ (h))))) hown hT.1 hW cf_e5 rfl 5 (by decide) (hts (.fieldLink RX5 39 "GameCafe" "borrowed" "[LGameCafe$Copy;") (List.mem_of_getElem? (i := 4) rfl)) (fun _ h9 => h9) rfl dX5_lend_20 ?_
    refine lv_iload_n hx hb dX5_lend_23 rfl (lv_at hl 3 rfl) ?_
    rcases Nat.eq_zero_or_pos (P 16 0 k) with h0 | h0
    · refine cf_aldN (t0 := 6) (C := RX0) (n := 6) (v := .null) hx hb hT.1 hW cf_e16 rfl k hyk hk (by decide) dX5_lend_24 (cf_rw0 h0) ?_
      refine lv_ifnullN (tgt := 38) hx hb dX5_lend_25 (by decide) ?_
      refine lv_aload_n hx hb dX5_lend_38 rfl (lv_at hl 0 rfl) ?_
      refine lv_iconst (v := 2) hx hb dX5_lend_39 (by decide) ?_
      refine cf_putE (v := .int 2) (ty := .int) (ci := 0) (C := RX0) (T := TX0) (N := 4) hx hb hts (fun _ h => List.mem_cons_of_mem _ (List.mem_append_left _ (List.mem_append_left _ (List.mem_append_left _ (List.mem_append_right _ (h)))))) tyX0 tyX0_ok nmX0 hown hT.1 hW hS (cf_e0 hc) rfl 3 (by decide) (hts (.fieldLink RX5 109 "GameCafe$Copy" "place" "I") (List.mem_of_getElem? (i := 3) rfl)) (fun _ h9 => h9) rfl (by decide +kernel) rfl rfl (Nat.le_of_ble_eq_true rfl) dX5_lend_40 (E2 := (cf_E cT nc ng (cf_s3 S 0 cp 0 2) P O ad)) (cf_upS 0 cp (upd (S 0 cp) 0 2) (cf_c0 hc)) (fun H locs hW hS => ?_)
      refine lv_aload_n hx hb dX5_lend_43 rfl (lv_at hl 1 rfl) ?_
      refine cf_get (v := .ref (ad 16 0)) (ci := 5) (C := RX5) (T := TX5) (N := 9) hx hb hts (fun _ h => List.mem_cons_of_mem _ (List.mem_append_left _ (List.mem_append_left _ (List.mem_append_right _ (h))))) hown hT.1 hW cf_e5 rfl 5 (by decide) (hts (.fieldLink RX5 39 "GameCafe" "borrowed" "[LGameCafe$Copy;") (List.mem_of_getElem? (i := 4) rfl)) (fun _ h9 => h9) rfl dX5_lend_44 ?_
      refine lv_iload_n hx hb dX5_lend_47 rfl (lv_at hl 3 rfl) ?_
      refine lv_aload_n hx hb dX5_lend_48 rfl (lv_at hl 0 rfl) ?_
      refine cf_astN (t0 := 6) (ci := 0) (r := (RX0, TX0, 4)) (n := 6) hx hb hT.1 hW hS cf_e16 rfl (cf_e0 hc) rfl k hyk hk (by decide) dX5_lend_49 (E2 := (cf_E cT nc ng (cf_s3 S 0 cp 0 2) (cf_p3 P 16 0 k (cp + 1)) O ad)) cf_up16 (fun H locs hW hS => ?_)
      refine lv_aload_n hx hb dX5_lend_50 rfl (lv_at hl 0 rfl) ?_
      refine va_calli (va_runV (As := []) (rest := []) ⟨hx, hb, hml, hown, hts⟩ (c_X0_worth l D cT z ad nc ng (cf_s3 S 0 cp 0 2) (cf_p3 P 16 0 k (cp + 1)) O hc) (cwV 0 hts gX5_lend_X0_worth rfl rfl rfl (by decide +kernel) ⟨Nat.le_of_ble_eq_true rfl, Nat.le_of_ble_eq_true rfl⟩) (cf_preV (T := TX0) (N := 4) hT hS hW (cf_e0 hc) rfl) rfl rfl hl.1 rfl (lv_room (Nat.le_of_ble_eq_true rfl)) dX5_lend_51 ⟨Nat.le_of_ble_eq_true rfl, Nat.le_of_ble_eq_true rfl⟩) hS (fun _ _ h => h) (fun _ h => h) (fun r4 ur4 t9 H locs ht hvm hw hW hz1 hk1 hS => ?_)
      have hW := cf_W.er ht hW
      refine vx_ret ?_
      refine W.widen (k := 3) (n := 18) (by omega) (by omega) ?_
      exact W.iret (v := r4) hx hb hr (fun t9 ht9 hw9 => ⟨⟨r4, ((cf_s3 S 0 cp 0 2), (cf_p3 P 16 0 k (cp + 1))), rfl, ⟨cp, k, hc, hxc, hk, hyk, c16_3, h0, hw, rfl⟩, cf_W.re ht9 hW⟩, hS.F ht9⟩) hS.2.2 dX5_lend_54
    · obtain ⟨n, hn⟩ : ∃ n, P 16 0 k = n + 1 := ⟨P 16 0 k - 1, by omega⟩
      refine cf_aldN (t0 := 6) (C := RX0) (n := 6) (v := .ref (ad 0 n)) hx hb hT.1 hW cf_e16 rfl k hyk hk (by decide) dX5_lend_24 (cf_rwS hn) ?_
      refine lv_ifnull hx hb dX5_lend_25 ?_
      exact cf_throw (text := "the copy cannot be lent to the borrower") hx hb hl0 hown (by decide +kernel) (hts (.classLink RX5 83 "java/lang/IllegalStateException") (List.mem_of_getElem? (i := 1) rfl)) (hts (.initialized "java/lang/IllegalStateException") (List.mem_of_getElem? (i := 2) rfl)) (List.mem_of_getElem? (i := 13) rfl) (List.mem_of_getElem? (i := 2) rfl) (fun w h => hts w (List.mem_cons_of_mem _ (List.mem_append_left _ (List.mem_append_right _ (h))))) cf_ng_ise cf_gd_ise hT hW hS (hl.1.trans hml.symm) dX5_lend_28 dX5_lend_31 dX5_lend_32 dX5_lend_34 dX5_lend_37 htab (by decide) hlocks (Or.inr ⟨rfl, hA, fun q => absurd (q cp k hxc hc hyk hk).2 (by omega)⟩) (by decide)
set_option maxHeartbeats 4000000 in
set_option maxRecDepth 100000 in
/-- X5_giveBack -/
theorem c_X5_giveBack (l : Launch) (D : va_G) (cT : Nat → ClassId) (z : Nat) (ad : cf_Ad) (nc ng : Nat) (S : cf_S) (P : cf_Pt) (O : Nat → Int64) (hl0 : l.stackTraces = false) (x y a1 : Int32) (hB : ∀ j, j < 6 → P 16 0 j ≤ nc) : vx_Met l yX5_giveBack wsX5_giveBack ({ frames := 7, cells := 4, slots := 24, locals := 104 }) (va_Pc [.ref (ad 5 0), .int x, .int y, .int a1] (cf_P D cT z (cf_E cT nc ng S P O ad) ad)) (cf_Qi D z (fun (r : Int32) (T : cf_S × cf_Pt) => ∃ cp b k : Nat, cp < nc ∧ P 16 0 b = cp + 1 ∧ b < 6 ∧ x = nI b ∧ k < 4 ∧ y = nI k ∧ (cf_rg a1 0 20) ∧ a1 ≤ S 7 cp k ∧ r = cf_worth (S 7 cp) - a1 * (100 * (y + 1)) ∧ T = (cf_s3 (cf_s3 S 7 cp k (S 7 cp k - a1)) 0 cp 0 0, cf_p3 P 16 0 b 0)) (fun T => cf_E cT nc ng T.1 T.2 O ad) (fun _ => ad)) (cf_X D z (cf_E cT nc ng S P O ad) ad (cf_x123 (cf_ix x 6 ∧ cf_ix y 4) (cf_rg a1 0 20) (∀ b k : Nat, x = nI b → b < 6 → y = nI k → k < 4 → P 16 0 b ≠ 0 ∧ a1 ≤ S 7 (P 16 0 b - 1) k))) 4 24 (fun q => z ≤ q) := by
  refine vx_ofW (cc := cX5_giveBack) (maxL := 6) (ret := (some .int)) (by decide) rfl ?_
  intro p e s m args below meth c s₁ B hml htab hv
  obtain ⟨rfl, hW, hT⟩ := hv
  have hx := B.exec
  have hb := B.bytes
  have hr := B.returns
  have hts := atoms_spec (ws := wsX5_giveBack) B.pre
  have hown : s.vm.findClass RX5 = some m.cls := findClass_of_methodNamed B.named
  have hlocks := B.notSynchronized
  have hS : va_S (fun q => z ≤ q) s.heap s.heap [] := va_S.rf
  have hl := lv_entry ([.ref (ad 5 0), .int x, .int y, .int a1]) (n := 6) (Nat.le_of_ble_eq_true rfl)
  rw [lg_entry_eq]
  generalize (lg_sl ([.ref (ad 5 0), .int x, .int y, .int a1]) ++ List.replicate (6 - (lg_sl ([.ref (ad 5 0), .int x, .int y, .int a1])).length) Slot.unset).toArray = ls at hl ⊢
  have hl : lv_has ls 6 [(0, .ref (ad 5 0)), (1, .int x), (2, .int y), (3, .int a1)] := hl
  skip
  refine lv_iload_n hx hb dX5_giveBack_0 rfl (lv_at hl 1 rfl) ?_
  refine lv_bipush (v := 6) hx hb dX5_giveBack_1 (by decide) ?_
  refine vx_callv (vx_runS (As := [.int x, .int 6]) (rest := []) ⟨hx, hb, hml, hown, hts⟩ (c_X5_checkNumber l D cT z ad _ x 6 6 (by decide) rfl hl0) (va_cwS 2 hts gX5_giveBack_X5_checkNumber rfl rfl rfl (by decide +kernel) ⟨Nat.le_of_ble_eq_true rfl, Nat.le_of_ble_eq_true rfl⟩) (cf_preS hT hS hW) rfl rfl hl.1 rfl (lv_room (Nat.le_of_ble_eq_true rfl)) dX5_giveBack_3 ⟨Nat.le_of_ble_eq_true rfl, Nat.le_of_ble_eq_true rfl⟩) hS (fun _ _ h => h) (fun _ h => h) (fun _ _ h => h) (fun E9 ce q9 u9 t9 H locs ht hvm hu hB hz1 hk1 hS hce hcv hcl => ?_) (fun ur1 t9 H locs ht hvm hw hW hz1 hk1 hS => ?_)
  · obtain ⟨hp, hW⟩ := hB
    have hW := cf_W.er ht hW
    exact cf_pass htab hlocks hce hcv hcl hS hW (Or.inl ⟨hp.1, fun q => hp.2 q.1⟩) ⟨Nat.le_of_ble_eq_true rfl, Nat.le_of_ble_eq_true rfl⟩
  have hW := cf_W.er ht hW
  have hi := hw
  refine lv_iload_n hx hb dX5_giveBack_6 rfl (lv_at hl 2 rfl) ?_
  refine lv_iconst (v := 4) hx hb dX5_giveBack_7 (by decide) ?_
  refine vx_callv (vx_runS (As := [.int y, .int 4]) (rest := []) ⟨hx, hb, hml, hown, hts⟩ (c_X5_checkNumber l D cT z ad _ y 4 4 (by decide) rfl hl0) (va_cwS 2 hts gX5_giveBack_X5_checkNumber rfl rfl rfl (by decide +kernel) ⟨Nat.le_of_ble_eq_true rfl, Nat.le_of_ble_eq_true rfl⟩) (cf_preS hT hS hW) rfl rfl hl.1 rfl (lv_room (Nat.le_of_ble_eq_true rfl)) dX5_giveBack_8 ⟨Nat.le_of_ble_eq_true rfl, Nat.le_of_ble_eq_true rfl⟩) hS (fun _ _ h => h) (fun _ h => h) (fun _ _ h => h) (fun E9 ce q9 u9 t9 H locs ht hvm hu hB hz1 hk1 hS hce hcv hcl => ?_) (fun ur2 t9 H locs ht hvm hw hW hz1 hk1 hS => ?_)
  · obtain ⟨hp, hW⟩ := hB
    have hW := cf_W.er ht hW
    exact cf_pass htab hlocks hce hcv hcl hS hW (Or.inl ⟨hp.1, fun q => hp.2 q.2⟩) ⟨Nat.le_of_ble_eq_true rfl, Nat.le_of_ble_eq_true rfl⟩
  have hW := cf_W.er ht hW
  have hy := hw
  refine lv_iload_n hx hb dX5_giveBack_11 rfl (lv_at hl 3 rfl) ?_
  refine lv_iconst (v := 0) hx hb dX5_giveBack_12 (by decide) ?_
  refine lv_bipush (v := 20) hx hb dX5_giveBack_13 (by decide) ?_
  have hA : cf_ix x 6 ∧ cf_ix y 4 := ⟨hi, hy⟩
  refine vx_callv (vx_runS (As := [.int a1, .int 0, .int 20]) (rest := []) ⟨hx, hb, hml, hown, hts⟩ (c_X5_checkRange l D cT z ad _ a1 0 20 hl0) (va_cwS 3 hts gX5_giveBack_X5_checkRange rfl rfl rfl (by decide +kernel) ⟨Nat.le_of_ble_eq_true rfl, Nat.le_of_ble_eq_true rfl⟩) (cf_preS hT hS hW) rfl rfl hl.1 rfl (lv_room (Nat.le_of_ble_eq_true rfl)) dX5_giveBack_15 ⟨Nat.le_of_ble_eq_true rfl, Nat.le_of_ble_eq_true rfl⟩) hS (fun _ _ h => h) (fun _ h => h) (fun _ _ h => h) (fun E9 ce q9 u9 t9 H locs ht hvm hu hB hz1 hk1 hS hce hcv hcl => ?_) (fun ur3 t9 H locs ht hvm hw hW hz1 hk1 hS => ?_)
  · obtain ⟨hp, hW⟩ := hB
    have hW := cf_W.er ht hW
    exact cf_pass htab hlocks hce hcv hcl hS hW (Or.inr (Or.inl ⟨hp.1, hA, hp.2⟩)) ⟨Nat.le_of_ble_eq_true rfl, Nat.le_of_ble_eq_true rfl⟩
  have hW := cf_W.er ht hW
  have h1 := hw
  obtain ⟨b0, hb0, hxb⟩ := hi
  obtain ⟨k, hk, hyk⟩ := hy
  refine lv_aload_n hx hb dX5_giveBack_18 rfl (lv_at hl 0 rfl) ?_
  refine cf_get (v := .ref (ad 16 0)) (ci := 5) (C := RX5) (T := TX5) (N := 9) hx hb hts (fun _ h => List.mem_cons_of_mem _ (List.mem_append_left _ (List.mem_append_left _ (List.mem_append_left _ (List.mem_append_left _ (List.mem_append_right _ (h))))))) hown hT.1 hW cf_e5 rfl 5 (by decide) (hts (.fieldLink RX5 39 "GameCafe" "borrowed" "[LGameCafe$Copy;") (List.mem_of_getElem? (i := 3) rfl)) (fun _ h9 => h9) rfl dX5_giveBack_19 ?_
  refine lv_iload_n hx hb dX5_giveBack_22 rfl (lv_at hl 1 rfl) ?_
  rcases Nat.eq_zero_or_pos (P 16 0 b0) with h0 | h0
  · refine cf_aldN (t0 := 6) (C := RX0) (n := 6) (v := .null) hx hb hT.1 hW cf_e16 rfl b0 hxb hb0 (by decide) dX5_giveBack_23 (cf_rw0 h0) ?_
    refine lv_astoreN (lv' := [(4, .null), (0, .ref (ad 5 0)), (1, .int x), (2, .int y), (3, .int a1)]) hx hb dX5_giveBack_24 hl (by decide) rfl (fun ls hl => ?_)
    refine lv_aloadN hx hb dX5_giveBack_26 (lv_at hl 0 rfl) ?_
    refine lv_ifnullN (tgt := 42) hx hb dX5_giveBack_28 (by decide) ?_
    exact cf_throw (text := "there is no such copy to come back") hx hb hl0 hown (by decide +kernel) (hts (.classLink RX5 83 "java/lang/IllegalStateException") (List.mem_of_getElem? (i := 1) rfl)) (hts (.initialized "java/lang/IllegalStateException") (List.mem_of_getElem? (i := 2) rfl)) (List.mem_of_getElem? (i := 14) rfl) (List.mem_of_getElem? (i := 2) rfl) (fun w h => hts w (List.mem_cons_of_mem _ (List.mem_append_left _ (List.mem_append_left _ (List.mem_append_right _ (h)))))) cf_ng_ise cf_gd_ise hT hW hS (hl.1.trans hml.symm) dX5_giveBack_42 dX5_giveBack_45 dX5_giveBack_46 dX5_giveBack_48 dX5_giveBack_51 htab (by decide) hlocks (Or.inr (Or.inr ⟨rfl, hA, h1, fun q => (q b0 k hxb hb0 hyk hk).1 h0⟩)) (by decide)
  · obtain ⟨cp, hcp⟩ : ∃ n, P 16 0 b0 = n + 1 := ⟨P 16 0 b0 - 1, by omega⟩
    have hc : cp < nc := by have := hB b0 hb0; omega
    refine cf_aldN (t0 := 6) (C := RX0) (n := 6) (v := .ref (ad 0 cp)) hx hb hT.1 hW cf_e16 rfl b0 hxb hb0 (by decide) dX5_giveBack_23 (cf_rwS hcp) ?_
    refine lv_astore (lv' := [(4, .ref (ad 0 cp)), (0, .ref (ad 5 0)), (1, .int x), (2, .int y), (3, .int a1)]) hx hb dX5_giveBack_24 hl (by decide) rfl (fun ls hl => ?_)
    refine lv_aload hx hb dX5_giveBack_26 (lv_at hl 0 rfl) ?_
    refine lv_ifnull hx hb dX5_giveBack_28 ?_
    refine lv_aload hx hb dX5_giveBack_31 (lv_at hl 0 rfl) ?_
    refine cf_get (v := .ref (ad 7 cp)) (ci := 0) (C := RX0) (T := TX0) (N := 4) hx hb hts (fun _ h => List.mem_cons_of_mem _ (List.mem_append_left _ (List.mem_append_left _ (List.mem_append_left _ (List.mem_append_right _ (h)))))) hown hT.1 hW (cf_e0 hc) rfl 2 (by decide) (hts (.fieldLink RX5 106 "GameCafe$Copy" "has" "[I") (List.mem_of_getElem? (i := 4) rfl)) (fun _ h9 => h9) rfl dX5_giveBack_33 ?_
    refine lv_iload_n hx hb dX5_giveBack_36 rfl (lv_at hl 3 rfl) ?_
    refine cf_ildN (t0 := 0) (n := 4) (f := S 7 cp) (v := (S 7 cp k)) hx hb hT.1 hW (cf_e7 hc) rfl k hyk hk (by decide) dX5_giveBack_37 rfl ?_
    refine lv_iload_n hx hb dX5_giveBack_38 rfl (lv_at hl 4 rfl) ?_
    refine lv_icmp_ge (tgt := 52) hx hb dX5_giveBack_39 (by decide) (fun c39_4 => ?_) (fun c39_4 => ?_)
    · refine lv_aload hx hb dX5_giveBack_52 (lv_at hl 0 rfl) ?_
      refine va_calli (va_runV (As := []) (rest := []) ⟨hx, hb, hml, hown, hts⟩ (c_X0_worth l D cT z ad nc ng S P O hc) (cwV 0 hts gX5_giveBack_X0_worth rfl rfl rfl (by decide +kernel) ⟨Nat.le_of_ble_eq_true rfl, Nat.le_of_ble_eq_true rfl⟩) (cf_preV (T := TX0) (N := 4) hT hS hW (cf_e0 hc) rfl) rfl rfl hl.1 rfl (lv_room (Nat.le_of_ble_eq_true rfl)) dX5_giveBack_54 ⟨Nat.le_of_ble_eq_true rfl, Nat.le_of_ble_eq_true rfl⟩) hS (fun _ _ h => h) (fun _ h => h) (fun r5 ur5 t9 H locs ht hvm hw hW hz1 hk1 hS => ?_)
      have hW := cf_W.er ht hW
      have hw1 := hw
      refine lv_istore (lv' := [(5, .int r5), (4, .ref (ad 0 cp)), (0, .ref (ad 5 0)), (1, .int x), (2, .int y), (3, .int a1)]) hx hb dX5_giveBack_57 hl (by decide) rfl (fun ls hl => ?_)
      refine lv_aload hx hb dX5_giveBack_59 (lv_at hl 1 rfl) ?_
      refine cf_get (v := .ref (ad 7 cp)) (ci := 0) (C := RX0) (T := TX0) (N := 4) hx hb hts (fun _ h => List.mem_cons_of_mem _ (List.mem_append_left _ (List.mem_append_left _ (List.mem_append_left _ (List.mem_append_right _ (h)))))) hown hT.1 hW (cf_e0 hc) rfl 2 (by decide) (hts (.fieldLink RX5 106 "GameCafe$Copy" "has" "[I") (List.mem_of_getElem? (i := 4) rfl)) (fun _ h9 => h9) rfl dX5_giveBack_61 ?_
      refine lv_iload_n hx hb dX5_giveBack_64 rfl (lv_at hl 4 rfl) ?_
      refine lv_dup2_11 hx hb dX5_giveBack_65 rfl rfl ?_
      refine cf_ildN (t0 := 0) (n := 4) (f := S 7 cp) (v := (S 7 cp k)) hx hb hT.1 hW (cf_e7 hc) rfl k hyk hk (by decide) dX5_giveBack_66 rfl ?_
      refine lv_iload_n hx hb dX5_giveBack_67 rfl (lv_at hl 5 rfl) ?_
      refine lv_isub hx hb dX5_giveBack_68 ?_
      refine cf_istN (t0 := 0) (n := 4) (f := S 7 cp) hx hb hT.1 hW hS (cf_e7 hc) rfl k hyk hk (by decide) dX5_giveBack_69 (E2 := (cf_E cT nc ng (cf_s3 S 7 cp k ((S 7 cp k) - a1)) P O ad)) (cf_upS 7 cp (upd (S 7 cp) k ((S 7 cp k) - a1)) (cf_c7 hc)) (fun H locs hW hS => ?_)
      refine lv_aload hx hb dX5_giveBack_70 (lv_at hl 1 rfl) ?_
      refine lv_iconst (v := 0) hx hb dX5_giveBack_72 (by decide) ?_
      refine cf_putE (v := .int 0) (ty := .int) (ci := 0) (C := RX0) (T := TX0) (N := 4) hx hb hts (fun _ h => List.mem_cons_of_mem _ (List.mem_append_left _ (List.mem_append_left _ (List.mem_append_left _ (List.mem_append_right _ (h)))))) tyX0 tyX0_ok nmX0 hown hT.1 hW hS (cf_e0 hc) rfl 3 (by decide) (hts (.fieldLink RX5 109 "GameCafe$Copy" "place" "I") (List.mem_of_getElem? (i := 5) rfl)) (fun _ h9 => h9) rfl (by decide +kernel) rfl rfl (Nat.le_of_ble_eq_true rfl) dX5_giveBack_73 (E2 := (cf_E cT nc ng (cf_s3 (cf_s3 S 7 cp k ((S 7 cp k) - a1)) 0 cp 0 0) P O ad)) (cf_upS 0 cp (upd ((cf_s3 S 7 cp k ((S 7 cp k) - a1)) 0 cp) 0 0) (cf_c0 hc)) (fun H locs hW hS => ?_)
      refine lv_aload_n hx hb dX5_giveBack_76 rfl (lv_at hl 2 rfl) ?_
      refine cf_get (v := .ref (ad 16 0)) (ci := 5) (C := RX5) (T := TX5) (N := 9) hx hb hts (fun _ h => List.mem_cons_of_mem _ (List.mem_append_left _ (List.mem_append_left _ (List.mem_append_left _ (List.mem_append_left _ (List.mem_append_right _ (h))))))) hown hT.1 hW cf_e5 rfl 5 (by decide) (hts (.fieldLink RX5 39 "GameCafe" "borrowed" "[LGameCafe$Copy;") (List.mem_of_getElem? (i := 3) rfl)) (fun _ h9 => h9) rfl dX5_giveBack_77 ?_
      refine lv_iload_n hx hb dX5_giveBack_80 rfl (lv_at hl 3 rfl) ?_
      refine lv_null hx hb dX5_giveBack_81 ?_
      refine cf_astNN (t0 := 6) (C := RX0) (n := 6) hx hb hT.1 hW hS cf_e16 rfl b0 hxb hb0 (by decide) dX5_giveBack_82 (E2 := (cf_E cT nc ng (cf_s3 (cf_s3 S 7 cp k ((S 7 cp k) - a1)) 0 cp 0 0) (cf_p3 P 16 0 b0 0) O ad)) cf_up16N (fun H locs hW hS => ?_)
      refine lv_iload hx hb dX5_giveBack_83 (lv_at hl 0 rfl) ?_
      refine lv_iload_n hx hb dX5_giveBack_85 rfl (lv_at hl 5 rfl) ?_
      refine lv_iload_n hx hb dX5_giveBack_86 rfl (lv_at hl 4 rfl) ?_
      refine va_calli (va_runS (As := [.int y]) (rest := [.int a1, .int r5]) ⟨hx, hb, hml, hown, hts⟩ (c_X5_worthOfPart l D cT z ad _ y) (va_cwS 1 hts gX5_giveBack_X5_worthOfPart rfl rfl rfl (by decide +kernel) ⟨Nat.le_of_ble_eq_true rfl, Nat.le_of_ble_eq_true rfl⟩) (cf_preS hT hS hW) rfl rfl hl.1 rfl (lv_room (Nat.le_of_ble_eq_true rfl)) dX5_giveBack_87 ⟨Nat.le_of_ble_eq_true rfl, Nat.le_of_ble_eq_true rfl⟩) hS (fun _ _ h => h) (fun _ h => h) (fun r6 ur6 t9 H locs ht hvm hw hW hz1 hk1 hS => ?_)
      have hW := cf_W.er ht hW
      refine lv_imul hx hb dX5_giveBack_90 ?_
      refine lv_isub hx hb dX5_giveBack_91 ?_
      refine vx_ret ?_
      refine W.widen (k := 4) (n := 24) (by omega) (by omega) ?_
      exact W.iret (v := (r5 - (a1 * r6))) hx hb hr (fun t9 ht9 hw9 => ⟨⟨(r5 - (a1 * r6)), ((cf_s3 (cf_s3 S 7 cp k ((S 7 cp k) - a1)) 0 cp 0 0), (cf_p3 P 16 0 b0 0)), rfl, ⟨cp, b0, k, hc, hcp, hb0, hxb, hk, hyk, h1, c39_4, by rw [hw1, hw], rfl⟩, cf_W.re ht9 hW⟩, hS.F ht9⟩) hS.2.2 dX5_giveBack_92
    · exact cf_throw (text := "there is no such copy to come back") hx hb hl0 hown (by decide +kernel) (hts (.classLink RX5 83 "java/lang/IllegalStateException") (List.mem_of_getElem? (i := 1) rfl)) (hts (.initialized "java/lang/IllegalStateException") (List.mem_of_getElem? (i := 2) rfl)) (List.mem_of_getElem? (i := 14) rfl) (List.mem_of_getElem? (i := 2) rfl) (fun w h => hts w (List.mem_cons_of_mem _ (List.mem_append_left _ (List.mem_append_left _ (List.mem_append_right _ (h)))))) cf_ng_ise cf_gd_ise hT hW hS (hl.1.trans hml.symm) dX5_giveBack_42 dX5_giveBack_45 dX5_giveBack_46 dX5_giveBack_48 dX5_giveBack_51 htab (by decide) hlocks (Or.inr (Or.inr ⟨rfl, hA, h1, fun q => c39_4 (by have q2 := (q b0 k hxb hb0 hyk hk).2; rw [hcp] at q2; exact q2)⟩)) (by decide)
set_option maxHeartbeats 4000000 in
set_option maxRecDepth 100000 in
/-- X5_go -/
theorem c_X5_go (l : Launch) (D : va_G) (cT : Nat → ClassId) (z : Nat) (ad : cf_Ad) (nc ng : Nat) (S : cf_S) (P : cf_Pt) (O : Nat → Int64) (hl0 : l.stackTraces = false) (x : Int32) (hG : ∀ j, j < nc → P 0 j 0 < 5) (hQ : ∀ j, j < 60 → P 15 0 j = 0 ∨ (P 15 0 j = j + 1 ∧ j < ng)) (hL : ∀ j, j < ng → P 2 j 0 < nc ∧ P 2 j 1 < 6) : vx_Met l yX5_go wsX5_go ({ frames := 7, cells := 1, slots := 6, locals := 103 }) (va_Pc [.ref (ad 5 0), .int x] (cf_P D cT z (cf_E cT nc ng S P O ad) ad)) (cf_Qi D z (fun (r : Int32) (T : cf_S × cf_Pt) => ∃ gp : Nat, gp < 60 ∧ x = nI gp ∧ P 15 0 gp = gp + 1 ∧ gp < ng ∧ r = S 5 0 2 - S 2 gp 0 ∧ T = (cf_s3 (cf_s3 (cf_s3 S 3 (P 2 gp 1) 1 (-1)) 0 (P 2 gp 0) 0 0) 1 (P 0 (P 2 gp 0) 0) 3 (S 1 (P 0 (P 2 gp 0) 0) 3 + 1), cf_p3 P 15 0 gp 0)) (fun T => cf_E cT nc ng T.1 T.2 O ad) (fun _ => ad)) (cf_X D z (cf_E cT nc ng S P O ad) ad (cf_x1 (cf_lv P x))) 1 6 (fun q => z ≤ q) := by
  refine vx_ofW (cc := cX5_go) (maxL := 3) (ret := (some .int)) (by decide) rfl ?_
  intro p e s m args below meth c s₁ B hml htab hv
  obtain ⟨rfl, hW, hT⟩ := hv
  have hx := B.exec
  have hb := B.bytes
  have hr := B.returns
  have hts := atoms_spec (ws := wsX5_go) B.pre
  have hown : s.vm.findClass RX5 = some m.cls := findClass_of_methodNamed B.named
  have hlocks := B.notSynchronized
  have hS : va_S (fun q => z ≤ q) s.heap s.heap [] := va_S.rf
  have hl := lv_entry ([.ref (ad 5 0), .int x]) (n := 3) (Nat.le_of_ble_eq_true rfl)
  rw [lg_entry_eq]
  generalize (lg_sl ([.ref (ad 5 0), .int x]) ++ List.replicate (3 - (lg_sl ([.ref (ad 5 0), .int x])).length) Slot.unset).toArray = ls at hl ⊢
  have hl : lv_has ls 3 [(0, .ref (ad 5 0)), (1, .int x)] := hl
  skip
  refine lv_aload_n hx hb dX5_go_0 rfl (lv_at hl 0 rfl) ?_
  refine lv_iload_n hx hb dX5_go_1 rfl (lv_at hl 1 rfl) ?_
  refine vx_callq (vx_runV (As := [.int x]) (rest := []) ⟨hx, hb, hml, hown, hts⟩ (c_X5_groupNumbered l D cT z ad nc ng S P O hl0 x hQ) (cwV 1 hts gX5_go_X5_groupNumbered rfl rfl rfl (by decide +kernel) ⟨Nat.le_of_ble_eq_true rfl, Nat.le_of_ble_eq_true rfl⟩) (cf_preV (T := TX5) (N := 9) hT hS hW cf_e5 rfl) rfl rfl hl.1 rfl (lv_room (Nat.le_of_ble_eq_true rfl)) dX5_go_2 ⟨Nat.le_of_ble_eq_true rfl, Nat.le_of_ble_eq_true rfl⟩) hS (fun _ _ h => h) (fun _ h => h) (fun _ _ h => h) (fun E9 ce q9 u9 t9 H locs ht hvm hu hB hz1 hk1 hS hce hcv hcl => ?_) (fun r1 ur1 t9 H locs ht hvm hw hW hz1 hk1 hS => ?_)
  · obtain ⟨hp, hW⟩ := hB
    have hW := cf_W.er ht hW
    exact cf_pass htab hlocks hce hcv hcl hS hW (hp) ⟨Nat.le_of_ble_eq_true rfl, Nat.le_of_ble_eq_true rfl⟩
  have hW := cf_W.er ht hW
  obtain ⟨gp, hg60, hxg, hgP, hgn, rfl⟩ := hw
  have hl0g := hL gp hgn
  have hgm : P 0 (P 2 gp 0) 0 < 5 := hG _ hl0g.1
  refine lv_astore_n (lv' := [(2, .ref (ad 2 gp)), (0, .ref (ad 5 0)), (1, .int x)]) hx hb dX5_go_5 rfl hl (by decide) rfl (fun ls hl => ?_)
  refine lv_aload_n hx hb dX5_go_6 rfl (lv_at hl 0 rfl) ?_
  refine cf_get (v := .ref (ad 3 (P 2 gp 1))) (ci := 2) (C := RX2) (T := TX2) (N := 4) hx hb hts (fun _ h => List.mem_cons_of_mem _ (List.mem_append_left _ (List.mem_append_left _ (List.mem_append_left _ (List.mem_append_left _ (List.mem_append_left _ (List.mem_append_right _ (h)))))))) hown hT.1 hW (cf_e2 hgn) rfl 3 (by decide) (hts (.fieldLink RX5 166 "GameCafe$Group" "table" "LGameCafe$Table;") (List.mem_of_getElem? (i := 1) rfl)) (fun _ h9 => h9) rfl dX5_go_7 ?_
  refine lv_iconst (v := (-1)) hx hb dX5_go_10 (by decide) ?_
  refine cf_putE (v := .int (-1)) (ty := .int) (ci := 3) (C := RX3) (T := TX3) (N := 3) hx hb hts (fun _ h => List.mem_cons_of_mem _ (List.mem_append_left _ (List.mem_append_left _ (List.mem_append_left _ (List.mem_append_left _ (List.mem_append_right _ (h))))))) tyX3 tyX3_ok nmX3 hown hT.1 hW hS (cf_e3 hl0g.2) rfl 2 (by decide) (hts (.fieldLink RX5 80 "GameCafe$Table" "group" "I") (List.mem_of_getElem? (i := 2) rfl)) (fun _ h9 => h9) rfl (by decide +kernel) rfl rfl (Nat.le_of_ble_eq_true rfl) dX5_go_11 (E2 := (cf_E cT nc ng (cf_s3 S 3 (P 2 gp 1) 1 (-1)) P O ad)) (cf_upS 3 (P 2 gp 1) (upd (S 3 (P 2 gp 1)) 1 (-1)) (cf_c3 hl0g.2)) (fun H locs hW hS => ?_)
  refine lv_aload_n hx hb dX5_go_14 rfl (lv_at hl 0 rfl) ?_
  refine cf_get (v := .ref (ad 0 (P 2 gp 0))) (ci := 2) (C := RX2) (T := TX2) (N := 4) hx hb hts (fun _ h => List.mem_cons_of_mem _ (List.mem_append_left _ (List.mem_append_left _ (List.mem_append_left _ (List.mem_append_left _ (List.mem_append_left _ (List.mem_append_right _ (h)))))))) hown hT.1 hW (cf_e2 hgn) rfl 0 (by decide) (hts (.fieldLink RX5 162 "GameCafe$Group" "copy" "LGameCafe$Copy;") (List.mem_of_getElem? (i := 3) rfl)) (fun _ h9 => h9) rfl dX5_go_15 ?_
  refine lv_iconst (v := 0) hx hb dX5_go_18 (by decide) ?_
  refine cf_putE (v := .int 0) (ty := .int) (ci := 0) (C := RX0) (T := TX0) (N := 4) hx hb hts (fun _ h => List.mem_cons_of_mem _ (List.mem_append_left _ (List.mem_append_left _ (List.mem_append_left _ (List.mem_append_right _ (h)))))) tyX0 tyX0_ok nmX0 hown hT.1 hW hS (cf_e0 hl0g.1) rfl 3 (by decide) (hts (.fieldLink RX5 109 "GameCafe$Copy" "place" "I") (List.mem_of_getElem? (i := 4) rfl)) (fun _ h9 => h9) rfl (by decide +kernel) rfl rfl (Nat.le_of_ble_eq_true rfl) dX5_go_19 (E2 := (cf_E cT nc ng (cf_s3 (cf_s3 S 3 (P 2 gp 1) 1 (-1)) 0 (P 2 gp 0) 0 0) P O ad)) (cf_upS 0 (P 2 gp 0) (upd ((cf_s3 S 3 (P 2 gp 1) 1 (-1)) 0 (P 2 gp 0)) 0 0) (cf_c0 hl0g.1)) (fun H locs hW hS => ?_)
  refine lv_aload_n hx hb dX5_go_22 rfl (lv_at hl 0 rfl) ?_
  refine cf_get (v := .ref (ad 0 (P 2 gp 0))) (ci := 2) (C := RX2) (T := TX2) (N := 4) hx hb hts (fun _ h => List.mem_cons_of_mem _ (List.mem_append_left _ (List.mem_append_left _ (List.mem_append_left _ (List.mem_append_left _ (List.mem_append_left _ (List.mem_append_right _ (h)))))))) hown hT.1 hW (cf_e2 hgn) rfl 0 (by decide) (hts (.fieldLink RX5 162 "GameCafe$Group" "copy" "LGameCafe$Copy;") (List.mem_of_getElem? (i := 3) rfl)) (fun _ h9 => h9) rfl dX5_go_23 ?_
  refine cf_get (v := .ref (ad 1 (P 0 (P 2 gp 0) 0))) (ci := 0) (C := RX0) (T := TX0) (N := 4) hx hb hts (fun _ h => List.mem_cons_of_mem _ (List.mem_append_left _ (List.mem_append_left _ (List.mem_append_left _ (List.mem_append_right _ (h)))))) hown hT.1 hW (cf_e0 hl0g.1) rfl 1 (by decide) (hts (.fieldLink RX5 114 "GameCafe$Copy" "game" "LGameCafe$Game;") (List.mem_of_getElem? (i := 5) rfl)) (fun _ h9 => h9) rfl dX5_go_26 ?_
  refine lv_dup hx hb dX5_go_29 rfl ?_
  refine cf_get (v := .int (S 1 (P 0 (P 2 gp 0) 0) 3)) (ci := 1) (C := RX1) (T := TX1) (N := 6) hx hb hts (fun _ h => List.mem_cons_of_mem _ (List.mem_append_left _ (List.mem_append_left _ (List.mem_append_right _ (h))))) hown hT.1 hW (cf_e1 hgm) rfl 3 (by decide) (hts (.fieldLink RX5 175 "GameCafe$Game" "timesPlayed" "I") (List.mem_of_getElem? (i := 6) rfl)) (fun _ h9 => h9) (congrArg (fun x => some (Value.int x)) (by simp [cf_s3, cf_g2, upd] : (cf_s3 (cf_s3 S 3 (P 2 gp 1) 1 (-1)) 0 (P 2 gp 0) 0 0) 1 (P 0 (P 2 gp 0) 0) 3 = S 1 (P 0 (P 2 gp 0) 0) 3)) dX5_go_30 ?_
  refine lv_iconst (v := 1) hx hb dX5_go_33 (by decide) ?_
  refine lv_iadd hx hb dX5_go_34 ?_
  refine cf_putE (v := .int ((S 1 (P 0 (P 2 gp 0) 0) 3) + 1)) (ty := .int) (ci := 1) (C := RX1) (T := TX1) (N := 6) hx hb hts (fun _ h => List.mem_cons_of_mem _ (List.mem_append_left _ (List.mem_append_left _ (List.mem_append_right _ (h))))) tyX1 tyX1_ok nmX1 hown hT.1 hW hS (cf_e1 hgm) rfl 3 (by decide) (hts (.fieldLink RX5 175 "GameCafe$Game" "timesPlayed" "I") (List.mem_of_getElem? (i := 6) rfl)) (fun _ h9 => h9) rfl (by decide +kernel) rfl rfl (Nat.le_of_ble_eq_true rfl) dX5_go_35 (E2 := (cf_E cT nc ng (cf_s3 (cf_s3 (cf_s3 S 3 (P 2 gp 1) 1 (-1)) 0 (P 2 gp 0) 0 0) 1 (P 0 (P 2 gp 0) 0) 3 ((S 1 (P 0 (P 2 gp 0) 0) 3) + 1)) P O ad)) (cf_upS 1 (P 0 (P 2 gp 0) 0) (upd ((cf_s3 (cf_s3 S 3 (P 2 gp 1) 1 (-1)) 0 (P 2 gp 0) 0 0) 1 (P 0 (P 2 gp 0) 0)) 3 ((S 1 (P 0 (P 2 gp 0) 0) 3) + 1)) (cf_c1 hgm)) (fun H locs hW hS => ?_)
  refine lv_aload_n hx hb dX5_go_38 rfl (lv_at hl 1 rfl) ?_
  refine cf_get (v := .ref (ad 15 0)) (ci := 5) (C := RX5) (T := TX5) (N := 9) hx hb hts (fun _ h => List.mem_cons_of_mem _ (List.mem_append_left _ (List.mem_append_right _ (h)))) hown hT.1 hW cf_e5 rfl 4 (by decide) (hts (.fieldLink RX5 35 "GameCafe" "groups" "[LGameCafe$Group;") (List.mem_of_getElem? (i := 7) rfl)) (fun _ h9 => h9) rfl dX5_go_39 ?_
  refine lv_iload_n hx hb dX5_go_42 rfl (lv_at hl 2 rfl) ?_
  refine lv_null hx hb dX5_go_43 ?_
  refine cf_astNN (t0 := 7) (C := RX2) (n := 60) hx hb hT.1 hW hS cf_e15 rfl gp hxg hg60 (by decide) dX5_go_44 (E2 := (cf_E cT nc ng (cf_s3 (cf_s3 (cf_s3 S 3 (P 2 gp 1) 1 (-1)) 0 (P 2 gp 0) 0 0) 1 (P 0 (P 2 gp 0) 0) 3 ((S 1 (P 0 (P 2 gp 0) 0) 3) + 1)) (cf_p3 P 15 0 gp 0) O ad)) cf_up15N (fun H locs hW hS => ?_)
  refine lv_aload_n hx hb dX5_go_45 rfl (lv_at hl 1 rfl) ?_
  refine cf_get (v := .int (S 5 0 2)) (ci := 5) (C := RX5) (T := TX5) (N := 9) hx hb hts (fun _ h => List.mem_cons_of_mem _ (List.mem_append_left _ (List.mem_append_right _ (h)))) hown hT.1 hW cf_e5 rfl 8 (by decide) (hts (.fieldLink RX5 49 "GameCafe" "now" "I") (List.mem_of_getElem? (i := 8) rfl)) (fun _ h9 => h9) (congrArg (fun x => some (Value.int x)) (by simp [cf_s3, cf_g2, upd] : (cf_s3 (cf_s3 (cf_s3 S 3 (P 2 gp 1) 1 (-1)) 0 (P 2 gp 0) 0 0) 1 (P 0 (P 2 gp 0) 0) 3 ((S 1 (P 0 (P 2 gp 0) 0) 3) + 1)) 5 0 2 = S 5 0 2)) dX5_go_46 ?_
  refine lv_aload_n hx hb dX5_go_49 rfl (lv_at hl 0 rfl) ?_
  refine cf_get (v := .int (S 2 gp 0)) (ci := 2) (C := RX2) (T := TX2) (N := 4) hx hb hts (fun _ h => List.mem_cons_of_mem _ (List.mem_append_left _ (List.mem_append_left _ (List.mem_append_left _ (List.mem_append_left _ (List.mem_append_left _ (List.mem_append_right _ (h)))))))) hown hT.1 hW (cf_e2 hgn) rfl 1 (by decide) (hts (.fieldLink RX5 178 "GameCafe$Group" "since" "I") (List.mem_of_getElem? (i := 9) rfl)) (fun _ h9 => h9) (congrArg (fun x => some (Value.int x)) (by simp [cf_s3, cf_g2, upd] : (cf_s3 (cf_s3 (cf_s3 S 3 (P 2 gp 1) 1 (-1)) 0 (P 2 gp 0) 0 0) 1 (P 0 (P 2 gp 0) 0) 3 ((S 1 (P 0 (P 2 gp 0) 0) 3) + 1)) 2 gp 0 = S 2 gp 0)) dX5_go_50 ?_
  refine lv_isub hx hb dX5_go_53 ?_
  refine vx_ret ?_
  refine W.widen (k := 1) (n := 6) (by omega) (by omega) ?_
  exact W.iret (v := ((S 5 0 2) - (S 2 gp 0))) hx hb hr (fun t9 ht9 hw9 => ⟨⟨((S 5 0 2) - (S 2 gp 0)), ((cf_s3 (cf_s3 (cf_s3 S 3 (P 2 gp 1) 1 (-1)) 0 (P 2 gp 0) 0 0) 1 (P 0 (P 2 gp 0) 0) 3 ((S 1 (P 0 (P 2 gp 0) 0) 3) + 1)), (cf_p3 P 15 0 gp 0)), rfl, ⟨gp, hg60, hxg, hgP, hgn, rfl, rfl⟩, cf_W.re ht9 hW⟩, hS.F ht9⟩) hS.2.2 dX5_go_54
set_option maxHeartbeats 4000000 in
set_option maxRecDepth 100000 in
/-- X5_grow -/
theorem c_X5_grow (l : Launch) (D : va_G) (cT : Nat → ClassId) (z : Nat) (ad : cf_Ad) (nc ng : Nat) (S : cf_S) (P : cf_Pt) (O : Nat → Int64) (hl0 : l.stackTraces = false) (x a1 : Int32) (hG : ∀ j, j < nc → P 0 j 0 < 5) (hQ : ∀ j, j < 60 → P 15 0 j = 0 ∨ (P 15 0 j = j + 1 ∧ j < ng)) (hL : ∀ j, j < ng → P 2 j 0 < nc ∧ P 2 j 1 < 6) : vx_Met l yX5_grow wsX5_grow ({ frames := 7, cells := 4, slots := 24, locals := 104 }) (va_Pc [.ref (ad 5 0), .int x, .int a1] (cf_P D cT z (cf_E cT nc ng S P O ad) ad)) (cf_Qi D z (fun (r : Int32) (T : cf_S × cf_Pt) => ∃ gp t : Nat, gp < 60 ∧ x = nI gp ∧ P 15 0 gp = gp + 1 ∧ gp < ng ∧ (cf_rg a1 1 7) ∧ S 2 gp 1 + a1 ≤ S 1 (P 0 (P 2 gp 0) 0) 1 ∧ ((S 2 gp 1 + a1 ≤ S 3 (P 2 gp 1) 0 ∧ t = P 2 gp 1) ∨ (S 3 (P 2 gp 1) 0 < S 2 gp 1 + a1 ∧ cf_best (cf_okT S (S 2 gp 1 + a1)) (cf_ltT S) 6 = some t)) ∧ r = nI t ∧ T = (cf_s3 (cf_s3 (cf_s3 S 3 (P 2 gp 1) 1 (-1)) 3 t 1 x) 2 gp 1 (S 2 gp 1 + a1), cf_p3 P 2 gp 1 t)) (fun T => cf_E cT nc ng T.1 T.2 O ad) (fun _ => ad)) (cf_X D z (cf_E cT nc ng S P O ad) ad (cf_x123 (cf_lv P x) (cf_rg a1 1 7) (∀ gp : Nat, x = nI gp → gp < 60 → P 15 0 gp = gp + 1 → gp < ng → S 2 gp 1 + a1 ≤ S 1 (P 0 (P 2 gp 0) 0) 1 ∧ (S 2 gp 1 + a1 ≤ S 3 (P 2 gp 1) 0 ∨ ∃ t, cf_best (cf_okT S (S 2 gp 1 + a1)) (cf_ltT S) 6 = some t)))) 4 24 (fun q => z ≤ q) := by
  refine vx_ofW (cc := cX5_grow) (maxL := 6) (ret := (some .int)) (by decide) rfl ?_
  intro p e s m args below meth c s₁ B hml htab hv
  obtain ⟨rfl, hW, hT⟩ := hv
  have hx := B.exec
  have hb := B.bytes
  have hr := B.returns
  have hts := atoms_spec (ws := wsX5_grow) B.pre
  have hown : s.vm.findClass RX5 = some m.cls := findClass_of_methodNamed B.named
  have hlocks := B.notSynchronized
  have hS : va_S (fun q => z ≤ q) s.heap s.heap [] := va_S.rf
  have hl := lv_entry ([.ref (ad 5 0), .int x, .int a1]) (n := 6) (Nat.le_of_ble_eq_true rfl)
  rw [lg_entry_eq]
  generalize (lg_sl ([.ref (ad 5 0), .int x, .int a1]) ++ List.replicate (6 - (lg_sl ([.ref (ad 5 0), .int x, .int a1])).length) Slot.unset).toArray = ls at hl ⊢
  have hl : lv_has ls 6 [(0, .ref (ad 5 0)), (1, .int x), (2, .int a1)] := hl
  skip
  refine lv_aload_n hx hb dX5_grow_0 rfl (lv_at hl 0 rfl) ?_
  refine lv_iload_n hx hb dX5_grow_1 rfl (lv_at hl 1 rfl) ?_
  refine vx_callq (vx_runV (As := [.int x]) (rest := []) ⟨hx, hb, hml, hown, hts⟩ (c_X5_groupNumbered l D cT z ad nc ng S P O hl0 x hQ) (cwV 1 hts gX5_grow_X5_groupNumbered rfl rfl rfl (by decide +kernel) ⟨Nat.le_of_ble_eq_true rfl, Nat.le_of_ble_eq_true rfl⟩) (cf_preV (T := TX5) (N := 9) hT hS hW cf_e5 rfl) rfl rfl hl.1 rfl (lv_room (Nat.le_of_ble_eq_true rfl)) dX5_grow_2 ⟨Nat.le_of_ble_eq_true rfl, Nat.le_of_ble_eq_true rfl⟩) hS (fun _ _ h => h) (fun _ h => h) (fun _ _ h => h) (fun E9 ce q9 u9 t9 H locs ht hvm hu hB hz1 hk1 hS hce hcv hcl => ?_) (fun r1 ur1 t9 H locs ht hvm hw hW hz1 hk1 hS => ?_)
  · obtain ⟨hp, hW⟩ := hB
    have hW := cf_W.er ht hW
    exact cf_pass htab hlocks hce hcv hcl hS hW (Or.inl hp) ⟨Nat.le_of_ble_eq_true rfl, Nat.le_of_ble_eq_true rfl⟩
  have hW := cf_W.er ht hW
  obtain ⟨gp, hg60, hxg, hgP, hgn, rfl⟩ := hw
  have hl0g := hL gp hgn
  have hgm : P 0 (P 2 gp 0) 0 < 5 := hG _ hl0g.1
  have hA : cf_lv P x := ⟨gp, hg60, hxg, by omega⟩
  refine lv_astore_n (lv' := [(3, .ref (ad 2 gp)), (0, .ref (ad 5 0)), (1, .int x), (2, .int a1)]) hx hb dX5_grow_5 rfl hl (by decide) rfl (fun ls hl => ?_)
  refine lv_iload_n hx hb dX5_grow_6 rfl (lv_at hl 3 rfl) ?_
  refine lv_iconst (v := 1) hx hb dX5_grow_7 (by decide) ?_
  refine lv_bipush (v := 7) hx hb dX5_grow_8 (by decide) ?_
  refine vx_callv (vx_runS (As := [.int a1, .int 1, .int 7]) (rest := []) ⟨hx, hb, hml, hown, hts⟩ (c_X5_checkRange l D cT z ad _ a1 1 7 hl0) (va_cwS 3 hts gX5_grow_X5_checkRange rfl rfl rfl (by decide +kernel) ⟨Nat.le_of_ble_eq_true rfl, Nat.le_of_ble_eq_true rfl⟩) (cf_preS hT hS hW) rfl rfl hl.1 rfl (lv_room (Nat.le_of_ble_eq_true rfl)) dX5_grow_10 ⟨Nat.le_of_ble_eq_true rfl, Nat.le_of_ble_eq_true rfl⟩) hS (fun _ _ h => h) (fun _ h => h) (fun _ _ h => h) (fun E9 ce q9 u9 t9 H locs ht hvm hu hB hz1 hk1 hS hce hcv hcl => ?_) (fun ur2 t9 H locs ht hvm hw hW hz1 hk1 hS => ?_)
  · obtain ⟨hp, hW⟩ := hB
    have hW := cf_W.er ht hW
    exact cf_pass htab hlocks hce hcv hcl hS hW (Or.inr (Or.inl ⟨hp.1, hA, hp.2⟩)) ⟨Nat.le_of_ble_eq_true rfl, Nat.le_of_ble_eq_true rfl⟩
  have hW := cf_W.er ht hW
  have h1 := hw
  refine lv_aload_n hx hb dX5_grow_13 rfl (lv_at hl 0 rfl) ?_
  refine cf_get (v := .int (S 2 gp 1)) (ci := 2) (C := RX2) (T := TX2) (N := 4) hx hb hts (fun _ h => List.mem_cons_of_mem _ (List.mem_append_left _ (List.mem_append_left _ (List.mem_append_left _ (List.mem_append_left _ (List.mem_append_left _ (List.mem_append_left _ (List.mem_append_left _ (List.mem_append_right _ (h)))))))))) hown hT.1 hW (cf_e2 hgn) rfl 2 (by decide) (hts (.fieldLink RX5 159 "GameCafe$Group" "people" "I") (List.mem_of_getElem? (i := 3) rfl)) (fun _ h9 => h9) rfl dX5_grow_14 ?_
  refine lv_iload_n hx hb dX5_grow_17 rfl (lv_at hl 3 rfl) ?_
  refine lv_iadd hx hb dX5_grow_18 ?_
  refine lv_istore (lv' := [(4, .int ((S 2 gp 1) + a1)), (3, .ref (ad 2 gp)), (0, .ref (ad 5 0)), (1, .int x), (2, .int a1)]) hx hb dX5_grow_19 hl (by decide) rfl (fun ls hl => ?_)
  refine lv_iload hx hb dX5_grow_21 (lv_at hl 0 rfl) ?_
  refine lv_aload_n hx hb dX5_grow_23 rfl (lv_at hl 1 rfl) ?_
  refine cf_get (v := .ref (ad 0 (P 2 gp 0))) (ci := 2) (C := RX2) (T := TX2) (N := 4) hx hb hts (fun _ h => List.mem_cons_of_mem _ (List.mem_append_left _ (List.mem_append_left _ (List.mem_append_left _ (List.mem_append_left _ (List.mem_append_left _ (List.mem_append_left _ (List.mem_append_left _ (List.mem_append_right _ (h)))))))))) hown hT.1 hW (cf_e2 hgn) rfl 0 (by decide) (hts (.fieldLink RX5 162 "GameCafe$Group" "copy" "LGameCafe$Copy;") (List.mem_of_getElem? (i := 4) rfl)) (fun _ h9 => h9) rfl dX5_grow_24 ?_
  refine cf_get (v := .ref (ad 1 (P 0 (P 2 gp 0) 0))) (ci := 0) (C := RX0) (T := TX0) (N := 4) hx hb hts (fun _ h => List.mem_cons_of_mem _ (List.mem_append_left _ (List.mem_append_left _ (List.mem_append_left _ (List.mem_append_left _ (List.mem_append_left _ (List.mem_append_left _ (List.mem_append_right _ (h))))))))) hown hT.1 hW (cf_e0 hl0g.1) rfl 1 (by decide) (hts (.fieldLink RX5 114 "GameCafe$Copy" "game" "LGameCafe$Game;") (List.mem_of_getElem? (i := 5) rfl)) (fun _ h9 => h9) rfl dX5_grow_27 ?_
  refine cf_get (v := .int (S 1 (P 0 (P 2 gp 0) 0) 1)) (ci := 1) (C := RX1) (T := TX1) (N := 6) hx hb hts (fun _ h => List.mem_cons_of_mem _ (List.mem_append_left _ (List.mem_append_left _ (List.mem_append_left _ (List.mem_append_left _ (List.mem_append_left _ (List.mem_append_right _ (h)))))))) hown hT.1 hW (cf_e1 hgm) rfl 1 (by decide) (hts (.fieldLink RX5 67 "GameCafe$Game" "most" "I") (List.mem_of_getElem? (i := 6) rfl)) (fun _ h9 => h9) rfl dX5_grow_30 ?_
  refine lv_icmp_le (tgt := 46) hx hb dX5_grow_33 (by decide) (fun c33_3 => ?_) (fun c33_3 => ?_)
  · have hmost := c33_3
    refine lv_iload hx hb dX5_grow_46 (lv_at hl 0 rfl) ?_
    refine lv_aload_n hx hb dX5_grow_48 rfl (lv_at hl 1 rfl) ?_
    refine cf_get (v := .ref (ad 3 (P 2 gp 1))) (ci := 2) (C := RX2) (T := TX2) (N := 4) hx hb hts (fun _ h => List.mem_cons_of_mem _ (List.mem_append_left _ (List.mem_append_left _ (List.mem_append_left _ (List.mem_append_left _ (List.mem_append_left _ (List.mem_append_left _ (List.mem_append_left _ (List.mem_append_right _ (h)))))))))) hown hT.1 hW (cf_e2 hgn) rfl 3 (by decide) (hts (.fieldLink RX5 166 "GameCafe$Group" "table" "LGameCafe$Table;") (List.mem_of_getElem? (i := 7) rfl)) (fun _ h9 => h9) rfl dX5_grow_49 ?_
    refine cf_get (v := .int (S 3 (P 2 gp 1) 0)) (ci := 3) (C := RX3) (T := TX3) (N := 3) hx hb hts (fun _ h => List.mem_cons_of_mem _ (List.mem_append_left _ (List.mem_append_left _ (List.mem_append_left _ (List.mem_append_left _ (List.mem_append_right _ (h))))))) hown hT.1 hW (cf_e3 hl0g.2) rfl 1 (by decide) (hts (.fieldLink RX5 90 "GameCafe$Table" "seats" "I") (List.mem_of_getElem? (i := 8) rfl)) (fun _ h9 => h9) rfl dX5_grow_52 ?_
    refine lv_icmp_gt (tgt := 65) hx hb dX5_grow_55 (by decide) (fun c55_4 => ?_) (fun c55_4 => ?_)
    · refine lv_aload_n hx hb dX5_grow_65 rfl (lv_at hl 2 rfl) ?_
      refine lv_iload hx hb dX5_grow_66 (lv_at hl 0 rfl) ?_
      refine va_callq (va_runV (As := [.int ((S 2 gp 1) + a1)]) (rest := []) ⟨hx, hb, hml, hown, hts⟩ (c_X5_freeTableFor l D cT z ad nc ng S P O (S 2 gp 1 + a1)) (cwV 1 hts gX5_grow_X5_freeTableFor rfl rfl rfl (by decide +kernel) ⟨Nat.le_of_ble_eq_true rfl, Nat.le_of_ble_eq_true rfl⟩) (cf_preV (T := TX5) (N := 9) hT hS hW cf_e5 rfl) rfl rfl hl.1 rfl (lv_room (Nat.le_of_ble_eq_true rfl)) dX5_grow_68 ⟨Nat.le_of_ble_eq_true rfl, Nat.le_of_ble_eq_true rfl⟩) hS (fun _ _ h => h) (fun _ h => h) (fun r5 ur5 t9 H locs ht hvm hw hW hz1 hk1 hS => ?_)
      have hW := cf_W.er ht hW
      obtain ⟨b1, hb1, rfl⟩ := hw
      rcases b1 with _ | t1
      · refine lv_astoreN (lv' := [(5, .null), (4, .int ((S 2 gp 1) + a1)), (3, .ref (ad 2 gp)), (0, .ref (ad 5 0)), (1, .int x), (2, .int a1)]) hx hb dX5_grow_71 hl (by decide) rfl (fun ls hl => ?_)
        refine lv_aloadN hx hb dX5_grow_73 (lv_at hl 0 rfl) ?_
        refine lv_ifnonnullN hx hb dX5_grow_75 ?_
        exact cf_throw (text := "no table can be had") hx hb hl0 hown (by decide +kernel) (hts (.classLink RX5 83 "java/lang/IllegalStateException") (List.mem_of_getElem? (i := 1) rfl)) (hts (.initialized "java/lang/IllegalStateException") (List.mem_of_getElem? (i := 2) rfl)) (List.mem_of_getElem? (i := 11) rfl) (List.mem_of_getElem? (i := 2) rfl) (fun w h => hts w (List.mem_cons_of_mem _ (List.mem_append_left _ (List.mem_append_left _ (List.mem_append_right _ (h)))))) cf_ng_ise cf_gd_ise hT hW hS (hl.1.trans hml.symm) dX5_grow_78 dX5_grow_81 dX5_grow_82 dX5_grow_84 dX5_grow_87 htab (by decide) hlocks (Or.inr (Or.inr ⟨rfl, hA, h1, fun q => by rcases (q gp hxg hg60 hgP hgn).2 with h9 | ⟨t, h9⟩; exact absurd c55_4 (Int32.not_lt.mpr h9); rw [h9] at hb1; cases hb1⟩)) (by decide)
      · have ht6 : t1 < 6 := (cf_best_in hb1.symm).1
        refine lv_astore (lv' := [(5, .ref (ad 3 t1)), (4, .int ((S 2 gp 1) + a1)), (3, .ref (ad 2 gp)), (0, .ref (ad 5 0)), (1, .int x), (2, .int a1)]) hx hb dX5_grow_71 hl (by decide) rfl (fun ls hl => ?_)
        refine lv_aload hx hb dX5_grow_73 (lv_at hl 0 rfl) ?_
        refine lv_ifnonnull (tgt := 88) hx hb dX5_grow_75 (by decide) ?_
        refine lv_aload_n hx hb dX5_grow_88 rfl (lv_at hl 2 rfl) ?_
        refine cf_get (v := .ref (ad 3 (P 2 gp 1))) (ci := 2) (C := RX2) (T := TX2) (N := 4) hx hb hts (fun _ h => List.mem_cons_of_mem _ (List.mem_append_left _ (List.mem_append_left _ (List.mem_append_left _ (List.mem_append_left _ (List.mem_append_left _ (List.mem_append_left _ (List.mem_append_left _ (List.mem_append_right _ (h)))))))))) hown hT.1 hW (cf_e2 hgn) rfl 3 (by decide) (hts (.fieldLink RX5 166 "GameCafe$Group" "table" "LGameCafe$Table;") (List.mem_of_getElem? (i := 7) rfl)) (fun _ h9 => h9) rfl dX5_grow_89 ?_
        refine lv_iconst (v := (-1)) hx hb dX5_grow_92 (by decide) ?_
        refine cf_putE (v := .int (-1)) (ty := .int) (ci := 3) (C := RX3) (T := TX3) (N := 3) hx hb hts (fun _ h => List.mem_cons_of_mem _ (List.mem_append_left _ (List.mem_append_left _ (List.mem_append_left _ (List.mem_append_left _ (List.mem_append_right _ (h))))))) tyX3 tyX3_ok nmX3 hown hT.1 hW hS (cf_e3 hl0g.2) rfl 2 (by decide) (hts (.fieldLink RX5 80 "GameCafe$Table" "group" "I") (List.mem_of_getElem? (i := 9) rfl)) (fun _ h9 => h9) rfl (by decide +kernel) rfl rfl (Nat.le_of_ble_eq_true rfl) dX5_grow_93 (E2 := (cf_E cT nc ng (cf_s3 S 3 (P 2 gp 1) 1 (-1)) P O ad)) (cf_upS 3 (P 2 gp 1) (upd (S 3 (P 2 gp 1)) 1 (-1)) (cf_c3 hl0g.2)) (fun H locs hW hS => ?_)
        refine lv_aload hx hb dX5_grow_96 (lv_at hl 0 rfl) ?_
        refine lv_iload_n hx hb dX5_grow_98 rfl (lv_at hl 4 rfl) ?_
        refine cf_putE (v := .int x) (ty := .int) (ci := 3) (C := RX3) (T := TX3) (N := 3) hx hb hts (fun _ h => List.mem_cons_of_mem _ (List.mem_append_left _ (List.mem_append_left _ (List.mem_append_left _ (List.mem_append_left _ (List.mem_append_right _ (h))))))) tyX3 tyX3_ok nmX3 hown hT.1 hW hS (cf_e3 ht6) rfl 2 (by decide) (hts (.fieldLink RX5 80 "GameCafe$Table" "group" "I") (List.mem_of_getElem? (i := 9) rfl)) (fun _ h9 => h9) rfl (by decide +kernel) rfl rfl (Nat.le_of_ble_eq_true rfl) dX5_grow_99 (E2 := (cf_E cT nc ng (cf_s3 (cf_s3 S 3 (P 2 gp 1) 1 (-1)) 3 t1 1 x) P O ad)) (cf_upS 3 t1 (upd ((cf_s3 S 3 (P 2 gp 1) 1 (-1)) 3 t1) 1 x) (cf_c3 ht6)) (fun H locs hW hS => ?_)
        refine lv_aload_n hx hb dX5_grow_102 rfl (lv_at hl 2 rfl) ?_
        refine lv_aload hx hb dX5_grow_103 (lv_at hl 0 rfl) ?_
        refine cf_putE (v := .ref (ad 3 t1)) (ty := .object "GameCafe$Table") (ci := 2) (C := RX2) (T := TX2) (N := 4) hx hb hts (fun _ h => List.mem_cons_of_mem _ (List.mem_append_left _ (List.mem_append_left _ (List.mem_append_left _ (List.mem_append_left _ (List.mem_append_left _ (List.mem_append_left _ (List.mem_append_left _ (List.mem_append_right _ (h)))))))))) tyX2 tyX2_ok nmX2 hown hT.1 hW hS (cf_e2 hgn) rfl 3 (by decide) (hts (.fieldLink RX5 166 "GameCafe$Group" "table" "LGameCafe$Table;") (List.mem_of_getElem? (i := 7) rfl)) (fun _ h9 => h9) rfl (by decide +kernel) rfl rfl (Nat.le_of_ble_eq_true rfl) dX5_grow_105 (E2 := (cf_E cT nc ng (cf_s3 (cf_s3 S 3 (P 2 gp 1) 1 (-1)) 3 t1 1 x) (cf_p3 P 2 gp 1 t1) O ad)) (cf_upP 2 gp (cf_u (P 2 gp) 1 t1) (cf_c2 hgn)) (fun H locs hW hS => ?_)
        refine lv_aload_n hx hb dX5_grow_108 rfl (lv_at hl 2 rfl) ?_
        refine lv_iload hx hb dX5_grow_109 (lv_at hl 1 rfl) ?_
        refine cf_putE (v := .int ((S 2 gp 1) + a1)) (ty := .int) (ci := 2) (C := RX2) (T := TX2) (N := 4) hx hb hts (fun _ h => List.mem_cons_of_mem _ (List.mem_append_left _ (List.mem_append_left _ (List.mem_append_left _ (List.mem_append_left _ (List.mem_append_left _ (List.mem_append_left _ (List.mem_append_left _ (List.mem_append_right _ (h)))))))))) tyX2 tyX2_ok nmX2 hown hT.1 hW hS (cf_e2 hgn) rfl 2 (by decide) (hts (.fieldLink RX5 159 "GameCafe$Group" "people" "I") (List.mem_of_getElem? (i := 3) rfl)) (fun _ h9 => h9) rfl (by decide +kernel) rfl rfl (Nat.le_of_ble_eq_true rfl) dX5_grow_111 (E2 := (cf_E cT nc ng (cf_s3 (cf_s3 (cf_s3 S 3 (P 2 gp 1) 1 (-1)) 3 t1 1 x) 2 gp 1 ((S 2 gp 1) + a1)) (cf_p3 P 2 gp 1 t1) O ad)) (cf_upS 2 gp (upd ((cf_s3 (cf_s3 S 3 (P 2 gp 1) 1 (-1)) 3 t1 1 x) 2 gp) 1 ((S 2 gp 1) + a1)) (cf_c2 hgn)) (fun H locs hW hS => ?_)
        refine lv_aload hx hb dX5_grow_114 (lv_at hl 0 rfl) ?_
        refine cf_get (v := .int (nI t1)) (ci := 3) (C := RX3) (T := TX3) (N := 3) hx hb hts (fun _ h => List.mem_cons_of_mem _ (List.mem_append_left _ (List.mem_append_left _ (List.mem_append_left _ (List.mem_append_left _ (List.mem_append_right _ (h))))))) hown hT.1 hW (cf_e3 ht6) rfl 0 (by decide) (hts (.fieldLink RX5 172 "GameCafe$Table" "number" "I") (List.mem_of_getElem? (i := 10) rfl)) (fun _ h9 => h9) rfl dX5_grow_116 ?_
        refine vx_ret ?_
        refine W.widen (k := 4) (n := 24) (by omega) (by omega) ?_
        exact W.iret (v := (nI t1)) hx hb hr (fun t9 ht9 hw9 => ⟨⟨(nI t1), ((cf_s3 (cf_s3 (cf_s3 S 3 (P 2 gp 1) 1 (-1)) 3 t1 1 x) 2 gp 1 ((S 2 gp 1) + a1)), (cf_p3 P 2 gp 1 t1)), rfl, ⟨gp, t1, hg60, hxg, hgP, hgn, h1, hmost, Or.inr ⟨c55_4, hb1.symm⟩, rfl, rfl⟩, cf_W.re ht9 hW⟩, hS.F ht9⟩) hS.2.2 dX5_grow_119
    · refine lv_aload_n hx hb dX5_grow_58 rfl (lv_at hl 1 rfl) ?_
      refine cf_get (v := .ref (ad 3 (P 2 gp 1))) (ci := 2) (C := RX2) (T := TX2) (N := 4) hx hb hts (fun _ h => List.mem_cons_of_mem _ (List.mem_append_left _ (List.mem_append_left _ (List.mem_append_left _ (List.mem_append_left _ (List.mem_append_left _ (List.mem_append_left _ (List.mem_append_left _ (List.mem_append_right _ (h)))))))))) hown hT.1 hW (cf_e2 hgn) rfl 3 (by decide) (hts (.fieldLink RX5 166 "GameCafe$Group" "table" "LGameCafe$Table;") (List.mem_of_getElem? (i := 7) rfl)) (fun _ h9 => h9) rfl dX5_grow_59 ?_
      refine lv_goto (tgt := 71) hx hb dX5_grow_62 (by decide) ?_
      refine lv_astore (lv' := [(5, .ref (ad 3 (P 2 gp 1))), (4, .int ((S 2 gp 1) + a1)), (3, .ref (ad 2 gp)), (0, .ref (ad 5 0)), (1, .int x), (2, .int a1)]) hx hb dX5_grow_71 hl (by decide) rfl (fun ls hl => ?_)
      refine lv_aload hx hb dX5_grow_73 (lv_at hl 0 rfl) ?_
      refine lv_ifnonnull (tgt := 88) hx hb dX5_grow_75 (by decide) ?_
      refine lv_aload_n hx hb dX5_grow_88 rfl (lv_at hl 2 rfl) ?_
      refine cf_get (v := .ref (ad 3 (P 2 gp 1))) (ci := 2) (C := RX2) (T := TX2) (N := 4) hx hb hts (fun _ h => List.mem_cons_of_mem _ (List.mem_append_left _ (List.mem_append_left _ (List.mem_append_left _ (List.mem_append_left _ (List.mem_append_left _ (List.mem_append_left _ (List.mem_append_left _ (List.mem_append_right _ (h)))))))))) hown hT.1 hW (cf_e2 hgn) rfl 3 (by decide) (hts (.fieldLink RX5 166 "GameCafe$Group" "table" "LGameCafe$Table;") (List.mem_of_getElem? (i := 7) rfl)) (fun _ h9 => h9) rfl dX5_grow_89 ?_
      refine lv_iconst (v := (-1)) hx hb dX5_grow_92 (by decide) ?_
      refine cf_putE (v := .int (-1)) (ty := .int) (ci := 3) (C := RX3) (T := TX3) (N := 3) hx hb hts (fun _ h => List.mem_cons_of_mem _ (List.mem_append_left _ (List.mem_append_left _ (List.mem_append_left _ (List.mem_append_left _ (List.mem_append_right _ (h))))))) tyX3 tyX3_ok nmX3 hown hT.1 hW hS (cf_e3 hl0g.2) rfl 2 (by decide) (hts (.fieldLink RX5 80 "GameCafe$Table" "group" "I") (List.mem_of_getElem? (i := 9) rfl)) (fun _ h9 => h9) rfl (by decide +kernel) rfl rfl (Nat.le_of_ble_eq_true rfl) dX5_grow_93 (E2 := (cf_E cT nc ng (cf_s3 S 3 (P 2 gp 1) 1 (-1)) P O ad)) (cf_upS 3 (P 2 gp 1) (upd (S 3 (P 2 gp 1)) 1 (-1)) (cf_c3 hl0g.2)) (fun H locs hW hS => ?_)
      refine lv_aload hx hb dX5_grow_96 (lv_at hl 0 rfl) ?_
      refine lv_iload_n hx hb dX5_grow_98 rfl (lv_at hl 4 rfl) ?_
      refine cf_putE (v := .int x) (ty := .int) (ci := 3) (C := RX3) (T := TX3) (N := 3) hx hb hts (fun _ h => List.mem_cons_of_mem _ (List.mem_append_left _ (List.mem_append_left _ (List.mem_append_left _ (List.mem_append_left _ (List.mem_append_right _ (h))))))) tyX3 tyX3_ok nmX3 hown hT.1 hW hS (cf_e3 hl0g.2) rfl 2 (by decide) (hts (.fieldLink RX5 80 "GameCafe$Table" "group" "I") (List.mem_of_getElem? (i := 9) rfl)) (fun _ h9 => h9) rfl (by decide +kernel) rfl rfl (Nat.le_of_ble_eq_true rfl) dX5_grow_99 (E2 := (cf_E cT nc ng (cf_s3 (cf_s3 S 3 (P 2 gp 1) 1 (-1)) 3 (P 2 gp 1) 1 x) P O ad)) (cf_upS 3 (P 2 gp 1) (upd ((cf_s3 S 3 (P 2 gp 1) 1 (-1)) 3 (P 2 gp 1)) 1 x) (cf_c3 hl0g.2)) (fun H locs hW hS => ?_)
      refine lv_aload_n hx hb dX5_grow_102 rfl (lv_at hl 2 rfl) ?_
      refine lv_aload hx hb dX5_grow_103 (lv_at hl 0 rfl) ?_
      refine cf_putE (v := .ref (ad 3 (P 2 gp 1))) (ty := .object "GameCafe$Table") (ci := 2) (C := RX2) (T := TX2) (N := 4) hx hb hts (fun _ h => List.mem_cons_of_mem _ (List.mem_append_left _ (List.mem_append_left _ (List.mem_append_left _ (List.mem_append_left _ (List.mem_append_left _ (List.mem_append_left _ (List.mem_append_left _ (List.mem_append_right _ (h)))))))))) tyX2 tyX2_ok nmX2 hown hT.1 hW hS (cf_e2 hgn) rfl 3 (by decide) (hts (.fieldLink RX5 166 "GameCafe$Group" "table" "LGameCafe$Table;") (List.mem_of_getElem? (i := 7) rfl)) (fun _ h9 => h9) rfl (by decide +kernel) rfl rfl (Nat.le_of_ble_eq_true rfl) dX5_grow_105 (E2 := (cf_E cT nc ng (cf_s3 (cf_s3 S 3 (P 2 gp 1) 1 (-1)) 3 (P 2 gp 1) 1 x) (cf_p3 P 2 gp 1 (P 2 gp 1)) O ad)) (cf_upP 2 gp (cf_u (P 2 gp) 1 (P 2 gp 1)) (cf_c2 hgn)) (fun H locs hW hS => ?_)
      refine lv_aload_n hx hb dX5_grow_108 rfl (lv_at hl 2 rfl) ?_
      refine lv_iload hx hb dX5_grow_109 (lv_at hl 1 rfl) ?_
      refine cf_putE (v := .int ((S 2 gp 1) + a1)) (ty := .int) (ci := 2) (C := RX2) (T := TX2) (N := 4) hx hb hts (fun _ h => List.mem_cons_of_mem _ (List.mem_append_left _ (List.mem_append_left _ (List.mem_append_left _ (List.mem_append_left _ (List.mem_append_left _ (List.mem_append_left _ (List.mem_append_left _ (List.mem_append_right _ (h)))))))))) tyX2 tyX2_ok nmX2 hown hT.1 hW hS (cf_e2 hgn) rfl 2 (by decide) (hts (.fieldLink RX5 159 "GameCafe$Group" "people" "I") (List.mem_of_getElem? (i := 3) rfl)) (fun _ h9 => h9) rfl (by decide +kernel) rfl rfl (Nat.le_of_ble_eq_true rfl) dX5_grow_111 (E2 := (cf_E cT nc ng (cf_s3 (cf_s3 (cf_s3 S 3 (P 2 gp 1) 1 (-1)) 3 (P 2 gp 1) 1 x) 2 gp 1 ((S 2 gp 1) + a1)) (cf_p3 P 2 gp 1 (P 2 gp 1)) O ad)) (cf_upS 2 gp (upd ((cf_s3 (cf_s3 S 3 (P 2 gp 1) 1 (-1)) 3 (P 2 gp 1) 1 x) 2 gp) 1 ((S 2 gp 1) + a1)) (cf_c2 hgn)) (fun H locs hW hS => ?_)
      refine lv_aload hx hb dX5_grow_114 (lv_at hl 0 rfl) ?_
      refine cf_get (v := .int (nI (P 2 gp 1))) (ci := 3) (C := RX3) (T := TX3) (N := 3) hx hb hts (fun _ h => List.mem_cons_of_mem _ (List.mem_append_left _ (List.mem_append_left _ (List.mem_append_left _ (List.mem_append_left _ (List.mem_append_right _ (h))))))) hown hT.1 hW (cf_e3 hl0g.2) rfl 0 (by decide) (hts (.fieldLink RX5 172 "GameCafe$Table" "number" "I") (List.mem_of_getElem? (i := 10) rfl)) (fun _ h9 => h9) rfl dX5_grow_116 ?_
      refine vx_ret ?_
      refine W.widen (k := 4) (n := 24) (by omega) (by omega) ?_
      exact W.iret (v := (nI (P 2 gp 1))) hx hb hr (fun t9 ht9 hw9 => ⟨⟨(nI (P 2 gp 1)), ((cf_s3 (cf_s3 (cf_s3 S 3 (P 2 gp 1) 1 (-1)) 3 (P 2 gp 1) 1 x) 2 gp 1 ((S 2 gp 1) + a1)), (cf_p3 P 2 gp 1 (P 2 gp 1))), rfl, ⟨gp, (P 2 gp 1), hg60, hxg, hgP, hgn, h1, hmost, Or.inl ⟨Int32.not_lt.mp c55_4, rfl⟩, rfl, rfl⟩, cf_W.re ht9 hW⟩, hS.F ht9⟩) hS.2.2 dX5_grow_119
  · exact cf_throw (text := "the game is not for so many people") hx hb hl0 hown (by decide +kernel) (hts (.classLink RX5 83 "java/lang/IllegalStateException") (List.mem_of_getElem? (i := 1) rfl)) (hts (.initialized "java/lang/IllegalStateException") (List.mem_of_getElem? (i := 2) rfl)) (List.mem_of_getElem? (i := 8) rfl) (List.mem_of_getElem? (i := 2) rfl) (fun w h => hts w (List.mem_cons_of_mem _ (List.mem_append_left _ (List.mem_append_left _ (List.mem_append_right _ (h)))))) cf_ng_ise cf_gd_ise hT hW hS (hl.1.trans hml.symm) dX5_grow_36 dX5_grow_39 dX5_grow_40 dX5_grow_42 dX5_grow_45 htab (by decide) hlocks (Or.inr (Or.inr ⟨rfl, hA, h1, fun q => c33_3 (q gp hxg hg60 hgP hgn).1⟩)) (by decide)
end
section
/-- how many parts of a kind come over -/
def cf_come (w h o : Int32) : Int32 := if o < (if 0 < w - h then w - h else 0) then o else (if 0 < w - h then w - h else 0)
def cf_comes (w h o : Nat → Int32) : Nat → Int32
  | 0 => 0
  | n + 1 => cf_comes w h o n + cf_come (w n) (h n) (o n)
/-- the state when the kinds below i have come over from dp to cp -/
def cf_fillI (S T : cf_S) (gm cp dp i : Nat) (r : Int32) : Prop :=
  (∀ k, T 7 cp k = if k < i then S 7 cp k + cf_come (S 8 gm k) (S 7 cp k) (S 7 dp k) else S 7 cp k) ∧
  (∀ k, T 7 dp k = if k < i then S 7 dp k - cf_come (S 8 gm k) (S 7 cp k) (S 7 dp k) else S 7 dp k) ∧
  (∀ a b, ¬ (a = 7 ∧ b = cp) → ¬ (a = 7 ∧ b = dp) → T a b = S a b) ∧ r = cf_comes (S 8 gm) (S 7 cp) (S 7 dp) i
theorem cf_fill0 (S : cf_S) (gm cp dp : Nat) : cf_fillI S S gm cp dp 0 0 := ⟨fun k => by simp, fun k => by simp, fun _ _ _ _ => rfl, rfl⟩
theorem cf_fillS {S T : cf_S} {gm cp dp i : Nat} {r : Int32} (hne : dp ≠ cp) (h : cf_fillI S T gm cp dp i r) : T 8 gm i = S 8 gm i ∧ T 7 cp i = S 7 cp i ∧ T 7 dp i = S 7 dp i ∧
    cf_fillI S (cf_s3 (cf_s3 T 7 cp i (T 7 cp i + cf_come (T 8 gm i) (T 7 cp i) (T 7 dp i))) 7 dp i (T 7 dp i - cf_come (T 8 gm i) (T 7 cp i) (T 7 dp i))) gm cp dp (i + 1) (r + cf_come (T 8 gm i) (T 7 cp i) (T 7 dp i)) := by
  obtain ⟨h1, h2, h3, h4⟩ := h
  have e1 : T 7 cp i = S 7 cp i := by rw [h1 i, if_neg (Nat.lt_irrefl i)]
  have e2 : T 7 dp i = S 7 dp i := by rw [h2 i, if_neg (Nat.lt_irrefl i)]
  have e3 : T 8 gm i = S 8 gm i := by rw [h3 8 gm (by simp) (by simp)]
  refine ⟨e3, e1, e2, ?_⟩
  rw [e1, e2, e3]
  refine ⟨fun k => ?_, fun k => ?_, fun a b ha hb => ?_, ?_⟩
  · rw [cf_s3n (fun q => hne q.2.1.symm)]
    by_cases hk : k = i
    · subst hk
      rw [cf_s3s, if_pos (Nat.lt_succ_self k)]
    · rw [cf_s3n (fun q => hk q.2.2), h1 k]
      by_cases hl : k < i
      · rw [if_pos hl, if_pos (by omega)]
      · rw [if_neg hl, if_neg (by omega)]
  · by_cases hk : k = i
    · subst hk
      rw [cf_s3s, if_pos (Nat.lt_succ_self k)]
    · rw [cf_s3n (fun q => hk q.2.2), cf_s3n (fun q => hne q.2.1), h2 k]
      by_cases hl : k < i
      · rw [if_pos hl, if_pos (by omega)]
      · rw [if_neg hl, if_neg (by omega)]
  · funext j
    rw [cf_s3n (fun q => hb ⟨q.1, q.2.1⟩), cf_s3n (fun q => ha ⟨q.1, q.2.1⟩), h3 a b ha hb]
  · rw [h4]; rfl
set_option maxHeartbeats 4000000 in
set_option maxRecDepth 100000 in
/-- X0_fillFrom -/
theorem c_X0_fillFrom (l : Launch) (D : va_G) (cT : Nat → ClassId) (z : Nat) (ad : cf_Ad) (nc ng : Nat) (S : cf_S) (P : cf_Pt) (O : Nat → Int64) {cp dp : Nat} (hc : cp < nc) (hd : dp < nc) (hne : dp ≠ cp) (hg : P 0 cp 0 < 5) : Met l yX0_fillFrom wsX0_fillFrom ({ frames := 1, cells := 0, slots := 0, locals := 13 }) (va_Pc [.ref (ad 0 cp), .ref (ad 0 dp)] (cf_P D cT z (cf_E cT nc ng S P O ad) ad)) (cf_Qi D z (fun (r : Int32) (T : cf_S) => cf_fillI S T (P 0 cp 0) cp dp 4 r) (fun T => cf_E cT nc ng T P O ad) (fun _ => ad)) 0 0 (fun q => z ≤ q) := by
  refine Met.ofW (cc := cX0_fillFrom) (maxL := 6) (ret := (some .int)) (by decide) rfl ?_
  intro p e s m args below meth c s₁ B hml hv
  obtain ⟨rfl, hW, hT⟩ := hv
  have hx := B.exec
  have hb := B.bytes
  have hr := B.returns
  have hts := atoms_spec (ws := wsX0_fillFrom) B.pre
  have hown : s.vm.findClass RX0 = some m.cls := findClass_of_methodNamed B.named
  have hlocks := B.notSynchronized
  have hS : va_S (fun q => z ≤ q) s.heap s.heap [] := va_S.rf
  have hl := lv_entry ([.ref (ad 0 cp), .ref (ad 0 dp)]) (n := 6) (Nat.le_of_ble_eq_true rfl)
  rw [lg_entry_eq]
  generalize (lg_sl ([.ref (ad 0 cp), .ref (ad 0 dp)]) ++ List.replicate (6 - (lg_sl ([.ref (ad 0 cp), .ref (ad 0 dp)])).length) Slot.unset).toArray = ls at hl ⊢
  have hl : lv_has ls 6 [(0, .ref (ad 0 cp)), (1, .ref (ad 0 dp))] := hl
  skip
  refine lv_iconst (v := 0) hx hb dX0_fillFrom_0 (by decide) ?_
  refine lv_istore_n (lv' := [(2, .int 0), (0, .ref (ad 0 cp)), (1, .ref (ad 0 dp))]) hx hb dX0_fillFrom_1 rfl hl (by decide) rfl (fun ls hl => ?_)
  refine lv_iconst (v := 0) hx hb dX0_fillFrom_2 (by decide) ?_
  refine lv_istore_n (lv' := [(3, .int 0), (2, .int 0), (0, .ref (ad 0 cp)), (1, .ref (ad 0 dp))]) hx hb dX0_fillFrom_3 rfl hl (by decide) rfl (fun ls hl => ?_)
  refine cf_loopW (β := cf_S × Int32) (fun i H locs ls b => cf_W D z (cf_E cT nc ng b.1 P O ad) ad H ∧ va_S (fun q => z ≤ q) s.heap H locs ∧ lv_has ls 6 [(0, .ref (ad 0 cp)), (1, .ref (ad 0 dp)), (2, .int b.2), (3, .int (nI i))] ∧ cf_fillI S b.1 (P 0 cp 0) cp dp i b.2) 4 (fun H locs ls b hI => ?_) (fun i H locs ls b hi hI ih => ?_) (S, 0) ⟨hW, hS, lv_sub hl [2, 3, 1, 0] rfl, cf_fill0 S _ _ _⟩
  · obtain ⟨hW, hS, hl, hI⟩ := hI
    refine lv_iload_n hx hb dX0_fillFrom_4 rfl (lv_at hl 3 rfl) ?_
    refine lv_iconst (v := 4) hx hb dX0_fillFrom_5 (by decide) ?_
    refine lv_icmp_ge (tgt := 77) hx hb dX0_fillFrom_6 (by decide) (fun c6_1 => ?_) (fun c6_1 => absurd (nI_le (Nat.le_refl 4) (by decide)) c6_1)
    refine lv_iload_n hx hb dX0_fillFrom_77 rfl (lv_at hl 2 rfl) ?_
    exact W.iret (v := b.2) hx hb hr (fun t9 ht9 hw9 => ⟨⟨b.2, b.1, rfl, hI, cf_W.re ht9 hW⟩, hS.F ht9⟩) hS.2.2 dX0_fillFrom_78
  · obtain ⟨hW, hS, hl, hI⟩ := hI
    obtain ⟨e1, e2, e3, hI⟩ := cf_fillS hne hI
    refine lv_iload_n hx hb dX0_fillFrom_4 rfl (lv_at hl 3 rfl) ?_
    refine lv_iconst (v := 4) hx hb dX0_fillFrom_5 (by decide) ?_
    refine lv_icmp_ge (tgt := 77) hx hb dX0_fillFrom_6 (by decide) (fun c6_2 => absurd c6_2 (nI_ge hi (by decide))) (fun c6_2 => ?_)
    refine lv_iconst (v := 0) hx hb dX0_fillFrom_9 (by decide) ?_
    refine lv_aload_n hx hb dX0_fillFrom_10 rfl (lv_at hl 0 rfl) ?_
    refine cf_get (v := .ref (ad 1 (P 0 cp 0))) (ci := 0) (C := RX0) (T := TX0) (N := 4) hx hb hts (fun _ h => List.mem_cons_of_mem _ (List.mem_append_left _ (List.mem_append_right _ (h)))) hown hT.1 hW (cf_e0 hc) rfl 1 (by decide) (hts (.fieldLink RX0 18 "GameCafe$Copy" "game" "LGameCafe$Game;") (List.mem_of_getElem? (i := 1) rfl)) (fun _ h9 => h9) rfl dX0_fillFrom_11 ?_
    refine cf_get (v := .ref (ad 8 (P 0 cp 0))) (ci := 1) (C := RX1) (T := TX1) (N := 6) hx hb hts (fun _ h => List.mem_cons_of_mem _ (List.mem_append_right _ (h))) hown hT.1 hW (cf_e1 hg) rfl 4 (by decide) (hts (.fieldLink RX0 22 "GameCafe$Game" "whole" "[I") (List.mem_of_getElem? (i := 2) rfl)) (fun _ h9 => h9) rfl dX0_fillFrom_14 ?_
    refine lv_iload_n hx hb dX0_fillFrom_17 rfl (lv_at hl 3 rfl) ?_
    refine cf_ildN (t0 := 0) (n := 4) (f := b.1 8 (P 0 cp 0)) (v := (b.1 8 (P 0 cp 0) i)) hx hb hT.1 hW (cf_e8 hg) rfl i rfl hi (by decide) dX0_fillFrom_18 rfl ?_
    refine lv_aload_n hx hb dX0_fillFrom_19 rfl (lv_at hl 0 rfl) ?_
    refine cf_get (v := .ref (ad 7 cp)) (ci := 0) (C := RX0) (T := TX0) (N := 4) hx hb hts (fun _ h => List.mem_cons_of_mem _ (List.mem_append_left _ (List.mem_append_right _ (h)))) hown hT.1 hW (cf_e0 hc) rfl 2 (by decide) (hts (.fieldLink RX0 33 "GameCafe$Copy" "has" "[I") (List.mem_of_getElem? (i := 3) rfl)) (fun _ h9 => h9) rfl dX0_fillFrom_20 ?_
    refine lv_iload_n hx hb dX0_fillFrom_23 rfl (lv_at hl 3 rfl) ?_
    refine cf_ildN (t0 := 0) (n := 4) (f := b.1 7 cp) (v := (b.1 7 cp i)) hx hb hT.1 hW (cf_e7 hc) rfl i rfl hi (by decide) dX0_fillFrom_24 rfl ?_
    refine lv_isub hx hb dX0_fillFrom_25 ?_
    refine va_mmax hx hb (hml.trans hl.1.symm) hown (hts (.methodLink RX0 43 Lib.Math.max.name) (List.mem_of_getElem? (i := 4) rfl)) (hts (.static Lib.Math.max.name) (List.mem_of_getElem? (i := 5) rfl)) (hts (.initialized "java/lang/Math") (List.mem_of_getElem? (i := 6) rfl)) (hts (.code Lib.Math.max.name Lib.Math.max.code 2 (some .int)) (List.mem_of_getElem? (i := 7) rfl)) (by decide) (by decide) (by decide) (by decide) dX0_fillFrom_26 ?_
    refine lv_istore (lv' := [(4, .int (if 0 < ((b.1 8 (P 0 cp 0) i) - (b.1 7 cp i)) then ((b.1 8 (P 0 cp 0) i) - (b.1 7 cp i)) else 0)), (0, .ref (ad 0 cp)), (1, .ref (ad 0 dp)), (2, .int b.2), (3, .int (nI i))]) hx hb dX0_fillFrom_29 hl (by decide) rfl (fun ls hl => ?_)
    refine lv_iload hx hb dX0_fillFrom_31 (lv_at hl 0 rfl) ?_
    refine lv_aload_n hx hb dX0_fillFrom_33 rfl (lv_at hl 2 rfl) ?_
    refine cf_get (v := .ref (ad 7 dp)) (ci := 0) (C := RX0) (T := TX0) (N := 4) hx hb hts (fun _ h => List.mem_cons_of_mem _ (List.mem_append_left _ (List.mem_append_right _ (h)))) hown hT.1 hW (cf_e0 hd) rfl 2 (by decide) (hts (.fieldLink RX0 33 "GameCafe$Copy" "has" "[I") (List.mem_of_getElem? (i := 3) rfl)) (fun _ h9 => h9) rfl dX0_fillFrom_34 ?_
    refine lv_iload_n hx hb dX0_fillFrom_37 rfl (lv_at hl 4 rfl) ?_
    refine cf_ildN (t0 := 0) (n := 4) (f := b.1 7 dp) (v := (b.1 7 dp i)) hx hb hT.1 hW (cf_e7 hd) rfl i rfl hi (by decide) dX0_fillFrom_38 rfl ?_
    refine va_mmin hx hb (hml.trans hl.1.symm) hown (hts (.methodLink RX0 49 Lib.Math.min.name) (List.mem_of_getElem? (i := 8) rfl)) (hts (.static Lib.Math.min.name) (List.mem_of_getElem? (i := 9) rfl)) (hts (.initialized "java/lang/Math") (List.mem_of_getElem? (i := 6) rfl)) (hts (.code Lib.Math.min.name Lib.Math.min.code 2 (some .int)) (List.mem_of_getElem? (i := 10) rfl)) (by decide) (by decide) (by decide) (by decide) dX0_fillFrom_39 ?_
    generalize hy : (if b.1 7 dp i < (if 0 < (b.1 8 (P 0 cp 0) i - b.1 7 cp i) then (b.1 8 (P 0 cp 0) i - b.1 7 cp i) else 0) then b.1 7 dp i else (if 0 < (b.1 8 (P 0 cp 0) i - b.1 7 cp i) then (b.1 8 (P 0 cp 0) i - b.1 7 cp i) else 0)) = y
    have hy2 : cf_come (b.1 8 (P 0 cp 0) i) (b.1 7 cp i) (b.1 7 dp i) = y := hy
    rw [hy2] at hI
    refine lv_istore (lv' := [(5, .int y), (4, .int (if 0 < ((b.1 8 (P 0 cp 0) i) - (b.1 7 cp i)) then ((b.1 8 (P 0 cp 0) i) - (b.1 7 cp i)) else 0)), (0, .ref (ad 0 cp)), (1, .ref (ad 0 dp)), (2, .int b.2), (3, .int (nI i))]) hx hb dX0_fillFrom_42 hl (by decide) rfl (fun ls hl => ?_)
    refine lv_aload_n hx hb dX0_fillFrom_44 rfl (lv_at hl 2 rfl) ?_
    refine cf_get (v := .ref (ad 7 cp)) (ci := 0) (C := RX0) (T := TX0) (N := 4) hx hb hts (fun _ h => List.mem_cons_of_mem _ (List.mem_append_left _ (List.mem_append_right _ (h)))) hown hT.1 hW (cf_e0 hc) rfl 2 (by decide) (hts (.fieldLink RX0 33 "GameCafe$Copy" "has" "[I") (List.mem_of_getElem? (i := 3) rfl)) (fun _ h9 => h9) rfl dX0_fillFrom_45 ?_
    refine lv_iload_n hx hb dX0_fillFrom_48 rfl (lv_at hl 5 rfl) ?_
    refine lv_dup2_11 hx hb dX0_fillFrom_49 rfl rfl ?_
    refine cf_ildN (t0 := 0) (n := 4) (f := b.1 7 cp) (v := (b.1 7 cp i)) hx hb hT.1 hW (cf_e7 hc) rfl i rfl hi (by decide) dX0_fillFrom_50 rfl ?_
    refine lv_iload hx hb dX0_fillFrom_51 (lv_at hl 0 rfl) ?_
    refine lv_iadd hx hb dX0_fillFrom_53 ?_
    refine cf_istN (t0 := 0) (n := 4) (f := b.1 7 cp) hx hb hT.1 hW hS (cf_e7 hc) rfl i rfl hi (by decide) dX0_fillFrom_54 (E2 := (cf_E cT nc ng (cf_s3 b.1 7 cp i ((b.1 7 cp i) + y)) P O ad)) (cf_upS 7 cp (upd (b.1 7 cp) i ((b.1 7 cp i) + y)) (cf_c7 hc)) (fun H locs hW hS => ?_)
    refine lv_aload_n hx hb dX0_fillFrom_55 rfl (lv_at hl 3 rfl) ?_
    refine cf_get (v := .ref (ad 7 dp)) (ci := 0) (C := RX0) (T := TX0) (N := 4) hx hb hts (fun _ h => List.mem_cons_of_mem _ (List.mem_append_left _ (List.mem_append_right _ (h)))) hown hT.1 hW (cf_e0 hd) rfl 2 (by decide) (hts (.fieldLink RX0 33 "GameCafe$Copy" "has" "[I") (List.mem_of_getElem? (i := 3) rfl)) (fun _ h9 => h9) rfl dX0_fillFrom_56 ?_
    refine lv_iload_n hx hb dX0_fillFrom_59 rfl (lv_at hl 5 rfl) ?_
    refine lv_dup2_11 hx hb dX0_fillFrom_60 rfl rfl ?_
    refine cf_ildN (t0 := 0) (n := 4) (f := (cf_s3 b.1 7 cp i ((b.1 7 cp i) + y)) 7 dp) (v := (b.1 7 dp i)) hx hb hT.1 hW (cf_e7 hd) rfl i rfl hi (by decide) dX0_fillFrom_61 (by simp [cf_s3, cf_g2, upd, hne] : (cf_s3 b.1 7 cp i ((b.1 7 cp i) + y)) 7 dp i = b.1 7 dp i) ?_
    refine lv_iload hx hb dX0_fillFrom_62 (lv_at hl 0 rfl) ?_
    refine lv_isub hx hb dX0_fillFrom_64 ?_
    refine cf_istN (t0 := 0) (n := 4) (f := (cf_s3 b.1 7 cp i ((b.1 7 cp i) + y)) 7 dp) hx hb hT.1 hW hS (cf_e7 hd) rfl i rfl hi (by decide) dX0_fillFrom_65 (E2 := (cf_E cT nc ng (cf_s3 (cf_s3 b.1 7 cp i ((b.1 7 cp i) + y)) 7 dp i ((b.1 7 dp i) - y)) P O ad)) (cf_upS 7 dp (upd ((cf_s3 b.1 7 cp i ((b.1 7 cp i) + y)) 7 dp) i ((b.1 7 dp i) - y)) (cf_c7 hd)) (fun H locs hW hS => ?_)
    refine lv_iload_n hx hb dX0_fillFrom_66 rfl (lv_at hl 4 rfl) ?_
    refine lv_iload hx hb dX0_fillFrom_67 (lv_at hl 0 rfl) ?_
    refine lv_iadd hx hb dX0_fillFrom_69 ?_
    refine lv_istore_n (lv' := [(2, .int (b.2 + y)), (5, .int y), (4, .int (if 0 < ((b.1 8 (P 0 cp 0) i) - (b.1 7 cp i)) then ((b.1 8 (P 0 cp 0) i) - (b.1 7 cp i)) else 0)), (0, .ref (ad 0 cp)), (1, .ref (ad 0 dp)), (3, .int (nI i))]) hx hb dX0_fillFrom_70 rfl hl (by decide) rfl (fun ls hl => ?_)
    refine lv_iinc (v := (nI (i + 1))) (lv' := [(3, .int (nI (i + 1))), (2, .int (b.2 + y)), (5, .int y), (4, .int (if 0 < ((b.1 8 (P 0 cp 0) i) - (b.1 7 cp i)) then ((b.1 8 (P 0 cp 0) i) - (b.1 7 cp i)) else 0)), (0, .ref (ad 0 cp)), (1, .ref (ad 0 dp))]) hx hb dX0_fillFrom_71 hl (k := 5) rfl (nI_1 i) (by decide) rfl (fun ls hl => ?_)
    refine lv_goto (tgt := 4) hx hb dX0_fillFrom_74 (by decide) ?_
    exact ih _ _ _ ((cf_s3 (cf_s3 b.1 7 cp i ((b.1 7 cp i) + y)) 7 dp i ((b.1 7 dp i) - y)), b.2 + y) ⟨hW, hS, lv_sub hl [4, 5, 1, 0] rfl, hI⟩
set_option maxHeartbeats 4000000 in
set_option maxRecDepth 100000 in
/-- X5_fill -/
theorem c_X5_fill (l : Launch) (D : va_G) (cT : Nat → ClassId) (z : Nat) (ad : cf_Ad) (nc ng : Nat) (S : cf_S) (P : cf_Pt) (O : Nat → Int64) (hl0 : l.stackTraces = false) (x y : Int32) (hnc : nc ≤ 15) (hO : ∀ j, j < 15 → P 14 0 j = if j < nc then j + 1 else 0) (hG : ∀ j, j < nc → P 0 j 0 < 5) : vx_Met l yX5_fill wsX5_fill ({ frames := 7, cells := 4, slots := 24, locals := 103 }) (va_Pc [.ref (ad 5 0), .int x, .int y] (cf_P D cT z (cf_E cT nc ng S P O ad) ad)) (cf_Qi D z (fun (r : Int32) (T : cf_S) => ∃ cp dp : Nat, cp < nc ∧ x = nI cp ∧ dp < nc ∧ y = nI dp ∧ x ≠ y ∧ P 0 cp 0 = P 0 dp 0 ∧ S 0 cp 0 = 0 ∧ S 0 dp 0 = 0 ∧ cf_fillI S T (P 0 cp 0) cp dp 4 r) (fun T => cf_E cT nc ng T P O ad) (fun _ => ad)) (cf_X D z (cf_E cT nc ng S P O ad) ad (cf_x123 (cf_ix x nc ∧ cf_ix y nc) (x ≠ y ∧ ∀ cp dp : Nat, x = nI cp → cp < nc → y = nI dp → dp < nc → P 0 cp 0 = P 0 dp 0) (∀ cp dp : Nat, x = nI cp → cp < nc → y = nI dp → dp < nc → S 0 cp 0 = 0 ∧ S 0 dp 0 = 0))) 4 24 (fun q => z ≤ q) := by
  refine vx_ofW (cc := cX5_fill) (maxL := 5) (ret := (some .int)) (by decide) rfl ?_
  intro p e s m args below meth c s₁ B hml htab hv
  obtain ⟨rfl, hW, hT⟩ := hv
  have hx := B.exec
  have hb := B.bytes
  have hr := B.returns
  have hts := atoms_spec (ws := wsX5_fill) B.pre
  have hown : s.vm.findClass RX5 = some m.cls := findClass_of_methodNamed B.named
  have hlocks := B.notSynchronized
  have hS : va_S (fun q => z ≤ q) s.heap s.heap [] := va_S.rf
  have hl := lv_entry ([.ref (ad 5 0), .int x, .int y]) (n := 5) (Nat.le_of_ble_eq_true rfl)
  rw [lg_entry_eq]
  generalize (lg_sl ([.ref (ad 5 0), .int x, .int y]) ++ List.replicate (5 - (lg_sl ([.ref (ad 5 0), .int x, .int y])).length) Slot.unset).toArray = ls at hl ⊢
  have hl : lv_has ls 5 [(0, .ref (ad 5 0)), (1, .int x), (2, .int y)] := hl
  skip
  refine lv_aload_n hx hb dX5_fill_0 rfl (lv_at hl 0 rfl) ?_
  refine lv_iload_n hx hb dX5_fill_1 rfl (lv_at hl 1 rfl) ?_
  refine vx_callq (vx_runV (As := [.int x]) (rest := []) ⟨hx, hb, hml, hown, hts⟩ (c_X5_copyNumbered l D cT z ad nc ng S P O hl0 x hnc hO) (cwV 1 hts gX5_fill_X5_copyNumbered rfl rfl rfl (by decide +kernel) ⟨Nat.le_of_ble_eq_true rfl, Nat.le_of_ble_eq_true rfl⟩) (cf_preV (T := TX5) (N := 9) hT hS hW cf_e5 rfl) rfl rfl hl.1 rfl (lv_room (Nat.le_of_ble_eq_true rfl)) dX5_fill_2 ⟨Nat.le_of_ble_eq_true rfl, Nat.le_of_ble_eq_true rfl⟩) hS (fun _ _ h => h) (fun _ h => h) (fun _ _ h => h) (fun E9 ce q9 u9 t9 H locs ht hvm hu hB hz1 hk1 hS hce hcv hcl => ?_) (fun r1 ur1 t9 H locs ht hvm hw hW hz1 hk1 hS => ?_)
  · obtain ⟨hp, hW⟩ := hB
    have hW := cf_W.er ht hW
    exact cf_pass htab hlocks hce hcv hcl hS hW (Or.inl ⟨hp.1, fun q => hp.2 q.1⟩) ⟨Nat.le_of_ble_eq_true rfl, Nat.le_of_ble_eq_true rfl⟩
  have hW := cf_W.er ht hW
  obtain ⟨cp, hc, hxc, rfl⟩ := hw
  refine lv_astore_n (lv' := [(3, .ref (ad 0 cp)), (0, .ref (ad 5 0)), (1, .int x), (2, .int y)]) hx hb dX5_fill_5 rfl hl (by decide) rfl (fun ls hl => ?_)
  refine lv_aload_n hx hb dX5_fill_6 rfl (lv_at hl 1 rfl) ?_
  refine lv_iload_n hx hb dX5_fill_7 rfl (lv_at hl 3 rfl) ?_
  refine vx_callq (vx_runV (As := [.int y]) (rest := []) ⟨hx, hb, hml, hown, hts⟩ (c_X5_copyNumbered l D cT z ad nc ng S P O hl0 y hnc hO) (cwV 1 hts gX5_fill_X5_copyNumbered rfl rfl rfl (by decide +kernel) ⟨Nat.le_of_ble_eq_true rfl, Nat.le_of_ble_eq_true rfl⟩) (cf_preV (T := TX5) (N := 9) hT hS hW cf_e5 rfl) rfl rfl hl.1 rfl (lv_room (Nat.le_of_ble_eq_true rfl)) dX5_fill_8 ⟨Nat.le_of_ble_eq_true rfl, Nat.le_of_ble_eq_true rfl⟩) hS (fun _ _ h => h) (fun _ h => h) (fun _ _ h => h) (fun E9 ce q9 u9 t9 H locs ht hvm hu hB hz1 hk1 hS hce hcv hcl => ?_) (fun r2 ur2 t9 H locs ht hvm hw hW hz1 hk1 hS => ?_)
  · obtain ⟨hp, hW⟩ := hB
    have hW := cf_W.er ht hW
    exact cf_pass htab hlocks hce hcv hcl hS hW (Or.inl ⟨hp.1, fun q => hp.2 q.2⟩) ⟨Nat.le_of_ble_eq_true rfl, Nat.le_of_ble_eq_true rfl⟩
  have hW := cf_W.er ht hW
  obtain ⟨dp, hd, hyd, rfl⟩ := hw
  refine lv_astore (lv' := [(4, .ref (ad 0 dp)), (3, .ref (ad 0 cp)), (0, .ref (ad 5 0)), (1, .int x), (2, .int y)]) hx hb dX5_fill_11 hl (by decide) rfl (fun ls hl => ?_)
  refine lv_iload_n hx hb dX5_fill_13 rfl (lv_at hl 3 rfl) ?_
  refine lv_iload_n hx hb dX5_fill_14 rfl (lv_at hl 4 rfl) ?_
  have hA : cf_ix x nc ∧ cf_ix y nc := ⟨⟨cp, hc, hxc⟩, ⟨dp, hd, hyd⟩⟩
  refine lv_icmp_eq (tgt := 30) hx hb dX5_fill_15 (by decide) (fun c15_3 => ?_) (fun c15_3 => ?_)
  · exact cf_throw (text := "a copy is filled from another one of its game") hx hb hl0 hown (by decide +kernel) (hts (.classLink RX5 118 "java/lang/IllegalArgumentException") (List.mem_of_getElem? (i := 1) rfl)) (hts (.initialized "java/lang/IllegalArgumentException") (List.mem_of_getElem? (i := 2) rfl)) (List.mem_of_getElem? (i := 6) rfl) (List.mem_of_getElem? (i := 1) rfl) (fun w h => hts w (List.mem_cons_of_mem _ (List.mem_append_left _ (List.mem_append_left _ (List.mem_append_right _ (h)))))) cf_ng_iae cf_gd_iae hT hW hS (hl.1.trans hml.symm) dX5_fill_30 dX5_fill_33 dX5_fill_34 dX5_fill_36 dX5_fill_39 htab (by decide) hlocks (Or.inr (Or.inl ⟨rfl, hA, fun q => q.1 c15_3⟩)) (by decide)
  · refine lv_aload_n hx hb dX5_fill_18 rfl (lv_at hl 1 rfl) ?_
    refine cf_get (v := .ref (ad 1 (P 0 cp 0))) (ci := 0) (C := RX0) (T := TX0) (N := 4) hx hb hts (fun _ h => List.mem_cons_of_mem _ (List.mem_append_left _ (List.mem_append_left _ (List.mem_append_left _ (List.mem_append_left _ (List.mem_append_left _ (List.mem_append_right _ (h)))))))) hown hT.1 hW (cf_e0 hc) rfl 1 (by decide) (hts (.fieldLink RX5 114 "GameCafe$Copy" "game" "LGameCafe$Game;") (List.mem_of_getElem? (i := 5) rfl)) (fun _ h9 => h9) rfl dX5_fill_19 ?_
    refine lv_aload hx hb dX5_fill_22 (lv_at hl 0 rfl) ?_
    refine cf_get (v := .ref (ad 1 (P 0 dp 0))) (ci := 0) (C := RX0) (T := TX0) (N := 4) hx hb hts (fun _ h => List.mem_cons_of_mem _ (List.mem_append_left _ (List.mem_append_left _ (List.mem_append_left _ (List.mem_append_left _ (List.mem_append_left _ (List.mem_append_right _ (h)))))))) hown hT.1 hW (cf_e0 hd) rfl 1 (by decide) (hts (.fieldLink RX5 114 "GameCafe$Copy" "game" "LGameCafe$Game;") (List.mem_of_getElem? (i := 5) rfl)) (fun _ h9 => h9) rfl dX5_fill_24 ?_
    refine lv_acmp_eq (rx := (some (ad 1 (P 0 cp 0)))) (ry := (some (ad 1 (P 0 dp 0)))) (tgt := 40) hx hb dX5_fill_27 (by decide) (fun c27_4 => ?_) (fun c27_4 => ?_)
    · have hgg : P 0 cp 0 = P 0 dp 0 := (hW.inj (cf_e1 (hG cp hc)) (cf_e1 (hG dp hd)) (Option.some.inj c27_4)).2
      have hB9 : (x ≠ y ∧ ∀ cp dp : Nat, x = nI cp → cp < nc → y = nI dp → dp < nc → P 0 cp 0 = P 0 dp 0) := ⟨c15_3, fun c9 d9 h1 h2 h3 h4 => by rw [cf_nI_inj (by omega) (by omega) (h1.symm.trans hxc), cf_nI_inj (by omega) (by omega) (h3.symm.trans hyd)]; exact hgg⟩
      refine lv_aload_n hx hb dX5_fill_40 rfl (lv_at hl 1 rfl) ?_
      refine cf_get (v := .int (S 0 cp 0)) (ci := 0) (C := RX0) (T := TX0) (N := 4) hx hb hts (fun _ h => List.mem_cons_of_mem _ (List.mem_append_left _ (List.mem_append_left _ (List.mem_append_left _ (List.mem_append_left _ (List.mem_append_left _ (List.mem_append_right _ (h)))))))) hown hT.1 hW (cf_e0 hc) rfl 3 (by decide) (hts (.fieldLink RX5 109 "GameCafe$Copy" "place" "I") (List.mem_of_getElem? (i := 6) rfl)) (fun _ h9 => h9) rfl dX5_fill_41 ?_
      refine lv_if_ne (tgt := 55) hx hb dX5_fill_44 (by decide) (fun c44_5 => ?_) (fun c44_5 => ?_)
      · exact cf_throw (text := "a copy is not on the shelf") hx hb hl0 hown (by decide +kernel) (hts (.classLink RX5 83 "java/lang/IllegalStateException") (List.mem_of_getElem? (i := 3) rfl)) (hts (.initialized "java/lang/IllegalStateException") (List.mem_of_getElem? (i := 4) rfl)) (List.mem_of_getElem? (i := 7) rfl) (List.mem_of_getElem? (i := 2) rfl) (fun w h => hts w (List.mem_cons_of_mem _ (List.mem_append_left _ (List.mem_append_right _ (h))))) cf_ng_ise cf_gd_ise hT hW hS (hl.1.trans hml.symm) dX5_fill_55 dX5_fill_58 dX5_fill_59 dX5_fill_61 dX5_fill_64 htab (by decide) hlocks (Or.inr (Or.inr ⟨rfl, hA, hB9, fun q => c44_5 (q cp dp hxc hc hyd hd).1⟩)) (by decide)
      · refine lv_aload hx hb dX5_fill_47 (lv_at hl 0 rfl) ?_
        refine cf_get (v := .int (S 0 dp 0)) (ci := 0) (C := RX0) (T := TX0) (N := 4) hx hb hts (fun _ h => List.mem_cons_of_mem _ (List.mem_append_left _ (List.mem_append_left _ (List.mem_append_left _ (List.mem_append_left _ (List.mem_append_left _ (List.mem_append_right _ (h)))))))) hown hT.1 hW (cf_e0 hd) rfl 3 (by decide) (hts (.fieldLink RX5 109 "GameCafe$Copy" "place" "I") (List.mem_of_getElem? (i := 6) rfl)) (fun _ h9 => h9) rfl dX5_fill_49 ?_
        refine lv_if_eq (tgt := 65) hx hb dX5_fill_52 (by decide) (fun c52_6 => ?_) (fun c52_6 => ?_)
        · refine lv_aload_n hx hb dX5_fill_65 rfl (lv_at hl 1 rfl) ?_
          refine lv_aload hx hb dX5_fill_66 (lv_at hl 0 rfl) ?_
          have hne : dp ≠ cp := fun q => hB9.1 (by rw [hxc, hyd, q])
          refine va_calli (va_runV (As := [.ref (ad 0 dp)]) (rest := []) ⟨hx, hb, hml, hown, hts⟩ (c_X0_fillFrom l D cT z ad nc ng S P O hc hd hne (hG cp hc)) (cwV 1 hts gX5_fill_X0_fillFrom rfl rfl rfl (by decide +kernel) ⟨Nat.le_of_ble_eq_true rfl, Nat.le_of_ble_eq_true rfl⟩) (cf_preV (T := TX0) (N := 4) hT hS hW (cf_e0 hc) rfl) rfl rfl hl.1 rfl (lv_room (Nat.le_of_ble_eq_true rfl)) dX5_fill_68 ⟨Nat.le_of_ble_eq_true rfl, Nat.le_of_ble_eq_true rfl⟩) hS (fun _ _ h => h) (fun _ h => h) (fun r7 ur7 t9 H locs ht hvm hw hW hz1 hk1 hS => ?_)
          have hW := cf_W.er ht hW
          refine vx_ret ?_
          refine W.widen (k := 4) (n := 24) (by omega) (by omega) ?_
          exact W.iret (v := r7) hx hb hr (fun t9 ht9 hw9 => ⟨⟨r7, ur7, rfl, ⟨cp, dp, hc, hxc, hd, hyd, c15_3, hgg, c44_5, c52_6, hw⟩, cf_W.re ht9 hW⟩, hS.F ht9⟩) hS.2.2 dX5_fill_71
        · exact cf_throw (text := "a copy is not on the shelf") hx hb hl0 hown (by decide +kernel) (hts (.classLink RX5 83 "java/lang/IllegalStateException") (List.mem_of_getElem? (i := 3) rfl)) (hts (.initialized "java/lang/IllegalStateException") (List.mem_of_getElem? (i := 4) rfl)) (List.mem_of_getElem? (i := 7) rfl) (List.mem_of_getElem? (i := 2) rfl) (fun w h => hts w (List.mem_cons_of_mem _ (List.mem_append_left _ (List.mem_append_right _ (h))))) cf_ng_ise cf_gd_ise hT hW hS (hl.1.trans hml.symm) dX5_fill_55 dX5_fill_58 dX5_fill_59 dX5_fill_61 dX5_fill_64 htab (by decide) hlocks (Or.inr (Or.inr ⟨rfl, hA, hB9, fun q => c52_6 (q cp dp hxc hc hyd hd).2⟩)) (by decide)
    · exact cf_throw (text := "a copy is filled from another one of its game") hx hb hl0 hown (by decide +kernel) (hts (.classLink RX5 118 "java/lang/IllegalArgumentException") (List.mem_of_getElem? (i := 1) rfl)) (hts (.initialized "java/lang/IllegalArgumentException") (List.mem_of_getElem? (i := 2) rfl)) (List.mem_of_getElem? (i := 6) rfl) (List.mem_of_getElem? (i := 1) rfl) (fun w h => hts w (List.mem_cons_of_mem _ (List.mem_append_left _ (List.mem_append_left _ (List.mem_append_right _ (h)))))) cf_ng_iae cf_gd_iae hT hW hS (hl.1.trans hml.symm) dX5_fill_30 dX5_fill_33 dX5_fill_34 dX5_fill_36 dX5_fill_39 htab (by decide) hlocks (Or.inr (Or.inl ⟨rfl, hA, fun q => c27_4 (congrArg some (congrArg (ad 1) (q.2 cp dp hxc hc hyd hd)))⟩)) (by decide)
end
section
/-- a place as the reference tells it: -1 is none -/
def cf_oi (b : Option Nat) : Int32 := match b with
  | none => -1
  | some t => nI t
theorem cf_nIm1 {n : Nat} (h : n < 2 ^ 31) : ¬ nI n = -1 := fun q => nI_pos h (by rw [q]; decide)
theorem cf_ix4 {x y : Int32} {g k : Nat} (hx : x = nI g) (hy : y = nI k) : 4 * x + y = nI (4 * g + k) := by
  rw [hx, hy, show (4 : Int32) = nI 4 from rfl, pk_mul, nI_add]
theorem cf_ix5 {x y : Int32} {g k : Nat} (hx : x = nI g) (hy : y = nI k) : 5 * x + y = nI (5 * g + k) := by
  rw [hx, hy, show (5 : Int32) = nI 5 from rfl, pk_mul, nI_add]
def cf_okTM (S : cf_S) (x : Int32) : Nat → Bool := fun u => decide (S 17 8 u = 0) && !decide (S 17 7 u < x)
def cf_ltTM (S : cf_S) : Nat → Nat → Bool := fun u t => decide (S 17 7 u < S 17 7 t)
def cf_playM (S : cf_S) (P : cf_Pt) (u : Nat) : Prop := cf_play (fun k => S 17 14 (4 * u + k)) (fun k => S 17 5 (4 * P 0 u 0 + k))
def cf_okCM (S : cf_S) (P : cf_Pt) (g : Nat) : Nat → Prop := fun u => P 0 u 0 = g ∧ S 17 13 u = 0 ∧ cf_playM S P u
def cf_okSM (S : cf_S) (g : Nat) : Nat → Prop := fun u => ¬ S 17 9 (5 * u + g) = 1 ∧ S 17 10 u ≤ S 6 0 0
/-- x is a group that has not gone, as the reference tells it -/
def cf_lvM (S : cf_S) (ng : Nat) (x : Int32) : Prop := ∃ j : Nat, j < ng ∧ x = nI j ∧ S 17 20 j = 0
set_option maxHeartbeats 4000000 in
set_option maxRecDepth 100000 in
/-- X6_thrown -/
theorem c_X6_thrown (l : Launch) (D : va_G) (cT : Nat → ClassId) (z : Nat) (ad : cf_Ad) (nc ng : Nat) (S : cf_S) (P : cf_Pt) (O : Nat → Int64)  : Met l yX6_thrown wsX6_thrown ({ frames := 0, cells := 0, slots := 0, locals := 0 }) (va_Pc [.ref (ad 6 0)] (cf_P D cT z (cf_E cT nc ng S P O ad) ad)) (cf_Qi D z (fun (r : Int32) (_ : Unit) => r = S 6 0 23) (fun _ => (cf_E cT nc ng S P O ad)) (fun _ => ad)) 0 0 (fun q => z ≤ q) := by
  refine Met.ofW (cc := cX6_thrown) (maxL := 1) (ret := (some .int)) (by decide) rfl ?_
  intro p e s m args below meth c s₁ B hml hv
  obtain ⟨rfl, hW, hT⟩ := hv
  have hx := B.exec
  have hb := B.bytes
  have hr := B.returns
  have hts := atoms_spec (ws := wsX6_thrown) B.pre
  have hown : s.vm.findClass RX6 = some m.cls := findClass_of_methodNamed B.named
  have hlocks := B.notSynchronized
  have hS : va_S (fun q => z ≤ q) s.heap s.heap [] := va_S.rf
  have hl := lv_entry ([.ref (ad 6 0)]) (n := 1) (Nat.le_of_ble_eq_true rfl)
  rw [lg_entry_eq]
  generalize (lg_sl ([.ref (ad 6 0)]) ++ List.replicate (1 - (lg_sl ([.ref (ad 6 0)])).length) Slot.unset).toArray = ls at hl ⊢
  have hl : lv_has ls 1 [(0, .ref (ad 6 0))] := hl
  skip
  refine lv_aload_n hx hb dX6_thrown_0 rfl (lv_at hl 0 rfl) ?_
  refine cf_get (v := .int (S 6 0 23)) (ci := 6) (C := RX6) (T := TX6) (N := 24) hx hb hts (fun _ h => List.mem_cons_of_mem _ (List.mem_append_right _ (h))) hown hT.1 hW cf_e6 rfl 23 (by decide) (hts (.fieldLink RX6 70 "GameCafeModel" "thrown" "I") (List.mem_of_getElem? (i := 1) rfl)) (fun _ h9 => h9) rfl dX6_thrown_1 ?_
  exact W.iret (v := (S 6 0 23)) hx hb hr (fun t9 ht9 hw9 => ⟨⟨(S 6 0 23), (), rfl, rfl, cf_W.re ht9 hW⟩, hS.F ht9⟩) hS.2.2 dX6_thrown_4
set_option maxHeartbeats 4000000 in
set_option maxRecDepth 100000 in
/-- X6_fails -/
theorem c_X6_fails (l : Launch) (D : va_G) (cT : Nat → ClassId) (z : Nat) (ad : cf_Ad) (nc ng : Nat) (S : cf_S) (P : cf_Pt) (O : Nat → Int64) (x : Int32) : Met l yX6_fails wsX6_fails ({ frames := 0, cells := 0, slots := 0, locals := 0 }) (va_Pc [.ref (ad 6 0), .int x] (cf_P D cT z (cf_E cT nc ng S P O ad) ad)) (cf_Qi D z (fun (r : Int32) (T : cf_S) => r = 0 ∧ T = cf_s3 S 6 0 23 x) (fun T => cf_E cT nc ng T P O ad) (fun _ => ad)) 0 0 (fun q => z ≤ q) := by
  refine Met.ofW (cc := cX6_fails) (maxL := 2) (ret := (some .int)) (by decide) rfl ?_
  intro p e s m args below meth c s₁ B hml hv
  obtain ⟨rfl, hW, hT⟩ := hv
  have hx := B.exec
  have hb := B.bytes
  have hr := B.returns
  have hts := atoms_spec (ws := wsX6_fails) B.pre
  have hown : s.vm.findClass RX6 = some m.cls := findClass_of_methodNamed B.named
  have hlocks := B.notSynchronized
  have hS : va_S (fun q => z ≤ q) s.heap s.heap [] := va_S.rf
  have hl := lv_entry ([.ref (ad 6 0), .int x]) (n := 2) (Nat.le_of_ble_eq_true rfl)
  rw [lg_entry_eq]
  generalize (lg_sl ([.ref (ad 6 0), .int x]) ++ List.replicate (2 - (lg_sl ([.ref (ad 6 0), .int x])).length) Slot.unset).toArray = ls at hl ⊢
  have hl : lv_has ls 2 [(0, .ref (ad 6 0)), (1, .int x)] := hl
  skip
  refine lv_aload_n hx hb dX6_fails_0 rfl (lv_at hl 0 rfl) ?_
  refine lv_iload_n hx hb dX6_fails_1 rfl (lv_at hl 1 rfl) ?_
  refine cf_putE (v := .int x) (ty := .int) (ci := 6) (C := RX6) (T := TX6) (N := 24) hx hb hts (fun _ h => List.mem_cons_of_mem _ (List.mem_append_right _ (h))) tyX6 tyX6_ok nmX6 hown hT.1 hW hS cf_e6 rfl 23 (by decide) (hts (.fieldLink RX6 70 "GameCafeModel" "thrown" "I") (List.mem_of_getElem? (i := 1) rfl)) (fun _ h9 => h9) rfl (by decide +kernel) rfl rfl (Nat.le_of_ble_eq_true rfl) dX6_fails_2 (E2 := (cf_E cT nc ng (cf_s3 S 6 0 23 x) P O ad)) (cf_upS 6 0 (upd (S 6 0) 23 x) rfl) (fun H locs hW hS => ?_)
  refine lv_iconst (v := 0) hx hb dX6_fails_5 (by decide) ?_
  exact W.iret (v := 0) hx hb hr (fun t9 ht9 hw9 => ⟨⟨0, (cf_s3 S 6 0 23 x), rfl, ⟨rfl, rfl⟩, cf_W.re ht9 hW⟩, hS.F ht9⟩) hS.2.2 dX6_fails_6
set_option maxHeartbeats 4000000 in
set_option maxRecDepth 100000 in
/-- X6_in -/
theorem c_X6_in (l : Launch) (D : va_G) (cT : Nat → ClassId) (z : Nat) (ad : cf_Ad) (E : cf_T) (x lo hi : Int32)  : Met l yX6_in wsX6_in ({ frames := 0, cells := 0, slots := 0, locals := 0 }) (va_Pc [.int x, .int lo, .int hi] (cf_P D cT z E ad)) (cf_Qi D z (fun (r : Int32) (_ : Unit) => cf_B r (cf_rg x lo hi)) (fun _ => E) (fun _ => ad)) 0 0 (fun q => z ≤ q) := by
  refine Met.ofW (cc := cX6_in) (maxL := 3) (ret := (some .boolean)) (by decide) rfl ?_
  intro p e s m args below meth c s₁ B hml hv
  obtain ⟨rfl, hW, hT⟩ := hv
  have hx := B.exec
  have hb := B.bytes
  have hr := B.returns
  have hts := atoms_spec (ws := wsX6_in) B.pre
  have hown : s.vm.findClass RX6 = some m.cls := findClass_of_methodNamed B.named
  have hlocks := B.notSynchronized
  have hS : va_S (fun q => z ≤ q) s.heap s.heap [] := va_S.rf
  have hl := lv_entry ([.int x, .int lo, .int hi]) (n := 3) (Nat.le_of_ble_eq_true rfl)
  rw [lg_entry_eq]
  generalize (lg_sl ([.int x, .int lo, .int hi]) ++ List.replicate (3 - (lg_sl ([.int x, .int lo, .int hi])).length) Slot.unset).toArray = ls at hl ⊢
  have hl : lv_has ls 3 [(0, .int x), (1, .int lo), (2, .int hi)] := hl
  skip
  refine lv_iload_n hx hb dX6_in_0 rfl (lv_at hl 0 rfl) ?_
  refine lv_iload_n hx hb dX6_in_1 rfl (lv_at hl 1 rfl) ?_
  refine lv_icmp_lt (tgt := 14) hx hb dX6_in_2 (by decide) (fun c2_1 => ?_) (fun c2_1 => ?_)
  · refine lv_iconst (v := 0) hx hb dX6_in_14 (by decide) ?_
    exact W.zret (v := 0) (ty := .boolean) hx hb hr (by rfl) (fun t9 ht9 hw9 => ⟨⟨0, (), rfl, Or.inr ⟨rfl, cf_nrg1 c2_1⟩, cf_W.re ht9 hW⟩, hS.F ht9⟩) hS.2.2 dX6_in_15
  · refine lv_iload_n hx hb dX6_in_5 rfl (lv_at hl 0 rfl) ?_
    refine lv_iload_n hx hb dX6_in_6 rfl (lv_at hl 2 rfl) ?_
    refine lv_icmp_gt (tgt := 14) hx hb dX6_in_7 (by decide) (fun c7_2 => ?_) (fun c7_2 => ?_)
    · refine lv_iconst (v := 0) hx hb dX6_in_14 (by decide) ?_
      exact W.zret (v := 0) (ty := .boolean) hx hb hr (by rfl) (fun t9 ht9 hw9 => ⟨⟨0, (), rfl, Or.inr ⟨rfl, cf_nrg2 (Int32.not_le.mpr c7_2)⟩, cf_W.re ht9 hW⟩, hS.F ht9⟩) hS.2.2 dX6_in_15
    · refine lv_iconst (v := 1) hx hb dX6_in_10 (by decide) ?_
      refine lv_goto (tgt := 15) hx hb dX6_in_11 (by decide) ?_
      exact W.zret (v := 1) (ty := .boolean) hx hb hr (by rfl) (fun t9 ht9 hw9 => ⟨⟨1, (), rfl, Or.inl ⟨rfl, cf_rg_of c2_1 (Int32.not_lt.mp c7_2)⟩, cf_W.re ht9 hW⟩, hS.F ht9⟩) hS.2.2 dX6_in_15
set_option maxHeartbeats 4000000 in
set_option maxRecDepth 100000 in
/-- X6_isGame -/
theorem c_X6_isGame (l : Launch) (D : va_G) (cT : Nat → ClassId) (z : Nat) (ad : cf_Ad) (E : cf_T) (x : Int32)  : Met l yX6_isGame wsX6_isGame ({ frames := 1, cells := 0, slots := 0, locals := 22 }) (va_Pc [.int x] (cf_P D cT z E ad)) (cf_Qi D z (fun (r : Int32) (_ : Unit) => cf_B r (cf_ix x 5)) (fun _ => E) (fun _ => ad)) 0 0 (fun q => z ≤ q) := by
  refine Met.ofW (cc := cX6_isGame) (maxL := 1) (ret := (some .boolean)) (by decide) rfl ?_
  intro p e s m args below meth c s₁ B hml hv
  obtain ⟨rfl, hW, hT⟩ := hv
  have hx := B.exec
  have hb := B.bytes
  have hr := B.returns
  have hts := atoms_spec (ws := wsX6_isGame) B.pre
  have hown : s.vm.findClass RX6 = some m.cls := findClass_of_methodNamed B.named
  have hlocks := B.notSynchronized
  have hS : va_S (fun q => z ≤ q) s.heap s.heap [] := va_S.rf
  have hl := lv_entry ([.int x]) (n := 1) (Nat.le_of_ble_eq_true rfl)
  rw [lg_entry_eq]
  generalize (lg_sl ([.int x]) ++ List.replicate (1 - (lg_sl ([.int x])).length) Slot.unset).toArray = ls at hl ⊢
  have hl : lv_has ls 1 [(0, .int x)] := hl
  skip
  refine lv_iload_n hx hb dX6_isGame_0 rfl (lv_at hl 0 rfl) ?_
  refine lv_iconst (v := 0) hx hb dX6_isGame_1 (by decide) ?_
  refine lv_iconst (v := 4) hx hb dX6_isGame_2 (by decide) ?_
  refine va_calli (va_runS (As := [.int x, .int 0, .int 4]) (rest := []) ⟨hx, hb, hml, hown, hts⟩ (c_X6_in l D cT z ad _ x 0 4) (va_cwS 3 hts gX6_isGame_X6_in rfl rfl rfl (by decide +kernel) ⟨Nat.le_of_ble_eq_true rfl, Nat.le_of_ble_eq_true rfl⟩) (cf_preS hT hS hW) rfl rfl hl.1 rfl (lv_room (Nat.le_of_ble_eq_true rfl)) dX6_isGame_3 ⟨Nat.le_of_ble_eq_true rfl, Nat.le_of_ble_eq_true rfl⟩) hS (fun _ _ h => h) (fun _ h => h) (fun r1 ur1 t9 H locs ht hvm hw hW hz1 hk1 hS => ?_)
  have hW := cf_W.er ht hW
  have h1 := hw
  exact W.zret (v := r1) (ty := .boolean) hx hb hr h1.nar (fun t9 ht9 hw9 => ⟨⟨r1, (), rfl, h1.iff (cf_rg_ix (by decide) rfl), cf_W.re ht9 hW⟩, hS.F ht9⟩) hS.2.2 dX6_isGame_6
set_option maxHeartbeats 4000000 in
set_option maxRecDepth 100000 in
/-- X6_isCopy -/
theorem c_X6_isCopy (l : Launch) (D : va_G) (cT : Nat → ClassId) (z : Nat) (ad : cf_Ad) (nc ng : Nat) (S : cf_S) (P : cf_Pt) (O : Nat → Int64) (x : Int32) (hn : S 6 0 11 = nI nc) (hnc : nc ≤ 15) : Met l yX6_isCopy wsX6_isCopy ({ frames := 1, cells := 0, slots := 0, locals := 22 }) (va_Pc [.ref (ad 6 0), .int x] (cf_P D cT z (cf_E cT nc ng S P O ad) ad)) (cf_Qi D z (fun (r : Int32) (_ : Unit) => cf_B r (cf_ix x nc)) (fun _ => (cf_E cT nc ng S P O ad)) (fun _ => ad)) 0 0 (fun q => z ≤ q) := by
  refine Met.ofW (cc := cX6_isCopy) (maxL := 2) (ret := (some .boolean)) (by decide) rfl ?_
  intro p e s m args below meth c s₁ B hml hv
  obtain ⟨rfl, hW, hT⟩ := hv
  have hx := B.exec
  have hb := B.bytes
  have hr := B.returns
  have hts := atoms_spec (ws := wsX6_isCopy) B.pre
  have hown : s.vm.findClass RX6 = some m.cls := findClass_of_methodNamed B.named
  have hlocks := B.notSynchronized
  have hS : va_S (fun q => z ≤ q) s.heap s.heap [] := va_S.rf
  have hl := lv_entry ([.ref (ad 6 0), .int x]) (n := 2) (Nat.le_of_ble_eq_true rfl)
  rw [lg_entry_eq]
  generalize (lg_sl ([.ref (ad 6 0), .int x]) ++ List.replicate (2 - (lg_sl ([.ref (ad 6 0), .int x])).length) Slot.unset).toArray = ls at hl ⊢
  have hl : lv_has ls 2 [(0, .ref (ad 6 0)), (1, .int x)] := hl
  skip
  refine lv_iload_n hx hb dX6_isCopy_0 rfl (lv_at hl 1 rfl) ?_
  refine lv_iconst (v := 0) hx hb dX6_isCopy_1 (by decide) ?_
  refine lv_aload_n hx hb dX6_isCopy_2 rfl (lv_at hl 0 rfl) ?_
  refine cf_get (v := .int (S 6 0 11)) (ci := 6) (C := RX6) (T := TX6) (N := 24) hx hb hts (fun _ h => List.mem_cons_of_mem _ (List.mem_append_right _ (h))) hown hT.1 hW cf_e6 rfl 11 (by decide) (hts (.fieldLink RX6 78 "GameCafeModel" "copies" "I") (List.mem_of_getElem? (i := 1) rfl)) (fun _ h9 => h9) rfl dX6_isCopy_3 ?_
  refine lv_iconst (v := 1) hx hb dX6_isCopy_6 (by decide) ?_
  refine lv_isub hx hb dX6_isCopy_7 ?_
  refine va_calli (va_runS (As := [.int x, .int 0, .int ((S 6 0 11) - 1)]) (rest := []) ⟨hx, hb, hml, hown, hts⟩ (c_X6_in l D cT z ad _ x 0 ((S 6 0 11) - 1)) (va_cwS 3 hts gX6_isCopy_X6_in rfl rfl rfl (by decide +kernel) ⟨Nat.le_of_ble_eq_true rfl, Nat.le_of_ble_eq_true rfl⟩) (cf_preS hT hS hW) rfl rfl hl.1 rfl (lv_room (Nat.le_of_ble_eq_true rfl)) dX6_isCopy_8 ⟨Nat.le_of_ble_eq_true rfl, Nat.le_of_ble_eq_true rfl⟩) hS (fun _ _ h => h) (fun _ h => h) (fun r1 ur1 t9 H locs ht hvm hw hW hz1 hk1 hS => ?_)
  have hW := cf_W.er ht hW
  have h1 := hw
  exact W.zret (v := r1) (ty := .boolean) hx hb hr h1.nar (fun t9 ht9 hw9 => ⟨⟨r1, (), rfl, h1.iff (cf_rg_ix (by omega) (by rw [hn]; rfl)), cf_W.re ht9 hW⟩, hS.F ht9⟩) hS.2.2 dX6_isCopy_11
set_option maxHeartbeats 4000000 in
set_option maxRecDepth 100000 in
/-- X6_isThere -/
theorem c_X6_isThere (l : Launch) (D : va_G) (cT : Nat → ClassId) (z : Nat) (ad : cf_Ad) (nc ng : Nat) (S : cf_S) (P : cf_Pt) (O : Nat → Int64) (x : Int32) (hng : S 6 0 15 = nI ng) (hng60 : ng ≤ 60) : Met l yX6_isThere wsX6_isThere ({ frames := 1, cells := 0, slots := 0, locals := 22 }) (va_Pc [.ref (ad 6 0), .int x] (cf_P D cT z (cf_E cT nc ng S P O ad) ad)) (cf_Qi D z (fun (r : Int32) (T : cf_S) => (r = 1 ∧ cf_lvM S ng x ∧ T = cf_s3 S 6 0 23 0) ∨ (r = 0 ∧ ¬ cf_lvM S ng x ∧ T = cf_s3 S 6 0 23 1)) (fun T => cf_E cT nc ng T P O ad) (fun _ => ad)) 0 0 (fun q => z ≤ q) := by
  refine Met.ofW (cc := cX6_isThere) (maxL := 2) (ret := (some .boolean)) (by decide) rfl ?_
  intro p e s m args below meth c s₁ B hml hv
  obtain ⟨rfl, hW, hT⟩ := hv
  have hx := B.exec
  have hb := B.bytes
  have hr := B.returns
  have hts := atoms_spec (ws := wsX6_isThere) B.pre
  have hown : s.vm.findClass RX6 = some m.cls := findClass_of_methodNamed B.named
  have hlocks := B.notSynchronized
  have hS : va_S (fun q => z ≤ q) s.heap s.heap [] := va_S.rf
  have hl := lv_entry ([.ref (ad 6 0), .int x]) (n := 2) (Nat.le_of_ble_eq_true rfl)
  rw [lg_entry_eq]
  generalize (lg_sl ([.ref (ad 6 0), .int x]) ++ List.replicate (2 - (lg_sl ([.ref (ad 6 0), .int x])).length) Slot.unset).toArray = ls at hl ⊢
  have hl : lv_has ls 2 [(0, .ref (ad 6 0)), (1, .int x)] := hl
  skip
  refine lv_aload_n hx hb dX6_isThere_0 rfl (lv_at hl 0 rfl) ?_
  refine lv_iload_n hx hb dX6_isThere_1 rfl (lv_at hl 1 rfl) ?_
  refine lv_iconst (v := 0) hx hb dX6_isThere_2 (by decide) ?_
  refine lv_aload_n hx hb dX6_isThere_3 rfl (lv_at hl 0 rfl) ?_
  refine cf_get (v := .int (S 6 0 15)) (ci := 6) (C := RX6) (T := TX6) (N := 24) hx hb hts (fun _ h => List.mem_cons_of_mem _ (List.mem_append_right _ (h))) hown hT.1 hW cf_e6 rfl 15 (by decide) (hts (.fieldLink RX6 81 "GameCafeModel" "groups" "I") (List.mem_of_getElem? (i := 1) rfl)) (fun _ h9 => h9) rfl dX6_isThere_4 ?_
  refine lv_iconst (v := 1) hx hb dX6_isThere_7 (by decide) ?_
  refine lv_isub hx hb dX6_isThere_8 ?_
  refine va_calli (va_runS (As := [.int x, .int 0, .int ((S 6 0 15) - 1)]) (rest := [.ref (ad 6 0)]) ⟨hx, hb, hml, hown, hts⟩ (c_X6_in l D cT z ad _ x 0 ((S 6 0 15) - 1)) (va_cwS 3 hts gX6_isThere_X6_in rfl rfl rfl (by decide +kernel) ⟨Nat.le_of_ble_eq_true rfl, Nat.le_of_ble_eq_true rfl⟩) (cf_preS hT hS hW) rfl rfl hl.1 rfl (lv_room (Nat.le_of_ble_eq_true rfl)) dX6_isThere_9 ⟨Nat.le_of_ble_eq_true rfl, Nat.le_of_ble_eq_true rfl⟩) hS (fun _ _ h => h) (fun _ h => h) (fun r1 ur1 t9 H locs ht hvm hw hW hz1 hk1 hS => ?_)
  have hW := cf_W.er ht hW
  have h1 := hw
  have h1 := h1.iff (cf_rg_ix (n := ng) (by omega) (by rw [hng]; rfl))
  refine lv_if_eq (tgt := 28) hx hb dX6_isThere_12 (by decide) (fun c12_2 => ?_) (fun c12_2 => ?_)
  · have h2 := h1.f c12_2
    refine lv_iconst (v := 1) hx hb dX6_isThere_28 (by decide) ?_
    refine cf_putE (v := .int 1) (ty := .int) (ci := 6) (C := RX6) (T := TX6) (N := 24) hx hb hts (fun _ h => List.mem_cons_of_mem _ (List.mem_append_right _ (h))) tyX6 tyX6_ok nmX6 hown hT.1 hW hS cf_e6 rfl 23 (by decide) (hts (.fieldLink RX6 70 "GameCafeModel" "thrown" "I") (List.mem_of_getElem? (i := 3) rfl)) (fun _ h9 => h9) rfl (by decide +kernel) rfl rfl (Nat.le_of_ble_eq_true rfl) dX6_isThere_29 (E2 := (cf_E cT nc ng (cf_s3 S 6 0 23 1) P O ad)) (cf_upS 6 0 (upd (S 6 0) 23 1) rfl) (fun H locs hW hS => ?_)
    refine lv_aload_n hx hb dX6_isThere_32 rfl (lv_at hl 0 rfl) ?_
    refine cf_get (v := .int 1) (ci := 6) (C := RX6) (T := TX6) (N := 24) hx hb hts (fun _ h => List.mem_cons_of_mem _ (List.mem_append_right _ (h))) hown hT.1 hW cf_e6 rfl 23 (by decide) (hts (.fieldLink RX6 70 "GameCafeModel" "thrown" "I") (List.mem_of_getElem? (i := 3) rfl)) (fun _ h9 => h9) (congrArg (fun x => some (Value.int x)) (by simp [cf_s3, cf_g2, upd] : (cf_s3 S 6 0 23 1) 6 0 23 = 1)) dX6_isThere_33 ?_
    refine lv_if_ne (tgt := 43) hx hb dX6_isThere_36 (by decide) (fun c36_3 => ?_) (fun c36_3 => (by first | exact absurd (by decide) c36_3 | exact absurd c36_3 (by decide)))
    refine lv_iconst (v := 0) hx hb dX6_isThere_43 (by decide) ?_
    exact W.zret (v := 0) (ty := .boolean) hx hb hr (by rfl) (fun t9 ht9 hw9 => ⟨⟨0, (cf_s3 S 6 0 23 1), rfl, Or.inr ⟨rfl, fun q => h2 (by obtain ⟨j, hj, hx, -⟩ := q; exact ⟨j, hj, hx⟩), rfl⟩, cf_W.re ht9 hW⟩, hS.F ht9⟩) hS.2.2 dX6_isThere_44
  · have h2 := h1.t c12_2
    obtain ⟨j, hj, hxj⟩ := h2
    refine lv_aload_n hx hb dX6_isThere_15 rfl (lv_at hl 0 rfl) ?_
    refine cf_get (v := .ref (ad 17 20)) (ci := 6) (C := RX6) (T := TX6) (N := 24) hx hb hts (fun _ h => List.mem_cons_of_mem _ (List.mem_append_right _ (h))) hown hT.1 hW cf_e6 rfl 20 (by decide) (hts (.fieldLink RX6 61 "GameCafeModel" "gone" "[I") (List.mem_of_getElem? (i := 2) rfl)) (fun _ h9 => h9) rfl dX6_isThere_16 ?_
    refine lv_iload_n hx hb dX6_isThere_19 rfl (lv_at hl 1 rfl) ?_
    refine cf_ildN (t0 := 0) (n := 60) (f := S 17 20) (v := (S 17 20 j)) hx hb hT.1 hW (cf_e17 (i := 20) (by decide)) rfl j hxj (show j < 60 by omega) (by decide) dX6_isThere_20 rfl ?_
    refine lv_if_ne (tgt := 28) hx hb dX6_isThere_21 (by decide) (fun c21_4 => ?_) (fun c21_4 => ?_)
    · refine lv_iconst (v := 1) hx hb dX6_isThere_28 (by decide) ?_
      refine cf_putE (v := .int 1) (ty := .int) (ci := 6) (C := RX6) (T := TX6) (N := 24) hx hb hts (fun _ h => List.mem_cons_of_mem _ (List.mem_append_right _ (h))) tyX6 tyX6_ok nmX6 hown hT.1 hW hS cf_e6 rfl 23 (by decide) (hts (.fieldLink RX6 70 "GameCafeModel" "thrown" "I") (List.mem_of_getElem? (i := 3) rfl)) (fun _ h9 => h9) rfl (by decide +kernel) rfl rfl (Nat.le_of_ble_eq_true rfl) dX6_isThere_29 (E2 := (cf_E cT nc ng (cf_s3 S 6 0 23 1) P O ad)) (cf_upS 6 0 (upd (S 6 0) 23 1) rfl) (fun H locs hW hS => ?_)
      refine lv_aload_n hx hb dX6_isThere_32 rfl (lv_at hl 0 rfl) ?_
      refine cf_get (v := .int 1) (ci := 6) (C := RX6) (T := TX6) (N := 24) hx hb hts (fun _ h => List.mem_cons_of_mem _ (List.mem_append_right _ (h))) hown hT.1 hW cf_e6 rfl 23 (by decide) (hts (.fieldLink RX6 70 "GameCafeModel" "thrown" "I") (List.mem_of_getElem? (i := 3) rfl)) (fun _ h9 => h9) (congrArg (fun x => some (Value.int x)) (by simp [cf_s3, cf_g2, upd] : (cf_s3 S 6 0 23 1) 6 0 23 = 1)) dX6_isThere_33 ?_
      refine lv_if_ne (tgt := 43) hx hb dX6_isThere_36 (by decide) (fun c36_5 => ?_) (fun c36_5 => (by first | exact absurd (by decide) c36_5 | exact absurd c36_5 (by decide)))
      refine lv_iconst (v := 0) hx hb dX6_isThere_43 (by decide) ?_
      exact W.zret (v := 0) (ty := .boolean) hx hb hr (by rfl) (fun t9 ht9 hw9 => ⟨⟨0, (cf_s3 S 6 0 23 1), rfl, Or.inr ⟨rfl, fun q => c21_4 (by obtain ⟨i, hi, hx, h0⟩ := q; rw [cf_nI_inj (by omega) (by omega) (hxj.symm.trans hx)]; exact h0), rfl⟩, cf_W.re ht9 hW⟩, hS.F ht9⟩) hS.2.2 dX6_isThere_44
    · refine lv_iconst (v := 0) hx hb dX6_isThere_24 (by decide) ?_
      refine lv_goto (tgt := 29) hx hb dX6_isThere_25 (by decide) ?_
      refine cf_putE (v := .int 0) (ty := .int) (ci := 6) (C := RX6) (T := TX6) (N := 24) hx hb hts (fun _ h => List.mem_cons_of_mem _ (List.mem_append_right _ (h))) tyX6 tyX6_ok nmX6 hown hT.1 hW hS cf_e6 rfl 23 (by decide) (hts (.fieldLink RX6 70 "GameCafeModel" "thrown" "I") (List.mem_of_getElem? (i := 3) rfl)) (fun _ h9 => h9) rfl (by decide +kernel) rfl rfl (Nat.le_of_ble_eq_true rfl) dX6_isThere_29 (E2 := (cf_E cT nc ng (cf_s3 S 6 0 23 0) P O ad)) (cf_upS 6 0 (upd (S 6 0) 23 0) rfl) (fun H locs hW hS => ?_)
      refine lv_aload_n hx hb dX6_isThere_32 rfl (lv_at hl 0 rfl) ?_
      refine cf_get (v := .int 0) (ci := 6) (C := RX6) (T := TX6) (N := 24) hx hb hts (fun _ h => List.mem_cons_of_mem _ (List.mem_append_right _ (h))) hown hT.1 hW cf_e6 rfl 23 (by decide) (hts (.fieldLink RX6 70 "GameCafeModel" "thrown" "I") (List.mem_of_getElem? (i := 3) rfl)) (fun _ h9 => h9) (congrArg (fun x => some (Value.int x)) (by simp [cf_s3, cf_g2, upd] : (cf_s3 S 6 0 23 0) 6 0 23 = 0)) dX6_isThere_33 ?_
      refine lv_if_ne (tgt := 43) hx hb dX6_isThere_36 (by decide) (fun c36_6 => (by first | exact absurd c36_6 (by decide) | exact absurd (by decide) c36_6)) (fun c36_6 => ?_)
      refine lv_iconst (v := 1) hx hb dX6_isThere_39 (by decide) ?_
      refine lv_goto (tgt := 44) hx hb dX6_isThere_40 (by decide) ?_
      exact W.zret (v := 1) (ty := .boolean) hx hb hr (by rfl) (fun t9 ht9 hw9 => ⟨⟨1, (cf_s3 S 6 0 23 0), rfl, Or.inl ⟨rfl, ⟨j, hj, hxj, c21_4⟩, rfl⟩, cf_W.re ht9 hW⟩, hS.F ht9⟩) hS.2.2 dX6_isThere_44
set_option maxHeartbeats 4000000 in
set_option maxRecDepth 100000 in
/-- X6_playable -/
theorem c_X6_playable (l : Launch) (D : va_G) (cT : Nat → ClassId) (z : Nat) (ad : cf_Ad) (nc ng : Nat) (S : cf_S) (P : cf_Pt) (O : Nat → Int64) (x : Int32) {u : Nat} (hxu : x = nI u) (hu : u < nc) (hnc : nc ≤ 15) (hM : ∀ j, j < nc → S 17 12 j = nI (P 0 j 0) ∧ P 0 j 0 < 5) : Met l yX6_playable wsX6_playable ({ frames := 0, cells := 0, slots := 0, locals := 0 }) (va_Pc [.ref (ad 6 0), .int x] (cf_P D cT z (cf_E cT nc ng S P O ad) ad)) (cf_Qi D z (fun (r : Int32) (_ : Unit) => cf_B r (cf_playM S P u)) (fun _ => (cf_E cT nc ng S P O ad)) (fun _ => ad)) 0 0 (fun q => z ≤ q) := by
  refine Met.ofW (cc := cX6_playable) (maxL := 4) (ret := (some .boolean)) (by decide) rfl ?_
  intro p e s m args below meth c s₁ B hml hv
  obtain ⟨rfl, hW, hT⟩ := hv
  have hx := B.exec
  have hb := B.bytes
  have hr := B.returns
  have hts := atoms_spec (ws := wsX6_playable) B.pre
  have hown : s.vm.findClass RX6 = some m.cls := findClass_of_methodNamed B.named
  have hlocks := B.notSynchronized
  have hS : va_S (fun q => z ≤ q) s.heap s.heap [] := va_S.rf
  have hl := lv_entry ([.ref (ad 6 0), .int x]) (n := 4) (Nat.le_of_ble_eq_true rfl)
  rw [lg_entry_eq]
  generalize (lg_sl ([.ref (ad 6 0), .int x]) ++ List.replicate (4 - (lg_sl ([.ref (ad 6 0), .int x])).length) Slot.unset).toArray = ls at hl ⊢
  have hl : lv_has ls 4 [(0, .ref (ad 6 0)), (1, .int x)] := hl
  skip
  refine lv_iconst (v := 1) hx hb dX6_playable_0 (by decide) ?_
  refine lv_istore_n (lv' := [(2, .int 1), (0, .ref (ad 6 0)), (1, .int x)]) hx hb dX6_playable_1 rfl hl (by decide) rfl (fun ls hl => ?_)
  refine lv_iconst (v := 0) hx hb dX6_playable_2 (by decide) ?_
  refine lv_istore_n (lv' := [(3, .int 0), (2, .int 1), (0, .ref (ad 6 0)), (1, .int x)]) hx hb dX6_playable_3 rfl hl (by decide) rfl (fun ls hl => ?_)
  refine lv_iload_n hx hb dX6_playable_4 rfl (lv_at hl 0 rfl) ?_
  refine lv_iconst (v := 4) hx hb dX6_playable_5 (by decide) ?_
  refine lv_icmp_ge (tgt := 53) hx hb dX6_playable_6 (by decide) (fun c6_1 => (by first | exact absurd c6_1 (by decide) | exact absurd (by decide) c6_1)) (fun c6_1 => ?_)
  refine lv_iload_n hx hb dX6_playable_9 rfl (lv_at hl 1 rfl) ?_
  refine lv_if_eq (tgt := 45) hx hb dX6_playable_10 (by decide) (fun c10_2 => (by first | exact absurd c10_2 (by decide) | exact absurd (by decide) c10_2)) (fun c10_2 => ?_)
  refine lv_aload_n hx hb dX6_playable_13 rfl (lv_at hl 2 rfl) ?_
  refine cf_get (v := .ref (ad 17 14)) (ci := 6) (C := RX6) (T := TX6) (N := 24) hx hb hts (fun _ h => List.mem_cons_of_mem _ (List.mem_append_right _ (h))) hown hT.1 hW cf_e6 rfl 14 (by decide) (hts (.fieldLink RX6 46 "GameCafeModel" "parts" "[I") (List.mem_of_getElem? (i := 1) rfl)) (fun _ h9 => h9) rfl dX6_playable_14 ?_
  refine lv_iconst (v := 4) hx hb dX6_playable_17 (by decide) ?_
  refine lv_iload_n hx hb dX6_playable_18 rfl (lv_at hl 3 rfl) ?_
  refine lv_imul hx hb dX6_playable_19 ?_
  refine lv_iload_n hx hb dX6_playable_20 rfl (lv_at hl 0 rfl) ?_
  refine lv_iadd hx hb dX6_playable_21 ?_
  refine cf_ildN (t0 := 0) (n := 60) (f := S 17 14) (v := (S 17 14 (4 * u + 0))) hx hb hT.1 hW (cf_e17 (i := 14) (by decide)) rfl (4 * u + 0) (cf_ix4 hxu rfl) (by omega) (by decide) dX6_playable_22 rfl ?_
  refine lv_aload_n hx hb dX6_playable_23 rfl (lv_at hl 2 rfl) ?_
  refine cf_get (v := .ref (ad 17 5)) (ci := 6) (C := RX6) (T := TX6) (N := 24) hx hb hts (fun _ h => List.mem_cons_of_mem _ (List.mem_append_right _ (h))) hown hT.1 hW cf_e6 rfl 5 (by decide) (hts (.fieldLink RX6 22 "GameCafeModel" "needs" "[I") (List.mem_of_getElem? (i := 2) rfl)) (fun _ h9 => h9) rfl dX6_playable_24 ?_
  refine lv_iconst (v := 4) hx hb dX6_playable_27 (by decide) ?_
  refine lv_aload_n hx hb dX6_playable_28 rfl (lv_at hl 2 rfl) ?_
  refine cf_get (v := .ref (ad 17 12)) (ci := 6) (C := RX6) (T := TX6) (N := 24) hx hb hts (fun _ h => List.mem_cons_of_mem _ (List.mem_append_right _ (h))) hown hT.1 hW cf_e6 rfl 12 (by decide) (hts (.fieldLink RX6 40 "GameCafeModel" "games" "[I") (List.mem_of_getElem? (i := 3) rfl)) (fun _ h9 => h9) rfl dX6_playable_29 ?_
  refine lv_iload_n hx hb dX6_playable_32 rfl (lv_at hl 3 rfl) ?_
  refine cf_ildN (t0 := 0) (n := 15) (f := S 17 12) (v := (nI (P 0 u 0))) hx hb hT.1 hW (cf_e17 (i := 12) (by decide)) rfl u hxu (by omega) (by decide) dX6_playable_33 (hM u hu).1 ?_
  refine lv_imul hx hb dX6_playable_34 ?_
  refine lv_iload_n hx hb dX6_playable_35 rfl (lv_at hl 0 rfl) ?_
  refine lv_iadd hx hb dX6_playable_36 ?_
  refine cf_ildN (t0 := 0) (n := 20) (f := S 17 5) (v := (S 17 5 (4 * P 0 u 0 + 0))) hx hb hT.1 hW (cf_e17 (i := 5) (by decide)) rfl (4 * P 0 u 0 + 0) (cf_ix4 rfl rfl) (by have := (hM u hu).2; omega) (by decide) dX6_playable_37 rfl ?_
  refine lv_icmp_lt (tgt := 45) hx hb dX6_playable_38 (by decide) (fun c38_3 => ?_) (fun c38_3 => ?_)
  · refine lv_iconst (v := 0) hx hb dX6_playable_45 (by decide) ?_
    refine lv_istore_n (lv' := [(2, .int 0), (3, .int 0), (0, .ref (ad 6 0)), (1, .int x)]) hx hb dX6_playable_46 rfl hl (by decide) rfl (fun ls hl => ?_)
    refine lv_iinc (v := 1) (lv' := [(3, .int 1), (2, .int 0), (0, .ref (ad 6 0)), (1, .int x)]) hx hb dX6_playable_47 hl (k := 1) rfl (by decide) (by decide) rfl (fun ls hl => ?_)
    refine lv_goto (tgt := 4) hx hb dX6_playable_50 (by decide) ?_
    refine lv_iload_n hx hb dX6_playable_4 rfl (lv_at hl 0 rfl) ?_
    refine lv_iconst (v := 4) hx hb dX6_playable_5 (by decide) ?_
    refine lv_icmp_ge (tgt := 53) hx hb dX6_playable_6 (by decide) (fun c6_4 => (by first | exact absurd c6_4 (by decide) | exact absurd (by decide) c6_4)) (fun c6_4 => ?_)
    refine lv_iload_n hx hb dX6_playable_9 rfl (lv_at hl 1 rfl) ?_
    refine lv_if_eq (tgt := 45) hx hb dX6_playable_10 (by decide) (fun c10_5 => ?_) (fun c10_5 => (by first | exact absurd rfl c10_5 | exact absurd c10_5 rfl))
    refine lv_iconst (v := 0) hx hb dX6_playable_45 (by decide) ?_
    refine lv_istore_n (lv' := [(2, .int 0), (3, .int 1), (0, .ref (ad 6 0)), (1, .int x)]) hx hb dX6_playable_46 rfl hl (by decide) rfl (fun ls hl => ?_)
    refine lv_iinc (v := 2) (lv' := [(3, .int 2), (2, .int 0), (0, .ref (ad 6 0)), (1, .int x)]) hx hb dX6_playable_47 hl (k := 1) rfl (by decide) (by decide) rfl (fun ls hl => ?_)
    refine lv_goto (tgt := 4) hx hb dX6_playable_50 (by decide) ?_
    refine lv_iload_n hx hb dX6_playable_4 rfl (lv_at hl 0 rfl) ?_
    refine lv_iconst (v := 4) hx hb dX6_playable_5 (by decide) ?_
    refine lv_icmp_ge (tgt := 53) hx hb dX6_playable_6 (by decide) (fun c6_6 => (by first | exact absurd c6_6 (by decide) | exact absurd (by decide) c6_6)) (fun c6_6 => ?_)
    refine lv_iload_n hx hb dX6_playable_9 rfl (lv_at hl 1 rfl) ?_
    refine lv_if_eq (tgt := 45) hx hb dX6_playable_10 (by decide) (fun c10_7 => ?_) (fun c10_7 => (by first | exact absurd rfl c10_7 | exact absurd c10_7 rfl))
    refine lv_iconst (v := 0) hx hb dX6_playable_45 (by decide) ?_
    refine lv_istore_n (lv' := [(2, .int 0), (3, .int 2), (0, .ref (ad 6 0)), (1, .int x)]) hx hb dX6_playable_46 rfl hl (by decide) rfl (fun ls hl => ?_)
    refine lv_iinc (v := 3) (lv' := [(3, .int 3), (2, .int 0), (0, .ref (ad 6 0)), (1, .int x)]) hx hb dX6_playable_47 hl (k := 1) rfl (by decide) (by decide) rfl (fun ls hl => ?_)
    refine lv_goto (tgt := 4) hx hb dX6_playable_50 (by decide) ?_
    refine lv_iload_n hx hb dX6_playable_4 rfl (lv_at hl 0 rfl) ?_
    refine lv_iconst (v := 4) hx hb dX6_playable_5 (by decide) ?_
    refine lv_icmp_ge (tgt := 53) hx hb dX6_playable_6 (by decide) (fun c6_8 => (by first | exact absurd c6_8 (by decide) | exact absurd (by decide) c6_8)) (fun c6_8 => ?_)
    refine lv_iload_n hx hb dX6_playable_9 rfl (lv_at hl 1 rfl) ?_
    refine lv_if_eq (tgt := 45) hx hb dX6_playable_10 (by decide) (fun c10_9 => ?_) (fun c10_9 => (by first | exact absurd rfl c10_9 | exact absurd c10_9 rfl))
    refine lv_iconst (v := 0) hx hb dX6_playable_45 (by decide) ?_
    refine lv_istore_n (lv' := [(2, .int 0), (3, .int 3), (0, .ref (ad 6 0)), (1, .int x)]) hx hb dX6_playable_46 rfl hl (by decide) rfl (fun ls hl => ?_)
    refine lv_iinc (v := 4) (lv' := [(3, .int 4), (2, .int 0), (0, .ref (ad 6 0)), (1, .int x)]) hx hb dX6_playable_47 hl (k := 1) rfl (by decide) (by decide) rfl (fun ls hl => ?_)
    refine lv_goto (tgt := 4) hx hb dX6_playable_50 (by decide) ?_
    refine lv_iload_n hx hb dX6_playable_4 rfl (lv_at hl 0 rfl) ?_
    refine lv_iconst (v := 4) hx hb dX6_playable_5 (by decide) ?_
    refine lv_icmp_ge (tgt := 53) hx hb dX6_playable_6 (by decide) (fun c6_10 => ?_) (fun c6_10 => (by first | exact absurd (by decide) c6_10 | exact absurd c6_10 (by decide)))
    refine lv_iload_n hx hb dX6_playable_53 rfl (lv_at hl 1 rfl) ?_
    exact W.zret (v := 0) (ty := .boolean) hx hb hr (by rfl) (fun t9 ht9 hw9 => ⟨⟨0, (), rfl, Or.inr ⟨rfl, fun q => (Int32.not_le.mpr c38_3) (q 0 (by decide))⟩, cf_W.re ht9 hW⟩, hS.F ht9⟩) hS.2.2 dX6_playable_54
  · have g0 := Int32.not_lt.mp c38_3
    refine lv_iconst (v := 1) hx hb dX6_playable_41 (by decide) ?_
    refine lv_goto (tgt := 46) hx hb dX6_playable_42 (by decide) ?_
    refine lv_istore_n (lv' := [(2, .int 1), (3, .int 0), (0, .ref (ad 6 0)), (1, .int x)]) hx hb dX6_playable_46 rfl hl (by decide) rfl (fun ls hl => ?_)
    refine lv_iinc (v := 1) (lv' := [(3, .int 1), (2, .int 1), (0, .ref (ad 6 0)), (1, .int x)]) hx hb dX6_playable_47 hl (k := 1) rfl (by decide) (by decide) rfl (fun ls hl => ?_)
    refine lv_goto (tgt := 4) hx hb dX6_playable_50 (by decide) ?_
    refine lv_iload_n hx hb dX6_playable_4 rfl (lv_at hl 0 rfl) ?_
    refine lv_iconst (v := 4) hx hb dX6_playable_5 (by decide) ?_
    refine lv_icmp_ge (tgt := 53) hx hb dX6_playable_6 (by decide) (fun c6_11 => (by first | exact absurd c6_11 (by decide) | exact absurd (by decide) c6_11)) (fun c6_11 => ?_)
    refine lv_iload_n hx hb dX6_playable_9 rfl (lv_at hl 1 rfl) ?_
    refine lv_if_eq (tgt := 45) hx hb dX6_playable_10 (by decide) (fun c10_12 => (by first | exact absurd c10_12 (by decide) | exact absurd (by decide) c10_12)) (fun c10_12 => ?_)
    refine lv_aload_n hx hb dX6_playable_13 rfl (lv_at hl 2 rfl) ?_
    refine cf_get (v := .ref (ad 17 14)) (ci := 6) (C := RX6) (T := TX6) (N := 24) hx hb hts (fun _ h => List.mem_cons_of_mem _ (List.mem_append_right _ (h))) hown hT.1 hW cf_e6 rfl 14 (by decide) (hts (.fieldLink RX6 46 "GameCafeModel" "parts" "[I") (List.mem_of_getElem? (i := 1) rfl)) (fun _ h9 => h9) rfl dX6_playable_14 ?_
    refine lv_iconst (v := 4) hx hb dX6_playable_17 (by decide) ?_
    refine lv_iload_n hx hb dX6_playable_18 rfl (lv_at hl 3 rfl) ?_
    refine lv_imul hx hb dX6_playable_19 ?_
    refine lv_iload_n hx hb dX6_playable_20 rfl (lv_at hl 0 rfl) ?_
    refine lv_iadd hx hb dX6_playable_21 ?_
    refine cf_ildN (t0 := 0) (n := 60) (f := S 17 14) (v := (S 17 14 (4 * u + 1))) hx hb hT.1 hW (cf_e17 (i := 14) (by decide)) rfl (4 * u + 1) (cf_ix4 hxu rfl) (by omega) (by decide) dX6_playable_22 rfl ?_
    refine lv_aload_n hx hb dX6_playable_23 rfl (lv_at hl 2 rfl) ?_
    refine cf_get (v := .ref (ad 17 5)) (ci := 6) (C := RX6) (T := TX6) (N := 24) hx hb hts (fun _ h => List.mem_cons_of_mem _ (List.mem_append_right _ (h))) hown hT.1 hW cf_e6 rfl 5 (by decide) (hts (.fieldLink RX6 22 "GameCafeModel" "needs" "[I") (List.mem_of_getElem? (i := 2) rfl)) (fun _ h9 => h9) rfl dX6_playable_24 ?_
    refine lv_iconst (v := 4) hx hb dX6_playable_27 (by decide) ?_
    refine lv_aload_n hx hb dX6_playable_28 rfl (lv_at hl 2 rfl) ?_
    refine cf_get (v := .ref (ad 17 12)) (ci := 6) (C := RX6) (T := TX6) (N := 24) hx hb hts (fun _ h => List.mem_cons_of_mem _ (List.mem_append_right _ (h))) hown hT.1 hW cf_e6 rfl 12 (by decide) (hts (.fieldLink RX6 40 "GameCafeModel" "games" "[I") (List.mem_of_getElem? (i := 3) rfl)) (fun _ h9 => h9) rfl dX6_playable_29 ?_
    refine lv_iload_n hx hb dX6_playable_32 rfl (lv_at hl 3 rfl) ?_
    refine cf_ildN (t0 := 0) (n := 15) (f := S 17 12) (v := (nI (P 0 u 0))) hx hb hT.1 hW (cf_e17 (i := 12) (by decide)) rfl u hxu (by omega) (by decide) dX6_playable_33 (hM u hu).1 ?_
    refine lv_imul hx hb dX6_playable_34 ?_
    refine lv_iload_n hx hb dX6_playable_35 rfl (lv_at hl 0 rfl) ?_
    refine lv_iadd hx hb dX6_playable_36 ?_
    refine cf_ildN (t0 := 0) (n := 20) (f := S 17 5) (v := (S 17 5 (4 * P 0 u 0 + 1))) hx hb hT.1 hW (cf_e17 (i := 5) (by decide)) rfl (4 * P 0 u 0 + 1) (cf_ix4 rfl rfl) (by have := (hM u hu).2; omega) (by decide) dX6_playable_37 rfl ?_
    refine lv_icmp_lt (tgt := 45) hx hb dX6_playable_38 (by decide) (fun c38_13 => ?_) (fun c38_13 => ?_)
    · refine lv_iconst (v := 0) hx hb dX6_playable_45 (by decide) ?_
      refine lv_istore_n (lv' := [(2, .int 0), (3, .int 1), (0, .ref (ad 6 0)), (1, .int x)]) hx hb dX6_playable_46 rfl hl (by decide) rfl (fun ls hl => ?_)
      refine lv_iinc (v := 2) (lv' := [(3, .int 2), (2, .int 0), (0, .ref (ad 6 0)), (1, .int x)]) hx hb dX6_playable_47 hl (k := 1) rfl (by decide) (by decide) rfl (fun ls hl => ?_)
      refine lv_goto (tgt := 4) hx hb dX6_playable_50 (by decide) ?_
      refine lv_iload_n hx hb dX6_playable_4 rfl (lv_at hl 0 rfl) ?_
      refine lv_iconst (v := 4) hx hb dX6_playable_5 (by decide) ?_
      refine lv_icmp_ge (tgt := 53) hx hb dX6_playable_6 (by decide) (fun c6_14 => (by first | exact absurd c6_14 (by decide) | exact absurd (by decide) c6_14)) (fun c6_14 => ?_)
      refine lv_iload_n hx hb dX6_playable_9 rfl (lv_at hl 1 rfl) ?_
      refine lv_if_eq (tgt := 45) hx hb dX6_playable_10 (by decide) (fun c10_15 => ?_) (fun c10_15 => (by first | exact absurd rfl c10_15 | exact absurd c10_15 rfl))
      refine lv_iconst (v := 0) hx hb dX6_playable_45 (by decide) ?_
      refine lv_istore_n (lv' := [(2, .int 0), (3, .int 2), (0, .ref (ad 6 0)), (1, .int x)]) hx hb dX6_playable_46 rfl hl (by decide) rfl (fun ls hl => ?_)
      refine lv_iinc (v := 3) (lv' := [(3, .int 3), (2, .int 0), (0, .ref (ad 6 0)), (1, .int x)]) hx hb dX6_playable_47 hl (k := 1) rfl (by decide) (by decide) rfl (fun ls hl => ?_)
      refine lv_goto (tgt := 4) hx hb dX6_playable_50 (by decide) ?_
      refine lv_iload_n hx hb dX6_playable_4 rfl (lv_at hl 0 rfl) ?_
      refine lv_iconst (v := 4) hx hb dX6_playable_5 (by decide) ?_
      refine lv_icmp_ge (tgt := 53) hx hb dX6_playable_6 (by decide) (fun c6_16 => (by first | exact absurd c6_16 (by decide) | exact absurd (by decide) c6_16)) (fun c6_16 => ?_)
      refine lv_iload_n hx hb dX6_playable_9 rfl (lv_at hl 1 rfl) ?_
      refine lv_if_eq (tgt := 45) hx hb dX6_playable_10 (by decide) (fun c10_17 => ?_) (fun c10_17 => (by first | exact absurd rfl c10_17 | exact absurd c10_17 rfl))
      refine lv_iconst (v := 0) hx hb dX6_playable_45 (by decide) ?_
      refine lv_istore_n (lv' := [(2, .int 0), (3, .int 3), (0, .ref (ad 6 0)), (1, .int x)]) hx hb dX6_playable_46 rfl hl (by decide) rfl (fun ls hl => ?_)
      refine lv_iinc (v := 4) (lv' := [(3, .int 4), (2, .int 0), (0, .ref (ad 6 0)), (1, .int x)]) hx hb dX6_playable_47 hl (k := 1) rfl (by decide) (by decide) rfl (fun ls hl => ?_)
      refine lv_goto (tgt := 4) hx hb dX6_playable_50 (by decide) ?_
      refine lv_iload_n hx hb dX6_playable_4 rfl (lv_at hl 0 rfl) ?_
      refine lv_iconst (v := 4) hx hb dX6_playable_5 (by decide) ?_
      refine lv_icmp_ge (tgt := 53) hx hb dX6_playable_6 (by decide) (fun c6_18 => ?_) (fun c6_18 => (by first | exact absurd (by decide) c6_18 | exact absurd c6_18 (by decide)))
      refine lv_iload_n hx hb dX6_playable_53 rfl (lv_at hl 1 rfl) ?_
      exact W.zret (v := 0) (ty := .boolean) hx hb hr (by rfl) (fun t9 ht9 hw9 => ⟨⟨0, (), rfl, Or.inr ⟨rfl, fun q => (Int32.not_le.mpr c38_13) (q 1 (by decide))⟩, cf_W.re ht9 hW⟩, hS.F ht9⟩) hS.2.2 dX6_playable_54
    · have g1 := Int32.not_lt.mp c38_13
      refine lv_iconst (v := 1) hx hb dX6_playable_41 (by decide) ?_
      refine lv_goto (tgt := 46) hx hb dX6_playable_42 (by decide) ?_
      refine lv_istore_n (lv' := [(2, .int 1), (3, .int 1), (0, .ref (ad 6 0)), (1, .int x)]) hx hb dX6_playable_46 rfl hl (by decide) rfl (fun ls hl => ?_)
      refine lv_iinc (v := 2) (lv' := [(3, .int 2), (2, .int 1), (0, .ref (ad 6 0)), (1, .int x)]) hx hb dX6_playable_47 hl (k := 1) rfl (by decide) (by decide) rfl (fun ls hl => ?_)
      refine lv_goto (tgt := 4) hx hb dX6_playable_50 (by decide) ?_
      refine lv_iload_n hx hb dX6_playable_4 rfl (lv_at hl 0 rfl) ?_
      refine lv_iconst (v := 4) hx hb dX6_playable_5 (by decide) ?_
      refine lv_icmp_ge (tgt := 53) hx hb dX6_playable_6 (by decide) (fun c6_19 => (by first | exact absurd c6_19 (by decide) | exact absurd (by decide) c6_19)) (fun c6_19 => ?_)
      refine lv_iload_n hx hb dX6_playable_9 rfl (lv_at hl 1 rfl) ?_
      refine lv_if_eq (tgt := 45) hx hb dX6_playable_10 (by decide) (fun c10_20 => (by first | exact absurd c10_20 (by decide) | exact absurd (by decide) c10_20)) (fun c10_20 => ?_)
      refine lv_aload_n hx hb dX6_playable_13 rfl (lv_at hl 2 rfl) ?_
      refine cf_get (v := .ref (ad 17 14)) (ci := 6) (C := RX6) (T := TX6) (N := 24) hx hb hts (fun _ h => List.mem_cons_of_mem _ (List.mem_append_right _ (h))) hown hT.1 hW cf_e6 rfl 14 (by decide) (hts (.fieldLink RX6 46 "GameCafeModel" "parts" "[I") (List.mem_of_getElem? (i := 1) rfl)) (fun _ h9 => h9) rfl dX6_playable_14 ?_
      refine lv_iconst (v := 4) hx hb dX6_playable_17 (by decide) ?_
      refine lv_iload_n hx hb dX6_playable_18 rfl (lv_at hl 3 rfl) ?_
      refine lv_imul hx hb dX6_playable_19 ?_
      refine lv_iload_n hx hb dX6_playable_20 rfl (lv_at hl 0 rfl) ?_
      refine lv_iadd hx hb dX6_playable_21 ?_
      refine cf_ildN (t0 := 0) (n := 60) (f := S 17 14) (v := (S 17 14 (4 * u + 2))) hx hb hT.1 hW (cf_e17 (i := 14) (by decide)) rfl (4 * u + 2) (cf_ix4 hxu rfl) (by omega) (by decide) dX6_playable_22 rfl ?_
      refine lv_aload_n hx hb dX6_playable_23 rfl (lv_at hl 2 rfl) ?_
      refine cf_get (v := .ref (ad 17 5)) (ci := 6) (C := RX6) (T := TX6) (N := 24) hx hb hts (fun _ h => List.mem_cons_of_mem _ (List.mem_append_right _ (h))) hown hT.1 hW cf_e6 rfl 5 (by decide) (hts (.fieldLink RX6 22 "GameCafeModel" "needs" "[I") (List.mem_of_getElem? (i := 2) rfl)) (fun _ h9 => h9) rfl dX6_playable_24 ?_
      refine lv_iconst (v := 4) hx hb dX6_playable_27 (by decide) ?_
      refine lv_aload_n hx hb dX6_playable_28 rfl (lv_at hl 2 rfl) ?_
      refine cf_get (v := .ref (ad 17 12)) (ci := 6) (C := RX6) (T := TX6) (N := 24) hx hb hts (fun _ h => List.mem_cons_of_mem _ (List.mem_append_right _ (h))) hown hT.1 hW cf_e6 rfl 12 (by decide) (hts (.fieldLink RX6 40 "GameCafeModel" "games" "[I") (List.mem_of_getElem? (i := 3) rfl)) (fun _ h9 => h9) rfl dX6_playable_29 ?_
      refine lv_iload_n hx hb dX6_playable_32 rfl (lv_at hl 3 rfl) ?_
      refine cf_ildN (t0 := 0) (n := 15) (f := S 17 12) (v := (nI (P 0 u 0))) hx hb hT.1 hW (cf_e17 (i := 12) (by decide)) rfl u hxu (by omega) (by decide) dX6_playable_33 (hM u hu).1 ?_
      refine lv_imul hx hb dX6_playable_34 ?_
      refine lv_iload_n hx hb dX6_playable_35 rfl (lv_at hl 0 rfl) ?_
      refine lv_iadd hx hb dX6_playable_36 ?_
      refine cf_ildN (t0 := 0) (n := 20) (f := S 17 5) (v := (S 17 5 (4 * P 0 u 0 + 2))) hx hb hT.1 hW (cf_e17 (i := 5) (by decide)) rfl (4 * P 0 u 0 + 2) (cf_ix4 rfl rfl) (by have := (hM u hu).2; omega) (by decide) dX6_playable_37 rfl ?_
      refine lv_icmp_lt (tgt := 45) hx hb dX6_playable_38 (by decide) (fun c38_21 => ?_) (fun c38_21 => ?_)
      · refine lv_iconst (v := 0) hx hb dX6_playable_45 (by decide) ?_
        refine lv_istore_n (lv' := [(2, .int 0), (3, .int 2), (0, .ref (ad 6 0)), (1, .int x)]) hx hb dX6_playable_46 rfl hl (by decide) rfl (fun ls hl => ?_)
        refine lv_iinc (v := 3) (lv' := [(3, .int 3), (2, .int 0), (0, .ref (ad 6 0)), (1, .int x)]) hx hb dX6_playable_47 hl (k := 1) rfl (by decide) (by decide) rfl (fun ls hl => ?_)
        refine lv_goto (tgt := 4) hx hb dX6_playable_50 (by decide) ?_
        refine lv_iload_n hx hb dX6_playable_4 rfl (lv_at hl 0 rfl) ?_
        refine lv_iconst (v := 4) hx hb dX6_playable_5 (by decide) ?_
        refine lv_icmp_ge (tgt := 53) hx hb dX6_playable_6 (by decide) (fun c6_22 => (by first | exact absurd c6_22 (by decide) | exact absurd (by decide) c6_22)) (fun c6_22 => ?_)
        refine lv_iload_n hx hb dX6_playable_9 rfl (lv_at hl 1 rfl) ?_
        refine lv_if_eq (tgt := 45) hx hb dX6_playable_10 (by decide) (fun c10_23 => ?_) (fun c10_23 => (by first | exact absurd rfl c10_23 | exact absurd c10_23 rfl))
        refine lv_iconst (v := 0) hx hb dX6_playable_45 (by decide) ?_
        refine lv_istore_n (lv' := [(2, .int 0), (3, .int 3), (0, .ref (ad 6 0)), (1, .int x)]) hx hb dX6_playable_46 rfl hl (by decide) rfl (fun ls hl => ?_)
        refine lv_iinc (v := 4) (lv' := [(3, .int 4), (2, .int 0), (0, .ref (ad 6 0)), (1, .int x)]) hx hb dX6_playable_47 hl (k := 1) rfl (by decide) (by decide) rfl (fun ls hl => ?_)
        refine lv_goto (tgt := 4) hx hb dX6_playable_50 (by decide) ?_
        refine lv_iload_n hx hb dX6_playable_4 rfl (lv_at hl 0 rfl) ?_
        refine lv_iconst (v := 4) hx hb dX6_playable_5 (by decide) ?_
        refine lv_icmp_ge (tgt := 53) hx hb dX6_playable_6 (by decide) (fun c6_24 => ?_) (fun c6_24 => (by first | exact absurd (by decide) c6_24 | exact absurd c6_24 (by decide)))
        refine lv_iload_n hx hb dX6_playable_53 rfl (lv_at hl 1 rfl) ?_
        exact W.zret (v := 0) (ty := .boolean) hx hb hr (by rfl) (fun t9 ht9 hw9 => ⟨⟨0, (), rfl, Or.inr ⟨rfl, fun q => (Int32.not_le.mpr c38_21) (q 2 (by decide))⟩, cf_W.re ht9 hW⟩, hS.F ht9⟩) hS.2.2 dX6_playable_54
      · have g2 := Int32.not_lt.mp c38_21
        refine lv_iconst (v := 1) hx hb dX6_playable_41 (by decide) ?_
        refine lv_goto (tgt := 46) hx hb dX6_playable_42 (by decide) ?_
        refine lv_istore_n (lv' := [(2, .int 1), (3, .int 2), (0, .ref (ad 6 0)), (1, .int x)]) hx hb dX6_playable_46 rfl hl (by decide) rfl (fun ls hl => ?_)
        refine lv_iinc (v := 3) (lv' := [(3, .int 3), (2, .int 1), (0, .ref (ad 6 0)), (1, .int x)]) hx hb dX6_playable_47 hl (k := 1) rfl (by decide) (by decide) rfl (fun ls hl => ?_)
        refine lv_goto (tgt := 4) hx hb dX6_playable_50 (by decide) ?_
        refine lv_iload_n hx hb dX6_playable_4 rfl (lv_at hl 0 rfl) ?_
        refine lv_iconst (v := 4) hx hb dX6_playable_5 (by decide) ?_
        refine lv_icmp_ge (tgt := 53) hx hb dX6_playable_6 (by decide) (fun c6_25 => (by first | exact absurd c6_25 (by decide) | exact absurd (by decide) c6_25)) (fun c6_25 => ?_)
        refine lv_iload_n hx hb dX6_playable_9 rfl (lv_at hl 1 rfl) ?_
        refine lv_if_eq (tgt := 45) hx hb dX6_playable_10 (by decide) (fun c10_26 => (by first | exact absurd c10_26 (by decide) | exact absurd (by decide) c10_26)) (fun c10_26 => ?_)
        refine lv_aload_n hx hb dX6_playable_13 rfl (lv_at hl 2 rfl) ?_
        refine cf_get (v := .ref (ad 17 14)) (ci := 6) (C := RX6) (T := TX6) (N := 24) hx hb hts (fun _ h => List.mem_cons_of_mem _ (List.mem_append_right _ (h))) hown hT.1 hW cf_e6 rfl 14 (by decide) (hts (.fieldLink RX6 46 "GameCafeModel" "parts" "[I") (List.mem_of_getElem? (i := 1) rfl)) (fun _ h9 => h9) rfl dX6_playable_14 ?_
        refine lv_iconst (v := 4) hx hb dX6_playable_17 (by decide) ?_
        refine lv_iload_n hx hb dX6_playable_18 rfl (lv_at hl 3 rfl) ?_
        refine lv_imul hx hb dX6_playable_19 ?_
        refine lv_iload_n hx hb dX6_playable_20 rfl (lv_at hl 0 rfl) ?_
        refine lv_iadd hx hb dX6_playable_21 ?_
        refine cf_ildN (t0 := 0) (n := 60) (f := S 17 14) (v := (S 17 14 (4 * u + 3))) hx hb hT.1 hW (cf_e17 (i := 14) (by decide)) rfl (4 * u + 3) (cf_ix4 hxu rfl) (by omega) (by decide) dX6_playable_22 rfl ?_
        refine lv_aload_n hx hb dX6_playable_23 rfl (lv_at hl 2 rfl) ?_
        refine cf_get (v := .ref (ad 17 5)) (ci := 6) (C := RX6) (T := TX6) (N := 24) hx hb hts (fun _ h => List.mem_cons_of_mem _ (List.mem_append_right _ (h))) hown hT.1 hW cf_e6 rfl 5 (by decide) (hts (.fieldLink RX6 22 "GameCafeModel" "needs" "[I") (List.mem_of_getElem? (i := 2) rfl)) (fun _ h9 => h9) rfl dX6_playable_24 ?_
        refine lv_iconst (v := 4) hx hb dX6_playable_27 (by decide) ?_
        refine lv_aload_n hx hb dX6_playable_28 rfl (lv_at hl 2 rfl) ?_
        refine cf_get (v := .ref (ad 17 12)) (ci := 6) (C := RX6) (T := TX6) (N := 24) hx hb hts (fun _ h => List.mem_cons_of_mem _ (List.mem_append_right _ (h))) hown hT.1 hW cf_e6 rfl 12 (by decide) (hts (.fieldLink RX6 40 "GameCafeModel" "games" "[I") (List.mem_of_getElem? (i := 3) rfl)) (fun _ h9 => h9) rfl dX6_playable_29 ?_
        refine lv_iload_n hx hb dX6_playable_32 rfl (lv_at hl 3 rfl) ?_
        refine cf_ildN (t0 := 0) (n := 15) (f := S 17 12) (v := (nI (P 0 u 0))) hx hb hT.1 hW (cf_e17 (i := 12) (by decide)) rfl u hxu (by omega) (by decide) dX6_playable_33 (hM u hu).1 ?_
        refine lv_imul hx hb dX6_playable_34 ?_
        refine lv_iload_n hx hb dX6_playable_35 rfl (lv_at hl 0 rfl) ?_
        refine lv_iadd hx hb dX6_playable_36 ?_
        refine cf_ildN (t0 := 0) (n := 20) (f := S 17 5) (v := (S 17 5 (4 * P 0 u 0 + 3))) hx hb hT.1 hW (cf_e17 (i := 5) (by decide)) rfl (4 * P 0 u 0 + 3) (cf_ix4 rfl rfl) (by have := (hM u hu).2; omega) (by decide) dX6_playable_37 rfl ?_
        refine lv_icmp_lt (tgt := 45) hx hb dX6_playable_38 (by decide) (fun c38_27 => ?_) (fun c38_27 => ?_)
        · refine lv_iconst (v := 0) hx hb dX6_playable_45 (by decide) ?_
          refine lv_istore_n (lv' := [(2, .int 0), (3, .int 3), (0, .ref (ad 6 0)), (1, .int x)]) hx hb dX6_playable_46 rfl hl (by decide) rfl (fun ls hl => ?_)
          refine lv_iinc (v := 4) (lv' := [(3, .int 4), (2, .int 0), (0, .ref (ad 6 0)), (1, .int x)]) hx hb dX6_playable_47 hl (k := 1) rfl (by decide) (by decide) rfl (fun ls hl => ?_)
          refine lv_goto (tgt := 4) hx hb dX6_playable_50 (by decide) ?_
          refine lv_iload_n hx hb dX6_playable_4 rfl (lv_at hl 0 rfl) ?_
          refine lv_iconst (v := 4) hx hb dX6_playable_5 (by decide) ?_
          refine lv_icmp_ge (tgt := 53) hx hb dX6_playable_6 (by decide) (fun c6_28 => ?_) (fun c6_28 => (by first | exact absurd (by decide) c6_28 | exact absurd c6_28 (by decide)))
          refine lv_iload_n hx hb dX6_playable_53 rfl (lv_at hl 1 rfl) ?_
          exact W.zret (v := 0) (ty := .boolean) hx hb hr (by rfl) (fun t9 ht9 hw9 => ⟨⟨0, (), rfl, Or.inr ⟨rfl, fun q => (Int32.not_le.mpr c38_27) (q 3 (by decide))⟩, cf_W.re ht9 hW⟩, hS.F ht9⟩) hS.2.2 dX6_playable_54
        · have g3 := Int32.not_lt.mp c38_27
          refine lv_iconst (v := 1) hx hb dX6_playable_41 (by decide) ?_
          refine lv_goto (tgt := 46) hx hb dX6_playable_42 (by decide) ?_
          refine lv_istore_n (lv' := [(2, .int 1), (3, .int 3), (0, .ref (ad 6 0)), (1, .int x)]) hx hb dX6_playable_46 rfl hl (by decide) rfl (fun ls hl => ?_)
          refine lv_iinc (v := 4) (lv' := [(3, .int 4), (2, .int 1), (0, .ref (ad 6 0)), (1, .int x)]) hx hb dX6_playable_47 hl (k := 1) rfl (by decide) (by decide) rfl (fun ls hl => ?_)
          refine lv_goto (tgt := 4) hx hb dX6_playable_50 (by decide) ?_
          refine lv_iload_n hx hb dX6_playable_4 rfl (lv_at hl 0 rfl) ?_
          refine lv_iconst (v := 4) hx hb dX6_playable_5 (by decide) ?_
          refine lv_icmp_ge (tgt := 53) hx hb dX6_playable_6 (by decide) (fun c6_29 => ?_) (fun c6_29 => (by first | exact absurd (by decide) c6_29 | exact absurd c6_29 (by decide)))
          refine lv_iload_n hx hb dX6_playable_53 rfl (lv_at hl 1 rfl) ?_
          exact W.zret (v := 1) (ty := .boolean) hx hb hr (by rfl) (fun t9 ht9 hw9 => ⟨⟨1, (), rfl, Or.inl ⟨rfl, cf_all4 g0 g1 g2 g3⟩, cf_W.re ht9 hW⟩, hS.F ht9⟩) hS.2.2 dX6_playable_54
set_option maxHeartbeats 4000000 in
set_option maxRecDepth 100000 in
/-- X6_tableFor -/
theorem c_X6_tableFor (l : Launch) (D : va_G) (cT : Nat → ClassId) (z : Nat) (ad : cf_Ad) (nc ng : Nat) (S : cf_S) (P : cf_Pt) (O : Nat → Int64) (x : Int32) : Met l yX6_tableFor wsX6_tableFor ({ frames := 0, cells := 0, slots := 0, locals := 0 }) (va_Pc [.ref (ad 6 0), .int x] (cf_P D cT z (cf_E cT nc ng S P O ad) ad)) (cf_Qi D z (fun (r : Int32) (_ : Unit) => ∃ b : Option Nat, b = cf_best (cf_okTM S x) (cf_ltTM S) 6 ∧ r = cf_oi b) (fun _ => (cf_E cT nc ng S P O ad)) (fun _ => ad)) 0 0 (fun q => z ≤ q) := by
  refine Met.ofW (cc := cX6_tableFor) (maxL := 5) (ret := (some .int)) (by decide) rfl ?_
  intro p e s m args below meth c s₁ B hml hv
  obtain ⟨rfl, hW, hT⟩ := hv
  have hx := B.exec
  have hb := B.bytes
  have hr := B.returns
  have hts := atoms_spec (ws := wsX6_tableFor) B.pre
  have hown : s.vm.findClass RX6 = some m.cls := findClass_of_methodNamed B.named
  have hlocks := B.notSynchronized
  have hS : va_S (fun q => z ≤ q) s.heap s.heap [] := va_S.rf
  have hl := lv_entry ([.ref (ad 6 0), .int x]) (n := 5) (Nat.le_of_ble_eq_true rfl)
  rw [lg_entry_eq]
  generalize (lg_sl ([.ref (ad 6 0), .int x]) ++ List.replicate (5 - (lg_sl ([.ref (ad 6 0), .int x])).length) Slot.unset).toArray = ls at hl ⊢
  have hl : lv_has ls 5 [(0, .ref (ad 6 0)), (1, .int x)] := hl
  skip
  refine lv_iconst (v := (-1)) hx hb dX6_tableFor_0 (by decide) ?_
  refine lv_istore_n (lv' := [(2, .int (-1)), (0, .ref (ad 6 0)), (1, .int x)]) hx hb dX6_tableFor_1 rfl hl (by decide) rfl (fun ls hl => ?_)
  refine lv_iconst (v := 0) hx hb dX6_tableFor_2 (by decide) ?_
  refine lv_istore_n (lv' := [(3, .int 0), (2, .int (-1)), (0, .ref (ad 6 0)), (1, .int x)]) hx hb dX6_tableFor_3 rfl hl (by decide) rfl (fun ls hl => ?_)
  refine cf_loopW (β := Option Nat) (fun i H locs ls b => cf_W D z (cf_E cT nc ng S P O ad) ad H ∧ va_S (fun q => z ≤ q) s.heap H locs ∧ lv_has ls 5 [(0, .ref (ad 6 0)), (1, .int x), (2, .int (cf_oi b)), (3, .int (nI i))] ∧ b = cf_best (cf_okTM S x) (cf_ltTM S) i) 6 (fun H locs ls b hI => ?_) (fun i H locs ls b hi hI ih => ?_) none ⟨hW, hS, lv_sub hl [2, 3, 1, 0] rfl, rfl⟩
  · obtain ⟨hW, hS, hl, hI⟩ := hI
    refine lv_iload_n hx hb dX6_tableFor_4 rfl (lv_at hl 3 rfl) ?_
    refine lv_bipush (v := 6) hx hb dX6_tableFor_5 (by decide) ?_
    refine lv_icmp_ge (tgt := 73) hx hb dX6_tableFor_7 (by decide) (fun c7_1 => ?_) (fun c7_1 => (by first | exact absurd (nI_le (Nat.le_refl 6) (by decide)) c7_1 | exact absurd c7_1 (nI_le (Nat.le_refl 6) (by decide))))
    refine lv_iload_n hx hb dX6_tableFor_73 rfl (lv_at hl 2 rfl) ?_
    exact W.iret (v := (cf_oi b)) hx hb hr (fun t9 ht9 hw9 => ⟨⟨(cf_oi b), (), rfl, ⟨b, hI, rfl⟩, cf_W.re ht9 hW⟩, hS.F ht9⟩) hS.2.2 dX6_tableFor_74
  · obtain ⟨hW, hS, hl, hI⟩ := hI
    refine lv_iload_n hx hb dX6_tableFor_4 rfl (lv_at hl 3 rfl) ?_
    refine lv_bipush (v := 6) hx hb dX6_tableFor_5 (by decide) ?_
    refine lv_icmp_ge (tgt := 73) hx hb dX6_tableFor_7 (by decide) (fun c7_2 => (by first | exact absurd c7_2 (nI_ge hi (by decide)) | exact absurd (nI_ge hi (by decide)) c7_2)) (fun c7_2 => ?_)
    refine lv_aload_n hx hb dX6_tableFor_10 rfl (lv_at hl 0 rfl) ?_
    refine cf_get (v := .ref (ad 17 8)) (ci := 6) (C := RX6) (T := TX6) (N := 24) hx hb hts (fun _ h => List.mem_cons_of_mem _ (List.mem_append_right _ (h))) hown hT.1 hW cf_e6 rfl 8 (by decide) (hts (.fieldLink RX6 31 "GameCafeModel" "taken" "[I") (List.mem_of_getElem? (i := 1) rfl)) (fun _ h9 => h9) rfl dX6_tableFor_11 ?_
    refine lv_iload_n hx hb dX6_tableFor_14 rfl (lv_at hl 3 rfl) ?_
    refine cf_ildN (t0 := 0) (n := 6) (f := S 17 8) (v := (S 17 8 i)) hx hb hT.1 hW (cf_e17 (i := 8) (by decide)) rfl i rfl hi (by decide) dX6_tableFor_15 rfl ?_
    refine lv_if_ne (tgt := 33) hx hb dX6_tableFor_16 (by decide) (fun c16_3 => ?_) (fun c16_3 => ?_)
    · refine lv_iconst (v := 0) hx hb dX6_tableFor_33 (by decide) ?_
      refine lv_istore (lv' := [(4, .int 0), (0, .ref (ad 6 0)), (1, .int x), (2, .int (cf_oi b)), (3, .int (nI i))]) hx hb dX6_tableFor_34 hl (by decide) rfl (fun ls hl => ?_)
      refine lv_iload hx hb dX6_tableFor_36 (lv_at hl 0 rfl) ?_
      refine lv_if_eq (tgt := 65) hx hb dX6_tableFor_38 (by decide) (fun c38_4 => ?_) (fun c38_4 => (by first | exact absurd rfl c38_4 | exact absurd c38_4 rfl))
      refine lv_iload_n hx hb dX6_tableFor_65 rfl (lv_at hl 3 rfl) ?_
      refine lv_istore_n (lv' := [(2, .int (cf_oi b)), (4, .int 0), (0, .ref (ad 6 0)), (1, .int x), (3, .int (nI i))]) hx hb dX6_tableFor_66 rfl hl (by decide) rfl (fun ls hl => ?_)
      refine lv_iinc (v := (nI (i + 1))) (lv' := [(3, .int (nI (i + 1))), (2, .int (cf_oi b)), (4, .int 0), (0, .ref (ad 6 0)), (1, .int x)]) hx hb dX6_tableFor_67 hl (k := 4) rfl (nI_1 i) (by decide) rfl (fun ls hl => ?_)
      refine lv_goto (tgt := 4) hx hb dX6_tableFor_70 (by decide) ?_
      exact ih _ _ _ b ⟨hW, hS, lv_sub hl [3, 4, 1, 0] rfl, (hI.trans (cf_best_no (by simp [cf_okTM, c16_3])).symm)⟩
    · refine lv_aload_n hx hb dX6_tableFor_19 rfl (lv_at hl 0 rfl) ?_
      refine cf_get (v := .ref (ad 17 7)) (ci := 6) (C := RX6) (T := TX6) (N := 24) hx hb hts (fun _ h => List.mem_cons_of_mem _ (List.mem_append_right _ (h))) hown hT.1 hW cf_e6 rfl 7 (by decide) (hts (.fieldLink RX6 28 "GameCafeModel" "seats" "[I") (List.mem_of_getElem? (i := 2) rfl)) (fun _ h9 => h9) rfl dX6_tableFor_20 ?_
      refine lv_iload_n hx hb dX6_tableFor_23 rfl (lv_at hl 3 rfl) ?_
      refine cf_ildN (t0 := 0) (n := 6) (f := S 17 7) (v := (S 17 7 i)) hx hb hT.1 hW (cf_e17 (i := 7) (by decide)) rfl i rfl hi (by decide) dX6_tableFor_24 rfl ?_
      refine lv_iload_n hx hb dX6_tableFor_25 rfl (lv_at hl 1 rfl) ?_
      refine lv_icmp_lt (tgt := 33) hx hb dX6_tableFor_26 (by decide) (fun c26_5 => ?_) (fun c26_5 => ?_)
      · refine lv_iconst (v := 0) hx hb dX6_tableFor_33 (by decide) ?_
        refine lv_istore (lv' := [(4, .int 0), (0, .ref (ad 6 0)), (1, .int x), (2, .int (cf_oi b)), (3, .int (nI i))]) hx hb dX6_tableFor_34 hl (by decide) rfl (fun ls hl => ?_)
        refine lv_iload hx hb dX6_tableFor_36 (lv_at hl 0 rfl) ?_
        refine lv_if_eq (tgt := 65) hx hb dX6_tableFor_38 (by decide) (fun c38_6 => ?_) (fun c38_6 => (by first | exact absurd rfl c38_6 | exact absurd c38_6 rfl))
        refine lv_iload_n hx hb dX6_tableFor_65 rfl (lv_at hl 3 rfl) ?_
        refine lv_istore_n (lv' := [(2, .int (cf_oi b)), (4, .int 0), (0, .ref (ad 6 0)), (1, .int x), (3, .int (nI i))]) hx hb dX6_tableFor_66 rfl hl (by decide) rfl (fun ls hl => ?_)
        refine lv_iinc (v := (nI (i + 1))) (lv' := [(3, .int (nI (i + 1))), (2, .int (cf_oi b)), (4, .int 0), (0, .ref (ad 6 0)), (1, .int x)]) hx hb dX6_tableFor_67 hl (k := 4) rfl (nI_1 i) (by decide) rfl (fun ls hl => ?_)
        refine lv_goto (tgt := 4) hx hb dX6_tableFor_70 (by decide) ?_
        exact ih _ _ _ b ⟨hW, hS, lv_sub hl [3, 4, 1, 0] rfl, (hI.trans (cf_best_no (by simp [cf_okTM, c26_5])).symm)⟩
      · have hok : cf_okTM S x i = true := by simp [cf_okTM, c16_3, c26_5]
        refine lv_iconst (v := 1) hx hb dX6_tableFor_29 (by decide) ?_
        refine lv_goto (tgt := 34) hx hb dX6_tableFor_30 (by decide) ?_
        refine lv_istore (lv' := [(4, .int 1), (0, .ref (ad 6 0)), (1, .int x), (2, .int (cf_oi b)), (3, .int (nI i))]) hx hb dX6_tableFor_34 hl (by decide) rfl (fun ls hl => ?_)
        refine lv_iload hx hb dX6_tableFor_36 (lv_at hl 0 rfl) ?_
        refine lv_if_eq (tgt := 65) hx hb dX6_tableFor_38 (by decide) (fun c38_7 => (by first | exact absurd c38_7 (by decide) | exact absurd (by decide) c38_7)) (fun c38_7 => ?_)
        rcases b with _ | t
        · have hl : lv_has ls 5 [(4, .int 1), (0, .ref (ad 6 0)), (1, .int x), (2, .int (-1)), (3, .int (nI i))] := hl
          refine lv_iload_n hx hb dX6_tableFor_41 rfl (lv_at hl 3 rfl) ?_
          refine lv_iconst (v := (-1)) hx hb dX6_tableFor_42 (by decide) ?_
          refine lv_icmp_eq (tgt := 61) hx hb dX6_tableFor_43 (by decide) (fun c43_8 => ?_) (fun c43_8 => (by first | exact absurd rfl c43_8 | exact absurd c43_8 rfl))
          refine lv_iload_n hx hb dX6_tableFor_61 rfl (lv_at hl 4 rfl) ?_
          refine lv_goto (tgt := 66) hx hb dX6_tableFor_62 (by decide) ?_
          refine lv_istore_n (lv' := [(2, .int (nI i)), (4, .int 1), (0, .ref (ad 6 0)), (1, .int x), (3, .int (nI i))]) hx hb dX6_tableFor_66 rfl hl (by decide) rfl (fun ls hl => ?_)
          refine lv_iinc (v := (nI (i + 1))) (lv' := [(3, .int (nI (i + 1))), (2, .int (nI i)), (4, .int 1), (0, .ref (ad 6 0)), (1, .int x)]) hx hb dX6_tableFor_67 hl (k := 4) rfl (nI_1 i) (by decide) rfl (fun ls hl => ?_)
          refine lv_goto (tgt := 4) hx hb dX6_tableFor_70 (by decide) ?_
          exact ih _ _ _ (some i) ⟨hW, hS, lv_sub hl [3, 4, 1, 0] rfl, ((cf_best_first hok hI.symm).symm)⟩
        · have hl : lv_has ls 5 [(4, .int 1), (0, .ref (ad 6 0)), (1, .int x), (2, .int (nI t)), (3, .int (nI i))] := hl
          have ht6 : t < 6 := Nat.lt_trans (cf_best_in hI.symm).1 hi
          refine lv_iload_n hx hb dX6_tableFor_41 rfl (lv_at hl 3 rfl) ?_
          refine lv_iconst (v := (-1)) hx hb dX6_tableFor_42 (by decide) ?_
          refine lv_icmp_eq (tgt := 61) hx hb dX6_tableFor_43 (by decide) (fun c43_9 => (by first | exact absurd c43_9 (cf_nIm1 (by omega)) | exact absurd (cf_nIm1 (by omega)) c43_9)) (fun c43_9 => ?_)
          refine lv_aload_n hx hb dX6_tableFor_46 rfl (lv_at hl 1 rfl) ?_
          refine cf_get (v := .ref (ad 17 7)) (ci := 6) (C := RX6) (T := TX6) (N := 24) hx hb hts (fun _ h => List.mem_cons_of_mem _ (List.mem_append_right _ (h))) hown hT.1 hW cf_e6 rfl 7 (by decide) (hts (.fieldLink RX6 28 "GameCafeModel" "seats" "[I") (List.mem_of_getElem? (i := 2) rfl)) (fun _ h9 => h9) rfl dX6_tableFor_47 ?_
          refine lv_iload_n hx hb dX6_tableFor_50 rfl (lv_at hl 4 rfl) ?_
          refine cf_ildN (t0 := 0) (n := 6) (f := S 17 7) (v := (S 17 7 i)) hx hb hT.1 hW (cf_e17 (i := 7) (by decide)) rfl i rfl hi (by decide) dX6_tableFor_51 rfl ?_
          refine lv_aload_n hx hb dX6_tableFor_52 rfl (lv_at hl 1 rfl) ?_
          refine cf_get (v := .ref (ad 17 7)) (ci := 6) (C := RX6) (T := TX6) (N := 24) hx hb hts (fun _ h => List.mem_cons_of_mem _ (List.mem_append_right _ (h))) hown hT.1 hW cf_e6 rfl 7 (by decide) (hts (.fieldLink RX6 28 "GameCafeModel" "seats" "[I") (List.mem_of_getElem? (i := 2) rfl)) (fun _ h9 => h9) rfl dX6_tableFor_53 ?_
          refine lv_iload_n hx hb dX6_tableFor_56 rfl (lv_at hl 3 rfl) ?_
          refine cf_ildN (t0 := 0) (n := 6) (f := S 17 7) (v := (S 17 7 t)) hx hb hT.1 hW (cf_e17 (i := 7) (by decide)) rfl t rfl ht6 (by decide) dX6_tableFor_57 rfl ?_
          refine lv_icmp_ge (tgt := 65) hx hb dX6_tableFor_58 (by decide) (fun c58_10 => ?_) (fun c58_10 => ?_)
          · refine lv_iload_n hx hb dX6_tableFor_65 rfl (lv_at hl 3 rfl) ?_
            refine lv_istore_n (lv' := [(2, .int (nI t)), (4, .int 1), (0, .ref (ad 6 0)), (1, .int x), (3, .int (nI i))]) hx hb dX6_tableFor_66 rfl hl (by decide) rfl (fun ls hl => ?_)
            refine lv_iinc (v := (nI (i + 1))) (lv' := [(3, .int (nI (i + 1))), (2, .int (nI t)), (4, .int 1), (0, .ref (ad 6 0)), (1, .int x)]) hx hb dX6_tableFor_67 hl (k := 4) rfl (nI_1 i) (by decide) rfl (fun ls hl => ?_)
            refine lv_goto (tgt := 4) hx hb dX6_tableFor_70 (by decide) ?_
            exact ih _ _ _ (some t) ⟨hW, hS, lv_sub hl [3, 4, 1, 0] rfl, ((cf_best_old hI.symm (decide_eq_false (Int32.not_lt.mpr c58_10))).symm)⟩
          · refine lv_iload_n hx hb dX6_tableFor_61 rfl (lv_at hl 4 rfl) ?_
            refine lv_goto (tgt := 66) hx hb dX6_tableFor_62 (by decide) ?_
            refine lv_istore_n (lv' := [(2, .int (nI i)), (4, .int 1), (0, .ref (ad 6 0)), (1, .int x), (3, .int (nI i))]) hx hb dX6_tableFor_66 rfl hl (by decide) rfl (fun ls hl => ?_)
            refine lv_iinc (v := (nI (i + 1))) (lv' := [(3, .int (nI (i + 1))), (2, .int (nI i)), (4, .int 1), (0, .ref (ad 6 0)), (1, .int x)]) hx hb dX6_tableFor_67 hl (k := 4) rfl (nI_1 i) (by decide) rfl (fun ls hl => ?_)
            refine lv_goto (tgt := 4) hx hb dX6_tableFor_70 (by decide) ?_
            exact ih _ _ _ (some i) ⟨hW, hS, lv_sub hl [3, 4, 1, 0] rfl, ((cf_best_new hok hI.symm (decide_eq_true (Int32.not_le.mp c58_10))).symm)⟩
set_option maxHeartbeats 4000000 in
set_option maxRecDepth 100000 in
/-- X6_copyFor -/
theorem c_X6_copyFor (l : Launch) (D : va_G) (cT : Nat → ClassId) (z : Nat) (ad : cf_Ad) (nc ng : Nat) (S : cf_S) (P : cf_Pt) (O : Nat → Int64) (x : Int32) {gm : Nat} (hxg : x = nI gm) (hg : gm < 5) (hn : S 6 0 11 = nI nc) (hnc : nc ≤ 15) (hM : ∀ j, j < nc → S 17 12 j = nI (P 0 j 0) ∧ P 0 j 0 < 5) : Met l yX6_copyFor wsX6_copyFor ({ frames := 1, cells := 0, slots := 0, locals := 23 }) (va_Pc [.ref (ad 6 0), .int x] (cf_P D cT z (cf_E cT nc ng S P O ad) ad)) (cf_Qi D z (fun (r : Int32) (_ : Unit) => ∃ b : Option Nat, cf_fst (cf_okCM S P gm) nc b ∧ r = cf_oi b) (fun _ => (cf_E cT nc ng S P O ad)) (fun _ => ad)) 0 0 (fun q => z ≤ q) := by
  refine Met.ofW (cc := cX6_copyFor) (maxL := 3) (ret := (some .int)) (by decide) rfl ?_
  intro p e s m args below meth c s₁ B hml hv
  obtain ⟨rfl, hW, hT⟩ := hv
  have hx := B.exec
  have hb := B.bytes
  have hr := B.returns
  have hts := atoms_spec (ws := wsX6_copyFor) B.pre
  have hown : s.vm.findClass RX6 = some m.cls := findClass_of_methodNamed B.named
  have hlocks := B.notSynchronized
  have hS : va_S (fun q => z ≤ q) s.heap s.heap [] := va_S.rf
  have hl := lv_entry ([.ref (ad 6 0), .int x]) (n := 3) (Nat.le_of_ble_eq_true rfl)
  rw [lg_entry_eq]
  generalize (lg_sl ([.ref (ad 6 0), .int x]) ++ List.replicate (3 - (lg_sl ([.ref (ad 6 0), .int x])).length) Slot.unset).toArray = ls at hl ⊢
  have hl : lv_has ls 3 [(0, .ref (ad 6 0)), (1, .int x)] := hl
  skip
  refine lv_iconst (v := 0) hx hb dX6_copyFor_0 (by decide) ?_
  refine lv_istore_n (lv' := [(2, .int 0), (0, .ref (ad 6 0)), (1, .int x)]) hx hb dX6_copyFor_1 rfl hl (by decide) rfl (fun ls hl => ?_)
  refine cf_loopW (β := Unit) (fun i H locs ls b => cf_W D z (cf_E cT nc ng S P O ad) ad H ∧ va_S (fun q => z ≤ q) s.heap H locs ∧ lv_has ls 3 [(0, .ref (ad 6 0)), (1, .int x), (2, .int (nI i))] ∧ ∀ u, u < i → ¬ cf_okCM S P gm u) nc (fun H locs ls b hI => ?_) (fun i H locs ls b hi hI ih => ?_) () ⟨hW, hS, lv_sub hl [1, 2, 0] rfl, fun u hu => absurd hu (Nat.not_lt_zero u)⟩
  · obtain ⟨hW, hS, hl, hI⟩ := hI
    refine lv_iload_n hx hb dX6_copyFor_2 rfl (lv_at hl 2 rfl) ?_
    refine lv_aload_n hx hb dX6_copyFor_3 rfl (lv_at hl 0 rfl) ?_
    refine cf_get (v := .int (nI nc)) (ci := 6) (C := RX6) (T := TX6) (N := 24) hx hb hts (fun _ h => List.mem_cons_of_mem _ (List.mem_append_right _ (h))) hown hT.1 hW cf_e6 rfl 11 (by decide) (hts (.fieldLink RX6 78 "GameCafeModel" "copies" "I") (List.mem_of_getElem? (i := 1) rfl)) (fun _ h9 => h9) (by rw [hn]; rfl) dX6_copyFor_4 ?_
    refine lv_icmp_ge (tgt := 43) hx hb dX6_copyFor_7 (by decide) (fun c7_1 => ?_) (fun c7_1 => (by first | exact absurd (nI_le (Nat.le_refl nc) (by omega)) c7_1 | exact absurd c7_1 (nI_le (Nat.le_refl nc) (by omega))))
    refine lv_iload_n hx hb dX6_copyFor_43 rfl (lv_at hl 2 rfl) ?_
    refine lv_aload_n hx hb dX6_copyFor_44 rfl (lv_at hl 0 rfl) ?_
    refine cf_get (v := .int (nI nc)) (ci := 6) (C := RX6) (T := TX6) (N := 24) hx hb hts (fun _ h => List.mem_cons_of_mem _ (List.mem_append_right _ (h))) hown hT.1 hW cf_e6 rfl 11 (by decide) (hts (.fieldLink RX6 78 "GameCafeModel" "copies" "I") (List.mem_of_getElem? (i := 1) rfl)) (fun _ h9 => h9) (by rw [hn]; rfl) dX6_copyFor_45 ?_
    refine lv_icmp_ge (tgt := 55) hx hb dX6_copyFor_48 (by decide) (fun c48_2 => ?_) (fun c48_2 => (by first | exact absurd (nI_le (Nat.le_refl nc) (by omega)) c48_2 | exact absurd c48_2 (nI_le (Nat.le_refl nc) (by omega))))
    refine lv_iconst (v := (-1)) hx hb dX6_copyFor_55 (by decide) ?_
    exact W.iret (v := (-1)) hx hb hr (fun t9 ht9 hw9 => ⟨⟨(-1), (), rfl, ⟨none, Or.inl ⟨rfl, hI⟩, rfl⟩, cf_W.re ht9 hW⟩, hS.F ht9⟩) hS.2.2 dX6_copyFor_56
  · obtain ⟨hW, hS, hl, hI⟩ := hI
    refine lv_iload_n hx hb dX6_copyFor_2 rfl (lv_at hl 2 rfl) ?_
    refine lv_aload_n hx hb dX6_copyFor_3 rfl (lv_at hl 0 rfl) ?_
    refine cf_get (v := .int (nI nc)) (ci := 6) (C := RX6) (T := TX6) (N := 24) hx hb hts (fun _ h => List.mem_cons_of_mem _ (List.mem_append_right _ (h))) hown hT.1 hW cf_e6 rfl 11 (by decide) (hts (.fieldLink RX6 78 "GameCafeModel" "copies" "I") (List.mem_of_getElem? (i := 1) rfl)) (fun _ h9 => h9) (by rw [hn]; rfl) dX6_copyFor_4 ?_
    refine lv_icmp_ge (tgt := 43) hx hb dX6_copyFor_7 (by decide) (fun c7_3 => (by first | exact absurd c7_3 (nI_ge hi (by omega)) | exact absurd (nI_ge hi (by omega)) c7_3)) (fun c7_3 => ?_)
    refine lv_aload_n hx hb dX6_copyFor_10 rfl (lv_at hl 0 rfl) ?_
    refine cf_get (v := .ref (ad 17 12)) (ci := 6) (C := RX6) (T := TX6) (N := 24) hx hb hts (fun _ h => List.mem_cons_of_mem _ (List.mem_append_right _ (h))) hown hT.1 hW cf_e6 rfl 12 (by decide) (hts (.fieldLink RX6 40 "GameCafeModel" "games" "[I") (List.mem_of_getElem? (i := 2) rfl)) (fun _ h9 => h9) rfl dX6_copyFor_11 ?_
    refine lv_iload_n hx hb dX6_copyFor_14 rfl (lv_at hl 2 rfl) ?_
    refine cf_ildN (t0 := 0) (n := 15) (f := S 17 12) (v := (nI (P 0 i 0))) hx hb hT.1 hW (cf_e17 (i := 12) (by decide)) rfl i rfl (by omega) (by decide) dX6_copyFor_15 (hM i hi).1 ?_
    refine lv_iload_n hx hb dX6_copyFor_16 rfl (lv_at hl 1 rfl) ?_
    refine lv_icmp_ne (tgt := 37) hx hb dX6_copyFor_17 (by decide) (fun c17_4 => ?_) (fun c17_4 => ?_)
    · refine lv_iinc (v := (nI (i + 1))) (lv' := [(2, .int (nI (i + 1))), (0, .ref (ad 6 0)), (1, .int x)]) hx hb dX6_copyFor_37 hl (k := 2) rfl (nI_1 i) (by decide) rfl (fun ls hl => ?_)
      refine lv_goto (tgt := 2) hx hb dX6_copyFor_40 (by decide) ?_
      exact ih _ _ _ () ⟨hW, hS, lv_sub hl [1, 2, 0] rfl, (cf_snoc hI (fun q => c17_4 (by rw [q.1, hxg])))⟩
    · have hgi : P 0 i 0 = gm := cf_nI_inj (by have := (hM i hi).2; omega) (by omega) (c17_4.trans hxg)
      refine lv_aload_n hx hb dX6_copyFor_20 rfl (lv_at hl 0 rfl) ?_
      refine cf_get (v := .ref (ad 17 13)) (ci := 6) (C := RX6) (T := TX6) (N := 24) hx hb hts (fun _ h => List.mem_cons_of_mem _ (List.mem_append_right _ (h))) hown hT.1 hW cf_e6 rfl 13 (by decide) (hts (.fieldLink RX6 43 "GameCafeModel" "places" "[I") (List.mem_of_getElem? (i := 3) rfl)) (fun _ h9 => h9) rfl dX6_copyFor_21 ?_
      refine lv_iload_n hx hb dX6_copyFor_24 rfl (lv_at hl 2 rfl) ?_
      refine cf_ildN (t0 := 0) (n := 15) (f := S 17 13) (v := (S 17 13 i)) hx hb hT.1 hW (cf_e17 (i := 13) (by decide)) rfl i rfl (by omega) (by decide) dX6_copyFor_25 rfl ?_
      refine lv_if_ne (tgt := 37) hx hb dX6_copyFor_26 (by decide) (fun c26_5 => ?_) (fun c26_5 => ?_)
      · refine lv_iinc (v := (nI (i + 1))) (lv' := [(2, .int (nI (i + 1))), (0, .ref (ad 6 0)), (1, .int x)]) hx hb dX6_copyFor_37 hl (k := 2) rfl (nI_1 i) (by decide) rfl (fun ls hl => ?_)
        refine lv_goto (tgt := 2) hx hb dX6_copyFor_40 (by decide) ?_
        exact ih _ _ _ () ⟨hW, hS, lv_sub hl [1, 2, 0] rfl, (cf_snoc hI (fun q => c26_5 q.2.1))⟩
      · have h0 := c26_5
        refine lv_aload_n hx hb dX6_copyFor_29 rfl (lv_at hl 0 rfl) ?_
        refine lv_iload_n hx hb dX6_copyFor_30 rfl (lv_at hl 2 rfl) ?_
        refine va_calli (va_runV (As := [.int (nI i)]) (rest := []) ⟨hx, hb, hml, hown, hts⟩ (c_X6_playable l D cT z ad nc ng S P O (nI i) rfl hi hnc hM) (cwV 1 hts gX6_copyFor_X6_playable rfl rfl rfl (by decide +kernel) ⟨Nat.le_of_ble_eq_true rfl, Nat.le_of_ble_eq_true rfl⟩) (cf_preV (T := TX6) (N := 24) hT hS hW cf_e6 rfl) rfl rfl hl.1 rfl (lv_room (Nat.le_of_ble_eq_true rfl)) dX6_copyFor_31 ⟨Nat.le_of_ble_eq_true rfl, Nat.le_of_ble_eq_true rfl⟩) hS (fun _ _ h => h) (fun _ h => h) (fun r6 ur6 t9 H locs ht hvm hw hW hz1 hk1 hS => ?_)
        have hW := cf_W.er ht hW
        have hpl := hw
        refine lv_if_ne (tgt := 43) hx hb dX6_copyFor_34 (by decide) (fun c34_7 => ?_) (fun c34_7 => ?_)
        · have hpl := hpl.t c34_7
          refine lv_iload_n hx hb dX6_copyFor_43 rfl (lv_at hl 2 rfl) ?_
          refine lv_aload_n hx hb dX6_copyFor_44 rfl (lv_at hl 0 rfl) ?_
          refine cf_get (v := .int (nI nc)) (ci := 6) (C := RX6) (T := TX6) (N := 24) hx hb hts (fun _ h => List.mem_cons_of_mem _ (List.mem_append_right _ (h))) hown hT.1 hW cf_e6 rfl 11 (by decide) (hts (.fieldLink RX6 78 "GameCafeModel" "copies" "I") (List.mem_of_getElem? (i := 1) rfl)) (fun _ h9 => h9) (by rw [hn]; rfl) dX6_copyFor_45 ?_
          refine lv_icmp_ge (tgt := 55) hx hb dX6_copyFor_48 (by decide) (fun c48_8 => (by first | exact absurd c48_8 (nI_ge hi (by omega)) | exact absurd (nI_ge hi (by omega)) c48_8)) (fun c48_8 => ?_)
          refine lv_iload_n hx hb dX6_copyFor_51 rfl (lv_at hl 2 rfl) ?_
          refine lv_goto (tgt := 56) hx hb dX6_copyFor_52 (by decide) ?_
          exact W.iret (v := (nI i)) hx hb hr (fun t9 ht9 hw9 => ⟨⟨(nI i), (), rfl, ⟨some i, Or.inr ⟨i, rfl, hi, ⟨hgi, h0, hpl⟩, hI⟩, rfl⟩, cf_W.re ht9 hW⟩, hS.F ht9⟩) hS.2.2 dX6_copyFor_56
        · have hpl := hpl.f c34_7
          refine lv_iinc (v := (nI (i + 1))) (lv' := [(2, .int (nI (i + 1))), (0, .ref (ad 6 0)), (1, .int x)]) hx hb dX6_copyFor_37 hl (k := 2) rfl (nI_1 i) (by decide) rfl (fun ls hl => ?_)
          refine lv_goto (tgt := 2) hx hb dX6_copyFor_40 (by decide) ?_
          exact ih _ _ _ () ⟨hW, hS, lv_sub hl [1, 2, 0] rfl, (cf_snoc hI (fun q => hpl q.2.2))⟩
set_option maxHeartbeats 4000000 in
set_option maxRecDepth 100000 in
/-- X6_teacherFor -/
theorem c_X6_teacherFor (l : Launch) (D : va_G) (cT : Nat → ClassId) (z : Nat) (ad : cf_Ad) (nc ng : Nat) (S : cf_S) (P : cf_Pt) (O : Nat → Int64) (x : Int32) {gm : Nat} (hxg : x = nI gm) (hg : gm < 5) : Met l yX6_teacherFor wsX6_teacherFor ({ frames := 0, cells := 0, slots := 0, locals := 0 }) (va_Pc [.ref (ad 6 0), .int x] (cf_P D cT z (cf_E cT nc ng S P O ad) ad)) (cf_Qi D z (fun (r : Int32) (_ : Unit) => ∃ b : Option Nat, cf_fst (cf_okSM S gm) 3 b ∧ r = cf_oi b) (fun _ => (cf_E cT nc ng S P O ad)) (fun _ => ad)) 0 0 (fun q => z ≤ q) := by
  refine Met.ofW (cc := cX6_teacherFor) (maxL := 3) (ret := (some .int)) (by decide) rfl ?_
  intro p e s m args below meth c s₁ B hml hv
  obtain ⟨rfl, hW, hT⟩ := hv
  have hx := B.exec
  have hb := B.bytes
  have hr := B.returns
  have hts := atoms_spec (ws := wsX6_teacherFor) B.pre
  have hown : s.vm.findClass RX6 = some m.cls := findClass_of_methodNamed B.named
  have hlocks := B.notSynchronized
  have hS : va_S (fun q => z ≤ q) s.heap s.heap [] := va_S.rf
  have hl := lv_entry ([.ref (ad 6 0), .int x]) (n := 3) (Nat.le_of_ble_eq_true rfl)
  rw [lg_entry_eq]
  generalize (lg_sl ([.ref (ad 6 0), .int x]) ++ List.replicate (3 - (lg_sl ([.ref (ad 6 0), .int x])).length) Slot.unset).toArray = ls at hl ⊢
  have hl : lv_has ls 3 [(0, .ref (ad 6 0)), (1, .int x)] := hl
  skip
  refine lv_iconst (v := 0) hx hb dX6_teacherFor_0 (by decide) ?_
  refine lv_istore_n (lv' := [(2, .int 0), (0, .ref (ad 6 0)), (1, .int x)]) hx hb dX6_teacherFor_1 rfl hl (by decide) rfl (fun ls hl => ?_)
  refine cf_loopW (β := Unit) (fun i H locs ls b => cf_W D z (cf_E cT nc ng S P O ad) ad H ∧ va_S (fun q => z ≤ q) s.heap H locs ∧ lv_has ls 3 [(0, .ref (ad 6 0)), (1, .int x), (2, .int (nI i))] ∧ ∀ u, u < i → ¬ cf_okSM S gm u) 3 (fun H locs ls b hI => ?_) (fun i H locs ls b hi hI ih => ?_) () ⟨hW, hS, lv_sub hl [1, 2, 0] rfl, fun u hu => absurd hu (Nat.not_lt_zero u)⟩
  · obtain ⟨hW, hS, hl, hI⟩ := hI
    refine lv_iload_n hx hb dX6_teacherFor_2 rfl (lv_at hl 2 rfl) ?_
    refine lv_iconst (v := 3) hx hb dX6_teacherFor_3 (by decide) ?_
    refine lv_icmp_ge (tgt := 40) hx hb dX6_teacherFor_4 (by decide) (fun c4_1 => ?_) (fun c4_1 => (by first | exact absurd (by decide) c4_1 | exact absurd c4_1 (by decide)))
    refine lv_iload_n hx hb dX6_teacherFor_40 rfl (lv_at hl 2 rfl) ?_
    refine lv_iconst (v := 3) hx hb dX6_teacherFor_41 (by decide) ?_
    refine lv_icmp_ge (tgt := 49) hx hb dX6_teacherFor_42 (by decide) (fun c42_2 => ?_) (fun c42_2 => (by first | exact absurd (by decide) c42_2 | exact absurd c42_2 (by decide)))
    refine lv_iconst (v := (-1)) hx hb dX6_teacherFor_49 (by decide) ?_
    exact W.iret (v := (-1)) hx hb hr (fun t9 ht9 hw9 => ⟨⟨(-1), (), rfl, ⟨none, Or.inl ⟨rfl, hI⟩, rfl⟩, cf_W.re ht9 hW⟩, hS.F ht9⟩) hS.2.2 dX6_teacherFor_50
  · obtain ⟨hW, hS, hl, hI⟩ := hI
    refine lv_iload_n hx hb dX6_teacherFor_2 rfl (lv_at hl 2 rfl) ?_
    refine lv_iconst (v := 3) hx hb dX6_teacherFor_3 (by decide) ?_
    refine lv_icmp_ge (tgt := 40) hx hb dX6_teacherFor_4 (by decide) (fun c4_3 => (by first | exact absurd c4_3 (nI_ge hi (by decide)) | exact absurd (nI_ge hi (by decide)) c4_3)) (fun c4_3 => ?_)
    refine lv_aload_n hx hb dX6_teacherFor_7 rfl (lv_at hl 0 rfl) ?_
    refine cf_get (v := .ref (ad 17 9)) (ci := 6) (C := RX6) (T := TX6) (N := 24) hx hb hts (fun _ h => List.mem_cons_of_mem _ (List.mem_append_right _ (h))) hown hT.1 hW cf_e6 rfl 9 (by decide) (hts (.fieldLink RX6 34 "GameCafeModel" "ignorant" "[I") (List.mem_of_getElem? (i := 1) rfl)) (fun _ h9 => h9) rfl dX6_teacherFor_8 ?_
    refine lv_iconst (v := 5) hx hb dX6_teacherFor_11 (by decide) ?_
    refine lv_iload_n hx hb dX6_teacherFor_12 rfl (lv_at hl 2 rfl) ?_
    refine lv_imul hx hb dX6_teacherFor_13 ?_
    refine lv_iload_n hx hb dX6_teacherFor_14 rfl (lv_at hl 1 rfl) ?_
    refine lv_iadd hx hb dX6_teacherFor_15 ?_
    refine cf_ildN (t0 := 0) (n := 15) (f := S 17 9) (v := (S 17 9 (5 * i + gm))) hx hb hT.1 hW (cf_e17 (i := 9) (by decide)) rfl (5 * i + gm) (cf_ix5 rfl hxg) (by omega) (by decide) dX6_teacherFor_16 rfl ?_
    refine lv_iconst (v := 1) hx hb dX6_teacherFor_17 (by decide) ?_
    refine lv_icmp_eq (tgt := 34) hx hb dX6_teacherFor_18 (by decide) (fun c18_4 => ?_) (fun c18_4 => ?_)
    · refine lv_iinc (v := (nI (i + 1))) (lv' := [(2, .int (nI (i + 1))), (0, .ref (ad 6 0)), (1, .int x)]) hx hb dX6_teacherFor_34 hl (k := 2) rfl (nI_1 i) (by decide) rfl (fun ls hl => ?_)
      refine lv_goto (tgt := 2) hx hb dX6_teacherFor_37 (by decide) ?_
      exact ih _ _ _ () ⟨hW, hS, lv_sub hl [1, 2, 0] rfl, (cf_snoc hI (fun q => q.1 c18_4))⟩
    · have h1 := c18_4
      refine lv_aload_n hx hb dX6_teacherFor_21 rfl (lv_at hl 0 rfl) ?_
      refine cf_get (v := .ref (ad 17 10)) (ci := 6) (C := RX6) (T := TX6) (N := 24) hx hb hts (fun _ h => List.mem_cons_of_mem _ (List.mem_append_right _ (h))) hown hT.1 hW cf_e6 rfl 10 (by decide) (hts (.fieldLink RX6 37 "GameCafeModel" "until" "[I") (List.mem_of_getElem? (i := 2) rfl)) (fun _ h9 => h9) rfl dX6_teacherFor_22 ?_
      refine lv_iload_n hx hb dX6_teacherFor_25 rfl (lv_at hl 2 rfl) ?_
      refine cf_ildN (t0 := 0) (n := 3) (f := S 17 10) (v := (S 17 10 i)) hx hb hT.1 hW (cf_e17 (i := 10) (by decide)) rfl i rfl hi (by decide) dX6_teacherFor_26 rfl ?_
      refine lv_aload_n hx hb dX6_teacherFor_27 rfl (lv_at hl 0 rfl) ?_
      refine cf_get (v := .int (S 6 0 0)) (ci := 6) (C := RX6) (T := TX6) (N := 24) hx hb hts (fun _ h => List.mem_cons_of_mem _ (List.mem_append_right _ (h))) hown hT.1 hW cf_e6 rfl 0 (by decide) (hts (.fieldLink RX6 98 "GameCafeModel" "minute" "I") (List.mem_of_getElem? (i := 3) rfl)) (fun _ h9 => h9) rfl dX6_teacherFor_28 ?_
      refine lv_icmp_le (tgt := 40) hx hb dX6_teacherFor_31 (by decide) (fun c31_5 => ?_) (fun c31_5 => ?_)
      · have h2 := c31_5
        refine lv_iload_n hx hb dX6_teacherFor_40 rfl (lv_at hl 2 rfl) ?_
        refine lv_iconst (v := 3) hx hb dX6_teacherFor_41 (by decide) ?_
        refine lv_icmp_ge (tgt := 49) hx hb dX6_teacherFor_42 (by decide) (fun c42_6 => (by first | exact absurd c42_6 (nI_ge hi (by decide)) | exact absurd (nI_ge hi (by decide)) c42_6)) (fun c42_6 => ?_)
        refine lv_iload_n hx hb dX6_teacherFor_45 rfl (lv_at hl 2 rfl) ?_
        refine lv_goto (tgt := 50) hx hb dX6_teacherFor_46 (by decide) ?_
        exact W.iret (v := (nI i)) hx hb hr (fun t9 ht9 hw9 => ⟨⟨(nI i), (), rfl, ⟨some i, Or.inr ⟨i, rfl, hi, ⟨h1, h2⟩, hI⟩, rfl⟩, cf_W.re ht9 hW⟩, hS.F ht9⟩) hS.2.2 dX6_teacherFor_50
      · refine lv_iinc (v := (nI (i + 1))) (lv' := [(2, .int (nI (i + 1))), (0, .ref (ad 6 0)), (1, .int x)]) hx hb dX6_teacherFor_34 hl (k := 2) rfl (nI_1 i) (by decide) rfl (fun ls hl => ?_)
        refine lv_goto (tgt := 2) hx hb dX6_teacherFor_37 (by decide) ?_
        exact ih _ _ _ () ⟨hW, hS, lv_sub hl [1, 2, 0] rfl, (cf_snoc hI (fun q => c31_5 q.2))⟩
end
