section
-- ===== PART A: goes FIRST, ahead of the names: the tables' words, and 'selects' of the private methods out of them =====
/-- a private method of a class that the tables say can be made, by its rows of tables_1 -/
def lw_okq (q : MethodName × Nat) : Prop := (q.1.cls ≠ "java/lang/invoke/MethodHandle" ∧ q.1.cls ≠ "java/lang/invoke/VarHandle") ∧ Cond.instantiable q.1.cls q.2 ∈ tables_1 ∧ Cond.privateMethod q.1 ∈ tables_1 ∧ Cond.instanceMethod q.1 ∈ tables_1
theorem lw_p0 : lw_okq (⟨"java/lang/Throwable", "fillInStackTrace", "(I)Ljava/lang/Throwable;"⟩, 6) := ⟨⟨by decide +kernel, by decide +kernel⟩, List.mem_of_getElem? (i := 214) (by decide +kernel), List.mem_of_getElem? (i := 212) (by decide +kernel), List.mem_of_getElem? (i := 213) (by decide +kernel)⟩
theorem lw_p1 : lw_okq (⟨"Warpyard", "needTrain", "(I)V"⟩, 8) := ⟨⟨by decide +kernel, by decide +kernel⟩, List.mem_of_getElem? (i := 15) (by decide +kernel), List.mem_of_getElem? (i := 273) (by decide +kernel), List.mem_of_getElem? (i := 274) (by decide +kernel)⟩
theorem lw_p2 : lw_okq (⟨"Warpyard$Trains", "step", "(ILWarpyard$Tracks;LWarpyard$Bookings;I)Z"⟩, 5) := ⟨⟨by decide +kernel, by decide +kernel⟩, List.mem_of_getElem? (i := 34) (by decide +kernel), List.mem_of_getElem? (i := 328) (by decide +kernel), List.mem_of_getElem? (i := 329) (by decide +kernel)⟩
theorem lw_p3 : lw_okq (⟨"Warpyard$Tracks", "rightOf", "(I)I"⟩, 1) := ⟨⟨by decide +kernel, by decide +kernel⟩, List.mem_of_getElem? (i := 23) (by decide +kernel), List.mem_of_getElem? (i := 336) (by decide +kernel), List.mem_of_getElem? (i := 337) (by decide +kernel)⟩
theorem lw_p4 : lw_okq (⟨"Warpyard$Tracks", "leftOf", "(I)I"⟩, 1) := ⟨⟨by decide +kernel, by decide +kernel⟩, List.mem_of_getElem? (i := 23) (by decide +kernel), List.mem_of_getElem? (i := 340) (by decide +kernel), List.mem_of_getElem? (i := 341) (by decide +kernel)⟩
theorem lw_p5 : lw_okq (⟨"Warpyard$Bookings", "isIn", "(II)Z"⟩, 6) := ⟨⟨by decide +kernel, by decide +kernel⟩, List.mem_of_getElem? (i := 62) (by decide +kernel), List.mem_of_getElem? (i := 350) (by decide +kernel), List.mem_of_getElem? (i := 351) (by decide +kernel)⟩
theorem lw_p6 : lw_okq (⟨"Warpyard", "needRoomIn", "(I)V"⟩, 8) := ⟨⟨by decide +kernel, by decide +kernel⟩, List.mem_of_getElem? (i := 15) (by decide +kernel), List.mem_of_getElem? (i := 390) (by decide +kernel), List.mem_of_getElem? (i := 391) (by decide +kernel)⟩
theorem lw_p7 : lw_okq (⟨"Warpyard$Waggons", "append", "(II)V"⟩, 4) := ⟨⟨by decide +kernel, by decide +kernel⟩, List.mem_of_getElem? (i := 90) (by decide +kernel), List.mem_of_getElem? (i := 402) (by decide +kernel), List.mem_of_getElem? (i := 403) (by decide +kernel)⟩
theorem lw_p8 : lw_okq (⟨"Warpyard", "sidingUnder", "(I)I"⟩, 8) := ⟨⟨by decide +kernel, by decide +kernel⟩, List.mem_of_getElem? (i := 15) (by decide +kernel), List.mem_of_getElem? (i := 424) (by decide +kernel), List.mem_of_getElem? (i := 425) (by decide +kernel)⟩
theorem lw_p9 : lw_okq (⟨"Warpyard", "needBooking", "(I)V"⟩, 8) := ⟨⟨by decide +kernel, by decide +kernel⟩, List.mem_of_getElem? (i := 15) (by decide +kernel), List.mem_of_getElem? (i := 493) (by decide +kernel), List.mem_of_getElem? (i := 494) (by decide +kernel)⟩
def lw_privs_1 : List (MethodName × Nat) := [(⟨"java/lang/Throwable", "fillInStackTrace", "(I)Ljava/lang/Throwable;"⟩, 6), (⟨"Warpyard", "needTrain", "(I)V"⟩, 8), (⟨"Warpyard$Trains", "step", "(ILWarpyard$Tracks;LWarpyard$Bookings;I)Z"⟩, 5), (⟨"Warpyard$Tracks", "rightOf", "(I)I"⟩, 1), (⟨"Warpyard$Tracks", "leftOf", "(I)I"⟩, 1), (⟨"Warpyard$Bookings", "isIn", "(II)Z"⟩, 6), (⟨"Warpyard", "needRoomIn", "(I)V"⟩, 8), (⟨"Warpyard$Waggons", "append", "(II)V"⟩, 4), (⟨"Warpyard", "sidingUnder", "(I)I"⟩, 8), (⟨"Warpyard", "needBooking", "(I)V"⟩, 8)]
theorem lw_r1 : ∀ q ∈ lw_privs_1, lw_okq q := List.forall_mem_cons.mpr ⟨lw_p0, List.forall_mem_cons.mpr ⟨lw_p1, List.forall_mem_cons.mpr ⟨lw_p2, List.forall_mem_cons.mpr ⟨lw_p3, List.forall_mem_cons.mpr ⟨lw_p4, List.forall_mem_cons.mpr ⟨lw_p5, List.forall_mem_cons.mpr ⟨lw_p6, List.forall_mem_cons.mpr ⟨lw_p7, List.forall_mem_cons.mpr ⟨lw_p8, List.forall_mem_cons.mpr ⟨lw_p9, fun _ h => absurd h List.not_mem_nil⟩⟩⟩⟩⟩⟩⟩⟩⟩⟩
def lw_privs : List (MethodName × Nat) := lw_privs_1
def lw_tbl : List Cond := k2_sels lw_privs ++ tables_1
theorem lw_privs_ok : ∀ q ∈ lw_privs, lw_okq q := lw_r1
-- ===== end of PART A; then your names; then what follows =====
end
section
/-! ===== BEGIN words of one list among another's, by their places ===== -/
theorem goodIn_r {big : List Cond} (ws : List Cond) (ps : List Nat) (hp : ws = ps.filterMap (fun i => big[i]?)) (h : ws.all goodWord = true) : GoodIn big ws := by
  intro w hw
  have h1 := List.all_eq_true.mp h w hw
  rw [hp] at hw
  obtain ⟨i, -, hi⟩ := List.mem_filterMap.mp hw
  have hm : w ∈ big := by first | exact List.mem_of_getElem? hi | exact List.getElem?_mem hi
  exact ⟨hm, good_of_word h1⟩
theorem goodIn_app {big a b : List Cond} (ha : GoodIn big a) (hb : GoodIn big b) : GoodIn big (a ++ b) := fun w h => (List.mem_append.mp h).elim (ha w) (hb w)
theorem goodIn_ca {big a b : List Cond} {c : Cond} (ha : GoodIn big (c :: a)) (hb : GoodIn big b) : GoodIn big (c :: (a ++ b)) := fun w h => (List.mem_cons.mp h).elim (fun e => ha w (List.mem_cons.mpr (Or.inl e))) (fun h => (List.mem_append.mp h).elim (fun h => ha w (List.mem_cons.mpr (Or.inr h))) (hb w))
theorem goodIn_sub {big ws : List Cond} (hm : ∀ w ∈ ws, w ∈ big) (h : ws.all goodWord = true) : GoodIn big ws := fun w hw => ⟨hm w hw, good_of_word (List.all_eq_true.mp h w hw)⟩
/-! ===== END ===== -/

/-! ===== BEGIN exceptions that leave a method, and their catching by the caller (launches without stack traces) ===== -/
section VXA
/-! The laws vx_back, vx_callV, vx_callS, vx_callSW, vx_throw0, vx_throwS follow proofs of the library, with one case more: JvmDerived/Free/Laws.lean (Back.of_free), Shelf42/LK1.lean (callV, callS), Shelf/KitTraced.lean (throwNew0V, throwNewS). -/
/-- where a method has thrown q: the class by its name, the cell, what was written, the world -/
def vx_T (XC : String → State → State → Prop) (st : State) (q : Addr) (t : State) (mc ms : Nat) (free : Addr → Prop) : Prop :=
  ∃ (E : String) (ce : Cell) (L : List Loc), XC E st t ∧ t.heap[q]? = some ce ∧ ce.vm = .none ∧ st.vm.findClass E = some ce.cls ∧ st.WarmedH t.vm ∧ st.sameButNew ({ t with vm := st.vm } : State) L mc ms ∧ ∀ z ∈ L, free z.base
def vx_Q (Qc : Array Value → State → Outcome → State → Prop) (XC : String → State → State → Prop) (mc ms : Nat) (free : Addr → Prop) : Array Value → State → Outcome → State → Prop := fun a st o t =>
  (Qc a st o t ∧ ∃ L, FrameEnd st o t L mc ms ∧ ∀ q ∈ L, free q.base) ∨ ∃ q, o = .threw q ∧ vx_T XC st q t mc ms free
/-- a callee that returns or throws -/
def vx_Met (l : Launch) (y : MethodName) (ws : List Cond) (rm : Room) (Pc : Array Value → State → Prop) (Qc : Array Value → State → Outcome → State → Prop) (XC : String → State → State → Prop) (mc ms : Nat) (free : Addr → Prop) : Prop :=
  MetFree l y (headSpec ws rm) Pc (fun _ _ _ _ _ => True) (vx_Q Qc XC mc ms free)
def vx_Post (XC : String → State → State → Prop) (mc ms : Nat) (free : Addr → Prop) : Pt → Array Value → Addr → Pt → Prop := fun A a q B =>
  ∃ (g : JFrame) (mk : MethodId) (t : State) (L : List Loc) (E : String) (ce : Cell), B.U.heap = t.heap ∧ B.U.vm = t.vm ∧ XC E (A.U.calling g mk a) t ∧ t.heap[q]? = some ce ∧ ce.vm = .none ∧ A.U.vm.findClass E = some ce.cls ∧ B.locs = A.locs ++ L ∧ (∀ z ∈ L, free z.base) ∧ B.cells = A.cells + mc ∧ B.slots = A.slots + ms
def vx_Back (l : Launch) (R : Room) (p : Program) (e : Env) (below : List Frame) (s : State) (sargs : Array Value) (y : MethodName) (len W9 : Nat)
    (Pre : Pt → Array Value → Prop) (Post : Pt → Array Value → Option Value → Pt → Prop) (PostX : Pt → Array Value → Addr → Pt → Prop) : Prop :=
  ∀ (m : MethodId) (meth : Method) (c : Code) (A : Pt) (g : JFrame) (ig : Instr) (mk : MethodId) (a : Array Value),
    Stand p l e R s m sargs below meth c A.U A.locs A.cells A.slots → g.method = m → g.locals.size = c.maxLocals → decode c.code g.pc = .ok (ig, len) →
    2 * g.monitorRoom + (g.stack.map fun v => v.category).sum ≤ W9 → A.U.methodNamed? y = some mk → Pre A a →
    (∃ (v : Option Value) (B : Pt), Stand p l e R s m sargs below meth c B.U B.locs B.cells B.slots ∧ Post A a v B ∧
      Steps p.tables e below (doInvoke e (A.U.setTop g) [] mk a).1 (B.U.setTop { g with pc := g.pc + len, stack := v.toList ++ g.stack })) ∨
    (∃ (q : Addr) (B : Pt), Stand p l e R s m sargs below meth c B.U B.locs B.cells B.slots ∧ PostX A a q B ∧
      Steps p.tables e below (doInvoke e (A.U.setTop g) [] mk a).1 ((B.U.setTop g).pushFrame (.throwing q)))
section Payer
variable {l : Launch} {R : Room} {p : Program} {e : Env} {below : List Frame} {s : State} {sargs : Array Value} {y : MethodName} {len W9 : Nat}
theorem vx_back {ws : List Cond} {rm : Room} {Pc : Array Value → State → Prop} {Qc : Array Value → State → Outcome → State → Prop} {XC : String → State → State → Prop} {mc ms : Nat} {free : Addr → Prop} {bytes : ByteArray} {maxL : Nat} {ret : Option FieldType}
    (hM : vx_Met l y ws rm Pc Qc XC mc ms free) (hblind : FrameBlind Pc) (hrc : rm.cells = mc) (hrs : rm.slots = ms)
    (hframes : rm.frames + 1 ≤ R.frames) (hlocals : W9 + (maxL + 11) + rm.locals ≤ R.locals)
    (hws : ∀ w ∈ ws, ∀ a' U, s.WarmedH U.vm → w.before a' U = true) (hcode : Cond.code y bytes maxL ret ∈ ws) (hinit : ∀ a' U, s.WarmedH U.vm → (Cond.initialized y.cls).before a' U = true) :
    vx_Back l R p e below s sargs y len W9 (PreOf R mc ms Pc) (PostOf Qc mc ms free) (vx_Post XC mc ms free) := by
  intro m meth c A g ig mk a X hg hsize hdg hW hn hp
  have h1 : (headSpec ws rm).pre.before a A.U = true := atoms_intro fun w hw => hws w hw _ _ X.warmed
  have h2 : (Cond.code y bytes maxL ret).before a A.U = true := hws _ hcode _ _ X.warmed
  have h3 : (Cond.initialized y.cls).before a A.U = true := hinit _ _ X.warmed
  have h4 : A.cells + (headSpec ws rm).room.cells ≤ R.cells := by rw [show (headSpec ws rm).room.cells = mc from hrc]; exact hp.1
  have h5 : A.slots + (headSpec ws rm).room.slots ≤ R.slots := by rw [show (headSpec ws rm).room.slots = ms from hrs]; exact hp.2.1
  have hPc : Pc a (A.U.calling g mk a) := hblind _ _ _ _ hp.2.2
  obtain ⟨U, Ls, c0, s0⟩ := A
  dsimp only [Pt.U, Pt.locs, Pt.cells, Pt.slots] at h1 h2 h3 h4 h5 X hn hPc ⊢
  obtain ⟨methY, cY, hmY, hcY, -, hlY, -, -, -, -⟩ := Cond.code_spec hn h2
  obtain ⟨kY, hkY, -⟩ := className_of_methodNamed hn
  have hinitY : kY.init = .initialized := Cond.initialized_spec (findClass_of_methodNamed hn) hkY h3
  have h : At U g.method c below := by rw [hg]; exact X.here
  have hlocals9 : W9 + (maxL + 11) + (headSpec ws rm).room.locals ≤ R.locals := hlocals
  have happ : (headSpec ws rm).appliesLoose y e.platform (U.calling g mk a) = true :=
    Spec.appliesLoose_calling (g := g) h hdg hn hkY hinitY
      (X.room_calling (g := g) (R' := (headSpec ws rm).room) hsize hmY hcY hframes (by rw [hlY]; omega) h4 h5) h1
  obtain ⟨mid, hmid⟩ := h.above
  have hfr : (U.setTop g).frames = (.java g :: mid) ++ below := by rw [State.frames_setTop' g h.top, hmid]; rfl
  obtain ⟨o, s₂, hsteps, -, hend, hq⟩ := Steps.callFree hM p X.admits X.cas X.clock (acts := []) hfr happ hPc trivial
  have hq' : vx_Q Qc XC mc ms free a (U.calling g mk a) o s₂ := hq
  rw [State.frames_setTop' g h.top] at hend
  obtain ⟨g₀, hg0⟩ := Option.isSome_iff_exists.mp h.top
  obtain ⟨r, hr⟩ := State.topJava?_eq_some.mp hg0
  have hr' : (({ U with heap := s₂.heap, slotsUsed := s₂.slotsUsed } : State).setVm s₂.vm).frames = .java g₀ :: r := hr
  rcases hq' with ⟨hqc, L, hfe, hL⟩ | ⟨q, rfl, E, ce, L, hx, hce, hcv, hcl, hW₂, hsm, hL⟩
  · obtain ⟨⟨v, rfl⟩, hW₂, e2, q2, q3, q4, q5, q6⟩ := id hfe
    have e3 : s₂ = ({ (U.calling g mk a).setFrames s₂.frames with heap := s₂.heap, slotsUsed := s₂.slotsUsed } : State).setVm s₂.vm := by
      have : s₂ = ({ s₂ with vm := (U.calling g mk a).vm } : State).setVm s₂.vm := rfl
      rw [e2] at this
      exact this
    obtain ⟨c₂, i₂, len₂, hc₂, hd₂, hf₂⟩ := hend
    have hW' : U.WarmedH s₂.vm := hW₂
    have hcc : c₂ = c := by
      have h1 : s₂.code? g.method = U.code? g.method := by
        rw [State.code?_eq, State.code?_eq, hW'.alike.method?]
      exact Option.some.inj (hc₂.symm.trans (h1.trans h.code))
    subst hcc
    have hlen : len₂ = len := by rw [hdg] at hd₂; cases hd₂; rfl
    subst hlen
    have hs₂ : s₂ = (({ U with heap := s₂.heap, slotsUsed := s₂.slotsUsed } : State).setVm s₂.vm).setTop { g with pc := g.pc + len₂, stack := v.toList ++ g.stack } := by
      refine e3.trans ?_
      rw [hf₂, State.calling_eq h.top, State.setFrames_setFrames, State.setTop_of_frames _ hr', hr]
      rfl
    have hsame : U.sameButNew ({ U with heap := s₂.heap, slotsUsed := s₂.slotsUsed } : State) L mc ms := by
      refine ⟨?_, q2, q3, q4, q5, q6⟩
      obtain ⟨t, ht, -⟩ := State.frames_cons hr
      show ({ U with heap := s₂.heap, slotsUsed := s₂.slotsUsed } : State) = { U.setFrames U.frames with heap := s₂.heap, slotsUsed := s₂.slotsUsed }
      rw [State.setFrames_self ht]
    subst hg
    refine Or.inl ⟨v, ⟨(({ U with heap := s₂.heap, slotsUsed := s₂.slotsUsed } : State).setVm s₂.vm), Ls ++ L, c0 + mc, s0 + ms⟩,
      ⟨X.admits, X.cas, X.clock, X.frames, X.room, X.hears, X.method, X.code, (X.here.setHeapUsed s₂.heap s₂.slotsUsed).setVm hW'.alike, X.tail, State.WarmedH.trans X.warmed hW', X.limits, X.bytes, X.same.trans (hsame.setVm s.vm)⟩,
      ⟨g, mk, s₂, L, rfl, rfl, hqc, rfl, hL, rfl, rfl⟩, ?_⟩
    show Steps p.tables e below _ ((({ U with heap := s₂.heap, slotsUsed := s₂.slotsUsed } : State).setVm s₂.vm).setTop { g with pc := g.pc + len₂, stack := v.toList ++ g.stack })
    rw [← hs₂]
    exact hsteps
  · obtain ⟨e2, q2, q3, q4, q5, q6⟩ := id hsm
    have e3 : s₂ = ({ (U.calling g mk a).setFrames s₂.frames with heap := s₂.heap, slotsUsed := s₂.slotsUsed } : State).setVm s₂.vm := by
      have : s₂ = ({ s₂ with vm := (U.calling g mk a).vm } : State).setVm s₂.vm := rfl
      rw [e2] at this
      exact this
    have hf₂ : s₂.frames = .throwing q :: .java g :: U.frames.tail := hend
    have hW' : U.WarmedH s₂.vm := hW₂
    have hs₂ : s₂ = ((({ U with heap := s₂.heap, slotsUsed := s₂.slotsUsed } : State).setVm s₂.vm).setTop g).pushFrame (.throwing q) := by
      refine e3.trans ?_
      rw [hf₂, State.calling_eq h.top, State.setFrames_setFrames, State.pushFrame, State.frames_setTop _ hr', State.setTop_of_frames _ hr', State.setFrames_setFrames, hr]
      rfl
    have hsame : U.sameButNew ({ U with heap := s₂.heap, slotsUsed := s₂.slotsUsed } : State) L mc ms := by
      refine ⟨?_, q2, q3, q4, q5, q6⟩
      obtain ⟨t, ht, -⟩ := State.frames_cons hr
      show ({ U with heap := s₂.heap, slotsUsed := s₂.slotsUsed } : State) = { U.setFrames U.frames with heap := s₂.heap, slotsUsed := s₂.slotsUsed }
      rw [State.setFrames_self ht]
    subst hg
    refine Or.inr ⟨q, ⟨(({ U with heap := s₂.heap, slotsUsed := s₂.slotsUsed } : State).setVm s₂.vm), Ls ++ L, c0 + mc, s0 + ms⟩,
      ⟨X.admits, X.cas, X.clock, X.frames, X.room, X.hears, X.method, X.code, (X.here.setHeapUsed s₂.heap s₂.slotsUsed).setVm hW'.alike, X.tail, State.WarmedH.trans X.warmed hW', X.limits, X.bytes, X.same.trans (hsame.setVm s.vm)⟩,
      ⟨g, mk, s₂, L, E, ce, rfl, rfl, hx, hce, hcv, hcl, rfl, hL, rfl, rfl⟩, ?_⟩
    show Steps p.tables e below _ (((({ U with heap := s₂.heap, slotsUsed := s₂.slotsUsed } : State).setVm s₂.vm).setTop g).pushFrame (.throwing q))
    rw [← hs₂]
    exact hsteps
end Payer
section Calls
variable {p : Program} {l : Launch} {e : Env} {R : Room} {s : State} {m : MethodId} {args : Array Value} {below : List Frame} {meth : Method} {c : Code} {T : State} {locs : List Loc} {cells slots : Nat}
theorem vx_callV (X : Stand p l e R s m args below meth c T locs cells slots) (hexec : p.tables.exec = Jvm.exec) {own C : String} {index : Nat} {y : MethodName} {bytes : ByteArray} {maxL : Nat} {ret : Option FieldType}
    (hown : s.vm.findClass own = some m.cls) (hlink : (Cond.methodLink own index y).before args s = true) (hinst : (Cond.instanceMethod y).before args s = true) (hsel : (Cond.selects C y y).before args s = true)
    (hcode : (Cond.code y bytes maxL ret).before args s = true) (hy : y.cls ≠ "java/lang/invoke/MethodHandle" ∧ y.cls ≠ "java/lang/invoke/VarHandle")
    {W9 : Nat} {Pre : Pt → Array Value → Prop} {Post : Pt → Array Value → Option Value → Pt → Prop} {PostX : Pt → Array Value → Addr → Pt → Prop} (hK : vx_Back l R p e below s args y 3 W9 Pre Post PostX)
    {b : Addr} {cellB : Cell} (hcell : T.heap[b]? = some cellB) (hobj : cellB.vm.isStatics = false) (hcls : s.vm.findClass C = some cellB.cls)
    {g : JFrame} (hg : g.method = m) (hsize : g.locals.size = c.maxLocals) {argsL rest : List Value} (hlen : ∀ sig, parseMethodDescriptor y.desc = some sig → argsL.length = sig.parameters.length)
    (hstack : g.stack = argsL.reverse ++ .ref b :: rest) (hW : 2 * g.monitorRoom + (rest.map fun v => v.category).sum ≤ W9) (hdg : decode c.code g.pc = .ok (.invokevirtual index, 3))
    (hpre : ∀ vm₁, s.WarmedH vm₁ → Pre ⟨T.setVm vm₁, locs, cells, slots⟩ (Value.ref b :: argsL).toArray) :
    (∃ (v : Option Value) (vm₁ : Vm) (B : Pt), s.WarmedH vm₁ ∧ Stand p l e R s m args below meth c B.U B.locs B.cells B.slots ∧ Post ⟨T.setVm vm₁, locs, cells, slots⟩ (Value.ref b :: argsL).toArray v B ∧
      ∀ target, Steps p.tables e below (B.U.setTop { g with pc := g.pc + 3, stack := v.toList ++ rest }) target → Steps p.tables e below (T.setTop g) target) ∨
    (∃ (q : Addr) (vm₁ : Vm) (B : Pt), s.WarmedH vm₁ ∧ Stand p l e R s m args below meth c B.U B.locs B.cells B.slots ∧ PostX ⟨T.setVm vm₁, locs, cells, slots⟩ (Value.ref b :: argsL).toArray q B ∧
      Steps p.tables e below (T.setTop g) ((B.U.setTop { g with stack := rest }).pushFrame (.throwing q))) := by
  obtain ⟨mk, methM, hnamed, hmethM, hstM, habM⟩ := Cond.instanceMethod_spec hinst
  obtain ⟨methM', cM, hmethM', -, -, -, -, -, -, hsigM⟩ := Cond.code_spec hnamed hcode
  cases hmethM.symm.trans hmethM'
  obtain ⟨c2, r2, m2, q1, q2, q3, q4, kP, hkP, hkPi⟩ := Cond.selects_spec hsel
  cases hcls.symm.trans q1
  cases (State.methodFound?_of_named hnamed hy).symm.trans q2
  cases hnamed.symm.trans q3
  have hselP : selectMethod e.platform s.vm cellB.cls mk = .method mk := by rw [Launch.admits_selectMethod X.admits]; exact q4
  obtain ⟨vm₁, X₁, hstep₁⟩ := X.invokevirtual hexec hown hlink hnamed hmethM hstM hkP hkPi hy (a := b) (cell := cellB) hcell
    (fun z h => by rw [h] at hobj; cases hobj) hselP hmethM habM hkP hkPi (g := g) hg (argsL := argsL) (rest := rest) (hlen _ hsigM) hstack hdg
  rcases hK m meth c ⟨T.setVm vm₁, locs, cells, slots⟩ { g with stack := rest } (.invokevirtual index) mk (Value.ref b :: argsL).toArray X₁ hg hsize hdg hW (X₁.named hnamed) (hpre vm₁ X₁.warmed) with ⟨v, B, X', hpost, hsteps⟩ | ⟨q, B, X', hpost, hsteps⟩
  · exact Or.inl ⟨v, vm₁, B, X₁.warmed, X', hpost, fun target h => hstep₁ _ fun acts => by rw [doInvoke_state]; exact hsteps.trans h⟩
  · exact Or.inr ⟨q, vm₁, B, X₁.warmed, X', hpost, hstep₁ _ fun acts => by rw [doInvoke_state]; exact hsteps⟩
theorem vx_callS (X : Stand p l e R s m args below meth c T locs cells slots) (hexec : p.tables.exec = Jvm.exec) {own : String} {index : Nat} {y : MethodName} {bytes : ByteArray} {maxL : Nat} {ret : Option FieldType}
    (hown : s.vm.findClass own = some m.cls) (hlink : (Cond.methodLink own index y).before args s = true) (hstat : (Cond.static y).before args s = true) (hinit : (Cond.initialized y.cls).before args s = true)
    (hcode : (Cond.code y bytes maxL ret).before args s = true) (hy : y.cls ≠ "java/lang/invoke/MethodHandle" ∧ y.cls ≠ "java/lang/invoke/VarHandle")
    {W9 : Nat} {Pre : Pt → Array Value → Prop} {Post : Pt → Array Value → Option Value → Pt → Prop} {PostX : Pt → Array Value → Addr → Pt → Prop} (hK : vx_Back l R p e below s args y 3 W9 Pre Post PostX)
    {g : JFrame} (hg : g.method = m) (hsize : g.locals.size = c.maxLocals) {argsL rest : List Value} (hlen : ∀ sig, parseMethodDescriptor y.desc = some sig → argsL.length = sig.parameters.length)
    (hstack : g.stack = argsL.reverse ++ rest) (hW : 2 * g.monitorRoom + (rest.map fun v => v.category).sum ≤ W9) (hdg : decode c.code g.pc = .ok (.invokestatic index, 3))
    (hpre : ∀ vm₁, s.WarmedH vm₁ → Pre ⟨T.setVm vm₁, locs, cells, slots⟩ argsL.toArray) :
    (∃ (v : Option Value) (vm₁ : Vm) (B : Pt), s.WarmedH vm₁ ∧ Stand p l e R s m args below meth c B.U B.locs B.cells B.slots ∧ Post ⟨T.setVm vm₁, locs, cells, slots⟩ argsL.toArray v B ∧
      ∀ target, Steps p.tables e below (B.U.setTop { g with pc := g.pc + 3, stack := v.toList ++ rest }) target → Steps p.tables e below (T.setTop g) target) ∨
    (∃ (q : Addr) (vm₁ : Vm) (B : Pt), s.WarmedH vm₁ ∧ Stand p l e R s m args below meth c B.U B.locs B.cells B.slots ∧ PostX ⟨T.setVm vm₁, locs, cells, slots⟩ argsL.toArray q B ∧
      Steps p.tables e below (T.setTop g) ((B.U.setTop { g with stack := rest }).pushFrame (.throwing q))) := by
  obtain ⟨mk, hnamed⟩ := Cond.code_named hcode
  obtain ⟨methM, cM, hmethM, -, -, -, -, -, -, hsigM⟩ := Cond.code_spec hnamed hcode
  have hstatic : methM.isStatic = true := Cond.static_spec hnamed hmethM hstat
  obtain ⟨kP, hkP, -⟩ := className_of_methodNamed hnamed
  have hinitP : kP.init = .initialized := Cond.initialized_spec (findClass_of_methodNamed hnamed) hkP hinit
  obtain ⟨vm₁, X₁, hstep₁⟩ := X.invokestatic hexec hown hlink hnamed hmethM hstatic hkP hinitP hy (g := g) hg (argsL := argsL) (rest := rest) (hlen _ hsigM) hstack hdg
  rcases hK m meth c ⟨T.setVm vm₁, locs, cells, slots⟩ { g with stack := rest } (.invokestatic index) mk argsL.toArray X₁ hg hsize hdg hW (X₁.named hnamed) (hpre vm₁ X₁.warmed) with ⟨v, B, X', hpost, hsteps⟩ | ⟨q, B, X', hpost, hsteps⟩
  · exact Or.inl ⟨v, vm₁, B, X₁.warmed, X', hpost, fun target h => hstep₁ _ fun acts => by rw [doInvoke_state]; exact hsteps.trans h⟩
  · exact Or.inr ⟨q, vm₁, B, X₁.warmed, X', hpost, hstep₁ _ fun acts => by rw [doInvoke_state]; exact hsteps⟩
end Calls
theorem vx_cls {s : State} {T : State} {vm₁ : Vm} {E : String} {k : ClassId} (hW : s.WarmedH vm₁) (h : (T.setVm vm₁).vm.findClass E = some k) : s.vm.findClass E = some k := by
  have h1 : vm₁.findClass E = some k := h
  rw [hW.alike.findClass] at h1
  exact h1
/-- the method's frame g, with q thrown over it -/
def vx_W (p : Program) (l : Launch) (e : Env) (R : Room) (s : State) (m : MethodId) (args : Array Value) (below : List Frame) (meth : Method) (c : Code) (H : Heap) (locs : List Loc) (cells slots : Nat) (Q : State → Prop) (g : JFrame) (q : Addr) : Prop :=
  ∀ T : State, T.heap = H → Stand p l e R s m args below meth c T locs cells slots → ∃ t, Steps p.tables e below ((T.setTop g).pushFrame (.throwing q)) t ∧ Q t
def vx_Run (p : Program) (l : Launch) (e : Env) (R : Room) (s : State) (m : MethodId) (args : Array Value) (below : List Frame) (meth : Method) (c : Code) (H : Heap) (locs : List Loc) (cells slots mc ms : Nat) (g : JFrame) (rest : List Value) (Qa : State → Outcome → State → Prop) (XC : String → State → State → Prop) (free : Addr → Prop) : Prop :=
  ∀ T : State, T.heap = H → Stand p l e R s m args below meth c T locs cells slots →
    (∃ (v : Option Value) (st₀ t T' : State) (L : List Loc), st₀.heap = H ∧ Stand p l e R s m args below meth c T' (locs ++ L) (cells + mc) (slots + ms) ∧ (∀ q ∈ L, free q.base) ∧ T'.heap = t.heap ∧ T'.vm = t.vm ∧ Qa st₀ (.returned v) t ∧
      Goes p e below T g T' { g with pc := g.pc + 3, stack := v.toList ++ rest }) ∨
    (∃ (q : Addr) (st₀ t T' : State) (L : List Loc) (E : String) (ce : Cell), st₀.heap = H ∧ Stand p l e R s m args below meth c T' (locs ++ L) (cells + mc) (slots + ms) ∧ (∀ z ∈ L, free z.base) ∧ T'.heap = t.heap ∧ T'.vm = t.vm ∧ XC E st₀ t ∧ t.heap[q]? = some ce ∧ ce.vm = .none ∧ s.vm.findClass E = some ce.cls ∧
      Steps p.tables e below (T.setTop g) ((T'.setTop { g with stack := rest }).pushFrame (.throwing q)))
def vx_X {S : Type} (px : S → Prop) (B : String → S → State → Prop) (A : Nat → Prop) : String → State → State → Prop := fun E st t => ∃ u : S, px u ∧ B E u t ∧ va_F A st t
section Runs
variable {p : Program} {l : Launch} {e : Env} {R : Room} {s : State} {m : MethodId} {args : Array Value} {below : List Frame} {meth : Method} {c : Code} {H : Heap} {locs : List Loc} {cells slots : Nat}
variable {y : MethodName} {bytes cc : ByteArray} {maxL nL mc ms n index : Nat} {ret : Option FieldType} {ws : List Cond} {rm : Room} {Pc : Array Value → State → Prop} {Qc : Array Value → State → Outcome → State → Prop} {XC : String → State → State → Prop} {free : Addr → Prop} {Ts : List Cond} {own C : String} {b : Addr} {As rest : List Value} {g : JFrame}
theorem vx_callBack (cb : CallB R s args own index y bytes maxL ret ws rm mc ms n) (hM : vx_Met l y ws rm Pc Qc XC mc ms free) (hbl : FrameBlind Pc) : vx_Back l R p e below s args y 3 8 (PreOf R mc ms Pc) (PostOf Qc mc ms free) (vx_Post XC mc ms free) := by
  obtain ⟨hrc, hrs, hfr, hlo, hws, hcw, -, hini, -⟩ := cb
  exact vx_back (bytes := bytes) (maxL := maxL) (ret := ret) hM hbl hrc hrs hfr hlo hws hcw (fun a' U hW => word_at hW (Or.inl (by first | rfl | simp [Cond.onTables, Cond.keeps, Cond.steady])) hini)
theorem vx_runV (S : CallFix p m c cc nL s args Ts own) (hM : vx_Met l y ws rm Pc Qc XC mc ms free) (cw : CallW R s args own C index y bytes maxL ret ws rm mc ms n) (hp : PreV s H C b Pc As)
    (hg : g.method = m) (hn : As.length = n) (hsize : g.locals.size = nL) (hstack : g.stack = As.reverse ++ .ref b :: rest) (hW : 2 * g.monitorRoom + (rest.map fun v => v.category).sum ≤ 8) (hdg : decode cc g.pc = .ok (.invokevirtual index, 3)) (hf : cells + mc ≤ R.cells ∧ slots + ms ≤ R.slots) :
    vx_Run p l e R s m args below meth c H locs cells slots mc ms g rest (Qc (Value.ref b :: As).toArray) XC free := by
  have hK : vx_Back l R p e below s args y 3 8 (PreOf R mc ms Pc) (PostOf Qc mc ms free) (vx_Post XC mc ms free) := vx_callBack cw.1 hM hp.1
  obtain ⟨⟨-, -, -, -, -, -, hcode, -, hy, hlen, hl⟩, hin, hse⟩ := cw
  obtain ⟨hx, hb, hml, ho, -⟩ := S
  obtain ⟨-, ⟨cellB, hcB, hoB, hclB⟩, hPc⟩ := hp
  intro T hT X
  rcases vx_callV X hx (C := C) (bytes := bytes) (maxL := maxL) (ret := ret) ho hl hin hse hcode hy hK (by rw [hT]; exact hcB) hoB hclB hg (hsize.trans hml.symm) (argsL := As) (rest := rest) (fun sig h => hn.trans (hlen sig h)) hstack hW (by rw [hb]; exact hdg)
    (fun vm₁ hW₁ => ⟨hf.1, hf.2, hPc (T.setVm vm₁) hT hW₁⟩) with ⟨v, vm₁, ⟨U', l2, c2, s2⟩, hW₁, X', ⟨g', mk, t, L, e1, e2, hq, h1, hL, h2, h3⟩, st⟩ | ⟨q, vm₁, ⟨U', l2, c2, s2⟩, hW₁, X', ⟨g', mk, t, L, E, ce, e1, e2, hq, hce, hcv, hcl, h1, hL, h2, h3⟩, st⟩
  · dsimp only [Pt.U, Pt.locs, Pt.cells, Pt.slots] at X' e1 e2 h1 h2 h3 st
    subst h1; subst h2; subst h3
    exact Or.inl ⟨v, (T.setVm vm₁).calling g' mk (Value.ref b :: As).toArray, t, U', L, hT, X', hL, e1, e2, hq, st⟩
  · dsimp only [Pt.U, Pt.locs, Pt.cells, Pt.slots] at X' e1 e2 h1 h2 h3 st hcl
    subst h1; subst h2; subst h3
    exact Or.inr ⟨q, (T.setVm vm₁).calling g' mk (Value.ref b :: As).toArray, t, U', L, E, ce, hT, X', hL, e1, e2, hq, hce, hcv, vx_cls hW₁ hcl, st⟩
theorem vx_runS (S : CallFix p m c cc nL s args Ts own) (hM : vx_Met l y ws rm Pc Qc XC mc ms free) (cw : CallB R s args own index y bytes maxL ret ws rm mc ms n ∧ (Cond.static y).before args s = true) (hp : PreS s H Pc As)
    (hg : g.method = m) (hn : As.length = n) (hsize : g.locals.size = nL) (hstack : g.stack = As.reverse ++ rest) (hW : 2 * g.monitorRoom + (rest.map fun v => v.category).sum ≤ 8) (hdg : decode cc g.pc = .ok (.invokestatic index, 3)) (hf : cells + mc ≤ R.cells ∧ slots + ms ≤ R.slots) :
    vx_Run p l e R s m args below meth c H locs cells slots mc ms g rest (Qc As.toArray) XC free := by
  have hK : vx_Back l R p e below s args y 3 8 (PreOf R mc ms Pc) (PostOf Qc mc ms free) (vx_Post XC mc ms free) := vx_callBack cw.1 hM hp.1
  obtain ⟨⟨-, -, -, -, -, -, hcode, hini, hy, hlen, hl⟩, hstt⟩ := cw
  obtain ⟨hx, hb, hml, ho, -⟩ := S
  intro T hT X
  rcases vx_callS X hx (bytes := bytes) (maxL := maxL) (ret := ret) ho hl hstt hini hcode hy hK hg (hsize.trans hml.symm) (argsL := As) (rest := rest) (fun sig h => hn.trans (hlen sig h)) hstack hW (by rw [hb]; exact hdg)
    (fun vm₁ hW₁ => ⟨hf.1, hf.2, hp.2 (T.setVm vm₁) hT hW₁⟩) with ⟨v, vm₁, ⟨U', l2, c2, s2⟩, hW₁, X', ⟨g', mk, t, L, e1, e2, hq, h1, hL, h2, h3⟩, st⟩ | ⟨q, vm₁, ⟨U', l2, c2, s2⟩, hW₁, X', ⟨g', mk, t, L, E, ce, e1, e2, hq, hce, hcv, hcl, h1, hL, h2, h3⟩, st⟩
  · dsimp only [Pt.U, Pt.locs, Pt.cells, Pt.slots] at X' e1 e2 h1 h2 h3 st
    subst h1; subst h2; subst h3
    exact Or.inl ⟨v, (T.setVm vm₁).calling g' mk As.toArray, t, U', L, hT, X', hL, e1, e2, hq, st⟩
  · dsimp only [Pt.U, Pt.locs, Pt.cells, Pt.slots] at X' e1 e2 h1 h2 h3 st hcl
    subst h1; subst h2; subst h3
    exact Or.inr ⟨q, (T.setVm vm₁).calling g' mk As.toArray, t, U', L, E, ce, hT, X', hL, e1, e2, hq, hce, hcv, vx_cls hW₁ hcl, st⟩
end Runs
section Rows
variable {p : Program} {l : Launch} {e : Env} {R : Room} {s : State} {m : MethodId} {args : Array Value} {below : List Frame} {meth : Method} {c : Code} {H : Heap} {locs : List Loc} {cells slots : Nat} {Q : State → Prop}
variable {mc ms : Nat} {free : Addr → Prop} {A0 A1 : Nat → Prop} {H0 : Heap} {a : Array Value} {pc : Nat} {ls : Array Slot} {st0 rest : List Value}
theorem vx_keep {st₀ t T' : State} {L : List Loc} (h0 : st₀.heap = H) (e1 : T'.heap = t.heap) (hS : va_S A0 H0 H locs) (hA : ∀ q, q < H.size → A1 q → A0 q) (hf : ∀ q, free q → A0 q) (hL : ∀ q ∈ L, free q.base) (hF : va_F A1 st₀ t) :
    H.size ≤ T'.heap.size ∧ (∀ q : Nat, q < H.size → ¬ A1 q → T'.heap[q]? = H[q]?) ∧ va_S A0 H0 T'.heap (locs ++ L) := by
  obtain ⟨hz, hk⟩ := hF
  rw [h0] at hz hk
  exact ⟨by rw [e1]; exact hz, fun q h1 h2 => by rw [e1]; exact hk q h1 h2,
    ⟨Nat.le_trans hS.1 (by rw [e1]; exact hz), fun q h1 h2 => by rw [e1, hk q (Nat.lt_of_lt_of_le h1 hS.1) (fun z => h2 (hA q (Nat.lt_of_lt_of_le h1 hS.1) z))]; exact hS.2.1 q h1 h2, fun q hq => by
      rcases List.mem_append.mp hq with h | h
      · exact hS.2.2 q h
      · exact hf _ (hL q h)⟩⟩
theorem vx_calli {S SX : Type} {post : Int32 → S → Prop} {px : SX → Prop} {B : S → State → Prop} {BX : String → SX → State → Prop} {AX : Nat → Prop} (hr : vx_Run p l e R s m args below meth c H locs cells slots mc ms (F0 m pc ls st0) rest (va_Qi post B A1 a) (vx_X px BX AX) free) (hS : va_S A0 H0 H locs) (hA : ∀ q, q < H.size → A1 q → A0 q) (hf : ∀ q, free q → A0 q) (hAX : ∀ q, q < H.size → AX q → A0 q)
    (kx : ∀ (E : String) (ce : Cell) (q9 : Addr) (u : SX) (t : State) (H1 : Heap) (locs1 : List Loc), t.heap = H1 → s.vm.Alike t.vm → px u → BX E u t → H.size ≤ H1.size → (∀ q : Nat, q < H.size → ¬ AX q → H1[q]? = H[q]?) → va_S A0 H0 H1 locs1 → H1[q9]? = some ce → ce.vm = .none → s.vm.findClass E = some ce.cls → vx_W p l e R s m args below meth c H1 locs1 (cells + mc) (slots + ms) Q (F0 m pc ls rest) q9)
    (kk : ∀ (r : Int32) (u : S) (t : State) (H1 : Heap) (locs1 : List Loc), t.heap = H1 → s.vm.Alike t.vm → post r u → B u t → H.size ≤ H1.size → (∀ q : Nat, q < H.size → ¬ A1 q → H1[q]? = H[q]?) → va_S A0 H0 H1 locs1 → W p l e R s m args below meth c H1 locs1 (cells + mc) (slots + ms) Q (F0 m (pc + 3) ls (.int r :: rest))) : W p l e R s m args below meth c H locs cells slots Q (F0 m pc ls st0) := by
  intro T hT X
  rcases hr T hT X with ⟨v, st₀, t, T', L, h0, X', hL, e1, e2, ⟨⟨r, u, hv, hp, hb⟩, hF⟩, st⟩ | ⟨q, st₀, t, T', L, E, ce, h0, X', hL, e1, e2, ⟨u, hp, hb, hF⟩, hce, hcv, hcl, st⟩
  · cases hv
    obtain ⟨k1, k2, k3⟩ := vx_keep h0 e1 hS hA hf hL hF
    obtain ⟨t2, a1, b1⟩ := kk r u t T'.heap (locs ++ L) e1.symm (by rw [← e2]; exact X'.warmed.alike) hp hb k1 k2 k3 T' rfl X'
    exact ⟨t2, st t2 a1, b1⟩
  · obtain ⟨k1, k2, k3⟩ := vx_keep h0 e1 hS hAX hf hL hF
    obtain ⟨t2, a1, b1⟩ := kx E ce q u t T'.heap (locs ++ L) e1.symm (by rw [← e2]; exact X'.warmed.alike) hp hb k1 k2 k3 (by rw [e1]; exact hce) hcv hcl T' rfl X'
    exact ⟨t2, st.trans a1, b1⟩
theorem vx_calll {S SX : Type} {post : Int64 → S → Prop} {px : SX → Prop} {B : S → State → Prop} {BX : String → SX → State → Prop} {AX : Nat → Prop} (hr : vx_Run p l e R s m args below meth c H locs cells slots mc ms (F0 m pc ls st0) rest (va_Ql post B A1 a) (vx_X px BX AX) free) (hS : va_S A0 H0 H locs) (hA : ∀ q, q < H.size → A1 q → A0 q) (hf : ∀ q, free q → A0 q) (hAX : ∀ q, q < H.size → AX q → A0 q)
    (kx : ∀ (E : String) (ce : Cell) (q9 : Addr) (u : SX) (t : State) (H1 : Heap) (locs1 : List Loc), t.heap = H1 → s.vm.Alike t.vm → px u → BX E u t → H.size ≤ H1.size → (∀ q : Nat, q < H.size → ¬ AX q → H1[q]? = H[q]?) → va_S A0 H0 H1 locs1 → H1[q9]? = some ce → ce.vm = .none → s.vm.findClass E = some ce.cls → vx_W p l e R s m args below meth c H1 locs1 (cells + mc) (slots + ms) Q (F0 m pc ls rest) q9)
    (kk : ∀ (r : Int64) (u : S) (t : State) (H1 : Heap) (locs1 : List Loc), t.heap = H1 → s.vm.Alike t.vm → post r u → B u t → H.size ≤ H1.size → (∀ q : Nat, q < H.size → ¬ A1 q → H1[q]? = H[q]?) → va_S A0 H0 H1 locs1 → W p l e R s m args below meth c H1 locs1 (cells + mc) (slots + ms) Q (F0 m (pc + 3) ls (.long r :: rest))) : W p l e R s m args below meth c H locs cells slots Q (F0 m pc ls st0) := by
  intro T hT X
  rcases hr T hT X with ⟨v, st₀, t, T', L, h0, X', hL, e1, e2, ⟨⟨r, u, hv, hp, hb⟩, hF⟩, st⟩ | ⟨q, st₀, t, T', L, E, ce, h0, X', hL, e1, e2, ⟨u, hp, hb, hF⟩, hce, hcv, hcl, st⟩
  · cases hv
    obtain ⟨k1, k2, k3⟩ := vx_keep h0 e1 hS hA hf hL hF
    obtain ⟨t2, a1, b1⟩ := kk r u t T'.heap (locs ++ L) e1.symm (by rw [← e2]; exact X'.warmed.alike) hp hb k1 k2 k3 T' rfl X'
    exact ⟨t2, st t2 a1, b1⟩
  · obtain ⟨k1, k2, k3⟩ := vx_keep h0 e1 hS hAX hf hL hF
    obtain ⟨t2, a1, b1⟩ := kx E ce q u t T'.heap (locs ++ L) e1.symm (by rw [← e2]; exact X'.warmed.alike) hp hb k1 k2 k3 (by rw [e1]; exact hce) hcv hcl T' rfl X'
    exact ⟨t2, st.trans a1, b1⟩
theorem vx_callf {S SX : Type} {post : UInt32 → S → Prop} {px : SX → Prop} {B : S → State → Prop} {BX : String → SX → State → Prop} {AX : Nat → Prop} (hr : vx_Run p l e R s m args below meth c H locs cells slots mc ms (F0 m pc ls st0) rest (va_Qf post B A1 a) (vx_X px BX AX) free) (hS : va_S A0 H0 H locs) (hA : ∀ q, q < H.size → A1 q → A0 q) (hf : ∀ q, free q → A0 q) (hAX : ∀ q, q < H.size → AX q → A0 q)
    (kx : ∀ (E : String) (ce : Cell) (q9 : Addr) (u : SX) (t : State) (H1 : Heap) (locs1 : List Loc), t.heap = H1 → s.vm.Alike t.vm → px u → BX E u t → H.size ≤ H1.size → (∀ q : Nat, q < H.size → ¬ AX q → H1[q]? = H[q]?) → va_S A0 H0 H1 locs1 → H1[q9]? = some ce → ce.vm = .none → s.vm.findClass E = some ce.cls → vx_W p l e R s m args below meth c H1 locs1 (cells + mc) (slots + ms) Q (F0 m pc ls rest) q9)
    (kk : ∀ (r : UInt32) (u : S) (t : State) (H1 : Heap) (locs1 : List Loc), t.heap = H1 → s.vm.Alike t.vm → post r u → B u t → H.size ≤ H1.size → (∀ q : Nat, q < H.size → ¬ A1 q → H1[q]? = H[q]?) → va_S A0 H0 H1 locs1 → W p l e R s m args below meth c H1 locs1 (cells + mc) (slots + ms) Q (F0 m (pc + 3) ls (.float r :: rest))) : W p l e R s m args below meth c H locs cells slots Q (F0 m pc ls st0) := by
  intro T hT X
  rcases hr T hT X with ⟨v, st₀, t, T', L, h0, X', hL, e1, e2, ⟨⟨r, u, hv, hp, hb⟩, hF⟩, st⟩ | ⟨q, st₀, t, T', L, E, ce, h0, X', hL, e1, e2, ⟨u, hp, hb, hF⟩, hce, hcv, hcl, st⟩
  · cases hv
    obtain ⟨k1, k2, k3⟩ := vx_keep h0 e1 hS hA hf hL hF
    obtain ⟨t2, a1, b1⟩ := kk r u t T'.heap (locs ++ L) e1.symm (by rw [← e2]; exact X'.warmed.alike) hp hb k1 k2 k3 T' rfl X'
    exact ⟨t2, st t2 a1, b1⟩
  · obtain ⟨k1, k2, k3⟩ := vx_keep h0 e1 hS hAX hf hL hF
    obtain ⟨t2, a1, b1⟩ := kx E ce q u t T'.heap (locs ++ L) e1.symm (by rw [← e2]; exact X'.warmed.alike) hp hb k1 k2 k3 (by rw [e1]; exact hce) hcv hcl T' rfl X'
    exact ⟨t2, st.trans a1, b1⟩
theorem vx_calld {S SX : Type} {post : UInt64 → S → Prop} {px : SX → Prop} {B : S → State → Prop} {BX : String → SX → State → Prop} {AX : Nat → Prop} (hr : vx_Run p l e R s m args below meth c H locs cells slots mc ms (F0 m pc ls st0) rest (va_Qd post B A1 a) (vx_X px BX AX) free) (hS : va_S A0 H0 H locs) (hA : ∀ q, q < H.size → A1 q → A0 q) (hf : ∀ q, free q → A0 q) (hAX : ∀ q, q < H.size → AX q → A0 q)
    (kx : ∀ (E : String) (ce : Cell) (q9 : Addr) (u : SX) (t : State) (H1 : Heap) (locs1 : List Loc), t.heap = H1 → s.vm.Alike t.vm → px u → BX E u t → H.size ≤ H1.size → (∀ q : Nat, q < H.size → ¬ AX q → H1[q]? = H[q]?) → va_S A0 H0 H1 locs1 → H1[q9]? = some ce → ce.vm = .none → s.vm.findClass E = some ce.cls → vx_W p l e R s m args below meth c H1 locs1 (cells + mc) (slots + ms) Q (F0 m pc ls rest) q9)
    (kk : ∀ (r : UInt64) (u : S) (t : State) (H1 : Heap) (locs1 : List Loc), t.heap = H1 → s.vm.Alike t.vm → post r u → B u t → H.size ≤ H1.size → (∀ q : Nat, q < H.size → ¬ A1 q → H1[q]? = H[q]?) → va_S A0 H0 H1 locs1 → W p l e R s m args below meth c H1 locs1 (cells + mc) (slots + ms) Q (F0 m (pc + 3) ls (.double r :: rest))) : W p l e R s m args below meth c H locs cells slots Q (F0 m pc ls st0) := by
  intro T hT X
  rcases hr T hT X with ⟨v, st₀, t, T', L, h0, X', hL, e1, e2, ⟨⟨r, u, hv, hp, hb⟩, hF⟩, st⟩ | ⟨q, st₀, t, T', L, E, ce, h0, X', hL, e1, e2, ⟨u, hp, hb, hF⟩, hce, hcv, hcl, st⟩
  · cases hv
    obtain ⟨k1, k2, k3⟩ := vx_keep h0 e1 hS hA hf hL hF
    obtain ⟨t2, a1, b1⟩ := kk r u t T'.heap (locs ++ L) e1.symm (by rw [← e2]; exact X'.warmed.alike) hp hb k1 k2 k3 T' rfl X'
    exact ⟨t2, st t2 a1, b1⟩
  · obtain ⟨k1, k2, k3⟩ := vx_keep h0 e1 hS hAX hf hL hF
    obtain ⟨t2, a1, b1⟩ := kx E ce q u t T'.heap (locs ++ L) e1.symm (by rw [← e2]; exact X'.warmed.alike) hp hb k1 k2 k3 (by rw [e1]; exact hce) hcv hcl T' rfl X'
    exact ⟨t2, st.trans a1, b1⟩
theorem vx_callv {S SX : Type} {post : S → Prop} {px : SX → Prop} {B : S → State → Prop} {BX : String → SX → State → Prop} {AX : Nat → Prop} (hr : vx_Run p l e R s m args below meth c H locs cells slots mc ms (F0 m pc ls st0) rest (va_Qv post B A1 a) (vx_X px BX AX) free) (hS : va_S A0 H0 H locs) (hA : ∀ q, q < H.size → A1 q → A0 q) (hf : ∀ q, free q → A0 q) (hAX : ∀ q, q < H.size → AX q → A0 q)
    (kx : ∀ (E : String) (ce : Cell) (q9 : Addr) (u : SX) (t : State) (H1 : Heap) (locs1 : List Loc), t.heap = H1 → s.vm.Alike t.vm → px u → BX E u t → H.size ≤ H1.size → (∀ q : Nat, q < H.size → ¬ AX q → H1[q]? = H[q]?) → va_S A0 H0 H1 locs1 → H1[q9]? = some ce → ce.vm = .none → s.vm.findClass E = some ce.cls → vx_W p l e R s m args below meth c H1 locs1 (cells + mc) (slots + ms) Q (F0 m pc ls rest) q9)
    (kk : ∀ (u : S) (t : State) (H1 : Heap) (locs1 : List Loc), t.heap = H1 → s.vm.Alike t.vm → post u → B u t → H.size ≤ H1.size → (∀ q : Nat, q < H.size → ¬ A1 q → H1[q]? = H[q]?) → va_S A0 H0 H1 locs1 → W p l e R s m args below meth c H1 locs1 (cells + mc) (slots + ms) Q (F0 m (pc + 3) ls (rest))) : W p l e R s m args below meth c H locs cells slots Q (F0 m pc ls st0) := by
  intro T hT X
  rcases hr T hT X with ⟨v, st₀, t, T', L, h0, X', hL, e1, e2, ⟨⟨u, hv, hp, hb⟩, hF⟩, st⟩ | ⟨q, st₀, t, T', L, E, ce, h0, X', hL, e1, e2, ⟨u, hp, hb, hF⟩, hce, hcv, hcl, st⟩
  · cases hv
    obtain ⟨k1, k2, k3⟩ := vx_keep h0 e1 hS hA hf hL hF
    obtain ⟨t2, a1, b1⟩ := kk u t T'.heap (locs ++ L) e1.symm (by rw [← e2]; exact X'.warmed.alike) hp hb k1 k2 k3 T' rfl X'
    exact ⟨t2, st t2 a1, b1⟩
  · obtain ⟨k1, k2, k3⟩ := vx_keep h0 e1 hS hAX hf hL hF
    obtain ⟨t2, a1, b1⟩ := kx E ce q u t T'.heap (locs ++ L) e1.symm (by rw [← e2]; exact X'.warmed.alike) hp hb k1 k2 k3 (by rw [e1]; exact hce) hcv hcl T' rfl X'
    exact ⟨t2, st.trans a1, b1⟩
/-- caught by the row x of this method's table; the rows ahead don't take it -/
theorem vx_catch {own name : String} {E : String} {ce : Cell} {q : Addr} (hown : s.vm.findClass own = some m.cls) (pre : List ExceptionTableEntry) (x : ExceptionTableEntry) (suf : List ExceptionTableEntry) (hsplit : c.exceptionTable.toList = pre ++ x :: suf)
    (hpass : ∀ z ∈ pre, covers z pc = false ∨ (z.catchType ≠ 0 ∧ ∃ nm : String, (Cond.classLink own z.catchType nm).before args s = true ∧ va_Nc E nm s)) (hx : covers x pc = true) (h0 : x.catchType ≠ 0)
    (hlink : (Cond.classLink own x.catchType name).before args s = true) (hcast : (Cond.castable E name).before args s = true) (hcell : H[q]? = some ce) (hv : ce.vm = .none) (hcl : s.vm.findClass E = some ce.cls)
    (kk : W p l e R s m args below meth c H locs cells slots Q (F0 m x.handlerPc ls [.ref q])) : vx_W p l e R s m args below meth c H locs cells slots Q (F0 m pc ls rest) q := by
  intro T hT X
  have hpl : e.platform.magicAccessors = ({} : Platform).magicAccessors := by rw [X.admits.platform]
  obtain ⟨c3, c4, hc3, hc4, hasg⟩ := Cond.castable_spec hcast
  cases Option.some.inj (hc3.symm.trans hcl)
  obtain ⟨c5, hc5, hcl5⟩ := Cond.classLink_spec hown hlink e.platform hpl
  cases Option.some.inj (hc4.symm.trans hc5)
  obtain ⟨vm', X', st⟩ := X.thenCaughtThrough q (g := F0 m pc ls rest) rfl (Steps.refl _) (by rw [hT]; exact hcell) (by rw [hv]; rfl) (by obtain ⟨k9, h9, -⟩ := Vm.findClass_spec hcl; exact ⟨k9, h9⟩) pre x suf hsplit
    (fun z hz => by
      rcases hpass z hz with h | ⟨hz0, nm, hl1, hn1⟩
      · exact Or.inl h
      · obtain ⟨c6, hc6, hcl6⟩ := Cond.classLink_spec hown hl1 e.platform hpl
        obtain ⟨a8, b8, h1, h2, h3⟩ := hn1
        cases Option.some.inj (h1.symm.trans hcl)
        cases Option.some.inj (h2.symm.trans hc6)
        exact Or.inr ⟨hz0, _, hcl6, h3⟩) hx (Or.inr ⟨h0, c4, hcl5, hasg⟩)
  obtain ⟨t, a1, b1⟩ := kk (T.setVm vm') hT X'
  exact ⟨t, st.trans a1, b1⟩
end Rows
section Ends
variable {p : Program} {l : Launch} {e : Env} {R : Room} {s : State} {m : MethodId} {args : Array Value} {below : List Frame} {meth : Method} {c : Code} {H : Heap} {locs : List Loc} {cells slots : Nat} {Q : State → Prop}
variable {mc ms : Nat} {free : Addr → Prop} {A0 A1 : Nat → Prop} {H0 : Heap} {a : Array Value} {ls : Array Slot} {st0 rest : List Value}
variable {Qc : Array Value → State → Outcome → State → Prop} {XC : String → State → State → Prop}
/-- what a body that may throw owes at its end -/
def vx_MQ (below : List Frame) (Qc : Array Value → State → Outcome → State → Prop) (XC : String → State → State → Prop) (a : Array Value) (s : State) (mc ms : Nat) (free : Addr → Prop) : State → Prop := fun t =>
  ∃ o, t.status = .running ∧ Ended t below o ∧ vx_Q Qc XC mc ms free a s o t
theorem vx_ret {g : JFrame} {mc ms : Nat} (k : W p l e R s m args below meth c H locs cells slots (MQ below Qc args s mc ms free) g) : W p l e R s m args below meth c H locs cells slots (vx_MQ below Qc XC args s mc ms free) g := by
  intro T hT X
  obtain ⟨t, a1, o, b1, b2, b3, b4⟩ := k T hT X
  exact ⟨t, a1, o, b1, b2, Or.inl ⟨b3, b4⟩⟩
/-- not caught here: it goes on to the caller -/
theorem vx_widen {g : JFrame} {q : Addr} {k n : Nat} (h1 : cells ≤ k) (h2 : slots ≤ n) (kk : vx_W p l e R s m args below meth c H locs k n Q g q) : vx_W p l e R s m args below meth c H locs cells slots Q g q := fun T hT X => kk T hT (stand_widen X h1 h2)
theorem vx_out {pc : Nat} {E : String} {ce : Cell} {q : Addr} {mc ms : Nat} (hout : ∀ x ∈ c.exceptionTable.toList, covers x pc = false) (hlocks : meth.locks = false) (hcell : H[q]? = some ce) (hv : ce.vm = .none) (hcl : s.vm.findClass E = some ce.cls)
    (hx : ∀ t : State, t.heap = H → s.vm.Alike t.vm → XC E s t) (hf : ∀ z ∈ locs, free z.base) (hc : cells ≤ mc) (hs : slots ≤ ms) :
    vx_W p l e R s m args below meth c H locs cells slots (vx_MQ below Qc XC args s mc ms free) (F0 m pc ls rest) q := by
  intro T hT X
  obtain ⟨st1, hrun, hend, hW, hsm⟩ := X.leaveThrown q (g := F0 m pc ls rest) rfl rfl rfl hout hlocks
  have hcell9 : (T.setFrames (.throwing q :: below)).heap[q]? = some ce := by
    show T.heap[q]? = some ce
    rw [hT]; exact hcell
  exact ⟨_, st1, .threw q, hrun, hend, Or.inr ⟨q, rfl, E, ce, locs, hx _ hT hW.alike, hcell9, hv, hcl, hW, hsm.mono hc hs, hf⟩⟩
theorem vx_frame {U : State} {k n : Nat} (h : s.sameButNew ({ U with vm := s.vm } : State) locs k n) : s.heap.size ≤ U.heap.size ∧ ∀ q : Nat, q < s.heap.size → (∀ z ∈ locs, z.base ≠ q) → U.heap[q]? = s.heap[q]? := by
  obtain ⟨-, h2, -, -, -, h6⟩ := h
  refine ⟨h2, fun q hq hz => ?_⟩
  obtain ⟨c9, e1, e2, e3, e4⟩ := h6 q _ (Array.getElem?_eq_getElem hq)
  have hs : c9.slots = (s.heap[q]).slots := Array.ext_getElem? fun i => e4 i fun hm => hz _ hm rfl
  have h9 : c9 = s.heap[q] := by
    rw [hs] at e2
    exact e2
  have e5 : U.heap[q]? = some c9 := e1
  rw [e5, h9, Array.getElem?_eq_getElem hq]
/-- the words of a throw but the four that speak of the heap -/
def vx_no (w : Cond) : Bool := decide (w ≠ .isRef (.static Bundle.tN "UNASSIGNED_STACK" Bundle.steD)) && decide (w ≠ .isRef (.static Bundle.tN "SUPPRESSED_SENTINEL" Bundle.listD)) && decide (w ≠ .laysStatic Bundle.tN "UNASSIGNED_STACK" Bundle.steD) && decide (w ≠ .laysStatic Bundle.tN "SUPPRESSED_SENTINEL" Bundle.listD)
def vx_at0 (own : String) (ic : Nat) (X : String) (names : List String) : List Cond := (Bundle.ownAtoms0 own ic X names).filter vx_no
def vx_atS (own : String) (ic : Nat) (X : String) (names : List String) : List Cond := (Bundle.ownAtoms own ic X names).filter vx_no
/-- a word that the tables alone decide, or a good one -/
def vx_ot (w : Cond) : Bool := w.onTables || goodWord w
theorem vx_ot_at {args a' : Array Value} {s U : State} {w : Cond} (hW : s.WarmedH U.vm) (hvm : s.vm = U.vm) (hg : vx_ot w = true) (h : w.before args s = true) : w.before a' U = true := by
  simp only [vx_ot, Bool.or_eq_true] at hg
  rcases hg with hg | hg
  · exact va_tabs hg hvm h
  · exact word_at hW (good_of_word hg) h
/-- a list's words: the good ones out of the method's own list, the others by premises of their own -/
theorem vx_hat {args : Array Value} {s : State} {L B : List Cond} (h1 : ∀ w ∈ L.filter goodWord, w.before args s = true) (h2 : ∀ w ∈ L.filter (fun w => !goodWord w), w ∈ B) (h3 : ∀ w ∈ B, w.before args s = true) : ∀ w ∈ L, w.before args s = true := by
  intro w hw
  by_cases g : goodWord w = true
  · exact h1 w (List.mem_filter.mpr ⟨hw, g⟩)
  · refine h3 w (h2 w (List.mem_filter.mpr ⟨hw, ?_⟩))
    show (!goodWord w) = true
    cases hgw : goodWord w
    · rfl
    · exact absurd hgw g
theorem vx_c {args : Array Value} {s : State} {w : Cond} {B : List Cond} (h : w.before args s = true) (t : ∀ w ∈ B, w.before args s = true) : ∀ w' ∈ w :: B, w'.before args s = true := fun w' h' => (List.mem_cons.mp h').elim (fun e => by rw [e]; exact h) (t w')
theorem vx_n {args : Array Value} {s : State} : ∀ w ∈ ([] : List Cond), w.before args s = true := fun _ h => nomatch h
theorem vx_own {args : Array Value} {s : State} {L : List Cond} (h1 : ∀ w ∈ L.filter vx_no, w.before args s = true)
    (hU : (Cond.isRef (.static Bundle.tN "UNASSIGNED_STACK" Bundle.steD)).before args s = true) (hN : (Cond.isRef (.static Bundle.tN "SUPPRESSED_SENTINEL" Bundle.listD)).before args s = true)
    (lU : (Cond.laysStatic Bundle.tN "UNASSIGNED_STACK" Bundle.steD).before args s = true) (lN : (Cond.laysStatic Bundle.tN "SUPPRESSED_SENTINEL" Bundle.listD).before args s = true) : ∀ w ∈ L, w.before args s = true := by
  intro w hw
  by_cases e1 : w = .isRef (.static Bundle.tN "UNASSIGNED_STACK" Bundle.steD)
  · rw [e1]; exact hU
  · by_cases e2 : w = .isRef (.static Bundle.tN "SUPPRESSED_SENTINEL" Bundle.listD)
    · rw [e2]; exact hN
    · by_cases e3 : w = .laysStatic Bundle.tN "UNASSIGNED_STACK" Bundle.steD
      · rw [e3]; exact lU
      · by_cases e4 : w = .laysStatic Bundle.tN "SUPPRESSED_SENTINEL" Bundle.listD
        · rw [e4]; exact lN
        · exact h1 w (List.mem_filter.mpr ⟨hw, by unfold vx_no; rw [decide_eq_true e1, decide_eq_true e2, decide_eq_true e3, decide_eq_true e4]; rfl⟩)
/-- where a static field lies, its class's statics cell in H -/
def vx_L (C n d : String) (A : Nat → Prop) (U : State) (H : Heap) : Prop := ∃ (c : ClassId) (k : Class) (i : Nat) (f : Field) (a : Nat) (cell : Cell), U.vm.findClass C = some c ∧ U.fieldFound? C n d = some (c, k, i, f) ∧ f.isStatic = true ∧ k.statics = some a ∧ H[a]? = some cell ∧ cell.vm.isStatics = true ∧ cell.cls = c ∧ f.slot < cell.slots.size ∧ k.staticTypes[f.slot]? = some f.type ∧ ¬ A a
theorem vx_L.moved {C n d : String} {A : Nat → Prop} {u U : State} {H : Heap} (hvm : u.vm.Alike U.vm) (h : vx_L C n d A u H) : vx_L C n d A U H := by
  obtain ⟨c, k, i, f, a, cell, h1, h2, h3, h4, h5, h6, h7, h8, h9, h10⟩ := h
  obtain ⟨k', hi', he⟩ := State.fieldFound?_setVm hvm h2
  exact ⟨c, k', i, f, a, cell, by rw [hvm.findClass]; exact h1, hi', h3, by rw [he]; exact h4, h5, h6, h7, h8, by rw [he]; exact h9, h10⟩
theorem vx_L.kept {C n d : String} {A : Nat → Prop} {U : State} {H H1 : Heap} (h : vx_L C n d A U H) (hq : ∀ a : Nat, a < H.size → ¬ A a → H1[a]? = H[a]?) : vx_L C n d A U H1 := by
  obtain ⟨c, k, i, f, a, cell, h1, h2, h3, h4, h5, h6, h7, h8, h9, h10⟩ := h
  exact ⟨c, k, i, f, a, cell, h1, h2, h3, h4, by rw [hq a (Array.getElem?_eq_some_iff.mp h5).1 h10]; exact h5, h6, h7, h8, h9, h10⟩
theorem vx_L.narrow {C n d : String} {A B : Nat → Prop} {U : State} {H : Heap} (h : vx_L C n d A U H) (hAB : ∀ q, B q → A q) : vx_L C n d B U H := by
  obtain ⟨c, k, i, f, a, cell, h1, h2, h3, h4, h5, h6, h7, h8, h9, h10⟩ := h
  exact ⟨c, k, i, f, a, cell, h1, h2, h3, h4, h5, h6, h7, h8, h9, fun z => h10 (hAB _ z)⟩
theorem vx_L.word {C n d : String} {A : Nat → Prop} {s : State} {args : Array Value} (h : vx_L C n d A s s.heap) : (Cond.laysStatic C n d).before args s = true := by
  obtain ⟨c, k, i, f, a, cell, h1, h2, h3, h4, h5, h6, h7, h8, h9, -⟩ := h
  show (Cond.laysStatic C n d).holds args s none s [] = true
  exact Cond.laysStatic_of h1 h2 h3 h4 h5 h6 h7 h8 h9
/-- .. and what it holds: null or some reference -/
def vx_Zq (C n d : String) (A : Nat → Prop) (U : State) (H : Heap) : Prop := va_Zq C n d A U H ∧ vx_L C n d A U H
theorem vx_Zq.moved {C n d : String} {A : Nat → Prop} {u U : State} {H : Heap} (hvm : u.vm.Alike U.vm) (h : vx_Zq C n d A u H) : vx_Zq C n d A U H := ⟨va_Zq.moved hvm h.1, vx_L.moved hvm h.2⟩
theorem vx_Zq.kept {C n d : String} {A : Nat → Prop} {U : State} {H H1 : Heap} (h : vx_Zq C n d A U H) (hq : ∀ a : Nat, a < H.size → ¬ A a → H1[a]? = H[a]?) : vx_Zq C n d A U H1 := ⟨va_Zq.kept h.1 hq, vx_L.kept h.2 hq⟩
theorem vx_Zq.narrow {C n d : String} {A B : Nat → Prop} {U : State} {H : Heap} (h : vx_Zq C n d A U H) (hAB : ∀ q, B q → A q) : vx_Zq C n d B U H := ⟨va_Zq.narrow h.1 hAB, vx_L.narrow h.2 hAB⟩
theorem vx_Zqof {args : Array Value} {s : State} {C n d : String} {A : Nat → Prop} (hl : (Cond.laysStatic C n d).before args s = true) (hini : (Cond.initialized C).before args s = true) (h : (Cond.isRef (.static C n d)).before args s = true) (hA : ∀ a : Nat, a < s.heap.size → ¬ A a) : vx_Zq C n d A s s.heap := by
  refine ⟨va_Zqof hl hini h hA, ?_⟩
  obtain ⟨c, k, i, f, a, cell, h1, h2, h3, h4, h5, h6, h7, h8, h9⟩ := Cond.laysStatic_spec hl
  exact ⟨c, k, i, f, a, cell, h1, h2, h3, h4, h5, h6, h7, h8, h9, hA a (Array.getElem?_eq_some_iff.mp h5).1⟩
theorem vx_isRef {C n d : String} {v : Value} {A : Nat → Prop} {s : State} {args : Array Value} (h : va_Z C n d v A s s.heap) (hv : v.isRef = true) : (Cond.isRef (.static C n d)).before args s = true := by
  obtain ⟨cf, kf, fi, f, a, cell, h1, h2, h3, h4, h5, h6, h7, -⟩ := h
  have he : (Term.static C n d).eval args s none [] s = some v := by
    simp [Term.eval, State.fieldNamed?, h1, h2, h4, h5, h6, h7]
  simp only [Cond.before, Cond.holds, Cond.value, he]
  cases v <;> simp_all [Value.isRef]
theorem vx_isRefq {C n d : String} {A : Nat → Prop} {s : State} {args : Array Value} (h : va_Zq C n d A s s.heap) : (Cond.isRef (.static C n d)).before args s = true := by
  rcases h with h | ⟨t, h⟩
  · exact vx_isRef h rfl
  · exact vx_isRef h rfl
/-- the same frame, seen from here: as if the method were called anew in this heap -/
theorem vx_rebase {T : State} (X : Stand p l e R s m args below meth c T locs cells slots) {R' : Room} (hf : R'.frames ≤ R.frames) (hl : R'.locals ≤ R.locals) (hc : cells + R'.cells ≤ R.cells) (hs : slots + R'.slots ≤ R.slots) :
    Stand p l e R' ((T.setVm s.vm).setFrames (.invoking m args :: below)) m args below meth c T [] 0 0 := by
  have htop : (T.setVm s.vm).topJava?.isSome := X.here.top
  have hF : ((T.setVm s.vm).setFrames (.invoking m args :: below)).frames = .invoking m args :: below := State.frames_setFrames _ (State.cur_lt_of_top htop)
  obtain ⟨g₀, hg0⟩ := Option.isSome_iff_exists.mp htop
  obtain ⟨r, hr⟩ := State.topJava?_eq_some.mp hg0
  have hl9 : e.platform.stackLimits (T.setVm s.vm).me = e.platform.stackLimits s.me := X.limits
  have hb9 : (T.setVm s.vm).me.stackBytes = s.me.stackBytes := X.bytes
  refine ⟨X.admits, X.cas, X.clock, hF, ?_, X.hears, X.method, X.code, X.here, X.tail, X.warmed, ?_, ?_, ?_⟩
  · have h := X.room
    have hU : ((T.setVm s.vm).setFrames (.invoking m args :: below)).localsInUse = s.localsInUse := by
      rw [State.localsInUse_invoking hF (meth := meth) (c := c) X.method X.code, State.localsInUse_invoking X.frames X.method X.code]
    simp only [State.hasRoom, Bool.and_eq_true, decide_eq_true_eq] at h ⊢
    obtain ⟨⟨⟨⟨h1, h2, h3, h4, h5, h6⟩, h7⟩, h8⟩, h9⟩ := h
    rw [X.frames, List.length_cons] at h2 h3
    have q1 := X.heapSize
    have q2 := X.used
    simp only [hF, hU, List.length_cons, State.stackLimits_setFrames, State.stackBytes_setFrames, hl9, hb9]
    refine ⟨⟨⟨⟨by omega, by omega, by omega, by omega, by omega, h6⟩, ?_⟩, ?_⟩, X.book⟩
    · show T.heap.size + R'.cells ≤ e.platform.maxCells
      omega
    · show T.slotsUsed + R'.slots ≤ e.platform.maxSlots
      omega
  · rw [State.stackLimits_setFrames]; rfl
  · rw [State.stackBytes_setFrames]; rfl
  · refine ⟨?_, Nat.le_refl _, Nat.le_refl _, ?_, ?_, fun a c9 h9 => ⟨c9, h9, rfl, rfl, fun _ _ => rfl⟩⟩
    · obtain ⟨t, ht, -⟩ := State.frames_cons hr
      show T.setVm s.vm = { ((T.setVm s.vm).setFrames (.invoking m args :: below)).setFrames (T.setVm s.vm).frames with heap := T.heap, slotsUsed := T.slotsUsed }
      rw [State.setFrames_setFrames, State.setFrames_self ht]
      rfl
    · show T.slotsUsed = T.slotsUsed + ((T.heap.toList.drop T.heap.size).map (·.slots.size)).sum
      rw [List.drop_eq_nil_of_le (Nat.le_of_eq Array.length_toList)]
      rfl
    · show ((T.heap.toList.drop T.heap.size).map (·.slots.size)).sum ≤ 0
      rw [List.drop_eq_nil_of_le (Nat.le_of_eq Array.length_toList)]
      exact Nat.le_refl _
/-- 'throw new E()': new; dup; invokespecial; athrow -/
theorem vx_throw0 {cc : ByteArray} {pc : Nat} (hexec : p.tables.exec = Jvm.exec) (hb : c.code = cc) (hl : l.stackTraces = false) {own cls : String} {names : List String} {ik ic mc ms : Nat} {A : Nat → Prop}
    (hown : s.vm.findClass own = some m.cls) (hcls : Bundle.fit cls = true) (hnames : ∀ n ∈ names, Bundle.fit n = true)
    (hk : (Cond.classLink own ik cls).before args s = true) (hini : (Cond.initialized cls).before args s = true) (hat : ∀ w ∈ vx_at0 own ic cls names, w.before args s = true)
    (hgood : ∀ w ∈ Cond.classLink own ik cls :: Cond.initialized cls :: vx_at0 own ic cls names, vx_ot w = true)
    (hU : vx_Zq Bundle.tN "UNASSIGNED_STACK" Bundle.steD A s s.heap) (hN : vx_Zq Bundle.tN "SUPPRESSED_SENTINEL" Bundle.listD A s s.heap) (hS : va_S A s.heap H locs) (hsize : ls.size = c.maxLocals)
    (d0 : decode cc pc = .ok (.new ik, 3)) (d3 : decode cc (pc + 3) = .ok (.dup, 1)) (d4 : decode cc (pc + 4) = .ok (.invokespecial ic, 3)) (d7 : decode cc (pc + 7) = .ok (.athrow, 1))
    (hout : ∀ x ∈ c.exceptionTable.toList, covers x (pc + 7) = false)
    (hRframes : names.length + 3 < R.frames) (hRlocals : (rest.map fun v => v.category).sum + (13 * (names.length + 1) + 42) ≤ R.locals) (hRcells : cells + 1 ≤ R.cells) (hRslots : slots + 6 ≤ R.slots) (hlocks : meth.locks = false)
    (hx : ∀ t : State, s.vm.Alike t.vm → H.size < t.heap.size → (∀ q : Nat, q < H.size → t.heap[q]? = H[q]?) → XC cls s t)
    (hf : ∀ z ∈ locs, free z.base) (hc : cells + 1 ≤ mc) (hs : slots + 6 ≤ ms) :
    W p l e R s m args below meth c H locs cells slots (vx_MQ below Qc XC args s mc ms free) (F0 m pc ls rest) := by
  intro T hT X
  have htr : e.platform.stackTraces = false := (show e.platform.stackTraces = l.stackTraces by rw [X.admits.platform]).trans hl
  have Y := vx_rebase X (R' := { frames := R.frames, locals := R.locals, cells := 1, slots := 6 }) (Nat.le_refl _) (Nat.le_refl _) hRcells hRslots
  obtain ⟨s', hA⟩ : ∃ z, z = (T.setVm s.vm).setFrames (.invoking m args :: below) := ⟨_, rfl⟩
  rw [← hA] at Y
  have hvm : s'.vm = s.vm := by rw [hA]; rfl
  have hhp : s'.heap = H := by rw [hA]; exact hT
  have hW0 : s.WarmedH s'.vm := by rw [hvm]; exact State.WarmedH.refl s
  have hat' : ∀ w ∈ vx_at0 own ic cls names, w.before args s' = true := fun w hw => vx_ot_at hW0 hvm.symm (hgood w (List.mem_cons_of_mem _ (List.mem_cons_of_mem _ hw))) (hat w hw)
  have hk' : (Cond.classLink own ik cls).before args s' = true := vx_ot_at hW0 hvm.symm (hgood _ List.mem_cons_self) hk
  have hini' : (Cond.initialized cls).before args s' = true := vx_ot_at hW0 hvm.symm (hgood _ (List.mem_cons_of_mem _ List.mem_cons_self)) hini
  have hU' : vx_Zq Bundle.tN "UNASSIGNED_STACK" Bundle.steD A s' s'.heap := by rw [hhp]; exact vx_Zq.moved hW0.alike (hU.kept hS.2.1)
  have hN' : vx_Zq Bundle.tN "SUPPRESSED_SENTINEL" Bundle.listD A s' s'.heap := by rw [hhp]; exact vx_Zq.moved hW0.alike (hN.kept hS.2.1)
  have h : ∀ w ∈ Bundle.ownAtoms0 own ic cls names, w.before args s' = true := vx_own hat' (vx_isRefq hU'.1) (vx_isRefq hN'.1) hU'.2.word hN'.2.word
  have hown' : s'.vm.findClass own = some m.cls := by rw [hvm]; exact hown
  have hins : (Cond.instantiable cls 6).before args s' = true := h _ (by simp [Bundle.ownAtoms0])
  obtain ⟨vm₁, cX, kX, hfX, hkX, -, -, X₁, st1⟩ := Y.newCold hexec (own := own) (C := cls) (index := ik) (n := 6) hown' hk' hins hini'
    (g := F0 m pc ls rest) rfl (by rw [hb]; exact d0) (Nat.le_refl _) (Nat.le_refl _)
  generalize hT1 : (T.setVm vm₁).pushCell { cls := cX, slots := kX.instanceTypes.map defaultValue, vm := .none } = T1 at X₁ st1
  have hcat : (Value.ref T.heap.size).category = 1 := rfl
  have hcellA : T1.heap[T.heap.size]? = some (freshCell cX kX) := by rw [← hT1]; exact State.heap_pushCell_size _ _
  have d3' : decode c.code (pc + 3) = .ok (.dup, 1) := by rw [hb]; exact d3
  obtain ⟨U, hsteps, hrun, hend, hW, hsame, ce, hce, hO⟩ := X₁.ctorThrow0 hexec htr (own := own) (cls := cls) (names := names) (ic := ic) hown' hcls hnames h (fun x hx => nomatch hx) hfX hkX hcellA (by rw [hhp, hT]; exact Nat.le_refl _)
    (g := { method := m, pc := pc + 4, locals := ls, stack := .ref T.heap.size :: .ref T.heap.size :: rest, locked := none }) rfl hsize rfl rfl (rest := rest) rfl
    (by rw [hb]; exact d4) (by rw [hb]; exact d7) hout hRframes (by simp only [List.map_cons, List.sum_cons, hcat]; omega) hlocks
  obtain ⟨f1, f2⟩ := vx_frame hsame
  rw [hhp] at f1 f2
  have hWs : s.WarmedH U.vm := State.WarmedH.trans hW0 hW
  have hcl : s.vm.findClass cls = some ce.cls := by
    have h9 := hO.cls
    rw [hvm] at h9
    exact h9
  have hall : s.sameButNew ({ U with vm := s.vm } : State) locs mc ms := by
    subst hA
    obtain ⟨e1, e2⟩ := hsame
    rw [State.setFrames_setFrames] at e1
    have h2 : (T.setVm s.vm).sameButNew ({ U with vm := s.vm } : State) [] (0 + 1) (0 + 6) := ⟨e1, e2⟩
    have h3 := X.same.trans h2
    rw [List.append_nil] at h3
    exact h3.mono hc hs
  refine ⟨U, ?_, .threw T.heap.size, hrun, hend, Or.inr ⟨T.heap.size, rfl, cls, ce, locs, hx U hWs.alike (by rw [← hT]; exact (Array.getElem?_eq_some_iff.mp hce).1) (fun q hq => f2 q hq (fun z hz => nomatch hz)), hce, hO.vm, hcl, hWs, hall, hf⟩⟩
  refine st1 _ ?_
  show Steps p.tables e below (T1.setTop { method := m, pc := pc + 3, locals := ls, stack := .ref T.heap.size :: rest, locked := none }) _
  jvm_step X₁.here [X₁.here.top, hexec, d3', Value.category]
  exact hsteps
/-- 'throw new E("text")': new; dup; ldc; invokespecial; athrow -/
theorem vx_throwS {cc : ByteArray} {pc : Nat} (hexec : p.tables.exec = Jvm.exec) (hb : c.code = cc) (hl : l.stackTraces = false) {own cls text : String} {names : List String} {ik is ic mc ms sa : Nat} {A : Nat → Prop}
    (hown : s.vm.findClass own = some m.cls) (hcls : Bundle.fit cls = true) (hnames : ∀ n ∈ names, Bundle.fit n = true)
    (hk : (Cond.classLink own ik cls).before args s = true) (hini : (Cond.initialized cls).before args s = true) (hstr : vk_R own is text sa s) (hat : ∀ w ∈ vx_atS own ic cls names, w.before args s = true)
    (hgood : ∀ w ∈ Cond.classLink own ik cls :: Cond.initialized cls :: vx_atS own ic cls names, vx_ot w = true)
    (hU : vx_Zq Bundle.tN "UNASSIGNED_STACK" Bundle.steD A s s.heap) (hN : vx_Zq Bundle.tN "SUPPRESSED_SENTINEL" Bundle.listD A s s.heap) (hS : va_S A s.heap H locs) (hsize : ls.size = c.maxLocals)
    (d0 : decode cc pc = .ok (.new ik, 3)) (d3 : decode cc (pc + 3) = .ok (.dup, 1)) (d4 : decode cc (pc + 4) = .ok (.ldc is, 2)) (d6 : decode cc (pc + 6) = .ok (.invokespecial ic, 3)) (d9 : decode cc (pc + 9) = .ok (.athrow, 1))
    (hout : ∀ x ∈ c.exceptionTable.toList, covers x (pc + 9) = false)
    (hRframes : names.length + 3 < R.frames) (hRlocals : (rest.map fun v => v.category).sum + (13 * (names.length + 1) + 43) ≤ R.locals) (hRcells : cells + 1 ≤ R.cells) (hRslots : slots + 6 ≤ R.slots) (hlocks : meth.locks = false)
    (hx : ∀ t : State, s.vm.Alike t.vm → H.size < t.heap.size → (∀ q : Nat, q < H.size → t.heap[q]? = H[q]?) → XC cls s t)
    (hf : ∀ z ∈ locs, free z.base) (hc : cells + 1 ≤ mc) (hs : slots + 6 ≤ ms) :
    W p l e R s m args below meth c H locs cells slots (vx_MQ below Qc XC args s mc ms free) (F0 m pc ls rest) := by
  intro T hT X
  have htr : e.platform.stackTraces = false := (show e.platform.stackTraces = l.stackTraces by rw [X.admits.platform]).trans hl
  have Y := vx_rebase X (R' := { frames := R.frames, locals := R.locals, cells := 1, slots := 6 }) (Nat.le_refl _) (Nat.le_refl _) hRcells hRslots
  obtain ⟨s', hA⟩ : ∃ z, z = (T.setVm s.vm).setFrames (.invoking m args :: below) := ⟨_, rfl⟩
  rw [← hA] at Y
  have hvm : s'.vm = s.vm := by rw [hA]; rfl
  have hhp : s'.heap = H := by rw [hA]; exact hT
  have hW0 : s.WarmedH s'.vm := by rw [hvm]; exact State.WarmedH.refl s
  have hat' : ∀ w ∈ vx_atS own ic cls names, w.before args s' = true := fun w hw => vx_ot_at hW0 hvm.symm (hgood w (List.mem_cons_of_mem _ (List.mem_cons_of_mem _ hw))) (hat w hw)
  have hk' : (Cond.classLink own ik cls).before args s' = true := vx_ot_at hW0 hvm.symm (hgood _ List.mem_cons_self) hk
  have hini' : (Cond.initialized cls).before args s' = true := vx_ot_at hW0 hvm.symm (hgood _ (List.mem_cons_of_mem _ List.mem_cons_self)) hini
  have hU' : vx_Zq Bundle.tN "UNASSIGNED_STACK" Bundle.steD A s' s'.heap := by rw [hhp]; exact vx_Zq.moved hW0.alike (hU.kept hS.2.1)
  have hN' : vx_Zq Bundle.tN "SUPPRESSED_SENTINEL" Bundle.listD A s' s'.heap := by rw [hhp]; exact vx_Zq.moved hW0.alike (hN.kept hS.2.1)
  have h : ∀ w ∈ Bundle.ownAtoms own ic cls names, w.before args s' = true := vx_own hat' (vx_isRefq hU'.1) (vx_isRefq hN'.1) hU'.2.word hN'.2.word
  have hown' : s'.vm.findClass own = some m.cls := by rw [hvm]; exact hown
  have hins : (Cond.instantiable cls 6).before args s' = true := h _ (by simp [Bundle.ownAtoms])
  obtain ⟨vm₁, cX, kX, hfX, hkX, -, -, X₁, st1⟩ := Y.newCold hexec (own := own) (C := cls) (index := ik) (n := 6) hown' hk' hins hini'
    (g := F0 m pc ls rest) rfl (by rw [hb]; exact d0) (Nat.le_refl _) (Nat.le_refl _)
  generalize hT1 : (T.setVm vm₁).pushCell { cls := cX, slots := kX.instanceTypes.map defaultValue, vm := .none } = T1 at X₁ st1
  have hcat : (Value.ref T.heap.size).category = 1 := rfl
  have hcellA : T1.heap[T.heap.size]? = some (freshCell cX kX) := by rw [← hT1]; exact State.heap_pushCell_size _ _
  have d3' : decode c.code (pc + 3) = .ok (.dup, 1) := by rw [hb]; exact d3
  have d4' : decode c.code (pc + 4) = .ok (.ldc is, 2) := by rw [hb]; exact d4
  have hstr' : vk_R own is text sa s' := vk_R.warm hW0 hstr
  obtain ⟨U, hsteps, hrun, hend, hW, hsame, ce, hce, hO⟩ := X₁.ctorThrowS hexec htr (own := own) (cls := cls) (names := names) (ic := ic) hown' hcls hnames h (fun x hx => nomatch hx) hfX hkX hcellA (by rw [hhp, hT]; exact Nat.le_refl _) (msg := .ref sa) rfl
    (g := { method := m, pc := pc + 6, locals := ls, stack := .ref sa :: .ref T.heap.size :: .ref T.heap.size :: rest, locked := none }) rfl hsize rfl rfl (rest := rest) rfl
    (by rw [hb]; exact d6) (by rw [hb]; exact d9) hout hRframes (by simp only [List.map_cons, List.sum_cons, hcat]; omega) hlocks
  obtain ⟨f1, f2⟩ := vx_frame hsame
  rw [hhp] at f1 f2
  have hWs : s.WarmedH U.vm := State.WarmedH.trans hW0 hW
  have hcl : s.vm.findClass cls = some ce.cls := by
    have h9 := hO.cls
    rw [hvm] at h9
    exact h9
  have hall : s.sameButNew ({ U with vm := s.vm } : State) locs mc ms := by
    subst hA
    obtain ⟨e1, e2⟩ := hsame
    rw [State.setFrames_setFrames] at e1
    have h2 : (T.setVm s.vm).sameButNew ({ U with vm := s.vm } : State) [] (0 + 1) (0 + 6) := ⟨e1, e2⟩
    have h3 := X.same.trans h2
    rw [List.append_nil] at h3
    exact h3.mono hc hs
  refine ⟨U, ?_, .threw T.heap.size, hrun, hend, Or.inr ⟨T.heap.size, rfl, cls, ce, locs, hx U hWs.alike (by rw [← hT]; exact (Array.getElem?_eq_some_iff.mp hce).1) (fun q hq => f2 q hq (fun z hz => nomatch hz)), hce, hO.vm, hcl, hWs, hall, hf⟩⟩
  refine st1 _ ?_
  show Steps p.tables e below (T1.setTop { method := m, pc := pc + 3, locals := ls, stack := .ref T.heap.size :: rest, locked := none }) _
  jvm_step X₁.here [X₁.here.top, hexec, d3', Value.category]
  exact X₁.ldcString hexec (own := own) (text := text) (index := is) (a := sa) hown' hstr'.1 hstr'.2
    (g := { method := m, pc := pc + 4, locals := ls, stack := .ref T.heap.size :: .ref T.heap.size :: rest, locked := none }) rfl d4' _ hsteps
/-- 'throw new E("text")', the text by a wide index -/
theorem vx_throwSW {cc : ByteArray} {pc : Nat} (hexec : p.tables.exec = Jvm.exec) (hb : c.code = cc) (hl : l.stackTraces = false) {own cls text : String} {names : List String} {ik is ic mc ms sa : Nat} {A : Nat → Prop}
    (hown : s.vm.findClass own = some m.cls) (hcls : Bundle.fit cls = true) (hnames : ∀ n ∈ names, Bundle.fit n = true)
    (hk : (Cond.classLink own ik cls).before args s = true) (hini : (Cond.initialized cls).before args s = true) (hstr : vk_R own is text sa s) (hat : ∀ w ∈ vx_atS own ic cls names, w.before args s = true)
    (hgood : ∀ w ∈ Cond.classLink own ik cls :: Cond.initialized cls :: vx_atS own ic cls names, vx_ot w = true)
    (hU : vx_Zq Bundle.tN "UNASSIGNED_STACK" Bundle.steD A s s.heap) (hN : vx_Zq Bundle.tN "SUPPRESSED_SENTINEL" Bundle.listD A s s.heap) (hS : va_S A s.heap H locs) (hsize : ls.size = c.maxLocals)
    (d0 : decode cc pc = .ok (.new ik, 3)) (d3 : decode cc (pc + 3) = .ok (.dup, 1)) (d4 : decode cc (pc + 4) = .ok (.ldc_w is, 3)) (d7 : decode cc (pc + 7) = .ok (.invokespecial ic, 3)) (d10 : decode cc (pc + 10) = .ok (.athrow, 1))
    (hout : ∀ x ∈ c.exceptionTable.toList, covers x (pc + 10) = false)
    (hRframes : names.length + 3 < R.frames) (hRlocals : (rest.map fun v => v.category).sum + (13 * (names.length + 1) + 43) ≤ R.locals) (hRcells : cells + 1 ≤ R.cells) (hRslots : slots + 6 ≤ R.slots) (hlocks : meth.locks = false)
    (hx : ∀ t : State, s.vm.Alike t.vm → H.size < t.heap.size → (∀ q : Nat, q < H.size → t.heap[q]? = H[q]?) → XC cls s t)
    (hf : ∀ z ∈ locs, free z.base) (hc : cells + 1 ≤ mc) (hs : slots + 6 ≤ ms) :
    W p l e R s m args below meth c H locs cells slots (vx_MQ below Qc XC args s mc ms free) (F0 m pc ls rest) := by
  intro T hT X
  have htr : e.platform.stackTraces = false := (show e.platform.stackTraces = l.stackTraces by rw [X.admits.platform]).trans hl
  have Y := vx_rebase X (R' := { frames := R.frames, locals := R.locals, cells := 1, slots := 6 }) (Nat.le_refl _) (Nat.le_refl _) hRcells hRslots
  obtain ⟨s', hA⟩ : ∃ z, z = (T.setVm s.vm).setFrames (.invoking m args :: below) := ⟨_, rfl⟩
  rw [← hA] at Y
  have hvm : s'.vm = s.vm := by rw [hA]; rfl
  have hhp : s'.heap = H := by rw [hA]; exact hT
  have hW0 : s.WarmedH s'.vm := by rw [hvm]; exact State.WarmedH.refl s
  have hat' : ∀ w ∈ vx_atS own ic cls names, w.before args s' = true := fun w hw => vx_ot_at hW0 hvm.symm (hgood w (List.mem_cons_of_mem _ (List.mem_cons_of_mem _ hw))) (hat w hw)
  have hk' : (Cond.classLink own ik cls).before args s' = true := vx_ot_at hW0 hvm.symm (hgood _ List.mem_cons_self) hk
  have hini' : (Cond.initialized cls).before args s' = true := vx_ot_at hW0 hvm.symm (hgood _ (List.mem_cons_of_mem _ List.mem_cons_self)) hini
  have hU' : vx_Zq Bundle.tN "UNASSIGNED_STACK" Bundle.steD A s' s'.heap := by rw [hhp]; exact vx_Zq.moved hW0.alike (hU.kept hS.2.1)
  have hN' : vx_Zq Bundle.tN "SUPPRESSED_SENTINEL" Bundle.listD A s' s'.heap := by rw [hhp]; exact vx_Zq.moved hW0.alike (hN.kept hS.2.1)
  have h : ∀ w ∈ Bundle.ownAtoms own ic cls names, w.before args s' = true := vx_own hat' (vx_isRefq hU'.1) (vx_isRefq hN'.1) hU'.2.word hN'.2.word
  have hown' : s'.vm.findClass own = some m.cls := by rw [hvm]; exact hown
  have hins : (Cond.instantiable cls 6).before args s' = true := h _ (by simp [Bundle.ownAtoms])
  obtain ⟨vm₁, cX, kX, hfX, hkX, -, -, X₁, st1⟩ := Y.newCold hexec (own := own) (C := cls) (index := ik) (n := 6) hown' hk' hins hini'
    (g := F0 m pc ls rest) rfl (by rw [hb]; exact d0) (Nat.le_refl _) (Nat.le_refl _)
  generalize hT1 : (T.setVm vm₁).pushCell { cls := cX, slots := kX.instanceTypes.map defaultValue, vm := .none } = T1 at X₁ st1
  have hcat : (Value.ref T.heap.size).category = 1 := rfl
  have hcellA : T1.heap[T.heap.size]? = some (freshCell cX kX) := by rw [← hT1]; exact State.heap_pushCell_size _ _
  have d3' : decode c.code (pc + 3) = .ok (.dup, 1) := by rw [hb]; exact d3
  have d4' : decode c.code (pc + 4) = .ok (.ldc_w is, 3) := by rw [hb]; exact d4
  have hstr' : vk_R own is text sa s' := vk_R.warm hW0 hstr
  obtain ⟨U, hsteps, hrun, hend, hW, hsame, ce, hce, hO⟩ := X₁.ctorThrowS hexec htr (own := own) (cls := cls) (names := names) (ic := ic) hown' hcls hnames h (fun x hx => nomatch hx) hfX hkX hcellA (by rw [hhp, hT]; exact Nat.le_refl _) (msg := .ref sa) rfl
    (g := { method := m, pc := pc + 7, locals := ls, stack := .ref sa :: .ref T.heap.size :: .ref T.heap.size :: rest, locked := none }) rfl hsize rfl rfl (rest := rest) rfl
    (by rw [hb]; exact d7) (by rw [hb]; exact d10) hout hRframes (by simp only [List.map_cons, List.sum_cons, hcat]; omega) hlocks
  obtain ⟨f1, f2⟩ := vx_frame hsame
  rw [hhp] at f1 f2
  have hWs : s.WarmedH U.vm := State.WarmedH.trans hW0 hW
  have hcl : s.vm.findClass cls = some ce.cls := by
    have h9 := hO.cls
    rw [hvm] at h9
    exact h9
  have hall : s.sameButNew ({ U with vm := s.vm } : State) locs mc ms := by
    subst hA
    obtain ⟨e1, e2⟩ := hsame
    rw [State.setFrames_setFrames] at e1
    have h2 : (T.setVm s.vm).sameButNew ({ U with vm := s.vm } : State) [] (0 + 1) (0 + 6) := ⟨e1, e2⟩
    have h3 := X.same.trans h2
    rw [List.append_nil] at h3
    exact h3.mono hc hs
  refine ⟨U, ?_, .threw T.heap.size, hrun, hend, Or.inr ⟨T.heap.size, rfl, cls, ce, locs, hx U hWs.alike (by rw [← hT]; exact (Array.getElem?_eq_some_iff.mp hce).1) (fun q hq => f2 q hq (fun z hz => nomatch hz)), hce, hO.vm, hcl, hWs, hall, hf⟩⟩
  refine st1 _ ?_
  show Steps p.tables e below (T1.setTop { method := m, pc := pc + 3, locals := ls, stack := .ref T.heap.size :: rest, locked := none }) _
  jvm_step X₁.here [X₁.here.top, hexec, d3', Value.category]
  exact X₁.ldcStringW hexec (own := own) (text := text) (index := is) (a := sa) hown' hstr'.1 hstr'.2
    (g := { method := m, pc := pc + 4, locals := ls, stack := .ref T.heap.size :: .ref T.heap.size :: rest, locked := none }) rfl d4' _ hsteps
end Ends
section Bodies
variable {l : Launch}
theorem vx_ofW {y : MethodName} {ws ws' : List Cond} {rm : Room} {Pc : Array Value → State → Prop} {Qc : Array Value → State → Outcome → State → Prop} {XC : String → State → State → Prop} {mc ms : Nat} {free : Addr → Prop} {cc : ByteArray} {maxL : Nat} {ret : Option FieldType}
    (hy : plainName y.cls = true) (hw : ws = Cond.code y cc maxL ret :: ws')
    (body : ∀ p e s m args below meth c s₁, BodyLoose p l y (headSpec ws rm) cc maxL ret e s m args below meth c s₁ → c.maxLocals = maxL → (∀ x ∈ c.exceptionTable.toList, False) → Pc args s →
      W p l e (headSpec ws rm).room s m args below meth c s.heap [] 0 0 (vx_MQ below Qc XC args s mc ms free) (entryFrame m args maxL)) : vx_Met l y ws rm Pc Qc XC mc ms free := by
  refine MetFree.of_bodyS (code := cc) (maxLocals := maxL) (ret := ret) hy ?_ ?_
  · intro args s m h hn
    obtain ⟨meth, c, h1, h2, h3, h4, h5, h6, -, -⟩ := Cond.code_spec hn (atoms_spec (ws := ws) h _ (by rw [hw]; exact List.mem_cons_self))
    exact ⟨meth, c, h1, h2, h3, h4, h5, h6⟩
  · intro p e s m args below meth c s₁ B hml hP _
    have hh0 : s₁.heap = s.heap := by rw [B.state]; rfl
    have ht : ∀ x ∈ c.exceptionTable.toList, False := by
      obtain ⟨meth9, c9, h1, h2, -, -, -, -, h7, -⟩ := Cond.code_spec B.named (atoms_spec (ws := ws) B.pre _ (by rw [hw]; exact List.mem_cons_self))
      cases Option.some.inj (h1.symm.trans B.method)
      cases Option.some.inj (h2.symm.trans (Stand.of_body B).code)
      intro x hx
      rw [Array.isEmpty_iff.mp h7] at hx
      cases hx
    obtain ⟨t, a1, o, b1, b2, b3⟩ := body p e s m args below meth c s₁ B hml ht hP s₁ hh0 (Stand.of_body B)
    exact ⟨t, o, a1, b1, b2, b3⟩
/-- the table of a body with handlers -/
theorem vx_table {p : Program} {x y : MethodName} {S : Spec} {cc bytes : ByteArray} {maxL maxL' : Nat} {ret ret' : Option FieldType} {e : Env} {s s₁ : State} {m : MethodId} {args : Array Value} {below : List Frame} {meth : Method} {c : Code} {hh : List (Nat × Nat × Nat × Nat)}
    (B : BodyLoose p l y S cc maxL ret e s m args below meth c s₁) (h : (Cond.codeWith y bytes maxL' ret' hh).before args s = true) : c.exceptionTable.toList = tableOf hh := by
  obtain ⟨m9, meth9, c9, hn9, h1, h2, -, -, h6, -⟩ := Cond.codeWith_spec h
  cases Option.some.inj (hn9.symm.trans B.named)
  cases Option.some.inj (h1.symm.trans B.method)
  cases Option.some.inj (h2.symm.trans (Stand.of_body B).code)
  rw [← h6, table_eq]
end Bodies
end VXA
/-! ===== END ===== -/
/-! ===== BEGIN a static call of a method with an exception table ===== -/
section VXS
variable {p : Program} {l : Launch} {e : Env} {R : Room} {s : State} {m : MethodId} {args : Array Value} {below : List Frame} {meth : Method} {c : Code} {T : State} {H : Heap} {locs : List Loc} {cells slots : Nat}
abbrev vx_CSW (R : Room) (s : State) (args : Array Value) (own : String) (index : Nat) (y : MethodName) (bytes : ByteArray) (maxL : Nat) (ret : Option FieldType) (hh : List (Nat × Nat × Nat × Nat)) (ws : List Cond) (rm : Room) (mc ms n : Nat) : Prop :=
  (rm.cells = mc ∧ rm.slots = ms ∧ rm.frames + 1 ≤ R.frames ∧ 8 + (maxL + 11) + rm.locals ≤ R.locals ∧ (∀ w ∈ ws, ∀ (a' : Array Value) (U : State), s.WarmedH U.vm → w.before a' U = true) ∧ Cond.codeWith y bytes maxL ret hh ∈ ws) ∧
  (Cond.codeWith y bytes maxL ret hh).before args s = true ∧ (Cond.initialized y.cls).before args s = true ∧ (y.cls ≠ "java/lang/invoke/MethodHandle" ∧ y.cls ≠ "java/lang/invoke/VarHandle") ∧
  (∀ sig, parseMethodDescriptor y.desc = some sig → n = sig.parameters.length) ∧ (Cond.methodLink own index y).before args s = true ∧ (Cond.static y).before args s = true
theorem vx_cwSW {own : String} {index maxL mc ms : Nat} {y : MethodName} {bytes : ByteArray} {ret : Option FieldType} {hh : List (Nat × Nat × Nat × Nat)} {Ts ws ws' : List Cond} {rm : Room} (n : Nat) (ht : ∀ w ∈ Ts, w.before args s = true) (hT : GoodIn Ts (va_wsS own index y ws)) (hw : ws = Cond.codeWith y bytes maxL ret hh :: ws') (hrc : rm.cells = mc) (hrs : rm.slots = ms)
    (hd : y.cls ≠ "java/lang/invoke/MethodHandle" ∧ y.cls ≠ "java/lang/invoke/VarHandle" ∧ (parseMethodDescriptor y.desc).map (fun d => d.parameters.length) = some n) (hR : rm.frames + 1 ≤ R.frames ∧ 8 + (maxL + 11) + rm.locals ≤ R.locals) :
    vx_CSW R s args own index y bytes maxL ret hh ws rm mc ms n := by
  have ok : ∀ w ∈ va_wsS own index y ws, w.before args s = true := fun w h => ht w (hT w h).1
  have hG : GoodIn Ts ws := fun w h => hT w (by unfold va_wsS; exact List.mem_append_right _ h)
  have hc : Cond.codeWith y bytes maxL ret hh ∈ ws := by rw [hw]; exact List.mem_cons_self
  refine ⟨⟨hrc, hrs, hR.1, hR.2, pay_in ht hG, hc⟩, ht _ (hG _ hc).1, ok _ (by simp [va_wsS]), ⟨hd.1, hd.2.1⟩, fun sig h => ?_, ok _ (by simp [va_wsS]), ok _ (by simp [va_wsS])⟩
  have h2 := hd.2.2
  rw [h] at h2
  exact (Option.some.inj h2).symm
theorem vx_callSW (X : Stand p l e R s m args below meth c T locs cells slots) (hexec : p.tables.exec = Jvm.exec) {own : String} {index : Nat} {y : MethodName} {bytes : ByteArray} {maxL : Nat} {ret : Option FieldType} {hh : List (Nat × Nat × Nat × Nat)}
    (hown : s.vm.findClass own = some m.cls) (hlink : (Cond.methodLink own index y).before args s = true) (hstat : (Cond.static y).before args s = true) (hinit : (Cond.initialized y.cls).before args s = true)
    (hcode : (Cond.codeWith y bytes maxL ret hh).before args s = true) (hy : y.cls ≠ "java/lang/invoke/MethodHandle" ∧ y.cls ≠ "java/lang/invoke/VarHandle")
    {W9 : Nat} {Pre : Pt → Array Value → Prop} {Post : Pt → Array Value → Option Value → Pt → Prop} (hK : Back l R p e below s args y 3 W9 Pre Post)
    {g : JFrame} (hg : g.method = m) (hsize : g.locals.size = c.maxLocals) {argsL rest : List Value} (hlen : ∀ sig, parseMethodDescriptor y.desc = some sig → argsL.length = sig.parameters.length)
    (hstack : g.stack = argsL.reverse ++ rest) (hW : 2 * g.monitorRoom + (rest.map fun v => v.category).sum ≤ W9) (hdg : decode c.code g.pc = .ok (.invokestatic index, 3))
    (hpre : ∀ vm₁, s.WarmedH vm₁ → Pre ⟨T.setVm vm₁, locs, cells, slots⟩ argsL.toArray) :
    ∃ (v : Option Value) (vm₁ : Vm) (B : Pt), s.WarmedH vm₁ ∧ Stand p l e R s m args below meth c B.U B.locs B.cells B.slots ∧ Post ⟨T.setVm vm₁, locs, cells, slots⟩ argsL.toArray v B ∧
      ∀ target, Steps p.tables e below (B.U.setTop { g with pc := g.pc + 3, stack := v.toList ++ rest }) target → Steps p.tables e below (T.setTop g) target := by
  obtain ⟨mk, methM, cM, hnamed, hmethM, -, -, -, -, -, -, hsigM⟩ := Cond.codeWith_spec hcode
  have hstatic : methM.isStatic = true := Cond.static_spec hnamed hmethM hstat
  obtain ⟨kP, hkP, -⟩ := className_of_methodNamed hnamed
  have hinitP : kP.init = .initialized := Cond.initialized_spec (findClass_of_methodNamed hnamed) hkP hinit
  obtain ⟨vm₁, X₁, hstep₁⟩ := X.invokestatic hexec hown hlink hnamed hmethM hstatic hkP hinitP hy (g := g) hg (argsL := argsL) (rest := rest) (hlen _ hsigM) hstack hdg
  obtain ⟨v, B, X', hpost, hsteps⟩ := hK m meth c ⟨T.setVm vm₁, locs, cells, slots⟩ { g with stack := rest } (.invokestatic index) mk argsL.toArray X₁ hg hsize hdg hW (X₁.named hnamed) (hpre vm₁ X₁.warmed)
  exact ⟨v, vm₁, B, X₁.warmed, X', hpost, fun target h => hstep₁ _ fun acts => by rw [doInvoke_state]; exact hsteps.trans h⟩
theorem vx_runSW {y : MethodName} {bytes cc : ByteArray} {maxL nL mc ms n index : Nat} {ret : Option FieldType} {hh : List (Nat × Nat × Nat × Nat)} {ws : List Cond} {rm : Room} {Pc : Array Value → State → Prop} {Qc : Array Value → State → Outcome → State → Prop} {free : Addr → Prop} {Ts : List Cond} {own : String} {As rest : List Value} {g : JFrame}
    (S : CallFix p m c cc nL s args Ts own) (hM : Met l y ws rm Pc Qc mc ms free) (cw : vx_CSW R s args own index y bytes maxL ret hh ws rm mc ms n) (hp : PreS s H Pc As)
    (hg : g.method = m) (hn : As.length = n) (hsize : g.locals.size = nL) (hstack : g.stack = As.reverse ++ rest) (hW : 2 * g.monitorRoom + (rest.map fun v => v.category).sum ≤ 8) (hdg : decode cc g.pc = .ok (.invokestatic index, 3)) (hf : cells + mc ≤ R.cells ∧ slots + ms ≤ R.slots) :
    va_Run p l e R s m args below meth c H locs cells slots mc ms g rest (Qc As.toArray) (free) := by
  obtain ⟨⟨hrc, hrs, hfr, hlo, hws, hcw⟩, hcode, hini, hy, hlen, hl, hstt⟩ := cw
  have hK : Back l R p e below s args y 3 8 (PreOf R mc ms Pc) (PostOf Qc mc ms free) := va_backW (hh := hh) (bytes := bytes) (maxL := maxL) (ret := ret) hM hp.1 hrc hrs hfr hlo hws hcw (fun a' U hW => word_at hW (Or.inl (by first | rfl | simp [Cond.onTables, Cond.keeps, Cond.steady])) hini)
  obtain ⟨hx, hb, hml, ho, -⟩ := S
  intro T hT X
  obtain ⟨v, vm₁, ⟨U', l2, c2, s2⟩, hW₁, X', ⟨g', mk, t, L, e1, e2, hq, h1, hL, h2, h3⟩, st⟩ := vx_callSW X hx (hh := hh) (bytes := bytes) (maxL := maxL) (ret := ret) ho hl hstt hini hcode hy hK hg (hsize.trans hml.symm) (argsL := As) (rest := rest) (fun sig h => hn.trans (hlen sig h)) hstack hW (by rw [hb]; exact hdg)
    (fun vm₁ hW₁ => ⟨hf.1, hf.2, hp.2 (T.setVm vm₁) hT hW₁⟩)
  dsimp only [Pt.U, Pt.locs, Pt.cells, Pt.slots] at X' e1 e2 h1 h2 h3 st
  subst h1; subst h2; subst h3
  exact ⟨v, (T.setVm vm₁).calling g' mk As.toArray, t, U', L, hT, X', hL, e1, e2, hq, st⟩
/-- not caught here, past rows that name other classes: it goes on to the caller -/
theorem vx_outP {p : Program} {l : Launch} {e : Env} {R : Room} {s : State} {m : MethodId} {args : Array Value} {below : List Frame} {meth : Method} {c : Code} {H : Heap} {locs : List Loc} {cells slots : Nat} {free : Addr → Prop} {ls : Array Slot} {rest : List Value} {Qc : Array Value → State → Outcome → State → Prop} {XC : String → State → State → Prop}
    {pc : Nat} {own E : String} {ce : Cell} {q : Addr} {mc ms : Nat} (hown : s.vm.findClass own = some m.cls) (hlocks : meth.locks = false)
    (hpass : ∀ z ∈ c.exceptionTable.toList, covers z pc = false ∨ (z.catchType ≠ 0 ∧ ∃ nm : String, (Cond.classLink own z.catchType nm).before args s = true ∧ va_Nc E nm s)) (hcell : H[q]? = some ce) (hv : ce.vm = .none) (hcl : s.vm.findClass E = some ce.cls)
    (hx : ∀ t : State, t.heap = H → s.vm.Alike t.vm → XC E s t) (hf : ∀ z ∈ locs, free z.base) (hc : cells ≤ mc) (hs : slots ≤ ms) :
    vx_W p l e R s m args below meth c H locs cells slots (vx_MQ below Qc XC args s mc ms free) (F0 m pc ls rest) q := by
  intro T hT X
  have hpl : e.platform.magicAccessors = ({} : Platform).magicAccessors := by rw [X.admits.platform]
  obtain ⟨vm', hW', X', st⟩ := X.outThrough hlocks q (g := F0 m pc ls rest) rfl rfl rfl (cell := ce) (by rw [hT]; exact hcell) (by rw [hv]; rfl)
    (by obtain ⟨k9, h9, -⟩ := Vm.findClass_spec hcl; exact ⟨k9, h9⟩) (fun z hz => by
      rcases hpass z hz with h | ⟨hz0, nm, hl1, hn1⟩
      · exact Or.inl h
      · obtain ⟨c6, hc6, hcl6⟩ := Cond.classLink_spec hown hl1 e.platform hpl
        obtain ⟨a8, b8, h1, h2, h3⟩ := hn1
        cases Option.some.inj (h1.symm.trans hcl)
        cases Option.some.inj (h2.symm.trans hc6)
        exact Or.inr ⟨hz0, _, hcl6, h3⟩)
  obtain ⟨g₀, hfr⟩ := X'.frames_eq
  have hcell9 : ((T.setVm vm').setFrames (.throwing q :: below)).heap[q]? = some ce := by
    show T.heap[q]? = some ce
    rw [hT]; exact hcell
  have hend : Ended ((T.setVm vm').setFrames (.throwing q :: below)) below (.threw q) := State.frames_setFrames _ (State.cur_lt_of_frames hfr)
  refine ⟨(T.setVm vm').setFrames (.throwing q :: below), ?_, .threw q, X'.here.running, hend, Or.inr ⟨q, rfl, E, ce, locs, hx _ hT (X'.ends _).1.alike, hcell9, hv, hcl, (X'.ends _).1, (X'.ends _).2.mono hc hs, hf⟩⟩
  rw [X.pushThrowing_eq]
  exact st
/-- a thing of a world lies in the heap -/
theorem vx_lt {D : va_G} {cl : List vw_C} {ws : va_W} {H1 : Heap} (h : va_P D cl ws H1) {k : Nat} {q : Nat × va_E} (hk : ws[k]? = some q) : q.1 < H1.size := (h k q hk).lt
end VXS
/-! ===== END ===== -/
/-! ===== BEGIN methods with a table of their own: called by a name, returning or throwing ===== -/
section VXH
/-! vx_backW, vx_callVX, vx_callSX, vx_callVW, vx_runVW, vx_runVX, vx_runSX, vx_ofWH follow the same proofs as their sisters above (Free/Laws.lean, Shelf42/LK1.lean); vx_outP calls Shelf42/NT130.lean (outThrough). -/
section
variable {l : Launch} {R : Room} {p : Program} {e : Env} {below : List Frame} {s : State} {sargs : Array Value} {y : MethodName} {len W9 : Nat}
theorem vx_backW {ws : List Cond} {rm : Room} {Pc : Array Value → State → Prop} {Qc : Array Value → State → Outcome → State → Prop} {XC : String → State → State → Prop} {mc ms : Nat} {free : Addr → Prop} {bytes : ByteArray} {maxL : Nat} {ret : Option FieldType} {hh : List (Nat × Nat × Nat × Nat)}
    (hM : vx_Met l y ws rm Pc Qc XC mc ms free) (hblind : FrameBlind Pc) (hrc : rm.cells = mc) (hrs : rm.slots = ms)
    (hframes : rm.frames + 1 ≤ R.frames) (hlocals : W9 + (maxL + 11) + rm.locals ≤ R.locals)
    (hws : ∀ w ∈ ws, ∀ a' U, s.WarmedH U.vm → w.before a' U = true) (hcode : Cond.codeWith y bytes maxL ret hh ∈ ws) (hinit : ∀ a' U, s.WarmedH U.vm → (Cond.initialized y.cls).before a' U = true) :
    vx_Back l R p e below s sargs y len W9 (PreOf R mc ms Pc) (PostOf Qc mc ms free) (vx_Post XC mc ms free) := by
  intro m meth c A g ig mk a X hg hsize hdg hW hn hp
  have h1 : (headSpec ws rm).pre.before a A.U = true := atoms_intro fun w hw => hws w hw _ _ X.warmed
  have h2 : (Cond.codeWith y bytes maxL ret hh).before a A.U = true := hws _ hcode _ _ X.warmed
  have h3 : (Cond.initialized y.cls).before a A.U = true := hinit _ _ X.warmed
  have h4 : A.cells + (headSpec ws rm).room.cells ≤ R.cells := by rw [show (headSpec ws rm).room.cells = mc from hrc]; exact hp.1
  have h5 : A.slots + (headSpec ws rm).room.slots ≤ R.slots := by rw [show (headSpec ws rm).room.slots = ms from hrs]; exact hp.2.1
  have hPc : Pc a (A.U.calling g mk a) := hblind _ _ _ _ hp.2.2
  obtain ⟨U, Ls, c0, s0⟩ := A
  dsimp only [Pt.U, Pt.locs, Pt.cells, Pt.slots] at h1 h2 h3 h4 h5 X hn hPc ⊢
  obtain ⟨m9, methY, cY, hn9, hmY, hcY, -, hlY, -⟩ := Cond.codeWith_spec h2
  cases Option.some.inj (hn9.symm.trans hn)
  obtain ⟨kY, hkY, -⟩ := className_of_methodNamed hn
  have hinitY : kY.init = .initialized := Cond.initialized_spec (findClass_of_methodNamed hn) hkY h3
  have h : At U g.method c below := by rw [hg]; exact X.here
  have hlocals9 : W9 + (maxL + 11) + (headSpec ws rm).room.locals ≤ R.locals := hlocals
  have happ : (headSpec ws rm).appliesLoose y e.platform (U.calling g mk a) = true :=
    Spec.appliesLoose_calling (g := g) h hdg hn hkY hinitY
      (X.room_calling (g := g) (R' := (headSpec ws rm).room) hsize hmY hcY hframes (by rw [hlY]; omega) h4 h5) h1
  obtain ⟨mid, hmid⟩ := h.above
  have hfr : (U.setTop g).frames = (.java g :: mid) ++ below := by rw [State.frames_setTop' g h.top, hmid]; rfl
  obtain ⟨o, s₂, hsteps, -, hend, hq⟩ := Steps.callFree hM p X.admits X.cas X.clock (acts := []) hfr happ hPc trivial
  have hq' : vx_Q Qc XC mc ms free a (U.calling g mk a) o s₂ := hq
  rw [State.frames_setTop' g h.top] at hend
  obtain ⟨g₀, hg0⟩ := Option.isSome_iff_exists.mp h.top
  obtain ⟨r, hr⟩ := State.topJava?_eq_some.mp hg0
  have hr' : (({ U with heap := s₂.heap, slotsUsed := s₂.slotsUsed } : State).setVm s₂.vm).frames = .java g₀ :: r := hr
  rcases hq' with ⟨hqc, L, hfe, hL⟩ | ⟨q, rfl, E, ce, L, hx, hce, hcv, hcl, hW₂, hsm, hL⟩
  · obtain ⟨⟨v, rfl⟩, hW₂, e2, q2, q3, q4, q5, q6⟩ := id hfe
    have e3 : s₂ = ({ (U.calling g mk a).setFrames s₂.frames with heap := s₂.heap, slotsUsed := s₂.slotsUsed } : State).setVm s₂.vm := by
      have : s₂ = ({ s₂ with vm := (U.calling g mk a).vm } : State).setVm s₂.vm := rfl
      rw [e2] at this
      exact this
    obtain ⟨c₂, i₂, len₂, hc₂, hd₂, hf₂⟩ := hend
    have hW' : U.WarmedH s₂.vm := hW₂
    have hcc : c₂ = c := by
      have h1 : s₂.code? g.method = U.code? g.method := by
        rw [State.code?_eq, State.code?_eq, hW'.alike.method?]
      exact Option.some.inj (hc₂.symm.trans (h1.trans h.code))
    subst hcc
    have hlen : len₂ = len := by rw [hdg] at hd₂; cases hd₂; rfl
    subst hlen
    have hs₂ : s₂ = (({ U with heap := s₂.heap, slotsUsed := s₂.slotsUsed } : State).setVm s₂.vm).setTop { g with pc := g.pc + len₂, stack := v.toList ++ g.stack } := by
      refine e3.trans ?_
      rw [hf₂, State.calling_eq h.top, State.setFrames_setFrames, State.setTop_of_frames _ hr', hr]
      rfl
    have hsame : U.sameButNew ({ U with heap := s₂.heap, slotsUsed := s₂.slotsUsed } : State) L mc ms := by
      refine ⟨?_, q2, q3, q4, q5, q6⟩
      obtain ⟨t, ht, -⟩ := State.frames_cons hr
      show ({ U with heap := s₂.heap, slotsUsed := s₂.slotsUsed } : State) = { U.setFrames U.frames with heap := s₂.heap, slotsUsed := s₂.slotsUsed }
      rw [State.setFrames_self ht]
    subst hg
    refine Or.inl ⟨v, ⟨(({ U with heap := s₂.heap, slotsUsed := s₂.slotsUsed } : State).setVm s₂.vm), Ls ++ L, c0 + mc, s0 + ms⟩,
      ⟨X.admits, X.cas, X.clock, X.frames, X.room, X.hears, X.method, X.code, (X.here.setHeapUsed s₂.heap s₂.slotsUsed).setVm hW'.alike, X.tail, State.WarmedH.trans X.warmed hW', X.limits, X.bytes, X.same.trans (hsame.setVm s.vm)⟩,
      ⟨g, mk, s₂, L, rfl, rfl, hqc, rfl, hL, rfl, rfl⟩, ?_⟩
    show Steps p.tables e below _ ((({ U with heap := s₂.heap, slotsUsed := s₂.slotsUsed } : State).setVm s₂.vm).setTop { g with pc := g.pc + len₂, stack := v.toList ++ g.stack })
    rw [← hs₂]
    exact hsteps
  · obtain ⟨e2, q2, q3, q4, q5, q6⟩ := id hsm
    have e3 : s₂ = ({ (U.calling g mk a).setFrames s₂.frames with heap := s₂.heap, slotsUsed := s₂.slotsUsed } : State).setVm s₂.vm := by
      have : s₂ = ({ s₂ with vm := (U.calling g mk a).vm } : State).setVm s₂.vm := rfl
      rw [e2] at this
      exact this
    have hf₂ : s₂.frames = .throwing q :: .java g :: U.frames.tail := hend
    have hW' : U.WarmedH s₂.vm := hW₂
    have hs₂ : s₂ = ((({ U with heap := s₂.heap, slotsUsed := s₂.slotsUsed } : State).setVm s₂.vm).setTop g).pushFrame (.throwing q) := by
      refine e3.trans ?_
      rw [hf₂, State.calling_eq h.top, State.setFrames_setFrames, State.pushFrame, State.frames_setTop _ hr', State.setTop_of_frames _ hr', State.setFrames_setFrames, hr]
      rfl
    have hsame : U.sameButNew ({ U with heap := s₂.heap, slotsUsed := s₂.slotsUsed } : State) L mc ms := by
      refine ⟨?_, q2, q3, q4, q5, q6⟩
      obtain ⟨t, ht, -⟩ := State.frames_cons hr
      show ({ U with heap := s₂.heap, slotsUsed := s₂.slotsUsed } : State) = { U.setFrames U.frames with heap := s₂.heap, slotsUsed := s₂.slotsUsed }
      rw [State.setFrames_self ht]
    subst hg
    refine Or.inr ⟨q, ⟨(({ U with heap := s₂.heap, slotsUsed := s₂.slotsUsed } : State).setVm s₂.vm), Ls ++ L, c0 + mc, s0 + ms⟩,
      ⟨X.admits, X.cas, X.clock, X.frames, X.room, X.hears, X.method, X.code, (X.here.setHeapUsed s₂.heap s₂.slotsUsed).setVm hW'.alike, X.tail, State.WarmedH.trans X.warmed hW', X.limits, X.bytes, X.same.trans (hsame.setVm s.vm)⟩,
      ⟨g, mk, s₂, L, E, ce, rfl, rfl, hx, hce, hcv, hcl, rfl, hL, rfl, rfl⟩, ?_⟩
    show Steps p.tables e below _ (((({ U with heap := s₂.heap, slotsUsed := s₂.slotsUsed } : State).setVm s₂.vm).setTop g).pushFrame (.throwing q))
    rw [← hs₂]
    exact hsteps
end
variable {p : Program} {l : Launch} {e : Env} {R : Room} {s : State} {m : MethodId} {args : Array Value} {below : List Frame} {meth : Method} {c : Code} {T : State} {H : Heap} {locs : List Loc} {cells slots : Nat}
theorem vx_callVX (X : Stand p l e R s m args below meth c T locs cells slots) (hexec : p.tables.exec = Jvm.exec) {own C : String} {index : Nat} {y : MethodName} {bytes : ByteArray} {maxL : Nat} {ret : Option FieldType} {hh : List (Nat × Nat × Nat × Nat)}
    (hown : s.vm.findClass own = some m.cls) (hlink : (Cond.methodLink own index y).before args s = true) (hinst : (Cond.instanceMethod y).before args s = true) (hsel : (Cond.selects C y y).before args s = true)
    (hcode : (Cond.codeWith y bytes maxL ret hh).before args s = true) (hy : y.cls ≠ "java/lang/invoke/MethodHandle" ∧ y.cls ≠ "java/lang/invoke/VarHandle")
    {W9 : Nat} {Pre : Pt → Array Value → Prop} {Post : Pt → Array Value → Option Value → Pt → Prop} {PostX : Pt → Array Value → Addr → Pt → Prop} (hK : vx_Back l R p e below s args y 3 W9 Pre Post PostX)
    {b : Addr} {cellB : Cell} (hcell : T.heap[b]? = some cellB) (hobj : cellB.vm.isStatics = false) (hcls : s.vm.findClass C = some cellB.cls)
    {g : JFrame} (hg : g.method = m) (hsize : g.locals.size = c.maxLocals) {argsL rest : List Value} (hlen : ∀ sig, parseMethodDescriptor y.desc = some sig → argsL.length = sig.parameters.length)
    (hstack : g.stack = argsL.reverse ++ .ref b :: rest) (hW : 2 * g.monitorRoom + (rest.map fun v => v.category).sum ≤ W9) (hdg : decode c.code g.pc = .ok (.invokevirtual index, 3))
    (hpre : ∀ vm₁, s.WarmedH vm₁ → Pre ⟨T.setVm vm₁, locs, cells, slots⟩ (Value.ref b :: argsL).toArray) :
    (∃ (v : Option Value) (vm₁ : Vm) (B : Pt), s.WarmedH vm₁ ∧ Stand p l e R s m args below meth c B.U B.locs B.cells B.slots ∧ Post ⟨T.setVm vm₁, locs, cells, slots⟩ (Value.ref b :: argsL).toArray v B ∧
      ∀ target, Steps p.tables e below (B.U.setTop { g with pc := g.pc + 3, stack := v.toList ++ rest }) target → Steps p.tables e below (T.setTop g) target) ∨
    (∃ (q : Addr) (vm₁ : Vm) (B : Pt), s.WarmedH vm₁ ∧ Stand p l e R s m args below meth c B.U B.locs B.cells B.slots ∧ PostX ⟨T.setVm vm₁, locs, cells, slots⟩ (Value.ref b :: argsL).toArray q B ∧
      Steps p.tables e below (T.setTop g) ((B.U.setTop { g with stack := rest }).pushFrame (.throwing q))) := by
  obtain ⟨mk, methM, hnamed, hmethM, hstM, habM⟩ := Cond.instanceMethod_spec hinst
  obtain ⟨m8, methM', cM, hn8, hmethM', -, -, -, -, -, -, hsigM⟩ := Cond.codeWith_spec hcode
  cases Option.some.inj (hn8.symm.trans hnamed)
  cases hmethM.symm.trans hmethM'
  obtain ⟨c2, r2, m2, q1, q2, q3, q4, kP, hkP, hkPi⟩ := Cond.selects_spec hsel
  cases hcls.symm.trans q1
  cases (State.methodFound?_of_named hnamed hy).symm.trans q2
  cases hnamed.symm.trans q3
  have hselP : selectMethod e.platform s.vm cellB.cls mk = .method mk := by rw [Launch.admits_selectMethod X.admits]; exact q4
  obtain ⟨vm₁, X₁, hstep₁⟩ := X.invokevirtual hexec hown hlink hnamed hmethM hstM hkP hkPi hy (a := b) (cell := cellB) hcell
    (fun z h => by rw [h] at hobj; cases hobj) hselP hmethM habM hkP hkPi (g := g) hg (argsL := argsL) (rest := rest) (hlen _ hsigM) hstack hdg
  rcases hK m meth c ⟨T.setVm vm₁, locs, cells, slots⟩ { g with stack := rest } (.invokevirtual index) mk (Value.ref b :: argsL).toArray X₁ hg hsize hdg hW (X₁.named hnamed) (hpre vm₁ X₁.warmed) with ⟨v, B, X', hpost, hsteps⟩ | ⟨q, B, X', hpost, hsteps⟩
  · exact Or.inl ⟨v, vm₁, B, X₁.warmed, X', hpost, fun target h => hstep₁ _ fun acts => by rw [doInvoke_state]; exact hsteps.trans h⟩
  · exact Or.inr ⟨q, vm₁, B, X₁.warmed, X', hpost, hstep₁ _ fun acts => by rw [doInvoke_state]; exact hsteps⟩
theorem vx_callSX (X : Stand p l e R s m args below meth c T locs cells slots) (hexec : p.tables.exec = Jvm.exec) {own : String} {index : Nat} {y : MethodName} {bytes : ByteArray} {maxL : Nat} {ret : Option FieldType} {hh : List (Nat × Nat × Nat × Nat)}
    (hown : s.vm.findClass own = some m.cls) (hlink : (Cond.methodLink own index y).before args s = true) (hstat : (Cond.static y).before args s = true) (hinit : (Cond.initialized y.cls).before args s = true)
    (hcode : (Cond.codeWith y bytes maxL ret hh).before args s = true) (hy : y.cls ≠ "java/lang/invoke/MethodHandle" ∧ y.cls ≠ "java/lang/invoke/VarHandle")
    {W9 : Nat} {Pre : Pt → Array Value → Prop} {Post : Pt → Array Value → Option Value → Pt → Prop} {PostX : Pt → Array Value → Addr → Pt → Prop} (hK : vx_Back l R p e below s args y 3 W9 Pre Post PostX)
    {g : JFrame} (hg : g.method = m) (hsize : g.locals.size = c.maxLocals) {argsL rest : List Value} (hlen : ∀ sig, parseMethodDescriptor y.desc = some sig → argsL.length = sig.parameters.length)
    (hstack : g.stack = argsL.reverse ++ rest) (hW : 2 * g.monitorRoom + (rest.map fun v => v.category).sum ≤ W9) (hdg : decode c.code g.pc = .ok (.invokestatic index, 3))
    (hpre : ∀ vm₁, s.WarmedH vm₁ → Pre ⟨T.setVm vm₁, locs, cells, slots⟩ argsL.toArray) :
    (∃ (v : Option Value) (vm₁ : Vm) (B : Pt), s.WarmedH vm₁ ∧ Stand p l e R s m args below meth c B.U B.locs B.cells B.slots ∧ Post ⟨T.setVm vm₁, locs, cells, slots⟩ argsL.toArray v B ∧
      ∀ target, Steps p.tables e below (B.U.setTop { g with pc := g.pc + 3, stack := v.toList ++ rest }) target → Steps p.tables e below (T.setTop g) target) ∨
    (∃ (q : Addr) (vm₁ : Vm) (B : Pt), s.WarmedH vm₁ ∧ Stand p l e R s m args below meth c B.U B.locs B.cells B.slots ∧ PostX ⟨T.setVm vm₁, locs, cells, slots⟩ argsL.toArray q B ∧
      Steps p.tables e below (T.setTop g) ((B.U.setTop { g with stack := rest }).pushFrame (.throwing q))) := by
  obtain ⟨mk, methM, cM, hnamed, hmethM, -, -, -, -, -, -, hsigM⟩ := Cond.codeWith_spec hcode
  have hstatic : methM.isStatic = true := Cond.static_spec hnamed hmethM hstat
  obtain ⟨kP, hkP, -⟩ := className_of_methodNamed hnamed
  have hinitP : kP.init = .initialized := Cond.initialized_spec (findClass_of_methodNamed hnamed) hkP hinit
  obtain ⟨vm₁, X₁, hstep₁⟩ := X.invokestatic hexec hown hlink hnamed hmethM hstatic hkP hinitP hy (g := g) hg (argsL := argsL) (rest := rest) (hlen _ hsigM) hstack hdg
  rcases hK m meth c ⟨T.setVm vm₁, locs, cells, slots⟩ { g with stack := rest } (.invokestatic index) mk argsL.toArray X₁ hg hsize hdg hW (X₁.named hnamed) (hpre vm₁ X₁.warmed) with ⟨v, B, X', hpost, hsteps⟩ | ⟨q, B, X', hpost, hsteps⟩
  · exact Or.inl ⟨v, vm₁, B, X₁.warmed, X', hpost, fun target h => hstep₁ _ fun acts => by rw [doInvoke_state]; exact hsteps.trans h⟩
  · exact Or.inr ⟨q, vm₁, B, X₁.warmed, X', hpost, hstep₁ _ fun acts => by rw [doInvoke_state]; exact hsteps⟩
theorem vx_callVW (X : Stand p l e R s m args below meth c T locs cells slots) (hexec : p.tables.exec = Jvm.exec) {own C : String} {index : Nat} {y : MethodName} {bytes : ByteArray} {maxL : Nat} {ret : Option FieldType} {hh : List (Nat × Nat × Nat × Nat)}
    (hown : s.vm.findClass own = some m.cls) (hlink : (Cond.methodLink own index y).before args s = true) (hinst : (Cond.instanceMethod y).before args s = true) (hsel : (Cond.selects C y y).before args s = true)
    (hcode : (Cond.codeWith y bytes maxL ret hh).before args s = true) (hy : y.cls ≠ "java/lang/invoke/MethodHandle" ∧ y.cls ≠ "java/lang/invoke/VarHandle")
    {W9 : Nat} {Pre : Pt → Array Value → Prop} {Post : Pt → Array Value → Option Value → Pt → Prop} (hK : Back l R p e below s args y 3 W9 Pre Post)
    {b : Addr} {cellB : Cell} (hcell : T.heap[b]? = some cellB) (hobj : cellB.vm.isStatics = false) (hcls : s.vm.findClass C = some cellB.cls)
    {g : JFrame} (hg : g.method = m) (hsize : g.locals.size = c.maxLocals) {argsL rest : List Value} (hlen : ∀ sig, parseMethodDescriptor y.desc = some sig → argsL.length = sig.parameters.length)
    (hstack : g.stack = argsL.reverse ++ .ref b :: rest) (hW : 2 * g.monitorRoom + (rest.map fun v => v.category).sum ≤ W9) (hdg : decode c.code g.pc = .ok (.invokevirtual index, 3))
    (hpre : ∀ vm₁, s.WarmedH vm₁ → Pre ⟨T.setVm vm₁, locs, cells, slots⟩ (Value.ref b :: argsL).toArray) :
    ∃ (v : Option Value) (vm₁ : Vm) (B : Pt), s.WarmedH vm₁ ∧ Stand p l e R s m args below meth c B.U B.locs B.cells B.slots ∧ Post ⟨T.setVm vm₁, locs, cells, slots⟩ (Value.ref b :: argsL).toArray v B ∧
      ∀ target, Steps p.tables e below (B.U.setTop { g with pc := g.pc + 3, stack := v.toList ++ rest }) target → Steps p.tables e below (T.setTop g) target := by
  obtain ⟨mk, methM, hnamed, hmethM, hstM, habM⟩ := Cond.instanceMethod_spec hinst
  obtain ⟨m8, methM', cM, hn8, hmethM', -, -, -, -, -, -, hsigM⟩ := Cond.codeWith_spec hcode
  cases Option.some.inj (hn8.symm.trans hnamed)
  cases hmethM.symm.trans hmethM'
  obtain ⟨c2, r2, m2, q1, q2, q3, q4, kP, hkP, hkPi⟩ := Cond.selects_spec hsel
  cases hcls.symm.trans q1
  cases (State.methodFound?_of_named hnamed hy).symm.trans q2
  cases hnamed.symm.trans q3
  have hselP : selectMethod e.platform s.vm cellB.cls mk = .method mk := by rw [Launch.admits_selectMethod X.admits]; exact q4
  obtain ⟨vm₁, X₁, hstep₁⟩ := X.invokevirtual hexec hown hlink hnamed hmethM hstM hkP hkPi hy (a := b) (cell := cellB) hcell
    (fun z h => by rw [h] at hobj; cases hobj) hselP hmethM habM hkP hkPi (g := g) hg (argsL := argsL) (rest := rest) (hlen _ hsigM) hstack hdg
  obtain ⟨v, B, X', hpost, hsteps⟩ := hK m meth c ⟨T.setVm vm₁, locs, cells, slots⟩ { g with stack := rest } (.invokevirtual index) mk (Value.ref b :: argsL).toArray X₁ hg hsize hdg hW (X₁.named hnamed) (hpre vm₁ X₁.warmed)
  exact ⟨v, vm₁, B, X₁.warmed, X', hpost, fun target h => hstep₁ _ fun acts => by rw [doInvoke_state]; exact hsteps.trans h⟩
abbrev vx_CVW (R : Room) (s : State) (args : Array Value) (own C : String) (index : Nat) (y : MethodName) (bytes : ByteArray) (maxL : Nat) (ret : Option FieldType) (hh : List (Nat × Nat × Nat × Nat)) (ws : List Cond) (rm : Room) (mc ms n : Nat) : Prop :=
  (rm.cells = mc ∧ rm.slots = ms ∧ rm.frames + 1 ≤ R.frames ∧ 8 + (maxL + 11) + rm.locals ≤ R.locals ∧ (∀ w ∈ ws, ∀ (a' : Array Value) (U : State), s.WarmedH U.vm → w.before a' U = true) ∧ Cond.codeWith y bytes maxL ret hh ∈ ws) ∧
  (Cond.codeWith y bytes maxL ret hh).before args s = true ∧ (Cond.initialized y.cls).before args s = true ∧ (y.cls ≠ "java/lang/invoke/MethodHandle" ∧ y.cls ≠ "java/lang/invoke/VarHandle") ∧
  (∀ sig, parseMethodDescriptor y.desc = some sig → n = sig.parameters.length) ∧ (Cond.methodLink own index y).before args s = true ∧ (Cond.instanceMethod y).before args s = true ∧ (Cond.selects C y y).before args s = true
theorem vx_cwVW {own C : String} {index maxL mc ms : Nat} {y : MethodName} {bytes : ByteArray} {ret : Option FieldType} {hh : List (Nat × Nat × Nat × Nat)} {Ts ws ws' : List Cond} {rm : Room} (n : Nat) (ht : ∀ w ∈ Ts, w.before args s = true) (hT : GoodIn Ts (wsV own index C y ws)) (hw : ws = Cond.codeWith y bytes maxL ret hh :: ws') (hrc : rm.cells = mc) (hrs : rm.slots = ms)
    (hd : y.cls = C ∧ y.cls ≠ "java/lang/invoke/MethodHandle" ∧ y.cls ≠ "java/lang/invoke/VarHandle" ∧ (parseMethodDescriptor y.desc).map (fun d => d.parameters.length) = some n) (hR : rm.frames + 1 ≤ R.frames ∧ 8 + (maxL + 11) + rm.locals ≤ R.locals) :
    vx_CVW R s args own C index y bytes maxL ret hh ws rm mc ms n := by
  obtain ⟨hC, hd⟩ := hd
  subst hC
  have ok : ∀ w ∈ wsV own index y.cls y ws, w.before args s = true := fun w h => ht w (hT w h).1
  have hG : GoodIn Ts ws := fun w h => hT w (by unfold wsV; exact List.mem_append_right _ h)
  have hc : Cond.codeWith y bytes maxL ret hh ∈ ws := by rw [hw]; exact List.mem_cons_self
  refine ⟨⟨hrc, hrs, hR.1, hR.2, pay_in ht hG, hc⟩, ht _ (hG _ hc).1, ok _ (by simp [wsV]), ⟨hd.1, hd.2.1⟩, fun sig h => ?_, ok _ (by simp [wsV]), ok _ (by simp [wsV]), ok _ (by simp [wsV])⟩
  have h2 := hd.2.2
  rw [h] at h2
  exact (Option.some.inj h2).symm
theorem vx_runVW {y : MethodName} {bytes cc : ByteArray} {maxL nL mc ms n index : Nat} {ret : Option FieldType} {hh : List (Nat × Nat × Nat × Nat)} {ws : List Cond} {rm : Room} {Pc : Array Value → State → Prop} {Qc : Array Value → State → Outcome → State → Prop} {free : Addr → Prop} {Ts : List Cond} {own C : String} {b : Addr} {As rest : List Value} {g : JFrame}
    (S : CallFix p m c cc nL s args Ts own) (hM : Met l y ws rm Pc Qc mc ms free) (cw : vx_CVW R s args own C index y bytes maxL ret hh ws rm mc ms n) (hp : PreV s H C b Pc As)
    (hg : g.method = m) (hn : As.length = n) (hsize : g.locals.size = nL) (hstack : g.stack = As.reverse ++ .ref b :: rest) (hW : 2 * g.monitorRoom + (rest.map fun v => v.category).sum ≤ 8) (hdg : decode cc g.pc = .ok (.invokevirtual index, 3)) (hf : cells + mc ≤ R.cells ∧ slots + ms ≤ R.slots) :
    va_Run p l e R s m args below meth c H locs cells slots mc ms g rest (Qc (Value.ref b :: As).toArray) free := by
  obtain ⟨⟨hrc, hrs, hfr, hlo, hws, hcw⟩, hcode, hini, hy, hlen, hl, hin, hse⟩ := cw
  have hK : Back l R p e below s args y 3 8 (PreOf R mc ms Pc) (PostOf Qc mc ms free) := va_backW (hh := hh) (bytes := bytes) (maxL := maxL) (ret := ret) hM hp.1 hrc hrs hfr hlo hws hcw (fun a' U hW => word_at hW (Or.inl (by first | rfl | simp [Cond.onTables, Cond.keeps, Cond.steady])) hini)
  obtain ⟨hx, hb, hml, ho, -⟩ := S
  obtain ⟨-, ⟨cellB, hcB, hoB, hclB⟩, hPc⟩ := hp
  intro T hT X
  obtain ⟨v, vm₁, ⟨U', l2, c2, s2⟩, hW₁, X', ⟨g', mk, t, L, e1, e2, hq, h1, hL, h2, h3⟩, st⟩ := vx_callVW X hx (C := C) (hh := hh) (bytes := bytes) (maxL := maxL) (ret := ret) ho hl hin hse hcode hy hK (by rw [hT]; exact hcB) hoB hclB hg (hsize.trans hml.symm) (argsL := As) (rest := rest) (fun sig h => hn.trans (hlen sig h)) hstack hW (by rw [hb]; exact hdg)
    (fun vm₁ hW₁ => ⟨hf.1, hf.2, hPc (T.setVm vm₁) hT hW₁⟩)
  dsimp only [Pt.U, Pt.locs, Pt.cells, Pt.slots] at X' e1 e2 h1 h2 h3 st
  subst h1; subst h2; subst h3
  exact ⟨v, (T.setVm vm₁).calling g' mk (Value.ref b :: As).toArray, t, U', L, hT, X', hL, e1, e2, hq, st⟩
section
variable {y : MethodName} {bytes cc : ByteArray} {maxL nL mc ms n index : Nat} {ret : Option FieldType} {ws : List Cond} {rm : Room} {Pc : Array Value → State → Prop} {Qc : Array Value → State → Outcome → State → Prop} {XC : String → State → State → Prop} {free : Addr → Prop} {Ts : List Cond} {own C : String} {b : Addr} {As rest : List Value} {g : JFrame}
theorem vx_runVX {hh : List (Nat × Nat × Nat × Nat)} (S : CallFix p m c cc nL s args Ts own) (hM : vx_Met l y ws rm Pc Qc XC mc ms free) (cw : vx_CVW R s args own C index y bytes maxL ret hh ws rm mc ms n) (hp : PreV s H C b Pc As)
    (hg : g.method = m) (hn : As.length = n) (hsize : g.locals.size = nL) (hstack : g.stack = As.reverse ++ .ref b :: rest) (hW : 2 * g.monitorRoom + (rest.map fun v => v.category).sum ≤ 8) (hdg : decode cc g.pc = .ok (.invokevirtual index, 3)) (hf : cells + mc ≤ R.cells ∧ slots + ms ≤ R.slots) :
    vx_Run p l e R s m args below meth c H locs cells slots mc ms g rest (Qc (Value.ref b :: As).toArray) XC free := by
  obtain ⟨⟨hrc, hrs, hfr, hlo, hws, hcw⟩, hcode, hini, hy, hlen, hl, hin, hse⟩ := cw
  have hK : vx_Back l R p e below s args y 3 8 (PreOf R mc ms Pc) (PostOf Qc mc ms free) (vx_Post XC mc ms free) := vx_backW (hh := hh) (bytes := bytes) (maxL := maxL) (ret := ret) hM hp.1 hrc hrs hfr hlo hws hcw (fun a' U hW => word_at hW (Or.inl (by first | rfl | simp [Cond.onTables, Cond.keeps, Cond.steady])) hini)
  obtain ⟨hx, hb, hml, ho, -⟩ := S
  obtain ⟨-, ⟨cellB, hcB, hoB, hclB⟩, hPc⟩ := hp
  intro T hT X
  rcases vx_callVX X hx (C := C) (hh := hh) (bytes := bytes) (maxL := maxL) (ret := ret) ho hl hin hse hcode hy hK (by rw [hT]; exact hcB) hoB hclB hg (hsize.trans hml.symm) (argsL := As) (rest := rest) (fun sig h => hn.trans (hlen sig h)) hstack hW (by rw [hb]; exact hdg)
    (fun vm₁ hW₁ => ⟨hf.1, hf.2, hPc (T.setVm vm₁) hT hW₁⟩) with ⟨v, vm₁, ⟨U', l2, c2, s2⟩, hW₁, X', ⟨g', mk, t, L, e1, e2, hq, h1, hL, h2, h3⟩, st⟩ | ⟨q, vm₁, ⟨U', l2, c2, s2⟩, hW₁, X', ⟨g', mk, t, L, E, ce, e1, e2, hq, hce, hcv, hcl, h1, hL, h2, h3⟩, st⟩
  · dsimp only [Pt.U, Pt.locs, Pt.cells, Pt.slots] at X' e1 e2 h1 h2 h3 st
    subst h1; subst h2; subst h3
    exact Or.inl ⟨v, (T.setVm vm₁).calling g' mk (Value.ref b :: As).toArray, t, U', L, hT, X', hL, e1, e2, hq, st⟩
  · dsimp only [Pt.U, Pt.locs, Pt.cells, Pt.slots] at X' e1 e2 h1 h2 h3 st hcl
    subst h1; subst h2; subst h3
    exact Or.inr ⟨q, (T.setVm vm₁).calling g' mk (Value.ref b :: As).toArray, t, U', L, E, ce, hT, X', hL, e1, e2, hq, hce, hcv, vx_cls hW₁ hcl, st⟩
theorem vx_runSX {hh : List (Nat × Nat × Nat × Nat)} (S : CallFix p m c cc nL s args Ts own) (hM : vx_Met l y ws rm Pc Qc XC mc ms free) (cw : vx_CSW R s args own index y bytes maxL ret hh ws rm mc ms n) (hp : PreS s H Pc As)
    (hg : g.method = m) (hn : As.length = n) (hsize : g.locals.size = nL) (hstack : g.stack = As.reverse ++ rest) (hW : 2 * g.monitorRoom + (rest.map fun v => v.category).sum ≤ 8) (hdg : decode cc g.pc = .ok (.invokestatic index, 3)) (hf : cells + mc ≤ R.cells ∧ slots + ms ≤ R.slots) :
    vx_Run p l e R s m args below meth c H locs cells slots mc ms g rest (Qc As.toArray) XC free := by
  obtain ⟨⟨hrc, hrs, hfr, hlo, hws, hcw⟩, hcode, hini, hy, hlen, hl, hstt⟩ := cw
  have hK : vx_Back l R p e below s args y 3 8 (PreOf R mc ms Pc) (PostOf Qc mc ms free) (vx_Post XC mc ms free) := vx_backW (hh := hh) (bytes := bytes) (maxL := maxL) (ret := ret) hM hp.1 hrc hrs hfr hlo hws hcw (fun a' U hW => word_at hW (Or.inl (by first | rfl | simp [Cond.onTables, Cond.keeps, Cond.steady])) hini)
  obtain ⟨hx, hb, hml, ho, -⟩ := S
  intro T hT X
  rcases vx_callSX X hx (hh := hh) (bytes := bytes) (maxL := maxL) (ret := ret) ho hl hstt hini hcode hy hK hg (hsize.trans hml.symm) (argsL := As) (rest := rest) (fun sig h => hn.trans (hlen sig h)) hstack hW (by rw [hb]; exact hdg)
    (fun vm₁ hW₁ => ⟨hf.1, hf.2, hp.2 (T.setVm vm₁) hT hW₁⟩) with ⟨v, vm₁, ⟨U', l2, c2, s2⟩, hW₁, X', ⟨g', mk, t, L, e1, e2, hq, h1, hL, h2, h3⟩, st⟩ | ⟨q, vm₁, ⟨U', l2, c2, s2⟩, hW₁, X', ⟨g', mk, t, L, E, ce, e1, e2, hq, hce, hcv, hcl, h1, hL, h2, h3⟩, st⟩
  · dsimp only [Pt.U, Pt.locs, Pt.cells, Pt.slots] at X' e1 e2 h1 h2 h3 st
    subst h1; subst h2; subst h3
    exact Or.inl ⟨v, (T.setVm vm₁).calling g' mk As.toArray, t, U', L, hT, X', hL, e1, e2, hq, st⟩
  · dsimp only [Pt.U, Pt.locs, Pt.cells, Pt.slots] at X' e1 e2 h1 h2 h3 st hcl
    subst h1; subst h2; subst h3
    exact Or.inr ⟨q, (T.setVm vm₁).calling g' mk As.toArray, t, U', L, E, ce, hT, X', hL, e1, e2, hq, hce, hcv, vx_cls hW₁ hcl, st⟩
end
end VXH
theorem vx_ofWH {l : Launch} {y : MethodName} {ws ws' : List Cond} {rm : Room} {Pc : Array Value → State → Prop} {Qc : Array Value → State → Outcome → State → Prop} {XC : String → State → State → Prop} {mc ms : Nat} {free : Addr → Prop} {cc : ByteArray} {maxL : Nat} {ret : Option FieldType} {hh : List (Nat × Nat × Nat × Nat)}
    (hy : plainName y.cls = true) (hw : ws = Cond.codeWith y cc maxL ret hh :: ws')
    (body : ∀ p e s m args below meth c s₁, BodyLoose p l y (headSpec ws rm) cc maxL ret e s m args below meth c s₁ → c.maxLocals = maxL → Pc args s →
      W p l e (headSpec ws rm).room s m args below meth c s.heap [] 0 0 (vx_MQ below Qc XC args s mc ms free) (entryFrame m args maxL)) : vx_Met l y ws rm Pc Qc XC mc ms free := by
  refine MetFree.of_bodyS (code := cc) (maxLocals := maxL) (ret := ret) hy ?_ ?_
  · intro args s m h hn
    obtain ⟨m9, meth, c, hn9, h1, h2, h3, h4, -, h5, h6, -⟩ := Cond.codeWith_spec (atoms_spec (ws := ws) h _ (by rw [hw]; exact List.mem_cons_self))
    cases hn.symm.trans hn9
    exact ⟨meth, c, h1, h2, h3, h4, h5, h6⟩
  · intro p e s m args below meth c s₁ B hml hP _
    have hh0 : s₁.heap = s.heap := by rw [B.state]; rfl
    obtain ⟨t, a1, o, b1, b2, b3⟩ := body p e s m args below meth c s₁ B hml hP s₁ hh0 (Stand.of_body B)
    exact ⟨t, o, a1, b1, b2, b3⟩
/-! ===== END ===== -/
end
section
/-! ===== BEGIN printed: names, fields, word lists, decode rows ===== -/
def RX0 : String := "Warpyard$Bookings"
def TX0 : u_T := fun k => match k with
  | 0 => ("Warpyard$Bookings", "train", "[I", true)
  | 1 => ("Warpyard$Bookings", "block", "[I", true)
  | 2 => ("Warpyard$Bookings", "first", "[I", true)
  | 3 => ("Warpyard$Bookings", "last", "[I", true)
  | 4 => ("Warpyard$Bookings", "lateness", "[I", true)
  | _ => ("Warpyard$Bookings", "count", "I", false)
def tyX0 : Nat → FieldType := fun k => match k with
  | 0 => .array .int
  | 1 => .array .int
  | 2 => .array .int
  | 3 => .array .int
  | 4 => .array .int
  | _ => .int
abbrev wsX00 : List Cond := u_ws RX0 TX0 6
theorem nmX0 : ∀ a, a < 6 → ∀ b, b < 6 → a ≠ b → (TX0 a).2.1 ≠ (TX0 b).2.1 := by decide +kernel
theorem tyX0_ok : ∀ k, k < 6 → parseFieldDescriptor (TX0 k).2.2.1 = some (tyX0 k) := by decide +kernel
abbrev cX0_init : ByteArray := prog_2_method_1_code
def yX0_init : MethodName := ⟨RX0, "<init>", "()V"⟩
abbrev cX0_add : ByteArray := prog_2_method_2_code
def yX0_add : MethodName := ⟨RX0, "add", "(IIII)I"⟩
abbrev cX0_meetsAnother : ByteArray := prog_2_method_3_code
def yX0_meetsAnother : MethodName := ⟨RX0, "meetsAnother", "(IIII)Z"⟩
abbrev cX0_isForAnother : ByteArray := prog_2_method_4_code
def yX0_isForAnother : MethodName := ⟨RX0, "isForAnother", "(III)Z"⟩
abbrev cX0_markMet : ByteArray := prog_2_method_5_code
def yX0_markMet : MethodName := ⟨RX0, "markMet", "(LWarpyard$Trains;I)V"⟩
abbrev cX0_isIn : ByteArray := prog_2_method_6_code
def yX0_isIn : MethodName := ⟨RX0, "isIn", "(II)Z"⟩
def RX1 : String := "Warpyard$Offers"
def TX1 : u_T := fun k => match k with
  | 0 => ("Warpyard$Offers", "siding", "[I", true)
  | 1 => ("Warpyard$Offers", "minute", "[I", true)
  | _ => ("Warpyard$Offers", "price", "[I", true)
def tyX1 : Nat → FieldType := fun k => match k with
  | 0 => .array .int
  | 1 => .array .int
  | _ => .array .int
abbrev wsX10 : List Cond := u_ws RX1 TX1 3
theorem nmX1 : ∀ a, a < 3 → ∀ b, b < 3 → a ≠ b → (TX1 a).2.1 ≠ (TX1 b).2.1 := by decide +kernel
theorem tyX1_ok : ∀ k, k < 3 → parseFieldDescriptor (TX1 k).2.2.1 = some (tyX1 k) := by decide +kernel
abbrev cX1_init : ByteArray := prog_3_method_1_code
def yX1_init : MethodName := ⟨RX1, "<init>", "()V"⟩
abbrev cX1_put : ByteArray := prog_3_method_2_code
def yX1_put : MethodName := ⟨RX1, "put", "(IIII)V"⟩
abbrev cX1_settle : ByteArray := prog_3_method_3_code
def yX1_settle : MethodName := ⟨RX1, "settle", "(III)I"⟩
abbrev cX1_begunHours : ByteArray := prog_3_method_4_code
def yX1_begunHours : MethodName := ⟨RX1, "begunHours", "(I)I"⟩
def RX2 : String := "Warpyard$Tracks"
def TX2 : u_T := fun k => match k with
  | _ => ("Warpyard$Tracks", "turned", "[Z", true)
def tyX2 : Nat → FieldType := fun k => match k with
  | _ => .array .boolean
abbrev wsX20 : List Cond := u_ws RX2 TX2 1
theorem nmX2 : ∀ a, a < 1 → ∀ b, b < 1 → a ≠ b → (TX2 a).2.1 ≠ (TX2 b).2.1 := by decide +kernel
theorem tyX2_ok : ∀ k, k < 1 → parseFieldDescriptor (TX2 k).2.2.1 = some (tyX2 k) := by decide +kernel
abbrev cX2_init : ByteArray := prog_4_method_1_code
def yX2_init : MethodName := ⟨RX2, "<init>", "()V"⟩
abbrev cX2_turn : ByteArray := prog_4_method_2_code
def yX2_turn : MethodName := ⟨RX2, "turn", "(I)Z"⟩
abbrev cX2_ahead : ByteArray := prog_4_method_3_code
def yX2_ahead : MethodName := ⟨RX2, "ahead", "(IZ)I"⟩
abbrev cX2_rightOf : ByteArray := prog_4_method_4_code
def yX2_rightOf : MethodName := ⟨RX2, "rightOf", "(I)I"⟩
abbrev cX2_leftOf : ByteArray := prog_4_method_5_code
def yX2_leftOf : MethodName := ⟨RX2, "leftOf", "(I)I"⟩
def RX3 : String := "Warpyard$Trains"
def TX3 : u_T := fun k => match k with
  | 0 => ("Warpyard$Trains", "block", "[I", true)
  | 1 => ("Warpyard$Trains", "right", "[Z", true)
  | 2 => ("Warpyard$Trains", "held", "[Z", true)
  | 3 => ("Warpyard$Trains", "delay", "[I", true)
  | _ => ("Warpyard$Trains", "count", "I", false)
def tyX3 : Nat → FieldType := fun k => match k with
  | 0 => .array .int
  | 1 => .array .boolean
  | 2 => .array .boolean
  | 3 => .array .int
  | _ => .int
abbrev wsX30 : List Cond := u_ws RX3 TX3 5
theorem nmX3 : ∀ a, a < 5 → ∀ b, b < 5 → a ≠ b → (TX3 a).2.1 ≠ (TX3 b).2.1 := by decide +kernel
theorem tyX3_ok : ∀ k, k < 5 → parseFieldDescriptor (TX3 k).2.2.1 = some (tyX3 k) := by decide +kernel
abbrev cX3_init : ByteArray := prog_5_method_1_code
def yX3_init : MethodName := ⟨RX3, "<init>", "()V"⟩
abbrev cX3_add : ByteArray := prog_5_method_2_code
def yX3_add : MethodName := ⟨RX3, "add", "(IZ)I"⟩
abbrev cX3_standingOn : ByteArray := prog_5_method_3_code
def yX3_standingOn : MethodName := ⟨RX3, "standingOn", "(I)I"⟩
abbrev cX3_turnRound : ByteArray := prog_5_method_4_code
def yX3_turnRound : MethodName := ⟨RX3, "turnRound", "(I)Z"⟩
abbrev cX3_copyFrom : ByteArray := prog_5_method_5_code
def yX3_copyFrom : MethodName := ⟨RX3, "copyFrom", "(LWarpyard$Trains;)V"⟩
abbrev cX3_runMinute : ByteArray := prog_5_method_6_code
def yX3_runMinute : MethodName := ⟨RX3, "runMinute", "(LWarpyard$Tracks;LWarpyard$Bookings;I)I"⟩
abbrev cX3_step : ByteArray := prog_5_method_7_code
def yX3_step : MethodName := ⟨RX3, "step", "(ILWarpyard$Tracks;LWarpyard$Bookings;I)Z"⟩
def RX4 : String := "Warpyard$Waggons"
def TX4 : u_T := fun k => match k with
  | 0 => ("Warpyard$Waggons", "weight", "[I", true)
  | 1 => ("Warpyard$Waggons", "size", "[I", true)
  | 2 => ("Warpyard$Waggons", "inRow", "[I", true)
  | _ => ("Warpyard$Waggons", "count", "I", false)
def tyX4 : Nat → FieldType := fun k => match k with
  | 0 => .array .int
  | 1 => .array .int
  | 2 => .array .int
  | _ => .int
abbrev wsX40 : List Cond := u_ws RX4 TX4 4
theorem nmX4 : ∀ a, a < 4 → ∀ b, b < 4 → a ≠ b → (TX4 a).2.1 ≠ (TX4 b).2.1 := by decide +kernel
theorem tyX4_ok : ∀ k, k < 4 → parseFieldDescriptor (TX4 k).2.2.1 = some (tyX4 k) := by decide +kernel
abbrev cX4_init : ByteArray := prog_6_method_1_code
def yX4_init : MethodName := ⟨RX4, "<init>", "()V"⟩
abbrev cX4_rowOfSiding : ByteArray := prog_6_method_2_code
def yX4_rowOfSiding : MethodName := ⟨RX4, "rowOfSiding", "(I)I"⟩
abbrev cX4_rowOfTrain : ByteArray := prog_6_method_3_code
def yX4_rowOfTrain : MethodName := ⟨RX4, "rowOfTrain", "(I)I"⟩
abbrev cX4_add : ByteArray := prog_6_method_4_code
def yX4_add : MethodName := ⟨RX4, "add", "(II)I"⟩
abbrev cX4_fromFirst : ByteArray := prog_6_method_5_code
def yX4_fromFirst : MethodName := ⟨RX4, "fromFirst", "(II)I"⟩
abbrev cX4_fromLast : ByteArray := prog_6_method_6_code
def yX4_fromLast : MethodName := ⟨RX4, "fromLast", "(II)I"⟩
abbrev cX4_lastOf : ByteArray := prog_6_method_7_code
def yX4_lastOf : MethodName := ⟨RX4, "lastOf", "(I)I"⟩
abbrev cX4_weightOf : ByteArray := prog_6_method_8_code
def yX4_weightOf : MethodName := ⟨RX4, "weightOf", "(I)I"⟩
abbrev cX4_moveLast : ByteArray := prog_6_method_9_code
def yX4_moveLast : MethodName := ⟨RX4, "moveLast", "(II)V"⟩
abbrev cX4_append : ByteArray := prog_6_method_10_code
def yX4_append : MethodName := ⟨RX4, "append", "(II)V"⟩
def RX5 : String := "Warpyard"
def TX5 : u_T := fun k => match k with
  | 0 => ("Warpyard", "tracks", "LWarpyard$Tracks;", true)
  | 1 => ("Warpyard", "trains", "LWarpyard$Trains;", true)
  | 2 => ("Warpyard", "trial", "LWarpyard$Trains;", true)
  | 3 => ("Warpyard", "bookings", "LWarpyard$Bookings;", true)
  | 4 => ("Warpyard", "waggons", "LWarpyard$Waggons;", true)
  | 5 => ("Warpyard", "offers", "LWarpyard$Offers;", true)
  | 6 => ("Warpyard", "now", "I", false)
  | _ => ("Warpyard", "money", "I", false)
def tyX5 : Nat → FieldType := fun k => match k with
  | 0 => .object "Warpyard$Tracks"
  | 1 => .object "Warpyard$Trains"
  | 2 => .object "Warpyard$Trains"
  | 3 => .object "Warpyard$Bookings"
  | 4 => .object "Warpyard$Waggons"
  | 5 => .object "Warpyard$Offers"
  | 6 => .int
  | _ => .int
abbrev wsX50 : List Cond := u_ws RX5 TX5 8
theorem nmX5 : ∀ a, a < 8 → ∀ b, b < 8 → a ≠ b → (TX5 a).2.1 ≠ (TX5 b).2.1 := by decide +kernel
theorem tyX5_ok : ∀ k, k < 8 → parseFieldDescriptor (TX5 k).2.2.1 = some (tyX5 k) := by decide +kernel
abbrev cX5_init : ByteArray := prog_1_method_1_code
def yX5_init : MethodName := ⟨RX5, "<init>", "()V"⟩
abbrev cX5_addTrain : ByteArray := prog_1_method_2_code
def yX5_addTrain : MethodName := ⟨RX5, "addTrain", "(IZ)I"⟩
abbrev cX5_hold : ByteArray := prog_1_method_3_code
def yX5_hold : MethodName := ⟨RX5, "hold", "(IZ)Z"⟩
abbrev cX5_delay : ByteArray := prog_1_method_4_code
def yX5_delay : MethodName := ⟨RX5, "delay", "(II)I"⟩
abbrev cX5_reverse : ByteArray := prog_1_method_5_code
def yX5_reverse : MethodName := ⟨RX5, "reverse", "(I)Z"⟩
abbrev cX5_throwSwitch : ByteArray := prog_1_method_6_code
def yX5_throwSwitch : MethodName := ⟨RX5, "throwSwitch", "(I)Z"⟩
abbrev cX5_block : ByteArray := prog_1_method_7_code
def yX5_block : MethodName := ⟨RX5, "block", "(I)I"⟩
abbrev cX5_isRight : ByteArray := prog_1_method_8_code
def yX5_isRight : MethodName := ⟨RX5, "isRight", "(I)Z"⟩
abbrev cX5_trainOn : ByteArray := prog_1_method_9_code
def yX5_trainOn : MethodName := ⟨RX5, "trainOn", "(I)I"⟩
abbrev cX5_run : ByteArray := prog_1_method_10_code
def yX5_run : MethodName := ⟨RX5, "run", "(I)I"⟩
abbrev cX5_clock : ByteArray := prog_1_method_11_code
def yX5_clock : MethodName := ⟨RX5, "clock", "()I"⟩
abbrev cX5_reaches : ByteArray := prog_1_method_12_code
def yX5_reaches : MethodName := ⟨RX5, "reaches", "(II)I"⟩
abbrev cX5_book : ByteArray := prog_1_method_13_code
def yX5_book : MethodName := ⟨RX5, "book", "(IIII)I"⟩
abbrev cX5_canBook : ByteArray := prog_1_method_14_code
def yX5_canBook : MethodName := ⟨RX5, "canBook", "(IIII)Z"⟩
abbrev cX5_canBookByMinutes : ByteArray := prog_1_method_15_code
def yX5_canBookByMinutes : MethodName := ⟨RX5, "canBookByMinutes", "(IIII)Z"⟩
abbrev cX5_booking : ByteArray := prog_1_method_16_code
def yX5_booking : MethodName := ⟨RX5, "booking", "(I)I"⟩
abbrev cX5_late : ByteArray := prog_1_method_17_code
def yX5_late : MethodName := ⟨RX5, "late", "(I)I"⟩
abbrev cX5_addWaggon : ByteArray := prog_1_method_18_code
def yX5_addWaggon : MethodName := ⟨RX5, "addWaggon", "(II)I"⟩
abbrev cX5_offer : ByteArray := prog_1_method_19_code
def yX5_offer : MethodName := ⟨RX5, "offer", "(IIII)V"⟩
abbrev cX5_couple : ByteArray := prog_1_method_20_code
def yX5_couple : MethodName := ⟨RX5, "couple", "(I)I"⟩
abbrev cX5_leave : ByteArray := prog_1_method_21_code
def yX5_leave : MethodName := ⟨RX5, "leave", "(I)I"⟩
abbrev cX5_waggonAt : ByteArray := prog_1_method_22_code
def yX5_waggonAt : MethodName := ⟨RX5, "waggonAt", "(II)I"⟩
abbrev cX5_earned : ByteArray := prog_1_method_23_code
def yX5_earned : MethodName := ⟨RX5, "earned", "()I"⟩
abbrev cX5_needTrain : ByteArray := prog_1_method_24_code
def yX5_needTrain : MethodName := ⟨RX5, "needTrain", "(I)V"⟩
abbrev cX5_needBooking : ByteArray := prog_1_method_25_code
def yX5_needBooking : MethodName := ⟨RX5, "needBooking", "(I)V"⟩
abbrev cX5_needBlock : ByteArray := prog_1_method_26_code
def yX5_needBlock : MethodName := ⟨RX5, "needBlock", "(I)V"⟩
abbrev cX5_needSiding : ByteArray := prog_1_method_27_code
def yX5_needSiding : MethodName := ⟨RX5, "needSiding", "(I)V"⟩
abbrev cX5_isSiding : ByteArray := prog_1_method_28_code
def yX5_isSiding : MethodName := ⟨RX5, "isSiding", "(I)Z"⟩
abbrev cX5_needMinutesToRun : ByteArray := prog_1_method_29_code
def yX5_needMinutesToRun : MethodName := ⟨RX5, "needMinutesToRun", "(I)V"⟩
abbrev cX5_needSpan : ByteArray := prog_1_method_30_code
def yX5_needSpan : MethodName := ⟨RX5, "needSpan", "(III)V"⟩
abbrev cX5_needRoomIn : ByteArray := prog_1_method_31_code
def yX5_needRoomIn : MethodName := ⟨RX5, "needRoomIn", "(I)V"⟩
abbrev cX5_sidingUnder : ByteArray := prog_1_method_32_code
def yX5_sidingUnder : MethodName := ⟨RX5, "sidingUnder", "(I)I"⟩
def RX6 : String := "WarpyardModel"
def TX6 : u_T := fun k => match k with
  | _ => ("", "", "", false)
def tyX6 : Nat → FieldType := fun k => match k with
  | _ => .int
abbrev wsX60 : List Cond := u_ws RX6 TX6 0
theorem nmX6 : ∀ a, a < 0 → ∀ b, b < 0 → a ≠ b → (TX6 a).2.1 ≠ (TX6 b).2.1 := by decide +kernel
theorem tyX6_ok : ∀ k, k < 0 → parseFieldDescriptor (TX6 k).2.2.1 = some (tyX6 k) := by decide +kernel
def RJ9 : String := "java/lang/Math"
def TJ9 : u_T := fun k => match k with
  | _ => ("", "", "", false)
def tyJ9 : Nat → FieldType := fun k => match k with
  | _ => .int
abbrev wsJ90 : List Cond := u_ws RJ9 TJ9 0
theorem nmJ9 : ∀ a, a < 0 → ∀ b, b < 0 → a ≠ b → (TJ9 a).2.1 ≠ (TJ9 b).2.1 := by decide +kernel
theorem tyJ9_ok : ∀ k, k < 0 → parseFieldDescriptor (TJ9 k).2.2.1 = some (tyJ9 k) := by decide +kernel
abbrev cJ9_max_7cf53 : ByteArray := prog_13_method_65_code
def yJ9_max_7cf53 : MethodName := ⟨RJ9, "max", "(II)I"⟩
def RJ0 : String := "java/lang/String"
def TJ0 : u_T := fun k => match k with
  | _ => ("", "", "", false)
def tyJ0 : Nat → FieldType := fun k => match k with
  | _ => .int
abbrev wsJ00 : List Cond := u_ws RJ0 TJ0 0
theorem nmJ0 : ∀ a, a < 0 → ∀ b, b < 0 → a ≠ b → (TJ0 a).2.1 ≠ (TJ0 b).2.1 := by decide +kernel
theorem tyJ0_ok : ∀ k, k < 0 → parseFieldDescriptor (TJ0 k).2.2.1 = some (tyJ0 k) := by decide +kernel
def RL : String := "WarpyardLaw"
abbrev cL_cell : ByteArray := method_2_code
def yL_cell : MethodName := ⟨RL, "cell", "([II)I"⟩
abbrev cL_low : ByteArray := method_3_code
def yL_low : MethodName := ⟨RL, "low", "(II)I"⟩
abbrev cL_does : ByteArray := method_4_code
def yL_does : MethodName := ⟨RL, "does", "(LWarpyard;IIIII)I"⟩
abbrev cL_offers : ByteArray := method_5_code
def yL_offers : MethodName := ⟨RL, "offers", "(LWarpyard;IIII)I"⟩
abbrev cL_looks : ByteArray := method_6_code
def yL_looks : MethodName := ⟨RL, "looks", "(LWarpyard;III)I"⟩
abbrev cL_can : ByteArray := method_7_code
def yL_can : MethodName := ⟨RL, "can", "(LWarpyard;IIII)I"⟩
abbrev cL_trains : ByteArray := method_8_code
def yL_trains : MethodName := ⟨RL, "trains", "(LWarpyard;)I"⟩
abbrev cL_act : ByteArray := method_9_code
def yL_act : MethodName := ⟨RL, "act", "(LWarpyard;I)I"⟩
abbrev cL_areAlike : ByteArray := method_10_code
def yL_areAlike : MethodName := ⟨RL, "areAlike", "(LWarpyard;LWarpyard;)Z"⟩
abbrev cL_arePlacesSo : ByteArray := method_11_code
def yL_arePlacesSo : MethodName := ⟨RL, "arePlacesSo", "(LWarpyard;)Z"⟩
abbrev cL_areBookingsSo : ByteArray := method_12_code
def yL_areBookingsSo : MethodName := ⟨RL, "areBookingsSo", "(LWarpyard;II)Z"⟩
abbrev cL_isReachedSo : ByteArray := method_13_code
def yL_isReachedSo : MethodName := ⟨RL, "isReachedSo", "(LWarpyard;LWarpyard;II)Z"⟩
abbrev cL_isLeftSo : ByteArray := method_14_code
def yL_isLeftSo : MethodName := ⟨RL, "isLeftSo", "(LWarpyard;LWarpyard;I)Z"⟩
abbrev cL_law : ByteArray := code
def yL_law : MethodName := ⟨RL, "law", "([I)Z"⟩
def wsX0_init : List Cond := .code yX0_init cX0_init 1 none :: ([.methodLink RX0 3 objectInit, .instanceMethod objectInit, .code objectInit ⟨#[0xb1]⟩ 1 none, .arrayClass .int, .fieldLink RX0 9 "Warpyard$Bookings" "train" "[I", .fieldLink RX0 15 "Warpyard$Bookings" "block" "[I", .fieldLink RX0 18 "Warpyard$Bookings" "first" "[I", .fieldLink RX0 21 "Warpyard$Bookings" "last" "[I", .fieldLink RX0 24 "Warpyard$Bookings" "lateness" "[I"] ++ wsX00)
def wsX0_add : List Cond := .code yX0_add cX0_add 6 (some .int) :: ([.fieldLink RX0 27 "Warpyard$Bookings" "count" "I", .fieldLink RX0 9 "Warpyard$Bookings" "train" "[I", .fieldLink RX0 15 "Warpyard$Bookings" "block" "[I", .fieldLink RX0 18 "Warpyard$Bookings" "first" "[I", .fieldLink RX0 21 "Warpyard$Bookings" "last" "[I", .fieldLink RX0 24 "Warpyard$Bookings" "lateness" "[I"] ++ wsX00)
def wsX0_meetsAnother : List Cond := .code yX0_meetsAnother cX0_meetsAnother 6 (some .boolean) :: ([.fieldLink RX0 27 "Warpyard$Bookings" "count" "I", .fieldLink RX0 15 "Warpyard$Bookings" "block" "[I", .fieldLink RX0 9 "Warpyard$Bookings" "train" "[I", .fieldLink RX0 18 "Warpyard$Bookings" "first" "[I", .fieldLink RX0 21 "Warpyard$Bookings" "last" "[I"] ++ wsX00)
def wsX0_isIn : List Cond := .code yX0_isIn cX0_isIn 3 (some .boolean) :: ([.fieldLink RX0 18 "Warpyard$Bookings" "first" "[I", .fieldLink RX0 21 "Warpyard$Bookings" "last" "[I"] ++ wsX00)
def wsX0_isForAnother : List Cond := .code yX0_isForAnother cX0_isForAnother 5 (some .boolean) :: ([.fieldLink RX0 27 "Warpyard$Bookings" "count" "I", .fieldLink RX0 15 "Warpyard$Bookings" "block" "[I", .fieldLink RX0 9 "Warpyard$Bookings" "train" "[I", .methodLink RX0 31 yX0_isIn, .instanceMethod yX0_isIn, .selects RX0 yX0_isIn yX0_isIn, .initialized RX0, .code yX0_isIn cX0_isIn 3 (some .boolean), .fieldLink RX0 18 "Warpyard$Bookings" "first" "[I", .fieldLink RX0 21 "Warpyard$Bookings" "last" "[I"] ++ wsX00)
def wsX3_standingOn : List Cond := .code yX3_standingOn cX3_standingOn 3 (some .int) :: ([.fieldLink RX3 25 "Warpyard$Trains" "count" "I", .fieldLink RX3 9 "Warpyard$Trains" "block" "[I"] ++ wsX30)
def wsX0_markMet : List Cond := .code yX0_markMet cX0_markMet 4 none :: ([.fieldLink RX0 27 "Warpyard$Bookings" "count" "I", .fieldLink RX0 24 "Warpyard$Bookings" "lateness" "[I", .fieldLink RX0 15 "Warpyard$Bookings" "block" "[I", .fieldLink RX0 9 "Warpyard$Bookings" "train" "[I", .fieldLink RX0 18 "Warpyard$Bookings" "first" "[I", .methodLink RX0 31 yX0_isIn, .instanceMethod yX0_isIn, .selects RX0 yX0_isIn yX0_isIn, .initialized RX0, .code yX0_isIn cX0_isIn 3 (some .boolean), .fieldLink RX0 21 "Warpyard$Bookings" "last" "[I", .methodLink RX0 35 yX3_standingOn, .instanceMethod yX3_standingOn, .selects RX3 yX3_standingOn yX3_standingOn, .initialized RX3, .code yX3_standingOn cX3_standingOn 3 (some .int), .fieldLink RX3 25 "Warpyard$Trains" "count" "I", .fieldLink RX3 9 "Warpyard$Trains" "block" "[I"] ++ wsX00 ++ wsX30)
def wsX1_init : List Cond := .code yX1_init cX1_init 1 none :: ([.methodLink RX1 3 objectInit, .instanceMethod objectInit, .code objectInit ⟨#[0xb1]⟩ 1 none, .arrayClass .int, .fieldLink RX1 9 "Warpyard$Offers" "siding" "[I", .fieldLink RX1 15 "Warpyard$Offers" "minute" "[I", .fieldLink RX1 18 "Warpyard$Offers" "price" "[I"] ++ wsX10)
def wsX1_put : List Cond := .code yX1_put cX1_put 5 none :: ([.fieldLink RX1 9 "Warpyard$Offers" "siding" "[I", .fieldLink RX1 15 "Warpyard$Offers" "minute" "[I", .fieldLink RX1 18 "Warpyard$Offers" "price" "[I"] ++ wsX10)
def wsX1_begunHours : List Cond := .code yX1_begunHours cX1_begunHours 1 (some .int) :: ([])
def wsX1_settle : List Cond := .code yX1_settle cX1_settle 4 (some .int) :: ([.fieldLink RX1 9 "Warpyard$Offers" "siding" "[I", .fieldLink RX1 18 "Warpyard$Offers" "price" "[I", .fieldLink RX1 15 "Warpyard$Offers" "minute" "[I", .methodLink RX1 25 Lib.Math.max.name, .static Lib.Math.max.name, .initialized "java/lang/Math", .code Lib.Math.max.name Lib.Math.max.code 2 (some .int), .methodLink RX1 21 yX1_begunHours, .static yX1_begunHours, .initialized RX1, .code yX1_begunHours cX1_begunHours 1 (some .int)] ++ wsX10)
def wsX2_init : List Cond := .code yX2_init cX2_init 1 none :: ([.methodLink RX2 3 objectInit, .instanceMethod objectInit, .code objectInit ⟨#[0xb1]⟩ 1 none, .arrayClass .boolean, .fieldLink RX2 9 "Warpyard$Tracks" "turned" "[Z"] ++ wsX20)
def wsX2_turn : List Cond := .code yX2_turn cX2_turn 2 (some .boolean) :: ([.fieldLink RX2 9 "Warpyard$Tracks" "turned" "[Z"] ++ wsX20)
def wsX2_rightOf : List Cond := .code yX2_rightOf cX2_rightOf 2 (some .int) :: ([.fieldLink RX2 9 "Warpyard$Tracks" "turned" "[Z"] ++ wsX20)
def wsX2_leftOf : List Cond := .code yX2_leftOf cX2_leftOf 2 (some .int) :: ([.fieldLink RX2 9 "Warpyard$Tracks" "turned" "[Z"] ++ wsX20)
def wsX2_ahead : List Cond := .code yX2_ahead cX2_ahead 3 (some .int) :: ([.methodLink RX2 15 yX2_rightOf, .instanceMethod yX2_rightOf, .selects RX2 yX2_rightOf yX2_rightOf, .initialized RX2, .code yX2_rightOf cX2_rightOf 2 (some .int), .fieldLink RX2 9 "Warpyard$Tracks" "turned" "[Z", .methodLink RX2 19 yX2_leftOf, .instanceMethod yX2_leftOf, .selects RX2 yX2_leftOf yX2_leftOf, .code yX2_leftOf cX2_leftOf 2 (some .int)] ++ wsX20)
def wsX3_init : List Cond := .code yX3_init cX3_init 1 none :: ([.methodLink RX3 3 objectInit, .instanceMethod objectInit, .code objectInit ⟨#[0xb1]⟩ 1 none, .arrayClass .int, .fieldLink RX3 9 "Warpyard$Trains" "block" "[I", .arrayClass .boolean, .fieldLink RX3 15 "Warpyard$Trains" "right" "[Z", .fieldLink RX3 19 "Warpyard$Trains" "held" "[Z", .fieldLink RX3 22 "Warpyard$Trains" "delay" "[I"] ++ wsX30)
def wsX3_add : List Cond := .code yX3_add cX3_add 4 (some .int) :: ([.fieldLink RX3 25 "Warpyard$Trains" "count" "I", .fieldLink RX3 9 "Warpyard$Trains" "block" "[I", .fieldLink RX3 15 "Warpyard$Trains" "right" "[Z"] ++ wsX30)
def wsX3_turnRound : List Cond := .code yX3_turnRound cX3_turnRound 2 (some .boolean) :: ([.fieldLink RX3 15 "Warpyard$Trains" "right" "[Z"] ++ wsX30)
def wsX3_copyFrom : List Cond := .code yX3_copyFrom cX3_copyFrom 3 none :: ([.fieldLink RX3 25 "Warpyard$Trains" "count" "I", .fieldLink RX3 9 "Warpyard$Trains" "block" "[I", .fieldLink RX3 15 "Warpyard$Trains" "right" "[Z", .fieldLink RX3 19 "Warpyard$Trains" "held" "[Z", .fieldLink RX3 22 "Warpyard$Trains" "delay" "[I"] ++ wsX30)
def wsX3_step_r1 : List Cond := [Cond.fieldLink RX3 22 "Warpyard$Trains" "delay" "[I", Cond.fieldLink RX3 19 "Warpyard$Trains" "held" "[Z", Cond.fieldLink RX3 9 "Warpyard$Trains" "block" "[I", Cond.fieldLink RX3 15 "Warpyard$Trains" "right" "[Z", Cond.methodLink RX3 33 yX2_ahead, Cond.instanceMethod yX2_ahead, Cond.selects RX2 yX2_ahead yX2_ahead, Cond.initialized RX2, Cond.code yX2_ahead cX2_ahead 3 (some .int), Cond.methodLink RX2 15 yX2_rightOf, Cond.instanceMethod yX2_rightOf, Cond.selects RX2 yX2_rightOf yX2_rightOf, Cond.code yX2_rightOf cX2_rightOf 2 (some .int), Cond.fieldLink RX2 9 "Warpyard$Tracks" "turned" "[Z", Cond.methodLink RX2 19 yX2_leftOf, Cond.instanceMethod yX2_leftOf, Cond.selects RX2 yX2_leftOf yX2_leftOf, Cond.code yX2_leftOf cX2_leftOf 2 (some .int), Cond.methodLink RX3 39 yX3_turnRound, Cond.instanceMethod yX3_turnRound, Cond.selects RX3 yX3_turnRound yX3_turnRound, Cond.initialized RX3, Cond.code yX3_turnRound cX3_turnRound 2 (some .boolean), Cond.methodLink RX3 43 yX3_standingOn]
def wsX3_step_r2 : List Cond := [Cond.instanceMethod yX3_standingOn, Cond.selects RX3 yX3_standingOn yX3_standingOn, Cond.code yX3_standingOn cX3_standingOn 3 (some .int), Cond.fieldLink RX3 25 "Warpyard$Trains" "count" "I", Cond.methodLink RX3 47 yX0_isForAnother, Cond.instanceMethod yX0_isForAnother, Cond.selects RX0 yX0_isForAnother yX0_isForAnother, Cond.initialized RX0, Cond.code yX0_isForAnother cX0_isForAnother 5 (some .boolean), Cond.fieldLink RX0 27 "Warpyard$Bookings" "count" "I", Cond.fieldLink RX0 15 "Warpyard$Bookings" "block" "[I", Cond.fieldLink RX0 9 "Warpyard$Bookings" "train" "[I", Cond.methodLink RX0 31 yX0_isIn, Cond.instanceMethod yX0_isIn, Cond.selects RX0 yX0_isIn yX0_isIn, Cond.code yX0_isIn cX0_isIn 3 (some .boolean), Cond.fieldLink RX0 18 "Warpyard$Bookings" "first" "[I", Cond.fieldLink RX0 21 "Warpyard$Bookings" "last" "[I"]
def wsX3_step : List Cond := .code yX3_step cX3_step 6 (some .boolean) :: ((wsX3_step_r1 ++ wsX3_step_r2) ++ wsX30 ++ wsX20 ++ wsX00)
def wsX3_runMinute_r1 : List Cond := [Cond.fieldLink RX3 25 "Warpyard$Trains" "count" "I", Cond.methodLink RX3 29 yX3_step, Cond.instanceMethod yX3_step, Cond.selects RX3 yX3_step yX3_step, Cond.initialized RX3, Cond.code yX3_step cX3_step 6 (some .boolean), Cond.fieldLink RX3 22 "Warpyard$Trains" "delay" "[I", Cond.fieldLink RX3 19 "Warpyard$Trains" "held" "[Z", Cond.fieldLink RX3 9 "Warpyard$Trains" "block" "[I", Cond.fieldLink RX3 15 "Warpyard$Trains" "right" "[Z", Cond.methodLink RX3 33 yX2_ahead, Cond.instanceMethod yX2_ahead, Cond.selects RX2 yX2_ahead yX2_ahead, Cond.initialized RX2, Cond.code yX2_ahead cX2_ahead 3 (some .int), Cond.methodLink RX2 15 yX2_rightOf, Cond.instanceMethod yX2_rightOf, Cond.selects RX2 yX2_rightOf yX2_rightOf, Cond.code yX2_rightOf cX2_rightOf 2 (some .int), Cond.fieldLink RX2 9 "Warpyard$Tracks" "turned" "[Z", Cond.methodLink RX2 19 yX2_leftOf, Cond.instanceMethod yX2_leftOf, Cond.selects RX2 yX2_leftOf yX2_leftOf, Cond.code yX2_leftOf cX2_leftOf 2 (some .int)]
def wsX3_runMinute_r2 : List Cond := [Cond.methodLink RX3 39 yX3_turnRound, Cond.instanceMethod yX3_turnRound, Cond.selects RX3 yX3_turnRound yX3_turnRound, Cond.code yX3_turnRound cX3_turnRound 2 (some .boolean), Cond.methodLink RX3 43 yX3_standingOn, Cond.instanceMethod yX3_standingOn, Cond.selects RX3 yX3_standingOn yX3_standingOn, Cond.code yX3_standingOn cX3_standingOn 3 (some .int), Cond.methodLink RX3 47 yX0_isForAnother, Cond.instanceMethod yX0_isForAnother, Cond.selects RX0 yX0_isForAnother yX0_isForAnother, Cond.initialized RX0, Cond.code yX0_isForAnother cX0_isForAnother 5 (some .boolean), Cond.fieldLink RX0 27 "Warpyard$Bookings" "count" "I", Cond.fieldLink RX0 15 "Warpyard$Bookings" "block" "[I", Cond.fieldLink RX0 9 "Warpyard$Bookings" "train" "[I", Cond.methodLink RX0 31 yX0_isIn, Cond.instanceMethod yX0_isIn, Cond.selects RX0 yX0_isIn yX0_isIn, Cond.code yX0_isIn cX0_isIn 3 (some .boolean), Cond.fieldLink RX0 18 "Warpyard$Bookings" "first" "[I", Cond.fieldLink RX0 21 "Warpyard$Bookings" "last" "[I"]
def wsX3_runMinute : List Cond := .code yX3_runMinute cX3_runMinute 6 (some .int) :: ((wsX3_runMinute_r1 ++ wsX3_runMinute_r2) ++ wsX30 ++ wsX20 ++ wsX00)
def wsX4_init : List Cond := .code yX4_init cX4_init 1 none :: ([.methodLink RX4 3 objectInit, .instanceMethod objectInit, .code objectInit ⟨#[0xb1]⟩ 1 none, .arrayClass .int, .fieldLink RX4 9 "Warpyard$Waggons" "weight" "[I", .fieldLink RX4 15 "Warpyard$Waggons" "size" "[I", .fieldLink RX4 18 "Warpyard$Waggons" "inRow" "[I"] ++ wsX40)
def wsX4_rowOfSiding : List Cond := .code yX4_rowOfSiding cX4_rowOfSiding 1 (some .int) :: ([])
def wsX4_rowOfTrain : List Cond := .code yX4_rowOfTrain cX4_rowOfTrain 1 (some .int) :: ([])
def wsX4_append : List Cond := .code yX4_append cX4_append 3 none :: ([.fieldLink RX4 15 "Warpyard$Waggons" "size" "[I", .fieldLink RX4 18 "Warpyard$Waggons" "inRow" "[I"] ++ wsX40)
def wsX4_add : List Cond := .code yX4_add cX4_add 4 (some .int) :: ([.fieldLink RX4 21 "Warpyard$Waggons" "count" "I", .fieldLink RX4 9 "Warpyard$Waggons" "weight" "[I", .methodLink RX4 25 yX4_append, .instanceMethod yX4_append, .selects RX4 yX4_append yX4_append, .initialized RX4, .code yX4_append cX4_append 3 none, .fieldLink RX4 15 "Warpyard$Waggons" "size" "[I", .fieldLink RX4 18 "Warpyard$Waggons" "inRow" "[I"] ++ wsX40)
def wsX4_fromFirst : List Cond := .code yX4_fromFirst cX4_fromFirst 3 (some .int) :: ([.fieldLink RX4 15 "Warpyard$Waggons" "size" "[I", .fieldLink RX4 18 "Warpyard$Waggons" "inRow" "[I"] ++ wsX40)
def wsX4_fromLast : List Cond := .code yX4_fromLast cX4_fromLast 3 (some .int) :: ([.fieldLink RX4 15 "Warpyard$Waggons" "size" "[I", .fieldLink RX4 18 "Warpyard$Waggons" "inRow" "[I"] ++ wsX40)
def wsX4_lastOf : List Cond := .code yX4_lastOf cX4_lastOf 2 (some .int) :: ([.methodLink RX4 29 yX4_fromLast, .instanceMethod yX4_fromLast, .selects RX4 yX4_fromLast yX4_fromLast, .initialized RX4, .code yX4_fromLast cX4_fromLast 3 (some .int), .fieldLink RX4 15 "Warpyard$Waggons" "size" "[I", .fieldLink RX4 18 "Warpyard$Waggons" "inRow" "[I"] ++ wsX40)
def wsX4_weightOf : List Cond := .code yX4_weightOf cX4_weightOf 4 (some .int) :: ([.fieldLink RX4 15 "Warpyard$Waggons" "size" "[I", .fieldLink RX4 9 "Warpyard$Waggons" "weight" "[I", .fieldLink RX4 18 "Warpyard$Waggons" "inRow" "[I"] ++ wsX40)
def wsX4_moveLast : List Cond := .code yX4_moveLast cX4_moveLast 4 none :: ([.fieldLink RX4 15 "Warpyard$Waggons" "size" "[I", .methodLink RX4 33 yX4_lastOf, .instanceMethod yX4_lastOf, .selects RX4 yX4_lastOf yX4_lastOf, .initialized RX4, .code yX4_lastOf cX4_lastOf 2 (some .int), .methodLink RX4 29 yX4_fromLast, .instanceMethod yX4_fromLast, .selects RX4 yX4_fromLast yX4_fromLast, .code yX4_fromLast cX4_fromLast 3 (some .int), .fieldLink RX4 18 "Warpyard$Waggons" "inRow" "[I", .methodLink RX4 25 yX4_append, .instanceMethod yX4_append, .selects RX4 yX4_append yX4_append, .code yX4_append cX4_append 3 none] ++ wsX40)
def wsX5_init_r1 : List Cond := [Cond.methodLink RX5 1 objectInit, Cond.instanceMethod objectInit, Cond.code objectInit ⟨#[0xb1]⟩ 1 none, Cond.classLink RX5 7 RX2, Cond.instantiable RX2 1, Cond.initialized RX2, Cond.fieldLink RX5 10 "Warpyard" "tracks" "LWarpyard$Tracks;", Cond.classLink RX5 16 RX3, Cond.instantiable RX3 5, Cond.initialized RX3, Cond.fieldLink RX5 19 "Warpyard" "trains" "LWarpyard$Trains;", Cond.fieldLink RX5 23 "Warpyard" "trial" "LWarpyard$Trains;", Cond.classLink RX5 26 RX0, Cond.instantiable RX0 6, Cond.initialized RX0, Cond.fieldLink RX5 29 "Warpyard" "bookings" "LWarpyard$Bookings;", Cond.classLink RX5 33 RX4, Cond.instantiable RX4 4, Cond.initialized RX4, Cond.fieldLink RX5 36 "Warpyard" "waggons" "LWarpyard$Waggons;", Cond.classLink RX5 40 RX1, Cond.instantiable RX1 3, Cond.initialized RX1, Cond.fieldLink RX5 43 "Warpyard" "offers" "LWarpyard$Offers;"]
def wsX5_init_r2 : List Cond := [Cond.instanceMethod yX2_init, Cond.code yX2_init cX2_init 1 none, Cond.methodLink RX2 3 objectInit, Cond.arrayClass .boolean, Cond.fieldLink RX2 9 "Warpyard$Tracks" "turned" "[Z", Cond.instanceMethod yX3_init, Cond.code yX3_init cX3_init 1 none, Cond.methodLink RX3 3 objectInit, Cond.arrayClass .int, Cond.fieldLink RX3 9 "Warpyard$Trains" "block" "[I", Cond.fieldLink RX3 15 "Warpyard$Trains" "right" "[Z", Cond.fieldLink RX3 19 "Warpyard$Trains" "held" "[Z", Cond.fieldLink RX3 22 "Warpyard$Trains" "delay" "[I", Cond.instanceMethod yX0_init, Cond.code yX0_init cX0_init 1 none, Cond.methodLink RX0 3 objectInit, Cond.fieldLink RX0 9 "Warpyard$Bookings" "train" "[I", Cond.fieldLink RX0 15 "Warpyard$Bookings" "block" "[I", Cond.fieldLink RX0 18 "Warpyard$Bookings" "first" "[I", Cond.fieldLink RX0 21 "Warpyard$Bookings" "last" "[I", Cond.fieldLink RX0 24 "Warpyard$Bookings" "lateness" "[I", Cond.instanceMethod yX4_init, Cond.code yX4_init cX4_init 1 none, Cond.methodLink RX4 3 objectInit]
def wsX5_init_r3 : List Cond := [Cond.fieldLink RX4 9 "Warpyard$Waggons" "weight" "[I", Cond.fieldLink RX4 15 "Warpyard$Waggons" "size" "[I", Cond.fieldLink RX4 18 "Warpyard$Waggons" "inRow" "[I", Cond.instanceMethod yX1_init, Cond.code yX1_init cX1_init 1 none, Cond.methodLink RX1 3 objectInit, Cond.fieldLink RX1 9 "Warpyard$Offers" "siding" "[I", Cond.fieldLink RX1 15 "Warpyard$Offers" "minute" "[I", Cond.fieldLink RX1 18 "Warpyard$Offers" "price" "[I"]
def wsX5_init : List Cond := .code yX5_init cX5_init 1 none :: ((wsX5_init_r1 ++ (wsX5_init_r2 ++ wsX5_init_r3)) ++ wsX20 ++ wsX50 ++ wsX30 ++ wsX00 ++ wsX40 ++ wsX10)
def wsX5_needBlock : List Cond := .code yX5_needBlock cX5_needBlock 1 none :: ([.classLink RX5 95 "java/lang/IndexOutOfBoundsException", .initialized "java/lang/IndexOutOfBoundsException"] ++ (vx_atS RX5 99 "java/lang/IndexOutOfBoundsException" ["java/lang/RuntimeException", "java/lang/Exception"]).filter goodWord)
def wsX5_addTrain : List Cond := .code yX5_addTrain cX5_addTrain 3 (some .int) :: ([.classLink RX5 55 "java/lang/IllegalStateException", .initialized "java/lang/IllegalStateException", .fieldLink RX5 19 "Warpyard" "trains" "LWarpyard$Trains;", .fieldLink RX5 51 "Warpyard$Trains" "count" "I", .methodLink RX5 47 yX5_needBlock, .static yX5_needBlock, .initialized RX5, .code yX5_needBlock cX5_needBlock 1 none, .classLink RX5 95 "java/lang/IndexOutOfBoundsException", .initialized "java/lang/IndexOutOfBoundsException", .methodLink RX5 62 yX3_standingOn, .instanceMethod yX3_standingOn, .selects RX3 yX3_standingOn yX3_standingOn, .initialized RX3, .code yX3_standingOn cX3_standingOn 3 (some .int), .fieldLink RX3 25 "Warpyard$Trains" "count" "I", .fieldLink RX3 9 "Warpyard$Trains" "block" "[I", .methodLink RX5 68 yX3_add, .instanceMethod yX3_add, .selects RX3 yX3_add yX3_add, .code yX3_add cX3_add 4 (some .int), .fieldLink RX3 15 "Warpyard$Trains" "right" "[Z"] ++ wsX50 ++ wsX30 ++ (vx_atS RX5 59 "java/lang/IllegalStateException" ["java/lang/RuntimeException", "java/lang/Exception"]).filter goodWord ++ (vx_atS RX5 99 "java/lang/IndexOutOfBoundsException" ["java/lang/RuntimeException", "java/lang/Exception"]).filter goodWord)
def wsX5_needTrain : List Cond := .code yX5_needTrain cX5_needTrain 2 none :: ([.classLink RX5 95 "java/lang/IndexOutOfBoundsException", .initialized "java/lang/IndexOutOfBoundsException", .fieldLink RX5 19 "Warpyard" "trains" "LWarpyard$Trains;", .fieldLink RX5 51 "Warpyard$Trains" "count" "I"] ++ wsX50 ++ wsX30 ++ (vx_atS RX5 99 "java/lang/IndexOutOfBoundsException" ["java/lang/RuntimeException", "java/lang/Exception"]).filter goodWord)
def wsX5_hold : List Cond := .code yX5_hold cX5_hold 4 (some .boolean) :: ([.fieldLink RX5 19 "Warpyard" "trains" "LWarpyard$Trains;", .fieldLink RX5 75 "Warpyard$Trains" "held" "[Z", .methodLink RX5 72 yX5_needTrain, .instanceMethod yX5_needTrain, .selects RX5 yX5_needTrain yX5_needTrain, .initialized RX5, .code yX5_needTrain cX5_needTrain 2 none, .classLink RX5 95 "java/lang/IndexOutOfBoundsException", .initialized "java/lang/IndexOutOfBoundsException", .fieldLink RX5 51 "Warpyard$Trains" "count" "I"] ++ wsX50 ++ wsX30 ++ (vx_atS RX5 99 "java/lang/IndexOutOfBoundsException" ["java/lang/RuntimeException", "java/lang/Exception"]).filter goodWord)
def wsX5_needMinutesToRun : List Cond := .code yX5_needMinutesToRun cX5_needMinutesToRun 1 none :: ([.classLink RX5 86 "java/lang/IllegalArgumentException", .initialized "java/lang/IllegalArgumentException"] ++ (vx_atS RX5 90 "java/lang/IllegalArgumentException" ["java/lang/RuntimeException", "java/lang/Exception"]).filter goodWord)
def wsX5_delay : List Cond := .code yX5_delay cX5_delay 4 (some .int) :: ([.classLink RX5 86 "java/lang/IllegalArgumentException", .initialized "java/lang/IllegalArgumentException", .fieldLink RX5 19 "Warpyard" "trains" "LWarpyard$Trains;", .fieldLink RX5 82 "Warpyard$Trains" "delay" "[I", .methodLink RX5 72 yX5_needTrain, .instanceMethod yX5_needTrain, .selects RX5 yX5_needTrain yX5_needTrain, .initialized RX5, .code yX5_needTrain cX5_needTrain 2 none, .classLink RX5 95 "java/lang/IndexOutOfBoundsException", .initialized "java/lang/IndexOutOfBoundsException", .fieldLink RX5 51 "Warpyard$Trains" "count" "I", .methodLink RX5 79 yX5_needMinutesToRun, .static yX5_needMinutesToRun, .code yX5_needMinutesToRun cX5_needMinutesToRun 1 none] ++ wsX50 ++ wsX30 ++ (vx_atS RX5 90 "java/lang/IllegalArgumentException" ["java/lang/RuntimeException", "java/lang/Exception"]).filter goodWord ++ (vx_atS RX5 99 "java/lang/IndexOutOfBoundsException" ["java/lang/RuntimeException", "java/lang/Exception"]).filter goodWord)
def wsX5_reverse : List Cond := .code yX5_reverse cX5_reverse 2 (some .boolean) :: ([.fieldLink RX5 19 "Warpyard" "trains" "LWarpyard$Trains;", .methodLink RX5 72 yX5_needTrain, .instanceMethod yX5_needTrain, .selects RX5 yX5_needTrain yX5_needTrain, .initialized RX5, .code yX5_needTrain cX5_needTrain 2 none, .classLink RX5 95 "java/lang/IndexOutOfBoundsException", .initialized "java/lang/IndexOutOfBoundsException", .fieldLink RX5 51 "Warpyard$Trains" "count" "I", .methodLink RX5 91 yX3_turnRound, .instanceMethod yX3_turnRound, .selects RX3 yX3_turnRound yX3_turnRound, .initialized RX3, .code yX3_turnRound cX3_turnRound 2 (some .boolean), .fieldLink RX3 15 "Warpyard$Trains" "right" "[Z"] ++ wsX50 ++ wsX30 ++ (vx_atS RX5 99 "java/lang/IndexOutOfBoundsException" ["java/lang/RuntimeException", "java/lang/Exception"]).filter goodWord)
def wsX5_throwSwitch : List Cond := .code yX5_throwSwitch cX5_throwSwitch 2 (some .boolean) :: ([.classLink RX5 95 "java/lang/IndexOutOfBoundsException", .initialized "java/lang/IndexOutOfBoundsException", .fieldLink RX5 10 "Warpyard" "tracks" "LWarpyard$Tracks;", .methodLink RX5 100 yX2_turn, .instanceMethod yX2_turn, .selects RX2 yX2_turn yX2_turn, .initialized RX2, .code yX2_turn cX2_turn 2 (some .boolean), .fieldLink RX2 9 "Warpyard$Tracks" "turned" "[Z"] ++ wsX50 ++ wsX20 ++ (vx_atS RX5 99 "java/lang/IndexOutOfBoundsException" ["java/lang/RuntimeException", "java/lang/Exception"]).filter goodWord)
def wsX5_block : List Cond := .code yX5_block cX5_block 2 (some .int) :: ([.fieldLink RX5 19 "Warpyard" "trains" "LWarpyard$Trains;", .fieldLink RX5 103 "Warpyard$Trains" "block" "[I", .methodLink RX5 72 yX5_needTrain, .instanceMethod yX5_needTrain, .selects RX5 yX5_needTrain yX5_needTrain, .initialized RX5, .code yX5_needTrain cX5_needTrain 2 none, .classLink RX5 95 "java/lang/IndexOutOfBoundsException", .initialized "java/lang/IndexOutOfBoundsException", .fieldLink RX5 51 "Warpyard$Trains" "count" "I"] ++ wsX50 ++ wsX30 ++ (vx_atS RX5 99 "java/lang/IndexOutOfBoundsException" ["java/lang/RuntimeException", "java/lang/Exception"]).filter goodWord)
def wsX5_isRight : List Cond := .code yX5_isRight cX5_isRight 2 (some .boolean) :: ([.fieldLink RX5 19 "Warpyard" "trains" "LWarpyard$Trains;", .fieldLink RX5 106 "Warpyard$Trains" "right" "[Z", .methodLink RX5 72 yX5_needTrain, .instanceMethod yX5_needTrain, .selects RX5 yX5_needTrain yX5_needTrain, .initialized RX5, .code yX5_needTrain cX5_needTrain 2 none, .classLink RX5 95 "java/lang/IndexOutOfBoundsException", .initialized "java/lang/IndexOutOfBoundsException", .fieldLink RX5 51 "Warpyard$Trains" "count" "I"] ++ wsX50 ++ wsX30 ++ (vx_atS RX5 99 "java/lang/IndexOutOfBoundsException" ["java/lang/RuntimeException", "java/lang/Exception"]).filter goodWord)
def wsX5_trainOn : List Cond := .code yX5_trainOn cX5_trainOn 2 (some .int) :: ([.fieldLink RX5 19 "Warpyard" "trains" "LWarpyard$Trains;", .methodLink RX5 47 yX5_needBlock, .static yX5_needBlock, .initialized RX5, .code yX5_needBlock cX5_needBlock 1 none, .classLink RX5 95 "java/lang/IndexOutOfBoundsException", .initialized "java/lang/IndexOutOfBoundsException", .methodLink RX5 62 yX3_standingOn, .instanceMethod yX3_standingOn, .selects RX3 yX3_standingOn yX3_standingOn, .initialized RX3, .code yX3_standingOn cX3_standingOn 3 (some .int), .fieldLink RX3 25 "Warpyard$Trains" "count" "I", .fieldLink RX3 9 "Warpyard$Trains" "block" "[I"] ++ wsX50 ++ wsX30 ++ (vx_atS RX5 99 "java/lang/IndexOutOfBoundsException" ["java/lang/RuntimeException", "java/lang/Exception"]).filter goodWord)
def wsX5_run_r1 : List Cond := [Cond.classLink RX5 55 "java/lang/IllegalStateException", Cond.initialized "java/lang/IllegalStateException", Cond.fieldLink RX5 109 "Warpyard" "now" "I", Cond.fieldLink RX5 19 "Warpyard" "trains" "LWarpyard$Trains;", Cond.fieldLink RX5 10 "Warpyard" "tracks" "LWarpyard$Tracks;", Cond.fieldLink RX5 29 "Warpyard" "bookings" "LWarpyard$Bookings;", Cond.methodLink RX5 79 yX5_needMinutesToRun, Cond.static yX5_needMinutesToRun, Cond.initialized RX5, Cond.code yX5_needMinutesToRun cX5_needMinutesToRun 1 none, Cond.classLink RX5 86 "java/lang/IllegalArgumentException", Cond.initialized "java/lang/IllegalArgumentException", Cond.methodLink RX5 114 yX3_runMinute, Cond.instanceMethod yX3_runMinute, Cond.selects RX3 yX3_runMinute yX3_runMinute, Cond.initialized RX3, Cond.code yX3_runMinute cX3_runMinute 6 (some .int), Cond.fieldLink RX3 25 "Warpyard$Trains" "count" "I", Cond.methodLink RX3 29 yX3_step, Cond.instanceMethod yX3_step, Cond.selects RX3 yX3_step yX3_step, Cond.code yX3_step cX3_step 6 (some .boolean), Cond.fieldLink RX3 22 "Warpyard$Trains" "delay" "[I", Cond.fieldLink RX3 19 "Warpyard$Trains" "held" "[Z"]
def wsX5_run_r2 : List Cond := [Cond.fieldLink RX3 9 "Warpyard$Trains" "block" "[I", Cond.fieldLink RX3 15 "Warpyard$Trains" "right" "[Z", Cond.methodLink RX3 33 yX2_ahead, Cond.instanceMethod yX2_ahead, Cond.selects RX2 yX2_ahead yX2_ahead, Cond.initialized RX2, Cond.code yX2_ahead cX2_ahead 3 (some .int), Cond.methodLink RX2 15 yX2_rightOf, Cond.instanceMethod yX2_rightOf, Cond.selects RX2 yX2_rightOf yX2_rightOf, Cond.code yX2_rightOf cX2_rightOf 2 (some .int), Cond.fieldLink RX2 9 "Warpyard$Tracks" "turned" "[Z", Cond.methodLink RX2 19 yX2_leftOf, Cond.instanceMethod yX2_leftOf, Cond.selects RX2 yX2_leftOf yX2_leftOf, Cond.code yX2_leftOf cX2_leftOf 2 (some .int), Cond.methodLink RX3 39 yX3_turnRound, Cond.instanceMethod yX3_turnRound, Cond.selects RX3 yX3_turnRound yX3_turnRound, Cond.code yX3_turnRound cX3_turnRound 2 (some .boolean), Cond.methodLink RX3 43 yX3_standingOn, Cond.instanceMethod yX3_standingOn, Cond.selects RX3 yX3_standingOn yX3_standingOn, Cond.code yX3_standingOn cX3_standingOn 3 (some .int)]
def wsX5_run_r3 : List Cond := [Cond.methodLink RX3 47 yX0_isForAnother, Cond.instanceMethod yX0_isForAnother, Cond.selects RX0 yX0_isForAnother yX0_isForAnother, Cond.initialized RX0, Cond.code yX0_isForAnother cX0_isForAnother 5 (some .boolean), Cond.fieldLink RX0 27 "Warpyard$Bookings" "count" "I", Cond.fieldLink RX0 15 "Warpyard$Bookings" "block" "[I", Cond.fieldLink RX0 9 "Warpyard$Bookings" "train" "[I", Cond.methodLink RX0 31 yX0_isIn, Cond.instanceMethod yX0_isIn, Cond.selects RX0 yX0_isIn yX0_isIn, Cond.code yX0_isIn cX0_isIn 3 (some .boolean), Cond.fieldLink RX0 18 "Warpyard$Bookings" "first" "[I", Cond.fieldLink RX0 21 "Warpyard$Bookings" "last" "[I", Cond.methodLink RX5 118 yX0_markMet, Cond.instanceMethod yX0_markMet, Cond.selects RX0 yX0_markMet yX0_markMet, Cond.code yX0_markMet cX0_markMet 4 none, Cond.fieldLink RX0 24 "Warpyard$Bookings" "lateness" "[I", Cond.methodLink RX0 35 yX3_standingOn]
def wsX5_run : List Cond := .code yX5_run cX5_run 4 (some .int) :: ((wsX5_run_r1 ++ (wsX5_run_r2 ++ wsX5_run_r3)) ++ wsX50 ++ wsX30 ++ wsX20 ++ wsX00 ++ (vx_atS RX5 59 "java/lang/IllegalStateException" ["java/lang/RuntimeException", "java/lang/Exception"]).filter goodWord ++ (vx_atS RX5 90 "java/lang/IllegalArgumentException" ["java/lang/RuntimeException", "java/lang/Exception"]).filter goodWord)
def wsX5_clock : List Cond := .code yX5_clock cX5_clock 1 (some .int) :: ([.fieldLink RX5 109 "Warpyard" "now" "I"] ++ wsX50)
def wsX5_reaches_r1 : List Cond := [Cond.fieldLink RX5 19 "Warpyard" "trains" "LWarpyard$Trains;", Cond.fieldLink RX5 103 "Warpyard$Trains" "block" "[I", Cond.fieldLink RX5 23 "Warpyard" "trial" "LWarpyard$Trains;", Cond.fieldLink RX5 10 "Warpyard" "tracks" "LWarpyard$Tracks;", Cond.fieldLink RX5 29 "Warpyard" "bookings" "LWarpyard$Bookings;", Cond.fieldLink RX5 109 "Warpyard" "now" "I", Cond.methodLink RX5 72 yX5_needTrain, Cond.instanceMethod yX5_needTrain, Cond.selects RX5 yX5_needTrain yX5_needTrain, Cond.initialized RX5, Cond.code yX5_needTrain cX5_needTrain 2 none, Cond.classLink RX5 95 "java/lang/IndexOutOfBoundsException", Cond.initialized "java/lang/IndexOutOfBoundsException", Cond.fieldLink RX5 51 "Warpyard$Trains" "count" "I", Cond.methodLink RX5 47 yX5_needBlock, Cond.static yX5_needBlock, Cond.code yX5_needBlock cX5_needBlock 1 none, Cond.methodLink RX5 122 yX3_copyFrom, Cond.instanceMethod yX3_copyFrom, Cond.selects RX3 yX3_copyFrom yX3_copyFrom, Cond.initialized RX3, Cond.code yX3_copyFrom cX3_copyFrom 3 none, Cond.fieldLink RX3 25 "Warpyard$Trains" "count" "I", Cond.fieldLink RX3 9 "Warpyard$Trains" "block" "[I"]
def wsX5_reaches_r2 : List Cond := [Cond.fieldLink RX3 15 "Warpyard$Trains" "right" "[Z", Cond.fieldLink RX3 19 "Warpyard$Trains" "held" "[Z", Cond.fieldLink RX3 22 "Warpyard$Trains" "delay" "[I", Cond.methodLink RX5 114 yX3_runMinute, Cond.instanceMethod yX3_runMinute, Cond.selects RX3 yX3_runMinute yX3_runMinute, Cond.code yX3_runMinute cX3_runMinute 6 (some .int), Cond.methodLink RX3 29 yX3_step, Cond.instanceMethod yX3_step, Cond.selects RX3 yX3_step yX3_step, Cond.code yX3_step cX3_step 6 (some .boolean), Cond.methodLink RX3 33 yX2_ahead, Cond.instanceMethod yX2_ahead, Cond.selects RX2 yX2_ahead yX2_ahead, Cond.initialized RX2, Cond.code yX2_ahead cX2_ahead 3 (some .int), Cond.methodLink RX2 15 yX2_rightOf, Cond.instanceMethod yX2_rightOf, Cond.selects RX2 yX2_rightOf yX2_rightOf, Cond.code yX2_rightOf cX2_rightOf 2 (some .int), Cond.fieldLink RX2 9 "Warpyard$Tracks" "turned" "[Z", Cond.methodLink RX2 19 yX2_leftOf, Cond.instanceMethod yX2_leftOf, Cond.selects RX2 yX2_leftOf yX2_leftOf]
def wsX5_reaches_r3 : List Cond := [Cond.code yX2_leftOf cX2_leftOf 2 (some .int), Cond.methodLink RX3 39 yX3_turnRound, Cond.instanceMethod yX3_turnRound, Cond.selects RX3 yX3_turnRound yX3_turnRound, Cond.code yX3_turnRound cX3_turnRound 2 (some .boolean), Cond.methodLink RX3 43 yX3_standingOn, Cond.instanceMethod yX3_standingOn, Cond.selects RX3 yX3_standingOn yX3_standingOn, Cond.code yX3_standingOn cX3_standingOn 3 (some .int), Cond.methodLink RX3 47 yX0_isForAnother, Cond.instanceMethod yX0_isForAnother, Cond.selects RX0 yX0_isForAnother yX0_isForAnother, Cond.initialized RX0, Cond.code yX0_isForAnother cX0_isForAnother 5 (some .boolean), Cond.fieldLink RX0 27 "Warpyard$Bookings" "count" "I", Cond.fieldLink RX0 15 "Warpyard$Bookings" "block" "[I", Cond.fieldLink RX0 9 "Warpyard$Bookings" "train" "[I", Cond.methodLink RX0 31 yX0_isIn, Cond.instanceMethod yX0_isIn, Cond.selects RX0 yX0_isIn yX0_isIn, Cond.code yX0_isIn cX0_isIn 3 (some .boolean), Cond.fieldLink RX0 18 "Warpyard$Bookings" "first" "[I", Cond.fieldLink RX0 21 "Warpyard$Bookings" "last" "[I"]
def wsX5_reaches : List Cond := .code yX5_reaches cX5_reaches 4 (some .int) :: ((wsX5_reaches_r1 ++ (wsX5_reaches_r2 ++ wsX5_reaches_r3)) ++ wsX50 ++ wsX30 ++ wsX20 ++ wsX00 ++ (vx_atS RX5 99 "java/lang/IndexOutOfBoundsException" ["java/lang/RuntimeException", "java/lang/Exception"]).filter goodWord)
def wsX5_needSpan : List Cond := .code yX5_needSpan cX5_needSpan 3 none :: ([.classLink RX5 86 "java/lang/IllegalArgumentException", .initialized "java/lang/IllegalArgumentException"] ++ (vx_atS RX5 90 "java/lang/IllegalArgumentException" ["java/lang/RuntimeException", "java/lang/Exception"]).filter goodWord)
def wsX5_book_r1 : List Cond := [Cond.classLink RX5 55 "java/lang/IllegalStateException", Cond.initialized "java/lang/IllegalStateException", Cond.fieldLink RX5 109 "Warpyard" "now" "I", Cond.fieldLink RX5 29 "Warpyard" "bookings" "LWarpyard$Bookings;", Cond.fieldLink RX5 130 "Warpyard$Bookings" "count" "I", Cond.methodLink RX5 72 yX5_needTrain, Cond.instanceMethod yX5_needTrain, Cond.selects RX5 yX5_needTrain yX5_needTrain, Cond.initialized RX5, Cond.code yX5_needTrain cX5_needTrain 2 none, Cond.classLink RX5 95 "java/lang/IndexOutOfBoundsException", Cond.initialized "java/lang/IndexOutOfBoundsException", Cond.fieldLink RX5 19 "Warpyard" "trains" "LWarpyard$Trains;", Cond.fieldLink RX5 51 "Warpyard$Trains" "count" "I", Cond.methodLink RX5 47 yX5_needBlock, Cond.static yX5_needBlock, Cond.code yX5_needBlock cX5_needBlock 1 none, Cond.methodLink RX5 126 yX5_needSpan, Cond.static yX5_needSpan, Cond.code yX5_needSpan cX5_needSpan 3 none, Cond.classLink RX5 86 "java/lang/IllegalArgumentException", Cond.initialized "java/lang/IllegalArgumentException", Cond.methodLink RX5 133 yX0_meetsAnother, Cond.instanceMethod yX0_meetsAnother]
def wsX5_book_r2 : List Cond := [Cond.selects RX0 yX0_meetsAnother yX0_meetsAnother, Cond.initialized RX0, Cond.code yX0_meetsAnother cX0_meetsAnother 6 (some .boolean), Cond.fieldLink RX0 27 "Warpyard$Bookings" "count" "I", Cond.fieldLink RX0 15 "Warpyard$Bookings" "block" "[I", Cond.fieldLink RX0 9 "Warpyard$Bookings" "train" "[I", Cond.fieldLink RX0 18 "Warpyard$Bookings" "first" "[I", Cond.fieldLink RX0 21 "Warpyard$Bookings" "last" "[I", Cond.methodLink RX5 137 yX0_add, Cond.instanceMethod yX0_add, Cond.selects RX0 yX0_add yX0_add, Cond.code yX0_add cX0_add 6 (some .int), Cond.fieldLink RX0 24 "Warpyard$Bookings" "lateness" "[I"]
def wsX5_book : List Cond := .code yX5_book cX5_book 5 (some .int) :: ((wsX5_book_r1 ++ wsX5_book_r2) ++ wsX50 ++ wsX00 ++ wsX30 ++ (vx_atS RX5 59 "java/lang/IllegalStateException" ["java/lang/RuntimeException", "java/lang/Exception"]).filter goodWord ++ (vx_atS RX5 99 "java/lang/IndexOutOfBoundsException" ["java/lang/RuntimeException", "java/lang/Exception"]).filter goodWord ++ (vx_atS RX5 90 "java/lang/IllegalArgumentException" ["java/lang/RuntimeException", "java/lang/Exception"]).filter goodWord)
def wsX5_canBook_r1 : List Cond := [Cond.fieldLink RX5 29 "Warpyard" "bookings" "LWarpyard$Bookings;", Cond.methodLink RX5 72 yX5_needTrain, Cond.instanceMethod yX5_needTrain, Cond.selects RX5 yX5_needTrain yX5_needTrain, Cond.initialized RX5, Cond.code yX5_needTrain cX5_needTrain 2 none, Cond.classLink RX5 95 "java/lang/IndexOutOfBoundsException", Cond.initialized "java/lang/IndexOutOfBoundsException", Cond.fieldLink RX5 19 "Warpyard" "trains" "LWarpyard$Trains;", Cond.fieldLink RX5 51 "Warpyard$Trains" "count" "I", Cond.methodLink RX5 47 yX5_needBlock, Cond.static yX5_needBlock, Cond.code yX5_needBlock cX5_needBlock 1 none, Cond.methodLink RX5 126 yX5_needSpan, Cond.static yX5_needSpan, Cond.code yX5_needSpan cX5_needSpan 3 none, Cond.classLink RX5 86 "java/lang/IllegalArgumentException", Cond.initialized "java/lang/IllegalArgumentException", Cond.methodLink RX5 133 yX0_meetsAnother, Cond.instanceMethod yX0_meetsAnother, Cond.selects RX0 yX0_meetsAnother yX0_meetsAnother, Cond.initialized RX0, Cond.code yX0_meetsAnother cX0_meetsAnother 6 (some .boolean), Cond.fieldLink RX0 27 "Warpyard$Bookings" "count" "I"]
def wsX5_canBook_r2 : List Cond := [Cond.fieldLink RX0 15 "Warpyard$Bookings" "block" "[I", Cond.fieldLink RX0 9 "Warpyard$Bookings" "train" "[I", Cond.fieldLink RX0 18 "Warpyard$Bookings" "first" "[I", Cond.fieldLink RX0 21 "Warpyard$Bookings" "last" "[I"]
def wsX5_canBook : List Cond := .code yX5_canBook cX5_canBook 5 (some .boolean) :: ((wsX5_canBook_r1 ++ wsX5_canBook_r2) ++ wsX50 ++ wsX30 ++ wsX00 ++ (vx_atS RX5 99 "java/lang/IndexOutOfBoundsException" ["java/lang/RuntimeException", "java/lang/Exception"]).filter goodWord ++ (vx_atS RX5 90 "java/lang/IllegalArgumentException" ["java/lang/RuntimeException", "java/lang/Exception"]).filter goodWord)
def wsX5_canBookByMinutes_r1 : List Cond := [Cond.fieldLink RX5 29 "Warpyard" "bookings" "LWarpyard$Bookings;", Cond.methodLink RX5 72 yX5_needTrain, Cond.instanceMethod yX5_needTrain, Cond.selects RX5 yX5_needTrain yX5_needTrain, Cond.initialized RX5, Cond.code yX5_needTrain cX5_needTrain 2 none, Cond.classLink RX5 95 "java/lang/IndexOutOfBoundsException", Cond.initialized "java/lang/IndexOutOfBoundsException", Cond.fieldLink RX5 19 "Warpyard" "trains" "LWarpyard$Trains;", Cond.fieldLink RX5 51 "Warpyard$Trains" "count" "I", Cond.methodLink RX5 47 yX5_needBlock, Cond.static yX5_needBlock, Cond.code yX5_needBlock cX5_needBlock 1 none, Cond.methodLink RX5 126 yX5_needSpan, Cond.static yX5_needSpan, Cond.code yX5_needSpan cX5_needSpan 3 none, Cond.classLink RX5 86 "java/lang/IllegalArgumentException", Cond.initialized "java/lang/IllegalArgumentException", Cond.methodLink RX5 140 yX0_isForAnother, Cond.instanceMethod yX0_isForAnother, Cond.selects RX0 yX0_isForAnother yX0_isForAnother, Cond.initialized RX0, Cond.code yX0_isForAnother cX0_isForAnother 5 (some .boolean), Cond.fieldLink RX0 27 "Warpyard$Bookings" "count" "I"]
def wsX5_canBookByMinutes_r2 : List Cond := [Cond.fieldLink RX0 15 "Warpyard$Bookings" "block" "[I", Cond.fieldLink RX0 9 "Warpyard$Bookings" "train" "[I", Cond.methodLink RX0 31 yX0_isIn, Cond.instanceMethod yX0_isIn, Cond.selects RX0 yX0_isIn yX0_isIn, Cond.code yX0_isIn cX0_isIn 3 (some .boolean), Cond.fieldLink RX0 18 "Warpyard$Bookings" "first" "[I", Cond.fieldLink RX0 21 "Warpyard$Bookings" "last" "[I"]
def wsX5_canBookByMinutes : List Cond := .code yX5_canBookByMinutes cX5_canBookByMinutes 6 (some .boolean) :: ((wsX5_canBookByMinutes_r1 ++ wsX5_canBookByMinutes_r2) ++ wsX50 ++ wsX30 ++ wsX00 ++ (vx_atS RX5 99 "java/lang/IndexOutOfBoundsException" ["java/lang/RuntimeException", "java/lang/Exception"]).filter goodWord ++ (vx_atS RX5 90 "java/lang/IllegalArgumentException" ["java/lang/RuntimeException", "java/lang/Exception"]).filter goodWord)
def wsX5_needBooking : List Cond := .code yX5_needBooking cX5_needBooking 2 none :: ([.classLink RX5 95 "java/lang/IndexOutOfBoundsException", .initialized "java/lang/IndexOutOfBoundsException", .fieldLink RX5 29 "Warpyard" "bookings" "LWarpyard$Bookings;", .fieldLink RX5 130 "Warpyard$Bookings" "count" "I"] ++ wsX50 ++ wsX00 ++ (vx_atS RX5 99 "java/lang/IndexOutOfBoundsException" ["java/lang/RuntimeException", "java/lang/Exception"]).filter goodWord)
def wsX5_booking : List Cond := .code yX5_booking cX5_booking 2 (some .int) :: ([.fieldLink RX5 29 "Warpyard" "bookings" "LWarpyard$Bookings;", .fieldLink RX5 147 "Warpyard$Bookings" "lateness" "[I", .fieldLink RX5 150 "Warpyard$Bookings" "last" "[I", .fieldLink RX5 109 "Warpyard" "now" "I", .methodLink RX5 144 yX5_needBooking, .instanceMethod yX5_needBooking, .selects RX5 yX5_needBooking yX5_needBooking, .initialized RX5, .code yX5_needBooking cX5_needBooking 2 none, .classLink RX5 95 "java/lang/IndexOutOfBoundsException", .initialized "java/lang/IndexOutOfBoundsException", .fieldLink RX5 130 "Warpyard$Bookings" "count" "I"] ++ wsX50 ++ wsX00 ++ (vx_atS RX5 99 "java/lang/IndexOutOfBoundsException" ["java/lang/RuntimeException", "java/lang/Exception"]).filter goodWord)
def wsX5_late : List Cond := .code yX5_late cX5_late 2 (some .int) :: ([.fieldLink RX5 29 "Warpyard" "bookings" "LWarpyard$Bookings;", .fieldLink RX5 147 "Warpyard$Bookings" "lateness" "[I", .methodLink RX5 144 yX5_needBooking, .instanceMethod yX5_needBooking, .selects RX5 yX5_needBooking yX5_needBooking, .initialized RX5, .code yX5_needBooking cX5_needBooking 2 none, .classLink RX5 95 "java/lang/IndexOutOfBoundsException", .initialized "java/lang/IndexOutOfBoundsException", .fieldLink RX5 130 "Warpyard$Bookings" "count" "I"] ++ wsX50 ++ wsX00 ++ (vx_atS RX5 99 "java/lang/IndexOutOfBoundsException" ["java/lang/RuntimeException", "java/lang/Exception"]).filter goodWord)
def wsX5_isSiding : List Cond := .code yX5_isSiding cX5_isSiding 1 (some .boolean) :: ([])
def wsX5_needSiding : List Cond := .code yX5_needSiding cX5_needSiding 1 none :: ([.classLink RX5 95 "java/lang/IndexOutOfBoundsException", .initialized "java/lang/IndexOutOfBoundsException", .methodLink RX5 212 yX5_isSiding, .static yX5_isSiding, .initialized RX5, .code yX5_isSiding cX5_isSiding 1 (some .boolean)] ++ (vx_atS RX5 99 "java/lang/IndexOutOfBoundsException" ["java/lang/RuntimeException", "java/lang/Exception"]).filter goodWord)
def wsX5_needRoomIn : List Cond := .code yX5_needRoomIn cX5_needRoomIn 2 none :: ([.classLink RX5 55 "java/lang/IllegalStateException", .initialized "java/lang/IllegalStateException", .fieldLink RX5 36 "Warpyard" "waggons" "LWarpyard$Waggons;", .fieldLink RX5 239 "Warpyard$Waggons" "size" "[I", .methodLink RX5 164 yX4_rowOfSiding, .static yX4_rowOfSiding, .initialized RX4, .code yX4_rowOfSiding cX4_rowOfSiding 1 (some .int)] ++ wsX50 ++ wsX40 ++ (vx_atS RX5 59 "java/lang/IllegalStateException" ["java/lang/RuntimeException", "java/lang/Exception"]).filter goodWord)
def wsX5_addWaggon_r1 : List Cond := [Cond.classLink RX5 86 "java/lang/IllegalArgumentException", Cond.initialized "java/lang/IllegalArgumentException", Cond.classLink RX5 55 "java/lang/IllegalStateException", Cond.initialized "java/lang/IllegalStateException", Cond.fieldLink RX5 36 "Warpyard" "waggons" "LWarpyard$Waggons;", Cond.fieldLink RX5 158 "Warpyard$Waggons" "count" "I", Cond.methodLink RX5 153 yX5_needSiding, Cond.static yX5_needSiding, Cond.initialized RX5, Cond.code yX5_needSiding cX5_needSiding 1 none, Cond.classLink RX5 95 "java/lang/IndexOutOfBoundsException", Cond.initialized "java/lang/IndexOutOfBoundsException", Cond.methodLink RX5 212 yX5_isSiding, Cond.static yX5_isSiding, Cond.code yX5_isSiding cX5_isSiding 1 (some .boolean), Cond.methodLink RX5 161 yX5_needRoomIn, Cond.instanceMethod yX5_needRoomIn, Cond.selects RX5 yX5_needRoomIn yX5_needRoomIn, Cond.code yX5_needRoomIn cX5_needRoomIn 2 none, Cond.fieldLink RX5 239 "Warpyard$Waggons" "size" "[I", Cond.methodLink RX5 164 yX4_rowOfSiding, Cond.static yX4_rowOfSiding, Cond.initialized RX4, Cond.code yX4_rowOfSiding cX4_rowOfSiding 1 (some .int)]
def wsX5_addWaggon_r2 : List Cond := [Cond.methodLink RX5 167 yX4_add, Cond.instanceMethod yX4_add, Cond.selects RX4 yX4_add yX4_add, Cond.code yX4_add cX4_add 4 (some .int), Cond.fieldLink RX4 21 "Warpyard$Waggons" "count" "I", Cond.fieldLink RX4 9 "Warpyard$Waggons" "weight" "[I", Cond.methodLink RX4 25 yX4_append, Cond.instanceMethod yX4_append, Cond.selects RX4 yX4_append yX4_append, Cond.code yX4_append cX4_append 3 none, Cond.fieldLink RX4 15 "Warpyard$Waggons" "size" "[I", Cond.fieldLink RX4 18 "Warpyard$Waggons" "inRow" "[I"]
def wsX5_addWaggon : List Cond := .code yX5_addWaggon cX5_addWaggon 3 (some .int) :: ((wsX5_addWaggon_r1 ++ wsX5_addWaggon_r2) ++ wsX50 ++ wsX40 ++ (vx_atS RX5 90 "java/lang/IllegalArgumentException" ["java/lang/RuntimeException", "java/lang/Exception"]).filter goodWord ++ (vx_atS RX5 59 "java/lang/IllegalStateException" ["java/lang/RuntimeException", "java/lang/Exception"]).filter goodWord ++ (vx_atS RX5 99 "java/lang/IndexOutOfBoundsException" ["java/lang/RuntimeException", "java/lang/Exception"]).filter goodWord)
def wsX5_offer : List Cond := .code yX5_offer cX5_offer 5 none :: ([.classLink RX5 95 "java/lang/IndexOutOfBoundsException", .initialized "java/lang/IndexOutOfBoundsException", .classLink RX5 86 "java/lang/IllegalArgumentException", .initialized "java/lang/IllegalArgumentException", .fieldLink RX5 36 "Warpyard" "waggons" "LWarpyard$Waggons;", .fieldLink RX5 158 "Warpyard$Waggons" "count" "I", .fieldLink RX5 43 "Warpyard" "offers" "LWarpyard$Offers;", .methodLink RX5 153 yX5_needSiding, .static yX5_needSiding, .initialized RX5, .code yX5_needSiding cX5_needSiding 1 none, .methodLink RX5 212 yX5_isSiding, .static yX5_isSiding, .code yX5_isSiding cX5_isSiding 1 (some .boolean), .methodLink RX5 176 yX1_put, .instanceMethod yX1_put, .selects RX1 yX1_put yX1_put, .initialized RX1, .code yX1_put cX1_put 5 none, .fieldLink RX1 9 "Warpyard$Offers" "siding" "[I", .fieldLink RX1 15 "Warpyard$Offers" "minute" "[I", .fieldLink RX1 18 "Warpyard$Offers" "price" "[I"] ++ wsX50 ++ wsX40 ++ wsX10 ++ (vx_atS RX5 99 "java/lang/IndexOutOfBoundsException" ["java/lang/RuntimeException", "java/lang/Exception"]).filter goodWord ++ (vx_atS RX5 90 "java/lang/IllegalArgumentException" ["java/lang/RuntimeException", "java/lang/Exception"]).filter goodWord)
def wsX5_sidingUnder : List Cond := .code yX5_sidingUnder cX5_sidingUnder 3 (some .int) :: ([.classLink RX5 55 "java/lang/IllegalStateException", .initialized "java/lang/IllegalStateException", .fieldLink RX5 19 "Warpyard" "trains" "LWarpyard$Trains;", .fieldLink RX5 103 "Warpyard$Trains" "block" "[I", .methodLink RX5 212 yX5_isSiding, .static yX5_isSiding, .initialized RX5, .code yX5_isSiding cX5_isSiding 1 (some .boolean)] ++ wsX50 ++ wsX30 ++ (vx_atS RX5 59 "java/lang/IllegalStateException" ["java/lang/RuntimeException", "java/lang/Exception"]).filter goodWord)
def wsX5_couple_r1 : List Cond := [Cond.classLink RX5 55 "java/lang/IllegalStateException", Cond.initialized "java/lang/IllegalStateException", Cond.fieldLink RX5 36 "Warpyard" "waggons" "LWarpyard$Waggons;", Cond.fieldLink RX5 194 "Warpyard$Waggons" "weight" "[I", Cond.methodLink RX5 72 yX5_needTrain, Cond.instanceMethod yX5_needTrain, Cond.selects RX5 yX5_needTrain yX5_needTrain, Cond.initialized RX5, Cond.code yX5_needTrain cX5_needTrain 2 none, Cond.classLink RX5 95 "java/lang/IndexOutOfBoundsException", Cond.initialized "java/lang/IndexOutOfBoundsException", Cond.fieldLink RX5 19 "Warpyard" "trains" "LWarpyard$Trains;", Cond.fieldLink RX5 51 "Warpyard$Trains" "count" "I", Cond.methodLink RX5 180 yX5_sidingUnder, Cond.instanceMethod yX5_sidingUnder, Cond.selects RX5 yX5_sidingUnder yX5_sidingUnder, Cond.code yX5_sidingUnder cX5_sidingUnder 3 (some .int), Cond.fieldLink RX5 103 "Warpyard$Trains" "block" "[I", Cond.methodLink RX5 212 yX5_isSiding, Cond.static yX5_isSiding, Cond.code yX5_isSiding cX5_isSiding 1 (some .boolean), Cond.methodLink RX5 164 yX4_rowOfSiding, Cond.static yX4_rowOfSiding, Cond.initialized RX4]
def wsX5_couple_r2 : List Cond := [Cond.code yX4_rowOfSiding cX4_rowOfSiding 1 (some .int), Cond.methodLink RX5 183 yX4_rowOfTrain, Cond.static yX4_rowOfTrain, Cond.code yX4_rowOfTrain cX4_rowOfTrain 1 (some .int), Cond.methodLink RX5 186 yX4_lastOf, Cond.instanceMethod yX4_lastOf, Cond.selects RX4 yX4_lastOf yX4_lastOf, Cond.code yX4_lastOf cX4_lastOf 2 (some .int), Cond.methodLink RX4 29 yX4_fromLast, Cond.instanceMethod yX4_fromLast, Cond.selects RX4 yX4_fromLast yX4_fromLast, Cond.code yX4_fromLast cX4_fromLast 3 (some .int), Cond.fieldLink RX4 15 "Warpyard$Waggons" "size" "[I", Cond.fieldLink RX4 18 "Warpyard$Waggons" "inRow" "[I", Cond.methodLink RX5 191 yX4_weightOf, Cond.instanceMethod yX4_weightOf, Cond.selects RX4 yX4_weightOf yX4_weightOf, Cond.code yX4_weightOf cX4_weightOf 4 (some .int), Cond.fieldLink RX4 9 "Warpyard$Waggons" "weight" "[I", Cond.methodLink RX5 199 yX4_moveLast, Cond.instanceMethod yX4_moveLast, Cond.selects RX4 yX4_moveLast yX4_moveLast, Cond.code yX4_moveLast cX4_moveLast 4 none, Cond.methodLink RX4 33 yX4_lastOf]
def wsX5_couple_r3 : List Cond := [Cond.methodLink RX4 25 yX4_append, Cond.instanceMethod yX4_append, Cond.selects RX4 yX4_append yX4_append, Cond.code yX4_append cX4_append 3 none]
def wsX5_couple : List Cond := .code yX5_couple cX5_couple 5 (some .int) :: ((wsX5_couple_r1 ++ (wsX5_couple_r2 ++ wsX5_couple_r3)) ++ wsX50 ++ wsX40 ++ wsX30 ++ (vx_atS RX5 59 "java/lang/IllegalStateException" ["java/lang/RuntimeException", "java/lang/Exception"]).filter goodWord ++ (vx_atS RX5 99 "java/lang/IndexOutOfBoundsException" ["java/lang/RuntimeException", "java/lang/Exception"]).filter goodWord)
def wsX5_leave_r1 : List Cond := [Cond.classLink RX5 55 "java/lang/IllegalStateException", Cond.initialized "java/lang/IllegalStateException", Cond.fieldLink RX5 36 "Warpyard" "waggons" "LWarpyard$Waggons;", Cond.fieldLink RX5 43 "Warpyard" "offers" "LWarpyard$Offers;", Cond.fieldLink RX5 109 "Warpyard" "now" "I", Cond.fieldLink RX5 209 "Warpyard" "money" "I", Cond.methodLink RX5 72 yX5_needTrain, Cond.instanceMethod yX5_needTrain, Cond.selects RX5 yX5_needTrain yX5_needTrain, Cond.initialized RX5, Cond.code yX5_needTrain cX5_needTrain 2 none, Cond.classLink RX5 95 "java/lang/IndexOutOfBoundsException", Cond.initialized "java/lang/IndexOutOfBoundsException", Cond.fieldLink RX5 19 "Warpyard" "trains" "LWarpyard$Trains;", Cond.fieldLink RX5 51 "Warpyard$Trains" "count" "I", Cond.methodLink RX5 180 yX5_sidingUnder, Cond.instanceMethod yX5_sidingUnder, Cond.selects RX5 yX5_sidingUnder yX5_sidingUnder, Cond.code yX5_sidingUnder cX5_sidingUnder 3 (some .int), Cond.fieldLink RX5 103 "Warpyard$Trains" "block" "[I", Cond.methodLink RX5 212 yX5_isSiding, Cond.static yX5_isSiding, Cond.code yX5_isSiding cX5_isSiding 1 (some .boolean), Cond.methodLink RX5 183 yX4_rowOfTrain]
def wsX5_leave_r2 : List Cond := [Cond.static yX4_rowOfTrain, Cond.initialized RX4, Cond.code yX4_rowOfTrain cX4_rowOfTrain 1 (some .int), Cond.methodLink RX5 186 yX4_lastOf, Cond.instanceMethod yX4_lastOf, Cond.selects RX4 yX4_lastOf yX4_lastOf, Cond.code yX4_lastOf cX4_lastOf 2 (some .int), Cond.methodLink RX4 29 yX4_fromLast, Cond.instanceMethod yX4_fromLast, Cond.selects RX4 yX4_fromLast yX4_fromLast, Cond.code yX4_fromLast cX4_fromLast 3 (some .int), Cond.fieldLink RX4 15 "Warpyard$Waggons" "size" "[I", Cond.fieldLink RX4 18 "Warpyard$Waggons" "inRow" "[I", Cond.methodLink RX5 161 yX5_needRoomIn, Cond.instanceMethod yX5_needRoomIn, Cond.selects RX5 yX5_needRoomIn yX5_needRoomIn, Cond.code yX5_needRoomIn cX5_needRoomIn 2 none, Cond.fieldLink RX5 239 "Warpyard$Waggons" "size" "[I", Cond.methodLink RX5 164 yX4_rowOfSiding, Cond.static yX4_rowOfSiding, Cond.code yX4_rowOfSiding cX4_rowOfSiding 1 (some .int), Cond.methodLink RX5 199 yX4_moveLast, Cond.instanceMethod yX4_moveLast, Cond.selects RX4 yX4_moveLast yX4_moveLast]
def wsX5_leave_r3 : List Cond := [Cond.code yX4_moveLast cX4_moveLast 4 none, Cond.methodLink RX4 33 yX4_lastOf, Cond.methodLink RX4 25 yX4_append, Cond.instanceMethod yX4_append, Cond.selects RX4 yX4_append yX4_append, Cond.code yX4_append cX4_append 3 none, Cond.methodLink RX5 205 yX1_settle, Cond.instanceMethod yX1_settle, Cond.selects RX1 yX1_settle yX1_settle, Cond.initialized RX1, Cond.code yX1_settle cX1_settle 4 (some .int), Cond.fieldLink RX1 9 "Warpyard$Offers" "siding" "[I", Cond.fieldLink RX1 18 "Warpyard$Offers" "price" "[I", Cond.fieldLink RX1 15 "Warpyard$Offers" "minute" "[I", Cond.methodLink RX1 25 Lib.Math.max.name, Cond.static Lib.Math.max.name, Cond.initialized "java/lang/Math", Cond.code Lib.Math.max.name Lib.Math.max.code 2 (some .int), Cond.methodLink RX1 21 yX1_begunHours, Cond.static yX1_begunHours, Cond.code yX1_begunHours cX1_begunHours 1 (some .int)]
def wsX5_leave : List Cond := .code yX5_leave cX5_leave 6 (some .int) :: ((wsX5_leave_r1 ++ (wsX5_leave_r2 ++ wsX5_leave_r3)) ++ wsX50 ++ wsX30 ++ wsX40 ++ wsX10 ++ (vx_atS RX5 59 "java/lang/IllegalStateException" ["java/lang/RuntimeException", "java/lang/Exception"]).filter goodWord ++ (vx_atS RX5 99 "java/lang/IndexOutOfBoundsException" ["java/lang/RuntimeException", "java/lang/Exception"]).filter goodWord)
def wsX5_waggonAt_r1 : List Cond := [Cond.classLink RX5 95 "java/lang/IndexOutOfBoundsException", Cond.initialized "java/lang/IndexOutOfBoundsException", Cond.fieldLink RX5 19 "Warpyard" "trains" "LWarpyard$Trains;", Cond.fieldLink RX5 51 "Warpyard$Trains" "count" "I", Cond.fieldLink RX5 36 "Warpyard" "waggons" "LWarpyard$Waggons;", Cond.methodLink RX5 212 yX5_isSiding, Cond.static yX5_isSiding, Cond.initialized RX5, Cond.code yX5_isSiding cX5_isSiding 1 (some .boolean), Cond.methodLink RX5 164 yX4_rowOfSiding, Cond.static yX4_rowOfSiding, Cond.initialized RX4, Cond.code yX4_rowOfSiding cX4_rowOfSiding 1 (some .int), Cond.methodLink RX5 219 yX4_fromLast, Cond.instanceMethod yX4_fromLast, Cond.selects RX4 yX4_fromLast yX4_fromLast, Cond.code yX4_fromLast cX4_fromLast 3 (some .int), Cond.fieldLink RX4 15 "Warpyard$Waggons" "size" "[I", Cond.fieldLink RX4 18 "Warpyard$Waggons" "inRow" "[I", Cond.methodLink RX5 183 yX4_rowOfTrain, Cond.static yX4_rowOfTrain, Cond.code yX4_rowOfTrain cX4_rowOfTrain 1 (some .int), Cond.methodLink RX5 222 yX4_fromFirst, Cond.instanceMethod yX4_fromFirst]
def wsX5_waggonAt_r2 : List Cond := [Cond.selects RX4 yX4_fromFirst yX4_fromFirst, Cond.code yX4_fromFirst cX4_fromFirst 3 (some .int)]
def wsX5_waggonAt : List Cond := .code yX5_waggonAt cX5_waggonAt 4 (some .int) :: ((wsX5_waggonAt_r1 ++ wsX5_waggonAt_r2) ++ wsX50 ++ wsX30 ++ wsX40 ++ (vx_atS RX5 99 "java/lang/IndexOutOfBoundsException" ["java/lang/RuntimeException", "java/lang/Exception"]).filter goodWord)
def wsX5_earned : List Cond := .code yX5_earned cX5_earned 1 (some .int) :: ([.fieldLink RX5 209 "Warpyard" "money" "I"] ++ wsX50)
def wsJ9_max_7cf53 : List Cond := .code yJ9_max_7cf53 cJ9_max_7cf53 2 (some .int) :: ([])
def wsL_cell : List Cond := .code yL_cell cL_cell 2 (some .int) :: ([])
def wsL_low : List Cond := .code yL_low cL_low 2 (some .int) :: ([.constant RL 7 (2147483647)])
def wsL_offers_r1 : List Cond := [Cond.methodLink RL 59 yX5_offer, Cond.instanceMethod yX5_offer, Cond.selects RX5 yX5_offer yX5_offer, Cond.initialized RX5, Cond.code yX5_offer cX5_offer 5 none, Cond.classLink RX5 95 "java/lang/IndexOutOfBoundsException", Cond.initialized "java/lang/IndexOutOfBoundsException", Cond.classLink RX5 86 "java/lang/IllegalArgumentException", Cond.initialized "java/lang/IllegalArgumentException", Cond.fieldLink RX5 36 "Warpyard" "waggons" "LWarpyard$Waggons;", Cond.fieldLink RX5 158 "Warpyard$Waggons" "count" "I", Cond.fieldLink RX5 43 "Warpyard" "offers" "LWarpyard$Offers;", Cond.methodLink RX5 153 yX5_needSiding, Cond.static yX5_needSiding, Cond.code yX5_needSiding cX5_needSiding 1 none, Cond.methodLink RX5 212 yX5_isSiding, Cond.static yX5_isSiding, Cond.code yX5_isSiding cX5_isSiding 1 (some .boolean), Cond.methodLink RX5 176 yX1_put, Cond.instanceMethod yX1_put, Cond.selects RX1 yX1_put yX1_put, Cond.initialized RX1, Cond.code yX1_put cX1_put 5 none, Cond.fieldLink RX1 9 "Warpyard$Offers" "siding" "[I"]
def wsL_offers_r2 : List Cond := [Cond.fieldLink RX1 15 "Warpyard$Offers" "minute" "[I", Cond.fieldLink RX1 18 "Warpyard$Offers" "price" "[I"]
def wsL_offers : List Cond := .code yL_offers cL_offers 5 (some .int) :: ((wsL_offers_r1 ++ wsL_offers_r2) ++ wsX50 ++ wsX40 ++ wsX10 ++ (vx_atS RX5 99 "java/lang/IndexOutOfBoundsException" ["java/lang/RuntimeException", "java/lang/Exception"]).filter goodWord ++ (vx_atS RX5 90 "java/lang/IllegalArgumentException" ["java/lang/RuntimeException", "java/lang/Exception"]).filter goodWord)
def wsL_does_r1 : List Cond := [Cond.classLink RL 52 "java/lang/IndexOutOfBoundsException", Cond.classLink RL 55 "java/lang/IllegalArgumentException", Cond.classLink RL 57 "java/lang/IllegalStateException", Cond.constant RL 54 (-99999), Cond.methodLink RL 8 yX5_addTrain, Cond.instanceMethod yX5_addTrain, Cond.selects RX5 yX5_addTrain yX5_addTrain, Cond.initialized RX5, Cond.code yX5_addTrain cX5_addTrain 3 (some .int), Cond.classLink RX5 55 "java/lang/IllegalStateException", Cond.initialized "java/lang/IllegalStateException", Cond.fieldLink RX5 19 "Warpyard" "trains" "LWarpyard$Trains;", Cond.fieldLink RX5 51 "Warpyard$Trains" "count" "I", Cond.methodLink RX5 47 yX5_needBlock, Cond.static yX5_needBlock, Cond.code yX5_needBlock cX5_needBlock 1 none, Cond.classLink RX5 95 "java/lang/IndexOutOfBoundsException", Cond.initialized "java/lang/IndexOutOfBoundsException", Cond.methodLink RX5 62 yX3_standingOn, Cond.instanceMethod yX3_standingOn, Cond.selects RX3 yX3_standingOn yX3_standingOn, Cond.initialized RX3, Cond.code yX3_standingOn cX3_standingOn 3 (some .int), Cond.fieldLink RX3 25 "Warpyard$Trains" "count" "I"]
def wsL_does_r2 : List Cond := [Cond.fieldLink RX3 9 "Warpyard$Trains" "block" "[I", Cond.methodLink RX5 68 yX3_add, Cond.instanceMethod yX3_add, Cond.selects RX3 yX3_add yX3_add, Cond.code yX3_add cX3_add 4 (some .int), Cond.fieldLink RX3 15 "Warpyard$Trains" "right" "[Z", Cond.methodLink RL 14 yX5_hold, Cond.instanceMethod yX5_hold, Cond.selects RX5 yX5_hold yX5_hold, Cond.code yX5_hold cX5_hold 4 (some .boolean), Cond.fieldLink RX5 75 "Warpyard$Trains" "held" "[Z", Cond.methodLink RX5 72 yX5_needTrain, Cond.instanceMethod yX5_needTrain, Cond.selects RX5 yX5_needTrain yX5_needTrain, Cond.code yX5_needTrain cX5_needTrain 2 none, Cond.methodLink RL 18 yX5_delay, Cond.instanceMethod yX5_delay, Cond.selects RX5 yX5_delay yX5_delay, Cond.code yX5_delay cX5_delay 4 (some .int), Cond.classLink RX5 86 "java/lang/IllegalArgumentException", Cond.initialized "java/lang/IllegalArgumentException", Cond.fieldLink RX5 82 "Warpyard$Trains" "delay" "[I", Cond.methodLink RX5 79 yX5_needMinutesToRun, Cond.static yX5_needMinutesToRun]
def wsL_does_r3 : List Cond := [Cond.code yX5_needMinutesToRun cX5_needMinutesToRun 1 none, Cond.methodLink RL 22 yX5_reverse, Cond.instanceMethod yX5_reverse, Cond.selects RX5 yX5_reverse yX5_reverse, Cond.code yX5_reverse cX5_reverse 2 (some .boolean), Cond.methodLink RX5 91 yX3_turnRound, Cond.instanceMethod yX3_turnRound, Cond.selects RX3 yX3_turnRound yX3_turnRound, Cond.code yX3_turnRound cX3_turnRound 2 (some .boolean), Cond.methodLink RL 26 yX5_throwSwitch, Cond.instanceMethod yX5_throwSwitch, Cond.selects RX5 yX5_throwSwitch yX5_throwSwitch, Cond.code yX5_throwSwitch cX5_throwSwitch 2 (some .boolean), Cond.fieldLink RX5 10 "Warpyard" "tracks" "LWarpyard$Tracks;", Cond.methodLink RX5 100 yX2_turn, Cond.instanceMethod yX2_turn, Cond.selects RX2 yX2_turn yX2_turn, Cond.initialized RX2, Cond.code yX2_turn cX2_turn 2 (some .boolean), Cond.fieldLink RX2 9 "Warpyard$Tracks" "turned" "[Z", Cond.methodLink RL 29 yX5_run, Cond.instanceMethod yX5_run, Cond.selects RX5 yX5_run yX5_run, Cond.code yX5_run cX5_run 4 (some .int)]
def wsL_does_r4 : List Cond := [Cond.fieldLink RX5 109 "Warpyard" "now" "I", Cond.fieldLink RX5 29 "Warpyard" "bookings" "LWarpyard$Bookings;", Cond.methodLink RX5 114 yX3_runMinute, Cond.instanceMethod yX3_runMinute, Cond.selects RX3 yX3_runMinute yX3_runMinute, Cond.code yX3_runMinute cX3_runMinute 6 (some .int), Cond.methodLink RX3 29 yX3_step, Cond.instanceMethod yX3_step, Cond.selects RX3 yX3_step yX3_step, Cond.code yX3_step cX3_step 6 (some .boolean), Cond.fieldLink RX3 22 "Warpyard$Trains" "delay" "[I", Cond.fieldLink RX3 19 "Warpyard$Trains" "held" "[Z", Cond.methodLink RX3 33 yX2_ahead, Cond.instanceMethod yX2_ahead, Cond.selects RX2 yX2_ahead yX2_ahead, Cond.code yX2_ahead cX2_ahead 3 (some .int), Cond.methodLink RX2 15 yX2_rightOf, Cond.instanceMethod yX2_rightOf, Cond.selects RX2 yX2_rightOf yX2_rightOf, Cond.code yX2_rightOf cX2_rightOf 2 (some .int), Cond.methodLink RX2 19 yX2_leftOf, Cond.instanceMethod yX2_leftOf, Cond.selects RX2 yX2_leftOf yX2_leftOf, Cond.code yX2_leftOf cX2_leftOf 2 (some .int)]
def wsL_does_r5 : List Cond := [Cond.methodLink RX3 39 yX3_turnRound, Cond.methodLink RX3 43 yX3_standingOn, Cond.methodLink RX3 47 yX0_isForAnother, Cond.instanceMethod yX0_isForAnother, Cond.selects RX0 yX0_isForAnother yX0_isForAnother, Cond.initialized RX0, Cond.code yX0_isForAnother cX0_isForAnother 5 (some .boolean), Cond.fieldLink RX0 27 "Warpyard$Bookings" "count" "I", Cond.fieldLink RX0 15 "Warpyard$Bookings" "block" "[I", Cond.fieldLink RX0 9 "Warpyard$Bookings" "train" "[I", Cond.methodLink RX0 31 yX0_isIn, Cond.instanceMethod yX0_isIn, Cond.selects RX0 yX0_isIn yX0_isIn, Cond.code yX0_isIn cX0_isIn 3 (some .boolean), Cond.fieldLink RX0 18 "Warpyard$Bookings" "first" "[I", Cond.fieldLink RX0 21 "Warpyard$Bookings" "last" "[I", Cond.methodLink RX5 118 yX0_markMet, Cond.instanceMethod yX0_markMet, Cond.selects RX0 yX0_markMet yX0_markMet, Cond.code yX0_markMet cX0_markMet 4 none, Cond.fieldLink RX0 24 "Warpyard$Bookings" "lateness" "[I", Cond.methodLink RX0 35 yX3_standingOn, Cond.methodLink RL 33 yX5_book, Cond.instanceMethod yX5_book]
def wsL_does_r6 : List Cond := [Cond.selects RX5 yX5_book yX5_book, Cond.code yX5_book cX5_book 5 (some .int), Cond.fieldLink RX5 130 "Warpyard$Bookings" "count" "I", Cond.methodLink RX5 126 yX5_needSpan, Cond.static yX5_needSpan, Cond.code yX5_needSpan cX5_needSpan 3 none, Cond.methodLink RX5 133 yX0_meetsAnother, Cond.instanceMethod yX0_meetsAnother, Cond.selects RX0 yX0_meetsAnother yX0_meetsAnother, Cond.code yX0_meetsAnother cX0_meetsAnother 6 (some .boolean), Cond.methodLink RX5 137 yX0_add, Cond.instanceMethod yX0_add, Cond.selects RX0 yX0_add yX0_add, Cond.code yX0_add cX0_add 6 (some .int), Cond.methodLink RL 37 yX5_addWaggon, Cond.instanceMethod yX5_addWaggon, Cond.selects RX5 yX5_addWaggon yX5_addWaggon, Cond.code yX5_addWaggon cX5_addWaggon 3 (some .int), Cond.fieldLink RX5 36 "Warpyard" "waggons" "LWarpyard$Waggons;", Cond.fieldLink RX5 158 "Warpyard$Waggons" "count" "I", Cond.methodLink RX5 153 yX5_needSiding, Cond.static yX5_needSiding, Cond.code yX5_needSiding cX5_needSiding 1 none, Cond.methodLink RX5 212 yX5_isSiding]
def wsL_does_r7 : List Cond := [Cond.static yX5_isSiding, Cond.code yX5_isSiding cX5_isSiding 1 (some .boolean), Cond.methodLink RX5 161 yX5_needRoomIn, Cond.instanceMethod yX5_needRoomIn, Cond.selects RX5 yX5_needRoomIn yX5_needRoomIn, Cond.code yX5_needRoomIn cX5_needRoomIn 2 none, Cond.fieldLink RX5 239 "Warpyard$Waggons" "size" "[I", Cond.methodLink RX5 164 yX4_rowOfSiding, Cond.static yX4_rowOfSiding, Cond.initialized RX4, Cond.code yX4_rowOfSiding cX4_rowOfSiding 1 (some .int), Cond.methodLink RX5 167 yX4_add, Cond.instanceMethod yX4_add, Cond.selects RX4 yX4_add yX4_add, Cond.code yX4_add cX4_add 4 (some .int), Cond.fieldLink RX4 21 "Warpyard$Waggons" "count" "I", Cond.fieldLink RX4 9 "Warpyard$Waggons" "weight" "[I", Cond.methodLink RX4 25 yX4_append, Cond.instanceMethod yX4_append, Cond.selects RX4 yX4_append yX4_append, Cond.code yX4_append cX4_append 3 none, Cond.fieldLink RX4 15 "Warpyard$Waggons" "size" "[I", Cond.fieldLink RX4 18 "Warpyard$Waggons" "inRow" "[I", Cond.methodLink RL 40 yL_offers]
def wsL_does_r8 : List Cond := [Cond.static yL_offers, Cond.initialized RL, Cond.code yL_offers cL_offers 5 (some .int), Cond.methodLink RL 59 yX5_offer, Cond.instanceMethod yX5_offer, Cond.selects RX5 yX5_offer yX5_offer, Cond.code yX5_offer cX5_offer 5 none, Cond.fieldLink RX5 43 "Warpyard" "offers" "LWarpyard$Offers;", Cond.methodLink RX5 176 yX1_put, Cond.instanceMethod yX1_put, Cond.selects RX1 yX1_put yX1_put, Cond.initialized RX1, Cond.code yX1_put cX1_put 5 none, Cond.fieldLink RX1 9 "Warpyard$Offers" "siding" "[I", Cond.fieldLink RX1 15 "Warpyard$Offers" "minute" "[I", Cond.fieldLink RX1 18 "Warpyard$Offers" "price" "[I", Cond.methodLink RL 46 yX5_couple, Cond.instanceMethod yX5_couple, Cond.selects RX5 yX5_couple yX5_couple, Cond.code yX5_couple cX5_couple 5 (some .int), Cond.fieldLink RX5 194 "Warpyard$Waggons" "weight" "[I", Cond.methodLink RX5 180 yX5_sidingUnder, Cond.instanceMethod yX5_sidingUnder, Cond.selects RX5 yX5_sidingUnder yX5_sidingUnder]
def wsL_does_r9 : List Cond := [Cond.code yX5_sidingUnder cX5_sidingUnder 3 (some .int), Cond.fieldLink RX5 103 "Warpyard$Trains" "block" "[I", Cond.methodLink RX5 183 yX4_rowOfTrain, Cond.static yX4_rowOfTrain, Cond.code yX4_rowOfTrain cX4_rowOfTrain 1 (some .int), Cond.methodLink RX5 186 yX4_lastOf, Cond.instanceMethod yX4_lastOf, Cond.selects RX4 yX4_lastOf yX4_lastOf, Cond.code yX4_lastOf cX4_lastOf 2 (some .int), Cond.methodLink RX4 29 yX4_fromLast, Cond.instanceMethod yX4_fromLast, Cond.selects RX4 yX4_fromLast yX4_fromLast, Cond.code yX4_fromLast cX4_fromLast 3 (some .int), Cond.methodLink RX5 191 yX4_weightOf, Cond.instanceMethod yX4_weightOf, Cond.selects RX4 yX4_weightOf yX4_weightOf, Cond.code yX4_weightOf cX4_weightOf 4 (some .int), Cond.methodLink RX5 199 yX4_moveLast, Cond.instanceMethod yX4_moveLast, Cond.selects RX4 yX4_moveLast yX4_moveLast, Cond.code yX4_moveLast cX4_moveLast 4 none, Cond.methodLink RX4 33 yX4_lastOf, Cond.methodLink RL 49 yX5_leave, Cond.instanceMethod yX5_leave]
def wsL_does_r10 : List Cond := [Cond.selects RX5 yX5_leave yX5_leave, Cond.code yX5_leave cX5_leave 6 (some .int), Cond.fieldLink RX5 209 "Warpyard" "money" "I", Cond.methodLink RX5 205 yX1_settle, Cond.instanceMethod yX1_settle, Cond.selects RX1 yX1_settle yX1_settle, Cond.code yX1_settle cX1_settle 4 (some .int), Cond.methodLink RX1 25 Lib.Math.max.name, Cond.static Lib.Math.max.name, Cond.initialized "java/lang/Math", Cond.code Lib.Math.max.name Lib.Math.max.code 2 (some .int), Cond.methodLink RX1 21 yX1_begunHours, Cond.static yX1_begunHours, Cond.code yX1_begunHours cX1_begunHours 1 (some .int)]
def wsL_does : List Cond := .codeWith yL_does cL_does 7 (some .int) [(0, 194, 195, 52), (0, 194, 200, 55), (0, 194, 205, 57)] :: ((wsL_does_r1 ++ (wsL_does_r2 ++ (wsL_does_r3 ++ (wsL_does_r4 ++ (wsL_does_r5 ++ (wsL_does_r6 ++ (wsL_does_r7 ++ (wsL_does_r8 ++ (wsL_does_r9 ++ wsL_does_r10))))))))) ++ wsX50 ++ wsX30 ++ wsX20 ++ wsX00 ++ wsX40 ++ wsX10 ++ (vx_atS RX5 59 "java/lang/IllegalStateException" ["java/lang/RuntimeException", "java/lang/Exception"]).filter goodWord ++ (vx_atS RX5 99 "java/lang/IndexOutOfBoundsException" ["java/lang/RuntimeException", "java/lang/Exception"]).filter goodWord ++ (vx_atS RX5 90 "java/lang/IllegalArgumentException" ["java/lang/RuntimeException", "java/lang/Exception"]).filter goodWord)
def wsL_looks_r1 : List Cond := [Cond.classLink RL 52 "java/lang/IndexOutOfBoundsException", Cond.constant RL 54 (-99999), Cond.methodLink RL 63 yX5_block, Cond.instanceMethod yX5_block, Cond.selects RX5 yX5_block yX5_block, Cond.initialized RX5, Cond.code yX5_block cX5_block 2 (some .int), Cond.fieldLink RX5 19 "Warpyard" "trains" "LWarpyard$Trains;", Cond.fieldLink RX5 103 "Warpyard$Trains" "block" "[I", Cond.methodLink RX5 72 yX5_needTrain, Cond.instanceMethod yX5_needTrain, Cond.selects RX5 yX5_needTrain yX5_needTrain, Cond.code yX5_needTrain cX5_needTrain 2 none, Cond.classLink RX5 95 "java/lang/IndexOutOfBoundsException", Cond.initialized "java/lang/IndexOutOfBoundsException", Cond.fieldLink RX5 51 "Warpyard$Trains" "count" "I", Cond.methodLink RL 66 yX5_isRight, Cond.instanceMethod yX5_isRight, Cond.selects RX5 yX5_isRight yX5_isRight, Cond.code yX5_isRight cX5_isRight 2 (some .boolean), Cond.fieldLink RX5 106 "Warpyard$Trains" "right" "[Z", Cond.methodLink RL 69 yX5_booking, Cond.instanceMethod yX5_booking, Cond.selects RX5 yX5_booking yX5_booking]
def wsL_looks_r2 : List Cond := [Cond.code yX5_booking cX5_booking 2 (some .int), Cond.fieldLink RX5 29 "Warpyard" "bookings" "LWarpyard$Bookings;", Cond.fieldLink RX5 147 "Warpyard$Bookings" "lateness" "[I", Cond.fieldLink RX5 150 "Warpyard$Bookings" "last" "[I", Cond.fieldLink RX5 109 "Warpyard" "now" "I", Cond.methodLink RX5 144 yX5_needBooking, Cond.instanceMethod yX5_needBooking, Cond.selects RX5 yX5_needBooking yX5_needBooking, Cond.code yX5_needBooking cX5_needBooking 2 none, Cond.fieldLink RX5 130 "Warpyard$Bookings" "count" "I", Cond.methodLink RL 72 yX5_late, Cond.instanceMethod yX5_late, Cond.selects RX5 yX5_late yX5_late, Cond.code yX5_late cX5_late 2 (some .int), Cond.methodLink RL 75 yX5_waggonAt, Cond.instanceMethod yX5_waggonAt, Cond.selects RX5 yX5_waggonAt yX5_waggonAt, Cond.code yX5_waggonAt cX5_waggonAt 4 (some .int), Cond.fieldLink RX5 36 "Warpyard" "waggons" "LWarpyard$Waggons;", Cond.methodLink RX5 212 yX5_isSiding, Cond.static yX5_isSiding, Cond.code yX5_isSiding cX5_isSiding 1 (some .boolean), Cond.methodLink RX5 164 yX4_rowOfSiding, Cond.static yX4_rowOfSiding]
def wsL_looks_r3 : List Cond := [Cond.initialized RX4, Cond.code yX4_rowOfSiding cX4_rowOfSiding 1 (some .int), Cond.methodLink RX5 219 yX4_fromLast, Cond.instanceMethod yX4_fromLast, Cond.selects RX4 yX4_fromLast yX4_fromLast, Cond.code yX4_fromLast cX4_fromLast 3 (some .int), Cond.fieldLink RX4 15 "Warpyard$Waggons" "size" "[I", Cond.fieldLink RX4 18 "Warpyard$Waggons" "inRow" "[I", Cond.methodLink RX5 183 yX4_rowOfTrain, Cond.static yX4_rowOfTrain, Cond.code yX4_rowOfTrain cX4_rowOfTrain 1 (some .int), Cond.methodLink RX5 222 yX4_fromFirst, Cond.instanceMethod yX4_fromFirst, Cond.selects RX4 yX4_fromFirst yX4_fromFirst, Cond.code yX4_fromFirst cX4_fromFirst 3 (some .int), Cond.methodLink RL 78 yX5_reaches, Cond.instanceMethod yX5_reaches, Cond.selects RX5 yX5_reaches yX5_reaches, Cond.code yX5_reaches cX5_reaches 4 (some .int), Cond.fieldLink RX5 23 "Warpyard" "trial" "LWarpyard$Trains;", Cond.fieldLink RX5 10 "Warpyard" "tracks" "LWarpyard$Tracks;", Cond.methodLink RX5 47 yX5_needBlock, Cond.static yX5_needBlock, Cond.code yX5_needBlock cX5_needBlock 1 none]
def wsL_looks_r4 : List Cond := [Cond.methodLink RX5 122 yX3_copyFrom, Cond.instanceMethod yX3_copyFrom, Cond.selects RX3 yX3_copyFrom yX3_copyFrom, Cond.initialized RX3, Cond.code yX3_copyFrom cX3_copyFrom 3 none, Cond.fieldLink RX3 25 "Warpyard$Trains" "count" "I", Cond.fieldLink RX3 9 "Warpyard$Trains" "block" "[I", Cond.fieldLink RX3 15 "Warpyard$Trains" "right" "[Z", Cond.fieldLink RX3 19 "Warpyard$Trains" "held" "[Z", Cond.fieldLink RX3 22 "Warpyard$Trains" "delay" "[I", Cond.methodLink RX5 114 yX3_runMinute, Cond.instanceMethod yX3_runMinute, Cond.selects RX3 yX3_runMinute yX3_runMinute, Cond.code yX3_runMinute cX3_runMinute 6 (some .int), Cond.methodLink RX3 29 yX3_step, Cond.instanceMethod yX3_step, Cond.selects RX3 yX3_step yX3_step, Cond.code yX3_step cX3_step 6 (some .boolean), Cond.methodLink RX3 33 yX2_ahead, Cond.instanceMethod yX2_ahead, Cond.selects RX2 yX2_ahead yX2_ahead, Cond.initialized RX2, Cond.code yX2_ahead cX2_ahead 3 (some .int), Cond.methodLink RX2 15 yX2_rightOf]
def wsL_looks_r5 : List Cond := [Cond.instanceMethod yX2_rightOf, Cond.selects RX2 yX2_rightOf yX2_rightOf, Cond.code yX2_rightOf cX2_rightOf 2 (some .int), Cond.fieldLink RX2 9 "Warpyard$Tracks" "turned" "[Z", Cond.methodLink RX2 19 yX2_leftOf, Cond.instanceMethod yX2_leftOf, Cond.selects RX2 yX2_leftOf yX2_leftOf, Cond.code yX2_leftOf cX2_leftOf 2 (some .int), Cond.methodLink RX3 39 yX3_turnRound, Cond.instanceMethod yX3_turnRound, Cond.selects RX3 yX3_turnRound yX3_turnRound, Cond.code yX3_turnRound cX3_turnRound 2 (some .boolean), Cond.methodLink RX3 43 yX3_standingOn, Cond.instanceMethod yX3_standingOn, Cond.selects RX3 yX3_standingOn yX3_standingOn, Cond.code yX3_standingOn cX3_standingOn 3 (some .int), Cond.methodLink RX3 47 yX0_isForAnother, Cond.instanceMethod yX0_isForAnother, Cond.selects RX0 yX0_isForAnother yX0_isForAnother, Cond.initialized RX0, Cond.code yX0_isForAnother cX0_isForAnother 5 (some .boolean), Cond.fieldLink RX0 27 "Warpyard$Bookings" "count" "I", Cond.fieldLink RX0 15 "Warpyard$Bookings" "block" "[I", Cond.fieldLink RX0 9 "Warpyard$Bookings" "train" "[I"]
def wsL_looks_r6 : List Cond := [Cond.methodLink RX0 31 yX0_isIn, Cond.instanceMethod yX0_isIn, Cond.selects RX0 yX0_isIn yX0_isIn, Cond.code yX0_isIn cX0_isIn 3 (some .boolean), Cond.fieldLink RX0 18 "Warpyard$Bookings" "first" "[I", Cond.fieldLink RX0 21 "Warpyard$Bookings" "last" "[I"]
def wsL_looks : List Cond := .codeWith yL_looks cL_looks 5 (some .int) [(0, 79, 80, 52)] :: ((wsL_looks_r1 ++ (wsL_looks_r2 ++ (wsL_looks_r3 ++ (wsL_looks_r4 ++ (wsL_looks_r5 ++ wsL_looks_r6))))) ++ wsX50 ++ wsX30 ++ wsX00 ++ wsX40 ++ wsX20 ++ (vx_atS RX5 99 "java/lang/IndexOutOfBoundsException" ["java/lang/RuntimeException", "java/lang/Exception"]).filter goodWord)
def wsL_can_r1 : List Cond := [Cond.classLink RL 52 "java/lang/IndexOutOfBoundsException", Cond.classLink RL 55 "java/lang/IllegalArgumentException", Cond.constant RL 54 (-99999), Cond.methodLink RL 81 yX5_canBook, Cond.instanceMethod yX5_canBook, Cond.selects RX5 yX5_canBook yX5_canBook, Cond.initialized RX5, Cond.code yX5_canBook cX5_canBook 5 (some .boolean), Cond.fieldLink RX5 29 "Warpyard" "bookings" "LWarpyard$Bookings;", Cond.methodLink RX5 72 yX5_needTrain, Cond.instanceMethod yX5_needTrain, Cond.selects RX5 yX5_needTrain yX5_needTrain, Cond.code yX5_needTrain cX5_needTrain 2 none, Cond.classLink RX5 95 "java/lang/IndexOutOfBoundsException", Cond.initialized "java/lang/IndexOutOfBoundsException", Cond.fieldLink RX5 19 "Warpyard" "trains" "LWarpyard$Trains;", Cond.fieldLink RX5 51 "Warpyard$Trains" "count" "I", Cond.methodLink RX5 47 yX5_needBlock, Cond.static yX5_needBlock, Cond.code yX5_needBlock cX5_needBlock 1 none, Cond.methodLink RX5 126 yX5_needSpan, Cond.static yX5_needSpan, Cond.code yX5_needSpan cX5_needSpan 3 none, Cond.classLink RX5 86 "java/lang/IllegalArgumentException"]
def wsL_can_r2 : List Cond := [Cond.initialized "java/lang/IllegalArgumentException", Cond.methodLink RX5 133 yX0_meetsAnother, Cond.instanceMethod yX0_meetsAnother, Cond.selects RX0 yX0_meetsAnother yX0_meetsAnother, Cond.initialized RX0, Cond.code yX0_meetsAnother cX0_meetsAnother 6 (some .boolean), Cond.fieldLink RX0 27 "Warpyard$Bookings" "count" "I", Cond.fieldLink RX0 15 "Warpyard$Bookings" "block" "[I", Cond.fieldLink RX0 9 "Warpyard$Bookings" "train" "[I", Cond.fieldLink RX0 18 "Warpyard$Bookings" "first" "[I", Cond.fieldLink RX0 21 "Warpyard$Bookings" "last" "[I"]
def wsL_can : List Cond := .codeWith yL_can cL_can 6 (some .int) [(0, 17, 18, 52), (0, 17, 23, 55)] :: ((wsL_can_r1 ++ wsL_can_r2) ++ wsX50 ++ wsX30 ++ wsX00 ++ (vx_atS RX5 99 "java/lang/IndexOutOfBoundsException" ["java/lang/RuntimeException", "java/lang/Exception"]).filter goodWord ++ (vx_atS RX5 90 "java/lang/IllegalArgumentException" ["java/lang/RuntimeException", "java/lang/Exception"]).filter goodWord)
def wsL_trains_r1 : List Cond := [Cond.methodLink RL 85 yL_looks, Cond.static yL_looks, Cond.initialized RL, Cond.codeWith yL_looks cL_looks 5 (some .int) [(0, 79, 80, 52)], Cond.classLink RL 52 "java/lang/IndexOutOfBoundsException", Cond.constant RL 54 (-99999), Cond.methodLink RL 63 yX5_block, Cond.instanceMethod yX5_block, Cond.selects RX5 yX5_block yX5_block, Cond.initialized RX5, Cond.code yX5_block cX5_block 2 (some .int), Cond.fieldLink RX5 19 "Warpyard" "trains" "LWarpyard$Trains;", Cond.fieldLink RX5 103 "Warpyard$Trains" "block" "[I", Cond.methodLink RX5 72 yX5_needTrain, Cond.instanceMethod yX5_needTrain, Cond.selects RX5 yX5_needTrain yX5_needTrain, Cond.code yX5_needTrain cX5_needTrain 2 none, Cond.classLink RX5 95 "java/lang/IndexOutOfBoundsException", Cond.initialized "java/lang/IndexOutOfBoundsException", Cond.fieldLink RX5 51 "Warpyard$Trains" "count" "I", Cond.methodLink RL 66 yX5_isRight, Cond.instanceMethod yX5_isRight, Cond.selects RX5 yX5_isRight yX5_isRight, Cond.code yX5_isRight cX5_isRight 2 (some .boolean)]
def wsL_trains_r2 : List Cond := [Cond.fieldLink RX5 106 "Warpyard$Trains" "right" "[Z", Cond.methodLink RL 69 yX5_booking, Cond.instanceMethod yX5_booking, Cond.selects RX5 yX5_booking yX5_booking, Cond.code yX5_booking cX5_booking 2 (some .int), Cond.fieldLink RX5 29 "Warpyard" "bookings" "LWarpyard$Bookings;", Cond.fieldLink RX5 147 "Warpyard$Bookings" "lateness" "[I", Cond.fieldLink RX5 150 "Warpyard$Bookings" "last" "[I", Cond.fieldLink RX5 109 "Warpyard" "now" "I", Cond.methodLink RX5 144 yX5_needBooking, Cond.instanceMethod yX5_needBooking, Cond.selects RX5 yX5_needBooking yX5_needBooking, Cond.code yX5_needBooking cX5_needBooking 2 none, Cond.fieldLink RX5 130 "Warpyard$Bookings" "count" "I", Cond.methodLink RL 72 yX5_late, Cond.instanceMethod yX5_late, Cond.selects RX5 yX5_late yX5_late, Cond.code yX5_late cX5_late 2 (some .int), Cond.methodLink RL 75 yX5_waggonAt, Cond.instanceMethod yX5_waggonAt, Cond.selects RX5 yX5_waggonAt yX5_waggonAt, Cond.code yX5_waggonAt cX5_waggonAt 4 (some .int), Cond.fieldLink RX5 36 "Warpyard" "waggons" "LWarpyard$Waggons;", Cond.methodLink RX5 212 yX5_isSiding]
def wsL_trains_r3 : List Cond := [Cond.static yX5_isSiding, Cond.code yX5_isSiding cX5_isSiding 1 (some .boolean), Cond.methodLink RX5 164 yX4_rowOfSiding, Cond.static yX4_rowOfSiding, Cond.initialized RX4, Cond.code yX4_rowOfSiding cX4_rowOfSiding 1 (some .int), Cond.methodLink RX5 219 yX4_fromLast, Cond.instanceMethod yX4_fromLast, Cond.selects RX4 yX4_fromLast yX4_fromLast, Cond.code yX4_fromLast cX4_fromLast 3 (some .int), Cond.fieldLink RX4 15 "Warpyard$Waggons" "size" "[I", Cond.fieldLink RX4 18 "Warpyard$Waggons" "inRow" "[I", Cond.methodLink RX5 183 yX4_rowOfTrain, Cond.static yX4_rowOfTrain, Cond.code yX4_rowOfTrain cX4_rowOfTrain 1 (some .int), Cond.methodLink RX5 222 yX4_fromFirst, Cond.instanceMethod yX4_fromFirst, Cond.selects RX4 yX4_fromFirst yX4_fromFirst, Cond.code yX4_fromFirst cX4_fromFirst 3 (some .int), Cond.methodLink RL 78 yX5_reaches, Cond.instanceMethod yX5_reaches, Cond.selects RX5 yX5_reaches yX5_reaches, Cond.code yX5_reaches cX5_reaches 4 (some .int), Cond.fieldLink RX5 23 "Warpyard" "trial" "LWarpyard$Trains;"]
def wsL_trains_r4 : List Cond := [Cond.fieldLink RX5 10 "Warpyard" "tracks" "LWarpyard$Tracks;", Cond.methodLink RX5 47 yX5_needBlock, Cond.static yX5_needBlock, Cond.code yX5_needBlock cX5_needBlock 1 none, Cond.methodLink RX5 122 yX3_copyFrom, Cond.instanceMethod yX3_copyFrom, Cond.selects RX3 yX3_copyFrom yX3_copyFrom, Cond.initialized RX3, Cond.code yX3_copyFrom cX3_copyFrom 3 none, Cond.fieldLink RX3 25 "Warpyard$Trains" "count" "I", Cond.fieldLink RX3 9 "Warpyard$Trains" "block" "[I", Cond.fieldLink RX3 15 "Warpyard$Trains" "right" "[Z", Cond.fieldLink RX3 19 "Warpyard$Trains" "held" "[Z", Cond.fieldLink RX3 22 "Warpyard$Trains" "delay" "[I", Cond.methodLink RX5 114 yX3_runMinute, Cond.instanceMethod yX3_runMinute, Cond.selects RX3 yX3_runMinute yX3_runMinute, Cond.code yX3_runMinute cX3_runMinute 6 (some .int), Cond.methodLink RX3 29 yX3_step, Cond.instanceMethod yX3_step, Cond.selects RX3 yX3_step yX3_step, Cond.code yX3_step cX3_step 6 (some .boolean), Cond.methodLink RX3 33 yX2_ahead, Cond.instanceMethod yX2_ahead]
def wsL_trains_r5 : List Cond := [Cond.selects RX2 yX2_ahead yX2_ahead, Cond.initialized RX2, Cond.code yX2_ahead cX2_ahead 3 (some .int), Cond.methodLink RX2 15 yX2_rightOf, Cond.instanceMethod yX2_rightOf, Cond.selects RX2 yX2_rightOf yX2_rightOf, Cond.code yX2_rightOf cX2_rightOf 2 (some .int), Cond.fieldLink RX2 9 "Warpyard$Tracks" "turned" "[Z", Cond.methodLink RX2 19 yX2_leftOf, Cond.instanceMethod yX2_leftOf, Cond.selects RX2 yX2_leftOf yX2_leftOf, Cond.code yX2_leftOf cX2_leftOf 2 (some .int), Cond.methodLink RX3 39 yX3_turnRound, Cond.instanceMethod yX3_turnRound, Cond.selects RX3 yX3_turnRound yX3_turnRound, Cond.code yX3_turnRound cX3_turnRound 2 (some .boolean), Cond.methodLink RX3 43 yX3_standingOn, Cond.instanceMethod yX3_standingOn, Cond.selects RX3 yX3_standingOn yX3_standingOn, Cond.code yX3_standingOn cX3_standingOn 3 (some .int), Cond.methodLink RX3 47 yX0_isForAnother, Cond.instanceMethod yX0_isForAnother, Cond.selects RX0 yX0_isForAnother yX0_isForAnother, Cond.initialized RX0]
def wsL_trains_r6 : List Cond := [Cond.code yX0_isForAnother cX0_isForAnother 5 (some .boolean), Cond.fieldLink RX0 27 "Warpyard$Bookings" "count" "I", Cond.fieldLink RX0 15 "Warpyard$Bookings" "block" "[I", Cond.fieldLink RX0 9 "Warpyard$Bookings" "train" "[I", Cond.methodLink RX0 31 yX0_isIn, Cond.instanceMethod yX0_isIn, Cond.selects RX0 yX0_isIn yX0_isIn, Cond.code yX0_isIn cX0_isIn 3 (some .boolean), Cond.fieldLink RX0 18 "Warpyard$Bookings" "first" "[I", Cond.fieldLink RX0 21 "Warpyard$Bookings" "last" "[I"]
def wsL_trains : List Cond := .code yL_trains cL_trains 2 (some .int) :: ((wsL_trains_r1 ++ (wsL_trains_r2 ++ (wsL_trains_r3 ++ (wsL_trains_r4 ++ (wsL_trains_r5 ++ wsL_trains_r6))))) ++ wsX50 ++ wsX30 ++ wsX00 ++ wsX40 ++ wsX20 ++ (vx_atS RX5 99 "java/lang/IndexOutOfBoundsException" ["java/lang/RuntimeException", "java/lang/Exception"]).filter goodWord)
def wsL_act_r1 : List Cond := [Cond.methodLink RL 89 yL_low, Cond.static yL_low, Cond.initialized RL, Cond.code yL_low cL_low 2 (some .int), Cond.constant RL 7 (2147483647), Cond.methodLink RL 92 yL_does, Cond.static yL_does, Cond.codeWith yL_does cL_does 7 (some .int) [(0, 194, 195, 52), (0, 194, 200, 55), (0, 194, 205, 57)], Cond.classLink RL 52 "java/lang/IndexOutOfBoundsException", Cond.classLink RL 55 "java/lang/IllegalArgumentException", Cond.classLink RL 57 "java/lang/IllegalStateException", Cond.constant RL 54 (-99999), Cond.methodLink RL 8 yX5_addTrain, Cond.instanceMethod yX5_addTrain, Cond.selects RX5 yX5_addTrain yX5_addTrain, Cond.initialized RX5, Cond.code yX5_addTrain cX5_addTrain 3 (some .int), Cond.classLink RX5 55 "java/lang/IllegalStateException", Cond.initialized "java/lang/IllegalStateException", Cond.fieldLink RX5 19 "Warpyard" "trains" "LWarpyard$Trains;", Cond.fieldLink RX5 51 "Warpyard$Trains" "count" "I", Cond.methodLink RX5 47 yX5_needBlock, Cond.static yX5_needBlock, Cond.code yX5_needBlock cX5_needBlock 1 none]
def wsL_act_r2 : List Cond := [Cond.classLink RX5 95 "java/lang/IndexOutOfBoundsException", Cond.initialized "java/lang/IndexOutOfBoundsException", Cond.methodLink RX5 62 yX3_standingOn, Cond.instanceMethod yX3_standingOn, Cond.selects RX3 yX3_standingOn yX3_standingOn, Cond.initialized RX3, Cond.code yX3_standingOn cX3_standingOn 3 (some .int), Cond.fieldLink RX3 25 "Warpyard$Trains" "count" "I", Cond.fieldLink RX3 9 "Warpyard$Trains" "block" "[I", Cond.methodLink RX5 68 yX3_add, Cond.instanceMethod yX3_add, Cond.selects RX3 yX3_add yX3_add, Cond.code yX3_add cX3_add 4 (some .int), Cond.fieldLink RX3 15 "Warpyard$Trains" "right" "[Z", Cond.methodLink RL 14 yX5_hold, Cond.instanceMethod yX5_hold, Cond.selects RX5 yX5_hold yX5_hold, Cond.code yX5_hold cX5_hold 4 (some .boolean), Cond.fieldLink RX5 75 "Warpyard$Trains" "held" "[Z", Cond.methodLink RX5 72 yX5_needTrain, Cond.instanceMethod yX5_needTrain, Cond.selects RX5 yX5_needTrain yX5_needTrain, Cond.code yX5_needTrain cX5_needTrain 2 none, Cond.methodLink RL 18 yX5_delay]
def wsL_act_r3 : List Cond := [Cond.instanceMethod yX5_delay, Cond.selects RX5 yX5_delay yX5_delay, Cond.code yX5_delay cX5_delay 4 (some .int), Cond.classLink RX5 86 "java/lang/IllegalArgumentException", Cond.initialized "java/lang/IllegalArgumentException", Cond.fieldLink RX5 82 "Warpyard$Trains" "delay" "[I", Cond.methodLink RX5 79 yX5_needMinutesToRun, Cond.static yX5_needMinutesToRun, Cond.code yX5_needMinutesToRun cX5_needMinutesToRun 1 none, Cond.methodLink RL 22 yX5_reverse, Cond.instanceMethod yX5_reverse, Cond.selects RX5 yX5_reverse yX5_reverse, Cond.code yX5_reverse cX5_reverse 2 (some .boolean), Cond.methodLink RX5 91 yX3_turnRound, Cond.instanceMethod yX3_turnRound, Cond.selects RX3 yX3_turnRound yX3_turnRound, Cond.code yX3_turnRound cX3_turnRound 2 (some .boolean), Cond.methodLink RL 26 yX5_throwSwitch, Cond.instanceMethod yX5_throwSwitch, Cond.selects RX5 yX5_throwSwitch yX5_throwSwitch, Cond.code yX5_throwSwitch cX5_throwSwitch 2 (some .boolean), Cond.fieldLink RX5 10 "Warpyard" "tracks" "LWarpyard$Tracks;", Cond.methodLink RX5 100 yX2_turn, Cond.instanceMethod yX2_turn]
def wsL_act_r4 : List Cond := [Cond.selects RX2 yX2_turn yX2_turn, Cond.initialized RX2, Cond.code yX2_turn cX2_turn 2 (some .boolean), Cond.fieldLink RX2 9 "Warpyard$Tracks" "turned" "[Z", Cond.methodLink RL 29 yX5_run, Cond.instanceMethod yX5_run, Cond.selects RX5 yX5_run yX5_run, Cond.code yX5_run cX5_run 4 (some .int), Cond.fieldLink RX5 109 "Warpyard" "now" "I", Cond.fieldLink RX5 29 "Warpyard" "bookings" "LWarpyard$Bookings;", Cond.methodLink RX5 114 yX3_runMinute, Cond.instanceMethod yX3_runMinute, Cond.selects RX3 yX3_runMinute yX3_runMinute, Cond.code yX3_runMinute cX3_runMinute 6 (some .int), Cond.methodLink RX3 29 yX3_step, Cond.instanceMethod yX3_step, Cond.selects RX3 yX3_step yX3_step, Cond.code yX3_step cX3_step 6 (some .boolean), Cond.fieldLink RX3 22 "Warpyard$Trains" "delay" "[I", Cond.fieldLink RX3 19 "Warpyard$Trains" "held" "[Z", Cond.methodLink RX3 33 yX2_ahead, Cond.instanceMethod yX2_ahead, Cond.selects RX2 yX2_ahead yX2_ahead, Cond.code yX2_ahead cX2_ahead 3 (some .int)]
def wsL_act_r5 : List Cond := [Cond.methodLink RX2 15 yX2_rightOf, Cond.instanceMethod yX2_rightOf, Cond.selects RX2 yX2_rightOf yX2_rightOf, Cond.code yX2_rightOf cX2_rightOf 2 (some .int), Cond.methodLink RX2 19 yX2_leftOf, Cond.instanceMethod yX2_leftOf, Cond.selects RX2 yX2_leftOf yX2_leftOf, Cond.code yX2_leftOf cX2_leftOf 2 (some .int), Cond.methodLink RX3 39 yX3_turnRound, Cond.methodLink RX3 43 yX3_standingOn, Cond.methodLink RX3 47 yX0_isForAnother, Cond.instanceMethod yX0_isForAnother, Cond.selects RX0 yX0_isForAnother yX0_isForAnother, Cond.initialized RX0, Cond.code yX0_isForAnother cX0_isForAnother 5 (some .boolean), Cond.fieldLink RX0 27 "Warpyard$Bookings" "count" "I", Cond.fieldLink RX0 15 "Warpyard$Bookings" "block" "[I", Cond.fieldLink RX0 9 "Warpyard$Bookings" "train" "[I", Cond.methodLink RX0 31 yX0_isIn, Cond.instanceMethod yX0_isIn, Cond.selects RX0 yX0_isIn yX0_isIn, Cond.code yX0_isIn cX0_isIn 3 (some .boolean), Cond.fieldLink RX0 18 "Warpyard$Bookings" "first" "[I", Cond.fieldLink RX0 21 "Warpyard$Bookings" "last" "[I"]
def wsL_act_r6 : List Cond := [Cond.methodLink RX5 118 yX0_markMet, Cond.instanceMethod yX0_markMet, Cond.selects RX0 yX0_markMet yX0_markMet, Cond.code yX0_markMet cX0_markMet 4 none, Cond.fieldLink RX0 24 "Warpyard$Bookings" "lateness" "[I", Cond.methodLink RX0 35 yX3_standingOn, Cond.methodLink RL 33 yX5_book, Cond.instanceMethod yX5_book, Cond.selects RX5 yX5_book yX5_book, Cond.code yX5_book cX5_book 5 (some .int), Cond.fieldLink RX5 130 "Warpyard$Bookings" "count" "I", Cond.methodLink RX5 126 yX5_needSpan, Cond.static yX5_needSpan, Cond.code yX5_needSpan cX5_needSpan 3 none, Cond.methodLink RX5 133 yX0_meetsAnother, Cond.instanceMethod yX0_meetsAnother, Cond.selects RX0 yX0_meetsAnother yX0_meetsAnother, Cond.code yX0_meetsAnother cX0_meetsAnother 6 (some .boolean), Cond.methodLink RX5 137 yX0_add, Cond.instanceMethod yX0_add, Cond.selects RX0 yX0_add yX0_add, Cond.code yX0_add cX0_add 6 (some .int), Cond.methodLink RL 37 yX5_addWaggon, Cond.instanceMethod yX5_addWaggon]
def wsL_act_r7 : List Cond := [Cond.selects RX5 yX5_addWaggon yX5_addWaggon, Cond.code yX5_addWaggon cX5_addWaggon 3 (some .int), Cond.fieldLink RX5 36 "Warpyard" "waggons" "LWarpyard$Waggons;", Cond.fieldLink RX5 158 "Warpyard$Waggons" "count" "I", Cond.methodLink RX5 153 yX5_needSiding, Cond.static yX5_needSiding, Cond.code yX5_needSiding cX5_needSiding 1 none, Cond.methodLink RX5 212 yX5_isSiding, Cond.static yX5_isSiding, Cond.code yX5_isSiding cX5_isSiding 1 (some .boolean), Cond.methodLink RX5 161 yX5_needRoomIn, Cond.instanceMethod yX5_needRoomIn, Cond.selects RX5 yX5_needRoomIn yX5_needRoomIn, Cond.code yX5_needRoomIn cX5_needRoomIn 2 none, Cond.fieldLink RX5 239 "Warpyard$Waggons" "size" "[I", Cond.methodLink RX5 164 yX4_rowOfSiding, Cond.static yX4_rowOfSiding, Cond.initialized RX4, Cond.code yX4_rowOfSiding cX4_rowOfSiding 1 (some .int), Cond.methodLink RX5 167 yX4_add, Cond.instanceMethod yX4_add, Cond.selects RX4 yX4_add yX4_add, Cond.code yX4_add cX4_add 4 (some .int), Cond.fieldLink RX4 21 "Warpyard$Waggons" "count" "I"]
def wsL_act_r8 : List Cond := [Cond.fieldLink RX4 9 "Warpyard$Waggons" "weight" "[I", Cond.methodLink RX4 25 yX4_append, Cond.instanceMethod yX4_append, Cond.selects RX4 yX4_append yX4_append, Cond.code yX4_append cX4_append 3 none, Cond.fieldLink RX4 15 "Warpyard$Waggons" "size" "[I", Cond.fieldLink RX4 18 "Warpyard$Waggons" "inRow" "[I", Cond.methodLink RL 40 yL_offers, Cond.static yL_offers, Cond.code yL_offers cL_offers 5 (some .int), Cond.methodLink RL 59 yX5_offer, Cond.instanceMethod yX5_offer, Cond.selects RX5 yX5_offer yX5_offer, Cond.code yX5_offer cX5_offer 5 none, Cond.fieldLink RX5 43 "Warpyard" "offers" "LWarpyard$Offers;", Cond.methodLink RX5 176 yX1_put, Cond.instanceMethod yX1_put, Cond.selects RX1 yX1_put yX1_put, Cond.initialized RX1, Cond.code yX1_put cX1_put 5 none, Cond.fieldLink RX1 9 "Warpyard$Offers" "siding" "[I", Cond.fieldLink RX1 15 "Warpyard$Offers" "minute" "[I", Cond.fieldLink RX1 18 "Warpyard$Offers" "price" "[I", Cond.methodLink RL 46 yX5_couple]
def wsL_act_r9 : List Cond := [Cond.instanceMethod yX5_couple, Cond.selects RX5 yX5_couple yX5_couple, Cond.code yX5_couple cX5_couple 5 (some .int), Cond.fieldLink RX5 194 "Warpyard$Waggons" "weight" "[I", Cond.methodLink RX5 180 yX5_sidingUnder, Cond.instanceMethod yX5_sidingUnder, Cond.selects RX5 yX5_sidingUnder yX5_sidingUnder, Cond.code yX5_sidingUnder cX5_sidingUnder 3 (some .int), Cond.fieldLink RX5 103 "Warpyard$Trains" "block" "[I", Cond.methodLink RX5 183 yX4_rowOfTrain, Cond.static yX4_rowOfTrain, Cond.code yX4_rowOfTrain cX4_rowOfTrain 1 (some .int), Cond.methodLink RX5 186 yX4_lastOf, Cond.instanceMethod yX4_lastOf, Cond.selects RX4 yX4_lastOf yX4_lastOf, Cond.code yX4_lastOf cX4_lastOf 2 (some .int), Cond.methodLink RX4 29 yX4_fromLast, Cond.instanceMethod yX4_fromLast, Cond.selects RX4 yX4_fromLast yX4_fromLast, Cond.code yX4_fromLast cX4_fromLast 3 (some .int), Cond.methodLink RX5 191 yX4_weightOf, Cond.instanceMethod yX4_weightOf, Cond.selects RX4 yX4_weightOf yX4_weightOf, Cond.code yX4_weightOf cX4_weightOf 4 (some .int)]
def wsL_act_r10 : List Cond := [Cond.methodLink RX5 199 yX4_moveLast, Cond.instanceMethod yX4_moveLast, Cond.selects RX4 yX4_moveLast yX4_moveLast, Cond.code yX4_moveLast cX4_moveLast 4 none, Cond.methodLink RX4 33 yX4_lastOf, Cond.methodLink RL 49 yX5_leave, Cond.instanceMethod yX5_leave, Cond.selects RX5 yX5_leave yX5_leave, Cond.code yX5_leave cX5_leave 6 (some .int), Cond.fieldLink RX5 209 "Warpyard" "money" "I", Cond.methodLink RX5 205 yX1_settle, Cond.instanceMethod yX1_settle, Cond.selects RX1 yX1_settle yX1_settle, Cond.code yX1_settle cX1_settle 4 (some .int), Cond.methodLink RX1 25 Lib.Math.max.name, Cond.static Lib.Math.max.name, Cond.initialized "java/lang/Math", Cond.code Lib.Math.max.name Lib.Math.max.code 2 (some .int), Cond.methodLink RX1 21 yX1_begunHours, Cond.static yX1_begunHours, Cond.code yX1_begunHours cX1_begunHours 1 (some .int), Cond.methodLink RL 96 yX5_clock, Cond.instanceMethod yX5_clock, Cond.selects RX5 yX5_clock yX5_clock]
def wsL_act_r11 : List Cond := [Cond.code yX5_clock cX5_clock 1 (some .int)]
def wsL_act : List Cond := .code yL_act cL_act 6 (some .int) :: ((wsL_act_r1 ++ (wsL_act_r2 ++ (wsL_act_r3 ++ (wsL_act_r4 ++ (wsL_act_r5 ++ (wsL_act_r6 ++ (wsL_act_r7 ++ (wsL_act_r8 ++ (wsL_act_r9 ++ (wsL_act_r10 ++ wsL_act_r11)))))))))) ++ wsX50 ++ wsX30 ++ wsX20 ++ wsX00 ++ wsX40 ++ wsX10 ++ (vx_atS RX5 59 "java/lang/IllegalStateException" ["java/lang/RuntimeException", "java/lang/Exception"]).filter goodWord ++ (vx_atS RX5 99 "java/lang/IndexOutOfBoundsException" ["java/lang/RuntimeException", "java/lang/Exception"]).filter goodWord ++ (vx_atS RX5 90 "java/lang/IllegalArgumentException" ["java/lang/RuntimeException", "java/lang/Exception"]).filter goodWord)
def wsL_areAlike_r1 : List Cond := [Cond.methodLink RL 96 yX5_clock, Cond.instanceMethod yX5_clock, Cond.selects RX5 yX5_clock yX5_clock, Cond.initialized RX5, Cond.code yX5_clock cX5_clock 1 (some .int), Cond.fieldLink RX5 109 "Warpyard" "now" "I", Cond.methodLink RL 100 yX5_earned, Cond.instanceMethod yX5_earned, Cond.selects RX5 yX5_earned yX5_earned, Cond.code yX5_earned cX5_earned 1 (some .int), Cond.fieldLink RX5 209 "Warpyard" "money" "I", Cond.methodLink RL 85 yL_looks, Cond.static yL_looks, Cond.initialized RL, Cond.codeWith yL_looks cL_looks 5 (some .int) [(0, 79, 80, 52)], Cond.classLink RL 52 "java/lang/IndexOutOfBoundsException", Cond.constant RL 54 (-99999), Cond.methodLink RL 63 yX5_block, Cond.instanceMethod yX5_block, Cond.selects RX5 yX5_block yX5_block, Cond.code yX5_block cX5_block 2 (some .int), Cond.fieldLink RX5 19 "Warpyard" "trains" "LWarpyard$Trains;", Cond.fieldLink RX5 103 "Warpyard$Trains" "block" "[I", Cond.methodLink RX5 72 yX5_needTrain]
def wsL_areAlike_r2 : List Cond := [Cond.instanceMethod yX5_needTrain, Cond.selects RX5 yX5_needTrain yX5_needTrain, Cond.code yX5_needTrain cX5_needTrain 2 none, Cond.classLink RX5 95 "java/lang/IndexOutOfBoundsException", Cond.initialized "java/lang/IndexOutOfBoundsException", Cond.fieldLink RX5 51 "Warpyard$Trains" "count" "I", Cond.methodLink RL 66 yX5_isRight, Cond.instanceMethod yX5_isRight, Cond.selects RX5 yX5_isRight yX5_isRight, Cond.code yX5_isRight cX5_isRight 2 (some .boolean), Cond.fieldLink RX5 106 "Warpyard$Trains" "right" "[Z", Cond.methodLink RL 69 yX5_booking, Cond.instanceMethod yX5_booking, Cond.selects RX5 yX5_booking yX5_booking, Cond.code yX5_booking cX5_booking 2 (some .int), Cond.fieldLink RX5 29 "Warpyard" "bookings" "LWarpyard$Bookings;", Cond.fieldLink RX5 147 "Warpyard$Bookings" "lateness" "[I", Cond.fieldLink RX5 150 "Warpyard$Bookings" "last" "[I", Cond.methodLink RX5 144 yX5_needBooking, Cond.instanceMethod yX5_needBooking, Cond.selects RX5 yX5_needBooking yX5_needBooking, Cond.code yX5_needBooking cX5_needBooking 2 none, Cond.fieldLink RX5 130 "Warpyard$Bookings" "count" "I", Cond.methodLink RL 72 yX5_late]
def wsL_areAlike_r3 : List Cond := [Cond.instanceMethod yX5_late, Cond.selects RX5 yX5_late yX5_late, Cond.code yX5_late cX5_late 2 (some .int), Cond.methodLink RL 75 yX5_waggonAt, Cond.instanceMethod yX5_waggonAt, Cond.selects RX5 yX5_waggonAt yX5_waggonAt, Cond.code yX5_waggonAt cX5_waggonAt 4 (some .int), Cond.fieldLink RX5 36 "Warpyard" "waggons" "LWarpyard$Waggons;", Cond.methodLink RX5 212 yX5_isSiding, Cond.static yX5_isSiding, Cond.code yX5_isSiding cX5_isSiding 1 (some .boolean), Cond.methodLink RX5 164 yX4_rowOfSiding, Cond.static yX4_rowOfSiding, Cond.initialized RX4, Cond.code yX4_rowOfSiding cX4_rowOfSiding 1 (some .int), Cond.methodLink RX5 219 yX4_fromLast, Cond.instanceMethod yX4_fromLast, Cond.selects RX4 yX4_fromLast yX4_fromLast, Cond.code yX4_fromLast cX4_fromLast 3 (some .int), Cond.fieldLink RX4 15 "Warpyard$Waggons" "size" "[I", Cond.fieldLink RX4 18 "Warpyard$Waggons" "inRow" "[I", Cond.methodLink RX5 183 yX4_rowOfTrain, Cond.static yX4_rowOfTrain, Cond.code yX4_rowOfTrain cX4_rowOfTrain 1 (some .int)]
def wsL_areAlike_r4 : List Cond := [Cond.methodLink RX5 222 yX4_fromFirst, Cond.instanceMethod yX4_fromFirst, Cond.selects RX4 yX4_fromFirst yX4_fromFirst, Cond.code yX4_fromFirst cX4_fromFirst 3 (some .int), Cond.methodLink RL 78 yX5_reaches, Cond.instanceMethod yX5_reaches, Cond.selects RX5 yX5_reaches yX5_reaches, Cond.code yX5_reaches cX5_reaches 4 (some .int), Cond.fieldLink RX5 23 "Warpyard" "trial" "LWarpyard$Trains;", Cond.fieldLink RX5 10 "Warpyard" "tracks" "LWarpyard$Tracks;", Cond.methodLink RX5 47 yX5_needBlock, Cond.static yX5_needBlock, Cond.code yX5_needBlock cX5_needBlock 1 none, Cond.methodLink RX5 122 yX3_copyFrom, Cond.instanceMethod yX3_copyFrom, Cond.selects RX3 yX3_copyFrom yX3_copyFrom, Cond.initialized RX3, Cond.code yX3_copyFrom cX3_copyFrom 3 none, Cond.fieldLink RX3 25 "Warpyard$Trains" "count" "I", Cond.fieldLink RX3 9 "Warpyard$Trains" "block" "[I", Cond.fieldLink RX3 15 "Warpyard$Trains" "right" "[Z", Cond.fieldLink RX3 19 "Warpyard$Trains" "held" "[Z", Cond.fieldLink RX3 22 "Warpyard$Trains" "delay" "[I", Cond.methodLink RX5 114 yX3_runMinute]
def wsL_areAlike_r5 : List Cond := [Cond.instanceMethod yX3_runMinute, Cond.selects RX3 yX3_runMinute yX3_runMinute, Cond.code yX3_runMinute cX3_runMinute 6 (some .int), Cond.methodLink RX3 29 yX3_step, Cond.instanceMethod yX3_step, Cond.selects RX3 yX3_step yX3_step, Cond.code yX3_step cX3_step 6 (some .boolean), Cond.methodLink RX3 33 yX2_ahead, Cond.instanceMethod yX2_ahead, Cond.selects RX2 yX2_ahead yX2_ahead, Cond.initialized RX2, Cond.code yX2_ahead cX2_ahead 3 (some .int), Cond.methodLink RX2 15 yX2_rightOf, Cond.instanceMethod yX2_rightOf, Cond.selects RX2 yX2_rightOf yX2_rightOf, Cond.code yX2_rightOf cX2_rightOf 2 (some .int), Cond.fieldLink RX2 9 "Warpyard$Tracks" "turned" "[Z", Cond.methodLink RX2 19 yX2_leftOf, Cond.instanceMethod yX2_leftOf, Cond.selects RX2 yX2_leftOf yX2_leftOf, Cond.code yX2_leftOf cX2_leftOf 2 (some .int), Cond.methodLink RX3 39 yX3_turnRound, Cond.instanceMethod yX3_turnRound, Cond.selects RX3 yX3_turnRound yX3_turnRound]
def wsL_areAlike_r6 : List Cond := [Cond.code yX3_turnRound cX3_turnRound 2 (some .boolean), Cond.methodLink RX3 43 yX3_standingOn, Cond.instanceMethod yX3_standingOn, Cond.selects RX3 yX3_standingOn yX3_standingOn, Cond.code yX3_standingOn cX3_standingOn 3 (some .int), Cond.methodLink RX3 47 yX0_isForAnother, Cond.instanceMethod yX0_isForAnother, Cond.selects RX0 yX0_isForAnother yX0_isForAnother, Cond.initialized RX0, Cond.code yX0_isForAnother cX0_isForAnother 5 (some .boolean), Cond.fieldLink RX0 27 "Warpyard$Bookings" "count" "I", Cond.fieldLink RX0 15 "Warpyard$Bookings" "block" "[I", Cond.fieldLink RX0 9 "Warpyard$Bookings" "train" "[I", Cond.methodLink RX0 31 yX0_isIn, Cond.instanceMethod yX0_isIn, Cond.selects RX0 yX0_isIn yX0_isIn, Cond.code yX0_isIn cX0_isIn 3 (some .boolean), Cond.fieldLink RX0 18 "Warpyard$Bookings" "first" "[I", Cond.fieldLink RX0 21 "Warpyard$Bookings" "last" "[I"]
def wsL_areAlike : List Cond := .code yL_areAlike cL_areAlike 4 (some .boolean) :: ((wsL_areAlike_r1 ++ (wsL_areAlike_r2 ++ (wsL_areAlike_r3 ++ (wsL_areAlike_r4 ++ (wsL_areAlike_r5 ++ wsL_areAlike_r6))))) ++ wsX50 ++ wsX30 ++ wsX00 ++ wsX40 ++ wsX20 ++ (vx_atS RX5 99 "java/lang/IndexOutOfBoundsException" ["java/lang/RuntimeException", "java/lang/Exception"]).filter goodWord)
def wsL_arePlacesSo_r1 : List Cond := [Cond.constant RL 54 (-99999), Cond.methodLink RL 103 yL_trains, Cond.static yL_trains, Cond.initialized RL, Cond.code yL_trains cL_trains 2 (some .int), Cond.methodLink RL 85 yL_looks, Cond.static yL_looks, Cond.codeWith yL_looks cL_looks 5 (some .int) [(0, 79, 80, 52)], Cond.classLink RL 52 "java/lang/IndexOutOfBoundsException", Cond.methodLink RL 63 yX5_block, Cond.instanceMethod yX5_block, Cond.selects RX5 yX5_block yX5_block, Cond.initialized RX5, Cond.code yX5_block cX5_block 2 (some .int), Cond.fieldLink RX5 19 "Warpyard" "trains" "LWarpyard$Trains;", Cond.fieldLink RX5 103 "Warpyard$Trains" "block" "[I", Cond.methodLink RX5 72 yX5_needTrain, Cond.instanceMethod yX5_needTrain, Cond.selects RX5 yX5_needTrain yX5_needTrain, Cond.code yX5_needTrain cX5_needTrain 2 none, Cond.classLink RX5 95 "java/lang/IndexOutOfBoundsException", Cond.initialized "java/lang/IndexOutOfBoundsException", Cond.fieldLink RX5 51 "Warpyard$Trains" "count" "I", Cond.methodLink RL 66 yX5_isRight]
def wsL_arePlacesSo_r2 : List Cond := [Cond.instanceMethod yX5_isRight, Cond.selects RX5 yX5_isRight yX5_isRight, Cond.code yX5_isRight cX5_isRight 2 (some .boolean), Cond.fieldLink RX5 106 "Warpyard$Trains" "right" "[Z", Cond.methodLink RL 69 yX5_booking, Cond.instanceMethod yX5_booking, Cond.selects RX5 yX5_booking yX5_booking, Cond.code yX5_booking cX5_booking 2 (some .int), Cond.fieldLink RX5 29 "Warpyard" "bookings" "LWarpyard$Bookings;", Cond.fieldLink RX5 147 "Warpyard$Bookings" "lateness" "[I", Cond.fieldLink RX5 150 "Warpyard$Bookings" "last" "[I", Cond.fieldLink RX5 109 "Warpyard" "now" "I", Cond.methodLink RX5 144 yX5_needBooking, Cond.instanceMethod yX5_needBooking, Cond.selects RX5 yX5_needBooking yX5_needBooking, Cond.code yX5_needBooking cX5_needBooking 2 none, Cond.fieldLink RX5 130 "Warpyard$Bookings" "count" "I", Cond.methodLink RL 72 yX5_late, Cond.instanceMethod yX5_late, Cond.selects RX5 yX5_late yX5_late, Cond.code yX5_late cX5_late 2 (some .int), Cond.methodLink RL 75 yX5_waggonAt, Cond.instanceMethod yX5_waggonAt, Cond.selects RX5 yX5_waggonAt yX5_waggonAt]
def wsL_arePlacesSo_r3 : List Cond := [Cond.code yX5_waggonAt cX5_waggonAt 4 (some .int), Cond.fieldLink RX5 36 "Warpyard" "waggons" "LWarpyard$Waggons;", Cond.methodLink RX5 212 yX5_isSiding, Cond.static yX5_isSiding, Cond.code yX5_isSiding cX5_isSiding 1 (some .boolean), Cond.methodLink RX5 164 yX4_rowOfSiding, Cond.static yX4_rowOfSiding, Cond.initialized RX4, Cond.code yX4_rowOfSiding cX4_rowOfSiding 1 (some .int), Cond.methodLink RX5 219 yX4_fromLast, Cond.instanceMethod yX4_fromLast, Cond.selects RX4 yX4_fromLast yX4_fromLast, Cond.code yX4_fromLast cX4_fromLast 3 (some .int), Cond.fieldLink RX4 15 "Warpyard$Waggons" "size" "[I", Cond.fieldLink RX4 18 "Warpyard$Waggons" "inRow" "[I", Cond.methodLink RX5 183 yX4_rowOfTrain, Cond.static yX4_rowOfTrain, Cond.code yX4_rowOfTrain cX4_rowOfTrain 1 (some .int), Cond.methodLink RX5 222 yX4_fromFirst, Cond.instanceMethod yX4_fromFirst, Cond.selects RX4 yX4_fromFirst yX4_fromFirst, Cond.code yX4_fromFirst cX4_fromFirst 3 (some .int), Cond.methodLink RL 78 yX5_reaches, Cond.instanceMethod yX5_reaches]
def wsL_arePlacesSo_r4 : List Cond := [Cond.selects RX5 yX5_reaches yX5_reaches, Cond.code yX5_reaches cX5_reaches 4 (some .int), Cond.fieldLink RX5 23 "Warpyard" "trial" "LWarpyard$Trains;", Cond.fieldLink RX5 10 "Warpyard" "tracks" "LWarpyard$Tracks;", Cond.methodLink RX5 47 yX5_needBlock, Cond.static yX5_needBlock, Cond.code yX5_needBlock cX5_needBlock 1 none, Cond.methodLink RX5 122 yX3_copyFrom, Cond.instanceMethod yX3_copyFrom, Cond.selects RX3 yX3_copyFrom yX3_copyFrom, Cond.initialized RX3, Cond.code yX3_copyFrom cX3_copyFrom 3 none, Cond.fieldLink RX3 25 "Warpyard$Trains" "count" "I", Cond.fieldLink RX3 9 "Warpyard$Trains" "block" "[I", Cond.fieldLink RX3 15 "Warpyard$Trains" "right" "[Z", Cond.fieldLink RX3 19 "Warpyard$Trains" "held" "[Z", Cond.fieldLink RX3 22 "Warpyard$Trains" "delay" "[I", Cond.methodLink RX5 114 yX3_runMinute, Cond.instanceMethod yX3_runMinute, Cond.selects RX3 yX3_runMinute yX3_runMinute, Cond.code yX3_runMinute cX3_runMinute 6 (some .int), Cond.methodLink RX3 29 yX3_step, Cond.instanceMethod yX3_step, Cond.selects RX3 yX3_step yX3_step]
def wsL_arePlacesSo_r5 : List Cond := [Cond.code yX3_step cX3_step 6 (some .boolean), Cond.methodLink RX3 33 yX2_ahead, Cond.instanceMethod yX2_ahead, Cond.selects RX2 yX2_ahead yX2_ahead, Cond.initialized RX2, Cond.code yX2_ahead cX2_ahead 3 (some .int), Cond.methodLink RX2 15 yX2_rightOf, Cond.instanceMethod yX2_rightOf, Cond.selects RX2 yX2_rightOf yX2_rightOf, Cond.code yX2_rightOf cX2_rightOf 2 (some .int), Cond.fieldLink RX2 9 "Warpyard$Tracks" "turned" "[Z", Cond.methodLink RX2 19 yX2_leftOf, Cond.instanceMethod yX2_leftOf, Cond.selects RX2 yX2_leftOf yX2_leftOf, Cond.code yX2_leftOf cX2_leftOf 2 (some .int), Cond.methodLink RX3 39 yX3_turnRound, Cond.instanceMethod yX3_turnRound, Cond.selects RX3 yX3_turnRound yX3_turnRound, Cond.code yX3_turnRound cX3_turnRound 2 (some .boolean), Cond.methodLink RX3 43 yX3_standingOn, Cond.instanceMethod yX3_standingOn, Cond.selects RX3 yX3_standingOn yX3_standingOn, Cond.code yX3_standingOn cX3_standingOn 3 (some .int), Cond.methodLink RX3 47 yX0_isForAnother]
def wsL_arePlacesSo_r6 : List Cond := [Cond.instanceMethod yX0_isForAnother, Cond.selects RX0 yX0_isForAnother yX0_isForAnother, Cond.initialized RX0, Cond.code yX0_isForAnother cX0_isForAnother 5 (some .boolean), Cond.fieldLink RX0 27 "Warpyard$Bookings" "count" "I", Cond.fieldLink RX0 15 "Warpyard$Bookings" "block" "[I", Cond.fieldLink RX0 9 "Warpyard$Bookings" "train" "[I", Cond.methodLink RX0 31 yX0_isIn, Cond.instanceMethod yX0_isIn, Cond.selects RX0 yX0_isIn yX0_isIn, Cond.code yX0_isIn cX0_isIn 3 (some .boolean), Cond.fieldLink RX0 18 "Warpyard$Bookings" "first" "[I", Cond.fieldLink RX0 21 "Warpyard$Bookings" "last" "[I", Cond.methodLink RL 96 yX5_clock, Cond.instanceMethod yX5_clock, Cond.selects RX5 yX5_clock yX5_clock, Cond.code yX5_clock cX5_clock 1 (some .int), Cond.methodLink RL 100 yX5_earned, Cond.instanceMethod yX5_earned, Cond.selects RX5 yX5_earned yX5_earned, Cond.code yX5_earned cX5_earned 1 (some .int), Cond.fieldLink RX5 209 "Warpyard" "money" "I", Cond.methodLink RL 107 yX5_trainOn, Cond.instanceMethod yX5_trainOn]
def wsL_arePlacesSo_r7 : List Cond := [Cond.selects RX5 yX5_trainOn yX5_trainOn, Cond.code yX5_trainOn cX5_trainOn 2 (some .int), Cond.methodLink RX5 62 yX3_standingOn]
def wsL_arePlacesSo : List Cond := .code yL_arePlacesSo cL_arePlacesSo 10 (some .boolean) :: ((wsL_arePlacesSo_r1 ++ (wsL_arePlacesSo_r2 ++ (wsL_arePlacesSo_r3 ++ (wsL_arePlacesSo_r4 ++ (wsL_arePlacesSo_r5 ++ (wsL_arePlacesSo_r6 ++ wsL_arePlacesSo_r7)))))) ++ wsX50 ++ wsX30 ++ wsX00 ++ wsX40 ++ wsX20 ++ (vx_atS RX5 99 "java/lang/IndexOutOfBoundsException" ["java/lang/RuntimeException", "java/lang/Exception"]).filter goodWord)
def wsL_areBookingsSo_r1 : List Cond := [Cond.constant RL 54 (-99999), Cond.methodLink RL 103 yL_trains, Cond.static yL_trains, Cond.initialized RL, Cond.code yL_trains cL_trains 2 (some .int), Cond.methodLink RL 85 yL_looks, Cond.static yL_looks, Cond.codeWith yL_looks cL_looks 5 (some .int) [(0, 79, 80, 52)], Cond.classLink RL 52 "java/lang/IndexOutOfBoundsException", Cond.methodLink RL 63 yX5_block, Cond.instanceMethod yX5_block, Cond.selects RX5 yX5_block yX5_block, Cond.initialized RX5, Cond.code yX5_block cX5_block 2 (some .int), Cond.fieldLink RX5 19 "Warpyard" "trains" "LWarpyard$Trains;", Cond.fieldLink RX5 103 "Warpyard$Trains" "block" "[I", Cond.methodLink RX5 72 yX5_needTrain, Cond.instanceMethod yX5_needTrain, Cond.selects RX5 yX5_needTrain yX5_needTrain, Cond.code yX5_needTrain cX5_needTrain 2 none, Cond.classLink RX5 95 "java/lang/IndexOutOfBoundsException", Cond.initialized "java/lang/IndexOutOfBoundsException", Cond.fieldLink RX5 51 "Warpyard$Trains" "count" "I", Cond.methodLink RL 66 yX5_isRight]
def wsL_areBookingsSo_r2 : List Cond := [Cond.instanceMethod yX5_isRight, Cond.selects RX5 yX5_isRight yX5_isRight, Cond.code yX5_isRight cX5_isRight 2 (some .boolean), Cond.fieldLink RX5 106 "Warpyard$Trains" "right" "[Z", Cond.methodLink RL 69 yX5_booking, Cond.instanceMethod yX5_booking, Cond.selects RX5 yX5_booking yX5_booking, Cond.code yX5_booking cX5_booking 2 (some .int), Cond.fieldLink RX5 29 "Warpyard" "bookings" "LWarpyard$Bookings;", Cond.fieldLink RX5 147 "Warpyard$Bookings" "lateness" "[I", Cond.fieldLink RX5 150 "Warpyard$Bookings" "last" "[I", Cond.fieldLink RX5 109 "Warpyard" "now" "I", Cond.methodLink RX5 144 yX5_needBooking, Cond.instanceMethod yX5_needBooking, Cond.selects RX5 yX5_needBooking yX5_needBooking, Cond.code yX5_needBooking cX5_needBooking 2 none, Cond.fieldLink RX5 130 "Warpyard$Bookings" "count" "I", Cond.methodLink RL 72 yX5_late, Cond.instanceMethod yX5_late, Cond.selects RX5 yX5_late yX5_late, Cond.code yX5_late cX5_late 2 (some .int), Cond.methodLink RL 75 yX5_waggonAt, Cond.instanceMethod yX5_waggonAt, Cond.selects RX5 yX5_waggonAt yX5_waggonAt]
def wsL_areBookingsSo_r3 : List Cond := [Cond.code yX5_waggonAt cX5_waggonAt 4 (some .int), Cond.fieldLink RX5 36 "Warpyard" "waggons" "LWarpyard$Waggons;", Cond.methodLink RX5 212 yX5_isSiding, Cond.static yX5_isSiding, Cond.code yX5_isSiding cX5_isSiding 1 (some .boolean), Cond.methodLink RX5 164 yX4_rowOfSiding, Cond.static yX4_rowOfSiding, Cond.initialized RX4, Cond.code yX4_rowOfSiding cX4_rowOfSiding 1 (some .int), Cond.methodLink RX5 219 yX4_fromLast, Cond.instanceMethod yX4_fromLast, Cond.selects RX4 yX4_fromLast yX4_fromLast, Cond.code yX4_fromLast cX4_fromLast 3 (some .int), Cond.fieldLink RX4 15 "Warpyard$Waggons" "size" "[I", Cond.fieldLink RX4 18 "Warpyard$Waggons" "inRow" "[I", Cond.methodLink RX5 183 yX4_rowOfTrain, Cond.static yX4_rowOfTrain, Cond.code yX4_rowOfTrain cX4_rowOfTrain 1 (some .int), Cond.methodLink RX5 222 yX4_fromFirst, Cond.instanceMethod yX4_fromFirst, Cond.selects RX4 yX4_fromFirst yX4_fromFirst, Cond.code yX4_fromFirst cX4_fromFirst 3 (some .int), Cond.methodLink RL 78 yX5_reaches, Cond.instanceMethod yX5_reaches]
def wsL_areBookingsSo_r4 : List Cond := [Cond.selects RX5 yX5_reaches yX5_reaches, Cond.code yX5_reaches cX5_reaches 4 (some .int), Cond.fieldLink RX5 23 "Warpyard" "trial" "LWarpyard$Trains;", Cond.fieldLink RX5 10 "Warpyard" "tracks" "LWarpyard$Tracks;", Cond.methodLink RX5 47 yX5_needBlock, Cond.static yX5_needBlock, Cond.code yX5_needBlock cX5_needBlock 1 none, Cond.methodLink RX5 122 yX3_copyFrom, Cond.instanceMethod yX3_copyFrom, Cond.selects RX3 yX3_copyFrom yX3_copyFrom, Cond.initialized RX3, Cond.code yX3_copyFrom cX3_copyFrom 3 none, Cond.fieldLink RX3 25 "Warpyard$Trains" "count" "I", Cond.fieldLink RX3 9 "Warpyard$Trains" "block" "[I", Cond.fieldLink RX3 15 "Warpyard$Trains" "right" "[Z", Cond.fieldLink RX3 19 "Warpyard$Trains" "held" "[Z", Cond.fieldLink RX3 22 "Warpyard$Trains" "delay" "[I", Cond.methodLink RX5 114 yX3_runMinute, Cond.instanceMethod yX3_runMinute, Cond.selects RX3 yX3_runMinute yX3_runMinute, Cond.code yX3_runMinute cX3_runMinute 6 (some .int), Cond.methodLink RX3 29 yX3_step, Cond.instanceMethod yX3_step, Cond.selects RX3 yX3_step yX3_step]
def wsL_areBookingsSo_r5 : List Cond := [Cond.code yX3_step cX3_step 6 (some .boolean), Cond.methodLink RX3 33 yX2_ahead, Cond.instanceMethod yX2_ahead, Cond.selects RX2 yX2_ahead yX2_ahead, Cond.initialized RX2, Cond.code yX2_ahead cX2_ahead 3 (some .int), Cond.methodLink RX2 15 yX2_rightOf, Cond.instanceMethod yX2_rightOf, Cond.selects RX2 yX2_rightOf yX2_rightOf, Cond.code yX2_rightOf cX2_rightOf 2 (some .int), Cond.fieldLink RX2 9 "Warpyard$Tracks" "turned" "[Z", Cond.methodLink RX2 19 yX2_leftOf, Cond.instanceMethod yX2_leftOf, Cond.selects RX2 yX2_leftOf yX2_leftOf, Cond.code yX2_leftOf cX2_leftOf 2 (some .int), Cond.methodLink RX3 39 yX3_turnRound, Cond.instanceMethod yX3_turnRound, Cond.selects RX3 yX3_turnRound yX3_turnRound, Cond.code yX3_turnRound cX3_turnRound 2 (some .boolean), Cond.methodLink RX3 43 yX3_standingOn, Cond.instanceMethod yX3_standingOn, Cond.selects RX3 yX3_standingOn yX3_standingOn, Cond.code yX3_standingOn cX3_standingOn 3 (some .int), Cond.methodLink RX3 47 yX0_isForAnother]
def wsL_areBookingsSo_r6 : List Cond := [Cond.instanceMethod yX0_isForAnother, Cond.selects RX0 yX0_isForAnother yX0_isForAnother, Cond.initialized RX0, Cond.code yX0_isForAnother cX0_isForAnother 5 (some .boolean), Cond.fieldLink RX0 27 "Warpyard$Bookings" "count" "I", Cond.fieldLink RX0 15 "Warpyard$Bookings" "block" "[I", Cond.fieldLink RX0 9 "Warpyard$Bookings" "train" "[I", Cond.methodLink RX0 31 yX0_isIn, Cond.instanceMethod yX0_isIn, Cond.selects RX0 yX0_isIn yX0_isIn, Cond.code yX0_isIn cX0_isIn 3 (some .boolean), Cond.fieldLink RX0 18 "Warpyard$Bookings" "first" "[I", Cond.fieldLink RX0 21 "Warpyard$Bookings" "last" "[I", Cond.methodLink RL 110 yL_can, Cond.static yL_can, Cond.codeWith yL_can cL_can 6 (some .int) [(0, 17, 18, 52), (0, 17, 23, 55)], Cond.classLink RL 55 "java/lang/IllegalArgumentException", Cond.methodLink RL 81 yX5_canBook, Cond.instanceMethod yX5_canBook, Cond.selects RX5 yX5_canBook yX5_canBook, Cond.code yX5_canBook cX5_canBook 5 (some .boolean), Cond.methodLink RX5 126 yX5_needSpan, Cond.static yX5_needSpan, Cond.code yX5_needSpan cX5_needSpan 3 none]
def wsL_areBookingsSo_r7 : List Cond := [Cond.classLink RX5 86 "java/lang/IllegalArgumentException", Cond.initialized "java/lang/IllegalArgumentException", Cond.methodLink RX5 133 yX0_meetsAnother, Cond.instanceMethod yX0_meetsAnother, Cond.selects RX0 yX0_meetsAnother yX0_meetsAnother, Cond.code yX0_meetsAnother cX0_meetsAnother 6 (some .boolean), Cond.methodLink RL 113 yX5_canBookByMinutes, Cond.instanceMethod yX5_canBookByMinutes, Cond.selects RX5 yX5_canBookByMinutes yX5_canBookByMinutes, Cond.code yX5_canBookByMinutes cX5_canBookByMinutes 6 (some .boolean), Cond.methodLink RX5 140 yX0_isForAnother]
def wsL_areBookingsSo : List Cond := .code yL_areBookingsSo cL_areBookingsSo 10 (some .boolean) :: ((wsL_areBookingsSo_r1 ++ (wsL_areBookingsSo_r2 ++ (wsL_areBookingsSo_r3 ++ (wsL_areBookingsSo_r4 ++ (wsL_areBookingsSo_r5 ++ (wsL_areBookingsSo_r6 ++ wsL_areBookingsSo_r7)))))) ++ wsX50 ++ wsX30 ++ wsX00 ++ wsX40 ++ wsX20 ++ (vx_atS RX5 99 "java/lang/IndexOutOfBoundsException" ["java/lang/RuntimeException", "java/lang/Exception"]).filter goodWord ++ (vx_atS RX5 90 "java/lang/IllegalArgumentException" ["java/lang/RuntimeException", "java/lang/Exception"]).filter goodWord)
def wsL_isReachedSo_r1 : List Cond := [Cond.methodLink RL 85 yL_looks, Cond.static yL_looks, Cond.initialized RL, Cond.codeWith yL_looks cL_looks 5 (some .int) [(0, 79, 80, 52)], Cond.classLink RL 52 "java/lang/IndexOutOfBoundsException", Cond.constant RL 54 (-99999), Cond.methodLink RL 63 yX5_block, Cond.instanceMethod yX5_block, Cond.selects RX5 yX5_block yX5_block, Cond.initialized RX5, Cond.code yX5_block cX5_block 2 (some .int), Cond.fieldLink RX5 19 "Warpyard" "trains" "LWarpyard$Trains;", Cond.fieldLink RX5 103 "Warpyard$Trains" "block" "[I", Cond.methodLink RX5 72 yX5_needTrain, Cond.instanceMethod yX5_needTrain, Cond.selects RX5 yX5_needTrain yX5_needTrain, Cond.code yX5_needTrain cX5_needTrain 2 none, Cond.classLink RX5 95 "java/lang/IndexOutOfBoundsException", Cond.initialized "java/lang/IndexOutOfBoundsException", Cond.fieldLink RX5 51 "Warpyard$Trains" "count" "I", Cond.methodLink RL 66 yX5_isRight, Cond.instanceMethod yX5_isRight, Cond.selects RX5 yX5_isRight yX5_isRight, Cond.code yX5_isRight cX5_isRight 2 (some .boolean)]
def wsL_isReachedSo_r2 : List Cond := [Cond.fieldLink RX5 106 "Warpyard$Trains" "right" "[Z", Cond.methodLink RL 69 yX5_booking, Cond.instanceMethod yX5_booking, Cond.selects RX5 yX5_booking yX5_booking, Cond.code yX5_booking cX5_booking 2 (some .int), Cond.fieldLink RX5 29 "Warpyard" "bookings" "LWarpyard$Bookings;", Cond.fieldLink RX5 147 "Warpyard$Bookings" "lateness" "[I", Cond.fieldLink RX5 150 "Warpyard$Bookings" "last" "[I", Cond.fieldLink RX5 109 "Warpyard" "now" "I", Cond.methodLink RX5 144 yX5_needBooking, Cond.instanceMethod yX5_needBooking, Cond.selects RX5 yX5_needBooking yX5_needBooking, Cond.code yX5_needBooking cX5_needBooking 2 none, Cond.fieldLink RX5 130 "Warpyard$Bookings" "count" "I", Cond.methodLink RL 72 yX5_late, Cond.instanceMethod yX5_late, Cond.selects RX5 yX5_late yX5_late, Cond.code yX5_late cX5_late 2 (some .int), Cond.methodLink RL 75 yX5_waggonAt, Cond.instanceMethod yX5_waggonAt, Cond.selects RX5 yX5_waggonAt yX5_waggonAt, Cond.code yX5_waggonAt cX5_waggonAt 4 (some .int), Cond.fieldLink RX5 36 "Warpyard" "waggons" "LWarpyard$Waggons;", Cond.methodLink RX5 212 yX5_isSiding]
def wsL_isReachedSo_r3 : List Cond := [Cond.static yX5_isSiding, Cond.code yX5_isSiding cX5_isSiding 1 (some .boolean), Cond.methodLink RX5 164 yX4_rowOfSiding, Cond.static yX4_rowOfSiding, Cond.initialized RX4, Cond.code yX4_rowOfSiding cX4_rowOfSiding 1 (some .int), Cond.methodLink RX5 219 yX4_fromLast, Cond.instanceMethod yX4_fromLast, Cond.selects RX4 yX4_fromLast yX4_fromLast, Cond.code yX4_fromLast cX4_fromLast 3 (some .int), Cond.fieldLink RX4 15 "Warpyard$Waggons" "size" "[I", Cond.fieldLink RX4 18 "Warpyard$Waggons" "inRow" "[I", Cond.methodLink RX5 183 yX4_rowOfTrain, Cond.static yX4_rowOfTrain, Cond.code yX4_rowOfTrain cX4_rowOfTrain 1 (some .int), Cond.methodLink RX5 222 yX4_fromFirst, Cond.instanceMethod yX4_fromFirst, Cond.selects RX4 yX4_fromFirst yX4_fromFirst, Cond.code yX4_fromFirst cX4_fromFirst 3 (some .int), Cond.methodLink RL 78 yX5_reaches, Cond.instanceMethod yX5_reaches, Cond.selects RX5 yX5_reaches yX5_reaches, Cond.code yX5_reaches cX5_reaches 4 (some .int), Cond.fieldLink RX5 23 "Warpyard" "trial" "LWarpyard$Trains;"]
def wsL_isReachedSo_r4 : List Cond := [Cond.fieldLink RX5 10 "Warpyard" "tracks" "LWarpyard$Tracks;", Cond.methodLink RX5 47 yX5_needBlock, Cond.static yX5_needBlock, Cond.code yX5_needBlock cX5_needBlock 1 none, Cond.methodLink RX5 122 yX3_copyFrom, Cond.instanceMethod yX3_copyFrom, Cond.selects RX3 yX3_copyFrom yX3_copyFrom, Cond.initialized RX3, Cond.code yX3_copyFrom cX3_copyFrom 3 none, Cond.fieldLink RX3 25 "Warpyard$Trains" "count" "I", Cond.fieldLink RX3 9 "Warpyard$Trains" "block" "[I", Cond.fieldLink RX3 15 "Warpyard$Trains" "right" "[Z", Cond.fieldLink RX3 19 "Warpyard$Trains" "held" "[Z", Cond.fieldLink RX3 22 "Warpyard$Trains" "delay" "[I", Cond.methodLink RX5 114 yX3_runMinute, Cond.instanceMethod yX3_runMinute, Cond.selects RX3 yX3_runMinute yX3_runMinute, Cond.code yX3_runMinute cX3_runMinute 6 (some .int), Cond.methodLink RX3 29 yX3_step, Cond.instanceMethod yX3_step, Cond.selects RX3 yX3_step yX3_step, Cond.code yX3_step cX3_step 6 (some .boolean), Cond.methodLink RX3 33 yX2_ahead, Cond.instanceMethod yX2_ahead]
def wsL_isReachedSo_r5 : List Cond := [Cond.selects RX2 yX2_ahead yX2_ahead, Cond.initialized RX2, Cond.code yX2_ahead cX2_ahead 3 (some .int), Cond.methodLink RX2 15 yX2_rightOf, Cond.instanceMethod yX2_rightOf, Cond.selects RX2 yX2_rightOf yX2_rightOf, Cond.code yX2_rightOf cX2_rightOf 2 (some .int), Cond.fieldLink RX2 9 "Warpyard$Tracks" "turned" "[Z", Cond.methodLink RX2 19 yX2_leftOf, Cond.instanceMethod yX2_leftOf, Cond.selects RX2 yX2_leftOf yX2_leftOf, Cond.code yX2_leftOf cX2_leftOf 2 (some .int), Cond.methodLink RX3 39 yX3_turnRound, Cond.instanceMethod yX3_turnRound, Cond.selects RX3 yX3_turnRound yX3_turnRound, Cond.code yX3_turnRound cX3_turnRound 2 (some .boolean), Cond.methodLink RX3 43 yX3_standingOn, Cond.instanceMethod yX3_standingOn, Cond.selects RX3 yX3_standingOn yX3_standingOn, Cond.code yX3_standingOn cX3_standingOn 3 (some .int), Cond.methodLink RX3 47 yX0_isForAnother, Cond.instanceMethod yX0_isForAnother, Cond.selects RX0 yX0_isForAnother yX0_isForAnother, Cond.initialized RX0]
def wsL_isReachedSo_r6 : List Cond := [Cond.code yX0_isForAnother cX0_isForAnother 5 (some .boolean), Cond.fieldLink RX0 27 "Warpyard$Bookings" "count" "I", Cond.fieldLink RX0 15 "Warpyard$Bookings" "block" "[I", Cond.fieldLink RX0 9 "Warpyard$Bookings" "train" "[I", Cond.methodLink RX0 31 yX0_isIn, Cond.instanceMethod yX0_isIn, Cond.selects RX0 yX0_isIn yX0_isIn, Cond.code yX0_isIn cX0_isIn 3 (some .boolean), Cond.fieldLink RX0 18 "Warpyard$Bookings" "first" "[I", Cond.fieldLink RX0 21 "Warpyard$Bookings" "last" "[I", Cond.methodLink RL 96 yX5_clock, Cond.instanceMethod yX5_clock, Cond.selects RX5 yX5_clock yX5_clock, Cond.code yX5_clock cX5_clock 1 (some .int), Cond.methodLink RL 92 yL_does, Cond.static yL_does, Cond.codeWith yL_does cL_does 7 (some .int) [(0, 194, 195, 52), (0, 194, 200, 55), (0, 194, 205, 57)], Cond.classLink RL 55 "java/lang/IllegalArgumentException", Cond.classLink RL 57 "java/lang/IllegalStateException", Cond.methodLink RL 8 yX5_addTrain, Cond.instanceMethod yX5_addTrain, Cond.selects RX5 yX5_addTrain yX5_addTrain, Cond.code yX5_addTrain cX5_addTrain 3 (some .int), Cond.classLink RX5 55 "java/lang/IllegalStateException"]
def wsL_isReachedSo_r7 : List Cond := [Cond.initialized "java/lang/IllegalStateException", Cond.methodLink RX5 62 yX3_standingOn, Cond.methodLink RX5 68 yX3_add, Cond.instanceMethod yX3_add, Cond.selects RX3 yX3_add yX3_add, Cond.code yX3_add cX3_add 4 (some .int), Cond.methodLink RL 14 yX5_hold, Cond.instanceMethod yX5_hold, Cond.selects RX5 yX5_hold yX5_hold, Cond.code yX5_hold cX5_hold 4 (some .boolean), Cond.fieldLink RX5 75 "Warpyard$Trains" "held" "[Z", Cond.methodLink RL 18 yX5_delay, Cond.instanceMethod yX5_delay, Cond.selects RX5 yX5_delay yX5_delay, Cond.code yX5_delay cX5_delay 4 (some .int), Cond.classLink RX5 86 "java/lang/IllegalArgumentException", Cond.initialized "java/lang/IllegalArgumentException", Cond.fieldLink RX5 82 "Warpyard$Trains" "delay" "[I", Cond.methodLink RX5 79 yX5_needMinutesToRun, Cond.static yX5_needMinutesToRun, Cond.code yX5_needMinutesToRun cX5_needMinutesToRun 1 none, Cond.methodLink RL 22 yX5_reverse, Cond.instanceMethod yX5_reverse, Cond.selects RX5 yX5_reverse yX5_reverse]
def wsL_isReachedSo_r8 : List Cond := [Cond.code yX5_reverse cX5_reverse 2 (some .boolean), Cond.methodLink RX5 91 yX3_turnRound, Cond.methodLink RL 26 yX5_throwSwitch, Cond.instanceMethod yX5_throwSwitch, Cond.selects RX5 yX5_throwSwitch yX5_throwSwitch, Cond.code yX5_throwSwitch cX5_throwSwitch 2 (some .boolean), Cond.methodLink RX5 100 yX2_turn, Cond.instanceMethod yX2_turn, Cond.selects RX2 yX2_turn yX2_turn, Cond.code yX2_turn cX2_turn 2 (some .boolean), Cond.methodLink RL 29 yX5_run, Cond.instanceMethod yX5_run, Cond.selects RX5 yX5_run yX5_run, Cond.code yX5_run cX5_run 4 (some .int), Cond.methodLink RX5 118 yX0_markMet, Cond.instanceMethod yX0_markMet, Cond.selects RX0 yX0_markMet yX0_markMet, Cond.code yX0_markMet cX0_markMet 4 none, Cond.fieldLink RX0 24 "Warpyard$Bookings" "lateness" "[I", Cond.methodLink RX0 35 yX3_standingOn, Cond.methodLink RL 33 yX5_book, Cond.instanceMethod yX5_book, Cond.selects RX5 yX5_book yX5_book, Cond.code yX5_book cX5_book 5 (some .int)]
def wsL_isReachedSo_r9 : List Cond := [Cond.methodLink RX5 126 yX5_needSpan, Cond.static yX5_needSpan, Cond.code yX5_needSpan cX5_needSpan 3 none, Cond.methodLink RX5 133 yX0_meetsAnother, Cond.instanceMethod yX0_meetsAnother, Cond.selects RX0 yX0_meetsAnother yX0_meetsAnother, Cond.code yX0_meetsAnother cX0_meetsAnother 6 (some .boolean), Cond.methodLink RX5 137 yX0_add, Cond.instanceMethod yX0_add, Cond.selects RX0 yX0_add yX0_add, Cond.code yX0_add cX0_add 6 (some .int), Cond.methodLink RL 37 yX5_addWaggon, Cond.instanceMethod yX5_addWaggon, Cond.selects RX5 yX5_addWaggon yX5_addWaggon, Cond.code yX5_addWaggon cX5_addWaggon 3 (some .int), Cond.fieldLink RX5 158 "Warpyard$Waggons" "count" "I", Cond.methodLink RX5 153 yX5_needSiding, Cond.static yX5_needSiding, Cond.code yX5_needSiding cX5_needSiding 1 none, Cond.methodLink RX5 161 yX5_needRoomIn, Cond.instanceMethod yX5_needRoomIn, Cond.selects RX5 yX5_needRoomIn yX5_needRoomIn, Cond.code yX5_needRoomIn cX5_needRoomIn 2 none, Cond.fieldLink RX5 239 "Warpyard$Waggons" "size" "[I"]
def wsL_isReachedSo_r10 : List Cond := [Cond.methodLink RX5 167 yX4_add, Cond.instanceMethod yX4_add, Cond.selects RX4 yX4_add yX4_add, Cond.code yX4_add cX4_add 4 (some .int), Cond.fieldLink RX4 21 "Warpyard$Waggons" "count" "I", Cond.fieldLink RX4 9 "Warpyard$Waggons" "weight" "[I", Cond.methodLink RX4 25 yX4_append, Cond.instanceMethod yX4_append, Cond.selects RX4 yX4_append yX4_append, Cond.code yX4_append cX4_append 3 none, Cond.methodLink RL 40 yL_offers, Cond.static yL_offers, Cond.code yL_offers cL_offers 5 (some .int), Cond.methodLink RL 59 yX5_offer, Cond.instanceMethod yX5_offer, Cond.selects RX5 yX5_offer yX5_offer, Cond.code yX5_offer cX5_offer 5 none, Cond.fieldLink RX5 43 "Warpyard" "offers" "LWarpyard$Offers;", Cond.methodLink RX5 176 yX1_put, Cond.instanceMethod yX1_put, Cond.selects RX1 yX1_put yX1_put, Cond.initialized RX1, Cond.code yX1_put cX1_put 5 none, Cond.fieldLink RX1 9 "Warpyard$Offers" "siding" "[I"]
def wsL_isReachedSo_r11 : List Cond := [Cond.fieldLink RX1 15 "Warpyard$Offers" "minute" "[I", Cond.fieldLink RX1 18 "Warpyard$Offers" "price" "[I", Cond.methodLink RL 46 yX5_couple, Cond.instanceMethod yX5_couple, Cond.selects RX5 yX5_couple yX5_couple, Cond.code yX5_couple cX5_couple 5 (some .int), Cond.fieldLink RX5 194 "Warpyard$Waggons" "weight" "[I", Cond.methodLink RX5 180 yX5_sidingUnder, Cond.instanceMethod yX5_sidingUnder, Cond.selects RX5 yX5_sidingUnder yX5_sidingUnder, Cond.code yX5_sidingUnder cX5_sidingUnder 3 (some .int), Cond.methodLink RX5 186 yX4_lastOf, Cond.instanceMethod yX4_lastOf, Cond.selects RX4 yX4_lastOf yX4_lastOf, Cond.code yX4_lastOf cX4_lastOf 2 (some .int), Cond.methodLink RX4 29 yX4_fromLast, Cond.methodLink RX5 191 yX4_weightOf, Cond.instanceMethod yX4_weightOf, Cond.selects RX4 yX4_weightOf yX4_weightOf, Cond.code yX4_weightOf cX4_weightOf 4 (some .int), Cond.methodLink RX5 199 yX4_moveLast, Cond.instanceMethod yX4_moveLast, Cond.selects RX4 yX4_moveLast yX4_moveLast, Cond.code yX4_moveLast cX4_moveLast 4 none]
def wsL_isReachedSo_r12 : List Cond := [Cond.methodLink RX4 33 yX4_lastOf, Cond.methodLink RL 49 yX5_leave, Cond.instanceMethod yX5_leave, Cond.selects RX5 yX5_leave yX5_leave, Cond.code yX5_leave cX5_leave 6 (some .int), Cond.fieldLink RX5 209 "Warpyard" "money" "I", Cond.methodLink RX5 205 yX1_settle, Cond.instanceMethod yX1_settle, Cond.selects RX1 yX1_settle yX1_settle, Cond.code yX1_settle cX1_settle 4 (some .int), Cond.methodLink RX1 25 Lib.Math.max.name, Cond.static Lib.Math.max.name, Cond.initialized "java/lang/Math", Cond.code Lib.Math.max.name Lib.Math.max.code 2 (some .int), Cond.methodLink RX1 21 yX1_begunHours, Cond.static yX1_begunHours, Cond.code yX1_begunHours cX1_begunHours 1 (some .int), Cond.methodLink RL 107 yX5_trainOn, Cond.instanceMethod yX5_trainOn, Cond.selects RX5 yX5_trainOn yX5_trainOn, Cond.code yX5_trainOn cX5_trainOn 2 (some .int)]
def wsL_isReachedSo : List Cond := .code yL_isReachedSo cL_isReachedSo 8 (some .boolean) :: ((wsL_isReachedSo_r1 ++ (wsL_isReachedSo_r2 ++ (wsL_isReachedSo_r3 ++ (wsL_isReachedSo_r4 ++ (wsL_isReachedSo_r5 ++ (wsL_isReachedSo_r6 ++ (wsL_isReachedSo_r7 ++ (wsL_isReachedSo_r8 ++ (wsL_isReachedSo_r9 ++ (wsL_isReachedSo_r10 ++ (wsL_isReachedSo_r11 ++ wsL_isReachedSo_r12))))))))))) ++ wsX50 ++ wsX30 ++ wsX00 ++ wsX40 ++ wsX20 ++ wsX10 ++ (vx_atS RX5 99 "java/lang/IndexOutOfBoundsException" ["java/lang/RuntimeException", "java/lang/Exception"]).filter goodWord ++ (vx_atS RX5 59 "java/lang/IllegalStateException" ["java/lang/RuntimeException", "java/lang/Exception"]).filter goodWord ++ (vx_atS RX5 90 "java/lang/IllegalArgumentException" ["java/lang/RuntimeException", "java/lang/Exception"]).filter goodWord)
def wsL_isLeftSo_r1 : List Cond := [Cond.constant RL 54 (-99999), Cond.methodLink RL 100 yX5_earned, Cond.instanceMethod yX5_earned, Cond.selects RX5 yX5_earned yX5_earned, Cond.initialized RX5, Cond.code yX5_earned cX5_earned 1 (some .int), Cond.fieldLink RX5 209 "Warpyard" "money" "I", Cond.methodLink RL 92 yL_does, Cond.static yL_does, Cond.initialized RL, Cond.codeWith yL_does cL_does 7 (some .int) [(0, 194, 195, 52), (0, 194, 200, 55), (0, 194, 205, 57)], Cond.classLink RL 52 "java/lang/IndexOutOfBoundsException", Cond.classLink RL 55 "java/lang/IllegalArgumentException", Cond.classLink RL 57 "java/lang/IllegalStateException", Cond.methodLink RL 8 yX5_addTrain, Cond.instanceMethod yX5_addTrain, Cond.selects RX5 yX5_addTrain yX5_addTrain, Cond.code yX5_addTrain cX5_addTrain 3 (some .int), Cond.classLink RX5 55 "java/lang/IllegalStateException", Cond.initialized "java/lang/IllegalStateException", Cond.fieldLink RX5 19 "Warpyard" "trains" "LWarpyard$Trains;", Cond.fieldLink RX5 51 "Warpyard$Trains" "count" "I", Cond.methodLink RX5 47 yX5_needBlock, Cond.static yX5_needBlock]
def wsL_isLeftSo_r2 : List Cond := [Cond.code yX5_needBlock cX5_needBlock 1 none, Cond.classLink RX5 95 "java/lang/IndexOutOfBoundsException", Cond.initialized "java/lang/IndexOutOfBoundsException", Cond.methodLink RX5 62 yX3_standingOn, Cond.instanceMethod yX3_standingOn, Cond.selects RX3 yX3_standingOn yX3_standingOn, Cond.initialized RX3, Cond.code yX3_standingOn cX3_standingOn 3 (some .int), Cond.fieldLink RX3 25 "Warpyard$Trains" "count" "I", Cond.fieldLink RX3 9 "Warpyard$Trains" "block" "[I", Cond.methodLink RX5 68 yX3_add, Cond.instanceMethod yX3_add, Cond.selects RX3 yX3_add yX3_add, Cond.code yX3_add cX3_add 4 (some .int), Cond.fieldLink RX3 15 "Warpyard$Trains" "right" "[Z", Cond.methodLink RL 14 yX5_hold, Cond.instanceMethod yX5_hold, Cond.selects RX5 yX5_hold yX5_hold, Cond.code yX5_hold cX5_hold 4 (some .boolean), Cond.fieldLink RX5 75 "Warpyard$Trains" "held" "[Z", Cond.methodLink RX5 72 yX5_needTrain, Cond.instanceMethod yX5_needTrain, Cond.selects RX5 yX5_needTrain yX5_needTrain, Cond.code yX5_needTrain cX5_needTrain 2 none]
def wsL_isLeftSo_r3 : List Cond := [Cond.methodLink RL 18 yX5_delay, Cond.instanceMethod yX5_delay, Cond.selects RX5 yX5_delay yX5_delay, Cond.code yX5_delay cX5_delay 4 (some .int), Cond.classLink RX5 86 "java/lang/IllegalArgumentException", Cond.initialized "java/lang/IllegalArgumentException", Cond.fieldLink RX5 82 "Warpyard$Trains" "delay" "[I", Cond.methodLink RX5 79 yX5_needMinutesToRun, Cond.static yX5_needMinutesToRun, Cond.code yX5_needMinutesToRun cX5_needMinutesToRun 1 none, Cond.methodLink RL 22 yX5_reverse, Cond.instanceMethod yX5_reverse, Cond.selects RX5 yX5_reverse yX5_reverse, Cond.code yX5_reverse cX5_reverse 2 (some .boolean), Cond.methodLink RX5 91 yX3_turnRound, Cond.instanceMethod yX3_turnRound, Cond.selects RX3 yX3_turnRound yX3_turnRound, Cond.code yX3_turnRound cX3_turnRound 2 (some .boolean), Cond.methodLink RL 26 yX5_throwSwitch, Cond.instanceMethod yX5_throwSwitch, Cond.selects RX5 yX5_throwSwitch yX5_throwSwitch, Cond.code yX5_throwSwitch cX5_throwSwitch 2 (some .boolean), Cond.fieldLink RX5 10 "Warpyard" "tracks" "LWarpyard$Tracks;", Cond.methodLink RX5 100 yX2_turn]
def wsL_isLeftSo_r4 : List Cond := [Cond.instanceMethod yX2_turn, Cond.selects RX2 yX2_turn yX2_turn, Cond.initialized RX2, Cond.code yX2_turn cX2_turn 2 (some .boolean), Cond.fieldLink RX2 9 "Warpyard$Tracks" "turned" "[Z", Cond.methodLink RL 29 yX5_run, Cond.instanceMethod yX5_run, Cond.selects RX5 yX5_run yX5_run, Cond.code yX5_run cX5_run 4 (some .int), Cond.fieldLink RX5 109 "Warpyard" "now" "I", Cond.fieldLink RX5 29 "Warpyard" "bookings" "LWarpyard$Bookings;", Cond.methodLink RX5 114 yX3_runMinute, Cond.instanceMethod yX3_runMinute, Cond.selects RX3 yX3_runMinute yX3_runMinute, Cond.code yX3_runMinute cX3_runMinute 6 (some .int), Cond.methodLink RX3 29 yX3_step, Cond.instanceMethod yX3_step, Cond.selects RX3 yX3_step yX3_step, Cond.code yX3_step cX3_step 6 (some .boolean), Cond.fieldLink RX3 22 "Warpyard$Trains" "delay" "[I", Cond.fieldLink RX3 19 "Warpyard$Trains" "held" "[Z", Cond.methodLink RX3 33 yX2_ahead, Cond.instanceMethod yX2_ahead, Cond.selects RX2 yX2_ahead yX2_ahead]
def wsL_isLeftSo_r5 : List Cond := [Cond.code yX2_ahead cX2_ahead 3 (some .int), Cond.methodLink RX2 15 yX2_rightOf, Cond.instanceMethod yX2_rightOf, Cond.selects RX2 yX2_rightOf yX2_rightOf, Cond.code yX2_rightOf cX2_rightOf 2 (some .int), Cond.methodLink RX2 19 yX2_leftOf, Cond.instanceMethod yX2_leftOf, Cond.selects RX2 yX2_leftOf yX2_leftOf, Cond.code yX2_leftOf cX2_leftOf 2 (some .int), Cond.methodLink RX3 39 yX3_turnRound, Cond.methodLink RX3 43 yX3_standingOn, Cond.methodLink RX3 47 yX0_isForAnother, Cond.instanceMethod yX0_isForAnother, Cond.selects RX0 yX0_isForAnother yX0_isForAnother, Cond.initialized RX0, Cond.code yX0_isForAnother cX0_isForAnother 5 (some .boolean), Cond.fieldLink RX0 27 "Warpyard$Bookings" "count" "I", Cond.fieldLink RX0 15 "Warpyard$Bookings" "block" "[I", Cond.fieldLink RX0 9 "Warpyard$Bookings" "train" "[I", Cond.methodLink RX0 31 yX0_isIn, Cond.instanceMethod yX0_isIn, Cond.selects RX0 yX0_isIn yX0_isIn, Cond.code yX0_isIn cX0_isIn 3 (some .boolean), Cond.fieldLink RX0 18 "Warpyard$Bookings" "first" "[I"]
def wsL_isLeftSo_r6 : List Cond := [Cond.fieldLink RX0 21 "Warpyard$Bookings" "last" "[I", Cond.methodLink RX5 118 yX0_markMet, Cond.instanceMethod yX0_markMet, Cond.selects RX0 yX0_markMet yX0_markMet, Cond.code yX0_markMet cX0_markMet 4 none, Cond.fieldLink RX0 24 "Warpyard$Bookings" "lateness" "[I", Cond.methodLink RX0 35 yX3_standingOn, Cond.methodLink RL 33 yX5_book, Cond.instanceMethod yX5_book, Cond.selects RX5 yX5_book yX5_book, Cond.code yX5_book cX5_book 5 (some .int), Cond.fieldLink RX5 130 "Warpyard$Bookings" "count" "I", Cond.methodLink RX5 126 yX5_needSpan, Cond.static yX5_needSpan, Cond.code yX5_needSpan cX5_needSpan 3 none, Cond.methodLink RX5 133 yX0_meetsAnother, Cond.instanceMethod yX0_meetsAnother, Cond.selects RX0 yX0_meetsAnother yX0_meetsAnother, Cond.code yX0_meetsAnother cX0_meetsAnother 6 (some .boolean), Cond.methodLink RX5 137 yX0_add, Cond.instanceMethod yX0_add, Cond.selects RX0 yX0_add yX0_add, Cond.code yX0_add cX0_add 6 (some .int), Cond.methodLink RL 37 yX5_addWaggon]
def wsL_isLeftSo_r7 : List Cond := [Cond.instanceMethod yX5_addWaggon, Cond.selects RX5 yX5_addWaggon yX5_addWaggon, Cond.code yX5_addWaggon cX5_addWaggon 3 (some .int), Cond.fieldLink RX5 36 "Warpyard" "waggons" "LWarpyard$Waggons;", Cond.fieldLink RX5 158 "Warpyard$Waggons" "count" "I", Cond.methodLink RX5 153 yX5_needSiding, Cond.static yX5_needSiding, Cond.code yX5_needSiding cX5_needSiding 1 none, Cond.methodLink RX5 212 yX5_isSiding, Cond.static yX5_isSiding, Cond.code yX5_isSiding cX5_isSiding 1 (some .boolean), Cond.methodLink RX5 161 yX5_needRoomIn, Cond.instanceMethod yX5_needRoomIn, Cond.selects RX5 yX5_needRoomIn yX5_needRoomIn, Cond.code yX5_needRoomIn cX5_needRoomIn 2 none, Cond.fieldLink RX5 239 "Warpyard$Waggons" "size" "[I", Cond.methodLink RX5 164 yX4_rowOfSiding, Cond.static yX4_rowOfSiding, Cond.initialized RX4, Cond.code yX4_rowOfSiding cX4_rowOfSiding 1 (some .int), Cond.methodLink RX5 167 yX4_add, Cond.instanceMethod yX4_add, Cond.selects RX4 yX4_add yX4_add, Cond.code yX4_add cX4_add 4 (some .int)]
def wsL_isLeftSo_r8 : List Cond := [Cond.fieldLink RX4 21 "Warpyard$Waggons" "count" "I", Cond.fieldLink RX4 9 "Warpyard$Waggons" "weight" "[I", Cond.methodLink RX4 25 yX4_append, Cond.instanceMethod yX4_append, Cond.selects RX4 yX4_append yX4_append, Cond.code yX4_append cX4_append 3 none, Cond.fieldLink RX4 15 "Warpyard$Waggons" "size" "[I", Cond.fieldLink RX4 18 "Warpyard$Waggons" "inRow" "[I", Cond.methodLink RL 40 yL_offers, Cond.static yL_offers, Cond.code yL_offers cL_offers 5 (some .int), Cond.methodLink RL 59 yX5_offer, Cond.instanceMethod yX5_offer, Cond.selects RX5 yX5_offer yX5_offer, Cond.code yX5_offer cX5_offer 5 none, Cond.fieldLink RX5 43 "Warpyard" "offers" "LWarpyard$Offers;", Cond.methodLink RX5 176 yX1_put, Cond.instanceMethod yX1_put, Cond.selects RX1 yX1_put yX1_put, Cond.initialized RX1, Cond.code yX1_put cX1_put 5 none, Cond.fieldLink RX1 9 "Warpyard$Offers" "siding" "[I", Cond.fieldLink RX1 15 "Warpyard$Offers" "minute" "[I", Cond.fieldLink RX1 18 "Warpyard$Offers" "price" "[I"]
def wsL_isLeftSo_r9 : List Cond := [Cond.methodLink RL 46 yX5_couple, Cond.instanceMethod yX5_couple, Cond.selects RX5 yX5_couple yX5_couple, Cond.code yX5_couple cX5_couple 5 (some .int), Cond.fieldLink RX5 194 "Warpyard$Waggons" "weight" "[I", Cond.methodLink RX5 180 yX5_sidingUnder, Cond.instanceMethod yX5_sidingUnder, Cond.selects RX5 yX5_sidingUnder yX5_sidingUnder, Cond.code yX5_sidingUnder cX5_sidingUnder 3 (some .int), Cond.fieldLink RX5 103 "Warpyard$Trains" "block" "[I", Cond.methodLink RX5 183 yX4_rowOfTrain, Cond.static yX4_rowOfTrain, Cond.code yX4_rowOfTrain cX4_rowOfTrain 1 (some .int), Cond.methodLink RX5 186 yX4_lastOf, Cond.instanceMethod yX4_lastOf, Cond.selects RX4 yX4_lastOf yX4_lastOf, Cond.code yX4_lastOf cX4_lastOf 2 (some .int), Cond.methodLink RX4 29 yX4_fromLast, Cond.instanceMethod yX4_fromLast, Cond.selects RX4 yX4_fromLast yX4_fromLast, Cond.code yX4_fromLast cX4_fromLast 3 (some .int), Cond.methodLink RX5 191 yX4_weightOf, Cond.instanceMethod yX4_weightOf, Cond.selects RX4 yX4_weightOf yX4_weightOf]
def wsL_isLeftSo_r10 : List Cond := [Cond.code yX4_weightOf cX4_weightOf 4 (some .int), Cond.methodLink RX5 199 yX4_moveLast, Cond.instanceMethod yX4_moveLast, Cond.selects RX4 yX4_moveLast yX4_moveLast, Cond.code yX4_moveLast cX4_moveLast 4 none, Cond.methodLink RX4 33 yX4_lastOf, Cond.methodLink RL 49 yX5_leave, Cond.instanceMethod yX5_leave, Cond.selects RX5 yX5_leave yX5_leave, Cond.code yX5_leave cX5_leave 6 (some .int), Cond.methodLink RX5 205 yX1_settle, Cond.instanceMethod yX1_settle, Cond.selects RX1 yX1_settle yX1_settle, Cond.code yX1_settle cX1_settle 4 (some .int), Cond.methodLink RX1 25 Lib.Math.max.name, Cond.static Lib.Math.max.name, Cond.initialized "java/lang/Math", Cond.code Lib.Math.max.name Lib.Math.max.code 2 (some .int), Cond.methodLink RX1 21 yX1_begunHours, Cond.static yX1_begunHours, Cond.code yX1_begunHours cX1_begunHours 1 (some .int), Cond.methodLink RL 63 yX5_block, Cond.instanceMethod yX5_block, Cond.selects RX5 yX5_block yX5_block]
def wsL_isLeftSo_r11 : List Cond := [Cond.code yX5_block cX5_block 2 (some .int), Cond.methodLink RL 75 yX5_waggonAt, Cond.instanceMethod yX5_waggonAt, Cond.selects RX5 yX5_waggonAt yX5_waggonAt, Cond.code yX5_waggonAt cX5_waggonAt 4 (some .int), Cond.methodLink RX5 219 yX4_fromLast, Cond.methodLink RX5 222 yX4_fromFirst, Cond.instanceMethod yX4_fromFirst, Cond.selects RX4 yX4_fromFirst yX4_fromFirst, Cond.code yX4_fromFirst cX4_fromFirst 3 (some .int)]
def wsL_isLeftSo : List Cond := .code yL_isLeftSo cL_isLeftSo 8 (some .boolean) :: ((wsL_isLeftSo_r1 ++ (wsL_isLeftSo_r2 ++ (wsL_isLeftSo_r3 ++ (wsL_isLeftSo_r4 ++ (wsL_isLeftSo_r5 ++ (wsL_isLeftSo_r6 ++ (wsL_isLeftSo_r7 ++ (wsL_isLeftSo_r8 ++ (wsL_isLeftSo_r9 ++ (wsL_isLeftSo_r10 ++ wsL_isLeftSo_r11)))))))))) ++ wsX50 ++ wsX30 ++ wsX20 ++ wsX00 ++ wsX40 ++ wsX10 ++ (vx_atS RX5 59 "java/lang/IllegalStateException" ["java/lang/RuntimeException", "java/lang/Exception"]).filter goodWord ++ (vx_atS RX5 99 "java/lang/IndexOutOfBoundsException" ["java/lang/RuntimeException", "java/lang/Exception"]).filter goodWord ++ (vx_atS RX5 90 "java/lang/IllegalArgumentException" ["java/lang/RuntimeException", "java/lang/Exception"]).filter goodWord)
def wsL_law0_r1 : List Cond := [Cond.classLink RL 9 RX5, Cond.instantiable RX5 8, Cond.initialized RX5, Cond.constant RL 54 (-99999), Cond.methodLink RL 116 yX5_init, Cond.instanceMethod yX5_init, Cond.code yX5_init cX5_init 1 none, Cond.methodLink RX5 1 objectInit, Cond.instanceMethod objectInit, Cond.code objectInit ⟨#[0xb1]⟩ 1 none, Cond.classLink RX5 7 RX2, Cond.instantiable RX2 1, Cond.initialized RX2, Cond.fieldLink RX5 10 "Warpyard" "tracks" "LWarpyard$Tracks;", Cond.classLink RX5 16 RX3, Cond.instantiable RX3 5, Cond.initialized RX3, Cond.fieldLink RX5 19 "Warpyard" "trains" "LWarpyard$Trains;", Cond.fieldLink RX5 23 "Warpyard" "trial" "LWarpyard$Trains;", Cond.classLink RX5 26 RX0, Cond.instantiable RX0 6, Cond.initialized RX0, Cond.fieldLink RX5 29 "Warpyard" "bookings" "LWarpyard$Bookings;", Cond.classLink RX5 33 RX4]
def wsL_law0_r2 : List Cond := [Cond.instantiable RX4 4, Cond.initialized RX4, Cond.fieldLink RX5 36 "Warpyard" "waggons" "LWarpyard$Waggons;", Cond.classLink RX5 40 RX1, Cond.instantiable RX1 3, Cond.initialized RX1, Cond.fieldLink RX5 43 "Warpyard" "offers" "LWarpyard$Offers;", Cond.instanceMethod yX2_init, Cond.code yX2_init cX2_init 1 none, Cond.methodLink RX2 3 objectInit, Cond.arrayClass .boolean, Cond.fieldLink RX2 9 "Warpyard$Tracks" "turned" "[Z", Cond.instanceMethod yX3_init, Cond.code yX3_init cX3_init 1 none, Cond.methodLink RX3 3 objectInit, Cond.arrayClass .int, Cond.fieldLink RX3 9 "Warpyard$Trains" "block" "[I", Cond.fieldLink RX3 15 "Warpyard$Trains" "right" "[Z", Cond.fieldLink RX3 19 "Warpyard$Trains" "held" "[Z", Cond.fieldLink RX3 22 "Warpyard$Trains" "delay" "[I", Cond.instanceMethod yX0_init, Cond.code yX0_init cX0_init 1 none, Cond.methodLink RX0 3 objectInit, Cond.fieldLink RX0 9 "Warpyard$Bookings" "train" "[I"]
def wsL_law0_r3 : List Cond := [Cond.fieldLink RX0 15 "Warpyard$Bookings" "block" "[I", Cond.fieldLink RX0 18 "Warpyard$Bookings" "first" "[I", Cond.fieldLink RX0 21 "Warpyard$Bookings" "last" "[I", Cond.fieldLink RX0 24 "Warpyard$Bookings" "lateness" "[I", Cond.instanceMethod yX4_init, Cond.code yX4_init cX4_init 1 none, Cond.methodLink RX4 3 objectInit, Cond.fieldLink RX4 9 "Warpyard$Waggons" "weight" "[I", Cond.fieldLink RX4 15 "Warpyard$Waggons" "size" "[I", Cond.fieldLink RX4 18 "Warpyard$Waggons" "inRow" "[I", Cond.instanceMethod yX1_init, Cond.code yX1_init cX1_init 1 none, Cond.methodLink RX1 3 objectInit, Cond.fieldLink RX1 9 "Warpyard$Offers" "siding" "[I", Cond.fieldLink RX1 15 "Warpyard$Offers" "minute" "[I", Cond.fieldLink RX1 18 "Warpyard$Offers" "price" "[I", Cond.methodLink RL 117 yL_cell, Cond.static yL_cell, Cond.initialized RL, Cond.code yL_cell cL_cell 2 (some .int), Cond.methodLink RL 121 yL_act, Cond.static yL_act, Cond.code yL_act cL_act 6 (some .int), Cond.methodLink RL 89 yL_low]
def wsL_law0_r4 : List Cond := [Cond.static yL_low, Cond.code yL_low cL_low 2 (some .int), Cond.constant RL 7 (2147483647), Cond.methodLink RL 92 yL_does, Cond.static yL_does, Cond.codeWith yL_does cL_does 7 (some .int) [(0, 194, 195, 52), (0, 194, 200, 55), (0, 194, 205, 57)], Cond.classLink RL 52 "java/lang/IndexOutOfBoundsException", Cond.classLink RL 55 "java/lang/IllegalArgumentException", Cond.classLink RL 57 "java/lang/IllegalStateException", Cond.methodLink RL 8 yX5_addTrain, Cond.instanceMethod yX5_addTrain, Cond.selects RX5 yX5_addTrain yX5_addTrain, Cond.code yX5_addTrain cX5_addTrain 3 (some .int), Cond.classLink RX5 55 "java/lang/IllegalStateException", Cond.initialized "java/lang/IllegalStateException", Cond.fieldLink RX5 51 "Warpyard$Trains" "count" "I", Cond.methodLink RX5 47 yX5_needBlock, Cond.static yX5_needBlock, Cond.code yX5_needBlock cX5_needBlock 1 none, Cond.classLink RX5 95 "java/lang/IndexOutOfBoundsException", Cond.initialized "java/lang/IndexOutOfBoundsException", Cond.methodLink RX5 62 yX3_standingOn, Cond.instanceMethod yX3_standingOn, Cond.selects RX3 yX3_standingOn yX3_standingOn]
def wsL_law0_r5 : List Cond := [Cond.code yX3_standingOn cX3_standingOn 3 (some .int), Cond.fieldLink RX3 25 "Warpyard$Trains" "count" "I", Cond.methodLink RX5 68 yX3_add, Cond.instanceMethod yX3_add, Cond.selects RX3 yX3_add yX3_add, Cond.code yX3_add cX3_add 4 (some .int), Cond.methodLink RL 14 yX5_hold, Cond.instanceMethod yX5_hold, Cond.selects RX5 yX5_hold yX5_hold, Cond.code yX5_hold cX5_hold 4 (some .boolean), Cond.fieldLink RX5 75 "Warpyard$Trains" "held" "[Z", Cond.methodLink RX5 72 yX5_needTrain, Cond.instanceMethod yX5_needTrain, Cond.selects RX5 yX5_needTrain yX5_needTrain, Cond.code yX5_needTrain cX5_needTrain 2 none, Cond.methodLink RL 18 yX5_delay, Cond.instanceMethod yX5_delay, Cond.selects RX5 yX5_delay yX5_delay, Cond.code yX5_delay cX5_delay 4 (some .int), Cond.classLink RX5 86 "java/lang/IllegalArgumentException", Cond.initialized "java/lang/IllegalArgumentException", Cond.fieldLink RX5 82 "Warpyard$Trains" "delay" "[I", Cond.methodLink RX5 79 yX5_needMinutesToRun, Cond.static yX5_needMinutesToRun]
def wsL_law0_r6 : List Cond := [Cond.code yX5_needMinutesToRun cX5_needMinutesToRun 1 none, Cond.methodLink RL 22 yX5_reverse, Cond.instanceMethod yX5_reverse, Cond.selects RX5 yX5_reverse yX5_reverse, Cond.code yX5_reverse cX5_reverse 2 (some .boolean), Cond.methodLink RX5 91 yX3_turnRound, Cond.instanceMethod yX3_turnRound, Cond.selects RX3 yX3_turnRound yX3_turnRound, Cond.code yX3_turnRound cX3_turnRound 2 (some .boolean), Cond.methodLink RL 26 yX5_throwSwitch, Cond.instanceMethod yX5_throwSwitch, Cond.selects RX5 yX5_throwSwitch yX5_throwSwitch, Cond.code yX5_throwSwitch cX5_throwSwitch 2 (some .boolean), Cond.methodLink RX5 100 yX2_turn, Cond.instanceMethod yX2_turn, Cond.selects RX2 yX2_turn yX2_turn, Cond.code yX2_turn cX2_turn 2 (some .boolean), Cond.methodLink RL 29 yX5_run, Cond.instanceMethod yX5_run, Cond.selects RX5 yX5_run yX5_run, Cond.code yX5_run cX5_run 4 (some .int), Cond.fieldLink RX5 109 "Warpyard" "now" "I", Cond.methodLink RX5 114 yX3_runMinute, Cond.instanceMethod yX3_runMinute]
def wsL_law0_r7 : List Cond := [Cond.selects RX3 yX3_runMinute yX3_runMinute, Cond.code yX3_runMinute cX3_runMinute 6 (some .int), Cond.methodLink RX3 29 yX3_step, Cond.instanceMethod yX3_step, Cond.selects RX3 yX3_step yX3_step, Cond.code yX3_step cX3_step 6 (some .boolean), Cond.methodLink RX3 33 yX2_ahead, Cond.instanceMethod yX2_ahead, Cond.selects RX2 yX2_ahead yX2_ahead, Cond.code yX2_ahead cX2_ahead 3 (some .int), Cond.methodLink RX2 15 yX2_rightOf, Cond.instanceMethod yX2_rightOf, Cond.selects RX2 yX2_rightOf yX2_rightOf, Cond.code yX2_rightOf cX2_rightOf 2 (some .int), Cond.methodLink RX2 19 yX2_leftOf, Cond.instanceMethod yX2_leftOf, Cond.selects RX2 yX2_leftOf yX2_leftOf, Cond.code yX2_leftOf cX2_leftOf 2 (some .int), Cond.methodLink RX3 39 yX3_turnRound, Cond.methodLink RX3 43 yX3_standingOn, Cond.methodLink RX3 47 yX0_isForAnother, Cond.instanceMethod yX0_isForAnother, Cond.selects RX0 yX0_isForAnother yX0_isForAnother, Cond.code yX0_isForAnother cX0_isForAnother 5 (some .boolean)]
def wsL_law0_r8 : List Cond := [Cond.fieldLink RX0 27 "Warpyard$Bookings" "count" "I", Cond.methodLink RX0 31 yX0_isIn, Cond.instanceMethod yX0_isIn, Cond.selects RX0 yX0_isIn yX0_isIn, Cond.code yX0_isIn cX0_isIn 3 (some .boolean), Cond.methodLink RX5 118 yX0_markMet, Cond.instanceMethod yX0_markMet, Cond.selects RX0 yX0_markMet yX0_markMet, Cond.code yX0_markMet cX0_markMet 4 none, Cond.methodLink RX0 35 yX3_standingOn, Cond.methodLink RL 33 yX5_book, Cond.instanceMethod yX5_book, Cond.selects RX5 yX5_book yX5_book, Cond.code yX5_book cX5_book 5 (some .int), Cond.fieldLink RX5 130 "Warpyard$Bookings" "count" "I", Cond.methodLink RX5 126 yX5_needSpan, Cond.static yX5_needSpan, Cond.code yX5_needSpan cX5_needSpan 3 none, Cond.methodLink RX5 133 yX0_meetsAnother, Cond.instanceMethod yX0_meetsAnother, Cond.selects RX0 yX0_meetsAnother yX0_meetsAnother, Cond.code yX0_meetsAnother cX0_meetsAnother 6 (some .boolean), Cond.methodLink RX5 137 yX0_add, Cond.instanceMethod yX0_add]
def wsL_law0_r9 : List Cond := [Cond.selects RX0 yX0_add yX0_add, Cond.code yX0_add cX0_add 6 (some .int), Cond.methodLink RL 37 yX5_addWaggon, Cond.instanceMethod yX5_addWaggon, Cond.selects RX5 yX5_addWaggon yX5_addWaggon, Cond.code yX5_addWaggon cX5_addWaggon 3 (some .int), Cond.fieldLink RX5 158 "Warpyard$Waggons" "count" "I", Cond.methodLink RX5 153 yX5_needSiding, Cond.static yX5_needSiding, Cond.code yX5_needSiding cX5_needSiding 1 none, Cond.methodLink RX5 212 yX5_isSiding, Cond.static yX5_isSiding, Cond.code yX5_isSiding cX5_isSiding 1 (some .boolean), Cond.methodLink RX5 161 yX5_needRoomIn, Cond.instanceMethod yX5_needRoomIn, Cond.selects RX5 yX5_needRoomIn yX5_needRoomIn, Cond.code yX5_needRoomIn cX5_needRoomIn 2 none, Cond.fieldLink RX5 239 "Warpyard$Waggons" "size" "[I", Cond.methodLink RX5 164 yX4_rowOfSiding, Cond.static yX4_rowOfSiding, Cond.code yX4_rowOfSiding cX4_rowOfSiding 1 (some .int), Cond.methodLink RX5 167 yX4_add, Cond.instanceMethod yX4_add, Cond.selects RX4 yX4_add yX4_add]
def wsL_law0_r10 : List Cond := [Cond.code yX4_add cX4_add 4 (some .int), Cond.fieldLink RX4 21 "Warpyard$Waggons" "count" "I", Cond.methodLink RX4 25 yX4_append, Cond.instanceMethod yX4_append, Cond.selects RX4 yX4_append yX4_append, Cond.code yX4_append cX4_append 3 none, Cond.methodLink RL 40 yL_offers, Cond.static yL_offers, Cond.code yL_offers cL_offers 5 (some .int), Cond.methodLink RL 59 yX5_offer, Cond.instanceMethod yX5_offer, Cond.selects RX5 yX5_offer yX5_offer, Cond.code yX5_offer cX5_offer 5 none, Cond.methodLink RX5 176 yX1_put, Cond.instanceMethod yX1_put, Cond.selects RX1 yX1_put yX1_put, Cond.code yX1_put cX1_put 5 none, Cond.methodLink RL 46 yX5_couple, Cond.instanceMethod yX5_couple, Cond.selects RX5 yX5_couple yX5_couple, Cond.code yX5_couple cX5_couple 5 (some .int), Cond.fieldLink RX5 194 "Warpyard$Waggons" "weight" "[I", Cond.methodLink RX5 180 yX5_sidingUnder, Cond.instanceMethod yX5_sidingUnder]
def wsL_law0_r11 : List Cond := [Cond.selects RX5 yX5_sidingUnder yX5_sidingUnder, Cond.code yX5_sidingUnder cX5_sidingUnder 3 (some .int), Cond.fieldLink RX5 103 "Warpyard$Trains" "block" "[I", Cond.methodLink RX5 183 yX4_rowOfTrain, Cond.static yX4_rowOfTrain, Cond.code yX4_rowOfTrain cX4_rowOfTrain 1 (some .int), Cond.methodLink RX5 186 yX4_lastOf, Cond.instanceMethod yX4_lastOf, Cond.selects RX4 yX4_lastOf yX4_lastOf, Cond.code yX4_lastOf cX4_lastOf 2 (some .int), Cond.methodLink RX4 29 yX4_fromLast, Cond.instanceMethod yX4_fromLast, Cond.selects RX4 yX4_fromLast yX4_fromLast, Cond.code yX4_fromLast cX4_fromLast 3 (some .int), Cond.methodLink RX5 191 yX4_weightOf, Cond.instanceMethod yX4_weightOf, Cond.selects RX4 yX4_weightOf yX4_weightOf, Cond.code yX4_weightOf cX4_weightOf 4 (some .int), Cond.methodLink RX5 199 yX4_moveLast, Cond.instanceMethod yX4_moveLast, Cond.selects RX4 yX4_moveLast yX4_moveLast, Cond.code yX4_moveLast cX4_moveLast 4 none, Cond.methodLink RX4 33 yX4_lastOf, Cond.methodLink RL 49 yX5_leave]
def wsL_law0_r12 : List Cond := [Cond.instanceMethod yX5_leave, Cond.selects RX5 yX5_leave yX5_leave, Cond.code yX5_leave cX5_leave 6 (some .int), Cond.fieldLink RX5 209 "Warpyard" "money" "I", Cond.methodLink RX5 205 yX1_settle, Cond.instanceMethod yX1_settle, Cond.selects RX1 yX1_settle yX1_settle, Cond.code yX1_settle cX1_settle 4 (some .int), Cond.methodLink RX1 25 Lib.Math.max.name, Cond.static Lib.Math.max.name, Cond.initialized "java/lang/Math", Cond.code Lib.Math.max.name Lib.Math.max.code 2 (some .int), Cond.methodLink RX1 21 yX1_begunHours, Cond.static yX1_begunHours, Cond.code yX1_begunHours cX1_begunHours 1 (some .int), Cond.methodLink RL 96 yX5_clock, Cond.instanceMethod yX5_clock, Cond.selects RX5 yX5_clock yX5_clock, Cond.code yX5_clock cX5_clock 1 (some .int), Cond.methodLink RL 125 yL_areAlike, Cond.static yL_areAlike, Cond.code yL_areAlike cL_areAlike 4 (some .boolean), Cond.methodLink RL 100 yX5_earned, Cond.instanceMethod yX5_earned]
def wsL_law0_r13 : List Cond := [Cond.selects RX5 yX5_earned yX5_earned, Cond.code yX5_earned cX5_earned 1 (some .int), Cond.methodLink RL 85 yL_looks, Cond.static yL_looks, Cond.codeWith yL_looks cL_looks 5 (some .int) [(0, 79, 80, 52)], Cond.methodLink RL 63 yX5_block, Cond.instanceMethod yX5_block, Cond.selects RX5 yX5_block yX5_block, Cond.code yX5_block cX5_block 2 (some .int), Cond.methodLink RL 66 yX5_isRight, Cond.instanceMethod yX5_isRight, Cond.selects RX5 yX5_isRight yX5_isRight, Cond.code yX5_isRight cX5_isRight 2 (some .boolean), Cond.fieldLink RX5 106 "Warpyard$Trains" "right" "[Z", Cond.methodLink RL 69 yX5_booking, Cond.instanceMethod yX5_booking, Cond.selects RX5 yX5_booking yX5_booking, Cond.code yX5_booking cX5_booking 2 (some .int), Cond.fieldLink RX5 147 "Warpyard$Bookings" "lateness" "[I", Cond.fieldLink RX5 150 "Warpyard$Bookings" "last" "[I", Cond.methodLink RX5 144 yX5_needBooking, Cond.instanceMethod yX5_needBooking, Cond.selects RX5 yX5_needBooking yX5_needBooking, Cond.code yX5_needBooking cX5_needBooking 2 none]
def wsL_law0_r14 : List Cond := [Cond.methodLink RL 72 yX5_late, Cond.instanceMethod yX5_late, Cond.selects RX5 yX5_late yX5_late, Cond.code yX5_late cX5_late 2 (some .int), Cond.methodLink RL 75 yX5_waggonAt, Cond.instanceMethod yX5_waggonAt, Cond.selects RX5 yX5_waggonAt yX5_waggonAt, Cond.code yX5_waggonAt cX5_waggonAt 4 (some .int), Cond.methodLink RX5 219 yX4_fromLast, Cond.methodLink RX5 222 yX4_fromFirst, Cond.instanceMethod yX4_fromFirst, Cond.selects RX4 yX4_fromFirst yX4_fromFirst, Cond.code yX4_fromFirst cX4_fromFirst 3 (some .int), Cond.methodLink RL 78 yX5_reaches, Cond.instanceMethod yX5_reaches, Cond.selects RX5 yX5_reaches yX5_reaches, Cond.code yX5_reaches cX5_reaches 4 (some .int), Cond.methodLink RX5 122 yX3_copyFrom, Cond.instanceMethod yX3_copyFrom, Cond.selects RX3 yX3_copyFrom yX3_copyFrom, Cond.code yX3_copyFrom cX3_copyFrom 3 none, Cond.methodLink RL 129 yL_arePlacesSo, Cond.static yL_arePlacesSo, Cond.code yL_arePlacesSo cL_arePlacesSo 10 (some .boolean)]
def wsL_law0_r15 : List Cond := [Cond.methodLink RL 103 yL_trains, Cond.static yL_trains, Cond.code yL_trains cL_trains 2 (some .int), Cond.methodLink RL 107 yX5_trainOn, Cond.instanceMethod yX5_trainOn, Cond.selects RX5 yX5_trainOn yX5_trainOn, Cond.code yX5_trainOn cX5_trainOn 2 (some .int), Cond.methodLink RL 133 yL_areBookingsSo, Cond.static yL_areBookingsSo, Cond.code yL_areBookingsSo cL_areBookingsSo 10 (some .boolean), Cond.methodLink RL 110 yL_can, Cond.static yL_can, Cond.codeWith yL_can cL_can 6 (some .int) [(0, 17, 18, 52), (0, 17, 23, 55)], Cond.methodLink RL 81 yX5_canBook, Cond.instanceMethod yX5_canBook, Cond.selects RX5 yX5_canBook yX5_canBook, Cond.code yX5_canBook cX5_canBook 5 (some .boolean), Cond.methodLink RL 113 yX5_canBookByMinutes, Cond.instanceMethod yX5_canBookByMinutes, Cond.selects RX5 yX5_canBookByMinutes yX5_canBookByMinutes, Cond.code yX5_canBookByMinutes cX5_canBookByMinutes 6 (some .boolean), Cond.methodLink RX5 140 yX0_isForAnother, Cond.methodLink RL 137 yL_isReachedSo, Cond.static yL_isReachedSo]
def wsL_law0_r16 : List Cond := [Cond.code yL_isReachedSo cL_isReachedSo 8 (some .boolean), Cond.methodLink RL 141 yL_isLeftSo, Cond.static yL_isLeftSo, Cond.code yL_isLeftSo cL_isLeftSo 8 (some .boolean)]
def wsL_law0 : List Cond := (wsL_law0_r1 ++ (wsL_law0_r2 ++ (wsL_law0_r3 ++ (wsL_law0_r4 ++ (wsL_law0_r5 ++ (wsL_law0_r6 ++ (wsL_law0_r7 ++ (wsL_law0_r8 ++ (wsL_law0_r9 ++ (wsL_law0_r10 ++ (wsL_law0_r11 ++ (wsL_law0_r12 ++ (wsL_law0_r13 ++ (wsL_law0_r14 ++ (wsL_law0_r15 ++ wsL_law0_r16))))))))))))))) ++ wsX50 ++ wsX20 ++ wsX30 ++ wsX00 ++ wsX40 ++ wsX10 ++ ([] : List Cond)
def wsL_law : List Cond := wsL_law0 ++ (vx_atS RX5 59 "java/lang/IllegalStateException" ["java/lang/RuntimeException", "java/lang/Exception"]).filter goodWord ++ (vx_atS RX5 99 "java/lang/IndexOutOfBoundsException" ["java/lang/RuntimeException", "java/lang/Exception"]).filter goodWord ++ (vx_atS RX5 90 "java/lang/IllegalArgumentException" ["java/lang/RuntimeException", "java/lang/Exception"]).filter goodWord
end
section
theorem in_pl {big ws : List Cond} (ps : List Nat) (hp : ws = ps.filterMap (fun i => big[i]?)) : ∀ w ∈ ws, w ∈ big := by
  intro w hw
  rw [hp] at hw
  obtain ⟨i, -, hi⟩ := List.mem_filterMap.mp hw
  exact List.mem_of_getElem? hi
set_option maxRecDepth 20000 in
theorem p_wsL_law0_r1 : ∀ w ∈ wsL_law0_r1, w ∈ lw_tbl := in_pl [24, 25, 11, 475, 26, 27, 28, 29, 30, 31, 32, 33, 12, 137, 43, 44, 13, 138, 139, 71, 72, 14, 140, 99] (by decide +kernel)
set_option maxRecDepth 20000 in
theorem p_wsL_law0_r2 : ∀ w ∈ wsL_law0_r2, w ∈ lw_tbl := in_pl [100, 15, 141, 121, 122, 16, 142, 35, 36, 37, 42, 38, 46, 47, 48, 70, 49, 51, 53, 55, 74, 75, 76, 77] (by decide +kernel)
set_option maxRecDepth 20000 in
theorem p_wsL_law0_r3 : ∀ w ∈ wsL_law0_r3, w ∈ lw_tbl := in_pl [78, 79, 80, 82, 102, 103, 104, 105, 107, 109, 124, 125, 126, 127, 128, 129, 162, 163, 10, 164, 169, 170, 171, 165] (by decide +kernel)
set_option maxRecDepth 20000 in
theorem p_wsL_law0_r4 : ∀ w ∈ wsL_law0_r4, w ∈ lw_tbl := in_pl [166, 167, 168, 172, 173, 174, 175, 176, 177, 178, 179, 180, 181, 253, 21, 58, 182, 183, 184, 185, 20, 269, 270, 271] (by decide +kernel)
set_option maxRecDepth 20000 in
theorem p_wsL_law0_r5 : ∀ w ∈ wsL_law0_r5, w ∈ lw_tbl := in_pl [272, 57, 274, 275, 276, 277, 278, 279, 280, 281, 54, 282, 284, 1, 285, 287, 288, 289, 290, 294, 22, 56, 291, 292] (by decide +kernel)
set_option maxRecDepth 20000 in
theorem p_wsL_law0_r6 : ∀ w ∈ wsL_law0_r6, w ∈ lw_tbl := in_pl [293, 311, 312, 313, 314, 315, 316, 317, 318, 319, 320, 321, 322, 324, 325, 326, 327, 328, 329, 330, 331, 143, 333, 334] (by decide +kernel)
set_option maxRecDepth 20000 in
theorem p_wsL_law0_r7 : ∀ w ∈ wsL_law0_r7, w ∈ lw_tbl := in_pl [335, 336, 337, 339, 2, 340, 341, 342, 343, 344, 345, 347, 3, 348, 349, 351, 4, 352, 353, 354, 355, 356, 357, 358] (by decide +kernel)
set_option maxRecDepth 20000 in
theorem p_wsL_law0_r8 : ∀ w ∈ wsL_law0_r8, w ∈ lw_tbl := in_pl [84, 359, 361, 5, 362, 363, 364, 365, 366, 367, 368, 369, 370, 371, 85, 372, 373, 374, 378, 379, 380, 381, 382, 383] (by decide +kernel)
set_option maxRecDepth 20000 in
theorem p_wsL_law0_r9 : ∀ w ∈ wsL_law0_r9, w ∈ lw_tbl := in_pl [384, 385, 386, 387, 388, 389, 111, 390, 391, 392, 393, 394, 395, 399, 401, 6, 402, 108, 403, 404, 405, 407, 408, 409] (by decide +kernel)
set_option maxRecDepth 20000 in
theorem p_wsL_law0_r10 : ∀ w ∈ wsL_law0_r10, w ∈ lw_tbl := in_pl [410, 110, 411, 413, 7, 414, 415, 416, 417, 418, 419, 420, 421, 425, 426, 427, 428, 429, 430, 431, 432, 106, 433, 435] (by decide +kernel)
set_option maxRecDepth 20000 in
theorem p_wsL_law0_r11 : ∀ w ∈ wsL_law0_r11, w ∈ lw_tbl := in_pl [8, 436, 50, 438, 439, 440, 441, 442, 443, 444, 445, 446, 447, 448, 450, 451, 452, 453, 455, 456, 457, 458, 459, 460] (by decide +kernel)
set_option maxRecDepth 20000 in
theorem p_wsL_law0_r12 : ∀ w ∈ wsL_law0_r12, w ∈ lw_tbl := in_pl [461, 462, 463, 144, 465, 466, 467, 468, 472, 473, 23, 474, 469, 470, 471, 476, 477, 478, 479, 480, 481, 482, 483, 484] (by decide +kernel)
set_option maxRecDepth 20000 in
theorem p_wsL_law0_r13 : ∀ w ∈ wsL_law0_r13, w ∈ lw_tbl := in_pl [485, 486, 487, 488, 489, 490, 491, 492, 493, 494, 495, 496, 497, 52, 498, 499, 500, 501, 83, 81, 502, 504, 9, 505] (by decide +kernel)
set_option maxRecDepth 20000 in
theorem p_wsL_law0_r14 : ∀ w ∈ wsL_law0_r14, w ∈ lw_tbl := in_pl [507, 508, 509, 510, 511, 512, 513, 514, 517, 518, 519, 520, 521, 522, 523, 524, 525, 526, 527, 528, 529, 530, 531, 532] (by decide +kernel)
set_option maxRecDepth 20000 in
theorem p_wsL_law0_r15 : ∀ w ∈ wsL_law0_r15, w ∈ lw_tbl := in_pl [533, 534, 535, 536, 537, 538, 539, 540, 541, 542, 543, 544, 545, 546, 547, 548, 549, 550, 551, 552, 553, 554, 555, 556] (by decide +kernel)
set_option maxRecDepth 20000 in
theorem p_wsL_law0_r16 : ∀ w ∈ wsL_law0_r16, w ∈ lw_tbl := in_pl [557, 558, 559, 560] (by decide +kernel)
set_option maxRecDepth 20000 in
theorem p_wsX50 : ∀ w ∈ wsX50, w ∈ lw_tbl := in_pl [145, 147, 149, 151, 153, 155, 157, 159] (by decide +kernel)
set_option maxRecDepth 20000 in
theorem p_wsX20 : ∀ w ∈ wsX20, w ∈ lw_tbl := in_pl [39] (by decide +kernel)
set_option maxRecDepth 20000 in
theorem p_wsX30 : ∀ w ∈ wsX30, w ∈ lw_tbl := in_pl [59, 61, 63, 65, 67] (by decide +kernel)
set_option maxRecDepth 20000 in
theorem p_wsX00 : ∀ w ∈ wsX00, w ∈ lw_tbl := in_pl [86, 88, 90, 92, 94, 96] (by decide +kernel)
set_option maxRecDepth 20000 in
theorem p_wsX40 : ∀ w ∈ wsX40, w ∈ lw_tbl := in_pl [112, 114, 116, 118] (by decide +kernel)
set_option maxRecDepth 20000 in
theorem p_wsX10 : ∀ w ∈ wsX10, w ∈ lw_tbl := in_pl [130, 132, 134] (by decide +kernel)
theorem wsL_law_in0 : ∀ w ∈ wsL_law0, w ∈ lw_tbl := by
  unfold wsL_law0
  exact (List.forall_mem_append.mpr ⟨(List.forall_mem_append.mpr ⟨(List.forall_mem_append.mpr ⟨(List.forall_mem_append.mpr ⟨(List.forall_mem_append.mpr ⟨(List.forall_mem_append.mpr ⟨(List.forall_mem_append.mpr ⟨(List.forall_mem_append.mpr ⟨p_wsL_law0_r1, (List.forall_mem_append.mpr ⟨p_wsL_law0_r2, (List.forall_mem_append.mpr ⟨p_wsL_law0_r3, (List.forall_mem_append.mpr ⟨p_wsL_law0_r4, (List.forall_mem_append.mpr ⟨p_wsL_law0_r5, (List.forall_mem_append.mpr ⟨p_wsL_law0_r6, (List.forall_mem_append.mpr ⟨p_wsL_law0_r7, (List.forall_mem_append.mpr ⟨p_wsL_law0_r8, (List.forall_mem_append.mpr ⟨p_wsL_law0_r9, (List.forall_mem_append.mpr ⟨p_wsL_law0_r10, (List.forall_mem_append.mpr ⟨p_wsL_law0_r11, (List.forall_mem_append.mpr ⟨p_wsL_law0_r12, (List.forall_mem_append.mpr ⟨p_wsL_law0_r13, (List.forall_mem_append.mpr ⟨p_wsL_law0_r14, (List.forall_mem_append.mpr ⟨p_wsL_law0_r15, p_wsL_law0_r16⟩)⟩)⟩)⟩)⟩)⟩)⟩)⟩)⟩)⟩)⟩)⟩)⟩)⟩)⟩), p_wsX50⟩), p_wsX20⟩), p_wsX30⟩), p_wsX00⟩), p_wsX40⟩), p_wsX10⟩), fun _ h => absurd h List.not_mem_nil⟩)
end
section
theorem inX6 : ∀ w ∈ wsX60, w ∈ lw_tbl := by decide +kernel
theorem inJ9 : ∀ w ∈ wsJ90, w ∈ lw_tbl := by decide +kernel
theorem inJ0 : ∀ w ∈ wsJ00, w ∈ lw_tbl := by decide +kernel
theorem dX0_init_0 : decode cX0_init 0 = .ok (.aload_n 0, 1) := by decide +kernel
theorem dX0_init_1 : decode cX0_init 1 = .ok (.invokespecial 3, 3) := by decide +kernel
theorem dX0_init_4 : decode cX0_init 4 = .ok (.aload_n 0, 1) := by decide +kernel
theorem dX0_init_5 : decode cX0_init 5 = .ok (.bipush 30, 2) := by decide +kernel
theorem dX0_init_7 : decode cX0_init 7 = .ok (.newarray .int, 2) := by decide +kernel
theorem dX0_init_9 : decode cX0_init 9 = .ok (.putfield 9, 3) := by decide +kernel
theorem dX0_init_12 : decode cX0_init 12 = .ok (.aload_n 0, 1) := by decide +kernel
theorem dX0_init_13 : decode cX0_init 13 = .ok (.bipush 30, 2) := by decide +kernel
theorem dX0_init_15 : decode cX0_init 15 = .ok (.newarray .int, 2) := by decide +kernel
theorem dX0_init_17 : decode cX0_init 17 = .ok (.putfield 15, 3) := by decide +kernel
theorem dX0_init_20 : decode cX0_init 20 = .ok (.aload_n 0, 1) := by decide +kernel
theorem dX0_init_21 : decode cX0_init 21 = .ok (.bipush 30, 2) := by decide +kernel
theorem dX0_init_23 : decode cX0_init 23 = .ok (.newarray .int, 2) := by decide +kernel
theorem dX0_init_25 : decode cX0_init 25 = .ok (.putfield 18, 3) := by decide +kernel
theorem dX0_init_28 : decode cX0_init 28 = .ok (.aload_n 0, 1) := by decide +kernel
theorem dX0_init_29 : decode cX0_init 29 = .ok (.bipush 30, 2) := by decide +kernel
theorem dX0_init_31 : decode cX0_init 31 = .ok (.newarray .int, 2) := by decide +kernel
theorem dX0_init_33 : decode cX0_init 33 = .ok (.putfield 21, 3) := by decide +kernel
theorem dX0_init_36 : decode cX0_init 36 = .ok (.aload_n 0, 1) := by decide +kernel
theorem dX0_init_37 : decode cX0_init 37 = .ok (.bipush 30, 2) := by decide +kernel
theorem dX0_init_39 : decode cX0_init 39 = .ok (.newarray .int, 2) := by decide +kernel
theorem dX0_init_41 : decode cX0_init 41 = .ok (.putfield 24, 3) := by decide +kernel
theorem dX0_init_44 : decode cX0_init 44 = .ok (.return_, 1) := by decide +kernel
theorem dX0_meetsAnother_0 : decode cX0_meetsAnother 0 = .ok (.iconst 0, 1) := by decide +kernel
theorem dX0_meetsAnother_1 : decode cX0_meetsAnother 1 = .ok (.istore 5, 2) := by decide +kernel
theorem dX0_meetsAnother_3 : decode cX0_meetsAnother 3 = .ok (.iload 5, 2) := by decide +kernel
theorem dX0_meetsAnother_5 : decode cX0_meetsAnother 5 = .ok (.aload_n 0, 1) := by decide +kernel
theorem dX0_meetsAnother_6 : decode cX0_meetsAnother 6 = .ok (.getfield 27, 3) := by decide +kernel
theorem dX0_meetsAnother_9 : decode cX0_meetsAnother 9 = .ok (.if_icmp .ge 56, 3) := by decide +kernel
theorem dX0_meetsAnother_12 : decode cX0_meetsAnother 12 = .ok (.aload_n 0, 1) := by decide +kernel
theorem dX0_meetsAnother_13 : decode cX0_meetsAnother 13 = .ok (.getfield 15, 3) := by decide +kernel
theorem dX0_meetsAnother_16 : decode cX0_meetsAnother 16 = .ok (.iload 5, 2) := by decide +kernel
theorem dX0_meetsAnother_18 : decode cX0_meetsAnother 18 = .ok (.iaload, 1) := by decide +kernel
theorem dX0_meetsAnother_19 : decode cX0_meetsAnother 19 = .ok (.iload_n 2, 1) := by decide +kernel
theorem dX0_meetsAnother_20 : decode cX0_meetsAnother 20 = .ok (.if_icmp .ne 39, 3) := by decide +kernel
theorem dX0_meetsAnother_23 : decode cX0_meetsAnother 23 = .ok (.aload_n 0, 1) := by decide +kernel
theorem dX0_meetsAnother_24 : decode cX0_meetsAnother 24 = .ok (.getfield 9, 3) := by decide +kernel
theorem dX0_meetsAnother_27 : decode cX0_meetsAnother 27 = .ok (.iload 5, 2) := by decide +kernel
theorem dX0_meetsAnother_29 : decode cX0_meetsAnother 29 = .ok (.iaload, 1) := by decide +kernel
theorem dX0_meetsAnother_30 : decode cX0_meetsAnother 30 = .ok (.iload_n 1, 1) := by decide +kernel
theorem dX0_meetsAnother_31 : decode cX0_meetsAnother 31 = .ok (.if_icmp .eq 28, 3) := by decide +kernel
theorem dX0_meetsAnother_34 : decode cX0_meetsAnother 34 = .ok (.aload_n 0, 1) := by decide +kernel
theorem dX0_meetsAnother_35 : decode cX0_meetsAnother 35 = .ok (.getfield 18, 3) := by decide +kernel
theorem dX0_meetsAnother_38 : decode cX0_meetsAnother 38 = .ok (.iload 5, 2) := by decide +kernel
theorem dX0_meetsAnother_40 : decode cX0_meetsAnother 40 = .ok (.iaload, 1) := by decide +kernel
theorem dX0_meetsAnother_41 : decode cX0_meetsAnother 41 = .ok (.iload 4, 2) := by decide +kernel
theorem dX0_meetsAnother_43 : decode cX0_meetsAnother 43 = .ok (.if_icmp .gt 16, 3) := by decide +kernel
theorem dX0_meetsAnother_46 : decode cX0_meetsAnother 46 = .ok (.iload_n 3, 1) := by decide +kernel
theorem dX0_meetsAnother_47 : decode cX0_meetsAnother 47 = .ok (.aload_n 0, 1) := by decide +kernel
theorem dX0_meetsAnother_48 : decode cX0_meetsAnother 48 = .ok (.getfield 21, 3) := by decide +kernel
theorem dX0_meetsAnother_51 : decode cX0_meetsAnother 51 = .ok (.iload 5, 2) := by decide +kernel
theorem dX0_meetsAnother_53 : decode cX0_meetsAnother 53 = .ok (.iaload, 1) := by decide +kernel
theorem dX0_meetsAnother_54 : decode cX0_meetsAnother 54 = .ok (.if_icmp .gt 5, 3) := by decide +kernel
theorem dX0_meetsAnother_57 : decode cX0_meetsAnother 57 = .ok (.iconst 1, 1) := by decide +kernel
theorem dX0_meetsAnother_58 : decode cX0_meetsAnother 58 = .ok (.ireturn, 1) := by decide +kernel
theorem dX0_meetsAnother_59 : decode cX0_meetsAnother 59 = .ok (.iinc 5 1, 3) := by decide +kernel
theorem dX0_meetsAnother_62 : decode cX0_meetsAnother 62 = .ok (.goto (-59), 3) := by decide +kernel
theorem dX0_meetsAnother_65 : decode cX0_meetsAnother 65 = .ok (.iconst 0, 1) := by decide +kernel
theorem dX0_meetsAnother_66 : decode cX0_meetsAnother 66 = .ok (.ireturn, 1) := by decide +kernel
theorem dX1_init_0 : decode cX1_init 0 = .ok (.aload_n 0, 1) := by decide +kernel
theorem dX1_init_1 : decode cX1_init 1 = .ok (.invokespecial 3, 3) := by decide +kernel
theorem dX1_init_4 : decode cX1_init 4 = .ok (.aload_n 0, 1) := by decide +kernel
theorem dX1_init_5 : decode cX1_init 5 = .ok (.bipush 8, 2) := by decide +kernel
theorem dX1_init_7 : decode cX1_init 7 = .ok (.newarray .int, 2) := by decide +kernel
theorem dX1_init_9 : decode cX1_init 9 = .ok (.putfield 9, 3) := by decide +kernel
theorem dX1_init_12 : decode cX1_init 12 = .ok (.aload_n 0, 1) := by decide +kernel
theorem dX1_init_13 : decode cX1_init 13 = .ok (.bipush 8, 2) := by decide +kernel
theorem dX1_init_15 : decode cX1_init 15 = .ok (.newarray .int, 2) := by decide +kernel
theorem dX1_init_17 : decode cX1_init 17 = .ok (.putfield 15, 3) := by decide +kernel
theorem dX1_init_20 : decode cX1_init 20 = .ok (.aload_n 0, 1) := by decide +kernel
theorem dX1_init_21 : decode cX1_init 21 = .ok (.bipush 8, 2) := by decide +kernel
theorem dX1_init_23 : decode cX1_init 23 = .ok (.newarray .int, 2) := by decide +kernel
theorem dX1_init_25 : decode cX1_init 25 = .ok (.putfield 18, 3) := by decide +kernel
theorem dX1_init_28 : decode cX1_init 28 = .ok (.return_, 1) := by decide +kernel
theorem dX2_init_0 : decode cX2_init 0 = .ok (.aload_n 0, 1) := by decide +kernel
theorem dX2_init_1 : decode cX2_init 1 = .ok (.invokespecial 3, 3) := by decide +kernel
theorem dX2_init_4 : decode cX2_init 4 = .ok (.aload_n 0, 1) := by decide +kernel
theorem dX2_init_5 : decode cX2_init 5 = .ok (.iconst 2, 1) := by decide +kernel
theorem dX2_init_6 : decode cX2_init 6 = .ok (.newarray .boolean, 2) := by decide +kernel
theorem dX2_init_8 : decode cX2_init 8 = .ok (.putfield 9, 3) := by decide +kernel
theorem dX2_init_11 : decode cX2_init 11 = .ok (.return_, 1) := by decide +kernel
theorem dX3_init_0 : decode cX3_init 0 = .ok (.aload_n 0, 1) := by decide +kernel
theorem dX3_init_1 : decode cX3_init 1 = .ok (.invokespecial 3, 3) := by decide +kernel
theorem dX3_init_4 : decode cX3_init 4 = .ok (.aload_n 0, 1) := by decide +kernel
theorem dX3_init_5 : decode cX3_init 5 = .ok (.iconst 4, 1) := by decide +kernel
theorem dX3_init_6 : decode cX3_init 6 = .ok (.newarray .int, 2) := by decide +kernel
theorem dX3_init_8 : decode cX3_init 8 = .ok (.putfield 9, 3) := by decide +kernel
theorem dX3_init_11 : decode cX3_init 11 = .ok (.aload_n 0, 1) := by decide +kernel
theorem dX3_init_12 : decode cX3_init 12 = .ok (.iconst 4, 1) := by decide +kernel
theorem dX3_init_13 : decode cX3_init 13 = .ok (.newarray .boolean, 2) := by decide +kernel
theorem dX3_init_15 : decode cX3_init 15 = .ok (.putfield 15, 3) := by decide +kernel
theorem dX3_init_18 : decode cX3_init 18 = .ok (.aload_n 0, 1) := by decide +kernel
theorem dX3_init_19 : decode cX3_init 19 = .ok (.iconst 4, 1) := by decide +kernel
theorem dX3_init_20 : decode cX3_init 20 = .ok (.newarray .boolean, 2) := by decide +kernel
theorem dX3_init_22 : decode cX3_init 22 = .ok (.putfield 19, 3) := by decide +kernel
theorem dX3_init_25 : decode cX3_init 25 = .ok (.aload_n 0, 1) := by decide +kernel
theorem dX3_init_26 : decode cX3_init 26 = .ok (.iconst 4, 1) := by decide +kernel
theorem dX3_init_27 : decode cX3_init 27 = .ok (.newarray .int, 2) := by decide +kernel
theorem dX3_init_29 : decode cX3_init 29 = .ok (.putfield 22, 3) := by decide +kernel
theorem dX3_init_32 : decode cX3_init 32 = .ok (.return_, 1) := by decide +kernel
theorem dX3_add_0 : decode cX3_add 0 = .ok (.aload_n 0, 1) := by decide +kernel
theorem dX3_add_1 : decode cX3_add 1 = .ok (.getfield 25, 3) := by decide +kernel
theorem dX3_add_4 : decode cX3_add 4 = .ok (.istore_n 3, 1) := by decide +kernel
theorem dX3_add_5 : decode cX3_add 5 = .ok (.aload_n 0, 1) := by decide +kernel
theorem dX3_add_6 : decode cX3_add 6 = .ok (.getfield 9, 3) := by decide +kernel
theorem dX3_add_9 : decode cX3_add 9 = .ok (.iload_n 3, 1) := by decide +kernel
theorem dX3_add_10 : decode cX3_add 10 = .ok (.iload_n 1, 1) := by decide +kernel
theorem dX3_add_11 : decode cX3_add 11 = .ok (.iastore, 1) := by decide +kernel
theorem dX3_add_12 : decode cX3_add 12 = .ok (.aload_n 0, 1) := by decide +kernel
theorem dX3_add_13 : decode cX3_add 13 = .ok (.getfield 15, 3) := by decide +kernel
theorem dX3_add_16 : decode cX3_add 16 = .ok (.iload_n 3, 1) := by decide +kernel
theorem dX3_add_17 : decode cX3_add 17 = .ok (.iload_n 2, 1) := by decide +kernel
theorem dX3_add_18 : decode cX3_add 18 = .ok (.bastore, 1) := by decide +kernel
theorem dX3_add_19 : decode cX3_add 19 = .ok (.aload_n 0, 1) := by decide +kernel
theorem dX3_add_20 : decode cX3_add 20 = .ok (.dup, 1) := by decide +kernel
theorem dX3_add_21 : decode cX3_add 21 = .ok (.getfield 25, 3) := by decide +kernel
theorem dX3_add_24 : decode cX3_add 24 = .ok (.iconst 1, 1) := by decide +kernel
theorem dX3_add_25 : decode cX3_add 25 = .ok (.iadd, 1) := by decide +kernel
theorem dX3_add_26 : decode cX3_add 26 = .ok (.putfield 25, 3) := by decide +kernel
theorem dX3_add_29 : decode cX3_add 29 = .ok (.iload_n 3, 1) := by decide +kernel
theorem dX3_add_30 : decode cX3_add 30 = .ok (.ireturn, 1) := by decide +kernel
theorem dX3_standingOn_0 : decode cX3_standingOn 0 = .ok (.iconst 0, 1) := by decide +kernel
theorem dX3_standingOn_1 : decode cX3_standingOn 1 = .ok (.istore_n 2, 1) := by decide +kernel
theorem dX3_standingOn_2 : decode cX3_standingOn 2 = .ok (.iload_n 2, 1) := by decide +kernel
theorem dX3_standingOn_3 : decode cX3_standingOn 3 = .ok (.aload_n 0, 1) := by decide +kernel
theorem dX3_standingOn_4 : decode cX3_standingOn 4 = .ok (.getfield 25, 3) := by decide +kernel
theorem dX3_standingOn_7 : decode cX3_standingOn 7 = .ok (.if_icmp .ge 21, 3) := by decide +kernel
theorem dX3_standingOn_10 : decode cX3_standingOn 10 = .ok (.aload_n 0, 1) := by decide +kernel
theorem dX3_standingOn_11 : decode cX3_standingOn 11 = .ok (.getfield 9, 3) := by decide +kernel
theorem dX3_standingOn_14 : decode cX3_standingOn 14 = .ok (.iload_n 2, 1) := by decide +kernel
theorem dX3_standingOn_15 : decode cX3_standingOn 15 = .ok (.iaload, 1) := by decide +kernel
theorem dX3_standingOn_16 : decode cX3_standingOn 16 = .ok (.iload_n 1, 1) := by decide +kernel
theorem dX3_standingOn_17 : decode cX3_standingOn 17 = .ok (.if_icmp .ne 5, 3) := by decide +kernel
theorem dX3_standingOn_20 : decode cX3_standingOn 20 = .ok (.iload_n 2, 1) := by decide +kernel
theorem dX3_standingOn_21 : decode cX3_standingOn 21 = .ok (.ireturn, 1) := by decide +kernel
theorem dX3_standingOn_22 : decode cX3_standingOn 22 = .ok (.iinc 2 1, 3) := by decide +kernel
theorem dX3_standingOn_25 : decode cX3_standingOn 25 = .ok (.goto (-23), 3) := by decide +kernel
theorem dX3_standingOn_28 : decode cX3_standingOn 28 = .ok (.iconst (-1), 1) := by decide +kernel
theorem dX3_standingOn_29 : decode cX3_standingOn 29 = .ok (.ireturn, 1) := by decide +kernel
theorem dX4_init_0 : decode cX4_init 0 = .ok (.aload_n 0, 1) := by decide +kernel
theorem dX4_init_1 : decode cX4_init 1 = .ok (.invokespecial 3, 3) := by decide +kernel
theorem dX4_init_4 : decode cX4_init 4 = .ok (.aload_n 0, 1) := by decide +kernel
theorem dX4_init_5 : decode cX4_init 5 = .ok (.bipush 8, 2) := by decide +kernel
theorem dX4_init_7 : decode cX4_init 7 = .ok (.newarray .int, 2) := by decide +kernel
theorem dX4_init_9 : decode cX4_init 9 = .ok (.putfield 9, 3) := by decide +kernel
theorem dX4_init_12 : decode cX4_init 12 = .ok (.aload_n 0, 1) := by decide +kernel
theorem dX4_init_13 : decode cX4_init 13 = .ok (.bipush 6, 2) := by decide +kernel
theorem dX4_init_15 : decode cX4_init 15 = .ok (.newarray .int, 2) := by decide +kernel
theorem dX4_init_17 : decode cX4_init 17 = .ok (.putfield 15, 3) := by decide +kernel
theorem dX4_init_20 : decode cX4_init 20 = .ok (.aload_n 0, 1) := by decide +kernel
theorem dX4_init_21 : decode cX4_init 21 = .ok (.bipush 48, 2) := by decide +kernel
theorem dX4_init_23 : decode cX4_init 23 = .ok (.newarray .int, 2) := by decide +kernel
theorem dX4_init_25 : decode cX4_init 25 = .ok (.putfield 18, 3) := by decide +kernel
theorem dX4_init_28 : decode cX4_init 28 = .ok (.return_, 1) := by decide +kernel
theorem dX4_rowOfSiding_0 : decode cX4_rowOfSiding 0 = .ok (.iload_n 0, 1) := by decide +kernel
theorem dX4_rowOfSiding_1 : decode cX4_rowOfSiding 1 = .ok (.bipush 6, 2) := by decide +kernel
theorem dX4_rowOfSiding_3 : decode cX4_rowOfSiding 3 = .ok (.isub, 1) := by decide +kernel
theorem dX4_rowOfSiding_4 : decode cX4_rowOfSiding 4 = .ok (.ireturn, 1) := by decide +kernel
theorem dX4_rowOfTrain_0 : decode cX4_rowOfTrain 0 = .ok (.iconst 2, 1) := by decide +kernel
theorem dX4_rowOfTrain_1 : decode cX4_rowOfTrain 1 = .ok (.iload_n 0, 1) := by decide +kernel
theorem dX4_rowOfTrain_2 : decode cX4_rowOfTrain 2 = .ok (.iadd, 1) := by decide +kernel
theorem dX4_rowOfTrain_3 : decode cX4_rowOfTrain 3 = .ok (.ireturn, 1) := by decide +kernel
theorem dX4_fromFirst_0 : decode cX4_fromFirst 0 = .ok (.iload_n 2, 1) := by decide +kernel
theorem dX4_fromFirst_1 : decode cX4_fromFirst 1 = .ok (.aload_n 0, 1) := by decide +kernel
theorem dX4_fromFirst_2 : decode cX4_fromFirst 2 = .ok (.getfield 15, 3) := by decide +kernel
theorem dX4_fromFirst_5 : decode cX4_fromFirst 5 = .ok (.iload_n 1, 1) := by decide +kernel
theorem dX4_fromFirst_6 : decode cX4_fromFirst 6 = .ok (.iaload, 1) := by decide +kernel
theorem dX4_fromFirst_7 : decode cX4_fromFirst 7 = .ok (.if_icmp .ge 17, 3) := by decide +kernel
theorem dX4_fromFirst_10 : decode cX4_fromFirst 10 = .ok (.aload_n 0, 1) := by decide +kernel
theorem dX4_fromFirst_11 : decode cX4_fromFirst 11 = .ok (.getfield 18, 3) := by decide +kernel
theorem dX4_fromFirst_14 : decode cX4_fromFirst 14 = .ok (.iload_n 1, 1) := by decide +kernel
theorem dX4_fromFirst_15 : decode cX4_fromFirst 15 = .ok (.bipush 8, 2) := by decide +kernel
theorem dX4_fromFirst_17 : decode cX4_fromFirst 17 = .ok (.imul, 1) := by decide +kernel
theorem dX4_fromFirst_18 : decode cX4_fromFirst 18 = .ok (.iload_n 2, 1) := by decide +kernel
theorem dX4_fromFirst_19 : decode cX4_fromFirst 19 = .ok (.iadd, 1) := by decide +kernel
theorem dX4_fromFirst_20 : decode cX4_fromFirst 20 = .ok (.iaload, 1) := by decide +kernel
theorem dX4_fromFirst_21 : decode cX4_fromFirst 21 = .ok (.goto 4, 3) := by decide +kernel
theorem dX4_fromFirst_24 : decode cX4_fromFirst 24 = .ok (.iconst (-1), 1) := by decide +kernel
theorem dX4_fromFirst_25 : decode cX4_fromFirst 25 = .ok (.ireturn, 1) := by decide +kernel
theorem dX4_fromLast_0 : decode cX4_fromLast 0 = .ok (.iload_n 2, 1) := by decide +kernel
theorem dX4_fromLast_1 : decode cX4_fromLast 1 = .ok (.aload_n 0, 1) := by decide +kernel
theorem dX4_fromLast_2 : decode cX4_fromLast 2 = .ok (.getfield 15, 3) := by decide +kernel
theorem dX4_fromLast_5 : decode cX4_fromLast 5 = .ok (.iload_n 1, 1) := by decide +kernel
theorem dX4_fromLast_6 : decode cX4_fromLast 6 = .ok (.iaload, 1) := by decide +kernel
theorem dX4_fromLast_7 : decode cX4_fromLast 7 = .ok (.if_icmp .ge 26, 3) := by decide +kernel
theorem dX4_fromLast_10 : decode cX4_fromLast 10 = .ok (.aload_n 0, 1) := by decide +kernel
theorem dX4_fromLast_11 : decode cX4_fromLast 11 = .ok (.getfield 18, 3) := by decide +kernel
theorem dX4_fromLast_14 : decode cX4_fromLast 14 = .ok (.iload_n 1, 1) := by decide +kernel
theorem dX4_fromLast_15 : decode cX4_fromLast 15 = .ok (.bipush 8, 2) := by decide +kernel
theorem dX4_fromLast_17 : decode cX4_fromLast 17 = .ok (.imul, 1) := by decide +kernel
theorem dX4_fromLast_18 : decode cX4_fromLast 18 = .ok (.aload_n 0, 1) := by decide +kernel
theorem dX4_fromLast_19 : decode cX4_fromLast 19 = .ok (.getfield 15, 3) := by decide +kernel
theorem dX4_fromLast_22 : decode cX4_fromLast 22 = .ok (.iload_n 1, 1) := by decide +kernel
theorem dX4_fromLast_23 : decode cX4_fromLast 23 = .ok (.iaload, 1) := by decide +kernel
theorem dX4_fromLast_24 : decode cX4_fromLast 24 = .ok (.iadd, 1) := by decide +kernel
theorem dX4_fromLast_25 : decode cX4_fromLast 25 = .ok (.iconst 1, 1) := by decide +kernel
theorem dX4_fromLast_26 : decode cX4_fromLast 26 = .ok (.isub, 1) := by decide +kernel
theorem dX4_fromLast_27 : decode cX4_fromLast 27 = .ok (.iload_n 2, 1) := by decide +kernel
theorem dX4_fromLast_28 : decode cX4_fromLast 28 = .ok (.isub, 1) := by decide +kernel
theorem dX4_fromLast_29 : decode cX4_fromLast 29 = .ok (.iaload, 1) := by decide +kernel
theorem dX4_fromLast_30 : decode cX4_fromLast 30 = .ok (.goto 4, 3) := by decide +kernel
theorem dX4_fromLast_33 : decode cX4_fromLast 33 = .ok (.iconst (-1), 1) := by decide +kernel
theorem dX4_fromLast_34 : decode cX4_fromLast 34 = .ok (.ireturn, 1) := by decide +kernel
set_option maxRecDepth 20000 in
theorem ggX5_init_X2_init : GoodIn wsX5_init wsX2_init := goodIn_r _ [26, 27, 2, 3, 28, 29, 58] (by decide +kernel) (by decide +kernel)
set_option maxRecDepth 20000 in
theorem ggX5_init_X3_init : GoodIn wsX5_init wsX3_init := goodIn_r _ [31, 32, 2, 3, 33, 34, 28, 35, 36, 37, 67, 68, 69, 70, 71] (by decide +kernel) (by decide +kernel)
set_option maxRecDepth 20000 in
theorem ggX5_init_X0_init : GoodIn wsX5_init wsX0_init := goodIn_r _ [39, 40, 2, 3, 33, 41, 42, 43, 44, 45, 72, 73, 74, 75, 76, 77] (by decide +kernel) (by decide +kernel)
set_option maxRecDepth 20000 in
theorem ggX5_init_X4_init : GoodIn wsX5_init wsX4_init := goodIn_r _ [47, 48, 2, 3, 33, 49, 50, 51, 78, 79, 80, 81] (by decide +kernel) (by decide +kernel)
set_option maxRecDepth 20000 in
theorem ggX5_init_X1_init : GoodIn wsX5_init wsX1_init := goodIn_r _ [53, 54, 2, 3, 33, 55, 56, 57, 82, 83, 84] (by decide +kernel) (by decide +kernel)
theorem dX5_init_0 : decode cX5_init 0 = .ok (.aload_n 0, 1) := by decide +kernel
theorem dX5_init_1 : decode cX5_init 1 = .ok (.invokespecial 1, 3) := by decide +kernel
theorem dX5_init_4 : decode cX5_init 4 = .ok (.aload_n 0, 1) := by decide +kernel
theorem dX5_init_5 : decode cX5_init 5 = .ok (.new 7, 3) := by decide +kernel
theorem dX5_init_8 : decode cX5_init 8 = .ok (.dup, 1) := by decide +kernel
theorem dX5_init_9 : decode cX5_init 9 = .ok (.invokespecial 9, 3) := by decide +kernel
theorem dX5_init_12 : decode cX5_init 12 = .ok (.putfield 10, 3) := by decide +kernel
theorem dX5_init_15 : decode cX5_init 15 = .ok (.aload_n 0, 1) := by decide +kernel
theorem dX5_init_16 : decode cX5_init 16 = .ok (.new 16, 3) := by decide +kernel
theorem dX5_init_19 : decode cX5_init 19 = .ok (.dup, 1) := by decide +kernel
theorem dX5_init_20 : decode cX5_init 20 = .ok (.invokespecial 18, 3) := by decide +kernel
theorem dX5_init_23 : decode cX5_init 23 = .ok (.putfield 19, 3) := by decide +kernel
theorem dX5_init_26 : decode cX5_init 26 = .ok (.aload_n 0, 1) := by decide +kernel
theorem dX5_init_27 : decode cX5_init 27 = .ok (.new 16, 3) := by decide +kernel
theorem dX5_init_30 : decode cX5_init 30 = .ok (.dup, 1) := by decide +kernel
theorem dX5_init_31 : decode cX5_init 31 = .ok (.invokespecial 18, 3) := by decide +kernel
theorem dX5_init_34 : decode cX5_init 34 = .ok (.putfield 23, 3) := by decide +kernel
theorem dX5_init_37 : decode cX5_init 37 = .ok (.aload_n 0, 1) := by decide +kernel
theorem dX5_init_38 : decode cX5_init 38 = .ok (.new 26, 3) := by decide +kernel
theorem dX5_init_41 : decode cX5_init 41 = .ok (.dup, 1) := by decide +kernel
theorem dX5_init_42 : decode cX5_init 42 = .ok (.invokespecial 28, 3) := by decide +kernel
theorem dX5_init_45 : decode cX5_init 45 = .ok (.putfield 29, 3) := by decide +kernel
theorem dX5_init_48 : decode cX5_init 48 = .ok (.aload_n 0, 1) := by decide +kernel
theorem dX5_init_49 : decode cX5_init 49 = .ok (.new 33, 3) := by decide +kernel
theorem dX5_init_52 : decode cX5_init 52 = .ok (.dup, 1) := by decide +kernel
theorem dX5_init_53 : decode cX5_init 53 = .ok (.invokespecial 35, 3) := by decide +kernel
theorem dX5_init_56 : decode cX5_init 56 = .ok (.putfield 36, 3) := by decide +kernel
theorem dX5_init_59 : decode cX5_init 59 = .ok (.aload_n 0, 1) := by decide +kernel
theorem dX5_init_60 : decode cX5_init 60 = .ok (.new 40, 3) := by decide +kernel
theorem dX5_init_63 : decode cX5_init 63 = .ok (.dup, 1) := by decide +kernel
theorem dX5_init_64 : decode cX5_init 64 = .ok (.invokespecial 42, 3) := by decide +kernel
theorem dX5_init_67 : decode cX5_init 67 = .ok (.putfield 43, 3) := by decide +kernel
theorem dX5_init_70 : decode cX5_init 70 = .ok (.return_, 1) := by decide +kernel
set_option maxRecDepth 20000 in
theorem ggX5_addTrain_X5_needBlock : GoodIn wsX5_addTrain wsX5_needBlock := goodIn_ca (goodIn_r _ [8, 9, 10] (by decide +kernel) (by decide +kernel)) (goodIn_sub (fun _ h => List.mem_cons_of_mem _ (List.mem_append_right _ h)) (by decide +kernel))
set_option maxRecDepth 20000 in
theorem gX5_addTrain_X5_needBlock : GoodIn wsX5_addTrain (va_wsS RX5 47 yX5_needBlock wsX5_needBlock) := goodIn_app (goodIn_of _ (by decide +kernel)) ggX5_addTrain_X5_needBlock
set_option maxRecDepth 20000 in
theorem ggX5_addTrain_X3_standingOn : GoodIn wsX5_addTrain wsX3_standingOn := goodIn_r _ [15, 16, 17, 31, 32, 33, 34, 35] (by decide +kernel) (by decide +kernel)
set_option maxRecDepth 20000 in
theorem gX5_addTrain_X3_standingOn : GoodIn wsX5_addTrain (wsV RX5 62 RX3 yX3_standingOn wsX3_standingOn) := goodIn_app (goodIn_of _ (by decide +kernel)) ggX5_addTrain_X3_standingOn
set_option maxRecDepth 20000 in
theorem ggX5_addTrain_X3_add : GoodIn wsX5_addTrain wsX3_add := goodIn_r _ [21, 16, 17, 22, 31, 32, 33, 34, 35] (by decide +kernel) (by decide +kernel)
set_option maxRecDepth 20000 in
theorem gX5_addTrain_X3_add : GoodIn wsX5_addTrain (wsV RX5 68 RX3 yX3_add wsX3_add) := goodIn_app (goodIn_of _ (by decide +kernel)) ggX5_addTrain_X3_add
theorem dX5_addTrain_0 : decode cX5_addTrain 0 = .ok (.iload_n 1, 1) := by decide +kernel
theorem dX5_addTrain_1 : decode cX5_addTrain 1 = .ok (.invokestatic 47, 3) := by decide +kernel
theorem dX5_addTrain_4 : decode cX5_addTrain 4 = .ok (.aload_n 0, 1) := by decide +kernel
theorem dX5_addTrain_5 : decode cX5_addTrain 5 = .ok (.getfield 19, 3) := by decide +kernel
theorem dX5_addTrain_8 : decode cX5_addTrain 8 = .ok (.getfield 51, 3) := by decide +kernel
theorem dX5_addTrain_11 : decode cX5_addTrain 11 = .ok (.iconst 4, 1) := by decide +kernel
theorem dX5_addTrain_12 : decode cX5_addTrain 12 = .ok (.if_icmp .lt 13, 3) := by decide +kernel
theorem dX5_addTrain_15 : decode cX5_addTrain 15 = .ok (.new 55, 3) := by decide +kernel
theorem dX5_addTrain_18 : decode cX5_addTrain 18 = .ok (.dup, 1) := by decide +kernel
theorem dX5_addTrain_19 : decode cX5_addTrain 19 = .ok (.ldc 57, 2) := by decide +kernel
theorem dX5_addTrain_21 : decode cX5_addTrain 21 = .ok (.invokespecial 59, 3) := by decide +kernel
theorem dX5_addTrain_24 : decode cX5_addTrain 24 = .ok (.athrow, 1) := by decide +kernel
theorem dX5_addTrain_25 : decode cX5_addTrain 25 = .ok (.aload_n 0, 1) := by decide +kernel
theorem dX5_addTrain_26 : decode cX5_addTrain 26 = .ok (.getfield 19, 3) := by decide +kernel
theorem dX5_addTrain_29 : decode cX5_addTrain 29 = .ok (.iload_n 1, 1) := by decide +kernel
theorem dX5_addTrain_30 : decode cX5_addTrain 30 = .ok (.invokevirtual 62, 3) := by decide +kernel
theorem dX5_addTrain_33 : decode cX5_addTrain 33 = .ok (.iconst (-1), 1) := by decide +kernel
theorem dX5_addTrain_34 : decode cX5_addTrain 34 = .ok (.if_icmp .eq 13, 3) := by decide +kernel
theorem dX5_addTrain_37 : decode cX5_addTrain 37 = .ok (.new 55, 3) := by decide +kernel
theorem dX5_addTrain_40 : decode cX5_addTrain 40 = .ok (.dup, 1) := by decide +kernel
theorem dX5_addTrain_41 : decode cX5_addTrain 41 = .ok (.ldc 66, 2) := by decide +kernel
theorem dX5_addTrain_43 : decode cX5_addTrain 43 = .ok (.invokespecial 59, 3) := by decide +kernel
theorem dX5_addTrain_46 : decode cX5_addTrain 46 = .ok (.athrow, 1) := by decide +kernel
theorem dX5_addTrain_47 : decode cX5_addTrain 47 = .ok (.aload_n 0, 1) := by decide +kernel
theorem dX5_addTrain_48 : decode cX5_addTrain 48 = .ok (.getfield 19, 3) := by decide +kernel
theorem dX5_addTrain_51 : decode cX5_addTrain 51 = .ok (.iload_n 1, 1) := by decide +kernel
theorem dX5_addTrain_52 : decode cX5_addTrain 52 = .ok (.iload_n 2, 1) := by decide +kernel
theorem dX5_addTrain_53 : decode cX5_addTrain 53 = .ok (.invokevirtual 68, 3) := by decide +kernel
theorem dX5_addTrain_56 : decode cX5_addTrain 56 = .ok (.ireturn, 1) := by decide +kernel
set_option maxRecDepth 20000 in
theorem ggX5_block_X5_needTrain : GoodIn wsX5_block wsX5_needTrain := goodIn_ca (goodIn_r _ [7, 8, 9, 1, 10, 11, 12, 13, 14, 15, 16, 17, 18, 19, 20, 21, 22, 23] (by decide +kernel) (by decide +kernel)) (goodIn_sub (fun _ h => List.mem_cons_of_mem _ (List.mem_append_right _ h)) (by decide +kernel))
set_option maxRecDepth 20000 in
theorem gX5_block_X5_needTrain : GoodIn wsX5_block (wsV RX5 72 RX5 yX5_needTrain wsX5_needTrain) := goodIn_app (goodIn_of _ (by decide +kernel)) ggX5_block_X5_needTrain
theorem dX5_block_0 : decode cX5_block 0 = .ok (.aload_n 0, 1) := by decide +kernel
theorem dX5_block_1 : decode cX5_block 1 = .ok (.iload_n 1, 1) := by decide +kernel
theorem dX5_block_2 : decode cX5_block 2 = .ok (.invokevirtual 72, 3) := by decide +kernel
theorem dX5_block_5 : decode cX5_block 5 = .ok (.aload_n 0, 1) := by decide +kernel
theorem dX5_block_6 : decode cX5_block 6 = .ok (.getfield 19, 3) := by decide +kernel
theorem dX5_block_9 : decode cX5_block 9 = .ok (.getfield 103, 3) := by decide +kernel
theorem dX5_block_12 : decode cX5_block 12 = .ok (.iload_n 1, 1) := by decide +kernel
theorem dX5_block_13 : decode cX5_block 13 = .ok (.iaload, 1) := by decide +kernel
theorem dX5_block_14 : decode cX5_block 14 = .ok (.ireturn, 1) := by decide +kernel
set_option maxRecDepth 20000 in
theorem ggX5_isRight_X5_needTrain : GoodIn wsX5_isRight wsX5_needTrain := goodIn_ca (goodIn_r _ [7, 8, 9, 1, 10, 11, 12, 13, 14, 15, 16, 17, 18, 19, 20, 21, 22, 23] (by decide +kernel) (by decide +kernel)) (goodIn_sub (fun _ h => List.mem_cons_of_mem _ (List.mem_append_right _ h)) (by decide +kernel))
set_option maxRecDepth 20000 in
theorem gX5_isRight_X5_needTrain : GoodIn wsX5_isRight (wsV RX5 72 RX5 yX5_needTrain wsX5_needTrain) := goodIn_app (goodIn_of _ (by decide +kernel)) ggX5_isRight_X5_needTrain
theorem dX5_isRight_0 : decode cX5_isRight 0 = .ok (.aload_n 0, 1) := by decide +kernel
theorem dX5_isRight_1 : decode cX5_isRight 1 = .ok (.iload_n 1, 1) := by decide +kernel
theorem dX5_isRight_2 : decode cX5_isRight 2 = .ok (.invokevirtual 72, 3) := by decide +kernel
theorem dX5_isRight_5 : decode cX5_isRight 5 = .ok (.aload_n 0, 1) := by decide +kernel
theorem dX5_isRight_6 : decode cX5_isRight 6 = .ok (.getfield 19, 3) := by decide +kernel
theorem dX5_isRight_9 : decode cX5_isRight 9 = .ok (.getfield 106, 3) := by decide +kernel
theorem dX5_isRight_12 : decode cX5_isRight 12 = .ok (.iload_n 1, 1) := by decide +kernel
theorem dX5_isRight_13 : decode cX5_isRight 13 = .ok (.baload, 1) := by decide +kernel
theorem dX5_isRight_14 : decode cX5_isRight 14 = .ok (.ireturn, 1) := by decide +kernel
set_option maxRecDepth 20000 in
theorem ggX5_trainOn_X5_needBlock : GoodIn wsX5_trainOn wsX5_needBlock := goodIn_ca (goodIn_r _ [5, 6, 7] (by decide +kernel) (by decide +kernel)) (goodIn_sub (fun _ h => List.mem_cons_of_mem _ (List.mem_append_right _ h)) (by decide +kernel))
set_option maxRecDepth 20000 in
theorem gX5_trainOn_X5_needBlock : GoodIn wsX5_trainOn (va_wsS RX5 47 yX5_needBlock wsX5_needBlock) := goodIn_app (goodIn_of _ (by decide +kernel)) ggX5_trainOn_X5_needBlock
set_option maxRecDepth 20000 in
theorem ggX5_trainOn_X3_standingOn : GoodIn wsX5_trainOn wsX3_standingOn := goodIn_r _ [12, 13, 14, 23, 24, 25, 26, 27] (by decide +kernel) (by decide +kernel)
set_option maxRecDepth 20000 in
theorem gX5_trainOn_X3_standingOn : GoodIn wsX5_trainOn (wsV RX5 62 RX3 yX3_standingOn wsX3_standingOn) := goodIn_app (goodIn_of _ (by decide +kernel)) ggX5_trainOn_X3_standingOn
theorem dX5_trainOn_0 : decode cX5_trainOn 0 = .ok (.iload_n 1, 1) := by decide +kernel
theorem dX5_trainOn_1 : decode cX5_trainOn 1 = .ok (.invokestatic 47, 3) := by decide +kernel
theorem dX5_trainOn_4 : decode cX5_trainOn 4 = .ok (.aload_n 0, 1) := by decide +kernel
theorem dX5_trainOn_5 : decode cX5_trainOn 5 = .ok (.getfield 19, 3) := by decide +kernel
theorem dX5_trainOn_8 : decode cX5_trainOn 8 = .ok (.iload_n 1, 1) := by decide +kernel
theorem dX5_trainOn_9 : decode cX5_trainOn 9 = .ok (.invokevirtual 62, 3) := by decide +kernel
theorem dX5_trainOn_12 : decode cX5_trainOn 12 = .ok (.ireturn, 1) := by decide +kernel
theorem dX5_clock_0 : decode cX5_clock 0 = .ok (.aload_n 0, 1) := by decide +kernel
theorem dX5_clock_1 : decode cX5_clock 1 = .ok (.getfield 109, 3) := by decide +kernel
theorem dX5_clock_4 : decode cX5_clock 4 = .ok (.ireturn, 1) := by decide +kernel
set_option maxRecDepth 20000 in
theorem ggX5_canBook_X5_needTrain : GoodIn wsX5_canBook wsX5_needTrain := goodIn_ca (goodIn_r _ [6, 7, 8, 9, 10, 29, 30, 31, 32, 33, 34, 35, 36, 37, 38, 39, 40, 41] (by decide +kernel) (by decide +kernel)) (goodIn_sub (fun _ h => List.mem_cons_of_mem _ (List.mem_append_left _ (List.mem_append_right _ h))) (by decide +kernel))
set_option maxRecDepth 20000 in
theorem gX5_canBook_X5_needTrain : GoodIn wsX5_canBook (wsV RX5 72 RX5 yX5_needTrain wsX5_needTrain) := goodIn_app (goodIn_of _ (by decide +kernel)) ggX5_canBook_X5_needTrain
set_option maxRecDepth 20000 in
theorem ggX5_canBook_X5_needBlock : GoodIn wsX5_canBook wsX5_needBlock := goodIn_ca (goodIn_r _ [13, 7, 8] (by decide +kernel) (by decide +kernel)) (goodIn_sub (fun _ h => List.mem_cons_of_mem _ (List.mem_append_left _ (List.mem_append_right _ h))) (by decide +kernel))
set_option maxRecDepth 20000 in
theorem gX5_canBook_X5_needBlock : GoodIn wsX5_canBook (va_wsS RX5 47 yX5_needBlock wsX5_needBlock) := goodIn_app (goodIn_of _ (by decide +kernel)) ggX5_canBook_X5_needBlock
set_option maxRecDepth 20000 in
theorem ggX5_canBook_X5_needSpan : GoodIn wsX5_canBook wsX5_needSpan := goodIn_ca (goodIn_r _ [16, 17, 18] (by decide +kernel) (by decide +kernel)) (goodIn_sub (fun _ h => List.mem_cons_of_mem _ (List.mem_append_right _ h)) (by decide +kernel))
set_option maxRecDepth 20000 in
theorem gX5_canBook_X5_needSpan : GoodIn wsX5_canBook (va_wsS RX5 126 yX5_needSpan wsX5_needSpan) := goodIn_app (goodIn_of _ (by decide +kernel)) ggX5_canBook_X5_needSpan
set_option maxRecDepth 20000 in
theorem ggX5_canBook_X0_meetsAnother : GoodIn wsX5_canBook wsX0_meetsAnother := goodIn_r _ [23, 24, 25, 26, 27, 28, 42, 43, 44, 45, 46, 47] (by decide +kernel) (by decide +kernel)
set_option maxRecDepth 20000 in
theorem gX5_canBook_X0_meetsAnother : GoodIn wsX5_canBook (wsV RX5 133 RX0 yX0_meetsAnother wsX0_meetsAnother) := goodIn_app (goodIn_of _ (by decide +kernel)) ggX5_canBook_X0_meetsAnother
theorem dX5_canBook_0 : decode cX5_canBook 0 = .ok (.aload_n 0, 1) := by decide +kernel
theorem dX5_canBook_1 : decode cX5_canBook 1 = .ok (.iload_n 1, 1) := by decide +kernel
theorem dX5_canBook_2 : decode cX5_canBook 2 = .ok (.invokevirtual 72, 3) := by decide +kernel
theorem dX5_canBook_5 : decode cX5_canBook 5 = .ok (.iload_n 2, 1) := by decide +kernel
theorem dX5_canBook_6 : decode cX5_canBook 6 = .ok (.invokestatic 47, 3) := by decide +kernel
theorem dX5_canBook_9 : decode cX5_canBook 9 = .ok (.iconst 0, 1) := by decide +kernel
theorem dX5_canBook_10 : decode cX5_canBook 10 = .ok (.iload_n 3, 1) := by decide +kernel
theorem dX5_canBook_11 : decode cX5_canBook 11 = .ok (.iload 4, 2) := by decide +kernel
theorem dX5_canBook_13 : decode cX5_canBook 13 = .ok (.invokestatic 126, 3) := by decide +kernel
theorem dX5_canBook_16 : decode cX5_canBook 16 = .ok (.aload_n 0, 1) := by decide +kernel
theorem dX5_canBook_17 : decode cX5_canBook 17 = .ok (.getfield 29, 3) := by decide +kernel
theorem dX5_canBook_20 : decode cX5_canBook 20 = .ok (.iload_n 1, 1) := by decide +kernel
theorem dX5_canBook_21 : decode cX5_canBook 21 = .ok (.iload_n 2, 1) := by decide +kernel
theorem dX5_canBook_22 : decode cX5_canBook 22 = .ok (.iload_n 3, 1) := by decide +kernel
theorem dX5_canBook_23 : decode cX5_canBook 23 = .ok (.iload 4, 2) := by decide +kernel
theorem dX5_canBook_25 : decode cX5_canBook 25 = .ok (.invokevirtual 133, 3) := by decide +kernel
theorem dX5_canBook_28 : decode cX5_canBook 28 = .ok (.ifCond .ne 7, 3) := by decide +kernel
theorem dX5_canBook_31 : decode cX5_canBook 31 = .ok (.iconst 1, 1) := by decide +kernel
theorem dX5_canBook_32 : decode cX5_canBook 32 = .ok (.goto 4, 3) := by decide +kernel
theorem dX5_canBook_35 : decode cX5_canBook 35 = .ok (.iconst 0, 1) := by decide +kernel
theorem dX5_canBook_36 : decode cX5_canBook 36 = .ok (.ireturn, 1) := by decide +kernel
set_option maxRecDepth 20000 in
theorem ggX5_booking_X5_needBooking : GoodIn wsX5_booking wsX5_needBooking := goodIn_ca (goodIn_r _ [9, 10, 11, 1, 12, 13, 14, 15, 16, 17, 18, 19, 20, 21, 22, 23, 24, 25, 26] (by decide +kernel) (by decide +kernel)) (goodIn_sub (fun _ h => List.mem_cons_of_mem _ (List.mem_append_right _ h)) (by decide +kernel))
set_option maxRecDepth 20000 in
theorem gX5_booking_X5_needBooking : GoodIn wsX5_booking (wsV RX5 144 RX5 yX5_needBooking wsX5_needBooking) := goodIn_app (goodIn_of _ (by decide +kernel)) ggX5_booking_X5_needBooking
theorem dX5_booking_0 : decode cX5_booking 0 = .ok (.aload_n 0, 1) := by decide +kernel
theorem dX5_booking_1 : decode cX5_booking 1 = .ok (.iload_n 1, 1) := by decide +kernel
theorem dX5_booking_2 : decode cX5_booking 2 = .ok (.invokevirtual 144, 3) := by decide +kernel
theorem dX5_booking_5 : decode cX5_booking 5 = .ok (.aload_n 0, 1) := by decide +kernel
theorem dX5_booking_6 : decode cX5_booking 6 = .ok (.getfield 29, 3) := by decide +kernel
theorem dX5_booking_9 : decode cX5_booking 9 = .ok (.getfield 147, 3) := by decide +kernel
theorem dX5_booking_12 : decode cX5_booking 12 = .ok (.iload_n 1, 1) := by decide +kernel
theorem dX5_booking_13 : decode cX5_booking 13 = .ok (.iaload, 1) := by decide +kernel
theorem dX5_booking_14 : decode cX5_booking 14 = .ok (.iconst (-1), 1) := by decide +kernel
theorem dX5_booking_15 : decode cX5_booking 15 = .ok (.if_icmp .eq 5, 3) := by decide +kernel
theorem dX5_booking_18 : decode cX5_booking 18 = .ok (.iconst 1, 1) := by decide +kernel
theorem dX5_booking_19 : decode cX5_booking 19 = .ok (.ireturn, 1) := by decide +kernel
theorem dX5_booking_20 : decode cX5_booking 20 = .ok (.aload_n 0, 1) := by decide +kernel
theorem dX5_booking_21 : decode cX5_booking 21 = .ok (.getfield 29, 3) := by decide +kernel
theorem dX5_booking_24 : decode cX5_booking 24 = .ok (.getfield 150, 3) := by decide +kernel
theorem dX5_booking_27 : decode cX5_booking 27 = .ok (.iload_n 1, 1) := by decide +kernel
theorem dX5_booking_28 : decode cX5_booking 28 = .ok (.iaload, 1) := by decide +kernel
theorem dX5_booking_29 : decode cX5_booking 29 = .ok (.aload_n 0, 1) := by decide +kernel
theorem dX5_booking_30 : decode cX5_booking 30 = .ok (.getfield 109, 3) := by decide +kernel
theorem dX5_booking_33 : decode cX5_booking 33 = .ok (.if_icmp .ge 7, 3) := by decide +kernel
theorem dX5_booking_36 : decode cX5_booking 36 = .ok (.iconst 2, 1) := by decide +kernel
theorem dX5_booking_37 : decode cX5_booking 37 = .ok (.goto 4, 3) := by decide +kernel
theorem dX5_booking_40 : decode cX5_booking 40 = .ok (.iconst 0, 1) := by decide +kernel
theorem dX5_booking_41 : decode cX5_booking 41 = .ok (.ireturn, 1) := by decide +kernel
set_option maxRecDepth 20000 in
theorem ggX5_late_X5_needBooking : GoodIn wsX5_late wsX5_needBooking := goodIn_ca (goodIn_r _ [7, 8, 9, 1, 10, 11, 12, 13, 14, 15, 16, 17, 18, 19, 20, 21, 22, 23, 24] (by decide +kernel) (by decide +kernel)) (goodIn_sub (fun _ h => List.mem_cons_of_mem _ (List.mem_append_right _ h)) (by decide +kernel))
set_option maxRecDepth 20000 in
theorem gX5_late_X5_needBooking : GoodIn wsX5_late (wsV RX5 144 RX5 yX5_needBooking wsX5_needBooking) := goodIn_app (goodIn_of _ (by decide +kernel)) ggX5_late_X5_needBooking
theorem dX5_late_0 : decode cX5_late 0 = .ok (.aload_n 0, 1) := by decide +kernel
theorem dX5_late_1 : decode cX5_late 1 = .ok (.iload_n 1, 1) := by decide +kernel
theorem dX5_late_2 : decode cX5_late 2 = .ok (.invokevirtual 144, 3) := by decide +kernel
theorem dX5_late_5 : decode cX5_late 5 = .ok (.aload_n 0, 1) := by decide +kernel
theorem dX5_late_6 : decode cX5_late 6 = .ok (.getfield 29, 3) := by decide +kernel
theorem dX5_late_9 : decode cX5_late 9 = .ok (.getfield 147, 3) := by decide +kernel
theorem dX5_late_12 : decode cX5_late 12 = .ok (.iload_n 1, 1) := by decide +kernel
theorem dX5_late_13 : decode cX5_late 13 = .ok (.iaload, 1) := by decide +kernel
theorem dX5_late_14 : decode cX5_late 14 = .ok (.ireturn, 1) := by decide +kernel
set_option maxRecDepth 20000 in
theorem ggX5_waggonAt_X5_isSiding : GoodIn wsX5_waggonAt wsX5_isSiding := goodIn_r _ [9] (by decide +kernel) (by decide +kernel)
set_option maxRecDepth 20000 in
theorem gX5_waggonAt_X5_isSiding : GoodIn wsX5_waggonAt (va_wsS RX5 212 yX5_isSiding wsX5_isSiding) := goodIn_app (goodIn_of _ (by decide +kernel)) ggX5_waggonAt_X5_isSiding
set_option maxRecDepth 20000 in
theorem ggX5_waggonAt_X4_rowOfSiding : GoodIn wsX5_waggonAt wsX4_rowOfSiding := goodIn_r _ [13] (by decide +kernel) (by decide +kernel)
set_option maxRecDepth 20000 in
theorem gX5_waggonAt_X4_rowOfSiding : GoodIn wsX5_waggonAt (va_wsS RX5 164 yX4_rowOfSiding wsX4_rowOfSiding) := goodIn_app (goodIn_of _ (by decide +kernel)) ggX5_waggonAt_X4_rowOfSiding
set_option maxRecDepth 20000 in
theorem ggX5_waggonAt_X4_fromLast : GoodIn wsX5_waggonAt wsX4_fromLast := goodIn_r _ [17, 18, 19, 40, 41, 42, 43] (by decide +kernel) (by decide +kernel)
set_option maxRecDepth 20000 in
theorem gX5_waggonAt_X4_fromLast : GoodIn wsX5_waggonAt (wsV RX5 219 RX4 yX4_fromLast wsX4_fromLast) := goodIn_app (goodIn_of _ (by decide +kernel)) ggX5_waggonAt_X4_fromLast
set_option maxRecDepth 20000 in
theorem ggX5_waggonAt_X4_rowOfTrain : GoodIn wsX5_waggonAt wsX4_rowOfTrain := goodIn_r _ [22] (by decide +kernel) (by decide +kernel)
set_option maxRecDepth 20000 in
theorem gX5_waggonAt_X4_rowOfTrain : GoodIn wsX5_waggonAt (va_wsS RX5 183 yX4_rowOfTrain wsX4_rowOfTrain) := goodIn_app (goodIn_of _ (by decide +kernel)) ggX5_waggonAt_X4_rowOfTrain
set_option maxRecDepth 20000 in
theorem ggX5_waggonAt_X4_fromFirst : GoodIn wsX5_waggonAt wsX4_fromFirst := goodIn_r _ [26, 18, 19, 40, 41, 42, 43] (by decide +kernel) (by decide +kernel)
set_option maxRecDepth 20000 in
theorem gX5_waggonAt_X4_fromFirst : GoodIn wsX5_waggonAt (wsV RX5 222 RX4 yX4_fromFirst wsX4_fromFirst) := goodIn_app (goodIn_of _ (by decide +kernel)) ggX5_waggonAt_X4_fromFirst
theorem dX5_waggonAt_0 : decode cX5_waggonAt 0 = .ok (.iload_n 1, 1) := by decide +kernel
theorem dX5_waggonAt_1 : decode cX5_waggonAt 1 = .ok (.invokestatic 212, 3) := by decide +kernel
theorem dX5_waggonAt_4 : decode cX5_waggonAt 4 = .ok (.istore_n 3, 1) := by decide +kernel
theorem dX5_waggonAt_5 : decode cX5_waggonAt 5 = .ok (.iload_n 3, 1) := by decide +kernel
theorem dX5_waggonAt_6 : decode cX5_waggonAt 6 = .ok (.ifCond .ne 33, 3) := by decide +kernel
theorem dX5_waggonAt_9 : decode cX5_waggonAt 9 = .ok (.iload_n 1, 1) := by decide +kernel
theorem dX5_waggonAt_10 : decode cX5_waggonAt 10 = .ok (.bipush 10, 2) := by decide +kernel
theorem dX5_waggonAt_12 : decode cX5_waggonAt 12 = .ok (.if_icmp .lt 17, 3) := by decide +kernel
theorem dX5_waggonAt_15 : decode cX5_waggonAt 15 = .ok (.iload_n 1, 1) := by decide +kernel
theorem dX5_waggonAt_16 : decode cX5_waggonAt 16 = .ok (.bipush 10, 2) := by decide +kernel
theorem dX5_waggonAt_18 : decode cX5_waggonAt 18 = .ok (.aload_n 0, 1) := by decide +kernel
theorem dX5_waggonAt_19 : decode cX5_waggonAt 19 = .ok (.getfield 19, 3) := by decide +kernel
theorem dX5_waggonAt_22 : decode cX5_waggonAt 22 = .ok (.getfield 51, 3) := by decide +kernel
theorem dX5_waggonAt_25 : decode cX5_waggonAt 25 = .ok (.iadd, 1) := by decide +kernel
theorem dX5_waggonAt_26 : decode cX5_waggonAt 26 = .ok (.if_icmp .lt 13, 3) := by decide +kernel
theorem dX5_waggonAt_29 : decode cX5_waggonAt 29 = .ok (.new 95, 3) := by decide +kernel
theorem dX5_waggonAt_32 : decode cX5_waggonAt 32 = .ok (.dup, 1) := by decide +kernel
theorem dX5_waggonAt_33 : decode cX5_waggonAt 33 = .ok (.ldc 215, 2) := by decide +kernel
theorem dX5_waggonAt_35 : decode cX5_waggonAt 35 = .ok (.invokespecial 99, 3) := by decide +kernel
theorem dX5_waggonAt_38 : decode cX5_waggonAt 38 = .ok (.athrow, 1) := by decide +kernel
theorem dX5_waggonAt_39 : decode cX5_waggonAt 39 = .ok (.iload_n 2, 1) := by decide +kernel
theorem dX5_waggonAt_40 : decode cX5_waggonAt 40 = .ok (.ifCond .ge 13, 3) := by decide +kernel
theorem dX5_waggonAt_43 : decode cX5_waggonAt 43 = .ok (.new 95, 3) := by decide +kernel
theorem dX5_waggonAt_46 : decode cX5_waggonAt 46 = .ok (.dup, 1) := by decide +kernel
theorem dX5_waggonAt_47 : decode cX5_waggonAt 47 = .ok (.ldc 217, 2) := by decide +kernel
theorem dX5_waggonAt_49 : decode cX5_waggonAt 49 = .ok (.invokespecial 99, 3) := by decide +kernel
theorem dX5_waggonAt_52 : decode cX5_waggonAt 52 = .ok (.athrow, 1) := by decide +kernel
theorem dX5_waggonAt_53 : decode cX5_waggonAt 53 = .ok (.iload_n 3, 1) := by decide +kernel
theorem dX5_waggonAt_54 : decode cX5_waggonAt 54 = .ok (.ifCond .eq 16, 3) := by decide +kernel
theorem dX5_waggonAt_57 : decode cX5_waggonAt 57 = .ok (.aload_n 0, 1) := by decide +kernel
theorem dX5_waggonAt_58 : decode cX5_waggonAt 58 = .ok (.getfield 36, 3) := by decide +kernel
theorem dX5_waggonAt_61 : decode cX5_waggonAt 61 = .ok (.iload_n 1, 1) := by decide +kernel
theorem dX5_waggonAt_62 : decode cX5_waggonAt 62 = .ok (.invokestatic 164, 3) := by decide +kernel
theorem dX5_waggonAt_65 : decode cX5_waggonAt 65 = .ok (.iload_n 2, 1) := by decide +kernel
theorem dX5_waggonAt_66 : decode cX5_waggonAt 66 = .ok (.invokevirtual 219, 3) := by decide +kernel
theorem dX5_waggonAt_69 : decode cX5_waggonAt 69 = .ok (.ireturn, 1) := by decide +kernel
theorem dX5_waggonAt_70 : decode cX5_waggonAt 70 = .ok (.aload_n 0, 1) := by decide +kernel
theorem dX5_waggonAt_71 : decode cX5_waggonAt 71 = .ok (.getfield 36, 3) := by decide +kernel
theorem dX5_waggonAt_74 : decode cX5_waggonAt 74 = .ok (.iload_n 1, 1) := by decide +kernel
theorem dX5_waggonAt_75 : decode cX5_waggonAt 75 = .ok (.bipush 10, 2) := by decide +kernel
theorem dX5_waggonAt_77 : decode cX5_waggonAt 77 = .ok (.isub, 1) := by decide +kernel
theorem dX5_waggonAt_78 : decode cX5_waggonAt 78 = .ok (.invokestatic 183, 3) := by decide +kernel
theorem dX5_waggonAt_81 : decode cX5_waggonAt 81 = .ok (.iload_n 2, 1) := by decide +kernel
theorem dX5_waggonAt_82 : decode cX5_waggonAt 82 = .ok (.invokevirtual 222, 3) := by decide +kernel
theorem dX5_waggonAt_85 : decode cX5_waggonAt 85 = .ok (.ireturn, 1) := by decide +kernel
theorem dX5_earned_0 : decode cX5_earned 0 = .ok (.aload_n 0, 1) := by decide +kernel
theorem dX5_earned_1 : decode cX5_earned 1 = .ok (.getfield 209, 3) := by decide +kernel
theorem dX5_earned_4 : decode cX5_earned 4 = .ok (.ireturn, 1) := by decide +kernel
theorem dX5_needTrain_0 : decode cX5_needTrain 0 = .ok (.iload_n 1, 1) := by decide +kernel
theorem dX5_needTrain_1 : decode cX5_needTrain 1 = .ok (.ifCond .lt 14, 3) := by decide +kernel
theorem dX5_needTrain_4 : decode cX5_needTrain 4 = .ok (.iload_n 1, 1) := by decide +kernel
theorem dX5_needTrain_5 : decode cX5_needTrain 5 = .ok (.aload_n 0, 1) := by decide +kernel
theorem dX5_needTrain_6 : decode cX5_needTrain 6 = .ok (.getfield 19, 3) := by decide +kernel
theorem dX5_needTrain_9 : decode cX5_needTrain 9 = .ok (.getfield 51, 3) := by decide +kernel
theorem dX5_needTrain_12 : decode cX5_needTrain 12 = .ok (.if_icmp .lt 13, 3) := by decide +kernel
theorem dX5_needTrain_15 : decode cX5_needTrain 15 = .ok (.new 95, 3) := by decide +kernel
theorem dX5_needTrain_18 : decode cX5_needTrain 18 = .ok (.dup, 1) := by decide +kernel
theorem dX5_needTrain_19 : decode cX5_needTrain 19 = .ok (.ldc 225, 2) := by decide +kernel
theorem dX5_needTrain_21 : decode cX5_needTrain 21 = .ok (.invokespecial 99, 3) := by decide +kernel
theorem dX5_needTrain_24 : decode cX5_needTrain 24 = .ok (.athrow, 1) := by decide +kernel
theorem dX5_needTrain_25 : decode cX5_needTrain 25 = .ok (.return_, 1) := by decide +kernel
theorem dX5_needBooking_0 : decode cX5_needBooking 0 = .ok (.iload_n 1, 1) := by decide +kernel
theorem dX5_needBooking_1 : decode cX5_needBooking 1 = .ok (.ifCond .lt 14, 3) := by decide +kernel
theorem dX5_needBooking_4 : decode cX5_needBooking 4 = .ok (.iload_n 1, 1) := by decide +kernel
theorem dX5_needBooking_5 : decode cX5_needBooking 5 = .ok (.aload_n 0, 1) := by decide +kernel
theorem dX5_needBooking_6 : decode cX5_needBooking 6 = .ok (.getfield 29, 3) := by decide +kernel
theorem dX5_needBooking_9 : decode cX5_needBooking 9 = .ok (.getfield 130, 3) := by decide +kernel
theorem dX5_needBooking_12 : decode cX5_needBooking 12 = .ok (.if_icmp .lt 13, 3) := by decide +kernel
theorem dX5_needBooking_15 : decode cX5_needBooking 15 = .ok (.new 95, 3) := by decide +kernel
theorem dX5_needBooking_18 : decode cX5_needBooking 18 = .ok (.dup, 1) := by decide +kernel
theorem dX5_needBooking_19 : decode cX5_needBooking 19 = .ok (.ldc 227, 2) := by decide +kernel
theorem dX5_needBooking_21 : decode cX5_needBooking 21 = .ok (.invokespecial 99, 3) := by decide +kernel
theorem dX5_needBooking_24 : decode cX5_needBooking 24 = .ok (.athrow, 1) := by decide +kernel
theorem dX5_needBooking_25 : decode cX5_needBooking 25 = .ok (.return_, 1) := by decide +kernel
theorem dX5_needBlock_0 : decode cX5_needBlock 0 = .ok (.iload_n 0, 1) := by decide +kernel
theorem dX5_needBlock_1 : decode cX5_needBlock 1 = .ok (.ifCond .lt 9, 3) := by decide +kernel
theorem dX5_needBlock_4 : decode cX5_needBlock 4 = .ok (.iload_n 0, 1) := by decide +kernel
theorem dX5_needBlock_5 : decode cX5_needBlock 5 = .ok (.bipush 8, 2) := by decide +kernel
theorem dX5_needBlock_7 : decode cX5_needBlock 7 = .ok (.if_icmp .lt 13, 3) := by decide +kernel
theorem dX5_needBlock_10 : decode cX5_needBlock 10 = .ok (.new 95, 3) := by decide +kernel
theorem dX5_needBlock_13 : decode cX5_needBlock 13 = .ok (.dup, 1) := by decide +kernel
theorem dX5_needBlock_14 : decode cX5_needBlock 14 = .ok (.ldc 229, 2) := by decide +kernel
theorem dX5_needBlock_16 : decode cX5_needBlock 16 = .ok (.invokespecial 99, 3) := by decide +kernel
theorem dX5_needBlock_19 : decode cX5_needBlock 19 = .ok (.athrow, 1) := by decide +kernel
theorem dX5_needBlock_20 : decode cX5_needBlock 20 = .ok (.return_, 1) := by decide +kernel
theorem dX5_isSiding_0 : decode cX5_isSiding 0 = .ok (.iload_n 0, 1) := by decide +kernel
theorem dX5_isSiding_1 : decode cX5_isSiding 1 = .ok (.bipush 6, 2) := by decide +kernel
theorem dX5_isSiding_3 : decode cX5_isSiding 3 = .ok (.if_icmp .lt 13, 3) := by decide +kernel
theorem dX5_isSiding_6 : decode cX5_isSiding 6 = .ok (.iload_n 0, 1) := by decide +kernel
theorem dX5_isSiding_7 : decode cX5_isSiding 7 = .ok (.bipush 8, 2) := by decide +kernel
theorem dX5_isSiding_9 : decode cX5_isSiding 9 = .ok (.if_icmp .ge 7, 3) := by decide +kernel
theorem dX5_isSiding_12 : decode cX5_isSiding 12 = .ok (.iconst 1, 1) := by decide +kernel
theorem dX5_isSiding_13 : decode cX5_isSiding 13 = .ok (.goto 4, 3) := by decide +kernel
theorem dX5_isSiding_16 : decode cX5_isSiding 16 = .ok (.iconst 0, 1) := by decide +kernel
theorem dX5_isSiding_17 : decode cX5_isSiding 17 = .ok (.ireturn, 1) := by decide +kernel
theorem dX5_needSpan_0 : decode cX5_needSpan 0 = .ok (.iload_n 1, 1) := by decide +kernel
theorem dX5_needSpan_1 : decode cX5_needSpan 1 = .ok (.iload_n 0, 1) := by decide +kernel
theorem dX5_needSpan_2 : decode cX5_needSpan 2 = .ok (.if_icmp .lt 10, 3) := by decide +kernel
theorem dX5_needSpan_5 : decode cX5_needSpan 5 = .ok (.iload_n 1, 1) := by decide +kernel
theorem dX5_needSpan_6 : decode cX5_needSpan 6 = .ok (.sipush 5000, 3) := by decide +kernel
theorem dX5_needSpan_9 : decode cX5_needSpan 9 = .ok (.if_icmp .le 13, 3) := by decide +kernel
theorem dX5_needSpan_12 : decode cX5_needSpan 12 = .ok (.new 86, 3) := by decide +kernel
theorem dX5_needSpan_15 : decode cX5_needSpan 15 = .ok (.dup, 1) := by decide +kernel
theorem dX5_needSpan_16 : decode cX5_needSpan 16 = .ok (.ldc 235, 2) := by decide +kernel
theorem dX5_needSpan_18 : decode cX5_needSpan 18 = .ok (.invokespecial 90, 3) := by decide +kernel
theorem dX5_needSpan_21 : decode cX5_needSpan 21 = .ok (.athrow, 1) := by decide +kernel
theorem dX5_needSpan_22 : decode cX5_needSpan 22 = .ok (.iload_n 2, 1) := by decide +kernel
theorem dX5_needSpan_23 : decode cX5_needSpan 23 = .ok (.iload_n 1, 1) := by decide +kernel
theorem dX5_needSpan_24 : decode cX5_needSpan 24 = .ok (.if_icmp .lt 10, 3) := by decide +kernel
theorem dX5_needSpan_27 : decode cX5_needSpan 27 = .ok (.iload_n 2, 1) := by decide +kernel
theorem dX5_needSpan_28 : decode cX5_needSpan 28 = .ok (.sipush 5000, 3) := by decide +kernel
theorem dX5_needSpan_31 : decode cX5_needSpan 31 = .ok (.if_icmp .le 13, 3) := by decide +kernel
theorem dX5_needSpan_34 : decode cX5_needSpan 34 = .ok (.new 86, 3) := by decide +kernel
theorem dX5_needSpan_37 : decode cX5_needSpan 37 = .ok (.dup, 1) := by decide +kernel
theorem dX5_needSpan_38 : decode cX5_needSpan 38 = .ok (.ldc 237, 2) := by decide +kernel
theorem dX5_needSpan_40 : decode cX5_needSpan 40 = .ok (.invokespecial 90, 3) := by decide +kernel
theorem dX5_needSpan_43 : decode cX5_needSpan 43 = .ok (.athrow, 1) := by decide +kernel
theorem dX5_needSpan_44 : decode cX5_needSpan 44 = .ok (.return_, 1) := by decide +kernel
end
section
theorem dL_cell_0 : decode cL_cell 0 = .ok (.iload_n 1, 1) := by decide +kernel
theorem dL_cell_1 : decode cL_cell 1 = .ok (.aload_n 0, 1) := by decide +kernel
theorem dL_cell_2 : decode cL_cell 2 = .ok (.arraylength, 1) := by decide +kernel
theorem dL_cell_3 : decode cL_cell 3 = .ok (.if_icmp .ge 9, 3) := by decide +kernel
theorem dL_cell_6 : decode cL_cell 6 = .ok (.aload_n 0, 1) := by decide +kernel
theorem dL_cell_7 : decode cL_cell 7 = .ok (.iload_n 1, 1) := by decide +kernel
theorem dL_cell_8 : decode cL_cell 8 = .ok (.iaload, 1) := by decide +kernel
theorem dL_cell_9 : decode cL_cell 9 = .ok (.goto 18, 3) := by decide +kernel
theorem dL_cell_12 : decode cL_cell 12 = .ok (.sipush 7919, 3) := by decide +kernel
theorem dL_cell_15 : decode cL_cell 15 = .ok (.iload_n 1, 1) := by decide +kernel
theorem dL_cell_16 : decode cL_cell 16 = .ok (.sipush 677, 3) := by decide +kernel
theorem dL_cell_19 : decode cL_cell 19 = .ok (.iadd, 1) := by decide +kernel
theorem dL_cell_20 : decode cL_cell 20 = .ok (.imul, 1) := by decide +kernel
theorem dL_cell_21 : decode cL_cell 21 = .ok (.iload_n 1, 1) := by decide +kernel
theorem dL_cell_22 : decode cL_cell 22 = .ok (.sipush 3041, 3) := by decide +kernel
theorem dL_cell_25 : decode cL_cell 25 = .ok (.iadd, 1) := by decide +kernel
theorem dL_cell_26 : decode cL_cell 26 = .ok (.imul, 1) := by decide +kernel
theorem dL_cell_27 : decode cL_cell 27 = .ok (.ireturn, 1) := by decide +kernel
theorem dL_low_0 : decode cL_low 0 = .ok (.iload_n 0, 1) := by decide +kernel
theorem dL_low_1 : decode cL_low 1 = .ok (.ldc 7, 2) := by decide +kernel
theorem dL_low_3 : decode cL_low 3 = .ok (.iand, 1) := by decide +kernel
theorem dL_low_4 : decode cL_low 4 = .ok (.iload_n 1, 1) := by decide +kernel
theorem dL_low_5 : decode cL_low 5 = .ok (.irem, 1) := by decide +kernel
theorem dL_low_6 : decode cL_low 6 = .ok (.ireturn, 1) := by decide +kernel
set_option maxRecDepth 20000 in
theorem ggL_does_X5_addTrain : GoodIn wsL_does wsX5_addTrain := goodIn_ca (goodIn_ca (goodIn_r _ [9, 10, 11, 12, 13, 14, 15, 8, 16, 17, 18, 19, 20, 21, 22, 23, 24, 25, 26, 27, 28, 29, 30, 231, 232, 233, 234, 235, 236, 237, 238, 239, 240, 241, 242, 243] (by decide +kernel) (by decide +kernel)) (goodIn_sub (fun _ h => List.mem_cons_of_mem _ (List.mem_append_left _ (List.mem_append_left _ (List.mem_append_right _ h)))) (by decide +kernel))) (goodIn_sub (fun _ h => List.mem_cons_of_mem _ (List.mem_append_left _ (List.mem_append_right _ h))) (by decide +kernel))
set_option maxRecDepth 20000 in
theorem gL_does_X5_addTrain : GoodIn wsL_does (wsV RL 8 RX5 yX5_addTrain wsX5_addTrain) := goodIn_app (goodIn_of _ (by decide +kernel)) ggL_does_X5_addTrain
theorem dL_does_0 : decode cL_does 0 = .ok (.iload_n 1, 1) := by decide +kernel
theorem dL_does_1 : decode cL_does 1 = .ok (.ifCond .ne 21, 3) := by decide +kernel
theorem dL_does_4 : decode cL_does 4 = .ok (.aload_n 0, 1) := by decide +kernel
theorem dL_does_5 : decode cL_does 5 = .ok (.iload_n 2, 1) := by decide +kernel
theorem dL_does_6 : decode cL_does 6 = .ok (.iload_n 3, 1) := by decide +kernel
theorem dL_does_7 : decode cL_does 7 = .ok (.iconst 1, 1) := by decide +kernel
theorem dL_does_8 : decode cL_does 8 = .ok (.if_icmp .ne 7, 3) := by decide +kernel
theorem dL_does_11 : decode cL_does 11 = .ok (.iconst 1, 1) := by decide +kernel
theorem dL_does_12 : decode cL_does 12 = .ok (.goto 4, 3) := by decide +kernel
theorem dL_does_15 : decode cL_does 15 = .ok (.iconst 0, 1) := by decide +kernel
theorem dL_does_16 : decode cL_does 16 = .ok (.invokevirtual 8, 3) := by decide +kernel
theorem dL_does_19 : decode cL_does 19 = .ok (.goto 175, 3) := by decide +kernel
theorem dL_does_22 : decode cL_does 22 = .ok (.iload_n 1, 1) := by decide +kernel
theorem dL_does_23 : decode cL_does 23 = .ok (.iconst 1, 1) := by decide +kernel
theorem dL_does_24 : decode cL_does 24 = .ok (.if_icmp .ne 29, 3) := by decide +kernel
theorem dL_does_27 : decode cL_does 27 = .ok (.aload_n 0, 1) := by decide +kernel
theorem dL_does_28 : decode cL_does 28 = .ok (.iload_n 2, 1) := by decide +kernel
theorem dL_does_29 : decode cL_does 29 = .ok (.iload_n 3, 1) := by decide +kernel
theorem dL_does_30 : decode cL_does 30 = .ok (.iconst 1, 1) := by decide +kernel
theorem dL_does_31 : decode cL_does 31 = .ok (.if_icmp .ne 7, 3) := by decide +kernel
theorem dL_does_34 : decode cL_does 34 = .ok (.iconst 1, 1) := by decide +kernel
theorem dL_does_35 : decode cL_does 35 = .ok (.goto 4, 3) := by decide +kernel
theorem dL_does_38 : decode cL_does 38 = .ok (.iconst 0, 1) := by decide +kernel
theorem dL_does_39 : decode cL_does 39 = .ok (.invokevirtual 14, 3) := by decide +kernel
theorem dL_does_42 : decode cL_does 42 = .ok (.ifCond .eq 7, 3) := by decide +kernel
theorem dL_does_45 : decode cL_does 45 = .ok (.iconst 1, 1) := by decide +kernel
theorem dL_does_46 : decode cL_does 46 = .ok (.goto 148, 3) := by decide +kernel
theorem dL_does_49 : decode cL_does 49 = .ok (.iconst 0, 1) := by decide +kernel
theorem dL_does_50 : decode cL_does 50 = .ok (.goto 144, 3) := by decide +kernel
theorem dL_does_53 : decode cL_does 53 = .ok (.iload_n 1, 1) := by decide +kernel
theorem dL_does_54 : decode cL_does 54 = .ok (.iconst 2, 1) := by decide +kernel
theorem dL_does_55 : decode cL_does 55 = .ok (.if_icmp .ne 12, 3) := by decide +kernel
theorem dL_does_58 : decode cL_does 58 = .ok (.aload_n 0, 1) := by decide +kernel
theorem dL_does_59 : decode cL_does 59 = .ok (.iload_n 2, 1) := by decide +kernel
theorem dL_does_60 : decode cL_does 60 = .ok (.iload_n 3, 1) := by decide +kernel
theorem dL_does_61 : decode cL_does 61 = .ok (.invokevirtual 18, 3) := by decide +kernel
theorem dL_does_64 : decode cL_does 64 = .ok (.goto 130, 3) := by decide +kernel
theorem dL_does_67 : decode cL_does 67 = .ok (.iload_n 1, 1) := by decide +kernel
theorem dL_does_68 : decode cL_does 68 = .ok (.iconst 3, 1) := by decide +kernel
theorem dL_does_69 : decode cL_does 69 = .ok (.if_icmp .ne 19, 3) := by decide +kernel
theorem dL_does_72 : decode cL_does 72 = .ok (.aload_n 0, 1) := by decide +kernel
theorem dL_does_73 : decode cL_does 73 = .ok (.iload_n 2, 1) := by decide +kernel
theorem dL_does_74 : decode cL_does 74 = .ok (.invokevirtual 22, 3) := by decide +kernel
theorem dL_does_77 : decode cL_does 77 = .ok (.ifCond .eq 7, 3) := by decide +kernel
theorem dL_does_80 : decode cL_does 80 = .ok (.iconst 1, 1) := by decide +kernel
theorem dL_does_81 : decode cL_does 81 = .ok (.goto 113, 3) := by decide +kernel
theorem dL_does_84 : decode cL_does 84 = .ok (.iconst 0, 1) := by decide +kernel
theorem dL_does_85 : decode cL_does 85 = .ok (.goto 109, 3) := by decide +kernel
theorem dL_does_88 : decode cL_does 88 = .ok (.iload_n 1, 1) := by decide +kernel
theorem dL_does_89 : decode cL_does 89 = .ok (.iconst 4, 1) := by decide +kernel
theorem dL_does_90 : decode cL_does 90 = .ok (.if_icmp .ne 19, 3) := by decide +kernel
theorem dL_does_93 : decode cL_does 93 = .ok (.aload_n 0, 1) := by decide +kernel
theorem dL_does_94 : decode cL_does 94 = .ok (.iload_n 2, 1) := by decide +kernel
theorem dL_does_95 : decode cL_does 95 = .ok (.invokevirtual 26, 3) := by decide +kernel
theorem dL_does_98 : decode cL_does 98 = .ok (.ifCond .eq 7, 3) := by decide +kernel
theorem dL_does_101 : decode cL_does 101 = .ok (.iconst 1, 1) := by decide +kernel
theorem dL_does_102 : decode cL_does 102 = .ok (.goto 92, 3) := by decide +kernel
theorem dL_does_105 : decode cL_does 105 = .ok (.iconst 0, 1) := by decide +kernel
theorem dL_does_106 : decode cL_does 106 = .ok (.goto 88, 3) := by decide +kernel
theorem dL_does_109 : decode cL_does 109 = .ok (.iload_n 1, 1) := by decide +kernel
theorem dL_does_110 : decode cL_does 110 = .ok (.iconst 5, 1) := by decide +kernel
theorem dL_does_111 : decode cL_does 111 = .ok (.if_icmp .ne 11, 3) := by decide +kernel
theorem dL_does_114 : decode cL_does 114 = .ok (.aload_n 0, 1) := by decide +kernel
theorem dL_does_115 : decode cL_does 115 = .ok (.iload_n 2, 1) := by decide +kernel
theorem dL_does_116 : decode cL_does 116 = .ok (.invokevirtual 29, 3) := by decide +kernel
theorem dL_does_119 : decode cL_does 119 = .ok (.goto 75, 3) := by decide +kernel
theorem dL_does_122 : decode cL_does 122 = .ok (.iload_n 1, 1) := by decide +kernel
theorem dL_does_123 : decode cL_does 123 = .ok (.bipush 6, 2) := by decide +kernel
theorem dL_does_125 : decode cL_does 125 = .ok (.if_icmp .ne 16, 3) := by decide +kernel
theorem dL_does_128 : decode cL_does 128 = .ok (.aload_n 0, 1) := by decide +kernel
theorem dL_does_129 : decode cL_does 129 = .ok (.iload_n 2, 1) := by decide +kernel
theorem dL_does_130 : decode cL_does 130 = .ok (.iload_n 3, 1) := by decide +kernel
theorem dL_does_131 : decode cL_does 131 = .ok (.iload 4, 2) := by decide +kernel
theorem dL_does_133 : decode cL_does 133 = .ok (.iload 5, 2) := by decide +kernel
theorem dL_does_135 : decode cL_does 135 = .ok (.invokevirtual 33, 3) := by decide +kernel
theorem dL_does_138 : decode cL_does 138 = .ok (.goto 56, 3) := by decide +kernel
theorem dL_does_141 : decode cL_does 141 = .ok (.iload_n 1, 1) := by decide +kernel
theorem dL_does_142 : decode cL_does 142 = .ok (.bipush 7, 2) := by decide +kernel
theorem dL_does_144 : decode cL_does 144 = .ok (.if_icmp .ne 12, 3) := by decide +kernel
theorem dL_does_147 : decode cL_does 147 = .ok (.aload_n 0, 1) := by decide +kernel
theorem dL_does_148 : decode cL_does 148 = .ok (.iload_n 2, 1) := by decide +kernel
theorem dL_does_149 : decode cL_does 149 = .ok (.iload_n 3, 1) := by decide +kernel
theorem dL_does_150 : decode cL_does 150 = .ok (.invokevirtual 37, 3) := by decide +kernel
theorem dL_does_153 : decode cL_does 153 = .ok (.goto 41, 3) := by decide +kernel
theorem dL_does_156 : decode cL_does 156 = .ok (.iload_n 1, 1) := by decide +kernel
theorem dL_does_157 : decode cL_does 157 = .ok (.bipush 8, 2) := by decide +kernel
theorem dL_does_159 : decode cL_does 159 = .ok (.if_icmp .ne 16, 3) := by decide +kernel
theorem dL_does_162 : decode cL_does 162 = .ok (.aload_n 0, 1) := by decide +kernel
theorem dL_does_163 : decode cL_does 163 = .ok (.iload_n 2, 1) := by decide +kernel
theorem dL_does_164 : decode cL_does 164 = .ok (.iload_n 3, 1) := by decide +kernel
theorem dL_does_165 : decode cL_does 165 = .ok (.iload 4, 2) := by decide +kernel
theorem dL_does_167 : decode cL_does 167 = .ok (.iload 5, 2) := by decide +kernel
theorem dL_does_169 : decode cL_does 169 = .ok (.invokestatic 40, 3) := by decide +kernel
theorem dL_does_172 : decode cL_does 172 = .ok (.goto 22, 3) := by decide +kernel
theorem dL_does_175 : decode cL_does 175 = .ok (.iload_n 1, 1) := by decide +kernel
theorem dL_does_176 : decode cL_does 176 = .ok (.bipush 9, 2) := by decide +kernel
theorem dL_does_178 : decode cL_does 178 = .ok (.if_icmp .ne 11, 3) := by decide +kernel
theorem dL_does_181 : decode cL_does 181 = .ok (.aload_n 0, 1) := by decide +kernel
theorem dL_does_182 : decode cL_does 182 = .ok (.iload_n 2, 1) := by decide +kernel
theorem dL_does_183 : decode cL_does 183 = .ok (.invokevirtual 46, 3) := by decide +kernel
theorem dL_does_186 : decode cL_does 186 = .ok (.goto 8, 3) := by decide +kernel
theorem dL_does_189 : decode cL_does 189 = .ok (.aload_n 0, 1) := by decide +kernel
theorem dL_does_190 : decode cL_does 190 = .ok (.iload_n 2, 1) := by decide +kernel
theorem dL_does_191 : decode cL_does 191 = .ok (.invokevirtual 49, 3) := by decide +kernel
theorem dL_does_194 : decode cL_does 194 = .ok (.ireturn, 1) := by decide +kernel
theorem dL_does_195 : decode cL_does 195 = .ok (.astore 6, 2) := by decide +kernel
theorem dL_does_197 : decode cL_does 197 = .ok (.ldc 54, 2) := by decide +kernel
theorem dL_does_199 : decode cL_does 199 = .ok (.ireturn, 1) := by decide +kernel
theorem dL_does_200 : decode cL_does 200 = .ok (.astore 6, 2) := by decide +kernel
theorem dL_does_202 : decode cL_does 202 = .ok (.ldc 54, 2) := by decide +kernel
theorem dL_does_204 : decode cL_does 204 = .ok (.ireturn, 1) := by decide +kernel
theorem dL_does_205 : decode cL_does 205 = .ok (.astore 6, 2) := by decide +kernel
theorem dL_does_207 : decode cL_does 207 = .ok (.ldc 54, 2) := by decide +kernel
theorem dL_does_209 : decode cL_does 209 = .ok (.ireturn, 1) := by decide +kernel
set_option maxRecDepth 20000 in
theorem ggL_looks_X5_block : GoodIn wsL_looks wsX5_block := goodIn_ca (goodIn_r _ [7, 8, 9, 10, 11, 12, 6, 13, 14, 15, 16, 127, 128, 129, 130, 131, 132, 133, 134, 135, 136, 137, 138, 139] (by decide +kernel) (by decide +kernel)) (goodIn_sub (fun _ h => List.mem_cons_of_mem _ (List.mem_append_right _ h)) (by decide +kernel))
set_option maxRecDepth 20000 in
theorem gL_looks_X5_block : GoodIn wsL_looks (wsV RL 63 RX5 yX5_block wsX5_block) := goodIn_app (goodIn_of _ (by decide +kernel)) ggL_looks_X5_block
set_option maxRecDepth 20000 in
theorem ggL_looks_X5_isRight : GoodIn wsL_looks wsX5_isRight := goodIn_ca (goodIn_r _ [20, 8, 21, 10, 11, 12, 6, 13, 14, 15, 16, 127, 128, 129, 130, 131, 132, 133, 134, 135, 136, 137, 138, 139] (by decide +kernel) (by decide +kernel)) (goodIn_sub (fun _ h => List.mem_cons_of_mem _ (List.mem_append_right _ h)) (by decide +kernel))
set_option maxRecDepth 20000 in
theorem gL_looks_X5_isRight : GoodIn wsL_looks (wsV RL 66 RX5 yX5_isRight wsX5_isRight) := goodIn_app (goodIn_of _ (by decide +kernel)) ggL_looks_X5_isRight
set_option maxRecDepth 20000 in
theorem ggL_looks_X5_booking : GoodIn wsL_looks wsX5_booking := goodIn_ca (goodIn_r _ [25, 26, 27, 28, 29, 30, 31, 32, 6, 33, 14, 15, 34, 127, 128, 129, 130, 131, 132, 133, 134, 140, 141, 142, 143, 144, 145] (by decide +kernel) (by decide +kernel)) (goodIn_sub (fun _ h => List.mem_cons_of_mem _ (List.mem_append_right _ h)) (by decide +kernel))
set_option maxRecDepth 20000 in
theorem gL_looks_X5_booking : GoodIn wsL_looks (wsV RL 69 RX5 yX5_booking wsX5_booking) := goodIn_app (goodIn_of _ (by decide +kernel)) ggL_looks_X5_booking
set_option maxRecDepth 20000 in
theorem ggL_looks_X5_late : GoodIn wsL_looks wsX5_late := goodIn_ca (goodIn_r _ [38, 26, 27, 30, 31, 32, 6, 33, 14, 15, 34, 127, 128, 129, 130, 131, 132, 133, 134, 140, 141, 142, 143, 144, 145] (by decide +kernel) (by decide +kernel)) (goodIn_sub (fun _ h => List.mem_cons_of_mem _ (List.mem_append_right _ h)) (by decide +kernel))
set_option maxRecDepth 20000 in
theorem gL_looks_X5_late : GoodIn wsL_looks (wsV RL 72 RX5 yX5_late wsX5_late) := goodIn_app (goodIn_of _ (by decide +kernel)) ggL_looks_X5_late
set_option maxRecDepth 20000 in
theorem ggL_looks_X5_waggonAt : GoodIn wsL_looks wsX5_waggonAt := goodIn_ca (goodIn_r _ [42, 14, 15, 8, 16, 43, 44, 45, 6, 46, 47, 48, 49, 50, 51, 52, 53, 54, 55, 56, 57, 58, 59, 60, 61, 62, 63, 127, 128, 129, 130, 131, 132, 133, 134, 135, 136, 137, 138, 139, 146, 147, 148, 149] (by decide +kernel) (by decide +kernel)) (goodIn_sub (fun _ h => List.mem_cons_of_mem _ (List.mem_append_right _ h)) (by decide +kernel))
set_option maxRecDepth 20000 in
theorem gL_looks_X5_waggonAt : GoodIn wsL_looks (wsV RL 75 RX5 yX5_waggonAt wsX5_waggonAt) := goodIn_app (goodIn_of _ (by decide +kernel)) ggL_looks_X5_waggonAt
theorem dL_looks_0 : decode cL_looks 0 = .ok (.iload_n 1, 1) := by decide +kernel
theorem dL_looks_1 : decode cL_looks 1 = .ok (.ifCond .ne 11, 3) := by decide +kernel
theorem dL_looks_4 : decode cL_looks 4 = .ok (.aload_n 0, 1) := by decide +kernel
theorem dL_looks_5 : decode cL_looks 5 = .ok (.iload_n 2, 1) := by decide +kernel
theorem dL_looks_6 : decode cL_looks 6 = .ok (.invokevirtual 63, 3) := by decide +kernel
theorem dL_looks_9 : decode cL_looks 9 = .ok (.goto 70, 3) := by decide +kernel
theorem dL_looks_12 : decode cL_looks 12 = .ok (.iload_n 1, 1) := by decide +kernel
theorem dL_looks_13 : decode cL_looks 13 = .ok (.iconst 1, 1) := by decide +kernel
theorem dL_looks_14 : decode cL_looks 14 = .ok (.if_icmp .ne 19, 3) := by decide +kernel
theorem dL_looks_17 : decode cL_looks 17 = .ok (.aload_n 0, 1) := by decide +kernel
theorem dL_looks_18 : decode cL_looks 18 = .ok (.iload_n 2, 1) := by decide +kernel
theorem dL_looks_19 : decode cL_looks 19 = .ok (.invokevirtual 66, 3) := by decide +kernel
theorem dL_looks_22 : decode cL_looks 22 = .ok (.ifCond .eq 7, 3) := by decide +kernel
theorem dL_looks_25 : decode cL_looks 25 = .ok (.iconst 1, 1) := by decide +kernel
theorem dL_looks_26 : decode cL_looks 26 = .ok (.goto 53, 3) := by decide +kernel
theorem dL_looks_29 : decode cL_looks 29 = .ok (.iconst 0, 1) := by decide +kernel
theorem dL_looks_30 : decode cL_looks 30 = .ok (.goto 49, 3) := by decide +kernel
theorem dL_looks_33 : decode cL_looks 33 = .ok (.iload_n 1, 1) := by decide +kernel
theorem dL_looks_34 : decode cL_looks 34 = .ok (.iconst 2, 1) := by decide +kernel
theorem dL_looks_35 : decode cL_looks 35 = .ok (.if_icmp .ne 11, 3) := by decide +kernel
theorem dL_looks_38 : decode cL_looks 38 = .ok (.aload_n 0, 1) := by decide +kernel
theorem dL_looks_39 : decode cL_looks 39 = .ok (.iload_n 2, 1) := by decide +kernel
theorem dL_looks_40 : decode cL_looks 40 = .ok (.invokevirtual 69, 3) := by decide +kernel
theorem dL_looks_43 : decode cL_looks 43 = .ok (.goto 36, 3) := by decide +kernel
theorem dL_looks_46 : decode cL_looks 46 = .ok (.iload_n 1, 1) := by decide +kernel
theorem dL_looks_47 : decode cL_looks 47 = .ok (.iconst 3, 1) := by decide +kernel
theorem dL_looks_48 : decode cL_looks 48 = .ok (.if_icmp .ne 11, 3) := by decide +kernel
theorem dL_looks_51 : decode cL_looks 51 = .ok (.aload_n 0, 1) := by decide +kernel
theorem dL_looks_52 : decode cL_looks 52 = .ok (.iload_n 2, 1) := by decide +kernel
theorem dL_looks_53 : decode cL_looks 53 = .ok (.invokevirtual 72, 3) := by decide +kernel
theorem dL_looks_56 : decode cL_looks 56 = .ok (.goto 23, 3) := by decide +kernel
theorem dL_looks_59 : decode cL_looks 59 = .ok (.iload_n 1, 1) := by decide +kernel
theorem dL_looks_60 : decode cL_looks 60 = .ok (.iconst 4, 1) := by decide +kernel
theorem dL_looks_61 : decode cL_looks 61 = .ok (.if_icmp .ne 12, 3) := by decide +kernel
theorem dL_looks_64 : decode cL_looks 64 = .ok (.aload_n 0, 1) := by decide +kernel
theorem dL_looks_65 : decode cL_looks 65 = .ok (.iload_n 2, 1) := by decide +kernel
theorem dL_looks_66 : decode cL_looks 66 = .ok (.iload_n 3, 1) := by decide +kernel
theorem dL_looks_67 : decode cL_looks 67 = .ok (.invokevirtual 75, 3) := by decide +kernel
theorem dL_looks_70 : decode cL_looks 70 = .ok (.goto 9, 3) := by decide +kernel
theorem dL_looks_73 : decode cL_looks 73 = .ok (.aload_n 0, 1) := by decide +kernel
theorem dL_looks_74 : decode cL_looks 74 = .ok (.iload_n 2, 1) := by decide +kernel
theorem dL_looks_75 : decode cL_looks 75 = .ok (.iload_n 3, 1) := by decide +kernel
theorem dL_looks_76 : decode cL_looks 76 = .ok (.invokevirtual 78, 3) := by decide +kernel
theorem dL_looks_79 : decode cL_looks 79 = .ok (.ireturn, 1) := by decide +kernel
theorem dL_looks_80 : decode cL_looks 80 = .ok (.astore 4, 2) := by decide +kernel
theorem dL_looks_82 : decode cL_looks 82 = .ok (.ldc 54, 2) := by decide +kernel
theorem dL_looks_84 : decode cL_looks 84 = .ok (.ireturn, 1) := by decide +kernel
set_option maxRecDepth 20000 in
theorem ggL_can_X5_canBook : GoodIn wsL_can wsX5_canBook := goodIn_ca (goodIn_ca (goodIn_r _ [8, 9, 10, 11, 12, 7, 13, 14, 15, 16, 17, 18, 19, 20, 21, 22, 23, 24, 25, 26, 27, 28, 29, 30, 31, 32, 33, 34, 35, 36, 37, 38, 39, 40, 41, 42, 43, 44, 45, 46, 47, 48, 49, 50, 51, 52, 53, 54] (by decide +kernel) (by decide +kernel)) (goodIn_sub (fun _ h => List.mem_cons_of_mem _ (List.mem_append_left _ (List.mem_append_right _ h))) (by decide +kernel))) (goodIn_sub (fun _ h => List.mem_cons_of_mem _ (List.mem_append_right _ h)) (by decide +kernel))
set_option maxRecDepth 20000 in
theorem gL_can_X5_canBook : GoodIn wsL_can (wsV RL 81 RX5 yX5_canBook wsX5_canBook) := goodIn_app (goodIn_of _ (by decide +kernel)) ggL_can_X5_canBook
theorem dL_can_0 : decode cL_can 0 = .ok (.aload_n 0, 1) := by decide +kernel
theorem dL_can_1 : decode cL_can 1 = .ok (.iload_n 1, 1) := by decide +kernel
theorem dL_can_2 : decode cL_can 2 = .ok (.iload_n 2, 1) := by decide +kernel
theorem dL_can_3 : decode cL_can 3 = .ok (.iload_n 3, 1) := by decide +kernel
theorem dL_can_4 : decode cL_can 4 = .ok (.iload 4, 2) := by decide +kernel
theorem dL_can_6 : decode cL_can 6 = .ok (.invokevirtual 81, 3) := by decide +kernel
theorem dL_can_9 : decode cL_can 9 = .ok (.ifCond .eq 7, 3) := by decide +kernel
theorem dL_can_12 : decode cL_can 12 = .ok (.iconst 1, 1) := by decide +kernel
theorem dL_can_13 : decode cL_can 13 = .ok (.goto 4, 3) := by decide +kernel
theorem dL_can_16 : decode cL_can 16 = .ok (.iconst 0, 1) := by decide +kernel
theorem dL_can_17 : decode cL_can 17 = .ok (.ireturn, 1) := by decide +kernel
theorem dL_can_18 : decode cL_can 18 = .ok (.astore 5, 2) := by decide +kernel
theorem dL_can_20 : decode cL_can 20 = .ok (.ldc 54, 2) := by decide +kernel
theorem dL_can_22 : decode cL_can 22 = .ok (.ireturn, 1) := by decide +kernel
theorem dL_can_23 : decode cL_can 23 = .ok (.astore 5, 2) := by decide +kernel
theorem dL_can_25 : decode cL_can 25 = .ok (.ldc 54, 2) := by decide +kernel
theorem dL_can_27 : decode cL_can 27 = .ok (.ireturn, 1) := by decide +kernel
set_option maxRecDepth 20000 in
theorem ggL_trains_L_looks : GoodIn wsL_trains wsL_looks := goodIn_ca (goodIn_r _ [4, 5, 6, 7, 8, 9, 10, 11, 12, 13, 14, 15, 16, 17, 18, 19, 20, 21, 22, 23, 24, 25, 26, 27, 28, 29, 30, 31, 32, 33, 34, 35, 36, 37, 38, 39, 40, 41, 42, 43, 44, 45, 46, 47, 48, 49, 50, 51, 52, 53, 54, 55, 56, 57, 58, 59, 60, 61, 62, 63, 64, 65, 66, 67, 68, 69, 70, 71, 72, 73, 74, 75, 76, 77, 78, 79, 80, 81, 82, 83, 84, 85, 86, 87, 88, 89, 90, 91, 92, 93, 94, 95, 96, 97, 98, 99, 100, 101, 102, 103, 104, 105, 106, 107, 108, 109, 110, 111, 112, 113, 114, 115, 116, 117, 118, 119, 120, 121, 122, 123, 124, 125, 126, 127, 128, 129, 130, 131, 132, 133, 134, 135, 136, 137, 138, 139, 140, 141, 142, 143, 144, 145, 146, 147, 148, 149, 150, 151, 152, 153, 154] (by decide +kernel) (by decide +kernel)) (goodIn_sub (fun _ h => List.mem_cons_of_mem _ (List.mem_append_right _ h)) (by decide +kernel))
set_option maxRecDepth 20000 in
theorem gL_trains_L_looks : GoodIn wsL_trains (va_wsS RL 85 yL_looks wsL_looks) := goodIn_app (goodIn_of _ (by decide +kernel)) ggL_trains_L_looks
theorem dL_trains_0 : decode cL_trains 0 = .ok (.iconst 0, 1) := by decide +kernel
theorem dL_trains_1 : decode cL_trains 1 = .ok (.istore_n 1, 1) := by decide +kernel
theorem dL_trains_2 : decode cL_trains 2 = .ok (.aload_n 0, 1) := by decide +kernel
theorem dL_trains_3 : decode cL_trains 3 = .ok (.iconst 0, 1) := by decide +kernel
theorem dL_trains_4 : decode cL_trains 4 = .ok (.iload_n 1, 1) := by decide +kernel
theorem dL_trains_5 : decode cL_trains 5 = .ok (.iconst 0, 1) := by decide +kernel
theorem dL_trains_6 : decode cL_trains 6 = .ok (.invokestatic 85, 3) := by decide +kernel
theorem dL_trains_9 : decode cL_trains 9 = .ok (.ifCond .lt 9, 3) := by decide +kernel
theorem dL_trains_12 : decode cL_trains 12 = .ok (.iinc 1 1, 3) := by decide +kernel
theorem dL_trains_15 : decode cL_trains 15 = .ok (.goto (-13), 3) := by decide +kernel
theorem dL_trains_18 : decode cL_trains 18 = .ok (.iload_n 1, 1) := by decide +kernel
theorem dL_trains_19 : decode cL_trains 19 = .ok (.ireturn, 1) := by decide +kernel
set_option maxRecDepth 20000 in
theorem ggL_act_L_low : GoodIn wsL_act wsL_low := goodIn_r _ [4, 5] (by decide +kernel) (by decide +kernel)
set_option maxRecDepth 20000 in
theorem gL_act_L_low : GoodIn wsL_act (va_wsS RL 89 yL_low wsL_low) := goodIn_app (goodIn_of _ (by decide +kernel)) ggL_act_L_low
set_option maxRecDepth 20000 in
theorem ggL_act_L_does : GoodIn wsL_act wsL_does := goodIn_ca (goodIn_ca (goodIn_ca (goodIn_r _ [8, 9, 10, 11, 12, 13, 14, 15, 16, 17, 18, 19, 20, 21, 22, 23, 24, 25, 26, 27, 28, 29, 30, 31, 32, 33, 34, 35, 36, 37, 38, 39, 40, 41, 42, 43, 44, 45, 46, 47, 48, 49, 50, 51, 52, 53, 54, 55, 56, 57, 58, 59, 60, 61, 62, 63, 64, 65, 66, 67, 68, 69, 70, 71, 72, 73, 74, 75, 76, 77, 78, 79, 80, 81, 82, 83, 84, 85, 86, 87, 88, 89, 90, 91, 92, 93, 94, 95, 96, 97, 98, 99, 100, 101, 102, 103, 104, 105, 106, 107, 108, 109, 110, 111, 112, 113, 114, 115, 116, 117, 118, 119, 120, 121, 122, 123, 124, 125, 126, 127, 128, 129, 130, 131, 132, 133, 134, 135, 136, 137, 138, 139, 140, 141, 142, 143, 144, 145, 146, 147, 148, 149, 150, 151, 152, 153, 154, 155, 156, 157, 158, 159, 160, 161, 162, 163, 164, 165, 166, 167, 168, 169, 170, 171, 172, 173, 174, 175, 176, 177, 3, 178, 179, 180, 181, 182, 183, 184, 185, 186, 187, 188, 189, 190, 191, 192, 193, 194, 195, 196, 197, 198, 199, 200, 201, 202, 203, 204, 205, 206, 207, 208, 209, 210, 211, 212, 213, 214, 215, 216, 217, 218, 219, 220, 221, 222, 223, 224, 225, 226, 227, 228, 229, 230, 231, 232, 233, 234, 235, 236, 237, 242, 243, 244, 245, 246, 247, 248, 249, 250, 251, 252, 253, 254, 255, 256, 257, 258, 259, 260, 261, 262, 263, 264, 265, 266, 267, 268] (by decide +kernel) (by decide +kernel)) (goodIn_sub (fun _ h => List.mem_cons_of_mem _ (List.mem_append_left _ (List.mem_append_left _ (List.mem_append_right _ h)))) (by decide +kernel))) (goodIn_sub (fun _ h => List.mem_cons_of_mem _ (List.mem_append_left _ (List.mem_append_right _ h))) (by decide +kernel))) (goodIn_sub (fun _ h => List.mem_cons_of_mem _ (List.mem_append_right _ h)) (by decide +kernel))
set_option maxRecDepth 20000 in
theorem gL_act_L_does : GoodIn wsL_act (va_wsS RL 92 yL_does wsL_does) := goodIn_app (goodIn_of _ (by decide +kernel)) ggL_act_L_does
set_option maxRecDepth 20000 in
theorem ggL_act_X5_clock : GoodIn wsL_act wsX5_clock := goodIn_r _ [241, 81, 242, 243, 244, 245, 246, 247, 248, 249] (by decide +kernel) (by decide +kernel)
set_option maxRecDepth 20000 in
theorem gL_act_X5_clock : GoodIn wsL_act (wsV RL 96 RX5 yX5_clock wsX5_clock) := goodIn_app (goodIn_of _ (by decide +kernel)) ggL_act_X5_clock
theorem dL_act_0 : decode cL_act 0 = .ok (.iload_n 1, 1) := by decide +kernel
theorem dL_act_1 : decode cL_act 1 = .ok (.bipush 24, 2) := by decide +kernel
theorem dL_act_3 : decode cL_act 3 = .ok (.ishr, 1) := by decide +kernel
theorem dL_act_4 : decode cL_act 4 = .ok (.bipush 8, 2) := by decide +kernel
theorem dL_act_6 : decode cL_act 6 = .ok (.invokestatic 89, 3) := by decide +kernel
theorem dL_act_9 : decode cL_act 9 = .ok (.ifCond .ne 7, 3) := by decide +kernel
theorem dL_act_12 : decode cL_act 12 = .ok (.iconst 1, 1) := by decide +kernel
theorem dL_act_13 : decode cL_act 13 = .ok (.goto 4, 3) := by decide +kernel
theorem dL_act_16 : decode cL_act 16 = .ok (.iconst 0, 1) := by decide +kernel
theorem dL_act_17 : decode cL_act 17 = .ok (.istore_n 2, 1) := by decide +kernel
theorem dL_act_18 : decode cL_act 18 = .ok (.iload_n 1, 1) := by decide +kernel
theorem dL_act_19 : decode cL_act 19 = .ok (.bipush 32, 2) := by decide +kernel
theorem dL_act_21 : decode cL_act 21 = .ok (.invokestatic 89, 3) := by decide +kernel
theorem dL_act_24 : decode cL_act 24 = .ok (.istore_n 3, 1) := by decide +kernel
theorem dL_act_25 : decode cL_act 25 = .ok (.iload_n 2, 1) := by decide +kernel
theorem dL_act_26 : decode cL_act 26 = .ok (.ifCond .eq 17, 3) := by decide +kernel
theorem dL_act_29 : decode cL_act 29 = .ok (.iload_n 1, 1) := by decide +kernel
theorem dL_act_30 : decode cL_act 30 = .ok (.bipush 6, 2) := by decide +kernel
theorem dL_act_32 : decode cL_act 32 = .ok (.ishr, 1) := by decide +kernel
theorem dL_act_33 : decode cL_act 33 = .ok (.bipush 7, 2) := by decide +kernel
theorem dL_act_35 : decode cL_act 35 = .ok (.invokestatic 89, 3) := by decide +kernel
theorem dL_act_38 : decode cL_act 38 = .ok (.iconst 1, 1) := by decide +kernel
theorem dL_act_39 : decode cL_act 39 = .ok (.isub, 1) := by decide +kernel
theorem dL_act_40 : decode cL_act 40 = .ok (.goto 11, 3) := by decide +kernel
theorem dL_act_43 : decode cL_act 43 = .ok (.iload_n 1, 1) := by decide +kernel
theorem dL_act_44 : decode cL_act 44 = .ok (.bipush 6, 2) := by decide +kernel
theorem dL_act_46 : decode cL_act 46 = .ok (.ishr, 1) := by decide +kernel
theorem dL_act_47 : decode cL_act 47 = .ok (.iconst 3, 1) := by decide +kernel
theorem dL_act_48 : decode cL_act 48 = .ok (.invokestatic 89, 3) := by decide +kernel
theorem dL_act_51 : decode cL_act 51 = .ok (.istore 4, 2) := by decide +kernel
theorem dL_act_53 : decode cL_act 53 = .ok (.iload_n 3, 1) := by decide +kernel
theorem dL_act_54 : decode cL_act 54 = .ok (.iconst 2, 1) := by decide +kernel
theorem dL_act_55 : decode cL_act 55 = .ok (.if_icmp .ge 42, 3) := by decide +kernel
theorem dL_act_58 : decode cL_act 58 = .ok (.aload_n 0, 1) := by decide +kernel
theorem dL_act_59 : decode cL_act 59 = .ok (.iconst 0, 1) := by decide +kernel
theorem dL_act_60 : decode cL_act 60 = .ok (.iload_n 2, 1) := by decide +kernel
theorem dL_act_61 : decode cL_act 61 = .ok (.ifCond .eq 17, 3) := by decide +kernel
theorem dL_act_64 : decode cL_act 64 = .ok (.iload_n 1, 1) := by decide +kernel
theorem dL_act_65 : decode cL_act 65 = .ok (.bipush 6, 2) := by decide +kernel
theorem dL_act_67 : decode cL_act 67 = .ok (.ishr, 1) := by decide +kernel
theorem dL_act_68 : decode cL_act 68 = .ok (.bipush 11, 2) := by decide +kernel
theorem dL_act_70 : decode cL_act 70 = .ok (.invokestatic 89, 3) := by decide +kernel
theorem dL_act_73 : decode cL_act 73 = .ok (.iconst 1, 1) := by decide +kernel
theorem dL_act_74 : decode cL_act 74 = .ok (.isub, 1) := by decide +kernel
theorem dL_act_75 : decode cL_act 75 = .ok (.goto 10, 3) := by decide +kernel
theorem dL_act_78 : decode cL_act 78 = .ok (.iload_n 1, 1) := by decide +kernel
theorem dL_act_79 : decode cL_act 79 = .ok (.bipush 6, 2) := by decide +kernel
theorem dL_act_81 : decode cL_act 81 = .ok (.ishr, 1) := by decide +kernel
theorem dL_act_82 : decode cL_act 82 = .ok (.bipush 7, 2) := by decide +kernel
theorem dL_act_84 : decode cL_act 84 = .ok (.iand, 1) := by decide +kernel
theorem dL_act_85 : decode cL_act 85 = .ok (.iload_n 1, 1) := by decide +kernel
theorem dL_act_86 : decode cL_act 86 = .ok (.bipush 10, 2) := by decide +kernel
theorem dL_act_88 : decode cL_act 88 = .ok (.ishr, 1) := by decide +kernel
theorem dL_act_89 : decode cL_act 89 = .ok (.iconst 1, 1) := by decide +kernel
theorem dL_act_90 : decode cL_act 90 = .ok (.iand, 1) := by decide +kernel
theorem dL_act_91 : decode cL_act 91 = .ok (.iconst 0, 1) := by decide +kernel
theorem dL_act_92 : decode cL_act 92 = .ok (.iconst 0, 1) := by decide +kernel
theorem dL_act_93 : decode cL_act 93 = .ok (.invokestatic 92, 3) := by decide +kernel
theorem dL_act_96 : decode cL_act 96 = .ok (.ireturn, 1) := by decide +kernel
theorem dL_act_97 : decode cL_act 97 = .ok (.iload_n 3, 1) := by decide +kernel
theorem dL_act_98 : decode cL_act 98 = .ok (.bipush 8, 2) := by decide +kernel
theorem dL_act_100 : decode cL_act 100 = .ok (.if_icmp .ge 118, 3) := by decide +kernel
theorem dL_act_103 : decode cL_act 103 = .ok (.iload_n 3, 1) := by decide +kernel
theorem dL_act_104 : decode cL_act 104 = .ok (.iconst 4, 1) := by decide +kernel
theorem dL_act_105 : decode cL_act 105 = .ok (.if_icmp .ge 7, 3) := by decide +kernel
theorem dL_act_108 : decode cL_act 108 = .ok (.iconst 1, 1) := by decide +kernel
theorem dL_act_109 : decode cL_act 109 = .ok (.goto 22, 3) := by decide +kernel
theorem dL_act_112 : decode cL_act 112 = .ok (.iload_n 3, 1) := by decide +kernel
theorem dL_act_113 : decode cL_act 113 = .ok (.iconst 4, 1) := by decide +kernel
theorem dL_act_114 : decode cL_act 114 = .ok (.if_icmp .ne 7, 3) := by decide +kernel
theorem dL_act_117 : decode cL_act 117 = .ok (.iconst 2, 1) := by decide +kernel
theorem dL_act_118 : decode cL_act 118 = .ok (.goto 13, 3) := by decide +kernel
theorem dL_act_121 : decode cL_act 121 = .ok (.iload_n 3, 1) := by decide +kernel
theorem dL_act_122 : decode cL_act 122 = .ok (.iconst 5, 1) := by decide +kernel
theorem dL_act_123 : decode cL_act 123 = .ok (.if_icmp .ne 7, 3) := by decide +kernel
theorem dL_act_126 : decode cL_act 126 = .ok (.iconst 3, 1) := by decide +kernel
theorem dL_act_127 : decode cL_act 127 = .ok (.goto 4, 3) := by decide +kernel
theorem dL_act_130 : decode cL_act 130 = .ok (.iconst 4, 1) := by decide +kernel
theorem dL_act_131 : decode cL_act 131 = .ok (.istore 5, 2) := by decide +kernel
theorem dL_act_133 : decode cL_act 133 = .ok (.aload_n 0, 1) := by decide +kernel
theorem dL_act_134 : decode cL_act 134 = .ok (.iload 5, 2) := by decide +kernel
theorem dL_act_136 : decode cL_act 136 = .ok (.iload 5, 2) := by decide +kernel
theorem dL_act_138 : decode cL_act 138 = .ok (.iconst 4, 1) := by decide +kernel
theorem dL_act_139 : decode cL_act 139 = .ok (.if_icmp .ne 29, 3) := by decide +kernel
theorem dL_act_142 : decode cL_act 142 = .ok (.iload_n 2, 1) := by decide +kernel
theorem dL_act_143 : decode cL_act 143 = .ok (.ifCond .eq 16, 3) := by decide +kernel
theorem dL_act_146 : decode cL_act 146 = .ok (.iload_n 1, 1) := by decide +kernel
theorem dL_act_147 : decode cL_act 147 = .ok (.bipush 9, 2) := by decide +kernel
theorem dL_act_149 : decode cL_act 149 = .ok (.ishr, 1) := by decide +kernel
theorem dL_act_150 : decode cL_act 150 = .ok (.iconst 4, 1) := by decide +kernel
theorem dL_act_151 : decode cL_act 151 = .ok (.invokestatic 89, 3) := by decide +kernel
theorem dL_act_154 : decode cL_act 154 = .ok (.iconst 1, 1) := by decide +kernel
theorem dL_act_155 : decode cL_act 155 = .ok (.isub, 1) := by decide +kernel
theorem dL_act_156 : decode cL_act 156 = .ok (.goto 14, 3) := by decide +kernel
theorem dL_act_159 : decode cL_act 159 = .ok (.iload_n 1, 1) := by decide +kernel
theorem dL_act_160 : decode cL_act 160 = .ok (.bipush 9, 2) := by decide +kernel
theorem dL_act_162 : decode cL_act 162 = .ok (.ishr, 1) := by decide +kernel
theorem dL_act_163 : decode cL_act 163 = .ok (.iconst 1, 1) := by decide +kernel
theorem dL_act_164 : decode cL_act 164 = .ok (.iand, 1) := by decide +kernel
theorem dL_act_165 : decode cL_act 165 = .ok (.goto 5, 3) := by decide +kernel
theorem dL_act_168 : decode cL_act 168 = .ok (.iload 4, 2) := by decide +kernel
theorem dL_act_170 : decode cL_act 170 = .ok (.iload 5, 2) := by decide +kernel
theorem dL_act_172 : decode cL_act 172 = .ok (.iconst 1, 1) := by decide +kernel
theorem dL_act_173 : decode cL_act 173 = .ok (.if_icmp .ne 12, 3) := by decide +kernel
theorem dL_act_176 : decode cL_act 176 = .ok (.iload_n 1, 1) := by decide +kernel
theorem dL_act_177 : decode cL_act 177 = .ok (.bipush 9, 2) := by decide +kernel
theorem dL_act_179 : decode cL_act 179 = .ok (.ishr, 1) := by decide +kernel
theorem dL_act_180 : decode cL_act 180 = .ok (.iconst 1, 1) := by decide +kernel
theorem dL_act_181 : decode cL_act 181 = .ok (.iand, 1) := by decide +kernel
theorem dL_act_182 : decode cL_act 182 = .ok (.goto 30, 3) := by decide +kernel
theorem dL_act_185 : decode cL_act 185 = .ok (.iload_n 2, 1) := by decide +kernel
theorem dL_act_186 : decode cL_act 186 = .ok (.ifCond .eq 15, 3) := by decide +kernel
theorem dL_act_189 : decode cL_act 189 = .ok (.iload_n 1, 1) := by decide +kernel
theorem dL_act_190 : decode cL_act 190 = .ok (.bipush 9, 2) := by decide +kernel
theorem dL_act_192 : decode cL_act 192 = .ok (.ishr, 1) := by decide +kernel
theorem dL_act_193 : decode cL_act 193 = .ok (.bipush 120, 2) := by decide +kernel
theorem dL_act_195 : decode cL_act 195 = .ok (.invokestatic 89, 3) := by decide +kernel
theorem dL_act_198 : decode cL_act 198 = .ok (.goto 14, 3) := by decide +kernel
theorem dL_act_201 : decode cL_act 201 = .ok (.iconst 1, 1) := by decide +kernel
theorem dL_act_202 : decode cL_act 202 = .ok (.iload_n 1, 1) := by decide +kernel
theorem dL_act_203 : decode cL_act 203 = .ok (.bipush 9, 2) := by decide +kernel
theorem dL_act_205 : decode cL_act 205 = .ok (.ishr, 1) := by decide +kernel
theorem dL_act_206 : decode cL_act 206 = .ok (.bipush 6, 2) := by decide +kernel
theorem dL_act_208 : decode cL_act 208 = .ok (.invokestatic 89, 3) := by decide +kernel
theorem dL_act_211 : decode cL_act 211 = .ok (.iadd, 1) := by decide +kernel
theorem dL_act_212 : decode cL_act 212 = .ok (.iconst 0, 1) := by decide +kernel
theorem dL_act_213 : decode cL_act 213 = .ok (.iconst 0, 1) := by decide +kernel
theorem dL_act_214 : decode cL_act 214 = .ok (.invokestatic 92, 3) := by decide +kernel
theorem dL_act_217 : decode cL_act 217 = .ok (.ireturn, 1) := by decide +kernel
theorem dL_act_218 : decode cL_act 218 = .ok (.iload_n 3, 1) := by decide +kernel
theorem dL_act_219 : decode cL_act 219 = .ok (.bipush 13, 2) := by decide +kernel
theorem dL_act_221 : decode cL_act 221 = .ok (.if_icmp .ge 96, 3) := by decide +kernel
theorem dL_act_224 : decode cL_act 224 = .ok (.aload_n 0, 1) := by decide +kernel
theorem dL_act_225 : decode cL_act 225 = .ok (.invokevirtual 96, 3) := by decide +kernel
theorem dL_act_228 : decode cL_act 228 = .ok (.iload_n 2, 1) := by decide +kernel
theorem dL_act_229 : decode cL_act 229 = .ok (.ifCond .eq 18, 3) := by decide +kernel
theorem dL_act_232 : decode cL_act 232 = .ok (.iload_n 1, 1) := by decide +kernel
theorem dL_act_233 : decode cL_act 233 = .ok (.bipush 9, 2) := by decide +kernel
theorem dL_act_235 : decode cL_act 235 = .ok (.ishr, 1) := by decide +kernel
theorem dL_act_236 : decode cL_act 236 = .ok (.bipush 40, 2) := by decide +kernel
theorem dL_act_238 : decode cL_act 238 = .ok (.invokestatic 89, 3) := by decide +kernel
theorem dL_act_241 : decode cL_act 241 = .ok (.bipush 10, 2) := by decide +kernel
theorem dL_act_243 : decode cL_act 243 = .ok (.isub, 1) := by decide +kernel
theorem dL_act_244 : decode cL_act 244 = .ok (.goto 12, 3) := by decide +kernel
theorem dL_act_247 : decode cL_act 247 = .ok (.iload_n 1, 1) := by decide +kernel
theorem dL_act_248 : decode cL_act 248 = .ok (.bipush 9, 2) := by decide +kernel
theorem dL_act_250 : decode cL_act 250 = .ok (.ishr, 1) := by decide +kernel
theorem dL_act_251 : decode cL_act 251 = .ok (.bipush 10, 2) := by decide +kernel
theorem dL_act_253 : decode cL_act 253 = .ok (.invokestatic 89, 3) := by decide +kernel
theorem dL_act_256 : decode cL_act 256 = .ok (.iadd, 1) := by decide +kernel
theorem dL_act_257 : decode cL_act 257 = .ok (.istore 5, 2) := by decide +kernel
theorem dL_act_259 : decode cL_act 259 = .ok (.aload_n 0, 1) := by decide +kernel
theorem dL_act_260 : decode cL_act 260 = .ok (.bipush 6, 2) := by decide +kernel
theorem dL_act_262 : decode cL_act 262 = .ok (.iload 4, 2) := by decide +kernel
theorem dL_act_264 : decode cL_act 264 = .ok (.iload_n 2, 1) := by decide +kernel
theorem dL_act_265 : decode cL_act 265 = .ok (.ifCond .eq 17, 3) := by decide +kernel
theorem dL_act_268 : decode cL_act 268 = .ok (.iload_n 1, 1) := by decide +kernel
theorem dL_act_269 : decode cL_act 269 = .ok (.bipush 12, 2) := by decide +kernel
theorem dL_act_271 : decode cL_act 271 = .ok (.ishr, 1) := by decide +kernel
theorem dL_act_272 : decode cL_act 272 = .ok (.bipush 10, 2) := by decide +kernel
theorem dL_act_274 : decode cL_act 274 = .ok (.invokestatic 89, 3) := by decide +kernel
theorem dL_act_277 : decode cL_act 277 = .ok (.iconst 1, 1) := by decide +kernel
theorem dL_act_278 : decode cL_act 278 = .ok (.isub, 1) := by decide +kernel
theorem dL_act_279 : decode cL_act 279 = .ok (.goto 10, 3) := by decide +kernel
theorem dL_act_282 : decode cL_act 282 = .ok (.iload_n 1, 1) := by decide +kernel
theorem dL_act_283 : decode cL_act 283 = .ok (.bipush 12, 2) := by decide +kernel
theorem dL_act_285 : decode cL_act 285 = .ok (.ishr, 1) := by decide +kernel
theorem dL_act_286 : decode cL_act 286 = .ok (.bipush 7, 2) := by decide +kernel
theorem dL_act_288 : decode cL_act 288 = .ok (.iand, 1) := by decide +kernel
theorem dL_act_289 : decode cL_act 289 = .ok (.iload 5, 2) := by decide +kernel
theorem dL_act_291 : decode cL_act 291 = .ok (.iload 5, 2) := by decide +kernel
theorem dL_act_293 : decode cL_act 293 = .ok (.iload_n 1, 1) := by decide +kernel
theorem dL_act_294 : decode cL_act 294 = .ok (.bipush 14, 2) := by decide +kernel
theorem dL_act_296 : decode cL_act 296 = .ok (.ishr, 1) := by decide +kernel
theorem dL_act_297 : decode cL_act 297 = .ok (.bipush 12, 2) := by decide +kernel
theorem dL_act_299 : decode cL_act 299 = .ok (.invokestatic 89, 3) := by decide +kernel
theorem dL_act_302 : decode cL_act 302 = .ok (.iadd, 1) := by decide +kernel
theorem dL_act_303 : decode cL_act 303 = .ok (.iload_n 2, 1) := by decide +kernel
theorem dL_act_304 : decode cL_act 304 = .ok (.ifCond .eq 7, 3) := by decide +kernel
theorem dL_act_307 : decode cL_act 307 = .ok (.iconst 3, 1) := by decide +kernel
theorem dL_act_308 : decode cL_act 308 = .ok (.goto 4, 3) := by decide +kernel
theorem dL_act_311 : decode cL_act 311 = .ok (.iconst 0, 1) := by decide +kernel
theorem dL_act_312 : decode cL_act 312 = .ok (.isub, 1) := by decide +kernel
theorem dL_act_313 : decode cL_act 313 = .ok (.invokestatic 92, 3) := by decide +kernel
theorem dL_act_316 : decode cL_act 316 = .ok (.ireturn, 1) := by decide +kernel
theorem dL_act_317 : decode cL_act 317 = .ok (.iload_n 3, 1) := by decide +kernel
theorem dL_act_318 : decode cL_act 318 = .ok (.bipush 19, 2) := by decide +kernel
theorem dL_act_320 : decode cL_act 320 = .ok (.if_icmp .ge 185, 3) := by decide +kernel
theorem dL_act_323 : decode cL_act 323 = .ok (.iload_n 3, 1) := by decide +kernel
theorem dL_act_324 : decode cL_act 324 = .ok (.bipush 16, 2) := by decide +kernel
theorem dL_act_326 : decode cL_act 326 = .ok (.if_icmp .ge 68, 3) := by decide +kernel
theorem dL_act_329 : decode cL_act 329 = .ok (.aload_n 0, 1) := by decide +kernel
theorem dL_act_330 : decode cL_act 330 = .ok (.bipush 7, 2) := by decide +kernel
theorem dL_act_332 : decode cL_act 332 = .ok (.iload_n 2, 1) := by decide +kernel
theorem dL_act_333 : decode cL_act 333 = .ok (.ifCond .eq 17, 3) := by decide +kernel
theorem dL_act_336 : decode cL_act 336 = .ok (.iconst 4, 1) := by decide +kernel
theorem dL_act_337 : decode cL_act 337 = .ok (.iload_n 1, 1) := by decide +kernel
theorem dL_act_338 : decode cL_act 338 = .ok (.bipush 9, 2) := by decide +kernel
theorem dL_act_340 : decode cL_act 340 = .ok (.ishr, 1) := by decide +kernel
theorem dL_act_341 : decode cL_act 341 = .ok (.bipush 6, 2) := by decide +kernel
theorem dL_act_343 : decode cL_act 343 = .ok (.invokestatic 89, 3) := by decide +kernel
theorem dL_act_346 : decode cL_act 346 = .ok (.iadd, 1) := by decide +kernel
theorem dL_act_347 : decode cL_act 347 = .ok (.goto 12, 3) := by decide +kernel
theorem dL_act_350 : decode cL_act 350 = .ok (.bipush 6, 2) := by decide +kernel
theorem dL_act_352 : decode cL_act 352 = .ok (.iload_n 1, 1) := by decide +kernel
theorem dL_act_353 : decode cL_act 353 = .ok (.bipush 9, 2) := by decide +kernel
theorem dL_act_355 : decode cL_act 355 = .ok (.ishr, 1) := by decide +kernel
theorem dL_act_356 : decode cL_act 356 = .ok (.iconst 1, 1) := by decide +kernel
theorem dL_act_357 : decode cL_act 357 = .ok (.iand, 1) := by decide +kernel
theorem dL_act_358 : decode cL_act 358 = .ok (.iadd, 1) := by decide +kernel
theorem dL_act_359 : decode cL_act 359 = .ok (.iload_n 2, 1) := by decide +kernel
theorem dL_act_360 : decode cL_act 360 = .ok (.ifCond .eq 15, 3) := by decide +kernel
theorem dL_act_363 : decode cL_act 363 = .ok (.iload_n 1, 1) := by decide +kernel
theorem dL_act_364 : decode cL_act 364 = .ok (.bipush 10, 2) := by decide +kernel
theorem dL_act_366 : decode cL_act 366 = .ok (.ishr, 1) := by decide +kernel
theorem dL_act_367 : decode cL_act 367 = .ok (.bipush 120, 2) := by decide +kernel
theorem dL_act_369 : decode cL_act 369 = .ok (.invokestatic 89, 3) := by decide +kernel
theorem dL_act_372 : decode cL_act 372 = .ok (.goto 14, 3) := by decide +kernel
theorem dL_act_375 : decode cL_act 375 = .ok (.iconst 1, 1) := by decide +kernel
theorem dL_act_376 : decode cL_act 376 = .ok (.iload_n 1, 1) := by decide +kernel
theorem dL_act_377 : decode cL_act 377 = .ok (.bipush 10, 2) := by decide +kernel
theorem dL_act_379 : decode cL_act 379 = .ok (.ishr, 1) := by decide +kernel
theorem dL_act_380 : decode cL_act 380 = .ok (.bipush 60, 2) := by decide +kernel
theorem dL_act_382 : decode cL_act 382 = .ok (.invokestatic 89, 3) := by decide +kernel
theorem dL_act_385 : decode cL_act 385 = .ok (.iadd, 1) := by decide +kernel
theorem dL_act_386 : decode cL_act 386 = .ok (.iconst 0, 1) := by decide +kernel
theorem dL_act_387 : decode cL_act 387 = .ok (.iconst 0, 1) := by decide +kernel
theorem dL_act_388 : decode cL_act 388 = .ok (.invokestatic 92, 3) := by decide +kernel
theorem dL_act_391 : decode cL_act 391 = .ok (.goto 113, 3) := by decide +kernel
theorem dL_act_394 : decode cL_act 394 = .ok (.aload_n 0, 1) := by decide +kernel
theorem dL_act_395 : decode cL_act 395 = .ok (.bipush 8, 2) := by decide +kernel
theorem dL_act_397 : decode cL_act 397 = .ok (.iload_n 1, 1) := by decide +kernel
theorem dL_act_398 : decode cL_act 398 = .ok (.bipush 6, 2) := by decide +kernel
theorem dL_act_400 : decode cL_act 400 = .ok (.ishr, 1) := by decide +kernel
theorem dL_act_401 : decode cL_act 401 = .ok (.iload_n 2, 1) := by decide +kernel
theorem dL_act_402 : decode cL_act 402 = .ok (.ifCond .eq 8, 3) := by decide +kernel
theorem dL_act_405 : decode cL_act 405 = .ok (.bipush 12, 2) := by decide +kernel
theorem dL_act_407 : decode cL_act 407 = .ok (.goto 5, 3) := by decide +kernel
theorem dL_act_410 : decode cL_act 410 = .ok (.bipush 6, 2) := by decide +kernel
theorem dL_act_412 : decode cL_act 412 = .ok (.invokestatic 89, 3) := by decide +kernel
theorem dL_act_415 : decode cL_act 415 = .ok (.iload_n 2, 1) := by decide +kernel
theorem dL_act_416 : decode cL_act 416 = .ok (.ifCond .eq 17, 3) := by decide +kernel
theorem dL_act_419 : decode cL_act 419 = .ok (.iconst 4, 1) := by decide +kernel
theorem dL_act_420 : decode cL_act 420 = .ok (.iload_n 1, 1) := by decide +kernel
theorem dL_act_421 : decode cL_act 421 = .ok (.bipush 9, 2) := by decide +kernel
theorem dL_act_423 : decode cL_act 423 = .ok (.ishr, 1) := by decide +kernel
theorem dL_act_424 : decode cL_act 424 = .ok (.bipush 6, 2) := by decide +kernel
theorem dL_act_426 : decode cL_act 426 = .ok (.invokestatic 89, 3) := by decide +kernel
theorem dL_act_429 : decode cL_act 429 = .ok (.iadd, 1) := by decide +kernel
theorem dL_act_430 : decode cL_act 430 = .ok (.goto 12, 3) := by decide +kernel
theorem dL_act_433 : decode cL_act 433 = .ok (.bipush 6, 2) := by decide +kernel
theorem dL_act_435 : decode cL_act 435 = .ok (.iload_n 1, 1) := by decide +kernel
theorem dL_act_436 : decode cL_act 436 = .ok (.bipush 9, 2) := by decide +kernel
theorem dL_act_438 : decode cL_act 438 = .ok (.ishr, 1) := by decide +kernel
theorem dL_act_439 : decode cL_act 439 = .ok (.iconst 1, 1) := by decide +kernel
theorem dL_act_440 : decode cL_act 440 = .ok (.iand, 1) := by decide +kernel
theorem dL_act_441 : decode cL_act 441 = .ok (.iadd, 1) := by decide +kernel
theorem dL_act_442 : decode cL_act 442 = .ok (.iload_n 2, 1) := by decide +kernel
theorem dL_act_443 : decode cL_act 443 = .ok (.ifCond .eq 20, 3) := by decide +kernel
theorem dL_act_446 : decode cL_act 446 = .ok (.iload_n 1, 1) := by decide +kernel
theorem dL_act_447 : decode cL_act 447 = .ok (.bipush 10, 2) := by decide +kernel
theorem dL_act_449 : decode cL_act 449 = .ok (.ishr, 1) := by decide +kernel
theorem dL_act_450 : decode cL_act 450 = .ok (.sipush 6000, 3) := by decide +kernel
theorem dL_act_453 : decode cL_act 453 = .ok (.invokestatic 89, 3) := by decide +kernel
theorem dL_act_456 : decode cL_act 456 = .ok (.sipush 500, 3) := by decide +kernel
theorem dL_act_459 : decode cL_act 459 = .ok (.isub, 1) := by decide +kernel
theorem dL_act_460 : decode cL_act 460 = .ok (.goto 13, 3) := by decide +kernel
theorem dL_act_463 : decode cL_act 463 = .ok (.iload_n 1, 1) := by decide +kernel
theorem dL_act_464 : decode cL_act 464 = .ok (.bipush 10, 2) := by decide +kernel
theorem dL_act_466 : decode cL_act 466 = .ok (.ishr, 1) := by decide +kernel
theorem dL_act_467 : decode cL_act 467 = .ok (.sipush 300, 3) := by decide +kernel
theorem dL_act_470 : decode cL_act 470 = .ok (.invokestatic 89, 3) := by decide +kernel
theorem dL_act_473 : decode cL_act 473 = .ok (.iload_n 2, 1) := by decide +kernel
theorem dL_act_474 : decode cL_act 474 = .ok (.ifCond .eq 16, 3) := by decide +kernel
theorem dL_act_477 : decode cL_act 477 = .ok (.iload_n 1, 1) := by decide +kernel
theorem dL_act_478 : decode cL_act 478 = .ok (.bipush 12, 2) := by decide +kernel
theorem dL_act_480 : decode cL_act 480 = .ok (.ishr, 1) := by decide +kernel
theorem dL_act_481 : decode cL_act 481 = .ok (.sipush 1200, 3) := by decide +kernel
theorem dL_act_484 : decode cL_act 484 = .ok (.invokestatic 89, 3) := by decide +kernel
theorem dL_act_487 : decode cL_act 487 = .ok (.goto 14, 3) := by decide +kernel
theorem dL_act_490 : decode cL_act 490 = .ok (.iconst 1, 1) := by decide +kernel
theorem dL_act_491 : decode cL_act 491 = .ok (.iload_n 1, 1) := by decide +kernel
theorem dL_act_492 : decode cL_act 492 = .ok (.bipush 12, 2) := by decide +kernel
theorem dL_act_494 : decode cL_act 494 = .ok (.ishr, 1) := by decide +kernel
theorem dL_act_495 : decode cL_act 495 = .ok (.bipush 100, 2) := by decide +kernel
theorem dL_act_497 : decode cL_act 497 = .ok (.invokestatic 89, 3) := by decide +kernel
theorem dL_act_500 : decode cL_act 500 = .ok (.iadd, 1) := by decide +kernel
theorem dL_act_501 : decode cL_act 501 = .ok (.invokestatic 92, 3) := by decide +kernel
theorem dL_act_504 : decode cL_act 504 = .ok (.ireturn, 1) := by decide +kernel
theorem dL_act_505 : decode cL_act 505 = .ok (.iload_n 3, 1) := by decide +kernel
theorem dL_act_506 : decode cL_act 506 = .ok (.bipush 25, 2) := by decide +kernel
theorem dL_act_508 : decode cL_act 508 = .ok (.if_icmp .ge 26, 3) := by decide +kernel
theorem dL_act_511 : decode cL_act 511 = .ok (.aload_n 0, 1) := by decide +kernel
theorem dL_act_512 : decode cL_act 512 = .ok (.iload_n 3, 1) := by decide +kernel
theorem dL_act_513 : decode cL_act 513 = .ok (.bipush 23, 2) := by decide +kernel
theorem dL_act_515 : decode cL_act 515 = .ok (.if_icmp .ge 8, 3) := by decide +kernel
theorem dL_act_518 : decode cL_act 518 = .ok (.bipush 9, 2) := by decide +kernel
theorem dL_act_520 : decode cL_act 520 = .ok (.goto 5, 3) := by decide +kernel
theorem dL_act_523 : decode cL_act 523 = .ok (.bipush 10, 2) := by decide +kernel
theorem dL_act_525 : decode cL_act 525 = .ok (.iload 4, 2) := by decide +kernel
theorem dL_act_527 : decode cL_act 527 = .ok (.iconst 0, 1) := by decide +kernel
theorem dL_act_528 : decode cL_act 528 = .ok (.iconst 0, 1) := by decide +kernel
theorem dL_act_529 : decode cL_act 529 = .ok (.iconst 0, 1) := by decide +kernel
theorem dL_act_530 : decode cL_act 530 = .ok (.invokestatic 92, 3) := by decide +kernel
theorem dL_act_533 : decode cL_act 533 = .ok (.ireturn, 1) := by decide +kernel
theorem dL_act_534 : decode cL_act 534 = .ok (.aload_n 0, 1) := by decide +kernel
theorem dL_act_535 : decode cL_act 535 = .ok (.iconst 5, 1) := by decide +kernel
theorem dL_act_536 : decode cL_act 536 = .ok (.iload_n 2, 1) := by decide +kernel
theorem dL_act_537 : decode cL_act 537 = .ok (.ifCond .eq 15, 3) := by decide +kernel
theorem dL_act_540 : decode cL_act 540 = .ok (.iload_n 1, 1) := by decide +kernel
theorem dL_act_541 : decode cL_act 541 = .ok (.bipush 6, 2) := by decide +kernel
theorem dL_act_543 : decode cL_act 543 = .ok (.ishr, 1) := by decide +kernel
theorem dL_act_544 : decode cL_act 544 = .ok (.bipush 110, 2) := by decide +kernel
theorem dL_act_546 : decode cL_act 546 = .ok (.invokestatic 89, 3) := by decide +kernel
theorem dL_act_549 : decode cL_act 549 = .ok (.goto 14, 3) := by decide +kernel
theorem dL_act_552 : decode cL_act 552 = .ok (.iconst 1, 1) := by decide +kernel
theorem dL_act_553 : decode cL_act 553 = .ok (.iload_n 1, 1) := by decide +kernel
theorem dL_act_554 : decode cL_act 554 = .ok (.bipush 6, 2) := by decide +kernel
theorem dL_act_556 : decode cL_act 556 = .ok (.ishr, 1) := by decide +kernel
theorem dL_act_557 : decode cL_act 557 = .ok (.bipush 8, 2) := by decide +kernel
theorem dL_act_559 : decode cL_act 559 = .ok (.invokestatic 89, 3) := by decide +kernel
theorem dL_act_562 : decode cL_act 562 = .ok (.iadd, 1) := by decide +kernel
theorem dL_act_563 : decode cL_act 563 = .ok (.iconst 0, 1) := by decide +kernel
theorem dL_act_564 : decode cL_act 564 = .ok (.iconst 0, 1) := by decide +kernel
theorem dL_act_565 : decode cL_act 565 = .ok (.iconst 0, 1) := by decide +kernel
theorem dL_act_566 : decode cL_act 566 = .ok (.invokestatic 92, 3) := by decide +kernel
theorem dL_act_569 : decode cL_act 569 = .ok (.ireturn, 1) := by decide +kernel
set_option maxRecDepth 20000 in
theorem ggL_areAlike_X5_clock : GoodIn wsL_areAlike wsX5_clock := goodIn_r _ [5, 6, 140, 141, 142, 143, 144, 145, 146, 147] (by decide +kernel) (by decide +kernel)
set_option maxRecDepth 20000 in
theorem gL_areAlike_X5_clock : GoodIn wsL_areAlike (wsV RL 96 RX5 yX5_clock wsX5_clock) := goodIn_app (goodIn_of _ (by decide +kernel)) ggL_areAlike_X5_clock
set_option maxRecDepth 20000 in
theorem ggL_areAlike_X5_earned : GoodIn wsL_areAlike wsX5_earned := goodIn_r _ [10, 11, 140, 141, 142, 143, 144, 145, 146, 147] (by decide +kernel) (by decide +kernel)
set_option maxRecDepth 20000 in
theorem gL_areAlike_X5_earned : GoodIn wsL_areAlike (wsV RL 100 RX5 yX5_earned wsX5_earned) := goodIn_app (goodIn_of _ (by decide +kernel)) ggL_areAlike_X5_earned
set_option maxRecDepth 20000 in
theorem ggL_areAlike_L_looks : GoodIn wsL_areAlike wsL_looks := goodIn_ca (goodIn_r _ [15, 16, 17, 18, 19, 20, 4, 21, 22, 23, 24, 25, 26, 27, 28, 29, 30, 31, 32, 33, 34, 35, 36, 37, 38, 39, 40, 41, 42, 6, 43, 44, 45, 46, 47, 48, 49, 50, 51, 52, 53, 54, 55, 56, 57, 58, 59, 60, 61, 62, 63, 64, 65, 66, 67, 68, 69, 70, 71, 72, 73, 74, 75, 76, 77, 78, 79, 80, 81, 82, 83, 84, 85, 86, 87, 88, 89, 90, 91, 92, 93, 94, 95, 96, 97, 98, 99, 100, 101, 102, 103, 104, 105, 106, 107, 108, 109, 110, 111, 112, 113, 114, 115, 116, 117, 118, 119, 120, 121, 122, 123, 124, 125, 126, 127, 128, 129, 130, 131, 132, 133, 134, 135, 136, 137, 138, 139, 140, 141, 142, 143, 144, 145, 146, 147, 148, 149, 150, 151, 152, 153, 154, 155, 156, 157, 158, 159, 160, 161, 162, 163] (by decide +kernel) (by decide +kernel)) (goodIn_sub (fun _ h => List.mem_cons_of_mem _ (List.mem_append_right _ h)) (by decide +kernel))
set_option maxRecDepth 20000 in
theorem gL_areAlike_L_looks : GoodIn wsL_areAlike (va_wsS RL 85 yL_looks wsL_looks) := goodIn_app (goodIn_of _ (by decide +kernel)) ggL_areAlike_L_looks
theorem dL_areAlike_0 : decode cL_areAlike 0 = .ok (.aload_n 0, 1) := by decide +kernel
theorem dL_areAlike_1 : decode cL_areAlike 1 = .ok (.invokevirtual 96, 3) := by decide +kernel
theorem dL_areAlike_4 : decode cL_areAlike 4 = .ok (.aload_n 1, 1) := by decide +kernel
theorem dL_areAlike_5 : decode cL_areAlike 5 = .ok (.invokevirtual 96, 3) := by decide +kernel
theorem dL_areAlike_8 : decode cL_areAlike 8 = .ok (.if_icmp .ne 18, 3) := by decide +kernel
theorem dL_areAlike_11 : decode cL_areAlike 11 = .ok (.aload_n 0, 1) := by decide +kernel
theorem dL_areAlike_12 : decode cL_areAlike 12 = .ok (.invokevirtual 100, 3) := by decide +kernel
theorem dL_areAlike_15 : decode cL_areAlike 15 = .ok (.aload_n 1, 1) := by decide +kernel
theorem dL_areAlike_16 : decode cL_areAlike 16 = .ok (.invokevirtual 100, 3) := by decide +kernel
theorem dL_areAlike_19 : decode cL_areAlike 19 = .ok (.if_icmp .ne 7, 3) := by decide +kernel
theorem dL_areAlike_22 : decode cL_areAlike 22 = .ok (.iconst 1, 1) := by decide +kernel
theorem dL_areAlike_23 : decode cL_areAlike 23 = .ok (.goto 4, 3) := by decide +kernel
theorem dL_areAlike_26 : decode cL_areAlike 26 = .ok (.iconst 0, 1) := by decide +kernel
theorem dL_areAlike_27 : decode cL_areAlike 27 = .ok (.istore_n 2, 1) := by decide +kernel
theorem dL_areAlike_28 : decode cL_areAlike 28 = .ok (.iconst 0, 1) := by decide +kernel
theorem dL_areAlike_29 : decode cL_areAlike 29 = .ok (.istore_n 3, 1) := by decide +kernel
theorem dL_areAlike_30 : decode cL_areAlike 30 = .ok (.iload_n 3, 1) := by decide +kernel
theorem dL_areAlike_31 : decode cL_areAlike 31 = .ok (.bipush 30, 2) := by decide +kernel
theorem dL_areAlike_33 : decode cL_areAlike 33 = .ok (.if_icmp .ge 122, 3) := by decide +kernel
theorem dL_areAlike_36 : decode cL_areAlike 36 = .ok (.iload_n 2, 1) := by decide +kernel
theorem dL_areAlike_37 : decode cL_areAlike 37 = .ok (.ifCond .eq 118, 3) := by decide +kernel
theorem dL_areAlike_40 : decode cL_areAlike 40 = .ok (.aload_n 0, 1) := by decide +kernel
theorem dL_areAlike_41 : decode cL_areAlike 41 = .ok (.iconst 0, 1) := by decide +kernel
theorem dL_areAlike_42 : decode cL_areAlike 42 = .ok (.iload_n 3, 1) := by decide +kernel
theorem dL_areAlike_43 : decode cL_areAlike 43 = .ok (.iconst 0, 1) := by decide +kernel
theorem dL_areAlike_44 : decode cL_areAlike 44 = .ok (.invokestatic 85, 3) := by decide +kernel
theorem dL_areAlike_47 : decode cL_areAlike 47 = .ok (.aload_n 1, 1) := by decide +kernel
theorem dL_areAlike_48 : decode cL_areAlike 48 = .ok (.iconst 0, 1) := by decide +kernel
theorem dL_areAlike_49 : decode cL_areAlike 49 = .ok (.iload_n 3, 1) := by decide +kernel
theorem dL_areAlike_50 : decode cL_areAlike 50 = .ok (.iconst 0, 1) := by decide +kernel
theorem dL_areAlike_51 : decode cL_areAlike 51 = .ok (.invokestatic 85, 3) := by decide +kernel
theorem dL_areAlike_54 : decode cL_areAlike 54 = .ok (.if_icmp .ne 93, 3) := by decide +kernel
theorem dL_areAlike_57 : decode cL_areAlike 57 = .ok (.aload_n 0, 1) := by decide +kernel
theorem dL_areAlike_58 : decode cL_areAlike 58 = .ok (.iconst 1, 1) := by decide +kernel
theorem dL_areAlike_59 : decode cL_areAlike 59 = .ok (.iload_n 3, 1) := by decide +kernel
theorem dL_areAlike_60 : decode cL_areAlike 60 = .ok (.iconst 0, 1) := by decide +kernel
theorem dL_areAlike_61 : decode cL_areAlike 61 = .ok (.invokestatic 85, 3) := by decide +kernel
theorem dL_areAlike_64 : decode cL_areAlike 64 = .ok (.aload_n 1, 1) := by decide +kernel
theorem dL_areAlike_65 : decode cL_areAlike 65 = .ok (.iconst 1, 1) := by decide +kernel
theorem dL_areAlike_66 : decode cL_areAlike 66 = .ok (.iload_n 3, 1) := by decide +kernel
theorem dL_areAlike_67 : decode cL_areAlike 67 = .ok (.iconst 0, 1) := by decide +kernel
theorem dL_areAlike_68 : decode cL_areAlike 68 = .ok (.invokestatic 85, 3) := by decide +kernel
theorem dL_areAlike_71 : decode cL_areAlike 71 = .ok (.if_icmp .ne 76, 3) := by decide +kernel
theorem dL_areAlike_74 : decode cL_areAlike 74 = .ok (.aload_n 0, 1) := by decide +kernel
theorem dL_areAlike_75 : decode cL_areAlike 75 = .ok (.iconst 2, 1) := by decide +kernel
theorem dL_areAlike_76 : decode cL_areAlike 76 = .ok (.iload_n 3, 1) := by decide +kernel
theorem dL_areAlike_77 : decode cL_areAlike 77 = .ok (.iconst 0, 1) := by decide +kernel
theorem dL_areAlike_78 : decode cL_areAlike 78 = .ok (.invokestatic 85, 3) := by decide +kernel
theorem dL_areAlike_81 : decode cL_areAlike 81 = .ok (.aload_n 1, 1) := by decide +kernel
theorem dL_areAlike_82 : decode cL_areAlike 82 = .ok (.iconst 2, 1) := by decide +kernel
theorem dL_areAlike_83 : decode cL_areAlike 83 = .ok (.iload_n 3, 1) := by decide +kernel
theorem dL_areAlike_84 : decode cL_areAlike 84 = .ok (.iconst 0, 1) := by decide +kernel
theorem dL_areAlike_85 : decode cL_areAlike 85 = .ok (.invokestatic 85, 3) := by decide +kernel
theorem dL_areAlike_88 : decode cL_areAlike 88 = .ok (.if_icmp .ne 59, 3) := by decide +kernel
theorem dL_areAlike_91 : decode cL_areAlike 91 = .ok (.aload_n 0, 1) := by decide +kernel
theorem dL_areAlike_92 : decode cL_areAlike 92 = .ok (.iconst 3, 1) := by decide +kernel
theorem dL_areAlike_93 : decode cL_areAlike 93 = .ok (.iload_n 3, 1) := by decide +kernel
theorem dL_areAlike_94 : decode cL_areAlike 94 = .ok (.iconst 0, 1) := by decide +kernel
theorem dL_areAlike_95 : decode cL_areAlike 95 = .ok (.invokestatic 85, 3) := by decide +kernel
theorem dL_areAlike_98 : decode cL_areAlike 98 = .ok (.aload_n 1, 1) := by decide +kernel
theorem dL_areAlike_99 : decode cL_areAlike 99 = .ok (.iconst 3, 1) := by decide +kernel
theorem dL_areAlike_100 : decode cL_areAlike 100 = .ok (.iload_n 3, 1) := by decide +kernel
theorem dL_areAlike_101 : decode cL_areAlike 101 = .ok (.iconst 0, 1) := by decide +kernel
theorem dL_areAlike_102 : decode cL_areAlike 102 = .ok (.invokestatic 85, 3) := by decide +kernel
theorem dL_areAlike_105 : decode cL_areAlike 105 = .ok (.if_icmp .ne 42, 3) := by decide +kernel
theorem dL_areAlike_108 : decode cL_areAlike 108 = .ok (.aload_n 0, 1) := by decide +kernel
theorem dL_areAlike_109 : decode cL_areAlike 109 = .ok (.iconst 4, 1) := by decide +kernel
theorem dL_areAlike_110 : decode cL_areAlike 110 = .ok (.bipush 6, 2) := by decide +kernel
theorem dL_areAlike_112 : decode cL_areAlike 112 = .ok (.iload_n 3, 1) := by decide +kernel
theorem dL_areAlike_113 : decode cL_areAlike 113 = .ok (.bipush 8, 2) := by decide +kernel
theorem dL_areAlike_115 : decode cL_areAlike 115 = .ok (.irem, 1) := by decide +kernel
theorem dL_areAlike_116 : decode cL_areAlike 116 = .ok (.iadd, 1) := by decide +kernel
theorem dL_areAlike_117 : decode cL_areAlike 117 = .ok (.iload_n 3, 1) := by decide +kernel
theorem dL_areAlike_118 : decode cL_areAlike 118 = .ok (.bipush 8, 2) := by decide +kernel
theorem dL_areAlike_120 : decode cL_areAlike 120 = .ok (.idiv, 1) := by decide +kernel
theorem dL_areAlike_121 : decode cL_areAlike 121 = .ok (.invokestatic 85, 3) := by decide +kernel
theorem dL_areAlike_124 : decode cL_areAlike 124 = .ok (.aload_n 1, 1) := by decide +kernel
theorem dL_areAlike_125 : decode cL_areAlike 125 = .ok (.iconst 4, 1) := by decide +kernel
theorem dL_areAlike_126 : decode cL_areAlike 126 = .ok (.bipush 6, 2) := by decide +kernel
theorem dL_areAlike_128 : decode cL_areAlike 128 = .ok (.iload_n 3, 1) := by decide +kernel
theorem dL_areAlike_129 : decode cL_areAlike 129 = .ok (.bipush 8, 2) := by decide +kernel
theorem dL_areAlike_131 : decode cL_areAlike 131 = .ok (.irem, 1) := by decide +kernel
theorem dL_areAlike_132 : decode cL_areAlike 132 = .ok (.iadd, 1) := by decide +kernel
theorem dL_areAlike_133 : decode cL_areAlike 133 = .ok (.iload_n 3, 1) := by decide +kernel
theorem dL_areAlike_134 : decode cL_areAlike 134 = .ok (.bipush 8, 2) := by decide +kernel
theorem dL_areAlike_136 : decode cL_areAlike 136 = .ok (.idiv, 1) := by decide +kernel
theorem dL_areAlike_137 : decode cL_areAlike 137 = .ok (.invokestatic 85, 3) := by decide +kernel
theorem dL_areAlike_140 : decode cL_areAlike 140 = .ok (.if_icmp .ne 7, 3) := by decide +kernel
theorem dL_areAlike_143 : decode cL_areAlike 143 = .ok (.iconst 1, 1) := by decide +kernel
theorem dL_areAlike_144 : decode cL_areAlike 144 = .ok (.goto 4, 3) := by decide +kernel
theorem dL_areAlike_147 : decode cL_areAlike 147 = .ok (.iconst 0, 1) := by decide +kernel
theorem dL_areAlike_148 : decode cL_areAlike 148 = .ok (.istore_n 2, 1) := by decide +kernel
theorem dL_areAlike_149 : decode cL_areAlike 149 = .ok (.iinc 3 1, 3) := by decide +kernel
theorem dL_areAlike_152 : decode cL_areAlike 152 = .ok (.goto (-122), 3) := by decide +kernel
theorem dL_areAlike_155 : decode cL_areAlike 155 = .ok (.iload_n 2, 1) := by decide +kernel
theorem dL_areAlike_156 : decode cL_areAlike 156 = .ok (.ireturn, 1) := by decide +kernel
set_option maxRecDepth 20000 in
theorem ggL_arePlacesSo_L_trains : GoodIn wsL_arePlacesSo wsL_trains := goodIn_ca (goodIn_r _ [5, 6, 7, 4, 8, 9, 1, 10, 11, 12, 13, 14, 15, 16, 17, 18, 19, 20, 21, 22, 23, 24, 25, 26, 27, 28, 29, 30, 31, 32, 33, 34, 35, 36, 37, 38, 39, 40, 41, 42, 43, 44, 45, 46, 47, 48, 49, 50, 51, 52, 53, 54, 55, 56, 57, 58, 59, 60, 61, 62, 63, 64, 65, 66, 67, 68, 69, 70, 71, 72, 73, 74, 75, 76, 77, 78, 79, 80, 81, 82, 83, 84, 85, 86, 87, 88, 89, 90, 91, 92, 93, 94, 95, 96, 97, 98, 99, 100, 101, 102, 103, 104, 105, 106, 107, 108, 109, 110, 111, 112, 113, 114, 115, 116, 117, 118, 119, 120, 121, 122, 123, 124, 125, 126, 127, 128, 129, 130, 131, 132, 133, 148, 149, 150, 151, 152, 153, 154, 155, 156, 157, 158, 159, 160, 161, 162, 163, 164, 165, 166, 167, 168, 169, 170, 171] (by decide +kernel) (by decide +kernel)) (goodIn_sub (fun _ h => List.mem_cons_of_mem _ (List.mem_append_right _ h)) (by decide +kernel))
set_option maxRecDepth 20000 in
theorem gL_arePlacesSo_L_trains : GoodIn wsL_arePlacesSo (va_wsS RL 103 yL_trains wsL_trains) := goodIn_app (goodIn_of _ (by decide +kernel)) ggL_arePlacesSo_L_trains
set_option maxRecDepth 20000 in
theorem ggL_arePlacesSo_X5_clock : GoodIn wsL_arePlacesSo wsX5_clock := goodIn_r _ [137, 36, 148, 149, 150, 151, 152, 153, 154, 155] (by decide +kernel) (by decide +kernel)
set_option maxRecDepth 20000 in
theorem gL_arePlacesSo_X5_clock : GoodIn wsL_arePlacesSo (wsV RL 96 RX5 yX5_clock wsX5_clock) := goodIn_app (goodIn_of _ (by decide +kernel)) ggL_arePlacesSo_X5_clock
set_option maxRecDepth 20000 in
theorem ggL_arePlacesSo_X5_earned : GoodIn wsL_arePlacesSo wsX5_earned := goodIn_r _ [141, 142, 148, 149, 150, 151, 152, 153, 154, 155] (by decide +kernel) (by decide +kernel)
set_option maxRecDepth 20000 in
theorem gL_arePlacesSo_X5_earned : GoodIn wsL_arePlacesSo (wsV RL 100 RX5 yX5_earned wsX5_earned) := goodIn_app (goodIn_of _ (by decide +kernel)) ggL_arePlacesSo_X5_earned
set_option maxRecDepth 20000 in
theorem ggL_arePlacesSo_X5_trainOn : GoodIn wsL_arePlacesSo wsX5_trainOn := goodIn_ca (goodIn_r _ [146, 15, 77, 78, 13, 79, 21, 22, 147, 117, 118, 83, 119, 85, 86, 148, 149, 150, 151, 152, 153, 154, 155, 156, 157, 158, 159, 160] (by decide +kernel) (by decide +kernel)) (goodIn_sub (fun _ h => List.mem_cons_of_mem _ (List.mem_append_right _ h)) (by decide +kernel))
set_option maxRecDepth 20000 in
theorem gL_arePlacesSo_X5_trainOn : GoodIn wsL_arePlacesSo (wsV RL 107 RX5 yX5_trainOn wsX5_trainOn) := goodIn_app (goodIn_of _ (by decide +kernel)) ggL_arePlacesSo_X5_trainOn
set_option maxRecDepth 20000 in
theorem ggL_arePlacesSo_X5_block : GoodIn wsL_arePlacesSo wsX5_block := goodIn_ca (goodIn_r _ [14, 15, 16, 17, 18, 19, 13, 20, 21, 22, 23, 148, 149, 150, 151, 152, 153, 154, 155, 156, 157, 158, 159, 160] (by decide +kernel) (by decide +kernel)) (goodIn_sub (fun _ h => List.mem_cons_of_mem _ (List.mem_append_right _ h)) (by decide +kernel))
set_option maxRecDepth 20000 in
theorem gL_arePlacesSo_X5_block : GoodIn wsL_arePlacesSo (wsV RL 63 RX5 yX5_block wsX5_block) := goodIn_app (goodIn_of _ (by decide +kernel)) ggL_arePlacesSo_X5_block
set_option maxRecDepth 20000 in
theorem ggL_arePlacesSo_L_looks : GoodIn wsL_arePlacesSo wsL_looks := goodIn_ca (goodIn_r _ [8, 9, 1, 10, 11, 12, 13, 14, 15, 16, 17, 18, 19, 20, 21, 22, 23, 24, 25, 26, 27, 28, 29, 30, 31, 32, 33, 34, 35, 36, 37, 38, 39, 40, 41, 42, 43, 44, 45, 46, 47, 48, 49, 50, 51, 52, 53, 54, 55, 56, 57, 58, 59, 60, 61, 62, 63, 64, 65, 66, 67, 68, 69, 70, 71, 72, 73, 74, 75, 76, 77, 78, 79, 80, 81, 82, 83, 84, 85, 86, 87, 88, 89, 90, 91, 92, 93, 94, 95, 96, 97, 98, 99, 100, 101, 102, 103, 104, 105, 106, 107, 108, 109, 110, 111, 112, 113, 114, 115, 116, 117, 118, 119, 120, 121, 122, 123, 124, 125, 126, 127, 128, 129, 130, 131, 132, 133, 148, 149, 150, 151, 152, 153, 154, 155, 156, 157, 158, 159, 160, 161, 162, 163, 164, 165, 166, 167, 168, 169, 170, 171] (by decide +kernel) (by decide +kernel)) (goodIn_sub (fun _ h => List.mem_cons_of_mem _ (List.mem_append_right _ h)) (by decide +kernel))
set_option maxRecDepth 20000 in
theorem gL_arePlacesSo_L_looks : GoodIn wsL_arePlacesSo (va_wsS RL 85 yL_looks wsL_looks) := goodIn_app (goodIn_of _ (by decide +kernel)) ggL_arePlacesSo_L_looks
theorem dL_arePlacesSo_0 : decode cL_arePlacesSo 0 = .ok (.aload_n 0, 1) := by decide +kernel
theorem dL_arePlacesSo_1 : decode cL_arePlacesSo 1 = .ok (.invokestatic 103, 3) := by decide +kernel
theorem dL_arePlacesSo_4 : decode cL_arePlacesSo 4 = .ok (.istore_n 1, 1) := by decide +kernel
theorem dL_arePlacesSo_5 : decode cL_arePlacesSo 5 = .ok (.iconst 0, 1) := by decide +kernel
theorem dL_arePlacesSo_6 : decode cL_arePlacesSo 6 = .ok (.istore_n 2, 1) := by decide +kernel
theorem dL_arePlacesSo_7 : decode cL_arePlacesSo 7 = .ok (.iconst 0, 1) := by decide +kernel
theorem dL_arePlacesSo_8 : decode cL_arePlacesSo 8 = .ok (.istore_n 3, 1) := by decide +kernel
theorem dL_arePlacesSo_9 : decode cL_arePlacesSo 9 = .ok (.iload_n 1, 1) := by decide +kernel
theorem dL_arePlacesSo_10 : decode cL_arePlacesSo 10 = .ok (.iconst 4, 1) := by decide +kernel
theorem dL_arePlacesSo_11 : decode cL_arePlacesSo 11 = .ok (.if_icmp .gt 31, 3) := by decide +kernel
theorem dL_arePlacesSo_14 : decode cL_arePlacesSo 14 = .ok (.aload_n 0, 1) := by decide +kernel
theorem dL_arePlacesSo_15 : decode cL_arePlacesSo 15 = .ok (.invokevirtual 96, 3) := by decide +kernel
theorem dL_arePlacesSo_18 : decode cL_arePlacesSo 18 = .ok (.ifCond .lt 24, 3) := by decide +kernel
theorem dL_arePlacesSo_21 : decode cL_arePlacesSo 21 = .ok (.aload_n 0, 1) := by decide +kernel
theorem dL_arePlacesSo_22 : decode cL_arePlacesSo 22 = .ok (.invokevirtual 96, 3) := by decide +kernel
theorem dL_arePlacesSo_25 : decode cL_arePlacesSo 25 = .ok (.sipush 5000, 3) := by decide +kernel
theorem dL_arePlacesSo_28 : decode cL_arePlacesSo 28 = .ok (.if_icmp .gt 14, 3) := by decide +kernel
theorem dL_arePlacesSo_31 : decode cL_arePlacesSo 31 = .ok (.aload_n 0, 1) := by decide +kernel
theorem dL_arePlacesSo_32 : decode cL_arePlacesSo 32 = .ok (.invokevirtual 100, 3) := by decide +kernel
theorem dL_arePlacesSo_35 : decode cL_arePlacesSo 35 = .ok (.ifCond .lt 7, 3) := by decide +kernel
theorem dL_arePlacesSo_38 : decode cL_arePlacesSo 38 = .ok (.iconst 1, 1) := by decide +kernel
theorem dL_arePlacesSo_39 : decode cL_arePlacesSo 39 = .ok (.goto 4, 3) := by decide +kernel
theorem dL_arePlacesSo_42 : decode cL_arePlacesSo 42 = .ok (.iconst 0, 1) := by decide +kernel
theorem dL_arePlacesSo_43 : decode cL_arePlacesSo 43 = .ok (.istore 4, 2) := by decide +kernel
theorem dL_arePlacesSo_45 : decode cL_arePlacesSo 45 = .ok (.iconst 0, 1) := by decide +kernel
theorem dL_arePlacesSo_46 : decode cL_arePlacesSo 46 = .ok (.istore 5, 2) := by decide +kernel
theorem dL_arePlacesSo_48 : decode cL_arePlacesSo 48 = .ok (.iload 5, 2) := by decide +kernel
theorem dL_arePlacesSo_50 : decode cL_arePlacesSo 50 = .ok (.bipush 8, 2) := by decide +kernel
theorem dL_arePlacesSo_52 : decode cL_arePlacesSo 52 = .ok (.if_icmp .ge 81, 3) := by decide +kernel
theorem dL_arePlacesSo_55 : decode cL_arePlacesSo 55 = .ok (.iload 4, 2) := by decide +kernel
theorem dL_arePlacesSo_57 : decode cL_arePlacesSo 57 = .ok (.ifCond .eq 76, 3) := by decide +kernel
theorem dL_arePlacesSo_60 : decode cL_arePlacesSo 60 = .ok (.aload_n 0, 1) := by decide +kernel
theorem dL_arePlacesSo_61 : decode cL_arePlacesSo 61 = .ok (.iload 5, 2) := by decide +kernel
theorem dL_arePlacesSo_63 : decode cL_arePlacesSo 63 = .ok (.invokevirtual 107, 3) := by decide +kernel
theorem dL_arePlacesSo_66 : decode cL_arePlacesSo 66 = .ok (.istore 6, 2) := by decide +kernel
theorem dL_arePlacesSo_68 : decode cL_arePlacesSo 68 = .ok (.iload 6, 2) := by decide +kernel
theorem dL_arePlacesSo_70 : decode cL_arePlacesSo 70 = .ok (.iconst (-1), 1) := by decide +kernel
theorem dL_arePlacesSo_71 : decode cL_arePlacesSo 71 = .ok (.if_icmp .lt 40, 3) := by decide +kernel
theorem dL_arePlacesSo_74 : decode cL_arePlacesSo 74 = .ok (.iload 6, 2) := by decide +kernel
theorem dL_arePlacesSo_76 : decode cL_arePlacesSo 76 = .ok (.iload_n 1, 1) := by decide +kernel
theorem dL_arePlacesSo_77 : decode cL_arePlacesSo 77 = .ok (.if_icmp .ge 34, 3) := by decide +kernel
theorem dL_arePlacesSo_80 : decode cL_arePlacesSo 80 = .ok (.iload 6, 2) := by decide +kernel
theorem dL_arePlacesSo_82 : decode cL_arePlacesSo 82 = .ok (.ifCond .lt 25, 3) := by decide +kernel
theorem dL_arePlacesSo_85 : decode cL_arePlacesSo 85 = .ok (.aload_n 0, 1) := by decide +kernel
theorem dL_arePlacesSo_86 : decode cL_arePlacesSo 86 = .ok (.iload 6, 2) := by decide +kernel
theorem dL_arePlacesSo_88 : decode cL_arePlacesSo 88 = .ok (.invokevirtual 63, 3) := by decide +kernel
theorem dL_arePlacesSo_91 : decode cL_arePlacesSo 91 = .ok (.iload 5, 2) := by decide +kernel
theorem dL_arePlacesSo_93 : decode cL_arePlacesSo 93 = .ok (.if_icmp .ne 18, 3) := by decide +kernel
theorem dL_arePlacesSo_96 : decode cL_arePlacesSo 96 = .ok (.aload_n 0, 1) := by decide +kernel
theorem dL_arePlacesSo_97 : decode cL_arePlacesSo 97 = .ok (.iload 6, 2) := by decide +kernel
theorem dL_arePlacesSo_99 : decode cL_arePlacesSo 99 = .ok (.iload 5, 2) := by decide +kernel
theorem dL_arePlacesSo_101 : decode cL_arePlacesSo 101 = .ok (.invokevirtual 78, 3) := by decide +kernel
theorem dL_arePlacesSo_104 : decode cL_arePlacesSo 104 = .ok (.ifCond .ne 7, 3) := by decide +kernel
theorem dL_arePlacesSo_107 : decode cL_arePlacesSo 107 = .ok (.iconst 1, 1) := by decide +kernel
theorem dL_arePlacesSo_108 : decode cL_arePlacesSo 108 = .ok (.goto 4, 3) := by decide +kernel
theorem dL_arePlacesSo_111 : decode cL_arePlacesSo 111 = .ok (.iconst 0, 1) := by decide +kernel
theorem dL_arePlacesSo_112 : decode cL_arePlacesSo 112 = .ok (.istore 4, 2) := by decide +kernel
theorem dL_arePlacesSo_114 : decode cL_arePlacesSo 114 = .ok (.iload_n 3, 1) := by decide +kernel
theorem dL_arePlacesSo_115 : decode cL_arePlacesSo 115 = .ok (.iload 6, 2) := by decide +kernel
theorem dL_arePlacesSo_117 : decode cL_arePlacesSo 117 = .ok (.ifCond .ge 7, 3) := by decide +kernel
theorem dL_arePlacesSo_120 : decode cL_arePlacesSo 120 = .ok (.iconst 0, 1) := by decide +kernel
theorem dL_arePlacesSo_121 : decode cL_arePlacesSo 121 = .ok (.goto 4, 3) := by decide +kernel
theorem dL_arePlacesSo_124 : decode cL_arePlacesSo 124 = .ok (.iconst 1, 1) := by decide +kernel
theorem dL_arePlacesSo_125 : decode cL_arePlacesSo 125 = .ok (.iadd, 1) := by decide +kernel
theorem dL_arePlacesSo_126 : decode cL_arePlacesSo 126 = .ok (.istore_n 3, 1) := by decide +kernel
theorem dL_arePlacesSo_127 : decode cL_arePlacesSo 127 = .ok (.iinc 5 1, 3) := by decide +kernel
theorem dL_arePlacesSo_130 : decode cL_arePlacesSo 130 = .ok (.goto (-82), 3) := by decide +kernel
theorem dL_arePlacesSo_133 : decode cL_arePlacesSo 133 = .ok (.bipush 6, 2) := by decide +kernel
theorem dL_arePlacesSo_135 : decode cL_arePlacesSo 135 = .ok (.istore 5, 2) := by decide +kernel
theorem dL_arePlacesSo_137 : decode cL_arePlacesSo 137 = .ok (.iload 5, 2) := by decide +kernel
theorem dL_arePlacesSo_139 : decode cL_arePlacesSo 139 = .ok (.bipush 10, 2) := by decide +kernel
theorem dL_arePlacesSo_141 : decode cL_arePlacesSo 141 = .ok (.iload_n 1, 1) := by decide +kernel
theorem dL_arePlacesSo_142 : decode cL_arePlacesSo 142 = .ok (.iadd, 1) := by decide +kernel
theorem dL_arePlacesSo_143 : decode cL_arePlacesSo 143 = .ok (.if_icmp .ge 159, 3) := by decide +kernel
theorem dL_arePlacesSo_146 : decode cL_arePlacesSo 146 = .ok (.iload 4, 2) := by decide +kernel
theorem dL_arePlacesSo_148 : decode cL_arePlacesSo 148 = .ok (.ifCond .eq 154, 3) := by decide +kernel
theorem dL_arePlacesSo_151 : decode cL_arePlacesSo 151 = .ok (.iload 5, 2) := by decide +kernel
theorem dL_arePlacesSo_153 : decode cL_arePlacesSo 153 = .ok (.bipush 8, 2) := by decide +kernel
theorem dL_arePlacesSo_155 : decode cL_arePlacesSo 155 = .ok (.if_icmp .ge 7, 3) := by decide +kernel
theorem dL_arePlacesSo_158 : decode cL_arePlacesSo 158 = .ok (.iconst 4, 1) := by decide +kernel
theorem dL_arePlacesSo_159 : decode cL_arePlacesSo 159 = .ok (.goto 5, 3) := by decide +kernel
theorem dL_arePlacesSo_162 : decode cL_arePlacesSo 162 = .ok (.bipush 8, 2) := by decide +kernel
theorem dL_arePlacesSo_164 : decode cL_arePlacesSo 164 = .ok (.istore 6, 2) := by decide +kernel
theorem dL_arePlacesSo_166 : decode cL_arePlacesSo 166 = .ok (.iload 5, 2) := by decide +kernel
theorem dL_arePlacesSo_168 : decode cL_arePlacesSo 168 = .ok (.bipush 8, 2) := by decide +kernel
theorem dL_arePlacesSo_170 : decode cL_arePlacesSo 170 = .ok (.if_icmp .lt 10, 3) := by decide +kernel
theorem dL_arePlacesSo_173 : decode cL_arePlacesSo 173 = .ok (.iload 5, 2) := by decide +kernel
theorem dL_arePlacesSo_175 : decode cL_arePlacesSo 175 = .ok (.bipush 9, 2) := by decide +kernel
theorem dL_arePlacesSo_177 : decode cL_arePlacesSo 177 = .ok (.if_icmp .le 7, 3) := by decide +kernel
theorem dL_arePlacesSo_180 : decode cL_arePlacesSo 180 = .ok (.iconst 1, 1) := by decide +kernel
theorem dL_arePlacesSo_181 : decode cL_arePlacesSo 181 = .ok (.goto 4, 3) := by decide +kernel
theorem dL_arePlacesSo_184 : decode cL_arePlacesSo 184 = .ok (.iconst 0, 1) := by decide +kernel
theorem dL_arePlacesSo_185 : decode cL_arePlacesSo 185 = .ok (.istore 7, 2) := by decide +kernel
theorem dL_arePlacesSo_187 : decode cL_arePlacesSo 187 = .ok (.iload 7, 2) := by decide +kernel
theorem dL_arePlacesSo_189 : decode cL_arePlacesSo 189 = .ok (.aload_n 0, 1) := by decide +kernel
theorem dL_arePlacesSo_190 : decode cL_arePlacesSo 190 = .ok (.iconst 4, 1) := by decide +kernel
theorem dL_arePlacesSo_191 : decode cL_arePlacesSo 191 = .ok (.iload 5, 2) := by decide +kernel
theorem dL_arePlacesSo_193 : decode cL_arePlacesSo 193 = .ok (.iconst 0, 1) := by decide +kernel
theorem dL_arePlacesSo_194 : decode cL_arePlacesSo 194 = .ok (.invokestatic 85, 3) := by decide +kernel
theorem dL_arePlacesSo_197 : decode cL_arePlacesSo 197 = .ok (.ldc 54, 2) := by decide +kernel
theorem dL_arePlacesSo_199 : decode cL_arePlacesSo 199 = .ok (.if_icmp .eq 7, 3) := by decide +kernel
theorem dL_arePlacesSo_202 : decode cL_arePlacesSo 202 = .ok (.iconst 1, 1) := by decide +kernel
theorem dL_arePlacesSo_203 : decode cL_arePlacesSo 203 = .ok (.goto 4, 3) := by decide +kernel
theorem dL_arePlacesSo_206 : decode cL_arePlacesSo 206 = .ok (.iconst 0, 1) := by decide +kernel
theorem dL_arePlacesSo_207 : decode cL_arePlacesSo 207 = .ok (.if_icmp .ne 7, 3) := by decide +kernel
theorem dL_arePlacesSo_210 : decode cL_arePlacesSo 210 = .ok (.iconst 1, 1) := by decide +kernel
theorem dL_arePlacesSo_211 : decode cL_arePlacesSo 211 = .ok (.goto 4, 3) := by decide +kernel
theorem dL_arePlacesSo_214 : decode cL_arePlacesSo 214 = .ok (.iconst 0, 1) := by decide +kernel
theorem dL_arePlacesSo_215 : decode cL_arePlacesSo 215 = .ok (.istore 4, 2) := by decide +kernel
theorem dL_arePlacesSo_217 : decode cL_arePlacesSo 217 = .ok (.iconst 0, 1) := by decide +kernel
theorem dL_arePlacesSo_218 : decode cL_arePlacesSo 218 = .ok (.istore 8, 2) := by decide +kernel
theorem dL_arePlacesSo_220 : decode cL_arePlacesSo 220 = .ok (.iload 7, 2) := by decide +kernel
theorem dL_arePlacesSo_222 : decode cL_arePlacesSo 222 = .ok (.ifCond .eq 74, 3) := by decide +kernel
theorem dL_arePlacesSo_225 : decode cL_arePlacesSo 225 = .ok (.aload_n 0, 1) := by decide +kernel
theorem dL_arePlacesSo_226 : decode cL_arePlacesSo 226 = .ok (.iconst 4, 1) := by decide +kernel
theorem dL_arePlacesSo_227 : decode cL_arePlacesSo 227 = .ok (.iload 5, 2) := by decide +kernel
theorem dL_arePlacesSo_229 : decode cL_arePlacesSo 229 = .ok (.iload 8, 2) := by decide +kernel
theorem dL_arePlacesSo_231 : decode cL_arePlacesSo 231 = .ok (.invokestatic 85, 3) := by decide +kernel
theorem dL_arePlacesSo_234 : decode cL_arePlacesSo 234 = .ok (.ifCond .lt 62, 3) := by decide +kernel
theorem dL_arePlacesSo_237 : decode cL_arePlacesSo 237 = .ok (.iload 4, 2) := by decide +kernel
theorem dL_arePlacesSo_239 : decode cL_arePlacesSo 239 = .ok (.ifCond .eq 57, 3) := by decide +kernel
theorem dL_arePlacesSo_242 : decode cL_arePlacesSo 242 = .ok (.aload_n 0, 1) := by decide +kernel
theorem dL_arePlacesSo_243 : decode cL_arePlacesSo 243 = .ok (.iconst 4, 1) := by decide +kernel
theorem dL_arePlacesSo_244 : decode cL_arePlacesSo 244 = .ok (.iload 5, 2) := by decide +kernel
theorem dL_arePlacesSo_246 : decode cL_arePlacesSo 246 = .ok (.iload 8, 2) := by decide +kernel
theorem dL_arePlacesSo_248 : decode cL_arePlacesSo 248 = .ok (.invokestatic 85, 3) := by decide +kernel
theorem dL_arePlacesSo_251 : decode cL_arePlacesSo 251 = .ok (.istore 9, 2) := by decide +kernel
theorem dL_arePlacesSo_253 : decode cL_arePlacesSo 253 = .ok (.iload 8, 2) := by decide +kernel
theorem dL_arePlacesSo_255 : decode cL_arePlacesSo 255 = .ok (.iload 6, 2) := by decide +kernel
theorem dL_arePlacesSo_257 : decode cL_arePlacesSo 257 = .ok (.if_icmp .ge 23, 3) := by decide +kernel
theorem dL_arePlacesSo_260 : decode cL_arePlacesSo 260 = .ok (.iload 9, 2) := by decide +kernel
theorem dL_arePlacesSo_262 : decode cL_arePlacesSo 262 = .ok (.bipush 8, 2) := by decide +kernel
theorem dL_arePlacesSo_264 : decode cL_arePlacesSo 264 = .ok (.if_icmp .ge 16, 3) := by decide +kernel
theorem dL_arePlacesSo_267 : decode cL_arePlacesSo 267 = .ok (.iload_n 2, 1) := by decide +kernel
theorem dL_arePlacesSo_268 : decode cL_arePlacesSo 268 = .ok (.iload 9, 2) := by decide +kernel
theorem dL_arePlacesSo_270 : decode cL_arePlacesSo 270 = .ok (.ishr, 1) := by decide +kernel
theorem dL_arePlacesSo_271 : decode cL_arePlacesSo 271 = .ok (.iconst 1, 1) := by decide +kernel
theorem dL_arePlacesSo_272 : decode cL_arePlacesSo 272 = .ok (.iand, 1) := by decide +kernel
theorem dL_arePlacesSo_273 : decode cL_arePlacesSo 273 = .ok (.ifCond .ne 7, 3) := by decide +kernel
theorem dL_arePlacesSo_276 : decode cL_arePlacesSo 276 = .ok (.iconst 1, 1) := by decide +kernel
theorem dL_arePlacesSo_277 : decode cL_arePlacesSo 277 = .ok (.goto 4, 3) := by decide +kernel
theorem dL_arePlacesSo_280 : decode cL_arePlacesSo 280 = .ok (.iconst 0, 1) := by decide +kernel
theorem dL_arePlacesSo_281 : decode cL_arePlacesSo 281 = .ok (.istore 4, 2) := by decide +kernel
theorem dL_arePlacesSo_283 : decode cL_arePlacesSo 283 = .ok (.iload_n 2, 1) := by decide +kernel
theorem dL_arePlacesSo_284 : decode cL_arePlacesSo 284 = .ok (.iconst 1, 1) := by decide +kernel
theorem dL_arePlacesSo_285 : decode cL_arePlacesSo 285 = .ok (.iload 9, 2) := by decide +kernel
theorem dL_arePlacesSo_287 : decode cL_arePlacesSo 287 = .ok (.ishl, 1) := by decide +kernel
theorem dL_arePlacesSo_288 : decode cL_arePlacesSo 288 = .ok (.ior, 1) := by decide +kernel
theorem dL_arePlacesSo_289 : decode cL_arePlacesSo 289 = .ok (.istore_n 2, 1) := by decide +kernel
theorem dL_arePlacesSo_290 : decode cL_arePlacesSo 290 = .ok (.iinc 8 1, 3) := by decide +kernel
theorem dL_arePlacesSo_293 : decode cL_arePlacesSo 293 = .ok (.goto (-73), 3) := by decide +kernel
theorem dL_arePlacesSo_296 : decode cL_arePlacesSo 296 = .ok (.iinc 5 1, 3) := by decide +kernel
theorem dL_arePlacesSo_299 : decode cL_arePlacesSo 299 = .ok (.goto (-162), 3) := by decide +kernel
theorem dL_arePlacesSo_302 : decode cL_arePlacesSo 302 = .ok (.iload 4, 2) := by decide +kernel
theorem dL_arePlacesSo_304 : decode cL_arePlacesSo 304 = .ok (.ifCond .eq 20, 3) := by decide +kernel
theorem dL_arePlacesSo_307 : decode cL_arePlacesSo 307 = .ok (.iload_n 3, 1) := by decide +kernel
theorem dL_arePlacesSo_308 : decode cL_arePlacesSo 308 = .ok (.iload_n 1, 1) := by decide +kernel
theorem dL_arePlacesSo_309 : decode cL_arePlacesSo 309 = .ok (.if_icmp .ne 15, 3) := by decide +kernel
theorem dL_arePlacesSo_312 : decode cL_arePlacesSo 312 = .ok (.iload_n 2, 1) := by decide +kernel
theorem dL_arePlacesSo_313 : decode cL_arePlacesSo 313 = .ok (.iload_n 2, 1) := by decide +kernel
theorem dL_arePlacesSo_314 : decode cL_arePlacesSo 314 = .ok (.iconst 1, 1) := by decide +kernel
theorem dL_arePlacesSo_315 : decode cL_arePlacesSo 315 = .ok (.iadd, 1) := by decide +kernel
theorem dL_arePlacesSo_316 : decode cL_arePlacesSo 316 = .ok (.iand, 1) := by decide +kernel
theorem dL_arePlacesSo_317 : decode cL_arePlacesSo 317 = .ok (.ifCond .ne 7, 3) := by decide +kernel
theorem dL_arePlacesSo_320 : decode cL_arePlacesSo 320 = .ok (.iconst 1, 1) := by decide +kernel
theorem dL_arePlacesSo_321 : decode cL_arePlacesSo 321 = .ok (.goto 4, 3) := by decide +kernel
theorem dL_arePlacesSo_324 : decode cL_arePlacesSo 324 = .ok (.iconst 0, 1) := by decide +kernel
theorem dL_arePlacesSo_325 : decode cL_arePlacesSo 325 = .ok (.ireturn, 1) := by decide +kernel
set_option maxRecDepth 20000 in
theorem ggL_areBookingsSo_L_trains : GoodIn wsL_areBookingsSo wsL_trains := goodIn_ca (goodIn_r _ [5, 6, 7, 4, 8, 9, 1, 10, 11, 12, 13, 14, 15, 16, 17, 18, 19, 20, 21, 22, 23, 24, 25, 26, 27, 28, 29, 30, 31, 32, 33, 34, 35, 36, 37, 38, 39, 40, 41, 42, 43, 44, 45, 46, 47, 48, 49, 50, 51, 52, 53, 54, 55, 56, 57, 58, 59, 60, 61, 62, 63, 64, 65, 66, 67, 68, 69, 70, 71, 72, 73, 74, 75, 76, 77, 78, 79, 80, 81, 82, 83, 84, 85, 86, 87, 88, 89, 90, 91, 92, 93, 94, 95, 96, 97, 98, 99, 100, 101, 102, 103, 104, 105, 106, 107, 108, 109, 110, 111, 112, 113, 114, 115, 116, 117, 118, 119, 120, 121, 122, 123, 124, 125, 126, 127, 128, 129, 130, 131, 132, 133, 156, 157, 158, 159, 160, 161, 162, 163, 164, 165, 166, 167, 168, 169, 170, 171, 172, 173, 174, 175, 176, 177, 178, 179] (by decide +kernel) (by decide +kernel)) (goodIn_sub (fun _ h => List.mem_cons_of_mem _ (List.mem_append_left _ (List.mem_append_right _ h))) (by decide +kernel))
set_option maxRecDepth 20000 in
theorem gL_areBookingsSo_L_trains : GoodIn wsL_areBookingsSo (va_wsS RL 103 yL_trains wsL_trains) := goodIn_app (goodIn_of _ (by decide +kernel)) ggL_areBookingsSo_L_trains
set_option maxRecDepth 20000 in
theorem ggL_areBookingsSo_L_looks : GoodIn wsL_areBookingsSo wsL_looks := goodIn_ca (goodIn_r _ [8, 9, 1, 10, 11, 12, 13, 14, 15, 16, 17, 18, 19, 20, 21, 22, 23, 24, 25, 26, 27, 28, 29, 30, 31, 32, 33, 34, 35, 36, 37, 38, 39, 40, 41, 42, 43, 44, 45, 46, 47, 48, 49, 50, 51, 52, 53, 54, 55, 56, 57, 58, 59, 60, 61, 62, 63, 64, 65, 66, 67, 68, 69, 70, 71, 72, 73, 74, 75, 76, 77, 78, 79, 80, 81, 82, 83, 84, 85, 86, 87, 88, 89, 90, 91, 92, 93, 94, 95, 96, 97, 98, 99, 100, 101, 102, 103, 104, 105, 106, 107, 108, 109, 110, 111, 112, 113, 114, 115, 116, 117, 118, 119, 120, 121, 122, 123, 124, 125, 126, 127, 128, 129, 130, 131, 132, 133, 156, 157, 158, 159, 160, 161, 162, 163, 164, 165, 166, 167, 168, 169, 170, 171, 172, 173, 174, 175, 176, 177, 178, 179] (by decide +kernel) (by decide +kernel)) (goodIn_sub (fun _ h => List.mem_cons_of_mem _ (List.mem_append_left _ (List.mem_append_right _ h))) (by decide +kernel))
set_option maxRecDepth 20000 in
theorem gL_areBookingsSo_L_looks : GoodIn wsL_areBookingsSo (va_wsS RL 85 yL_looks wsL_looks) := goodIn_app (goodIn_of _ (by decide +kernel)) ggL_areBookingsSo_L_looks
set_option maxRecDepth 20000 in
theorem ggL_areBookingsSo_L_can : GoodIn wsL_areBookingsSo wsL_can := goodIn_ca (goodIn_ca (goodIn_r _ [136, 9, 137, 1, 138, 139, 140, 13, 141, 33, 17, 18, 19, 20, 21, 22, 15, 23, 77, 78, 79, 142, 143, 144, 145, 146, 147, 148, 149, 123, 150, 125, 126, 127, 132, 133, 156, 157, 158, 159, 160, 161, 162, 163, 164, 165, 166, 167, 168, 169, 170, 171, 172, 173, 174] (by decide +kernel) (by decide +kernel)) (goodIn_sub (fun _ h => List.mem_cons_of_mem _ (List.mem_append_left _ (List.mem_append_right _ h))) (by decide +kernel))) (goodIn_sub (fun _ h => List.mem_cons_of_mem _ (List.mem_append_right _ h)) (by decide +kernel))
set_option maxRecDepth 20000 in
theorem gL_areBookingsSo_L_can : GoodIn wsL_areBookingsSo (va_wsS RL 110 yL_can wsL_can) := goodIn_app (goodIn_of _ (by decide +kernel)) ggL_areBookingsSo_L_can
theorem dL_areBookingsSo_0 : decode cL_areBookingsSo 0 = .ok (.aload_n 0, 1) := by decide +kernel
theorem dL_areBookingsSo_1 : decode cL_areBookingsSo 1 = .ok (.invokestatic 103, 3) := by decide +kernel
theorem dL_areBookingsSo_4 : decode cL_areBookingsSo 4 = .ok (.istore_n 3, 1) := by decide +kernel
theorem dL_areBookingsSo_5 : decode cL_areBookingsSo 5 = .ok (.iconst 0, 1) := by decide +kernel
theorem dL_areBookingsSo_6 : decode cL_areBookingsSo 6 = .ok (.istore 4, 2) := by decide +kernel
theorem dL_areBookingsSo_8 : decode cL_areBookingsSo 8 = .ok (.iconst 1, 1) := by decide +kernel
theorem dL_areBookingsSo_9 : decode cL_areBookingsSo 9 = .ok (.istore 5, 2) := by decide +kernel
theorem dL_areBookingsSo_11 : decode cL_areBookingsSo 11 = .ok (.iconst 0, 1) := by decide +kernel
theorem dL_areBookingsSo_12 : decode cL_areBookingsSo 12 = .ok (.istore 6, 2) := by decide +kernel
theorem dL_areBookingsSo_14 : decode cL_areBookingsSo 14 = .ok (.aload_n 0, 1) := by decide +kernel
theorem dL_areBookingsSo_15 : decode cL_areBookingsSo 15 = .ok (.iconst 2, 1) := by decide +kernel
theorem dL_areBookingsSo_16 : decode cL_areBookingsSo 16 = .ok (.iload 6, 2) := by decide +kernel
theorem dL_areBookingsSo_18 : decode cL_areBookingsSo 18 = .ok (.iconst 0, 1) := by decide +kernel
theorem dL_areBookingsSo_19 : decode cL_areBookingsSo 19 = .ok (.invokestatic 85, 3) := by decide +kernel
theorem dL_areBookingsSo_22 : decode cL_areBookingsSo 22 = .ok (.ifCond .lt 69, 3) := by decide +kernel
theorem dL_areBookingsSo_25 : decode cL_areBookingsSo 25 = .ok (.iload 5, 2) := by decide +kernel
theorem dL_areBookingsSo_27 : decode cL_areBookingsSo 27 = .ok (.ifCond .eq 64, 3) := by decide +kernel
theorem dL_areBookingsSo_30 : decode cL_areBookingsSo 30 = .ok (.aload_n 0, 1) := by decide +kernel
theorem dL_areBookingsSo_31 : decode cL_areBookingsSo 31 = .ok (.iconst 2, 1) := by decide +kernel
theorem dL_areBookingsSo_32 : decode cL_areBookingsSo 32 = .ok (.iload 6, 2) := by decide +kernel
theorem dL_areBookingsSo_34 : decode cL_areBookingsSo 34 = .ok (.iconst 0, 1) := by decide +kernel
theorem dL_areBookingsSo_35 : decode cL_areBookingsSo 35 = .ok (.invokestatic 85, 3) := by decide +kernel
theorem dL_areBookingsSo_38 : decode cL_areBookingsSo 38 = .ok (.iconst 2, 1) := by decide +kernel
theorem dL_areBookingsSo_39 : decode cL_areBookingsSo 39 = .ok (.if_icmp .gt 43, 3) := by decide +kernel
theorem dL_areBookingsSo_42 : decode cL_areBookingsSo 42 = .ok (.aload_n 0, 1) := by decide +kernel
theorem dL_areBookingsSo_43 : decode cL_areBookingsSo 43 = .ok (.iconst 2, 1) := by decide +kernel
theorem dL_areBookingsSo_44 : decode cL_areBookingsSo 44 = .ok (.iload 6, 2) := by decide +kernel
theorem dL_areBookingsSo_46 : decode cL_areBookingsSo 46 = .ok (.iconst 0, 1) := by decide +kernel
theorem dL_areBookingsSo_47 : decode cL_areBookingsSo 47 = .ok (.invokestatic 85, 3) := by decide +kernel
theorem dL_areBookingsSo_50 : decode cL_areBookingsSo 50 = .ok (.iconst 1, 1) := by decide +kernel
theorem dL_areBookingsSo_51 : decode cL_areBookingsSo 51 = .ok (.if_icmp .ne 7, 3) := by decide +kernel
theorem dL_areBookingsSo_54 : decode cL_areBookingsSo 54 = .ok (.iconst 1, 1) := by decide +kernel
theorem dL_areBookingsSo_55 : decode cL_areBookingsSo 55 = .ok (.goto 4, 3) := by decide +kernel
theorem dL_areBookingsSo_58 : decode cL_areBookingsSo 58 = .ok (.iconst 0, 1) := by decide +kernel
theorem dL_areBookingsSo_59 : decode cL_areBookingsSo 59 = .ok (.aload_n 0, 1) := by decide +kernel
theorem dL_areBookingsSo_60 : decode cL_areBookingsSo 60 = .ok (.iconst 3, 1) := by decide +kernel
theorem dL_areBookingsSo_61 : decode cL_areBookingsSo 61 = .ok (.iload 6, 2) := by decide +kernel
theorem dL_areBookingsSo_63 : decode cL_areBookingsSo 63 = .ok (.iconst 0, 1) := by decide +kernel
theorem dL_areBookingsSo_64 : decode cL_areBookingsSo 64 = .ok (.invokestatic 85, 3) := by decide +kernel
theorem dL_areBookingsSo_67 : decode cL_areBookingsSo 67 = .ok (.ifCond .lt 7, 3) := by decide +kernel
theorem dL_areBookingsSo_70 : decode cL_areBookingsSo 70 = .ok (.iconst 1, 1) := by decide +kernel
theorem dL_areBookingsSo_71 : decode cL_areBookingsSo 71 = .ok (.goto 4, 3) := by decide +kernel
theorem dL_areBookingsSo_74 : decode cL_areBookingsSo 74 = .ok (.iconst 0, 1) := by decide +kernel
theorem dL_areBookingsSo_75 : decode cL_areBookingsSo 75 = .ok (.if_icmp .ne 7, 3) := by decide +kernel
theorem dL_areBookingsSo_78 : decode cL_areBookingsSo 78 = .ok (.iconst 1, 1) := by decide +kernel
theorem dL_areBookingsSo_79 : decode cL_areBookingsSo 79 = .ok (.goto 4, 3) := by decide +kernel
theorem dL_areBookingsSo_82 : decode cL_areBookingsSo 82 = .ok (.iconst 0, 1) := by decide +kernel
theorem dL_areBookingsSo_83 : decode cL_areBookingsSo 83 = .ok (.istore 5, 2) := by decide +kernel
theorem dL_areBookingsSo_85 : decode cL_areBookingsSo 85 = .ok (.iinc 6 1, 3) := by decide +kernel
theorem dL_areBookingsSo_88 : decode cL_areBookingsSo 88 = .ok (.goto (-74), 3) := by decide +kernel
theorem dL_areBookingsSo_91 : decode cL_areBookingsSo 91 = .ok (.iconst 0, 1) := by decide +kernel
theorem dL_areBookingsSo_92 : decode cL_areBookingsSo 92 = .ok (.istore 6, 2) := by decide +kernel
theorem dL_areBookingsSo_94 : decode cL_areBookingsSo 94 = .ok (.iload 6, 2) := by decide +kernel
theorem dL_areBookingsSo_96 : decode cL_areBookingsSo 96 = .ok (.iload_n 3, 1) := by decide +kernel
theorem dL_areBookingsSo_97 : decode cL_areBookingsSo 97 = .ok (.if_icmp .ge 119, 3) := by decide +kernel
theorem dL_areBookingsSo_100 : decode cL_areBookingsSo 100 = .ok (.iload 5, 2) := by decide +kernel
theorem dL_areBookingsSo_102 : decode cL_areBookingsSo 102 = .ok (.ifCond .eq 114, 3) := by decide +kernel
theorem dL_areBookingsSo_105 : decode cL_areBookingsSo 105 = .ok (.aload_n 0, 1) := by decide +kernel
theorem dL_areBookingsSo_106 : decode cL_areBookingsSo 106 = .ok (.iload 6, 2) := by decide +kernel
theorem dL_areBookingsSo_108 : decode cL_areBookingsSo 108 = .ok (.iload_n 1, 1) := by decide +kernel
theorem dL_areBookingsSo_109 : decode cL_areBookingsSo 109 = .ok (.iload_n 2, 1) := by decide +kernel
theorem dL_areBookingsSo_110 : decode cL_areBookingsSo 110 = .ok (.iload_n 2, 1) := by decide +kernel
theorem dL_areBookingsSo_111 : decode cL_areBookingsSo 111 = .ok (.bipush 9, 2) := by decide +kernel
theorem dL_areBookingsSo_113 : decode cL_areBookingsSo 113 = .ok (.iadd, 1) := by decide +kernel
theorem dL_areBookingsSo_114 : decode cL_areBookingsSo 114 = .ok (.invokestatic 110, 3) := by decide +kernel
theorem dL_areBookingsSo_117 : decode cL_areBookingsSo 117 = .ok (.istore 7, 2) := by decide +kernel
theorem dL_areBookingsSo_119 : decode cL_areBookingsSo 119 = .ok (.iconst 1, 1) := by decide +kernel
theorem dL_areBookingsSo_120 : decode cL_areBookingsSo 120 = .ok (.istore 8, 2) := by decide +kernel
theorem dL_areBookingsSo_122 : decode cL_areBookingsSo 122 = .ok (.iload_n 2, 1) := by decide +kernel
theorem dL_areBookingsSo_123 : decode cL_areBookingsSo 123 = .ok (.istore 9, 2) := by decide +kernel
theorem dL_areBookingsSo_125 : decode cL_areBookingsSo 125 = .ok (.iload 9, 2) := by decide +kernel
theorem dL_areBookingsSo_127 : decode cL_areBookingsSo 127 = .ok (.iload_n 2, 1) := by decide +kernel
theorem dL_areBookingsSo_128 : decode cL_areBookingsSo 128 = .ok (.bipush 10, 2) := by decide +kernel
theorem dL_areBookingsSo_130 : decode cL_areBookingsSo 130 = .ok (.iadd, 1) := by decide +kernel
theorem dL_areBookingsSo_131 : decode cL_areBookingsSo 131 = .ok (.if_icmp .ge 32, 3) := by decide +kernel
theorem dL_areBookingsSo_134 : decode cL_areBookingsSo 134 = .ok (.aload_n 0, 1) := by decide +kernel
theorem dL_areBookingsSo_135 : decode cL_areBookingsSo 135 = .ok (.iload 6, 2) := by decide +kernel
theorem dL_areBookingsSo_137 : decode cL_areBookingsSo 137 = .ok (.iload_n 1, 1) := by decide +kernel
theorem dL_areBookingsSo_138 : decode cL_areBookingsSo 138 = .ok (.iload 9, 2) := by decide +kernel
theorem dL_areBookingsSo_140 : decode cL_areBookingsSo 140 = .ok (.iload 9, 2) := by decide +kernel
theorem dL_areBookingsSo_142 : decode cL_areBookingsSo 142 = .ok (.invokestatic 110, 3) := by decide +kernel
theorem dL_areBookingsSo_145 : decode cL_areBookingsSo 145 = .ok (.iconst 1, 1) := by decide +kernel
theorem dL_areBookingsSo_146 : decode cL_areBookingsSo 146 = .ok (.if_icmp .ne 8, 3) := by decide +kernel
theorem dL_areBookingsSo_149 : decode cL_areBookingsSo 149 = .ok (.iload 8, 2) := by decide +kernel
theorem dL_areBookingsSo_151 : decode cL_areBookingsSo 151 = .ok (.goto 4, 3) := by decide +kernel
theorem dL_areBookingsSo_154 : decode cL_areBookingsSo 154 = .ok (.iconst 0, 1) := by decide +kernel
theorem dL_areBookingsSo_155 : decode cL_areBookingsSo 155 = .ok (.istore 8, 2) := by decide +kernel
theorem dL_areBookingsSo_157 : decode cL_areBookingsSo 157 = .ok (.iinc 9 1, 3) := by decide +kernel
theorem dL_areBookingsSo_160 : decode cL_areBookingsSo 160 = .ok (.goto (-35), 3) := by decide +kernel
theorem dL_areBookingsSo_163 : decode cL_areBookingsSo 163 = .ok (.iload 4, 2) := by decide +kernel
theorem dL_areBookingsSo_165 : decode cL_areBookingsSo 165 = .ok (.iload 7, 2) := by decide +kernel
theorem dL_areBookingsSo_167 : decode cL_areBookingsSo 167 = .ok (.iadd, 1) := by decide +kernel
theorem dL_areBookingsSo_168 : decode cL_areBookingsSo 168 = .ok (.istore 4, 2) := by decide +kernel
theorem dL_areBookingsSo_170 : decode cL_areBookingsSo 170 = .ok (.iload 7, 2) := by decide +kernel
theorem dL_areBookingsSo_172 : decode cL_areBookingsSo 172 = .ok (.iload 8, 2) := by decide +kernel
theorem dL_areBookingsSo_174 : decode cL_areBookingsSo 174 = .ok (.if_icmp .ne 33, 3) := by decide +kernel
theorem dL_areBookingsSo_177 : decode cL_areBookingsSo 177 = .ok (.aload_n 0, 1) := by decide +kernel
theorem dL_areBookingsSo_178 : decode cL_areBookingsSo 178 = .ok (.iload 6, 2) := by decide +kernel
theorem dL_areBookingsSo_180 : decode cL_areBookingsSo 180 = .ok (.iload_n 1, 1) := by decide +kernel
theorem dL_areBookingsSo_181 : decode cL_areBookingsSo 181 = .ok (.iload_n 2, 1) := by decide +kernel
theorem dL_areBookingsSo_182 : decode cL_areBookingsSo 182 = .ok (.iload_n 2, 1) := by decide +kernel
theorem dL_areBookingsSo_183 : decode cL_areBookingsSo 183 = .ok (.bipush 9, 2) := by decide +kernel
theorem dL_areBookingsSo_185 : decode cL_areBookingsSo 185 = .ok (.iadd, 1) := by decide +kernel
theorem dL_areBookingsSo_186 : decode cL_areBookingsSo 186 = .ok (.invokevirtual 113, 3) := by decide +kernel
theorem dL_areBookingsSo_189 : decode cL_areBookingsSo 189 = .ok (.iload 7, 2) := by decide +kernel
theorem dL_areBookingsSo_191 : decode cL_areBookingsSo 191 = .ok (.iconst 1, 1) := by decide +kernel
theorem dL_areBookingsSo_192 : decode cL_areBookingsSo 192 = .ok (.if_icmp .ne 7, 3) := by decide +kernel
theorem dL_areBookingsSo_195 : decode cL_areBookingsSo 195 = .ok (.iconst 1, 1) := by decide +kernel
theorem dL_areBookingsSo_196 : decode cL_areBookingsSo 196 = .ok (.goto 4, 3) := by decide +kernel
theorem dL_areBookingsSo_199 : decode cL_areBookingsSo 199 = .ok (.iconst 0, 1) := by decide +kernel
theorem dL_areBookingsSo_200 : decode cL_areBookingsSo 200 = .ok (.if_icmp .ne 7, 3) := by decide +kernel
theorem dL_areBookingsSo_203 : decode cL_areBookingsSo 203 = .ok (.iconst 1, 1) := by decide +kernel
theorem dL_areBookingsSo_204 : decode cL_areBookingsSo 204 = .ok (.goto 4, 3) := by decide +kernel
theorem dL_areBookingsSo_207 : decode cL_areBookingsSo 207 = .ok (.iconst 0, 1) := by decide +kernel
theorem dL_areBookingsSo_208 : decode cL_areBookingsSo 208 = .ok (.istore 5, 2) := by decide +kernel
theorem dL_areBookingsSo_210 : decode cL_areBookingsSo 210 = .ok (.iinc 6 1, 3) := by decide +kernel
theorem dL_areBookingsSo_213 : decode cL_areBookingsSo 213 = .ok (.goto (-119), 3) := by decide +kernel
theorem dL_areBookingsSo_216 : decode cL_areBookingsSo 216 = .ok (.iload 5, 2) := by decide +kernel
theorem dL_areBookingsSo_218 : decode cL_areBookingsSo 218 = .ok (.ifCond .eq 32, 3) := by decide +kernel
theorem dL_areBookingsSo_221 : decode cL_areBookingsSo 221 = .ok (.iload 4, 2) := by decide +kernel
theorem dL_areBookingsSo_223 : decode cL_areBookingsSo 223 = .ok (.iload_n 3, 1) := by decide +kernel
theorem dL_areBookingsSo_224 : decode cL_areBookingsSo 224 = .ok (.if_icmp .eq 9, 3) := by decide +kernel
theorem dL_areBookingsSo_227 : decode cL_areBookingsSo 227 = .ok (.iload 4, 2) := by decide +kernel
theorem dL_areBookingsSo_229 : decode cL_areBookingsSo 229 = .ok (.iconst 1, 1) := by decide +kernel
theorem dL_areBookingsSo_230 : decode cL_areBookingsSo 230 = .ok (.if_icmp .gt 20, 3) := by decide +kernel
theorem dL_areBookingsSo_233 : decode cL_areBookingsSo 233 = .ok (.aload_n 0, 1) := by decide +kernel
theorem dL_areBookingsSo_234 : decode cL_areBookingsSo 234 = .ok (.iload_n 3, 1) := by decide +kernel
theorem dL_areBookingsSo_235 : decode cL_areBookingsSo 235 = .ok (.iload_n 1, 1) := by decide +kernel
theorem dL_areBookingsSo_236 : decode cL_areBookingsSo 236 = .ok (.iload_n 2, 1) := by decide +kernel
theorem dL_areBookingsSo_237 : decode cL_areBookingsSo 237 = .ok (.iload_n 2, 1) := by decide +kernel
theorem dL_areBookingsSo_238 : decode cL_areBookingsSo 238 = .ok (.invokestatic 110, 3) := by decide +kernel
theorem dL_areBookingsSo_241 : decode cL_areBookingsSo 241 = .ok (.ldc 54, 2) := by decide +kernel
theorem dL_areBookingsSo_243 : decode cL_areBookingsSo 243 = .ok (.if_icmp .ne 7, 3) := by decide +kernel
theorem dL_areBookingsSo_246 : decode cL_areBookingsSo 246 = .ok (.iconst 1, 1) := by decide +kernel
theorem dL_areBookingsSo_247 : decode cL_areBookingsSo 247 = .ok (.goto 4, 3) := by decide +kernel
theorem dL_areBookingsSo_250 : decode cL_areBookingsSo 250 = .ok (.iconst 0, 1) := by decide +kernel
theorem dL_areBookingsSo_251 : decode cL_areBookingsSo 251 = .ok (.ireturn, 1) := by decide +kernel
end
section
theorem inlX0 : ∀ w ∈ wsX00, w ∈ wsL_law := fun _ h => List.mem_append_left _ (List.mem_append_left _ (List.mem_append_left _ (List.mem_append_left _ (List.mem_append_left _ (List.mem_append_left _ (List.mem_append_right _ h))))))
theorem inlX1 : ∀ w ∈ wsX10, w ∈ wsL_law := fun _ h => List.mem_append_left _ (List.mem_append_left _ (List.mem_append_left _ (List.mem_append_left _ (List.mem_append_right _ h))))
theorem inlX2 : ∀ w ∈ wsX20, w ∈ wsL_law := fun _ h => List.mem_append_left _ (List.mem_append_left _ (List.mem_append_left _ (List.mem_append_left _ (List.mem_append_left _ (List.mem_append_left _ (List.mem_append_left _ (List.mem_append_left _ (List.mem_append_right _ h))))))))
theorem inlX3 : ∀ w ∈ wsX30, w ∈ wsL_law := fun _ h => List.mem_append_left _ (List.mem_append_left _ (List.mem_append_left _ (List.mem_append_left _ (List.mem_append_left _ (List.mem_append_left _ (List.mem_append_left _ (List.mem_append_right _ h)))))))
theorem inlX4 : ∀ w ∈ wsX40, w ∈ wsL_law := fun _ h => List.mem_append_left _ (List.mem_append_left _ (List.mem_append_left _ (List.mem_append_left _ (List.mem_append_left _ (List.mem_append_right _ h)))))
theorem inlX5 : ∀ w ∈ wsX50, w ∈ wsL_law := fun _ h => List.mem_append_left _ (List.mem_append_left _ (List.mem_append_left _ (List.mem_append_left _ (List.mem_append_left _ (List.mem_append_left _ (List.mem_append_left _ (List.mem_append_left _ (List.mem_append_left _ (List.mem_append_right _ h)))))))))
theorem goodIn_c1 {big a : List Cond} {c : Cond} (hc : GoodIn big [c]) (ha : GoodIn big a) : GoodIn big (c :: a) := fun w h => (List.mem_cons.mp h).elim (fun e => hc w (List.mem_singleton.mpr e)) (ha w)
end
section
set_option maxRecDepth 20000 in
theorem qc_L_law_L_act : GoodIn wsL_law [Cond.code yL_act cL_act 6 (some .int)] := goodIn_r _ [70] (by decide +kernel) (by decide +kernel)
set_option maxRecDepth 20000 in
theorem q_L_law_wsL_act_r1 : GoodIn wsL_law wsL_act_r1 := goodIn_r _ [71, 72, 66, 73, 74, 75, 76, 77, 78, 79, 80, 3, 81, 82, 83, 2, 84, 85, 86, 17, 87, 88, 89, 90] (by decide +kernel) (by decide +kernel)
set_option maxRecDepth 20000 in
theorem q_L_law_wsL_act_r2 : GoodIn wsL_law wsL_act_r2 := goodIn_r _ [91, 92, 93, 94, 95, 16, 96, 97, 40, 98, 99, 100, 101, 41, 102, 103, 104, 105, 106, 107, 108, 109, 110, 111] (by decide +kernel) (by decide +kernel)
set_option maxRecDepth 20000 in
theorem q_L_law_wsL_act_r3 : GoodIn wsL_law wsL_act_r3 := goodIn_r _ [112, 113, 114, 115, 116, 117, 118, 119, 120, 121, 122, 123, 124, 125, 126, 127, 128, 129, 130, 131, 132, 13, 133, 134] (by decide +kernel) (by decide +kernel)
set_option maxRecDepth 20000 in
theorem q_L_law_wsL_act_r4 : GoodIn wsL_law wsL_act_r4 := goodIn_r _ [135, 12, 136, 35, 137, 138, 139, 140, 141, 22, 142, 143, 144, 145, 146, 147, 148, 149, 43, 42, 150, 151, 152, 153] (by decide +kernel) (by decide +kernel)
set_option maxRecDepth 20000 in
theorem q_L_law_wsL_act_r5 : GoodIn wsL_law wsL_act_r5 := goodIn_r _ [154, 155, 156, 157, 158, 159, 160, 161, 162, 163, 164, 165, 166, 21, 167, 168, 48, 47, 169, 170, 171, 172, 49, 50] (by decide +kernel) (by decide +kernel)
set_option maxRecDepth 20000 in
theorem q_L_law_wsL_act_r6 : GoodIn wsL_law wsL_act_r6 := goodIn_r _ [173, 174, 175, 176, 51, 177, 178, 179, 180, 181, 182, 183, 184, 185, 186, 187, 188, 189, 190, 191, 192, 193, 194, 195] (by decide +kernel) (by decide +kernel)
set_option maxRecDepth 20000 in
theorem q_L_law_wsL_act_r7 : GoodIn wsL_law wsL_act_r7 := goodIn_r _ [196, 197, 26, 198, 199, 200, 201, 202, 203, 204, 205, 206, 207, 208, 209, 210, 211, 25, 212, 213, 214, 215, 216, 217] (by decide +kernel) (by decide +kernel)
set_option maxRecDepth 20000 in
theorem q_L_law_wsL_act_r8 : GoodIn wsL_law wsL_act_r8 := goodIn_r _ [55, 218, 219, 220, 221, 56, 57, 222, 223, 224, 225, 226, 227, 228, 30, 229, 230, 231, 29, 232, 61, 62, 63, 233] (by decide +kernel) (by decide +kernel)
set_option maxRecDepth 20000 in
theorem q_L_law_wsL_act_r9 : GoodIn wsL_law wsL_act_r9 := goodIn_r _ [234, 235, 236, 237, 238, 239, 240, 241, 242, 243, 244, 245, 246, 247, 248, 249, 250, 251, 252, 253, 254, 255, 256, 257] (by decide +kernel) (by decide +kernel)
set_option maxRecDepth 20000 in
theorem q_L_law_wsL_act_r10 : GoodIn wsL_law wsL_act_r10 := goodIn_r _ [258, 259, 260, 261, 262, 263, 264, 265, 266, 267, 268, 269, 270, 271, 272, 273, 274, 275, 276, 277, 278, 279, 280, 281] (by decide +kernel) (by decide +kernel)
set_option maxRecDepth 20000 in
theorem q_L_law_wsL_act_r11 : GoodIn wsL_law wsL_act_r11 := goodIn_r _ [282] (by decide +kernel) (by decide +kernel)
set_option maxRecDepth 20000 in
theorem ggL_law_L_act : GoodIn wsL_law wsL_act := goodIn_ca (goodIn_ca (goodIn_ca (goodIn_c1 qc_L_law_L_act (goodIn_app (goodIn_app (goodIn_app (goodIn_app (goodIn_app (goodIn_app (goodIn_app q_L_law_wsL_act_r1 (goodIn_app q_L_law_wsL_act_r2 (goodIn_app q_L_law_wsL_act_r3 (goodIn_app q_L_law_wsL_act_r4 (goodIn_app q_L_law_wsL_act_r5 (goodIn_app q_L_law_wsL_act_r6 (goodIn_app q_L_law_wsL_act_r7 (goodIn_app q_L_law_wsL_act_r8 (goodIn_app q_L_law_wsL_act_r9 (goodIn_app q_L_law_wsL_act_r10 q_L_law_wsL_act_r11)))))))))) (goodIn_sub inlX5 (by decide +kernel))) (goodIn_sub inlX3 (by decide +kernel))) (goodIn_sub inlX2 (by decide +kernel))) (goodIn_sub inlX0 (by decide +kernel))) (goodIn_sub inlX4 (by decide +kernel))) (goodIn_sub inlX1 (by decide +kernel)))) (goodIn_sub (fun _ h => List.mem_append_left _ (List.mem_append_left _ (List.mem_append_right _ h))) (by decide +kernel))) (goodIn_sub (fun _ h => List.mem_append_left _ (List.mem_append_right _ h)) (by decide +kernel))) (goodIn_sub (fun _ h => List.mem_append_right _ h) (by decide +kernel))
end
section
set_option maxRecDepth 20000 in
theorem qc_L_law_L_areAlike : GoodIn wsL_law [Cond.code yL_areAlike cL_areAlike 4 (some .boolean)] := goodIn_r _ [285] (by decide +kernel) (by decide +kernel)
set_option maxRecDepth 20000 in
theorem q_L_law_wsL_areAlike_r1 : GoodIn wsL_law wsL_areAlike_r1 := goodIn_r _ [279, 280, 281, 2, 282, 141, 286, 287, 288, 289, 267, 290, 291, 66, 292, 78, 3, 293, 294, 295, 296, 17, 242, 107] (by decide +kernel) (by decide +kernel)
set_option maxRecDepth 20000 in
theorem q_L_law_wsL_areAlike_r2 : GoodIn wsL_law wsL_areAlike_r2 := goodIn_r _ [108, 109, 110, 91, 92, 87, 297, 298, 299, 300, 301, 302, 303, 304, 305, 22, 306, 307, 308, 309, 310, 311, 182, 312] (by decide +kernel) (by decide +kernel)
set_option maxRecDepth 20000 in
theorem q_L_law_wsL_areAlike_r3 : GoodIn wsL_law wsL_areAlike_r3 := goodIn_r _ [313, 314, 315, 316, 317, 318, 319, 26, 202, 203, 204, 210, 211, 25, 212, 320, 251, 252, 253, 56, 57, 243, 244, 245] (by decide +kernel) (by decide +kernel)
set_option maxRecDepth 20000 in
theorem q_L_law_wsL_areAlike_r4 : GoodIn wsL_law wsL_areAlike_r4 := goodIn_r _ [321, 322, 323, 324, 325, 326, 327, 328, 18, 13, 88, 89, 90, 329, 330, 331, 16, 332, 97, 40, 41, 42, 43, 142] (by decide +kernel) (by decide +kernel)
set_option maxRecDepth 20000 in
theorem q_L_law_wsL_areAlike_r5 : GoodIn wsL_law wsL_areAlike_r5 := goodIn_r _ [143, 144, 145, 146, 147, 148, 149, 150, 151, 152, 12, 153, 154, 155, 156, 157, 35, 158, 159, 160, 161, 162, 126, 127] (by decide +kernel) (by decide +kernel)
set_option maxRecDepth 20000 in
theorem q_L_law_wsL_areAlike_r6 : GoodIn wsL_law wsL_areAlike_r6 := goodIn_r _ [128, 163, 94, 95, 96, 164, 165, 166, 21, 167, 168, 48, 47, 169, 170, 171, 172, 49, 50] (by decide +kernel) (by decide +kernel)
set_option maxRecDepth 20000 in
theorem ggL_law_L_areAlike : GoodIn wsL_law wsL_areAlike := goodIn_ca (goodIn_c1 qc_L_law_L_areAlike (goodIn_app (goodIn_app (goodIn_app (goodIn_app (goodIn_app (goodIn_app q_L_law_wsL_areAlike_r1 (goodIn_app q_L_law_wsL_areAlike_r2 (goodIn_app q_L_law_wsL_areAlike_r3 (goodIn_app q_L_law_wsL_areAlike_r4 (goodIn_app q_L_law_wsL_areAlike_r5 q_L_law_wsL_areAlike_r6))))) (goodIn_sub inlX5 (by decide +kernel))) (goodIn_sub inlX3 (by decide +kernel))) (goodIn_sub inlX0 (by decide +kernel))) (goodIn_sub inlX4 (by decide +kernel))) (goodIn_sub inlX2 (by decide +kernel)))) (goodIn_sub (fun _ h => List.mem_append_left _ (List.mem_append_right _ h)) (by decide +kernel))
end
section
set_option maxRecDepth 20000 in
theorem qc_L_law_L_arePlacesSo : GoodIn wsL_law [Cond.code yL_arePlacesSo cL_arePlacesSo 10 (some .boolean)] := goodIn_r _ [335] (by decide +kernel) (by decide +kernel)
set_option maxRecDepth 20000 in
theorem q_L_law_wsL_arePlacesSo_r1 : GoodIn wsL_law wsL_arePlacesSo_r1 := goodIn_r _ [3, 336, 337, 66, 338, 290, 291, 292, 78, 293, 294, 295, 2, 296, 17, 242, 107, 108, 109, 110, 91, 92, 87, 297] (by decide +kernel) (by decide +kernel)
set_option maxRecDepth 20000 in
theorem q_L_law_wsL_arePlacesSo_r2 : GoodIn wsL_law wsL_arePlacesSo_r2 := goodIn_r _ [298, 299, 300, 301, 302, 303, 304, 305, 22, 306, 307, 141, 308, 309, 310, 311, 182, 312, 313, 314, 315, 316, 317, 318] (by decide +kernel) (by decide +kernel)
set_option maxRecDepth 20000 in
theorem q_L_law_wsL_arePlacesSo_r3 : GoodIn wsL_law wsL_arePlacesSo_r3 := goodIn_r _ [319, 26, 202, 203, 204, 210, 211, 25, 212, 320, 251, 252, 253, 56, 57, 243, 244, 245, 321, 322, 323, 324, 325, 326] (by decide +kernel) (by decide +kernel)
set_option maxRecDepth 20000 in
theorem q_L_law_wsL_arePlacesSo_r4 : GoodIn wsL_law wsL_arePlacesSo_r4 := goodIn_r _ [327, 328, 18, 13, 88, 89, 90, 329, 330, 331, 16, 332, 97, 40, 41, 42, 43, 142, 143, 144, 145, 146, 147, 148] (by decide +kernel) (by decide +kernel)
set_option maxRecDepth 20000 in
theorem q_L_law_wsL_arePlacesSo_r5 : GoodIn wsL_law wsL_arePlacesSo_r5 := goodIn_r _ [149, 150, 151, 152, 12, 153, 154, 155, 156, 157, 35, 158, 159, 160, 161, 162, 126, 127, 128, 163, 94, 95, 96, 164] (by decide +kernel) (by decide +kernel)
set_option maxRecDepth 20000 in
theorem q_L_law_wsL_arePlacesSo_r6 : GoodIn wsL_law wsL_arePlacesSo_r6 := goodIn_r _ [165, 166, 21, 167, 168, 48, 47, 169, 170, 171, 172, 49, 50, 279, 280, 281, 282, 286, 287, 288, 289, 267, 339, 340] (by decide +kernel) (by decide +kernel)
set_option maxRecDepth 20000 in
theorem q_L_law_wsL_arePlacesSo_r7 : GoodIn wsL_law wsL_arePlacesSo_r7 := goodIn_r _ [341, 342, 93] (by decide +kernel) (by decide +kernel)
set_option maxRecDepth 20000 in
theorem ggL_law_L_arePlacesSo : GoodIn wsL_law wsL_arePlacesSo := goodIn_ca (goodIn_c1 qc_L_law_L_arePlacesSo (goodIn_app (goodIn_app (goodIn_app (goodIn_app (goodIn_app (goodIn_app q_L_law_wsL_arePlacesSo_r1 (goodIn_app q_L_law_wsL_arePlacesSo_r2 (goodIn_app q_L_law_wsL_arePlacesSo_r3 (goodIn_app q_L_law_wsL_arePlacesSo_r4 (goodIn_app q_L_law_wsL_arePlacesSo_r5 (goodIn_app q_L_law_wsL_arePlacesSo_r6 q_L_law_wsL_arePlacesSo_r7)))))) (goodIn_sub inlX5 (by decide +kernel))) (goodIn_sub inlX3 (by decide +kernel))) (goodIn_sub inlX0 (by decide +kernel))) (goodIn_sub inlX4 (by decide +kernel))) (goodIn_sub inlX2 (by decide +kernel)))) (goodIn_sub (fun _ h => List.mem_append_left _ (List.mem_append_right _ h)) (by decide +kernel))
end
section
set_option maxRecDepth 20000 in
theorem qc_L_law_L_areBookingsSo : GoodIn wsL_law [Cond.code yL_areBookingsSo cL_areBookingsSo 10 (some .boolean)] := goodIn_r _ [345] (by decide +kernel) (by decide +kernel)
set_option maxRecDepth 20000 in
theorem q_L_law_wsL_areBookingsSo_r1 : GoodIn wsL_law wsL_areBookingsSo_r1 := goodIn_r _ [3, 336, 337, 66, 338, 290, 291, 292, 78, 293, 294, 295, 2, 296, 17, 242, 107, 108, 109, 110, 91, 92, 87, 297] (by decide +kernel) (by decide +kernel)
set_option maxRecDepth 20000 in
theorem q_L_law_wsL_areBookingsSo_r2 : GoodIn wsL_law wsL_areBookingsSo_r2 := goodIn_r _ [298, 299, 300, 301, 302, 303, 304, 305, 22, 306, 307, 141, 308, 309, 310, 311, 182, 312, 313, 314, 315, 316, 317, 318] (by decide +kernel) (by decide +kernel)
set_option maxRecDepth 20000 in
theorem q_L_law_wsL_areBookingsSo_r3 : GoodIn wsL_law wsL_areBookingsSo_r3 := goodIn_r _ [319, 26, 202, 203, 204, 210, 211, 25, 212, 320, 251, 252, 253, 56, 57, 243, 244, 245, 321, 322, 323, 324, 325, 326] (by decide +kernel) (by decide +kernel)
set_option maxRecDepth 20000 in
theorem q_L_law_wsL_areBookingsSo_r4 : GoodIn wsL_law wsL_areBookingsSo_r4 := goodIn_r _ [327, 328, 18, 13, 88, 89, 90, 329, 330, 331, 16, 332, 97, 40, 41, 42, 43, 142, 143, 144, 145, 146, 147, 148] (by decide +kernel) (by decide +kernel)
set_option maxRecDepth 20000 in
theorem q_L_law_wsL_areBookingsSo_r5 : GoodIn wsL_law wsL_areBookingsSo_r5 := goodIn_r _ [149, 150, 151, 152, 12, 153, 154, 155, 156, 157, 35, 158, 159, 160, 161, 162, 126, 127, 128, 163, 94, 95, 96, 164] (by decide +kernel) (by decide +kernel)
set_option maxRecDepth 20000 in
theorem q_L_law_wsL_areBookingsSo_r6 : GoodIn wsL_law wsL_areBookingsSo_r6 := goodIn_r _ [165, 166, 21, 167, 168, 48, 47, 169, 170, 171, 172, 49, 50, 346, 347, 348, 79, 349, 350, 351, 352, 183, 184, 185] (by decide +kernel) (by decide +kernel)
set_option maxRecDepth 20000 in
theorem q_L_law_wsL_areBookingsSo_r7 : GoodIn wsL_law wsL_areBookingsSo_r7 := goodIn_r _ [115, 116, 186, 187, 188, 189, 353, 354, 355, 356, 357] (by decide +kernel) (by decide +kernel)
set_option maxRecDepth 20000 in
theorem ggL_law_L_areBookingsSo : GoodIn wsL_law wsL_areBookingsSo := goodIn_ca (goodIn_ca (goodIn_c1 qc_L_law_L_areBookingsSo (goodIn_app (goodIn_app (goodIn_app (goodIn_app (goodIn_app (goodIn_app q_L_law_wsL_areBookingsSo_r1 (goodIn_app q_L_law_wsL_areBookingsSo_r2 (goodIn_app q_L_law_wsL_areBookingsSo_r3 (goodIn_app q_L_law_wsL_areBookingsSo_r4 (goodIn_app q_L_law_wsL_areBookingsSo_r5 (goodIn_app q_L_law_wsL_areBookingsSo_r6 q_L_law_wsL_areBookingsSo_r7)))))) (goodIn_sub inlX5 (by decide +kernel))) (goodIn_sub inlX3 (by decide +kernel))) (goodIn_sub inlX0 (by decide +kernel))) (goodIn_sub inlX4 (by decide +kernel))) (goodIn_sub inlX2 (by decide +kernel)))) (goodIn_sub (fun _ h => List.mem_append_left _ (List.mem_append_right _ h)) (by decide +kernel))) (goodIn_sub (fun _ h => List.mem_append_right _ h) (by decide +kernel))
end
section
set_option maxRecDepth 20000 in
theorem qc_L_law_X5_init : GoodIn wsL_law [Cond.code yX5_init cX5_init 1 none] := goodIn_r _ [6] (by decide +kernel) (by decide +kernel)
set_option maxRecDepth 20000 in
theorem q_L_law_wsX5_init_r1 : GoodIn wsL_law wsX5_init_r1 := goodIn_r _ [7, 8, 9, 10, 11, 12, 13, 14, 15, 16, 17, 18, 19, 20, 21, 22, 23, 24, 25, 26, 27, 28, 29, 30] (by decide +kernel) (by decide +kernel)
set_option maxRecDepth 20000 in
theorem q_L_law_wsX5_init_r2 : GoodIn wsL_law wsX5_init_r2 := goodIn_r _ [31, 32, 33, 34, 35, 36, 37, 38, 39, 40, 41, 42, 43, 44, 45, 46, 47, 48, 49, 50, 51, 52, 53, 54] (by decide +kernel) (by decide +kernel)
set_option maxRecDepth 20000 in
theorem q_L_law_wsX5_init_r3 : GoodIn wsL_law wsX5_init_r3 := goodIn_r _ [55, 56, 57, 58, 59, 60, 61, 62, 63] (by decide +kernel) (by decide +kernel)
set_option maxRecDepth 20000 in
theorem ggL_law_X5_init : GoodIn wsL_law wsX5_init := (goodIn_c1 qc_L_law_X5_init (goodIn_app (goodIn_app (goodIn_app (goodIn_app (goodIn_app (goodIn_app (goodIn_app q_L_law_wsX5_init_r1 (goodIn_app q_L_law_wsX5_init_r2 q_L_law_wsX5_init_r3)) (goodIn_sub inlX2 (by decide +kernel))) (goodIn_sub inlX5 (by decide +kernel))) (goodIn_sub inlX3 (by decide +kernel))) (goodIn_sub inlX0 (by decide +kernel))) (goodIn_sub inlX4 (by decide +kernel))) (goodIn_sub inlX1 (by decide +kernel))))
end
section
theorem wsL_law_x0 : ∀ w ∈ (vx_atS RX5 59 "java/lang/IllegalStateException" ["java/lang/RuntimeException", "java/lang/Exception"]).filter goodWord, w ∈ lw_tbl := by decide +kernel
theorem wsL_law_x1 : ∀ w ∈ (vx_atS RX5 99 "java/lang/IndexOutOfBoundsException" ["java/lang/RuntimeException", "java/lang/Exception"]).filter goodWord, w ∈ lw_tbl := by decide +kernel
theorem wsL_law_x2 : ∀ w ∈ (vx_atS RX5 90 "java/lang/IllegalArgumentException" ["java/lang/RuntimeException", "java/lang/Exception"]).filter goodWord, w ∈ lw_tbl := by decide +kernel
theorem wsL_law_in : ∀ w ∈ wsL_law, w ∈ lw_tbl := fun w h => (List.mem_append.mp h).elim (fun h => (List.mem_append.mp h).elim (fun h => (List.mem_append.mp h).elim (fun h => wsL_law_in0 w h) (fun h => wsL_law_x0 w h)) (fun h => wsL_law_x1 w h)) (fun h => wsL_law_x2 w h)
theorem inX0 : ∀ w ∈ wsX00, w ∈ lw_tbl := fun w h => wsL_law_in w (inlX0 w h)
theorem inX1 : ∀ w ∈ wsX10, w ∈ lw_tbl := fun w h => wsL_law_in w (inlX1 w h)
theorem inX2 : ∀ w ∈ wsX20, w ∈ lw_tbl := fun w h => wsL_law_in w (inlX2 w h)
theorem inX3 : ∀ w ∈ wsX30, w ∈ lw_tbl := fun w h => wsL_law_in w (inlX3 w h)
theorem inX4 : ∀ w ∈ wsX40, w ∈ lw_tbl := fun w h => wsL_law_in w (inlX4 w h)
theorem inX5 : ∀ w ∈ wsX50, w ∈ lw_tbl := fun w h => wsL_law_in w (inlX5 w h)
set_option maxRecDepth 20000 in
theorem gL_law_X5_init : GoodIn wsL_law (wsX5_init) := ggL_law_X5_init
set_option maxRecDepth 20000 in
theorem ggL_law_L_cell : GoodIn wsL_law wsL_cell := goodIn_r _ [67] (by decide +kernel) (by decide +kernel)
set_option maxRecDepth 20000 in
theorem gL_law_L_cell : GoodIn wsL_law (va_wsS RL 117 yL_cell wsL_cell) := goodIn_app (goodIn_of _ (by decide +kernel)) ggL_law_L_cell
set_option maxRecDepth 20000 in
theorem gL_law_L_act : GoodIn wsL_law (va_wsS RL 121 yL_act wsL_act) := goodIn_app (goodIn_of _ (by decide +kernel)) ggL_law_L_act
set_option maxRecDepth 20000 in
theorem gL_law_L_areAlike : GoodIn wsL_law (va_wsS RL 125 yL_areAlike wsL_areAlike) := goodIn_app (goodIn_of _ (by decide +kernel)) ggL_law_L_areAlike
set_option maxRecDepth 20000 in
theorem gL_law_L_arePlacesSo : GoodIn wsL_law (va_wsS RL 129 yL_arePlacesSo wsL_arePlacesSo) := goodIn_app (goodIn_of _ (by decide +kernel)) ggL_law_L_arePlacesSo
set_option maxRecDepth 20000 in
theorem ggL_law_L_low : GoodIn wsL_law wsL_low := goodIn_r _ [73, 74] (by decide +kernel) (by decide +kernel)
set_option maxRecDepth 20000 in
theorem gL_law_L_low : GoodIn wsL_law (va_wsS RL 89 yL_low wsL_low) := goodIn_app (goodIn_of _ (by decide +kernel)) ggL_law_L_low
set_option maxRecDepth 20000 in
theorem gL_law_L_areBookingsSo : GoodIn wsL_law (va_wsS RL 133 yL_areBookingsSo wsL_areBookingsSo) := goodIn_app (goodIn_of _ (by decide +kernel)) ggL_law_L_areBookingsSo
theorem dL_law_0 : decode cL_law 0 = .ok (.new 9, 3) := by decide +kernel
theorem dL_law_3 : decode cL_law 3 = .ok (.dup, 1) := by decide +kernel
theorem dL_law_4 : decode cL_law 4 = .ok (.invokespecial 116, 3) := by decide +kernel
theorem dL_law_7 : decode cL_law 7 = .ok (.astore_n 1, 1) := by decide +kernel
theorem dL_law_8 : decode cL_law 8 = .ok (.new 9, 3) := by decide +kernel
theorem dL_law_11 : decode cL_law 11 = .ok (.dup, 1) := by decide +kernel
theorem dL_law_12 : decode cL_law 12 = .ok (.invokespecial 116, 3) := by decide +kernel
theorem dL_law_15 : decode cL_law 15 = .ok (.astore_n 2, 1) := by decide +kernel
theorem dL_law_16 : decode cL_law 16 = .ok (.iconst 0, 1) := by decide +kernel
theorem dL_law_17 : decode cL_law 17 = .ok (.istore_n 3, 1) := by decide +kernel
theorem dL_law_18 : decode cL_law 18 = .ok (.iload_n 3, 1) := by decide +kernel
theorem dL_law_19 : decode cL_law 19 = .ok (.bipush 110, 2) := by decide +kernel
theorem dL_law_21 : decode cL_law 21 = .ok (.if_icmp .ge 180, 3) := by decide +kernel
theorem dL_law_24 : decode cL_law 24 = .ok (.aload_n 0, 1) := by decide +kernel
theorem dL_law_25 : decode cL_law 25 = .ok (.iload_n 3, 1) := by decide +kernel
theorem dL_law_26 : decode cL_law 26 = .ok (.bipush 61, 2) := by decide +kernel
theorem dL_law_28 : decode cL_law 28 = .ok (.irem, 1) := by decide +kernel
theorem dL_law_29 : decode cL_law 29 = .ok (.invokestatic 117, 3) := by decide +kernel
theorem dL_law_32 : decode cL_law 32 = .ok (.sipush 1151, 3) := by decide +kernel
theorem dL_law_35 : decode cL_law 35 = .ok (.iload_n 3, 1) := by decide +kernel
theorem dL_law_36 : decode cL_law 36 = .ok (.bipush 61, 2) := by decide +kernel
theorem dL_law_38 : decode cL_law 38 = .ok (.idiv, 1) := by decide +kernel
theorem dL_law_39 : decode cL_law 39 = .ok (.imul, 1) := by decide +kernel
theorem dL_law_40 : decode cL_law 40 = .ok (.iadd, 1) := by decide +kernel
theorem dL_law_41 : decode cL_law 41 = .ok (.istore 4, 2) := by decide +kernel
theorem dL_law_43 : decode cL_law 43 = .ok (.aload_n 1, 1) := by decide +kernel
theorem dL_law_44 : decode cL_law 44 = .ok (.iload 4, 2) := by decide +kernel
theorem dL_law_46 : decode cL_law 46 = .ok (.invokestatic 121, 3) := by decide +kernel
theorem dL_law_49 : decode cL_law 49 = .ok (.istore 5, 2) := by decide +kernel
theorem dL_law_51 : decode cL_law 51 = .ok (.iload 5, 2) := by decide +kernel
theorem dL_law_53 : decode cL_law 53 = .ok (.ldc 54, 2) := by decide +kernel
theorem dL_law_55 : decode cL_law 55 = .ok (.if_icmp .eq 14, 3) := by decide +kernel
theorem dL_law_58 : decode cL_law 58 = .ok (.aload_n 2, 1) := by decide +kernel
theorem dL_law_59 : decode cL_law 59 = .ok (.iload 4, 2) := by decide +kernel
theorem dL_law_61 : decode cL_law 61 = .ok (.invokestatic 121, 3) := by decide +kernel
theorem dL_law_64 : decode cL_law 64 = .ok (.iload 5, 2) := by decide +kernel
theorem dL_law_66 : decode cL_law 66 = .ok (.if_icmp .ne 66, 3) := by decide +kernel
theorem dL_law_69 : decode cL_law 69 = .ok (.iload_n 3, 1) := by decide +kernel
theorem dL_law_70 : decode cL_law 70 = .ok (.bipush 6, 2) := by decide +kernel
theorem dL_law_72 : decode cL_law 72 = .ok (.irem, 1) := by decide +kernel
theorem dL_law_73 : decode cL_law 73 = .ok (.iconst 3, 1) := by decide +kernel
theorem dL_law_74 : decode cL_law 74 = .ok (.if_icmp .ne 11, 3) := by decide +kernel
theorem dL_law_77 : decode cL_law 77 = .ok (.aload_n 1, 1) := by decide +kernel
theorem dL_law_78 : decode cL_law 78 = .ok (.aload_n 2, 1) := by decide +kernel
theorem dL_law_79 : decode cL_law 79 = .ok (.invokestatic 125, 3) := by decide +kernel
theorem dL_law_82 : decode cL_law 82 = .ok (.ifCond .eq 50, 3) := by decide +kernel
theorem dL_law_85 : decode cL_law 85 = .ok (.iload_n 3, 1) := by decide +kernel
theorem dL_law_86 : decode cL_law 86 = .ok (.iconst 3, 1) := by decide +kernel
theorem dL_law_87 : decode cL_law 87 = .ok (.irem, 1) := by decide +kernel
theorem dL_law_88 : decode cL_law 88 = .ok (.iconst 1, 1) := by decide +kernel
theorem dL_law_89 : decode cL_law 89 = .ok (.if_icmp .ne 10, 3) := by decide +kernel
theorem dL_law_92 : decode cL_law 92 = .ok (.aload_n 1, 1) := by decide +kernel
theorem dL_law_93 : decode cL_law 93 = .ok (.invokestatic 129, 3) := by decide +kernel
theorem dL_law_96 : decode cL_law 96 = .ok (.ifCond .eq 36, 3) := by decide +kernel
theorem dL_law_99 : decode cL_law 99 = .ok (.iload_n 3, 1) := by decide +kernel
theorem dL_law_100 : decode cL_law 100 = .ok (.iconst 5, 1) := by decide +kernel
theorem dL_law_101 : decode cL_law 101 = .ok (.irem, 1) := by decide +kernel
theorem dL_law_102 : decode cL_law 102 = .ok (.iconst 2, 1) := by decide +kernel
theorem dL_law_103 : decode cL_law 103 = .ok (.if_icmp .ne 31, 3) := by decide +kernel
theorem dL_law_106 : decode cL_law 106 = .ok (.aload_n 1, 1) := by decide +kernel
theorem dL_law_107 : decode cL_law 107 = .ok (.iload 4, 2) := by decide +kernel
theorem dL_law_109 : decode cL_law 109 = .ok (.bipush 7, 2) := by decide +kernel
theorem dL_law_111 : decode cL_law 111 = .ok (.ishr, 1) := by decide +kernel
theorem dL_law_112 : decode cL_law 112 = .ok (.bipush 7, 2) := by decide +kernel
theorem dL_law_114 : decode cL_law 114 = .ok (.iand, 1) := by decide +kernel
theorem dL_law_115 : decode cL_law 115 = .ok (.iload 4, 2) := by decide +kernel
theorem dL_law_117 : decode cL_law 117 = .ok (.bipush 9, 2) := by decide +kernel
theorem dL_law_119 : decode cL_law 119 = .ok (.ishr, 1) := by decide +kernel
theorem dL_law_120 : decode cL_law 120 = .ok (.sipush 400, 3) := by decide +kernel
theorem dL_law_123 : decode cL_law 123 = .ok (.invokestatic 89, 3) := by decide +kernel
theorem dL_law_126 : decode cL_law 126 = .ok (.invokestatic 133, 3) := by decide +kernel
theorem dL_law_129 : decode cL_law 129 = .ok (.ifCond .ne 5, 3) := by decide +kernel
theorem dL_law_132 : decode cL_law 132 = .ok (.iconst 0, 1) := by decide +kernel
theorem dL_law_133 : decode cL_law 133 = .ok (.ireturn, 1) := by decide +kernel
theorem dL_law_134 : decode cL_law 134 = .ok (.iload_n 3, 1) := by decide +kernel
theorem dL_law_135 : decode cL_law 135 = .ok (.bipush 8, 2) := by decide +kernel
theorem dL_law_137 : decode cL_law 137 = .ok (.irem, 1) := by decide +kernel
theorem dL_law_138 : decode cL_law 138 = .ok (.bipush 6, 2) := by decide +kernel
theorem dL_law_140 : decode cL_law 140 = .ok (.if_icmp .ne 28, 3) := by decide +kernel
theorem dL_law_143 : decode cL_law 143 = .ok (.aload_n 1, 1) := by decide +kernel
theorem dL_law_144 : decode cL_law 144 = .ok (.aload_n 2, 1) := by decide +kernel
theorem dL_law_145 : decode cL_law 145 = .ok (.iload 4, 2) := by decide +kernel
theorem dL_law_147 : decode cL_law 147 = .ok (.bipush 7, 2) := by decide +kernel
theorem dL_law_149 : decode cL_law 149 = .ok (.ishr, 1) := by decide +kernel
theorem dL_law_150 : decode cL_law 150 = .ok (.iconst 4, 1) := by decide +kernel
theorem dL_law_151 : decode cL_law 151 = .ok (.invokestatic 89, 3) := by decide +kernel
theorem dL_law_154 : decode cL_law 154 = .ok (.iload 4, 2) := by decide +kernel
theorem dL_law_156 : decode cL_law 156 = .ok (.bipush 9, 2) := by decide +kernel
theorem dL_law_158 : decode cL_law 158 = .ok (.ishr, 1) := by decide +kernel
theorem dL_law_159 : decode cL_law 159 = .ok (.bipush 7, 2) := by decide +kernel
theorem dL_law_161 : decode cL_law 161 = .ok (.iand, 1) := by decide +kernel
theorem dL_law_162 : decode cL_law 162 = .ok (.invokestatic 137, 3) := by decide +kernel
theorem dL_law_165 : decode cL_law 165 = .ok (.ifCond .eq 28, 3) := by decide +kernel
theorem dL_law_168 : decode cL_law 168 = .ok (.iload_n 3, 1) := by decide +kernel
theorem dL_law_169 : decode cL_law 169 = .ok (.bipush 7, 2) := by decide +kernel
theorem dL_law_171 : decode cL_law 171 = .ok (.irem, 1) := by decide +kernel
theorem dL_law_172 : decode cL_law 172 = .ok (.iconst 4, 1) := by decide +kernel
theorem dL_law_173 : decode cL_law 173 = .ok (.if_icmp .ne 22, 3) := by decide +kernel
theorem dL_law_176 : decode cL_law 176 = .ok (.aload_n 1, 1) := by decide +kernel
theorem dL_law_177 : decode cL_law 177 = .ok (.aload_n 2, 1) := by decide +kernel
theorem dL_law_178 : decode cL_law 178 = .ok (.iload 4, 2) := by decide +kernel
theorem dL_law_180 : decode cL_law 180 = .ok (.bipush 8, 2) := by decide +kernel
theorem dL_law_182 : decode cL_law 182 = .ok (.ishr, 1) := by decide +kernel
theorem dL_law_183 : decode cL_law 183 = .ok (.iconst 4, 1) := by decide +kernel
theorem dL_law_184 : decode cL_law 184 = .ok (.invokestatic 89, 3) := by decide +kernel
theorem dL_law_187 : decode cL_law 187 = .ok (.invokestatic 141, 3) := by decide +kernel
theorem dL_law_190 : decode cL_law 190 = .ok (.ifCond .ne 5, 3) := by decide +kernel
theorem dL_law_193 : decode cL_law 193 = .ok (.iconst 0, 1) := by decide +kernel
theorem dL_law_194 : decode cL_law 194 = .ok (.ireturn, 1) := by decide +kernel
theorem dL_law_195 : decode cL_law 195 = .ok (.iinc 3 1, 3) := by decide +kernel
theorem dL_law_198 : decode cL_law 198 = .ok (.goto (-180), 3) := by decide +kernel
theorem dL_law_201 : decode cL_law 201 = .ok (.aload_n 1, 1) := by decide +kernel
theorem dL_law_202 : decode cL_law 202 = .ok (.aload_n 2, 1) := by decide +kernel
theorem dL_law_203 : decode cL_law 203 = .ok (.invokestatic 125, 3) := by decide +kernel
theorem dL_law_206 : decode cL_law 206 = .ok (.ifCond .eq 14, 3) := by decide +kernel
theorem dL_law_209 : decode cL_law 209 = .ok (.aload_n 1, 1) := by decide +kernel
theorem dL_law_210 : decode cL_law 210 = .ok (.invokestatic 129, 3) := by decide +kernel
theorem dL_law_213 : decode cL_law 213 = .ok (.ifCond .eq 7, 3) := by decide +kernel
theorem dL_law_216 : decode cL_law 216 = .ok (.iconst 1, 1) := by decide +kernel
theorem dL_law_217 : decode cL_law 217 = .ok (.goto 4, 3) := by decide +kernel
theorem dL_law_220 : decode cL_law 220 = .ok (.iconst 0, 1) := by decide +kernel
theorem dL_law_221 : decode cL_law 221 = .ok (.ireturn, 1) := by decide +kernel
end
section
abbrev vwCl : List vw_C := [(RX0, TX0, 6), (RX1, TX1, 3), (RX2, TX2, 1), (RX3, TX3, 5), (RX4, TX4, 4), (RX5, TX5, 8)]
end
section
/-! a state: arrays and numbers by their places; contracts over a world that a state makes -/
abbrev St : Type := Nat → Nat → Int32
theorem up_eta {α : Type} (f : Nat → α) (k : Nat) : va_up f k (f k) = f := by
  funext j
  by_cases h : j = k
  · subst h; simp [va_up]
  · simp [va_up, h]
theorem up_up {α : Type} (f : Nat → α) (k : Nat) (v w : α) : va_up (va_up f k v) k w = va_up f k w := by
  funext j
  by_cases h : j = k
  · subst h; simp [va_up]
  · simp [va_up, h]
theorem up_swap {α : Type} (f : Nat → α) {i k : Nat} (h : i ≠ k) (v w : α) : va_up (va_up f i v) k w = va_up (va_up f k w) i v := by
  funext j
  by_cases h1 : j = k
  · subst h1
    have h2 : ¬ j = i := fun e => h e.symm
    simp [va_up, h2]
  · by_cases h2 : j = i
    · subst h2; simp [va_up, h1]
    · simp [va_up, h1, h2]
theorem upd_eta (f : Nat → Int32) (k : Nat) : upd f k (f k) = f := by
  funext j
  by_cases h : j = k
  · subst h; simp [upd]
  · simp [upd, h]
/-- a proposition as a number -/
noncomputable def bI (P : Prop) : Int32 := @ite Int32 P (Classical.propDecidable P) 1 0
theorem bI_t {P : Prop} (h : P) : bI P = 1 := by unfold bI; exact if_pos h
theorem bI_f {P : Prop} (h : ¬ P) : bI P = 0 := by unfold bI; exact if_neg h
noncomputable def cif {α : Type} (P : Prop) (x y : α) : α := @ite α P (Classical.propDecidable P) x y
theorem cif_t {α : Type} {P : Prop} {x y : α} (h : P) : cif P x y = x := by unfold cif; exact if_pos h
theorem cif_f {α : Type} {P : Prop} {x y : α} (h : ¬ P) : cif P x y = y := by unfold cif; exact if_neg h
def bo (r : Int32) (P : Prop) : Prop := (r = 1 ∧ P) ∨ (r = 0 ∧ ¬ P)
theorem bo_I {r : Int32} {P : Prop} (h : bo r P) : r = bI P := by
  rcases h with ⟨h1, h2⟩ | ⟨h1, h2⟩
  · rw [h1, bI_t h2]
  · rw [h1, bI_f h2]
theorem fits_b : narrow .boolean (.int 0) = .int 0 ∧ narrow .boolean (.int 1) = .int 1 := ⟨rfl, rfl⟩
theorem nar_b {x : Int32} (h : x = 0 ∨ x = 1) : narrow .boolean (.int x) = .int x := by rcases h with rfl | rfl <;> rfl
theorem bar_b {x : Int32} (h : x = 0 ∨ x = 1) : vp_nar .boolean x = x := by rcases h with rfl | rfl <;> rfl
section WR
variable {S : Type} {l : Launch} {y : MethodName} {wsy ws' : List Cond} {rm : Room} {D : va_G} {tys : List (ClassId × FieldType)} {wf : S → va_W} {av : List Value} {σ u : S} {sz : Nat} {cc : ByteArray} {maxL : Nat} {ty : FieldType}
def PR (D : va_G) (tys : List (ClassId × FieldType)) (wf : S → va_W) (σ : S) (sz : Nat) (U : State) : Prop := U.heap.size = sz ∧ va_P D vwCl (wf σ) U.heap ∧ va_K D vwCl tys U ∧ va_D (fun _ => True) (wf σ)
def PO (D : va_G) (tys : List (ClassId × FieldType)) (wf : S → va_W) (A : Nat → Prop) (u : S) (t : State) : Prop := va_P D vwCl (wf u) t.heap ∧ va_K D vwCl tys t ∧ va_D A (wf u)
/-- a method that answers an int (a boolean) and makes nothing -/
def MI (l : Launch) (y : MethodName) (wsy : List Cond) (rm : Room) (D : va_G) (tys : List (ClassId × FieldType)) (wf : S → va_W) (av : List Value) (σ : S) (sz : Nat) (post : Int32 → S → Prop) : Prop :=
  Met l y wsy rm (va_Pc av (PR D tys wf σ sz)) (va_Qi post (PO D tys wf (va_A (wf σ) sz)) (va_A (wf σ) sz)) 0 0 (va_A (wf σ) sz)
/-- a method that answers nothing and makes nothing -/
def MV (l : Launch) (y : MethodName) (wsy : List Cond) (rm : Room) (D : va_G) (tys : List (ClassId × FieldType)) (wf : S → va_W) (av : List Value) (σ : S) (sz : Nat) (post : S → Prop) : Prop :=
  Met l y wsy rm (va_Pc av (PR D tys wf σ sz)) (va_Qv post (PO D tys wf (va_A (wf σ) sz)) (va_A (wf σ) sz)) 0 0 (va_A (wf σ) sz)
theorem PR.calling {U : State} {g : JFrame} {mk : MethodId} {a : Array Value} (h : PR D tys wf σ sz U) : PR D tys wf σ sz (U.calling g mk a) := by
  obtain ⟨h1, h2, h3, h4⟩ := h
  exact ⟨h1, h2, va_K.moved (u := U) (U := U.calling g mk a) (Vm.Alike.refl U.vm) h3, h4⟩
theorem PR.at {s U : State} {H : Heap} {A : Nat → Prop} (hP : va_P D vwCl (wf σ) H) (hK : va_K D vwCl tys s) (hD : va_D A (wf σ)) (hU : U.heap = H) (hW : s.WarmedH U.vm) : PR D tys wf σ H.size U :=
  ⟨by rw [hU], by rw [hU]; exact hP, va_K.moved hW.alike hK, hD.weaken (fun _ _ _ _ => trivial)⟩
theorem MI.of {post : Int32 → S → Prop} (hy : plainName y.cls = true) (hw : wsy = Cond.code y cc maxL (some ty) :: ws') (hav : (lg_sl av).length ≤ maxL)
    (body : ∀ (p : Program) (e : Env) (s : State) (m : MethodId) (args : Array Value) (below : List Frame) (meth : Method) (c : Code) (A : Nat → Prop) (H : Heap) (locs : List Loc) (ls : Array Slot), p.tables.exec = Jvm.exec → c.code = cc → meth.sig.returnType = some ty → c.maxLocals = maxL → s.vm.findClass y.cls = some m.cls → (∀ w ∈ wsy, w.before args s = true) → meth.locks = false → (∀ q : Nat, s.heap.size ≤ q → A q) → va_S A s.heap H locs → va_P D vwCl (wf σ) H → va_K D vwCl tys s → va_D A (wf σ) → lv_has ls maxL (lv_args 0 av) →
      W p l e rm s m args below meth c H locs 0 0 (MQ below (va_Qi post (PO D tys wf A) A) args s 0 0 A) (F0 m 0 ls [])) : MI l y wsy rm D tys wf av σ sz post := by
  refine Met.ofW (cc := cc) (maxL := maxL) (ret := some ty) hy hw ?_
  intro p e s m args below meth c s₁ B hml hv
  obtain ⟨rfl, hsz, hP, hK, hD0⟩ := hv
  have hts := atoms_spec (ws := wsy) B.pre
  subst hsz
  have hD := hD0.self (sz := s.heap.size)
  generalize hAe : va_A (wf σ) s.heap.size = A at hD ⊢
  have hA : ∀ q : Nat, s.heap.size ≤ q → A q := fun q h => by rw [← hAe]; exact Or.inr h
  rw [lg_entry_eq]
  exact body p e s m _ below meth c A _ _ _ B.exec B.bytes B.returns hml (findClass_of_methodNamed B.named) hts B.notSynchronized hA va_S.rf hP hK hD (lv_entry av hav)
theorem MV.of {post : S → Prop} (hy : plainName y.cls = true) (hw : wsy = Cond.code y cc maxL none :: ws') (hav : (lg_sl av).length ≤ maxL)
    (body : ∀ (p : Program) (e : Env) (s : State) (m : MethodId) (args : Array Value) (below : List Frame) (meth : Method) (c : Code) (A : Nat → Prop) (H : Heap) (locs : List Loc) (ls : Array Slot), p.tables.exec = Jvm.exec → c.code = cc → meth.sig.returnType = none → c.maxLocals = maxL → s.vm.findClass y.cls = some m.cls → (∀ w ∈ wsy, w.before args s = true) → meth.locks = false → (∀ q : Nat, s.heap.size ≤ q → A q) → va_S A s.heap H locs → va_P D vwCl (wf σ) H → va_K D vwCl tys s → va_D A (wf σ) → lv_has ls maxL (lv_args 0 av) →
      W p l e rm s m args below meth c H locs 0 0 (MQ below (va_Qv post (PO D tys wf A) A) args s 0 0 A) (F0 m 0 ls [])) : MV l y wsy rm D tys wf av σ sz post := by
  refine Met.ofW (cc := cc) (maxL := maxL) (ret := none) hy hw ?_
  intro p e s m args below meth c s₁ B hml hv
  obtain ⟨rfl, hsz, hP, hK, hD0⟩ := hv
  have hts := atoms_spec (ws := wsy) B.pre
  subst hsz
  have hD := hD0.self (sz := s.heap.size)
  generalize hAe : va_A (wf σ) s.heap.size = A at hD ⊢
  have hA : ∀ q : Nat, s.heap.size ≤ q → A q := fun q h => by rw [← hAe]; exact Or.inr h
  rw [lg_entry_eq]
  exact body p e s m _ below meth c A _ _ _ B.exec B.bytes B.returns hml (findClass_of_methodNamed B.named) hts B.notSynchronized hA va_S.rf hP hK hD (lv_entry av hav)
section RET
variable {p : Program} {e : Env} {R : Room} {s : State} {m : MethodId} {args : Array Value} {below : List Frame} {meth : Method} {c : Code} {H : Heap} {locs : List Loc} {A : Nat → Prop} {pc : Nat} {ls : Array Slot} {v : Int32}
theorem MI.ret {post : Int32 → S → Prop} (hx : p.tables.exec = Jvm.exec) (hb : c.code = cc) (hr : meth.sig.returnType = some .int) (hlocks : meth.locks = false) (hK : va_K D vwCl tys s) (hP : va_P D vwCl (wf u) H) (hD : va_D A (wf u)) (hS : va_S A s.heap H locs) (hdg : decode cc pc = .ok (.ireturn, 1)) (hp : post v u) : W p l e R s m args below meth c H locs 0 0 (MQ below (va_Qi post (PO D tys wf A) A) args s 0 0 A) (F0 m pc ls [.int v]) :=
  W.iret hx hb hr (fun t ht hW => ⟨⟨v, u, rfl, hp, by rw [ht]; exact hP, va_K.moved hW.alike hK, hD⟩, hS.F ht⟩) hS.2.2 hdg hlocks
theorem MI.zret {post : Int32 → S → Prop} (hx : p.tables.exec = Jvm.exec) (hb : c.code = cc) (hr : meth.sig.returnType = some .boolean) (hlocks : meth.locks = false) (hK : va_K D vwCl tys s) (hP : va_P D vwCl (wf u) H) (hD : va_D A (wf u)) (hS : va_S A s.heap H locs) (hdg : decode cc pc = .ok (.ireturn, 1)) (hn : narrow .boolean (.int v) = .int v) (hp : post v u) : W p l e R s m args below meth c H locs 0 0 (MQ below (va_Qi post (PO D tys wf A) A) args s 0 0 A) (F0 m pc ls [.int v]) :=
  W.zret hx hb hr hn (fun t ht hW => ⟨⟨v, u, rfl, hp, by rw [ht]; exact hP, va_K.moved hW.alike hK, hD⟩, hS.F ht⟩) hS.2.2 hdg hlocks
theorem MV.ret {post : S → Prop} (hx : p.tables.exec = Jvm.exec) (hb : c.code = cc) (hr : meth.sig.returnType = none) (hlocks : meth.locks = false) (hK : va_K D vwCl tys s) (hP : va_P D vwCl (wf u) H) (hD : va_D A (wf u)) (hS : va_S A s.heap H locs) (hdg : decode cc pc = .ok (.return_, 1)) (hp : post u) : W p l e R s m args below meth c H locs 0 0 (MQ below (va_Qv post (PO D tys wf A) A) args s 0 0 A) (F0 m pc ls []) :=
  W.vret hx hb hr (fun t ht hW => ⟨⟨u, rfl, hp, by rw [ht]; exact hP, va_K.moved hW.alike hK, hD⟩, hS.F ht⟩) hS.2.2 hdg hlocks
end RET
section CALL
variable {p : Program} {e : Env} {R : Room} {s : State} {m : MethodId} {args : Array Value} {below : List Frame} {meth : Method} {c : Code} {H H0 : Heap} {locs : List Loc} {cells slots : Nat} {Q : State → Prop} {A : Nat → Prop} {pc nL n index : Nat} {ls : Array Slot} {st0 rest As : List Value} {Ts : List Cond} {own C : String} {b : Addr} {bytes : ByteArray} {maxLy : Nat} {rety : Option FieldType}
theorem free_self {ws : va_W} (hD : va_D A ws) (hS : va_S A H0 H locs) (hA : ∀ q : Nat, H0.size ≤ q → A q) : ∀ q, va_A ws H.size q → A q := by
  intro q h
  rcases h with ⟨k, e, h⟩ | h
  · exact hD.2 k (q, e) h
  · exact hA q (Nat.le_trans hS.1 h)
theorem MI.callV {post : Int32 → S → Prop} (F : CallFix p m c cc nL s args Ts own) (hM : MI l y wsy rm D tys wf (.ref b :: As) σ H.size post) (cw : CallW R s args own C index y bytes maxLy rety wsy rm 0 0 n)
    (hP : va_P D vwCl (wf σ) H) (hK : va_K D vwCl tys s) (hD : va_D A (wf σ)) (hS : va_S A H0 H locs) (hA : ∀ q : Nat, H0.size ≤ q → A q)
    (hrecv : ∃ cell : Cell, H[b]? = some cell ∧ cell.vm.isStatics = false ∧ s.vm.findClass C = some cell.cls) (hn : As.length = n) (hsize : ls.size = nL) (hW : (rest.map fun v => v.category).sum ≤ 8) (hcr : cells ≤ R.cells) (hsr : slots ≤ R.slots)
    (hdg : decode cc pc = .ok (.invokevirtual index, 3)) (hst : st0 = As.reverse ++ .ref b :: rest)
    (kk : ∀ (r : Int32) (u : S) (H1 : Heap) (locs1 : List Loc), post r u → va_P D vwCl (wf u) H1 → va_D A (wf u) → va_S A H0 H1 locs1 → W p l e R s m args below meth c H1 locs1 cells slots Q (F0 m (pc + 3) ls (.int r :: rest))) : W p l e R s m args below meth c H locs cells slots Q (F0 m pc ls st0) := by
  subst hst
  have hF := free_self hD hS hA
  refine va_calli (va_runV (As := As) (rest := rest) F hM cw ⟨fun a U g mk q => ⟨q.1, q.2.calling⟩, hrecv, fun U hU hW => ⟨rfl, PR.at hP hK hD hU hW⟩⟩ rfl hn hsize rfl (lv_room hW) hdg ⟨hcr, hsr⟩) hS (fun q _ h => hF q h) hF (fun r u t H1 locs1 ht hvm hw hB hz1 hk1 hS1 => ?_)
  obtain ⟨hP1, hK1, hD1⟩ := hB
  rw [ht] at hP1
  exact kk r u H1 locs1 hw hP1 (hD1.weaken (fun _ _ _ h => hF _ h)) hS1
theorem MV.callV {post : S → Prop} (F : CallFix p m c cc nL s args Ts own) (hM : MV l y wsy rm D tys wf (.ref b :: As) σ H.size post) (cw : CallW R s args own C index y bytes maxLy rety wsy rm 0 0 n)
    (hP : va_P D vwCl (wf σ) H) (hK : va_K D vwCl tys s) (hD : va_D A (wf σ)) (hS : va_S A H0 H locs) (hA : ∀ q : Nat, H0.size ≤ q → A q)
    (hrecv : ∃ cell : Cell, H[b]? = some cell ∧ cell.vm.isStatics = false ∧ s.vm.findClass C = some cell.cls) (hn : As.length = n) (hsize : ls.size = nL) (hW : (rest.map fun v => v.category).sum ≤ 8) (hcr : cells ≤ R.cells) (hsr : slots ≤ R.slots)
    (hdg : decode cc pc = .ok (.invokevirtual index, 3)) (hst : st0 = As.reverse ++ .ref b :: rest)
    (kk : ∀ (u : S) (H1 : Heap) (locs1 : List Loc), post u → va_P D vwCl (wf u) H1 → va_D A (wf u) → va_S A H0 H1 locs1 → W p l e R s m args below meth c H1 locs1 cells slots Q (F0 m (pc + 3) ls rest)) : W p l e R s m args below meth c H locs cells slots Q (F0 m pc ls st0) := by
  subst hst
  have hF := free_self hD hS hA
  refine va_callv (va_runV (As := As) (rest := rest) F hM cw ⟨fun a U g mk q => ⟨q.1, q.2.calling⟩, hrecv, fun U hU hW => ⟨rfl, PR.at hP hK hD hU hW⟩⟩ rfl hn hsize rfl (lv_room hW) hdg ⟨hcr, hsr⟩) hS (fun q _ h => hF q h) hF (fun u t H1 locs1 ht hvm hw hB hz1 hk1 hS1 => ?_)
  obtain ⟨hP1, hK1, hD1⟩ := hB
  rw [ht] at hP1
  exact kk u H1 locs1 hw hP1 (hD1.weaken (fun _ _ _ h => hF _ h)) hS1
theorem MI.callS {post : Int32 → S → Prop} (F : CallFix p m c cc nL s args Ts own) (hM : MI l y wsy rm D tys wf As σ H.size post) (cw : CallB R s args own index y bytes maxLy rety wsy rm 0 0 n ∧ (Cond.static y).before args s = true)
    (hP : va_P D vwCl (wf σ) H) (hK : va_K D vwCl tys s) (hD : va_D A (wf σ)) (hS : va_S A H0 H locs) (hA : ∀ q : Nat, H0.size ≤ q → A q)
    (hn : As.length = n) (hsize : ls.size = nL) (hW : (rest.map fun v => v.category).sum ≤ 8) (hcr : cells ≤ R.cells) (hsr : slots ≤ R.slots)
    (hdg : decode cc pc = .ok (.invokestatic index, 3)) (hst : st0 = As.reverse ++ rest)
    (kk : ∀ (r : Int32) (u : S) (H1 : Heap) (locs1 : List Loc), post r u → va_P D vwCl (wf u) H1 → va_D A (wf u) → va_S A H0 H1 locs1 → W p l e R s m args below meth c H1 locs1 cells slots Q (F0 m (pc + 3) ls (.int r :: rest))) : W p l e R s m args below meth c H locs cells slots Q (F0 m pc ls st0) := by
  subst hst
  have hF := free_self hD hS hA
  refine va_calli (va_runS (As := As) (rest := rest) F hM cw ⟨fun a U g mk q => ⟨q.1, q.2.calling⟩, fun U hU hW => ⟨rfl, PR.at hP hK hD hU hW⟩⟩ rfl hn hsize rfl (lv_room hW) hdg ⟨hcr, hsr⟩) hS (fun q _ h => hF q h) hF (fun r u t H1 locs1 ht hvm hw hB hz1 hk1 hS1 => ?_)
  obtain ⟨hP1, hK1, hD1⟩ := hB
  rw [ht] at hP1
  exact kk r u H1 locs1 hw hP1 (hD1.weaken (fun _ _ _ h => hF _ h)) hS1
theorem MV.callS {post : S → Prop} (F : CallFix p m c cc nL s args Ts own) (hM : MV l y wsy rm D tys wf As σ H.size post) (cw : CallB R s args own index y bytes maxLy rety wsy rm 0 0 n ∧ (Cond.static y).before args s = true)
    (hP : va_P D vwCl (wf σ) H) (hK : va_K D vwCl tys s) (hD : va_D A (wf σ)) (hS : va_S A H0 H locs) (hA : ∀ q : Nat, H0.size ≤ q → A q)
    (hn : As.length = n) (hsize : ls.size = nL) (hW : (rest.map fun v => v.category).sum ≤ 8) (hcr : cells ≤ R.cells) (hsr : slots ≤ R.slots)
    (hdg : decode cc pc = .ok (.invokestatic index, 3)) (hst : st0 = As.reverse ++ rest)
    (kk : ∀ (u : S) (H1 : Heap) (locs1 : List Loc), post u → va_P D vwCl (wf u) H1 → va_D A (wf u) → va_S A H0 H1 locs1 → W p l e R s m args below meth c H1 locs1 cells slots Q (F0 m (pc + 3) ls rest)) : W p l e R s m args below meth c H locs cells slots Q (F0 m pc ls st0) := by
  subst hst
  have hF := free_self hD hS hA
  refine va_callv (va_runS (As := As) (rest := rest) F hM cw ⟨fun a U g mk q => ⟨q.1, q.2.calling⟩, fun U hU hW => ⟨rfl, PR.at hP hK hD hU hW⟩⟩ rfl hn hsize rfl (lv_room hW) hdg ⟨hcr, hsr⟩) hS (fun q _ h => hF q h) hF (fun u t H1 locs1 ht hvm hw hB hz1 hk1 hS1 => ?_)
  obtain ⟨hP1, hK1, hD1⟩ := hB
  rw [ht] at hP1
  exact kk u H1 locs1 hw hP1 (hD1.weaken (fun _ _ _ h => hF _ h)) hS1
end CALL
end WR
section ARR
variable {p : Program} {l : Launch} {e : Env} {R : Room} {s : State} {m : MethodId} {args : Array Value} {below : List Frame} {meth : Method} {c : Code} {H : Heap} {locs : List Loc} {cells slots : Nat} {Q : State → Prop}
variable {cc : ByteArray} {pc : Nat} {ls : Array Slot} {rest : List Value} {D : va_G} {cl : List vw_C} {A : Nat → Prop} {a : Nat} {tys : List (ClassId × FieldType)} {ws : va_W} {H0 : Heap}
theorem na_iald (hexec : p.tables.exec = Jvm.exec) (hb : c.code = cc) (hK : va_K D cl tys s) (hP : va_P D cl ws H) (q0 t0 : Nat) {cA : ClassId} {n : Nat} {f : Nat → Int32} (ha : ws[q0]? = some (a, .inl (cA, n, .inl f))) (ht : tys[t0]? = some (cA, .int)) (j : Nat) (hj : j < n) (hn : n < 2 ^ 31) {i : Int32} (hi : i = nI j) (hdg : decode cc pc = .ok (.iaload, 1))
    (kk : W p l e R s m args below meth c H locs cells slots Q (F0 m (pc + 1) ls (.int (f j) :: rest))) : W p l e R s m args below meth c H locs cells slots Q (F0 m pc ls (.int i :: .ref a :: rest)) := by
  subst hi
  refine va_iald hexec hb hK hP q0 t0 ha ht (vp_in_nI hj hn) hdg ?_
  rw [nI_clamp (Nat.lt_trans hj hn)]
  exact kk
theorem na_zald (hexec : p.tables.exec = Jvm.exec) (hb : c.code = cc) (hK : va_K D cl tys s) (hP : va_P D cl ws H) (q0 t0 : Nat) {cA : ClassId} {n : Nat} {f : Nat → Int32} (ha : ws[q0]? = some (a, .inl (cA, n, .inl f))) (ht : tys[t0]? = some (cA, .boolean)) (j : Nat) (hj : j < n) (hn : n < 2 ^ 31) {i : Int32} (hi : i = nI j) (hdg : decode cc pc = .ok (.baload, 1))
    (kk : W p l e R s m args below meth c H locs cells slots Q (F0 m (pc + 1) ls (.int (f j) :: rest))) : W p l e R s m args below meth c H locs cells slots Q (F0 m pc ls (.int i :: .ref a :: rest)) := by
  subst hi
  refine va_zald hexec hb hK hP q0 t0 ha ht (vp_in_nI hj hn) hdg ?_
  rw [nI_clamp (Nat.lt_trans hj hn)]
  exact kk
theorem na_iast (hexec : p.tables.exec = Jvm.exec) (hb : c.code = cc) (hK : va_K D cl tys s) (hP : va_P D cl ws H) (hD : va_D A ws) (hS : va_S A H0 H locs) (q0 t0 : Nat) {cA : ClassId} {n : Nat} {f : Nat → Int32} (ha : ws[q0]? = some (a, .inl (cA, n, .inl f))) (ht : tys[t0]? = some (cA, .int)) (j : Nat) (hj : j < n) (hn : n < 2 ^ 31) {i x : Int32} (hi : i = nI j) (hdg : decode cc pc = .ok (.iastore, 1))
    (kk : ∀ (H1 : Heap) (locs1 : List Loc), va_P D cl (ws.set q0 (a, .inl (cA, n, .inl (upd f j x)))) H1 → va_D A (ws.set q0 (a, .inl (cA, n, .inl (upd f j x)))) → va_S A H0 H1 locs1 → W p l e R s m args below meth c H1 locs1 cells slots Q (F0 m (pc + 1) ls rest)) : W p l e R s m args below meth c H locs cells slots Q (F0 m pc ls (.int x :: .int i :: .ref a :: rest)) := by
  subst hi
  refine va_iast hexec hb hK hP hD hS q0 t0 ha ht (vp_in_nI hj hn) hdg ?_
  rw [nI_clamp (Nat.lt_trans hj hn)]
  exact kk
theorem na_zast (hexec : p.tables.exec = Jvm.exec) (hb : c.code = cc) (hK : va_K D cl tys s) (hP : va_P D cl ws H) (hD : va_D A ws) (hS : va_S A H0 H locs) (q0 t0 : Nat) {cA : ClassId} {n : Nat} {f : Nat → Int32} (ha : ws[q0]? = some (a, .inl (cA, n, .inl f))) (ht : tys[t0]? = some (cA, .boolean)) (j : Nat) (hj : j < n) (hn : n < 2 ^ 31) {i x : Int32} (hi : i = nI j) (hx : x = 0 ∨ x = 1) (hdg : decode cc pc = .ok (.bastore, 1))
    (kk : ∀ (H1 : Heap) (locs1 : List Loc), va_P D cl (ws.set q0 (a, .inl (cA, n, .inl (upd f j x)))) H1 → va_D A (ws.set q0 (a, .inl (cA, n, .inl (upd f j x)))) → va_S A H0 H1 locs1 → W p l e R s m args below meth c H1 locs1 cells slots Q (F0 m (pc + 1) ls rest)) : W p l e R s m args below meth c H locs cells slots Q (F0 m pc ls (.int x :: .int i :: .ref a :: rest)) := by
  subst hi
  refine va_zast hexec hb hK hP hD hS q0 t0 ha ht (vp_in_nI hj hn) hdg ?_
  rw [nI_clamp (Nat.lt_trans hj hn), bar_b hx]
  exact kk
end ARR
end
section
/-! the worlds: the class (27 cells) and the reference (21), at addresses a, with a state; a place of the state is an array's or a number's (its value at 0) -/
/-- slots: 0 now, 1 money, 2 turned, 3 trains, 4 block, 5 right, 6 held, 7 delay, 8-12 the same of the trial (tried), 13 bookings, 14 train, 15 block, 16 first, 17 last, 18 lateness, 19 waggons, 20 weight, 21 size, 22 inRow, 24 siding, 25 minute, 26 price; the reference alone: 30 standings, 31 lates, 32 wheres, 33 places, 34 thrown -/
def wX (cI cZ : ClassId) (a : Nat → Nat) (σ : St) : va_W := [(a 0, .inr (5, [.ref (a 1), .ref (a 3), .ref (a 8), .ref (a 13), .ref (a 19), .ref (a 23), .int (σ 0 0), .int (σ 1 0)])),
  (a 1, .inr (2, [.ref (a 2)])),
  (a 2, .inl (cZ, 2, .inl (σ 2))),
  (a 3, .inr (3, [.ref (a 4), .ref (a 5), .ref (a 6), .ref (a 7), .int (σ 3 0)])),
  (a 4, .inl (cI, 4, .inl (σ 4))),
  (a 5, .inl (cZ, 4, .inl (σ 5))),
  (a 6, .inl (cZ, 4, .inl (σ 6))),
  (a 7, .inl (cI, 4, .inl (σ 7))),
  (a 8, .inr (3, [.ref (a 9), .ref (a 10), .ref (a 11), .ref (a 12), .int (σ 8 0)])),
  (a 9, .inl (cI, 4, .inl (σ 9))),
  (a 10, .inl (cZ, 4, .inl (σ 10))),
  (a 11, .inl (cZ, 4, .inl (σ 11))),
  (a 12, .inl (cI, 4, .inl (σ 12))),
  (a 13, .inr (0, [.ref (a 14), .ref (a 15), .ref (a 16), .ref (a 17), .ref (a 18), .int (σ 13 0)])),
  (a 14, .inl (cI, 30, .inl (σ 14))),
  (a 15, .inl (cI, 30, .inl (σ 15))),
  (a 16, .inl (cI, 30, .inl (σ 16))),
  (a 17, .inl (cI, 30, .inl (σ 17))),
  (a 18, .inl (cI, 30, .inl (σ 18))),
  (a 19, .inr (4, [.ref (a 20), .ref (a 21), .ref (a 22), .int (σ 19 0)])),
  (a 20, .inl (cI, 8, .inl (σ 20))),
  (a 21, .inl (cI, 6, .inl (σ 21))),
  (a 22, .inl (cI, 48, .inl (σ 22))),
  (a 23, .inr (1, [.ref (a 24), .ref (a 25), .ref (a 26)])),
  (a 24, .inl (cI, 8, .inl (σ 24))),
  (a 25, .inl (cI, 8, .inl (σ 25))),
  (a 26, .inl (cI, 8, .inl (σ 26)))]
abbrev ty2 (cI cZ : ClassId) : List (ClassId × FieldType) := [(cI, .int), (cZ, .boolean)]
end
section
/-! contracts of methods that return or throw, over a world that a state makes; what a throw needs of the tables and of Throwable's statics -/
abbrev xnames : List String := ["java/lang/RuntimeException", "java/lang/Exception"]
abbrev eIO : String := "java/lang/IndexOutOfBoundsException"
abbrev eIA : String := "java/lang/IllegalArgumentException"
abbrev eIS : String := "java/lang/IllegalStateException"
def EVw : List Cond := [.castable eIO eIO, .castable eIA eIA, .castable eIS eIS, .declares (Bundle.initS "java/lang/RuntimeException"), .declares (Bundle.initS "java/lang/Exception"), .declares (Bundle.initS Bundle.tN)]
def EVs : List (Nat × String) := [(57, "there are 4 trains"), (66, "a train stands on that block"), (88, "the delay would be above 1000"), (97, "no such switch"), (112, "the clock would be above 5000"), (131, "there are 30 bookings"), (156, "weight is out of range"), (159, "there are 8 waggons"), (170, "no such waggon"), (172, "minute is out of range"), (174, "price is out of range"), (189, "there is no waggon in the siding"), (197, "all would weigh too much"), (203, "the train has no waggon"), (215, "no such siding or train"), (217, "place is below 0"), (225, "no such train"), (227, "no such booking"), (229, "no such block"), (231, "no such siding"), (233, "minutes is out of range"), (235, "first is out of range"), (237, "last is out of range"), (242, "there are 4 waggons in the siding"), (244, "the train stands on no siding")]
def EVn : List (String × String) := [(eIA, eIO), (eIS, eIO), (eIS, eIA), (eIO, eIA), (eIO, eIS), (eIA, eIS)]
/-- what the tables say, of what a throw needs, that no list of words carries -/
def EV (U : State) : Prop := (∀ w ∈ EVw, va_Nw w U) ∧ (∀ q ∈ EVs, ∃ sa : Nat, vk_R RX5 q.1 q.2 sa U) ∧ ∀ q ∈ EVn, va_Nc q.1 q.2 U
theorem EV.tab {s : State} : ∀ w ∈ EVw, w.onTables = true := by decide +kernel
theorem EV.warm {s U : State} (hW : s.WarmedH U.vm) (h : EV s) : EV U := by
  refine ⟨?_, fun q hq => ?_, fun q hq => va_Nc.moved hW.alike (h.2.2 q hq)⟩
  · have h1 := h.1
    simp only [EVw, List.forall_mem_cons] at h1 ⊢
    obtain ⟨a1, a2, a3, a4, a5, a6, -⟩ := h1
    exact ⟨va_Nw.warmC hW a1, va_Nw.warmC hW a2, va_Nw.warmC hW a3, va_Nw.warmD hW a4, va_Nw.warmD hW a5, va_Nw.warmD hW a6, fun _ h => absurd h List.not_mem_nil⟩
  · obtain ⟨sa, hs⟩ := h.2.1 q hq
    exact ⟨sa, vk_R.warm hW hs⟩
theorem EV.calling {U : State} {g : JFrame} {mk : MethodId} {a : Array Value} (h : EV U) : EV (U.calling g mk a) :=
  ⟨fun w hw => va_Nw.same (EV.tab (s := U) w hw) (u := U) (U := U.calling g mk a) rfl (h.1 w hw), fun q hq => (h.2.1 q hq).imp fun sa hs => vk_R.same (u := U) (U := U.calling g mk a) rfl hs, fun q hq => va_Nc.moved (u := U) (U := U.calling g mk a) (Vm.Alike.refl U.vm) (h.2.2 q hq)⟩
theorem EV.moved {s U : State} (hW : s.WarmedH U.vm) (h : EV s) : EV U := EV.warm hW h
/-- Throwable's two statics lie outside A -/
def SZ (A : Nat → Prop) (U : State) (H : Heap) : Prop := vx_Zq Bundle.tN "UNASSIGNED_STACK" Bundle.steD A U H ∧ vx_Zq Bundle.tN "SUPPRESSED_SENTINEL" Bundle.listD A U H
theorem SZ.moved {A : Nat → Prop} {u U : State} {H : Heap} (hvm : u.vm.Alike U.vm) (h : SZ A u H) : SZ A U H := ⟨vx_Zq.moved hvm h.1, vx_Zq.moved hvm h.2⟩
theorem SZ.kept {A : Nat → Prop} {U : State} {H H1 : Heap} (h : SZ A U H) (hq : ∀ a : Nat, a < H.size → ¬ A a → H1[a]? = H[a]?) : SZ A U H1 := ⟨h.1.kept hq, h.2.kept hq⟩
theorem SZ.narrow {A B : Nat → Prop} {U : State} {H : Heap} (h : SZ A U H) (hAB : ∀ q, B q → A q) : SZ B U H := ⟨h.1.narrow hAB, h.2.narrow hAB⟩
theorem SZ.calling {A : Nat → Prop} {U : State} {H : Heap} {g : JFrame} {mk : MethodId} {a : Array Value} (h : SZ A U H) : SZ A (U.calling g mk a) H := SZ.moved (u := U) (U := U.calling g mk a) (Vm.Alike.refl U.vm) h
section XR
variable {S : Type} {l : Launch} {y : MethodName} {wsy ws' : List Cond} {rm : Room} {D : va_G} {tys : List (ClassId × FieldType)} {wf : S → va_W} {av : List Value} {σ u : S} {sz : Nat} {cc : ByteArray} {maxL : Nat} {ty : FieldType}
def PX (D : va_G) (tys : List (ClassId × FieldType)) (wf : S → va_W) (σ : S) (sz : Nat) (U : State) : Prop := PR D tys wf σ sz U ∧ EV U ∧ SZ (va_A (wf σ) sz) U U.heap
def XX (D : va_G) (tys : List (ClassId × FieldType)) (wf : S → va_W) (σ : S) (A : Nat → Prop) (sz : Nat) (px : String → Prop) : String → State → State → Prop := vx_X (fun _ : Unit => True) (fun E _ t => (px E ∧ PO D tys wf A σ t) ∧ sz < t.heap.size) A
/-- a method that answers an int (a boolean), or throws with nothing changed -/
def XI (l : Launch) (y : MethodName) (wsy : List Cond) (rm : Room) (D : va_G) (tys : List (ClassId × FieldType)) (wf : S → va_W) (av : List Value) (σ : S) (sz : Nat) (post : Int32 → S → Prop) (px : String → Prop) : Prop :=
  vx_Met l y wsy rm (va_Pc av (PX D tys wf σ sz)) (va_Qi post (PO D tys wf (va_A (wf σ) sz)) (va_A (wf σ) sz)) (XX D tys wf σ (va_A (wf σ) sz) sz px) 1 6 (va_A (wf σ) sz)
def XV (l : Launch) (y : MethodName) (wsy : List Cond) (rm : Room) (D : va_G) (tys : List (ClassId × FieldType)) (wf : S → va_W) (av : List Value) (σ : S) (sz : Nat) (post : S → Prop) (px : String → Prop) : Prop :=
  vx_Met l y wsy rm (va_Pc av (PX D tys wf σ sz)) (va_Qv post (PO D tys wf (va_A (wf σ) sz)) (va_A (wf σ) sz)) (XX D tys wf σ (va_A (wf σ) sz) sz px) 1 6 (va_A (wf σ) sz)
theorem PX.calling {U : State} {g : JFrame} {mk : MethodId} {a : Array Value} (h : PX D tys wf σ sz U) : PX D tys wf σ sz (U.calling g mk a) := ⟨h.1.calling, h.2.1.calling, h.2.2.calling⟩
theorem PX.at {s U : State} {H : Heap} {locs : List Loc} {A : Nat → Prop} (hP : va_P D vwCl (wf σ) H) (hK : va_K D vwCl tys s) (hD : va_D A (wf σ)) (hS : va_S A s.heap H locs) (hA : ∀ q : Nat, s.heap.size ≤ q → A q) (hEV : EV s) (hZ : SZ A s s.heap) (hU : U.heap = H) (hW : s.WarmedH U.vm) : PX D tys wf σ H.size U :=
  ⟨PR.at hP hK hD hU hW, hEV.warm hW, by rw [hU]; exact SZ.moved hW.alike ((hZ.kept hS.2.1).narrow (free_self hD hS hA))⟩
theorem XI.of {post : Int32 → S → Prop} {px : String → Prop} (hy : plainName y.cls = true) (hw : wsy = Cond.code y cc maxL (some ty) :: ws') (hav : (lg_sl av).length ≤ maxL)
    (body : ∀ (p : Program) (e : Env) (s : State) (m : MethodId) (args : Array Value) (below : List Frame) (meth : Method) (c : Code) (A : Nat → Prop) (H : Heap) (locs : List Loc) (ls : Array Slot), p.tables.exec = Jvm.exec → c.code = cc → meth.sig.returnType = some ty → c.maxLocals = maxL → s.vm.findClass y.cls = some m.cls → (∀ w ∈ wsy, w.before args s = true) → meth.locks = false → (∀ x ∈ c.exceptionTable.toList, False) → EV s → SZ A s s.heap → (∀ q : Nat, s.heap.size ≤ q → A q) → va_S A s.heap H locs → va_P D vwCl (wf σ) H → va_K D vwCl tys s → va_D A (wf σ) → lv_has ls maxL (lv_args 0 av) →
      W p l e rm s m args below meth c H locs 0 0 (vx_MQ below (va_Qi post (PO D tys wf A) A) (XX D tys wf σ A s.heap.size px) args s 1 6 A) (F0 m 0 ls [])) : XI l y wsy rm D tys wf av σ sz post px := by
  refine vx_ofW (cc := cc) (maxL := maxL) (ret := some ty) hy hw ?_
  intro p e s m args below meth c s₁ B hml hexc hv
  obtain ⟨rfl, ⟨hsz, hP, hK, hD0⟩, hEV, hZ⟩ := hv
  have hts := atoms_spec (ws := wsy) B.pre
  subst hsz
  have hD := hD0.self (sz := s.heap.size)
  generalize hAe : va_A (wf σ) s.heap.size = A at hD hZ ⊢
  have hA : ∀ q : Nat, s.heap.size ≤ q → A q := fun q h => by rw [← hAe]; exact Or.inr h
  rw [lg_entry_eq]
  exact body p e s m _ below meth c A _ _ _ B.exec B.bytes B.returns hml (findClass_of_methodNamed B.named) hts B.notSynchronized hexc hEV hZ hA va_S.rf hP hK hD (lv_entry av hav)
theorem XV.of {post : S → Prop} {px : String → Prop} (hy : plainName y.cls = true) (hw : wsy = Cond.code y cc maxL none :: ws') (hav : (lg_sl av).length ≤ maxL)
    (body : ∀ (p : Program) (e : Env) (s : State) (m : MethodId) (args : Array Value) (below : List Frame) (meth : Method) (c : Code) (A : Nat → Prop) (H : Heap) (locs : List Loc) (ls : Array Slot), p.tables.exec = Jvm.exec → c.code = cc → meth.sig.returnType = none → c.maxLocals = maxL → s.vm.findClass y.cls = some m.cls → (∀ w ∈ wsy, w.before args s = true) → meth.locks = false → (∀ x ∈ c.exceptionTable.toList, False) → EV s → SZ A s s.heap → (∀ q : Nat, s.heap.size ≤ q → A q) → va_S A s.heap H locs → va_P D vwCl (wf σ) H → va_K D vwCl tys s → va_D A (wf σ) → lv_has ls maxL (lv_args 0 av) →
      W p l e rm s m args below meth c H locs 0 0 (vx_MQ below (va_Qv post (PO D tys wf A) A) (XX D tys wf σ A s.heap.size px) args s 1 6 A) (F0 m 0 ls [])) : XV l y wsy rm D tys wf av σ sz post px := by
  refine vx_ofW (cc := cc) (maxL := maxL) (ret := none) hy hw ?_
  intro p e s m args below meth c s₁ B hml hexc hv
  obtain ⟨rfl, ⟨hsz, hP, hK, hD0⟩, hEV, hZ⟩ := hv
  have hts := atoms_spec (ws := wsy) B.pre
  subst hsz
  have hD := hD0.self (sz := s.heap.size)
  generalize hAe : va_A (wf σ) s.heap.size = A at hD hZ ⊢
  have hA : ∀ q : Nat, s.heap.size ≤ q → A q := fun q h => by rw [← hAe]; exact Or.inr h
  rw [lg_entry_eq]
  exact body p e s m _ below meth c A _ _ _ B.exec B.bytes B.returns hml (findClass_of_methodNamed B.named) hts B.notSynchronized hexc hEV hZ hA va_S.rf hP hK hD (lv_entry av hav)
section XRET
variable {p : Program} {e : Env} {R : Room} {s : State} {m : MethodId} {args : Array Value} {below : List Frame} {meth : Method} {c : Code} {H : Heap} {locs : List Loc} {A : Nat → Prop} {pc : Nat} {ls : Array Slot} {v : Int32} {XC : String → State → State → Prop}
theorem XI.ret {post : Int32 → S → Prop} (hx : p.tables.exec = Jvm.exec) (hb : c.code = cc) (hr : meth.sig.returnType = some .int) (hlocks : meth.locks = false) (hK : va_K D vwCl tys s) (hP : va_P D vwCl (wf u) H) (hD : va_D A (wf u)) (hS : va_S A s.heap H locs) (hdg : decode cc pc = .ok (.ireturn, 1)) (hp : post v u) : W p l e R s m args below meth c H locs 0 0 (vx_MQ below (va_Qi post (PO D tys wf A) A) XC args s 1 6 A) (F0 m pc ls [.int v]) :=
  W.widen (Nat.zero_le 1) (Nat.zero_le 6) (vx_ret (W.iret hx hb hr (fun t ht hW => ⟨⟨v, u, rfl, hp, by rw [ht]; exact hP, va_K.moved hW.alike hK, hD⟩, hS.F ht⟩) hS.2.2 hdg hlocks))
theorem XI.zret {post : Int32 → S → Prop} (hx : p.tables.exec = Jvm.exec) (hb : c.code = cc) (hr : meth.sig.returnType = some .boolean) (hlocks : meth.locks = false) (hK : va_K D vwCl tys s) (hP : va_P D vwCl (wf u) H) (hD : va_D A (wf u)) (hS : va_S A s.heap H locs) (hdg : decode cc pc = .ok (.ireturn, 1)) (hn : narrow .boolean (.int v) = .int v) (hp : post v u) : W p l e R s m args below meth c H locs 0 0 (vx_MQ below (va_Qi post (PO D tys wf A) A) XC args s 1 6 A) (F0 m pc ls [.int v]) :=
  W.widen (Nat.zero_le 1) (Nat.zero_le 6) (vx_ret (W.zret hx hb hr hn (fun t ht hW => ⟨⟨v, u, rfl, hp, by rw [ht]; exact hP, va_K.moved hW.alike hK, hD⟩, hS.F ht⟩) hS.2.2 hdg hlocks))
theorem XV.ret {post : S → Prop} (hx : p.tables.exec = Jvm.exec) (hb : c.code = cc) (hr : meth.sig.returnType = none) (hlocks : meth.locks = false) (hK : va_K D vwCl tys s) (hP : va_P D vwCl (wf u) H) (hD : va_D A (wf u)) (hS : va_S A s.heap H locs) (hdg : decode cc pc = .ok (.return_, 1)) (hp : post u) : W p l e R s m args below meth c H locs 0 0 (vx_MQ below (va_Qv post (PO D tys wf A) A) XC args s 1 6 A) (F0 m pc ls []) :=
  W.widen (Nat.zero_le 1) (Nat.zero_le 6) (vx_ret (W.vret hx hb hr (fun t ht hW => ⟨⟨u, rfl, hp, by rw [ht]; exact hP, va_K.moved hW.alike hK, hD⟩, hS.F ht⟩) hS.2.2 hdg hlocks))
end XRET
section XCALL
variable {p : Program} {e : Env} {R : Room} {s : State} {m : MethodId} {args : Array Value} {below : List Frame} {meth : Method} {c : Code} {H : Heap} {locs : List Loc} {A : Nat → Prop} {pc nL n index : Nat} {ls : Array Slot} {st0 rest As : List Value} {Ts : List Cond} {own C : String} {b : Addr} {bytes : ByteArray} {maxLy : Nat} {rety : Option FieldType} {Qc : Array Value → State → Outcome → State → Prop}
/-- a throw of the method's own -/
theorem X.throwS {text : String} {names : List String} {ik is ic : Nat} {cls : String} {px : String → Prop} (hexec : p.tables.exec = Jvm.exec) (hb : c.code = cc) (hl : l.stackTraces = false)
    (hown : s.vm.findClass RX5 = some m.cls) (hcls : Bundle.fit cls = true) (hnames : ∀ n ∈ names, Bundle.fit n = true)
    (hk : (Cond.classLink RX5 ik cls).before args s = true) (hini : (Cond.initialized cls).before args s = true) (hstr : (is, text) ∈ EVs) (hat : ∀ w ∈ vx_atS RX5 ic cls names, w.before args s = true)
    (hgood : ∀ w ∈ Cond.classLink RX5 ik cls :: Cond.initialized cls :: vx_atS RX5 ic cls names, vx_ot w = true)
    (hEV : EV s) (hZ : SZ A s s.heap) (hK : va_K D vwCl tys s) (hP : va_P D vwCl (wf σ) H) (hD : va_D A (wf σ)) (hS : va_S A s.heap H locs) (hsize : ls.size = c.maxLocals)
    (d0 : decode cc pc = .ok (.new ik, 3)) (d3 : decode cc (pc + 3) = .ok (.dup, 1)) (d4 : decode cc (pc + 4) = .ok (.ldc is, 2)) (d6 : decode cc (pc + 6) = .ok (.invokespecial ic, 3)) (d9 : decode cc (pc + 9) = .ok (.athrow, 1))
    (hexc : ∀ x ∈ c.exceptionTable.toList, False)
    (hRframes : names.length + 3 < R.frames) (hRlocals : (rest.map fun v => v.category).sum + (13 * (names.length + 1) + 43) ≤ R.locals) (hRc : 1 ≤ R.cells) (hRs : 6 ≤ R.slots) (hlocks : meth.locks = false)
    (hpx : px cls) : W p l e R s m args below meth c H locs 0 0 (vx_MQ below Qc (XX D tys wf σ A s.heap.size px) args s 1 6 A) (F0 m pc ls rest) := by
  obtain ⟨sa, hsa⟩ := hEV.2.1 _ hstr
  refine vx_throwS hexec hb hl hown hcls hnames hk hini hsa hat hgood hZ.1 hZ.2 hS hsize d0 d3 d4 d6 d9 (fun x hx => (hexc x hx).elim) hRframes hRlocals (by omega) (by omega) hlocks (fun t ht hz hk1 => ?_) hS.2.2 (Nat.le_refl _) (Nat.le_refl _)
  have hk2 : ∀ (k : Nat) (q : Nat × va_E), (wf σ)[k]? = some q → t.heap[q.1]? = H[q.1]? := fun k q hq => hk1 q.1 (hP k q hq).lt
  exact ⟨(), trivial, ⟨⟨hpx, hP.kept hk2, va_K.moved ht hK, hD⟩, Nat.lt_of_le_of_lt hS.1 hz⟩, ⟨Nat.le_trans hS.1 (Nat.le_of_lt hz), fun q h1 h2 => (hk1 q (Nat.lt_of_lt_of_le h1 hS.1)).trans (hS.2.1 q h1 h2)⟩⟩
/-- a call that throws for certain; the exception leaves the caller too -/
theorem XV.outV {px px' : String → Prop} (F : CallFix p m c cc nL s args Ts own) (hM : XV l y wsy rm D tys wf (.ref b :: As) σ H.size (fun _ => False) px') (cw : CallW R s args own C index y bytes maxLy rety wsy rm 1 6 n)
    (hP : va_P D vwCl (wf σ) H) (hK : va_K D vwCl tys s) (hD : va_D A (wf σ)) (hS : va_S A s.heap H locs) (hA : ∀ q : Nat, s.heap.size ≤ q → A q) (hEV : EV s) (hZ : SZ A s s.heap)
    (hrecv : ∃ cell : Cell, H[b]? = some cell ∧ cell.vm.isStatics = false ∧ s.vm.findClass C = some cell.cls) (hn : As.length = n) (hsize : ls.size = nL) (hW : (rest.map fun v => v.category).sum ≤ 8) (hRc : 1 ≤ R.cells) (hRs : 6 ≤ R.slots)
    (hdg : decode cc pc = .ok (.invokevirtual index, 3)) (hst : st0 = As.reverse ++ .ref b :: rest) (hlocks : meth.locks = false) (hexc : ∀ x ∈ c.exceptionTable.toList, False) (hpx : ∀ E, px' E → px E) :
    W p l e R s m args below meth c H locs 0 0 (vx_MQ below Qc (XX D tys wf σ A s.heap.size px) args s 1 6 A) (F0 m pc ls st0) := by
  subst hst
  have hF := free_self hD hS hA
  refine vx_callv (vx_runV (As := As) (rest := rest) F hM cw ⟨fun a U g mk q => ⟨q.1, q.2.calling⟩, hrecv, fun U hU hW => ⟨rfl, PX.at hP hK hD hS hA hEV hZ hU hW⟩⟩ rfl hn hsize rfl (lv_room hW) hdg ⟨by omega, by omega⟩) hS (fun q _ h => hF q h) hF (fun q _ h => hF q h) ?_ (fun u t H1 locs1 ht hvm hw _ _ _ _ => hw.elim)
  intro E ce q9 u t H1 locs1 ht hvm _ hB hz1 hk1 hS1 hce hcv hcl
  obtain ⟨⟨hE, hP1, hK1, hD1⟩, hg9⟩ := hB
  rw [ht] at hP1
  exact vx_out (fun x hx => (hexc x hx).elim) hlocks hce hcv hcl (fun t1 ht1 hW1 => ⟨(), trivial, ⟨⟨hpx E hE, by rw [ht1]; exact hP1, va_K.moved hW1 hK, hD⟩, by rw [ht1, ← ht]; exact Nat.lt_of_le_of_lt hS.1 hg9⟩, hS1.F ht1⟩) hS1.2.2 (Nat.le_refl _) (Nat.le_refl _)
theorem XV.outS {px px' : String → Prop} (F : CallFix p m c cc nL s args Ts own) (hM : XV l y wsy rm D tys wf As σ H.size (fun _ => False) px') (cw : CallB R s args own index y bytes maxLy rety wsy rm 1 6 n ∧ (Cond.static y).before args s = true)
    (hP : va_P D vwCl (wf σ) H) (hK : va_K D vwCl tys s) (hD : va_D A (wf σ)) (hS : va_S A s.heap H locs) (hA : ∀ q : Nat, s.heap.size ≤ q → A q) (hEV : EV s) (hZ : SZ A s s.heap)
    (hn : As.length = n) (hsize : ls.size = nL) (hW : (rest.map fun v => v.category).sum ≤ 8) (hRc : 1 ≤ R.cells) (hRs : 6 ≤ R.slots)
    (hdg : decode cc pc = .ok (.invokestatic index, 3)) (hst : st0 = As.reverse ++ rest) (hlocks : meth.locks = false) (hexc : ∀ x ∈ c.exceptionTable.toList, False) (hpx : ∀ E, px' E → px E) :
    W p l e R s m args below meth c H locs 0 0 (vx_MQ below Qc (XX D tys wf σ A s.heap.size px) args s 1 6 A) (F0 m pc ls st0) := by
  subst hst
  have hF := free_self hD hS hA
  refine vx_callv (vx_runS (As := As) (rest := rest) F hM cw ⟨fun a U g mk q => ⟨q.1, q.2.calling⟩, fun U hU hW => ⟨rfl, PX.at hP hK hD hS hA hEV hZ hU hW⟩⟩ rfl hn hsize rfl (lv_room hW) hdg ⟨by omega, by omega⟩) hS (fun q _ h => hF q h) hF (fun q _ h => hF q h) ?_ (fun u t H1 locs1 ht hvm hw _ _ _ _ => hw.elim)
  intro E ce q9 u t H1 locs1 ht hvm _ hB hz1 hk1 hS1 hce hcv hcl
  obtain ⟨⟨hE, hP1, hK1, hD1⟩, hg9⟩ := hB
  rw [ht] at hP1
  exact vx_out (fun x hx => (hexc x hx).elim) hlocks hce hcv hcl (fun t1 ht1 hW1 => ⟨(), trivial, ⟨⟨hpx E hE, by rw [ht1]; exact hP1, va_K.moved hW1 hK, hD⟩, by rw [ht1, ← ht]; exact Nat.lt_of_le_of_lt hS.1 hg9⟩, hS1.F ht1⟩) hS1.2.2 (Nat.le_refl _) (Nat.le_refl _)
theorem XI.outV {px px' : String → Prop} (F : CallFix p m c cc nL s args Ts own) (hM : XI l y wsy rm D tys wf (.ref b :: As) σ H.size (fun _ _ => False) px') (cw : CallW R s args own C index y bytes maxLy rety wsy rm 1 6 n)
    (hP : va_P D vwCl (wf σ) H) (hK : va_K D vwCl tys s) (hD : va_D A (wf σ)) (hS : va_S A s.heap H locs) (hA : ∀ q : Nat, s.heap.size ≤ q → A q) (hEV : EV s) (hZ : SZ A s s.heap)
    (hrecv : ∃ cell : Cell, H[b]? = some cell ∧ cell.vm.isStatics = false ∧ s.vm.findClass C = some cell.cls) (hn : As.length = n) (hsize : ls.size = nL) (hW : (rest.map fun v => v.category).sum ≤ 8) (hRc : 1 ≤ R.cells) (hRs : 6 ≤ R.slots)
    (hdg : decode cc pc = .ok (.invokevirtual index, 3)) (hst : st0 = As.reverse ++ .ref b :: rest) (hlocks : meth.locks = false) (hexc : ∀ x ∈ c.exceptionTable.toList, False) (hpx : ∀ E, px' E → px E) :
    W p l e R s m args below meth c H locs 0 0 (vx_MQ below Qc (XX D tys wf σ A s.heap.size px) args s 1 6 A) (F0 m pc ls st0) := by
  subst hst
  have hF := free_self hD hS hA
  refine vx_calli (vx_runV (As := As) (rest := rest) F hM cw ⟨fun a U g mk q => ⟨q.1, q.2.calling⟩, hrecv, fun U hU hW => ⟨rfl, PX.at hP hK hD hS hA hEV hZ hU hW⟩⟩ rfl hn hsize rfl (lv_room hW) hdg ⟨by omega, by omega⟩) hS (fun q _ h => hF q h) hF (fun q _ h => hF q h) ?_ (fun r u t H1 locs1 ht hvm hw _ _ _ _ => hw.elim)
  intro E ce q9 u t H1 locs1 ht hvm _ hB hz1 hk1 hS1 hce hcv hcl
  obtain ⟨⟨hE, hP1, hK1, hD1⟩, hg9⟩ := hB
  rw [ht] at hP1
  exact vx_out (fun x hx => (hexc x hx).elim) hlocks hce hcv hcl (fun t1 ht1 hW1 => ⟨(), trivial, ⟨⟨hpx E hE, by rw [ht1]; exact hP1, va_K.moved hW1 hK, hD⟩, by rw [ht1, ← ht]; exact Nat.lt_of_le_of_lt hS.1 hg9⟩, hS1.F ht1⟩) hS1.2.2 (Nat.le_refl _) (Nat.le_refl _)
end XCALL
end XR
end
section
/-! the pure pictures -/
def fl (x : Int32) : Int32 := if x = 0 then 1 else 0
theorem fl_0 {x : Int32} (h : x = 0) : fl x = 1 := if_pos h
theorem fl_1 {x : Int32} (h : ¬ x = 0) : fl x = 0 := if_neg h
theorem fl_b (x : Int32) : fl x = 0 ∨ fl x = 1 := by
  by_cases h : x = 0
  · exact Or.inr (fl_0 h)
  · exact Or.inl (fl_1 h)
def blk (b : Int32) : Prop := b = 0 ∨ b = 1 ∨ b = 2 ∨ b = 3 ∨ b = 4 ∨ b = 5 ∨ b = 6 ∨ b = 7
/-- the block behind an end: -2 a dead end, -1 not joined -/
def ahd (T : Nat → Int32) (b r : Int32) : Int32 :=
  if r = 0 then
    (if b = 0 then -2 else if b = 2 then (if T 0 = 0 then 1 else -1) else if b = 4 then (if T 1 = 0 then 3 else -1) else if b = 6 then (if T 0 = 0 then -1 else 1) else if b = 7 then (if T 1 = 0 then -1 else 3) else b - 1)
  else
    (if b = 1 then (if T 0 = 0 then 2 else 6) else if b = 3 then (if T 1 = 0 then 4 else 7) else if b = 5 then -2 else if b = 6 then -2 else if b = 7 then -2 else b + 1)
/-- the first k < n with B k = w, or -1 -/
def so (B : Nat → Int32) (w : Int32) : Nat → Int32
  | 0 => -1
  | n + 1 => if so B w n = -1 then (if B n = w then nI n else -1) else so B w n
theorem so_miss {B : Nat → Int32} {w : Int32} : ∀ {n : Nat}, (∀ i, i < n → ¬ B i = w) → so B w n = -1
  | 0, _ => rfl
  | n + 1, h => by
    rw [so, if_pos (so_miss (fun i hi => h i (by omega))), if_neg (h n (by omega))]
theorem nI_m1 {j : Nat} (h : j < 2 ^ 31) : ¬ nI j = -1 := by
  intro e
  have h1 := nI_toInt h
  rw [e] at h1
  have h2 : (-1 : Int32).toInt = -1 := rfl
  omega
theorem so_hit {B : Nat → Int32} {w : Int32} {j : Nat} (e : B j = w) (h : ∀ i, i < j → ¬ B i = w) : ∀ {n : Nat}, j < n → n < 2 ^ 31 → so B w n = nI j
  | 0, hj, _ => absurd hj (Nat.not_lt_zero j)
  | n + 1, hj, hn => by
    by_cases hjn : j = n
    · subst hjn
      rw [so, if_pos (so_miss h), if_pos e]
    · have h1 := so_hit e h (n := n) (by omega) (by omega)
      rw [so, h1, if_neg (nI_m1 (by omega))]
/-- some booking of the block b for another train than t has a minute of f .. l -/
def mts (T B F L : Nat → Int32) (n : Nat) (t b f l : Int32) : Prop := ∃ k, k < n ∧ B k = b ∧ ¬ T k = t ∧ ¬ l < F k ∧ ¬ L k < f
def inR (v a b : Int32) : Prop := ¬ v < a ∧ ¬ b < v
abbrev T3 : Type := (Nat → Int32) × (Nat → Int32) × (Nat → Int32)
/-- one train in one minute: blocks, directions, delays -/
noncomputable def stp (Tu bT bB bF bL Hd : Nat → Int32) (n nb : Nat) (mi : Int32) (k : Nat) (x : T3) : T3 × Int32 :=
  if x.2.2 k ≤ 0 then
    (if Hd k = 0 then
      (if ahd Tu (x.1 k) (x.2.1 k) = -2 then ((x.1, upd x.2.1 k (fl (x.2.1 k)), x.2.2), 0)
       else cif (ahd Tu (x.1 k) (x.2.1 k) = -1 ∨ ¬ so x.1 (ahd Tu (x.1 k) (x.2.1 k)) n = -1 ∨ mts bT bB bF bL nb (nI k) (ahd Tu (x.1 k) (x.2.1 k)) mi mi) (x, 0) ((upd x.1 k (ahd Tu (x.1 k) (x.2.1 k)), x.2.1, x.2.2), 1))
     else (x, 0))
  else ((x.1, x.2.1, upd x.2.2 k (x.2.2 k - 1)), 0)
section STP
variable {Tu bT bB bF bL Hd : Nat → Int32} {n nb : Nat} {mi : Int32} {k : Nat} {x : T3}
theorem stp_d (h : ¬ x.2.2 k ≤ 0) : stp Tu bT bB bF bL Hd n nb mi k x = ((x.1, x.2.1, upd x.2.2 k (x.2.2 k - 1)), 0) := if_neg h
theorem stp_h (h : x.2.2 k ≤ 0) (h2 : ¬ Hd k = 0) : stp Tu bT bB bF bL Hd n nb mi k x = (x, 0) := by rw [stp, if_pos h, if_neg h2]
theorem stp_f (h : x.2.2 k ≤ 0) (h2 : Hd k = 0) (h3 : ahd Tu (x.1 k) (x.2.1 k) = -2) : stp Tu bT bB bF bL Hd n nb mi k x = ((x.1, upd x.2.1 k (fl (x.2.1 k)), x.2.2), 0) := by rw [stp, if_pos h, if_pos h2, if_pos h3]
theorem stp_b (h : x.2.2 k ≤ 0) (h2 : Hd k = 0) (h3 : ¬ ahd Tu (x.1 k) (x.2.1 k) = -2) (h4 : ahd Tu (x.1 k) (x.2.1 k) = -1 ∨ ¬ so x.1 (ahd Tu (x.1 k) (x.2.1 k)) n = -1 ∨ mts bT bB bF bL nb (nI k) (ahd Tu (x.1 k) (x.2.1 k)) mi mi) : stp Tu bT bB bF bL Hd n nb mi k x = (x, 0) := by rw [stp, if_pos h, if_pos h2, if_neg h3, cif_t h4]
theorem stp_m (h : x.2.2 k ≤ 0) (h2 : Hd k = 0) (h3 : ¬ ahd Tu (x.1 k) (x.2.1 k) = -2) (h4 : ¬ (ahd Tu (x.1 k) (x.2.1 k) = -1 ∨ ¬ so x.1 (ahd Tu (x.1 k) (x.2.1 k)) n = -1 ∨ mts bT bB bF bL nb (nI k) (ahd Tu (x.1 k) (x.2.1 k)) mi mi)) : stp Tu bT bB bF bL Hd n nb mi k x = ((upd x.1 k (ahd Tu (x.1 k) (x.2.1 k)), x.2.1, x.2.2), 1) := by rw [stp, if_pos h, if_pos h2, if_neg h3, cif_f h4]
theorem stp_01 (Tu bT bB bF bL Hd : Nat → Int32) (n nb : Nat) (mi : Int32) (k : Nat) (x : T3) : (stp Tu bT bB bF bL Hd n nb mi k x).2 = 0 ∨ (stp Tu bT bB bF bL Hd n nb mi k x).2 = 1 := by
  by_cases h : x.2.2 k ≤ 0
  · by_cases h2 : Hd k = 0
    · by_cases h3 : ahd Tu (x.1 k) (x.2.1 k) = -2
      · rw [stp_f h h2 h3]; exact Or.inl rfl
      · by_cases h4 : ahd Tu (x.1 k) (x.2.1 k) = -1 ∨ ¬ so x.1 (ahd Tu (x.1 k) (x.2.1 k)) n = -1 ∨ mts bT bB bF bL nb (nI k) (ahd Tu (x.1 k) (x.2.1 k)) mi mi
        · rw [stp_b h h2 h3 h4]; exact Or.inl rfl
        · rw [stp_m h h2 h3 h4]; exact Or.inr rfl
    · rw [stp_h h h2]; exact Or.inl rfl
  · rw [stp_d h]; exact Or.inl rfl
/-- the first k trains in one minute, and how many came to another block -/
noncomputable def mvs (Tu bT bB bF bL Hd : Nat → Int32) (n nb : Nat) (mi : Int32) (x : T3) : Nat → T3 × Int32
  | 0 => (x, 0)
  | k + 1 => ((stp Tu bT bB bF bL Hd n nb mi k (mvs Tu bT bB bF bL Hd n nb mi x k).1).1, (mvs Tu bT bB bF bL Hd n nb mi x k).2 + (stp Tu bT bB bF bL Hd n nb mi k (mvs Tu bT bB bF bL Hd n nb mi x k).1).2)
end STP
/-- lateness behind a minute, of the first k bookings -/
noncomputable def mkm (B bT bB bF bL : Nat → Int32) (n : Nat) (mi : Int32) (L : Nat → Int32) : Nat → Nat → Int32
  | 0 => L
  | k + 1 => cif (mkm B bT bB bF bL n mi L k k = -1 ∧ inR mi (bF k) (bL k) ∧ so B (bB k) n = bT k) (upd (mkm B bT bB bF bL n mi L k) k (mi - bF k)) (mkm B bT bB bF bL n mi L k)
theorem ahd_blk {T : Nat → Int32} {b r : Int32} (h : blk b) : ahd T b r = -2 ∨ ahd T b r = -1 ∨ blk (ahd T b r) := by
  rcases h with rfl | rfl | rfl | rfl | rfl | rfl | rfl | rfl <;> by_cases hr : r = 0 <;> by_cases h0 : T 0 = 0 <;> by_cases h1 : T 1 = 0 <;> simp (decide := true) [ahd, hr, h0, h1, blk]
theorem stp_one {Tu bT bB bF bL Hd : Nat → Int32} {n nb : Nat} {mi : Int32} {k : Nat} {x : T3} {r : Int32} (h : r = (stp Tu bT bB bF bL Hd n nb mi k x).2) (c : ¬ r = 0) : r = 1 := by
  subst h
  exact (stp_01 Tu bT bB bF bL Hd n nb mi k x).resolve_left c
theorem stp_blk {Tu bT bB bF bL Hd : Nat → Int32} {n nb : Nat} {mi : Int32} {k : Nat} {x : T3} (i : Nat) (h : blk (x.1 i)) (hk : blk (x.1 k)) : blk ((stp Tu bT bB bF bL Hd n nb mi k x).1.1 i) := by
  by_cases h1 : x.2.2 k ≤ 0
  · by_cases h2 : Hd k = 0
    · by_cases h3 : ahd Tu (x.1 k) (x.2.1 k) = -2
      · rw [stp_f h1 h2 h3]; exact h
      · by_cases h4 : ahd Tu (x.1 k) (x.2.1 k) = -1 ∨ ¬ so x.1 (ahd Tu (x.1 k) (x.2.1 k)) n = -1 ∨ mts bT bB bF bL nb (nI k) (ahd Tu (x.1 k) (x.2.1 k)) mi mi
        · rw [stp_b h1 h2 h3 h4]; exact h
        · rw [stp_m h1 h2 h3 h4]
          show blk (upd x.1 k _ i)
          by_cases e : i = k
          · subst e
            rw [pk_us]
            rcases ahd_blk (T := Tu) (r := x.2.1 i) hk with q | q | q
            · exact absurd q h3
            · exact absurd (Or.inl q) h4
            · exact q
          · rw [pk_un e]; exact h
    · rw [stp_h h1 h2]; exact h
  · rw [stp_d h1]; exact h
theorem mvs_2 (Tu bT bB bF bL Hd : Nat → Int32) (n nb : Nat) (mi : Int32) (x : T3) (k : Nat) : (mvs Tu bT bB bF bL Hd n nb mi x (k + 1)).2 = (mvs Tu bT bB bF bL Hd n nb mi x k).2 + (stp Tu bT bB bF bL Hd n nb mi k (mvs Tu bT bB bF bL Hd n nb mi x k).1).2 := rfl
theorem mvs_blk {Tu bT bB bF bL Hd : Nat → Int32} {n nb : Nat} {mi : Int32} {x : T3} (h : ∀ i, i < n → blk (x.1 i)) : ∀ k i, i < n → k ≤ n → blk ((mvs Tu bT bB bF bL Hd n nb mi x k).1.1 i)
  | 0, i, hi, _ => h i hi
  | k + 1, i, hi, hk => stp_blk i (mvs_blk h k i hi (by omega)) (mvs_blk h k k (by omega) (by omega))
/-- f on the first k, else g -/
def cpn (f g : Nat → Int32) (k : Nat) : Nat → Int32 := fun i => if i < k then f i else g i
theorem cpn_0 (f g : Nat → Int32) : cpn f g 0 = g := by funext i; simp [cpn]
theorem cpn_s (f g : Nat → Int32) (k : Nat) : upd (cpn f g k) k (f k) = cpn f g (k + 1) := by
  funext i
  by_cases h : i = k
  · subst h; simp [cpn, upd]
  · by_cases h2 : i < k
    · have h3 : i < k + 1 := by omega
      simp [cpn, upd, h, h2, h3]
    · have h3 : ¬ i < k + 1 := by omega
      simp [cpn, upd, h, h2, h3]
theorem cpn_in {f g : Nat → Int32} {k i : Nat} (h : i < k) : cpn f g k i = f i := if_pos h
theorem cpn_out {f g : Nat → Int32} {k i : Nat} (h : ¬ i < k) : cpn f g k i = g i := if_neg h
end
section
set_option maxRecDepth 20000 in
theorem in_X0_meetsAnother_X0 : ∀ w ∈ wsX00, w ∈ wsX0_meetsAnother := by decide +kernel
set_option maxHeartbeats 4000000 in
set_option maxRecDepth 100000 in
/-- Bookings.meetsAnother -/
theorem c_X0_meetsAnother (l : Launch) (D : va_G) (cI cZ : ClassId) (a : Nat → Nat) (sz : Nat) (σ : St) (t b fr to : Int32) (nb : Nat) (hnb : σ 13 0 = nI nb) (hnb30 : nb ≤ 30) : MI l yX0_meetsAnother wsX0_meetsAnother ({ frames := 0, cells := 0, slots := 0, locals := 0 }) D (ty2 cI cZ) (wX cI cZ a) [.ref (a 13), .int t, .int b, .int fr, .int to] σ sz (fun r u => u = σ ∧ bo r (mts (σ 14) (σ 15) (σ 16) (σ 17) nb t b fr to)) := by
  refine MI.of (cc := cX0_meetsAnother) (maxL := 6) (by decide) rfl (Nat.le_of_ble_eq_true rfl) ?_
  intro p e s m args below meth c A H locs ls hx hb hr hml hown hts hlocks hA hS hP hK hD hl
  have hl : lv_has ls 6 [(0, .ref (a 13)), (1, .int t), (2, .int b), (3, .int fr), (4, .int to)] := hl
  refine lv_iconst (v := 0) hx hb dX0_meetsAnother_0 (by decide) ?_
  refine lv_istore (lv' := [(5, .int 0), (0, .ref (a 13)), (1, .int t), (2, .int b), (3, .int fr), (4, .int to)]) hx hb dX0_meetsAnother_1 hl (by decide) rfl (fun ls hl => ?_)
  have loop_3 : ∀ (f : Nat) (k : Nat) (H : Heap) (locs : List Loc) (ls : Array Slot), nb < k + f → k ≤ nb → (∀ i, i < k → ¬ (σ 15 i = b ∧ ¬ σ 14 i = t ∧ ¬ to < σ 16 i ∧ ¬ σ 17 i < fr)) → va_P D vwCl (wX cI cZ a σ) H → va_D A (wX cI cZ a σ) → va_S A s.heap H locs → lv_has ls 6 [(0, .ref (a 13)), (1, .int t), (2, .int b), (3, .int fr), (4, .int to), (5, .int (nI k))] → W p l e { frames := 0, cells := 0, slots := 0, locals := 0 } s m args below meth c H locs 0 0 (MQ below (va_Qi (fun r u => u = σ ∧ bo r (mts (σ 14) (σ 15) (σ 16) (σ 17) nb t b fr to)) (PO D (ty2 cI cZ) (wX cI cZ a) A) A) args s 0 0 A) (F0 m 3 ls []) := by
    intro f
    induction f with
    | zero => intro k H locs ls hf hk hno; exact absurd hf (by omega)
    | succ f ih =>
      intro k H locs ls hf hk hno hP hD hS hl
      refine lv_iload hx hb dX0_meetsAnother_3 (lv_at hl 5 rfl) ?_
      refine lv_aload_n hx hb dX0_meetsAnother_5 rfl (lv_at hl 0 rfl) ?_
      refine va_get (D := D) (ci := 0) (v := .int (σ 13 0)) (C := RX0) (T := TX0) (N := 6) hx hb hts in_X0_meetsAnother_X0 hown hK hP 13 rfl rfl 5 (by decide) (hts (.fieldLink RX0 27 "Warpyard$Bookings" "count" "I") (by decide +kernel)) (fun _ h9 => h9) rfl dX0_meetsAnother_6 ?_
      refine lv_topi (fun v_9 e_9 => ?_)
      obtain rfl : v_9 = nI nb := by rw [e_9]; exact hnb
      refine lv_icmp_ge (tgt := 65) hx hb dX0_meetsAnother_9 (by decide) (fun c_9 => ?_) (fun c_9 => ?_)
      · skip
        rw [nI_leI (by omega) (by omega)] at c_9
        refine lv_iconst (v := 0) hx hb dX0_meetsAnother_65 (by decide) ?_
        exact MI.zret hx hb hr hlocks hK hP hD hS dX0_meetsAnother_66 rfl (by exact ⟨rfl, Or.inr ⟨rfl, fun ⟨i, hi, h⟩ => hno i (by omega) h⟩⟩)
      · skip
        rw [nI_leI (by omega) (by omega)] at c_9
        refine lv_aload_n hx hb dX0_meetsAnother_12 rfl (lv_at hl 0 rfl) ?_
        refine va_get (D := D) (ci := 0) (v := .ref (a 15)) (C := RX0) (T := TX0) (N := 6) hx hb hts in_X0_meetsAnother_X0 hown hK hP 13 rfl rfl 1 (by decide) (hts (.fieldLink RX0 15 "Warpyard$Bookings" "block" "[I") (by decide +kernel)) (fun _ h9 => h9) rfl dX0_meetsAnother_13 ?_
        refine lv_iload hx hb dX0_meetsAnother_16 (lv_at hl 5 rfl) ?_
        refine na_iald hx hb hK hP 15 0 (f := (σ 15)) rfl rfl k (by omega) (by decide) rfl dX0_meetsAnother_18 ?_
        refine lv_iload_n hx hb dX0_meetsAnother_19 rfl (lv_at hl 2 rfl) ?_
        refine lv_icmp_ne (tgt := 59) hx hb dX0_meetsAnother_20 (by decide) (fun c_20 => ?_) (fun c_20 => ?_)
        · skip
          refine lv_iinc (v := nI (k + 1)) (lv' := [(5, .int (nI (k + 1))), (0, .ref (a 13)), (1, .int t), (2, .int b), (3, .int fr), (4, .int to)]) hx hb dX0_meetsAnother_59 hl (k := 5) rfl (by exact nI_1 k) (by decide) rfl (fun ls hl => ?_)
          refine lv_goto (tgt := 3) hx hb dX0_meetsAnother_62 (by decide) ?_
          exact ih (k + 1) _ _ ls (by omega) (by omega) (by exact lt_s hno (fun h => c_20 h.1)) hP hD hS (lv_sub hl [1, 2, 3, 4, 5, 0] rfl)
        · skip
          refine lv_aload_n hx hb dX0_meetsAnother_23 rfl (lv_at hl 0 rfl) ?_
          refine va_get (D := D) (ci := 0) (v := .ref (a 14)) (C := RX0) (T := TX0) (N := 6) hx hb hts in_X0_meetsAnother_X0 hown hK hP 13 rfl rfl 0 (by decide) (hts (.fieldLink RX0 9 "Warpyard$Bookings" "train" "[I") (by decide +kernel)) (fun _ h9 => h9) rfl dX0_meetsAnother_24 ?_
          refine lv_iload hx hb dX0_meetsAnother_27 (lv_at hl 5 rfl) ?_
          refine na_iald hx hb hK hP 14 0 (f := (σ 14)) rfl rfl k (by omega) (by decide) rfl dX0_meetsAnother_29 ?_
          refine lv_iload_n hx hb dX0_meetsAnother_30 rfl (lv_at hl 1 rfl) ?_
          refine lv_icmp_eq (tgt := 59) hx hb dX0_meetsAnother_31 (by decide) (fun c_31 => ?_) (fun c_31 => ?_)
          · skip
            refine lv_iinc (v := nI (k + 1)) (lv' := [(5, .int (nI (k + 1))), (0, .ref (a 13)), (1, .int t), (2, .int b), (3, .int fr), (4, .int to)]) hx hb dX0_meetsAnother_59 hl (k := 5) rfl (by exact nI_1 k) (by decide) rfl (fun ls hl => ?_)
            refine lv_goto (tgt := 3) hx hb dX0_meetsAnother_62 (by decide) ?_
            exact ih (k + 1) _ _ ls (by omega) (by omega) (by exact lt_s hno (fun h => h.2.1 c_31)) hP hD hS (lv_sub hl [1, 2, 3, 4, 5, 0] rfl)
          · skip
            refine lv_aload_n hx hb dX0_meetsAnother_34 rfl (lv_at hl 0 rfl) ?_
            refine va_get (D := D) (ci := 0) (v := .ref (a 16)) (C := RX0) (T := TX0) (N := 6) hx hb hts in_X0_meetsAnother_X0 hown hK hP 13 rfl rfl 2 (by decide) (hts (.fieldLink RX0 18 "Warpyard$Bookings" "first" "[I") (by decide +kernel)) (fun _ h9 => h9) rfl dX0_meetsAnother_35 ?_
            refine lv_iload hx hb dX0_meetsAnother_38 (lv_at hl 5 rfl) ?_
            refine na_iald hx hb hK hP 16 0 (f := (σ 16)) rfl rfl k (by omega) (by decide) rfl dX0_meetsAnother_40 ?_
            refine lv_iload hx hb dX0_meetsAnother_41 (lv_at hl 4 rfl) ?_
            refine lv_icmp_gt (tgt := 59) hx hb dX0_meetsAnother_43 (by decide) (fun c_43 => ?_) (fun c_43 => ?_)
            · skip
              refine lv_iinc (v := nI (k + 1)) (lv' := [(5, .int (nI (k + 1))), (0, .ref (a 13)), (1, .int t), (2, .int b), (3, .int fr), (4, .int to)]) hx hb dX0_meetsAnother_59 hl (k := 5) rfl (by exact nI_1 k) (by decide) rfl (fun ls hl => ?_)
              refine lv_goto (tgt := 3) hx hb dX0_meetsAnother_62 (by decide) ?_
              exact ih (k + 1) _ _ ls (by omega) (by omega) (by exact lt_s hno (fun h => h.2.2.1 c_43)) hP hD hS (lv_sub hl [1, 2, 3, 4, 5, 0] rfl)
            · skip
              refine lv_iload_n hx hb dX0_meetsAnother_46 rfl (lv_at hl 3 rfl) ?_
              refine lv_aload_n hx hb dX0_meetsAnother_47 rfl (lv_at hl 0 rfl) ?_
              refine va_get (D := D) (ci := 0) (v := .ref (a 17)) (C := RX0) (T := TX0) (N := 6) hx hb hts in_X0_meetsAnother_X0 hown hK hP 13 rfl rfl 3 (by decide) (hts (.fieldLink RX0 21 "Warpyard$Bookings" "last" "[I") (by decide +kernel)) (fun _ h9 => h9) rfl dX0_meetsAnother_48 ?_
              refine lv_iload hx hb dX0_meetsAnother_51 (lv_at hl 5 rfl) ?_
              refine na_iald hx hb hK hP 17 0 (f := (σ 17)) rfl rfl k (by omega) (by decide) rfl dX0_meetsAnother_53 ?_
              refine lv_icmp_gt (tgt := 59) hx hb dX0_meetsAnother_54 (by decide) (fun c_54 => ?_) (fun c_54 => ?_)
              · skip
                refine lv_iinc (v := nI (k + 1)) (lv' := [(5, .int (nI (k + 1))), (0, .ref (a 13)), (1, .int t), (2, .int b), (3, .int fr), (4, .int to)]) hx hb dX0_meetsAnother_59 hl (k := 5) rfl (by exact nI_1 k) (by decide) rfl (fun ls hl => ?_)
                refine lv_goto (tgt := 3) hx hb dX0_meetsAnother_62 (by decide) ?_
                exact ih (k + 1) _ _ ls (by omega) (by omega) (by exact lt_s hno (fun h => h.2.2.2 c_54)) hP hD hS (lv_sub hl [1, 2, 3, 4, 5, 0] rfl)
              · skip
                refine lv_iconst (v := 1) hx hb dX0_meetsAnother_57 (by decide) ?_
                exact MI.zret hx hb hr hlocks hK hP hD hS dX0_meetsAnother_58 rfl (by exact ⟨rfl, Or.inl ⟨rfl, k, by omega, c_20, c_31, c_43, c_54⟩⟩)
  exact loop_3 (nb + 1) 0 _ _ ls (by omega) (by omega) (by intro i hi; omega) hP hD hS (lv_sub hl [1, 2, 3, 4, 5, 0] rfl)
set_option maxRecDepth 20000 in
theorem in_X3_standingOn_X3 : ∀ w ∈ wsX30, w ∈ wsX3_standingOn := by decide +kernel
set_option maxHeartbeats 4000000 in
set_option maxRecDepth 100000 in
/-- Trains.standingOn: the train on a block -/
theorem c_X3_standingOn (l : Launch) (D : va_G) (cI cZ : ClassId) (a : Nat → Nat) (sz : Nat) (σ : St) (w : Int32) (n : Nat) (hn : σ 3 0 = nI n) (hn4 : n ≤ 4) : MI l yX3_standingOn wsX3_standingOn ({ frames := 0, cells := 0, slots := 0, locals := 0 }) D (ty2 cI cZ) (wX cI cZ a) [.ref (a 3), .int w] σ sz (fun r u => u = σ ∧ r = so (σ 4) w n) := by
  refine MI.of (cc := cX3_standingOn) (maxL := 3) (by decide) rfl (Nat.le_of_ble_eq_true rfl) ?_
  intro p e s m args below meth c A H locs ls hx hb hr hml hown hts hlocks hA hS hP hK hD hl
  have hl : lv_has ls 3 [(0, .ref (a 3)), (1, .int w)] := hl
  refine lv_iconst (v := 0) hx hb dX3_standingOn_0 (by decide) ?_
  refine lv_istore_n (lv' := [(2, .int 0), (0, .ref (a 3)), (1, .int w)]) hx hb dX3_standingOn_1 rfl hl (by decide) rfl (fun ls hl => ?_)
  have loop_2 : ∀ (f : Nat) (k : Nat) (H : Heap) (locs : List Loc) (ls : Array Slot), n < k + f → k ≤ n → (∀ i, i < k → ¬ σ 4 i = w) → va_P D vwCl (wX cI cZ a σ) H → va_D A (wX cI cZ a σ) → va_S A s.heap H locs → lv_has ls 3 [(0, .ref (a 3)), (1, .int w), (2, .int (nI k))] → W p l e { frames := 0, cells := 0, slots := 0, locals := 0 } s m args below meth c H locs 0 0 (MQ below (va_Qi (fun r u => u = σ ∧ r = so (σ 4) w n) (PO D (ty2 cI cZ) (wX cI cZ a) A) A) args s 0 0 A) (F0 m 2 ls []) := by
    intro f
    induction f with
    | zero => intro k H locs ls hf hk hno; exact absurd hf (by omega)
    | succ f ih =>
      intro k H locs ls hf hk hno hP hD hS hl
      refine lv_iload_n hx hb dX3_standingOn_2 rfl (lv_at hl 2 rfl) ?_
      refine lv_aload_n hx hb dX3_standingOn_3 rfl (lv_at hl 0 rfl) ?_
      refine va_get (D := D) (ci := 3) (v := .int (σ 3 0)) (C := RX3) (T := TX3) (N := 5) hx hb hts in_X3_standingOn_X3 hown hK hP 3 rfl rfl 4 (by decide) (hts (.fieldLink RX3 25 "Warpyard$Trains" "count" "I") (by decide +kernel)) (fun _ h9 => h9) rfl dX3_standingOn_4 ?_
      refine lv_topi (fun v_7 e_7 => ?_)
      obtain rfl : v_7 = nI n := by rw [e_7]; exact hn
      refine lv_icmp_ge (tgt := 28) hx hb dX3_standingOn_7 (by decide) (fun c_7 => ?_) (fun c_7 => ?_)
      · skip
        rw [nI_leI (by omega) (by omega)] at c_7
        refine lv_iconst (v := (-1)) hx hb dX3_standingOn_28 (by decide) ?_
        exact MI.ret hx hb hr hlocks hK hP hD hS dX3_standingOn_29 (by exact ⟨rfl, (so_miss (fun i hi => hno i (by omega))).symm⟩)
      · skip
        rw [nI_leI (by omega) (by omega)] at c_7
        refine lv_aload_n hx hb dX3_standingOn_10 rfl (lv_at hl 0 rfl) ?_
        refine va_get (D := D) (ci := 3) (v := .ref (a 4)) (C := RX3) (T := TX3) (N := 5) hx hb hts in_X3_standingOn_X3 hown hK hP 3 rfl rfl 0 (by decide) (hts (.fieldLink RX3 9 "Warpyard$Trains" "block" "[I") (by decide +kernel)) (fun _ h9 => h9) rfl dX3_standingOn_11 ?_
        refine lv_iload_n hx hb dX3_standingOn_14 rfl (lv_at hl 2 rfl) ?_
        refine na_iald hx hb hK hP 4 0 (f := (σ 4)) rfl rfl k (by omega) (by decide) rfl dX3_standingOn_15 ?_
        refine lv_iload_n hx hb dX3_standingOn_16 rfl (lv_at hl 1 rfl) ?_
        refine lv_icmp_ne (tgt := 22) hx hb dX3_standingOn_17 (by decide) (fun c_17 => ?_) (fun c_17 => ?_)
        · skip
          refine lv_iinc (v := nI (k + 1)) (lv' := [(2, .int (nI (k + 1))), (0, .ref (a 3)), (1, .int w)]) hx hb dX3_standingOn_22 hl (k := 2) rfl (by exact nI_1 k) (by decide) rfl (fun ls hl => ?_)
          refine lv_goto (tgt := 2) hx hb dX3_standingOn_25 (by decide) ?_
          exact ih (k + 1) _ _ ls (by omega) (by omega) (by exact lt_s hno c_17) hP hD hS (lv_sub hl [1, 2, 0] rfl)
        · skip
          refine lv_iload_n hx hb dX3_standingOn_20 rfl (lv_at hl 2 rfl) ?_
          exact MI.ret hx hb hr hlocks hK hP hD hS dX3_standingOn_21 (by exact ⟨rfl, (so_hit c_17 hno (by omega) (by omega)).symm⟩)
  exact loop_2 (n + 1) 0 _ _ ls (by omega) (by omega) (by intro i hi; omega) hP hD hS (lv_sub hl [1, 2, 0] rfl)
set_option maxRecDepth 20000 in
theorem in_X3_add_X3 : ∀ w ∈ wsX30, w ∈ wsX3_add := by decide +kernel
set_option maxHeartbeats 4000000 in
set_option maxRecDepth 100000 in
/-- Trains.add -/
theorem c_X3_add (l : Launch) (D : va_G) (cI cZ : ClassId) (a : Nat → Nat) (sz : Nat) (σ : St) (b rt : Int32) (n : Nat) (hrt : rt = 0 ∨ rt = 1) (hn : σ 3 0 = nI n) (hn3 : n < 4) : MI l yX3_add wsX3_add ({ frames := 0, cells := 0, slots := 0, locals := 0 }) D (ty2 cI cZ) (wX cI cZ a) [.ref (a 3), .int b, .int rt] σ sz (fun r u => u = (va_up (va_up (va_up σ 3 (fun _ => nI (n + 1))) 4 (upd (σ 4) n b)) 5 (upd (σ 5) n rt)) ∧ r = nI n) := by
  refine MI.of (cc := cX3_add) (maxL := 4) (by decide) rfl (Nat.le_of_ble_eq_true rfl) ?_
  intro p e s m args below meth c A H locs ls hx hb hr hml hown hts hlocks hA hS hP hK hD hl
  have hl : lv_has ls 4 [(0, .ref (a 3)), (1, .int b), (2, .int rt)] := hl
  refine lv_aload_n hx hb dX3_add_0 rfl (lv_at hl 0 rfl) ?_
  refine va_get (D := D) (ci := 3) (v := .int (σ 3 0)) (C := RX3) (T := TX3) (N := 5) hx hb hts in_X3_add_X3 hown hK hP 3 rfl rfl 4 (by decide) (hts (.fieldLink RX3 25 "Warpyard$Trains" "count" "I") (by decide +kernel)) (fun _ h9 => h9) rfl dX3_add_1 ?_
  refine lv_topi (fun v_4 e_4 => ?_)
  obtain rfl : v_4 = nI n := by rw [e_4]; exact hn
  refine lv_istore_n (lv' := [(3, .int (nI n)), (0, .ref (a 3)), (1, .int b), (2, .int rt)]) hx hb dX3_add_4 rfl hl (by decide) rfl (fun ls hl => ?_)
  refine lv_aload_n hx hb dX3_add_5 rfl (lv_at hl 1 rfl) ?_
  refine va_get (D := D) (ci := 3) (v := .ref (a 4)) (C := RX3) (T := TX3) (N := 5) hx hb hts in_X3_add_X3 hown hK hP 3 rfl rfl 0 (by decide) (hts (.fieldLink RX3 9 "Warpyard$Trains" "block" "[I") (by decide +kernel)) (fun _ h9 => h9) rfl dX3_add_6 ?_
  refine lv_iload_n hx hb dX3_add_9 rfl (lv_at hl 0 rfl) ?_
  refine lv_iload_n hx hb dX3_add_10 rfl (lv_at hl 2 rfl) ?_
  refine na_iast hx hb hK hP hD hS 4 0 (f := (σ 4)) (x := b) rfl rfl n (by omega) (by decide) rfl dX3_add_11 (fun H locs hP hD hS => ?_)
  have hP : va_P D vwCl (wX cI cZ a (va_up σ 4 (upd (σ 4) n b))) H := hP
  have hD : va_D A (wX cI cZ a (va_up σ 4 (upd (σ 4) n b))) := hD
  refine lv_aload_n hx hb dX3_add_12 rfl (lv_at hl 1 rfl) ?_
  refine va_get (D := D) (ci := 3) (v := .ref (a 5)) (C := RX3) (T := TX3) (N := 5) hx hb hts in_X3_add_X3 hown hK hP 3 rfl rfl 1 (by decide) (hts (.fieldLink RX3 15 "Warpyard$Trains" "right" "[Z") (by decide +kernel)) (fun _ h9 => h9) rfl dX3_add_13 ?_
  refine lv_iload_n hx hb dX3_add_16 rfl (lv_at hl 0 rfl) ?_
  refine lv_iload_n hx hb dX3_add_17 rfl (lv_at hl 3 rfl) ?_
  refine na_zast hx hb hK hP hD hS 5 1 (f := (σ 5)) (x := rt) rfl rfl n (by omega) (by decide) rfl hrt dX3_add_18 (fun H locs hP hD hS => ?_)
  have hP : va_P D vwCl (wX cI cZ a (va_up (va_up σ 4 (upd (σ 4) n b)) 5 (upd (σ 5) n rt))) H := hP
  have hD : va_D A (wX cI cZ a (va_up (va_up σ 4 (upd (σ 4) n b)) 5 (upd (σ 5) n rt))) := hD
  refine lv_aload_n hx hb dX3_add_19 rfl (lv_at hl 1 rfl) ?_
  refine lv_dup hx hb dX3_add_20 rfl ?_
  refine va_get (D := D) (ci := 3) (v := .int (σ 3 0)) (C := RX3) (T := TX3) (N := 5) hx hb hts in_X3_add_X3 hown hK hP 3 rfl rfl 4 (by decide) (hts (.fieldLink RX3 25 "Warpyard$Trains" "count" "I") (by decide +kernel)) (fun _ h9 => h9) rfl dX3_add_21 ?_
  refine lv_topi (fun v_24 e_24 => ?_)
  obtain rfl : v_24 = nI n := by rw [e_24]; exact hn
  refine lv_iconst (v := 1) hx hb dX3_add_24 (by decide) ?_
  refine lv_iadd hx hb dX3_add_25 ?_
  refine lv_topi (fun v_26 e_26 => ?_)
  obtain rfl : v_26 = nI (n + 1) := by rw [e_26]; exact nI_1 n
  refine va_put (D := D) (ci := 3) (v := .int (nI (n + 1))) (ty := .int) (C := RX3) (T := TX3) (N := 5) hx hb hts in_X3_add_X3 tyX3 tyX3_ok nmX3 hown hK hP hD hS 3 rfl rfl 4 (by decide) (hts (.fieldLink RX3 25 "Warpyard$Trains" "count" "I") (by decide +kernel)) (fun _ h9 => h9) rfl (by decide +kernel) rfl rfl (Nat.le_of_ble_eq_true rfl) dX3_add_26 (fun H locs hP hD hS => ?_)
  have hP : va_P D vwCl (wX cI cZ a (va_up (va_up (va_up σ 3 (fun _ => nI (n + 1))) 4 (upd (σ 4) n b)) 5 (upd (σ 5) n rt))) H := hP
  have hD : va_D A (wX cI cZ a (va_up (va_up (va_up σ 3 (fun _ => nI (n + 1))) 4 (upd (σ 4) n b)) 5 (upd (σ 5) n rt))) := hD
  refine lv_iload_n hx hb dX3_add_29 rfl (lv_at hl 0 rfl) ?_
  exact MI.ret hx hb hr hlocks hK hP hD hS dX3_add_30 (by exact ⟨rfl, rfl⟩)
end
section
/-! the pure pictures of waggons and offers -/
theorem ix_a (r z : Nat) : nI r * 8 + nI z = nI (r * 8 + z) := by
  rw [show (8 : Int32) = nI 8 from rfl, pk_mul, nI_add]
theorem ix_l (r : Nat) {z j : Nat} (h : j < z) : nI r * 8 + nI z - 1 - nI j = nI (r * 8 + (z - 1 - j)) := by
  rw [ix_a, show (1 : Int32) = nI 1 from rfl, pk_sub (by omega), pk_sub (by omega)]
  congr 1
  omega
/-- a row's waggon, counted from its first on, from its last on, and its last -/
def fFi (I : Nat → Int32) (r z : Nat) (p : Int32) : Int32 := if nI z ≤ p then -1 else I (r * 8 + p.toNatClampNeg)
def fLa (I : Nat → Int32) (r z : Nat) (p : Int32) : Int32 := if nI z ≤ p then -1 else I (r * 8 + (z - 1 - p.toNatClampNeg))
def lst (I : Nat → Int32) (r : Nat) : Nat → Int32
  | 0 => -1
  | z + 1 => I (r * 8 + z)
theorem fFi_n {I : Nat → Int32} {r z j : Nat} (h : z ≤ j) (hz : z < 2 ^ 31) (hj : j < 2 ^ 31) : fFi I r z (nI j) = -1 := by
  rw [fFi, if_pos ((nI_leI hz hj).mpr h)]
theorem fFi_y {I : Nat → Int32} {r z j : Nat} (h : j < z) (hz : z < 2 ^ 31) : fFi I r z (nI j) = I (r * 8 + j) := by
  have hj : j < 2 ^ 31 := by omega
  rw [fFi, if_neg (fun e => by rw [nI_leI hz hj] at e; omega), nI_clamp hj]
theorem fLa_n {I : Nat → Int32} {r z j : Nat} (h : z ≤ j) (hz : z < 2 ^ 31) (hj : j < 2 ^ 31) : fLa I r z (nI j) = -1 := by
  rw [fLa, if_pos ((nI_leI hz hj).mpr h)]
theorem fLa_y {I : Nat → Int32} {r z j : Nat} (h : j < z) (hz : z < 2 ^ 31) : fLa I r z (nI j) = I (r * 8 + (z - 1 - j)) := by
  have hj : j < 2 ^ 31 := by omega
  rw [fLa, if_neg (fun e => by rw [nI_leI hz hj] at e; omega), nI_clamp hj]
theorem fLa_0 {I : Nat → Int32} {r z : Nat} (hz : z < 2 ^ 31) : fLa I r z 0 = lst I r z := by
  rw [show (0 : Int32) = nI 0 from rfl]
  cases z with
  | zero => exact fLa_n (Nat.le_refl 0) (by omega) (by omega)
  | succ z =>
    rw [fLa_y (by omega) hz]
    rfl
/-- the weight of a row's first places -/
def wsm (W I : Nat → Int32) (r : Nat) : Nat → Int32
  | 0 => 0
  | p + 1 => wsm W I r p + W (I (r * 8 + p)).toNatClampNeg
def bh (m : Int32) : Int32 := if m ≤ 0 then 0 else (m + 60 - 1) / 60
theorem bh_0 {m : Int32} (h : m ≤ 0) : bh m = 0 := if_pos h
theorem bh_1 {m : Int32} (h : ¬ m ≤ 0) : bh m = (m + 60 - 1) / 60 := if_neg h
/-- what an offer of the price p by the minute m pays at the minute now -/
def pay (p m now : Int32) : Int32 := if 0 < p - 10 * bh (now - m) then p - 10 * bh (now - m) else 0
end
section
set_option maxHeartbeats 4000000 in
set_option maxRecDepth 100000 in
theorem c_X4_rowOfSiding (l : Launch) (D : va_G) (cI cZ : ClassId) (a : Nat → Nat) (sz : Nat) (σ : St) (v : Int32) : MI l yX4_rowOfSiding wsX4_rowOfSiding ({ frames := 0, cells := 0, slots := 0, locals := 0 }) D (ty2 cI cZ) (wX cI cZ a) [.int v] σ sz (fun r u => u = σ ∧ r = v - 6) := by
  refine MI.of (cc := cX4_rowOfSiding) (maxL := 1) (by decide) rfl (Nat.le_of_ble_eq_true rfl) ?_
  intro p e s m args below meth c A H locs ls hx hb hr hml hown hts hlocks hA hS hP hK hD hl
  have hl : lv_has ls 1 [(0, .int v)] := hl
  refine lv_iload_n hx hb dX4_rowOfSiding_0 rfl (lv_at hl 0 rfl) ?_
  refine lv_bipush (v := 6) hx hb dX4_rowOfSiding_1 (by decide) ?_
  refine lv_isub hx hb dX4_rowOfSiding_3 ?_
  exact MI.ret hx hb hr hlocks hK hP hD hS dX4_rowOfSiding_4 (by exact ⟨rfl, rfl⟩)
set_option maxHeartbeats 4000000 in
set_option maxRecDepth 100000 in
theorem c_X4_rowOfTrain (l : Launch) (D : va_G) (cI cZ : ClassId) (a : Nat → Nat) (sz : Nat) (σ : St) (v : Int32) : MI l yX4_rowOfTrain wsX4_rowOfTrain ({ frames := 0, cells := 0, slots := 0, locals := 0 }) D (ty2 cI cZ) (wX cI cZ a) [.int v] σ sz (fun r u => u = σ ∧ r = 2 + v) := by
  refine MI.of (cc := cX4_rowOfTrain) (maxL := 1) (by decide) rfl (Nat.le_of_ble_eq_true rfl) ?_
  intro p e s m args below meth c A H locs ls hx hb hr hml hown hts hlocks hA hS hP hK hD hl
  have hl : lv_has ls 1 [(0, .int v)] := hl
  refine lv_iconst (v := 2) hx hb dX4_rowOfTrain_0 (by decide) ?_
  refine lv_iload_n hx hb dX4_rowOfTrain_1 rfl (lv_at hl 0 rfl) ?_
  refine lv_iadd hx hb dX4_rowOfTrain_2 ?_
  exact MI.ret hx hb hr hlocks hK hP hD hS dX4_rowOfTrain_3 (by exact ⟨rfl, rfl⟩)
set_option maxRecDepth 20000 in
theorem in_X4_fromFirst_X4 : ∀ w ∈ wsX40, w ∈ wsX4_fromFirst := by decide +kernel
set_option maxHeartbeats 4000000 in
set_option maxRecDepth 100000 in
/-- Waggons.fromFirst -/
theorem c_X4_fromFirst (l : Launch) (D : va_G) (cI cZ : ClassId) (a : Nat → Nat) (sz : Nat) (σ : St) (r z : Nat) (pl : Int32) (hr6 : r < 6) (hz : σ 21 r = nI z) (hz8 : z ≤ 8) (hp : ¬ pl < 0) : MI l yX4_fromFirst wsX4_fromFirst ({ frames := 0, cells := 0, slots := 0, locals := 0 }) D (ty2 cI cZ) (wX cI cZ a) [.ref (a 19), .int (nI r), .int pl] σ sz (fun q u => u = σ ∧ q = fFi (σ 22) r z pl) := by
  refine MI.of (cc := cX4_fromFirst) (maxL := 3) (by decide) rfl (Nat.le_of_ble_eq_true rfl) ?_
  intro p e s m args below meth c A H locs ls hx hb hr hml hown hts hlocks hA hS hP hK hD hl
  have hl : lv_has ls 3 [(0, .ref (a 19)), (1, .int (nI r)), (2, .int pl)] := hl
  obtain ⟨j, hj, rfl⟩ := nI_of hp
  refine lv_iload_n hx hb dX4_fromFirst_0 rfl (lv_at hl 2 rfl) ?_
  refine lv_aload_n hx hb dX4_fromFirst_1 rfl (lv_at hl 0 rfl) ?_
  refine va_get (D := D) (ci := 4) (v := .ref (a 21)) (C := RX4) (T := TX4) (N := 4) hx hb hts in_X4_fromFirst_X4 hown hK hP 19 rfl rfl 1 (by decide) (hts (.fieldLink RX4 15 "Warpyard$Waggons" "size" "[I") (by decide +kernel)) (fun _ h9 => h9) rfl dX4_fromFirst_2 ?_
  refine lv_iload_n hx hb dX4_fromFirst_5 rfl (lv_at hl 1 rfl) ?_
  refine na_iald hx hb hK hP 21 0 (f := (σ 21)) rfl rfl r (by omega) (by decide) rfl dX4_fromFirst_6 ?_
  refine lv_topi (fun v_7 e_7 => ?_)
  obtain rfl : v_7 = nI z := by rw [e_7]; exact hz
  refine lv_icmp_ge (tgt := 24) hx hb dX4_fromFirst_7 (by decide) (fun c_7 => ?_) (fun c_7 => ?_)
  · skip
    rw [nI_leI (by omega) (by omega)] at c_7
    refine lv_iconst (v := (-1)) hx hb dX4_fromFirst_24 (by decide) ?_
    exact MI.ret hx hb hr hlocks hK hP hD hS dX4_fromFirst_25 (by exact ⟨rfl, (fFi_n (by omega) (by omega) hj).symm⟩)
  · skip
    rw [nI_leI (by omega) (by omega)] at c_7
    refine lv_aload_n hx hb dX4_fromFirst_10 rfl (lv_at hl 0 rfl) ?_
    refine va_get (D := D) (ci := 4) (v := .ref (a 22)) (C := RX4) (T := TX4) (N := 4) hx hb hts in_X4_fromFirst_X4 hown hK hP 19 rfl rfl 2 (by decide) (hts (.fieldLink RX4 18 "Warpyard$Waggons" "inRow" "[I") (by decide +kernel)) (fun _ h9 => h9) rfl dX4_fromFirst_11 ?_
    refine lv_iload_n hx hb dX4_fromFirst_14 rfl (lv_at hl 1 rfl) ?_
    refine lv_bipush (v := 8) hx hb dX4_fromFirst_15 (by decide) ?_
    refine lv_imul hx hb dX4_fromFirst_17 ?_
    refine lv_iload_n hx hb dX4_fromFirst_18 rfl (lv_at hl 2 rfl) ?_
    refine lv_iadd hx hb dX4_fromFirst_19 ?_
    refine na_iald hx hb hK hP 22 0 (f := (σ 22)) rfl rfl (r * 8 + j) (by omega) (by decide) (ix_a r j) dX4_fromFirst_20 ?_
    refine lv_goto (tgt := 25) hx hb dX4_fromFirst_21 (by decide) ?_
    exact MI.ret hx hb hr hlocks hK hP hD hS dX4_fromFirst_25 (by exact ⟨rfl, (fFi_y (by omega) (by omega)).symm⟩)
set_option maxRecDepth 20000 in
theorem in_X4_fromLast_X4 : ∀ w ∈ wsX40, w ∈ wsX4_fromLast := by decide +kernel
set_option maxHeartbeats 4000000 in
set_option maxRecDepth 100000 in
/-- Waggons.fromLast -/
theorem c_X4_fromLast (l : Launch) (D : va_G) (cI cZ : ClassId) (a : Nat → Nat) (sz : Nat) (σ : St) (r z : Nat) (pl : Int32) (hr6 : r < 6) (hz : σ 21 r = nI z) (hz8 : z ≤ 8) (hp : ¬ pl < 0) : MI l yX4_fromLast wsX4_fromLast ({ frames := 0, cells := 0, slots := 0, locals := 0 }) D (ty2 cI cZ) (wX cI cZ a) [.ref (a 19), .int (nI r), .int pl] σ sz (fun q u => u = σ ∧ q = fLa (σ 22) r z pl) := by
  refine MI.of (cc := cX4_fromLast) (maxL := 3) (by decide) rfl (Nat.le_of_ble_eq_true rfl) ?_
  intro p e s m args below meth c A H locs ls hx hb hr hml hown hts hlocks hA hS hP hK hD hl
  have hl : lv_has ls 3 [(0, .ref (a 19)), (1, .int (nI r)), (2, .int pl)] := hl
  obtain ⟨j, hj, rfl⟩ := nI_of hp
  refine lv_iload_n hx hb dX4_fromLast_0 rfl (lv_at hl 2 rfl) ?_
  refine lv_aload_n hx hb dX4_fromLast_1 rfl (lv_at hl 0 rfl) ?_
  refine va_get (D := D) (ci := 4) (v := .ref (a 21)) (C := RX4) (T := TX4) (N := 4) hx hb hts in_X4_fromLast_X4 hown hK hP 19 rfl rfl 1 (by decide) (hts (.fieldLink RX4 15 "Warpyard$Waggons" "size" "[I") (by decide +kernel)) (fun _ h9 => h9) rfl dX4_fromLast_2 ?_
  refine lv_iload_n hx hb dX4_fromLast_5 rfl (lv_at hl 1 rfl) ?_
  refine na_iald hx hb hK hP 21 0 (f := (σ 21)) rfl rfl r (by omega) (by decide) rfl dX4_fromLast_6 ?_
  refine lv_topi (fun v_7 e_7 => ?_)
  obtain rfl : v_7 = nI z := by rw [e_7]; exact hz
  refine lv_icmp_ge (tgt := 33) hx hb dX4_fromLast_7 (by decide) (fun c_7 => ?_) (fun c_7 => ?_)
  · skip
    rw [nI_leI (by omega) (by omega)] at c_7
    refine lv_iconst (v := (-1)) hx hb dX4_fromLast_33 (by decide) ?_
    exact MI.ret hx hb hr hlocks hK hP hD hS dX4_fromLast_34 (by exact ⟨rfl, (fLa_n (by omega) (by omega) hj).symm⟩)
  · skip
    rw [nI_leI (by omega) (by omega)] at c_7
    refine lv_aload_n hx hb dX4_fromLast_10 rfl (lv_at hl 0 rfl) ?_
    refine va_get (D := D) (ci := 4) (v := .ref (a 22)) (C := RX4) (T := TX4) (N := 4) hx hb hts in_X4_fromLast_X4 hown hK hP 19 rfl rfl 2 (by decide) (hts (.fieldLink RX4 18 "Warpyard$Waggons" "inRow" "[I") (by decide +kernel)) (fun _ h9 => h9) rfl dX4_fromLast_11 ?_
    refine lv_iload_n hx hb dX4_fromLast_14 rfl (lv_at hl 1 rfl) ?_
    refine lv_bipush (v := 8) hx hb dX4_fromLast_15 (by decide) ?_
    refine lv_imul hx hb dX4_fromLast_17 ?_
    refine lv_aload_n hx hb dX4_fromLast_18 rfl (lv_at hl 0 rfl) ?_
    refine va_get (D := D) (ci := 4) (v := .ref (a 21)) (C := RX4) (T := TX4) (N := 4) hx hb hts in_X4_fromLast_X4 hown hK hP 19 rfl rfl 1 (by decide) (hts (.fieldLink RX4 15 "Warpyard$Waggons" "size" "[I") (by decide +kernel)) (fun _ h9 => h9) rfl dX4_fromLast_19 ?_
    refine lv_iload_n hx hb dX4_fromLast_22 rfl (lv_at hl 1 rfl) ?_
    refine na_iald hx hb hK hP 21 0 (f := (σ 21)) rfl rfl r (by omega) (by decide) rfl dX4_fromLast_23 ?_
    refine lv_topi (fun v_24 e_24 => ?_)
    obtain rfl : v_24 = nI z := by rw [e_24]; exact hz
    refine lv_iadd hx hb dX4_fromLast_24 ?_
    refine lv_iconst (v := 1) hx hb dX4_fromLast_25 (by decide) ?_
    refine lv_isub hx hb dX4_fromLast_26 ?_
    refine lv_iload_n hx hb dX4_fromLast_27 rfl (lv_at hl 2 rfl) ?_
    refine lv_isub hx hb dX4_fromLast_28 ?_
    refine na_iald hx hb hK hP 22 0 (f := (σ 22)) rfl rfl (r * 8 + (z - 1 - j)) (by omega) (by decide) (ix_l r (by omega)) dX4_fromLast_29 ?_
    refine lv_goto (tgt := 34) hx hb dX4_fromLast_30 (by decide) ?_
    exact MI.ret hx hb hr hlocks hK hP hD hS dX4_fromLast_34 (by exact ⟨rfl, (fLa_y (by omega) (by omega)).symm⟩)
end
section
/-! what a call refuses, as a number: 0 nothing, else the place of its exception -/
theorem lt_suc {v hi hi' : Int32} (h : hi'.toInt = hi.toInt + 1) : v < hi' ↔ ¬ hi < v := by
  rw [Int32.lt_iff_toInt_lt, Int32.lt_iff_toInt_lt]
  omega
theorem le_nlt {v hi : Int32} : v ≤ hi ↔ ¬ hi < v := by
  rw [Int32.le_iff_toInt_le, Int32.lt_iff_toInt_lt]
  omega
/-- a number below n -/
def tr (n : Nat) (t : Int32) : Prop := ∃ k, k < n ∧ t = nI k
theorem tr_y {n : Nat} {t : Int32} (hn : n < 2 ^ 31) (h0 : ¬ t < 0) (h : t < nI n) : tr n t := by
  obtain ⟨k, hk, rfl⟩ := nI_of h0
  exact ⟨k, (nI_ltI hk hn).mp h, rfl⟩
theorem tr_1 {n : Nat} {t : Int32} (hn : n < 2 ^ 31) (h : tr n t) : ¬ t < 0 := by
  obtain ⟨k, hk, rfl⟩ := h
  exact nI_pos (by omega)
theorem tr_2 {n : Nat} {t : Int32} (hn : n < 2 ^ 31) (h : tr n t) : t < nI n := by
  obtain ⟨k, hk, rfl⟩ := h
  exact nI_lt hk hn
theorem tr_R {n : Nat} {t : Int32} (hn : n < 2 ^ 31) : tr n t ↔ inR t 0 (nI n - 1) := by
  have e : (nI n - 1).toInt = (n : Int) - 1 := by
    cases n with
    | zero => rfl
    | succ n => rw [nI_pred, nI_toInt (by omega)]; omega
  constructor
  · intro h
    refine ⟨tr_1 hn h, ?_⟩
    have h2 := tr_2 hn h
    rw [Int32.lt_iff_toInt_lt, nI_toInt hn] at h2
    rw [Int32.lt_iff_toInt_lt, e]
    omega
  · intro h
    refine tr_y hn h.1 ?_
    have h2 := h.2
    rw [Int32.lt_iff_toInt_lt, e] at h2
    rw [Int32.lt_iff_toInt_lt, nI_toInt hn]
    omega
theorem blk_R {b : Int32} : inR b 0 7 ↔ blk b := by
  constructor
  · intro h
    obtain ⟨k, hk, rfl⟩ := nI_of h.1
    have h2 := h.2
    rw [show (7 : Int32) = nI 7 from rfl, nI_ltI (by omega) hk] at h2
    rcases (show k = 0 ∨ k = 1 ∨ k = 2 ∨ k = 3 ∨ k = 4 ∨ k = 5 ∨ k = 6 ∨ k = 7 by omega) with rfl | rfl | rfl | rfl | rfl | rfl | rfl | rfl <;> (unfold blk; decide)
  · rintro (rfl | rfl | rfl | rfl | rfl | rfl | rfl | rfl) <;> exact ⟨by decide, by decide⟩
noncomputable def cdTr (n : Nat) (t : Int32) : Int32 := cif (tr n t) 0 1
noncomputable def cdAdd (σ : St) (n : Nat) (b : Int32) : Int32 := cif (inR b 0 7) (cif (¬ n = 4 ∧ so (σ 4) b n = -1) 0 2) 1
noncomputable def cdDelay (σ : St) (n : Nat) (t m : Int32) : Int32 := cif (tr n t) (cif (inR m 1 100) (cif (¬ 1000 < σ 7 t.toNatClampNeg + m) 0 2) 2) 1
noncomputable def cdSw (v : Int32) : Int32 := cif (inR v 0 1) 0 1
noncomputable def cdBl (b : Int32) : Int32 := cif (inR b 0 7) 0 1
noncomputable def cdRun (σ : St) (m : Int32) : Int32 := cif (inR m 1 100) (cif (¬ 5000 < σ 0 0 + m) 0 2) 1
noncomputable def cdRea (n : Nat) (t b : Int32) : Int32 := cif (tr n t ∧ inR b 0 7) 0 1
noncomputable def cdBook (σ : St) (n nb : Nat) (t b fr to : Int32) : Int32 := cif (tr n t ∧ inR b 0 7) (cif (inR fr (σ 0 0) 5000 ∧ inR to fr 5000) (cif (nb = 30) 3 0) 2) 1
noncomputable def cdCan (n : Nat) (t b fr to : Int32) : Int32 := cif (tr n t ∧ inR b 0 7) (cif (inR fr 0 5000 ∧ inR to fr 5000) 0 2) 1
/-- the row of a siding -/
def sR (v : Int32) : Nat := (v - 6).toNatClampNeg
noncomputable def cdAW (nw : Nat) (Z : Nat → Nat) (s w : Int32) : Int32 := cif (inR s 6 7) (cif (inR w 1 100) (cif (nw = 8 ∨ 4 ≤ Z (sR s)) 3 0) 2) 1
noncomputable def cdOf (nw : Nat) (w s mi pr : Int32) : Int32 := cif (tr nw w ∧ inR s 6 7) (cif (inR mi 0 5000 ∧ inR pr 1 1000) 0 2) 1
/-- the weight of the first p of a row's waggons -/
def wsJ (W : Nat → Int32) (J : Nat → Nat) : Nat → Int32
  | 0 => 0
  | p + 1 => wsJ W J p + W (J p)
noncomputable def cdCo (σ : St) (n : Nat) (Z : Nat → Nat) (J : Nat → Nat → Nat) (t : Int32) : Int32 :=
  cif (tr n t) (cif (inR (σ 4 t.toNatClampNeg) 6 7 ∧ ¬ Z (sR (σ 4 t.toNatClampNeg)) = 0 ∧ ¬ 100 < wsJ (σ 20) (J (2 + t.toNatClampNeg)) (Z (2 + t.toNatClampNeg)) + σ 20 (J (sR (σ 4 t.toNatClampNeg)) (Z (sR (σ 4 t.toNatClampNeg)) - 1))) 0 2) 1
noncomputable def cdLe (σ : St) (n : Nat) (Z : Nat → Nat) (t : Int32) : Int32 :=
  cif (tr n t) (cif (inR (σ 4 t.toNatClampNeg) 6 7 ∧ ¬ Z (2 + t.toNatClampNeg) = 0 ∧ ¬ 4 ≤ Z (sR (σ 4 t.toNatClampNeg))) 0 2) 1
noncomputable def cdAt (n : Nat) (w p : Int32) : Int32 := cif ((inR w 6 7 ∨ tr n (w - 10)) ∧ ¬ p < 0) 0 1
/-- the exceptions by their places -/
def xA (c : Int32) (E : String) : Prop := (E = eIO ∧ c = 1) ∨ (E = eIS ∧ c = 2)
def xB (c : Int32) (E : String) : Prop := (E = eIO ∧ c = 1) ∨ (E = eIA ∧ c = 2)
def xC (c : Int32) (E : String) : Prop := (E = eIA ∧ c = 1) ∨ (E = eIS ∧ c = 2)
def xD (c : Int32) (E : String) : Prop := (E = eIO ∧ c = 1) ∨ (E = eIA ∧ c = 2) ∨ (E = eIS ∧ c = 3)
def x1 (c : Int32) (E : String) : Prop := E = eIO ∧ c = 1
end
section
theorem ge_suc {v hi hi' : Int32} (e : hi'.toInt = hi.toInt + 1) (h : hi' ≤ v) : hi < v := by
  rw [Int32.le_iff_toInt_le] at h
  rw [Int32.lt_iff_toInt_lt]
  omega
theorem nge_suc {v hi hi' : Int32} (e : hi'.toInt = hi.toInt + 1) (h : ¬ hi' ≤ v) : ¬ hi < v := by
  rw [Int32.le_iff_toInt_le] at h
  rw [Int32.lt_iff_toInt_lt]
  omega
theorem sd_2 {v : Int32} (h : inR v 6 7) : v = 6 ∨ v = 7 := by
  obtain ⟨h1, h2⟩ := h
  rw [Int32.lt_iff_toInt_lt] at h1 h2
  have e6 : (6 : Int32).toInt = 6 := rfl
  have e7 : (7 : Int32).toInt = 7 := rfl
  rcases (show v.toInt = 6 ∨ v.toInt = 7 by omega) with e | e
  · exact Or.inl (Int32.toInt_inj.mp (by rw [e]; rfl))
  · exact Or.inr (Int32.toInt_inj.mp (by rw [e]; rfl))
theorem sR_2 {v : Int32} (h : inR v 6 7) : sR v < 2 := by
  rcases sd_2 h with rfl | rfl <;> decide
theorem sR_6 {v : Int32} (h : inR v 6 7) : sR v < 6 := Nat.lt_trans (sR_2 h) (by decide)
theorem sR_e {v : Int32} (h : inR v 6 7) : v - 6 = nI (sR v) := by
  rcases sd_2 h with rfl | rfl <;> decide
theorem nI_lt4 {z : Nat} (hz : z ≤ 8) (h : ¬ 4 ≤ z) : nI z < 4 := by
  rw [show (4 : Int32) = nI 4 from rfl, nI_ltI (by omega) (by omega)]
  omega
theorem nI_lt4' {z : Nat} (hz : z ≤ 8) (h : nI z < 4) : ¬ 4 ≤ z := by
  rw [show (4 : Int32) = nI 4 from rfl, nI_ltI (by omega) (by omega)] at h
  omega
end
section
set_option maxRecDepth 20000 in
theorem in_X5_needTrain_X3 : ∀ w ∈ wsX30, w ∈ wsX5_needTrain := by decide +kernel
set_option maxRecDepth 20000 in
theorem in_X5_needTrain_X5 : ∀ w ∈ wsX50, w ∈ wsX5_needTrain := by decide +kernel
set_option maxHeartbeats 4000000 in
set_option maxRecDepth 100000 in
/-- needTrain, where nothing is refused -/
theorem c_X5_needTrain_ok (l : Launch) (D : va_G) (cI cZ : ClassId) (a : Nat → Nat) (sz : Nat) (σ : St) (t : Int32) (n : Nat) (hn : σ 3 0 = nI n) (hn4 : n ≤ 4) (g : tr n t) : MV l yX5_needTrain wsX5_needTrain ({ frames := 0, cells := 0, slots := 0, locals := 0 }) D (ty2 cI cZ) (wX cI cZ a) [.ref (a 0), .int t] σ sz (fun u => u = σ) := by
  refine MV.of (cc := cX5_needTrain) (maxL := 2) (by decide) rfl (Nat.le_of_ble_eq_true rfl) ?_
  intro p e s m args below meth c A H locs ls hx hb hr hml hown hts hlocks hA hS hP hK hD hl
  have hl : lv_has ls 2 [(0, .ref (a 0)), (1, .int t)] := hl
  refine lv_iload_n hx hb dX5_needTrain_0 rfl (lv_at hl 1 rfl) ?_
  refine lv_if_lt (tgt := 15) hx hb dX5_needTrain_1 (by decide) (fun c_1 => ?_) (fun c_1 => ?_)
  · skip
    exact absurd c_1 (tr_1 (by omega) g)
  · skip
    refine lv_iload_n hx hb dX5_needTrain_4 rfl (lv_at hl 1 rfl) ?_
    refine lv_aload_n hx hb dX5_needTrain_5 rfl (lv_at hl 0 rfl) ?_
    refine va_get (D := D) (ci := 5) (v := .ref (a 3)) (C := RX5) (T := TX5) (N := 8) hx hb hts in_X5_needTrain_X5 hown hK hP 0 rfl rfl 1 (by decide) (hts (.fieldLink RX5 19 "Warpyard" "trains" "LWarpyard$Trains;") (by decide +kernel)) (fun _ h9 => h9) rfl dX5_needTrain_6 ?_
    refine va_get (D := D) (ci := 3) (v := .int (σ 3 0)) (C := RX3) (T := TX3) (N := 5) hx hb hts in_X5_needTrain_X3 hown hK hP 3 rfl rfl 4 (by decide) (hts (.fieldLink RX5 51 "Warpyard$Trains" "count" "I") (by decide +kernel)) (fun _ h9 => h9) rfl dX5_needTrain_9 ?_
    refine lv_topi (fun v_12 e_12 => ?_)
    obtain rfl : v_12 = nI n := by rw [e_12]; exact hn
    refine lv_icmp_lt (tgt := 25) hx hb dX5_needTrain_12 (by decide) (fun c_12 => ?_) (fun c_12 => ?_)
    · skip
      exact MV.ret hx hb hr hlocks hK hP hD hS dX5_needTrain_25 (by rfl)
    · skip
      exact absurd (tr_2 (by omega) g) c_12
set_option maxRecDepth 20000 in
theorem k_X5_needTrain_95 : Cond.classLink RX5 95 "java/lang/IndexOutOfBoundsException" ∈ wsX5_needTrain := by decide +kernel
set_option maxRecDepth 20000 in
theorem j_X5_needTrain_95 : Cond.initialized "java/lang/IndexOutOfBoundsException" ∈ wsX5_needTrain := by decide +kernel
set_option maxRecDepth 20000 in
theorem v_X5_needTrain_95 : ∀ w ∈ (vx_atS RX5 99 "java/lang/IndexOutOfBoundsException" xnames).filter goodWord, w ∈ wsX5_needTrain := by decide +kernel
theorem w_X5_needTrain_95 {s : State} {args : Array Value} (hts : ∀ w ∈ wsX5_needTrain, w.before args s = true) (hEV : EV s) : ∀ w ∈ vx_atS RX5 99 "java/lang/IndexOutOfBoundsException" xnames, w.before args s = true := vx_hat (fun w h => hts w (v_X5_needTrain_95 w h)) (B := EVw) (by decide +kernel) (fun w h => va_Nw.use (EV.tab (s := s) w h) (hEV.1 w h))
theorem o_X5_needTrain_95 : ∀ w ∈ Cond.classLink RX5 95 "java/lang/IndexOutOfBoundsException" :: Cond.initialized "java/lang/IndexOutOfBoundsException" :: vx_atS RX5 99 "java/lang/IndexOutOfBoundsException" xnames, vx_ot w = true := by decide +kernel
set_option maxHeartbeats 4000000 in
set_option maxRecDepth 100000 in
/-- needTrain, where it refuses -/
theorem c_X5_needTrain_bad (l : Launch) (D : va_G) (cI cZ : ClassId) (a : Nat → Nat) (sz : Nat) (σ : St) (hfl : l.stackTraces = false) (t : Int32) (n : Nat) (hn : σ 3 0 = nI n) (hn4 : n ≤ 4) (g : ¬ (tr n t)) : XV l yX5_needTrain wsX5_needTrain ({ frames := 7, cells := 1, slots := 6, locals := 110 }) D (ty2 cI cZ) (wX cI cZ a) [.ref (a 0), .int t] σ sz (fun _ => False) (fun E => E = eIO) := by
  refine XV.of (cc := cX5_needTrain) (maxL := 2) (by decide) rfl (Nat.le_of_ble_eq_true rfl) ?_
  intro p e s m args below meth c A H locs ls hx hb hr hml hown hts hlocks hexc hEV hZ hA hS hP hK hD hl
  have hl : lv_has ls 2 [(0, .ref (a 0)), (1, .int t)] := hl
  refine lv_iload_n hx hb dX5_needTrain_0 rfl (lv_at hl 1 rfl) ?_
  refine lv_if_lt (tgt := 15) hx hb dX5_needTrain_1 (by decide) (fun c_1 => ?_) (fun c_1 => ?_)
  · skip
    exact X.throwS (cls := "java/lang/IndexOutOfBoundsException") (text := "no such train") (names := xnames) (ik := 95) (is := 225) (ic := 99) hx hb hfl hown (by decide +kernel) (by decide +kernel) (hts _ k_X5_needTrain_95) (hts _ j_X5_needTrain_95) (by decide +kernel) (w_X5_needTrain_95 hts hEV) o_X5_needTrain_95 hEV hZ hK hP hD hS (hl.1.trans hml.symm) dX5_needTrain_15 dX5_needTrain_18 dX5_needTrain_19 dX5_needTrain_21 dX5_needTrain_24 hexc (Nat.le_of_ble_eq_true rfl) (Nat.le_of_ble_eq_true rfl) (Nat.le_of_ble_eq_true rfl) (Nat.le_of_ble_eq_true rfl) hlocks (rfl)
  · skip
    refine lv_iload_n hx hb dX5_needTrain_4 rfl (lv_at hl 1 rfl) ?_
    refine lv_aload_n hx hb dX5_needTrain_5 rfl (lv_at hl 0 rfl) ?_
    refine va_get (D := D) (ci := 5) (v := .ref (a 3)) (C := RX5) (T := TX5) (N := 8) hx hb hts in_X5_needTrain_X5 hown hK hP 0 rfl rfl 1 (by decide) (hts (.fieldLink RX5 19 "Warpyard" "trains" "LWarpyard$Trains;") (by decide +kernel)) (fun _ h9 => h9) rfl dX5_needTrain_6 ?_
    refine va_get (D := D) (ci := 3) (v := .int (σ 3 0)) (C := RX3) (T := TX3) (N := 5) hx hb hts in_X5_needTrain_X3 hown hK hP 3 rfl rfl 4 (by decide) (hts (.fieldLink RX5 51 "Warpyard$Trains" "count" "I") (by decide +kernel)) (fun _ h9 => h9) rfl dX5_needTrain_9 ?_
    refine lv_topi (fun v_12 e_12 => ?_)
    obtain rfl : v_12 = nI n := by rw [e_12]; exact hn
    refine lv_icmp_lt (tgt := 25) hx hb dX5_needTrain_12 (by decide) (fun c_12 => ?_) (fun c_12 => ?_)
    · skip
      exact absurd (tr_y (by omega) c_1 c_12) g
    · skip
      exact X.throwS (cls := "java/lang/IndexOutOfBoundsException") (text := "no such train") (names := xnames) (ik := 95) (is := 225) (ic := 99) hx hb hfl hown (by decide +kernel) (by decide +kernel) (hts _ k_X5_needTrain_95) (hts _ j_X5_needTrain_95) (by decide +kernel) (w_X5_needTrain_95 hts hEV) o_X5_needTrain_95 hEV hZ hK hP hD hS (hl.1.trans hml.symm) dX5_needTrain_15 dX5_needTrain_18 dX5_needTrain_19 dX5_needTrain_21 dX5_needTrain_24 hexc (Nat.le_of_ble_eq_true rfl) (Nat.le_of_ble_eq_true rfl) (Nat.le_of_ble_eq_true rfl) (Nat.le_of_ble_eq_true rfl) hlocks (rfl)
set_option maxRecDepth 20000 in
theorem in_X5_needBooking_X0 : ∀ w ∈ wsX00, w ∈ wsX5_needBooking := by decide +kernel
set_option maxRecDepth 20000 in
theorem in_X5_needBooking_X5 : ∀ w ∈ wsX50, w ∈ wsX5_needBooking := by decide +kernel
set_option maxHeartbeats 4000000 in
set_option maxRecDepth 100000 in
/-- needBooking, where nothing is refused -/
theorem c_X5_needBooking_ok (l : Launch) (D : va_G) (cI cZ : ClassId) (a : Nat → Nat) (sz : Nat) (σ : St) (t : Int32) (nb : Nat) (hnb : σ 13 0 = nI nb) (hnb30 : nb ≤ 30) (g : tr nb t) : MV l yX5_needBooking wsX5_needBooking ({ frames := 0, cells := 0, slots := 0, locals := 0 }) D (ty2 cI cZ) (wX cI cZ a) [.ref (a 0), .int t] σ sz (fun u => u = σ) := by
  refine MV.of (cc := cX5_needBooking) (maxL := 2) (by decide) rfl (Nat.le_of_ble_eq_true rfl) ?_
  intro p e s m args below meth c A H locs ls hx hb hr hml hown hts hlocks hA hS hP hK hD hl
  have hl : lv_has ls 2 [(0, .ref (a 0)), (1, .int t)] := hl
  refine lv_iload_n hx hb dX5_needBooking_0 rfl (lv_at hl 1 rfl) ?_
  refine lv_if_lt (tgt := 15) hx hb dX5_needBooking_1 (by decide) (fun c_1 => ?_) (fun c_1 => ?_)
  · skip
    exact absurd c_1 (tr_1 (by omega) g)
  · skip
    refine lv_iload_n hx hb dX5_needBooking_4 rfl (lv_at hl 1 rfl) ?_
    refine lv_aload_n hx hb dX5_needBooking_5 rfl (lv_at hl 0 rfl) ?_
    refine va_get (D := D) (ci := 5) (v := .ref (a 13)) (C := RX5) (T := TX5) (N := 8) hx hb hts in_X5_needBooking_X5 hown hK hP 0 rfl rfl 3 (by decide) (hts (.fieldLink RX5 29 "Warpyard" "bookings" "LWarpyard$Bookings;") (by decide +kernel)) (fun _ h9 => h9) rfl dX5_needBooking_6 ?_
    refine va_get (D := D) (ci := 0) (v := .int (σ 13 0)) (C := RX0) (T := TX0) (N := 6) hx hb hts in_X5_needBooking_X0 hown hK hP 13 rfl rfl 5 (by decide) (hts (.fieldLink RX5 130 "Warpyard$Bookings" "count" "I") (by decide +kernel)) (fun _ h9 => h9) rfl dX5_needBooking_9 ?_
    refine lv_topi (fun v_12 e_12 => ?_)
    obtain rfl : v_12 = nI nb := by rw [e_12]; exact hnb
    refine lv_icmp_lt (tgt := 25) hx hb dX5_needBooking_12 (by decide) (fun c_12 => ?_) (fun c_12 => ?_)
    · skip
      exact MV.ret hx hb hr hlocks hK hP hD hS dX5_needBooking_25 (by rfl)
    · skip
      exact absurd (tr_2 (by omega) g) c_12
set_option maxRecDepth 20000 in
theorem k_X5_needBooking_95 : Cond.classLink RX5 95 "java/lang/IndexOutOfBoundsException" ∈ wsX5_needBooking := by decide +kernel
set_option maxRecDepth 20000 in
theorem j_X5_needBooking_95 : Cond.initialized "java/lang/IndexOutOfBoundsException" ∈ wsX5_needBooking := by decide +kernel
set_option maxRecDepth 20000 in
theorem v_X5_needBooking_95 : ∀ w ∈ (vx_atS RX5 99 "java/lang/IndexOutOfBoundsException" xnames).filter goodWord, w ∈ wsX5_needBooking := by decide +kernel
theorem w_X5_needBooking_95 {s : State} {args : Array Value} (hts : ∀ w ∈ wsX5_needBooking, w.before args s = true) (hEV : EV s) : ∀ w ∈ vx_atS RX5 99 "java/lang/IndexOutOfBoundsException" xnames, w.before args s = true := vx_hat (fun w h => hts w (v_X5_needBooking_95 w h)) (B := EVw) (by decide +kernel) (fun w h => va_Nw.use (EV.tab (s := s) w h) (hEV.1 w h))
theorem o_X5_needBooking_95 : ∀ w ∈ Cond.classLink RX5 95 "java/lang/IndexOutOfBoundsException" :: Cond.initialized "java/lang/IndexOutOfBoundsException" :: vx_atS RX5 99 "java/lang/IndexOutOfBoundsException" xnames, vx_ot w = true := by decide +kernel
set_option maxHeartbeats 4000000 in
set_option maxRecDepth 100000 in
/-- needBooking, where it refuses -/
theorem c_X5_needBooking_bad (l : Launch) (D : va_G) (cI cZ : ClassId) (a : Nat → Nat) (sz : Nat) (σ : St) (hfl : l.stackTraces = false) (t : Int32) (nb : Nat) (hnb : σ 13 0 = nI nb) (hnb30 : nb ≤ 30) (g : ¬ (tr nb t)) : XV l yX5_needBooking wsX5_needBooking ({ frames := 7, cells := 1, slots := 6, locals := 110 }) D (ty2 cI cZ) (wX cI cZ a) [.ref (a 0), .int t] σ sz (fun _ => False) (fun E => E = eIO) := by
  refine XV.of (cc := cX5_needBooking) (maxL := 2) (by decide) rfl (Nat.le_of_ble_eq_true rfl) ?_
  intro p e s m args below meth c A H locs ls hx hb hr hml hown hts hlocks hexc hEV hZ hA hS hP hK hD hl
  have hl : lv_has ls 2 [(0, .ref (a 0)), (1, .int t)] := hl
  refine lv_iload_n hx hb dX5_needBooking_0 rfl (lv_at hl 1 rfl) ?_
  refine lv_if_lt (tgt := 15) hx hb dX5_needBooking_1 (by decide) (fun c_1 => ?_) (fun c_1 => ?_)
  · skip
    exact X.throwS (cls := "java/lang/IndexOutOfBoundsException") (text := "no such booking") (names := xnames) (ik := 95) (is := 227) (ic := 99) hx hb hfl hown (by decide +kernel) (by decide +kernel) (hts _ k_X5_needBooking_95) (hts _ j_X5_needBooking_95) (by decide +kernel) (w_X5_needBooking_95 hts hEV) o_X5_needBooking_95 hEV hZ hK hP hD hS (hl.1.trans hml.symm) dX5_needBooking_15 dX5_needBooking_18 dX5_needBooking_19 dX5_needBooking_21 dX5_needBooking_24 hexc (Nat.le_of_ble_eq_true rfl) (Nat.le_of_ble_eq_true rfl) (Nat.le_of_ble_eq_true rfl) (Nat.le_of_ble_eq_true rfl) hlocks (rfl)
  · skip
    refine lv_iload_n hx hb dX5_needBooking_4 rfl (lv_at hl 1 rfl) ?_
    refine lv_aload_n hx hb dX5_needBooking_5 rfl (lv_at hl 0 rfl) ?_
    refine va_get (D := D) (ci := 5) (v := .ref (a 13)) (C := RX5) (T := TX5) (N := 8) hx hb hts in_X5_needBooking_X5 hown hK hP 0 rfl rfl 3 (by decide) (hts (.fieldLink RX5 29 "Warpyard" "bookings" "LWarpyard$Bookings;") (by decide +kernel)) (fun _ h9 => h9) rfl dX5_needBooking_6 ?_
    refine va_get (D := D) (ci := 0) (v := .int (σ 13 0)) (C := RX0) (T := TX0) (N := 6) hx hb hts in_X5_needBooking_X0 hown hK hP 13 rfl rfl 5 (by decide) (hts (.fieldLink RX5 130 "Warpyard$Bookings" "count" "I") (by decide +kernel)) (fun _ h9 => h9) rfl dX5_needBooking_9 ?_
    refine lv_topi (fun v_12 e_12 => ?_)
    obtain rfl : v_12 = nI nb := by rw [e_12]; exact hnb
    refine lv_icmp_lt (tgt := 25) hx hb dX5_needBooking_12 (by decide) (fun c_12 => ?_) (fun c_12 => ?_)
    · skip
      exact absurd (tr_y (by omega) c_1 c_12) g
    · skip
      exact X.throwS (cls := "java/lang/IndexOutOfBoundsException") (text := "no such booking") (names := xnames) (ik := 95) (is := 227) (ic := 99) hx hb hfl hown (by decide +kernel) (by decide +kernel) (hts _ k_X5_needBooking_95) (hts _ j_X5_needBooking_95) (by decide +kernel) (w_X5_needBooking_95 hts hEV) o_X5_needBooking_95 hEV hZ hK hP hD hS (hl.1.trans hml.symm) dX5_needBooking_15 dX5_needBooking_18 dX5_needBooking_19 dX5_needBooking_21 dX5_needBooking_24 hexc (Nat.le_of_ble_eq_true rfl) (Nat.le_of_ble_eq_true rfl) (Nat.le_of_ble_eq_true rfl) (Nat.le_of_ble_eq_true rfl) hlocks (rfl)
set_option maxHeartbeats 4000000 in
set_option maxRecDepth 100000 in
/-- needBlock, where nothing is refused -/
theorem c_X5_needBlock_ok (l : Launch) (D : va_G) (cI cZ : ClassId) (a : Nat → Nat) (sz : Nat) (σ : St) (b : Int32) (g : inR b 0 7) : MV l yX5_needBlock wsX5_needBlock ({ frames := 0, cells := 0, slots := 0, locals := 0 }) D (ty2 cI cZ) (wX cI cZ a) [.int b] σ sz (fun u => u = σ) := by
  refine MV.of (cc := cX5_needBlock) (maxL := 1) (by decide) rfl (Nat.le_of_ble_eq_true rfl) ?_
  intro p e s m args below meth c A H locs ls hx hb hr hml hown hts hlocks hA hS hP hK hD hl
  have hl : lv_has ls 1 [(0, .int b)] := hl
  refine lv_iload_n hx hb dX5_needBlock_0 rfl (lv_at hl 0 rfl) ?_
  refine lv_if_lt (tgt := 10) hx hb dX5_needBlock_1 (by decide) (fun c_1 => ?_) (fun c_1 => ?_)
  · skip
    exact absurd c_1 g.1
  · skip
    refine lv_iload_n hx hb dX5_needBlock_4 rfl (lv_at hl 0 rfl) ?_
    refine lv_bipush (v := 8) hx hb dX5_needBlock_5 (by decide) ?_
    refine lv_icmp_lt (tgt := 20) hx hb dX5_needBlock_7 (by decide) (fun c_7 => ?_) (fun c_7 => ?_)
    · skip
      exact MV.ret hx hb hr hlocks hK hP hD hS dX5_needBlock_20 (by rfl)
    · skip
      exact absurd ((lt_suc (by decide)).mpr g.2) c_7
set_option maxRecDepth 20000 in
theorem k_X5_needBlock_95 : Cond.classLink RX5 95 "java/lang/IndexOutOfBoundsException" ∈ wsX5_needBlock := by decide +kernel
set_option maxRecDepth 20000 in
theorem j_X5_needBlock_95 : Cond.initialized "java/lang/IndexOutOfBoundsException" ∈ wsX5_needBlock := by decide +kernel
set_option maxRecDepth 20000 in
theorem v_X5_needBlock_95 : ∀ w ∈ (vx_atS RX5 99 "java/lang/IndexOutOfBoundsException" xnames).filter goodWord, w ∈ wsX5_needBlock := by decide +kernel
theorem w_X5_needBlock_95 {s : State} {args : Array Value} (hts : ∀ w ∈ wsX5_needBlock, w.before args s = true) (hEV : EV s) : ∀ w ∈ vx_atS RX5 99 "java/lang/IndexOutOfBoundsException" xnames, w.before args s = true := vx_hat (fun w h => hts w (v_X5_needBlock_95 w h)) (B := EVw) (by decide +kernel) (fun w h => va_Nw.use (EV.tab (s := s) w h) (hEV.1 w h))
theorem o_X5_needBlock_95 : ∀ w ∈ Cond.classLink RX5 95 "java/lang/IndexOutOfBoundsException" :: Cond.initialized "java/lang/IndexOutOfBoundsException" :: vx_atS RX5 99 "java/lang/IndexOutOfBoundsException" xnames, vx_ot w = true := by decide +kernel
set_option maxHeartbeats 4000000 in
set_option maxRecDepth 100000 in
/-- needBlock, where it refuses -/
theorem c_X5_needBlock_bad (l : Launch) (D : va_G) (cI cZ : ClassId) (a : Nat → Nat) (sz : Nat) (σ : St) (hfl : l.stackTraces = false) (b : Int32) (g : ¬ (inR b 0 7)) : XV l yX5_needBlock wsX5_needBlock ({ frames := 7, cells := 1, slots := 6, locals := 110 }) D (ty2 cI cZ) (wX cI cZ a) [.int b] σ sz (fun _ => False) (fun E => E = eIO) := by
  refine XV.of (cc := cX5_needBlock) (maxL := 1) (by decide) rfl (Nat.le_of_ble_eq_true rfl) ?_
  intro p e s m args below meth c A H locs ls hx hb hr hml hown hts hlocks hexc hEV hZ hA hS hP hK hD hl
  have hl : lv_has ls 1 [(0, .int b)] := hl
  refine lv_iload_n hx hb dX5_needBlock_0 rfl (lv_at hl 0 rfl) ?_
  refine lv_if_lt (tgt := 10) hx hb dX5_needBlock_1 (by decide) (fun c_1 => ?_) (fun c_1 => ?_)
  · skip
    exact X.throwS (cls := "java/lang/IndexOutOfBoundsException") (text := "no such block") (names := xnames) (ik := 95) (is := 229) (ic := 99) hx hb hfl hown (by decide +kernel) (by decide +kernel) (hts _ k_X5_needBlock_95) (hts _ j_X5_needBlock_95) (by decide +kernel) (w_X5_needBlock_95 hts hEV) o_X5_needBlock_95 hEV hZ hK hP hD hS (hl.1.trans hml.symm) dX5_needBlock_10 dX5_needBlock_13 dX5_needBlock_14 dX5_needBlock_16 dX5_needBlock_19 hexc (Nat.le_of_ble_eq_true rfl) (Nat.le_of_ble_eq_true rfl) (Nat.le_of_ble_eq_true rfl) (Nat.le_of_ble_eq_true rfl) hlocks (rfl)
  · skip
    refine lv_iload_n hx hb dX5_needBlock_4 rfl (lv_at hl 0 rfl) ?_
    refine lv_bipush (v := 8) hx hb dX5_needBlock_5 (by decide) ?_
    refine lv_icmp_lt (tgt := 20) hx hb dX5_needBlock_7 (by decide) (fun c_7 => ?_) (fun c_7 => ?_)
    · skip
      exact absurd ⟨c_1, (lt_suc (by decide)).mp c_7⟩ g
    · skip
      exact X.throwS (cls := "java/lang/IndexOutOfBoundsException") (text := "no such block") (names := xnames) (ik := 95) (is := 229) (ic := 99) hx hb hfl hown (by decide +kernel) (by decide +kernel) (hts _ k_X5_needBlock_95) (hts _ j_X5_needBlock_95) (by decide +kernel) (w_X5_needBlock_95 hts hEV) o_X5_needBlock_95 hEV hZ hK hP hD hS (hl.1.trans hml.symm) dX5_needBlock_10 dX5_needBlock_13 dX5_needBlock_14 dX5_needBlock_16 dX5_needBlock_19 hexc (Nat.le_of_ble_eq_true rfl) (Nat.le_of_ble_eq_true rfl) (Nat.le_of_ble_eq_true rfl) (Nat.le_of_ble_eq_true rfl) hlocks (rfl)
set_option maxHeartbeats 4000000 in
set_option maxRecDepth 100000 in
/-- needSpan, where nothing is refused -/
theorem c_X5_needSpan_ok (l : Launch) (D : va_G) (cI cZ : ClassId) (a : Nat → Nat) (sz : Nat) (σ : St) (ea fr to : Int32) (g : inR fr ea 5000 ∧ inR to fr 5000) : MV l yX5_needSpan wsX5_needSpan ({ frames := 0, cells := 0, slots := 0, locals := 0 }) D (ty2 cI cZ) (wX cI cZ a) [.int ea, .int fr, .int to] σ sz (fun u => u = σ) := by
  refine MV.of (cc := cX5_needSpan) (maxL := 3) (by decide) rfl (Nat.le_of_ble_eq_true rfl) ?_
  intro p e s m args below meth c A H locs ls hx hb hr hml hown hts hlocks hA hS hP hK hD hl
  have hl : lv_has ls 3 [(0, .int ea), (1, .int fr), (2, .int to)] := hl
  refine lv_iload_n hx hb dX5_needSpan_0 rfl (lv_at hl 1 rfl) ?_
  refine lv_iload_n hx hb dX5_needSpan_1 rfl (lv_at hl 0 rfl) ?_
  refine lv_icmp_lt (tgt := 12) hx hb dX5_needSpan_2 (by decide) (fun c_2 => ?_) (fun c_2 => ?_)
  · skip
    exact absurd c_2 g.1.1
  · skip
    refine lv_iload_n hx hb dX5_needSpan_5 rfl (lv_at hl 1 rfl) ?_
    refine lv_sipush (v := 5000) hx hb dX5_needSpan_6 (by decide) ?_
    refine lv_icmp_le (tgt := 22) hx hb dX5_needSpan_9 (by decide) (fun c_9 => ?_) (fun c_9 => ?_)
    · skip
      refine lv_iload_n hx hb dX5_needSpan_22 rfl (lv_at hl 2 rfl) ?_
      refine lv_iload_n hx hb dX5_needSpan_23 rfl (lv_at hl 1 rfl) ?_
      refine lv_icmp_lt (tgt := 34) hx hb dX5_needSpan_24 (by decide) (fun c_24 => ?_) (fun c_24 => ?_)
      · skip
        exact absurd c_24 g.2.1
      · skip
        refine lv_iload_n hx hb dX5_needSpan_27 rfl (lv_at hl 2 rfl) ?_
        refine lv_sipush (v := 5000) hx hb dX5_needSpan_28 (by decide) ?_
        refine lv_icmp_le (tgt := 44) hx hb dX5_needSpan_31 (by decide) (fun c_31 => ?_) (fun c_31 => ?_)
        · skip
          exact MV.ret hx hb hr hlocks hK hP hD hS dX5_needSpan_44 (by rfl)
        · skip
          exact absurd (le_nlt.mpr g.2.2) c_31
    · skip
      exact absurd (le_nlt.mpr g.1.2) c_9
set_option maxRecDepth 20000 in
theorem k_X5_needSpan_86 : Cond.classLink RX5 86 "java/lang/IllegalArgumentException" ∈ wsX5_needSpan := by decide +kernel
set_option maxRecDepth 20000 in
theorem j_X5_needSpan_86 : Cond.initialized "java/lang/IllegalArgumentException" ∈ wsX5_needSpan := by decide +kernel
set_option maxRecDepth 20000 in
theorem v_X5_needSpan_86 : ∀ w ∈ (vx_atS RX5 90 "java/lang/IllegalArgumentException" xnames).filter goodWord, w ∈ wsX5_needSpan := by decide +kernel
theorem w_X5_needSpan_86 {s : State} {args : Array Value} (hts : ∀ w ∈ wsX5_needSpan, w.before args s = true) (hEV : EV s) : ∀ w ∈ vx_atS RX5 90 "java/lang/IllegalArgumentException" xnames, w.before args s = true := vx_hat (fun w h => hts w (v_X5_needSpan_86 w h)) (B := EVw) (by decide +kernel) (fun w h => va_Nw.use (EV.tab (s := s) w h) (hEV.1 w h))
theorem o_X5_needSpan_86 : ∀ w ∈ Cond.classLink RX5 86 "java/lang/IllegalArgumentException" :: Cond.initialized "java/lang/IllegalArgumentException" :: vx_atS RX5 90 "java/lang/IllegalArgumentException" xnames, vx_ot w = true := by decide +kernel
set_option maxHeartbeats 4000000 in
set_option maxRecDepth 100000 in
/-- needSpan, where it refuses -/
theorem c_X5_needSpan_bad (l : Launch) (D : va_G) (cI cZ : ClassId) (a : Nat → Nat) (sz : Nat) (σ : St) (hfl : l.stackTraces = false) (ea fr to : Int32) (g : ¬ (inR fr ea 5000 ∧ inR to fr 5000)) : XV l yX5_needSpan wsX5_needSpan ({ frames := 7, cells := 1, slots := 6, locals := 110 }) D (ty2 cI cZ) (wX cI cZ a) [.int ea, .int fr, .int to] σ sz (fun _ => False) (fun E => E = eIA) := by
  refine XV.of (cc := cX5_needSpan) (maxL := 3) (by decide) rfl (Nat.le_of_ble_eq_true rfl) ?_
  intro p e s m args below meth c A H locs ls hx hb hr hml hown hts hlocks hexc hEV hZ hA hS hP hK hD hl
  have hl : lv_has ls 3 [(0, .int ea), (1, .int fr), (2, .int to)] := hl
  refine lv_iload_n hx hb dX5_needSpan_0 rfl (lv_at hl 1 rfl) ?_
  refine lv_iload_n hx hb dX5_needSpan_1 rfl (lv_at hl 0 rfl) ?_
  refine lv_icmp_lt (tgt := 12) hx hb dX5_needSpan_2 (by decide) (fun c_2 => ?_) (fun c_2 => ?_)
  · skip
    exact X.throwS (cls := "java/lang/IllegalArgumentException") (text := "first is out of range") (names := xnames) (ik := 86) (is := 235) (ic := 90) hx hb hfl hown (by decide +kernel) (by decide +kernel) (hts _ k_X5_needSpan_86) (hts _ j_X5_needSpan_86) (by decide +kernel) (w_X5_needSpan_86 hts hEV) o_X5_needSpan_86 hEV hZ hK hP hD hS (hl.1.trans hml.symm) dX5_needSpan_12 dX5_needSpan_15 dX5_needSpan_16 dX5_needSpan_18 dX5_needSpan_21 hexc (Nat.le_of_ble_eq_true rfl) (Nat.le_of_ble_eq_true rfl) (Nat.le_of_ble_eq_true rfl) (Nat.le_of_ble_eq_true rfl) hlocks (rfl)
  · skip
    refine lv_iload_n hx hb dX5_needSpan_5 rfl (lv_at hl 1 rfl) ?_
    refine lv_sipush (v := 5000) hx hb dX5_needSpan_6 (by decide) ?_
    refine lv_icmp_le (tgt := 22) hx hb dX5_needSpan_9 (by decide) (fun c_9 => ?_) (fun c_9 => ?_)
    · skip
      refine lv_iload_n hx hb dX5_needSpan_22 rfl (lv_at hl 2 rfl) ?_
      refine lv_iload_n hx hb dX5_needSpan_23 rfl (lv_at hl 1 rfl) ?_
      refine lv_icmp_lt (tgt := 34) hx hb dX5_needSpan_24 (by decide) (fun c_24 => ?_) (fun c_24 => ?_)
      · skip
        exact X.throwS (cls := "java/lang/IllegalArgumentException") (text := "last is out of range") (names := xnames) (ik := 86) (is := 237) (ic := 90) hx hb hfl hown (by decide +kernel) (by decide +kernel) (hts _ k_X5_needSpan_86) (hts _ j_X5_needSpan_86) (by decide +kernel) (w_X5_needSpan_86 hts hEV) o_X5_needSpan_86 hEV hZ hK hP hD hS (hl.1.trans hml.symm) dX5_needSpan_34 dX5_needSpan_37 dX5_needSpan_38 dX5_needSpan_40 dX5_needSpan_43 hexc (Nat.le_of_ble_eq_true rfl) (Nat.le_of_ble_eq_true rfl) (Nat.le_of_ble_eq_true rfl) (Nat.le_of_ble_eq_true rfl) hlocks (rfl)
      · skip
        refine lv_iload_n hx hb dX5_needSpan_27 rfl (lv_at hl 2 rfl) ?_
        refine lv_sipush (v := 5000) hx hb dX5_needSpan_28 (by decide) ?_
        refine lv_icmp_le (tgt := 44) hx hb dX5_needSpan_31 (by decide) (fun c_31 => ?_) (fun c_31 => ?_)
        · skip
          exact absurd ⟨⟨c_2, le_nlt.mp c_9⟩, ⟨c_24, le_nlt.mp c_31⟩⟩ g
        · skip
          exact X.throwS (cls := "java/lang/IllegalArgumentException") (text := "last is out of range") (names := xnames) (ik := 86) (is := 237) (ic := 90) hx hb hfl hown (by decide +kernel) (by decide +kernel) (hts _ k_X5_needSpan_86) (hts _ j_X5_needSpan_86) (by decide +kernel) (w_X5_needSpan_86 hts hEV) o_X5_needSpan_86 hEV hZ hK hP hD hS (hl.1.trans hml.symm) dX5_needSpan_34 dX5_needSpan_37 dX5_needSpan_38 dX5_needSpan_40 dX5_needSpan_43 hexc (Nat.le_of_ble_eq_true rfl) (Nat.le_of_ble_eq_true rfl) (Nat.le_of_ble_eq_true rfl) (Nat.le_of_ble_eq_true rfl) hlocks (rfl)
    · skip
      exact X.throwS (cls := "java/lang/IllegalArgumentException") (text := "first is out of range") (names := xnames) (ik := 86) (is := 235) (ic := 90) hx hb hfl hown (by decide +kernel) (by decide +kernel) (hts _ k_X5_needSpan_86) (hts _ j_X5_needSpan_86) (by decide +kernel) (w_X5_needSpan_86 hts hEV) o_X5_needSpan_86 hEV hZ hK hP hD hS (hl.1.trans hml.symm) dX5_needSpan_12 dX5_needSpan_15 dX5_needSpan_16 dX5_needSpan_18 dX5_needSpan_21 hexc (Nat.le_of_ble_eq_true rfl) (Nat.le_of_ble_eq_true rfl) (Nat.le_of_ble_eq_true rfl) (Nat.le_of_ble_eq_true rfl) hlocks (rfl)
set_option maxHeartbeats 4000000 in
set_option maxRecDepth 100000 in
theorem c_X5_isSiding (l : Launch) (D : va_G) (cI cZ : ClassId) (a : Nat → Nat) (sz : Nat) (σ : St) (v : Int32) : MI l yX5_isSiding wsX5_isSiding ({ frames := 0, cells := 0, slots := 0, locals := 0 }) D (ty2 cI cZ) (wX cI cZ a) [.int v] σ sz (fun r u => u = σ ∧ bo r (inR v 6 7)) := by
  refine MI.of (cc := cX5_isSiding) (maxL := 1) (by decide) rfl (Nat.le_of_ble_eq_true rfl) ?_
  intro p e s m args below meth c A H locs ls hx hb hr hml hown hts hlocks hA hS hP hK hD hl
  have hl : lv_has ls 1 [(0, .int v)] := hl
  refine lv_iload_n hx hb dX5_isSiding_0 rfl (lv_at hl 0 rfl) ?_
  refine lv_bipush (v := 6) hx hb dX5_isSiding_1 (by decide) ?_
  refine lv_icmp_lt (tgt := 16) hx hb dX5_isSiding_3 (by decide) (fun c_3 => ?_) (fun c_3 => ?_)
  · skip
    refine lv_iconst (v := 0) hx hb dX5_isSiding_16 (by decide) ?_
    exact MI.zret hx hb hr hlocks hK hP hD hS dX5_isSiding_17 rfl (by exact ⟨rfl, Or.inr ⟨rfl, fun h => h.1 c_3⟩⟩)
  · skip
    refine lv_iload_n hx hb dX5_isSiding_6 rfl (lv_at hl 0 rfl) ?_
    refine lv_bipush (v := 8) hx hb dX5_isSiding_7 (by decide) ?_
    refine lv_icmp_ge (tgt := 16) hx hb dX5_isSiding_9 (by decide) (fun c_9 => ?_) (fun c_9 => ?_)
    · skip
      refine lv_iconst (v := 0) hx hb dX5_isSiding_16 (by decide) ?_
      exact MI.zret hx hb hr hlocks hK hP hD hS dX5_isSiding_17 rfl (by exact ⟨rfl, Or.inr ⟨rfl, fun h => h.2 (ge_suc (by decide) c_9)⟩⟩)
    · skip
      refine lv_iconst (v := 1) hx hb dX5_isSiding_12 (by decide) ?_
      refine lv_goto (tgt := 17) hx hb dX5_isSiding_13 (by decide) ?_
      exact MI.zret hx hb hr hlocks hK hP hD hS dX5_isSiding_17 rfl (by exact ⟨rfl, Or.inl ⟨rfl, c_3, nge_suc (by decide) c_9⟩⟩)
end
section
/-! rows of waggons by what stands where (Z: how many in a row, J: which), minutes, what is reached -/
theorem sw_k {v : Int32} (h0 : ¬ v < 0) (h : v < 2) : ∃ k, k < 2 ∧ v = nI k := by
  obtain ⟨k, hk, rfl⟩ := nI_of h0
  rw [show (2 : Int32) = nI 2 from rfl, nI_ltI hk (by omega)] at h
  exact ⟨k, h, rfl⟩
theorem R_k {v : Int32} {hi : Nat} (hh : hi < 2 ^ 31) (h : inR v 0 (nI hi)) : ∃ k, k ≤ hi ∧ v = nI k := by
  obtain ⟨k, hk, rfl⟩ := nI_of h.1
  have h2 := h.2
  rw [nI_ltI hh hk] at h2
  exact ⟨k, by omega, rfl⟩
theorem R_k1 {v : Int32} (h : inR v 1 100) : ∃ k, 1 ≤ k ∧ k ≤ 100 ∧ v = nI k := by
  have h0 : ¬ v < 0 := by
    have h1 := h.1
    rw [Int32.lt_iff_toInt_lt] at h1 ⊢
    have e1 : (1 : Int32).toInt = 1 := rfl
    have e0 : (0 : Int32).toInt = 0 := rfl
    omega
  obtain ⟨k, hk, rfl⟩ := nI_of h0
  have h1 := h.1
  have h2 := h.2
  rw [show (1 : Int32) = nI 1 from rfl, nI_ltI hk (by omega)] at h1
  rw [show (100 : Int32) = nI 100 from rfl, nI_ltI (by omega) hk] at h2
  exact ⟨k, by omega, by omega, rfl⟩
theorem lst_z {I : Nat → Int32} {r z : Nat} {v : Int32} (hJ : ∀ p, p < z → ∃ j, j < 8 ∧ I (r * 8 + p) = nI j) (h : v = lst I r z) (e : v = -1) : z = 0 := by
  cases z with
  | zero => rfl
  | succ z =>
    obtain ⟨j, hj, ej⟩ := hJ z (by omega)
    have h1 : lst I r (z + 1) = nI j := ej
    rw [h1, e] at h
    exact absurd h.symm (nI_m1 (by omega))
theorem lst_s {I : Nat → Int32} {r z : Nat} {v : Int32} (h : v = lst I r z) (e : ¬ v = -1) : ∃ y, z = y + 1 ∧ v = I (r * 8 + y) := by
  cases z with
  | zero => exact absurd h e
  | succ z => exact ⟨z, rfl, h⟩
theorem wsm_J {W I : Nat → Int32} {r : Nat} {J : Nat → Nat} : ∀ {z : Nat}, (∀ p, p < z → I (r * 8 + p) = nI (J p) ∧ J p < 8) → wsm W I r z = wsJ W J z
  | 0, _ => rfl
  | z + 1, h => by
    rw [wsm, wsJ, wsm_J (fun p hp => h p (by omega)), (h z (by omega)).1, nI_clamp (Nat.lt_trans (h z (by omega)).2 (by decide))]
/-- which waggon stands at a place of a row, counted from the switch (a siding) or from the first one on (a train) -/
def fLJ (J : Nat → Nat) (z : Nat) (p : Int32) : Int32 := if nI z ≤ p then -1 else nI (J (z - 1 - p.toNatClampNeg))
def fFJ (J : Nat → Nat) (z : Nat) (p : Int32) : Int32 := if nI z ≤ p then -1 else nI (J p.toNatClampNeg)
theorem fLa_J {I : Nat → Int32} {r z : Nat} {J : Nat → Nat} {p : Int32} (hp : ¬ p < 0) (hz : z < 2 ^ 31) (h : ∀ p, p < z → I (r * 8 + p) = nI (J p)) : fLa I r z p = fLJ J z p := by
  obtain ⟨j, hj, rfl⟩ := nI_of hp
  by_cases e : nI z ≤ nI j
  · rw [fLa, fLJ, if_pos e, if_pos e]
  · rw [fLa, fLJ, if_neg e, if_neg e, nI_clamp hj]
    rw [nI_leI hz hj] at e
    exact h _ (by omega)
theorem fFi_J {I : Nat → Int32} {r z : Nat} {J : Nat → Nat} {p : Int32} (hp : ¬ p < 0) (hz : z < 2 ^ 31) (h : ∀ p, p < z → I (r * 8 + p) = nI (J p)) : fFi I r z p = fFJ J z p := by
  obtain ⟨j, hj, rfl⟩ := nI_of hp
  by_cases e : nI z ≤ nI j
  · rw [fFi, fFJ, if_pos e, if_pos e]
  · rw [fFi, fFJ, if_neg e, if_neg e, nI_clamp hj]
    rw [nI_leI hz hj] at e
    exact h _ (by omega)
noncomputable def waJ (Z : Nat → Nat) (J : Nat → Nat → Nat) (w p : Int32) : Int32 := cif (inR w 6 7) (fLJ (J (sR w)) (Z (sR w)) p) (fFJ (J (2 + (w - 10).toNatClampNeg)) (Z (2 + (w - 10).toNatClampNeg)) p)
/-- what stands behind minutes: the trains, the lateness, the clock, how many came to another block -/
abbrev T4 : Type := T3 × (Nat → Int32) × Int32 × Int32
noncomputable def mnX (σ : St) (n nb : Nat) (y : T4) : T4 :=
  ((mvs (σ 2) (σ 14) (σ 15) (σ 16) (σ 17) (σ 6) n nb y.2.2.1 y.1 n).1, mkm (mvs (σ 2) (σ 14) (σ 15) (σ 16) (σ 17) (σ 6) n nb y.2.2.1 y.1 n).1.1 (σ 14) (σ 15) (σ 16) (σ 17) n y.2.2.1 y.2.1 nb, y.2.2.1 + 1, y.2.2.2 + (mvs (σ 2) (σ 14) (σ 15) (σ 16) (σ 17) (σ 6) n nb y.2.2.1 y.1 n).2)
noncomputable def itX (σ : St) (n nb : Nat) : Nat → T4
  | 0 => ((σ 4, σ 5, σ 7), σ 18, σ 0 0, 0)
  | j + 1 => mnX σ n nb (itX σ n nb j)
theorem itX_blk {σ : St} {n nb : Nat} (h : ∀ i, i < n → blk (σ 4 i)) : ∀ j i, i < n → blk ((itX σ n nb j).1.1 i)
  | 0, i, hi => h i hi
  | j + 1, i, hi => mvs_blk (fun i hi => itX_blk h j i hi) n i hi (Nat.le_refl n)
/-- two pictures of n trains agree -/
def ag (n : Nat) (x y : T3) : Prop := ∀ i, i < n → x.1 i = y.1 i ∧ x.2.1 i = y.2.1 i ∧ x.2.2 i = y.2.2 i
theorem so_ag {B C : Nat → Int32} {w : Int32} : ∀ {n : Nat}, (∀ i, i < n → B i = C i) → so B w n = so C w n
  | 0, _ => rfl
  | n + 1, h => by rw [so, so, so_ag (fun i hi => h i (by omega)), h n (by omega)]
theorem upd_ag {f g : Nat → Int32} {n k : Nat} {v : Int32} (h : ∀ i, i < n → f i = g i) : ∀ i, i < n → upd f k v i = upd g k v i := by
  intro i hi
  by_cases e : i = k
  · subst e; rw [pk_us, pk_us]
  · rw [pk_un e, pk_un e]; exact h i hi
theorem stp_ag {Tu bT bB bF bL Hd Hf : Nat → Int32} {n nb : Nat} {mi : Int32} {k : Nat} {x y : T3} (h : ag n x y) (hH : ∀ i, i < n → Hd i = Hf i) (hk : k < n) :
    ag n (stp Tu bT bB bF bL Hd n nb mi k x).1 (stp Tu bT bB bF bL Hf n nb mi k y).1 ∧ (stp Tu bT bB bF bL Hd n nb mi k x).2 = (stp Tu bT bB bF bL Hf n nb mi k y).2 := by
  obtain ⟨e1, e2, e3⟩ := h k hk
  have eH := hH k hk
  have eS : ∀ w, so x.1 w n = so y.1 w n := fun w => so_ag (fun i hi => (h i hi).1)
  by_cases h1 : x.2.2 k ≤ 0
  · have h1' : y.2.2 k ≤ 0 := e3 ▸ h1
    by_cases h2 : Hd k = 0
    · have h2' : Hf k = 0 := eH ▸ h2
      by_cases h3 : ahd Tu (x.1 k) (x.2.1 k) = -2
      · have h3' : ahd Tu (y.1 k) (y.2.1 k) = -2 := by rw [← e1, ← e2]; exact h3
        rw [stp_f h1 h2 h3, stp_f h1' h2' h3', e2]
        exact ⟨fun i hi => ⟨(h i hi).1, upd_ag (fun i hi => (h i hi).2.1) i hi, (h i hi).2.2⟩, rfl⟩
      · have h3' : ¬ ahd Tu (y.1 k) (y.2.1 k) = -2 := by rw [← e1, ← e2]; exact h3
        by_cases h4 : ahd Tu (x.1 k) (x.2.1 k) = -1 ∨ ¬ so x.1 (ahd Tu (x.1 k) (x.2.1 k)) n = -1 ∨ mts bT bB bF bL nb (nI k) (ahd Tu (x.1 k) (x.2.1 k)) mi mi
        · have h4' : ahd Tu (y.1 k) (y.2.1 k) = -1 ∨ ¬ so y.1 (ahd Tu (y.1 k) (y.2.1 k)) n = -1 ∨ mts bT bB bF bL nb (nI k) (ahd Tu (y.1 k) (y.2.1 k)) mi mi := by rw [← e1, ← e2, ← eS]; exact h4
          rw [stp_b h1 h2 h3 h4, stp_b h1' h2' h3' h4']
          exact ⟨h, rfl⟩
        · have h4' : ¬ (ahd Tu (y.1 k) (y.2.1 k) = -1 ∨ ¬ so y.1 (ahd Tu (y.1 k) (y.2.1 k)) n = -1 ∨ mts bT bB bF bL nb (nI k) (ahd Tu (y.1 k) (y.2.1 k)) mi mi) := by rw [← e1, ← e2, ← eS]; exact h4
          rw [stp_m h1 h2 h3 h4, stp_m h1' h2' h3' h4', e1, e2]
          exact ⟨fun i hi => ⟨upd_ag (fun i hi => (h i hi).1) i hi, (h i hi).2.1, (h i hi).2.2⟩, rfl⟩
    · have h2' : ¬ Hf k = 0 := eH ▸ h2
      rw [stp_h h1 h2, stp_h h1' h2']
      exact ⟨h, rfl⟩
  · have h1' : ¬ y.2.2 k ≤ 0 := e3 ▸ h1
    rw [stp_d h1, stp_d h1', e3]
    exact ⟨fun i hi => ⟨(h i hi).1, (h i hi).2.1, upd_ag (fun i hi => (h i hi).2.2) i hi⟩, rfl⟩
theorem mvs_ag {Tu bT bB bF bL Hd Hf : Nat → Int32} {n nb : Nat} {mi : Int32} {x y : T3} (h : ag n x y) (hH : ∀ i, i < n → Hd i = Hf i) : ∀ {k : Nat}, k ≤ n →
    ag n (mvs Tu bT bB bF bL Hd n nb mi x k).1 (mvs Tu bT bB bF bL Hf n nb mi y k).1 ∧ (mvs Tu bT bB bF bL Hd n nb mi x k).2 = (mvs Tu bT bB bF bL Hf n nb mi y k).2
  | 0, _ => ⟨h, rfl⟩
  | k + 1, hk => by
    obtain ⟨a1, a2⟩ := mvs_ag (Tu := Tu) (bT := bT) (bB := bB) (bF := bF) (bL := bL) (nb := nb) (mi := mi) h hH (k := k) (by omega)
    obtain ⟨b1, b2⟩ := stp_ag (Tu := Tu) (bT := bT) (bB := bB) (bF := bF) (bL := bL) (nb := nb) (mi := mi) a1 hH (k := k) (by omega)
    exact ⟨b1, by rw [mvs_2, mvs_2, a2, b2]⟩
/-- the trains behind j minutes, if only time passed -/
noncomputable def sq (σ : St) (n nb : Nat) : Nat → T3
  | 0 => (σ 4, σ 5, σ 7)
  | j + 1 => (mvs (σ 2) (σ 14) (σ 15) (σ 16) (σ 17) (σ 6) n nb (σ 0 0 + nI j) (sq σ n nb j) n).1
def reaR (P : Nat → Prop) (r : Int32) : Prop := (∃ j, j ≤ 100 ∧ P j ∧ (∀ i, i < j → ¬ P i) ∧ r = nI j) ∨ (r = -1 ∧ ∀ j, j ≤ 100 → ¬ P j)
theorem reaR_one {P P' : Nat → Prop} {r r' : Int32} (e : ∀ j, j ≤ 100 → (P j ↔ P' j)) (h : reaR P r) (h' : reaR P' r') : r = r' := by
  rcases h with ⟨j, hj, hp, hm, rfl⟩ | ⟨rfl, hm⟩ <;> rcases h' with ⟨i, hi, hp', hm', rfl⟩ | ⟨rfl, hm'⟩
  · rcases Nat.lt_trichotomy j i with q | q | q
    · exact absurd ((e j hj).mp hp) (hm' j q)
    · rw [q]
    · exact absurd ((e i hi).mpr hp') (hm i q)
  · exact absurd ((e j hj).mp hp) (hm' j hj)
  · exact absurd ((e i hi).mpr hp') (hm i hi)
  · rfl
/-- minute by minute is the same -/
theorem mts_min {T B F L : Nat → Int32} {n : Nat} {t b : Int32} {f0 t0 : Nat} (h5 : t0 ≤ 5000) (hft : f0 ≤ t0) (hFL : ∀ k, k < n → ¬ L k < F k) :
    mts T B F L n t b (nI f0) (nI t0) ↔ ∃ q, f0 ≤ q ∧ q ≤ t0 ∧ mts T B F L n t b (nI q) (nI q) := by
  constructor
  · rintro ⟨k, hk, h1, h2, h3, h4⟩
    have h6 := hFL k hk
    rw [Int32.lt_iff_toInt_lt] at h3 h4 h6
    rw [nI_toInt (by omega)] at h3 h4
    by_cases c : (F k).toInt ≤ (f0 : Int)
    · refine ⟨f0, Nat.le_refl _, hft, k, hk, h1, h2, ?_, ?_⟩
      · rw [Int32.lt_iff_toInt_lt, nI_toInt (by omega)]; omega
      · rw [Int32.lt_iff_toInt_lt, nI_toInt (by omega)]; omega
    · refine ⟨(F k).toInt.toNat, by omega, by omega, k, hk, h1, h2, ?_, ?_⟩
      · rw [Int32.lt_iff_toInt_lt, nI_toInt (by omega)]; omega
      · rw [Int32.lt_iff_toInt_lt, nI_toInt (by omega)]; omega
  · rintro ⟨q, hq1, hq2, k, hk, h1, h2, h3, h4⟩
    rw [Int32.lt_iff_toInt_lt] at h3 h4
    rw [nI_toInt (by omega)] at h3 h4
    refine ⟨k, hk, h1, h2, ?_, ?_⟩
    · rw [Int32.lt_iff_toInt_lt, nI_toInt (by omega)]; omega
    · rw [Int32.lt_iff_toInt_lt, nI_toInt (by omega)]; omega
end
section
theorem R_k2 {v : Int32} {f0 : Nat} (hf : f0 < 2 ^ 31) (h : inR v (nI f0) 5000) : ∃ k, f0 ≤ k ∧ k ≤ 5000 ∧ v = nI k := by
  have h0 : ¬ v < 0 := by
    have h1 := h.1
    rw [Int32.lt_iff_toInt_lt, nI_toInt hf] at h1
    rw [Int32.lt_iff_toInt_lt]
    have e0 : (0 : Int32).toInt = 0 := rfl
    omega
  obtain ⟨k, hk, rfl⟩ := nI_of h0
  have h1 := h.1
  have h2 := h.2
  rw [nI_ltI hk hf] at h1
  rw [show (5000 : Int32) = nI 5000 from rfl, nI_ltI (by omega) hk] at h2
  exact ⟨k, by omega, by omega, rfl⟩
theorem nle_lt {a b : Int32} (h : ¬ a ≤ b) : b < a := by
  rw [Int32.le_iff_toInt_le] at h
  rw [Int32.lt_iff_toInt_lt]
  omega
end
section
set_option maxRecDepth 20000 in
theorem in_X5_addTrain_X3 : ∀ w ∈ wsX30, w ∈ wsX5_addTrain := by decide +kernel
set_option maxRecDepth 20000 in
theorem in_X5_addTrain_X5 : ∀ w ∈ wsX50, w ∈ wsX5_addTrain := by decide +kernel
set_option maxRecDepth 20000 in
theorem k_X5_addTrain_55 : Cond.classLink RX5 55 "java/lang/IllegalStateException" ∈ wsX5_addTrain := by decide +kernel
set_option maxRecDepth 20000 in
theorem j_X5_addTrain_55 : Cond.initialized "java/lang/IllegalStateException" ∈ wsX5_addTrain := by decide +kernel
set_option maxRecDepth 20000 in
theorem v_X5_addTrain_55 : ∀ w ∈ (vx_atS RX5 59 "java/lang/IllegalStateException" xnames).filter goodWord, w ∈ wsX5_addTrain := by decide +kernel
theorem w_X5_addTrain_55 {s : State} {args : Array Value} (hts : ∀ w ∈ wsX5_addTrain, w.before args s = true) (hEV : EV s) : ∀ w ∈ vx_atS RX5 59 "java/lang/IllegalStateException" xnames, w.before args s = true := vx_hat (fun w h => hts w (v_X5_addTrain_55 w h)) (B := EVw) (by decide +kernel) (fun w h => va_Nw.use (EV.tab (s := s) w h) (hEV.1 w h))
theorem o_X5_addTrain_55 : ∀ w ∈ Cond.classLink RX5 55 "java/lang/IllegalStateException" :: Cond.initialized "java/lang/IllegalStateException" :: vx_atS RX5 59 "java/lang/IllegalStateException" xnames, vx_ot w = true := by decide +kernel
set_option maxHeartbeats 4000000 in
set_option maxRecDepth 100000 in
/-- Warpyard.addTrain -/
theorem c_X5_addTrain (l : Launch) (D : va_G) (cI cZ : ClassId) (a : Nat → Nat) (sz : Nat) (σ : St) (hfl : l.stackTraces = false) (b rt : Int32) (hrt : rt = 0 ∨ rt = 1) (n : Nat) (hn : σ 3 0 = nI n) (hn4 : n ≤ 4) : XI l yX5_addTrain wsX5_addTrain ({ frames := 8, cells := 1, slots := 6, locals := 130 }) D (ty2 cI cZ) (wX cI cZ a) [.ref (a 0), .int b, .int rt] σ sz (fun r u => cdAdd σ n b = 0 ∧ u = (va_up (va_up (va_up σ 3 (fun _ => nI (n + 1))) 4 (upd (σ 4) n b)) 5 (upd (σ 5) n rt)) ∧ r = nI n) (xA (cdAdd σ n b)) := by
  refine XI.of (cc := cX5_addTrain) (maxL := 3) (by decide) rfl (Nat.le_of_ble_eq_true rfl) ?_
  intro p e s m args below meth c A H locs ls hx hb hr hml hown hts hlocks hexc hEV hZ hA hS hP hK hD hl
  have hl : lv_has ls 3 [(0, .ref (a 0)), (1, .int b), (2, .int rt)] := hl
  refine lv_iload_n hx hb dX5_addTrain_0 rfl (lv_at hl 1 rfl) ?_
  by_cases g_1 : inR b 0 7
  · skip
    refine MV.callS (As := [.int b]) (rest := []) ⟨hx, hb, hml, hown, hts⟩ (c_X5_needBlock_ok l D cI cZ a H.size σ b g_1) (va_cwS 1 hts gX5_addTrain_X5_needBlock rfl rfl rfl (by decide +kernel) ⟨Nat.le_of_ble_eq_true rfl, Nat.le_of_ble_eq_true rfl⟩) hP hK hD hS hA rfl hl.1 (Nat.le_of_ble_eq_true rfl) (Nat.zero_le _) (Nat.zero_le _) dX5_addTrain_1 rfl (fun u_1 H locs h_1 hP hD hS => ?_)
    have e_1 := h_1
    have e_1 := Eq.symm e_1
    subst e_1
    refine lv_aload_n hx hb dX5_addTrain_4 rfl (lv_at hl 0 rfl) ?_
    refine va_get (D := D) (ci := 5) (v := .ref (a 3)) (C := RX5) (T := TX5) (N := 8) hx hb hts in_X5_addTrain_X5 hown hK hP 0 rfl rfl 1 (by decide) (hts (.fieldLink RX5 19 "Warpyard" "trains" "LWarpyard$Trains;") (by decide +kernel)) (fun _ h9 => h9) rfl dX5_addTrain_5 ?_
    refine va_get (D := D) (ci := 3) (v := .int (σ 3 0)) (C := RX3) (T := TX3) (N := 5) hx hb hts in_X5_addTrain_X3 hown hK hP 3 rfl rfl 4 (by decide) (hts (.fieldLink RX5 51 "Warpyard$Trains" "count" "I") (by decide +kernel)) (fun _ h9 => h9) rfl dX5_addTrain_8 ?_
    refine lv_topi (fun v_11 e_11 => ?_)
    obtain rfl : v_11 = nI n := by rw [e_11]; exact hn
    refine lv_iconst (v := 4) hx hb dX5_addTrain_11 (by decide) ?_
    refine lv_icmp_lt (tgt := 25) hx hb dX5_addTrain_12 (by decide) (fun c_12 => ?_) (fun c_12 => ?_)
    · skip
      rw [show (4 : Int32) = nI 4 from rfl, nI_ltI (by omega) (by omega)] at c_12
      refine lv_aload_n hx hb dX5_addTrain_25 rfl (lv_at hl 0 rfl) ?_
      refine va_get (D := D) (ci := 5) (v := .ref (a 3)) (C := RX5) (T := TX5) (N := 8) hx hb hts in_X5_addTrain_X5 hown hK hP 0 rfl rfl 1 (by decide) (hts (.fieldLink RX5 19 "Warpyard" "trains" "LWarpyard$Trains;") (by decide +kernel)) (fun _ h9 => h9) rfl dX5_addTrain_26 ?_
      refine lv_iload_n hx hb dX5_addTrain_29 rfl (lv_at hl 1 rfl) ?_
      refine MI.callV (As := [.int b]) (rest := []) ⟨hx, hb, hml, hown, hts⟩ (c_X3_standingOn l D cI cZ a H.size σ b n hn hn4) (cwV 1 hts gX5_addTrain_X3_standingOn rfl rfl rfl (by decide +kernel) ⟨Nat.le_of_ble_eq_true rfl, Nat.le_of_ble_eq_true rfl⟩) hP hK hD hS hA (va_recv hK hP (ci := 3) (q0 := 3) rfl rfl) rfl hl.1 (Nat.le_of_ble_eq_true rfl) (Nat.zero_le _) (Nat.zero_le _) dX5_addTrain_30 rfl (fun r_30 u_30 H locs h_30 hP hD hS => ?_)
      obtain ⟨e_30, h_30⟩ := h_30
      have e_30 := Eq.symm e_30
      subst e_30
      have h_30 : r_30 = so (σ 4) b n := h_30
      refine lv_iconst (v := (-1)) hx hb dX5_addTrain_33 (by decide) ?_
      refine lv_icmp_eq (tgt := 47) hx hb dX5_addTrain_34 (by decide) (fun c_34 => ?_) (fun c_34 => ?_)
      · skip
        refine lv_aload_n hx hb dX5_addTrain_47 rfl (lv_at hl 0 rfl) ?_
        refine va_get (D := D) (ci := 5) (v := .ref (a 3)) (C := RX5) (T := TX5) (N := 8) hx hb hts in_X5_addTrain_X5 hown hK hP 0 rfl rfl 1 (by decide) (hts (.fieldLink RX5 19 "Warpyard" "trains" "LWarpyard$Trains;") (by decide +kernel)) (fun _ h9 => h9) rfl dX5_addTrain_48 ?_
        refine lv_iload_n hx hb dX5_addTrain_51 rfl (lv_at hl 1 rfl) ?_
        refine lv_iload_n hx hb dX5_addTrain_52 rfl (lv_at hl 2 rfl) ?_
        refine MI.callV (As := [.int b, .int rt]) (rest := []) ⟨hx, hb, hml, hown, hts⟩ (c_X3_add l D cI cZ a H.size σ b rt n hrt hn (by omega)) (cwV 2 hts gX5_addTrain_X3_add rfl rfl rfl (by decide +kernel) ⟨Nat.le_of_ble_eq_true rfl, Nat.le_of_ble_eq_true rfl⟩) hP hK hD hS hA (va_recv hK hP (ci := 3) (q0 := 3) rfl rfl) rfl hl.1 (Nat.le_of_ble_eq_true rfl) (Nat.zero_le _) (Nat.zero_le _) dX5_addTrain_53 rfl (fun r_53 u_53 H locs h_53 hP hD hS => ?_)
        obtain ⟨e_53, rfl⟩ := h_53
        have e_53 := Eq.symm e_53
        subst e_53
        have hP : va_P D vwCl (wX cI cZ a (va_up (va_up (va_up σ 3 (fun _ => nI (n + 1))) 4 (upd (σ 4) n b)) 5 (upd (σ 5) n rt))) H := hP
        have hD : va_D A (wX cI cZ a (va_up (va_up (va_up σ 3 (fun _ => nI (n + 1))) 4 (upd (σ 4) n b)) 5 (upd (σ 5) n rt))) := hD
        exact XI.ret hx hb hr hlocks hK hP hD hS dX5_addTrain_56 (by exact ⟨by rw [cdAdd, cif_t g_1, cif_t ⟨by omega, h_30.symm.trans c_34⟩], rfl, rfl⟩)
      · skip
        exact X.throwS (cls := "java/lang/IllegalStateException") (text := "a train stands on that block") (names := xnames) (ik := 55) (is := 66) (ic := 59) hx hb hfl hown (by decide +kernel) (by decide +kernel) (hts _ k_X5_addTrain_55) (hts _ j_X5_addTrain_55) (by decide +kernel) (w_X5_addTrain_55 hts hEV) o_X5_addTrain_55 hEV hZ hK hP hD hS (hl.1.trans hml.symm) dX5_addTrain_37 dX5_addTrain_40 dX5_addTrain_41 dX5_addTrain_43 dX5_addTrain_46 hexc (Nat.le_of_ble_eq_true rfl) (Nat.le_of_ble_eq_true rfl) (Nat.le_of_ble_eq_true rfl) (Nat.le_of_ble_eq_true rfl) hlocks (Or.inr ⟨rfl, by rw [cdAdd, cif_t g_1, cif_f (fun h => c_34 (h_30.trans h.2))]⟩)
    · skip
      rw [show (4 : Int32) = nI 4 from rfl, nI_ltI (by omega) (by omega)] at c_12
      exact X.throwS (cls := "java/lang/IllegalStateException") (text := "there are 4 trains") (names := xnames) (ik := 55) (is := 57) (ic := 59) hx hb hfl hown (by decide +kernel) (by decide +kernel) (hts _ k_X5_addTrain_55) (hts _ j_X5_addTrain_55) (by decide +kernel) (w_X5_addTrain_55 hts hEV) o_X5_addTrain_55 hEV hZ hK hP hD hS (hl.1.trans hml.symm) dX5_addTrain_15 dX5_addTrain_18 dX5_addTrain_19 dX5_addTrain_21 dX5_addTrain_24 hexc (Nat.le_of_ble_eq_true rfl) (Nat.le_of_ble_eq_true rfl) (Nat.le_of_ble_eq_true rfl) (Nat.le_of_ble_eq_true rfl) hlocks (Or.inr ⟨rfl, by rw [cdAdd, cif_t g_1, cif_f (fun h => h.1 (by omega))]⟩)
  · skip
    exact XV.outS (As := [.int b]) (rest := []) ⟨hx, hb, hml, hown, hts⟩ (c_X5_needBlock_bad l D cI cZ a H.size σ hfl b g_1) (va_cwS 1 hts gX5_addTrain_X5_needBlock rfl rfl rfl (by decide +kernel) ⟨Nat.le_of_ble_eq_true rfl, Nat.le_of_ble_eq_true rfl⟩) hP hK hD hS hA hEV hZ rfl hl.1 (Nat.le_of_ble_eq_true rfl) (Nat.le_of_ble_eq_true rfl) (Nat.le_of_ble_eq_true rfl) dX5_addTrain_1 rfl hlocks hexc (fun E hE => Or.inl ⟨hE, by rw [cdAdd, cif_f g_1]⟩)
set_option maxRecDepth 20000 in
theorem in_X5_block_X3 : ∀ w ∈ wsX30, w ∈ wsX5_block := by decide +kernel
set_option maxRecDepth 20000 in
theorem in_X5_block_X5 : ∀ w ∈ wsX50, w ∈ wsX5_block := by decide +kernel
set_option maxHeartbeats 4000000 in
set_option maxRecDepth 100000 in
/-- Warpyard.block -/
theorem c_X5_block (l : Launch) (D : va_G) (cI cZ : ClassId) (a : Nat → Nat) (sz : Nat) (σ : St) (hfl : l.stackTraces = false) (t : Int32) (n : Nat) (hn : σ 3 0 = nI n) (hn4 : n ≤ 4) : XI l yX5_block wsX5_block ({ frames := 8, cells := 1, slots := 6, locals := 131 }) D (ty2 cI cZ) (wX cI cZ a) [.ref (a 0), .int t] σ sz (fun r u => cdTr n t = 0 ∧ u = σ ∧ r = σ 4 t.toNatClampNeg) (x1 (cdTr n t)) := by
  refine XI.of (cc := cX5_block) (maxL := 2) (by decide) rfl (Nat.le_of_ble_eq_true rfl) ?_
  intro p e s m args below meth c A H locs ls hx hb hr hml hown hts hlocks hexc hEV hZ hA hS hP hK hD hl
  have hl : lv_has ls 2 [(0, .ref (a 0)), (1, .int t)] := hl
  refine lv_aload_n hx hb dX5_block_0 rfl (lv_at hl 0 rfl) ?_
  refine lv_iload_n hx hb dX5_block_1 rfl (lv_at hl 1 rfl) ?_
  by_cases g_2 : tr n t
  · skip
    refine MV.callV (As := [.int t]) (rest := []) ⟨hx, hb, hml, hown, hts⟩ (c_X5_needTrain_ok l D cI cZ a H.size σ t n hn hn4 g_2) (cwV 1 hts gX5_block_X5_needTrain rfl rfl rfl (by decide +kernel) ⟨Nat.le_of_ble_eq_true rfl, Nat.le_of_ble_eq_true rfl⟩) hP hK hD hS hA (va_recv hK hP (ci := 5) (q0 := 0) rfl rfl) rfl hl.1 (Nat.le_of_ble_eq_true rfl) (Nat.zero_le _) (Nat.zero_le _) dX5_block_2 rfl (fun u_2 H locs h_2 hP hD hS => ?_)
    have e_2 := h_2
    have e_2 := Eq.symm e_2
    subst e_2
    obtain ⟨k, hk, rfl⟩ := id g_2
    refine lv_aload_n hx hb dX5_block_5 rfl (lv_at hl 0 rfl) ?_
    refine va_get (D := D) (ci := 5) (v := .ref (a 3)) (C := RX5) (T := TX5) (N := 8) hx hb hts in_X5_block_X5 hown hK hP 0 rfl rfl 1 (by decide) (hts (.fieldLink RX5 19 "Warpyard" "trains" "LWarpyard$Trains;") (by decide +kernel)) (fun _ h9 => h9) rfl dX5_block_6 ?_
    refine va_get (D := D) (ci := 3) (v := .ref (a 4)) (C := RX3) (T := TX3) (N := 5) hx hb hts in_X5_block_X3 hown hK hP 3 rfl rfl 0 (by decide) (hts (.fieldLink RX5 103 "Warpyard$Trains" "block" "[I") (by decide +kernel)) (fun _ h9 => h9) rfl dX5_block_9 ?_
    refine lv_iload_n hx hb dX5_block_12 rfl (lv_at hl 1 rfl) ?_
    refine na_iald hx hb hK hP 4 0 (f := (σ 4)) rfl rfl k (by omega) (by decide) rfl dX5_block_13 ?_
    exact XI.ret hx hb hr hlocks hK hP hD hS dX5_block_14 (by rw [nI_clamp (show k < 2 ^ 31 by omega)]; exact ⟨cif_t g_2, rfl, rfl⟩)
  · skip
    exact XV.outV (As := [.int t]) (rest := []) ⟨hx, hb, hml, hown, hts⟩ (c_X5_needTrain_bad l D cI cZ a H.size σ hfl t n hn hn4 g_2) (cwV 1 hts gX5_block_X5_needTrain rfl rfl rfl (by decide +kernel) ⟨Nat.le_of_ble_eq_true rfl, Nat.le_of_ble_eq_true rfl⟩) hP hK hD hS hA hEV hZ (va_recv hK hP (ci := 5) (q0 := 0) rfl rfl) rfl hl.1 (Nat.le_of_ble_eq_true rfl) (Nat.le_of_ble_eq_true rfl) (Nat.le_of_ble_eq_true rfl) dX5_block_2 rfl hlocks hexc (fun E hE => ⟨hE, cif_f g_2⟩)
set_option maxRecDepth 20000 in
theorem in_X5_isRight_X3 : ∀ w ∈ wsX30, w ∈ wsX5_isRight := by decide +kernel
set_option maxRecDepth 20000 in
theorem in_X5_isRight_X5 : ∀ w ∈ wsX50, w ∈ wsX5_isRight := by decide +kernel
set_option maxHeartbeats 4000000 in
set_option maxRecDepth 100000 in
/-- Warpyard.isRight -/
theorem c_X5_isRight (l : Launch) (D : va_G) (cI cZ : ClassId) (a : Nat → Nat) (sz : Nat) (σ : St) (hfl : l.stackTraces = false) (t : Int32) (n : Nat) (hn : σ 3 0 = nI n) (hn4 : n ≤ 4) (hR : ∀ i, i < 4 → σ 5 i = 0 ∨ σ 5 i = 1) : XI l yX5_isRight wsX5_isRight ({ frames := 8, cells := 1, slots := 6, locals := 131 }) D (ty2 cI cZ) (wX cI cZ a) [.ref (a 0), .int t] σ sz (fun r u => cdTr n t = 0 ∧ u = σ ∧ r = σ 5 t.toNatClampNeg) (x1 (cdTr n t)) := by
  refine XI.of (cc := cX5_isRight) (maxL := 2) (by decide) rfl (Nat.le_of_ble_eq_true rfl) ?_
  intro p e s m args below meth c A H locs ls hx hb hr hml hown hts hlocks hexc hEV hZ hA hS hP hK hD hl
  have hl : lv_has ls 2 [(0, .ref (a 0)), (1, .int t)] := hl
  refine lv_aload_n hx hb dX5_isRight_0 rfl (lv_at hl 0 rfl) ?_
  refine lv_iload_n hx hb dX5_isRight_1 rfl (lv_at hl 1 rfl) ?_
  by_cases g_2 : tr n t
  · skip
    refine MV.callV (As := [.int t]) (rest := []) ⟨hx, hb, hml, hown, hts⟩ (c_X5_needTrain_ok l D cI cZ a H.size σ t n hn hn4 g_2) (cwV 1 hts gX5_isRight_X5_needTrain rfl rfl rfl (by decide +kernel) ⟨Nat.le_of_ble_eq_true rfl, Nat.le_of_ble_eq_true rfl⟩) hP hK hD hS hA (va_recv hK hP (ci := 5) (q0 := 0) rfl rfl) rfl hl.1 (Nat.le_of_ble_eq_true rfl) (Nat.zero_le _) (Nat.zero_le _) dX5_isRight_2 rfl (fun u_2 H locs h_2 hP hD hS => ?_)
    have e_2 := h_2
    have e_2 := Eq.symm e_2
    subst e_2
    obtain ⟨k, hk, rfl⟩ := id g_2
    refine lv_aload_n hx hb dX5_isRight_5 rfl (lv_at hl 0 rfl) ?_
    refine va_get (D := D) (ci := 5) (v := .ref (a 3)) (C := RX5) (T := TX5) (N := 8) hx hb hts in_X5_isRight_X5 hown hK hP 0 rfl rfl 1 (by decide) (hts (.fieldLink RX5 19 "Warpyard" "trains" "LWarpyard$Trains;") (by decide +kernel)) (fun _ h9 => h9) rfl dX5_isRight_6 ?_
    refine va_get (D := D) (ci := 3) (v := .ref (a 5)) (C := RX3) (T := TX3) (N := 5) hx hb hts in_X5_isRight_X3 hown hK hP 3 rfl rfl 1 (by decide) (hts (.fieldLink RX5 106 "Warpyard$Trains" "right" "[Z") (by decide +kernel)) (fun _ h9 => h9) rfl dX5_isRight_9 ?_
    refine lv_iload_n hx hb dX5_isRight_12 rfl (lv_at hl 1 rfl) ?_
    refine na_zald hx hb hK hP 5 1 (f := (σ 5)) rfl rfl k (by omega) (by decide) rfl dX5_isRight_13 ?_
    exact XI.zret hx hb hr hlocks hK hP hD hS dX5_isRight_14 (nar_b (hR k (by omega))) (by rw [nI_clamp (show k < 2 ^ 31 by omega)]; exact ⟨cif_t g_2, rfl, rfl⟩)
  · skip
    exact XV.outV (As := [.int t]) (rest := []) ⟨hx, hb, hml, hown, hts⟩ (c_X5_needTrain_bad l D cI cZ a H.size σ hfl t n hn hn4 g_2) (cwV 1 hts gX5_isRight_X5_needTrain rfl rfl rfl (by decide +kernel) ⟨Nat.le_of_ble_eq_true rfl, Nat.le_of_ble_eq_true rfl⟩) hP hK hD hS hA hEV hZ (va_recv hK hP (ci := 5) (q0 := 0) rfl rfl) rfl hl.1 (Nat.le_of_ble_eq_true rfl) (Nat.le_of_ble_eq_true rfl) (Nat.le_of_ble_eq_true rfl) dX5_isRight_2 rfl hlocks hexc (fun E hE => ⟨hE, cif_f g_2⟩)
set_option maxRecDepth 20000 in
theorem in_X5_trainOn_X5 : ∀ w ∈ wsX50, w ∈ wsX5_trainOn := by decide +kernel
set_option maxHeartbeats 4000000 in
set_option maxRecDepth 100000 in
/-- Warpyard.trainOn -/
theorem c_X5_trainOn (l : Launch) (D : va_G) (cI cZ : ClassId) (a : Nat → Nat) (sz : Nat) (σ : St) (hfl : l.stackTraces = false) (b : Int32) (n : Nat) (hn : σ 3 0 = nI n) (hn4 : n ≤ 4) : XI l yX5_trainOn wsX5_trainOn ({ frames := 8, cells := 1, slots := 6, locals := 130 }) D (ty2 cI cZ) (wX cI cZ a) [.ref (a 0), .int b] σ sz (fun r u => cdBl b = 0 ∧ u = σ ∧ r = so (σ 4) b n) (x1 (cdBl b)) := by
  refine XI.of (cc := cX5_trainOn) (maxL := 2) (by decide) rfl (Nat.le_of_ble_eq_true rfl) ?_
  intro p e s m args below meth c A H locs ls hx hb hr hml hown hts hlocks hexc hEV hZ hA hS hP hK hD hl
  have hl : lv_has ls 2 [(0, .ref (a 0)), (1, .int b)] := hl
  refine lv_iload_n hx hb dX5_trainOn_0 rfl (lv_at hl 1 rfl) ?_
  by_cases g_1 : inR b 0 7
  · skip
    refine MV.callS (As := [.int b]) (rest := []) ⟨hx, hb, hml, hown, hts⟩ (c_X5_needBlock_ok l D cI cZ a H.size σ b g_1) (va_cwS 1 hts gX5_trainOn_X5_needBlock rfl rfl rfl (by decide +kernel) ⟨Nat.le_of_ble_eq_true rfl, Nat.le_of_ble_eq_true rfl⟩) hP hK hD hS hA rfl hl.1 (Nat.le_of_ble_eq_true rfl) (Nat.zero_le _) (Nat.zero_le _) dX5_trainOn_1 rfl (fun u_1 H locs h_1 hP hD hS => ?_)
    have e_1 := h_1
    have e_1 := Eq.symm e_1
    subst e_1
    refine lv_aload_n hx hb dX5_trainOn_4 rfl (lv_at hl 0 rfl) ?_
    refine va_get (D := D) (ci := 5) (v := .ref (a 3)) (C := RX5) (T := TX5) (N := 8) hx hb hts in_X5_trainOn_X5 hown hK hP 0 rfl rfl 1 (by decide) (hts (.fieldLink RX5 19 "Warpyard" "trains" "LWarpyard$Trains;") (by decide +kernel)) (fun _ h9 => h9) rfl dX5_trainOn_5 ?_
    refine lv_iload_n hx hb dX5_trainOn_8 rfl (lv_at hl 1 rfl) ?_
    refine MI.callV (As := [.int b]) (rest := []) ⟨hx, hb, hml, hown, hts⟩ (c_X3_standingOn l D cI cZ a H.size σ b n hn hn4) (cwV 1 hts gX5_trainOn_X3_standingOn rfl rfl rfl (by decide +kernel) ⟨Nat.le_of_ble_eq_true rfl, Nat.le_of_ble_eq_true rfl⟩) hP hK hD hS hA (va_recv hK hP (ci := 3) (q0 := 3) rfl rfl) rfl hl.1 (Nat.le_of_ble_eq_true rfl) (Nat.zero_le _) (Nat.zero_le _) dX5_trainOn_9 rfl (fun r_9 u_9 H locs h_9 hP hD hS => ?_)
    obtain ⟨e_9, h_9⟩ := h_9
    have e_9 := Eq.symm e_9
    subst e_9
    have h_9 : r_9 = so (σ 4) b n := h_9
    exact XI.ret hx hb hr hlocks hK hP hD hS dX5_trainOn_12 (by exact ⟨cif_t g_1, rfl, h_9⟩)
  · skip
    exact XV.outS (As := [.int b]) (rest := []) ⟨hx, hb, hml, hown, hts⟩ (c_X5_needBlock_bad l D cI cZ a H.size σ hfl b g_1) (va_cwS 1 hts gX5_trainOn_X5_needBlock rfl rfl rfl (by decide +kernel) ⟨Nat.le_of_ble_eq_true rfl, Nat.le_of_ble_eq_true rfl⟩) hP hK hD hS hA hEV hZ rfl hl.1 (Nat.le_of_ble_eq_true rfl) (Nat.le_of_ble_eq_true rfl) (Nat.le_of_ble_eq_true rfl) dX5_trainOn_1 rfl hlocks hexc (fun E hE => ⟨hE, cif_f g_1⟩)
set_option maxRecDepth 20000 in
theorem in_X5_clock_X5 : ∀ w ∈ wsX50, w ∈ wsX5_clock := by decide +kernel
set_option maxHeartbeats 4000000 in
set_option maxRecDepth 100000 in
/-- Warpyard.clock -/
theorem c_X5_clock (l : Launch) (D : va_G) (cI cZ : ClassId) (a : Nat → Nat) (sz : Nat) (σ : St)  : MI l yX5_clock wsX5_clock ({ frames := 0, cells := 0, slots := 0, locals := 0 }) D (ty2 cI cZ) (wX cI cZ a) [.ref (a 0)] σ sz (fun r u => u = σ ∧ r = σ 0 0) := by
  refine MI.of (cc := cX5_clock) (maxL := 1) (by decide) rfl (Nat.le_of_ble_eq_true rfl) ?_
  intro p e s m args below meth c A H locs ls hx hb hr hml hown hts hlocks hA hS hP hK hD hl
  have hl : lv_has ls 1 [(0, .ref (a 0))] := hl
  refine lv_aload_n hx hb dX5_clock_0 rfl (lv_at hl 0 rfl) ?_
  refine va_get (D := D) (ci := 5) (v := .int (σ 0 0)) (C := RX5) (T := TX5) (N := 8) hx hb hts in_X5_clock_X5 hown hK hP 0 rfl rfl 6 (by decide) (hts (.fieldLink RX5 109 "Warpyard" "now" "I") (by decide +kernel)) (fun _ h9 => h9) rfl dX5_clock_1 ?_
  exact MI.ret hx hb hr hlocks hK hP hD hS dX5_clock_4 (by exact ⟨rfl, rfl⟩)
set_option maxRecDepth 20000 in
theorem in_X5_earned_X5 : ∀ w ∈ wsX50, w ∈ wsX5_earned := by decide +kernel
set_option maxHeartbeats 4000000 in
set_option maxRecDepth 100000 in
/-- Warpyard.earned -/
theorem c_X5_earned (l : Launch) (D : va_G) (cI cZ : ClassId) (a : Nat → Nat) (sz : Nat) (σ : St)  : MI l yX5_earned wsX5_earned ({ frames := 0, cells := 0, slots := 0, locals := 0 }) D (ty2 cI cZ) (wX cI cZ a) [.ref (a 0)] σ sz (fun r u => u = σ ∧ r = σ 1 0) := by
  refine MI.of (cc := cX5_earned) (maxL := 1) (by decide) rfl (Nat.le_of_ble_eq_true rfl) ?_
  intro p e s m args below meth c A H locs ls hx hb hr hml hown hts hlocks hA hS hP hK hD hl
  have hl : lv_has ls 1 [(0, .ref (a 0))] := hl
  refine lv_aload_n hx hb dX5_earned_0 rfl (lv_at hl 0 rfl) ?_
  refine va_get (D := D) (ci := 5) (v := .int (σ 1 0)) (C := RX5) (T := TX5) (N := 8) hx hb hts in_X5_earned_X5 hown hK hP 0 rfl rfl 7 (by decide) (hts (.fieldLink RX5 209 "Warpyard" "money" "I") (by decide +kernel)) (fun _ h9 => h9) rfl dX5_earned_1 ?_
  exact MI.ret hx hb hr hlocks hK hP hD hS dX5_earned_4 (by exact ⟨rfl, rfl⟩)
set_option maxRecDepth 20000 in
theorem in_X5_canBook_X5 : ∀ w ∈ wsX50, w ∈ wsX5_canBook := by decide +kernel
set_option maxHeartbeats 4000000 in
set_option maxRecDepth 100000 in
/-- Warpyard.canBook -/
theorem c_X5_canBook (l : Launch) (D : va_G) (cI cZ : ClassId) (a : Nat → Nat) (sz : Nat) (σ : St) (hfl : l.stackTraces = false) (t b fr to : Int32) (n : Nat) (hn : σ 3 0 = nI n) (hn4 : n ≤ 4) (nb : Nat) (hnb : σ 13 0 = nI nb) (hnb30 : nb ≤ 30) : XI l yX5_canBook wsX5_canBook ({ frames := 8, cells := 1, slots := 6, locals := 132 }) D (ty2 cI cZ) (wX cI cZ a) [.ref (a 0), .int t, .int b, .int fr, .int to] σ sz (fun r u => cdCan n t b fr to = 0 ∧ u = σ ∧ r = bI (¬ mts (σ 14) (σ 15) (σ 16) (σ 17) nb t b fr to)) (xB (cdCan n t b fr to)) := by
  refine XI.of (cc := cX5_canBook) (maxL := 5) (by decide) rfl (Nat.le_of_ble_eq_true rfl) ?_
  intro p e s m args below meth c A H locs ls hx hb hr hml hown hts hlocks hexc hEV hZ hA hS hP hK hD hl
  have hl : lv_has ls 5 [(0, .ref (a 0)), (1, .int t), (2, .int b), (3, .int fr), (4, .int to)] := hl
  refine lv_aload_n hx hb dX5_canBook_0 rfl (lv_at hl 0 rfl) ?_
  refine lv_iload_n hx hb dX5_canBook_1 rfl (lv_at hl 1 rfl) ?_
  by_cases g_2 : tr n t
  · skip
    refine MV.callV (As := [.int t]) (rest := []) ⟨hx, hb, hml, hown, hts⟩ (c_X5_needTrain_ok l D cI cZ a H.size σ t n hn hn4 g_2) (cwV 1 hts gX5_canBook_X5_needTrain rfl rfl rfl (by decide +kernel) ⟨Nat.le_of_ble_eq_true rfl, Nat.le_of_ble_eq_true rfl⟩) hP hK hD hS hA (va_recv hK hP (ci := 5) (q0 := 0) rfl rfl) rfl hl.1 (Nat.le_of_ble_eq_true rfl) (Nat.zero_le _) (Nat.zero_le _) dX5_canBook_2 rfl (fun u_2 H locs h_2 hP hD hS => ?_)
    have e_2 := h_2
    have e_2 := Eq.symm e_2
    subst e_2
    refine lv_iload_n hx hb dX5_canBook_5 rfl (lv_at hl 2 rfl) ?_
    by_cases g_6 : inR b 0 7
    · skip
      refine MV.callS (As := [.int b]) (rest := []) ⟨hx, hb, hml, hown, hts⟩ (c_X5_needBlock_ok l D cI cZ a H.size σ b g_6) (va_cwS 1 hts gX5_canBook_X5_needBlock rfl rfl rfl (by decide +kernel) ⟨Nat.le_of_ble_eq_true rfl, Nat.le_of_ble_eq_true rfl⟩) hP hK hD hS hA rfl hl.1 (Nat.le_of_ble_eq_true rfl) (Nat.zero_le _) (Nat.zero_le _) dX5_canBook_6 rfl (fun u_6 H locs h_6 hP hD hS => ?_)
      have e_6 := h_6
      have e_6 := Eq.symm e_6
      subst e_6
      refine lv_iconst (v := 0) hx hb dX5_canBook_9 (by decide) ?_
      refine lv_iload_n hx hb dX5_canBook_10 rfl (lv_at hl 3 rfl) ?_
      refine lv_iload hx hb dX5_canBook_11 (lv_at hl 4 rfl) ?_
      by_cases g_13 : inR fr 0 5000 ∧ inR to fr 5000
      · skip
        refine MV.callS (As := [.int 0, .int fr, .int to]) (rest := []) ⟨hx, hb, hml, hown, hts⟩ (c_X5_needSpan_ok l D cI cZ a H.size σ 0 fr to g_13) (va_cwS 3 hts gX5_canBook_X5_needSpan rfl rfl rfl (by decide +kernel) ⟨Nat.le_of_ble_eq_true rfl, Nat.le_of_ble_eq_true rfl⟩) hP hK hD hS hA rfl hl.1 (Nat.le_of_ble_eq_true rfl) (Nat.zero_le _) (Nat.zero_le _) dX5_canBook_13 rfl (fun u_13 H locs h_13 hP hD hS => ?_)
        have e_13 := h_13
        have e_13 := Eq.symm e_13
        subst e_13
        refine lv_aload_n hx hb dX5_canBook_16 rfl (lv_at hl 0 rfl) ?_
        refine va_get (D := D) (ci := 5) (v := .ref (a 13)) (C := RX5) (T := TX5) (N := 8) hx hb hts in_X5_canBook_X5 hown hK hP 0 rfl rfl 3 (by decide) (hts (.fieldLink RX5 29 "Warpyard" "bookings" "LWarpyard$Bookings;") (by decide +kernel)) (fun _ h9 => h9) rfl dX5_canBook_17 ?_
        refine lv_iload_n hx hb dX5_canBook_20 rfl (lv_at hl 1 rfl) ?_
        refine lv_iload_n hx hb dX5_canBook_21 rfl (lv_at hl 2 rfl) ?_
        refine lv_iload_n hx hb dX5_canBook_22 rfl (lv_at hl 3 rfl) ?_
        refine lv_iload hx hb dX5_canBook_23 (lv_at hl 4 rfl) ?_
        refine MI.callV (As := [.int t, .int b, .int fr, .int to]) (rest := []) ⟨hx, hb, hml, hown, hts⟩ (c_X0_meetsAnother l D cI cZ a H.size σ t b fr to nb hnb hnb30) (cwV 4 hts gX5_canBook_X0_meetsAnother rfl rfl rfl (by decide +kernel) ⟨Nat.le_of_ble_eq_true rfl, Nat.le_of_ble_eq_true rfl⟩) hP hK hD hS hA (va_recv hK hP (ci := 0) (q0 := 13) rfl rfl) rfl hl.1 (Nat.le_of_ble_eq_true rfl) (Nat.zero_le _) (Nat.zero_le _) dX5_canBook_25 rfl (fun r_25 u_25 H locs h_25 hP hD hS => ?_)
        rcases h_25 with ⟨e_25, ⟨rfl, h_25⟩ | ⟨rfl, h_25⟩⟩
        · skip
          have e_25 := Eq.symm e_25
          subst e_25
          have h_25 : mts (σ 14) (σ 15) (σ 16) (σ 17) nb t b fr to := h_25
          refine lv_if_ne (tgt := 35) hx hb dX5_canBook_28 (by decide) (fun _ => ?_) (fun c9 => absurd c9 (by decide))
          refine lv_iconst (v := 0) hx hb dX5_canBook_35 (by decide) ?_
          exact XI.zret hx hb hr hlocks hK hP hD hS dX5_canBook_36 rfl (by exact ⟨by rw [cdCan, cif_t ⟨g_2, g_6⟩, cif_t g_13], rfl, (bI_f (fun h => h h_25)).symm⟩)
        · skip
          have e_25 := Eq.symm e_25
          subst e_25
          have h_25 : ¬ mts (σ 14) (σ 15) (σ 16) (σ 17) nb t b fr to := h_25
          refine lv_if_ne (tgt := 35) hx hb dX5_canBook_28 (by decide) (fun c9 => absurd (by decide) c9) (fun _ => ?_)
          refine lv_iconst (v := 1) hx hb dX5_canBook_31 (by decide) ?_
          refine lv_goto (tgt := 36) hx hb dX5_canBook_32 (by decide) ?_
          exact XI.zret hx hb hr hlocks hK hP hD hS dX5_canBook_36 rfl (by exact ⟨by rw [cdCan, cif_t ⟨g_2, g_6⟩, cif_t g_13], rfl, (bI_t h_25).symm⟩)
      · skip
        exact XV.outS (As := [.int 0, .int fr, .int to]) (rest := []) ⟨hx, hb, hml, hown, hts⟩ (c_X5_needSpan_bad l D cI cZ a H.size σ hfl 0 fr to g_13) (va_cwS 3 hts gX5_canBook_X5_needSpan rfl rfl rfl (by decide +kernel) ⟨Nat.le_of_ble_eq_true rfl, Nat.le_of_ble_eq_true rfl⟩) hP hK hD hS hA hEV hZ rfl hl.1 (Nat.le_of_ble_eq_true rfl) (Nat.le_of_ble_eq_true rfl) (Nat.le_of_ble_eq_true rfl) dX5_canBook_13 rfl hlocks hexc (fun E hE => Or.inr ⟨hE, by rw [cdCan, cif_t ⟨g_2, g_6⟩, cif_f g_13]⟩)
    · skip
      exact XV.outS (As := [.int b]) (rest := []) ⟨hx, hb, hml, hown, hts⟩ (c_X5_needBlock_bad l D cI cZ a H.size σ hfl b g_6) (va_cwS 1 hts gX5_canBook_X5_needBlock rfl rfl rfl (by decide +kernel) ⟨Nat.le_of_ble_eq_true rfl, Nat.le_of_ble_eq_true rfl⟩) hP hK hD hS hA hEV hZ rfl hl.1 (Nat.le_of_ble_eq_true rfl) (Nat.le_of_ble_eq_true rfl) (Nat.le_of_ble_eq_true rfl) dX5_canBook_6 rfl hlocks hexc (fun E hE => Or.inl ⟨hE, by rw [cdCan, cif_f (fun h => g_6 h.2)]⟩)
  · skip
    exact XV.outV (As := [.int t]) (rest := []) ⟨hx, hb, hml, hown, hts⟩ (c_X5_needTrain_bad l D cI cZ a H.size σ hfl t n hn hn4 g_2) (cwV 1 hts gX5_canBook_X5_needTrain rfl rfl rfl (by decide +kernel) ⟨Nat.le_of_ble_eq_true rfl, Nat.le_of_ble_eq_true rfl⟩) hP hK hD hS hA hEV hZ (va_recv hK hP (ci := 5) (q0 := 0) rfl rfl) rfl hl.1 (Nat.le_of_ble_eq_true rfl) (Nat.le_of_ble_eq_true rfl) (Nat.le_of_ble_eq_true rfl) dX5_canBook_2 rfl hlocks hexc (fun E hE => Or.inl ⟨hE, by rw [cdCan, cif_f (fun h => g_2 h.1)]⟩)
set_option maxRecDepth 20000 in
theorem in_X5_booking_X0 : ∀ w ∈ wsX00, w ∈ wsX5_booking := by decide +kernel
set_option maxRecDepth 20000 in
theorem in_X5_booking_X5 : ∀ w ∈ wsX50, w ∈ wsX5_booking := by decide +kernel
set_option maxHeartbeats 4000000 in
set_option maxRecDepth 100000 in
/-- Warpyard.booking -/
theorem c_X5_booking (l : Launch) (D : va_G) (cI cZ : ClassId) (a : Nat → Nat) (sz : Nat) (σ : St) (hfl : l.stackTraces = false) (t : Int32) (nb : Nat) (hnb : σ 13 0 = nI nb) (hnb30 : nb ≤ 30) : XI l yX5_booking wsX5_booking ({ frames := 8, cells := 1, slots := 6, locals := 131 }) D (ty2 cI cZ) (wX cI cZ a) [.ref (a 0), .int t] σ sz (fun r u => cdTr nb t = 0 ∧ u = σ ∧ r = (if σ 18 t.toNatClampNeg = -1 then (if σ 17 t.toNatClampNeg < σ 0 0 then 2 else 0) else 1)) (x1 (cdTr nb t)) := by
  refine XI.of (cc := cX5_booking) (maxL := 2) (by decide) rfl (Nat.le_of_ble_eq_true rfl) ?_
  intro p e s m args below meth c A H locs ls hx hb hr hml hown hts hlocks hexc hEV hZ hA hS hP hK hD hl
  have hl : lv_has ls 2 [(0, .ref (a 0)), (1, .int t)] := hl
  refine lv_aload_n hx hb dX5_booking_0 rfl (lv_at hl 0 rfl) ?_
  refine lv_iload_n hx hb dX5_booking_1 rfl (lv_at hl 1 rfl) ?_
  by_cases g_2 : tr nb t
  · skip
    refine MV.callV (As := [.int t]) (rest := []) ⟨hx, hb, hml, hown, hts⟩ (c_X5_needBooking_ok l D cI cZ a H.size σ t nb hnb hnb30 g_2) (cwV 1 hts gX5_booking_X5_needBooking rfl rfl rfl (by decide +kernel) ⟨Nat.le_of_ble_eq_true rfl, Nat.le_of_ble_eq_true rfl⟩) hP hK hD hS hA (va_recv hK hP (ci := 5) (q0 := 0) rfl rfl) rfl hl.1 (Nat.le_of_ble_eq_true rfl) (Nat.zero_le _) (Nat.zero_le _) dX5_booking_2 rfl (fun u_2 H locs h_2 hP hD hS => ?_)
    have e_2 := h_2
    have e_2 := Eq.symm e_2
    subst e_2
    obtain ⟨k, hk, rfl⟩ := id g_2
    refine lv_aload_n hx hb dX5_booking_5 rfl (lv_at hl 0 rfl) ?_
    refine va_get (D := D) (ci := 5) (v := .ref (a 13)) (C := RX5) (T := TX5) (N := 8) hx hb hts in_X5_booking_X5 hown hK hP 0 rfl rfl 3 (by decide) (hts (.fieldLink RX5 29 "Warpyard" "bookings" "LWarpyard$Bookings;") (by decide +kernel)) (fun _ h9 => h9) rfl dX5_booking_6 ?_
    refine va_get (D := D) (ci := 0) (v := .ref (a 18)) (C := RX0) (T := TX0) (N := 6) hx hb hts in_X5_booking_X0 hown hK hP 13 rfl rfl 4 (by decide) (hts (.fieldLink RX5 147 "Warpyard$Bookings" "lateness" "[I") (by decide +kernel)) (fun _ h9 => h9) rfl dX5_booking_9 ?_
    refine lv_iload_n hx hb dX5_booking_12 rfl (lv_at hl 1 rfl) ?_
    refine na_iald hx hb hK hP 18 0 (f := (σ 18)) rfl rfl k (by omega) (by decide) rfl dX5_booking_13 ?_
    refine lv_iconst (v := (-1)) hx hb dX5_booking_14 (by decide) ?_
    refine lv_icmp_eq (tgt := 20) hx hb dX5_booking_15 (by decide) (fun c_15 => ?_) (fun c_15 => ?_)
    · skip
      refine lv_aload_n hx hb dX5_booking_20 rfl (lv_at hl 0 rfl) ?_
      refine va_get (D := D) (ci := 5) (v := .ref (a 13)) (C := RX5) (T := TX5) (N := 8) hx hb hts in_X5_booking_X5 hown hK hP 0 rfl rfl 3 (by decide) (hts (.fieldLink RX5 29 "Warpyard" "bookings" "LWarpyard$Bookings;") (by decide +kernel)) (fun _ h9 => h9) rfl dX5_booking_21 ?_
      refine va_get (D := D) (ci := 0) (v := .ref (a 17)) (C := RX0) (T := TX0) (N := 6) hx hb hts in_X5_booking_X0 hown hK hP 13 rfl rfl 3 (by decide) (hts (.fieldLink RX5 150 "Warpyard$Bookings" "last" "[I") (by decide +kernel)) (fun _ h9 => h9) rfl dX5_booking_24 ?_
      refine lv_iload_n hx hb dX5_booking_27 rfl (lv_at hl 1 rfl) ?_
      refine na_iald hx hb hK hP 17 0 (f := (σ 17)) rfl rfl k (by omega) (by decide) rfl dX5_booking_28 ?_
      refine lv_aload_n hx hb dX5_booking_29 rfl (lv_at hl 0 rfl) ?_
      refine va_get (D := D) (ci := 5) (v := .int (σ 0 0)) (C := RX5) (T := TX5) (N := 8) hx hb hts in_X5_booking_X5 hown hK hP 0 rfl rfl 6 (by decide) (hts (.fieldLink RX5 109 "Warpyard" "now" "I") (by decide +kernel)) (fun _ h9 => h9) rfl dX5_booking_30 ?_
      refine lv_icmp_ge (tgt := 40) hx hb dX5_booking_33 (by decide) (fun c_33 => ?_) (fun c_33 => ?_)
      · skip
        refine lv_iconst (v := 0) hx hb dX5_booking_40 (by decide) ?_
        exact XI.ret hx hb hr hlocks hK hP hD hS dX5_booking_41 (by rw [nI_clamp (show k < 2 ^ 31 by omega)]; exact ⟨cif_t g_2, rfl, by rw [if_pos c_15, if_neg (le_nlt.mp c_33)]⟩)
      · skip
        refine lv_iconst (v := 2) hx hb dX5_booking_36 (by decide) ?_
        refine lv_goto (tgt := 41) hx hb dX5_booking_37 (by decide) ?_
        exact XI.ret hx hb hr hlocks hK hP hD hS dX5_booking_41 (by rw [nI_clamp (show k < 2 ^ 31 by omega)]; exact ⟨cif_t g_2, rfl, by rw [if_pos c_15, if_pos (nle_lt c_33)]⟩)
    · skip
      refine lv_iconst (v := 1) hx hb dX5_booking_18 (by decide) ?_
      exact XI.ret hx hb hr hlocks hK hP hD hS dX5_booking_19 (by rw [nI_clamp (show k < 2 ^ 31 by omega)]; exact ⟨cif_t g_2, rfl, by rw [if_neg c_15]⟩)
  · skip
    exact XV.outV (As := [.int t]) (rest := []) ⟨hx, hb, hml, hown, hts⟩ (c_X5_needBooking_bad l D cI cZ a H.size σ hfl t nb hnb hnb30 g_2) (cwV 1 hts gX5_booking_X5_needBooking rfl rfl rfl (by decide +kernel) ⟨Nat.le_of_ble_eq_true rfl, Nat.le_of_ble_eq_true rfl⟩) hP hK hD hS hA hEV hZ (va_recv hK hP (ci := 5) (q0 := 0) rfl rfl) rfl hl.1 (Nat.le_of_ble_eq_true rfl) (Nat.le_of_ble_eq_true rfl) (Nat.le_of_ble_eq_true rfl) dX5_booking_2 rfl hlocks hexc (fun E hE => ⟨hE, cif_f g_2⟩)
set_option maxRecDepth 20000 in
theorem in_X5_late_X0 : ∀ w ∈ wsX00, w ∈ wsX5_late := by decide +kernel
set_option maxRecDepth 20000 in
theorem in_X5_late_X5 : ∀ w ∈ wsX50, w ∈ wsX5_late := by decide +kernel
set_option maxHeartbeats 4000000 in
set_option maxRecDepth 100000 in
/-- Warpyard.late -/
theorem c_X5_late (l : Launch) (D : va_G) (cI cZ : ClassId) (a : Nat → Nat) (sz : Nat) (σ : St) (hfl : l.stackTraces = false) (t : Int32) (nb : Nat) (hnb : σ 13 0 = nI nb) (hnb30 : nb ≤ 30) : XI l yX5_late wsX5_late ({ frames := 8, cells := 1, slots := 6, locals := 131 }) D (ty2 cI cZ) (wX cI cZ a) [.ref (a 0), .int t] σ sz (fun r u => cdTr nb t = 0 ∧ u = σ ∧ r = σ 18 t.toNatClampNeg) (x1 (cdTr nb t)) := by
  refine XI.of (cc := cX5_late) (maxL := 2) (by decide) rfl (Nat.le_of_ble_eq_true rfl) ?_
  intro p e s m args below meth c A H locs ls hx hb hr hml hown hts hlocks hexc hEV hZ hA hS hP hK hD hl
  have hl : lv_has ls 2 [(0, .ref (a 0)), (1, .int t)] := hl
  refine lv_aload_n hx hb dX5_late_0 rfl (lv_at hl 0 rfl) ?_
  refine lv_iload_n hx hb dX5_late_1 rfl (lv_at hl 1 rfl) ?_
  by_cases g_2 : tr nb t
  · skip
    refine MV.callV (As := [.int t]) (rest := []) ⟨hx, hb, hml, hown, hts⟩ (c_X5_needBooking_ok l D cI cZ a H.size σ t nb hnb hnb30 g_2) (cwV 1 hts gX5_late_X5_needBooking rfl rfl rfl (by decide +kernel) ⟨Nat.le_of_ble_eq_true rfl, Nat.le_of_ble_eq_true rfl⟩) hP hK hD hS hA (va_recv hK hP (ci := 5) (q0 := 0) rfl rfl) rfl hl.1 (Nat.le_of_ble_eq_true rfl) (Nat.zero_le _) (Nat.zero_le _) dX5_late_2 rfl (fun u_2 H locs h_2 hP hD hS => ?_)
    have e_2 := h_2
    have e_2 := Eq.symm e_2
    subst e_2
    obtain ⟨k, hk, rfl⟩ := id g_2
    refine lv_aload_n hx hb dX5_late_5 rfl (lv_at hl 0 rfl) ?_
    refine va_get (D := D) (ci := 5) (v := .ref (a 13)) (C := RX5) (T := TX5) (N := 8) hx hb hts in_X5_late_X5 hown hK hP 0 rfl rfl 3 (by decide) (hts (.fieldLink RX5 29 "Warpyard" "bookings" "LWarpyard$Bookings;") (by decide +kernel)) (fun _ h9 => h9) rfl dX5_late_6 ?_
    refine va_get (D := D) (ci := 0) (v := .ref (a 18)) (C := RX0) (T := TX0) (N := 6) hx hb hts in_X5_late_X0 hown hK hP 13 rfl rfl 4 (by decide) (hts (.fieldLink RX5 147 "Warpyard$Bookings" "lateness" "[I") (by decide +kernel)) (fun _ h9 => h9) rfl dX5_late_9 ?_
    refine lv_iload_n hx hb dX5_late_12 rfl (lv_at hl 1 rfl) ?_
    refine na_iald hx hb hK hP 18 0 (f := (σ 18)) rfl rfl k (by omega) (by decide) rfl dX5_late_13 ?_
    exact XI.ret hx hb hr hlocks hK hP hD hS dX5_late_14 (by rw [nI_clamp (show k < 2 ^ 31 by omega)]; exact ⟨cif_t g_2, rfl, rfl⟩)
  · skip
    exact XV.outV (As := [.int t]) (rest := []) ⟨hx, hb, hml, hown, hts⟩ (c_X5_needBooking_bad l D cI cZ a H.size σ hfl t nb hnb hnb30 g_2) (cwV 1 hts gX5_late_X5_needBooking rfl rfl rfl (by decide +kernel) ⟨Nat.le_of_ble_eq_true rfl, Nat.le_of_ble_eq_true rfl⟩) hP hK hD hS hA hEV hZ (va_recv hK hP (ci := 5) (q0 := 0) rfl rfl) rfl hl.1 (Nat.le_of_ble_eq_true rfl) (Nat.le_of_ble_eq_true rfl) (Nat.le_of_ble_eq_true rfl) dX5_late_2 rfl hlocks hexc (fun E hE => ⟨hE, cif_f g_2⟩)
end
section
theorem ten_tr {n : Nat} {w : Int32} (hn : n ≤ 4) (h1 : ¬ w < 10) (h2 : w < nI (10 + n)) : ∃ k, k < n ∧ w - 10 = nI k := by
  have h0 : ¬ w < 0 := by
    rw [Int32.lt_iff_toInt_lt] at h1 ⊢
    have e1 : (10 : Int32).toInt = 10 := rfl
    have e0 : (0 : Int32).toInt = 0 := rfl
    omega
  obtain ⟨j, hj, rfl⟩ := nI_of h0
  rw [show (10 : Int32) = nI 10 from rfl, nI_ltI hj (by omega)] at h1
  rw [nI_ltI hj (by omega)] at h2
  exact ⟨j - 10, by omega, by rw [show (10 : Int32) = nI 10 from rfl, pk_sub (by omega)]⟩
theorem ten_w {n : Nat} {w : Int32} (h : tr n (w - 10)) : ∃ k, k < n ∧ w = nI (10 + k) := by
  obtain ⟨k, hk, e⟩ := h
  refine ⟨k, hk, ?_⟩
  have e2 : w = w - 10 + 10 := (Int32.sub_add_cancel w 10).symm
  rw [e2, e, show (10 : Int32) = nI 10 from rfl, nI_add, Nat.add_comm]
theorem ten_1 {n : Nat} {w : Int32} (hn : n ≤ 4) (h : tr n (w - 10)) : ¬ w < 10 := by
  obtain ⟨k, hk, rfl⟩ := ten_w h
  rw [show (10 : Int32) = nI 10 from rfl, nI_ltI (by omega) (by omega)]
  omega
theorem ten_2 {n : Nat} {w : Int32} (hn : n ≤ 4) (h : tr n (w - 10)) : w < nI (10 + n) := by
  obtain ⟨k, hk, rfl⟩ := ten_w h
  rw [nI_ltI (by omega) (by omega)]
  omega
theorem sq_blk {σ : St} {n nb : Nat} (h : ∀ i, i < n → blk (σ 4 i)) : ∀ j i, i < n → blk ((sq σ n nb j).1 i)
  | 0, i, hi => h i hi
  | j + 1, i, hi => mvs_blk (fun i hi => sq_blk h j i hi) n i hi (Nat.le_refl n)
theorem mi_e (a : Int32) (k : Nat) : a + nI (k + 1) - 1 = a + nI k := by
  rw [nI_succ, ← Int32.add_assoc, Int32.add_sub_cancel]
end
section
set_option maxRecDepth 20000 in
theorem in_X5_waggonAt_X3 : ∀ w ∈ wsX30, w ∈ wsX5_waggonAt := by decide +kernel
set_option maxRecDepth 20000 in
theorem in_X5_waggonAt_X5 : ∀ w ∈ wsX50, w ∈ wsX5_waggonAt := by decide +kernel
set_option maxRecDepth 20000 in
theorem k_X5_waggonAt_95 : Cond.classLink RX5 95 "java/lang/IndexOutOfBoundsException" ∈ wsX5_waggonAt := by decide +kernel
set_option maxRecDepth 20000 in
theorem j_X5_waggonAt_95 : Cond.initialized "java/lang/IndexOutOfBoundsException" ∈ wsX5_waggonAt := by decide +kernel
set_option maxRecDepth 20000 in
theorem v_X5_waggonAt_95 : ∀ w ∈ (vx_atS RX5 99 "java/lang/IndexOutOfBoundsException" xnames).filter goodWord, w ∈ wsX5_waggonAt := by decide +kernel
theorem w_X5_waggonAt_95 {s : State} {args : Array Value} (hts : ∀ w ∈ wsX5_waggonAt, w.before args s = true) (hEV : EV s) : ∀ w ∈ vx_atS RX5 99 "java/lang/IndexOutOfBoundsException" xnames, w.before args s = true := vx_hat (fun w h => hts w (v_X5_waggonAt_95 w h)) (B := EVw) (by decide +kernel) (fun w h => va_Nw.use (EV.tab (s := s) w h) (hEV.1 w h))
theorem o_X5_waggonAt_95 : ∀ w ∈ Cond.classLink RX5 95 "java/lang/IndexOutOfBoundsException" :: Cond.initialized "java/lang/IndexOutOfBoundsException" :: vx_atS RX5 99 "java/lang/IndexOutOfBoundsException" xnames, vx_ot w = true := by decide +kernel
set_option maxHeartbeats 4000000 in
set_option maxRecDepth 100000 in
/-- Warpyard.waggonAt -/
theorem c_X5_waggonAt (l : Launch) (D : va_G) (cI cZ : ClassId) (a : Nat → Nat) (sz : Nat) (σ : St) (hfl : l.stackTraces = false) (w pl : Int32) (n : Nat) (hn : σ 3 0 = nI n) (hn4 : n ≤ 4) (nw : Nat) (Z : Nat → Nat) (J : Nat → Nat → Nat) (hnw : σ 19 0 = nI nw) (hnw8 : nw ≤ 8) (hQ : ∀ r, r < 6 → σ 21 r = nI (Z r) ∧ Z r ≤ 8) (hJ : ∀ r, r < 6 → ∀ p, p < Z r → σ 22 (r * 8 + p) = nI (J r p) ∧ J r p < 8) : XI l yX5_waggonAt wsX5_waggonAt ({ frames := 7, cells := 1, slots := 6, locals := 110 }) D (ty2 cI cZ) (wX cI cZ a) [.ref (a 0), .int w, .int pl] σ sz (fun r u => cdAt n w pl = 0 ∧ u = σ ∧ r = waJ Z J w pl) (x1 (cdAt n w pl)) := by
  refine XI.of (cc := cX5_waggonAt) (maxL := 4) (by decide) rfl (Nat.le_of_ble_eq_true rfl) ?_
  intro p e s m args below meth c A H locs ls hx hb hr hml hown hts hlocks hexc hEV hZ hA hS hP hK hD hl
  have hl : lv_has ls 4 [(0, .ref (a 0)), (1, .int w), (2, .int pl)] := hl
  refine lv_iload_n hx hb dX5_waggonAt_0 rfl (lv_at hl 1 rfl) ?_
  refine MI.callS (As := [.int w]) (rest := []) ⟨hx, hb, hml, hown, hts⟩ (c_X5_isSiding l D cI cZ a H.size σ w) (va_cwS 1 hts gX5_waggonAt_X5_isSiding rfl rfl rfl (by decide +kernel) ⟨Nat.le_of_ble_eq_true rfl, Nat.le_of_ble_eq_true rfl⟩) hP hK hD hS hA rfl hl.1 (Nat.le_of_ble_eq_true rfl) (Nat.zero_le _) (Nat.zero_le _) dX5_waggonAt_1 rfl (fun r_1 u_1 H locs h_1 hP hD hS => ?_)
  rcases h_1 with ⟨e_1, ⟨rfl, h_1⟩ | ⟨rfl, h_1⟩⟩
  · skip
    have e_1 := Eq.symm e_1
    subst e_1
    have h_1 : inR w 6 7 := h_1
    refine lv_istore_n (lv' := [(3, .int 1), (0, .ref (a 0)), (1, .int w), (2, .int pl)]) hx hb dX5_waggonAt_4 rfl hl (by decide) rfl (fun ls hl => ?_)
    refine lv_iload_n hx hb dX5_waggonAt_5 rfl (lv_at hl 0 rfl) ?_
    refine lv_if_ne (tgt := 39) hx hb dX5_waggonAt_6 (by decide) (fun _ => ?_) (fun c9 => absurd c9 (by decide))
    refine lv_iload_n hx hb dX5_waggonAt_39 rfl (lv_at hl 3 rfl) ?_
    refine lv_if_ge (tgt := 53) hx hb dX5_waggonAt_40 (by decide) (fun c_40 => ?_) (fun c_40 => ?_)
    · skip
      refine lv_iload_n hx hb dX5_waggonAt_53 rfl (lv_at hl 0 rfl) ?_
      refine lv_if_eq (tgt := 70) hx hb dX5_waggonAt_54 (by decide) (fun c9 => absurd c9 (by decide)) (fun _ => ?_)
      refine lv_aload_n hx hb dX5_waggonAt_57 rfl (lv_at hl 1 rfl) ?_
      refine va_get (D := D) (ci := 5) (v := .ref (a 19)) (C := RX5) (T := TX5) (N := 8) hx hb hts in_X5_waggonAt_X5 hown hK hP 0 rfl rfl 4 (by decide) (hts (.fieldLink RX5 36 "Warpyard" "waggons" "LWarpyard$Waggons;") (by decide +kernel)) (fun _ h9 => h9) rfl dX5_waggonAt_58 ?_
      refine lv_iload_n hx hb dX5_waggonAt_61 rfl (lv_at hl 2 rfl) ?_
      refine MI.callS (As := [.int w]) (rest := [.ref (a 19)]) ⟨hx, hb, hml, hown, hts⟩ (c_X4_rowOfSiding l D cI cZ a H.size σ w) (va_cwS 1 hts gX5_waggonAt_X4_rowOfSiding rfl rfl rfl (by decide +kernel) ⟨Nat.le_of_ble_eq_true rfl, Nat.le_of_ble_eq_true rfl⟩) hP hK hD hS hA rfl hl.1 (Nat.le_of_ble_eq_true rfl) (Nat.zero_le _) (Nat.zero_le _) dX5_waggonAt_62 rfl (fun r_62 u_62 H locs h_62 hP hD hS => ?_)
      obtain ⟨e_62, h_62⟩ := h_62
      have e_62 := Eq.symm e_62
      subst e_62
      refine lv_topi (fun v_65 e_65 => ?_)
      obtain rfl : v_65 = nI (sR w) := by rw [e_65]; exact h_62.trans (sR_e h_1)
      refine lv_iload_n hx hb dX5_waggonAt_65 rfl (lv_at hl 3 rfl) ?_
      refine MI.callV (As := [.int (nI (sR w)), .int pl]) (rest := []) ⟨hx, hb, hml, hown, hts⟩ (c_X4_fromLast l D cI cZ a H.size σ (sR w) (Z (sR w)) pl (sR_6 h_1) (hQ (sR w) (sR_6 h_1)).1 (hQ (sR w) (sR_6 h_1)).2 (le_nlt.mp c_40)) (cwV 2 hts gX5_waggonAt_X4_fromLast rfl rfl rfl (by decide +kernel) ⟨Nat.le_of_ble_eq_true rfl, Nat.le_of_ble_eq_true rfl⟩) hP hK hD hS hA (va_recv hK hP (ci := 4) (q0 := 19) rfl rfl) rfl hl.1 (Nat.le_of_ble_eq_true rfl) (Nat.zero_le _) (Nat.zero_le _) dX5_waggonAt_66 rfl (fun r_66 u_66 H locs h_66 hP hD hS => ?_)
      obtain ⟨e_66, h_66⟩ := h_66
      have e_66 := Eq.symm e_66
      subst e_66
      have h_66 : r_66 = fLa (σ 22) (sR w) (Z (sR w)) pl := h_66
      exact XI.ret hx hb hr hlocks hK hP hD hS dX5_waggonAt_69 (by exact ⟨cif_t ⟨Or.inl h_1, le_nlt.mp c_40⟩, rfl, by rw [waJ, cif_t h_1, h_66]; exact fLa_J (le_nlt.mp c_40) (by have := (hQ (sR w) (sR_6 h_1)).2; omega) (fun p hp => (hJ (sR w) (sR_6 h_1) p hp).1)⟩)
    · skip
      exact X.throwS (cls := "java/lang/IndexOutOfBoundsException") (text := "place is below 0") (names := xnames) (ik := 95) (is := 217) (ic := 99) hx hb hfl hown (by decide +kernel) (by decide +kernel) (hts _ k_X5_waggonAt_95) (hts _ j_X5_waggonAt_95) (by decide +kernel) (w_X5_waggonAt_95 hts hEV) o_X5_waggonAt_95 hEV hZ hK hP hD hS (hl.1.trans hml.symm) dX5_waggonAt_43 dX5_waggonAt_46 dX5_waggonAt_47 dX5_waggonAt_49 dX5_waggonAt_52 hexc (Nat.le_of_ble_eq_true rfl) (Nat.le_of_ble_eq_true rfl) (Nat.le_of_ble_eq_true rfl) (Nat.le_of_ble_eq_true rfl) hlocks (⟨rfl, cif_f (fun h => c_40 (le_nlt.mpr h.2))⟩)
  · skip
    have e_1 := Eq.symm e_1
    subst e_1
    have h_1 : ¬ inR w 6 7 := h_1
    refine lv_istore_n (lv' := [(3, .int 0), (0, .ref (a 0)), (1, .int w), (2, .int pl)]) hx hb dX5_waggonAt_4 rfl hl (by decide) rfl (fun ls hl => ?_)
    refine lv_iload_n hx hb dX5_waggonAt_5 rfl (lv_at hl 0 rfl) ?_
    refine lv_if_ne (tgt := 39) hx hb dX5_waggonAt_6 (by decide) (fun c9 => absurd (by decide) c9) (fun _ => ?_)
    refine lv_iload_n hx hb dX5_waggonAt_9 rfl (lv_at hl 2 rfl) ?_
    refine lv_bipush (v := 10) hx hb dX5_waggonAt_10 (by decide) ?_
    refine lv_icmp_lt (tgt := 29) hx hb dX5_waggonAt_12 (by decide) (fun c_12 => ?_) (fun c_12 => ?_)
    · skip
      exact X.throwS (cls := "java/lang/IndexOutOfBoundsException") (text := "no such siding or train") (names := xnames) (ik := 95) (is := 215) (ic := 99) hx hb hfl hown (by decide +kernel) (by decide +kernel) (hts _ k_X5_waggonAt_95) (hts _ j_X5_waggonAt_95) (by decide +kernel) (w_X5_waggonAt_95 hts hEV) o_X5_waggonAt_95 hEV hZ hK hP hD hS (hl.1.trans hml.symm) dX5_waggonAt_29 dX5_waggonAt_32 dX5_waggonAt_33 dX5_waggonAt_35 dX5_waggonAt_38 hexc (Nat.le_of_ble_eq_true rfl) (Nat.le_of_ble_eq_true rfl) (Nat.le_of_ble_eq_true rfl) (Nat.le_of_ble_eq_true rfl) hlocks (⟨rfl, cif_f (fun h => h.1.elim h_1 (fun q => ten_1 (by omega) q c_12))⟩)
    · skip
      refine lv_iload_n hx hb dX5_waggonAt_15 rfl (lv_at hl 2 rfl) ?_
      refine lv_bipush (v := 10) hx hb dX5_waggonAt_16 (by decide) ?_
      refine lv_aload_n hx hb dX5_waggonAt_18 rfl (lv_at hl 1 rfl) ?_
      refine va_get (D := D) (ci := 5) (v := .ref (a 3)) (C := RX5) (T := TX5) (N := 8) hx hb hts in_X5_waggonAt_X5 hown hK hP 0 rfl rfl 1 (by decide) (hts (.fieldLink RX5 19 "Warpyard" "trains" "LWarpyard$Trains;") (by decide +kernel)) (fun _ h9 => h9) rfl dX5_waggonAt_19 ?_
      refine va_get (D := D) (ci := 3) (v := .int (σ 3 0)) (C := RX3) (T := TX3) (N := 5) hx hb hts in_X5_waggonAt_X3 hown hK hP 3 rfl rfl 4 (by decide) (hts (.fieldLink RX5 51 "Warpyard$Trains" "count" "I") (by decide +kernel)) (fun _ h9 => h9) rfl dX5_waggonAt_22 ?_
      refine lv_topi (fun v_25 e_25 => ?_)
      obtain rfl : v_25 = nI n := by rw [e_25]; exact hn
      refine lv_iadd hx hb dX5_waggonAt_25 ?_
      refine lv_topi (fun v_26 e_26 => ?_)
      obtain rfl : v_26 = nI (10 + n) := by rw [e_26]; exact nI_add 10 n
      refine lv_icmp_lt (tgt := 39) hx hb dX5_waggonAt_26 (by decide) (fun c_26 => ?_) (fun c_26 => ?_)
      · skip
        refine lv_iload_n hx hb dX5_waggonAt_39 rfl (lv_at hl 3 rfl) ?_
        refine lv_if_ge (tgt := 53) hx hb dX5_waggonAt_40 (by decide) (fun c_40 => ?_) (fun c_40 => ?_)
        · skip
          refine lv_iload_n hx hb dX5_waggonAt_53 rfl (lv_at hl 0 rfl) ?_
          refine lv_if_eq (tgt := 70) hx hb dX5_waggonAt_54 (by decide) (fun _ => ?_) (fun c9 => absurd (by decide) c9)
          refine lv_aload_n hx hb dX5_waggonAt_70 rfl (lv_at hl 1 rfl) ?_
          refine va_get (D := D) (ci := 5) (v := .ref (a 19)) (C := RX5) (T := TX5) (N := 8) hx hb hts in_X5_waggonAt_X5 hown hK hP 0 rfl rfl 4 (by decide) (hts (.fieldLink RX5 36 "Warpyard" "waggons" "LWarpyard$Waggons;") (by decide +kernel)) (fun _ h9 => h9) rfl dX5_waggonAt_71 ?_
          refine lv_iload_n hx hb dX5_waggonAt_74 rfl (lv_at hl 2 rfl) ?_
          refine lv_bipush (v := 10) hx hb dX5_waggonAt_75 (by decide) ?_
          refine lv_isub hx hb dX5_waggonAt_77 ?_
          obtain ⟨k, hk, ek⟩ := ten_tr (by omega) c_12 c_26
          refine lv_topi (fun v_78 e_78 => ?_)
          obtain rfl : v_78 = nI k := by rw [e_78]; exact ek
          refine MI.callS (As := [.int (nI k)]) (rest := [.ref (a 19)]) ⟨hx, hb, hml, hown, hts⟩ (c_X4_rowOfTrain l D cI cZ a H.size σ (nI k)) (va_cwS 1 hts gX5_waggonAt_X4_rowOfTrain rfl rfl rfl (by decide +kernel) ⟨Nat.le_of_ble_eq_true rfl, Nat.le_of_ble_eq_true rfl⟩) hP hK hD hS hA rfl hl.1 (Nat.le_of_ble_eq_true rfl) (Nat.zero_le _) (Nat.zero_le _) dX5_waggonAt_78 rfl (fun r_78 u_78 H locs h_78 hP hD hS => ?_)
          obtain ⟨e_78, h_78⟩ := h_78
          have e_78 := Eq.symm e_78
          subst e_78
          refine lv_topi (fun v_81 e_81 => ?_)
          obtain rfl : v_81 = nI (2 + k) := by rw [e_81]; rw [h_78]; exact nI_add 2 k
          refine lv_iload_n hx hb dX5_waggonAt_81 rfl (lv_at hl 3 rfl) ?_
          refine MI.callV (As := [.int (nI (2 + k)), .int pl]) (rest := []) ⟨hx, hb, hml, hown, hts⟩ (c_X4_fromFirst l D cI cZ a H.size σ (2 + k) (Z (2 + k)) pl (by omega) (hQ (2 + k) (by omega)).1 (hQ (2 + k) (by omega)).2 (le_nlt.mp c_40)) (cwV 2 hts gX5_waggonAt_X4_fromFirst rfl rfl rfl (by decide +kernel) ⟨Nat.le_of_ble_eq_true rfl, Nat.le_of_ble_eq_true rfl⟩) hP hK hD hS hA (va_recv hK hP (ci := 4) (q0 := 19) rfl rfl) rfl hl.1 (Nat.le_of_ble_eq_true rfl) (Nat.zero_le _) (Nat.zero_le _) dX5_waggonAt_82 rfl (fun r_82 u_82 H locs h_82 hP hD hS => ?_)
          obtain ⟨e_82, h_82⟩ := h_82
          have e_82 := Eq.symm e_82
          subst e_82
          have h_82 : r_82 = fFi (σ 22) (2 + k) (Z (2 + k)) pl := h_82
          exact XI.ret hx hb hr hlocks hK hP hD hS dX5_waggonAt_85 (by exact ⟨cif_t ⟨Or.inr ⟨k, hk, ek⟩, le_nlt.mp c_40⟩, rfl, by rw [waJ, cif_f h_1, ek, nI_clamp (show k < 2 ^ 31 by omega), h_82]; exact fFi_J (le_nlt.mp c_40) (by have := (hQ (2 + k) (by omega)).2; omega) (fun p hp => (hJ (2 + k) (by omega) p hp).1)⟩)
        · skip
          exact X.throwS (cls := "java/lang/IndexOutOfBoundsException") (text := "place is below 0") (names := xnames) (ik := 95) (is := 217) (ic := 99) hx hb hfl hown (by decide +kernel) (by decide +kernel) (hts _ k_X5_waggonAt_95) (hts _ j_X5_waggonAt_95) (by decide +kernel) (w_X5_waggonAt_95 hts hEV) o_X5_waggonAt_95 hEV hZ hK hP hD hS (hl.1.trans hml.symm) dX5_waggonAt_43 dX5_waggonAt_46 dX5_waggonAt_47 dX5_waggonAt_49 dX5_waggonAt_52 hexc (Nat.le_of_ble_eq_true rfl) (Nat.le_of_ble_eq_true rfl) (Nat.le_of_ble_eq_true rfl) (Nat.le_of_ble_eq_true rfl) hlocks (⟨rfl, cif_f (fun h => c_40 (le_nlt.mpr h.2))⟩)
      · skip
        exact X.throwS (cls := "java/lang/IndexOutOfBoundsException") (text := "no such siding or train") (names := xnames) (ik := 95) (is := 215) (ic := 99) hx hb hfl hown (by decide +kernel) (by decide +kernel) (hts _ k_X5_waggonAt_95) (hts _ j_X5_waggonAt_95) (by decide +kernel) (w_X5_waggonAt_95 hts hEV) o_X5_waggonAt_95 hEV hZ hK hP hD hS (hl.1.trans hml.symm) dX5_waggonAt_29 dX5_waggonAt_32 dX5_waggonAt_33 dX5_waggonAt_35 dX5_waggonAt_38 hexc (Nat.le_of_ble_eq_true rfl) (Nat.le_of_ble_eq_true rfl) (Nat.le_of_ble_eq_true rfl) (Nat.le_of_ble_eq_true rfl) hlocks (⟨rfl, cif_f (fun h => h.1.elim h_1 (fun q => c_26 (ten_2 (by omega) q)))⟩)
end
section
set_option maxRecDepth 20000 in
theorem gX5_init_X2_init_n9 : GoodIn wsX5_init (wsX2_init) := ggX5_init_X2_init
set_option maxRecDepth 20000 in
theorem gX5_init_X3_init_n18 : GoodIn wsX5_init (wsX3_init) := ggX5_init_X3_init
set_option maxRecDepth 20000 in
theorem gX5_init_X0_init_n28 : GoodIn wsX5_init (wsX0_init) := ggX5_init_X0_init
set_option maxRecDepth 20000 in
theorem gX5_init_X4_init_n35 : GoodIn wsX5_init (wsX4_init) := ggX5_init_X4_init
set_option maxRecDepth 20000 in
theorem gX5_init_X1_init_n42 : GoodIn wsX5_init (wsX1_init) := ggX5_init_X1_init
end
section
/-! the constructors -/
def NL (U : State) : Prop := va_Nw (.methodLinkNest RX5 9 yX2_init "Warpyard") U ∧ va_Nw (.methodLinkNest RX5 18 yX3_init "Warpyard") U ∧ va_Nw (.methodLinkNest RX5 28 yX0_init "Warpyard") U ∧ va_Nw (.methodLinkNest RX5 35 yX4_init "Warpyard") U ∧ va_Nw (.methodLinkNest RX5 42 yX1_init "Warpyard") U
theorem NL.warm {s U : State} (hW : s.WarmedH U.vm) (h : NL s) : NL U := by
  obtain ⟨a1, a2, a3, a4, a5⟩ := h
  exact ⟨va_Nw.warmM hW a1, va_Nw.warmM hW a2, va_Nw.warmM hW a3, va_Nw.warmM hW a4, va_Nw.warmM hW a5⟩
theorem NL.calling {U : State} {g : JFrame} {mk : MethodId} {a : Array Value} (h : NL U) : NL (U.calling g mk a) := by
  obtain ⟨a1, a2, a3, a4, a5⟩ := h
  exact ⟨va_Nw.same rfl (u := U) (U := U.calling g mk a) rfl a1, va_Nw.same rfl (u := U) (U := U.calling g mk a) rfl a2, va_Nw.same rfl (u := U) (U := U.calling g mk a) rfl a3, va_Nw.same rfl (u := U) (U := U.calling g mk a) rfl a4, va_Nw.same rfl (u := U) (U := U.calling g mk a) rfl a5⟩
def PC (D : va_G) (tys : List (ClassId × FieldType)) (w0 : va_W) (sz : Nat) (U : State) : Prop := U.heap.size = sz ∧ va_P D vwCl w0 U.heap ∧ va_K D vwCl tys U ∧ va_D (fun _ => True) w0 ∧ NL U
theorem PC.calling {D : va_G} {tys : List (ClassId × FieldType)} {w0 : va_W} {sz : Nat} {U : State} {g : JFrame} {mk : MethodId} {a : Array Value} (h : PC D tys w0 sz U) : PC D tys w0 sz (U.calling g mk a) := by
  obtain ⟨h1, h2, h3, h4, h5⟩ := h
  exact ⟨h1, h2, va_K.moved (u := U) (U := U.calling g mk a) (Vm.Alike.refl U.vm) h3, h4, h5.calling⟩
theorem PC.at {D : va_G} {tys : List (ClassId × FieldType)} {w0 : va_W} {A : Nat → Prop} {s U : State} {H : Heap} (hP : va_P D vwCl w0 H) (hK : va_K D vwCl tys s) (hD : va_D A w0) (hNL : NL s) (hU : U.heap = H) (hW : s.WarmedH U.vm) : PC D tys w0 H.size U :=
  ⟨by rw [hU], by rw [hU]; exact hP, va_K.moved hW.alike hK, hD.weaken (fun _ _ _ _ => trivial), hNL.warm hW⟩
/-- a constructor of the object at b: it makes the cells of wf -/
def MC (l : Launch) (y : MethodName) (wsy : List Cond) (rm : Room) (D : va_G) (tys : List (ClassId × FieldType)) (w0 : va_W) (b sz : Nat) (wf : (Nat → Nat) → va_W) (mc ms : Nat) : Prop :=
  Met l y wsy rm (va_Pc [.ref b] (PC D tys w0 sz)) (va_Qv (fun g : Nat → Nat => g 0 = b) (fun g t => va_P D vwCl (wf g) t.heap ∧ va_K D vwCl tys t ∧ va_D (va_A w0 sz) (wf g)) (va_A w0 sz)) mc ms (va_A w0 sz)
theorem RA_I {s : State} {x y : ClassId} (h : va_RA s x .int) (h2 : va_RA s y .int) : x = y := Option.some.inj (Eq.trans (Eq.symm (show s.vm.findClass ("[" ++ FieldType.int.toString) = some x from h)) (show s.vm.findClass ("[" ++ FieldType.int.toString) = some y from h2))
theorem RA_Z {s : State} {x y : ClassId} (h : va_RA s x .boolean) (h2 : va_RA s y .boolean) : x = y := Option.some.inj (Eq.trans (Eq.symm (show s.vm.findClass ("[" ++ FieldType.boolean.toString) = some x from h)) (show s.vm.findClass ("[" ++ FieldType.boolean.toString) = some y from h2))
def wX0 (cI cZ : ClassId) (g : Nat → Nat) : va_W := [(g 0, .inr (0, [.ref (g 1), .ref (g 2), .ref (g 3), .ref (g 4), .ref (g 5), .int 0])), (g 1, .inl (cI, 30, .inl (fun _ => 0))), (g 2, .inl (cI, 30, .inl (fun _ => 0))), (g 3, .inl (cI, 30, .inl (fun _ => 0))), (g 4, .inl (cI, 30, .inl (fun _ => 0))), (g 5, .inl (cI, 30, .inl (fun _ => 0)))]
set_option maxHeartbeats 4000000 in
set_option maxRecDepth 100000 in
theorem k_X0 (l : Launch) (D : va_G) (cI cZ : ClassId) (b sz : Nat) : MC l yX0_init wsX0_init ({ frames := 1, cells := 5, slots := 150, locals := 12 }) D (ty2 cI cZ) [(b, .inr (0, [.null, .null, .null, .null, .null, .int 0]))] b sz (fun g => wX0 cI cZ g) 5 150 := by
  refine Met.ofW (cc := cX0_init) (maxL := 1) (ret := none) (by decide) rfl ?_
  intro p e s m args below meth c s₁ B hml hv
  obtain ⟨rfl, hsz, hP, hK, hD0, hNL⟩ := hv
  have hx := B.exec
  have hb := B.bytes
  have hr := B.returns
  have hts := atoms_spec (ws := wsX0_init) B.pre
  have hown : s.vm.findClass RX0 = some m.cls := findClass_of_methodNamed B.named
  have hlocks := B.notSynchronized
  have hin : meth.name = "<init>" := (name_of_methodNamed B.named B.method).1
  subst hsz
  have hD := hD0.self (sz := s.heap.size)
  generalize hAe : va_A [(b, .inr (0, [.null, .null, .null, .null, .null, .int 0]))] s.heap.size = A at hD ⊢
  have hA : ∀ q : Nat, s.heap.size ≤ q → A q := fun q h => by rw [← hAe]; exact Or.inr h
  have hS : va_S A s.heap s.heap [] := va_S.rf
  have hP : va_P D vwCl [(b, .inr (0, [.null, .null, .null, .null, .null, .int 0]))] s.heap := hP
  have hl := lv_entry ([.ref b]) (n := 1) (Nat.le_of_ble_eq_true rfl)
  rw [lg_entry_eq]
  generalize (lg_sl ([.ref b]) ++ List.replicate (1 - (lg_sl ([.ref b])).length) Slot.unset).toArray = ls at hl ⊢
  have hl : lv_has ls 1 [(0, .ref b)] := hl
  refine lv_aload_n hx hb dX0_init_0 rfl (lv_at hl 0 rfl) ?_
  refine W.objInit hx hb hown (hts (.methodLink RX0 3 objectInit) (by decide +kernel)) (hts (.instanceMethod objectInit) (by decide +kernel)) (hts (Cond.code objectInit ⟨#[0xb1]⟩ 1 none) (by decide +kernel)) rfl (by rw [hml]; exact hl.1) rfl dX0_init_1 (Nat.le_of_ble_eq_true rfl) (Nat.le_of_ble_eq_true rfl) ?_
  refine W.eq (g2 := F0 m 4 ls []) rfl ?_
  refine lv_aload_n hx hb dX0_init_4 rfl (lv_at hl 0 rfl) ?_
  refine lv_bipush (v := 30) hx hb dX0_init_5 (by decide) ?_
  have hc_0 : 0 + 1 ≤ 5 := by decide
  have hs_0 : 0 + 30 ≤ 150 := by decide
  refine va_newa (atype := .int) (ty := .int) (N' := 30) (a0 := (30, .inl (fun _ => 0))) hx hb (hts (.arrayClass .int) (by decide +kernel)) rfl hK hP hD hS hA (fun _ => rfl) (by decide) (by decide) (by decide) hc_0 hs_0 dX0_init_7 (fun q0 cA H hK1 hP hD hS => ?_)
  have e0 : cI = cA := RA_I (hK1.2 0 _ rfl).2 (hK1.2 2 _ rfl).2
  subst e0
  have hP : va_P D vwCl [(b, .inr (0, [.null, .null, .null, .null, .null, .int 0])), (q0, .inl (cI, 30, .inl (fun _ => 0)))] H := hP
  have hD : va_D A [(b, .inr (0, [.null, .null, .null, .null, .null, .int 0])), (q0, .inl (cI, 30, .inl (fun _ => 0)))] := hD
  refine W.widen (k := 1) (n := 30) (by omega) (by omega) ?_
  refine va_putF (D := D) (ci := 0) (v := .ref q0) (ty := (.array .int)) (C := RX0) (T := TX0) (N := 6) hx hb hts (by decide +kernel) tyX0 tyX0_ok nmX0 hown hK hP hD hS 0 rfl rfl 0 (by decide) (hts (.fieldLink RX0 9 "Warpyard$Bookings" "train" "[I") (by decide +kernel)) (fun _ h9 => h9) rfl hin rfl (by decide +kernel) rfl rfl (Nat.le_of_ble_eq_true rfl) dX0_init_9 (fun H locs hP hD hS => ?_)
  have hP : va_P D vwCl [(b, .inr (0, [.ref q0, .null, .null, .null, .null, .int 0])), (q0, .inl (cI, 30, .inl (fun _ => 0)))] H := hP
  have hD : va_D A [(b, .inr (0, [.ref q0, .null, .null, .null, .null, .int 0])), (q0, .inl (cI, 30, .inl (fun _ => 0)))] := hD
  refine lv_aload_n hx hb dX0_init_12 rfl (lv_at hl 0 rfl) ?_
  refine lv_bipush (v := 30) hx hb dX0_init_13 (by decide) ?_
  have hc_1 : 1 + 1 ≤ 5 := by decide
  have hs_1 : 30 + 30 ≤ 150 := by decide
  refine va_newa (atype := .int) (ty := .int) (N' := 30) (a0 := (30, .inl (fun _ => 0))) hx hb (hts (.arrayClass .int) (by decide +kernel)) rfl hK hP hD hS hA (fun _ => rfl) (by decide) (by decide) (by decide) hc_1 hs_1 dX0_init_15 (fun q1 cA H hK1 hP hD hS => ?_)
  have e1 : cI = cA := RA_I (hK1.2 0 _ rfl).2 (hK1.2 2 _ rfl).2
  subst e1
  have hP : va_P D vwCl [(b, .inr (0, [.ref q0, .null, .null, .null, .null, .int 0])), (q0, .inl (cI, 30, .inl (fun _ => 0))), (q1, .inl (cI, 30, .inl (fun _ => 0)))] H := hP
  have hD : va_D A [(b, .inr (0, [.ref q0, .null, .null, .null, .null, .int 0])), (q0, .inl (cI, 30, .inl (fun _ => 0))), (q1, .inl (cI, 30, .inl (fun _ => 0)))] := hD
  refine W.widen (k := 2) (n := 60) (by omega) (by omega) ?_
  refine va_putF (D := D) (ci := 0) (v := .ref q1) (ty := (.array .int)) (C := RX0) (T := TX0) (N := 6) hx hb hts (by decide +kernel) tyX0 tyX0_ok nmX0 hown hK hP hD hS 0 rfl rfl 1 (by decide) (hts (.fieldLink RX0 15 "Warpyard$Bookings" "block" "[I") (by decide +kernel)) (fun _ h9 => h9) rfl hin rfl (by decide +kernel) rfl rfl (Nat.le_of_ble_eq_true rfl) dX0_init_17 (fun H locs hP hD hS => ?_)
  have hP : va_P D vwCl [(b, .inr (0, [.ref q0, .ref q1, .null, .null, .null, .int 0])), (q0, .inl (cI, 30, .inl (fun _ => 0))), (q1, .inl (cI, 30, .inl (fun _ => 0)))] H := hP
  have hD : va_D A [(b, .inr (0, [.ref q0, .ref q1, .null, .null, .null, .int 0])), (q0, .inl (cI, 30, .inl (fun _ => 0))), (q1, .inl (cI, 30, .inl (fun _ => 0)))] := hD
  refine lv_aload_n hx hb dX0_init_20 rfl (lv_at hl 0 rfl) ?_
  refine lv_bipush (v := 30) hx hb dX0_init_21 (by decide) ?_
  have hc_2 : 2 + 1 ≤ 5 := by decide
  have hs_2 : 60 + 30 ≤ 150 := by decide
  refine va_newa (atype := .int) (ty := .int) (N' := 30) (a0 := (30, .inl (fun _ => 0))) hx hb (hts (.arrayClass .int) (by decide +kernel)) rfl hK hP hD hS hA (fun _ => rfl) (by decide) (by decide) (by decide) hc_2 hs_2 dX0_init_23 (fun q2 cA H hK1 hP hD hS => ?_)
  have e2 : cI = cA := RA_I (hK1.2 0 _ rfl).2 (hK1.2 2 _ rfl).2
  subst e2
  have hP : va_P D vwCl [(b, .inr (0, [.ref q0, .ref q1, .null, .null, .null, .int 0])), (q0, .inl (cI, 30, .inl (fun _ => 0))), (q1, .inl (cI, 30, .inl (fun _ => 0))), (q2, .inl (cI, 30, .inl (fun _ => 0)))] H := hP
  have hD : va_D A [(b, .inr (0, [.ref q0, .ref q1, .null, .null, .null, .int 0])), (q0, .inl (cI, 30, .inl (fun _ => 0))), (q1, .inl (cI, 30, .inl (fun _ => 0))), (q2, .inl (cI, 30, .inl (fun _ => 0)))] := hD
  refine W.widen (k := 3) (n := 90) (by omega) (by omega) ?_
  refine va_putF (D := D) (ci := 0) (v := .ref q2) (ty := (.array .int)) (C := RX0) (T := TX0) (N := 6) hx hb hts (by decide +kernel) tyX0 tyX0_ok nmX0 hown hK hP hD hS 0 rfl rfl 2 (by decide) (hts (.fieldLink RX0 18 "Warpyard$Bookings" "first" "[I") (by decide +kernel)) (fun _ h9 => h9) rfl hin rfl (by decide +kernel) rfl rfl (Nat.le_of_ble_eq_true rfl) dX0_init_25 (fun H locs hP hD hS => ?_)
  have hP : va_P D vwCl [(b, .inr (0, [.ref q0, .ref q1, .ref q2, .null, .null, .int 0])), (q0, .inl (cI, 30, .inl (fun _ => 0))), (q1, .inl (cI, 30, .inl (fun _ => 0))), (q2, .inl (cI, 30, .inl (fun _ => 0)))] H := hP
  have hD : va_D A [(b, .inr (0, [.ref q0, .ref q1, .ref q2, .null, .null, .int 0])), (q0, .inl (cI, 30, .inl (fun _ => 0))), (q1, .inl (cI, 30, .inl (fun _ => 0))), (q2, .inl (cI, 30, .inl (fun _ => 0)))] := hD
  refine lv_aload_n hx hb dX0_init_28 rfl (lv_at hl 0 rfl) ?_
  refine lv_bipush (v := 30) hx hb dX0_init_29 (by decide) ?_
  have hc_3 : 3 + 1 ≤ 5 := by decide
  have hs_3 : 90 + 30 ≤ 150 := by decide
  refine va_newa (atype := .int) (ty := .int) (N' := 30) (a0 := (30, .inl (fun _ => 0))) hx hb (hts (.arrayClass .int) (by decide +kernel)) rfl hK hP hD hS hA (fun _ => rfl) (by decide) (by decide) (by decide) hc_3 hs_3 dX0_init_31 (fun q3 cA H hK1 hP hD hS => ?_)
  have e3 : cI = cA := RA_I (hK1.2 0 _ rfl).2 (hK1.2 2 _ rfl).2
  subst e3
  have hP : va_P D vwCl [(b, .inr (0, [.ref q0, .ref q1, .ref q2, .null, .null, .int 0])), (q0, .inl (cI, 30, .inl (fun _ => 0))), (q1, .inl (cI, 30, .inl (fun _ => 0))), (q2, .inl (cI, 30, .inl (fun _ => 0))), (q3, .inl (cI, 30, .inl (fun _ => 0)))] H := hP
  have hD : va_D A [(b, .inr (0, [.ref q0, .ref q1, .ref q2, .null, .null, .int 0])), (q0, .inl (cI, 30, .inl (fun _ => 0))), (q1, .inl (cI, 30, .inl (fun _ => 0))), (q2, .inl (cI, 30, .inl (fun _ => 0))), (q3, .inl (cI, 30, .inl (fun _ => 0)))] := hD
  refine W.widen (k := 4) (n := 120) (by omega) (by omega) ?_
  refine va_putF (D := D) (ci := 0) (v := .ref q3) (ty := (.array .int)) (C := RX0) (T := TX0) (N := 6) hx hb hts (by decide +kernel) tyX0 tyX0_ok nmX0 hown hK hP hD hS 0 rfl rfl 3 (by decide) (hts (.fieldLink RX0 21 "Warpyard$Bookings" "last" "[I") (by decide +kernel)) (fun _ h9 => h9) rfl hin rfl (by decide +kernel) rfl rfl (Nat.le_of_ble_eq_true rfl) dX0_init_33 (fun H locs hP hD hS => ?_)
  have hP : va_P D vwCl [(b, .inr (0, [.ref q0, .ref q1, .ref q2, .ref q3, .null, .int 0])), (q0, .inl (cI, 30, .inl (fun _ => 0))), (q1, .inl (cI, 30, .inl (fun _ => 0))), (q2, .inl (cI, 30, .inl (fun _ => 0))), (q3, .inl (cI, 30, .inl (fun _ => 0)))] H := hP
  have hD : va_D A [(b, .inr (0, [.ref q0, .ref q1, .ref q2, .ref q3, .null, .int 0])), (q0, .inl (cI, 30, .inl (fun _ => 0))), (q1, .inl (cI, 30, .inl (fun _ => 0))), (q2, .inl (cI, 30, .inl (fun _ => 0))), (q3, .inl (cI, 30, .inl (fun _ => 0)))] := hD
  refine lv_aload_n hx hb dX0_init_36 rfl (lv_at hl 0 rfl) ?_
  refine lv_bipush (v := 30) hx hb dX0_init_37 (by decide) ?_
  have hc_4 : 4 + 1 ≤ 5 := by decide
  have hs_4 : 120 + 30 ≤ 150 := by decide
  refine va_newa (atype := .int) (ty := .int) (N' := 30) (a0 := (30, .inl (fun _ => 0))) hx hb (hts (.arrayClass .int) (by decide +kernel)) rfl hK hP hD hS hA (fun _ => rfl) (by decide) (by decide) (by decide) hc_4 hs_4 dX0_init_39 (fun q4 cA H hK1 hP hD hS => ?_)
  have e4 : cI = cA := RA_I (hK1.2 0 _ rfl).2 (hK1.2 2 _ rfl).2
  subst e4
  have hP : va_P D vwCl [(b, .inr (0, [.ref q0, .ref q1, .ref q2, .ref q3, .null, .int 0])), (q0, .inl (cI, 30, .inl (fun _ => 0))), (q1, .inl (cI, 30, .inl (fun _ => 0))), (q2, .inl (cI, 30, .inl (fun _ => 0))), (q3, .inl (cI, 30, .inl (fun _ => 0))), (q4, .inl (cI, 30, .inl (fun _ => 0)))] H := hP
  have hD : va_D A [(b, .inr (0, [.ref q0, .ref q1, .ref q2, .ref q3, .null, .int 0])), (q0, .inl (cI, 30, .inl (fun _ => 0))), (q1, .inl (cI, 30, .inl (fun _ => 0))), (q2, .inl (cI, 30, .inl (fun _ => 0))), (q3, .inl (cI, 30, .inl (fun _ => 0))), (q4, .inl (cI, 30, .inl (fun _ => 0)))] := hD
  refine W.widen (k := 5) (n := 150) (by omega) (by omega) ?_
  refine va_putF (D := D) (ci := 0) (v := .ref q4) (ty := (.array .int)) (C := RX0) (T := TX0) (N := 6) hx hb hts (by decide +kernel) tyX0 tyX0_ok nmX0 hown hK hP hD hS 0 rfl rfl 4 (by decide) (hts (.fieldLink RX0 24 "Warpyard$Bookings" "lateness" "[I") (by decide +kernel)) (fun _ h9 => h9) rfl hin rfl (by decide +kernel) rfl rfl (Nat.le_of_ble_eq_true rfl) dX0_init_41 (fun H locs hP hD hS => ?_)
  have hP : va_P D vwCl [(b, .inr (0, [.ref q0, .ref q1, .ref q2, .ref q3, .ref q4, .int 0])), (q0, .inl (cI, 30, .inl (fun _ => 0))), (q1, .inl (cI, 30, .inl (fun _ => 0))), (q2, .inl (cI, 30, .inl (fun _ => 0))), (q3, .inl (cI, 30, .inl (fun _ => 0))), (q4, .inl (cI, 30, .inl (fun _ => 0)))] H := hP
  have hD : va_D A [(b, .inr (0, [.ref q0, .ref q1, .ref q2, .ref q3, .ref q4, .int 0])), (q0, .inl (cI, 30, .inl (fun _ => 0))), (q1, .inl (cI, 30, .inl (fun _ => 0))), (q2, .inl (cI, 30, .inl (fun _ => 0))), (q3, .inl (cI, 30, .inl (fun _ => 0))), (q4, .inl (cI, 30, .inl (fun _ => 0)))] := hD
  have hP9 : va_P D vwCl ((fun g => wX0 cI cZ g) (fun k => match k with | 0 => b | 1 => q0 | 2 => q1 | 3 => q2 | 4 => q3 | 5 => q4 | _ => 0)) H := hP
  have hD9 : va_D A ((fun g => wX0 cI cZ g) (fun k => match k with | 0 => b | 1 => q0 | 2 => q1 | 3 => q2 | 4 => q3 | 5 => q4 | _ => 0)) := hD
  exact W.vret hx hb hr (fun t ht hW => ⟨⟨(fun k => match k with | 0 => b | 1 => q0 | 2 => q1 | 3 => q2 | 4 => q3 | 5 => q4 | _ => 0), rfl, rfl, by rw [ht]; exact hP9, va_K.moved hW.alike hK, hD9⟩, hS.F ht⟩) hS.2.2 dX0_init_44
def wX1 (cI cZ : ClassId) (g : Nat → Nat) : va_W := [(g 0, .inr (1, [.ref (g 1), .ref (g 2), .ref (g 3)])), (g 1, .inl (cI, 8, .inl (fun _ => 0))), (g 2, .inl (cI, 8, .inl (fun _ => 0))), (g 3, .inl (cI, 8, .inl (fun _ => 0)))]
set_option maxHeartbeats 4000000 in
set_option maxRecDepth 100000 in
theorem k_X1 (l : Launch) (D : va_G) (cI cZ : ClassId) (b sz : Nat) : MC l yX1_init wsX1_init ({ frames := 1, cells := 3, slots := 24, locals := 12 }) D (ty2 cI cZ) [(b, .inr (1, [.null, .null, .null]))] b sz (fun g => wX1 cI cZ g) 3 24 := by
  refine Met.ofW (cc := cX1_init) (maxL := 1) (ret := none) (by decide) rfl ?_
  intro p e s m args below meth c s₁ B hml hv
  obtain ⟨rfl, hsz, hP, hK, hD0, hNL⟩ := hv
  have hx := B.exec
  have hb := B.bytes
  have hr := B.returns
  have hts := atoms_spec (ws := wsX1_init) B.pre
  have hown : s.vm.findClass RX1 = some m.cls := findClass_of_methodNamed B.named
  have hlocks := B.notSynchronized
  have hin : meth.name = "<init>" := (name_of_methodNamed B.named B.method).1
  subst hsz
  have hD := hD0.self (sz := s.heap.size)
  generalize hAe : va_A [(b, .inr (1, [.null, .null, .null]))] s.heap.size = A at hD ⊢
  have hA : ∀ q : Nat, s.heap.size ≤ q → A q := fun q h => by rw [← hAe]; exact Or.inr h
  have hS : va_S A s.heap s.heap [] := va_S.rf
  have hP : va_P D vwCl [(b, .inr (1, [.null, .null, .null]))] s.heap := hP
  have hl := lv_entry ([.ref b]) (n := 1) (Nat.le_of_ble_eq_true rfl)
  rw [lg_entry_eq]
  generalize (lg_sl ([.ref b]) ++ List.replicate (1 - (lg_sl ([.ref b])).length) Slot.unset).toArray = ls at hl ⊢
  have hl : lv_has ls 1 [(0, .ref b)] := hl
  refine lv_aload_n hx hb dX1_init_0 rfl (lv_at hl 0 rfl) ?_
  refine W.objInit hx hb hown (hts (.methodLink RX1 3 objectInit) (by decide +kernel)) (hts (.instanceMethod objectInit) (by decide +kernel)) (hts (Cond.code objectInit ⟨#[0xb1]⟩ 1 none) (by decide +kernel)) rfl (by rw [hml]; exact hl.1) rfl dX1_init_1 (Nat.le_of_ble_eq_true rfl) (Nat.le_of_ble_eq_true rfl) ?_
  refine W.eq (g2 := F0 m 4 ls []) rfl ?_
  refine lv_aload_n hx hb dX1_init_4 rfl (lv_at hl 0 rfl) ?_
  refine lv_bipush (v := 8) hx hb dX1_init_5 (by decide) ?_
  have hc_0 : 0 + 1 ≤ 3 := by decide
  have hs_0 : 0 + 8 ≤ 24 := by decide
  refine va_newa (atype := .int) (ty := .int) (N' := 8) (a0 := (8, .inl (fun _ => 0))) hx hb (hts (.arrayClass .int) (by decide +kernel)) rfl hK hP hD hS hA (fun _ => rfl) (by decide) (by decide) (by decide) hc_0 hs_0 dX1_init_7 (fun q0 cA H hK1 hP hD hS => ?_)
  have e0 : cI = cA := RA_I (hK1.2 0 _ rfl).2 (hK1.2 2 _ rfl).2
  subst e0
  have hP : va_P D vwCl [(b, .inr (1, [.null, .null, .null])), (q0, .inl (cI, 8, .inl (fun _ => 0)))] H := hP
  have hD : va_D A [(b, .inr (1, [.null, .null, .null])), (q0, .inl (cI, 8, .inl (fun _ => 0)))] := hD
  refine W.widen (k := 1) (n := 8) (by omega) (by omega) ?_
  refine va_putF (D := D) (ci := 1) (v := .ref q0) (ty := (.array .int)) (C := RX1) (T := TX1) (N := 3) hx hb hts (by decide +kernel) tyX1 tyX1_ok nmX1 hown hK hP hD hS 0 rfl rfl 0 (by decide) (hts (.fieldLink RX1 9 "Warpyard$Offers" "siding" "[I") (by decide +kernel)) (fun _ h9 => h9) rfl hin rfl (by decide +kernel) rfl rfl (Nat.le_of_ble_eq_true rfl) dX1_init_9 (fun H locs hP hD hS => ?_)
  have hP : va_P D vwCl [(b, .inr (1, [.ref q0, .null, .null])), (q0, .inl (cI, 8, .inl (fun _ => 0)))] H := hP
  have hD : va_D A [(b, .inr (1, [.ref q0, .null, .null])), (q0, .inl (cI, 8, .inl (fun _ => 0)))] := hD
  refine lv_aload_n hx hb dX1_init_12 rfl (lv_at hl 0 rfl) ?_
  refine lv_bipush (v := 8) hx hb dX1_init_13 (by decide) ?_
  have hc_1 : 1 + 1 ≤ 3 := by decide
  have hs_1 : 8 + 8 ≤ 24 := by decide
  refine va_newa (atype := .int) (ty := .int) (N' := 8) (a0 := (8, .inl (fun _ => 0))) hx hb (hts (.arrayClass .int) (by decide +kernel)) rfl hK hP hD hS hA (fun _ => rfl) (by decide) (by decide) (by decide) hc_1 hs_1 dX1_init_15 (fun q1 cA H hK1 hP hD hS => ?_)
  have e1 : cI = cA := RA_I (hK1.2 0 _ rfl).2 (hK1.2 2 _ rfl).2
  subst e1
  have hP : va_P D vwCl [(b, .inr (1, [.ref q0, .null, .null])), (q0, .inl (cI, 8, .inl (fun _ => 0))), (q1, .inl (cI, 8, .inl (fun _ => 0)))] H := hP
  have hD : va_D A [(b, .inr (1, [.ref q0, .null, .null])), (q0, .inl (cI, 8, .inl (fun _ => 0))), (q1, .inl (cI, 8, .inl (fun _ => 0)))] := hD
  refine W.widen (k := 2) (n := 16) (by omega) (by omega) ?_
  refine va_putF (D := D) (ci := 1) (v := .ref q1) (ty := (.array .int)) (C := RX1) (T := TX1) (N := 3) hx hb hts (by decide +kernel) tyX1 tyX1_ok nmX1 hown hK hP hD hS 0 rfl rfl 1 (by decide) (hts (.fieldLink RX1 15 "Warpyard$Offers" "minute" "[I") (by decide +kernel)) (fun _ h9 => h9) rfl hin rfl (by decide +kernel) rfl rfl (Nat.le_of_ble_eq_true rfl) dX1_init_17 (fun H locs hP hD hS => ?_)
  have hP : va_P D vwCl [(b, .inr (1, [.ref q0, .ref q1, .null])), (q0, .inl (cI, 8, .inl (fun _ => 0))), (q1, .inl (cI, 8, .inl (fun _ => 0)))] H := hP
  have hD : va_D A [(b, .inr (1, [.ref q0, .ref q1, .null])), (q0, .inl (cI, 8, .inl (fun _ => 0))), (q1, .inl (cI, 8, .inl (fun _ => 0)))] := hD
  refine lv_aload_n hx hb dX1_init_20 rfl (lv_at hl 0 rfl) ?_
  refine lv_bipush (v := 8) hx hb dX1_init_21 (by decide) ?_
  have hc_2 : 2 + 1 ≤ 3 := by decide
  have hs_2 : 16 + 8 ≤ 24 := by decide
  refine va_newa (atype := .int) (ty := .int) (N' := 8) (a0 := (8, .inl (fun _ => 0))) hx hb (hts (.arrayClass .int) (by decide +kernel)) rfl hK hP hD hS hA (fun _ => rfl) (by decide) (by decide) (by decide) hc_2 hs_2 dX1_init_23 (fun q2 cA H hK1 hP hD hS => ?_)
  have e2 : cI = cA := RA_I (hK1.2 0 _ rfl).2 (hK1.2 2 _ rfl).2
  subst e2
  have hP : va_P D vwCl [(b, .inr (1, [.ref q0, .ref q1, .null])), (q0, .inl (cI, 8, .inl (fun _ => 0))), (q1, .inl (cI, 8, .inl (fun _ => 0))), (q2, .inl (cI, 8, .inl (fun _ => 0)))] H := hP
  have hD : va_D A [(b, .inr (1, [.ref q0, .ref q1, .null])), (q0, .inl (cI, 8, .inl (fun _ => 0))), (q1, .inl (cI, 8, .inl (fun _ => 0))), (q2, .inl (cI, 8, .inl (fun _ => 0)))] := hD
  refine W.widen (k := 3) (n := 24) (by omega) (by omega) ?_
  refine va_putF (D := D) (ci := 1) (v := .ref q2) (ty := (.array .int)) (C := RX1) (T := TX1) (N := 3) hx hb hts (by decide +kernel) tyX1 tyX1_ok nmX1 hown hK hP hD hS 0 rfl rfl 2 (by decide) (hts (.fieldLink RX1 18 "Warpyard$Offers" "price" "[I") (by decide +kernel)) (fun _ h9 => h9) rfl hin rfl (by decide +kernel) rfl rfl (Nat.le_of_ble_eq_true rfl) dX1_init_25 (fun H locs hP hD hS => ?_)
  have hP : va_P D vwCl [(b, .inr (1, [.ref q0, .ref q1, .ref q2])), (q0, .inl (cI, 8, .inl (fun _ => 0))), (q1, .inl (cI, 8, .inl (fun _ => 0))), (q2, .inl (cI, 8, .inl (fun _ => 0)))] H := hP
  have hD : va_D A [(b, .inr (1, [.ref q0, .ref q1, .ref q2])), (q0, .inl (cI, 8, .inl (fun _ => 0))), (q1, .inl (cI, 8, .inl (fun _ => 0))), (q2, .inl (cI, 8, .inl (fun _ => 0)))] := hD
  have hP9 : va_P D vwCl ((fun g => wX1 cI cZ g) (fun k => match k with | 0 => b | 1 => q0 | 2 => q1 | 3 => q2 | _ => 0)) H := hP
  have hD9 : va_D A ((fun g => wX1 cI cZ g) (fun k => match k with | 0 => b | 1 => q0 | 2 => q1 | 3 => q2 | _ => 0)) := hD
  exact W.vret hx hb hr (fun t ht hW => ⟨⟨(fun k => match k with | 0 => b | 1 => q0 | 2 => q1 | 3 => q2 | _ => 0), rfl, rfl, by rw [ht]; exact hP9, va_K.moved hW.alike hK, hD9⟩, hS.F ht⟩) hS.2.2 dX1_init_28
def wX2 (cI cZ : ClassId) (g : Nat → Nat) : va_W := [(g 0, .inr (2, [.ref (g 1)])), (g 1, .inl (cZ, 2, .inl (fun _ => 0)))]
set_option maxHeartbeats 4000000 in
set_option maxRecDepth 100000 in
theorem k_X2 (l : Launch) (D : va_G) (cI cZ : ClassId) (b sz : Nat) : MC l yX2_init wsX2_init ({ frames := 1, cells := 1, slots := 2, locals := 12 }) D (ty2 cI cZ) [(b, .inr (2, [.null]))] b sz (fun g => wX2 cI cZ g) 1 2 := by
  refine Met.ofW (cc := cX2_init) (maxL := 1) (ret := none) (by decide) rfl ?_
  intro p e s m args below meth c s₁ B hml hv
  obtain ⟨rfl, hsz, hP, hK, hD0, hNL⟩ := hv
  have hx := B.exec
  have hb := B.bytes
  have hr := B.returns
  have hts := atoms_spec (ws := wsX2_init) B.pre
  have hown : s.vm.findClass RX2 = some m.cls := findClass_of_methodNamed B.named
  have hlocks := B.notSynchronized
  have hin : meth.name = "<init>" := (name_of_methodNamed B.named B.method).1
  subst hsz
  have hD := hD0.self (sz := s.heap.size)
  generalize hAe : va_A [(b, .inr (2, [.null]))] s.heap.size = A at hD ⊢
  have hA : ∀ q : Nat, s.heap.size ≤ q → A q := fun q h => by rw [← hAe]; exact Or.inr h
  have hS : va_S A s.heap s.heap [] := va_S.rf
  have hP : va_P D vwCl [(b, .inr (2, [.null]))] s.heap := hP
  have hl := lv_entry ([.ref b]) (n := 1) (Nat.le_of_ble_eq_true rfl)
  rw [lg_entry_eq]
  generalize (lg_sl ([.ref b]) ++ List.replicate (1 - (lg_sl ([.ref b])).length) Slot.unset).toArray = ls at hl ⊢
  have hl : lv_has ls 1 [(0, .ref b)] := hl
  refine lv_aload_n hx hb dX2_init_0 rfl (lv_at hl 0 rfl) ?_
  refine W.objInit hx hb hown (hts (.methodLink RX2 3 objectInit) (by decide +kernel)) (hts (.instanceMethod objectInit) (by decide +kernel)) (hts (Cond.code objectInit ⟨#[0xb1]⟩ 1 none) (by decide +kernel)) rfl (by rw [hml]; exact hl.1) rfl dX2_init_1 (Nat.le_of_ble_eq_true rfl) (Nat.le_of_ble_eq_true rfl) ?_
  refine W.eq (g2 := F0 m 4 ls []) rfl ?_
  refine lv_aload_n hx hb dX2_init_4 rfl (lv_at hl 0 rfl) ?_
  refine lv_iconst (v := 2) hx hb dX2_init_5 (by decide) ?_
  have hc_0 : 0 + 1 ≤ 1 := by decide
  have hs_0 : 0 + 2 ≤ 2 := by decide
  refine va_newa (atype := .boolean) (ty := .boolean) (N' := 2) (a0 := (2, .inl (fun _ => 0))) hx hb (hts (.arrayClass .boolean) (by decide +kernel)) rfl hK hP hD hS hA (fun _ => rfl) (by decide) (by decide) (by decide) hc_0 hs_0 dX2_init_6 (fun q0 cA H hK1 hP hD hS => ?_)
  have e0 : cZ = cA := RA_Z (hK1.2 1 _ rfl).2 (hK1.2 2 _ rfl).2
  subst e0
  have hP : va_P D vwCl [(b, .inr (2, [.null])), (q0, .inl (cZ, 2, .inl (fun _ => 0)))] H := hP
  have hD : va_D A [(b, .inr (2, [.null])), (q0, .inl (cZ, 2, .inl (fun _ => 0)))] := hD
  refine W.widen (k := 1) (n := 2) (by omega) (by omega) ?_
  refine va_putF (D := D) (ci := 2) (v := .ref q0) (ty := (.array .boolean)) (C := RX2) (T := TX2) (N := 1) hx hb hts (by decide +kernel) tyX2 tyX2_ok nmX2 hown hK hP hD hS 0 rfl rfl 0 (by decide) (hts (.fieldLink RX2 9 "Warpyard$Tracks" "turned" "[Z") (by decide +kernel)) (fun _ h9 => h9) rfl hin rfl (by decide +kernel) rfl rfl (Nat.le_of_ble_eq_true rfl) dX2_init_8 (fun H locs hP hD hS => ?_)
  have hP : va_P D vwCl [(b, .inr (2, [.ref q0])), (q0, .inl (cZ, 2, .inl (fun _ => 0)))] H := hP
  have hD : va_D A [(b, .inr (2, [.ref q0])), (q0, .inl (cZ, 2, .inl (fun _ => 0)))] := hD
  have hP9 : va_P D vwCl ((fun g => wX2 cI cZ g) (fun k => match k with | 0 => b | 1 => q0 | _ => 0)) H := hP
  have hD9 : va_D A ((fun g => wX2 cI cZ g) (fun k => match k with | 0 => b | 1 => q0 | _ => 0)) := hD
  exact W.vret hx hb hr (fun t ht hW => ⟨⟨(fun k => match k with | 0 => b | 1 => q0 | _ => 0), rfl, rfl, by rw [ht]; exact hP9, va_K.moved hW.alike hK, hD9⟩, hS.F ht⟩) hS.2.2 dX2_init_11
def wX3 (cI cZ : ClassId) (g : Nat → Nat) : va_W := [(g 0, .inr (3, [.ref (g 1), .ref (g 2), .ref (g 3), .ref (g 4), .int 0])), (g 1, .inl (cI, 4, .inl (fun _ => 0))), (g 2, .inl (cZ, 4, .inl (fun _ => 0))), (g 3, .inl (cZ, 4, .inl (fun _ => 0))), (g 4, .inl (cI, 4, .inl (fun _ => 0)))]
set_option maxHeartbeats 4000000 in
set_option maxRecDepth 100000 in
theorem k_X3 (l : Launch) (D : va_G) (cI cZ : ClassId) (b sz : Nat) : MC l yX3_init wsX3_init ({ frames := 1, cells := 4, slots := 16, locals := 12 }) D (ty2 cI cZ) [(b, .inr (3, [.null, .null, .null, .null, .int 0]))] b sz (fun g => wX3 cI cZ g) 4 16 := by
  refine Met.ofW (cc := cX3_init) (maxL := 1) (ret := none) (by decide) rfl ?_
  intro p e s m args below meth c s₁ B hml hv
  obtain ⟨rfl, hsz, hP, hK, hD0, hNL⟩ := hv
  have hx := B.exec
  have hb := B.bytes
  have hr := B.returns
  have hts := atoms_spec (ws := wsX3_init) B.pre
  have hown : s.vm.findClass RX3 = some m.cls := findClass_of_methodNamed B.named
  have hlocks := B.notSynchronized
  have hin : meth.name = "<init>" := (name_of_methodNamed B.named B.method).1
  subst hsz
  have hD := hD0.self (sz := s.heap.size)
  generalize hAe : va_A [(b, .inr (3, [.null, .null, .null, .null, .int 0]))] s.heap.size = A at hD ⊢
  have hA : ∀ q : Nat, s.heap.size ≤ q → A q := fun q h => by rw [← hAe]; exact Or.inr h
  have hS : va_S A s.heap s.heap [] := va_S.rf
  have hP : va_P D vwCl [(b, .inr (3, [.null, .null, .null, .null, .int 0]))] s.heap := hP
  have hl := lv_entry ([.ref b]) (n := 1) (Nat.le_of_ble_eq_true rfl)
  rw [lg_entry_eq]
  generalize (lg_sl ([.ref b]) ++ List.replicate (1 - (lg_sl ([.ref b])).length) Slot.unset).toArray = ls at hl ⊢
  have hl : lv_has ls 1 [(0, .ref b)] := hl
  refine lv_aload_n hx hb dX3_init_0 rfl (lv_at hl 0 rfl) ?_
  refine W.objInit hx hb hown (hts (.methodLink RX3 3 objectInit) (by decide +kernel)) (hts (.instanceMethod objectInit) (by decide +kernel)) (hts (Cond.code objectInit ⟨#[0xb1]⟩ 1 none) (by decide +kernel)) rfl (by rw [hml]; exact hl.1) rfl dX3_init_1 (Nat.le_of_ble_eq_true rfl) (Nat.le_of_ble_eq_true rfl) ?_
  refine W.eq (g2 := F0 m 4 ls []) rfl ?_
  refine lv_aload_n hx hb dX3_init_4 rfl (lv_at hl 0 rfl) ?_
  refine lv_iconst (v := 4) hx hb dX3_init_5 (by decide) ?_
  have hc_0 : 0 + 1 ≤ 4 := by decide
  have hs_0 : 0 + 4 ≤ 16 := by decide
  refine va_newa (atype := .int) (ty := .int) (N' := 4) (a0 := (4, .inl (fun _ => 0))) hx hb (hts (.arrayClass .int) (by decide +kernel)) rfl hK hP hD hS hA (fun _ => rfl) (by decide) (by decide) (by decide) hc_0 hs_0 dX3_init_6 (fun q0 cA H hK1 hP hD hS => ?_)
  have e0 : cI = cA := RA_I (hK1.2 0 _ rfl).2 (hK1.2 2 _ rfl).2
  subst e0
  have hP : va_P D vwCl [(b, .inr (3, [.null, .null, .null, .null, .int 0])), (q0, .inl (cI, 4, .inl (fun _ => 0)))] H := hP
  have hD : va_D A [(b, .inr (3, [.null, .null, .null, .null, .int 0])), (q0, .inl (cI, 4, .inl (fun _ => 0)))] := hD
  refine W.widen (k := 1) (n := 4) (by omega) (by omega) ?_
  refine va_putF (D := D) (ci := 3) (v := .ref q0) (ty := (.array .int)) (C := RX3) (T := TX3) (N := 5) hx hb hts (by decide +kernel) tyX3 tyX3_ok nmX3 hown hK hP hD hS 0 rfl rfl 0 (by decide) (hts (.fieldLink RX3 9 "Warpyard$Trains" "block" "[I") (by decide +kernel)) (fun _ h9 => h9) rfl hin rfl (by decide +kernel) rfl rfl (Nat.le_of_ble_eq_true rfl) dX3_init_8 (fun H locs hP hD hS => ?_)
  have hP : va_P D vwCl [(b, .inr (3, [.ref q0, .null, .null, .null, .int 0])), (q0, .inl (cI, 4, .inl (fun _ => 0)))] H := hP
  have hD : va_D A [(b, .inr (3, [.ref q0, .null, .null, .null, .int 0])), (q0, .inl (cI, 4, .inl (fun _ => 0)))] := hD
  refine lv_aload_n hx hb dX3_init_11 rfl (lv_at hl 0 rfl) ?_
  refine lv_iconst (v := 4) hx hb dX3_init_12 (by decide) ?_
  have hc_1 : 1 + 1 ≤ 4 := by decide
  have hs_1 : 4 + 4 ≤ 16 := by decide
  refine va_newa (atype := .boolean) (ty := .boolean) (N' := 4) (a0 := (4, .inl (fun _ => 0))) hx hb (hts (.arrayClass .boolean) (by decide +kernel)) rfl hK hP hD hS hA (fun _ => rfl) (by decide) (by decide) (by decide) hc_1 hs_1 dX3_init_13 (fun q1 cA H hK1 hP hD hS => ?_)
  have e1 : cZ = cA := RA_Z (hK1.2 1 _ rfl).2 (hK1.2 2 _ rfl).2
  subst e1
  have hP : va_P D vwCl [(b, .inr (3, [.ref q0, .null, .null, .null, .int 0])), (q0, .inl (cI, 4, .inl (fun _ => 0))), (q1, .inl (cZ, 4, .inl (fun _ => 0)))] H := hP
  have hD : va_D A [(b, .inr (3, [.ref q0, .null, .null, .null, .int 0])), (q0, .inl (cI, 4, .inl (fun _ => 0))), (q1, .inl (cZ, 4, .inl (fun _ => 0)))] := hD
  refine W.widen (k := 2) (n := 8) (by omega) (by omega) ?_
  refine va_putF (D := D) (ci := 3) (v := .ref q1) (ty := (.array .boolean)) (C := RX3) (T := TX3) (N := 5) hx hb hts (by decide +kernel) tyX3 tyX3_ok nmX3 hown hK hP hD hS 0 rfl rfl 1 (by decide) (hts (.fieldLink RX3 15 "Warpyard$Trains" "right" "[Z") (by decide +kernel)) (fun _ h9 => h9) rfl hin rfl (by decide +kernel) rfl rfl (Nat.le_of_ble_eq_true rfl) dX3_init_15 (fun H locs hP hD hS => ?_)
  have hP : va_P D vwCl [(b, .inr (3, [.ref q0, .ref q1, .null, .null, .int 0])), (q0, .inl (cI, 4, .inl (fun _ => 0))), (q1, .inl (cZ, 4, .inl (fun _ => 0)))] H := hP
  have hD : va_D A [(b, .inr (3, [.ref q0, .ref q1, .null, .null, .int 0])), (q0, .inl (cI, 4, .inl (fun _ => 0))), (q1, .inl (cZ, 4, .inl (fun _ => 0)))] := hD
  refine lv_aload_n hx hb dX3_init_18 rfl (lv_at hl 0 rfl) ?_
  refine lv_iconst (v := 4) hx hb dX3_init_19 (by decide) ?_
  have hc_2 : 2 + 1 ≤ 4 := by decide
  have hs_2 : 8 + 4 ≤ 16 := by decide
  refine va_newa (atype := .boolean) (ty := .boolean) (N' := 4) (a0 := (4, .inl (fun _ => 0))) hx hb (hts (.arrayClass .boolean) (by decide +kernel)) rfl hK hP hD hS hA (fun _ => rfl) (by decide) (by decide) (by decide) hc_2 hs_2 dX3_init_20 (fun q2 cA H hK1 hP hD hS => ?_)
  have e2 : cZ = cA := RA_Z (hK1.2 1 _ rfl).2 (hK1.2 2 _ rfl).2
  subst e2
  have hP : va_P D vwCl [(b, .inr (3, [.ref q0, .ref q1, .null, .null, .int 0])), (q0, .inl (cI, 4, .inl (fun _ => 0))), (q1, .inl (cZ, 4, .inl (fun _ => 0))), (q2, .inl (cZ, 4, .inl (fun _ => 0)))] H := hP
  have hD : va_D A [(b, .inr (3, [.ref q0, .ref q1, .null, .null, .int 0])), (q0, .inl (cI, 4, .inl (fun _ => 0))), (q1, .inl (cZ, 4, .inl (fun _ => 0))), (q2, .inl (cZ, 4, .inl (fun _ => 0)))] := hD
  refine W.widen (k := 3) (n := 12) (by omega) (by omega) ?_
  refine va_putF (D := D) (ci := 3) (v := .ref q2) (ty := (.array .boolean)) (C := RX3) (T := TX3) (N := 5) hx hb hts (by decide +kernel) tyX3 tyX3_ok nmX3 hown hK hP hD hS 0 rfl rfl 2 (by decide) (hts (.fieldLink RX3 19 "Warpyard$Trains" "held" "[Z") (by decide +kernel)) (fun _ h9 => h9) rfl hin rfl (by decide +kernel) rfl rfl (Nat.le_of_ble_eq_true rfl) dX3_init_22 (fun H locs hP hD hS => ?_)
  have hP : va_P D vwCl [(b, .inr (3, [.ref q0, .ref q1, .ref q2, .null, .int 0])), (q0, .inl (cI, 4, .inl (fun _ => 0))), (q1, .inl (cZ, 4, .inl (fun _ => 0))), (q2, .inl (cZ, 4, .inl (fun _ => 0)))] H := hP
  have hD : va_D A [(b, .inr (3, [.ref q0, .ref q1, .ref q2, .null, .int 0])), (q0, .inl (cI, 4, .inl (fun _ => 0))), (q1, .inl (cZ, 4, .inl (fun _ => 0))), (q2, .inl (cZ, 4, .inl (fun _ => 0)))] := hD
  refine lv_aload_n hx hb dX3_init_25 rfl (lv_at hl 0 rfl) ?_
  refine lv_iconst (v := 4) hx hb dX3_init_26 (by decide) ?_
  have hc_3 : 3 + 1 ≤ 4 := by decide
  have hs_3 : 12 + 4 ≤ 16 := by decide
  refine va_newa (atype := .int) (ty := .int) (N' := 4) (a0 := (4, .inl (fun _ => 0))) hx hb (hts (.arrayClass .int) (by decide +kernel)) rfl hK hP hD hS hA (fun _ => rfl) (by decide) (by decide) (by decide) hc_3 hs_3 dX3_init_27 (fun q3 cA H hK1 hP hD hS => ?_)
  have e3 : cI = cA := RA_I (hK1.2 0 _ rfl).2 (hK1.2 2 _ rfl).2
  subst e3
  have hP : va_P D vwCl [(b, .inr (3, [.ref q0, .ref q1, .ref q2, .null, .int 0])), (q0, .inl (cI, 4, .inl (fun _ => 0))), (q1, .inl (cZ, 4, .inl (fun _ => 0))), (q2, .inl (cZ, 4, .inl (fun _ => 0))), (q3, .inl (cI, 4, .inl (fun _ => 0)))] H := hP
  have hD : va_D A [(b, .inr (3, [.ref q0, .ref q1, .ref q2, .null, .int 0])), (q0, .inl (cI, 4, .inl (fun _ => 0))), (q1, .inl (cZ, 4, .inl (fun _ => 0))), (q2, .inl (cZ, 4, .inl (fun _ => 0))), (q3, .inl (cI, 4, .inl (fun _ => 0)))] := hD
  refine W.widen (k := 4) (n := 16) (by omega) (by omega) ?_
  refine va_putF (D := D) (ci := 3) (v := .ref q3) (ty := (.array .int)) (C := RX3) (T := TX3) (N := 5) hx hb hts (by decide +kernel) tyX3 tyX3_ok nmX3 hown hK hP hD hS 0 rfl rfl 3 (by decide) (hts (.fieldLink RX3 22 "Warpyard$Trains" "delay" "[I") (by decide +kernel)) (fun _ h9 => h9) rfl hin rfl (by decide +kernel) rfl rfl (Nat.le_of_ble_eq_true rfl) dX3_init_29 (fun H locs hP hD hS => ?_)
  have hP : va_P D vwCl [(b, .inr (3, [.ref q0, .ref q1, .ref q2, .ref q3, .int 0])), (q0, .inl (cI, 4, .inl (fun _ => 0))), (q1, .inl (cZ, 4, .inl (fun _ => 0))), (q2, .inl (cZ, 4, .inl (fun _ => 0))), (q3, .inl (cI, 4, .inl (fun _ => 0)))] H := hP
  have hD : va_D A [(b, .inr (3, [.ref q0, .ref q1, .ref q2, .ref q3, .int 0])), (q0, .inl (cI, 4, .inl (fun _ => 0))), (q1, .inl (cZ, 4, .inl (fun _ => 0))), (q2, .inl (cZ, 4, .inl (fun _ => 0))), (q3, .inl (cI, 4, .inl (fun _ => 0)))] := hD
  have hP9 : va_P D vwCl ((fun g => wX3 cI cZ g) (fun k => match k with | 0 => b | 1 => q0 | 2 => q1 | 3 => q2 | 4 => q3 | _ => 0)) H := hP
  have hD9 : va_D A ((fun g => wX3 cI cZ g) (fun k => match k with | 0 => b | 1 => q0 | 2 => q1 | 3 => q2 | 4 => q3 | _ => 0)) := hD
  exact W.vret hx hb hr (fun t ht hW => ⟨⟨(fun k => match k with | 0 => b | 1 => q0 | 2 => q1 | 3 => q2 | 4 => q3 | _ => 0), rfl, rfl, by rw [ht]; exact hP9, va_K.moved hW.alike hK, hD9⟩, hS.F ht⟩) hS.2.2 dX3_init_32
def wX4 (cI cZ : ClassId) (g : Nat → Nat) : va_W := [(g 0, .inr (4, [.ref (g 1), .ref (g 2), .ref (g 3), .int 0])), (g 1, .inl (cI, 8, .inl (fun _ => 0))), (g 2, .inl (cI, 6, .inl (fun _ => 0))), (g 3, .inl (cI, 48, .inl (fun _ => 0)))]
set_option maxHeartbeats 4000000 in
set_option maxRecDepth 100000 in
theorem k_X4 (l : Launch) (D : va_G) (cI cZ : ClassId) (b sz : Nat) : MC l yX4_init wsX4_init ({ frames := 1, cells := 3, slots := 62, locals := 12 }) D (ty2 cI cZ) [(b, .inr (4, [.null, .null, .null, .int 0]))] b sz (fun g => wX4 cI cZ g) 3 62 := by
  refine Met.ofW (cc := cX4_init) (maxL := 1) (ret := none) (by decide) rfl ?_
  intro p e s m args below meth c s₁ B hml hv
  obtain ⟨rfl, hsz, hP, hK, hD0, hNL⟩ := hv
  have hx := B.exec
  have hb := B.bytes
  have hr := B.returns
  have hts := atoms_spec (ws := wsX4_init) B.pre
  have hown : s.vm.findClass RX4 = some m.cls := findClass_of_methodNamed B.named
  have hlocks := B.notSynchronized
  have hin : meth.name = "<init>" := (name_of_methodNamed B.named B.method).1
  subst hsz
  have hD := hD0.self (sz := s.heap.size)
  generalize hAe : va_A [(b, .inr (4, [.null, .null, .null, .int 0]))] s.heap.size = A at hD ⊢
  have hA : ∀ q : Nat, s.heap.size ≤ q → A q := fun q h => by rw [← hAe]; exact Or.inr h
  have hS : va_S A s.heap s.heap [] := va_S.rf
  have hP : va_P D vwCl [(b, .inr (4, [.null, .null, .null, .int 0]))] s.heap := hP
  have hl := lv_entry ([.ref b]) (n := 1) (Nat.le_of_ble_eq_true rfl)
  rw [lg_entry_eq]
  generalize (lg_sl ([.ref b]) ++ List.replicate (1 - (lg_sl ([.ref b])).length) Slot.unset).toArray = ls at hl ⊢
  have hl : lv_has ls 1 [(0, .ref b)] := hl
  refine lv_aload_n hx hb dX4_init_0 rfl (lv_at hl 0 rfl) ?_
  refine W.objInit hx hb hown (hts (.methodLink RX4 3 objectInit) (by decide +kernel)) (hts (.instanceMethod objectInit) (by decide +kernel)) (hts (Cond.code objectInit ⟨#[0xb1]⟩ 1 none) (by decide +kernel)) rfl (by rw [hml]; exact hl.1) rfl dX4_init_1 (Nat.le_of_ble_eq_true rfl) (Nat.le_of_ble_eq_true rfl) ?_
  refine W.eq (g2 := F0 m 4 ls []) rfl ?_
  refine lv_aload_n hx hb dX4_init_4 rfl (lv_at hl 0 rfl) ?_
  refine lv_bipush (v := 8) hx hb dX4_init_5 (by decide) ?_
  have hc_0 : 0 + 1 ≤ 3 := by decide
  have hs_0 : 0 + 8 ≤ 62 := by decide
  refine va_newa (atype := .int) (ty := .int) (N' := 8) (a0 := (8, .inl (fun _ => 0))) hx hb (hts (.arrayClass .int) (by decide +kernel)) rfl hK hP hD hS hA (fun _ => rfl) (by decide) (by decide) (by decide) hc_0 hs_0 dX4_init_7 (fun q0 cA H hK1 hP hD hS => ?_)
  have e0 : cI = cA := RA_I (hK1.2 0 _ rfl).2 (hK1.2 2 _ rfl).2
  subst e0
  have hP : va_P D vwCl [(b, .inr (4, [.null, .null, .null, .int 0])), (q0, .inl (cI, 8, .inl (fun _ => 0)))] H := hP
  have hD : va_D A [(b, .inr (4, [.null, .null, .null, .int 0])), (q0, .inl (cI, 8, .inl (fun _ => 0)))] := hD
  refine W.widen (k := 1) (n := 8) (by omega) (by omega) ?_
  refine va_putF (D := D) (ci := 4) (v := .ref q0) (ty := (.array .int)) (C := RX4) (T := TX4) (N := 4) hx hb hts (by decide +kernel) tyX4 tyX4_ok nmX4 hown hK hP hD hS 0 rfl rfl 0 (by decide) (hts (.fieldLink RX4 9 "Warpyard$Waggons" "weight" "[I") (by decide +kernel)) (fun _ h9 => h9) rfl hin rfl (by decide +kernel) rfl rfl (Nat.le_of_ble_eq_true rfl) dX4_init_9 (fun H locs hP hD hS => ?_)
  have hP : va_P D vwCl [(b, .inr (4, [.ref q0, .null, .null, .int 0])), (q0, .inl (cI, 8, .inl (fun _ => 0)))] H := hP
  have hD : va_D A [(b, .inr (4, [.ref q0, .null, .null, .int 0])), (q0, .inl (cI, 8, .inl (fun _ => 0)))] := hD
  refine lv_aload_n hx hb dX4_init_12 rfl (lv_at hl 0 rfl) ?_
  refine lv_bipush (v := 6) hx hb dX4_init_13 (by decide) ?_
  have hc_1 : 1 + 1 ≤ 3 := by decide
  have hs_1 : 8 + 6 ≤ 62 := by decide
  refine va_newa (atype := .int) (ty := .int) (N' := 6) (a0 := (6, .inl (fun _ => 0))) hx hb (hts (.arrayClass .int) (by decide +kernel)) rfl hK hP hD hS hA (fun _ => rfl) (by decide) (by decide) (by decide) hc_1 hs_1 dX4_init_15 (fun q1 cA H hK1 hP hD hS => ?_)
  have e1 : cI = cA := RA_I (hK1.2 0 _ rfl).2 (hK1.2 2 _ rfl).2
  subst e1
  have hP : va_P D vwCl [(b, .inr (4, [.ref q0, .null, .null, .int 0])), (q0, .inl (cI, 8, .inl (fun _ => 0))), (q1, .inl (cI, 6, .inl (fun _ => 0)))] H := hP
  have hD : va_D A [(b, .inr (4, [.ref q0, .null, .null, .int 0])), (q0, .inl (cI, 8, .inl (fun _ => 0))), (q1, .inl (cI, 6, .inl (fun _ => 0)))] := hD
  refine W.widen (k := 2) (n := 14) (by omega) (by omega) ?_
  refine va_putF (D := D) (ci := 4) (v := .ref q1) (ty := (.array .int)) (C := RX4) (T := TX4) (N := 4) hx hb hts (by decide +kernel) tyX4 tyX4_ok nmX4 hown hK hP hD hS 0 rfl rfl 1 (by decide) (hts (.fieldLink RX4 15 "Warpyard$Waggons" "size" "[I") (by decide +kernel)) (fun _ h9 => h9) rfl hin rfl (by decide +kernel) rfl rfl (Nat.le_of_ble_eq_true rfl) dX4_init_17 (fun H locs hP hD hS => ?_)
  have hP : va_P D vwCl [(b, .inr (4, [.ref q0, .ref q1, .null, .int 0])), (q0, .inl (cI, 8, .inl (fun _ => 0))), (q1, .inl (cI, 6, .inl (fun _ => 0)))] H := hP
  have hD : va_D A [(b, .inr (4, [.ref q0, .ref q1, .null, .int 0])), (q0, .inl (cI, 8, .inl (fun _ => 0))), (q1, .inl (cI, 6, .inl (fun _ => 0)))] := hD
  refine lv_aload_n hx hb dX4_init_20 rfl (lv_at hl 0 rfl) ?_
  refine lv_bipush (v := 48) hx hb dX4_init_21 (by decide) ?_
  have hc_2 : 2 + 1 ≤ 3 := by decide
  have hs_2 : 14 + 48 ≤ 62 := by decide
  refine va_newa (atype := .int) (ty := .int) (N' := 48) (a0 := (48, .inl (fun _ => 0))) hx hb (hts (.arrayClass .int) (by decide +kernel)) rfl hK hP hD hS hA (fun _ => rfl) (by decide) (by decide) (by decide) hc_2 hs_2 dX4_init_23 (fun q2 cA H hK1 hP hD hS => ?_)
  have e2 : cI = cA := RA_I (hK1.2 0 _ rfl).2 (hK1.2 2 _ rfl).2
  subst e2
  have hP : va_P D vwCl [(b, .inr (4, [.ref q0, .ref q1, .null, .int 0])), (q0, .inl (cI, 8, .inl (fun _ => 0))), (q1, .inl (cI, 6, .inl (fun _ => 0))), (q2, .inl (cI, 48, .inl (fun _ => 0)))] H := hP
  have hD : va_D A [(b, .inr (4, [.ref q0, .ref q1, .null, .int 0])), (q0, .inl (cI, 8, .inl (fun _ => 0))), (q1, .inl (cI, 6, .inl (fun _ => 0))), (q2, .inl (cI, 48, .inl (fun _ => 0)))] := hD
  refine W.widen (k := 3) (n := 62) (by omega) (by omega) ?_
  refine va_putF (D := D) (ci := 4) (v := .ref q2) (ty := (.array .int)) (C := RX4) (T := TX4) (N := 4) hx hb hts (by decide +kernel) tyX4 tyX4_ok nmX4 hown hK hP hD hS 0 rfl rfl 2 (by decide) (hts (.fieldLink RX4 18 "Warpyard$Waggons" "inRow" "[I") (by decide +kernel)) (fun _ h9 => h9) rfl hin rfl (by decide +kernel) rfl rfl (Nat.le_of_ble_eq_true rfl) dX4_init_25 (fun H locs hP hD hS => ?_)
  have hP : va_P D vwCl [(b, .inr (4, [.ref q0, .ref q1, .ref q2, .int 0])), (q0, .inl (cI, 8, .inl (fun _ => 0))), (q1, .inl (cI, 6, .inl (fun _ => 0))), (q2, .inl (cI, 48, .inl (fun _ => 0)))] H := hP
  have hD : va_D A [(b, .inr (4, [.ref q0, .ref q1, .ref q2, .int 0])), (q0, .inl (cI, 8, .inl (fun _ => 0))), (q1, .inl (cI, 6, .inl (fun _ => 0))), (q2, .inl (cI, 48, .inl (fun _ => 0)))] := hD
  have hP9 : va_P D vwCl ((fun g => wX4 cI cZ g) (fun k => match k with | 0 => b | 1 => q0 | 2 => q1 | 3 => q2 | _ => 0)) H := hP
  have hD9 : va_D A ((fun g => wX4 cI cZ g) (fun k => match k with | 0 => b | 1 => q0 | 2 => q1 | 3 => q2 | _ => 0)) := hD
  exact W.vret hx hb hr (fun t ht hW => ⟨⟨(fun k => match k with | 0 => b | 1 => q0 | 2 => q1 | 3 => q2 | _ => 0), rfl, rfl, by rw [ht]; exact hP9, va_K.moved hW.alike hK, hD9⟩, hS.F ht⟩) hS.2.2 dX4_init_28
set_option maxHeartbeats 4000000 in
set_option maxRecDepth 100000 in
theorem k_X5 (l : Launch) (D : va_G) (cI cZ : ClassId) (b sz : Nat) : MC l yX5_init wsX5_init ({ frames := 2, cells := 26, slots := 294, locals := 32 }) D (ty2 cI cZ) [(b, .inr (5, [.null, .null, .null, .null, .null, .null, .int 0, .int 0]))] b sz (fun g => wX cI cZ g (fun _ _ => 0)) 26 294 := by
  refine Met.ofW (cc := cX5_init) (maxL := 1) (ret := none) (by decide) rfl ?_
  intro p e s m args below meth c s₁ B hml hv
  obtain ⟨rfl, hsz, hP, hK, hD0, hNL⟩ := hv
  have hx := B.exec
  have hb := B.bytes
  have hr := B.returns
  have hts := atoms_spec (ws := wsX5_init) B.pre
  have hown : s.vm.findClass RX5 = some m.cls := findClass_of_methodNamed B.named
  have hlocks := B.notSynchronized
  have hin : meth.name = "<init>" := (name_of_methodNamed B.named B.method).1
  subst hsz
  have hD := hD0.self (sz := s.heap.size)
  generalize hAe : va_A [(b, .inr (5, [.null, .null, .null, .null, .null, .null, .int 0, .int 0]))] s.heap.size = A at hD ⊢
  have hA : ∀ q : Nat, s.heap.size ≤ q → A q := fun q h => by rw [← hAe]; exact Or.inr h
  have hS : va_S A s.heap s.heap [] := va_S.rf
  have hP : va_P D vwCl [(b, .inr (5, [.null, .null, .null, .null, .null, .null, .int 0, .int 0]))] s.heap := hP
  have hl := lv_entry ([.ref b]) (n := 1) (Nat.le_of_ble_eq_true rfl)
  rw [lg_entry_eq]
  generalize (lg_sl ([.ref b]) ++ List.replicate (1 - (lg_sl ([.ref b])).length) Slot.unset).toArray = ls at hl ⊢
  have hl : lv_has ls 1 [(0, .ref b)] := hl
  refine lv_aload_n hx hb dX5_init_0 rfl (lv_at hl 0 rfl) ?_
  refine W.objInit hx hb hown (hts (.methodLink RX5 1 objectInit) (by decide +kernel)) (hts (.instanceMethod objectInit) (by decide +kernel)) (hts (Cond.code objectInit ⟨#[0xb1]⟩ 1 none) (by decide +kernel)) rfl (by rw [hml]; exact hl.1) rfl dX5_init_1 (Nat.le_of_ble_eq_true rfl) (Nat.le_of_ble_eq_true rfl) ?_
  refine W.eq (g2 := F0 m 4 ls []) rfl ?_
  refine lv_aload_n hx hb dX5_init_4 rfl (lv_at hl 0 rfl) ?_
  have hc_0 : 0 + 1 ≤ 26 := by decide
  have hs_0 : 0 + 1 ≤ 294 := by decide
  refine va_new (ci := 2) (fs := [.null]) (C := RX2) (T := TX2) (N := 1) hx hb hts (by decide +kernel) tyX2 tyX2_ok hown (hts (.classLink RX5 7 RX2) (by decide +kernel)) (hts (.instantiable RX2 1) (by decide +kernel)) (hts (.initialized RX2) (by decide +kernel)) hK hP hD hS hA rfl (fun j hj => by rcases (show j = 0 by omega) with rfl <;> rfl) hc_0 hs_0 dX5_init_5 (fun q0 H hP hD hS => ?_)
  have hP : va_P D vwCl [(b, .inr (5, [.null, .null, .null, .null, .null, .null, .int 0, .int 0])), (q0, .inr (2, [.null]))] H := hP
  have hD : va_D A [(b, .inr (5, [.null, .null, .null, .null, .null, .null, .int 0, .int 0])), (q0, .inr (2, [.null]))] := hD
  refine W.widen (k := 1) (n := 1) (by omega) (by omega) ?_
  refine lv_dup hx hb dX5_init_8 rfl ?_
  have hkc_0 : 1 + 1 ≤ 26 := by decide
  have hks_0 : 1 + 2 ≤ 294 := by decide
  have hPc := hP.sub (ws' := [(q0, .inr (2, [.null]))]) [1] rfl
  have hDc := hD.sub (ws' := [(q0, .inr (2, [.null]))]) [1] (by decide) rfl
  have hFc := va_free (wc := [(q0, .inr (2, [.null]))]) hD hS hA [1] rfl
  refine va_callv (va_runIN (As := []) (rest := [.ref q0, .ref b]) ⟨hx, hb, hml, hown, hts⟩ (k_X2 l D cI cZ q0 H.size) ⟨va_cnB 0 hts gX5_init_X2_init_n9 rfl rfl rfl hNL.1 (hts (.initialized RX2) (by decide +kernel)) (by decide +kernel) ⟨Nat.le_of_ble_eq_true rfl, Nat.le_of_ble_eq_true rfl⟩, rfl, hts (.instanceMethod yX2_init) (by decide +kernel)⟩ ⟨fun a U g mk q => ⟨q.1, q.2.calling⟩, fun U hU hW => ⟨rfl, PC.at hPc hK hDc hNL hU hW⟩⟩ rfl rfl hl.1 rfl (lv_room (Nat.le_of_ble_eq_true rfl)) dX5_init_9 ⟨hkc_0, hks_0⟩) hS (fun q _ h => hFc q h) hFc (fun u t H1 locs ht hvm hw hB hz1 hk1 hS => ?_)
  obtain ⟨g0, rfl⟩ : ∃ z, z = u := ⟨_, rfl⟩
  obtain ⟨hP1, hK1, hD1⟩ := hB
  rw [ht] at hP1
  obtain ⟨hPn, hDn⟩ := va_join (wr := [(b, .inr (5, [.null, .null, .null, .null, .null, .null, .int 0, .int 0]))]) (w1 := [(g0 0, .inr (2, [.ref (g0 1)])), (g0 1, .inl (cZ, 2, .inl (fun _ => 0)))]) hP hD [1] [0] rfl rfl (by decide) (by decide) hk1 hFc hP1 hD1
  clear hP hD
  generalize H1 = H at hPn hS ⊢
  have hw : g0 0 = q0 := hw
  subst hw
  have hP := hPn
  have hD := hDn
  have hP : va_P D vwCl [(b, .inr (5, [.null, .null, .null, .null, .null, .null, .int 0, .int 0])), (g0 0, .inr (2, [.ref (g0 1)])), (g0 1, .inl (cZ, 2, .inl (fun _ => 0)))] H := hP
  have hD : va_D A [(b, .inr (5, [.null, .null, .null, .null, .null, .null, .int 0, .int 0])), (g0 0, .inr (2, [.ref (g0 1)])), (g0 1, .inl (cZ, 2, .inl (fun _ => 0)))] := hD
  refine W.widen (k := 2) (n := 3) (by omega) (by omega) ?_
  refine va_putF (D := D) (ci := 5) (v := .ref (g0 0)) (ty := (.object "Warpyard$Tracks")) (C := RX5) (T := TX5) (N := 8) hx hb hts (by decide +kernel) tyX5 tyX5_ok nmX5 hown hK hP hD hS 0 rfl rfl 0 (by decide) (hts (.fieldLink RX5 10 "Warpyard" "tracks" "LWarpyard$Tracks;") (by decide +kernel)) (fun _ h9 => h9) rfl hin rfl (by decide +kernel) rfl rfl (Nat.le_of_ble_eq_true rfl) dX5_init_12 (fun H locs hP hD hS => ?_)
  have hP : va_P D vwCl [(b, .inr (5, [.ref (g0 0), .null, .null, .null, .null, .null, .int 0, .int 0])), (g0 0, .inr (2, [.ref (g0 1)])), (g0 1, .inl (cZ, 2, .inl (fun _ => 0)))] H := hP
  have hD : va_D A [(b, .inr (5, [.ref (g0 0), .null, .null, .null, .null, .null, .int 0, .int 0])), (g0 0, .inr (2, [.ref (g0 1)])), (g0 1, .inl (cZ, 2, .inl (fun _ => 0)))] := hD
  refine lv_aload_n hx hb dX5_init_15 rfl (lv_at hl 0 rfl) ?_
  have hc_1 : 2 + 1 ≤ 26 := by decide
  have hs_1 : 3 + 5 ≤ 294 := by decide
  refine va_new (ci := 3) (fs := [.null, .null, .null, .null, .int 0]) (C := RX3) (T := TX3) (N := 5) hx hb hts (by decide +kernel) tyX3 tyX3_ok hown (hts (.classLink RX5 16 RX3) (by decide +kernel)) (hts (.instantiable RX3 5) (by decide +kernel)) (hts (.initialized RX3) (by decide +kernel)) hK hP hD hS hA rfl (fun j hj => by rcases (show j = 0 ∨ j = 1 ∨ j = 2 ∨ j = 3 ∨ j = 4 by omega) with rfl | rfl | rfl | rfl | rfl <;> rfl) hc_1 hs_1 dX5_init_16 (fun q1 H hP hD hS => ?_)
  have hP : va_P D vwCl [(b, .inr (5, [.ref (g0 0), .null, .null, .null, .null, .null, .int 0, .int 0])), (g0 0, .inr (2, [.ref (g0 1)])), (g0 1, .inl (cZ, 2, .inl (fun _ => 0))), (q1, .inr (3, [.null, .null, .null, .null, .int 0]))] H := hP
  have hD : va_D A [(b, .inr (5, [.ref (g0 0), .null, .null, .null, .null, .null, .int 0, .int 0])), (g0 0, .inr (2, [.ref (g0 1)])), (g0 1, .inl (cZ, 2, .inl (fun _ => 0))), (q1, .inr (3, [.null, .null, .null, .null, .int 0]))] := hD
  refine W.widen (k := 3) (n := 8) (by omega) (by omega) ?_
  refine lv_dup hx hb dX5_init_19 rfl ?_
  have hkc_1 : 3 + 4 ≤ 26 := by decide
  have hks_1 : 8 + 16 ≤ 294 := by decide
  have hPc := hP.sub (ws' := [(q1, .inr (3, [.null, .null, .null, .null, .int 0]))]) [3] rfl
  have hDc := hD.sub (ws' := [(q1, .inr (3, [.null, .null, .null, .null, .int 0]))]) [3] (by decide) rfl
  have hFc := va_free (wc := [(q1, .inr (3, [.null, .null, .null, .null, .int 0]))]) hD hS hA [3] rfl
  refine va_callv (va_runIN (As := []) (rest := [.ref q1, .ref b]) ⟨hx, hb, hml, hown, hts⟩ (k_X3 l D cI cZ q1 H.size) ⟨va_cnB 0 hts gX5_init_X3_init_n18 rfl rfl rfl hNL.2.1 (hts (.initialized RX3) (by decide +kernel)) (by decide +kernel) ⟨Nat.le_of_ble_eq_true rfl, Nat.le_of_ble_eq_true rfl⟩, rfl, hts (.instanceMethod yX3_init) (by decide +kernel)⟩ ⟨fun a U g mk q => ⟨q.1, q.2.calling⟩, fun U hU hW => ⟨rfl, PC.at hPc hK hDc hNL hU hW⟩⟩ rfl rfl hl.1 rfl (lv_room (Nat.le_of_ble_eq_true rfl)) dX5_init_20 ⟨hkc_1, hks_1⟩) hS (fun q _ h => hFc q h) hFc (fun u t H1 locs ht hvm hw hB hz1 hk1 hS => ?_)
  obtain ⟨g1, rfl⟩ : ∃ z, z = u := ⟨_, rfl⟩
  obtain ⟨hP1, hK1, hD1⟩ := hB
  rw [ht] at hP1
  obtain ⟨hPn, hDn⟩ := va_join (wr := [(b, .inr (5, [.ref (g0 0), .null, .null, .null, .null, .null, .int 0, .int 0])), (g0 0, .inr (2, [.ref (g0 1)])), (g0 1, .inl (cZ, 2, .inl (fun _ => 0)))]) (w1 := [(g1 0, .inr (3, [.ref (g1 1), .ref (g1 2), .ref (g1 3), .ref (g1 4), .int 0])), (g1 1, .inl (cI, 4, .inl (fun _ => 0))), (g1 2, .inl (cZ, 4, .inl (fun _ => 0))), (g1 3, .inl (cZ, 4, .inl (fun _ => 0))), (g1 4, .inl (cI, 4, .inl (fun _ => 0)))]) hP hD [3] [0, 1, 2] rfl rfl (by decide) (by decide) hk1 hFc hP1 hD1
  clear hP hD
  generalize H1 = H at hPn hS ⊢
  have hw : g1 0 = q1 := hw
  subst hw
  have hP := hPn
  have hD := hDn
  have hP : va_P D vwCl [(b, .inr (5, [.ref (g0 0), .null, .null, .null, .null, .null, .int 0, .int 0])), (g0 0, .inr (2, [.ref (g0 1)])), (g0 1, .inl (cZ, 2, .inl (fun _ => 0))), (g1 0, .inr (3, [.ref (g1 1), .ref (g1 2), .ref (g1 3), .ref (g1 4), .int 0])), (g1 1, .inl (cI, 4, .inl (fun _ => 0))), (g1 2, .inl (cZ, 4, .inl (fun _ => 0))), (g1 3, .inl (cZ, 4, .inl (fun _ => 0))), (g1 4, .inl (cI, 4, .inl (fun _ => 0)))] H := hP
  have hD : va_D A [(b, .inr (5, [.ref (g0 0), .null, .null, .null, .null, .null, .int 0, .int 0])), (g0 0, .inr (2, [.ref (g0 1)])), (g0 1, .inl (cZ, 2, .inl (fun _ => 0))), (g1 0, .inr (3, [.ref (g1 1), .ref (g1 2), .ref (g1 3), .ref (g1 4), .int 0])), (g1 1, .inl (cI, 4, .inl (fun _ => 0))), (g1 2, .inl (cZ, 4, .inl (fun _ => 0))), (g1 3, .inl (cZ, 4, .inl (fun _ => 0))), (g1 4, .inl (cI, 4, .inl (fun _ => 0)))] := hD
  refine W.widen (k := 7) (n := 24) (by omega) (by omega) ?_
  refine va_putF (D := D) (ci := 5) (v := .ref (g1 0)) (ty := (.object "Warpyard$Trains")) (C := RX5) (T := TX5) (N := 8) hx hb hts (by decide +kernel) tyX5 tyX5_ok nmX5 hown hK hP hD hS 0 rfl rfl 1 (by decide) (hts (.fieldLink RX5 19 "Warpyard" "trains" "LWarpyard$Trains;") (by decide +kernel)) (fun _ h9 => h9) rfl hin rfl (by decide +kernel) rfl rfl (Nat.le_of_ble_eq_true rfl) dX5_init_23 (fun H locs hP hD hS => ?_)
  have hP : va_P D vwCl [(b, .inr (5, [.ref (g0 0), .ref (g1 0), .null, .null, .null, .null, .int 0, .int 0])), (g0 0, .inr (2, [.ref (g0 1)])), (g0 1, .inl (cZ, 2, .inl (fun _ => 0))), (g1 0, .inr (3, [.ref (g1 1), .ref (g1 2), .ref (g1 3), .ref (g1 4), .int 0])), (g1 1, .inl (cI, 4, .inl (fun _ => 0))), (g1 2, .inl (cZ, 4, .inl (fun _ => 0))), (g1 3, .inl (cZ, 4, .inl (fun _ => 0))), (g1 4, .inl (cI, 4, .inl (fun _ => 0)))] H := hP
  have hD : va_D A [(b, .inr (5, [.ref (g0 0), .ref (g1 0), .null, .null, .null, .null, .int 0, .int 0])), (g0 0, .inr (2, [.ref (g0 1)])), (g0 1, .inl (cZ, 2, .inl (fun _ => 0))), (g1 0, .inr (3, [.ref (g1 1), .ref (g1 2), .ref (g1 3), .ref (g1 4), .int 0])), (g1 1, .inl (cI, 4, .inl (fun _ => 0))), (g1 2, .inl (cZ, 4, .inl (fun _ => 0))), (g1 3, .inl (cZ, 4, .inl (fun _ => 0))), (g1 4, .inl (cI, 4, .inl (fun _ => 0)))] := hD
  refine lv_aload_n hx hb dX5_init_26 rfl (lv_at hl 0 rfl) ?_
  have hc_2 : 7 + 1 ≤ 26 := by decide
  have hs_2 : 24 + 5 ≤ 294 := by decide
  refine va_new (ci := 3) (fs := [.null, .null, .null, .null, .int 0]) (C := RX3) (T := TX3) (N := 5) hx hb hts (by decide +kernel) tyX3 tyX3_ok hown (hts (.classLink RX5 16 RX3) (by decide +kernel)) (hts (.instantiable RX3 5) (by decide +kernel)) (hts (.initialized RX3) (by decide +kernel)) hK hP hD hS hA rfl (fun j hj => by rcases (show j = 0 ∨ j = 1 ∨ j = 2 ∨ j = 3 ∨ j = 4 by omega) with rfl | rfl | rfl | rfl | rfl <;> rfl) hc_2 hs_2 dX5_init_27 (fun q2 H hP hD hS => ?_)
  have hP : va_P D vwCl [(b, .inr (5, [.ref (g0 0), .ref (g1 0), .null, .null, .null, .null, .int 0, .int 0])), (g0 0, .inr (2, [.ref (g0 1)])), (g0 1, .inl (cZ, 2, .inl (fun _ => 0))), (g1 0, .inr (3, [.ref (g1 1), .ref (g1 2), .ref (g1 3), .ref (g1 4), .int 0])), (g1 1, .inl (cI, 4, .inl (fun _ => 0))), (g1 2, .inl (cZ, 4, .inl (fun _ => 0))), (g1 3, .inl (cZ, 4, .inl (fun _ => 0))), (g1 4, .inl (cI, 4, .inl (fun _ => 0))), (q2, .inr (3, [.null, .null, .null, .null, .int 0]))] H := hP
  have hD : va_D A [(b, .inr (5, [.ref (g0 0), .ref (g1 0), .null, .null, .null, .null, .int 0, .int 0])), (g0 0, .inr (2, [.ref (g0 1)])), (g0 1, .inl (cZ, 2, .inl (fun _ => 0))), (g1 0, .inr (3, [.ref (g1 1), .ref (g1 2), .ref (g1 3), .ref (g1 4), .int 0])), (g1 1, .inl (cI, 4, .inl (fun _ => 0))), (g1 2, .inl (cZ, 4, .inl (fun _ => 0))), (g1 3, .inl (cZ, 4, .inl (fun _ => 0))), (g1 4, .inl (cI, 4, .inl (fun _ => 0))), (q2, .inr (3, [.null, .null, .null, .null, .int 0]))] := hD
  refine W.widen (k := 8) (n := 29) (by omega) (by omega) ?_
  refine lv_dup hx hb dX5_init_30 rfl ?_
  have hkc_2 : 8 + 4 ≤ 26 := by decide
  have hks_2 : 29 + 16 ≤ 294 := by decide
  have hPc := hP.sub (ws' := [(q2, .inr (3, [.null, .null, .null, .null, .int 0]))]) [8] rfl
  have hDc := hD.sub (ws' := [(q2, .inr (3, [.null, .null, .null, .null, .int 0]))]) [8] (by decide) rfl
  have hFc := va_free (wc := [(q2, .inr (3, [.null, .null, .null, .null, .int 0]))]) hD hS hA [8] rfl
  refine va_callv (va_runIN (As := []) (rest := [.ref q2, .ref b]) ⟨hx, hb, hml, hown, hts⟩ (k_X3 l D cI cZ q2 H.size) ⟨va_cnB 0 hts gX5_init_X3_init_n18 rfl rfl rfl hNL.2.1 (hts (.initialized RX3) (by decide +kernel)) (by decide +kernel) ⟨Nat.le_of_ble_eq_true rfl, Nat.le_of_ble_eq_true rfl⟩, rfl, hts (.instanceMethod yX3_init) (by decide +kernel)⟩ ⟨fun a U g mk q => ⟨q.1, q.2.calling⟩, fun U hU hW => ⟨rfl, PC.at hPc hK hDc hNL hU hW⟩⟩ rfl rfl hl.1 rfl (lv_room (Nat.le_of_ble_eq_true rfl)) dX5_init_31 ⟨hkc_2, hks_2⟩) hS (fun q _ h => hFc q h) hFc (fun u t H1 locs ht hvm hw hB hz1 hk1 hS => ?_)
  obtain ⟨g2, rfl⟩ : ∃ z, z = u := ⟨_, rfl⟩
  obtain ⟨hP1, hK1, hD1⟩ := hB
  rw [ht] at hP1
  obtain ⟨hPn, hDn⟩ := va_join (wr := [(b, .inr (5, [.ref (g0 0), .ref (g1 0), .null, .null, .null, .null, .int 0, .int 0])), (g0 0, .inr (2, [.ref (g0 1)])), (g0 1, .inl (cZ, 2, .inl (fun _ => 0))), (g1 0, .inr (3, [.ref (g1 1), .ref (g1 2), .ref (g1 3), .ref (g1 4), .int 0])), (g1 1, .inl (cI, 4, .inl (fun _ => 0))), (g1 2, .inl (cZ, 4, .inl (fun _ => 0))), (g1 3, .inl (cZ, 4, .inl (fun _ => 0))), (g1 4, .inl (cI, 4, .inl (fun _ => 0)))]) (w1 := [(g2 0, .inr (3, [.ref (g2 1), .ref (g2 2), .ref (g2 3), .ref (g2 4), .int 0])), (g2 1, .inl (cI, 4, .inl (fun _ => 0))), (g2 2, .inl (cZ, 4, .inl (fun _ => 0))), (g2 3, .inl (cZ, 4, .inl (fun _ => 0))), (g2 4, .inl (cI, 4, .inl (fun _ => 0)))]) hP hD [8] [0, 1, 2, 3, 4, 5, 6, 7] rfl rfl (by decide) (by decide) hk1 hFc hP1 hD1
  clear hP hD
  generalize H1 = H at hPn hS ⊢
  have hw : g2 0 = q2 := hw
  subst hw
  have hP := hPn
  have hD := hDn
  have hP : va_P D vwCl [(b, .inr (5, [.ref (g0 0), .ref (g1 0), .null, .null, .null, .null, .int 0, .int 0])), (g0 0, .inr (2, [.ref (g0 1)])), (g0 1, .inl (cZ, 2, .inl (fun _ => 0))), (g1 0, .inr (3, [.ref (g1 1), .ref (g1 2), .ref (g1 3), .ref (g1 4), .int 0])), (g1 1, .inl (cI, 4, .inl (fun _ => 0))), (g1 2, .inl (cZ, 4, .inl (fun _ => 0))), (g1 3, .inl (cZ, 4, .inl (fun _ => 0))), (g1 4, .inl (cI, 4, .inl (fun _ => 0))), (g2 0, .inr (3, [.ref (g2 1), .ref (g2 2), .ref (g2 3), .ref (g2 4), .int 0])), (g2 1, .inl (cI, 4, .inl (fun _ => 0))), (g2 2, .inl (cZ, 4, .inl (fun _ => 0))), (g2 3, .inl (cZ, 4, .inl (fun _ => 0))), (g2 4, .inl (cI, 4, .inl (fun _ => 0)))] H := hP
  have hD : va_D A [(b, .inr (5, [.ref (g0 0), .ref (g1 0), .null, .null, .null, .null, .int 0, .int 0])), (g0 0, .inr (2, [.ref (g0 1)])), (g0 1, .inl (cZ, 2, .inl (fun _ => 0))), (g1 0, .inr (3, [.ref (g1 1), .ref (g1 2), .ref (g1 3), .ref (g1 4), .int 0])), (g1 1, .inl (cI, 4, .inl (fun _ => 0))), (g1 2, .inl (cZ, 4, .inl (fun _ => 0))), (g1 3, .inl (cZ, 4, .inl (fun _ => 0))), (g1 4, .inl (cI, 4, .inl (fun _ => 0))), (g2 0, .inr (3, [.ref (g2 1), .ref (g2 2), .ref (g2 3), .ref (g2 4), .int 0])), (g2 1, .inl (cI, 4, .inl (fun _ => 0))), (g2 2, .inl (cZ, 4, .inl (fun _ => 0))), (g2 3, .inl (cZ, 4, .inl (fun _ => 0))), (g2 4, .inl (cI, 4, .inl (fun _ => 0)))] := hD
  refine W.widen (k := 12) (n := 45) (by omega) (by omega) ?_
  refine va_putF (D := D) (ci := 5) (v := .ref (g2 0)) (ty := (.object "Warpyard$Trains")) (C := RX5) (T := TX5) (N := 8) hx hb hts (by decide +kernel) tyX5 tyX5_ok nmX5 hown hK hP hD hS 0 rfl rfl 2 (by decide) (hts (.fieldLink RX5 23 "Warpyard" "trial" "LWarpyard$Trains;") (by decide +kernel)) (fun _ h9 => h9) rfl hin rfl (by decide +kernel) rfl rfl (Nat.le_of_ble_eq_true rfl) dX5_init_34 (fun H locs hP hD hS => ?_)
  have hP : va_P D vwCl [(b, .inr (5, [.ref (g0 0), .ref (g1 0), .ref (g2 0), .null, .null, .null, .int 0, .int 0])), (g0 0, .inr (2, [.ref (g0 1)])), (g0 1, .inl (cZ, 2, .inl (fun _ => 0))), (g1 0, .inr (3, [.ref (g1 1), .ref (g1 2), .ref (g1 3), .ref (g1 4), .int 0])), (g1 1, .inl (cI, 4, .inl (fun _ => 0))), (g1 2, .inl (cZ, 4, .inl (fun _ => 0))), (g1 3, .inl (cZ, 4, .inl (fun _ => 0))), (g1 4, .inl (cI, 4, .inl (fun _ => 0))), (g2 0, .inr (3, [.ref (g2 1), .ref (g2 2), .ref (g2 3), .ref (g2 4), .int 0])), (g2 1, .inl (cI, 4, .inl (fun _ => 0))), (g2 2, .inl (cZ, 4, .inl (fun _ => 0))), (g2 3, .inl (cZ, 4, .inl (fun _ => 0))), (g2 4, .inl (cI, 4, .inl (fun _ => 0)))] H := hP
  have hD : va_D A [(b, .inr (5, [.ref (g0 0), .ref (g1 0), .ref (g2 0), .null, .null, .null, .int 0, .int 0])), (g0 0, .inr (2, [.ref (g0 1)])), (g0 1, .inl (cZ, 2, .inl (fun _ => 0))), (g1 0, .inr (3, [.ref (g1 1), .ref (g1 2), .ref (g1 3), .ref (g1 4), .int 0])), (g1 1, .inl (cI, 4, .inl (fun _ => 0))), (g1 2, .inl (cZ, 4, .inl (fun _ => 0))), (g1 3, .inl (cZ, 4, .inl (fun _ => 0))), (g1 4, .inl (cI, 4, .inl (fun _ => 0))), (g2 0, .inr (3, [.ref (g2 1), .ref (g2 2), .ref (g2 3), .ref (g2 4), .int 0])), (g2 1, .inl (cI, 4, .inl (fun _ => 0))), (g2 2, .inl (cZ, 4, .inl (fun _ => 0))), (g2 3, .inl (cZ, 4, .inl (fun _ => 0))), (g2 4, .inl (cI, 4, .inl (fun _ => 0)))] := hD
  refine lv_aload_n hx hb dX5_init_37 rfl (lv_at hl 0 rfl) ?_
  have hc_3 : 12 + 1 ≤ 26 := by decide
  have hs_3 : 45 + 6 ≤ 294 := by decide
  refine va_new (ci := 0) (fs := [.null, .null, .null, .null, .null, .int 0]) (C := RX0) (T := TX0) (N := 6) hx hb hts (by decide +kernel) tyX0 tyX0_ok hown (hts (.classLink RX5 26 RX0) (by decide +kernel)) (hts (.instantiable RX0 6) (by decide +kernel)) (hts (.initialized RX0) (by decide +kernel)) hK hP hD hS hA rfl (fun j hj => by rcases (show j = 0 ∨ j = 1 ∨ j = 2 ∨ j = 3 ∨ j = 4 ∨ j = 5 by omega) with rfl | rfl | rfl | rfl | rfl | rfl <;> rfl) hc_3 hs_3 dX5_init_38 (fun q3 H hP hD hS => ?_)
  have hP : va_P D vwCl [(b, .inr (5, [.ref (g0 0), .ref (g1 0), .ref (g2 0), .null, .null, .null, .int 0, .int 0])), (g0 0, .inr (2, [.ref (g0 1)])), (g0 1, .inl (cZ, 2, .inl (fun _ => 0))), (g1 0, .inr (3, [.ref (g1 1), .ref (g1 2), .ref (g1 3), .ref (g1 4), .int 0])), (g1 1, .inl (cI, 4, .inl (fun _ => 0))), (g1 2, .inl (cZ, 4, .inl (fun _ => 0))), (g1 3, .inl (cZ, 4, .inl (fun _ => 0))), (g1 4, .inl (cI, 4, .inl (fun _ => 0))), (g2 0, .inr (3, [.ref (g2 1), .ref (g2 2), .ref (g2 3), .ref (g2 4), .int 0])), (g2 1, .inl (cI, 4, .inl (fun _ => 0))), (g2 2, .inl (cZ, 4, .inl (fun _ => 0))), (g2 3, .inl (cZ, 4, .inl (fun _ => 0))), (g2 4, .inl (cI, 4, .inl (fun _ => 0))), (q3, .inr (0, [.null, .null, .null, .null, .null, .int 0]))] H := hP
  have hD : va_D A [(b, .inr (5, [.ref (g0 0), .ref (g1 0), .ref (g2 0), .null, .null, .null, .int 0, .int 0])), (g0 0, .inr (2, [.ref (g0 1)])), (g0 1, .inl (cZ, 2, .inl (fun _ => 0))), (g1 0, .inr (3, [.ref (g1 1), .ref (g1 2), .ref (g1 3), .ref (g1 4), .int 0])), (g1 1, .inl (cI, 4, .inl (fun _ => 0))), (g1 2, .inl (cZ, 4, .inl (fun _ => 0))), (g1 3, .inl (cZ, 4, .inl (fun _ => 0))), (g1 4, .inl (cI, 4, .inl (fun _ => 0))), (g2 0, .inr (3, [.ref (g2 1), .ref (g2 2), .ref (g2 3), .ref (g2 4), .int 0])), (g2 1, .inl (cI, 4, .inl (fun _ => 0))), (g2 2, .inl (cZ, 4, .inl (fun _ => 0))), (g2 3, .inl (cZ, 4, .inl (fun _ => 0))), (g2 4, .inl (cI, 4, .inl (fun _ => 0))), (q3, .inr (0, [.null, .null, .null, .null, .null, .int 0]))] := hD
  refine W.widen (k := 13) (n := 51) (by omega) (by omega) ?_
  refine lv_dup hx hb dX5_init_41 rfl ?_
  have hkc_3 : 13 + 5 ≤ 26 := by decide
  have hks_3 : 51 + 150 ≤ 294 := by decide
  have hPc := hP.sub (ws' := [(q3, .inr (0, [.null, .null, .null, .null, .null, .int 0]))]) [13] rfl
  have hDc := hD.sub (ws' := [(q3, .inr (0, [.null, .null, .null, .null, .null, .int 0]))]) [13] (by decide) rfl
  have hFc := va_free (wc := [(q3, .inr (0, [.null, .null, .null, .null, .null, .int 0]))]) hD hS hA [13] rfl
  refine va_callv (va_runIN (As := []) (rest := [.ref q3, .ref b]) ⟨hx, hb, hml, hown, hts⟩ (k_X0 l D cI cZ q3 H.size) ⟨va_cnB 0 hts gX5_init_X0_init_n28 rfl rfl rfl hNL.2.2.1 (hts (.initialized RX0) (by decide +kernel)) (by decide +kernel) ⟨Nat.le_of_ble_eq_true rfl, Nat.le_of_ble_eq_true rfl⟩, rfl, hts (.instanceMethod yX0_init) (by decide +kernel)⟩ ⟨fun a U g mk q => ⟨q.1, q.2.calling⟩, fun U hU hW => ⟨rfl, PC.at hPc hK hDc hNL hU hW⟩⟩ rfl rfl hl.1 rfl (lv_room (Nat.le_of_ble_eq_true rfl)) dX5_init_42 ⟨hkc_3, hks_3⟩) hS (fun q _ h => hFc q h) hFc (fun u t H1 locs ht hvm hw hB hz1 hk1 hS => ?_)
  obtain ⟨g3, rfl⟩ : ∃ z, z = u := ⟨_, rfl⟩
  obtain ⟨hP1, hK1, hD1⟩ := hB
  rw [ht] at hP1
  obtain ⟨hPn, hDn⟩ := va_join (wr := [(b, .inr (5, [.ref (g0 0), .ref (g1 0), .ref (g2 0), .null, .null, .null, .int 0, .int 0])), (g0 0, .inr (2, [.ref (g0 1)])), (g0 1, .inl (cZ, 2, .inl (fun _ => 0))), (g1 0, .inr (3, [.ref (g1 1), .ref (g1 2), .ref (g1 3), .ref (g1 4), .int 0])), (g1 1, .inl (cI, 4, .inl (fun _ => 0))), (g1 2, .inl (cZ, 4, .inl (fun _ => 0))), (g1 3, .inl (cZ, 4, .inl (fun _ => 0))), (g1 4, .inl (cI, 4, .inl (fun _ => 0))), (g2 0, .inr (3, [.ref (g2 1), .ref (g2 2), .ref (g2 3), .ref (g2 4), .int 0])), (g2 1, .inl (cI, 4, .inl (fun _ => 0))), (g2 2, .inl (cZ, 4, .inl (fun _ => 0))), (g2 3, .inl (cZ, 4, .inl (fun _ => 0))), (g2 4, .inl (cI, 4, .inl (fun _ => 0)))]) (w1 := [(g3 0, .inr (0, [.ref (g3 1), .ref (g3 2), .ref (g3 3), .ref (g3 4), .ref (g3 5), .int 0])), (g3 1, .inl (cI, 30, .inl (fun _ => 0))), (g3 2, .inl (cI, 30, .inl (fun _ => 0))), (g3 3, .inl (cI, 30, .inl (fun _ => 0))), (g3 4, .inl (cI, 30, .inl (fun _ => 0))), (g3 5, .inl (cI, 30, .inl (fun _ => 0)))]) hP hD [13] [0, 1, 2, 3, 4, 5, 6, 7, 8, 9, 10, 11, 12] rfl rfl (by decide) (by decide) hk1 hFc hP1 hD1
  clear hP hD
  generalize H1 = H at hPn hS ⊢
  have hw : g3 0 = q3 := hw
  subst hw
  have hP := hPn
  have hD := hDn
  have hP : va_P D vwCl [(b, .inr (5, [.ref (g0 0), .ref (g1 0), .ref (g2 0), .null, .null, .null, .int 0, .int 0])), (g0 0, .inr (2, [.ref (g0 1)])), (g0 1, .inl (cZ, 2, .inl (fun _ => 0))), (g1 0, .inr (3, [.ref (g1 1), .ref (g1 2), .ref (g1 3), .ref (g1 4), .int 0])), (g1 1, .inl (cI, 4, .inl (fun _ => 0))), (g1 2, .inl (cZ, 4, .inl (fun _ => 0))), (g1 3, .inl (cZ, 4, .inl (fun _ => 0))), (g1 4, .inl (cI, 4, .inl (fun _ => 0))), (g2 0, .inr (3, [.ref (g2 1), .ref (g2 2), .ref (g2 3), .ref (g2 4), .int 0])), (g2 1, .inl (cI, 4, .inl (fun _ => 0))), (g2 2, .inl (cZ, 4, .inl (fun _ => 0))), (g2 3, .inl (cZ, 4, .inl (fun _ => 0))), (g2 4, .inl (cI, 4, .inl (fun _ => 0))), (g3 0, .inr (0, [.ref (g3 1), .ref (g3 2), .ref (g3 3), .ref (g3 4), .ref (g3 5), .int 0])), (g3 1, .inl (cI, 30, .inl (fun _ => 0))), (g3 2, .inl (cI, 30, .inl (fun _ => 0))), (g3 3, .inl (cI, 30, .inl (fun _ => 0))), (g3 4, .inl (cI, 30, .inl (fun _ => 0))), (g3 5, .inl (cI, 30, .inl (fun _ => 0)))] H := hP
  have hD : va_D A [(b, .inr (5, [.ref (g0 0), .ref (g1 0), .ref (g2 0), .null, .null, .null, .int 0, .int 0])), (g0 0, .inr (2, [.ref (g0 1)])), (g0 1, .inl (cZ, 2, .inl (fun _ => 0))), (g1 0, .inr (3, [.ref (g1 1), .ref (g1 2), .ref (g1 3), .ref (g1 4), .int 0])), (g1 1, .inl (cI, 4, .inl (fun _ => 0))), (g1 2, .inl (cZ, 4, .inl (fun _ => 0))), (g1 3, .inl (cZ, 4, .inl (fun _ => 0))), (g1 4, .inl (cI, 4, .inl (fun _ => 0))), (g2 0, .inr (3, [.ref (g2 1), .ref (g2 2), .ref (g2 3), .ref (g2 4), .int 0])), (g2 1, .inl (cI, 4, .inl (fun _ => 0))), (g2 2, .inl (cZ, 4, .inl (fun _ => 0))), (g2 3, .inl (cZ, 4, .inl (fun _ => 0))), (g2 4, .inl (cI, 4, .inl (fun _ => 0))), (g3 0, .inr (0, [.ref (g3 1), .ref (g3 2), .ref (g3 3), .ref (g3 4), .ref (g3 5), .int 0])), (g3 1, .inl (cI, 30, .inl (fun _ => 0))), (g3 2, .inl (cI, 30, .inl (fun _ => 0))), (g3 3, .inl (cI, 30, .inl (fun _ => 0))), (g3 4, .inl (cI, 30, .inl (fun _ => 0))), (g3 5, .inl (cI, 30, .inl (fun _ => 0)))] := hD
  refine W.widen (k := 18) (n := 201) (by omega) (by omega) ?_
  refine va_putF (D := D) (ci := 5) (v := .ref (g3 0)) (ty := (.object "Warpyard$Bookings")) (C := RX5) (T := TX5) (N := 8) hx hb hts (by decide +kernel) tyX5 tyX5_ok nmX5 hown hK hP hD hS 0 rfl rfl 3 (by decide) (hts (.fieldLink RX5 29 "Warpyard" "bookings" "LWarpyard$Bookings;") (by decide +kernel)) (fun _ h9 => h9) rfl hin rfl (by decide +kernel) rfl rfl (Nat.le_of_ble_eq_true rfl) dX5_init_45 (fun H locs hP hD hS => ?_)
  have hP : va_P D vwCl [(b, .inr (5, [.ref (g0 0), .ref (g1 0), .ref (g2 0), .ref (g3 0), .null, .null, .int 0, .int 0])), (g0 0, .inr (2, [.ref (g0 1)])), (g0 1, .inl (cZ, 2, .inl (fun _ => 0))), (g1 0, .inr (3, [.ref (g1 1), .ref (g1 2), .ref (g1 3), .ref (g1 4), .int 0])), (g1 1, .inl (cI, 4, .inl (fun _ => 0))), (g1 2, .inl (cZ, 4, .inl (fun _ => 0))), (g1 3, .inl (cZ, 4, .inl (fun _ => 0))), (g1 4, .inl (cI, 4, .inl (fun _ => 0))), (g2 0, .inr (3, [.ref (g2 1), .ref (g2 2), .ref (g2 3), .ref (g2 4), .int 0])), (g2 1, .inl (cI, 4, .inl (fun _ => 0))), (g2 2, .inl (cZ, 4, .inl (fun _ => 0))), (g2 3, .inl (cZ, 4, .inl (fun _ => 0))), (g2 4, .inl (cI, 4, .inl (fun _ => 0))), (g3 0, .inr (0, [.ref (g3 1), .ref (g3 2), .ref (g3 3), .ref (g3 4), .ref (g3 5), .int 0])), (g3 1, .inl (cI, 30, .inl (fun _ => 0))), (g3 2, .inl (cI, 30, .inl (fun _ => 0))), (g3 3, .inl (cI, 30, .inl (fun _ => 0))), (g3 4, .inl (cI, 30, .inl (fun _ => 0))), (g3 5, .inl (cI, 30, .inl (fun _ => 0)))] H := hP
  have hD : va_D A [(b, .inr (5, [.ref (g0 0), .ref (g1 0), .ref (g2 0), .ref (g3 0), .null, .null, .int 0, .int 0])), (g0 0, .inr (2, [.ref (g0 1)])), (g0 1, .inl (cZ, 2, .inl (fun _ => 0))), (g1 0, .inr (3, [.ref (g1 1), .ref (g1 2), .ref (g1 3), .ref (g1 4), .int 0])), (g1 1, .inl (cI, 4, .inl (fun _ => 0))), (g1 2, .inl (cZ, 4, .inl (fun _ => 0))), (g1 3, .inl (cZ, 4, .inl (fun _ => 0))), (g1 4, .inl (cI, 4, .inl (fun _ => 0))), (g2 0, .inr (3, [.ref (g2 1), .ref (g2 2), .ref (g2 3), .ref (g2 4), .int 0])), (g2 1, .inl (cI, 4, .inl (fun _ => 0))), (g2 2, .inl (cZ, 4, .inl (fun _ => 0))), (g2 3, .inl (cZ, 4, .inl (fun _ => 0))), (g2 4, .inl (cI, 4, .inl (fun _ => 0))), (g3 0, .inr (0, [.ref (g3 1), .ref (g3 2), .ref (g3 3), .ref (g3 4), .ref (g3 5), .int 0])), (g3 1, .inl (cI, 30, .inl (fun _ => 0))), (g3 2, .inl (cI, 30, .inl (fun _ => 0))), (g3 3, .inl (cI, 30, .inl (fun _ => 0))), (g3 4, .inl (cI, 30, .inl (fun _ => 0))), (g3 5, .inl (cI, 30, .inl (fun _ => 0)))] := hD
  refine lv_aload_n hx hb dX5_init_48 rfl (lv_at hl 0 rfl) ?_
  have hc_4 : 18 + 1 ≤ 26 := by decide
  have hs_4 : 201 + 4 ≤ 294 := by decide
  refine va_new (ci := 4) (fs := [.null, .null, .null, .int 0]) (C := RX4) (T := TX4) (N := 4) hx hb hts (by decide +kernel) tyX4 tyX4_ok hown (hts (.classLink RX5 33 RX4) (by decide +kernel)) (hts (.instantiable RX4 4) (by decide +kernel)) (hts (.initialized RX4) (by decide +kernel)) hK hP hD hS hA rfl (fun j hj => by rcases (show j = 0 ∨ j = 1 ∨ j = 2 ∨ j = 3 by omega) with rfl | rfl | rfl | rfl <;> rfl) hc_4 hs_4 dX5_init_49 (fun q4 H hP hD hS => ?_)
  have hP : va_P D vwCl [(b, .inr (5, [.ref (g0 0), .ref (g1 0), .ref (g2 0), .ref (g3 0), .null, .null, .int 0, .int 0])), (g0 0, .inr (2, [.ref (g0 1)])), (g0 1, .inl (cZ, 2, .inl (fun _ => 0))), (g1 0, .inr (3, [.ref (g1 1), .ref (g1 2), .ref (g1 3), .ref (g1 4), .int 0])), (g1 1, .inl (cI, 4, .inl (fun _ => 0))), (g1 2, .inl (cZ, 4, .inl (fun _ => 0))), (g1 3, .inl (cZ, 4, .inl (fun _ => 0))), (g1 4, .inl (cI, 4, .inl (fun _ => 0))), (g2 0, .inr (3, [.ref (g2 1), .ref (g2 2), .ref (g2 3), .ref (g2 4), .int 0])), (g2 1, .inl (cI, 4, .inl (fun _ => 0))), (g2 2, .inl (cZ, 4, .inl (fun _ => 0))), (g2 3, .inl (cZ, 4, .inl (fun _ => 0))), (g2 4, .inl (cI, 4, .inl (fun _ => 0))), (g3 0, .inr (0, [.ref (g3 1), .ref (g3 2), .ref (g3 3), .ref (g3 4), .ref (g3 5), .int 0])), (g3 1, .inl (cI, 30, .inl (fun _ => 0))), (g3 2, .inl (cI, 30, .inl (fun _ => 0))), (g3 3, .inl (cI, 30, .inl (fun _ => 0))), (g3 4, .inl (cI, 30, .inl (fun _ => 0))), (g3 5, .inl (cI, 30, .inl (fun _ => 0))), (q4, .inr (4, [.null, .null, .null, .int 0]))] H := hP
  have hD : va_D A [(b, .inr (5, [.ref (g0 0), .ref (g1 0), .ref (g2 0), .ref (g3 0), .null, .null, .int 0, .int 0])), (g0 0, .inr (2, [.ref (g0 1)])), (g0 1, .inl (cZ, 2, .inl (fun _ => 0))), (g1 0, .inr (3, [.ref (g1 1), .ref (g1 2), .ref (g1 3), .ref (g1 4), .int 0])), (g1 1, .inl (cI, 4, .inl (fun _ => 0))), (g1 2, .inl (cZ, 4, .inl (fun _ => 0))), (g1 3, .inl (cZ, 4, .inl (fun _ => 0))), (g1 4, .inl (cI, 4, .inl (fun _ => 0))), (g2 0, .inr (3, [.ref (g2 1), .ref (g2 2), .ref (g2 3), .ref (g2 4), .int 0])), (g2 1, .inl (cI, 4, .inl (fun _ => 0))), (g2 2, .inl (cZ, 4, .inl (fun _ => 0))), (g2 3, .inl (cZ, 4, .inl (fun _ => 0))), (g2 4, .inl (cI, 4, .inl (fun _ => 0))), (g3 0, .inr (0, [.ref (g3 1), .ref (g3 2), .ref (g3 3), .ref (g3 4), .ref (g3 5), .int 0])), (g3 1, .inl (cI, 30, .inl (fun _ => 0))), (g3 2, .inl (cI, 30, .inl (fun _ => 0))), (g3 3, .inl (cI, 30, .inl (fun _ => 0))), (g3 4, .inl (cI, 30, .inl (fun _ => 0))), (g3 5, .inl (cI, 30, .inl (fun _ => 0))), (q4, .inr (4, [.null, .null, .null, .int 0]))] := hD
  refine W.widen (k := 19) (n := 205) (by omega) (by omega) ?_
  refine lv_dup hx hb dX5_init_52 rfl ?_
  have hkc_4 : 19 + 3 ≤ 26 := by decide
  have hks_4 : 205 + 62 ≤ 294 := by decide
  have hPc := hP.sub (ws' := [(q4, .inr (4, [.null, .null, .null, .int 0]))]) [19] rfl
  have hDc := hD.sub (ws' := [(q4, .inr (4, [.null, .null, .null, .int 0]))]) [19] (by decide) rfl
  have hFc := va_free (wc := [(q4, .inr (4, [.null, .null, .null, .int 0]))]) hD hS hA [19] rfl
  refine va_callv (va_runIN (As := []) (rest := [.ref q4, .ref b]) ⟨hx, hb, hml, hown, hts⟩ (k_X4 l D cI cZ q4 H.size) ⟨va_cnB 0 hts gX5_init_X4_init_n35 rfl rfl rfl hNL.2.2.2.1 (hts (.initialized RX4) (by decide +kernel)) (by decide +kernel) ⟨Nat.le_of_ble_eq_true rfl, Nat.le_of_ble_eq_true rfl⟩, rfl, hts (.instanceMethod yX4_init) (by decide +kernel)⟩ ⟨fun a U g mk q => ⟨q.1, q.2.calling⟩, fun U hU hW => ⟨rfl, PC.at hPc hK hDc hNL hU hW⟩⟩ rfl rfl hl.1 rfl (lv_room (Nat.le_of_ble_eq_true rfl)) dX5_init_53 ⟨hkc_4, hks_4⟩) hS (fun q _ h => hFc q h) hFc (fun u t H1 locs ht hvm hw hB hz1 hk1 hS => ?_)
  obtain ⟨g4, rfl⟩ : ∃ z, z = u := ⟨_, rfl⟩
  obtain ⟨hP1, hK1, hD1⟩ := hB
  rw [ht] at hP1
  obtain ⟨hPn, hDn⟩ := va_join (wr := [(b, .inr (5, [.ref (g0 0), .ref (g1 0), .ref (g2 0), .ref (g3 0), .null, .null, .int 0, .int 0])), (g0 0, .inr (2, [.ref (g0 1)])), (g0 1, .inl (cZ, 2, .inl (fun _ => 0))), (g1 0, .inr (3, [.ref (g1 1), .ref (g1 2), .ref (g1 3), .ref (g1 4), .int 0])), (g1 1, .inl (cI, 4, .inl (fun _ => 0))), (g1 2, .inl (cZ, 4, .inl (fun _ => 0))), (g1 3, .inl (cZ, 4, .inl (fun _ => 0))), (g1 4, .inl (cI, 4, .inl (fun _ => 0))), (g2 0, .inr (3, [.ref (g2 1), .ref (g2 2), .ref (g2 3), .ref (g2 4), .int 0])), (g2 1, .inl (cI, 4, .inl (fun _ => 0))), (g2 2, .inl (cZ, 4, .inl (fun _ => 0))), (g2 3, .inl (cZ, 4, .inl (fun _ => 0))), (g2 4, .inl (cI, 4, .inl (fun _ => 0))), (g3 0, .inr (0, [.ref (g3 1), .ref (g3 2), .ref (g3 3), .ref (g3 4), .ref (g3 5), .int 0])), (g3 1, .inl (cI, 30, .inl (fun _ => 0))), (g3 2, .inl (cI, 30, .inl (fun _ => 0))), (g3 3, .inl (cI, 30, .inl (fun _ => 0))), (g3 4, .inl (cI, 30, .inl (fun _ => 0))), (g3 5, .inl (cI, 30, .inl (fun _ => 0)))]) (w1 := [(g4 0, .inr (4, [.ref (g4 1), .ref (g4 2), .ref (g4 3), .int 0])), (g4 1, .inl (cI, 8, .inl (fun _ => 0))), (g4 2, .inl (cI, 6, .inl (fun _ => 0))), (g4 3, .inl (cI, 48, .inl (fun _ => 0)))]) hP hD [19] [0, 1, 2, 3, 4, 5, 6, 7, 8, 9, 10, 11, 12, 13, 14, 15, 16, 17, 18] rfl rfl (by decide) (by decide) hk1 hFc hP1 hD1
  clear hP hD
  generalize H1 = H at hPn hS ⊢
  have hw : g4 0 = q4 := hw
  subst hw
  have hP := hPn
  have hD := hDn
  have hP : va_P D vwCl [(b, .inr (5, [.ref (g0 0), .ref (g1 0), .ref (g2 0), .ref (g3 0), .null, .null, .int 0, .int 0])), (g0 0, .inr (2, [.ref (g0 1)])), (g0 1, .inl (cZ, 2, .inl (fun _ => 0))), (g1 0, .inr (3, [.ref (g1 1), .ref (g1 2), .ref (g1 3), .ref (g1 4), .int 0])), (g1 1, .inl (cI, 4, .inl (fun _ => 0))), (g1 2, .inl (cZ, 4, .inl (fun _ => 0))), (g1 3, .inl (cZ, 4, .inl (fun _ => 0))), (g1 4, .inl (cI, 4, .inl (fun _ => 0))), (g2 0, .inr (3, [.ref (g2 1), .ref (g2 2), .ref (g2 3), .ref (g2 4), .int 0])), (g2 1, .inl (cI, 4, .inl (fun _ => 0))), (g2 2, .inl (cZ, 4, .inl (fun _ => 0))), (g2 3, .inl (cZ, 4, .inl (fun _ => 0))), (g2 4, .inl (cI, 4, .inl (fun _ => 0))), (g3 0, .inr (0, [.ref (g3 1), .ref (g3 2), .ref (g3 3), .ref (g3 4), .ref (g3 5), .int 0])), (g3 1, .inl (cI, 30, .inl (fun _ => 0))), (g3 2, .inl (cI, 30, .inl (fun _ => 0))), (g3 3, .inl (cI, 30, .inl (fun _ => 0))), (g3 4, .inl (cI, 30, .inl (fun _ => 0))), (g3 5, .inl (cI, 30, .inl (fun _ => 0))), (g4 0, .inr (4, [.ref (g4 1), .ref (g4 2), .ref (g4 3), .int 0])), (g4 1, .inl (cI, 8, .inl (fun _ => 0))), (g4 2, .inl (cI, 6, .inl (fun _ => 0))), (g4 3, .inl (cI, 48, .inl (fun _ => 0)))] H := hP
  have hD : va_D A [(b, .inr (5, [.ref (g0 0), .ref (g1 0), .ref (g2 0), .ref (g3 0), .null, .null, .int 0, .int 0])), (g0 0, .inr (2, [.ref (g0 1)])), (g0 1, .inl (cZ, 2, .inl (fun _ => 0))), (g1 0, .inr (3, [.ref (g1 1), .ref (g1 2), .ref (g1 3), .ref (g1 4), .int 0])), (g1 1, .inl (cI, 4, .inl (fun _ => 0))), (g1 2, .inl (cZ, 4, .inl (fun _ => 0))), (g1 3, .inl (cZ, 4, .inl (fun _ => 0))), (g1 4, .inl (cI, 4, .inl (fun _ => 0))), (g2 0, .inr (3, [.ref (g2 1), .ref (g2 2), .ref (g2 3), .ref (g2 4), .int 0])), (g2 1, .inl (cI, 4, .inl (fun _ => 0))), (g2 2, .inl (cZ, 4, .inl (fun _ => 0))), (g2 3, .inl (cZ, 4, .inl (fun _ => 0))), (g2 4, .inl (cI, 4, .inl (fun _ => 0))), (g3 0, .inr (0, [.ref (g3 1), .ref (g3 2), .ref (g3 3), .ref (g3 4), .ref (g3 5), .int 0])), (g3 1, .inl (cI, 30, .inl (fun _ => 0))), (g3 2, .inl (cI, 30, .inl (fun _ => 0))), (g3 3, .inl (cI, 30, .inl (fun _ => 0))), (g3 4, .inl (cI, 30, .inl (fun _ => 0))), (g3 5, .inl (cI, 30, .inl (fun _ => 0))), (g4 0, .inr (4, [.ref (g4 1), .ref (g4 2), .ref (g4 3), .int 0])), (g4 1, .inl (cI, 8, .inl (fun _ => 0))), (g4 2, .inl (cI, 6, .inl (fun _ => 0))), (g4 3, .inl (cI, 48, .inl (fun _ => 0)))] := hD
  refine W.widen (k := 22) (n := 267) (by omega) (by omega) ?_
  refine va_putF (D := D) (ci := 5) (v := .ref (g4 0)) (ty := (.object "Warpyard$Waggons")) (C := RX5) (T := TX5) (N := 8) hx hb hts (by decide +kernel) tyX5 tyX5_ok nmX5 hown hK hP hD hS 0 rfl rfl 4 (by decide) (hts (.fieldLink RX5 36 "Warpyard" "waggons" "LWarpyard$Waggons;") (by decide +kernel)) (fun _ h9 => h9) rfl hin rfl (by decide +kernel) rfl rfl (Nat.le_of_ble_eq_true rfl) dX5_init_56 (fun H locs hP hD hS => ?_)
  have hP : va_P D vwCl [(b, .inr (5, [.ref (g0 0), .ref (g1 0), .ref (g2 0), .ref (g3 0), .ref (g4 0), .null, .int 0, .int 0])), (g0 0, .inr (2, [.ref (g0 1)])), (g0 1, .inl (cZ, 2, .inl (fun _ => 0))), (g1 0, .inr (3, [.ref (g1 1), .ref (g1 2), .ref (g1 3), .ref (g1 4), .int 0])), (g1 1, .inl (cI, 4, .inl (fun _ => 0))), (g1 2, .inl (cZ, 4, .inl (fun _ => 0))), (g1 3, .inl (cZ, 4, .inl (fun _ => 0))), (g1 4, .inl (cI, 4, .inl (fun _ => 0))), (g2 0, .inr (3, [.ref (g2 1), .ref (g2 2), .ref (g2 3), .ref (g2 4), .int 0])), (g2 1, .inl (cI, 4, .inl (fun _ => 0))), (g2 2, .inl (cZ, 4, .inl (fun _ => 0))), (g2 3, .inl (cZ, 4, .inl (fun _ => 0))), (g2 4, .inl (cI, 4, .inl (fun _ => 0))), (g3 0, .inr (0, [.ref (g3 1), .ref (g3 2), .ref (g3 3), .ref (g3 4), .ref (g3 5), .int 0])), (g3 1, .inl (cI, 30, .inl (fun _ => 0))), (g3 2, .inl (cI, 30, .inl (fun _ => 0))), (g3 3, .inl (cI, 30, .inl (fun _ => 0))), (g3 4, .inl (cI, 30, .inl (fun _ => 0))), (g3 5, .inl (cI, 30, .inl (fun _ => 0))), (g4 0, .inr (4, [.ref (g4 1), .ref (g4 2), .ref (g4 3), .int 0])), (g4 1, .inl (cI, 8, .inl (fun _ => 0))), (g4 2, .inl (cI, 6, .inl (fun _ => 0))), (g4 3, .inl (cI, 48, .inl (fun _ => 0)))] H := hP
  have hD : va_D A [(b, .inr (5, [.ref (g0 0), .ref (g1 0), .ref (g2 0), .ref (g3 0), .ref (g4 0), .null, .int 0, .int 0])), (g0 0, .inr (2, [.ref (g0 1)])), (g0 1, .inl (cZ, 2, .inl (fun _ => 0))), (g1 0, .inr (3, [.ref (g1 1), .ref (g1 2), .ref (g1 3), .ref (g1 4), .int 0])), (g1 1, .inl (cI, 4, .inl (fun _ => 0))), (g1 2, .inl (cZ, 4, .inl (fun _ => 0))), (g1 3, .inl (cZ, 4, .inl (fun _ => 0))), (g1 4, .inl (cI, 4, .inl (fun _ => 0))), (g2 0, .inr (3, [.ref (g2 1), .ref (g2 2), .ref (g2 3), .ref (g2 4), .int 0])), (g2 1, .inl (cI, 4, .inl (fun _ => 0))), (g2 2, .inl (cZ, 4, .inl (fun _ => 0))), (g2 3, .inl (cZ, 4, .inl (fun _ => 0))), (g2 4, .inl (cI, 4, .inl (fun _ => 0))), (g3 0, .inr (0, [.ref (g3 1), .ref (g3 2), .ref (g3 3), .ref (g3 4), .ref (g3 5), .int 0])), (g3 1, .inl (cI, 30, .inl (fun _ => 0))), (g3 2, .inl (cI, 30, .inl (fun _ => 0))), (g3 3, .inl (cI, 30, .inl (fun _ => 0))), (g3 4, .inl (cI, 30, .inl (fun _ => 0))), (g3 5, .inl (cI, 30, .inl (fun _ => 0))), (g4 0, .inr (4, [.ref (g4 1), .ref (g4 2), .ref (g4 3), .int 0])), (g4 1, .inl (cI, 8, .inl (fun _ => 0))), (g4 2, .inl (cI, 6, .inl (fun _ => 0))), (g4 3, .inl (cI, 48, .inl (fun _ => 0)))] := hD
  refine lv_aload_n hx hb dX5_init_59 rfl (lv_at hl 0 rfl) ?_
  have hc_5 : 22 + 1 ≤ 26 := by decide
  have hs_5 : 267 + 3 ≤ 294 := by decide
  refine va_new (ci := 1) (fs := [.null, .null, .null]) (C := RX1) (T := TX1) (N := 3) hx hb hts (by decide +kernel) tyX1 tyX1_ok hown (hts (.classLink RX5 40 RX1) (by decide +kernel)) (hts (.instantiable RX1 3) (by decide +kernel)) (hts (.initialized RX1) (by decide +kernel)) hK hP hD hS hA rfl (fun j hj => by rcases (show j = 0 ∨ j = 1 ∨ j = 2 by omega) with rfl | rfl | rfl <;> rfl) hc_5 hs_5 dX5_init_60 (fun q5 H hP hD hS => ?_)
  have hP : va_P D vwCl [(b, .inr (5, [.ref (g0 0), .ref (g1 0), .ref (g2 0), .ref (g3 0), .ref (g4 0), .null, .int 0, .int 0])), (g0 0, .inr (2, [.ref (g0 1)])), (g0 1, .inl (cZ, 2, .inl (fun _ => 0))), (g1 0, .inr (3, [.ref (g1 1), .ref (g1 2), .ref (g1 3), .ref (g1 4), .int 0])), (g1 1, .inl (cI, 4, .inl (fun _ => 0))), (g1 2, .inl (cZ, 4, .inl (fun _ => 0))), (g1 3, .inl (cZ, 4, .inl (fun _ => 0))), (g1 4, .inl (cI, 4, .inl (fun _ => 0))), (g2 0, .inr (3, [.ref (g2 1), .ref (g2 2), .ref (g2 3), .ref (g2 4), .int 0])), (g2 1, .inl (cI, 4, .inl (fun _ => 0))), (g2 2, .inl (cZ, 4, .inl (fun _ => 0))), (g2 3, .inl (cZ, 4, .inl (fun _ => 0))), (g2 4, .inl (cI, 4, .inl (fun _ => 0))), (g3 0, .inr (0, [.ref (g3 1), .ref (g3 2), .ref (g3 3), .ref (g3 4), .ref (g3 5), .int 0])), (g3 1, .inl (cI, 30, .inl (fun _ => 0))), (g3 2, .inl (cI, 30, .inl (fun _ => 0))), (g3 3, .inl (cI, 30, .inl (fun _ => 0))), (g3 4, .inl (cI, 30, .inl (fun _ => 0))), (g3 5, .inl (cI, 30, .inl (fun _ => 0))), (g4 0, .inr (4, [.ref (g4 1), .ref (g4 2), .ref (g4 3), .int 0])), (g4 1, .inl (cI, 8, .inl (fun _ => 0))), (g4 2, .inl (cI, 6, .inl (fun _ => 0))), (g4 3, .inl (cI, 48, .inl (fun _ => 0))), (q5, .inr (1, [.null, .null, .null]))] H := hP
  have hD : va_D A [(b, .inr (5, [.ref (g0 0), .ref (g1 0), .ref (g2 0), .ref (g3 0), .ref (g4 0), .null, .int 0, .int 0])), (g0 0, .inr (2, [.ref (g0 1)])), (g0 1, .inl (cZ, 2, .inl (fun _ => 0))), (g1 0, .inr (3, [.ref (g1 1), .ref (g1 2), .ref (g1 3), .ref (g1 4), .int 0])), (g1 1, .inl (cI, 4, .inl (fun _ => 0))), (g1 2, .inl (cZ, 4, .inl (fun _ => 0))), (g1 3, .inl (cZ, 4, .inl (fun _ => 0))), (g1 4, .inl (cI, 4, .inl (fun _ => 0))), (g2 0, .inr (3, [.ref (g2 1), .ref (g2 2), .ref (g2 3), .ref (g2 4), .int 0])), (g2 1, .inl (cI, 4, .inl (fun _ => 0))), (g2 2, .inl (cZ, 4, .inl (fun _ => 0))), (g2 3, .inl (cZ, 4, .inl (fun _ => 0))), (g2 4, .inl (cI, 4, .inl (fun _ => 0))), (g3 0, .inr (0, [.ref (g3 1), .ref (g3 2), .ref (g3 3), .ref (g3 4), .ref (g3 5), .int 0])), (g3 1, .inl (cI, 30, .inl (fun _ => 0))), (g3 2, .inl (cI, 30, .inl (fun _ => 0))), (g3 3, .inl (cI, 30, .inl (fun _ => 0))), (g3 4, .inl (cI, 30, .inl (fun _ => 0))), (g3 5, .inl (cI, 30, .inl (fun _ => 0))), (g4 0, .inr (4, [.ref (g4 1), .ref (g4 2), .ref (g4 3), .int 0])), (g4 1, .inl (cI, 8, .inl (fun _ => 0))), (g4 2, .inl (cI, 6, .inl (fun _ => 0))), (g4 3, .inl (cI, 48, .inl (fun _ => 0))), (q5, .inr (1, [.null, .null, .null]))] := hD
  refine W.widen (k := 23) (n := 270) (by omega) (by omega) ?_
  refine lv_dup hx hb dX5_init_63 rfl ?_
  have hkc_5 : 23 + 3 ≤ 26 := by decide
  have hks_5 : 270 + 24 ≤ 294 := by decide
  have hPc := hP.sub (ws' := [(q5, .inr (1, [.null, .null, .null]))]) [23] rfl
  have hDc := hD.sub (ws' := [(q5, .inr (1, [.null, .null, .null]))]) [23] (by decide) rfl
  have hFc := va_free (wc := [(q5, .inr (1, [.null, .null, .null]))]) hD hS hA [23] rfl
  refine va_callv (va_runIN (As := []) (rest := [.ref q5, .ref b]) ⟨hx, hb, hml, hown, hts⟩ (k_X1 l D cI cZ q5 H.size) ⟨va_cnB 0 hts gX5_init_X1_init_n42 rfl rfl rfl hNL.2.2.2.2 (hts (.initialized RX1) (by decide +kernel)) (by decide +kernel) ⟨Nat.le_of_ble_eq_true rfl, Nat.le_of_ble_eq_true rfl⟩, rfl, hts (.instanceMethod yX1_init) (by decide +kernel)⟩ ⟨fun a U g mk q => ⟨q.1, q.2.calling⟩, fun U hU hW => ⟨rfl, PC.at hPc hK hDc hNL hU hW⟩⟩ rfl rfl hl.1 rfl (lv_room (Nat.le_of_ble_eq_true rfl)) dX5_init_64 ⟨hkc_5, hks_5⟩) hS (fun q _ h => hFc q h) hFc (fun u t H1 locs ht hvm hw hB hz1 hk1 hS => ?_)
  obtain ⟨g5, rfl⟩ : ∃ z, z = u := ⟨_, rfl⟩
  obtain ⟨hP1, hK1, hD1⟩ := hB
  rw [ht] at hP1
  obtain ⟨hPn, hDn⟩ := va_join (wr := [(b, .inr (5, [.ref (g0 0), .ref (g1 0), .ref (g2 0), .ref (g3 0), .ref (g4 0), .null, .int 0, .int 0])), (g0 0, .inr (2, [.ref (g0 1)])), (g0 1, .inl (cZ, 2, .inl (fun _ => 0))), (g1 0, .inr (3, [.ref (g1 1), .ref (g1 2), .ref (g1 3), .ref (g1 4), .int 0])), (g1 1, .inl (cI, 4, .inl (fun _ => 0))), (g1 2, .inl (cZ, 4, .inl (fun _ => 0))), (g1 3, .inl (cZ, 4, .inl (fun _ => 0))), (g1 4, .inl (cI, 4, .inl (fun _ => 0))), (g2 0, .inr (3, [.ref (g2 1), .ref (g2 2), .ref (g2 3), .ref (g2 4), .int 0])), (g2 1, .inl (cI, 4, .inl (fun _ => 0))), (g2 2, .inl (cZ, 4, .inl (fun _ => 0))), (g2 3, .inl (cZ, 4, .inl (fun _ => 0))), (g2 4, .inl (cI, 4, .inl (fun _ => 0))), (g3 0, .inr (0, [.ref (g3 1), .ref (g3 2), .ref (g3 3), .ref (g3 4), .ref (g3 5), .int 0])), (g3 1, .inl (cI, 30, .inl (fun _ => 0))), (g3 2, .inl (cI, 30, .inl (fun _ => 0))), (g3 3, .inl (cI, 30, .inl (fun _ => 0))), (g3 4, .inl (cI, 30, .inl (fun _ => 0))), (g3 5, .inl (cI, 30, .inl (fun _ => 0))), (g4 0, .inr (4, [.ref (g4 1), .ref (g4 2), .ref (g4 3), .int 0])), (g4 1, .inl (cI, 8, .inl (fun _ => 0))), (g4 2, .inl (cI, 6, .inl (fun _ => 0))), (g4 3, .inl (cI, 48, .inl (fun _ => 0)))]) (w1 := [(g5 0, .inr (1, [.ref (g5 1), .ref (g5 2), .ref (g5 3)])), (g5 1, .inl (cI, 8, .inl (fun _ => 0))), (g5 2, .inl (cI, 8, .inl (fun _ => 0))), (g5 3, .inl (cI, 8, .inl (fun _ => 0)))]) hP hD [23] [0, 1, 2, 3, 4, 5, 6, 7, 8, 9, 10, 11, 12, 13, 14, 15, 16, 17, 18, 19, 20, 21, 22] rfl rfl (by decide) (by decide) hk1 hFc hP1 hD1
  clear hP hD
  generalize H1 = H at hPn hS ⊢
  have hw : g5 0 = q5 := hw
  subst hw
  have hP := hPn
  have hD := hDn
  have hP : va_P D vwCl [(b, .inr (5, [.ref (g0 0), .ref (g1 0), .ref (g2 0), .ref (g3 0), .ref (g4 0), .null, .int 0, .int 0])), (g0 0, .inr (2, [.ref (g0 1)])), (g0 1, .inl (cZ, 2, .inl (fun _ => 0))), (g1 0, .inr (3, [.ref (g1 1), .ref (g1 2), .ref (g1 3), .ref (g1 4), .int 0])), (g1 1, .inl (cI, 4, .inl (fun _ => 0))), (g1 2, .inl (cZ, 4, .inl (fun _ => 0))), (g1 3, .inl (cZ, 4, .inl (fun _ => 0))), (g1 4, .inl (cI, 4, .inl (fun _ => 0))), (g2 0, .inr (3, [.ref (g2 1), .ref (g2 2), .ref (g2 3), .ref (g2 4), .int 0])), (g2 1, .inl (cI, 4, .inl (fun _ => 0))), (g2 2, .inl (cZ, 4, .inl (fun _ => 0))), (g2 3, .inl (cZ, 4, .inl (fun _ => 0))), (g2 4, .inl (cI, 4, .inl (fun _ => 0))), (g3 0, .inr (0, [.ref (g3 1), .ref (g3 2), .ref (g3 3), .ref (g3 4), .ref (g3 5), .int 0])), (g3 1, .inl (cI, 30, .inl (fun _ => 0))), (g3 2, .inl (cI, 30, .inl (fun _ => 0))), (g3 3, .inl (cI, 30, .inl (fun _ => 0))), (g3 4, .inl (cI, 30, .inl (fun _ => 0))), (g3 5, .inl (cI, 30, .inl (fun _ => 0))), (g4 0, .inr (4, [.ref (g4 1), .ref (g4 2), .ref (g4 3), .int 0])), (g4 1, .inl (cI, 8, .inl (fun _ => 0))), (g4 2, .inl (cI, 6, .inl (fun _ => 0))), (g4 3, .inl (cI, 48, .inl (fun _ => 0))), (g5 0, .inr (1, [.ref (g5 1), .ref (g5 2), .ref (g5 3)])), (g5 1, .inl (cI, 8, .inl (fun _ => 0))), (g5 2, .inl (cI, 8, .inl (fun _ => 0))), (g5 3, .inl (cI, 8, .inl (fun _ => 0)))] H := hP
  have hD : va_D A [(b, .inr (5, [.ref (g0 0), .ref (g1 0), .ref (g2 0), .ref (g3 0), .ref (g4 0), .null, .int 0, .int 0])), (g0 0, .inr (2, [.ref (g0 1)])), (g0 1, .inl (cZ, 2, .inl (fun _ => 0))), (g1 0, .inr (3, [.ref (g1 1), .ref (g1 2), .ref (g1 3), .ref (g1 4), .int 0])), (g1 1, .inl (cI, 4, .inl (fun _ => 0))), (g1 2, .inl (cZ, 4, .inl (fun _ => 0))), (g1 3, .inl (cZ, 4, .inl (fun _ => 0))), (g1 4, .inl (cI, 4, .inl (fun _ => 0))), (g2 0, .inr (3, [.ref (g2 1), .ref (g2 2), .ref (g2 3), .ref (g2 4), .int 0])), (g2 1, .inl (cI, 4, .inl (fun _ => 0))), (g2 2, .inl (cZ, 4, .inl (fun _ => 0))), (g2 3, .inl (cZ, 4, .inl (fun _ => 0))), (g2 4, .inl (cI, 4, .inl (fun _ => 0))), (g3 0, .inr (0, [.ref (g3 1), .ref (g3 2), .ref (g3 3), .ref (g3 4), .ref (g3 5), .int 0])), (g3 1, .inl (cI, 30, .inl (fun _ => 0))), (g3 2, .inl (cI, 30, .inl (fun _ => 0))), (g3 3, .inl (cI, 30, .inl (fun _ => 0))), (g3 4, .inl (cI, 30, .inl (fun _ => 0))), (g3 5, .inl (cI, 30, .inl (fun _ => 0))), (g4 0, .inr (4, [.ref (g4 1), .ref (g4 2), .ref (g4 3), .int 0])), (g4 1, .inl (cI, 8, .inl (fun _ => 0))), (g4 2, .inl (cI, 6, .inl (fun _ => 0))), (g4 3, .inl (cI, 48, .inl (fun _ => 0))), (g5 0, .inr (1, [.ref (g5 1), .ref (g5 2), .ref (g5 3)])), (g5 1, .inl (cI, 8, .inl (fun _ => 0))), (g5 2, .inl (cI, 8, .inl (fun _ => 0))), (g5 3, .inl (cI, 8, .inl (fun _ => 0)))] := hD
  refine W.widen (k := 26) (n := 294) (by omega) (by omega) ?_
  refine va_putF (D := D) (ci := 5) (v := .ref (g5 0)) (ty := (.object "Warpyard$Offers")) (C := RX5) (T := TX5) (N := 8) hx hb hts (by decide +kernel) tyX5 tyX5_ok nmX5 hown hK hP hD hS 0 rfl rfl 5 (by decide) (hts (.fieldLink RX5 43 "Warpyard" "offers" "LWarpyard$Offers;") (by decide +kernel)) (fun _ h9 => h9) rfl hin rfl (by decide +kernel) rfl rfl (Nat.le_of_ble_eq_true rfl) dX5_init_67 (fun H locs hP hD hS => ?_)
  have hP : va_P D vwCl [(b, .inr (5, [.ref (g0 0), .ref (g1 0), .ref (g2 0), .ref (g3 0), .ref (g4 0), .ref (g5 0), .int 0, .int 0])), (g0 0, .inr (2, [.ref (g0 1)])), (g0 1, .inl (cZ, 2, .inl (fun _ => 0))), (g1 0, .inr (3, [.ref (g1 1), .ref (g1 2), .ref (g1 3), .ref (g1 4), .int 0])), (g1 1, .inl (cI, 4, .inl (fun _ => 0))), (g1 2, .inl (cZ, 4, .inl (fun _ => 0))), (g1 3, .inl (cZ, 4, .inl (fun _ => 0))), (g1 4, .inl (cI, 4, .inl (fun _ => 0))), (g2 0, .inr (3, [.ref (g2 1), .ref (g2 2), .ref (g2 3), .ref (g2 4), .int 0])), (g2 1, .inl (cI, 4, .inl (fun _ => 0))), (g2 2, .inl (cZ, 4, .inl (fun _ => 0))), (g2 3, .inl (cZ, 4, .inl (fun _ => 0))), (g2 4, .inl (cI, 4, .inl (fun _ => 0))), (g3 0, .inr (0, [.ref (g3 1), .ref (g3 2), .ref (g3 3), .ref (g3 4), .ref (g3 5), .int 0])), (g3 1, .inl (cI, 30, .inl (fun _ => 0))), (g3 2, .inl (cI, 30, .inl (fun _ => 0))), (g3 3, .inl (cI, 30, .inl (fun _ => 0))), (g3 4, .inl (cI, 30, .inl (fun _ => 0))), (g3 5, .inl (cI, 30, .inl (fun _ => 0))), (g4 0, .inr (4, [.ref (g4 1), .ref (g4 2), .ref (g4 3), .int 0])), (g4 1, .inl (cI, 8, .inl (fun _ => 0))), (g4 2, .inl (cI, 6, .inl (fun _ => 0))), (g4 3, .inl (cI, 48, .inl (fun _ => 0))), (g5 0, .inr (1, [.ref (g5 1), .ref (g5 2), .ref (g5 3)])), (g5 1, .inl (cI, 8, .inl (fun _ => 0))), (g5 2, .inl (cI, 8, .inl (fun _ => 0))), (g5 3, .inl (cI, 8, .inl (fun _ => 0)))] H := hP
  have hD : va_D A [(b, .inr (5, [.ref (g0 0), .ref (g1 0), .ref (g2 0), .ref (g3 0), .ref (g4 0), .ref (g5 0), .int 0, .int 0])), (g0 0, .inr (2, [.ref (g0 1)])), (g0 1, .inl (cZ, 2, .inl (fun _ => 0))), (g1 0, .inr (3, [.ref (g1 1), .ref (g1 2), .ref (g1 3), .ref (g1 4), .int 0])), (g1 1, .inl (cI, 4, .inl (fun _ => 0))), (g1 2, .inl (cZ, 4, .inl (fun _ => 0))), (g1 3, .inl (cZ, 4, .inl (fun _ => 0))), (g1 4, .inl (cI, 4, .inl (fun _ => 0))), (g2 0, .inr (3, [.ref (g2 1), .ref (g2 2), .ref (g2 3), .ref (g2 4), .int 0])), (g2 1, .inl (cI, 4, .inl (fun _ => 0))), (g2 2, .inl (cZ, 4, .inl (fun _ => 0))), (g2 3, .inl (cZ, 4, .inl (fun _ => 0))), (g2 4, .inl (cI, 4, .inl (fun _ => 0))), (g3 0, .inr (0, [.ref (g3 1), .ref (g3 2), .ref (g3 3), .ref (g3 4), .ref (g3 5), .int 0])), (g3 1, .inl (cI, 30, .inl (fun _ => 0))), (g3 2, .inl (cI, 30, .inl (fun _ => 0))), (g3 3, .inl (cI, 30, .inl (fun _ => 0))), (g3 4, .inl (cI, 30, .inl (fun _ => 0))), (g3 5, .inl (cI, 30, .inl (fun _ => 0))), (g4 0, .inr (4, [.ref (g4 1), .ref (g4 2), .ref (g4 3), .int 0])), (g4 1, .inl (cI, 8, .inl (fun _ => 0))), (g4 2, .inl (cI, 6, .inl (fun _ => 0))), (g4 3, .inl (cI, 48, .inl (fun _ => 0))), (g5 0, .inr (1, [.ref (g5 1), .ref (g5 2), .ref (g5 3)])), (g5 1, .inl (cI, 8, .inl (fun _ => 0))), (g5 2, .inl (cI, 8, .inl (fun _ => 0))), (g5 3, .inl (cI, 8, .inl (fun _ => 0)))] := hD
  have hP9 : va_P D vwCl ((fun g => wX cI cZ g (fun _ _ => 0)) (fun k => match k with | 0 => b | 1 => g0 0 | 2 => g0 1 | 3 => g1 0 | 4 => g1 1 | 5 => g1 2 | 6 => g1 3 | 7 => g1 4 | 8 => g2 0 | 9 => g2 1 | 10 => g2 2 | 11 => g2 3 | 12 => g2 4 | 13 => g3 0 | 14 => g3 1 | 15 => g3 2 | 16 => g3 3 | 17 => g3 4 | 18 => g3 5 | 19 => g4 0 | 20 => g4 1 | 21 => g4 2 | 22 => g4 3 | 23 => g5 0 | 24 => g5 1 | 25 => g5 2 | 26 => g5 3 | _ => 0)) H := hP
  have hD9 : va_D A ((fun g => wX cI cZ g (fun _ _ => 0)) (fun k => match k with | 0 => b | 1 => g0 0 | 2 => g0 1 | 3 => g1 0 | 4 => g1 1 | 5 => g1 2 | 6 => g1 3 | 7 => g1 4 | 8 => g2 0 | 9 => g2 1 | 10 => g2 2 | 11 => g2 3 | 12 => g2 4 | 13 => g3 0 | 14 => g3 1 | 15 => g3 2 | 16 => g3 3 | 17 => g3 4 | 18 => g3 5 | 19 => g4 0 | 20 => g4 1 | 21 => g4 2 | 22 => g4 3 | 23 => g5 0 | 24 => g5 1 | 25 => g5 2 | 26 => g5 3 | _ => 0)) := hD
  exact W.vret hx hb hr (fun t ht hW => ⟨⟨(fun k => match k with | 0 => b | 1 => g0 0 | 2 => g0 1 | 3 => g1 0 | 4 => g1 1 | 5 => g1 2 | 6 => g1 3 | 7 => g1 4 | 8 => g2 0 | 9 => g2 1 | 10 => g2 2 | 11 => g2 3 | 12 => g2 4 | 13 => g3 0 | 14 => g3 1 | 15 => g3 2 | 16 => g3 3 | 17 => g3 4 | 18 => g3 5 | 19 => g4 0 | 20 => g4 1 | 21 => g4 2 | 22 => g4 3 | 23 => g5 0 | 24 => g5 1 | 25 => g5 2 | 26 => g5 3 | _ => 0), rfl, rfl, by rw [ht]; exact hP9, va_K.moved hW.alike hK, hD9⟩, hS.F ht⟩) hS.2.2 dX5_init_70
end
section
/-! the law's helpers over fresh yards: what each answers, and how many cells it makes at least -/
abbrev z0 : St := fun _ _ => 0
theorem tr0 (t : Int32) : ¬ tr 0 t := fun ⟨_, h, _⟩ => absurd h (Nat.not_lt_zero _)
section GW
variable {S : Type} {l : Launch} {y : MethodName} {wsy ws' : List Cond} {rm : Room} {D : va_G} {tys : List (ClassId × FieldType)} {wf : S → va_W} {av : List Value} {σ u : S} {sz g mc ms : Nat} {cc : ByteArray} {maxL : Nat} {ty : FieldType} {hh : List (Nat × Nat × Nat × Nat)}
def PG (D : va_G) (tys : List (ClassId × FieldType)) (wf : S → va_W) (A : Nat → Prop) (n : Nat) (u : S) (t : State) : Prop := PO D tys wf A u t ∧ n ≤ t.heap.size
/-- a method of the law: it returns; at least g cells are new, at most mc -/
def MG (l : Launch) (y : MethodName) (wsy : List Cond) (rm : Room) (D : va_G) (tys : List (ClassId × FieldType)) (wf : S → va_W) (av : List Value) (σ : S) (sz : Nat) (post : Int32 → S → Prop) (g mc ms : Nat) : Prop :=
  Met l y wsy rm (va_Pc av (PX D tys wf σ sz)) (va_Qi post (PG D tys wf (va_A (wf σ) sz) (sz + g)) (va_A (wf σ) sz)) mc ms (va_A (wf σ) sz)
theorem MG.of {post : Int32 → S → Prop} (hy : plainName y.cls = true) (hw : wsy = Cond.code y cc maxL (some ty) :: ws') (hav : (lg_sl av).length ≤ maxL)
    (body : ∀ (p : Program) (e : Env) (s : State) (m : MethodId) (args : Array Value) (below : List Frame) (meth : Method) (c : Code) (A : Nat → Prop) (H : Heap) (locs : List Loc) (ls : Array Slot), p.tables.exec = Jvm.exec → c.code = cc → meth.sig.returnType = some ty → c.maxLocals = maxL → s.vm.findClass y.cls = some m.cls → (∀ w ∈ wsy, w.before args s = true) → meth.locks = false → EV s → SZ A s s.heap → (∀ q : Nat, s.heap.size ≤ q → A q) → va_S A s.heap H locs → va_P D vwCl (wf σ) H → va_K D vwCl tys s → va_D A (wf σ) → lv_has ls maxL (lv_args 0 av) →
      W p l e rm s m args below meth c H locs 0 0 (MQ below (va_Qi post (PG D tys wf A (s.heap.size + g)) A) args s mc ms A) (F0 m 0 ls [])) : MG l y wsy rm D tys wf av σ sz post g mc ms := by
  refine Met.ofW (cc := cc) (maxL := maxL) (ret := some ty) hy hw ?_
  intro p e s m args below meth c s₁ B hml hv
  obtain ⟨rfl, ⟨hsz, hP, hK, hD0⟩, hEV, hZ⟩ := hv
  have hts := atoms_spec (ws := wsy) B.pre
  subst hsz
  have hD := hD0.self (sz := s.heap.size)
  generalize hAe : va_A (wf σ) s.heap.size = A at hD hZ ⊢
  have hA : ∀ q : Nat, s.heap.size ≤ q → A q := fun q h => by rw [← hAe]; exact Or.inr h
  rw [lg_entry_eq]
  exact body p e s m _ below meth c A _ _ _ B.exec B.bytes B.returns hml (findClass_of_methodNamed B.named) hts B.notSynchronized hEV hZ hA va_S.rf hP hK hD (lv_entry av hav)
theorem MG.ofH {post : Int32 → S → Prop} (hy : plainName y.cls = true) (hw : wsy = Cond.codeWith y cc maxL (some ty) hh :: ws') (hav : (lg_sl av).length ≤ maxL)
    (body : ∀ (p : Program) (e : Env) (s : State) (m : MethodId) (args : Array Value) (below : List Frame) (meth : Method) (c : Code) (A : Nat → Prop) (H : Heap) (locs : List Loc) (ls : Array Slot), p.tables.exec = Jvm.exec → c.code = cc → meth.sig.returnType = some ty → c.maxLocals = maxL → s.vm.findClass y.cls = some m.cls → (∀ w ∈ wsy, w.before args s = true) → meth.locks = false → c.exceptionTable.toList = tableOf hh → EV s → SZ A s s.heap → (∀ q : Nat, s.heap.size ≤ q → A q) → va_S A s.heap H locs → va_P D vwCl (wf σ) H → va_K D vwCl tys s → va_D A (wf σ) → lv_has ls maxL (lv_args 0 av) →
      W p l e rm s m args below meth c H locs 0 0 (MQ below (va_Qi post (PG D tys wf A (s.heap.size + g)) A) args s mc ms A) (F0 m 0 ls [])) : MG l y wsy rm D tys wf av σ sz post g mc ms := by
  refine va_MetW (cc := cc) (maxL := maxL) (ret := some ty) (hh := hh) hy hw ?_
  intro p e s m args below meth c s₁ B hml hv
  obtain ⟨rfl, ⟨hsz, hP, hK, hD0⟩, hEV, hZ⟩ := hv
  have hts := atoms_spec (ws := wsy) B.pre
  have hexc := vx_table (x := y) B (hts _ (by rw [hw]; exact List.mem_cons_self))
  subst hsz
  have hD := hD0.self (sz := s.heap.size)
  generalize hAe : va_A (wf σ) s.heap.size = A at hD hZ ⊢
  have hA : ∀ q : Nat, s.heap.size ≤ q → A q := fun q h => by rw [← hAe]; exact Or.inr h
  rw [lg_entry_eq]
  exact body p e s m _ below meth c A _ _ _ B.exec B.bytes B.returns hml (findClass_of_methodNamed B.named) hts B.notSynchronized hexc hEV hZ hA va_S.rf hP hK hD (lv_entry av hav)
section GRET
variable {p : Program} {e : Env} {R : Room} {s : State} {m : MethodId} {args : Array Value} {below : List Frame} {meth : Method} {c : Code} {H : Heap} {locs : List Loc} {A : Nat → Prop} {pc nL n index cells slots : Nat} {ls : Array Slot} {v : Int32} {st0 rest As : List Value} {Ts : List Cond} {own C : String} {b : Addr} {bytes : ByteArray} {maxLy : Nat} {rety : Option FieldType} {Q : State → Prop}
theorem MG.ret {post : Int32 → S → Prop} (hx : p.tables.exec = Jvm.exec) (hb : c.code = cc) (hr : meth.sig.returnType = some .int) (hlocks : meth.locks = false) (hK : va_K D vwCl tys s) (hP : va_P D vwCl (wf u) H) (hD : va_D A (wf u)) (hS : va_S A s.heap H locs) (hG : s.heap.size + g ≤ H.size) (hc : cells ≤ mc) (hs : slots ≤ ms) (hdg : decode cc pc = .ok (.ireturn, 1)) (hp : post v u) : W p l e R s m args below meth c H locs cells slots (MQ below (va_Qi post (PG D tys wf A (s.heap.size + g)) A) args s mc ms A) (F0 m pc ls [.int v]) :=
  W.widen hc hs (W.iret hx hb hr (fun t ht hW => ⟨⟨v, u, rfl, hp, ⟨by rw [ht]; exact hP, va_K.moved hW.alike hK, hD⟩, by rw [ht]; exact hG⟩, hS.F ht⟩) hS.2.2 hdg hlocks)
theorem MG.zret {post : Int32 → S → Prop} (hx : p.tables.exec = Jvm.exec) (hb : c.code = cc) (hr : meth.sig.returnType = some .boolean) (hlocks : meth.locks = false) (hK : va_K D vwCl tys s) (hP : va_P D vwCl (wf u) H) (hD : va_D A (wf u)) (hS : va_S A s.heap H locs) (hG : s.heap.size + g ≤ H.size) (hc : cells ≤ mc) (hs : slots ≤ ms) (hdg : decode cc pc = .ok (.ireturn, 1)) (hn : narrow .boolean (.int v) = .int v) (hp : post v u) : W p l e R s m args below meth c H locs cells slots (MQ below (va_Qi post (PG D tys wf A (s.heap.size + g)) A) args s mc ms A) (F0 m pc ls [.int v]) :=
  W.widen hc hs (W.zret hx hb hr hn (fun t ht hW => ⟨⟨v, u, rfl, hp, ⟨by rw [ht]; exact hP, va_K.moved hW.alike hK, hD⟩, by rw [ht]; exact hG⟩, hS.F ht⟩) hS.2.2 hdg hlocks)
theorem MG.callS {post : Int32 → S → Prop} (F : CallFix p m c cc nL s args Ts own) (hM : MG l y wsy rm D tys wf As σ H.size post g mc ms) (cw : CallB R s args own index y bytes maxLy rety wsy rm mc ms n ∧ (Cond.static y).before args s = true)
    (hP : va_P D vwCl (wf σ) H) (hK : va_K D vwCl tys s) (hD : va_D A (wf σ)) (hS : va_S A s.heap H locs) (hA : ∀ q : Nat, s.heap.size ≤ q → A q) (hEV : EV s) (hZ : SZ A s s.heap)
    (hn : As.length = n) (hsize : ls.size = nL) (hW : (rest.map fun v => v.category).sum ≤ 8) (hcr : cells + mc ≤ R.cells) (hsr : slots + ms ≤ R.slots)
    (hdg : decode cc pc = .ok (.invokestatic index, 3)) (hst : st0 = As.reverse ++ rest)
    (kk : ∀ (r : Int32) (u : S) (H1 : Heap) (locs1 : List Loc), post r u → va_P D vwCl (wf u) H1 → va_D A (wf u) → va_S A s.heap H1 locs1 → H.size + g ≤ H1.size → W p l e R s m args below meth c H1 locs1 (cells + mc) (slots + ms) Q (F0 m (pc + 3) ls (.int r :: rest))) : W p l e R s m args below meth c H locs cells slots Q (F0 m pc ls st0) := by
  subst hst
  have hF := free_self hD hS hA
  refine va_calli (va_runS (As := As) (rest := rest) F hM cw ⟨fun a U g mk q => ⟨q.1, q.2.calling⟩, fun U hU hW => ⟨rfl, PX.at hP hK hD hS hA hEV hZ hU hW⟩⟩ rfl hn hsize rfl (lv_room hW) hdg ⟨hcr, hsr⟩) hS (fun q _ h => hF q h) hF (fun r u t H1 locs1 ht hvm hw hB hz1 hk1 hS1 => ?_)
  obtain ⟨⟨hP1, hK1, hD1⟩, hg9⟩ := hB
  rw [ht] at hP1 hg9
  exact kk r u H1 locs1 hw hP1 (hD1.weaken (fun _ _ _ h => hF _ h)) hS1 hg9
theorem MG.callSW {post : Int32 → S → Prop} (F : CallFix p m c cc nL s args Ts own) (hM : MG l y wsy rm D tys wf As σ H.size post g mc ms) (cw : vx_CSW R s args own index y bytes maxLy rety hh wsy rm mc ms n)
    (hP : va_P D vwCl (wf σ) H) (hK : va_K D vwCl tys s) (hD : va_D A (wf σ)) (hS : va_S A s.heap H locs) (hA : ∀ q : Nat, s.heap.size ≤ q → A q) (hEV : EV s) (hZ : SZ A s s.heap)
    (hn : As.length = n) (hsize : ls.size = nL) (hW : (rest.map fun v => v.category).sum ≤ 8) (hcr : cells + mc ≤ R.cells) (hsr : slots + ms ≤ R.slots)
    (hdg : decode cc pc = .ok (.invokestatic index, 3)) (hst : st0 = As.reverse ++ rest)
    (kk : ∀ (r : Int32) (u : S) (H1 : Heap) (locs1 : List Loc), post r u → va_P D vwCl (wf u) H1 → va_D A (wf u) → va_S A s.heap H1 locs1 → H.size + g ≤ H1.size → W p l e R s m args below meth c H1 locs1 (cells + mc) (slots + ms) Q (F0 m (pc + 3) ls (.int r :: rest))) : W p l e R s m args below meth c H locs cells slots Q (F0 m pc ls st0) := by
  subst hst
  have hF := free_self hD hS hA
  refine va_calli (vx_runSW (As := As) (rest := rest) F hM cw ⟨fun a U g mk q => ⟨q.1, q.2.calling⟩, fun U hU hW => ⟨rfl, PX.at hP hK hD hS hA hEV hZ hU hW⟩⟩ rfl hn hsize rfl (lv_room hW) hdg ⟨hcr, hsr⟩) hS (fun q _ h => hF q h) hF (fun r u t H1 locs1 ht hvm hw hB hz1 hk1 hS1 => ?_)
  obtain ⟨⟨hP1, hK1, hD1⟩, hg9⟩ := hB
  rw [ht] at hP1 hg9
  exact kk r u H1 locs1 hw hP1 (hD1.weaken (fun _ _ _ h => hF _ h)) hS1 hg9
theorem MG.callV {post : Int32 → S → Prop} (F : CallFix p m c cc nL s args Ts own) (hM : MG l y wsy rm D tys wf (.ref b :: As) σ H.size post g mc ms) (cw : CallW R s args own C index y bytes maxLy rety wsy rm mc ms n)
    (hP : va_P D vwCl (wf σ) H) (hK : va_K D vwCl tys s) (hD : va_D A (wf σ)) (hS : va_S A s.heap H locs) (hA : ∀ q : Nat, s.heap.size ≤ q → A q) (hEV : EV s) (hZ : SZ A s s.heap)
    (hrecv : ∃ cell : Cell, H[b]? = some cell ∧ cell.vm.isStatics = false ∧ s.vm.findClass C = some cell.cls) (hn : As.length = n) (hsize : ls.size = nL) (hW : (rest.map fun v => v.category).sum ≤ 8) (hcr : cells + mc ≤ R.cells) (hsr : slots + ms ≤ R.slots)
    (hdg : decode cc pc = .ok (.invokevirtual index, 3)) (hst : st0 = As.reverse ++ .ref b :: rest)
    (kk : ∀ (r : Int32) (u : S) (H1 : Heap) (locs1 : List Loc), post r u → va_P D vwCl (wf u) H1 → va_D A (wf u) → va_S A s.heap H1 locs1 → H.size + g ≤ H1.size → W p l e R s m args below meth c H1 locs1 (cells + mc) (slots + ms) Q (F0 m (pc + 3) ls (.int r :: rest))) : W p l e R s m args below meth c H locs cells slots Q (F0 m pc ls st0) := by
  subst hst
  have hF := free_self hD hS hA
  refine va_calli (va_runV (As := As) (rest := rest) F hM cw ⟨fun a U g mk q => ⟨q.1, q.2.calling⟩, hrecv, fun U hU hW => ⟨rfl, PX.at hP hK hD hS hA hEV hZ hU hW⟩⟩ rfl hn hsize rfl (lv_room hW) hdg ⟨hcr, hsr⟩) hS (fun q _ h => hF q h) hF (fun r u t H1 locs1 ht hvm hw hB hz1 hk1 hS1 => ?_)
  obtain ⟨⟨hP1, hK1, hD1⟩, hg9⟩ := hB
  rw [ht] at hP1 hg9
  exact kk r u H1 locs1 hw hP1 (hD1.weaken (fun _ _ _ h => hF _ h)) hS1 hg9
/-- a call that throws for certain, and is caught here -/
theorem XI.thrV {post : Int32 → S → Prop} {px : String → Prop} (F : CallFix p m c cc nL s args Ts own) (hM : XI l y wsy rm D tys wf (.ref b :: As) σ H.size post px) (hno : ∀ r u, ¬ post r u) (cw : CallW R s args own C index y bytes maxLy rety wsy rm 1 6 n)
    (hP : va_P D vwCl (wf σ) H) (hK : va_K D vwCl tys s) (hD : va_D A (wf σ)) (hS : va_S A s.heap H locs) (hA : ∀ q : Nat, s.heap.size ≤ q → A q) (hEV : EV s) (hZ : SZ A s s.heap)
    (hrecv : ∃ cell : Cell, H[b]? = some cell ∧ cell.vm.isStatics = false ∧ s.vm.findClass C = some cell.cls) (hn : As.length = n) (hsize : ls.size = nL) (hW : (rest.map fun v => v.category).sum ≤ 8) (hcr : cells + 1 ≤ R.cells) (hsr : slots + 6 ≤ R.slots)
    (hdg : decode cc pc = .ok (.invokevirtual index, 3)) (hst : st0 = As.reverse ++ .ref b :: rest)
    (kx : ∀ (E : String) (ce : Cell) (q9 : Addr) (H1 : Heap) (locs1 : List Loc), px E → va_P D vwCl (wf σ) H1 → va_D A (wf σ) → va_S A s.heap H1 locs1 → H.size + 1 ≤ H1.size → H1[q9]? = some ce → ce.vm = .none → s.vm.findClass E = some ce.cls → vx_W p l e R s m args below meth c H1 locs1 (cells + 1) (slots + 6) Q (F0 m pc ls rest) q9) : W p l e R s m args below meth c H locs cells slots Q (F0 m pc ls st0) := by
  subst hst
  have hF := free_self hD hS hA
  refine vx_calli (vx_runV (As := As) (rest := rest) F hM cw ⟨fun a U g mk q => ⟨q.1, q.2.calling⟩, hrecv, fun U hU hW => ⟨rfl, PX.at hP hK hD hS hA hEV hZ hU hW⟩⟩ rfl hn hsize rfl (lv_room hW) hdg ⟨hcr, hsr⟩) hS (fun q _ h => hF q h) hF (fun q _ h => hF q h) ?_ (fun r u t H1 locs1 ht hvm hw _ _ _ _ => absurd hw (hno r u))
  intro E ce q9 u t H1 locs1 ht hvm _ hB hz1 hk1 hS1 hce hcv hcl
  obtain ⟨⟨hE, hP1, hK1, hD1⟩, hg9⟩ := hB
  rw [ht] at hP1 hg9
  exact kx E ce q9 H1 locs1 hE hP1 (hD1.weaken (fun _ _ _ h => hF _ h)) hS1 hg9 hce hcv hcl
/-- a call that returns for certain -/
theorem XI.okV {post : Int32 → S → Prop} {px : String → Prop} (F : CallFix p m c cc nL s args Ts own) (hM : XI l y wsy rm D tys wf (.ref b :: As) σ H.size post px) (hno : ∀ E, ¬ px E) (cw : CallW R s args own C index y bytes maxLy rety wsy rm 1 6 n)
    (hP : va_P D vwCl (wf σ) H) (hK : va_K D vwCl tys s) (hD : va_D A (wf σ)) (hS : va_S A s.heap H locs) (hA : ∀ q : Nat, s.heap.size ≤ q → A q) (hEV : EV s) (hZ : SZ A s s.heap)
    (hrecv : ∃ cell : Cell, H[b]? = some cell ∧ cell.vm.isStatics = false ∧ s.vm.findClass C = some cell.cls) (hn : As.length = n) (hsize : ls.size = nL) (hW : (rest.map fun v => v.category).sum ≤ 8) (hcr : cells + 1 ≤ R.cells) (hsr : slots + 6 ≤ R.slots)
    (hdg : decode cc pc = .ok (.invokevirtual index, 3)) (hst : st0 = As.reverse ++ .ref b :: rest)
    (kk : ∀ (r : Int32) (u : S) (H1 : Heap) (locs1 : List Loc), post r u → va_P D vwCl (wf u) H1 → va_D A (wf u) → va_S A s.heap H1 locs1 → H.size + 0 ≤ H1.size → W p l e R s m args below meth c H1 locs1 (cells + 1) (slots + 6) Q (F0 m (pc + 3) ls (.int r :: rest))) : W p l e R s m args below meth c H locs cells slots Q (F0 m pc ls st0) := by
  subst hst
  have hF := free_self hD hS hA
  refine vx_calli (vx_runV (As := As) (rest := rest) F hM cw ⟨fun a U g mk q => ⟨q.1, q.2.calling⟩, hrecv, fun U hU hW => ⟨rfl, PX.at hP hK hD hS hA hEV hZ hU hW⟩⟩ rfl hn hsize rfl (lv_room hW) hdg ⟨hcr, hsr⟩) hS (fun q _ h => hF q h) hF (fun q _ h => hF q h) ?_ ?_
  · intro E ce q9 u t H1 locs1 ht hvm _ hB hz1 hk1 hS1 hce hcv hcl
    exact absurd hB.1.1 (hno E)
  · intro r u t H1 locs1 ht hvm hw hB hz1 hk1 hS1
    obtain ⟨hP1, hK1, hD1⟩ := hB
    rw [ht] at hP1
    exact kk r u H1 locs1 hw hP1 (hD1.weaken (fun _ _ _ h => hF _ h)) hS1 hz1
end GRET
/-- a method that makes nothing -/
theorem MI.toMG {post : Int32 → S → Prop} (h : MI l y wsy rm D tys wf av σ sz post) : MG l y wsy rm D tys wf av σ sz post 0 0 0 := by
  intro p e ha hc hk s m args below hf happ hPc hT
  obtain ⟨rfl, hPR, hEV, hZ⟩ := hPc
  obtain ⟨n, o, h1, h2, h3, ⟨⟨r, u, ho, hp, hB⟩, hF⟩, hL⟩ := h p e ha hc hk s m _ below hf happ ⟨rfl, hPR⟩ hT
  exact ⟨n, o, h1, h2, h3, ⟨⟨r, u, ho, hp, hB, by rw [← hPR.1]; exact hF.1⟩, hF⟩, hL⟩
end GW
/-- two yards -/
def w2 (cI cZ : ClassId) (a b : Nat → Nat) (x : St × St) : va_W := wX cI cZ a x.1 ++ wX cI cZ b x.2
section FRM
variable {l : Launch} {y : MethodName} {wsy : List Cond} {rm : Room} {D : va_G} {tys : List (ClassId × FieldType)} {av : List Value} {sz g mc ms : Nat} {cI cZ : ClassId} {a b : Nat → Nat} {σ τ : St}
theorem MG.frameA {post : Int32 → St → Prop} (h : MG l y wsy rm D tys (wX cI cZ a) av σ sz post g mc ms) : MG l y wsy rm D tys (w2 cI cZ a b) av (σ, τ) sz (fun r u => post r u.1 ∧ u.2 = τ) g mc ms := by
  intro p e ha hc hk s m args below hf happ hPc hT
  obtain ⟨rfl, ⟨hsz, hP, hK, hD⟩, hEV, hZ⟩ := hPc
  have hPc : va_P D vwCl (wX cI cZ a σ) s.heap := hP.sub (ws' := wX cI cZ a σ) [0, 1, 2, 3, 4, 5, 6, 7, 8, 9, 10, 11, 12, 13, 14, 15, 16, 17, 18, 19, 20, 21, 22, 23, 24, 25, 26] rfl
  have hDc : va_D (fun _ => True) (wX cI cZ a σ) := hD.sub (ws' := wX cI cZ a σ) [0, 1, 2, 3, 4, 5, 6, 7, 8, 9, 10, 11, 12, 13, 14, 15, 16, 17, 18, 19, 20, 21, 22, 23, 24, 25, 26] (by decide) rfl
  have hsub : ∀ q, va_A (wX cI cZ a σ) sz q → va_A (w2 cI cZ a b (σ, τ)) sz q := va_free (A0 := va_A (w2 cI cZ a b (σ, τ)) sz) (H0 := s.heap) (H := s.heap) (locs := []) (ws := w2 cI cZ a b (σ, τ)) (wc := wX cI cZ a σ) hD.self va_S.rf (fun q hq => Or.inr (by rw [← hsz]; exact hq)) [0, 1, 2, 3, 4, 5, 6, 7, 8, 9, 10, 11, 12, 13, 14, 15, 16, 17, 18, 19, 20, 21, 22, 23, 24, 25, 26] rfl |> fun h => by rw [hsz] at h; exact h
  obtain ⟨n, o, h1, h2, h3, ⟨⟨r, u, ho, hp, ⟨hP1, hK1, hD1⟩, hg⟩, hF⟩, L, hL1, hL2⟩ := h p e ha hc hk s m _ below hf happ ⟨rfl, ⟨hsz, hPc, hK, hDc⟩, hEV, hZ.narrow hsub⟩ hT
  have hD9 : va_D (va_A (w2 cI cZ a b (σ, τ)) sz) (w2 cI cZ a b (σ, τ)) := hD.self
  subst hsz
  obtain ⟨hP2, hD2⟩ := va_join (wc := wX cI cZ a σ) (wr := wX cI cZ b τ) (w1 := wX cI cZ a u) hP hD9 [0, 1, 2, 3, 4, 5, 6, 7, 8, 9, 10, 11, 12, 13, 14, 15, 16, 17, 18, 19, 20, 21, 22, 23, 24, 25, 26] [27, 28, 29, 30, 31, 32, 33, 34, 35, 36, 37, 38, 39, 40, 41, 42, 43, 44, 45, 46, 47, 48, 49, 50, 51, 52, 53] rfl rfl (by decide) (by decide) hF.2 hsub hP1 hD1
  have hP3 : va_P D vwCl (w2 cI cZ a b (u, τ)) _ := hP2.sub (ws' := w2 cI cZ a b (u, τ)) [27, 28, 29, 30, 31, 32, 33, 34, 35, 36, 37, 38, 39, 40, 41, 42, 43, 44, 45, 46, 47, 48, 49, 50, 51, 52, 53, 0, 1, 2, 3, 4, 5, 6, 7, 8, 9, 10, 11, 12, 13, 14, 15, 16, 17, 18, 19, 20, 21, 22, 23, 24, 25, 26] rfl
  have hD3 := hD2.sub (ws' := w2 cI cZ a b (u, τ)) [27, 28, 29, 30, 31, 32, 33, 34, 35, 36, 37, 38, 39, 40, 41, 42, 43, 44, 45, 46, 47, 48, 49, 50, 51, 52, 53, 0, 1, 2, 3, 4, 5, 6, 7, 8, 9, 10, 11, 12, 13, 14, 15, 16, 17, 18, 19, 20, 21, 22, 23, 24, 25, 26] (by decide) rfl
  exact ⟨n, o, h1, h2, h3, ⟨⟨r, (u, τ), ho, ⟨hp, rfl⟩, ⟨hP3, hK1, hD3⟩, hg⟩, hF.1, fun q hq hn => hF.2 q hq (fun z => hn (hsub q z))⟩, L, hL1, fun q hq => hsub _ (hL2 q hq)⟩
theorem MG.frameB {post : Int32 → St → Prop} (h : MG l y wsy rm D tys (wX cI cZ b) av τ sz post g mc ms) : MG l y wsy rm D tys (w2 cI cZ a b) av (σ, τ) sz (fun r u => post r u.2 ∧ u.1 = σ) g mc ms := by
  intro p e ha hc hk s m args below hf happ hPc hT
  obtain ⟨rfl, ⟨hsz, hP, hK, hD⟩, hEV, hZ⟩ := hPc
  have hPc : va_P D vwCl (wX cI cZ b τ) s.heap := hP.sub (ws' := wX cI cZ b τ) [27, 28, 29, 30, 31, 32, 33, 34, 35, 36, 37, 38, 39, 40, 41, 42, 43, 44, 45, 46, 47, 48, 49, 50, 51, 52, 53] rfl
  have hDc : va_D (fun _ => True) (wX cI cZ b τ) := hD.sub (ws' := wX cI cZ b τ) [27, 28, 29, 30, 31, 32, 33, 34, 35, 36, 37, 38, 39, 40, 41, 42, 43, 44, 45, 46, 47, 48, 49, 50, 51, 52, 53] (by decide) rfl
  have hsub : ∀ q, va_A (wX cI cZ b τ) sz q → va_A (w2 cI cZ a b (σ, τ)) sz q := va_free (A0 := va_A (w2 cI cZ a b (σ, τ)) sz) (H0 := s.heap) (H := s.heap) (locs := []) (ws := w2 cI cZ a b (σ, τ)) (wc := wX cI cZ b τ) hD.self va_S.rf (fun q hq => Or.inr (by rw [← hsz]; exact hq)) [27, 28, 29, 30, 31, 32, 33, 34, 35, 36, 37, 38, 39, 40, 41, 42, 43, 44, 45, 46, 47, 48, 49, 50, 51, 52, 53] rfl |> fun h => by rw [hsz] at h; exact h
  obtain ⟨n, o, h1, h2, h3, ⟨⟨r, u, ho, hp, ⟨hP1, hK1, hD1⟩, hg⟩, hF⟩, L, hL1, hL2⟩ := h p e ha hc hk s m _ below hf happ ⟨rfl, ⟨hsz, hPc, hK, hDc⟩, hEV, hZ.narrow hsub⟩ hT
  have hD9 : va_D (va_A (w2 cI cZ a b (σ, τ)) sz) (w2 cI cZ a b (σ, τ)) := hD.self
  subst hsz
  obtain ⟨hP2, hD2⟩ := va_join (wc := wX cI cZ b τ) (wr := wX cI cZ a σ) (w1 := wX cI cZ b u) hP hD9 [27, 28, 29, 30, 31, 32, 33, 34, 35, 36, 37, 38, 39, 40, 41, 42, 43, 44, 45, 46, 47, 48, 49, 50, 51, 52, 53] [0, 1, 2, 3, 4, 5, 6, 7, 8, 9, 10, 11, 12, 13, 14, 15, 16, 17, 18, 19, 20, 21, 22, 23, 24, 25, 26] rfl rfl (by decide) (by decide) hF.2 hsub hP1 hD1
  exact ⟨n, o, h1, h2, h3, ⟨⟨r, (σ, u), ho, ⟨hp, rfl⟩, ⟨hP2, hK1, hD2⟩, hg⟩, hF.1, fun q hq hn => hF.2 q hq (fun z => hn (hsub q z))⟩, L, hL1, fun q hq => hsub _ (hL2 q hq)⟩
end FRM
end
section
/-- v without its sign, by n -/
def lowv (v n : Int32) : Int32 := (v &&& 2147483647) - (v &&& 2147483647) / n * n
set_option maxHeartbeats 4000000 in
set_option maxRecDepth 100000 in
theorem g_low {S : Type} (l : Launch) (D : va_G) (tys : List (ClassId × FieldType)) (wf : S → va_W) (σ : S) (sz : Nat) (v n : Int32) (hn : ¬ n = 0) : MG l yL_low wsL_low ({ frames := 0, cells := 0, slots := 0, locals := 0 }) D tys wf [.int v, .int n] σ sz (fun r u => u = σ ∧ r = lowv v n) 0 0 0 := by
  refine MG.of (cc := cL_low) (maxL := 2) (by decide) rfl (Nat.le_of_ble_eq_true rfl) ?_
  intro p e s m args below meth c A H locs ls hx hb hr hml hown hts hlocks hEV hZ hA hS hP hK hD hl
  have hl : lv_has ls 2 [(0, .int v), (1, .int n)] := hl
  refine lv_iload_n hx hb dL_low_0 rfl (lv_at hl 0 rfl) ?_
  refine lv_ldc (v := 2147483647) hx hb hown (hts (.constant RL 7 2147483647) (by decide +kernel)) dL_low_1 ?_
  refine lv_iand hx hb dL_low_3 ?_
  refine lv_iload_n hx hb dL_low_4 rfl (lv_at hl 1 rfl) ?_
  refine lv_irem hx hb dL_low_5 hn ?_
  exact MG.ret hx hb hr hlocks hK hP hD hS hS.1 (Nat.le_refl _) (Nat.le_refl _) dL_low_6 (by exact ⟨rfl, rfl⟩)
theorem MG.post' {S : Type} {l : Launch} {y : MethodName} {wsy : List Cond} {rm : Room} {D : va_G} {tys : List (ClassId × FieldType)} {wf : S → va_W} {av : List Value} {σ : S} {sz g mc ms : Nat} {post post' : Int32 → S → Prop} (h : MG l y wsy rm D tys wf av σ sz post g mc ms) (hi : ∀ r u, post r u → post' r u) : MG l y wsy rm D tys wf av σ sz post' g mc ms := by
  intro p e ha hc hk s m args below hf happ hPc hT
  obtain ⟨n, o, h1, h2, h3, ⟨⟨r, u, ho, hp, hB⟩, hF⟩, hL⟩ := h p e ha hc hk s m _ below hf happ hPc hT
  exact ⟨n, o, h1, h2, h3, ⟨⟨r, u, ho, hi r u hp, hB⟩, hF⟩, hL⟩
theorem fA {l : Launch} {y : MethodName} {wsy : List Cond} {rm : Room} {D : va_G} {tys : List (ClassId × FieldType)} {av : List Value} {sz g mc ms : Nat} {cI cZ : ClassId} {a : Nat → Nat} (b : Nat → Nat) {P : Int32 → Prop} (h : MG l y wsy rm D tys (wX cI cZ a) av z0 sz (fun r u => u = z0 ∧ P r) g mc ms) : MG l y wsy rm D tys (w2 cI cZ a b) av (z0, z0) sz (fun r u => u = (z0, z0) ∧ P r) g mc ms :=
  (h.frameA (τ := z0)).post' (fun r u q => ⟨Prod.ext q.1.1 q.2, q.1.2⟩)
theorem fB {l : Launch} {y : MethodName} {wsy : List Cond} {rm : Room} {D : va_G} {tys : List (ClassId × FieldType)} {av : List Value} {sz g mc ms : Nat} {cI cZ : ClassId} {b : Nat → Nat} (a : Nat → Nat) {P : Int32 → Prop} (h : MG l y wsy rm D tys (wX cI cZ b) av z0 sz (fun r u => u = z0 ∧ P r) g mc ms) : MG l y wsy rm D tys (w2 cI cZ a b) av (z0, z0) sz (fun r u => u = (z0, z0) ∧ P r) g mc ms :=
  (h.frameB (σ := z0)).post' (fun r u q => ⟨Prod.ext q.2 q.1.1, q.1.2⟩)
set_option maxHeartbeats 4000000 in
set_option maxRecDepth 100000 in
theorem g_looks0 (l : Launch) (D : va_G) (cI cZ : ClassId) (a : Nat → Nat) (sz : Nat) (hfl : l.stackTraces = false) (t x : Int32) : MG l yL_looks wsL_looks ({ frames := 9, cells := 1, slots := 6, locals := 152 }) D (ty2 cI cZ) (wX cI cZ a) [.ref (a 0), .int 0, .int t, .int x] z0 sz (fun r u => u = z0 ∧ r = -99999) 1 1 6 := by
  refine MG.ofH (cc := cL_looks) (maxL := 5) (hh := [(0, 79, 80, 52)]) (by decide) rfl (Nat.le_of_ble_eq_true rfl) ?_
  intro p e s m args below meth c A H locs ls hx hb hr hml hown hts hlocks hexc hEV hZ hA hS hP hK hD hl
  have hl : lv_has ls 5 [(0, .ref (a 0)), (1, .int 0), (2, .int t), (3, .int x)] := hl
  have hG : s.heap.size + 0 ≤ H.size := hS.1
  refine lv_iload_n hx hb dL_looks_0 rfl (lv_at hl 1 rfl) ?_
  refine lv_if_ne (tgt := 12) hx hb dL_looks_1 (by decide) (fun c9 => absurd (by decide) c9) (fun _ => ?_)
  refine lv_aload_n hx hb dL_looks_4 rfl (lv_at hl 0 rfl) ?_
  refine lv_iload_n hx hb dL_looks_5 rfl (lv_at hl 2 rfl) ?_
  refine XI.thrV (As := [.int t]) (rest := []) ⟨hx, hb, hml, hown, hts⟩ (c_X5_block l D cI cZ a H.size z0 hfl t 0 rfl (Nat.zero_le 4)) (fun r u q => absurd q.1 (by rw [cdTr, cif_f (tr0 t)]; decide)) (cwV 1 hts gL_looks_X5_block rfl rfl rfl (by decide +kernel) ⟨Nat.le_of_ble_eq_true rfl, Nat.le_of_ble_eq_true rfl⟩) hP hK hD hS hA hEV hZ (va_recv hK hP (ci := 5) (q0 := 0) rfl rfl) rfl hl.1 (Nat.le_of_ble_eq_true rfl) (Nat.le_of_ble_eq_true rfl) (Nat.le_of_ble_eq_true rfl) dL_looks_6 rfl ?_
  intro E ce q9 H_1 locs hE hP hD hS hg hce hcv hcl
  obtain ⟨rfl, -⟩ := hE
  have hG : s.heap.size + 1 ≤ H_1.size := by omega
  refine vx_catch (name := eIO) (E := eIO) hown [] ⟨0, 79, 80, 52⟩ [] hexc ?_ (by decide) (by decide) (hts (.classLink RL 52 eIO) (by decide +kernel)) (va_Nw.use rfl (hEV.1 (.castable eIO eIO) (by decide +kernel))) hce hcv hcl ?_
  · exact fun z hz => absurd hz List.not_mem_nil
  refine lv_astore (lv' := [(4, .ref q9), (0, .ref (a 0)), (1, .int 0), (2, .int t), (3, .int x)]) hx hb dL_looks_80 hl (by decide) rfl (fun ls hl => ?_)
  refine lv_ldc (v := (-99999)) hx hb hown (hts (.constant RL 54 (-99999)) (by decide +kernel)) dL_looks_82 ?_
  exact MG.ret hx hb hr hlocks hK hP hD hS (by omega) (Nat.le_of_ble_eq_true rfl) (Nat.le_of_ble_eq_true rfl) dL_looks_84 (by exact ⟨rfl, rfl⟩)
set_option maxHeartbeats 4000000 in
set_option maxRecDepth 100000 in
theorem g_looks1 (l : Launch) (D : va_G) (cI cZ : ClassId) (a : Nat → Nat) (sz : Nat) (hfl : l.stackTraces = false) (t x : Int32) : MG l yL_looks wsL_looks ({ frames := 9, cells := 1, slots := 6, locals := 152 }) D (ty2 cI cZ) (wX cI cZ a) [.ref (a 0), .int 1, .int t, .int x] z0 sz (fun r u => u = z0 ∧ r = -99999) 1 1 6 := by
  refine MG.ofH (cc := cL_looks) (maxL := 5) (hh := [(0, 79, 80, 52)]) (by decide) rfl (Nat.le_of_ble_eq_true rfl) ?_
  intro p e s m args below meth c A H locs ls hx hb hr hml hown hts hlocks hexc hEV hZ hA hS hP hK hD hl
  have hl : lv_has ls 5 [(0, .ref (a 0)), (1, .int 1), (2, .int t), (3, .int x)] := hl
  have hG : s.heap.size + 0 ≤ H.size := hS.1
  refine lv_iload_n hx hb dL_looks_0 rfl (lv_at hl 1 rfl) ?_
  refine lv_if_ne (tgt := 12) hx hb dL_looks_1 (by decide) (fun _ => ?_) (fun c9 => absurd c9 (by decide))
  refine lv_iload_n hx hb dL_looks_12 rfl (lv_at hl 1 rfl) ?_
  refine lv_iconst (v := 1) hx hb dL_looks_13 (by decide) ?_
  refine lv_icmp_ne (tgt := 33) hx hb dL_looks_14 (by decide) (fun c9 => absurd (by decide) c9) (fun _ => ?_)
  refine lv_aload_n hx hb dL_looks_17 rfl (lv_at hl 0 rfl) ?_
  refine lv_iload_n hx hb dL_looks_18 rfl (lv_at hl 2 rfl) ?_
  refine XI.thrV (As := [.int t]) (rest := []) ⟨hx, hb, hml, hown, hts⟩ (c_X5_isRight l D cI cZ a H.size z0 hfl t 0 rfl (Nat.zero_le 4) (fun _ _ => Or.inl rfl)) (fun r u q => absurd q.1 (by rw [cdTr, cif_f (tr0 t)]; decide)) (cwV 1 hts gL_looks_X5_isRight rfl rfl rfl (by decide +kernel) ⟨Nat.le_of_ble_eq_true rfl, Nat.le_of_ble_eq_true rfl⟩) hP hK hD hS hA hEV hZ (va_recv hK hP (ci := 5) (q0 := 0) rfl rfl) rfl hl.1 (Nat.le_of_ble_eq_true rfl) (Nat.le_of_ble_eq_true rfl) (Nat.le_of_ble_eq_true rfl) dL_looks_19 rfl ?_
  intro E ce q9 H_1 locs hE hP hD hS hg hce hcv hcl
  obtain ⟨rfl, -⟩ := hE
  have hG : s.heap.size + 1 ≤ H_1.size := by omega
  refine vx_catch (name := eIO) (E := eIO) hown [] ⟨0, 79, 80, 52⟩ [] hexc ?_ (by decide) (by decide) (hts (.classLink RL 52 eIO) (by decide +kernel)) (va_Nw.use rfl (hEV.1 (.castable eIO eIO) (by decide +kernel))) hce hcv hcl ?_
  · exact fun z hz => absurd hz List.not_mem_nil
  refine lv_astore (lv' := [(4, .ref q9), (0, .ref (a 0)), (1, .int 1), (2, .int t), (3, .int x)]) hx hb dL_looks_80 hl (by decide) rfl (fun ls hl => ?_)
  refine lv_ldc (v := (-99999)) hx hb hown (hts (.constant RL 54 (-99999)) (by decide +kernel)) dL_looks_82 ?_
  exact MG.ret hx hb hr hlocks hK hP hD hS (by omega) (Nat.le_of_ble_eq_true rfl) (Nat.le_of_ble_eq_true rfl) dL_looks_84 (by exact ⟨rfl, rfl⟩)
set_option maxHeartbeats 4000000 in
set_option maxRecDepth 100000 in
theorem g_looks2 (l : Launch) (D : va_G) (cI cZ : ClassId) (a : Nat → Nat) (sz : Nat) (hfl : l.stackTraces = false) (t x : Int32) : MG l yL_looks wsL_looks ({ frames := 9, cells := 1, slots := 6, locals := 152 }) D (ty2 cI cZ) (wX cI cZ a) [.ref (a 0), .int 2, .int t, .int x] z0 sz (fun r u => u = z0 ∧ r = -99999) 1 1 6 := by
  refine MG.ofH (cc := cL_looks) (maxL := 5) (hh := [(0, 79, 80, 52)]) (by decide) rfl (Nat.le_of_ble_eq_true rfl) ?_
  intro p e s m args below meth c A H locs ls hx hb hr hml hown hts hlocks hexc hEV hZ hA hS hP hK hD hl
  have hl : lv_has ls 5 [(0, .ref (a 0)), (1, .int 2), (2, .int t), (3, .int x)] := hl
  have hG : s.heap.size + 0 ≤ H.size := hS.1
  refine lv_iload_n hx hb dL_looks_0 rfl (lv_at hl 1 rfl) ?_
  refine lv_if_ne (tgt := 12) hx hb dL_looks_1 (by decide) (fun _ => ?_) (fun c9 => absurd c9 (by decide))
  refine lv_iload_n hx hb dL_looks_12 rfl (lv_at hl 1 rfl) ?_
  refine lv_iconst (v := 1) hx hb dL_looks_13 (by decide) ?_
  refine lv_icmp_ne (tgt := 33) hx hb dL_looks_14 (by decide) (fun _ => ?_) (fun c9 => absurd c9 (by decide))
  refine lv_iload_n hx hb dL_looks_33 rfl (lv_at hl 1 rfl) ?_
  refine lv_iconst (v := 2) hx hb dL_looks_34 (by decide) ?_
  refine lv_icmp_ne (tgt := 46) hx hb dL_looks_35 (by decide) (fun c9 => absurd (by decide) c9) (fun _ => ?_)
  refine lv_aload_n hx hb dL_looks_38 rfl (lv_at hl 0 rfl) ?_
  refine lv_iload_n hx hb dL_looks_39 rfl (lv_at hl 2 rfl) ?_
  refine XI.thrV (As := [.int t]) (rest := []) ⟨hx, hb, hml, hown, hts⟩ (c_X5_booking l D cI cZ a H.size z0 hfl t 0 rfl (Nat.zero_le 30)) (fun r u q => absurd q.1 (by rw [cdTr, cif_f (tr0 t)]; decide)) (cwV 1 hts gL_looks_X5_booking rfl rfl rfl (by decide +kernel) ⟨Nat.le_of_ble_eq_true rfl, Nat.le_of_ble_eq_true rfl⟩) hP hK hD hS hA hEV hZ (va_recv hK hP (ci := 5) (q0 := 0) rfl rfl) rfl hl.1 (Nat.le_of_ble_eq_true rfl) (Nat.le_of_ble_eq_true rfl) (Nat.le_of_ble_eq_true rfl) dL_looks_40 rfl ?_
  intro E ce q9 H_1 locs hE hP hD hS hg hce hcv hcl
  obtain ⟨rfl, -⟩ := hE
  have hG : s.heap.size + 1 ≤ H_1.size := by omega
  refine vx_catch (name := eIO) (E := eIO) hown [] ⟨0, 79, 80, 52⟩ [] hexc ?_ (by decide) (by decide) (hts (.classLink RL 52 eIO) (by decide +kernel)) (va_Nw.use rfl (hEV.1 (.castable eIO eIO) (by decide +kernel))) hce hcv hcl ?_
  · exact fun z hz => absurd hz List.not_mem_nil
  refine lv_astore (lv' := [(4, .ref q9), (0, .ref (a 0)), (1, .int 2), (2, .int t), (3, .int x)]) hx hb dL_looks_80 hl (by decide) rfl (fun ls hl => ?_)
  refine lv_ldc (v := (-99999)) hx hb hown (hts (.constant RL 54 (-99999)) (by decide +kernel)) dL_looks_82 ?_
  exact MG.ret hx hb hr hlocks hK hP hD hS (by omega) (Nat.le_of_ble_eq_true rfl) (Nat.le_of_ble_eq_true rfl) dL_looks_84 (by exact ⟨rfl, rfl⟩)
set_option maxHeartbeats 4000000 in
set_option maxRecDepth 100000 in
theorem g_looks3 (l : Launch) (D : va_G) (cI cZ : ClassId) (a : Nat → Nat) (sz : Nat) (hfl : l.stackTraces = false) (t x : Int32) : MG l yL_looks wsL_looks ({ frames := 9, cells := 1, slots := 6, locals := 152 }) D (ty2 cI cZ) (wX cI cZ a) [.ref (a 0), .int 3, .int t, .int x] z0 sz (fun r u => u = z0 ∧ r = -99999) 1 1 6 := by
  refine MG.ofH (cc := cL_looks) (maxL := 5) (hh := [(0, 79, 80, 52)]) (by decide) rfl (Nat.le_of_ble_eq_true rfl) ?_
  intro p e s m args below meth c A H locs ls hx hb hr hml hown hts hlocks hexc hEV hZ hA hS hP hK hD hl
  have hl : lv_has ls 5 [(0, .ref (a 0)), (1, .int 3), (2, .int t), (3, .int x)] := hl
  have hG : s.heap.size + 0 ≤ H.size := hS.1
  refine lv_iload_n hx hb dL_looks_0 rfl (lv_at hl 1 rfl) ?_
  refine lv_if_ne (tgt := 12) hx hb dL_looks_1 (by decide) (fun _ => ?_) (fun c9 => absurd c9 (by decide))
  refine lv_iload_n hx hb dL_looks_12 rfl (lv_at hl 1 rfl) ?_
  refine lv_iconst (v := 1) hx hb dL_looks_13 (by decide) ?_
  refine lv_icmp_ne (tgt := 33) hx hb dL_looks_14 (by decide) (fun _ => ?_) (fun c9 => absurd c9 (by decide))
  refine lv_iload_n hx hb dL_looks_33 rfl (lv_at hl 1 rfl) ?_
  refine lv_iconst (v := 2) hx hb dL_looks_34 (by decide) ?_
  refine lv_icmp_ne (tgt := 46) hx hb dL_looks_35 (by decide) (fun _ => ?_) (fun c9 => absurd c9 (by decide))
  refine lv_iload_n hx hb dL_looks_46 rfl (lv_at hl 1 rfl) ?_
  refine lv_iconst (v := 3) hx hb dL_looks_47 (by decide) ?_
  refine lv_icmp_ne (tgt := 59) hx hb dL_looks_48 (by decide) (fun c9 => absurd (by decide) c9) (fun _ => ?_)
  refine lv_aload_n hx hb dL_looks_51 rfl (lv_at hl 0 rfl) ?_
  refine lv_iload_n hx hb dL_looks_52 rfl (lv_at hl 2 rfl) ?_
  refine XI.thrV (As := [.int t]) (rest := []) ⟨hx, hb, hml, hown, hts⟩ (c_X5_late l D cI cZ a H.size z0 hfl t 0 rfl (Nat.zero_le 30)) (fun r u q => absurd q.1 (by rw [cdTr, cif_f (tr0 t)]; decide)) (cwV 1 hts gL_looks_X5_late rfl rfl rfl (by decide +kernel) ⟨Nat.le_of_ble_eq_true rfl, Nat.le_of_ble_eq_true rfl⟩) hP hK hD hS hA hEV hZ (va_recv hK hP (ci := 5) (q0 := 0) rfl rfl) rfl hl.1 (Nat.le_of_ble_eq_true rfl) (Nat.le_of_ble_eq_true rfl) (Nat.le_of_ble_eq_true rfl) dL_looks_53 rfl ?_
  intro E ce q9 H_1 locs hE hP hD hS hg hce hcv hcl
  obtain ⟨rfl, -⟩ := hE
  have hG : s.heap.size + 1 ≤ H_1.size := by omega
  refine vx_catch (name := eIO) (E := eIO) hown [] ⟨0, 79, 80, 52⟩ [] hexc ?_ (by decide) (by decide) (hts (.classLink RL 52 eIO) (by decide +kernel)) (va_Nw.use rfl (hEV.1 (.castable eIO eIO) (by decide +kernel))) hce hcv hcl ?_
  · exact fun z hz => absurd hz List.not_mem_nil
  refine lv_astore (lv' := [(4, .ref q9), (0, .ref (a 0)), (1, .int 3), (2, .int t), (3, .int x)]) hx hb dL_looks_80 hl (by decide) rfl (fun ls hl => ?_)
  refine lv_ldc (v := (-99999)) hx hb hown (hts (.constant RL 54 (-99999)) (by decide +kernel)) dL_looks_82 ?_
  exact MG.ret hx hb hr hlocks hK hP hD hS (by omega) (Nat.le_of_ble_eq_true rfl) (Nat.le_of_ble_eq_true rfl) dL_looks_84 (by exact ⟨rfl, rfl⟩)
theorem wa_in {q : Nat} (hq : q < 2) : inR (nI (6 + q)) 6 7 := by
  rcases (show q = 0 ∨ q = 1 by omega) with rfl | rfl <;> exact ⟨by decide +kernel, by decide +kernel⟩
theorem wa_out {q : Nat} (h2 : 2 ≤ q) (hq : q < 8) : ¬ inR (nI (6 + q)) 6 7 := fun h => h.2 (by rw [show (7 : Int32) = nI 7 from rfl, nI_ltI (by omega) (by omega)]; omega)
theorem wa_ok {q z : Nat} (hq : q < 2) (hz : z < 2 ^ 31) : cdAt 0 (nI (6 + q)) (nI z) = 0 := by rw [cdAt, cif_t ⟨Or.inl (wa_in hq), nI_pos hz⟩]
theorem wa_no {q z : Nat} (h2 : 2 ≤ q) (hq : q < 8) : ¬ cdAt 0 (nI (6 + q)) (nI z) = 0 := by
  rw [cdAt, cif_f (fun h => h.1.elim (wa_out h2 hq) (tr0 _))]; decide
theorem wa_e {q z : Nat} (hq : q < 2) (hz : z < 2 ^ 31) : waJ (fun _ => 0) (fun _ _ => 0) (nI (6 + q)) (nI z) = -1 := by
  rw [waJ, cif_t (wa_in hq), fLJ, if_pos ((nI_leI (by omega) hz).mpr (Nat.zero_le z))]
set_option maxHeartbeats 4000000 in
set_option maxRecDepth 100000 in
theorem g_looks4s (l : Launch) (D : va_G) (cI cZ : ClassId) (a : Nat → Nat) (sz : Nat) (hfl : l.stackTraces = false) (q z : Nat) (hq : q < 2) (hz : z < 2 ^ 31) : MG l yL_looks wsL_looks ({ frames := 8, cells := 1, slots := 6, locals := 133 }) D (ty2 cI cZ) (wX cI cZ a) [.ref (a 0), .int 4, .int (nI (6 + q)), .int (nI z)] z0 sz (fun r u => u = z0 ∧ r = -1) 0 1 6 := by
  refine MG.ofH (cc := cL_looks) (maxL := 5) (hh := [(0, 79, 80, 52)]) (by decide) rfl (Nat.le_of_ble_eq_true rfl) ?_
  intro p e s m args below meth c A H locs ls hx hb hr hml hown hts hlocks hexc hEV hZ hA hS hP hK hD hl
  have hl : lv_has ls 5 [(0, .ref (a 0)), (1, .int 4), (2, .int (nI (6 + q))), (3, .int (nI z))] := hl
  have hG : s.heap.size + 0 ≤ H.size := hS.1
  refine lv_iload_n hx hb dL_looks_0 rfl (lv_at hl 1 rfl) ?_
  refine lv_if_ne (tgt := 12) hx hb dL_looks_1 (by decide) (fun _ => ?_) (fun c9 => absurd c9 (by decide))
  refine lv_iload_n hx hb dL_looks_12 rfl (lv_at hl 1 rfl) ?_
  refine lv_iconst (v := 1) hx hb dL_looks_13 (by decide) ?_
  refine lv_icmp_ne (tgt := 33) hx hb dL_looks_14 (by decide) (fun _ => ?_) (fun c9 => absurd c9 (by decide))
  refine lv_iload_n hx hb dL_looks_33 rfl (lv_at hl 1 rfl) ?_
  refine lv_iconst (v := 2) hx hb dL_looks_34 (by decide) ?_
  refine lv_icmp_ne (tgt := 46) hx hb dL_looks_35 (by decide) (fun _ => ?_) (fun c9 => absurd c9 (by decide))
  refine lv_iload_n hx hb dL_looks_46 rfl (lv_at hl 1 rfl) ?_
  refine lv_iconst (v := 3) hx hb dL_looks_47 (by decide) ?_
  refine lv_icmp_ne (tgt := 59) hx hb dL_looks_48 (by decide) (fun _ => ?_) (fun c9 => absurd c9 (by decide))
  refine lv_iload_n hx hb dL_looks_59 rfl (lv_at hl 1 rfl) ?_
  refine lv_iconst (v := 4) hx hb dL_looks_60 (by decide) ?_
  refine lv_icmp_ne (tgt := 73) hx hb dL_looks_61 (by decide) (fun c9 => absurd (by decide) c9) (fun _ => ?_)
  refine lv_aload_n hx hb dL_looks_64 rfl (lv_at hl 0 rfl) ?_
  refine lv_iload_n hx hb dL_looks_65 rfl (lv_at hl 2 rfl) ?_
  refine lv_iload_n hx hb dL_looks_66 rfl (lv_at hl 3 rfl) ?_
  refine XI.okV (As := [.int (nI (6 + q)), .int (nI z)]) (rest := []) ⟨hx, hb, hml, hown, hts⟩ (c_X5_waggonAt l D cI cZ a H.size z0 hfl (nI (6 + q)) (nI z) 0 rfl (Nat.zero_le 4) 0 (fun _ => 0) (fun _ _ => 0) rfl (Nat.zero_le 8) (fun _ _ => ⟨rfl, Nat.zero_le 8⟩) (fun _ _ _ h => absurd h (Nat.not_lt_zero _))) (fun E q9 => absurd (q9.2.symm.trans (wa_ok hq hz)) (by decide)) (cwV 2 hts gL_looks_X5_waggonAt rfl rfl rfl (by decide +kernel) ⟨Nat.le_of_ble_eq_true rfl, Nat.le_of_ble_eq_true rfl⟩) hP hK hD hS hA hEV hZ (va_recv hK hP (ci := 5) (q0 := 0) rfl rfl) rfl hl.1 (Nat.le_of_ble_eq_true rfl) (Nat.le_of_ble_eq_true rfl) (Nat.le_of_ble_eq_true rfl) dL_looks_67 rfl (fun r_1 u_1 H_1 locs h_1 hP hD hS hg => ?_)
  have h_1 : u_1 = z0 ∧ r_1 = (-1) := ⟨h_1.2.1, h_1.2.2.trans (wa_e hq hz)⟩
  obtain ⟨e_1, f_1⟩ := h_1
  subst e_1
  subst f_1
  have hG : s.heap.size + 0 ≤ H_1.size := by omega
  refine lv_goto (tgt := 79) hx hb dL_looks_70 (by decide) ?_
  exact MG.ret hx hb hr hlocks hK hP hD hS (by omega) (Nat.le_of_ble_eq_true rfl) (Nat.le_of_ble_eq_true rfl) dL_looks_79 (by exact ⟨rfl, rfl⟩)
set_option maxHeartbeats 4000000 in
set_option maxRecDepth 100000 in
theorem g_looks4x (l : Launch) (D : va_G) (cI cZ : ClassId) (a : Nat → Nat) (sz : Nat) (hfl : l.stackTraces = false) (q z : Nat) (h2 : 2 ≤ q) (hq : q < 8) : MG l yL_looks wsL_looks ({ frames := 8, cells := 1, slots := 6, locals := 133 }) D (ty2 cI cZ) (wX cI cZ a) [.ref (a 0), .int 4, .int (nI (6 + q)), .int (nI z)] z0 sz (fun r u => u = z0 ∧ r = -99999) 0 1 6 := by
  refine MG.ofH (cc := cL_looks) (maxL := 5) (hh := [(0, 79, 80, 52)]) (by decide) rfl (Nat.le_of_ble_eq_true rfl) ?_
  intro p e s m args below meth c A H locs ls hx hb hr hml hown hts hlocks hexc hEV hZ hA hS hP hK hD hl
  have hl : lv_has ls 5 [(0, .ref (a 0)), (1, .int 4), (2, .int (nI (6 + q))), (3, .int (nI z))] := hl
  have hG : s.heap.size + 0 ≤ H.size := hS.1
  refine lv_iload_n hx hb dL_looks_0 rfl (lv_at hl 1 rfl) ?_
  refine lv_if_ne (tgt := 12) hx hb dL_looks_1 (by decide) (fun _ => ?_) (fun c9 => absurd c9 (by decide))
  refine lv_iload_n hx hb dL_looks_12 rfl (lv_at hl 1 rfl) ?_
  refine lv_iconst (v := 1) hx hb dL_looks_13 (by decide) ?_
  refine lv_icmp_ne (tgt := 33) hx hb dL_looks_14 (by decide) (fun _ => ?_) (fun c9 => absurd c9 (by decide))
  refine lv_iload_n hx hb dL_looks_33 rfl (lv_at hl 1 rfl) ?_
  refine lv_iconst (v := 2) hx hb dL_looks_34 (by decide) ?_
  refine lv_icmp_ne (tgt := 46) hx hb dL_looks_35 (by decide) (fun _ => ?_) (fun c9 => absurd c9 (by decide))
  refine lv_iload_n hx hb dL_looks_46 rfl (lv_at hl 1 rfl) ?_
  refine lv_iconst (v := 3) hx hb dL_looks_47 (by decide) ?_
  refine lv_icmp_ne (tgt := 59) hx hb dL_looks_48 (by decide) (fun _ => ?_) (fun c9 => absurd c9 (by decide))
  refine lv_iload_n hx hb dL_looks_59 rfl (lv_at hl 1 rfl) ?_
  refine lv_iconst (v := 4) hx hb dL_looks_60 (by decide) ?_
  refine lv_icmp_ne (tgt := 73) hx hb dL_looks_61 (by decide) (fun c9 => absurd (by decide) c9) (fun _ => ?_)
  refine lv_aload_n hx hb dL_looks_64 rfl (lv_at hl 0 rfl) ?_
  refine lv_iload_n hx hb dL_looks_65 rfl (lv_at hl 2 rfl) ?_
  refine lv_iload_n hx hb dL_looks_66 rfl (lv_at hl 3 rfl) ?_
  refine XI.thrV (As := [.int (nI (6 + q)), .int (nI z)]) (rest := []) ⟨hx, hb, hml, hown, hts⟩ (c_X5_waggonAt l D cI cZ a H.size z0 hfl (nI (6 + q)) (nI z) 0 rfl (Nat.zero_le 4) 0 (fun _ => 0) (fun _ _ => 0) rfl (Nat.zero_le 8) (fun _ _ => ⟨rfl, Nat.zero_le 8⟩) (fun _ _ _ h => absurd h (Nat.not_lt_zero _))) (fun r u q9 => absurd q9.1 (wa_no h2 hq)) (cwV 2 hts gL_looks_X5_waggonAt rfl rfl rfl (by decide +kernel) ⟨Nat.le_of_ble_eq_true rfl, Nat.le_of_ble_eq_true rfl⟩) hP hK hD hS hA hEV hZ (va_recv hK hP (ci := 5) (q0 := 0) rfl rfl) rfl hl.1 (Nat.le_of_ble_eq_true rfl) (Nat.le_of_ble_eq_true rfl) (Nat.le_of_ble_eq_true rfl) dL_looks_67 rfl ?_
  intro E ce q9 H_1 locs hE hP hD hS hg hce hcv hcl
  obtain ⟨rfl, -⟩ := hE
  have hG : s.heap.size + 1 ≤ H_1.size := by omega
  refine vx_catch (name := eIO) (E := eIO) hown [] ⟨0, 79, 80, 52⟩ [] hexc ?_ (by decide) (by decide) (hts (.classLink RL 52 eIO) (by decide +kernel)) (va_Nw.use rfl (hEV.1 (.castable eIO eIO) (by decide +kernel))) hce hcv hcl ?_
  · exact fun z hz => absurd hz List.not_mem_nil
  refine lv_astore (lv' := [(4, .ref q9), (0, .ref (a 0)), (1, .int 4), (2, .int (nI (6 + q))), (3, .int (nI z))]) hx hb dL_looks_80 hl (by decide) rfl (fun ls hl => ?_)
  refine lv_ldc (v := (-99999)) hx hb hown (hts (.constant RL 54 (-99999)) (by decide +kernel)) dL_looks_82 ?_
  exact MG.ret hx hb hr hlocks hK hP hD hS (by omega) (Nat.le_of_ble_eq_true rfl) (Nat.le_of_ble_eq_true rfl) dL_looks_84 (by exact ⟨rfl, rfl⟩)
def wav (q : Nat) : Int32 := if q < 2 then -1 else -99999
theorem g_looks4 (l : Launch) (D : va_G) (cI cZ : ClassId) (a : Nat → Nat) (sz : Nat) (hfl : l.stackTraces = false) (q z : Nat) (hq : q < 8) (hz : z < 2 ^ 31) : MG l yL_looks wsL_looks ({ frames := 8, cells := 1, slots := 6, locals := 133 }) D (ty2 cI cZ) (wX cI cZ a) [.ref (a 0), .int 4, .int (nI (6 + q)), .int (nI z)] z0 sz (fun r u => u = z0 ∧ r = wav q) 0 1 6 := by
  by_cases h : q < 2
  · exact (g_looks4s l D cI cZ a sz hfl q z h hz).post' (fun r u k => ⟨k.1, k.2.trans (if_pos h).symm⟩)
  · exact (g_looks4x l D cI cZ a sz hfl q z (by omega) hq).post' (fun r u k => ⟨k.1, k.2.trans (if_neg h).symm⟩)
theorem cdA0 : cdAdd z0 0 (-1) = 1 := by rw [cdAdd, cif_f (fun h => h.1 (by decide))]
theorem cdA1 : ¬ cdAdd z0 0 (-1) = 0 := by rw [cdA0]; decide
theorem cdA2 : ¬ cdAdd z0 0 (-1) = 2 := by rw [cdA0]; decide
theorem cdC0 (b f t : Int32) : cdCan 0 0 b f t = 1 := by rw [cdCan, cif_f (fun h => tr0 _ h.1)]
set_option maxHeartbeats 4000000 in
set_option maxRecDepth 100000 in
theorem g_does (l : Launch) (D : va_G) (cI cZ : ClassId) (a : Nat → Nat) (sz : Nat) (hfl : l.stackTraces = false)  : MG l yL_does wsL_does ({ frames := 9, cells := 1, slots := 6, locals := 152 }) D (ty2 cI cZ) (wX cI cZ a) [.ref (a 0), .int 0, .int (-1), .int 0, .int 0, .int 0] z0 sz (fun r u => u = z0 ∧ r = -99999) 1 1 6 := by
  refine MG.ofH (cc := cL_does) (maxL := 7) (hh := [(0, 194, 195, 52), (0, 194, 200, 55), (0, 194, 205, 57)]) (by decide) rfl (Nat.le_of_ble_eq_true rfl) ?_
  intro p e s m args below meth c A H locs ls hx hb hr hml hown hts hlocks hexc hEV hZ hA hS hP hK hD hl
  have hl : lv_has ls 7 [(0, .ref (a 0)), (1, .int 0), (2, .int (-1)), (3, .int 0), (4, .int 0), (5, .int 0)] := hl
  have hG : s.heap.size + 0 ≤ H.size := hS.1
  refine lv_iload_n hx hb dL_does_0 rfl (lv_at hl 1 rfl) ?_
  refine lv_if_ne (tgt := 22) hx hb dL_does_1 (by decide) (fun c9 => absurd (by decide) c9) (fun _ => ?_)
  refine lv_aload_n hx hb dL_does_4 rfl (lv_at hl 0 rfl) ?_
  refine lv_iload_n hx hb dL_does_5 rfl (lv_at hl 2 rfl) ?_
  refine lv_iload_n hx hb dL_does_6 rfl (lv_at hl 3 rfl) ?_
  refine lv_iconst (v := 1) hx hb dL_does_7 (by decide) ?_
  refine lv_icmp_ne (tgt := 15) hx hb dL_does_8 (by decide) (fun _ => ?_) (fun c9 => absurd c9 (by decide))
  refine lv_iconst (v := 0) hx hb dL_does_15 (by decide) ?_
  refine XI.thrV (As := [.int (-1), .int 0]) (rest := []) ⟨hx, hb, hml, hown, hts⟩ (c_X5_addTrain l D cI cZ a H.size z0 hfl (-1) 0 (Or.inl rfl) 0 rfl (Nat.zero_le 4)) (fun r u q => absurd q.1 cdA1) (cwV 2 hts gL_does_X5_addTrain rfl rfl rfl (by decide +kernel) ⟨Nat.le_of_ble_eq_true rfl, Nat.le_of_ble_eq_true rfl⟩) hP hK hD hS hA hEV hZ (va_recv hK hP (ci := 5) (q0 := 0) rfl rfl) rfl hl.1 (Nat.le_of_ble_eq_true rfl) (Nat.le_of_ble_eq_true rfl) (Nat.le_of_ble_eq_true rfl) dL_does_16 rfl ?_
  intro E ce q9 H_1 locs hE hP hD hS hg hce hcv hcl
  obtain rfl : E = eIO := hE.elim (fun q => q.1) (fun q => absurd q.2 cdA2)
  have hG : s.heap.size + 1 ≤ H_1.size := by omega
  refine vx_catch (name := eIO) (E := eIO) hown [] ⟨0, 194, 195, 52⟩ [⟨0, 194, 200, 55⟩, ⟨0, 194, 205, 57⟩] hexc ?_ (by decide) (by decide) (hts (.classLink RL 52 eIO) (by decide +kernel)) (va_Nw.use rfl (hEV.1 (.castable eIO eIO) (by decide +kernel))) hce hcv hcl ?_
  · exact fun z hz => absurd hz List.not_mem_nil
  refine lv_astore (lv' := [(6, .ref q9), (0, .ref (a 0)), (1, .int 0), (2, .int (-1)), (3, .int 0), (4, .int 0), (5, .int 0)]) hx hb dL_does_195 hl (by decide) rfl (fun ls hl => ?_)
  refine lv_ldc (v := (-99999)) hx hb hown (hts (.constant RL 54 (-99999)) (by decide +kernel)) dL_does_197 ?_
  exact MG.ret hx hb hr hlocks hK hP hD hS (by omega) (Nat.le_of_ble_eq_true rfl) (Nat.le_of_ble_eq_true rfl) dL_does_199 (by exact ⟨rfl, rfl⟩)
set_option maxHeartbeats 4000000 in
set_option maxRecDepth 100000 in
theorem g_can (l : Launch) (D : va_G) (cI cZ : ClassId) (a : Nat → Nat) (sz : Nat) (hfl : l.stackTraces = false) (b f t : Int32) : MG l yL_can wsL_can ({ frames := 9, cells := 1, slots := 6, locals := 156 }) D (ty2 cI cZ) (wX cI cZ a) [.ref (a 0), .int 0, .int b, .int f, .int t] z0 sz (fun r u => u = z0 ∧ r = -99999) 1 1 6 := by
  refine MG.ofH (cc := cL_can) (maxL := 6) (hh := [(0, 17, 18, 52), (0, 17, 23, 55)]) (by decide) rfl (Nat.le_of_ble_eq_true rfl) ?_
  intro p e s m args below meth c A H locs ls hx hb hr hml hown hts hlocks hexc hEV hZ hA hS hP hK hD hl
  have hl : lv_has ls 6 [(0, .ref (a 0)), (1, .int 0), (2, .int b), (3, .int f), (4, .int t)] := hl
  have hG : s.heap.size + 0 ≤ H.size := hS.1
  refine lv_aload_n hx hb dL_can_0 rfl (lv_at hl 0 rfl) ?_
  refine lv_iload_n hx hb dL_can_1 rfl (lv_at hl 1 rfl) ?_
  refine lv_iload_n hx hb dL_can_2 rfl (lv_at hl 2 rfl) ?_
  refine lv_iload_n hx hb dL_can_3 rfl (lv_at hl 3 rfl) ?_
  refine lv_iload hx hb dL_can_4 (lv_at hl 4 rfl) ?_
  refine XI.thrV (As := [.int 0, .int b, .int f, .int t]) (rest := []) ⟨hx, hb, hml, hown, hts⟩ (c_X5_canBook l D cI cZ a H.size z0 hfl 0 b f t 0 rfl (Nat.zero_le 4) 0 rfl (Nat.zero_le 30)) (fun r u q => absurd q.1 (by rw [cdC0]; decide)) (cwV 4 hts gL_can_X5_canBook rfl rfl rfl (by decide +kernel) ⟨Nat.le_of_ble_eq_true rfl, Nat.le_of_ble_eq_true rfl⟩) hP hK hD hS hA hEV hZ (va_recv hK hP (ci := 5) (q0 := 0) rfl rfl) rfl hl.1 (Nat.le_of_ble_eq_true rfl) (Nat.le_of_ble_eq_true rfl) (Nat.le_of_ble_eq_true rfl) dL_can_6 rfl ?_
  intro E ce q9 H_1 locs hE hP hD hS hg hce hcv hcl
  obtain rfl : E = eIO := hE.elim (fun q => q.1) (fun q => absurd q.2 (by rw [cdC0]; decide))
  have hG : s.heap.size + 1 ≤ H_1.size := by omega
  refine vx_catch (name := eIO) (E := eIO) hown [] ⟨0, 17, 18, 52⟩ [⟨0, 17, 23, 55⟩] hexc ?_ (by decide) (by decide) (hts (.classLink RL 52 eIO) (by decide +kernel)) (va_Nw.use rfl (hEV.1 (.castable eIO eIO) (by decide +kernel))) hce hcv hcl ?_
  · exact fun z hz => absurd hz List.not_mem_nil
  refine lv_astore (lv' := [(5, .ref q9), (0, .ref (a 0)), (1, .int 0), (2, .int b), (3, .int f), (4, .int t)]) hx hb dL_can_18 hl (by decide) rfl (fun ls hl => ?_)
  refine lv_ldc (v := (-99999)) hx hb hown (hts (.constant RL 54 (-99999)) (by decide +kernel)) dL_can_20 ?_
  exact MG.ret hx hb hr hlocks hK hP hD hS (by omega) (Nat.le_of_ble_eq_true rfl) (Nat.le_of_ble_eq_true rfl) dL_can_22 (by exact ⟨rfl, rfl⟩)
set_option maxHeartbeats 4000000 in
set_option maxRecDepth 100000 in
theorem g_trains (l : Launch) (D : va_G) (cI cZ : ClassId) (a : Nat → Nat) (sz : Nat) (hfl : l.stackTraces = false)  : MG l yL_trains wsL_trains ({ frames := 10, cells := 1, slots := 6, locals := 176 }) D (ty2 cI cZ) (wX cI cZ a) [.ref (a 0)] z0 sz (fun r u => u = z0 ∧ r = 0) 1 1 6 := by
  refine MG.of (cc := cL_trains) (maxL := 2) (by decide) rfl (Nat.le_of_ble_eq_true rfl) ?_
  intro p e s m args below meth c A H locs ls hx hb hr hml hown hts hlocks hEV hZ hA hS hP hK hD hl
  have hl : lv_has ls 2 [(0, .ref (a 0))] := hl
  have hG : s.heap.size + 0 ≤ H.size := hS.1
  refine lv_iconst (v := 0) hx hb dL_trains_0 (by decide) ?_
  refine lv_istore_n (lv' := [(1, .int 0), (0, .ref (a 0))]) hx hb dL_trains_1 rfl hl (by decide) rfl (fun ls hl => ?_)
  refine lv_aload_n hx hb dL_trains_2 rfl (lv_at hl 1 rfl) ?_
  refine lv_iconst (v := 0) hx hb dL_trains_3 (by decide) ?_
  refine lv_iload_n hx hb dL_trains_4 rfl (lv_at hl 0 rfl) ?_
  refine lv_iconst (v := 0) hx hb dL_trains_5 (by decide) ?_
  refine MG.callSW (As := [.ref (a 0), .int 0, .int 0, .int 0]) (rest := []) ⟨hx, hb, hml, hown, hts⟩ (g_looks0 l D cI cZ a H.size hfl 0 0) (vx_cwSW 4 hts gL_trains_L_looks rfl rfl rfl (by decide +kernel) ⟨Nat.le_of_ble_eq_true rfl, Nat.le_of_ble_eq_true rfl⟩) hP hK hD hS hA hEV hZ rfl hl.1 (Nat.le_of_ble_eq_true rfl) (Nat.le_of_ble_eq_true rfl) (Nat.le_of_ble_eq_true rfl) dL_trains_6 rfl (fun r_1 u_1 H_1 locs h_1 hP hD hS hg => ?_)
  have h_1 : u_1 = z0 ∧ r_1 = (-99999) := h_1
  obtain ⟨e_1, f_1⟩ := h_1
  subst e_1
  subst f_1
  have hG : s.heap.size + 1 ≤ H_1.size := by omega
  refine lv_if_lt (tgt := 18) hx hb dL_trains_9 (by decide) (fun _ => ?_) (fun c9 => absurd (by decide) c9)
  refine lv_iload_n hx hb dL_trains_18 rfl (lv_at hl 0 rfl) ?_
  exact MG.ret hx hb hr hlocks hK hP hD hS (by omega) (Nat.le_of_ble_eq_true rfl) (Nat.le_of_ble_eq_true rfl) dL_trains_19 (by exact ⟨rfl, rfl⟩)
set_option maxHeartbeats 4000000 in
set_option maxRecDepth 100000 in
theorem g_act (l : Launch) (D : va_G) (cI cZ : ClassId) (a : Nat → Nat) (sz : Nat) (hfl : l.stackTraces = false)  : MG l yL_act wsL_act ({ frames := 10, cells := 1, slots := 6, locals := 178 }) D (ty2 cI cZ) (wX cI cZ a) [.ref (a 0), .int 0] z0 sz (fun r u => u = z0 ∧ r = -99999) 1 1 6 := by
  refine MG.of (cc := cL_act) (maxL := 6) (by decide) rfl (Nat.le_of_ble_eq_true rfl) ?_
  intro p e s m args below meth c A H locs ls hx hb hr hml hown hts hlocks hEV hZ hA hS hP hK hD hl
  have hl : lv_has ls 6 [(0, .ref (a 0)), (1, .int 0)] := hl
  have hG : s.heap.size + 0 ≤ H.size := hS.1
  refine lv_iload_n hx hb dL_act_0 rfl (lv_at hl 1 rfl) ?_
  refine lv_bipush (v := 24) hx hb dL_act_1 (by decide) ?_
  refine lv_ishr hx hb dL_act_3 ?_
  refine lv_topi (fun v_1 e_1 => ?_)
  obtain rfl : v_1 = 0 := e_1.trans (by decide +kernel)
  refine lv_bipush (v := 8) hx hb dL_act_4 (by decide) ?_
  refine MG.callS (As := [.int 0, .int 8]) (rest := []) ⟨hx, hb, hml, hown, hts⟩ (g_low l D (ty2 cI cZ) (wX cI cZ a) z0 H.size 0 8 (by decide)) (va_cwS 2 hts gL_act_L_low rfl rfl rfl (by decide +kernel) ⟨Nat.le_of_ble_eq_true rfl, Nat.le_of_ble_eq_true rfl⟩) hP hK hD hS hA hEV hZ rfl hl.1 (Nat.le_of_ble_eq_true rfl) (Nat.le_of_ble_eq_true rfl) (Nat.le_of_ble_eq_true rfl) dL_act_6 rfl (fun r_2 u_2 H_2 locs h_2 hP hD hS hg => ?_)
  have h_2 : u_2 = z0 ∧ r_2 = 0 := ⟨h_2.1, h_2.2.trans (by decide +kernel)⟩
  obtain ⟨e_2, f_2⟩ := h_2
  subst e_2
  subst f_2
  have hG : s.heap.size + 0 ≤ H_2.size := by omega
  refine lv_if_ne (tgt := 16) hx hb dL_act_9 (by decide) (fun c9 => absurd (by decide) c9) (fun _ => ?_)
  refine lv_iconst (v := 1) hx hb dL_act_12 (by decide) ?_
  refine lv_goto (tgt := 17) hx hb dL_act_13 (by decide) ?_
  refine lv_istore_n (lv' := [(2, .int 1), (0, .ref (a 0)), (1, .int 0)]) hx hb dL_act_17 rfl hl (by decide) rfl (fun ls hl => ?_)
  refine lv_iload_n hx hb dL_act_18 rfl (lv_at hl 2 rfl) ?_
  refine lv_bipush (v := 32) hx hb dL_act_19 (by decide) ?_
  refine MG.callS (As := [.int 0, .int 32]) (rest := []) ⟨hx, hb, hml, hown, hts⟩ (g_low l D (ty2 cI cZ) (wX cI cZ a) z0 H_2.size 0 32 (by decide)) (va_cwS 2 hts gL_act_L_low rfl rfl rfl (by decide +kernel) ⟨Nat.le_of_ble_eq_true rfl, Nat.le_of_ble_eq_true rfl⟩) hP hK hD hS hA hEV hZ rfl hl.1 (Nat.le_of_ble_eq_true rfl) (Nat.le_of_ble_eq_true rfl) (Nat.le_of_ble_eq_true rfl) dL_act_21 rfl (fun r_3 u_3 H_3 locs h_3 hP hD hS hg => ?_)
  have h_3 : u_3 = z0 ∧ r_3 = 0 := ⟨h_3.1, h_3.2.trans (by decide +kernel)⟩
  obtain ⟨e_3, f_3⟩ := h_3
  subst e_3
  subst f_3
  have hG : s.heap.size + 0 ≤ H_3.size := by omega
  refine lv_istore_n (lv' := [(3, .int 0), (2, .int 1), (0, .ref (a 0)), (1, .int 0)]) hx hb dL_act_24 rfl hl (by decide) rfl (fun ls hl => ?_)
  refine lv_iload_n hx hb dL_act_25 rfl (lv_at hl 1 rfl) ?_
  refine lv_if_eq (tgt := 43) hx hb dL_act_26 (by decide) (fun c9 => absurd c9 (by decide)) (fun _ => ?_)
  refine lv_iload_n hx hb dL_act_29 rfl (lv_at hl 3 rfl) ?_
  refine lv_bipush (v := 6) hx hb dL_act_30 (by decide) ?_
  refine lv_ishr hx hb dL_act_32 ?_
  refine lv_topi (fun v_4 e_4 => ?_)
  obtain rfl : v_4 = 0 := e_4.trans (by decide +kernel)
  refine lv_bipush (v := 7) hx hb dL_act_33 (by decide) ?_
  refine MG.callS (As := [.int 0, .int 7]) (rest := []) ⟨hx, hb, hml, hown, hts⟩ (g_low l D (ty2 cI cZ) (wX cI cZ a) z0 H_3.size 0 7 (by decide)) (va_cwS 2 hts gL_act_L_low rfl rfl rfl (by decide +kernel) ⟨Nat.le_of_ble_eq_true rfl, Nat.le_of_ble_eq_true rfl⟩) hP hK hD hS hA hEV hZ rfl hl.1 (Nat.le_of_ble_eq_true rfl) (Nat.le_of_ble_eq_true rfl) (Nat.le_of_ble_eq_true rfl) dL_act_35 rfl (fun r_5 u_5 H_5 locs h_5 hP hD hS hg => ?_)
  have h_5 : u_5 = z0 ∧ r_5 = 0 := ⟨h_5.1, h_5.2.trans (by decide +kernel)⟩
  obtain ⟨e_5, f_5⟩ := h_5
  subst e_5
  subst f_5
  have hG : s.heap.size + 0 ≤ H_5.size := by omega
  refine lv_iconst (v := 1) hx hb dL_act_38 (by decide) ?_
  refine lv_isub hx hb dL_act_39 ?_
  refine lv_topi (fun v_6 e_6 => ?_)
  obtain rfl : v_6 = (-1) := e_6.trans (by decide +kernel)
  refine lv_goto (tgt := 51) hx hb dL_act_40 (by decide) ?_
  refine lv_istore (lv' := [(4, .int (-1)), (3, .int 0), (2, .int 1), (0, .ref (a 0)), (1, .int 0)]) hx hb dL_act_51 hl (by decide) rfl (fun ls hl => ?_)
  refine lv_iload_n hx hb dL_act_53 rfl (lv_at hl 1 rfl) ?_
  refine lv_iconst (v := 2) hx hb dL_act_54 (by decide) ?_
  refine lv_icmp_ge (tgt := 97) hx hb dL_act_55 (by decide) (fun c9 => absurd c9 (by decide)) (fun _ => ?_)
  refine lv_aload_n hx hb dL_act_58 rfl (lv_at hl 3 rfl) ?_
  refine lv_iconst (v := 0) hx hb dL_act_59 (by decide) ?_
  refine lv_iload_n hx hb dL_act_60 rfl (lv_at hl 2 rfl) ?_
  refine lv_if_eq (tgt := 78) hx hb dL_act_61 (by decide) (fun c9 => absurd c9 (by decide)) (fun _ => ?_)
  refine lv_iload_n hx hb dL_act_64 rfl (lv_at hl 4 rfl) ?_
  refine lv_bipush (v := 6) hx hb dL_act_65 (by decide) ?_
  refine lv_ishr hx hb dL_act_67 ?_
  refine lv_topi (fun v_7 e_7 => ?_)
  obtain rfl : v_7 = 0 := e_7.trans (by decide +kernel)
  refine lv_bipush (v := 11) hx hb dL_act_68 (by decide) ?_
  refine MG.callS (As := [.int 0, .int 11]) (rest := [.int 0, .ref (a 0)]) ⟨hx, hb, hml, hown, hts⟩ (g_low l D (ty2 cI cZ) (wX cI cZ a) z0 H_5.size 0 11 (by decide)) (va_cwS 2 hts gL_act_L_low rfl rfl rfl (by decide +kernel) ⟨Nat.le_of_ble_eq_true rfl, Nat.le_of_ble_eq_true rfl⟩) hP hK hD hS hA hEV hZ rfl hl.1 (Nat.le_of_ble_eq_true rfl) (Nat.le_of_ble_eq_true rfl) (Nat.le_of_ble_eq_true rfl) dL_act_70 rfl (fun r_8 u_8 H_8 locs h_8 hP hD hS hg => ?_)
  have h_8 : u_8 = z0 ∧ r_8 = 0 := ⟨h_8.1, h_8.2.trans (by decide +kernel)⟩
  obtain ⟨e_8, f_8⟩ := h_8
  subst e_8
  subst f_8
  have hG : s.heap.size + 0 ≤ H_8.size := by omega
  refine lv_iconst (v := 1) hx hb dL_act_73 (by decide) ?_
  refine lv_isub hx hb dL_act_74 ?_
  refine lv_topi (fun v_9 e_9 => ?_)
  obtain rfl : v_9 = (-1) := e_9.trans (by decide +kernel)
  refine lv_goto (tgt := 85) hx hb dL_act_75 (by decide) ?_
  refine lv_iload_n hx hb dL_act_85 rfl (lv_at hl 4 rfl) ?_
  refine lv_bipush (v := 10) hx hb dL_act_86 (by decide) ?_
  refine lv_ishr hx hb dL_act_88 ?_
  refine lv_topi (fun v_10 e_10 => ?_)
  obtain rfl : v_10 = 0 := e_10.trans (by decide +kernel)
  refine lv_iconst (v := 1) hx hb dL_act_89 (by decide) ?_
  refine lv_iand hx hb dL_act_90 ?_
  refine lv_topi (fun v_11 e_11 => ?_)
  obtain rfl : v_11 = 0 := e_11.trans (by decide +kernel)
  refine lv_iconst (v := 0) hx hb dL_act_91 (by decide) ?_
  refine lv_iconst (v := 0) hx hb dL_act_92 (by decide) ?_
  refine MG.callSW (As := [.ref (a 0), .int 0, .int (-1), .int 0, .int 0, .int 0]) (rest := []) ⟨hx, hb, hml, hown, hts⟩ (g_does l D cI cZ a H_8.size hfl) (vx_cwSW 6 hts gL_act_L_does rfl rfl rfl (by decide +kernel) ⟨Nat.le_of_ble_eq_true rfl, Nat.le_of_ble_eq_true rfl⟩) hP hK hD hS hA hEV hZ rfl hl.1 (Nat.le_of_ble_eq_true rfl) (Nat.le_of_ble_eq_true rfl) (Nat.le_of_ble_eq_true rfl) dL_act_93 rfl (fun r_12 u_12 H_12 locs h_12 hP hD hS hg => ?_)
  have h_12 : u_12 = z0 ∧ r_12 = (-99999) := h_12
  obtain ⟨e_12, f_12⟩ := h_12
  subst e_12
  subst f_12
  have hG : s.heap.size + 1 ≤ H_12.size := by omega
  exact MG.ret hx hb hr hlocks hK hP hD hS (by omega) (Nat.le_of_ble_eq_true rfl) (Nat.le_of_ble_eq_true rfl) dL_act_96 (by exact ⟨rfl, rfl⟩)
set_option maxHeartbeats 4000000 in
set_option maxRecDepth 100000 in
theorem g_places (l : Launch) (D : va_G) (cI cZ : ClassId) (a : Nat → Nat) (sz : Nat) (hfl : l.stackTraces = false)  : MG l yL_arePlacesSo wsL_arePlacesSo ({ frames := 11, cells := 15, slots := 90, locals := 197 }) D (ty2 cI cZ) (wX cI cZ a) [.ref (a 0)] z0 sz (fun r u => u = z0 ∧ r = 1) 1 15 90 := by
  refine MG.of (cc := cL_arePlacesSo) (maxL := 10) (by decide) rfl (Nat.le_of_ble_eq_true rfl) ?_
  intro p e s m args below meth c A H locs ls hx hb hr hml hown hts hlocks hEV hZ hA hS hP hK hD hl
  have hl : lv_has ls 10 [(0, .ref (a 0))] := hl
  have hG : s.heap.size + 0 ≤ H.size := hS.1
  refine lv_aload_n hx hb dL_arePlacesSo_0 rfl (lv_at hl 0 rfl) ?_
  refine MG.callS (As := [.ref (a 0)]) (rest := []) ⟨hx, hb, hml, hown, hts⟩ (g_trains l D cI cZ a H.size hfl) (va_cwS 1 hts gL_arePlacesSo_L_trains rfl rfl rfl (by decide +kernel) ⟨Nat.le_of_ble_eq_true rfl, Nat.le_of_ble_eq_true rfl⟩) hP hK hD hS hA hEV hZ rfl hl.1 (Nat.le_of_ble_eq_true rfl) (Nat.le_of_ble_eq_true rfl) (Nat.le_of_ble_eq_true rfl) dL_arePlacesSo_1 rfl (fun r_1 u_1 H_1 locs h_1 hP hD hS hg => ?_)
  have h_1 : u_1 = z0 ∧ r_1 = 0 := h_1
  obtain ⟨e_1, f_1⟩ := h_1
  subst e_1
  subst f_1
  have hG : s.heap.size + 1 ≤ H_1.size := by omega
  refine lv_istore_n (lv' := [(1, .int 0), (0, .ref (a 0))]) hx hb dL_arePlacesSo_4 rfl hl (by decide) rfl (fun ls hl => ?_)
  refine lv_iconst (v := 0) hx hb dL_arePlacesSo_5 (by decide) ?_
  refine lv_istore_n (lv' := [(2, .int 0), (1, .int 0), (0, .ref (a 0))]) hx hb dL_arePlacesSo_6 rfl hl (by decide) rfl (fun ls hl => ?_)
  refine lv_iconst (v := 0) hx hb dL_arePlacesSo_7 (by decide) ?_
  refine lv_istore_n (lv' := [(3, .int 0), (2, .int 0), (1, .int 0), (0, .ref (a 0))]) hx hb dL_arePlacesSo_8 rfl hl (by decide) rfl (fun ls hl => ?_)
  refine lv_iload_n hx hb dL_arePlacesSo_9 rfl (lv_at hl 2 rfl) ?_
  refine lv_iconst (v := 4) hx hb dL_arePlacesSo_10 (by decide) ?_
  refine lv_icmp_gt (tgt := 42) hx hb dL_arePlacesSo_11 (by decide) (fun c9 => absurd c9 (by decide)) (fun _ => ?_)
  refine lv_aload_n hx hb dL_arePlacesSo_14 rfl (lv_at hl 3 rfl) ?_
  refine MG.callV (As := []) (rest := []) ⟨hx, hb, hml, hown, hts⟩ (MI.toMG (c_X5_clock l D cI cZ a H_1.size z0)) (cwV 0 hts gL_arePlacesSo_X5_clock rfl rfl rfl (by decide +kernel) ⟨Nat.le_of_ble_eq_true rfl, Nat.le_of_ble_eq_true rfl⟩) hP hK hD hS hA hEV hZ (va_recv hK hP (ci := 5) (q0 := 0) rfl rfl) rfl hl.1 (Nat.le_of_ble_eq_true rfl) (Nat.le_of_ble_eq_true rfl) (Nat.le_of_ble_eq_true rfl) dL_arePlacesSo_15 rfl (fun r_2 u_2 H_2 locs h_2 hP hD hS hg => ?_)
  have h_2 : u_2 = z0 ∧ r_2 = 0 := h_2
  obtain ⟨e_2, f_2⟩ := h_2
  subst e_2
  subst f_2
  have hG : s.heap.size + 1 ≤ H_2.size := by omega
  refine lv_if_lt (tgt := 42) hx hb dL_arePlacesSo_18 (by decide) (fun c9 => absurd c9 (by decide)) (fun _ => ?_)
  refine lv_aload_n hx hb dL_arePlacesSo_21 rfl (lv_at hl 3 rfl) ?_
  refine MG.callV (As := []) (rest := []) ⟨hx, hb, hml, hown, hts⟩ (MI.toMG (c_X5_clock l D cI cZ a H_2.size z0)) (cwV 0 hts gL_arePlacesSo_X5_clock rfl rfl rfl (by decide +kernel) ⟨Nat.le_of_ble_eq_true rfl, Nat.le_of_ble_eq_true rfl⟩) hP hK hD hS hA hEV hZ (va_recv hK hP (ci := 5) (q0 := 0) rfl rfl) rfl hl.1 (Nat.le_of_ble_eq_true rfl) (Nat.le_of_ble_eq_true rfl) (Nat.le_of_ble_eq_true rfl) dL_arePlacesSo_22 rfl (fun r_3 u_3 H_3 locs h_3 hP hD hS hg => ?_)
  have h_3 : u_3 = z0 ∧ r_3 = 0 := h_3
  obtain ⟨e_3, f_3⟩ := h_3
  subst e_3
  subst f_3
  have hG : s.heap.size + 1 ≤ H_3.size := by omega
  refine lv_sipush (v := 5000) hx hb dL_arePlacesSo_25 (by decide) ?_
  refine lv_icmp_gt (tgt := 42) hx hb dL_arePlacesSo_28 (by decide) (fun c9 => absurd c9 (by decide)) (fun _ => ?_)
  refine lv_aload_n hx hb dL_arePlacesSo_31 rfl (lv_at hl 3 rfl) ?_
  refine MG.callV (As := []) (rest := []) ⟨hx, hb, hml, hown, hts⟩ (MI.toMG (c_X5_earned l D cI cZ a H_3.size z0)) (cwV 0 hts gL_arePlacesSo_X5_earned rfl rfl rfl (by decide +kernel) ⟨Nat.le_of_ble_eq_true rfl, Nat.le_of_ble_eq_true rfl⟩) hP hK hD hS hA hEV hZ (va_recv hK hP (ci := 5) (q0 := 0) rfl rfl) rfl hl.1 (Nat.le_of_ble_eq_true rfl) (Nat.le_of_ble_eq_true rfl) (Nat.le_of_ble_eq_true rfl) dL_arePlacesSo_32 rfl (fun r_4 u_4 H_4 locs h_4 hP hD hS hg => ?_)
  have h_4 : u_4 = z0 ∧ r_4 = 0 := h_4
  obtain ⟨e_4, f_4⟩ := h_4
  subst e_4
  subst f_4
  have hG : s.heap.size + 1 ≤ H_4.size := by omega
  refine lv_if_lt (tgt := 42) hx hb dL_arePlacesSo_35 (by decide) (fun c9 => absurd c9 (by decide)) (fun _ => ?_)
  refine lv_iconst (v := 1) hx hb dL_arePlacesSo_38 (by decide) ?_
  refine lv_goto (tgt := 43) hx hb dL_arePlacesSo_39 (by decide) ?_
  refine lv_istore (lv' := [(4, .int 1), (3, .int 0), (2, .int 0), (1, .int 0), (0, .ref (a 0))]) hx hb dL_arePlacesSo_43 hl (by decide) rfl (fun ls hl => ?_)
  refine lv_iconst (v := 0) hx hb dL_arePlacesSo_45 (by decide) ?_
  refine lv_istore (lv' := [(5, .int 0), (4, .int 1), (3, .int 0), (2, .int 0), (1, .int 0), (0, .ref (a 0))]) hx hb dL_arePlacesSo_46 hl (by decide) rfl (fun ls hl => ?_)
  refine lv_iload hx hb dL_arePlacesSo_48 (lv_at hl 0 rfl) ?_
  refine lv_bipush (v := 8) hx hb dL_arePlacesSo_50 (by decide) ?_
  refine lv_icmp_ge (tgt := 133) hx hb dL_arePlacesSo_52 (by decide) (fun c9 => absurd c9 (by decide)) (fun _ => ?_)
  refine lv_iload hx hb dL_arePlacesSo_55 (lv_at hl 1 rfl) ?_
  refine lv_if_eq (tgt := 133) hx hb dL_arePlacesSo_57 (by decide) (fun c9 => absurd c9 (by decide)) (fun _ => ?_)
  refine lv_aload_n hx hb dL_arePlacesSo_60 rfl (lv_at hl 5 rfl) ?_
  refine lv_iload hx hb dL_arePlacesSo_61 (lv_at hl 0 rfl) ?_
  refine XI.okV (As := [.int 0]) (rest := []) ⟨hx, hb, hml, hown, hts⟩ (c_X5_trainOn l D cI cZ a H_4.size z0 hfl 0 0 rfl (Nat.zero_le 4)) (fun E q9 => absurd (q9.2.symm.trans (cif_t (show inR 0 0 7 from ⟨by decide, by decide⟩))) (by decide)) (cwV 1 hts gL_arePlacesSo_X5_trainOn rfl rfl rfl (by decide +kernel) ⟨Nat.le_of_ble_eq_true rfl, Nat.le_of_ble_eq_true rfl⟩) hP hK hD hS hA hEV hZ (va_recv hK hP (ci := 5) (q0 := 0) rfl rfl) rfl hl.1 (Nat.le_of_ble_eq_true rfl) (Nat.le_of_ble_eq_true rfl) (Nat.le_of_ble_eq_true rfl) dL_arePlacesSo_63 rfl (fun r_5 u_5 H_5 locs h_5 hP hD hS hg => ?_)
  have h_5 : u_5 = z0 ∧ r_5 = (-1) := ⟨h_5.2.1, h_5.2.2⟩
  obtain ⟨e_5, f_5⟩ := h_5
  subst e_5
  subst f_5
  have hG : s.heap.size + 1 ≤ H_5.size := by omega
  refine lv_istore (lv' := [(6, .int (-1)), (5, .int 0), (4, .int 1), (3, .int 0), (2, .int 0), (1, .int 0), (0, .ref (a 0))]) hx hb dL_arePlacesSo_66 hl (by decide) rfl (fun ls hl => ?_)
  refine lv_iload hx hb dL_arePlacesSo_68 (lv_at hl 0 rfl) ?_
  refine lv_iconst (v := (-1)) hx hb dL_arePlacesSo_70 (by decide) ?_
  refine lv_icmp_lt (tgt := 111) hx hb dL_arePlacesSo_71 (by decide) (fun c9 => absurd c9 (by decide)) (fun _ => ?_)
  refine lv_iload hx hb dL_arePlacesSo_74 (lv_at hl 0 rfl) ?_
  refine lv_iload_n hx hb dL_arePlacesSo_76 rfl (lv_at hl 5 rfl) ?_
  refine lv_icmp_ge (tgt := 111) hx hb dL_arePlacesSo_77 (by decide) (fun c9 => absurd c9 (by decide)) (fun _ => ?_)
  refine lv_iload hx hb dL_arePlacesSo_80 (lv_at hl 0 rfl) ?_
  refine lv_if_lt (tgt := 107) hx hb dL_arePlacesSo_82 (by decide) (fun _ => ?_) (fun c9 => absurd (by decide) c9)
  refine lv_iconst (v := 1) hx hb dL_arePlacesSo_107 (by decide) ?_
  refine lv_goto (tgt := 112) hx hb dL_arePlacesSo_108 (by decide) ?_
  refine lv_istore (lv' := [(4, .int 1), (6, .int (-1)), (5, .int 0), (3, .int 0), (2, .int 0), (1, .int 0), (0, .ref (a 0))]) hx hb dL_arePlacesSo_112 hl (by decide) rfl (fun ls hl => ?_)
  refine lv_iload_n hx hb dL_arePlacesSo_114 rfl (lv_at hl 3 rfl) ?_
  refine lv_iload hx hb dL_arePlacesSo_115 (lv_at hl 1 rfl) ?_
  refine lv_if_ge (tgt := 124) hx hb dL_arePlacesSo_117 (by decide) (fun c9 => absurd c9 (by decide)) (fun _ => ?_)
  refine lv_iconst (v := 0) hx hb dL_arePlacesSo_120 (by decide) ?_
  refine lv_goto (tgt := 125) hx hb dL_arePlacesSo_121 (by decide) ?_
  refine lv_iadd hx hb dL_arePlacesSo_125 ?_
  refine lv_topi (fun v_6 e_6 => ?_)
  obtain rfl : v_6 = 0 := e_6.trans (by decide +kernel)
  refine lv_istore_n (lv' := [(3, .int 0), (4, .int 1), (6, .int (-1)), (5, .int 0), (2, .int 0), (1, .int 0), (0, .ref (a 0))]) hx hb dL_arePlacesSo_126 rfl hl (by decide) rfl (fun ls hl => ?_)
  refine lv_iinc (v := 1) (lv' := [(5, .int 1), (3, .int 0), (4, .int 1), (6, .int (-1)), (2, .int 0), (1, .int 0), (0, .ref (a 0))]) hx hb dL_arePlacesSo_127 hl (k := 3) rfl (by decide +kernel) (by decide) rfl (fun ls hl => ?_)
  refine lv_goto (tgt := 48) hx hb dL_arePlacesSo_130 (by decide) ?_
  refine lv_iload hx hb dL_arePlacesSo_48 (lv_at hl 0 rfl) ?_
  refine lv_bipush (v := 8) hx hb dL_arePlacesSo_50 (by decide) ?_
  refine lv_icmp_ge (tgt := 133) hx hb dL_arePlacesSo_52 (by decide) (fun c9 => absurd c9 (by decide)) (fun _ => ?_)
  refine lv_iload hx hb dL_arePlacesSo_55 (lv_at hl 2 rfl) ?_
  refine lv_if_eq (tgt := 133) hx hb dL_arePlacesSo_57 (by decide) (fun c9 => absurd c9 (by decide)) (fun _ => ?_)
  refine lv_aload_n hx hb dL_arePlacesSo_60 rfl (lv_at hl 6 rfl) ?_
  refine lv_iload hx hb dL_arePlacesSo_61 (lv_at hl 0 rfl) ?_
  refine XI.okV (As := [.int 1]) (rest := []) ⟨hx, hb, hml, hown, hts⟩ (c_X5_trainOn l D cI cZ a H_5.size z0 hfl 1 0 rfl (Nat.zero_le 4)) (fun E q9 => absurd (q9.2.symm.trans (cif_t (show inR 1 0 7 from ⟨by decide, by decide⟩))) (by decide)) (cwV 1 hts gL_arePlacesSo_X5_trainOn rfl rfl rfl (by decide +kernel) ⟨Nat.le_of_ble_eq_true rfl, Nat.le_of_ble_eq_true rfl⟩) hP hK hD hS hA hEV hZ (va_recv hK hP (ci := 5) (q0 := 0) rfl rfl) rfl hl.1 (Nat.le_of_ble_eq_true rfl) (Nat.le_of_ble_eq_true rfl) (Nat.le_of_ble_eq_true rfl) dL_arePlacesSo_63 rfl (fun r_7 u_7 H_7 locs h_7 hP hD hS hg => ?_)
  have h_7 : u_7 = z0 ∧ r_7 = (-1) := ⟨h_7.2.1, h_7.2.2⟩
  obtain ⟨e_7, f_7⟩ := h_7
  subst e_7
  subst f_7
  have hG : s.heap.size + 1 ≤ H_7.size := by omega
  refine lv_istore (lv' := [(6, .int (-1)), (5, .int 1), (3, .int 0), (4, .int 1), (2, .int 0), (1, .int 0), (0, .ref (a 0))]) hx hb dL_arePlacesSo_66 hl (by decide) rfl (fun ls hl => ?_)
  refine lv_iload hx hb dL_arePlacesSo_68 (lv_at hl 0 rfl) ?_
  refine lv_iconst (v := (-1)) hx hb dL_arePlacesSo_70 (by decide) ?_
  refine lv_icmp_lt (tgt := 111) hx hb dL_arePlacesSo_71 (by decide) (fun c9 => absurd c9 (by decide)) (fun _ => ?_)
  refine lv_iload hx hb dL_arePlacesSo_74 (lv_at hl 0 rfl) ?_
  refine lv_iload_n hx hb dL_arePlacesSo_76 rfl (lv_at hl 5 rfl) ?_
  refine lv_icmp_ge (tgt := 111) hx hb dL_arePlacesSo_77 (by decide) (fun c9 => absurd c9 (by decide)) (fun _ => ?_)
  refine lv_iload hx hb dL_arePlacesSo_80 (lv_at hl 0 rfl) ?_
  refine lv_if_lt (tgt := 107) hx hb dL_arePlacesSo_82 (by decide) (fun _ => ?_) (fun c9 => absurd (by decide) c9)
  refine lv_iconst (v := 1) hx hb dL_arePlacesSo_107 (by decide) ?_
  refine lv_goto (tgt := 112) hx hb dL_arePlacesSo_108 (by decide) ?_
  refine lv_istore (lv' := [(4, .int 1), (6, .int (-1)), (5, .int 1), (3, .int 0), (2, .int 0), (1, .int 0), (0, .ref (a 0))]) hx hb dL_arePlacesSo_112 hl (by decide) rfl (fun ls hl => ?_)
  refine lv_iload_n hx hb dL_arePlacesSo_114 rfl (lv_at hl 3 rfl) ?_
  refine lv_iload hx hb dL_arePlacesSo_115 (lv_at hl 1 rfl) ?_
  refine lv_if_ge (tgt := 124) hx hb dL_arePlacesSo_117 (by decide) (fun c9 => absurd c9 (by decide)) (fun _ => ?_)
  refine lv_iconst (v := 0) hx hb dL_arePlacesSo_120 (by decide) ?_
  refine lv_goto (tgt := 125) hx hb dL_arePlacesSo_121 (by decide) ?_
  refine lv_iadd hx hb dL_arePlacesSo_125 ?_
  refine lv_topi (fun v_8 e_8 => ?_)
  obtain rfl : v_8 = 0 := e_8.trans (by decide +kernel)
  refine lv_istore_n (lv' := [(3, .int 0), (4, .int 1), (6, .int (-1)), (5, .int 1), (2, .int 0), (1, .int 0), (0, .ref (a 0))]) hx hb dL_arePlacesSo_126 rfl hl (by decide) rfl (fun ls hl => ?_)
  refine lv_iinc (v := 2) (lv' := [(5, .int 2), (3, .int 0), (4, .int 1), (6, .int (-1)), (2, .int 0), (1, .int 0), (0, .ref (a 0))]) hx hb dL_arePlacesSo_127 hl (k := 3) rfl (by decide +kernel) (by decide) rfl (fun ls hl => ?_)
  refine lv_goto (tgt := 48) hx hb dL_arePlacesSo_130 (by decide) ?_
  refine lv_iload hx hb dL_arePlacesSo_48 (lv_at hl 0 rfl) ?_
  refine lv_bipush (v := 8) hx hb dL_arePlacesSo_50 (by decide) ?_
  refine lv_icmp_ge (tgt := 133) hx hb dL_arePlacesSo_52 (by decide) (fun c9 => absurd c9 (by decide)) (fun _ => ?_)
  refine lv_iload hx hb dL_arePlacesSo_55 (lv_at hl 2 rfl) ?_
  refine lv_if_eq (tgt := 133) hx hb dL_arePlacesSo_57 (by decide) (fun c9 => absurd c9 (by decide)) (fun _ => ?_)
  refine lv_aload_n hx hb dL_arePlacesSo_60 rfl (lv_at hl 6 rfl) ?_
  refine lv_iload hx hb dL_arePlacesSo_61 (lv_at hl 0 rfl) ?_
  refine XI.okV (As := [.int 2]) (rest := []) ⟨hx, hb, hml, hown, hts⟩ (c_X5_trainOn l D cI cZ a H_7.size z0 hfl 2 0 rfl (Nat.zero_le 4)) (fun E q9 => absurd (q9.2.symm.trans (cif_t (show inR 2 0 7 from ⟨by decide, by decide⟩))) (by decide)) (cwV 1 hts gL_arePlacesSo_X5_trainOn rfl rfl rfl (by decide +kernel) ⟨Nat.le_of_ble_eq_true rfl, Nat.le_of_ble_eq_true rfl⟩) hP hK hD hS hA hEV hZ (va_recv hK hP (ci := 5) (q0 := 0) rfl rfl) rfl hl.1 (Nat.le_of_ble_eq_true rfl) (Nat.le_of_ble_eq_true rfl) (Nat.le_of_ble_eq_true rfl) dL_arePlacesSo_63 rfl (fun r_9 u_9 H_9 locs h_9 hP hD hS hg => ?_)
  have h_9 : u_9 = z0 ∧ r_9 = (-1) := ⟨h_9.2.1, h_9.2.2⟩
  obtain ⟨e_9, f_9⟩ := h_9
  subst e_9
  subst f_9
  have hG : s.heap.size + 1 ≤ H_9.size := by omega
  refine lv_istore (lv' := [(6, .int (-1)), (5, .int 2), (3, .int 0), (4, .int 1), (2, .int 0), (1, .int 0), (0, .ref (a 0))]) hx hb dL_arePlacesSo_66 hl (by decide) rfl (fun ls hl => ?_)
  refine lv_iload hx hb dL_arePlacesSo_68 (lv_at hl 0 rfl) ?_
  refine lv_iconst (v := (-1)) hx hb dL_arePlacesSo_70 (by decide) ?_
  refine lv_icmp_lt (tgt := 111) hx hb dL_arePlacesSo_71 (by decide) (fun c9 => absurd c9 (by decide)) (fun _ => ?_)
  refine lv_iload hx hb dL_arePlacesSo_74 (lv_at hl 0 rfl) ?_
  refine lv_iload_n hx hb dL_arePlacesSo_76 rfl (lv_at hl 5 rfl) ?_
  refine lv_icmp_ge (tgt := 111) hx hb dL_arePlacesSo_77 (by decide) (fun c9 => absurd c9 (by decide)) (fun _ => ?_)
  refine lv_iload hx hb dL_arePlacesSo_80 (lv_at hl 0 rfl) ?_
  refine lv_if_lt (tgt := 107) hx hb dL_arePlacesSo_82 (by decide) (fun _ => ?_) (fun c9 => absurd (by decide) c9)
  refine lv_iconst (v := 1) hx hb dL_arePlacesSo_107 (by decide) ?_
  refine lv_goto (tgt := 112) hx hb dL_arePlacesSo_108 (by decide) ?_
  refine lv_istore (lv' := [(4, .int 1), (6, .int (-1)), (5, .int 2), (3, .int 0), (2, .int 0), (1, .int 0), (0, .ref (a 0))]) hx hb dL_arePlacesSo_112 hl (by decide) rfl (fun ls hl => ?_)
  refine lv_iload_n hx hb dL_arePlacesSo_114 rfl (lv_at hl 3 rfl) ?_
  refine lv_iload hx hb dL_arePlacesSo_115 (lv_at hl 1 rfl) ?_
  refine lv_if_ge (tgt := 124) hx hb dL_arePlacesSo_117 (by decide) (fun c9 => absurd c9 (by decide)) (fun _ => ?_)
  refine lv_iconst (v := 0) hx hb dL_arePlacesSo_120 (by decide) ?_
  refine lv_goto (tgt := 125) hx hb dL_arePlacesSo_121 (by decide) ?_
  refine lv_iadd hx hb dL_arePlacesSo_125 ?_
  refine lv_topi (fun v_10 e_10 => ?_)
  obtain rfl : v_10 = 0 := e_10.trans (by decide +kernel)
  refine lv_istore_n (lv' := [(3, .int 0), (4, .int 1), (6, .int (-1)), (5, .int 2), (2, .int 0), (1, .int 0), (0, .ref (a 0))]) hx hb dL_arePlacesSo_126 rfl hl (by decide) rfl (fun ls hl => ?_)
  refine lv_iinc (v := 3) (lv' := [(5, .int 3), (3, .int 0), (4, .int 1), (6, .int (-1)), (2, .int 0), (1, .int 0), (0, .ref (a 0))]) hx hb dL_arePlacesSo_127 hl (k := 3) rfl (by decide +kernel) (by decide) rfl (fun ls hl => ?_)
  refine lv_goto (tgt := 48) hx hb dL_arePlacesSo_130 (by decide) ?_
  refine lv_iload hx hb dL_arePlacesSo_48 (lv_at hl 0 rfl) ?_
  refine lv_bipush (v := 8) hx hb dL_arePlacesSo_50 (by decide) ?_
  refine lv_icmp_ge (tgt := 133) hx hb dL_arePlacesSo_52 (by decide) (fun c9 => absurd c9 (by decide)) (fun _ => ?_)
  refine lv_iload hx hb dL_arePlacesSo_55 (lv_at hl 2 rfl) ?_
  refine lv_if_eq (tgt := 133) hx hb dL_arePlacesSo_57 (by decide) (fun c9 => absurd c9 (by decide)) (fun _ => ?_)
  refine lv_aload_n hx hb dL_arePlacesSo_60 rfl (lv_at hl 6 rfl) ?_
  refine lv_iload hx hb dL_arePlacesSo_61 (lv_at hl 0 rfl) ?_
  refine XI.okV (As := [.int 3]) (rest := []) ⟨hx, hb, hml, hown, hts⟩ (c_X5_trainOn l D cI cZ a H_9.size z0 hfl 3 0 rfl (Nat.zero_le 4)) (fun E q9 => absurd (q9.2.symm.trans (cif_t (show inR 3 0 7 from ⟨by decide, by decide⟩))) (by decide)) (cwV 1 hts gL_arePlacesSo_X5_trainOn rfl rfl rfl (by decide +kernel) ⟨Nat.le_of_ble_eq_true rfl, Nat.le_of_ble_eq_true rfl⟩) hP hK hD hS hA hEV hZ (va_recv hK hP (ci := 5) (q0 := 0) rfl rfl) rfl hl.1 (Nat.le_of_ble_eq_true rfl) (Nat.le_of_ble_eq_true rfl) (Nat.le_of_ble_eq_true rfl) dL_arePlacesSo_63 rfl (fun r_11 u_11 H_11 locs h_11 hP hD hS hg => ?_)
  have h_11 : u_11 = z0 ∧ r_11 = (-1) := ⟨h_11.2.1, h_11.2.2⟩
  obtain ⟨e_11, f_11⟩ := h_11
  subst e_11
  subst f_11
  have hG : s.heap.size + 1 ≤ H_11.size := by omega
  refine lv_istore (lv' := [(6, .int (-1)), (5, .int 3), (3, .int 0), (4, .int 1), (2, .int 0), (1, .int 0), (0, .ref (a 0))]) hx hb dL_arePlacesSo_66 hl (by decide) rfl (fun ls hl => ?_)
  refine lv_iload hx hb dL_arePlacesSo_68 (lv_at hl 0 rfl) ?_
  refine lv_iconst (v := (-1)) hx hb dL_arePlacesSo_70 (by decide) ?_
  refine lv_icmp_lt (tgt := 111) hx hb dL_arePlacesSo_71 (by decide) (fun c9 => absurd c9 (by decide)) (fun _ => ?_)
  refine lv_iload hx hb dL_arePlacesSo_74 (lv_at hl 0 rfl) ?_
  refine lv_iload_n hx hb dL_arePlacesSo_76 rfl (lv_at hl 5 rfl) ?_
  refine lv_icmp_ge (tgt := 111) hx hb dL_arePlacesSo_77 (by decide) (fun c9 => absurd c9 (by decide)) (fun _ => ?_)
  refine lv_iload hx hb dL_arePlacesSo_80 (lv_at hl 0 rfl) ?_
  refine lv_if_lt (tgt := 107) hx hb dL_arePlacesSo_82 (by decide) (fun _ => ?_) (fun c9 => absurd (by decide) c9)
  refine lv_iconst (v := 1) hx hb dL_arePlacesSo_107 (by decide) ?_
  refine lv_goto (tgt := 112) hx hb dL_arePlacesSo_108 (by decide) ?_
  refine lv_istore (lv' := [(4, .int 1), (6, .int (-1)), (5, .int 3), (3, .int 0), (2, .int 0), (1, .int 0), (0, .ref (a 0))]) hx hb dL_arePlacesSo_112 hl (by decide) rfl (fun ls hl => ?_)
  refine lv_iload_n hx hb dL_arePlacesSo_114 rfl (lv_at hl 3 rfl) ?_
  refine lv_iload hx hb dL_arePlacesSo_115 (lv_at hl 1 rfl) ?_
  refine lv_if_ge (tgt := 124) hx hb dL_arePlacesSo_117 (by decide) (fun c9 => absurd c9 (by decide)) (fun _ => ?_)
  refine lv_iconst (v := 0) hx hb dL_arePlacesSo_120 (by decide) ?_
  refine lv_goto (tgt := 125) hx hb dL_arePlacesSo_121 (by decide) ?_
  refine lv_iadd hx hb dL_arePlacesSo_125 ?_
  refine lv_topi (fun v_12 e_12 => ?_)
  obtain rfl : v_12 = 0 := e_12.trans (by decide +kernel)
  refine lv_istore_n (lv' := [(3, .int 0), (4, .int 1), (6, .int (-1)), (5, .int 3), (2, .int 0), (1, .int 0), (0, .ref (a 0))]) hx hb dL_arePlacesSo_126 rfl hl (by decide) rfl (fun ls hl => ?_)
  refine lv_iinc (v := 4) (lv' := [(5, .int 4), (3, .int 0), (4, .int 1), (6, .int (-1)), (2, .int 0), (1, .int 0), (0, .ref (a 0))]) hx hb dL_arePlacesSo_127 hl (k := 3) rfl (by decide +kernel) (by decide) rfl (fun ls hl => ?_)
  refine lv_goto (tgt := 48) hx hb dL_arePlacesSo_130 (by decide) ?_
  refine lv_iload hx hb dL_arePlacesSo_48 (lv_at hl 0 rfl) ?_
  refine lv_bipush (v := 8) hx hb dL_arePlacesSo_50 (by decide) ?_
  refine lv_icmp_ge (tgt := 133) hx hb dL_arePlacesSo_52 (by decide) (fun c9 => absurd c9 (by decide)) (fun _ => ?_)
  refine lv_iload hx hb dL_arePlacesSo_55 (lv_at hl 2 rfl) ?_
  refine lv_if_eq (tgt := 133) hx hb dL_arePlacesSo_57 (by decide) (fun c9 => absurd c9 (by decide)) (fun _ => ?_)
  refine lv_aload_n hx hb dL_arePlacesSo_60 rfl (lv_at hl 6 rfl) ?_
  refine lv_iload hx hb dL_arePlacesSo_61 (lv_at hl 0 rfl) ?_
  refine XI.okV (As := [.int 4]) (rest := []) ⟨hx, hb, hml, hown, hts⟩ (c_X5_trainOn l D cI cZ a H_11.size z0 hfl 4 0 rfl (Nat.zero_le 4)) (fun E q9 => absurd (q9.2.symm.trans (cif_t (show inR 4 0 7 from ⟨by decide, by decide⟩))) (by decide)) (cwV 1 hts gL_arePlacesSo_X5_trainOn rfl rfl rfl (by decide +kernel) ⟨Nat.le_of_ble_eq_true rfl, Nat.le_of_ble_eq_true rfl⟩) hP hK hD hS hA hEV hZ (va_recv hK hP (ci := 5) (q0 := 0) rfl rfl) rfl hl.1 (Nat.le_of_ble_eq_true rfl) (Nat.le_of_ble_eq_true rfl) (Nat.le_of_ble_eq_true rfl) dL_arePlacesSo_63 rfl (fun r_13 u_13 H_13 locs h_13 hP hD hS hg => ?_)
  have h_13 : u_13 = z0 ∧ r_13 = (-1) := ⟨h_13.2.1, h_13.2.2⟩
  obtain ⟨e_13, f_13⟩ := h_13
  subst e_13
  subst f_13
  have hG : s.heap.size + 1 ≤ H_13.size := by omega
  refine lv_istore (lv' := [(6, .int (-1)), (5, .int 4), (3, .int 0), (4, .int 1), (2, .int 0), (1, .int 0), (0, .ref (a 0))]) hx hb dL_arePlacesSo_66 hl (by decide) rfl (fun ls hl => ?_)
  refine lv_iload hx hb dL_arePlacesSo_68 (lv_at hl 0 rfl) ?_
  refine lv_iconst (v := (-1)) hx hb dL_arePlacesSo_70 (by decide) ?_
  refine lv_icmp_lt (tgt := 111) hx hb dL_arePlacesSo_71 (by decide) (fun c9 => absurd c9 (by decide)) (fun _ => ?_)
  refine lv_iload hx hb dL_arePlacesSo_74 (lv_at hl 0 rfl) ?_
  refine lv_iload_n hx hb dL_arePlacesSo_76 rfl (lv_at hl 5 rfl) ?_
  refine lv_icmp_ge (tgt := 111) hx hb dL_arePlacesSo_77 (by decide) (fun c9 => absurd c9 (by decide)) (fun _ => ?_)
  refine lv_iload hx hb dL_arePlacesSo_80 (lv_at hl 0 rfl) ?_
  refine lv_if_lt (tgt := 107) hx hb dL_arePlacesSo_82 (by decide) (fun _ => ?_) (fun c9 => absurd (by decide) c9)
  refine lv_iconst (v := 1) hx hb dL_arePlacesSo_107 (by decide) ?_
  refine lv_goto (tgt := 112) hx hb dL_arePlacesSo_108 (by decide) ?_
  refine lv_istore (lv' := [(4, .int 1), (6, .int (-1)), (5, .int 4), (3, .int 0), (2, .int 0), (1, .int 0), (0, .ref (a 0))]) hx hb dL_arePlacesSo_112 hl (by decide) rfl (fun ls hl => ?_)
  refine lv_iload_n hx hb dL_arePlacesSo_114 rfl (lv_at hl 3 rfl) ?_
  refine lv_iload hx hb dL_arePlacesSo_115 (lv_at hl 1 rfl) ?_
  refine lv_if_ge (tgt := 124) hx hb dL_arePlacesSo_117 (by decide) (fun c9 => absurd c9 (by decide)) (fun _ => ?_)
  refine lv_iconst (v := 0) hx hb dL_arePlacesSo_120 (by decide) ?_
  refine lv_goto (tgt := 125) hx hb dL_arePlacesSo_121 (by decide) ?_
  refine lv_iadd hx hb dL_arePlacesSo_125 ?_
  refine lv_topi (fun v_14 e_14 => ?_)
  obtain rfl : v_14 = 0 := e_14.trans (by decide +kernel)
  refine lv_istore_n (lv' := [(3, .int 0), (4, .int 1), (6, .int (-1)), (5, .int 4), (2, .int 0), (1, .int 0), (0, .ref (a 0))]) hx hb dL_arePlacesSo_126 rfl hl (by decide) rfl (fun ls hl => ?_)
  refine lv_iinc (v := 5) (lv' := [(5, .int 5), (3, .int 0), (4, .int 1), (6, .int (-1)), (2, .int 0), (1, .int 0), (0, .ref (a 0))]) hx hb dL_arePlacesSo_127 hl (k := 3) rfl (by decide +kernel) (by decide) rfl (fun ls hl => ?_)
  refine lv_goto (tgt := 48) hx hb dL_arePlacesSo_130 (by decide) ?_
  refine lv_iload hx hb dL_arePlacesSo_48 (lv_at hl 0 rfl) ?_
  refine lv_bipush (v := 8) hx hb dL_arePlacesSo_50 (by decide) ?_
  refine lv_icmp_ge (tgt := 133) hx hb dL_arePlacesSo_52 (by decide) (fun c9 => absurd c9 (by decide)) (fun _ => ?_)
  refine lv_iload hx hb dL_arePlacesSo_55 (lv_at hl 2 rfl) ?_
  refine lv_if_eq (tgt := 133) hx hb dL_arePlacesSo_57 (by decide) (fun c9 => absurd c9 (by decide)) (fun _ => ?_)
  refine lv_aload_n hx hb dL_arePlacesSo_60 rfl (lv_at hl 6 rfl) ?_
  refine lv_iload hx hb dL_arePlacesSo_61 (lv_at hl 0 rfl) ?_
  refine XI.okV (As := [.int 5]) (rest := []) ⟨hx, hb, hml, hown, hts⟩ (c_X5_trainOn l D cI cZ a H_13.size z0 hfl 5 0 rfl (Nat.zero_le 4)) (fun E q9 => absurd (q9.2.symm.trans (cif_t (show inR 5 0 7 from ⟨by decide, by decide⟩))) (by decide)) (cwV 1 hts gL_arePlacesSo_X5_trainOn rfl rfl rfl (by decide +kernel) ⟨Nat.le_of_ble_eq_true rfl, Nat.le_of_ble_eq_true rfl⟩) hP hK hD hS hA hEV hZ (va_recv hK hP (ci := 5) (q0 := 0) rfl rfl) rfl hl.1 (Nat.le_of_ble_eq_true rfl) (Nat.le_of_ble_eq_true rfl) (Nat.le_of_ble_eq_true rfl) dL_arePlacesSo_63 rfl (fun r_15 u_15 H_15 locs h_15 hP hD hS hg => ?_)
  have h_15 : u_15 = z0 ∧ r_15 = (-1) := ⟨h_15.2.1, h_15.2.2⟩
  obtain ⟨e_15, f_15⟩ := h_15
  subst e_15
  subst f_15
  have hG : s.heap.size + 1 ≤ H_15.size := by omega
  refine lv_istore (lv' := [(6, .int (-1)), (5, .int 5), (3, .int 0), (4, .int 1), (2, .int 0), (1, .int 0), (0, .ref (a 0))]) hx hb dL_arePlacesSo_66 hl (by decide) rfl (fun ls hl => ?_)
  refine lv_iload hx hb dL_arePlacesSo_68 (lv_at hl 0 rfl) ?_
  refine lv_iconst (v := (-1)) hx hb dL_arePlacesSo_70 (by decide) ?_
  refine lv_icmp_lt (tgt := 111) hx hb dL_arePlacesSo_71 (by decide) (fun c9 => absurd c9 (by decide)) (fun _ => ?_)
  refine lv_iload hx hb dL_arePlacesSo_74 (lv_at hl 0 rfl) ?_
  refine lv_iload_n hx hb dL_arePlacesSo_76 rfl (lv_at hl 5 rfl) ?_
  refine lv_icmp_ge (tgt := 111) hx hb dL_arePlacesSo_77 (by decide) (fun c9 => absurd c9 (by decide)) (fun _ => ?_)
  refine lv_iload hx hb dL_arePlacesSo_80 (lv_at hl 0 rfl) ?_
  refine lv_if_lt (tgt := 107) hx hb dL_arePlacesSo_82 (by decide) (fun _ => ?_) (fun c9 => absurd (by decide) c9)
  refine lv_iconst (v := 1) hx hb dL_arePlacesSo_107 (by decide) ?_
  refine lv_goto (tgt := 112) hx hb dL_arePlacesSo_108 (by decide) ?_
  refine lv_istore (lv' := [(4, .int 1), (6, .int (-1)), (5, .int 5), (3, .int 0), (2, .int 0), (1, .int 0), (0, .ref (a 0))]) hx hb dL_arePlacesSo_112 hl (by decide) rfl (fun ls hl => ?_)
  refine lv_iload_n hx hb dL_arePlacesSo_114 rfl (lv_at hl 3 rfl) ?_
  refine lv_iload hx hb dL_arePlacesSo_115 (lv_at hl 1 rfl) ?_
  refine lv_if_ge (tgt := 124) hx hb dL_arePlacesSo_117 (by decide) (fun c9 => absurd c9 (by decide)) (fun _ => ?_)
  refine lv_iconst (v := 0) hx hb dL_arePlacesSo_120 (by decide) ?_
  refine lv_goto (tgt := 125) hx hb dL_arePlacesSo_121 (by decide) ?_
  refine lv_iadd hx hb dL_arePlacesSo_125 ?_
  refine lv_topi (fun v_16 e_16 => ?_)
  obtain rfl : v_16 = 0 := e_16.trans (by decide +kernel)
  refine lv_istore_n (lv' := [(3, .int 0), (4, .int 1), (6, .int (-1)), (5, .int 5), (2, .int 0), (1, .int 0), (0, .ref (a 0))]) hx hb dL_arePlacesSo_126 rfl hl (by decide) rfl (fun ls hl => ?_)
  refine lv_iinc (v := 6) (lv' := [(5, .int 6), (3, .int 0), (4, .int 1), (6, .int (-1)), (2, .int 0), (1, .int 0), (0, .ref (a 0))]) hx hb dL_arePlacesSo_127 hl (k := 3) rfl (by decide +kernel) (by decide) rfl (fun ls hl => ?_)
  refine lv_goto (tgt := 48) hx hb dL_arePlacesSo_130 (by decide) ?_
  refine lv_iload hx hb dL_arePlacesSo_48 (lv_at hl 0 rfl) ?_
  refine lv_bipush (v := 8) hx hb dL_arePlacesSo_50 (by decide) ?_
  refine lv_icmp_ge (tgt := 133) hx hb dL_arePlacesSo_52 (by decide) (fun c9 => absurd c9 (by decide)) (fun _ => ?_)
  refine lv_iload hx hb dL_arePlacesSo_55 (lv_at hl 2 rfl) ?_
  refine lv_if_eq (tgt := 133) hx hb dL_arePlacesSo_57 (by decide) (fun c9 => absurd c9 (by decide)) (fun _ => ?_)
  refine lv_aload_n hx hb dL_arePlacesSo_60 rfl (lv_at hl 6 rfl) ?_
  refine lv_iload hx hb dL_arePlacesSo_61 (lv_at hl 0 rfl) ?_
  refine XI.okV (As := [.int 6]) (rest := []) ⟨hx, hb, hml, hown, hts⟩ (c_X5_trainOn l D cI cZ a H_15.size z0 hfl 6 0 rfl (Nat.zero_le 4)) (fun E q9 => absurd (q9.2.symm.trans (cif_t (show inR 6 0 7 from ⟨by decide, by decide⟩))) (by decide)) (cwV 1 hts gL_arePlacesSo_X5_trainOn rfl rfl rfl (by decide +kernel) ⟨Nat.le_of_ble_eq_true rfl, Nat.le_of_ble_eq_true rfl⟩) hP hK hD hS hA hEV hZ (va_recv hK hP (ci := 5) (q0 := 0) rfl rfl) rfl hl.1 (Nat.le_of_ble_eq_true rfl) (Nat.le_of_ble_eq_true rfl) (Nat.le_of_ble_eq_true rfl) dL_arePlacesSo_63 rfl (fun r_17 u_17 H_17 locs h_17 hP hD hS hg => ?_)
  have h_17 : u_17 = z0 ∧ r_17 = (-1) := ⟨h_17.2.1, h_17.2.2⟩
  obtain ⟨e_17, f_17⟩ := h_17
  subst e_17
  subst f_17
  have hG : s.heap.size + 1 ≤ H_17.size := by omega
  refine lv_istore (lv' := [(6, .int (-1)), (5, .int 6), (3, .int 0), (4, .int 1), (2, .int 0), (1, .int 0), (0, .ref (a 0))]) hx hb dL_arePlacesSo_66 hl (by decide) rfl (fun ls hl => ?_)
  refine lv_iload hx hb dL_arePlacesSo_68 (lv_at hl 0 rfl) ?_
  refine lv_iconst (v := (-1)) hx hb dL_arePlacesSo_70 (by decide) ?_
  refine lv_icmp_lt (tgt := 111) hx hb dL_arePlacesSo_71 (by decide) (fun c9 => absurd c9 (by decide)) (fun _ => ?_)
  refine lv_iload hx hb dL_arePlacesSo_74 (lv_at hl 0 rfl) ?_
  refine lv_iload_n hx hb dL_arePlacesSo_76 rfl (lv_at hl 5 rfl) ?_
  refine lv_icmp_ge (tgt := 111) hx hb dL_arePlacesSo_77 (by decide) (fun c9 => absurd c9 (by decide)) (fun _ => ?_)
  refine lv_iload hx hb dL_arePlacesSo_80 (lv_at hl 0 rfl) ?_
  refine lv_if_lt (tgt := 107) hx hb dL_arePlacesSo_82 (by decide) (fun _ => ?_) (fun c9 => absurd (by decide) c9)
  refine lv_iconst (v := 1) hx hb dL_arePlacesSo_107 (by decide) ?_
  refine lv_goto (tgt := 112) hx hb dL_arePlacesSo_108 (by decide) ?_
  refine lv_istore (lv' := [(4, .int 1), (6, .int (-1)), (5, .int 6), (3, .int 0), (2, .int 0), (1, .int 0), (0, .ref (a 0))]) hx hb dL_arePlacesSo_112 hl (by decide) rfl (fun ls hl => ?_)
  refine lv_iload_n hx hb dL_arePlacesSo_114 rfl (lv_at hl 3 rfl) ?_
  refine lv_iload hx hb dL_arePlacesSo_115 (lv_at hl 1 rfl) ?_
  refine lv_if_ge (tgt := 124) hx hb dL_arePlacesSo_117 (by decide) (fun c9 => absurd c9 (by decide)) (fun _ => ?_)
  refine lv_iconst (v := 0) hx hb dL_arePlacesSo_120 (by decide) ?_
  refine lv_goto (tgt := 125) hx hb dL_arePlacesSo_121 (by decide) ?_
  refine lv_iadd hx hb dL_arePlacesSo_125 ?_
  refine lv_topi (fun v_18 e_18 => ?_)
  obtain rfl : v_18 = 0 := e_18.trans (by decide +kernel)
  refine lv_istore_n (lv' := [(3, .int 0), (4, .int 1), (6, .int (-1)), (5, .int 6), (2, .int 0), (1, .int 0), (0, .ref (a 0))]) hx hb dL_arePlacesSo_126 rfl hl (by decide) rfl (fun ls hl => ?_)
  refine lv_iinc (v := 7) (lv' := [(5, .int 7), (3, .int 0), (4, .int 1), (6, .int (-1)), (2, .int 0), (1, .int 0), (0, .ref (a 0))]) hx hb dL_arePlacesSo_127 hl (k := 3) rfl (by decide +kernel) (by decide) rfl (fun ls hl => ?_)
  refine lv_goto (tgt := 48) hx hb dL_arePlacesSo_130 (by decide) ?_
  refine lv_iload hx hb dL_arePlacesSo_48 (lv_at hl 0 rfl) ?_
  refine lv_bipush (v := 8) hx hb dL_arePlacesSo_50 (by decide) ?_
  refine lv_icmp_ge (tgt := 133) hx hb dL_arePlacesSo_52 (by decide) (fun c9 => absurd c9 (by decide)) (fun _ => ?_)
  refine lv_iload hx hb dL_arePlacesSo_55 (lv_at hl 2 rfl) ?_
  refine lv_if_eq (tgt := 133) hx hb dL_arePlacesSo_57 (by decide) (fun c9 => absurd c9 (by decide)) (fun _ => ?_)
  refine lv_aload_n hx hb dL_arePlacesSo_60 rfl (lv_at hl 6 rfl) ?_
  refine lv_iload hx hb dL_arePlacesSo_61 (lv_at hl 0 rfl) ?_
  refine XI.okV (As := [.int 7]) (rest := []) ⟨hx, hb, hml, hown, hts⟩ (c_X5_trainOn l D cI cZ a H_17.size z0 hfl 7 0 rfl (Nat.zero_le 4)) (fun E q9 => absurd (q9.2.symm.trans (cif_t (show inR 7 0 7 from ⟨by decide, by decide⟩))) (by decide)) (cwV 1 hts gL_arePlacesSo_X5_trainOn rfl rfl rfl (by decide +kernel) ⟨Nat.le_of_ble_eq_true rfl, Nat.le_of_ble_eq_true rfl⟩) hP hK hD hS hA hEV hZ (va_recv hK hP (ci := 5) (q0 := 0) rfl rfl) rfl hl.1 (Nat.le_of_ble_eq_true rfl) (Nat.le_of_ble_eq_true rfl) (Nat.le_of_ble_eq_true rfl) dL_arePlacesSo_63 rfl (fun r_19 u_19 H_19 locs h_19 hP hD hS hg => ?_)
  have h_19 : u_19 = z0 ∧ r_19 = (-1) := ⟨h_19.2.1, h_19.2.2⟩
  obtain ⟨e_19, f_19⟩ := h_19
  subst e_19
  subst f_19
  have hG : s.heap.size + 1 ≤ H_19.size := by omega
  refine lv_istore (lv' := [(6, .int (-1)), (5, .int 7), (3, .int 0), (4, .int 1), (2, .int 0), (1, .int 0), (0, .ref (a 0))]) hx hb dL_arePlacesSo_66 hl (by decide) rfl (fun ls hl => ?_)
  refine lv_iload hx hb dL_arePlacesSo_68 (lv_at hl 0 rfl) ?_
  refine lv_iconst (v := (-1)) hx hb dL_arePlacesSo_70 (by decide) ?_
  refine lv_icmp_lt (tgt := 111) hx hb dL_arePlacesSo_71 (by decide) (fun c9 => absurd c9 (by decide)) (fun _ => ?_)
  refine lv_iload hx hb dL_arePlacesSo_74 (lv_at hl 0 rfl) ?_
  refine lv_iload_n hx hb dL_arePlacesSo_76 rfl (lv_at hl 5 rfl) ?_
  refine lv_icmp_ge (tgt := 111) hx hb dL_arePlacesSo_77 (by decide) (fun c9 => absurd c9 (by decide)) (fun _ => ?_)
  refine lv_iload hx hb dL_arePlacesSo_80 (lv_at hl 0 rfl) ?_
  refine lv_if_lt (tgt := 107) hx hb dL_arePlacesSo_82 (by decide) (fun _ => ?_) (fun c9 => absurd (by decide) c9)
  refine lv_iconst (v := 1) hx hb dL_arePlacesSo_107 (by decide) ?_
  refine lv_goto (tgt := 112) hx hb dL_arePlacesSo_108 (by decide) ?_
  refine lv_istore (lv' := [(4, .int 1), (6, .int (-1)), (5, .int 7), (3, .int 0), (2, .int 0), (1, .int 0), (0, .ref (a 0))]) hx hb dL_arePlacesSo_112 hl (by decide) rfl (fun ls hl => ?_)
  refine lv_iload_n hx hb dL_arePlacesSo_114 rfl (lv_at hl 3 rfl) ?_
  refine lv_iload hx hb dL_arePlacesSo_115 (lv_at hl 1 rfl) ?_
  refine lv_if_ge (tgt := 124) hx hb dL_arePlacesSo_117 (by decide) (fun c9 => absurd c9 (by decide)) (fun _ => ?_)
  refine lv_iconst (v := 0) hx hb dL_arePlacesSo_120 (by decide) ?_
  refine lv_goto (tgt := 125) hx hb dL_arePlacesSo_121 (by decide) ?_
  refine lv_iadd hx hb dL_arePlacesSo_125 ?_
  refine lv_topi (fun v_20 e_20 => ?_)
  obtain rfl : v_20 = 0 := e_20.trans (by decide +kernel)
  refine lv_istore_n (lv' := [(3, .int 0), (4, .int 1), (6, .int (-1)), (5, .int 7), (2, .int 0), (1, .int 0), (0, .ref (a 0))]) hx hb dL_arePlacesSo_126 rfl hl (by decide) rfl (fun ls hl => ?_)
  refine lv_iinc (v := 8) (lv' := [(5, .int 8), (3, .int 0), (4, .int 1), (6, .int (-1)), (2, .int 0), (1, .int 0), (0, .ref (a 0))]) hx hb dL_arePlacesSo_127 hl (k := 3) rfl (by decide +kernel) (by decide) rfl (fun ls hl => ?_)
  refine lv_goto (tgt := 48) hx hb dL_arePlacesSo_130 (by decide) ?_
  refine lv_iload hx hb dL_arePlacesSo_48 (lv_at hl 0 rfl) ?_
  refine lv_bipush (v := 8) hx hb dL_arePlacesSo_50 (by decide) ?_
  refine lv_icmp_ge (tgt := 133) hx hb dL_arePlacesSo_52 (by decide) (fun _ => ?_) (fun c9 => absurd (by decide) c9)
  refine lv_bipush (v := 6) hx hb dL_arePlacesSo_133 (by decide) ?_
  refine lv_istore (lv' := [(5, .int 6), (3, .int 0), (4, .int 1), (6, .int (-1)), (2, .int 0), (1, .int 0), (0, .ref (a 0))]) hx hb dL_arePlacesSo_135 hl (by decide) rfl (fun ls hl => ?_)
  refine lv_iload hx hb dL_arePlacesSo_137 (lv_at hl 0 rfl) ?_
  refine lv_bipush (v := 10) hx hb dL_arePlacesSo_139 (by decide) ?_
  refine lv_iload_n hx hb dL_arePlacesSo_141 rfl (lv_at hl 5 rfl) ?_
  refine lv_iadd hx hb dL_arePlacesSo_142 ?_
  refine lv_topi (fun v_21 e_21 => ?_)
  obtain rfl : v_21 = 10 := e_21.trans (by decide +kernel)
  refine lv_icmp_ge (tgt := 302) hx hb dL_arePlacesSo_143 (by decide) (fun c9 => absurd c9 (by decide)) (fun _ => ?_)
  refine lv_iload hx hb dL_arePlacesSo_146 (lv_at hl 2 rfl) ?_
  refine lv_if_eq (tgt := 302) hx hb dL_arePlacesSo_148 (by decide) (fun c9 => absurd c9 (by decide)) (fun _ => ?_)
  refine lv_iload hx hb dL_arePlacesSo_151 (lv_at hl 0 rfl) ?_
  refine lv_bipush (v := 8) hx hb dL_arePlacesSo_153 (by decide) ?_
  refine lv_icmp_ge (tgt := 162) hx hb dL_arePlacesSo_155 (by decide) (fun c9 => absurd c9 (by decide)) (fun _ => ?_)
  refine lv_iconst (v := 4) hx hb dL_arePlacesSo_158 (by decide) ?_
  refine lv_goto (tgt := 164) hx hb dL_arePlacesSo_159 (by decide) ?_
  refine lv_istore (lv' := [(6, .int 4), (5, .int 6), (3, .int 0), (4, .int 1), (2, .int 0), (1, .int 0), (0, .ref (a 0))]) hx hb dL_arePlacesSo_164 hl (by decide) rfl (fun ls hl => ?_)
  refine lv_iload hx hb dL_arePlacesSo_166 (lv_at hl 1 rfl) ?_
  refine lv_bipush (v := 8) hx hb dL_arePlacesSo_168 (by decide) ?_
  refine lv_icmp_lt (tgt := 180) hx hb dL_arePlacesSo_170 (by decide) (fun _ => ?_) (fun c9 => absurd (by decide) c9)
  refine lv_iconst (v := 1) hx hb dL_arePlacesSo_180 (by decide) ?_
  refine lv_goto (tgt := 185) hx hb dL_arePlacesSo_181 (by decide) ?_
  refine lv_istore (lv' := [(7, .int 1), (6, .int 4), (5, .int 6), (3, .int 0), (4, .int 1), (2, .int 0), (1, .int 0), (0, .ref (a 0))]) hx hb dL_arePlacesSo_185 hl (by decide) rfl (fun ls hl => ?_)
  refine lv_iload hx hb dL_arePlacesSo_187 (lv_at hl 0 rfl) ?_
  refine lv_aload_n hx hb dL_arePlacesSo_189 rfl (lv_at hl 7 rfl) ?_
  refine lv_iconst (v := 4) hx hb dL_arePlacesSo_190 (by decide) ?_
  refine lv_iload hx hb dL_arePlacesSo_191 (lv_at hl 2 rfl) ?_
  refine lv_iconst (v := 0) hx hb dL_arePlacesSo_193 (by decide) ?_
  refine MG.callSW (As := [.ref (a 0), .int 4, .int 6, .int 0]) (rest := [.int 1]) ⟨hx, hb, hml, hown, hts⟩ (g_looks4 l D cI cZ a H_19.size hfl 0 0 (by decide) (by decide)) (vx_cwSW 4 hts gL_arePlacesSo_L_looks rfl rfl rfl (by decide +kernel) ⟨Nat.le_of_ble_eq_true rfl, Nat.le_of_ble_eq_true rfl⟩) hP hK hD hS hA hEV hZ rfl hl.1 (Nat.le_of_ble_eq_true rfl) (Nat.le_of_ble_eq_true rfl) (Nat.le_of_ble_eq_true rfl) dL_arePlacesSo_194 rfl (fun r_22 u_22 H_22 locs h_22 hP hD hS hg => ?_)
  have h_22 : u_22 = z0 ∧ r_22 = (-1) := h_22
  obtain ⟨e_22, f_22⟩ := h_22
  subst e_22
  subst f_22
  have hG : s.heap.size + 1 ≤ H_22.size := by omega
  refine lv_ldc (v := (-99999)) hx hb hown (hts (.constant RL 54 (-99999)) (by decide +kernel)) dL_arePlacesSo_197 ?_
  refine lv_icmp_eq (tgt := 206) hx hb dL_arePlacesSo_199 (by decide) (fun c9 => absurd c9 (by decide)) (fun _ => ?_)
  refine lv_iconst (v := 1) hx hb dL_arePlacesSo_202 (by decide) ?_
  refine lv_goto (tgt := 207) hx hb dL_arePlacesSo_203 (by decide) ?_
  refine lv_icmp_ne (tgt := 214) hx hb dL_arePlacesSo_207 (by decide) (fun c9 => absurd (by decide) c9) (fun _ => ?_)
  refine lv_iconst (v := 1) hx hb dL_arePlacesSo_210 (by decide) ?_
  refine lv_goto (tgt := 215) hx hb dL_arePlacesSo_211 (by decide) ?_
  refine lv_istore (lv' := [(4, .int 1), (7, .int 1), (6, .int 4), (5, .int 6), (3, .int 0), (2, .int 0), (1, .int 0), (0, .ref (a 0))]) hx hb dL_arePlacesSo_215 hl (by decide) rfl (fun ls hl => ?_)
  refine lv_iconst (v := 0) hx hb dL_arePlacesSo_217 (by decide) ?_
  refine lv_istore (lv' := [(8, .int 0), (4, .int 1), (7, .int 1), (6, .int 4), (5, .int 6), (3, .int 0), (2, .int 0), (1, .int 0), (0, .ref (a 0))]) hx hb dL_arePlacesSo_218 hl (by decide) rfl (fun ls hl => ?_)
  refine lv_iload hx hb dL_arePlacesSo_220 (lv_at hl 2 rfl) ?_
  refine lv_if_eq (tgt := 296) hx hb dL_arePlacesSo_222 (by decide) (fun c9 => absurd c9 (by decide)) (fun _ => ?_)
  refine lv_aload_n hx hb dL_arePlacesSo_225 rfl (lv_at hl 8 rfl) ?_
  refine lv_iconst (v := 4) hx hb dL_arePlacesSo_226 (by decide) ?_
  refine lv_iload hx hb dL_arePlacesSo_227 (lv_at hl 4 rfl) ?_
  refine lv_iload hx hb dL_arePlacesSo_229 (lv_at hl 0 rfl) ?_
  refine MG.callSW (As := [.ref (a 0), .int 4, .int 6, .int 0]) (rest := []) ⟨hx, hb, hml, hown, hts⟩ (g_looks4 l D cI cZ a H_22.size hfl 0 0 (by decide) (by decide)) (vx_cwSW 4 hts gL_arePlacesSo_L_looks rfl rfl rfl (by decide +kernel) ⟨Nat.le_of_ble_eq_true rfl, Nat.le_of_ble_eq_true rfl⟩) hP hK hD hS hA hEV hZ rfl hl.1 (Nat.le_of_ble_eq_true rfl) (Nat.le_of_ble_eq_true rfl) (Nat.le_of_ble_eq_true rfl) dL_arePlacesSo_231 rfl (fun r_23 u_23 H_23 locs h_23 hP hD hS hg => ?_)
  have h_23 : u_23 = z0 ∧ r_23 = (-1) := h_23
  obtain ⟨e_23, f_23⟩ := h_23
  subst e_23
  subst f_23
  have hG : s.heap.size + 1 ≤ H_23.size := by omega
  refine lv_if_lt (tgt := 296) hx hb dL_arePlacesSo_234 (by decide) (fun _ => ?_) (fun c9 => absurd (by decide) c9)
  refine lv_iinc (v := 7) (lv' := [(5, .int 7), (8, .int 0), (4, .int 1), (7, .int 1), (6, .int 4), (3, .int 0), (2, .int 0), (1, .int 0), (0, .ref (a 0))]) hx hb dL_arePlacesSo_296 hl (k := 4) rfl (by decide +kernel) (by decide) rfl (fun ls hl => ?_)
  refine lv_goto (tgt := 137) hx hb dL_arePlacesSo_299 (by decide) ?_
  refine lv_iload hx hb dL_arePlacesSo_137 (lv_at hl 0 rfl) ?_
  refine lv_bipush (v := 10) hx hb dL_arePlacesSo_139 (by decide) ?_
  refine lv_iload_n hx hb dL_arePlacesSo_141 rfl (lv_at hl 7 rfl) ?_
  refine lv_iadd hx hb dL_arePlacesSo_142 ?_
  refine lv_topi (fun v_24 e_24 => ?_)
  obtain rfl : v_24 = 10 := e_24.trans (by decide +kernel)
  refine lv_icmp_ge (tgt := 302) hx hb dL_arePlacesSo_143 (by decide) (fun c9 => absurd c9 (by decide)) (fun _ => ?_)
  refine lv_iload hx hb dL_arePlacesSo_146 (lv_at hl 2 rfl) ?_
  refine lv_if_eq (tgt := 302) hx hb dL_arePlacesSo_148 (by decide) (fun c9 => absurd c9 (by decide)) (fun _ => ?_)
  refine lv_iload hx hb dL_arePlacesSo_151 (lv_at hl 0 rfl) ?_
  refine lv_bipush (v := 8) hx hb dL_arePlacesSo_153 (by decide) ?_
  refine lv_icmp_ge (tgt := 162) hx hb dL_arePlacesSo_155 (by decide) (fun c9 => absurd c9 (by decide)) (fun _ => ?_)
  refine lv_iconst (v := 4) hx hb dL_arePlacesSo_158 (by decide) ?_
  refine lv_goto (tgt := 164) hx hb dL_arePlacesSo_159 (by decide) ?_
  refine lv_istore (lv' := [(6, .int 4), (5, .int 7), (8, .int 0), (4, .int 1), (7, .int 1), (3, .int 0), (2, .int 0), (1, .int 0), (0, .ref (a 0))]) hx hb dL_arePlacesSo_164 hl (by decide) rfl (fun ls hl => ?_)
  refine lv_iload hx hb dL_arePlacesSo_166 (lv_at hl 1 rfl) ?_
  refine lv_bipush (v := 8) hx hb dL_arePlacesSo_168 (by decide) ?_
  refine lv_icmp_lt (tgt := 180) hx hb dL_arePlacesSo_170 (by decide) (fun _ => ?_) (fun c9 => absurd (by decide) c9)
  refine lv_iconst (v := 1) hx hb dL_arePlacesSo_180 (by decide) ?_
  refine lv_goto (tgt := 185) hx hb dL_arePlacesSo_181 (by decide) ?_
  refine lv_istore (lv' := [(7, .int 1), (6, .int 4), (5, .int 7), (8, .int 0), (4, .int 1), (3, .int 0), (2, .int 0), (1, .int 0), (0, .ref (a 0))]) hx hb dL_arePlacesSo_185 hl (by decide) rfl (fun ls hl => ?_)
  refine lv_iload hx hb dL_arePlacesSo_187 (lv_at hl 0 rfl) ?_
  refine lv_aload_n hx hb dL_arePlacesSo_189 rfl (lv_at hl 8 rfl) ?_
  refine lv_iconst (v := 4) hx hb dL_arePlacesSo_190 (by decide) ?_
  refine lv_iload hx hb dL_arePlacesSo_191 (lv_at hl 2 rfl) ?_
  refine lv_iconst (v := 0) hx hb dL_arePlacesSo_193 (by decide) ?_
  refine MG.callSW (As := [.ref (a 0), .int 4, .int 7, .int 0]) (rest := [.int 1]) ⟨hx, hb, hml, hown, hts⟩ (g_looks4 l D cI cZ a H_23.size hfl 1 0 (by decide) (by decide)) (vx_cwSW 4 hts gL_arePlacesSo_L_looks rfl rfl rfl (by decide +kernel) ⟨Nat.le_of_ble_eq_true rfl, Nat.le_of_ble_eq_true rfl⟩) hP hK hD hS hA hEV hZ rfl hl.1 (Nat.le_of_ble_eq_true rfl) (Nat.le_of_ble_eq_true rfl) (Nat.le_of_ble_eq_true rfl) dL_arePlacesSo_194 rfl (fun r_25 u_25 H_25 locs h_25 hP hD hS hg => ?_)
  have h_25 : u_25 = z0 ∧ r_25 = (-1) := h_25
  obtain ⟨e_25, f_25⟩ := h_25
  subst e_25
  subst f_25
  have hG : s.heap.size + 1 ≤ H_25.size := by omega
  refine lv_ldc (v := (-99999)) hx hb hown (hts (.constant RL 54 (-99999)) (by decide +kernel)) dL_arePlacesSo_197 ?_
  refine lv_icmp_eq (tgt := 206) hx hb dL_arePlacesSo_199 (by decide) (fun c9 => absurd c9 (by decide)) (fun _ => ?_)
  refine lv_iconst (v := 1) hx hb dL_arePlacesSo_202 (by decide) ?_
  refine lv_goto (tgt := 207) hx hb dL_arePlacesSo_203 (by decide) ?_
  refine lv_icmp_ne (tgt := 214) hx hb dL_arePlacesSo_207 (by decide) (fun c9 => absurd (by decide) c9) (fun _ => ?_)
  refine lv_iconst (v := 1) hx hb dL_arePlacesSo_210 (by decide) ?_
  refine lv_goto (tgt := 215) hx hb dL_arePlacesSo_211 (by decide) ?_
  refine lv_istore (lv' := [(4, .int 1), (7, .int 1), (6, .int 4), (5, .int 7), (8, .int 0), (3, .int 0), (2, .int 0), (1, .int 0), (0, .ref (a 0))]) hx hb dL_arePlacesSo_215 hl (by decide) rfl (fun ls hl => ?_)
  refine lv_iconst (v := 0) hx hb dL_arePlacesSo_217 (by decide) ?_
  refine lv_istore (lv' := [(8, .int 0), (4, .int 1), (7, .int 1), (6, .int 4), (5, .int 7), (3, .int 0), (2, .int 0), (1, .int 0), (0, .ref (a 0))]) hx hb dL_arePlacesSo_218 hl (by decide) rfl (fun ls hl => ?_)
  refine lv_iload hx hb dL_arePlacesSo_220 (lv_at hl 2 rfl) ?_
  refine lv_if_eq (tgt := 296) hx hb dL_arePlacesSo_222 (by decide) (fun c9 => absurd c9 (by decide)) (fun _ => ?_)
  refine lv_aload_n hx hb dL_arePlacesSo_225 rfl (lv_at hl 8 rfl) ?_
  refine lv_iconst (v := 4) hx hb dL_arePlacesSo_226 (by decide) ?_
  refine lv_iload hx hb dL_arePlacesSo_227 (lv_at hl 4 rfl) ?_
  refine lv_iload hx hb dL_arePlacesSo_229 (lv_at hl 0 rfl) ?_
  refine MG.callSW (As := [.ref (a 0), .int 4, .int 7, .int 0]) (rest := []) ⟨hx, hb, hml, hown, hts⟩ (g_looks4 l D cI cZ a H_25.size hfl 1 0 (by decide) (by decide)) (vx_cwSW 4 hts gL_arePlacesSo_L_looks rfl rfl rfl (by decide +kernel) ⟨Nat.le_of_ble_eq_true rfl, Nat.le_of_ble_eq_true rfl⟩) hP hK hD hS hA hEV hZ rfl hl.1 (Nat.le_of_ble_eq_true rfl) (Nat.le_of_ble_eq_true rfl) (Nat.le_of_ble_eq_true rfl) dL_arePlacesSo_231 rfl (fun r_26 u_26 H_26 locs h_26 hP hD hS hg => ?_)
  have h_26 : u_26 = z0 ∧ r_26 = (-1) := h_26
  obtain ⟨e_26, f_26⟩ := h_26
  subst e_26
  subst f_26
  have hG : s.heap.size + 1 ≤ H_26.size := by omega
  refine lv_if_lt (tgt := 296) hx hb dL_arePlacesSo_234 (by decide) (fun _ => ?_) (fun c9 => absurd (by decide) c9)
  refine lv_iinc (v := 8) (lv' := [(5, .int 8), (8, .int 0), (4, .int 1), (7, .int 1), (6, .int 4), (3, .int 0), (2, .int 0), (1, .int 0), (0, .ref (a 0))]) hx hb dL_arePlacesSo_296 hl (k := 4) rfl (by decide +kernel) (by decide) rfl (fun ls hl => ?_)
  refine lv_goto (tgt := 137) hx hb dL_arePlacesSo_299 (by decide) ?_
  refine lv_iload hx hb dL_arePlacesSo_137 (lv_at hl 0 rfl) ?_
  refine lv_bipush (v := 10) hx hb dL_arePlacesSo_139 (by decide) ?_
  refine lv_iload_n hx hb dL_arePlacesSo_141 rfl (lv_at hl 7 rfl) ?_
  refine lv_iadd hx hb dL_arePlacesSo_142 ?_
  refine lv_topi (fun v_27 e_27 => ?_)
  obtain rfl : v_27 = 10 := e_27.trans (by decide +kernel)
  refine lv_icmp_ge (tgt := 302) hx hb dL_arePlacesSo_143 (by decide) (fun c9 => absurd c9 (by decide)) (fun _ => ?_)
  refine lv_iload hx hb dL_arePlacesSo_146 (lv_at hl 2 rfl) ?_
  refine lv_if_eq (tgt := 302) hx hb dL_arePlacesSo_148 (by decide) (fun c9 => absurd c9 (by decide)) (fun _ => ?_)
  refine lv_iload hx hb dL_arePlacesSo_151 (lv_at hl 0 rfl) ?_
  refine lv_bipush (v := 8) hx hb dL_arePlacesSo_153 (by decide) ?_
  refine lv_icmp_ge (tgt := 162) hx hb dL_arePlacesSo_155 (by decide) (fun _ => ?_) (fun c9 => absurd (by decide) c9)
  refine lv_bipush (v := 8) hx hb dL_arePlacesSo_162 (by decide) ?_
  refine lv_istore (lv' := [(6, .int 8), (5, .int 8), (8, .int 0), (4, .int 1), (7, .int 1), (3, .int 0), (2, .int 0), (1, .int 0), (0, .ref (a 0))]) hx hb dL_arePlacesSo_164 hl (by decide) rfl (fun ls hl => ?_)
  refine lv_iload hx hb dL_arePlacesSo_166 (lv_at hl 1 rfl) ?_
  refine lv_bipush (v := 8) hx hb dL_arePlacesSo_168 (by decide) ?_
  refine lv_icmp_lt (tgt := 180) hx hb dL_arePlacesSo_170 (by decide) (fun c9 => absurd c9 (by decide)) (fun _ => ?_)
  refine lv_iload hx hb dL_arePlacesSo_173 (lv_at hl 1 rfl) ?_
  refine lv_bipush (v := 9) hx hb dL_arePlacesSo_175 (by decide) ?_
  refine lv_icmp_le (tgt := 184) hx hb dL_arePlacesSo_177 (by decide) (fun _ => ?_) (fun c9 => absurd (by decide) c9)
  refine lv_iconst (v := 0) hx hb dL_arePlacesSo_184 (by decide) ?_
  refine lv_istore (lv' := [(7, .int 0), (6, .int 8), (5, .int 8), (8, .int 0), (4, .int 1), (3, .int 0), (2, .int 0), (1, .int 0), (0, .ref (a 0))]) hx hb dL_arePlacesSo_185 hl (by decide) rfl (fun ls hl => ?_)
  refine lv_iload hx hb dL_arePlacesSo_187 (lv_at hl 0 rfl) ?_
  refine lv_aload_n hx hb dL_arePlacesSo_189 rfl (lv_at hl 8 rfl) ?_
  refine lv_iconst (v := 4) hx hb dL_arePlacesSo_190 (by decide) ?_
  refine lv_iload hx hb dL_arePlacesSo_191 (lv_at hl 2 rfl) ?_
  refine lv_iconst (v := 0) hx hb dL_arePlacesSo_193 (by decide) ?_
  refine MG.callSW (As := [.ref (a 0), .int 4, .int 8, .int 0]) (rest := [.int 0]) ⟨hx, hb, hml, hown, hts⟩ (g_looks4 l D cI cZ a H_26.size hfl 2 0 (by decide) (by decide)) (vx_cwSW 4 hts gL_arePlacesSo_L_looks rfl rfl rfl (by decide +kernel) ⟨Nat.le_of_ble_eq_true rfl, Nat.le_of_ble_eq_true rfl⟩) hP hK hD hS hA hEV hZ rfl hl.1 (Nat.le_of_ble_eq_true rfl) (Nat.le_of_ble_eq_true rfl) (Nat.le_of_ble_eq_true rfl) dL_arePlacesSo_194 rfl (fun r_28 u_28 H_28 locs h_28 hP hD hS hg => ?_)
  have h_28 : u_28 = z0 ∧ r_28 = (-99999) := h_28
  obtain ⟨e_28, f_28⟩ := h_28
  subst e_28
  subst f_28
  have hG : s.heap.size + 1 ≤ H_28.size := by omega
  refine lv_ldc (v := (-99999)) hx hb hown (hts (.constant RL 54 (-99999)) (by decide +kernel)) dL_arePlacesSo_197 ?_
  refine lv_icmp_eq (tgt := 206) hx hb dL_arePlacesSo_199 (by decide) (fun _ => ?_) (fun c9 => absurd (by decide) c9)
  refine lv_iconst (v := 0) hx hb dL_arePlacesSo_206 (by decide) ?_
  refine lv_icmp_ne (tgt := 214) hx hb dL_arePlacesSo_207 (by decide) (fun c9 => absurd (by decide) c9) (fun _ => ?_)
  refine lv_iconst (v := 1) hx hb dL_arePlacesSo_210 (by decide) ?_
  refine lv_goto (tgt := 215) hx hb dL_arePlacesSo_211 (by decide) ?_
  refine lv_istore (lv' := [(4, .int 1), (7, .int 0), (6, .int 8), (5, .int 8), (8, .int 0), (3, .int 0), (2, .int 0), (1, .int 0), (0, .ref (a 0))]) hx hb dL_arePlacesSo_215 hl (by decide) rfl (fun ls hl => ?_)
  refine lv_iconst (v := 0) hx hb dL_arePlacesSo_217 (by decide) ?_
  refine lv_istore (lv' := [(8, .int 0), (4, .int 1), (7, .int 0), (6, .int 8), (5, .int 8), (3, .int 0), (2, .int 0), (1, .int 0), (0, .ref (a 0))]) hx hb dL_arePlacesSo_218 hl (by decide) rfl (fun ls hl => ?_)
  refine lv_iload hx hb dL_arePlacesSo_220 (lv_at hl 2 rfl) ?_
  refine lv_if_eq (tgt := 296) hx hb dL_arePlacesSo_222 (by decide) (fun _ => ?_) (fun c9 => absurd (by decide) c9)
  refine lv_iinc (v := 9) (lv' := [(5, .int 9), (8, .int 0), (4, .int 1), (7, .int 0), (6, .int 8), (3, .int 0), (2, .int 0), (1, .int 0), (0, .ref (a 0))]) hx hb dL_arePlacesSo_296 hl (k := 4) rfl (by decide +kernel) (by decide) rfl (fun ls hl => ?_)
  refine lv_goto (tgt := 137) hx hb dL_arePlacesSo_299 (by decide) ?_
  refine lv_iload hx hb dL_arePlacesSo_137 (lv_at hl 0 rfl) ?_
  refine lv_bipush (v := 10) hx hb dL_arePlacesSo_139 (by decide) ?_
  refine lv_iload_n hx hb dL_arePlacesSo_141 rfl (lv_at hl 7 rfl) ?_
  refine lv_iadd hx hb dL_arePlacesSo_142 ?_
  refine lv_topi (fun v_29 e_29 => ?_)
  obtain rfl : v_29 = 10 := e_29.trans (by decide +kernel)
  refine lv_icmp_ge (tgt := 302) hx hb dL_arePlacesSo_143 (by decide) (fun c9 => absurd c9 (by decide)) (fun _ => ?_)
  refine lv_iload hx hb dL_arePlacesSo_146 (lv_at hl 2 rfl) ?_
  refine lv_if_eq (tgt := 302) hx hb dL_arePlacesSo_148 (by decide) (fun c9 => absurd c9 (by decide)) (fun _ => ?_)
  refine lv_iload hx hb dL_arePlacesSo_151 (lv_at hl 0 rfl) ?_
  refine lv_bipush (v := 8) hx hb dL_arePlacesSo_153 (by decide) ?_
  refine lv_icmp_ge (tgt := 162) hx hb dL_arePlacesSo_155 (by decide) (fun _ => ?_) (fun c9 => absurd (by decide) c9)
  refine lv_bipush (v := 8) hx hb dL_arePlacesSo_162 (by decide) ?_
  refine lv_istore (lv' := [(6, .int 8), (5, .int 9), (8, .int 0), (4, .int 1), (7, .int 0), (3, .int 0), (2, .int 0), (1, .int 0), (0, .ref (a 0))]) hx hb dL_arePlacesSo_164 hl (by decide) rfl (fun ls hl => ?_)
  refine lv_iload hx hb dL_arePlacesSo_166 (lv_at hl 1 rfl) ?_
  refine lv_bipush (v := 8) hx hb dL_arePlacesSo_168 (by decide) ?_
  refine lv_icmp_lt (tgt := 180) hx hb dL_arePlacesSo_170 (by decide) (fun c9 => absurd c9 (by decide)) (fun _ => ?_)
  refine lv_iload hx hb dL_arePlacesSo_173 (lv_at hl 1 rfl) ?_
  refine lv_bipush (v := 9) hx hb dL_arePlacesSo_175 (by decide) ?_
  refine lv_icmp_le (tgt := 184) hx hb dL_arePlacesSo_177 (by decide) (fun _ => ?_) (fun c9 => absurd (by decide) c9)
  refine lv_iconst (v := 0) hx hb dL_arePlacesSo_184 (by decide) ?_
  refine lv_istore (lv' := [(7, .int 0), (6, .int 8), (5, .int 9), (8, .int 0), (4, .int 1), (3, .int 0), (2, .int 0), (1, .int 0), (0, .ref (a 0))]) hx hb dL_arePlacesSo_185 hl (by decide) rfl (fun ls hl => ?_)
  refine lv_iload hx hb dL_arePlacesSo_187 (lv_at hl 0 rfl) ?_
  refine lv_aload_n hx hb dL_arePlacesSo_189 rfl (lv_at hl 8 rfl) ?_
  refine lv_iconst (v := 4) hx hb dL_arePlacesSo_190 (by decide) ?_
  refine lv_iload hx hb dL_arePlacesSo_191 (lv_at hl 2 rfl) ?_
  refine lv_iconst (v := 0) hx hb dL_arePlacesSo_193 (by decide) ?_
  refine MG.callSW (As := [.ref (a 0), .int 4, .int 9, .int 0]) (rest := [.int 0]) ⟨hx, hb, hml, hown, hts⟩ (g_looks4 l D cI cZ a H_28.size hfl 3 0 (by decide) (by decide)) (vx_cwSW 4 hts gL_arePlacesSo_L_looks rfl rfl rfl (by decide +kernel) ⟨Nat.le_of_ble_eq_true rfl, Nat.le_of_ble_eq_true rfl⟩) hP hK hD hS hA hEV hZ rfl hl.1 (Nat.le_of_ble_eq_true rfl) (Nat.le_of_ble_eq_true rfl) (Nat.le_of_ble_eq_true rfl) dL_arePlacesSo_194 rfl (fun r_30 u_30 H_30 locs h_30 hP hD hS hg => ?_)
  have h_30 : u_30 = z0 ∧ r_30 = (-99999) := h_30
  obtain ⟨e_30, f_30⟩ := h_30
  subst e_30
  subst f_30
  have hG : s.heap.size + 1 ≤ H_30.size := by omega
  refine lv_ldc (v := (-99999)) hx hb hown (hts (.constant RL 54 (-99999)) (by decide +kernel)) dL_arePlacesSo_197 ?_
  refine lv_icmp_eq (tgt := 206) hx hb dL_arePlacesSo_199 (by decide) (fun _ => ?_) (fun c9 => absurd (by decide) c9)
  refine lv_iconst (v := 0) hx hb dL_arePlacesSo_206 (by decide) ?_
  refine lv_icmp_ne (tgt := 214) hx hb dL_arePlacesSo_207 (by decide) (fun c9 => absurd (by decide) c9) (fun _ => ?_)
  refine lv_iconst (v := 1) hx hb dL_arePlacesSo_210 (by decide) ?_
  refine lv_goto (tgt := 215) hx hb dL_arePlacesSo_211 (by decide) ?_
  refine lv_istore (lv' := [(4, .int 1), (7, .int 0), (6, .int 8), (5, .int 9), (8, .int 0), (3, .int 0), (2, .int 0), (1, .int 0), (0, .ref (a 0))]) hx hb dL_arePlacesSo_215 hl (by decide) rfl (fun ls hl => ?_)
  refine lv_iconst (v := 0) hx hb dL_arePlacesSo_217 (by decide) ?_
  refine lv_istore (lv' := [(8, .int 0), (4, .int 1), (7, .int 0), (6, .int 8), (5, .int 9), (3, .int 0), (2, .int 0), (1, .int 0), (0, .ref (a 0))]) hx hb dL_arePlacesSo_218 hl (by decide) rfl (fun ls hl => ?_)
  refine lv_iload hx hb dL_arePlacesSo_220 (lv_at hl 2 rfl) ?_
  refine lv_if_eq (tgt := 296) hx hb dL_arePlacesSo_222 (by decide) (fun _ => ?_) (fun c9 => absurd (by decide) c9)
  refine lv_iinc (v := 10) (lv' := [(5, .int 10), (8, .int 0), (4, .int 1), (7, .int 0), (6, .int 8), (3, .int 0), (2, .int 0), (1, .int 0), (0, .ref (a 0))]) hx hb dL_arePlacesSo_296 hl (k := 4) rfl (by decide +kernel) (by decide) rfl (fun ls hl => ?_)
  refine lv_goto (tgt := 137) hx hb dL_arePlacesSo_299 (by decide) ?_
  refine lv_iload hx hb dL_arePlacesSo_137 (lv_at hl 0 rfl) ?_
  refine lv_bipush (v := 10) hx hb dL_arePlacesSo_139 (by decide) ?_
  refine lv_iload_n hx hb dL_arePlacesSo_141 rfl (lv_at hl 7 rfl) ?_
  refine lv_iadd hx hb dL_arePlacesSo_142 ?_
  refine lv_topi (fun v_31 e_31 => ?_)
  obtain rfl : v_31 = 10 := e_31.trans (by decide +kernel)
  refine lv_icmp_ge (tgt := 302) hx hb dL_arePlacesSo_143 (by decide) (fun _ => ?_) (fun c9 => absurd (by decide) c9)
  refine lv_iload hx hb dL_arePlacesSo_302 (lv_at hl 2 rfl) ?_
  refine lv_if_eq (tgt := 324) hx hb dL_arePlacesSo_304 (by decide) (fun c9 => absurd c9 (by decide)) (fun _ => ?_)
  refine lv_iload_n hx hb dL_arePlacesSo_307 rfl (lv_at hl 5 rfl) ?_
  refine lv_iload_n hx hb dL_arePlacesSo_308 rfl (lv_at hl 7 rfl) ?_
  refine lv_icmp_ne (tgt := 324) hx hb dL_arePlacesSo_309 (by decide) (fun c9 => absurd (by decide) c9) (fun _ => ?_)
  refine lv_iload_n hx hb dL_arePlacesSo_312 rfl (lv_at hl 6 rfl) ?_
  refine lv_iload_n hx hb dL_arePlacesSo_313 rfl (lv_at hl 6 rfl) ?_
  refine lv_iconst (v := 1) hx hb dL_arePlacesSo_314 (by decide) ?_
  refine lv_iadd hx hb dL_arePlacesSo_315 ?_
  refine lv_topi (fun v_32 e_32 => ?_)
  obtain rfl : v_32 = 1 := e_32.trans (by decide +kernel)
  refine lv_iand hx hb dL_arePlacesSo_316 ?_
  refine lv_topi (fun v_33 e_33 => ?_)
  obtain rfl : v_33 = 0 := e_33.trans (by decide +kernel)
  refine lv_if_ne (tgt := 324) hx hb dL_arePlacesSo_317 (by decide) (fun c9 => absurd (by decide) c9) (fun _ => ?_)
  refine lv_iconst (v := 1) hx hb dL_arePlacesSo_320 (by decide) ?_
  refine lv_goto (tgt := 325) hx hb dL_arePlacesSo_321 (by decide) ?_
  exact MG.zret hx hb hr hlocks hK hP hD hS (by omega) (Nat.le_of_ble_eq_true rfl) (Nat.le_of_ble_eq_true rfl) dL_arePlacesSo_325 rfl (by exact ⟨rfl, rfl⟩)
set_option maxHeartbeats 4000000 in
set_option maxRecDepth 100000 in
theorem g_books (l : Launch) (D : va_G) (cI cZ : ClassId) (a : Nat → Nat) (sz : Nat) (hfl : l.stackTraces = false)  : MG l yL_areBookingsSo wsL_areBookingsSo ({ frames := 11, cells := 3, slots := 18, locals := 197 }) D (ty2 cI cZ) (wX cI cZ a) [.ref (a 0), .int 0, .int 0] z0 sz (fun r u => u = z0 ∧ r = 1) 3 3 18 := by
  refine MG.of (cc := cL_areBookingsSo) (maxL := 10) (by decide) rfl (Nat.le_of_ble_eq_true rfl) ?_
  intro p e s m args below meth c A H locs ls hx hb hr hml hown hts hlocks hEV hZ hA hS hP hK hD hl
  have hl : lv_has ls 10 [(0, .ref (a 0)), (1, .int 0), (2, .int 0)] := hl
  have hG : s.heap.size + 0 ≤ H.size := hS.1
  refine lv_aload_n hx hb dL_areBookingsSo_0 rfl (lv_at hl 0 rfl) ?_
  refine MG.callS (As := [.ref (a 0)]) (rest := []) ⟨hx, hb, hml, hown, hts⟩ (g_trains l D cI cZ a H.size hfl) (va_cwS 1 hts gL_areBookingsSo_L_trains rfl rfl rfl (by decide +kernel) ⟨Nat.le_of_ble_eq_true rfl, Nat.le_of_ble_eq_true rfl⟩) hP hK hD hS hA hEV hZ rfl hl.1 (Nat.le_of_ble_eq_true rfl) (Nat.le_of_ble_eq_true rfl) (Nat.le_of_ble_eq_true rfl) dL_areBookingsSo_1 rfl (fun r_1 u_1 H_1 locs h_1 hP hD hS hg => ?_)
  have h_1 : u_1 = z0 ∧ r_1 = 0 := h_1
  obtain ⟨e_1, f_1⟩ := h_1
  subst e_1
  subst f_1
  have hG : s.heap.size + 1 ≤ H_1.size := by omega
  refine lv_istore_n (lv' := [(3, .int 0), (0, .ref (a 0)), (1, .int 0), (2, .int 0)]) hx hb dL_areBookingsSo_4 rfl hl (by decide) rfl (fun ls hl => ?_)
  refine lv_iconst (v := 0) hx hb dL_areBookingsSo_5 (by decide) ?_
  refine lv_istore (lv' := [(4, .int 0), (3, .int 0), (0, .ref (a 0)), (1, .int 0), (2, .int 0)]) hx hb dL_areBookingsSo_6 hl (by decide) rfl (fun ls hl => ?_)
  refine lv_iconst (v := 1) hx hb dL_areBookingsSo_8 (by decide) ?_
  refine lv_istore (lv' := [(5, .int 1), (4, .int 0), (3, .int 0), (0, .ref (a 0)), (1, .int 0), (2, .int 0)]) hx hb dL_areBookingsSo_9 hl (by decide) rfl (fun ls hl => ?_)
  refine lv_iconst (v := 0) hx hb dL_areBookingsSo_11 (by decide) ?_
  refine lv_istore (lv' := [(6, .int 0), (5, .int 1), (4, .int 0), (3, .int 0), (0, .ref (a 0)), (1, .int 0), (2, .int 0)]) hx hb dL_areBookingsSo_12 hl (by decide) rfl (fun ls hl => ?_)
  refine lv_aload_n hx hb dL_areBookingsSo_14 rfl (lv_at hl 4 rfl) ?_
  refine lv_iconst (v := 2) hx hb dL_areBookingsSo_15 (by decide) ?_
  refine lv_iload hx hb dL_areBookingsSo_16 (lv_at hl 0 rfl) ?_
  refine lv_iconst (v := 0) hx hb dL_areBookingsSo_18 (by decide) ?_
  refine MG.callSW (As := [.ref (a 0), .int 2, .int 0, .int 0]) (rest := []) ⟨hx, hb, hml, hown, hts⟩ (g_looks2 l D cI cZ a H_1.size hfl 0 0) (vx_cwSW 4 hts gL_areBookingsSo_L_looks rfl rfl rfl (by decide +kernel) ⟨Nat.le_of_ble_eq_true rfl, Nat.le_of_ble_eq_true rfl⟩) hP hK hD hS hA hEV hZ rfl hl.1 (Nat.le_of_ble_eq_true rfl) (Nat.le_of_ble_eq_true rfl) (Nat.le_of_ble_eq_true rfl) dL_areBookingsSo_19 rfl (fun r_2 u_2 H_2 locs h_2 hP hD hS hg => ?_)
  have h_2 : u_2 = z0 ∧ r_2 = (-99999) := h_2
  obtain ⟨e_2, f_2⟩ := h_2
  subst e_2
  subst f_2
  have hG : s.heap.size + 2 ≤ H_2.size := by omega
  refine lv_if_lt (tgt := 91) hx hb dL_areBookingsSo_22 (by decide) (fun _ => ?_) (fun c9 => absurd (by decide) c9)
  refine lv_iconst (v := 0) hx hb dL_areBookingsSo_91 (by decide) ?_
  refine lv_istore (lv' := [(6, .int 0), (5, .int 1), (4, .int 0), (3, .int 0), (0, .ref (a 0)), (1, .int 0), (2, .int 0)]) hx hb dL_areBookingsSo_92 hl (by decide) rfl (fun ls hl => ?_)
  refine lv_iload hx hb dL_areBookingsSo_94 (lv_at hl 0 rfl) ?_
  refine lv_iload_n hx hb dL_areBookingsSo_96 rfl (lv_at hl 3 rfl) ?_
  refine lv_icmp_ge (tgt := 216) hx hb dL_areBookingsSo_97 (by decide) (fun _ => ?_) (fun c9 => absurd (by decide) c9)
  refine lv_iload hx hb dL_areBookingsSo_216 (lv_at hl 1 rfl) ?_
  refine lv_if_eq (tgt := 250) hx hb dL_areBookingsSo_218 (by decide) (fun c9 => absurd c9 (by decide)) (fun _ => ?_)
  refine lv_iload hx hb dL_areBookingsSo_221 (lv_at hl 2 rfl) ?_
  refine lv_iload_n hx hb dL_areBookingsSo_223 rfl (lv_at hl 3 rfl) ?_
  refine lv_icmp_eq (tgt := 233) hx hb dL_areBookingsSo_224 (by decide) (fun _ => ?_) (fun c9 => absurd (by decide) c9)
  refine lv_aload_n hx hb dL_areBookingsSo_233 rfl (lv_at hl 4 rfl) ?_
  refine lv_iload_n hx hb dL_areBookingsSo_234 rfl (lv_at hl 3 rfl) ?_
  refine lv_iload_n hx hb dL_areBookingsSo_235 rfl (lv_at hl 5 rfl) ?_
  refine lv_iload_n hx hb dL_areBookingsSo_236 rfl (lv_at hl 6 rfl) ?_
  refine lv_iload_n hx hb dL_areBookingsSo_237 rfl (lv_at hl 6 rfl) ?_
  refine MG.callSW (As := [.ref (a 0), .int 0, .int 0, .int 0, .int 0]) (rest := []) ⟨hx, hb, hml, hown, hts⟩ (g_can l D cI cZ a H_2.size hfl 0 0 0) (vx_cwSW 5 hts gL_areBookingsSo_L_can rfl rfl rfl (by decide +kernel) ⟨Nat.le_of_ble_eq_true rfl, Nat.le_of_ble_eq_true rfl⟩) hP hK hD hS hA hEV hZ rfl hl.1 (Nat.le_of_ble_eq_true rfl) (Nat.le_of_ble_eq_true rfl) (Nat.le_of_ble_eq_true rfl) dL_areBookingsSo_238 rfl (fun r_3 u_3 H_3 locs h_3 hP hD hS hg => ?_)
  have h_3 : u_3 = z0 ∧ r_3 = (-99999) := h_3
  obtain ⟨e_3, f_3⟩ := h_3
  subst e_3
  subst f_3
  have hG : s.heap.size + 3 ≤ H_3.size := by omega
  refine lv_ldc (v := (-99999)) hx hb hown (hts (.constant RL 54 (-99999)) (by decide +kernel)) dL_areBookingsSo_241 ?_
  refine lv_icmp_ne (tgt := 250) hx hb dL_areBookingsSo_243 (by decide) (fun c9 => absurd (by decide) c9) (fun _ => ?_)
  refine lv_iconst (v := 1) hx hb dL_areBookingsSo_246 (by decide) ?_
  refine lv_goto (tgt := 251) hx hb dL_areBookingsSo_247 (by decide) ?_
  exact MG.zret hx hb hr hlocks hK hP hD hS (by omega) (Nat.le_of_ble_eq_true rfl) (Nat.le_of_ble_eq_true rfl) dL_areBookingsSo_251 rfl (by exact ⟨rfl, rfl⟩)
set_option maxHeartbeats 4000000 in
set_option maxRecDepth 100000 in
theorem g_alike (l : Launch) (D : va_G) (cI cZ : ClassId) (a b : Nat → Nat) (sz : Nat) (hfl : l.stackTraces = false)  : MG l yL_areAlike wsL_areAlike ({ frames := 10, cells := 300, slots := 1800, locals := 176 }) D (ty2 cI cZ) (w2 cI cZ a b) [.ref (a 0), .ref (b 0)] (z0, z0) sz (fun r u => u = (z0, z0) ∧ r = 1) 240 300 1800 := by
  refine MG.of (cc := cL_areAlike) (maxL := 4) (by decide) rfl (Nat.le_of_ble_eq_true rfl) ?_
  intro p e s m args below meth c A H locs ls hx hb hr hml hown hts hlocks hEV hZ hA hS hP hK hD hl
  have hl : lv_has ls 4 [(0, .ref (a 0)), (1, .ref (b 0))] := hl
  have hG : s.heap.size + 0 ≤ H.size := hS.1
  refine lv_aload_n hx hb dL_areAlike_0 rfl (lv_at hl 0 rfl) ?_
  refine MG.callV (As := []) (rest := []) ⟨hx, hb, hml, hown, hts⟩ (fA b (P := fun r => r = 0) (MI.toMG (c_X5_clock l D cI cZ a H.size z0))) (cwV 0 hts gL_areAlike_X5_clock rfl rfl rfl (by decide +kernel) ⟨Nat.le_of_ble_eq_true rfl, Nat.le_of_ble_eq_true rfl⟩) hP hK hD hS hA hEV hZ (va_recv hK hP (ci := 5) (q0 := 0) rfl rfl) rfl hl.1 (Nat.le_of_ble_eq_true rfl) (Nat.le_of_ble_eq_true rfl) (Nat.le_of_ble_eq_true rfl) dL_areAlike_1 rfl (fun r_1 u_1 H_1 locs h_1 hP hD hS hg => ?_)
  have h_1 : u_1 = (z0, z0) ∧ r_1 = 0 := h_1
  obtain ⟨e_1, f_1⟩ := h_1
  subst e_1
  subst f_1
  have hG : s.heap.size + 0 ≤ H_1.size := by omega
  refine lv_aload_n hx hb dL_areAlike_4 rfl (lv_at hl 1 rfl) ?_
  refine MG.callV (As := []) (rest := [.int 0]) ⟨hx, hb, hml, hown, hts⟩ (fB a (P := fun r => r = 0) (MI.toMG (c_X5_clock l D cI cZ b H_1.size z0))) (cwV 0 hts gL_areAlike_X5_clock rfl rfl rfl (by decide +kernel) ⟨Nat.le_of_ble_eq_true rfl, Nat.le_of_ble_eq_true rfl⟩) hP hK hD hS hA hEV hZ (va_recv hK hP (ci := 5) (q0 := 27) rfl rfl) rfl hl.1 (Nat.le_of_ble_eq_true rfl) (Nat.le_of_ble_eq_true rfl) (Nat.le_of_ble_eq_true rfl) dL_areAlike_5 rfl (fun r_2 u_2 H_2 locs h_2 hP hD hS hg => ?_)
  have h_2 : u_2 = (z0, z0) ∧ r_2 = 0 := h_2
  obtain ⟨e_2, f_2⟩ := h_2
  subst e_2
  subst f_2
  have hG : s.heap.size + 0 ≤ H_2.size := by omega
  refine lv_icmp_ne (tgt := 26) hx hb dL_areAlike_8 (by decide) (fun c9 => absurd (by decide) c9) (fun _ => ?_)
  refine lv_aload_n hx hb dL_areAlike_11 rfl (lv_at hl 0 rfl) ?_
  refine MG.callV (As := []) (rest := []) ⟨hx, hb, hml, hown, hts⟩ (fA b (P := fun r => r = 0) (MI.toMG (c_X5_earned l D cI cZ a H_2.size z0))) (cwV 0 hts gL_areAlike_X5_earned rfl rfl rfl (by decide +kernel) ⟨Nat.le_of_ble_eq_true rfl, Nat.le_of_ble_eq_true rfl⟩) hP hK hD hS hA hEV hZ (va_recv hK hP (ci := 5) (q0 := 0) rfl rfl) rfl hl.1 (Nat.le_of_ble_eq_true rfl) (Nat.le_of_ble_eq_true rfl) (Nat.le_of_ble_eq_true rfl) dL_areAlike_12 rfl (fun r_3 u_3 H_3 locs h_3 hP hD hS hg => ?_)
  have h_3 : u_3 = (z0, z0) ∧ r_3 = 0 := h_3
  obtain ⟨e_3, f_3⟩ := h_3
  subst e_3
  subst f_3
  have hG : s.heap.size + 0 ≤ H_3.size := by omega
  refine lv_aload_n hx hb dL_areAlike_15 rfl (lv_at hl 1 rfl) ?_
  refine MG.callV (As := []) (rest := [.int 0]) ⟨hx, hb, hml, hown, hts⟩ (fB a (P := fun r => r = 0) (MI.toMG (c_X5_earned l D cI cZ b H_3.size z0))) (cwV 0 hts gL_areAlike_X5_earned rfl rfl rfl (by decide +kernel) ⟨Nat.le_of_ble_eq_true rfl, Nat.le_of_ble_eq_true rfl⟩) hP hK hD hS hA hEV hZ (va_recv hK hP (ci := 5) (q0 := 27) rfl rfl) rfl hl.1 (Nat.le_of_ble_eq_true rfl) (Nat.le_of_ble_eq_true rfl) (Nat.le_of_ble_eq_true rfl) dL_areAlike_16 rfl (fun r_4 u_4 H_4 locs h_4 hP hD hS hg => ?_)
  have h_4 : u_4 = (z0, z0) ∧ r_4 = 0 := h_4
  obtain ⟨e_4, f_4⟩ := h_4
  subst e_4
  subst f_4
  have hG : s.heap.size + 0 ≤ H_4.size := by omega
  refine lv_icmp_ne (tgt := 26) hx hb dL_areAlike_19 (by decide) (fun c9 => absurd (by decide) c9) (fun _ => ?_)
  refine lv_iconst (v := 1) hx hb dL_areAlike_22 (by decide) ?_
  refine lv_goto (tgt := 27) hx hb dL_areAlike_23 (by decide) ?_
  refine lv_istore_n (lv' := [(2, .int 1), (0, .ref (a 0)), (1, .ref (b 0))]) hx hb dL_areAlike_27 rfl hl (by decide) rfl (fun ls hl => ?_)
  refine lv_iconst (v := 0) hx hb dL_areAlike_28 (by decide) ?_
  refine lv_istore_n (lv' := [(3, .int 0), (2, .int 1), (0, .ref (a 0)), (1, .ref (b 0))]) hx hb dL_areAlike_29 rfl hl (by decide) rfl (fun ls hl => ?_)
  have loop_30 : ∀ (f j : Nat) (H : Heap) (locs : List Loc) (ls : Array Slot), 30 < j + f → j ≤ 30 → s.heap.size + 8 * j ≤ H.size → va_P D vwCl ((w2 cI cZ a b) (z0, z0)) H → va_D A ((w2 cI cZ a b) (z0, z0)) → va_S A s.heap H locs → lv_has ls 4 [(0, .ref (a 0)), (1, .ref (b 0)), (2, .int 1), (3, .int (nI j))] → W p l e { frames := 10, cells := 300, slots := 1800, locals := 176 } s m args below meth c H locs (10 * j) (60 * j) (MQ below (va_Qi (fun r u => u = (z0, z0) ∧ r = 1) (PG D (ty2 cI cZ) (w2 cI cZ a b) A (s.heap.size + 240)) A) args s 300 1800 A) (F0 m 30 ls []) := by
    intro f
    induction f with
    | zero => intro j H locs ls hf hj; exact absurd hf (by omega)
    | succ f ih =>
      intro j H locs ls hf hj hG hP hD hS hl
      refine lv_iload_n hx hb dL_areAlike_30 rfl (lv_at hl 3 rfl) ?_
      refine lv_bipush (v := 30) hx hb dL_areAlike_31 (by decide) ?_
      refine lv_icmp_ge (tgt := 155) hx hb dL_areAlike_33 (by decide) (fun c_33 => ?_) (fun c_33 => ?_)
      · skip
        rw [show (30 : Int32) = nI 30 from rfl, nI_leI (by omega) (by omega)] at c_33
        refine lv_iload_n hx hb dL_areAlike_155 rfl (lv_at hl 2 rfl) ?_
        exact MG.zret hx hb hr hlocks hK hP hD hS (by omega) (show 10 * j ≤ 300 by omega) (show 60 * j ≤ 1800 by omega) dL_areAlike_156 rfl (by exact ⟨rfl, rfl⟩)
      · skip
        rw [show (30 : Int32) = nI 30 from rfl, nI_leI (by omega) (by omega)] at c_33
        have hG : s.heap.size + 8 * j + 0 ≤ H.size := hG
        refine lv_iload_n hx hb dL_areAlike_36 rfl (lv_at hl 2 rfl) ?_
        refine lv_if_eq (tgt := 155) hx hb dL_areAlike_37 (by decide) (fun c9 => absurd c9 (by decide)) (fun _ => ?_)
        refine lv_aload_n hx hb dL_areAlike_40 rfl (lv_at hl 0 rfl) ?_
        refine lv_iconst (v := 0) hx hb dL_areAlike_41 (by decide) ?_
        refine lv_iload_n hx hb dL_areAlike_42 rfl (lv_at hl 3 rfl) ?_
        refine lv_iconst (v := 0) hx hb dL_areAlike_43 (by decide) ?_
        refine MG.callSW (As := [.ref (a 0), .int 0, .int (nI j), .int 0]) (rest := []) ⟨hx, hb, hml, hown, hts⟩ (fA b (g_looks0 l D cI cZ a H.size hfl (nI j) 0)) (vx_cwSW 4 hts gL_areAlike_L_looks rfl rfl rfl (by decide +kernel) ⟨Nat.le_of_ble_eq_true rfl, Nat.le_of_ble_eq_true rfl⟩) hP hK hD hS hA hEV hZ rfl hl.1 (Nat.le_of_ble_eq_true rfl) (show 10 * j + 0 + 1 ≤ 300 by omega) (show 60 * j + 0 + 6 ≤ 1800 by omega) dL_areAlike_44 rfl (fun r_5 u_5 H_5 locs h_5 hP hD hS hg => ?_)
        have h_5 : u_5 = (z0, z0) ∧ r_5 = (-99999) := h_5
        obtain ⟨e_5, f_5⟩ := h_5
        subst e_5
        subst f_5
        have hG : s.heap.size + 8 * j + 1 ≤ H_5.size := by omega
        refine lv_aload_n hx hb dL_areAlike_47 rfl (lv_at hl 1 rfl) ?_
        refine lv_iconst (v := 0) hx hb dL_areAlike_48 (by decide) ?_
        refine lv_iload_n hx hb dL_areAlike_49 rfl (lv_at hl 3 rfl) ?_
        refine lv_iconst (v := 0) hx hb dL_areAlike_50 (by decide) ?_
        refine MG.callSW (As := [.ref (b 0), .int 0, .int (nI j), .int 0]) (rest := [.int (-99999)]) ⟨hx, hb, hml, hown, hts⟩ (fB a (g_looks0 l D cI cZ b H_5.size hfl (nI j) 0)) (vx_cwSW 4 hts gL_areAlike_L_looks rfl rfl rfl (by decide +kernel) ⟨Nat.le_of_ble_eq_true rfl, Nat.le_of_ble_eq_true rfl⟩) hP hK hD hS hA hEV hZ rfl hl.1 (Nat.le_of_ble_eq_true rfl) (show 10 * j + 1 + 1 ≤ 300 by omega) (show 60 * j + 6 + 6 ≤ 1800 by omega) dL_areAlike_51 rfl (fun r_6 u_6 H_6 locs h_6 hP hD hS hg => ?_)
        have h_6 : u_6 = (z0, z0) ∧ r_6 = (-99999) := h_6
        obtain ⟨e_6, f_6⟩ := h_6
        subst e_6
        subst f_6
        have hG : s.heap.size + 8 * j + 2 ≤ H_6.size := by omega
        refine lv_icmp_ne (tgt := 147) hx hb dL_areAlike_54 (by decide) (fun c9 => absurd (by decide) c9) (fun _ => ?_)
        refine lv_aload_n hx hb dL_areAlike_57 rfl (lv_at hl 0 rfl) ?_
        refine lv_iconst (v := 1) hx hb dL_areAlike_58 (by decide) ?_
        refine lv_iload_n hx hb dL_areAlike_59 rfl (lv_at hl 3 rfl) ?_
        refine lv_iconst (v := 0) hx hb dL_areAlike_60 (by decide) ?_
        refine MG.callSW (As := [.ref (a 0), .int 1, .int (nI j), .int 0]) (rest := []) ⟨hx, hb, hml, hown, hts⟩ (fA b (g_looks1 l D cI cZ a H_6.size hfl (nI j) 0)) (vx_cwSW 4 hts gL_areAlike_L_looks rfl rfl rfl (by decide +kernel) ⟨Nat.le_of_ble_eq_true rfl, Nat.le_of_ble_eq_true rfl⟩) hP hK hD hS hA hEV hZ rfl hl.1 (Nat.le_of_ble_eq_true rfl) (show 10 * j + 2 + 1 ≤ 300 by omega) (show 60 * j + 12 + 6 ≤ 1800 by omega) dL_areAlike_61 rfl (fun r_7 u_7 H_7 locs h_7 hP hD hS hg => ?_)
        have h_7 : u_7 = (z0, z0) ∧ r_7 = (-99999) := h_7
        obtain ⟨e_7, f_7⟩ := h_7
        subst e_7
        subst f_7
        have hG : s.heap.size + 8 * j + 3 ≤ H_7.size := by omega
        refine lv_aload_n hx hb dL_areAlike_64 rfl (lv_at hl 1 rfl) ?_
        refine lv_iconst (v := 1) hx hb dL_areAlike_65 (by decide) ?_
        refine lv_iload_n hx hb dL_areAlike_66 rfl (lv_at hl 3 rfl) ?_
        refine lv_iconst (v := 0) hx hb dL_areAlike_67 (by decide) ?_
        refine MG.callSW (As := [.ref (b 0), .int 1, .int (nI j), .int 0]) (rest := [.int (-99999)]) ⟨hx, hb, hml, hown, hts⟩ (fB a (g_looks1 l D cI cZ b H_7.size hfl (nI j) 0)) (vx_cwSW 4 hts gL_areAlike_L_looks rfl rfl rfl (by decide +kernel) ⟨Nat.le_of_ble_eq_true rfl, Nat.le_of_ble_eq_true rfl⟩) hP hK hD hS hA hEV hZ rfl hl.1 (Nat.le_of_ble_eq_true rfl) (show 10 * j + 3 + 1 ≤ 300 by omega) (show 60 * j + 18 + 6 ≤ 1800 by omega) dL_areAlike_68 rfl (fun r_8 u_8 H_8 locs h_8 hP hD hS hg => ?_)
        have h_8 : u_8 = (z0, z0) ∧ r_8 = (-99999) := h_8
        obtain ⟨e_8, f_8⟩ := h_8
        subst e_8
        subst f_8
        have hG : s.heap.size + 8 * j + 4 ≤ H_8.size := by omega
        refine lv_icmp_ne (tgt := 147) hx hb dL_areAlike_71 (by decide) (fun c9 => absurd (by decide) c9) (fun _ => ?_)
        refine lv_aload_n hx hb dL_areAlike_74 rfl (lv_at hl 0 rfl) ?_
        refine lv_iconst (v := 2) hx hb dL_areAlike_75 (by decide) ?_
        refine lv_iload_n hx hb dL_areAlike_76 rfl (lv_at hl 3 rfl) ?_
        refine lv_iconst (v := 0) hx hb dL_areAlike_77 (by decide) ?_
        refine MG.callSW (As := [.ref (a 0), .int 2, .int (nI j), .int 0]) (rest := []) ⟨hx, hb, hml, hown, hts⟩ (fA b (g_looks2 l D cI cZ a H_8.size hfl (nI j) 0)) (vx_cwSW 4 hts gL_areAlike_L_looks rfl rfl rfl (by decide +kernel) ⟨Nat.le_of_ble_eq_true rfl, Nat.le_of_ble_eq_true rfl⟩) hP hK hD hS hA hEV hZ rfl hl.1 (Nat.le_of_ble_eq_true rfl) (show 10 * j + 4 + 1 ≤ 300 by omega) (show 60 * j + 24 + 6 ≤ 1800 by omega) dL_areAlike_78 rfl (fun r_9 u_9 H_9 locs h_9 hP hD hS hg => ?_)
        have h_9 : u_9 = (z0, z0) ∧ r_9 = (-99999) := h_9
        obtain ⟨e_9, f_9⟩ := h_9
        subst e_9
        subst f_9
        have hG : s.heap.size + 8 * j + 5 ≤ H_9.size := by omega
        refine lv_aload_n hx hb dL_areAlike_81 rfl (lv_at hl 1 rfl) ?_
        refine lv_iconst (v := 2) hx hb dL_areAlike_82 (by decide) ?_
        refine lv_iload_n hx hb dL_areAlike_83 rfl (lv_at hl 3 rfl) ?_
        refine lv_iconst (v := 0) hx hb dL_areAlike_84 (by decide) ?_
        refine MG.callSW (As := [.ref (b 0), .int 2, .int (nI j), .int 0]) (rest := [.int (-99999)]) ⟨hx, hb, hml, hown, hts⟩ (fB a (g_looks2 l D cI cZ b H_9.size hfl (nI j) 0)) (vx_cwSW 4 hts gL_areAlike_L_looks rfl rfl rfl (by decide +kernel) ⟨Nat.le_of_ble_eq_true rfl, Nat.le_of_ble_eq_true rfl⟩) hP hK hD hS hA hEV hZ rfl hl.1 (Nat.le_of_ble_eq_true rfl) (show 10 * j + 5 + 1 ≤ 300 by omega) (show 60 * j + 30 + 6 ≤ 1800 by omega) dL_areAlike_85 rfl (fun r_10 u_10 H_10 locs h_10 hP hD hS hg => ?_)
        have h_10 : u_10 = (z0, z0) ∧ r_10 = (-99999) := h_10
        obtain ⟨e_10, f_10⟩ := h_10
        subst e_10
        subst f_10
        have hG : s.heap.size + 8 * j + 6 ≤ H_10.size := by omega
        refine lv_icmp_ne (tgt := 147) hx hb dL_areAlike_88 (by decide) (fun c9 => absurd (by decide) c9) (fun _ => ?_)
        refine lv_aload_n hx hb dL_areAlike_91 rfl (lv_at hl 0 rfl) ?_
        refine lv_iconst (v := 3) hx hb dL_areAlike_92 (by decide) ?_
        refine lv_iload_n hx hb dL_areAlike_93 rfl (lv_at hl 3 rfl) ?_
        refine lv_iconst (v := 0) hx hb dL_areAlike_94 (by decide) ?_
        refine MG.callSW (As := [.ref (a 0), .int 3, .int (nI j), .int 0]) (rest := []) ⟨hx, hb, hml, hown, hts⟩ (fA b (g_looks3 l D cI cZ a H_10.size hfl (nI j) 0)) (vx_cwSW 4 hts gL_areAlike_L_looks rfl rfl rfl (by decide +kernel) ⟨Nat.le_of_ble_eq_true rfl, Nat.le_of_ble_eq_true rfl⟩) hP hK hD hS hA hEV hZ rfl hl.1 (Nat.le_of_ble_eq_true rfl) (show 10 * j + 6 + 1 ≤ 300 by omega) (show 60 * j + 36 + 6 ≤ 1800 by omega) dL_areAlike_95 rfl (fun r_11 u_11 H_11 locs h_11 hP hD hS hg => ?_)
        have h_11 : u_11 = (z0, z0) ∧ r_11 = (-99999) := h_11
        obtain ⟨e_11, f_11⟩ := h_11
        subst e_11
        subst f_11
        have hG : s.heap.size + 8 * j + 7 ≤ H_11.size := by omega
        refine lv_aload_n hx hb dL_areAlike_98 rfl (lv_at hl 1 rfl) ?_
        refine lv_iconst (v := 3) hx hb dL_areAlike_99 (by decide) ?_
        refine lv_iload_n hx hb dL_areAlike_100 rfl (lv_at hl 3 rfl) ?_
        refine lv_iconst (v := 0) hx hb dL_areAlike_101 (by decide) ?_
        refine MG.callSW (As := [.ref (b 0), .int 3, .int (nI j), .int 0]) (rest := [.int (-99999)]) ⟨hx, hb, hml, hown, hts⟩ (fB a (g_looks3 l D cI cZ b H_11.size hfl (nI j) 0)) (vx_cwSW 4 hts gL_areAlike_L_looks rfl rfl rfl (by decide +kernel) ⟨Nat.le_of_ble_eq_true rfl, Nat.le_of_ble_eq_true rfl⟩) hP hK hD hS hA hEV hZ rfl hl.1 (Nat.le_of_ble_eq_true rfl) (show 10 * j + 7 + 1 ≤ 300 by omega) (show 60 * j + 42 + 6 ≤ 1800 by omega) dL_areAlike_102 rfl (fun r_12 u_12 H_12 locs h_12 hP hD hS hg => ?_)
        have h_12 : u_12 = (z0, z0) ∧ r_12 = (-99999) := h_12
        obtain ⟨e_12, f_12⟩ := h_12
        subst e_12
        subst f_12
        have hG : s.heap.size + 8 * j + 8 ≤ H_12.size := by omega
        refine lv_icmp_ne (tgt := 147) hx hb dL_areAlike_105 (by decide) (fun c9 => absurd (by decide) c9) (fun _ => ?_)
        refine lv_aload_n hx hb dL_areAlike_108 rfl (lv_at hl 0 rfl) ?_
        refine lv_iconst (v := 4) hx hb dL_areAlike_109 (by decide) ?_
        refine lv_bipush (v := 6) hx hb dL_areAlike_110 (by decide) ?_
        refine lv_iload_n hx hb dL_areAlike_112 rfl (lv_at hl 3 rfl) ?_
        refine lv_bipush (v := 8) hx hb dL_areAlike_113 (by decide) ?_
        refine lv_irem hx hb dL_areAlike_115 (by decide) ?_
        refine lv_topi (fun v_13 e_13 => ?_)
        obtain rfl : v_13 = nI (j % 8) := e_13.trans (by exact pk_rem (a := j) (d := 8) (by omega) (by omega) (by omega))
        refine lv_iadd hx hb dL_areAlike_116 ?_
        refine lv_topi (fun v_14 e_14 => ?_)
        obtain rfl : v_14 = nI (6 + j % 8) := e_14.trans (by exact nI_add 6 (j % 8))
        refine lv_iload_n hx hb dL_areAlike_117 rfl (lv_at hl 3 rfl) ?_
        refine lv_bipush (v := 8) hx hb dL_areAlike_118 (by decide) ?_
        refine lv_idiv hx hb dL_areAlike_120 (by decide) ?_
        refine lv_topi (fun v_15 e_15 => ?_)
        obtain rfl : v_15 = nI (j / 8) := e_15.trans (by exact pk_div (a := j) (d := 8) (by omega) (by omega) (by omega))
        refine MG.callSW (As := [.ref (a 0), .int 4, .int (nI (6 + j % 8)), .int (nI (j / 8))]) (rest := []) ⟨hx, hb, hml, hown, hts⟩ (fA b (g_looks4 l D cI cZ a H_12.size hfl (j % 8) (j / 8) (by omega) (by omega))) (vx_cwSW 4 hts gL_areAlike_L_looks rfl rfl rfl (by decide +kernel) ⟨Nat.le_of_ble_eq_true rfl, Nat.le_of_ble_eq_true rfl⟩) hP hK hD hS hA hEV hZ rfl hl.1 (Nat.le_of_ble_eq_true rfl) (show 10 * j + 8 + 1 ≤ 300 by omega) (show 60 * j + 48 + 6 ≤ 1800 by omega) dL_areAlike_121 rfl (fun r_16 u_16 H_16 locs h_16 hP hD hS hg => ?_)
        have h_16 : u_16 = (z0, z0) ∧ r_16 = wav (j % 8) := h_16
        obtain ⟨e_16, f_16⟩ := h_16
        subst e_16
        subst f_16
        have hG : s.heap.size + 8 * j + 8 ≤ H_16.size := by omega
        refine lv_aload_n hx hb dL_areAlike_124 rfl (lv_at hl 1 rfl) ?_
        refine lv_iconst (v := 4) hx hb dL_areAlike_125 (by decide) ?_
        refine lv_bipush (v := 6) hx hb dL_areAlike_126 (by decide) ?_
        refine lv_iload_n hx hb dL_areAlike_128 rfl (lv_at hl 3 rfl) ?_
        refine lv_bipush (v := 8) hx hb dL_areAlike_129 (by decide) ?_
        refine lv_irem hx hb dL_areAlike_131 (by decide) ?_
        refine lv_topi (fun v_17 e_17 => ?_)
        obtain rfl : v_17 = nI (j % 8) := e_17.trans (by exact pk_rem (a := j) (d := 8) (by omega) (by omega) (by omega))
        refine lv_iadd hx hb dL_areAlike_132 ?_
        refine lv_topi (fun v_18 e_18 => ?_)
        obtain rfl : v_18 = nI (6 + j % 8) := e_18.trans (by exact nI_add 6 (j % 8))
        refine lv_iload_n hx hb dL_areAlike_133 rfl (lv_at hl 3 rfl) ?_
        refine lv_bipush (v := 8) hx hb dL_areAlike_134 (by decide) ?_
        refine lv_idiv hx hb dL_areAlike_136 (by decide) ?_
        refine lv_topi (fun v_19 e_19 => ?_)
        obtain rfl : v_19 = nI (j / 8) := e_19.trans (by exact pk_div (a := j) (d := 8) (by omega) (by omega) (by omega))
        refine MG.callSW (As := [.ref (b 0), .int 4, .int (nI (6 + j % 8)), .int (nI (j / 8))]) (rest := [.int (wav (j % 8))]) ⟨hx, hb, hml, hown, hts⟩ (fB a (g_looks4 l D cI cZ b H_16.size hfl (j % 8) (j / 8) (by omega) (by omega))) (vx_cwSW 4 hts gL_areAlike_L_looks rfl rfl rfl (by decide +kernel) ⟨Nat.le_of_ble_eq_true rfl, Nat.le_of_ble_eq_true rfl⟩) hP hK hD hS hA hEV hZ rfl hl.1 (Nat.le_of_ble_eq_true rfl) (show 10 * j + 9 + 1 ≤ 300 by omega) (show 60 * j + 54 + 6 ≤ 1800 by omega) dL_areAlike_137 rfl (fun r_20 u_20 H_20 locs h_20 hP hD hS hg => ?_)
        have h_20 : u_20 = (z0, z0) ∧ r_20 = wav (j % 8) := h_20
        obtain ⟨e_20, f_20⟩ := h_20
        subst e_20
        subst f_20
        have hG : s.heap.size + 8 * j + 8 ≤ H_20.size := by omega
        refine lv_icmp_ne (tgt := 147) hx hb dL_areAlike_140 (by decide) (fun c9 => absurd rfl c9) (fun _ => ?_)
        refine lv_iconst (v := 1) hx hb dL_areAlike_143 (by decide) ?_
        refine lv_goto (tgt := 148) hx hb dL_areAlike_144 (by decide) ?_
        refine lv_istore_n (lv' := [(2, .int 1), (0, .ref (a 0)), (1, .ref (b 0)), (3, .int (nI j))]) hx hb dL_areAlike_148 rfl hl (by decide) rfl (fun ls hl => ?_)
        refine lv_iinc (v := nI (j + 1)) (lv' := [(3, .int (nI (j + 1))), (2, .int 1), (0, .ref (a 0)), (1, .ref (b 0))]) hx hb dL_areAlike_149 hl (k := 3) rfl (by exact nI_1 j) (by decide) rfl (fun ls hl => ?_)
        refine lv_goto (tgt := 30) hx hb dL_areAlike_152 (by decide) ?_
        refine W.widen (k := 10 * (j + 1)) (n := 60 * (j + 1)) (by omega) (by omega) ?_
        exact ih (j + 1) _ _ ls (by omega) (by omega) (by omega) hP hD hS (lv_sub hl [2, 3, 1, 0] rfl)
  exact loop_30 31 0 _ _ ls (by omega) (by omega) (by omega) hP hD hS (lv_sub hl [2, 3, 1, 0] rfl)
end
section
/-! the law's start: two new yards, a script that begins with zeros; its first comparison alone makes more cells than the claim has room for -/
abbrev R2 : Room := { frames := 13, cells := 400, slots := 2800, locals := 492 }
section CEL
set_option maxHeartbeats 4000000 in
set_option maxRecDepth 100000 in
theorem g_cell {S : Type} (l : Launch) (D : va_G) (tys : List (ClassId × FieldType)) (wf : S → va_W) (σ : S) (sz b9 L : Nat) (xs : Nat → Int32) (k : Nat) (hk : k < L) (hL : L < 2 ^ 31) : Met l yL_cell wsL_cell ({ frames := 0, cells := 0, slots := 0, locals := 0 }) (va_Pc [.ref b9, .int (nI k)] (fun U => PX D tys wf σ sz U ∧ va_X b9 L xs U U.heap ∧ b9 < sz ∧ ¬ va_A (wf σ) sz b9)) (va_Qi (fun r u => u = σ ∧ r = xs k) (PG D tys wf (va_A (wf σ) sz) (sz + 0)) (va_A (wf σ) sz)) 0 0 (va_A (wf σ) sz) := by
  refine Met.ofW (cc := cL_cell) (maxL := 2) (ret := some .int) (by decide) rfl ?_
  intro p e s m args below meth c s₁ B hml hv
  obtain ⟨rfl, ⟨⟨hsz, hP, hK, hD0⟩, hEV, hZ⟩, hX, hbl, hbA⟩ := hv
  have hts := atoms_spec (ws := wsL_cell) B.pre
  have hx := B.exec
  have hb := B.bytes
  have hr := B.returns
  have hlocks := B.notSynchronized
  subst hsz
  have hD := hD0.self (sz := s.heap.size)
  generalize hAe : va_A (wf σ) s.heap.size = A at hD hZ hbA ⊢
  have hS : va_S A s.heap s.heap [] := va_S.rf
  have hl := lv_entry ([.ref b9, .int (nI k)]) (n := 2) (Nat.le_of_ble_eq_true rfl)
  rw [lg_entry_eq]
  generalize (lg_sl ([.ref b9, .int (nI k)]) ++ List.replicate (2 - (lg_sl ([.ref b9, .int (nI k)])).length) Slot.unset).toArray = ls at hl ⊢
  have hl : lv_has ls 2 [(0, .ref b9), (1, .int (nI k))] := hl
  refine lv_iload_n hx hb dL_cell_0 rfl (lv_at hl 1 rfl) ?_
  refine lv_aload_n hx hb dL_cell_1 rfl (lv_at hl 0 rfl) ?_
  refine va_slen hx hb hX hbl hbA hS dL_cell_2 ?_
  refine lv_icmp_ge (tgt := 12) hx hb dL_cell_3 (by decide) (fun c9 => absurd c9 (nI_ge hk hL)) (fun _ => ?_)
  refine lv_aload_n hx hb dL_cell_6 rfl (lv_at hl 0 rfl) ?_
  refine lv_iload_n hx hb dL_cell_7 rfl (lv_at hl 1 rfl) ?_
  refine va_sld hx hb hX hbl hbA hS (vp_in_nI hk hL) dL_cell_8 ?_
  refine lv_goto (tgt := 27) hx hb dL_cell_9 (by decide) ?_
  rw [nI_clamp (Nat.lt_trans hk hL)]
  exact MG.ret hx hb hr hlocks hK hP hD hS (Nat.le_refl _) (Nat.le_refl _) (Nat.le_refl _) dL_cell_27 ⟨rfl, rfl⟩
theorem CE_callS {S : Type} {l : Launch} {wsy : List Cond} {rm : Room} {y : MethodName} {D : va_G} {tys : List (ClassId × FieldType)} {wf : S → va_W} {σ : S} {cc : ByteArray} {p : Program} {e : Env} {R : Room} {s : State} {m : MethodId} {args : Array Value} {below : List Frame} {meth : Method} {c : Code} {H : Heap} {locs : List Loc} {A : Nat → Prop} {pc nL index cells slots b9 L : Nat} {xs : Nat → Int32} {x : Int32} {ls : Array Slot} {st0 rest : List Value} {Ts : List Cond} {own : String} {bytes : ByteArray} {maxLy : Nat} {rety : Option FieldType} {Q : State → Prop} {post : Int32 → S → Prop}
    (F : CallFix p m c cc nL s args Ts own) (hM : Met l y wsy rm (va_Pc [.ref b9, .int x] (fun U => PX D tys wf σ H.size U ∧ va_X b9 L xs U U.heap ∧ b9 < H.size ∧ ¬ va_A (wf σ) H.size b9)) (va_Qi post (PG D tys wf (va_A (wf σ) H.size) (H.size + 0)) (va_A (wf σ) H.size)) 0 0 (va_A (wf σ) H.size))
    (cw : CallB R s args own index y bytes maxLy rety wsy rm 0 0 2 ∧ (Cond.static y).before args s = true) (hX : va_X b9 L xs s s.heap) (hbl : b9 < s.heap.size) (hbA : ¬ A b9)
    (hP : va_P D vwCl (wf σ) H) (hK : va_K D vwCl tys s) (hD : va_D A (wf σ)) (hS : va_S A s.heap H locs) (hA : ∀ q : Nat, s.heap.size ≤ q → A q) (hEV : EV s) (hZ : SZ A s s.heap)
    (hsize : ls.size = nL) (hW : (rest.map fun v => v.category).sum ≤ 8) (hcr : cells + 0 ≤ R.cells) (hsr : slots + 0 ≤ R.slots)
    (hdg : decode cc pc = .ok (.invokestatic index, 3)) (hst : st0 = [.int x, .ref b9] ++ rest)
    (kk : ∀ (r : Int32) (u : S) (H1 : Heap) (locs1 : List Loc), post r u → va_P D vwCl (wf u) H1 → va_D A (wf u) → va_S A s.heap H1 locs1 → H.size + 0 ≤ H1.size → W p l e R s m args below meth c H1 locs1 (cells + 0) (slots + 0) Q (F0 m (pc + 3) ls (.int r :: rest))) : W p l e R s m args below meth c H locs cells slots Q (F0 m pc ls st0) := by
  subst hst
  have hF := free_self hD hS hA
  refine va_calli (va_runS (As := [.ref b9, .int x]) (rest := rest) F hM cw ⟨fun a U g mk q => ⟨q.1, q.2.1.calling, va_X.moved (u := U) (U := U.calling g mk a) (Vm.Alike.refl U.vm) q.2.2.1, q.2.2.2⟩, fun U hU hW => ⟨rfl, PX.at hP hK hD hS hA hEV hZ hU hW, by rw [hU]; exact va_X.moved hW.alike (hX.kept (hS.2.1 b9 hbl hbA)), Nat.lt_of_lt_of_le hbl hS.1, fun z => hbA (hF b9 z)⟩⟩ rfl rfl hsize rfl (lv_room hW) hdg ⟨hcr, hsr⟩) hS (fun q _ h => hF q h) hF (fun r u t H1 locs1 ht hvm hw hB hz1 hk1 hS1 => ?_)
  obtain ⟨⟨hP1, hK1, hD1⟩, hg9⟩ := hB
  rw [ht] at hP1 hg9
  exact kk r u H1 locs1 hw hP1 (hD1.weaken (fun _ _ _ h => hF _ h)) hS1 hg9
end CEL
theorem ac_spec {t : FieldType} {args : Array Value} {s : State} (h : (Cond.arrayClass t).before args s = true) : ∃ (cA : ClassId) (kA : Class) (comp : ClassId), s.vm.findClass ("[" ++ t.toString) = some cA ∧ s.vm.classes[cA]? = some kA ∧ kA.kind = .array comp t := by
  simp only [Cond.before, Cond.holds, Cond.value] at h
  cases h1 : s.vm.findClass ("[" ++ t.toString) with
  | none => simp [h1] at h
  | some cA =>
    cases h2 : s.vm.classes[cA]? with
    | none => simp [h1, h2] at h
    | some kA =>
      cases h3 : kA.kind with
      | array comp t2 =>
        simp [h1, h2, h3] at h
        obtain rfl : t2 = t := by first | exact h | exact h.symm | exact h.1 | exact h.1.symm
        exact ⟨cA, kA, comp, rfl, h2, h3⟩
      | _ => simp [h1, h2, h3] at h
theorem exS : ∀ q ∈ EVs, Cond.exactly (.string RX5 q.1) "java/lang/String" ∈ flatC (Jvm.Cond.and given_1 narrow_1) := by decide +kernel
theorem srS : ∀ q ∈ EVs, Cond.stringRef RX5 q.1 q.2 ∈ lw_tbl := by decide +kernel
theorem ncS : ∀ q ∈ EVn, Cond.not (.castable q.1 q.2) ∈ flatC (Jvm.Cond.and given_1 narrow_1) := by decide +kernel
theorem ewS : ∀ w ∈ EVw, w ∈ lw_tbl := by decide +kernel
theorem EV_start {b : Addr} {s : State} (hts : ∀ w ∈ lw_tbl, w.before #[Value.ref b] s = true) (hgv : (Jvm.Cond.and given_1 narrow_1).before #[Value.ref b] s = true) : EV s := by
  have hs := flat_of_before _ hgv
  refine ⟨fun w hw => va_Nw.of (EV.tab (s := s) w hw) (hts w (ewS w hw)), fun q hq => ?_, fun q hq => va_Nc.of (hs _ (ncS q hq))⟩
  obtain ⟨a, c, cA, kA, q1, -⟩ := Cond.exactly_spec (args := #[Value.ref b]) (first := s) (o := none) (s := s) (idx := []) (t := .string RX5 q.1) (cls := "java/lang/String") (hs _ (exS q hq))
  exact ⟨a, vk_R.of (A := #[Value.ref b]) (hts _ (srS q hq)) q1⟩
theorem SZ_start {b : Addr} {s : State} (hts : ∀ w ∈ lw_tbl, w.before #[Value.ref b] s = true) (hgv : (Jvm.Cond.and given_1 narrow_1).before #[Value.ref b] s = true) : SZ (fun q : Nat => s.heap.size ≤ q) s s.heap := by
  have hs := flat_of_before _ hgv
  exact ⟨vx_Zqof (hts (.laysStatic Bundle.tN "UNASSIGNED_STACK" Bundle.steD) (by decide +kernel)) (hts (.initialized Bundle.tN) (by decide +kernel)) (hs (.isRef (.static Bundle.tN "UNASSIGNED_STACK" Bundle.steD)) (by decide +kernel)) (fun a h => Nat.not_le.mpr h),
    vx_Zqof (hts (.laysStatic Bundle.tN "SUPPRESSED_SENTINEL" Bundle.listD) (by decide +kernel)) (hts (.initialized Bundle.tN) (by decide +kernel)) (hs (.isRef (.static Bundle.tN "SUPPRESSED_SENTINEL" Bundle.listD)) (by decide +kernel)) (fun a h => Nat.not_le.mpr h)⟩
theorem NL_start {b : Addr} {s : State} (hts : ∀ w ∈ lw_tbl, w.before #[Value.ref b] s = true) : NL s :=
  ⟨va_Nw.of rfl (hts _ (by decide +kernel)), va_Nw.of rfl (hts _ (by decide +kernel)), va_Nw.of rfl (hts _ (by decide +kernel)), va_Nw.of rfl (hts _ (by decide +kernel)), va_Nw.of rfl (hts _ (by decide +kernel))⟩
set_option maxHeartbeats 4000000 in
set_option maxRecDepth 100000 in
theorem law_room {p : Program} {e : Env} {s : State} {m : MethodId} {below : List Frame} {meth : Method} {c : Code} (l : Launch) (hflags : l.flags = flags0) {b9 L : Nat} {xs : Nat → Int32} (hL : L ≤ 260) (h4 : 4 ≤ L) (h0 : ∀ j, j < 4 → xs j = 0)
    (hx : p.tables.exec = Jvm.exec) (hb : c.code = code) (hml : c.maxLocals = 6) (hown : s.vm.findClass RL = some m.cls) (hts0 : ∀ w ∈ lw_tbl, w.before #[Value.ref b9] s = true) (hX : va_X b9 L xs s s.heap) (hbl : b9 < s.heap.size) (hgv : (Jvm.Cond.and given_1 narrow_1).before #[Value.ref b9] s = true) :
    W p l e R2 s m #[Value.ref b9] below meth c s.heap [] 0 0 (fun t => s.heap.size + 184 ≤ t.heap.size) (entryFrame m ([Value.ref b9] : List Value).toArray 6) := by
  have hts : ∀ w ∈ wsL_law, w.before #[Value.ref b9] s = true := fun w h => hts0 w (wsL_law_in w h)
  have hA : ∀ q : Nat, s.heap.size ≤ q → (fun q : Nat => s.heap.size ≤ q) q := fun _ h => h
  have hbA : ¬ (fun q : Nat => s.heap.size ≤ q) b9 := Nat.not_le.mpr hbl
  have hfl : l.stackTraces = false := by unfold Launch.stackTraces; rw [hflags]; decide +kernel
  have hEV := EV_start hts0 hgv
  have hZ := SZ_start hts0 hgv
  have hNL := NL_start hts0
  obtain ⟨c0, iS0, hKn0⟩ := u_known (C := RX0) (T := TX0) (N := 6) (n := 6) hts0 inX0 (hts0 (.instantiable RX0 6) (by decide +kernel))
  obtain ⟨c1, iS1, hKn1⟩ := u_known (C := RX1) (T := TX1) (N := 3) (n := 3) hts0 inX1 (hts0 (.instantiable RX1 3) (by decide +kernel))
  obtain ⟨c2, iS2, hKn2⟩ := u_known (C := RX2) (T := TX2) (N := 1) (n := 1) hts0 inX2 (hts0 (.instantiable RX2 1) (by decide +kernel))
  obtain ⟨c3, iS3, hKn3⟩ := u_known (C := RX3) (T := TX3) (N := 5) (n := 5) hts0 inX3 (hts0 (.instantiable RX3 5) (by decide +kernel))
  obtain ⟨c4, iS4, hKn4⟩ := u_known (C := RX4) (T := TX4) (N := 4) (n := 4) hts0 inX4 (hts0 (.instantiable RX4 4) (by decide +kernel))
  obtain ⟨c5, iS5, hKn5⟩ := u_known (C := RX5) (T := TX5) (N := 8) (n := 8) hts0 inX5 (hts0 (.instantiable RX5 8) (by decide +kernel))
  obtain ⟨D, hKc⟩ : ∃ (D : va_G), ∀ (k : Nat) (q : vw_C), vwCl[k]? = some q → u_Kn s q.1 q.2.1 q.2.2 (D.1 k) (D.2 k) := by
    refine ⟨(fun k => if k = 0 then c0 else if k = 1 then c1 else if k = 2 then c2 else if k = 3 then c3 else if k = 4 then c4 else c5, fun k => if k = 0 then iS0 else if k = 1 then iS1 else if k = 2 then iS2 else if k = 3 then iS3 else if k = 4 then iS4 else iS5), ?_⟩
    intro k q hq
    match k, hq with
    | 0, hq => cases hq; exact hKn0
    | 1, hq => cases hq; exact hKn1
    | 2, hq => cases hq; exact hKn2
    | 3, hq => cases hq; exact hKn3
    | 4, hq => cases hq; exact hKn4
    | 5, hq => cases hq; exact hKn5
    | k + 6, hq => simp [vwCl] at hq
  obtain ⟨cI, kI, pI, i1, i2, i3⟩ := ac_spec (hts0 (.arrayClass .int) (by decide +kernel))
  obtain ⟨cZ, kZ, pZ, z1, z2, z3⟩ := ac_spec (hts0 (.arrayClass .boolean) (by decide +kernel))
  have hK : va_K D vwCl (ty2 cI cZ) s := by
    refine ⟨hKc, fun k q hq => ?_⟩
    match k, hq with
    | 0, hq => cases hq; exact ⟨fun n z => ⟨fun k h => (by cases h), kI, i2, pI, i3⟩, i1⟩
    | 1, hq => cases hq; exact ⟨fun n z => ⟨fun k h => (by cases h), kZ, z2, pZ, z3⟩, z1⟩
    | k + 2, hq => simp at hq
  have hS : va_S (fun q : Nat => s.heap.size ≤ q) s.heap s.heap [] := va_S.rf
  have hP : va_P D vwCl [] s.heap := fun k q h => by simp at h
  have hD : va_D (fun q : Nat => s.heap.size ≤ q) [] := ⟨fun i j p q h => by simp at h, fun k q h => by simp at h⟩
  have hl := lv_entry ([.ref b9]) (n := 6) (Nat.le_of_ble_eq_true rfl)
  rw [lg_entry_eq]
  generalize (lg_sl ([.ref b9]) ++ List.replicate (6 - (lg_sl ([.ref b9])).length) Slot.unset).toArray = ls at hl ⊢
  have hl : lv_has ls 6 [(0, .ref b9)] := hl
  refine va_new (ci := 5) (fs := [.null, .null, .null, .null, .null, .null, .int 0, .int 0]) (C := RX5) (T := TX5) (N := 8) hx hb hts0 inX5 tyX5 tyX5_ok hown (hts0 (.classLink RL 9 RX5) (by decide +kernel)) (hts0 (.instantiable RX5 8) (by decide +kernel)) (hts0 (.initialized RX5) (by decide +kernel)) hK hP hD hS hA rfl (fun j hj => by rcases (show j = 0 ∨ j = 1 ∨ j = 2 ∨ j = 3 ∨ j = 4 ∨ j = 5 ∨ j = 6 ∨ j = 7 by omega) with rfl | rfl | rfl | rfl | rfl | rfl | rfl | rfl <;> rfl) (Nat.le_of_ble_eq_true rfl) (Nat.le_of_ble_eq_true rfl) dL_law_0 (fun q5 H hP hD hS => ?_)
  refine W.widen (k := 1) (n := 8) (by omega) (by omega) ?_
  refine lv_dup hx hb dL_law_3 rfl ?_
  have hP : va_P D vwCl [(q5, .inr (5, [.null, .null, .null, .null, .null, .null, .int 0, .int 0]))] H := hP
  have hD : va_D (fun q : Nat => s.heap.size ≤ q) [(q5, .inr (5, [.null, .null, .null, .null, .null, .null, .int 0, .int 0]))] := hD
  have hFc := va_free (wc := [(q5, .inr (5, [.null, .null, .null, .null, .null, .null, .int 0, .int 0]))]) hD hS hA [0] rfl
  refine va_callv (va_runI (As := []) (rest := [.ref q5]) ⟨hx, hb, hml, hown, hts⟩ (k_X5 l D cI cZ q5 H.size) (cwI 0 hts gL_law_X5_init rfl rfl rfl (hts0 (.initialized RX5) (by decide +kernel)) (hts0 (.methodLink RL 116 yX5_init) (by decide +kernel)) (hts0 (.instanceMethod yX5_init) (by decide +kernel)) rfl (by decide +kernel) ⟨Nat.le_of_ble_eq_true rfl, Nat.le_of_ble_eq_true rfl⟩) ⟨fun a U g mk q => ⟨q.1, q.2.calling⟩, fun U hU hW => ⟨rfl, PC.at hP hK hD hNL hU hW⟩⟩ rfl rfl hl.1 rfl (lv_room (Nat.le_of_ble_eq_true rfl)) dL_law_4 ⟨Nat.le_of_ble_eq_true rfl, Nat.le_of_ble_eq_true rfl⟩) hS (fun q _ h => hFc q h) hFc (fun u t H1 locs ht hvm hw hB hz1 hk1 hS => ?_)
  obtain ⟨a, rfl⟩ : ∃ z, z = u := ⟨_, rfl⟩
  obtain ⟨hP1, hK1, hD1⟩ := hB
  rw [ht] at hP1
  obtain ⟨hPn, hDn⟩ := va_join (wr := []) (w1 := wX cI cZ a z0) hP hD [0] [] rfl rfl (by decide) (by decide) hk1 hFc hP1 hD1
  clear hP hD
  generalize H1 = H at hPn hS ⊢
  have hw : a 0 = q5 := hw
  subst hw
  have hP : va_P D vwCl (wX cI cZ a z0) H := hPn
  have hD : va_D (fun q : Nat => s.heap.size ≤ q) (wX cI cZ a z0) := hDn
  refine W.widen (k := 27) (n := 302) (by omega) (by omega) ?_
  refine lv_astore_n (lv' := [(1, .ref (a 0)), (0, .ref b9)]) hx hb dL_law_7 rfl hl (by decide) rfl (fun ls hl => ?_)
  refine va_new (ci := 5) (fs := [.null, .null, .null, .null, .null, .null, .int 0, .int 0]) (C := RX5) (T := TX5) (N := 8) hx hb hts0 inX5 tyX5 tyX5_ok hown (hts0 (.classLink RL 9 RX5) (by decide +kernel)) (hts0 (.instantiable RX5 8) (by decide +kernel)) (hts0 (.initialized RX5) (by decide +kernel)) hK hP hD hS hA rfl (fun j hj => by rcases (show j = 0 ∨ j = 1 ∨ j = 2 ∨ j = 3 ∨ j = 4 ∨ j = 5 ∨ j = 6 ∨ j = 7 by omega) with rfl | rfl | rfl | rfl | rfl | rfl | rfl | rfl <;> rfl) (Nat.le_of_ble_eq_true rfl) (Nat.le_of_ble_eq_true rfl) dL_law_8 (fun q6 H hP hD hS => ?_)
  refine W.widen (k := 28) (n := 310) (by omega) (by omega) ?_
  refine lv_dup hx hb dL_law_11 rfl ?_
  have hP : va_P D vwCl (wX cI cZ a z0 ++ [(q6, .inr (5, [.null, .null, .null, .null, .null, .null, .int 0, .int 0]))]) H := hP
  have hD : va_D (fun q : Nat => s.heap.size ≤ q) (wX cI cZ a z0 ++ [(q6, .inr (5, [.null, .null, .null, .null, .null, .null, .int 0, .int 0]))]) := hD
  have hPc : va_P D vwCl [(q6, .inr (5, [.null, .null, .null, .null, .null, .null, .int 0, .int 0]))] H := hP.sub (ws' := [(q6, .inr (5, [.null, .null, .null, .null, .null, .null, .int 0, .int 0]))]) [27] rfl
  have hDc : va_D (fun q : Nat => s.heap.size ≤ q) [(q6, .inr (5, [.null, .null, .null, .null, .null, .null, .int 0, .int 0]))] := hD.sub (ws' := [(q6, .inr (5, [.null, .null, .null, .null, .null, .null, .int 0, .int 0]))]) [27] (by decide) rfl
  have hFc := va_free (wc := [(q6, .inr (5, [.null, .null, .null, .null, .null, .null, .int 0, .int 0]))]) hD hS hA [27] rfl
  refine va_callv (va_runI (As := []) (rest := [.ref q6]) ⟨hx, hb, hml, hown, hts⟩ (k_X5 l D cI cZ q6 H.size) (cwI 0 hts gL_law_X5_init rfl rfl rfl (hts0 (.initialized RX5) (by decide +kernel)) (hts0 (.methodLink RL 116 yX5_init) (by decide +kernel)) (hts0 (.instanceMethod yX5_init) (by decide +kernel)) rfl (by decide +kernel) ⟨Nat.le_of_ble_eq_true rfl, Nat.le_of_ble_eq_true rfl⟩) ⟨fun a U g mk q => ⟨q.1, q.2.calling⟩, fun U hU hW => ⟨rfl, PC.at hPc hK hDc hNL hU hW⟩⟩ rfl rfl hl.1 rfl (lv_room (Nat.le_of_ble_eq_true rfl)) dL_law_12 ⟨Nat.le_of_ble_eq_true rfl, Nat.le_of_ble_eq_true rfl⟩) hS (fun q _ h => hFc q h) hFc (fun u t H1 locs ht hvm hw hB hz1 hk1 hS => ?_)
  obtain ⟨b, rfl⟩ : ∃ z, z = u := ⟨_, rfl⟩
  obtain ⟨hP1, hK1, hD1⟩ := hB
  rw [ht] at hP1
  obtain ⟨hPn, hDn⟩ := va_join (wr := wX cI cZ a z0) (w1 := wX cI cZ b z0) hP hD [27] [0, 1, 2, 3, 4, 5, 6, 7, 8, 9, 10, 11, 12, 13, 14, 15, 16, 17, 18, 19, 20, 21, 22, 23, 24, 25, 26] rfl rfl (by decide) (by decide) hk1 hFc hP1 hD1
  clear hP hD hPc hDc
  generalize H1 = H at hPn hS ⊢
  have hw : b 0 = q6 := hw
  subst hw
  have hP : va_P D vwCl (w2 cI cZ a b (z0, z0)) H := hPn
  have hD : va_D (fun q : Nat => s.heap.size ≤ q) (w2 cI cZ a b (z0, z0)) := hDn
  refine W.widen (k := 54) (n := 604) (by omega) (by omega) ?_
  refine lv_astore_n (lv' := [(2, .ref (b 0)), (1, .ref (a 0)), (0, .ref b9)]) hx hb dL_law_15 rfl hl (by decide) rfl (fun ls hl => ?_)
  have hG : s.heap.size + 0 ≤ H.size := hS.1
  refine lv_iconst (v := 0) hx hb dL_law_16 (by decide) ?_
  refine lv_istore_n (lv' := [(3, .int 0), (2, .ref (b 0)), (1, .ref (a 0)), (0, .ref b9)]) hx hb dL_law_17 rfl hl (by decide) rfl (fun ls hl => ?_)
  refine lv_iload_n hx hb dL_law_18 rfl (lv_at hl 0 rfl) ?_
  refine lv_bipush (v := 110) hx hb dL_law_19 (by decide) ?_
  refine lv_icmp_ge (tgt := 201) hx hb dL_law_21 (by decide) (fun c9 => absurd c9 (by decide)) (fun _ => ?_)
  refine lv_aload_n hx hb dL_law_24 rfl (lv_at hl 3 rfl) ?_
  refine lv_iload_n hx hb dL_law_25 rfl (lv_at hl 0 rfl) ?_
  refine lv_bipush (v := 61) hx hb dL_law_26 (by decide) ?_
  refine lv_irem hx hb dL_law_28 (by decide) ?_
  refine lv_topi (fun v_1 e_1 => ?_)
  obtain rfl : v_1 = 0 := e_1.trans (by decide +kernel)
  refine CE_callS (x := 0) (rest := []) ⟨hx, hb, hml, hown, hts⟩ (g_cell l D (ty2 cI cZ) (w2 cI cZ a b) (z0, z0) H.size b9 L xs 0 (by omega) (by omega)) (va_cwS 2 hts gL_law_L_cell rfl rfl rfl (by decide +kernel) ⟨Nat.le_of_ble_eq_true rfl, Nat.le_of_ble_eq_true rfl⟩) hX hbl hbA hP hK hD hS hA hEV hZ hl.1 (Nat.le_of_ble_eq_true rfl) (Nat.le_of_ble_eq_true rfl) (Nat.le_of_ble_eq_true rfl) dL_law_29 rfl (fun r_2 u_2 H_2 locs h_2 hP hD hS hg => ?_)
  have h_2 : u_2 = (z0, z0) ∧ r_2 = 0 := ⟨h_2.1, h_2.2.trans (h0 0 (by decide))⟩
  obtain ⟨e_2, f_2⟩ := h_2
  subst e_2
  subst f_2
  have hG : s.heap.size + 0 ≤ H_2.size := by omega
  refine lv_sipush (v := 1151) hx hb dL_law_32 (by decide) ?_
  refine lv_iload_n hx hb dL_law_35 rfl (lv_at hl 0 rfl) ?_
  refine lv_bipush (v := 61) hx hb dL_law_36 (by decide) ?_
  refine lv_idiv hx hb dL_law_38 (by decide) ?_
  refine lv_topi (fun v_3 e_3 => ?_)
  obtain rfl : v_3 = 0 := e_3.trans (by decide +kernel)
  refine lv_imul hx hb dL_law_39 ?_
  refine lv_topi (fun v_4 e_4 => ?_)
  obtain rfl : v_4 = 0 := e_4.trans (by decide +kernel)
  refine lv_iadd hx hb dL_law_40 ?_
  refine lv_topi (fun v_5 e_5 => ?_)
  obtain rfl : v_5 = 0 := e_5.trans (by decide +kernel)
  refine lv_istore (lv' := [(4, .int 0), (3, .int 0), (2, .ref (b 0)), (1, .ref (a 0)), (0, .ref b9)]) hx hb dL_law_41 hl (by decide) rfl (fun ls hl => ?_)
  refine lv_aload_n hx hb dL_law_43 rfl (lv_at hl 3 rfl) ?_
  refine lv_iload hx hb dL_law_44 (lv_at hl 0 rfl) ?_
  refine MG.callS (As := [.ref (a 0), .int 0]) (rest := []) ⟨hx, hb, hml, hown, hts⟩ (fA b (g_act l D cI cZ a H_2.size hfl)) (va_cwS 2 hts gL_law_L_act rfl rfl rfl (by decide +kernel) ⟨Nat.le_of_ble_eq_true rfl, Nat.le_of_ble_eq_true rfl⟩) hP hK hD hS hA hEV hZ rfl hl.1 (Nat.le_of_ble_eq_true rfl) (Nat.le_of_ble_eq_true rfl) (Nat.le_of_ble_eq_true rfl) dL_law_46 rfl (fun r_6 u_6 H_6 locs h_6 hP hD hS hg => ?_)
  have h_6 : u_6 = (z0, z0) ∧ r_6 = (-99999) := h_6
  obtain ⟨e_6, f_6⟩ := h_6
  subst e_6
  subst f_6
  have hG : s.heap.size + 1 ≤ H_6.size := by omega
  refine lv_istore (lv' := [(5, .int (-99999)), (4, .int 0), (3, .int 0), (2, .ref (b 0)), (1, .ref (a 0)), (0, .ref b9)]) hx hb dL_law_49 hl (by decide) rfl (fun ls hl => ?_)
  refine lv_iload hx hb dL_law_51 (lv_at hl 0 rfl) ?_
  refine lv_ldc (v := (-99999)) hx hb hown (hts (.constant RL 54 (-99999)) (by decide +kernel)) dL_law_53 ?_
  refine lv_icmp_eq (tgt := 69) hx hb dL_law_55 (by decide) (fun _ => ?_) (fun c9 => absurd (by decide) c9)
  refine lv_iload_n hx hb dL_law_69 rfl (lv_at hl 2 rfl) ?_
  refine lv_bipush (v := 6) hx hb dL_law_70 (by decide) ?_
  refine lv_irem hx hb dL_law_72 (by decide) ?_
  refine lv_topi (fun v_7 e_7 => ?_)
  obtain rfl : v_7 = 0 := e_7.trans (by decide +kernel)
  refine lv_iconst (v := 3) hx hb dL_law_73 (by decide) ?_
  refine lv_icmp_ne (tgt := 85) hx hb dL_law_74 (by decide) (fun _ => ?_) (fun c9 => absurd c9 (by decide))
  refine lv_iload_n hx hb dL_law_85 rfl (lv_at hl 2 rfl) ?_
  refine lv_iconst (v := 3) hx hb dL_law_86 (by decide) ?_
  refine lv_irem hx hb dL_law_87 (by decide) ?_
  refine lv_topi (fun v_8 e_8 => ?_)
  obtain rfl : v_8 = 0 := e_8.trans (by decide +kernel)
  refine lv_iconst (v := 1) hx hb dL_law_88 (by decide) ?_
  refine lv_icmp_ne (tgt := 99) hx hb dL_law_89 (by decide) (fun _ => ?_) (fun c9 => absurd c9 (by decide))
  refine lv_iload_n hx hb dL_law_99 rfl (lv_at hl 2 rfl) ?_
  refine lv_iconst (v := 5) hx hb dL_law_100 (by decide) ?_
  refine lv_irem hx hb dL_law_101 (by decide) ?_
  refine lv_topi (fun v_9 e_9 => ?_)
  obtain rfl : v_9 = 0 := e_9.trans (by decide +kernel)
  refine lv_iconst (v := 2) hx hb dL_law_102 (by decide) ?_
  refine lv_icmp_ne (tgt := 134) hx hb dL_law_103 (by decide) (fun _ => ?_) (fun c9 => absurd c9 (by decide))
  refine lv_iload_n hx hb dL_law_134 rfl (lv_at hl 2 rfl) ?_
  refine lv_bipush (v := 8) hx hb dL_law_135 (by decide) ?_
  refine lv_irem hx hb dL_law_137 (by decide) ?_
  refine lv_topi (fun v_10 e_10 => ?_)
  obtain rfl : v_10 = 0 := e_10.trans (by decide +kernel)
  refine lv_bipush (v := 6) hx hb dL_law_138 (by decide) ?_
  refine lv_icmp_ne (tgt := 168) hx hb dL_law_140 (by decide) (fun _ => ?_) (fun c9 => absurd c9 (by decide))
  refine lv_iload_n hx hb dL_law_168 rfl (lv_at hl 2 rfl) ?_
  refine lv_bipush (v := 7) hx hb dL_law_169 (by decide) ?_
  refine lv_irem hx hb dL_law_171 (by decide) ?_
  refine lv_topi (fun v_11 e_11 => ?_)
  obtain rfl : v_11 = 0 := e_11.trans (by decide +kernel)
  refine lv_iconst (v := 4) hx hb dL_law_172 (by decide) ?_
  refine lv_icmp_ne (tgt := 195) hx hb dL_law_173 (by decide) (fun _ => ?_) (fun c9 => absurd c9 (by decide))
  refine lv_iinc (v := 1) (lv' := [(3, .int 1), (5, .int (-99999)), (4, .int 0), (2, .ref (b 0)), (1, .ref (a 0)), (0, .ref b9)]) hx hb dL_law_195 hl (k := 2) rfl (by decide +kernel) (by decide) rfl (fun ls hl => ?_)
  refine lv_goto (tgt := 18) hx hb dL_law_198 (by decide) ?_
  refine lv_iload_n hx hb dL_law_18 rfl (lv_at hl 0 rfl) ?_
  refine lv_bipush (v := 110) hx hb dL_law_19 (by decide) ?_
  refine lv_icmp_ge (tgt := 201) hx hb dL_law_21 (by decide) (fun c9 => absurd c9 (by decide)) (fun _ => ?_)
  refine lv_aload_n hx hb dL_law_24 rfl (lv_at hl 5 rfl) ?_
  refine lv_iload_n hx hb dL_law_25 rfl (lv_at hl 0 rfl) ?_
  refine lv_bipush (v := 61) hx hb dL_law_26 (by decide) ?_
  refine lv_irem hx hb dL_law_28 (by decide) ?_
  refine lv_topi (fun v_12 e_12 => ?_)
  obtain rfl : v_12 = 1 := e_12.trans (by decide +kernel)
  refine CE_callS (x := 1) (rest := []) ⟨hx, hb, hml, hown, hts⟩ (g_cell l D (ty2 cI cZ) (w2 cI cZ a b) (z0, z0) H_6.size b9 L xs 1 (by omega) (by omega)) (va_cwS 2 hts gL_law_L_cell rfl rfl rfl (by decide +kernel) ⟨Nat.le_of_ble_eq_true rfl, Nat.le_of_ble_eq_true rfl⟩) hX hbl hbA hP hK hD hS hA hEV hZ hl.1 (Nat.le_of_ble_eq_true rfl) (Nat.le_of_ble_eq_true rfl) (Nat.le_of_ble_eq_true rfl) dL_law_29 rfl (fun r_13 u_13 H_13 locs h_13 hP hD hS hg => ?_)
  have h_13 : u_13 = (z0, z0) ∧ r_13 = 0 := ⟨h_13.1, h_13.2.trans (h0 1 (by decide))⟩
  obtain ⟨e_13, f_13⟩ := h_13
  subst e_13
  subst f_13
  have hG : s.heap.size + 1 ≤ H_13.size := by omega
  refine lv_sipush (v := 1151) hx hb dL_law_32 (by decide) ?_
  refine lv_iload_n hx hb dL_law_35 rfl (lv_at hl 0 rfl) ?_
  refine lv_bipush (v := 61) hx hb dL_law_36 (by decide) ?_
  refine lv_idiv hx hb dL_law_38 (by decide) ?_
  refine lv_topi (fun v_14 e_14 => ?_)
  obtain rfl : v_14 = 0 := e_14.trans (by decide +kernel)
  refine lv_imul hx hb dL_law_39 ?_
  refine lv_topi (fun v_15 e_15 => ?_)
  obtain rfl : v_15 = 0 := e_15.trans (by decide +kernel)
  refine lv_iadd hx hb dL_law_40 ?_
  refine lv_topi (fun v_16 e_16 => ?_)
  obtain rfl : v_16 = 0 := e_16.trans (by decide +kernel)
  refine lv_istore (lv' := [(4, .int 0), (3, .int 1), (5, .int (-99999)), (2, .ref (b 0)), (1, .ref (a 0)), (0, .ref b9)]) hx hb dL_law_41 hl (by decide) rfl (fun ls hl => ?_)
  refine lv_aload_n hx hb dL_law_43 rfl (lv_at hl 4 rfl) ?_
  refine lv_iload hx hb dL_law_44 (lv_at hl 0 rfl) ?_
  refine MG.callS (As := [.ref (a 0), .int 0]) (rest := []) ⟨hx, hb, hml, hown, hts⟩ (fA b (g_act l D cI cZ a H_13.size hfl)) (va_cwS 2 hts gL_law_L_act rfl rfl rfl (by decide +kernel) ⟨Nat.le_of_ble_eq_true rfl, Nat.le_of_ble_eq_true rfl⟩) hP hK hD hS hA hEV hZ rfl hl.1 (Nat.le_of_ble_eq_true rfl) (Nat.le_of_ble_eq_true rfl) (Nat.le_of_ble_eq_true rfl) dL_law_46 rfl (fun r_17 u_17 H_17 locs h_17 hP hD hS hg => ?_)
  have h_17 : u_17 = (z0, z0) ∧ r_17 = (-99999) := h_17
  obtain ⟨e_17, f_17⟩ := h_17
  subst e_17
  subst f_17
  have hG : s.heap.size + 2 ≤ H_17.size := by omega
  refine lv_istore (lv' := [(5, .int (-99999)), (4, .int 0), (3, .int 1), (2, .ref (b 0)), (1, .ref (a 0)), (0, .ref b9)]) hx hb dL_law_49 hl (by decide) rfl (fun ls hl => ?_)
  refine lv_iload hx hb dL_law_51 (lv_at hl 0 rfl) ?_
  refine lv_ldc (v := (-99999)) hx hb hown (hts (.constant RL 54 (-99999)) (by decide +kernel)) dL_law_53 ?_
  refine lv_icmp_eq (tgt := 69) hx hb dL_law_55 (by decide) (fun _ => ?_) (fun c9 => absurd (by decide) c9)
  refine lv_iload_n hx hb dL_law_69 rfl (lv_at hl 2 rfl) ?_
  refine lv_bipush (v := 6) hx hb dL_law_70 (by decide) ?_
  refine lv_irem hx hb dL_law_72 (by decide) ?_
  refine lv_topi (fun v_18 e_18 => ?_)
  obtain rfl : v_18 = 1 := e_18.trans (by decide +kernel)
  refine lv_iconst (v := 3) hx hb dL_law_73 (by decide) ?_
  refine lv_icmp_ne (tgt := 85) hx hb dL_law_74 (by decide) (fun _ => ?_) (fun c9 => absurd c9 (by decide))
  refine lv_iload_n hx hb dL_law_85 rfl (lv_at hl 2 rfl) ?_
  refine lv_iconst (v := 3) hx hb dL_law_86 (by decide) ?_
  refine lv_irem hx hb dL_law_87 (by decide) ?_
  refine lv_topi (fun v_19 e_19 => ?_)
  obtain rfl : v_19 = 1 := e_19.trans (by decide +kernel)
  refine lv_iconst (v := 1) hx hb dL_law_88 (by decide) ?_
  refine lv_icmp_ne (tgt := 99) hx hb dL_law_89 (by decide) (fun c9 => absurd (by decide) c9) (fun _ => ?_)
  refine lv_aload_n hx hb dL_law_92 rfl (lv_at hl 4 rfl) ?_
  refine MG.callS (As := [.ref (a 0)]) (rest := []) ⟨hx, hb, hml, hown, hts⟩ (fA b (g_places l D cI cZ a H_17.size hfl)) (va_cwS 1 hts gL_law_L_arePlacesSo rfl rfl rfl (by decide +kernel) ⟨Nat.le_of_ble_eq_true rfl, Nat.le_of_ble_eq_true rfl⟩) hP hK hD hS hA hEV hZ rfl hl.1 (Nat.le_of_ble_eq_true rfl) (Nat.le_of_ble_eq_true rfl) (Nat.le_of_ble_eq_true rfl) dL_law_93 rfl (fun r_20 u_20 H_20 locs h_20 hP hD hS hg => ?_)
  have h_20 : u_20 = (z0, z0) ∧ r_20 = 1 := h_20
  obtain ⟨e_20, f_20⟩ := h_20
  subst e_20
  subst f_20
  have hG : s.heap.size + 3 ≤ H_20.size := by omega
  refine lv_if_eq (tgt := 132) hx hb dL_law_96 (by decide) (fun c9 => absurd c9 (by decide)) (fun _ => ?_)
  refine lv_iload_n hx hb dL_law_99 rfl (lv_at hl 2 rfl) ?_
  refine lv_iconst (v := 5) hx hb dL_law_100 (by decide) ?_
  refine lv_irem hx hb dL_law_101 (by decide) ?_
  refine lv_topi (fun v_21 e_21 => ?_)
  obtain rfl : v_21 = 1 := e_21.trans (by decide +kernel)
  refine lv_iconst (v := 2) hx hb dL_law_102 (by decide) ?_
  refine lv_icmp_ne (tgt := 134) hx hb dL_law_103 (by decide) (fun _ => ?_) (fun c9 => absurd c9 (by decide))
  refine lv_iload_n hx hb dL_law_134 rfl (lv_at hl 2 rfl) ?_
  refine lv_bipush (v := 8) hx hb dL_law_135 (by decide) ?_
  refine lv_irem hx hb dL_law_137 (by decide) ?_
  refine lv_topi (fun v_22 e_22 => ?_)
  obtain rfl : v_22 = 1 := e_22.trans (by decide +kernel)
  refine lv_bipush (v := 6) hx hb dL_law_138 (by decide) ?_
  refine lv_icmp_ne (tgt := 168) hx hb dL_law_140 (by decide) (fun _ => ?_) (fun c9 => absurd c9 (by decide))
  refine lv_iload_n hx hb dL_law_168 rfl (lv_at hl 2 rfl) ?_
  refine lv_bipush (v := 7) hx hb dL_law_169 (by decide) ?_
  refine lv_irem hx hb dL_law_171 (by decide) ?_
  refine lv_topi (fun v_23 e_23 => ?_)
  obtain rfl : v_23 = 1 := e_23.trans (by decide +kernel)
  refine lv_iconst (v := 4) hx hb dL_law_172 (by decide) ?_
  refine lv_icmp_ne (tgt := 195) hx hb dL_law_173 (by decide) (fun _ => ?_) (fun c9 => absurd c9 (by decide))
  refine lv_iinc (v := 2) (lv' := [(3, .int 2), (5, .int (-99999)), (4, .int 0), (2, .ref (b 0)), (1, .ref (a 0)), (0, .ref b9)]) hx hb dL_law_195 hl (k := 2) rfl (by decide +kernel) (by decide) rfl (fun ls hl => ?_)
  refine lv_goto (tgt := 18) hx hb dL_law_198 (by decide) ?_
  refine lv_iload_n hx hb dL_law_18 rfl (lv_at hl 0 rfl) ?_
  refine lv_bipush (v := 110) hx hb dL_law_19 (by decide) ?_
  refine lv_icmp_ge (tgt := 201) hx hb dL_law_21 (by decide) (fun c9 => absurd c9 (by decide)) (fun _ => ?_)
  refine lv_aload_n hx hb dL_law_24 rfl (lv_at hl 5 rfl) ?_
  refine lv_iload_n hx hb dL_law_25 rfl (lv_at hl 0 rfl) ?_
  refine lv_bipush (v := 61) hx hb dL_law_26 (by decide) ?_
  refine lv_irem hx hb dL_law_28 (by decide) ?_
  refine lv_topi (fun v_24 e_24 => ?_)
  obtain rfl : v_24 = 2 := e_24.trans (by decide +kernel)
  refine CE_callS (x := 2) (rest := []) ⟨hx, hb, hml, hown, hts⟩ (g_cell l D (ty2 cI cZ) (w2 cI cZ a b) (z0, z0) H_20.size b9 L xs 2 (by omega) (by omega)) (va_cwS 2 hts gL_law_L_cell rfl rfl rfl (by decide +kernel) ⟨Nat.le_of_ble_eq_true rfl, Nat.le_of_ble_eq_true rfl⟩) hX hbl hbA hP hK hD hS hA hEV hZ hl.1 (Nat.le_of_ble_eq_true rfl) (Nat.le_of_ble_eq_true rfl) (Nat.le_of_ble_eq_true rfl) dL_law_29 rfl (fun r_25 u_25 H_25 locs h_25 hP hD hS hg => ?_)
  have h_25 : u_25 = (z0, z0) ∧ r_25 = 0 := ⟨h_25.1, h_25.2.trans (h0 2 (by decide))⟩
  obtain ⟨e_25, f_25⟩ := h_25
  subst e_25
  subst f_25
  have hG : s.heap.size + 3 ≤ H_25.size := by omega
  refine lv_sipush (v := 1151) hx hb dL_law_32 (by decide) ?_
  refine lv_iload_n hx hb dL_law_35 rfl (lv_at hl 0 rfl) ?_
  refine lv_bipush (v := 61) hx hb dL_law_36 (by decide) ?_
  refine lv_idiv hx hb dL_law_38 (by decide) ?_
  refine lv_topi (fun v_26 e_26 => ?_)
  obtain rfl : v_26 = 0 := e_26.trans (by decide +kernel)
  refine lv_imul hx hb dL_law_39 ?_
  refine lv_topi (fun v_27 e_27 => ?_)
  obtain rfl : v_27 = 0 := e_27.trans (by decide +kernel)
  refine lv_iadd hx hb dL_law_40 ?_
  refine lv_topi (fun v_28 e_28 => ?_)
  obtain rfl : v_28 = 0 := e_28.trans (by decide +kernel)
  refine lv_istore (lv' := [(4, .int 0), (3, .int 2), (5, .int (-99999)), (2, .ref (b 0)), (1, .ref (a 0)), (0, .ref b9)]) hx hb dL_law_41 hl (by decide) rfl (fun ls hl => ?_)
  refine lv_aload_n hx hb dL_law_43 rfl (lv_at hl 4 rfl) ?_
  refine lv_iload hx hb dL_law_44 (lv_at hl 0 rfl) ?_
  refine MG.callS (As := [.ref (a 0), .int 0]) (rest := []) ⟨hx, hb, hml, hown, hts⟩ (fA b (g_act l D cI cZ a H_25.size hfl)) (va_cwS 2 hts gL_law_L_act rfl rfl rfl (by decide +kernel) ⟨Nat.le_of_ble_eq_true rfl, Nat.le_of_ble_eq_true rfl⟩) hP hK hD hS hA hEV hZ rfl hl.1 (Nat.le_of_ble_eq_true rfl) (Nat.le_of_ble_eq_true rfl) (Nat.le_of_ble_eq_true rfl) dL_law_46 rfl (fun r_29 u_29 H_29 locs h_29 hP hD hS hg => ?_)
  have h_29 : u_29 = (z0, z0) ∧ r_29 = (-99999) := h_29
  obtain ⟨e_29, f_29⟩ := h_29
  subst e_29
  subst f_29
  have hG : s.heap.size + 4 ≤ H_29.size := by omega
  refine lv_istore (lv' := [(5, .int (-99999)), (4, .int 0), (3, .int 2), (2, .ref (b 0)), (1, .ref (a 0)), (0, .ref b9)]) hx hb dL_law_49 hl (by decide) rfl (fun ls hl => ?_)
  refine lv_iload hx hb dL_law_51 (lv_at hl 0 rfl) ?_
  refine lv_ldc (v := (-99999)) hx hb hown (hts (.constant RL 54 (-99999)) (by decide +kernel)) dL_law_53 ?_
  refine lv_icmp_eq (tgt := 69) hx hb dL_law_55 (by decide) (fun _ => ?_) (fun c9 => absurd (by decide) c9)
  refine lv_iload_n hx hb dL_law_69 rfl (lv_at hl 2 rfl) ?_
  refine lv_bipush (v := 6) hx hb dL_law_70 (by decide) ?_
  refine lv_irem hx hb dL_law_72 (by decide) ?_
  refine lv_topi (fun v_30 e_30 => ?_)
  obtain rfl : v_30 = 2 := e_30.trans (by decide +kernel)
  refine lv_iconst (v := 3) hx hb dL_law_73 (by decide) ?_
  refine lv_icmp_ne (tgt := 85) hx hb dL_law_74 (by decide) (fun _ => ?_) (fun c9 => absurd c9 (by decide))
  refine lv_iload_n hx hb dL_law_85 rfl (lv_at hl 2 rfl) ?_
  refine lv_iconst (v := 3) hx hb dL_law_86 (by decide) ?_
  refine lv_irem hx hb dL_law_87 (by decide) ?_
  refine lv_topi (fun v_31 e_31 => ?_)
  obtain rfl : v_31 = 2 := e_31.trans (by decide +kernel)
  refine lv_iconst (v := 1) hx hb dL_law_88 (by decide) ?_
  refine lv_icmp_ne (tgt := 99) hx hb dL_law_89 (by decide) (fun _ => ?_) (fun c9 => absurd c9 (by decide))
  refine lv_iload_n hx hb dL_law_99 rfl (lv_at hl 2 rfl) ?_
  refine lv_iconst (v := 5) hx hb dL_law_100 (by decide) ?_
  refine lv_irem hx hb dL_law_101 (by decide) ?_
  refine lv_topi (fun v_32 e_32 => ?_)
  obtain rfl : v_32 = 2 := e_32.trans (by decide +kernel)
  refine lv_iconst (v := 2) hx hb dL_law_102 (by decide) ?_
  refine lv_icmp_ne (tgt := 134) hx hb dL_law_103 (by decide) (fun c9 => absurd (by decide) c9) (fun _ => ?_)
  refine lv_aload_n hx hb dL_law_106 rfl (lv_at hl 4 rfl) ?_
  refine lv_iload hx hb dL_law_107 (lv_at hl 1 rfl) ?_
  refine lv_bipush (v := 7) hx hb dL_law_109 (by decide) ?_
  refine lv_ishr hx hb dL_law_111 ?_
  refine lv_topi (fun v_33 e_33 => ?_)
  obtain rfl : v_33 = 0 := e_33.trans (by decide +kernel)
  refine lv_bipush (v := 7) hx hb dL_law_112 (by decide) ?_
  refine lv_iand hx hb dL_law_114 ?_
  refine lv_topi (fun v_34 e_34 => ?_)
  obtain rfl : v_34 = 0 := e_34.trans (by decide +kernel)
  refine lv_iload hx hb dL_law_115 (lv_at hl 1 rfl) ?_
  refine lv_bipush (v := 9) hx hb dL_law_117 (by decide) ?_
  refine lv_ishr hx hb dL_law_119 ?_
  refine lv_topi (fun v_35 e_35 => ?_)
  obtain rfl : v_35 = 0 := e_35.trans (by decide +kernel)
  refine lv_sipush (v := 400) hx hb dL_law_120 (by decide) ?_
  refine MG.callS (As := [.int 0, .int 400]) (rest := [.int 0, .ref (a 0)]) ⟨hx, hb, hml, hown, hts⟩ (g_low l D (ty2 cI cZ) (w2 cI cZ a b) (z0, z0) H_29.size 0 400 (by decide)) (va_cwS 2 hts gL_law_L_low rfl rfl rfl (by decide +kernel) ⟨Nat.le_of_ble_eq_true rfl, Nat.le_of_ble_eq_true rfl⟩) hP hK hD hS hA hEV hZ rfl hl.1 (Nat.le_of_ble_eq_true rfl) (Nat.le_of_ble_eq_true rfl) (Nat.le_of_ble_eq_true rfl) dL_law_123 rfl (fun r_36 u_36 H_36 locs h_36 hP hD hS hg => ?_)
  have h_36 : u_36 = (z0, z0) ∧ r_36 = 0 := ⟨h_36.1, h_36.2.trans (by decide +kernel)⟩
  obtain ⟨e_36, f_36⟩ := h_36
  subst e_36
  subst f_36
  have hG : s.heap.size + 4 ≤ H_36.size := by omega
  refine MG.callS (As := [.ref (a 0), .int 0, .int 0]) (rest := []) ⟨hx, hb, hml, hown, hts⟩ (fA b (g_books l D cI cZ a H_36.size hfl)) (va_cwS 3 hts gL_law_L_areBookingsSo rfl rfl rfl (by decide +kernel) ⟨Nat.le_of_ble_eq_true rfl, Nat.le_of_ble_eq_true rfl⟩) hP hK hD hS hA hEV hZ rfl hl.1 (Nat.le_of_ble_eq_true rfl) (Nat.le_of_ble_eq_true rfl) (Nat.le_of_ble_eq_true rfl) dL_law_126 rfl (fun r_37 u_37 H_37 locs h_37 hP hD hS hg => ?_)
  have h_37 : u_37 = (z0, z0) ∧ r_37 = 1 := h_37
  obtain ⟨e_37, f_37⟩ := h_37
  subst e_37
  subst f_37
  have hG : s.heap.size + 7 ≤ H_37.size := by omega
  refine lv_if_ne (tgt := 134) hx hb dL_law_129 (by decide) (fun _ => ?_) (fun c9 => absurd c9 (by decide))
  refine lv_iload_n hx hb dL_law_134 rfl (lv_at hl 2 rfl) ?_
  refine lv_bipush (v := 8) hx hb dL_law_135 (by decide) ?_
  refine lv_irem hx hb dL_law_137 (by decide) ?_
  refine lv_topi (fun v_38 e_38 => ?_)
  obtain rfl : v_38 = 2 := e_38.trans (by decide +kernel)
  refine lv_bipush (v := 6) hx hb dL_law_138 (by decide) ?_
  refine lv_icmp_ne (tgt := 168) hx hb dL_law_140 (by decide) (fun _ => ?_) (fun c9 => absurd c9 (by decide))
  refine lv_iload_n hx hb dL_law_168 rfl (lv_at hl 2 rfl) ?_
  refine lv_bipush (v := 7) hx hb dL_law_169 (by decide) ?_
  refine lv_irem hx hb dL_law_171 (by decide) ?_
  refine lv_topi (fun v_39 e_39 => ?_)
  obtain rfl : v_39 = 2 := e_39.trans (by decide +kernel)
  refine lv_iconst (v := 4) hx hb dL_law_172 (by decide) ?_
  refine lv_icmp_ne (tgt := 195) hx hb dL_law_173 (by decide) (fun _ => ?_) (fun c9 => absurd c9 (by decide))
  refine lv_iinc (v := 3) (lv' := [(3, .int 3), (5, .int (-99999)), (4, .int 0), (2, .ref (b 0)), (1, .ref (a 0)), (0, .ref b9)]) hx hb dL_law_195 hl (k := 2) rfl (by decide +kernel) (by decide) rfl (fun ls hl => ?_)
  refine lv_goto (tgt := 18) hx hb dL_law_198 (by decide) ?_
  refine lv_iload_n hx hb dL_law_18 rfl (lv_at hl 0 rfl) ?_
  refine lv_bipush (v := 110) hx hb dL_law_19 (by decide) ?_
  refine lv_icmp_ge (tgt := 201) hx hb dL_law_21 (by decide) (fun c9 => absurd c9 (by decide)) (fun _ => ?_)
  refine lv_aload_n hx hb dL_law_24 rfl (lv_at hl 5 rfl) ?_
  refine lv_iload_n hx hb dL_law_25 rfl (lv_at hl 0 rfl) ?_
  refine lv_bipush (v := 61) hx hb dL_law_26 (by decide) ?_
  refine lv_irem hx hb dL_law_28 (by decide) ?_
  refine lv_topi (fun v_40 e_40 => ?_)
  obtain rfl : v_40 = 3 := e_40.trans (by decide +kernel)
  refine CE_callS (x := 3) (rest := []) ⟨hx, hb, hml, hown, hts⟩ (g_cell l D (ty2 cI cZ) (w2 cI cZ a b) (z0, z0) H_37.size b9 L xs 3 (by omega) (by omega)) (va_cwS 2 hts gL_law_L_cell rfl rfl rfl (by decide +kernel) ⟨Nat.le_of_ble_eq_true rfl, Nat.le_of_ble_eq_true rfl⟩) hX hbl hbA hP hK hD hS hA hEV hZ hl.1 (Nat.le_of_ble_eq_true rfl) (Nat.le_of_ble_eq_true rfl) (Nat.le_of_ble_eq_true rfl) dL_law_29 rfl (fun r_41 u_41 H_41 locs h_41 hP hD hS hg => ?_)
  have h_41 : u_41 = (z0, z0) ∧ r_41 = 0 := ⟨h_41.1, h_41.2.trans (h0 3 (by decide))⟩
  obtain ⟨e_41, f_41⟩ := h_41
  subst e_41
  subst f_41
  have hG : s.heap.size + 7 ≤ H_41.size := by omega
  refine lv_sipush (v := 1151) hx hb dL_law_32 (by decide) ?_
  refine lv_iload_n hx hb dL_law_35 rfl (lv_at hl 0 rfl) ?_
  refine lv_bipush (v := 61) hx hb dL_law_36 (by decide) ?_
  refine lv_idiv hx hb dL_law_38 (by decide) ?_
  refine lv_topi (fun v_42 e_42 => ?_)
  obtain rfl : v_42 = 0 := e_42.trans (by decide +kernel)
  refine lv_imul hx hb dL_law_39 ?_
  refine lv_topi (fun v_43 e_43 => ?_)
  obtain rfl : v_43 = 0 := e_43.trans (by decide +kernel)
  refine lv_iadd hx hb dL_law_40 ?_
  refine lv_topi (fun v_44 e_44 => ?_)
  obtain rfl : v_44 = 0 := e_44.trans (by decide +kernel)
  refine lv_istore (lv' := [(4, .int 0), (3, .int 3), (5, .int (-99999)), (2, .ref (b 0)), (1, .ref (a 0)), (0, .ref b9)]) hx hb dL_law_41 hl (by decide) rfl (fun ls hl => ?_)
  refine lv_aload_n hx hb dL_law_43 rfl (lv_at hl 4 rfl) ?_
  refine lv_iload hx hb dL_law_44 (lv_at hl 0 rfl) ?_
  refine MG.callS (As := [.ref (a 0), .int 0]) (rest := []) ⟨hx, hb, hml, hown, hts⟩ (fA b (g_act l D cI cZ a H_41.size hfl)) (va_cwS 2 hts gL_law_L_act rfl rfl rfl (by decide +kernel) ⟨Nat.le_of_ble_eq_true rfl, Nat.le_of_ble_eq_true rfl⟩) hP hK hD hS hA hEV hZ rfl hl.1 (Nat.le_of_ble_eq_true rfl) (Nat.le_of_ble_eq_true rfl) (Nat.le_of_ble_eq_true rfl) dL_law_46 rfl (fun r_45 u_45 H_45 locs h_45 hP hD hS hg => ?_)
  have h_45 : u_45 = (z0, z0) ∧ r_45 = (-99999) := h_45
  obtain ⟨e_45, f_45⟩ := h_45
  subst e_45
  subst f_45
  have hG : s.heap.size + 8 ≤ H_45.size := by omega
  refine lv_istore (lv' := [(5, .int (-99999)), (4, .int 0), (3, .int 3), (2, .ref (b 0)), (1, .ref (a 0)), (0, .ref b9)]) hx hb dL_law_49 hl (by decide) rfl (fun ls hl => ?_)
  refine lv_iload hx hb dL_law_51 (lv_at hl 0 rfl) ?_
  refine lv_ldc (v := (-99999)) hx hb hown (hts (.constant RL 54 (-99999)) (by decide +kernel)) dL_law_53 ?_
  refine lv_icmp_eq (tgt := 69) hx hb dL_law_55 (by decide) (fun _ => ?_) (fun c9 => absurd (by decide) c9)
  refine lv_iload_n hx hb dL_law_69 rfl (lv_at hl 2 rfl) ?_
  refine lv_bipush (v := 6) hx hb dL_law_70 (by decide) ?_
  refine lv_irem hx hb dL_law_72 (by decide) ?_
  refine lv_topi (fun v_46 e_46 => ?_)
  obtain rfl : v_46 = 3 := e_46.trans (by decide +kernel)
  refine lv_iconst (v := 3) hx hb dL_law_73 (by decide) ?_
  refine lv_icmp_ne (tgt := 85) hx hb dL_law_74 (by decide) (fun c9 => absurd (by decide) c9) (fun _ => ?_)
  refine lv_aload_n hx hb dL_law_77 rfl (lv_at hl 4 rfl) ?_
  refine lv_aload_n hx hb dL_law_78 rfl (lv_at hl 3 rfl) ?_
  refine MG.callS (As := [.ref (a 0), .ref (b 0)]) (rest := []) ⟨hx, hb, hml, hown, hts⟩ (g_alike l D cI cZ a b H_45.size hfl) (va_cwS 2 hts gL_law_L_areAlike rfl rfl rfl (by decide +kernel) ⟨Nat.le_of_ble_eq_true rfl, Nat.le_of_ble_eq_true rfl⟩) hP hK hD hS hA hEV hZ rfl hl.1 (Nat.le_of_ble_eq_true rfl) (Nat.le_of_ble_eq_true rfl) (Nat.le_of_ble_eq_true rfl) dL_law_79 rfl (fun r_47 u_47 H_47 locs h_47 hP hD hS hg => ?_)
  have h_47 : u_47 = (z0, z0) ∧ r_47 = 1 := h_47
  obtain ⟨e_47, f_47⟩ := h_47
  subst e_47
  subst f_47
  have hG : s.heap.size + 248 ≤ H_47.size := by omega
  intro T hT X
  exact ⟨T.setTop _, Steps.refl _, by show s.heap.size + 184 ≤ T.heap.size; rw [hT]; omega⟩
end
section
/-! THE CLAIM FALLS: from a start that has more room than it asks for, over a script that begins with four zeros, its run makes more than 183 cells -/
theorem room_any {l : Launch} {y : MethodName} {ts : List Cond} {R R' : Room} {pl : Platform} {s : State} {m : MethodId} {args : Array Value} {below : List Frame} (hf : s.frames = .invoking m args :: below) (h : (headSpec ts R).applies y pl s = true) (hr : s.hasRoom pl R' = true) : (headSpec ts R').appliesLoose y pl s = true := by
  obtain ⟨a1, a2, a3, a4, a5, a6, -, a8⟩ := (Spec.applies_iff hf).mp h
  have e8 : (headSpec ts R').pre = (headSpec ts R).pre := rfl
  have a9 : (headSpec ts R').pre.before args s = true := by rw [e8]; exact a8
  have a7 : s.hasRoom pl (headSpec ts R').room = true := hr
  have h1 : (headSpec ts R').applies y pl s = true := (Spec.applies_iff (S := headSpec ts R') hf).mpr ⟨a1, a2, a3, a4, a5, a6, a7, a9⟩
  exact ((Spec.applies_iff_loose (S := headSpec ts R') hf).mp h1).1
set_option maxHeartbeats 4000000 in
set_option maxRecDepth 100000 in
theorem p25_falls {l : Launch} (hflags : l.flags = flags0) {p : Program} {e : Env} {s : State} {m : MethodId} {args : Array Value} {below : List Frame}
    (hA : AtStart classFile x code maxLocals ret World_1 tables_1 room_1 Calls_1 rest_1 Pre_1 l p e s m args below) (hroom : s.hasRoom e.platform R2 = true)
    {b : Addr} {xs : List Int32} (hargs : args = #[.ref b]) (hxs : s.IntsAt b xs) (hN : xs.length ≤ 260) (h4 : 4 ≤ xs.length) (h0 : ∀ j, j < 4 → xs.getD j 0 = 0) : ¬ Claimed_1_1 := by
  intro hcl
  subst hargs
  obtain ⟨hLists, hW, hadm, -, hcas, hclk, hfr, hfit, hheap, happ, hc, hr, hpre⟩ := hA
  obtain ⟨n, o, hin, hrun, hend, hpost⟩ := hcl l hflags hLists hW p e hadm hcas hclk s m #[.ref b] below hfr hfit hheap happ ⟨hc, hr, hpre⟩
  obtain ⟨-, hF⟩ := hpost
  have hle : (stepsAlone p.tables e n s).heap.size ≤ s.heap.size + 183 := hF.2.2.2.2.1
  have happ2 : (headSpec (Jvm.Cond.code x code maxLocals ret :: tables_1) R2).appliesLoose x e.platform s = true := room_any (l := l) hfr happ hroom
  obtain ⟨meth, c, B, hcode, hml9, hfirst⟩ := BodyLoose.of_appliesLoose (l := l) (x := x) (S := headSpec (Jvm.Cond.code x code maxLocals ret :: tables_1) R2) (code := code) (maxLocals := maxLocals) (ret := ret) (by decide) (fun args s h => atoms_spec (ws := Jvm.Cond.code x code maxLocals ret :: tables_1) h _ List.mem_cons_self) p hadm hcas hclk hfr happ2
  obtain ⟨scr, harrAt, hlist, hof, hsmall⟩ := hxs
  obtain ⟨hcb, hkn, -, -⟩ := State.arrayAt?_spec harrAt
  have hown : s.vm.findClass RL = some m.cls := findClass_of_methodNamed B.named
  have hts0 : ∀ c ∈ (Jvm.Cond.code x code maxLocals ret :: tables_1), c.before #[Value.ref b] s = true := atoms_spec (ws := Jvm.Cond.code x code maxLocals ret :: tables_1) B.pre
  have hts : ∀ w ∈ lw_tbl, w.before #[Value.ref b] s = true := k2_hts_sels lw_privs (fun w hw => hts0 w (List.mem_cons_of_mem _ hw)) lw_privs_ok
  have hml : c.maxLocals = 6 := hml9
  have hsz : scr.slots.size = xs.length := by rw [← Array.length_toList, hlist, List.length_map]
  have hval : ∀ j : Nat, j < xs.length → scr.slots[j]? = some (.int (xs.getD j 0)) := fun j hj => by
    rw [← Array.getElem?_toList, hlist]
    simp [hj]
  have hbl : b < s.heap.size := (Array.getElem?_eq_some_iff.mp hcb).1
  have hX : va_X b xs.length (fun j => xs.getD j 0) s s.heap := ⟨scr, hcb, hof, hkn, hsz, hval⟩
  obtain ⟨T, hT, hQ⟩ := law_room (p := p) (e := e) (below := below) (meth := meth) l hflags hN h4 h0 B.exec B.bytes hml hown hts hX hbl hpre (s.setFrames (.java (entryFrame m #[Value.ref b] maxLocals) :: below)) rfl (Stand.of_body B)
  obtain ⟨j, hj, hjw⟩ := hfirst.trans hT
  rcases Nat.lt_or_ge n j with q | q
  · exact hend.not_within (hjw n q)
  · obtain ⟨d, rfl⟩ := Nat.exists_eq_add_of_le q
    rw [stepsAlone_add, hj] at hle
    have h1 := stepsAlone_heap_le p.tables e d T
    have h2 : s.heap.size + 184 ≤ T.heap.size := hQ
    omega
end
section
/-! the closed refutation: the printed witness's own start (start1), its script four zeros instead -/
def st2 : State := start1.aboutOf #[.int 0, .int 0, .int 0, .int 0]
set_option maxRecDepth 16384 in
theorem tabs2 : (Jvm.Cond.code x code maxLocals ret :: tables_1).all (fun w => w.onTables || w.before start1.args0 st2) = true := by decide +kernel
/-- the tables are the same, so the tables' words are -/
theorem words2 : ∀ w ∈ (Jvm.Cond.code x code maxLocals ret :: tables_1), w.before start1.args0 st2 = true := by
  intro w h
  have h1 := List.all_eq_true.mp tabs2 w h
  rw [Bool.or_eq_true] at h1
  rcases h1 with h1 | h1
  · exact va_Nw.use h1 (va_Nw.same h1 (u := start1.about) (U := st2) rfl (va_Nw.of h1 (start1.words w h)))
  · exact h1
set_option maxRecDepth 16384 in
theorem atStart2 : AtStart classFile x code maxLocals ret World_1 tables_1 room_1 Calls_1 rest_1 Pre_1 launch0 start1.p0 start1.e0 st2 ⟨0, 0⟩ start1.args0 Lib.HandBits.below0 :=
  ⟨lists_1, trivial, launch0.admits_env _ _ _, launch0.least_env, fairChoices_fair.cas, fairChoices_fair.clock, rfl, by decide +kernel, by decide +kernel,
    (Spec.applies_iff rfl).mpr ⟨rfl, rfl, rfl, by decide +kernel, by decide +kernel, by decide +kernel, launch0.hasRoom_least _ room_1 (by decide +kernel) (by decide +kernel) (by decide +kernel) (by decide +kernel) (by decide +kernel) (by decide +kernel), atoms_intro words2⟩,
    trivial, (show rest_1_c.before start1.args0 st2 = true by decide +kernel), (show (Jvm.Cond.and given_1 narrow_1).before start1.args0 st2 = true by decide +kernel)⟩
theorem room2 : st2.hasRoom start1.e0.platform R2 = true := launch0.hasRoom_least _ R2 (by decide +kernel) (by decide +kernel) (by decide +kernel) (by decide +kernel) (by decide +kernel) (by decide +kernel)
theorem ints2 : st2.IntsAt 0 [0, 0, 0, 0] := ⟨{ cls := 17, slots := #[.int 0, .int 0, .int 0, .int 0], vm := .none }, rfl, rfl, ⟨(by intro k h; cases h), start1.cArr "[I" 16 .int, rfl, 16, rfl⟩, by decide⟩
theorem p25_false_1 : ¬ Claimed_1_1 := p25_falls (l := launch0) rfl atStart2 room2 rfl ints2 (by decide) (by decide) (fun j hj => by rcases (show j = 0 ∨ j = 1 ∨ j = 2 ∨ j = 3 by omega) with rfl | rfl | rfl | rfl <;> rfl)
/-- what p25 owes is false -/
theorem p25_false : ¬ (Claimed_1_1 ∧ Claimed_1_2) := fun h => p25_false_1 h.1
end
