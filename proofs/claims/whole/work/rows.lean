section
-- ===== PART A: goes FIRST, ahead of the names: the tables' words, and 'selects' of the private methods out of them =====
/-- a private method of a class that the tables say can be made, by its rows of tables_1 -/
def lw_okq (q : MethodName × Nat) : Prop := (q.1.cls ≠ "java/lang/invoke/MethodHandle" ∧ q.1.cls ≠ "java/lang/invoke/VarHandle") ∧ Cond.instantiable q.1.cls q.2 ∈ tables_1 ∧ Cond.privateMethod q.1 ∈ tables_1 ∧ Cond.instanceMethod q.1 ∈ tables_1
theorem lw_p0 : lw_okq (⟨"java/lang/Throwable", "fillInStackTrace", "(I)Ljava/lang/Throwable;"⟩, 6) := ⟨⟨by decide +kernel, by decide +kernel⟩, List.mem_of_getElem? (i := 212) (by decide +kernel), List.mem_of_getElem? (i := 210) (by decide +kernel), List.mem_of_getElem? (i := 211) (by decide +kernel)⟩
theorem lw_p1 : lw_okq (⟨"Warpyard", "needTrain", "(I)V"⟩, 8) := ⟨⟨by decide +kernel, by decide +kernel⟩, List.mem_of_getElem? (i := 16) (by decide +kernel), List.mem_of_getElem? (i := 274) (by decide +kernel), List.mem_of_getElem? (i := 275) (by decide +kernel)⟩
theorem lw_p2 : lw_okq (⟨"Warpyard$Trains", "step", "(ILWarpyard$Tracks;LWarpyard$Bookings;I)Z"⟩, 5) := ⟨⟨by decide +kernel, by decide +kernel⟩, List.mem_of_getElem? (i := 35) (by decide +kernel), List.mem_of_getElem? (i := 363) (by decide +kernel), List.mem_of_getElem? (i := 364) (by decide +kernel)⟩
theorem lw_p3 : lw_okq (⟨"Warpyard$Tracks", "rightOf", "(I)I"⟩, 1) := ⟨⟨by decide +kernel, by decide +kernel⟩, List.mem_of_getElem? (i := 24) (by decide +kernel), List.mem_of_getElem? (i := 371) (by decide +kernel), List.mem_of_getElem? (i := 372) (by decide +kernel)⟩
theorem lw_p4 : lw_okq (⟨"Warpyard$Tracks", "leftOf", "(I)I"⟩, 1) := ⟨⟨by decide +kernel, by decide +kernel⟩, List.mem_of_getElem? (i := 24) (by decide +kernel), List.mem_of_getElem? (i := 375) (by decide +kernel), List.mem_of_getElem? (i := 376) (by decide +kernel)⟩
theorem lw_p5 : lw_okq (⟨"Warpyard$Bookings", "isIn", "(II)Z"⟩, 6) := ⟨⟨by decide +kernel, by decide +kernel⟩, List.mem_of_getElem? (i := 63) (by decide +kernel), List.mem_of_getElem? (i := 385) (by decide +kernel), List.mem_of_getElem? (i := 386) (by decide +kernel)⟩
theorem lw_p6 : lw_okq (⟨"Warpyard", "needBooking", "(I)V"⟩, 8) := ⟨⟨by decide +kernel, by decide +kernel⟩, List.mem_of_getElem? (i := 16) (by decide +kernel), List.mem_of_getElem? (i := 448) (by decide +kernel), List.mem_of_getElem? (i := 449) (by decide +kernel)⟩
theorem lw_p7 : lw_okq (⟨"Warpyard", "needRoomIn", "(I)V"⟩, 8) := ⟨⟨by decide +kernel, by decide +kernel⟩, List.mem_of_getElem? (i := 16) (by decide +kernel), List.mem_of_getElem? (i := 476) (by decide +kernel), List.mem_of_getElem? (i := 477) (by decide +kernel)⟩
theorem lw_p8 : lw_okq (⟨"Warpyard$Waggons", "append", "(II)V"⟩, 4) := ⟨⟨by decide +kernel, by decide +kernel⟩, List.mem_of_getElem? (i := 91) (by decide +kernel), List.mem_of_getElem? (i := 488) (by decide +kernel), List.mem_of_getElem? (i := 489) (by decide +kernel)⟩
theorem lw_p9 : lw_okq (⟨"Warpyard", "sidingUnder", "(I)I"⟩, 8) := ⟨⟨by decide +kernel, by decide +kernel⟩, List.mem_of_getElem? (i := 16) (by decide +kernel), List.mem_of_getElem? (i := 513) (by decide +kernel), List.mem_of_getElem? (i := 514) (by decide +kernel)⟩
theorem lw_p10 : lw_okq (⟨"WarpyardModel", "standsOn", "(I)I"⟩, 26) := ⟨⟨by decide +kernel, by decide +kernel⟩, List.mem_of_getElem? (i := 572) (by decide +kernel), List.mem_of_getElem? (i := 671) (by decide +kernel), List.mem_of_getElem? (i := 672) (by decide +kernel)⟩
theorem lw_p11 : lw_okq (⟨"WarpyardModel", "holds", "(I)Z"⟩, 26) := ⟨⟨by decide +kernel, by decide +kernel⟩, List.mem_of_getElem? (i := 572) (by decide +kernel), List.mem_of_getElem? (i := 675) (by decide +kernel), List.mem_of_getElem? (i := 676) (by decide +kernel)⟩
theorem lw_p12 : lw_okq (⟨"WarpyardModel", "isTrain", "(I)Z"⟩, 26) := ⟨⟨by decide +kernel, by decide +kernel⟩, List.mem_of_getElem? (i := 572) (by decide +kernel), List.mem_of_getElem? (i := 683) (by decide +kernel), List.mem_of_getElem? (i := 684) (by decide +kernel)⟩
theorem lw_p13 : lw_okq (⟨"WarpyardModel", "runs", "()I"⟩, 26) := ⟨⟨by decide +kernel, by decide +kernel⟩, List.mem_of_getElem? (i := 572) (by decide +kernel), List.mem_of_getElem? (i := 715) (by decide +kernel), List.mem_of_getElem? (i := 716) (by decide +kernel)⟩
theorem lw_p14 : lw_okq (⟨"WarpyardModel", "tries", "()V"⟩, 26) := ⟨⟨by decide +kernel, by decide +kernel⟩, List.mem_of_getElem? (i := 572) (by decide +kernel), List.mem_of_getElem? (i := 719) (by decide +kernel), List.mem_of_getElem? (i := 720) (by decide +kernel)⟩
theorem lw_p15 : lw_okq (⟨"WarpyardModel", "moves", "(I)I"⟩, 26) := ⟨⟨by decide +kernel, by decide +kernel⟩, List.mem_of_getElem? (i := 572) (by decide +kernel), List.mem_of_getElem? (i := 723) (by decide +kernel), List.mem_of_getElem? (i := 724) (by decide +kernel)⟩
def lw_privs_1 : List (MethodName × Nat) := [(⟨"java/lang/Throwable", "fillInStackTrace", "(I)Ljava/lang/Throwable;"⟩, 6), (⟨"Warpyard", "needTrain", "(I)V"⟩, 8), (⟨"Warpyard$Trains", "step", "(ILWarpyard$Tracks;LWarpyard$Bookings;I)Z"⟩, 5), (⟨"Warpyard$Tracks", "rightOf", "(I)I"⟩, 1), (⟨"Warpyard$Tracks", "leftOf", "(I)I"⟩, 1), (⟨"Warpyard$Bookings", "isIn", "(II)Z"⟩, 6), (⟨"Warpyard", "needBooking", "(I)V"⟩, 8), (⟨"Warpyard", "needRoomIn", "(I)V"⟩, 8), (⟨"Warpyard$Waggons", "append", "(II)V"⟩, 4), (⟨"Warpyard", "sidingUnder", "(I)I"⟩, 8), (⟨"WarpyardModel", "standsOn", "(I)I"⟩, 26), (⟨"WarpyardModel", "holds", "(I)Z"⟩, 26), (⟨"WarpyardModel", "isTrain", "(I)Z"⟩, 26), (⟨"WarpyardModel", "runs", "()I"⟩, 26), (⟨"WarpyardModel", "tries", "()V"⟩, 26), (⟨"WarpyardModel", "moves", "(I)I"⟩, 26)]
theorem lw_r1 : ∀ q ∈ lw_privs_1, lw_okq q := List.forall_mem_cons.mpr ⟨lw_p0, List.forall_mem_cons.mpr ⟨lw_p1, List.forall_mem_cons.mpr ⟨lw_p2, List.forall_mem_cons.mpr ⟨lw_p3, List.forall_mem_cons.mpr ⟨lw_p4, List.forall_mem_cons.mpr ⟨lw_p5, List.forall_mem_cons.mpr ⟨lw_p6, List.forall_mem_cons.mpr ⟨lw_p7, List.forall_mem_cons.mpr ⟨lw_p8, List.forall_mem_cons.mpr ⟨lw_p9, List.forall_mem_cons.mpr ⟨lw_p10, List.forall_mem_cons.mpr ⟨lw_p11, List.forall_mem_cons.mpr ⟨lw_p12, List.forall_mem_cons.mpr ⟨lw_p13, List.forall_mem_cons.mpr ⟨lw_p14, List.forall_mem_cons.mpr ⟨lw_p15, fun _ h => absurd h List.not_mem_nil⟩⟩⟩⟩⟩⟩⟩⟩⟩⟩⟩⟩⟩⟩⟩⟩
theorem lw_p16 : lw_okq (⟨"WarpyardModel", "behind", "(IZ)I"⟩, 26) := ⟨⟨by decide +kernel, by decide +kernel⟩, List.mem_of_getElem? (i := 572) (by decide +kernel), List.mem_of_getElem? (i := 727) (by decide +kernel), List.mem_of_getElem? (i := 728) (by decide +kernel)⟩
theorem lw_p17 : lw_okq (⟨"WarpyardModel", "isTriedOn", "(I)Z"⟩, 26) := ⟨⟨by decide +kernel, by decide +kernel⟩, List.mem_of_getElem? (i := 572) (by decide +kernel), List.mem_of_getElem? (i := 731) (by decide +kernel), List.mem_of_getElem? (i := 732) (by decide +kernel)⟩
theorem lw_p18 : lw_okq (⟨"WarpyardModel", "meets", "(IIII)Z"⟩, 26) := ⟨⟨by decide +kernel, by decide +kernel⟩, List.mem_of_getElem? (i := 572) (by decide +kernel), List.mem_of_getElem? (i := 735) (by decide +kernel), List.mem_of_getElem? (i := 736) (by decide +kernel)⟩
theorem lw_p19 : lw_okq (⟨"WarpyardModel", "mayBook", "(IIII)Z"⟩, 26) := ⟨⟨by decide +kernel, by decide +kernel⟩, List.mem_of_getElem? (i := 572) (by decide +kernel), List.mem_of_getElem? (i := 755) (by decide +kernel), List.mem_of_getElem? (i := 756) (by decide +kernel)⟩
theorem lw_p20 : lw_okq (⟨"WarpyardModel", "isBooking", "(I)Z"⟩, 26) := ⟨⟨by decide +kernel, by decide +kernel⟩, List.mem_of_getElem? (i := 572) (by decide +kernel), List.mem_of_getElem? (i := 767) (by decide +kernel), List.mem_of_getElem? (i := 768) (by decide +kernel)⟩
theorem lw_p21 : lw_okq (⟨"WarpyardModel", "many", "(I)I"⟩, 26) := ⟨⟨by decide +kernel, by decide +kernel⟩, List.mem_of_getElem? (i := 572) (by decide +kernel), List.mem_of_getElem? (i := 782) (by decide +kernel), List.mem_of_getElem? (i := 783) (by decide +kernel)⟩
theorem lw_p22 : lw_okq (⟨"WarpyardModel", "comes", "(II)V"⟩, 26) := ⟨⟨by decide +kernel, by decide +kernel⟩, List.mem_of_getElem? (i := 572) (by decide +kernel), List.mem_of_getElem? (i := 786) (by decide +kernel), List.mem_of_getElem? (i := 787) (by decide +kernel)⟩
theorem lw_p23 : lw_okq (⟨"WarpyardModel", "errorOfCouple", "(I)I"⟩, 26) := ⟨⟨by decide +kernel, by decide +kernel⟩, List.mem_of_getElem? (i := 572) (by decide +kernel), List.mem_of_getElem? (i := 798) (by decide +kernel), List.mem_of_getElem? (i := 799) (by decide +kernel)⟩
theorem lw_p24 : lw_okq (⟨"WarpyardModel", "waggon", "(II)I"⟩, 26) := ⟨⟨by decide +kernel, by decide +kernel⟩, List.mem_of_getElem? (i := 572) (by decide +kernel), List.mem_of_getElem? (i := 802) (by decide +kernel), List.mem_of_getElem? (i := 803) (by decide +kernel)⟩
theorem lw_p25 : lw_okq (⟨"WarpyardModel", "weight", "(I)I"⟩, 26) := ⟨⟨by decide +kernel, by decide +kernel⟩, List.mem_of_getElem? (i := 572) (by decide +kernel), List.mem_of_getElem? (i := 806) (by decide +kernel), List.mem_of_getElem? (i := 807) (by decide +kernel)⟩
def lw_privs_2 : List (MethodName × Nat) := [(⟨"WarpyardModel", "behind", "(IZ)I"⟩, 26), (⟨"WarpyardModel", "isTriedOn", "(I)Z"⟩, 26), (⟨"WarpyardModel", "meets", "(IIII)Z"⟩, 26), (⟨"WarpyardModel", "mayBook", "(IIII)Z"⟩, 26), (⟨"WarpyardModel", "isBooking", "(I)Z"⟩, 26), (⟨"WarpyardModel", "many", "(I)I"⟩, 26), (⟨"WarpyardModel", "comes", "(II)V"⟩, 26), (⟨"WarpyardModel", "errorOfCouple", "(I)I"⟩, 26), (⟨"WarpyardModel", "waggon", "(II)I"⟩, 26), (⟨"WarpyardModel", "weight", "(I)I"⟩, 26)]
theorem lw_r2 : ∀ q ∈ lw_privs_2, lw_okq q := List.forall_mem_cons.mpr ⟨lw_p16, List.forall_mem_cons.mpr ⟨lw_p17, List.forall_mem_cons.mpr ⟨lw_p18, List.forall_mem_cons.mpr ⟨lw_p19, List.forall_mem_cons.mpr ⟨lw_p20, List.forall_mem_cons.mpr ⟨lw_p21, List.forall_mem_cons.mpr ⟨lw_p22, List.forall_mem_cons.mpr ⟨lw_p23, List.forall_mem_cons.mpr ⟨lw_p24, List.forall_mem_cons.mpr ⟨lw_p25, fun _ h => absurd h List.not_mem_nil⟩⟩⟩⟩⟩⟩⟩⟩⟩⟩
def lw_privs : List (MethodName × Nat) := lw_privs_1 ++ (lw_privs_2)
def lw_tbl : List Cond := k2_sels lw_privs ++ tables_1
theorem lw_privs_ok : ∀ q ∈ lw_privs, lw_okq q := by
  show ∀ q ∈ lw_privs_1 ++ (lw_privs_2), lw_okq q
  exact List.forall_mem_append.mpr ⟨lw_r1, lw_r2⟩
-- ===== end of PART A; then your names; then what follows =====
end
section
/-! ===== BEGIN words of one list among another's, by their places ===== -/
theorem goodIn_r {big : List Cond} (ws : List Cond) (ps : List Nat) (hp : ws = ps.filterMap (fun i => big[i]?)) (h : ws.all goodWord = true) : GoodIn big ws := by
  intro w hw
  have h1 := List.all_eq_true.mp h w hw
  rw [hp] at hw
  obtain ⟨i, -, hi⟩ := List.mem_filterMap.mp hw
  have hm : w ∈ big := by first | exact List.mem_of_getElem? hi | exact List.getElem?_mem hi
  exact ⟨hm, good_of_word h1⟩
theorem goodIn_app {big a b : List Cond} (ha : GoodIn big a) (hb : GoodIn big b) : GoodIn big (a ++ b) := fun w h => (List.mem_append.mp h).elim (ha w) (hb w)
theorem goodIn_ca {big a b : List Cond} {c : Cond} (ha : GoodIn big (c :: a)) (hb : GoodIn big b) : GoodIn big (c :: (a ++ b)) := fun w h => (List.mem_cons.mp h).elim (fun e => ha w (List.mem_cons.mpr (Or.inl e))) (fun h => (List.mem_append.mp h).elim (fun h => ha w (List.mem_cons.mpr (Or.inr h))) (hb w))
theorem goodIn_sub {big ws : List Cond} (hm : ∀ w ∈ ws, w ∈ big) (h : ws.all goodWord = true) : GoodIn big ws := fun w hw => ⟨hm w hw, good_of_word (List.all_eq_true.mp h w hw)⟩
/-! ===== END ===== -/

/-! ===== BEGIN exceptions that leave a method, and their catching by the caller (launches without stack traces) ===== -/
section VXA
/-! The laws vx_back, vx_callV, vx_callS, vx_callSW, vx_throw0, vx_throwS follow proofs of the library, with one case more: JvmDerived/Free/Laws.lean (Back.of_free), Shelf42/LK1.lean (callV, callS), Shelf/KitTraced.lean (throwNew0V, throwNewS). -/
/-- where a method has thrown q: the class by its name, the cell, what was written, the world -/
def vx_T (XC : String → State → State → Prop) (st : State) (q : Addr) (t : State) (mc ms : Nat) (free : Addr → Prop) : Prop :=
  ∃ (E : String) (ce : Cell) (L : List Loc), XC E st t ∧ t.heap[q]? = some ce ∧ ce.vm = .none ∧ st.vm.findClass E = some ce.cls ∧ st.WarmedH t.vm ∧ st.sameButNew ({ t with vm := st.vm } : State) L mc ms ∧ ∀ z ∈ L, free z.base
def vx_Q (Qc : Array Value → State → Outcome → State → Prop) (XC : String → State → State → Prop) (mc ms : Nat) (free : Addr → Prop) : Array Value → State → Outcome → State → Prop := fun a st o t =>
  (Qc a st o t ∧ ∃ L, FrameEnd st o t L mc ms ∧ ∀ q ∈ L, free q.base) ∨ ∃ q, o = .threw q ∧ vx_T XC st q t mc ms free
/-- a callee that returns or throws -/
def vx_Met (l : Launch) (y : MethodName) (ws : List Cond) (rm : Room) (Pc : Array Value → State → Prop) (Qc : Array Value → State → Outcome → State → Prop) (XC : String → State → State → Prop) (mc ms : Nat) (free : Addr → Prop) : Prop :=
  MetFree l y (headSpec ws rm) Pc (fun _ _ _ _ _ => True) (vx_Q Qc XC mc ms free)
def vx_Post (XC : String → State → State → Prop) (mc ms : Nat) (free : Addr → Prop) : Pt → Array Value → Addr → Pt → Prop := fun A a q B =>
  ∃ (g : JFrame) (mk : MethodId) (t : State) (L : List Loc) (E : String) (ce : Cell), B.U.heap = t.heap ∧ B.U.vm = t.vm ∧ XC E (A.U.calling g mk a) t ∧ t.heap[q]? = some ce ∧ ce.vm = .none ∧ A.U.vm.findClass E = some ce.cls ∧ B.locs = A.locs ++ L ∧ (∀ z ∈ L, free z.base) ∧ B.cells = A.cells + mc ∧ B.slots = A.slots + ms
def vx_Back (l : Launch) (R : Room) (p : Program) (e : Env) (below : List Frame) (s : State) (sargs : Array Value) (y : MethodName) (len W9 : Nat)
    (Pre : Pt → Array Value → Prop) (Post : Pt → Array Value → Option Value → Pt → Prop) (PostX : Pt → Array Value → Addr → Pt → Prop) : Prop :=
  ∀ (m : MethodId) (meth : Method) (c : Code) (A : Pt) (g : JFrame) (ig : Instr) (mk : MethodId) (a : Array Value),
    Stand p l e R s m sargs below meth c A.U A.locs A.cells A.slots → g.method = m → g.locals.size = c.maxLocals → decode c.code g.pc = .ok (ig, len) →
    2 * g.monitorRoom + (g.stack.map fun v => v.category).sum ≤ W9 → A.U.methodNamed? y = some mk → Pre A a →
    (∃ (v : Option Value) (B : Pt), Stand p l e R s m sargs below meth c B.U B.locs B.cells B.slots ∧ Post A a v B ∧
      Steps p.tables e below (doInvoke e (A.U.setTop g) [] mk a).1 (B.U.setTop { g with pc := g.pc + len, stack := v.toList ++ g.stack })) ∨
    (∃ (q : Addr) (B : Pt), Stand p l e R s m sargs below meth c B.U B.locs B.cells B.slots ∧ PostX A a q B ∧
      Steps p.tables e below (doInvoke e (A.U.setTop g) [] mk a).1 ((B.U.setTop g).pushFrame (.throwing q)))
section Payer
variable {l : Launch} {R : Room} {p : Program} {e : Env} {below : List Frame} {s : State} {sargs : Array Value} {y : MethodName} {len W9 : Nat}
theorem vx_back {ws : List Cond} {rm : Room} {Pc : Array Value → State → Prop} {Qc : Array Value → State → Outcome → State → Prop} {XC : String → State → State → Prop} {mc ms : Nat} {free : Addr → Prop} {bytes : ByteArray} {maxL : Nat} {ret : Option FieldType}
    (hM : vx_Met l y ws rm Pc Qc XC mc ms free) (hblind : FrameBlind Pc) (hrc : rm.cells = mc) (hrs : rm.slots = ms)
    (hframes : rm.frames + 1 ≤ R.frames) (hlocals : W9 + (maxL + 11) + rm.locals ≤ R.locals)
    (hws : ∀ w ∈ ws, ∀ a' U, s.WarmedH U.vm → w.before a' U = true) (hcode : Cond.code y bytes maxL ret ∈ ws) (hinit : ∀ a' U, s.WarmedH U.vm → (Cond.initialized y.cls).before a' U = true) :
    vx_Back l R p e below s sargs y len W9 (PreOf R mc ms Pc) (PostOf Qc mc ms free) (vx_Post XC mc ms free) := by
  intro m meth c A g ig mk a X hg hsize hdg hW hn hp
  have h1 : (headSpec ws rm).pre.before a A.U = true := atoms_intro fun w hw => hws w hw _ _ X.warmed
  have h2 : (Cond.code y bytes maxL ret).before a A.U = true := hws _ hcode _ _ X.warmed
  have h3 : (Cond.initialized y.cls).before a A.U = true := hinit _ _ X.warmed
  have h4 : A.cells + (headSpec ws rm).room.cells ≤ R.cells := by rw [show (headSpec ws rm).room.cells = mc from hrc]; exact hp.1
  have h5 : A.slots + (headSpec ws rm).room.slots ≤ R.slots := by rw [show (headSpec ws rm).room.slots = ms from hrs]; exact hp.2.1
  have hPc : Pc a (A.U.calling g mk a) := hblind _ _ _ _ hp.2.2
  obtain ⟨U, Ls, c0, s0⟩ := A
  dsimp only [Pt.U, Pt.locs, Pt.cells, Pt.slots] at h1 h2 h3 h4 h5 X hn hPc ⊢
  obtain ⟨methY, cY, hmY, hcY, -, hlY, -, -, -, -⟩ := Cond.code_spec hn h2
  obtain ⟨kY, hkY, -⟩ := className_of_methodNamed hn
  have hinitY : kY.init = .initialized := Cond.initialized_spec (findClass_of_methodNamed hn) hkY h3
  have h : At U g.method c below := by rw [hg]; exact X.here
  have hlocals9 : W9 + (maxL + 11) + (headSpec ws rm).room.locals ≤ R.locals := hlocals
  have happ : (headSpec ws rm).appliesLoose y e.platform (U.calling g mk a) = true :=
    Spec.appliesLoose_calling (g := g) h hdg hn hkY hinitY
      (X.room_calling (g := g) (R' := (headSpec ws rm).room) hsize hmY hcY hframes (by rw [hlY]; omega) h4 h5) h1
  obtain ⟨mid, hmid⟩ := h.above
  have hfr : (U.setTop g).frames = (.java g :: mid) ++ below := by rw [State.frames_setTop' g h.top, hmid]; rfl
  obtain ⟨o, s₂, hsteps, -, hend, hq⟩ := Steps.callFree hM p X.admits X.cas X.clock (acts := []) hfr happ hPc trivial
  have hq' : vx_Q Qc XC mc ms free a (U.calling g mk a) o s₂ := hq
  rw [State.frames_setTop' g h.top] at hend
  obtain ⟨g₀, hg0⟩ := Option.isSome_iff_exists.mp h.top
  obtain ⟨r, hr⟩ := State.topJava?_eq_some.mp hg0
  have hr' : (({ U with heap := s₂.heap, slotsUsed := s₂.slotsUsed } : State).setVm s₂.vm).frames = .java g₀ :: r := hr
  rcases hq' with ⟨hqc, L, hfe, hL⟩ | ⟨q, rfl, E, ce, L, hx, hce, hcv, hcl, hW₂, hsm, hL⟩
  · obtain ⟨⟨v, rfl⟩, hW₂, e2, q2, q3, q4, q5, q6⟩ := id hfe
    have e3 : s₂ = ({ (U.calling g mk a).setFrames s₂.frames with heap := s₂.heap, slotsUsed := s₂.slotsUsed } : State).setVm s₂.vm := by
      have : s₂ = ({ s₂ with vm := (U.calling g mk a).vm } : State).setVm s₂.vm := rfl
      rw [e2] at this
      exact this
    obtain ⟨c₂, i₂, len₂, hc₂, hd₂, hf₂⟩ := hend
    have hW' : U.WarmedH s₂.vm := hW₂
    have hcc : c₂ = c := by
      have h1 : s₂.code? g.method = U.code? g.method := by
        rw [State.code?_eq, State.code?_eq, hW'.alike.method?]
      exact Option.some.inj (hc₂.symm.trans (h1.trans h.code))
    subst hcc
    have hlen : len₂ = len := by rw [hdg] at hd₂; cases hd₂; rfl
    subst hlen
    have hs₂ : s₂ = (({ U with heap := s₂.heap, slotsUsed := s₂.slotsUsed } : State).setVm s₂.vm).setTop { g with pc := g.pc + len₂, stack := v.toList ++ g.stack } := by
      refine e3.trans ?_
      rw [hf₂, State.calling_eq h.top, State.setFrames_setFrames, State.setTop_of_frames _ hr', hr]
      rfl
    have hsame : U.sameButNew ({ U with heap := s₂.heap, slotsUsed := s₂.slotsUsed } : State) L mc ms := by
      refine ⟨?_, q2, q3, q4, q5, q6⟩
      obtain ⟨t, ht, -⟩ := State.frames_cons hr
      show ({ U with heap := s₂.heap, slotsUsed := s₂.slotsUsed } : State) = { U.setFrames U.frames with heap := s₂.heap, slotsUsed := s₂.slotsUsed }
      rw [State.setFrames_self ht]
    subst hg
    refine Or.inl ⟨v, ⟨(({ U with heap := s₂.heap, slotsUsed := s₂.slotsUsed } : State).setVm s₂.vm), Ls ++ L, c0 + mc, s0 + ms⟩,
      ⟨X.admits, X.cas, X.clock, X.frames, X.room, X.hears, X.method, X.code, (X.here.setHeapUsed s₂.heap s₂.slotsUsed).setVm hW'.alike, X.tail, State.WarmedH.trans X.warmed hW', X.limits, X.bytes, X.same.trans (hsame.setVm s.vm)⟩,
      ⟨g, mk, s₂, L, rfl, rfl, hqc, rfl, hL, rfl, rfl⟩, ?_⟩
    show Steps p.tables e below _ ((({ U with heap := s₂.heap, slotsUsed := s₂.slotsUsed } : State).setVm s₂.vm).setTop { g with pc := g.pc + len₂, stack := v.toList ++ g.stack })
    rw [← hs₂]
    exact hsteps
  · obtain ⟨e2, q2, q3, q4, q5, q6⟩ := id hsm
    have e3 : s₂ = ({ (U.calling g mk a).setFrames s₂.frames with heap := s₂.heap, slotsUsed := s₂.slotsUsed } : State).setVm s₂.vm := by
      have : s₂ = ({ s₂ with vm := (U.calling g mk a).vm } : State).setVm s₂.vm := rfl
      rw [e2] at this
      exact this
    have hf₂ : s₂.frames = .throwing q :: .java g :: U.frames.tail := hend
    have hW' : U.WarmedH s₂.vm := hW₂
    have hs₂ : s₂ = ((({ U with heap := s₂.heap, slotsUsed := s₂.slotsUsed } : State).setVm s₂.vm).setTop g).pushFrame (.throwing q) := by
      refine e3.trans ?_
      rw [hf₂, State.calling_eq h.top, State.setFrames_setFrames, State.pushFrame, State.frames_setTop _ hr', State.setTop_of_frames _ hr', State.setFrames_setFrames, hr]
      rfl
    have hsame : U.sameButNew ({ U with heap := s₂.heap, slotsUsed := s₂.slotsUsed } : State) L mc ms := by
      refine ⟨?_, q2, q3, q4, q5, q6⟩
      obtain ⟨t, ht, -⟩ := State.frames_cons hr
      show ({ U with heap := s₂.heap, slotsUsed := s₂.slotsUsed } : State) = { U.setFrames U.frames with heap := s₂.heap, slotsUsed := s₂.slotsUsed }
      rw [State.setFrames_self ht]
    subst hg
    refine Or.inr ⟨q, ⟨(({ U with heap := s₂.heap, slotsUsed := s₂.slotsUsed } : State).setVm s₂.vm), Ls ++ L, c0 + mc, s0 + ms⟩,
      ⟨X.admits, X.cas, X.clock, X.frames, X.room, X.hears, X.method, X.code, (X.here.setHeapUsed s₂.heap s₂.slotsUsed).setVm hW'.alike, X.tail, State.WarmedH.trans X.warmed hW', X.limits, X.bytes, X.same.trans (hsame.setVm s.vm)⟩,
      ⟨g, mk, s₂, L, E, ce, rfl, rfl, hx, hce, hcv, hcl, rfl, hL, rfl, rfl⟩, ?_⟩
    show Steps p.tables e below _ (((({ U with heap := s₂.heap, slotsUsed := s₂.slotsUsed } : State).setVm s₂.vm).setTop g).pushFrame (.throwing q))
    rw [← hs₂]
    exact hsteps
end Payer
section Calls
variable {p : Program} {l : Launch} {e : Env} {R : Room} {s : State} {m : MethodId} {args : Array Value} {below : List Frame} {meth : Method} {c : Code} {T : State} {locs : List Loc} {cells slots : Nat}
theorem vx_callV (X : Stand p l e R s m args below meth c T locs cells slots) (hexec : p.tables.exec = Jvm.exec) {own C : String} {index : Nat} {y : MethodName} {bytes : ByteArray} {maxL : Nat} {ret : Option FieldType}
    (hown : s.vm.findClass own = some m.cls) (hlink : (Cond.methodLink own index y).before args s = true) (hinst : (Cond.instanceMethod y).before args s = true) (hsel : (Cond.selects C y y).before args s = true)
    (hcode : (Cond.code y bytes maxL ret).before args s = true) (hy : y.cls ≠ "java/lang/invoke/MethodHandle" ∧ y.cls ≠ "java/lang/invoke/VarHandle")
    {W9 : Nat} {Pre : Pt → Array Value → Prop} {Post : Pt → Array Value → Option Value → Pt → Prop} {PostX : Pt → Array Value → Addr → Pt → Prop} (hK : vx_Back l R p e below s args y 3 W9 Pre Post PostX)
    {b : Addr} {cellB : Cell} (hcell : T.heap[b]? = some cellB) (hobj : cellB.vm.isStatics = false) (hcls : s.vm.findClass C = some cellB.cls)
    {g : JFrame} (hg : g.method = m) (hsize : g.locals.size = c.maxLocals) {argsL rest : List Value} (hlen : ∀ sig, parseMethodDescriptor y.desc = some sig → argsL.length = sig.parameters.length)
    (hstack : g.stack = argsL.reverse ++ .ref b :: rest) (hW : 2 * g.monitorRoom + (rest.map fun v => v.category).sum ≤ W9) (hdg : decode c.code g.pc = .ok (.invokevirtual index, 3))
    (hpre : ∀ vm₁, s.WarmedH vm₁ → Pre ⟨T.setVm vm₁, locs, cells, slots⟩ (Value.ref b :: argsL).toArray) :
    (∃ (v : Option Value) (vm₁ : Vm) (B : Pt), s.WarmedH vm₁ ∧ Stand p l e R s m args below meth c B.U B.locs B.cells B.slots ∧ Post ⟨T.setVm vm₁, locs, cells, slots⟩ (Value.ref b :: argsL).toArray v B ∧
      ∀ target, Steps p.tables e below (B.U.setTop { g with pc := g.pc + 3, stack := v.toList ++ rest }) target → Steps p.tables e below (T.setTop g) target) ∨
    (∃ (q : Addr) (vm₁ : Vm) (B : Pt), s.WarmedH vm₁ ∧ Stand p l e R s m args below meth c B.U B.locs B.cells B.slots ∧ PostX ⟨T.setVm vm₁, locs, cells, slots⟩ (Value.ref b :: argsL).toArray q B ∧
      Steps p.tables e below (T.setTop g) ((B.U.setTop { g with stack := rest }).pushFrame (.throwing q))) := by
  obtain ⟨mk, methM, hnamed, hmethM, hstM, habM⟩ := Cond.instanceMethod_spec hinst
  obtain ⟨methM', cM, hmethM', -, -, -, -, -, -, hsigM⟩ := Cond.code_spec hnamed hcode
  cases hmethM.symm.trans hmethM'
  obtain ⟨c2, r2, m2, q1, q2, q3, q4, kP, hkP, hkPi⟩ := Cond.selects_spec hsel
  cases hcls.symm.trans q1
  cases (State.methodFound?_of_named hnamed hy).symm.trans q2
  cases hnamed.symm.trans q3
  have hselP : selectMethod e.platform s.vm cellB.cls mk = .method mk := by rw [Launch.admits_selectMethod X.admits]; exact q4
  obtain ⟨vm₁, X₁, hstep₁⟩ := X.invokevirtual hexec hown hlink hnamed hmethM hstM hkP hkPi hy (a := b) (cell := cellB) hcell
    (fun z h => by rw [h] at hobj; cases hobj) hselP hmethM habM hkP hkPi (g := g) hg (argsL := argsL) (rest := rest) (hlen _ hsigM) hstack hdg
  rcases hK m meth c ⟨T.setVm vm₁, locs, cells, slots⟩ { g with stack := rest } (.invokevirtual index) mk (Value.ref b :: argsL).toArray X₁ hg hsize hdg hW (X₁.named hnamed) (hpre vm₁ X₁.warmed) with ⟨v, B, X', hpost, hsteps⟩ | ⟨q, B, X', hpost, hsteps⟩
  · exact Or.inl ⟨v, vm₁, B, X₁.warmed, X', hpost, fun target h => hstep₁ _ fun acts => by rw [doInvoke_state]; exact hsteps.trans h⟩
  · exact Or.inr ⟨q, vm₁, B, X₁.warmed, X', hpost, hstep₁ _ fun acts => by rw [doInvoke_state]; exact hsteps⟩
theorem vx_callS (X : Stand p l e R s m args below meth c T locs cells slots) (hexec : p.tables.exec = Jvm.exec) {own : String} {index : Nat} {y : MethodName} {bytes : ByteArray} {maxL : Nat} {ret : Option FieldType}
    (hown : s.vm.findClass own = some m.cls) (hlink : (Cond.methodLink own index y).before args s = true) (hstat : (Cond.static y).before args s = true) (hinit : (Cond.initialized y.cls).before args s = true)
    (hcode : (Cond.code y bytes maxL ret).before args s = true) (hy : y.cls ≠ "java/lang/invoke/MethodHandle" ∧ y.cls ≠ "java/lang/invoke/VarHandle")
    {W9 : Nat} {Pre : Pt → Array Value → Prop} {Post : Pt → Array Value → Option Value → Pt → Prop} {PostX : Pt → Array Value → Addr → Pt → Prop} (hK : vx_Back l R p e below s args y 3 W9 Pre Post PostX)
    {g : JFrame} (hg : g.method = m) (hsize : g.locals.size = c.maxLocals) {argsL rest : List Value} (hlen : ∀ sig, parseMethodDescriptor y.desc = some sig → argsL.length = sig.parameters.length)
    (hstack : g.stack = argsL.reverse ++ rest) (hW : 2 * g.monitorRoom + (rest.map fun v => v.category).sum ≤ W9) (hdg : decode c.code g.pc = .ok (.invokestatic index, 3))
    (hpre : ∀ vm₁, s.WarmedH vm₁ → Pre ⟨T.setVm vm₁, locs, cells, slots⟩ argsL.toArray) :
    (∃ (v : Option Value) (vm₁ : Vm) (B : Pt), s.WarmedH vm₁ ∧ Stand p l e R s m args below meth c B.U B.locs B.cells B.slots ∧ Post ⟨T.setVm vm₁, locs, cells, slots⟩ argsL.toArray v B ∧
      ∀ target, Steps p.tables e below (B.U.setTop { g with pc := g.pc + 3, stack := v.toList ++ rest }) target → Steps p.tables e below (T.setTop g) target) ∨
    (∃ (q : Addr) (vm₁ : Vm) (B : Pt), s.WarmedH vm₁ ∧ Stand p l e R s m args below meth c B.U B.locs B.cells B.slots ∧ PostX ⟨T.setVm vm₁, locs, cells, slots⟩ argsL.toArray q B ∧
      Steps p.tables e below (T.setTop g) ((B.U.setTop { g with stack := rest }).pushFrame (.throwing q))) := by
  obtain ⟨mk, hnamed⟩ := Cond.code_named hcode
  obtain ⟨methM, cM, hmethM, -, -, -, -, -, -, hsigM⟩ := Cond.code_spec hnamed hcode
  have hstatic : methM.isStatic = true := Cond.static_spec hnamed hmethM hstat
  obtain ⟨kP, hkP, -⟩ := className_of_methodNamed hnamed
  have hinitP : kP.init = .initialized := Cond.initialized_spec (findClass_of_methodNamed hnamed) hkP hinit
  obtain ⟨vm₁, X₁, hstep₁⟩ := X.invokestatic hexec hown hlink hnamed hmethM hstatic hkP hinitP hy (g := g) hg (argsL := argsL) (rest := rest) (hlen _ hsigM) hstack hdg
  rcases hK m meth c ⟨T.setVm vm₁, locs, cells, slots⟩ { g with stack := rest } (.invokestatic index) mk argsL.toArray X₁ hg hsize hdg hW (X₁.named hnamed) (hpre vm₁ X₁.warmed) with ⟨v, B, X', hpost, hsteps⟩ | ⟨q, B, X', hpost, hsteps⟩
  · exact Or.inl ⟨v, vm₁, B, X₁.warmed, X', hpost, fun target h => hstep₁ _ fun acts => by rw [doInvoke_state]; exact hsteps.trans h⟩
  · exact Or.inr ⟨q, vm₁, B, X₁.warmed, X', hpost, hstep₁ _ fun acts => by rw [doInvoke_state]; exact hsteps⟩
end Calls
theorem vx_cls {s : State} {T : State} {vm₁ : Vm} {E : String} {k : ClassId} (hW : s.WarmedH vm₁) (h : (T.setVm vm₁).vm.findClass E = some k) : s.vm.findClass E = some k := by
  have h1 : vm₁.findClass E = some k := h
  rw [hW.alike.findClass] at h1
  exact h1
/-- the method's frame g, with q thrown over it -/
def vx_W (p : Program) (l : Launch) (e : Env) (R : Room) (s : State) (m : MethodId) (args : Array Value) (below : List Frame) (meth : Method) (c : Code) (H : Heap) (locs : List Loc) (cells slots : Nat) (Q : State → Prop) (g : JFrame) (q : Addr) : Prop :=
  ∀ T : State, T.heap = H → Stand p l e R s m args below meth c T locs cells slots → ∃ t, Steps p.tables e below ((T.setTop g).pushFrame (.throwing q)) t ∧ Q t
def vx_Run (p : Program) (l : Launch) (e : Env) (R : Room) (s : State) (m : MethodId) (args : Array Value) (below : List Frame) (meth : Method) (c : Code) (H : Heap) (locs : List Loc) (cells slots mc ms : Nat) (g : JFrame) (rest : List Value) (Qa : State → Outcome → State → Prop) (XC : String → State → State → Prop) (free : Addr → Prop) : Prop :=
  ∀ T : State, T.heap = H → Stand p l e R s m args below meth c T locs cells slots →
    (∃ (v : Option Value) (st₀ t T' : State) (L : List Loc), st₀.heap = H ∧ Stand p l e R s m args below meth c T' (locs ++ L) (cells + mc) (slots + ms) ∧ (∀ q ∈ L, free q.base) ∧ T'.heap = t.heap ∧ T'.vm = t.vm ∧ Qa st₀ (.returned v) t ∧
      Goes p e below T g T' { g with pc := g.pc + 3, stack := v.toList ++ rest }) ∨
    (∃ (q : Addr) (st₀ t T' : State) (L : List Loc) (E : String) (ce : Cell), st₀.heap = H ∧ Stand p l e R s m args below meth c T' (locs ++ L) (cells + mc) (slots + ms) ∧ (∀ z ∈ L, free z.base) ∧ T'.heap = t.heap ∧ T'.vm = t.vm ∧ XC E st₀ t ∧ t.heap[q]? = some ce ∧ ce.vm = .none ∧ s.vm.findClass E = some ce.cls ∧
      Steps p.tables e below (T.setTop g) ((T'.setTop { g with stack := rest }).pushFrame (.throwing q)))
def vx_X {S : Type} (px : S → Prop) (B : String → S → State → Prop) (A : Nat → Prop) : String → State → State → Prop := fun E st t => ∃ u : S, px u ∧ B E u t ∧ va_F A st t
section Runs
variable {p : Program} {l : Launch} {e : Env} {R : Room} {s : State} {m : MethodId} {args : Array Value} {below : List Frame} {meth : Method} {c : Code} {H : Heap} {locs : List Loc} {cells slots : Nat}
variable {y : MethodName} {bytes cc : ByteArray} {maxL nL mc ms n index : Nat} {ret : Option FieldType} {ws : List Cond} {rm : Room} {Pc : Array Value → State → Prop} {Qc : Array Value → State → Outcome → State → Prop} {XC : String → State → State → Prop} {free : Addr → Prop} {Ts : List Cond} {own C : String} {b : Addr} {As rest : List Value} {g : JFrame}
theorem vx_callBack (cb : CallB R s args own index y bytes maxL ret ws rm mc ms n) (hM : vx_Met l y ws rm Pc Qc XC mc ms free) (hbl : FrameBlind Pc) : vx_Back l R p e below s args y 3 8 (PreOf R mc ms Pc) (PostOf Qc mc ms free) (vx_Post XC mc ms free) := by
  obtain ⟨hrc, hrs, hfr, hlo, hws, hcw, -, hini, -⟩ := cb
  exact vx_back (bytes := bytes) (maxL := maxL) (ret := ret) hM hbl hrc hrs hfr hlo hws hcw (fun a' U hW => word_at hW (Or.inl (by first | rfl | simp [Cond.onTables, Cond.keeps, Cond.steady])) hini)
theorem vx_runV (S : CallFix p m c cc nL s args Ts own) (hM : vx_Met l y ws rm Pc Qc XC mc ms free) (cw : CallW R s args own C index y bytes maxL ret ws rm mc ms n) (hp : PreV s H C b Pc As)
    (hg : g.method = m) (hn : As.length = n) (hsize : g.locals.size = nL) (hstack : g.stack = As.reverse ++ .ref b :: rest) (hW : 2 * g.monitorRoom + (rest.map fun v => v.category).sum ≤ 8) (hdg : decode cc g.pc = .ok (.invokevirtual index, 3)) (hf : cells + mc ≤ R.cells ∧ slots + ms ≤ R.slots) :
    vx_Run p l e R s m args below meth c H locs cells slots mc ms g rest (Qc (Value.ref b :: As).toArray) XC free := by
  have hK : vx_Back l R p e below s args y 3 8 (PreOf R mc ms Pc) (PostOf Qc mc ms free) (vx_Post XC mc ms free) := vx_callBack cw.1 hM hp.1
  obtain ⟨⟨-, -, -, -, -, -, hcode, -, hy, hlen, hl⟩, hin, hse⟩ := cw
  obtain ⟨hx, hb, hml, ho, -⟩ := S
  obtain ⟨-, ⟨cellB, hcB, hoB, hclB⟩, hPc⟩ := hp
  intro T hT X
  rcases vx_callV X hx (C := C) (bytes := bytes) (maxL := maxL) (ret := ret) ho hl hin hse hcode hy hK (by rw [hT]; exact hcB) hoB hclB hg (hsize.trans hml.symm) (argsL := As) (rest := rest) (fun sig h => hn.trans (hlen sig h)) hstack hW (by rw [hb]; exact hdg)
    (fun vm₁ hW₁ => ⟨hf.1, hf.2, hPc (T.setVm vm₁) hT hW₁⟩) with ⟨v, vm₁, ⟨U', l2, c2, s2⟩, hW₁, X', ⟨g', mk, t, L, e1, e2, hq, h1, hL, h2, h3⟩, st⟩ | ⟨q, vm₁, ⟨U', l2, c2, s2⟩, hW₁, X', ⟨g', mk, t, L, E, ce, e1, e2, hq, hce, hcv, hcl, h1, hL, h2, h3⟩, st⟩
  · dsimp only [Pt.U, Pt.locs, Pt.cells, Pt.slots] at X' e1 e2 h1 h2 h3 st
    subst h1; subst h2; subst h3
    exact Or.inl ⟨v, (T.setVm vm₁).calling g' mk (Value.ref b :: As).toArray, t, U', L, hT, X', hL, e1, e2, hq, st⟩
  · dsimp only [Pt.U, Pt.locs, Pt.cells, Pt.slots] at X' e1 e2 h1 h2 h3 st hcl
    subst h1; subst h2; subst h3
    exact Or.inr ⟨q, (T.setVm vm₁).calling g' mk (Value.ref b :: As).toArray, t, U', L, E, ce, hT, X', hL, e1, e2, hq, hce, hcv, vx_cls hW₁ hcl, st⟩
theorem vx_runS (S : CallFix p m c cc nL s args Ts own) (hM : vx_Met l y ws rm Pc Qc XC mc ms free) (cw : CallB R s args own index y bytes maxL ret ws rm mc ms n ∧ (Cond.static y).before args s = true) (hp : PreS s H Pc As)
    (hg : g.method = m) (hn : As.length = n) (hsize : g.locals.size = nL) (hstack : g.stack = As.reverse ++ rest) (hW : 2 * g.monitorRoom + (rest.map fun v => v.category).sum ≤ 8) (hdg : decode cc g.pc = .ok (.invokestatic index, 3)) (hf : cells + mc ≤ R.cells ∧ slots + ms ≤ R.slots) :
    vx_Run p l e R s m args below meth c H locs cells slots mc ms g rest (Qc As.toArray) XC free := by
  have hK : vx_Back l R p e below s args y 3 8 (PreOf R mc ms Pc) (PostOf Qc mc ms free) (vx_Post XC mc ms free) := vx_callBack cw.1 hM hp.1
  obtain ⟨⟨-, -, -, -, -, -, hcode, hini, hy, hlen, hl⟩, hstt⟩ := cw
  obtain ⟨hx, hb, hml, ho, -⟩ := S
  intro T hT X
  rcases vx_callS X hx (bytes := bytes) (maxL := maxL) (ret := ret) ho hl hstt hini hcode hy hK hg (hsize.trans hml.symm) (argsL := As) (rest := rest) (fun sig h => hn.trans (hlen sig h)) hstack hW (by rw [hb]; exact hdg)
    (fun vm₁ hW₁ => ⟨hf.1, hf.2, hp.2 (T.setVm vm₁) hT hW₁⟩) with ⟨v, vm₁, ⟨U', l2, c2, s2⟩, hW₁, X', ⟨g', mk, t, L, e1, e2, hq, h1, hL, h2, h3⟩, st⟩ | ⟨q, vm₁, ⟨U', l2, c2, s2⟩, hW₁, X', ⟨g', mk, t, L, E, ce, e1, e2, hq, hce, hcv, hcl, h1, hL, h2, h3⟩, st⟩
  · dsimp only [Pt.U, Pt.locs, Pt.cells, Pt.slots] at X' e1 e2 h1 h2 h3 st
    subst h1; subst h2; subst h3
    exact Or.inl ⟨v, (T.setVm vm₁).calling g' mk As.toArray, t, U', L, hT, X', hL, e1, e2, hq, st⟩
  · dsimp only [Pt.U, Pt.locs, Pt.cells, Pt.slots] at X' e1 e2 h1 h2 h3 st hcl
    subst h1; subst h2; subst h3
    exact Or.inr ⟨q, (T.setVm vm₁).calling g' mk As.toArray, t, U', L, E, ce, hT, X', hL, e1, e2, hq, hce, hcv, vx_cls hW₁ hcl, st⟩
end Runs
section Rows
variable {p : Program} {l : Launch} {e : Env} {R : Room} {s : State} {m : MethodId} {args : Array Value} {below : List Frame} {meth : Method} {c : Code} {H : Heap} {locs : List Loc} {cells slots : Nat} {Q : State → Prop}
variable {mc ms : Nat} {free : Addr → Prop} {A0 A1 : Nat → Prop} {H0 : Heap} {a : Array Value} {pc : Nat} {ls : Array Slot} {st0 rest : List Value}
theorem vx_keep {st₀ t T' : State} {L : List Loc} (h0 : st₀.heap = H) (e1 : T'.heap = t.heap) (hS : va_S A0 H0 H locs) (hA : ∀ q, q < H.size → A1 q → A0 q) (hf : ∀ q, free q → A0 q) (hL : ∀ q ∈ L, free q.base) (hF : va_F A1 st₀ t) :
    H.size ≤ T'.heap.size ∧ (∀ q : Nat, q < H.size → ¬ A1 q → T'.heap[q]? = H[q]?) ∧ va_S A0 H0 T'.heap (locs ++ L) := by
  obtain ⟨hz, hk⟩ := hF
  rw [h0] at hz hk
  exact ⟨by rw [e1]; exact hz, fun q h1 h2 => by rw [e1]; exact hk q h1 h2,
    ⟨Nat.le_trans hS.1 (by rw [e1]; exact hz), fun q h1 h2 => by rw [e1, hk q (Nat.lt_of_lt_of_le h1 hS.1) (fun z => h2 (hA q (Nat.lt_of_lt_of_le h1 hS.1) z))]; exact hS.2.1 q h1 h2, fun q hq => by
      rcases List.mem_append.mp hq with h | h
      · exact hS.2.2 q h
      · exact hf _ (hL q h)⟩⟩
theorem vx_calli {S SX : Type} {post : Int32 → S → Prop} {px : SX → Prop} {B : S → State → Prop} {BX : String → SX → State → Prop} {AX : Nat → Prop} (hr : vx_Run p l e R s m args below meth c H locs cells slots mc ms (F0 m pc ls st0) rest (va_Qi post B A1 a) (vx_X px BX AX) free) (hS : va_S A0 H0 H locs) (hA : ∀ q, q < H.size → A1 q → A0 q) (hf : ∀ q, free q → A0 q) (hAX : ∀ q, q < H.size → AX q → A0 q)
    (kx : ∀ (E : String) (ce : Cell) (q9 : Addr) (u : SX) (t : State) (H1 : Heap) (locs1 : List Loc), t.heap = H1 → s.vm.Alike t.vm → px u → BX E u t → H.size ≤ H1.size → (∀ q : Nat, q < H.size → ¬ AX q → H1[q]? = H[q]?) → va_S A0 H0 H1 locs1 → H1[q9]? = some ce → ce.vm = .none → s.vm.findClass E = some ce.cls → vx_W p l e R s m args below meth c H1 locs1 (cells + mc) (slots + ms) Q (F0 m pc ls rest) q9)
    (kk : ∀ (r : Int32) (u : S) (t : State) (H1 : Heap) (locs1 : List Loc), t.heap = H1 → s.vm.Alike t.vm → post r u → B u t → H.size ≤ H1.size → (∀ q : Nat, q < H.size → ¬ A1 q → H1[q]? = H[q]?) → va_S A0 H0 H1 locs1 → W p l e R s m args below meth c H1 locs1 (cells + mc) (slots + ms) Q (F0 m (pc + 3) ls (.int r :: rest))) : W p l e R s m args below meth c H locs cells slots Q (F0 m pc ls st0) := by
  intro T hT X
  rcases hr T hT X with ⟨v, st₀, t, T', L, h0, X', hL, e1, e2, ⟨⟨r, u, hv, hp, hb⟩, hF⟩, st⟩ | ⟨q, st₀, t, T', L, E, ce, h0, X', hL, e1, e2, ⟨u, hp, hb, hF⟩, hce, hcv, hcl, st⟩
  · cases hv
    obtain ⟨k1, k2, k3⟩ := vx_keep h0 e1 hS hA hf hL hF
    obtain ⟨t2, a1, b1⟩ := kk r u t T'.heap (locs ++ L) e1.symm (by rw [← e2]; exact X'.warmed.alike) hp hb k1 k2 k3 T' rfl X'
    exact ⟨t2, st t2 a1, b1⟩
  · obtain ⟨k1, k2, k3⟩ := vx_keep h0 e1 hS hAX hf hL hF
    obtain ⟨t2, a1, b1⟩ := kx E ce q u t T'.heap (locs ++ L) e1.symm (by rw [← e2]; exact X'.warmed.alike) hp hb k1 k2 k3 (by rw [e1]; exact hce) hcv hcl T' rfl X'
    exact ⟨t2, st.trans a1, b1⟩
theorem vx_calll {S SX : Type} {post : Int64 → S → Prop} {px : SX → Prop} {B : S → State → Prop} {BX : String → SX → State → Prop} {AX : Nat → Prop} (hr : vx_Run p l e R s m args below meth c H locs cells slots mc ms (F0 m pc ls st0) rest (va_Ql post B A1 a) (vx_X px BX AX) free) (hS : va_S A0 H0 H locs) (hA : ∀ q, q < H.size → A1 q → A0 q) (hf : ∀ q, free q → A0 q) (hAX : ∀ q, q < H.size → AX q → A0 q)
    (kx : ∀ (E : String) (ce : Cell) (q9 : Addr) (u : SX) (t : State) (H1 : Heap) (locs1 : List Loc), t.heap = H1 → s.vm.Alike t.vm → px u → BX E u t → H.size ≤ H1.size → (∀ q : Nat, q < H.size → ¬ AX q → H1[q]? = H[q]?) → va_S A0 H0 H1 locs1 → H1[q9]? = some ce → ce.vm = .none → s.vm.findClass E = some ce.cls → vx_W p l e R s m args below meth c H1 locs1 (cells + mc) (slots + ms) Q (F0 m pc ls rest) q9)
    (kk : ∀ (r : Int64) (u : S) (t : State) (H1 : Heap) (locs1 : List Loc), t.heap = H1 → s.vm.Alike t.vm → post r u → B u t → H.size ≤ H1.size → (∀ q : Nat, q < H.size → ¬ A1 q → H1[q]? = H[q]?) → va_S A0 H0 H1 locs1 → W p l e R s m args below meth c H1 locs1 (cells + mc) (slots + ms) Q (F0 m (pc + 3) ls (.long r :: rest))) : W p l e R s m args below meth c H locs cells slots Q (F0 m pc ls st0) := by
  intro T hT X
  rcases hr T hT X with ⟨v, st₀, t, T', L, h0, X', hL, e1, e2, ⟨⟨r, u, hv, hp, hb⟩, hF⟩, st⟩ | ⟨q, st₀, t, T', L, E, ce, h0, X', hL, e1, e2, ⟨u, hp, hb, hF⟩, hce, hcv, hcl, st⟩
  · cases hv
    obtain ⟨k1, k2, k3⟩ := vx_keep h0 e1 hS hA hf hL hF
    obtain ⟨t2, a1, b1⟩ := kk r u t T'.heap (locs ++ L) e1.symm (by rw [← e2]; exact X'.warmed.alike) hp hb k1 k2 k3 T' rfl X'
    exact ⟨t2, st t2 a1, b1⟩
  · obtain ⟨k1, k2, k3⟩ := vx_keep h0 e1 hS hAX hf hL hF
    obtain ⟨t2, a1, b1⟩ := kx E ce q u t T'.heap (locs ++ L) e1.symm (by rw [← e2]; exact X'.warmed.alike) hp hb k1 k2 k3 (by rw [e1]; exact hce) hcv hcl T' rfl X'
    exact ⟨t2, st.trans a1, b1⟩
theorem vx_callf {S SX : Type} {post : UInt32 → S → Prop} {px : SX → Prop} {B : S → State → Prop} {BX : String → SX → State → Prop} {AX : Nat → Prop} (hr : vx_Run p l e R s m args below meth c H locs cells slots mc ms (F0 m pc ls st0) rest (va_Qf post B A1 a) (vx_X px BX AX) free) (hS : va_S A0 H0 H locs) (hA : ∀ q, q < H.size → A1 q → A0 q) (hf : ∀ q, free q → A0 q) (hAX : ∀ q, q < H.size → AX q → A0 q)
    (kx : ∀ (E : String) (ce : Cell) (q9 : Addr) (u : SX) (t : State) (H1 : Heap) (locs1 : List Loc), t.heap = H1 → s.vm.Alike t.vm → px u → BX E u t → H.size ≤ H1.size → (∀ q : Nat, q < H.size → ¬ AX q → H1[q]? = H[q]?) → va_S A0 H0 H1 locs1 → H1[q9]? = some ce → ce.vm = .none → s.vm.findClass E = some ce.cls → vx_W p l e R s m args below meth c H1 locs1 (cells + mc) (slots + ms) Q (F0 m pc ls rest) q9)
    (kk : ∀ (r : UInt32) (u : S) (t : State) (H1 : Heap) (locs1 : List Loc), t.heap = H1 → s.vm.Alike t.vm → post r u → B u t → H.size ≤ H1.size → (∀ q : Nat, q < H.size → ¬ A1 q → H1[q]? = H[q]?) → va_S A0 H0 H1 locs1 → W p l e R s m args below meth c H1 locs1 (cells + mc) (slots + ms) Q (F0 m (pc + 3) ls (.float r :: rest))) : W p l e R s m args below meth c H locs cells slots Q (F0 m pc ls st0) := by
  intro T hT X
  rcases hr T hT X with ⟨v, st₀, t, T', L, h0, X', hL, e1, e2, ⟨⟨r, u, hv, hp, hb⟩, hF⟩, st⟩ | ⟨q, st₀, t, T', L, E, ce, h0, X', hL, e1, e2, ⟨u, hp, hb, hF⟩, hce, hcv, hcl, st⟩
  · cases hv
    obtain ⟨k1, k2, k3⟩ := vx_keep h0 e1 hS hA hf hL hF
    obtain ⟨t2, a1, b1⟩ := kk r u t T'.heap (locs ++ L) e1.symm (by rw [← e2]; exact X'.warmed.alike) hp hb k1 k2 k3 T' rfl X'
    exact ⟨t2, st t2 a1, b1⟩
  · obtain ⟨k1, k2, k3⟩ := vx_keep h0 e1 hS hAX hf hL hF
    obtain ⟨t2, a1, b1⟩ := kx E ce q u t T'.heap (locs ++ L) e1.symm (by rw [← e2]; exact X'.warmed.alike) hp hb k1 k2 k3 (by rw [e1]; exact hce) hcv hcl T' rfl X'
    exact ⟨t2, st.trans a1, b1⟩
theorem vx_calld {S SX : Type} {post : UInt64 → S → Prop} {px : SX → Prop} {B : S → State → Prop} {BX : String → SX → State → Prop} {AX : Nat → Prop} (hr : vx_Run p l e R s m args below meth c H locs cells slots mc ms (F0 m pc ls st0) rest (va_Qd post B A1 a) (vx_X px BX AX) free) (hS : va_S A0 H0 H locs) (hA : ∀ q, q < H.size → A1 q → A0 q) (hf : ∀ q, free q → A0 q) (hAX : ∀ q, q < H.size → AX q → A0 q)
    (kx : ∀ (E : String) (ce : Cell) (q9 : Addr) (u : SX) (t : State) (H1 : Heap) (locs1 : List Loc), t.heap = H1 → s.vm.Alike t.vm → px u → BX E u t → H.size ≤ H1.size → (∀ q : Nat, q < H.size → ¬ AX q → H1[q]? = H[q]?) → va_S A0 H0 H1 locs1 → H1[q9]? = some ce → ce.vm = .none → s.vm.findClass E = some ce.cls → vx_W p l e R s m args below meth c H1 locs1 (cells + mc) (slots + ms) Q (F0 m pc ls rest) q9)
    (kk : ∀ (r : UInt64) (u : S) (t : State) (H1 : Heap) (locs1 : List Loc), t.heap = H1 → s.vm.Alike t.vm → post r u → B u t → H.size ≤ H1.size → (∀ q : Nat, q < H.size → ¬ A1 q → H1[q]? = H[q]?) → va_S A0 H0 H1 locs1 → W p l e R s m args below meth c H1 locs1 (cells + mc) (slots + ms) Q (F0 m (pc + 3) ls (.double r :: rest))) : W p l e R s m args below meth c H locs cells slots Q (F0 m pc ls st0) := by
  intro T hT X
  rcases hr T hT X with ⟨v, st₀, t, T', L, h0, X', hL, e1, e2, ⟨⟨r, u, hv, hp, hb⟩, hF⟩, st⟩ | ⟨q, st₀, t, T', L, E, ce, h0, X', hL, e1, e2, ⟨u, hp, hb, hF⟩, hce, hcv, hcl, st⟩
  · cases hv
    obtain ⟨k1, k2, k3⟩ := vx_keep h0 e1 hS hA hf hL hF
    obtain ⟨t2, a1, b1⟩ := kk r u t T'.heap (locs ++ L) e1.symm (by rw [← e2]; exact X'.warmed.alike) hp hb k1 k2 k3 T' rfl X'
    exact ⟨t2, st t2 a1, b1⟩
  · obtain ⟨k1, k2, k3⟩ := vx_keep h0 e1 hS hAX hf hL hF
    obtain ⟨t2, a1, b1⟩ := kx E ce q u t T'.heap (locs ++ L) e1.symm (by rw [← e2]; exact X'.warmed.alike) hp hb k1 k2 k3 (by rw [e1]; exact hce) hcv hcl T' rfl X'
    exact ⟨t2, st.trans a1, b1⟩
theorem vx_callv {S SX : Type} {post : S → Prop} {px : SX → Prop} {B : S → State → Prop} {BX : String → SX → State → Prop} {AX : Nat → Prop} (hr : vx_Run p l e R s m args below meth c H locs cells slots mc ms (F0 m pc ls st0) rest (va_Qv post B A1 a) (vx_X px BX AX) free) (hS : va_S A0 H0 H locs) (hA : ∀ q, q < H.size → A1 q → A0 q) (hf : ∀ q, free q → A0 q) (hAX : ∀ q, q < H.size → AX q → A0 q)
    (kx : ∀ (E : String) (ce : Cell) (q9 : Addr) (u : SX) (t : State) (H1 : Heap) (locs1 : List Loc), t.heap = H1 → s.vm.Alike t.vm → px u → BX E u t → H.size ≤ H1.size → (∀ q : Nat, q < H.size → ¬ AX q → H1[q]? = H[q]?) → va_S A0 H0 H1 locs1 → H1[q9]? = some ce → ce.vm = .none → s.vm.findClass E = some ce.cls → vx_W p l e R s m args below meth c H1 locs1 (cells + mc) (slots + ms) Q (F0 m pc ls rest) q9)
    (kk : ∀ (u : S) (t : State) (H1 : Heap) (locs1 : List Loc), t.heap = H1 → s.vm.Alike t.vm → post u → B u t → H.size ≤ H1.size → (∀ q : Nat, q < H.size → ¬ A1 q → H1[q]? = H[q]?) → va_S A0 H0 H1 locs1 → W p l e R s m args below meth c H1 locs1 (cells + mc) (slots + ms) Q (F0 m (pc + 3) ls (rest))) : W p l e R s m args below meth c H locs cells slots Q (F0 m pc ls st0) := by
  intro T hT X
  rcases hr T hT X with ⟨v, st₀, t, T', L, h0, X', hL, e1, e2, ⟨⟨u, hv, hp, hb⟩, hF⟩, st⟩ | ⟨q, st₀, t, T', L, E, ce, h0, X', hL, e1, e2, ⟨u, hp, hb, hF⟩, hce, hcv, hcl, st⟩
  · cases hv
    obtain ⟨k1, k2, k3⟩ := vx_keep h0 e1 hS hA hf hL hF
    obtain ⟨t2, a1, b1⟩ := kk u t T'.heap (locs ++ L) e1.symm (by rw [← e2]; exact X'.warmed.alike) hp hb k1 k2 k3 T' rfl X'
    exact ⟨t2, st t2 a1, b1⟩
  · obtain ⟨k1, k2, k3⟩ := vx_keep h0 e1 hS hAX hf hL hF
    obtain ⟨t2, a1, b1⟩ := kx E ce q u t T'.heap (locs ++ L) e1.symm (by rw [← e2]; exact X'.warmed.alike) hp hb k1 k2 k3 (by rw [e1]; exact hce) hcv hcl T' rfl X'
    exact ⟨t2, st.trans a1, b1⟩
/-- caught by the row x of this method's table; the rows ahead don't take it -/
theorem vx_catch {own name : String} {E : String} {ce : Cell} {q : Addr} (hown : s.vm.findClass own = some m.cls) (pre : List ExceptionTableEntry) (x : ExceptionTableEntry) (suf : List ExceptionTableEntry) (hsplit : c.exceptionTable.toList = pre ++ x :: suf)
    (hpass : ∀ z ∈ pre, covers z pc = false ∨ (z.catchType ≠ 0 ∧ ∃ nm : String, (Cond.classLink own z.catchType nm).before args s = true ∧ va_Nc E nm s)) (hx : covers x pc = true) (h0 : x.catchType ≠ 0)
    (hlink : (Cond.classLink own x.catchType name).before args s = true) (hcast : (Cond.castable E name).before args s = true) (hcell : H[q]? = some ce) (hv : ce.vm = .none) (hcl : s.vm.findClass E = some ce.cls)
    (kk : W p l e R s m args below meth c H locs cells slots Q (F0 m x.handlerPc ls [.ref q])) : vx_W p l e R s m args below meth c H locs cells slots Q (F0 m pc ls rest) q := by
  intro T hT X
  have hpl : e.platform.magicAccessors = ({} : Platform).magicAccessors := by rw [X.admits.platform]
  obtain ⟨c3, c4, hc3, hc4, hasg⟩ := Cond.castable_spec hcast
  cases Option.some.inj (hc3.symm.trans hcl)
  obtain ⟨c5, hc5, hcl5⟩ := Cond.classLink_spec hown hlink e.platform hpl
  cases Option.some.inj (hc4.symm.trans hc5)
  obtain ⟨vm', X', st⟩ := X.thenCaughtThrough q (g := F0 m pc ls rest) rfl (Steps.refl _) (by rw [hT]; exact hcell) (by rw [hv]; rfl) (by obtain ⟨k9, h9, -⟩ := Vm.findClass_spec hcl; exact ⟨k9, h9⟩) pre x suf hsplit
    (fun z hz => by
      rcases hpass z hz with h | ⟨hz0, nm, hl1, hn1⟩
      · exact Or.inl h
      · obtain ⟨c6, hc6, hcl6⟩ := Cond.classLink_spec hown hl1 e.platform hpl
        obtain ⟨a8, b8, h1, h2, h3⟩ := hn1
        cases Option.some.inj (h1.symm.trans hcl)
        cases Option.some.inj (h2.symm.trans hc6)
        exact Or.inr ⟨hz0, _, hcl6, h3⟩) hx (Or.inr ⟨h0, c4, hcl5, hasg⟩)
  obtain ⟨t, a1, b1⟩ := kk (T.setVm vm') hT X'
  exact ⟨t, st.trans a1, b1⟩
end Rows
section Ends
variable {p : Program} {l : Launch} {e : Env} {R : Room} {s : State} {m : MethodId} {args : Array Value} {below : List Frame} {meth : Method} {c : Code} {H : Heap} {locs : List Loc} {cells slots : Nat} {Q : State → Prop}
variable {mc ms : Nat} {free : Addr → Prop} {A0 A1 : Nat → Prop} {H0 : Heap} {a : Array Value} {ls : Array Slot} {st0 rest : List Value}
variable {Qc : Array Value → State → Outcome → State → Prop} {XC : String → State → State → Prop}
/-- what a body that may throw owes at its end -/
def vx_MQ (below : List Frame) (Qc : Array Value → State → Outcome → State → Prop) (XC : String → State → State → Prop) (a : Array Value) (s : State) (mc ms : Nat) (free : Addr → Prop) : State → Prop := fun t =>
  ∃ o, t.status = .running ∧ Ended t below o ∧ vx_Q Qc XC mc ms free a s o t
theorem vx_ret {g : JFrame} {mc ms : Nat} (k : W p l e R s m args below meth c H locs cells slots (MQ below Qc args s mc ms free) g) : W p l e R s m args below meth c H locs cells slots (vx_MQ below Qc XC args s mc ms free) g := by
  intro T hT X
  obtain ⟨t, a1, o, b1, b2, b3, b4⟩ := k T hT X
  exact ⟨t, a1, o, b1, b2, Or.inl ⟨b3, b4⟩⟩
/-- not caught here: it goes on to the caller -/
theorem vx_widen {g : JFrame} {q : Addr} {k n : Nat} (h1 : cells ≤ k) (h2 : slots ≤ n) (kk : vx_W p l e R s m args below meth c H locs k n Q g q) : vx_W p l e R s m args below meth c H locs cells slots Q g q := fun T hT X => kk T hT (stand_widen X h1 h2)
theorem vx_out {pc : Nat} {E : String} {ce : Cell} {q : Addr} {mc ms : Nat} (hout : ∀ x ∈ c.exceptionTable.toList, covers x pc = false) (hlocks : meth.locks = false) (hcell : H[q]? = some ce) (hv : ce.vm = .none) (hcl : s.vm.findClass E = some ce.cls)
    (hx : ∀ t : State, t.heap = H → s.vm.Alike t.vm → XC E s t) (hf : ∀ z ∈ locs, free z.base) (hc : cells ≤ mc) (hs : slots ≤ ms) :
    vx_W p l e R s m args below meth c H locs cells slots (vx_MQ below Qc XC args s mc ms free) (F0 m pc ls rest) q := by
  intro T hT X
  obtain ⟨st1, hrun, hend, hW, hsm⟩ := X.leaveThrown q (g := F0 m pc ls rest) rfl rfl rfl hout hlocks
  have hcell9 : (T.setFrames (.throwing q :: below)).heap[q]? = some ce := by
    show T.heap[q]? = some ce
    rw [hT]; exact hcell
  exact ⟨_, st1, .threw q, hrun, hend, Or.inr ⟨q, rfl, E, ce, locs, hx _ hT hW.alike, hcell9, hv, hcl, hW, hsm.mono hc hs, hf⟩⟩
theorem vx_frame {U : State} {k n : Nat} (h : s.sameButNew ({ U with vm := s.vm } : State) locs k n) : s.heap.size ≤ U.heap.size ∧ ∀ q : Nat, q < s.heap.size → (∀ z ∈ locs, z.base ≠ q) → U.heap[q]? = s.heap[q]? := by
  obtain ⟨-, h2, -, -, -, h6⟩ := h
  refine ⟨h2, fun q hq hz => ?_⟩
  obtain ⟨c9, e1, e2, e3, e4⟩ := h6 q _ (Array.getElem?_eq_getElem hq)
  have hs : c9.slots = (s.heap[q]).slots := Array.ext_getElem? fun i => e4 i fun hm => hz _ hm rfl
  have h9 : c9 = s.heap[q] := by
    rw [hs] at e2
    exact e2
  have e5 : U.heap[q]? = some c9 := e1
  rw [e5, h9, Array.getElem?_eq_getElem hq]
/-- the words of a throw but the four that speak of the heap -/
def vx_no (w : Cond) : Bool := decide (w ≠ .isRef (.static Bundle.tN "UNASSIGNED_STACK" Bundle.steD)) && decide (w ≠ .isRef (.static Bundle.tN "SUPPRESSED_SENTINEL" Bundle.listD)) && decide (w ≠ .laysStatic Bundle.tN "UNASSIGNED_STACK" Bundle.steD) && decide (w ≠ .laysStatic Bundle.tN "SUPPRESSED_SENTINEL" Bundle.listD)
def vx_at0 (own : String) (ic : Nat) (X : String) (names : List String) : List Cond := (Bundle.ownAtoms0 own ic X names).filter vx_no
def vx_atS (own : String) (ic : Nat) (X : String) (names : List String) : List Cond := (Bundle.ownAtoms own ic X names).filter vx_no
/-- a word that the tables alone decide, or a good one -/
def vx_ot (w : Cond) : Bool := w.onTables || goodWord w
theorem vx_ot_at {args a' : Array Value} {s U : State} {w : Cond} (hW : s.WarmedH U.vm) (hvm : s.vm = U.vm) (hg : vx_ot w = true) (h : w.before args s = true) : w.before a' U = true := by
  simp only [vx_ot, Bool.or_eq_true] at hg
  rcases hg with hg | hg
  · exact va_tabs hg hvm h
  · exact word_at hW (good_of_word hg) h
/-- a list's words: the good ones out of the method's own list, the others by premises of their own -/
theorem vx_hat {args : Array Value} {s : State} {L B : List Cond} (h1 : ∀ w ∈ L.filter goodWord, w.before args s = true) (h2 : ∀ w ∈ L.filter (fun w => !goodWord w), w ∈ B) (h3 : ∀ w ∈ B, w.before args s = true) : ∀ w ∈ L, w.before args s = true := by
  intro w hw
  by_cases g : goodWord w = true
  · exact h1 w (List.mem_filter.mpr ⟨hw, g⟩)
  · refine h3 w (h2 w (List.mem_filter.mpr ⟨hw, ?_⟩))
    show (!goodWord w) = true
    cases hgw : goodWord w
    · rfl
    · exact absurd hgw g
theorem vx_c {args : Array Value} {s : State} {w : Cond} {B : List Cond} (h : w.before args s = true) (t : ∀ w ∈ B, w.before args s = true) : ∀ w' ∈ w :: B, w'.before args s = true := fun w' h' => (List.mem_cons.mp h').elim (fun e => by rw [e]; exact h) (t w')
theorem vx_n {args : Array Value} {s : State} : ∀ w ∈ ([] : List Cond), w.before args s = true := fun _ h => nomatch h
theorem vx_own {args : Array Value} {s : State} {L : List Cond} (h1 : ∀ w ∈ L.filter vx_no, w.before args s = true)
    (hU : (Cond.isRef (.static Bundle.tN "UNASSIGNED_STACK" Bundle.steD)).before args s = true) (hN : (Cond.isRef (.static Bundle.tN "SUPPRESSED_SENTINEL" Bundle.listD)).before args s = true)
    (lU : (Cond.laysStatic Bundle.tN "UNASSIGNED_STACK" Bundle.steD).before args s = true) (lN : (Cond.laysStatic Bundle.tN "SUPPRESSED_SENTINEL" Bundle.listD).before args s = true) : ∀ w ∈ L, w.before args s = true := by
  intro w hw
  by_cases e1 : w = .isRef (.static Bundle.tN "UNASSIGNED_STACK" Bundle.steD)
  · rw [e1]; exact hU
  · by_cases e2 : w = .isRef (.static Bundle.tN "SUPPRESSED_SENTINEL" Bundle.listD)
    · rw [e2]; exact hN
    · by_cases e3 : w = .laysStatic Bundle.tN "UNASSIGNED_STACK" Bundle.steD
      · rw [e3]; exact lU
      · by_cases e4 : w = .laysStatic Bundle.tN "SUPPRESSED_SENTINEL" Bundle.listD
        · rw [e4]; exact lN
        · exact h1 w (List.mem_filter.mpr ⟨hw, by unfold vx_no; rw [decide_eq_true e1, decide_eq_true e2, decide_eq_true e3, decide_eq_true e4]; rfl⟩)
/-- where a static field lies, its class's statics cell in H -/
def vx_L (C n d : String) (A : Nat → Prop) (U : State) (H : Heap) : Prop := ∃ (c : ClassId) (k : Class) (i : Nat) (f : Field) (a : Nat) (cell : Cell), U.vm.findClass C = some c ∧ U.fieldFound? C n d = some (c, k, i, f) ∧ f.isStatic = true ∧ k.statics = some a ∧ H[a]? = some cell ∧ cell.vm.isStatics = true ∧ cell.cls = c ∧ f.slot < cell.slots.size ∧ k.staticTypes[f.slot]? = some f.type ∧ ¬ A a
theorem vx_L.moved {C n d : String} {A : Nat → Prop} {u U : State} {H : Heap} (hvm : u.vm.Alike U.vm) (h : vx_L C n d A u H) : vx_L C n d A U H := by
  obtain ⟨c, k, i, f, a, cell, h1, h2, h3, h4, h5, h6, h7, h8, h9, h10⟩ := h
  obtain ⟨k', hi', he⟩ := State.fieldFound?_setVm hvm h2
  exact ⟨c, k', i, f, a, cell, by rw [hvm.findClass]; exact h1, hi', h3, by rw [he]; exact h4, h5, h6, h7, h8, by rw [he]; exact h9, h10⟩
theorem vx_L.kept {C n d : String} {A : Nat → Prop} {U : State} {H H1 : Heap} (h : vx_L C n d A U H) (hq : ∀ a : Nat, a < H.size → ¬ A a → H1[a]? = H[a]?) : vx_L C n d A U H1 := by
  obtain ⟨c, k, i, f, a, cell, h1, h2, h3, h4, h5, h6, h7, h8, h9, h10⟩ := h
  exact ⟨c, k, i, f, a, cell, h1, h2, h3, h4, by rw [hq a (Array.getElem?_eq_some_iff.mp h5).1 h10]; exact h5, h6, h7, h8, h9, h10⟩
theorem vx_L.narrow {C n d : String} {A B : Nat → Prop} {U : State} {H : Heap} (h : vx_L C n d A U H) (hAB : ∀ q, B q → A q) : vx_L C n d B U H := by
  obtain ⟨c, k, i, f, a, cell, h1, h2, h3, h4, h5, h6, h7, h8, h9, h10⟩ := h
  exact ⟨c, k, i, f, a, cell, h1, h2, h3, h4, h5, h6, h7, h8, h9, fun z => h10 (hAB _ z)⟩
theorem vx_L.word {C n d : String} {A : Nat → Prop} {s : State} {args : Array Value} (h : vx_L C n d A s s.heap) : (Cond.laysStatic C n d).before args s = true := by
  obtain ⟨c, k, i, f, a, cell, h1, h2, h3, h4, h5, h6, h7, h8, h9, -⟩ := h
  show (Cond.laysStatic C n d).holds args s none s [] = true
  exact Cond.laysStatic_of h1 h2 h3 h4 h5 h6 h7 h8 h9
/-- .. and what it holds: null or some reference -/
def vx_Zq (C n d : String) (A : Nat → Prop) (U : State) (H : Heap) : Prop := va_Zq C n d A U H ∧ vx_L C n d A U H
theorem vx_Zq.moved {C n d : String} {A : Nat → Prop} {u U : State} {H : Heap} (hvm : u.vm.Alike U.vm) (h : vx_Zq C n d A u H) : vx_Zq C n d A U H := ⟨va_Zq.moved hvm h.1, vx_L.moved hvm h.2⟩
theorem vx_Zq.kept {C n d : String} {A : Nat → Prop} {U : State} {H H1 : Heap} (h : vx_Zq C n d A U H) (hq : ∀ a : Nat, a < H.size → ¬ A a → H1[a]? = H[a]?) : vx_Zq C n d A U H1 := ⟨va_Zq.kept h.1 hq, vx_L.kept h.2 hq⟩
theorem vx_Zq.narrow {C n d : String} {A B : Nat → Prop} {U : State} {H : Heap} (h : vx_Zq C n d A U H) (hAB : ∀ q, B q → A q) : vx_Zq C n d B U H := ⟨va_Zq.narrow h.1 hAB, vx_L.narrow h.2 hAB⟩
theorem vx_Zqof {args : Array Value} {s : State} {C n d : String} {A : Nat → Prop} (hl : (Cond.laysStatic C n d).before args s = true) (hini : (Cond.initialized C).before args s = true) (h : (Cond.isRef (.static C n d)).before args s = true) (hA : ∀ a : Nat, a < s.heap.size → ¬ A a) : vx_Zq C n d A s s.heap := by
  refine ⟨va_Zqof hl hini h hA, ?_⟩
  obtain ⟨c, k, i, f, a, cell, h1, h2, h3, h4, h5, h6, h7, h8, h9⟩ := Cond.laysStatic_spec hl
  exact ⟨c, k, i, f, a, cell, h1, h2, h3, h4, h5, h6, h7, h8, h9, hA a (Array.getElem?_eq_some_iff.mp h5).1⟩
theorem vx_isRef {C n d : String} {v : Value} {A : Nat → Prop} {s : State} {args : Array Value} (h : va_Z C n d v A s s.heap) (hv : v.isRef = true) : (Cond.isRef (.static C n d)).before args s = true := by
  obtain ⟨cf, kf, fi, f, a, cell, h1, h2, h3, h4, h5, h6, h7, -⟩ := h
  have he : (Term.static C n d).eval args s none [] s = some v := by
    simp [Term.eval, State.fieldNamed?, h1, h2, h4, h5, h6, h7]
  simp only [Cond.before, Cond.holds, Cond.value, he]
  cases v <;> simp_all [Value.isRef]
theorem vx_isRefq {C n d : String} {A : Nat → Prop} {s : State} {args : Array Value} (h : va_Zq C n d A s s.heap) : (Cond.isRef (.static C n d)).before args s = true := by
  rcases h with h | ⟨t, h⟩
  · exact vx_isRef h rfl
  · exact vx_isRef h rfl
/-- the same frame, seen from here: as if the method were called anew in this heap -/
theorem vx_rebase {T : State} (X : Stand p l e R s m args below meth c T locs cells slots) {R' : Room} (hf : R'.frames ≤ R.frames) (hl : R'.locals ≤ R.locals) (hc : cells + R'.cells ≤ R.cells) (hs : slots + R'.slots ≤ R.slots) :
    Stand p l e R' ((T.setVm s.vm).setFrames (.invoking m args :: below)) m args below meth c T [] 0 0 := by
  have htop : (T.setVm s.vm).topJava?.isSome := X.here.top
  have hF : ((T.setVm s.vm).setFrames (.invoking m args :: below)).frames = .invoking m args :: below := State.frames_setFrames _ (State.cur_lt_of_top htop)
  obtain ⟨g₀, hg0⟩ := Option.isSome_iff_exists.mp htop
  obtain ⟨r, hr⟩ := State.topJava?_eq_some.mp hg0
  have hl9 : e.platform.stackLimits (T.setVm s.vm).me = e.platform.stackLimits s.me := X.limits
  have hb9 : (T.setVm s.vm).me.stackBytes = s.me.stackBytes := X.bytes
  refine ⟨X.admits, X.cas, X.clock, hF, ?_, X.hears, X.method, X.code, X.here, X.tail, X.warmed, ?_, ?_, ?_⟩
  · have h := X.room
    have hU : ((T.setVm s.vm).setFrames (.invoking m args :: below)).localsInUse = s.localsInUse := by
      rw [State.localsInUse_invoking hF (meth := meth) (c := c) X.method X.code, State.localsInUse_invoking X.frames X.method X.code]
    simp only [State.hasRoom, Bool.and_eq_true, decide_eq_true_eq] at h ⊢
    obtain ⟨⟨⟨⟨h1, h2, h3, h4, h5, h6⟩, h7⟩, h8⟩, h9⟩ := h
    rw [X.frames, List.length_cons] at h2 h3
    have q1 := X.heapSize
    have q2 := X.used
    simp only [hF, hU, List.length_cons, State.stackLimits_setFrames, State.stackBytes_setFrames, hl9, hb9]
    refine ⟨⟨⟨⟨by omega, by omega, by omega, by omega, by omega, h6⟩, ?_⟩, ?_⟩, X.book⟩
    · show T.heap.size + R'.cells ≤ e.platform.maxCells
      omega
    · show T.slotsUsed + R'.slots ≤ e.platform.maxSlots
      omega
  · rw [State.stackLimits_setFrames]; rfl
  · rw [State.stackBytes_setFrames]; rfl
  · refine ⟨?_, Nat.le_refl _, Nat.le_refl _, ?_, ?_, fun a c9 h9 => ⟨c9, h9, rfl, rfl, fun _ _ => rfl⟩⟩
    · obtain ⟨t, ht, -⟩ := State.frames_cons hr
      show T.setVm s.vm = { ((T.setVm s.vm).setFrames (.invoking m args :: below)).setFrames (T.setVm s.vm).frames with heap := T.heap, slotsUsed := T.slotsUsed }
      rw [State.setFrames_setFrames, State.setFrames_self ht]
      rfl
    · show T.slotsUsed = T.slotsUsed + ((T.heap.toList.drop T.heap.size).map (·.slots.size)).sum
      rw [List.drop_eq_nil_of_le (Nat.le_of_eq Array.length_toList)]
      rfl
    · show ((T.heap.toList.drop T.heap.size).map (·.slots.size)).sum ≤ 0
      rw [List.drop_eq_nil_of_le (Nat.le_of_eq Array.length_toList)]
      exact Nat.le_refl _
/-- 'throw new E()': new; dup; invokespecial; athrow -/
theorem vx_throw0 {cc : ByteArray} {pc : Nat} (hexec : p.tables.exec = Jvm.exec) (hb : c.code = cc) (hl : l.stackTraces = false) {own cls : String} {names : List String} {ik ic mc ms : Nat} {A : Nat → Prop}
    (hown : s.vm.findClass own = some m.cls) (hcls : Bundle.fit cls = true) (hnames : ∀ n ∈ names, Bundle.fit n = true)
    (hk : (Cond.classLink own ik cls).before args s = true) (hini : (Cond.initialized cls).before args s = true) (hat : ∀ w ∈ vx_at0 own ic cls names, w.before args s = true)
    (hgood : ∀ w ∈ Cond.classLink own ik cls :: Cond.initialized cls :: vx_at0 own ic cls names, vx_ot w = true)
    (hU : vx_Zq Bundle.tN "UNASSIGNED_STACK" Bundle.steD A s s.heap) (hN : vx_Zq Bundle.tN "SUPPRESSED_SENTINEL" Bundle.listD A s s.heap) (hS : va_S A s.heap H locs) (hsize : ls.size = c.maxLocals)
    (d0 : decode cc pc = .ok (.new ik, 3)) (d3 : decode cc (pc + 3) = .ok (.dup, 1)) (d4 : decode cc (pc + 4) = .ok (.invokespecial ic, 3)) (d7 : decode cc (pc + 7) = .ok (.athrow, 1))
    (hout : ∀ x ∈ c.exceptionTable.toList, covers x (pc + 7) = false)
    (hRframes : names.length + 3 < R.frames) (hRlocals : (rest.map fun v => v.category).sum + (13 * (names.length + 1) + 42) ≤ R.locals) (hRcells : cells + 1 ≤ R.cells) (hRslots : slots + 6 ≤ R.slots) (hlocks : meth.locks = false)
    (hx : ∀ t : State, s.vm.Alike t.vm → H.size ≤ t.heap.size → (∀ q : Nat, q < H.size → t.heap[q]? = H[q]?) → XC cls s t)
    (hf : ∀ z ∈ locs, free z.base) (hc : cells + 1 ≤ mc) (hs : slots + 6 ≤ ms) :
    W p l e R s m args below meth c H locs cells slots (vx_MQ below Qc XC args s mc ms free) (F0 m pc ls rest) := by
  intro T hT X
  have htr : e.platform.stackTraces = false := (show e.platform.stackTraces = l.stackTraces by rw [X.admits.platform]).trans hl
  have Y := vx_rebase X (R' := { frames := R.frames, locals := R.locals, cells := 1, slots := 6 }) (Nat.le_refl _) (Nat.le_refl _) hRcells hRslots
  obtain ⟨s', hA⟩ : ∃ z, z = (T.setVm s.vm).setFrames (.invoking m args :: below) := ⟨_, rfl⟩
  rw [← hA] at Y
  have hvm : s'.vm = s.vm := by rw [hA]; rfl
  have hhp : s'.heap = H := by rw [hA]; exact hT
  have hW0 : s.WarmedH s'.vm := by rw [hvm]; exact State.WarmedH.refl s
  have hat' : ∀ w ∈ vx_at0 own ic cls names, w.before args s' = true := fun w hw => vx_ot_at hW0 hvm.symm (hgood w (List.mem_cons_of_mem _ (List.mem_cons_of_mem _ hw))) (hat w hw)
  have hk' : (Cond.classLink own ik cls).before args s' = true := vx_ot_at hW0 hvm.symm (hgood _ List.mem_cons_self) hk
  have hini' : (Cond.initialized cls).before args s' = true := vx_ot_at hW0 hvm.symm (hgood _ (List.mem_cons_of_mem _ List.mem_cons_self)) hini
  have hU' : vx_Zq Bundle.tN "UNASSIGNED_STACK" Bundle.steD A s' s'.heap := by rw [hhp]; exact vx_Zq.moved hW0.alike (hU.kept hS.2.1)
  have hN' : vx_Zq Bundle.tN "SUPPRESSED_SENTINEL" Bundle.listD A s' s'.heap := by rw [hhp]; exact vx_Zq.moved hW0.alike (hN.kept hS.2.1)
  have h : ∀ w ∈ Bundle.ownAtoms0 own ic cls names, w.before args s' = true := vx_own hat' (vx_isRefq hU'.1) (vx_isRefq hN'.1) hU'.2.word hN'.2.word
  have hown' : s'.vm.findClass own = some m.cls := by rw [hvm]; exact hown
  have hins : (Cond.instantiable cls 6).before args s' = true := h _ (by simp [Bundle.ownAtoms0])
  obtain ⟨vm₁, cX, kX, hfX, hkX, -, -, X₁, st1⟩ := Y.newCold hexec (own := own) (C := cls) (index := ik) (n := 6) hown' hk' hins hini'
    (g := F0 m pc ls rest) rfl (by rw [hb]; exact d0) (Nat.le_refl _) (Nat.le_refl _)
  generalize hT1 : (T.setVm vm₁).pushCell { cls := cX, slots := kX.instanceTypes.map defaultValue, vm := .none } = T1 at X₁ st1
  have hcat : (Value.ref T.heap.size).category = 1 := rfl
  have hcellA : T1.heap[T.heap.size]? = some (freshCell cX kX) := by rw [← hT1]; exact State.heap_pushCell_size _ _
  have d3' : decode c.code (pc + 3) = .ok (.dup, 1) := by rw [hb]; exact d3
  obtain ⟨U, hsteps, hrun, hend, hW, hsame, ce, hce, hO⟩ := X₁.ctorThrow0 hexec htr (own := own) (cls := cls) (names := names) (ic := ic) hown' hcls hnames h (fun x hx => nomatch hx) hfX hkX hcellA (by rw [hhp, hT]; exact Nat.le_refl _)
    (g := { method := m, pc := pc + 4, locals := ls, stack := .ref T.heap.size :: .ref T.heap.size :: rest, locked := none }) rfl hsize rfl rfl (rest := rest) rfl
    (by rw [hb]; exact d4) (by rw [hb]; exact d7) hout hRframes (by simp only [List.map_cons, List.sum_cons, hcat]; omega) hlocks
  obtain ⟨f1, f2⟩ := vx_frame hsame
  rw [hhp] at f1 f2
  have hWs : s.WarmedH U.vm := State.WarmedH.trans hW0 hW
  have hcl : s.vm.findClass cls = some ce.cls := by
    have h9 := hO.cls
    rw [hvm] at h9
    exact h9
  have hall : s.sameButNew ({ U with vm := s.vm } : State) locs mc ms := by
    subst hA
    obtain ⟨e1, e2⟩ := hsame
    rw [State.setFrames_setFrames] at e1
    have h2 : (T.setVm s.vm).sameButNew ({ U with vm := s.vm } : State) [] (0 + 1) (0 + 6) := ⟨e1, e2⟩
    have h3 := X.same.trans h2
    rw [List.append_nil] at h3
    exact h3.mono hc hs
  refine ⟨U, ?_, .threw T.heap.size, hrun, hend, Or.inr ⟨T.heap.size, rfl, cls, ce, locs, hx U hWs.alike f1 (fun q hq => f2 q hq (fun z hz => nomatch hz)), hce, hO.vm, hcl, hWs, hall, hf⟩⟩
  refine st1 _ ?_
  show Steps p.tables e below (T1.setTop { method := m, pc := pc + 3, locals := ls, stack := .ref T.heap.size :: rest, locked := none }) _
  jvm_step X₁.here [X₁.here.top, hexec, d3', Value.category]
  exact hsteps
/-- 'throw new E("text")': new; dup; ldc; invokespecial; athrow -/
theorem vx_throwS {cc : ByteArray} {pc : Nat} (hexec : p.tables.exec = Jvm.exec) (hb : c.code = cc) (hl : l.stackTraces = false) {own cls text : String} {names : List String} {ik is ic mc ms sa : Nat} {A : Nat → Prop}
    (hown : s.vm.findClass own = some m.cls) (hcls : Bundle.fit cls = true) (hnames : ∀ n ∈ names, Bundle.fit n = true)
    (hk : (Cond.classLink own ik cls).before args s = true) (hini : (Cond.initialized cls).before args s = true) (hstr : vk_R own is text sa s) (hat : ∀ w ∈ vx_atS own ic cls names, w.before args s = true)
    (hgood : ∀ w ∈ Cond.classLink own ik cls :: Cond.initialized cls :: vx_atS own ic cls names, vx_ot w = true)
    (hU : vx_Zq Bundle.tN "UNASSIGNED_STACK" Bundle.steD A s s.heap) (hN : vx_Zq Bundle.tN "SUPPRESSED_SENTINEL" Bundle.listD A s s.heap) (hS : va_S A s.heap H locs) (hsize : ls.size = c.maxLocals)
    (d0 : decode cc pc = .ok (.new ik, 3)) (d3 : decode cc (pc + 3) = .ok (.dup, 1)) (d4 : decode cc (pc + 4) = .ok (.ldc is, 2)) (d6 : decode cc (pc + 6) = .ok (.invokespecial ic, 3)) (d9 : decode cc (pc + 9) = .ok (.athrow, 1))
    (hout : ∀ x ∈ c.exceptionTable.toList, covers x (pc + 9) = false)
    (hRframes : names.length + 3 < R.frames) (hRlocals : (rest.map fun v => v.category).sum + (13 * (names.length + 1) + 43) ≤ R.locals) (hRcells : cells + 1 ≤ R.cells) (hRslots : slots + 6 ≤ R.slots) (hlocks : meth.locks = false)
    (hx : ∀ t : State, s.vm.Alike t.vm → H.size ≤ t.heap.size → (∀ q : Nat, q < H.size → t.heap[q]? = H[q]?) → XC cls s t)
    (hf : ∀ z ∈ locs, free z.base) (hc : cells + 1 ≤ mc) (hs : slots + 6 ≤ ms) :
    W p l e R s m args below meth c H locs cells slots (vx_MQ below Qc XC args s mc ms free) (F0 m pc ls rest) := by
  intro T hT X
  have htr : e.platform.stackTraces = false := (show e.platform.stackTraces = l.stackTraces by rw [X.admits.platform]).trans hl
  have Y := vx_rebase X (R' := { frames := R.frames, locals := R.locals, cells := 1, slots := 6 }) (Nat.le_refl _) (Nat.le_refl _) hRcells hRslots
  obtain ⟨s', hA⟩ : ∃ z, z = (T.setVm s.vm).setFrames (.invoking m args :: below) := ⟨_, rfl⟩
  rw [← hA] at Y
  have hvm : s'.vm = s.vm := by rw [hA]; rfl
  have hhp : s'.heap = H := by rw [hA]; exact hT
  have hW0 : s.WarmedH s'.vm := by rw [hvm]; exact State.WarmedH.refl s
  have hat' : ∀ w ∈ vx_atS own ic cls names, w.before args s' = true := fun w hw => vx_ot_at hW0 hvm.symm (hgood w (List.mem_cons_of_mem _ (List.mem_cons_of_mem _ hw))) (hat w hw)
  have hk' : (Cond.classLink own ik cls).before args s' = true := vx_ot_at hW0 hvm.symm (hgood _ List.mem_cons_self) hk
  have hini' : (Cond.initialized cls).before args s' = true := vx_ot_at hW0 hvm.symm (hgood _ (List.mem_cons_of_mem _ List.mem_cons_self)) hini
  have hU' : vx_Zq Bundle.tN "UNASSIGNED_STACK" Bundle.steD A s' s'.heap := by rw [hhp]; exact vx_Zq.moved hW0.alike (hU.kept hS.2.1)
  have hN' : vx_Zq Bundle.tN "SUPPRESSED_SENTINEL" Bundle.listD A s' s'.heap := by rw [hhp]; exact vx_Zq.moved hW0.alike (hN.kept hS.2.1)
  have h : ∀ w ∈ Bundle.ownAtoms own ic cls names, w.before args s' = true := vx_own hat' (vx_isRefq hU'.1) (vx_isRefq hN'.1) hU'.2.word hN'.2.word
  have hown' : s'.vm.findClass own = some m.cls := by rw [hvm]; exact hown
  have hins : (Cond.instantiable cls 6).before args s' = true := h _ (by simp [Bundle.ownAtoms])
  obtain ⟨vm₁, cX, kX, hfX, hkX, -, -, X₁, st1⟩ := Y.newCold hexec (own := own) (C := cls) (index := ik) (n := 6) hown' hk' hins hini'
    (g := F0 m pc ls rest) rfl (by rw [hb]; exact d0) (Nat.le_refl _) (Nat.le_refl _)
  generalize hT1 : (T.setVm vm₁).pushCell { cls := cX, slots := kX.instanceTypes.map defaultValue, vm := .none } = T1 at X₁ st1
  have hcat : (Value.ref T.heap.size).category = 1 := rfl
  have hcellA : T1.heap[T.heap.size]? = some (freshCell cX kX) := by rw [← hT1]; exact State.heap_pushCell_size _ _
  have d3' : decode c.code (pc + 3) = .ok (.dup, 1) := by rw [hb]; exact d3
  have d4' : decode c.code (pc + 4) = .ok (.ldc is, 2) := by rw [hb]; exact d4
  have hstr' : vk_R own is text sa s' := vk_R.warm hW0 hstr
  obtain ⟨U, hsteps, hrun, hend, hW, hsame, ce, hce, hO⟩ := X₁.ctorThrowS hexec htr (own := own) (cls := cls) (names := names) (ic := ic) hown' hcls hnames h (fun x hx => nomatch hx) hfX hkX hcellA (by rw [hhp, hT]; exact Nat.le_refl _) (msg := .ref sa) rfl
    (g := { method := m, pc := pc + 6, locals := ls, stack := .ref sa :: .ref T.heap.size :: .ref T.heap.size :: rest, locked := none }) rfl hsize rfl rfl (rest := rest) rfl
    (by rw [hb]; exact d6) (by rw [hb]; exact d9) hout hRframes (by simp only [List.map_cons, List.sum_cons, hcat]; omega) hlocks
  obtain ⟨f1, f2⟩ := vx_frame hsame
  rw [hhp] at f1 f2
  have hWs : s.WarmedH U.vm := State.WarmedH.trans hW0 hW
  have hcl : s.vm.findClass cls = some ce.cls := by
    have h9 := hO.cls
    rw [hvm] at h9
    exact h9
  have hall : s.sameButNew ({ U with vm := s.vm } : State) locs mc ms := by
    subst hA
    obtain ⟨e1, e2⟩ := hsame
    rw [State.setFrames_setFrames] at e1
    have h2 : (T.setVm s.vm).sameButNew ({ U with vm := s.vm } : State) [] (0 + 1) (0 + 6) := ⟨e1, e2⟩
    have h3 := X.same.trans h2
    rw [List.append_nil] at h3
    exact h3.mono hc hs
  refine ⟨U, ?_, .threw T.heap.size, hrun, hend, Or.inr ⟨T.heap.size, rfl, cls, ce, locs, hx U hWs.alike f1 (fun q hq => f2 q hq (fun z hz => nomatch hz)), hce, hO.vm, hcl, hWs, hall, hf⟩⟩
  refine st1 _ ?_
  show Steps p.tables e below (T1.setTop { method := m, pc := pc + 3, locals := ls, stack := .ref T.heap.size :: rest, locked := none }) _
  jvm_step X₁.here [X₁.here.top, hexec, d3', Value.category]
  exact X₁.ldcString hexec (own := own) (text := text) (index := is) (a := sa) hown' hstr'.1 hstr'.2
    (g := { method := m, pc := pc + 4, locals := ls, stack := .ref T.heap.size :: .ref T.heap.size :: rest, locked := none }) rfl d4' _ hsteps
/-- 'throw new E("text")', the text by a wide index -/
theorem vx_throwSW {cc : ByteArray} {pc : Nat} (hexec : p.tables.exec = Jvm.exec) (hb : c.code = cc) (hl : l.stackTraces = false) {own cls text : String} {names : List String} {ik is ic mc ms sa : Nat} {A : Nat → Prop}
    (hown : s.vm.findClass own = some m.cls) (hcls : Bundle.fit cls = true) (hnames : ∀ n ∈ names, Bundle.fit n = true)
    (hk : (Cond.classLink own ik cls).before args s = true) (hini : (Cond.initialized cls).before args s = true) (hstr : vk_R own is text sa s) (hat : ∀ w ∈ vx_atS own ic cls names, w.before args s = true)
    (hgood : ∀ w ∈ Cond.classLink own ik cls :: Cond.initialized cls :: vx_atS own ic cls names, vx_ot w = true)
    (hU : vx_Zq Bundle.tN "UNASSIGNED_STACK" Bundle.steD A s s.heap) (hN : vx_Zq Bundle.tN "SUPPRESSED_SENTINEL" Bundle.listD A s s.heap) (hS : va_S A s.heap H locs) (hsize : ls.size = c.maxLocals)
    (d0 : decode cc pc = .ok (.new ik, 3)) (d3 : decode cc (pc + 3) = .ok (.dup, 1)) (d4 : decode cc (pc + 4) = .ok (.ldc_w is, 3)) (d7 : decode cc (pc + 7) = .ok (.invokespecial ic, 3)) (d10 : decode cc (pc + 10) = .ok (.athrow, 1))
    (hout : ∀ x ∈ c.exceptionTable.toList, covers x (pc + 10) = false)
    (hRframes : names.length + 3 < R.frames) (hRlocals : (rest.map fun v => v.category).sum + (13 * (names.length + 1) + 43) ≤ R.locals) (hRcells : cells + 1 ≤ R.cells) (hRslots : slots + 6 ≤ R.slots) (hlocks : meth.locks = false)
    (hx : ∀ t : State, s.vm.Alike t.vm → H.size ≤ t.heap.size → (∀ q : Nat, q < H.size → t.heap[q]? = H[q]?) → XC cls s t)
    (hf : ∀ z ∈ locs, free z.base) (hc : cells + 1 ≤ mc) (hs : slots + 6 ≤ ms) :
    W p l e R s m args below meth c H locs cells slots (vx_MQ below Qc XC args s mc ms free) (F0 m pc ls rest) := by
  intro T hT X
  have htr : e.platform.stackTraces = false := (show e.platform.stackTraces = l.stackTraces by rw [X.admits.platform]).trans hl
  have Y := vx_rebase X (R' := { frames := R.frames, locals := R.locals, cells := 1, slots := 6 }) (Nat.le_refl _) (Nat.le_refl _) hRcells hRslots
  obtain ⟨s', hA⟩ : ∃ z, z = (T.setVm s.vm).setFrames (.invoking m args :: below) := ⟨_, rfl⟩
  rw [← hA] at Y
  have hvm : s'.vm = s.vm := by rw [hA]; rfl
  have hhp : s'.heap = H := by rw [hA]; exact hT
  have hW0 : s.WarmedH s'.vm := by rw [hvm]; exact State.WarmedH.refl s
  have hat' : ∀ w ∈ vx_atS own ic cls names, w.before args s' = true := fun w hw => vx_ot_at hW0 hvm.symm (hgood w (List.mem_cons_of_mem _ (List.mem_cons_of_mem _ hw))) (hat w hw)
  have hk' : (Cond.classLink own ik cls).before args s' = true := vx_ot_at hW0 hvm.symm (hgood _ List.mem_cons_self) hk
  have hini' : (Cond.initialized cls).before args s' = true := vx_ot_at hW0 hvm.symm (hgood _ (List.mem_cons_of_mem _ List.mem_cons_self)) hini
  have hU' : vx_Zq Bundle.tN "UNASSIGNED_STACK" Bundle.steD A s' s'.heap := by rw [hhp]; exact vx_Zq.moved hW0.alike (hU.kept hS.2.1)
  have hN' : vx_Zq Bundle.tN "SUPPRESSED_SENTINEL" Bundle.listD A s' s'.heap := by rw [hhp]; exact vx_Zq.moved hW0.alike (hN.kept hS.2.1)
  have h : ∀ w ∈ Bundle.ownAtoms own ic cls names, w.before args s' = true := vx_own hat' (vx_isRefq hU'.1) (vx_isRefq hN'.1) hU'.2.word hN'.2.word
  have hown' : s'.vm.findClass own = some m.cls := by rw [hvm]; exact hown
  have hins : (Cond.instantiable cls 6).before args s' = true := h _ (by simp [Bundle.ownAtoms])
  obtain ⟨vm₁, cX, kX, hfX, hkX, -, -, X₁, st1⟩ := Y.newCold hexec (own := own) (C := cls) (index := ik) (n := 6) hown' hk' hins hini'
    (g := F0 m pc ls rest) rfl (by rw [hb]; exact d0) (Nat.le_refl _) (Nat.le_refl _)
  generalize hT1 : (T.setVm vm₁).pushCell { cls := cX, slots := kX.instanceTypes.map defaultValue, vm := .none } = T1 at X₁ st1
  have hcat : (Value.ref T.heap.size).category = 1 := rfl
  have hcellA : T1.heap[T.heap.size]? = some (freshCell cX kX) := by rw [← hT1]; exact State.heap_pushCell_size _ _
  have d3' : decode c.code (pc + 3) = .ok (.dup, 1) := by rw [hb]; exact d3
  have d4' : decode c.code (pc + 4) = .ok (.ldc_w is, 3) := by rw [hb]; exact d4
  have hstr' : vk_R own is text sa s' := vk_R.warm hW0 hstr
  obtain ⟨U, hsteps, hrun, hend, hW, hsame, ce, hce, hO⟩ := X₁.ctorThrowS hexec htr (own := own) (cls := cls) (names := names) (ic := ic) hown' hcls hnames h (fun x hx => nomatch hx) hfX hkX hcellA (by rw [hhp, hT]; exact Nat.le_refl _) (msg := .ref sa) rfl
    (g := { method := m, pc := pc + 7, locals := ls, stack := .ref sa :: .ref T.heap.size :: .ref T.heap.size :: rest, locked := none }) rfl hsize rfl rfl (rest := rest) rfl
    (by rw [hb]; exact d7) (by rw [hb]; exact d10) hout hRframes (by simp only [List.map_cons, List.sum_cons, hcat]; omega) hlocks
  obtain ⟨f1, f2⟩ := vx_frame hsame
  rw [hhp] at f1 f2
  have hWs : s.WarmedH U.vm := State.WarmedH.trans hW0 hW
  have hcl : s.vm.findClass cls = some ce.cls := by
    have h9 := hO.cls
    rw [hvm] at h9
    exact h9
  have hall : s.sameButNew ({ U with vm := s.vm } : State) locs mc ms := by
    subst hA
    obtain ⟨e1, e2⟩ := hsame
    rw [State.setFrames_setFrames] at e1
    have h2 : (T.setVm s.vm).sameButNew ({ U with vm := s.vm } : State) [] (0 + 1) (0 + 6) := ⟨e1, e2⟩
    have h3 := X.same.trans h2
    rw [List.append_nil] at h3
    exact h3.mono hc hs
  refine ⟨U, ?_, .threw T.heap.size, hrun, hend, Or.inr ⟨T.heap.size, rfl, cls, ce, locs, hx U hWs.alike f1 (fun q hq => f2 q hq (fun z hz => nomatch hz)), hce, hO.vm, hcl, hWs, hall, hf⟩⟩
  refine st1 _ ?_
  show Steps p.tables e below (T1.setTop { method := m, pc := pc + 3, locals := ls, stack := .ref T.heap.size :: rest, locked := none }) _
  jvm_step X₁.here [X₁.here.top, hexec, d3', Value.category]
  exact X₁.ldcStringW hexec (own := own) (text := text) (index := is) (a := sa) hown' hstr'.1 hstr'.2
    (g := { method := m, pc := pc + 4, locals := ls, stack := .ref T.heap.size :: .ref T.heap.size :: rest, locked := none }) rfl d4' _ hsteps
end Ends
section Bodies
variable {l : Launch}
theorem vx_ofW {y : MethodName} {ws ws' : List Cond} {rm : Room} {Pc : Array Value → State → Prop} {Qc : Array Value → State → Outcome → State → Prop} {XC : String → State → State → Prop} {mc ms : Nat} {free : Addr → Prop} {cc : ByteArray} {maxL : Nat} {ret : Option FieldType}
    (hy : plainName y.cls = true) (hw : ws = Cond.code y cc maxL ret :: ws')
    (body : ∀ p e s m args below meth c s₁, BodyLoose p l y (headSpec ws rm) cc maxL ret e s m args below meth c s₁ → c.maxLocals = maxL → (∀ x ∈ c.exceptionTable.toList, False) → Pc args s →
      W p l e (headSpec ws rm).room s m args below meth c s.heap [] 0 0 (vx_MQ below Qc XC args s mc ms free) (entryFrame m args maxL)) : vx_Met l y ws rm Pc Qc XC mc ms free := by
  refine MetFree.of_bodyS (code := cc) (maxLocals := maxL) (ret := ret) hy ?_ ?_
  · intro args s m h hn
    obtain ⟨meth, c, h1, h2, h3, h4, h5, h6, -, -⟩ := Cond.code_spec hn (atoms_spec (ws := ws) h _ (by rw [hw]; exact List.mem_cons_self))
    exact ⟨meth, c, h1, h2, h3, h4, h5, h6⟩
  · intro p e s m args below meth c s₁ B hml hP _
    have hh0 : s₁.heap = s.heap := by rw [B.state]; rfl
    have ht : ∀ x ∈ c.exceptionTable.toList, False := by
      obtain ⟨meth9, c9, h1, h2, -, -, -, -, h7, -⟩ := Cond.code_spec B.named (atoms_spec (ws := ws) B.pre _ (by rw [hw]; exact List.mem_cons_self))
      cases Option.some.inj (h1.symm.trans B.method)
      cases Option.some.inj (h2.symm.trans (Stand.of_body B).code)
      intro x hx
      rw [Array.isEmpty_iff.mp h7] at hx
      cases hx
    obtain ⟨t, a1, o, b1, b2, b3⟩ := body p e s m args below meth c s₁ B hml ht hP s₁ hh0 (Stand.of_body B)
    exact ⟨t, o, a1, b1, b2, b3⟩
/-- the table of a body with handlers -/
theorem vx_table {p : Program} {x y : MethodName} {S : Spec} {cc bytes : ByteArray} {maxL maxL' : Nat} {ret ret' : Option FieldType} {e : Env} {s s₁ : State} {m : MethodId} {args : Array Value} {below : List Frame} {meth : Method} {c : Code} {hh : List (Nat × Nat × Nat × Nat)}
    (B : BodyLoose p l y S cc maxL ret e s m args below meth c s₁) (h : (Cond.codeWith y bytes maxL' ret' hh).before args s = true) : c.exceptionTable.toList = tableOf hh := by
  obtain ⟨m9, meth9, c9, hn9, h1, h2, -, -, h6, -⟩ := Cond.codeWith_spec h
  cases Option.some.inj (hn9.symm.trans B.named)
  cases Option.some.inj (h1.symm.trans B.method)
  cases Option.some.inj (h2.symm.trans (Stand.of_body B).code)
  rw [← h6, table_eq]
end Bodies
end VXA
/-! ===== END ===== -/
/-! ===== BEGIN a static call of a method with an exception table ===== -/
section VXS
variable {p : Program} {l : Launch} {e : Env} {R : Room} {s : State} {m : MethodId} {args : Array Value} {below : List Frame} {meth : Method} {c : Code} {T : State} {H : Heap} {locs : List Loc} {cells slots : Nat}
abbrev vx_CSW (R : Room) (s : State) (args : Array Value) (own : String) (index : Nat) (y : MethodName) (bytes : ByteArray) (maxL : Nat) (ret : Option FieldType) (hh : List (Nat × Nat × Nat × Nat)) (ws : List Cond) (rm : Room) (mc ms n : Nat) : Prop :=
  (rm.cells = mc ∧ rm.slots = ms ∧ rm.frames + 1 ≤ R.frames ∧ 8 + (maxL + 11) + rm.locals ≤ R.locals ∧ (∀ w ∈ ws, ∀ (a' : Array Value) (U : State), s.WarmedH U.vm → w.before a' U = true) ∧ Cond.codeWith y bytes maxL ret hh ∈ ws) ∧
  (Cond.codeWith y bytes maxL ret hh).before args s = true ∧ (Cond.initialized y.cls).before args s = true ∧ (y.cls ≠ "java/lang/invoke/MethodHandle" ∧ y.cls ≠ "java/lang/invoke/VarHandle") ∧
  (∀ sig, parseMethodDescriptor y.desc = some sig → n = sig.parameters.length) ∧ (Cond.methodLink own index y).before args s = true ∧ (Cond.static y).before args s = true
theorem vx_cwSW {own : String} {index maxL mc ms : Nat} {y : MethodName} {bytes : ByteArray} {ret : Option FieldType} {hh : List (Nat × Nat × Nat × Nat)} {Ts ws ws' : List Cond} {rm : Room} (n : Nat) (ht : ∀ w ∈ Ts, w.before args s = true) (hT : GoodIn Ts (va_wsS own index y ws)) (hw : ws = Cond.codeWith y bytes maxL ret hh :: ws') (hrc : rm.cells = mc) (hrs : rm.slots = ms)
    (hd : y.cls ≠ "java/lang/invoke/MethodHandle" ∧ y.cls ≠ "java/lang/invoke/VarHandle" ∧ (parseMethodDescriptor y.desc).map (fun d => d.parameters.length) = some n) (hR : rm.frames + 1 ≤ R.frames ∧ 8 + (maxL + 11) + rm.locals ≤ R.locals) :
    vx_CSW R s args own index y bytes maxL ret hh ws rm mc ms n := by
  have ok : ∀ w ∈ va_wsS own index y ws, w.before args s = true := fun w h => ht w (hT w h).1
  have hG : GoodIn Ts ws := fun w h => hT w (by unfold va_wsS; exact List.mem_append_right _ h)
  have hc : Cond.codeWith y bytes maxL ret hh ∈ ws := by rw [hw]; exact List.mem_cons_self
  refine ⟨⟨hrc, hrs, hR.1, hR.2, pay_in ht hG, hc⟩, ht _ (hG _ hc).1, ok _ (by simp [va_wsS]), ⟨hd.1, hd.2.1⟩, fun sig h => ?_, ok _ (by simp [va_wsS]), ok _ (by simp [va_wsS])⟩
  have h2 := hd.2.2
  rw [h] at h2
  exact (Option.some.inj h2).symm
theorem vx_callSW (X : Stand p l e R s m args below meth c T locs cells slots) (hexec : p.tables.exec = Jvm.exec) {own : String} {index : Nat} {y : MethodName} {bytes : ByteArray} {maxL : Nat} {ret : Option FieldType} {hh : List (Nat × Nat × Nat × Nat)}
    (hown : s.vm.findClass own = some m.cls) (hlink : (Cond.methodLink own index y).before args s = true) (hstat : (Cond.static y).before args s = true) (hinit : (Cond.initialized y.cls).before args s = true)
    (hcode : (Cond.codeWith y bytes maxL ret hh).before args s = true) (hy : y.cls ≠ "java/lang/invoke/MethodHandle" ∧ y.cls ≠ "java/lang/invoke/VarHandle")
    {W9 : Nat} {Pre : Pt → Array Value → Prop} {Post : Pt → Array Value → Option Value → Pt → Prop} (hK : Back l R p e below s args y 3 W9 Pre Post)
    {g : JFrame} (hg : g.method = m) (hsize : g.locals.size = c.maxLocals) {argsL rest : List Value} (hlen : ∀ sig, parseMethodDescriptor y.desc = some sig → argsL.length = sig.parameters.length)
    (hstack : g.stack = argsL.reverse ++ rest) (hW : 2 * g.monitorRoom + (rest.map fun v => v.category).sum ≤ W9) (hdg : decode c.code g.pc = .ok (.invokestatic index, 3))
    (hpre : ∀ vm₁, s.WarmedH vm₁ → Pre ⟨T.setVm vm₁, locs, cells, slots⟩ argsL.toArray) :
    ∃ (v : Option Value) (vm₁ : Vm) (B : Pt), s.WarmedH vm₁ ∧ Stand p l e R s m args below meth c B.U B.locs B.cells B.slots ∧ Post ⟨T.setVm vm₁, locs, cells, slots⟩ argsL.toArray v B ∧
      ∀ target, Steps p.tables e below (B.U.setTop { g with pc := g.pc + 3, stack := v.toList ++ rest }) target → Steps p.tables e below (T.setTop g) target := by
  obtain ⟨mk, methM, cM, hnamed, hmethM, -, -, -, -, -, -, hsigM⟩ := Cond.codeWith_spec hcode
  have hstatic : methM.isStatic = true := Cond.static_spec hnamed hmethM hstat
  obtain ⟨kP, hkP, -⟩ := className_of_methodNamed hnamed
  have hinitP : kP.init = .initialized := Cond.initialized_spec (findClass_of_methodNamed hnamed) hkP hinit
  obtain ⟨vm₁, X₁, hstep₁⟩ := X.invokestatic hexec hown hlink hnamed hmethM hstatic hkP hinitP hy (g := g) hg (argsL := argsL) (rest := rest) (hlen _ hsigM) hstack hdg
  obtain ⟨v, B, X', hpost, hsteps⟩ := hK m meth c ⟨T.setVm vm₁, locs, cells, slots⟩ { g with stack := rest } (.invokestatic index) mk argsL.toArray X₁ hg hsize hdg hW (X₁.named hnamed) (hpre vm₁ X₁.warmed)
  exact ⟨v, vm₁, B, X₁.warmed, X', hpost, fun target h => hstep₁ _ fun acts => by rw [doInvoke_state]; exact hsteps.trans h⟩
theorem vx_runSW {y : MethodName} {bytes cc : ByteArray} {maxL nL mc ms n index : Nat} {ret : Option FieldType} {hh : List (Nat × Nat × Nat × Nat)} {ws : List Cond} {rm : Room} {Pc : Array Value → State → Prop} {Qc : Array Value → State → Outcome → State → Prop} {free : Addr → Prop} {Ts : List Cond} {own : String} {As rest : List Value} {g : JFrame}
    (S : CallFix p m c cc nL s args Ts own) (hM : Met l y ws rm Pc Qc mc ms free) (cw : vx_CSW R s args own index y bytes maxL ret hh ws rm mc ms n) (hp : PreS s H Pc As)
    (hg : g.method = m) (hn : As.length = n) (hsize : g.locals.size = nL) (hstack : g.stack = As.reverse ++ rest) (hW : 2 * g.monitorRoom + (rest.map fun v => v.category).sum ≤ 8) (hdg : decode cc g.pc = .ok (.invokestatic index, 3)) (hf : cells + mc ≤ R.cells ∧ slots + ms ≤ R.slots) :
    va_Run p l e R s m args below meth c H locs cells slots mc ms g rest (Qc As.toArray) (free) := by
  obtain ⟨⟨hrc, hrs, hfr, hlo, hws, hcw⟩, hcode, hini, hy, hlen, hl, hstt⟩ := cw
  have hK : Back l R p e below s args y 3 8 (PreOf R mc ms Pc) (PostOf Qc mc ms free) := va_backW (hh := hh) (bytes := bytes) (maxL := maxL) (ret := ret) hM hp.1 hrc hrs hfr hlo hws hcw (fun a' U hW => word_at hW (Or.inl (by first | rfl | simp [Cond.onTables, Cond.keeps, Cond.steady])) hini)
  obtain ⟨hx, hb, hml, ho, -⟩ := S
  intro T hT X
  obtain ⟨v, vm₁, ⟨U', l2, c2, s2⟩, hW₁, X', ⟨g', mk, t, L, e1, e2, hq, h1, hL, h2, h3⟩, st⟩ := vx_callSW X hx (hh := hh) (bytes := bytes) (maxL := maxL) (ret := ret) ho hl hstt hini hcode hy hK hg (hsize.trans hml.symm) (argsL := As) (rest := rest) (fun sig h => hn.trans (hlen sig h)) hstack hW (by rw [hb]; exact hdg)
    (fun vm₁ hW₁ => ⟨hf.1, hf.2, hp.2 (T.setVm vm₁) hT hW₁⟩)
  dsimp only [Pt.U, Pt.locs, Pt.cells, Pt.slots] at X' e1 e2 h1 h2 h3 st
  subst h1; subst h2; subst h3
  exact ⟨v, (T.setVm vm₁).calling g' mk As.toArray, t, U', L, hT, X', hL, e1, e2, hq, st⟩
/-- not caught here, past rows that name other classes: it goes on to the caller -/
theorem vx_outP {p : Program} {l : Launch} {e : Env} {R : Room} {s : State} {m : MethodId} {args : Array Value} {below : List Frame} {meth : Method} {c : Code} {H : Heap} {locs : List Loc} {cells slots : Nat} {free : Addr → Prop} {ls : Array Slot} {rest : List Value} {Qc : Array Value → State → Outcome → State → Prop} {XC : String → State → State → Prop}
    {pc : Nat} {own E : String} {ce : Cell} {q : Addr} {mc ms : Nat} (hown : s.vm.findClass own = some m.cls) (hlocks : meth.locks = false)
    (hpass : ∀ z ∈ c.exceptionTable.toList, covers z pc = false ∨ (z.catchType ≠ 0 ∧ ∃ nm : String, (Cond.classLink own z.catchType nm).before args s = true ∧ va_Nc E nm s)) (hcell : H[q]? = some ce) (hv : ce.vm = .none) (hcl : s.vm.findClass E = some ce.cls)
    (hx : ∀ t : State, t.heap = H → s.vm.Alike t.vm → XC E s t) (hf : ∀ z ∈ locs, free z.base) (hc : cells ≤ mc) (hs : slots ≤ ms) :
    vx_W p l e R s m args below meth c H locs cells slots (vx_MQ below Qc XC args s mc ms free) (F0 m pc ls rest) q := by
  intro T hT X
  have hpl : e.platform.magicAccessors = ({} : Platform).magicAccessors := by rw [X.admits.platform]
  obtain ⟨vm', hW', X', st⟩ := X.outThrough hlocks q (g := F0 m pc ls rest) rfl rfl rfl (cell := ce) (by rw [hT]; exact hcell) (by rw [hv]; rfl)
    (by obtain ⟨k9, h9, -⟩ := Vm.findClass_spec hcl; exact ⟨k9, h9⟩) (fun z hz => by
      rcases hpass z hz with h | ⟨hz0, nm, hl1, hn1⟩
      · exact Or.inl h
      · obtain ⟨c6, hc6, hcl6⟩ := Cond.classLink_spec hown hl1 e.platform hpl
        obtain ⟨a8, b8, h1, h2, h3⟩ := hn1
        cases Option.some.inj (h1.symm.trans hcl)
        cases Option.some.inj (h2.symm.trans hc6)
        exact Or.inr ⟨hz0, _, hcl6, h3⟩)
  obtain ⟨g₀, hfr⟩ := X'.frames_eq
  have hcell9 : ((T.setVm vm').setFrames (.throwing q :: below)).heap[q]? = some ce := by
    show T.heap[q]? = some ce
    rw [hT]; exact hcell
  have hend : Ended ((T.setVm vm').setFrames (.throwing q :: below)) below (.threw q) := State.frames_setFrames _ (State.cur_lt_of_frames hfr)
  refine ⟨(T.setVm vm').setFrames (.throwing q :: below), ?_, .threw q, X'.here.running, hend, Or.inr ⟨q, rfl, E, ce, locs, hx _ hT (X'.ends _).1.alike, hcell9, hv, hcl, (X'.ends _).1, (X'.ends _).2.mono hc hs, hf⟩⟩
  rw [X.pushThrowing_eq]
  exact st
/-- a thing of a world lies in the heap -/
theorem vx_lt {D : va_G} {cl : List vw_C} {ws : va_W} {H1 : Heap} (h : va_P D cl ws H1) {k : Nat} {q : Nat × va_E} (hk : ws[k]? = some q) : q.1 < H1.size := (h k q hk).lt
end VXS
/-! ===== END ===== -/
/-! ===== BEGIN methods with a table of their own: called by a name, returning or throwing ===== -/
section VXH
/-! vx_backW, vx_callVX, vx_callSX, vx_callVW, vx_runVW, vx_runVX, vx_runSX, vx_ofWH follow the same proofs as their sisters above (Free/Laws.lean, Shelf42/LK1.lean); vx_outP calls Shelf42/NT130.lean (outThrough). -/
section
variable {l : Launch} {R : Room} {p : Program} {e : Env} {below : List Frame} {s : State} {sargs : Array Value} {y : MethodName} {len W9 : Nat}
theorem vx_backW {ws : List Cond} {rm : Room} {Pc : Array Value → State → Prop} {Qc : Array Value → State → Outcome → State → Prop} {XC : String → State → State → Prop} {mc ms : Nat} {free : Addr → Prop} {bytes : ByteArray} {maxL : Nat} {ret : Option FieldType} {hh : List (Nat × Nat × Nat × Nat)}
    (hM : vx_Met l y ws rm Pc Qc XC mc ms free) (hblind : FrameBlind Pc) (hrc : rm.cells = mc) (hrs : rm.slots = ms)
    (hframes : rm.frames + 1 ≤ R.frames) (hlocals : W9 + (maxL + 11) + rm.locals ≤ R.locals)
    (hws : ∀ w ∈ ws, ∀ a' U, s.WarmedH U.vm → w.before a' U = true) (hcode : Cond.codeWith y bytes maxL ret hh ∈ ws) (hinit : ∀ a' U, s.WarmedH U.vm → (Cond.initialized y.cls).before a' U = true) :
    vx_Back l R p e below s sargs y len W9 (PreOf R mc ms Pc) (PostOf Qc mc ms free) (vx_Post XC mc ms free) := by
  intro m meth c A g ig mk a X hg hsize hdg hW hn hp
  have h1 : (headSpec ws rm).pre.before a A.U = true := atoms_intro fun w hw => hws w hw _ _ X.warmed
  have h2 : (Cond.codeWith y bytes maxL ret hh).before a A.U = true := hws _ hcode _ _ X.warmed
  have h3 : (Cond.initialized y.cls).before a A.U = true := hinit _ _ X.warmed
  have h4 : A.cells + (headSpec ws rm).room.cells ≤ R.cells := by rw [show (headSpec ws rm).room.cells = mc from hrc]; exact hp.1
  have h5 : A.slots + (headSpec ws rm).room.slots ≤ R.slots := by rw [show (headSpec ws rm).room.slots = ms from hrs]; exact hp.2.1
  have hPc : Pc a (A.U.calling g mk a) := hblind _ _ _ _ hp.2.2
  obtain ⟨U, Ls, c0, s0⟩ := A
  dsimp only [Pt.U, Pt.locs, Pt.cells, Pt.slots] at h1 h2 h3 h4 h5 X hn hPc ⊢
  obtain ⟨m9, methY, cY, hn9, hmY, hcY, -, hlY, -⟩ := Cond.codeWith_spec h2
  cases Option.some.inj (hn9.symm.trans hn)
  obtain ⟨kY, hkY, -⟩ := className_of_methodNamed hn
  have hinitY : kY.init = .initialized := Cond.initialized_spec (findClass_of_methodNamed hn) hkY h3
  have h : At U g.method c below := by rw [hg]; exact X.here
  have hlocals9 : W9 + (maxL + 11) + (headSpec ws rm).room.locals ≤ R.locals := hlocals
  have happ : (headSpec ws rm).appliesLoose y e.platform (U.calling g mk a) = true :=
    Spec.appliesLoose_calling (g := g) h hdg hn hkY hinitY
      (X.room_calling (g := g) (R' := (headSpec ws rm).room) hsize hmY hcY hframes (by rw [hlY]; omega) h4 h5) h1
  obtain ⟨mid, hmid⟩ := h.above
  have hfr : (U.setTop g).frames = (.java g :: mid) ++ below := by rw [State.frames_setTop' g h.top, hmid]; rfl
  obtain ⟨o, s₂, hsteps, -, hend, hq⟩ := Steps.callFree hM p X.admits X.cas X.clock (acts := []) hfr happ hPc trivial
  have hq' : vx_Q Qc XC mc ms free a (U.calling g mk a) o s₂ := hq
  rw [State.frames_setTop' g h.top] at hend
  obtain ⟨g₀, hg0⟩ := Option.isSome_iff_exists.mp h.top
  obtain ⟨r, hr⟩ := State.topJava?_eq_some.mp hg0
  have hr' : (({ U with heap := s₂.heap, slotsUsed := s₂.slotsUsed } : State).setVm s₂.vm).frames = .java g₀ :: r := hr
  rcases hq' with ⟨hqc, L, hfe, hL⟩ | ⟨q, rfl, E, ce, L, hx, hce, hcv, hcl, hW₂, hsm, hL⟩
  · obtain ⟨⟨v, rfl⟩, hW₂, e2, q2, q3, q4, q5, q6⟩ := id hfe
    have e3 : s₂ = ({ (U.calling g mk a).setFrames s₂.frames with heap := s₂.heap, slotsUsed := s₂.slotsUsed } : State).setVm s₂.vm := by
      have : s₂ = ({ s₂ with vm := (U.calling g mk a).vm } : State).setVm s₂.vm := rfl
      rw [e2] at this
      exact this
    obtain ⟨c₂, i₂, len₂, hc₂, hd₂, hf₂⟩ := hend
    have hW' : U.WarmedH s₂.vm := hW₂
    have hcc : c₂ = c := by
      have h1 : s₂.code? g.method = U.code? g.method := by
        rw [State.code?_eq, State.code?_eq, hW'.alike.method?]
      exact Option.some.inj (hc₂.symm.trans (h1.trans h.code))
    subst hcc
    have hlen : len₂ = len := by rw [hdg] at hd₂; cases hd₂; rfl
    subst hlen
    have hs₂ : s₂ = (({ U with heap := s₂.heap, slotsUsed := s₂.slotsUsed } : State).setVm s₂.vm).setTop { g with pc := g.pc + len₂, stack := v.toList ++ g.stack } := by
      refine e3.trans ?_
      rw [hf₂, State.calling_eq h.top, State.setFrames_setFrames, State.setTop_of_frames _ hr', hr]
      rfl
    have hsame : U.sameButNew ({ U with heap := s₂.heap, slotsUsed := s₂.slotsUsed } : State) L mc ms := by
      refine ⟨?_, q2, q3, q4, q5, q6⟩
      obtain ⟨t, ht, -⟩ := State.frames_cons hr
      show ({ U with heap := s₂.heap, slotsUsed := s₂.slotsUsed } : State) = { U.setFrames U.frames with heap := s₂.heap, slotsUsed := s₂.slotsUsed }
      rw [State.setFrames_self ht]
    subst hg
    refine Or.inl ⟨v, ⟨(({ U with heap := s₂.heap, slotsUsed := s₂.slotsUsed } : State).setVm s₂.vm), Ls ++ L, c0 + mc, s0 + ms⟩,
      ⟨X.admits, X.cas, X.clock, X.frames, X.room, X.hears, X.method, X.code, (X.here.setHeapUsed s₂.heap s₂.slotsUsed).setVm hW'.alike, X.tail, State.WarmedH.trans X.warmed hW', X.limits, X.bytes, X.same.trans (hsame.setVm s.vm)⟩,
      ⟨g, mk, s₂, L, rfl, rfl, hqc, rfl, hL, rfl, rfl⟩, ?_⟩
    show Steps p.tables e below _ ((({ U with heap := s₂.heap, slotsUsed := s₂.slotsUsed } : State).setVm s₂.vm).setTop { g with pc := g.pc + len₂, stack := v.toList ++ g.stack })
    rw [← hs₂]
    exact hsteps
  · obtain ⟨e2, q2, q3, q4, q5, q6⟩ := id hsm
    have e3 : s₂ = ({ (U.calling g mk a).setFrames s₂.frames with heap := s₂.heap, slotsUsed := s₂.slotsUsed } : State).setVm s₂.vm := by
      have : s₂ = ({ s₂ with vm := (U.calling g mk a).vm } : State).setVm s₂.vm := rfl
      rw [e2] at this
      exact this
    have hf₂ : s₂.frames = .throwing q :: .java g :: U.frames.tail := hend
    have hW' : U.WarmedH s₂.vm := hW₂
    have hs₂ : s₂ = ((({ U with heap := s₂.heap, slotsUsed := s₂.slotsUsed } : State).setVm s₂.vm).setTop g).pushFrame (.throwing q) := by
      refine e3.trans ?_
      rw [hf₂, State.calling_eq h.top, State.setFrames_setFrames, State.pushFrame, State.frames_setTop _ hr', State.setTop_of_frames _ hr', State.setFrames_setFrames, hr]
      rfl
    have hsame : U.sameButNew ({ U with heap := s₂.heap, slotsUsed := s₂.slotsUsed } : State) L mc ms := by
      refine ⟨?_, q2, q3, q4, q5, q6⟩
      obtain ⟨t, ht, -⟩ := State.frames_cons hr
      show ({ U with heap := s₂.heap, slotsUsed := s₂.slotsUsed } : State) = { U.setFrames U.frames with heap := s₂.heap, slotsUsed := s₂.slotsUsed }
      rw [State.setFrames_self ht]
    subst hg
    refine Or.inr ⟨q, ⟨(({ U with heap := s₂.heap, slotsUsed := s₂.slotsUsed } : State).setVm s₂.vm), Ls ++ L, c0 + mc, s0 + ms⟩,
      ⟨X.admits, X.cas, X.clock, X.frames, X.room, X.hears, X.method, X.code, (X.here.setHeapUsed s₂.heap s₂.slotsUsed).setVm hW'.alike, X.tail, State.WarmedH.trans X.warmed hW', X.limits, X.bytes, X.same.trans (hsame.setVm s.vm)⟩,
      ⟨g, mk, s₂, L, E, ce, rfl, rfl, hx, hce, hcv, hcl, rfl, hL, rfl, rfl⟩, ?_⟩
    show Steps p.tables e below _ (((({ U with heap := s₂.heap, slotsUsed := s₂.slotsUsed } : State).setVm s₂.vm).setTop g).pushFrame (.throwing q))
    rw [← hs₂]
    exact hsteps
end
variable {p : Program} {l : Launch} {e : Env} {R : Room} {s : State} {m : MethodId} {args : Array Value} {below : List Frame} {meth : Method} {c : Code} {T : State} {H : Heap} {locs : List Loc} {cells slots : Nat}
theorem vx_callVX (X : Stand p l e R s m args below meth c T locs cells slots) (hexec : p.tables.exec = Jvm.exec) {own C : String} {index : Nat} {y : MethodName} {bytes : ByteArray} {maxL : Nat} {ret : Option FieldType} {hh : List (Nat × Nat × Nat × Nat)}
    (hown : s.vm.findClass own = some m.cls) (hlink : (Cond.methodLink own index y).before args s = true) (hinst : (Cond.instanceMethod y).before args s = true) (hsel : (Cond.selects C y y).before args s = true)
    (hcode : (Cond.codeWith y bytes maxL ret hh).before args s = true) (hy : y.cls ≠ "java/lang/invoke/MethodHandle" ∧ y.cls ≠ "java/lang/invoke/VarHandle")
    {W9 : Nat} {Pre : Pt → Array Value → Prop} {Post : Pt → Array Value → Option Value → Pt → Prop} {PostX : Pt → Array Value → Addr → Pt → Prop} (hK : vx_Back l R p e below s args y 3 W9 Pre Post PostX)
    {b : Addr} {cellB : Cell} (hcell : T.heap[b]? = some cellB) (hobj : cellB.vm.isStatics = false) (hcls : s.vm.findClass C = some cellB.cls)
    {g : JFrame} (hg : g.method = m) (hsize : g.locals.size = c.maxLocals) {argsL rest : List Value} (hlen : ∀ sig, parseMethodDescriptor y.desc = some sig → argsL.length = sig.parameters.length)
    (hstack : g.stack = argsL.reverse ++ .ref b :: rest) (hW : 2 * g.monitorRoom + (rest.map fun v => v.category).sum ≤ W9) (hdg : decode c.code g.pc = .ok (.invokevirtual index, 3))
    (hpre : ∀ vm₁, s.WarmedH vm₁ → Pre ⟨T.setVm vm₁, locs, cells, slots⟩ (Value.ref b :: argsL).toArray) :
    (∃ (v : Option Value) (vm₁ : Vm) (B : Pt), s.WarmedH vm₁ ∧ Stand p l e R s m args below meth c B.U B.locs B.cells B.slots ∧ Post ⟨T.setVm vm₁, locs, cells, slots⟩ (Value.ref b :: argsL).toArray v B ∧
      ∀ target, Steps p.tables e below (B.U.setTop { g with pc := g.pc + 3, stack := v.toList ++ rest }) target → Steps p.tables e below (T.setTop g) target) ∨
    (∃ (q : Addr) (vm₁ : Vm) (B : Pt), s.WarmedH vm₁ ∧ Stand p l e R s m args below meth c B.U B.locs B.cells B.slots ∧ PostX ⟨T.setVm vm₁, locs, cells, slots⟩ (Value.ref b :: argsL).toArray q B ∧
      Steps p.tables e below (T.setTop g) ((B.U.setTop { g with stack := rest }).pushFrame (.throwing q))) := by
  obtain ⟨mk, methM, hnamed, hmethM, hstM, habM⟩ := Cond.instanceMethod_spec hinst
  obtain ⟨m8, methM', cM, hn8, hmethM', -, -, -, -, -, -, hsigM⟩ := Cond.codeWith_spec hcode
  cases Option.some.inj (hn8.symm.trans hnamed)
  cases hmethM.symm.trans hmethM'
  obtain ⟨c2, r2, m2, q1, q2, q3, q4, kP, hkP, hkPi⟩ := Cond.selects_spec hsel
  cases hcls.symm.trans q1
  cases (State.methodFound?_of_named hnamed hy).symm.trans q2
  cases hnamed.symm.trans q3
  have hselP : selectMethod e.platform s.vm cellB.cls mk = .method mk := by rw [Launch.admits_selectMethod X.admits]; exact q4
  obtain ⟨vm₁, X₁, hstep₁⟩ := X.invokevirtual hexec hown hlink hnamed hmethM hstM hkP hkPi hy (a := b) (cell := cellB) hcell
    (fun z h => by rw [h] at hobj; cases hobj) hselP hmethM habM hkP hkPi (g := g) hg (argsL := argsL) (rest := rest) (hlen _ hsigM) hstack hdg
  rcases hK m meth c ⟨T.setVm vm₁, locs, cells, slots⟩ { g with stack := rest } (.invokevirtual index) mk (Value.ref b :: argsL).toArray X₁ hg hsize hdg hW (X₁.named hnamed) (hpre vm₁ X₁.warmed) with ⟨v, B, X', hpost, hsteps⟩ | ⟨q, B, X', hpost, hsteps⟩
  · exact Or.inl ⟨v, vm₁, B, X₁.warmed, X', hpost, fun target h => hstep₁ _ fun acts => by rw [doInvoke_state]; exact hsteps.trans h⟩
  · exact Or.inr ⟨q, vm₁, B, X₁.warmed, X', hpost, hstep₁ _ fun acts => by rw [doInvoke_state]; exact hsteps⟩
theorem vx_callSX (X : Stand p l e R s m args below meth c T locs cells slots) (hexec : p.tables.exec = Jvm.exec) {own : String} {index : Nat} {y : MethodName} {bytes : ByteArray} {maxL : Nat} {ret : Option FieldType} {hh : List (Nat × Nat × Nat × Nat)}
    (hown : s.vm.findClass own = some m.cls) (hlink : (Cond.methodLink own index y).before args s = true) (hstat : (Cond.static y).before args s = true) (hinit : (Cond.initialized y.cls).before args s = true)
    (hcode : (Cond.codeWith y bytes maxL ret hh).before args s = true) (hy : y.cls ≠ "java/lang/invoke/MethodHandle" ∧ y.cls ≠ "java/lang/invoke/VarHandle")
    {W9 : Nat} {Pre : Pt → Array Value → Prop} {Post : Pt → Array Value → Option Value → Pt → Prop} {PostX : Pt → Array Value → Addr → Pt → Prop} (hK : vx_Back l R p e below s args y 3 W9 Pre Post PostX)
    {g : JFrame} (hg : g.method = m) (hsize : g.locals.size = c.maxLocals) {argsL rest : List Value} (hlen : ∀ sig, parseMethodDescriptor y.desc = some sig → argsL.length = sig.parameters.length)
    (hstack : g.stack = argsL.reverse ++ rest) (hW : 2 * g.monitorRoom + (rest.map fun v => v.category).sum ≤ W9) (hdg : decode c.code g.pc = .ok (.invokestatic index, 3))
    (hpre : ∀ vm₁, s.WarmedH vm₁ → Pre ⟨T.setVm vm₁, locs, cells, slots⟩ argsL.toArray) :
    (∃ (v : Option Value) (vm₁ : Vm) (B : Pt), s.WarmedH vm₁ ∧ Stand p l e R s m args below meth c B.U B.locs B.cells B.slots ∧ Post ⟨T.setVm vm₁, locs, cells, slots⟩ argsL.toArray v B ∧
      ∀ target, Steps p.tables e below (B.U.setTop { g with pc := g.pc + 3, stack := v.toList ++ rest }) target → Steps p.tables e below (T.setTop g) target) ∨
    (∃ (q : Addr) (vm₁ : Vm) (B : Pt), s.WarmedH vm₁ ∧ Stand p l e R s m args below meth c B.U B.locs B.cells B.slots ∧ PostX ⟨T.setVm vm₁, locs, cells, slots⟩ argsL.toArray q B ∧
      Steps p.tables e below (T.setTop g) ((B.U.setTop { g with stack := rest }).pushFrame (.throwing q))) := by
  obtain ⟨mk, methM, cM, hnamed, hmethM, -, -, -, -, -, -, hsigM⟩ := Cond.codeWith_spec hcode
  have hstatic : methM.isStatic = true := Cond.static_spec hnamed hmethM hstat
  obtain ⟨kP, hkP, -⟩ := className_of_methodNamed hnamed
  have hinitP : kP.init = .initialized := Cond.initialized_spec (findClass_of_methodNamed hnamed) hkP hinit
  obtain ⟨vm₁, X₁, hstep₁⟩ := X.invokestatic hexec hown hlink hnamed hmethM hstatic hkP hinitP hy (g := g) hg (argsL := argsL) (rest := rest) (hlen _ hsigM) hstack hdg
  rcases hK m meth c ⟨T.setVm vm₁, locs, cells, slots⟩ { g with stack := rest } (.invokestatic index) mk argsL.toArray X₁ hg hsize hdg hW (X₁.named hnamed) (hpre vm₁ X₁.warmed) with ⟨v, B, X', hpost, hsteps⟩ | ⟨q, B, X', hpost, hsteps⟩
  · exact Or.inl ⟨v, vm₁, B, X₁.warmed, X', hpost, fun target h => hstep₁ _ fun acts => by rw [doInvoke_state]; exact hsteps.trans h⟩
  · exact Or.inr ⟨q, vm₁, B, X₁.warmed, X', hpost, hstep₁ _ fun acts => by rw [doInvoke_state]; exact hsteps⟩
theorem vx_callVW (X : Stand p l e R s m args below meth c T locs cells slots) (hexec : p.tables.exec = Jvm.exec) {own C : String} {index : Nat} {y : MethodName} {bytes : ByteArray} {maxL : Nat} {ret : Option FieldType} {hh : List (Nat × Nat × Nat × Nat)}
    (hown : s.vm.findClass own = some m.cls) (hlink : (Cond.methodLink own index y).before args s = true) (hinst : (Cond.instanceMethod y).before args s = true) (hsel : (Cond.selects C y y).before args s = true)
    (hcode : (Cond.codeWith y bytes maxL ret hh).before args s = true) (hy : y.cls ≠ "java/lang/invoke/MethodHandle" ∧ y.cls ≠ "java/lang/invoke/VarHandle")
    {W9 : Nat} {Pre : Pt → Array Value → Prop} {Post : Pt → Array Value → Option Value → Pt → Prop} (hK : Back l R p e below s args y 3 W9 Pre Post)
    {b : Addr} {cellB : Cell} (hcell : T.heap[b]? = some cellB) (hobj : cellB.vm.isStatics = false) (hcls : s.vm.findClass C = some cellB.cls)
    {g : JFrame} (hg : g.method = m) (hsize : g.locals.size = c.maxLocals) {argsL rest : List Value} (hlen : ∀ sig, parseMethodDescriptor y.desc = some sig → argsL.length = sig.parameters.length)
    (hstack : g.stack = argsL.reverse ++ .ref b :: rest) (hW : 2 * g.monitorRoom + (rest.map fun v => v.category).sum ≤ W9) (hdg : decode c.code g.pc = .ok (.invokevirtual index, 3))
    (hpre : ∀ vm₁, s.WarmedH vm₁ → Pre ⟨T.setVm vm₁, locs, cells, slots⟩ (Value.ref b :: argsL).toArray) :
    ∃ (v : Option Value) (vm₁ : Vm) (B : Pt), s.WarmedH vm₁ ∧ Stand p l e R s m args below meth c B.U B.locs B.cells B.slots ∧ Post ⟨T.setVm vm₁, locs, cells, slots⟩ (Value.ref b :: argsL).toArray v B ∧
      ∀ target, Steps p.tables e below (B.U.setTop { g with pc := g.pc + 3, stack := v.toList ++ rest }) target → Steps p.tables e below (T.setTop g) target := by
  obtain ⟨mk, methM, hnamed, hmethM, hstM, habM⟩ := Cond.instanceMethod_spec hinst
  obtain ⟨m8, methM', cM, hn8, hmethM', -, -, -, -, -, -, hsigM⟩ := Cond.codeWith_spec hcode
  cases Option.some.inj (hn8.symm.trans hnamed)
  cases hmethM.symm.trans hmethM'
  obtain ⟨c2, r2, m2, q1, q2, q3, q4, kP, hkP, hkPi⟩ := Cond.selects_spec hsel
  cases hcls.symm.trans q1
  cases (State.methodFound?_of_named hnamed hy).symm.trans q2
  cases hnamed.symm.trans q3
  have hselP : selectMethod e.platform s.vm cellB.cls mk = .method mk := by rw [Launch.admits_selectMethod X.admits]; exact q4
  obtain ⟨vm₁, X₁, hstep₁⟩ := X.invokevirtual hexec hown hlink hnamed hmethM hstM hkP hkPi hy (a := b) (cell := cellB) hcell
    (fun z h => by rw [h] at hobj; cases hobj) hselP hmethM habM hkP hkPi (g := g) hg (argsL := argsL) (rest := rest) (hlen _ hsigM) hstack hdg
  obtain ⟨v, B, X', hpost, hsteps⟩ := hK m meth c ⟨T.setVm vm₁, locs, cells, slots⟩ { g with stack := rest } (.invokevirtual index) mk (Value.ref b :: argsL).toArray X₁ hg hsize hdg hW (X₁.named hnamed) (hpre vm₁ X₁.warmed)
  exact ⟨v, vm₁, B, X₁.warmed, X', hpost, fun target h => hstep₁ _ fun acts => by rw [doInvoke_state]; exact hsteps.trans h⟩
abbrev vx_CVW (R : Room) (s : State) (args : Array Value) (own C : String) (index : Nat) (y : MethodName) (bytes : ByteArray) (maxL : Nat) (ret : Option FieldType) (hh : List (Nat × Nat × Nat × Nat)) (ws : List Cond) (rm : Room) (mc ms n : Nat) : Prop :=
  (rm.cells = mc ∧ rm.slots = ms ∧ rm.frames + 1 ≤ R.frames ∧ 8 + (maxL + 11) + rm.locals ≤ R.locals ∧ (∀ w ∈ ws, ∀ (a' : Array Value) (U : State), s.WarmedH U.vm → w.before a' U = true) ∧ Cond.codeWith y bytes maxL ret hh ∈ ws) ∧
  (Cond.codeWith y bytes maxL ret hh).before args s = true ∧ (Cond.initialized y.cls).before args s = true ∧ (y.cls ≠ "java/lang/invoke/MethodHandle" ∧ y.cls ≠ "java/lang/invoke/VarHandle") ∧
  (∀ sig, parseMethodDescriptor y.desc = some sig → n = sig.parameters.length) ∧ (Cond.methodLink own index y).before args s = true ∧ (Cond.instanceMethod y).before args s = true ∧ (Cond.selects C y y).before args s = true
theorem vx_cwVW {own C : String} {index maxL mc ms : Nat} {y : MethodName} {bytes : ByteArray} {ret : Option FieldType} {hh : List (Nat × Nat × Nat × Nat)} {Ts ws ws' : List Cond} {rm : Room} (n : Nat) (ht : ∀ w ∈ Ts, w.before args s = true) (hT : GoodIn Ts (wsV own index C y ws)) (hw : ws = Cond.codeWith y bytes maxL ret hh :: ws') (hrc : rm.cells = mc) (hrs : rm.slots = ms)
    (hd : y.cls = C ∧ y.cls ≠ "java/lang/invoke/MethodHandle" ∧ y.cls ≠ "java/lang/invoke/VarHandle" ∧ (parseMethodDescriptor y.desc).map (fun d => d.parameters.length) = some n) (hR : rm.frames + 1 ≤ R.frames ∧ 8 + (maxL + 11) + rm.locals ≤ R.locals) :
    vx_CVW R s args own C index y bytes maxL ret hh ws rm mc ms n := by
  obtain ⟨hC, hd⟩ := hd
  subst hC
  have ok : ∀ w ∈ wsV own index y.cls y ws, w.before args s = true := fun w h => ht w (hT w h).1
  have hG : GoodIn Ts ws := fun w h => hT w (by unfold wsV; exact List.mem_append_right _ h)
  have hc : Cond.codeWith y bytes maxL ret hh ∈ ws := by rw [hw]; exact List.mem_cons_self
  refine ⟨⟨hrc, hrs, hR.1, hR.2, pay_in ht hG, hc⟩, ht _ (hG _ hc).1, ok _ (by simp [wsV]), ⟨hd.1, hd.2.1⟩, fun sig h => ?_, ok _ (by simp [wsV]), ok _ (by simp [wsV]), ok _ (by simp [wsV])⟩
  have h2 := hd.2.2
  rw [h] at h2
  exact (Option.some.inj h2).symm
theorem vx_runVW {y : MethodName} {bytes cc : ByteArray} {maxL nL mc ms n index : Nat} {ret : Option FieldType} {hh : List (Nat × Nat × Nat × Nat)} {ws : List Cond} {rm : Room} {Pc : Array Value → State → Prop} {Qc : Array Value → State → Outcome → State → Prop} {free : Addr → Prop} {Ts : List Cond} {own C : String} {b : Addr} {As rest : List Value} {g : JFrame}
    (S : CallFix p m c cc nL s args Ts own) (hM : Met l y ws rm Pc Qc mc ms free) (cw : vx_CVW R s args own C index y bytes maxL ret hh ws rm mc ms n) (hp : PreV s H C b Pc As)
    (hg : g.method = m) (hn : As.length = n) (hsize : g.locals.size = nL) (hstack : g.stack = As.reverse ++ .ref b :: rest) (hW : 2 * g.monitorRoom + (rest.map fun v => v.category).sum ≤ 8) (hdg : decode cc g.pc = .ok (.invokevirtual index, 3)) (hf : cells + mc ≤ R.cells ∧ slots + ms ≤ R.slots) :
    va_Run p l e R s m args below meth c H locs cells slots mc ms g rest (Qc (Value.ref b :: As).toArray) free := by
  obtain ⟨⟨hrc, hrs, hfr, hlo, hws, hcw⟩, hcode, hini, hy, hlen, hl, hin, hse⟩ := cw
  have hK : Back l R p e below s args y 3 8 (PreOf R mc ms Pc) (PostOf Qc mc ms free) := va_backW (hh := hh) (bytes := bytes) (maxL := maxL) (ret := ret) hM hp.1 hrc hrs hfr hlo hws hcw (fun a' U hW => word_at hW (Or.inl (by first | rfl | simp [Cond.onTables, Cond.keeps, Cond.steady])) hini)
  obtain ⟨hx, hb, hml, ho, -⟩ := S
  obtain ⟨-, ⟨cellB, hcB, hoB, hclB⟩, hPc⟩ := hp
  intro T hT X
  obtain ⟨v, vm₁, ⟨U', l2, c2, s2⟩, hW₁, X', ⟨g', mk, t, L, e1, e2, hq, h1, hL, h2, h3⟩, st⟩ := vx_callVW X hx (C := C) (hh := hh) (bytes := bytes) (maxL := maxL) (ret := ret) ho hl hin hse hcode hy hK (by rw [hT]; exact hcB) hoB hclB hg (hsize.trans hml.symm) (argsL := As) (rest := rest) (fun sig h => hn.trans (hlen sig h)) hstack hW (by rw [hb]; exact hdg)
    (fun vm₁ hW₁ => ⟨hf.1, hf.2, hPc (T.setVm vm₁) hT hW₁⟩)
  dsimp only [Pt.U, Pt.locs, Pt.cells, Pt.slots] at X' e1 e2 h1 h2 h3 st
  subst h1; subst h2; subst h3
  exact ⟨v, (T.setVm vm₁).calling g' mk (Value.ref b :: As).toArray, t, U', L, hT, X', hL, e1, e2, hq, st⟩
section
variable {y : MethodName} {bytes cc : ByteArray} {maxL nL mc ms n index : Nat} {ret : Option FieldType} {ws : List Cond} {rm : Room} {Pc : Array Value → State → Prop} {Qc : Array Value → State → Outcome → State → Prop} {XC : String → State → State → Prop} {free : Addr → Prop} {Ts : List Cond} {own C : String} {b : Addr} {As rest : List Value} {g : JFrame}
theorem vx_runVX {hh : List (Nat × Nat × Nat × Nat)} (S : CallFix p m c cc nL s args Ts own) (hM : vx_Met l y ws rm Pc Qc XC mc ms free) (cw : vx_CVW R s args own C index y bytes maxL ret hh ws rm mc ms n) (hp : PreV s H C b Pc As)
    (hg : g.method = m) (hn : As.length = n) (hsize : g.locals.size = nL) (hstack : g.stack = As.reverse ++ .ref b :: rest) (hW : 2 * g.monitorRoom + (rest.map fun v => v.category).sum ≤ 8) (hdg : decode cc g.pc = .ok (.invokevirtual index, 3)) (hf : cells + mc ≤ R.cells ∧ slots + ms ≤ R.slots) :
    vx_Run p l e R s m args below meth c H locs cells slots mc ms g rest (Qc (Value.ref b :: As).toArray) XC free := by
  obtain ⟨⟨hrc, hrs, hfr, hlo, hws, hcw⟩, hcode, hini, hy, hlen, hl, hin, hse⟩ := cw
  have hK : vx_Back l R p e below s args y 3 8 (PreOf R mc ms Pc) (PostOf Qc mc ms free) (vx_Post XC mc ms free) := vx_backW (hh := hh) (bytes := bytes) (maxL := maxL) (ret := ret) hM hp.1 hrc hrs hfr hlo hws hcw (fun a' U hW => word_at hW (Or.inl (by first | rfl | simp [Cond.onTables, Cond.keeps, Cond.steady])) hini)
  obtain ⟨hx, hb, hml, ho, -⟩ := S
  obtain ⟨-, ⟨cellB, hcB, hoB, hclB⟩, hPc⟩ := hp
  intro T hT X
  rcases vx_callVX X hx (C := C) (hh := hh) (bytes := bytes) (maxL := maxL) (ret := ret) ho hl hin hse hcode hy hK (by rw [hT]; exact hcB) hoB hclB hg (hsize.trans hml.symm) (argsL := As) (rest := rest) (fun sig h => hn.trans (hlen sig h)) hstack hW (by rw [hb]; exact hdg)
    (fun vm₁ hW₁ => ⟨hf.1, hf.2, hPc (T.setVm vm₁) hT hW₁⟩) with ⟨v, vm₁, ⟨U', l2, c2, s2⟩, hW₁, X', ⟨g', mk, t, L, e1, e2, hq, h1, hL, h2, h3⟩, st⟩ | ⟨q, vm₁, ⟨U', l2, c2, s2⟩, hW₁, X', ⟨g', mk, t, L, E, ce, e1, e2, hq, hce, hcv, hcl, h1, hL, h2, h3⟩, st⟩
  · dsimp only [Pt.U, Pt.locs, Pt.cells, Pt.slots] at X' e1 e2 h1 h2 h3 st
    subst h1; subst h2; subst h3
    exact Or.inl ⟨v, (T.setVm vm₁).calling g' mk (Value.ref b :: As).toArray, t, U', L, hT, X', hL, e1, e2, hq, st⟩
  · dsimp only [Pt.U, Pt.locs, Pt.cells, Pt.slots] at X' e1 e2 h1 h2 h3 st hcl
    subst h1; subst h2; subst h3
    exact Or.inr ⟨q, (T.setVm vm₁).calling g' mk (Value.ref b :: As).toArray, t, U', L, E, ce, hT, X', hL, e1, e2, hq, hce, hcv, vx_cls hW₁ hcl, st⟩
theorem vx_runSX {hh : List (Nat × Nat × Nat × Nat)} (S : CallFix p m c cc nL s args Ts own) (hM : vx_Met l y ws rm Pc Qc XC mc ms free) (cw : vx_CSW R s args own index y bytes maxL ret hh ws rm mc ms n) (hp : PreS s H Pc As)
    (hg : g.method = m) (hn : As.length = n) (hsize : g.locals.size = nL) (hstack : g.stack = As.reverse ++ rest) (hW : 2 * g.monitorRoom + (rest.map fun v => v.category).sum ≤ 8) (hdg : decode cc g.pc = .ok (.invokestatic index, 3)) (hf : cells + mc ≤ R.cells ∧ slots + ms ≤ R.slots) :
    vx_Run p l e R s m args below meth c H locs cells slots mc ms g rest (Qc As.toArray) XC free := by
  obtain ⟨⟨hrc, hrs, hfr, hlo, hws, hcw⟩, hcode, hini, hy, hlen, hl, hstt⟩ := cw
  have hK : vx_Back l R p e below s args y 3 8 (PreOf R mc ms Pc) (PostOf Qc mc ms free) (vx_Post XC mc ms free) := vx_backW (hh := hh) (bytes := bytes) (maxL := maxL) (ret := ret) hM hp.1 hrc hrs hfr hlo hws hcw (fun a' U hW => word_at hW (Or.inl (by first | rfl | simp [Cond.onTables, Cond.keeps, Cond.steady])) hini)
  obtain ⟨hx, hb, hml, ho, -⟩ := S
  intro T hT X
  rcases vx_callSX X hx (hh := hh) (bytes := bytes) (maxL := maxL) (ret := ret) ho hl hstt hini hcode hy hK hg (hsize.trans hml.symm) (argsL := As) (rest := rest) (fun sig h => hn.trans (hlen sig h)) hstack hW (by rw [hb]; exact hdg)
    (fun vm₁ hW₁ => ⟨hf.1, hf.2, hp.2 (T.setVm vm₁) hT hW₁⟩) with ⟨v, vm₁, ⟨U', l2, c2, s2⟩, hW₁, X', ⟨g', mk, t, L, e1, e2, hq, h1, hL, h2, h3⟩, st⟩ | ⟨q, vm₁, ⟨U', l2, c2, s2⟩, hW₁, X', ⟨g', mk, t, L, E, ce, e1, e2, hq, hce, hcv, hcl, h1, hL, h2, h3⟩, st⟩
  · dsimp only [Pt.U, Pt.locs, Pt.cells, Pt.slots] at X' e1 e2 h1 h2 h3 st
    subst h1; subst h2; subst h3
    exact Or.inl ⟨v, (T.setVm vm₁).calling g' mk As.toArray, t, U', L, hT, X', hL, e1, e2, hq, st⟩
  · dsimp only [Pt.U, Pt.locs, Pt.cells, Pt.slots] at X' e1 e2 h1 h2 h3 st hcl
    subst h1; subst h2; subst h3
    exact Or.inr ⟨q, (T.setVm vm₁).calling g' mk As.toArray, t, U', L, E, ce, hT, X', hL, e1, e2, hq, hce, hcv, vx_cls hW₁ hcl, st⟩
end
end VXH
theorem vx_ofWH {l : Launch} {y : MethodName} {ws ws' : List Cond} {rm : Room} {Pc : Array Value → State → Prop} {Qc : Array Value → State → Outcome → State → Prop} {XC : String → State → State → Prop} {mc ms : Nat} {free : Addr → Prop} {cc : ByteArray} {maxL : Nat} {ret : Option FieldType} {hh : List (Nat × Nat × Nat × Nat)}
    (hy : plainName y.cls = true) (hw : ws = Cond.codeWith y cc maxL ret hh :: ws')
    (body : ∀ p e s m args below meth c s₁, BodyLoose p l y (headSpec ws rm) cc maxL ret e s m args below meth c s₁ → c.maxLocals = maxL → Pc args s →
      W p l e (headSpec ws rm).room s m args below meth c s.heap [] 0 0 (vx_MQ below Qc XC args s mc ms free) (entryFrame m args maxL)) : vx_Met l y ws rm Pc Qc XC mc ms free := by
  refine MetFree.of_bodyS (code := cc) (maxLocals := maxL) (ret := ret) hy ?_ ?_
  · intro args s m h hn
    obtain ⟨m9, meth, c, hn9, h1, h2, h3, h4, -, h5, h6, -⟩ := Cond.codeWith_spec (atoms_spec (ws := ws) h _ (by rw [hw]; exact List.mem_cons_self))
    cases hn.symm.trans hn9
    exact ⟨meth, c, h1, h2, h3, h4, h5, h6⟩
  · intro p e s m args below meth c s₁ B hml hP _
    have hh0 : s₁.heap = s.heap := by rw [B.state]; rfl
    obtain ⟨t, a1, o, b1, b2, b3⟩ := body p e s m args below meth c s₁ B hml hP s₁ hh0 (Stand.of_body B)
    exact ⟨t, o, a1, b1, b2, b3⟩
/-! ===== END ===== -/
end
section
/-! ===== BEGIN printed: names, fields, word lists, decode rows ===== -/
def RX0 : String := "Warpyard$Bookings"
def TX0 : u_T := fun k => match k with
  | 0 => ("Warpyard$Bookings", "train", "[I", true)
  | 1 => ("Warpyard$Bookings", "block", "[I", true)
  | 2 => ("Warpyard$Bookings", "first", "[I", true)
  | 3 => ("Warpyard$Bookings", "last", "[I", true)
  | 4 => ("Warpyard$Bookings", "lateness", "[I", true)
  | _ => ("Warpyard$Bookings", "count", "I", false)
def tyX0 : Nat → FieldType := fun k => match k with
  | 0 => .array .int
  | 1 => .array .int
  | 2 => .array .int
  | 3 => .array .int
  | 4 => .array .int
  | _ => .int
abbrev wsX00 : List Cond := u_ws RX0 TX0 6
theorem nmX0 : ∀ a, a < 6 → ∀ b, b < 6 → a ≠ b → (TX0 a).2.1 ≠ (TX0 b).2.1 := by decide +kernel
theorem tyX0_ok : ∀ k, k < 6 → parseFieldDescriptor (TX0 k).2.2.1 = some (tyX0 k) := by decide +kernel
abbrev cX0_init : ByteArray := prog_2_method_1_code
def yX0_init : MethodName := ⟨RX0, "<init>", "()V"⟩
abbrev cX0_add : ByteArray := prog_2_method_2_code
def yX0_add : MethodName := ⟨RX0, "add", "(IIII)I"⟩
abbrev cX0_meetsAnother : ByteArray := prog_2_method_3_code
def yX0_meetsAnother : MethodName := ⟨RX0, "meetsAnother", "(IIII)Z"⟩
abbrev cX0_isForAnother : ByteArray := prog_2_method_4_code
def yX0_isForAnother : MethodName := ⟨RX0, "isForAnother", "(III)Z"⟩
abbrev cX0_markMet : ByteArray := prog_2_method_5_code
def yX0_markMet : MethodName := ⟨RX0, "markMet", "(LWarpyard$Trains;I)V"⟩
abbrev cX0_isIn : ByteArray := prog_2_method_6_code
def yX0_isIn : MethodName := ⟨RX0, "isIn", "(II)Z"⟩
def RX1 : String := "Warpyard$Offers"
def TX1 : u_T := fun k => match k with
  | 0 => ("Warpyard$Offers", "siding", "[I", true)
  | 1 => ("Warpyard$Offers", "minute", "[I", true)
  | _ => ("Warpyard$Offers", "price", "[I", true)
def tyX1 : Nat → FieldType := fun k => match k with
  | 0 => .array .int
  | 1 => .array .int
  | _ => .array .int
abbrev wsX10 : List Cond := u_ws RX1 TX1 3
theorem nmX1 : ∀ a, a < 3 → ∀ b, b < 3 → a ≠ b → (TX1 a).2.1 ≠ (TX1 b).2.1 := by decide +kernel
theorem tyX1_ok : ∀ k, k < 3 → parseFieldDescriptor (TX1 k).2.2.1 = some (tyX1 k) := by decide +kernel
abbrev cX1_init : ByteArray := prog_3_method_1_code
def yX1_init : MethodName := ⟨RX1, "<init>", "()V"⟩
abbrev cX1_put : ByteArray := prog_3_method_2_code
def yX1_put : MethodName := ⟨RX1, "put", "(IIII)V"⟩
abbrev cX1_settle : ByteArray := prog_3_method_3_code
def yX1_settle : MethodName := ⟨RX1, "settle", "(III)I"⟩
abbrev cX1_begunHours : ByteArray := prog_3_method_4_code
def yX1_begunHours : MethodName := ⟨RX1, "begunHours", "(I)I"⟩
def RX2 : String := "Warpyard$Tracks"
def TX2 : u_T := fun k => match k with
  | _ => ("Warpyard$Tracks", "turned", "[Z", true)
def tyX2 : Nat → FieldType := fun k => match k with
  | _ => .array .boolean
abbrev wsX20 : List Cond := u_ws RX2 TX2 1
theorem nmX2 : ∀ a, a < 1 → ∀ b, b < 1 → a ≠ b → (TX2 a).2.1 ≠ (TX2 b).2.1 := by decide +kernel
theorem tyX2_ok : ∀ k, k < 1 → parseFieldDescriptor (TX2 k).2.2.1 = some (tyX2 k) := by decide +kernel
abbrev cX2_init : ByteArray := prog_4_method_1_code
def yX2_init : MethodName := ⟨RX2, "<init>", "()V"⟩
abbrev cX2_turn : ByteArray := prog_4_method_2_code
def yX2_turn : MethodName := ⟨RX2, "turn", "(I)Z"⟩
abbrev cX2_ahead : ByteArray := prog_4_method_3_code
def yX2_ahead : MethodName := ⟨RX2, "ahead", "(IZ)I"⟩
abbrev cX2_rightOf : ByteArray := prog_4_method_4_code
def yX2_rightOf : MethodName := ⟨RX2, "rightOf", "(I)I"⟩
abbrev cX2_leftOf : ByteArray := prog_4_method_5_code
def yX2_leftOf : MethodName := ⟨RX2, "leftOf", "(I)I"⟩
def RX3 : String := "Warpyard$Trains"
def TX3 : u_T := fun k => match k with
  | 0 => ("Warpyard$Trains", "block", "[I", true)
  | 1 => ("Warpyard$Trains", "right", "[Z", true)
  | 2 => ("Warpyard$Trains", "held", "[Z", true)
  | 3 => ("Warpyard$Trains", "delay", "[I", true)
  | _ => ("Warpyard$Trains", "count", "I", false)
def tyX3 : Nat → FieldType := fun k => match k with
  | 0 => .array .int
  | 1 => .array .boolean
  | 2 => .array .boolean
  | 3 => .array .int
  | _ => .int
abbrev wsX30 : List Cond := u_ws RX3 TX3 5
theorem nmX3 : ∀ a, a < 5 → ∀ b, b < 5 → a ≠ b → (TX3 a).2.1 ≠ (TX3 b).2.1 := by decide +kernel
theorem tyX3_ok : ∀ k, k < 5 → parseFieldDescriptor (TX3 k).2.2.1 = some (tyX3 k) := by decide +kernel
abbrev cX3_init : ByteArray := prog_5_method_1_code
def yX3_init : MethodName := ⟨RX3, "<init>", "()V"⟩
abbrev cX3_add : ByteArray := prog_5_method_2_code
def yX3_add : MethodName := ⟨RX3, "add", "(IZ)I"⟩
abbrev cX3_standingOn : ByteArray := prog_5_method_3_code
def yX3_standingOn : MethodName := ⟨RX3, "standingOn", "(I)I"⟩
abbrev cX3_turnRound : ByteArray := prog_5_method_4_code
def yX3_turnRound : MethodName := ⟨RX3, "turnRound", "(I)Z"⟩
abbrev cX3_copyFrom : ByteArray := prog_5_method_5_code
def yX3_copyFrom : MethodName := ⟨RX3, "copyFrom", "(LWarpyard$Trains;)V"⟩
abbrev cX3_runMinute : ByteArray := prog_5_method_6_code
def yX3_runMinute : MethodName := ⟨RX3, "runMinute", "(LWarpyard$Tracks;LWarpyard$Bookings;I)I"⟩
abbrev cX3_step : ByteArray := prog_5_method_7_code
def yX3_step : MethodName := ⟨RX3, "step", "(ILWarpyard$Tracks;LWarpyard$Bookings;I)Z"⟩
def RX4 : String := "Warpyard$Waggons"
def TX4 : u_T := fun k => match k with
  | 0 => ("Warpyard$Waggons", "weight", "[I", true)
  | 1 => ("Warpyard$Waggons", "size", "[I", true)
  | 2 => ("Warpyard$Waggons", "inRow", "[I", true)
  | _ => ("Warpyard$Waggons", "count", "I", false)
def tyX4 : Nat → FieldType := fun k => match k with
  | 0 => .array .int
  | 1 => .array .int
  | 2 => .array .int
  | _ => .int
abbrev wsX40 : List Cond := u_ws RX4 TX4 4
theorem nmX4 : ∀ a, a < 4 → ∀ b, b < 4 → a ≠ b → (TX4 a).2.1 ≠ (TX4 b).2.1 := by decide +kernel
theorem tyX4_ok : ∀ k, k < 4 → parseFieldDescriptor (TX4 k).2.2.1 = some (tyX4 k) := by decide +kernel
abbrev cX4_init : ByteArray := prog_6_method_1_code
def yX4_init : MethodName := ⟨RX4, "<init>", "()V"⟩
abbrev cX4_rowOfSiding : ByteArray := prog_6_method_2_code
def yX4_rowOfSiding : MethodName := ⟨RX4, "rowOfSiding", "(I)I"⟩
abbrev cX4_rowOfTrain : ByteArray := prog_6_method_3_code
def yX4_rowOfTrain : MethodName := ⟨RX4, "rowOfTrain", "(I)I"⟩
abbrev cX4_add : ByteArray := prog_6_method_4_code
def yX4_add : MethodName := ⟨RX4, "add", "(II)I"⟩
abbrev cX4_fromFirst : ByteArray := prog_6_method_5_code
def yX4_fromFirst : MethodName := ⟨RX4, "fromFirst", "(II)I"⟩
abbrev cX4_fromLast : ByteArray := prog_6_method_6_code
def yX4_fromLast : MethodName := ⟨RX4, "fromLast", "(II)I"⟩
abbrev cX4_lastOf : ByteArray := prog_6_method_7_code
def yX4_lastOf : MethodName := ⟨RX4, "lastOf", "(I)I"⟩
abbrev cX4_weightOf : ByteArray := prog_6_method_8_code
def yX4_weightOf : MethodName := ⟨RX4, "weightOf", "(I)I"⟩
abbrev cX4_moveLast : ByteArray := prog_6_method_9_code
def yX4_moveLast : MethodName := ⟨RX4, "moveLast", "(II)V"⟩
abbrev cX4_append : ByteArray := prog_6_method_10_code
def yX4_append : MethodName := ⟨RX4, "append", "(II)V"⟩
def RX5 : String := "Warpyard"
def TX5 : u_T := fun k => match k with
  | 0 => ("Warpyard", "tracks", "LWarpyard$Tracks;", true)
  | 1 => ("Warpyard", "trains", "LWarpyard$Trains;", true)
  | 2 => ("Warpyard", "trial", "LWarpyard$Trains;", true)
  | 3 => ("Warpyard", "bookings", "LWarpyard$Bookings;", true)
  | 4 => ("Warpyard", "waggons", "LWarpyard$Waggons;", true)
  | 5 => ("Warpyard", "offers", "LWarpyard$Offers;", true)
  | 6 => ("Warpyard", "now", "I", false)
  | _ => ("Warpyard", "money", "I", false)
def tyX5 : Nat → FieldType := fun k => match k with
  | 0 => .object "Warpyard$Tracks"
  | 1 => .object "Warpyard$Trains"
  | 2 => .object "Warpyard$Trains"
  | 3 => .object "Warpyard$Bookings"
  | 4 => .object "Warpyard$Waggons"
  | 5 => .object "Warpyard$Offers"
  | 6 => .int
  | _ => .int
abbrev wsX50 : List Cond := u_ws RX5 TX5 8
theorem nmX5 : ∀ a, a < 8 → ∀ b, b < 8 → a ≠ b → (TX5 a).2.1 ≠ (TX5 b).2.1 := by decide +kernel
theorem tyX5_ok : ∀ k, k < 8 → parseFieldDescriptor (TX5 k).2.2.1 = some (tyX5 k) := by decide +kernel
abbrev cX5_init : ByteArray := prog_1_method_1_code
def yX5_init : MethodName := ⟨RX5, "<init>", "()V"⟩
abbrev cX5_addTrain : ByteArray := prog_1_method_2_code
def yX5_addTrain : MethodName := ⟨RX5, "addTrain", "(IZ)I"⟩
abbrev cX5_hold : ByteArray := prog_1_method_3_code
def yX5_hold : MethodName := ⟨RX5, "hold", "(IZ)Z"⟩
abbrev cX5_delay : ByteArray := prog_1_method_4_code
def yX5_delay : MethodName := ⟨RX5, "delay", "(II)I"⟩
abbrev cX5_reverse : ByteArray := prog_1_method_5_code
def yX5_reverse : MethodName := ⟨RX5, "reverse", "(I)Z"⟩
abbrev cX5_throwSwitch : ByteArray := prog_1_method_6_code
def yX5_throwSwitch : MethodName := ⟨RX5, "throwSwitch", "(I)Z"⟩
abbrev cX5_block : ByteArray := prog_1_method_7_code
def yX5_block : MethodName := ⟨RX5, "block", "(I)I"⟩
abbrev cX5_isRight : ByteArray := prog_1_method_8_code
def yX5_isRight : MethodName := ⟨RX5, "isRight", "(I)Z"⟩
abbrev cX5_trainOn : ByteArray := prog_1_method_9_code
def yX5_trainOn : MethodName := ⟨RX5, "trainOn", "(I)I"⟩
abbrev cX5_run : ByteArray := prog_1_method_10_code
def yX5_run : MethodName := ⟨RX5, "run", "(I)I"⟩
abbrev cX5_clock : ByteArray := prog_1_method_11_code
def yX5_clock : MethodName := ⟨RX5, "clock", "()I"⟩
abbrev cX5_reaches : ByteArray := prog_1_method_12_code
def yX5_reaches : MethodName := ⟨RX5, "reaches", "(II)I"⟩
abbrev cX5_book : ByteArray := prog_1_method_13_code
def yX5_book : MethodName := ⟨RX5, "book", "(IIII)I"⟩
abbrev cX5_canBook : ByteArray := prog_1_method_14_code
def yX5_canBook : MethodName := ⟨RX5, "canBook", "(IIII)Z"⟩
abbrev cX5_canBookByMinutes : ByteArray := prog_1_method_15_code
def yX5_canBookByMinutes : MethodName := ⟨RX5, "canBookByMinutes", "(IIII)Z"⟩
abbrev cX5_booking : ByteArray := prog_1_method_16_code
def yX5_booking : MethodName := ⟨RX5, "booking", "(I)I"⟩
abbrev cX5_late : ByteArray := prog_1_method_17_code
def yX5_late : MethodName := ⟨RX5, "late", "(I)I"⟩
abbrev cX5_addWaggon : ByteArray := prog_1_method_18_code
def yX5_addWaggon : MethodName := ⟨RX5, "addWaggon", "(II)I"⟩
abbrev cX5_offer : ByteArray := prog_1_method_19_code
def yX5_offer : MethodName := ⟨RX5, "offer", "(IIII)V"⟩
abbrev cX5_couple : ByteArray := prog_1_method_20_code
def yX5_couple : MethodName := ⟨RX5, "couple", "(I)I"⟩
abbrev cX5_leave : ByteArray := prog_1_method_21_code
def yX5_leave : MethodName := ⟨RX5, "leave", "(I)I"⟩
abbrev cX5_waggonAt : ByteArray := prog_1_method_22_code
def yX5_waggonAt : MethodName := ⟨RX5, "waggonAt", "(II)I"⟩
abbrev cX5_earned : ByteArray := prog_1_method_23_code
def yX5_earned : MethodName := ⟨RX5, "earned", "()I"⟩
abbrev cX5_needTrain : ByteArray := prog_1_method_24_code
def yX5_needTrain : MethodName := ⟨RX5, "needTrain", "(I)V"⟩
abbrev cX5_needBooking : ByteArray := prog_1_method_25_code
def yX5_needBooking : MethodName := ⟨RX5, "needBooking", "(I)V"⟩
abbrev cX5_needBlock : ByteArray := prog_1_method_26_code
def yX5_needBlock : MethodName := ⟨RX5, "needBlock", "(I)V"⟩
abbrev cX5_needSiding : ByteArray := prog_1_method_27_code
def yX5_needSiding : MethodName := ⟨RX5, "needSiding", "(I)V"⟩
abbrev cX5_isSiding : ByteArray := prog_1_method_28_code
def yX5_isSiding : MethodName := ⟨RX5, "isSiding", "(I)Z"⟩
abbrev cX5_needMinutesToRun : ByteArray := prog_1_method_29_code
def yX5_needMinutesToRun : MethodName := ⟨RX5, "needMinutesToRun", "(I)V"⟩
abbrev cX5_needSpan : ByteArray := prog_1_method_30_code
def yX5_needSpan : MethodName := ⟨RX5, "needSpan", "(III)V"⟩
abbrev cX5_needRoomIn : ByteArray := prog_1_method_31_code
def yX5_needRoomIn : MethodName := ⟨RX5, "needRoomIn", "(I)V"⟩
abbrev cX5_sidingUnder : ByteArray := prog_1_method_32_code
def yX5_sidingUnder : MethodName := ⟨RX5, "sidingUnder", "(I)I"⟩
def RX6 : String := "WarpyardModel"
def TX6 : u_T := fun k => match k with
  | 0 => ("WarpyardModel", "thrown", "I", false)
  | 1 => ("WarpyardModel", "clock", "I", false)
  | 2 => ("WarpyardModel", "trains", "I", false)
  | 3 => ("WarpyardModel", "blocks", "[I", true)
  | 4 => ("WarpyardModel", "areRight", "[Z", true)
  | 5 => ("WarpyardModel", "areHeld", "[Z", true)
  | 6 => ("WarpyardModel", "delays", "[I", true)
  | 7 => ("WarpyardModel", "areTurned", "[Z", true)
  | 8 => ("WarpyardModel", "triedBlocks", "[I", true)
  | 9 => ("WarpyardModel", "triedRight", "[Z", true)
  | 10 => ("WarpyardModel", "triedDelays", "[I", true)
  | 11 => ("WarpyardModel", "bookings", "I", false)
  | 12 => ("WarpyardModel", "bookedTrains", "[I", true)
  | 13 => ("WarpyardModel", "bookedBlocks", "[I", true)
  | 14 => ("WarpyardModel", "firsts", "[I", true)
  | 15 => ("WarpyardModel", "lasts", "[I", true)
  | 16 => ("WarpyardModel", "standings", "[I", true)
  | 17 => ("WarpyardModel", "lates", "[I", true)
  | 18 => ("WarpyardModel", "waggons", "I", false)
  | 19 => ("WarpyardModel", "weights", "[I", true)
  | 20 => ("WarpyardModel", "wheres", "[I", true)
  | 21 => ("WarpyardModel", "places", "[I", true)
  | 22 => ("WarpyardModel", "offeredSidings", "[I", true)
  | 23 => ("WarpyardModel", "offeredMinutes", "[I", true)
  | 24 => ("WarpyardModel", "prices", "[I", true)
  | _ => ("WarpyardModel", "earned", "I", false)
def tyX6 : Nat → FieldType := fun k => match k with
  | 0 => .int
  | 1 => .int
  | 2 => .int
  | 3 => .array .int
  | 4 => .array .boolean
  | 5 => .array .boolean
  | 6 => .array .int
  | 7 => .array .boolean
  | 8 => .array .int
  | 9 => .array .boolean
  | 10 => .array .int
  | 11 => .int
  | 12 => .array .int
  | 13 => .array .int
  | 14 => .array .int
  | 15 => .array .int
  | 16 => .array .int
  | 17 => .array .int
  | 18 => .int
  | 19 => .array .int
  | 20 => .array .int
  | 21 => .array .int
  | 22 => .array .int
  | 23 => .array .int
  | 24 => .array .int
  | _ => .int
abbrev wsX60 : List Cond := u_ws RX6 TX6 26
theorem nmX6 : ∀ a, a < 26 → ∀ b, b < 26 → a ≠ b → (TX6 a).2.1 ≠ (TX6 b).2.1 := by decide +kernel
theorem tyX6_ok : ∀ k, k < 26 → parseFieldDescriptor (TX6 k).2.2.1 = some (tyX6 k) := by decide +kernel
abbrev cX6_init : ByteArray := prog_8_method_1_code
def yX6_init : MethodName := ⟨RX6, "<init>", "()V"⟩
abbrev cX6_thrown : ByteArray := prog_8_method_2_code
def yX6_thrown : MethodName := ⟨RX6, "thrown", "()I"⟩
abbrev cX6_holds : ByteArray := prog_8_method_3_code
def yX6_holds : MethodName := ⟨RX6, "holds", "(I)Z"⟩
abbrev cX6_in : ByteArray := prog_8_method_4_code
def yX6_in : MethodName := ⟨RX6, "in", "(III)Z"⟩
abbrev cX6_isTrain : ByteArray := prog_8_method_5_code
def yX6_isTrain : MethodName := ⟨RX6, "isTrain", "(I)Z"⟩
abbrev cX6_isBlock : ByteArray := prog_8_method_6_code
def yX6_isBlock : MethodName := ⟨RX6, "isBlock", "(I)Z"⟩
abbrev cX6_standsOn : ByteArray := prog_8_method_7_code
def yX6_standsOn : MethodName := ⟨RX6, "standsOn", "(I)I"⟩
abbrev cX6_addTrain : ByteArray := prog_8_method_8_code
def yX6_addTrain : MethodName := ⟨RX6, "addTrain", "(IZ)I"⟩
abbrev cX6_hold : ByteArray := prog_8_method_9_code
def yX6_hold : MethodName := ⟨RX6, "hold", "(IZ)Z"⟩
abbrev cX6_delay : ByteArray := prog_8_method_10_code
def yX6_delay : MethodName := ⟨RX6, "delay", "(II)I"⟩
abbrev cX6_reverse : ByteArray := prog_8_method_11_code
def yX6_reverse : MethodName := ⟨RX6, "reverse", "(I)Z"⟩
abbrev cX6_throwSwitch : ByteArray := prog_8_method_12_code
def yX6_throwSwitch : MethodName := ⟨RX6, "throwSwitch", "(I)Z"⟩
abbrev cX6_block : ByteArray := prog_8_method_13_code
def yX6_block : MethodName := ⟨RX6, "block", "(I)I"⟩
abbrev cX6_isRight : ByteArray := prog_8_method_14_code
def yX6_isRight : MethodName := ⟨RX6, "isRight", "(I)Z"⟩
abbrev cX6_trainOn : ByteArray := prog_8_method_15_code
def yX6_trainOn : MethodName := ⟨RX6, "trainOn", "(I)I"⟩
abbrev cX6_behind : ByteArray := prog_8_method_16_code
def yX6_behind : MethodName := ⟨RX6, "behind", "(IZ)I"⟩
abbrev cX6_meets : ByteArray := prog_8_method_17_code
def yX6_meets : MethodName := ⟨RX6, "meets", "(IIII)Z"⟩
abbrev cX6_isTriedOn : ByteArray := prog_8_method_18_code
def yX6_isTriedOn : MethodName := ⟨RX6, "isTriedOn", "(I)Z"⟩
abbrev cX6_tries : ByteArray := prog_8_method_19_code
def yX6_tries : MethodName := ⟨RX6, "tries", "()V"⟩
abbrev cX6_moves : ByteArray := prog_8_method_20_code
def yX6_moves : MethodName := ⟨RX6, "moves", "(I)I"⟩
abbrev cX6_runs : ByteArray := prog_8_method_21_code
def yX6_runs : MethodName := ⟨RX6, "runs", "()I"⟩
abbrev cX6_run : ByteArray := prog_8_method_22_code
def yX6_run : MethodName := ⟨RX6, "run", "(I)I"⟩
abbrev cX6_clock : ByteArray := prog_8_method_23_code
def yX6_clock : MethodName := ⟨RX6, "clock", "()I"⟩
abbrev cX6_reaches : ByteArray := prog_8_method_24_code
def yX6_reaches : MethodName := ⟨RX6, "reaches", "(II)I"⟩
abbrev cX6_book : ByteArray := prog_8_method_25_code
def yX6_book : MethodName := ⟨RX6, "book", "(IIII)I"⟩
abbrev cX6_mayBook : ByteArray := prog_8_method_26_code
def yX6_mayBook : MethodName := ⟨RX6, "mayBook", "(IIII)Z"⟩
abbrev cX6_canBook : ByteArray := prog_8_method_27_code
def yX6_canBook : MethodName := ⟨RX6, "canBook", "(IIII)Z"⟩
abbrev cX6_canBookByMinutes : ByteArray := prog_8_method_28_code
def yX6_canBookByMinutes : MethodName := ⟨RX6, "canBookByMinutes", "(IIII)Z"⟩
abbrev cX6_isBooking : ByteArray := prog_8_method_29_code
def yX6_isBooking : MethodName := ⟨RX6, "isBooking", "(I)Z"⟩
abbrev cX6_booking : ByteArray := prog_8_method_30_code
def yX6_booking : MethodName := ⟨RX6, "booking", "(I)I"⟩
abbrev cX6_late : ByteArray := prog_8_method_31_code
def yX6_late : MethodName := ⟨RX6, "late", "(I)I"⟩
abbrev cX6_isSiding : ByteArray := prog_8_method_32_code
def yX6_isSiding : MethodName := ⟨RX6, "isSiding", "(I)Z"⟩
abbrev cX6_many : ByteArray := prog_8_method_33_code
def yX6_many : MethodName := ⟨RX6, "many", "(I)I"⟩
abbrev cX6_waggon : ByteArray := prog_8_method_34_code
def yX6_waggon : MethodName := ⟨RX6, "waggon", "(II)I"⟩
abbrev cX6_comes : ByteArray := prog_8_method_35_code
def yX6_comes : MethodName := ⟨RX6, "comes", "(II)V"⟩
abbrev cX6_addWaggon : ByteArray := prog_8_method_36_code
def yX6_addWaggon : MethodName := ⟨RX6, "addWaggon", "(II)I"⟩
abbrev cX6_offer : ByteArray := prog_8_method_37_code
def yX6_offer : MethodName := ⟨RX6, "offer", "(IIII)V"⟩
abbrev cX6_weight : ByteArray := prog_8_method_38_code
def yX6_weight : MethodName := ⟨RX6, "weight", "(I)I"⟩
abbrev cX6_errorOfCouple : ByteArray := prog_8_method_39_code
def yX6_errorOfCouple : MethodName := ⟨RX6, "errorOfCouple", "(I)I"⟩
abbrev cX6_couple : ByteArray := prog_8_method_40_code
def yX6_couple : MethodName := ⟨RX6, "couple", "(I)I"⟩
abbrev cX6_leave : ByteArray := prog_8_method_41_code
def yX6_leave : MethodName := ⟨RX6, "leave", "(I)I"⟩
abbrev cX6_waggonAt : ByteArray := prog_8_method_42_code
def yX6_waggonAt : MethodName := ⟨RX6, "waggonAt", "(II)I"⟩
abbrev cX6_earned : ByteArray := prog_8_method_43_code
def yX6_earned : MethodName := ⟨RX6, "earned", "()I"⟩
def RJ9 : String := "java/lang/Math"
def TJ9 : u_T := fun k => match k with
  | _ => ("", "", "", false)
def tyJ9 : Nat → FieldType := fun k => match k with
  | _ => .int
abbrev wsJ90 : List Cond := u_ws RJ9 TJ9 0
theorem nmJ9 : ∀ a, a < 0 → ∀ b, b < 0 → a ≠ b → (TJ9 a).2.1 ≠ (TJ9 b).2.1 := by decide +kernel
theorem tyJ9_ok : ∀ k, k < 0 → parseFieldDescriptor (TJ9 k).2.2.1 = some (tyJ9 k) := by decide +kernel
abbrev cJ9_max_7cf53 : ByteArray := prog_13_method_65_code
def yJ9_max_7cf53 : MethodName := ⟨RJ9, "max", "(II)I"⟩
def RJ0 : String := "java/lang/String"
def TJ0 : u_T := fun k => match k with
  | _ => ("", "", "", false)
def tyJ0 : Nat → FieldType := fun k => match k with
  | _ => .int
abbrev wsJ00 : List Cond := u_ws RJ0 TJ0 0
theorem nmJ0 : ∀ a, a < 0 → ∀ b, b < 0 → a ≠ b → (TJ0 a).2.1 ≠ (TJ0 b).2.1 := by decide +kernel
theorem tyJ0_ok : ∀ k, k < 0 → parseFieldDescriptor (TJ0 k).2.2.1 = some (tyJ0 k) := by decide +kernel
def RL : String := "WarpyardLaw"
abbrev cL_addTrain : ByteArray := method_3_code
def yL_addTrain : MethodName := ⟨RL, "addTrain", "(LWarpyard;IZ[J)I"⟩
abbrev cL_hold : ByteArray := method_4_code
def yL_hold : MethodName := ⟨RL, "hold", "(LWarpyard;IZ[J)I"⟩
abbrev cL_delay : ByteArray := method_5_code
def yL_delay : MethodName := ⟨RL, "delay", "(LWarpyard;II[J)I"⟩
abbrev cL_reverse : ByteArray := method_6_code
def yL_reverse : MethodName := ⟨RL, "reverse", "(LWarpyard;I[J)I"⟩
abbrev cL_throwSwitch : ByteArray := method_7_code
def yL_throwSwitch : MethodName := ⟨RL, "throwSwitch", "(LWarpyard;I[J)I"⟩
abbrev cL_block : ByteArray := method_8_code
def yL_block : MethodName := ⟨RL, "block", "(LWarpyard;I[J)I"⟩
abbrev cL_isRight : ByteArray := method_9_code
def yL_isRight : MethodName := ⟨RL, "isRight", "(LWarpyard;I[J)I"⟩
abbrev cL_trainOn : ByteArray := method_10_code
def yL_trainOn : MethodName := ⟨RL, "trainOn", "(LWarpyard;I[J)I"⟩
abbrev cL_run : ByteArray := method_11_code
def yL_run : MethodName := ⟨RL, "run", "(LWarpyard;I[J)I"⟩
abbrev cL_reaches : ByteArray := method_12_code
def yL_reaches : MethodName := ⟨RL, "reaches", "(LWarpyard;II[J)I"⟩
abbrev cL_book : ByteArray := method_13_code
def yL_book : MethodName := ⟨RL, "book", "(LWarpyard;IIII[J)I"⟩
abbrev cL_canBook : ByteArray := method_14_code
def yL_canBook : MethodName := ⟨RL, "canBook", "(LWarpyard;IIII[J)I"⟩
abbrev cL_canBookByMinutes : ByteArray := method_15_code
def yL_canBookByMinutes : MethodName := ⟨RL, "canBookByMinutes", "(LWarpyard;IIII[J)I"⟩
abbrev cL_booking : ByteArray := method_16_code
def yL_booking : MethodName := ⟨RL, "booking", "(LWarpyard;I[J)I"⟩
abbrev cL_late : ByteArray := method_17_code
def yL_late : MethodName := ⟨RL, "late", "(LWarpyard;I[J)I"⟩
abbrev cL_addWaggon : ByteArray := method_18_code
def yL_addWaggon : MethodName := ⟨RL, "addWaggon", "(LWarpyard;II[J)I"⟩
abbrev cL_offer : ByteArray := method_19_code
def yL_offer : MethodName := ⟨RL, "offer", "(LWarpyard;IIII)I"⟩
abbrev cL_couple : ByteArray := method_20_code
def yL_couple : MethodName := ⟨RL, "couple", "(LWarpyard;I[J)I"⟩
abbrev cL_leave : ByteArray := method_21_code
def yL_leave : MethodName := ⟨RL, "leave", "(LWarpyard;I[J)I"⟩
abbrev cL_waggonAt : ByteArray := method_22_code
def yL_waggonAt : MethodName := ⟨RL, "waggonAt", "(LWarpyard;II[J)I"⟩
abbrev cL_law : ByteArray := code
def yL_law : MethodName := ⟨RL, "law", "([I)Z"⟩
def wsX0_init : List Cond := .code yX0_init cX0_init 1 none :: ([.methodLink RX0 3 objectInit, .instanceMethod objectInit, .code objectInit ⟨#[0xb1]⟩ 1 none, .arrayClass .int, .fieldLink RX0 9 "Warpyard$Bookings" "train" "[I", .fieldLink RX0 15 "Warpyard$Bookings" "block" "[I", .fieldLink RX0 18 "Warpyard$Bookings" "first" "[I", .fieldLink RX0 21 "Warpyard$Bookings" "last" "[I", .fieldLink RX0 24 "Warpyard$Bookings" "lateness" "[I"] ++ wsX00)
def wsX0_add : List Cond := .code yX0_add cX0_add 6 (some .int) :: ([.fieldLink RX0 27 "Warpyard$Bookings" "count" "I", .fieldLink RX0 9 "Warpyard$Bookings" "train" "[I", .fieldLink RX0 15 "Warpyard$Bookings" "block" "[I", .fieldLink RX0 18 "Warpyard$Bookings" "first" "[I", .fieldLink RX0 21 "Warpyard$Bookings" "last" "[I", .fieldLink RX0 24 "Warpyard$Bookings" "lateness" "[I"] ++ wsX00)
def wsX0_meetsAnother : List Cond := .code yX0_meetsAnother cX0_meetsAnother 6 (some .boolean) :: ([.fieldLink RX0 27 "Warpyard$Bookings" "count" "I", .fieldLink RX0 15 "Warpyard$Bookings" "block" "[I", .fieldLink RX0 9 "Warpyard$Bookings" "train" "[I", .fieldLink RX0 18 "Warpyard$Bookings" "first" "[I", .fieldLink RX0 21 "Warpyard$Bookings" "last" "[I"] ++ wsX00)
def wsX0_isIn : List Cond := .code yX0_isIn cX0_isIn 3 (some .boolean) :: ([.fieldLink RX0 18 "Warpyard$Bookings" "first" "[I", .fieldLink RX0 21 "Warpyard$Bookings" "last" "[I"] ++ wsX00)
def wsX0_isForAnother : List Cond := .code yX0_isForAnother cX0_isForAnother 5 (some .boolean) :: ([.fieldLink RX0 27 "Warpyard$Bookings" "count" "I", .fieldLink RX0 15 "Warpyard$Bookings" "block" "[I", .fieldLink RX0 9 "Warpyard$Bookings" "train" "[I", .methodLink RX0 31 yX0_isIn, .instanceMethod yX0_isIn, .selects RX0 yX0_isIn yX0_isIn, .initialized RX0, .code yX0_isIn cX0_isIn 3 (some .boolean), .fieldLink RX0 18 "Warpyard$Bookings" "first" "[I", .fieldLink RX0 21 "Warpyard$Bookings" "last" "[I"] ++ wsX00)
def wsX3_standingOn : List Cond := .code yX3_standingOn cX3_standingOn 3 (some .int) :: ([.fieldLink RX3 25 "Warpyard$Trains" "count" "I", .fieldLink RX3 9 "Warpyard$Trains" "block" "[I"] ++ wsX30)
def wsX0_markMet : List Cond := .code yX0_markMet cX0_markMet 4 none :: ([.fieldLink RX0 27 "Warpyard$Bookings" "count" "I", .fieldLink RX0 24 "Warpyard$Bookings" "lateness" "[I", .fieldLink RX0 15 "Warpyard$Bookings" "block" "[I", .fieldLink RX0 9 "Warpyard$Bookings" "train" "[I", .fieldLink RX0 18 "Warpyard$Bookings" "first" "[I", .methodLink RX0 31 yX0_isIn, .instanceMethod yX0_isIn, .selects RX0 yX0_isIn yX0_isIn, .initialized RX0, .code yX0_isIn cX0_isIn 3 (some .boolean), .fieldLink RX0 21 "Warpyard$Bookings" "last" "[I", .methodLink RX0 35 yX3_standingOn, .instanceMethod yX3_standingOn, .selects RX3 yX3_standingOn yX3_standingOn, .initialized RX3, .code yX3_standingOn cX3_standingOn 3 (some .int), .fieldLink RX3 25 "Warpyard$Trains" "count" "I", .fieldLink RX3 9 "Warpyard$Trains" "block" "[I"] ++ wsX00 ++ wsX30)
def wsX1_init : List Cond := .code yX1_init cX1_init 1 none :: ([.methodLink RX1 3 objectInit, .instanceMethod objectInit, .code objectInit ⟨#[0xb1]⟩ 1 none, .arrayClass .int, .fieldLink RX1 9 "Warpyard$Offers" "siding" "[I", .fieldLink RX1 15 "Warpyard$Offers" "minute" "[I", .fieldLink RX1 18 "Warpyard$Offers" "price" "[I"] ++ wsX10)
def wsX1_put : List Cond := .code yX1_put cX1_put 5 none :: ([.fieldLink RX1 9 "Warpyard$Offers" "siding" "[I", .fieldLink RX1 15 "Warpyard$Offers" "minute" "[I", .fieldLink RX1 18 "Warpyard$Offers" "price" "[I"] ++ wsX10)
def wsX1_begunHours : List Cond := .code yX1_begunHours cX1_begunHours 1 (some .int) :: ([])
def wsX1_settle : List Cond := .code yX1_settle cX1_settle 4 (some .int) :: ([.fieldLink RX1 9 "Warpyard$Offers" "siding" "[I", .fieldLink RX1 18 "Warpyard$Offers" "price" "[I", .fieldLink RX1 15 "Warpyard$Offers" "minute" "[I", .methodLink RX1 25 Lib.Math.max.name, .static Lib.Math.max.name, .initialized "java/lang/Math", .code Lib.Math.max.name Lib.Math.max.code 2 (some .int), .methodLink RX1 21 yX1_begunHours, .static yX1_begunHours, .initialized RX1, .code yX1_begunHours cX1_begunHours 1 (some .int)] ++ wsX10)
def wsX2_init : List Cond := .code yX2_init cX2_init 1 none :: ([.methodLink RX2 3 objectInit, .instanceMethod objectInit, .code objectInit ⟨#[0xb1]⟩ 1 none, .arrayClass .boolean, .fieldLink RX2 9 "Warpyard$Tracks" "turned" "[Z"] ++ wsX20)
def wsX2_turn : List Cond := .code yX2_turn cX2_turn 2 (some .boolean) :: ([.fieldLink RX2 9 "Warpyard$Tracks" "turned" "[Z"] ++ wsX20)
def wsX2_rightOf : List Cond := .code yX2_rightOf cX2_rightOf 2 (some .int) :: ([.fieldLink RX2 9 "Warpyard$Tracks" "turned" "[Z"] ++ wsX20)
def wsX2_leftOf : List Cond := .code yX2_leftOf cX2_leftOf 2 (some .int) :: ([.fieldLink RX2 9 "Warpyard$Tracks" "turned" "[Z"] ++ wsX20)
def wsX2_ahead : List Cond := .code yX2_ahead cX2_ahead 3 (some .int) :: ([.methodLink RX2 15 yX2_rightOf, .instanceMethod yX2_rightOf, .selects RX2 yX2_rightOf yX2_rightOf, .initialized RX2, .code yX2_rightOf cX2_rightOf 2 (some .int), .fieldLink RX2 9 "Warpyard$Tracks" "turned" "[Z", .methodLink RX2 19 yX2_leftOf, .instanceMethod yX2_leftOf, .selects RX2 yX2_leftOf yX2_leftOf, .code yX2_leftOf cX2_leftOf 2 (some .int)] ++ wsX20)
def wsX3_init : List Cond := .code yX3_init cX3_init 1 none :: ([.methodLink RX3 3 objectInit, .instanceMethod objectInit, .code objectInit ⟨#[0xb1]⟩ 1 none, .arrayClass .int, .fieldLink RX3 9 "Warpyard$Trains" "block" "[I", .arrayClass .boolean, .fieldLink RX3 15 "Warpyard$Trains" "right" "[Z", .fieldLink RX3 19 "Warpyard$Trains" "held" "[Z", .fieldLink RX3 22 "Warpyard$Trains" "delay" "[I"] ++ wsX30)
def wsX3_add : List Cond := .code yX3_add cX3_add 4 (some .int) :: ([.fieldLink RX3 25 "Warpyard$Trains" "count" "I", .fieldLink RX3 9 "Warpyard$Trains" "block" "[I", .fieldLink RX3 15 "Warpyard$Trains" "right" "[Z"] ++ wsX30)
def wsX3_turnRound : List Cond := .code yX3_turnRound cX3_turnRound 2 (some .boolean) :: ([.fieldLink RX3 15 "Warpyard$Trains" "right" "[Z"] ++ wsX30)
def wsX3_copyFrom : List Cond := .code yX3_copyFrom cX3_copyFrom 3 none :: ([.fieldLink RX3 25 "Warpyard$Trains" "count" "I", .fieldLink RX3 9 "Warpyard$Trains" "block" "[I", .fieldLink RX3 15 "Warpyard$Trains" "right" "[Z", .fieldLink RX3 19 "Warpyard$Trains" "held" "[Z", .fieldLink RX3 22 "Warpyard$Trains" "delay" "[I"] ++ wsX30)
def wsX3_step_r1 : List Cond := [Cond.fieldLink RX3 22 "Warpyard$Trains" "delay" "[I", Cond.fieldLink RX3 19 "Warpyard$Trains" "held" "[Z", Cond.fieldLink RX3 9 "Warpyard$Trains" "block" "[I", Cond.fieldLink RX3 15 "Warpyard$Trains" "right" "[Z", Cond.methodLink RX3 33 yX2_ahead, Cond.instanceMethod yX2_ahead, Cond.selects RX2 yX2_ahead yX2_ahead, Cond.initialized RX2, Cond.code yX2_ahead cX2_ahead 3 (some .int), Cond.methodLink RX2 15 yX2_rightOf, Cond.instanceMethod yX2_rightOf, Cond.selects RX2 yX2_rightOf yX2_rightOf, Cond.code yX2_rightOf cX2_rightOf 2 (some .int), Cond.fieldLink RX2 9 "Warpyard$Tracks" "turned" "[Z", Cond.methodLink RX2 19 yX2_leftOf, Cond.instanceMethod yX2_leftOf, Cond.selects RX2 yX2_leftOf yX2_leftOf, Cond.code yX2_leftOf cX2_leftOf 2 (some .int), Cond.methodLink RX3 39 yX3_turnRound, Cond.instanceMethod yX3_turnRound, Cond.selects RX3 yX3_turnRound yX3_turnRound, Cond.initialized RX3, Cond.code yX3_turnRound cX3_turnRound 2 (some .boolean), Cond.methodLink RX3 43 yX3_standingOn]
def wsX3_step_r2 : List Cond := [Cond.instanceMethod yX3_standingOn, Cond.selects RX3 yX3_standingOn yX3_standingOn, Cond.code yX3_standingOn cX3_standingOn 3 (some .int), Cond.fieldLink RX3 25 "Warpyard$Trains" "count" "I", Cond.methodLink RX3 47 yX0_isForAnother, Cond.instanceMethod yX0_isForAnother, Cond.selects RX0 yX0_isForAnother yX0_isForAnother, Cond.initialized RX0, Cond.code yX0_isForAnother cX0_isForAnother 5 (some .boolean), Cond.fieldLink RX0 27 "Warpyard$Bookings" "count" "I", Cond.fieldLink RX0 15 "Warpyard$Bookings" "block" "[I", Cond.fieldLink RX0 9 "Warpyard$Bookings" "train" "[I", Cond.methodLink RX0 31 yX0_isIn, Cond.instanceMethod yX0_isIn, Cond.selects RX0 yX0_isIn yX0_isIn, Cond.code yX0_isIn cX0_isIn 3 (some .boolean), Cond.fieldLink RX0 18 "Warpyard$Bookings" "first" "[I", Cond.fieldLink RX0 21 "Warpyard$Bookings" "last" "[I"]
def wsX3_step : List Cond := .code yX3_step cX3_step 6 (some .boolean) :: ((wsX3_step_r1 ++ wsX3_step_r2) ++ wsX30 ++ wsX20 ++ wsX00)
def wsX3_runMinute_r1 : List Cond := [Cond.fieldLink RX3 25 "Warpyard$Trains" "count" "I", Cond.methodLink RX3 29 yX3_step, Cond.instanceMethod yX3_step, Cond.selects RX3 yX3_step yX3_step, Cond.initialized RX3, Cond.code yX3_step cX3_step 6 (some .boolean), Cond.fieldLink RX3 22 "Warpyard$Trains" "delay" "[I", Cond.fieldLink RX3 19 "Warpyard$Trains" "held" "[Z", Cond.fieldLink RX3 9 "Warpyard$Trains" "block" "[I", Cond.fieldLink RX3 15 "Warpyard$Trains" "right" "[Z", Cond.methodLink RX3 33 yX2_ahead, Cond.instanceMethod yX2_ahead, Cond.selects RX2 yX2_ahead yX2_ahead, Cond.initialized RX2, Cond.code yX2_ahead cX2_ahead 3 (some .int), Cond.methodLink RX2 15 yX2_rightOf, Cond.instanceMethod yX2_rightOf, Cond.selects RX2 yX2_rightOf yX2_rightOf, Cond.code yX2_rightOf cX2_rightOf 2 (some .int), Cond.fieldLink RX2 9 "Warpyard$Tracks" "turned" "[Z", Cond.methodLink RX2 19 yX2_leftOf, Cond.instanceMethod yX2_leftOf, Cond.selects RX2 yX2_leftOf yX2_leftOf, Cond.code yX2_leftOf cX2_leftOf 2 (some .int)]
def wsX3_runMinute_r2 : List Cond := [Cond.methodLink RX3 39 yX3_turnRound, Cond.instanceMethod yX3_turnRound, Cond.selects RX3 yX3_turnRound yX3_turnRound, Cond.code yX3_turnRound cX3_turnRound 2 (some .boolean), Cond.methodLink RX3 43 yX3_standingOn, Cond.instanceMethod yX3_standingOn, Cond.selects RX3 yX3_standingOn yX3_standingOn, Cond.code yX3_standingOn cX3_standingOn 3 (some .int), Cond.methodLink RX3 47 yX0_isForAnother, Cond.instanceMethod yX0_isForAnother, Cond.selects RX0 yX0_isForAnother yX0_isForAnother, Cond.initialized RX0, Cond.code yX0_isForAnother cX0_isForAnother 5 (some .boolean), Cond.fieldLink RX0 27 "Warpyard$Bookings" "count" "I", Cond.fieldLink RX0 15 "Warpyard$Bookings" "block" "[I", Cond.fieldLink RX0 9 "Warpyard$Bookings" "train" "[I", Cond.methodLink RX0 31 yX0_isIn, Cond.instanceMethod yX0_isIn, Cond.selects RX0 yX0_isIn yX0_isIn, Cond.code yX0_isIn cX0_isIn 3 (some .boolean), Cond.fieldLink RX0 18 "Warpyard$Bookings" "first" "[I", Cond.fieldLink RX0 21 "Warpyard$Bookings" "last" "[I"]
def wsX3_runMinute : List Cond := .code yX3_runMinute cX3_runMinute 6 (some .int) :: ((wsX3_runMinute_r1 ++ wsX3_runMinute_r2) ++ wsX30 ++ wsX20 ++ wsX00)
def wsX4_init : List Cond := .code yX4_init cX4_init 1 none :: ([.methodLink RX4 3 objectInit, .instanceMethod objectInit, .code objectInit ⟨#[0xb1]⟩ 1 none, .arrayClass .int, .fieldLink RX4 9 "Warpyard$Waggons" "weight" "[I", .fieldLink RX4 15 "Warpyard$Waggons" "size" "[I", .fieldLink RX4 18 "Warpyard$Waggons" "inRow" "[I"] ++ wsX40)
def wsX4_rowOfSiding : List Cond := .code yX4_rowOfSiding cX4_rowOfSiding 1 (some .int) :: ([])
def wsX4_rowOfTrain : List Cond := .code yX4_rowOfTrain cX4_rowOfTrain 1 (some .int) :: ([])
def wsX4_append : List Cond := .code yX4_append cX4_append 3 none :: ([.fieldLink RX4 15 "Warpyard$Waggons" "size" "[I", .fieldLink RX4 18 "Warpyard$Waggons" "inRow" "[I"] ++ wsX40)
def wsX4_add : List Cond := .code yX4_add cX4_add 4 (some .int) :: ([.fieldLink RX4 21 "Warpyard$Waggons" "count" "I", .fieldLink RX4 9 "Warpyard$Waggons" "weight" "[I", .methodLink RX4 25 yX4_append, .instanceMethod yX4_append, .selects RX4 yX4_append yX4_append, .initialized RX4, .code yX4_append cX4_append 3 none, .fieldLink RX4 15 "Warpyard$Waggons" "size" "[I", .fieldLink RX4 18 "Warpyard$Waggons" "inRow" "[I"] ++ wsX40)
def wsX4_fromFirst : List Cond := .code yX4_fromFirst cX4_fromFirst 3 (some .int) :: ([.fieldLink RX4 15 "Warpyard$Waggons" "size" "[I", .fieldLink RX4 18 "Warpyard$Waggons" "inRow" "[I"] ++ wsX40)
def wsX4_fromLast : List Cond := .code yX4_fromLast cX4_fromLast 3 (some .int) :: ([.fieldLink RX4 15 "Warpyard$Waggons" "size" "[I", .fieldLink RX4 18 "Warpyard$Waggons" "inRow" "[I"] ++ wsX40)
def wsX4_lastOf : List Cond := .code yX4_lastOf cX4_lastOf 2 (some .int) :: ([.methodLink RX4 29 yX4_fromLast, .instanceMethod yX4_fromLast, .selects RX4 yX4_fromLast yX4_fromLast, .initialized RX4, .code yX4_fromLast cX4_fromLast 3 (some .int), .fieldLink RX4 15 "Warpyard$Waggons" "size" "[I", .fieldLink RX4 18 "Warpyard$Waggons" "inRow" "[I"] ++ wsX40)
def wsX4_weightOf : List Cond := .code yX4_weightOf cX4_weightOf 4 (some .int) :: ([.fieldLink RX4 15 "Warpyard$Waggons" "size" "[I", .fieldLink RX4 9 "Warpyard$Waggons" "weight" "[I", .fieldLink RX4 18 "Warpyard$Waggons" "inRow" "[I"] ++ wsX40)
def wsX4_moveLast : List Cond := .code yX4_moveLast cX4_moveLast 4 none :: ([.fieldLink RX4 15 "Warpyard$Waggons" "size" "[I", .methodLink RX4 33 yX4_lastOf, .instanceMethod yX4_lastOf, .selects RX4 yX4_lastOf yX4_lastOf, .initialized RX4, .code yX4_lastOf cX4_lastOf 2 (some .int), .methodLink RX4 29 yX4_fromLast, .instanceMethod yX4_fromLast, .selects RX4 yX4_fromLast yX4_fromLast, .code yX4_fromLast cX4_fromLast 3 (some .int), .fieldLink RX4 18 "Warpyard$Waggons" "inRow" "[I", .methodLink RX4 25 yX4_append, .instanceMethod yX4_append, .selects RX4 yX4_append yX4_append, .code yX4_append cX4_append 3 none] ++ wsX40)
def wsX5_init_r1 : List Cond := [Cond.methodLink RX5 1 objectInit, Cond.instanceMethod objectInit, Cond.code objectInit ⟨#[0xb1]⟩ 1 none, Cond.classLink RX5 7 RX2, Cond.instantiable RX2 1, Cond.initialized RX2, Cond.fieldLink RX5 10 "Warpyard" "tracks" "LWarpyard$Tracks;", Cond.classLink RX5 16 RX3, Cond.instantiable RX3 5, Cond.initialized RX3, Cond.fieldLink RX5 19 "Warpyard" "trains" "LWarpyard$Trains;", Cond.fieldLink RX5 23 "Warpyard" "trial" "LWarpyard$Trains;", Cond.classLink RX5 26 RX0, Cond.instantiable RX0 6, Cond.initialized RX0, Cond.fieldLink RX5 29 "Warpyard" "bookings" "LWarpyard$Bookings;", Cond.classLink RX5 33 RX4, Cond.instantiable RX4 4, Cond.initialized RX4, Cond.fieldLink RX5 36 "Warpyard" "waggons" "LWarpyard$Waggons;", Cond.classLink RX5 40 RX1, Cond.instantiable RX1 3, Cond.initialized RX1, Cond.fieldLink RX5 43 "Warpyard" "offers" "LWarpyard$Offers;"]
def wsX5_init_r2 : List Cond := [Cond.instanceMethod yX2_init, Cond.code yX2_init cX2_init 1 none, Cond.methodLink RX2 3 objectInit, Cond.arrayClass .boolean, Cond.fieldLink RX2 9 "Warpyard$Tracks" "turned" "[Z", Cond.instanceMethod yX3_init, Cond.code yX3_init cX3_init 1 none, Cond.methodLink RX3 3 objectInit, Cond.arrayClass .int, Cond.fieldLink RX3 9 "Warpyard$Trains" "block" "[I", Cond.fieldLink RX3 15 "Warpyard$Trains" "right" "[Z", Cond.fieldLink RX3 19 "Warpyard$Trains" "held" "[Z", Cond.fieldLink RX3 22 "Warpyard$Trains" "delay" "[I", Cond.instanceMethod yX0_init, Cond.code yX0_init cX0_init 1 none, Cond.methodLink RX0 3 objectInit, Cond.fieldLink RX0 9 "Warpyard$Bookings" "train" "[I", Cond.fieldLink RX0 15 "Warpyard$Bookings" "block" "[I", Cond.fieldLink RX0 18 "Warpyard$Bookings" "first" "[I", Cond.fieldLink RX0 21 "Warpyard$Bookings" "last" "[I", Cond.fieldLink RX0 24 "Warpyard$Bookings" "lateness" "[I", Cond.instanceMethod yX4_init, Cond.code yX4_init cX4_init 1 none, Cond.methodLink RX4 3 objectInit]
def wsX5_init_r3 : List Cond := [Cond.fieldLink RX4 9 "Warpyard$Waggons" "weight" "[I", Cond.fieldLink RX4 15 "Warpyard$Waggons" "size" "[I", Cond.fieldLink RX4 18 "Warpyard$Waggons" "inRow" "[I", Cond.instanceMethod yX1_init, Cond.code yX1_init cX1_init 1 none, Cond.methodLink RX1 3 objectInit, Cond.fieldLink RX1 9 "Warpyard$Offers" "siding" "[I", Cond.fieldLink RX1 15 "Warpyard$Offers" "minute" "[I", Cond.fieldLink RX1 18 "Warpyard$Offers" "price" "[I"]
def wsX5_init : List Cond := .code yX5_init cX5_init 1 none :: ((wsX5_init_r1 ++ (wsX5_init_r2 ++ wsX5_init_r3)) ++ wsX20 ++ wsX50 ++ wsX30 ++ wsX00 ++ wsX40 ++ wsX10)
def wsX5_needBlock : List Cond := .code yX5_needBlock cX5_needBlock 1 none :: ([.classLink RX5 95 "java/lang/IndexOutOfBoundsException", .initialized "java/lang/IndexOutOfBoundsException"] ++ (vx_atS RX5 99 "java/lang/IndexOutOfBoundsException" ["java/lang/RuntimeException", "java/lang/Exception"]).filter goodWord)
def wsX5_addTrain : List Cond := .code yX5_addTrain cX5_addTrain 3 (some .int) :: ([.classLink RX5 55 "java/lang/IllegalStateException", .initialized "java/lang/IllegalStateException", .fieldLink RX5 19 "Warpyard" "trains" "LWarpyard$Trains;", .fieldLink RX5 51 "Warpyard$Trains" "count" "I", .methodLink RX5 47 yX5_needBlock, .static yX5_needBlock, .initialized RX5, .code yX5_needBlock cX5_needBlock 1 none, .classLink RX5 95 "java/lang/IndexOutOfBoundsException", .initialized "java/lang/IndexOutOfBoundsException", .methodLink RX5 62 yX3_standingOn, .instanceMethod yX3_standingOn, .selects RX3 yX3_standingOn yX3_standingOn, .initialized RX3, .code yX3_standingOn cX3_standingOn 3 (some .int), .fieldLink RX3 25 "Warpyard$Trains" "count" "I", .fieldLink RX3 9 "Warpyard$Trains" "block" "[I", .methodLink RX5 68 yX3_add, .instanceMethod yX3_add, .selects RX3 yX3_add yX3_add, .code yX3_add cX3_add 4 (some .int), .fieldLink RX3 15 "Warpyard$Trains" "right" "[Z"] ++ wsX50 ++ wsX30 ++ (vx_atS RX5 59 "java/lang/IllegalStateException" ["java/lang/RuntimeException", "java/lang/Exception"]).filter goodWord ++ (vx_atS RX5 99 "java/lang/IndexOutOfBoundsException" ["java/lang/RuntimeException", "java/lang/Exception"]).filter goodWord)
def wsX5_needTrain : List Cond := .code yX5_needTrain cX5_needTrain 2 none :: ([.classLink RX5 95 "java/lang/IndexOutOfBoundsException", .initialized "java/lang/IndexOutOfBoundsException", .fieldLink RX5 19 "Warpyard" "trains" "LWarpyard$Trains;", .fieldLink RX5 51 "Warpyard$Trains" "count" "I"] ++ wsX50 ++ wsX30 ++ (vx_atS RX5 99 "java/lang/IndexOutOfBoundsException" ["java/lang/RuntimeException", "java/lang/Exception"]).filter goodWord)
def wsX5_hold : List Cond := .code yX5_hold cX5_hold 4 (some .boolean) :: ([.fieldLink RX5 19 "Warpyard" "trains" "LWarpyard$Trains;", .fieldLink RX5 75 "Warpyard$Trains" "held" "[Z", .methodLink RX5 72 yX5_needTrain, .instanceMethod yX5_needTrain, .selects RX5 yX5_needTrain yX5_needTrain, .initialized RX5, .code yX5_needTrain cX5_needTrain 2 none, .classLink RX5 95 "java/lang/IndexOutOfBoundsException", .initialized "java/lang/IndexOutOfBoundsException", .fieldLink RX5 51 "Warpyard$Trains" "count" "I"] ++ wsX50 ++ wsX30 ++ (vx_atS RX5 99 "java/lang/IndexOutOfBoundsException" ["java/lang/RuntimeException", "java/lang/Exception"]).filter goodWord)
def wsX5_needMinutesToRun : List Cond := .code yX5_needMinutesToRun cX5_needMinutesToRun 1 none :: ([.classLink RX5 86 "java/lang/IllegalArgumentException", .initialized "java/lang/IllegalArgumentException"] ++ (vx_atS RX5 90 "java/lang/IllegalArgumentException" ["java/lang/RuntimeException", "java/lang/Exception"]).filter goodWord)
def wsX5_delay : List Cond := .code yX5_delay cX5_delay 4 (some .int) :: ([.classLink RX5 86 "java/lang/IllegalArgumentException", .initialized "java/lang/IllegalArgumentException", .fieldLink RX5 19 "Warpyard" "trains" "LWarpyard$Trains;", .fieldLink RX5 82 "Warpyard$Trains" "delay" "[I", .methodLink RX5 72 yX5_needTrain, .instanceMethod yX5_needTrain, .selects RX5 yX5_needTrain yX5_needTrain, .initialized RX5, .code yX5_needTrain cX5_needTrain 2 none, .classLink RX5 95 "java/lang/IndexOutOfBoundsException", .initialized "java/lang/IndexOutOfBoundsException", .fieldLink RX5 51 "Warpyard$Trains" "count" "I", .methodLink RX5 79 yX5_needMinutesToRun, .static yX5_needMinutesToRun, .code yX5_needMinutesToRun cX5_needMinutesToRun 1 none] ++ wsX50 ++ wsX30 ++ (vx_atS RX5 90 "java/lang/IllegalArgumentException" ["java/lang/RuntimeException", "java/lang/Exception"]).filter goodWord ++ (vx_atS RX5 99 "java/lang/IndexOutOfBoundsException" ["java/lang/RuntimeException", "java/lang/Exception"]).filter goodWord)
def wsX5_reverse : List Cond := .code yX5_reverse cX5_reverse 2 (some .boolean) :: ([.fieldLink RX5 19 "Warpyard" "trains" "LWarpyard$Trains;", .methodLink RX5 72 yX5_needTrain, .instanceMethod yX5_needTrain, .selects RX5 yX5_needTrain yX5_needTrain, .initialized RX5, .code yX5_needTrain cX5_needTrain 2 none, .classLink RX5 95 "java/lang/IndexOutOfBoundsException", .initialized "java/lang/IndexOutOfBoundsException", .fieldLink RX5 51 "Warpyard$Trains" "count" "I", .methodLink RX5 91 yX3_turnRound, .instanceMethod yX3_turnRound, .selects RX3 yX3_turnRound yX3_turnRound, .initialized RX3, .code yX3_turnRound cX3_turnRound 2 (some .boolean), .fieldLink RX3 15 "Warpyard$Trains" "right" "[Z"] ++ wsX50 ++ wsX30 ++ (vx_atS RX5 99 "java/lang/IndexOutOfBoundsException" ["java/lang/RuntimeException", "java/lang/Exception"]).filter goodWord)
def wsX5_throwSwitch : List Cond := .code yX5_throwSwitch cX5_throwSwitch 2 (some .boolean) :: ([.classLink RX5 95 "java/lang/IndexOutOfBoundsException", .initialized "java/lang/IndexOutOfBoundsException", .fieldLink RX5 10 "Warpyard" "tracks" "LWarpyard$Tracks;", .methodLink RX5 100 yX2_turn, .instanceMethod yX2_turn, .selects RX2 yX2_turn yX2_turn, .initialized RX2, .code yX2_turn cX2_turn 2 (some .boolean), .fieldLink RX2 9 "Warpyard$Tracks" "turned" "[Z"] ++ wsX50 ++ wsX20 ++ (vx_atS RX5 99 "java/lang/IndexOutOfBoundsException" ["java/lang/RuntimeException", "java/lang/Exception"]).filter goodWord)
def wsX5_block : List Cond := .code yX5_block cX5_block 2 (some .int) :: ([.fieldLink RX5 19 "Warpyard" "trains" "LWarpyard$Trains;", .fieldLink RX5 103 "Warpyard$Trains" "block" "[I", .methodLink RX5 72 yX5_needTrain, .instanceMethod yX5_needTrain, .selects RX5 yX5_needTrain yX5_needTrain, .initialized RX5, .code yX5_needTrain cX5_needTrain 2 none, .classLink RX5 95 "java/lang/IndexOutOfBoundsException", .initialized "java/lang/IndexOutOfBoundsException", .fieldLink RX5 51 "Warpyard$Trains" "count" "I"] ++ wsX50 ++ wsX30 ++ (vx_atS RX5 99 "java/lang/IndexOutOfBoundsException" ["java/lang/RuntimeException", "java/lang/Exception"]).filter goodWord)
def wsX5_isRight : List Cond := .code yX5_isRight cX5_isRight 2 (some .boolean) :: ([.fieldLink RX5 19 "Warpyard" "trains" "LWarpyard$Trains;", .fieldLink RX5 106 "Warpyard$Trains" "right" "[Z", .methodLink RX5 72 yX5_needTrain, .instanceMethod yX5_needTrain, .selects RX5 yX5_needTrain yX5_needTrain, .initialized RX5, .code yX5_needTrain cX5_needTrain 2 none, .classLink RX5 95 "java/lang/IndexOutOfBoundsException", .initialized "java/lang/IndexOutOfBoundsException", .fieldLink RX5 51 "Warpyard$Trains" "count" "I"] ++ wsX50 ++ wsX30 ++ (vx_atS RX5 99 "java/lang/IndexOutOfBoundsException" ["java/lang/RuntimeException", "java/lang/Exception"]).filter goodWord)
def wsX5_trainOn : List Cond := .code yX5_trainOn cX5_trainOn 2 (some .int) :: ([.fieldLink RX5 19 "Warpyard" "trains" "LWarpyard$Trains;", .methodLink RX5 47 yX5_needBlock, .static yX5_needBlock, .initialized RX5, .code yX5_needBlock cX5_needBlock 1 none, .classLink RX5 95 "java/lang/IndexOutOfBoundsException", .initialized "java/lang/IndexOutOfBoundsException", .methodLink RX5 62 yX3_standingOn, .instanceMethod yX3_standingOn, .selects RX3 yX3_standingOn yX3_standingOn, .initialized RX3, .code yX3_standingOn cX3_standingOn 3 (some .int), .fieldLink RX3 25 "Warpyard$Trains" "count" "I", .fieldLink RX3 9 "Warpyard$Trains" "block" "[I"] ++ wsX50 ++ wsX30 ++ (vx_atS RX5 99 "java/lang/IndexOutOfBoundsException" ["java/lang/RuntimeException", "java/lang/Exception"]).filter goodWord)
def wsX5_run_r1 : List Cond := [Cond.classLink RX5 55 "java/lang/IllegalStateException", Cond.initialized "java/lang/IllegalStateException", Cond.fieldLink RX5 109 "Warpyard" "now" "I", Cond.fieldLink RX5 19 "Warpyard" "trains" "LWarpyard$Trains;", Cond.fieldLink RX5 10 "Warpyard" "tracks" "LWarpyard$Tracks;", Cond.fieldLink RX5 29 "Warpyard" "bookings" "LWarpyard$Bookings;", Cond.methodLink RX5 79 yX5_needMinutesToRun, Cond.static yX5_needMinutesToRun, Cond.initialized RX5, Cond.code yX5_needMinutesToRun cX5_needMinutesToRun 1 none, Cond.classLink RX5 86 "java/lang/IllegalArgumentException", Cond.initialized "java/lang/IllegalArgumentException", Cond.methodLink RX5 114 yX3_runMinute, Cond.instanceMethod yX3_runMinute, Cond.selects RX3 yX3_runMinute yX3_runMinute, Cond.initialized RX3, Cond.code yX3_runMinute cX3_runMinute 6 (some .int), Cond.fieldLink RX3 25 "Warpyard$Trains" "count" "I", Cond.methodLink RX3 29 yX3_step, Cond.instanceMethod yX3_step, Cond.selects RX3 yX3_step yX3_step, Cond.code yX3_step cX3_step 6 (some .boolean), Cond.fieldLink RX3 22 "Warpyard$Trains" "delay" "[I", Cond.fieldLink RX3 19 "Warpyard$Trains" "held" "[Z"]
def wsX5_run_r2 : List Cond := [Cond.fieldLink RX3 9 "Warpyard$Trains" "block" "[I", Cond.fieldLink RX3 15 "Warpyard$Trains" "right" "[Z", Cond.methodLink RX3 33 yX2_ahead, Cond.instanceMethod yX2_ahead, Cond.selects RX2 yX2_ahead yX2_ahead, Cond.initialized RX2, Cond.code yX2_ahead cX2_ahead 3 (some .int), Cond.methodLink RX2 15 yX2_rightOf, Cond.instanceMethod yX2_rightOf, Cond.selects RX2 yX2_rightOf yX2_rightOf, Cond.code yX2_rightOf cX2_rightOf 2 (some .int), Cond.fieldLink RX2 9 "Warpyard$Tracks" "turned" "[Z", Cond.methodLink RX2 19 yX2_leftOf, Cond.instanceMethod yX2_leftOf, Cond.selects RX2 yX2_leftOf yX2_leftOf, Cond.code yX2_leftOf cX2_leftOf 2 (some .int), Cond.methodLink RX3 39 yX3_turnRound, Cond.instanceMethod yX3_turnRound, Cond.selects RX3 yX3_turnRound yX3_turnRound, Cond.code yX3_turnRound cX3_turnRound 2 (some .boolean), Cond.methodLink RX3 43 yX3_standingOn, Cond.instanceMethod yX3_standingOn, Cond.selects RX3 yX3_standingOn yX3_standingOn, Cond.code yX3_standingOn cX3_standingOn 3 (some .int)]
def wsX5_run_r3 : List Cond := [Cond.methodLink RX3 47 yX0_isForAnother, Cond.instanceMethod yX0_isForAnother, Cond.selects RX0 yX0_isForAnother yX0_isForAnother, Cond.initialized RX0, Cond.code yX0_isForAnother cX0_isForAnother 5 (some .boolean), Cond.fieldLink RX0 27 "Warpyard$Bookings" "count" "I", Cond.fieldLink RX0 15 "Warpyard$Bookings" "block" "[I", Cond.fieldLink RX0 9 "Warpyard$Bookings" "train" "[I", Cond.methodLink RX0 31 yX0_isIn, Cond.instanceMethod yX0_isIn, Cond.selects RX0 yX0_isIn yX0_isIn, Cond.code yX0_isIn cX0_isIn 3 (some .boolean), Cond.fieldLink RX0 18 "Warpyard$Bookings" "first" "[I", Cond.fieldLink RX0 21 "Warpyard$Bookings" "last" "[I", Cond.methodLink RX5 118 yX0_markMet, Cond.instanceMethod yX0_markMet, Cond.selects RX0 yX0_markMet yX0_markMet, Cond.code yX0_markMet cX0_markMet 4 none, Cond.fieldLink RX0 24 "Warpyard$Bookings" "lateness" "[I", Cond.methodLink RX0 35 yX3_standingOn]
def wsX5_run : List Cond := .code yX5_run cX5_run 4 (some .int) :: ((wsX5_run_r1 ++ (wsX5_run_r2 ++ wsX5_run_r3)) ++ wsX50 ++ wsX30 ++ wsX20 ++ wsX00 ++ (vx_atS RX5 59 "java/lang/IllegalStateException" ["java/lang/RuntimeException", "java/lang/Exception"]).filter goodWord ++ (vx_atS RX5 90 "java/lang/IllegalArgumentException" ["java/lang/RuntimeException", "java/lang/Exception"]).filter goodWord)
def wsX5_clock : List Cond := .code yX5_clock cX5_clock 1 (some .int) :: ([.fieldLink RX5 109 "Warpyard" "now" "I"] ++ wsX50)
def wsX5_reaches_r1 : List Cond := [Cond.fieldLink RX5 19 "Warpyard" "trains" "LWarpyard$Trains;", Cond.fieldLink RX5 103 "Warpyard$Trains" "block" "[I", Cond.fieldLink RX5 23 "Warpyard" "trial" "LWarpyard$Trains;", Cond.fieldLink RX5 10 "Warpyard" "tracks" "LWarpyard$Tracks;", Cond.fieldLink RX5 29 "Warpyard" "bookings" "LWarpyard$Bookings;", Cond.fieldLink RX5 109 "Warpyard" "now" "I", Cond.methodLink RX5 72 yX5_needTrain, Cond.instanceMethod yX5_needTrain, Cond.selects RX5 yX5_needTrain yX5_needTrain, Cond.initialized RX5, Cond.code yX5_needTrain cX5_needTrain 2 none, Cond.classLink RX5 95 "java/lang/IndexOutOfBoundsException", Cond.initialized "java/lang/IndexOutOfBoundsException", Cond.fieldLink RX5 51 "Warpyard$Trains" "count" "I", Cond.methodLink RX5 47 yX5_needBlock, Cond.static yX5_needBlock, Cond.code yX5_needBlock cX5_needBlock 1 none, Cond.methodLink RX5 122 yX3_copyFrom, Cond.instanceMethod yX3_copyFrom, Cond.selects RX3 yX3_copyFrom yX3_copyFrom, Cond.initialized RX3, Cond.code yX3_copyFrom cX3_copyFrom 3 none, Cond.fieldLink RX3 25 "Warpyard$Trains" "count" "I", Cond.fieldLink RX3 9 "Warpyard$Trains" "block" "[I"]
def wsX5_reaches_r2 : List Cond := [Cond.fieldLink RX3 15 "Warpyard$Trains" "right" "[Z", Cond.fieldLink RX3 19 "Warpyard$Trains" "held" "[Z", Cond.fieldLink RX3 22 "Warpyard$Trains" "delay" "[I", Cond.methodLink RX5 114 yX3_runMinute, Cond.instanceMethod yX3_runMinute, Cond.selects RX3 yX3_runMinute yX3_runMinute, Cond.code yX3_runMinute cX3_runMinute 6 (some .int), Cond.methodLink RX3 29 yX3_step, Cond.instanceMethod yX3_step, Cond.selects RX3 yX3_step yX3_step, Cond.code yX3_step cX3_step 6 (some .boolean), Cond.methodLink RX3 33 yX2_ahead, Cond.instanceMethod yX2_ahead, Cond.selects RX2 yX2_ahead yX2_ahead, Cond.initialized RX2, Cond.code yX2_ahead cX2_ahead 3 (some .int), Cond.methodLink RX2 15 yX2_rightOf, Cond.instanceMethod yX2_rightOf, Cond.selects RX2 yX2_rightOf yX2_rightOf, Cond.code yX2_rightOf cX2_rightOf 2 (some .int), Cond.fieldLink RX2 9 "Warpyard$Tracks" "turned" "[Z", Cond.methodLink RX2 19 yX2_leftOf, Cond.instanceMethod yX2_leftOf, Cond.selects RX2 yX2_leftOf yX2_leftOf]
def wsX5_reaches_r3 : List Cond := [Cond.code yX2_leftOf cX2_leftOf 2 (some .int), Cond.methodLink RX3 39 yX3_turnRound, Cond.instanceMethod yX3_turnRound, Cond.selects RX3 yX3_turnRound yX3_turnRound, Cond.code yX3_turnRound cX3_turnRound 2 (some .boolean), Cond.methodLink RX3 43 yX3_standingOn, Cond.instanceMethod yX3_standingOn, Cond.selects RX3 yX3_standingOn yX3_standingOn, Cond.code yX3_standingOn cX3_standingOn 3 (some .int), Cond.methodLink RX3 47 yX0_isForAnother, Cond.instanceMethod yX0_isForAnother, Cond.selects RX0 yX0_isForAnother yX0_isForAnother, Cond.initialized RX0, Cond.code yX0_isForAnother cX0_isForAnother 5 (some .boolean), Cond.fieldLink RX0 27 "Warpyard$Bookings" "count" "I", Cond.fieldLink RX0 15 "Warpyard$Bookings" "block" "[I", Cond.fieldLink RX0 9 "Warpyard$Bookings" "train" "[I", Cond.methodLink RX0 31 yX0_isIn, Cond.instanceMethod yX0_isIn, Cond.selects RX0 yX0_isIn yX0_isIn, Cond.code yX0_isIn cX0_isIn 3 (some .boolean), Cond.fieldLink RX0 18 "Warpyard$Bookings" "first" "[I", Cond.fieldLink RX0 21 "Warpyard$Bookings" "last" "[I"]
def wsX5_reaches : List Cond := .code yX5_reaches cX5_reaches 4 (some .int) :: ((wsX5_reaches_r1 ++ (wsX5_reaches_r2 ++ wsX5_reaches_r3)) ++ wsX50 ++ wsX30 ++ wsX20 ++ wsX00 ++ (vx_atS RX5 99 "java/lang/IndexOutOfBoundsException" ["java/lang/RuntimeException", "java/lang/Exception"]).filter goodWord)
def wsX5_needSpan : List Cond := .code yX5_needSpan cX5_needSpan 3 none :: ([.classLink RX5 86 "java/lang/IllegalArgumentException", .initialized "java/lang/IllegalArgumentException"] ++ (vx_atS RX5 90 "java/lang/IllegalArgumentException" ["java/lang/RuntimeException", "java/lang/Exception"]).filter goodWord)
def wsX5_book_r1 : List Cond := [Cond.classLink RX5 55 "java/lang/IllegalStateException", Cond.initialized "java/lang/IllegalStateException", Cond.fieldLink RX5 109 "Warpyard" "now" "I", Cond.fieldLink RX5 29 "Warpyard" "bookings" "LWarpyard$Bookings;", Cond.fieldLink RX5 130 "Warpyard$Bookings" "count" "I", Cond.methodLink RX5 72 yX5_needTrain, Cond.instanceMethod yX5_needTrain, Cond.selects RX5 yX5_needTrain yX5_needTrain, Cond.initialized RX5, Cond.code yX5_needTrain cX5_needTrain 2 none, Cond.classLink RX5 95 "java/lang/IndexOutOfBoundsException", Cond.initialized "java/lang/IndexOutOfBoundsException", Cond.fieldLink RX5 19 "Warpyard" "trains" "LWarpyard$Trains;", Cond.fieldLink RX5 51 "Warpyard$Trains" "count" "I", Cond.methodLink RX5 47 yX5_needBlock, Cond.static yX5_needBlock, Cond.code yX5_needBlock cX5_needBlock 1 none, Cond.methodLink RX5 126 yX5_needSpan, Cond.static yX5_needSpan, Cond.code yX5_needSpan cX5_needSpan 3 none, Cond.classLink RX5 86 "java/lang/IllegalArgumentException", Cond.initialized "java/lang/IllegalArgumentException", Cond.methodLink RX5 133 yX0_meetsAnother, Cond.instanceMethod yX0_meetsAnother]
def wsX5_book_r2 : List Cond := [Cond.selects RX0 yX0_meetsAnother yX0_meetsAnother, Cond.initialized RX0, Cond.code yX0_meetsAnother cX0_meetsAnother 6 (some .boolean), Cond.fieldLink RX0 27 "Warpyard$Bookings" "count" "I", Cond.fieldLink RX0 15 "Warpyard$Bookings" "block" "[I", Cond.fieldLink RX0 9 "Warpyard$Bookings" "train" "[I", Cond.fieldLink RX0 18 "Warpyard$Bookings" "first" "[I", Cond.fieldLink RX0 21 "Warpyard$Bookings" "last" "[I", Cond.methodLink RX5 137 yX0_add, Cond.instanceMethod yX0_add, Cond.selects RX0 yX0_add yX0_add, Cond.code yX0_add cX0_add 6 (some .int), Cond.fieldLink RX0 24 "Warpyard$Bookings" "lateness" "[I"]
def wsX5_book : List Cond := .code yX5_book cX5_book 5 (some .int) :: ((wsX5_book_r1 ++ wsX5_book_r2) ++ wsX50 ++ wsX00 ++ wsX30 ++ (vx_atS RX5 59 "java/lang/IllegalStateException" ["java/lang/RuntimeException", "java/lang/Exception"]).filter goodWord ++ (vx_atS RX5 99 "java/lang/IndexOutOfBoundsException" ["java/lang/RuntimeException", "java/lang/Exception"]).filter goodWord ++ (vx_atS RX5 90 "java/lang/IllegalArgumentException" ["java/lang/RuntimeException", "java/lang/Exception"]).filter goodWord)
def wsX5_canBook_r1 : List Cond := [Cond.fieldLink RX5 29 "Warpyard" "bookings" "LWarpyard$Bookings;", Cond.methodLink RX5 72 yX5_needTrain, Cond.instanceMethod yX5_needTrain, Cond.selects RX5 yX5_needTrain yX5_needTrain, Cond.initialized RX5, Cond.code yX5_needTrain cX5_needTrain 2 none, Cond.classLink RX5 95 "java/lang/IndexOutOfBoundsException", Cond.initialized "java/lang/IndexOutOfBoundsException", Cond.fieldLink RX5 19 "Warpyard" "trains" "LWarpyard$Trains;", Cond.fieldLink RX5 51 "Warpyard$Trains" "count" "I", Cond.methodLink RX5 47 yX5_needBlock, Cond.static yX5_needBlock, Cond.code yX5_needBlock cX5_needBlock 1 none, Cond.methodLink RX5 126 yX5_needSpan, Cond.static yX5_needSpan, Cond.code yX5_needSpan cX5_needSpan 3 none, Cond.classLink RX5 86 "java/lang/IllegalArgumentException", Cond.initialized "java/lang/IllegalArgumentException", Cond.methodLink RX5 133 yX0_meetsAnother, Cond.instanceMethod yX0_meetsAnother, Cond.selects RX0 yX0_meetsAnother yX0_meetsAnother, Cond.initialized RX0, Cond.code yX0_meetsAnother cX0_meetsAnother 6 (some .boolean), Cond.fieldLink RX0 27 "Warpyard$Bookings" "count" "I"]
def wsX5_canBook_r2 : List Cond := [Cond.fieldLink RX0 15 "Warpyard$Bookings" "block" "[I", Cond.fieldLink RX0 9 "Warpyard$Bookings" "train" "[I", Cond.fieldLink RX0 18 "Warpyard$Bookings" "first" "[I", Cond.fieldLink RX0 21 "Warpyard$Bookings" "last" "[I"]
def wsX5_canBook : List Cond := .code yX5_canBook cX5_canBook 5 (some .boolean) :: ((wsX5_canBook_r1 ++ wsX5_canBook_r2) ++ wsX50 ++ wsX30 ++ wsX00 ++ (vx_atS RX5 99 "java/lang/IndexOutOfBoundsException" ["java/lang/RuntimeException", "java/lang/Exception"]).filter goodWord ++ (vx_atS RX5 90 "java/lang/IllegalArgumentException" ["java/lang/RuntimeException", "java/lang/Exception"]).filter goodWord)
def wsX5_canBookByMinutes_r1 : List Cond := [Cond.fieldLink RX5 29 "Warpyard" "bookings" "LWarpyard$Bookings;", Cond.methodLink RX5 72 yX5_needTrain, Cond.instanceMethod yX5_needTrain, Cond.selects RX5 yX5_needTrain yX5_needTrain, Cond.initialized RX5, Cond.code yX5_needTrain cX5_needTrain 2 none, Cond.classLink RX5 95 "java/lang/IndexOutOfBoundsException", Cond.initialized "java/lang/IndexOutOfBoundsException", Cond.fieldLink RX5 19 "Warpyard" "trains" "LWarpyard$Trains;", Cond.fieldLink RX5 51 "Warpyard$Trains" "count" "I", Cond.methodLink RX5 47 yX5_needBlock, Cond.static yX5_needBlock, Cond.code yX5_needBlock cX5_needBlock 1 none, Cond.methodLink RX5 126 yX5_needSpan, Cond.static yX5_needSpan, Cond.code yX5_needSpan cX5_needSpan 3 none, Cond.classLink RX5 86 "java/lang/IllegalArgumentException", Cond.initialized "java/lang/IllegalArgumentException", Cond.methodLink RX5 140 yX0_isForAnother, Cond.instanceMethod yX0_isForAnother, Cond.selects RX0 yX0_isForAnother yX0_isForAnother, Cond.initialized RX0, Cond.code yX0_isForAnother cX0_isForAnother 5 (some .boolean), Cond.fieldLink RX0 27 "Warpyard$Bookings" "count" "I"]
def wsX5_canBookByMinutes_r2 : List Cond := [Cond.fieldLink RX0 15 "Warpyard$Bookings" "block" "[I", Cond.fieldLink RX0 9 "Warpyard$Bookings" "train" "[I", Cond.methodLink RX0 31 yX0_isIn, Cond.instanceMethod yX0_isIn, Cond.selects RX0 yX0_isIn yX0_isIn, Cond.code yX0_isIn cX0_isIn 3 (some .boolean), Cond.fieldLink RX0 18 "Warpyard$Bookings" "first" "[I", Cond.fieldLink RX0 21 "Warpyard$Bookings" "last" "[I"]
def wsX5_canBookByMinutes : List Cond := .code yX5_canBookByMinutes cX5_canBookByMinutes 6 (some .boolean) :: ((wsX5_canBookByMinutes_r1 ++ wsX5_canBookByMinutes_r2) ++ wsX50 ++ wsX30 ++ wsX00 ++ (vx_atS RX5 99 "java/lang/IndexOutOfBoundsException" ["java/lang/RuntimeException", "java/lang/Exception"]).filter goodWord ++ (vx_atS RX5 90 "java/lang/IllegalArgumentException" ["java/lang/RuntimeException", "java/lang/Exception"]).filter goodWord)
def wsX5_needBooking : List Cond := .code yX5_needBooking cX5_needBooking 2 none :: ([.classLink RX5 95 "java/lang/IndexOutOfBoundsException", .initialized "java/lang/IndexOutOfBoundsException", .fieldLink RX5 29 "Warpyard" "bookings" "LWarpyard$Bookings;", .fieldLink RX5 130 "Warpyard$Bookings" "count" "I"] ++ wsX50 ++ wsX00 ++ (vx_atS RX5 99 "java/lang/IndexOutOfBoundsException" ["java/lang/RuntimeException", "java/lang/Exception"]).filter goodWord)
def wsX5_booking : List Cond := .code yX5_booking cX5_booking 2 (some .int) :: ([.fieldLink RX5 29 "Warpyard" "bookings" "LWarpyard$Bookings;", .fieldLink RX5 147 "Warpyard$Bookings" "lateness" "[I", .fieldLink RX5 150 "Warpyard$Bookings" "last" "[I", .fieldLink RX5 109 "Warpyard" "now" "I", .methodLink RX5 144 yX5_needBooking, .instanceMethod yX5_needBooking, .selects RX5 yX5_needBooking yX5_needBooking, .initialized RX5, .code yX5_needBooking cX5_needBooking 2 none, .classLink RX5 95 "java/lang/IndexOutOfBoundsException", .initialized "java/lang/IndexOutOfBoundsException", .fieldLink RX5 130 "Warpyard$Bookings" "count" "I"] ++ wsX50 ++ wsX00 ++ (vx_atS RX5 99 "java/lang/IndexOutOfBoundsException" ["java/lang/RuntimeException", "java/lang/Exception"]).filter goodWord)
def wsX5_late : List Cond := .code yX5_late cX5_late 2 (some .int) :: ([.fieldLink RX5 29 "Warpyard" "bookings" "LWarpyard$Bookings;", .fieldLink RX5 147 "Warpyard$Bookings" "lateness" "[I", .methodLink RX5 144 yX5_needBooking, .instanceMethod yX5_needBooking, .selects RX5 yX5_needBooking yX5_needBooking, .initialized RX5, .code yX5_needBooking cX5_needBooking 2 none, .classLink RX5 95 "java/lang/IndexOutOfBoundsException", .initialized "java/lang/IndexOutOfBoundsException", .fieldLink RX5 130 "Warpyard$Bookings" "count" "I"] ++ wsX50 ++ wsX00 ++ (vx_atS RX5 99 "java/lang/IndexOutOfBoundsException" ["java/lang/RuntimeException", "java/lang/Exception"]).filter goodWord)
def wsX5_isSiding : List Cond := .code yX5_isSiding cX5_isSiding 1 (some .boolean) :: ([])
def wsX5_needSiding : List Cond := .code yX5_needSiding cX5_needSiding 1 none :: ([.classLink RX5 95 "java/lang/IndexOutOfBoundsException", .initialized "java/lang/IndexOutOfBoundsException", .methodLink RX5 212 yX5_isSiding, .static yX5_isSiding, .initialized RX5, .code yX5_isSiding cX5_isSiding 1 (some .boolean)] ++ (vx_atS RX5 99 "java/lang/IndexOutOfBoundsException" ["java/lang/RuntimeException", "java/lang/Exception"]).filter goodWord)
def wsX5_needRoomIn : List Cond := .code yX5_needRoomIn cX5_needRoomIn 2 none :: ([.classLink RX5 55 "java/lang/IllegalStateException", .initialized "java/lang/IllegalStateException", .fieldLink RX5 36 "Warpyard" "waggons" "LWarpyard$Waggons;", .fieldLink RX5 239 "Warpyard$Waggons" "size" "[I", .methodLink RX5 164 yX4_rowOfSiding, .static yX4_rowOfSiding, .initialized RX4, .code yX4_rowOfSiding cX4_rowOfSiding 1 (some .int)] ++ wsX50 ++ wsX40 ++ (vx_atS RX5 59 "java/lang/IllegalStateException" ["java/lang/RuntimeException", "java/lang/Exception"]).filter goodWord)
def wsX5_addWaggon_r1 : List Cond := [Cond.classLink RX5 86 "java/lang/IllegalArgumentException", Cond.initialized "java/lang/IllegalArgumentException", Cond.classLink RX5 55 "java/lang/IllegalStateException", Cond.initialized "java/lang/IllegalStateException", Cond.fieldLink RX5 36 "Warpyard" "waggons" "LWarpyard$Waggons;", Cond.fieldLink RX5 158 "Warpyard$Waggons" "count" "I", Cond.methodLink RX5 153 yX5_needSiding, Cond.static yX5_needSiding, Cond.initialized RX5, Cond.code yX5_needSiding cX5_needSiding 1 none, Cond.classLink RX5 95 "java/lang/IndexOutOfBoundsException", Cond.initialized "java/lang/IndexOutOfBoundsException", Cond.methodLink RX5 212 yX5_isSiding, Cond.static yX5_isSiding, Cond.code yX5_isSiding cX5_isSiding 1 (some .boolean), Cond.methodLink RX5 161 yX5_needRoomIn, Cond.instanceMethod yX5_needRoomIn, Cond.selects RX5 yX5_needRoomIn yX5_needRoomIn, Cond.code yX5_needRoomIn cX5_needRoomIn 2 none, Cond.fieldLink RX5 239 "Warpyard$Waggons" "size" "[I", Cond.methodLink RX5 164 yX4_rowOfSiding, Cond.static yX4_rowOfSiding, Cond.initialized RX4, Cond.code yX4_rowOfSiding cX4_rowOfSiding 1 (some .int)]
def wsX5_addWaggon_r2 : List Cond := [Cond.methodLink RX5 167 yX4_add, Cond.instanceMethod yX4_add, Cond.selects RX4 yX4_add yX4_add, Cond.code yX4_add cX4_add 4 (some .int), Cond.fieldLink RX4 21 "Warpyard$Waggons" "count" "I", Cond.fieldLink RX4 9 "Warpyard$Waggons" "weight" "[I", Cond.methodLink RX4 25 yX4_append, Cond.instanceMethod yX4_append, Cond.selects RX4 yX4_append yX4_append, Cond.code yX4_append cX4_append 3 none, Cond.fieldLink RX4 15 "Warpyard$Waggons" "size" "[I", Cond.fieldLink RX4 18 "Warpyard$Waggons" "inRow" "[I"]
def wsX5_addWaggon : List Cond := .code yX5_addWaggon cX5_addWaggon 3 (some .int) :: ((wsX5_addWaggon_r1 ++ wsX5_addWaggon_r2) ++ wsX50 ++ wsX40 ++ (vx_atS RX5 90 "java/lang/IllegalArgumentException" ["java/lang/RuntimeException", "java/lang/Exception"]).filter goodWord ++ (vx_atS RX5 59 "java/lang/IllegalStateException" ["java/lang/RuntimeException", "java/lang/Exception"]).filter goodWord ++ (vx_atS RX5 99 "java/lang/IndexOutOfBoundsException" ["java/lang/RuntimeException", "java/lang/Exception"]).filter goodWord)
def wsX5_offer : List Cond := .code yX5_offer cX5_offer 5 none :: ([.classLink RX5 95 "java/lang/IndexOutOfBoundsException", .initialized "java/lang/IndexOutOfBoundsException", .classLink RX5 86 "java/lang/IllegalArgumentException", .initialized "java/lang/IllegalArgumentException", .fieldLink RX5 36 "Warpyard" "waggons" "LWarpyard$Waggons;", .fieldLink RX5 158 "Warpyard$Waggons" "count" "I", .fieldLink RX5 43 "Warpyard" "offers" "LWarpyard$Offers;", .methodLink RX5 153 yX5_needSiding, .static yX5_needSiding, .initialized RX5, .code yX5_needSiding cX5_needSiding 1 none, .methodLink RX5 212 yX5_isSiding, .static yX5_isSiding, .code yX5_isSiding cX5_isSiding 1 (some .boolean), .methodLink RX5 176 yX1_put, .instanceMethod yX1_put, .selects RX1 yX1_put yX1_put, .initialized RX1, .code yX1_put cX1_put 5 none, .fieldLink RX1 9 "Warpyard$Offers" "siding" "[I", .fieldLink RX1 15 "Warpyard$Offers" "minute" "[I", .fieldLink RX1 18 "Warpyard$Offers" "price" "[I"] ++ wsX50 ++ wsX40 ++ wsX10 ++ (vx_atS RX5 99 "java/lang/IndexOutOfBoundsException" ["java/lang/RuntimeException", "java/lang/Exception"]).filter goodWord ++ (vx_atS RX5 90 "java/lang/IllegalArgumentException" ["java/lang/RuntimeException", "java/lang/Exception"]).filter goodWord)
def wsX5_sidingUnder : List Cond := .code yX5_sidingUnder cX5_sidingUnder 3 (some .int) :: ([.classLink RX5 55 "java/lang/IllegalStateException", .initialized "java/lang/IllegalStateException", .fieldLink RX5 19 "Warpyard" "trains" "LWarpyard$Trains;", .fieldLink RX5 103 "Warpyard$Trains" "block" "[I", .methodLink RX5 212 yX5_isSiding, .static yX5_isSiding, .initialized RX5, .code yX5_isSiding cX5_isSiding 1 (some .boolean)] ++ wsX50 ++ wsX30 ++ (vx_atS RX5 59 "java/lang/IllegalStateException" ["java/lang/RuntimeException", "java/lang/Exception"]).filter goodWord)
def wsX5_couple_r1 : List Cond := [Cond.classLink RX5 55 "java/lang/IllegalStateException", Cond.initialized "java/lang/IllegalStateException", Cond.fieldLink RX5 36 "Warpyard" "waggons" "LWarpyard$Waggons;", Cond.fieldLink RX5 194 "Warpyard$Waggons" "weight" "[I", Cond.methodLink RX5 72 yX5_needTrain, Cond.instanceMethod yX5_needTrain, Cond.selects RX5 yX5_needTrain yX5_needTrain, Cond.initialized RX5, Cond.code yX5_needTrain cX5_needTrain 2 none, Cond.classLink RX5 95 "java/lang/IndexOutOfBoundsException", Cond.initialized "java/lang/IndexOutOfBoundsException", Cond.fieldLink RX5 19 "Warpyard" "trains" "LWarpyard$Trains;", Cond.fieldLink RX5 51 "Warpyard$Trains" "count" "I", Cond.methodLink RX5 180 yX5_sidingUnder, Cond.instanceMethod yX5_sidingUnder, Cond.selects RX5 yX5_sidingUnder yX5_sidingUnder, Cond.code yX5_sidingUnder cX5_sidingUnder 3 (some .int), Cond.fieldLink RX5 103 "Warpyard$Trains" "block" "[I", Cond.methodLink RX5 212 yX5_isSiding, Cond.static yX5_isSiding, Cond.code yX5_isSiding cX5_isSiding 1 (some .boolean), Cond.methodLink RX5 164 yX4_rowOfSiding, Cond.static yX4_rowOfSiding, Cond.initialized RX4]
def wsX5_couple_r2 : List Cond := [Cond.code yX4_rowOfSiding cX4_rowOfSiding 1 (some .int), Cond.methodLink RX5 183 yX4_rowOfTrain, Cond.static yX4_rowOfTrain, Cond.code yX4_rowOfTrain cX4_rowOfTrain 1 (some .int), Cond.methodLink RX5 186 yX4_lastOf, Cond.instanceMethod yX4_lastOf, Cond.selects RX4 yX4_lastOf yX4_lastOf, Cond.code yX4_lastOf cX4_lastOf 2 (some .int), Cond.methodLink RX4 29 yX4_fromLast, Cond.instanceMethod yX4_fromLast, Cond.selects RX4 yX4_fromLast yX4_fromLast, Cond.code yX4_fromLast cX4_fromLast 3 (some .int), Cond.fieldLink RX4 15 "Warpyard$Waggons" "size" "[I", Cond.fieldLink RX4 18 "Warpyard$Waggons" "inRow" "[I", Cond.methodLink RX5 191 yX4_weightOf, Cond.instanceMethod yX4_weightOf, Cond.selects RX4 yX4_weightOf yX4_weightOf, Cond.code yX4_weightOf cX4_weightOf 4 (some .int), Cond.fieldLink RX4 9 "Warpyard$Waggons" "weight" "[I", Cond.methodLink RX5 199 yX4_moveLast, Cond.instanceMethod yX4_moveLast, Cond.selects RX4 yX4_moveLast yX4_moveLast, Cond.code yX4_moveLast cX4_moveLast 4 none, Cond.methodLink RX4 33 yX4_lastOf]
def wsX5_couple_r3 : List Cond := [Cond.methodLink RX4 25 yX4_append, Cond.instanceMethod yX4_append, Cond.selects RX4 yX4_append yX4_append, Cond.code yX4_append cX4_append 3 none]
def wsX5_couple : List Cond := .code yX5_couple cX5_couple 5 (some .int) :: ((wsX5_couple_r1 ++ (wsX5_couple_r2 ++ wsX5_couple_r3)) ++ wsX50 ++ wsX40 ++ wsX30 ++ (vx_atS RX5 59 "java/lang/IllegalStateException" ["java/lang/RuntimeException", "java/lang/Exception"]).filter goodWord ++ (vx_atS RX5 99 "java/lang/IndexOutOfBoundsException" ["java/lang/RuntimeException", "java/lang/Exception"]).filter goodWord)
def wsX5_leave_r1 : List Cond := [Cond.classLink RX5 55 "java/lang/IllegalStateException", Cond.initialized "java/lang/IllegalStateException", Cond.fieldLink RX5 36 "Warpyard" "waggons" "LWarpyard$Waggons;", Cond.fieldLink RX5 43 "Warpyard" "offers" "LWarpyard$Offers;", Cond.fieldLink RX5 109 "Warpyard" "now" "I", Cond.fieldLink RX5 209 "Warpyard" "money" "I", Cond.methodLink RX5 72 yX5_needTrain, Cond.instanceMethod yX5_needTrain, Cond.selects RX5 yX5_needTrain yX5_needTrain, Cond.initialized RX5, Cond.code yX5_needTrain cX5_needTrain 2 none, Cond.classLink RX5 95 "java/lang/IndexOutOfBoundsException", Cond.initialized "java/lang/IndexOutOfBoundsException", Cond.fieldLink RX5 19 "Warpyard" "trains" "LWarpyard$Trains;", Cond.fieldLink RX5 51 "Warpyard$Trains" "count" "I", Cond.methodLink RX5 180 yX5_sidingUnder, Cond.instanceMethod yX5_sidingUnder, Cond.selects RX5 yX5_sidingUnder yX5_sidingUnder, Cond.code yX5_sidingUnder cX5_sidingUnder 3 (some .int), Cond.fieldLink RX5 103 "Warpyard$Trains" "block" "[I", Cond.methodLink RX5 212 yX5_isSiding, Cond.static yX5_isSiding, Cond.code yX5_isSiding cX5_isSiding 1 (some .boolean), Cond.methodLink RX5 183 yX4_rowOfTrain]
def wsX5_leave_r2 : List Cond := [Cond.static yX4_rowOfTrain, Cond.initialized RX4, Cond.code yX4_rowOfTrain cX4_rowOfTrain 1 (some .int), Cond.methodLink RX5 186 yX4_lastOf, Cond.instanceMethod yX4_lastOf, Cond.selects RX4 yX4_lastOf yX4_lastOf, Cond.code yX4_lastOf cX4_lastOf 2 (some .int), Cond.methodLink RX4 29 yX4_fromLast, Cond.instanceMethod yX4_fromLast, Cond.selects RX4 yX4_fromLast yX4_fromLast, Cond.code yX4_fromLast cX4_fromLast 3 (some .int), Cond.fieldLink RX4 15 "Warpyard$Waggons" "size" "[I", Cond.fieldLink RX4 18 "Warpyard$Waggons" "inRow" "[I", Cond.methodLink RX5 161 yX5_needRoomIn, Cond.instanceMethod yX5_needRoomIn, Cond.selects RX5 yX5_needRoomIn yX5_needRoomIn, Cond.code yX5_needRoomIn cX5_needRoomIn 2 none, Cond.fieldLink RX5 239 "Warpyard$Waggons" "size" "[I", Cond.methodLink RX5 164 yX4_rowOfSiding, Cond.static yX4_rowOfSiding, Cond.code yX4_rowOfSiding cX4_rowOfSiding 1 (some .int), Cond.methodLink RX5 199 yX4_moveLast, Cond.instanceMethod yX4_moveLast, Cond.selects RX4 yX4_moveLast yX4_moveLast]
def wsX5_leave_r3 : List Cond := [Cond.code yX4_moveLast cX4_moveLast 4 none, Cond.methodLink RX4 33 yX4_lastOf, Cond.methodLink RX4 25 yX4_append, Cond.instanceMethod yX4_append, Cond.selects RX4 yX4_append yX4_append, Cond.code yX4_append cX4_append 3 none, Cond.methodLink RX5 205 yX1_settle, Cond.instanceMethod yX1_settle, Cond.selects RX1 yX1_settle yX1_settle, Cond.initialized RX1, Cond.code yX1_settle cX1_settle 4 (some .int), Cond.fieldLink RX1 9 "Warpyard$Offers" "siding" "[I", Cond.fieldLink RX1 18 "Warpyard$Offers" "price" "[I", Cond.fieldLink RX1 15 "Warpyard$Offers" "minute" "[I", Cond.methodLink RX1 25 Lib.Math.max.name, Cond.static Lib.Math.max.name, Cond.initialized "java/lang/Math", Cond.code Lib.Math.max.name Lib.Math.max.code 2 (some .int), Cond.methodLink RX1 21 yX1_begunHours, Cond.static yX1_begunHours, Cond.code yX1_begunHours cX1_begunHours 1 (some .int)]
def wsX5_leave : List Cond := .code yX5_leave cX5_leave 6 (some .int) :: ((wsX5_leave_r1 ++ (wsX5_leave_r2 ++ wsX5_leave_r3)) ++ wsX50 ++ wsX30 ++ wsX40 ++ wsX10 ++ (vx_atS RX5 59 "java/lang/IllegalStateException" ["java/lang/RuntimeException", "java/lang/Exception"]).filter goodWord ++ (vx_atS RX5 99 "java/lang/IndexOutOfBoundsException" ["java/lang/RuntimeException", "java/lang/Exception"]).filter goodWord)
def wsX5_waggonAt_r1 : List Cond := [Cond.classLink RX5 95 "java/lang/IndexOutOfBoundsException", Cond.initialized "java/lang/IndexOutOfBoundsException", Cond.fieldLink RX5 19 "Warpyard" "trains" "LWarpyard$Trains;", Cond.fieldLink RX5 51 "Warpyard$Trains" "count" "I", Cond.fieldLink RX5 36 "Warpyard" "waggons" "LWarpyard$Waggons;", Cond.methodLink RX5 212 yX5_isSiding, Cond.static yX5_isSiding, Cond.initialized RX5, Cond.code yX5_isSiding cX5_isSiding 1 (some .boolean), Cond.methodLink RX5 164 yX4_rowOfSiding, Cond.static yX4_rowOfSiding, Cond.initialized RX4, Cond.code yX4_rowOfSiding cX4_rowOfSiding 1 (some .int), Cond.methodLink RX5 219 yX4_fromLast, Cond.instanceMethod yX4_fromLast, Cond.selects RX4 yX4_fromLast yX4_fromLast, Cond.code yX4_fromLast cX4_fromLast 3 (some .int), Cond.fieldLink RX4 15 "Warpyard$Waggons" "size" "[I", Cond.fieldLink RX4 18 "Warpyard$Waggons" "inRow" "[I", Cond.methodLink RX5 183 yX4_rowOfTrain, Cond.static yX4_rowOfTrain, Cond.code yX4_rowOfTrain cX4_rowOfTrain 1 (some .int), Cond.methodLink RX5 222 yX4_fromFirst, Cond.instanceMethod yX4_fromFirst]
def wsX5_waggonAt_r2 : List Cond := [Cond.selects RX4 yX4_fromFirst yX4_fromFirst, Cond.code yX4_fromFirst cX4_fromFirst 3 (some .int)]
def wsX5_waggonAt : List Cond := .code yX5_waggonAt cX5_waggonAt 4 (some .int) :: ((wsX5_waggonAt_r1 ++ wsX5_waggonAt_r2) ++ wsX50 ++ wsX30 ++ wsX40 ++ (vx_atS RX5 99 "java/lang/IndexOutOfBoundsException" ["java/lang/RuntimeException", "java/lang/Exception"]).filter goodWord)
def wsX5_earned : List Cond := .code yX5_earned cX5_earned 1 (some .int) :: ([.fieldLink RX5 209 "Warpyard" "money" "I"] ++ wsX50)
def wsX6_init_r1 : List Cond := [Cond.methodLink RX6 1 objectInit, Cond.instanceMethod objectInit, Cond.code objectInit ⟨#[0xb1]⟩ 1 none, Cond.arrayClass .int, Cond.fieldLink RX6 7 "WarpyardModel" "blocks" "[I", Cond.arrayClass .boolean, Cond.fieldLink RX6 13 "WarpyardModel" "areRight" "[Z", Cond.fieldLink RX6 17 "WarpyardModel" "areHeld" "[Z", Cond.fieldLink RX6 20 "WarpyardModel" "delays" "[I", Cond.fieldLink RX6 23 "WarpyardModel" "areTurned" "[Z", Cond.fieldLink RX6 26 "WarpyardModel" "triedBlocks" "[I", Cond.fieldLink RX6 29 "WarpyardModel" "triedRight" "[Z", Cond.fieldLink RX6 32 "WarpyardModel" "triedDelays" "[I", Cond.fieldLink RX6 35 "WarpyardModel" "bookedTrains" "[I", Cond.fieldLink RX6 38 "WarpyardModel" "bookedBlocks" "[I", Cond.fieldLink RX6 41 "WarpyardModel" "firsts" "[I", Cond.fieldLink RX6 44 "WarpyardModel" "lasts" "[I", Cond.fieldLink RX6 47 "WarpyardModel" "standings" "[I", Cond.fieldLink RX6 50 "WarpyardModel" "lates" "[I", Cond.fieldLink RX6 53 "WarpyardModel" "weights" "[I", Cond.fieldLink RX6 56 "WarpyardModel" "wheres" "[I", Cond.fieldLink RX6 59 "WarpyardModel" "places" "[I", Cond.fieldLink RX6 62 "WarpyardModel" "offeredSidings" "[I", Cond.fieldLink RX6 65 "WarpyardModel" "offeredMinutes" "[I"]
def wsX6_init_r2 : List Cond := [Cond.fieldLink RX6 68 "WarpyardModel" "prices" "[I"]
def wsX6_init : List Cond := .code yX6_init cX6_init 1 none :: ((wsX6_init_r1 ++ wsX6_init_r2) ++ wsX60)
def wsX6_thrown : List Cond := .code yX6_thrown cX6_thrown 1 (some .int) :: ([.fieldLink RX6 71 "WarpyardModel" "thrown" "I"] ++ wsX60)
def wsX6_holds : List Cond := .code yX6_holds cX6_holds 2 (some .boolean) :: ([.fieldLink RX6 71 "WarpyardModel" "thrown" "I"] ++ wsX60)
def wsX6_in : List Cond := .code yX6_in cX6_in 3 (some .boolean) :: ([])
def wsX6_isTrain : List Cond := .code yX6_isTrain cX6_isTrain 2 (some .boolean) :: ([.fieldLink RX6 75 "WarpyardModel" "trains" "I", .methodLink RX6 78 yX6_in, .static yX6_in, .initialized RX6, .code yX6_in cX6_in 3 (some .boolean)] ++ wsX60)
def wsX6_isBlock : List Cond := .code yX6_isBlock cX6_isBlock 1 (some .boolean) :: ([.methodLink RX6 78 yX6_in, .static yX6_in, .initialized RX6, .code yX6_in cX6_in 3 (some .boolean)])
def wsX6_standsOn : List Cond := .code yX6_standsOn cX6_standsOn 3 (some .int) :: ([.fieldLink RX6 75 "WarpyardModel" "trains" "I", .fieldLink RX6 7 "WarpyardModel" "blocks" "[I"] ++ wsX60)
def wsX6_addTrain : List Cond := .code yX6_addTrain cX6_addTrain 3 (some .int) :: ([.fieldLink RX6 75 "WarpyardModel" "trains" "I", .fieldLink RX6 7 "WarpyardModel" "blocks" "[I", .fieldLink RX6 13 "WarpyardModel" "areRight" "[Z", .methodLink RX6 82 yX6_isBlock, .static yX6_isBlock, .initialized RX6, .code yX6_isBlock cX6_isBlock 1 (some .boolean), .methodLink RX6 78 yX6_in, .static yX6_in, .code yX6_in cX6_in 3 (some .boolean), .methodLink RX6 86 yX6_standsOn, .instanceMethod yX6_standsOn, .selects RX6 yX6_standsOn yX6_standsOn, .code yX6_standsOn cX6_standsOn 3 (some .int), .methodLink RX6 90 yX6_holds, .instanceMethod yX6_holds, .selects RX6 yX6_holds yX6_holds, .code yX6_holds cX6_holds 2 (some .boolean), .fieldLink RX6 71 "WarpyardModel" "thrown" "I"] ++ wsX60)
def wsX6_hold : List Cond := .code yX6_hold cX6_hold 4 (some .boolean) :: ([.fieldLink RX6 17 "WarpyardModel" "areHeld" "[Z", .methodLink RX6 93 yX6_isTrain, .instanceMethod yX6_isTrain, .selects RX6 yX6_isTrain yX6_isTrain, .initialized RX6, .code yX6_isTrain cX6_isTrain 2 (some .boolean), .fieldLink RX6 75 "WarpyardModel" "trains" "I", .methodLink RX6 78 yX6_in, .static yX6_in, .code yX6_in cX6_in 3 (some .boolean), .methodLink RX6 90 yX6_holds, .instanceMethod yX6_holds, .selects RX6 yX6_holds yX6_holds, .code yX6_holds cX6_holds 2 (some .boolean), .fieldLink RX6 71 "WarpyardModel" "thrown" "I"] ++ wsX60)
def wsX6_delay : List Cond := .code yX6_delay cX6_delay 3 (some .int) :: ([.fieldLink RX6 20 "WarpyardModel" "delays" "[I", .methodLink RX6 93 yX6_isTrain, .instanceMethod yX6_isTrain, .selects RX6 yX6_isTrain yX6_isTrain, .initialized RX6, .code yX6_isTrain cX6_isTrain 2 (some .boolean), .fieldLink RX6 75 "WarpyardModel" "trains" "I", .methodLink RX6 78 yX6_in, .static yX6_in, .code yX6_in cX6_in 3 (some .boolean), .methodLink RX6 90 yX6_holds, .instanceMethod yX6_holds, .selects RX6 yX6_holds yX6_holds, .code yX6_holds cX6_holds 2 (some .boolean), .fieldLink RX6 71 "WarpyardModel" "thrown" "I"] ++ wsX60)
def wsX6_reverse : List Cond := .code yX6_reverse cX6_reverse 2 (some .boolean) :: ([.fieldLink RX6 13 "WarpyardModel" "areRight" "[Z", .methodLink RX6 93 yX6_isTrain, .instanceMethod yX6_isTrain, .selects RX6 yX6_isTrain yX6_isTrain, .initialized RX6, .code yX6_isTrain cX6_isTrain 2 (some .boolean), .fieldLink RX6 75 "WarpyardModel" "trains" "I", .methodLink RX6 78 yX6_in, .static yX6_in, .code yX6_in cX6_in 3 (some .boolean), .methodLink RX6 90 yX6_holds, .instanceMethod yX6_holds, .selects RX6 yX6_holds yX6_holds, .code yX6_holds cX6_holds 2 (some .boolean), .fieldLink RX6 71 "WarpyardModel" "thrown" "I"] ++ wsX60)
def wsX6_throwSwitch : List Cond := .code yX6_throwSwitch cX6_throwSwitch 2 (some .boolean) :: ([.fieldLink RX6 23 "WarpyardModel" "areTurned" "[Z", .methodLink RX6 78 yX6_in, .static yX6_in, .initialized RX6, .code yX6_in cX6_in 3 (some .boolean), .methodLink RX6 90 yX6_holds, .instanceMethod yX6_holds, .selects RX6 yX6_holds yX6_holds, .code yX6_holds cX6_holds 2 (some .boolean), .fieldLink RX6 71 "WarpyardModel" "thrown" "I"] ++ wsX60)
def wsX6_block : List Cond := .code yX6_block cX6_block 2 (some .int) :: ([.fieldLink RX6 7 "WarpyardModel" "blocks" "[I", .methodLink RX6 93 yX6_isTrain, .instanceMethod yX6_isTrain, .selects RX6 yX6_isTrain yX6_isTrain, .initialized RX6, .code yX6_isTrain cX6_isTrain 2 (some .boolean), .fieldLink RX6 75 "WarpyardModel" "trains" "I", .methodLink RX6 78 yX6_in, .static yX6_in, .code yX6_in cX6_in 3 (some .boolean), .methodLink RX6 90 yX6_holds, .instanceMethod yX6_holds, .selects RX6 yX6_holds yX6_holds, .code yX6_holds cX6_holds 2 (some .boolean), .fieldLink RX6 71 "WarpyardModel" "thrown" "I"] ++ wsX60)
def wsX6_isRight : List Cond := .code yX6_isRight cX6_isRight 2 (some .boolean) :: ([.fieldLink RX6 13 "WarpyardModel" "areRight" "[Z", .methodLink RX6 93 yX6_isTrain, .instanceMethod yX6_isTrain, .selects RX6 yX6_isTrain yX6_isTrain, .initialized RX6, .code yX6_isTrain cX6_isTrain 2 (some .boolean), .fieldLink RX6 75 "WarpyardModel" "trains" "I", .methodLink RX6 78 yX6_in, .static yX6_in, .code yX6_in cX6_in 3 (some .boolean), .methodLink RX6 90 yX6_holds, .instanceMethod yX6_holds, .selects RX6 yX6_holds yX6_holds, .code yX6_holds cX6_holds 2 (some .boolean), .fieldLink RX6 71 "WarpyardModel" "thrown" "I"] ++ wsX60)
def wsX6_trainOn : List Cond := .code yX6_trainOn cX6_trainOn 2 (some .int) :: ([.methodLink RX6 82 yX6_isBlock, .static yX6_isBlock, .initialized RX6, .code yX6_isBlock cX6_isBlock 1 (some .boolean), .methodLink RX6 78 yX6_in, .static yX6_in, .code yX6_in cX6_in 3 (some .boolean), .methodLink RX6 90 yX6_holds, .instanceMethod yX6_holds, .selects RX6 yX6_holds yX6_holds, .code yX6_holds cX6_holds 2 (some .boolean), .fieldLink RX6 71 "WarpyardModel" "thrown" "I", .methodLink RX6 86 yX6_standsOn, .instanceMethod yX6_standsOn, .selects RX6 yX6_standsOn yX6_standsOn, .code yX6_standsOn cX6_standsOn 3 (some .int), .fieldLink RX6 75 "WarpyardModel" "trains" "I", .fieldLink RX6 7 "WarpyardModel" "blocks" "[I"] ++ wsX60)
def wsX6_behind : List Cond := .code yX6_behind cX6_behind 4 (some .int) :: ([.fieldLink RX6 23 "WarpyardModel" "areTurned" "[Z"] ++ wsX60)
def wsX6_meets : List Cond := .code yX6_meets cX6_meets 6 (some .boolean) :: ([.fieldLink RX6 96 "WarpyardModel" "bookings" "I", .fieldLink RX6 38 "WarpyardModel" "bookedBlocks" "[I", .fieldLink RX6 35 "WarpyardModel" "bookedTrains" "[I", .fieldLink RX6 41 "WarpyardModel" "firsts" "[I", .fieldLink RX6 44 "WarpyardModel" "lasts" "[I"] ++ wsX60)
def wsX6_isTriedOn : List Cond := .code yX6_isTriedOn cX6_isTriedOn 3 (some .boolean) :: ([.fieldLink RX6 75 "WarpyardModel" "trains" "I", .fieldLink RX6 26 "WarpyardModel" "triedBlocks" "[I"] ++ wsX60)
def wsX6_tries : List Cond := .code yX6_tries cX6_tries 2 none :: ([.fieldLink RX6 75 "WarpyardModel" "trains" "I", .fieldLink RX6 26 "WarpyardModel" "triedBlocks" "[I", .fieldLink RX6 7 "WarpyardModel" "blocks" "[I", .fieldLink RX6 29 "WarpyardModel" "triedRight" "[Z", .fieldLink RX6 13 "WarpyardModel" "areRight" "[Z", .fieldLink RX6 32 "WarpyardModel" "triedDelays" "[I", .fieldLink RX6 20 "WarpyardModel" "delays" "[I"] ++ wsX60)
def wsX6_moves : List Cond := .code yX6_moves cX6_moves 5 (some .int) :: ([.fieldLink RX6 75 "WarpyardModel" "trains" "I", .fieldLink RX6 26 "WarpyardModel" "triedBlocks" "[I", .fieldLink RX6 29 "WarpyardModel" "triedRight" "[Z", .fieldLink RX6 32 "WarpyardModel" "triedDelays" "[I", .fieldLink RX6 17 "WarpyardModel" "areHeld" "[Z", .methodLink RX6 99 yX6_behind, .instanceMethod yX6_behind, .selects RX6 yX6_behind yX6_behind, .initialized RX6, .code yX6_behind cX6_behind 4 (some .int), .fieldLink RX6 23 "WarpyardModel" "areTurned" "[Z", .methodLink RX6 103 yX6_isTriedOn, .instanceMethod yX6_isTriedOn, .selects RX6 yX6_isTriedOn yX6_isTriedOn, .code yX6_isTriedOn cX6_isTriedOn 3 (some .boolean), .methodLink RX6 106 yX6_meets, .instanceMethod yX6_meets, .selects RX6 yX6_meets yX6_meets, .code yX6_meets cX6_meets 6 (some .boolean), .fieldLink RX6 96 "WarpyardModel" "bookings" "I", .fieldLink RX6 38 "WarpyardModel" "bookedBlocks" "[I", .fieldLink RX6 35 "WarpyardModel" "bookedTrains" "[I", .fieldLink RX6 41 "WarpyardModel" "firsts" "[I", .fieldLink RX6 44 "WarpyardModel" "lasts" "[I"] ++ wsX60)
def wsX6_runs_r1 : List Cond := [Cond.fieldLink RX6 113 "WarpyardModel" "clock" "I", Cond.fieldLink RX6 75 "WarpyardModel" "trains" "I", Cond.fieldLink RX6 7 "WarpyardModel" "blocks" "[I", Cond.fieldLink RX6 26 "WarpyardModel" "triedBlocks" "[I", Cond.fieldLink RX6 13 "WarpyardModel" "areRight" "[Z", Cond.fieldLink RX6 29 "WarpyardModel" "triedRight" "[Z", Cond.fieldLink RX6 20 "WarpyardModel" "delays" "[I", Cond.fieldLink RX6 32 "WarpyardModel" "triedDelays" "[I", Cond.fieldLink RX6 96 "WarpyardModel" "bookings" "I", Cond.fieldLink RX6 47 "WarpyardModel" "standings" "[I", Cond.fieldLink RX6 41 "WarpyardModel" "firsts" "[I", Cond.fieldLink RX6 44 "WarpyardModel" "lasts" "[I", Cond.fieldLink RX6 35 "WarpyardModel" "bookedTrains" "[I", Cond.fieldLink RX6 38 "WarpyardModel" "bookedBlocks" "[I", Cond.fieldLink RX6 50 "WarpyardModel" "lates" "[I", Cond.methodLink RX6 110 yX6_tries, Cond.instanceMethod yX6_tries, Cond.selects RX6 yX6_tries yX6_tries, Cond.initialized RX6, Cond.code yX6_tries cX6_tries 2 none, Cond.methodLink RX6 116 yX6_moves, Cond.instanceMethod yX6_moves, Cond.selects RX6 yX6_moves yX6_moves, Cond.code yX6_moves cX6_moves 5 (some .int)]
def wsX6_runs_r2 : List Cond := [Cond.fieldLink RX6 17 "WarpyardModel" "areHeld" "[Z", Cond.methodLink RX6 99 yX6_behind, Cond.instanceMethod yX6_behind, Cond.selects RX6 yX6_behind yX6_behind, Cond.code yX6_behind cX6_behind 4 (some .int), Cond.fieldLink RX6 23 "WarpyardModel" "areTurned" "[Z", Cond.methodLink RX6 103 yX6_isTriedOn, Cond.instanceMethod yX6_isTriedOn, Cond.selects RX6 yX6_isTriedOn yX6_isTriedOn, Cond.code yX6_isTriedOn cX6_isTriedOn 3 (some .boolean), Cond.methodLink RX6 106 yX6_meets, Cond.instanceMethod yX6_meets, Cond.selects RX6 yX6_meets yX6_meets, Cond.code yX6_meets cX6_meets 6 (some .boolean), Cond.methodLink RX6 78 yX6_in, Cond.static yX6_in, Cond.code yX6_in cX6_in 3 (some .boolean)]
def wsX6_runs : List Cond := .code yX6_runs cX6_runs 4 (some .int) :: ((wsX6_runs_r1 ++ wsX6_runs_r2) ++ wsX60)
def wsX6_run_r1 : List Cond := [Cond.fieldLink RX6 113 "WarpyardModel" "clock" "I", Cond.methodLink RX6 78 yX6_in, Cond.static yX6_in, Cond.initialized RX6, Cond.code yX6_in cX6_in 3 (some .boolean), Cond.methodLink RX6 90 yX6_holds, Cond.instanceMethod yX6_holds, Cond.selects RX6 yX6_holds yX6_holds, Cond.code yX6_holds cX6_holds 2 (some .boolean), Cond.fieldLink RX6 71 "WarpyardModel" "thrown" "I", Cond.methodLink RX6 119 yX6_runs, Cond.instanceMethod yX6_runs, Cond.selects RX6 yX6_runs yX6_runs, Cond.code yX6_runs cX6_runs 4 (some .int), Cond.fieldLink RX6 75 "WarpyardModel" "trains" "I", Cond.fieldLink RX6 7 "WarpyardModel" "blocks" "[I", Cond.fieldLink RX6 26 "WarpyardModel" "triedBlocks" "[I", Cond.fieldLink RX6 13 "WarpyardModel" "areRight" "[Z", Cond.fieldLink RX6 29 "WarpyardModel" "triedRight" "[Z", Cond.fieldLink RX6 20 "WarpyardModel" "delays" "[I", Cond.fieldLink RX6 32 "WarpyardModel" "triedDelays" "[I", Cond.fieldLink RX6 96 "WarpyardModel" "bookings" "I", Cond.fieldLink RX6 47 "WarpyardModel" "standings" "[I", Cond.fieldLink RX6 41 "WarpyardModel" "firsts" "[I"]
def wsX6_run_r2 : List Cond := [Cond.fieldLink RX6 44 "WarpyardModel" "lasts" "[I", Cond.fieldLink RX6 35 "WarpyardModel" "bookedTrains" "[I", Cond.fieldLink RX6 38 "WarpyardModel" "bookedBlocks" "[I", Cond.fieldLink RX6 50 "WarpyardModel" "lates" "[I", Cond.methodLink RX6 110 yX6_tries, Cond.instanceMethod yX6_tries, Cond.selects RX6 yX6_tries yX6_tries, Cond.code yX6_tries cX6_tries 2 none, Cond.methodLink RX6 116 yX6_moves, Cond.instanceMethod yX6_moves, Cond.selects RX6 yX6_moves yX6_moves, Cond.code yX6_moves cX6_moves 5 (some .int), Cond.fieldLink RX6 17 "WarpyardModel" "areHeld" "[Z", Cond.methodLink RX6 99 yX6_behind, Cond.instanceMethod yX6_behind, Cond.selects RX6 yX6_behind yX6_behind, Cond.code yX6_behind cX6_behind 4 (some .int), Cond.fieldLink RX6 23 "WarpyardModel" "areTurned" "[Z", Cond.methodLink RX6 103 yX6_isTriedOn, Cond.instanceMethod yX6_isTriedOn, Cond.selects RX6 yX6_isTriedOn yX6_isTriedOn, Cond.code yX6_isTriedOn cX6_isTriedOn 3 (some .boolean), Cond.methodLink RX6 106 yX6_meets, Cond.instanceMethod yX6_meets]
def wsX6_run_r3 : List Cond := [Cond.selects RX6 yX6_meets yX6_meets, Cond.code yX6_meets cX6_meets 6 (some .boolean)]
def wsX6_run : List Cond := .code yX6_run cX6_run 4 (some .int) :: ((wsX6_run_r1 ++ (wsX6_run_r2 ++ wsX6_run_r3)) ++ wsX60)
def wsX6_clock : List Cond := .code yX6_clock cX6_clock 1 (some .int) :: ([.fieldLink RX6 71 "WarpyardModel" "thrown" "I", .fieldLink RX6 113 "WarpyardModel" "clock" "I"] ++ wsX60)
def wsX6_reaches_r1 : List Cond := [Cond.fieldLink RX6 26 "WarpyardModel" "triedBlocks" "[I", Cond.fieldLink RX6 113 "WarpyardModel" "clock" "I", Cond.methodLink RX6 93 yX6_isTrain, Cond.instanceMethod yX6_isTrain, Cond.selects RX6 yX6_isTrain yX6_isTrain, Cond.initialized RX6, Cond.code yX6_isTrain cX6_isTrain 2 (some .boolean), Cond.fieldLink RX6 75 "WarpyardModel" "trains" "I", Cond.methodLink RX6 78 yX6_in, Cond.static yX6_in, Cond.code yX6_in cX6_in 3 (some .boolean), Cond.methodLink RX6 82 yX6_isBlock, Cond.static yX6_isBlock, Cond.code yX6_isBlock cX6_isBlock 1 (some .boolean), Cond.methodLink RX6 90 yX6_holds, Cond.instanceMethod yX6_holds, Cond.selects RX6 yX6_holds yX6_holds, Cond.code yX6_holds cX6_holds 2 (some .boolean), Cond.fieldLink RX6 71 "WarpyardModel" "thrown" "I", Cond.methodLink RX6 110 yX6_tries, Cond.instanceMethod yX6_tries, Cond.selects RX6 yX6_tries yX6_tries, Cond.code yX6_tries cX6_tries 2 none, Cond.fieldLink RX6 7 "WarpyardModel" "blocks" "[I"]
def wsX6_reaches_r2 : List Cond := [Cond.fieldLink RX6 29 "WarpyardModel" "triedRight" "[Z", Cond.fieldLink RX6 13 "WarpyardModel" "areRight" "[Z", Cond.fieldLink RX6 32 "WarpyardModel" "triedDelays" "[I", Cond.fieldLink RX6 20 "WarpyardModel" "delays" "[I", Cond.methodLink RX6 116 yX6_moves, Cond.instanceMethod yX6_moves, Cond.selects RX6 yX6_moves yX6_moves, Cond.code yX6_moves cX6_moves 5 (some .int), Cond.fieldLink RX6 17 "WarpyardModel" "areHeld" "[Z", Cond.methodLink RX6 99 yX6_behind, Cond.instanceMethod yX6_behind, Cond.selects RX6 yX6_behind yX6_behind, Cond.code yX6_behind cX6_behind 4 (some .int), Cond.fieldLink RX6 23 "WarpyardModel" "areTurned" "[Z", Cond.methodLink RX6 103 yX6_isTriedOn, Cond.instanceMethod yX6_isTriedOn, Cond.selects RX6 yX6_isTriedOn yX6_isTriedOn, Cond.code yX6_isTriedOn cX6_isTriedOn 3 (some .boolean), Cond.methodLink RX6 106 yX6_meets, Cond.instanceMethod yX6_meets, Cond.selects RX6 yX6_meets yX6_meets, Cond.code yX6_meets cX6_meets 6 (some .boolean), Cond.fieldLink RX6 96 "WarpyardModel" "bookings" "I", Cond.fieldLink RX6 38 "WarpyardModel" "bookedBlocks" "[I"]
def wsX6_reaches_r3 : List Cond := [Cond.fieldLink RX6 35 "WarpyardModel" "bookedTrains" "[I", Cond.fieldLink RX6 41 "WarpyardModel" "firsts" "[I", Cond.fieldLink RX6 44 "WarpyardModel" "lasts" "[I"]
def wsX6_reaches : List Cond := .code yX6_reaches cX6_reaches 4 (some .int) :: ((wsX6_reaches_r1 ++ (wsX6_reaches_r2 ++ wsX6_reaches_r3)) ++ wsX60)
def wsX6_book_r1 : List Cond := [Cond.fieldLink RX6 113 "WarpyardModel" "clock" "I", Cond.fieldLink RX6 96 "WarpyardModel" "bookings" "I", Cond.fieldLink RX6 35 "WarpyardModel" "bookedTrains" "[I", Cond.fieldLink RX6 38 "WarpyardModel" "bookedBlocks" "[I", Cond.fieldLink RX6 41 "WarpyardModel" "firsts" "[I", Cond.fieldLink RX6 44 "WarpyardModel" "lasts" "[I", Cond.methodLink RX6 93 yX6_isTrain, Cond.instanceMethod yX6_isTrain, Cond.selects RX6 yX6_isTrain yX6_isTrain, Cond.initialized RX6, Cond.code yX6_isTrain cX6_isTrain 2 (some .boolean), Cond.fieldLink RX6 75 "WarpyardModel" "trains" "I", Cond.methodLink RX6 78 yX6_in, Cond.static yX6_in, Cond.code yX6_in cX6_in 3 (some .boolean), Cond.methodLink RX6 82 yX6_isBlock, Cond.static yX6_isBlock, Cond.code yX6_isBlock cX6_isBlock 1 (some .boolean), Cond.methodLink RX6 90 yX6_holds, Cond.instanceMethod yX6_holds, Cond.selects RX6 yX6_holds yX6_holds, Cond.code yX6_holds cX6_holds 2 (some .boolean), Cond.fieldLink RX6 71 "WarpyardModel" "thrown" "I", Cond.methodLink RX6 106 yX6_meets]
def wsX6_book_r2 : List Cond := [Cond.instanceMethod yX6_meets, Cond.selects RX6 yX6_meets yX6_meets, Cond.code yX6_meets cX6_meets 6 (some .boolean)]
def wsX6_book : List Cond := .code yX6_book cX6_book 7 (some .int) :: ((wsX6_book_r1 ++ wsX6_book_r2) ++ wsX60)
def wsX6_mayBook_r1 : List Cond := [Cond.methodLink RX6 93 yX6_isTrain, Cond.instanceMethod yX6_isTrain, Cond.selects RX6 yX6_isTrain yX6_isTrain, Cond.initialized RX6, Cond.code yX6_isTrain cX6_isTrain 2 (some .boolean), Cond.fieldLink RX6 75 "WarpyardModel" "trains" "I", Cond.methodLink RX6 78 yX6_in, Cond.static yX6_in, Cond.code yX6_in cX6_in 3 (some .boolean), Cond.methodLink RX6 82 yX6_isBlock, Cond.static yX6_isBlock, Cond.code yX6_isBlock cX6_isBlock 1 (some .boolean), Cond.methodLink RX6 90 yX6_holds, Cond.instanceMethod yX6_holds, Cond.selects RX6 yX6_holds yX6_holds, Cond.code yX6_holds cX6_holds 2 (some .boolean), Cond.fieldLink RX6 71 "WarpyardModel" "thrown" "I", Cond.methodLink RX6 106 yX6_meets, Cond.instanceMethod yX6_meets, Cond.selects RX6 yX6_meets yX6_meets, Cond.code yX6_meets cX6_meets 6 (some .boolean), Cond.fieldLink RX6 96 "WarpyardModel" "bookings" "I", Cond.fieldLink RX6 38 "WarpyardModel" "bookedBlocks" "[I", Cond.fieldLink RX6 35 "WarpyardModel" "bookedTrains" "[I"]
def wsX6_mayBook_r2 : List Cond := [Cond.fieldLink RX6 41 "WarpyardModel" "firsts" "[I", Cond.fieldLink RX6 44 "WarpyardModel" "lasts" "[I"]
def wsX6_mayBook : List Cond := .code yX6_mayBook cX6_mayBook 7 (some .boolean) :: ((wsX6_mayBook_r1 ++ wsX6_mayBook_r2) ++ wsX60)
def wsX6_canBook_r1 : List Cond := [Cond.methodLink RX6 123 yX6_mayBook, Cond.instanceMethod yX6_mayBook, Cond.selects RX6 yX6_mayBook yX6_mayBook, Cond.initialized RX6, Cond.code yX6_mayBook cX6_mayBook 7 (some .boolean), Cond.methodLink RX6 93 yX6_isTrain, Cond.instanceMethod yX6_isTrain, Cond.selects RX6 yX6_isTrain yX6_isTrain, Cond.code yX6_isTrain cX6_isTrain 2 (some .boolean), Cond.fieldLink RX6 75 "WarpyardModel" "trains" "I", Cond.methodLink RX6 78 yX6_in, Cond.static yX6_in, Cond.code yX6_in cX6_in 3 (some .boolean), Cond.methodLink RX6 82 yX6_isBlock, Cond.static yX6_isBlock, Cond.code yX6_isBlock cX6_isBlock 1 (some .boolean), Cond.methodLink RX6 90 yX6_holds, Cond.instanceMethod yX6_holds, Cond.selects RX6 yX6_holds yX6_holds, Cond.code yX6_holds cX6_holds 2 (some .boolean), Cond.fieldLink RX6 71 "WarpyardModel" "thrown" "I", Cond.methodLink RX6 106 yX6_meets, Cond.instanceMethod yX6_meets, Cond.selects RX6 yX6_meets yX6_meets]
def wsX6_canBook_r2 : List Cond := [Cond.code yX6_meets cX6_meets 6 (some .boolean), Cond.fieldLink RX6 96 "WarpyardModel" "bookings" "I", Cond.fieldLink RX6 38 "WarpyardModel" "bookedBlocks" "[I", Cond.fieldLink RX6 35 "WarpyardModel" "bookedTrains" "[I", Cond.fieldLink RX6 41 "WarpyardModel" "firsts" "[I", Cond.fieldLink RX6 44 "WarpyardModel" "lasts" "[I"]
def wsX6_canBook : List Cond := .code yX6_canBook cX6_canBook 5 (some .boolean) :: ((wsX6_canBook_r1 ++ wsX6_canBook_r2) ++ wsX60)
def wsX6_canBookByMinutes_r1 : List Cond := [Cond.methodLink RX6 123 yX6_mayBook, Cond.instanceMethod yX6_mayBook, Cond.selects RX6 yX6_mayBook yX6_mayBook, Cond.initialized RX6, Cond.code yX6_mayBook cX6_mayBook 7 (some .boolean), Cond.methodLink RX6 93 yX6_isTrain, Cond.instanceMethod yX6_isTrain, Cond.selects RX6 yX6_isTrain yX6_isTrain, Cond.code yX6_isTrain cX6_isTrain 2 (some .boolean), Cond.fieldLink RX6 75 "WarpyardModel" "trains" "I", Cond.methodLink RX6 78 yX6_in, Cond.static yX6_in, Cond.code yX6_in cX6_in 3 (some .boolean), Cond.methodLink RX6 82 yX6_isBlock, Cond.static yX6_isBlock, Cond.code yX6_isBlock cX6_isBlock 1 (some .boolean), Cond.methodLink RX6 90 yX6_holds, Cond.instanceMethod yX6_holds, Cond.selects RX6 yX6_holds yX6_holds, Cond.code yX6_holds cX6_holds 2 (some .boolean), Cond.fieldLink RX6 71 "WarpyardModel" "thrown" "I", Cond.methodLink RX6 106 yX6_meets, Cond.instanceMethod yX6_meets, Cond.selects RX6 yX6_meets yX6_meets]
def wsX6_canBookByMinutes_r2 : List Cond := [Cond.code yX6_meets cX6_meets 6 (some .boolean), Cond.fieldLink RX6 96 "WarpyardModel" "bookings" "I", Cond.fieldLink RX6 38 "WarpyardModel" "bookedBlocks" "[I", Cond.fieldLink RX6 35 "WarpyardModel" "bookedTrains" "[I", Cond.fieldLink RX6 41 "WarpyardModel" "firsts" "[I", Cond.fieldLink RX6 44 "WarpyardModel" "lasts" "[I"]
def wsX6_canBookByMinutes : List Cond := .code yX6_canBookByMinutes cX6_canBookByMinutes 5 (some .boolean) :: ((wsX6_canBookByMinutes_r1 ++ wsX6_canBookByMinutes_r2) ++ wsX60)
def wsX6_isBooking : List Cond := .code yX6_isBooking cX6_isBooking 2 (some .boolean) :: ([.fieldLink RX6 96 "WarpyardModel" "bookings" "I", .methodLink RX6 78 yX6_in, .static yX6_in, .initialized RX6, .code yX6_in cX6_in 3 (some .boolean), .methodLink RX6 90 yX6_holds, .instanceMethod yX6_holds, .selects RX6 yX6_holds yX6_holds, .code yX6_holds cX6_holds 2 (some .boolean), .fieldLink RX6 71 "WarpyardModel" "thrown" "I"] ++ wsX60)
def wsX6_booking : List Cond := .code yX6_booking cX6_booking 2 (some .int) :: ([.fieldLink RX6 47 "WarpyardModel" "standings" "[I", .methodLink RX6 126 yX6_isBooking, .instanceMethod yX6_isBooking, .selects RX6 yX6_isBooking yX6_isBooking, .initialized RX6, .code yX6_isBooking cX6_isBooking 2 (some .boolean), .fieldLink RX6 96 "WarpyardModel" "bookings" "I", .methodLink RX6 78 yX6_in, .static yX6_in, .code yX6_in cX6_in 3 (some .boolean), .methodLink RX6 90 yX6_holds, .instanceMethod yX6_holds, .selects RX6 yX6_holds yX6_holds, .code yX6_holds cX6_holds 2 (some .boolean), .fieldLink RX6 71 "WarpyardModel" "thrown" "I"] ++ wsX60)
def wsX6_late : List Cond := .code yX6_late cX6_late 2 (some .int) :: ([.fieldLink RX6 47 "WarpyardModel" "standings" "[I", .fieldLink RX6 50 "WarpyardModel" "lates" "[I", .methodLink RX6 126 yX6_isBooking, .instanceMethod yX6_isBooking, .selects RX6 yX6_isBooking yX6_isBooking, .initialized RX6, .code yX6_isBooking cX6_isBooking 2 (some .boolean), .fieldLink RX6 96 "WarpyardModel" "bookings" "I", .methodLink RX6 78 yX6_in, .static yX6_in, .code yX6_in cX6_in 3 (some .boolean), .methodLink RX6 90 yX6_holds, .instanceMethod yX6_holds, .selects RX6 yX6_holds yX6_holds, .code yX6_holds cX6_holds 2 (some .boolean), .fieldLink RX6 71 "WarpyardModel" "thrown" "I"] ++ wsX60)
def wsX6_isSiding : List Cond := .code yX6_isSiding cX6_isSiding 1 (some .boolean) :: ([.methodLink RX6 78 yX6_in, .static yX6_in, .initialized RX6, .code yX6_in cX6_in 3 (some .boolean)])
def wsX6_many : List Cond := .code yX6_many cX6_many 4 (some .int) :: ([.fieldLink RX6 129 "WarpyardModel" "waggons" "I", .fieldLink RX6 56 "WarpyardModel" "wheres" "[I"] ++ wsX60)
def wsX6_waggon : List Cond := .code yX6_waggon cX6_waggon 4 (some .int) :: ([.fieldLink RX6 129 "WarpyardModel" "waggons" "I", .fieldLink RX6 56 "WarpyardModel" "wheres" "[I", .fieldLink RX6 59 "WarpyardModel" "places" "[I"] ++ wsX60)
def wsX6_comes : List Cond := .code yX6_comes cX6_comes 4 none :: ([.fieldLink RX6 56 "WarpyardModel" "wheres" "[I", .fieldLink RX6 59 "WarpyardModel" "places" "[I", .methodLink RX6 132 yX6_many, .instanceMethod yX6_many, .selects RX6 yX6_many yX6_many, .initialized RX6, .code yX6_many cX6_many 4 (some .int), .fieldLink RX6 129 "WarpyardModel" "waggons" "I"] ++ wsX60)
def wsX6_addWaggon : List Cond := .code yX6_addWaggon cX6_addWaggon 4 (some .int) :: ([.fieldLink RX6 129 "WarpyardModel" "waggons" "I", .fieldLink RX6 53 "WarpyardModel" "weights" "[I", .methodLink RX6 135 yX6_isSiding, .static yX6_isSiding, .initialized RX6, .code yX6_isSiding cX6_isSiding 1 (some .boolean), .methodLink RX6 78 yX6_in, .static yX6_in, .code yX6_in cX6_in 3 (some .boolean), .methodLink RX6 132 yX6_many, .instanceMethod yX6_many, .selects RX6 yX6_many yX6_many, .code yX6_many cX6_many 4 (some .int), .fieldLink RX6 56 "WarpyardModel" "wheres" "[I", .methodLink RX6 90 yX6_holds, .instanceMethod yX6_holds, .selects RX6 yX6_holds yX6_holds, .code yX6_holds cX6_holds 2 (some .boolean), .fieldLink RX6 71 "WarpyardModel" "thrown" "I", .methodLink RX6 138 yX6_comes, .instanceMethod yX6_comes, .selects RX6 yX6_comes yX6_comes, .code yX6_comes cX6_comes 4 none, .fieldLink RX6 59 "WarpyardModel" "places" "[I"] ++ wsX60)
def wsX6_offer : List Cond := .code yX6_offer cX6_offer 6 none :: ([.fieldLink RX6 129 "WarpyardModel" "waggons" "I", .fieldLink RX6 62 "WarpyardModel" "offeredSidings" "[I", .fieldLink RX6 65 "WarpyardModel" "offeredMinutes" "[I", .fieldLink RX6 68 "WarpyardModel" "prices" "[I", .methodLink RX6 78 yX6_in, .static yX6_in, .initialized RX6, .code yX6_in cX6_in 3 (some .boolean), .methodLink RX6 135 yX6_isSiding, .static yX6_isSiding, .code yX6_isSiding cX6_isSiding 1 (some .boolean), .methodLink RX6 90 yX6_holds, .instanceMethod yX6_holds, .selects RX6 yX6_holds yX6_holds, .code yX6_holds cX6_holds 2 (some .boolean), .fieldLink RX6 71 "WarpyardModel" "thrown" "I"] ++ wsX60)
def wsX6_weight : List Cond := .code yX6_weight cX6_weight 4 (some .int) :: ([.fieldLink RX6 129 "WarpyardModel" "waggons" "I", .fieldLink RX6 56 "WarpyardModel" "wheres" "[I", .fieldLink RX6 53 "WarpyardModel" "weights" "[I"] ++ wsX60)
def wsX6_errorOfCouple_r1 : List Cond := [Cond.fieldLink RX6 7 "WarpyardModel" "blocks" "[I", Cond.fieldLink RX6 53 "WarpyardModel" "weights" "[I", Cond.methodLink RX6 93 yX6_isTrain, Cond.instanceMethod yX6_isTrain, Cond.selects RX6 yX6_isTrain yX6_isTrain, Cond.initialized RX6, Cond.code yX6_isTrain cX6_isTrain 2 (some .boolean), Cond.fieldLink RX6 75 "WarpyardModel" "trains" "I", Cond.methodLink RX6 78 yX6_in, Cond.static yX6_in, Cond.code yX6_in cX6_in 3 (some .boolean), Cond.methodLink RX6 135 yX6_isSiding, Cond.static yX6_isSiding, Cond.code yX6_isSiding cX6_isSiding 1 (some .boolean), Cond.methodLink RX6 132 yX6_many, Cond.instanceMethod yX6_many, Cond.selects RX6 yX6_many yX6_many, Cond.code yX6_many cX6_many 4 (some .int), Cond.fieldLink RX6 129 "WarpyardModel" "waggons" "I", Cond.fieldLink RX6 56 "WarpyardModel" "wheres" "[I", Cond.methodLink RX6 142 yX6_waggon, Cond.instanceMethod yX6_waggon, Cond.selects RX6 yX6_waggon yX6_waggon, Cond.code yX6_waggon cX6_waggon 4 (some .int)]
def wsX6_errorOfCouple_r2 : List Cond := [Cond.fieldLink RX6 59 "WarpyardModel" "places" "[I", Cond.methodLink RX6 146 yX6_weight, Cond.instanceMethod yX6_weight, Cond.selects RX6 yX6_weight yX6_weight, Cond.code yX6_weight cX6_weight 4 (some .int)]
def wsX6_errorOfCouple : List Cond := .code yX6_errorOfCouple cX6_errorOfCouple 4 (some .int) :: ((wsX6_errorOfCouple_r1 ++ wsX6_errorOfCouple_r2) ++ wsX60)
def wsX6_couple_r1 : List Cond := [Cond.fieldLink RX6 7 "WarpyardModel" "blocks" "[I", Cond.methodLink RX6 149 yX6_errorOfCouple, Cond.instanceMethod yX6_errorOfCouple, Cond.selects RX6 yX6_errorOfCouple yX6_errorOfCouple, Cond.initialized RX6, Cond.code yX6_errorOfCouple cX6_errorOfCouple 4 (some .int), Cond.fieldLink RX6 53 "WarpyardModel" "weights" "[I", Cond.methodLink RX6 93 yX6_isTrain, Cond.instanceMethod yX6_isTrain, Cond.selects RX6 yX6_isTrain yX6_isTrain, Cond.code yX6_isTrain cX6_isTrain 2 (some .boolean), Cond.fieldLink RX6 75 "WarpyardModel" "trains" "I", Cond.methodLink RX6 78 yX6_in, Cond.static yX6_in, Cond.code yX6_in cX6_in 3 (some .boolean), Cond.methodLink RX6 135 yX6_isSiding, Cond.static yX6_isSiding, Cond.code yX6_isSiding cX6_isSiding 1 (some .boolean), Cond.methodLink RX6 132 yX6_many, Cond.instanceMethod yX6_many, Cond.selects RX6 yX6_many yX6_many, Cond.code yX6_many cX6_many 4 (some .int), Cond.fieldLink RX6 129 "WarpyardModel" "waggons" "I", Cond.fieldLink RX6 56 "WarpyardModel" "wheres" "[I"]
def wsX6_couple_r2 : List Cond := [Cond.methodLink RX6 142 yX6_waggon, Cond.instanceMethod yX6_waggon, Cond.selects RX6 yX6_waggon yX6_waggon, Cond.code yX6_waggon cX6_waggon 4 (some .int), Cond.fieldLink RX6 59 "WarpyardModel" "places" "[I", Cond.methodLink RX6 146 yX6_weight, Cond.instanceMethod yX6_weight, Cond.selects RX6 yX6_weight yX6_weight, Cond.code yX6_weight cX6_weight 4 (some .int), Cond.methodLink RX6 90 yX6_holds, Cond.instanceMethod yX6_holds, Cond.selects RX6 yX6_holds yX6_holds, Cond.code yX6_holds cX6_holds 2 (some .boolean), Cond.fieldLink RX6 71 "WarpyardModel" "thrown" "I", Cond.methodLink RX6 138 yX6_comes, Cond.instanceMethod yX6_comes, Cond.selects RX6 yX6_comes yX6_comes, Cond.code yX6_comes cX6_comes 4 none]
def wsX6_couple : List Cond := .code yX6_couple cX6_couple 3 (some .int) :: ((wsX6_couple_r1 ++ wsX6_couple_r2) ++ wsX60)
def wsX6_leave_r1 : List Cond := [Cond.fieldLink RX6 7 "WarpyardModel" "blocks" "[I", Cond.fieldLink RX6 68 "WarpyardModel" "prices" "[I", Cond.fieldLink RX6 62 "WarpyardModel" "offeredSidings" "[I", Cond.fieldLink RX6 113 "WarpyardModel" "clock" "I", Cond.fieldLink RX6 65 "WarpyardModel" "offeredMinutes" "[I", Cond.fieldLink RX6 152 "WarpyardModel" "earned" "I", Cond.methodLink RX6 93 yX6_isTrain, Cond.instanceMethod yX6_isTrain, Cond.selects RX6 yX6_isTrain yX6_isTrain, Cond.initialized RX6, Cond.code yX6_isTrain cX6_isTrain 2 (some .boolean), Cond.fieldLink RX6 75 "WarpyardModel" "trains" "I", Cond.methodLink RX6 78 yX6_in, Cond.static yX6_in, Cond.code yX6_in cX6_in 3 (some .boolean), Cond.methodLink RX6 135 yX6_isSiding, Cond.static yX6_isSiding, Cond.code yX6_isSiding cX6_isSiding 1 (some .boolean), Cond.methodLink RX6 132 yX6_many, Cond.instanceMethod yX6_many, Cond.selects RX6 yX6_many yX6_many, Cond.code yX6_many cX6_many 4 (some .int), Cond.fieldLink RX6 129 "WarpyardModel" "waggons" "I", Cond.fieldLink RX6 56 "WarpyardModel" "wheres" "[I"]
def wsX6_leave_r2 : List Cond := [Cond.methodLink RX6 90 yX6_holds, Cond.instanceMethod yX6_holds, Cond.selects RX6 yX6_holds yX6_holds, Cond.code yX6_holds cX6_holds 2 (some .boolean), Cond.fieldLink RX6 71 "WarpyardModel" "thrown" "I", Cond.methodLink RX6 142 yX6_waggon, Cond.instanceMethod yX6_waggon, Cond.selects RX6 yX6_waggon yX6_waggon, Cond.code yX6_waggon cX6_waggon 4 (some .int), Cond.fieldLink RX6 59 "WarpyardModel" "places" "[I", Cond.methodLink RX6 138 yX6_comes, Cond.instanceMethod yX6_comes, Cond.selects RX6 yX6_comes yX6_comes, Cond.code yX6_comes cX6_comes 4 none]
def wsX6_leave : List Cond := .code yX6_leave cX6_leave 8 (some .int) :: ((wsX6_leave_r1 ++ wsX6_leave_r2) ++ wsX60)
def wsX6_waggonAt_r1 : List Cond := [Cond.methodLink RX6 135 yX6_isSiding, Cond.static yX6_isSiding, Cond.initialized RX6, Cond.code yX6_isSiding cX6_isSiding 1 (some .boolean), Cond.methodLink RX6 78 yX6_in, Cond.static yX6_in, Cond.code yX6_in cX6_in 3 (some .boolean), Cond.methodLink RX6 93 yX6_isTrain, Cond.instanceMethod yX6_isTrain, Cond.selects RX6 yX6_isTrain yX6_isTrain, Cond.code yX6_isTrain cX6_isTrain 2 (some .boolean), Cond.fieldLink RX6 75 "WarpyardModel" "trains" "I", Cond.methodLink RX6 90 yX6_holds, Cond.instanceMethod yX6_holds, Cond.selects RX6 yX6_holds yX6_holds, Cond.code yX6_holds cX6_holds 2 (some .boolean), Cond.fieldLink RX6 71 "WarpyardModel" "thrown" "I", Cond.methodLink RX6 132 yX6_many, Cond.instanceMethod yX6_many, Cond.selects RX6 yX6_many yX6_many, Cond.code yX6_many cX6_many 4 (some .int), Cond.fieldLink RX6 129 "WarpyardModel" "waggons" "I", Cond.fieldLink RX6 56 "WarpyardModel" "wheres" "[I", Cond.methodLink RX6 142 yX6_waggon]
def wsX6_waggonAt_r2 : List Cond := [Cond.instanceMethod yX6_waggon, Cond.selects RX6 yX6_waggon yX6_waggon, Cond.code yX6_waggon cX6_waggon 4 (some .int), Cond.fieldLink RX6 59 "WarpyardModel" "places" "[I"]
def wsX6_waggonAt : List Cond := .code yX6_waggonAt cX6_waggonAt 5 (some .int) :: ((wsX6_waggonAt_r1 ++ wsX6_waggonAt_r2) ++ wsX60)
def wsX6_earned : List Cond := .code yX6_earned cX6_earned 1 (some .int) :: ([.fieldLink RX6 71 "WarpyardModel" "thrown" "I", .fieldLink RX6 152 "WarpyardModel" "earned" "I"] ++ wsX60)
def wsJ9_max_7cf53 : List Cond := .code yJ9_max_7cf53 cJ9_max_7cf53 2 (some .int) :: ([])
def wsL_addTrain_r1 : List Cond := [Cond.classLink RL 13 "java/lang/IndexOutOfBoundsException", Cond.classLink RL 15 "java/lang/IllegalStateException", Cond.methodLink RL 7 yX5_addTrain, Cond.instanceMethod yX5_addTrain, Cond.selects RX5 yX5_addTrain yX5_addTrain, Cond.initialized RX5, Cond.code yX5_addTrain cX5_addTrain 3 (some .int), Cond.classLink RX5 55 "java/lang/IllegalStateException", Cond.initialized "java/lang/IllegalStateException", Cond.fieldLink RX5 19 "Warpyard" "trains" "LWarpyard$Trains;", Cond.fieldLink RX5 51 "Warpyard$Trains" "count" "I", Cond.methodLink RX5 47 yX5_needBlock, Cond.static yX5_needBlock, Cond.code yX5_needBlock cX5_needBlock 1 none, Cond.classLink RX5 95 "java/lang/IndexOutOfBoundsException", Cond.initialized "java/lang/IndexOutOfBoundsException", Cond.methodLink RX5 62 yX3_standingOn, Cond.instanceMethod yX3_standingOn, Cond.selects RX3 yX3_standingOn yX3_standingOn, Cond.initialized RX3, Cond.code yX3_standingOn cX3_standingOn 3 (some .int), Cond.fieldLink RX3 25 "Warpyard$Trains" "count" "I", Cond.fieldLink RX3 9 "Warpyard$Trains" "block" "[I", Cond.methodLink RX5 68 yX3_add]
def wsL_addTrain_r2 : List Cond := [Cond.instanceMethod yX3_add, Cond.selects RX3 yX3_add yX3_add, Cond.code yX3_add cX3_add 4 (some .int), Cond.fieldLink RX3 15 "Warpyard$Trains" "right" "[Z"]
def wsL_addTrain : List Cond := .codeWith yL_addTrain cL_addTrain 5 (some .int) [(0, 10, 13, 13), (0, 10, 17, 15)] :: ((wsL_addTrain_r1 ++ wsL_addTrain_r2) ++ wsX50 ++ wsX30 ++ (vx_atS RX5 59 "java/lang/IllegalStateException" ["java/lang/RuntimeException", "java/lang/Exception"]).filter goodWord ++ (vx_atS RX5 99 "java/lang/IndexOutOfBoundsException" ["java/lang/RuntimeException", "java/lang/Exception"]).filter goodWord)
def wsL_hold : List Cond := .codeWith yL_hold cL_hold 5 (some .int) [(0, 17, 20, 13)] :: ([.classLink RL 13 "java/lang/IndexOutOfBoundsException", .methodLink RL 17 yX5_hold, .instanceMethod yX5_hold, .selects RX5 yX5_hold yX5_hold, .initialized RX5, .code yX5_hold cX5_hold 4 (some .boolean), .fieldLink RX5 19 "Warpyard" "trains" "LWarpyard$Trains;", .fieldLink RX5 75 "Warpyard$Trains" "held" "[Z", .methodLink RX5 72 yX5_needTrain, .instanceMethod yX5_needTrain, .selects RX5 yX5_needTrain yX5_needTrain, .code yX5_needTrain cX5_needTrain 2 none, .classLink RX5 95 "java/lang/IndexOutOfBoundsException", .initialized "java/lang/IndexOutOfBoundsException", .fieldLink RX5 51 "Warpyard$Trains" "count" "I"] ++ wsX50 ++ wsX30 ++ (vx_atS RX5 99 "java/lang/IndexOutOfBoundsException" ["java/lang/RuntimeException", "java/lang/Exception"]).filter goodWord)
def wsL_delay : List Cond := .codeWith yL_delay cL_delay 5 (some .int) [(0, 10, 13, 13), (0, 10, 17, 25)] :: ([.classLink RL 13 "java/lang/IndexOutOfBoundsException", .classLink RL 25 "java/lang/IllegalArgumentException", .methodLink RL 21 yX5_delay, .instanceMethod yX5_delay, .selects RX5 yX5_delay yX5_delay, .initialized RX5, .code yX5_delay cX5_delay 4 (some .int), .classLink RX5 86 "java/lang/IllegalArgumentException", .initialized "java/lang/IllegalArgumentException", .fieldLink RX5 19 "Warpyard" "trains" "LWarpyard$Trains;", .fieldLink RX5 82 "Warpyard$Trains" "delay" "[I", .methodLink RX5 72 yX5_needTrain, .instanceMethod yX5_needTrain, .selects RX5 yX5_needTrain yX5_needTrain, .code yX5_needTrain cX5_needTrain 2 none, .classLink RX5 95 "java/lang/IndexOutOfBoundsException", .initialized "java/lang/IndexOutOfBoundsException", .fieldLink RX5 51 "Warpyard$Trains" "count" "I", .methodLink RX5 79 yX5_needMinutesToRun, .static yX5_needMinutesToRun, .code yX5_needMinutesToRun cX5_needMinutesToRun 1 none] ++ wsX50 ++ wsX30 ++ (vx_atS RX5 90 "java/lang/IllegalArgumentException" ["java/lang/RuntimeException", "java/lang/Exception"]).filter goodWord ++ (vx_atS RX5 99 "java/lang/IndexOutOfBoundsException" ["java/lang/RuntimeException", "java/lang/Exception"]).filter goodWord)
def wsL_reverse : List Cond := .codeWith yL_reverse cL_reverse 4 (some .int) [(0, 16, 19, 13)] :: ([.classLink RL 13 "java/lang/IndexOutOfBoundsException", .methodLink RL 27 yX5_reverse, .instanceMethod yX5_reverse, .selects RX5 yX5_reverse yX5_reverse, .initialized RX5, .code yX5_reverse cX5_reverse 2 (some .boolean), .fieldLink RX5 19 "Warpyard" "trains" "LWarpyard$Trains;", .methodLink RX5 72 yX5_needTrain, .instanceMethod yX5_needTrain, .selects RX5 yX5_needTrain yX5_needTrain, .code yX5_needTrain cX5_needTrain 2 none, .classLink RX5 95 "java/lang/IndexOutOfBoundsException", .initialized "java/lang/IndexOutOfBoundsException", .fieldLink RX5 51 "Warpyard$Trains" "count" "I", .methodLink RX5 91 yX3_turnRound, .instanceMethod yX3_turnRound, .selects RX3 yX3_turnRound yX3_turnRound, .initialized RX3, .code yX3_turnRound cX3_turnRound 2 (some .boolean), .fieldLink RX3 15 "Warpyard$Trains" "right" "[Z"] ++ wsX50 ++ wsX30 ++ (vx_atS RX5 99 "java/lang/IndexOutOfBoundsException" ["java/lang/RuntimeException", "java/lang/Exception"]).filter goodWord)
def wsL_throwSwitch : List Cond := .codeWith yL_throwSwitch cL_throwSwitch 4 (some .int) [(0, 16, 19, 13)] :: ([.classLink RL 13 "java/lang/IndexOutOfBoundsException", .methodLink RL 31 yX5_throwSwitch, .instanceMethod yX5_throwSwitch, .selects RX5 yX5_throwSwitch yX5_throwSwitch, .initialized RX5, .code yX5_throwSwitch cX5_throwSwitch 2 (some .boolean), .classLink RX5 95 "java/lang/IndexOutOfBoundsException", .initialized "java/lang/IndexOutOfBoundsException", .fieldLink RX5 10 "Warpyard" "tracks" "LWarpyard$Tracks;", .methodLink RX5 100 yX2_turn, .instanceMethod yX2_turn, .selects RX2 yX2_turn yX2_turn, .initialized RX2, .code yX2_turn cX2_turn 2 (some .boolean), .fieldLink RX2 9 "Warpyard$Tracks" "turned" "[Z"] ++ wsX50 ++ wsX20 ++ (vx_atS RX5 99 "java/lang/IndexOutOfBoundsException" ["java/lang/RuntimeException", "java/lang/Exception"]).filter goodWord)
def wsL_block : List Cond := .codeWith yL_block cL_block 4 (some .int) [(0, 9, 12, 13)] :: ([.classLink RL 13 "java/lang/IndexOutOfBoundsException", .methodLink RL 34 yX5_block, .instanceMethod yX5_block, .selects RX5 yX5_block yX5_block, .initialized RX5, .code yX5_block cX5_block 2 (some .int), .fieldLink RX5 19 "Warpyard" "trains" "LWarpyard$Trains;", .fieldLink RX5 103 "Warpyard$Trains" "block" "[I", .methodLink RX5 72 yX5_needTrain, .instanceMethod yX5_needTrain, .selects RX5 yX5_needTrain yX5_needTrain, .code yX5_needTrain cX5_needTrain 2 none, .classLink RX5 95 "java/lang/IndexOutOfBoundsException", .initialized "java/lang/IndexOutOfBoundsException", .fieldLink RX5 51 "Warpyard$Trains" "count" "I"] ++ wsX50 ++ wsX30 ++ (vx_atS RX5 99 "java/lang/IndexOutOfBoundsException" ["java/lang/RuntimeException", "java/lang/Exception"]).filter goodWord)
def wsL_isRight : List Cond := .codeWith yL_isRight cL_isRight 4 (some .int) [(0, 16, 19, 13)] :: ([.classLink RL 13 "java/lang/IndexOutOfBoundsException", .methodLink RL 38 yX5_isRight, .instanceMethod yX5_isRight, .selects RX5 yX5_isRight yX5_isRight, .initialized RX5, .code yX5_isRight cX5_isRight 2 (some .boolean), .fieldLink RX5 19 "Warpyard" "trains" "LWarpyard$Trains;", .fieldLink RX5 106 "Warpyard$Trains" "right" "[Z", .methodLink RX5 72 yX5_needTrain, .instanceMethod yX5_needTrain, .selects RX5 yX5_needTrain yX5_needTrain, .code yX5_needTrain cX5_needTrain 2 none, .classLink RX5 95 "java/lang/IndexOutOfBoundsException", .initialized "java/lang/IndexOutOfBoundsException", .fieldLink RX5 51 "Warpyard$Trains" "count" "I"] ++ wsX50 ++ wsX30 ++ (vx_atS RX5 99 "java/lang/IndexOutOfBoundsException" ["java/lang/RuntimeException", "java/lang/Exception"]).filter goodWord)
def wsL_trainOn : List Cond := .codeWith yL_trainOn cL_trainOn 4 (some .int) [(0, 9, 12, 13)] :: ([.classLink RL 13 "java/lang/IndexOutOfBoundsException", .methodLink RL 41 yX5_trainOn, .instanceMethod yX5_trainOn, .selects RX5 yX5_trainOn yX5_trainOn, .initialized RX5, .code yX5_trainOn cX5_trainOn 2 (some .int), .fieldLink RX5 19 "Warpyard" "trains" "LWarpyard$Trains;", .methodLink RX5 47 yX5_needBlock, .static yX5_needBlock, .code yX5_needBlock cX5_needBlock 1 none, .classLink RX5 95 "java/lang/IndexOutOfBoundsException", .initialized "java/lang/IndexOutOfBoundsException", .methodLink RX5 62 yX3_standingOn, .instanceMethod yX3_standingOn, .selects RX3 yX3_standingOn yX3_standingOn, .initialized RX3, .code yX3_standingOn cX3_standingOn 3 (some .int), .fieldLink RX3 25 "Warpyard$Trains" "count" "I", .fieldLink RX3 9 "Warpyard$Trains" "block" "[I"] ++ wsX50 ++ wsX30 ++ (vx_atS RX5 99 "java/lang/IndexOutOfBoundsException" ["java/lang/RuntimeException", "java/lang/Exception"]).filter goodWord)
def wsL_run_r1 : List Cond := [Cond.classLink RL 25 "java/lang/IllegalArgumentException", Cond.classLink RL 15 "java/lang/IllegalStateException", Cond.methodLink RL 44 yX5_run, Cond.instanceMethod yX5_run, Cond.selects RX5 yX5_run yX5_run, Cond.initialized RX5, Cond.code yX5_run cX5_run 4 (some .int), Cond.classLink RX5 55 "java/lang/IllegalStateException", Cond.initialized "java/lang/IllegalStateException", Cond.fieldLink RX5 109 "Warpyard" "now" "I", Cond.fieldLink RX5 19 "Warpyard" "trains" "LWarpyard$Trains;", Cond.fieldLink RX5 10 "Warpyard" "tracks" "LWarpyard$Tracks;", Cond.fieldLink RX5 29 "Warpyard" "bookings" "LWarpyard$Bookings;", Cond.methodLink RX5 79 yX5_needMinutesToRun, Cond.static yX5_needMinutesToRun, Cond.code yX5_needMinutesToRun cX5_needMinutesToRun 1 none, Cond.classLink RX5 86 "java/lang/IllegalArgumentException", Cond.initialized "java/lang/IllegalArgumentException", Cond.methodLink RX5 114 yX3_runMinute, Cond.instanceMethod yX3_runMinute, Cond.selects RX3 yX3_runMinute yX3_runMinute, Cond.initialized RX3, Cond.code yX3_runMinute cX3_runMinute 6 (some .int), Cond.fieldLink RX3 25 "Warpyard$Trains" "count" "I"]
def wsL_run_r2 : List Cond := [Cond.methodLink RX3 29 yX3_step, Cond.instanceMethod yX3_step, Cond.selects RX3 yX3_step yX3_step, Cond.code yX3_step cX3_step 6 (some .boolean), Cond.fieldLink RX3 22 "Warpyard$Trains" "delay" "[I", Cond.fieldLink RX3 19 "Warpyard$Trains" "held" "[Z", Cond.fieldLink RX3 9 "Warpyard$Trains" "block" "[I", Cond.fieldLink RX3 15 "Warpyard$Trains" "right" "[Z", Cond.methodLink RX3 33 yX2_ahead, Cond.instanceMethod yX2_ahead, Cond.selects RX2 yX2_ahead yX2_ahead, Cond.initialized RX2, Cond.code yX2_ahead cX2_ahead 3 (some .int), Cond.methodLink RX2 15 yX2_rightOf, Cond.instanceMethod yX2_rightOf, Cond.selects RX2 yX2_rightOf yX2_rightOf, Cond.code yX2_rightOf cX2_rightOf 2 (some .int), Cond.fieldLink RX2 9 "Warpyard$Tracks" "turned" "[Z", Cond.methodLink RX2 19 yX2_leftOf, Cond.instanceMethod yX2_leftOf, Cond.selects RX2 yX2_leftOf yX2_leftOf, Cond.code yX2_leftOf cX2_leftOf 2 (some .int), Cond.methodLink RX3 39 yX3_turnRound, Cond.instanceMethod yX3_turnRound]
def wsL_run_r3 : List Cond := [Cond.selects RX3 yX3_turnRound yX3_turnRound, Cond.code yX3_turnRound cX3_turnRound 2 (some .boolean), Cond.methodLink RX3 43 yX3_standingOn, Cond.instanceMethod yX3_standingOn, Cond.selects RX3 yX3_standingOn yX3_standingOn, Cond.code yX3_standingOn cX3_standingOn 3 (some .int), Cond.methodLink RX3 47 yX0_isForAnother, Cond.instanceMethod yX0_isForAnother, Cond.selects RX0 yX0_isForAnother yX0_isForAnother, Cond.initialized RX0, Cond.code yX0_isForAnother cX0_isForAnother 5 (some .boolean), Cond.fieldLink RX0 27 "Warpyard$Bookings" "count" "I", Cond.fieldLink RX0 15 "Warpyard$Bookings" "block" "[I", Cond.fieldLink RX0 9 "Warpyard$Bookings" "train" "[I", Cond.methodLink RX0 31 yX0_isIn, Cond.instanceMethod yX0_isIn, Cond.selects RX0 yX0_isIn yX0_isIn, Cond.code yX0_isIn cX0_isIn 3 (some .boolean), Cond.fieldLink RX0 18 "Warpyard$Bookings" "first" "[I", Cond.fieldLink RX0 21 "Warpyard$Bookings" "last" "[I", Cond.methodLink RX5 118 yX0_markMet, Cond.instanceMethod yX0_markMet, Cond.selects RX0 yX0_markMet yX0_markMet, Cond.code yX0_markMet cX0_markMet 4 none]
def wsL_run_r4 : List Cond := [Cond.fieldLink RX0 24 "Warpyard$Bookings" "lateness" "[I", Cond.methodLink RX0 35 yX3_standingOn]
def wsL_run : List Cond := .codeWith yL_run cL_run 4 (some .int) [(0, 9, 12, 25), (0, 9, 15, 15)] :: ((wsL_run_r1 ++ (wsL_run_r2 ++ (wsL_run_r3 ++ wsL_run_r4))) ++ wsX50 ++ wsX30 ++ wsX20 ++ wsX00 ++ (vx_atS RX5 59 "java/lang/IllegalStateException" ["java/lang/RuntimeException", "java/lang/Exception"]).filter goodWord ++ (vx_atS RX5 90 "java/lang/IllegalArgumentException" ["java/lang/RuntimeException", "java/lang/Exception"]).filter goodWord)
def wsL_reaches_r1 : List Cond := [Cond.classLink RL 13 "java/lang/IndexOutOfBoundsException", Cond.methodLink RL 47 yX5_reaches, Cond.instanceMethod yX5_reaches, Cond.selects RX5 yX5_reaches yX5_reaches, Cond.initialized RX5, Cond.code yX5_reaches cX5_reaches 4 (some .int), Cond.fieldLink RX5 19 "Warpyard" "trains" "LWarpyard$Trains;", Cond.fieldLink RX5 103 "Warpyard$Trains" "block" "[I", Cond.fieldLink RX5 23 "Warpyard" "trial" "LWarpyard$Trains;", Cond.fieldLink RX5 10 "Warpyard" "tracks" "LWarpyard$Tracks;", Cond.fieldLink RX5 29 "Warpyard" "bookings" "LWarpyard$Bookings;", Cond.fieldLink RX5 109 "Warpyard" "now" "I", Cond.methodLink RX5 72 yX5_needTrain, Cond.instanceMethod yX5_needTrain, Cond.selects RX5 yX5_needTrain yX5_needTrain, Cond.code yX5_needTrain cX5_needTrain 2 none, Cond.classLink RX5 95 "java/lang/IndexOutOfBoundsException", Cond.initialized "java/lang/IndexOutOfBoundsException", Cond.fieldLink RX5 51 "Warpyard$Trains" "count" "I", Cond.methodLink RX5 47 yX5_needBlock, Cond.static yX5_needBlock, Cond.code yX5_needBlock cX5_needBlock 1 none, Cond.methodLink RX5 122 yX3_copyFrom, Cond.instanceMethod yX3_copyFrom]
def wsL_reaches_r2 : List Cond := [Cond.selects RX3 yX3_copyFrom yX3_copyFrom, Cond.initialized RX3, Cond.code yX3_copyFrom cX3_copyFrom 3 none, Cond.fieldLink RX3 25 "Warpyard$Trains" "count" "I", Cond.fieldLink RX3 9 "Warpyard$Trains" "block" "[I", Cond.fieldLink RX3 15 "Warpyard$Trains" "right" "[Z", Cond.fieldLink RX3 19 "Warpyard$Trains" "held" "[Z", Cond.fieldLink RX3 22 "Warpyard$Trains" "delay" "[I", Cond.methodLink RX5 114 yX3_runMinute, Cond.instanceMethod yX3_runMinute, Cond.selects RX3 yX3_runMinute yX3_runMinute, Cond.code yX3_runMinute cX3_runMinute 6 (some .int), Cond.methodLink RX3 29 yX3_step, Cond.instanceMethod yX3_step, Cond.selects RX3 yX3_step yX3_step, Cond.code yX3_step cX3_step 6 (some .boolean), Cond.methodLink RX3 33 yX2_ahead, Cond.instanceMethod yX2_ahead, Cond.selects RX2 yX2_ahead yX2_ahead, Cond.initialized RX2, Cond.code yX2_ahead cX2_ahead 3 (some .int), Cond.methodLink RX2 15 yX2_rightOf, Cond.instanceMethod yX2_rightOf, Cond.selects RX2 yX2_rightOf yX2_rightOf]
def wsL_reaches_r3 : List Cond := [Cond.code yX2_rightOf cX2_rightOf 2 (some .int), Cond.fieldLink RX2 9 "Warpyard$Tracks" "turned" "[Z", Cond.methodLink RX2 19 yX2_leftOf, Cond.instanceMethod yX2_leftOf, Cond.selects RX2 yX2_leftOf yX2_leftOf, Cond.code yX2_leftOf cX2_leftOf 2 (some .int), Cond.methodLink RX3 39 yX3_turnRound, Cond.instanceMethod yX3_turnRound, Cond.selects RX3 yX3_turnRound yX3_turnRound, Cond.code yX3_turnRound cX3_turnRound 2 (some .boolean), Cond.methodLink RX3 43 yX3_standingOn, Cond.instanceMethod yX3_standingOn, Cond.selects RX3 yX3_standingOn yX3_standingOn, Cond.code yX3_standingOn cX3_standingOn 3 (some .int), Cond.methodLink RX3 47 yX0_isForAnother, Cond.instanceMethod yX0_isForAnother, Cond.selects RX0 yX0_isForAnother yX0_isForAnother, Cond.initialized RX0, Cond.code yX0_isForAnother cX0_isForAnother 5 (some .boolean), Cond.fieldLink RX0 27 "Warpyard$Bookings" "count" "I", Cond.fieldLink RX0 15 "Warpyard$Bookings" "block" "[I", Cond.fieldLink RX0 9 "Warpyard$Bookings" "train" "[I", Cond.methodLink RX0 31 yX0_isIn, Cond.instanceMethod yX0_isIn]
def wsL_reaches_r4 : List Cond := [Cond.selects RX0 yX0_isIn yX0_isIn, Cond.code yX0_isIn cX0_isIn 3 (some .boolean), Cond.fieldLink RX0 18 "Warpyard$Bookings" "first" "[I", Cond.fieldLink RX0 21 "Warpyard$Bookings" "last" "[I"]
def wsL_reaches : List Cond := .codeWith yL_reaches cL_reaches 5 (some .int) [(0, 10, 13, 13)] :: ((wsL_reaches_r1 ++ (wsL_reaches_r2 ++ (wsL_reaches_r3 ++ wsL_reaches_r4))) ++ wsX50 ++ wsX30 ++ wsX20 ++ wsX00 ++ (vx_atS RX5 99 "java/lang/IndexOutOfBoundsException" ["java/lang/RuntimeException", "java/lang/Exception"]).filter goodWord)
def wsL_book_r1 : List Cond := [Cond.classLink RL 13 "java/lang/IndexOutOfBoundsException", Cond.classLink RL 25 "java/lang/IllegalArgumentException", Cond.classLink RL 15 "java/lang/IllegalStateException", Cond.methodLink RL 50 yX5_book, Cond.instanceMethod yX5_book, Cond.selects RX5 yX5_book yX5_book, Cond.initialized RX5, Cond.code yX5_book cX5_book 5 (some .int), Cond.classLink RX5 55 "java/lang/IllegalStateException", Cond.initialized "java/lang/IllegalStateException", Cond.fieldLink RX5 109 "Warpyard" "now" "I", Cond.fieldLink RX5 29 "Warpyard" "bookings" "LWarpyard$Bookings;", Cond.fieldLink RX5 130 "Warpyard$Bookings" "count" "I", Cond.methodLink RX5 72 yX5_needTrain, Cond.instanceMethod yX5_needTrain, Cond.selects RX5 yX5_needTrain yX5_needTrain, Cond.code yX5_needTrain cX5_needTrain 2 none, Cond.classLink RX5 95 "java/lang/IndexOutOfBoundsException", Cond.initialized "java/lang/IndexOutOfBoundsException", Cond.fieldLink RX5 19 "Warpyard" "trains" "LWarpyard$Trains;", Cond.fieldLink RX5 51 "Warpyard$Trains" "count" "I", Cond.methodLink RX5 47 yX5_needBlock, Cond.static yX5_needBlock, Cond.code yX5_needBlock cX5_needBlock 1 none]
def wsL_book_r2 : List Cond := [Cond.methodLink RX5 126 yX5_needSpan, Cond.static yX5_needSpan, Cond.code yX5_needSpan cX5_needSpan 3 none, Cond.classLink RX5 86 "java/lang/IllegalArgumentException", Cond.initialized "java/lang/IllegalArgumentException", Cond.methodLink RX5 133 yX0_meetsAnother, Cond.instanceMethod yX0_meetsAnother, Cond.selects RX0 yX0_meetsAnother yX0_meetsAnother, Cond.initialized RX0, Cond.code yX0_meetsAnother cX0_meetsAnother 6 (some .boolean), Cond.fieldLink RX0 27 "Warpyard$Bookings" "count" "I", Cond.fieldLink RX0 15 "Warpyard$Bookings" "block" "[I", Cond.fieldLink RX0 9 "Warpyard$Bookings" "train" "[I", Cond.fieldLink RX0 18 "Warpyard$Bookings" "first" "[I", Cond.fieldLink RX0 21 "Warpyard$Bookings" "last" "[I", Cond.methodLink RX5 137 yX0_add, Cond.instanceMethod yX0_add, Cond.selects RX0 yX0_add yX0_add, Cond.code yX0_add cX0_add 6 (some .int), Cond.fieldLink RX0 24 "Warpyard$Bookings" "lateness" "[I"]
def wsL_book : List Cond := .codeWith yL_book cL_book 7 (some .int) [(0, 14, 17, 13), (0, 14, 21, 25), (0, 14, 25, 15)] :: ((wsL_book_r1 ++ wsL_book_r2) ++ wsX50 ++ wsX00 ++ wsX30 ++ (vx_atS RX5 59 "java/lang/IllegalStateException" ["java/lang/RuntimeException", "java/lang/Exception"]).filter goodWord ++ (vx_atS RX5 99 "java/lang/IndexOutOfBoundsException" ["java/lang/RuntimeException", "java/lang/Exception"]).filter goodWord ++ (vx_atS RX5 90 "java/lang/IllegalArgumentException" ["java/lang/RuntimeException", "java/lang/Exception"]).filter goodWord)
def wsL_canBook_r1 : List Cond := [Cond.classLink RL 13 "java/lang/IndexOutOfBoundsException", Cond.classLink RL 25 "java/lang/IllegalArgumentException", Cond.methodLink RL 54 yX5_canBook, Cond.instanceMethod yX5_canBook, Cond.selects RX5 yX5_canBook yX5_canBook, Cond.initialized RX5, Cond.code yX5_canBook cX5_canBook 5 (some .boolean), Cond.fieldLink RX5 29 "Warpyard" "bookings" "LWarpyard$Bookings;", Cond.methodLink RX5 72 yX5_needTrain, Cond.instanceMethod yX5_needTrain, Cond.selects RX5 yX5_needTrain yX5_needTrain, Cond.code yX5_needTrain cX5_needTrain 2 none, Cond.classLink RX5 95 "java/lang/IndexOutOfBoundsException", Cond.initialized "java/lang/IndexOutOfBoundsException", Cond.fieldLink RX5 19 "Warpyard" "trains" "LWarpyard$Trains;", Cond.fieldLink RX5 51 "Warpyard$Trains" "count" "I", Cond.methodLink RX5 47 yX5_needBlock, Cond.static yX5_needBlock, Cond.code yX5_needBlock cX5_needBlock 1 none, Cond.methodLink RX5 126 yX5_needSpan, Cond.static yX5_needSpan, Cond.code yX5_needSpan cX5_needSpan 3 none, Cond.classLink RX5 86 "java/lang/IllegalArgumentException", Cond.initialized "java/lang/IllegalArgumentException"]
def wsL_canBook_r2 : List Cond := [Cond.methodLink RX5 133 yX0_meetsAnother, Cond.instanceMethod yX0_meetsAnother, Cond.selects RX0 yX0_meetsAnother yX0_meetsAnother, Cond.initialized RX0, Cond.code yX0_meetsAnother cX0_meetsAnother 6 (some .boolean), Cond.fieldLink RX0 27 "Warpyard$Bookings" "count" "I", Cond.fieldLink RX0 15 "Warpyard$Bookings" "block" "[I", Cond.fieldLink RX0 9 "Warpyard$Bookings" "train" "[I", Cond.fieldLink RX0 18 "Warpyard$Bookings" "first" "[I", Cond.fieldLink RX0 21 "Warpyard$Bookings" "last" "[I"]
def wsL_canBook : List Cond := .codeWith yL_canBook cL_canBook 7 (some .int) [(0, 21, 24, 13), (0, 21, 28, 25)] :: ((wsL_canBook_r1 ++ wsL_canBook_r2) ++ wsX50 ++ wsX30 ++ wsX00 ++ (vx_atS RX5 99 "java/lang/IndexOutOfBoundsException" ["java/lang/RuntimeException", "java/lang/Exception"]).filter goodWord ++ (vx_atS RX5 90 "java/lang/IllegalArgumentException" ["java/lang/RuntimeException", "java/lang/Exception"]).filter goodWord)
def wsL_canBookByMinutes_r1 : List Cond := [Cond.classLink RL 13 "java/lang/IndexOutOfBoundsException", Cond.classLink RL 25 "java/lang/IllegalArgumentException", Cond.methodLink RL 58 yX5_canBookByMinutes, Cond.instanceMethod yX5_canBookByMinutes, Cond.selects RX5 yX5_canBookByMinutes yX5_canBookByMinutes, Cond.initialized RX5, Cond.code yX5_canBookByMinutes cX5_canBookByMinutes 6 (some .boolean), Cond.fieldLink RX5 29 "Warpyard" "bookings" "LWarpyard$Bookings;", Cond.methodLink RX5 72 yX5_needTrain, Cond.instanceMethod yX5_needTrain, Cond.selects RX5 yX5_needTrain yX5_needTrain, Cond.code yX5_needTrain cX5_needTrain 2 none, Cond.classLink RX5 95 "java/lang/IndexOutOfBoundsException", Cond.initialized "java/lang/IndexOutOfBoundsException", Cond.fieldLink RX5 19 "Warpyard" "trains" "LWarpyard$Trains;", Cond.fieldLink RX5 51 "Warpyard$Trains" "count" "I", Cond.methodLink RX5 47 yX5_needBlock, Cond.static yX5_needBlock, Cond.code yX5_needBlock cX5_needBlock 1 none, Cond.methodLink RX5 126 yX5_needSpan, Cond.static yX5_needSpan, Cond.code yX5_needSpan cX5_needSpan 3 none, Cond.classLink RX5 86 "java/lang/IllegalArgumentException", Cond.initialized "java/lang/IllegalArgumentException"]
def wsL_canBookByMinutes_r2 : List Cond := [Cond.methodLink RX5 140 yX0_isForAnother, Cond.instanceMethod yX0_isForAnother, Cond.selects RX0 yX0_isForAnother yX0_isForAnother, Cond.initialized RX0, Cond.code yX0_isForAnother cX0_isForAnother 5 (some .boolean), Cond.fieldLink RX0 27 "Warpyard$Bookings" "count" "I", Cond.fieldLink RX0 15 "Warpyard$Bookings" "block" "[I", Cond.fieldLink RX0 9 "Warpyard$Bookings" "train" "[I", Cond.methodLink RX0 31 yX0_isIn, Cond.instanceMethod yX0_isIn, Cond.selects RX0 yX0_isIn yX0_isIn, Cond.code yX0_isIn cX0_isIn 3 (some .boolean), Cond.fieldLink RX0 18 "Warpyard$Bookings" "first" "[I", Cond.fieldLink RX0 21 "Warpyard$Bookings" "last" "[I"]
def wsL_canBookByMinutes : List Cond := .codeWith yL_canBookByMinutes cL_canBookByMinutes 7 (some .int) [(0, 21, 24, 13), (0, 21, 28, 25)] :: ((wsL_canBookByMinutes_r1 ++ wsL_canBookByMinutes_r2) ++ wsX50 ++ wsX30 ++ wsX00 ++ (vx_atS RX5 99 "java/lang/IndexOutOfBoundsException" ["java/lang/RuntimeException", "java/lang/Exception"]).filter goodWord ++ (vx_atS RX5 90 "java/lang/IllegalArgumentException" ["java/lang/RuntimeException", "java/lang/Exception"]).filter goodWord)
def wsL_booking : List Cond := .codeWith yL_booking cL_booking 4 (some .int) [(0, 9, 12, 13)] :: ([.classLink RL 13 "java/lang/IndexOutOfBoundsException", .methodLink RL 61 yX5_booking, .instanceMethod yX5_booking, .selects RX5 yX5_booking yX5_booking, .initialized RX5, .code yX5_booking cX5_booking 2 (some .int), .fieldLink RX5 29 "Warpyard" "bookings" "LWarpyard$Bookings;", .fieldLink RX5 147 "Warpyard$Bookings" "lateness" "[I", .fieldLink RX5 150 "Warpyard$Bookings" "last" "[I", .fieldLink RX5 109 "Warpyard" "now" "I", .methodLink RX5 144 yX5_needBooking, .instanceMethod yX5_needBooking, .selects RX5 yX5_needBooking yX5_needBooking, .code yX5_needBooking cX5_needBooking 2 none, .classLink RX5 95 "java/lang/IndexOutOfBoundsException", .initialized "java/lang/IndexOutOfBoundsException", .fieldLink RX5 130 "Warpyard$Bookings" "count" "I"] ++ wsX50 ++ wsX00 ++ (vx_atS RX5 99 "java/lang/IndexOutOfBoundsException" ["java/lang/RuntimeException", "java/lang/Exception"]).filter goodWord)
def wsL_late : List Cond := .codeWith yL_late cL_late 4 (some .int) [(0, 9, 12, 13)] :: ([.classLink RL 13 "java/lang/IndexOutOfBoundsException", .methodLink RL 64 yX5_late, .instanceMethod yX5_late, .selects RX5 yX5_late yX5_late, .initialized RX5, .code yX5_late cX5_late 2 (some .int), .fieldLink RX5 29 "Warpyard" "bookings" "LWarpyard$Bookings;", .fieldLink RX5 147 "Warpyard$Bookings" "lateness" "[I", .methodLink RX5 144 yX5_needBooking, .instanceMethod yX5_needBooking, .selects RX5 yX5_needBooking yX5_needBooking, .code yX5_needBooking cX5_needBooking 2 none, .classLink RX5 95 "java/lang/IndexOutOfBoundsException", .initialized "java/lang/IndexOutOfBoundsException", .fieldLink RX5 130 "Warpyard$Bookings" "count" "I"] ++ wsX50 ++ wsX00 ++ (vx_atS RX5 99 "java/lang/IndexOutOfBoundsException" ["java/lang/RuntimeException", "java/lang/Exception"]).filter goodWord)
def wsL_addWaggon_r1 : List Cond := [Cond.classLink RL 13 "java/lang/IndexOutOfBoundsException", Cond.classLink RL 25 "java/lang/IllegalArgumentException", Cond.classLink RL 15 "java/lang/IllegalStateException", Cond.methodLink RL 67 yX5_addWaggon, Cond.instanceMethod yX5_addWaggon, Cond.selects RX5 yX5_addWaggon yX5_addWaggon, Cond.initialized RX5, Cond.code yX5_addWaggon cX5_addWaggon 3 (some .int), Cond.classLink RX5 86 "java/lang/IllegalArgumentException", Cond.initialized "java/lang/IllegalArgumentException", Cond.classLink RX5 55 "java/lang/IllegalStateException", Cond.initialized "java/lang/IllegalStateException", Cond.fieldLink RX5 36 "Warpyard" "waggons" "LWarpyard$Waggons;", Cond.fieldLink RX5 158 "Warpyard$Waggons" "count" "I", Cond.methodLink RX5 153 yX5_needSiding, Cond.static yX5_needSiding, Cond.code yX5_needSiding cX5_needSiding 1 none, Cond.classLink RX5 95 "java/lang/IndexOutOfBoundsException", Cond.initialized "java/lang/IndexOutOfBoundsException", Cond.methodLink RX5 212 yX5_isSiding, Cond.static yX5_isSiding, Cond.code yX5_isSiding cX5_isSiding 1 (some .boolean), Cond.methodLink RX5 161 yX5_needRoomIn, Cond.instanceMethod yX5_needRoomIn]
def wsL_addWaggon_r2 : List Cond := [Cond.selects RX5 yX5_needRoomIn yX5_needRoomIn, Cond.code yX5_needRoomIn cX5_needRoomIn 2 none, Cond.fieldLink RX5 239 "Warpyard$Waggons" "size" "[I", Cond.methodLink RX5 164 yX4_rowOfSiding, Cond.static yX4_rowOfSiding, Cond.initialized RX4, Cond.code yX4_rowOfSiding cX4_rowOfSiding 1 (some .int), Cond.methodLink RX5 167 yX4_add, Cond.instanceMethod yX4_add, Cond.selects RX4 yX4_add yX4_add, Cond.code yX4_add cX4_add 4 (some .int), Cond.fieldLink RX4 21 "Warpyard$Waggons" "count" "I", Cond.fieldLink RX4 9 "Warpyard$Waggons" "weight" "[I", Cond.methodLink RX4 25 yX4_append, Cond.instanceMethod yX4_append, Cond.selects RX4 yX4_append yX4_append, Cond.code yX4_append cX4_append 3 none, Cond.fieldLink RX4 15 "Warpyard$Waggons" "size" "[I", Cond.fieldLink RX4 18 "Warpyard$Waggons" "inRow" "[I"]
def wsL_addWaggon : List Cond := .codeWith yL_addWaggon cL_addWaggon 5 (some .int) [(0, 10, 13, 13), (0, 10, 17, 25), (0, 10, 21, 15)] :: ((wsL_addWaggon_r1 ++ wsL_addWaggon_r2) ++ wsX50 ++ wsX40 ++ (vx_atS RX5 90 "java/lang/IllegalArgumentException" ["java/lang/RuntimeException", "java/lang/Exception"]).filter goodWord ++ (vx_atS RX5 59 "java/lang/IllegalStateException" ["java/lang/RuntimeException", "java/lang/Exception"]).filter goodWord ++ (vx_atS RX5 99 "java/lang/IndexOutOfBoundsException" ["java/lang/RuntimeException", "java/lang/Exception"]).filter goodWord)
def wsL_offer_r1 : List Cond := [Cond.classLink RL 13 "java/lang/IndexOutOfBoundsException", Cond.classLink RL 25 "java/lang/IllegalArgumentException", Cond.methodLink RL 70 yX5_offer, Cond.instanceMethod yX5_offer, Cond.selects RX5 yX5_offer yX5_offer, Cond.initialized RX5, Cond.code yX5_offer cX5_offer 5 none, Cond.classLink RX5 95 "java/lang/IndexOutOfBoundsException", Cond.initialized "java/lang/IndexOutOfBoundsException", Cond.classLink RX5 86 "java/lang/IllegalArgumentException", Cond.initialized "java/lang/IllegalArgumentException", Cond.fieldLink RX5 36 "Warpyard" "waggons" "LWarpyard$Waggons;", Cond.fieldLink RX5 158 "Warpyard$Waggons" "count" "I", Cond.fieldLink RX5 43 "Warpyard" "offers" "LWarpyard$Offers;", Cond.methodLink RX5 153 yX5_needSiding, Cond.static yX5_needSiding, Cond.code yX5_needSiding cX5_needSiding 1 none, Cond.methodLink RX5 212 yX5_isSiding, Cond.static yX5_isSiding, Cond.code yX5_isSiding cX5_isSiding 1 (some .boolean), Cond.methodLink RX5 176 yX1_put, Cond.instanceMethod yX1_put, Cond.selects RX1 yX1_put yX1_put, Cond.initialized RX1]
def wsL_offer_r2 : List Cond := [Cond.code yX1_put cX1_put 5 none, Cond.fieldLink RX1 9 "Warpyard$Offers" "siding" "[I", Cond.fieldLink RX1 15 "Warpyard$Offers" "minute" "[I", Cond.fieldLink RX1 18 "Warpyard$Offers" "price" "[I"]
def wsL_offer : List Cond := .codeWith yL_offer cL_offer 6 (some .int) [(0, 9, 12, 13), (0, 9, 16, 25)] :: ((wsL_offer_r1 ++ wsL_offer_r2) ++ wsX50 ++ wsX40 ++ wsX10 ++ (vx_atS RX5 99 "java/lang/IndexOutOfBoundsException" ["java/lang/RuntimeException", "java/lang/Exception"]).filter goodWord ++ (vx_atS RX5 90 "java/lang/IllegalArgumentException" ["java/lang/RuntimeException", "java/lang/Exception"]).filter goodWord)
def wsL_couple_r1 : List Cond := [Cond.classLink RL 13 "java/lang/IndexOutOfBoundsException", Cond.classLink RL 15 "java/lang/IllegalStateException", Cond.methodLink RL 74 yX5_couple, Cond.instanceMethod yX5_couple, Cond.selects RX5 yX5_couple yX5_couple, Cond.initialized RX5, Cond.code yX5_couple cX5_couple 5 (some .int), Cond.classLink RX5 55 "java/lang/IllegalStateException", Cond.initialized "java/lang/IllegalStateException", Cond.fieldLink RX5 36 "Warpyard" "waggons" "LWarpyard$Waggons;", Cond.fieldLink RX5 194 "Warpyard$Waggons" "weight" "[I", Cond.methodLink RX5 72 yX5_needTrain, Cond.instanceMethod yX5_needTrain, Cond.selects RX5 yX5_needTrain yX5_needTrain, Cond.code yX5_needTrain cX5_needTrain 2 none, Cond.classLink RX5 95 "java/lang/IndexOutOfBoundsException", Cond.initialized "java/lang/IndexOutOfBoundsException", Cond.fieldLink RX5 19 "Warpyard" "trains" "LWarpyard$Trains;", Cond.fieldLink RX5 51 "Warpyard$Trains" "count" "I", Cond.methodLink RX5 180 yX5_sidingUnder, Cond.instanceMethod yX5_sidingUnder, Cond.selects RX5 yX5_sidingUnder yX5_sidingUnder, Cond.code yX5_sidingUnder cX5_sidingUnder 3 (some .int), Cond.fieldLink RX5 103 "Warpyard$Trains" "block" "[I"]
def wsL_couple_r2 : List Cond := [Cond.methodLink RX5 212 yX5_isSiding, Cond.static yX5_isSiding, Cond.code yX5_isSiding cX5_isSiding 1 (some .boolean), Cond.methodLink RX5 164 yX4_rowOfSiding, Cond.static yX4_rowOfSiding, Cond.initialized RX4, Cond.code yX4_rowOfSiding cX4_rowOfSiding 1 (some .int), Cond.methodLink RX5 183 yX4_rowOfTrain, Cond.static yX4_rowOfTrain, Cond.code yX4_rowOfTrain cX4_rowOfTrain 1 (some .int), Cond.methodLink RX5 186 yX4_lastOf, Cond.instanceMethod yX4_lastOf, Cond.selects RX4 yX4_lastOf yX4_lastOf, Cond.code yX4_lastOf cX4_lastOf 2 (some .int), Cond.methodLink RX4 29 yX4_fromLast, Cond.instanceMethod yX4_fromLast, Cond.selects RX4 yX4_fromLast yX4_fromLast, Cond.code yX4_fromLast cX4_fromLast 3 (some .int), Cond.fieldLink RX4 15 "Warpyard$Waggons" "size" "[I", Cond.fieldLink RX4 18 "Warpyard$Waggons" "inRow" "[I", Cond.methodLink RX5 191 yX4_weightOf, Cond.instanceMethod yX4_weightOf, Cond.selects RX4 yX4_weightOf yX4_weightOf, Cond.code yX4_weightOf cX4_weightOf 4 (some .int)]
def wsL_couple_r3 : List Cond := [Cond.fieldLink RX4 9 "Warpyard$Waggons" "weight" "[I", Cond.methodLink RX5 199 yX4_moveLast, Cond.instanceMethod yX4_moveLast, Cond.selects RX4 yX4_moveLast yX4_moveLast, Cond.code yX4_moveLast cX4_moveLast 4 none, Cond.methodLink RX4 33 yX4_lastOf, Cond.methodLink RX4 25 yX4_append, Cond.instanceMethod yX4_append, Cond.selects RX4 yX4_append yX4_append, Cond.code yX4_append cX4_append 3 none]
def wsL_couple : List Cond := .codeWith yL_couple cL_couple 4 (some .int) [(0, 9, 12, 13), (0, 9, 15, 15)] :: ((wsL_couple_r1 ++ (wsL_couple_r2 ++ wsL_couple_r3)) ++ wsX50 ++ wsX40 ++ wsX30 ++ (vx_atS RX5 59 "java/lang/IllegalStateException" ["java/lang/RuntimeException", "java/lang/Exception"]).filter goodWord ++ (vx_atS RX5 99 "java/lang/IndexOutOfBoundsException" ["java/lang/RuntimeException", "java/lang/Exception"]).filter goodWord)
def wsL_leave_r1 : List Cond := [Cond.classLink RL 13 "java/lang/IndexOutOfBoundsException", Cond.classLink RL 15 "java/lang/IllegalStateException", Cond.methodLink RL 77 yX5_leave, Cond.instanceMethod yX5_leave, Cond.selects RX5 yX5_leave yX5_leave, Cond.initialized RX5, Cond.code yX5_leave cX5_leave 6 (some .int), Cond.classLink RX5 55 "java/lang/IllegalStateException", Cond.initialized "java/lang/IllegalStateException", Cond.fieldLink RX5 36 "Warpyard" "waggons" "LWarpyard$Waggons;", Cond.fieldLink RX5 43 "Warpyard" "offers" "LWarpyard$Offers;", Cond.fieldLink RX5 109 "Warpyard" "now" "I", Cond.fieldLink RX5 209 "Warpyard" "money" "I", Cond.methodLink RX5 72 yX5_needTrain, Cond.instanceMethod yX5_needTrain, Cond.selects RX5 yX5_needTrain yX5_needTrain, Cond.code yX5_needTrain cX5_needTrain 2 none, Cond.classLink RX5 95 "java/lang/IndexOutOfBoundsException", Cond.initialized "java/lang/IndexOutOfBoundsException", Cond.fieldLink RX5 19 "Warpyard" "trains" "LWarpyard$Trains;", Cond.fieldLink RX5 51 "Warpyard$Trains" "count" "I", Cond.methodLink RX5 180 yX5_sidingUnder, Cond.instanceMethod yX5_sidingUnder, Cond.selects RX5 yX5_sidingUnder yX5_sidingUnder]
def wsL_leave_r2 : List Cond := [Cond.code yX5_sidingUnder cX5_sidingUnder 3 (some .int), Cond.fieldLink RX5 103 "Warpyard$Trains" "block" "[I", Cond.methodLink RX5 212 yX5_isSiding, Cond.static yX5_isSiding, Cond.code yX5_isSiding cX5_isSiding 1 (some .boolean), Cond.methodLink RX5 183 yX4_rowOfTrain, Cond.static yX4_rowOfTrain, Cond.initialized RX4, Cond.code yX4_rowOfTrain cX4_rowOfTrain 1 (some .int), Cond.methodLink RX5 186 yX4_lastOf, Cond.instanceMethod yX4_lastOf, Cond.selects RX4 yX4_lastOf yX4_lastOf, Cond.code yX4_lastOf cX4_lastOf 2 (some .int), Cond.methodLink RX4 29 yX4_fromLast, Cond.instanceMethod yX4_fromLast, Cond.selects RX4 yX4_fromLast yX4_fromLast, Cond.code yX4_fromLast cX4_fromLast 3 (some .int), Cond.fieldLink RX4 15 "Warpyard$Waggons" "size" "[I", Cond.fieldLink RX4 18 "Warpyard$Waggons" "inRow" "[I", Cond.methodLink RX5 161 yX5_needRoomIn, Cond.instanceMethod yX5_needRoomIn, Cond.selects RX5 yX5_needRoomIn yX5_needRoomIn, Cond.code yX5_needRoomIn cX5_needRoomIn 2 none, Cond.fieldLink RX5 239 "Warpyard$Waggons" "size" "[I"]
def wsL_leave_r3 : List Cond := [Cond.methodLink RX5 164 yX4_rowOfSiding, Cond.static yX4_rowOfSiding, Cond.code yX4_rowOfSiding cX4_rowOfSiding 1 (some .int), Cond.methodLink RX5 199 yX4_moveLast, Cond.instanceMethod yX4_moveLast, Cond.selects RX4 yX4_moveLast yX4_moveLast, Cond.code yX4_moveLast cX4_moveLast 4 none, Cond.methodLink RX4 33 yX4_lastOf, Cond.methodLink RX4 25 yX4_append, Cond.instanceMethod yX4_append, Cond.selects RX4 yX4_append yX4_append, Cond.code yX4_append cX4_append 3 none, Cond.methodLink RX5 205 yX1_settle, Cond.instanceMethod yX1_settle, Cond.selects RX1 yX1_settle yX1_settle, Cond.initialized RX1, Cond.code yX1_settle cX1_settle 4 (some .int), Cond.fieldLink RX1 9 "Warpyard$Offers" "siding" "[I", Cond.fieldLink RX1 18 "Warpyard$Offers" "price" "[I", Cond.fieldLink RX1 15 "Warpyard$Offers" "minute" "[I", Cond.methodLink RX1 25 Lib.Math.max.name, Cond.static Lib.Math.max.name, Cond.initialized "java/lang/Math", Cond.code Lib.Math.max.name Lib.Math.max.code 2 (some .int)]
def wsL_leave_r4 : List Cond := [Cond.methodLink RX1 21 yX1_begunHours, Cond.static yX1_begunHours, Cond.code yX1_begunHours cX1_begunHours 1 (some .int)]
def wsL_leave : List Cond := .codeWith yL_leave cL_leave 4 (some .int) [(0, 9, 12, 13), (0, 9, 15, 15)] :: ((wsL_leave_r1 ++ (wsL_leave_r2 ++ (wsL_leave_r3 ++ wsL_leave_r4))) ++ wsX50 ++ wsX30 ++ wsX40 ++ wsX10 ++ (vx_atS RX5 59 "java/lang/IllegalStateException" ["java/lang/RuntimeException", "java/lang/Exception"]).filter goodWord ++ (vx_atS RX5 99 "java/lang/IndexOutOfBoundsException" ["java/lang/RuntimeException", "java/lang/Exception"]).filter goodWord)
def wsL_waggonAt_r1 : List Cond := [Cond.classLink RL 13 "java/lang/IndexOutOfBoundsException", Cond.methodLink RL 80 yX5_waggonAt, Cond.instanceMethod yX5_waggonAt, Cond.selects RX5 yX5_waggonAt yX5_waggonAt, Cond.initialized RX5, Cond.code yX5_waggonAt cX5_waggonAt 4 (some .int), Cond.classLink RX5 95 "java/lang/IndexOutOfBoundsException", Cond.initialized "java/lang/IndexOutOfBoundsException", Cond.fieldLink RX5 19 "Warpyard" "trains" "LWarpyard$Trains;", Cond.fieldLink RX5 51 "Warpyard$Trains" "count" "I", Cond.fieldLink RX5 36 "Warpyard" "waggons" "LWarpyard$Waggons;", Cond.methodLink RX5 212 yX5_isSiding, Cond.static yX5_isSiding, Cond.code yX5_isSiding cX5_isSiding 1 (some .boolean), Cond.methodLink RX5 164 yX4_rowOfSiding, Cond.static yX4_rowOfSiding, Cond.initialized RX4, Cond.code yX4_rowOfSiding cX4_rowOfSiding 1 (some .int), Cond.methodLink RX5 219 yX4_fromLast, Cond.instanceMethod yX4_fromLast, Cond.selects RX4 yX4_fromLast yX4_fromLast, Cond.code yX4_fromLast cX4_fromLast 3 (some .int), Cond.fieldLink RX4 15 "Warpyard$Waggons" "size" "[I", Cond.fieldLink RX4 18 "Warpyard$Waggons" "inRow" "[I"]
def wsL_waggonAt_r2 : List Cond := [Cond.methodLink RX5 183 yX4_rowOfTrain, Cond.static yX4_rowOfTrain, Cond.code yX4_rowOfTrain cX4_rowOfTrain 1 (some .int), Cond.methodLink RX5 222 yX4_fromFirst, Cond.instanceMethod yX4_fromFirst, Cond.selects RX4 yX4_fromFirst yX4_fromFirst, Cond.code yX4_fromFirst cX4_fromFirst 3 (some .int)]
def wsL_waggonAt : List Cond := .codeWith yL_waggonAt cL_waggonAt 5 (some .int) [(0, 10, 13, 13)] :: ((wsL_waggonAt_r1 ++ wsL_waggonAt_r2) ++ wsX50 ++ wsX30 ++ wsX40 ++ (vx_atS RX5 99 "java/lang/IndexOutOfBoundsException" ["java/lang/RuntimeException", "java/lang/Exception"]).filter goodWord)
def wsL_law0_r1 : List Cond := [Cond.classLink RL 8 RX5, Cond.instantiable RX5 8, Cond.initialized RX5, Cond.classLink RL 84 RX6, Cond.instantiable RX6 26, Cond.initialized RX6, Cond.arrayClass .long, Cond.methodLink RL 83 yX5_init, Cond.instanceMethod yX5_init, Cond.code yX5_init cX5_init 1 none, Cond.methodLink RX5 1 objectInit, Cond.instanceMethod objectInit, Cond.code objectInit ⟨#[0xb1]⟩ 1 none, Cond.classLink RX5 7 RX2, Cond.instantiable RX2 1, Cond.initialized RX2, Cond.fieldLink RX5 10 "Warpyard" "tracks" "LWarpyard$Tracks;", Cond.classLink RX5 16 RX3, Cond.instantiable RX3 5, Cond.initialized RX3, Cond.fieldLink RX5 19 "Warpyard" "trains" "LWarpyard$Trains;", Cond.fieldLink RX5 23 "Warpyard" "trial" "LWarpyard$Trains;", Cond.classLink RX5 26 RX0, Cond.instantiable RX0 6]
def wsL_law0_r2 : List Cond := [Cond.initialized RX0, Cond.fieldLink RX5 29 "Warpyard" "bookings" "LWarpyard$Bookings;", Cond.classLink RX5 33 RX4, Cond.instantiable RX4 4, Cond.initialized RX4, Cond.fieldLink RX5 36 "Warpyard" "waggons" "LWarpyard$Waggons;", Cond.classLink RX5 40 RX1, Cond.instantiable RX1 3, Cond.initialized RX1, Cond.fieldLink RX5 43 "Warpyard" "offers" "LWarpyard$Offers;", Cond.instanceMethod yX2_init, Cond.code yX2_init cX2_init 1 none, Cond.methodLink RX2 3 objectInit, Cond.arrayClass .boolean, Cond.fieldLink RX2 9 "Warpyard$Tracks" "turned" "[Z", Cond.instanceMethod yX3_init, Cond.code yX3_init cX3_init 1 none, Cond.methodLink RX3 3 objectInit, Cond.arrayClass .int, Cond.fieldLink RX3 9 "Warpyard$Trains" "block" "[I", Cond.fieldLink RX3 15 "Warpyard$Trains" "right" "[Z", Cond.fieldLink RX3 19 "Warpyard$Trains" "held" "[Z", Cond.fieldLink RX3 22 "Warpyard$Trains" "delay" "[I", Cond.instanceMethod yX0_init]
def wsL_law0_r3 : List Cond := [Cond.code yX0_init cX0_init 1 none, Cond.methodLink RX0 3 objectInit, Cond.fieldLink RX0 9 "Warpyard$Bookings" "train" "[I", Cond.fieldLink RX0 15 "Warpyard$Bookings" "block" "[I", Cond.fieldLink RX0 18 "Warpyard$Bookings" "first" "[I", Cond.fieldLink RX0 21 "Warpyard$Bookings" "last" "[I", Cond.fieldLink RX0 24 "Warpyard$Bookings" "lateness" "[I", Cond.instanceMethod yX4_init, Cond.code yX4_init cX4_init 1 none, Cond.methodLink RX4 3 objectInit, Cond.fieldLink RX4 9 "Warpyard$Waggons" "weight" "[I", Cond.fieldLink RX4 15 "Warpyard$Waggons" "size" "[I", Cond.fieldLink RX4 18 "Warpyard$Waggons" "inRow" "[I", Cond.instanceMethod yX1_init, Cond.code yX1_init cX1_init 1 none, Cond.methodLink RX1 3 objectInit, Cond.fieldLink RX1 9 "Warpyard$Offers" "siding" "[I", Cond.fieldLink RX1 15 "Warpyard$Offers" "minute" "[I", Cond.fieldLink RX1 18 "Warpyard$Offers" "price" "[I", Cond.methodLink RL 86 yX6_init, Cond.instanceMethod yX6_init, Cond.code yX6_init cX6_init 1 none, Cond.methodLink RX6 1 objectInit, Cond.fieldLink RX6 7 "WarpyardModel" "blocks" "[I"]
def wsL_law0_r4 : List Cond := [Cond.fieldLink RX6 13 "WarpyardModel" "areRight" "[Z", Cond.fieldLink RX6 17 "WarpyardModel" "areHeld" "[Z", Cond.fieldLink RX6 20 "WarpyardModel" "delays" "[I", Cond.fieldLink RX6 23 "WarpyardModel" "areTurned" "[Z", Cond.fieldLink RX6 26 "WarpyardModel" "triedBlocks" "[I", Cond.fieldLink RX6 29 "WarpyardModel" "triedRight" "[Z", Cond.fieldLink RX6 32 "WarpyardModel" "triedDelays" "[I", Cond.fieldLink RX6 35 "WarpyardModel" "bookedTrains" "[I", Cond.fieldLink RX6 38 "WarpyardModel" "bookedBlocks" "[I", Cond.fieldLink RX6 41 "WarpyardModel" "firsts" "[I", Cond.fieldLink RX6 44 "WarpyardModel" "lasts" "[I", Cond.fieldLink RX6 47 "WarpyardModel" "standings" "[I", Cond.fieldLink RX6 50 "WarpyardModel" "lates" "[I", Cond.fieldLink RX6 53 "WarpyardModel" "weights" "[I", Cond.fieldLink RX6 56 "WarpyardModel" "wheres" "[I", Cond.fieldLink RX6 59 "WarpyardModel" "places" "[I", Cond.fieldLink RX6 62 "WarpyardModel" "offeredSidings" "[I", Cond.fieldLink RX6 65 "WarpyardModel" "offeredMinutes" "[I", Cond.fieldLink RX6 68 "WarpyardModel" "prices" "[I", Cond.methodLink RL 87 yL_addTrain, Cond.static yL_addTrain, Cond.initialized RL, Cond.codeWith yL_addTrain cL_addTrain 5 (some .int) [(0, 10, 13, 13), (0, 10, 17, 15)], Cond.classLink RL 13 "java/lang/IndexOutOfBoundsException"]
def wsL_law0_r5 : List Cond := [Cond.classLink RL 15 "java/lang/IllegalStateException", Cond.methodLink RL 7 yX5_addTrain, Cond.instanceMethod yX5_addTrain, Cond.selects RX5 yX5_addTrain yX5_addTrain, Cond.code yX5_addTrain cX5_addTrain 3 (some .int), Cond.classLink RX5 55 "java/lang/IllegalStateException", Cond.initialized "java/lang/IllegalStateException", Cond.fieldLink RX5 51 "Warpyard$Trains" "count" "I", Cond.methodLink RX5 47 yX5_needBlock, Cond.static yX5_needBlock, Cond.code yX5_needBlock cX5_needBlock 1 none, Cond.classLink RX5 95 "java/lang/IndexOutOfBoundsException", Cond.initialized "java/lang/IndexOutOfBoundsException", Cond.methodLink RX5 62 yX3_standingOn, Cond.instanceMethod yX3_standingOn, Cond.selects RX3 yX3_standingOn yX3_standingOn, Cond.code yX3_standingOn cX3_standingOn 3 (some .int), Cond.fieldLink RX3 25 "Warpyard$Trains" "count" "I", Cond.methodLink RX5 68 yX3_add, Cond.instanceMethod yX3_add, Cond.selects RX3 yX3_add yX3_add, Cond.code yX3_add cX3_add 4 (some .int), Cond.methodLink RL 92 yX6_addTrain, Cond.instanceMethod yX6_addTrain]
def wsL_law0_r6 : List Cond := [Cond.selects RX6 yX6_addTrain yX6_addTrain, Cond.code yX6_addTrain cX6_addTrain 3 (some .int), Cond.fieldLink RX6 75 "WarpyardModel" "trains" "I", Cond.methodLink RX6 82 yX6_isBlock, Cond.static yX6_isBlock, Cond.code yX6_isBlock cX6_isBlock 1 (some .boolean), Cond.methodLink RX6 78 yX6_in, Cond.static yX6_in, Cond.code yX6_in cX6_in 3 (some .boolean), Cond.methodLink RX6 86 yX6_standsOn, Cond.instanceMethod yX6_standsOn, Cond.selects RX6 yX6_standsOn yX6_standsOn, Cond.code yX6_standsOn cX6_standsOn 3 (some .int), Cond.methodLink RX6 90 yX6_holds, Cond.instanceMethod yX6_holds, Cond.selects RX6 yX6_holds yX6_holds, Cond.code yX6_holds cX6_holds 2 (some .boolean), Cond.fieldLink RX6 71 "WarpyardModel" "thrown" "I", Cond.methodLink RL 93 yX6_thrown, Cond.instanceMethod yX6_thrown, Cond.selects RX6 yX6_thrown yX6_thrown, Cond.code yX6_thrown cX6_thrown 1 (some .int), Cond.methodLink RL 97 yL_hold, Cond.static yL_hold]
def wsL_law0_r7 : List Cond := [Cond.codeWith yL_hold cL_hold 5 (some .int) [(0, 17, 20, 13)], Cond.methodLink RL 17 yX5_hold, Cond.instanceMethod yX5_hold, Cond.selects RX5 yX5_hold yX5_hold, Cond.code yX5_hold cX5_hold 4 (some .boolean), Cond.fieldLink RX5 75 "Warpyard$Trains" "held" "[Z", Cond.methodLink RX5 72 yX5_needTrain, Cond.instanceMethod yX5_needTrain, Cond.selects RX5 yX5_needTrain yX5_needTrain, Cond.code yX5_needTrain cX5_needTrain 2 none, Cond.methodLink RL 99 yX6_hold, Cond.instanceMethod yX6_hold, Cond.selects RX6 yX6_hold yX6_hold, Cond.code yX6_hold cX6_hold 4 (some .boolean), Cond.methodLink RX6 93 yX6_isTrain, Cond.instanceMethod yX6_isTrain, Cond.selects RX6 yX6_isTrain yX6_isTrain, Cond.code yX6_isTrain cX6_isTrain 2 (some .boolean), Cond.methodLink RL 100 yL_delay, Cond.static yL_delay, Cond.codeWith yL_delay cL_delay 5 (some .int) [(0, 10, 13, 13), (0, 10, 17, 25)], Cond.classLink RL 25 "java/lang/IllegalArgumentException", Cond.methodLink RL 21 yX5_delay, Cond.instanceMethod yX5_delay]
def wsL_law0_r8 : List Cond := [Cond.selects RX5 yX5_delay yX5_delay, Cond.code yX5_delay cX5_delay 4 (some .int), Cond.classLink RX5 86 "java/lang/IllegalArgumentException", Cond.initialized "java/lang/IllegalArgumentException", Cond.fieldLink RX5 82 "Warpyard$Trains" "delay" "[I", Cond.methodLink RX5 79 yX5_needMinutesToRun, Cond.static yX5_needMinutesToRun, Cond.code yX5_needMinutesToRun cX5_needMinutesToRun 1 none, Cond.methodLink RL 103 yX6_delay, Cond.instanceMethod yX6_delay, Cond.selects RX6 yX6_delay yX6_delay, Cond.code yX6_delay cX6_delay 3 (some .int), Cond.methodLink RL 104 yL_reverse, Cond.static yL_reverse, Cond.codeWith yL_reverse cL_reverse 4 (some .int) [(0, 16, 19, 13)], Cond.methodLink RL 27 yX5_reverse, Cond.instanceMethod yX5_reverse, Cond.selects RX5 yX5_reverse yX5_reverse, Cond.code yX5_reverse cX5_reverse 2 (some .boolean), Cond.methodLink RX5 91 yX3_turnRound, Cond.instanceMethod yX3_turnRound, Cond.selects RX3 yX3_turnRound yX3_turnRound, Cond.code yX3_turnRound cX3_turnRound 2 (some .boolean), Cond.methodLink RL 107 yX6_reverse]
def wsL_law0_r9 : List Cond := [Cond.instanceMethod yX6_reverse, Cond.selects RX6 yX6_reverse yX6_reverse, Cond.code yX6_reverse cX6_reverse 2 (some .boolean), Cond.methodLink RL 108 yL_throwSwitch, Cond.static yL_throwSwitch, Cond.codeWith yL_throwSwitch cL_throwSwitch 4 (some .int) [(0, 16, 19, 13)], Cond.methodLink RL 31 yX5_throwSwitch, Cond.instanceMethod yX5_throwSwitch, Cond.selects RX5 yX5_throwSwitch yX5_throwSwitch, Cond.code yX5_throwSwitch cX5_throwSwitch 2 (some .boolean), Cond.methodLink RX5 100 yX2_turn, Cond.instanceMethod yX2_turn, Cond.selects RX2 yX2_turn yX2_turn, Cond.code yX2_turn cX2_turn 2 (some .boolean), Cond.methodLink RL 110 yX6_throwSwitch, Cond.instanceMethod yX6_throwSwitch, Cond.selects RX6 yX6_throwSwitch yX6_throwSwitch, Cond.code yX6_throwSwitch cX6_throwSwitch 2 (some .boolean), Cond.methodLink RL 111 yL_block, Cond.static yL_block, Cond.codeWith yL_block cL_block 4 (some .int) [(0, 9, 12, 13)], Cond.methodLink RL 34 yX5_block, Cond.instanceMethod yX5_block, Cond.selects RX5 yX5_block yX5_block]
def wsL_law0_r10 : List Cond := [Cond.code yX5_block cX5_block 2 (some .int), Cond.fieldLink RX5 103 "Warpyard$Trains" "block" "[I", Cond.methodLink RL 113 yX6_block, Cond.instanceMethod yX6_block, Cond.selects RX6 yX6_block yX6_block, Cond.code yX6_block cX6_block 2 (some .int), Cond.methodLink RL 114 yL_isRight, Cond.static yL_isRight, Cond.codeWith yL_isRight cL_isRight 4 (some .int) [(0, 16, 19, 13)], Cond.methodLink RL 38 yX5_isRight, Cond.instanceMethod yX5_isRight, Cond.selects RX5 yX5_isRight yX5_isRight, Cond.code yX5_isRight cX5_isRight 2 (some .boolean), Cond.fieldLink RX5 106 "Warpyard$Trains" "right" "[Z", Cond.methodLink RL 116 yX6_isRight, Cond.instanceMethod yX6_isRight, Cond.selects RX6 yX6_isRight yX6_isRight, Cond.code yX6_isRight cX6_isRight 2 (some .boolean), Cond.methodLink RL 117 yL_trainOn, Cond.static yL_trainOn, Cond.codeWith yL_trainOn cL_trainOn 4 (some .int) [(0, 9, 12, 13)], Cond.methodLink RL 41 yX5_trainOn, Cond.instanceMethod yX5_trainOn, Cond.selects RX5 yX5_trainOn yX5_trainOn]
def wsL_law0_r11 : List Cond := [Cond.code yX5_trainOn cX5_trainOn 2 (some .int), Cond.methodLink RL 119 yX6_trainOn, Cond.instanceMethod yX6_trainOn, Cond.selects RX6 yX6_trainOn yX6_trainOn, Cond.code yX6_trainOn cX6_trainOn 2 (some .int), Cond.methodLink RL 120 yL_run, Cond.static yL_run, Cond.codeWith yL_run cL_run 4 (some .int) [(0, 9, 12, 25), (0, 9, 15, 15)], Cond.methodLink RL 44 yX5_run, Cond.instanceMethod yX5_run, Cond.selects RX5 yX5_run yX5_run, Cond.code yX5_run cX5_run 4 (some .int), Cond.fieldLink RX5 109 "Warpyard" "now" "I", Cond.methodLink RX5 114 yX3_runMinute, Cond.instanceMethod yX3_runMinute, Cond.selects RX3 yX3_runMinute yX3_runMinute, Cond.code yX3_runMinute cX3_runMinute 6 (some .int), Cond.methodLink RX3 29 yX3_step, Cond.instanceMethod yX3_step, Cond.selects RX3 yX3_step yX3_step, Cond.code yX3_step cX3_step 6 (some .boolean), Cond.methodLink RX3 33 yX2_ahead, Cond.instanceMethod yX2_ahead, Cond.selects RX2 yX2_ahead yX2_ahead]
def wsL_law0_r12 : List Cond := [Cond.code yX2_ahead cX2_ahead 3 (some .int), Cond.methodLink RX2 15 yX2_rightOf, Cond.instanceMethod yX2_rightOf, Cond.selects RX2 yX2_rightOf yX2_rightOf, Cond.code yX2_rightOf cX2_rightOf 2 (some .int), Cond.methodLink RX2 19 yX2_leftOf, Cond.instanceMethod yX2_leftOf, Cond.selects RX2 yX2_leftOf yX2_leftOf, Cond.code yX2_leftOf cX2_leftOf 2 (some .int), Cond.methodLink RX3 39 yX3_turnRound, Cond.methodLink RX3 43 yX3_standingOn, Cond.methodLink RX3 47 yX0_isForAnother, Cond.instanceMethod yX0_isForAnother, Cond.selects RX0 yX0_isForAnother yX0_isForAnother, Cond.code yX0_isForAnother cX0_isForAnother 5 (some .boolean), Cond.fieldLink RX0 27 "Warpyard$Bookings" "count" "I", Cond.methodLink RX0 31 yX0_isIn, Cond.instanceMethod yX0_isIn, Cond.selects RX0 yX0_isIn yX0_isIn, Cond.code yX0_isIn cX0_isIn 3 (some .boolean), Cond.methodLink RX5 118 yX0_markMet, Cond.instanceMethod yX0_markMet, Cond.selects RX0 yX0_markMet yX0_markMet, Cond.code yX0_markMet cX0_markMet 4 none]
def wsL_law0_r13 : List Cond := [Cond.methodLink RX0 35 yX3_standingOn, Cond.methodLink RL 122 yX6_run, Cond.instanceMethod yX6_run, Cond.selects RX6 yX6_run yX6_run, Cond.code yX6_run cX6_run 4 (some .int), Cond.fieldLink RX6 113 "WarpyardModel" "clock" "I", Cond.methodLink RX6 119 yX6_runs, Cond.instanceMethod yX6_runs, Cond.selects RX6 yX6_runs yX6_runs, Cond.code yX6_runs cX6_runs 4 (some .int), Cond.fieldLink RX6 96 "WarpyardModel" "bookings" "I", Cond.methodLink RX6 110 yX6_tries, Cond.instanceMethod yX6_tries, Cond.selects RX6 yX6_tries yX6_tries, Cond.code yX6_tries cX6_tries 2 none, Cond.methodLink RX6 116 yX6_moves, Cond.instanceMethod yX6_moves, Cond.selects RX6 yX6_moves yX6_moves, Cond.code yX6_moves cX6_moves 5 (some .int), Cond.methodLink RX6 99 yX6_behind, Cond.instanceMethod yX6_behind, Cond.selects RX6 yX6_behind yX6_behind, Cond.code yX6_behind cX6_behind 4 (some .int), Cond.methodLink RX6 103 yX6_isTriedOn]
def wsL_law0_r14 : List Cond := [Cond.instanceMethod yX6_isTriedOn, Cond.selects RX6 yX6_isTriedOn yX6_isTriedOn, Cond.code yX6_isTriedOn cX6_isTriedOn 3 (some .boolean), Cond.methodLink RX6 106 yX6_meets, Cond.instanceMethod yX6_meets, Cond.selects RX6 yX6_meets yX6_meets, Cond.code yX6_meets cX6_meets 6 (some .boolean), Cond.methodLink RL 123 yX5_clock, Cond.instanceMethod yX5_clock, Cond.selects RX5 yX5_clock yX5_clock, Cond.code yX5_clock cX5_clock 1 (some .int), Cond.methodLink RL 126 yX6_clock, Cond.instanceMethod yX6_clock, Cond.selects RX6 yX6_clock yX6_clock, Cond.code yX6_clock cX6_clock 1 (some .int), Cond.methodLink RL 127 yL_reaches, Cond.static yL_reaches, Cond.codeWith yL_reaches cL_reaches 5 (some .int) [(0, 10, 13, 13)], Cond.methodLink RL 47 yX5_reaches, Cond.instanceMethod yX5_reaches, Cond.selects RX5 yX5_reaches yX5_reaches, Cond.code yX5_reaches cX5_reaches 4 (some .int), Cond.methodLink RX5 122 yX3_copyFrom, Cond.instanceMethod yX3_copyFrom]
def wsL_law0_r15 : List Cond := [Cond.selects RX3 yX3_copyFrom yX3_copyFrom, Cond.code yX3_copyFrom cX3_copyFrom 3 none, Cond.methodLink RL 129 yX6_reaches, Cond.instanceMethod yX6_reaches, Cond.selects RX6 yX6_reaches yX6_reaches, Cond.code yX6_reaches cX6_reaches 4 (some .int), Cond.methodLink RL 130 yL_book, Cond.static yL_book, Cond.codeWith yL_book cL_book 7 (some .int) [(0, 14, 17, 13), (0, 14, 21, 25), (0, 14, 25, 15)], Cond.methodLink RL 50 yX5_book, Cond.instanceMethod yX5_book, Cond.selects RX5 yX5_book yX5_book, Cond.code yX5_book cX5_book 5 (some .int), Cond.fieldLink RX5 130 "Warpyard$Bookings" "count" "I", Cond.methodLink RX5 126 yX5_needSpan, Cond.static yX5_needSpan, Cond.code yX5_needSpan cX5_needSpan 3 none, Cond.methodLink RX5 133 yX0_meetsAnother, Cond.instanceMethod yX0_meetsAnother, Cond.selects RX0 yX0_meetsAnother yX0_meetsAnother, Cond.code yX0_meetsAnother cX0_meetsAnother 6 (some .boolean), Cond.methodLink RX5 137 yX0_add, Cond.instanceMethod yX0_add, Cond.selects RX0 yX0_add yX0_add]
def wsL_law0_r16 : List Cond := [Cond.code yX0_add cX0_add 6 (some .int), Cond.methodLink RL 133 yX6_book, Cond.instanceMethod yX6_book, Cond.selects RX6 yX6_book yX6_book, Cond.code yX6_book cX6_book 7 (some .int), Cond.methodLink RL 134 yL_canBook, Cond.static yL_canBook, Cond.codeWith yL_canBook cL_canBook 7 (some .int) [(0, 21, 24, 13), (0, 21, 28, 25)], Cond.methodLink RL 54 yX5_canBook, Cond.instanceMethod yX5_canBook, Cond.selects RX5 yX5_canBook yX5_canBook, Cond.code yX5_canBook cX5_canBook 5 (some .boolean), Cond.methodLink RL 136 yX6_canBook, Cond.instanceMethod yX6_canBook, Cond.selects RX6 yX6_canBook yX6_canBook, Cond.code yX6_canBook cX6_canBook 5 (some .boolean), Cond.methodLink RX6 123 yX6_mayBook, Cond.instanceMethod yX6_mayBook, Cond.selects RX6 yX6_mayBook yX6_mayBook, Cond.code yX6_mayBook cX6_mayBook 7 (some .boolean), Cond.methodLink RL 137 yL_canBookByMinutes, Cond.static yL_canBookByMinutes, Cond.codeWith yL_canBookByMinutes cL_canBookByMinutes 7 (some .int) [(0, 21, 24, 13), (0, 21, 28, 25)], Cond.methodLink RL 58 yX5_canBookByMinutes]
def wsL_law0_r17 : List Cond := [Cond.instanceMethod yX5_canBookByMinutes, Cond.selects RX5 yX5_canBookByMinutes yX5_canBookByMinutes, Cond.code yX5_canBookByMinutes cX5_canBookByMinutes 6 (some .boolean), Cond.methodLink RX5 140 yX0_isForAnother, Cond.methodLink RL 139 yX6_canBookByMinutes, Cond.instanceMethod yX6_canBookByMinutes, Cond.selects RX6 yX6_canBookByMinutes yX6_canBookByMinutes, Cond.code yX6_canBookByMinutes cX6_canBookByMinutes 5 (some .boolean), Cond.methodLink RL 140 yL_booking, Cond.static yL_booking, Cond.codeWith yL_booking cL_booking 4 (some .int) [(0, 9, 12, 13)], Cond.methodLink RL 61 yX5_booking, Cond.instanceMethod yX5_booking, Cond.selects RX5 yX5_booking yX5_booking, Cond.code yX5_booking cX5_booking 2 (some .int), Cond.fieldLink RX5 147 "Warpyard$Bookings" "lateness" "[I", Cond.fieldLink RX5 150 "Warpyard$Bookings" "last" "[I", Cond.methodLink RX5 144 yX5_needBooking, Cond.instanceMethod yX5_needBooking, Cond.selects RX5 yX5_needBooking yX5_needBooking, Cond.code yX5_needBooking cX5_needBooking 2 none, Cond.methodLink RL 142 yX6_booking, Cond.instanceMethod yX6_booking, Cond.selects RX6 yX6_booking yX6_booking]
def wsL_law0_r18 : List Cond := [Cond.code yX6_booking cX6_booking 2 (some .int), Cond.methodLink RX6 126 yX6_isBooking, Cond.instanceMethod yX6_isBooking, Cond.selects RX6 yX6_isBooking yX6_isBooking, Cond.code yX6_isBooking cX6_isBooking 2 (some .boolean), Cond.methodLink RL 143 yL_late, Cond.static yL_late, Cond.codeWith yL_late cL_late 4 (some .int) [(0, 9, 12, 13)], Cond.methodLink RL 64 yX5_late, Cond.instanceMethod yX5_late, Cond.selects RX5 yX5_late yX5_late, Cond.code yX5_late cX5_late 2 (some .int), Cond.methodLink RL 145 yX6_late, Cond.instanceMethod yX6_late, Cond.selects RX6 yX6_late yX6_late, Cond.code yX6_late cX6_late 2 (some .int), Cond.methodLink RL 146 yL_addWaggon, Cond.static yL_addWaggon, Cond.codeWith yL_addWaggon cL_addWaggon 5 (some .int) [(0, 10, 13, 13), (0, 10, 17, 25), (0, 10, 21, 15)], Cond.methodLink RL 67 yX5_addWaggon, Cond.instanceMethod yX5_addWaggon, Cond.selects RX5 yX5_addWaggon yX5_addWaggon, Cond.code yX5_addWaggon cX5_addWaggon 3 (some .int), Cond.fieldLink RX5 158 "Warpyard$Waggons" "count" "I"]
def wsL_law0_r19 : List Cond := [Cond.methodLink RX5 153 yX5_needSiding, Cond.static yX5_needSiding, Cond.code yX5_needSiding cX5_needSiding 1 none, Cond.methodLink RX5 212 yX5_isSiding, Cond.static yX5_isSiding, Cond.code yX5_isSiding cX5_isSiding 1 (some .boolean), Cond.methodLink RX5 161 yX5_needRoomIn, Cond.instanceMethod yX5_needRoomIn, Cond.selects RX5 yX5_needRoomIn yX5_needRoomIn, Cond.code yX5_needRoomIn cX5_needRoomIn 2 none, Cond.fieldLink RX5 239 "Warpyard$Waggons" "size" "[I", Cond.methodLink RX5 164 yX4_rowOfSiding, Cond.static yX4_rowOfSiding, Cond.code yX4_rowOfSiding cX4_rowOfSiding 1 (some .int), Cond.methodLink RX5 167 yX4_add, Cond.instanceMethod yX4_add, Cond.selects RX4 yX4_add yX4_add, Cond.code yX4_add cX4_add 4 (some .int), Cond.fieldLink RX4 21 "Warpyard$Waggons" "count" "I", Cond.methodLink RX4 25 yX4_append, Cond.instanceMethod yX4_append, Cond.selects RX4 yX4_append yX4_append, Cond.code yX4_append cX4_append 3 none, Cond.methodLink RL 148 yX6_addWaggon]
def wsL_law0_r20 : List Cond := [Cond.instanceMethod yX6_addWaggon, Cond.selects RX6 yX6_addWaggon yX6_addWaggon, Cond.code yX6_addWaggon cX6_addWaggon 4 (some .int), Cond.fieldLink RX6 129 "WarpyardModel" "waggons" "I", Cond.methodLink RX6 135 yX6_isSiding, Cond.static yX6_isSiding, Cond.code yX6_isSiding cX6_isSiding 1 (some .boolean), Cond.methodLink RX6 132 yX6_many, Cond.instanceMethod yX6_many, Cond.selects RX6 yX6_many yX6_many, Cond.code yX6_many cX6_many 4 (some .int), Cond.methodLink RX6 138 yX6_comes, Cond.instanceMethod yX6_comes, Cond.selects RX6 yX6_comes yX6_comes, Cond.code yX6_comes cX6_comes 4 none, Cond.methodLink RL 149 yL_offer, Cond.static yL_offer, Cond.codeWith yL_offer cL_offer 6 (some .int) [(0, 9, 12, 13), (0, 9, 16, 25)], Cond.methodLink RL 70 yX5_offer, Cond.instanceMethod yX5_offer, Cond.selects RX5 yX5_offer yX5_offer, Cond.code yX5_offer cX5_offer 5 none, Cond.methodLink RX5 176 yX1_put, Cond.instanceMethod yX1_put]
def wsL_law0_r21 : List Cond := [Cond.selects RX1 yX1_put yX1_put, Cond.code yX1_put cX1_put 5 none, Cond.methodLink RL 152 yX6_offer, Cond.instanceMethod yX6_offer, Cond.selects RX6 yX6_offer yX6_offer, Cond.code yX6_offer cX6_offer 6 none, Cond.methodLink RL 153 yL_couple, Cond.static yL_couple, Cond.codeWith yL_couple cL_couple 4 (some .int) [(0, 9, 12, 13), (0, 9, 15, 15)], Cond.methodLink RL 74 yX5_couple, Cond.instanceMethod yX5_couple, Cond.selects RX5 yX5_couple yX5_couple, Cond.code yX5_couple cX5_couple 5 (some .int), Cond.fieldLink RX5 194 "Warpyard$Waggons" "weight" "[I", Cond.methodLink RX5 180 yX5_sidingUnder, Cond.instanceMethod yX5_sidingUnder, Cond.selects RX5 yX5_sidingUnder yX5_sidingUnder, Cond.code yX5_sidingUnder cX5_sidingUnder 3 (some .int), Cond.methodLink RX5 183 yX4_rowOfTrain, Cond.static yX4_rowOfTrain, Cond.code yX4_rowOfTrain cX4_rowOfTrain 1 (some .int), Cond.methodLink RX5 186 yX4_lastOf, Cond.instanceMethod yX4_lastOf, Cond.selects RX4 yX4_lastOf yX4_lastOf]
def wsL_law0_r22 : List Cond := [Cond.code yX4_lastOf cX4_lastOf 2 (some .int), Cond.methodLink RX4 29 yX4_fromLast, Cond.instanceMethod yX4_fromLast, Cond.selects RX4 yX4_fromLast yX4_fromLast, Cond.code yX4_fromLast cX4_fromLast 3 (some .int), Cond.methodLink RX5 191 yX4_weightOf, Cond.instanceMethod yX4_weightOf, Cond.selects RX4 yX4_weightOf yX4_weightOf, Cond.code yX4_weightOf cX4_weightOf 4 (some .int), Cond.methodLink RX5 199 yX4_moveLast, Cond.instanceMethod yX4_moveLast, Cond.selects RX4 yX4_moveLast yX4_moveLast, Cond.code yX4_moveLast cX4_moveLast 4 none, Cond.methodLink RX4 33 yX4_lastOf, Cond.methodLink RL 155 yX6_couple, Cond.instanceMethod yX6_couple, Cond.selects RX6 yX6_couple yX6_couple, Cond.code yX6_couple cX6_couple 3 (some .int), Cond.methodLink RX6 149 yX6_errorOfCouple, Cond.instanceMethod yX6_errorOfCouple, Cond.selects RX6 yX6_errorOfCouple yX6_errorOfCouple, Cond.code yX6_errorOfCouple cX6_errorOfCouple 4 (some .int), Cond.methodLink RX6 142 yX6_waggon, Cond.instanceMethod yX6_waggon]
def wsL_law0_r23 : List Cond := [Cond.selects RX6 yX6_waggon yX6_waggon, Cond.code yX6_waggon cX6_waggon 4 (some .int), Cond.methodLink RX6 146 yX6_weight, Cond.instanceMethod yX6_weight, Cond.selects RX6 yX6_weight yX6_weight, Cond.code yX6_weight cX6_weight 4 (some .int), Cond.methodLink RL 156 yL_leave, Cond.static yL_leave, Cond.codeWith yL_leave cL_leave 4 (some .int) [(0, 9, 12, 13), (0, 9, 15, 15)], Cond.methodLink RL 77 yX5_leave, Cond.instanceMethod yX5_leave, Cond.selects RX5 yX5_leave yX5_leave, Cond.code yX5_leave cX5_leave 6 (some .int), Cond.fieldLink RX5 209 "Warpyard" "money" "I", Cond.methodLink RX5 205 yX1_settle, Cond.instanceMethod yX1_settle, Cond.selects RX1 yX1_settle yX1_settle, Cond.code yX1_settle cX1_settle 4 (some .int), Cond.methodLink RX1 25 Lib.Math.max.name, Cond.static Lib.Math.max.name, Cond.initialized "java/lang/Math", Cond.code Lib.Math.max.name Lib.Math.max.code 2 (some .int), Cond.methodLink RX1 21 yX1_begunHours, Cond.static yX1_begunHours]
def wsL_law0_r24 : List Cond := [Cond.code yX1_begunHours cX1_begunHours 1 (some .int), Cond.methodLink RL 158 yX6_leave, Cond.instanceMethod yX6_leave, Cond.selects RX6 yX6_leave yX6_leave, Cond.code yX6_leave cX6_leave 8 (some .int), Cond.fieldLink RX6 152 "WarpyardModel" "earned" "I", Cond.methodLink RL 159 yL_waggonAt, Cond.static yL_waggonAt, Cond.codeWith yL_waggonAt cL_waggonAt 5 (some .int) [(0, 10, 13, 13)], Cond.methodLink RL 80 yX5_waggonAt, Cond.instanceMethod yX5_waggonAt, Cond.selects RX5 yX5_waggonAt yX5_waggonAt, Cond.code yX5_waggonAt cX5_waggonAt 4 (some .int), Cond.methodLink RX5 219 yX4_fromLast, Cond.methodLink RX5 222 yX4_fromFirst, Cond.instanceMethod yX4_fromFirst, Cond.selects RX4 yX4_fromFirst yX4_fromFirst, Cond.code yX4_fromFirst cX4_fromFirst 3 (some .int), Cond.methodLink RL 161 yX6_waggonAt, Cond.instanceMethod yX6_waggonAt, Cond.selects RX6 yX6_waggonAt yX6_waggonAt, Cond.code yX6_waggonAt cX6_waggonAt 5 (some .int), Cond.methodLink RL 162 yX5_earned, Cond.instanceMethod yX5_earned]
def wsL_law0_r25 : List Cond := [Cond.selects RX5 yX5_earned yX5_earned, Cond.code yX5_earned cX5_earned 1 (some .int), Cond.methodLink RL 165 yX6_earned, Cond.instanceMethod yX6_earned, Cond.selects RX6 yX6_earned yX6_earned, Cond.code yX6_earned cX6_earned 1 (some .int)]
def wsL_law0 : List Cond := (wsL_law0_r1 ++ (wsL_law0_r2 ++ (wsL_law0_r3 ++ (wsL_law0_r4 ++ (wsL_law0_r5 ++ (wsL_law0_r6 ++ (wsL_law0_r7 ++ (wsL_law0_r8 ++ (wsL_law0_r9 ++ (wsL_law0_r10 ++ (wsL_law0_r11 ++ (wsL_law0_r12 ++ (wsL_law0_r13 ++ (wsL_law0_r14 ++ (wsL_law0_r15 ++ (wsL_law0_r16 ++ (wsL_law0_r17 ++ (wsL_law0_r18 ++ (wsL_law0_r19 ++ (wsL_law0_r20 ++ (wsL_law0_r21 ++ (wsL_law0_r22 ++ (wsL_law0_r23 ++ (wsL_law0_r24 ++ wsL_law0_r25)))))))))))))))))))))))) ++ wsX50 ++ wsX60 ++ wsX20 ++ wsX30 ++ wsX00 ++ wsX40 ++ wsX10 ++ ([] : List Cond)
def wsL_law : List Cond := wsL_law0 ++ (vx_atS RX5 59 "java/lang/IllegalStateException" ["java/lang/RuntimeException", "java/lang/Exception"]).filter goodWord ++ (vx_atS RX5 99 "java/lang/IndexOutOfBoundsException" ["java/lang/RuntimeException", "java/lang/Exception"]).filter goodWord ++ (vx_atS RX5 90 "java/lang/IllegalArgumentException" ["java/lang/RuntimeException", "java/lang/Exception"]).filter goodWord
end
section
theorem in_pl {big ws : List Cond} (ps : List Nat) (hp : ws = ps.filterMap (fun i => big[i]?)) : ∀ w ∈ ws, w ∈ big := by
  intro w hw
  rw [hp] at hw
  obtain ⟨i, -, hi⟩ := List.mem_filterMap.mp hw
  exact List.mem_of_getElem? hi
set_option maxRecDepth 20000 in
theorem p_wsL_law0_r1 : ∀ w ∈ wsL_law0_r1, w ∈ lw_tbl := in_pl [41, 42, 27, 597, 598, 33, 847, 43, 44, 45, 46, 47, 48, 49, 50, 28, 154, 60, 61, 29, 155, 156, 88, 89] (by decide +kernel)
set_option maxRecDepth 20000 in
theorem p_wsL_law0_r2 : ∀ w ∈ wsL_law0_r2, w ∈ lw_tbl := in_pl [30, 157, 116, 117, 31, 158, 138, 139, 32, 159, 52, 53, 54, 59, 55, 63, 64, 65, 87, 66, 68, 70, 72, 91] (by decide +kernel)
set_option maxRecDepth 20000 in
theorem p_wsL_law0_r3 : ∀ w ∈ wsL_law0_r3, w ∈ lw_tbl := in_pl [92, 93, 94, 95, 96, 97, 99, 119, 120, 121, 122, 124, 126, 141, 142, 143, 144, 145, 146, 599, 600, 601, 602, 606] (by decide +kernel)
set_option maxRecDepth 20000 in
theorem p_wsL_law0_r4 : ∀ w ∈ wsL_law0_r4, w ∈ lw_tbl := in_pl [607, 608, 609, 610, 611, 612, 613, 615, 616, 617, 618, 619, 620, 622, 623, 624, 625, 626, 627, 187, 188, 26, 189, 190] (by decide +kernel)
set_option maxRecDepth 20000 in
theorem p_wsL_law0_r5 : ∀ w ∈ wsL_law0_r5, w ∈ lw_tbl := in_pl [191, 192, 193, 194, 195, 267, 38, 75, 196, 197, 198, 199, 37, 283, 284, 285, 286, 74, 288, 289, 290, 291, 686, 687] (by decide +kernel)
set_option maxRecDepth 20000 in
theorem p_wsL_law0_r6 : ∀ w ∈ wsL_law0_r6, w ∈ lw_tbl := in_pl [688, 689, 605, 690, 691, 692, 693, 694, 695, 696, 698, 10, 699, 700, 702, 11, 703, 603, 682, 683, 684, 685, 292, 293] (by decide +kernel)
set_option maxRecDepth 20000 in
theorem p_wsL_law0_r7 : ∀ w ∈ wsL_law0_r7, w ∈ lw_tbl := in_pl [294, 295, 296, 297, 298, 71, 299, 301, 1, 302, 704, 705, 706, 707, 708, 710, 12, 711, 304, 305, 306, 307, 308, 309] (by decide +kernel)
set_option maxRecDepth 20000 in
theorem p_wsL_law0_r8 : ∀ w ∈ wsL_law0_r8, w ∈ lw_tbl := in_pl [310, 311, 315, 39, 73, 312, 313, 314, 712, 713, 714, 715, 332, 333, 334, 335, 336, 337, 338, 339, 340, 341, 342, 716] (by decide +kernel)
set_option maxRecDepth 20000 in
theorem p_wsL_law0_r9 : ∀ w ∈ wsL_law0_r9, w ∈ lw_tbl := in_pl [717, 718, 719, 343, 344, 345, 346, 347, 348, 349, 351, 352, 353, 354, 720, 721, 722, 723, 355, 356, 357, 358, 359, 360] (by decide +kernel)
set_option maxRecDepth 20000 in
theorem p_wsL_law0_r10 : ∀ w ∈ wsL_law0_r10, w ∈ lw_tbl := in_pl [361, 67, 724, 725, 726, 727, 362, 363, 364, 365, 366, 367, 368, 69, 728, 729, 730, 731, 369, 370, 371, 372, 373, 374] (by decide +kernel)
set_option maxRecDepth 20000 in
theorem p_wsL_law0_r11 : ∀ w ∈ wsL_law0_r11, w ∈ lw_tbl := in_pl [375, 732, 733, 734, 735, 376, 377, 378, 379, 380, 381, 382, 160, 384, 385, 386, 387, 388, 390, 2, 391, 392, 393, 394] (by decide +kernel)
set_option maxRecDepth 20000 in
theorem p_wsL_law0_r12 : ∀ w ∈ wsL_law0_r12, w ∈ lw_tbl := in_pl [395, 396, 398, 3, 399, 400, 402, 4, 403, 404, 405, 406, 407, 408, 409, 101, 410, 412, 5, 413, 414, 415, 416, 417] (by decide +kernel)
set_option maxRecDepth 20000 in
theorem p_wsL_law0_r13 : ∀ w ∈ wsL_law0_r13, w ∈ lw_tbl := in_pl [418, 736, 737, 738, 739, 604, 740, 742, 13, 743, 614, 744, 746, 14, 747, 748, 750, 15, 751, 752, 754, 16, 755, 756] (by decide +kernel)
set_option maxRecDepth 20000 in
theorem p_wsL_law0_r14 : ∀ w ∈ wsL_law0_r14, w ∈ lw_tbl := in_pl [758, 17, 759, 760, 762, 18, 763, 179, 180, 181, 182, 764, 765, 766, 767, 419, 420, 421, 422, 423, 424, 425, 426, 427] (by decide +kernel)
set_option maxRecDepth 20000 in
theorem p_wsL_law0_r15 : ∀ w ∈ wsL_law0_r15, w ∈ lw_tbl := in_pl [428, 429, 768, 769, 770, 771, 430, 431, 432, 433, 434, 435, 436, 102, 437, 438, 439, 443, 444, 445, 446, 447, 448, 449] (by decide +kernel)
set_option maxRecDepth 20000 in
theorem p_wsL_law0_r16 : ∀ w ∈ wsL_law0_r16, w ∈ lw_tbl := in_pl [450, 772, 773, 774, 775, 451, 452, 453, 454, 455, 456, 457, 776, 777, 778, 779, 780, 782, 19, 783, 458, 459, 460, 461] (by decide +kernel)
set_option maxRecDepth 20000 in
theorem p_wsL_law0_r17 : ∀ w ∈ wsL_law0_r17, w ∈ lw_tbl := in_pl [462, 463, 464, 465, 784, 785, 786, 787, 466, 467, 468, 469, 470, 471, 472, 100, 98, 473, 475, 6, 476, 788, 789, 790] (by decide +kernel)
set_option maxRecDepth 20000 in
theorem p_wsL_law0_r18 : ∀ w ∈ wsL_law0_r18, w ∈ lw_tbl := in_pl [791, 792, 794, 20, 795, 478, 479, 480, 481, 482, 483, 484, 796, 797, 798, 799, 485, 486, 487, 488, 489, 490, 491, 128] (by decide +kernel)
set_option maxRecDepth 20000 in
theorem p_wsL_law0_r19 : ∀ w ∈ wsL_law0_r19, w ∈ lw_tbl := in_pl [492, 493, 494, 495, 496, 497, 501, 503, 7, 504, 125, 505, 506, 507, 509, 510, 511, 512, 127, 513, 515, 8, 516, 800] (by decide +kernel)
set_option maxRecDepth 20000 in
theorem p_wsL_law0_r20 : ∀ w ∈ wsL_law0_r20, w ∈ lw_tbl := in_pl [801, 802, 803, 621, 804, 805, 806, 807, 809, 21, 810, 811, 813, 22, 814, 517, 518, 519, 520, 521, 522, 523, 527, 528] (by decide +kernel)
set_option maxRecDepth 20000 in
theorem p_wsL_law0_r21 : ∀ w ∈ wsL_law0_r21, w ∈ lw_tbl := in_pl [529, 530, 815, 816, 817, 818, 531, 532, 533, 534, 535, 536, 537, 123, 538, 540, 9, 541, 543, 544, 545, 546, 547, 548] (by decide +kernel)
set_option maxRecDepth 20000 in
theorem p_wsL_law0_r22 : ∀ w ∈ wsL_law0_r22, w ∈ lw_tbl := in_pl [549, 550, 551, 552, 553, 555, 556, 557, 558, 560, 561, 562, 563, 564, 819, 820, 821, 822, 823, 825, 23, 826, 827, 829] (by decide +kernel)
set_option maxRecDepth 20000 in
theorem p_wsL_law0_r23 : ∀ w ∈ wsL_law0_r23, w ∈ lw_tbl := in_pl [24, 830, 831, 833, 25, 834, 565, 566, 567, 568, 569, 570, 571, 161, 573, 574, 575, 576, 580, 581, 40, 582, 577, 578] (by decide +kernel)
set_option maxRecDepth 20000 in
theorem p_wsL_law0_r24 : ∀ w ∈ wsL_law0_r24, w ∈ lw_tbl := in_pl [579, 835, 836, 837, 838, 628, 583, 584, 585, 586, 587, 588, 589, 592, 593, 594, 595, 596, 839, 840, 841, 842, 183, 184] (by decide +kernel)
set_option maxRecDepth 20000 in
theorem p_wsL_law0_r25 : ∀ w ∈ wsL_law0_r25, w ∈ lw_tbl := in_pl [185, 186, 843, 844, 845, 846] (by decide +kernel)
set_option maxRecDepth 20000 in
theorem p_wsX50 : ∀ w ∈ wsX50, w ∈ lw_tbl := in_pl [162, 164, 166, 168, 170, 172, 174, 176] (by decide +kernel)
set_option maxRecDepth 20000 in
theorem p_wsX60 : ∀ w ∈ wsX60, w ∈ lw_tbl := in_pl [629, 631, 633, 635, 637, 639, 641, 643, 645, 647, 649, 651, 653, 655, 657, 659, 661, 663, 665, 667, 669, 671, 673, 675, 677, 679] (by decide +kernel)
set_option maxRecDepth 20000 in
theorem p_wsX20 : ∀ w ∈ wsX20, w ∈ lw_tbl := in_pl [56] (by decide +kernel)
set_option maxRecDepth 20000 in
theorem p_wsX30 : ∀ w ∈ wsX30, w ∈ lw_tbl := in_pl [76, 78, 80, 82, 84] (by decide +kernel)
set_option maxRecDepth 20000 in
theorem p_wsX00 : ∀ w ∈ wsX00, w ∈ lw_tbl := in_pl [103, 105, 107, 109, 111, 113] (by decide +kernel)
set_option maxRecDepth 20000 in
theorem p_wsX40 : ∀ w ∈ wsX40, w ∈ lw_tbl := in_pl [129, 131, 133, 135] (by decide +kernel)
set_option maxRecDepth 20000 in
theorem p_wsX10 : ∀ w ∈ wsX10, w ∈ lw_tbl := in_pl [147, 149, 151] (by decide +kernel)
theorem wsL_law_in0 : ∀ w ∈ wsL_law0, w ∈ lw_tbl := by
  unfold wsL_law0
  exact (List.forall_mem_append.mpr ⟨(List.forall_mem_append.mpr ⟨(List.forall_mem_append.mpr ⟨(List.forall_mem_append.mpr ⟨(List.forall_mem_append.mpr ⟨(List.forall_mem_append.mpr ⟨(List.forall_mem_append.mpr ⟨(List.forall_mem_append.mpr ⟨(List.forall_mem_append.mpr ⟨p_wsL_law0_r1, (List.forall_mem_append.mpr ⟨p_wsL_law0_r2, (List.forall_mem_append.mpr ⟨p_wsL_law0_r3, (List.forall_mem_append.mpr ⟨p_wsL_law0_r4, (List.forall_mem_append.mpr ⟨p_wsL_law0_r5, (List.forall_mem_append.mpr ⟨p_wsL_law0_r6, (List.forall_mem_append.mpr ⟨p_wsL_law0_r7, (List.forall_mem_append.mpr ⟨p_wsL_law0_r8, (List.forall_mem_append.mpr ⟨p_wsL_law0_r9, (List.forall_mem_append.mpr ⟨p_wsL_law0_r10, (List.forall_mem_append.mpr ⟨p_wsL_law0_r11, (List.forall_mem_append.mpr ⟨p_wsL_law0_r12, (List.forall_mem_append.mpr ⟨p_wsL_law0_r13, (List.forall_mem_append.mpr ⟨p_wsL_law0_r14, (List.forall_mem_append.mpr ⟨p_wsL_law0_r15, (List.forall_mem_append.mpr ⟨p_wsL_law0_r16, (List.forall_mem_append.mpr ⟨p_wsL_law0_r17, (List.forall_mem_append.mpr ⟨p_wsL_law0_r18, (List.forall_mem_append.mpr ⟨p_wsL_law0_r19, (List.forall_mem_append.mpr ⟨p_wsL_law0_r20, (List.forall_mem_append.mpr ⟨p_wsL_law0_r21, (List.forall_mem_append.mpr ⟨p_wsL_law0_r22, (List.forall_mem_append.mpr ⟨p_wsL_law0_r23, (List.forall_mem_append.mpr ⟨p_wsL_law0_r24, p_wsL_law0_r25⟩)⟩)⟩)⟩)⟩)⟩)⟩)⟩)⟩)⟩)⟩)⟩)⟩)⟩)⟩)⟩)⟩)⟩)⟩)⟩)⟩)⟩)⟩)⟩), p_wsX50⟩), p_wsX60⟩), p_wsX20⟩), p_wsX30⟩), p_wsX00⟩), p_wsX40⟩), p_wsX10⟩), fun _ h => absurd h List.not_mem_nil⟩)
theorem wsL_law_x0 : ∀ w ∈ (vx_atS RX5 59 "java/lang/IllegalStateException" ["java/lang/RuntimeException", "java/lang/Exception"]).filter goodWord, w ∈ lw_tbl := by decide +kernel
theorem wsL_law_x1 : ∀ w ∈ (vx_atS RX5 99 "java/lang/IndexOutOfBoundsException" ["java/lang/RuntimeException", "java/lang/Exception"]).filter goodWord, w ∈ lw_tbl := by decide +kernel
theorem wsL_law_x2 : ∀ w ∈ (vx_atS RX5 90 "java/lang/IllegalArgumentException" ["java/lang/RuntimeException", "java/lang/Exception"]).filter goodWord, w ∈ lw_tbl := by decide +kernel
theorem wsL_law_in : ∀ w ∈ wsL_law, w ∈ lw_tbl := fun w h => (List.mem_append.mp h).elim (fun h => (List.mem_append.mp h).elim (fun h => (List.mem_append.mp h).elim (fun h => wsL_law_in0 w h) (fun h => wsL_law_x0 w h)) (fun h => wsL_law_x1 w h)) (fun h => wsL_law_x2 w h)
theorem inlX0 : ∀ w ∈ wsX00, w ∈ wsL_law := fun _ h => List.mem_append_left _ (List.mem_append_left _ (List.mem_append_left _ (List.mem_append_left _ (List.mem_append_left _ (List.mem_append_left _ (List.mem_append_right _ h))))))
theorem inX0 : ∀ w ∈ wsX00, w ∈ lw_tbl := fun w h => wsL_law_in w (inlX0 w h)
theorem inlX1 : ∀ w ∈ wsX10, w ∈ wsL_law := fun _ h => List.mem_append_left _ (List.mem_append_left _ (List.mem_append_left _ (List.mem_append_left _ (List.mem_append_right _ h))))
theorem inX1 : ∀ w ∈ wsX10, w ∈ lw_tbl := fun w h => wsL_law_in w (inlX1 w h)
theorem inlX2 : ∀ w ∈ wsX20, w ∈ wsL_law := fun _ h => List.mem_append_left _ (List.mem_append_left _ (List.mem_append_left _ (List.mem_append_left _ (List.mem_append_left _ (List.mem_append_left _ (List.mem_append_left _ (List.mem_append_left _ (List.mem_append_right _ h))))))))
theorem inX2 : ∀ w ∈ wsX20, w ∈ lw_tbl := fun w h => wsL_law_in w (inlX2 w h)
theorem inlX3 : ∀ w ∈ wsX30, w ∈ wsL_law := fun _ h => List.mem_append_left _ (List.mem_append_left _ (List.mem_append_left _ (List.mem_append_left _ (List.mem_append_left _ (List.mem_append_left _ (List.mem_append_left _ (List.mem_append_right _ h)))))))
theorem inX3 : ∀ w ∈ wsX30, w ∈ lw_tbl := fun w h => wsL_law_in w (inlX3 w h)
theorem inlX4 : ∀ w ∈ wsX40, w ∈ wsL_law := fun _ h => List.mem_append_left _ (List.mem_append_left _ (List.mem_append_left _ (List.mem_append_left _ (List.mem_append_left _ (List.mem_append_right _ h)))))
theorem inX4 : ∀ w ∈ wsX40, w ∈ lw_tbl := fun w h => wsL_law_in w (inlX4 w h)
theorem inlX5 : ∀ w ∈ wsX50, w ∈ wsL_law := fun _ h => List.mem_append_left _ (List.mem_append_left _ (List.mem_append_left _ (List.mem_append_left _ (List.mem_append_left _ (List.mem_append_left _ (List.mem_append_left _ (List.mem_append_left _ (List.mem_append_left _ (List.mem_append_left _ (List.mem_append_right _ h))))))))))
theorem inX5 : ∀ w ∈ wsX50, w ∈ lw_tbl := fun w h => wsL_law_in w (inlX5 w h)
theorem inlX6 : ∀ w ∈ wsX60, w ∈ wsL_law := fun _ h => List.mem_append_left _ (List.mem_append_left _ (List.mem_append_left _ (List.mem_append_left _ (List.mem_append_left _ (List.mem_append_left _ (List.mem_append_left _ (List.mem_append_left _ (List.mem_append_left _ (List.mem_append_right _ h)))))))))
theorem inX6 : ∀ w ∈ wsX60, w ∈ lw_tbl := fun w h => wsL_law_in w (inlX6 w h)
theorem inJ9 : ∀ w ∈ wsJ90, w ∈ lw_tbl := by decide +kernel
theorem inJ0 : ∀ w ∈ wsJ00, w ∈ lw_tbl := by decide +kernel
end
section
theorem dX0_init_0 : decode cX0_init 0 = .ok (.aload_n 0, 1) := by decide +kernel
theorem dX0_init_1 : decode cX0_init 1 = .ok (.invokespecial 3, 3) := by decide +kernel
theorem dX0_init_4 : decode cX0_init 4 = .ok (.aload_n 0, 1) := by decide +kernel
theorem dX0_init_5 : decode cX0_init 5 = .ok (.bipush 30, 2) := by decide +kernel
theorem dX0_init_7 : decode cX0_init 7 = .ok (.newarray .int, 2) := by decide +kernel
theorem dX0_init_9 : decode cX0_init 9 = .ok (.putfield 9, 3) := by decide +kernel
theorem dX0_init_12 : decode cX0_init 12 = .ok (.aload_n 0, 1) := by decide +kernel
theorem dX0_init_13 : decode cX0_init 13 = .ok (.bipush 30, 2) := by decide +kernel
theorem dX0_init_15 : decode cX0_init 15 = .ok (.newarray .int, 2) := by decide +kernel
theorem dX0_init_17 : decode cX0_init 17 = .ok (.putfield 15, 3) := by decide +kernel
theorem dX0_init_20 : decode cX0_init 20 = .ok (.aload_n 0, 1) := by decide +kernel
theorem dX0_init_21 : decode cX0_init 21 = .ok (.bipush 30, 2) := by decide +kernel
theorem dX0_init_23 : decode cX0_init 23 = .ok (.newarray .int, 2) := by decide +kernel
theorem dX0_init_25 : decode cX0_init 25 = .ok (.putfield 18, 3) := by decide +kernel
theorem dX0_init_28 : decode cX0_init 28 = .ok (.aload_n 0, 1) := by decide +kernel
theorem dX0_init_29 : decode cX0_init 29 = .ok (.bipush 30, 2) := by decide +kernel
theorem dX0_init_31 : decode cX0_init 31 = .ok (.newarray .int, 2) := by decide +kernel
theorem dX0_init_33 : decode cX0_init 33 = .ok (.putfield 21, 3) := by decide +kernel
theorem dX0_init_36 : decode cX0_init 36 = .ok (.aload_n 0, 1) := by decide +kernel
theorem dX0_init_37 : decode cX0_init 37 = .ok (.bipush 30, 2) := by decide +kernel
theorem dX0_init_39 : decode cX0_init 39 = .ok (.newarray .int, 2) := by decide +kernel
theorem dX0_init_41 : decode cX0_init 41 = .ok (.putfield 24, 3) := by decide +kernel
theorem dX0_init_44 : decode cX0_init 44 = .ok (.return_, 1) := by decide +kernel
theorem dX0_add_0 : decode cX0_add 0 = .ok (.aload_n 0, 1) := by decide +kernel
theorem dX0_add_1 : decode cX0_add 1 = .ok (.getfield 27, 3) := by decide +kernel
theorem dX0_add_4 : decode cX0_add 4 = .ok (.istore 5, 2) := by decide +kernel
theorem dX0_add_6 : decode cX0_add 6 = .ok (.aload_n 0, 1) := by decide +kernel
theorem dX0_add_7 : decode cX0_add 7 = .ok (.getfield 9, 3) := by decide +kernel
theorem dX0_add_10 : decode cX0_add 10 = .ok (.iload 5, 2) := by decide +kernel
theorem dX0_add_12 : decode cX0_add 12 = .ok (.iload_n 1, 1) := by decide +kernel
theorem dX0_add_13 : decode cX0_add 13 = .ok (.iastore, 1) := by decide +kernel
theorem dX0_add_14 : decode cX0_add 14 = .ok (.aload_n 0, 1) := by decide +kernel
theorem dX0_add_15 : decode cX0_add 15 = .ok (.getfield 15, 3) := by decide +kernel
theorem dX0_add_18 : decode cX0_add 18 = .ok (.iload 5, 2) := by decide +kernel
theorem dX0_add_20 : decode cX0_add 20 = .ok (.iload_n 2, 1) := by decide +kernel
theorem dX0_add_21 : decode cX0_add 21 = .ok (.iastore, 1) := by decide +kernel
theorem dX0_add_22 : decode cX0_add 22 = .ok (.aload_n 0, 1) := by decide +kernel
theorem dX0_add_23 : decode cX0_add 23 = .ok (.getfield 18, 3) := by decide +kernel
theorem dX0_add_26 : decode cX0_add 26 = .ok (.iload 5, 2) := by decide +kernel
theorem dX0_add_28 : decode cX0_add 28 = .ok (.iload_n 3, 1) := by decide +kernel
theorem dX0_add_29 : decode cX0_add 29 = .ok (.iastore, 1) := by decide +kernel
theorem dX0_add_30 : decode cX0_add 30 = .ok (.aload_n 0, 1) := by decide +kernel
theorem dX0_add_31 : decode cX0_add 31 = .ok (.getfield 21, 3) := by decide +kernel
theorem dX0_add_34 : decode cX0_add 34 = .ok (.iload 5, 2) := by decide +kernel
theorem dX0_add_36 : decode cX0_add 36 = .ok (.iload 4, 2) := by decide +kernel
theorem dX0_add_38 : decode cX0_add 38 = .ok (.iastore, 1) := by decide +kernel
theorem dX0_add_39 : decode cX0_add 39 = .ok (.aload_n 0, 1) := by decide +kernel
theorem dX0_add_40 : decode cX0_add 40 = .ok (.getfield 24, 3) := by decide +kernel
theorem dX0_add_43 : decode cX0_add 43 = .ok (.iload 5, 2) := by decide +kernel
theorem dX0_add_45 : decode cX0_add 45 = .ok (.iconst (-1), 1) := by decide +kernel
theorem dX0_add_46 : decode cX0_add 46 = .ok (.iastore, 1) := by decide +kernel
theorem dX0_add_47 : decode cX0_add 47 = .ok (.aload_n 0, 1) := by decide +kernel
theorem dX0_add_48 : decode cX0_add 48 = .ok (.dup, 1) := by decide +kernel
theorem dX0_add_49 : decode cX0_add 49 = .ok (.getfield 27, 3) := by decide +kernel
theorem dX0_add_52 : decode cX0_add 52 = .ok (.iconst 1, 1) := by decide +kernel
theorem dX0_add_53 : decode cX0_add 53 = .ok (.iadd, 1) := by decide +kernel
theorem dX0_add_54 : decode cX0_add 54 = .ok (.putfield 27, 3) := by decide +kernel
theorem dX0_add_57 : decode cX0_add 57 = .ok (.iload 5, 2) := by decide +kernel
theorem dX0_add_59 : decode cX0_add 59 = .ok (.ireturn, 1) := by decide +kernel
theorem dX0_meetsAnother_0 : decode cX0_meetsAnother 0 = .ok (.iconst 0, 1) := by decide +kernel
theorem dX0_meetsAnother_1 : decode cX0_meetsAnother 1 = .ok (.istore 5, 2) := by decide +kernel
theorem dX0_meetsAnother_3 : decode cX0_meetsAnother 3 = .ok (.iload 5, 2) := by decide +kernel
theorem dX0_meetsAnother_5 : decode cX0_meetsAnother 5 = .ok (.aload_n 0, 1) := by decide +kernel
theorem dX0_meetsAnother_6 : decode cX0_meetsAnother 6 = .ok (.getfield 27, 3) := by decide +kernel
theorem dX0_meetsAnother_9 : decode cX0_meetsAnother 9 = .ok (.if_icmp .ge 56, 3) := by decide +kernel
theorem dX0_meetsAnother_12 : decode cX0_meetsAnother 12 = .ok (.aload_n 0, 1) := by decide +kernel
theorem dX0_meetsAnother_13 : decode cX0_meetsAnother 13 = .ok (.getfield 15, 3) := by decide +kernel
theorem dX0_meetsAnother_16 : decode cX0_meetsAnother 16 = .ok (.iload 5, 2) := by decide +kernel
theorem dX0_meetsAnother_18 : decode cX0_meetsAnother 18 = .ok (.iaload, 1) := by decide +kernel
theorem dX0_meetsAnother_19 : decode cX0_meetsAnother 19 = .ok (.iload_n 2, 1) := by decide +kernel
theorem dX0_meetsAnother_20 : decode cX0_meetsAnother 20 = .ok (.if_icmp .ne 39, 3) := by decide +kernel
theorem dX0_meetsAnother_23 : decode cX0_meetsAnother 23 = .ok (.aload_n 0, 1) := by decide +kernel
theorem dX0_meetsAnother_24 : decode cX0_meetsAnother 24 = .ok (.getfield 9, 3) := by decide +kernel
theorem dX0_meetsAnother_27 : decode cX0_meetsAnother 27 = .ok (.iload 5, 2) := by decide +kernel
theorem dX0_meetsAnother_29 : decode cX0_meetsAnother 29 = .ok (.iaload, 1) := by decide +kernel
theorem dX0_meetsAnother_30 : decode cX0_meetsAnother 30 = .ok (.iload_n 1, 1) := by decide +kernel
theorem dX0_meetsAnother_31 : decode cX0_meetsAnother 31 = .ok (.if_icmp .eq 28, 3) := by decide +kernel
theorem dX0_meetsAnother_34 : decode cX0_meetsAnother 34 = .ok (.aload_n 0, 1) := by decide +kernel
theorem dX0_meetsAnother_35 : decode cX0_meetsAnother 35 = .ok (.getfield 18, 3) := by decide +kernel
theorem dX0_meetsAnother_38 : decode cX0_meetsAnother 38 = .ok (.iload 5, 2) := by decide +kernel
theorem dX0_meetsAnother_40 : decode cX0_meetsAnother 40 = .ok (.iaload, 1) := by decide +kernel
theorem dX0_meetsAnother_41 : decode cX0_meetsAnother 41 = .ok (.iload 4, 2) := by decide +kernel
theorem dX0_meetsAnother_43 : decode cX0_meetsAnother 43 = .ok (.if_icmp .gt 16, 3) := by decide +kernel
theorem dX0_meetsAnother_46 : decode cX0_meetsAnother 46 = .ok (.iload_n 3, 1) := by decide +kernel
theorem dX0_meetsAnother_47 : decode cX0_meetsAnother 47 = .ok (.aload_n 0, 1) := by decide +kernel
theorem dX0_meetsAnother_48 : decode cX0_meetsAnother 48 = .ok (.getfield 21, 3) := by decide +kernel
theorem dX0_meetsAnother_51 : decode cX0_meetsAnother 51 = .ok (.iload 5, 2) := by decide +kernel
theorem dX0_meetsAnother_53 : decode cX0_meetsAnother 53 = .ok (.iaload, 1) := by decide +kernel
theorem dX0_meetsAnother_54 : decode cX0_meetsAnother 54 = .ok (.if_icmp .gt 5, 3) := by decide +kernel
theorem dX0_meetsAnother_57 : decode cX0_meetsAnother 57 = .ok (.iconst 1, 1) := by decide +kernel
theorem dX0_meetsAnother_58 : decode cX0_meetsAnother 58 = .ok (.ireturn, 1) := by decide +kernel
theorem dX0_meetsAnother_59 : decode cX0_meetsAnother 59 = .ok (.iinc 5 1, 3) := by decide +kernel
theorem dX0_meetsAnother_62 : decode cX0_meetsAnother 62 = .ok (.goto (-59), 3) := by decide +kernel
theorem dX0_meetsAnother_65 : decode cX0_meetsAnother 65 = .ok (.iconst 0, 1) := by decide +kernel
theorem dX0_meetsAnother_66 : decode cX0_meetsAnother 66 = .ok (.ireturn, 1) := by decide +kernel
set_option maxRecDepth 20000 in
theorem ggX0_isForAnother_X0_isIn : GoodIn wsX0_isForAnother wsX0_isIn := goodIn_r _ [8, 9, 10, 11, 12, 13, 14, 15, 16] (by decide +kernel) (by decide +kernel)
set_option maxRecDepth 20000 in
theorem gX0_isForAnother_X0_isIn : GoodIn wsX0_isForAnother (wsV RX0 31 RX0 yX0_isIn wsX0_isIn) := goodIn_app (goodIn_of _ (by decide +kernel)) ggX0_isForAnother_X0_isIn
theorem dX0_isForAnother_0 : decode cX0_isForAnother 0 = .ok (.iconst 0, 1) := by decide +kernel
theorem dX0_isForAnother_1 : decode cX0_isForAnother 1 = .ok (.istore 4, 2) := by decide +kernel
theorem dX0_isForAnother_3 : decode cX0_isForAnother 3 = .ok (.iload 4, 2) := by decide +kernel
theorem dX0_isForAnother_5 : decode cX0_isForAnother 5 = .ok (.aload_n 0, 1) := by decide +kernel
theorem dX0_isForAnother_6 : decode cX0_isForAnother 6 = .ok (.getfield 27, 3) := by decide +kernel
theorem dX0_isForAnother_9 : decode cX0_isForAnother 9 = .ok (.if_icmp .ge 43, 3) := by decide +kernel
theorem dX0_isForAnother_12 : decode cX0_isForAnother 12 = .ok (.aload_n 0, 1) := by decide +kernel
theorem dX0_isForAnother_13 : decode cX0_isForAnother 13 = .ok (.getfield 15, 3) := by decide +kernel
theorem dX0_isForAnother_16 : decode cX0_isForAnother 16 = .ok (.iload 4, 2) := by decide +kernel
theorem dX0_isForAnother_18 : decode cX0_isForAnother 18 = .ok (.iaload, 1) := by decide +kernel
theorem dX0_isForAnother_19 : decode cX0_isForAnother 19 = .ok (.iload_n 2, 1) := by decide +kernel
theorem dX0_isForAnother_20 : decode cX0_isForAnother 20 = .ok (.if_icmp .ne 26, 3) := by decide +kernel
theorem dX0_isForAnother_23 : decode cX0_isForAnother 23 = .ok (.aload_n 0, 1) := by decide +kernel
theorem dX0_isForAnother_24 : decode cX0_isForAnother 24 = .ok (.getfield 9, 3) := by decide +kernel
theorem dX0_isForAnother_27 : decode cX0_isForAnother 27 = .ok (.iload 4, 2) := by decide +kernel
theorem dX0_isForAnother_29 : decode cX0_isForAnother 29 = .ok (.iaload, 1) := by decide +kernel
theorem dX0_isForAnother_30 : decode cX0_isForAnother 30 = .ok (.iload_n 1, 1) := by decide +kernel
theorem dX0_isForAnother_31 : decode cX0_isForAnother 31 = .ok (.if_icmp .eq 15, 3) := by decide +kernel
theorem dX0_isForAnother_34 : decode cX0_isForAnother 34 = .ok (.aload_n 0, 1) := by decide +kernel
theorem dX0_isForAnother_35 : decode cX0_isForAnother 35 = .ok (.iload 4, 2) := by decide +kernel
theorem dX0_isForAnother_37 : decode cX0_isForAnother 37 = .ok (.iload_n 3, 1) := by decide +kernel
theorem dX0_isForAnother_38 : decode cX0_isForAnother 38 = .ok (.invokevirtual 31, 3) := by decide +kernel
theorem dX0_isForAnother_41 : decode cX0_isForAnother 41 = .ok (.ifCond .eq 5, 3) := by decide +kernel
theorem dX0_isForAnother_44 : decode cX0_isForAnother 44 = .ok (.iconst 1, 1) := by decide +kernel
theorem dX0_isForAnother_45 : decode cX0_isForAnother 45 = .ok (.ireturn, 1) := by decide +kernel
theorem dX0_isForAnother_46 : decode cX0_isForAnother 46 = .ok (.iinc 4 1, 3) := by decide +kernel
theorem dX0_isForAnother_49 : decode cX0_isForAnother 49 = .ok (.goto (-46), 3) := by decide +kernel
theorem dX0_isForAnother_52 : decode cX0_isForAnother 52 = .ok (.iconst 0, 1) := by decide +kernel
theorem dX0_isForAnother_53 : decode cX0_isForAnother 53 = .ok (.ireturn, 1) := by decide +kernel
set_option maxRecDepth 20000 in
theorem ggX0_markMet_X0_isIn : GoodIn wsX0_markMet wsX0_isIn := goodIn_r _ [10, 5, 11, 19, 20, 21, 22, 23, 24] (by decide +kernel) (by decide +kernel)
set_option maxRecDepth 20000 in
theorem gX0_markMet_X0_isIn : GoodIn wsX0_markMet (wsV RX0 31 RX0 yX0_isIn wsX0_isIn) := goodIn_app (goodIn_of _ (by decide +kernel)) ggX0_markMet_X0_isIn
set_option maxRecDepth 20000 in
theorem ggX0_markMet_X3_standingOn : GoodIn wsX0_markMet wsX3_standingOn := goodIn_r _ [16, 17, 18, 25, 26, 27, 28, 29] (by decide +kernel) (by decide +kernel)
set_option maxRecDepth 20000 in
theorem gX0_markMet_X3_standingOn : GoodIn wsX0_markMet (wsV RX0 35 RX3 yX3_standingOn wsX3_standingOn) := goodIn_app (goodIn_of _ (by decide +kernel)) ggX0_markMet_X3_standingOn
theorem dX0_markMet_0 : decode cX0_markMet 0 = .ok (.iconst 0, 1) := by decide +kernel
theorem dX0_markMet_1 : decode cX0_markMet 1 = .ok (.istore_n 3, 1) := by decide +kernel
theorem dX0_markMet_2 : decode cX0_markMet 2 = .ok (.iload_n 3, 1) := by decide +kernel
theorem dX0_markMet_3 : decode cX0_markMet 3 = .ok (.aload_n 0, 1) := by decide +kernel
theorem dX0_markMet_4 : decode cX0_markMet 4 = .ok (.getfield 27, 3) := by decide +kernel
theorem dX0_markMet_7 : decode cX0_markMet 7 = .ok (.if_icmp .ge 61, 3) := by decide +kernel
theorem dX0_markMet_10 : decode cX0_markMet 10 = .ok (.aload_n 0, 1) := by decide +kernel
theorem dX0_markMet_11 : decode cX0_markMet 11 = .ok (.getfield 24, 3) := by decide +kernel
theorem dX0_markMet_14 : decode cX0_markMet 14 = .ok (.iload_n 3, 1) := by decide +kernel
theorem dX0_markMet_15 : decode cX0_markMet 15 = .ok (.iaload, 1) := by decide +kernel
theorem dX0_markMet_16 : decode cX0_markMet 16 = .ok (.iconst (-1), 1) := by decide +kernel
theorem dX0_markMet_17 : decode cX0_markMet 17 = .ok (.if_icmp .ne 45, 3) := by decide +kernel
theorem dX0_markMet_20 : decode cX0_markMet 20 = .ok (.aload_n 0, 1) := by decide +kernel
theorem dX0_markMet_21 : decode cX0_markMet 21 = .ok (.iload_n 3, 1) := by decide +kernel
theorem dX0_markMet_22 : decode cX0_markMet 22 = .ok (.iload_n 2, 1) := by decide +kernel
theorem dX0_markMet_23 : decode cX0_markMet 23 = .ok (.invokevirtual 31, 3) := by decide +kernel
theorem dX0_markMet_26 : decode cX0_markMet 26 = .ok (.ifCond .eq 36, 3) := by decide +kernel
theorem dX0_markMet_29 : decode cX0_markMet 29 = .ok (.aload_n 1, 1) := by decide +kernel
theorem dX0_markMet_30 : decode cX0_markMet 30 = .ok (.aload_n 0, 1) := by decide +kernel
theorem dX0_markMet_31 : decode cX0_markMet 31 = .ok (.getfield 15, 3) := by decide +kernel
theorem dX0_markMet_34 : decode cX0_markMet 34 = .ok (.iload_n 3, 1) := by decide +kernel
theorem dX0_markMet_35 : decode cX0_markMet 35 = .ok (.iaload, 1) := by decide +kernel
theorem dX0_markMet_36 : decode cX0_markMet 36 = .ok (.invokevirtual 35, 3) := by decide +kernel
theorem dX0_markMet_39 : decode cX0_markMet 39 = .ok (.aload_n 0, 1) := by decide +kernel
theorem dX0_markMet_40 : decode cX0_markMet 40 = .ok (.getfield 9, 3) := by decide +kernel
theorem dX0_markMet_43 : decode cX0_markMet 43 = .ok (.iload_n 3, 1) := by decide +kernel
theorem dX0_markMet_44 : decode cX0_markMet 44 = .ok (.iaload, 1) := by decide +kernel
theorem dX0_markMet_45 : decode cX0_markMet 45 = .ok (.if_icmp .ne 17, 3) := by decide +kernel
theorem dX0_markMet_48 : decode cX0_markMet 48 = .ok (.aload_n 0, 1) := by decide +kernel
theorem dX0_markMet_49 : decode cX0_markMet 49 = .ok (.getfield 24, 3) := by decide +kernel
theorem dX0_markMet_52 : decode cX0_markMet 52 = .ok (.iload_n 3, 1) := by decide +kernel
theorem dX0_markMet_53 : decode cX0_markMet 53 = .ok (.iload_n 2, 1) := by decide +kernel
theorem dX0_markMet_54 : decode cX0_markMet 54 = .ok (.aload_n 0, 1) := by decide +kernel
theorem dX0_markMet_55 : decode cX0_markMet 55 = .ok (.getfield 18, 3) := by decide +kernel
theorem dX0_markMet_58 : decode cX0_markMet 58 = .ok (.iload_n 3, 1) := by decide +kernel
theorem dX0_markMet_59 : decode cX0_markMet 59 = .ok (.iaload, 1) := by decide +kernel
theorem dX0_markMet_60 : decode cX0_markMet 60 = .ok (.isub, 1) := by decide +kernel
theorem dX0_markMet_61 : decode cX0_markMet 61 = .ok (.iastore, 1) := by decide +kernel
theorem dX0_markMet_62 : decode cX0_markMet 62 = .ok (.iinc 3 1, 3) := by decide +kernel
theorem dX0_markMet_65 : decode cX0_markMet 65 = .ok (.goto (-63), 3) := by decide +kernel
theorem dX0_markMet_68 : decode cX0_markMet 68 = .ok (.return_, 1) := by decide +kernel
theorem dX0_isIn_0 : decode cX0_isIn 0 = .ok (.aload_n 0, 1) := by decide +kernel
theorem dX0_isIn_1 : decode cX0_isIn 1 = .ok (.getfield 18, 3) := by decide +kernel
theorem dX0_isIn_4 : decode cX0_isIn 4 = .ok (.iload_n 1, 1) := by decide +kernel
theorem dX0_isIn_5 : decode cX0_isIn 5 = .ok (.iaload, 1) := by decide +kernel
theorem dX0_isIn_6 : decode cX0_isIn 6 = .ok (.iload_n 2, 1) := by decide +kernel
theorem dX0_isIn_7 : decode cX0_isIn 7 = .ok (.if_icmp .gt 17, 3) := by decide +kernel
theorem dX0_isIn_10 : decode cX0_isIn 10 = .ok (.iload_n 2, 1) := by decide +kernel
theorem dX0_isIn_11 : decode cX0_isIn 11 = .ok (.aload_n 0, 1) := by decide +kernel
theorem dX0_isIn_12 : decode cX0_isIn 12 = .ok (.getfield 21, 3) := by decide +kernel
theorem dX0_isIn_15 : decode cX0_isIn 15 = .ok (.iload_n 1, 1) := by decide +kernel
theorem dX0_isIn_16 : decode cX0_isIn 16 = .ok (.iaload, 1) := by decide +kernel
theorem dX0_isIn_17 : decode cX0_isIn 17 = .ok (.if_icmp .gt 7, 3) := by decide +kernel
theorem dX0_isIn_20 : decode cX0_isIn 20 = .ok (.iconst 1, 1) := by decide +kernel
theorem dX0_isIn_21 : decode cX0_isIn 21 = .ok (.goto 4, 3) := by decide +kernel
theorem dX0_isIn_24 : decode cX0_isIn 24 = .ok (.iconst 0, 1) := by decide +kernel
theorem dX0_isIn_25 : decode cX0_isIn 25 = .ok (.ireturn, 1) := by decide +kernel
theorem dX1_init_0 : decode cX1_init 0 = .ok (.aload_n 0, 1) := by decide +kernel
theorem dX1_init_1 : decode cX1_init 1 = .ok (.invokespecial 3, 3) := by decide +kernel
theorem dX1_init_4 : decode cX1_init 4 = .ok (.aload_n 0, 1) := by decide +kernel
theorem dX1_init_5 : decode cX1_init 5 = .ok (.bipush 8, 2) := by decide +kernel
theorem dX1_init_7 : decode cX1_init 7 = .ok (.newarray .int, 2) := by decide +kernel
theorem dX1_init_9 : decode cX1_init 9 = .ok (.putfield 9, 3) := by decide +kernel
theorem dX1_init_12 : decode cX1_init 12 = .ok (.aload_n 0, 1) := by decide +kernel
theorem dX1_init_13 : decode cX1_init 13 = .ok (.bipush 8, 2) := by decide +kernel
theorem dX1_init_15 : decode cX1_init 15 = .ok (.newarray .int, 2) := by decide +kernel
theorem dX1_init_17 : decode cX1_init 17 = .ok (.putfield 15, 3) := by decide +kernel
theorem dX1_init_20 : decode cX1_init 20 = .ok (.aload_n 0, 1) := by decide +kernel
theorem dX1_init_21 : decode cX1_init 21 = .ok (.bipush 8, 2) := by decide +kernel
theorem dX1_init_23 : decode cX1_init 23 = .ok (.newarray .int, 2) := by decide +kernel
theorem dX1_init_25 : decode cX1_init 25 = .ok (.putfield 18, 3) := by decide +kernel
theorem dX1_init_28 : decode cX1_init 28 = .ok (.return_, 1) := by decide +kernel
theorem dX1_put_0 : decode cX1_put 0 = .ok (.aload_n 0, 1) := by decide +kernel
theorem dX1_put_1 : decode cX1_put 1 = .ok (.getfield 9, 3) := by decide +kernel
theorem dX1_put_4 : decode cX1_put 4 = .ok (.iload_n 1, 1) := by decide +kernel
theorem dX1_put_5 : decode cX1_put 5 = .ok (.iload_n 2, 1) := by decide +kernel
theorem dX1_put_6 : decode cX1_put 6 = .ok (.iastore, 1) := by decide +kernel
theorem dX1_put_7 : decode cX1_put 7 = .ok (.aload_n 0, 1) := by decide +kernel
theorem dX1_put_8 : decode cX1_put 8 = .ok (.getfield 15, 3) := by decide +kernel
theorem dX1_put_11 : decode cX1_put 11 = .ok (.iload_n 1, 1) := by decide +kernel
theorem dX1_put_12 : decode cX1_put 12 = .ok (.iload_n 3, 1) := by decide +kernel
theorem dX1_put_13 : decode cX1_put 13 = .ok (.iastore, 1) := by decide +kernel
theorem dX1_put_14 : decode cX1_put 14 = .ok (.aload_n 0, 1) := by decide +kernel
theorem dX1_put_15 : decode cX1_put 15 = .ok (.getfield 18, 3) := by decide +kernel
theorem dX1_put_18 : decode cX1_put 18 = .ok (.iload_n 1, 1) := by decide +kernel
theorem dX1_put_19 : decode cX1_put 19 = .ok (.iload 4, 2) := by decide +kernel
theorem dX1_put_21 : decode cX1_put 21 = .ok (.iastore, 1) := by decide +kernel
theorem dX1_put_22 : decode cX1_put 22 = .ok (.return_, 1) := by decide +kernel
set_option maxRecDepth 20000 in
theorem ggX1_settle_X1_begunHours : GoodIn wsX1_settle wsX1_begunHours := goodIn_r _ [11] (by decide +kernel) (by decide +kernel)
set_option maxRecDepth 20000 in
theorem gX1_settle_X1_begunHours : GoodIn wsX1_settle (va_wsS RX1 21 yX1_begunHours wsX1_begunHours) := goodIn_app (goodIn_of _ (by decide +kernel)) ggX1_settle_X1_begunHours
theorem dX1_settle_0 : decode cX1_settle 0 = .ok (.aload_n 0, 1) := by decide +kernel
theorem dX1_settle_1 : decode cX1_settle 1 = .ok (.getfield 9, 3) := by decide +kernel
theorem dX1_settle_4 : decode cX1_settle 4 = .ok (.iload_n 1, 1) := by decide +kernel
theorem dX1_settle_5 : decode cX1_settle 5 = .ok (.iaload, 1) := by decide +kernel
theorem dX1_settle_6 : decode cX1_settle 6 = .ok (.iload_n 2, 1) := by decide +kernel
theorem dX1_settle_7 : decode cX1_settle 7 = .ok (.if_icmp .eq 5, 3) := by decide +kernel
theorem dX1_settle_10 : decode cX1_settle 10 = .ok (.iconst 0, 1) := by decide +kernel
theorem dX1_settle_11 : decode cX1_settle 11 = .ok (.ireturn, 1) := by decide +kernel
theorem dX1_settle_12 : decode cX1_settle 12 = .ok (.aload_n 0, 1) := by decide +kernel
theorem dX1_settle_13 : decode cX1_settle 13 = .ok (.getfield 9, 3) := by decide +kernel
theorem dX1_settle_16 : decode cX1_settle 16 = .ok (.iload_n 1, 1) := by decide +kernel
theorem dX1_settle_17 : decode cX1_settle 17 = .ok (.iconst 0, 1) := by decide +kernel
theorem dX1_settle_18 : decode cX1_settle 18 = .ok (.iastore, 1) := by decide +kernel
theorem dX1_settle_19 : decode cX1_settle 19 = .ok (.iconst 0, 1) := by decide +kernel
theorem dX1_settle_20 : decode cX1_settle 20 = .ok (.aload_n 0, 1) := by decide +kernel
theorem dX1_settle_21 : decode cX1_settle 21 = .ok (.getfield 18, 3) := by decide +kernel
theorem dX1_settle_24 : decode cX1_settle 24 = .ok (.iload_n 1, 1) := by decide +kernel
theorem dX1_settle_25 : decode cX1_settle 25 = .ok (.iaload, 1) := by decide +kernel
theorem dX1_settle_26 : decode cX1_settle 26 = .ok (.bipush 10, 2) := by decide +kernel
theorem dX1_settle_28 : decode cX1_settle 28 = .ok (.iload_n 3, 1) := by decide +kernel
theorem dX1_settle_29 : decode cX1_settle 29 = .ok (.aload_n 0, 1) := by decide +kernel
theorem dX1_settle_30 : decode cX1_settle 30 = .ok (.getfield 15, 3) := by decide +kernel
theorem dX1_settle_33 : decode cX1_settle 33 = .ok (.iload_n 1, 1) := by decide +kernel
theorem dX1_settle_34 : decode cX1_settle 34 = .ok (.iaload, 1) := by decide +kernel
theorem dX1_settle_35 : decode cX1_settle 35 = .ok (.isub, 1) := by decide +kernel
theorem dX1_settle_36 : decode cX1_settle 36 = .ok (.invokestatic 21, 3) := by decide +kernel
theorem dX1_settle_39 : decode cX1_settle 39 = .ok (.imul, 1) := by decide +kernel
theorem dX1_settle_40 : decode cX1_settle 40 = .ok (.isub, 1) := by decide +kernel
theorem dX1_settle_41 : decode cX1_settle 41 = .ok (.invokestatic 25, 3) := by decide +kernel
theorem dX1_settle_44 : decode cX1_settle 44 = .ok (.ireturn, 1) := by decide +kernel
theorem dX1_begunHours_0 : decode cX1_begunHours 0 = .ok (.iload_n 0, 1) := by decide +kernel
theorem dX1_begunHours_1 : decode cX1_begunHours 1 = .ok (.ifCond .le 15, 3) := by decide +kernel
theorem dX1_begunHours_4 : decode cX1_begunHours 4 = .ok (.iload_n 0, 1) := by decide +kernel
theorem dX1_begunHours_5 : decode cX1_begunHours 5 = .ok (.bipush 60, 2) := by decide +kernel
theorem dX1_begunHours_7 : decode cX1_begunHours 7 = .ok (.iadd, 1) := by decide +kernel
theorem dX1_begunHours_8 : decode cX1_begunHours 8 = .ok (.iconst 1, 1) := by decide +kernel
theorem dX1_begunHours_9 : decode cX1_begunHours 9 = .ok (.isub, 1) := by decide +kernel
theorem dX1_begunHours_10 : decode cX1_begunHours 10 = .ok (.bipush 60, 2) := by decide +kernel
theorem dX1_begunHours_12 : decode cX1_begunHours 12 = .ok (.idiv, 1) := by decide +kernel
theorem dX1_begunHours_13 : decode cX1_begunHours 13 = .ok (.goto 4, 3) := by decide +kernel
theorem dX1_begunHours_16 : decode cX1_begunHours 16 = .ok (.iconst 0, 1) := by decide +kernel
theorem dX1_begunHours_17 : decode cX1_begunHours 17 = .ok (.ireturn, 1) := by decide +kernel
theorem dX2_init_0 : decode cX2_init 0 = .ok (.aload_n 0, 1) := by decide +kernel
theorem dX2_init_1 : decode cX2_init 1 = .ok (.invokespecial 3, 3) := by decide +kernel
theorem dX2_init_4 : decode cX2_init 4 = .ok (.aload_n 0, 1) := by decide +kernel
theorem dX2_init_5 : decode cX2_init 5 = .ok (.iconst 2, 1) := by decide +kernel
theorem dX2_init_6 : decode cX2_init 6 = .ok (.newarray .boolean, 2) := by decide +kernel
theorem dX2_init_8 : decode cX2_init 8 = .ok (.putfield 9, 3) := by decide +kernel
theorem dX2_init_11 : decode cX2_init 11 = .ok (.return_, 1) := by decide +kernel
theorem dX2_turn_0 : decode cX2_turn 0 = .ok (.aload_n 0, 1) := by decide +kernel
theorem dX2_turn_1 : decode cX2_turn 1 = .ok (.getfield 9, 3) := by decide +kernel
theorem dX2_turn_4 : decode cX2_turn 4 = .ok (.iload_n 1, 1) := by decide +kernel
theorem dX2_turn_5 : decode cX2_turn 5 = .ok (.aload_n 0, 1) := by decide +kernel
theorem dX2_turn_6 : decode cX2_turn 6 = .ok (.getfield 9, 3) := by decide +kernel
theorem dX2_turn_9 : decode cX2_turn 9 = .ok (.iload_n 1, 1) := by decide +kernel
theorem dX2_turn_10 : decode cX2_turn 10 = .ok (.baload, 1) := by decide +kernel
theorem dX2_turn_11 : decode cX2_turn 11 = .ok (.ifCond .ne 7, 3) := by decide +kernel
theorem dX2_turn_14 : decode cX2_turn 14 = .ok (.iconst 1, 1) := by decide +kernel
theorem dX2_turn_15 : decode cX2_turn 15 = .ok (.goto 4, 3) := by decide +kernel
theorem dX2_turn_18 : decode cX2_turn 18 = .ok (.iconst 0, 1) := by decide +kernel
theorem dX2_turn_19 : decode cX2_turn 19 = .ok (.bastore, 1) := by decide +kernel
theorem dX2_turn_20 : decode cX2_turn 20 = .ok (.aload_n 0, 1) := by decide +kernel
theorem dX2_turn_21 : decode cX2_turn 21 = .ok (.getfield 9, 3) := by decide +kernel
theorem dX2_turn_24 : decode cX2_turn 24 = .ok (.iload_n 1, 1) := by decide +kernel
theorem dX2_turn_25 : decode cX2_turn 25 = .ok (.baload, 1) := by decide +kernel
theorem dX2_turn_26 : decode cX2_turn 26 = .ok (.ireturn, 1) := by decide +kernel
set_option maxRecDepth 20000 in
theorem ggX2_ahead_X2_rightOf : GoodIn wsX2_ahead wsX2_rightOf := goodIn_r _ [5, 6, 11] (by decide +kernel) (by decide +kernel)
set_option maxRecDepth 20000 in
theorem gX2_ahead_X2_rightOf : GoodIn wsX2_ahead (wsV RX2 15 RX2 yX2_rightOf wsX2_rightOf) := goodIn_app (goodIn_of _ (by decide +kernel)) ggX2_ahead_X2_rightOf
set_option maxRecDepth 20000 in
theorem ggX2_ahead_X2_leftOf : GoodIn wsX2_ahead wsX2_leftOf := goodIn_r _ [10, 6, 11] (by decide +kernel) (by decide +kernel)
set_option maxRecDepth 20000 in
theorem gX2_ahead_X2_leftOf : GoodIn wsX2_ahead (wsV RX2 19 RX2 yX2_leftOf wsX2_leftOf) := goodIn_app (goodIn_of _ (by decide +kernel)) ggX2_ahead_X2_leftOf
theorem dX2_ahead_0 : decode cX2_ahead 0 = .ok (.iload_n 2, 1) := by decide +kernel
theorem dX2_ahead_1 : decode cX2_ahead 1 = .ok (.ifCond .eq 11, 3) := by decide +kernel
theorem dX2_ahead_4 : decode cX2_ahead 4 = .ok (.aload_n 0, 1) := by decide +kernel
theorem dX2_ahead_5 : decode cX2_ahead 5 = .ok (.iload_n 1, 1) := by decide +kernel
theorem dX2_ahead_6 : decode cX2_ahead 6 = .ok (.invokevirtual 15, 3) := by decide +kernel
theorem dX2_ahead_9 : decode cX2_ahead 9 = .ok (.goto 8, 3) := by decide +kernel
theorem dX2_ahead_12 : decode cX2_ahead 12 = .ok (.aload_n 0, 1) := by decide +kernel
theorem dX2_ahead_13 : decode cX2_ahead 13 = .ok (.iload_n 1, 1) := by decide +kernel
theorem dX2_ahead_14 : decode cX2_ahead 14 = .ok (.invokevirtual 19, 3) := by decide +kernel
theorem dX2_ahead_17 : decode cX2_ahead 17 = .ok (.ireturn, 1) := by decide +kernel
theorem dX2_rightOf_0 : decode cX2_rightOf 0 = .ok (.iload_n 1, 1) := by decide +kernel
theorem dX2_rightOf_1 : decode cX2_rightOf 1 = .ok (.tableswitch 78 1 7 #[43, 78, 59, 78, 75, 75, 75], 43) := by decide +kernel
theorem dX2_rightOf_44 : decode cX2_rightOf 44 = .ok (.aload_n 0, 1) := by decide +kernel
theorem dX2_rightOf_45 : decode cX2_rightOf 45 = .ok (.getfield 9, 3) := by decide +kernel
theorem dX2_rightOf_48 : decode cX2_rightOf 48 = .ok (.iconst 0, 1) := by decide +kernel
theorem dX2_rightOf_49 : decode cX2_rightOf 49 = .ok (.baload, 1) := by decide +kernel
theorem dX2_rightOf_50 : decode cX2_rightOf 50 = .ok (.ifCond .eq 8, 3) := by decide +kernel
theorem dX2_rightOf_53 : decode cX2_rightOf 53 = .ok (.bipush 6, 2) := by decide +kernel
theorem dX2_rightOf_55 : decode cX2_rightOf 55 = .ok (.goto 4, 3) := by decide +kernel
theorem dX2_rightOf_58 : decode cX2_rightOf 58 = .ok (.iconst 2, 1) := by decide +kernel
theorem dX2_rightOf_59 : decode cX2_rightOf 59 = .ok (.ireturn, 1) := by decide +kernel
theorem dX2_rightOf_60 : decode cX2_rightOf 60 = .ok (.aload_n 0, 1) := by decide +kernel
theorem dX2_rightOf_61 : decode cX2_rightOf 61 = .ok (.getfield 9, 3) := by decide +kernel
theorem dX2_rightOf_64 : decode cX2_rightOf 64 = .ok (.iconst 1, 1) := by decide +kernel
theorem dX2_rightOf_65 : decode cX2_rightOf 65 = .ok (.baload, 1) := by decide +kernel
theorem dX2_rightOf_66 : decode cX2_rightOf 66 = .ok (.ifCond .eq 8, 3) := by decide +kernel
theorem dX2_rightOf_69 : decode cX2_rightOf 69 = .ok (.bipush 7, 2) := by decide +kernel
theorem dX2_rightOf_71 : decode cX2_rightOf 71 = .ok (.goto 4, 3) := by decide +kernel
theorem dX2_rightOf_74 : decode cX2_rightOf 74 = .ok (.iconst 4, 1) := by decide +kernel
theorem dX2_rightOf_75 : decode cX2_rightOf 75 = .ok (.ireturn, 1) := by decide +kernel
theorem dX2_rightOf_76 : decode cX2_rightOf 76 = .ok (.bipush (-2), 2) := by decide +kernel
theorem dX2_rightOf_78 : decode cX2_rightOf 78 = .ok (.ireturn, 1) := by decide +kernel
theorem dX2_rightOf_79 : decode cX2_rightOf 79 = .ok (.iload_n 1, 1) := by decide +kernel
theorem dX2_rightOf_80 : decode cX2_rightOf 80 = .ok (.iconst 1, 1) := by decide +kernel
theorem dX2_rightOf_81 : decode cX2_rightOf 81 = .ok (.iadd, 1) := by decide +kernel
theorem dX2_rightOf_82 : decode cX2_rightOf 82 = .ok (.ireturn, 1) := by decide +kernel
theorem dX2_leftOf_0 : decode cX2_leftOf 0 = .ok (.iload_n 1, 1) := by decide +kernel
theorem dX2_leftOf_1 : decode cX2_leftOf 1 = .ok (.tableswitch 110 0 7 #[47, 110, 50, 110, 65, 110, 80, 95], 47) := by decide +kernel
theorem dX2_leftOf_48 : decode cX2_leftOf 48 = .ok (.bipush (-2), 2) := by decide +kernel
theorem dX2_leftOf_50 : decode cX2_leftOf 50 = .ok (.ireturn, 1) := by decide +kernel
theorem dX2_leftOf_51 : decode cX2_leftOf 51 = .ok (.aload_n 0, 1) := by decide +kernel
theorem dX2_leftOf_52 : decode cX2_leftOf 52 = .ok (.getfield 9, 3) := by decide +kernel
theorem dX2_leftOf_55 : decode cX2_leftOf 55 = .ok (.iconst 0, 1) := by decide +kernel
theorem dX2_leftOf_56 : decode cX2_leftOf 56 = .ok (.baload, 1) := by decide +kernel
theorem dX2_leftOf_57 : decode cX2_leftOf 57 = .ok (.ifCond .eq 7, 3) := by decide +kernel
theorem dX2_leftOf_60 : decode cX2_leftOf 60 = .ok (.iconst (-1), 1) := by decide +kernel
theorem dX2_leftOf_61 : decode cX2_leftOf 61 = .ok (.goto 4, 3) := by decide +kernel
theorem dX2_leftOf_64 : decode cX2_leftOf 64 = .ok (.iconst 1, 1) := by decide +kernel
theorem dX2_leftOf_65 : decode cX2_leftOf 65 = .ok (.ireturn, 1) := by decide +kernel
theorem dX2_leftOf_66 : decode cX2_leftOf 66 = .ok (.aload_n 0, 1) := by decide +kernel
theorem dX2_leftOf_67 : decode cX2_leftOf 67 = .ok (.getfield 9, 3) := by decide +kernel
theorem dX2_leftOf_70 : decode cX2_leftOf 70 = .ok (.iconst 1, 1) := by decide +kernel
theorem dX2_leftOf_71 : decode cX2_leftOf 71 = .ok (.baload, 1) := by decide +kernel
theorem dX2_leftOf_72 : decode cX2_leftOf 72 = .ok (.ifCond .eq 7, 3) := by decide +kernel
theorem dX2_leftOf_75 : decode cX2_leftOf 75 = .ok (.iconst (-1), 1) := by decide +kernel
theorem dX2_leftOf_76 : decode cX2_leftOf 76 = .ok (.goto 4, 3) := by decide +kernel
theorem dX2_leftOf_79 : decode cX2_leftOf 79 = .ok (.iconst 3, 1) := by decide +kernel
theorem dX2_leftOf_80 : decode cX2_leftOf 80 = .ok (.ireturn, 1) := by decide +kernel
theorem dX2_leftOf_81 : decode cX2_leftOf 81 = .ok (.aload_n 0, 1) := by decide +kernel
theorem dX2_leftOf_82 : decode cX2_leftOf 82 = .ok (.getfield 9, 3) := by decide +kernel
theorem dX2_leftOf_85 : decode cX2_leftOf 85 = .ok (.iconst 0, 1) := by decide +kernel
theorem dX2_leftOf_86 : decode cX2_leftOf 86 = .ok (.baload, 1) := by decide +kernel
theorem dX2_leftOf_87 : decode cX2_leftOf 87 = .ok (.ifCond .eq 7, 3) := by decide +kernel
theorem dX2_leftOf_90 : decode cX2_leftOf 90 = .ok (.iconst 1, 1) := by decide +kernel
theorem dX2_leftOf_91 : decode cX2_leftOf 91 = .ok (.goto 4, 3) := by decide +kernel
theorem dX2_leftOf_94 : decode cX2_leftOf 94 = .ok (.iconst (-1), 1) := by decide +kernel
theorem dX2_leftOf_95 : decode cX2_leftOf 95 = .ok (.ireturn, 1) := by decide +kernel
theorem dX2_leftOf_96 : decode cX2_leftOf 96 = .ok (.aload_n 0, 1) := by decide +kernel
theorem dX2_leftOf_97 : decode cX2_leftOf 97 = .ok (.getfield 9, 3) := by decide +kernel
theorem dX2_leftOf_100 : decode cX2_leftOf 100 = .ok (.iconst 1, 1) := by decide +kernel
theorem dX2_leftOf_101 : decode cX2_leftOf 101 = .ok (.baload, 1) := by decide +kernel
theorem dX2_leftOf_102 : decode cX2_leftOf 102 = .ok (.ifCond .eq 7, 3) := by decide +kernel
theorem dX2_leftOf_105 : decode cX2_leftOf 105 = .ok (.iconst 3, 1) := by decide +kernel
theorem dX2_leftOf_106 : decode cX2_leftOf 106 = .ok (.goto 4, 3) := by decide +kernel
theorem dX2_leftOf_109 : decode cX2_leftOf 109 = .ok (.iconst (-1), 1) := by decide +kernel
theorem dX2_leftOf_110 : decode cX2_leftOf 110 = .ok (.ireturn, 1) := by decide +kernel
theorem dX2_leftOf_111 : decode cX2_leftOf 111 = .ok (.iload_n 1, 1) := by decide +kernel
theorem dX2_leftOf_112 : decode cX2_leftOf 112 = .ok (.iconst 1, 1) := by decide +kernel
theorem dX2_leftOf_113 : decode cX2_leftOf 113 = .ok (.isub, 1) := by decide +kernel
theorem dX2_leftOf_114 : decode cX2_leftOf 114 = .ok (.ireturn, 1) := by decide +kernel
theorem dX3_init_0 : decode cX3_init 0 = .ok (.aload_n 0, 1) := by decide +kernel
theorem dX3_init_1 : decode cX3_init 1 = .ok (.invokespecial 3, 3) := by decide +kernel
theorem dX3_init_4 : decode cX3_init 4 = .ok (.aload_n 0, 1) := by decide +kernel
theorem dX3_init_5 : decode cX3_init 5 = .ok (.iconst 4, 1) := by decide +kernel
theorem dX3_init_6 : decode cX3_init 6 = .ok (.newarray .int, 2) := by decide +kernel
theorem dX3_init_8 : decode cX3_init 8 = .ok (.putfield 9, 3) := by decide +kernel
theorem dX3_init_11 : decode cX3_init 11 = .ok (.aload_n 0, 1) := by decide +kernel
theorem dX3_init_12 : decode cX3_init 12 = .ok (.iconst 4, 1) := by decide +kernel
theorem dX3_init_13 : decode cX3_init 13 = .ok (.newarray .boolean, 2) := by decide +kernel
theorem dX3_init_15 : decode cX3_init 15 = .ok (.putfield 15, 3) := by decide +kernel
theorem dX3_init_18 : decode cX3_init 18 = .ok (.aload_n 0, 1) := by decide +kernel
theorem dX3_init_19 : decode cX3_init 19 = .ok (.iconst 4, 1) := by decide +kernel
theorem dX3_init_20 : decode cX3_init 20 = .ok (.newarray .boolean, 2) := by decide +kernel
theorem dX3_init_22 : decode cX3_init 22 = .ok (.putfield 19, 3) := by decide +kernel
theorem dX3_init_25 : decode cX3_init 25 = .ok (.aload_n 0, 1) := by decide +kernel
theorem dX3_init_26 : decode cX3_init 26 = .ok (.iconst 4, 1) := by decide +kernel
theorem dX3_init_27 : decode cX3_init 27 = .ok (.newarray .int, 2) := by decide +kernel
theorem dX3_init_29 : decode cX3_init 29 = .ok (.putfield 22, 3) := by decide +kernel
theorem dX3_init_32 : decode cX3_init 32 = .ok (.return_, 1) := by decide +kernel
theorem dX3_add_0 : decode cX3_add 0 = .ok (.aload_n 0, 1) := by decide +kernel
theorem dX3_add_1 : decode cX3_add 1 = .ok (.getfield 25, 3) := by decide +kernel
theorem dX3_add_4 : decode cX3_add 4 = .ok (.istore_n 3, 1) := by decide +kernel
theorem dX3_add_5 : decode cX3_add 5 = .ok (.aload_n 0, 1) := by decide +kernel
theorem dX3_add_6 : decode cX3_add 6 = .ok (.getfield 9, 3) := by decide +kernel
theorem dX3_add_9 : decode cX3_add 9 = .ok (.iload_n 3, 1) := by decide +kernel
theorem dX3_add_10 : decode cX3_add 10 = .ok (.iload_n 1, 1) := by decide +kernel
theorem dX3_add_11 : decode cX3_add 11 = .ok (.iastore, 1) := by decide +kernel
theorem dX3_add_12 : decode cX3_add 12 = .ok (.aload_n 0, 1) := by decide +kernel
theorem dX3_add_13 : decode cX3_add 13 = .ok (.getfield 15, 3) := by decide +kernel
theorem dX3_add_16 : decode cX3_add 16 = .ok (.iload_n 3, 1) := by decide +kernel
theorem dX3_add_17 : decode cX3_add 17 = .ok (.iload_n 2, 1) := by decide +kernel
theorem dX3_add_18 : decode cX3_add 18 = .ok (.bastore, 1) := by decide +kernel
theorem dX3_add_19 : decode cX3_add 19 = .ok (.aload_n 0, 1) := by decide +kernel
theorem dX3_add_20 : decode cX3_add 20 = .ok (.dup, 1) := by decide +kernel
theorem dX3_add_21 : decode cX3_add 21 = .ok (.getfield 25, 3) := by decide +kernel
theorem dX3_add_24 : decode cX3_add 24 = .ok (.iconst 1, 1) := by decide +kernel
theorem dX3_add_25 : decode cX3_add 25 = .ok (.iadd, 1) := by decide +kernel
theorem dX3_add_26 : decode cX3_add 26 = .ok (.putfield 25, 3) := by decide +kernel
theorem dX3_add_29 : decode cX3_add 29 = .ok (.iload_n 3, 1) := by decide +kernel
theorem dX3_add_30 : decode cX3_add 30 = .ok (.ireturn, 1) := by decide +kernel
theorem dX3_standingOn_0 : decode cX3_standingOn 0 = .ok (.iconst 0, 1) := by decide +kernel
theorem dX3_standingOn_1 : decode cX3_standingOn 1 = .ok (.istore_n 2, 1) := by decide +kernel
theorem dX3_standingOn_2 : decode cX3_standingOn 2 = .ok (.iload_n 2, 1) := by decide +kernel
theorem dX3_standingOn_3 : decode cX3_standingOn 3 = .ok (.aload_n 0, 1) := by decide +kernel
theorem dX3_standingOn_4 : decode cX3_standingOn 4 = .ok (.getfield 25, 3) := by decide +kernel
theorem dX3_standingOn_7 : decode cX3_standingOn 7 = .ok (.if_icmp .ge 21, 3) := by decide +kernel
theorem dX3_standingOn_10 : decode cX3_standingOn 10 = .ok (.aload_n 0, 1) := by decide +kernel
theorem dX3_standingOn_11 : decode cX3_standingOn 11 = .ok (.getfield 9, 3) := by decide +kernel
theorem dX3_standingOn_14 : decode cX3_standingOn 14 = .ok (.iload_n 2, 1) := by decide +kernel
theorem dX3_standingOn_15 : decode cX3_standingOn 15 = .ok (.iaload, 1) := by decide +kernel
theorem dX3_standingOn_16 : decode cX3_standingOn 16 = .ok (.iload_n 1, 1) := by decide +kernel
theorem dX3_standingOn_17 : decode cX3_standingOn 17 = .ok (.if_icmp .ne 5, 3) := by decide +kernel
theorem dX3_standingOn_20 : decode cX3_standingOn 20 = .ok (.iload_n 2, 1) := by decide +kernel
theorem dX3_standingOn_21 : decode cX3_standingOn 21 = .ok (.ireturn, 1) := by decide +kernel
theorem dX3_standingOn_22 : decode cX3_standingOn 22 = .ok (.iinc 2 1, 3) := by decide +kernel
theorem dX3_standingOn_25 : decode cX3_standingOn 25 = .ok (.goto (-23), 3) := by decide +kernel
theorem dX3_standingOn_28 : decode cX3_standingOn 28 = .ok (.iconst (-1), 1) := by decide +kernel
theorem dX3_standingOn_29 : decode cX3_standingOn 29 = .ok (.ireturn, 1) := by decide +kernel
theorem dX3_turnRound_0 : decode cX3_turnRound 0 = .ok (.aload_n 0, 1) := by decide +kernel
theorem dX3_turnRound_1 : decode cX3_turnRound 1 = .ok (.getfield 15, 3) := by decide +kernel
theorem dX3_turnRound_4 : decode cX3_turnRound 4 = .ok (.iload_n 1, 1) := by decide +kernel
theorem dX3_turnRound_5 : decode cX3_turnRound 5 = .ok (.aload_n 0, 1) := by decide +kernel
theorem dX3_turnRound_6 : decode cX3_turnRound 6 = .ok (.getfield 15, 3) := by decide +kernel
theorem dX3_turnRound_9 : decode cX3_turnRound 9 = .ok (.iload_n 1, 1) := by decide +kernel
theorem dX3_turnRound_10 : decode cX3_turnRound 10 = .ok (.baload, 1) := by decide +kernel
theorem dX3_turnRound_11 : decode cX3_turnRound 11 = .ok (.ifCond .ne 7, 3) := by decide +kernel
theorem dX3_turnRound_14 : decode cX3_turnRound 14 = .ok (.iconst 1, 1) := by decide +kernel
theorem dX3_turnRound_15 : decode cX3_turnRound 15 = .ok (.goto 4, 3) := by decide +kernel
theorem dX3_turnRound_18 : decode cX3_turnRound 18 = .ok (.iconst 0, 1) := by decide +kernel
theorem dX3_turnRound_19 : decode cX3_turnRound 19 = .ok (.bastore, 1) := by decide +kernel
theorem dX3_turnRound_20 : decode cX3_turnRound 20 = .ok (.aload_n 0, 1) := by decide +kernel
theorem dX3_turnRound_21 : decode cX3_turnRound 21 = .ok (.getfield 15, 3) := by decide +kernel
theorem dX3_turnRound_24 : decode cX3_turnRound 24 = .ok (.iload_n 1, 1) := by decide +kernel
theorem dX3_turnRound_25 : decode cX3_turnRound 25 = .ok (.baload, 1) := by decide +kernel
theorem dX3_turnRound_26 : decode cX3_turnRound 26 = .ok (.ireturn, 1) := by decide +kernel
theorem dX3_copyFrom_0 : decode cX3_copyFrom 0 = .ok (.aload_n 0, 1) := by decide +kernel
theorem dX3_copyFrom_1 : decode cX3_copyFrom 1 = .ok (.aload_n 1, 1) := by decide +kernel
theorem dX3_copyFrom_2 : decode cX3_copyFrom 2 = .ok (.getfield 25, 3) := by decide +kernel
theorem dX3_copyFrom_5 : decode cX3_copyFrom 5 = .ok (.putfield 25, 3) := by decide +kernel
theorem dX3_copyFrom_8 : decode cX3_copyFrom 8 = .ok (.iconst 0, 1) := by decide +kernel
theorem dX3_copyFrom_9 : decode cX3_copyFrom 9 = .ok (.istore_n 2, 1) := by decide +kernel
theorem dX3_copyFrom_10 : decode cX3_copyFrom 10 = .ok (.iload_n 2, 1) := by decide +kernel
theorem dX3_copyFrom_11 : decode cX3_copyFrom 11 = .ok (.aload_n 0, 1) := by decide +kernel
theorem dX3_copyFrom_12 : decode cX3_copyFrom 12 = .ok (.getfield 25, 3) := by decide +kernel
theorem dX3_copyFrom_15 : decode cX3_copyFrom 15 = .ok (.if_icmp .ge 57, 3) := by decide +kernel
theorem dX3_copyFrom_18 : decode cX3_copyFrom 18 = .ok (.aload_n 0, 1) := by decide +kernel
theorem dX3_copyFrom_19 : decode cX3_copyFrom 19 = .ok (.getfield 9, 3) := by decide +kernel
theorem dX3_copyFrom_22 : decode cX3_copyFrom 22 = .ok (.iload_n 2, 1) := by decide +kernel
theorem dX3_copyFrom_23 : decode cX3_copyFrom 23 = .ok (.aload_n 1, 1) := by decide +kernel
theorem dX3_copyFrom_24 : decode cX3_copyFrom 24 = .ok (.getfield 9, 3) := by decide +kernel
theorem dX3_copyFrom_27 : decode cX3_copyFrom 27 = .ok (.iload_n 2, 1) := by decide +kernel
theorem dX3_copyFrom_28 : decode cX3_copyFrom 28 = .ok (.iaload, 1) := by decide +kernel
theorem dX3_copyFrom_29 : decode cX3_copyFrom 29 = .ok (.iastore, 1) := by decide +kernel
theorem dX3_copyFrom_30 : decode cX3_copyFrom 30 = .ok (.aload_n 0, 1) := by decide +kernel
theorem dX3_copyFrom_31 : decode cX3_copyFrom 31 = .ok (.getfield 15, 3) := by decide +kernel
theorem dX3_copyFrom_34 : decode cX3_copyFrom 34 = .ok (.iload_n 2, 1) := by decide +kernel
theorem dX3_copyFrom_35 : decode cX3_copyFrom 35 = .ok (.aload_n 1, 1) := by decide +kernel
theorem dX3_copyFrom_36 : decode cX3_copyFrom 36 = .ok (.getfield 15, 3) := by decide +kernel
theorem dX3_copyFrom_39 : decode cX3_copyFrom 39 = .ok (.iload_n 2, 1) := by decide +kernel
theorem dX3_copyFrom_40 : decode cX3_copyFrom 40 = .ok (.baload, 1) := by decide +kernel
theorem dX3_copyFrom_41 : decode cX3_copyFrom 41 = .ok (.bastore, 1) := by decide +kernel
theorem dX3_copyFrom_42 : decode cX3_copyFrom 42 = .ok (.aload_n 0, 1) := by decide +kernel
theorem dX3_copyFrom_43 : decode cX3_copyFrom 43 = .ok (.getfield 19, 3) := by decide +kernel
theorem dX3_copyFrom_46 : decode cX3_copyFrom 46 = .ok (.iload_n 2, 1) := by decide +kernel
theorem dX3_copyFrom_47 : decode cX3_copyFrom 47 = .ok (.aload_n 1, 1) := by decide +kernel
theorem dX3_copyFrom_48 : decode cX3_copyFrom 48 = .ok (.getfield 19, 3) := by decide +kernel
theorem dX3_copyFrom_51 : decode cX3_copyFrom 51 = .ok (.iload_n 2, 1) := by decide +kernel
theorem dX3_copyFrom_52 : decode cX3_copyFrom 52 = .ok (.baload, 1) := by decide +kernel
theorem dX3_copyFrom_53 : decode cX3_copyFrom 53 = .ok (.bastore, 1) := by decide +kernel
theorem dX3_copyFrom_54 : decode cX3_copyFrom 54 = .ok (.aload_n 0, 1) := by decide +kernel
theorem dX3_copyFrom_55 : decode cX3_copyFrom 55 = .ok (.getfield 22, 3) := by decide +kernel
theorem dX3_copyFrom_58 : decode cX3_copyFrom 58 = .ok (.iload_n 2, 1) := by decide +kernel
theorem dX3_copyFrom_59 : decode cX3_copyFrom 59 = .ok (.aload_n 1, 1) := by decide +kernel
theorem dX3_copyFrom_60 : decode cX3_copyFrom 60 = .ok (.getfield 22, 3) := by decide +kernel
theorem dX3_copyFrom_63 : decode cX3_copyFrom 63 = .ok (.iload_n 2, 1) := by decide +kernel
theorem dX3_copyFrom_64 : decode cX3_copyFrom 64 = .ok (.iaload, 1) := by decide +kernel
theorem dX3_copyFrom_65 : decode cX3_copyFrom 65 = .ok (.iastore, 1) := by decide +kernel
theorem dX3_copyFrom_66 : decode cX3_copyFrom 66 = .ok (.iinc 2 1, 3) := by decide +kernel
theorem dX3_copyFrom_69 : decode cX3_copyFrom 69 = .ok (.goto (-59), 3) := by decide +kernel
theorem dX3_copyFrom_72 : decode cX3_copyFrom 72 = .ok (.return_, 1) := by decide +kernel
set_option maxRecDepth 20000 in
theorem ggX3_runMinute_X3_step : GoodIn wsX3_runMinute wsX3_step := goodIn_r _ [6, 7, 8, 9, 10, 11, 12, 13, 14, 15, 16, 17, 18, 19, 20, 21, 22, 23, 24, 25, 26, 27, 5, 28, 29, 30, 31, 32, 1, 33, 34, 35, 36, 37, 38, 39, 40, 41, 42, 43, 44, 45, 46, 47, 48, 49, 50, 51, 52, 53, 54, 55, 56, 57, 58] (by decide +kernel) (by decide +kernel)
set_option maxRecDepth 20000 in
theorem gX3_runMinute_X3_step : GoodIn wsX3_runMinute (wsV RX3 29 RX3 yX3_step wsX3_step) := goodIn_app (goodIn_of _ (by decide +kernel)) ggX3_runMinute_X3_step
theorem dX3_runMinute_0 : decode cX3_runMinute 0 = .ok (.iconst 0, 1) := by decide +kernel
theorem dX3_runMinute_1 : decode cX3_runMinute 1 = .ok (.istore 4, 2) := by decide +kernel
theorem dX3_runMinute_3 : decode cX3_runMinute 3 = .ok (.iconst 0, 1) := by decide +kernel
theorem dX3_runMinute_4 : decode cX3_runMinute 4 = .ok (.istore 5, 2) := by decide +kernel
theorem dX3_runMinute_6 : decode cX3_runMinute 6 = .ok (.iload 5, 2) := by decide +kernel
theorem dX3_runMinute_8 : decode cX3_runMinute 8 = .ok (.aload_n 0, 1) := by decide +kernel
theorem dX3_runMinute_9 : decode cX3_runMinute 9 = .ok (.getfield 25, 3) := by decide +kernel
theorem dX3_runMinute_12 : decode cX3_runMinute 12 = .ok (.if_icmp .ge 24, 3) := by decide +kernel
theorem dX3_runMinute_15 : decode cX3_runMinute 15 = .ok (.aload_n 0, 1) := by decide +kernel
theorem dX3_runMinute_16 : decode cX3_runMinute 16 = .ok (.iload 5, 2) := by decide +kernel
theorem dX3_runMinute_18 : decode cX3_runMinute 18 = .ok (.aload_n 1, 1) := by decide +kernel
theorem dX3_runMinute_19 : decode cX3_runMinute 19 = .ok (.aload_n 2, 1) := by decide +kernel
theorem dX3_runMinute_20 : decode cX3_runMinute 20 = .ok (.iload_n 3, 1) := by decide +kernel
theorem dX3_runMinute_21 : decode cX3_runMinute 21 = .ok (.invokevirtual 29, 3) := by decide +kernel
theorem dX3_runMinute_24 : decode cX3_runMinute 24 = .ok (.ifCond .eq 6, 3) := by decide +kernel
theorem dX3_runMinute_27 : decode cX3_runMinute 27 = .ok (.iinc 4 1, 3) := by decide +kernel
theorem dX3_runMinute_30 : decode cX3_runMinute 30 = .ok (.iinc 5 1, 3) := by decide +kernel
theorem dX3_runMinute_33 : decode cX3_runMinute 33 = .ok (.goto (-27), 3) := by decide +kernel
theorem dX3_runMinute_36 : decode cX3_runMinute 36 = .ok (.iload 4, 2) := by decide +kernel
theorem dX3_runMinute_38 : decode cX3_runMinute 38 = .ok (.ireturn, 1) := by decide +kernel
set_option maxRecDepth 20000 in
theorem ggX3_step_X2_ahead : GoodIn wsX3_step wsX2_ahead := goodIn_r _ [9, 10, 11, 12, 8, 13, 14, 15, 16, 17, 18, 48] (by decide +kernel) (by decide +kernel)
set_option maxRecDepth 20000 in
theorem gX3_step_X2_ahead : GoodIn wsX3_step (wsV RX3 33 RX2 yX2_ahead wsX2_ahead) := goodIn_app (goodIn_of _ (by decide +kernel)) ggX3_step_X2_ahead
set_option maxRecDepth 20000 in
theorem ggX3_step_X3_turnRound : GoodIn wsX3_step wsX3_turnRound := goodIn_r _ [23, 4, 43, 44, 45, 46, 47] (by decide +kernel) (by decide +kernel)
set_option maxRecDepth 20000 in
theorem gX3_step_X3_turnRound : GoodIn wsX3_step (wsV RX3 39 RX3 yX3_turnRound wsX3_turnRound) := goodIn_app (goodIn_of _ (by decide +kernel)) ggX3_step_X3_turnRound
set_option maxRecDepth 20000 in
theorem ggX3_step_X3_standingOn : GoodIn wsX3_step wsX3_standingOn := goodIn_r _ [27, 28, 3, 43, 44, 45, 46, 47] (by decide +kernel) (by decide +kernel)
set_option maxRecDepth 20000 in
theorem gX3_step_X3_standingOn : GoodIn wsX3_step (wsV RX3 43 RX3 yX3_standingOn wsX3_standingOn) := goodIn_app (goodIn_of _ (by decide +kernel)) ggX3_step_X3_standingOn
set_option maxRecDepth 20000 in
theorem ggX3_step_X0_isForAnother : GoodIn wsX3_step wsX0_isForAnother := goodIn_r _ [33, 34, 35, 36, 37, 38, 39, 32, 40, 41, 42, 49, 50, 51, 52, 53, 54] (by decide +kernel) (by decide +kernel)
set_option maxRecDepth 20000 in
theorem gX3_step_X0_isForAnother : GoodIn wsX3_step (wsV RX3 47 RX0 yX0_isForAnother wsX0_isForAnother) := goodIn_app (goodIn_of _ (by decide +kernel)) ggX3_step_X0_isForAnother
theorem dX3_step_0 : decode cX3_step 0 = .ok (.aload_n 0, 1) := by decide +kernel
theorem dX3_step_1 : decode cX3_step 1 = .ok (.getfield 22, 3) := by decide +kernel
theorem dX3_step_4 : decode cX3_step 4 = .ok (.iload_n 1, 1) := by decide +kernel
theorem dX3_step_5 : decode cX3_step 5 = .ok (.iaload, 1) := by decide +kernel
theorem dX3_step_6 : decode cX3_step 6 = .ok (.ifCond .le 15, 3) := by decide +kernel
theorem dX3_step_9 : decode cX3_step 9 = .ok (.aload_n 0, 1) := by decide +kernel
theorem dX3_step_10 : decode cX3_step 10 = .ok (.getfield 22, 3) := by decide +kernel
theorem dX3_step_13 : decode cX3_step 13 = .ok (.iload_n 1, 1) := by decide +kernel
theorem dX3_step_14 : decode cX3_step 14 = .ok (.dup2, 1) := by decide +kernel
theorem dX3_step_15 : decode cX3_step 15 = .ok (.iaload, 1) := by decide +kernel
theorem dX3_step_16 : decode cX3_step 16 = .ok (.iconst 1, 1) := by decide +kernel
theorem dX3_step_17 : decode cX3_step 17 = .ok (.isub, 1) := by decide +kernel
theorem dX3_step_18 : decode cX3_step 18 = .ok (.iastore, 1) := by decide +kernel
theorem dX3_step_19 : decode cX3_step 19 = .ok (.iconst 0, 1) := by decide +kernel
theorem dX3_step_20 : decode cX3_step 20 = .ok (.ireturn, 1) := by decide +kernel
theorem dX3_step_21 : decode cX3_step 21 = .ok (.aload_n 0, 1) := by decide +kernel
theorem dX3_step_22 : decode cX3_step 22 = .ok (.getfield 19, 3) := by decide +kernel
theorem dX3_step_25 : decode cX3_step 25 = .ok (.iload_n 1, 1) := by decide +kernel
theorem dX3_step_26 : decode cX3_step 26 = .ok (.baload, 1) := by decide +kernel
theorem dX3_step_27 : decode cX3_step 27 = .ok (.ifCond .eq 5, 3) := by decide +kernel
theorem dX3_step_30 : decode cX3_step 30 = .ok (.iconst 0, 1) := by decide +kernel
theorem dX3_step_31 : decode cX3_step 31 = .ok (.ireturn, 1) := by decide +kernel
theorem dX3_step_32 : decode cX3_step 32 = .ok (.aload_n 2, 1) := by decide +kernel
theorem dX3_step_33 : decode cX3_step 33 = .ok (.aload_n 0, 1) := by decide +kernel
theorem dX3_step_34 : decode cX3_step 34 = .ok (.getfield 9, 3) := by decide +kernel
theorem dX3_step_37 : decode cX3_step 37 = .ok (.iload_n 1, 1) := by decide +kernel
theorem dX3_step_38 : decode cX3_step 38 = .ok (.iaload, 1) := by decide +kernel
theorem dX3_step_39 : decode cX3_step 39 = .ok (.aload_n 0, 1) := by decide +kernel
theorem dX3_step_40 : decode cX3_step 40 = .ok (.getfield 15, 3) := by decide +kernel
theorem dX3_step_43 : decode cX3_step 43 = .ok (.iload_n 1, 1) := by decide +kernel
theorem dX3_step_44 : decode cX3_step 44 = .ok (.baload, 1) := by decide +kernel
theorem dX3_step_45 : decode cX3_step 45 = .ok (.invokevirtual 33, 3) := by decide +kernel
theorem dX3_step_48 : decode cX3_step 48 = .ok (.istore 5, 2) := by decide +kernel
theorem dX3_step_50 : decode cX3_step 50 = .ok (.iload 5, 2) := by decide +kernel
theorem dX3_step_52 : decode cX3_step 52 = .ok (.bipush (-2), 2) := by decide +kernel
theorem dX3_step_54 : decode cX3_step 54 = .ok (.if_icmp .ne 11, 3) := by decide +kernel
theorem dX3_step_57 : decode cX3_step 57 = .ok (.aload_n 0, 1) := by decide +kernel
theorem dX3_step_58 : decode cX3_step 58 = .ok (.iload_n 1, 1) := by decide +kernel
theorem dX3_step_59 : decode cX3_step 59 = .ok (.invokevirtual 39, 3) := by decide +kernel
theorem dX3_step_62 : decode cX3_step 62 = .ok (.pop, 1) := by decide +kernel
theorem dX3_step_63 : decode cX3_step 63 = .ok (.iconst 0, 1) := by decide +kernel
theorem dX3_step_64 : decode cX3_step 64 = .ok (.ireturn, 1) := by decide +kernel
theorem dX3_step_65 : decode cX3_step 65 = .ok (.iload 5, 2) := by decide +kernel
theorem dX3_step_67 : decode cX3_step 67 = .ok (.iconst (-1), 1) := by decide +kernel
theorem dX3_step_68 : decode cX3_step 68 = .ok (.if_icmp .eq 25, 3) := by decide +kernel
theorem dX3_step_71 : decode cX3_step 71 = .ok (.aload_n 0, 1) := by decide +kernel
theorem dX3_step_72 : decode cX3_step 72 = .ok (.iload 5, 2) := by decide +kernel
theorem dX3_step_74 : decode cX3_step 74 = .ok (.invokevirtual 43, 3) := by decide +kernel
theorem dX3_step_77 : decode cX3_step 77 = .ok (.iconst (-1), 1) := by decide +kernel
theorem dX3_step_78 : decode cX3_step 78 = .ok (.if_icmp .ne 15, 3) := by decide +kernel
theorem dX3_step_81 : decode cX3_step 81 = .ok (.aload_n 3, 1) := by decide +kernel
theorem dX3_step_82 : decode cX3_step 82 = .ok (.iload_n 1, 1) := by decide +kernel
theorem dX3_step_83 : decode cX3_step 83 = .ok (.iload 5, 2) := by decide +kernel
theorem dX3_step_85 : decode cX3_step 85 = .ok (.iload 4, 2) := by decide +kernel
theorem dX3_step_87 : decode cX3_step 87 = .ok (.invokevirtual 47, 3) := by decide +kernel
theorem dX3_step_90 : decode cX3_step 90 = .ok (.ifCond .eq 5, 3) := by decide +kernel
theorem dX3_step_93 : decode cX3_step 93 = .ok (.iconst 0, 1) := by decide +kernel
theorem dX3_step_94 : decode cX3_step 94 = .ok (.ireturn, 1) := by decide +kernel
theorem dX3_step_95 : decode cX3_step 95 = .ok (.aload_n 0, 1) := by decide +kernel
theorem dX3_step_96 : decode cX3_step 96 = .ok (.getfield 9, 3) := by decide +kernel
theorem dX3_step_99 : decode cX3_step 99 = .ok (.iload_n 1, 1) := by decide +kernel
theorem dX3_step_100 : decode cX3_step 100 = .ok (.iload 5, 2) := by decide +kernel
theorem dX3_step_102 : decode cX3_step 102 = .ok (.iastore, 1) := by decide +kernel
theorem dX3_step_103 : decode cX3_step 103 = .ok (.iconst 1, 1) := by decide +kernel
theorem dX3_step_104 : decode cX3_step 104 = .ok (.ireturn, 1) := by decide +kernel
theorem dX4_init_0 : decode cX4_init 0 = .ok (.aload_n 0, 1) := by decide +kernel
theorem dX4_init_1 : decode cX4_init 1 = .ok (.invokespecial 3, 3) := by decide +kernel
theorem dX4_init_4 : decode cX4_init 4 = .ok (.aload_n 0, 1) := by decide +kernel
theorem dX4_init_5 : decode cX4_init 5 = .ok (.bipush 8, 2) := by decide +kernel
theorem dX4_init_7 : decode cX4_init 7 = .ok (.newarray .int, 2) := by decide +kernel
theorem dX4_init_9 : decode cX4_init 9 = .ok (.putfield 9, 3) := by decide +kernel
theorem dX4_init_12 : decode cX4_init 12 = .ok (.aload_n 0, 1) := by decide +kernel
theorem dX4_init_13 : decode cX4_init 13 = .ok (.bipush 6, 2) := by decide +kernel
theorem dX4_init_15 : decode cX4_init 15 = .ok (.newarray .int, 2) := by decide +kernel
theorem dX4_init_17 : decode cX4_init 17 = .ok (.putfield 15, 3) := by decide +kernel
theorem dX4_init_20 : decode cX4_init 20 = .ok (.aload_n 0, 1) := by decide +kernel
theorem dX4_init_21 : decode cX4_init 21 = .ok (.bipush 48, 2) := by decide +kernel
theorem dX4_init_23 : decode cX4_init 23 = .ok (.newarray .int, 2) := by decide +kernel
theorem dX4_init_25 : decode cX4_init 25 = .ok (.putfield 18, 3) := by decide +kernel
theorem dX4_init_28 : decode cX4_init 28 = .ok (.return_, 1) := by decide +kernel
theorem dX4_rowOfSiding_0 : decode cX4_rowOfSiding 0 = .ok (.iload_n 0, 1) := by decide +kernel
theorem dX4_rowOfSiding_1 : decode cX4_rowOfSiding 1 = .ok (.bipush 6, 2) := by decide +kernel
theorem dX4_rowOfSiding_3 : decode cX4_rowOfSiding 3 = .ok (.isub, 1) := by decide +kernel
theorem dX4_rowOfSiding_4 : decode cX4_rowOfSiding 4 = .ok (.ireturn, 1) := by decide +kernel
theorem dX4_rowOfTrain_0 : decode cX4_rowOfTrain 0 = .ok (.iconst 2, 1) := by decide +kernel
theorem dX4_rowOfTrain_1 : decode cX4_rowOfTrain 1 = .ok (.iload_n 0, 1) := by decide +kernel
theorem dX4_rowOfTrain_2 : decode cX4_rowOfTrain 2 = .ok (.iadd, 1) := by decide +kernel
theorem dX4_rowOfTrain_3 : decode cX4_rowOfTrain 3 = .ok (.ireturn, 1) := by decide +kernel
set_option maxRecDepth 20000 in
theorem ggX4_add_X4_append : GoodIn wsX4_add wsX4_append := goodIn_r _ [7, 8, 9, 10, 11, 12, 13] (by decide +kernel) (by decide +kernel)
set_option maxRecDepth 20000 in
theorem gX4_add_X4_append : GoodIn wsX4_add (wsV RX4 25 RX4 yX4_append wsX4_append) := goodIn_app (goodIn_of _ (by decide +kernel)) ggX4_add_X4_append
theorem dX4_add_0 : decode cX4_add 0 = .ok (.aload_n 0, 1) := by decide +kernel
theorem dX4_add_1 : decode cX4_add 1 = .ok (.getfield 21, 3) := by decide +kernel
theorem dX4_add_4 : decode cX4_add 4 = .ok (.istore_n 3, 1) := by decide +kernel
theorem dX4_add_5 : decode cX4_add 5 = .ok (.aload_n 0, 1) := by decide +kernel
theorem dX4_add_6 : decode cX4_add 6 = .ok (.getfield 9, 3) := by decide +kernel
theorem dX4_add_9 : decode cX4_add 9 = .ok (.iload_n 3, 1) := by decide +kernel
theorem dX4_add_10 : decode cX4_add 10 = .ok (.iload_n 2, 1) := by decide +kernel
theorem dX4_add_11 : decode cX4_add 11 = .ok (.iastore, 1) := by decide +kernel
theorem dX4_add_12 : decode cX4_add 12 = .ok (.aload_n 0, 1) := by decide +kernel
theorem dX4_add_13 : decode cX4_add 13 = .ok (.dup, 1) := by decide +kernel
theorem dX4_add_14 : decode cX4_add 14 = .ok (.getfield 21, 3) := by decide +kernel
theorem dX4_add_17 : decode cX4_add 17 = .ok (.iconst 1, 1) := by decide +kernel
theorem dX4_add_18 : decode cX4_add 18 = .ok (.iadd, 1) := by decide +kernel
theorem dX4_add_19 : decode cX4_add 19 = .ok (.putfield 21, 3) := by decide +kernel
theorem dX4_add_22 : decode cX4_add 22 = .ok (.aload_n 0, 1) := by decide +kernel
theorem dX4_add_23 : decode cX4_add 23 = .ok (.iload_n 1, 1) := by decide +kernel
theorem dX4_add_24 : decode cX4_add 24 = .ok (.iload_n 3, 1) := by decide +kernel
theorem dX4_add_25 : decode cX4_add 25 = .ok (.invokevirtual 25, 3) := by decide +kernel
theorem dX4_add_28 : decode cX4_add 28 = .ok (.iload_n 3, 1) := by decide +kernel
theorem dX4_add_29 : decode cX4_add 29 = .ok (.ireturn, 1) := by decide +kernel
theorem dX4_fromFirst_0 : decode cX4_fromFirst 0 = .ok (.iload_n 2, 1) := by decide +kernel
theorem dX4_fromFirst_1 : decode cX4_fromFirst 1 = .ok (.aload_n 0, 1) := by decide +kernel
theorem dX4_fromFirst_2 : decode cX4_fromFirst 2 = .ok (.getfield 15, 3) := by decide +kernel
theorem dX4_fromFirst_5 : decode cX4_fromFirst 5 = .ok (.iload_n 1, 1) := by decide +kernel
theorem dX4_fromFirst_6 : decode cX4_fromFirst 6 = .ok (.iaload, 1) := by decide +kernel
theorem dX4_fromFirst_7 : decode cX4_fromFirst 7 = .ok (.if_icmp .ge 17, 3) := by decide +kernel
theorem dX4_fromFirst_10 : decode cX4_fromFirst 10 = .ok (.aload_n 0, 1) := by decide +kernel
theorem dX4_fromFirst_11 : decode cX4_fromFirst 11 = .ok (.getfield 18, 3) := by decide +kernel
theorem dX4_fromFirst_14 : decode cX4_fromFirst 14 = .ok (.iload_n 1, 1) := by decide +kernel
theorem dX4_fromFirst_15 : decode cX4_fromFirst 15 = .ok (.bipush 8, 2) := by decide +kernel
theorem dX4_fromFirst_17 : decode cX4_fromFirst 17 = .ok (.imul, 1) := by decide +kernel
theorem dX4_fromFirst_18 : decode cX4_fromFirst 18 = .ok (.iload_n 2, 1) := by decide +kernel
theorem dX4_fromFirst_19 : decode cX4_fromFirst 19 = .ok (.iadd, 1) := by decide +kernel
theorem dX4_fromFirst_20 : decode cX4_fromFirst 20 = .ok (.iaload, 1) := by decide +kernel
theorem dX4_fromFirst_21 : decode cX4_fromFirst 21 = .ok (.goto 4, 3) := by decide +kernel
theorem dX4_fromFirst_24 : decode cX4_fromFirst 24 = .ok (.iconst (-1), 1) := by decide +kernel
theorem dX4_fromFirst_25 : decode cX4_fromFirst 25 = .ok (.ireturn, 1) := by decide +kernel
theorem dX4_fromLast_0 : decode cX4_fromLast 0 = .ok (.iload_n 2, 1) := by decide +kernel
theorem dX4_fromLast_1 : decode cX4_fromLast 1 = .ok (.aload_n 0, 1) := by decide +kernel
theorem dX4_fromLast_2 : decode cX4_fromLast 2 = .ok (.getfield 15, 3) := by decide +kernel
theorem dX4_fromLast_5 : decode cX4_fromLast 5 = .ok (.iload_n 1, 1) := by decide +kernel
theorem dX4_fromLast_6 : decode cX4_fromLast 6 = .ok (.iaload, 1) := by decide +kernel
theorem dX4_fromLast_7 : decode cX4_fromLast 7 = .ok (.if_icmp .ge 26, 3) := by decide +kernel
theorem dX4_fromLast_10 : decode cX4_fromLast 10 = .ok (.aload_n 0, 1) := by decide +kernel
theorem dX4_fromLast_11 : decode cX4_fromLast 11 = .ok (.getfield 18, 3) := by decide +kernel
theorem dX4_fromLast_14 : decode cX4_fromLast 14 = .ok (.iload_n 1, 1) := by decide +kernel
theorem dX4_fromLast_15 : decode cX4_fromLast 15 = .ok (.bipush 8, 2) := by decide +kernel
theorem dX4_fromLast_17 : decode cX4_fromLast 17 = .ok (.imul, 1) := by decide +kernel
theorem dX4_fromLast_18 : decode cX4_fromLast 18 = .ok (.aload_n 0, 1) := by decide +kernel
theorem dX4_fromLast_19 : decode cX4_fromLast 19 = .ok (.getfield 15, 3) := by decide +kernel
theorem dX4_fromLast_22 : decode cX4_fromLast 22 = .ok (.iload_n 1, 1) := by decide +kernel
theorem dX4_fromLast_23 : decode cX4_fromLast 23 = .ok (.iaload, 1) := by decide +kernel
theorem dX4_fromLast_24 : decode cX4_fromLast 24 = .ok (.iadd, 1) := by decide +kernel
theorem dX4_fromLast_25 : decode cX4_fromLast 25 = .ok (.iconst 1, 1) := by decide +kernel
theorem dX4_fromLast_26 : decode cX4_fromLast 26 = .ok (.isub, 1) := by decide +kernel
theorem dX4_fromLast_27 : decode cX4_fromLast 27 = .ok (.iload_n 2, 1) := by decide +kernel
theorem dX4_fromLast_28 : decode cX4_fromLast 28 = .ok (.isub, 1) := by decide +kernel
theorem dX4_fromLast_29 : decode cX4_fromLast 29 = .ok (.iaload, 1) := by decide +kernel
theorem dX4_fromLast_30 : decode cX4_fromLast 30 = .ok (.goto 4, 3) := by decide +kernel
theorem dX4_fromLast_33 : decode cX4_fromLast 33 = .ok (.iconst (-1), 1) := by decide +kernel
theorem dX4_fromLast_34 : decode cX4_fromLast 34 = .ok (.ireturn, 1) := by decide +kernel
set_option maxRecDepth 20000 in
theorem ggX4_lastOf_X4_fromLast : GoodIn wsX4_lastOf wsX4_fromLast := goodIn_r _ [5, 6, 7, 8, 9, 10, 11] (by decide +kernel) (by decide +kernel)
set_option maxRecDepth 20000 in
theorem gX4_lastOf_X4_fromLast : GoodIn wsX4_lastOf (wsV RX4 29 RX4 yX4_fromLast wsX4_fromLast) := goodIn_app (goodIn_of _ (by decide +kernel)) ggX4_lastOf_X4_fromLast
theorem dX4_lastOf_0 : decode cX4_lastOf 0 = .ok (.aload_n 0, 1) := by decide +kernel
theorem dX4_lastOf_1 : decode cX4_lastOf 1 = .ok (.iload_n 1, 1) := by decide +kernel
theorem dX4_lastOf_2 : decode cX4_lastOf 2 = .ok (.iconst 0, 1) := by decide +kernel
theorem dX4_lastOf_3 : decode cX4_lastOf 3 = .ok (.invokevirtual 29, 3) := by decide +kernel
theorem dX4_lastOf_6 : decode cX4_lastOf 6 = .ok (.ireturn, 1) := by decide +kernel
theorem dX4_weightOf_0 : decode cX4_weightOf 0 = .ok (.iconst 0, 1) := by decide +kernel
theorem dX4_weightOf_1 : decode cX4_weightOf 1 = .ok (.istore_n 2, 1) := by decide +kernel
theorem dX4_weightOf_2 : decode cX4_weightOf 2 = .ok (.iconst 0, 1) := by decide +kernel
theorem dX4_weightOf_3 : decode cX4_weightOf 3 = .ok (.istore_n 3, 1) := by decide +kernel
theorem dX4_weightOf_4 : decode cX4_weightOf 4 = .ok (.iload_n 3, 1) := by decide +kernel
theorem dX4_weightOf_5 : decode cX4_weightOf 5 = .ok (.aload_n 0, 1) := by decide +kernel
theorem dX4_weightOf_6 : decode cX4_weightOf 6 = .ok (.getfield 15, 3) := by decide +kernel
theorem dX4_weightOf_9 : decode cX4_weightOf 9 = .ok (.iload_n 1, 1) := by decide +kernel
theorem dX4_weightOf_10 : decode cX4_weightOf 10 = .ok (.iaload, 1) := by decide +kernel
theorem dX4_weightOf_11 : decode cX4_weightOf 11 = .ok (.if_icmp .ge 28, 3) := by decide +kernel
theorem dX4_weightOf_14 : decode cX4_weightOf 14 = .ok (.iload_n 2, 1) := by decide +kernel
theorem dX4_weightOf_15 : decode cX4_weightOf 15 = .ok (.aload_n 0, 1) := by decide +kernel
theorem dX4_weightOf_16 : decode cX4_weightOf 16 = .ok (.getfield 9, 3) := by decide +kernel
theorem dX4_weightOf_19 : decode cX4_weightOf 19 = .ok (.aload_n 0, 1) := by decide +kernel
theorem dX4_weightOf_20 : decode cX4_weightOf 20 = .ok (.getfield 18, 3) := by decide +kernel
theorem dX4_weightOf_23 : decode cX4_weightOf 23 = .ok (.iload_n 1, 1) := by decide +kernel
theorem dX4_weightOf_24 : decode cX4_weightOf 24 = .ok (.bipush 8, 2) := by decide +kernel
theorem dX4_weightOf_26 : decode cX4_weightOf 26 = .ok (.imul, 1) := by decide +kernel
theorem dX4_weightOf_27 : decode cX4_weightOf 27 = .ok (.iload_n 3, 1) := by decide +kernel
theorem dX4_weightOf_28 : decode cX4_weightOf 28 = .ok (.iadd, 1) := by decide +kernel
theorem dX4_weightOf_29 : decode cX4_weightOf 29 = .ok (.iaload, 1) := by decide +kernel
theorem dX4_weightOf_30 : decode cX4_weightOf 30 = .ok (.iaload, 1) := by decide +kernel
theorem dX4_weightOf_31 : decode cX4_weightOf 31 = .ok (.iadd, 1) := by decide +kernel
theorem dX4_weightOf_32 : decode cX4_weightOf 32 = .ok (.istore_n 2, 1) := by decide +kernel
theorem dX4_weightOf_33 : decode cX4_weightOf 33 = .ok (.iinc 3 1, 3) := by decide +kernel
theorem dX4_weightOf_36 : decode cX4_weightOf 36 = .ok (.goto (-32), 3) := by decide +kernel
theorem dX4_weightOf_39 : decode cX4_weightOf 39 = .ok (.iload_n 2, 1) := by decide +kernel
theorem dX4_weightOf_40 : decode cX4_weightOf 40 = .ok (.ireturn, 1) := by decide +kernel
set_option maxRecDepth 20000 in
theorem ggX4_moveLast_X4_lastOf : GoodIn wsX4_moveLast wsX4_lastOf := goodIn_r _ [6, 7, 8, 9, 5, 10, 1, 11, 16, 17, 18, 19] (by decide +kernel) (by decide +kernel)
set_option maxRecDepth 20000 in
theorem gX4_moveLast_X4_lastOf : GoodIn wsX4_moveLast (wsV RX4 33 RX4 yX4_lastOf wsX4_lastOf) := goodIn_app (goodIn_of _ (by decide +kernel)) ggX4_moveLast_X4_lastOf
set_option maxRecDepth 20000 in
theorem ggX4_moveLast_X4_append : GoodIn wsX4_moveLast wsX4_append := goodIn_r _ [15, 1, 11, 16, 17, 18, 19] (by decide +kernel) (by decide +kernel)
set_option maxRecDepth 20000 in
theorem gX4_moveLast_X4_append : GoodIn wsX4_moveLast (wsV RX4 25 RX4 yX4_append wsX4_append) := goodIn_app (goodIn_of _ (by decide +kernel)) ggX4_moveLast_X4_append
theorem dX4_moveLast_0 : decode cX4_moveLast 0 = .ok (.aload_n 0, 1) := by decide +kernel
theorem dX4_moveLast_1 : decode cX4_moveLast 1 = .ok (.iload_n 1, 1) := by decide +kernel
theorem dX4_moveLast_2 : decode cX4_moveLast 2 = .ok (.invokevirtual 33, 3) := by decide +kernel
theorem dX4_moveLast_5 : decode cX4_moveLast 5 = .ok (.istore_n 3, 1) := by decide +kernel
theorem dX4_moveLast_6 : decode cX4_moveLast 6 = .ok (.iload_n 3, 1) := by decide +kernel
theorem dX4_moveLast_7 : decode cX4_moveLast 7 = .ok (.iconst (-1), 1) := by decide +kernel
theorem dX4_moveLast_8 : decode cX4_moveLast 8 = .ok (.if_icmp .eq 19, 3) := by decide +kernel
theorem dX4_moveLast_11 : decode cX4_moveLast 11 = .ok (.aload_n 0, 1) := by decide +kernel
theorem dX4_moveLast_12 : decode cX4_moveLast 12 = .ok (.getfield 15, 3) := by decide +kernel
theorem dX4_moveLast_15 : decode cX4_moveLast 15 = .ok (.iload_n 1, 1) := by decide +kernel
theorem dX4_moveLast_16 : decode cX4_moveLast 16 = .ok (.dup2, 1) := by decide +kernel
theorem dX4_moveLast_17 : decode cX4_moveLast 17 = .ok (.iaload, 1) := by decide +kernel
theorem dX4_moveLast_18 : decode cX4_moveLast 18 = .ok (.iconst 1, 1) := by decide +kernel
theorem dX4_moveLast_19 : decode cX4_moveLast 19 = .ok (.isub, 1) := by decide +kernel
theorem dX4_moveLast_20 : decode cX4_moveLast 20 = .ok (.iastore, 1) := by decide +kernel
theorem dX4_moveLast_21 : decode cX4_moveLast 21 = .ok (.aload_n 0, 1) := by decide +kernel
theorem dX4_moveLast_22 : decode cX4_moveLast 22 = .ok (.iload_n 2, 1) := by decide +kernel
theorem dX4_moveLast_23 : decode cX4_moveLast 23 = .ok (.iload_n 3, 1) := by decide +kernel
theorem dX4_moveLast_24 : decode cX4_moveLast 24 = .ok (.invokevirtual 25, 3) := by decide +kernel
theorem dX4_moveLast_27 : decode cX4_moveLast 27 = .ok (.return_, 1) := by decide +kernel
theorem dX4_append_0 : decode cX4_append 0 = .ok (.aload_n 0, 1) := by decide +kernel
theorem dX4_append_1 : decode cX4_append 1 = .ok (.getfield 15, 3) := by decide +kernel
theorem dX4_append_4 : decode cX4_append 4 = .ok (.iload_n 1, 1) := by decide +kernel
theorem dX4_append_5 : decode cX4_append 5 = .ok (.iaload, 1) := by decide +kernel
theorem dX4_append_6 : decode cX4_append 6 = .ok (.bipush 8, 2) := by decide +kernel
theorem dX4_append_8 : decode cX4_append 8 = .ok (.if_icmp .ge 30, 3) := by decide +kernel
theorem dX4_append_11 : decode cX4_append 11 = .ok (.aload_n 0, 1) := by decide +kernel
theorem dX4_append_12 : decode cX4_append 12 = .ok (.getfield 18, 3) := by decide +kernel
theorem dX4_append_15 : decode cX4_append 15 = .ok (.iload_n 1, 1) := by decide +kernel
theorem dX4_append_16 : decode cX4_append 16 = .ok (.bipush 8, 2) := by decide +kernel
theorem dX4_append_18 : decode cX4_append 18 = .ok (.imul, 1) := by decide +kernel
theorem dX4_append_19 : decode cX4_append 19 = .ok (.aload_n 0, 1) := by decide +kernel
theorem dX4_append_20 : decode cX4_append 20 = .ok (.getfield 15, 3) := by decide +kernel
theorem dX4_append_23 : decode cX4_append 23 = .ok (.iload_n 1, 1) := by decide +kernel
theorem dX4_append_24 : decode cX4_append 24 = .ok (.iaload, 1) := by decide +kernel
theorem dX4_append_25 : decode cX4_append 25 = .ok (.iadd, 1) := by decide +kernel
theorem dX4_append_26 : decode cX4_append 26 = .ok (.iload_n 2, 1) := by decide +kernel
theorem dX4_append_27 : decode cX4_append 27 = .ok (.iastore, 1) := by decide +kernel
theorem dX4_append_28 : decode cX4_append 28 = .ok (.aload_n 0, 1) := by decide +kernel
theorem dX4_append_29 : decode cX4_append 29 = .ok (.getfield 15, 3) := by decide +kernel
theorem dX4_append_32 : decode cX4_append 32 = .ok (.iload_n 1, 1) := by decide +kernel
theorem dX4_append_33 : decode cX4_append 33 = .ok (.dup2, 1) := by decide +kernel
theorem dX4_append_34 : decode cX4_append 34 = .ok (.iaload, 1) := by decide +kernel
theorem dX4_append_35 : decode cX4_append 35 = .ok (.iconst 1, 1) := by decide +kernel
theorem dX4_append_36 : decode cX4_append 36 = .ok (.iadd, 1) := by decide +kernel
theorem dX4_append_37 : decode cX4_append 37 = .ok (.iastore, 1) := by decide +kernel
theorem dX4_append_38 : decode cX4_append 38 = .ok (.return_, 1) := by decide +kernel
set_option maxRecDepth 20000 in
theorem ggX5_init_X2_init : GoodIn wsX5_init wsX2_init := goodIn_r _ [26, 27, 2, 3, 28, 29, 58] (by decide +kernel) (by decide +kernel)
set_option maxRecDepth 20000 in
theorem gX5_init_X2_init_n9 : GoodIn wsX5_init (wsX2_init) := ggX5_init_X2_init
set_option maxRecDepth 20000 in
theorem ggX5_init_X3_init : GoodIn wsX5_init wsX3_init := goodIn_r _ [31, 32, 2, 3, 33, 34, 28, 35, 36, 37, 67, 68, 69, 70, 71] (by decide +kernel) (by decide +kernel)
set_option maxRecDepth 20000 in
theorem gX5_init_X3_init_n18 : GoodIn wsX5_init (wsX3_init) := ggX5_init_X3_init
set_option maxRecDepth 20000 in
theorem ggX5_init_X0_init : GoodIn wsX5_init wsX0_init := goodIn_r _ [39, 40, 2, 3, 33, 41, 42, 43, 44, 45, 72, 73, 74, 75, 76, 77] (by decide +kernel) (by decide +kernel)
set_option maxRecDepth 20000 in
theorem gX5_init_X0_init_n28 : GoodIn wsX5_init (wsX0_init) := ggX5_init_X0_init
set_option maxRecDepth 20000 in
theorem ggX5_init_X4_init : GoodIn wsX5_init wsX4_init := goodIn_r _ [47, 48, 2, 3, 33, 49, 50, 51, 78, 79, 80, 81] (by decide +kernel) (by decide +kernel)
set_option maxRecDepth 20000 in
theorem gX5_init_X4_init_n35 : GoodIn wsX5_init (wsX4_init) := ggX5_init_X4_init
set_option maxRecDepth 20000 in
theorem ggX5_init_X1_init : GoodIn wsX5_init wsX1_init := goodIn_r _ [53, 54, 2, 3, 33, 55, 56, 57, 82, 83, 84] (by decide +kernel) (by decide +kernel)
set_option maxRecDepth 20000 in
theorem gX5_init_X1_init_n42 : GoodIn wsX5_init (wsX1_init) := ggX5_init_X1_init
theorem dX5_init_0 : decode cX5_init 0 = .ok (.aload_n 0, 1) := by decide +kernel
theorem dX5_init_1 : decode cX5_init 1 = .ok (.invokespecial 1, 3) := by decide +kernel
theorem dX5_init_4 : decode cX5_init 4 = .ok (.aload_n 0, 1) := by decide +kernel
theorem dX5_init_5 : decode cX5_init 5 = .ok (.new 7, 3) := by decide +kernel
theorem dX5_init_8 : decode cX5_init 8 = .ok (.dup, 1) := by decide +kernel
theorem dX5_init_9 : decode cX5_init 9 = .ok (.invokespecial 9, 3) := by decide +kernel
theorem dX5_init_12 : decode cX5_init 12 = .ok (.putfield 10, 3) := by decide +kernel
theorem dX5_init_15 : decode cX5_init 15 = .ok (.aload_n 0, 1) := by decide +kernel
theorem dX5_init_16 : decode cX5_init 16 = .ok (.new 16, 3) := by decide +kernel
theorem dX5_init_19 : decode cX5_init 19 = .ok (.dup, 1) := by decide +kernel
theorem dX5_init_20 : decode cX5_init 20 = .ok (.invokespecial 18, 3) := by decide +kernel
theorem dX5_init_23 : decode cX5_init 23 = .ok (.putfield 19, 3) := by decide +kernel
theorem dX5_init_26 : decode cX5_init 26 = .ok (.aload_n 0, 1) := by decide +kernel
theorem dX5_init_27 : decode cX5_init 27 = .ok (.new 16, 3) := by decide +kernel
theorem dX5_init_30 : decode cX5_init 30 = .ok (.dup, 1) := by decide +kernel
theorem dX5_init_31 : decode cX5_init 31 = .ok (.invokespecial 18, 3) := by decide +kernel
theorem dX5_init_34 : decode cX5_init 34 = .ok (.putfield 23, 3) := by decide +kernel
theorem dX5_init_37 : decode cX5_init 37 = .ok (.aload_n 0, 1) := by decide +kernel
theorem dX5_init_38 : decode cX5_init 38 = .ok (.new 26, 3) := by decide +kernel
theorem dX5_init_41 : decode cX5_init 41 = .ok (.dup, 1) := by decide +kernel
theorem dX5_init_42 : decode cX5_init 42 = .ok (.invokespecial 28, 3) := by decide +kernel
theorem dX5_init_45 : decode cX5_init 45 = .ok (.putfield 29, 3) := by decide +kernel
theorem dX5_init_48 : decode cX5_init 48 = .ok (.aload_n 0, 1) := by decide +kernel
theorem dX5_init_49 : decode cX5_init 49 = .ok (.new 33, 3) := by decide +kernel
theorem dX5_init_52 : decode cX5_init 52 = .ok (.dup, 1) := by decide +kernel
theorem dX5_init_53 : decode cX5_init 53 = .ok (.invokespecial 35, 3) := by decide +kernel
theorem dX5_init_56 : decode cX5_init 56 = .ok (.putfield 36, 3) := by decide +kernel
theorem dX5_init_59 : decode cX5_init 59 = .ok (.aload_n 0, 1) := by decide +kernel
theorem dX5_init_60 : decode cX5_init 60 = .ok (.new 40, 3) := by decide +kernel
theorem dX5_init_63 : decode cX5_init 63 = .ok (.dup, 1) := by decide +kernel
theorem dX5_init_64 : decode cX5_init 64 = .ok (.invokespecial 42, 3) := by decide +kernel
theorem dX5_init_67 : decode cX5_init 67 = .ok (.putfield 43, 3) := by decide +kernel
theorem dX5_init_70 : decode cX5_init 70 = .ok (.return_, 1) := by decide +kernel
set_option maxRecDepth 20000 in
theorem ggX5_addTrain_X5_needBlock : GoodIn wsX5_addTrain wsX5_needBlock := goodIn_ca (goodIn_r _ [8, 9, 10] (by decide +kernel) (by decide +kernel)) (goodIn_sub (fun _ h => List.mem_cons_of_mem _ (List.mem_append_right _ h)) (by decide +kernel))
set_option maxRecDepth 20000 in
theorem gX5_addTrain_X5_needBlock : GoodIn wsX5_addTrain (va_wsS RX5 47 yX5_needBlock wsX5_needBlock) := goodIn_app (goodIn_of _ (by decide +kernel)) ggX5_addTrain_X5_needBlock
set_option maxRecDepth 20000 in
theorem ggX5_addTrain_X3_standingOn : GoodIn wsX5_addTrain wsX3_standingOn := goodIn_r _ [15, 16, 17, 31, 32, 33, 34, 35] (by decide +kernel) (by decide +kernel)
set_option maxRecDepth 20000 in
theorem gX5_addTrain_X3_standingOn : GoodIn wsX5_addTrain (wsV RX5 62 RX3 yX3_standingOn wsX3_standingOn) := goodIn_app (goodIn_of _ (by decide +kernel)) ggX5_addTrain_X3_standingOn
set_option maxRecDepth 20000 in
theorem ggX5_addTrain_X3_add : GoodIn wsX5_addTrain wsX3_add := goodIn_r _ [21, 16, 17, 22, 31, 32, 33, 34, 35] (by decide +kernel) (by decide +kernel)
set_option maxRecDepth 20000 in
theorem gX5_addTrain_X3_add : GoodIn wsX5_addTrain (wsV RX5 68 RX3 yX3_add wsX3_add) := goodIn_app (goodIn_of _ (by decide +kernel)) ggX5_addTrain_X3_add
theorem dX5_addTrain_0 : decode cX5_addTrain 0 = .ok (.iload_n 1, 1) := by decide +kernel
theorem dX5_addTrain_1 : decode cX5_addTrain 1 = .ok (.invokestatic 47, 3) := by decide +kernel
theorem dX5_addTrain_4 : decode cX5_addTrain 4 = .ok (.aload_n 0, 1) := by decide +kernel
theorem dX5_addTrain_5 : decode cX5_addTrain 5 = .ok (.getfield 19, 3) := by decide +kernel
theorem dX5_addTrain_8 : decode cX5_addTrain 8 = .ok (.getfield 51, 3) := by decide +kernel
theorem dX5_addTrain_11 : decode cX5_addTrain 11 = .ok (.iconst 4, 1) := by decide +kernel
theorem dX5_addTrain_12 : decode cX5_addTrain 12 = .ok (.if_icmp .lt 13, 3) := by decide +kernel
theorem dX5_addTrain_15 : decode cX5_addTrain 15 = .ok (.new 55, 3) := by decide +kernel
theorem dX5_addTrain_18 : decode cX5_addTrain 18 = .ok (.dup, 1) := by decide +kernel
theorem dX5_addTrain_19 : decode cX5_addTrain 19 = .ok (.ldc 57, 2) := by decide +kernel
theorem dX5_addTrain_21 : decode cX5_addTrain 21 = .ok (.invokespecial 59, 3) := by decide +kernel
theorem dX5_addTrain_24 : decode cX5_addTrain 24 = .ok (.athrow, 1) := by decide +kernel
theorem dX5_addTrain_25 : decode cX5_addTrain 25 = .ok (.aload_n 0, 1) := by decide +kernel
theorem dX5_addTrain_26 : decode cX5_addTrain 26 = .ok (.getfield 19, 3) := by decide +kernel
theorem dX5_addTrain_29 : decode cX5_addTrain 29 = .ok (.iload_n 1, 1) := by decide +kernel
theorem dX5_addTrain_30 : decode cX5_addTrain 30 = .ok (.invokevirtual 62, 3) := by decide +kernel
theorem dX5_addTrain_33 : decode cX5_addTrain 33 = .ok (.iconst (-1), 1) := by decide +kernel
theorem dX5_addTrain_34 : decode cX5_addTrain 34 = .ok (.if_icmp .eq 13, 3) := by decide +kernel
theorem dX5_addTrain_37 : decode cX5_addTrain 37 = .ok (.new 55, 3) := by decide +kernel
theorem dX5_addTrain_40 : decode cX5_addTrain 40 = .ok (.dup, 1) := by decide +kernel
theorem dX5_addTrain_41 : decode cX5_addTrain 41 = .ok (.ldc 66, 2) := by decide +kernel
theorem dX5_addTrain_43 : decode cX5_addTrain 43 = .ok (.invokespecial 59, 3) := by decide +kernel
theorem dX5_addTrain_46 : decode cX5_addTrain 46 = .ok (.athrow, 1) := by decide +kernel
theorem dX5_addTrain_47 : decode cX5_addTrain 47 = .ok (.aload_n 0, 1) := by decide +kernel
theorem dX5_addTrain_48 : decode cX5_addTrain 48 = .ok (.getfield 19, 3) := by decide +kernel
theorem dX5_addTrain_51 : decode cX5_addTrain 51 = .ok (.iload_n 1, 1) := by decide +kernel
theorem dX5_addTrain_52 : decode cX5_addTrain 52 = .ok (.iload_n 2, 1) := by decide +kernel
theorem dX5_addTrain_53 : decode cX5_addTrain 53 = .ok (.invokevirtual 68, 3) := by decide +kernel
theorem dX5_addTrain_56 : decode cX5_addTrain 56 = .ok (.ireturn, 1) := by decide +kernel
set_option maxRecDepth 20000 in
theorem ggX5_hold_X5_needTrain : GoodIn wsX5_hold wsX5_needTrain := goodIn_ca (goodIn_r _ [7, 8, 9, 1, 10, 11, 12, 13, 14, 15, 16, 17, 18, 19, 20, 21, 22, 23] (by decide +kernel) (by decide +kernel)) (goodIn_sub (fun _ h => List.mem_cons_of_mem _ (List.mem_append_right _ h)) (by decide +kernel))
set_option maxRecDepth 20000 in
theorem gX5_hold_X5_needTrain : GoodIn wsX5_hold (wsV RX5 72 RX5 yX5_needTrain wsX5_needTrain) := goodIn_app (goodIn_of _ (by decide +kernel)) ggX5_hold_X5_needTrain
theorem dX5_hold_0 : decode cX5_hold 0 = .ok (.aload_n 0, 1) := by decide +kernel
theorem dX5_hold_1 : decode cX5_hold 1 = .ok (.iload_n 1, 1) := by decide +kernel
theorem dX5_hold_2 : decode cX5_hold 2 = .ok (.invokevirtual 72, 3) := by decide +kernel
theorem dX5_hold_5 : decode cX5_hold 5 = .ok (.aload_n 0, 1) := by decide +kernel
theorem dX5_hold_6 : decode cX5_hold 6 = .ok (.getfield 19, 3) := by decide +kernel
theorem dX5_hold_9 : decode cX5_hold 9 = .ok (.getfield 75, 3) := by decide +kernel
theorem dX5_hold_12 : decode cX5_hold 12 = .ok (.iload_n 1, 1) := by decide +kernel
theorem dX5_hold_13 : decode cX5_hold 13 = .ok (.baload, 1) := by decide +kernel
theorem dX5_hold_14 : decode cX5_hold 14 = .ok (.iload_n 2, 1) := by decide +kernel
theorem dX5_hold_15 : decode cX5_hold 15 = .ok (.if_icmp .eq 7, 3) := by decide +kernel
theorem dX5_hold_18 : decode cX5_hold 18 = .ok (.iconst 1, 1) := by decide +kernel
theorem dX5_hold_19 : decode cX5_hold 19 = .ok (.goto 4, 3) := by decide +kernel
theorem dX5_hold_22 : decode cX5_hold 22 = .ok (.iconst 0, 1) := by decide +kernel
theorem dX5_hold_23 : decode cX5_hold 23 = .ok (.istore_n 3, 1) := by decide +kernel
theorem dX5_hold_24 : decode cX5_hold 24 = .ok (.aload_n 0, 1) := by decide +kernel
theorem dX5_hold_25 : decode cX5_hold 25 = .ok (.getfield 19, 3) := by decide +kernel
theorem dX5_hold_28 : decode cX5_hold 28 = .ok (.getfield 75, 3) := by decide +kernel
theorem dX5_hold_31 : decode cX5_hold 31 = .ok (.iload_n 1, 1) := by decide +kernel
theorem dX5_hold_32 : decode cX5_hold 32 = .ok (.iload_n 2, 1) := by decide +kernel
theorem dX5_hold_33 : decode cX5_hold 33 = .ok (.bastore, 1) := by decide +kernel
theorem dX5_hold_34 : decode cX5_hold 34 = .ok (.iload_n 3, 1) := by decide +kernel
theorem dX5_hold_35 : decode cX5_hold 35 = .ok (.ireturn, 1) := by decide +kernel
set_option maxRecDepth 20000 in
theorem ggX5_delay_X5_needTrain : GoodIn wsX5_delay wsX5_needTrain := goodIn_ca (goodIn_r _ [9, 10, 11, 3, 12, 16, 17, 18, 19, 20, 21, 22, 23, 24, 25, 26, 27, 28] (by decide +kernel) (by decide +kernel)) (goodIn_sub (fun _ h => List.mem_cons_of_mem _ (List.mem_append_right _ h)) (by decide +kernel))
set_option maxRecDepth 20000 in
theorem gX5_delay_X5_needTrain : GoodIn wsX5_delay (wsV RX5 72 RX5 yX5_needTrain wsX5_needTrain) := goodIn_app (goodIn_of _ (by decide +kernel)) ggX5_delay_X5_needTrain
set_option maxRecDepth 20000 in
theorem ggX5_delay_X5_needMinutesToRun : GoodIn wsX5_delay wsX5_needMinutesToRun := goodIn_ca (goodIn_r _ [15, 1, 2] (by decide +kernel) (by decide +kernel)) (goodIn_sub (fun _ h => List.mem_cons_of_mem _ (List.mem_append_left _ (List.mem_append_right _ h))) (by decide +kernel))
set_option maxRecDepth 20000 in
theorem gX5_delay_X5_needMinutesToRun : GoodIn wsX5_delay (va_wsS RX5 79 yX5_needMinutesToRun wsX5_needMinutesToRun) := goodIn_app (goodIn_of _ (by decide +kernel)) ggX5_delay_X5_needMinutesToRun
theorem dX5_delay_0 : decode cX5_delay 0 = .ok (.aload_n 0, 1) := by decide +kernel
theorem dX5_delay_1 : decode cX5_delay 1 = .ok (.iload_n 1, 1) := by decide +kernel
theorem dX5_delay_2 : decode cX5_delay 2 = .ok (.invokevirtual 72, 3) := by decide +kernel
theorem dX5_delay_5 : decode cX5_delay 5 = .ok (.iload_n 2, 1) := by decide +kernel
theorem dX5_delay_6 : decode cX5_delay 6 = .ok (.invokestatic 79, 3) := by decide +kernel
theorem dX5_delay_9 : decode cX5_delay 9 = .ok (.aload_n 0, 1) := by decide +kernel
theorem dX5_delay_10 : decode cX5_delay 10 = .ok (.getfield 19, 3) := by decide +kernel
theorem dX5_delay_13 : decode cX5_delay 13 = .ok (.getfield 82, 3) := by decide +kernel
theorem dX5_delay_16 : decode cX5_delay 16 = .ok (.iload_n 1, 1) := by decide +kernel
theorem dX5_delay_17 : decode cX5_delay 17 = .ok (.iaload, 1) := by decide +kernel
theorem dX5_delay_18 : decode cX5_delay 18 = .ok (.iload_n 2, 1) := by decide +kernel
theorem dX5_delay_19 : decode cX5_delay 19 = .ok (.iadd, 1) := by decide +kernel
theorem dX5_delay_20 : decode cX5_delay 20 = .ok (.istore_n 3, 1) := by decide +kernel
theorem dX5_delay_21 : decode cX5_delay 21 = .ok (.iload_n 3, 1) := by decide +kernel
theorem dX5_delay_22 : decode cX5_delay 22 = .ok (.sipush 1000, 3) := by decide +kernel
theorem dX5_delay_25 : decode cX5_delay 25 = .ok (.if_icmp .le 13, 3) := by decide +kernel
theorem dX5_delay_28 : decode cX5_delay 28 = .ok (.new 86, 3) := by decide +kernel
theorem dX5_delay_31 : decode cX5_delay 31 = .ok (.dup, 1) := by decide +kernel
theorem dX5_delay_32 : decode cX5_delay 32 = .ok (.ldc 88, 2) := by decide +kernel
theorem dX5_delay_34 : decode cX5_delay 34 = .ok (.invokespecial 90, 3) := by decide +kernel
theorem dX5_delay_37 : decode cX5_delay 37 = .ok (.athrow, 1) := by decide +kernel
theorem dX5_delay_38 : decode cX5_delay 38 = .ok (.aload_n 0, 1) := by decide +kernel
theorem dX5_delay_39 : decode cX5_delay 39 = .ok (.getfield 19, 3) := by decide +kernel
theorem dX5_delay_42 : decode cX5_delay 42 = .ok (.getfield 82, 3) := by decide +kernel
theorem dX5_delay_45 : decode cX5_delay 45 = .ok (.iload_n 1, 1) := by decide +kernel
theorem dX5_delay_46 : decode cX5_delay 46 = .ok (.iload_n 3, 1) := by decide +kernel
theorem dX5_delay_47 : decode cX5_delay 47 = .ok (.iastore, 1) := by decide +kernel
theorem dX5_delay_48 : decode cX5_delay 48 = .ok (.iload_n 3, 1) := by decide +kernel
theorem dX5_delay_49 : decode cX5_delay 49 = .ok (.ireturn, 1) := by decide +kernel
set_option maxRecDepth 20000 in
theorem ggX5_reverse_X5_needTrain : GoodIn wsX5_reverse wsX5_needTrain := goodIn_ca (goodIn_r _ [6, 7, 8, 1, 9, 16, 17, 18, 19, 20, 21, 22, 23, 24, 25, 26, 27, 28] (by decide +kernel) (by decide +kernel)) (goodIn_sub (fun _ h => List.mem_cons_of_mem _ (List.mem_append_right _ h)) (by decide +kernel))
set_option maxRecDepth 20000 in
theorem gX5_reverse_X5_needTrain : GoodIn wsX5_reverse (wsV RX5 72 RX5 yX5_needTrain wsX5_needTrain) := goodIn_app (goodIn_of _ (by decide +kernel)) ggX5_reverse_X5_needTrain
set_option maxRecDepth 20000 in
theorem ggX5_reverse_X3_turnRound : GoodIn wsX5_reverse wsX3_turnRound := goodIn_r _ [14, 15, 24, 25, 26, 27, 28] (by decide +kernel) (by decide +kernel)
set_option maxRecDepth 20000 in
theorem gX5_reverse_X3_turnRound : GoodIn wsX5_reverse (wsV RX5 91 RX3 yX3_turnRound wsX3_turnRound) := goodIn_app (goodIn_of _ (by decide +kernel)) ggX5_reverse_X3_turnRound
theorem dX5_reverse_0 : decode cX5_reverse 0 = .ok (.aload_n 0, 1) := by decide +kernel
theorem dX5_reverse_1 : decode cX5_reverse 1 = .ok (.iload_n 1, 1) := by decide +kernel
theorem dX5_reverse_2 : decode cX5_reverse 2 = .ok (.invokevirtual 72, 3) := by decide +kernel
theorem dX5_reverse_5 : decode cX5_reverse 5 = .ok (.aload_n 0, 1) := by decide +kernel
theorem dX5_reverse_6 : decode cX5_reverse 6 = .ok (.getfield 19, 3) := by decide +kernel
theorem dX5_reverse_9 : decode cX5_reverse 9 = .ok (.iload_n 1, 1) := by decide +kernel
theorem dX5_reverse_10 : decode cX5_reverse 10 = .ok (.invokevirtual 91, 3) := by decide +kernel
theorem dX5_reverse_13 : decode cX5_reverse 13 = .ok (.ireturn, 1) := by decide +kernel
set_option maxRecDepth 20000 in
theorem ggX5_throwSwitch_X2_turn : GoodIn wsX5_throwSwitch wsX2_turn := goodIn_r _ [8, 9, 18] (by decide +kernel) (by decide +kernel)
set_option maxRecDepth 20000 in
theorem gX5_throwSwitch_X2_turn : GoodIn wsX5_throwSwitch (wsV RX5 100 RX2 yX2_turn wsX2_turn) := goodIn_app (goodIn_of _ (by decide +kernel)) ggX5_throwSwitch_X2_turn
theorem dX5_throwSwitch_0 : decode cX5_throwSwitch 0 = .ok (.iload_n 1, 1) := by decide +kernel
theorem dX5_throwSwitch_1 : decode cX5_throwSwitch 1 = .ok (.ifCond .lt 8, 3) := by decide +kernel
theorem dX5_throwSwitch_4 : decode cX5_throwSwitch 4 = .ok (.iload_n 1, 1) := by decide +kernel
theorem dX5_throwSwitch_5 : decode cX5_throwSwitch 5 = .ok (.iconst 2, 1) := by decide +kernel
theorem dX5_throwSwitch_6 : decode cX5_throwSwitch 6 = .ok (.if_icmp .lt 13, 3) := by decide +kernel
theorem dX5_throwSwitch_9 : decode cX5_throwSwitch 9 = .ok (.new 95, 3) := by decide +kernel
theorem dX5_throwSwitch_12 : decode cX5_throwSwitch 12 = .ok (.dup, 1) := by decide +kernel
theorem dX5_throwSwitch_13 : decode cX5_throwSwitch 13 = .ok (.ldc 97, 2) := by decide +kernel
theorem dX5_throwSwitch_15 : decode cX5_throwSwitch 15 = .ok (.invokespecial 99, 3) := by decide +kernel
theorem dX5_throwSwitch_18 : decode cX5_throwSwitch 18 = .ok (.athrow, 1) := by decide +kernel
theorem dX5_throwSwitch_19 : decode cX5_throwSwitch 19 = .ok (.aload_n 0, 1) := by decide +kernel
theorem dX5_throwSwitch_20 : decode cX5_throwSwitch 20 = .ok (.getfield 10, 3) := by decide +kernel
theorem dX5_throwSwitch_23 : decode cX5_throwSwitch 23 = .ok (.iload_n 1, 1) := by decide +kernel
theorem dX5_throwSwitch_24 : decode cX5_throwSwitch 24 = .ok (.invokevirtual 100, 3) := by decide +kernel
theorem dX5_throwSwitch_27 : decode cX5_throwSwitch 27 = .ok (.ireturn, 1) := by decide +kernel
set_option maxRecDepth 20000 in
theorem ggX5_block_X5_needTrain : GoodIn wsX5_block wsX5_needTrain := goodIn_ca (goodIn_r _ [7, 8, 9, 1, 10, 11, 12, 13, 14, 15, 16, 17, 18, 19, 20, 21, 22, 23] (by decide +kernel) (by decide +kernel)) (goodIn_sub (fun _ h => List.mem_cons_of_mem _ (List.mem_append_right _ h)) (by decide +kernel))
set_option maxRecDepth 20000 in
theorem gX5_block_X5_needTrain : GoodIn wsX5_block (wsV RX5 72 RX5 yX5_needTrain wsX5_needTrain) := goodIn_app (goodIn_of _ (by decide +kernel)) ggX5_block_X5_needTrain
theorem dX5_block_0 : decode cX5_block 0 = .ok (.aload_n 0, 1) := by decide +kernel
theorem dX5_block_1 : decode cX5_block 1 = .ok (.iload_n 1, 1) := by decide +kernel
theorem dX5_block_2 : decode cX5_block 2 = .ok (.invokevirtual 72, 3) := by decide +kernel
theorem dX5_block_5 : decode cX5_block 5 = .ok (.aload_n 0, 1) := by decide +kernel
theorem dX5_block_6 : decode cX5_block 6 = .ok (.getfield 19, 3) := by decide +kernel
theorem dX5_block_9 : decode cX5_block 9 = .ok (.getfield 103, 3) := by decide +kernel
theorem dX5_block_12 : decode cX5_block 12 = .ok (.iload_n 1, 1) := by decide +kernel
theorem dX5_block_13 : decode cX5_block 13 = .ok (.iaload, 1) := by decide +kernel
theorem dX5_block_14 : decode cX5_block 14 = .ok (.ireturn, 1) := by decide +kernel
set_option maxRecDepth 20000 in
theorem ggX5_isRight_X5_needTrain : GoodIn wsX5_isRight wsX5_needTrain := goodIn_ca (goodIn_r _ [7, 8, 9, 1, 10, 11, 12, 13, 14, 15, 16, 17, 18, 19, 20, 21, 22, 23] (by decide +kernel) (by decide +kernel)) (goodIn_sub (fun _ h => List.mem_cons_of_mem _ (List.mem_append_right _ h)) (by decide +kernel))
set_option maxRecDepth 20000 in
theorem gX5_isRight_X5_needTrain : GoodIn wsX5_isRight (wsV RX5 72 RX5 yX5_needTrain wsX5_needTrain) := goodIn_app (goodIn_of _ (by decide +kernel)) ggX5_isRight_X5_needTrain
theorem dX5_isRight_0 : decode cX5_isRight 0 = .ok (.aload_n 0, 1) := by decide +kernel
theorem dX5_isRight_1 : decode cX5_isRight 1 = .ok (.iload_n 1, 1) := by decide +kernel
theorem dX5_isRight_2 : decode cX5_isRight 2 = .ok (.invokevirtual 72, 3) := by decide +kernel
theorem dX5_isRight_5 : decode cX5_isRight 5 = .ok (.aload_n 0, 1) := by decide +kernel
theorem dX5_isRight_6 : decode cX5_isRight 6 = .ok (.getfield 19, 3) := by decide +kernel
theorem dX5_isRight_9 : decode cX5_isRight 9 = .ok (.getfield 106, 3) := by decide +kernel
theorem dX5_isRight_12 : decode cX5_isRight 12 = .ok (.iload_n 1, 1) := by decide +kernel
theorem dX5_isRight_13 : decode cX5_isRight 13 = .ok (.baload, 1) := by decide +kernel
theorem dX5_isRight_14 : decode cX5_isRight 14 = .ok (.ireturn, 1) := by decide +kernel
set_option maxRecDepth 20000 in
theorem ggX5_trainOn_X5_needBlock : GoodIn wsX5_trainOn wsX5_needBlock := goodIn_ca (goodIn_r _ [5, 6, 7] (by decide +kernel) (by decide +kernel)) (goodIn_sub (fun _ h => List.mem_cons_of_mem _ (List.mem_append_right _ h)) (by decide +kernel))
set_option maxRecDepth 20000 in
theorem gX5_trainOn_X5_needBlock : GoodIn wsX5_trainOn (va_wsS RX5 47 yX5_needBlock wsX5_needBlock) := goodIn_app (goodIn_of _ (by decide +kernel)) ggX5_trainOn_X5_needBlock
set_option maxRecDepth 20000 in
theorem ggX5_trainOn_X3_standingOn : GoodIn wsX5_trainOn wsX3_standingOn := goodIn_r _ [12, 13, 14, 23, 24, 25, 26, 27] (by decide +kernel) (by decide +kernel)
set_option maxRecDepth 20000 in
theorem gX5_trainOn_X3_standingOn : GoodIn wsX5_trainOn (wsV RX5 62 RX3 yX3_standingOn wsX3_standingOn) := goodIn_app (goodIn_of _ (by decide +kernel)) ggX5_trainOn_X3_standingOn
theorem dX5_trainOn_0 : decode cX5_trainOn 0 = .ok (.iload_n 1, 1) := by decide +kernel
theorem dX5_trainOn_1 : decode cX5_trainOn 1 = .ok (.invokestatic 47, 3) := by decide +kernel
theorem dX5_trainOn_4 : decode cX5_trainOn 4 = .ok (.aload_n 0, 1) := by decide +kernel
theorem dX5_trainOn_5 : decode cX5_trainOn 5 = .ok (.getfield 19, 3) := by decide +kernel
theorem dX5_trainOn_8 : decode cX5_trainOn 8 = .ok (.iload_n 1, 1) := by decide +kernel
theorem dX5_trainOn_9 : decode cX5_trainOn 9 = .ok (.invokevirtual 62, 3) := by decide +kernel
theorem dX5_trainOn_12 : decode cX5_trainOn 12 = .ok (.ireturn, 1) := by decide +kernel
set_option maxRecDepth 20000 in
theorem ggX5_run_X5_needMinutesToRun : GoodIn wsX5_run wsX5_needMinutesToRun := goodIn_ca (goodIn_r _ [10, 11, 12] (by decide +kernel) (by decide +kernel)) (goodIn_sub (fun _ h => List.mem_cons_of_mem _ (List.mem_append_right _ h)) (by decide +kernel))
set_option maxRecDepth 20000 in
theorem gX5_run_X5_needMinutesToRun : GoodIn wsX5_run (va_wsS RX5 79 yX5_needMinutesToRun wsX5_needMinutesToRun) := goodIn_app (goodIn_of _ (by decide +kernel)) ggX5_run_X5_needMinutesToRun
set_option maxRecDepth 20000 in
theorem ggX5_run_X3_runMinute : GoodIn wsX5_run wsX3_runMinute := goodIn_r _ [17, 18, 19, 20, 21, 16, 22, 23, 24, 25, 26, 27, 28, 29, 30, 31, 32, 33, 34, 35, 36, 37, 38, 39, 40, 41, 42, 43, 44, 45, 46, 47, 48, 49, 50, 51, 52, 53, 54, 55, 56, 57, 58, 59, 60, 61, 62, 77, 78, 79, 80, 81, 82, 83, 84, 85, 86, 87, 88] (by decide +kernel) (by decide +kernel)
set_option maxRecDepth 20000 in
theorem gX5_run_X3_runMinute : GoodIn wsX5_run (wsV RX5 114 RX3 yX3_runMinute wsX3_runMinute) := goodIn_app (goodIn_of _ (by decide +kernel)) ggX5_run_X3_runMinute
set_option maxRecDepth 20000 in
theorem ggX5_run_X0_markMet : GoodIn wsX5_run wsX0_markMet := goodIn_r _ [66, 54, 67, 55, 56, 61, 57, 58, 59, 52, 60, 62, 68, 46, 47, 16, 48, 18, 25, 83, 84, 85, 86, 87, 88, 77, 78, 79, 80, 81] (by decide +kernel) (by decide +kernel)
set_option maxRecDepth 20000 in
theorem gX5_run_X0_markMet : GoodIn wsX5_run (wsV RX5 118 RX0 yX0_markMet wsX0_markMet) := goodIn_app (goodIn_of _ (by decide +kernel)) ggX5_run_X0_markMet
theorem dX5_run_0 : decode cX5_run 0 = .ok (.iload_n 1, 1) := by decide +kernel
theorem dX5_run_1 : decode cX5_run 1 = .ok (.invokestatic 79, 3) := by decide +kernel
theorem dX5_run_4 : decode cX5_run 4 = .ok (.aload_n 0, 1) := by decide +kernel
theorem dX5_run_5 : decode cX5_run 5 = .ok (.getfield 109, 3) := by decide +kernel
theorem dX5_run_8 : decode cX5_run 8 = .ok (.iload_n 1, 1) := by decide +kernel
theorem dX5_run_9 : decode cX5_run 9 = .ok (.iadd, 1) := by decide +kernel
theorem dX5_run_10 : decode cX5_run 10 = .ok (.sipush 5000, 3) := by decide +kernel
theorem dX5_run_13 : decode cX5_run 13 = .ok (.if_icmp .le 13, 3) := by decide +kernel
theorem dX5_run_16 : decode cX5_run 16 = .ok (.new 55, 3) := by decide +kernel
theorem dX5_run_19 : decode cX5_run 19 = .ok (.dup, 1) := by decide +kernel
theorem dX5_run_20 : decode cX5_run 20 = .ok (.ldc 112, 2) := by decide +kernel
theorem dX5_run_22 : decode cX5_run 22 = .ok (.invokespecial 59, 3) := by decide +kernel
theorem dX5_run_25 : decode cX5_run 25 = .ok (.athrow, 1) := by decide +kernel
theorem dX5_run_26 : decode cX5_run 26 = .ok (.iconst 0, 1) := by decide +kernel
theorem dX5_run_27 : decode cX5_run 27 = .ok (.istore_n 2, 1) := by decide +kernel
theorem dX5_run_28 : decode cX5_run 28 = .ok (.iconst 0, 1) := by decide +kernel
theorem dX5_run_29 : decode cX5_run 29 = .ok (.istore_n 3, 1) := by decide +kernel
theorem dX5_run_30 : decode cX5_run 30 = .ok (.iload_n 3, 1) := by decide +kernel
theorem dX5_run_31 : decode cX5_run 31 = .ok (.iload_n 1, 1) := by decide +kernel
theorem dX5_run_32 : decode cX5_run 32 = .ok (.if_icmp .ge 56, 3) := by decide +kernel
theorem dX5_run_35 : decode cX5_run 35 = .ok (.iload_n 2, 1) := by decide +kernel
theorem dX5_run_36 : decode cX5_run 36 = .ok (.aload_n 0, 1) := by decide +kernel
theorem dX5_run_37 : decode cX5_run 37 = .ok (.getfield 19, 3) := by decide +kernel
theorem dX5_run_40 : decode cX5_run 40 = .ok (.aload_n 0, 1) := by decide +kernel
theorem dX5_run_41 : decode cX5_run 41 = .ok (.getfield 10, 3) := by decide +kernel
theorem dX5_run_44 : decode cX5_run 44 = .ok (.aload_n 0, 1) := by decide +kernel
theorem dX5_run_45 : decode cX5_run 45 = .ok (.getfield 29, 3) := by decide +kernel
theorem dX5_run_48 : decode cX5_run 48 = .ok (.aload_n 0, 1) := by decide +kernel
theorem dX5_run_49 : decode cX5_run 49 = .ok (.getfield 109, 3) := by decide +kernel
theorem dX5_run_52 : decode cX5_run 52 = .ok (.invokevirtual 114, 3) := by decide +kernel
theorem dX5_run_55 : decode cX5_run 55 = .ok (.iadd, 1) := by decide +kernel
theorem dX5_run_56 : decode cX5_run 56 = .ok (.istore_n 2, 1) := by decide +kernel
theorem dX5_run_57 : decode cX5_run 57 = .ok (.aload_n 0, 1) := by decide +kernel
theorem dX5_run_58 : decode cX5_run 58 = .ok (.getfield 29, 3) := by decide +kernel
theorem dX5_run_61 : decode cX5_run 61 = .ok (.aload_n 0, 1) := by decide +kernel
theorem dX5_run_62 : decode cX5_run 62 = .ok (.getfield 19, 3) := by decide +kernel
theorem dX5_run_65 : decode cX5_run 65 = .ok (.aload_n 0, 1) := by decide +kernel
theorem dX5_run_66 : decode cX5_run 66 = .ok (.getfield 109, 3) := by decide +kernel
theorem dX5_run_69 : decode cX5_run 69 = .ok (.invokevirtual 118, 3) := by decide +kernel
theorem dX5_run_72 : decode cX5_run 72 = .ok (.aload_n 0, 1) := by decide +kernel
theorem dX5_run_73 : decode cX5_run 73 = .ok (.dup, 1) := by decide +kernel
theorem dX5_run_74 : decode cX5_run 74 = .ok (.getfield 109, 3) := by decide +kernel
theorem dX5_run_77 : decode cX5_run 77 = .ok (.iconst 1, 1) := by decide +kernel
theorem dX5_run_78 : decode cX5_run 78 = .ok (.iadd, 1) := by decide +kernel
theorem dX5_run_79 : decode cX5_run 79 = .ok (.putfield 109, 3) := by decide +kernel
theorem dX5_run_82 : decode cX5_run 82 = .ok (.iinc 3 1, 3) := by decide +kernel
theorem dX5_run_85 : decode cX5_run 85 = .ok (.goto (-55), 3) := by decide +kernel
theorem dX5_run_88 : decode cX5_run 88 = .ok (.iload_n 2, 1) := by decide +kernel
theorem dX5_run_89 : decode cX5_run 89 = .ok (.ireturn, 1) := by decide +kernel
theorem dX5_clock_0 : decode cX5_clock 0 = .ok (.aload_n 0, 1) := by decide +kernel
theorem dX5_clock_1 : decode cX5_clock 1 = .ok (.getfield 109, 3) := by decide +kernel
theorem dX5_clock_4 : decode cX5_clock 4 = .ok (.ireturn, 1) := by decide +kernel
set_option maxRecDepth 20000 in
theorem ggX5_reaches_X5_needTrain : GoodIn wsX5_reaches wsX5_needTrain := goodIn_ca (goodIn_r _ [11, 12, 13, 1, 14, 72, 73, 74, 75, 76, 77, 78, 79, 80, 81, 82, 83, 84] (by decide +kernel) (by decide +kernel)) (goodIn_sub (fun _ h => List.mem_cons_of_mem _ (List.mem_append_right _ h)) (by decide +kernel))
set_option maxRecDepth 20000 in
theorem gX5_reaches_X5_needTrain : GoodIn wsX5_reaches (wsV RX5 72 RX5 yX5_needTrain wsX5_needTrain) := goodIn_app (goodIn_of _ (by decide +kernel)) ggX5_reaches_X5_needTrain
set_option maxRecDepth 20000 in
theorem ggX5_reaches_X5_needBlock : GoodIn wsX5_reaches wsX5_needBlock := goodIn_ca (goodIn_r _ [17, 12, 13] (by decide +kernel) (by decide +kernel)) (goodIn_sub (fun _ h => List.mem_cons_of_mem _ (List.mem_append_right _ h)) (by decide +kernel))
set_option maxRecDepth 20000 in
theorem gX5_reaches_X5_needBlock : GoodIn wsX5_reaches (va_wsS RX5 47 yX5_needBlock wsX5_needBlock) := goodIn_app (goodIn_of _ (by decide +kernel)) ggX5_reaches_X5_needBlock
set_option maxRecDepth 20000 in
theorem ggX5_reaches_X3_copyFrom : GoodIn wsX5_reaches wsX3_copyFrom := goodIn_r _ [22, 23, 24, 25, 26, 27, 80, 81, 82, 83, 84] (by decide +kernel) (by decide +kernel)
set_option maxRecDepth 20000 in
theorem gX5_reaches_X3_copyFrom : GoodIn wsX5_reaches (wsV RX5 122 RX3 yX3_copyFrom wsX3_copyFrom) := goodIn_app (goodIn_of _ (by decide +kernel)) ggX5_reaches_X3_copyFrom
set_option maxRecDepth 20000 in
theorem ggX5_reaches_X3_runMinute : GoodIn wsX5_reaches wsX3_runMinute := goodIn_r _ [31, 23, 32, 33, 34, 21, 35, 27, 26, 24, 25, 36, 37, 38, 39, 40, 41, 42, 43, 44, 45, 46, 47, 48, 49, 50, 51, 52, 53, 54, 55, 56, 57, 58, 59, 60, 61, 62, 63, 64, 65, 66, 67, 68, 69, 70, 71, 80, 81, 82, 83, 84, 85, 86, 87, 88, 89, 90, 91] (by decide +kernel) (by decide +kernel)
set_option maxRecDepth 20000 in
theorem gX5_reaches_X3_runMinute : GoodIn wsX5_reaches (wsV RX5 114 RX3 yX3_runMinute wsX3_runMinute) := goodIn_app (goodIn_of _ (by decide +kernel)) ggX5_reaches_X3_runMinute
theorem dX5_reaches_0 : decode cX5_reaches 0 = .ok (.aload_n 0, 1) := by decide +kernel
theorem dX5_reaches_1 : decode cX5_reaches 1 = .ok (.iload_n 1, 1) := by decide +kernel
theorem dX5_reaches_2 : decode cX5_reaches 2 = .ok (.invokevirtual 72, 3) := by decide +kernel
theorem dX5_reaches_5 : decode cX5_reaches 5 = .ok (.iload_n 2, 1) := by decide +kernel
theorem dX5_reaches_6 : decode cX5_reaches 6 = .ok (.invokestatic 47, 3) := by decide +kernel
theorem dX5_reaches_9 : decode cX5_reaches 9 = .ok (.aload_n 0, 1) := by decide +kernel
theorem dX5_reaches_10 : decode cX5_reaches 10 = .ok (.getfield 19, 3) := by decide +kernel
theorem dX5_reaches_13 : decode cX5_reaches 13 = .ok (.getfield 103, 3) := by decide +kernel
theorem dX5_reaches_16 : decode cX5_reaches 16 = .ok (.iload_n 1, 1) := by decide +kernel
theorem dX5_reaches_17 : decode cX5_reaches 17 = .ok (.iaload, 1) := by decide +kernel
theorem dX5_reaches_18 : decode cX5_reaches 18 = .ok (.iload_n 2, 1) := by decide +kernel
theorem dX5_reaches_19 : decode cX5_reaches 19 = .ok (.if_icmp .ne 5, 3) := by decide +kernel
theorem dX5_reaches_22 : decode cX5_reaches 22 = .ok (.iconst 0, 1) := by decide +kernel
theorem dX5_reaches_23 : decode cX5_reaches 23 = .ok (.ireturn, 1) := by decide +kernel
theorem dX5_reaches_24 : decode cX5_reaches 24 = .ok (.aload_n 0, 1) := by decide +kernel
theorem dX5_reaches_25 : decode cX5_reaches 25 = .ok (.getfield 23, 3) := by decide +kernel
theorem dX5_reaches_28 : decode cX5_reaches 28 = .ok (.aload_n 0, 1) := by decide +kernel
theorem dX5_reaches_29 : decode cX5_reaches 29 = .ok (.getfield 19, 3) := by decide +kernel
theorem dX5_reaches_32 : decode cX5_reaches 32 = .ok (.invokevirtual 122, 3) := by decide +kernel
theorem dX5_reaches_35 : decode cX5_reaches 35 = .ok (.iconst 1, 1) := by decide +kernel
theorem dX5_reaches_36 : decode cX5_reaches 36 = .ok (.istore_n 3, 1) := by decide +kernel
theorem dX5_reaches_37 : decode cX5_reaches 37 = .ok (.iload_n 3, 1) := by decide +kernel
theorem dX5_reaches_38 : decode cX5_reaches 38 = .ok (.bipush 100, 2) := by decide +kernel
theorem dX5_reaches_40 : decode cX5_reaches 40 = .ok (.if_icmp .gt 48, 3) := by decide +kernel
theorem dX5_reaches_43 : decode cX5_reaches 43 = .ok (.aload_n 0, 1) := by decide +kernel
theorem dX5_reaches_44 : decode cX5_reaches 44 = .ok (.getfield 23, 3) := by decide +kernel
theorem dX5_reaches_47 : decode cX5_reaches 47 = .ok (.aload_n 0, 1) := by decide +kernel
theorem dX5_reaches_48 : decode cX5_reaches 48 = .ok (.getfield 10, 3) := by decide +kernel
theorem dX5_reaches_51 : decode cX5_reaches 51 = .ok (.aload_n 0, 1) := by decide +kernel
theorem dX5_reaches_52 : decode cX5_reaches 52 = .ok (.getfield 29, 3) := by decide +kernel
theorem dX5_reaches_55 : decode cX5_reaches 55 = .ok (.aload_n 0, 1) := by decide +kernel
theorem dX5_reaches_56 : decode cX5_reaches 56 = .ok (.getfield 109, 3) := by decide +kernel
theorem dX5_reaches_59 : decode cX5_reaches 59 = .ok (.iload_n 3, 1) := by decide +kernel
theorem dX5_reaches_60 : decode cX5_reaches 60 = .ok (.iadd, 1) := by decide +kernel
theorem dX5_reaches_61 : decode cX5_reaches 61 = .ok (.iconst 1, 1) := by decide +kernel
theorem dX5_reaches_62 : decode cX5_reaches 62 = .ok (.isub, 1) := by decide +kernel
theorem dX5_reaches_63 : decode cX5_reaches 63 = .ok (.invokevirtual 114, 3) := by decide +kernel
theorem dX5_reaches_66 : decode cX5_reaches 66 = .ok (.pop, 1) := by decide +kernel
theorem dX5_reaches_67 : decode cX5_reaches 67 = .ok (.aload_n 0, 1) := by decide +kernel
theorem dX5_reaches_68 : decode cX5_reaches 68 = .ok (.getfield 23, 3) := by decide +kernel
theorem dX5_reaches_71 : decode cX5_reaches 71 = .ok (.getfield 103, 3) := by decide +kernel
theorem dX5_reaches_74 : decode cX5_reaches 74 = .ok (.iload_n 1, 1) := by decide +kernel
theorem dX5_reaches_75 : decode cX5_reaches 75 = .ok (.iaload, 1) := by decide +kernel
theorem dX5_reaches_76 : decode cX5_reaches 76 = .ok (.iload_n 2, 1) := by decide +kernel
theorem dX5_reaches_77 : decode cX5_reaches 77 = .ok (.if_icmp .ne 5, 3) := by decide +kernel
theorem dX5_reaches_80 : decode cX5_reaches 80 = .ok (.iload_n 3, 1) := by decide +kernel
theorem dX5_reaches_81 : decode cX5_reaches 81 = .ok (.ireturn, 1) := by decide +kernel
theorem dX5_reaches_82 : decode cX5_reaches 82 = .ok (.iinc 3 1, 3) := by decide +kernel
theorem dX5_reaches_85 : decode cX5_reaches 85 = .ok (.goto (-48), 3) := by decide +kernel
theorem dX5_reaches_88 : decode cX5_reaches 88 = .ok (.iconst (-1), 1) := by decide +kernel
theorem dX5_reaches_89 : decode cX5_reaches 89 = .ok (.ireturn, 1) := by decide +kernel
set_option maxRecDepth 20000 in
theorem ggX5_book_X5_needTrain : GoodIn wsX5_book wsX5_needTrain := goodIn_ca (goodIn_r _ [10, 11, 12, 13, 14, 38, 39, 40, 41, 42, 43, 44, 45, 52, 53, 54, 55, 56] (by decide +kernel) (by decide +kernel)) (goodIn_sub (fun _ h => List.mem_cons_of_mem _ (List.mem_append_left _ (List.mem_append_right _ h))) (by decide +kernel))
set_option maxRecDepth 20000 in
theorem gX5_book_X5_needTrain : GoodIn wsX5_book (wsV RX5 72 RX5 yX5_needTrain wsX5_needTrain) := goodIn_app (goodIn_of _ (by decide +kernel)) ggX5_book_X5_needTrain
set_option maxRecDepth 20000 in
theorem ggX5_book_X5_needBlock : GoodIn wsX5_book wsX5_needBlock := goodIn_ca (goodIn_r _ [17, 11, 12] (by decide +kernel) (by decide +kernel)) (goodIn_sub (fun _ h => List.mem_cons_of_mem _ (List.mem_append_left _ (List.mem_append_right _ h))) (by decide +kernel))
set_option maxRecDepth 20000 in
theorem gX5_book_X5_needBlock : GoodIn wsX5_book (va_wsS RX5 47 yX5_needBlock wsX5_needBlock) := goodIn_app (goodIn_of _ (by decide +kernel)) ggX5_book_X5_needBlock
set_option maxRecDepth 20000 in
theorem ggX5_book_X5_needSpan : GoodIn wsX5_book wsX5_needSpan := goodIn_ca (goodIn_r _ [20, 21, 22] (by decide +kernel) (by decide +kernel)) (goodIn_sub (fun _ h => List.mem_cons_of_mem _ (List.mem_append_right _ h)) (by decide +kernel))
set_option maxRecDepth 20000 in
theorem gX5_book_X5_needSpan : GoodIn wsX5_book (va_wsS RX5 126 yX5_needSpan wsX5_needSpan) := goodIn_app (goodIn_of _ (by decide +kernel)) ggX5_book_X5_needSpan
set_option maxRecDepth 20000 in
theorem ggX5_book_X0_meetsAnother : GoodIn wsX5_book wsX0_meetsAnother := goodIn_r _ [27, 28, 29, 30, 31, 32, 46, 47, 48, 49, 50, 51] (by decide +kernel) (by decide +kernel)
set_option maxRecDepth 20000 in
theorem gX5_book_X0_meetsAnother : GoodIn wsX5_book (wsV RX5 133 RX0 yX0_meetsAnother wsX0_meetsAnother) := goodIn_app (goodIn_of _ (by decide +kernel)) ggX5_book_X0_meetsAnother
set_option maxRecDepth 20000 in
theorem ggX5_book_X0_add : GoodIn wsX5_book wsX0_add := goodIn_r _ [36, 28, 30, 29, 31, 32, 37, 46, 47, 48, 49, 50, 51] (by decide +kernel) (by decide +kernel)
set_option maxRecDepth 20000 in
theorem gX5_book_X0_add : GoodIn wsX5_book (wsV RX5 137 RX0 yX0_add wsX0_add) := goodIn_app (goodIn_of _ (by decide +kernel)) ggX5_book_X0_add
theorem dX5_book_0 : decode cX5_book 0 = .ok (.aload_n 0, 1) := by decide +kernel
theorem dX5_book_1 : decode cX5_book 1 = .ok (.iload_n 1, 1) := by decide +kernel
theorem dX5_book_2 : decode cX5_book 2 = .ok (.invokevirtual 72, 3) := by decide +kernel
theorem dX5_book_5 : decode cX5_book 5 = .ok (.iload_n 2, 1) := by decide +kernel
theorem dX5_book_6 : decode cX5_book 6 = .ok (.invokestatic 47, 3) := by decide +kernel
theorem dX5_book_9 : decode cX5_book 9 = .ok (.aload_n 0, 1) := by decide +kernel
theorem dX5_book_10 : decode cX5_book 10 = .ok (.getfield 109, 3) := by decide +kernel
theorem dX5_book_13 : decode cX5_book 13 = .ok (.iload_n 3, 1) := by decide +kernel
theorem dX5_book_14 : decode cX5_book 14 = .ok (.iload 4, 2) := by decide +kernel
theorem dX5_book_16 : decode cX5_book 16 = .ok (.invokestatic 126, 3) := by decide +kernel
theorem dX5_book_19 : decode cX5_book 19 = .ok (.aload_n 0, 1) := by decide +kernel
theorem dX5_book_20 : decode cX5_book 20 = .ok (.getfield 29, 3) := by decide +kernel
theorem dX5_book_23 : decode cX5_book 23 = .ok (.getfield 130, 3) := by decide +kernel
theorem dX5_book_26 : decode cX5_book 26 = .ok (.bipush 30, 2) := by decide +kernel
theorem dX5_book_28 : decode cX5_book 28 = .ok (.if_icmp .lt 13, 3) := by decide +kernel
theorem dX5_book_31 : decode cX5_book 31 = .ok (.new 55, 3) := by decide +kernel
theorem dX5_book_34 : decode cX5_book 34 = .ok (.dup, 1) := by decide +kernel
theorem dX5_book_35 : decode cX5_book 35 = .ok (.ldc 131, 2) := by decide +kernel
theorem dX5_book_37 : decode cX5_book 37 = .ok (.invokespecial 59, 3) := by decide +kernel
theorem dX5_book_40 : decode cX5_book 40 = .ok (.athrow, 1) := by decide +kernel
theorem dX5_book_41 : decode cX5_book 41 = .ok (.aload_n 0, 1) := by decide +kernel
theorem dX5_book_42 : decode cX5_book 42 = .ok (.getfield 29, 3) := by decide +kernel
theorem dX5_book_45 : decode cX5_book 45 = .ok (.iload_n 1, 1) := by decide +kernel
theorem dX5_book_46 : decode cX5_book 46 = .ok (.iload_n 2, 1) := by decide +kernel
theorem dX5_book_47 : decode cX5_book 47 = .ok (.iload_n 3, 1) := by decide +kernel
theorem dX5_book_48 : decode cX5_book 48 = .ok (.iload 4, 2) := by decide +kernel
theorem dX5_book_50 : decode cX5_book 50 = .ok (.invokevirtual 133, 3) := by decide +kernel
theorem dX5_book_53 : decode cX5_book 53 = .ok (.ifCond .eq 5, 3) := by decide +kernel
theorem dX5_book_56 : decode cX5_book 56 = .ok (.iconst (-1), 1) := by decide +kernel
theorem dX5_book_57 : decode cX5_book 57 = .ok (.ireturn, 1) := by decide +kernel
theorem dX5_book_58 : decode cX5_book 58 = .ok (.aload_n 0, 1) := by decide +kernel
theorem dX5_book_59 : decode cX5_book 59 = .ok (.getfield 29, 3) := by decide +kernel
theorem dX5_book_62 : decode cX5_book 62 = .ok (.iload_n 1, 1) := by decide +kernel
theorem dX5_book_63 : decode cX5_book 63 = .ok (.iload_n 2, 1) := by decide +kernel
theorem dX5_book_64 : decode cX5_book 64 = .ok (.iload_n 3, 1) := by decide +kernel
theorem dX5_book_65 : decode cX5_book 65 = .ok (.iload 4, 2) := by decide +kernel
theorem dX5_book_67 : decode cX5_book 67 = .ok (.invokevirtual 137, 3) := by decide +kernel
theorem dX5_book_70 : decode cX5_book 70 = .ok (.ireturn, 1) := by decide +kernel
set_option maxRecDepth 20000 in
theorem ggX5_canBook_X5_needTrain : GoodIn wsX5_canBook wsX5_needTrain := goodIn_ca (goodIn_r _ [6, 7, 8, 9, 10, 29, 30, 31, 32, 33, 34, 35, 36, 37, 38, 39, 40, 41] (by decide +kernel) (by decide +kernel)) (goodIn_sub (fun _ h => List.mem_cons_of_mem _ (List.mem_append_left _ (List.mem_append_right _ h))) (by decide +kernel))
set_option maxRecDepth 20000 in
theorem gX5_canBook_X5_needTrain : GoodIn wsX5_canBook (wsV RX5 72 RX5 yX5_needTrain wsX5_needTrain) := goodIn_app (goodIn_of _ (by decide +kernel)) ggX5_canBook_X5_needTrain
set_option maxRecDepth 20000 in
theorem ggX5_canBook_X5_needBlock : GoodIn wsX5_canBook wsX5_needBlock := goodIn_ca (goodIn_r _ [13, 7, 8] (by decide +kernel) (by decide +kernel)) (goodIn_sub (fun _ h => List.mem_cons_of_mem _ (List.mem_append_left _ (List.mem_append_right _ h))) (by decide +kernel))
set_option maxRecDepth 20000 in
theorem gX5_canBook_X5_needBlock : GoodIn wsX5_canBook (va_wsS RX5 47 yX5_needBlock wsX5_needBlock) := goodIn_app (goodIn_of _ (by decide +kernel)) ggX5_canBook_X5_needBlock
set_option maxRecDepth 20000 in
theorem ggX5_canBook_X5_needSpan : GoodIn wsX5_canBook wsX5_needSpan := goodIn_ca (goodIn_r _ [16, 17, 18] (by decide +kernel) (by decide +kernel)) (goodIn_sub (fun _ h => List.mem_cons_of_mem _ (List.mem_append_right _ h)) (by decide +kernel))
set_option maxRecDepth 20000 in
theorem gX5_canBook_X5_needSpan : GoodIn wsX5_canBook (va_wsS RX5 126 yX5_needSpan wsX5_needSpan) := goodIn_app (goodIn_of _ (by decide +kernel)) ggX5_canBook_X5_needSpan
set_option maxRecDepth 20000 in
theorem ggX5_canBook_X0_meetsAnother : GoodIn wsX5_canBook wsX0_meetsAnother := goodIn_r _ [23, 24, 25, 26, 27, 28, 42, 43, 44, 45, 46, 47] (by decide +kernel) (by decide +kernel)
set_option maxRecDepth 20000 in
theorem gX5_canBook_X0_meetsAnother : GoodIn wsX5_canBook (wsV RX5 133 RX0 yX0_meetsAnother wsX0_meetsAnother) := goodIn_app (goodIn_of _ (by decide +kernel)) ggX5_canBook_X0_meetsAnother
theorem dX5_canBook_0 : decode cX5_canBook 0 = .ok (.aload_n 0, 1) := by decide +kernel
theorem dX5_canBook_1 : decode cX5_canBook 1 = .ok (.iload_n 1, 1) := by decide +kernel
theorem dX5_canBook_2 : decode cX5_canBook 2 = .ok (.invokevirtual 72, 3) := by decide +kernel
theorem dX5_canBook_5 : decode cX5_canBook 5 = .ok (.iload_n 2, 1) := by decide +kernel
theorem dX5_canBook_6 : decode cX5_canBook 6 = .ok (.invokestatic 47, 3) := by decide +kernel
theorem dX5_canBook_9 : decode cX5_canBook 9 = .ok (.iconst 0, 1) := by decide +kernel
theorem dX5_canBook_10 : decode cX5_canBook 10 = .ok (.iload_n 3, 1) := by decide +kernel
theorem dX5_canBook_11 : decode cX5_canBook 11 = .ok (.iload 4, 2) := by decide +kernel
theorem dX5_canBook_13 : decode cX5_canBook 13 = .ok (.invokestatic 126, 3) := by decide +kernel
theorem dX5_canBook_16 : decode cX5_canBook 16 = .ok (.aload_n 0, 1) := by decide +kernel
theorem dX5_canBook_17 : decode cX5_canBook 17 = .ok (.getfield 29, 3) := by decide +kernel
theorem dX5_canBook_20 : decode cX5_canBook 20 = .ok (.iload_n 1, 1) := by decide +kernel
theorem dX5_canBook_21 : decode cX5_canBook 21 = .ok (.iload_n 2, 1) := by decide +kernel
theorem dX5_canBook_22 : decode cX5_canBook 22 = .ok (.iload_n 3, 1) := by decide +kernel
theorem dX5_canBook_23 : decode cX5_canBook 23 = .ok (.iload 4, 2) := by decide +kernel
theorem dX5_canBook_25 : decode cX5_canBook 25 = .ok (.invokevirtual 133, 3) := by decide +kernel
theorem dX5_canBook_28 : decode cX5_canBook 28 = .ok (.ifCond .ne 7, 3) := by decide +kernel
theorem dX5_canBook_31 : decode cX5_canBook 31 = .ok (.iconst 1, 1) := by decide +kernel
theorem dX5_canBook_32 : decode cX5_canBook 32 = .ok (.goto 4, 3) := by decide +kernel
theorem dX5_canBook_35 : decode cX5_canBook 35 = .ok (.iconst 0, 1) := by decide +kernel
theorem dX5_canBook_36 : decode cX5_canBook 36 = .ok (.ireturn, 1) := by decide +kernel
set_option maxRecDepth 20000 in
theorem ggX5_canBookByMinutes_X5_needTrain : GoodIn wsX5_canBookByMinutes wsX5_needTrain := goodIn_ca (goodIn_r _ [6, 7, 8, 9, 10, 33, 34, 35, 36, 37, 38, 39, 40, 41, 42, 43, 44, 45] (by decide +kernel) (by decide +kernel)) (goodIn_sub (fun _ h => List.mem_cons_of_mem _ (List.mem_append_left _ (List.mem_append_right _ h))) (by decide +kernel))
set_option maxRecDepth 20000 in
theorem gX5_canBookByMinutes_X5_needTrain : GoodIn wsX5_canBookByMinutes (wsV RX5 72 RX5 yX5_needTrain wsX5_needTrain) := goodIn_app (goodIn_of _ (by decide +kernel)) ggX5_canBookByMinutes_X5_needTrain
set_option maxRecDepth 20000 in
theorem ggX5_canBookByMinutes_X5_needBlock : GoodIn wsX5_canBookByMinutes wsX5_needBlock := goodIn_ca (goodIn_r _ [13, 7, 8] (by decide +kernel) (by decide +kernel)) (goodIn_sub (fun _ h => List.mem_cons_of_mem _ (List.mem_append_left _ (List.mem_append_right _ h))) (by decide +kernel))
set_option maxRecDepth 20000 in
theorem gX5_canBookByMinutes_X5_needBlock : GoodIn wsX5_canBookByMinutes (va_wsS RX5 47 yX5_needBlock wsX5_needBlock) := goodIn_app (goodIn_of _ (by decide +kernel)) ggX5_canBookByMinutes_X5_needBlock
set_option maxRecDepth 20000 in
theorem ggX5_canBookByMinutes_X5_needSpan : GoodIn wsX5_canBookByMinutes wsX5_needSpan := goodIn_ca (goodIn_r _ [16, 17, 18] (by decide +kernel) (by decide +kernel)) (goodIn_sub (fun _ h => List.mem_cons_of_mem _ (List.mem_append_right _ h)) (by decide +kernel))
set_option maxRecDepth 20000 in
theorem gX5_canBookByMinutes_X5_needSpan : GoodIn wsX5_canBookByMinutes (va_wsS RX5 126 yX5_needSpan wsX5_needSpan) := goodIn_app (goodIn_of _ (by decide +kernel)) ggX5_canBookByMinutes_X5_needSpan
set_option maxRecDepth 20000 in
theorem ggX5_canBookByMinutes_X0_isForAnother : GoodIn wsX5_canBookByMinutes wsX0_isForAnother := goodIn_r _ [23, 24, 25, 26, 27, 28, 29, 22, 30, 31, 32, 46, 47, 48, 49, 50, 51] (by decide +kernel) (by decide +kernel)
set_option maxRecDepth 20000 in
theorem gX5_canBookByMinutes_X0_isForAnother : GoodIn wsX5_canBookByMinutes (wsV RX5 140 RX0 yX0_isForAnother wsX0_isForAnother) := goodIn_app (goodIn_of _ (by decide +kernel)) ggX5_canBookByMinutes_X0_isForAnother
theorem dX5_canBookByMinutes_0 : decode cX5_canBookByMinutes 0 = .ok (.aload_n 0, 1) := by decide +kernel
theorem dX5_canBookByMinutes_1 : decode cX5_canBookByMinutes 1 = .ok (.iload_n 1, 1) := by decide +kernel
theorem dX5_canBookByMinutes_2 : decode cX5_canBookByMinutes 2 = .ok (.invokevirtual 72, 3) := by decide +kernel
theorem dX5_canBookByMinutes_5 : decode cX5_canBookByMinutes 5 = .ok (.iload_n 2, 1) := by decide +kernel
theorem dX5_canBookByMinutes_6 : decode cX5_canBookByMinutes 6 = .ok (.invokestatic 47, 3) := by decide +kernel
theorem dX5_canBookByMinutes_9 : decode cX5_canBookByMinutes 9 = .ok (.iconst 0, 1) := by decide +kernel
theorem dX5_canBookByMinutes_10 : decode cX5_canBookByMinutes 10 = .ok (.iload_n 3, 1) := by decide +kernel
theorem dX5_canBookByMinutes_11 : decode cX5_canBookByMinutes 11 = .ok (.iload 4, 2) := by decide +kernel
theorem dX5_canBookByMinutes_13 : decode cX5_canBookByMinutes 13 = .ok (.invokestatic 126, 3) := by decide +kernel
theorem dX5_canBookByMinutes_16 : decode cX5_canBookByMinutes 16 = .ok (.iload_n 3, 1) := by decide +kernel
theorem dX5_canBookByMinutes_17 : decode cX5_canBookByMinutes 17 = .ok (.istore 5, 2) := by decide +kernel
theorem dX5_canBookByMinutes_19 : decode cX5_canBookByMinutes 19 = .ok (.iload 5, 2) := by decide +kernel
theorem dX5_canBookByMinutes_21 : decode cX5_canBookByMinutes 21 = .ok (.iload 4, 2) := by decide +kernel
theorem dX5_canBookByMinutes_23 : decode cX5_canBookByMinutes 23 = .ok (.if_icmp .gt 25, 3) := by decide +kernel
theorem dX5_canBookByMinutes_26 : decode cX5_canBookByMinutes 26 = .ok (.aload_n 0, 1) := by decide +kernel
theorem dX5_canBookByMinutes_27 : decode cX5_canBookByMinutes 27 = .ok (.getfield 29, 3) := by decide +kernel
theorem dX5_canBookByMinutes_30 : decode cX5_canBookByMinutes 30 = .ok (.iload_n 1, 1) := by decide +kernel
theorem dX5_canBookByMinutes_31 : decode cX5_canBookByMinutes 31 = .ok (.iload_n 2, 1) := by decide +kernel
theorem dX5_canBookByMinutes_32 : decode cX5_canBookByMinutes 32 = .ok (.iload 5, 2) := by decide +kernel
theorem dX5_canBookByMinutes_34 : decode cX5_canBookByMinutes 34 = .ok (.invokevirtual 140, 3) := by decide +kernel
theorem dX5_canBookByMinutes_37 : decode cX5_canBookByMinutes 37 = .ok (.ifCond .eq 5, 3) := by decide +kernel
theorem dX5_canBookByMinutes_40 : decode cX5_canBookByMinutes 40 = .ok (.iconst 0, 1) := by decide +kernel
theorem dX5_canBookByMinutes_41 : decode cX5_canBookByMinutes 41 = .ok (.ireturn, 1) := by decide +kernel
theorem dX5_canBookByMinutes_42 : decode cX5_canBookByMinutes 42 = .ok (.iinc 5 1, 3) := by decide +kernel
theorem dX5_canBookByMinutes_45 : decode cX5_canBookByMinutes 45 = .ok (.goto (-26), 3) := by decide +kernel
theorem dX5_canBookByMinutes_48 : decode cX5_canBookByMinutes 48 = .ok (.iconst 1, 1) := by decide +kernel
theorem dX5_canBookByMinutes_49 : decode cX5_canBookByMinutes 49 = .ok (.ireturn, 1) := by decide +kernel
set_option maxRecDepth 20000 in
theorem ggX5_booking_X5_needBooking : GoodIn wsX5_booking wsX5_needBooking := goodIn_ca (goodIn_r _ [9, 10, 11, 1, 12, 13, 14, 15, 16, 17, 18, 19, 20, 21, 22, 23, 24, 25, 26] (by decide +kernel) (by decide +kernel)) (goodIn_sub (fun _ h => List.mem_cons_of_mem _ (List.mem_append_right _ h)) (by decide +kernel))
set_option maxRecDepth 20000 in
theorem gX5_booking_X5_needBooking : GoodIn wsX5_booking (wsV RX5 144 RX5 yX5_needBooking wsX5_needBooking) := goodIn_app (goodIn_of _ (by decide +kernel)) ggX5_booking_X5_needBooking
theorem dX5_booking_0 : decode cX5_booking 0 = .ok (.aload_n 0, 1) := by decide +kernel
theorem dX5_booking_1 : decode cX5_booking 1 = .ok (.iload_n 1, 1) := by decide +kernel
theorem dX5_booking_2 : decode cX5_booking 2 = .ok (.invokevirtual 144, 3) := by decide +kernel
theorem dX5_booking_5 : decode cX5_booking 5 = .ok (.aload_n 0, 1) := by decide +kernel
theorem dX5_booking_6 : decode cX5_booking 6 = .ok (.getfield 29, 3) := by decide +kernel
theorem dX5_booking_9 : decode cX5_booking 9 = .ok (.getfield 147, 3) := by decide +kernel
theorem dX5_booking_12 : decode cX5_booking 12 = .ok (.iload_n 1, 1) := by decide +kernel
theorem dX5_booking_13 : decode cX5_booking 13 = .ok (.iaload, 1) := by decide +kernel
theorem dX5_booking_14 : decode cX5_booking 14 = .ok (.iconst (-1), 1) := by decide +kernel
theorem dX5_booking_15 : decode cX5_booking 15 = .ok (.if_icmp .eq 5, 3) := by decide +kernel
theorem dX5_booking_18 : decode cX5_booking 18 = .ok (.iconst 1, 1) := by decide +kernel
theorem dX5_booking_19 : decode cX5_booking 19 = .ok (.ireturn, 1) := by decide +kernel
theorem dX5_booking_20 : decode cX5_booking 20 = .ok (.aload_n 0, 1) := by decide +kernel
theorem dX5_booking_21 : decode cX5_booking 21 = .ok (.getfield 29, 3) := by decide +kernel
theorem dX5_booking_24 : decode cX5_booking 24 = .ok (.getfield 150, 3) := by decide +kernel
theorem dX5_booking_27 : decode cX5_booking 27 = .ok (.iload_n 1, 1) := by decide +kernel
theorem dX5_booking_28 : decode cX5_booking 28 = .ok (.iaload, 1) := by decide +kernel
theorem dX5_booking_29 : decode cX5_booking 29 = .ok (.aload_n 0, 1) := by decide +kernel
theorem dX5_booking_30 : decode cX5_booking 30 = .ok (.getfield 109, 3) := by decide +kernel
theorem dX5_booking_33 : decode cX5_booking 33 = .ok (.if_icmp .ge 7, 3) := by decide +kernel
theorem dX5_booking_36 : decode cX5_booking 36 = .ok (.iconst 2, 1) := by decide +kernel
theorem dX5_booking_37 : decode cX5_booking 37 = .ok (.goto 4, 3) := by decide +kernel
theorem dX5_booking_40 : decode cX5_booking 40 = .ok (.iconst 0, 1) := by decide +kernel
theorem dX5_booking_41 : decode cX5_booking 41 = .ok (.ireturn, 1) := by decide +kernel
set_option maxRecDepth 20000 in
theorem ggX5_late_X5_needBooking : GoodIn wsX5_late wsX5_needBooking := goodIn_ca (goodIn_r _ [7, 8, 9, 1, 10, 11, 12, 13, 14, 15, 16, 17, 18, 19, 20, 21, 22, 23, 24] (by decide +kernel) (by decide +kernel)) (goodIn_sub (fun _ h => List.mem_cons_of_mem _ (List.mem_append_right _ h)) (by decide +kernel))
set_option maxRecDepth 20000 in
theorem gX5_late_X5_needBooking : GoodIn wsX5_late (wsV RX5 144 RX5 yX5_needBooking wsX5_needBooking) := goodIn_app (goodIn_of _ (by decide +kernel)) ggX5_late_X5_needBooking
theorem dX5_late_0 : decode cX5_late 0 = .ok (.aload_n 0, 1) := by decide +kernel
theorem dX5_late_1 : decode cX5_late 1 = .ok (.iload_n 1, 1) := by decide +kernel
theorem dX5_late_2 : decode cX5_late 2 = .ok (.invokevirtual 144, 3) := by decide +kernel
theorem dX5_late_5 : decode cX5_late 5 = .ok (.aload_n 0, 1) := by decide +kernel
theorem dX5_late_6 : decode cX5_late 6 = .ok (.getfield 29, 3) := by decide +kernel
theorem dX5_late_9 : decode cX5_late 9 = .ok (.getfield 147, 3) := by decide +kernel
theorem dX5_late_12 : decode cX5_late 12 = .ok (.iload_n 1, 1) := by decide +kernel
theorem dX5_late_13 : decode cX5_late 13 = .ok (.iaload, 1) := by decide +kernel
theorem dX5_late_14 : decode cX5_late 14 = .ok (.ireturn, 1) := by decide +kernel
set_option maxRecDepth 20000 in
theorem ggX5_addWaggon_X5_needSiding : GoodIn wsX5_addWaggon wsX5_needSiding := goodIn_ca (goodIn_r _ [10, 11, 12, 13, 14, 9, 15] (by decide +kernel) (by decide +kernel)) (goodIn_sub (fun _ h => List.mem_cons_of_mem _ (List.mem_append_right _ h)) (by decide +kernel))
set_option maxRecDepth 20000 in
theorem gX5_addWaggon_X5_needSiding : GoodIn wsX5_addWaggon (va_wsS RX5 153 yX5_needSiding wsX5_needSiding) := goodIn_app (goodIn_of _ (by decide +kernel)) ggX5_addWaggon_X5_needSiding
set_option maxRecDepth 20000 in
theorem ggX5_addWaggon_X5_needRoomIn : GoodIn wsX5_addWaggon wsX5_needRoomIn := goodIn_ca (goodIn_r _ [19, 3, 4, 5, 20, 21, 22, 23, 24, 37, 38, 39, 40, 41, 42, 43, 44, 45, 46, 47, 48] (by decide +kernel) (by decide +kernel)) (goodIn_sub (fun _ h => List.mem_cons_of_mem _ (List.mem_append_left _ (List.mem_append_right _ h))) (by decide +kernel))
set_option maxRecDepth 20000 in
theorem gX5_addWaggon_X5_needRoomIn : GoodIn wsX5_addWaggon (wsV RX5 161 RX5 yX5_needRoomIn wsX5_needRoomIn) := goodIn_app (goodIn_of _ (by decide +kernel)) ggX5_addWaggon_X5_needRoomIn
set_option maxRecDepth 20000 in
theorem ggX5_addWaggon_X4_rowOfSiding : GoodIn wsX5_addWaggon wsX4_rowOfSiding := goodIn_r _ [24] (by decide +kernel) (by decide +kernel)
set_option maxRecDepth 20000 in
theorem gX5_addWaggon_X4_rowOfSiding : GoodIn wsX5_addWaggon (va_wsS RX5 164 yX4_rowOfSiding wsX4_rowOfSiding) := goodIn_app (goodIn_of _ (by decide +kernel)) ggX5_addWaggon_X4_rowOfSiding
set_option maxRecDepth 20000 in
theorem ggX5_addWaggon_X4_add : GoodIn wsX5_addWaggon wsX4_add := goodIn_r _ [28, 29, 30, 31, 32, 33, 23, 34, 35, 36, 45, 46, 47, 48] (by decide +kernel) (by decide +kernel)
set_option maxRecDepth 20000 in
theorem gX5_addWaggon_X4_add : GoodIn wsX5_addWaggon (wsV RX5 167 RX4 yX4_add wsX4_add) := goodIn_app (goodIn_of _ (by decide +kernel)) ggX5_addWaggon_X4_add
theorem dX5_addWaggon_0 : decode cX5_addWaggon 0 = .ok (.iload_n 1, 1) := by decide +kernel
theorem dX5_addWaggon_1 : decode cX5_addWaggon 1 = .ok (.invokestatic 153, 3) := by decide +kernel
theorem dX5_addWaggon_4 : decode cX5_addWaggon 4 = .ok (.iload_n 2, 1) := by decide +kernel
theorem dX5_addWaggon_5 : decode cX5_addWaggon 5 = .ok (.iconst 1, 1) := by decide +kernel
theorem dX5_addWaggon_6 : decode cX5_addWaggon 6 = .ok (.if_icmp .lt 9, 3) := by decide +kernel
theorem dX5_addWaggon_9 : decode cX5_addWaggon 9 = .ok (.iload_n 2, 1) := by decide +kernel
theorem dX5_addWaggon_10 : decode cX5_addWaggon 10 = .ok (.bipush 100, 2) := by decide +kernel
theorem dX5_addWaggon_12 : decode cX5_addWaggon 12 = .ok (.if_icmp .le 13, 3) := by decide +kernel
theorem dX5_addWaggon_15 : decode cX5_addWaggon 15 = .ok (.new 86, 3) := by decide +kernel
theorem dX5_addWaggon_18 : decode cX5_addWaggon 18 = .ok (.dup, 1) := by decide +kernel
theorem dX5_addWaggon_19 : decode cX5_addWaggon 19 = .ok (.ldc 156, 2) := by decide +kernel
theorem dX5_addWaggon_21 : decode cX5_addWaggon 21 = .ok (.invokespecial 90, 3) := by decide +kernel
theorem dX5_addWaggon_24 : decode cX5_addWaggon 24 = .ok (.athrow, 1) := by decide +kernel
theorem dX5_addWaggon_25 : decode cX5_addWaggon 25 = .ok (.aload_n 0, 1) := by decide +kernel
theorem dX5_addWaggon_26 : decode cX5_addWaggon 26 = .ok (.getfield 36, 3) := by decide +kernel
theorem dX5_addWaggon_29 : decode cX5_addWaggon 29 = .ok (.getfield 158, 3) := by decide +kernel
theorem dX5_addWaggon_32 : decode cX5_addWaggon 32 = .ok (.bipush 8, 2) := by decide +kernel
theorem dX5_addWaggon_34 : decode cX5_addWaggon 34 = .ok (.if_icmp .lt 13, 3) := by decide +kernel
theorem dX5_addWaggon_37 : decode cX5_addWaggon 37 = .ok (.new 55, 3) := by decide +kernel
theorem dX5_addWaggon_40 : decode cX5_addWaggon 40 = .ok (.dup, 1) := by decide +kernel
theorem dX5_addWaggon_41 : decode cX5_addWaggon 41 = .ok (.ldc 159, 2) := by decide +kernel
theorem dX5_addWaggon_43 : decode cX5_addWaggon 43 = .ok (.invokespecial 59, 3) := by decide +kernel
theorem dX5_addWaggon_46 : decode cX5_addWaggon 46 = .ok (.athrow, 1) := by decide +kernel
theorem dX5_addWaggon_47 : decode cX5_addWaggon 47 = .ok (.aload_n 0, 1) := by decide +kernel
theorem dX5_addWaggon_48 : decode cX5_addWaggon 48 = .ok (.iload_n 1, 1) := by decide +kernel
theorem dX5_addWaggon_49 : decode cX5_addWaggon 49 = .ok (.invokevirtual 161, 3) := by decide +kernel
theorem dX5_addWaggon_52 : decode cX5_addWaggon 52 = .ok (.aload_n 0, 1) := by decide +kernel
theorem dX5_addWaggon_53 : decode cX5_addWaggon 53 = .ok (.getfield 36, 3) := by decide +kernel
theorem dX5_addWaggon_56 : decode cX5_addWaggon 56 = .ok (.iload_n 1, 1) := by decide +kernel
theorem dX5_addWaggon_57 : decode cX5_addWaggon 57 = .ok (.invokestatic 164, 3) := by decide +kernel
theorem dX5_addWaggon_60 : decode cX5_addWaggon 60 = .ok (.iload_n 2, 1) := by decide +kernel
theorem dX5_addWaggon_61 : decode cX5_addWaggon 61 = .ok (.invokevirtual 167, 3) := by decide +kernel
theorem dX5_addWaggon_64 : decode cX5_addWaggon 64 = .ok (.ireturn, 1) := by decide +kernel
set_option maxRecDepth 20000 in
theorem ggX5_offer_X5_needSiding : GoodIn wsX5_offer wsX5_needSiding := goodIn_ca (goodIn_r _ [11, 1, 2, 12, 13, 10, 14] (by decide +kernel) (by decide +kernel)) (goodIn_sub (fun _ h => List.mem_cons_of_mem _ (List.mem_append_left _ (List.mem_append_right _ h))) (by decide +kernel))
set_option maxRecDepth 20000 in
theorem gX5_offer_X5_needSiding : GoodIn wsX5_offer (va_wsS RX5 153 yX5_needSiding wsX5_needSiding) := goodIn_app (goodIn_of _ (by decide +kernel)) ggX5_offer_X5_needSiding
set_option maxRecDepth 20000 in
theorem ggX5_offer_X1_put : GoodIn wsX5_offer wsX1_put := goodIn_r _ [19, 20, 21, 22, 35, 36, 37] (by decide +kernel) (by decide +kernel)
set_option maxRecDepth 20000 in
theorem gX5_offer_X1_put : GoodIn wsX5_offer (wsV RX5 176 RX1 yX1_put wsX1_put) := goodIn_app (goodIn_of _ (by decide +kernel)) ggX5_offer_X1_put
theorem dX5_offer_0 : decode cX5_offer 0 = .ok (.iload_n 1, 1) := by decide +kernel
theorem dX5_offer_1 : decode cX5_offer 1 = .ok (.ifCond .lt 14, 3) := by decide +kernel
theorem dX5_offer_4 : decode cX5_offer 4 = .ok (.iload_n 1, 1) := by decide +kernel
theorem dX5_offer_5 : decode cX5_offer 5 = .ok (.aload_n 0, 1) := by decide +kernel
theorem dX5_offer_6 : decode cX5_offer 6 = .ok (.getfield 36, 3) := by decide +kernel
theorem dX5_offer_9 : decode cX5_offer 9 = .ok (.getfield 158, 3) := by decide +kernel
theorem dX5_offer_12 : decode cX5_offer 12 = .ok (.if_icmp .lt 13, 3) := by decide +kernel
theorem dX5_offer_15 : decode cX5_offer 15 = .ok (.new 95, 3) := by decide +kernel
theorem dX5_offer_18 : decode cX5_offer 18 = .ok (.dup, 1) := by decide +kernel
theorem dX5_offer_19 : decode cX5_offer 19 = .ok (.ldc 170, 2) := by decide +kernel
theorem dX5_offer_21 : decode cX5_offer 21 = .ok (.invokespecial 99, 3) := by decide +kernel
theorem dX5_offer_24 : decode cX5_offer 24 = .ok (.athrow, 1) := by decide +kernel
theorem dX5_offer_25 : decode cX5_offer 25 = .ok (.iload_n 2, 1) := by decide +kernel
theorem dX5_offer_26 : decode cX5_offer 26 = .ok (.invokestatic 153, 3) := by decide +kernel
theorem dX5_offer_29 : decode cX5_offer 29 = .ok (.iload_n 3, 1) := by decide +kernel
theorem dX5_offer_30 : decode cX5_offer 30 = .ok (.ifCond .lt 10, 3) := by decide +kernel
theorem dX5_offer_33 : decode cX5_offer 33 = .ok (.iload_n 3, 1) := by decide +kernel
theorem dX5_offer_34 : decode cX5_offer 34 = .ok (.sipush 5000, 3) := by decide +kernel
theorem dX5_offer_37 : decode cX5_offer 37 = .ok (.if_icmp .le 13, 3) := by decide +kernel
theorem dX5_offer_40 : decode cX5_offer 40 = .ok (.new 86, 3) := by decide +kernel
theorem dX5_offer_43 : decode cX5_offer 43 = .ok (.dup, 1) := by decide +kernel
theorem dX5_offer_44 : decode cX5_offer 44 = .ok (.ldc 172, 2) := by decide +kernel
theorem dX5_offer_46 : decode cX5_offer 46 = .ok (.invokespecial 90, 3) := by decide +kernel
theorem dX5_offer_49 : decode cX5_offer 49 = .ok (.athrow, 1) := by decide +kernel
theorem dX5_offer_50 : decode cX5_offer 50 = .ok (.iload 4, 2) := by decide +kernel
theorem dX5_offer_52 : decode cX5_offer 52 = .ok (.iconst 1, 1) := by decide +kernel
theorem dX5_offer_53 : decode cX5_offer 53 = .ok (.if_icmp .lt 11, 3) := by decide +kernel
theorem dX5_offer_56 : decode cX5_offer 56 = .ok (.iload 4, 2) := by decide +kernel
theorem dX5_offer_58 : decode cX5_offer 58 = .ok (.sipush 1000, 3) := by decide +kernel
theorem dX5_offer_61 : decode cX5_offer 61 = .ok (.if_icmp .le 13, 3) := by decide +kernel
theorem dX5_offer_64 : decode cX5_offer 64 = .ok (.new 86, 3) := by decide +kernel
theorem dX5_offer_67 : decode cX5_offer 67 = .ok (.dup, 1) := by decide +kernel
theorem dX5_offer_68 : decode cX5_offer 68 = .ok (.ldc 174, 2) := by decide +kernel
theorem dX5_offer_70 : decode cX5_offer 70 = .ok (.invokespecial 90, 3) := by decide +kernel
theorem dX5_offer_73 : decode cX5_offer 73 = .ok (.athrow, 1) := by decide +kernel
theorem dX5_offer_74 : decode cX5_offer 74 = .ok (.aload_n 0, 1) := by decide +kernel
theorem dX5_offer_75 : decode cX5_offer 75 = .ok (.getfield 43, 3) := by decide +kernel
theorem dX5_offer_78 : decode cX5_offer 78 = .ok (.iload_n 1, 1) := by decide +kernel
theorem dX5_offer_79 : decode cX5_offer 79 = .ok (.iload_n 2, 1) := by decide +kernel
theorem dX5_offer_80 : decode cX5_offer 80 = .ok (.iload_n 3, 1) := by decide +kernel
theorem dX5_offer_81 : decode cX5_offer 81 = .ok (.iload 4, 2) := by decide +kernel
theorem dX5_offer_83 : decode cX5_offer 83 = .ok (.invokevirtual 176, 3) := by decide +kernel
theorem dX5_offer_86 : decode cX5_offer 86 = .ok (.return_, 1) := by decide +kernel
set_option maxRecDepth 20000 in
theorem ggX5_couple_X5_needTrain : GoodIn wsX5_couple wsX5_needTrain := goodIn_ca (goodIn_r _ [9, 10, 11, 12, 13, 53, 54, 55, 56, 57, 58, 59, 60, 65, 66, 67, 68, 69] (by decide +kernel) (by decide +kernel)) (goodIn_sub (fun _ h => List.mem_cons_of_mem _ (List.mem_append_right _ h)) (by decide +kernel))
set_option maxRecDepth 20000 in
theorem gX5_couple_X5_needTrain : GoodIn wsX5_couple (wsV RX5 72 RX5 yX5_needTrain wsX5_needTrain) := goodIn_app (goodIn_of _ (by decide +kernel)) ggX5_couple_X5_needTrain
set_option maxRecDepth 20000 in
theorem ggX5_couple_X5_sidingUnder : GoodIn wsX5_couple wsX5_sidingUnder := goodIn_ca (goodIn_r _ [17, 1, 2, 12, 18, 19, 20, 8, 21, 53, 54, 55, 56, 57, 58, 59, 60, 65, 66, 67, 68, 69] (by decide +kernel) (by decide +kernel)) (goodIn_sub (fun _ h => List.mem_cons_of_mem _ (List.mem_append_left _ (List.mem_append_right _ h))) (by decide +kernel))
set_option maxRecDepth 20000 in
theorem gX5_couple_X5_sidingUnder : GoodIn wsX5_couple (wsV RX5 180 RX5 yX5_sidingUnder wsX5_sidingUnder) := goodIn_app (goodIn_of _ (by decide +kernel)) ggX5_couple_X5_sidingUnder
set_option maxRecDepth 20000 in
theorem ggX5_couple_X4_rowOfSiding : GoodIn wsX5_couple wsX4_rowOfSiding := goodIn_r _ [25] (by decide +kernel) (by decide +kernel)
set_option maxRecDepth 20000 in
theorem gX5_couple_X4_rowOfSiding : GoodIn wsX5_couple (va_wsS RX5 164 yX4_rowOfSiding wsX4_rowOfSiding) := goodIn_app (goodIn_of _ (by decide +kernel)) ggX5_couple_X4_rowOfSiding
set_option maxRecDepth 20000 in
theorem ggX5_couple_X4_rowOfTrain : GoodIn wsX5_couple wsX4_rowOfTrain := goodIn_r _ [28] (by decide +kernel) (by decide +kernel)
set_option maxRecDepth 20000 in
theorem gX5_couple_X4_rowOfTrain : GoodIn wsX5_couple (va_wsS RX5 183 yX4_rowOfTrain wsX4_rowOfTrain) := goodIn_app (goodIn_of _ (by decide +kernel)) ggX5_couple_X4_rowOfTrain
set_option maxRecDepth 20000 in
theorem ggX5_couple_X4_lastOf : GoodIn wsX5_couple wsX4_lastOf := goodIn_r _ [32, 33, 34, 35, 24, 36, 37, 38, 61, 62, 63, 64] (by decide +kernel) (by decide +kernel)
set_option maxRecDepth 20000 in
theorem gX5_couple_X4_lastOf : GoodIn wsX5_couple (wsV RX5 186 RX4 yX4_lastOf wsX4_lastOf) := goodIn_app (goodIn_of _ (by decide +kernel)) ggX5_couple_X4_lastOf
set_option maxRecDepth 20000 in
theorem ggX5_couple_X4_weightOf : GoodIn wsX5_couple wsX4_weightOf := goodIn_r _ [42, 37, 43, 38, 61, 62, 63, 64] (by decide +kernel) (by decide +kernel)
set_option maxRecDepth 20000 in
theorem gX5_couple_X4_weightOf : GoodIn wsX5_couple (wsV RX5 191 RX4 yX4_weightOf wsX4_weightOf) := goodIn_app (goodIn_of _ (by decide +kernel)) ggX5_couple_X4_weightOf
set_option maxRecDepth 20000 in
theorem ggX5_couple_X4_moveLast : GoodIn wsX5_couple wsX4_moveLast := goodIn_r _ [47, 37, 48, 30, 31, 24, 32, 33, 34, 35, 36, 38, 49, 50, 51, 52, 61, 62, 63, 64] (by decide +kernel) (by decide +kernel)
set_option maxRecDepth 20000 in
theorem gX5_couple_X4_moveLast : GoodIn wsX5_couple (wsV RX5 199 RX4 yX4_moveLast wsX4_moveLast) := goodIn_app (goodIn_of _ (by decide +kernel)) ggX5_couple_X4_moveLast
theorem dX5_couple_0 : decode cX5_couple 0 = .ok (.aload_n 0, 1) := by decide +kernel
theorem dX5_couple_1 : decode cX5_couple 1 = .ok (.iload_n 1, 1) := by decide +kernel
theorem dX5_couple_2 : decode cX5_couple 2 = .ok (.invokevirtual 72, 3) := by decide +kernel
theorem dX5_couple_5 : decode cX5_couple 5 = .ok (.aload_n 0, 1) := by decide +kernel
theorem dX5_couple_6 : decode cX5_couple 6 = .ok (.iload_n 1, 1) := by decide +kernel
theorem dX5_couple_7 : decode cX5_couple 7 = .ok (.invokevirtual 180, 3) := by decide +kernel
theorem dX5_couple_10 : decode cX5_couple 10 = .ok (.invokestatic 164, 3) := by decide +kernel
theorem dX5_couple_13 : decode cX5_couple 13 = .ok (.istore_n 2, 1) := by decide +kernel
theorem dX5_couple_14 : decode cX5_couple 14 = .ok (.iload_n 1, 1) := by decide +kernel
theorem dX5_couple_15 : decode cX5_couple 15 = .ok (.invokestatic 183, 3) := by decide +kernel
theorem dX5_couple_18 : decode cX5_couple 18 = .ok (.istore_n 3, 1) := by decide +kernel
theorem dX5_couple_19 : decode cX5_couple 19 = .ok (.aload_n 0, 1) := by decide +kernel
theorem dX5_couple_20 : decode cX5_couple 20 = .ok (.getfield 36, 3) := by decide +kernel
theorem dX5_couple_23 : decode cX5_couple 23 = .ok (.iload_n 2, 1) := by decide +kernel
theorem dX5_couple_24 : decode cX5_couple 24 = .ok (.invokevirtual 186, 3) := by decide +kernel
theorem dX5_couple_27 : decode cX5_couple 27 = .ok (.istore 4, 2) := by decide +kernel
theorem dX5_couple_29 : decode cX5_couple 29 = .ok (.iload 4, 2) := by decide +kernel
theorem dX5_couple_31 : decode cX5_couple 31 = .ok (.iconst (-1), 1) := by decide +kernel
theorem dX5_couple_32 : decode cX5_couple 32 = .ok (.if_icmp .ne 13, 3) := by decide +kernel
theorem dX5_couple_35 : decode cX5_couple 35 = .ok (.new 55, 3) := by decide +kernel
theorem dX5_couple_38 : decode cX5_couple 38 = .ok (.dup, 1) := by decide +kernel
theorem dX5_couple_39 : decode cX5_couple 39 = .ok (.ldc 189, 2) := by decide +kernel
theorem dX5_couple_41 : decode cX5_couple 41 = .ok (.invokespecial 59, 3) := by decide +kernel
theorem dX5_couple_44 : decode cX5_couple 44 = .ok (.athrow, 1) := by decide +kernel
theorem dX5_couple_45 : decode cX5_couple 45 = .ok (.aload_n 0, 1) := by decide +kernel
theorem dX5_couple_46 : decode cX5_couple 46 = .ok (.getfield 36, 3) := by decide +kernel
theorem dX5_couple_49 : decode cX5_couple 49 = .ok (.iload_n 3, 1) := by decide +kernel
theorem dX5_couple_50 : decode cX5_couple 50 = .ok (.invokevirtual 191, 3) := by decide +kernel
theorem dX5_couple_53 : decode cX5_couple 53 = .ok (.aload_n 0, 1) := by decide +kernel
theorem dX5_couple_54 : decode cX5_couple 54 = .ok (.getfield 36, 3) := by decide +kernel
theorem dX5_couple_57 : decode cX5_couple 57 = .ok (.getfield 194, 3) := by decide +kernel
theorem dX5_couple_60 : decode cX5_couple 60 = .ok (.iload 4, 2) := by decide +kernel
theorem dX5_couple_62 : decode cX5_couple 62 = .ok (.iaload, 1) := by decide +kernel
theorem dX5_couple_63 : decode cX5_couple 63 = .ok (.iadd, 1) := by decide +kernel
theorem dX5_couple_64 : decode cX5_couple 64 = .ok (.bipush 100, 2) := by decide +kernel
theorem dX5_couple_66 : decode cX5_couple 66 = .ok (.if_icmp .le 13, 3) := by decide +kernel
theorem dX5_couple_69 : decode cX5_couple 69 = .ok (.new 55, 3) := by decide +kernel
theorem dX5_couple_72 : decode cX5_couple 72 = .ok (.dup, 1) := by decide +kernel
theorem dX5_couple_73 : decode cX5_couple 73 = .ok (.ldc 197, 2) := by decide +kernel
theorem dX5_couple_75 : decode cX5_couple 75 = .ok (.invokespecial 59, 3) := by decide +kernel
theorem dX5_couple_78 : decode cX5_couple 78 = .ok (.athrow, 1) := by decide +kernel
theorem dX5_couple_79 : decode cX5_couple 79 = .ok (.aload_n 0, 1) := by decide +kernel
theorem dX5_couple_80 : decode cX5_couple 80 = .ok (.getfield 36, 3) := by decide +kernel
theorem dX5_couple_83 : decode cX5_couple 83 = .ok (.iload_n 2, 1) := by decide +kernel
theorem dX5_couple_84 : decode cX5_couple 84 = .ok (.iload_n 3, 1) := by decide +kernel
theorem dX5_couple_85 : decode cX5_couple 85 = .ok (.invokevirtual 199, 3) := by decide +kernel
theorem dX5_couple_88 : decode cX5_couple 88 = .ok (.iload 4, 2) := by decide +kernel
theorem dX5_couple_90 : decode cX5_couple 90 = .ok (.ireturn, 1) := by decide +kernel
set_option maxRecDepth 20000 in
theorem ggX5_leave_X5_needTrain : GoodIn wsX5_leave wsX5_needTrain := goodIn_ca (goodIn_r _ [11, 12, 13, 14, 15, 70, 71, 72, 73, 74, 75, 76, 77, 78, 79, 80, 81, 82] (by decide +kernel) (by decide +kernel)) (goodIn_sub (fun _ h => List.mem_cons_of_mem _ (List.mem_append_right _ h)) (by decide +kernel))
set_option maxRecDepth 20000 in
theorem gX5_leave_X5_needTrain : GoodIn wsX5_leave (wsV RX5 72 RX5 yX5_needTrain wsX5_needTrain) := goodIn_app (goodIn_of _ (by decide +kernel)) ggX5_leave_X5_needTrain
set_option maxRecDepth 20000 in
theorem ggX5_leave_X5_sidingUnder : GoodIn wsX5_leave wsX5_sidingUnder := goodIn_ca (goodIn_r _ [19, 1, 2, 14, 20, 21, 22, 10, 23, 70, 71, 72, 73, 74, 75, 76, 77, 78, 79, 80, 81, 82] (by decide +kernel) (by decide +kernel)) (goodIn_sub (fun _ h => List.mem_cons_of_mem _ (List.mem_append_left _ (List.mem_append_right _ h))) (by decide +kernel))
set_option maxRecDepth 20000 in
theorem gX5_leave_X5_sidingUnder : GoodIn wsX5_leave (wsV RX5 180 RX5 yX5_sidingUnder wsX5_sidingUnder) := goodIn_app (goodIn_of _ (by decide +kernel)) ggX5_leave_X5_sidingUnder
set_option maxRecDepth 20000 in
theorem ggX5_leave_X4_rowOfTrain : GoodIn wsX5_leave wsX4_rowOfTrain := goodIn_r _ [27] (by decide +kernel) (by decide +kernel)
set_option maxRecDepth 20000 in
theorem gX5_leave_X4_rowOfTrain : GoodIn wsX5_leave (va_wsS RX5 183 yX4_rowOfTrain wsX4_rowOfTrain) := goodIn_app (goodIn_of _ (by decide +kernel)) ggX5_leave_X4_rowOfTrain
set_option maxRecDepth 20000 in
theorem ggX5_leave_X4_lastOf : GoodIn wsX5_leave wsX4_lastOf := goodIn_r _ [31, 32, 33, 34, 26, 35, 36, 37, 83, 84, 85, 86] (by decide +kernel) (by decide +kernel)
set_option maxRecDepth 20000 in
theorem gX5_leave_X4_lastOf : GoodIn wsX5_leave (wsV RX5 186 RX4 yX4_lastOf wsX4_lastOf) := goodIn_app (goodIn_of _ (by decide +kernel)) ggX5_leave_X4_lastOf
set_option maxRecDepth 20000 in
theorem ggX5_leave_X5_needRoomIn : GoodIn wsX5_leave wsX5_needRoomIn := goodIn_ca (goodIn_r _ [41, 1, 2, 3, 42, 43, 44, 26, 45, 70, 71, 72, 73, 74, 75, 76, 77, 83, 84, 85, 86] (by decide +kernel) (by decide +kernel)) (goodIn_sub (fun _ h => List.mem_cons_of_mem _ (List.mem_append_left _ (List.mem_append_right _ h))) (by decide +kernel))
set_option maxRecDepth 20000 in
theorem gX5_leave_X5_needRoomIn : GoodIn wsX5_leave (wsV RX5 161 RX5 yX5_needRoomIn wsX5_needRoomIn) := goodIn_app (goodIn_of _ (by decide +kernel)) ggX5_leave_X5_needRoomIn
set_option maxRecDepth 20000 in
theorem ggX5_leave_X4_rowOfSiding : GoodIn wsX5_leave wsX4_rowOfSiding := goodIn_r _ [45] (by decide +kernel) (by decide +kernel)
set_option maxRecDepth 20000 in
theorem gX5_leave_X4_rowOfSiding : GoodIn wsX5_leave (va_wsS RX5 164 yX4_rowOfSiding wsX4_rowOfSiding) := goodIn_app (goodIn_of _ (by decide +kernel)) ggX5_leave_X4_rowOfSiding
set_option maxRecDepth 20000 in
theorem ggX5_leave_X4_moveLast : GoodIn wsX5_leave wsX4_moveLast := goodIn_r _ [49, 36, 50, 29, 30, 26, 31, 32, 33, 34, 35, 37, 51, 52, 53, 54, 83, 84, 85, 86] (by decide +kernel) (by decide +kernel)
set_option maxRecDepth 20000 in
theorem gX5_leave_X4_moveLast : GoodIn wsX5_leave (wsV RX5 199 RX4 yX4_moveLast wsX4_moveLast) := goodIn_app (goodIn_of _ (by decide +kernel)) ggX5_leave_X4_moveLast
set_option maxRecDepth 20000 in
theorem ggX5_leave_X1_settle : GoodIn wsX5_leave wsX1_settle := goodIn_r _ [59, 60, 61, 62, 63, 64, 65, 66, 67, 68, 58, 69, 87, 88, 89] (by decide +kernel) (by decide +kernel)
set_option maxRecDepth 20000 in
theorem gX5_leave_X1_settle : GoodIn wsX5_leave (wsV RX5 205 RX1 yX1_settle wsX1_settle) := goodIn_app (goodIn_of _ (by decide +kernel)) ggX5_leave_X1_settle
theorem dX5_leave_0 : decode cX5_leave 0 = .ok (.aload_n 0, 1) := by decide +kernel
theorem dX5_leave_1 : decode cX5_leave 1 = .ok (.iload_n 1, 1) := by decide +kernel
theorem dX5_leave_2 : decode cX5_leave 2 = .ok (.invokevirtual 72, 3) := by decide +kernel
theorem dX5_leave_5 : decode cX5_leave 5 = .ok (.aload_n 0, 1) := by decide +kernel
theorem dX5_leave_6 : decode cX5_leave 6 = .ok (.iload_n 1, 1) := by decide +kernel
theorem dX5_leave_7 : decode cX5_leave 7 = .ok (.invokevirtual 180, 3) := by decide +kernel
theorem dX5_leave_10 : decode cX5_leave 10 = .ok (.istore_n 2, 1) := by decide +kernel
theorem dX5_leave_11 : decode cX5_leave 11 = .ok (.iload_n 1, 1) := by decide +kernel
theorem dX5_leave_12 : decode cX5_leave 12 = .ok (.invokestatic 183, 3) := by decide +kernel
theorem dX5_leave_15 : decode cX5_leave 15 = .ok (.istore_n 3, 1) := by decide +kernel
theorem dX5_leave_16 : decode cX5_leave 16 = .ok (.aload_n 0, 1) := by decide +kernel
theorem dX5_leave_17 : decode cX5_leave 17 = .ok (.getfield 36, 3) := by decide +kernel
theorem dX5_leave_20 : decode cX5_leave 20 = .ok (.iload_n 3, 1) := by decide +kernel
theorem dX5_leave_21 : decode cX5_leave 21 = .ok (.invokevirtual 186, 3) := by decide +kernel
theorem dX5_leave_24 : decode cX5_leave 24 = .ok (.istore 4, 2) := by decide +kernel
theorem dX5_leave_26 : decode cX5_leave 26 = .ok (.iload 4, 2) := by decide +kernel
theorem dX5_leave_28 : decode cX5_leave 28 = .ok (.iconst (-1), 1) := by decide +kernel
theorem dX5_leave_29 : decode cX5_leave 29 = .ok (.if_icmp .ne 13, 3) := by decide +kernel
theorem dX5_leave_32 : decode cX5_leave 32 = .ok (.new 55, 3) := by decide +kernel
theorem dX5_leave_35 : decode cX5_leave 35 = .ok (.dup, 1) := by decide +kernel
theorem dX5_leave_36 : decode cX5_leave 36 = .ok (.ldc 203, 2) := by decide +kernel
theorem dX5_leave_38 : decode cX5_leave 38 = .ok (.invokespecial 59, 3) := by decide +kernel
theorem dX5_leave_41 : decode cX5_leave 41 = .ok (.athrow, 1) := by decide +kernel
theorem dX5_leave_42 : decode cX5_leave 42 = .ok (.aload_n 0, 1) := by decide +kernel
theorem dX5_leave_43 : decode cX5_leave 43 = .ok (.iload_n 2, 1) := by decide +kernel
theorem dX5_leave_44 : decode cX5_leave 44 = .ok (.invokevirtual 161, 3) := by decide +kernel
theorem dX5_leave_47 : decode cX5_leave 47 = .ok (.aload_n 0, 1) := by decide +kernel
theorem dX5_leave_48 : decode cX5_leave 48 = .ok (.getfield 36, 3) := by decide +kernel
theorem dX5_leave_51 : decode cX5_leave 51 = .ok (.iload_n 3, 1) := by decide +kernel
theorem dX5_leave_52 : decode cX5_leave 52 = .ok (.iload_n 2, 1) := by decide +kernel
theorem dX5_leave_53 : decode cX5_leave 53 = .ok (.invokestatic 164, 3) := by decide +kernel
theorem dX5_leave_56 : decode cX5_leave 56 = .ok (.invokevirtual 199, 3) := by decide +kernel
theorem dX5_leave_59 : decode cX5_leave 59 = .ok (.aload_n 0, 1) := by decide +kernel
theorem dX5_leave_60 : decode cX5_leave 60 = .ok (.getfield 43, 3) := by decide +kernel
theorem dX5_leave_63 : decode cX5_leave 63 = .ok (.iload 4, 2) := by decide +kernel
theorem dX5_leave_65 : decode cX5_leave 65 = .ok (.iload_n 2, 1) := by decide +kernel
theorem dX5_leave_66 : decode cX5_leave 66 = .ok (.aload_n 0, 1) := by decide +kernel
theorem dX5_leave_67 : decode cX5_leave 67 = .ok (.getfield 109, 3) := by decide +kernel
theorem dX5_leave_70 : decode cX5_leave 70 = .ok (.invokevirtual 205, 3) := by decide +kernel
theorem dX5_leave_73 : decode cX5_leave 73 = .ok (.istore 5, 2) := by decide +kernel
theorem dX5_leave_75 : decode cX5_leave 75 = .ok (.aload_n 0, 1) := by decide +kernel
theorem dX5_leave_76 : decode cX5_leave 76 = .ok (.dup, 1) := by decide +kernel
theorem dX5_leave_77 : decode cX5_leave 77 = .ok (.getfield 209, 3) := by decide +kernel
theorem dX5_leave_80 : decode cX5_leave 80 = .ok (.iload 5, 2) := by decide +kernel
theorem dX5_leave_82 : decode cX5_leave 82 = .ok (.iadd, 1) := by decide +kernel
theorem dX5_leave_83 : decode cX5_leave 83 = .ok (.putfield 209, 3) := by decide +kernel
theorem dX5_leave_86 : decode cX5_leave 86 = .ok (.iload 5, 2) := by decide +kernel
theorem dX5_leave_88 : decode cX5_leave 88 = .ok (.ireturn, 1) := by decide +kernel
set_option maxRecDepth 20000 in
theorem ggX5_waggonAt_X5_isSiding : GoodIn wsX5_waggonAt wsX5_isSiding := goodIn_r _ [9] (by decide +kernel) (by decide +kernel)
set_option maxRecDepth 20000 in
theorem gX5_waggonAt_X5_isSiding : GoodIn wsX5_waggonAt (va_wsS RX5 212 yX5_isSiding wsX5_isSiding) := goodIn_app (goodIn_of _ (by decide +kernel)) ggX5_waggonAt_X5_isSiding
set_option maxRecDepth 20000 in
theorem ggX5_waggonAt_X4_rowOfSiding : GoodIn wsX5_waggonAt wsX4_rowOfSiding := goodIn_r _ [13] (by decide +kernel) (by decide +kernel)
set_option maxRecDepth 20000 in
theorem gX5_waggonAt_X4_rowOfSiding : GoodIn wsX5_waggonAt (va_wsS RX5 164 yX4_rowOfSiding wsX4_rowOfSiding) := goodIn_app (goodIn_of _ (by decide +kernel)) ggX5_waggonAt_X4_rowOfSiding
set_option maxRecDepth 20000 in
theorem ggX5_waggonAt_X4_fromLast : GoodIn wsX5_waggonAt wsX4_fromLast := goodIn_r _ [17, 18, 19, 40, 41, 42, 43] (by decide +kernel) (by decide +kernel)
set_option maxRecDepth 20000 in
theorem gX5_waggonAt_X4_fromLast : GoodIn wsX5_waggonAt (wsV RX5 219 RX4 yX4_fromLast wsX4_fromLast) := goodIn_app (goodIn_of _ (by decide +kernel)) ggX5_waggonAt_X4_fromLast
set_option maxRecDepth 20000 in
theorem ggX5_waggonAt_X4_rowOfTrain : GoodIn wsX5_waggonAt wsX4_rowOfTrain := goodIn_r _ [22] (by decide +kernel) (by decide +kernel)
set_option maxRecDepth 20000 in
theorem gX5_waggonAt_X4_rowOfTrain : GoodIn wsX5_waggonAt (va_wsS RX5 183 yX4_rowOfTrain wsX4_rowOfTrain) := goodIn_app (goodIn_of _ (by decide +kernel)) ggX5_waggonAt_X4_rowOfTrain
set_option maxRecDepth 20000 in
theorem ggX5_waggonAt_X4_fromFirst : GoodIn wsX5_waggonAt wsX4_fromFirst := goodIn_r _ [26, 18, 19, 40, 41, 42, 43] (by decide +kernel) (by decide +kernel)
set_option maxRecDepth 20000 in
theorem gX5_waggonAt_X4_fromFirst : GoodIn wsX5_waggonAt (wsV RX5 222 RX4 yX4_fromFirst wsX4_fromFirst) := goodIn_app (goodIn_of _ (by decide +kernel)) ggX5_waggonAt_X4_fromFirst
theorem dX5_waggonAt_0 : decode cX5_waggonAt 0 = .ok (.iload_n 1, 1) := by decide +kernel
theorem dX5_waggonAt_1 : decode cX5_waggonAt 1 = .ok (.invokestatic 212, 3) := by decide +kernel
theorem dX5_waggonAt_4 : decode cX5_waggonAt 4 = .ok (.istore_n 3, 1) := by decide +kernel
theorem dX5_waggonAt_5 : decode cX5_waggonAt 5 = .ok (.iload_n 3, 1) := by decide +kernel
theorem dX5_waggonAt_6 : decode cX5_waggonAt 6 = .ok (.ifCond .ne 33, 3) := by decide +kernel
theorem dX5_waggonAt_9 : decode cX5_waggonAt 9 = .ok (.iload_n 1, 1) := by decide +kernel
theorem dX5_waggonAt_10 : decode cX5_waggonAt 10 = .ok (.bipush 10, 2) := by decide +kernel
theorem dX5_waggonAt_12 : decode cX5_waggonAt 12 = .ok (.if_icmp .lt 17, 3) := by decide +kernel
theorem dX5_waggonAt_15 : decode cX5_waggonAt 15 = .ok (.iload_n 1, 1) := by decide +kernel
theorem dX5_waggonAt_16 : decode cX5_waggonAt 16 = .ok (.bipush 10, 2) := by decide +kernel
theorem dX5_waggonAt_18 : decode cX5_waggonAt 18 = .ok (.aload_n 0, 1) := by decide +kernel
theorem dX5_waggonAt_19 : decode cX5_waggonAt 19 = .ok (.getfield 19, 3) := by decide +kernel
theorem dX5_waggonAt_22 : decode cX5_waggonAt 22 = .ok (.getfield 51, 3) := by decide +kernel
theorem dX5_waggonAt_25 : decode cX5_waggonAt 25 = .ok (.iadd, 1) := by decide +kernel
theorem dX5_waggonAt_26 : decode cX5_waggonAt 26 = .ok (.if_icmp .lt 13, 3) := by decide +kernel
theorem dX5_waggonAt_29 : decode cX5_waggonAt 29 = .ok (.new 95, 3) := by decide +kernel
theorem dX5_waggonAt_32 : decode cX5_waggonAt 32 = .ok (.dup, 1) := by decide +kernel
theorem dX5_waggonAt_33 : decode cX5_waggonAt 33 = .ok (.ldc 215, 2) := by decide +kernel
theorem dX5_waggonAt_35 : decode cX5_waggonAt 35 = .ok (.invokespecial 99, 3) := by decide +kernel
theorem dX5_waggonAt_38 : decode cX5_waggonAt 38 = .ok (.athrow, 1) := by decide +kernel
theorem dX5_waggonAt_39 : decode cX5_waggonAt 39 = .ok (.iload_n 2, 1) := by decide +kernel
theorem dX5_waggonAt_40 : decode cX5_waggonAt 40 = .ok (.ifCond .ge 13, 3) := by decide +kernel
theorem dX5_waggonAt_43 : decode cX5_waggonAt 43 = .ok (.new 95, 3) := by decide +kernel
theorem dX5_waggonAt_46 : decode cX5_waggonAt 46 = .ok (.dup, 1) := by decide +kernel
theorem dX5_waggonAt_47 : decode cX5_waggonAt 47 = .ok (.ldc 217, 2) := by decide +kernel
theorem dX5_waggonAt_49 : decode cX5_waggonAt 49 = .ok (.invokespecial 99, 3) := by decide +kernel
theorem dX5_waggonAt_52 : decode cX5_waggonAt 52 = .ok (.athrow, 1) := by decide +kernel
theorem dX5_waggonAt_53 : decode cX5_waggonAt 53 = .ok (.iload_n 3, 1) := by decide +kernel
theorem dX5_waggonAt_54 : decode cX5_waggonAt 54 = .ok (.ifCond .eq 16, 3) := by decide +kernel
theorem dX5_waggonAt_57 : decode cX5_waggonAt 57 = .ok (.aload_n 0, 1) := by decide +kernel
theorem dX5_waggonAt_58 : decode cX5_waggonAt 58 = .ok (.getfield 36, 3) := by decide +kernel
theorem dX5_waggonAt_61 : decode cX5_waggonAt 61 = .ok (.iload_n 1, 1) := by decide +kernel
theorem dX5_waggonAt_62 : decode cX5_waggonAt 62 = .ok (.invokestatic 164, 3) := by decide +kernel
theorem dX5_waggonAt_65 : decode cX5_waggonAt 65 = .ok (.iload_n 2, 1) := by decide +kernel
theorem dX5_waggonAt_66 : decode cX5_waggonAt 66 = .ok (.invokevirtual 219, 3) := by decide +kernel
theorem dX5_waggonAt_69 : decode cX5_waggonAt 69 = .ok (.ireturn, 1) := by decide +kernel
theorem dX5_waggonAt_70 : decode cX5_waggonAt 70 = .ok (.aload_n 0, 1) := by decide +kernel
theorem dX5_waggonAt_71 : decode cX5_waggonAt 71 = .ok (.getfield 36, 3) := by decide +kernel
theorem dX5_waggonAt_74 : decode cX5_waggonAt 74 = .ok (.iload_n 1, 1) := by decide +kernel
theorem dX5_waggonAt_75 : decode cX5_waggonAt 75 = .ok (.bipush 10, 2) := by decide +kernel
theorem dX5_waggonAt_77 : decode cX5_waggonAt 77 = .ok (.isub, 1) := by decide +kernel
theorem dX5_waggonAt_78 : decode cX5_waggonAt 78 = .ok (.invokestatic 183, 3) := by decide +kernel
theorem dX5_waggonAt_81 : decode cX5_waggonAt 81 = .ok (.iload_n 2, 1) := by decide +kernel
theorem dX5_waggonAt_82 : decode cX5_waggonAt 82 = .ok (.invokevirtual 222, 3) := by decide +kernel
theorem dX5_waggonAt_85 : decode cX5_waggonAt 85 = .ok (.ireturn, 1) := by decide +kernel
theorem dX5_earned_0 : decode cX5_earned 0 = .ok (.aload_n 0, 1) := by decide +kernel
theorem dX5_earned_1 : decode cX5_earned 1 = .ok (.getfield 209, 3) := by decide +kernel
theorem dX5_earned_4 : decode cX5_earned 4 = .ok (.ireturn, 1) := by decide +kernel
theorem dX5_needTrain_0 : decode cX5_needTrain 0 = .ok (.iload_n 1, 1) := by decide +kernel
theorem dX5_needTrain_1 : decode cX5_needTrain 1 = .ok (.ifCond .lt 14, 3) := by decide +kernel
theorem dX5_needTrain_4 : decode cX5_needTrain 4 = .ok (.iload_n 1, 1) := by decide +kernel
theorem dX5_needTrain_5 : decode cX5_needTrain 5 = .ok (.aload_n 0, 1) := by decide +kernel
theorem dX5_needTrain_6 : decode cX5_needTrain 6 = .ok (.getfield 19, 3) := by decide +kernel
theorem dX5_needTrain_9 : decode cX5_needTrain 9 = .ok (.getfield 51, 3) := by decide +kernel
theorem dX5_needTrain_12 : decode cX5_needTrain 12 = .ok (.if_icmp .lt 13, 3) := by decide +kernel
theorem dX5_needTrain_15 : decode cX5_needTrain 15 = .ok (.new 95, 3) := by decide +kernel
theorem dX5_needTrain_18 : decode cX5_needTrain 18 = .ok (.dup, 1) := by decide +kernel
theorem dX5_needTrain_19 : decode cX5_needTrain 19 = .ok (.ldc 225, 2) := by decide +kernel
theorem dX5_needTrain_21 : decode cX5_needTrain 21 = .ok (.invokespecial 99, 3) := by decide +kernel
theorem dX5_needTrain_24 : decode cX5_needTrain 24 = .ok (.athrow, 1) := by decide +kernel
theorem dX5_needTrain_25 : decode cX5_needTrain 25 = .ok (.return_, 1) := by decide +kernel
theorem dX5_needBooking_0 : decode cX5_needBooking 0 = .ok (.iload_n 1, 1) := by decide +kernel
theorem dX5_needBooking_1 : decode cX5_needBooking 1 = .ok (.ifCond .lt 14, 3) := by decide +kernel
theorem dX5_needBooking_4 : decode cX5_needBooking 4 = .ok (.iload_n 1, 1) := by decide +kernel
theorem dX5_needBooking_5 : decode cX5_needBooking 5 = .ok (.aload_n 0, 1) := by decide +kernel
theorem dX5_needBooking_6 : decode cX5_needBooking 6 = .ok (.getfield 29, 3) := by decide +kernel
theorem dX5_needBooking_9 : decode cX5_needBooking 9 = .ok (.getfield 130, 3) := by decide +kernel
theorem dX5_needBooking_12 : decode cX5_needBooking 12 = .ok (.if_icmp .lt 13, 3) := by decide +kernel
theorem dX5_needBooking_15 : decode cX5_needBooking 15 = .ok (.new 95, 3) := by decide +kernel
theorem dX5_needBooking_18 : decode cX5_needBooking 18 = .ok (.dup, 1) := by decide +kernel
theorem dX5_needBooking_19 : decode cX5_needBooking 19 = .ok (.ldc 227, 2) := by decide +kernel
theorem dX5_needBooking_21 : decode cX5_needBooking 21 = .ok (.invokespecial 99, 3) := by decide +kernel
theorem dX5_needBooking_24 : decode cX5_needBooking 24 = .ok (.athrow, 1) := by decide +kernel
theorem dX5_needBooking_25 : decode cX5_needBooking 25 = .ok (.return_, 1) := by decide +kernel
theorem dX5_needBlock_0 : decode cX5_needBlock 0 = .ok (.iload_n 0, 1) := by decide +kernel
theorem dX5_needBlock_1 : decode cX5_needBlock 1 = .ok (.ifCond .lt 9, 3) := by decide +kernel
theorem dX5_needBlock_4 : decode cX5_needBlock 4 = .ok (.iload_n 0, 1) := by decide +kernel
theorem dX5_needBlock_5 : decode cX5_needBlock 5 = .ok (.bipush 8, 2) := by decide +kernel
theorem dX5_needBlock_7 : decode cX5_needBlock 7 = .ok (.if_icmp .lt 13, 3) := by decide +kernel
theorem dX5_needBlock_10 : decode cX5_needBlock 10 = .ok (.new 95, 3) := by decide +kernel
theorem dX5_needBlock_13 : decode cX5_needBlock 13 = .ok (.dup, 1) := by decide +kernel
theorem dX5_needBlock_14 : decode cX5_needBlock 14 = .ok (.ldc 229, 2) := by decide +kernel
theorem dX5_needBlock_16 : decode cX5_needBlock 16 = .ok (.invokespecial 99, 3) := by decide +kernel
theorem dX5_needBlock_19 : decode cX5_needBlock 19 = .ok (.athrow, 1) := by decide +kernel
theorem dX5_needBlock_20 : decode cX5_needBlock 20 = .ok (.return_, 1) := by decide +kernel
set_option maxRecDepth 20000 in
theorem ggX5_needSiding_X5_isSiding : GoodIn wsX5_needSiding wsX5_isSiding := goodIn_r _ [6] (by decide +kernel) (by decide +kernel)
set_option maxRecDepth 20000 in
theorem gX5_needSiding_X5_isSiding : GoodIn wsX5_needSiding (va_wsS RX5 212 yX5_isSiding wsX5_isSiding) := goodIn_app (goodIn_of _ (by decide +kernel)) ggX5_needSiding_X5_isSiding
theorem dX5_needSiding_0 : decode cX5_needSiding 0 = .ok (.iload_n 0, 1) := by decide +kernel
theorem dX5_needSiding_1 : decode cX5_needSiding 1 = .ok (.invokestatic 212, 3) := by decide +kernel
theorem dX5_needSiding_4 : decode cX5_needSiding 4 = .ok (.ifCond .ne 13, 3) := by decide +kernel
theorem dX5_needSiding_7 : decode cX5_needSiding 7 = .ok (.new 95, 3) := by decide +kernel
theorem dX5_needSiding_10 : decode cX5_needSiding 10 = .ok (.dup, 1) := by decide +kernel
theorem dX5_needSiding_11 : decode cX5_needSiding 11 = .ok (.ldc 231, 2) := by decide +kernel
theorem dX5_needSiding_13 : decode cX5_needSiding 13 = .ok (.invokespecial 99, 3) := by decide +kernel
theorem dX5_needSiding_16 : decode cX5_needSiding 16 = .ok (.athrow, 1) := by decide +kernel
theorem dX5_needSiding_17 : decode cX5_needSiding 17 = .ok (.return_, 1) := by decide +kernel
theorem dX5_isSiding_0 : decode cX5_isSiding 0 = .ok (.iload_n 0, 1) := by decide +kernel
theorem dX5_isSiding_1 : decode cX5_isSiding 1 = .ok (.bipush 6, 2) := by decide +kernel
theorem dX5_isSiding_3 : decode cX5_isSiding 3 = .ok (.if_icmp .lt 13, 3) := by decide +kernel
theorem dX5_isSiding_6 : decode cX5_isSiding 6 = .ok (.iload_n 0, 1) := by decide +kernel
theorem dX5_isSiding_7 : decode cX5_isSiding 7 = .ok (.bipush 8, 2) := by decide +kernel
theorem dX5_isSiding_9 : decode cX5_isSiding 9 = .ok (.if_icmp .ge 7, 3) := by decide +kernel
theorem dX5_isSiding_12 : decode cX5_isSiding 12 = .ok (.iconst 1, 1) := by decide +kernel
theorem dX5_isSiding_13 : decode cX5_isSiding 13 = .ok (.goto 4, 3) := by decide +kernel
theorem dX5_isSiding_16 : decode cX5_isSiding 16 = .ok (.iconst 0, 1) := by decide +kernel
theorem dX5_isSiding_17 : decode cX5_isSiding 17 = .ok (.ireturn, 1) := by decide +kernel
theorem dX5_needMinutesToRun_0 : decode cX5_needMinutesToRun 0 = .ok (.iload_n 0, 1) := by decide +kernel
theorem dX5_needMinutesToRun_1 : decode cX5_needMinutesToRun 1 = .ok (.iconst 1, 1) := by decide +kernel
theorem dX5_needMinutesToRun_2 : decode cX5_needMinutesToRun 2 = .ok (.if_icmp .lt 9, 3) := by decide +kernel
theorem dX5_needMinutesToRun_5 : decode cX5_needMinutesToRun 5 = .ok (.iload_n 0, 1) := by decide +kernel
theorem dX5_needMinutesToRun_6 : decode cX5_needMinutesToRun 6 = .ok (.bipush 100, 2) := by decide +kernel
theorem dX5_needMinutesToRun_8 : decode cX5_needMinutesToRun 8 = .ok (.if_icmp .le 13, 3) := by decide +kernel
theorem dX5_needMinutesToRun_11 : decode cX5_needMinutesToRun 11 = .ok (.new 86, 3) := by decide +kernel
theorem dX5_needMinutesToRun_14 : decode cX5_needMinutesToRun 14 = .ok (.dup, 1) := by decide +kernel
theorem dX5_needMinutesToRun_15 : decode cX5_needMinutesToRun 15 = .ok (.ldc 233, 2) := by decide +kernel
theorem dX5_needMinutesToRun_17 : decode cX5_needMinutesToRun 17 = .ok (.invokespecial 90, 3) := by decide +kernel
theorem dX5_needMinutesToRun_20 : decode cX5_needMinutesToRun 20 = .ok (.athrow, 1) := by decide +kernel
theorem dX5_needMinutesToRun_21 : decode cX5_needMinutesToRun 21 = .ok (.return_, 1) := by decide +kernel
theorem dX5_needSpan_0 : decode cX5_needSpan 0 = .ok (.iload_n 1, 1) := by decide +kernel
theorem dX5_needSpan_1 : decode cX5_needSpan 1 = .ok (.iload_n 0, 1) := by decide +kernel
theorem dX5_needSpan_2 : decode cX5_needSpan 2 = .ok (.if_icmp .lt 10, 3) := by decide +kernel
theorem dX5_needSpan_5 : decode cX5_needSpan 5 = .ok (.iload_n 1, 1) := by decide +kernel
theorem dX5_needSpan_6 : decode cX5_needSpan 6 = .ok (.sipush 5000, 3) := by decide +kernel
theorem dX5_needSpan_9 : decode cX5_needSpan 9 = .ok (.if_icmp .le 13, 3) := by decide +kernel
theorem dX5_needSpan_12 : decode cX5_needSpan 12 = .ok (.new 86, 3) := by decide +kernel
theorem dX5_needSpan_15 : decode cX5_needSpan 15 = .ok (.dup, 1) := by decide +kernel
theorem dX5_needSpan_16 : decode cX5_needSpan 16 = .ok (.ldc 235, 2) := by decide +kernel
theorem dX5_needSpan_18 : decode cX5_needSpan 18 = .ok (.invokespecial 90, 3) := by decide +kernel
theorem dX5_needSpan_21 : decode cX5_needSpan 21 = .ok (.athrow, 1) := by decide +kernel
theorem dX5_needSpan_22 : decode cX5_needSpan 22 = .ok (.iload_n 2, 1) := by decide +kernel
theorem dX5_needSpan_23 : decode cX5_needSpan 23 = .ok (.iload_n 1, 1) := by decide +kernel
theorem dX5_needSpan_24 : decode cX5_needSpan 24 = .ok (.if_icmp .lt 10, 3) := by decide +kernel
theorem dX5_needSpan_27 : decode cX5_needSpan 27 = .ok (.iload_n 2, 1) := by decide +kernel
theorem dX5_needSpan_28 : decode cX5_needSpan 28 = .ok (.sipush 5000, 3) := by decide +kernel
theorem dX5_needSpan_31 : decode cX5_needSpan 31 = .ok (.if_icmp .le 13, 3) := by decide +kernel
theorem dX5_needSpan_34 : decode cX5_needSpan 34 = .ok (.new 86, 3) := by decide +kernel
theorem dX5_needSpan_37 : decode cX5_needSpan 37 = .ok (.dup, 1) := by decide +kernel
theorem dX5_needSpan_38 : decode cX5_needSpan 38 = .ok (.ldc 237, 2) := by decide +kernel
theorem dX5_needSpan_40 : decode cX5_needSpan 40 = .ok (.invokespecial 90, 3) := by decide +kernel
theorem dX5_needSpan_43 : decode cX5_needSpan 43 = .ok (.athrow, 1) := by decide +kernel
theorem dX5_needSpan_44 : decode cX5_needSpan 44 = .ok (.return_, 1) := by decide +kernel
set_option maxRecDepth 20000 in
theorem ggX5_needRoomIn_X4_rowOfSiding : GoodIn wsX5_needRoomIn wsX4_rowOfSiding := goodIn_r _ [8] (by decide +kernel) (by decide +kernel)
set_option maxRecDepth 20000 in
theorem gX5_needRoomIn_X4_rowOfSiding : GoodIn wsX5_needRoomIn (va_wsS RX5 164 yX4_rowOfSiding wsX4_rowOfSiding) := goodIn_app (goodIn_of _ (by decide +kernel)) ggX5_needRoomIn_X4_rowOfSiding
theorem dX5_needRoomIn_0 : decode cX5_needRoomIn 0 = .ok (.aload_n 0, 1) := by decide +kernel
theorem dX5_needRoomIn_1 : decode cX5_needRoomIn 1 = .ok (.getfield 36, 3) := by decide +kernel
theorem dX5_needRoomIn_4 : decode cX5_needRoomIn 4 = .ok (.getfield 239, 3) := by decide +kernel
theorem dX5_needRoomIn_7 : decode cX5_needRoomIn 7 = .ok (.iload_n 1, 1) := by decide +kernel
theorem dX5_needRoomIn_8 : decode cX5_needRoomIn 8 = .ok (.invokestatic 164, 3) := by decide +kernel
theorem dX5_needRoomIn_11 : decode cX5_needRoomIn 11 = .ok (.iaload, 1) := by decide +kernel
theorem dX5_needRoomIn_12 : decode cX5_needRoomIn 12 = .ok (.iconst 4, 1) := by decide +kernel
theorem dX5_needRoomIn_13 : decode cX5_needRoomIn 13 = .ok (.if_icmp .lt 13, 3) := by decide +kernel
theorem dX5_needRoomIn_16 : decode cX5_needRoomIn 16 = .ok (.new 55, 3) := by decide +kernel
theorem dX5_needRoomIn_19 : decode cX5_needRoomIn 19 = .ok (.dup, 1) := by decide +kernel
theorem dX5_needRoomIn_20 : decode cX5_needRoomIn 20 = .ok (.ldc 242, 2) := by decide +kernel
theorem dX5_needRoomIn_22 : decode cX5_needRoomIn 22 = .ok (.invokespecial 59, 3) := by decide +kernel
theorem dX5_needRoomIn_25 : decode cX5_needRoomIn 25 = .ok (.athrow, 1) := by decide +kernel
theorem dX5_needRoomIn_26 : decode cX5_needRoomIn 26 = .ok (.return_, 1) := by decide +kernel
set_option maxRecDepth 20000 in
theorem ggX5_sidingUnder_X5_isSiding : GoodIn wsX5_sidingUnder wsX5_isSiding := goodIn_r _ [8] (by decide +kernel) (by decide +kernel)
set_option maxRecDepth 20000 in
theorem gX5_sidingUnder_X5_isSiding : GoodIn wsX5_sidingUnder (va_wsS RX5 212 yX5_isSiding wsX5_isSiding) := goodIn_app (goodIn_of _ (by decide +kernel)) ggX5_sidingUnder_X5_isSiding
theorem dX5_sidingUnder_0 : decode cX5_sidingUnder 0 = .ok (.aload_n 0, 1) := by decide +kernel
theorem dX5_sidingUnder_1 : decode cX5_sidingUnder 1 = .ok (.getfield 19, 3) := by decide +kernel
theorem dX5_sidingUnder_4 : decode cX5_sidingUnder 4 = .ok (.getfield 103, 3) := by decide +kernel
theorem dX5_sidingUnder_7 : decode cX5_sidingUnder 7 = .ok (.iload_n 1, 1) := by decide +kernel
theorem dX5_sidingUnder_8 : decode cX5_sidingUnder 8 = .ok (.iaload, 1) := by decide +kernel
theorem dX5_sidingUnder_9 : decode cX5_sidingUnder 9 = .ok (.istore_n 2, 1) := by decide +kernel
theorem dX5_sidingUnder_10 : decode cX5_sidingUnder 10 = .ok (.iload_n 2, 1) := by decide +kernel
theorem dX5_sidingUnder_11 : decode cX5_sidingUnder 11 = .ok (.invokestatic 212, 3) := by decide +kernel
theorem dX5_sidingUnder_14 : decode cX5_sidingUnder 14 = .ok (.ifCond .ne 13, 3) := by decide +kernel
theorem dX5_sidingUnder_17 : decode cX5_sidingUnder 17 = .ok (.new 55, 3) := by decide +kernel
theorem dX5_sidingUnder_20 : decode cX5_sidingUnder 20 = .ok (.dup, 1) := by decide +kernel
theorem dX5_sidingUnder_21 : decode cX5_sidingUnder 21 = .ok (.ldc 244, 2) := by decide +kernel
theorem dX5_sidingUnder_23 : decode cX5_sidingUnder 23 = .ok (.invokespecial 59, 3) := by decide +kernel
theorem dX5_sidingUnder_26 : decode cX5_sidingUnder 26 = .ok (.athrow, 1) := by decide +kernel
theorem dX5_sidingUnder_27 : decode cX5_sidingUnder 27 = .ok (.iload_n 2, 1) := by decide +kernel
theorem dX5_sidingUnder_28 : decode cX5_sidingUnder 28 = .ok (.ireturn, 1) := by decide +kernel
end
section
theorem dX6_init_0 : decode cX6_init 0 = .ok (.aload_n 0, 1) := by decide +kernel
theorem dX6_init_1 : decode cX6_init 1 = .ok (.invokespecial 1, 3) := by decide +kernel
theorem dX6_init_4 : decode cX6_init 4 = .ok (.aload_n 0, 1) := by decide +kernel
theorem dX6_init_5 : decode cX6_init 5 = .ok (.iconst 4, 1) := by decide +kernel
theorem dX6_init_6 : decode cX6_init 6 = .ok (.newarray .int, 2) := by decide +kernel
theorem dX6_init_8 : decode cX6_init 8 = .ok (.putfield 7, 3) := by decide +kernel
theorem dX6_init_11 : decode cX6_init 11 = .ok (.aload_n 0, 1) := by decide +kernel
theorem dX6_init_12 : decode cX6_init 12 = .ok (.iconst 4, 1) := by decide +kernel
theorem dX6_init_13 : decode cX6_init 13 = .ok (.newarray .boolean, 2) := by decide +kernel
theorem dX6_init_15 : decode cX6_init 15 = .ok (.putfield 13, 3) := by decide +kernel
theorem dX6_init_18 : decode cX6_init 18 = .ok (.aload_n 0, 1) := by decide +kernel
theorem dX6_init_19 : decode cX6_init 19 = .ok (.iconst 4, 1) := by decide +kernel
theorem dX6_init_20 : decode cX6_init 20 = .ok (.newarray .boolean, 2) := by decide +kernel
theorem dX6_init_22 : decode cX6_init 22 = .ok (.putfield 17, 3) := by decide +kernel
theorem dX6_init_25 : decode cX6_init 25 = .ok (.aload_n 0, 1) := by decide +kernel
theorem dX6_init_26 : decode cX6_init 26 = .ok (.iconst 4, 1) := by decide +kernel
theorem dX6_init_27 : decode cX6_init 27 = .ok (.newarray .int, 2) := by decide +kernel
theorem dX6_init_29 : decode cX6_init 29 = .ok (.putfield 20, 3) := by decide +kernel
theorem dX6_init_32 : decode cX6_init 32 = .ok (.aload_n 0, 1) := by decide +kernel
theorem dX6_init_33 : decode cX6_init 33 = .ok (.iconst 2, 1) := by decide +kernel
theorem dX6_init_34 : decode cX6_init 34 = .ok (.newarray .boolean, 2) := by decide +kernel
theorem dX6_init_36 : decode cX6_init 36 = .ok (.putfield 23, 3) := by decide +kernel
theorem dX6_init_39 : decode cX6_init 39 = .ok (.aload_n 0, 1) := by decide +kernel
theorem dX6_init_40 : decode cX6_init 40 = .ok (.iconst 4, 1) := by decide +kernel
theorem dX6_init_41 : decode cX6_init 41 = .ok (.newarray .int, 2) := by decide +kernel
theorem dX6_init_43 : decode cX6_init 43 = .ok (.putfield 26, 3) := by decide +kernel
theorem dX6_init_46 : decode cX6_init 46 = .ok (.aload_n 0, 1) := by decide +kernel
theorem dX6_init_47 : decode cX6_init 47 = .ok (.iconst 4, 1) := by decide +kernel
theorem dX6_init_48 : decode cX6_init 48 = .ok (.newarray .boolean, 2) := by decide +kernel
theorem dX6_init_50 : decode cX6_init 50 = .ok (.putfield 29, 3) := by decide +kernel
theorem dX6_init_53 : decode cX6_init 53 = .ok (.aload_n 0, 1) := by decide +kernel
theorem dX6_init_54 : decode cX6_init 54 = .ok (.iconst 4, 1) := by decide +kernel
theorem dX6_init_55 : decode cX6_init 55 = .ok (.newarray .int, 2) := by decide +kernel
theorem dX6_init_57 : decode cX6_init 57 = .ok (.putfield 32, 3) := by decide +kernel
theorem dX6_init_60 : decode cX6_init 60 = .ok (.aload_n 0, 1) := by decide +kernel
theorem dX6_init_61 : decode cX6_init 61 = .ok (.bipush 30, 2) := by decide +kernel
theorem dX6_init_63 : decode cX6_init 63 = .ok (.newarray .int, 2) := by decide +kernel
theorem dX6_init_65 : decode cX6_init 65 = .ok (.putfield 35, 3) := by decide +kernel
theorem dX6_init_68 : decode cX6_init 68 = .ok (.aload_n 0, 1) := by decide +kernel
theorem dX6_init_69 : decode cX6_init 69 = .ok (.bipush 30, 2) := by decide +kernel
theorem dX6_init_71 : decode cX6_init 71 = .ok (.newarray .int, 2) := by decide +kernel
theorem dX6_init_73 : decode cX6_init 73 = .ok (.putfield 38, 3) := by decide +kernel
theorem dX6_init_76 : decode cX6_init 76 = .ok (.aload_n 0, 1) := by decide +kernel
theorem dX6_init_77 : decode cX6_init 77 = .ok (.bipush 30, 2) := by decide +kernel
theorem dX6_init_79 : decode cX6_init 79 = .ok (.newarray .int, 2) := by decide +kernel
theorem dX6_init_81 : decode cX6_init 81 = .ok (.putfield 41, 3) := by decide +kernel
theorem dX6_init_84 : decode cX6_init 84 = .ok (.aload_n 0, 1) := by decide +kernel
theorem dX6_init_85 : decode cX6_init 85 = .ok (.bipush 30, 2) := by decide +kernel
theorem dX6_init_87 : decode cX6_init 87 = .ok (.newarray .int, 2) := by decide +kernel
theorem dX6_init_89 : decode cX6_init 89 = .ok (.putfield 44, 3) := by decide +kernel
theorem dX6_init_92 : decode cX6_init 92 = .ok (.aload_n 0, 1) := by decide +kernel
theorem dX6_init_93 : decode cX6_init 93 = .ok (.bipush 30, 2) := by decide +kernel
theorem dX6_init_95 : decode cX6_init 95 = .ok (.newarray .int, 2) := by decide +kernel
theorem dX6_init_97 : decode cX6_init 97 = .ok (.putfield 47, 3) := by decide +kernel
theorem dX6_init_100 : decode cX6_init 100 = .ok (.aload_n 0, 1) := by decide +kernel
theorem dX6_init_101 : decode cX6_init 101 = .ok (.bipush 30, 2) := by decide +kernel
theorem dX6_init_103 : decode cX6_init 103 = .ok (.newarray .int, 2) := by decide +kernel
theorem dX6_init_105 : decode cX6_init 105 = .ok (.putfield 50, 3) := by decide +kernel
theorem dX6_init_108 : decode cX6_init 108 = .ok (.aload_n 0, 1) := by decide +kernel
theorem dX6_init_109 : decode cX6_init 109 = .ok (.bipush 8, 2) := by decide +kernel
theorem dX6_init_111 : decode cX6_init 111 = .ok (.newarray .int, 2) := by decide +kernel
theorem dX6_init_113 : decode cX6_init 113 = .ok (.putfield 53, 3) := by decide +kernel
theorem dX6_init_116 : decode cX6_init 116 = .ok (.aload_n 0, 1) := by decide +kernel
theorem dX6_init_117 : decode cX6_init 117 = .ok (.bipush 8, 2) := by decide +kernel
theorem dX6_init_119 : decode cX6_init 119 = .ok (.newarray .int, 2) := by decide +kernel
theorem dX6_init_121 : decode cX6_init 121 = .ok (.putfield 56, 3) := by decide +kernel
theorem dX6_init_124 : decode cX6_init 124 = .ok (.aload_n 0, 1) := by decide +kernel
theorem dX6_init_125 : decode cX6_init 125 = .ok (.bipush 8, 2) := by decide +kernel
theorem dX6_init_127 : decode cX6_init 127 = .ok (.newarray .int, 2) := by decide +kernel
theorem dX6_init_129 : decode cX6_init 129 = .ok (.putfield 59, 3) := by decide +kernel
theorem dX6_init_132 : decode cX6_init 132 = .ok (.aload_n 0, 1) := by decide +kernel
theorem dX6_init_133 : decode cX6_init 133 = .ok (.bipush 8, 2) := by decide +kernel
theorem dX6_init_135 : decode cX6_init 135 = .ok (.newarray .int, 2) := by decide +kernel
theorem dX6_init_137 : decode cX6_init 137 = .ok (.putfield 62, 3) := by decide +kernel
theorem dX6_init_140 : decode cX6_init 140 = .ok (.aload_n 0, 1) := by decide +kernel
theorem dX6_init_141 : decode cX6_init 141 = .ok (.bipush 8, 2) := by decide +kernel
theorem dX6_init_143 : decode cX6_init 143 = .ok (.newarray .int, 2) := by decide +kernel
theorem dX6_init_145 : decode cX6_init 145 = .ok (.putfield 65, 3) := by decide +kernel
theorem dX6_init_148 : decode cX6_init 148 = .ok (.aload_n 0, 1) := by decide +kernel
theorem dX6_init_149 : decode cX6_init 149 = .ok (.bipush 8, 2) := by decide +kernel
theorem dX6_init_151 : decode cX6_init 151 = .ok (.newarray .int, 2) := by decide +kernel
theorem dX6_init_153 : decode cX6_init 153 = .ok (.putfield 68, 3) := by decide +kernel
theorem dX6_init_156 : decode cX6_init 156 = .ok (.return_, 1) := by decide +kernel
theorem dX6_thrown_0 : decode cX6_thrown 0 = .ok (.aload_n 0, 1) := by decide +kernel
theorem dX6_thrown_1 : decode cX6_thrown 1 = .ok (.getfield 71, 3) := by decide +kernel
theorem dX6_thrown_4 : decode cX6_thrown 4 = .ok (.ireturn, 1) := by decide +kernel
theorem dX6_holds_0 : decode cX6_holds 0 = .ok (.aload_n 0, 1) := by decide +kernel
theorem dX6_holds_1 : decode cX6_holds 1 = .ok (.iload_n 1, 1) := by decide +kernel
theorem dX6_holds_2 : decode cX6_holds 2 = .ok (.putfield 71, 3) := by decide +kernel
theorem dX6_holds_5 : decode cX6_holds 5 = .ok (.iload_n 1, 1) := by decide +kernel
theorem dX6_holds_6 : decode cX6_holds 6 = .ok (.ifCond .ne 7, 3) := by decide +kernel
theorem dX6_holds_9 : decode cX6_holds 9 = .ok (.iconst 1, 1) := by decide +kernel
theorem dX6_holds_10 : decode cX6_holds 10 = .ok (.goto 4, 3) := by decide +kernel
theorem dX6_holds_13 : decode cX6_holds 13 = .ok (.iconst 0, 1) := by decide +kernel
theorem dX6_holds_14 : decode cX6_holds 14 = .ok (.ireturn, 1) := by decide +kernel
theorem dX6_in_0 : decode cX6_in 0 = .ok (.iload_n 0, 1) := by decide +kernel
theorem dX6_in_1 : decode cX6_in 1 = .ok (.iload_n 1, 1) := by decide +kernel
theorem dX6_in_2 : decode cX6_in 2 = .ok (.if_icmp .lt 12, 3) := by decide +kernel
theorem dX6_in_5 : decode cX6_in 5 = .ok (.iload_n 0, 1) := by decide +kernel
theorem dX6_in_6 : decode cX6_in 6 = .ok (.iload_n 2, 1) := by decide +kernel
theorem dX6_in_7 : decode cX6_in 7 = .ok (.if_icmp .gt 7, 3) := by decide +kernel
theorem dX6_in_10 : decode cX6_in 10 = .ok (.iconst 1, 1) := by decide +kernel
theorem dX6_in_11 : decode cX6_in 11 = .ok (.goto 4, 3) := by decide +kernel
theorem dX6_in_14 : decode cX6_in 14 = .ok (.iconst 0, 1) := by decide +kernel
theorem dX6_in_15 : decode cX6_in 15 = .ok (.ireturn, 1) := by decide +kernel
set_option maxRecDepth 20000 in
theorem ggX6_isTrain_X6_in : GoodIn wsX6_isTrain wsX6_in := goodIn_r _ [5] (by decide +kernel) (by decide +kernel)
set_option maxRecDepth 20000 in
theorem gX6_isTrain_X6_in : GoodIn wsX6_isTrain (va_wsS RX6 78 yX6_in wsX6_in) := goodIn_app (goodIn_of _ (by decide +kernel)) ggX6_isTrain_X6_in
theorem dX6_isTrain_0 : decode cX6_isTrain 0 = .ok (.iload_n 1, 1) := by decide +kernel
theorem dX6_isTrain_1 : decode cX6_isTrain 1 = .ok (.iconst 0, 1) := by decide +kernel
theorem dX6_isTrain_2 : decode cX6_isTrain 2 = .ok (.aload_n 0, 1) := by decide +kernel
theorem dX6_isTrain_3 : decode cX6_isTrain 3 = .ok (.getfield 75, 3) := by decide +kernel
theorem dX6_isTrain_6 : decode cX6_isTrain 6 = .ok (.iconst 1, 1) := by decide +kernel
theorem dX6_isTrain_7 : decode cX6_isTrain 7 = .ok (.isub, 1) := by decide +kernel
theorem dX6_isTrain_8 : decode cX6_isTrain 8 = .ok (.invokestatic 78, 3) := by decide +kernel
theorem dX6_isTrain_11 : decode cX6_isTrain 11 = .ok (.ireturn, 1) := by decide +kernel
set_option maxRecDepth 20000 in
theorem ggX6_isBlock_X6_in : GoodIn wsX6_isBlock wsX6_in := goodIn_r _ [4] (by decide +kernel) (by decide +kernel)
set_option maxRecDepth 20000 in
theorem gX6_isBlock_X6_in : GoodIn wsX6_isBlock (va_wsS RX6 78 yX6_in wsX6_in) := goodIn_app (goodIn_of _ (by decide +kernel)) ggX6_isBlock_X6_in
theorem dX6_isBlock_0 : decode cX6_isBlock 0 = .ok (.iload_n 0, 1) := by decide +kernel
theorem dX6_isBlock_1 : decode cX6_isBlock 1 = .ok (.iconst 0, 1) := by decide +kernel
theorem dX6_isBlock_2 : decode cX6_isBlock 2 = .ok (.bipush 7, 2) := by decide +kernel
theorem dX6_isBlock_4 : decode cX6_isBlock 4 = .ok (.invokestatic 78, 3) := by decide +kernel
theorem dX6_isBlock_7 : decode cX6_isBlock 7 = .ok (.ireturn, 1) := by decide +kernel
theorem dX6_standsOn_0 : decode cX6_standsOn 0 = .ok (.iconst 0, 1) := by decide +kernel
theorem dX6_standsOn_1 : decode cX6_standsOn 1 = .ok (.istore_n 2, 1) := by decide +kernel
theorem dX6_standsOn_2 : decode cX6_standsOn 2 = .ok (.iload_n 2, 1) := by decide +kernel
theorem dX6_standsOn_3 : decode cX6_standsOn 3 = .ok (.aload_n 0, 1) := by decide +kernel
theorem dX6_standsOn_4 : decode cX6_standsOn 4 = .ok (.getfield 75, 3) := by decide +kernel
theorem dX6_standsOn_7 : decode cX6_standsOn 7 = .ok (.if_icmp .ge 21, 3) := by decide +kernel
theorem dX6_standsOn_10 : decode cX6_standsOn 10 = .ok (.aload_n 0, 1) := by decide +kernel
theorem dX6_standsOn_11 : decode cX6_standsOn 11 = .ok (.getfield 7, 3) := by decide +kernel
theorem dX6_standsOn_14 : decode cX6_standsOn 14 = .ok (.iload_n 2, 1) := by decide +kernel
theorem dX6_standsOn_15 : decode cX6_standsOn 15 = .ok (.iaload, 1) := by decide +kernel
theorem dX6_standsOn_16 : decode cX6_standsOn 16 = .ok (.iload_n 1, 1) := by decide +kernel
theorem dX6_standsOn_17 : decode cX6_standsOn 17 = .ok (.if_icmp .ne 5, 3) := by decide +kernel
theorem dX6_standsOn_20 : decode cX6_standsOn 20 = .ok (.iload_n 2, 1) := by decide +kernel
theorem dX6_standsOn_21 : decode cX6_standsOn 21 = .ok (.ireturn, 1) := by decide +kernel
theorem dX6_standsOn_22 : decode cX6_standsOn 22 = .ok (.iinc 2 1, 3) := by decide +kernel
theorem dX6_standsOn_25 : decode cX6_standsOn 25 = .ok (.goto (-23), 3) := by decide +kernel
theorem dX6_standsOn_28 : decode cX6_standsOn 28 = .ok (.iconst (-1), 1) := by decide +kernel
theorem dX6_standsOn_29 : decode cX6_standsOn 29 = .ok (.ireturn, 1) := by decide +kernel
set_option maxRecDepth 20000 in
theorem ggX6_addTrain_X6_isBlock : GoodIn wsX6_addTrain wsX6_isBlock := goodIn_r _ [7, 8, 9, 6, 10] (by decide +kernel) (by decide +kernel)
set_option maxRecDepth 20000 in
theorem gX6_addTrain_X6_isBlock : GoodIn wsX6_addTrain (va_wsS RX6 82 yX6_isBlock wsX6_isBlock) := goodIn_app (goodIn_of _ (by decide +kernel)) ggX6_addTrain_X6_isBlock
set_option maxRecDepth 20000 in
theorem ggX6_addTrain_X6_standsOn : GoodIn wsX6_addTrain wsX6_standsOn := goodIn_r _ [14, 1, 2, 20, 21, 22, 23, 24, 25, 26, 27, 28, 29, 30, 31, 32, 33, 34, 35, 36, 37, 38, 39, 40, 41, 42, 43, 44, 45] (by decide +kernel) (by decide +kernel)
set_option maxRecDepth 20000 in
theorem gX6_addTrain_X6_standsOn : GoodIn wsX6_addTrain (wsV RX6 86 RX6 yX6_standsOn wsX6_standsOn) := goodIn_app (goodIn_of _ (by decide +kernel)) ggX6_addTrain_X6_standsOn
set_option maxRecDepth 20000 in
theorem ggX6_addTrain_X6_holds : GoodIn wsX6_addTrain wsX6_holds := goodIn_r _ [18, 19, 20, 21, 22, 23, 24, 25, 26, 27, 28, 29, 30, 31, 32, 33, 34, 35, 36, 37, 38, 39, 40, 41, 42, 43, 44, 45] (by decide +kernel) (by decide +kernel)
set_option maxRecDepth 20000 in
theorem gX6_addTrain_X6_holds : GoodIn wsX6_addTrain (wsV RX6 90 RX6 yX6_holds wsX6_holds) := goodIn_app (goodIn_of _ (by decide +kernel)) ggX6_addTrain_X6_holds
theorem dX6_addTrain_0 : decode cX6_addTrain 0 = .ok (.aload_n 0, 1) := by decide +kernel
theorem dX6_addTrain_1 : decode cX6_addTrain 1 = .ok (.iload_n 1, 1) := by decide +kernel
theorem dX6_addTrain_2 : decode cX6_addTrain 2 = .ok (.invokestatic 82, 3) := by decide +kernel
theorem dX6_addTrain_5 : decode cX6_addTrain 5 = .ok (.ifCond .ne 7, 3) := by decide +kernel
theorem dX6_addTrain_8 : decode cX6_addTrain 8 = .ok (.iconst 1, 1) := by decide +kernel
theorem dX6_addTrain_9 : decode cX6_addTrain 9 = .ok (.goto 25, 3) := by decide +kernel
theorem dX6_addTrain_12 : decode cX6_addTrain 12 = .ok (.aload_n 0, 1) := by decide +kernel
theorem dX6_addTrain_13 : decode cX6_addTrain 13 = .ok (.getfield 75, 3) := by decide +kernel
theorem dX6_addTrain_16 : decode cX6_addTrain 16 = .ok (.iconst 4, 1) := by decide +kernel
theorem dX6_addTrain_17 : decode cX6_addTrain 17 = .ok (.if_icmp .eq 12, 3) := by decide +kernel
theorem dX6_addTrain_20 : decode cX6_addTrain 20 = .ok (.aload_n 0, 1) := by decide +kernel
theorem dX6_addTrain_21 : decode cX6_addTrain 21 = .ok (.iload_n 1, 1) := by decide +kernel
theorem dX6_addTrain_22 : decode cX6_addTrain 22 = .ok (.invokevirtual 86, 3) := by decide +kernel
theorem dX6_addTrain_25 : decode cX6_addTrain 25 = .ok (.iconst (-1), 1) := by decide +kernel
theorem dX6_addTrain_26 : decode cX6_addTrain 26 = .ok (.if_icmp .eq 7, 3) := by decide +kernel
theorem dX6_addTrain_29 : decode cX6_addTrain 29 = .ok (.iconst 2, 1) := by decide +kernel
theorem dX6_addTrain_30 : decode cX6_addTrain 30 = .ok (.goto 4, 3) := by decide +kernel
theorem dX6_addTrain_33 : decode cX6_addTrain 33 = .ok (.iconst 0, 1) := by decide +kernel
theorem dX6_addTrain_34 : decode cX6_addTrain 34 = .ok (.invokevirtual 90, 3) := by decide +kernel
theorem dX6_addTrain_37 : decode cX6_addTrain 37 = .ok (.ifCond .ne 5, 3) := by decide +kernel
theorem dX6_addTrain_40 : decode cX6_addTrain 40 = .ok (.iconst 0, 1) := by decide +kernel
theorem dX6_addTrain_41 : decode cX6_addTrain 41 = .ok (.ireturn, 1) := by decide +kernel
theorem dX6_addTrain_42 : decode cX6_addTrain 42 = .ok (.aload_n 0, 1) := by decide +kernel
theorem dX6_addTrain_43 : decode cX6_addTrain 43 = .ok (.getfield 7, 3) := by decide +kernel
theorem dX6_addTrain_46 : decode cX6_addTrain 46 = .ok (.aload_n 0, 1) := by decide +kernel
theorem dX6_addTrain_47 : decode cX6_addTrain 47 = .ok (.getfield 75, 3) := by decide +kernel
theorem dX6_addTrain_50 : decode cX6_addTrain 50 = .ok (.iload_n 1, 1) := by decide +kernel
theorem dX6_addTrain_51 : decode cX6_addTrain 51 = .ok (.iastore, 1) := by decide +kernel
theorem dX6_addTrain_52 : decode cX6_addTrain 52 = .ok (.aload_n 0, 1) := by decide +kernel
theorem dX6_addTrain_53 : decode cX6_addTrain 53 = .ok (.getfield 13, 3) := by decide +kernel
theorem dX6_addTrain_56 : decode cX6_addTrain 56 = .ok (.aload_n 0, 1) := by decide +kernel
theorem dX6_addTrain_57 : decode cX6_addTrain 57 = .ok (.getfield 75, 3) := by decide +kernel
theorem dX6_addTrain_60 : decode cX6_addTrain 60 = .ok (.iload_n 2, 1) := by decide +kernel
theorem dX6_addTrain_61 : decode cX6_addTrain 61 = .ok (.bastore, 1) := by decide +kernel
theorem dX6_addTrain_62 : decode cX6_addTrain 62 = .ok (.aload_n 0, 1) := by decide +kernel
theorem dX6_addTrain_63 : decode cX6_addTrain 63 = .ok (.dup, 1) := by decide +kernel
theorem dX6_addTrain_64 : decode cX6_addTrain 64 = .ok (.getfield 75, 3) := by decide +kernel
theorem dX6_addTrain_67 : decode cX6_addTrain 67 = .ok (.iconst 1, 1) := by decide +kernel
theorem dX6_addTrain_68 : decode cX6_addTrain 68 = .ok (.iadd, 1) := by decide +kernel
theorem dX6_addTrain_69 : decode cX6_addTrain 69 = .ok (.putfield 75, 3) := by decide +kernel
theorem dX6_addTrain_72 : decode cX6_addTrain 72 = .ok (.aload_n 0, 1) := by decide +kernel
theorem dX6_addTrain_73 : decode cX6_addTrain 73 = .ok (.getfield 75, 3) := by decide +kernel
theorem dX6_addTrain_76 : decode cX6_addTrain 76 = .ok (.iconst 1, 1) := by decide +kernel
theorem dX6_addTrain_77 : decode cX6_addTrain 77 = .ok (.isub, 1) := by decide +kernel
theorem dX6_addTrain_78 : decode cX6_addTrain 78 = .ok (.ireturn, 1) := by decide +kernel
set_option maxRecDepth 20000 in
theorem ggX6_hold_X6_isTrain : GoodIn wsX6_hold wsX6_isTrain := goodIn_r _ [6, 7, 8, 9, 5, 10, 16, 17, 18, 19, 20, 21, 22, 23, 24, 25, 26, 27, 28, 29, 30, 31, 32, 33, 34, 35, 36, 37, 38, 39, 40, 41] (by decide +kernel) (by decide +kernel)
set_option maxRecDepth 20000 in
theorem gX6_hold_X6_isTrain : GoodIn wsX6_hold (wsV RX6 93 RX6 yX6_isTrain wsX6_isTrain) := goodIn_app (goodIn_of _ (by decide +kernel)) ggX6_hold_X6_isTrain
set_option maxRecDepth 20000 in
theorem ggX6_hold_X6_holds : GoodIn wsX6_hold wsX6_holds := goodIn_r _ [14, 15, 16, 17, 18, 19, 20, 21, 22, 23, 24, 25, 26, 27, 28, 29, 30, 31, 32, 33, 34, 35, 36, 37, 38, 39, 40, 41] (by decide +kernel) (by decide +kernel)
set_option maxRecDepth 20000 in
theorem gX6_hold_X6_holds : GoodIn wsX6_hold (wsV RX6 90 RX6 yX6_holds wsX6_holds) := goodIn_app (goodIn_of _ (by decide +kernel)) ggX6_hold_X6_holds
theorem dX6_hold_0 : decode cX6_hold 0 = .ok (.aload_n 0, 1) := by decide +kernel
theorem dX6_hold_1 : decode cX6_hold 1 = .ok (.aload_n 0, 1) := by decide +kernel
theorem dX6_hold_2 : decode cX6_hold 2 = .ok (.iload_n 1, 1) := by decide +kernel
theorem dX6_hold_3 : decode cX6_hold 3 = .ok (.invokevirtual 93, 3) := by decide +kernel
theorem dX6_hold_6 : decode cX6_hold 6 = .ok (.ifCond .eq 7, 3) := by decide +kernel
theorem dX6_hold_9 : decode cX6_hold 9 = .ok (.iconst 0, 1) := by decide +kernel
theorem dX6_hold_10 : decode cX6_hold 10 = .ok (.goto 4, 3) := by decide +kernel
theorem dX6_hold_13 : decode cX6_hold 13 = .ok (.iconst 1, 1) := by decide +kernel
theorem dX6_hold_14 : decode cX6_hold 14 = .ok (.invokevirtual 90, 3) := by decide +kernel
theorem dX6_hold_17 : decode cX6_hold 17 = .ok (.ifCond .ne 5, 3) := by decide +kernel
theorem dX6_hold_20 : decode cX6_hold 20 = .ok (.iconst 0, 1) := by decide +kernel
theorem dX6_hold_21 : decode cX6_hold 21 = .ok (.ireturn, 1) := by decide +kernel
theorem dX6_hold_22 : decode cX6_hold 22 = .ok (.aload_n 0, 1) := by decide +kernel
theorem dX6_hold_23 : decode cX6_hold 23 = .ok (.getfield 17, 3) := by decide +kernel
theorem dX6_hold_26 : decode cX6_hold 26 = .ok (.iload_n 1, 1) := by decide +kernel
theorem dX6_hold_27 : decode cX6_hold 27 = .ok (.baload, 1) := by decide +kernel
theorem dX6_hold_28 : decode cX6_hold 28 = .ok (.istore_n 3, 1) := by decide +kernel
theorem dX6_hold_29 : decode cX6_hold 29 = .ok (.aload_n 0, 1) := by decide +kernel
theorem dX6_hold_30 : decode cX6_hold 30 = .ok (.getfield 17, 3) := by decide +kernel
theorem dX6_hold_33 : decode cX6_hold 33 = .ok (.iload_n 1, 1) := by decide +kernel
theorem dX6_hold_34 : decode cX6_hold 34 = .ok (.iload_n 2, 1) := by decide +kernel
theorem dX6_hold_35 : decode cX6_hold 35 = .ok (.bastore, 1) := by decide +kernel
theorem dX6_hold_36 : decode cX6_hold 36 = .ok (.iload_n 3, 1) := by decide +kernel
theorem dX6_hold_37 : decode cX6_hold 37 = .ok (.iload_n 2, 1) := by decide +kernel
theorem dX6_hold_38 : decode cX6_hold 38 = .ok (.if_icmp .eq 7, 3) := by decide +kernel
theorem dX6_hold_41 : decode cX6_hold 41 = .ok (.iconst 1, 1) := by decide +kernel
theorem dX6_hold_42 : decode cX6_hold 42 = .ok (.goto 4, 3) := by decide +kernel
theorem dX6_hold_45 : decode cX6_hold 45 = .ok (.iconst 0, 1) := by decide +kernel
theorem dX6_hold_46 : decode cX6_hold 46 = .ok (.ireturn, 1) := by decide +kernel
set_option maxRecDepth 20000 in
theorem ggX6_delay_X6_isTrain : GoodIn wsX6_delay wsX6_isTrain := goodIn_r _ [6, 7, 8, 9, 5, 10, 16, 17, 18, 19, 20, 21, 22, 23, 24, 25, 26, 27, 28, 29, 30, 31, 32, 33, 34, 35, 36, 37, 38, 39, 40, 41] (by decide +kernel) (by decide +kernel)
set_option maxRecDepth 20000 in
theorem gX6_delay_X6_isTrain : GoodIn wsX6_delay (wsV RX6 93 RX6 yX6_isTrain wsX6_isTrain) := goodIn_app (goodIn_of _ (by decide +kernel)) ggX6_delay_X6_isTrain
set_option maxRecDepth 20000 in
theorem ggX6_delay_X6_in : GoodIn wsX6_delay wsX6_in := goodIn_r _ [10] (by decide +kernel) (by decide +kernel)
set_option maxRecDepth 20000 in
theorem gX6_delay_X6_in : GoodIn wsX6_delay (va_wsS RX6 78 yX6_in wsX6_in) := goodIn_app (goodIn_of _ (by decide +kernel)) ggX6_delay_X6_in
set_option maxRecDepth 20000 in
theorem ggX6_delay_X6_holds : GoodIn wsX6_delay wsX6_holds := goodIn_r _ [14, 15, 16, 17, 18, 19, 20, 21, 22, 23, 24, 25, 26, 27, 28, 29, 30, 31, 32, 33, 34, 35, 36, 37, 38, 39, 40, 41] (by decide +kernel) (by decide +kernel)
set_option maxRecDepth 20000 in
theorem gX6_delay_X6_holds : GoodIn wsX6_delay (wsV RX6 90 RX6 yX6_holds wsX6_holds) := goodIn_app (goodIn_of _ (by decide +kernel)) ggX6_delay_X6_holds
theorem dX6_delay_0 : decode cX6_delay 0 = .ok (.aload_n 0, 1) := by decide +kernel
theorem dX6_delay_1 : decode cX6_delay 1 = .ok (.aload_n 0, 1) := by decide +kernel
theorem dX6_delay_2 : decode cX6_delay 2 = .ok (.iload_n 1, 1) := by decide +kernel
theorem dX6_delay_3 : decode cX6_delay 3 = .ok (.invokevirtual 93, 3) := by decide +kernel
theorem dX6_delay_6 : decode cX6_delay 6 = .ok (.ifCond .ne 7, 3) := by decide +kernel
theorem dX6_delay_9 : decode cX6_delay 9 = .ok (.iconst 1, 1) := by decide +kernel
theorem dX6_delay_10 : decode cX6_delay 10 = .ok (.goto 32, 3) := by decide +kernel
theorem dX6_delay_13 : decode cX6_delay 13 = .ok (.iload_n 2, 1) := by decide +kernel
theorem dX6_delay_14 : decode cX6_delay 14 = .ok (.iconst 1, 1) := by decide +kernel
theorem dX6_delay_15 : decode cX6_delay 15 = .ok (.bipush 100, 2) := by decide +kernel
theorem dX6_delay_17 : decode cX6_delay 17 = .ok (.invokestatic 78, 3) := by decide +kernel
theorem dX6_delay_20 : decode cX6_delay 20 = .ok (.ifCond .eq 17, 3) := by decide +kernel
theorem dX6_delay_23 : decode cX6_delay 23 = .ok (.aload_n 0, 1) := by decide +kernel
theorem dX6_delay_24 : decode cX6_delay 24 = .ok (.getfield 20, 3) := by decide +kernel
theorem dX6_delay_27 : decode cX6_delay 27 = .ok (.iload_n 1, 1) := by decide +kernel
theorem dX6_delay_28 : decode cX6_delay 28 = .ok (.iaload, 1) := by decide +kernel
theorem dX6_delay_29 : decode cX6_delay 29 = .ok (.iload_n 2, 1) := by decide +kernel
theorem dX6_delay_30 : decode cX6_delay 30 = .ok (.iadd, 1) := by decide +kernel
theorem dX6_delay_31 : decode cX6_delay 31 = .ok (.sipush 1000, 3) := by decide +kernel
theorem dX6_delay_34 : decode cX6_delay 34 = .ok (.if_icmp .le 7, 3) := by decide +kernel
theorem dX6_delay_37 : decode cX6_delay 37 = .ok (.iconst 2, 1) := by decide +kernel
theorem dX6_delay_38 : decode cX6_delay 38 = .ok (.goto 4, 3) := by decide +kernel
theorem dX6_delay_41 : decode cX6_delay 41 = .ok (.iconst 0, 1) := by decide +kernel
theorem dX6_delay_42 : decode cX6_delay 42 = .ok (.invokevirtual 90, 3) := by decide +kernel
theorem dX6_delay_45 : decode cX6_delay 45 = .ok (.ifCond .ne 5, 3) := by decide +kernel
theorem dX6_delay_48 : decode cX6_delay 48 = .ok (.iconst 0, 1) := by decide +kernel
theorem dX6_delay_49 : decode cX6_delay 49 = .ok (.ireturn, 1) := by decide +kernel
theorem dX6_delay_50 : decode cX6_delay 50 = .ok (.aload_n 0, 1) := by decide +kernel
theorem dX6_delay_51 : decode cX6_delay 51 = .ok (.getfield 20, 3) := by decide +kernel
theorem dX6_delay_54 : decode cX6_delay 54 = .ok (.iload_n 1, 1) := by decide +kernel
theorem dX6_delay_55 : decode cX6_delay 55 = .ok (.dup2, 1) := by decide +kernel
theorem dX6_delay_56 : decode cX6_delay 56 = .ok (.iaload, 1) := by decide +kernel
theorem dX6_delay_57 : decode cX6_delay 57 = .ok (.iload_n 2, 1) := by decide +kernel
theorem dX6_delay_58 : decode cX6_delay 58 = .ok (.iadd, 1) := by decide +kernel
theorem dX6_delay_59 : decode cX6_delay 59 = .ok (.iastore, 1) := by decide +kernel
theorem dX6_delay_60 : decode cX6_delay 60 = .ok (.aload_n 0, 1) := by decide +kernel
theorem dX6_delay_61 : decode cX6_delay 61 = .ok (.getfield 20, 3) := by decide +kernel
theorem dX6_delay_64 : decode cX6_delay 64 = .ok (.iload_n 1, 1) := by decide +kernel
theorem dX6_delay_65 : decode cX6_delay 65 = .ok (.iaload, 1) := by decide +kernel
theorem dX6_delay_66 : decode cX6_delay 66 = .ok (.ireturn, 1) := by decide +kernel
set_option maxRecDepth 20000 in
theorem ggX6_reverse_X6_isTrain : GoodIn wsX6_reverse wsX6_isTrain := goodIn_r _ [6, 7, 8, 9, 5, 10, 16, 17, 18, 19, 20, 21, 22, 23, 24, 25, 26, 27, 28, 29, 30, 31, 32, 33, 34, 35, 36, 37, 38, 39, 40, 41] (by decide +kernel) (by decide +kernel)
set_option maxRecDepth 20000 in
theorem gX6_reverse_X6_isTrain : GoodIn wsX6_reverse (wsV RX6 93 RX6 yX6_isTrain wsX6_isTrain) := goodIn_app (goodIn_of _ (by decide +kernel)) ggX6_reverse_X6_isTrain
set_option maxRecDepth 20000 in
theorem ggX6_reverse_X6_holds : GoodIn wsX6_reverse wsX6_holds := goodIn_r _ [14, 15, 16, 17, 18, 19, 20, 21, 22, 23, 24, 25, 26, 27, 28, 29, 30, 31, 32, 33, 34, 35, 36, 37, 38, 39, 40, 41] (by decide +kernel) (by decide +kernel)
set_option maxRecDepth 20000 in
theorem gX6_reverse_X6_holds : GoodIn wsX6_reverse (wsV RX6 90 RX6 yX6_holds wsX6_holds) := goodIn_app (goodIn_of _ (by decide +kernel)) ggX6_reverse_X6_holds
theorem dX6_reverse_0 : decode cX6_reverse 0 = .ok (.aload_n 0, 1) := by decide +kernel
theorem dX6_reverse_1 : decode cX6_reverse 1 = .ok (.aload_n 0, 1) := by decide +kernel
theorem dX6_reverse_2 : decode cX6_reverse 2 = .ok (.iload_n 1, 1) := by decide +kernel
theorem dX6_reverse_3 : decode cX6_reverse 3 = .ok (.invokevirtual 93, 3) := by decide +kernel
theorem dX6_reverse_6 : decode cX6_reverse 6 = .ok (.ifCond .eq 7, 3) := by decide +kernel
theorem dX6_reverse_9 : decode cX6_reverse 9 = .ok (.iconst 0, 1) := by decide +kernel
theorem dX6_reverse_10 : decode cX6_reverse 10 = .ok (.goto 4, 3) := by decide +kernel
theorem dX6_reverse_13 : decode cX6_reverse 13 = .ok (.iconst 1, 1) := by decide +kernel
theorem dX6_reverse_14 : decode cX6_reverse 14 = .ok (.invokevirtual 90, 3) := by decide +kernel
theorem dX6_reverse_17 : decode cX6_reverse 17 = .ok (.ifCond .ne 5, 3) := by decide +kernel
theorem dX6_reverse_20 : decode cX6_reverse 20 = .ok (.iconst 0, 1) := by decide +kernel
theorem dX6_reverse_21 : decode cX6_reverse 21 = .ok (.ireturn, 1) := by decide +kernel
theorem dX6_reverse_22 : decode cX6_reverse 22 = .ok (.aload_n 0, 1) := by decide +kernel
theorem dX6_reverse_23 : decode cX6_reverse 23 = .ok (.getfield 13, 3) := by decide +kernel
theorem dX6_reverse_26 : decode cX6_reverse 26 = .ok (.iload_n 1, 1) := by decide +kernel
theorem dX6_reverse_27 : decode cX6_reverse 27 = .ok (.aload_n 0, 1) := by decide +kernel
theorem dX6_reverse_28 : decode cX6_reverse 28 = .ok (.getfield 13, 3) := by decide +kernel
theorem dX6_reverse_31 : decode cX6_reverse 31 = .ok (.iload_n 1, 1) := by decide +kernel
theorem dX6_reverse_32 : decode cX6_reverse 32 = .ok (.baload, 1) := by decide +kernel
theorem dX6_reverse_33 : decode cX6_reverse 33 = .ok (.ifCond .ne 7, 3) := by decide +kernel
theorem dX6_reverse_36 : decode cX6_reverse 36 = .ok (.iconst 1, 1) := by decide +kernel
theorem dX6_reverse_37 : decode cX6_reverse 37 = .ok (.goto 4, 3) := by decide +kernel
theorem dX6_reverse_40 : decode cX6_reverse 40 = .ok (.iconst 0, 1) := by decide +kernel
theorem dX6_reverse_41 : decode cX6_reverse 41 = .ok (.bastore, 1) := by decide +kernel
theorem dX6_reverse_42 : decode cX6_reverse 42 = .ok (.aload_n 0, 1) := by decide +kernel
theorem dX6_reverse_43 : decode cX6_reverse 43 = .ok (.getfield 13, 3) := by decide +kernel
theorem dX6_reverse_46 : decode cX6_reverse 46 = .ok (.iload_n 1, 1) := by decide +kernel
theorem dX6_reverse_47 : decode cX6_reverse 47 = .ok (.baload, 1) := by decide +kernel
theorem dX6_reverse_48 : decode cX6_reverse 48 = .ok (.ireturn, 1) := by decide +kernel
set_option maxRecDepth 20000 in
theorem ggX6_throwSwitch_X6_in : GoodIn wsX6_throwSwitch wsX6_in := goodIn_r _ [5] (by decide +kernel) (by decide +kernel)
set_option maxRecDepth 20000 in
theorem gX6_throwSwitch_X6_in : GoodIn wsX6_throwSwitch (va_wsS RX6 78 yX6_in wsX6_in) := goodIn_app (goodIn_of _ (by decide +kernel)) ggX6_throwSwitch_X6_in
set_option maxRecDepth 20000 in
theorem ggX6_throwSwitch_X6_holds : GoodIn wsX6_throwSwitch wsX6_holds := goodIn_r _ [9, 10, 11, 12, 13, 14, 15, 16, 17, 18, 19, 20, 21, 22, 23, 24, 25, 26, 27, 28, 29, 30, 31, 32, 33, 34, 35, 36] (by decide +kernel) (by decide +kernel)
set_option maxRecDepth 20000 in
theorem gX6_throwSwitch_X6_holds : GoodIn wsX6_throwSwitch (wsV RX6 90 RX6 yX6_holds wsX6_holds) := goodIn_app (goodIn_of _ (by decide +kernel)) ggX6_throwSwitch_X6_holds
theorem dX6_throwSwitch_0 : decode cX6_throwSwitch 0 = .ok (.aload_n 0, 1) := by decide +kernel
theorem dX6_throwSwitch_1 : decode cX6_throwSwitch 1 = .ok (.iload_n 1, 1) := by decide +kernel
theorem dX6_throwSwitch_2 : decode cX6_throwSwitch 2 = .ok (.iconst 0, 1) := by decide +kernel
theorem dX6_throwSwitch_3 : decode cX6_throwSwitch 3 = .ok (.iconst 1, 1) := by decide +kernel
theorem dX6_throwSwitch_4 : decode cX6_throwSwitch 4 = .ok (.invokestatic 78, 3) := by decide +kernel
theorem dX6_throwSwitch_7 : decode cX6_throwSwitch 7 = .ok (.ifCond .eq 7, 3) := by decide +kernel
theorem dX6_throwSwitch_10 : decode cX6_throwSwitch 10 = .ok (.iconst 0, 1) := by decide +kernel
theorem dX6_throwSwitch_11 : decode cX6_throwSwitch 11 = .ok (.goto 4, 3) := by decide +kernel
theorem dX6_throwSwitch_14 : decode cX6_throwSwitch 14 = .ok (.iconst 1, 1) := by decide +kernel
theorem dX6_throwSwitch_15 : decode cX6_throwSwitch 15 = .ok (.invokevirtual 90, 3) := by decide +kernel
theorem dX6_throwSwitch_18 : decode cX6_throwSwitch 18 = .ok (.ifCond .ne 5, 3) := by decide +kernel
theorem dX6_throwSwitch_21 : decode cX6_throwSwitch 21 = .ok (.iconst 0, 1) := by decide +kernel
theorem dX6_throwSwitch_22 : decode cX6_throwSwitch 22 = .ok (.ireturn, 1) := by decide +kernel
theorem dX6_throwSwitch_23 : decode cX6_throwSwitch 23 = .ok (.aload_n 0, 1) := by decide +kernel
theorem dX6_throwSwitch_24 : decode cX6_throwSwitch 24 = .ok (.getfield 23, 3) := by decide +kernel
theorem dX6_throwSwitch_27 : decode cX6_throwSwitch 27 = .ok (.iload_n 1, 1) := by decide +kernel
theorem dX6_throwSwitch_28 : decode cX6_throwSwitch 28 = .ok (.aload_n 0, 1) := by decide +kernel
theorem dX6_throwSwitch_29 : decode cX6_throwSwitch 29 = .ok (.getfield 23, 3) := by decide +kernel
theorem dX6_throwSwitch_32 : decode cX6_throwSwitch 32 = .ok (.iload_n 1, 1) := by decide +kernel
theorem dX6_throwSwitch_33 : decode cX6_throwSwitch 33 = .ok (.baload, 1) := by decide +kernel
theorem dX6_throwSwitch_34 : decode cX6_throwSwitch 34 = .ok (.ifCond .ne 7, 3) := by decide +kernel
theorem dX6_throwSwitch_37 : decode cX6_throwSwitch 37 = .ok (.iconst 1, 1) := by decide +kernel
theorem dX6_throwSwitch_38 : decode cX6_throwSwitch 38 = .ok (.goto 4, 3) := by decide +kernel
theorem dX6_throwSwitch_41 : decode cX6_throwSwitch 41 = .ok (.iconst 0, 1) := by decide +kernel
theorem dX6_throwSwitch_42 : decode cX6_throwSwitch 42 = .ok (.bastore, 1) := by decide +kernel
theorem dX6_throwSwitch_43 : decode cX6_throwSwitch 43 = .ok (.aload_n 0, 1) := by decide +kernel
theorem dX6_throwSwitch_44 : decode cX6_throwSwitch 44 = .ok (.getfield 23, 3) := by decide +kernel
theorem dX6_throwSwitch_47 : decode cX6_throwSwitch 47 = .ok (.iload_n 1, 1) := by decide +kernel
theorem dX6_throwSwitch_48 : decode cX6_throwSwitch 48 = .ok (.baload, 1) := by decide +kernel
theorem dX6_throwSwitch_49 : decode cX6_throwSwitch 49 = .ok (.ireturn, 1) := by decide +kernel
set_option maxRecDepth 20000 in
theorem ggX6_block_X6_isTrain : GoodIn wsX6_block wsX6_isTrain := goodIn_r _ [6, 7, 8, 9, 5, 10, 16, 17, 18, 19, 20, 21, 22, 23, 24, 25, 26, 27, 28, 29, 30, 31, 32, 33, 34, 35, 36, 37, 38, 39, 40, 41] (by decide +kernel) (by decide +kernel)
set_option maxRecDepth 20000 in
theorem gX6_block_X6_isTrain : GoodIn wsX6_block (wsV RX6 93 RX6 yX6_isTrain wsX6_isTrain) := goodIn_app (goodIn_of _ (by decide +kernel)) ggX6_block_X6_isTrain
set_option maxRecDepth 20000 in
theorem ggX6_block_X6_holds : GoodIn wsX6_block wsX6_holds := goodIn_r _ [14, 15, 16, 17, 18, 19, 20, 21, 22, 23, 24, 25, 26, 27, 28, 29, 30, 31, 32, 33, 34, 35, 36, 37, 38, 39, 40, 41] (by decide +kernel) (by decide +kernel)
set_option maxRecDepth 20000 in
theorem gX6_block_X6_holds : GoodIn wsX6_block (wsV RX6 90 RX6 yX6_holds wsX6_holds) := goodIn_app (goodIn_of _ (by decide +kernel)) ggX6_block_X6_holds
theorem dX6_block_0 : decode cX6_block 0 = .ok (.aload_n 0, 1) := by decide +kernel
theorem dX6_block_1 : decode cX6_block 1 = .ok (.aload_n 0, 1) := by decide +kernel
theorem dX6_block_2 : decode cX6_block 2 = .ok (.iload_n 1, 1) := by decide +kernel
theorem dX6_block_3 : decode cX6_block 3 = .ok (.invokevirtual 93, 3) := by decide +kernel
theorem dX6_block_6 : decode cX6_block 6 = .ok (.ifCond .eq 7, 3) := by decide +kernel
theorem dX6_block_9 : decode cX6_block 9 = .ok (.iconst 0, 1) := by decide +kernel
theorem dX6_block_10 : decode cX6_block 10 = .ok (.goto 4, 3) := by decide +kernel
theorem dX6_block_13 : decode cX6_block 13 = .ok (.iconst 1, 1) := by decide +kernel
theorem dX6_block_14 : decode cX6_block 14 = .ok (.invokevirtual 90, 3) := by decide +kernel
theorem dX6_block_17 : decode cX6_block 17 = .ok (.ifCond .eq 12, 3) := by decide +kernel
theorem dX6_block_20 : decode cX6_block 20 = .ok (.aload_n 0, 1) := by decide +kernel
theorem dX6_block_21 : decode cX6_block 21 = .ok (.getfield 7, 3) := by decide +kernel
theorem dX6_block_24 : decode cX6_block 24 = .ok (.iload_n 1, 1) := by decide +kernel
theorem dX6_block_25 : decode cX6_block 25 = .ok (.iaload, 1) := by decide +kernel
theorem dX6_block_26 : decode cX6_block 26 = .ok (.goto 4, 3) := by decide +kernel
theorem dX6_block_29 : decode cX6_block 29 = .ok (.iconst 0, 1) := by decide +kernel
theorem dX6_block_30 : decode cX6_block 30 = .ok (.ireturn, 1) := by decide +kernel
set_option maxRecDepth 20000 in
theorem ggX6_isRight_X6_isTrain : GoodIn wsX6_isRight wsX6_isTrain := goodIn_r _ [6, 7, 8, 9, 5, 10, 16, 17, 18, 19, 20, 21, 22, 23, 24, 25, 26, 27, 28, 29, 30, 31, 32, 33, 34, 35, 36, 37, 38, 39, 40, 41] (by decide +kernel) (by decide +kernel)
set_option maxRecDepth 20000 in
theorem gX6_isRight_X6_isTrain : GoodIn wsX6_isRight (wsV RX6 93 RX6 yX6_isTrain wsX6_isTrain) := goodIn_app (goodIn_of _ (by decide +kernel)) ggX6_isRight_X6_isTrain
set_option maxRecDepth 20000 in
theorem ggX6_isRight_X6_holds : GoodIn wsX6_isRight wsX6_holds := goodIn_r _ [14, 15, 16, 17, 18, 19, 20, 21, 22, 23, 24, 25, 26, 27, 28, 29, 30, 31, 32, 33, 34, 35, 36, 37, 38, 39, 40, 41] (by decide +kernel) (by decide +kernel)
set_option maxRecDepth 20000 in
theorem gX6_isRight_X6_holds : GoodIn wsX6_isRight (wsV RX6 90 RX6 yX6_holds wsX6_holds) := goodIn_app (goodIn_of _ (by decide +kernel)) ggX6_isRight_X6_holds
theorem dX6_isRight_0 : decode cX6_isRight 0 = .ok (.aload_n 0, 1) := by decide +kernel
theorem dX6_isRight_1 : decode cX6_isRight 1 = .ok (.aload_n 0, 1) := by decide +kernel
theorem dX6_isRight_2 : decode cX6_isRight 2 = .ok (.iload_n 1, 1) := by decide +kernel
theorem dX6_isRight_3 : decode cX6_isRight 3 = .ok (.invokevirtual 93, 3) := by decide +kernel
theorem dX6_isRight_6 : decode cX6_isRight 6 = .ok (.ifCond .eq 7, 3) := by decide +kernel
theorem dX6_isRight_9 : decode cX6_isRight 9 = .ok (.iconst 0, 1) := by decide +kernel
theorem dX6_isRight_10 : decode cX6_isRight 10 = .ok (.goto 4, 3) := by decide +kernel
theorem dX6_isRight_13 : decode cX6_isRight 13 = .ok (.iconst 1, 1) := by decide +kernel
theorem dX6_isRight_14 : decode cX6_isRight 14 = .ok (.invokevirtual 90, 3) := by decide +kernel
theorem dX6_isRight_17 : decode cX6_isRight 17 = .ok (.ifCond .eq 16, 3) := by decide +kernel
theorem dX6_isRight_20 : decode cX6_isRight 20 = .ok (.aload_n 0, 1) := by decide +kernel
theorem dX6_isRight_21 : decode cX6_isRight 21 = .ok (.getfield 13, 3) := by decide +kernel
theorem dX6_isRight_24 : decode cX6_isRight 24 = .ok (.iload_n 1, 1) := by decide +kernel
theorem dX6_isRight_25 : decode cX6_isRight 25 = .ok (.baload, 1) := by decide +kernel
theorem dX6_isRight_26 : decode cX6_isRight 26 = .ok (.ifCond .eq 7, 3) := by decide +kernel
theorem dX6_isRight_29 : decode cX6_isRight 29 = .ok (.iconst 1, 1) := by decide +kernel
theorem dX6_isRight_30 : decode cX6_isRight 30 = .ok (.goto 4, 3) := by decide +kernel
theorem dX6_isRight_33 : decode cX6_isRight 33 = .ok (.iconst 0, 1) := by decide +kernel
theorem dX6_isRight_34 : decode cX6_isRight 34 = .ok (.ireturn, 1) := by decide +kernel
set_option maxRecDepth 20000 in
theorem ggX6_trainOn_X6_isBlock : GoodIn wsX6_trainOn wsX6_isBlock := goodIn_r _ [4, 5, 6, 3, 7] (by decide +kernel) (by decide +kernel)
set_option maxRecDepth 20000 in
theorem gX6_trainOn_X6_isBlock : GoodIn wsX6_trainOn (va_wsS RX6 82 yX6_isBlock wsX6_isBlock) := goodIn_app (goodIn_of _ (by decide +kernel)) ggX6_trainOn_X6_isBlock
set_option maxRecDepth 20000 in
theorem ggX6_trainOn_X6_holds : GoodIn wsX6_trainOn wsX6_holds := goodIn_r _ [11, 12, 19, 20, 21, 22, 23, 24, 25, 26, 27, 28, 29, 30, 31, 32, 33, 34, 35, 36, 37, 38, 39, 40, 41, 42, 43, 44] (by decide +kernel) (by decide +kernel)
set_option maxRecDepth 20000 in
theorem gX6_trainOn_X6_holds : GoodIn wsX6_trainOn (wsV RX6 90 RX6 yX6_holds wsX6_holds) := goodIn_app (goodIn_of _ (by decide +kernel)) ggX6_trainOn_X6_holds
set_option maxRecDepth 20000 in
theorem ggX6_trainOn_X6_standsOn : GoodIn wsX6_trainOn wsX6_standsOn := goodIn_r _ [16, 17, 18, 19, 20, 21, 22, 23, 24, 25, 26, 27, 28, 29, 30, 31, 32, 33, 34, 35, 36, 37, 38, 39, 40, 41, 42, 43, 44] (by decide +kernel) (by decide +kernel)
set_option maxRecDepth 20000 in
theorem gX6_trainOn_X6_standsOn : GoodIn wsX6_trainOn (wsV RX6 86 RX6 yX6_standsOn wsX6_standsOn) := goodIn_app (goodIn_of _ (by decide +kernel)) ggX6_trainOn_X6_standsOn
theorem dX6_trainOn_0 : decode cX6_trainOn 0 = .ok (.aload_n 0, 1) := by decide +kernel
theorem dX6_trainOn_1 : decode cX6_trainOn 1 = .ok (.iload_n 1, 1) := by decide +kernel
theorem dX6_trainOn_2 : decode cX6_trainOn 2 = .ok (.invokestatic 82, 3) := by decide +kernel
theorem dX6_trainOn_5 : decode cX6_trainOn 5 = .ok (.ifCond .eq 7, 3) := by decide +kernel
theorem dX6_trainOn_8 : decode cX6_trainOn 8 = .ok (.iconst 0, 1) := by decide +kernel
theorem dX6_trainOn_9 : decode cX6_trainOn 9 = .ok (.goto 4, 3) := by decide +kernel
theorem dX6_trainOn_12 : decode cX6_trainOn 12 = .ok (.iconst 1, 1) := by decide +kernel
theorem dX6_trainOn_13 : decode cX6_trainOn 13 = .ok (.invokevirtual 90, 3) := by decide +kernel
theorem dX6_trainOn_16 : decode cX6_trainOn 16 = .ok (.ifCond .eq 11, 3) := by decide +kernel
theorem dX6_trainOn_19 : decode cX6_trainOn 19 = .ok (.aload_n 0, 1) := by decide +kernel
theorem dX6_trainOn_20 : decode cX6_trainOn 20 = .ok (.iload_n 1, 1) := by decide +kernel
theorem dX6_trainOn_21 : decode cX6_trainOn 21 = .ok (.invokevirtual 86, 3) := by decide +kernel
theorem dX6_trainOn_24 : decode cX6_trainOn 24 = .ok (.goto 4, 3) := by decide +kernel
theorem dX6_trainOn_27 : decode cX6_trainOn 27 = .ok (.iconst 0, 1) := by decide +kernel
theorem dX6_trainOn_28 : decode cX6_trainOn 28 = .ok (.ireturn, 1) := by decide +kernel
theorem dX6_behind_0 : decode cX6_behind 0 = .ok (.iload_n 1, 1) := by decide +kernel
theorem dX6_behind_1 : decode cX6_behind 1 = .ok (.iconst 5, 1) := by decide +kernel
theorem dX6_behind_2 : decode cX6_behind 2 = .ok (.if_icmp .le 36, 3) := by decide +kernel
theorem dX6_behind_5 : decode cX6_behind 5 = .ok (.iload_n 1, 1) := by decide +kernel
theorem dX6_behind_6 : decode cX6_behind 6 = .ok (.bipush 6, 2) := by decide +kernel
theorem dX6_behind_8 : decode cX6_behind 8 = .ok (.isub, 1) := by decide +kernel
theorem dX6_behind_9 : decode cX6_behind 9 = .ok (.istore_n 3, 1) := by decide +kernel
theorem dX6_behind_10 : decode cX6_behind 10 = .ok (.iload_n 2, 1) := by decide +kernel
theorem dX6_behind_11 : decode cX6_behind 11 = .ok (.ifCond .eq 8, 3) := by decide +kernel
theorem dX6_behind_14 : decode cX6_behind 14 = .ok (.bipush (-2), 2) := by decide +kernel
theorem dX6_behind_16 : decode cX6_behind 16 = .ok (.goto 21, 3) := by decide +kernel
theorem dX6_behind_19 : decode cX6_behind 19 = .ok (.aload_n 0, 1) := by decide +kernel
theorem dX6_behind_20 : decode cX6_behind 20 = .ok (.getfield 23, 3) := by decide +kernel
theorem dX6_behind_23 : decode cX6_behind 23 = .ok (.iload_n 3, 1) := by decide +kernel
theorem dX6_behind_24 : decode cX6_behind 24 = .ok (.baload, 1) := by decide +kernel
theorem dX6_behind_25 : decode cX6_behind 25 = .ok (.ifCond .eq 11, 3) := by decide +kernel
theorem dX6_behind_28 : decode cX6_behind 28 = .ok (.iconst 2, 1) := by decide +kernel
theorem dX6_behind_29 : decode cX6_behind 29 = .ok (.iload_n 3, 1) := by decide +kernel
theorem dX6_behind_30 : decode cX6_behind 30 = .ok (.imul, 1) := by decide +kernel
theorem dX6_behind_31 : decode cX6_behind 31 = .ok (.iconst 1, 1) := by decide +kernel
theorem dX6_behind_32 : decode cX6_behind 32 = .ok (.iadd, 1) := by decide +kernel
theorem dX6_behind_33 : decode cX6_behind 33 = .ok (.goto 4, 3) := by decide +kernel
theorem dX6_behind_36 : decode cX6_behind 36 = .ok (.iconst (-1), 1) := by decide +kernel
theorem dX6_behind_37 : decode cX6_behind 37 = .ok (.ireturn, 1) := by decide +kernel
theorem dX6_behind_38 : decode cX6_behind 38 = .ok (.iload_n 2, 1) := by decide +kernel
theorem dX6_behind_39 : decode cX6_behind 39 = .ok (.ifCond .eq 57, 3) := by decide +kernel
theorem dX6_behind_42 : decode cX6_behind 42 = .ok (.iload_n 1, 1) := by decide +kernel
theorem dX6_behind_43 : decode cX6_behind 43 = .ok (.iconst 1, 1) := by decide +kernel
theorem dX6_behind_44 : decode cX6_behind 44 = .ok (.if_icmp .eq 8, 3) := by decide +kernel
theorem dX6_behind_47 : decode cX6_behind 47 = .ok (.iload_n 1, 1) := by decide +kernel
theorem dX6_behind_48 : decode cX6_behind 48 = .ok (.iconst 3, 1) := by decide +kernel
theorem dX6_behind_49 : decode cX6_behind 49 = .ok (.if_icmp .ne 7, 3) := by decide +kernel
theorem dX6_behind_52 : decode cX6_behind 52 = .ok (.iconst 1, 1) := by decide +kernel
theorem dX6_behind_53 : decode cX6_behind 53 = .ok (.goto 4, 3) := by decide +kernel
theorem dX6_behind_56 : decode cX6_behind 56 = .ok (.iconst 0, 1) := by decide +kernel
theorem dX6_behind_57 : decode cX6_behind 57 = .ok (.istore_n 3, 1) := by decide +kernel
theorem dX6_behind_58 : decode cX6_behind 58 = .ok (.iload_n 1, 1) := by decide +kernel
theorem dX6_behind_59 : decode cX6_behind 59 = .ok (.iconst 5, 1) := by decide +kernel
theorem dX6_behind_60 : decode cX6_behind 60 = .ok (.if_icmp .ne 8, 3) := by decide +kernel
theorem dX6_behind_63 : decode cX6_behind 63 = .ok (.bipush (-2), 2) := by decide +kernel
theorem dX6_behind_65 : decode cX6_behind 65 = .ok (.goto 30, 3) := by decide +kernel
theorem dX6_behind_68 : decode cX6_behind 68 = .ok (.iload_n 3, 1) := by decide +kernel
theorem dX6_behind_69 : decode cX6_behind 69 = .ok (.ifCond .eq 23, 3) := by decide +kernel
theorem dX6_behind_72 : decode cX6_behind 72 = .ok (.aload_n 0, 1) := by decide +kernel
theorem dX6_behind_73 : decode cX6_behind 73 = .ok (.getfield 23, 3) := by decide +kernel
theorem dX6_behind_76 : decode cX6_behind 76 = .ok (.iload_n 1, 1) := by decide +kernel
theorem dX6_behind_77 : decode cX6_behind 77 = .ok (.iconst 2, 1) := by decide +kernel
theorem dX6_behind_78 : decode cX6_behind 78 = .ok (.idiv, 1) := by decide +kernel
theorem dX6_behind_79 : decode cX6_behind 79 = .ok (.baload, 1) := by decide +kernel
theorem dX6_behind_80 : decode cX6_behind 80 = .ok (.ifCond .eq 12, 3) := by decide +kernel
theorem dX6_behind_83 : decode cX6_behind 83 = .ok (.bipush 6, 2) := by decide +kernel
theorem dX6_behind_85 : decode cX6_behind 85 = .ok (.iload_n 1, 1) := by decide +kernel
theorem dX6_behind_86 : decode cX6_behind 86 = .ok (.iconst 2, 1) := by decide +kernel
theorem dX6_behind_87 : decode cX6_behind 87 = .ok (.idiv, 1) := by decide +kernel
theorem dX6_behind_88 : decode cX6_behind 88 = .ok (.iadd, 1) := by decide +kernel
theorem dX6_behind_89 : decode cX6_behind 89 = .ok (.goto 6, 3) := by decide +kernel
theorem dX6_behind_92 : decode cX6_behind 92 = .ok (.iload_n 1, 1) := by decide +kernel
theorem dX6_behind_93 : decode cX6_behind 93 = .ok (.iconst 1, 1) := by decide +kernel
theorem dX6_behind_94 : decode cX6_behind 94 = .ok (.iadd, 1) := by decide +kernel
theorem dX6_behind_95 : decode cX6_behind 95 = .ok (.ireturn, 1) := by decide +kernel
theorem dX6_behind_96 : decode cX6_behind 96 = .ok (.iload_n 1, 1) := by decide +kernel
theorem dX6_behind_97 : decode cX6_behind 97 = .ok (.iconst 2, 1) := by decide +kernel
theorem dX6_behind_98 : decode cX6_behind 98 = .ok (.if_icmp .eq 8, 3) := by decide +kernel
theorem dX6_behind_101 : decode cX6_behind 101 = .ok (.iload_n 1, 1) := by decide +kernel
theorem dX6_behind_102 : decode cX6_behind 102 = .ok (.iconst 4, 1) := by decide +kernel
theorem dX6_behind_103 : decode cX6_behind 103 = .ok (.if_icmp .ne 7, 3) := by decide +kernel
theorem dX6_behind_106 : decode cX6_behind 106 = .ok (.iconst 1, 1) := by decide +kernel
theorem dX6_behind_107 : decode cX6_behind 107 = .ok (.goto 4, 3) := by decide +kernel
theorem dX6_behind_110 : decode cX6_behind 110 = .ok (.iconst 0, 1) := by decide +kernel
theorem dX6_behind_111 : decode cX6_behind 111 = .ok (.istore_n 3, 1) := by decide +kernel
theorem dX6_behind_112 : decode cX6_behind 112 = .ok (.iload_n 1, 1) := by decide +kernel
theorem dX6_behind_113 : decode cX6_behind 113 = .ok (.ifCond .ne 8, 3) := by decide +kernel
theorem dX6_behind_116 : decode cX6_behind 116 = .ok (.bipush (-2), 2) := by decide +kernel
theorem dX6_behind_118 : decode cX6_behind 118 = .ok (.goto 27, 3) := by decide +kernel
theorem dX6_behind_121 : decode cX6_behind 121 = .ok (.iload_n 3, 1) := by decide +kernel
theorem dX6_behind_122 : decode cX6_behind 122 = .ok (.ifCond .eq 20, 3) := by decide +kernel
theorem dX6_behind_125 : decode cX6_behind 125 = .ok (.aload_n 0, 1) := by decide +kernel
theorem dX6_behind_126 : decode cX6_behind 126 = .ok (.getfield 23, 3) := by decide +kernel
theorem dX6_behind_129 : decode cX6_behind 129 = .ok (.iload_n 1, 1) := by decide +kernel
theorem dX6_behind_130 : decode cX6_behind 130 = .ok (.iconst 2, 1) := by decide +kernel
theorem dX6_behind_131 : decode cX6_behind 131 = .ok (.idiv, 1) := by decide +kernel
theorem dX6_behind_132 : decode cX6_behind 132 = .ok (.iconst 1, 1) := by decide +kernel
theorem dX6_behind_133 : decode cX6_behind 133 = .ok (.isub, 1) := by decide +kernel
theorem dX6_behind_134 : decode cX6_behind 134 = .ok (.baload, 1) := by decide +kernel
theorem dX6_behind_135 : decode cX6_behind 135 = .ok (.ifCond .eq 7, 3) := by decide +kernel
theorem dX6_behind_138 : decode cX6_behind 138 = .ok (.iconst (-1), 1) := by decide +kernel
theorem dX6_behind_139 : decode cX6_behind 139 = .ok (.goto 6, 3) := by decide +kernel
theorem dX6_behind_142 : decode cX6_behind 142 = .ok (.iload_n 1, 1) := by decide +kernel
theorem dX6_behind_143 : decode cX6_behind 143 = .ok (.iconst 1, 1) := by decide +kernel
theorem dX6_behind_144 : decode cX6_behind 144 = .ok (.isub, 1) := by decide +kernel
theorem dX6_behind_145 : decode cX6_behind 145 = .ok (.ireturn, 1) := by decide +kernel
theorem dX6_meets_0 : decode cX6_meets 0 = .ok (.iconst 0, 1) := by decide +kernel
theorem dX6_meets_1 : decode cX6_meets 1 = .ok (.istore 5, 2) := by decide +kernel
theorem dX6_meets_3 : decode cX6_meets 3 = .ok (.iload 5, 2) := by decide +kernel
theorem dX6_meets_5 : decode cX6_meets 5 = .ok (.aload_n 0, 1) := by decide +kernel
theorem dX6_meets_6 : decode cX6_meets 6 = .ok (.getfield 96, 3) := by decide +kernel
theorem dX6_meets_9 : decode cX6_meets 9 = .ok (.if_icmp .ge 56, 3) := by decide +kernel
theorem dX6_meets_12 : decode cX6_meets 12 = .ok (.aload_n 0, 1) := by decide +kernel
theorem dX6_meets_13 : decode cX6_meets 13 = .ok (.getfield 38, 3) := by decide +kernel
theorem dX6_meets_16 : decode cX6_meets 16 = .ok (.iload 5, 2) := by decide +kernel
theorem dX6_meets_18 : decode cX6_meets 18 = .ok (.iaload, 1) := by decide +kernel
theorem dX6_meets_19 : decode cX6_meets 19 = .ok (.iload_n 2, 1) := by decide +kernel
theorem dX6_meets_20 : decode cX6_meets 20 = .ok (.if_icmp .ne 39, 3) := by decide +kernel
theorem dX6_meets_23 : decode cX6_meets 23 = .ok (.aload_n 0, 1) := by decide +kernel
theorem dX6_meets_24 : decode cX6_meets 24 = .ok (.getfield 35, 3) := by decide +kernel
theorem dX6_meets_27 : decode cX6_meets 27 = .ok (.iload 5, 2) := by decide +kernel
theorem dX6_meets_29 : decode cX6_meets 29 = .ok (.iaload, 1) := by decide +kernel
theorem dX6_meets_30 : decode cX6_meets 30 = .ok (.iload_n 1, 1) := by decide +kernel
theorem dX6_meets_31 : decode cX6_meets 31 = .ok (.if_icmp .eq 28, 3) := by decide +kernel
theorem dX6_meets_34 : decode cX6_meets 34 = .ok (.aload_n 0, 1) := by decide +kernel
theorem dX6_meets_35 : decode cX6_meets 35 = .ok (.getfield 41, 3) := by decide +kernel
theorem dX6_meets_38 : decode cX6_meets 38 = .ok (.iload 5, 2) := by decide +kernel
theorem dX6_meets_40 : decode cX6_meets 40 = .ok (.iaload, 1) := by decide +kernel
theorem dX6_meets_41 : decode cX6_meets 41 = .ok (.iload 4, 2) := by decide +kernel
theorem dX6_meets_43 : decode cX6_meets 43 = .ok (.if_icmp .gt 16, 3) := by decide +kernel
theorem dX6_meets_46 : decode cX6_meets 46 = .ok (.aload_n 0, 1) := by decide +kernel
theorem dX6_meets_47 : decode cX6_meets 47 = .ok (.getfield 44, 3) := by decide +kernel
theorem dX6_meets_50 : decode cX6_meets 50 = .ok (.iload 5, 2) := by decide +kernel
theorem dX6_meets_52 : decode cX6_meets 52 = .ok (.iaload, 1) := by decide +kernel
theorem dX6_meets_53 : decode cX6_meets 53 = .ok (.iload_n 3, 1) := by decide +kernel
theorem dX6_meets_54 : decode cX6_meets 54 = .ok (.if_icmp .lt 5, 3) := by decide +kernel
theorem dX6_meets_57 : decode cX6_meets 57 = .ok (.iconst 1, 1) := by decide +kernel
theorem dX6_meets_58 : decode cX6_meets 58 = .ok (.ireturn, 1) := by decide +kernel
theorem dX6_meets_59 : decode cX6_meets 59 = .ok (.iinc 5 1, 3) := by decide +kernel
theorem dX6_meets_62 : decode cX6_meets 62 = .ok (.goto (-59), 3) := by decide +kernel
theorem dX6_meets_65 : decode cX6_meets 65 = .ok (.iconst 0, 1) := by decide +kernel
theorem dX6_meets_66 : decode cX6_meets 66 = .ok (.ireturn, 1) := by decide +kernel
theorem dX6_isTriedOn_0 : decode cX6_isTriedOn 0 = .ok (.iconst 0, 1) := by decide +kernel
theorem dX6_isTriedOn_1 : decode cX6_isTriedOn 1 = .ok (.istore_n 2, 1) := by decide +kernel
theorem dX6_isTriedOn_2 : decode cX6_isTriedOn 2 = .ok (.iload_n 2, 1) := by decide +kernel
theorem dX6_isTriedOn_3 : decode cX6_isTriedOn 3 = .ok (.aload_n 0, 1) := by decide +kernel
theorem dX6_isTriedOn_4 : decode cX6_isTriedOn 4 = .ok (.getfield 75, 3) := by decide +kernel
theorem dX6_isTriedOn_7 : decode cX6_isTriedOn 7 = .ok (.if_icmp .ge 21, 3) := by decide +kernel
theorem dX6_isTriedOn_10 : decode cX6_isTriedOn 10 = .ok (.aload_n 0, 1) := by decide +kernel
theorem dX6_isTriedOn_11 : decode cX6_isTriedOn 11 = .ok (.getfield 26, 3) := by decide +kernel
theorem dX6_isTriedOn_14 : decode cX6_isTriedOn 14 = .ok (.iload_n 2, 1) := by decide +kernel
theorem dX6_isTriedOn_15 : decode cX6_isTriedOn 15 = .ok (.iaload, 1) := by decide +kernel
theorem dX6_isTriedOn_16 : decode cX6_isTriedOn 16 = .ok (.iload_n 1, 1) := by decide +kernel
theorem dX6_isTriedOn_17 : decode cX6_isTriedOn 17 = .ok (.if_icmp .ne 5, 3) := by decide +kernel
theorem dX6_isTriedOn_20 : decode cX6_isTriedOn 20 = .ok (.iconst 1, 1) := by decide +kernel
theorem dX6_isTriedOn_21 : decode cX6_isTriedOn 21 = .ok (.ireturn, 1) := by decide +kernel
theorem dX6_isTriedOn_22 : decode cX6_isTriedOn 22 = .ok (.iinc 2 1, 3) := by decide +kernel
theorem dX6_isTriedOn_25 : decode cX6_isTriedOn 25 = .ok (.goto (-23), 3) := by decide +kernel
theorem dX6_isTriedOn_28 : decode cX6_isTriedOn 28 = .ok (.iconst 0, 1) := by decide +kernel
theorem dX6_isTriedOn_29 : decode cX6_isTriedOn 29 = .ok (.ireturn, 1) := by decide +kernel
theorem dX6_tries_0 : decode cX6_tries 0 = .ok (.iconst 0, 1) := by decide +kernel
theorem dX6_tries_1 : decode cX6_tries 1 = .ok (.istore_n 1, 1) := by decide +kernel
theorem dX6_tries_2 : decode cX6_tries 2 = .ok (.iload_n 1, 1) := by decide +kernel
theorem dX6_tries_3 : decode cX6_tries 3 = .ok (.aload_n 0, 1) := by decide +kernel
theorem dX6_tries_4 : decode cX6_tries 4 = .ok (.getfield 75, 3) := by decide +kernel
theorem dX6_tries_7 : decode cX6_tries 7 = .ok (.if_icmp .ge 45, 3) := by decide +kernel
theorem dX6_tries_10 : decode cX6_tries 10 = .ok (.aload_n 0, 1) := by decide +kernel
theorem dX6_tries_11 : decode cX6_tries 11 = .ok (.getfield 26, 3) := by decide +kernel
theorem dX6_tries_14 : decode cX6_tries 14 = .ok (.iload_n 1, 1) := by decide +kernel
theorem dX6_tries_15 : decode cX6_tries 15 = .ok (.aload_n 0, 1) := by decide +kernel
theorem dX6_tries_16 : decode cX6_tries 16 = .ok (.getfield 7, 3) := by decide +kernel
theorem dX6_tries_19 : decode cX6_tries 19 = .ok (.iload_n 1, 1) := by decide +kernel
theorem dX6_tries_20 : decode cX6_tries 20 = .ok (.iaload, 1) := by decide +kernel
theorem dX6_tries_21 : decode cX6_tries 21 = .ok (.iastore, 1) := by decide +kernel
theorem dX6_tries_22 : decode cX6_tries 22 = .ok (.aload_n 0, 1) := by decide +kernel
theorem dX6_tries_23 : decode cX6_tries 23 = .ok (.getfield 29, 3) := by decide +kernel
theorem dX6_tries_26 : decode cX6_tries 26 = .ok (.iload_n 1, 1) := by decide +kernel
theorem dX6_tries_27 : decode cX6_tries 27 = .ok (.aload_n 0, 1) := by decide +kernel
theorem dX6_tries_28 : decode cX6_tries 28 = .ok (.getfield 13, 3) := by decide +kernel
theorem dX6_tries_31 : decode cX6_tries 31 = .ok (.iload_n 1, 1) := by decide +kernel
theorem dX6_tries_32 : decode cX6_tries 32 = .ok (.baload, 1) := by decide +kernel
theorem dX6_tries_33 : decode cX6_tries 33 = .ok (.bastore, 1) := by decide +kernel
theorem dX6_tries_34 : decode cX6_tries 34 = .ok (.aload_n 0, 1) := by decide +kernel
theorem dX6_tries_35 : decode cX6_tries 35 = .ok (.getfield 32, 3) := by decide +kernel
theorem dX6_tries_38 : decode cX6_tries 38 = .ok (.iload_n 1, 1) := by decide +kernel
theorem dX6_tries_39 : decode cX6_tries 39 = .ok (.aload_n 0, 1) := by decide +kernel
theorem dX6_tries_40 : decode cX6_tries 40 = .ok (.getfield 20, 3) := by decide +kernel
theorem dX6_tries_43 : decode cX6_tries 43 = .ok (.iload_n 1, 1) := by decide +kernel
theorem dX6_tries_44 : decode cX6_tries 44 = .ok (.iaload, 1) := by decide +kernel
theorem dX6_tries_45 : decode cX6_tries 45 = .ok (.iastore, 1) := by decide +kernel
theorem dX6_tries_46 : decode cX6_tries 46 = .ok (.iinc 1 1, 3) := by decide +kernel
theorem dX6_tries_49 : decode cX6_tries 49 = .ok (.goto (-47), 3) := by decide +kernel
theorem dX6_tries_52 : decode cX6_tries 52 = .ok (.return_, 1) := by decide +kernel
set_option maxRecDepth 20000 in
theorem ggX6_moves_X6_behind : GoodIn wsX6_moves wsX6_behind := goodIn_r _ [10, 11, 25, 26, 27, 28, 29, 30, 31, 32, 33, 34, 35, 36, 37, 38, 39, 40, 41, 42, 43, 44, 45, 46, 47, 48, 49, 50] (by decide +kernel) (by decide +kernel)
set_option maxRecDepth 20000 in
theorem gX6_moves_X6_behind : GoodIn wsX6_moves (wsV RX6 99 RX6 yX6_behind wsX6_behind) := goodIn_app (goodIn_of _ (by decide +kernel)) ggX6_moves_X6_behind
set_option maxRecDepth 20000 in
theorem ggX6_moves_X6_isTriedOn : GoodIn wsX6_moves wsX6_isTriedOn := goodIn_r _ [15, 1, 2, 25, 26, 27, 28, 29, 30, 31, 32, 33, 34, 35, 36, 37, 38, 39, 40, 41, 42, 43, 44, 45, 46, 47, 48, 49, 50] (by decide +kernel) (by decide +kernel)
set_option maxRecDepth 20000 in
theorem gX6_moves_X6_isTriedOn : GoodIn wsX6_moves (wsV RX6 103 RX6 yX6_isTriedOn wsX6_isTriedOn) := goodIn_app (goodIn_of _ (by decide +kernel)) ggX6_moves_X6_isTriedOn
set_option maxRecDepth 20000 in
theorem ggX6_moves_X6_meets : GoodIn wsX6_moves wsX6_meets := goodIn_r _ [19, 20, 21, 22, 23, 24, 25, 26, 27, 28, 29, 30, 31, 32, 33, 34, 35, 36, 37, 38, 39, 40, 41, 42, 43, 44, 45, 46, 47, 48, 49, 50] (by decide +kernel) (by decide +kernel)
set_option maxRecDepth 20000 in
theorem gX6_moves_X6_meets : GoodIn wsX6_moves (wsV RX6 106 RX6 yX6_meets wsX6_meets) := goodIn_app (goodIn_of _ (by decide +kernel)) ggX6_moves_X6_meets
theorem dX6_moves_0 : decode cX6_moves 0 = .ok (.iconst 0, 1) := by decide +kernel
theorem dX6_moves_1 : decode cX6_moves 1 = .ok (.istore_n 2, 1) := by decide +kernel
theorem dX6_moves_2 : decode cX6_moves 2 = .ok (.iconst 0, 1) := by decide +kernel
theorem dX6_moves_3 : decode cX6_moves 3 = .ok (.istore_n 3, 1) := by decide +kernel
theorem dX6_moves_4 : decode cX6_moves 4 = .ok (.iload_n 3, 1) := by decide +kernel
theorem dX6_moves_5 : decode cX6_moves 5 = .ok (.aload_n 0, 1) := by decide +kernel
theorem dX6_moves_6 : decode cX6_moves 6 = .ok (.getfield 75, 3) := by decide +kernel
theorem dX6_moves_9 : decode cX6_moves 9 = .ok (.if_icmp .ge 135, 3) := by decide +kernel
theorem dX6_moves_12 : decode cX6_moves 12 = .ok (.aload_n 0, 1) := by decide +kernel
theorem dX6_moves_13 : decode cX6_moves 13 = .ok (.aload_n 0, 1) := by decide +kernel
theorem dX6_moves_14 : decode cX6_moves 14 = .ok (.getfield 26, 3) := by decide +kernel
theorem dX6_moves_17 : decode cX6_moves 17 = .ok (.iload_n 3, 1) := by decide +kernel
theorem dX6_moves_18 : decode cX6_moves 18 = .ok (.iaload, 1) := by decide +kernel
theorem dX6_moves_19 : decode cX6_moves 19 = .ok (.aload_n 0, 1) := by decide +kernel
theorem dX6_moves_20 : decode cX6_moves 20 = .ok (.getfield 29, 3) := by decide +kernel
theorem dX6_moves_23 : decode cX6_moves 23 = .ok (.iload_n 3, 1) := by decide +kernel
theorem dX6_moves_24 : decode cX6_moves 24 = .ok (.baload, 1) := by decide +kernel
theorem dX6_moves_25 : decode cX6_moves 25 = .ok (.invokevirtual 99, 3) := by decide +kernel
theorem dX6_moves_28 : decode cX6_moves 28 = .ok (.istore 4, 2) := by decide +kernel
theorem dX6_moves_30 : decode cX6_moves 30 = .ok (.aload_n 0, 1) := by decide +kernel
theorem dX6_moves_31 : decode cX6_moves 31 = .ok (.getfield 32, 3) := by decide +kernel
theorem dX6_moves_34 : decode cX6_moves 34 = .ok (.iload_n 3, 1) := by decide +kernel
theorem dX6_moves_35 : decode cX6_moves 35 = .ok (.iaload, 1) := by decide +kernel
theorem dX6_moves_36 : decode cX6_moves 36 = .ok (.ifCond .le 16, 3) := by decide +kernel
theorem dX6_moves_39 : decode cX6_moves 39 = .ok (.aload_n 0, 1) := by decide +kernel
theorem dX6_moves_40 : decode cX6_moves 40 = .ok (.getfield 32, 3) := by decide +kernel
theorem dX6_moves_43 : decode cX6_moves 43 = .ok (.iload_n 3, 1) := by decide +kernel
theorem dX6_moves_44 : decode cX6_moves 44 = .ok (.dup2, 1) := by decide +kernel
theorem dX6_moves_45 : decode cX6_moves 45 = .ok (.iaload, 1) := by decide +kernel
theorem dX6_moves_46 : decode cX6_moves 46 = .ok (.iconst 1, 1) := by decide +kernel
theorem dX6_moves_47 : decode cX6_moves 47 = .ok (.isub, 1) := by decide +kernel
theorem dX6_moves_48 : decode cX6_moves 48 = .ok (.iastore, 1) := by decide +kernel
theorem dX6_moves_49 : decode cX6_moves 49 = .ok (.goto 89, 3) := by decide +kernel
theorem dX6_moves_52 : decode cX6_moves 52 = .ok (.aload_n 0, 1) := by decide +kernel
theorem dX6_moves_53 : decode cX6_moves 53 = .ok (.getfield 17, 3) := by decide +kernel
theorem dX6_moves_56 : decode cX6_moves 56 = .ok (.iload_n 3, 1) := by decide +kernel
theorem dX6_moves_57 : decode cX6_moves 57 = .ok (.baload, 1) := by decide +kernel
theorem dX6_moves_58 : decode cX6_moves 58 = .ok (.ifCond .ne 33, 3) := by decide +kernel
theorem dX6_moves_61 : decode cX6_moves 61 = .ok (.iload 4, 2) := by decide +kernel
theorem dX6_moves_63 : decode cX6_moves 63 = .ok (.bipush (-2), 2) := by decide +kernel
theorem dX6_moves_65 : decode cX6_moves 65 = .ok (.if_icmp .ne 26, 3) := by decide +kernel
theorem dX6_moves_68 : decode cX6_moves 68 = .ok (.aload_n 0, 1) := by decide +kernel
theorem dX6_moves_69 : decode cX6_moves 69 = .ok (.getfield 29, 3) := by decide +kernel
theorem dX6_moves_72 : decode cX6_moves 72 = .ok (.iload_n 3, 1) := by decide +kernel
theorem dX6_moves_73 : decode cX6_moves 73 = .ok (.aload_n 0, 1) := by decide +kernel
theorem dX6_moves_74 : decode cX6_moves 74 = .ok (.getfield 29, 3) := by decide +kernel
theorem dX6_moves_77 : decode cX6_moves 77 = .ok (.iload_n 3, 1) := by decide +kernel
theorem dX6_moves_78 : decode cX6_moves 78 = .ok (.baload, 1) := by decide +kernel
theorem dX6_moves_79 : decode cX6_moves 79 = .ok (.ifCond .ne 7, 3) := by decide +kernel
theorem dX6_moves_82 : decode cX6_moves 82 = .ok (.iconst 1, 1) := by decide +kernel
theorem dX6_moves_83 : decode cX6_moves 83 = .ok (.goto 4, 3) := by decide +kernel
theorem dX6_moves_86 : decode cX6_moves 86 = .ok (.iconst 0, 1) := by decide +kernel
theorem dX6_moves_87 : decode cX6_moves 87 = .ok (.bastore, 1) := by decide +kernel
theorem dX6_moves_88 : decode cX6_moves 88 = .ok (.goto 50, 3) := by decide +kernel
theorem dX6_moves_91 : decode cX6_moves 91 = .ok (.aload_n 0, 1) := by decide +kernel
theorem dX6_moves_92 : decode cX6_moves 92 = .ok (.getfield 17, 3) := by decide +kernel
theorem dX6_moves_95 : decode cX6_moves 95 = .ok (.iload_n 3, 1) := by decide +kernel
theorem dX6_moves_96 : decode cX6_moves 96 = .ok (.baload, 1) := by decide +kernel
theorem dX6_moves_97 : decode cX6_moves 97 = .ok (.ifCond .ne 41, 3) := by decide +kernel
theorem dX6_moves_100 : decode cX6_moves 100 = .ok (.iload 4, 2) := by decide +kernel
theorem dX6_moves_102 : decode cX6_moves 102 = .ok (.iconst (-1), 1) := by decide +kernel
theorem dX6_moves_103 : decode cX6_moves 103 = .ok (.if_icmp .eq 35, 3) := by decide +kernel
theorem dX6_moves_106 : decode cX6_moves 106 = .ok (.aload_n 0, 1) := by decide +kernel
theorem dX6_moves_107 : decode cX6_moves 107 = .ok (.iload 4, 2) := by decide +kernel
theorem dX6_moves_109 : decode cX6_moves 109 = .ok (.invokevirtual 103, 3) := by decide +kernel
theorem dX6_moves_112 : decode cX6_moves 112 = .ok (.ifCond .ne 26, 3) := by decide +kernel
theorem dX6_moves_115 : decode cX6_moves 115 = .ok (.aload_n 0, 1) := by decide +kernel
theorem dX6_moves_116 : decode cX6_moves 116 = .ok (.iload_n 3, 1) := by decide +kernel
theorem dX6_moves_117 : decode cX6_moves 117 = .ok (.iload 4, 2) := by decide +kernel
theorem dX6_moves_119 : decode cX6_moves 119 = .ok (.iload_n 1, 1) := by decide +kernel
theorem dX6_moves_120 : decode cX6_moves 120 = .ok (.iload_n 1, 1) := by decide +kernel
theorem dX6_moves_121 : decode cX6_moves 121 = .ok (.invokevirtual 106, 3) := by decide +kernel
theorem dX6_moves_124 : decode cX6_moves 124 = .ok (.ifCond .ne 14, 3) := by decide +kernel
theorem dX6_moves_127 : decode cX6_moves 127 = .ok (.aload_n 0, 1) := by decide +kernel
theorem dX6_moves_128 : decode cX6_moves 128 = .ok (.getfield 26, 3) := by decide +kernel
theorem dX6_moves_131 : decode cX6_moves 131 = .ok (.iload_n 3, 1) := by decide +kernel
theorem dX6_moves_132 : decode cX6_moves 132 = .ok (.iload 4, 2) := by decide +kernel
theorem dX6_moves_134 : decode cX6_moves 134 = .ok (.iastore, 1) := by decide +kernel
theorem dX6_moves_135 : decode cX6_moves 135 = .ok (.iinc 2 1, 3) := by decide +kernel
theorem dX6_moves_138 : decode cX6_moves 138 = .ok (.iinc 3 1, 3) := by decide +kernel
theorem dX6_moves_141 : decode cX6_moves 141 = .ok (.goto (-137), 3) := by decide +kernel
theorem dX6_moves_144 : decode cX6_moves 144 = .ok (.iload_n 2, 1) := by decide +kernel
theorem dX6_moves_145 : decode cX6_moves 145 = .ok (.ireturn, 1) := by decide +kernel
set_option maxRecDepth 20000 in
theorem ggX6_runs_X6_tries : GoodIn wsX6_runs wsX6_tries := goodIn_r _ [20, 2, 4, 3, 6, 5, 8, 7, 42, 43, 44, 45, 46, 47, 48, 49, 50, 51, 52, 53, 54, 55, 56, 57, 58, 59, 60, 61, 62, 63, 64, 65, 66, 67] (by decide +kernel) (by decide +kernel)
set_option maxRecDepth 20000 in
theorem gX6_runs_X6_tries : GoodIn wsX6_runs (wsV RX6 110 RX6 yX6_tries wsX6_tries) := goodIn_app (goodIn_of _ (by decide +kernel)) ggX6_runs_X6_tries
set_option maxRecDepth 20000 in
theorem ggX6_runs_X6_moves : GoodIn wsX6_runs wsX6_moves := goodIn_r _ [24, 2, 4, 6, 8, 25, 26, 27, 28, 19, 29, 30, 31, 32, 33, 34, 35, 36, 37, 38, 9, 14, 13, 11, 12, 42, 43, 44, 45, 46, 47, 48, 49, 50, 51, 52, 53, 54, 55, 56, 57, 58, 59, 60, 61, 62, 63, 64, 65, 66, 67] (by decide +kernel) (by decide +kernel)
set_option maxRecDepth 20000 in
theorem gX6_runs_X6_moves : GoodIn wsX6_runs (wsV RX6 116 RX6 yX6_moves wsX6_moves) := goodIn_app (goodIn_of _ (by decide +kernel)) ggX6_runs_X6_moves
set_option maxRecDepth 20000 in
theorem ggX6_runs_X6_in : GoodIn wsX6_runs wsX6_in := goodIn_r _ [41] (by decide +kernel) (by decide +kernel)
set_option maxRecDepth 20000 in
theorem gX6_runs_X6_in : GoodIn wsX6_runs (va_wsS RX6 78 yX6_in wsX6_in) := goodIn_app (goodIn_of _ (by decide +kernel)) ggX6_runs_X6_in
theorem dX6_runs_0 : decode cX6_runs 0 = .ok (.aload_n 0, 1) := by decide +kernel
theorem dX6_runs_1 : decode cX6_runs 1 = .ok (.invokevirtual 110, 3) := by decide +kernel
theorem dX6_runs_4 : decode cX6_runs 4 = .ok (.aload_n 0, 1) := by decide +kernel
theorem dX6_runs_5 : decode cX6_runs 5 = .ok (.aload_n 0, 1) := by decide +kernel
theorem dX6_runs_6 : decode cX6_runs 6 = .ok (.getfield 113, 3) := by decide +kernel
theorem dX6_runs_9 : decode cX6_runs 9 = .ok (.invokevirtual 116, 3) := by decide +kernel
theorem dX6_runs_12 : decode cX6_runs 12 = .ok (.istore_n 1, 1) := by decide +kernel
theorem dX6_runs_13 : decode cX6_runs 13 = .ok (.iconst 0, 1) := by decide +kernel
theorem dX6_runs_14 : decode cX6_runs 14 = .ok (.istore_n 2, 1) := by decide +kernel
theorem dX6_runs_15 : decode cX6_runs 15 = .ok (.iload_n 2, 1) := by decide +kernel
theorem dX6_runs_16 : decode cX6_runs 16 = .ok (.aload_n 0, 1) := by decide +kernel
theorem dX6_runs_17 : decode cX6_runs 17 = .ok (.getfield 75, 3) := by decide +kernel
theorem dX6_runs_20 : decode cX6_runs 20 = .ok (.if_icmp .ge 45, 3) := by decide +kernel
theorem dX6_runs_23 : decode cX6_runs 23 = .ok (.aload_n 0, 1) := by decide +kernel
theorem dX6_runs_24 : decode cX6_runs 24 = .ok (.getfield 7, 3) := by decide +kernel
theorem dX6_runs_27 : decode cX6_runs 27 = .ok (.iload_n 2, 1) := by decide +kernel
theorem dX6_runs_28 : decode cX6_runs 28 = .ok (.aload_n 0, 1) := by decide +kernel
theorem dX6_runs_29 : decode cX6_runs 29 = .ok (.getfield 26, 3) := by decide +kernel
theorem dX6_runs_32 : decode cX6_runs 32 = .ok (.iload_n 2, 1) := by decide +kernel
theorem dX6_runs_33 : decode cX6_runs 33 = .ok (.iaload, 1) := by decide +kernel
theorem dX6_runs_34 : decode cX6_runs 34 = .ok (.iastore, 1) := by decide +kernel
theorem dX6_runs_35 : decode cX6_runs 35 = .ok (.aload_n 0, 1) := by decide +kernel
theorem dX6_runs_36 : decode cX6_runs 36 = .ok (.getfield 13, 3) := by decide +kernel
theorem dX6_runs_39 : decode cX6_runs 39 = .ok (.iload_n 2, 1) := by decide +kernel
theorem dX6_runs_40 : decode cX6_runs 40 = .ok (.aload_n 0, 1) := by decide +kernel
theorem dX6_runs_41 : decode cX6_runs 41 = .ok (.getfield 29, 3) := by decide +kernel
theorem dX6_runs_44 : decode cX6_runs 44 = .ok (.iload_n 2, 1) := by decide +kernel
theorem dX6_runs_45 : decode cX6_runs 45 = .ok (.baload, 1) := by decide +kernel
theorem dX6_runs_46 : decode cX6_runs 46 = .ok (.bastore, 1) := by decide +kernel
theorem dX6_runs_47 : decode cX6_runs 47 = .ok (.aload_n 0, 1) := by decide +kernel
theorem dX6_runs_48 : decode cX6_runs 48 = .ok (.getfield 20, 3) := by decide +kernel
theorem dX6_runs_51 : decode cX6_runs 51 = .ok (.iload_n 2, 1) := by decide +kernel
theorem dX6_runs_52 : decode cX6_runs 52 = .ok (.aload_n 0, 1) := by decide +kernel
theorem dX6_runs_53 : decode cX6_runs 53 = .ok (.getfield 32, 3) := by decide +kernel
theorem dX6_runs_56 : decode cX6_runs 56 = .ok (.iload_n 2, 1) := by decide +kernel
theorem dX6_runs_57 : decode cX6_runs 57 = .ok (.iaload, 1) := by decide +kernel
theorem dX6_runs_58 : decode cX6_runs 58 = .ok (.iastore, 1) := by decide +kernel
theorem dX6_runs_59 : decode cX6_runs 59 = .ok (.iinc 2 1, 3) := by decide +kernel
theorem dX6_runs_62 : decode cX6_runs 62 = .ok (.goto (-47), 3) := by decide +kernel
theorem dX6_runs_65 : decode cX6_runs 65 = .ok (.iconst 0, 1) := by decide +kernel
theorem dX6_runs_66 : decode cX6_runs 66 = .ok (.istore_n 2, 1) := by decide +kernel
theorem dX6_runs_67 : decode cX6_runs 67 = .ok (.iload_n 2, 1) := by decide +kernel
theorem dX6_runs_68 : decode cX6_runs 68 = .ok (.aload_n 0, 1) := by decide +kernel
theorem dX6_runs_69 : decode cX6_runs 69 = .ok (.getfield 96, 3) := by decide +kernel
theorem dX6_runs_72 : decode cX6_runs 72 = .ok (.if_icmp .ge 115, 3) := by decide +kernel
theorem dX6_runs_75 : decode cX6_runs 75 = .ok (.aload_n 0, 1) := by decide +kernel
theorem dX6_runs_76 : decode cX6_runs 76 = .ok (.getfield 47, 3) := by decide +kernel
theorem dX6_runs_79 : decode cX6_runs 79 = .ok (.iload_n 2, 1) := by decide +kernel
theorem dX6_runs_80 : decode cX6_runs 80 = .ok (.iaload, 1) := by decide +kernel
theorem dX6_runs_81 : decode cX6_runs 81 = .ok (.ifCond .ne 100, 3) := by decide +kernel
theorem dX6_runs_84 : decode cX6_runs 84 = .ok (.aload_n 0, 1) := by decide +kernel
theorem dX6_runs_85 : decode cX6_runs 85 = .ok (.getfield 113, 3) := by decide +kernel
theorem dX6_runs_88 : decode cX6_runs 88 = .ok (.aload_n 0, 1) := by decide +kernel
theorem dX6_runs_89 : decode cX6_runs 89 = .ok (.getfield 41, 3) := by decide +kernel
theorem dX6_runs_92 : decode cX6_runs 92 = .ok (.iload_n 2, 1) := by decide +kernel
theorem dX6_runs_93 : decode cX6_runs 93 = .ok (.iaload, 1) := by decide +kernel
theorem dX6_runs_94 : decode cX6_runs 94 = .ok (.aload_n 0, 1) := by decide +kernel
theorem dX6_runs_95 : decode cX6_runs 95 = .ok (.getfield 44, 3) := by decide +kernel
theorem dX6_runs_98 : decode cX6_runs 98 = .ok (.iload_n 2, 1) := by decide +kernel
theorem dX6_runs_99 : decode cX6_runs 99 = .ok (.iaload, 1) := by decide +kernel
theorem dX6_runs_100 : decode cX6_runs 100 = .ok (.invokestatic 78, 3) := by decide +kernel
theorem dX6_runs_103 : decode cX6_runs 103 = .ok (.ifCond .eq 78, 3) := by decide +kernel
theorem dX6_runs_106 : decode cX6_runs 106 = .ok (.aload_n 0, 1) := by decide +kernel
theorem dX6_runs_107 : decode cX6_runs 107 = .ok (.getfield 7, 3) := by decide +kernel
theorem dX6_runs_110 : decode cX6_runs 110 = .ok (.aload_n 0, 1) := by decide +kernel
theorem dX6_runs_111 : decode cX6_runs 111 = .ok (.getfield 35, 3) := by decide +kernel
theorem dX6_runs_114 : decode cX6_runs 114 = .ok (.iload_n 2, 1) := by decide +kernel
theorem dX6_runs_115 : decode cX6_runs 115 = .ok (.iaload, 1) := by decide +kernel
theorem dX6_runs_116 : decode cX6_runs 116 = .ok (.iaload, 1) := by decide +kernel
theorem dX6_runs_117 : decode cX6_runs 117 = .ok (.aload_n 0, 1) := by decide +kernel
theorem dX6_runs_118 : decode cX6_runs 118 = .ok (.getfield 38, 3) := by decide +kernel
theorem dX6_runs_121 : decode cX6_runs 121 = .ok (.iload_n 2, 1) := by decide +kernel
theorem dX6_runs_122 : decode cX6_runs 122 = .ok (.iaload, 1) := by decide +kernel
theorem dX6_runs_123 : decode cX6_runs 123 = .ok (.if_icmp .ne 7, 3) := by decide +kernel
theorem dX6_runs_126 : decode cX6_runs 126 = .ok (.iconst 1, 1) := by decide +kernel
theorem dX6_runs_127 : decode cX6_runs 127 = .ok (.goto 4, 3) := by decide +kernel
theorem dX6_runs_130 : decode cX6_runs 130 = .ok (.iconst 0, 1) := by decide +kernel
theorem dX6_runs_131 : decode cX6_runs 131 = .ok (.istore_n 3, 1) := by decide +kernel
theorem dX6_runs_132 : decode cX6_runs 132 = .ok (.aload_n 0, 1) := by decide +kernel
theorem dX6_runs_133 : decode cX6_runs 133 = .ok (.getfield 47, 3) := by decide +kernel
theorem dX6_runs_136 : decode cX6_runs 136 = .ok (.iload_n 2, 1) := by decide +kernel
theorem dX6_runs_137 : decode cX6_runs 137 = .ok (.iload_n 3, 1) := by decide +kernel
theorem dX6_runs_138 : decode cX6_runs 138 = .ok (.ifCond .eq 7, 3) := by decide +kernel
theorem dX6_runs_141 : decode cX6_runs 141 = .ok (.iconst 1, 1) := by decide +kernel
theorem dX6_runs_142 : decode cX6_runs 142 = .ok (.goto 21, 3) := by decide +kernel
theorem dX6_runs_145 : decode cX6_runs 145 = .ok (.aload_n 0, 1) := by decide +kernel
theorem dX6_runs_146 : decode cX6_runs 146 = .ok (.getfield 113, 3) := by decide +kernel
theorem dX6_runs_149 : decode cX6_runs 149 = .ok (.aload_n 0, 1) := by decide +kernel
theorem dX6_runs_150 : decode cX6_runs 150 = .ok (.getfield 44, 3) := by decide +kernel
theorem dX6_runs_153 : decode cX6_runs 153 = .ok (.iload_n 2, 1) := by decide +kernel
theorem dX6_runs_154 : decode cX6_runs 154 = .ok (.iaload, 1) := by decide +kernel
theorem dX6_runs_155 : decode cX6_runs 155 = .ok (.if_icmp .ne 7, 3) := by decide +kernel
theorem dX6_runs_158 : decode cX6_runs 158 = .ok (.iconst 2, 1) := by decide +kernel
theorem dX6_runs_159 : decode cX6_runs 159 = .ok (.goto 4, 3) := by decide +kernel
theorem dX6_runs_162 : decode cX6_runs 162 = .ok (.iconst 0, 1) := by decide +kernel
theorem dX6_runs_163 : decode cX6_runs 163 = .ok (.iastore, 1) := by decide +kernel
theorem dX6_runs_164 : decode cX6_runs 164 = .ok (.aload_n 0, 1) := by decide +kernel
theorem dX6_runs_165 : decode cX6_runs 165 = .ok (.getfield 50, 3) := by decide +kernel
theorem dX6_runs_168 : decode cX6_runs 168 = .ok (.iload_n 2, 1) := by decide +kernel
theorem dX6_runs_169 : decode cX6_runs 169 = .ok (.aload_n 0, 1) := by decide +kernel
theorem dX6_runs_170 : decode cX6_runs 170 = .ok (.getfield 113, 3) := by decide +kernel
theorem dX6_runs_173 : decode cX6_runs 173 = .ok (.aload_n 0, 1) := by decide +kernel
theorem dX6_runs_174 : decode cX6_runs 174 = .ok (.getfield 41, 3) := by decide +kernel
theorem dX6_runs_177 : decode cX6_runs 177 = .ok (.iload_n 2, 1) := by decide +kernel
theorem dX6_runs_178 : decode cX6_runs 178 = .ok (.iaload, 1) := by decide +kernel
theorem dX6_runs_179 : decode cX6_runs 179 = .ok (.isub, 1) := by decide +kernel
theorem dX6_runs_180 : decode cX6_runs 180 = .ok (.iastore, 1) := by decide +kernel
theorem dX6_runs_181 : decode cX6_runs 181 = .ok (.iinc 2 1, 3) := by decide +kernel
theorem dX6_runs_184 : decode cX6_runs 184 = .ok (.goto (-117), 3) := by decide +kernel
theorem dX6_runs_187 : decode cX6_runs 187 = .ok (.aload_n 0, 1) := by decide +kernel
theorem dX6_runs_188 : decode cX6_runs 188 = .ok (.dup, 1) := by decide +kernel
theorem dX6_runs_189 : decode cX6_runs 189 = .ok (.getfield 113, 3) := by decide +kernel
theorem dX6_runs_192 : decode cX6_runs 192 = .ok (.iconst 1, 1) := by decide +kernel
theorem dX6_runs_193 : decode cX6_runs 193 = .ok (.iadd, 1) := by decide +kernel
theorem dX6_runs_194 : decode cX6_runs 194 = .ok (.putfield 113, 3) := by decide +kernel
theorem dX6_runs_197 : decode cX6_runs 197 = .ok (.iload_n 1, 1) := by decide +kernel
theorem dX6_runs_198 : decode cX6_runs 198 = .ok (.ireturn, 1) := by decide +kernel
set_option maxRecDepth 20000 in
theorem ggX6_run_X6_in : GoodIn wsX6_run wsX6_in := goodIn_r _ [5] (by decide +kernel) (by decide +kernel)
set_option maxRecDepth 20000 in
theorem gX6_run_X6_in : GoodIn wsX6_run (va_wsS RX6 78 yX6_in wsX6_in) := goodIn_app (goodIn_of _ (by decide +kernel)) ggX6_run_X6_in
set_option maxRecDepth 20000 in
theorem ggX6_run_X6_holds : GoodIn wsX6_run wsX6_holds := goodIn_r _ [9, 10, 51, 52, 53, 54, 55, 56, 57, 58, 59, 60, 61, 62, 63, 64, 65, 66, 67, 68, 69, 70, 71, 72, 73, 74, 75, 76] (by decide +kernel) (by decide +kernel)
set_option maxRecDepth 20000 in
theorem gX6_run_X6_holds : GoodIn wsX6_run (wsV RX6 90 RX6 yX6_holds wsX6_holds) := goodIn_app (goodIn_of _ (by decide +kernel)) ggX6_run_X6_holds
set_option maxRecDepth 20000 in
theorem ggX6_run_X6_runs : GoodIn wsX6_run wsX6_runs := goodIn_r _ [14, 1, 15, 16, 17, 18, 19, 20, 21, 22, 23, 24, 25, 26, 27, 28, 29, 30, 31, 4, 32, 33, 34, 35, 36, 37, 38, 39, 40, 41, 42, 43, 44, 45, 46, 47, 48, 49, 50, 2, 3, 5, 51, 52, 53, 54, 55, 56, 57, 58, 59, 60, 61, 62, 63, 64, 65, 66, 67, 68, 69, 70, 71, 72, 73, 74, 75, 76] (by decide +kernel) (by decide +kernel)
set_option maxRecDepth 20000 in
theorem gX6_run_X6_runs : GoodIn wsX6_run (wsV RX6 119 RX6 yX6_runs wsX6_runs) := goodIn_app (goodIn_of _ (by decide +kernel)) ggX6_run_X6_runs
theorem dX6_run_0 : decode cX6_run 0 = .ok (.aload_n 0, 1) := by decide +kernel
theorem dX6_run_1 : decode cX6_run 1 = .ok (.iload_n 1, 1) := by decide +kernel
theorem dX6_run_2 : decode cX6_run 2 = .ok (.iconst 1, 1) := by decide +kernel
theorem dX6_run_3 : decode cX6_run 3 = .ok (.bipush 100, 2) := by decide +kernel
theorem dX6_run_5 : decode cX6_run 5 = .ok (.invokestatic 78, 3) := by decide +kernel
theorem dX6_run_8 : decode cX6_run 8 = .ok (.ifCond .ne 7, 3) := by decide +kernel
theorem dX6_run_11 : decode cX6_run 11 = .ok (.iconst 1, 1) := by decide +kernel
theorem dX6_run_12 : decode cX6_run 12 = .ok (.goto 20, 3) := by decide +kernel
theorem dX6_run_15 : decode cX6_run 15 = .ok (.aload_n 0, 1) := by decide +kernel
theorem dX6_run_16 : decode cX6_run 16 = .ok (.getfield 113, 3) := by decide +kernel
theorem dX6_run_19 : decode cX6_run 19 = .ok (.iload_n 1, 1) := by decide +kernel
theorem dX6_run_20 : decode cX6_run 20 = .ok (.iadd, 1) := by decide +kernel
theorem dX6_run_21 : decode cX6_run 21 = .ok (.sipush 5000, 3) := by decide +kernel
theorem dX6_run_24 : decode cX6_run 24 = .ok (.if_icmp .le 7, 3) := by decide +kernel
theorem dX6_run_27 : decode cX6_run 27 = .ok (.iconst 2, 1) := by decide +kernel
theorem dX6_run_28 : decode cX6_run 28 = .ok (.goto 4, 3) := by decide +kernel
theorem dX6_run_31 : decode cX6_run 31 = .ok (.iconst 0, 1) := by decide +kernel
theorem dX6_run_32 : decode cX6_run 32 = .ok (.invokevirtual 90, 3) := by decide +kernel
theorem dX6_run_35 : decode cX6_run 35 = .ok (.ifCond .ne 5, 3) := by decide +kernel
theorem dX6_run_38 : decode cX6_run 38 = .ok (.iconst 0, 1) := by decide +kernel
theorem dX6_run_39 : decode cX6_run 39 = .ok (.ireturn, 1) := by decide +kernel
theorem dX6_run_40 : decode cX6_run 40 = .ok (.iconst 0, 1) := by decide +kernel
theorem dX6_run_41 : decode cX6_run 41 = .ok (.istore_n 2, 1) := by decide +kernel
theorem dX6_run_42 : decode cX6_run 42 = .ok (.iconst 0, 1) := by decide +kernel
theorem dX6_run_43 : decode cX6_run 43 = .ok (.istore_n 3, 1) := by decide +kernel
theorem dX6_run_44 : decode cX6_run 44 = .ok (.iload_n 3, 1) := by decide +kernel
theorem dX6_run_45 : decode cX6_run 45 = .ok (.iload_n 1, 1) := by decide +kernel
theorem dX6_run_46 : decode cX6_run 46 = .ok (.if_icmp .ge 16, 3) := by decide +kernel
theorem dX6_run_49 : decode cX6_run 49 = .ok (.iload_n 2, 1) := by decide +kernel
theorem dX6_run_50 : decode cX6_run 50 = .ok (.aload_n 0, 1) := by decide +kernel
theorem dX6_run_51 : decode cX6_run 51 = .ok (.invokevirtual 119, 3) := by decide +kernel
theorem dX6_run_54 : decode cX6_run 54 = .ok (.iadd, 1) := by decide +kernel
theorem dX6_run_55 : decode cX6_run 55 = .ok (.istore_n 2, 1) := by decide +kernel
theorem dX6_run_56 : decode cX6_run 56 = .ok (.iinc 3 1, 3) := by decide +kernel
theorem dX6_run_59 : decode cX6_run 59 = .ok (.goto (-15), 3) := by decide +kernel
theorem dX6_run_62 : decode cX6_run 62 = .ok (.iload_n 2, 1) := by decide +kernel
theorem dX6_run_63 : decode cX6_run 63 = .ok (.ireturn, 1) := by decide +kernel
theorem dX6_clock_0 : decode cX6_clock 0 = .ok (.aload_n 0, 1) := by decide +kernel
theorem dX6_clock_1 : decode cX6_clock 1 = .ok (.iconst 0, 1) := by decide +kernel
theorem dX6_clock_2 : decode cX6_clock 2 = .ok (.putfield 71, 3) := by decide +kernel
theorem dX6_clock_5 : decode cX6_clock 5 = .ok (.aload_n 0, 1) := by decide +kernel
theorem dX6_clock_6 : decode cX6_clock 6 = .ok (.getfield 113, 3) := by decide +kernel
theorem dX6_clock_9 : decode cX6_clock 9 = .ok (.ireturn, 1) := by decide +kernel
set_option maxRecDepth 20000 in
theorem ggX6_reaches_X6_isTrain : GoodIn wsX6_reaches wsX6_isTrain := goodIn_r _ [7, 8, 9, 10, 6, 11, 52, 53, 54, 55, 56, 57, 58, 59, 60, 61, 62, 63, 64, 65, 66, 67, 68, 69, 70, 71, 72, 73, 74, 75, 76, 77] (by decide +kernel) (by decide +kernel)
set_option maxRecDepth 20000 in
theorem gX6_reaches_X6_isTrain : GoodIn wsX6_reaches (wsV RX6 93 RX6 yX6_isTrain wsX6_isTrain) := goodIn_app (goodIn_of _ (by decide +kernel)) ggX6_reaches_X6_isTrain
set_option maxRecDepth 20000 in
theorem ggX6_reaches_X6_isBlock : GoodIn wsX6_reaches wsX6_isBlock := goodIn_r _ [14, 9, 10, 6, 11] (by decide +kernel) (by decide +kernel)
set_option maxRecDepth 20000 in
theorem gX6_reaches_X6_isBlock : GoodIn wsX6_reaches (va_wsS RX6 82 yX6_isBlock wsX6_isBlock) := goodIn_app (goodIn_of _ (by decide +kernel)) ggX6_reaches_X6_isBlock
set_option maxRecDepth 20000 in
theorem ggX6_reaches_X6_holds : GoodIn wsX6_reaches wsX6_holds := goodIn_r _ [18, 19, 52, 53, 54, 55, 56, 57, 58, 59, 60, 61, 62, 63, 64, 65, 66, 67, 68, 69, 70, 71, 72, 73, 74, 75, 76, 77] (by decide +kernel) (by decide +kernel)
set_option maxRecDepth 20000 in
theorem gX6_reaches_X6_holds : GoodIn wsX6_reaches (wsV RX6 90 RX6 yX6_holds wsX6_holds) := goodIn_app (goodIn_of _ (by decide +kernel)) ggX6_reaches_X6_holds
set_option maxRecDepth 20000 in
theorem ggX6_reaches_X6_tries : GoodIn wsX6_reaches wsX6_tries := goodIn_r _ [23, 8, 1, 24, 25, 26, 27, 28, 52, 53, 54, 55, 56, 57, 58, 59, 60, 61, 62, 63, 64, 65, 66, 67, 68, 69, 70, 71, 72, 73, 74, 75, 76, 77] (by decide +kernel) (by decide +kernel)
set_option maxRecDepth 20000 in
theorem gX6_reaches_X6_tries : GoodIn wsX6_reaches (wsV RX6 110 RX6 yX6_tries wsX6_tries) := goodIn_app (goodIn_of _ (by decide +kernel)) ggX6_reaches_X6_tries
set_option maxRecDepth 20000 in
theorem ggX6_reaches_X6_moves : GoodIn wsX6_reaches wsX6_moves := goodIn_r _ [32, 8, 1, 25, 27, 33, 34, 35, 36, 6, 37, 38, 39, 40, 41, 42, 43, 44, 45, 46, 47, 48, 49, 50, 51, 52, 53, 54, 55, 56, 57, 58, 59, 60, 61, 62, 63, 64, 65, 66, 67, 68, 69, 70, 71, 72, 73, 74, 75, 76, 77] (by decide +kernel) (by decide +kernel)
set_option maxRecDepth 20000 in
theorem gX6_reaches_X6_moves : GoodIn wsX6_reaches (wsV RX6 116 RX6 yX6_moves wsX6_moves) := goodIn_app (goodIn_of _ (by decide +kernel)) ggX6_reaches_X6_moves
theorem dX6_reaches_0 : decode cX6_reaches 0 = .ok (.aload_n 0, 1) := by decide +kernel
theorem dX6_reaches_1 : decode cX6_reaches 1 = .ok (.aload_n 0, 1) := by decide +kernel
theorem dX6_reaches_2 : decode cX6_reaches 2 = .ok (.iload_n 1, 1) := by decide +kernel
theorem dX6_reaches_3 : decode cX6_reaches 3 = .ok (.invokevirtual 93, 3) := by decide +kernel
theorem dX6_reaches_6 : decode cX6_reaches 6 = .ok (.ifCond .eq 14, 3) := by decide +kernel
theorem dX6_reaches_9 : decode cX6_reaches 9 = .ok (.iload_n 2, 1) := by decide +kernel
theorem dX6_reaches_10 : decode cX6_reaches 10 = .ok (.invokestatic 82, 3) := by decide +kernel
theorem dX6_reaches_13 : decode cX6_reaches 13 = .ok (.ifCond .eq 7, 3) := by decide +kernel
theorem dX6_reaches_16 : decode cX6_reaches 16 = .ok (.iconst 0, 1) := by decide +kernel
theorem dX6_reaches_17 : decode cX6_reaches 17 = .ok (.goto 4, 3) := by decide +kernel
theorem dX6_reaches_20 : decode cX6_reaches 20 = .ok (.iconst 1, 1) := by decide +kernel
theorem dX6_reaches_21 : decode cX6_reaches 21 = .ok (.invokevirtual 90, 3) := by decide +kernel
theorem dX6_reaches_24 : decode cX6_reaches 24 = .ok (.ifCond .ne 5, 3) := by decide +kernel
theorem dX6_reaches_27 : decode cX6_reaches 27 = .ok (.iconst 0, 1) := by decide +kernel
theorem dX6_reaches_28 : decode cX6_reaches 28 = .ok (.ireturn, 1) := by decide +kernel
theorem dX6_reaches_29 : decode cX6_reaches 29 = .ok (.aload_n 0, 1) := by decide +kernel
theorem dX6_reaches_30 : decode cX6_reaches 30 = .ok (.invokevirtual 110, 3) := by decide +kernel
theorem dX6_reaches_33 : decode cX6_reaches 33 = .ok (.iconst 0, 1) := by decide +kernel
theorem dX6_reaches_34 : decode cX6_reaches 34 = .ok (.istore_n 3, 1) := by decide +kernel
theorem dX6_reaches_35 : decode cX6_reaches 35 = .ok (.aload_n 0, 1) := by decide +kernel
theorem dX6_reaches_36 : decode cX6_reaches 36 = .ok (.getfield 26, 3) := by decide +kernel
theorem dX6_reaches_39 : decode cX6_reaches 39 = .ok (.iload_n 1, 1) := by decide +kernel
theorem dX6_reaches_40 : decode cX6_reaches 40 = .ok (.iaload, 1) := by decide +kernel
theorem dX6_reaches_41 : decode cX6_reaches 41 = .ok (.iload_n 2, 1) := by decide +kernel
theorem dX6_reaches_42 : decode cX6_reaches 42 = .ok (.if_icmp .eq 26, 3) := by decide +kernel
theorem dX6_reaches_45 : decode cX6_reaches 45 = .ok (.iload_n 3, 1) := by decide +kernel
theorem dX6_reaches_46 : decode cX6_reaches 46 = .ok (.bipush 100, 2) := by decide +kernel
theorem dX6_reaches_48 : decode cX6_reaches 48 = .ok (.if_icmp .ge 20, 3) := by decide +kernel
theorem dX6_reaches_51 : decode cX6_reaches 51 = .ok (.aload_n 0, 1) := by decide +kernel
theorem dX6_reaches_52 : decode cX6_reaches 52 = .ok (.aload_n 0, 1) := by decide +kernel
theorem dX6_reaches_53 : decode cX6_reaches 53 = .ok (.getfield 113, 3) := by decide +kernel
theorem dX6_reaches_56 : decode cX6_reaches 56 = .ok (.iload_n 3, 1) := by decide +kernel
theorem dX6_reaches_57 : decode cX6_reaches 57 = .ok (.iadd, 1) := by decide +kernel
theorem dX6_reaches_58 : decode cX6_reaches 58 = .ok (.invokevirtual 116, 3) := by decide +kernel
theorem dX6_reaches_61 : decode cX6_reaches 61 = .ok (.pop, 1) := by decide +kernel
theorem dX6_reaches_62 : decode cX6_reaches 62 = .ok (.iinc 3 1, 3) := by decide +kernel
theorem dX6_reaches_65 : decode cX6_reaches 65 = .ok (.goto (-30), 3) := by decide +kernel
theorem dX6_reaches_68 : decode cX6_reaches 68 = .ok (.aload_n 0, 1) := by decide +kernel
theorem dX6_reaches_69 : decode cX6_reaches 69 = .ok (.getfield 26, 3) := by decide +kernel
theorem dX6_reaches_72 : decode cX6_reaches 72 = .ok (.iload_n 1, 1) := by decide +kernel
theorem dX6_reaches_73 : decode cX6_reaches 73 = .ok (.iaload, 1) := by decide +kernel
theorem dX6_reaches_74 : decode cX6_reaches 74 = .ok (.iload_n 2, 1) := by decide +kernel
theorem dX6_reaches_75 : decode cX6_reaches 75 = .ok (.if_icmp .ne 7, 3) := by decide +kernel
theorem dX6_reaches_78 : decode cX6_reaches 78 = .ok (.iload_n 3, 1) := by decide +kernel
theorem dX6_reaches_79 : decode cX6_reaches 79 = .ok (.goto 4, 3) := by decide +kernel
theorem dX6_reaches_82 : decode cX6_reaches 82 = .ok (.iconst (-1), 1) := by decide +kernel
theorem dX6_reaches_83 : decode cX6_reaches 83 = .ok (.ireturn, 1) := by decide +kernel
set_option maxRecDepth 20000 in
theorem ggX6_book_X6_isTrain : GoodIn wsX6_book wsX6_isTrain := goodIn_r _ [11, 12, 13, 14, 10, 15, 28, 29, 30, 31, 32, 33, 34, 35, 36, 37, 38, 39, 40, 41, 42, 43, 44, 45, 46, 47, 48, 49, 50, 51, 52, 53] (by decide +kernel) (by decide +kernel)
set_option maxRecDepth 20000 in
theorem gX6_book_X6_isTrain : GoodIn wsX6_book (wsV RX6 93 RX6 yX6_isTrain wsX6_isTrain) := goodIn_app (goodIn_of _ (by decide +kernel)) ggX6_book_X6_isTrain
set_option maxRecDepth 20000 in
theorem ggX6_book_X6_isBlock : GoodIn wsX6_book wsX6_isBlock := goodIn_r _ [18, 13, 14, 10, 15] (by decide +kernel) (by decide +kernel)
set_option maxRecDepth 20000 in
theorem gX6_book_X6_isBlock : GoodIn wsX6_book (va_wsS RX6 82 yX6_isBlock wsX6_isBlock) := goodIn_app (goodIn_of _ (by decide +kernel)) ggX6_book_X6_isBlock
set_option maxRecDepth 20000 in
theorem ggX6_book_X6_in : GoodIn wsX6_book wsX6_in := goodIn_r _ [15] (by decide +kernel) (by decide +kernel)
set_option maxRecDepth 20000 in
theorem gX6_book_X6_in : GoodIn wsX6_book (va_wsS RX6 78 yX6_in wsX6_in) := goodIn_app (goodIn_of _ (by decide +kernel)) ggX6_book_X6_in
set_option maxRecDepth 20000 in
theorem ggX6_book_X6_holds : GoodIn wsX6_book wsX6_holds := goodIn_r _ [22, 23, 28, 29, 30, 31, 32, 33, 34, 35, 36, 37, 38, 39, 40, 41, 42, 43, 44, 45, 46, 47, 48, 49, 50, 51, 52, 53] (by decide +kernel) (by decide +kernel)
set_option maxRecDepth 20000 in
theorem gX6_book_X6_holds : GoodIn wsX6_book (wsV RX6 90 RX6 yX6_holds wsX6_holds) := goodIn_app (goodIn_of _ (by decide +kernel)) ggX6_book_X6_holds
set_option maxRecDepth 20000 in
theorem ggX6_book_X6_meets : GoodIn wsX6_book wsX6_meets := goodIn_r _ [27, 2, 4, 3, 5, 6, 28, 29, 30, 31, 32, 33, 34, 35, 36, 37, 38, 39, 40, 41, 42, 43, 44, 45, 46, 47, 48, 49, 50, 51, 52, 53] (by decide +kernel) (by decide +kernel)
set_option maxRecDepth 20000 in
theorem gX6_book_X6_meets : GoodIn wsX6_book (wsV RX6 106 RX6 yX6_meets wsX6_meets) := goodIn_app (goodIn_of _ (by decide +kernel)) ggX6_book_X6_meets
theorem dX6_book_0 : decode cX6_book 0 = .ok (.aload_n 0, 1) := by decide +kernel
theorem dX6_book_1 : decode cX6_book 1 = .ok (.iload_n 1, 1) := by decide +kernel
theorem dX6_book_2 : decode cX6_book 2 = .ok (.invokevirtual 93, 3) := by decide +kernel
theorem dX6_book_5 : decode cX6_book 5 = .ok (.ifCond .eq 14, 3) := by decide +kernel
theorem dX6_book_8 : decode cX6_book 8 = .ok (.iload_n 2, 1) := by decide +kernel
theorem dX6_book_9 : decode cX6_book 9 = .ok (.invokestatic 82, 3) := by decide +kernel
theorem dX6_book_12 : decode cX6_book 12 = .ok (.ifCond .eq 7, 3) := by decide +kernel
theorem dX6_book_15 : decode cX6_book 15 = .ok (.iconst 1, 1) := by decide +kernel
theorem dX6_book_16 : decode cX6_book 16 = .ok (.goto 4, 3) := by decide +kernel
theorem dX6_book_19 : decode cX6_book 19 = .ok (.iconst 0, 1) := by decide +kernel
theorem dX6_book_20 : decode cX6_book 20 = .ok (.istore 5, 2) := by decide +kernel
theorem dX6_book_22 : decode cX6_book 22 = .ok (.iload_n 3, 1) := by decide +kernel
theorem dX6_book_23 : decode cX6_book 23 = .ok (.aload_n 0, 1) := by decide +kernel
theorem dX6_book_24 : decode cX6_book 24 = .ok (.getfield 113, 3) := by decide +kernel
theorem dX6_book_27 : decode cX6_book 27 = .ok (.sipush 5000, 3) := by decide +kernel
theorem dX6_book_30 : decode cX6_book 30 = .ok (.invokestatic 78, 3) := by decide +kernel
theorem dX6_book_33 : decode cX6_book 33 = .ok (.ifCond .eq 19, 3) := by decide +kernel
theorem dX6_book_36 : decode cX6_book 36 = .ok (.iload 4, 2) := by decide +kernel
theorem dX6_book_38 : decode cX6_book 38 = .ok (.iload_n 3, 1) := by decide +kernel
theorem dX6_book_39 : decode cX6_book 39 = .ok (.sipush 5000, 3) := by decide +kernel
theorem dX6_book_42 : decode cX6_book 42 = .ok (.invokestatic 78, 3) := by decide +kernel
theorem dX6_book_45 : decode cX6_book 45 = .ok (.ifCond .eq 7, 3) := by decide +kernel
theorem dX6_book_48 : decode cX6_book 48 = .ok (.iconst 1, 1) := by decide +kernel
theorem dX6_book_49 : decode cX6_book 49 = .ok (.goto 4, 3) := by decide +kernel
theorem dX6_book_52 : decode cX6_book 52 = .ok (.iconst 0, 1) := by decide +kernel
theorem dX6_book_53 : decode cX6_book 53 = .ok (.istore 6, 2) := by decide +kernel
theorem dX6_book_55 : decode cX6_book 55 = .ok (.aload_n 0, 1) := by decide +kernel
theorem dX6_book_56 : decode cX6_book 56 = .ok (.iload 5, 2) := by decide +kernel
theorem dX6_book_58 : decode cX6_book 58 = .ok (.ifCond .ne 7, 3) := by decide +kernel
theorem dX6_book_61 : decode cX6_book 61 = .ok (.iconst 1, 1) := by decide +kernel
theorem dX6_book_62 : decode cX6_book 62 = .ok (.goto 26, 3) := by decide +kernel
theorem dX6_book_65 : decode cX6_book 65 = .ok (.iload 6, 2) := by decide +kernel
theorem dX6_book_67 : decode cX6_book 67 = .ok (.ifCond .ne 7, 3) := by decide +kernel
theorem dX6_book_70 : decode cX6_book 70 = .ok (.iconst 2, 1) := by decide +kernel
theorem dX6_book_71 : decode cX6_book 71 = .ok (.goto 17, 3) := by decide +kernel
theorem dX6_book_74 : decode cX6_book 74 = .ok (.aload_n 0, 1) := by decide +kernel
theorem dX6_book_75 : decode cX6_book 75 = .ok (.getfield 96, 3) := by decide +kernel
theorem dX6_book_78 : decode cX6_book 78 = .ok (.bipush 30, 2) := by decide +kernel
theorem dX6_book_80 : decode cX6_book 80 = .ok (.if_icmp .ne 7, 3) := by decide +kernel
theorem dX6_book_83 : decode cX6_book 83 = .ok (.iconst 3, 1) := by decide +kernel
theorem dX6_book_84 : decode cX6_book 84 = .ok (.goto 4, 3) := by decide +kernel
theorem dX6_book_87 : decode cX6_book 87 = .ok (.iconst 0, 1) := by decide +kernel
theorem dX6_book_88 : decode cX6_book 88 = .ok (.invokevirtual 90, 3) := by decide +kernel
theorem dX6_book_91 : decode cX6_book 91 = .ok (.ifCond .ne 5, 3) := by decide +kernel
theorem dX6_book_94 : decode cX6_book 94 = .ok (.iconst 0, 1) := by decide +kernel
theorem dX6_book_95 : decode cX6_book 95 = .ok (.ireturn, 1) := by decide +kernel
theorem dX6_book_96 : decode cX6_book 96 = .ok (.aload_n 0, 1) := by decide +kernel
theorem dX6_book_97 : decode cX6_book 97 = .ok (.iload_n 1, 1) := by decide +kernel
theorem dX6_book_98 : decode cX6_book 98 = .ok (.iload_n 2, 1) := by decide +kernel
theorem dX6_book_99 : decode cX6_book 99 = .ok (.iload_n 3, 1) := by decide +kernel
theorem dX6_book_100 : decode cX6_book 100 = .ok (.iload 4, 2) := by decide +kernel
theorem dX6_book_102 : decode cX6_book 102 = .ok (.invokevirtual 106, 3) := by decide +kernel
theorem dX6_book_105 : decode cX6_book 105 = .ok (.ifCond .eq 5, 3) := by decide +kernel
theorem dX6_book_108 : decode cX6_book 108 = .ok (.iconst (-1), 1) := by decide +kernel
theorem dX6_book_109 : decode cX6_book 109 = .ok (.ireturn, 1) := by decide +kernel
theorem dX6_book_110 : decode cX6_book 110 = .ok (.aload_n 0, 1) := by decide +kernel
theorem dX6_book_111 : decode cX6_book 111 = .ok (.getfield 35, 3) := by decide +kernel
theorem dX6_book_114 : decode cX6_book 114 = .ok (.aload_n 0, 1) := by decide +kernel
theorem dX6_book_115 : decode cX6_book 115 = .ok (.getfield 96, 3) := by decide +kernel
theorem dX6_book_118 : decode cX6_book 118 = .ok (.iload_n 1, 1) := by decide +kernel
theorem dX6_book_119 : decode cX6_book 119 = .ok (.iastore, 1) := by decide +kernel
theorem dX6_book_120 : decode cX6_book 120 = .ok (.aload_n 0, 1) := by decide +kernel
theorem dX6_book_121 : decode cX6_book 121 = .ok (.getfield 38, 3) := by decide +kernel
theorem dX6_book_124 : decode cX6_book 124 = .ok (.aload_n 0, 1) := by decide +kernel
theorem dX6_book_125 : decode cX6_book 125 = .ok (.getfield 96, 3) := by decide +kernel
theorem dX6_book_128 : decode cX6_book 128 = .ok (.iload_n 2, 1) := by decide +kernel
theorem dX6_book_129 : decode cX6_book 129 = .ok (.iastore, 1) := by decide +kernel
theorem dX6_book_130 : decode cX6_book 130 = .ok (.aload_n 0, 1) := by decide +kernel
theorem dX6_book_131 : decode cX6_book 131 = .ok (.getfield 41, 3) := by decide +kernel
theorem dX6_book_134 : decode cX6_book 134 = .ok (.aload_n 0, 1) := by decide +kernel
theorem dX6_book_135 : decode cX6_book 135 = .ok (.getfield 96, 3) := by decide +kernel
theorem dX6_book_138 : decode cX6_book 138 = .ok (.iload_n 3, 1) := by decide +kernel
theorem dX6_book_139 : decode cX6_book 139 = .ok (.iastore, 1) := by decide +kernel
theorem dX6_book_140 : decode cX6_book 140 = .ok (.aload_n 0, 1) := by decide +kernel
theorem dX6_book_141 : decode cX6_book 141 = .ok (.getfield 44, 3) := by decide +kernel
theorem dX6_book_144 : decode cX6_book 144 = .ok (.aload_n 0, 1) := by decide +kernel
theorem dX6_book_145 : decode cX6_book 145 = .ok (.getfield 96, 3) := by decide +kernel
theorem dX6_book_148 : decode cX6_book 148 = .ok (.iload 4, 2) := by decide +kernel
theorem dX6_book_150 : decode cX6_book 150 = .ok (.iastore, 1) := by decide +kernel
theorem dX6_book_151 : decode cX6_book 151 = .ok (.aload_n 0, 1) := by decide +kernel
theorem dX6_book_152 : decode cX6_book 152 = .ok (.dup, 1) := by decide +kernel
theorem dX6_book_153 : decode cX6_book 153 = .ok (.getfield 96, 3) := by decide +kernel
theorem dX6_book_156 : decode cX6_book 156 = .ok (.iconst 1, 1) := by decide +kernel
theorem dX6_book_157 : decode cX6_book 157 = .ok (.iadd, 1) := by decide +kernel
theorem dX6_book_158 : decode cX6_book 158 = .ok (.putfield 96, 3) := by decide +kernel
theorem dX6_book_161 : decode cX6_book 161 = .ok (.aload_n 0, 1) := by decide +kernel
theorem dX6_book_162 : decode cX6_book 162 = .ok (.getfield 96, 3) := by decide +kernel
theorem dX6_book_165 : decode cX6_book 165 = .ok (.iconst 1, 1) := by decide +kernel
theorem dX6_book_166 : decode cX6_book 166 = .ok (.isub, 1) := by decide +kernel
theorem dX6_book_167 : decode cX6_book 167 = .ok (.ireturn, 1) := by decide +kernel
set_option maxRecDepth 20000 in
theorem ggX6_mayBook_X6_isTrain : GoodIn wsX6_mayBook wsX6_isTrain := goodIn_r _ [5, 6, 7, 8, 4, 9, 27, 28, 29, 30, 31, 32, 33, 34, 35, 36, 37, 38, 39, 40, 41, 42, 43, 44, 45, 46, 47, 48, 49, 50, 51, 52] (by decide +kernel) (by decide +kernel)
set_option maxRecDepth 20000 in
theorem gX6_mayBook_X6_isTrain : GoodIn wsX6_mayBook (wsV RX6 93 RX6 yX6_isTrain wsX6_isTrain) := goodIn_app (goodIn_of _ (by decide +kernel)) ggX6_mayBook_X6_isTrain
set_option maxRecDepth 20000 in
theorem ggX6_mayBook_X6_isBlock : GoodIn wsX6_mayBook wsX6_isBlock := goodIn_r _ [12, 7, 8, 4, 9] (by decide +kernel) (by decide +kernel)
set_option maxRecDepth 20000 in
theorem gX6_mayBook_X6_isBlock : GoodIn wsX6_mayBook (va_wsS RX6 82 yX6_isBlock wsX6_isBlock) := goodIn_app (goodIn_of _ (by decide +kernel)) ggX6_mayBook_X6_isBlock
set_option maxRecDepth 20000 in
theorem ggX6_mayBook_X6_in : GoodIn wsX6_mayBook wsX6_in := goodIn_r _ [9] (by decide +kernel) (by decide +kernel)
set_option maxRecDepth 20000 in
theorem gX6_mayBook_X6_in : GoodIn wsX6_mayBook (va_wsS RX6 78 yX6_in wsX6_in) := goodIn_app (goodIn_of _ (by decide +kernel)) ggX6_mayBook_X6_in
set_option maxRecDepth 20000 in
theorem ggX6_mayBook_X6_holds : GoodIn wsX6_mayBook wsX6_holds := goodIn_r _ [16, 17, 27, 28, 29, 30, 31, 32, 33, 34, 35, 36, 37, 38, 39, 40, 41, 42, 43, 44, 45, 46, 47, 48, 49, 50, 51, 52] (by decide +kernel) (by decide +kernel)
set_option maxRecDepth 20000 in
theorem gX6_mayBook_X6_holds : GoodIn wsX6_mayBook (wsV RX6 90 RX6 yX6_holds wsX6_holds) := goodIn_app (goodIn_of _ (by decide +kernel)) ggX6_mayBook_X6_holds
set_option maxRecDepth 20000 in
theorem ggX6_mayBook_X6_meets : GoodIn wsX6_mayBook wsX6_meets := goodIn_r _ [21, 22, 23, 24, 25, 26, 27, 28, 29, 30, 31, 32, 33, 34, 35, 36, 37, 38, 39, 40, 41, 42, 43, 44, 45, 46, 47, 48, 49, 50, 51, 52] (by decide +kernel) (by decide +kernel)
set_option maxRecDepth 20000 in
theorem gX6_mayBook_X6_meets : GoodIn wsX6_mayBook (wsV RX6 106 RX6 yX6_meets wsX6_meets) := goodIn_app (goodIn_of _ (by decide +kernel)) ggX6_mayBook_X6_meets
theorem dX6_mayBook_0 : decode cX6_mayBook 0 = .ok (.aload_n 0, 1) := by decide +kernel
theorem dX6_mayBook_1 : decode cX6_mayBook 1 = .ok (.iload_n 1, 1) := by decide +kernel
theorem dX6_mayBook_2 : decode cX6_mayBook 2 = .ok (.invokevirtual 93, 3) := by decide +kernel
theorem dX6_mayBook_5 : decode cX6_mayBook 5 = .ok (.ifCond .eq 14, 3) := by decide +kernel
theorem dX6_mayBook_8 : decode cX6_mayBook 8 = .ok (.iload_n 2, 1) := by decide +kernel
theorem dX6_mayBook_9 : decode cX6_mayBook 9 = .ok (.invokestatic 82, 3) := by decide +kernel
theorem dX6_mayBook_12 : decode cX6_mayBook 12 = .ok (.ifCond .eq 7, 3) := by decide +kernel
theorem dX6_mayBook_15 : decode cX6_mayBook 15 = .ok (.iconst 1, 1) := by decide +kernel
theorem dX6_mayBook_16 : decode cX6_mayBook 16 = .ok (.goto 4, 3) := by decide +kernel
theorem dX6_mayBook_19 : decode cX6_mayBook 19 = .ok (.iconst 0, 1) := by decide +kernel
theorem dX6_mayBook_20 : decode cX6_mayBook 20 = .ok (.istore 5, 2) := by decide +kernel
theorem dX6_mayBook_22 : decode cX6_mayBook 22 = .ok (.iload_n 3, 1) := by decide +kernel
theorem dX6_mayBook_23 : decode cX6_mayBook 23 = .ok (.iconst 0, 1) := by decide +kernel
theorem dX6_mayBook_24 : decode cX6_mayBook 24 = .ok (.sipush 5000, 3) := by decide +kernel
theorem dX6_mayBook_27 : decode cX6_mayBook 27 = .ok (.invokestatic 78, 3) := by decide +kernel
theorem dX6_mayBook_30 : decode cX6_mayBook 30 = .ok (.ifCond .eq 19, 3) := by decide +kernel
theorem dX6_mayBook_33 : decode cX6_mayBook 33 = .ok (.iload 4, 2) := by decide +kernel
theorem dX6_mayBook_35 : decode cX6_mayBook 35 = .ok (.iload_n 3, 1) := by decide +kernel
theorem dX6_mayBook_36 : decode cX6_mayBook 36 = .ok (.sipush 5000, 3) := by decide +kernel
theorem dX6_mayBook_39 : decode cX6_mayBook 39 = .ok (.invokestatic 78, 3) := by decide +kernel
theorem dX6_mayBook_42 : decode cX6_mayBook 42 = .ok (.ifCond .eq 7, 3) := by decide +kernel
theorem dX6_mayBook_45 : decode cX6_mayBook 45 = .ok (.iconst 1, 1) := by decide +kernel
theorem dX6_mayBook_46 : decode cX6_mayBook 46 = .ok (.goto 4, 3) := by decide +kernel
theorem dX6_mayBook_49 : decode cX6_mayBook 49 = .ok (.iconst 0, 1) := by decide +kernel
theorem dX6_mayBook_50 : decode cX6_mayBook 50 = .ok (.istore 6, 2) := by decide +kernel
theorem dX6_mayBook_52 : decode cX6_mayBook 52 = .ok (.aload_n 0, 1) := by decide +kernel
theorem dX6_mayBook_53 : decode cX6_mayBook 53 = .ok (.iload 5, 2) := by decide +kernel
theorem dX6_mayBook_55 : decode cX6_mayBook 55 = .ok (.ifCond .ne 7, 3) := by decide +kernel
theorem dX6_mayBook_58 : decode cX6_mayBook 58 = .ok (.iconst 1, 1) := by decide +kernel
theorem dX6_mayBook_59 : decode cX6_mayBook 59 = .ok (.goto 13, 3) := by decide +kernel
theorem dX6_mayBook_62 : decode cX6_mayBook 62 = .ok (.iload 6, 2) := by decide +kernel
theorem dX6_mayBook_64 : decode cX6_mayBook 64 = .ok (.ifCond .eq 7, 3) := by decide +kernel
theorem dX6_mayBook_67 : decode cX6_mayBook 67 = .ok (.iconst 0, 1) := by decide +kernel
theorem dX6_mayBook_68 : decode cX6_mayBook 68 = .ok (.goto 4, 3) := by decide +kernel
theorem dX6_mayBook_71 : decode cX6_mayBook 71 = .ok (.iconst 2, 1) := by decide +kernel
theorem dX6_mayBook_72 : decode cX6_mayBook 72 = .ok (.invokevirtual 90, 3) := by decide +kernel
theorem dX6_mayBook_75 : decode cX6_mayBook 75 = .ok (.ifCond .eq 19, 3) := by decide +kernel
theorem dX6_mayBook_78 : decode cX6_mayBook 78 = .ok (.aload_n 0, 1) := by decide +kernel
theorem dX6_mayBook_79 : decode cX6_mayBook 79 = .ok (.iload_n 1, 1) := by decide +kernel
theorem dX6_mayBook_80 : decode cX6_mayBook 80 = .ok (.iload_n 2, 1) := by decide +kernel
theorem dX6_mayBook_81 : decode cX6_mayBook 81 = .ok (.iload_n 3, 1) := by decide +kernel
theorem dX6_mayBook_82 : decode cX6_mayBook 82 = .ok (.iload 4, 2) := by decide +kernel
theorem dX6_mayBook_84 : decode cX6_mayBook 84 = .ok (.invokevirtual 106, 3) := by decide +kernel
theorem dX6_mayBook_87 : decode cX6_mayBook 87 = .ok (.ifCond .ne 7, 3) := by decide +kernel
theorem dX6_mayBook_90 : decode cX6_mayBook 90 = .ok (.iconst 1, 1) := by decide +kernel
theorem dX6_mayBook_91 : decode cX6_mayBook 91 = .ok (.goto 4, 3) := by decide +kernel
theorem dX6_mayBook_94 : decode cX6_mayBook 94 = .ok (.iconst 0, 1) := by decide +kernel
theorem dX6_mayBook_95 : decode cX6_mayBook 95 = .ok (.ireturn, 1) := by decide +kernel
set_option maxRecDepth 20000 in
theorem ggX6_canBook_X6_mayBook : GoodIn wsX6_canBook wsX6_mayBook := goodIn_r _ [5, 6, 7, 8, 4, 9, 10, 11, 12, 13, 14, 15, 16, 17, 18, 19, 20, 21, 22, 23, 24, 25, 26, 27, 28, 29, 30, 31, 32, 33, 34, 35, 36, 37, 38, 39, 40, 41, 42, 43, 44, 45, 46, 47, 48, 49, 50, 51, 52, 53, 54, 55, 56] (by decide +kernel) (by decide +kernel)
set_option maxRecDepth 20000 in
theorem gX6_canBook_X6_mayBook : GoodIn wsX6_canBook (wsV RX6 123 RX6 yX6_mayBook wsX6_mayBook) := goodIn_app (goodIn_of _ (by decide +kernel)) ggX6_canBook_X6_mayBook
theorem dX6_canBook_0 : decode cX6_canBook 0 = .ok (.aload_n 0, 1) := by decide +kernel
theorem dX6_canBook_1 : decode cX6_canBook 1 = .ok (.iload_n 1, 1) := by decide +kernel
theorem dX6_canBook_2 : decode cX6_canBook 2 = .ok (.iload_n 2, 1) := by decide +kernel
theorem dX6_canBook_3 : decode cX6_canBook 3 = .ok (.iload_n 3, 1) := by decide +kernel
theorem dX6_canBook_4 : decode cX6_canBook 4 = .ok (.iload 4, 2) := by decide +kernel
theorem dX6_canBook_6 : decode cX6_canBook 6 = .ok (.invokevirtual 123, 3) := by decide +kernel
theorem dX6_canBook_9 : decode cX6_canBook 9 = .ok (.ireturn, 1) := by decide +kernel
set_option maxRecDepth 20000 in
theorem ggX6_canBookByMinutes_X6_mayBook : GoodIn wsX6_canBookByMinutes wsX6_mayBook := goodIn_r _ [5, 6, 7, 8, 4, 9, 10, 11, 12, 13, 14, 15, 16, 17, 18, 19, 20, 21, 22, 23, 24, 25, 26, 27, 28, 29, 30, 31, 32, 33, 34, 35, 36, 37, 38, 39, 40, 41, 42, 43, 44, 45, 46, 47, 48, 49, 50, 51, 52, 53, 54, 55, 56] (by decide +kernel) (by decide +kernel)
set_option maxRecDepth 20000 in
theorem gX6_canBookByMinutes_X6_mayBook : GoodIn wsX6_canBookByMinutes (wsV RX6 123 RX6 yX6_mayBook wsX6_mayBook) := goodIn_app (goodIn_of _ (by decide +kernel)) ggX6_canBookByMinutes_X6_mayBook
theorem dX6_canBookByMinutes_0 : decode cX6_canBookByMinutes 0 = .ok (.aload_n 0, 1) := by decide +kernel
theorem dX6_canBookByMinutes_1 : decode cX6_canBookByMinutes 1 = .ok (.iload_n 1, 1) := by decide +kernel
theorem dX6_canBookByMinutes_2 : decode cX6_canBookByMinutes 2 = .ok (.iload_n 2, 1) := by decide +kernel
theorem dX6_canBookByMinutes_3 : decode cX6_canBookByMinutes 3 = .ok (.iload_n 3, 1) := by decide +kernel
theorem dX6_canBookByMinutes_4 : decode cX6_canBookByMinutes 4 = .ok (.iload 4, 2) := by decide +kernel
theorem dX6_canBookByMinutes_6 : decode cX6_canBookByMinutes 6 = .ok (.invokevirtual 123, 3) := by decide +kernel
theorem dX6_canBookByMinutes_9 : decode cX6_canBookByMinutes 9 = .ok (.ireturn, 1) := by decide +kernel
set_option maxRecDepth 20000 in
theorem ggX6_isBooking_X6_in : GoodIn wsX6_isBooking wsX6_in := goodIn_r _ [5] (by decide +kernel) (by decide +kernel)
set_option maxRecDepth 20000 in
theorem gX6_isBooking_X6_in : GoodIn wsX6_isBooking (va_wsS RX6 78 yX6_in wsX6_in) := goodIn_app (goodIn_of _ (by decide +kernel)) ggX6_isBooking_X6_in
set_option maxRecDepth 20000 in
theorem ggX6_isBooking_X6_holds : GoodIn wsX6_isBooking wsX6_holds := goodIn_r _ [9, 10, 11, 12, 13, 14, 15, 16, 17, 18, 19, 20, 21, 22, 23, 24, 25, 26, 27, 28, 29, 30, 31, 32, 33, 34, 35, 36] (by decide +kernel) (by decide +kernel)
set_option maxRecDepth 20000 in
theorem gX6_isBooking_X6_holds : GoodIn wsX6_isBooking (wsV RX6 90 RX6 yX6_holds wsX6_holds) := goodIn_app (goodIn_of _ (by decide +kernel)) ggX6_isBooking_X6_holds
theorem dX6_isBooking_0 : decode cX6_isBooking 0 = .ok (.aload_n 0, 1) := by decide +kernel
theorem dX6_isBooking_1 : decode cX6_isBooking 1 = .ok (.iload_n 1, 1) := by decide +kernel
theorem dX6_isBooking_2 : decode cX6_isBooking 2 = .ok (.iconst 0, 1) := by decide +kernel
theorem dX6_isBooking_3 : decode cX6_isBooking 3 = .ok (.aload_n 0, 1) := by decide +kernel
theorem dX6_isBooking_4 : decode cX6_isBooking 4 = .ok (.getfield 96, 3) := by decide +kernel
theorem dX6_isBooking_7 : decode cX6_isBooking 7 = .ok (.iconst 1, 1) := by decide +kernel
theorem dX6_isBooking_8 : decode cX6_isBooking 8 = .ok (.isub, 1) := by decide +kernel
theorem dX6_isBooking_9 : decode cX6_isBooking 9 = .ok (.invokestatic 78, 3) := by decide +kernel
theorem dX6_isBooking_12 : decode cX6_isBooking 12 = .ok (.ifCond .eq 7, 3) := by decide +kernel
theorem dX6_isBooking_15 : decode cX6_isBooking 15 = .ok (.iconst 0, 1) := by decide +kernel
theorem dX6_isBooking_16 : decode cX6_isBooking 16 = .ok (.goto 4, 3) := by decide +kernel
theorem dX6_isBooking_19 : decode cX6_isBooking 19 = .ok (.iconst 1, 1) := by decide +kernel
theorem dX6_isBooking_20 : decode cX6_isBooking 20 = .ok (.invokevirtual 90, 3) := by decide +kernel
theorem dX6_isBooking_23 : decode cX6_isBooking 23 = .ok (.ireturn, 1) := by decide +kernel
set_option maxRecDepth 20000 in
theorem ggX6_booking_X6_isBooking : GoodIn wsX6_booking wsX6_isBooking := goodIn_r _ [6, 7, 8, 9, 5, 10, 11, 12, 13, 14, 15, 16, 17, 18, 19, 20, 21, 22, 23, 24, 25, 26, 27, 28, 29, 30, 31, 32, 33, 34, 35, 36, 37, 38, 39, 40, 41] (by decide +kernel) (by decide +kernel)
set_option maxRecDepth 20000 in
theorem gX6_booking_X6_isBooking : GoodIn wsX6_booking (wsV RX6 126 RX6 yX6_isBooking wsX6_isBooking) := goodIn_app (goodIn_of _ (by decide +kernel)) ggX6_booking_X6_isBooking
theorem dX6_booking_0 : decode cX6_booking 0 = .ok (.aload_n 0, 1) := by decide +kernel
theorem dX6_booking_1 : decode cX6_booking 1 = .ok (.iload_n 1, 1) := by decide +kernel
theorem dX6_booking_2 : decode cX6_booking 2 = .ok (.invokevirtual 126, 3) := by decide +kernel
theorem dX6_booking_5 : decode cX6_booking 5 = .ok (.ifCond .eq 12, 3) := by decide +kernel
theorem dX6_booking_8 : decode cX6_booking 8 = .ok (.aload_n 0, 1) := by decide +kernel
theorem dX6_booking_9 : decode cX6_booking 9 = .ok (.getfield 47, 3) := by decide +kernel
theorem dX6_booking_12 : decode cX6_booking 12 = .ok (.iload_n 1, 1) := by decide +kernel
theorem dX6_booking_13 : decode cX6_booking 13 = .ok (.iaload, 1) := by decide +kernel
theorem dX6_booking_14 : decode cX6_booking 14 = .ok (.goto 4, 3) := by decide +kernel
theorem dX6_booking_17 : decode cX6_booking 17 = .ok (.iconst 0, 1) := by decide +kernel
theorem dX6_booking_18 : decode cX6_booking 18 = .ok (.ireturn, 1) := by decide +kernel
set_option maxRecDepth 20000 in
theorem ggX6_late_X6_isBooking : GoodIn wsX6_late wsX6_isBooking := goodIn_r _ [7, 8, 9, 10, 6, 11, 12, 13, 14, 15, 16, 17, 18, 19, 20, 21, 22, 23, 24, 25, 26, 27, 28, 29, 30, 31, 32, 33, 34, 35, 36, 37, 38, 39, 40, 41, 42] (by decide +kernel) (by decide +kernel)
set_option maxRecDepth 20000 in
theorem gX6_late_X6_isBooking : GoodIn wsX6_late (wsV RX6 126 RX6 yX6_isBooking wsX6_isBooking) := goodIn_app (goodIn_of _ (by decide +kernel)) ggX6_late_X6_isBooking
theorem dX6_late_0 : decode cX6_late 0 = .ok (.aload_n 0, 1) := by decide +kernel
theorem dX6_late_1 : decode cX6_late 1 = .ok (.iload_n 1, 1) := by decide +kernel
theorem dX6_late_2 : decode cX6_late 2 = .ok (.invokevirtual 126, 3) := by decide +kernel
theorem dX6_late_5 : decode cX6_late 5 = .ok (.ifCond .ne 7, 3) := by decide +kernel
theorem dX6_late_8 : decode cX6_late 8 = .ok (.iconst 0, 1) := by decide +kernel
theorem dX6_late_9 : decode cX6_late 9 = .ok (.goto 23, 3) := by decide +kernel
theorem dX6_late_12 : decode cX6_late 12 = .ok (.aload_n 0, 1) := by decide +kernel
theorem dX6_late_13 : decode cX6_late 13 = .ok (.getfield 47, 3) := by decide +kernel
theorem dX6_late_16 : decode cX6_late 16 = .ok (.iload_n 1, 1) := by decide +kernel
theorem dX6_late_17 : decode cX6_late 17 = .ok (.iaload, 1) := by decide +kernel
theorem dX6_late_18 : decode cX6_late 18 = .ok (.iconst 1, 1) := by decide +kernel
theorem dX6_late_19 : decode cX6_late 19 = .ok (.if_icmp .ne 12, 3) := by decide +kernel
theorem dX6_late_22 : decode cX6_late 22 = .ok (.aload_n 0, 1) := by decide +kernel
theorem dX6_late_23 : decode cX6_late 23 = .ok (.getfield 50, 3) := by decide +kernel
theorem dX6_late_26 : decode cX6_late 26 = .ok (.iload_n 1, 1) := by decide +kernel
theorem dX6_late_27 : decode cX6_late 27 = .ok (.iaload, 1) := by decide +kernel
theorem dX6_late_28 : decode cX6_late 28 = .ok (.goto 4, 3) := by decide +kernel
theorem dX6_late_31 : decode cX6_late 31 = .ok (.iconst (-1), 1) := by decide +kernel
theorem dX6_late_32 : decode cX6_late 32 = .ok (.ireturn, 1) := by decide +kernel
set_option maxRecDepth 20000 in
theorem ggX6_isSiding_X6_in : GoodIn wsX6_isSiding wsX6_in := goodIn_r _ [4] (by decide +kernel) (by decide +kernel)
set_option maxRecDepth 20000 in
theorem gX6_isSiding_X6_in : GoodIn wsX6_isSiding (va_wsS RX6 78 yX6_in wsX6_in) := goodIn_app (goodIn_of _ (by decide +kernel)) ggX6_isSiding_X6_in
theorem dX6_isSiding_0 : decode cX6_isSiding 0 = .ok (.iload_n 0, 1) := by decide +kernel
theorem dX6_isSiding_1 : decode cX6_isSiding 1 = .ok (.bipush 6, 2) := by decide +kernel
theorem dX6_isSiding_3 : decode cX6_isSiding 3 = .ok (.bipush 7, 2) := by decide +kernel
theorem dX6_isSiding_5 : decode cX6_isSiding 5 = .ok (.invokestatic 78, 3) := by decide +kernel
theorem dX6_isSiding_8 : decode cX6_isSiding 8 = .ok (.ireturn, 1) := by decide +kernel
theorem dX6_many_0 : decode cX6_many 0 = .ok (.iconst 0, 1) := by decide +kernel
theorem dX6_many_1 : decode cX6_many 1 = .ok (.istore_n 2, 1) := by decide +kernel
theorem dX6_many_2 : decode cX6_many 2 = .ok (.iconst 0, 1) := by decide +kernel
theorem dX6_many_3 : decode cX6_many 3 = .ok (.istore_n 3, 1) := by decide +kernel
theorem dX6_many_4 : decode cX6_many 4 = .ok (.iload_n 3, 1) := by decide +kernel
theorem dX6_many_5 : decode cX6_many 5 = .ok (.aload_n 0, 1) := by decide +kernel
theorem dX6_many_6 : decode cX6_many 6 = .ok (.getfield 129, 3) := by decide +kernel
theorem dX6_many_9 : decode cX6_many 9 = .ok (.if_icmp .ge 27, 3) := by decide +kernel
theorem dX6_many_12 : decode cX6_many 12 = .ok (.iload_n 2, 1) := by decide +kernel
theorem dX6_many_13 : decode cX6_many 13 = .ok (.aload_n 0, 1) := by decide +kernel
theorem dX6_many_14 : decode cX6_many 14 = .ok (.getfield 56, 3) := by decide +kernel
theorem dX6_many_17 : decode cX6_many 17 = .ok (.iload_n 3, 1) := by decide +kernel
theorem dX6_many_18 : decode cX6_many 18 = .ok (.iaload, 1) := by decide +kernel
theorem dX6_many_19 : decode cX6_many 19 = .ok (.iload_n 1, 1) := by decide +kernel
theorem dX6_many_20 : decode cX6_many 20 = .ok (.if_icmp .ne 7, 3) := by decide +kernel
theorem dX6_many_23 : decode cX6_many 23 = .ok (.iconst 1, 1) := by decide +kernel
theorem dX6_many_24 : decode cX6_many 24 = .ok (.goto 4, 3) := by decide +kernel
theorem dX6_many_27 : decode cX6_many 27 = .ok (.iconst 0, 1) := by decide +kernel
theorem dX6_many_28 : decode cX6_many 28 = .ok (.iadd, 1) := by decide +kernel
theorem dX6_many_29 : decode cX6_many 29 = .ok (.istore_n 2, 1) := by decide +kernel
theorem dX6_many_30 : decode cX6_many 30 = .ok (.iinc 3 1, 3) := by decide +kernel
theorem dX6_many_33 : decode cX6_many 33 = .ok (.goto (-29), 3) := by decide +kernel
theorem dX6_many_36 : decode cX6_many 36 = .ok (.iload_n 2, 1) := by decide +kernel
theorem dX6_many_37 : decode cX6_many 37 = .ok (.ireturn, 1) := by decide +kernel
theorem dX6_waggon_0 : decode cX6_waggon 0 = .ok (.iconst 0, 1) := by decide +kernel
theorem dX6_waggon_1 : decode cX6_waggon 1 = .ok (.istore_n 3, 1) := by decide +kernel
theorem dX6_waggon_2 : decode cX6_waggon 2 = .ok (.iload_n 3, 1) := by decide +kernel
theorem dX6_waggon_3 : decode cX6_waggon 3 = .ok (.aload_n 0, 1) := by decide +kernel
theorem dX6_waggon_4 : decode cX6_waggon 4 = .ok (.getfield 129, 3) := by decide +kernel
theorem dX6_waggon_7 : decode cX6_waggon 7 = .ok (.if_icmp .ge 31, 3) := by decide +kernel
theorem dX6_waggon_10 : decode cX6_waggon 10 = .ok (.aload_n 0, 1) := by decide +kernel
theorem dX6_waggon_11 : decode cX6_waggon 11 = .ok (.getfield 56, 3) := by decide +kernel
theorem dX6_waggon_14 : decode cX6_waggon 14 = .ok (.iload_n 3, 1) := by decide +kernel
theorem dX6_waggon_15 : decode cX6_waggon 15 = .ok (.iaload, 1) := by decide +kernel
theorem dX6_waggon_16 : decode cX6_waggon 16 = .ok (.iload_n 1, 1) := by decide +kernel
theorem dX6_waggon_17 : decode cX6_waggon 17 = .ok (.if_icmp .ne 15, 3) := by decide +kernel
theorem dX6_waggon_20 : decode cX6_waggon 20 = .ok (.aload_n 0, 1) := by decide +kernel
theorem dX6_waggon_21 : decode cX6_waggon 21 = .ok (.getfield 59, 3) := by decide +kernel
theorem dX6_waggon_24 : decode cX6_waggon 24 = .ok (.iload_n 3, 1) := by decide +kernel
theorem dX6_waggon_25 : decode cX6_waggon 25 = .ok (.iaload, 1) := by decide +kernel
theorem dX6_waggon_26 : decode cX6_waggon 26 = .ok (.iload_n 2, 1) := by decide +kernel
theorem dX6_waggon_27 : decode cX6_waggon 27 = .ok (.if_icmp .ne 5, 3) := by decide +kernel
theorem dX6_waggon_30 : decode cX6_waggon 30 = .ok (.iload_n 3, 1) := by decide +kernel
theorem dX6_waggon_31 : decode cX6_waggon 31 = .ok (.ireturn, 1) := by decide +kernel
theorem dX6_waggon_32 : decode cX6_waggon 32 = .ok (.iinc 3 1, 3) := by decide +kernel
theorem dX6_waggon_35 : decode cX6_waggon 35 = .ok (.goto (-33), 3) := by decide +kernel
theorem dX6_waggon_38 : decode cX6_waggon 38 = .ok (.iconst (-1), 1) := by decide +kernel
theorem dX6_waggon_39 : decode cX6_waggon 39 = .ok (.ireturn, 1) := by decide +kernel
set_option maxRecDepth 20000 in
theorem ggX6_comes_X6_many : GoodIn wsX6_comes wsX6_many := goodIn_r _ [7, 8, 1, 9, 10, 11, 12, 13, 14, 15, 16, 17, 18, 19, 20, 21, 22, 23, 24, 25, 26, 27, 28, 29, 30, 31, 32, 33, 34] (by decide +kernel) (by decide +kernel)
set_option maxRecDepth 20000 in
theorem gX6_comes_X6_many : GoodIn wsX6_comes (wsV RX6 132 RX6 yX6_many wsX6_many) := goodIn_app (goodIn_of _ (by decide +kernel)) ggX6_comes_X6_many
theorem dX6_comes_0 : decode cX6_comes 0 = .ok (.aload_n 0, 1) := by decide +kernel
theorem dX6_comes_1 : decode cX6_comes 1 = .ok (.iload_n 2, 1) := by decide +kernel
theorem dX6_comes_2 : decode cX6_comes 2 = .ok (.invokevirtual 132, 3) := by decide +kernel
theorem dX6_comes_5 : decode cX6_comes 5 = .ok (.istore_n 3, 1) := by decide +kernel
theorem dX6_comes_6 : decode cX6_comes 6 = .ok (.aload_n 0, 1) := by decide +kernel
theorem dX6_comes_7 : decode cX6_comes 7 = .ok (.getfield 56, 3) := by decide +kernel
theorem dX6_comes_10 : decode cX6_comes 10 = .ok (.iload_n 1, 1) := by decide +kernel
theorem dX6_comes_11 : decode cX6_comes 11 = .ok (.iload_n 2, 1) := by decide +kernel
theorem dX6_comes_12 : decode cX6_comes 12 = .ok (.iastore, 1) := by decide +kernel
theorem dX6_comes_13 : decode cX6_comes 13 = .ok (.aload_n 0, 1) := by decide +kernel
theorem dX6_comes_14 : decode cX6_comes 14 = .ok (.getfield 59, 3) := by decide +kernel
theorem dX6_comes_17 : decode cX6_comes 17 = .ok (.iload_n 1, 1) := by decide +kernel
theorem dX6_comes_18 : decode cX6_comes 18 = .ok (.iload_n 3, 1) := by decide +kernel
theorem dX6_comes_19 : decode cX6_comes 19 = .ok (.iastore, 1) := by decide +kernel
theorem dX6_comes_20 : decode cX6_comes 20 = .ok (.return_, 1) := by decide +kernel
set_option maxRecDepth 20000 in
theorem ggX6_addWaggon_X6_isSiding : GoodIn wsX6_addWaggon wsX6_isSiding := goodIn_r _ [6, 7, 8, 5, 9] (by decide +kernel) (by decide +kernel)
set_option maxRecDepth 20000 in
theorem gX6_addWaggon_X6_isSiding : GoodIn wsX6_addWaggon (va_wsS RX6 135 yX6_isSiding wsX6_isSiding) := goodIn_app (goodIn_of _ (by decide +kernel)) ggX6_addWaggon_X6_isSiding
set_option maxRecDepth 20000 in
theorem ggX6_addWaggon_X6_many : GoodIn wsX6_addWaggon wsX6_many := goodIn_r _ [13, 1, 14, 25, 26, 27, 28, 29, 30, 31, 32, 33, 34, 35, 36, 37, 38, 39, 40, 41, 42, 43, 44, 45, 46, 47, 48, 49, 50] (by decide +kernel) (by decide +kernel)
set_option maxRecDepth 20000 in
theorem gX6_addWaggon_X6_many : GoodIn wsX6_addWaggon (wsV RX6 132 RX6 yX6_many wsX6_many) := goodIn_app (goodIn_of _ (by decide +kernel)) ggX6_addWaggon_X6_many
set_option maxRecDepth 20000 in
theorem ggX6_addWaggon_X6_in : GoodIn wsX6_addWaggon wsX6_in := goodIn_r _ [9] (by decide +kernel) (by decide +kernel)
set_option maxRecDepth 20000 in
theorem gX6_addWaggon_X6_in : GoodIn wsX6_addWaggon (va_wsS RX6 78 yX6_in wsX6_in) := goodIn_app (goodIn_of _ (by decide +kernel)) ggX6_addWaggon_X6_in
set_option maxRecDepth 20000 in
theorem ggX6_addWaggon_X6_holds : GoodIn wsX6_addWaggon wsX6_holds := goodIn_r _ [18, 19, 25, 26, 27, 28, 29, 30, 31, 32, 33, 34, 35, 36, 37, 38, 39, 40, 41, 42, 43, 44, 45, 46, 47, 48, 49, 50] (by decide +kernel) (by decide +kernel)
set_option maxRecDepth 20000 in
theorem gX6_addWaggon_X6_holds : GoodIn wsX6_addWaggon (wsV RX6 90 RX6 yX6_holds wsX6_holds) := goodIn_app (goodIn_of _ (by decide +kernel)) ggX6_addWaggon_X6_holds
set_option maxRecDepth 20000 in
theorem ggX6_addWaggon_X6_comes : GoodIn wsX6_addWaggon wsX6_comes := goodIn_r _ [23, 14, 24, 10, 11, 12, 5, 13, 1, 25, 26, 27, 28, 29, 30, 31, 32, 33, 34, 35, 36, 37, 38, 39, 40, 41, 42, 43, 44, 45, 46, 47, 48, 49, 50] (by decide +kernel) (by decide +kernel)
set_option maxRecDepth 20000 in
theorem gX6_addWaggon_X6_comes : GoodIn wsX6_addWaggon (wsV RX6 138 RX6 yX6_comes wsX6_comes) := goodIn_app (goodIn_of _ (by decide +kernel)) ggX6_addWaggon_X6_comes
theorem dX6_addWaggon_0 : decode cX6_addWaggon 0 = .ok (.aload_n 0, 1) := by decide +kernel
theorem dX6_addWaggon_1 : decode cX6_addWaggon 1 = .ok (.getfield 129, 3) := by decide +kernel
theorem dX6_addWaggon_4 : decode cX6_addWaggon 4 = .ok (.bipush 8, 2) := by decide +kernel
theorem dX6_addWaggon_6 : decode cX6_addWaggon 6 = .ok (.if_icmp .eq 19, 3) := by decide +kernel
theorem dX6_addWaggon_9 : decode cX6_addWaggon 9 = .ok (.iload_n 1, 1) := by decide +kernel
theorem dX6_addWaggon_10 : decode cX6_addWaggon 10 = .ok (.invokestatic 135, 3) := by decide +kernel
theorem dX6_addWaggon_13 : decode cX6_addWaggon 13 = .ok (.ifCond .eq 16, 3) := by decide +kernel
theorem dX6_addWaggon_16 : decode cX6_addWaggon 16 = .ok (.aload_n 0, 1) := by decide +kernel
theorem dX6_addWaggon_17 : decode cX6_addWaggon 17 = .ok (.iload_n 1, 1) := by decide +kernel
theorem dX6_addWaggon_18 : decode cX6_addWaggon 18 = .ok (.invokevirtual 132, 3) := by decide +kernel
theorem dX6_addWaggon_21 : decode cX6_addWaggon 21 = .ok (.iconst 4, 1) := by decide +kernel
theorem dX6_addWaggon_22 : decode cX6_addWaggon 22 = .ok (.if_icmp .ne 7, 3) := by decide +kernel
theorem dX6_addWaggon_25 : decode cX6_addWaggon 25 = .ok (.iconst 1, 1) := by decide +kernel
theorem dX6_addWaggon_26 : decode cX6_addWaggon 26 = .ok (.goto 4, 3) := by decide +kernel
theorem dX6_addWaggon_29 : decode cX6_addWaggon 29 = .ok (.iconst 0, 1) := by decide +kernel
theorem dX6_addWaggon_30 : decode cX6_addWaggon 30 = .ok (.istore_n 3, 1) := by decide +kernel
theorem dX6_addWaggon_31 : decode cX6_addWaggon 31 = .ok (.aload_n 0, 1) := by decide +kernel
theorem dX6_addWaggon_32 : decode cX6_addWaggon 32 = .ok (.iload_n 1, 1) := by decide +kernel
theorem dX6_addWaggon_33 : decode cX6_addWaggon 33 = .ok (.invokestatic 135, 3) := by decide +kernel
theorem dX6_addWaggon_36 : decode cX6_addWaggon 36 = .ok (.ifCond .ne 7, 3) := by decide +kernel
theorem dX6_addWaggon_39 : decode cX6_addWaggon 39 = .ok (.iconst 1, 1) := by decide +kernel
theorem dX6_addWaggon_40 : decode cX6_addWaggon 40 = .ok (.goto 26, 3) := by decide +kernel
theorem dX6_addWaggon_43 : decode cX6_addWaggon 43 = .ok (.iload_n 2, 1) := by decide +kernel
theorem dX6_addWaggon_44 : decode cX6_addWaggon 44 = .ok (.iconst 1, 1) := by decide +kernel
theorem dX6_addWaggon_45 : decode cX6_addWaggon 45 = .ok (.bipush 100, 2) := by decide +kernel
theorem dX6_addWaggon_47 : decode cX6_addWaggon 47 = .ok (.invokestatic 78, 3) := by decide +kernel
theorem dX6_addWaggon_50 : decode cX6_addWaggon 50 = .ok (.ifCond .ne 7, 3) := by decide +kernel
theorem dX6_addWaggon_53 : decode cX6_addWaggon 53 = .ok (.iconst 2, 1) := by decide +kernel
theorem dX6_addWaggon_54 : decode cX6_addWaggon 54 = .ok (.goto 12, 3) := by decide +kernel
theorem dX6_addWaggon_57 : decode cX6_addWaggon 57 = .ok (.iload_n 3, 1) := by decide +kernel
theorem dX6_addWaggon_58 : decode cX6_addWaggon 58 = .ok (.ifCond .eq 7, 3) := by decide +kernel
theorem dX6_addWaggon_61 : decode cX6_addWaggon 61 = .ok (.iconst 3, 1) := by decide +kernel
theorem dX6_addWaggon_62 : decode cX6_addWaggon 62 = .ok (.goto 4, 3) := by decide +kernel
theorem dX6_addWaggon_65 : decode cX6_addWaggon 65 = .ok (.iconst 0, 1) := by decide +kernel
theorem dX6_addWaggon_66 : decode cX6_addWaggon 66 = .ok (.invokevirtual 90, 3) := by decide +kernel
theorem dX6_addWaggon_69 : decode cX6_addWaggon 69 = .ok (.ifCond .ne 5, 3) := by decide +kernel
theorem dX6_addWaggon_72 : decode cX6_addWaggon 72 = .ok (.iconst 0, 1) := by decide +kernel
theorem dX6_addWaggon_73 : decode cX6_addWaggon 73 = .ok (.ireturn, 1) := by decide +kernel
theorem dX6_addWaggon_74 : decode cX6_addWaggon 74 = .ok (.aload_n 0, 1) := by decide +kernel
theorem dX6_addWaggon_75 : decode cX6_addWaggon 75 = .ok (.getfield 53, 3) := by decide +kernel
theorem dX6_addWaggon_78 : decode cX6_addWaggon 78 = .ok (.aload_n 0, 1) := by decide +kernel
theorem dX6_addWaggon_79 : decode cX6_addWaggon 79 = .ok (.getfield 129, 3) := by decide +kernel
theorem dX6_addWaggon_82 : decode cX6_addWaggon 82 = .ok (.iload_n 2, 1) := by decide +kernel
theorem dX6_addWaggon_83 : decode cX6_addWaggon 83 = .ok (.iastore, 1) := by decide +kernel
theorem dX6_addWaggon_84 : decode cX6_addWaggon 84 = .ok (.aload_n 0, 1) := by decide +kernel
theorem dX6_addWaggon_85 : decode cX6_addWaggon 85 = .ok (.aload_n 0, 1) := by decide +kernel
theorem dX6_addWaggon_86 : decode cX6_addWaggon 86 = .ok (.getfield 129, 3) := by decide +kernel
theorem dX6_addWaggon_89 : decode cX6_addWaggon 89 = .ok (.iload_n 1, 1) := by decide +kernel
theorem dX6_addWaggon_90 : decode cX6_addWaggon 90 = .ok (.invokevirtual 138, 3) := by decide +kernel
theorem dX6_addWaggon_93 : decode cX6_addWaggon 93 = .ok (.aload_n 0, 1) := by decide +kernel
theorem dX6_addWaggon_94 : decode cX6_addWaggon 94 = .ok (.dup, 1) := by decide +kernel
theorem dX6_addWaggon_95 : decode cX6_addWaggon 95 = .ok (.getfield 129, 3) := by decide +kernel
theorem dX6_addWaggon_98 : decode cX6_addWaggon 98 = .ok (.iconst 1, 1) := by decide +kernel
theorem dX6_addWaggon_99 : decode cX6_addWaggon 99 = .ok (.iadd, 1) := by decide +kernel
theorem dX6_addWaggon_100 : decode cX6_addWaggon 100 = .ok (.putfield 129, 3) := by decide +kernel
theorem dX6_addWaggon_103 : decode cX6_addWaggon 103 = .ok (.aload_n 0, 1) := by decide +kernel
theorem dX6_addWaggon_104 : decode cX6_addWaggon 104 = .ok (.getfield 129, 3) := by decide +kernel
theorem dX6_addWaggon_107 : decode cX6_addWaggon 107 = .ok (.iconst 1, 1) := by decide +kernel
theorem dX6_addWaggon_108 : decode cX6_addWaggon 108 = .ok (.isub, 1) := by decide +kernel
theorem dX6_addWaggon_109 : decode cX6_addWaggon 109 = .ok (.ireturn, 1) := by decide +kernel
set_option maxRecDepth 20000 in
theorem ggX6_offer_X6_in : GoodIn wsX6_offer wsX6_in := goodIn_r _ [8] (by decide +kernel) (by decide +kernel)
set_option maxRecDepth 20000 in
theorem gX6_offer_X6_in : GoodIn wsX6_offer (va_wsS RX6 78 yX6_in wsX6_in) := goodIn_app (goodIn_of _ (by decide +kernel)) ggX6_offer_X6_in
set_option maxRecDepth 20000 in
theorem ggX6_offer_X6_isSiding : GoodIn wsX6_offer wsX6_isSiding := goodIn_r _ [11, 5, 6, 7, 8] (by decide +kernel) (by decide +kernel)
set_option maxRecDepth 20000 in
theorem gX6_offer_X6_isSiding : GoodIn wsX6_offer (va_wsS RX6 135 yX6_isSiding wsX6_isSiding) := goodIn_app (goodIn_of _ (by decide +kernel)) ggX6_offer_X6_isSiding
set_option maxRecDepth 20000 in
theorem ggX6_offer_X6_holds : GoodIn wsX6_offer wsX6_holds := goodIn_r _ [15, 16, 17, 18, 19, 20, 21, 22, 23, 24, 25, 26, 27, 28, 29, 30, 31, 32, 33, 34, 35, 36, 37, 38, 39, 40, 41, 42] (by decide +kernel) (by decide +kernel)
set_option maxRecDepth 20000 in
theorem gX6_offer_X6_holds : GoodIn wsX6_offer (wsV RX6 90 RX6 yX6_holds wsX6_holds) := goodIn_app (goodIn_of _ (by decide +kernel)) ggX6_offer_X6_holds
theorem dX6_offer_0 : decode cX6_offer 0 = .ok (.iload_n 1, 1) := by decide +kernel
theorem dX6_offer_1 : decode cX6_offer 1 = .ok (.iconst 0, 1) := by decide +kernel
theorem dX6_offer_2 : decode cX6_offer 2 = .ok (.aload_n 0, 1) := by decide +kernel
theorem dX6_offer_3 : decode cX6_offer 3 = .ok (.getfield 129, 3) := by decide +kernel
theorem dX6_offer_6 : decode cX6_offer 6 = .ok (.iconst 1, 1) := by decide +kernel
theorem dX6_offer_7 : decode cX6_offer 7 = .ok (.isub, 1) := by decide +kernel
theorem dX6_offer_8 : decode cX6_offer 8 = .ok (.invokestatic 78, 3) := by decide +kernel
theorem dX6_offer_11 : decode cX6_offer 11 = .ok (.ifCond .eq 14, 3) := by decide +kernel
theorem dX6_offer_14 : decode cX6_offer 14 = .ok (.iload_n 2, 1) := by decide +kernel
theorem dX6_offer_15 : decode cX6_offer 15 = .ok (.invokestatic 135, 3) := by decide +kernel
theorem dX6_offer_18 : decode cX6_offer 18 = .ok (.ifCond .eq 7, 3) := by decide +kernel
theorem dX6_offer_21 : decode cX6_offer 21 = .ok (.iconst 1, 1) := by decide +kernel
theorem dX6_offer_22 : decode cX6_offer 22 = .ok (.goto 4, 3) := by decide +kernel
theorem dX6_offer_25 : decode cX6_offer 25 = .ok (.iconst 0, 1) := by decide +kernel
theorem dX6_offer_26 : decode cX6_offer 26 = .ok (.istore 5, 2) := by decide +kernel
theorem dX6_offer_28 : decode cX6_offer 28 = .ok (.aload_n 0, 1) := by decide +kernel
theorem dX6_offer_29 : decode cX6_offer 29 = .ok (.iload 5, 2) := by decide +kernel
theorem dX6_offer_31 : decode cX6_offer 31 = .ok (.ifCond .ne 7, 3) := by decide +kernel
theorem dX6_offer_34 : decode cX6_offer 34 = .ok (.iconst 1, 1) := by decide +kernel
theorem dX6_offer_35 : decode cX6_offer 35 = .ok (.goto 31, 3) := by decide +kernel
theorem dX6_offer_38 : decode cX6_offer 38 = .ok (.iload_n 3, 1) := by decide +kernel
theorem dX6_offer_39 : decode cX6_offer 39 = .ok (.iconst 0, 1) := by decide +kernel
theorem dX6_offer_40 : decode cX6_offer 40 = .ok (.sipush 5000, 3) := by decide +kernel
theorem dX6_offer_43 : decode cX6_offer 43 = .ok (.invokestatic 78, 3) := by decide +kernel
theorem dX6_offer_46 : decode cX6_offer 46 = .ok (.ifCond .eq 19, 3) := by decide +kernel
theorem dX6_offer_49 : decode cX6_offer 49 = .ok (.iload 4, 2) := by decide +kernel
theorem dX6_offer_51 : decode cX6_offer 51 = .ok (.iconst 1, 1) := by decide +kernel
theorem dX6_offer_52 : decode cX6_offer 52 = .ok (.sipush 1000, 3) := by decide +kernel
theorem dX6_offer_55 : decode cX6_offer 55 = .ok (.invokestatic 78, 3) := by decide +kernel
theorem dX6_offer_58 : decode cX6_offer 58 = .ok (.ifCond .eq 7, 3) := by decide +kernel
theorem dX6_offer_61 : decode cX6_offer 61 = .ok (.iconst 0, 1) := by decide +kernel
theorem dX6_offer_62 : decode cX6_offer 62 = .ok (.goto 4, 3) := by decide +kernel
theorem dX6_offer_65 : decode cX6_offer 65 = .ok (.iconst 2, 1) := by decide +kernel
theorem dX6_offer_66 : decode cX6_offer 66 = .ok (.invokevirtual 90, 3) := by decide +kernel
theorem dX6_offer_69 : decode cX6_offer 69 = .ok (.ifCond .eq 25, 3) := by decide +kernel
theorem dX6_offer_72 : decode cX6_offer 72 = .ok (.aload_n 0, 1) := by decide +kernel
theorem dX6_offer_73 : decode cX6_offer 73 = .ok (.getfield 62, 3) := by decide +kernel
theorem dX6_offer_76 : decode cX6_offer 76 = .ok (.iload_n 1, 1) := by decide +kernel
theorem dX6_offer_77 : decode cX6_offer 77 = .ok (.iload_n 2, 1) := by decide +kernel
theorem dX6_offer_78 : decode cX6_offer 78 = .ok (.iastore, 1) := by decide +kernel
theorem dX6_offer_79 : decode cX6_offer 79 = .ok (.aload_n 0, 1) := by decide +kernel
theorem dX6_offer_80 : decode cX6_offer 80 = .ok (.getfield 65, 3) := by decide +kernel
theorem dX6_offer_83 : decode cX6_offer 83 = .ok (.iload_n 1, 1) := by decide +kernel
theorem dX6_offer_84 : decode cX6_offer 84 = .ok (.iload_n 3, 1) := by decide +kernel
theorem dX6_offer_85 : decode cX6_offer 85 = .ok (.iastore, 1) := by decide +kernel
theorem dX6_offer_86 : decode cX6_offer 86 = .ok (.aload_n 0, 1) := by decide +kernel
theorem dX6_offer_87 : decode cX6_offer 87 = .ok (.getfield 68, 3) := by decide +kernel
theorem dX6_offer_90 : decode cX6_offer 90 = .ok (.iload_n 1, 1) := by decide +kernel
theorem dX6_offer_91 : decode cX6_offer 91 = .ok (.iload 4, 2) := by decide +kernel
theorem dX6_offer_93 : decode cX6_offer 93 = .ok (.iastore, 1) := by decide +kernel
theorem dX6_offer_94 : decode cX6_offer 94 = .ok (.return_, 1) := by decide +kernel
theorem dX6_weight_0 : decode cX6_weight 0 = .ok (.iconst 0, 1) := by decide +kernel
theorem dX6_weight_1 : decode cX6_weight 1 = .ok (.istore_n 2, 1) := by decide +kernel
theorem dX6_weight_2 : decode cX6_weight 2 = .ok (.iconst 0, 1) := by decide +kernel
theorem dX6_weight_3 : decode cX6_weight 3 = .ok (.istore_n 3, 1) := by decide +kernel
theorem dX6_weight_4 : decode cX6_weight 4 = .ok (.iload_n 3, 1) := by decide +kernel
theorem dX6_weight_5 : decode cX6_weight 5 = .ok (.aload_n 0, 1) := by decide +kernel
theorem dX6_weight_6 : decode cX6_weight 6 = .ok (.getfield 129, 3) := by decide +kernel
theorem dX6_weight_9 : decode cX6_weight 9 = .ok (.if_icmp .ge 32, 3) := by decide +kernel
theorem dX6_weight_12 : decode cX6_weight 12 = .ok (.iload_n 2, 1) := by decide +kernel
theorem dX6_weight_13 : decode cX6_weight 13 = .ok (.aload_n 0, 1) := by decide +kernel
theorem dX6_weight_14 : decode cX6_weight 14 = .ok (.getfield 56, 3) := by decide +kernel
theorem dX6_weight_17 : decode cX6_weight 17 = .ok (.iload_n 3, 1) := by decide +kernel
theorem dX6_weight_18 : decode cX6_weight 18 = .ok (.iaload, 1) := by decide +kernel
theorem dX6_weight_19 : decode cX6_weight 19 = .ok (.iload_n 1, 1) := by decide +kernel
theorem dX6_weight_20 : decode cX6_weight 20 = .ok (.if_icmp .ne 12, 3) := by decide +kernel
theorem dX6_weight_23 : decode cX6_weight 23 = .ok (.aload_n 0, 1) := by decide +kernel
theorem dX6_weight_24 : decode cX6_weight 24 = .ok (.getfield 53, 3) := by decide +kernel
theorem dX6_weight_27 : decode cX6_weight 27 = .ok (.iload_n 3, 1) := by decide +kernel
theorem dX6_weight_28 : decode cX6_weight 28 = .ok (.iaload, 1) := by decide +kernel
theorem dX6_weight_29 : decode cX6_weight 29 = .ok (.goto 4, 3) := by decide +kernel
theorem dX6_weight_32 : decode cX6_weight 32 = .ok (.iconst 0, 1) := by decide +kernel
theorem dX6_weight_33 : decode cX6_weight 33 = .ok (.iadd, 1) := by decide +kernel
theorem dX6_weight_34 : decode cX6_weight 34 = .ok (.istore_n 2, 1) := by decide +kernel
theorem dX6_weight_35 : decode cX6_weight 35 = .ok (.iinc 3 1, 3) := by decide +kernel
theorem dX6_weight_38 : decode cX6_weight 38 = .ok (.goto (-34), 3) := by decide +kernel
theorem dX6_weight_41 : decode cX6_weight 41 = .ok (.iload_n 2, 1) := by decide +kernel
theorem dX6_weight_42 : decode cX6_weight 42 = .ok (.ireturn, 1) := by decide +kernel
set_option maxRecDepth 20000 in
theorem ggX6_errorOfCouple_X6_isTrain : GoodIn wsX6_errorOfCouple wsX6_isTrain := goodIn_r _ [7, 8, 9, 10, 6, 11, 30, 31, 32, 33, 34, 35, 36, 37, 38, 39, 40, 41, 42, 43, 44, 45, 46, 47, 48, 49, 50, 51, 52, 53, 54, 55] (by decide +kernel) (by decide +kernel)
set_option maxRecDepth 20000 in
theorem gX6_errorOfCouple_X6_isTrain : GoodIn wsX6_errorOfCouple (wsV RX6 93 RX6 yX6_isTrain wsX6_isTrain) := goodIn_app (goodIn_of _ (by decide +kernel)) ggX6_errorOfCouple_X6_isTrain
set_option maxRecDepth 20000 in
theorem ggX6_errorOfCouple_X6_isSiding : GoodIn wsX6_errorOfCouple wsX6_isSiding := goodIn_r _ [14, 9, 10, 6, 11] (by decide +kernel) (by decide +kernel)
set_option maxRecDepth 20000 in
theorem gX6_errorOfCouple_X6_isSiding : GoodIn wsX6_errorOfCouple (va_wsS RX6 135 yX6_isSiding wsX6_isSiding) := goodIn_app (goodIn_of _ (by decide +kernel)) ggX6_errorOfCouple_X6_isSiding
set_option maxRecDepth 20000 in
theorem ggX6_errorOfCouple_X6_many : GoodIn wsX6_errorOfCouple wsX6_many := goodIn_r _ [18, 19, 20, 30, 31, 32, 33, 34, 35, 36, 37, 38, 39, 40, 41, 42, 43, 44, 45, 46, 47, 48, 49, 50, 51, 52, 53, 54, 55] (by decide +kernel) (by decide +kernel)
set_option maxRecDepth 20000 in
theorem gX6_errorOfCouple_X6_many : GoodIn wsX6_errorOfCouple (wsV RX6 132 RX6 yX6_many wsX6_many) := goodIn_app (goodIn_of _ (by decide +kernel)) ggX6_errorOfCouple_X6_many
set_option maxRecDepth 20000 in
theorem ggX6_errorOfCouple_X6_waggon : GoodIn wsX6_errorOfCouple wsX6_waggon := goodIn_r _ [24, 19, 20, 25, 30, 31, 32, 33, 34, 35, 36, 37, 38, 39, 40, 41, 42, 43, 44, 45, 46, 47, 48, 49, 50, 51, 52, 53, 54, 55] (by decide +kernel) (by decide +kernel)
set_option maxRecDepth 20000 in
theorem gX6_errorOfCouple_X6_waggon : GoodIn wsX6_errorOfCouple (wsV RX6 142 RX6 yX6_waggon wsX6_waggon) := goodIn_app (goodIn_of _ (by decide +kernel)) ggX6_errorOfCouple_X6_waggon
set_option maxRecDepth 20000 in
theorem ggX6_errorOfCouple_X6_weight : GoodIn wsX6_errorOfCouple wsX6_weight := goodIn_r _ [29, 19, 20, 2, 30, 31, 32, 33, 34, 35, 36, 37, 38, 39, 40, 41, 42, 43, 44, 45, 46, 47, 48, 49, 50, 51, 52, 53, 54, 55] (by decide +kernel) (by decide +kernel)
set_option maxRecDepth 20000 in
theorem gX6_errorOfCouple_X6_weight : GoodIn wsX6_errorOfCouple (wsV RX6 146 RX6 yX6_weight wsX6_weight) := goodIn_app (goodIn_of _ (by decide +kernel)) ggX6_errorOfCouple_X6_weight
theorem dX6_errorOfCouple_0 : decode cX6_errorOfCouple 0 = .ok (.aload_n 0, 1) := by decide +kernel
theorem dX6_errorOfCouple_1 : decode cX6_errorOfCouple 1 = .ok (.iload_n 1, 1) := by decide +kernel
theorem dX6_errorOfCouple_2 : decode cX6_errorOfCouple 2 = .ok (.invokevirtual 93, 3) := by decide +kernel
theorem dX6_errorOfCouple_5 : decode cX6_errorOfCouple 5 = .ok (.ifCond .ne 5, 3) := by decide +kernel
theorem dX6_errorOfCouple_8 : decode cX6_errorOfCouple 8 = .ok (.iconst 1, 1) := by decide +kernel
theorem dX6_errorOfCouple_9 : decode cX6_errorOfCouple 9 = .ok (.ireturn, 1) := by decide +kernel
theorem dX6_errorOfCouple_10 : decode cX6_errorOfCouple 10 = .ok (.aload_n 0, 1) := by decide +kernel
theorem dX6_errorOfCouple_11 : decode cX6_errorOfCouple 11 = .ok (.getfield 7, 3) := by decide +kernel
theorem dX6_errorOfCouple_14 : decode cX6_errorOfCouple 14 = .ok (.iload_n 1, 1) := by decide +kernel
theorem dX6_errorOfCouple_15 : decode cX6_errorOfCouple 15 = .ok (.iaload, 1) := by decide +kernel
theorem dX6_errorOfCouple_16 : decode cX6_errorOfCouple 16 = .ok (.istore_n 2, 1) := by decide +kernel
theorem dX6_errorOfCouple_17 : decode cX6_errorOfCouple 17 = .ok (.iload_n 2, 1) := by decide +kernel
theorem dX6_errorOfCouple_18 : decode cX6_errorOfCouple 18 = .ok (.invokestatic 135, 3) := by decide +kernel
theorem dX6_errorOfCouple_21 : decode cX6_errorOfCouple 21 = .ok (.ifCond .eq 11, 3) := by decide +kernel
theorem dX6_errorOfCouple_24 : decode cX6_errorOfCouple 24 = .ok (.aload_n 0, 1) := by decide +kernel
theorem dX6_errorOfCouple_25 : decode cX6_errorOfCouple 25 = .ok (.iload_n 2, 1) := by decide +kernel
theorem dX6_errorOfCouple_26 : decode cX6_errorOfCouple 26 = .ok (.invokevirtual 132, 3) := by decide +kernel
theorem dX6_errorOfCouple_29 : decode cX6_errorOfCouple 29 = .ok (.ifCond .ne 5, 3) := by decide +kernel
theorem dX6_errorOfCouple_32 : decode cX6_errorOfCouple 32 = .ok (.iconst 2, 1) := by decide +kernel
theorem dX6_errorOfCouple_33 : decode cX6_errorOfCouple 33 = .ok (.ireturn, 1) := by decide +kernel
theorem dX6_errorOfCouple_34 : decode cX6_errorOfCouple 34 = .ok (.aload_n 0, 1) := by decide +kernel
theorem dX6_errorOfCouple_35 : decode cX6_errorOfCouple 35 = .ok (.iload_n 2, 1) := by decide +kernel
theorem dX6_errorOfCouple_36 : decode cX6_errorOfCouple 36 = .ok (.aload_n 0, 1) := by decide +kernel
theorem dX6_errorOfCouple_37 : decode cX6_errorOfCouple 37 = .ok (.iload_n 2, 1) := by decide +kernel
theorem dX6_errorOfCouple_38 : decode cX6_errorOfCouple 38 = .ok (.invokevirtual 132, 3) := by decide +kernel
theorem dX6_errorOfCouple_41 : decode cX6_errorOfCouple 41 = .ok (.iconst 1, 1) := by decide +kernel
theorem dX6_errorOfCouple_42 : decode cX6_errorOfCouple 42 = .ok (.isub, 1) := by decide +kernel
theorem dX6_errorOfCouple_43 : decode cX6_errorOfCouple 43 = .ok (.invokevirtual 142, 3) := by decide +kernel
theorem dX6_errorOfCouple_46 : decode cX6_errorOfCouple 46 = .ok (.istore_n 3, 1) := by decide +kernel
theorem dX6_errorOfCouple_47 : decode cX6_errorOfCouple 47 = .ok (.aload_n 0, 1) := by decide +kernel
theorem dX6_errorOfCouple_48 : decode cX6_errorOfCouple 48 = .ok (.bipush 10, 2) := by decide +kernel
theorem dX6_errorOfCouple_50 : decode cX6_errorOfCouple 50 = .ok (.iload_n 1, 1) := by decide +kernel
theorem dX6_errorOfCouple_51 : decode cX6_errorOfCouple 51 = .ok (.iadd, 1) := by decide +kernel
theorem dX6_errorOfCouple_52 : decode cX6_errorOfCouple 52 = .ok (.invokevirtual 146, 3) := by decide +kernel
theorem dX6_errorOfCouple_55 : decode cX6_errorOfCouple 55 = .ok (.aload_n 0, 1) := by decide +kernel
theorem dX6_errorOfCouple_56 : decode cX6_errorOfCouple 56 = .ok (.getfield 53, 3) := by decide +kernel
theorem dX6_errorOfCouple_59 : decode cX6_errorOfCouple 59 = .ok (.iload_n 3, 1) := by decide +kernel
theorem dX6_errorOfCouple_60 : decode cX6_errorOfCouple 60 = .ok (.iaload, 1) := by decide +kernel
theorem dX6_errorOfCouple_61 : decode cX6_errorOfCouple 61 = .ok (.iadd, 1) := by decide +kernel
theorem dX6_errorOfCouple_62 : decode cX6_errorOfCouple 62 = .ok (.bipush 100, 2) := by decide +kernel
theorem dX6_errorOfCouple_64 : decode cX6_errorOfCouple 64 = .ok (.if_icmp .le 7, 3) := by decide +kernel
theorem dX6_errorOfCouple_67 : decode cX6_errorOfCouple 67 = .ok (.iconst 2, 1) := by decide +kernel
theorem dX6_errorOfCouple_68 : decode cX6_errorOfCouple 68 = .ok (.goto 4, 3) := by decide +kernel
theorem dX6_errorOfCouple_71 : decode cX6_errorOfCouple 71 = .ok (.iconst 0, 1) := by decide +kernel
theorem dX6_errorOfCouple_72 : decode cX6_errorOfCouple 72 = .ok (.ireturn, 1) := by decide +kernel
set_option maxRecDepth 20000 in
theorem ggX6_couple_X6_errorOfCouple : GoodIn wsX6_couple wsX6_errorOfCouple := goodIn_r _ [6, 1, 7, 8, 9, 10, 5, 11, 12, 13, 14, 15, 16, 17, 18, 19, 20, 21, 22, 23, 24, 25, 26, 27, 28, 29, 30, 31, 32, 33, 43, 44, 45, 46, 47, 48, 49, 50, 51, 52, 53, 54, 55, 56, 57, 58, 59, 60, 61, 62, 63, 64, 65, 66, 67, 68] (by decide +kernel) (by decide +kernel)
set_option maxRecDepth 20000 in
theorem gX6_couple_X6_errorOfCouple : GoodIn wsX6_couple (wsV RX6 149 RX6 yX6_errorOfCouple wsX6_errorOfCouple) := goodIn_app (goodIn_of _ (by decide +kernel)) ggX6_couple_X6_errorOfCouple
set_option maxRecDepth 20000 in
theorem ggX6_couple_X6_holds : GoodIn wsX6_couple wsX6_holds := goodIn_r _ [37, 38, 43, 44, 45, 46, 47, 48, 49, 50, 51, 52, 53, 54, 55, 56, 57, 58, 59, 60, 61, 62, 63, 64, 65, 66, 67, 68] (by decide +kernel) (by decide +kernel)
set_option maxRecDepth 20000 in
theorem gX6_couple_X6_holds : GoodIn wsX6_couple (wsV RX6 90 RX6 yX6_holds wsX6_holds) := goodIn_app (goodIn_of _ (by decide +kernel)) ggX6_couple_X6_holds
set_option maxRecDepth 20000 in
theorem ggX6_couple_X6_many : GoodIn wsX6_couple wsX6_many := goodIn_r _ [22, 23, 24, 43, 44, 45, 46, 47, 48, 49, 50, 51, 52, 53, 54, 55, 56, 57, 58, 59, 60, 61, 62, 63, 64, 65, 66, 67, 68] (by decide +kernel) (by decide +kernel)
set_option maxRecDepth 20000 in
theorem gX6_couple_X6_many : GoodIn wsX6_couple (wsV RX6 132 RX6 yX6_many wsX6_many) := goodIn_app (goodIn_of _ (by decide +kernel)) ggX6_couple_X6_many
set_option maxRecDepth 20000 in
theorem ggX6_couple_X6_waggon : GoodIn wsX6_couple wsX6_waggon := goodIn_r _ [28, 23, 24, 29, 43, 44, 45, 46, 47, 48, 49, 50, 51, 52, 53, 54, 55, 56, 57, 58, 59, 60, 61, 62, 63, 64, 65, 66, 67, 68] (by decide +kernel) (by decide +kernel)
set_option maxRecDepth 20000 in
theorem gX6_couple_X6_waggon : GoodIn wsX6_couple (wsV RX6 142 RX6 yX6_waggon wsX6_waggon) := goodIn_app (goodIn_of _ (by decide +kernel)) ggX6_couple_X6_waggon
set_option maxRecDepth 20000 in
theorem ggX6_couple_X6_comes : GoodIn wsX6_couple wsX6_comes := goodIn_r _ [42, 24, 29, 19, 20, 21, 5, 22, 23, 43, 44, 45, 46, 47, 48, 49, 50, 51, 52, 53, 54, 55, 56, 57, 58, 59, 60, 61, 62, 63, 64, 65, 66, 67, 68] (by decide +kernel) (by decide +kernel)
set_option maxRecDepth 20000 in
theorem gX6_couple_X6_comes : GoodIn wsX6_couple (wsV RX6 138 RX6 yX6_comes wsX6_comes) := goodIn_app (goodIn_of _ (by decide +kernel)) ggX6_couple_X6_comes
theorem dX6_couple_0 : decode cX6_couple 0 = .ok (.aload_n 0, 1) := by decide +kernel
theorem dX6_couple_1 : decode cX6_couple 1 = .ok (.aload_n 0, 1) := by decide +kernel
theorem dX6_couple_2 : decode cX6_couple 2 = .ok (.iload_n 1, 1) := by decide +kernel
theorem dX6_couple_3 : decode cX6_couple 3 = .ok (.invokevirtual 149, 3) := by decide +kernel
theorem dX6_couple_6 : decode cX6_couple 6 = .ok (.invokevirtual 90, 3) := by decide +kernel
theorem dX6_couple_9 : decode cX6_couple 9 = .ok (.ifCond .ne 5, 3) := by decide +kernel
theorem dX6_couple_12 : decode cX6_couple 12 = .ok (.iconst 0, 1) := by decide +kernel
theorem dX6_couple_13 : decode cX6_couple 13 = .ok (.ireturn, 1) := by decide +kernel
theorem dX6_couple_14 : decode cX6_couple 14 = .ok (.aload_n 0, 1) := by decide +kernel
theorem dX6_couple_15 : decode cX6_couple 15 = .ok (.aload_n 0, 1) := by decide +kernel
theorem dX6_couple_16 : decode cX6_couple 16 = .ok (.getfield 7, 3) := by decide +kernel
theorem dX6_couple_19 : decode cX6_couple 19 = .ok (.iload_n 1, 1) := by decide +kernel
theorem dX6_couple_20 : decode cX6_couple 20 = .ok (.iaload, 1) := by decide +kernel
theorem dX6_couple_21 : decode cX6_couple 21 = .ok (.aload_n 0, 1) := by decide +kernel
theorem dX6_couple_22 : decode cX6_couple 22 = .ok (.aload_n 0, 1) := by decide +kernel
theorem dX6_couple_23 : decode cX6_couple 23 = .ok (.getfield 7, 3) := by decide +kernel
theorem dX6_couple_26 : decode cX6_couple 26 = .ok (.iload_n 1, 1) := by decide +kernel
theorem dX6_couple_27 : decode cX6_couple 27 = .ok (.iaload, 1) := by decide +kernel
theorem dX6_couple_28 : decode cX6_couple 28 = .ok (.invokevirtual 132, 3) := by decide +kernel
theorem dX6_couple_31 : decode cX6_couple 31 = .ok (.iconst 1, 1) := by decide +kernel
theorem dX6_couple_32 : decode cX6_couple 32 = .ok (.isub, 1) := by decide +kernel
theorem dX6_couple_33 : decode cX6_couple 33 = .ok (.invokevirtual 142, 3) := by decide +kernel
theorem dX6_couple_36 : decode cX6_couple 36 = .ok (.istore_n 2, 1) := by decide +kernel
theorem dX6_couple_37 : decode cX6_couple 37 = .ok (.aload_n 0, 1) := by decide +kernel
theorem dX6_couple_38 : decode cX6_couple 38 = .ok (.iload_n 2, 1) := by decide +kernel
theorem dX6_couple_39 : decode cX6_couple 39 = .ok (.bipush 10, 2) := by decide +kernel
theorem dX6_couple_41 : decode cX6_couple 41 = .ok (.iload_n 1, 1) := by decide +kernel
theorem dX6_couple_42 : decode cX6_couple 42 = .ok (.iadd, 1) := by decide +kernel
theorem dX6_couple_43 : decode cX6_couple 43 = .ok (.invokevirtual 138, 3) := by decide +kernel
theorem dX6_couple_46 : decode cX6_couple 46 = .ok (.iload_n 2, 1) := by decide +kernel
theorem dX6_couple_47 : decode cX6_couple 47 = .ok (.ireturn, 1) := by decide +kernel
set_option maxRecDepth 20000 in
theorem ggX6_leave_X6_isTrain : GoodIn wsX6_leave wsX6_isTrain := goodIn_r _ [11, 12, 13, 14, 10, 15, 39, 40, 41, 42, 43, 44, 45, 46, 47, 48, 49, 50, 51, 52, 53, 54, 55, 56, 57, 58, 59, 60, 61, 62, 63, 64] (by decide +kernel) (by decide +kernel)
set_option maxRecDepth 20000 in
theorem gX6_leave_X6_isTrain : GoodIn wsX6_leave (wsV RX6 93 RX6 yX6_isTrain wsX6_isTrain) := goodIn_app (goodIn_of _ (by decide +kernel)) ggX6_leave_X6_isTrain
set_option maxRecDepth 20000 in
theorem ggX6_leave_X6_isSiding : GoodIn wsX6_leave wsX6_isSiding := goodIn_r _ [18, 13, 14, 10, 15] (by decide +kernel) (by decide +kernel)
set_option maxRecDepth 20000 in
theorem gX6_leave_X6_isSiding : GoodIn wsX6_leave (va_wsS RX6 135 yX6_isSiding wsX6_isSiding) := goodIn_app (goodIn_of _ (by decide +kernel)) ggX6_leave_X6_isSiding
set_option maxRecDepth 20000 in
theorem ggX6_leave_X6_many : GoodIn wsX6_leave wsX6_many := goodIn_r _ [22, 23, 24, 39, 40, 41, 42, 43, 44, 45, 46, 47, 48, 49, 50, 51, 52, 53, 54, 55, 56, 57, 58, 59, 60, 61, 62, 63, 64] (by decide +kernel) (by decide +kernel)
set_option maxRecDepth 20000 in
theorem gX6_leave_X6_many : GoodIn wsX6_leave (wsV RX6 132 RX6 yX6_many wsX6_many) := goodIn_app (goodIn_of _ (by decide +kernel)) ggX6_leave_X6_many
set_option maxRecDepth 20000 in
theorem ggX6_leave_X6_holds : GoodIn wsX6_leave wsX6_holds := goodIn_r _ [28, 29, 39, 40, 41, 42, 43, 44, 45, 46, 47, 48, 49, 50, 51, 52, 53, 54, 55, 56, 57, 58, 59, 60, 61, 62, 63, 64] (by decide +kernel) (by decide +kernel)
set_option maxRecDepth 20000 in
theorem gX6_leave_X6_holds : GoodIn wsX6_leave (wsV RX6 90 RX6 yX6_holds wsX6_holds) := goodIn_app (goodIn_of _ (by decide +kernel)) ggX6_leave_X6_holds
set_option maxRecDepth 20000 in
theorem ggX6_leave_X6_waggon : GoodIn wsX6_leave wsX6_waggon := goodIn_r _ [33, 23, 24, 34, 39, 40, 41, 42, 43, 44, 45, 46, 47, 48, 49, 50, 51, 52, 53, 54, 55, 56, 57, 58, 59, 60, 61, 62, 63, 64] (by decide +kernel) (by decide +kernel)
set_option maxRecDepth 20000 in
theorem gX6_leave_X6_waggon : GoodIn wsX6_leave (wsV RX6 142 RX6 yX6_waggon wsX6_waggon) := goodIn_app (goodIn_of _ (by decide +kernel)) ggX6_leave_X6_waggon
set_option maxRecDepth 20000 in
theorem ggX6_leave_X6_comes : GoodIn wsX6_leave wsX6_comes := goodIn_r _ [38, 24, 34, 19, 20, 21, 10, 22, 23, 39, 40, 41, 42, 43, 44, 45, 46, 47, 48, 49, 50, 51, 52, 53, 54, 55, 56, 57, 58, 59, 60, 61, 62, 63, 64] (by decide +kernel) (by decide +kernel)
set_option maxRecDepth 20000 in
theorem gX6_leave_X6_comes : GoodIn wsX6_leave (wsV RX6 138 RX6 yX6_comes wsX6_comes) := goodIn_app (goodIn_of _ (by decide +kernel)) ggX6_leave_X6_comes
theorem dX6_leave_0 : decode cX6_leave 0 = .ok (.aload_n 0, 1) := by decide +kernel
theorem dX6_leave_1 : decode cX6_leave 1 = .ok (.iload_n 1, 1) := by decide +kernel
theorem dX6_leave_2 : decode cX6_leave 2 = .ok (.invokevirtual 93, 3) := by decide +kernel
theorem dX6_leave_5 : decode cX6_leave 5 = .ok (.istore_n 2, 1) := by decide +kernel
theorem dX6_leave_6 : decode cX6_leave 6 = .ok (.iload_n 2, 1) := by decide +kernel
theorem dX6_leave_7 : decode cX6_leave 7 = .ok (.ifCond .eq 12, 3) := by decide +kernel
theorem dX6_leave_10 : decode cX6_leave 10 = .ok (.aload_n 0, 1) := by decide +kernel
theorem dX6_leave_11 : decode cX6_leave 11 = .ok (.getfield 7, 3) := by decide +kernel
theorem dX6_leave_14 : decode cX6_leave 14 = .ok (.iload_n 1, 1) := by decide +kernel
theorem dX6_leave_15 : decode cX6_leave 15 = .ok (.iaload, 1) := by decide +kernel
theorem dX6_leave_16 : decode cX6_leave 16 = .ok (.goto 4, 3) := by decide +kernel
theorem dX6_leave_19 : decode cX6_leave 19 = .ok (.iconst (-1), 1) := by decide +kernel
theorem dX6_leave_20 : decode cX6_leave 20 = .ok (.istore_n 3, 1) := by decide +kernel
theorem dX6_leave_21 : decode cX6_leave 21 = .ok (.iload_n 2, 1) := by decide +kernel
theorem dX6_leave_22 : decode cX6_leave 22 = .ok (.ifCond .eq 34, 3) := by decide +kernel
theorem dX6_leave_25 : decode cX6_leave 25 = .ok (.iload_n 3, 1) := by decide +kernel
theorem dX6_leave_26 : decode cX6_leave 26 = .ok (.invokestatic 135, 3) := by decide +kernel
theorem dX6_leave_29 : decode cX6_leave 29 = .ok (.ifCond .eq 27, 3) := by decide +kernel
theorem dX6_leave_32 : decode cX6_leave 32 = .ok (.aload_n 0, 1) := by decide +kernel
theorem dX6_leave_33 : decode cX6_leave 33 = .ok (.bipush 10, 2) := by decide +kernel
theorem dX6_leave_35 : decode cX6_leave 35 = .ok (.iload_n 1, 1) := by decide +kernel
theorem dX6_leave_36 : decode cX6_leave 36 = .ok (.iadd, 1) := by decide +kernel
theorem dX6_leave_37 : decode cX6_leave 37 = .ok (.invokevirtual 132, 3) := by decide +kernel
theorem dX6_leave_40 : decode cX6_leave 40 = .ok (.ifCond .le 16, 3) := by decide +kernel
theorem dX6_leave_43 : decode cX6_leave 43 = .ok (.aload_n 0, 1) := by decide +kernel
theorem dX6_leave_44 : decode cX6_leave 44 = .ok (.iload_n 3, 1) := by decide +kernel
theorem dX6_leave_45 : decode cX6_leave 45 = .ok (.invokevirtual 132, 3) := by decide +kernel
theorem dX6_leave_48 : decode cX6_leave 48 = .ok (.iconst 4, 1) := by decide +kernel
theorem dX6_leave_49 : decode cX6_leave 49 = .ok (.if_icmp .ge 7, 3) := by decide +kernel
theorem dX6_leave_52 : decode cX6_leave 52 = .ok (.iconst 1, 1) := by decide +kernel
theorem dX6_leave_53 : decode cX6_leave 53 = .ok (.goto 4, 3) := by decide +kernel
theorem dX6_leave_56 : decode cX6_leave 56 = .ok (.iconst 0, 1) := by decide +kernel
theorem dX6_leave_57 : decode cX6_leave 57 = .ok (.istore 4, 2) := by decide +kernel
theorem dX6_leave_59 : decode cX6_leave 59 = .ok (.aload_n 0, 1) := by decide +kernel
theorem dX6_leave_60 : decode cX6_leave 60 = .ok (.iload_n 2, 1) := by decide +kernel
theorem dX6_leave_61 : decode cX6_leave 61 = .ok (.ifCond .ne 7, 3) := by decide +kernel
theorem dX6_leave_64 : decode cX6_leave 64 = .ok (.iconst 1, 1) := by decide +kernel
theorem dX6_leave_65 : decode cX6_leave 65 = .ok (.goto 13, 3) := by decide +kernel
theorem dX6_leave_68 : decode cX6_leave 68 = .ok (.iload 4, 2) := by decide +kernel
theorem dX6_leave_70 : decode cX6_leave 70 = .ok (.ifCond .eq 7, 3) := by decide +kernel
theorem dX6_leave_73 : decode cX6_leave 73 = .ok (.iconst 0, 1) := by decide +kernel
theorem dX6_leave_74 : decode cX6_leave 74 = .ok (.goto 4, 3) := by decide +kernel
theorem dX6_leave_77 : decode cX6_leave 77 = .ok (.iconst 2, 1) := by decide +kernel
theorem dX6_leave_78 : decode cX6_leave 78 = .ok (.invokevirtual 90, 3) := by decide +kernel
theorem dX6_leave_81 : decode cX6_leave 81 = .ok (.ifCond .ne 5, 3) := by decide +kernel
theorem dX6_leave_84 : decode cX6_leave 84 = .ok (.iconst 0, 1) := by decide +kernel
theorem dX6_leave_85 : decode cX6_leave 85 = .ok (.ireturn, 1) := by decide +kernel
theorem dX6_leave_86 : decode cX6_leave 86 = .ok (.aload_n 0, 1) := by decide +kernel
theorem dX6_leave_87 : decode cX6_leave 87 = .ok (.bipush 10, 2) := by decide +kernel
theorem dX6_leave_89 : decode cX6_leave 89 = .ok (.iload_n 1, 1) := by decide +kernel
theorem dX6_leave_90 : decode cX6_leave 90 = .ok (.iadd, 1) := by decide +kernel
theorem dX6_leave_91 : decode cX6_leave 91 = .ok (.aload_n 0, 1) := by decide +kernel
theorem dX6_leave_92 : decode cX6_leave 92 = .ok (.bipush 10, 2) := by decide +kernel
theorem dX6_leave_94 : decode cX6_leave 94 = .ok (.iload_n 1, 1) := by decide +kernel
theorem dX6_leave_95 : decode cX6_leave 95 = .ok (.iadd, 1) := by decide +kernel
theorem dX6_leave_96 : decode cX6_leave 96 = .ok (.invokevirtual 132, 3) := by decide +kernel
theorem dX6_leave_99 : decode cX6_leave 99 = .ok (.iconst 1, 1) := by decide +kernel
theorem dX6_leave_100 : decode cX6_leave 100 = .ok (.isub, 1) := by decide +kernel
theorem dX6_leave_101 : decode cX6_leave 101 = .ok (.invokevirtual 142, 3) := by decide +kernel
theorem dX6_leave_104 : decode cX6_leave 104 = .ok (.istore 5, 2) := by decide +kernel
theorem dX6_leave_106 : decode cX6_leave 106 = .ok (.aload_n 0, 1) := by decide +kernel
theorem dX6_leave_107 : decode cX6_leave 107 = .ok (.iload 5, 2) := by decide +kernel
theorem dX6_leave_109 : decode cX6_leave 109 = .ok (.iload_n 3, 1) := by decide +kernel
theorem dX6_leave_110 : decode cX6_leave 110 = .ok (.invokevirtual 138, 3) := by decide +kernel
theorem dX6_leave_113 : decode cX6_leave 113 = .ok (.aload_n 0, 1) := by decide +kernel
theorem dX6_leave_114 : decode cX6_leave 114 = .ok (.getfield 68, 3) := by decide +kernel
theorem dX6_leave_117 : decode cX6_leave 117 = .ok (.iload 5, 2) := by decide +kernel
theorem dX6_leave_119 : decode cX6_leave 119 = .ok (.iaload, 1) := by decide +kernel
theorem dX6_leave_120 : decode cX6_leave 120 = .ok (.ifCond .eq 14, 3) := by decide +kernel
theorem dX6_leave_123 : decode cX6_leave 123 = .ok (.aload_n 0, 1) := by decide +kernel
theorem dX6_leave_124 : decode cX6_leave 124 = .ok (.getfield 62, 3) := by decide +kernel
theorem dX6_leave_127 : decode cX6_leave 127 = .ok (.iload 5, 2) := by decide +kernel
theorem dX6_leave_129 : decode cX6_leave 129 = .ok (.iaload, 1) := by decide +kernel
theorem dX6_leave_130 : decode cX6_leave 130 = .ok (.iload_n 3, 1) := by decide +kernel
theorem dX6_leave_131 : decode cX6_leave 131 = .ok (.if_icmp .eq 5, 3) := by decide +kernel
theorem dX6_leave_134 : decode cX6_leave 134 = .ok (.iconst 0, 1) := by decide +kernel
theorem dX6_leave_135 : decode cX6_leave 135 = .ok (.ireturn, 1) := by decide +kernel
theorem dX6_leave_136 : decode cX6_leave 136 = .ok (.aload_n 0, 1) := by decide +kernel
theorem dX6_leave_137 : decode cX6_leave 137 = .ok (.getfield 113, 3) := by decide +kernel
theorem dX6_leave_140 : decode cX6_leave 140 = .ok (.aload_n 0, 1) := by decide +kernel
theorem dX6_leave_141 : decode cX6_leave 141 = .ok (.getfield 65, 3) := by decide +kernel
theorem dX6_leave_144 : decode cX6_leave 144 = .ok (.iload 5, 2) := by decide +kernel
theorem dX6_leave_146 : decode cX6_leave 146 = .ok (.iaload, 1) := by decide +kernel
theorem dX6_leave_147 : decode cX6_leave 147 = .ok (.if_icmp .le 18, 3) := by decide +kernel
theorem dX6_leave_150 : decode cX6_leave 150 = .ok (.aload_n 0, 1) := by decide +kernel
theorem dX6_leave_151 : decode cX6_leave 151 = .ok (.getfield 113, 3) := by decide +kernel
theorem dX6_leave_154 : decode cX6_leave 154 = .ok (.aload_n 0, 1) := by decide +kernel
theorem dX6_leave_155 : decode cX6_leave 155 = .ok (.getfield 65, 3) := by decide +kernel
theorem dX6_leave_158 : decode cX6_leave 158 = .ok (.iload 5, 2) := by decide +kernel
theorem dX6_leave_160 : decode cX6_leave 160 = .ok (.iaload, 1) := by decide +kernel
theorem dX6_leave_161 : decode cX6_leave 161 = .ok (.isub, 1) := by decide +kernel
theorem dX6_leave_162 : decode cX6_leave 162 = .ok (.goto 4, 3) := by decide +kernel
theorem dX6_leave_165 : decode cX6_leave 165 = .ok (.iconst 0, 1) := by decide +kernel
theorem dX6_leave_166 : decode cX6_leave 166 = .ok (.istore 6, 2) := by decide +kernel
theorem dX6_leave_168 : decode cX6_leave 168 = .ok (.aload_n 0, 1) := by decide +kernel
theorem dX6_leave_169 : decode cX6_leave 169 = .ok (.getfield 68, 3) := by decide +kernel
theorem dX6_leave_172 : decode cX6_leave 172 = .ok (.iload 5, 2) := by decide +kernel
theorem dX6_leave_174 : decode cX6_leave 174 = .ok (.iaload, 1) := by decide +kernel
theorem dX6_leave_175 : decode cX6_leave 175 = .ok (.bipush 10, 2) := by decide +kernel
theorem dX6_leave_177 : decode cX6_leave 177 = .ok (.iload 6, 2) := by decide +kernel
theorem dX6_leave_179 : decode cX6_leave 179 = .ok (.bipush 59, 2) := by decide +kernel
theorem dX6_leave_181 : decode cX6_leave 181 = .ok (.iadd, 1) := by decide +kernel
theorem dX6_leave_182 : decode cX6_leave 182 = .ok (.bipush 60, 2) := by decide +kernel
theorem dX6_leave_184 : decode cX6_leave 184 = .ok (.idiv, 1) := by decide +kernel
theorem dX6_leave_185 : decode cX6_leave 185 = .ok (.imul, 1) := by decide +kernel
theorem dX6_leave_186 : decode cX6_leave 186 = .ok (.isub, 1) := by decide +kernel
theorem dX6_leave_187 : decode cX6_leave 187 = .ok (.istore 7, 2) := by decide +kernel
theorem dX6_leave_189 : decode cX6_leave 189 = .ok (.iload 7, 2) := by decide +kernel
theorem dX6_leave_191 : decode cX6_leave 191 = .ok (.ifCond .ge 7, 3) := by decide +kernel
theorem dX6_leave_194 : decode cX6_leave 194 = .ok (.iconst 0, 1) := by decide +kernel
theorem dX6_leave_195 : decode cX6_leave 195 = .ok (.goto 5, 3) := by decide +kernel
theorem dX6_leave_198 : decode cX6_leave 198 = .ok (.iload 7, 2) := by decide +kernel
theorem dX6_leave_200 : decode cX6_leave 200 = .ok (.istore 7, 2) := by decide +kernel
theorem dX6_leave_202 : decode cX6_leave 202 = .ok (.aload_n 0, 1) := by decide +kernel
theorem dX6_leave_203 : decode cX6_leave 203 = .ok (.getfield 68, 3) := by decide +kernel
theorem dX6_leave_206 : decode cX6_leave 206 = .ok (.iload 5, 2) := by decide +kernel
theorem dX6_leave_208 : decode cX6_leave 208 = .ok (.iconst 0, 1) := by decide +kernel
theorem dX6_leave_209 : decode cX6_leave 209 = .ok (.iastore, 1) := by decide +kernel
theorem dX6_leave_210 : decode cX6_leave 210 = .ok (.aload_n 0, 1) := by decide +kernel
theorem dX6_leave_211 : decode cX6_leave 211 = .ok (.dup, 1) := by decide +kernel
theorem dX6_leave_212 : decode cX6_leave 212 = .ok (.getfield 152, 3) := by decide +kernel
theorem dX6_leave_215 : decode cX6_leave 215 = .ok (.iload 7, 2) := by decide +kernel
theorem dX6_leave_217 : decode cX6_leave 217 = .ok (.iadd, 1) := by decide +kernel
theorem dX6_leave_218 : decode cX6_leave 218 = .ok (.putfield 152, 3) := by decide +kernel
theorem dX6_leave_221 : decode cX6_leave 221 = .ok (.iload 7, 2) := by decide +kernel
theorem dX6_leave_223 : decode cX6_leave 223 = .ok (.ireturn, 1) := by decide +kernel
set_option maxRecDepth 20000 in
theorem ggX6_waggonAt_X6_isSiding : GoodIn wsX6_waggonAt wsX6_isSiding := goodIn_r _ [4, 5, 6, 3, 7] (by decide +kernel) (by decide +kernel)
set_option maxRecDepth 20000 in
theorem gX6_waggonAt_X6_isSiding : GoodIn wsX6_waggonAt (va_wsS RX6 135 yX6_isSiding wsX6_isSiding) := goodIn_app (goodIn_of _ (by decide +kernel)) ggX6_waggonAt_X6_isSiding
set_option maxRecDepth 20000 in
theorem ggX6_waggonAt_X6_isTrain : GoodIn wsX6_waggonAt wsX6_isTrain := goodIn_r _ [11, 12, 5, 6, 3, 7, 29, 30, 31, 32, 33, 34, 35, 36, 37, 38, 39, 40, 41, 42, 43, 44, 45, 46, 47, 48, 49, 50, 51, 52, 53, 54] (by decide +kernel) (by decide +kernel)
set_option maxRecDepth 20000 in
theorem gX6_waggonAt_X6_isTrain : GoodIn wsX6_waggonAt (wsV RX6 93 RX6 yX6_isTrain wsX6_isTrain) := goodIn_app (goodIn_of _ (by decide +kernel)) ggX6_waggonAt_X6_isTrain
set_option maxRecDepth 20000 in
theorem ggX6_waggonAt_X6_holds : GoodIn wsX6_waggonAt wsX6_holds := goodIn_r _ [16, 17, 29, 30, 31, 32, 33, 34, 35, 36, 37, 38, 39, 40, 41, 42, 43, 44, 45, 46, 47, 48, 49, 50, 51, 52, 53, 54] (by decide +kernel) (by decide +kernel)
set_option maxRecDepth 20000 in
theorem gX6_waggonAt_X6_holds : GoodIn wsX6_waggonAt (wsV RX6 90 RX6 yX6_holds wsX6_holds) := goodIn_app (goodIn_of _ (by decide +kernel)) ggX6_waggonAt_X6_holds
set_option maxRecDepth 20000 in
theorem ggX6_waggonAt_X6_many : GoodIn wsX6_waggonAt wsX6_many := goodIn_r _ [21, 22, 23, 29, 30, 31, 32, 33, 34, 35, 36, 37, 38, 39, 40, 41, 42, 43, 44, 45, 46, 47, 48, 49, 50, 51, 52, 53, 54] (by decide +kernel) (by decide +kernel)
set_option maxRecDepth 20000 in
theorem gX6_waggonAt_X6_many : GoodIn wsX6_waggonAt (wsV RX6 132 RX6 yX6_many wsX6_many) := goodIn_app (goodIn_of _ (by decide +kernel)) ggX6_waggonAt_X6_many
set_option maxRecDepth 20000 in
theorem ggX6_waggonAt_X6_waggon : GoodIn wsX6_waggonAt wsX6_waggon := goodIn_r _ [27, 22, 23, 28, 29, 30, 31, 32, 33, 34, 35, 36, 37, 38, 39, 40, 41, 42, 43, 44, 45, 46, 47, 48, 49, 50, 51, 52, 53, 54] (by decide +kernel) (by decide +kernel)
set_option maxRecDepth 20000 in
theorem gX6_waggonAt_X6_waggon : GoodIn wsX6_waggonAt (wsV RX6 142 RX6 yX6_waggon wsX6_waggon) := goodIn_app (goodIn_of _ (by decide +kernel)) ggX6_waggonAt_X6_waggon
theorem dX6_waggonAt_0 : decode cX6_waggonAt 0 = .ok (.iload_n 1, 1) := by decide +kernel
theorem dX6_waggonAt_1 : decode cX6_waggonAt 1 = .ok (.invokestatic 135, 3) := by decide +kernel
theorem dX6_waggonAt_4 : decode cX6_waggonAt 4 = .ok (.ifCond .ne 14, 3) := by decide +kernel
theorem dX6_waggonAt_7 : decode cX6_waggonAt 7 = .ok (.aload_n 0, 1) := by decide +kernel
theorem dX6_waggonAt_8 : decode cX6_waggonAt 8 = .ok (.iload_n 1, 1) := by decide +kernel
theorem dX6_waggonAt_9 : decode cX6_waggonAt 9 = .ok (.bipush 10, 2) := by decide +kernel
theorem dX6_waggonAt_11 : decode cX6_waggonAt 11 = .ok (.isub, 1) := by decide +kernel
theorem dX6_waggonAt_12 : decode cX6_waggonAt 12 = .ok (.invokevirtual 93, 3) := by decide +kernel
theorem dX6_waggonAt_15 : decode cX6_waggonAt 15 = .ok (.ifCond .eq 11, 3) := by decide +kernel
theorem dX6_waggonAt_18 : decode cX6_waggonAt 18 = .ok (.iload_n 2, 1) := by decide +kernel
theorem dX6_waggonAt_19 : decode cX6_waggonAt 19 = .ok (.ifCond .lt 7, 3) := by decide +kernel
theorem dX6_waggonAt_22 : decode cX6_waggonAt 22 = .ok (.iconst 1, 1) := by decide +kernel
theorem dX6_waggonAt_23 : decode cX6_waggonAt 23 = .ok (.goto 4, 3) := by decide +kernel
theorem dX6_waggonAt_26 : decode cX6_waggonAt 26 = .ok (.iconst 0, 1) := by decide +kernel
theorem dX6_waggonAt_27 : decode cX6_waggonAt 27 = .ok (.istore_n 3, 1) := by decide +kernel
theorem dX6_waggonAt_28 : decode cX6_waggonAt 28 = .ok (.aload_n 0, 1) := by decide +kernel
theorem dX6_waggonAt_29 : decode cX6_waggonAt 29 = .ok (.iload_n 3, 1) := by decide +kernel
theorem dX6_waggonAt_30 : decode cX6_waggonAt 30 = .ok (.ifCond .eq 7, 3) := by decide +kernel
theorem dX6_waggonAt_33 : decode cX6_waggonAt 33 = .ok (.iconst 0, 1) := by decide +kernel
theorem dX6_waggonAt_34 : decode cX6_waggonAt 34 = .ok (.goto 4, 3) := by decide +kernel
theorem dX6_waggonAt_37 : decode cX6_waggonAt 37 = .ok (.iconst 1, 1) := by decide +kernel
theorem dX6_waggonAt_38 : decode cX6_waggonAt 38 = .ok (.invokevirtual 90, 3) := by decide +kernel
theorem dX6_waggonAt_41 : decode cX6_waggonAt 41 = .ok (.ifCond .ne 5, 3) := by decide +kernel
theorem dX6_waggonAt_44 : decode cX6_waggonAt 44 = .ok (.iconst 0, 1) := by decide +kernel
theorem dX6_waggonAt_45 : decode cX6_waggonAt 45 = .ok (.ireturn, 1) := by decide +kernel
theorem dX6_waggonAt_46 : decode cX6_waggonAt 46 = .ok (.aload_n 0, 1) := by decide +kernel
theorem dX6_waggonAt_47 : decode cX6_waggonAt 47 = .ok (.iload_n 1, 1) := by decide +kernel
theorem dX6_waggonAt_48 : decode cX6_waggonAt 48 = .ok (.invokevirtual 132, 3) := by decide +kernel
theorem dX6_waggonAt_51 : decode cX6_waggonAt 51 = .ok (.istore 4, 2) := by decide +kernel
theorem dX6_waggonAt_53 : decode cX6_waggonAt 53 = .ok (.iload_n 2, 1) := by decide +kernel
theorem dX6_waggonAt_54 : decode cX6_waggonAt 54 = .ok (.iload 4, 2) := by decide +kernel
theorem dX6_waggonAt_56 : decode cX6_waggonAt 56 = .ok (.if_icmp .lt 7, 3) := by decide +kernel
theorem dX6_waggonAt_59 : decode cX6_waggonAt 59 = .ok (.iconst (-1), 1) := by decide +kernel
theorem dX6_waggonAt_60 : decode cX6_waggonAt 60 = .ok (.goto 25, 3) := by decide +kernel
theorem dX6_waggonAt_63 : decode cX6_waggonAt 63 = .ok (.aload_n 0, 1) := by decide +kernel
theorem dX6_waggonAt_64 : decode cX6_waggonAt 64 = .ok (.iload_n 1, 1) := by decide +kernel
theorem dX6_waggonAt_65 : decode cX6_waggonAt 65 = .ok (.iload_n 1, 1) := by decide +kernel
theorem dX6_waggonAt_66 : decode cX6_waggonAt 66 = .ok (.invokestatic 135, 3) := by decide +kernel
theorem dX6_waggonAt_69 : decode cX6_waggonAt 69 = .ok (.ifCond .eq 12, 3) := by decide +kernel
theorem dX6_waggonAt_72 : decode cX6_waggonAt 72 = .ok (.iload 4, 2) := by decide +kernel
theorem dX6_waggonAt_74 : decode cX6_waggonAt 74 = .ok (.iconst 1, 1) := by decide +kernel
theorem dX6_waggonAt_75 : decode cX6_waggonAt 75 = .ok (.isub, 1) := by decide +kernel
theorem dX6_waggonAt_76 : decode cX6_waggonAt 76 = .ok (.iload_n 2, 1) := by decide +kernel
theorem dX6_waggonAt_77 : decode cX6_waggonAt 77 = .ok (.isub, 1) := by decide +kernel
theorem dX6_waggonAt_78 : decode cX6_waggonAt 78 = .ok (.goto 4, 3) := by decide +kernel
theorem dX6_waggonAt_81 : decode cX6_waggonAt 81 = .ok (.iload_n 2, 1) := by decide +kernel
theorem dX6_waggonAt_82 : decode cX6_waggonAt 82 = .ok (.invokevirtual 142, 3) := by decide +kernel
theorem dX6_waggonAt_85 : decode cX6_waggonAt 85 = .ok (.ireturn, 1) := by decide +kernel
theorem dX6_earned_0 : decode cX6_earned 0 = .ok (.aload_n 0, 1) := by decide +kernel
theorem dX6_earned_1 : decode cX6_earned 1 = .ok (.iconst 0, 1) := by decide +kernel
theorem dX6_earned_2 : decode cX6_earned 2 = .ok (.putfield 71, 3) := by decide +kernel
theorem dX6_earned_5 : decode cX6_earned 5 = .ok (.aload_n 0, 1) := by decide +kernel
theorem dX6_earned_6 : decode cX6_earned 6 = .ok (.getfield 152, 3) := by decide +kernel
theorem dX6_earned_9 : decode cX6_earned 9 = .ok (.ireturn, 1) := by decide +kernel
theorem dJ9_max_7cf53_0 : decode cJ9_max_7cf53 0 = .ok (.iload_n 0, 1) := by decide +kernel
theorem dJ9_max_7cf53_1 : decode cJ9_max_7cf53 1 = .ok (.iload_n 1, 1) := by decide +kernel
theorem dJ9_max_7cf53_2 : decode cJ9_max_7cf53 2 = .ok (.if_icmp .lt 7, 3) := by decide +kernel
theorem dJ9_max_7cf53_5 : decode cJ9_max_7cf53 5 = .ok (.iload_n 0, 1) := by decide +kernel
theorem dJ9_max_7cf53_6 : decode cJ9_max_7cf53 6 = .ok (.goto 4, 3) := by decide +kernel
theorem dJ9_max_7cf53_9 : decode cJ9_max_7cf53 9 = .ok (.iload_n 1, 1) := by decide +kernel
theorem dJ9_max_7cf53_10 : decode cJ9_max_7cf53 10 = .ok (.ireturn, 1) := by decide +kernel
end
section
set_option maxRecDepth 20000 in
theorem ggL_addTrain_X5_addTrain : GoodIn wsL_addTrain wsX5_addTrain := goodIn_ca (goodIn_ca (goodIn_r _ [7, 8, 9, 10, 11, 12, 13, 6, 14, 15, 16, 17, 18, 19, 20, 21, 22, 23, 24, 25, 26, 27, 28, 29, 30, 31, 32, 33, 34, 35, 36, 37, 38, 39, 40, 41] (by decide +kernel) (by decide +kernel)) (goodIn_sub (fun _ h => List.mem_cons_of_mem _ (List.mem_append_left _ (List.mem_append_right _ h))) (by decide +kernel))) (goodIn_sub (fun _ h => List.mem_cons_of_mem _ (List.mem_append_right _ h)) (by decide +kernel))
set_option maxRecDepth 20000 in
theorem gL_addTrain_X5_addTrain : GoodIn wsL_addTrain (wsV RL 7 RX5 yX5_addTrain wsX5_addTrain) := goodIn_app (goodIn_of _ (by decide +kernel)) ggL_addTrain_X5_addTrain
theorem dL_addTrain_0 : decode cL_addTrain 0 = .ok (.aload_n 3, 1) := by decide +kernel
theorem dL_addTrain_1 : decode cL_addTrain 1 = .ok (.iconst 0, 1) := by decide +kernel
theorem dL_addTrain_2 : decode cL_addTrain 2 = .ok (.aload_n 0, 1) := by decide +kernel
theorem dL_addTrain_3 : decode cL_addTrain 3 = .ok (.iload_n 1, 1) := by decide +kernel
theorem dL_addTrain_4 : decode cL_addTrain 4 = .ok (.iload_n 2, 1) := by decide +kernel
theorem dL_addTrain_5 : decode cL_addTrain 5 = .ok (.invokevirtual 7, 3) := by decide +kernel
theorem dL_addTrain_8 : decode cL_addTrain 8 = .ok (.i2l, 1) := by decide +kernel
theorem dL_addTrain_9 : decode cL_addTrain 9 = .ok (.lastore, 1) := by decide +kernel
theorem dL_addTrain_10 : decode cL_addTrain 10 = .ok (.goto 11, 3) := by decide +kernel
theorem dL_addTrain_13 : decode cL_addTrain 13 = .ok (.astore 4, 2) := by decide +kernel
theorem dL_addTrain_15 : decode cL_addTrain 15 = .ok (.iconst 1, 1) := by decide +kernel
theorem dL_addTrain_16 : decode cL_addTrain 16 = .ok (.ireturn, 1) := by decide +kernel
theorem dL_addTrain_17 : decode cL_addTrain 17 = .ok (.astore 4, 2) := by decide +kernel
theorem dL_addTrain_19 : decode cL_addTrain 19 = .ok (.iconst 2, 1) := by decide +kernel
theorem dL_addTrain_20 : decode cL_addTrain 20 = .ok (.ireturn, 1) := by decide +kernel
theorem dL_addTrain_21 : decode cL_addTrain 21 = .ok (.iconst 0, 1) := by decide +kernel
theorem dL_addTrain_22 : decode cL_addTrain 22 = .ok (.ireturn, 1) := by decide +kernel
set_option maxRecDepth 20000 in
theorem ggL_hold_X5_hold : GoodIn wsL_hold wsX5_hold := goodIn_ca (goodIn_r _ [6, 7, 8, 9, 10, 11, 5, 12, 13, 14, 15, 16, 17, 18, 19, 20, 21, 22, 23, 24, 25, 26, 27, 28] (by decide +kernel) (by decide +kernel)) (goodIn_sub (fun _ h => List.mem_cons_of_mem _ (List.mem_append_right _ h)) (by decide +kernel))
set_option maxRecDepth 20000 in
theorem gL_hold_X5_hold : GoodIn wsL_hold (wsV RL 17 RX5 yX5_hold wsX5_hold) := goodIn_app (goodIn_of _ (by decide +kernel)) ggL_hold_X5_hold
theorem dL_hold_0 : decode cL_hold 0 = .ok (.aload_n 3, 1) := by decide +kernel
theorem dL_hold_1 : decode cL_hold 1 = .ok (.iconst 0, 1) := by decide +kernel
theorem dL_hold_2 : decode cL_hold 2 = .ok (.aload_n 0, 1) := by decide +kernel
theorem dL_hold_3 : decode cL_hold 3 = .ok (.iload_n 1, 1) := by decide +kernel
theorem dL_hold_4 : decode cL_hold 4 = .ok (.iload_n 2, 1) := by decide +kernel
theorem dL_hold_5 : decode cL_hold 5 = .ok (.invokevirtual 17, 3) := by decide +kernel
theorem dL_hold_8 : decode cL_hold 8 = .ok (.ifCond .eq 7, 3) := by decide +kernel
theorem dL_hold_11 : decode cL_hold 11 = .ok (.lconst 1, 1) := by decide +kernel
theorem dL_hold_12 : decode cL_hold 12 = .ok (.goto 4, 3) := by decide +kernel
theorem dL_hold_15 : decode cL_hold 15 = .ok (.lconst 0, 1) := by decide +kernel
theorem dL_hold_16 : decode cL_hold 16 = .ok (.lastore, 1) := by decide +kernel
theorem dL_hold_17 : decode cL_hold 17 = .ok (.goto 7, 3) := by decide +kernel
theorem dL_hold_20 : decode cL_hold 20 = .ok (.astore 4, 2) := by decide +kernel
theorem dL_hold_22 : decode cL_hold 22 = .ok (.iconst 1, 1) := by decide +kernel
theorem dL_hold_23 : decode cL_hold 23 = .ok (.ireturn, 1) := by decide +kernel
theorem dL_hold_24 : decode cL_hold 24 = .ok (.iconst 0, 1) := by decide +kernel
theorem dL_hold_25 : decode cL_hold 25 = .ok (.ireturn, 1) := by decide +kernel
set_option maxRecDepth 20000 in
theorem ggL_delay_X5_delay : GoodIn wsL_delay wsX5_delay := goodIn_ca (goodIn_ca (goodIn_r _ [7, 8, 9, 10, 11, 12, 13, 14, 6, 15, 16, 17, 18, 19, 20, 21, 22, 23, 24, 25, 26, 27, 28, 29, 30, 31, 32, 33, 34] (by decide +kernel) (by decide +kernel)) (goodIn_sub (fun _ h => List.mem_cons_of_mem _ (List.mem_append_left _ (List.mem_append_right _ h))) (by decide +kernel))) (goodIn_sub (fun _ h => List.mem_cons_of_mem _ (List.mem_append_right _ h)) (by decide +kernel))
set_option maxRecDepth 20000 in
theorem gL_delay_X5_delay : GoodIn wsL_delay (wsV RL 21 RX5 yX5_delay wsX5_delay) := goodIn_app (goodIn_of _ (by decide +kernel)) ggL_delay_X5_delay
theorem dL_delay_0 : decode cL_delay 0 = .ok (.aload_n 3, 1) := by decide +kernel
theorem dL_delay_1 : decode cL_delay 1 = .ok (.iconst 0, 1) := by decide +kernel
theorem dL_delay_2 : decode cL_delay 2 = .ok (.aload_n 0, 1) := by decide +kernel
theorem dL_delay_3 : decode cL_delay 3 = .ok (.iload_n 1, 1) := by decide +kernel
theorem dL_delay_4 : decode cL_delay 4 = .ok (.iload_n 2, 1) := by decide +kernel
theorem dL_delay_5 : decode cL_delay 5 = .ok (.invokevirtual 21, 3) := by decide +kernel
theorem dL_delay_8 : decode cL_delay 8 = .ok (.i2l, 1) := by decide +kernel
theorem dL_delay_9 : decode cL_delay 9 = .ok (.lastore, 1) := by decide +kernel
theorem dL_delay_10 : decode cL_delay 10 = .ok (.goto 11, 3) := by decide +kernel
theorem dL_delay_13 : decode cL_delay 13 = .ok (.astore 4, 2) := by decide +kernel
theorem dL_delay_15 : decode cL_delay 15 = .ok (.iconst 1, 1) := by decide +kernel
theorem dL_delay_16 : decode cL_delay 16 = .ok (.ireturn, 1) := by decide +kernel
theorem dL_delay_17 : decode cL_delay 17 = .ok (.astore 4, 2) := by decide +kernel
theorem dL_delay_19 : decode cL_delay 19 = .ok (.iconst 2, 1) := by decide +kernel
theorem dL_delay_20 : decode cL_delay 20 = .ok (.ireturn, 1) := by decide +kernel
theorem dL_delay_21 : decode cL_delay 21 = .ok (.iconst 0, 1) := by decide +kernel
theorem dL_delay_22 : decode cL_delay 22 = .ok (.ireturn, 1) := by decide +kernel
set_option maxRecDepth 20000 in
theorem ggL_reverse_X5_reverse : GoodIn wsL_reverse wsX5_reverse := goodIn_ca (goodIn_r _ [6, 7, 8, 9, 10, 5, 11, 12, 13, 14, 15, 16, 17, 18, 19, 20, 21, 22, 23, 24, 25, 26, 27, 28, 29, 30, 31, 32, 33] (by decide +kernel) (by decide +kernel)) (goodIn_sub (fun _ h => List.mem_cons_of_mem _ (List.mem_append_right _ h)) (by decide +kernel))
set_option maxRecDepth 20000 in
theorem gL_reverse_X5_reverse : GoodIn wsL_reverse (wsV RL 27 RX5 yX5_reverse wsX5_reverse) := goodIn_app (goodIn_of _ (by decide +kernel)) ggL_reverse_X5_reverse
theorem dL_reverse_0 : decode cL_reverse 0 = .ok (.aload_n 2, 1) := by decide +kernel
theorem dL_reverse_1 : decode cL_reverse 1 = .ok (.iconst 0, 1) := by decide +kernel
theorem dL_reverse_2 : decode cL_reverse 2 = .ok (.aload_n 0, 1) := by decide +kernel
theorem dL_reverse_3 : decode cL_reverse 3 = .ok (.iload_n 1, 1) := by decide +kernel
theorem dL_reverse_4 : decode cL_reverse 4 = .ok (.invokevirtual 27, 3) := by decide +kernel
theorem dL_reverse_7 : decode cL_reverse 7 = .ok (.ifCond .eq 7, 3) := by decide +kernel
theorem dL_reverse_10 : decode cL_reverse 10 = .ok (.lconst 1, 1) := by decide +kernel
theorem dL_reverse_11 : decode cL_reverse 11 = .ok (.goto 4, 3) := by decide +kernel
theorem dL_reverse_14 : decode cL_reverse 14 = .ok (.lconst 0, 1) := by decide +kernel
theorem dL_reverse_15 : decode cL_reverse 15 = .ok (.lastore, 1) := by decide +kernel
theorem dL_reverse_16 : decode cL_reverse 16 = .ok (.goto 6, 3) := by decide +kernel
theorem dL_reverse_19 : decode cL_reverse 19 = .ok (.astore_n 3, 1) := by decide +kernel
theorem dL_reverse_20 : decode cL_reverse 20 = .ok (.iconst 1, 1) := by decide +kernel
theorem dL_reverse_21 : decode cL_reverse 21 = .ok (.ireturn, 1) := by decide +kernel
theorem dL_reverse_22 : decode cL_reverse 22 = .ok (.iconst 0, 1) := by decide +kernel
theorem dL_reverse_23 : decode cL_reverse 23 = .ok (.ireturn, 1) := by decide +kernel
set_option maxRecDepth 20000 in
theorem ggL_throwSwitch_X5_throwSwitch : GoodIn wsL_throwSwitch wsX5_throwSwitch := goodIn_ca (goodIn_r _ [6, 7, 8, 9, 10, 11, 12, 13, 14, 15, 16, 17, 18, 19, 20, 21, 22, 23, 24] (by decide +kernel) (by decide +kernel)) (goodIn_sub (fun _ h => List.mem_cons_of_mem _ (List.mem_append_right _ h)) (by decide +kernel))
set_option maxRecDepth 20000 in
theorem gL_throwSwitch_X5_throwSwitch : GoodIn wsL_throwSwitch (wsV RL 31 RX5 yX5_throwSwitch wsX5_throwSwitch) := goodIn_app (goodIn_of _ (by decide +kernel)) ggL_throwSwitch_X5_throwSwitch
theorem dL_throwSwitch_0 : decode cL_throwSwitch 0 = .ok (.aload_n 2, 1) := by decide +kernel
theorem dL_throwSwitch_1 : decode cL_throwSwitch 1 = .ok (.iconst 0, 1) := by decide +kernel
theorem dL_throwSwitch_2 : decode cL_throwSwitch 2 = .ok (.aload_n 0, 1) := by decide +kernel
theorem dL_throwSwitch_3 : decode cL_throwSwitch 3 = .ok (.iload_n 1, 1) := by decide +kernel
theorem dL_throwSwitch_4 : decode cL_throwSwitch 4 = .ok (.invokevirtual 31, 3) := by decide +kernel
theorem dL_throwSwitch_7 : decode cL_throwSwitch 7 = .ok (.ifCond .eq 7, 3) := by decide +kernel
theorem dL_throwSwitch_10 : decode cL_throwSwitch 10 = .ok (.lconst 1, 1) := by decide +kernel
theorem dL_throwSwitch_11 : decode cL_throwSwitch 11 = .ok (.goto 4, 3) := by decide +kernel
theorem dL_throwSwitch_14 : decode cL_throwSwitch 14 = .ok (.lconst 0, 1) := by decide +kernel
theorem dL_throwSwitch_15 : decode cL_throwSwitch 15 = .ok (.lastore, 1) := by decide +kernel
theorem dL_throwSwitch_16 : decode cL_throwSwitch 16 = .ok (.goto 6, 3) := by decide +kernel
theorem dL_throwSwitch_19 : decode cL_throwSwitch 19 = .ok (.astore_n 3, 1) := by decide +kernel
theorem dL_throwSwitch_20 : decode cL_throwSwitch 20 = .ok (.iconst 1, 1) := by decide +kernel
theorem dL_throwSwitch_21 : decode cL_throwSwitch 21 = .ok (.ireturn, 1) := by decide +kernel
theorem dL_throwSwitch_22 : decode cL_throwSwitch 22 = .ok (.iconst 0, 1) := by decide +kernel
theorem dL_throwSwitch_23 : decode cL_throwSwitch 23 = .ok (.ireturn, 1) := by decide +kernel
set_option maxRecDepth 20000 in
theorem ggL_block_X5_block : GoodIn wsL_block wsX5_block := goodIn_ca (goodIn_r _ [6, 7, 8, 9, 10, 11, 5, 12, 13, 14, 15, 16, 17, 18, 19, 20, 21, 22, 23, 24, 25, 26, 27, 28] (by decide +kernel) (by decide +kernel)) (goodIn_sub (fun _ h => List.mem_cons_of_mem _ (List.mem_append_right _ h)) (by decide +kernel))
set_option maxRecDepth 20000 in
theorem gL_block_X5_block : GoodIn wsL_block (wsV RL 34 RX5 yX5_block wsX5_block) := goodIn_app (goodIn_of _ (by decide +kernel)) ggL_block_X5_block
theorem dL_block_0 : decode cL_block 0 = .ok (.aload_n 2, 1) := by decide +kernel
theorem dL_block_1 : decode cL_block 1 = .ok (.iconst 0, 1) := by decide +kernel
theorem dL_block_2 : decode cL_block 2 = .ok (.aload_n 0, 1) := by decide +kernel
theorem dL_block_3 : decode cL_block 3 = .ok (.iload_n 1, 1) := by decide +kernel
theorem dL_block_4 : decode cL_block 4 = .ok (.invokevirtual 34, 3) := by decide +kernel
theorem dL_block_7 : decode cL_block 7 = .ok (.i2l, 1) := by decide +kernel
theorem dL_block_8 : decode cL_block 8 = .ok (.lastore, 1) := by decide +kernel
theorem dL_block_9 : decode cL_block 9 = .ok (.goto 6, 3) := by decide +kernel
theorem dL_block_12 : decode cL_block 12 = .ok (.astore_n 3, 1) := by decide +kernel
theorem dL_block_13 : decode cL_block 13 = .ok (.iconst 1, 1) := by decide +kernel
theorem dL_block_14 : decode cL_block 14 = .ok (.ireturn, 1) := by decide +kernel
theorem dL_block_15 : decode cL_block 15 = .ok (.iconst 0, 1) := by decide +kernel
theorem dL_block_16 : decode cL_block 16 = .ok (.ireturn, 1) := by decide +kernel
set_option maxRecDepth 20000 in
theorem ggL_isRight_X5_isRight : GoodIn wsL_isRight wsX5_isRight := goodIn_ca (goodIn_r _ [6, 7, 8, 9, 10, 11, 5, 12, 13, 14, 15, 16, 17, 18, 19, 20, 21, 22, 23, 24, 25, 26, 27, 28] (by decide +kernel) (by decide +kernel)) (goodIn_sub (fun _ h => List.mem_cons_of_mem _ (List.mem_append_right _ h)) (by decide +kernel))
set_option maxRecDepth 20000 in
theorem gL_isRight_X5_isRight : GoodIn wsL_isRight (wsV RL 38 RX5 yX5_isRight wsX5_isRight) := goodIn_app (goodIn_of _ (by decide +kernel)) ggL_isRight_X5_isRight
theorem dL_isRight_0 : decode cL_isRight 0 = .ok (.aload_n 2, 1) := by decide +kernel
theorem dL_isRight_1 : decode cL_isRight 1 = .ok (.iconst 0, 1) := by decide +kernel
theorem dL_isRight_2 : decode cL_isRight 2 = .ok (.aload_n 0, 1) := by decide +kernel
theorem dL_isRight_3 : decode cL_isRight 3 = .ok (.iload_n 1, 1) := by decide +kernel
theorem dL_isRight_4 : decode cL_isRight 4 = .ok (.invokevirtual 38, 3) := by decide +kernel
theorem dL_isRight_7 : decode cL_isRight 7 = .ok (.ifCond .eq 7, 3) := by decide +kernel
theorem dL_isRight_10 : decode cL_isRight 10 = .ok (.lconst 1, 1) := by decide +kernel
theorem dL_isRight_11 : decode cL_isRight 11 = .ok (.goto 4, 3) := by decide +kernel
theorem dL_isRight_14 : decode cL_isRight 14 = .ok (.lconst 0, 1) := by decide +kernel
theorem dL_isRight_15 : decode cL_isRight 15 = .ok (.lastore, 1) := by decide +kernel
theorem dL_isRight_16 : decode cL_isRight 16 = .ok (.goto 6, 3) := by decide +kernel
theorem dL_isRight_19 : decode cL_isRight 19 = .ok (.astore_n 3, 1) := by decide +kernel
theorem dL_isRight_20 : decode cL_isRight 20 = .ok (.iconst 1, 1) := by decide +kernel
theorem dL_isRight_21 : decode cL_isRight 21 = .ok (.ireturn, 1) := by decide +kernel
theorem dL_isRight_22 : decode cL_isRight 22 = .ok (.iconst 0, 1) := by decide +kernel
theorem dL_isRight_23 : decode cL_isRight 23 = .ok (.ireturn, 1) := by decide +kernel
set_option maxRecDepth 20000 in
theorem ggL_trainOn_X5_trainOn : GoodIn wsL_trainOn wsX5_trainOn := goodIn_ca (goodIn_r _ [6, 7, 8, 9, 5, 10, 11, 12, 13, 14, 15, 16, 17, 18, 19, 20, 21, 22, 23, 24, 25, 26, 27, 28, 29, 30, 31, 32] (by decide +kernel) (by decide +kernel)) (goodIn_sub (fun _ h => List.mem_cons_of_mem _ (List.mem_append_right _ h)) (by decide +kernel))
set_option maxRecDepth 20000 in
theorem gL_trainOn_X5_trainOn : GoodIn wsL_trainOn (wsV RL 41 RX5 yX5_trainOn wsX5_trainOn) := goodIn_app (goodIn_of _ (by decide +kernel)) ggL_trainOn_X5_trainOn
theorem dL_trainOn_0 : decode cL_trainOn 0 = .ok (.aload_n 2, 1) := by decide +kernel
theorem dL_trainOn_1 : decode cL_trainOn 1 = .ok (.iconst 0, 1) := by decide +kernel
theorem dL_trainOn_2 : decode cL_trainOn 2 = .ok (.aload_n 0, 1) := by decide +kernel
theorem dL_trainOn_3 : decode cL_trainOn 3 = .ok (.iload_n 1, 1) := by decide +kernel
theorem dL_trainOn_4 : decode cL_trainOn 4 = .ok (.invokevirtual 41, 3) := by decide +kernel
theorem dL_trainOn_7 : decode cL_trainOn 7 = .ok (.i2l, 1) := by decide +kernel
theorem dL_trainOn_8 : decode cL_trainOn 8 = .ok (.lastore, 1) := by decide +kernel
theorem dL_trainOn_9 : decode cL_trainOn 9 = .ok (.goto 6, 3) := by decide +kernel
theorem dL_trainOn_12 : decode cL_trainOn 12 = .ok (.astore_n 3, 1) := by decide +kernel
theorem dL_trainOn_13 : decode cL_trainOn 13 = .ok (.iconst 1, 1) := by decide +kernel
theorem dL_trainOn_14 : decode cL_trainOn 14 = .ok (.ireturn, 1) := by decide +kernel
theorem dL_trainOn_15 : decode cL_trainOn 15 = .ok (.iconst 0, 1) := by decide +kernel
theorem dL_trainOn_16 : decode cL_trainOn 16 = .ok (.ireturn, 1) := by decide +kernel
set_option maxRecDepth 20000 in
theorem ggL_run_X5_run : GoodIn wsL_run wsX5_run := goodIn_ca (goodIn_ca (goodIn_r _ [7, 8, 9, 10, 11, 12, 13, 14, 15, 6, 16, 17, 18, 19, 20, 21, 22, 23, 24, 25, 26, 27, 28, 29, 30, 31, 32, 33, 34, 35, 36, 37, 38, 39, 40, 41, 42, 43, 44, 45, 46, 47, 48, 49, 50, 51, 52, 53, 54, 55, 56, 57, 58, 59, 60, 61, 62, 63, 64, 65, 66, 67, 68, 69, 70, 71, 72, 73, 74, 75, 76, 77, 78, 79, 80, 81, 82, 83, 84, 85, 86, 87, 88, 89, 90, 91, 92, 93, 94] (by decide +kernel) (by decide +kernel)) (goodIn_sub (fun _ h => List.mem_cons_of_mem _ (List.mem_append_left _ (List.mem_append_right _ h))) (by decide +kernel))) (goodIn_sub (fun _ h => List.mem_cons_of_mem _ (List.mem_append_right _ h)) (by decide +kernel))
set_option maxRecDepth 20000 in
theorem gL_run_X5_run : GoodIn wsL_run (wsV RL 44 RX5 yX5_run wsX5_run) := goodIn_app (goodIn_of _ (by decide +kernel)) ggL_run_X5_run
theorem dL_run_0 : decode cL_run 0 = .ok (.aload_n 2, 1) := by decide +kernel
theorem dL_run_1 : decode cL_run 1 = .ok (.iconst 0, 1) := by decide +kernel
theorem dL_run_2 : decode cL_run 2 = .ok (.aload_n 0, 1) := by decide +kernel
theorem dL_run_3 : decode cL_run 3 = .ok (.iload_n 1, 1) := by decide +kernel
theorem dL_run_4 : decode cL_run 4 = .ok (.invokevirtual 44, 3) := by decide +kernel
theorem dL_run_7 : decode cL_run 7 = .ok (.i2l, 1) := by decide +kernel
theorem dL_run_8 : decode cL_run 8 = .ok (.lastore, 1) := by decide +kernel
theorem dL_run_9 : decode cL_run 9 = .ok (.goto 9, 3) := by decide +kernel
theorem dL_run_12 : decode cL_run 12 = .ok (.astore_n 3, 1) := by decide +kernel
theorem dL_run_13 : decode cL_run 13 = .ok (.iconst 1, 1) := by decide +kernel
theorem dL_run_14 : decode cL_run 14 = .ok (.ireturn, 1) := by decide +kernel
theorem dL_run_15 : decode cL_run 15 = .ok (.astore_n 3, 1) := by decide +kernel
theorem dL_run_16 : decode cL_run 16 = .ok (.iconst 2, 1) := by decide +kernel
theorem dL_run_17 : decode cL_run 17 = .ok (.ireturn, 1) := by decide +kernel
theorem dL_run_18 : decode cL_run 18 = .ok (.iconst 0, 1) := by decide +kernel
theorem dL_run_19 : decode cL_run 19 = .ok (.ireturn, 1) := by decide +kernel
set_option maxRecDepth 20000 in
theorem ggL_reaches_X5_reaches : GoodIn wsL_reaches wsX5_reaches := goodIn_ca (goodIn_r _ [6, 7, 8, 9, 10, 11, 12, 13, 14, 15, 5, 16, 17, 18, 19, 20, 21, 22, 23, 24, 25, 26, 27, 28, 29, 30, 31, 32, 33, 34, 35, 36, 37, 38, 39, 40, 41, 42, 43, 44, 45, 46, 47, 48, 49, 50, 51, 52, 53, 54, 55, 56, 57, 58, 59, 60, 61, 62, 63, 64, 65, 66, 67, 68, 69, 70, 71, 72, 73, 74, 75, 76, 77, 78, 79, 80, 81, 82, 83, 84, 85, 86, 87, 88, 89, 90, 91, 92, 93, 94, 95, 96] (by decide +kernel) (by decide +kernel)) (goodIn_sub (fun _ h => List.mem_cons_of_mem _ (List.mem_append_right _ h)) (by decide +kernel))
set_option maxRecDepth 20000 in
theorem gL_reaches_X5_reaches : GoodIn wsL_reaches (wsV RL 47 RX5 yX5_reaches wsX5_reaches) := goodIn_app (goodIn_of _ (by decide +kernel)) ggL_reaches_X5_reaches
theorem dL_reaches_0 : decode cL_reaches 0 = .ok (.aload_n 3, 1) := by decide +kernel
theorem dL_reaches_1 : decode cL_reaches 1 = .ok (.iconst 0, 1) := by decide +kernel
theorem dL_reaches_2 : decode cL_reaches 2 = .ok (.aload_n 0, 1) := by decide +kernel
theorem dL_reaches_3 : decode cL_reaches 3 = .ok (.iload_n 1, 1) := by decide +kernel
theorem dL_reaches_4 : decode cL_reaches 4 = .ok (.iload_n 2, 1) := by decide +kernel
theorem dL_reaches_5 : decode cL_reaches 5 = .ok (.invokevirtual 47, 3) := by decide +kernel
theorem dL_reaches_8 : decode cL_reaches 8 = .ok (.i2l, 1) := by decide +kernel
theorem dL_reaches_9 : decode cL_reaches 9 = .ok (.lastore, 1) := by decide +kernel
theorem dL_reaches_10 : decode cL_reaches 10 = .ok (.goto 7, 3) := by decide +kernel
theorem dL_reaches_13 : decode cL_reaches 13 = .ok (.astore 4, 2) := by decide +kernel
theorem dL_reaches_15 : decode cL_reaches 15 = .ok (.iconst 1, 1) := by decide +kernel
theorem dL_reaches_16 : decode cL_reaches 16 = .ok (.ireturn, 1) := by decide +kernel
theorem dL_reaches_17 : decode cL_reaches 17 = .ok (.iconst 0, 1) := by decide +kernel
theorem dL_reaches_18 : decode cL_reaches 18 = .ok (.ireturn, 1) := by decide +kernel
set_option maxRecDepth 20000 in
theorem ggL_book_X5_book : GoodIn wsL_book wsX5_book := goodIn_ca (goodIn_ca (goodIn_ca (goodIn_r _ [8, 9, 10, 11, 12, 13, 14, 15, 16, 7, 17, 18, 19, 20, 21, 22, 23, 24, 25, 26, 27, 28, 29, 30, 31, 32, 33, 34, 35, 36, 37, 38, 39, 40, 41, 42, 43, 44, 45, 46, 47, 48, 49, 50, 51, 52, 53, 54, 55, 56, 57, 58, 59, 60, 61, 62, 63] (by decide +kernel) (by decide +kernel)) (goodIn_sub (fun _ h => List.mem_cons_of_mem _ (List.mem_append_left _ (List.mem_append_left _ (List.mem_append_right _ h)))) (by decide +kernel))) (goodIn_sub (fun _ h => List.mem_cons_of_mem _ (List.mem_append_left _ (List.mem_append_right _ h))) (by decide +kernel))) (goodIn_sub (fun _ h => List.mem_cons_of_mem _ (List.mem_append_right _ h)) (by decide +kernel))
set_option maxRecDepth 20000 in
theorem gL_book_X5_book : GoodIn wsL_book (wsV RL 50 RX5 yX5_book wsX5_book) := goodIn_app (goodIn_of _ (by decide +kernel)) ggL_book_X5_book
theorem dL_book_0 : decode cL_book 0 = .ok (.aload 5, 2) := by decide +kernel
theorem dL_book_2 : decode cL_book 2 = .ok (.iconst 0, 1) := by decide +kernel
theorem dL_book_3 : decode cL_book 3 = .ok (.aload_n 0, 1) := by decide +kernel
theorem dL_book_4 : decode cL_book 4 = .ok (.iload_n 1, 1) := by decide +kernel
theorem dL_book_5 : decode cL_book 5 = .ok (.iload_n 2, 1) := by decide +kernel
theorem dL_book_6 : decode cL_book 6 = .ok (.iload_n 3, 1) := by decide +kernel
theorem dL_book_7 : decode cL_book 7 = .ok (.iload 4, 2) := by decide +kernel
theorem dL_book_9 : decode cL_book 9 = .ok (.invokevirtual 50, 3) := by decide +kernel
theorem dL_book_12 : decode cL_book 12 = .ok (.i2l, 1) := by decide +kernel
theorem dL_book_13 : decode cL_book 13 = .ok (.lastore, 1) := by decide +kernel
theorem dL_book_14 : decode cL_book 14 = .ok (.goto 15, 3) := by decide +kernel
theorem dL_book_17 : decode cL_book 17 = .ok (.astore 6, 2) := by decide +kernel
theorem dL_book_19 : decode cL_book 19 = .ok (.iconst 1, 1) := by decide +kernel
theorem dL_book_20 : decode cL_book 20 = .ok (.ireturn, 1) := by decide +kernel
theorem dL_book_21 : decode cL_book 21 = .ok (.astore 6, 2) := by decide +kernel
theorem dL_book_23 : decode cL_book 23 = .ok (.iconst 2, 1) := by decide +kernel
theorem dL_book_24 : decode cL_book 24 = .ok (.ireturn, 1) := by decide +kernel
theorem dL_book_25 : decode cL_book 25 = .ok (.astore 6, 2) := by decide +kernel
theorem dL_book_27 : decode cL_book 27 = .ok (.iconst 3, 1) := by decide +kernel
theorem dL_book_28 : decode cL_book 28 = .ok (.ireturn, 1) := by decide +kernel
theorem dL_book_29 : decode cL_book 29 = .ok (.iconst 0, 1) := by decide +kernel
theorem dL_book_30 : decode cL_book 30 = .ok (.ireturn, 1) := by decide +kernel
set_option maxRecDepth 20000 in
theorem ggL_canBook_X5_canBook : GoodIn wsL_canBook wsX5_canBook := goodIn_ca (goodIn_ca (goodIn_r _ [7, 8, 9, 10, 11, 6, 12, 13, 14, 15, 16, 17, 18, 19, 20, 21, 22, 23, 24, 25, 26, 27, 28, 29, 30, 31, 32, 33, 34, 35, 36, 37, 38, 39, 40, 41, 42, 43, 44, 45, 46, 47, 48, 49, 50, 51, 52, 53] (by decide +kernel) (by decide +kernel)) (goodIn_sub (fun _ h => List.mem_cons_of_mem _ (List.mem_append_left _ (List.mem_append_right _ h))) (by decide +kernel))) (goodIn_sub (fun _ h => List.mem_cons_of_mem _ (List.mem_append_right _ h)) (by decide +kernel))
set_option maxRecDepth 20000 in
theorem gL_canBook_X5_canBook : GoodIn wsL_canBook (wsV RL 54 RX5 yX5_canBook wsX5_canBook) := goodIn_app (goodIn_of _ (by decide +kernel)) ggL_canBook_X5_canBook
theorem dL_canBook_0 : decode cL_canBook 0 = .ok (.aload 5, 2) := by decide +kernel
theorem dL_canBook_2 : decode cL_canBook 2 = .ok (.iconst 0, 1) := by decide +kernel
theorem dL_canBook_3 : decode cL_canBook 3 = .ok (.aload_n 0, 1) := by decide +kernel
theorem dL_canBook_4 : decode cL_canBook 4 = .ok (.iload_n 1, 1) := by decide +kernel
theorem dL_canBook_5 : decode cL_canBook 5 = .ok (.iload_n 2, 1) := by decide +kernel
theorem dL_canBook_6 : decode cL_canBook 6 = .ok (.iload_n 3, 1) := by decide +kernel
theorem dL_canBook_7 : decode cL_canBook 7 = .ok (.iload 4, 2) := by decide +kernel
theorem dL_canBook_9 : decode cL_canBook 9 = .ok (.invokevirtual 54, 3) := by decide +kernel
theorem dL_canBook_12 : decode cL_canBook 12 = .ok (.ifCond .eq 7, 3) := by decide +kernel
theorem dL_canBook_15 : decode cL_canBook 15 = .ok (.lconst 1, 1) := by decide +kernel
theorem dL_canBook_16 : decode cL_canBook 16 = .ok (.goto 4, 3) := by decide +kernel
theorem dL_canBook_19 : decode cL_canBook 19 = .ok (.lconst 0, 1) := by decide +kernel
theorem dL_canBook_20 : decode cL_canBook 20 = .ok (.lastore, 1) := by decide +kernel
theorem dL_canBook_21 : decode cL_canBook 21 = .ok (.goto 11, 3) := by decide +kernel
theorem dL_canBook_24 : decode cL_canBook 24 = .ok (.astore 6, 2) := by decide +kernel
theorem dL_canBook_26 : decode cL_canBook 26 = .ok (.iconst 1, 1) := by decide +kernel
theorem dL_canBook_27 : decode cL_canBook 27 = .ok (.ireturn, 1) := by decide +kernel
theorem dL_canBook_28 : decode cL_canBook 28 = .ok (.astore 6, 2) := by decide +kernel
theorem dL_canBook_30 : decode cL_canBook 30 = .ok (.iconst 2, 1) := by decide +kernel
theorem dL_canBook_31 : decode cL_canBook 31 = .ok (.ireturn, 1) := by decide +kernel
theorem dL_canBook_32 : decode cL_canBook 32 = .ok (.iconst 0, 1) := by decide +kernel
theorem dL_canBook_33 : decode cL_canBook 33 = .ok (.ireturn, 1) := by decide +kernel
set_option maxRecDepth 20000 in
theorem ggL_canBookByMinutes_X5_canBookByMinutes : GoodIn wsL_canBookByMinutes wsX5_canBookByMinutes := goodIn_ca (goodIn_ca (goodIn_r _ [7, 8, 9, 10, 11, 6, 12, 13, 14, 15, 16, 17, 18, 19, 20, 21, 22, 23, 24, 25, 26, 27, 28, 29, 30, 31, 32, 33, 34, 35, 36, 37, 38, 39, 40, 41, 42, 43, 44, 45, 46, 47, 48, 49, 50, 51, 52, 53, 54, 55, 56, 57] (by decide +kernel) (by decide +kernel)) (goodIn_sub (fun _ h => List.mem_cons_of_mem _ (List.mem_append_left _ (List.mem_append_right _ h))) (by decide +kernel))) (goodIn_sub (fun _ h => List.mem_cons_of_mem _ (List.mem_append_right _ h)) (by decide +kernel))
set_option maxRecDepth 20000 in
theorem gL_canBookByMinutes_X5_canBookByMinutes : GoodIn wsL_canBookByMinutes (wsV RL 58 RX5 yX5_canBookByMinutes wsX5_canBookByMinutes) := goodIn_app (goodIn_of _ (by decide +kernel)) ggL_canBookByMinutes_X5_canBookByMinutes
theorem dL_canBookByMinutes_0 : decode cL_canBookByMinutes 0 = .ok (.aload 5, 2) := by decide +kernel
theorem dL_canBookByMinutes_2 : decode cL_canBookByMinutes 2 = .ok (.iconst 0, 1) := by decide +kernel
theorem dL_canBookByMinutes_3 : decode cL_canBookByMinutes 3 = .ok (.aload_n 0, 1) := by decide +kernel
theorem dL_canBookByMinutes_4 : decode cL_canBookByMinutes 4 = .ok (.iload_n 1, 1) := by decide +kernel
theorem dL_canBookByMinutes_5 : decode cL_canBookByMinutes 5 = .ok (.iload_n 2, 1) := by decide +kernel
theorem dL_canBookByMinutes_6 : decode cL_canBookByMinutes 6 = .ok (.iload_n 3, 1) := by decide +kernel
theorem dL_canBookByMinutes_7 : decode cL_canBookByMinutes 7 = .ok (.iload 4, 2) := by decide +kernel
theorem dL_canBookByMinutes_9 : decode cL_canBookByMinutes 9 = .ok (.invokevirtual 58, 3) := by decide +kernel
theorem dL_canBookByMinutes_12 : decode cL_canBookByMinutes 12 = .ok (.ifCond .eq 7, 3) := by decide +kernel
theorem dL_canBookByMinutes_15 : decode cL_canBookByMinutes 15 = .ok (.lconst 1, 1) := by decide +kernel
theorem dL_canBookByMinutes_16 : decode cL_canBookByMinutes 16 = .ok (.goto 4, 3) := by decide +kernel
theorem dL_canBookByMinutes_19 : decode cL_canBookByMinutes 19 = .ok (.lconst 0, 1) := by decide +kernel
theorem dL_canBookByMinutes_20 : decode cL_canBookByMinutes 20 = .ok (.lastore, 1) := by decide +kernel
theorem dL_canBookByMinutes_21 : decode cL_canBookByMinutes 21 = .ok (.goto 11, 3) := by decide +kernel
theorem dL_canBookByMinutes_24 : decode cL_canBookByMinutes 24 = .ok (.astore 6, 2) := by decide +kernel
theorem dL_canBookByMinutes_26 : decode cL_canBookByMinutes 26 = .ok (.iconst 1, 1) := by decide +kernel
theorem dL_canBookByMinutes_27 : decode cL_canBookByMinutes 27 = .ok (.ireturn, 1) := by decide +kernel
theorem dL_canBookByMinutes_28 : decode cL_canBookByMinutes 28 = .ok (.astore 6, 2) := by decide +kernel
theorem dL_canBookByMinutes_30 : decode cL_canBookByMinutes 30 = .ok (.iconst 2, 1) := by decide +kernel
theorem dL_canBookByMinutes_31 : decode cL_canBookByMinutes 31 = .ok (.ireturn, 1) := by decide +kernel
theorem dL_canBookByMinutes_32 : decode cL_canBookByMinutes 32 = .ok (.iconst 0, 1) := by decide +kernel
theorem dL_canBookByMinutes_33 : decode cL_canBookByMinutes 33 = .ok (.ireturn, 1) := by decide +kernel
set_option maxRecDepth 20000 in
theorem ggL_booking_X5_booking : GoodIn wsL_booking wsX5_booking := goodIn_ca (goodIn_r _ [6, 7, 8, 9, 10, 11, 12, 13, 5, 14, 15, 16, 17, 18, 19, 20, 21, 22, 23, 24, 25, 26, 27, 28, 29, 30, 31] (by decide +kernel) (by decide +kernel)) (goodIn_sub (fun _ h => List.mem_cons_of_mem _ (List.mem_append_right _ h)) (by decide +kernel))
set_option maxRecDepth 20000 in
theorem gL_booking_X5_booking : GoodIn wsL_booking (wsV RL 61 RX5 yX5_booking wsX5_booking) := goodIn_app (goodIn_of _ (by decide +kernel)) ggL_booking_X5_booking
theorem dL_booking_0 : decode cL_booking 0 = .ok (.aload_n 2, 1) := by decide +kernel
theorem dL_booking_1 : decode cL_booking 1 = .ok (.iconst 0, 1) := by decide +kernel
theorem dL_booking_2 : decode cL_booking 2 = .ok (.aload_n 0, 1) := by decide +kernel
theorem dL_booking_3 : decode cL_booking 3 = .ok (.iload_n 1, 1) := by decide +kernel
theorem dL_booking_4 : decode cL_booking 4 = .ok (.invokevirtual 61, 3) := by decide +kernel
theorem dL_booking_7 : decode cL_booking 7 = .ok (.i2l, 1) := by decide +kernel
theorem dL_booking_8 : decode cL_booking 8 = .ok (.lastore, 1) := by decide +kernel
theorem dL_booking_9 : decode cL_booking 9 = .ok (.goto 6, 3) := by decide +kernel
theorem dL_booking_12 : decode cL_booking 12 = .ok (.astore_n 3, 1) := by decide +kernel
theorem dL_booking_13 : decode cL_booking 13 = .ok (.iconst 1, 1) := by decide +kernel
theorem dL_booking_14 : decode cL_booking 14 = .ok (.ireturn, 1) := by decide +kernel
theorem dL_booking_15 : decode cL_booking 15 = .ok (.iconst 0, 1) := by decide +kernel
theorem dL_booking_16 : decode cL_booking 16 = .ok (.ireturn, 1) := by decide +kernel
set_option maxRecDepth 20000 in
theorem ggL_late_X5_late : GoodIn wsL_late wsX5_late := goodIn_ca (goodIn_r _ [6, 7, 8, 9, 10, 11, 5, 12, 13, 14, 15, 16, 17, 18, 19, 20, 21, 22, 23, 24, 25, 26, 27, 28, 29] (by decide +kernel) (by decide +kernel)) (goodIn_sub (fun _ h => List.mem_cons_of_mem _ (List.mem_append_right _ h)) (by decide +kernel))
set_option maxRecDepth 20000 in
theorem gL_late_X5_late : GoodIn wsL_late (wsV RL 64 RX5 yX5_late wsX5_late) := goodIn_app (goodIn_of _ (by decide +kernel)) ggL_late_X5_late
theorem dL_late_0 : decode cL_late 0 = .ok (.aload_n 2, 1) := by decide +kernel
theorem dL_late_1 : decode cL_late 1 = .ok (.iconst 0, 1) := by decide +kernel
theorem dL_late_2 : decode cL_late 2 = .ok (.aload_n 0, 1) := by decide +kernel
theorem dL_late_3 : decode cL_late 3 = .ok (.iload_n 1, 1) := by decide +kernel
theorem dL_late_4 : decode cL_late 4 = .ok (.invokevirtual 64, 3) := by decide +kernel
theorem dL_late_7 : decode cL_late 7 = .ok (.i2l, 1) := by decide +kernel
theorem dL_late_8 : decode cL_late 8 = .ok (.lastore, 1) := by decide +kernel
theorem dL_late_9 : decode cL_late 9 = .ok (.goto 6, 3) := by decide +kernel
theorem dL_late_12 : decode cL_late 12 = .ok (.astore_n 3, 1) := by decide +kernel
theorem dL_late_13 : decode cL_late 13 = .ok (.iconst 1, 1) := by decide +kernel
theorem dL_late_14 : decode cL_late 14 = .ok (.ireturn, 1) := by decide +kernel
theorem dL_late_15 : decode cL_late 15 = .ok (.iconst 0, 1) := by decide +kernel
theorem dL_late_16 : decode cL_late 16 = .ok (.ireturn, 1) := by decide +kernel
set_option maxRecDepth 20000 in
theorem ggL_addWaggon_X5_addWaggon : GoodIn wsL_addWaggon wsX5_addWaggon := goodIn_ca (goodIn_ca (goodIn_ca (goodIn_r _ [8, 9, 10, 11, 12, 13, 14, 15, 16, 7, 17, 18, 19, 20, 21, 22, 23, 24, 25, 26, 27, 28, 29, 30, 31, 32, 33, 34, 35, 36, 37, 38, 39, 40, 41, 42, 43, 44, 45, 46, 47, 48, 49, 50, 51, 52, 53, 54, 55] (by decide +kernel) (by decide +kernel)) (goodIn_sub (fun _ h => List.mem_cons_of_mem _ (List.mem_append_left _ (List.mem_append_left _ (List.mem_append_right _ h)))) (by decide +kernel))) (goodIn_sub (fun _ h => List.mem_cons_of_mem _ (List.mem_append_left _ (List.mem_append_right _ h))) (by decide +kernel))) (goodIn_sub (fun _ h => List.mem_cons_of_mem _ (List.mem_append_right _ h)) (by decide +kernel))
set_option maxRecDepth 20000 in
theorem gL_addWaggon_X5_addWaggon : GoodIn wsL_addWaggon (wsV RL 67 RX5 yX5_addWaggon wsX5_addWaggon) := goodIn_app (goodIn_of _ (by decide +kernel)) ggL_addWaggon_X5_addWaggon
theorem dL_addWaggon_0 : decode cL_addWaggon 0 = .ok (.aload_n 3, 1) := by decide +kernel
theorem dL_addWaggon_1 : decode cL_addWaggon 1 = .ok (.iconst 0, 1) := by decide +kernel
theorem dL_addWaggon_2 : decode cL_addWaggon 2 = .ok (.aload_n 0, 1) := by decide +kernel
theorem dL_addWaggon_3 : decode cL_addWaggon 3 = .ok (.iload_n 1, 1) := by decide +kernel
theorem dL_addWaggon_4 : decode cL_addWaggon 4 = .ok (.iload_n 2, 1) := by decide +kernel
theorem dL_addWaggon_5 : decode cL_addWaggon 5 = .ok (.invokevirtual 67, 3) := by decide +kernel
theorem dL_addWaggon_8 : decode cL_addWaggon 8 = .ok (.i2l, 1) := by decide +kernel
theorem dL_addWaggon_9 : decode cL_addWaggon 9 = .ok (.lastore, 1) := by decide +kernel
theorem dL_addWaggon_10 : decode cL_addWaggon 10 = .ok (.goto 15, 3) := by decide +kernel
theorem dL_addWaggon_13 : decode cL_addWaggon 13 = .ok (.astore 4, 2) := by decide +kernel
theorem dL_addWaggon_15 : decode cL_addWaggon 15 = .ok (.iconst 1, 1) := by decide +kernel
theorem dL_addWaggon_16 : decode cL_addWaggon 16 = .ok (.ireturn, 1) := by decide +kernel
theorem dL_addWaggon_17 : decode cL_addWaggon 17 = .ok (.astore 4, 2) := by decide +kernel
theorem dL_addWaggon_19 : decode cL_addWaggon 19 = .ok (.iconst 2, 1) := by decide +kernel
theorem dL_addWaggon_20 : decode cL_addWaggon 20 = .ok (.ireturn, 1) := by decide +kernel
theorem dL_addWaggon_21 : decode cL_addWaggon 21 = .ok (.astore 4, 2) := by decide +kernel
theorem dL_addWaggon_23 : decode cL_addWaggon 23 = .ok (.iconst 3, 1) := by decide +kernel
theorem dL_addWaggon_24 : decode cL_addWaggon 24 = .ok (.ireturn, 1) := by decide +kernel
theorem dL_addWaggon_25 : decode cL_addWaggon 25 = .ok (.iconst 0, 1) := by decide +kernel
theorem dL_addWaggon_26 : decode cL_addWaggon 26 = .ok (.ireturn, 1) := by decide +kernel
set_option maxRecDepth 20000 in
theorem ggL_offer_X5_offer : GoodIn wsL_offer wsX5_offer := goodIn_ca (goodIn_ca (goodIn_r _ [7, 8, 9, 10, 11, 12, 13, 14, 15, 16, 6, 17, 18, 19, 20, 21, 22, 23, 24, 25, 26, 27, 28, 29, 30, 31, 32, 33, 34, 35, 36, 37, 38, 39, 40, 41, 42, 43] (by decide +kernel) (by decide +kernel)) (goodIn_sub (fun _ h => List.mem_cons_of_mem _ (List.mem_append_left _ (List.mem_append_right _ h))) (by decide +kernel))) (goodIn_sub (fun _ h => List.mem_cons_of_mem _ (List.mem_append_right _ h)) (by decide +kernel))
set_option maxRecDepth 20000 in
theorem gL_offer_X5_offer : GoodIn wsL_offer (wsV RL 70 RX5 yX5_offer wsX5_offer) := goodIn_app (goodIn_of _ (by decide +kernel)) ggL_offer_X5_offer
theorem dL_offer_0 : decode cL_offer 0 = .ok (.aload_n 0, 1) := by decide +kernel
theorem dL_offer_1 : decode cL_offer 1 = .ok (.iload_n 1, 1) := by decide +kernel
theorem dL_offer_2 : decode cL_offer 2 = .ok (.iload_n 2, 1) := by decide +kernel
theorem dL_offer_3 : decode cL_offer 3 = .ok (.iload_n 3, 1) := by decide +kernel
theorem dL_offer_4 : decode cL_offer 4 = .ok (.iload 4, 2) := by decide +kernel
theorem dL_offer_6 : decode cL_offer 6 = .ok (.invokevirtual 70, 3) := by decide +kernel
theorem dL_offer_9 : decode cL_offer 9 = .ok (.goto 11, 3) := by decide +kernel
theorem dL_offer_12 : decode cL_offer 12 = .ok (.astore 5, 2) := by decide +kernel
theorem dL_offer_14 : decode cL_offer 14 = .ok (.iconst 1, 1) := by decide +kernel
theorem dL_offer_15 : decode cL_offer 15 = .ok (.ireturn, 1) := by decide +kernel
theorem dL_offer_16 : decode cL_offer 16 = .ok (.astore 5, 2) := by decide +kernel
theorem dL_offer_18 : decode cL_offer 18 = .ok (.iconst 2, 1) := by decide +kernel
theorem dL_offer_19 : decode cL_offer 19 = .ok (.ireturn, 1) := by decide +kernel
theorem dL_offer_20 : decode cL_offer 20 = .ok (.iconst 0, 1) := by decide +kernel
theorem dL_offer_21 : decode cL_offer 21 = .ok (.ireturn, 1) := by decide +kernel
set_option maxRecDepth 20000 in
theorem ggL_couple_X5_couple : GoodIn wsL_couple wsX5_couple := goodIn_ca (goodIn_ca (goodIn_r _ [7, 8, 9, 10, 11, 12, 13, 14, 6, 15, 16, 17, 18, 19, 20, 21, 22, 23, 24, 25, 26, 27, 28, 29, 30, 31, 32, 33, 34, 35, 36, 37, 38, 39, 40, 41, 42, 43, 44, 45, 46, 47, 48, 49, 50, 51, 52, 53, 54, 55, 56, 57, 58, 59, 60, 61, 62, 63, 64, 65, 66, 67, 68, 69, 70, 71, 72, 73, 74, 75] (by decide +kernel) (by decide +kernel)) (goodIn_sub (fun _ h => List.mem_cons_of_mem _ (List.mem_append_left _ (List.mem_append_right _ h))) (by decide +kernel))) (goodIn_sub (fun _ h => List.mem_cons_of_mem _ (List.mem_append_right _ h)) (by decide +kernel))
set_option maxRecDepth 20000 in
theorem gL_couple_X5_couple : GoodIn wsL_couple (wsV RL 74 RX5 yX5_couple wsX5_couple) := goodIn_app (goodIn_of _ (by decide +kernel)) ggL_couple_X5_couple
theorem dL_couple_0 : decode cL_couple 0 = .ok (.aload_n 2, 1) := by decide +kernel
theorem dL_couple_1 : decode cL_couple 1 = .ok (.iconst 0, 1) := by decide +kernel
theorem dL_couple_2 : decode cL_couple 2 = .ok (.aload_n 0, 1) := by decide +kernel
theorem dL_couple_3 : decode cL_couple 3 = .ok (.iload_n 1, 1) := by decide +kernel
theorem dL_couple_4 : decode cL_couple 4 = .ok (.invokevirtual 74, 3) := by decide +kernel
theorem dL_couple_7 : decode cL_couple 7 = .ok (.i2l, 1) := by decide +kernel
theorem dL_couple_8 : decode cL_couple 8 = .ok (.lastore, 1) := by decide +kernel
theorem dL_couple_9 : decode cL_couple 9 = .ok (.goto 9, 3) := by decide +kernel
theorem dL_couple_12 : decode cL_couple 12 = .ok (.astore_n 3, 1) := by decide +kernel
theorem dL_couple_13 : decode cL_couple 13 = .ok (.iconst 1, 1) := by decide +kernel
theorem dL_couple_14 : decode cL_couple 14 = .ok (.ireturn, 1) := by decide +kernel
theorem dL_couple_15 : decode cL_couple 15 = .ok (.astore_n 3, 1) := by decide +kernel
theorem dL_couple_16 : decode cL_couple 16 = .ok (.iconst 2, 1) := by decide +kernel
theorem dL_couple_17 : decode cL_couple 17 = .ok (.ireturn, 1) := by decide +kernel
theorem dL_couple_18 : decode cL_couple 18 = .ok (.iconst 0, 1) := by decide +kernel
theorem dL_couple_19 : decode cL_couple 19 = .ok (.ireturn, 1) := by decide +kernel
set_option maxRecDepth 20000 in
theorem ggL_leave_X5_leave : GoodIn wsL_leave wsX5_leave := goodIn_ca (goodIn_ca (goodIn_r _ [7, 8, 9, 10, 11, 12, 13, 14, 15, 16, 6, 17, 18, 19, 20, 21, 22, 23, 24, 25, 26, 27, 28, 29, 30, 31, 32, 33, 34, 35, 36, 37, 38, 39, 40, 41, 42, 43, 44, 45, 46, 47, 48, 49, 50, 51, 52, 53, 54, 55, 56, 57, 58, 59, 60, 61, 62, 63, 64, 65, 66, 67, 68, 69, 70, 71, 72, 73, 74, 75, 76, 77, 78, 79, 80, 81, 82, 83, 84, 85, 86, 87, 88, 89, 90, 91, 92, 93, 94, 95] (by decide +kernel) (by decide +kernel)) (goodIn_sub (fun _ h => List.mem_cons_of_mem _ (List.mem_append_left _ (List.mem_append_right _ h))) (by decide +kernel))) (goodIn_sub (fun _ h => List.mem_cons_of_mem _ (List.mem_append_right _ h)) (by decide +kernel))
set_option maxRecDepth 20000 in
theorem gL_leave_X5_leave : GoodIn wsL_leave (wsV RL 77 RX5 yX5_leave wsX5_leave) := goodIn_app (goodIn_of _ (by decide +kernel)) ggL_leave_X5_leave
theorem dL_leave_0 : decode cL_leave 0 = .ok (.aload_n 2, 1) := by decide +kernel
theorem dL_leave_1 : decode cL_leave 1 = .ok (.iconst 0, 1) := by decide +kernel
theorem dL_leave_2 : decode cL_leave 2 = .ok (.aload_n 0, 1) := by decide +kernel
theorem dL_leave_3 : decode cL_leave 3 = .ok (.iload_n 1, 1) := by decide +kernel
theorem dL_leave_4 : decode cL_leave 4 = .ok (.invokevirtual 77, 3) := by decide +kernel
theorem dL_leave_7 : decode cL_leave 7 = .ok (.i2l, 1) := by decide +kernel
theorem dL_leave_8 : decode cL_leave 8 = .ok (.lastore, 1) := by decide +kernel
theorem dL_leave_9 : decode cL_leave 9 = .ok (.goto 9, 3) := by decide +kernel
theorem dL_leave_12 : decode cL_leave 12 = .ok (.astore_n 3, 1) := by decide +kernel
theorem dL_leave_13 : decode cL_leave 13 = .ok (.iconst 1, 1) := by decide +kernel
theorem dL_leave_14 : decode cL_leave 14 = .ok (.ireturn, 1) := by decide +kernel
theorem dL_leave_15 : decode cL_leave 15 = .ok (.astore_n 3, 1) := by decide +kernel
theorem dL_leave_16 : decode cL_leave 16 = .ok (.iconst 2, 1) := by decide +kernel
theorem dL_leave_17 : decode cL_leave 17 = .ok (.ireturn, 1) := by decide +kernel
theorem dL_leave_18 : decode cL_leave 18 = .ok (.iconst 0, 1) := by decide +kernel
theorem dL_leave_19 : decode cL_leave 19 = .ok (.ireturn, 1) := by decide +kernel
set_option maxRecDepth 20000 in
theorem ggL_waggonAt_X5_waggonAt : GoodIn wsL_waggonAt wsX5_waggonAt := goodIn_ca (goodIn_r _ [6, 7, 8, 9, 10, 11, 12, 13, 5, 14, 15, 16, 17, 18, 19, 20, 21, 22, 23, 24, 25, 26, 27, 28, 29, 30, 31, 32, 33, 34, 35, 36, 37, 38, 39, 40, 41, 42, 43, 44, 45, 46, 47, 48] (by decide +kernel) (by decide +kernel)) (goodIn_sub (fun _ h => List.mem_cons_of_mem _ (List.mem_append_right _ h)) (by decide +kernel))
set_option maxRecDepth 20000 in
theorem gL_waggonAt_X5_waggonAt : GoodIn wsL_waggonAt (wsV RL 80 RX5 yX5_waggonAt wsX5_waggonAt) := goodIn_app (goodIn_of _ (by decide +kernel)) ggL_waggonAt_X5_waggonAt
theorem dL_waggonAt_0 : decode cL_waggonAt 0 = .ok (.aload_n 3, 1) := by decide +kernel
theorem dL_waggonAt_1 : decode cL_waggonAt 1 = .ok (.iconst 0, 1) := by decide +kernel
theorem dL_waggonAt_2 : decode cL_waggonAt 2 = .ok (.aload_n 0, 1) := by decide +kernel
theorem dL_waggonAt_3 : decode cL_waggonAt 3 = .ok (.iload_n 1, 1) := by decide +kernel
theorem dL_waggonAt_4 : decode cL_waggonAt 4 = .ok (.iload_n 2, 1) := by decide +kernel
theorem dL_waggonAt_5 : decode cL_waggonAt 5 = .ok (.invokevirtual 80, 3) := by decide +kernel
theorem dL_waggonAt_8 : decode cL_waggonAt 8 = .ok (.i2l, 1) := by decide +kernel
theorem dL_waggonAt_9 : decode cL_waggonAt 9 = .ok (.lastore, 1) := by decide +kernel
theorem dL_waggonAt_10 : decode cL_waggonAt 10 = .ok (.goto 7, 3) := by decide +kernel
theorem dL_waggonAt_13 : decode cL_waggonAt 13 = .ok (.astore 4, 2) := by decide +kernel
theorem dL_waggonAt_15 : decode cL_waggonAt 15 = .ok (.iconst 1, 1) := by decide +kernel
theorem dL_waggonAt_16 : decode cL_waggonAt 16 = .ok (.ireturn, 1) := by decide +kernel
theorem dL_waggonAt_17 : decode cL_waggonAt 17 = .ok (.iconst 0, 1) := by decide +kernel
theorem dL_waggonAt_18 : decode cL_waggonAt 18 = .ok (.ireturn, 1) := by decide +kernel
end
section
set_option maxRecDepth 20000 in
theorem ggL_law_X5_init : GoodIn wsL_law wsX5_init := goodIn_r _ [9, 10, 11, 12, 13, 14, 15, 16, 17, 18, 19, 20, 21, 22, 23, 24, 25, 26, 27, 28, 29, 30, 31, 32, 33, 34, 35, 36, 37, 38, 39, 40, 41, 42, 43, 44, 45, 46, 47, 48, 49, 50, 51, 52, 53, 54, 55, 56, 57, 58, 59, 60, 61, 62, 63, 64, 65, 66, 616, 582, 583, 584, 585, 586, 587, 588, 589, 617, 618, 619, 620, 621, 622, 623, 624, 625, 626, 627, 628, 629, 630, 631, 632, 633, 634] (by decide +kernel) (by decide +kernel)
set_option maxRecDepth 20000 in
theorem gL_law_X5_init : GoodIn wsL_law (wsX5_init) := ggL_law_X5_init
set_option maxRecDepth 20000 in
theorem ggL_law_X6_init : GoodIn wsL_law wsX6_init := goodIn_r _ [69, 70, 11, 12, 42, 71, 37, 72, 73, 74, 75, 76, 77, 78, 79, 80, 81, 82, 83, 84, 85, 86, 87, 88, 89, 90, 590, 591, 592, 593, 594, 595, 596, 597, 598, 599, 600, 601, 602, 603, 604, 605, 606, 607, 608, 609, 610, 611, 612, 613, 614, 615] (by decide +kernel) (by decide +kernel)
set_option maxRecDepth 20000 in
theorem gL_law_X6_init : GoodIn wsL_law (wsX6_init) := ggL_law_X6_init
set_option maxRecDepth 20000 in
theorem ggL_law_L_addTrain : GoodIn wsL_law wsL_addTrain := goodIn_ca (goodIn_ca (goodIn_r _ [94, 95, 96, 97, 98, 99, 2, 100, 101, 102, 20, 103, 104, 105, 106, 107, 108, 109, 110, 111, 19, 112, 113, 43, 114, 115, 116, 117, 44, 582, 583, 584, 585, 586, 587, 588, 589, 617, 618, 619, 620, 621] (by decide +kernel) (by decide +kernel)) (goodIn_sub (fun _ h => List.mem_append_left _ (List.mem_append_left _ (List.mem_append_right _ h))) (by decide +kernel))) (goodIn_sub (fun _ h => List.mem_append_left _ (List.mem_append_right _ h)) (by decide +kernel))
set_option maxRecDepth 20000 in
theorem gL_law_L_addTrain : GoodIn wsL_law (va_wsS RL 87 yL_addTrain wsL_addTrain) := goodIn_app (goodIn_of _ (by decide +kernel)) ggL_law_L_addTrain
set_option maxRecDepth 20000 in
theorem ggL_law_X6_addTrain : GoodIn wsL_law wsX6_addTrain := goodIn_r _ [121, 122, 71, 72, 123, 124, 5, 125, 126, 127, 128, 129, 130, 131, 132, 133, 134, 135, 136, 137, 590, 591, 592, 593, 594, 595, 596, 597, 598, 599, 600, 601, 602, 603, 604, 605, 606, 607, 608, 609, 610, 611, 612, 613, 614, 615] (by decide +kernel) (by decide +kernel)
set_option maxRecDepth 20000 in
theorem gL_law_X6_addTrain : GoodIn wsL_law (wsV RL 92 RX6 yX6_addTrain wsX6_addTrain) := goodIn_app (goodIn_of _ (by decide +kernel)) ggL_law_X6_addTrain
set_option maxRecDepth 20000 in
theorem ggL_law_X6_thrown : GoodIn wsL_law wsX6_thrown := goodIn_r _ [141, 137, 590, 591, 592, 593, 594, 595, 596, 597, 598, 599, 600, 601, 602, 603, 604, 605, 606, 607, 608, 609, 610, 611, 612, 613, 614, 615] (by decide +kernel) (by decide +kernel)
set_option maxRecDepth 20000 in
theorem gL_law_X6_thrown : GoodIn wsL_law (wsV RL 93 RX6 yX6_thrown wsX6_thrown) := goodIn_app (goodIn_of _ (by decide +kernel)) ggL_law_X6_thrown
set_option maxRecDepth 20000 in
theorem ggL_law_L_hold : GoodIn wsL_law wsL_hold := goodIn_ca (goodIn_r _ [144, 95, 145, 146, 147, 2, 148, 20, 149, 150, 151, 152, 153, 107, 108, 103, 582, 583, 584, 585, 586, 587, 588, 589, 617, 618, 619, 620, 621] (by decide +kernel) (by decide +kernel)) (goodIn_sub (fun _ h => List.mem_append_left _ (List.mem_append_right _ h)) (by decide +kernel))
set_option maxRecDepth 20000 in
theorem gL_law_L_hold : GoodIn wsL_law (va_wsS RL 97 yL_hold wsL_hold) := goodIn_app (goodIn_of _ (by decide +kernel)) ggL_law_L_hold
set_option maxRecDepth 20000 in
theorem ggL_law_X6_hold : GoodIn wsL_law wsX6_hold := goodIn_r _ [157, 73, 158, 159, 160, 5, 161, 122, 126, 127, 128, 133, 134, 135, 136, 137, 590, 591, 592, 593, 594, 595, 596, 597, 598, 599, 600, 601, 602, 603, 604, 605, 606, 607, 608, 609, 610, 611, 612, 613, 614, 615] (by decide +kernel) (by decide +kernel)
set_option maxRecDepth 20000 in
theorem gL_law_X6_hold : GoodIn wsL_law (wsV RL 99 RX6 yX6_hold wsX6_hold) := goodIn_app (goodIn_of _ (by decide +kernel)) ggL_law_X6_hold
set_option maxRecDepth 20000 in
theorem ggL_law_L_delay : GoodIn wsL_law wsL_delay := goodIn_ca (goodIn_ca (goodIn_r _ [164, 95, 165, 166, 167, 168, 2, 169, 170, 171, 20, 172, 150, 151, 152, 153, 107, 108, 103, 173, 174, 175, 582, 583, 584, 585, 586, 587, 588, 589, 617, 618, 619, 620, 621] (by decide +kernel) (by decide +kernel)) (goodIn_sub (fun _ h => List.mem_append_right _ h) (by decide +kernel))) (goodIn_sub (fun _ h => List.mem_append_left _ (List.mem_append_right _ h)) (by decide +kernel))
set_option maxRecDepth 20000 in
theorem gL_law_L_delay : GoodIn wsL_law (va_wsS RL 100 yL_delay wsL_delay) := goodIn_app (goodIn_of _ (by decide +kernel)) ggL_law_L_delay
set_option maxRecDepth 20000 in
theorem ggL_law_X6_delay : GoodIn wsL_law wsX6_delay := goodIn_r _ [179, 74, 158, 159, 160, 5, 161, 122, 126, 127, 128, 133, 134, 135, 136, 137, 590, 591, 592, 593, 594, 595, 596, 597, 598, 599, 600, 601, 602, 603, 604, 605, 606, 607, 608, 609, 610, 611, 612, 613, 614, 615] (by decide +kernel) (by decide +kernel)
set_option maxRecDepth 20000 in
theorem gL_law_X6_delay : GoodIn wsL_law (wsV RL 103 RX6 yX6_delay wsX6_delay) := goodIn_app (goodIn_of _ (by decide +kernel)) ggL_law_X6_delay
set_option maxRecDepth 20000 in
theorem ggL_law_L_reverse : GoodIn wsL_law wsL_reverse := goodIn_ca (goodIn_r _ [182, 95, 183, 184, 185, 2, 186, 20, 150, 151, 152, 153, 107, 108, 103, 187, 188, 189, 19, 190, 44, 582, 583, 584, 585, 586, 587, 588, 589, 617, 618, 619, 620, 621] (by decide +kernel) (by decide +kernel)) (goodIn_sub (fun _ h => List.mem_append_left _ (List.mem_append_right _ h)) (by decide +kernel))
set_option maxRecDepth 20000 in
theorem gL_law_L_reverse : GoodIn wsL_law (va_wsS RL 104 yL_reverse wsL_reverse) := goodIn_app (goodIn_of _ (by decide +kernel)) ggL_law_L_reverse
set_option maxRecDepth 20000 in
theorem ggL_law_X6_reverse : GoodIn wsL_law wsX6_reverse := goodIn_r _ [194, 72, 158, 159, 160, 5, 161, 122, 126, 127, 128, 133, 134, 135, 136, 137, 590, 591, 592, 593, 594, 595, 596, 597, 598, 599, 600, 601, 602, 603, 604, 605, 606, 607, 608, 609, 610, 611, 612, 613, 614, 615] (by decide +kernel) (by decide +kernel)
set_option maxRecDepth 20000 in
theorem gL_law_X6_reverse : GoodIn wsL_law (wsV RL 107 RX6 yX6_reverse wsX6_reverse) := goodIn_app (goodIn_of _ (by decide +kernel)) ggL_law_X6_reverse
set_option maxRecDepth 20000 in
theorem ggL_law_L_throwSwitch : GoodIn wsL_law wsL_throwSwitch := goodIn_ca (goodIn_r _ [197, 95, 198, 199, 200, 2, 201, 107, 108, 16, 202, 203, 204, 15, 205, 38, 582, 583, 584, 585, 586, 587, 588, 589, 616] (by decide +kernel) (by decide +kernel)) (goodIn_sub (fun _ h => List.mem_append_left _ (List.mem_append_right _ h)) (by decide +kernel))
set_option maxRecDepth 20000 in
theorem gL_law_L_throwSwitch : GoodIn wsL_law (va_wsS RL 108 yL_throwSwitch wsL_throwSwitch) := goodIn_app (goodIn_of _ (by decide +kernel)) ggL_law_L_throwSwitch
set_option maxRecDepth 20000 in
theorem ggL_law_X6_throwSwitch : GoodIn wsL_law wsX6_throwSwitch := goodIn_r _ [209, 75, 126, 127, 5, 128, 133, 134, 135, 136, 137, 590, 591, 592, 593, 594, 595, 596, 597, 598, 599, 600, 601, 602, 603, 604, 605, 606, 607, 608, 609, 610, 611, 612, 613, 614, 615] (by decide +kernel) (by decide +kernel)
set_option maxRecDepth 20000 in
theorem gL_law_X6_throwSwitch : GoodIn wsL_law (wsV RL 110 RX6 yX6_throwSwitch wsX6_throwSwitch) := goodIn_app (goodIn_of _ (by decide +kernel)) ggL_law_X6_throwSwitch
set_option maxRecDepth 20000 in
theorem ggL_law_L_block : GoodIn wsL_law wsL_block := goodIn_ca (goodIn_r _ [212, 95, 213, 214, 215, 2, 216, 20, 217, 150, 151, 152, 153, 107, 108, 103, 582, 583, 584, 585, 586, 587, 588, 589, 617, 618, 619, 620, 621] (by decide +kernel) (by decide +kernel)) (goodIn_sub (fun _ h => List.mem_append_left _ (List.mem_append_right _ h)) (by decide +kernel))
set_option maxRecDepth 20000 in
theorem gL_law_L_block : GoodIn wsL_law (va_wsS RL 111 yL_block wsL_block) := goodIn_app (goodIn_of _ (by decide +kernel)) ggL_law_L_block
set_option maxRecDepth 20000 in
theorem ggL_law_X6_block : GoodIn wsL_law wsX6_block := goodIn_r _ [221, 71, 158, 159, 160, 5, 161, 122, 126, 127, 128, 133, 134, 135, 136, 137, 590, 591, 592, 593, 594, 595, 596, 597, 598, 599, 600, 601, 602, 603, 604, 605, 606, 607, 608, 609, 610, 611, 612, 613, 614, 615] (by decide +kernel) (by decide +kernel)
set_option maxRecDepth 20000 in
theorem gL_law_X6_block : GoodIn wsL_law (wsV RL 113 RX6 yX6_block wsX6_block) := goodIn_app (goodIn_of _ (by decide +kernel)) ggL_law_X6_block
set_option maxRecDepth 20000 in
theorem ggL_law_L_isRight : GoodIn wsL_law wsL_isRight := goodIn_ca (goodIn_r _ [224, 95, 225, 226, 227, 2, 228, 20, 229, 150, 151, 152, 153, 107, 108, 103, 582, 583, 584, 585, 586, 587, 588, 589, 617, 618, 619, 620, 621] (by decide +kernel) (by decide +kernel)) (goodIn_sub (fun _ h => List.mem_append_left _ (List.mem_append_right _ h)) (by decide +kernel))
set_option maxRecDepth 20000 in
theorem gL_law_L_isRight : GoodIn wsL_law (va_wsS RL 114 yL_isRight wsL_isRight) := goodIn_app (goodIn_of _ (by decide +kernel)) ggL_law_L_isRight
set_option maxRecDepth 20000 in
theorem ggL_law_X6_isRight : GoodIn wsL_law wsX6_isRight := goodIn_r _ [233, 72, 158, 159, 160, 5, 161, 122, 126, 127, 128, 133, 134, 135, 136, 137, 590, 591, 592, 593, 594, 595, 596, 597, 598, 599, 600, 601, 602, 603, 604, 605, 606, 607, 608, 609, 610, 611, 612, 613, 614, 615] (by decide +kernel) (by decide +kernel)
set_option maxRecDepth 20000 in
theorem gL_law_X6_isRight : GoodIn wsL_law (wsV RL 116 RX6 yX6_isRight wsX6_isRight) := goodIn_app (goodIn_of _ (by decide +kernel)) ggL_law_X6_isRight
set_option maxRecDepth 20000 in
theorem ggL_law_L_trainOn : GoodIn wsL_law wsL_trainOn := goodIn_ca (goodIn_r _ [236, 95, 237, 238, 239, 2, 240, 20, 104, 105, 106, 107, 108, 109, 110, 111, 19, 112, 113, 43, 582, 583, 584, 585, 586, 587, 588, 589, 617, 618, 619, 620, 621] (by decide +kernel) (by decide +kernel)) (goodIn_sub (fun _ h => List.mem_append_left _ (List.mem_append_right _ h)) (by decide +kernel))
set_option maxRecDepth 20000 in
theorem gL_law_L_trainOn : GoodIn wsL_law (va_wsS RL 117 yL_trainOn wsL_trainOn) := goodIn_app (goodIn_of _ (by decide +kernel)) ggL_law_L_trainOn
set_option maxRecDepth 20000 in
theorem ggL_law_X6_trainOn : GoodIn wsL_law wsX6_trainOn := goodIn_r _ [244, 123, 124, 5, 125, 126, 127, 128, 133, 134, 135, 136, 137, 129, 130, 131, 132, 122, 71, 590, 591, 592, 593, 594, 595, 596, 597, 598, 599, 600, 601, 602, 603, 604, 605, 606, 607, 608, 609, 610, 611, 612, 613, 614, 615] (by decide +kernel) (by decide +kernel)
set_option maxRecDepth 20000 in
theorem gL_law_X6_trainOn : GoodIn wsL_law (wsV RL 119 RX6 yX6_trainOn wsX6_trainOn) := goodIn_app (goodIn_of _ (by decide +kernel)) ggL_law_X6_trainOn
set_option maxRecDepth 20000 in
theorem ggL_law_L_run : GoodIn wsL_law wsL_run := goodIn_ca (goodIn_ca (goodIn_r _ [247, 165, 96, 248, 249, 250, 2, 251, 101, 102, 252, 20, 16, 25, 173, 174, 175, 170, 171, 253, 254, 255, 19, 256, 113, 257, 258, 259, 260, 46, 45, 43, 44, 261, 262, 263, 15, 264, 265, 266, 267, 268, 38, 269, 270, 271, 272, 273, 188, 189, 190, 274, 110, 111, 112, 275, 276, 277, 24, 278, 279, 51, 50, 280, 281, 282, 283, 52, 53, 284, 285, 286, 287, 54, 288, 582, 583, 584, 585, 586, 587, 588, 589, 617, 618, 619, 620, 621, 616, 622, 623, 624, 625, 626, 627] (by decide +kernel) (by decide +kernel)) (goodIn_sub (fun _ h => List.mem_append_left _ (List.mem_append_left _ (List.mem_append_right _ h))) (by decide +kernel))) (goodIn_sub (fun _ h => List.mem_append_right _ h) (by decide +kernel))
set_option maxRecDepth 20000 in
theorem gL_law_L_run : GoodIn wsL_law (va_wsS RL 120 yL_run wsL_run) := goodIn_app (goodIn_of _ (by decide +kernel)) ggL_law_L_run
set_option maxRecDepth 20000 in
theorem ggL_law_X6_run : GoodIn wsL_law wsX6_run := goodIn_r _ [292, 293, 126, 127, 5, 128, 133, 134, 135, 136, 137, 294, 295, 296, 297, 122, 71, 76, 72, 77, 74, 78, 298, 83, 81, 82, 79, 80, 84, 299, 300, 301, 302, 303, 304, 305, 306, 73, 307, 308, 309, 310, 75, 311, 312, 313, 314, 315, 316, 317, 318, 590, 591, 592, 593, 594, 595, 596, 597, 598, 599, 600, 601, 602, 603, 604, 605, 606, 607, 608, 609, 610, 611, 612, 613, 614, 615] (by decide +kernel) (by decide +kernel)
set_option maxRecDepth 20000 in
theorem gL_law_X6_run : GoodIn wsL_law (wsV RL 122 RX6 yX6_run wsX6_run) := goodIn_app (goodIn_of _ (by decide +kernel)) ggL_law_X6_run
set_option maxRecDepth 20000 in
theorem ggL_law_X5_clock : GoodIn wsL_law wsX5_clock := goodIn_r _ [322, 252, 582, 583, 584, 585, 586, 587, 588, 589] (by decide +kernel) (by decide +kernel)
set_option maxRecDepth 20000 in
theorem gL_law_X5_clock : GoodIn wsL_law (wsV RL 123 RX5 yX5_clock wsX5_clock) := goodIn_app (goodIn_of _ (by decide +kernel)) ggL_law_X5_clock
set_option maxRecDepth 20000 in
theorem ggL_law_X6_clock : GoodIn wsL_law wsX6_clock := goodIn_r _ [326, 137, 293, 590, 591, 592, 593, 594, 595, 596, 597, 598, 599, 600, 601, 602, 603, 604, 605, 606, 607, 608, 609, 610, 611, 612, 613, 614, 615] (by decide +kernel) (by decide +kernel)
set_option maxRecDepth 20000 in
theorem gL_law_X6_clock : GoodIn wsL_law (wsV RL 126 RX6 yX6_clock wsX6_clock) := goodIn_app (goodIn_of _ (by decide +kernel)) ggL_law_X6_clock
set_option maxRecDepth 20000 in
theorem ggL_law_L_reaches : GoodIn wsL_law wsL_reaches := goodIn_ca (goodIn_r _ [329, 95, 330, 331, 332, 2, 333, 20, 217, 21, 16, 25, 252, 150, 151, 152, 153, 107, 108, 103, 104, 105, 106, 334, 335, 336, 19, 337, 113, 43, 44, 45, 46, 253, 254, 255, 256, 257, 258, 259, 260, 261, 262, 263, 15, 264, 265, 266, 267, 268, 38, 269, 270, 271, 272, 273, 188, 189, 190, 274, 110, 111, 112, 275, 276, 277, 24, 278, 279, 51, 50, 280, 281, 282, 283, 52, 53, 582, 583, 584, 585, 586, 587, 588, 589, 617, 618, 619, 620, 621, 616, 622, 623, 624, 625, 626, 627] (by decide +kernel) (by decide +kernel)) (goodIn_sub (fun _ h => List.mem_append_left _ (List.mem_append_right _ h)) (by decide +kernel))
set_option maxRecDepth 20000 in
theorem gL_law_L_reaches : GoodIn wsL_law (va_wsS RL 127 yL_reaches wsL_reaches) := goodIn_app (goodIn_of _ (by decide +kernel)) ggL_law_L_reaches
set_option maxRecDepth 20000 in
theorem ggL_law_X6_reaches : GoodIn wsL_law wsX6_reaches := goodIn_r _ [341, 76, 293, 158, 159, 160, 5, 161, 122, 126, 127, 128, 123, 124, 125, 133, 134, 135, 136, 137, 299, 300, 301, 302, 71, 77, 72, 78, 74, 303, 304, 305, 306, 73, 307, 308, 309, 310, 75, 311, 312, 313, 314, 315, 316, 317, 318, 298, 80, 79, 81, 82, 590, 591, 592, 593, 594, 595, 596, 597, 598, 599, 600, 601, 602, 603, 604, 605, 606, 607, 608, 609, 610, 611, 612, 613, 614, 615] (by decide +kernel) (by decide +kernel)
set_option maxRecDepth 20000 in
theorem gL_law_X6_reaches : GoodIn wsL_law (wsV RL 129 RX6 yX6_reaches wsX6_reaches) := goodIn_app (goodIn_of _ (by decide +kernel)) ggL_law_X6_reaches
set_option maxRecDepth 20000 in
theorem ggL_law_L_book : GoodIn wsL_law wsL_book := goodIn_ca (goodIn_ca (goodIn_ca (goodIn_r _ [344, 95, 165, 96, 345, 346, 347, 2, 348, 101, 102, 252, 25, 349, 150, 151, 152, 153, 107, 108, 20, 103, 104, 105, 106, 350, 351, 352, 170, 171, 353, 354, 355, 24, 356, 279, 51, 50, 52, 53, 357, 358, 359, 360, 54, 582, 583, 584, 585, 586, 587, 588, 589, 622, 623, 624, 625, 626, 627, 617, 618, 619, 620, 621] (by decide +kernel) (by decide +kernel)) (goodIn_sub (fun _ h => List.mem_append_left _ (List.mem_append_left _ (List.mem_append_right _ h))) (by decide +kernel))) (goodIn_sub (fun _ h => List.mem_append_left _ (List.mem_append_right _ h)) (by decide +kernel))) (goodIn_sub (fun _ h => List.mem_append_right _ h) (by decide +kernel))
set_option maxRecDepth 20000 in
theorem gL_law_L_book : GoodIn wsL_law (va_wsS RL 130 yL_book wsL_book) := goodIn_app (goodIn_of _ (by decide +kernel)) ggL_law_L_book
set_option maxRecDepth 20000 in
theorem ggL_law_X6_book : GoodIn wsL_law wsX6_book := goodIn_r _ [364, 293, 298, 79, 80, 81, 82, 158, 159, 160, 5, 161, 122, 126, 127, 128, 123, 124, 125, 133, 134, 135, 136, 137, 315, 316, 317, 318, 590, 591, 592, 593, 594, 595, 596, 597, 598, 599, 600, 601, 602, 603, 604, 605, 606, 607, 608, 609, 610, 611, 612, 613, 614, 615] (by decide +kernel) (by decide +kernel)
set_option maxRecDepth 20000 in
theorem gL_law_X6_book : GoodIn wsL_law (wsV RL 133 RX6 yX6_book wsX6_book) := goodIn_app (goodIn_of _ (by decide +kernel)) ggL_law_X6_book
set_option maxRecDepth 20000 in
theorem ggL_law_L_canBook : GoodIn wsL_law wsL_canBook := goodIn_ca (goodIn_ca (goodIn_r _ [367, 95, 165, 368, 369, 370, 2, 371, 25, 150, 151, 152, 153, 107, 108, 20, 103, 104, 105, 106, 350, 351, 352, 170, 171, 353, 354, 355, 24, 356, 279, 51, 50, 52, 53, 582, 583, 584, 585, 586, 587, 588, 589, 617, 618, 619, 620, 621, 622, 623, 624, 625, 626, 627] (by decide +kernel) (by decide +kernel)) (goodIn_sub (fun _ h => List.mem_append_left _ (List.mem_append_right _ h)) (by decide +kernel))) (goodIn_sub (fun _ h => List.mem_append_right _ h) (by decide +kernel))
set_option maxRecDepth 20000 in
theorem gL_law_L_canBook : GoodIn wsL_law (va_wsS RL 134 yL_canBook wsL_canBook) := goodIn_app (goodIn_of _ (by decide +kernel)) ggL_law_L_canBook
set_option maxRecDepth 20000 in
theorem ggL_law_X6_canBook : GoodIn wsL_law wsX6_canBook := goodIn_r _ [375, 376, 377, 378, 5, 379, 158, 159, 160, 161, 122, 126, 127, 128, 123, 124, 125, 133, 134, 135, 136, 137, 315, 316, 317, 318, 298, 80, 79, 81, 82, 590, 591, 592, 593, 594, 595, 596, 597, 598, 599, 600, 601, 602, 603, 604, 605, 606, 607, 608, 609, 610, 611, 612, 613, 614, 615] (by decide +kernel) (by decide +kernel)
set_option maxRecDepth 20000 in
theorem gL_law_X6_canBook : GoodIn wsL_law (wsV RL 136 RX6 yX6_canBook wsX6_canBook) := goodIn_app (goodIn_of _ (by decide +kernel)) ggL_law_X6_canBook
set_option maxRecDepth 20000 in
theorem ggL_law_L_canBookByMinutes : GoodIn wsL_law wsL_canBookByMinutes := goodIn_ca (goodIn_ca (goodIn_r _ [382, 95, 165, 383, 384, 385, 2, 386, 25, 150, 151, 152, 153, 107, 108, 20, 103, 104, 105, 106, 350, 351, 352, 170, 171, 387, 276, 277, 24, 278, 279, 51, 50, 280, 281, 282, 283, 52, 53, 582, 583, 584, 585, 586, 587, 588, 589, 617, 618, 619, 620, 621, 622, 623, 624, 625, 626, 627] (by decide +kernel) (by decide +kernel)) (goodIn_sub (fun _ h => List.mem_append_left _ (List.mem_append_right _ h)) (by decide +kernel))) (goodIn_sub (fun _ h => List.mem_append_right _ h) (by decide +kernel))
set_option maxRecDepth 20000 in
theorem gL_law_L_canBookByMinutes : GoodIn wsL_law (va_wsS RL 137 yL_canBookByMinutes wsL_canBookByMinutes) := goodIn_app (goodIn_of _ (by decide +kernel)) ggL_law_L_canBookByMinutes
set_option maxRecDepth 20000 in
theorem ggL_law_X6_canBookByMinutes : GoodIn wsL_law wsX6_canBookByMinutes := goodIn_r _ [391, 376, 377, 378, 5, 379, 158, 159, 160, 161, 122, 126, 127, 128, 123, 124, 125, 133, 134, 135, 136, 137, 315, 316, 317, 318, 298, 80, 79, 81, 82, 590, 591, 592, 593, 594, 595, 596, 597, 598, 599, 600, 601, 602, 603, 604, 605, 606, 607, 608, 609, 610, 611, 612, 613, 614, 615] (by decide +kernel) (by decide +kernel)
set_option maxRecDepth 20000 in
theorem gL_law_X6_canBookByMinutes : GoodIn wsL_law (wsV RL 139 RX6 yX6_canBookByMinutes wsX6_canBookByMinutes) := goodIn_app (goodIn_of _ (by decide +kernel)) ggL_law_X6_canBookByMinutes
set_option maxRecDepth 20000 in
theorem ggL_law_L_booking : GoodIn wsL_law wsL_booking := goodIn_ca (goodIn_r _ [394, 95, 395, 396, 397, 2, 398, 25, 399, 400, 252, 401, 402, 403, 404, 107, 108, 349, 582, 583, 584, 585, 586, 587, 588, 589, 622, 623, 624, 625, 626, 627] (by decide +kernel) (by decide +kernel)) (goodIn_sub (fun _ h => List.mem_append_left _ (List.mem_append_right _ h)) (by decide +kernel))
set_option maxRecDepth 20000 in
theorem gL_law_L_booking : GoodIn wsL_law (va_wsS RL 140 yL_booking wsL_booking) := goodIn_app (goodIn_of _ (by decide +kernel)) ggL_law_L_booking
set_option maxRecDepth 20000 in
theorem ggL_law_X6_booking : GoodIn wsL_law wsX6_booking := goodIn_r _ [408, 83, 409, 410, 411, 5, 412, 298, 126, 127, 128, 133, 134, 135, 136, 137, 590, 591, 592, 593, 594, 595, 596, 597, 598, 599, 600, 601, 602, 603, 604, 605, 606, 607, 608, 609, 610, 611, 612, 613, 614, 615] (by decide +kernel) (by decide +kernel)
set_option maxRecDepth 20000 in
theorem gL_law_X6_booking : GoodIn wsL_law (wsV RL 142 RX6 yX6_booking wsX6_booking) := goodIn_app (goodIn_of _ (by decide +kernel)) ggL_law_X6_booking
set_option maxRecDepth 20000 in
theorem ggL_law_L_late : GoodIn wsL_law wsL_late := goodIn_ca (goodIn_r _ [415, 95, 416, 417, 418, 2, 419, 25, 399, 401, 402, 403, 404, 107, 108, 349, 582, 583, 584, 585, 586, 587, 588, 589, 622, 623, 624, 625, 626, 627] (by decide +kernel) (by decide +kernel)) (goodIn_sub (fun _ h => List.mem_append_left _ (List.mem_append_right _ h)) (by decide +kernel))
set_option maxRecDepth 20000 in
theorem gL_law_L_late : GoodIn wsL_law (va_wsS RL 143 yL_late wsL_late) := goodIn_app (goodIn_of _ (by decide +kernel)) ggL_law_L_late
set_option maxRecDepth 20000 in
theorem ggL_law_X6_late : GoodIn wsL_law wsX6_late := goodIn_r _ [423, 83, 84, 409, 410, 411, 5, 412, 298, 126, 127, 128, 133, 134, 135, 136, 137, 590, 591, 592, 593, 594, 595, 596, 597, 598, 599, 600, 601, 602, 603, 604, 605, 606, 607, 608, 609, 610, 611, 612, 613, 614, 615] (by decide +kernel) (by decide +kernel)
set_option maxRecDepth 20000 in
theorem gL_law_X6_late : GoodIn wsL_law (wsV RL 145 RX6 yX6_late wsX6_late) := goodIn_app (goodIn_of _ (by decide +kernel)) ggL_law_X6_late
set_option maxRecDepth 20000 in
theorem ggL_law_L_addWaggon : GoodIn wsL_law wsL_addWaggon := goodIn_ca (goodIn_ca (goodIn_ca (goodIn_r _ [426, 95, 165, 96, 427, 428, 429, 2, 430, 170, 171, 101, 102, 29, 431, 432, 433, 434, 107, 108, 435, 436, 437, 438, 439, 440, 441, 442, 443, 444, 28, 445, 446, 447, 448, 449, 450, 58, 451, 452, 453, 454, 59, 60, 582, 583, 584, 585, 586, 587, 588, 589, 628, 629, 630, 631] (by decide +kernel) (by decide +kernel)) (goodIn_sub (fun _ h => List.mem_append_right _ h) (by decide +kernel))) (goodIn_sub (fun _ h => List.mem_append_left _ (List.mem_append_left _ (List.mem_append_right _ h))) (by decide +kernel))) (goodIn_sub (fun _ h => List.mem_append_left _ (List.mem_append_right _ h)) (by decide +kernel))
set_option maxRecDepth 20000 in
theorem gL_law_L_addWaggon : GoodIn wsL_law (va_wsS RL 146 yL_addWaggon wsL_addWaggon) := goodIn_app (goodIn_of _ (by decide +kernel)) ggL_law_L_addWaggon
set_option maxRecDepth 20000 in
theorem ggL_law_X6_addWaggon : GoodIn wsL_law wsX6_addWaggon := goodIn_r _ [458, 459, 85, 460, 461, 5, 462, 126, 127, 128, 463, 464, 465, 466, 86, 133, 134, 135, 136, 137, 467, 468, 469, 470, 87, 590, 591, 592, 593, 594, 595, 596, 597, 598, 599, 600, 601, 602, 603, 604, 605, 606, 607, 608, 609, 610, 611, 612, 613, 614, 615] (by decide +kernel) (by decide +kernel)
set_option maxRecDepth 20000 in
theorem gL_law_X6_addWaggon : GoodIn wsL_law (wsV RL 148 RX6 yX6_addWaggon wsX6_addWaggon) := goodIn_app (goodIn_of _ (by decide +kernel)) ggL_law_X6_addWaggon
set_option maxRecDepth 20000 in
theorem ggL_law_L_offer : GoodIn wsL_law wsL_offer := goodIn_ca (goodIn_ca (goodIn_r _ [473, 95, 165, 474, 475, 476, 2, 477, 107, 108, 170, 171, 29, 431, 33, 432, 433, 434, 435, 436, 437, 478, 479, 480, 32, 481, 64, 65, 66, 582, 583, 584, 585, 586, 587, 588, 589, 628, 629, 630, 631, 632, 633, 634] (by decide +kernel) (by decide +kernel)) (goodIn_sub (fun _ h => List.mem_append_left _ (List.mem_append_right _ h)) (by decide +kernel))) (goodIn_sub (fun _ h => List.mem_append_right _ h) (by decide +kernel))
set_option maxRecDepth 20000 in
theorem gL_law_L_offer : GoodIn wsL_law (va_wsS RL 149 yL_offer wsL_offer) := goodIn_app (goodIn_of _ (by decide +kernel)) ggL_law_L_offer
set_option maxRecDepth 20000 in
theorem ggL_law_X6_offer : GoodIn wsL_law wsX6_offer := goodIn_r _ [485, 459, 88, 89, 90, 126, 127, 5, 128, 460, 461, 462, 133, 134, 135, 136, 137, 590, 591, 592, 593, 594, 595, 596, 597, 598, 599, 600, 601, 602, 603, 604, 605, 606, 607, 608, 609, 610, 611, 612, 613, 614, 615] (by decide +kernel) (by decide +kernel)
set_option maxRecDepth 20000 in
theorem gL_law_X6_offer : GoodIn wsL_law (wsV RL 152 RX6 yX6_offer wsX6_offer) := goodIn_app (goodIn_of _ (by decide +kernel)) ggL_law_X6_offer
set_option maxRecDepth 20000 in
theorem ggL_law_L_couple : GoodIn wsL_law wsL_couple := goodIn_ca (goodIn_ca (goodIn_r _ [488, 95, 96, 489, 490, 491, 2, 492, 101, 102, 29, 493, 150, 151, 152, 153, 107, 108, 20, 103, 494, 495, 496, 497, 217, 435, 436, 437, 443, 444, 28, 445, 498, 499, 500, 501, 502, 503, 504, 505, 506, 507, 508, 59, 60, 509, 510, 511, 512, 58, 513, 514, 515, 516, 517, 451, 452, 453, 454, 582, 583, 584, 585, 586, 587, 588, 589, 628, 629, 630, 631, 617, 618, 619, 620, 621] (by decide +kernel) (by decide +kernel)) (goodIn_sub (fun _ h => List.mem_append_left _ (List.mem_append_left _ (List.mem_append_right _ h))) (by decide +kernel))) (goodIn_sub (fun _ h => List.mem_append_left _ (List.mem_append_right _ h)) (by decide +kernel))
set_option maxRecDepth 20000 in
theorem gL_law_L_couple : GoodIn wsL_law (va_wsS RL 153 yL_couple wsL_couple) := goodIn_app (goodIn_of _ (by decide +kernel)) ggL_law_L_couple
set_option maxRecDepth 20000 in
theorem ggL_law_X6_couple : GoodIn wsL_law wsX6_couple := goodIn_r _ [521, 71, 522, 523, 524, 5, 525, 85, 158, 159, 160, 161, 122, 126, 127, 128, 460, 461, 462, 463, 464, 465, 466, 459, 86, 526, 527, 528, 529, 87, 530, 531, 532, 533, 133, 134, 135, 136, 137, 467, 468, 469, 470, 590, 591, 592, 593, 594, 595, 596, 597, 598, 599, 600, 601, 602, 603, 604, 605, 606, 607, 608, 609, 610, 611, 612, 613, 614, 615] (by decide +kernel) (by decide +kernel)
set_option maxRecDepth 20000 in
theorem gL_law_X6_couple : GoodIn wsL_law (wsV RL 155 RX6 yX6_couple wsX6_couple) := goodIn_app (goodIn_of _ (by decide +kernel)) ggL_law_X6_couple
set_option maxRecDepth 20000 in
theorem ggL_law_L_leave : GoodIn wsL_law wsL_leave := goodIn_ca (goodIn_ca (goodIn_r _ [536, 95, 96, 537, 538, 539, 2, 540, 101, 102, 29, 33, 252, 541, 150, 151, 152, 153, 107, 108, 20, 103, 494, 495, 496, 497, 217, 435, 436, 437, 498, 499, 28, 500, 501, 502, 503, 504, 505, 506, 507, 508, 59, 60, 438, 439, 440, 441, 442, 443, 444, 445, 513, 514, 515, 516, 517, 451, 452, 453, 454, 542, 543, 544, 32, 545, 64, 66, 65, 546, 547, 548, 549, 550, 551, 552, 582, 583, 584, 585, 586, 587, 588, 589, 617, 618, 619, 620, 621, 628, 629, 630, 631, 632, 633, 634] (by decide +kernel) (by decide +kernel)) (goodIn_sub (fun _ h => List.mem_append_left _ (List.mem_append_left _ (List.mem_append_right _ h))) (by decide +kernel))) (goodIn_sub (fun _ h => List.mem_append_left _ (List.mem_append_right _ h)) (by decide +kernel))
set_option maxRecDepth 20000 in
theorem gL_law_L_leave : GoodIn wsL_law (va_wsS RL 156 yL_leave wsL_leave) := goodIn_app (goodIn_of _ (by decide +kernel)) ggL_law_L_leave
set_option maxRecDepth 20000 in
theorem ggL_law_X6_leave : GoodIn wsL_law wsX6_leave := goodIn_r _ [556, 71, 90, 88, 293, 89, 557, 158, 159, 160, 5, 161, 122, 126, 127, 128, 460, 461, 462, 463, 464, 465, 466, 459, 86, 133, 134, 135, 136, 137, 526, 527, 528, 529, 87, 467, 468, 469, 470, 590, 591, 592, 593, 594, 595, 596, 597, 598, 599, 600, 601, 602, 603, 604, 605, 606, 607, 608, 609, 610, 611, 612, 613, 614, 615] (by decide +kernel) (by decide +kernel)
set_option maxRecDepth 20000 in
theorem gL_law_X6_leave : GoodIn wsL_law (wsV RL 158 RX6 yX6_leave wsX6_leave) := goodIn_app (goodIn_of _ (by decide +kernel)) ggL_law_X6_leave
set_option maxRecDepth 20000 in
theorem ggL_law_L_waggonAt : GoodIn wsL_law wsL_waggonAt := goodIn_ca (goodIn_r _ [560, 95, 561, 562, 563, 2, 564, 107, 108, 20, 103, 29, 435, 436, 437, 443, 444, 28, 445, 565, 506, 507, 508, 59, 60, 498, 499, 500, 566, 567, 568, 569, 582, 583, 584, 585, 586, 587, 588, 589, 617, 618, 619, 620, 621, 628, 629, 630, 631] (by decide +kernel) (by decide +kernel)) (goodIn_sub (fun _ h => List.mem_append_left _ (List.mem_append_right _ h)) (by decide +kernel))
set_option maxRecDepth 20000 in
theorem gL_law_L_waggonAt : GoodIn wsL_law (va_wsS RL 159 yL_waggonAt wsL_waggonAt) := goodIn_app (goodIn_of _ (by decide +kernel)) ggL_law_L_waggonAt
set_option maxRecDepth 20000 in
theorem ggL_law_X6_waggonAt : GoodIn wsL_law wsX6_waggonAt := goodIn_r _ [573, 460, 461, 5, 462, 126, 127, 128, 158, 159, 160, 161, 122, 133, 134, 135, 136, 137, 463, 464, 465, 466, 459, 86, 526, 527, 528, 529, 87, 590, 591, 592, 593, 594, 595, 596, 597, 598, 599, 600, 601, 602, 603, 604, 605, 606, 607, 608, 609, 610, 611, 612, 613, 614, 615] (by decide +kernel) (by decide +kernel)
set_option maxRecDepth 20000 in
theorem gL_law_X6_waggonAt : GoodIn wsL_law (wsV RL 161 RX6 yX6_waggonAt wsX6_waggonAt) := goodIn_app (goodIn_of _ (by decide +kernel)) ggL_law_X6_waggonAt
set_option maxRecDepth 20000 in
theorem ggL_law_X5_earned : GoodIn wsL_law wsX5_earned := goodIn_r _ [577, 541, 582, 583, 584, 585, 586, 587, 588, 589] (by decide +kernel) (by decide +kernel)
set_option maxRecDepth 20000 in
theorem gL_law_X5_earned : GoodIn wsL_law (wsV RL 162 RX5 yX5_earned wsX5_earned) := goodIn_app (goodIn_of _ (by decide +kernel)) ggL_law_X5_earned
set_option maxRecDepth 20000 in
theorem ggL_law_X6_earned : GoodIn wsL_law wsX6_earned := goodIn_r _ [581, 137, 557, 590, 591, 592, 593, 594, 595, 596, 597, 598, 599, 600, 601, 602, 603, 604, 605, 606, 607, 608, 609, 610, 611, 612, 613, 614, 615] (by decide +kernel) (by decide +kernel)
set_option maxRecDepth 20000 in
theorem gL_law_X6_earned : GoodIn wsL_law (wsV RL 165 RX6 yX6_earned wsX6_earned) := goodIn_app (goodIn_of _ (by decide +kernel)) ggL_law_X6_earned
theorem dL_law_0 : decode cL_law 0 = .ok (.new 8, 3) := by decide +kernel
theorem dL_law_3 : decode cL_law 3 = .ok (.dup, 1) := by decide +kernel
theorem dL_law_4 : decode cL_law 4 = .ok (.invokespecial 83, 3) := by decide +kernel
theorem dL_law_7 : decode cL_law 7 = .ok (.astore_n 1, 1) := by decide +kernel
theorem dL_law_8 : decode cL_law 8 = .ok (.new 84, 3) := by decide +kernel
theorem dL_law_11 : decode cL_law 11 = .ok (.dup, 1) := by decide +kernel
theorem dL_law_12 : decode cL_law 12 = .ok (.invokespecial 86, 3) := by decide +kernel
theorem dL_law_15 : decode cL_law 15 = .ok (.astore_n 2, 1) := by decide +kernel
theorem dL_law_16 : decode cL_law 16 = .ok (.iconst 1, 1) := by decide +kernel
theorem dL_law_17 : decode cL_law 17 = .ok (.newarray .long, 2) := by decide +kernel
theorem dL_law_19 : decode cL_law 19 = .ok (.astore_n 3, 1) := by decide +kernel
theorem dL_law_20 : decode cL_law 20 = .ok (.iconst 0, 1) := by decide +kernel
theorem dL_law_21 : decode cL_law 21 = .ok (.istore 4, 2) := by decide +kernel
theorem dL_law_23 : decode cL_law 23 = .ok (.iload 4, 2) := by decide +kernel
theorem dL_law_25 : decode cL_law 25 = .ok (.aload_n 0, 1) := by decide +kernel
theorem dL_law_26 : decode cL_law 26 = .ok (.arraylength, 1) := by decide +kernel
theorem dL_law_27 : decode cL_law 27 = .ok (.iconst 5, 1) := by decide +kernel
theorem dL_law_28 : decode cL_law 28 = .ok (.isub, 1) := by decide +kernel
theorem dL_law_29 : decode cL_law 29 = .ok (.if_icmp .gt 1533, 3) := by decide +kernel
theorem dL_law_32 : decode cL_law 32 = .ok (.aload_n 0, 1) := by decide +kernel
theorem dL_law_33 : decode cL_law 33 = .ok (.iload 4, 2) := by decide +kernel
theorem dL_law_35 : decode cL_law 35 = .ok (.iaload, 1) := by decide +kernel
theorem dL_law_36 : decode cL_law 36 = .ok (.bipush 31, 2) := by decide +kernel
theorem dL_law_38 : decode cL_law 38 = .ok (.iand, 1) := by decide +kernel
theorem dL_law_39 : decode cL_law 39 = .ok (.tableswitch 1517 0 21 #[101, 185, 276, 344, 407, 470, 526, 589, 645, 701, 714, 782, 874, 973, 1072, 1128, 1184, 1252, 1324, 1380, 1436, 1504], 101) := by decide +kernel
theorem dL_law_140 : decode cL_law 140 = .ok (.aload_n 1, 1) := by decide +kernel
theorem dL_law_141 : decode cL_law 141 = .ok (.aload_n 0, 1) := by decide +kernel
theorem dL_law_142 : decode cL_law 142 = .ok (.iload 4, 2) := by decide +kernel
theorem dL_law_144 : decode cL_law 144 = .ok (.iconst 1, 1) := by decide +kernel
theorem dL_law_145 : decode cL_law 145 = .ok (.iadd, 1) := by decide +kernel
theorem dL_law_146 : decode cL_law 146 = .ok (.iaload, 1) := by decide +kernel
theorem dL_law_147 : decode cL_law 147 = .ok (.aload_n 0, 1) := by decide +kernel
theorem dL_law_148 : decode cL_law 148 = .ok (.iload 4, 2) := by decide +kernel
theorem dL_law_150 : decode cL_law 150 = .ok (.iconst 2, 1) := by decide +kernel
theorem dL_law_151 : decode cL_law 151 = .ok (.iadd, 1) := by decide +kernel
theorem dL_law_152 : decode cL_law 152 = .ok (.iaload, 1) := by decide +kernel
theorem dL_law_153 : decode cL_law 153 = .ok (.ifCond .eq 7, 3) := by decide +kernel
theorem dL_law_156 : decode cL_law 156 = .ok (.iconst 1, 1) := by decide +kernel
theorem dL_law_157 : decode cL_law 157 = .ok (.goto 4, 3) := by decide +kernel
theorem dL_law_160 : decode cL_law 160 = .ok (.iconst 0, 1) := by decide +kernel
theorem dL_law_161 : decode cL_law 161 = .ok (.aload_n 3, 1) := by decide +kernel
theorem dL_law_162 : decode cL_law 162 = .ok (.invokestatic 87, 3) := by decide +kernel
theorem dL_law_165 : decode cL_law 165 = .ok (.istore 5, 2) := by decide +kernel
theorem dL_law_167 : decode cL_law 167 = .ok (.aload_n 2, 1) := by decide +kernel
theorem dL_law_168 : decode cL_law 168 = .ok (.aload_n 0, 1) := by decide +kernel
theorem dL_law_169 : decode cL_law 169 = .ok (.iload 4, 2) := by decide +kernel
theorem dL_law_171 : decode cL_law 171 = .ok (.iconst 1, 1) := by decide +kernel
theorem dL_law_172 : decode cL_law 172 = .ok (.iadd, 1) := by decide +kernel
theorem dL_law_173 : decode cL_law 173 = .ok (.iaload, 1) := by decide +kernel
theorem dL_law_174 : decode cL_law 174 = .ok (.aload_n 0, 1) := by decide +kernel
theorem dL_law_175 : decode cL_law 175 = .ok (.iload 4, 2) := by decide +kernel
theorem dL_law_177 : decode cL_law 177 = .ok (.iconst 2, 1) := by decide +kernel
theorem dL_law_178 : decode cL_law 178 = .ok (.iadd, 1) := by decide +kernel
theorem dL_law_179 : decode cL_law 179 = .ok (.iaload, 1) := by decide +kernel
theorem dL_law_180 : decode cL_law 180 = .ok (.ifCond .eq 7, 3) := by decide +kernel
theorem dL_law_183 : decode cL_law 183 = .ok (.iconst 1, 1) := by decide +kernel
theorem dL_law_184 : decode cL_law 184 = .ok (.goto 4, 3) := by decide +kernel
theorem dL_law_187 : decode cL_law 187 = .ok (.iconst 0, 1) := by decide +kernel
theorem dL_law_188 : decode cL_law 188 = .ok (.invokevirtual 92, 3) := by decide +kernel
theorem dL_law_191 : decode cL_law 191 = .ok (.istore 6, 2) := by decide +kernel
theorem dL_law_193 : decode cL_law 193 = .ok (.aload_n 2, 1) := by decide +kernel
theorem dL_law_194 : decode cL_law 194 = .ok (.invokevirtual 93, 3) := by decide +kernel
theorem dL_law_197 : decode cL_law 197 = .ok (.iload 5, 2) := by decide +kernel
theorem dL_law_199 : decode cL_law 199 = .ok (.if_icmp .eq 5, 3) := by decide +kernel
theorem dL_law_202 : decode cL_law 202 = .ok (.iconst 0, 1) := by decide +kernel
theorem dL_law_203 : decode cL_law 203 = .ok (.ireturn, 1) := by decide +kernel
theorem dL_law_204 : decode cL_law 204 = .ok (.iload 5, 2) := by decide +kernel
theorem dL_law_206 : decode cL_law 206 = .ok (.ifCond .ne 15, 3) := by decide +kernel
theorem dL_law_209 : decode cL_law 209 = .ok (.aload_n 3, 1) := by decide +kernel
theorem dL_law_210 : decode cL_law 210 = .ok (.iconst 0, 1) := by decide +kernel
theorem dL_law_211 : decode cL_law 211 = .ok (.laload, 1) := by decide +kernel
theorem dL_law_212 : decode cL_law 212 = .ok (.iload 6, 2) := by decide +kernel
theorem dL_law_214 : decode cL_law 214 = .ok (.i2l, 1) := by decide +kernel
theorem dL_law_215 : decode cL_law 215 = .ok (.lcmp, 1) := by decide +kernel
theorem dL_law_216 : decode cL_law 216 = .ok (.ifCond .eq 5, 3) := by decide +kernel
theorem dL_law_219 : decode cL_law 219 = .ok (.iconst 0, 1) := by decide +kernel
theorem dL_law_220 : decode cL_law 220 = .ok (.ireturn, 1) := by decide +kernel
theorem dL_law_221 : decode cL_law 221 = .ok (.goto 1335, 3) := by decide +kernel
theorem dL_law_224 : decode cL_law 224 = .ok (.aload_n 1, 1) := by decide +kernel
theorem dL_law_225 : decode cL_law 225 = .ok (.aload_n 0, 1) := by decide +kernel
theorem dL_law_226 : decode cL_law 226 = .ok (.iload 4, 2) := by decide +kernel
theorem dL_law_228 : decode cL_law 228 = .ok (.iconst 1, 1) := by decide +kernel
theorem dL_law_229 : decode cL_law 229 = .ok (.iadd, 1) := by decide +kernel
theorem dL_law_230 : decode cL_law 230 = .ok (.iaload, 1) := by decide +kernel
theorem dL_law_231 : decode cL_law 231 = .ok (.aload_n 0, 1) := by decide +kernel
theorem dL_law_232 : decode cL_law 232 = .ok (.iload 4, 2) := by decide +kernel
theorem dL_law_234 : decode cL_law 234 = .ok (.iconst 2, 1) := by decide +kernel
theorem dL_law_235 : decode cL_law 235 = .ok (.iadd, 1) := by decide +kernel
theorem dL_law_236 : decode cL_law 236 = .ok (.iaload, 1) := by decide +kernel
theorem dL_law_237 : decode cL_law 237 = .ok (.ifCond .eq 7, 3) := by decide +kernel
theorem dL_law_240 : decode cL_law 240 = .ok (.iconst 1, 1) := by decide +kernel
theorem dL_law_241 : decode cL_law 241 = .ok (.goto 4, 3) := by decide +kernel
theorem dL_law_244 : decode cL_law 244 = .ok (.iconst 0, 1) := by decide +kernel
theorem dL_law_245 : decode cL_law 245 = .ok (.aload_n 3, 1) := by decide +kernel
theorem dL_law_246 : decode cL_law 246 = .ok (.invokestatic 97, 3) := by decide +kernel
theorem dL_law_249 : decode cL_law 249 = .ok (.istore 5, 2) := by decide +kernel
theorem dL_law_251 : decode cL_law 251 = .ok (.aload_n 2, 1) := by decide +kernel
theorem dL_law_252 : decode cL_law 252 = .ok (.aload_n 0, 1) := by decide +kernel
theorem dL_law_253 : decode cL_law 253 = .ok (.iload 4, 2) := by decide +kernel
theorem dL_law_255 : decode cL_law 255 = .ok (.iconst 1, 1) := by decide +kernel
theorem dL_law_256 : decode cL_law 256 = .ok (.iadd, 1) := by decide +kernel
theorem dL_law_257 : decode cL_law 257 = .ok (.iaload, 1) := by decide +kernel
theorem dL_law_258 : decode cL_law 258 = .ok (.aload_n 0, 1) := by decide +kernel
theorem dL_law_259 : decode cL_law 259 = .ok (.iload 4, 2) := by decide +kernel
theorem dL_law_261 : decode cL_law 261 = .ok (.iconst 2, 1) := by decide +kernel
theorem dL_law_262 : decode cL_law 262 = .ok (.iadd, 1) := by decide +kernel
theorem dL_law_263 : decode cL_law 263 = .ok (.iaload, 1) := by decide +kernel
theorem dL_law_264 : decode cL_law 264 = .ok (.ifCond .eq 7, 3) := by decide +kernel
theorem dL_law_267 : decode cL_law 267 = .ok (.iconst 1, 1) := by decide +kernel
theorem dL_law_268 : decode cL_law 268 = .ok (.goto 4, 3) := by decide +kernel
theorem dL_law_271 : decode cL_law 271 = .ok (.iconst 0, 1) := by decide +kernel
theorem dL_law_272 : decode cL_law 272 = .ok (.invokevirtual 99, 3) := by decide +kernel
theorem dL_law_275 : decode cL_law 275 = .ok (.istore 6, 2) := by decide +kernel
theorem dL_law_277 : decode cL_law 277 = .ok (.aload_n 2, 1) := by decide +kernel
theorem dL_law_278 : decode cL_law 278 = .ok (.invokevirtual 93, 3) := by decide +kernel
theorem dL_law_281 : decode cL_law 281 = .ok (.iload 5, 2) := by decide +kernel
theorem dL_law_283 : decode cL_law 283 = .ok (.if_icmp .eq 5, 3) := by decide +kernel
theorem dL_law_286 : decode cL_law 286 = .ok (.iconst 0, 1) := by decide +kernel
theorem dL_law_287 : decode cL_law 287 = .ok (.ireturn, 1) := by decide +kernel
theorem dL_law_288 : decode cL_law 288 = .ok (.iload 5, 2) := by decide +kernel
theorem dL_law_290 : decode cL_law 290 = .ok (.ifCond .ne 22, 3) := by decide +kernel
theorem dL_law_293 : decode cL_law 293 = .ok (.aload_n 3, 1) := by decide +kernel
theorem dL_law_294 : decode cL_law 294 = .ok (.iconst 0, 1) := by decide +kernel
theorem dL_law_295 : decode cL_law 295 = .ok (.laload, 1) := by decide +kernel
theorem dL_law_296 : decode cL_law 296 = .ok (.iload 6, 2) := by decide +kernel
theorem dL_law_298 : decode cL_law 298 = .ok (.ifCond .eq 7, 3) := by decide +kernel
theorem dL_law_301 : decode cL_law 301 = .ok (.lconst 1, 1) := by decide +kernel
theorem dL_law_302 : decode cL_law 302 = .ok (.goto 4, 3) := by decide +kernel
theorem dL_law_305 : decode cL_law 305 = .ok (.lconst 0, 1) := by decide +kernel
theorem dL_law_306 : decode cL_law 306 = .ok (.lcmp, 1) := by decide +kernel
theorem dL_law_307 : decode cL_law 307 = .ok (.ifCond .eq 5, 3) := by decide +kernel
theorem dL_law_310 : decode cL_law 310 = .ok (.iconst 0, 1) := by decide +kernel
theorem dL_law_311 : decode cL_law 311 = .ok (.ireturn, 1) := by decide +kernel
theorem dL_law_312 : decode cL_law 312 = .ok (.goto 1244, 3) := by decide +kernel
theorem dL_law_315 : decode cL_law 315 = .ok (.aload_n 1, 1) := by decide +kernel
theorem dL_law_316 : decode cL_law 316 = .ok (.aload_n 0, 1) := by decide +kernel
theorem dL_law_317 : decode cL_law 317 = .ok (.iload 4, 2) := by decide +kernel
theorem dL_law_319 : decode cL_law 319 = .ok (.iconst 1, 1) := by decide +kernel
theorem dL_law_320 : decode cL_law 320 = .ok (.iadd, 1) := by decide +kernel
theorem dL_law_321 : decode cL_law 321 = .ok (.iaload, 1) := by decide +kernel
theorem dL_law_322 : decode cL_law 322 = .ok (.aload_n 0, 1) := by decide +kernel
theorem dL_law_323 : decode cL_law 323 = .ok (.iload 4, 2) := by decide +kernel
theorem dL_law_325 : decode cL_law 325 = .ok (.iconst 2, 1) := by decide +kernel
theorem dL_law_326 : decode cL_law 326 = .ok (.iadd, 1) := by decide +kernel
theorem dL_law_327 : decode cL_law 327 = .ok (.iaload, 1) := by decide +kernel
theorem dL_law_328 : decode cL_law 328 = .ok (.aload_n 3, 1) := by decide +kernel
theorem dL_law_329 : decode cL_law 329 = .ok (.invokestatic 100, 3) := by decide +kernel
theorem dL_law_332 : decode cL_law 332 = .ok (.istore 5, 2) := by decide +kernel
theorem dL_law_334 : decode cL_law 334 = .ok (.aload_n 2, 1) := by decide +kernel
theorem dL_law_335 : decode cL_law 335 = .ok (.aload_n 0, 1) := by decide +kernel
theorem dL_law_336 : decode cL_law 336 = .ok (.iload 4, 2) := by decide +kernel
theorem dL_law_338 : decode cL_law 338 = .ok (.iconst 1, 1) := by decide +kernel
theorem dL_law_339 : decode cL_law 339 = .ok (.iadd, 1) := by decide +kernel
theorem dL_law_340 : decode cL_law 340 = .ok (.iaload, 1) := by decide +kernel
theorem dL_law_341 : decode cL_law 341 = .ok (.aload_n 0, 1) := by decide +kernel
theorem dL_law_342 : decode cL_law 342 = .ok (.iload 4, 2) := by decide +kernel
theorem dL_law_344 : decode cL_law 344 = .ok (.iconst 2, 1) := by decide +kernel
theorem dL_law_345 : decode cL_law 345 = .ok (.iadd, 1) := by decide +kernel
theorem dL_law_346 : decode cL_law 346 = .ok (.iaload, 1) := by decide +kernel
theorem dL_law_347 : decode cL_law 347 = .ok (.invokevirtual 103, 3) := by decide +kernel
theorem dL_law_350 : decode cL_law 350 = .ok (.istore 6, 2) := by decide +kernel
theorem dL_law_352 : decode cL_law 352 = .ok (.aload_n 2, 1) := by decide +kernel
theorem dL_law_353 : decode cL_law 353 = .ok (.invokevirtual 93, 3) := by decide +kernel
theorem dL_law_356 : decode cL_law 356 = .ok (.iload 5, 2) := by decide +kernel
theorem dL_law_358 : decode cL_law 358 = .ok (.if_icmp .eq 5, 3) := by decide +kernel
theorem dL_law_361 : decode cL_law 361 = .ok (.iconst 0, 1) := by decide +kernel
theorem dL_law_362 : decode cL_law 362 = .ok (.ireturn, 1) := by decide +kernel
theorem dL_law_363 : decode cL_law 363 = .ok (.iload 5, 2) := by decide +kernel
theorem dL_law_365 : decode cL_law 365 = .ok (.ifCond .ne 15, 3) := by decide +kernel
theorem dL_law_368 : decode cL_law 368 = .ok (.aload_n 3, 1) := by decide +kernel
theorem dL_law_369 : decode cL_law 369 = .ok (.iconst 0, 1) := by decide +kernel
theorem dL_law_370 : decode cL_law 370 = .ok (.laload, 1) := by decide +kernel
theorem dL_law_371 : decode cL_law 371 = .ok (.iload 6, 2) := by decide +kernel
theorem dL_law_373 : decode cL_law 373 = .ok (.i2l, 1) := by decide +kernel
theorem dL_law_374 : decode cL_law 374 = .ok (.lcmp, 1) := by decide +kernel
theorem dL_law_375 : decode cL_law 375 = .ok (.ifCond .eq 5, 3) := by decide +kernel
theorem dL_law_378 : decode cL_law 378 = .ok (.iconst 0, 1) := by decide +kernel
theorem dL_law_379 : decode cL_law 379 = .ok (.ireturn, 1) := by decide +kernel
theorem dL_law_380 : decode cL_law 380 = .ok (.goto 1176, 3) := by decide +kernel
theorem dL_law_383 : decode cL_law 383 = .ok (.aload_n 1, 1) := by decide +kernel
theorem dL_law_384 : decode cL_law 384 = .ok (.aload_n 0, 1) := by decide +kernel
theorem dL_law_385 : decode cL_law 385 = .ok (.iload 4, 2) := by decide +kernel
theorem dL_law_387 : decode cL_law 387 = .ok (.iconst 1, 1) := by decide +kernel
theorem dL_law_388 : decode cL_law 388 = .ok (.iadd, 1) := by decide +kernel
theorem dL_law_389 : decode cL_law 389 = .ok (.iaload, 1) := by decide +kernel
theorem dL_law_390 : decode cL_law 390 = .ok (.aload_n 3, 1) := by decide +kernel
theorem dL_law_391 : decode cL_law 391 = .ok (.invokestatic 104, 3) := by decide +kernel
theorem dL_law_394 : decode cL_law 394 = .ok (.istore 5, 2) := by decide +kernel
theorem dL_law_396 : decode cL_law 396 = .ok (.aload_n 2, 1) := by decide +kernel
theorem dL_law_397 : decode cL_law 397 = .ok (.aload_n 0, 1) := by decide +kernel
theorem dL_law_398 : decode cL_law 398 = .ok (.iload 4, 2) := by decide +kernel
theorem dL_law_400 : decode cL_law 400 = .ok (.iconst 1, 1) := by decide +kernel
theorem dL_law_401 : decode cL_law 401 = .ok (.iadd, 1) := by decide +kernel
theorem dL_law_402 : decode cL_law 402 = .ok (.iaload, 1) := by decide +kernel
theorem dL_law_403 : decode cL_law 403 = .ok (.invokevirtual 107, 3) := by decide +kernel
theorem dL_law_406 : decode cL_law 406 = .ok (.istore 6, 2) := by decide +kernel
theorem dL_law_408 : decode cL_law 408 = .ok (.aload_n 2, 1) := by decide +kernel
theorem dL_law_409 : decode cL_law 409 = .ok (.invokevirtual 93, 3) := by decide +kernel
theorem dL_law_412 : decode cL_law 412 = .ok (.iload 5, 2) := by decide +kernel
theorem dL_law_414 : decode cL_law 414 = .ok (.if_icmp .eq 5, 3) := by decide +kernel
theorem dL_law_417 : decode cL_law 417 = .ok (.iconst 0, 1) := by decide +kernel
theorem dL_law_418 : decode cL_law 418 = .ok (.ireturn, 1) := by decide +kernel
theorem dL_law_419 : decode cL_law 419 = .ok (.iload 5, 2) := by decide +kernel
theorem dL_law_421 : decode cL_law 421 = .ok (.ifCond .ne 22, 3) := by decide +kernel
theorem dL_law_424 : decode cL_law 424 = .ok (.aload_n 3, 1) := by decide +kernel
theorem dL_law_425 : decode cL_law 425 = .ok (.iconst 0, 1) := by decide +kernel
theorem dL_law_426 : decode cL_law 426 = .ok (.laload, 1) := by decide +kernel
theorem dL_law_427 : decode cL_law 427 = .ok (.iload 6, 2) := by decide +kernel
theorem dL_law_429 : decode cL_law 429 = .ok (.ifCond .eq 7, 3) := by decide +kernel
theorem dL_law_432 : decode cL_law 432 = .ok (.lconst 1, 1) := by decide +kernel
theorem dL_law_433 : decode cL_law 433 = .ok (.goto 4, 3) := by decide +kernel
theorem dL_law_436 : decode cL_law 436 = .ok (.lconst 0, 1) := by decide +kernel
theorem dL_law_437 : decode cL_law 437 = .ok (.lcmp, 1) := by decide +kernel
theorem dL_law_438 : decode cL_law 438 = .ok (.ifCond .eq 5, 3) := by decide +kernel
theorem dL_law_441 : decode cL_law 441 = .ok (.iconst 0, 1) := by decide +kernel
theorem dL_law_442 : decode cL_law 442 = .ok (.ireturn, 1) := by decide +kernel
theorem dL_law_443 : decode cL_law 443 = .ok (.goto 1113, 3) := by decide +kernel
theorem dL_law_446 : decode cL_law 446 = .ok (.aload_n 1, 1) := by decide +kernel
theorem dL_law_447 : decode cL_law 447 = .ok (.aload_n 0, 1) := by decide +kernel
theorem dL_law_448 : decode cL_law 448 = .ok (.iload 4, 2) := by decide +kernel
theorem dL_law_450 : decode cL_law 450 = .ok (.iconst 1, 1) := by decide +kernel
theorem dL_law_451 : decode cL_law 451 = .ok (.iadd, 1) := by decide +kernel
theorem dL_law_452 : decode cL_law 452 = .ok (.iaload, 1) := by decide +kernel
theorem dL_law_453 : decode cL_law 453 = .ok (.aload_n 3, 1) := by decide +kernel
theorem dL_law_454 : decode cL_law 454 = .ok (.invokestatic 108, 3) := by decide +kernel
theorem dL_law_457 : decode cL_law 457 = .ok (.istore 5, 2) := by decide +kernel
theorem dL_law_459 : decode cL_law 459 = .ok (.aload_n 2, 1) := by decide +kernel
theorem dL_law_460 : decode cL_law 460 = .ok (.aload_n 0, 1) := by decide +kernel
theorem dL_law_461 : decode cL_law 461 = .ok (.iload 4, 2) := by decide +kernel
theorem dL_law_463 : decode cL_law 463 = .ok (.iconst 1, 1) := by decide +kernel
theorem dL_law_464 : decode cL_law 464 = .ok (.iadd, 1) := by decide +kernel
theorem dL_law_465 : decode cL_law 465 = .ok (.iaload, 1) := by decide +kernel
theorem dL_law_466 : decode cL_law 466 = .ok (.invokevirtual 110, 3) := by decide +kernel
theorem dL_law_469 : decode cL_law 469 = .ok (.istore 6, 2) := by decide +kernel
theorem dL_law_471 : decode cL_law 471 = .ok (.aload_n 2, 1) := by decide +kernel
theorem dL_law_472 : decode cL_law 472 = .ok (.invokevirtual 93, 3) := by decide +kernel
theorem dL_law_475 : decode cL_law 475 = .ok (.iload 5, 2) := by decide +kernel
theorem dL_law_477 : decode cL_law 477 = .ok (.if_icmp .eq 5, 3) := by decide +kernel
theorem dL_law_480 : decode cL_law 480 = .ok (.iconst 0, 1) := by decide +kernel
theorem dL_law_481 : decode cL_law 481 = .ok (.ireturn, 1) := by decide +kernel
theorem dL_law_482 : decode cL_law 482 = .ok (.iload 5, 2) := by decide +kernel
theorem dL_law_484 : decode cL_law 484 = .ok (.ifCond .ne 22, 3) := by decide +kernel
theorem dL_law_487 : decode cL_law 487 = .ok (.aload_n 3, 1) := by decide +kernel
theorem dL_law_488 : decode cL_law 488 = .ok (.iconst 0, 1) := by decide +kernel
theorem dL_law_489 : decode cL_law 489 = .ok (.laload, 1) := by decide +kernel
theorem dL_law_490 : decode cL_law 490 = .ok (.iload 6, 2) := by decide +kernel
theorem dL_law_492 : decode cL_law 492 = .ok (.ifCond .eq 7, 3) := by decide +kernel
theorem dL_law_495 : decode cL_law 495 = .ok (.lconst 1, 1) := by decide +kernel
theorem dL_law_496 : decode cL_law 496 = .ok (.goto 4, 3) := by decide +kernel
theorem dL_law_499 : decode cL_law 499 = .ok (.lconst 0, 1) := by decide +kernel
theorem dL_law_500 : decode cL_law 500 = .ok (.lcmp, 1) := by decide +kernel
theorem dL_law_501 : decode cL_law 501 = .ok (.ifCond .eq 5, 3) := by decide +kernel
theorem dL_law_504 : decode cL_law 504 = .ok (.iconst 0, 1) := by decide +kernel
theorem dL_law_505 : decode cL_law 505 = .ok (.ireturn, 1) := by decide +kernel
theorem dL_law_506 : decode cL_law 506 = .ok (.goto 1050, 3) := by decide +kernel
theorem dL_law_509 : decode cL_law 509 = .ok (.aload_n 1, 1) := by decide +kernel
theorem dL_law_510 : decode cL_law 510 = .ok (.aload_n 0, 1) := by decide +kernel
theorem dL_law_511 : decode cL_law 511 = .ok (.iload 4, 2) := by decide +kernel
theorem dL_law_513 : decode cL_law 513 = .ok (.iconst 1, 1) := by decide +kernel
theorem dL_law_514 : decode cL_law 514 = .ok (.iadd, 1) := by decide +kernel
theorem dL_law_515 : decode cL_law 515 = .ok (.iaload, 1) := by decide +kernel
theorem dL_law_516 : decode cL_law 516 = .ok (.aload_n 3, 1) := by decide +kernel
theorem dL_law_517 : decode cL_law 517 = .ok (.invokestatic 111, 3) := by decide +kernel
theorem dL_law_520 : decode cL_law 520 = .ok (.istore 5, 2) := by decide +kernel
theorem dL_law_522 : decode cL_law 522 = .ok (.aload_n 2, 1) := by decide +kernel
theorem dL_law_523 : decode cL_law 523 = .ok (.aload_n 0, 1) := by decide +kernel
theorem dL_law_524 : decode cL_law 524 = .ok (.iload 4, 2) := by decide +kernel
theorem dL_law_526 : decode cL_law 526 = .ok (.iconst 1, 1) := by decide +kernel
theorem dL_law_527 : decode cL_law 527 = .ok (.iadd, 1) := by decide +kernel
theorem dL_law_528 : decode cL_law 528 = .ok (.iaload, 1) := by decide +kernel
theorem dL_law_529 : decode cL_law 529 = .ok (.invokevirtual 113, 3) := by decide +kernel
theorem dL_law_532 : decode cL_law 532 = .ok (.istore 6, 2) := by decide +kernel
theorem dL_law_534 : decode cL_law 534 = .ok (.aload_n 2, 1) := by decide +kernel
theorem dL_law_535 : decode cL_law 535 = .ok (.invokevirtual 93, 3) := by decide +kernel
theorem dL_law_538 : decode cL_law 538 = .ok (.iload 5, 2) := by decide +kernel
theorem dL_law_540 : decode cL_law 540 = .ok (.if_icmp .eq 5, 3) := by decide +kernel
theorem dL_law_543 : decode cL_law 543 = .ok (.iconst 0, 1) := by decide +kernel
theorem dL_law_544 : decode cL_law 544 = .ok (.ireturn, 1) := by decide +kernel
theorem dL_law_545 : decode cL_law 545 = .ok (.iload 5, 2) := by decide +kernel
theorem dL_law_547 : decode cL_law 547 = .ok (.ifCond .ne 15, 3) := by decide +kernel
theorem dL_law_550 : decode cL_law 550 = .ok (.aload_n 3, 1) := by decide +kernel
theorem dL_law_551 : decode cL_law 551 = .ok (.iconst 0, 1) := by decide +kernel
theorem dL_law_552 : decode cL_law 552 = .ok (.laload, 1) := by decide +kernel
theorem dL_law_553 : decode cL_law 553 = .ok (.iload 6, 2) := by decide +kernel
theorem dL_law_555 : decode cL_law 555 = .ok (.i2l, 1) := by decide +kernel
theorem dL_law_556 : decode cL_law 556 = .ok (.lcmp, 1) := by decide +kernel
theorem dL_law_557 : decode cL_law 557 = .ok (.ifCond .eq 5, 3) := by decide +kernel
theorem dL_law_560 : decode cL_law 560 = .ok (.iconst 0, 1) := by decide +kernel
theorem dL_law_561 : decode cL_law 561 = .ok (.ireturn, 1) := by decide +kernel
theorem dL_law_562 : decode cL_law 562 = .ok (.goto 994, 3) := by decide +kernel
theorem dL_law_565 : decode cL_law 565 = .ok (.aload_n 1, 1) := by decide +kernel
theorem dL_law_566 : decode cL_law 566 = .ok (.aload_n 0, 1) := by decide +kernel
theorem dL_law_567 : decode cL_law 567 = .ok (.iload 4, 2) := by decide +kernel
theorem dL_law_569 : decode cL_law 569 = .ok (.iconst 1, 1) := by decide +kernel
theorem dL_law_570 : decode cL_law 570 = .ok (.iadd, 1) := by decide +kernel
theorem dL_law_571 : decode cL_law 571 = .ok (.iaload, 1) := by decide +kernel
theorem dL_law_572 : decode cL_law 572 = .ok (.aload_n 3, 1) := by decide +kernel
theorem dL_law_573 : decode cL_law 573 = .ok (.invokestatic 114, 3) := by decide +kernel
theorem dL_law_576 : decode cL_law 576 = .ok (.istore 5, 2) := by decide +kernel
theorem dL_law_578 : decode cL_law 578 = .ok (.aload_n 2, 1) := by decide +kernel
theorem dL_law_579 : decode cL_law 579 = .ok (.aload_n 0, 1) := by decide +kernel
theorem dL_law_580 : decode cL_law 580 = .ok (.iload 4, 2) := by decide +kernel
theorem dL_law_582 : decode cL_law 582 = .ok (.iconst 1, 1) := by decide +kernel
theorem dL_law_583 : decode cL_law 583 = .ok (.iadd, 1) := by decide +kernel
theorem dL_law_584 : decode cL_law 584 = .ok (.iaload, 1) := by decide +kernel
theorem dL_law_585 : decode cL_law 585 = .ok (.invokevirtual 116, 3) := by decide +kernel
theorem dL_law_588 : decode cL_law 588 = .ok (.istore 6, 2) := by decide +kernel
theorem dL_law_590 : decode cL_law 590 = .ok (.aload_n 2, 1) := by decide +kernel
theorem dL_law_591 : decode cL_law 591 = .ok (.invokevirtual 93, 3) := by decide +kernel
theorem dL_law_594 : decode cL_law 594 = .ok (.iload 5, 2) := by decide +kernel
theorem dL_law_596 : decode cL_law 596 = .ok (.if_icmp .eq 5, 3) := by decide +kernel
theorem dL_law_599 : decode cL_law 599 = .ok (.iconst 0, 1) := by decide +kernel
theorem dL_law_600 : decode cL_law 600 = .ok (.ireturn, 1) := by decide +kernel
theorem dL_law_601 : decode cL_law 601 = .ok (.iload 5, 2) := by decide +kernel
theorem dL_law_603 : decode cL_law 603 = .ok (.ifCond .ne 22, 3) := by decide +kernel
theorem dL_law_606 : decode cL_law 606 = .ok (.aload_n 3, 1) := by decide +kernel
theorem dL_law_607 : decode cL_law 607 = .ok (.iconst 0, 1) := by decide +kernel
theorem dL_law_608 : decode cL_law 608 = .ok (.laload, 1) := by decide +kernel
theorem dL_law_609 : decode cL_law 609 = .ok (.iload 6, 2) := by decide +kernel
theorem dL_law_611 : decode cL_law 611 = .ok (.ifCond .eq 7, 3) := by decide +kernel
theorem dL_law_614 : decode cL_law 614 = .ok (.lconst 1, 1) := by decide +kernel
theorem dL_law_615 : decode cL_law 615 = .ok (.goto 4, 3) := by decide +kernel
theorem dL_law_618 : decode cL_law 618 = .ok (.lconst 0, 1) := by decide +kernel
theorem dL_law_619 : decode cL_law 619 = .ok (.lcmp, 1) := by decide +kernel
theorem dL_law_620 : decode cL_law 620 = .ok (.ifCond .eq 5, 3) := by decide +kernel
theorem dL_law_623 : decode cL_law 623 = .ok (.iconst 0, 1) := by decide +kernel
theorem dL_law_624 : decode cL_law 624 = .ok (.ireturn, 1) := by decide +kernel
theorem dL_law_625 : decode cL_law 625 = .ok (.goto 931, 3) := by decide +kernel
theorem dL_law_628 : decode cL_law 628 = .ok (.aload_n 1, 1) := by decide +kernel
theorem dL_law_629 : decode cL_law 629 = .ok (.aload_n 0, 1) := by decide +kernel
theorem dL_law_630 : decode cL_law 630 = .ok (.iload 4, 2) := by decide +kernel
theorem dL_law_632 : decode cL_law 632 = .ok (.iconst 1, 1) := by decide +kernel
theorem dL_law_633 : decode cL_law 633 = .ok (.iadd, 1) := by decide +kernel
theorem dL_law_634 : decode cL_law 634 = .ok (.iaload, 1) := by decide +kernel
theorem dL_law_635 : decode cL_law 635 = .ok (.aload_n 3, 1) := by decide +kernel
theorem dL_law_636 : decode cL_law 636 = .ok (.invokestatic 117, 3) := by decide +kernel
theorem dL_law_639 : decode cL_law 639 = .ok (.istore 5, 2) := by decide +kernel
theorem dL_law_641 : decode cL_law 641 = .ok (.aload_n 2, 1) := by decide +kernel
theorem dL_law_642 : decode cL_law 642 = .ok (.aload_n 0, 1) := by decide +kernel
theorem dL_law_643 : decode cL_law 643 = .ok (.iload 4, 2) := by decide +kernel
theorem dL_law_645 : decode cL_law 645 = .ok (.iconst 1, 1) := by decide +kernel
theorem dL_law_646 : decode cL_law 646 = .ok (.iadd, 1) := by decide +kernel
theorem dL_law_647 : decode cL_law 647 = .ok (.iaload, 1) := by decide +kernel
theorem dL_law_648 : decode cL_law 648 = .ok (.invokevirtual 119, 3) := by decide +kernel
theorem dL_law_651 : decode cL_law 651 = .ok (.istore 6, 2) := by decide +kernel
theorem dL_law_653 : decode cL_law 653 = .ok (.aload_n 2, 1) := by decide +kernel
theorem dL_law_654 : decode cL_law 654 = .ok (.invokevirtual 93, 3) := by decide +kernel
theorem dL_law_657 : decode cL_law 657 = .ok (.iload 5, 2) := by decide +kernel
theorem dL_law_659 : decode cL_law 659 = .ok (.if_icmp .eq 5, 3) := by decide +kernel
theorem dL_law_662 : decode cL_law 662 = .ok (.iconst 0, 1) := by decide +kernel
theorem dL_law_663 : decode cL_law 663 = .ok (.ireturn, 1) := by decide +kernel
theorem dL_law_664 : decode cL_law 664 = .ok (.iload 5, 2) := by decide +kernel
theorem dL_law_666 : decode cL_law 666 = .ok (.ifCond .ne 15, 3) := by decide +kernel
theorem dL_law_669 : decode cL_law 669 = .ok (.aload_n 3, 1) := by decide +kernel
theorem dL_law_670 : decode cL_law 670 = .ok (.iconst 0, 1) := by decide +kernel
theorem dL_law_671 : decode cL_law 671 = .ok (.laload, 1) := by decide +kernel
theorem dL_law_672 : decode cL_law 672 = .ok (.iload 6, 2) := by decide +kernel
theorem dL_law_674 : decode cL_law 674 = .ok (.i2l, 1) := by decide +kernel
theorem dL_law_675 : decode cL_law 675 = .ok (.lcmp, 1) := by decide +kernel
theorem dL_law_676 : decode cL_law 676 = .ok (.ifCond .eq 5, 3) := by decide +kernel
theorem dL_law_679 : decode cL_law 679 = .ok (.iconst 0, 1) := by decide +kernel
theorem dL_law_680 : decode cL_law 680 = .ok (.ireturn, 1) := by decide +kernel
theorem dL_law_681 : decode cL_law 681 = .ok (.goto 875, 3) := by decide +kernel
theorem dL_law_684 : decode cL_law 684 = .ok (.aload_n 1, 1) := by decide +kernel
theorem dL_law_685 : decode cL_law 685 = .ok (.aload_n 0, 1) := by decide +kernel
theorem dL_law_686 : decode cL_law 686 = .ok (.iload 4, 2) := by decide +kernel
theorem dL_law_688 : decode cL_law 688 = .ok (.iconst 1, 1) := by decide +kernel
theorem dL_law_689 : decode cL_law 689 = .ok (.iadd, 1) := by decide +kernel
theorem dL_law_690 : decode cL_law 690 = .ok (.iaload, 1) := by decide +kernel
theorem dL_law_691 : decode cL_law 691 = .ok (.aload_n 3, 1) := by decide +kernel
theorem dL_law_692 : decode cL_law 692 = .ok (.invokestatic 120, 3) := by decide +kernel
theorem dL_law_695 : decode cL_law 695 = .ok (.istore 5, 2) := by decide +kernel
theorem dL_law_697 : decode cL_law 697 = .ok (.aload_n 2, 1) := by decide +kernel
theorem dL_law_698 : decode cL_law 698 = .ok (.aload_n 0, 1) := by decide +kernel
theorem dL_law_699 : decode cL_law 699 = .ok (.iload 4, 2) := by decide +kernel
theorem dL_law_701 : decode cL_law 701 = .ok (.iconst 1, 1) := by decide +kernel
theorem dL_law_702 : decode cL_law 702 = .ok (.iadd, 1) := by decide +kernel
theorem dL_law_703 : decode cL_law 703 = .ok (.iaload, 1) := by decide +kernel
theorem dL_law_704 : decode cL_law 704 = .ok (.invokevirtual 122, 3) := by decide +kernel
theorem dL_law_707 : decode cL_law 707 = .ok (.istore 6, 2) := by decide +kernel
theorem dL_law_709 : decode cL_law 709 = .ok (.aload_n 2, 1) := by decide +kernel
theorem dL_law_710 : decode cL_law 710 = .ok (.invokevirtual 93, 3) := by decide +kernel
theorem dL_law_713 : decode cL_law 713 = .ok (.iload 5, 2) := by decide +kernel
theorem dL_law_715 : decode cL_law 715 = .ok (.if_icmp .eq 5, 3) := by decide +kernel
theorem dL_law_718 : decode cL_law 718 = .ok (.iconst 0, 1) := by decide +kernel
theorem dL_law_719 : decode cL_law 719 = .ok (.ireturn, 1) := by decide +kernel
theorem dL_law_720 : decode cL_law 720 = .ok (.iload 5, 2) := by decide +kernel
theorem dL_law_722 : decode cL_law 722 = .ok (.ifCond .ne 15, 3) := by decide +kernel
theorem dL_law_725 : decode cL_law 725 = .ok (.aload_n 3, 1) := by decide +kernel
theorem dL_law_726 : decode cL_law 726 = .ok (.iconst 0, 1) := by decide +kernel
theorem dL_law_727 : decode cL_law 727 = .ok (.laload, 1) := by decide +kernel
theorem dL_law_728 : decode cL_law 728 = .ok (.iload 6, 2) := by decide +kernel
theorem dL_law_730 : decode cL_law 730 = .ok (.i2l, 1) := by decide +kernel
theorem dL_law_731 : decode cL_law 731 = .ok (.lcmp, 1) := by decide +kernel
theorem dL_law_732 : decode cL_law 732 = .ok (.ifCond .eq 5, 3) := by decide +kernel
theorem dL_law_735 : decode cL_law 735 = .ok (.iconst 0, 1) := by decide +kernel
theorem dL_law_736 : decode cL_law 736 = .ok (.ireturn, 1) := by decide +kernel
theorem dL_law_737 : decode cL_law 737 = .ok (.goto 819, 3) := by decide +kernel
theorem dL_law_740 : decode cL_law 740 = .ok (.aload_n 1, 1) := by decide +kernel
theorem dL_law_741 : decode cL_law 741 = .ok (.invokevirtual 123, 3) := by decide +kernel
theorem dL_law_744 : decode cL_law 744 = .ok (.aload_n 2, 1) := by decide +kernel
theorem dL_law_745 : decode cL_law 745 = .ok (.invokevirtual 126, 3) := by decide +kernel
theorem dL_law_748 : decode cL_law 748 = .ok (.if_icmp .eq 808, 3) := by decide +kernel
theorem dL_law_751 : decode cL_law 751 = .ok (.iconst 0, 1) := by decide +kernel
theorem dL_law_752 : decode cL_law 752 = .ok (.ireturn, 1) := by decide +kernel
theorem dL_law_753 : decode cL_law 753 = .ok (.aload_n 1, 1) := by decide +kernel
theorem dL_law_754 : decode cL_law 754 = .ok (.aload_n 0, 1) := by decide +kernel
theorem dL_law_755 : decode cL_law 755 = .ok (.iload 4, 2) := by decide +kernel
theorem dL_law_757 : decode cL_law 757 = .ok (.iconst 1, 1) := by decide +kernel
theorem dL_law_758 : decode cL_law 758 = .ok (.iadd, 1) := by decide +kernel
theorem dL_law_759 : decode cL_law 759 = .ok (.iaload, 1) := by decide +kernel
theorem dL_law_760 : decode cL_law 760 = .ok (.aload_n 0, 1) := by decide +kernel
theorem dL_law_761 : decode cL_law 761 = .ok (.iload 4, 2) := by decide +kernel
theorem dL_law_763 : decode cL_law 763 = .ok (.iconst 2, 1) := by decide +kernel
theorem dL_law_764 : decode cL_law 764 = .ok (.iadd, 1) := by decide +kernel
theorem dL_law_765 : decode cL_law 765 = .ok (.iaload, 1) := by decide +kernel
theorem dL_law_766 : decode cL_law 766 = .ok (.aload_n 3, 1) := by decide +kernel
theorem dL_law_767 : decode cL_law 767 = .ok (.invokestatic 127, 3) := by decide +kernel
theorem dL_law_770 : decode cL_law 770 = .ok (.istore 5, 2) := by decide +kernel
theorem dL_law_772 : decode cL_law 772 = .ok (.aload_n 2, 1) := by decide +kernel
theorem dL_law_773 : decode cL_law 773 = .ok (.aload_n 0, 1) := by decide +kernel
theorem dL_law_774 : decode cL_law 774 = .ok (.iload 4, 2) := by decide +kernel
theorem dL_law_776 : decode cL_law 776 = .ok (.iconst 1, 1) := by decide +kernel
theorem dL_law_777 : decode cL_law 777 = .ok (.iadd, 1) := by decide +kernel
theorem dL_law_778 : decode cL_law 778 = .ok (.iaload, 1) := by decide +kernel
theorem dL_law_779 : decode cL_law 779 = .ok (.aload_n 0, 1) := by decide +kernel
theorem dL_law_780 : decode cL_law 780 = .ok (.iload 4, 2) := by decide +kernel
theorem dL_law_782 : decode cL_law 782 = .ok (.iconst 2, 1) := by decide +kernel
theorem dL_law_783 : decode cL_law 783 = .ok (.iadd, 1) := by decide +kernel
theorem dL_law_784 : decode cL_law 784 = .ok (.iaload, 1) := by decide +kernel
theorem dL_law_785 : decode cL_law 785 = .ok (.invokevirtual 129, 3) := by decide +kernel
theorem dL_law_788 : decode cL_law 788 = .ok (.istore 6, 2) := by decide +kernel
theorem dL_law_790 : decode cL_law 790 = .ok (.aload_n 2, 1) := by decide +kernel
theorem dL_law_791 : decode cL_law 791 = .ok (.invokevirtual 93, 3) := by decide +kernel
theorem dL_law_794 : decode cL_law 794 = .ok (.iload 5, 2) := by decide +kernel
theorem dL_law_796 : decode cL_law 796 = .ok (.if_icmp .eq 5, 3) := by decide +kernel
theorem dL_law_799 : decode cL_law 799 = .ok (.iconst 0, 1) := by decide +kernel
theorem dL_law_800 : decode cL_law 800 = .ok (.ireturn, 1) := by decide +kernel
theorem dL_law_801 : decode cL_law 801 = .ok (.iload 5, 2) := by decide +kernel
theorem dL_law_803 : decode cL_law 803 = .ok (.ifCond .ne 15, 3) := by decide +kernel
theorem dL_law_806 : decode cL_law 806 = .ok (.aload_n 3, 1) := by decide +kernel
theorem dL_law_807 : decode cL_law 807 = .ok (.iconst 0, 1) := by decide +kernel
theorem dL_law_808 : decode cL_law 808 = .ok (.laload, 1) := by decide +kernel
theorem dL_law_809 : decode cL_law 809 = .ok (.iload 6, 2) := by decide +kernel
theorem dL_law_811 : decode cL_law 811 = .ok (.i2l, 1) := by decide +kernel
theorem dL_law_812 : decode cL_law 812 = .ok (.lcmp, 1) := by decide +kernel
theorem dL_law_813 : decode cL_law 813 = .ok (.ifCond .eq 5, 3) := by decide +kernel
theorem dL_law_816 : decode cL_law 816 = .ok (.iconst 0, 1) := by decide +kernel
theorem dL_law_817 : decode cL_law 817 = .ok (.ireturn, 1) := by decide +kernel
theorem dL_law_818 : decode cL_law 818 = .ok (.goto 738, 3) := by decide +kernel
theorem dL_law_821 : decode cL_law 821 = .ok (.aload_n 1, 1) := by decide +kernel
theorem dL_law_822 : decode cL_law 822 = .ok (.aload_n 0, 1) := by decide +kernel
theorem dL_law_823 : decode cL_law 823 = .ok (.iload 4, 2) := by decide +kernel
theorem dL_law_825 : decode cL_law 825 = .ok (.iconst 1, 1) := by decide +kernel
theorem dL_law_826 : decode cL_law 826 = .ok (.iadd, 1) := by decide +kernel
theorem dL_law_827 : decode cL_law 827 = .ok (.iaload, 1) := by decide +kernel
theorem dL_law_828 : decode cL_law 828 = .ok (.aload_n 0, 1) := by decide +kernel
theorem dL_law_829 : decode cL_law 829 = .ok (.iload 4, 2) := by decide +kernel
theorem dL_law_831 : decode cL_law 831 = .ok (.iconst 2, 1) := by decide +kernel
theorem dL_law_832 : decode cL_law 832 = .ok (.iadd, 1) := by decide +kernel
theorem dL_law_833 : decode cL_law 833 = .ok (.iaload, 1) := by decide +kernel
theorem dL_law_834 : decode cL_law 834 = .ok (.aload_n 0, 1) := by decide +kernel
theorem dL_law_835 : decode cL_law 835 = .ok (.iload 4, 2) := by decide +kernel
theorem dL_law_837 : decode cL_law 837 = .ok (.iconst 3, 1) := by decide +kernel
theorem dL_law_838 : decode cL_law 838 = .ok (.iadd, 1) := by decide +kernel
theorem dL_law_839 : decode cL_law 839 = .ok (.iaload, 1) := by decide +kernel
theorem dL_law_840 : decode cL_law 840 = .ok (.aload_n 0, 1) := by decide +kernel
theorem dL_law_841 : decode cL_law 841 = .ok (.iload 4, 2) := by decide +kernel
theorem dL_law_843 : decode cL_law 843 = .ok (.iconst 4, 1) := by decide +kernel
theorem dL_law_844 : decode cL_law 844 = .ok (.iadd, 1) := by decide +kernel
theorem dL_law_845 : decode cL_law 845 = .ok (.iaload, 1) := by decide +kernel
theorem dL_law_846 : decode cL_law 846 = .ok (.aload_n 3, 1) := by decide +kernel
theorem dL_law_847 : decode cL_law 847 = .ok (.invokestatic 130, 3) := by decide +kernel
theorem dL_law_850 : decode cL_law 850 = .ok (.istore 5, 2) := by decide +kernel
theorem dL_law_852 : decode cL_law 852 = .ok (.aload_n 2, 1) := by decide +kernel
theorem dL_law_853 : decode cL_law 853 = .ok (.aload_n 0, 1) := by decide +kernel
theorem dL_law_854 : decode cL_law 854 = .ok (.iload 4, 2) := by decide +kernel
theorem dL_law_856 : decode cL_law 856 = .ok (.iconst 1, 1) := by decide +kernel
theorem dL_law_857 : decode cL_law 857 = .ok (.iadd, 1) := by decide +kernel
theorem dL_law_858 : decode cL_law 858 = .ok (.iaload, 1) := by decide +kernel
theorem dL_law_859 : decode cL_law 859 = .ok (.aload_n 0, 1) := by decide +kernel
theorem dL_law_860 : decode cL_law 860 = .ok (.iload 4, 2) := by decide +kernel
theorem dL_law_862 : decode cL_law 862 = .ok (.iconst 2, 1) := by decide +kernel
theorem dL_law_863 : decode cL_law 863 = .ok (.iadd, 1) := by decide +kernel
theorem dL_law_864 : decode cL_law 864 = .ok (.iaload, 1) := by decide +kernel
theorem dL_law_865 : decode cL_law 865 = .ok (.aload_n 0, 1) := by decide +kernel
theorem dL_law_866 : decode cL_law 866 = .ok (.iload 4, 2) := by decide +kernel
theorem dL_law_868 : decode cL_law 868 = .ok (.iconst 3, 1) := by decide +kernel
theorem dL_law_869 : decode cL_law 869 = .ok (.iadd, 1) := by decide +kernel
theorem dL_law_870 : decode cL_law 870 = .ok (.iaload, 1) := by decide +kernel
theorem dL_law_871 : decode cL_law 871 = .ok (.aload_n 0, 1) := by decide +kernel
theorem dL_law_872 : decode cL_law 872 = .ok (.iload 4, 2) := by decide +kernel
theorem dL_law_874 : decode cL_law 874 = .ok (.iconst 4, 1) := by decide +kernel
theorem dL_law_875 : decode cL_law 875 = .ok (.iadd, 1) := by decide +kernel
theorem dL_law_876 : decode cL_law 876 = .ok (.iaload, 1) := by decide +kernel
theorem dL_law_877 : decode cL_law 877 = .ok (.invokevirtual 133, 3) := by decide +kernel
theorem dL_law_880 : decode cL_law 880 = .ok (.istore 6, 2) := by decide +kernel
theorem dL_law_882 : decode cL_law 882 = .ok (.aload_n 2, 1) := by decide +kernel
theorem dL_law_883 : decode cL_law 883 = .ok (.invokevirtual 93, 3) := by decide +kernel
theorem dL_law_886 : decode cL_law 886 = .ok (.iload 5, 2) := by decide +kernel
theorem dL_law_888 : decode cL_law 888 = .ok (.if_icmp .eq 5, 3) := by decide +kernel
theorem dL_law_891 : decode cL_law 891 = .ok (.iconst 0, 1) := by decide +kernel
theorem dL_law_892 : decode cL_law 892 = .ok (.ireturn, 1) := by decide +kernel
theorem dL_law_893 : decode cL_law 893 = .ok (.iload 5, 2) := by decide +kernel
theorem dL_law_895 : decode cL_law 895 = .ok (.ifCond .ne 15, 3) := by decide +kernel
theorem dL_law_898 : decode cL_law 898 = .ok (.aload_n 3, 1) := by decide +kernel
theorem dL_law_899 : decode cL_law 899 = .ok (.iconst 0, 1) := by decide +kernel
theorem dL_law_900 : decode cL_law 900 = .ok (.laload, 1) := by decide +kernel
theorem dL_law_901 : decode cL_law 901 = .ok (.iload 6, 2) := by decide +kernel
theorem dL_law_903 : decode cL_law 903 = .ok (.i2l, 1) := by decide +kernel
theorem dL_law_904 : decode cL_law 904 = .ok (.lcmp, 1) := by decide +kernel
theorem dL_law_905 : decode cL_law 905 = .ok (.ifCond .eq 5, 3) := by decide +kernel
theorem dL_law_908 : decode cL_law 908 = .ok (.iconst 0, 1) := by decide +kernel
theorem dL_law_909 : decode cL_law 909 = .ok (.ireturn, 1) := by decide +kernel
theorem dL_law_910 : decode cL_law 910 = .ok (.goto 646, 3) := by decide +kernel
theorem dL_law_913 : decode cL_law 913 = .ok (.aload_n 1, 1) := by decide +kernel
theorem dL_law_914 : decode cL_law 914 = .ok (.aload_n 0, 1) := by decide +kernel
theorem dL_law_915 : decode cL_law 915 = .ok (.iload 4, 2) := by decide +kernel
theorem dL_law_917 : decode cL_law 917 = .ok (.iconst 1, 1) := by decide +kernel
theorem dL_law_918 : decode cL_law 918 = .ok (.iadd, 1) := by decide +kernel
theorem dL_law_919 : decode cL_law 919 = .ok (.iaload, 1) := by decide +kernel
theorem dL_law_920 : decode cL_law 920 = .ok (.aload_n 0, 1) := by decide +kernel
theorem dL_law_921 : decode cL_law 921 = .ok (.iload 4, 2) := by decide +kernel
theorem dL_law_923 : decode cL_law 923 = .ok (.iconst 2, 1) := by decide +kernel
theorem dL_law_924 : decode cL_law 924 = .ok (.iadd, 1) := by decide +kernel
theorem dL_law_925 : decode cL_law 925 = .ok (.iaload, 1) := by decide +kernel
theorem dL_law_926 : decode cL_law 926 = .ok (.aload_n 0, 1) := by decide +kernel
theorem dL_law_927 : decode cL_law 927 = .ok (.iload 4, 2) := by decide +kernel
theorem dL_law_929 : decode cL_law 929 = .ok (.iconst 3, 1) := by decide +kernel
theorem dL_law_930 : decode cL_law 930 = .ok (.iadd, 1) := by decide +kernel
theorem dL_law_931 : decode cL_law 931 = .ok (.iaload, 1) := by decide +kernel
theorem dL_law_932 : decode cL_law 932 = .ok (.aload_n 0, 1) := by decide +kernel
theorem dL_law_933 : decode cL_law 933 = .ok (.iload 4, 2) := by decide +kernel
theorem dL_law_935 : decode cL_law 935 = .ok (.iconst 4, 1) := by decide +kernel
theorem dL_law_936 : decode cL_law 936 = .ok (.iadd, 1) := by decide +kernel
theorem dL_law_937 : decode cL_law 937 = .ok (.iaload, 1) := by decide +kernel
theorem dL_law_938 : decode cL_law 938 = .ok (.aload_n 3, 1) := by decide +kernel
theorem dL_law_939 : decode cL_law 939 = .ok (.invokestatic 134, 3) := by decide +kernel
theorem dL_law_942 : decode cL_law 942 = .ok (.istore 5, 2) := by decide +kernel
theorem dL_law_944 : decode cL_law 944 = .ok (.aload_n 2, 1) := by decide +kernel
theorem dL_law_945 : decode cL_law 945 = .ok (.aload_n 0, 1) := by decide +kernel
theorem dL_law_946 : decode cL_law 946 = .ok (.iload 4, 2) := by decide +kernel
theorem dL_law_948 : decode cL_law 948 = .ok (.iconst 1, 1) := by decide +kernel
theorem dL_law_949 : decode cL_law 949 = .ok (.iadd, 1) := by decide +kernel
theorem dL_law_950 : decode cL_law 950 = .ok (.iaload, 1) := by decide +kernel
theorem dL_law_951 : decode cL_law 951 = .ok (.aload_n 0, 1) := by decide +kernel
theorem dL_law_952 : decode cL_law 952 = .ok (.iload 4, 2) := by decide +kernel
theorem dL_law_954 : decode cL_law 954 = .ok (.iconst 2, 1) := by decide +kernel
theorem dL_law_955 : decode cL_law 955 = .ok (.iadd, 1) := by decide +kernel
theorem dL_law_956 : decode cL_law 956 = .ok (.iaload, 1) := by decide +kernel
theorem dL_law_957 : decode cL_law 957 = .ok (.aload_n 0, 1) := by decide +kernel
theorem dL_law_958 : decode cL_law 958 = .ok (.iload 4, 2) := by decide +kernel
theorem dL_law_960 : decode cL_law 960 = .ok (.iconst 3, 1) := by decide +kernel
theorem dL_law_961 : decode cL_law 961 = .ok (.iadd, 1) := by decide +kernel
theorem dL_law_962 : decode cL_law 962 = .ok (.iaload, 1) := by decide +kernel
theorem dL_law_963 : decode cL_law 963 = .ok (.aload_n 0, 1) := by decide +kernel
theorem dL_law_964 : decode cL_law 964 = .ok (.iload 4, 2) := by decide +kernel
theorem dL_law_966 : decode cL_law 966 = .ok (.iconst 4, 1) := by decide +kernel
theorem dL_law_967 : decode cL_law 967 = .ok (.iadd, 1) := by decide +kernel
theorem dL_law_968 : decode cL_law 968 = .ok (.iaload, 1) := by decide +kernel
theorem dL_law_969 : decode cL_law 969 = .ok (.invokevirtual 136, 3) := by decide +kernel
theorem dL_law_972 : decode cL_law 972 = .ok (.istore 6, 2) := by decide +kernel
theorem dL_law_974 : decode cL_law 974 = .ok (.aload_n 2, 1) := by decide +kernel
theorem dL_law_975 : decode cL_law 975 = .ok (.invokevirtual 93, 3) := by decide +kernel
theorem dL_law_978 : decode cL_law 978 = .ok (.iload 5, 2) := by decide +kernel
theorem dL_law_980 : decode cL_law 980 = .ok (.if_icmp .eq 5, 3) := by decide +kernel
theorem dL_law_983 : decode cL_law 983 = .ok (.iconst 0, 1) := by decide +kernel
theorem dL_law_984 : decode cL_law 984 = .ok (.ireturn, 1) := by decide +kernel
theorem dL_law_985 : decode cL_law 985 = .ok (.iload 5, 2) := by decide +kernel
theorem dL_law_987 : decode cL_law 987 = .ok (.ifCond .ne 22, 3) := by decide +kernel
theorem dL_law_990 : decode cL_law 990 = .ok (.aload_n 3, 1) := by decide +kernel
theorem dL_law_991 : decode cL_law 991 = .ok (.iconst 0, 1) := by decide +kernel
theorem dL_law_992 : decode cL_law 992 = .ok (.laload, 1) := by decide +kernel
theorem dL_law_993 : decode cL_law 993 = .ok (.iload 6, 2) := by decide +kernel
theorem dL_law_995 : decode cL_law 995 = .ok (.ifCond .eq 7, 3) := by decide +kernel
theorem dL_law_998 : decode cL_law 998 = .ok (.lconst 1, 1) := by decide +kernel
theorem dL_law_999 : decode cL_law 999 = .ok (.goto 4, 3) := by decide +kernel
theorem dL_law_1002 : decode cL_law 1002 = .ok (.lconst 0, 1) := by decide +kernel
theorem dL_law_1003 : decode cL_law 1003 = .ok (.lcmp, 1) := by decide +kernel
theorem dL_law_1004 : decode cL_law 1004 = .ok (.ifCond .eq 5, 3) := by decide +kernel
theorem dL_law_1007 : decode cL_law 1007 = .ok (.iconst 0, 1) := by decide +kernel
theorem dL_law_1008 : decode cL_law 1008 = .ok (.ireturn, 1) := by decide +kernel
theorem dL_law_1009 : decode cL_law 1009 = .ok (.goto 547, 3) := by decide +kernel
theorem dL_law_1012 : decode cL_law 1012 = .ok (.aload_n 1, 1) := by decide +kernel
theorem dL_law_1013 : decode cL_law 1013 = .ok (.aload_n 0, 1) := by decide +kernel
theorem dL_law_1014 : decode cL_law 1014 = .ok (.iload 4, 2) := by decide +kernel
theorem dL_law_1016 : decode cL_law 1016 = .ok (.iconst 1, 1) := by decide +kernel
theorem dL_law_1017 : decode cL_law 1017 = .ok (.iadd, 1) := by decide +kernel
theorem dL_law_1018 : decode cL_law 1018 = .ok (.iaload, 1) := by decide +kernel
theorem dL_law_1019 : decode cL_law 1019 = .ok (.aload_n 0, 1) := by decide +kernel
theorem dL_law_1020 : decode cL_law 1020 = .ok (.iload 4, 2) := by decide +kernel
theorem dL_law_1022 : decode cL_law 1022 = .ok (.iconst 2, 1) := by decide +kernel
theorem dL_law_1023 : decode cL_law 1023 = .ok (.iadd, 1) := by decide +kernel
theorem dL_law_1024 : decode cL_law 1024 = .ok (.iaload, 1) := by decide +kernel
theorem dL_law_1025 : decode cL_law 1025 = .ok (.aload_n 0, 1) := by decide +kernel
theorem dL_law_1026 : decode cL_law 1026 = .ok (.iload 4, 2) := by decide +kernel
theorem dL_law_1028 : decode cL_law 1028 = .ok (.iconst 3, 1) := by decide +kernel
theorem dL_law_1029 : decode cL_law 1029 = .ok (.iadd, 1) := by decide +kernel
theorem dL_law_1030 : decode cL_law 1030 = .ok (.iaload, 1) := by decide +kernel
theorem dL_law_1031 : decode cL_law 1031 = .ok (.aload_n 0, 1) := by decide +kernel
theorem dL_law_1032 : decode cL_law 1032 = .ok (.iload 4, 2) := by decide +kernel
theorem dL_law_1034 : decode cL_law 1034 = .ok (.iconst 4, 1) := by decide +kernel
theorem dL_law_1035 : decode cL_law 1035 = .ok (.iadd, 1) := by decide +kernel
theorem dL_law_1036 : decode cL_law 1036 = .ok (.iaload, 1) := by decide +kernel
theorem dL_law_1037 : decode cL_law 1037 = .ok (.aload_n 3, 1) := by decide +kernel
theorem dL_law_1038 : decode cL_law 1038 = .ok (.invokestatic 137, 3) := by decide +kernel
theorem dL_law_1041 : decode cL_law 1041 = .ok (.istore 5, 2) := by decide +kernel
theorem dL_law_1043 : decode cL_law 1043 = .ok (.aload_n 2, 1) := by decide +kernel
theorem dL_law_1044 : decode cL_law 1044 = .ok (.aload_n 0, 1) := by decide +kernel
theorem dL_law_1045 : decode cL_law 1045 = .ok (.iload 4, 2) := by decide +kernel
theorem dL_law_1047 : decode cL_law 1047 = .ok (.iconst 1, 1) := by decide +kernel
theorem dL_law_1048 : decode cL_law 1048 = .ok (.iadd, 1) := by decide +kernel
theorem dL_law_1049 : decode cL_law 1049 = .ok (.iaload, 1) := by decide +kernel
theorem dL_law_1050 : decode cL_law 1050 = .ok (.aload_n 0, 1) := by decide +kernel
theorem dL_law_1051 : decode cL_law 1051 = .ok (.iload 4, 2) := by decide +kernel
theorem dL_law_1053 : decode cL_law 1053 = .ok (.iconst 2, 1) := by decide +kernel
theorem dL_law_1054 : decode cL_law 1054 = .ok (.iadd, 1) := by decide +kernel
theorem dL_law_1055 : decode cL_law 1055 = .ok (.iaload, 1) := by decide +kernel
theorem dL_law_1056 : decode cL_law 1056 = .ok (.aload_n 0, 1) := by decide +kernel
theorem dL_law_1057 : decode cL_law 1057 = .ok (.iload 4, 2) := by decide +kernel
theorem dL_law_1059 : decode cL_law 1059 = .ok (.iconst 3, 1) := by decide +kernel
theorem dL_law_1060 : decode cL_law 1060 = .ok (.iadd, 1) := by decide +kernel
theorem dL_law_1061 : decode cL_law 1061 = .ok (.iaload, 1) := by decide +kernel
theorem dL_law_1062 : decode cL_law 1062 = .ok (.aload_n 0, 1) := by decide +kernel
theorem dL_law_1063 : decode cL_law 1063 = .ok (.iload 4, 2) := by decide +kernel
theorem dL_law_1065 : decode cL_law 1065 = .ok (.iconst 4, 1) := by decide +kernel
theorem dL_law_1066 : decode cL_law 1066 = .ok (.iadd, 1) := by decide +kernel
theorem dL_law_1067 : decode cL_law 1067 = .ok (.iaload, 1) := by decide +kernel
theorem dL_law_1068 : decode cL_law 1068 = .ok (.invokevirtual 139, 3) := by decide +kernel
theorem dL_law_1071 : decode cL_law 1071 = .ok (.istore 6, 2) := by decide +kernel
theorem dL_law_1073 : decode cL_law 1073 = .ok (.aload_n 2, 1) := by decide +kernel
theorem dL_law_1074 : decode cL_law 1074 = .ok (.invokevirtual 93, 3) := by decide +kernel
theorem dL_law_1077 : decode cL_law 1077 = .ok (.iload 5, 2) := by decide +kernel
theorem dL_law_1079 : decode cL_law 1079 = .ok (.if_icmp .eq 5, 3) := by decide +kernel
theorem dL_law_1082 : decode cL_law 1082 = .ok (.iconst 0, 1) := by decide +kernel
theorem dL_law_1083 : decode cL_law 1083 = .ok (.ireturn, 1) := by decide +kernel
theorem dL_law_1084 : decode cL_law 1084 = .ok (.iload 5, 2) := by decide +kernel
theorem dL_law_1086 : decode cL_law 1086 = .ok (.ifCond .ne 22, 3) := by decide +kernel
theorem dL_law_1089 : decode cL_law 1089 = .ok (.aload_n 3, 1) := by decide +kernel
theorem dL_law_1090 : decode cL_law 1090 = .ok (.iconst 0, 1) := by decide +kernel
theorem dL_law_1091 : decode cL_law 1091 = .ok (.laload, 1) := by decide +kernel
theorem dL_law_1092 : decode cL_law 1092 = .ok (.iload 6, 2) := by decide +kernel
theorem dL_law_1094 : decode cL_law 1094 = .ok (.ifCond .eq 7, 3) := by decide +kernel
theorem dL_law_1097 : decode cL_law 1097 = .ok (.lconst 1, 1) := by decide +kernel
theorem dL_law_1098 : decode cL_law 1098 = .ok (.goto 4, 3) := by decide +kernel
theorem dL_law_1101 : decode cL_law 1101 = .ok (.lconst 0, 1) := by decide +kernel
theorem dL_law_1102 : decode cL_law 1102 = .ok (.lcmp, 1) := by decide +kernel
theorem dL_law_1103 : decode cL_law 1103 = .ok (.ifCond .eq 5, 3) := by decide +kernel
theorem dL_law_1106 : decode cL_law 1106 = .ok (.iconst 0, 1) := by decide +kernel
theorem dL_law_1107 : decode cL_law 1107 = .ok (.ireturn, 1) := by decide +kernel
theorem dL_law_1108 : decode cL_law 1108 = .ok (.goto 448, 3) := by decide +kernel
theorem dL_law_1111 : decode cL_law 1111 = .ok (.aload_n 1, 1) := by decide +kernel
theorem dL_law_1112 : decode cL_law 1112 = .ok (.aload_n 0, 1) := by decide +kernel
theorem dL_law_1113 : decode cL_law 1113 = .ok (.iload 4, 2) := by decide +kernel
theorem dL_law_1115 : decode cL_law 1115 = .ok (.iconst 1, 1) := by decide +kernel
theorem dL_law_1116 : decode cL_law 1116 = .ok (.iadd, 1) := by decide +kernel
theorem dL_law_1117 : decode cL_law 1117 = .ok (.iaload, 1) := by decide +kernel
theorem dL_law_1118 : decode cL_law 1118 = .ok (.aload_n 3, 1) := by decide +kernel
theorem dL_law_1119 : decode cL_law 1119 = .ok (.invokestatic 140, 3) := by decide +kernel
theorem dL_law_1122 : decode cL_law 1122 = .ok (.istore 5, 2) := by decide +kernel
theorem dL_law_1124 : decode cL_law 1124 = .ok (.aload_n 2, 1) := by decide +kernel
theorem dL_law_1125 : decode cL_law 1125 = .ok (.aload_n 0, 1) := by decide +kernel
theorem dL_law_1126 : decode cL_law 1126 = .ok (.iload 4, 2) := by decide +kernel
theorem dL_law_1128 : decode cL_law 1128 = .ok (.iconst 1, 1) := by decide +kernel
theorem dL_law_1129 : decode cL_law 1129 = .ok (.iadd, 1) := by decide +kernel
theorem dL_law_1130 : decode cL_law 1130 = .ok (.iaload, 1) := by decide +kernel
theorem dL_law_1131 : decode cL_law 1131 = .ok (.invokevirtual 142, 3) := by decide +kernel
theorem dL_law_1134 : decode cL_law 1134 = .ok (.istore 6, 2) := by decide +kernel
theorem dL_law_1136 : decode cL_law 1136 = .ok (.aload_n 2, 1) := by decide +kernel
theorem dL_law_1137 : decode cL_law 1137 = .ok (.invokevirtual 93, 3) := by decide +kernel
theorem dL_law_1140 : decode cL_law 1140 = .ok (.iload 5, 2) := by decide +kernel
theorem dL_law_1142 : decode cL_law 1142 = .ok (.if_icmp .eq 5, 3) := by decide +kernel
theorem dL_law_1145 : decode cL_law 1145 = .ok (.iconst 0, 1) := by decide +kernel
theorem dL_law_1146 : decode cL_law 1146 = .ok (.ireturn, 1) := by decide +kernel
theorem dL_law_1147 : decode cL_law 1147 = .ok (.iload 5, 2) := by decide +kernel
theorem dL_law_1149 : decode cL_law 1149 = .ok (.ifCond .ne 15, 3) := by decide +kernel
theorem dL_law_1152 : decode cL_law 1152 = .ok (.aload_n 3, 1) := by decide +kernel
theorem dL_law_1153 : decode cL_law 1153 = .ok (.iconst 0, 1) := by decide +kernel
theorem dL_law_1154 : decode cL_law 1154 = .ok (.laload, 1) := by decide +kernel
theorem dL_law_1155 : decode cL_law 1155 = .ok (.iload 6, 2) := by decide +kernel
theorem dL_law_1157 : decode cL_law 1157 = .ok (.i2l, 1) := by decide +kernel
theorem dL_law_1158 : decode cL_law 1158 = .ok (.lcmp, 1) := by decide +kernel
theorem dL_law_1159 : decode cL_law 1159 = .ok (.ifCond .eq 5, 3) := by decide +kernel
theorem dL_law_1162 : decode cL_law 1162 = .ok (.iconst 0, 1) := by decide +kernel
theorem dL_law_1163 : decode cL_law 1163 = .ok (.ireturn, 1) := by decide +kernel
theorem dL_law_1164 : decode cL_law 1164 = .ok (.goto 392, 3) := by decide +kernel
theorem dL_law_1167 : decode cL_law 1167 = .ok (.aload_n 1, 1) := by decide +kernel
theorem dL_law_1168 : decode cL_law 1168 = .ok (.aload_n 0, 1) := by decide +kernel
theorem dL_law_1169 : decode cL_law 1169 = .ok (.iload 4, 2) := by decide +kernel
theorem dL_law_1171 : decode cL_law 1171 = .ok (.iconst 1, 1) := by decide +kernel
theorem dL_law_1172 : decode cL_law 1172 = .ok (.iadd, 1) := by decide +kernel
theorem dL_law_1173 : decode cL_law 1173 = .ok (.iaload, 1) := by decide +kernel
theorem dL_law_1174 : decode cL_law 1174 = .ok (.aload_n 3, 1) := by decide +kernel
theorem dL_law_1175 : decode cL_law 1175 = .ok (.invokestatic 143, 3) := by decide +kernel
theorem dL_law_1178 : decode cL_law 1178 = .ok (.istore 5, 2) := by decide +kernel
theorem dL_law_1180 : decode cL_law 1180 = .ok (.aload_n 2, 1) := by decide +kernel
theorem dL_law_1181 : decode cL_law 1181 = .ok (.aload_n 0, 1) := by decide +kernel
theorem dL_law_1182 : decode cL_law 1182 = .ok (.iload 4, 2) := by decide +kernel
theorem dL_law_1184 : decode cL_law 1184 = .ok (.iconst 1, 1) := by decide +kernel
theorem dL_law_1185 : decode cL_law 1185 = .ok (.iadd, 1) := by decide +kernel
theorem dL_law_1186 : decode cL_law 1186 = .ok (.iaload, 1) := by decide +kernel
theorem dL_law_1187 : decode cL_law 1187 = .ok (.invokevirtual 145, 3) := by decide +kernel
theorem dL_law_1190 : decode cL_law 1190 = .ok (.istore 6, 2) := by decide +kernel
theorem dL_law_1192 : decode cL_law 1192 = .ok (.aload_n 2, 1) := by decide +kernel
theorem dL_law_1193 : decode cL_law 1193 = .ok (.invokevirtual 93, 3) := by decide +kernel
theorem dL_law_1196 : decode cL_law 1196 = .ok (.iload 5, 2) := by decide +kernel
theorem dL_law_1198 : decode cL_law 1198 = .ok (.if_icmp .eq 5, 3) := by decide +kernel
theorem dL_law_1201 : decode cL_law 1201 = .ok (.iconst 0, 1) := by decide +kernel
theorem dL_law_1202 : decode cL_law 1202 = .ok (.ireturn, 1) := by decide +kernel
theorem dL_law_1203 : decode cL_law 1203 = .ok (.iload 5, 2) := by decide +kernel
theorem dL_law_1205 : decode cL_law 1205 = .ok (.ifCond .ne 15, 3) := by decide +kernel
theorem dL_law_1208 : decode cL_law 1208 = .ok (.aload_n 3, 1) := by decide +kernel
theorem dL_law_1209 : decode cL_law 1209 = .ok (.iconst 0, 1) := by decide +kernel
theorem dL_law_1210 : decode cL_law 1210 = .ok (.laload, 1) := by decide +kernel
theorem dL_law_1211 : decode cL_law 1211 = .ok (.iload 6, 2) := by decide +kernel
theorem dL_law_1213 : decode cL_law 1213 = .ok (.i2l, 1) := by decide +kernel
theorem dL_law_1214 : decode cL_law 1214 = .ok (.lcmp, 1) := by decide +kernel
theorem dL_law_1215 : decode cL_law 1215 = .ok (.ifCond .eq 5, 3) := by decide +kernel
theorem dL_law_1218 : decode cL_law 1218 = .ok (.iconst 0, 1) := by decide +kernel
theorem dL_law_1219 : decode cL_law 1219 = .ok (.ireturn, 1) := by decide +kernel
theorem dL_law_1220 : decode cL_law 1220 = .ok (.goto 336, 3) := by decide +kernel
theorem dL_law_1223 : decode cL_law 1223 = .ok (.aload_n 1, 1) := by decide +kernel
theorem dL_law_1224 : decode cL_law 1224 = .ok (.aload_n 0, 1) := by decide +kernel
theorem dL_law_1225 : decode cL_law 1225 = .ok (.iload 4, 2) := by decide +kernel
theorem dL_law_1227 : decode cL_law 1227 = .ok (.iconst 1, 1) := by decide +kernel
theorem dL_law_1228 : decode cL_law 1228 = .ok (.iadd, 1) := by decide +kernel
theorem dL_law_1229 : decode cL_law 1229 = .ok (.iaload, 1) := by decide +kernel
theorem dL_law_1230 : decode cL_law 1230 = .ok (.aload_n 0, 1) := by decide +kernel
theorem dL_law_1231 : decode cL_law 1231 = .ok (.iload 4, 2) := by decide +kernel
theorem dL_law_1233 : decode cL_law 1233 = .ok (.iconst 2, 1) := by decide +kernel
theorem dL_law_1234 : decode cL_law 1234 = .ok (.iadd, 1) := by decide +kernel
theorem dL_law_1235 : decode cL_law 1235 = .ok (.iaload, 1) := by decide +kernel
theorem dL_law_1236 : decode cL_law 1236 = .ok (.aload_n 3, 1) := by decide +kernel
theorem dL_law_1237 : decode cL_law 1237 = .ok (.invokestatic 146, 3) := by decide +kernel
theorem dL_law_1240 : decode cL_law 1240 = .ok (.istore 5, 2) := by decide +kernel
theorem dL_law_1242 : decode cL_law 1242 = .ok (.aload_n 2, 1) := by decide +kernel
theorem dL_law_1243 : decode cL_law 1243 = .ok (.aload_n 0, 1) := by decide +kernel
theorem dL_law_1244 : decode cL_law 1244 = .ok (.iload 4, 2) := by decide +kernel
theorem dL_law_1246 : decode cL_law 1246 = .ok (.iconst 1, 1) := by decide +kernel
theorem dL_law_1247 : decode cL_law 1247 = .ok (.iadd, 1) := by decide +kernel
theorem dL_law_1248 : decode cL_law 1248 = .ok (.iaload, 1) := by decide +kernel
theorem dL_law_1249 : decode cL_law 1249 = .ok (.aload_n 0, 1) := by decide +kernel
theorem dL_law_1250 : decode cL_law 1250 = .ok (.iload 4, 2) := by decide +kernel
theorem dL_law_1252 : decode cL_law 1252 = .ok (.iconst 2, 1) := by decide +kernel
theorem dL_law_1253 : decode cL_law 1253 = .ok (.iadd, 1) := by decide +kernel
theorem dL_law_1254 : decode cL_law 1254 = .ok (.iaload, 1) := by decide +kernel
theorem dL_law_1255 : decode cL_law 1255 = .ok (.invokevirtual 148, 3) := by decide +kernel
theorem dL_law_1258 : decode cL_law 1258 = .ok (.istore 6, 2) := by decide +kernel
theorem dL_law_1260 : decode cL_law 1260 = .ok (.aload_n 2, 1) := by decide +kernel
theorem dL_law_1261 : decode cL_law 1261 = .ok (.invokevirtual 93, 3) := by decide +kernel
theorem dL_law_1264 : decode cL_law 1264 = .ok (.iload 5, 2) := by decide +kernel
theorem dL_law_1266 : decode cL_law 1266 = .ok (.if_icmp .eq 5, 3) := by decide +kernel
theorem dL_law_1269 : decode cL_law 1269 = .ok (.iconst 0, 1) := by decide +kernel
theorem dL_law_1270 : decode cL_law 1270 = .ok (.ireturn, 1) := by decide +kernel
theorem dL_law_1271 : decode cL_law 1271 = .ok (.iload 5, 2) := by decide +kernel
theorem dL_law_1273 : decode cL_law 1273 = .ok (.ifCond .ne 15, 3) := by decide +kernel
theorem dL_law_1276 : decode cL_law 1276 = .ok (.aload_n 3, 1) := by decide +kernel
theorem dL_law_1277 : decode cL_law 1277 = .ok (.iconst 0, 1) := by decide +kernel
theorem dL_law_1278 : decode cL_law 1278 = .ok (.laload, 1) := by decide +kernel
theorem dL_law_1279 : decode cL_law 1279 = .ok (.iload 6, 2) := by decide +kernel
theorem dL_law_1281 : decode cL_law 1281 = .ok (.i2l, 1) := by decide +kernel
theorem dL_law_1282 : decode cL_law 1282 = .ok (.lcmp, 1) := by decide +kernel
theorem dL_law_1283 : decode cL_law 1283 = .ok (.ifCond .eq 5, 3) := by decide +kernel
theorem dL_law_1286 : decode cL_law 1286 = .ok (.iconst 0, 1) := by decide +kernel
theorem dL_law_1287 : decode cL_law 1287 = .ok (.ireturn, 1) := by decide +kernel
theorem dL_law_1288 : decode cL_law 1288 = .ok (.goto 268, 3) := by decide +kernel
theorem dL_law_1291 : decode cL_law 1291 = .ok (.aload_n 1, 1) := by decide +kernel
theorem dL_law_1292 : decode cL_law 1292 = .ok (.aload_n 0, 1) := by decide +kernel
theorem dL_law_1293 : decode cL_law 1293 = .ok (.iload 4, 2) := by decide +kernel
theorem dL_law_1295 : decode cL_law 1295 = .ok (.iconst 1, 1) := by decide +kernel
theorem dL_law_1296 : decode cL_law 1296 = .ok (.iadd, 1) := by decide +kernel
theorem dL_law_1297 : decode cL_law 1297 = .ok (.iaload, 1) := by decide +kernel
theorem dL_law_1298 : decode cL_law 1298 = .ok (.aload_n 0, 1) := by decide +kernel
theorem dL_law_1299 : decode cL_law 1299 = .ok (.iload 4, 2) := by decide +kernel
theorem dL_law_1301 : decode cL_law 1301 = .ok (.iconst 2, 1) := by decide +kernel
theorem dL_law_1302 : decode cL_law 1302 = .ok (.iadd, 1) := by decide +kernel
theorem dL_law_1303 : decode cL_law 1303 = .ok (.iaload, 1) := by decide +kernel
theorem dL_law_1304 : decode cL_law 1304 = .ok (.aload_n 0, 1) := by decide +kernel
theorem dL_law_1305 : decode cL_law 1305 = .ok (.iload 4, 2) := by decide +kernel
theorem dL_law_1307 : decode cL_law 1307 = .ok (.iconst 3, 1) := by decide +kernel
theorem dL_law_1308 : decode cL_law 1308 = .ok (.iadd, 1) := by decide +kernel
theorem dL_law_1309 : decode cL_law 1309 = .ok (.iaload, 1) := by decide +kernel
theorem dL_law_1310 : decode cL_law 1310 = .ok (.aload_n 0, 1) := by decide +kernel
theorem dL_law_1311 : decode cL_law 1311 = .ok (.iload 4, 2) := by decide +kernel
theorem dL_law_1313 : decode cL_law 1313 = .ok (.iconst 4, 1) := by decide +kernel
theorem dL_law_1314 : decode cL_law 1314 = .ok (.iadd, 1) := by decide +kernel
theorem dL_law_1315 : decode cL_law 1315 = .ok (.iaload, 1) := by decide +kernel
theorem dL_law_1316 : decode cL_law 1316 = .ok (.invokestatic 149, 3) := by decide +kernel
theorem dL_law_1319 : decode cL_law 1319 = .ok (.istore 5, 2) := by decide +kernel
theorem dL_law_1321 : decode cL_law 1321 = .ok (.aload_n 2, 1) := by decide +kernel
theorem dL_law_1322 : decode cL_law 1322 = .ok (.aload_n 0, 1) := by decide +kernel
theorem dL_law_1323 : decode cL_law 1323 = .ok (.iload 4, 2) := by decide +kernel
theorem dL_law_1325 : decode cL_law 1325 = .ok (.iconst 1, 1) := by decide +kernel
theorem dL_law_1326 : decode cL_law 1326 = .ok (.iadd, 1) := by decide +kernel
theorem dL_law_1327 : decode cL_law 1327 = .ok (.iaload, 1) := by decide +kernel
theorem dL_law_1328 : decode cL_law 1328 = .ok (.aload_n 0, 1) := by decide +kernel
theorem dL_law_1329 : decode cL_law 1329 = .ok (.iload 4, 2) := by decide +kernel
theorem dL_law_1331 : decode cL_law 1331 = .ok (.iconst 2, 1) := by decide +kernel
theorem dL_law_1332 : decode cL_law 1332 = .ok (.iadd, 1) := by decide +kernel
theorem dL_law_1333 : decode cL_law 1333 = .ok (.iaload, 1) := by decide +kernel
theorem dL_law_1334 : decode cL_law 1334 = .ok (.aload_n 0, 1) := by decide +kernel
theorem dL_law_1335 : decode cL_law 1335 = .ok (.iload 4, 2) := by decide +kernel
theorem dL_law_1337 : decode cL_law 1337 = .ok (.iconst 3, 1) := by decide +kernel
theorem dL_law_1338 : decode cL_law 1338 = .ok (.iadd, 1) := by decide +kernel
theorem dL_law_1339 : decode cL_law 1339 = .ok (.iaload, 1) := by decide +kernel
theorem dL_law_1340 : decode cL_law 1340 = .ok (.aload_n 0, 1) := by decide +kernel
theorem dL_law_1341 : decode cL_law 1341 = .ok (.iload 4, 2) := by decide +kernel
theorem dL_law_1343 : decode cL_law 1343 = .ok (.iconst 4, 1) := by decide +kernel
theorem dL_law_1344 : decode cL_law 1344 = .ok (.iadd, 1) := by decide +kernel
theorem dL_law_1345 : decode cL_law 1345 = .ok (.iaload, 1) := by decide +kernel
theorem dL_law_1346 : decode cL_law 1346 = .ok (.invokevirtual 152, 3) := by decide +kernel
theorem dL_law_1349 : decode cL_law 1349 = .ok (.aload_n 2, 1) := by decide +kernel
theorem dL_law_1350 : decode cL_law 1350 = .ok (.invokevirtual 93, 3) := by decide +kernel
theorem dL_law_1353 : decode cL_law 1353 = .ok (.iload 5, 2) := by decide +kernel
theorem dL_law_1355 : decode cL_law 1355 = .ok (.if_icmp .eq 5, 3) := by decide +kernel
theorem dL_law_1358 : decode cL_law 1358 = .ok (.iconst 0, 1) := by decide +kernel
theorem dL_law_1359 : decode cL_law 1359 = .ok (.ireturn, 1) := by decide +kernel
theorem dL_law_1360 : decode cL_law 1360 = .ok (.goto 196, 3) := by decide +kernel
theorem dL_law_1363 : decode cL_law 1363 = .ok (.aload_n 1, 1) := by decide +kernel
theorem dL_law_1364 : decode cL_law 1364 = .ok (.aload_n 0, 1) := by decide +kernel
theorem dL_law_1365 : decode cL_law 1365 = .ok (.iload 4, 2) := by decide +kernel
theorem dL_law_1367 : decode cL_law 1367 = .ok (.iconst 1, 1) := by decide +kernel
theorem dL_law_1368 : decode cL_law 1368 = .ok (.iadd, 1) := by decide +kernel
theorem dL_law_1369 : decode cL_law 1369 = .ok (.iaload, 1) := by decide +kernel
theorem dL_law_1370 : decode cL_law 1370 = .ok (.aload_n 3, 1) := by decide +kernel
theorem dL_law_1371 : decode cL_law 1371 = .ok (.invokestatic 153, 3) := by decide +kernel
theorem dL_law_1374 : decode cL_law 1374 = .ok (.istore 5, 2) := by decide +kernel
theorem dL_law_1376 : decode cL_law 1376 = .ok (.aload_n 2, 1) := by decide +kernel
theorem dL_law_1377 : decode cL_law 1377 = .ok (.aload_n 0, 1) := by decide +kernel
theorem dL_law_1378 : decode cL_law 1378 = .ok (.iload 4, 2) := by decide +kernel
theorem dL_law_1380 : decode cL_law 1380 = .ok (.iconst 1, 1) := by decide +kernel
theorem dL_law_1381 : decode cL_law 1381 = .ok (.iadd, 1) := by decide +kernel
theorem dL_law_1382 : decode cL_law 1382 = .ok (.iaload, 1) := by decide +kernel
theorem dL_law_1383 : decode cL_law 1383 = .ok (.invokevirtual 155, 3) := by decide +kernel
theorem dL_law_1386 : decode cL_law 1386 = .ok (.istore 6, 2) := by decide +kernel
theorem dL_law_1388 : decode cL_law 1388 = .ok (.aload_n 2, 1) := by decide +kernel
theorem dL_law_1389 : decode cL_law 1389 = .ok (.invokevirtual 93, 3) := by decide +kernel
theorem dL_law_1392 : decode cL_law 1392 = .ok (.iload 5, 2) := by decide +kernel
theorem dL_law_1394 : decode cL_law 1394 = .ok (.if_icmp .eq 5, 3) := by decide +kernel
theorem dL_law_1397 : decode cL_law 1397 = .ok (.iconst 0, 1) := by decide +kernel
theorem dL_law_1398 : decode cL_law 1398 = .ok (.ireturn, 1) := by decide +kernel
theorem dL_law_1399 : decode cL_law 1399 = .ok (.iload 5, 2) := by decide +kernel
theorem dL_law_1401 : decode cL_law 1401 = .ok (.ifCond .ne 15, 3) := by decide +kernel
theorem dL_law_1404 : decode cL_law 1404 = .ok (.aload_n 3, 1) := by decide +kernel
theorem dL_law_1405 : decode cL_law 1405 = .ok (.iconst 0, 1) := by decide +kernel
theorem dL_law_1406 : decode cL_law 1406 = .ok (.laload, 1) := by decide +kernel
theorem dL_law_1407 : decode cL_law 1407 = .ok (.iload 6, 2) := by decide +kernel
theorem dL_law_1409 : decode cL_law 1409 = .ok (.i2l, 1) := by decide +kernel
theorem dL_law_1410 : decode cL_law 1410 = .ok (.lcmp, 1) := by decide +kernel
theorem dL_law_1411 : decode cL_law 1411 = .ok (.ifCond .eq 5, 3) := by decide +kernel
theorem dL_law_1414 : decode cL_law 1414 = .ok (.iconst 0, 1) := by decide +kernel
theorem dL_law_1415 : decode cL_law 1415 = .ok (.ireturn, 1) := by decide +kernel
theorem dL_law_1416 : decode cL_law 1416 = .ok (.goto 140, 3) := by decide +kernel
theorem dL_law_1419 : decode cL_law 1419 = .ok (.aload_n 1, 1) := by decide +kernel
theorem dL_law_1420 : decode cL_law 1420 = .ok (.aload_n 0, 1) := by decide +kernel
theorem dL_law_1421 : decode cL_law 1421 = .ok (.iload 4, 2) := by decide +kernel
theorem dL_law_1423 : decode cL_law 1423 = .ok (.iconst 1, 1) := by decide +kernel
theorem dL_law_1424 : decode cL_law 1424 = .ok (.iadd, 1) := by decide +kernel
theorem dL_law_1425 : decode cL_law 1425 = .ok (.iaload, 1) := by decide +kernel
theorem dL_law_1426 : decode cL_law 1426 = .ok (.aload_n 3, 1) := by decide +kernel
theorem dL_law_1427 : decode cL_law 1427 = .ok (.invokestatic 156, 3) := by decide +kernel
theorem dL_law_1430 : decode cL_law 1430 = .ok (.istore 5, 2) := by decide +kernel
theorem dL_law_1432 : decode cL_law 1432 = .ok (.aload_n 2, 1) := by decide +kernel
theorem dL_law_1433 : decode cL_law 1433 = .ok (.aload_n 0, 1) := by decide +kernel
theorem dL_law_1434 : decode cL_law 1434 = .ok (.iload 4, 2) := by decide +kernel
theorem dL_law_1436 : decode cL_law 1436 = .ok (.iconst 1, 1) := by decide +kernel
theorem dL_law_1437 : decode cL_law 1437 = .ok (.iadd, 1) := by decide +kernel
theorem dL_law_1438 : decode cL_law 1438 = .ok (.iaload, 1) := by decide +kernel
theorem dL_law_1439 : decode cL_law 1439 = .ok (.invokevirtual 158, 3) := by decide +kernel
theorem dL_law_1442 : decode cL_law 1442 = .ok (.istore 6, 2) := by decide +kernel
theorem dL_law_1444 : decode cL_law 1444 = .ok (.aload_n 2, 1) := by decide +kernel
theorem dL_law_1445 : decode cL_law 1445 = .ok (.invokevirtual 93, 3) := by decide +kernel
theorem dL_law_1448 : decode cL_law 1448 = .ok (.iload 5, 2) := by decide +kernel
theorem dL_law_1450 : decode cL_law 1450 = .ok (.if_icmp .eq 5, 3) := by decide +kernel
theorem dL_law_1453 : decode cL_law 1453 = .ok (.iconst 0, 1) := by decide +kernel
theorem dL_law_1454 : decode cL_law 1454 = .ok (.ireturn, 1) := by decide +kernel
theorem dL_law_1455 : decode cL_law 1455 = .ok (.iload 5, 2) := by decide +kernel
theorem dL_law_1457 : decode cL_law 1457 = .ok (.ifCond .ne 15, 3) := by decide +kernel
theorem dL_law_1460 : decode cL_law 1460 = .ok (.aload_n 3, 1) := by decide +kernel
theorem dL_law_1461 : decode cL_law 1461 = .ok (.iconst 0, 1) := by decide +kernel
theorem dL_law_1462 : decode cL_law 1462 = .ok (.laload, 1) := by decide +kernel
theorem dL_law_1463 : decode cL_law 1463 = .ok (.iload 6, 2) := by decide +kernel
theorem dL_law_1465 : decode cL_law 1465 = .ok (.i2l, 1) := by decide +kernel
theorem dL_law_1466 : decode cL_law 1466 = .ok (.lcmp, 1) := by decide +kernel
theorem dL_law_1467 : decode cL_law 1467 = .ok (.ifCond .eq 5, 3) := by decide +kernel
theorem dL_law_1470 : decode cL_law 1470 = .ok (.iconst 0, 1) := by decide +kernel
theorem dL_law_1471 : decode cL_law 1471 = .ok (.ireturn, 1) := by decide +kernel
theorem dL_law_1472 : decode cL_law 1472 = .ok (.goto 84, 3) := by decide +kernel
theorem dL_law_1475 : decode cL_law 1475 = .ok (.aload_n 1, 1) := by decide +kernel
theorem dL_law_1476 : decode cL_law 1476 = .ok (.aload_n 0, 1) := by decide +kernel
theorem dL_law_1477 : decode cL_law 1477 = .ok (.iload 4, 2) := by decide +kernel
theorem dL_law_1479 : decode cL_law 1479 = .ok (.iconst 1, 1) := by decide +kernel
theorem dL_law_1480 : decode cL_law 1480 = .ok (.iadd, 1) := by decide +kernel
theorem dL_law_1481 : decode cL_law 1481 = .ok (.iaload, 1) := by decide +kernel
theorem dL_law_1482 : decode cL_law 1482 = .ok (.aload_n 0, 1) := by decide +kernel
theorem dL_law_1483 : decode cL_law 1483 = .ok (.iload 4, 2) := by decide +kernel
theorem dL_law_1485 : decode cL_law 1485 = .ok (.iconst 2, 1) := by decide +kernel
theorem dL_law_1486 : decode cL_law 1486 = .ok (.iadd, 1) := by decide +kernel
theorem dL_law_1487 : decode cL_law 1487 = .ok (.iaload, 1) := by decide +kernel
theorem dL_law_1488 : decode cL_law 1488 = .ok (.aload_n 3, 1) := by decide +kernel
theorem dL_law_1489 : decode cL_law 1489 = .ok (.invokestatic 159, 3) := by decide +kernel
theorem dL_law_1492 : decode cL_law 1492 = .ok (.istore 5, 2) := by decide +kernel
theorem dL_law_1494 : decode cL_law 1494 = .ok (.aload_n 2, 1) := by decide +kernel
theorem dL_law_1495 : decode cL_law 1495 = .ok (.aload_n 0, 1) := by decide +kernel
theorem dL_law_1496 : decode cL_law 1496 = .ok (.iload 4, 2) := by decide +kernel
theorem dL_law_1498 : decode cL_law 1498 = .ok (.iconst 1, 1) := by decide +kernel
theorem dL_law_1499 : decode cL_law 1499 = .ok (.iadd, 1) := by decide +kernel
theorem dL_law_1500 : decode cL_law 1500 = .ok (.iaload, 1) := by decide +kernel
theorem dL_law_1501 : decode cL_law 1501 = .ok (.aload_n 0, 1) := by decide +kernel
theorem dL_law_1502 : decode cL_law 1502 = .ok (.iload 4, 2) := by decide +kernel
theorem dL_law_1504 : decode cL_law 1504 = .ok (.iconst 2, 1) := by decide +kernel
theorem dL_law_1505 : decode cL_law 1505 = .ok (.iadd, 1) := by decide +kernel
theorem dL_law_1506 : decode cL_law 1506 = .ok (.iaload, 1) := by decide +kernel
theorem dL_law_1507 : decode cL_law 1507 = .ok (.invokevirtual 161, 3) := by decide +kernel
theorem dL_law_1510 : decode cL_law 1510 = .ok (.istore 6, 2) := by decide +kernel
theorem dL_law_1512 : decode cL_law 1512 = .ok (.aload_n 2, 1) := by decide +kernel
theorem dL_law_1513 : decode cL_law 1513 = .ok (.invokevirtual 93, 3) := by decide +kernel
theorem dL_law_1516 : decode cL_law 1516 = .ok (.iload 5, 2) := by decide +kernel
theorem dL_law_1518 : decode cL_law 1518 = .ok (.if_icmp .eq 5, 3) := by decide +kernel
theorem dL_law_1521 : decode cL_law 1521 = .ok (.iconst 0, 1) := by decide +kernel
theorem dL_law_1522 : decode cL_law 1522 = .ok (.ireturn, 1) := by decide +kernel
theorem dL_law_1523 : decode cL_law 1523 = .ok (.iload 5, 2) := by decide +kernel
theorem dL_law_1525 : decode cL_law 1525 = .ok (.ifCond .ne 15, 3) := by decide +kernel
theorem dL_law_1528 : decode cL_law 1528 = .ok (.aload_n 3, 1) := by decide +kernel
theorem dL_law_1529 : decode cL_law 1529 = .ok (.iconst 0, 1) := by decide +kernel
theorem dL_law_1530 : decode cL_law 1530 = .ok (.laload, 1) := by decide +kernel
theorem dL_law_1531 : decode cL_law 1531 = .ok (.iload 6, 2) := by decide +kernel
theorem dL_law_1533 : decode cL_law 1533 = .ok (.i2l, 1) := by decide +kernel
theorem dL_law_1534 : decode cL_law 1534 = .ok (.lcmp, 1) := by decide +kernel
theorem dL_law_1535 : decode cL_law 1535 = .ok (.ifCond .eq 5, 3) := by decide +kernel
theorem dL_law_1538 : decode cL_law 1538 = .ok (.iconst 0, 1) := by decide +kernel
theorem dL_law_1539 : decode cL_law 1539 = .ok (.ireturn, 1) := by decide +kernel
theorem dL_law_1540 : decode cL_law 1540 = .ok (.goto 16, 3) := by decide +kernel
theorem dL_law_1543 : decode cL_law 1543 = .ok (.aload_n 1, 1) := by decide +kernel
theorem dL_law_1544 : decode cL_law 1544 = .ok (.invokevirtual 162, 3) := by decide +kernel
theorem dL_law_1547 : decode cL_law 1547 = .ok (.aload_n 2, 1) := by decide +kernel
theorem dL_law_1548 : decode cL_law 1548 = .ok (.invokevirtual 165, 3) := by decide +kernel
theorem dL_law_1551 : decode cL_law 1551 = .ok (.if_icmp .eq 5, 3) := by decide +kernel
theorem dL_law_1554 : decode cL_law 1554 = .ok (.iconst 0, 1) := by decide +kernel
theorem dL_law_1555 : decode cL_law 1555 = .ok (.ireturn, 1) := by decide +kernel
theorem dL_law_1556 : decode cL_law 1556 = .ok (.iinc 4 5, 3) := by decide +kernel
theorem dL_law_1559 : decode cL_law 1559 = .ok (.goto (-1536), 3) := by decide +kernel
theorem dL_law_1562 : decode cL_law 1562 = .ok (.iconst 1, 1) := by decide +kernel
theorem dL_law_1563 : decode cL_law 1563 = .ok (.ireturn, 1) := by decide +kernel
end
section
abbrev vwCl : List vw_C := [(RX0, TX0, 6), (RX1, TX1, 3), (RX2, TX2, 1), (RX3, TX3, 5), (RX4, TX4, 4), (RX5, TX5, 8), (RX6, TX6, 26)]
end
section
/-! a state: arrays and numbers by their places; contracts over a world that a state makes -/
abbrev St : Type := Nat → Nat → Int32
theorem up_eta {α : Type} (f : Nat → α) (k : Nat) : va_up f k (f k) = f := by
  funext j
  by_cases h : j = k
  · subst h; simp [va_up]
  · simp [va_up, h]
theorem up_up {α : Type} (f : Nat → α) (k : Nat) (v w : α) : va_up (va_up f k v) k w = va_up f k w := by
  funext j
  by_cases h : j = k
  · subst h; simp [va_up]
  · simp [va_up, h]
theorem up_swap {α : Type} (f : Nat → α) {i k : Nat} (h : i ≠ k) (v w : α) : va_up (va_up f i v) k w = va_up (va_up f k w) i v := by
  funext j
  by_cases h1 : j = k
  · subst h1
    have h2 : ¬ j = i := fun e => h e.symm
    simp [va_up, h2]
  · by_cases h2 : j = i
    · subst h2; simp [va_up, h1]
    · simp [va_up, h1, h2]
theorem upd_eta (f : Nat → Int32) (k : Nat) : upd f k (f k) = f := by
  funext j
  by_cases h : j = k
  · subst h; simp [upd]
  · simp [upd, h]
/-- a proposition as a number -/
noncomputable def bI (P : Prop) : Int32 := @ite Int32 P (Classical.propDecidable P) 1 0
theorem bI_t {P : Prop} (h : P) : bI P = 1 := by unfold bI; exact if_pos h
theorem bI_f {P : Prop} (h : ¬ P) : bI P = 0 := by unfold bI; exact if_neg h
noncomputable def cif {α : Type} (P : Prop) (x y : α) : α := @ite α P (Classical.propDecidable P) x y
theorem cif_t {α : Type} {P : Prop} {x y : α} (h : P) : cif P x y = x := by unfold cif; exact if_pos h
theorem cif_f {α : Type} {P : Prop} {x y : α} (h : ¬ P) : cif P x y = y := by unfold cif; exact if_neg h
def bo (r : Int32) (P : Prop) : Prop := (r = 1 ∧ P) ∨ (r = 0 ∧ ¬ P)
theorem bo_I {r : Int32} {P : Prop} (h : bo r P) : r = bI P := by
  rcases h with ⟨h1, h2⟩ | ⟨h1, h2⟩
  · rw [h1, bI_t h2]
  · rw [h1, bI_f h2]
theorem fits_b : narrow .boolean (.int 0) = .int 0 ∧ narrow .boolean (.int 1) = .int 1 := ⟨rfl, rfl⟩
theorem nar_b {x : Int32} (h : x = 0 ∨ x = 1) : narrow .boolean (.int x) = .int x := by rcases h with rfl | rfl <;> rfl
theorem bar_b {x : Int32} (h : x = 0 ∨ x = 1) : vp_nar .boolean x = x := by rcases h with rfl | rfl <;> rfl
section WR
variable {S : Type} {l : Launch} {y : MethodName} {wsy ws' : List Cond} {rm : Room} {D : va_G} {tys : List (ClassId × FieldType)} {wf : S → va_W} {av : List Value} {σ u : S} {sz : Nat} {cc : ByteArray} {maxL : Nat} {ty : FieldType}
def PR (D : va_G) (tys : List (ClassId × FieldType)) (wf : S → va_W) (σ : S) (sz : Nat) (U : State) : Prop := U.heap.size = sz ∧ va_P D vwCl (wf σ) U.heap ∧ va_K D vwCl tys U ∧ va_D (fun _ => True) (wf σ)
def PO (D : va_G) (tys : List (ClassId × FieldType)) (wf : S → va_W) (A : Nat → Prop) (u : S) (t : State) : Prop := va_P D vwCl (wf u) t.heap ∧ va_K D vwCl tys t ∧ va_D A (wf u)
/-- a method that answers an int (a boolean) and makes nothing -/
def MI (l : Launch) (y : MethodName) (wsy : List Cond) (rm : Room) (D : va_G) (tys : List (ClassId × FieldType)) (wf : S → va_W) (av : List Value) (σ : S) (sz : Nat) (post : Int32 → S → Prop) : Prop :=
  Met l y wsy rm (va_Pc av (PR D tys wf σ sz)) (va_Qi post (PO D tys wf (va_A (wf σ) sz)) (va_A (wf σ) sz)) 0 0 (va_A (wf σ) sz)
/-- a method that answers nothing and makes nothing -/
def MV (l : Launch) (y : MethodName) (wsy : List Cond) (rm : Room) (D : va_G) (tys : List (ClassId × FieldType)) (wf : S → va_W) (av : List Value) (σ : S) (sz : Nat) (post : S → Prop) : Prop :=
  Met l y wsy rm (va_Pc av (PR D tys wf σ sz)) (va_Qv post (PO D tys wf (va_A (wf σ) sz)) (va_A (wf σ) sz)) 0 0 (va_A (wf σ) sz)
theorem PR.calling {U : State} {g : JFrame} {mk : MethodId} {a : Array Value} (h : PR D tys wf σ sz U) : PR D tys wf σ sz (U.calling g mk a) := by
  obtain ⟨h1, h2, h3, h4⟩ := h
  exact ⟨h1, h2, va_K.moved (u := U) (U := U.calling g mk a) (Vm.Alike.refl U.vm) h3, h4⟩
theorem PR.at {s U : State} {H : Heap} {A : Nat → Prop} (hP : va_P D vwCl (wf σ) H) (hK : va_K D vwCl tys s) (hD : va_D A (wf σ)) (hU : U.heap = H) (hW : s.WarmedH U.vm) : PR D tys wf σ H.size U :=
  ⟨by rw [hU], by rw [hU]; exact hP, va_K.moved hW.alike hK, hD.weaken (fun _ _ _ _ => trivial)⟩
theorem MI.of {post : Int32 → S → Prop} (hy : plainName y.cls = true) (hw : wsy = Cond.code y cc maxL (some ty) :: ws') (hav : (lg_sl av).length ≤ maxL)
    (body : ∀ (p : Program) (e : Env) (s : State) (m : MethodId) (args : Array Value) (below : List Frame) (meth : Method) (c : Code) (A : Nat → Prop) (H : Heap) (locs : List Loc) (ls : Array Slot), p.tables.exec = Jvm.exec → c.code = cc → meth.sig.returnType = some ty → c.maxLocals = maxL → s.vm.findClass y.cls = some m.cls → (∀ w ∈ wsy, w.before args s = true) → meth.locks = false → (∀ q : Nat, s.heap.size ≤ q → A q) → va_S A s.heap H locs → va_P D vwCl (wf σ) H → va_K D vwCl tys s → va_D A (wf σ) → lv_has ls maxL (lv_args 0 av) →
      W p l e rm s m args below meth c H locs 0 0 (MQ below (va_Qi post (PO D tys wf A) A) args s 0 0 A) (F0 m 0 ls [])) : MI l y wsy rm D tys wf av σ sz post := by
  refine Met.ofW (cc := cc) (maxL := maxL) (ret := some ty) hy hw ?_
  intro p e s m args below meth c s₁ B hml hv
  obtain ⟨rfl, hsz, hP, hK, hD0⟩ := hv
  have hts := atoms_spec (ws := wsy) B.pre
  subst hsz
  have hD := hD0.self (sz := s.heap.size)
  generalize hAe : va_A (wf σ) s.heap.size = A at hD ⊢
  have hA : ∀ q : Nat, s.heap.size ≤ q → A q := fun q h => by rw [← hAe]; exact Or.inr h
  rw [lg_entry_eq]
  exact body p e s m _ below meth c A _ _ _ B.exec B.bytes B.returns hml (findClass_of_methodNamed B.named) hts B.notSynchronized hA va_S.rf hP hK hD (lv_entry av hav)
theorem MV.of {post : S → Prop} (hy : plainName y.cls = true) (hw : wsy = Cond.code y cc maxL none :: ws') (hav : (lg_sl av).length ≤ maxL)
    (body : ∀ (p : Program) (e : Env) (s : State) (m : MethodId) (args : Array Value) (below : List Frame) (meth : Method) (c : Code) (A : Nat → Prop) (H : Heap) (locs : List Loc) (ls : Array Slot), p.tables.exec = Jvm.exec → c.code = cc → meth.sig.returnType = none → c.maxLocals = maxL → s.vm.findClass y.cls = some m.cls → (∀ w ∈ wsy, w.before args s = true) → meth.locks = false → (∀ q : Nat, s.heap.size ≤ q → A q) → va_S A s.heap H locs → va_P D vwCl (wf σ) H → va_K D vwCl tys s → va_D A (wf σ) → lv_has ls maxL (lv_args 0 av) →
      W p l e rm s m args below meth c H locs 0 0 (MQ below (va_Qv post (PO D tys wf A) A) args s 0 0 A) (F0 m 0 ls [])) : MV l y wsy rm D tys wf av σ sz post := by
  refine Met.ofW (cc := cc) (maxL := maxL) (ret := none) hy hw ?_
  intro p e s m args below meth c s₁ B hml hv
  obtain ⟨rfl, hsz, hP, hK, hD0⟩ := hv
  have hts := atoms_spec (ws := wsy) B.pre
  subst hsz
  have hD := hD0.self (sz := s.heap.size)
  generalize hAe : va_A (wf σ) s.heap.size = A at hD ⊢
  have hA : ∀ q : Nat, s.heap.size ≤ q → A q := fun q h => by rw [← hAe]; exact Or.inr h
  rw [lg_entry_eq]
  exact body p e s m _ below meth c A _ _ _ B.exec B.bytes B.returns hml (findClass_of_methodNamed B.named) hts B.notSynchronized hA va_S.rf hP hK hD (lv_entry av hav)
section RET
variable {p : Program} {e : Env} {R : Room} {s : State} {m : MethodId} {args : Array Value} {below : List Frame} {meth : Method} {c : Code} {H : Heap} {locs : List Loc} {A : Nat → Prop} {pc : Nat} {ls : Array Slot} {v : Int32}
theorem MI.ret {post : Int32 → S → Prop} (hx : p.tables.exec = Jvm.exec) (hb : c.code = cc) (hr : meth.sig.returnType = some .int) (hlocks : meth.locks = false) (hK : va_K D vwCl tys s) (hP : va_P D vwCl (wf u) H) (hD : va_D A (wf u)) (hS : va_S A s.heap H locs) (hdg : decode cc pc = .ok (.ireturn, 1)) (hp : post v u) : W p l e R s m args below meth c H locs 0 0 (MQ below (va_Qi post (PO D tys wf A) A) args s 0 0 A) (F0 m pc ls [.int v]) :=
  W.iret hx hb hr (fun t ht hW => ⟨⟨v, u, rfl, hp, by rw [ht]; exact hP, va_K.moved hW.alike hK, hD⟩, hS.F ht⟩) hS.2.2 hdg hlocks
theorem MI.zret {post : Int32 → S → Prop} (hx : p.tables.exec = Jvm.exec) (hb : c.code = cc) (hr : meth.sig.returnType = some .boolean) (hlocks : meth.locks = false) (hK : va_K D vwCl tys s) (hP : va_P D vwCl (wf u) H) (hD : va_D A (wf u)) (hS : va_S A s.heap H locs) (hdg : decode cc pc = .ok (.ireturn, 1)) (hn : narrow .boolean (.int v) = .int v) (hp : post v u) : W p l e R s m args below meth c H locs 0 0 (MQ below (va_Qi post (PO D tys wf A) A) args s 0 0 A) (F0 m pc ls [.int v]) :=
  W.zret hx hb hr hn (fun t ht hW => ⟨⟨v, u, rfl, hp, by rw [ht]; exact hP, va_K.moved hW.alike hK, hD⟩, hS.F ht⟩) hS.2.2 hdg hlocks
theorem MV.ret {post : S → Prop} (hx : p.tables.exec = Jvm.exec) (hb : c.code = cc) (hr : meth.sig.returnType = none) (hlocks : meth.locks = false) (hK : va_K D vwCl tys s) (hP : va_P D vwCl (wf u) H) (hD : va_D A (wf u)) (hS : va_S A s.heap H locs) (hdg : decode cc pc = .ok (.return_, 1)) (hp : post u) : W p l e R s m args below meth c H locs 0 0 (MQ below (va_Qv post (PO D tys wf A) A) args s 0 0 A) (F0 m pc ls []) :=
  W.vret hx hb hr (fun t ht hW => ⟨⟨u, rfl, hp, by rw [ht]; exact hP, va_K.moved hW.alike hK, hD⟩, hS.F ht⟩) hS.2.2 hdg hlocks
end RET
section CALL
variable {p : Program} {e : Env} {R : Room} {s : State} {m : MethodId} {args : Array Value} {below : List Frame} {meth : Method} {c : Code} {H H0 : Heap} {locs : List Loc} {cells slots : Nat} {Q : State → Prop} {A : Nat → Prop} {pc nL n index : Nat} {ls : Array Slot} {st0 rest As : List Value} {Ts : List Cond} {own C : String} {b : Addr} {bytes : ByteArray} {maxLy : Nat} {rety : Option FieldType}
theorem free_self {ws : va_W} (hD : va_D A ws) (hS : va_S A H0 H locs) (hA : ∀ q : Nat, H0.size ≤ q → A q) : ∀ q, va_A ws H.size q → A q := by
  intro q h
  rcases h with ⟨k, e, h⟩ | h
  · exact hD.2 k (q, e) h
  · exact hA q (Nat.le_trans hS.1 h)
theorem MI.callV {post : Int32 → S → Prop} (F : CallFix p m c cc nL s args Ts own) (hM : MI l y wsy rm D tys wf (.ref b :: As) σ H.size post) (cw : CallW R s args own C index y bytes maxLy rety wsy rm 0 0 n)
    (hP : va_P D vwCl (wf σ) H) (hK : va_K D vwCl tys s) (hD : va_D A (wf σ)) (hS : va_S A H0 H locs) (hA : ∀ q : Nat, H0.size ≤ q → A q)
    (hrecv : ∃ cell : Cell, H[b]? = some cell ∧ cell.vm.isStatics = false ∧ s.vm.findClass C = some cell.cls) (hn : As.length = n) (hsize : ls.size = nL) (hW : (rest.map fun v => v.category).sum ≤ 8) (hcr : cells ≤ R.cells) (hsr : slots ≤ R.slots)
    (hdg : decode cc pc = .ok (.invokevirtual index, 3)) (hst : st0 = As.reverse ++ .ref b :: rest)
    (kk : ∀ (r : Int32) (u : S) (H1 : Heap) (locs1 : List Loc), post r u → va_P D vwCl (wf u) H1 → va_D A (wf u) → va_S A H0 H1 locs1 → W p l e R s m args below meth c H1 locs1 cells slots Q (F0 m (pc + 3) ls (.int r :: rest))) : W p l e R s m args below meth c H locs cells slots Q (F0 m pc ls st0) := by
  subst hst
  have hF := free_self hD hS hA
  refine va_calli (va_runV (As := As) (rest := rest) F hM cw ⟨fun a U g mk q => ⟨q.1, q.2.calling⟩, hrecv, fun U hU hW => ⟨rfl, PR.at hP hK hD hU hW⟩⟩ rfl hn hsize rfl (lv_room hW) hdg ⟨hcr, hsr⟩) hS (fun q _ h => hF q h) hF (fun r u t H1 locs1 ht hvm hw hB hz1 hk1 hS1 => ?_)
  obtain ⟨hP1, hK1, hD1⟩ := hB
  rw [ht] at hP1
  exact kk r u H1 locs1 hw hP1 (hD1.weaken (fun _ _ _ h => hF _ h)) hS1
theorem MV.callV {post : S → Prop} (F : CallFix p m c cc nL s args Ts own) (hM : MV l y wsy rm D tys wf (.ref b :: As) σ H.size post) (cw : CallW R s args own C index y bytes maxLy rety wsy rm 0 0 n)
    (hP : va_P D vwCl (wf σ) H) (hK : va_K D vwCl tys s) (hD : va_D A (wf σ)) (hS : va_S A H0 H locs) (hA : ∀ q : Nat, H0.size ≤ q → A q)
    (hrecv : ∃ cell : Cell, H[b]? = some cell ∧ cell.vm.isStatics = false ∧ s.vm.findClass C = some cell.cls) (hn : As.length = n) (hsize : ls.size = nL) (hW : (rest.map fun v => v.category).sum ≤ 8) (hcr : cells ≤ R.cells) (hsr : slots ≤ R.slots)
    (hdg : decode cc pc = .ok (.invokevirtual index, 3)) (hst : st0 = As.reverse ++ .ref b :: rest)
    (kk : ∀ (u : S) (H1 : Heap) (locs1 : List Loc), post u → va_P D vwCl (wf u) H1 → va_D A (wf u) → va_S A H0 H1 locs1 → W p l e R s m args below meth c H1 locs1 cells slots Q (F0 m (pc + 3) ls rest)) : W p l e R s m args below meth c H locs cells slots Q (F0 m pc ls st0) := by
  subst hst
  have hF := free_self hD hS hA
  refine va_callv (va_runV (As := As) (rest := rest) F hM cw ⟨fun a U g mk q => ⟨q.1, q.2.calling⟩, hrecv, fun U hU hW => ⟨rfl, PR.at hP hK hD hU hW⟩⟩ rfl hn hsize rfl (lv_room hW) hdg ⟨hcr, hsr⟩) hS (fun q _ h => hF q h) hF (fun u t H1 locs1 ht hvm hw hB hz1 hk1 hS1 => ?_)
  obtain ⟨hP1, hK1, hD1⟩ := hB
  rw [ht] at hP1
  exact kk u H1 locs1 hw hP1 (hD1.weaken (fun _ _ _ h => hF _ h)) hS1
theorem MI.callS {post : Int32 → S → Prop} (F : CallFix p m c cc nL s args Ts own) (hM : MI l y wsy rm D tys wf As σ H.size post) (cw : CallB R s args own index y bytes maxLy rety wsy rm 0 0 n ∧ (Cond.static y).before args s = true)
    (hP : va_P D vwCl (wf σ) H) (hK : va_K D vwCl tys s) (hD : va_D A (wf σ)) (hS : va_S A H0 H locs) (hA : ∀ q : Nat, H0.size ≤ q → A q)
    (hn : As.length = n) (hsize : ls.size = nL) (hW : (rest.map fun v => v.category).sum ≤ 8) (hcr : cells ≤ R.cells) (hsr : slots ≤ R.slots)
    (hdg : decode cc pc = .ok (.invokestatic index, 3)) (hst : st0 = As.reverse ++ rest)
    (kk : ∀ (r : Int32) (u : S) (H1 : Heap) (locs1 : List Loc), post r u → va_P D vwCl (wf u) H1 → va_D A (wf u) → va_S A H0 H1 locs1 → W p l e R s m args below meth c H1 locs1 cells slots Q (F0 m (pc + 3) ls (.int r :: rest))) : W p l e R s m args below meth c H locs cells slots Q (F0 m pc ls st0) := by
  subst hst
  have hF := free_self hD hS hA
  refine va_calli (va_runS (As := As) (rest := rest) F hM cw ⟨fun a U g mk q => ⟨q.1, q.2.calling⟩, fun U hU hW => ⟨rfl, PR.at hP hK hD hU hW⟩⟩ rfl hn hsize rfl (lv_room hW) hdg ⟨hcr, hsr⟩) hS (fun q _ h => hF q h) hF (fun r u t H1 locs1 ht hvm hw hB hz1 hk1 hS1 => ?_)
  obtain ⟨hP1, hK1, hD1⟩ := hB
  rw [ht] at hP1
  exact kk r u H1 locs1 hw hP1 (hD1.weaken (fun _ _ _ h => hF _ h)) hS1
theorem MV.callS {post : S → Prop} (F : CallFix p m c cc nL s args Ts own) (hM : MV l y wsy rm D tys wf As σ H.size post) (cw : CallB R s args own index y bytes maxLy rety wsy rm 0 0 n ∧ (Cond.static y).before args s = true)
    (hP : va_P D vwCl (wf σ) H) (hK : va_K D vwCl tys s) (hD : va_D A (wf σ)) (hS : va_S A H0 H locs) (hA : ∀ q : Nat, H0.size ≤ q → A q)
    (hn : As.length = n) (hsize : ls.size = nL) (hW : (rest.map fun v => v.category).sum ≤ 8) (hcr : cells ≤ R.cells) (hsr : slots ≤ R.slots)
    (hdg : decode cc pc = .ok (.invokestatic index, 3)) (hst : st0 = As.reverse ++ rest)
    (kk : ∀ (u : S) (H1 : Heap) (locs1 : List Loc), post u → va_P D vwCl (wf u) H1 → va_D A (wf u) → va_S A H0 H1 locs1 → W p l e R s m args below meth c H1 locs1 cells slots Q (F0 m (pc + 3) ls rest)) : W p l e R s m args below meth c H locs cells slots Q (F0 m pc ls st0) := by
  subst hst
  have hF := free_self hD hS hA
  refine va_callv (va_runS (As := As) (rest := rest) F hM cw ⟨fun a U g mk q => ⟨q.1, q.2.calling⟩, fun U hU hW => ⟨rfl, PR.at hP hK hD hU hW⟩⟩ rfl hn hsize rfl (lv_room hW) hdg ⟨hcr, hsr⟩) hS (fun q _ h => hF q h) hF (fun u t H1 locs1 ht hvm hw hB hz1 hk1 hS1 => ?_)
  obtain ⟨hP1, hK1, hD1⟩ := hB
  rw [ht] at hP1
  exact kk u H1 locs1 hw hP1 (hD1.weaken (fun _ _ _ h => hF _ h)) hS1
end CALL
end WR
section ARR
variable {p : Program} {l : Launch} {e : Env} {R : Room} {s : State} {m : MethodId} {args : Array Value} {below : List Frame} {meth : Method} {c : Code} {H : Heap} {locs : List Loc} {cells slots : Nat} {Q : State → Prop}
variable {cc : ByteArray} {pc : Nat} {ls : Array Slot} {rest : List Value} {D : va_G} {cl : List vw_C} {A : Nat → Prop} {a : Nat} {tys : List (ClassId × FieldType)} {ws : va_W} {H0 : Heap}
theorem na_iald (hexec : p.tables.exec = Jvm.exec) (hb : c.code = cc) (hK : va_K D cl tys s) (hP : va_P D cl ws H) (q0 t0 : Nat) {cA : ClassId} {n : Nat} {f : Nat → Int32} (ha : ws[q0]? = some (a, .inl (cA, n, .inl f))) (ht : tys[t0]? = some (cA, .int)) (j : Nat) (hj : j < n) (hn : n < 2 ^ 31) {i : Int32} (hi : i = nI j) (hdg : decode cc pc = .ok (.iaload, 1))
    (kk : W p l e R s m args below meth c H locs cells slots Q (F0 m (pc + 1) ls (.int (f j) :: rest))) : W p l e R s m args below meth c H locs cells slots Q (F0 m pc ls (.int i :: .ref a :: rest)) := by
  subst hi
  refine va_iald hexec hb hK hP q0 t0 ha ht (vp_in_nI hj hn) hdg ?_
  rw [nI_clamp (Nat.lt_trans hj hn)]
  exact kk
theorem na_zald (hexec : p.tables.exec = Jvm.exec) (hb : c.code = cc) (hK : va_K D cl tys s) (hP : va_P D cl ws H) (q0 t0 : Nat) {cA : ClassId} {n : Nat} {f : Nat → Int32} (ha : ws[q0]? = some (a, .inl (cA, n, .inl f))) (ht : tys[t0]? = some (cA, .boolean)) (j : Nat) (hj : j < n) (hn : n < 2 ^ 31) {i : Int32} (hi : i = nI j) (hdg : decode cc pc = .ok (.baload, 1))
    (kk : W p l e R s m args below meth c H locs cells slots Q (F0 m (pc + 1) ls (.int (f j) :: rest))) : W p l e R s m args below meth c H locs cells slots Q (F0 m pc ls (.int i :: .ref a :: rest)) := by
  subst hi
  refine va_zald hexec hb hK hP q0 t0 ha ht (vp_in_nI hj hn) hdg ?_
  rw [nI_clamp (Nat.lt_trans hj hn)]
  exact kk
theorem na_iast (hexec : p.tables.exec = Jvm.exec) (hb : c.code = cc) (hK : va_K D cl tys s) (hP : va_P D cl ws H) (hD : va_D A ws) (hS : va_S A H0 H locs) (q0 t0 : Nat) {cA : ClassId} {n : Nat} {f : Nat → Int32} (ha : ws[q0]? = some (a, .inl (cA, n, .inl f))) (ht : tys[t0]? = some (cA, .int)) (j : Nat) (hj : j < n) (hn : n < 2 ^ 31) {i x : Int32} (hi : i = nI j) (hdg : decode cc pc = .ok (.iastore, 1))
    (kk : ∀ (H1 : Heap) (locs1 : List Loc), va_P D cl (ws.set q0 (a, .inl (cA, n, .inl (upd f j x)))) H1 → va_D A (ws.set q0 (a, .inl (cA, n, .inl (upd f j x)))) → va_S A H0 H1 locs1 → W p l e R s m args below meth c H1 locs1 cells slots Q (F0 m (pc + 1) ls rest)) : W p l e R s m args below meth c H locs cells slots Q (F0 m pc ls (.int x :: .int i :: .ref a :: rest)) := by
  subst hi
  refine va_iast hexec hb hK hP hD hS q0 t0 ha ht (vp_in_nI hj hn) hdg ?_
  rw [nI_clamp (Nat.lt_trans hj hn)]
  exact kk
theorem na_zast (hexec : p.tables.exec = Jvm.exec) (hb : c.code = cc) (hK : va_K D cl tys s) (hP : va_P D cl ws H) (hD : va_D A ws) (hS : va_S A H0 H locs) (q0 t0 : Nat) {cA : ClassId} {n : Nat} {f : Nat → Int32} (ha : ws[q0]? = some (a, .inl (cA, n, .inl f))) (ht : tys[t0]? = some (cA, .boolean)) (j : Nat) (hj : j < n) (hn : n < 2 ^ 31) {i x : Int32} (hi : i = nI j) (hx : x = 0 ∨ x = 1) (hdg : decode cc pc = .ok (.bastore, 1))
    (kk : ∀ (H1 : Heap) (locs1 : List Loc), va_P D cl (ws.set q0 (a, .inl (cA, n, .inl (upd f j x)))) H1 → va_D A (ws.set q0 (a, .inl (cA, n, .inl (upd f j x)))) → va_S A H0 H1 locs1 → W p l e R s m args below meth c H1 locs1 cells slots Q (F0 m (pc + 1) ls rest)) : W p l e R s m args below meth c H locs cells slots Q (F0 m pc ls (.int x :: .int i :: .ref a :: rest)) := by
  subst hi
  refine va_zast hexec hb hK hP hD hS q0 t0 ha ht (vp_in_nI hj hn) hdg ?_
  rw [nI_clamp (Nat.lt_trans hj hn), bar_b hx]
  exact kk
end ARR
end
section
/-! the worlds: the class (27 cells) and the reference (21), at addresses a, with a state; a place of the state is an array's or a number's (its value at 0) -/
/-- slots: 0 now, 1 money, 2 turned, 3 trains, 4 block, 5 right, 6 held, 7 delay, 8-12 the same of the trial (tried), 13 bookings, 14 train, 15 block, 16 first, 17 last, 18 lateness, 19 waggons, 20 weight, 21 size, 22 inRow, 24 siding, 25 minute, 26 price; the reference alone: 30 standings, 31 lates, 32 wheres, 33 places, 34 thrown -/
def wX (cI cZ : ClassId) (a : Nat → Nat) (σ : St) : va_W := [(a 0, .inr (5, [.ref (a 1), .ref (a 3), .ref (a 8), .ref (a 13), .ref (a 19), .ref (a 23), .int (σ 0 0), .int (σ 1 0)])),
  (a 1, .inr (2, [.ref (a 2)])),
  (a 2, .inl (cZ, 2, .inl (σ 2))),
  (a 3, .inr (3, [.ref (a 4), .ref (a 5), .ref (a 6), .ref (a 7), .int (σ 3 0)])),
  (a 4, .inl (cI, 4, .inl (σ 4))),
  (a 5, .inl (cZ, 4, .inl (σ 5))),
  (a 6, .inl (cZ, 4, .inl (σ 6))),
  (a 7, .inl (cI, 4, .inl (σ 7))),
  (a 8, .inr (3, [.ref (a 9), .ref (a 10), .ref (a 11), .ref (a 12), .int (σ 8 0)])),
  (a 9, .inl (cI, 4, .inl (σ 9))),
  (a 10, .inl (cZ, 4, .inl (σ 10))),
  (a 11, .inl (cZ, 4, .inl (σ 11))),
  (a 12, .inl (cI, 4, .inl (σ 12))),
  (a 13, .inr (0, [.ref (a 14), .ref (a 15), .ref (a 16), .ref (a 17), .ref (a 18), .int (σ 13 0)])),
  (a 14, .inl (cI, 30, .inl (σ 14))),
  (a 15, .inl (cI, 30, .inl (σ 15))),
  (a 16, .inl (cI, 30, .inl (σ 16))),
  (a 17, .inl (cI, 30, .inl (σ 17))),
  (a 18, .inl (cI, 30, .inl (σ 18))),
  (a 19, .inr (4, [.ref (a 20), .ref (a 21), .ref (a 22), .int (σ 19 0)])),
  (a 20, .inl (cI, 8, .inl (σ 20))),
  (a 21, .inl (cI, 6, .inl (σ 21))),
  (a 22, .inl (cI, 48, .inl (σ 22))),
  (a 23, .inr (1, [.ref (a 24), .ref (a 25), .ref (a 26)])),
  (a 24, .inl (cI, 8, .inl (σ 24))),
  (a 25, .inl (cI, 8, .inl (σ 25))),
  (a 26, .inl (cI, 8, .inl (σ 26)))]
def wM (cI cZ : ClassId) (a : Nat → Nat) (σ : St) : va_W := [(a 0, .inr (6, [.int (σ 34 0), .int (σ 0 0), .int (σ 3 0), .ref (a 1), .ref (a 2), .ref (a 3), .ref (a 4), .ref (a 5), .ref (a 6), .ref (a 7), .ref (a 8), .int (σ 13 0), .ref (a 9), .ref (a 10), .ref (a 11), .ref (a 12), .ref (a 13), .ref (a 14), .int (σ 19 0), .ref (a 15), .ref (a 16), .ref (a 17), .ref (a 18), .ref (a 19), .ref (a 20), .int (σ 1 0)])),
  (a 1, .inl (cI, 4, .inl (σ 4))),
  (a 2, .inl (cZ, 4, .inl (σ 5))),
  (a 3, .inl (cZ, 4, .inl (σ 6))),
  (a 4, .inl (cI, 4, .inl (σ 7))),
  (a 5, .inl (cZ, 2, .inl (σ 2))),
  (a 6, .inl (cI, 4, .inl (σ 9))),
  (a 7, .inl (cZ, 4, .inl (σ 10))),
  (a 8, .inl (cI, 4, .inl (σ 12))),
  (a 9, .inl (cI, 30, .inl (σ 14))),
  (a 10, .inl (cI, 30, .inl (σ 15))),
  (a 11, .inl (cI, 30, .inl (σ 16))),
  (a 12, .inl (cI, 30, .inl (σ 17))),
  (a 13, .inl (cI, 30, .inl (σ 30))),
  (a 14, .inl (cI, 30, .inl (σ 31))),
  (a 15, .inl (cI, 8, .inl (σ 20))),
  (a 16, .inl (cI, 8, .inl (σ 32))),
  (a 17, .inl (cI, 8, .inl (σ 33))),
  (a 18, .inl (cI, 8, .inl (σ 24))),
  (a 19, .inl (cI, 8, .inl (σ 25))),
  (a 20, .inl (cI, 8, .inl (σ 26)))]
abbrev ty2 (cI cZ : ClassId) : List (ClassId × FieldType) := [(cI, .int), (cZ, .boolean)]
end
section
/-! contracts of methods that return or throw, over a world that a state makes; what a throw needs of the tables and of Throwable's statics -/
abbrev xnames : List String := ["java/lang/RuntimeException", "java/lang/Exception"]
abbrev eIO : String := "java/lang/IndexOutOfBoundsException"
abbrev eIA : String := "java/lang/IllegalArgumentException"
abbrev eIS : String := "java/lang/IllegalStateException"
def EVw : List Cond := [.castable eIO eIO, .castable eIA eIA, .castable eIS eIS, .declares (Bundle.initS "java/lang/RuntimeException"), .declares (Bundle.initS "java/lang/Exception"), .declares (Bundle.initS Bundle.tN)]
def EVs : List (Nat × String) := [(57, "there are 4 trains"), (66, "a train stands on that block"), (88, "the delay would be above 1000"), (97, "no such switch"), (112, "the clock would be above 5000"), (131, "there are 30 bookings"), (156, "weight is out of range"), (159, "there are 8 waggons"), (170, "no such waggon"), (172, "minute is out of range"), (174, "price is out of range"), (189, "there is no waggon in the siding"), (197, "all would weigh too much"), (203, "the train has no waggon"), (215, "no such siding or train"), (217, "place is below 0"), (225, "no such train"), (227, "no such booking"), (229, "no such block"), (231, "no such siding"), (233, "minutes is out of range"), (235, "first is out of range"), (237, "last is out of range"), (242, "there are 4 waggons in the siding"), (244, "the train stands on no siding")]
def EVn : List (String × String) := [(eIA, eIO), (eIS, eIO), (eIS, eIA), (eIO, eIA), (eIO, eIS), (eIA, eIS)]
/-- what the tables say, of what a throw needs, that no list of words carries -/
def EV (U : State) : Prop := (∀ w ∈ EVw, va_Nw w U) ∧ (∀ q ∈ EVs, ∃ sa : Nat, vk_R RX5 q.1 q.2 sa U) ∧ ∀ q ∈ EVn, va_Nc q.1 q.2 U
theorem EV.tab {s : State} : ∀ w ∈ EVw, w.onTables = true := by decide +kernel
theorem EV.warm {s U : State} (hW : s.WarmedH U.vm) (h : EV s) : EV U := by
  refine ⟨?_, fun q hq => ?_, fun q hq => va_Nc.moved hW.alike (h.2.2 q hq)⟩
  · have h1 := h.1
    simp only [EVw, List.forall_mem_cons] at h1 ⊢
    obtain ⟨a1, a2, a3, a4, a5, a6, -⟩ := h1
    exact ⟨va_Nw.warmC hW a1, va_Nw.warmC hW a2, va_Nw.warmC hW a3, va_Nw.warmD hW a4, va_Nw.warmD hW a5, va_Nw.warmD hW a6, fun _ h => absurd h List.not_mem_nil⟩
  · obtain ⟨sa, hs⟩ := h.2.1 q hq
    exact ⟨sa, vk_R.warm hW hs⟩
theorem EV.calling {U : State} {g : JFrame} {mk : MethodId} {a : Array Value} (h : EV U) : EV (U.calling g mk a) :=
  ⟨fun w hw => va_Nw.same (EV.tab (s := U) w hw) (u := U) (U := U.calling g mk a) rfl (h.1 w hw), fun q hq => (h.2.1 q hq).imp fun sa hs => vk_R.same (u := U) (U := U.calling g mk a) rfl hs, fun q hq => va_Nc.moved (u := U) (U := U.calling g mk a) (Vm.Alike.refl U.vm) (h.2.2 q hq)⟩
theorem EV.moved {s U : State} (hW : s.WarmedH U.vm) (h : EV s) : EV U := EV.warm hW h
/-- Throwable's two statics lie outside A -/
def SZ (A : Nat → Prop) (U : State) (H : Heap) : Prop := vx_Zq Bundle.tN "UNASSIGNED_STACK" Bundle.steD A U H ∧ vx_Zq Bundle.tN "SUPPRESSED_SENTINEL" Bundle.listD A U H
theorem SZ.moved {A : Nat → Prop} {u U : State} {H : Heap} (hvm : u.vm.Alike U.vm) (h : SZ A u H) : SZ A U H := ⟨vx_Zq.moved hvm h.1, vx_Zq.moved hvm h.2⟩
theorem SZ.kept {A : Nat → Prop} {U : State} {H H1 : Heap} (h : SZ A U H) (hq : ∀ a : Nat, a < H.size → ¬ A a → H1[a]? = H[a]?) : SZ A U H1 := ⟨h.1.kept hq, h.2.kept hq⟩
theorem SZ.narrow {A B : Nat → Prop} {U : State} {H : Heap} (h : SZ A U H) (hAB : ∀ q, B q → A q) : SZ B U H := ⟨h.1.narrow hAB, h.2.narrow hAB⟩
theorem SZ.calling {A : Nat → Prop} {U : State} {H : Heap} {g : JFrame} {mk : MethodId} {a : Array Value} (h : SZ A U H) : SZ A (U.calling g mk a) H := SZ.moved (u := U) (U := U.calling g mk a) (Vm.Alike.refl U.vm) h
section XR
variable {S : Type} {l : Launch} {y : MethodName} {wsy ws' : List Cond} {rm : Room} {D : va_G} {tys : List (ClassId × FieldType)} {wf : S → va_W} {av : List Value} {σ u : S} {sz : Nat} {cc : ByteArray} {maxL : Nat} {ty : FieldType}
def PX (D : va_G) (tys : List (ClassId × FieldType)) (wf : S → va_W) (σ : S) (sz : Nat) (U : State) : Prop := PR D tys wf σ sz U ∧ EV U ∧ SZ (va_A (wf σ) sz) U U.heap
def XX (D : va_G) (tys : List (ClassId × FieldType)) (wf : S → va_W) (σ : S) (A : Nat → Prop) (px : String → Prop) : String → State → State → Prop := vx_X (fun _ : Unit => True) (fun E _ t => px E ∧ PO D tys wf A σ t) A
/-- a method that answers an int (a boolean), or throws with nothing changed -/
def XI (l : Launch) (y : MethodName) (wsy : List Cond) (rm : Room) (D : va_G) (tys : List (ClassId × FieldType)) (wf : S → va_W) (av : List Value) (σ : S) (sz : Nat) (post : Int32 → S → Prop) (px : String → Prop) : Prop :=
  vx_Met l y wsy rm (va_Pc av (PX D tys wf σ sz)) (va_Qi post (PO D tys wf (va_A (wf σ) sz)) (va_A (wf σ) sz)) (XX D tys wf σ (va_A (wf σ) sz) px) 1 6 (va_A (wf σ) sz)
def XV (l : Launch) (y : MethodName) (wsy : List Cond) (rm : Room) (D : va_G) (tys : List (ClassId × FieldType)) (wf : S → va_W) (av : List Value) (σ : S) (sz : Nat) (post : S → Prop) (px : String → Prop) : Prop :=
  vx_Met l y wsy rm (va_Pc av (PX D tys wf σ sz)) (va_Qv post (PO D tys wf (va_A (wf σ) sz)) (va_A (wf σ) sz)) (XX D tys wf σ (va_A (wf σ) sz) px) 1 6 (va_A (wf σ) sz)
theorem PX.calling {U : State} {g : JFrame} {mk : MethodId} {a : Array Value} (h : PX D tys wf σ sz U) : PX D tys wf σ sz (U.calling g mk a) := ⟨h.1.calling, h.2.1.calling, h.2.2.calling⟩
theorem PX.at {s U : State} {H : Heap} {locs : List Loc} {A : Nat → Prop} (hP : va_P D vwCl (wf σ) H) (hK : va_K D vwCl tys s) (hD : va_D A (wf σ)) (hS : va_S A s.heap H locs) (hA : ∀ q : Nat, s.heap.size ≤ q → A q) (hEV : EV s) (hZ : SZ A s s.heap) (hU : U.heap = H) (hW : s.WarmedH U.vm) : PX D tys wf σ H.size U :=
  ⟨PR.at hP hK hD hU hW, hEV.warm hW, by rw [hU]; exact SZ.moved hW.alike ((hZ.kept hS.2.1).narrow (free_self hD hS hA))⟩
theorem XI.of {post : Int32 → S → Prop} {px : String → Prop} (hy : plainName y.cls = true) (hw : wsy = Cond.code y cc maxL (some ty) :: ws') (hav : (lg_sl av).length ≤ maxL)
    (body : ∀ (p : Program) (e : Env) (s : State) (m : MethodId) (args : Array Value) (below : List Frame) (meth : Method) (c : Code) (A : Nat → Prop) (H : Heap) (locs : List Loc) (ls : Array Slot), p.tables.exec = Jvm.exec → c.code = cc → meth.sig.returnType = some ty → c.maxLocals = maxL → s.vm.findClass y.cls = some m.cls → (∀ w ∈ wsy, w.before args s = true) → meth.locks = false → (∀ x ∈ c.exceptionTable.toList, False) → EV s → SZ A s s.heap → (∀ q : Nat, s.heap.size ≤ q → A q) → va_S A s.heap H locs → va_P D vwCl (wf σ) H → va_K D vwCl tys s → va_D A (wf σ) → lv_has ls maxL (lv_args 0 av) →
      W p l e rm s m args below meth c H locs 0 0 (vx_MQ below (va_Qi post (PO D tys wf A) A) (XX D tys wf σ A px) args s 1 6 A) (F0 m 0 ls [])) : XI l y wsy rm D tys wf av σ sz post px := by
  refine vx_ofW (cc := cc) (maxL := maxL) (ret := some ty) hy hw ?_
  intro p e s m args below meth c s₁ B hml hexc hv
  obtain ⟨rfl, ⟨hsz, hP, hK, hD0⟩, hEV, hZ⟩ := hv
  have hts := atoms_spec (ws := wsy) B.pre
  subst hsz
  have hD := hD0.self (sz := s.heap.size)
  generalize hAe : va_A (wf σ) s.heap.size = A at hD hZ ⊢
  have hA : ∀ q : Nat, s.heap.size ≤ q → A q := fun q h => by rw [← hAe]; exact Or.inr h
  rw [lg_entry_eq]
  exact body p e s m _ below meth c A _ _ _ B.exec B.bytes B.returns hml (findClass_of_methodNamed B.named) hts B.notSynchronized hexc hEV hZ hA va_S.rf hP hK hD (lv_entry av hav)
theorem XV.of {post : S → Prop} {px : String → Prop} (hy : plainName y.cls = true) (hw : wsy = Cond.code y cc maxL none :: ws') (hav : (lg_sl av).length ≤ maxL)
    (body : ∀ (p : Program) (e : Env) (s : State) (m : MethodId) (args : Array Value) (below : List Frame) (meth : Method) (c : Code) (A : Nat → Prop) (H : Heap) (locs : List Loc) (ls : Array Slot), p.tables.exec = Jvm.exec → c.code = cc → meth.sig.returnType = none → c.maxLocals = maxL → s.vm.findClass y.cls = some m.cls → (∀ w ∈ wsy, w.before args s = true) → meth.locks = false → (∀ x ∈ c.exceptionTable.toList, False) → EV s → SZ A s s.heap → (∀ q : Nat, s.heap.size ≤ q → A q) → va_S A s.heap H locs → va_P D vwCl (wf σ) H → va_K D vwCl tys s → va_D A (wf σ) → lv_has ls maxL (lv_args 0 av) →
      W p l e rm s m args below meth c H locs 0 0 (vx_MQ below (va_Qv post (PO D tys wf A) A) (XX D tys wf σ A px) args s 1 6 A) (F0 m 0 ls [])) : XV l y wsy rm D tys wf av σ sz post px := by
  refine vx_ofW (cc := cc) (maxL := maxL) (ret := none) hy hw ?_
  intro p e s m args below meth c s₁ B hml hexc hv
  obtain ⟨rfl, ⟨hsz, hP, hK, hD0⟩, hEV, hZ⟩ := hv
  have hts := atoms_spec (ws := wsy) B.pre
  subst hsz
  have hD := hD0.self (sz := s.heap.size)
  generalize hAe : va_A (wf σ) s.heap.size = A at hD hZ ⊢
  have hA : ∀ q : Nat, s.heap.size ≤ q → A q := fun q h => by rw [← hAe]; exact Or.inr h
  rw [lg_entry_eq]
  exact body p e s m _ below meth c A _ _ _ B.exec B.bytes B.returns hml (findClass_of_methodNamed B.named) hts B.notSynchronized hexc hEV hZ hA va_S.rf hP hK hD (lv_entry av hav)
section XRET
variable {p : Program} {e : Env} {R : Room} {s : State} {m : MethodId} {args : Array Value} {below : List Frame} {meth : Method} {c : Code} {H : Heap} {locs : List Loc} {A : Nat → Prop} {pc : Nat} {ls : Array Slot} {v : Int32} {XC : String → State → State → Prop}
theorem XI.ret {post : Int32 → S → Prop} (hx : p.tables.exec = Jvm.exec) (hb : c.code = cc) (hr : meth.sig.returnType = some .int) (hlocks : meth.locks = false) (hK : va_K D vwCl tys s) (hP : va_P D vwCl (wf u) H) (hD : va_D A (wf u)) (hS : va_S A s.heap H locs) (hdg : decode cc pc = .ok (.ireturn, 1)) (hp : post v u) : W p l e R s m args below meth c H locs 0 0 (vx_MQ below (va_Qi post (PO D tys wf A) A) XC args s 1 6 A) (F0 m pc ls [.int v]) :=
  W.widen (Nat.zero_le 1) (Nat.zero_le 6) (vx_ret (W.iret hx hb hr (fun t ht hW => ⟨⟨v, u, rfl, hp, by rw [ht]; exact hP, va_K.moved hW.alike hK, hD⟩, hS.F ht⟩) hS.2.2 hdg hlocks))
theorem XI.zret {post : Int32 → S → Prop} (hx : p.tables.exec = Jvm.exec) (hb : c.code = cc) (hr : meth.sig.returnType = some .boolean) (hlocks : meth.locks = false) (hK : va_K D vwCl tys s) (hP : va_P D vwCl (wf u) H) (hD : va_D A (wf u)) (hS : va_S A s.heap H locs) (hdg : decode cc pc = .ok (.ireturn, 1)) (hn : narrow .boolean (.int v) = .int v) (hp : post v u) : W p l e R s m args below meth c H locs 0 0 (vx_MQ below (va_Qi post (PO D tys wf A) A) XC args s 1 6 A) (F0 m pc ls [.int v]) :=
  W.widen (Nat.zero_le 1) (Nat.zero_le 6) (vx_ret (W.zret hx hb hr hn (fun t ht hW => ⟨⟨v, u, rfl, hp, by rw [ht]; exact hP, va_K.moved hW.alike hK, hD⟩, hS.F ht⟩) hS.2.2 hdg hlocks))
theorem XV.ret {post : S → Prop} (hx : p.tables.exec = Jvm.exec) (hb : c.code = cc) (hr : meth.sig.returnType = none) (hlocks : meth.locks = false) (hK : va_K D vwCl tys s) (hP : va_P D vwCl (wf u) H) (hD : va_D A (wf u)) (hS : va_S A s.heap H locs) (hdg : decode cc pc = .ok (.return_, 1)) (hp : post u) : W p l e R s m args below meth c H locs 0 0 (vx_MQ below (va_Qv post (PO D tys wf A) A) XC args s 1 6 A) (F0 m pc ls []) :=
  W.widen (Nat.zero_le 1) (Nat.zero_le 6) (vx_ret (W.vret hx hb hr (fun t ht hW => ⟨⟨u, rfl, hp, by rw [ht]; exact hP, va_K.moved hW.alike hK, hD⟩, hS.F ht⟩) hS.2.2 hdg hlocks))
end XRET
section XCALL
variable {p : Program} {e : Env} {R : Room} {s : State} {m : MethodId} {args : Array Value} {below : List Frame} {meth : Method} {c : Code} {H : Heap} {locs : List Loc} {A : Nat → Prop} {pc nL n index : Nat} {ls : Array Slot} {st0 rest As : List Value} {Ts : List Cond} {own C : String} {b : Addr} {bytes : ByteArray} {maxLy : Nat} {rety : Option FieldType} {Qc : Array Value → State → Outcome → State → Prop}
/-- a throw of the method's own -/
theorem X.throwS {text : String} {names : List String} {ik is ic : Nat} {cls : String} {px : String → Prop} (hexec : p.tables.exec = Jvm.exec) (hb : c.code = cc) (hl : l.stackTraces = false)
    (hown : s.vm.findClass RX5 = some m.cls) (hcls : Bundle.fit cls = true) (hnames : ∀ n ∈ names, Bundle.fit n = true)
    (hk : (Cond.classLink RX5 ik cls).before args s = true) (hini : (Cond.initialized cls).before args s = true) (hstr : (is, text) ∈ EVs) (hat : ∀ w ∈ vx_atS RX5 ic cls names, w.before args s = true)
    (hgood : ∀ w ∈ Cond.classLink RX5 ik cls :: Cond.initialized cls :: vx_atS RX5 ic cls names, vx_ot w = true)
    (hEV : EV s) (hZ : SZ A s s.heap) (hK : va_K D vwCl tys s) (hP : va_P D vwCl (wf σ) H) (hD : va_D A (wf σ)) (hS : va_S A s.heap H locs) (hsize : ls.size = c.maxLocals)
    (d0 : decode cc pc = .ok (.new ik, 3)) (d3 : decode cc (pc + 3) = .ok (.dup, 1)) (d4 : decode cc (pc + 4) = .ok (.ldc is, 2)) (d6 : decode cc (pc + 6) = .ok (.invokespecial ic, 3)) (d9 : decode cc (pc + 9) = .ok (.athrow, 1))
    (hexc : ∀ x ∈ c.exceptionTable.toList, False)
    (hRframes : names.length + 3 < R.frames) (hRlocals : (rest.map fun v => v.category).sum + (13 * (names.length + 1) + 43) ≤ R.locals) (hRc : 1 ≤ R.cells) (hRs : 6 ≤ R.slots) (hlocks : meth.locks = false)
    (hpx : px cls) : W p l e R s m args below meth c H locs 0 0 (vx_MQ below Qc (XX D tys wf σ A px) args s 1 6 A) (F0 m pc ls rest) := by
  obtain ⟨sa, hsa⟩ := hEV.2.1 _ hstr
  refine vx_throwS hexec hb hl hown hcls hnames hk hini hsa hat hgood hZ.1 hZ.2 hS hsize d0 d3 d4 d6 d9 (fun x hx => (hexc x hx).elim) hRframes hRlocals (by omega) (by omega) hlocks (fun t ht hz hk1 => ?_) hS.2.2 (Nat.le_refl _) (Nat.le_refl _)
  have hk2 : ∀ (k : Nat) (q : Nat × va_E), (wf σ)[k]? = some q → t.heap[q.1]? = H[q.1]? := fun k q hq => hk1 q.1 (hP k q hq).lt
  exact ⟨(), trivial, ⟨hpx, hP.kept hk2, va_K.moved ht hK, hD⟩, ⟨Nat.le_trans hS.1 hz, fun q h1 h2 => (hk1 q (Nat.lt_of_lt_of_le h1 hS.1)).trans (hS.2.1 q h1 h2)⟩⟩
/-- a call that throws for certain; the exception leaves the caller too -/
theorem XV.outV {px px' : String → Prop} (F : CallFix p m c cc nL s args Ts own) (hM : XV l y wsy rm D tys wf (.ref b :: As) σ H.size (fun _ => False) px') (cw : CallW R s args own C index y bytes maxLy rety wsy rm 1 6 n)
    (hP : va_P D vwCl (wf σ) H) (hK : va_K D vwCl tys s) (hD : va_D A (wf σ)) (hS : va_S A s.heap H locs) (hA : ∀ q : Nat, s.heap.size ≤ q → A q) (hEV : EV s) (hZ : SZ A s s.heap)
    (hrecv : ∃ cell : Cell, H[b]? = some cell ∧ cell.vm.isStatics = false ∧ s.vm.findClass C = some cell.cls) (hn : As.length = n) (hsize : ls.size = nL) (hW : (rest.map fun v => v.category).sum ≤ 8) (hRc : 1 ≤ R.cells) (hRs : 6 ≤ R.slots)
    (hdg : decode cc pc = .ok (.invokevirtual index, 3)) (hst : st0 = As.reverse ++ .ref b :: rest) (hlocks : meth.locks = false) (hexc : ∀ x ∈ c.exceptionTable.toList, False) (hpx : ∀ E, px' E → px E) :
    W p l e R s m args below meth c H locs 0 0 (vx_MQ below Qc (XX D tys wf σ A px) args s 1 6 A) (F0 m pc ls st0) := by
  subst hst
  have hF := free_self hD hS hA
  refine vx_callv (vx_runV (As := As) (rest := rest) F hM cw ⟨fun a U g mk q => ⟨q.1, q.2.calling⟩, hrecv, fun U hU hW => ⟨rfl, PX.at hP hK hD hS hA hEV hZ hU hW⟩⟩ rfl hn hsize rfl (lv_room hW) hdg ⟨by omega, by omega⟩) hS (fun q _ h => hF q h) hF (fun q _ h => hF q h) ?_ (fun u t H1 locs1 ht hvm hw _ _ _ _ => hw.elim)
  intro E ce q9 u t H1 locs1 ht hvm _ hB hz1 hk1 hS1 hce hcv hcl
  obtain ⟨hE, hP1, hK1, hD1⟩ := hB
  rw [ht] at hP1
  exact vx_out (fun x hx => (hexc x hx).elim) hlocks hce hcv hcl (fun t1 ht1 hW1 => ⟨(), trivial, ⟨hpx E hE, by rw [ht1]; exact hP1, va_K.moved hW1 hK, hD⟩, hS1.F ht1⟩) hS1.2.2 (Nat.le_refl _) (Nat.le_refl _)
theorem XV.outS {px px' : String → Prop} (F : CallFix p m c cc nL s args Ts own) (hM : XV l y wsy rm D tys wf As σ H.size (fun _ => False) px') (cw : CallB R s args own index y bytes maxLy rety wsy rm 1 6 n ∧ (Cond.static y).before args s = true)
    (hP : va_P D vwCl (wf σ) H) (hK : va_K D vwCl tys s) (hD : va_D A (wf σ)) (hS : va_S A s.heap H locs) (hA : ∀ q : Nat, s.heap.size ≤ q → A q) (hEV : EV s) (hZ : SZ A s s.heap)
    (hn : As.length = n) (hsize : ls.size = nL) (hW : (rest.map fun v => v.category).sum ≤ 8) (hRc : 1 ≤ R.cells) (hRs : 6 ≤ R.slots)
    (hdg : decode cc pc = .ok (.invokestatic index, 3)) (hst : st0 = As.reverse ++ rest) (hlocks : meth.locks = false) (hexc : ∀ x ∈ c.exceptionTable.toList, False) (hpx : ∀ E, px' E → px E) :
    W p l e R s m args below meth c H locs 0 0 (vx_MQ below Qc (XX D tys wf σ A px) args s 1 6 A) (F0 m pc ls st0) := by
  subst hst
  have hF := free_self hD hS hA
  refine vx_callv (vx_runS (As := As) (rest := rest) F hM cw ⟨fun a U g mk q => ⟨q.1, q.2.calling⟩, fun U hU hW => ⟨rfl, PX.at hP hK hD hS hA hEV hZ hU hW⟩⟩ rfl hn hsize rfl (lv_room hW) hdg ⟨by omega, by omega⟩) hS (fun q _ h => hF q h) hF (fun q _ h => hF q h) ?_ (fun u t H1 locs1 ht hvm hw _ _ _ _ => hw.elim)
  intro E ce q9 u t H1 locs1 ht hvm _ hB hz1 hk1 hS1 hce hcv hcl
  obtain ⟨hE, hP1, hK1, hD1⟩ := hB
  rw [ht] at hP1
  exact vx_out (fun x hx => (hexc x hx).elim) hlocks hce hcv hcl (fun t1 ht1 hW1 => ⟨(), trivial, ⟨hpx E hE, by rw [ht1]; exact hP1, va_K.moved hW1 hK, hD⟩, hS1.F ht1⟩) hS1.2.2 (Nat.le_refl _) (Nat.le_refl _)
theorem XI.outV {px px' : String → Prop} (F : CallFix p m c cc nL s args Ts own) (hM : XI l y wsy rm D tys wf (.ref b :: As) σ H.size (fun _ _ => False) px') (cw : CallW R s args own C index y bytes maxLy rety wsy rm 1 6 n)
    (hP : va_P D vwCl (wf σ) H) (hK : va_K D vwCl tys s) (hD : va_D A (wf σ)) (hS : va_S A s.heap H locs) (hA : ∀ q : Nat, s.heap.size ≤ q → A q) (hEV : EV s) (hZ : SZ A s s.heap)
    (hrecv : ∃ cell : Cell, H[b]? = some cell ∧ cell.vm.isStatics = false ∧ s.vm.findClass C = some cell.cls) (hn : As.length = n) (hsize : ls.size = nL) (hW : (rest.map fun v => v.category).sum ≤ 8) (hRc : 1 ≤ R.cells) (hRs : 6 ≤ R.slots)
    (hdg : decode cc pc = .ok (.invokevirtual index, 3)) (hst : st0 = As.reverse ++ .ref b :: rest) (hlocks : meth.locks = false) (hexc : ∀ x ∈ c.exceptionTable.toList, False) (hpx : ∀ E, px' E → px E) :
    W p l e R s m args below meth c H locs 0 0 (vx_MQ below Qc (XX D tys wf σ A px) args s 1 6 A) (F0 m pc ls st0) := by
  subst hst
  have hF := free_self hD hS hA
  refine vx_calli (vx_runV (As := As) (rest := rest) F hM cw ⟨fun a U g mk q => ⟨q.1, q.2.calling⟩, hrecv, fun U hU hW => ⟨rfl, PX.at hP hK hD hS hA hEV hZ hU hW⟩⟩ rfl hn hsize rfl (lv_room hW) hdg ⟨by omega, by omega⟩) hS (fun q _ h => hF q h) hF (fun q _ h => hF q h) ?_ (fun r u t H1 locs1 ht hvm hw _ _ _ _ => hw.elim)
  intro E ce q9 u t H1 locs1 ht hvm _ hB hz1 hk1 hS1 hce hcv hcl
  obtain ⟨hE, hP1, hK1, hD1⟩ := hB
  rw [ht] at hP1
  exact vx_out (fun x hx => (hexc x hx).elim) hlocks hce hcv hcl (fun t1 ht1 hW1 => ⟨(), trivial, ⟨hpx E hE, by rw [ht1]; exact hP1, va_K.moved hW1 hK, hD⟩, hS1.F ht1⟩) hS1.2.2 (Nat.le_refl _) (Nat.le_refl _)
end XCALL
end XR
end
section
/-! the pure pictures -/
def fl (x : Int32) : Int32 := if x = 0 then 1 else 0
theorem fl_0 {x : Int32} (h : x = 0) : fl x = 1 := if_pos h
theorem fl_1 {x : Int32} (h : ¬ x = 0) : fl x = 0 := if_neg h
theorem fl_b (x : Int32) : fl x = 0 ∨ fl x = 1 := by
  by_cases h : x = 0
  · exact Or.inr (fl_0 h)
  · exact Or.inl (fl_1 h)
def blk (b : Int32) : Prop := b = 0 ∨ b = 1 ∨ b = 2 ∨ b = 3 ∨ b = 4 ∨ b = 5 ∨ b = 6 ∨ b = 7
/-- the block behind an end: -2 a dead end, -1 not joined -/
def ahd (T : Nat → Int32) (b r : Int32) : Int32 :=
  if r = 0 then
    (if b = 0 then -2 else if b = 2 then (if T 0 = 0 then 1 else -1) else if b = 4 then (if T 1 = 0 then 3 else -1) else if b = 6 then (if T 0 = 0 then -1 else 1) else if b = 7 then (if T 1 = 0 then -1 else 3) else b - 1)
  else
    (if b = 1 then (if T 0 = 0 then 2 else 6) else if b = 3 then (if T 1 = 0 then 4 else 7) else if b = 5 then -2 else if b = 6 then -2 else if b = 7 then -2 else b + 1)
/-- the first k < n with B k = w, or -1 -/
def so (B : Nat → Int32) (w : Int32) : Nat → Int32
  | 0 => -1
  | n + 1 => if so B w n = -1 then (if B n = w then nI n else -1) else so B w n
theorem so_miss {B : Nat → Int32} {w : Int32} : ∀ {n : Nat}, (∀ i, i < n → ¬ B i = w) → so B w n = -1
  | 0, _ => rfl
  | n + 1, h => by
    rw [so, if_pos (so_miss (fun i hi => h i (by omega))), if_neg (h n (by omega))]
theorem nI_m1 {j : Nat} (h : j < 2 ^ 31) : ¬ nI j = -1 := by
  intro e
  have h1 := nI_toInt h
  rw [e] at h1
  have h2 : (-1 : Int32).toInt = -1 := rfl
  omega
theorem so_hit {B : Nat → Int32} {w : Int32} {j : Nat} (e : B j = w) (h : ∀ i, i < j → ¬ B i = w) : ∀ {n : Nat}, j < n → n < 2 ^ 31 → so B w n = nI j
  | 0, hj, _ => absurd hj (Nat.not_lt_zero j)
  | n + 1, hj, hn => by
    by_cases hjn : j = n
    · subst hjn
      rw [so, if_pos (so_miss h), if_pos e]
    · have h1 := so_hit e h (n := n) (by omega) (by omega)
      rw [so, h1, if_neg (nI_m1 (by omega))]
/-- some booking of the block b for another train than t has a minute of f .. l -/
def mts (T B F L : Nat → Int32) (n : Nat) (t b f l : Int32) : Prop := ∃ k, k < n ∧ B k = b ∧ ¬ T k = t ∧ ¬ l < F k ∧ ¬ L k < f
def inR (v a b : Int32) : Prop := ¬ v < a ∧ ¬ b < v
abbrev T3 : Type := (Nat → Int32) × (Nat → Int32) × (Nat → Int32)
/-- one train in one minute: blocks, directions, delays -/
noncomputable def stp (Tu bT bB bF bL Hd : Nat → Int32) (n nb : Nat) (mi : Int32) (k : Nat) (x : T3) : T3 × Int32 :=
  if x.2.2 k ≤ 0 then
    (if Hd k = 0 then
      (if ahd Tu (x.1 k) (x.2.1 k) = -2 then ((x.1, upd x.2.1 k (fl (x.2.1 k)), x.2.2), 0)
       else cif (ahd Tu (x.1 k) (x.2.1 k) = -1 ∨ ¬ so x.1 (ahd Tu (x.1 k) (x.2.1 k)) n = -1 ∨ mts bT bB bF bL nb (nI k) (ahd Tu (x.1 k) (x.2.1 k)) mi mi) (x, 0) ((upd x.1 k (ahd Tu (x.1 k) (x.2.1 k)), x.2.1, x.2.2), 1))
     else (x, 0))
  else ((x.1, x.2.1, upd x.2.2 k (x.2.2 k - 1)), 0)
section STP
variable {Tu bT bB bF bL Hd : Nat → Int32} {n nb : Nat} {mi : Int32} {k : Nat} {x : T3}
theorem stp_d (h : ¬ x.2.2 k ≤ 0) : stp Tu bT bB bF bL Hd n nb mi k x = ((x.1, x.2.1, upd x.2.2 k (x.2.2 k - 1)), 0) := if_neg h
theorem stp_h (h : x.2.2 k ≤ 0) (h2 : ¬ Hd k = 0) : stp Tu bT bB bF bL Hd n nb mi k x = (x, 0) := by rw [stp, if_pos h, if_neg h2]
theorem stp_f (h : x.2.2 k ≤ 0) (h2 : Hd k = 0) (h3 : ahd Tu (x.1 k) (x.2.1 k) = -2) : stp Tu bT bB bF bL Hd n nb mi k x = ((x.1, upd x.2.1 k (fl (x.2.1 k)), x.2.2), 0) := by rw [stp, if_pos h, if_pos h2, if_pos h3]
theorem stp_b (h : x.2.2 k ≤ 0) (h2 : Hd k = 0) (h3 : ¬ ahd Tu (x.1 k) (x.2.1 k) = -2) (h4 : ahd Tu (x.1 k) (x.2.1 k) = -1 ∨ ¬ so x.1 (ahd Tu (x.1 k) (x.2.1 k)) n = -1 ∨ mts bT bB bF bL nb (nI k) (ahd Tu (x.1 k) (x.2.1 k)) mi mi) : stp Tu bT bB bF bL Hd n nb mi k x = (x, 0) := by rw [stp, if_pos h, if_pos h2, if_neg h3, cif_t h4]
theorem stp_m (h : x.2.2 k ≤ 0) (h2 : Hd k = 0) (h3 : ¬ ahd Tu (x.1 k) (x.2.1 k) = -2) (h4 : ¬ (ahd Tu (x.1 k) (x.2.1 k) = -1 ∨ ¬ so x.1 (ahd Tu (x.1 k) (x.2.1 k)) n = -1 ∨ mts bT bB bF bL nb (nI k) (ahd Tu (x.1 k) (x.2.1 k)) mi mi)) : stp Tu bT bB bF bL Hd n nb mi k x = ((upd x.1 k (ahd Tu (x.1 k) (x.2.1 k)), x.2.1, x.2.2), 1) := by rw [stp, if_pos h, if_pos h2, if_neg h3, cif_f h4]
theorem stp_01 (Tu bT bB bF bL Hd : Nat → Int32) (n nb : Nat) (mi : Int32) (k : Nat) (x : T3) : (stp Tu bT bB bF bL Hd n nb mi k x).2 = 0 ∨ (stp Tu bT bB bF bL Hd n nb mi k x).2 = 1 := by
  by_cases h : x.2.2 k ≤ 0
  · by_cases h2 : Hd k = 0
    · by_cases h3 : ahd Tu (x.1 k) (x.2.1 k) = -2
      · rw [stp_f h h2 h3]; exact Or.inl rfl
      · by_cases h4 : ahd Tu (x.1 k) (x.2.1 k) = -1 ∨ ¬ so x.1 (ahd Tu (x.1 k) (x.2.1 k)) n = -1 ∨ mts bT bB bF bL nb (nI k) (ahd Tu (x.1 k) (x.2.1 k)) mi mi
        · rw [stp_b h h2 h3 h4]; exact Or.inl rfl
        · rw [stp_m h h2 h3 h4]; exact Or.inr rfl
    · rw [stp_h h h2]; exact Or.inl rfl
  · rw [stp_d h]; exact Or.inl rfl
/-- the first k trains in one minute, and how many came to another block -/
noncomputable def mvs (Tu bT bB bF bL Hd : Nat → Int32) (n nb : Nat) (mi : Int32) (x : T3) : Nat → T3 × Int32
  | 0 => (x, 0)
  | k + 1 => ((stp Tu bT bB bF bL Hd n nb mi k (mvs Tu bT bB bF bL Hd n nb mi x k).1).1, (mvs Tu bT bB bF bL Hd n nb mi x k).2 + (stp Tu bT bB bF bL Hd n nb mi k (mvs Tu bT bB bF bL Hd n nb mi x k).1).2)
end STP
/-- lateness behind a minute, of the first k bookings -/
noncomputable def mkm (B bT bB bF bL : Nat → Int32) (n : Nat) (mi : Int32) (L : Nat → Int32) : Nat → Nat → Int32
  | 0 => L
  | k + 1 => cif (mkm B bT bB bF bL n mi L k k = -1 ∧ inR mi (bF k) (bL k) ∧ so B (bB k) n = bT k) (upd (mkm B bT bB bF bL n mi L k) k (mi - bF k)) (mkm B bT bB bF bL n mi L k)
theorem ahd_blk {T : Nat → Int32} {b r : Int32} (h : blk b) : ahd T b r = -2 ∨ ahd T b r = -1 ∨ blk (ahd T b r) := by
  rcases h with rfl | rfl | rfl | rfl | rfl | rfl | rfl | rfl <;> by_cases hr : r = 0 <;> by_cases h0 : T 0 = 0 <;> by_cases h1 : T 1 = 0 <;> simp (decide := true) [ahd, hr, h0, h1, blk]
theorem stp_one {Tu bT bB bF bL Hd : Nat → Int32} {n nb : Nat} {mi : Int32} {k : Nat} {x : T3} {r : Int32} (h : r = (stp Tu bT bB bF bL Hd n nb mi k x).2) (c : ¬ r = 0) : r = 1 := by
  subst h
  exact (stp_01 Tu bT bB bF bL Hd n nb mi k x).resolve_left c
theorem stp_blk {Tu bT bB bF bL Hd : Nat → Int32} {n nb : Nat} {mi : Int32} {k : Nat} {x : T3} (i : Nat) (h : blk (x.1 i)) (hk : blk (x.1 k)) : blk ((stp Tu bT bB bF bL Hd n nb mi k x).1.1 i) := by
  by_cases h1 : x.2.2 k ≤ 0
  · by_cases h2 : Hd k = 0
    · by_cases h3 : ahd Tu (x.1 k) (x.2.1 k) = -2
      · rw [stp_f h1 h2 h3]; exact h
      · by_cases h4 : ahd Tu (x.1 k) (x.2.1 k) = -1 ∨ ¬ so x.1 (ahd Tu (x.1 k) (x.2.1 k)) n = -1 ∨ mts bT bB bF bL nb (nI k) (ahd Tu (x.1 k) (x.2.1 k)) mi mi
        · rw [stp_b h1 h2 h3 h4]; exact h
        · rw [stp_m h1 h2 h3 h4]
          show blk (upd x.1 k _ i)
          by_cases e : i = k
          · subst e
            rw [pk_us]
            rcases ahd_blk (T := Tu) (r := x.2.1 i) hk with q | q | q
            · exact absurd q h3
            · exact absurd (Or.inl q) h4
            · exact q
          · rw [pk_un e]; exact h
    · rw [stp_h h1 h2]; exact h
  · rw [stp_d h1]; exact h
theorem mvs_2 (Tu bT bB bF bL Hd : Nat → Int32) (n nb : Nat) (mi : Int32) (x : T3) (k : Nat) : (mvs Tu bT bB bF bL Hd n nb mi x (k + 1)).2 = (mvs Tu bT bB bF bL Hd n nb mi x k).2 + (stp Tu bT bB bF bL Hd n nb mi k (mvs Tu bT bB bF bL Hd n nb mi x k).1).2 := rfl
theorem mvs_blk {Tu bT bB bF bL Hd : Nat → Int32} {n nb : Nat} {mi : Int32} {x : T3} (h : ∀ i, i < n → blk (x.1 i)) : ∀ k i, i < n → k ≤ n → blk ((mvs Tu bT bB bF bL Hd n nb mi x k).1.1 i)
  | 0, i, hi, _ => h i hi
  | k + 1, i, hi, hk => stp_blk i (mvs_blk h k i hi (by omega)) (mvs_blk h k k (by omega) (by omega))
/-- f on the first k, else g -/
def cpn (f g : Nat → Int32) (k : Nat) : Nat → Int32 := fun i => if i < k then f i else g i
theorem cpn_0 (f g : Nat → Int32) : cpn f g 0 = g := by funext i; simp [cpn]
theorem cpn_s (f g : Nat → Int32) (k : Nat) : upd (cpn f g k) k (f k) = cpn f g (k + 1) := by
  funext i
  by_cases h : i = k
  · subst h; simp [cpn, upd]
  · by_cases h2 : i < k
    · have h3 : i < k + 1 := by omega
      simp [cpn, upd, h, h2, h3]
    · have h3 : ¬ i < k + 1 := by omega
      simp [cpn, upd, h, h2, h3]
theorem cpn_in {f g : Nat → Int32} {k i : Nat} (h : i < k) : cpn f g k i = f i := if_pos h
theorem cpn_out {f g : Nat → Int32} {k i : Nat} (h : ¬ i < k) : cpn f g k i = g i := if_neg h
end
section
set_option maxRecDepth 20000 in
theorem in_X2_rightOf_X2 : ∀ w ∈ wsX20, w ∈ wsX2_rightOf := by decide +kernel
set_option maxHeartbeats 4000000 in
set_option maxRecDepth 100000 in
/-- Tracks.rightOf: the block behind that end -/
theorem c_X2_rightOf (l : Launch) (D : va_G) (cI cZ : ClassId) (a : Nat → Nat) (sz : Nat) (σ : St) (b : Int32) (hb8 : blk b) : MI l yX2_rightOf wsX2_rightOf ({ frames := 0, cells := 0, slots := 0, locals := 0 }) D (ty2 cI cZ) (wX cI cZ a) [.ref (a 1), .int b] σ sz (fun r u => u = σ ∧ r = ahd (σ 2) b 1) := by
  refine MI.of (cc := cX2_rightOf) (maxL := 2) (by decide) rfl (Nat.le_of_ble_eq_true rfl) ?_
  intro p e s m args below meth c A H locs ls hx hb hr hml hown hts hlocks hA hS hP hK hD hl
  have hl : lv_has ls 2 [(0, .ref (a 1)), (1, .int b)] := hl
  rcases hb8 with rfl | rfl | rfl | rfl | rfl | rfl | rfl | rfl
  · skip
    refine lv_iload_n hx hb dX2_rightOf_0 rfl (lv_at hl 1 rfl) ?_
    refine lv_tableOut (tgt := 79) hx hb dX2_rightOf_1 (by decide) (by decide) ?_
    refine lv_iload_n hx hb dX2_rightOf_79 rfl (lv_at hl 1 rfl) ?_
    refine lv_iconst (v := 1) hx hb dX2_rightOf_80 (by decide) ?_
    refine lv_iadd hx hb dX2_rightOf_81 ?_
    exact MI.ret hx hb hr hlocks hK hP hD hS dX2_rightOf_82 (by refine ⟨rfl, ?_⟩; simp (decide := true) only [ahd, if_true, if_false, reduceIte])
  · skip
    refine lv_iload_n hx hb dX2_rightOf_0 rfl (lv_at hl 1 rfl) ?_
    refine lv_tableIn (off := 43) (tgt := 44) hx hb dX2_rightOf_1 (by decide) (by decide) (by decide) (by decide) ?_
    refine lv_aload_n hx hb dX2_rightOf_44 rfl (lv_at hl 0 rfl) ?_
    refine va_get (D := D) (ci := 2) (v := .ref (a 2)) (C := RX2) (T := TX2) (N := 1) hx hb hts in_X2_rightOf_X2 hown hK hP 1 rfl rfl 0 (by decide) (hts (.fieldLink RX2 9 "Warpyard$Tracks" "turned" "[Z") (by decide +kernel)) (fun _ h9 => h9) rfl dX2_rightOf_45 ?_
    refine lv_iconst (v := 0) hx hb dX2_rightOf_48 (by decide) ?_
    refine na_zald hx hb hK hP 2 1 (f := (σ 2)) rfl rfl 0 (by decide) (by decide) rfl dX2_rightOf_49 ?_
    refine lv_if_eq (tgt := 58) hx hb dX2_rightOf_50 (by decide) (fun c_50 => ?_) (fun c_50 => ?_)
    · skip
      refine lv_iconst (v := 2) hx hb dX2_rightOf_58 (by decide) ?_
      exact MI.ret hx hb hr hlocks hK hP hD hS dX2_rightOf_59 (by refine ⟨rfl, ?_⟩; simp (decide := true) only [ahd, if_true, if_false, reduceIte, c_50])
    · skip
      refine lv_bipush (v := 6) hx hb dX2_rightOf_53 (by decide) ?_
      refine lv_goto (tgt := 59) hx hb dX2_rightOf_55 (by decide) ?_
      exact MI.ret hx hb hr hlocks hK hP hD hS dX2_rightOf_59 (by refine ⟨rfl, ?_⟩; simp (decide := true) only [ahd, if_true, if_false, reduceIte, c_50])
  · skip
    refine lv_iload_n hx hb dX2_rightOf_0 rfl (lv_at hl 1 rfl) ?_
    refine lv_tableIn (off := 78) (tgt := 79) hx hb dX2_rightOf_1 (by decide) (by decide) (by decide) (by decide) ?_
    refine lv_iload_n hx hb dX2_rightOf_79 rfl (lv_at hl 1 rfl) ?_
    refine lv_iconst (v := 1) hx hb dX2_rightOf_80 (by decide) ?_
    refine lv_iadd hx hb dX2_rightOf_81 ?_
    exact MI.ret hx hb hr hlocks hK hP hD hS dX2_rightOf_82 (by refine ⟨rfl, ?_⟩; simp (decide := true) only [ahd, if_true, if_false, reduceIte])
  · skip
    refine lv_iload_n hx hb dX2_rightOf_0 rfl (lv_at hl 1 rfl) ?_
    refine lv_tableIn (off := 59) (tgt := 60) hx hb dX2_rightOf_1 (by decide) (by decide) (by decide) (by decide) ?_
    refine lv_aload_n hx hb dX2_rightOf_60 rfl (lv_at hl 0 rfl) ?_
    refine va_get (D := D) (ci := 2) (v := .ref (a 2)) (C := RX2) (T := TX2) (N := 1) hx hb hts in_X2_rightOf_X2 hown hK hP 1 rfl rfl 0 (by decide) (hts (.fieldLink RX2 9 "Warpyard$Tracks" "turned" "[Z") (by decide +kernel)) (fun _ h9 => h9) rfl dX2_rightOf_61 ?_
    refine lv_iconst (v := 1) hx hb dX2_rightOf_64 (by decide) ?_
    refine na_zald hx hb hK hP 2 1 (f := (σ 2)) rfl rfl 1 (by decide) (by decide) rfl dX2_rightOf_65 ?_
    refine lv_if_eq (tgt := 74) hx hb dX2_rightOf_66 (by decide) (fun c_66 => ?_) (fun c_66 => ?_)
    · skip
      refine lv_iconst (v := 4) hx hb dX2_rightOf_74 (by decide) ?_
      exact MI.ret hx hb hr hlocks hK hP hD hS dX2_rightOf_75 (by refine ⟨rfl, ?_⟩; simp (decide := true) only [ahd, if_true, if_false, reduceIte, c_66])
    · skip
      refine lv_bipush (v := 7) hx hb dX2_rightOf_69 (by decide) ?_
      refine lv_goto (tgt := 75) hx hb dX2_rightOf_71 (by decide) ?_
      exact MI.ret hx hb hr hlocks hK hP hD hS dX2_rightOf_75 (by refine ⟨rfl, ?_⟩; simp (decide := true) only [ahd, if_true, if_false, reduceIte, c_66])
  · skip
    refine lv_iload_n hx hb dX2_rightOf_0 rfl (lv_at hl 1 rfl) ?_
    refine lv_tableIn (off := 78) (tgt := 79) hx hb dX2_rightOf_1 (by decide) (by decide) (by decide) (by decide) ?_
    refine lv_iload_n hx hb dX2_rightOf_79 rfl (lv_at hl 1 rfl) ?_
    refine lv_iconst (v := 1) hx hb dX2_rightOf_80 (by decide) ?_
    refine lv_iadd hx hb dX2_rightOf_81 ?_
    exact MI.ret hx hb hr hlocks hK hP hD hS dX2_rightOf_82 (by refine ⟨rfl, ?_⟩; simp (decide := true) only [ahd, if_true, if_false, reduceIte])
  · skip
    refine lv_iload_n hx hb dX2_rightOf_0 rfl (lv_at hl 1 rfl) ?_
    refine lv_tableIn (off := 75) (tgt := 76) hx hb dX2_rightOf_1 (by decide) (by decide) (by decide) (by decide) ?_
    refine lv_bipush (v := (-2)) hx hb dX2_rightOf_76 (by decide) ?_
    exact MI.ret hx hb hr hlocks hK hP hD hS dX2_rightOf_78 (by refine ⟨rfl, ?_⟩; simp (decide := true) only [ahd, if_true, if_false, reduceIte])
  · skip
    refine lv_iload_n hx hb dX2_rightOf_0 rfl (lv_at hl 1 rfl) ?_
    refine lv_tableIn (off := 75) (tgt := 76) hx hb dX2_rightOf_1 (by decide) (by decide) (by decide) (by decide) ?_
    refine lv_bipush (v := (-2)) hx hb dX2_rightOf_76 (by decide) ?_
    exact MI.ret hx hb hr hlocks hK hP hD hS dX2_rightOf_78 (by refine ⟨rfl, ?_⟩; simp (decide := true) only [ahd, if_true, if_false, reduceIte])
  · skip
    refine lv_iload_n hx hb dX2_rightOf_0 rfl (lv_at hl 1 rfl) ?_
    refine lv_tableIn (off := 75) (tgt := 76) hx hb dX2_rightOf_1 (by decide) (by decide) (by decide) (by decide) ?_
    refine lv_bipush (v := (-2)) hx hb dX2_rightOf_76 (by decide) ?_
    exact MI.ret hx hb hr hlocks hK hP hD hS dX2_rightOf_78 (by refine ⟨rfl, ?_⟩; simp (decide := true) only [ahd, if_true, if_false, reduceIte])
set_option maxRecDepth 20000 in
theorem in_X2_leftOf_X2 : ∀ w ∈ wsX20, w ∈ wsX2_leftOf := by decide +kernel
set_option maxHeartbeats 4000000 in
set_option maxRecDepth 100000 in
/-- Tracks.leftOf: the block behind that end -/
theorem c_X2_leftOf (l : Launch) (D : va_G) (cI cZ : ClassId) (a : Nat → Nat) (sz : Nat) (σ : St) (b : Int32) (hb8 : blk b) : MI l yX2_leftOf wsX2_leftOf ({ frames := 0, cells := 0, slots := 0, locals := 0 }) D (ty2 cI cZ) (wX cI cZ a) [.ref (a 1), .int b] σ sz (fun r u => u = σ ∧ r = ahd (σ 2) b 0) := by
  refine MI.of (cc := cX2_leftOf) (maxL := 2) (by decide) rfl (Nat.le_of_ble_eq_true rfl) ?_
  intro p e s m args below meth c A H locs ls hx hb hr hml hown hts hlocks hA hS hP hK hD hl
  have hl : lv_has ls 2 [(0, .ref (a 1)), (1, .int b)] := hl
  rcases hb8 with rfl | rfl | rfl | rfl | rfl | rfl | rfl | rfl
  · skip
    refine lv_iload_n hx hb dX2_leftOf_0 rfl (lv_at hl 1 rfl) ?_
    refine lv_tableIn (off := 47) (tgt := 48) hx hb dX2_leftOf_1 (by decide) (by decide) (by decide) (by decide) ?_
    refine lv_bipush (v := (-2)) hx hb dX2_leftOf_48 (by decide) ?_
    exact MI.ret hx hb hr hlocks hK hP hD hS dX2_leftOf_50 (by refine ⟨rfl, ?_⟩; simp (decide := true) only [ahd, if_true, if_false, reduceIte])
  · skip
    refine lv_iload_n hx hb dX2_leftOf_0 rfl (lv_at hl 1 rfl) ?_
    refine lv_tableIn (off := 110) (tgt := 111) hx hb dX2_leftOf_1 (by decide) (by decide) (by decide) (by decide) ?_
    refine lv_iload_n hx hb dX2_leftOf_111 rfl (lv_at hl 1 rfl) ?_
    refine lv_iconst (v := 1) hx hb dX2_leftOf_112 (by decide) ?_
    refine lv_isub hx hb dX2_leftOf_113 ?_
    exact MI.ret hx hb hr hlocks hK hP hD hS dX2_leftOf_114 (by refine ⟨rfl, ?_⟩; simp (decide := true) only [ahd, if_true, if_false, reduceIte])
  · skip
    refine lv_iload_n hx hb dX2_leftOf_0 rfl (lv_at hl 1 rfl) ?_
    refine lv_tableIn (off := 50) (tgt := 51) hx hb dX2_leftOf_1 (by decide) (by decide) (by decide) (by decide) ?_
    refine lv_aload_n hx hb dX2_leftOf_51 rfl (lv_at hl 0 rfl) ?_
    refine va_get (D := D) (ci := 2) (v := .ref (a 2)) (C := RX2) (T := TX2) (N := 1) hx hb hts in_X2_leftOf_X2 hown hK hP 1 rfl rfl 0 (by decide) (hts (.fieldLink RX2 9 "Warpyard$Tracks" "turned" "[Z") (by decide +kernel)) (fun _ h9 => h9) rfl dX2_leftOf_52 ?_
    refine lv_iconst (v := 0) hx hb dX2_leftOf_55 (by decide) ?_
    refine na_zald hx hb hK hP 2 1 (f := (σ 2)) rfl rfl 0 (by decide) (by decide) rfl dX2_leftOf_56 ?_
    refine lv_if_eq (tgt := 64) hx hb dX2_leftOf_57 (by decide) (fun c_57 => ?_) (fun c_57 => ?_)
    · skip
      refine lv_iconst (v := 1) hx hb dX2_leftOf_64 (by decide) ?_
      exact MI.ret hx hb hr hlocks hK hP hD hS dX2_leftOf_65 (by refine ⟨rfl, ?_⟩; simp (decide := true) only [ahd, if_true, if_false, reduceIte, c_57])
    · skip
      refine lv_iconst (v := (-1)) hx hb dX2_leftOf_60 (by decide) ?_
      refine lv_goto (tgt := 65) hx hb dX2_leftOf_61 (by decide) ?_
      exact MI.ret hx hb hr hlocks hK hP hD hS dX2_leftOf_65 (by refine ⟨rfl, ?_⟩; simp (decide := true) only [ahd, if_true, if_false, reduceIte, c_57])
  · skip
    refine lv_iload_n hx hb dX2_leftOf_0 rfl (lv_at hl 1 rfl) ?_
    refine lv_tableIn (off := 110) (tgt := 111) hx hb dX2_leftOf_1 (by decide) (by decide) (by decide) (by decide) ?_
    refine lv_iload_n hx hb dX2_leftOf_111 rfl (lv_at hl 1 rfl) ?_
    refine lv_iconst (v := 1) hx hb dX2_leftOf_112 (by decide) ?_
    refine lv_isub hx hb dX2_leftOf_113 ?_
    exact MI.ret hx hb hr hlocks hK hP hD hS dX2_leftOf_114 (by refine ⟨rfl, ?_⟩; simp (decide := true) only [ahd, if_true, if_false, reduceIte])
  · skip
    refine lv_iload_n hx hb dX2_leftOf_0 rfl (lv_at hl 1 rfl) ?_
    refine lv_tableIn (off := 65) (tgt := 66) hx hb dX2_leftOf_1 (by decide) (by decide) (by decide) (by decide) ?_
    refine lv_aload_n hx hb dX2_leftOf_66 rfl (lv_at hl 0 rfl) ?_
    refine va_get (D := D) (ci := 2) (v := .ref (a 2)) (C := RX2) (T := TX2) (N := 1) hx hb hts in_X2_leftOf_X2 hown hK hP 1 rfl rfl 0 (by decide) (hts (.fieldLink RX2 9 "Warpyard$Tracks" "turned" "[Z") (by decide +kernel)) (fun _ h9 => h9) rfl dX2_leftOf_67 ?_
    refine lv_iconst (v := 1) hx hb dX2_leftOf_70 (by decide) ?_
    refine na_zald hx hb hK hP 2 1 (f := (σ 2)) rfl rfl 1 (by decide) (by decide) rfl dX2_leftOf_71 ?_
    refine lv_if_eq (tgt := 79) hx hb dX2_leftOf_72 (by decide) (fun c_72 => ?_) (fun c_72 => ?_)
    · skip
      refine lv_iconst (v := 3) hx hb dX2_leftOf_79 (by decide) ?_
      exact MI.ret hx hb hr hlocks hK hP hD hS dX2_leftOf_80 (by refine ⟨rfl, ?_⟩; simp (decide := true) only [ahd, if_true, if_false, reduceIte, c_72])
    · skip
      refine lv_iconst (v := (-1)) hx hb dX2_leftOf_75 (by decide) ?_
      refine lv_goto (tgt := 80) hx hb dX2_leftOf_76 (by decide) ?_
      exact MI.ret hx hb hr hlocks hK hP hD hS dX2_leftOf_80 (by refine ⟨rfl, ?_⟩; simp (decide := true) only [ahd, if_true, if_false, reduceIte, c_72])
  · skip
    refine lv_iload_n hx hb dX2_leftOf_0 rfl (lv_at hl 1 rfl) ?_
    refine lv_tableIn (off := 110) (tgt := 111) hx hb dX2_leftOf_1 (by decide) (by decide) (by decide) (by decide) ?_
    refine lv_iload_n hx hb dX2_leftOf_111 rfl (lv_at hl 1 rfl) ?_
    refine lv_iconst (v := 1) hx hb dX2_leftOf_112 (by decide) ?_
    refine lv_isub hx hb dX2_leftOf_113 ?_
    exact MI.ret hx hb hr hlocks hK hP hD hS dX2_leftOf_114 (by refine ⟨rfl, ?_⟩; simp (decide := true) only [ahd, if_true, if_false, reduceIte])
  · skip
    refine lv_iload_n hx hb dX2_leftOf_0 rfl (lv_at hl 1 rfl) ?_
    refine lv_tableIn (off := 80) (tgt := 81) hx hb dX2_leftOf_1 (by decide) (by decide) (by decide) (by decide) ?_
    refine lv_aload_n hx hb dX2_leftOf_81 rfl (lv_at hl 0 rfl) ?_
    refine va_get (D := D) (ci := 2) (v := .ref (a 2)) (C := RX2) (T := TX2) (N := 1) hx hb hts in_X2_leftOf_X2 hown hK hP 1 rfl rfl 0 (by decide) (hts (.fieldLink RX2 9 "Warpyard$Tracks" "turned" "[Z") (by decide +kernel)) (fun _ h9 => h9) rfl dX2_leftOf_82 ?_
    refine lv_iconst (v := 0) hx hb dX2_leftOf_85 (by decide) ?_
    refine na_zald hx hb hK hP 2 1 (f := (σ 2)) rfl rfl 0 (by decide) (by decide) rfl dX2_leftOf_86 ?_
    refine lv_if_eq (tgt := 94) hx hb dX2_leftOf_87 (by decide) (fun c_87 => ?_) (fun c_87 => ?_)
    · skip
      refine lv_iconst (v := (-1)) hx hb dX2_leftOf_94 (by decide) ?_
      exact MI.ret hx hb hr hlocks hK hP hD hS dX2_leftOf_95 (by refine ⟨rfl, ?_⟩; simp (decide := true) only [ahd, if_true, if_false, reduceIte, c_87])
    · skip
      refine lv_iconst (v := 1) hx hb dX2_leftOf_90 (by decide) ?_
      refine lv_goto (tgt := 95) hx hb dX2_leftOf_91 (by decide) ?_
      exact MI.ret hx hb hr hlocks hK hP hD hS dX2_leftOf_95 (by refine ⟨rfl, ?_⟩; simp (decide := true) only [ahd, if_true, if_false, reduceIte, c_87])
  · skip
    refine lv_iload_n hx hb dX2_leftOf_0 rfl (lv_at hl 1 rfl) ?_
    refine lv_tableIn (off := 95) (tgt := 96) hx hb dX2_leftOf_1 (by decide) (by decide) (by decide) (by decide) ?_
    refine lv_aload_n hx hb dX2_leftOf_96 rfl (lv_at hl 0 rfl) ?_
    refine va_get (D := D) (ci := 2) (v := .ref (a 2)) (C := RX2) (T := TX2) (N := 1) hx hb hts in_X2_leftOf_X2 hown hK hP 1 rfl rfl 0 (by decide) (hts (.fieldLink RX2 9 "Warpyard$Tracks" "turned" "[Z") (by decide +kernel)) (fun _ h9 => h9) rfl dX2_leftOf_97 ?_
    refine lv_iconst (v := 1) hx hb dX2_leftOf_100 (by decide) ?_
    refine na_zald hx hb hK hP 2 1 (f := (σ 2)) rfl rfl 1 (by decide) (by decide) rfl dX2_leftOf_101 ?_
    refine lv_if_eq (tgt := 109) hx hb dX2_leftOf_102 (by decide) (fun c_102 => ?_) (fun c_102 => ?_)
    · skip
      refine lv_iconst (v := (-1)) hx hb dX2_leftOf_109 (by decide) ?_
      exact MI.ret hx hb hr hlocks hK hP hD hS dX2_leftOf_110 (by refine ⟨rfl, ?_⟩; simp (decide := true) only [ahd, if_true, if_false, reduceIte, c_102])
    · skip
      refine lv_iconst (v := 3) hx hb dX2_leftOf_105 (by decide) ?_
      refine lv_goto (tgt := 110) hx hb dX2_leftOf_106 (by decide) ?_
      exact MI.ret hx hb hr hlocks hK hP hD hS dX2_leftOf_110 (by refine ⟨rfl, ?_⟩; simp (decide := true) only [ahd, if_true, if_false, reduceIte, c_102])
set_option maxHeartbeats 4000000 in
set_option maxRecDepth 100000 in
/-- Tracks.ahead: the block behind the end to which it heads -/
theorem c_X2_ahead (l : Launch) (D : va_G) (cI cZ : ClassId) (a : Nat → Nat) (sz : Nat) (σ : St) (b rt : Int32) (hb8 : blk b) : MI l yX2_ahead wsX2_ahead ({ frames := 1, cells := 0, slots := 0, locals := 21 }) D (ty2 cI cZ) (wX cI cZ a) [.ref (a 1), .int b, .int rt] σ sz (fun r u => u = σ ∧ r = ahd (σ 2) b rt) := by
  refine MI.of (cc := cX2_ahead) (maxL := 3) (by decide) rfl (Nat.le_of_ble_eq_true rfl) ?_
  intro p e s m args below meth c A H locs ls hx hb hr hml hown hts hlocks hA hS hP hK hD hl
  have hl : lv_has ls 3 [(0, .ref (a 1)), (1, .int b), (2, .int rt)] := hl
  refine lv_iload_n hx hb dX2_ahead_0 rfl (lv_at hl 2 rfl) ?_
  refine lv_if_eq (tgt := 12) hx hb dX2_ahead_1 (by decide) (fun c_1 => ?_) (fun c_1 => ?_)
  · skip
    refine lv_aload_n hx hb dX2_ahead_12 rfl (lv_at hl 0 rfl) ?_
    refine lv_iload_n hx hb dX2_ahead_13 rfl (lv_at hl 1 rfl) ?_
    refine MI.callV (As := [.int b]) (rest := []) ⟨hx, hb, hml, hown, hts⟩ (c_X2_leftOf l D cI cZ a H.size σ b hb8) (cwV 1 hts gX2_ahead_X2_leftOf rfl rfl rfl (by decide +kernel) ⟨Nat.le_of_ble_eq_true rfl, Nat.le_of_ble_eq_true rfl⟩) hP hK hD hS hA (va_recv hK hP (ci := 2) (q0 := 1) rfl rfl) rfl hl.1 (by decide) (Nat.zero_le _) (Nat.zero_le _) dX2_ahead_14 rfl (fun r_14 u_14 H locs h_14 hP hD hS => ?_)
    obtain ⟨e_14, h_14⟩ := h_14
    have e_14 := Eq.symm e_14
    subst e_14
    have h_14 : r_14 = ahd (σ 2) b 0 := h_14
    exact MI.ret hx hb hr hlocks hK hP hD hS dX2_ahead_17 (by refine ⟨rfl, ?_⟩; rw [h_14, c_1])
  · skip
    refine lv_aload_n hx hb dX2_ahead_4 rfl (lv_at hl 0 rfl) ?_
    refine lv_iload_n hx hb dX2_ahead_5 rfl (lv_at hl 1 rfl) ?_
    refine MI.callV (As := [.int b]) (rest := []) ⟨hx, hb, hml, hown, hts⟩ (c_X2_rightOf l D cI cZ a H.size σ b hb8) (cwV 1 hts gX2_ahead_X2_rightOf rfl rfl rfl (by decide +kernel) ⟨Nat.le_of_ble_eq_true rfl, Nat.le_of_ble_eq_true rfl⟩) hP hK hD hS hA (va_recv hK hP (ci := 2) (q0 := 1) rfl rfl) rfl hl.1 (by decide) (Nat.zero_le _) (Nat.zero_le _) dX2_ahead_6 rfl (fun r_6 u_6 H locs h_6 hP hD hS => ?_)
    obtain ⟨e_6, h_6⟩ := h_6
    have e_6 := Eq.symm e_6
    subst e_6
    have h_6 : r_6 = ahd (σ 2) b 1 := h_6
    refine lv_goto (tgt := 17) hx hb dX2_ahead_9 (by decide) ?_
    exact MI.ret hx hb hr hlocks hK hP hD hS dX2_ahead_17 (by refine ⟨rfl, ?_⟩; rw [h_6]; simp (decide := true) only [ahd, c_1, if_false])
set_option maxRecDepth 20000 in
theorem in_X2_turn_X2 : ∀ w ∈ wsX20, w ∈ wsX2_turn := by decide +kernel
set_option maxHeartbeats 4000000 in
set_option maxRecDepth 100000 in
/-- Tracks.turn: throws a switch -/
theorem c_X2_turn (l : Launch) (D : va_G) (cI cZ : ClassId) (a : Nat → Nat) (sz : Nat) (σ : St) (k : Nat) (hk : k < 2) : MI l yX2_turn wsX2_turn ({ frames := 0, cells := 0, slots := 0, locals := 0 }) D (ty2 cI cZ) (wX cI cZ a) [.ref (a 1), .int (nI k)] σ sz (fun r u => u = (va_up σ 2 (upd (σ 2) k (fl (σ 2 k)))) ∧ r = fl (σ 2 k)) := by
  refine MI.of (cc := cX2_turn) (maxL := 2) (by decide) rfl (Nat.le_of_ble_eq_true rfl) ?_
  intro p e s m args below meth c A H locs ls hx hb hr hml hown hts hlocks hA hS hP hK hD hl
  have hl : lv_has ls 2 [(0, .ref (a 1)), (1, .int (nI k))] := hl
  refine lv_aload_n hx hb dX2_turn_0 rfl (lv_at hl 0 rfl) ?_
  refine va_get (D := D) (ci := 2) (v := .ref (a 2)) (C := RX2) (T := TX2) (N := 1) hx hb hts in_X2_turn_X2 hown hK hP 1 rfl rfl 0 (by decide) (hts (.fieldLink RX2 9 "Warpyard$Tracks" "turned" "[Z") (by decide +kernel)) (fun _ h9 => h9) rfl dX2_turn_1 ?_
  refine lv_iload_n hx hb dX2_turn_4 rfl (lv_at hl 1 rfl) ?_
  refine lv_aload_n hx hb dX2_turn_5 rfl (lv_at hl 0 rfl) ?_
  refine va_get (D := D) (ci := 2) (v := .ref (a 2)) (C := RX2) (T := TX2) (N := 1) hx hb hts in_X2_turn_X2 hown hK hP 1 rfl rfl 0 (by decide) (hts (.fieldLink RX2 9 "Warpyard$Tracks" "turned" "[Z") (by decide +kernel)) (fun _ h9 => h9) rfl dX2_turn_6 ?_
  refine lv_iload_n hx hb dX2_turn_9 rfl (lv_at hl 1 rfl) ?_
  refine na_zald hx hb hK hP 2 1 (f := (σ 2)) rfl rfl k (by omega) (by decide) rfl dX2_turn_10 ?_
  refine lv_if_ne (tgt := 18) hx hb dX2_turn_11 (by decide) (fun c_11 => ?_) (fun c_11 => ?_)
  · skip
    refine lv_iconst (v := 0) hx hb dX2_turn_18 (by decide) ?_
    refine na_zast hx hb hK hP hD hS 2 1 (f := (σ 2)) (x := 0) rfl rfl k (by omega) (by decide) rfl (Or.inl rfl) dX2_turn_19 (fun H locs hP hD hS => ?_)
    have hP : va_P D vwCl (wX cI cZ a (va_up σ 2 (upd (σ 2) k 0))) H := hP
    have hD : va_D A (wX cI cZ a (va_up σ 2 (upd (σ 2) k 0))) := hD
    refine lv_aload_n hx hb dX2_turn_20 rfl (lv_at hl 0 rfl) ?_
    refine va_get (D := D) (ci := 2) (v := .ref (a 2)) (C := RX2) (T := TX2) (N := 1) hx hb hts in_X2_turn_X2 hown hK hP 1 rfl rfl 0 (by decide) (hts (.fieldLink RX2 9 "Warpyard$Tracks" "turned" "[Z") (by decide +kernel)) (fun _ h9 => h9) rfl dX2_turn_21 ?_
    refine lv_iload_n hx hb dX2_turn_24 rfl (lv_at hl 1 rfl) ?_
    refine na_zald hx hb hK hP 2 1 (f := (upd (σ 2) k 0)) rfl rfl k (by omega) (by decide) rfl dX2_turn_25 ?_
    exact MI.zret hx hb hr hlocks hK hP hD hS dX2_turn_26 (nar_b (by rw [pk_us]; decide)) (by rw [fl_1 c_11]; exact ⟨rfl, pk_us⟩)
  · skip
    refine lv_iconst (v := 1) hx hb dX2_turn_14 (by decide) ?_
    refine lv_goto (tgt := 19) hx hb dX2_turn_15 (by decide) ?_
    refine na_zast hx hb hK hP hD hS 2 1 (f := (σ 2)) (x := 1) rfl rfl k (by omega) (by decide) rfl (Or.inr rfl) dX2_turn_19 (fun H locs hP hD hS => ?_)
    have hP : va_P D vwCl (wX cI cZ a (va_up σ 2 (upd (σ 2) k 1))) H := hP
    have hD : va_D A (wX cI cZ a (va_up σ 2 (upd (σ 2) k 1))) := hD
    refine lv_aload_n hx hb dX2_turn_20 rfl (lv_at hl 0 rfl) ?_
    refine va_get (D := D) (ci := 2) (v := .ref (a 2)) (C := RX2) (T := TX2) (N := 1) hx hb hts in_X2_turn_X2 hown hK hP 1 rfl rfl 0 (by decide) (hts (.fieldLink RX2 9 "Warpyard$Tracks" "turned" "[Z") (by decide +kernel)) (fun _ h9 => h9) rfl dX2_turn_21 ?_
    refine lv_iload_n hx hb dX2_turn_24 rfl (lv_at hl 1 rfl) ?_
    refine na_zald hx hb hK hP 2 1 (f := (upd (σ 2) k 1)) rfl rfl k (by omega) (by decide) rfl dX2_turn_25 ?_
    exact MI.zret hx hb hr hlocks hK hP hD hS dX2_turn_26 (nar_b (by rw [pk_us]; decide)) (by rw [fl_0 c_11]; exact ⟨rfl, pk_us⟩)
set_option maxRecDepth 20000 in
theorem in_X0_isIn_X0 : ∀ w ∈ wsX00, w ∈ wsX0_isIn := by decide +kernel
set_option maxHeartbeats 4000000 in
set_option maxRecDepth 100000 in
/-- Bookings.isIn -/
theorem c_X0_isIn (l : Launch) (D : va_G) (cI cZ : ClassId) (a : Nat → Nat) (sz : Nat) (σ : St) (k : Nat) (mi : Int32) (hk : k < 30) : MI l yX0_isIn wsX0_isIn ({ frames := 0, cells := 0, slots := 0, locals := 0 }) D (ty2 cI cZ) (wX cI cZ a) [.ref (a 13), .int (nI k), .int mi] σ sz (fun r u => u = σ ∧ bo r (inR mi (σ 16 k) (σ 17 k))) := by
  refine MI.of (cc := cX0_isIn) (maxL := 3) (by decide) rfl (Nat.le_of_ble_eq_true rfl) ?_
  intro p e s m args below meth c A H locs ls hx hb hr hml hown hts hlocks hA hS hP hK hD hl
  have hl : lv_has ls 3 [(0, .ref (a 13)), (1, .int (nI k)), (2, .int mi)] := hl
  refine lv_aload_n hx hb dX0_isIn_0 rfl (lv_at hl 0 rfl) ?_
  refine va_get (D := D) (ci := 0) (v := .ref (a 16)) (C := RX0) (T := TX0) (N := 6) hx hb hts in_X0_isIn_X0 hown hK hP 13 rfl rfl 2 (by decide) (hts (.fieldLink RX0 18 "Warpyard$Bookings" "first" "[I") (by decide +kernel)) (fun _ h9 => h9) rfl dX0_isIn_1 ?_
  refine lv_iload_n hx hb dX0_isIn_4 rfl (lv_at hl 1 rfl) ?_
  refine na_iald hx hb hK hP 16 0 (f := (σ 16)) rfl rfl k (by omega) (by decide) rfl dX0_isIn_5 ?_
  refine lv_iload_n hx hb dX0_isIn_6 rfl (lv_at hl 2 rfl) ?_
  refine lv_icmp_gt (tgt := 24) hx hb dX0_isIn_7 (by decide) (fun c_7 => ?_) (fun c_7 => ?_)
  · skip
    refine lv_iconst (v := 0) hx hb dX0_isIn_24 (by decide) ?_
    exact MI.zret hx hb hr hlocks hK hP hD hS dX0_isIn_25 rfl (by exact ⟨rfl, Or.inr ⟨rfl, fun h => h.1 c_7⟩⟩)
  · skip
    refine lv_iload_n hx hb dX0_isIn_10 rfl (lv_at hl 2 rfl) ?_
    refine lv_aload_n hx hb dX0_isIn_11 rfl (lv_at hl 0 rfl) ?_
    refine va_get (D := D) (ci := 0) (v := .ref (a 17)) (C := RX0) (T := TX0) (N := 6) hx hb hts in_X0_isIn_X0 hown hK hP 13 rfl rfl 3 (by decide) (hts (.fieldLink RX0 21 "Warpyard$Bookings" "last" "[I") (by decide +kernel)) (fun _ h9 => h9) rfl dX0_isIn_12 ?_
    refine lv_iload_n hx hb dX0_isIn_15 rfl (lv_at hl 1 rfl) ?_
    refine na_iald hx hb hK hP 17 0 (f := (σ 17)) rfl rfl k (by omega) (by decide) rfl dX0_isIn_16 ?_
    refine lv_icmp_gt (tgt := 24) hx hb dX0_isIn_17 (by decide) (fun c_17 => ?_) (fun c_17 => ?_)
    · skip
      refine lv_iconst (v := 0) hx hb dX0_isIn_24 (by decide) ?_
      exact MI.zret hx hb hr hlocks hK hP hD hS dX0_isIn_25 rfl (by exact ⟨rfl, Or.inr ⟨rfl, fun h => h.2 c_17⟩⟩)
    · skip
      refine lv_iconst (v := 1) hx hb dX0_isIn_20 (by decide) ?_
      refine lv_goto (tgt := 25) hx hb dX0_isIn_21 (by decide) ?_
      exact MI.zret hx hb hr hlocks hK hP hD hS dX0_isIn_25 rfl (by exact ⟨rfl, Or.inl ⟨rfl, c_7, c_17⟩⟩)
set_option maxRecDepth 20000 in
theorem in_X0_isForAnother_X0 : ∀ w ∈ wsX00, w ∈ wsX0_isForAnother := by decide +kernel
set_option maxHeartbeats 4000000 in
set_option maxRecDepth 100000 in
/-- Bookings.isForAnother -/
theorem c_X0_isForAnother (l : Launch) (D : va_G) (cI cZ : ClassId) (a : Nat → Nat) (sz : Nat) (σ : St) (t b mi : Int32) (nb : Nat) (hnb : σ 13 0 = nI nb) (hnb30 : nb ≤ 30) : MI l yX0_isForAnother wsX0_isForAnother ({ frames := 1, cells := 0, slots := 0, locals := 22 }) D (ty2 cI cZ) (wX cI cZ a) [.ref (a 13), .int t, .int b, .int mi] σ sz (fun r u => u = σ ∧ bo r (mts (σ 14) (σ 15) (σ 16) (σ 17) nb t b mi mi)) := by
  refine MI.of (cc := cX0_isForAnother) (maxL := 5) (by decide) rfl (Nat.le_of_ble_eq_true rfl) ?_
  intro p e s m args below meth c A H locs ls hx hb hr hml hown hts hlocks hA hS hP hK hD hl
  have hl : lv_has ls 5 [(0, .ref (a 13)), (1, .int t), (2, .int b), (3, .int mi)] := hl
  refine lv_iconst (v := 0) hx hb dX0_isForAnother_0 (by decide) ?_
  refine lv_istore (lv' := [(4, .int 0), (0, .ref (a 13)), (1, .int t), (2, .int b), (3, .int mi)]) hx hb dX0_isForAnother_1 hl (by decide) rfl (fun ls hl => ?_)
  have loop_3 : ∀ (f : Nat) (k : Nat) (H : Heap) (locs : List Loc) (ls : Array Slot), nb < k + f → k ≤ nb → (∀ i, i < k → ¬ (σ 15 i = b ∧ ¬ σ 14 i = t ∧ inR mi (σ 16 i) (σ 17 i))) → va_P D vwCl (wX cI cZ a σ) H → va_D A (wX cI cZ a σ) → va_S A s.heap H locs → lv_has ls 5 [(0, .ref (a 13)), (1, .int t), (2, .int b), (3, .int mi), (4, .int (nI k))] → W p l e { frames := 1, cells := 0, slots := 0, locals := 22 } s m args below meth c H locs 0 0 (MQ below (va_Qi (fun r u => u = σ ∧ bo r (mts (σ 14) (σ 15) (σ 16) (σ 17) nb t b mi mi)) (PO D (ty2 cI cZ) (wX cI cZ a) A) A) args s 0 0 A) (F0 m 3 ls []) := by
    intro f
    induction f with
    | zero => intro k H locs ls hf hk hno; exact absurd hf (by omega)
    | succ f ih =>
      intro k H locs ls hf hk hno hP hD hS hl
      refine lv_iload hx hb dX0_isForAnother_3 (lv_at hl 4 rfl) ?_
      refine lv_aload_n hx hb dX0_isForAnother_5 rfl (lv_at hl 0 rfl) ?_
      refine va_get (D := D) (ci := 0) (v := .int (σ 13 0)) (C := RX0) (T := TX0) (N := 6) hx hb hts in_X0_isForAnother_X0 hown hK hP 13 rfl rfl 5 (by decide) (hts (.fieldLink RX0 27 "Warpyard$Bookings" "count" "I") (by decide +kernel)) (fun _ h9 => h9) rfl dX0_isForAnother_6 ?_
      refine lv_topi (fun v_9 e_9 => ?_)
      obtain rfl : v_9 = nI nb := by rw [e_9]; exact hnb
      refine lv_icmp_ge (tgt := 52) hx hb dX0_isForAnother_9 (by decide) (fun c_9 => ?_) (fun c_9 => ?_)
      · skip
        rw [nI_leI (by omega) (by omega)] at c_9
        refine lv_iconst (v := 0) hx hb dX0_isForAnother_52 (by decide) ?_
        exact MI.zret hx hb hr hlocks hK hP hD hS dX0_isForAnother_53 rfl (by exact ⟨rfl, Or.inr ⟨rfl, fun ⟨i, hi, h1, h2, h3⟩ => hno i (by omega) ⟨h1, h2, h3⟩⟩⟩)
      · skip
        rw [nI_leI (by omega) (by omega)] at c_9
        refine lv_aload_n hx hb dX0_isForAnother_12 rfl (lv_at hl 0 rfl) ?_
        refine va_get (D := D) (ci := 0) (v := .ref (a 15)) (C := RX0) (T := TX0) (N := 6) hx hb hts in_X0_isForAnother_X0 hown hK hP 13 rfl rfl 1 (by decide) (hts (.fieldLink RX0 15 "Warpyard$Bookings" "block" "[I") (by decide +kernel)) (fun _ h9 => h9) rfl dX0_isForAnother_13 ?_
        refine lv_iload hx hb dX0_isForAnother_16 (lv_at hl 4 rfl) ?_
        refine na_iald hx hb hK hP 15 0 (f := (σ 15)) rfl rfl k (by omega) (by decide) rfl dX0_isForAnother_18 ?_
        refine lv_iload_n hx hb dX0_isForAnother_19 rfl (lv_at hl 2 rfl) ?_
        refine lv_icmp_ne (tgt := 46) hx hb dX0_isForAnother_20 (by decide) (fun c_20 => ?_) (fun c_20 => ?_)
        · skip
          refine lv_iinc (v := nI (k + 1)) (lv' := [(4, .int (nI (k + 1))), (0, .ref (a 13)), (1, .int t), (2, .int b), (3, .int mi)]) hx hb dX0_isForAnother_46 hl (k := 4) rfl (by exact nI_1 k) (by decide) rfl (fun ls hl => ?_)
          refine lv_goto (tgt := 3) hx hb dX0_isForAnother_49 (by decide) ?_
          exact ih (k + 1) _ _ ls (by omega) (by omega) (by exact lt_s hno (fun h => c_20 h.1)) hP hD hS (lv_sub hl [1, 2, 3, 4, 0] rfl)
        · skip
          refine lv_aload_n hx hb dX0_isForAnother_23 rfl (lv_at hl 0 rfl) ?_
          refine va_get (D := D) (ci := 0) (v := .ref (a 14)) (C := RX0) (T := TX0) (N := 6) hx hb hts in_X0_isForAnother_X0 hown hK hP 13 rfl rfl 0 (by decide) (hts (.fieldLink RX0 9 "Warpyard$Bookings" "train" "[I") (by decide +kernel)) (fun _ h9 => h9) rfl dX0_isForAnother_24 ?_
          refine lv_iload hx hb dX0_isForAnother_27 (lv_at hl 4 rfl) ?_
          refine na_iald hx hb hK hP 14 0 (f := (σ 14)) rfl rfl k (by omega) (by decide) rfl dX0_isForAnother_29 ?_
          refine lv_iload_n hx hb dX0_isForAnother_30 rfl (lv_at hl 1 rfl) ?_
          refine lv_icmp_eq (tgt := 46) hx hb dX0_isForAnother_31 (by decide) (fun c_31 => ?_) (fun c_31 => ?_)
          · skip
            refine lv_iinc (v := nI (k + 1)) (lv' := [(4, .int (nI (k + 1))), (0, .ref (a 13)), (1, .int t), (2, .int b), (3, .int mi)]) hx hb dX0_isForAnother_46 hl (k := 4) rfl (by exact nI_1 k) (by decide) rfl (fun ls hl => ?_)
            refine lv_goto (tgt := 3) hx hb dX0_isForAnother_49 (by decide) ?_
            exact ih (k + 1) _ _ ls (by omega) (by omega) (by exact lt_s hno (fun h => h.2.1 c_31)) hP hD hS (lv_sub hl [1, 2, 3, 4, 0] rfl)
          · skip
            refine lv_aload_n hx hb dX0_isForAnother_34 rfl (lv_at hl 0 rfl) ?_
            refine lv_iload hx hb dX0_isForAnother_35 (lv_at hl 4 rfl) ?_
            refine lv_iload_n hx hb dX0_isForAnother_37 rfl (lv_at hl 3 rfl) ?_
            refine MI.callV (As := [.int (nI k), .int mi]) (rest := []) ⟨hx, hb, hml, hown, hts⟩ (c_X0_isIn l D cI cZ a H.size σ k mi (by omega)) (cwV 2 hts gX0_isForAnother_X0_isIn rfl rfl rfl (by decide +kernel) ⟨Nat.le_of_ble_eq_true rfl, Nat.le_of_ble_eq_true rfl⟩) hP hK hD hS hA (va_recv hK hP (ci := 0) (q0 := 13) rfl rfl) rfl hl.1 (by decide) (Nat.zero_le _) (Nat.zero_le _) dX0_isForAnother_38 rfl (fun r_38 u_38 H locs h_38 hP hD hS => ?_)
            rcases h_38 with ⟨e_38, ⟨rfl, h_38⟩ | ⟨rfl, h_38⟩⟩
            · skip
              have e_38 := Eq.symm e_38
              subst e_38
              have h_38 : inR mi ((σ 16) k) ((σ 17) k) := h_38
              refine lv_if_eq (tgt := 46) hx hb dX0_isForAnother_41 (by decide) (fun c9 => absurd c9 (by decide)) (fun _ => ?_)
              refine lv_iconst (v := 1) hx hb dX0_isForAnother_44 (by decide) ?_
              exact MI.zret hx hb hr hlocks hK hP hD hS dX0_isForAnother_45 rfl (by exact ⟨rfl, Or.inl ⟨rfl, k, by omega, c_20, c_31, h_38.1, h_38.2⟩⟩)
            · skip
              have e_38 := Eq.symm e_38
              subst e_38
              have h_38 : ¬ inR mi ((σ 16) k) ((σ 17) k) := h_38
              refine lv_if_eq (tgt := 46) hx hb dX0_isForAnother_41 (by decide) (fun _ => ?_) (fun c9 => absurd (by decide) c9)
              refine lv_iinc (v := nI (k + 1)) (lv' := [(4, .int (nI (k + 1))), (0, .ref (a 13)), (1, .int t), (2, .int b), (3, .int mi)]) hx hb dX0_isForAnother_46 hl (k := 4) rfl (by exact nI_1 k) (by decide) rfl (fun ls hl => ?_)
              refine lv_goto (tgt := 3) hx hb dX0_isForAnother_49 (by decide) ?_
              exact ih (k + 1) _ _ ls (by omega) (by omega) (by exact lt_s hno (fun h => h_38 h.2.2)) hP hD hS (lv_sub hl [1, 2, 3, 4, 0] rfl)
  exact loop_3 (nb + 1) 0 _ _ ls (by omega) (by omega) (by intro i hi; omega) hP hD hS (lv_sub hl [1, 2, 3, 4, 0] rfl)
set_option maxRecDepth 20000 in
theorem in_X0_meetsAnother_X0 : ∀ w ∈ wsX00, w ∈ wsX0_meetsAnother := by decide +kernel
set_option maxHeartbeats 4000000 in
set_option maxRecDepth 100000 in
/-- Bookings.meetsAnother -/
theorem c_X0_meetsAnother (l : Launch) (D : va_G) (cI cZ : ClassId) (a : Nat → Nat) (sz : Nat) (σ : St) (t b fr to : Int32) (nb : Nat) (hnb : σ 13 0 = nI nb) (hnb30 : nb ≤ 30) : MI l yX0_meetsAnother wsX0_meetsAnother ({ frames := 0, cells := 0, slots := 0, locals := 0 }) D (ty2 cI cZ) (wX cI cZ a) [.ref (a 13), .int t, .int b, .int fr, .int to] σ sz (fun r u => u = σ ∧ bo r (mts (σ 14) (σ 15) (σ 16) (σ 17) nb t b fr to)) := by
  refine MI.of (cc := cX0_meetsAnother) (maxL := 6) (by decide) rfl (Nat.le_of_ble_eq_true rfl) ?_
  intro p e s m args below meth c A H locs ls hx hb hr hml hown hts hlocks hA hS hP hK hD hl
  have hl : lv_has ls 6 [(0, .ref (a 13)), (1, .int t), (2, .int b), (3, .int fr), (4, .int to)] := hl
  refine lv_iconst (v := 0) hx hb dX0_meetsAnother_0 (by decide) ?_
  refine lv_istore (lv' := [(5, .int 0), (0, .ref (a 13)), (1, .int t), (2, .int b), (3, .int fr), (4, .int to)]) hx hb dX0_meetsAnother_1 hl (by decide) rfl (fun ls hl => ?_)
  have loop_3 : ∀ (f : Nat) (k : Nat) (H : Heap) (locs : List Loc) (ls : Array Slot), nb < k + f → k ≤ nb → (∀ i, i < k → ¬ (σ 15 i = b ∧ ¬ σ 14 i = t ∧ ¬ to < σ 16 i ∧ ¬ σ 17 i < fr)) → va_P D vwCl (wX cI cZ a σ) H → va_D A (wX cI cZ a σ) → va_S A s.heap H locs → lv_has ls 6 [(0, .ref (a 13)), (1, .int t), (2, .int b), (3, .int fr), (4, .int to), (5, .int (nI k))] → W p l e { frames := 0, cells := 0, slots := 0, locals := 0 } s m args below meth c H locs 0 0 (MQ below (va_Qi (fun r u => u = σ ∧ bo r (mts (σ 14) (σ 15) (σ 16) (σ 17) nb t b fr to)) (PO D (ty2 cI cZ) (wX cI cZ a) A) A) args s 0 0 A) (F0 m 3 ls []) := by
    intro f
    induction f with
    | zero => intro k H locs ls hf hk hno; exact absurd hf (by omega)
    | succ f ih =>
      intro k H locs ls hf hk hno hP hD hS hl
      refine lv_iload hx hb dX0_meetsAnother_3 (lv_at hl 5 rfl) ?_
      refine lv_aload_n hx hb dX0_meetsAnother_5 rfl (lv_at hl 0 rfl) ?_
      refine va_get (D := D) (ci := 0) (v := .int (σ 13 0)) (C := RX0) (T := TX0) (N := 6) hx hb hts in_X0_meetsAnother_X0 hown hK hP 13 rfl rfl 5 (by decide) (hts (.fieldLink RX0 27 "Warpyard$Bookings" "count" "I") (by decide +kernel)) (fun _ h9 => h9) rfl dX0_meetsAnother_6 ?_
      refine lv_topi (fun v_9 e_9 => ?_)
      obtain rfl : v_9 = nI nb := by rw [e_9]; exact hnb
      refine lv_icmp_ge (tgt := 65) hx hb dX0_meetsAnother_9 (by decide) (fun c_9 => ?_) (fun c_9 => ?_)
      · skip
        rw [nI_leI (by omega) (by omega)] at c_9
        refine lv_iconst (v := 0) hx hb dX0_meetsAnother_65 (by decide) ?_
        exact MI.zret hx hb hr hlocks hK hP hD hS dX0_meetsAnother_66 rfl (by exact ⟨rfl, Or.inr ⟨rfl, fun ⟨i, hi, h⟩ => hno i (by omega) h⟩⟩)
      · skip
        rw [nI_leI (by omega) (by omega)] at c_9
        refine lv_aload_n hx hb dX0_meetsAnother_12 rfl (lv_at hl 0 rfl) ?_
        refine va_get (D := D) (ci := 0) (v := .ref (a 15)) (C := RX0) (T := TX0) (N := 6) hx hb hts in_X0_meetsAnother_X0 hown hK hP 13 rfl rfl 1 (by decide) (hts (.fieldLink RX0 15 "Warpyard$Bookings" "block" "[I") (by decide +kernel)) (fun _ h9 => h9) rfl dX0_meetsAnother_13 ?_
        refine lv_iload hx hb dX0_meetsAnother_16 (lv_at hl 5 rfl) ?_
        refine na_iald hx hb hK hP 15 0 (f := (σ 15)) rfl rfl k (by omega) (by decide) rfl dX0_meetsAnother_18 ?_
        refine lv_iload_n hx hb dX0_meetsAnother_19 rfl (lv_at hl 2 rfl) ?_
        refine lv_icmp_ne (tgt := 59) hx hb dX0_meetsAnother_20 (by decide) (fun c_20 => ?_) (fun c_20 => ?_)
        · skip
          refine lv_iinc (v := nI (k + 1)) (lv' := [(5, .int (nI (k + 1))), (0, .ref (a 13)), (1, .int t), (2, .int b), (3, .int fr), (4, .int to)]) hx hb dX0_meetsAnother_59 hl (k := 5) rfl (by exact nI_1 k) (by decide) rfl (fun ls hl => ?_)
          refine lv_goto (tgt := 3) hx hb dX0_meetsAnother_62 (by decide) ?_
          exact ih (k + 1) _ _ ls (by omega) (by omega) (by exact lt_s hno (fun h => c_20 h.1)) hP hD hS (lv_sub hl [1, 2, 3, 4, 5, 0] rfl)
        · skip
          refine lv_aload_n hx hb dX0_meetsAnother_23 rfl (lv_at hl 0 rfl) ?_
          refine va_get (D := D) (ci := 0) (v := .ref (a 14)) (C := RX0) (T := TX0) (N := 6) hx hb hts in_X0_meetsAnother_X0 hown hK hP 13 rfl rfl 0 (by decide) (hts (.fieldLink RX0 9 "Warpyard$Bookings" "train" "[I") (by decide +kernel)) (fun _ h9 => h9) rfl dX0_meetsAnother_24 ?_
          refine lv_iload hx hb dX0_meetsAnother_27 (lv_at hl 5 rfl) ?_
          refine na_iald hx hb hK hP 14 0 (f := (σ 14)) rfl rfl k (by omega) (by decide) rfl dX0_meetsAnother_29 ?_
          refine lv_iload_n hx hb dX0_meetsAnother_30 rfl (lv_at hl 1 rfl) ?_
          refine lv_icmp_eq (tgt := 59) hx hb dX0_meetsAnother_31 (by decide) (fun c_31 => ?_) (fun c_31 => ?_)
          · skip
            refine lv_iinc (v := nI (k + 1)) (lv' := [(5, .int (nI (k + 1))), (0, .ref (a 13)), (1, .int t), (2, .int b), (3, .int fr), (4, .int to)]) hx hb dX0_meetsAnother_59 hl (k := 5) rfl (by exact nI_1 k) (by decide) rfl (fun ls hl => ?_)
            refine lv_goto (tgt := 3) hx hb dX0_meetsAnother_62 (by decide) ?_
            exact ih (k + 1) _ _ ls (by omega) (by omega) (by exact lt_s hno (fun h => h.2.1 c_31)) hP hD hS (lv_sub hl [1, 2, 3, 4, 5, 0] rfl)
          · skip
            refine lv_aload_n hx hb dX0_meetsAnother_34 rfl (lv_at hl 0 rfl) ?_
            refine va_get (D := D) (ci := 0) (v := .ref (a 16)) (C := RX0) (T := TX0) (N := 6) hx hb hts in_X0_meetsAnother_X0 hown hK hP 13 rfl rfl 2 (by decide) (hts (.fieldLink RX0 18 "Warpyard$Bookings" "first" "[I") (by decide +kernel)) (fun _ h9 => h9) rfl dX0_meetsAnother_35 ?_
            refine lv_iload hx hb dX0_meetsAnother_38 (lv_at hl 5 rfl) ?_
            refine na_iald hx hb hK hP 16 0 (f := (σ 16)) rfl rfl k (by omega) (by decide) rfl dX0_meetsAnother_40 ?_
            refine lv_iload hx hb dX0_meetsAnother_41 (lv_at hl 4 rfl) ?_
            refine lv_icmp_gt (tgt := 59) hx hb dX0_meetsAnother_43 (by decide) (fun c_43 => ?_) (fun c_43 => ?_)
            · skip
              refine lv_iinc (v := nI (k + 1)) (lv' := [(5, .int (nI (k + 1))), (0, .ref (a 13)), (1, .int t), (2, .int b), (3, .int fr), (4, .int to)]) hx hb dX0_meetsAnother_59 hl (k := 5) rfl (by exact nI_1 k) (by decide) rfl (fun ls hl => ?_)
              refine lv_goto (tgt := 3) hx hb dX0_meetsAnother_62 (by decide) ?_
              exact ih (k + 1) _ _ ls (by omega) (by omega) (by exact lt_s hno (fun h => h.2.2.1 c_43)) hP hD hS (lv_sub hl [1, 2, 3, 4, 5, 0] rfl)
            · skip
              refine lv_iload_n hx hb dX0_meetsAnother_46 rfl (lv_at hl 3 rfl) ?_
              refine lv_aload_n hx hb dX0_meetsAnother_47 rfl (lv_at hl 0 rfl) ?_
              refine va_get (D := D) (ci := 0) (v := .ref (a 17)) (C := RX0) (T := TX0) (N := 6) hx hb hts in_X0_meetsAnother_X0 hown hK hP 13 rfl rfl 3 (by decide) (hts (.fieldLink RX0 21 "Warpyard$Bookings" "last" "[I") (by decide +kernel)) (fun _ h9 => h9) rfl dX0_meetsAnother_48 ?_
              refine lv_iload hx hb dX0_meetsAnother_51 (lv_at hl 5 rfl) ?_
              refine na_iald hx hb hK hP 17 0 (f := (σ 17)) rfl rfl k (by omega) (by decide) rfl dX0_meetsAnother_53 ?_
              refine lv_icmp_gt (tgt := 59) hx hb dX0_meetsAnother_54 (by decide) (fun c_54 => ?_) (fun c_54 => ?_)
              · skip
                refine lv_iinc (v := nI (k + 1)) (lv' := [(5, .int (nI (k + 1))), (0, .ref (a 13)), (1, .int t), (2, .int b), (3, .int fr), (4, .int to)]) hx hb dX0_meetsAnother_59 hl (k := 5) rfl (by exact nI_1 k) (by decide) rfl (fun ls hl => ?_)
                refine lv_goto (tgt := 3) hx hb dX0_meetsAnother_62 (by decide) ?_
                exact ih (k + 1) _ _ ls (by omega) (by omega) (by exact lt_s hno (fun h => h.2.2.2 c_54)) hP hD hS (lv_sub hl [1, 2, 3, 4, 5, 0] rfl)
              · skip
                refine lv_iconst (v := 1) hx hb dX0_meetsAnother_57 (by decide) ?_
                exact MI.zret hx hb hr hlocks hK hP hD hS dX0_meetsAnother_58 rfl (by exact ⟨rfl, Or.inl ⟨rfl, k, by omega, c_20, c_31, c_43, c_54⟩⟩)
  exact loop_3 (nb + 1) 0 _ _ ls (by omega) (by omega) (by intro i hi; omega) hP hD hS (lv_sub hl [1, 2, 3, 4, 5, 0] rfl)
set_option maxRecDepth 20000 in
theorem in_X3_standingOn_X3 : ∀ w ∈ wsX30, w ∈ wsX3_standingOn := by decide +kernel
set_option maxHeartbeats 4000000 in
set_option maxRecDepth 100000 in
/-- Trains.standingOn: the train on a block -/
theorem c_X3_standingOn (l : Launch) (D : va_G) (cI cZ : ClassId) (a : Nat → Nat) (sz : Nat) (σ : St) (w : Int32) (n : Nat) (hn : σ 3 0 = nI n) (hn4 : n ≤ 4) : MI l yX3_standingOn wsX3_standingOn ({ frames := 0, cells := 0, slots := 0, locals := 0 }) D (ty2 cI cZ) (wX cI cZ a) [.ref (a 3), .int w] σ sz (fun r u => u = σ ∧ r = so (σ 4) w n) := by
  refine MI.of (cc := cX3_standingOn) (maxL := 3) (by decide) rfl (Nat.le_of_ble_eq_true rfl) ?_
  intro p e s m args below meth c A H locs ls hx hb hr hml hown hts hlocks hA hS hP hK hD hl
  have hl : lv_has ls 3 [(0, .ref (a 3)), (1, .int w)] := hl
  refine lv_iconst (v := 0) hx hb dX3_standingOn_0 (by decide) ?_
  refine lv_istore_n (lv' := [(2, .int 0), (0, .ref (a 3)), (1, .int w)]) hx hb dX3_standingOn_1 rfl hl (by decide) rfl (fun ls hl => ?_)
  have loop_2 : ∀ (f : Nat) (k : Nat) (H : Heap) (locs : List Loc) (ls : Array Slot), n < k + f → k ≤ n → (∀ i, i < k → ¬ σ 4 i = w) → va_P D vwCl (wX cI cZ a σ) H → va_D A (wX cI cZ a σ) → va_S A s.heap H locs → lv_has ls 3 [(0, .ref (a 3)), (1, .int w), (2, .int (nI k))] → W p l e { frames := 0, cells := 0, slots := 0, locals := 0 } s m args below meth c H locs 0 0 (MQ below (va_Qi (fun r u => u = σ ∧ r = so (σ 4) w n) (PO D (ty2 cI cZ) (wX cI cZ a) A) A) args s 0 0 A) (F0 m 2 ls []) := by
    intro f
    induction f with
    | zero => intro k H locs ls hf hk hno; exact absurd hf (by omega)
    | succ f ih =>
      intro k H locs ls hf hk hno hP hD hS hl
      refine lv_iload_n hx hb dX3_standingOn_2 rfl (lv_at hl 2 rfl) ?_
      refine lv_aload_n hx hb dX3_standingOn_3 rfl (lv_at hl 0 rfl) ?_
      refine va_get (D := D) (ci := 3) (v := .int (σ 3 0)) (C := RX3) (T := TX3) (N := 5) hx hb hts in_X3_standingOn_X3 hown hK hP 3 rfl rfl 4 (by decide) (hts (.fieldLink RX3 25 "Warpyard$Trains" "count" "I") (by decide +kernel)) (fun _ h9 => h9) rfl dX3_standingOn_4 ?_
      refine lv_topi (fun v_7 e_7 => ?_)
      obtain rfl : v_7 = nI n := by rw [e_7]; exact hn
      refine lv_icmp_ge (tgt := 28) hx hb dX3_standingOn_7 (by decide) (fun c_7 => ?_) (fun c_7 => ?_)
      · skip
        rw [nI_leI (by omega) (by omega)] at c_7
        refine lv_iconst (v := (-1)) hx hb dX3_standingOn_28 (by decide) ?_
        exact MI.ret hx hb hr hlocks hK hP hD hS dX3_standingOn_29 (by exact ⟨rfl, (so_miss (fun i hi => hno i (by omega))).symm⟩)
      · skip
        rw [nI_leI (by omega) (by omega)] at c_7
        refine lv_aload_n hx hb dX3_standingOn_10 rfl (lv_at hl 0 rfl) ?_
        refine va_get (D := D) (ci := 3) (v := .ref (a 4)) (C := RX3) (T := TX3) (N := 5) hx hb hts in_X3_standingOn_X3 hown hK hP 3 rfl rfl 0 (by decide) (hts (.fieldLink RX3 9 "Warpyard$Trains" "block" "[I") (by decide +kernel)) (fun _ h9 => h9) rfl dX3_standingOn_11 ?_
        refine lv_iload_n hx hb dX3_standingOn_14 rfl (lv_at hl 2 rfl) ?_
        refine na_iald hx hb hK hP 4 0 (f := (σ 4)) rfl rfl k (by omega) (by decide) rfl dX3_standingOn_15 ?_
        refine lv_iload_n hx hb dX3_standingOn_16 rfl (lv_at hl 1 rfl) ?_
        refine lv_icmp_ne (tgt := 22) hx hb dX3_standingOn_17 (by decide) (fun c_17 => ?_) (fun c_17 => ?_)
        · skip
          refine lv_iinc (v := nI (k + 1)) (lv' := [(2, .int (nI (k + 1))), (0, .ref (a 3)), (1, .int w)]) hx hb dX3_standingOn_22 hl (k := 2) rfl (by exact nI_1 k) (by decide) rfl (fun ls hl => ?_)
          refine lv_goto (tgt := 2) hx hb dX3_standingOn_25 (by decide) ?_
          exact ih (k + 1) _ _ ls (by omega) (by omega) (by exact lt_s hno c_17) hP hD hS (lv_sub hl [1, 2, 0] rfl)
        · skip
          refine lv_iload_n hx hb dX3_standingOn_20 rfl (lv_at hl 2 rfl) ?_
          exact MI.ret hx hb hr hlocks hK hP hD hS dX3_standingOn_21 (by exact ⟨rfl, (so_hit c_17 hno (by omega) (by omega)).symm⟩)
  exact loop_2 (n + 1) 0 _ _ ls (by omega) (by omega) (by intro i hi; omega) hP hD hS (lv_sub hl [1, 2, 0] rfl)
set_option maxRecDepth 20000 in
theorem in_X3_turnRound_X3 : ∀ w ∈ wsX30, w ∈ wsX3_turnRound := by decide +kernel
set_option maxHeartbeats 4000000 in
set_option maxRecDepth 100000 in
/-- Trains.turnRound -/
theorem c_X3_turnRound (l : Launch) (D : va_G) (cI cZ : ClassId) (a : Nat → Nat) (sz : Nat) (σ : St) (k : Nat) (hk : k < 4) : MI l yX3_turnRound wsX3_turnRound ({ frames := 0, cells := 0, slots := 0, locals := 0 }) D (ty2 cI cZ) (wX cI cZ a) [.ref (a 3), .int (nI k)] σ sz (fun r u => u = (va_up σ 5 (upd (σ 5) k (fl (σ 5 k)))) ∧ r = fl (σ 5 k)) := by
  refine MI.of (cc := cX3_turnRound) (maxL := 2) (by decide) rfl (Nat.le_of_ble_eq_true rfl) ?_
  intro p e s m args below meth c A H locs ls hx hb hr hml hown hts hlocks hA hS hP hK hD hl
  have hl : lv_has ls 2 [(0, .ref (a 3)), (1, .int (nI k))] := hl
  refine lv_aload_n hx hb dX3_turnRound_0 rfl (lv_at hl 0 rfl) ?_
  refine va_get (D := D) (ci := 3) (v := .ref (a 5)) (C := RX3) (T := TX3) (N := 5) hx hb hts in_X3_turnRound_X3 hown hK hP 3 rfl rfl 1 (by decide) (hts (.fieldLink RX3 15 "Warpyard$Trains" "right" "[Z") (by decide +kernel)) (fun _ h9 => h9) rfl dX3_turnRound_1 ?_
  refine lv_iload_n hx hb dX3_turnRound_4 rfl (lv_at hl 1 rfl) ?_
  refine lv_aload_n hx hb dX3_turnRound_5 rfl (lv_at hl 0 rfl) ?_
  refine va_get (D := D) (ci := 3) (v := .ref (a 5)) (C := RX3) (T := TX3) (N := 5) hx hb hts in_X3_turnRound_X3 hown hK hP 3 rfl rfl 1 (by decide) (hts (.fieldLink RX3 15 "Warpyard$Trains" "right" "[Z") (by decide +kernel)) (fun _ h9 => h9) rfl dX3_turnRound_6 ?_
  refine lv_iload_n hx hb dX3_turnRound_9 rfl (lv_at hl 1 rfl) ?_
  refine na_zald hx hb hK hP 5 1 (f := (σ 5)) rfl rfl k (by omega) (by decide) rfl dX3_turnRound_10 ?_
  refine lv_if_ne (tgt := 18) hx hb dX3_turnRound_11 (by decide) (fun c_11 => ?_) (fun c_11 => ?_)
  · skip
    refine lv_iconst (v := 0) hx hb dX3_turnRound_18 (by decide) ?_
    refine na_zast hx hb hK hP hD hS 5 1 (f := (σ 5)) (x := 0) rfl rfl k (by omega) (by decide) rfl (Or.inl rfl) dX3_turnRound_19 (fun H locs hP hD hS => ?_)
    have hP : va_P D vwCl (wX cI cZ a (va_up σ 5 (upd (σ 5) k 0))) H := hP
    have hD : va_D A (wX cI cZ a (va_up σ 5 (upd (σ 5) k 0))) := hD
    refine lv_aload_n hx hb dX3_turnRound_20 rfl (lv_at hl 0 rfl) ?_
    refine va_get (D := D) (ci := 3) (v := .ref (a 5)) (C := RX3) (T := TX3) (N := 5) hx hb hts in_X3_turnRound_X3 hown hK hP 3 rfl rfl 1 (by decide) (hts (.fieldLink RX3 15 "Warpyard$Trains" "right" "[Z") (by decide +kernel)) (fun _ h9 => h9) rfl dX3_turnRound_21 ?_
    refine lv_iload_n hx hb dX3_turnRound_24 rfl (lv_at hl 1 rfl) ?_
    refine na_zald hx hb hK hP 5 1 (f := (upd (σ 5) k 0)) rfl rfl k (by omega) (by decide) rfl dX3_turnRound_25 ?_
    exact MI.zret hx hb hr hlocks hK hP hD hS dX3_turnRound_26 (nar_b (by rw [pk_us]; decide)) (by rw [fl_1 c_11]; exact ⟨rfl, pk_us⟩)
  · skip
    refine lv_iconst (v := 1) hx hb dX3_turnRound_14 (by decide) ?_
    refine lv_goto (tgt := 19) hx hb dX3_turnRound_15 (by decide) ?_
    refine na_zast hx hb hK hP hD hS 5 1 (f := (σ 5)) (x := 1) rfl rfl k (by omega) (by decide) rfl (Or.inr rfl) dX3_turnRound_19 (fun H locs hP hD hS => ?_)
    have hP : va_P D vwCl (wX cI cZ a (va_up σ 5 (upd (σ 5) k 1))) H := hP
    have hD : va_D A (wX cI cZ a (va_up σ 5 (upd (σ 5) k 1))) := hD
    refine lv_aload_n hx hb dX3_turnRound_20 rfl (lv_at hl 0 rfl) ?_
    refine va_get (D := D) (ci := 3) (v := .ref (a 5)) (C := RX3) (T := TX3) (N := 5) hx hb hts in_X3_turnRound_X3 hown hK hP 3 rfl rfl 1 (by decide) (hts (.fieldLink RX3 15 "Warpyard$Trains" "right" "[Z") (by decide +kernel)) (fun _ h9 => h9) rfl dX3_turnRound_21 ?_
    refine lv_iload_n hx hb dX3_turnRound_24 rfl (lv_at hl 1 rfl) ?_
    refine na_zald hx hb hK hP 5 1 (f := (upd (σ 5) k 1)) rfl rfl k (by omega) (by decide) rfl dX3_turnRound_25 ?_
    exact MI.zret hx hb hr hlocks hK hP hD hS dX3_turnRound_26 (nar_b (by rw [pk_us]; decide)) (by rw [fl_0 c_11]; exact ⟨rfl, pk_us⟩)
set_option maxRecDepth 20000 in
theorem in_X3_step_X3 : ∀ w ∈ wsX30, w ∈ wsX3_step := by decide +kernel
set_option maxHeartbeats 4000000 in
set_option maxRecDepth 100000 in
/-- Trains.step: one train in one minute -/
theorem c_X3_step (l : Launch) (D : va_G) (cI cZ : ClassId) (a : Nat → Nat) (sz : Nat) (σ : St) (n nb k : Nat) (mi : Int32) (x : T3) (hn : σ 3 0 = nI n) (hn4 : n ≤ 4) (hk : k < n) (hnb : σ 13 0 = nI nb) (hnb30 : nb ≤ 30) (hB : blk (x.1 k)) : MI l yX3_step wsX3_step ({ frames := 2, cells := 0, slots := 0, locals := 46 }) D (ty2 cI cZ) (wX cI cZ a) [.ref (a 3), .int (nI k), .ref (a 1), .ref (a 13), .int mi] (va_up (va_up (va_up σ 4 x.1) 5 x.2.1) 7 x.2.2) sz (fun r u => u = (va_up (va_up (va_up σ 4 ((stp (σ 2) (σ 14) (σ 15) (σ 16) (σ 17) (σ 6) n nb mi k x).1.1)) 5 ((stp (σ 2) (σ 14) (σ 15) (σ 16) (σ 17) (σ 6) n nb mi k x).1.2.1)) 7 ((stp (σ 2) (σ 14) (σ 15) (σ 16) (σ 17) (σ 6) n nb mi k x).1.2.2)) ∧ r = (stp (σ 2) (σ 14) (σ 15) (σ 16) (σ 17) (σ 6) n nb mi k x).2) := by
  refine MI.of (cc := cX3_step) (maxL := 6) (by decide) rfl (Nat.le_of_ble_eq_true rfl) ?_
  intro p e s m args below meth c A H locs ls hx hb hr hml hown hts hlocks hA hS hP hK hD hl
  have hl : lv_has ls 6 [(0, .ref (a 3)), (1, .int (nI k)), (2, .ref (a 1)), (3, .ref (a 13)), (4, .int mi)] := hl
  refine lv_aload_n hx hb dX3_step_0 rfl (lv_at hl 0 rfl) ?_
  refine va_get (D := D) (ci := 3) (v := .ref (a 7)) (C := RX3) (T := TX3) (N := 5) hx hb hts in_X3_step_X3 hown hK hP 3 rfl rfl 3 (by decide) (hts (.fieldLink RX3 22 "Warpyard$Trains" "delay" "[I") (by decide +kernel)) (fun _ h9 => h9) rfl dX3_step_1 ?_
  refine lv_iload_n hx hb dX3_step_4 rfl (lv_at hl 1 rfl) ?_
  refine na_iald hx hb hK hP 7 0 (f := x.2.2) rfl rfl k (by omega) (by decide) rfl dX3_step_5 ?_
  refine lv_if_le (tgt := 21) hx hb dX3_step_6 (by decide) (fun c_6 => ?_) (fun c_6 => ?_)
  · skip
    refine lv_aload_n hx hb dX3_step_21 rfl (lv_at hl 0 rfl) ?_
    refine va_get (D := D) (ci := 3) (v := .ref (a 6)) (C := RX3) (T := TX3) (N := 5) hx hb hts in_X3_step_X3 hown hK hP 3 rfl rfl 2 (by decide) (hts (.fieldLink RX3 19 "Warpyard$Trains" "held" "[Z") (by decide +kernel)) (fun _ h9 => h9) rfl dX3_step_22 ?_
    refine lv_iload_n hx hb dX3_step_25 rfl (lv_at hl 1 rfl) ?_
    refine na_zald hx hb hK hP 6 1 (f := (σ 6)) rfl rfl k (by omega) (by decide) rfl dX3_step_26 ?_
    refine lv_if_eq (tgt := 32) hx hb dX3_step_27 (by decide) (fun c_27 => ?_) (fun c_27 => ?_)
    · skip
      refine lv_aload_n hx hb dX3_step_32 rfl (lv_at hl 2 rfl) ?_
      refine lv_aload_n hx hb dX3_step_33 rfl (lv_at hl 0 rfl) ?_
      refine va_get (D := D) (ci := 3) (v := .ref (a 4)) (C := RX3) (T := TX3) (N := 5) hx hb hts in_X3_step_X3 hown hK hP 3 rfl rfl 0 (by decide) (hts (.fieldLink RX3 9 "Warpyard$Trains" "block" "[I") (by decide +kernel)) (fun _ h9 => h9) rfl dX3_step_34 ?_
      refine lv_iload_n hx hb dX3_step_37 rfl (lv_at hl 1 rfl) ?_
      refine na_iald hx hb hK hP 4 0 (f := x.1) rfl rfl k (by omega) (by decide) rfl dX3_step_38 ?_
      refine lv_aload_n hx hb dX3_step_39 rfl (lv_at hl 0 rfl) ?_
      refine va_get (D := D) (ci := 3) (v := .ref (a 5)) (C := RX3) (T := TX3) (N := 5) hx hb hts in_X3_step_X3 hown hK hP 3 rfl rfl 1 (by decide) (hts (.fieldLink RX3 15 "Warpyard$Trains" "right" "[Z") (by decide +kernel)) (fun _ h9 => h9) rfl dX3_step_40 ?_
      refine lv_iload_n hx hb dX3_step_43 rfl (lv_at hl 1 rfl) ?_
      refine na_zald hx hb hK hP 5 1 (f := x.2.1) rfl rfl k (by omega) (by decide) rfl dX3_step_44 ?_
      refine MI.callV (As := [.int (x.1 k), .int (x.2.1 k)]) (rest := []) ⟨hx, hb, hml, hown, hts⟩ (c_X2_ahead l D cI cZ a H.size (va_up (va_up (va_up σ 4 x.1) 5 x.2.1) 7 x.2.2) (x.1 k) (x.2.1 k) hB) (cwV 2 hts gX3_step_X2_ahead rfl rfl rfl (by decide +kernel) ⟨Nat.le_of_ble_eq_true rfl, Nat.le_of_ble_eq_true rfl⟩) hP hK hD hS hA (va_recv hK hP (ci := 2) (q0 := 1) rfl rfl) rfl hl.1 (by decide) (Nat.zero_le _) (Nat.zero_le _) dX3_step_45 rfl (fun r_45 u_45 H locs h_45 hP hD hS => ?_)
      obtain ⟨e_45, h_45⟩ := h_45
      have e_45 := Eq.symm e_45
      subst e_45
      have h_45 : r_45 = ahd (σ 2) (x.1 k) (x.2.1 k) := h_45
      refine lv_istore (lv' := [(5, .int r_45), (0, .ref (a 3)), (1, .int (nI k)), (2, .ref (a 1)), (3, .ref (a 13)), (4, .int mi)]) hx hb dX3_step_48 hl (by decide) rfl (fun ls hl => ?_)
      refine lv_iload hx hb dX3_step_50 (lv_at hl 0 rfl) ?_
      refine lv_bipush (v := (-2)) hx hb dX3_step_52 (by decide) ?_
      refine lv_icmp_ne (tgt := 65) hx hb dX3_step_54 (by decide) (fun c_54 => ?_) (fun c_54 => ?_)
      · skip
        refine lv_iload hx hb dX3_step_65 (lv_at hl 0 rfl) ?_
        refine lv_iconst (v := (-1)) hx hb dX3_step_67 (by decide) ?_
        refine lv_icmp_eq (tgt := 93) hx hb dX3_step_68 (by decide) (fun c_68 => ?_) (fun c_68 => ?_)
        · skip
          refine lv_iconst (v := 0) hx hb dX3_step_93 (by decide) ?_
          exact MI.zret hx hb hr hlocks hK hP hD hS dX3_step_94 rfl (by subst h_45; rw [stp_b c_6 c_27 c_54 (Or.inl c_68)]; exact ⟨rfl, rfl⟩)
        · skip
          refine lv_aload_n hx hb dX3_step_71 rfl (lv_at hl 1 rfl) ?_
          refine lv_iload hx hb dX3_step_72 (lv_at hl 0 rfl) ?_
          refine MI.callV (As := [.int r_45]) (rest := []) ⟨hx, hb, hml, hown, hts⟩ (c_X3_standingOn l D cI cZ a H.size (va_up (va_up (va_up σ 4 x.1) 5 x.2.1) 7 x.2.2) r_45 n hn hn4) (cwV 1 hts gX3_step_X3_standingOn rfl rfl rfl (by decide +kernel) ⟨Nat.le_of_ble_eq_true rfl, Nat.le_of_ble_eq_true rfl⟩) hP hK hD hS hA (va_recv hK hP (ci := 3) (q0 := 3) rfl rfl) rfl hl.1 (by decide) (Nat.zero_le _) (Nat.zero_le _) dX3_step_74 rfl (fun r_74 u_74 H locs h_74 hP hD hS => ?_)
          obtain ⟨e_74, h_74⟩ := h_74
          have e_74 := Eq.symm e_74
          subst e_74
          have h_74 : r_74 = so x.1 r_45 n := h_74
          refine lv_iconst (v := (-1)) hx hb dX3_step_77 (by decide) ?_
          refine lv_icmp_ne (tgt := 93) hx hb dX3_step_78 (by decide) (fun c_78 => ?_) (fun c_78 => ?_)
          · skip
            refine lv_iconst (v := 0) hx hb dX3_step_93 (by decide) ?_
            exact MI.zret hx hb hr hlocks hK hP hD hS dX3_step_94 rfl (by subst h_45; subst h_74; rw [stp_b c_6 c_27 c_54 (Or.inr (Or.inl c_78))]; exact ⟨rfl, rfl⟩)
          · skip
            refine lv_aload_n hx hb dX3_step_81 rfl (lv_at hl 4 rfl) ?_
            refine lv_iload_n hx hb dX3_step_82 rfl (lv_at hl 2 rfl) ?_
            refine lv_iload hx hb dX3_step_83 (lv_at hl 0 rfl) ?_
            refine lv_iload hx hb dX3_step_85 (lv_at hl 5 rfl) ?_
            refine MI.callV (As := [.int (nI k), .int r_45, .int mi]) (rest := []) ⟨hx, hb, hml, hown, hts⟩ (c_X0_isForAnother l D cI cZ a H.size (va_up (va_up (va_up σ 4 x.1) 5 x.2.1) 7 x.2.2) (nI k) r_45 mi nb hnb hnb30) (cwV 3 hts gX3_step_X0_isForAnother rfl rfl rfl (by decide +kernel) ⟨Nat.le_of_ble_eq_true rfl, Nat.le_of_ble_eq_true rfl⟩) hP hK hD hS hA (va_recv hK hP (ci := 0) (q0 := 13) rfl rfl) rfl hl.1 (by decide) (Nat.zero_le _) (Nat.zero_le _) dX3_step_87 rfl (fun r_87 u_87 H locs h_87 hP hD hS => ?_)
            rcases h_87 with ⟨e_87, ⟨rfl, h_87⟩ | ⟨rfl, h_87⟩⟩
            · skip
              have e_87 := Eq.symm e_87
              subst e_87
              have h_87 : mts (σ 14) (σ 15) (σ 16) (σ 17) nb (nI k) r_45 mi mi := h_87
              refine lv_if_eq (tgt := 95) hx hb dX3_step_90 (by decide) (fun c9 => absurd c9 (by decide)) (fun _ => ?_)
              refine lv_iconst (v := 0) hx hb dX3_step_93 (by decide) ?_
              exact MI.zret hx hb hr hlocks hK hP hD hS dX3_step_94 rfl (by subst h_45; subst h_74; rw [stp_b c_6 c_27 c_54 (Or.inr (Or.inr h_87))]; exact ⟨rfl, rfl⟩)
            · skip
              have e_87 := Eq.symm e_87
              subst e_87
              have h_87 : ¬ mts (σ 14) (σ 15) (σ 16) (σ 17) nb (nI k) r_45 mi mi := h_87
              refine lv_if_eq (tgt := 95) hx hb dX3_step_90 (by decide) (fun _ => ?_) (fun c9 => absurd (by decide) c9)
              refine lv_aload_n hx hb dX3_step_95 rfl (lv_at hl 1 rfl) ?_
              refine va_get (D := D) (ci := 3) (v := .ref (a 4)) (C := RX3) (T := TX3) (N := 5) hx hb hts in_X3_step_X3 hown hK hP 3 rfl rfl 0 (by decide) (hts (.fieldLink RX3 9 "Warpyard$Trains" "block" "[I") (by decide +kernel)) (fun _ h9 => h9) rfl dX3_step_96 ?_
              refine lv_iload_n hx hb dX3_step_99 rfl (lv_at hl 2 rfl) ?_
              refine lv_iload hx hb dX3_step_100 (lv_at hl 0 rfl) ?_
              refine na_iast hx hb hK hP hD hS 4 0 (f := x.1) (x := r_45) rfl rfl k (by omega) (by decide) rfl dX3_step_102 (fun H locs hP hD hS => ?_)
              have hP : va_P D vwCl (wX cI cZ a (va_up (va_up (va_up σ 4 (upd x.1 k r_45)) 5 x.2.1) 7 x.2.2)) H := hP
              have hD : va_D A (wX cI cZ a (va_up (va_up (va_up σ 4 (upd x.1 k r_45)) 5 x.2.1) 7 x.2.2)) := hD
              refine lv_iconst (v := 1) hx hb dX3_step_103 (by decide) ?_
              exact MI.zret hx hb hr hlocks hK hP hD hS dX3_step_104 rfl (by subst h_45; subst h_74; rw [stp_m c_6 c_27 c_54 (by rintro (e | e | e) <;> first | exact c_68 e | exact e c_78 | exact h_87 e)]; exact ⟨rfl, rfl⟩)
      · skip
        refine lv_aload_n hx hb dX3_step_57 rfl (lv_at hl 1 rfl) ?_
        refine lv_iload_n hx hb dX3_step_58 rfl (lv_at hl 2 rfl) ?_
        refine MI.callV (As := [.int (nI k)]) (rest := []) ⟨hx, hb, hml, hown, hts⟩ (c_X3_turnRound l D cI cZ a H.size (va_up (va_up (va_up σ 4 x.1) 5 x.2.1) 7 x.2.2) k (by omega)) (cwV 1 hts gX3_step_X3_turnRound rfl rfl rfl (by decide +kernel) ⟨Nat.le_of_ble_eq_true rfl, Nat.le_of_ble_eq_true rfl⟩) hP hK hD hS hA (va_recv hK hP (ci := 3) (q0 := 3) rfl rfl) rfl hl.1 (by decide) (Nat.zero_le _) (Nat.zero_le _) dX3_step_59 rfl (fun r_59 u_59 H locs h_59 hP hD hS => ?_)
        obtain ⟨e_59, h_59⟩ := h_59
        have e_59 := Eq.symm e_59
        subst e_59
        have hP : va_P D vwCl (wX cI cZ a (va_up (va_up (va_up σ 4 x.1) 5 (upd x.2.1 k (fl (x.2.1 k)))) 7 x.2.2)) H := hP
        have hD : va_D A (wX cI cZ a (va_up (va_up (va_up σ 4 x.1) 5 (upd x.2.1 k (fl (x.2.1 k)))) 7 x.2.2)) := hD
        have h_59 : r_59 = fl (x.2.1 k) := h_59
        refine lv_pop hx hb dX3_step_62 rfl ?_
        refine lv_iconst (v := 0) hx hb dX3_step_63 (by decide) ?_
        exact MI.zret hx hb hr hlocks hK hP hD hS dX3_step_64 rfl (by subst h_45; rw [stp_f c_6 c_27 c_54]; exact ⟨rfl, rfl⟩)
    · skip
      refine lv_iconst (v := 0) hx hb dX3_step_30 (by decide) ?_
      exact MI.zret hx hb hr hlocks hK hP hD hS dX3_step_31 rfl (by rw [stp_h c_6 c_27]; exact ⟨rfl, rfl⟩)
  · skip
    refine lv_aload_n hx hb dX3_step_9 rfl (lv_at hl 0 rfl) ?_
    refine va_get (D := D) (ci := 3) (v := .ref (a 7)) (C := RX3) (T := TX3) (N := 5) hx hb hts in_X3_step_X3 hown hK hP 3 rfl rfl 3 (by decide) (hts (.fieldLink RX3 22 "Warpyard$Trains" "delay" "[I") (by decide +kernel)) (fun _ h9 => h9) rfl dX3_step_10 ?_
    refine lv_iload_n hx hb dX3_step_13 rfl (lv_at hl 1 rfl) ?_
    refine lv_dup2_11 hx hb dX3_step_14 rfl rfl ?_
    refine na_iald hx hb hK hP 7 0 (f := x.2.2) rfl rfl k (by omega) (by decide) rfl dX3_step_15 ?_
    refine lv_iconst (v := 1) hx hb dX3_step_16 (by decide) ?_
    refine lv_isub hx hb dX3_step_17 ?_
    refine na_iast hx hb hK hP hD hS 7 0 (f := x.2.2) (x := (x.2.2 k) - 1) rfl rfl k (by omega) (by decide) rfl dX3_step_18 (fun H locs hP hD hS => ?_)
    have hP : va_P D vwCl (wX cI cZ a (va_up (va_up (va_up σ 4 x.1) 5 x.2.1) 7 (upd x.2.2 k ((x.2.2 k) - 1)))) H := hP
    have hD : va_D A (wX cI cZ a (va_up (va_up (va_up σ 4 x.1) 5 x.2.1) 7 (upd x.2.2 k ((x.2.2 k) - 1)))) := hD
    refine lv_iconst (v := 0) hx hb dX3_step_19 (by decide) ?_
    exact MI.zret hx hb hr hlocks hK hP hD hS dX3_step_20 rfl (by rw [stp_d c_6]; exact ⟨rfl, rfl⟩)
set_option maxRecDepth 20000 in
theorem in_X3_runMinute_X3 : ∀ w ∈ wsX30, w ∈ wsX3_runMinute := by decide +kernel
set_option maxHeartbeats 4000000 in
set_option maxRecDepth 100000 in
/-- Trains.runMinute: all trains, one minute -/
theorem c_X3_runMinute (l : Launch) (D : va_G) (cI cZ : ClassId) (a : Nat → Nat) (sz : Nat) (σ : St) (n nb : Nat) (mi : Int32) (x : T3) (hn : σ 3 0 = nI n) (hn4 : n ≤ 4) (hnb : σ 13 0 = nI nb) (hnb30 : nb ≤ 30) (hB : ∀ i, i < n → blk (x.1 i)) : MI l yX3_runMinute wsX3_runMinute ({ frames := 3, cells := 0, slots := 0, locals := 71 }) D (ty2 cI cZ) (wX cI cZ a) [.ref (a 3), .ref (a 1), .ref (a 13), .int mi] (va_up (va_up (va_up σ 4 x.1) 5 x.2.1) 7 x.2.2) sz (fun r u => u = (va_up (va_up (va_up σ 4 ((mvs (σ 2) (σ 14) (σ 15) (σ 16) (σ 17) (σ 6) n nb mi x n).1.1)) 5 ((mvs (σ 2) (σ 14) (σ 15) (σ 16) (σ 17) (σ 6) n nb mi x n).1.2.1)) 7 ((mvs (σ 2) (σ 14) (σ 15) (σ 16) (σ 17) (σ 6) n nb mi x n).1.2.2)) ∧ r = (mvs (σ 2) (σ 14) (σ 15) (σ 16) (σ 17) (σ 6) n nb mi x n).2) := by
  refine MI.of (cc := cX3_runMinute) (maxL := 6) (by decide) rfl (Nat.le_of_ble_eq_true rfl) ?_
  intro p e s m args below meth c A H locs ls hx hb hr hml hown hts hlocks hA hS hP hK hD hl
  have hl : lv_has ls 6 [(0, .ref (a 3)), (1, .ref (a 1)), (2, .ref (a 13)), (3, .int mi)] := hl
  refine lv_iconst (v := 0) hx hb dX3_runMinute_0 (by decide) ?_
  refine lv_istore (lv' := [(4, .int 0), (0, .ref (a 3)), (1, .ref (a 1)), (2, .ref (a 13)), (3, .int mi)]) hx hb dX3_runMinute_1 hl (by decide) rfl (fun ls hl => ?_)
  refine lv_iconst (v := 0) hx hb dX3_runMinute_3 (by decide) ?_
  refine lv_istore (lv' := [(5, .int 0), (4, .int 0), (0, .ref (a 3)), (1, .ref (a 1)), (2, .ref (a 13)), (3, .int mi)]) hx hb dX3_runMinute_4 hl (by decide) rfl (fun ls hl => ?_)
  have loop_6 : ∀ (f : Nat) (k : Nat) (mv : Int32) (H : Heap) (locs : List Loc) (ls : Array Slot), n < k + f → k ≤ n → mv = (mvs (σ 2) (σ 14) (σ 15) (σ 16) (σ 17) (σ 6) n nb mi x k).2 → va_P D vwCl (wX cI cZ a (va_up (va_up (va_up σ 4 ((mvs (σ 2) (σ 14) (σ 15) (σ 16) (σ 17) (σ 6) n nb mi x k).1.1)) 5 ((mvs (σ 2) (σ 14) (σ 15) (σ 16) (σ 17) (σ 6) n nb mi x k).1.2.1)) 7 ((mvs (σ 2) (σ 14) (σ 15) (σ 16) (σ 17) (σ 6) n nb mi x k).1.2.2))) H → va_D A (wX cI cZ a (va_up (va_up (va_up σ 4 ((mvs (σ 2) (σ 14) (σ 15) (σ 16) (σ 17) (σ 6) n nb mi x k).1.1)) 5 ((mvs (σ 2) (σ 14) (σ 15) (σ 16) (σ 17) (σ 6) n nb mi x k).1.2.1)) 7 ((mvs (σ 2) (σ 14) (σ 15) (σ 16) (σ 17) (σ 6) n nb mi x k).1.2.2))) → va_S A s.heap H locs → lv_has ls 6 [(0, .ref (a 3)), (1, .ref (a 1)), (2, .ref (a 13)), (3, .int mi), (4, .int mv), (5, .int (nI k))] → W p l e { frames := 3, cells := 0, slots := 0, locals := 71 } s m args below meth c H locs 0 0 (MQ below (va_Qi (fun r u => u = (va_up (va_up (va_up σ 4 ((mvs (σ 2) (σ 14) (σ 15) (σ 16) (σ 17) (σ 6) n nb mi x n).1.1)) 5 ((mvs (σ 2) (σ 14) (σ 15) (σ 16) (σ 17) (σ 6) n nb mi x n).1.2.1)) 7 ((mvs (σ 2) (σ 14) (σ 15) (σ 16) (σ 17) (σ 6) n nb mi x n).1.2.2)) ∧ r = (mvs (σ 2) (σ 14) (σ 15) (σ 16) (σ 17) (σ 6) n nb mi x n).2) (PO D (ty2 cI cZ) (wX cI cZ a) A) A) args s 0 0 A) (F0 m 6 ls []) := by
    intro f
    induction f with
    | zero => intro k mv H locs ls hf hk hmv; exact absurd hf (by omega)
    | succ f ih =>
      intro k mv H locs ls hf hk hmv hP hD hS hl
      refine lv_iload hx hb dX3_runMinute_6 (lv_at hl 5 rfl) ?_
      refine lv_aload_n hx hb dX3_runMinute_8 rfl (lv_at hl 0 rfl) ?_
      refine va_get (D := D) (ci := 3) (v := .int (σ 3 0)) (C := RX3) (T := TX3) (N := 5) hx hb hts in_X3_runMinute_X3 hown hK hP 3 rfl rfl 4 (by decide) (hts (.fieldLink RX3 25 "Warpyard$Trains" "count" "I") (by decide +kernel)) (fun _ h9 => h9) rfl dX3_runMinute_9 ?_
      refine lv_topi (fun v_12 e_12 => ?_)
      obtain rfl : v_12 = nI n := by rw [e_12]; exact hn
      refine lv_icmp_ge (tgt := 36) hx hb dX3_runMinute_12 (by decide) (fun c_12 => ?_) (fun c_12 => ?_)
      · skip
        rw [nI_leI (by omega) (by omega)] at c_12
        refine lv_iload hx hb dX3_runMinute_36 (lv_at hl 4 rfl) ?_
        exact MI.ret hx hb hr hlocks hK hP hD hS dX3_runMinute_38 (by have e : n = k := (by omega); subst e; exact ⟨rfl, hmv⟩)
      · skip
        rw [nI_leI (by omega) (by omega)] at c_12
        refine lv_aload_n hx hb dX3_runMinute_15 rfl (lv_at hl 0 rfl) ?_
        refine lv_iload hx hb dX3_runMinute_16 (lv_at hl 5 rfl) ?_
        refine lv_aload_n hx hb dX3_runMinute_18 rfl (lv_at hl 1 rfl) ?_
        refine lv_aload_n hx hb dX3_runMinute_19 rfl (lv_at hl 2 rfl) ?_
        refine lv_iload_n hx hb dX3_runMinute_20 rfl (lv_at hl 3 rfl) ?_
        refine MI.callV (As := [.int (nI k), .ref (a 1), .ref (a 13), .int mi]) (rest := []) ⟨hx, hb, hml, hown, hts⟩ (c_X3_step l D cI cZ a H.size σ n nb k mi (mvs (σ 2) (σ 14) (σ 15) (σ 16) (σ 17) (σ 6) n nb mi x k).1 hn hn4 (by omega) hnb hnb30 (mvs_blk hB k k (by omega) (by omega))) (cwV 4 hts gX3_runMinute_X3_step rfl rfl rfl (by decide +kernel) ⟨Nat.le_of_ble_eq_true rfl, Nat.le_of_ble_eq_true rfl⟩) hP hK hD hS hA (va_recv hK hP (ci := 3) (q0 := 3) rfl rfl) rfl hl.1 (by decide) (Nat.zero_le _) (Nat.zero_le _) dX3_runMinute_21 rfl (fun r_21 u_21 H locs h_21 hP hD hS => ?_)
        obtain ⟨e_21, h_21⟩ := h_21
        have e_21 := Eq.symm e_21
        subst e_21
        have hP : va_P D vwCl (wX cI cZ a (va_up (va_up (va_up σ 4 ((stp (σ 2) (σ 14) (σ 15) (σ 16) (σ 17) (σ 6) n nb mi k (mvs (σ 2) (σ 14) (σ 15) (σ 16) (σ 17) (σ 6) n nb mi x k).1).1.1)) 5 ((stp (σ 2) (σ 14) (σ 15) (σ 16) (σ 17) (σ 6) n nb mi k (mvs (σ 2) (σ 14) (σ 15) (σ 16) (σ 17) (σ 6) n nb mi x k).1).1.2.1)) 7 ((stp (σ 2) (σ 14) (σ 15) (σ 16) (σ 17) (σ 6) n nb mi k (mvs (σ 2) (σ 14) (σ 15) (σ 16) (σ 17) (σ 6) n nb mi x k).1).1.2.2))) H := hP
        have hD : va_D A (wX cI cZ a (va_up (va_up (va_up σ 4 ((stp (σ 2) (σ 14) (σ 15) (σ 16) (σ 17) (σ 6) n nb mi k (mvs (σ 2) (σ 14) (σ 15) (σ 16) (σ 17) (σ 6) n nb mi x k).1).1.1)) 5 ((stp (σ 2) (σ 14) (σ 15) (σ 16) (σ 17) (σ 6) n nb mi k (mvs (σ 2) (σ 14) (σ 15) (σ 16) (σ 17) (σ 6) n nb mi x k).1).1.2.1)) 7 ((stp (σ 2) (σ 14) (σ 15) (σ 16) (σ 17) (σ 6) n nb mi k (mvs (σ 2) (σ 14) (σ 15) (σ 16) (σ 17) (σ 6) n nb mi x k).1).1.2.2))) := hD
        have h_21 : r_21 = (stp (σ 2) (σ 14) (σ 15) (σ 16) (σ 17) (σ 6) n nb mi k (mvs (σ 2) (σ 14) (σ 15) (σ 16) (σ 17) (σ 6) n nb mi x k).1).2 := h_21
        refine lv_if_eq (tgt := 30) hx hb dX3_runMinute_24 (by decide) (fun c_24 => ?_) (fun c_24 => ?_)
        · skip
          refine lv_iinc (v := nI (k + 1)) (lv' := [(5, .int (nI (k + 1))), (0, .ref (a 3)), (1, .ref (a 1)), (2, .ref (a 13)), (3, .int mi), (4, .int mv)]) hx hb dX3_runMinute_30 hl (k := 5) rfl (by exact nI_1 k) (by decide) rfl (fun ls hl => ?_)
          refine lv_goto (tgt := 6) hx hb dX3_runMinute_33 (by decide) ?_
          exact ih (k + 1) mv _ _ ls (by omega) (by omega) (by rw [mvs_2, ← hmv, ← h_21, c_24]; exact (Int32.add_zero _).symm) hP hD hS (lv_sub hl [1, 2, 3, 4, 5, 0] rfl)
        · skip
          refine lv_iinc (v := mv + 1) (lv' := [(4, .int (mv + 1)), (0, .ref (a 3)), (1, .ref (a 1)), (2, .ref (a 13)), (3, .int mi), (5, .int (nI k))]) hx hb dX3_runMinute_27 hl (k := 4) rfl rfl (by decide) rfl (fun ls hl => ?_)
          refine lv_iinc (v := nI (k + 1)) (lv' := [(5, .int (nI (k + 1))), (4, .int (mv + 1)), (0, .ref (a 3)), (1, .ref (a 1)), (2, .ref (a 13)), (3, .int mi)]) hx hb dX3_runMinute_30 hl (k := 5) rfl (by exact nI_1 k) (by decide) rfl (fun ls hl => ?_)
          refine lv_goto (tgt := 6) hx hb dX3_runMinute_33 (by decide) ?_
          exact ih (k + 1) (mv + 1) _ _ ls (by omega) (by omega) (by rw [mvs_2, ← hmv, ← h_21, stp_one h_21 c_24]) hP hD hS (lv_sub hl [2, 3, 4, 5, 1, 0] rfl)
  exact loop_6 (n + 1) 0 0 _ _ ls (by omega) (by omega) (by rfl) hP hD hS (lv_sub hl [2, 3, 4, 5, 1, 0] rfl)
set_option maxHeartbeats 4000000 in
set_option maxRecDepth 100000 in
/-- Trains.standingOn: the train on a block -/
theorem c_X3_standingOn_t (l : Launch) (D : va_G) (cI cZ : ClassId) (a : Nat → Nat) (sz : Nat) (σ : St) (w : Int32) (n : Nat) (hn : σ 8 0 = nI n) (hn4 : n ≤ 4) : MI l yX3_standingOn wsX3_standingOn ({ frames := 0, cells := 0, slots := 0, locals := 0 }) D (ty2 cI cZ) (wX cI cZ a) [.ref (a 8), .int w] σ sz (fun r u => u = σ ∧ r = so (σ 9) w n) := by
  refine MI.of (cc := cX3_standingOn) (maxL := 3) (by decide) rfl (Nat.le_of_ble_eq_true rfl) ?_
  intro p e s m args below meth c A H locs ls hx hb hr hml hown hts hlocks hA hS hP hK hD hl
  have hl : lv_has ls 3 [(0, .ref (a 8)), (1, .int w)] := hl
  refine lv_iconst (v := 0) hx hb dX3_standingOn_0 (by decide) ?_
  refine lv_istore_n (lv' := [(2, .int 0), (0, .ref (a 8)), (1, .int w)]) hx hb dX3_standingOn_1 rfl hl (by decide) rfl (fun ls hl => ?_)
  have loop_2 : ∀ (f : Nat) (k : Nat) (H : Heap) (locs : List Loc) (ls : Array Slot), n < k + f → k ≤ n → (∀ i, i < k → ¬ σ 9 i = w) → va_P D vwCl (wX cI cZ a σ) H → va_D A (wX cI cZ a σ) → va_S A s.heap H locs → lv_has ls 3 [(0, .ref (a 8)), (1, .int w), (2, .int (nI k))] → W p l e { frames := 0, cells := 0, slots := 0, locals := 0 } s m args below meth c H locs 0 0 (MQ below (va_Qi (fun r u => u = σ ∧ r = so (σ 9) w n) (PO D (ty2 cI cZ) (wX cI cZ a) A) A) args s 0 0 A) (F0 m 2 ls []) := by
    intro f
    induction f with
    | zero => intro k H locs ls hf hk hno; exact absurd hf (by omega)
    | succ f ih =>
      intro k H locs ls hf hk hno hP hD hS hl
      refine lv_iload_n hx hb dX3_standingOn_2 rfl (lv_at hl 2 rfl) ?_
      refine lv_aload_n hx hb dX3_standingOn_3 rfl (lv_at hl 0 rfl) ?_
      refine va_get (D := D) (ci := 3) (v := .int (σ 8 0)) (C := RX3) (T := TX3) (N := 5) hx hb hts in_X3_standingOn_X3 hown hK hP 8 rfl rfl 4 (by decide) (hts (.fieldLink RX3 25 "Warpyard$Trains" "count" "I") (by decide +kernel)) (fun _ h9 => h9) rfl dX3_standingOn_4 ?_
      refine lv_topi (fun v_7 e_7 => ?_)
      obtain rfl : v_7 = nI n := by rw [e_7]; exact hn
      refine lv_icmp_ge (tgt := 28) hx hb dX3_standingOn_7 (by decide) (fun c_7 => ?_) (fun c_7 => ?_)
      · skip
        rw [nI_leI (by omega) (by omega)] at c_7
        refine lv_iconst (v := (-1)) hx hb dX3_standingOn_28 (by decide) ?_
        exact MI.ret hx hb hr hlocks hK hP hD hS dX3_standingOn_29 (by exact ⟨rfl, (so_miss (fun i hi => hno i (by omega))).symm⟩)
      · skip
        rw [nI_leI (by omega) (by omega)] at c_7
        refine lv_aload_n hx hb dX3_standingOn_10 rfl (lv_at hl 0 rfl) ?_
        refine va_get (D := D) (ci := 3) (v := .ref (a 9)) (C := RX3) (T := TX3) (N := 5) hx hb hts in_X3_standingOn_X3 hown hK hP 8 rfl rfl 0 (by decide) (hts (.fieldLink RX3 9 "Warpyard$Trains" "block" "[I") (by decide +kernel)) (fun _ h9 => h9) rfl dX3_standingOn_11 ?_
        refine lv_iload_n hx hb dX3_standingOn_14 rfl (lv_at hl 2 rfl) ?_
        refine na_iald hx hb hK hP 9 0 (f := (σ 9)) rfl rfl k (by omega) (by decide) rfl dX3_standingOn_15 ?_
        refine lv_iload_n hx hb dX3_standingOn_16 rfl (lv_at hl 1 rfl) ?_
        refine lv_icmp_ne (tgt := 22) hx hb dX3_standingOn_17 (by decide) (fun c_17 => ?_) (fun c_17 => ?_)
        · skip
          refine lv_iinc (v := nI (k + 1)) (lv' := [(2, .int (nI (k + 1))), (0, .ref (a 8)), (1, .int w)]) hx hb dX3_standingOn_22 hl (k := 2) rfl (by exact nI_1 k) (by decide) rfl (fun ls hl => ?_)
          refine lv_goto (tgt := 2) hx hb dX3_standingOn_25 (by decide) ?_
          exact ih (k + 1) _ _ ls (by omega) (by omega) (by exact lt_s hno c_17) hP hD hS (lv_sub hl [1, 2, 0] rfl)
        · skip
          refine lv_iload_n hx hb dX3_standingOn_20 rfl (lv_at hl 2 rfl) ?_
          exact MI.ret hx hb hr hlocks hK hP hD hS dX3_standingOn_21 (by exact ⟨rfl, (so_hit c_17 hno (by omega) (by omega)).symm⟩)
  exact loop_2 (n + 1) 0 _ _ ls (by omega) (by omega) (by intro i hi; omega) hP hD hS (lv_sub hl [1, 2, 0] rfl)
set_option maxHeartbeats 4000000 in
set_option maxRecDepth 100000 in
/-- Trains.turnRound -/
theorem c_X3_turnRound_t (l : Launch) (D : va_G) (cI cZ : ClassId) (a : Nat → Nat) (sz : Nat) (σ : St) (k : Nat) (hk : k < 4) : MI l yX3_turnRound wsX3_turnRound ({ frames := 0, cells := 0, slots := 0, locals := 0 }) D (ty2 cI cZ) (wX cI cZ a) [.ref (a 8), .int (nI k)] σ sz (fun r u => u = (va_up σ 10 (upd (σ 10) k (fl (σ 10 k)))) ∧ r = fl (σ 10 k)) := by
  refine MI.of (cc := cX3_turnRound) (maxL := 2) (by decide) rfl (Nat.le_of_ble_eq_true rfl) ?_
  intro p e s m args below meth c A H locs ls hx hb hr hml hown hts hlocks hA hS hP hK hD hl
  have hl : lv_has ls 2 [(0, .ref (a 8)), (1, .int (nI k))] := hl
  refine lv_aload_n hx hb dX3_turnRound_0 rfl (lv_at hl 0 rfl) ?_
  refine va_get (D := D) (ci := 3) (v := .ref (a 10)) (C := RX3) (T := TX3) (N := 5) hx hb hts in_X3_turnRound_X3 hown hK hP 8 rfl rfl 1 (by decide) (hts (.fieldLink RX3 15 "Warpyard$Trains" "right" "[Z") (by decide +kernel)) (fun _ h9 => h9) rfl dX3_turnRound_1 ?_
  refine lv_iload_n hx hb dX3_turnRound_4 rfl (lv_at hl 1 rfl) ?_
  refine lv_aload_n hx hb dX3_turnRound_5 rfl (lv_at hl 0 rfl) ?_
  refine va_get (D := D) (ci := 3) (v := .ref (a 10)) (C := RX3) (T := TX3) (N := 5) hx hb hts in_X3_turnRound_X3 hown hK hP 8 rfl rfl 1 (by decide) (hts (.fieldLink RX3 15 "Warpyard$Trains" "right" "[Z") (by decide +kernel)) (fun _ h9 => h9) rfl dX3_turnRound_6 ?_
  refine lv_iload_n hx hb dX3_turnRound_9 rfl (lv_at hl 1 rfl) ?_
  refine na_zald hx hb hK hP 10 1 (f := (σ 10)) rfl rfl k (by omega) (by decide) rfl dX3_turnRound_10 ?_
  refine lv_if_ne (tgt := 18) hx hb dX3_turnRound_11 (by decide) (fun c_11 => ?_) (fun c_11 => ?_)
  · skip
    refine lv_iconst (v := 0) hx hb dX3_turnRound_18 (by decide) ?_
    refine na_zast hx hb hK hP hD hS 10 1 (f := (σ 10)) (x := 0) rfl rfl k (by omega) (by decide) rfl (Or.inl rfl) dX3_turnRound_19 (fun H locs hP hD hS => ?_)
    have hP : va_P D vwCl (wX cI cZ a (va_up σ 10 (upd (σ 10) k 0))) H := hP
    have hD : va_D A (wX cI cZ a (va_up σ 10 (upd (σ 10) k 0))) := hD
    refine lv_aload_n hx hb dX3_turnRound_20 rfl (lv_at hl 0 rfl) ?_
    refine va_get (D := D) (ci := 3) (v := .ref (a 10)) (C := RX3) (T := TX3) (N := 5) hx hb hts in_X3_turnRound_X3 hown hK hP 8 rfl rfl 1 (by decide) (hts (.fieldLink RX3 15 "Warpyard$Trains" "right" "[Z") (by decide +kernel)) (fun _ h9 => h9) rfl dX3_turnRound_21 ?_
    refine lv_iload_n hx hb dX3_turnRound_24 rfl (lv_at hl 1 rfl) ?_
    refine na_zald hx hb hK hP 10 1 (f := (upd (σ 10) k 0)) rfl rfl k (by omega) (by decide) rfl dX3_turnRound_25 ?_
    exact MI.zret hx hb hr hlocks hK hP hD hS dX3_turnRound_26 (nar_b (by rw [pk_us]; decide)) (by rw [fl_1 c_11]; exact ⟨rfl, pk_us⟩)
  · skip
    refine lv_iconst (v := 1) hx hb dX3_turnRound_14 (by decide) ?_
    refine lv_goto (tgt := 19) hx hb dX3_turnRound_15 (by decide) ?_
    refine na_zast hx hb hK hP hD hS 10 1 (f := (σ 10)) (x := 1) rfl rfl k (by omega) (by decide) rfl (Or.inr rfl) dX3_turnRound_19 (fun H locs hP hD hS => ?_)
    have hP : va_P D vwCl (wX cI cZ a (va_up σ 10 (upd (σ 10) k 1))) H := hP
    have hD : va_D A (wX cI cZ a (va_up σ 10 (upd (σ 10) k 1))) := hD
    refine lv_aload_n hx hb dX3_turnRound_20 rfl (lv_at hl 0 rfl) ?_
    refine va_get (D := D) (ci := 3) (v := .ref (a 10)) (C := RX3) (T := TX3) (N := 5) hx hb hts in_X3_turnRound_X3 hown hK hP 8 rfl rfl 1 (by decide) (hts (.fieldLink RX3 15 "Warpyard$Trains" "right" "[Z") (by decide +kernel)) (fun _ h9 => h9) rfl dX3_turnRound_21 ?_
    refine lv_iload_n hx hb dX3_turnRound_24 rfl (lv_at hl 1 rfl) ?_
    refine na_zald hx hb hK hP 10 1 (f := (upd (σ 10) k 1)) rfl rfl k (by omega) (by decide) rfl dX3_turnRound_25 ?_
    exact MI.zret hx hb hr hlocks hK hP hD hS dX3_turnRound_26 (nar_b (by rw [pk_us]; decide)) (by rw [fl_0 c_11]; exact ⟨rfl, pk_us⟩)
set_option maxHeartbeats 4000000 in
set_option maxRecDepth 100000 in
/-- Trains.step: one train in one minute -/
theorem c_X3_step_t (l : Launch) (D : va_G) (cI cZ : ClassId) (a : Nat → Nat) (sz : Nat) (σ : St) (n nb k : Nat) (mi : Int32) (x : T3) (hn : σ 8 0 = nI n) (hn4 : n ≤ 4) (hk : k < n) (hnb : σ 13 0 = nI nb) (hnb30 : nb ≤ 30) (hB : blk (x.1 k)) : MI l yX3_step wsX3_step ({ frames := 2, cells := 0, slots := 0, locals := 46 }) D (ty2 cI cZ) (wX cI cZ a) [.ref (a 8), .int (nI k), .ref (a 1), .ref (a 13), .int mi] (va_up (va_up (va_up σ 9 x.1) 10 x.2.1) 12 x.2.2) sz (fun r u => u = (va_up (va_up (va_up σ 9 ((stp (σ 2) (σ 14) (σ 15) (σ 16) (σ 17) (σ 11) n nb mi k x).1.1)) 10 ((stp (σ 2) (σ 14) (σ 15) (σ 16) (σ 17) (σ 11) n nb mi k x).1.2.1)) 12 ((stp (σ 2) (σ 14) (σ 15) (σ 16) (σ 17) (σ 11) n nb mi k x).1.2.2)) ∧ r = (stp (σ 2) (σ 14) (σ 15) (σ 16) (σ 17) (σ 11) n nb mi k x).2) := by
  refine MI.of (cc := cX3_step) (maxL := 6) (by decide) rfl (Nat.le_of_ble_eq_true rfl) ?_
  intro p e s m args below meth c A H locs ls hx hb hr hml hown hts hlocks hA hS hP hK hD hl
  have hl : lv_has ls 6 [(0, .ref (a 8)), (1, .int (nI k)), (2, .ref (a 1)), (3, .ref (a 13)), (4, .int mi)] := hl
  refine lv_aload_n hx hb dX3_step_0 rfl (lv_at hl 0 rfl) ?_
  refine va_get (D := D) (ci := 3) (v := .ref (a 12)) (C := RX3) (T := TX3) (N := 5) hx hb hts in_X3_step_X3 hown hK hP 8 rfl rfl 3 (by decide) (hts (.fieldLink RX3 22 "Warpyard$Trains" "delay" "[I") (by decide +kernel)) (fun _ h9 => h9) rfl dX3_step_1 ?_
  refine lv_iload_n hx hb dX3_step_4 rfl (lv_at hl 1 rfl) ?_
  refine na_iald hx hb hK hP 12 0 (f := x.2.2) rfl rfl k (by omega) (by decide) rfl dX3_step_5 ?_
  refine lv_if_le (tgt := 21) hx hb dX3_step_6 (by decide) (fun c_6 => ?_) (fun c_6 => ?_)
  · skip
    refine lv_aload_n hx hb dX3_step_21 rfl (lv_at hl 0 rfl) ?_
    refine va_get (D := D) (ci := 3) (v := .ref (a 11)) (C := RX3) (T := TX3) (N := 5) hx hb hts in_X3_step_X3 hown hK hP 8 rfl rfl 2 (by decide) (hts (.fieldLink RX3 19 "Warpyard$Trains" "held" "[Z") (by decide +kernel)) (fun _ h9 => h9) rfl dX3_step_22 ?_
    refine lv_iload_n hx hb dX3_step_25 rfl (lv_at hl 1 rfl) ?_
    refine na_zald hx hb hK hP 11 1 (f := (σ 11)) rfl rfl k (by omega) (by decide) rfl dX3_step_26 ?_
    refine lv_if_eq (tgt := 32) hx hb dX3_step_27 (by decide) (fun c_27 => ?_) (fun c_27 => ?_)
    · skip
      refine lv_aload_n hx hb dX3_step_32 rfl (lv_at hl 2 rfl) ?_
      refine lv_aload_n hx hb dX3_step_33 rfl (lv_at hl 0 rfl) ?_
      refine va_get (D := D) (ci := 3) (v := .ref (a 9)) (C := RX3) (T := TX3) (N := 5) hx hb hts in_X3_step_X3 hown hK hP 8 rfl rfl 0 (by decide) (hts (.fieldLink RX3 9 "Warpyard$Trains" "block" "[I") (by decide +kernel)) (fun _ h9 => h9) rfl dX3_step_34 ?_
      refine lv_iload_n hx hb dX3_step_37 rfl (lv_at hl 1 rfl) ?_
      refine na_iald hx hb hK hP 9 0 (f := x.1) rfl rfl k (by omega) (by decide) rfl dX3_step_38 ?_
      refine lv_aload_n hx hb dX3_step_39 rfl (lv_at hl 0 rfl) ?_
      refine va_get (D := D) (ci := 3) (v := .ref (a 10)) (C := RX3) (T := TX3) (N := 5) hx hb hts in_X3_step_X3 hown hK hP 8 rfl rfl 1 (by decide) (hts (.fieldLink RX3 15 "Warpyard$Trains" "right" "[Z") (by decide +kernel)) (fun _ h9 => h9) rfl dX3_step_40 ?_
      refine lv_iload_n hx hb dX3_step_43 rfl (lv_at hl 1 rfl) ?_
      refine na_zald hx hb hK hP 10 1 (f := x.2.1) rfl rfl k (by omega) (by decide) rfl dX3_step_44 ?_
      refine MI.callV (As := [.int (x.1 k), .int (x.2.1 k)]) (rest := []) ⟨hx, hb, hml, hown, hts⟩ (c_X2_ahead l D cI cZ a H.size (va_up (va_up (va_up σ 9 x.1) 10 x.2.1) 12 x.2.2) (x.1 k) (x.2.1 k) hB) (cwV 2 hts gX3_step_X2_ahead rfl rfl rfl (by decide +kernel) ⟨Nat.le_of_ble_eq_true rfl, Nat.le_of_ble_eq_true rfl⟩) hP hK hD hS hA (va_recv hK hP (ci := 2) (q0 := 1) rfl rfl) rfl hl.1 (by decide) (Nat.zero_le _) (Nat.zero_le _) dX3_step_45 rfl (fun r_45 u_45 H locs h_45 hP hD hS => ?_)
      obtain ⟨e_45, h_45⟩ := h_45
      have e_45 := Eq.symm e_45
      subst e_45
      have h_45 : r_45 = ahd (σ 2) (x.1 k) (x.2.1 k) := h_45
      refine lv_istore (lv' := [(5, .int r_45), (0, .ref (a 8)), (1, .int (nI k)), (2, .ref (a 1)), (3, .ref (a 13)), (4, .int mi)]) hx hb dX3_step_48 hl (by decide) rfl (fun ls hl => ?_)
      refine lv_iload hx hb dX3_step_50 (lv_at hl 0 rfl) ?_
      refine lv_bipush (v := (-2)) hx hb dX3_step_52 (by decide) ?_
      refine lv_icmp_ne (tgt := 65) hx hb dX3_step_54 (by decide) (fun c_54 => ?_) (fun c_54 => ?_)
      · skip
        refine lv_iload hx hb dX3_step_65 (lv_at hl 0 rfl) ?_
        refine lv_iconst (v := (-1)) hx hb dX3_step_67 (by decide) ?_
        refine lv_icmp_eq (tgt := 93) hx hb dX3_step_68 (by decide) (fun c_68 => ?_) (fun c_68 => ?_)
        · skip
          refine lv_iconst (v := 0) hx hb dX3_step_93 (by decide) ?_
          exact MI.zret hx hb hr hlocks hK hP hD hS dX3_step_94 rfl (by subst h_45; rw [stp_b c_6 c_27 c_54 (Or.inl c_68)]; exact ⟨rfl, rfl⟩)
        · skip
          refine lv_aload_n hx hb dX3_step_71 rfl (lv_at hl 1 rfl) ?_
          refine lv_iload hx hb dX3_step_72 (lv_at hl 0 rfl) ?_
          refine MI.callV (As := [.int r_45]) (rest := []) ⟨hx, hb, hml, hown, hts⟩ (c_X3_standingOn_t l D cI cZ a H.size (va_up (va_up (va_up σ 9 x.1) 10 x.2.1) 12 x.2.2) r_45 n hn hn4) (cwV 1 hts gX3_step_X3_standingOn rfl rfl rfl (by decide +kernel) ⟨Nat.le_of_ble_eq_true rfl, Nat.le_of_ble_eq_true rfl⟩) hP hK hD hS hA (va_recv hK hP (ci := 3) (q0 := 8) rfl rfl) rfl hl.1 (by decide) (Nat.zero_le _) (Nat.zero_le _) dX3_step_74 rfl (fun r_74 u_74 H locs h_74 hP hD hS => ?_)
          obtain ⟨e_74, h_74⟩ := h_74
          have e_74 := Eq.symm e_74
          subst e_74
          have h_74 : r_74 = so x.1 r_45 n := h_74
          refine lv_iconst (v := (-1)) hx hb dX3_step_77 (by decide) ?_
          refine lv_icmp_ne (tgt := 93) hx hb dX3_step_78 (by decide) (fun c_78 => ?_) (fun c_78 => ?_)
          · skip
            refine lv_iconst (v := 0) hx hb dX3_step_93 (by decide) ?_
            exact MI.zret hx hb hr hlocks hK hP hD hS dX3_step_94 rfl (by subst h_45; subst h_74; rw [stp_b c_6 c_27 c_54 (Or.inr (Or.inl c_78))]; exact ⟨rfl, rfl⟩)
          · skip
            refine lv_aload_n hx hb dX3_step_81 rfl (lv_at hl 4 rfl) ?_
            refine lv_iload_n hx hb dX3_step_82 rfl (lv_at hl 2 rfl) ?_
            refine lv_iload hx hb dX3_step_83 (lv_at hl 0 rfl) ?_
            refine lv_iload hx hb dX3_step_85 (lv_at hl 5 rfl) ?_
            refine MI.callV (As := [.int (nI k), .int r_45, .int mi]) (rest := []) ⟨hx, hb, hml, hown, hts⟩ (c_X0_isForAnother l D cI cZ a H.size (va_up (va_up (va_up σ 9 x.1) 10 x.2.1) 12 x.2.2) (nI k) r_45 mi nb hnb hnb30) (cwV 3 hts gX3_step_X0_isForAnother rfl rfl rfl (by decide +kernel) ⟨Nat.le_of_ble_eq_true rfl, Nat.le_of_ble_eq_true rfl⟩) hP hK hD hS hA (va_recv hK hP (ci := 0) (q0 := 13) rfl rfl) rfl hl.1 (by decide) (Nat.zero_le _) (Nat.zero_le _) dX3_step_87 rfl (fun r_87 u_87 H locs h_87 hP hD hS => ?_)
            rcases h_87 with ⟨e_87, ⟨rfl, h_87⟩ | ⟨rfl, h_87⟩⟩
            · skip
              have e_87 := Eq.symm e_87
              subst e_87
              have h_87 : mts (σ 14) (σ 15) (σ 16) (σ 17) nb (nI k) r_45 mi mi := h_87
              refine lv_if_eq (tgt := 95) hx hb dX3_step_90 (by decide) (fun c9 => absurd c9 (by decide)) (fun _ => ?_)
              refine lv_iconst (v := 0) hx hb dX3_step_93 (by decide) ?_
              exact MI.zret hx hb hr hlocks hK hP hD hS dX3_step_94 rfl (by subst h_45; subst h_74; rw [stp_b c_6 c_27 c_54 (Or.inr (Or.inr h_87))]; exact ⟨rfl, rfl⟩)
            · skip
              have e_87 := Eq.symm e_87
              subst e_87
              have h_87 : ¬ mts (σ 14) (σ 15) (σ 16) (σ 17) nb (nI k) r_45 mi mi := h_87
              refine lv_if_eq (tgt := 95) hx hb dX3_step_90 (by decide) (fun _ => ?_) (fun c9 => absurd (by decide) c9)
              refine lv_aload_n hx hb dX3_step_95 rfl (lv_at hl 1 rfl) ?_
              refine va_get (D := D) (ci := 3) (v := .ref (a 9)) (C := RX3) (T := TX3) (N := 5) hx hb hts in_X3_step_X3 hown hK hP 8 rfl rfl 0 (by decide) (hts (.fieldLink RX3 9 "Warpyard$Trains" "block" "[I") (by decide +kernel)) (fun _ h9 => h9) rfl dX3_step_96 ?_
              refine lv_iload_n hx hb dX3_step_99 rfl (lv_at hl 2 rfl) ?_
              refine lv_iload hx hb dX3_step_100 (lv_at hl 0 rfl) ?_
              refine na_iast hx hb hK hP hD hS 9 0 (f := x.1) (x := r_45) rfl rfl k (by omega) (by decide) rfl dX3_step_102 (fun H locs hP hD hS => ?_)
              have hP : va_P D vwCl (wX cI cZ a (va_up (va_up (va_up σ 9 (upd x.1 k r_45)) 10 x.2.1) 12 x.2.2)) H := hP
              have hD : va_D A (wX cI cZ a (va_up (va_up (va_up σ 9 (upd x.1 k r_45)) 10 x.2.1) 12 x.2.2)) := hD
              refine lv_iconst (v := 1) hx hb dX3_step_103 (by decide) ?_
              exact MI.zret hx hb hr hlocks hK hP hD hS dX3_step_104 rfl (by subst h_45; subst h_74; rw [stp_m c_6 c_27 c_54 (by rintro (e | e | e) <;> first | exact c_68 e | exact e c_78 | exact h_87 e)]; exact ⟨rfl, rfl⟩)
      · skip
        refine lv_aload_n hx hb dX3_step_57 rfl (lv_at hl 1 rfl) ?_
        refine lv_iload_n hx hb dX3_step_58 rfl (lv_at hl 2 rfl) ?_
        refine MI.callV (As := [.int (nI k)]) (rest := []) ⟨hx, hb, hml, hown, hts⟩ (c_X3_turnRound_t l D cI cZ a H.size (va_up (va_up (va_up σ 9 x.1) 10 x.2.1) 12 x.2.2) k (by omega)) (cwV 1 hts gX3_step_X3_turnRound rfl rfl rfl (by decide +kernel) ⟨Nat.le_of_ble_eq_true rfl, Nat.le_of_ble_eq_true rfl⟩) hP hK hD hS hA (va_recv hK hP (ci := 3) (q0 := 8) rfl rfl) rfl hl.1 (by decide) (Nat.zero_le _) (Nat.zero_le _) dX3_step_59 rfl (fun r_59 u_59 H locs h_59 hP hD hS => ?_)
        obtain ⟨e_59, h_59⟩ := h_59
        have e_59 := Eq.symm e_59
        subst e_59
        have hP : va_P D vwCl (wX cI cZ a (va_up (va_up (va_up σ 9 x.1) 10 (upd x.2.1 k (fl (x.2.1 k)))) 12 x.2.2)) H := hP
        have hD : va_D A (wX cI cZ a (va_up (va_up (va_up σ 9 x.1) 10 (upd x.2.1 k (fl (x.2.1 k)))) 12 x.2.2)) := hD
        have h_59 : r_59 = fl (x.2.1 k) := h_59
        refine lv_pop hx hb dX3_step_62 rfl ?_
        refine lv_iconst (v := 0) hx hb dX3_step_63 (by decide) ?_
        exact MI.zret hx hb hr hlocks hK hP hD hS dX3_step_64 rfl (by subst h_45; rw [stp_f c_6 c_27 c_54]; exact ⟨rfl, rfl⟩)
    · skip
      refine lv_iconst (v := 0) hx hb dX3_step_30 (by decide) ?_
      exact MI.zret hx hb hr hlocks hK hP hD hS dX3_step_31 rfl (by rw [stp_h c_6 c_27]; exact ⟨rfl, rfl⟩)
  · skip
    refine lv_aload_n hx hb dX3_step_9 rfl (lv_at hl 0 rfl) ?_
    refine va_get (D := D) (ci := 3) (v := .ref (a 12)) (C := RX3) (T := TX3) (N := 5) hx hb hts in_X3_step_X3 hown hK hP 8 rfl rfl 3 (by decide) (hts (.fieldLink RX3 22 "Warpyard$Trains" "delay" "[I") (by decide +kernel)) (fun _ h9 => h9) rfl dX3_step_10 ?_
    refine lv_iload_n hx hb dX3_step_13 rfl (lv_at hl 1 rfl) ?_
    refine lv_dup2_11 hx hb dX3_step_14 rfl rfl ?_
    refine na_iald hx hb hK hP 12 0 (f := x.2.2) rfl rfl k (by omega) (by decide) rfl dX3_step_15 ?_
    refine lv_iconst (v := 1) hx hb dX3_step_16 (by decide) ?_
    refine lv_isub hx hb dX3_step_17 ?_
    refine na_iast hx hb hK hP hD hS 12 0 (f := x.2.2) (x := (x.2.2 k) - 1) rfl rfl k (by omega) (by decide) rfl dX3_step_18 (fun H locs hP hD hS => ?_)
    have hP : va_P D vwCl (wX cI cZ a (va_up (va_up (va_up σ 9 x.1) 10 x.2.1) 12 (upd x.2.2 k ((x.2.2 k) - 1)))) H := hP
    have hD : va_D A (wX cI cZ a (va_up (va_up (va_up σ 9 x.1) 10 x.2.1) 12 (upd x.2.2 k ((x.2.2 k) - 1)))) := hD
    refine lv_iconst (v := 0) hx hb dX3_step_19 (by decide) ?_
    exact MI.zret hx hb hr hlocks hK hP hD hS dX3_step_20 rfl (by rw [stp_d c_6]; exact ⟨rfl, rfl⟩)
set_option maxHeartbeats 4000000 in
set_option maxRecDepth 100000 in
/-- Trains.runMinute: all trains, one minute -/
theorem c_X3_runMinute_t (l : Launch) (D : va_G) (cI cZ : ClassId) (a : Nat → Nat) (sz : Nat) (σ : St) (n nb : Nat) (mi : Int32) (x : T3) (hn : σ 8 0 = nI n) (hn4 : n ≤ 4) (hnb : σ 13 0 = nI nb) (hnb30 : nb ≤ 30) (hB : ∀ i, i < n → blk (x.1 i)) : MI l yX3_runMinute wsX3_runMinute ({ frames := 3, cells := 0, slots := 0, locals := 71 }) D (ty2 cI cZ) (wX cI cZ a) [.ref (a 8), .ref (a 1), .ref (a 13), .int mi] (va_up (va_up (va_up σ 9 x.1) 10 x.2.1) 12 x.2.2) sz (fun r u => u = (va_up (va_up (va_up σ 9 ((mvs (σ 2) (σ 14) (σ 15) (σ 16) (σ 17) (σ 11) n nb mi x n).1.1)) 10 ((mvs (σ 2) (σ 14) (σ 15) (σ 16) (σ 17) (σ 11) n nb mi x n).1.2.1)) 12 ((mvs (σ 2) (σ 14) (σ 15) (σ 16) (σ 17) (σ 11) n nb mi x n).1.2.2)) ∧ r = (mvs (σ 2) (σ 14) (σ 15) (σ 16) (σ 17) (σ 11) n nb mi x n).2) := by
  refine MI.of (cc := cX3_runMinute) (maxL := 6) (by decide) rfl (Nat.le_of_ble_eq_true rfl) ?_
  intro p e s m args below meth c A H locs ls hx hb hr hml hown hts hlocks hA hS hP hK hD hl
  have hl : lv_has ls 6 [(0, .ref (a 8)), (1, .ref (a 1)), (2, .ref (a 13)), (3, .int mi)] := hl
  refine lv_iconst (v := 0) hx hb dX3_runMinute_0 (by decide) ?_
  refine lv_istore (lv' := [(4, .int 0), (0, .ref (a 8)), (1, .ref (a 1)), (2, .ref (a 13)), (3, .int mi)]) hx hb dX3_runMinute_1 hl (by decide) rfl (fun ls hl => ?_)
  refine lv_iconst (v := 0) hx hb dX3_runMinute_3 (by decide) ?_
  refine lv_istore (lv' := [(5, .int 0), (4, .int 0), (0, .ref (a 8)), (1, .ref (a 1)), (2, .ref (a 13)), (3, .int mi)]) hx hb dX3_runMinute_4 hl (by decide) rfl (fun ls hl => ?_)
  have loop_6 : ∀ (f : Nat) (k : Nat) (mv : Int32) (H : Heap) (locs : List Loc) (ls : Array Slot), n < k + f → k ≤ n → mv = (mvs (σ 2) (σ 14) (σ 15) (σ 16) (σ 17) (σ 11) n nb mi x k).2 → va_P D vwCl (wX cI cZ a (va_up (va_up (va_up σ 9 ((mvs (σ 2) (σ 14) (σ 15) (σ 16) (σ 17) (σ 11) n nb mi x k).1.1)) 10 ((mvs (σ 2) (σ 14) (σ 15) (σ 16) (σ 17) (σ 11) n nb mi x k).1.2.1)) 12 ((mvs (σ 2) (σ 14) (σ 15) (σ 16) (σ 17) (σ 11) n nb mi x k).1.2.2))) H → va_D A (wX cI cZ a (va_up (va_up (va_up σ 9 ((mvs (σ 2) (σ 14) (σ 15) (σ 16) (σ 17) (σ 11) n nb mi x k).1.1)) 10 ((mvs (σ 2) (σ 14) (σ 15) (σ 16) (σ 17) (σ 11) n nb mi x k).1.2.1)) 12 ((mvs (σ 2) (σ 14) (σ 15) (σ 16) (σ 17) (σ 11) n nb mi x k).1.2.2))) → va_S A s.heap H locs → lv_has ls 6 [(0, .ref (a 8)), (1, .ref (a 1)), (2, .ref (a 13)), (3, .int mi), (4, .int mv), (5, .int (nI k))] → W p l e { frames := 3, cells := 0, slots := 0, locals := 71 } s m args below meth c H locs 0 0 (MQ below (va_Qi (fun r u => u = (va_up (va_up (va_up σ 9 ((mvs (σ 2) (σ 14) (σ 15) (σ 16) (σ 17) (σ 11) n nb mi x n).1.1)) 10 ((mvs (σ 2) (σ 14) (σ 15) (σ 16) (σ 17) (σ 11) n nb mi x n).1.2.1)) 12 ((mvs (σ 2) (σ 14) (σ 15) (σ 16) (σ 17) (σ 11) n nb mi x n).1.2.2)) ∧ r = (mvs (σ 2) (σ 14) (σ 15) (σ 16) (σ 17) (σ 11) n nb mi x n).2) (PO D (ty2 cI cZ) (wX cI cZ a) A) A) args s 0 0 A) (F0 m 6 ls []) := by
    intro f
    induction f with
    | zero => intro k mv H locs ls hf hk hmv; exact absurd hf (by omega)
    | succ f ih =>
      intro k mv H locs ls hf hk hmv hP hD hS hl
      refine lv_iload hx hb dX3_runMinute_6 (lv_at hl 5 rfl) ?_
      refine lv_aload_n hx hb dX3_runMinute_8 rfl (lv_at hl 0 rfl) ?_
      refine va_get (D := D) (ci := 3) (v := .int (σ 8 0)) (C := RX3) (T := TX3) (N := 5) hx hb hts in_X3_runMinute_X3 hown hK hP 8 rfl rfl 4 (by decide) (hts (.fieldLink RX3 25 "Warpyard$Trains" "count" "I") (by decide +kernel)) (fun _ h9 => h9) rfl dX3_runMinute_9 ?_
      refine lv_topi (fun v_12 e_12 => ?_)
      obtain rfl : v_12 = nI n := by rw [e_12]; exact hn
      refine lv_icmp_ge (tgt := 36) hx hb dX3_runMinute_12 (by decide) (fun c_12 => ?_) (fun c_12 => ?_)
      · skip
        rw [nI_leI (by omega) (by omega)] at c_12
        refine lv_iload hx hb dX3_runMinute_36 (lv_at hl 4 rfl) ?_
        exact MI.ret hx hb hr hlocks hK hP hD hS dX3_runMinute_38 (by have e : n = k := (by omega); subst e; exact ⟨rfl, hmv⟩)
      · skip
        rw [nI_leI (by omega) (by omega)] at c_12
        refine lv_aload_n hx hb dX3_runMinute_15 rfl (lv_at hl 0 rfl) ?_
        refine lv_iload hx hb dX3_runMinute_16 (lv_at hl 5 rfl) ?_
        refine lv_aload_n hx hb dX3_runMinute_18 rfl (lv_at hl 1 rfl) ?_
        refine lv_aload_n hx hb dX3_runMinute_19 rfl (lv_at hl 2 rfl) ?_
        refine lv_iload_n hx hb dX3_runMinute_20 rfl (lv_at hl 3 rfl) ?_
        refine MI.callV (As := [.int (nI k), .ref (a 1), .ref (a 13), .int mi]) (rest := []) ⟨hx, hb, hml, hown, hts⟩ (c_X3_step_t l D cI cZ a H.size σ n nb k mi (mvs (σ 2) (σ 14) (σ 15) (σ 16) (σ 17) (σ 11) n nb mi x k).1 hn hn4 (by omega) hnb hnb30 (mvs_blk hB k k (by omega) (by omega))) (cwV 4 hts gX3_runMinute_X3_step rfl rfl rfl (by decide +kernel) ⟨Nat.le_of_ble_eq_true rfl, Nat.le_of_ble_eq_true rfl⟩) hP hK hD hS hA (va_recv hK hP (ci := 3) (q0 := 8) rfl rfl) rfl hl.1 (by decide) (Nat.zero_le _) (Nat.zero_le _) dX3_runMinute_21 rfl (fun r_21 u_21 H locs h_21 hP hD hS => ?_)
        obtain ⟨e_21, h_21⟩ := h_21
        have e_21 := Eq.symm e_21
        subst e_21
        have hP : va_P D vwCl (wX cI cZ a (va_up (va_up (va_up σ 9 ((stp (σ 2) (σ 14) (σ 15) (σ 16) (σ 17) (σ 11) n nb mi k (mvs (σ 2) (σ 14) (σ 15) (σ 16) (σ 17) (σ 11) n nb mi x k).1).1.1)) 10 ((stp (σ 2) (σ 14) (σ 15) (σ 16) (σ 17) (σ 11) n nb mi k (mvs (σ 2) (σ 14) (σ 15) (σ 16) (σ 17) (σ 11) n nb mi x k).1).1.2.1)) 12 ((stp (σ 2) (σ 14) (σ 15) (σ 16) (σ 17) (σ 11) n nb mi k (mvs (σ 2) (σ 14) (σ 15) (σ 16) (σ 17) (σ 11) n nb mi x k).1).1.2.2))) H := hP
        have hD : va_D A (wX cI cZ a (va_up (va_up (va_up σ 9 ((stp (σ 2) (σ 14) (σ 15) (σ 16) (σ 17) (σ 11) n nb mi k (mvs (σ 2) (σ 14) (σ 15) (σ 16) (σ 17) (σ 11) n nb mi x k).1).1.1)) 10 ((stp (σ 2) (σ 14) (σ 15) (σ 16) (σ 17) (σ 11) n nb mi k (mvs (σ 2) (σ 14) (σ 15) (σ 16) (σ 17) (σ 11) n nb mi x k).1).1.2.1)) 12 ((stp (σ 2) (σ 14) (σ 15) (σ 16) (σ 17) (σ 11) n nb mi k (mvs (σ 2) (σ 14) (σ 15) (σ 16) (σ 17) (σ 11) n nb mi x k).1).1.2.2))) := hD
        have h_21 : r_21 = (stp (σ 2) (σ 14) (σ 15) (σ 16) (σ 17) (σ 11) n nb mi k (mvs (σ 2) (σ 14) (σ 15) (σ 16) (σ 17) (σ 11) n nb mi x k).1).2 := h_21
        refine lv_if_eq (tgt := 30) hx hb dX3_runMinute_24 (by decide) (fun c_24 => ?_) (fun c_24 => ?_)
        · skip
          refine lv_iinc (v := nI (k + 1)) (lv' := [(5, .int (nI (k + 1))), (0, .ref (a 8)), (1, .ref (a 1)), (2, .ref (a 13)), (3, .int mi), (4, .int mv)]) hx hb dX3_runMinute_30 hl (k := 5) rfl (by exact nI_1 k) (by decide) rfl (fun ls hl => ?_)
          refine lv_goto (tgt := 6) hx hb dX3_runMinute_33 (by decide) ?_
          exact ih (k + 1) mv _ _ ls (by omega) (by omega) (by rw [mvs_2, ← hmv, ← h_21, c_24]; exact (Int32.add_zero _).symm) hP hD hS (lv_sub hl [1, 2, 3, 4, 5, 0] rfl)
        · skip
          refine lv_iinc (v := mv + 1) (lv' := [(4, .int (mv + 1)), (0, .ref (a 8)), (1, .ref (a 1)), (2, .ref (a 13)), (3, .int mi), (5, .int (nI k))]) hx hb dX3_runMinute_27 hl (k := 4) rfl rfl (by decide) rfl (fun ls hl => ?_)
          refine lv_iinc (v := nI (k + 1)) (lv' := [(5, .int (nI (k + 1))), (4, .int (mv + 1)), (0, .ref (a 8)), (1, .ref (a 1)), (2, .ref (a 13)), (3, .int mi)]) hx hb dX3_runMinute_30 hl (k := 5) rfl (by exact nI_1 k) (by decide) rfl (fun ls hl => ?_)
          refine lv_goto (tgt := 6) hx hb dX3_runMinute_33 (by decide) ?_
          exact ih (k + 1) (mv + 1) _ _ ls (by omega) (by omega) (by rw [mvs_2, ← hmv, ← h_21, stp_one h_21 c_24]) hP hD hS (lv_sub hl [2, 3, 4, 5, 1, 0] rfl)
  exact loop_6 (n + 1) 0 0 _ _ ls (by omega) (by omega) (by rfl) hP hD hS (lv_sub hl [2, 3, 4, 5, 1, 0] rfl)
set_option maxRecDepth 20000 in
theorem in_X0_markMet_X0 : ∀ w ∈ wsX00, w ∈ wsX0_markMet := by decide +kernel
set_option maxHeartbeats 4000000 in
set_option maxRecDepth 100000 in
/-- Bookings.markMet: which bookings are met behind a minute -/
theorem c_X0_markMet (l : Launch) (D : va_G) (cI cZ : ClassId) (a : Nat → Nat) (sz : Nat) (σ : St) (n nb : Nat) (mi : Int32) (Lt : Nat → Int32) (hn : σ 3 0 = nI n) (hn4 : n ≤ 4) (hnb : σ 13 0 = nI nb) (hnb30 : nb ≤ 30) : MV l yX0_markMet wsX0_markMet ({ frames := 1, cells := 0, slots := 0, locals := 22 }) D (ty2 cI cZ) (wX cI cZ a) [.ref (a 13), .ref (a 3), .int mi] (va_up σ 18 Lt) sz (fun u => u = (va_up σ 18 (mkm (σ 4) (σ 14) (σ 15) (σ 16) (σ 17) n mi Lt nb))) := by
  refine MV.of (cc := cX0_markMet) (maxL := 4) (by decide) rfl (Nat.le_of_ble_eq_true rfl) ?_
  intro p e s m args below meth c A H locs ls hx hb hr hml hown hts hlocks hA hS hP hK hD hl
  have hl : lv_has ls 4 [(0, .ref (a 13)), (1, .ref (a 3)), (2, .int mi)] := hl
  refine lv_iconst (v := 0) hx hb dX0_markMet_0 (by decide) ?_
  refine lv_istore_n (lv' := [(3, .int 0), (0, .ref (a 13)), (1, .ref (a 3)), (2, .int mi)]) hx hb dX0_markMet_1 rfl hl (by decide) rfl (fun ls hl => ?_)
  have loop_2 : ∀ (f : Nat) (k : Nat) (H : Heap) (locs : List Loc) (ls : Array Slot), nb < k + f → k ≤ nb → va_P D vwCl (wX cI cZ a (va_up σ 18 (mkm (σ 4) (σ 14) (σ 15) (σ 16) (σ 17) n mi Lt k))) H → va_D A (wX cI cZ a (va_up σ 18 (mkm (σ 4) (σ 14) (σ 15) (σ 16) (σ 17) n mi Lt k))) → va_S A s.heap H locs → lv_has ls 4 [(0, .ref (a 13)), (1, .ref (a 3)), (2, .int mi), (3, .int (nI k))] → W p l e { frames := 1, cells := 0, slots := 0, locals := 22 } s m args below meth c H locs 0 0 (MQ below (va_Qv (fun u => u = (va_up σ 18 (mkm (σ 4) (σ 14) (σ 15) (σ 16) (σ 17) n mi Lt nb))) (PO D (ty2 cI cZ) (wX cI cZ a) A) A) args s 0 0 A) (F0 m 2 ls []) := by
    intro f
    induction f with
    | zero => intro k H locs ls hf hk; exact absurd hf (by omega)
    | succ f ih =>
      intro k H locs ls hf hk hP hD hS hl
      refine lv_iload_n hx hb dX0_markMet_2 rfl (lv_at hl 3 rfl) ?_
      refine lv_aload_n hx hb dX0_markMet_3 rfl (lv_at hl 0 rfl) ?_
      refine va_get (D := D) (ci := 0) (v := .int (σ 13 0)) (C := RX0) (T := TX0) (N := 6) hx hb hts in_X0_markMet_X0 hown hK hP 13 rfl rfl 5 (by decide) (hts (.fieldLink RX0 27 "Warpyard$Bookings" "count" "I") (by decide +kernel)) (fun _ h9 => h9) rfl dX0_markMet_4 ?_
      refine lv_topi (fun v_7 e_7 => ?_)
      obtain rfl : v_7 = nI nb := by rw [e_7]; exact hnb
      refine lv_icmp_ge (tgt := 68) hx hb dX0_markMet_7 (by decide) (fun c_7 => ?_) (fun c_7 => ?_)
      · skip
        rw [nI_leI (by omega) (by omega)] at c_7
        exact MV.ret hx hb hr hlocks hK hP hD hS dX0_markMet_68 (by have e : nb = k := (by omega); subst e; rfl)
      · skip
        rw [nI_leI (by omega) (by omega)] at c_7
        refine lv_aload_n hx hb dX0_markMet_10 rfl (lv_at hl 0 rfl) ?_
        refine va_get (D := D) (ci := 0) (v := .ref (a 18)) (C := RX0) (T := TX0) (N := 6) hx hb hts in_X0_markMet_X0 hown hK hP 13 rfl rfl 4 (by decide) (hts (.fieldLink RX0 24 "Warpyard$Bookings" "lateness" "[I") (by decide +kernel)) (fun _ h9 => h9) rfl dX0_markMet_11 ?_
        refine lv_iload_n hx hb dX0_markMet_14 rfl (lv_at hl 3 rfl) ?_
        refine na_iald hx hb hK hP 18 0 (f := (mkm (σ 4) (σ 14) (σ 15) (σ 16) (σ 17) n mi Lt k)) rfl rfl k (by omega) (by decide) rfl dX0_markMet_15 ?_
        refine lv_iconst (v := (-1)) hx hb dX0_markMet_16 (by decide) ?_
        refine lv_icmp_ne (tgt := 62) hx hb dX0_markMet_17 (by decide) (fun c_17 => ?_) (fun c_17 => ?_)
        · skip
          refine lv_iinc (v := nI (k + 1)) (lv' := [(3, .int (nI (k + 1))), (0, .ref (a 13)), (1, .ref (a 3)), (2, .int mi)]) hx hb dX0_markMet_62 hl (k := 3) rfl (by exact nI_1 k) (by decide) rfl (fun ls hl => ?_)
          refine lv_goto (tgt := 2) hx hb dX0_markMet_65 (by decide) ?_
          have e9 : (mkm (σ 4) (σ 14) (σ 15) (σ 16) (σ 17) n mi Lt (k + 1)) = (mkm (σ 4) (σ 14) (σ 15) (σ 16) (σ 17) n mi Lt k) := by rw [mkm, cif_f (fun h => c_17 h.1)]
          rw [← e9] at hP hD
          exact ih (k + 1) _ _ ls (by omega) (by omega) hP hD hS (lv_sub hl [1, 2, 3, 0] rfl)
        · skip
          refine lv_aload_n hx hb dX0_markMet_20 rfl (lv_at hl 0 rfl) ?_
          refine lv_iload_n hx hb dX0_markMet_21 rfl (lv_at hl 3 rfl) ?_
          refine lv_iload_n hx hb dX0_markMet_22 rfl (lv_at hl 2 rfl) ?_
          refine MI.callV (As := [.int (nI k), .int mi]) (rest := []) ⟨hx, hb, hml, hown, hts⟩ (c_X0_isIn l D cI cZ a H.size (va_up σ 18 (mkm (σ 4) (σ 14) (σ 15) (σ 16) (σ 17) n mi Lt k)) k mi (by omega)) (cwV 2 hts gX0_markMet_X0_isIn rfl rfl rfl (by decide +kernel) ⟨Nat.le_of_ble_eq_true rfl, Nat.le_of_ble_eq_true rfl⟩) hP hK hD hS hA (va_recv hK hP (ci := 0) (q0 := 13) rfl rfl) rfl hl.1 (by decide) (Nat.zero_le _) (Nat.zero_le _) dX0_markMet_23 rfl (fun r_23 u_23 H locs h_23 hP hD hS => ?_)
          rcases h_23 with ⟨e_23, ⟨rfl, h_23⟩ | ⟨rfl, h_23⟩⟩
          · skip
            have e_23 := Eq.symm e_23
            subst e_23
            have h_23 : inR mi ((σ 16) k) ((σ 17) k) := h_23
            refine lv_if_eq (tgt := 62) hx hb dX0_markMet_26 (by decide) (fun c9 => absurd c9 (by decide)) (fun _ => ?_)
            refine lv_aload_n hx hb dX0_markMet_29 rfl (lv_at hl 1 rfl) ?_
            refine lv_aload_n hx hb dX0_markMet_30 rfl (lv_at hl 0 rfl) ?_
            refine va_get (D := D) (ci := 0) (v := .ref (a 15)) (C := RX0) (T := TX0) (N := 6) hx hb hts in_X0_markMet_X0 hown hK hP 13 rfl rfl 1 (by decide) (hts (.fieldLink RX0 15 "Warpyard$Bookings" "block" "[I") (by decide +kernel)) (fun _ h9 => h9) rfl dX0_markMet_31 ?_
            refine lv_iload_n hx hb dX0_markMet_34 rfl (lv_at hl 3 rfl) ?_
            refine na_iald hx hb hK hP 15 0 (f := (σ 15)) rfl rfl k (by omega) (by decide) rfl dX0_markMet_35 ?_
            refine MI.callV (As := [.int (σ 15 k)]) (rest := []) ⟨hx, hb, hml, hown, hts⟩ (c_X3_standingOn l D cI cZ a H.size (va_up σ 18 (mkm (σ 4) (σ 14) (σ 15) (σ 16) (σ 17) n mi Lt k)) (σ 15 k) n hn hn4) (cwV 1 hts gX0_markMet_X3_standingOn rfl rfl rfl (by decide +kernel) ⟨Nat.le_of_ble_eq_true rfl, Nat.le_of_ble_eq_true rfl⟩) hP hK hD hS hA (va_recv hK hP (ci := 3) (q0 := 3) rfl rfl) rfl hl.1 (by decide) (Nat.zero_le _) (Nat.zero_le _) dX0_markMet_36 rfl (fun r_36 u_36 H locs h_36 hP hD hS => ?_)
            obtain ⟨e_36, h_36⟩ := h_36
            have e_36 := Eq.symm e_36
            subst e_36
            have h_36 : r_36 = so (σ 4) (σ 15 k) n := h_36
            refine lv_aload_n hx hb dX0_markMet_39 rfl (lv_at hl 0 rfl) ?_
            refine va_get (D := D) (ci := 0) (v := .ref (a 14)) (C := RX0) (T := TX0) (N := 6) hx hb hts in_X0_markMet_X0 hown hK hP 13 rfl rfl 0 (by decide) (hts (.fieldLink RX0 9 "Warpyard$Bookings" "train" "[I") (by decide +kernel)) (fun _ h9 => h9) rfl dX0_markMet_40 ?_
            refine lv_iload_n hx hb dX0_markMet_43 rfl (lv_at hl 3 rfl) ?_
            refine na_iald hx hb hK hP 14 0 (f := (σ 14)) rfl rfl k (by omega) (by decide) rfl dX0_markMet_44 ?_
            refine lv_icmp_ne (tgt := 62) hx hb dX0_markMet_45 (by decide) (fun c_45 => ?_) (fun c_45 => ?_)
            · skip
              refine lv_iinc (v := nI (k + 1)) (lv' := [(3, .int (nI (k + 1))), (0, .ref (a 13)), (1, .ref (a 3)), (2, .int mi)]) hx hb dX0_markMet_62 hl (k := 3) rfl (by exact nI_1 k) (by decide) rfl (fun ls hl => ?_)
              refine lv_goto (tgt := 2) hx hb dX0_markMet_65 (by decide) ?_
              have e9 : (mkm (σ 4) (σ 14) (σ 15) (σ 16) (σ 17) n mi Lt (k + 1)) = (mkm (σ 4) (σ 14) (σ 15) (σ 16) (σ 17) n mi Lt k) := by rw [mkm, cif_f (fun h => c_45 (h_36.trans h.2.2))]
              rw [← e9] at hP hD
              exact ih (k + 1) _ _ ls (by omega) (by omega) hP hD hS (lv_sub hl [1, 2, 3, 0] rfl)
            · skip
              refine lv_aload_n hx hb dX0_markMet_48 rfl (lv_at hl 0 rfl) ?_
              refine va_get (D := D) (ci := 0) (v := .ref (a 18)) (C := RX0) (T := TX0) (N := 6) hx hb hts in_X0_markMet_X0 hown hK hP 13 rfl rfl 4 (by decide) (hts (.fieldLink RX0 24 "Warpyard$Bookings" "lateness" "[I") (by decide +kernel)) (fun _ h9 => h9) rfl dX0_markMet_49 ?_
              refine lv_iload_n hx hb dX0_markMet_52 rfl (lv_at hl 3 rfl) ?_
              refine lv_iload_n hx hb dX0_markMet_53 rfl (lv_at hl 2 rfl) ?_
              refine lv_aload_n hx hb dX0_markMet_54 rfl (lv_at hl 0 rfl) ?_
              refine va_get (D := D) (ci := 0) (v := .ref (a 16)) (C := RX0) (T := TX0) (N := 6) hx hb hts in_X0_markMet_X0 hown hK hP 13 rfl rfl 2 (by decide) (hts (.fieldLink RX0 18 "Warpyard$Bookings" "first" "[I") (by decide +kernel)) (fun _ h9 => h9) rfl dX0_markMet_55 ?_
              refine lv_iload_n hx hb dX0_markMet_58 rfl (lv_at hl 3 rfl) ?_
              refine na_iald hx hb hK hP 16 0 (f := (σ 16)) rfl rfl k (by omega) (by decide) rfl dX0_markMet_59 ?_
              refine lv_isub hx hb dX0_markMet_60 ?_
              refine na_iast hx hb hK hP hD hS 18 0 (f := (mkm (σ 4) (σ 14) (σ 15) (σ 16) (σ 17) n mi Lt k)) (x := mi - (σ 16 k)) rfl rfl k (by omega) (by decide) rfl dX0_markMet_61 (fun H locs hP hD hS => ?_)
              have hP : va_P D vwCl (wX cI cZ a (va_up σ 18 (upd (mkm (σ 4) (σ 14) (σ 15) (σ 16) (σ 17) n mi Lt k) k (mi - (σ 16 k))))) H := hP
              have hD : va_D A (wX cI cZ a (va_up σ 18 (upd (mkm (σ 4) (σ 14) (σ 15) (σ 16) (σ 17) n mi Lt k) k (mi - (σ 16 k))))) := hD
              refine lv_iinc (v := nI (k + 1)) (lv' := [(3, .int (nI (k + 1))), (0, .ref (a 13)), (1, .ref (a 3)), (2, .int mi)]) hx hb dX0_markMet_62 hl (k := 3) rfl (by exact nI_1 k) (by decide) rfl (fun ls hl => ?_)
              refine lv_goto (tgt := 2) hx hb dX0_markMet_65 (by decide) ?_
              have e9 : (mkm (σ 4) (σ 14) (σ 15) (σ 16) (σ 17) n mi Lt (k + 1)) = upd (mkm (σ 4) (σ 14) (σ 15) (σ 16) (σ 17) n mi Lt k) k (mi - σ 16 k) := by rw [mkm, cif_t ⟨c_17, h_23, h_36.symm.trans c_45⟩]
              rw [← e9] at hP hD
              exact ih (k + 1) _ _ ls (by omega) (by omega) hP hD hS (lv_sub hl [1, 2, 3, 0] rfl)
          · skip
            have e_23 := Eq.symm e_23
            subst e_23
            have h_23 : ¬ inR mi ((σ 16) k) ((σ 17) k) := h_23
            refine lv_if_eq (tgt := 62) hx hb dX0_markMet_26 (by decide) (fun _ => ?_) (fun c9 => absurd (by decide) c9)
            refine lv_iinc (v := nI (k + 1)) (lv' := [(3, .int (nI (k + 1))), (0, .ref (a 13)), (1, .ref (a 3)), (2, .int mi)]) hx hb dX0_markMet_62 hl (k := 3) rfl (by exact nI_1 k) (by decide) rfl (fun ls hl => ?_)
            refine lv_goto (tgt := 2) hx hb dX0_markMet_65 (by decide) ?_
            have e9 : (mkm (σ 4) (σ 14) (σ 15) (σ 16) (σ 17) n mi Lt (k + 1)) = (mkm (σ 4) (σ 14) (σ 15) (σ 16) (σ 17) n mi Lt k) := by rw [mkm, cif_f (fun h => h_23 h.2.1)]
            rw [← e9] at hP hD
            exact ih (k + 1) _ _ ls (by omega) (by omega) hP hD hS (lv_sub hl [1, 2, 3, 0] rfl)
  exact loop_2 (nb + 1) 0 _ _ ls (by omega) (by omega) hP hD hS (lv_sub hl [1, 2, 3, 0] rfl)
set_option maxRecDepth 20000 in
theorem in_X3_copyFrom_X3 : ∀ w ∈ wsX30, w ∈ wsX3_copyFrom := by decide +kernel
set_option maxHeartbeats 4000000 in
set_option maxRecDepth 100000 in
/-- Trains.copyFrom: the trial as the trains -/
theorem c_X3_copyFrom (l : Launch) (D : va_G) (cI cZ : ClassId) (a : Nat → Nat) (sz : Nat) (σ : St) (n : Nat) (hn : σ 3 0 = nI n) (hn4 : n ≤ 4) (hR : ∀ i, i < 4 → σ 5 i = 0 ∨ σ 5 i = 1) (hH : ∀ i, i < 4 → σ 6 i = 0 ∨ σ 6 i = 1) : MV l yX3_copyFrom wsX3_copyFrom ({ frames := 0, cells := 0, slots := 0, locals := 0 }) D (ty2 cI cZ) (wX cI cZ a) [.ref (a 8), .ref (a 3)] σ sz (fun u => u = (va_up (va_up (va_up (va_up (va_up σ 8 (fun _ => nI n)) 9 (cpn (σ 4) (σ 9) n)) 10 (cpn (σ 5) (σ 10) n)) 11 (cpn (σ 6) (σ 11) n)) 12 (cpn (σ 7) (σ 12) n))) := by
  refine MV.of (cc := cX3_copyFrom) (maxL := 3) (by decide) rfl (Nat.le_of_ble_eq_true rfl) ?_
  intro p e s m args below meth c A H locs ls hx hb hr hml hown hts hlocks hA hS hP hK hD hl
  have hl : lv_has ls 3 [(0, .ref (a 8)), (1, .ref (a 3))] := hl
  refine lv_aload_n hx hb dX3_copyFrom_0 rfl (lv_at hl 0 rfl) ?_
  refine lv_aload_n hx hb dX3_copyFrom_1 rfl (lv_at hl 1 rfl) ?_
  refine va_get (D := D) (ci := 3) (v := .int (σ 3 0)) (C := RX3) (T := TX3) (N := 5) hx hb hts in_X3_copyFrom_X3 hown hK hP 3 rfl rfl 4 (by decide) (hts (.fieldLink RX3 25 "Warpyard$Trains" "count" "I") (by decide +kernel)) (fun _ h9 => h9) rfl dX3_copyFrom_2 ?_
  refine lv_topi (fun v_5 e_5 => ?_)
  obtain rfl : v_5 = nI n := by rw [e_5]; exact hn
  refine va_put (D := D) (ci := 3) (v := .int (nI n)) (ty := .int) (C := RX3) (T := TX3) (N := 5) hx hb hts in_X3_copyFrom_X3 tyX3 tyX3_ok nmX3 hown hK hP hD hS 8 rfl rfl 4 (by decide) (hts (.fieldLink RX3 25 "Warpyard$Trains" "count" "I") (by decide +kernel)) (fun _ h9 => h9) rfl (by decide +kernel) rfl rfl (Nat.le_of_ble_eq_true rfl) dX3_copyFrom_5 (fun H locs hP hD hS => ?_)
  have hP : va_P D vwCl (wX cI cZ a (va_up σ 8 (fun _ => nI n))) H := hP
  have hD : va_D A (wX cI cZ a (va_up σ 8 (fun _ => nI n))) := hD
  refine lv_iconst (v := 0) hx hb dX3_copyFrom_8 (by decide) ?_
  refine lv_istore_n (lv' := [(2, .int 0), (0, .ref (a 8)), (1, .ref (a 3))]) hx hb dX3_copyFrom_9 rfl hl (by decide) rfl (fun ls hl => ?_)
  have loop_10 : ∀ (f : Nat) (k : Nat) (T9 : Nat → Int32) (T10 : Nat → Int32) (T11 : Nat → Int32) (T12 : Nat → Int32) (H : Heap) (locs : List Loc) (ls : Array Slot), n < k + f → k ≤ n → T9 = cpn (σ 4) (σ 9) k → T10 = cpn (σ 5) (σ 10) k → T11 = cpn (σ 6) (σ 11) k → T12 = cpn (σ 7) (σ 12) k → va_P D vwCl (wX cI cZ a (va_up (va_up (va_up (va_up (va_up σ 8 (fun _ => nI n)) 9 T9) 10 T10) 11 T11) 12 T12)) H → va_D A (wX cI cZ a (va_up (va_up (va_up (va_up (va_up σ 8 (fun _ => nI n)) 9 T9) 10 T10) 11 T11) 12 T12)) → va_S A s.heap H locs → lv_has ls 3 [(0, .ref (a 8)), (1, .ref (a 3)), (2, .int (nI k))] → W p l e { frames := 0, cells := 0, slots := 0, locals := 0 } s m args below meth c H locs 0 0 (MQ below (va_Qv (fun u => u = (va_up (va_up (va_up (va_up (va_up σ 8 (fun _ => nI n)) 9 (cpn (σ 4) (σ 9) n)) 10 (cpn (σ 5) (σ 10) n)) 11 (cpn (σ 6) (σ 11) n)) 12 (cpn (σ 7) (σ 12) n))) (PO D (ty2 cI cZ) (wX cI cZ a) A) A) args s 0 0 A) (F0 m 10 ls []) := by
    intro f
    induction f with
    | zero => intro k T9 T10 T11 T12 H locs ls hf hk h9 h10 h11 h12; exact absurd hf (by omega)
    | succ f ih =>
      intro k T9 T10 T11 T12 H locs ls hf hk h9 h10 h11 h12 hP hD hS hl
      refine lv_iload_n hx hb dX3_copyFrom_10 rfl (lv_at hl 2 rfl) ?_
      refine lv_aload_n hx hb dX3_copyFrom_11 rfl (lv_at hl 0 rfl) ?_
      refine va_get (D := D) (ci := 3) (v := .int (nI n)) (C := RX3) (T := TX3) (N := 5) hx hb hts in_X3_copyFrom_X3 hown hK hP 8 rfl rfl 4 (by decide) (hts (.fieldLink RX3 25 "Warpyard$Trains" "count" "I") (by decide +kernel)) (fun _ h9 => h9) rfl dX3_copyFrom_12 ?_
      refine lv_icmp_ge (tgt := 72) hx hb dX3_copyFrom_15 (by decide) (fun c_15 => ?_) (fun c_15 => ?_)
      · skip
        rw [nI_leI (by omega) (by omega)] at c_15
        exact MV.ret hx hb hr hlocks hK hP hD hS dX3_copyFrom_72 (by have e : n = k := (by omega); subst e; rw [h9, h10, h11, h12])
      · skip
        rw [nI_leI (by omega) (by omega)] at c_15
        refine lv_aload_n hx hb dX3_copyFrom_18 rfl (lv_at hl 0 rfl) ?_
        refine va_get (D := D) (ci := 3) (v := .ref (a 9)) (C := RX3) (T := TX3) (N := 5) hx hb hts in_X3_copyFrom_X3 hown hK hP 8 rfl rfl 0 (by decide) (hts (.fieldLink RX3 9 "Warpyard$Trains" "block" "[I") (by decide +kernel)) (fun _ h9 => h9) rfl dX3_copyFrom_19 ?_
        refine lv_iload_n hx hb dX3_copyFrom_22 rfl (lv_at hl 2 rfl) ?_
        refine lv_aload_n hx hb dX3_copyFrom_23 rfl (lv_at hl 1 rfl) ?_
        refine va_get (D := D) (ci := 3) (v := .ref (a 4)) (C := RX3) (T := TX3) (N := 5) hx hb hts in_X3_copyFrom_X3 hown hK hP 3 rfl rfl 0 (by decide) (hts (.fieldLink RX3 9 "Warpyard$Trains" "block" "[I") (by decide +kernel)) (fun _ h9 => h9) rfl dX3_copyFrom_24 ?_
        refine lv_iload_n hx hb dX3_copyFrom_27 rfl (lv_at hl 2 rfl) ?_
        refine na_iald hx hb hK hP 4 0 (f := (σ 4)) rfl rfl k (by omega) (by decide) rfl dX3_copyFrom_28 ?_
        refine na_iast hx hb hK hP hD hS 9 0 (f := T9) (x := σ 4 k) rfl rfl k (by omega) (by decide) rfl dX3_copyFrom_29 (fun H locs hP hD hS => ?_)
        have hP : va_P D vwCl (wX cI cZ a (va_up (va_up (va_up (va_up (va_up σ 8 (fun _ => nI n)) 9 (upd T9 k (σ 4 k))) 10 T10) 11 T11) 12 T12)) H := hP
        have hD : va_D A (wX cI cZ a (va_up (va_up (va_up (va_up (va_up σ 8 (fun _ => nI n)) 9 (upd T9 k (σ 4 k))) 10 T10) 11 T11) 12 T12)) := hD
        refine lv_aload_n hx hb dX3_copyFrom_30 rfl (lv_at hl 0 rfl) ?_
        refine va_get (D := D) (ci := 3) (v := .ref (a 10)) (C := RX3) (T := TX3) (N := 5) hx hb hts in_X3_copyFrom_X3 hown hK hP 8 rfl rfl 1 (by decide) (hts (.fieldLink RX3 15 "Warpyard$Trains" "right" "[Z") (by decide +kernel)) (fun _ h9 => h9) rfl dX3_copyFrom_31 ?_
        refine lv_iload_n hx hb dX3_copyFrom_34 rfl (lv_at hl 2 rfl) ?_
        refine lv_aload_n hx hb dX3_copyFrom_35 rfl (lv_at hl 1 rfl) ?_
        refine va_get (D := D) (ci := 3) (v := .ref (a 5)) (C := RX3) (T := TX3) (N := 5) hx hb hts in_X3_copyFrom_X3 hown hK hP 3 rfl rfl 1 (by decide) (hts (.fieldLink RX3 15 "Warpyard$Trains" "right" "[Z") (by decide +kernel)) (fun _ h9 => h9) rfl dX3_copyFrom_36 ?_
        refine lv_iload_n hx hb dX3_copyFrom_39 rfl (lv_at hl 2 rfl) ?_
        refine na_zald hx hb hK hP 5 1 (f := (σ 5)) rfl rfl k (by omega) (by decide) rfl dX3_copyFrom_40 ?_
        refine na_zast hx hb hK hP hD hS 10 1 (f := T10) (x := σ 5 k) rfl rfl k (by omega) (by decide) rfl (hR k (by omega)) dX3_copyFrom_41 (fun H locs hP hD hS => ?_)
        have hP : va_P D vwCl (wX cI cZ a (va_up (va_up (va_up (va_up (va_up σ 8 (fun _ => nI n)) 9 (upd T9 k (σ 4 k))) 10 (upd T10 k (σ 5 k))) 11 T11) 12 T12)) H := hP
        have hD : va_D A (wX cI cZ a (va_up (va_up (va_up (va_up (va_up σ 8 (fun _ => nI n)) 9 (upd T9 k (σ 4 k))) 10 (upd T10 k (σ 5 k))) 11 T11) 12 T12)) := hD
        refine lv_aload_n hx hb dX3_copyFrom_42 rfl (lv_at hl 0 rfl) ?_
        refine va_get (D := D) (ci := 3) (v := .ref (a 11)) (C := RX3) (T := TX3) (N := 5) hx hb hts in_X3_copyFrom_X3 hown hK hP 8 rfl rfl 2 (by decide) (hts (.fieldLink RX3 19 "Warpyard$Trains" "held" "[Z") (by decide +kernel)) (fun _ h9 => h9) rfl dX3_copyFrom_43 ?_
        refine lv_iload_n hx hb dX3_copyFrom_46 rfl (lv_at hl 2 rfl) ?_
        refine lv_aload_n hx hb dX3_copyFrom_47 rfl (lv_at hl 1 rfl) ?_
        refine va_get (D := D) (ci := 3) (v := .ref (a 6)) (C := RX3) (T := TX3) (N := 5) hx hb hts in_X3_copyFrom_X3 hown hK hP 3 rfl rfl 2 (by decide) (hts (.fieldLink RX3 19 "Warpyard$Trains" "held" "[Z") (by decide +kernel)) (fun _ h9 => h9) rfl dX3_copyFrom_48 ?_
        refine lv_iload_n hx hb dX3_copyFrom_51 rfl (lv_at hl 2 rfl) ?_
        refine na_zald hx hb hK hP 6 1 (f := (σ 6)) rfl rfl k (by omega) (by decide) rfl dX3_copyFrom_52 ?_
        refine na_zast hx hb hK hP hD hS 11 1 (f := T11) (x := σ 6 k) rfl rfl k (by omega) (by decide) rfl (hH k (by omega)) dX3_copyFrom_53 (fun H locs hP hD hS => ?_)
        have hP : va_P D vwCl (wX cI cZ a (va_up (va_up (va_up (va_up (va_up σ 8 (fun _ => nI n)) 9 (upd T9 k (σ 4 k))) 10 (upd T10 k (σ 5 k))) 11 (upd T11 k (σ 6 k))) 12 T12)) H := hP
        have hD : va_D A (wX cI cZ a (va_up (va_up (va_up (va_up (va_up σ 8 (fun _ => nI n)) 9 (upd T9 k (σ 4 k))) 10 (upd T10 k (σ 5 k))) 11 (upd T11 k (σ 6 k))) 12 T12)) := hD
        refine lv_aload_n hx hb dX3_copyFrom_54 rfl (lv_at hl 0 rfl) ?_
        refine va_get (D := D) (ci := 3) (v := .ref (a 12)) (C := RX3) (T := TX3) (N := 5) hx hb hts in_X3_copyFrom_X3 hown hK hP 8 rfl rfl 3 (by decide) (hts (.fieldLink RX3 22 "Warpyard$Trains" "delay" "[I") (by decide +kernel)) (fun _ h9 => h9) rfl dX3_copyFrom_55 ?_
        refine lv_iload_n hx hb dX3_copyFrom_58 rfl (lv_at hl 2 rfl) ?_
        refine lv_aload_n hx hb dX3_copyFrom_59 rfl (lv_at hl 1 rfl) ?_
        refine va_get (D := D) (ci := 3) (v := .ref (a 7)) (C := RX3) (T := TX3) (N := 5) hx hb hts in_X3_copyFrom_X3 hown hK hP 3 rfl rfl 3 (by decide) (hts (.fieldLink RX3 22 "Warpyard$Trains" "delay" "[I") (by decide +kernel)) (fun _ h9 => h9) rfl dX3_copyFrom_60 ?_
        refine lv_iload_n hx hb dX3_copyFrom_63 rfl (lv_at hl 2 rfl) ?_
        refine na_iald hx hb hK hP 7 0 (f := (σ 7)) rfl rfl k (by omega) (by decide) rfl dX3_copyFrom_64 ?_
        refine na_iast hx hb hK hP hD hS 12 0 (f := T12) (x := σ 7 k) rfl rfl k (by omega) (by decide) rfl dX3_copyFrom_65 (fun H locs hP hD hS => ?_)
        have hP : va_P D vwCl (wX cI cZ a (va_up (va_up (va_up (va_up (va_up σ 8 (fun _ => nI n)) 9 (upd T9 k (σ 4 k))) 10 (upd T10 k (σ 5 k))) 11 (upd T11 k (σ 6 k))) 12 (upd T12 k (σ 7 k)))) H := hP
        have hD : va_D A (wX cI cZ a (va_up (va_up (va_up (va_up (va_up σ 8 (fun _ => nI n)) 9 (upd T9 k (σ 4 k))) 10 (upd T10 k (σ 5 k))) 11 (upd T11 k (σ 6 k))) 12 (upd T12 k (σ 7 k)))) := hD
        refine lv_iinc (v := nI (k + 1)) (lv' := [(2, .int (nI (k + 1))), (0, .ref (a 8)), (1, .ref (a 3))]) hx hb dX3_copyFrom_66 hl (k := 2) rfl (by exact nI_1 k) (by decide) rfl (fun ls hl => ?_)
        refine lv_goto (tgt := 10) hx hb dX3_copyFrom_69 (by decide) ?_
        exact ih (k + 1) (upd T9 k (σ 4 k)) (upd T10 k (σ 5 k)) (upd T11 k (σ 6 k)) (upd T12 k (σ 7 k)) _ _ ls (by omega) (by omega) (by rw [h9, cpn_s]) (by rw [h10, cpn_s]) (by rw [h11, cpn_s]) (by rw [h12, cpn_s]) hP hD hS (lv_sub hl [1, 2, 0] rfl)
  exact loop_10 (n + 1) 0 (σ 9) (σ 10) (σ 11) (σ 12) _ _ ls (by omega) (by omega) (by exact (cpn_0 _ _).symm) (by exact (cpn_0 _ _).symm) (by exact (cpn_0 _ _).symm) (by exact (cpn_0 _ _).symm) hP hD hS (lv_sub hl [1, 2, 0] rfl)
set_option maxRecDepth 20000 in
theorem in_X3_add_X3 : ∀ w ∈ wsX30, w ∈ wsX3_add := by decide +kernel
set_option maxHeartbeats 4000000 in
set_option maxRecDepth 100000 in
/-- Trains.add -/
theorem c_X3_add (l : Launch) (D : va_G) (cI cZ : ClassId) (a : Nat → Nat) (sz : Nat) (σ : St) (b rt : Int32) (n : Nat) (hrt : rt = 0 ∨ rt = 1) (hn : σ 3 0 = nI n) (hn3 : n < 4) : MI l yX3_add wsX3_add ({ frames := 0, cells := 0, slots := 0, locals := 0 }) D (ty2 cI cZ) (wX cI cZ a) [.ref (a 3), .int b, .int rt] σ sz (fun r u => u = (va_up (va_up (va_up σ 3 (fun _ => nI (n + 1))) 4 (upd (σ 4) n b)) 5 (upd (σ 5) n rt)) ∧ r = nI n) := by
  refine MI.of (cc := cX3_add) (maxL := 4) (by decide) rfl (Nat.le_of_ble_eq_true rfl) ?_
  intro p e s m args below meth c A H locs ls hx hb hr hml hown hts hlocks hA hS hP hK hD hl
  have hl : lv_has ls 4 [(0, .ref (a 3)), (1, .int b), (2, .int rt)] := hl
  refine lv_aload_n hx hb dX3_add_0 rfl (lv_at hl 0 rfl) ?_
  refine va_get (D := D) (ci := 3) (v := .int (σ 3 0)) (C := RX3) (T := TX3) (N := 5) hx hb hts in_X3_add_X3 hown hK hP 3 rfl rfl 4 (by decide) (hts (.fieldLink RX3 25 "Warpyard$Trains" "count" "I") (by decide +kernel)) (fun _ h9 => h9) rfl dX3_add_1 ?_
  refine lv_topi (fun v_4 e_4 => ?_)
  obtain rfl : v_4 = nI n := by rw [e_4]; exact hn
  refine lv_istore_n (lv' := [(3, .int (nI n)), (0, .ref (a 3)), (1, .int b), (2, .int rt)]) hx hb dX3_add_4 rfl hl (by decide) rfl (fun ls hl => ?_)
  refine lv_aload_n hx hb dX3_add_5 rfl (lv_at hl 1 rfl) ?_
  refine va_get (D := D) (ci := 3) (v := .ref (a 4)) (C := RX3) (T := TX3) (N := 5) hx hb hts in_X3_add_X3 hown hK hP 3 rfl rfl 0 (by decide) (hts (.fieldLink RX3 9 "Warpyard$Trains" "block" "[I") (by decide +kernel)) (fun _ h9 => h9) rfl dX3_add_6 ?_
  refine lv_iload_n hx hb dX3_add_9 rfl (lv_at hl 0 rfl) ?_
  refine lv_iload_n hx hb dX3_add_10 rfl (lv_at hl 2 rfl) ?_
  refine na_iast hx hb hK hP hD hS 4 0 (f := (σ 4)) (x := b) rfl rfl n (by omega) (by decide) rfl dX3_add_11 (fun H locs hP hD hS => ?_)
  have hP : va_P D vwCl (wX cI cZ a (va_up σ 4 (upd (σ 4) n b))) H := hP
  have hD : va_D A (wX cI cZ a (va_up σ 4 (upd (σ 4) n b))) := hD
  refine lv_aload_n hx hb dX3_add_12 rfl (lv_at hl 1 rfl) ?_
  refine va_get (D := D) (ci := 3) (v := .ref (a 5)) (C := RX3) (T := TX3) (N := 5) hx hb hts in_X3_add_X3 hown hK hP 3 rfl rfl 1 (by decide) (hts (.fieldLink RX3 15 "Warpyard$Trains" "right" "[Z") (by decide +kernel)) (fun _ h9 => h9) rfl dX3_add_13 ?_
  refine lv_iload_n hx hb dX3_add_16 rfl (lv_at hl 0 rfl) ?_
  refine lv_iload_n hx hb dX3_add_17 rfl (lv_at hl 3 rfl) ?_
  refine na_zast hx hb hK hP hD hS 5 1 (f := (σ 5)) (x := rt) rfl rfl n (by omega) (by decide) rfl hrt dX3_add_18 (fun H locs hP hD hS => ?_)
  have hP : va_P D vwCl (wX cI cZ a (va_up (va_up σ 4 (upd (σ 4) n b)) 5 (upd (σ 5) n rt))) H := hP
  have hD : va_D A (wX cI cZ a (va_up (va_up σ 4 (upd (σ 4) n b)) 5 (upd (σ 5) n rt))) := hD
  refine lv_aload_n hx hb dX3_add_19 rfl (lv_at hl 1 rfl) ?_
  refine lv_dup hx hb dX3_add_20 rfl ?_
  refine va_get (D := D) (ci := 3) (v := .int (σ 3 0)) (C := RX3) (T := TX3) (N := 5) hx hb hts in_X3_add_X3 hown hK hP 3 rfl rfl 4 (by decide) (hts (.fieldLink RX3 25 "Warpyard$Trains" "count" "I") (by decide +kernel)) (fun _ h9 => h9) rfl dX3_add_21 ?_
  refine lv_topi (fun v_24 e_24 => ?_)
  obtain rfl : v_24 = nI n := by rw [e_24]; exact hn
  refine lv_iconst (v := 1) hx hb dX3_add_24 (by decide) ?_
  refine lv_iadd hx hb dX3_add_25 ?_
  refine lv_topi (fun v_26 e_26 => ?_)
  obtain rfl : v_26 = nI (n + 1) := by rw [e_26]; exact nI_1 n
  refine va_put (D := D) (ci := 3) (v := .int (nI (n + 1))) (ty := .int) (C := RX3) (T := TX3) (N := 5) hx hb hts in_X3_add_X3 tyX3 tyX3_ok nmX3 hown hK hP hD hS 3 rfl rfl 4 (by decide) (hts (.fieldLink RX3 25 "Warpyard$Trains" "count" "I") (by decide +kernel)) (fun _ h9 => h9) rfl (by decide +kernel) rfl rfl (Nat.le_of_ble_eq_true rfl) dX3_add_26 (fun H locs hP hD hS => ?_)
  have hP : va_P D vwCl (wX cI cZ a (va_up (va_up (va_up σ 3 (fun _ => nI (n + 1))) 4 (upd (σ 4) n b)) 5 (upd (σ 5) n rt))) H := hP
  have hD : va_D A (wX cI cZ a (va_up (va_up (va_up σ 3 (fun _ => nI (n + 1))) 4 (upd (σ 4) n b)) 5 (upd (σ 5) n rt))) := hD
  refine lv_iload_n hx hb dX3_add_29 rfl (lv_at hl 0 rfl) ?_
  exact MI.ret hx hb hr hlocks hK hP hD hS dX3_add_30 (by exact ⟨rfl, rfl⟩)
set_option maxRecDepth 20000 in
theorem in_X0_add_X0 : ∀ w ∈ wsX00, w ∈ wsX0_add := by decide +kernel
set_option maxHeartbeats 4000000 in
set_option maxRecDepth 100000 in
/-- Bookings.add -/
theorem c_X0_add (l : Launch) (D : va_G) (cI cZ : ClassId) (a : Nat → Nat) (sz : Nat) (σ : St) (t b fr to : Int32) (nb : Nat) (hnb : σ 13 0 = nI nb) (hnb29 : nb < 30) : MI l yX0_add wsX0_add ({ frames := 0, cells := 0, slots := 0, locals := 0 }) D (ty2 cI cZ) (wX cI cZ a) [.ref (a 13), .int t, .int b, .int fr, .int to] σ sz (fun r u => u = (va_up (va_up (va_up (va_up (va_up (va_up σ 13 (fun _ => nI (nb + 1))) 14 (upd (σ 14) nb t)) 15 (upd (σ 15) nb b)) 16 (upd (σ 16) nb fr)) 17 (upd (σ 17) nb to)) 18 (upd (σ 18) nb (-1))) ∧ r = nI nb) := by
  refine MI.of (cc := cX0_add) (maxL := 6) (by decide) rfl (Nat.le_of_ble_eq_true rfl) ?_
  intro p e s m args below meth c A H locs ls hx hb hr hml hown hts hlocks hA hS hP hK hD hl
  have hl : lv_has ls 6 [(0, .ref (a 13)), (1, .int t), (2, .int b), (3, .int fr), (4, .int to)] := hl
  refine lv_aload_n hx hb dX0_add_0 rfl (lv_at hl 0 rfl) ?_
  refine va_get (D := D) (ci := 0) (v := .int (σ 13 0)) (C := RX0) (T := TX0) (N := 6) hx hb hts in_X0_add_X0 hown hK hP 13 rfl rfl 5 (by decide) (hts (.fieldLink RX0 27 "Warpyard$Bookings" "count" "I") (by decide +kernel)) (fun _ h9 => h9) rfl dX0_add_1 ?_
  refine lv_topi (fun v_4 e_4 => ?_)
  obtain rfl : v_4 = nI nb := by rw [e_4]; exact hnb
  refine lv_istore (lv' := [(5, .int (nI nb)), (0, .ref (a 13)), (1, .int t), (2, .int b), (3, .int fr), (4, .int to)]) hx hb dX0_add_4 hl (by decide) rfl (fun ls hl => ?_)
  refine lv_aload_n hx hb dX0_add_6 rfl (lv_at hl 1 rfl) ?_
  refine va_get (D := D) (ci := 0) (v := .ref (a 14)) (C := RX0) (T := TX0) (N := 6) hx hb hts in_X0_add_X0 hown hK hP 13 rfl rfl 0 (by decide) (hts (.fieldLink RX0 9 "Warpyard$Bookings" "train" "[I") (by decide +kernel)) (fun _ h9 => h9) rfl dX0_add_7 ?_
  refine lv_iload hx hb dX0_add_10 (lv_at hl 0 rfl) ?_
  refine lv_iload_n hx hb dX0_add_12 rfl (lv_at hl 2 rfl) ?_
  refine na_iast hx hb hK hP hD hS 14 0 (f := (σ 14)) (x := t) rfl rfl nb (by omega) (by decide) rfl dX0_add_13 (fun H locs hP hD hS => ?_)
  have hP : va_P D vwCl (wX cI cZ a (va_up σ 14 (upd (σ 14) nb t))) H := hP
  have hD : va_D A (wX cI cZ a (va_up σ 14 (upd (σ 14) nb t))) := hD
  refine lv_aload_n hx hb dX0_add_14 rfl (lv_at hl 1 rfl) ?_
  refine va_get (D := D) (ci := 0) (v := .ref (a 15)) (C := RX0) (T := TX0) (N := 6) hx hb hts in_X0_add_X0 hown hK hP 13 rfl rfl 1 (by decide) (hts (.fieldLink RX0 15 "Warpyard$Bookings" "block" "[I") (by decide +kernel)) (fun _ h9 => h9) rfl dX0_add_15 ?_
  refine lv_iload hx hb dX0_add_18 (lv_at hl 0 rfl) ?_
  refine lv_iload_n hx hb dX0_add_20 rfl (lv_at hl 3 rfl) ?_
  refine na_iast hx hb hK hP hD hS 15 0 (f := (σ 15)) (x := b) rfl rfl nb (by omega) (by decide) rfl dX0_add_21 (fun H locs hP hD hS => ?_)
  have hP : va_P D vwCl (wX cI cZ a (va_up (va_up σ 14 (upd (σ 14) nb t)) 15 (upd (σ 15) nb b))) H := hP
  have hD : va_D A (wX cI cZ a (va_up (va_up σ 14 (upd (σ 14) nb t)) 15 (upd (σ 15) nb b))) := hD
  refine lv_aload_n hx hb dX0_add_22 rfl (lv_at hl 1 rfl) ?_
  refine va_get (D := D) (ci := 0) (v := .ref (a 16)) (C := RX0) (T := TX0) (N := 6) hx hb hts in_X0_add_X0 hown hK hP 13 rfl rfl 2 (by decide) (hts (.fieldLink RX0 18 "Warpyard$Bookings" "first" "[I") (by decide +kernel)) (fun _ h9 => h9) rfl dX0_add_23 ?_
  refine lv_iload hx hb dX0_add_26 (lv_at hl 0 rfl) ?_
  refine lv_iload_n hx hb dX0_add_28 rfl (lv_at hl 4 rfl) ?_
  refine na_iast hx hb hK hP hD hS 16 0 (f := (σ 16)) (x := fr) rfl rfl nb (by omega) (by decide) rfl dX0_add_29 (fun H locs hP hD hS => ?_)
  have hP : va_P D vwCl (wX cI cZ a (va_up (va_up (va_up σ 14 (upd (σ 14) nb t)) 15 (upd (σ 15) nb b)) 16 (upd (σ 16) nb fr))) H := hP
  have hD : va_D A (wX cI cZ a (va_up (va_up (va_up σ 14 (upd (σ 14) nb t)) 15 (upd (σ 15) nb b)) 16 (upd (σ 16) nb fr))) := hD
  refine lv_aload_n hx hb dX0_add_30 rfl (lv_at hl 1 rfl) ?_
  refine va_get (D := D) (ci := 0) (v := .ref (a 17)) (C := RX0) (T := TX0) (N := 6) hx hb hts in_X0_add_X0 hown hK hP 13 rfl rfl 3 (by decide) (hts (.fieldLink RX0 21 "Warpyard$Bookings" "last" "[I") (by decide +kernel)) (fun _ h9 => h9) rfl dX0_add_31 ?_
  refine lv_iload hx hb dX0_add_34 (lv_at hl 0 rfl) ?_
  refine lv_iload hx hb dX0_add_36 (lv_at hl 5 rfl) ?_
  refine na_iast hx hb hK hP hD hS 17 0 (f := (σ 17)) (x := to) rfl rfl nb (by omega) (by decide) rfl dX0_add_38 (fun H locs hP hD hS => ?_)
  have hP : va_P D vwCl (wX cI cZ a (va_up (va_up (va_up (va_up σ 14 (upd (σ 14) nb t)) 15 (upd (σ 15) nb b)) 16 (upd (σ 16) nb fr)) 17 (upd (σ 17) nb to))) H := hP
  have hD : va_D A (wX cI cZ a (va_up (va_up (va_up (va_up σ 14 (upd (σ 14) nb t)) 15 (upd (σ 15) nb b)) 16 (upd (σ 16) nb fr)) 17 (upd (σ 17) nb to))) := hD
  refine lv_aload_n hx hb dX0_add_39 rfl (lv_at hl 1 rfl) ?_
  refine va_get (D := D) (ci := 0) (v := .ref (a 18)) (C := RX0) (T := TX0) (N := 6) hx hb hts in_X0_add_X0 hown hK hP 13 rfl rfl 4 (by decide) (hts (.fieldLink RX0 24 "Warpyard$Bookings" "lateness" "[I") (by decide +kernel)) (fun _ h9 => h9) rfl dX0_add_40 ?_
  refine lv_iload hx hb dX0_add_43 (lv_at hl 0 rfl) ?_
  refine lv_iconst (v := (-1)) hx hb dX0_add_45 (by decide) ?_
  refine na_iast hx hb hK hP hD hS 18 0 (f := (σ 18)) (x := (-1)) rfl rfl nb (by omega) (by decide) rfl dX0_add_46 (fun H locs hP hD hS => ?_)
  have hP : va_P D vwCl (wX cI cZ a (va_up (va_up (va_up (va_up (va_up σ 14 (upd (σ 14) nb t)) 15 (upd (σ 15) nb b)) 16 (upd (σ 16) nb fr)) 17 (upd (σ 17) nb to)) 18 (upd (σ 18) nb (-1)))) H := hP
  have hD : va_D A (wX cI cZ a (va_up (va_up (va_up (va_up (va_up σ 14 (upd (σ 14) nb t)) 15 (upd (σ 15) nb b)) 16 (upd (σ 16) nb fr)) 17 (upd (σ 17) nb to)) 18 (upd (σ 18) nb (-1)))) := hD
  refine lv_aload_n hx hb dX0_add_47 rfl (lv_at hl 1 rfl) ?_
  refine lv_dup hx hb dX0_add_48 rfl ?_
  refine va_get (D := D) (ci := 0) (v := .int (σ 13 0)) (C := RX0) (T := TX0) (N := 6) hx hb hts in_X0_add_X0 hown hK hP 13 rfl rfl 5 (by decide) (hts (.fieldLink RX0 27 "Warpyard$Bookings" "count" "I") (by decide +kernel)) (fun _ h9 => h9) rfl dX0_add_49 ?_
  refine lv_topi (fun v_52 e_52 => ?_)
  obtain rfl : v_52 = nI nb := by rw [e_52]; exact hnb
  refine lv_iconst (v := 1) hx hb dX0_add_52 (by decide) ?_
  refine lv_iadd hx hb dX0_add_53 ?_
  refine lv_topi (fun v_54 e_54 => ?_)
  obtain rfl : v_54 = nI (nb + 1) := by rw [e_54]; exact nI_1 nb
  refine va_put (D := D) (ci := 0) (v := .int (nI (nb + 1))) (ty := .int) (C := RX0) (T := TX0) (N := 6) hx hb hts in_X0_add_X0 tyX0 tyX0_ok nmX0 hown hK hP hD hS 13 rfl rfl 5 (by decide) (hts (.fieldLink RX0 27 "Warpyard$Bookings" "count" "I") (by decide +kernel)) (fun _ h9 => h9) rfl (by decide +kernel) rfl rfl (Nat.le_of_ble_eq_true rfl) dX0_add_54 (fun H locs hP hD hS => ?_)
  have hP : va_P D vwCl (wX cI cZ a (va_up (va_up (va_up (va_up (va_up (va_up σ 13 (fun _ => nI (nb + 1))) 14 (upd (σ 14) nb t)) 15 (upd (σ 15) nb b)) 16 (upd (σ 16) nb fr)) 17 (upd (σ 17) nb to)) 18 (upd (σ 18) nb (-1)))) H := hP
  have hD : va_D A (wX cI cZ a (va_up (va_up (va_up (va_up (va_up (va_up σ 13 (fun _ => nI (nb + 1))) 14 (upd (σ 14) nb t)) 15 (upd (σ 15) nb b)) 16 (upd (σ 16) nb fr)) 17 (upd (σ 17) nb to)) 18 (upd (σ 18) nb (-1)))) := hD
  refine lv_iload hx hb dX0_add_57 (lv_at hl 0 rfl) ?_
  exact MI.ret hx hb hr hlocks hK hP hD hS dX0_add_59 (by exact ⟨rfl, rfl⟩)
end
