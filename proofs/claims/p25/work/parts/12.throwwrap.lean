/-! contracts of methods that return or throw, over a world that a state makes; what a throw needs of the tables and of Throwable's statics -/
abbrev xnames : List String := ["java/lang/RuntimeException", "java/lang/Exception"]
abbrev eIO : String := "java/lang/IndexOutOfBoundsException"
abbrev eIA : String := "java/lang/IllegalArgumentException"
abbrev eIS : String := "java/lang/IllegalStateException"
def EVw : List Cond := [.castable eIO eIO, .castable eIA eIA, .castable eIS eIS, .declares (Bundle.initS "java/lang/RuntimeException"), .declares (Bundle.initS "java/lang/Exception"), .declares (Bundle.initS Bundle.tN)]
def EVs : List (Nat × String) := [(57, "there are 4 trains"), (66, "a train stands on that block"), (88, "the delay would be above 1000"), (97, "no such switch"), (112, "the clock would be above 5000"), (131, "there are 30 bookings"), (156, "weight is out of range"), (159, "there are 8 waggons"), (170, "no such waggon"), (172, "minute is out of range"), (174, "price is out of range"), (189, "there is no waggon in the siding"), (197, "all would weigh too much"), (203, "the train has no waggon"), (215, "no such siding or train"), (217, "place is below 0"), (225, "no such train"), (227, "no such booking"), (229, "no such block"), (231, "no such siding"), (233, "minutes is out of range"), (235, "first is out of range"), (237, "last is out of range"), (242, "there are 4 waggons in the siding"), (244, "the train stands on no siding")]
def EVn : List (String × String) := [(eIA, eIO), (eIS, eIO), (eIS, eIA), (eIO, eIA), (eIO, eIS), (eIA, eIS)]
/-- what the tables say, of what a throw needs, that no list of words carries -/
def EV (U : State) : Prop := (∀ w ∈ EVw, va_Nw w U) ∧ (∀ q ∈ EVs, ∃ sa : Nat, vk_R RX5 q.1 q.2 sa U) ∧ ∀ q ∈ EVn, va_Nc q.1 q.2 U
theorem EV.tab {s : State} : ∀ w ∈ EVw, w.onTables = true := by decide +kernel
theorem EV.warm {s U : State} (hW : s.WarmedH U.vm) (h : EV s) : EV U := by
  refine ⟨?_, fun q hq => ?_, fun q hq => va_Nc.moved hW.alike (h.2.2 q hq)⟩
  · have h1 := h.1
    simp only [EVw, List.forall_mem_cons] at h1 ⊢
    obtain ⟨a1, a2, a3, a4, a5, a6, -⟩ := h1
    exact ⟨va_Nw.warmC hW a1, va_Nw.warmC hW a2, va_Nw.warmC hW a3, va_Nw.warmD hW a4, va_Nw.warmD hW a5, va_Nw.warmD hW a6, fun _ h => absurd h List.not_mem_nil⟩
  · obtain ⟨sa, hs⟩ := h.2.1 q hq
    exact ⟨sa, vk_R.warm hW hs⟩
theorem EV.calling {U : State} {g : JFrame} {mk : MethodId} {a : Array Value} (h : EV U) : EV (U.calling g mk a) :=
  ⟨fun w hw => va_Nw.same (EV.tab (s := U) w hw) (u := U) (U := U.calling g mk a) rfl (h.1 w hw), fun q hq => (h.2.1 q hq).imp fun sa hs => vk_R.same (u := U) (U := U.calling g mk a) rfl hs, fun q hq => va_Nc.moved (u := U) (U := U.calling g mk a) (Vm.Alike.refl U.vm) (h.2.2 q hq)⟩
theorem EV.moved {s U : State} (hW : s.WarmedH U.vm) (h : EV s) : EV U := EV.warm hW h
/-- Throwable's two statics lie outside A -/
def SZ (A : Nat → Prop) (U : State) (H : Heap) : Prop := vx_Zq Bundle.tN "UNASSIGNED_STACK" Bundle.steD A U H ∧ vx_Zq Bundle.tN "SUPPRESSED_SENTINEL" Bundle.listD A U H
theorem SZ.moved {A : Nat → Prop} {u U : State} {H : Heap} (hvm : u.vm.Alike U.vm) (h : SZ A u H) : SZ A U H := ⟨vx_Zq.moved hvm h.1, vx_Zq.moved hvm h.2⟩
theorem SZ.kept {A : Nat → Prop} {U : State} {H H1 : Heap} (h : SZ A U H) (hq : ∀ a : Nat, a < H.size → ¬ A a → H1[a]? = H[a]?) : SZ A U H1 := ⟨h.1.kept hq, h.2.kept hq⟩
theorem SZ.narrow {A B : Nat → Prop} {U : State} {H : Heap} (h : SZ A U H) (hAB : ∀ q, B q → A q) : SZ B U H := ⟨h.1.narrow hAB, h.2.narrow hAB⟩
theorem SZ.calling {A : Nat → Prop} {U : State} {H : Heap} {g : JFrame} {mk : MethodId} {a : Array Value} (h : SZ A U H) : SZ A (U.calling g mk a) H := SZ.moved (u := U) (U := U.calling g mk a) (Vm.Alike.refl U.vm) h
section XR
variable {S : Type} {l : Launch} {y : MethodName} {wsy ws' : List Cond} {rm : Room} {D : va_G} {tys : List (ClassId × FieldType)} {wf : S → va_W} {av : List Value} {σ u : S} {sz : Nat} {cc : ByteArray} {maxL : Nat} {ty : FieldType}
def PX (D : va_G) (tys : List (ClassId × FieldType)) (wf : S → va_W) (σ : S) (sz : Nat) (U : State) : Prop := PR D tys wf σ sz U ∧ EV U ∧ SZ (va_A (wf σ) sz) U U.heap
def XX (D : va_G) (tys : List (ClassId × FieldType)) (wf : S → va_W) (σ : S) (A : Nat → Prop) (sz : Nat) (px : String → Prop) : String → State → State → Prop := vx_X (fun _ : Unit => True) (fun E _ t => (px E ∧ PO D tys wf A σ t) ∧ sz < t.heap.size) A
/-- a method that answers an int (a boolean), or throws with nothing changed -/
def XI (l : Launch) (y : MethodName) (wsy : List Cond) (rm : Room) (D : va_G) (tys : List (ClassId × FieldType)) (wf : S → va_W) (av : List Value) (σ : S) (sz : Nat) (post : Int32 → S → Prop) (px : String → Prop) : Prop :=
  vx_Met l y wsy rm (va_Pc av (PX D tys wf σ sz)) (va_Qi post (PO D tys wf (va_A (wf σ) sz)) (va_A (wf σ) sz)) (XX D tys wf σ (va_A (wf σ) sz) sz px) 1 6 (va_A (wf σ) sz)
def XV (l : Launch) (y : MethodName) (wsy : List Cond) (rm : Room) (D : va_G) (tys : List (ClassId × FieldType)) (wf : S → va_W) (av : List Value) (σ : S) (sz : Nat) (post : S → Prop) (px : String → Prop) : Prop :=
  vx_Met l y wsy rm (va_Pc av (PX D tys wf σ sz)) (va_Qv post (PO D tys wf (va_A (wf σ) sz)) (va_A (wf σ) sz)) (XX D tys wf σ (va_A (wf σ) sz) sz px) 1 6 (va_A (wf σ) sz)
theorem PX.calling {U : State} {g : JFrame} {mk : MethodId} {a : Array Value} (h : PX D tys wf σ sz U) : PX D tys wf σ sz (U.calling g mk a) := ⟨h.1.calling, h.2.1.calling, h.2.2.calling⟩
theorem PX.at {s U : State} {H : Heap} {locs : List Loc} {A : Nat → Prop} (hP : va_P D vwCl (wf σ) H) (hK : va_K D vwCl tys s) (hD : va_D A (wf σ)) (hS : va_S A s.heap H locs) (hA : ∀ q : Nat, s.heap.size ≤ q → A q) (hEV : EV s) (hZ : SZ A s s.heap) (hU : U.heap = H) (hW : s.WarmedH U.vm) : PX D tys wf σ H.size U :=
  ⟨PR.at hP hK hD hU hW, hEV.warm hW, by rw [hU]; exact SZ.moved hW.alike ((hZ.kept hS.2.1).narrow (free_self hD hS hA))⟩
theorem XI.of {post : Int32 → S → Prop} {px : String → Prop} (hy : plainName y.cls = true) (hw : wsy = Cond.code y cc maxL (some ty) :: ws') (hav : (lg_sl av).length ≤ maxL)
    (body : ∀ (p : Program) (e : Env) (s : State) (m : MethodId) (args : Array Value) (below : List Frame) (meth : Method) (c : Code) (A : Nat → Prop) (H : Heap) (locs : List Loc) (ls : Array Slot), p.tables.exec = Jvm.exec → c.code = cc → meth.sig.returnType = some ty → c.maxLocals = maxL → s.vm.findClass y.cls = some m.cls → (∀ w ∈ wsy, w.before args s = true) → meth.locks = false → (∀ x ∈ c.exceptionTable.toList, False) → EV s → SZ A s s.heap → (∀ q : Nat, s.heap.size ≤ q → A q) → va_S A s.heap H locs → va_P D vwCl (wf σ) H → va_K D vwCl tys s → va_D A (wf σ) → lv_has ls maxL (lv_args 0 av) →
      W p l e rm s m args below meth c H locs 0 0 (vx_MQ below (va_Qi post (PO D tys wf A) A) (XX D tys wf σ A s.heap.size px) args s 1 6 A) (F0 m 0 ls [])) : XI l y wsy rm D tys wf av σ sz post px := by
  refine vx_ofW (cc := cc) (maxL := maxL) (ret := some ty) hy hw ?_
  intro p e s m args below meth c s₁ B hml hexc hv
  obtain ⟨rfl, ⟨hsz, hP, hK, hD0⟩, hEV, hZ⟩ := hv
  have hts := atoms_spec (ws := wsy) B.pre
  subst hsz
  have hD := hD0.self (sz := s.heap.size)
  generalize hAe : va_A (wf σ) s.heap.size = A at hD hZ ⊢
  have hA : ∀ q : Nat, s.heap.size ≤ q → A q := fun q h => by rw [← hAe]; exact Or.inr h
  rw [lg_entry_eq]
  exact body p e s m _ below meth c A _ _ _ B.exec B.bytes B.returns hml (findClass_of_methodNamed B.named) hts B.notSynchronized hexc hEV hZ hA va_S.rf hP hK hD (lv_entry av hav)
theorem XV.of {post : S → Prop} {px : String → Prop} (hy : plainName y.cls = true) (hw : wsy = Cond.code y cc maxL none :: ws') (hav : (lg_sl av).length ≤ maxL)
    (body : ∀ (p : Program) (e : Env) (s : State) (m : MethodId) (args : Array Value) (below : List Frame) (meth : Method) (c : Code) (A : Nat → Prop) (H : Heap) (locs : List Loc) (ls : Array Slot), p.tables.exec = Jvm.exec → c.code = cc → meth.sig.returnType = none → c.maxLocals = maxL → s.vm.findClass y.cls = some m.cls → (∀ w ∈ wsy, w.before args s = true) → meth.locks = false → (∀ x ∈ c.exceptionTable.toList, False) → EV s → SZ A s s.heap → (∀ q : Nat, s.heap.size ≤ q → A q) → va_S A s.heap H locs → va_P D vwCl (wf σ) H → va_K D vwCl tys s → va_D A (wf σ) → lv_has ls maxL (lv_args 0 av) →
      W p l e rm s m args below meth c H locs 0 0 (vx_MQ below (va_Qv post (PO D tys wf A) A) (XX D tys wf σ A s.heap.size px) args s 1 6 A) (F0 m 0 ls [])) : XV l y wsy rm D tys wf av σ sz post px := by
  refine vx_ofW (cc := cc) (maxL := maxL) (ret := none) hy hw ?_
  intro p e s m args below meth c s₁ B hml hexc hv
  obtain ⟨rfl, ⟨hsz, hP, hK, hD0⟩, hEV, hZ⟩ := hv
  have hts := atoms_spec (ws := wsy) B.pre
  subst hsz
  have hD := hD0.self (sz := s.heap.size)
  generalize hAe : va_A (wf σ) s.heap.size = A at hD hZ ⊢
  have hA : ∀ q : Nat, s.heap.size ≤ q → A q := fun q h => by rw [← hAe]; exact Or.inr h
  rw [lg_entry_eq]
  exact body p e s m _ below meth c A _ _ _ B.exec B.bytes B.returns hml (findClass_of_methodNamed B.named) hts B.notSynchronized hexc hEV hZ hA va_S.rf hP hK hD (lv_entry av hav)
section XRET
variable {p : Program} {e : Env} {R : Room} {s : State} {m : MethodId} {args : Array Value} {below : List Frame} {meth : Method} {c : Code} {H : Heap} {locs : List Loc} {A : Nat → Prop} {pc : Nat} {ls : Array Slot} {v : Int32} {XC : String → State → State → Prop}
theorem XI.ret {post : Int32 → S → Prop} (hx : p.tables.exec = Jvm.exec) (hb : c.code = cc) (hr : meth.sig.returnType = some .int) (hlocks : meth.locks = false) (hK : va_K D vwCl tys s) (hP : va_P D vwCl (wf u) H) (hD : va_D A (wf u)) (hS : va_S A s.heap H locs) (hdg : decode cc pc = .ok (.ireturn, 1)) (hp : post v u) : W p l e R s m args below meth c H locs 0 0 (vx_MQ below (va_Qi post (PO D tys wf A) A) XC args s 1 6 A) (F0 m pc ls [.int v]) :=
  W.widen (Nat.zero_le 1) (Nat.zero_le 6) (vx_ret (W.iret hx hb hr (fun t ht hW => ⟨⟨v, u, rfl, hp, by rw [ht]; exact hP, va_K.moved hW.alike hK, hD⟩, hS.F ht⟩) hS.2.2 hdg hlocks))
theorem XI.zret {post : Int32 → S → Prop} (hx : p.tables.exec = Jvm.exec) (hb : c.code = cc) (hr : meth.sig.returnType = some .boolean) (hlocks : meth.locks = false) (hK : va_K D vwCl tys s) (hP : va_P D vwCl (wf u) H) (hD : va_D A (wf u)) (hS : va_S A s.heap H locs) (hdg : decode cc pc = .ok (.ireturn, 1)) (hn : narrow .boolean (.int v) = .int v) (hp : post v u) : W p l e R s m args below meth c H locs 0 0 (vx_MQ below (va_Qi post (PO D tys wf A) A) XC args s 1 6 A) (F0 m pc ls [.int v]) :=
  W.widen (Nat.zero_le 1) (Nat.zero_le 6) (vx_ret (W.zret hx hb hr hn (fun t ht hW => ⟨⟨v, u, rfl, hp, by rw [ht]; exact hP, va_K.moved hW.alike hK, hD⟩, hS.F ht⟩) hS.2.2 hdg hlocks))
theorem XV.ret {post : S → Prop} (hx : p.tables.exec = Jvm.exec) (hb : c.code = cc) (hr : meth.sig.returnType = none) (hlocks : meth.locks = false) (hK : va_K D vwCl tys s) (hP : va_P D vwCl (wf u) H) (hD : va_D A (wf u)) (hS : va_S A s.heap H locs) (hdg : decode cc pc = .ok (.return_, 1)) (hp : post u) : W p l e R s m args below meth c H locs 0 0 (vx_MQ below (va_Qv post (PO D tys wf A) A) XC args s 1 6 A) (F0 m pc ls []) :=
  W.widen (Nat.zero_le 1) (Nat.zero_le 6) (vx_ret (W.vret hx hb hr (fun t ht hW => ⟨⟨u, rfl, hp, by rw [ht]; exact hP, va_K.moved hW.alike hK, hD⟩, hS.F ht⟩) hS.2.2 hdg hlocks))
end XRET
section XCALL
variable {p : Program} {e : Env} {R : Room} {s : State} {m : MethodId} {args : Array Value} {below : List Frame} {meth : Method} {c : Code} {H : Heap} {locs : List Loc} {A : Nat → Prop} {pc nL n index : Nat} {ls : Array Slot} {st0 rest As : List Value} {Ts : List Cond} {own C : String} {b : Addr} {bytes : ByteArray} {maxLy : Nat} {rety : Option FieldType} {Qc : Array Value → State → Outcome → State → Prop}
/-- a throw of the method's own -/
theorem X.throwS {text : String} {names : List String} {ik is ic : Nat} {cls : String} {px : String → Prop} (hexec : p.tables.exec = Jvm.exec) (hb : c.code = cc) (hl : l.stackTraces = false)
    (hown : s.vm.findClass RX5 = some m.cls) (hcls : Bundle.fit cls = true) (hnames : ∀ n ∈ names, Bundle.fit n = true)
    (hk : (Cond.classLink RX5 ik cls).before args s = true) (hini : (Cond.initialized cls).before args s = true) (hstr : (is, text) ∈ EVs) (hat : ∀ w ∈ vx_atS RX5 ic cls names, w.before args s = true)
    (hgood : ∀ w ∈ Cond.classLink RX5 ik cls :: Cond.initialized cls :: vx_atS RX5 ic cls names, vx_ot w = true)
    (hEV : EV s) (hZ : SZ A s s.heap) (hK : va_K D vwCl tys s) (hP : va_P D vwCl (wf σ) H) (hD : va_D A (wf σ)) (hS : va_S A s.heap H locs) (hsize : ls.size = c.maxLocals)
    (d0 : decode cc pc = .ok (.new ik, 3)) (d3 : decode cc (pc + 3) = .ok (.dup, 1)) (d4 : decode cc (pc + 4) = .ok (.ldc is, 2)) (d6 : decode cc (pc + 6) = .ok (.invokespecial ic, 3)) (d9 : decode cc (pc + 9) = .ok (.athrow, 1))
    (hexc : ∀ x ∈ c.exceptionTable.toList, False)
    (hRframes : names.length + 3 < R.frames) (hRlocals : (rest.map fun v => v.category).sum + (13 * (names.length + 1) + 43) ≤ R.locals) (hRc : 1 ≤ R.cells) (hRs : 6 ≤ R.slots) (hlocks : meth.locks = false)
    (hpx : px cls) : W p l e R s m args below meth c H locs 0 0 (vx_MQ below Qc (XX D tys wf σ A s.heap.size px) args s 1 6 A) (F0 m pc ls rest) := by
  obtain ⟨sa, hsa⟩ := hEV.2.1 _ hstr
  refine vx_throwS hexec hb hl hown hcls hnames hk hini hsa hat hgood hZ.1 hZ.2 hS hsize d0 d3 d4 d6 d9 (fun x hx => (hexc x hx).elim) hRframes hRlocals (by omega) (by omega) hlocks (fun t ht hz hk1 => ?_) hS.2.2 (Nat.le_refl _) (Nat.le_refl _)
  have hk2 : ∀ (k : Nat) (q : Nat × va_E), (wf σ)[k]? = some q → t.heap[q.1]? = H[q.1]? := fun k q hq => hk1 q.1 (hP k q hq).lt
  exact ⟨(), trivial, ⟨⟨hpx, hP.kept hk2, va_K.moved ht hK, hD⟩, Nat.lt_of_le_of_lt hS.1 hz⟩, ⟨Nat.le_trans hS.1 (Nat.le_of_lt hz), fun q h1 h2 => (hk1 q (Nat.lt_of_lt_of_le h1 hS.1)).trans (hS.2.1 q h1 h2)⟩⟩
/-- a call that throws for certain; the exception leaves the caller too -/
theorem XV.outV {px px' : String → Prop} (F : CallFix p m c cc nL s args Ts own) (hM : XV l y wsy rm D tys wf (.ref b :: As) σ H.size (fun _ => False) px') (cw : CallW R s args own C index y bytes maxLy rety wsy rm 1 6 n)
    (hP : va_P D vwCl (wf σ) H) (hK : va_K D vwCl tys s) (hD : va_D A (wf σ)) (hS : va_S A s.heap H locs) (hA : ∀ q : Nat, s.heap.size ≤ q → A q) (hEV : EV s) (hZ : SZ A s s.heap)
    (hrecv : ∃ cell : Cell, H[b]? = some cell ∧ cell.vm.isStatics = false ∧ s.vm.findClass C = some cell.cls) (hn : As.length = n) (hsize : ls.size = nL) (hW : (rest.map fun v => v.category).sum ≤ 8) (hRc : 1 ≤ R.cells) (hRs : 6 ≤ R.slots)
    (hdg : decode cc pc = .ok (.invokevirtual index, 3)) (hst : st0 = As.reverse ++ .ref b :: rest) (hlocks : meth.locks = false) (hexc : ∀ x ∈ c.exceptionTable.toList, False) (hpx : ∀ E, px' E → px E) :
    W p l e R s m args below meth c H locs 0 0 (vx_MQ below Qc (XX D tys wf σ A s.heap.size px) args s 1 6 A) (F0 m pc ls st0) := by
  subst hst
  have hF := free_self hD hS hA
  refine vx_callv (vx_runV (As := As) (rest := rest) F hM cw ⟨fun a U g mk q => ⟨q.1, q.2.calling⟩, hrecv, fun U hU hW => ⟨rfl, PX.at hP hK hD hS hA hEV hZ hU hW⟩⟩ rfl hn hsize rfl (lv_room hW) hdg ⟨by omega, by omega⟩) hS (fun q _ h => hF q h) hF (fun q _ h => hF q h) ?_ (fun u t H1 locs1 ht hvm hw _ _ _ _ => hw.elim)
  intro E ce q9 u t H1 locs1 ht hvm _ hB hz1 hk1 hS1 hce hcv hcl
  obtain ⟨⟨hE, hP1, hK1, hD1⟩, hg9⟩ := hB
  rw [ht] at hP1
  exact vx_out (fun x hx => (hexc x hx).elim) hlocks hce hcv hcl (fun t1 ht1 hW1 => ⟨(), trivial, ⟨⟨hpx E hE, by rw [ht1]; exact hP1, va_K.moved hW1 hK, hD⟩, by rw [ht1, ← ht]; exact Nat.lt_of_le_of_lt hS.1 hg9⟩, hS1.F ht1⟩) hS1.2.2 (Nat.le_refl _) (Nat.le_refl _)
theorem XV.outS {px px' : String → Prop} (F : CallFix p m c cc nL s args Ts own) (hM : XV l y wsy rm D tys wf As σ H.size (fun _ => False) px') (cw : CallB R s args own index y bytes maxLy rety wsy rm 1 6 n ∧ (Cond.static y).before args s = true)
    (hP : va_P D vwCl (wf σ) H) (hK : va_K D vwCl tys s) (hD : va_D A (wf σ)) (hS : va_S A s.heap H locs) (hA : ∀ q : Nat, s.heap.size ≤ q → A q) (hEV : EV s) (hZ : SZ A s s.heap)
    (hn : As.length = n) (hsize : ls.size = nL) (hW : (rest.map fun v => v.category).sum ≤ 8) (hRc : 1 ≤ R.cells) (hRs : 6 ≤ R.slots)
    (hdg : decode cc pc = .ok (.invokestatic index, 3)) (hst : st0 = As.reverse ++ rest) (hlocks : meth.locks = false) (hexc : ∀ x ∈ c.exceptionTable.toList, False) (hpx : ∀ E, px' E → px E) :
    W p l e R s m args below meth c H locs 0 0 (vx_MQ below Qc (XX D tys wf σ A s.heap.size px) args s 1 6 A) (F0 m pc ls st0) := by
  subst hst
  have hF := free_self hD hS hA
  refine vx_callv (vx_runS (As := As) (rest := rest) F hM cw ⟨fun a U g mk q => ⟨q.1, q.2.calling⟩, fun U hU hW => ⟨rfl, PX.at hP hK hD hS hA hEV hZ hU hW⟩⟩ rfl hn hsize rfl (lv_room hW) hdg ⟨by omega, by omega⟩) hS (fun q _ h => hF q h) hF (fun q _ h => hF q h) ?_ (fun u t H1 locs1 ht hvm hw _ _ _ _ => hw.elim)
  intro E ce q9 u t H1 locs1 ht hvm _ hB hz1 hk1 hS1 hce hcv hcl
  obtain ⟨⟨hE, hP1, hK1, hD1⟩, hg9⟩ := hB
  rw [ht] at hP1
  exact vx_out (fun x hx => (hexc x hx).elim) hlocks hce hcv hcl (fun t1 ht1 hW1 => ⟨(), trivial, ⟨⟨hpx E hE, by rw [ht1]; exact hP1, va_K.moved hW1 hK, hD⟩, by rw [ht1, ← ht]; exact Nat.lt_of_le_of_lt hS.1 hg9⟩, hS1.F ht1⟩) hS1.2.2 (Nat.le_refl _) (Nat.le_refl _)
theorem XI.outV {px px' : String → Prop} (F : CallFix p m c cc nL s args Ts own) (hM : XI l y wsy rm D tys wf (.ref b :: As) σ H.size (fun _ _ => False) px') (cw : CallW R s args own C index y bytes maxLy rety wsy rm 1 6 n)
    (hP : va_P D vwCl (wf σ) H) (hK : va_K D vwCl tys s) (hD : va_D A (wf σ)) (hS : va_S A s.heap H locs) (hA : ∀ q : Nat, s.heap.size ≤ q → A q) (hEV : EV s) (hZ : SZ A s s.heap)
    (hrecv : ∃ cell : Cell, H[b]? = some cell ∧ cell.vm.isStatics = false ∧ s.vm.findClass C = some cell.cls) (hn : As.length = n) (hsize : ls.size = nL) (hW : (rest.map fun v => v.category).sum ≤ 8) (hRc : 1 ≤ R.cells) (hRs : 6 ≤ R.slots)
    (hdg : decode cc pc = .ok (.invokevirtual index, 3)) (hst : st0 = As.reverse ++ .ref b :: rest) (hlocks : meth.locks = false) (hexc : ∀ x ∈ c.exceptionTable.toList, False) (hpx : ∀ E, px' E → px E) :
    W p l e R s m args below meth c H locs 0 0 (vx_MQ below Qc (XX D tys wf σ A s.heap.size px) args s 1 6 A) (F0 m pc ls st0) := by
  subst hst
  have hF := free_self hD hS hA
  refine vx_calli (vx_runV (As := As) (rest := rest) F hM cw ⟨fun a U g mk q => ⟨q.1, q.2.calling⟩, hrecv, fun U hU hW => ⟨rfl, PX.at hP hK hD hS hA hEV hZ hU hW⟩⟩ rfl hn hsize rfl (lv_room hW) hdg ⟨by omega, by omega⟩) hS (fun q _ h => hF q h) hF (fun q _ h => hF q h) ?_ (fun r u t H1 locs1 ht hvm hw _ _ _ _ => hw.elim)
  intro E ce q9 u t H1 locs1 ht hvm _ hB hz1 hk1 hS1 hce hcv hcl
  obtain ⟨⟨hE, hP1, hK1, hD1⟩, hg9⟩ := hB
  rw [ht] at hP1
  exact vx_out (fun x hx => (hexc x hx).elim) hlocks hce hcv hcl (fun t1 ht1 hW1 => ⟨(), trivial, ⟨⟨hpx E hE, by rw [ht1]; exact hP1, va_K.moved hW1 hK, hD⟩, by rw [ht1, ← ht]; exact Nat.lt_of_le_of_lt hS.1 hg9⟩, hS1.F ht1⟩) hS1.2.2 (Nat.le_refl _) (Nat.le_refl _)
end XCALL
end XR
