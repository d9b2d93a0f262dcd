/-! the law's helpers over fresh yards: what each answers, and how many cells it makes at least -/
abbrev z0 : St := fun _ _ => 0
theorem tr0 (t : Int32) : ¬ tr 0 t := fun ⟨_, h, _⟩ => absurd h (Nat.not_lt_zero _)
section GW
variable {S : Type} {l : Launch} {y : MethodName} {wsy ws' : List Cond} {rm : Room} {D : va_G} {tys : List (ClassId × FieldType)} {wf : S → va_W} {av : List Value} {σ u : S} {sz g mc ms : Nat} {cc : ByteArray} {maxL : Nat} {ty : FieldType} {hh : List (Nat × Nat × Nat × Nat)}
def PG (D : va_G) (tys : List (ClassId × FieldType)) (wf : S → va_W) (A : Nat → Prop) (n : Nat) (u : S) (t : State) : Prop := PO D tys wf A u t ∧ n ≤ t.heap.size
/-- a method of the law: it returns; at least g cells are new, at most mc -/
def MG (l : Launch) (y : MethodName) (wsy : List Cond) (rm : Room) (D : va_G) (tys : List (ClassId × FieldType)) (wf : S → va_W) (av : List Value) (σ : S) (sz : Nat) (post : Int32 → S → Prop) (g mc ms : Nat) : Prop :=
  Met l y wsy rm (va_Pc av (PX D tys wf σ sz)) (va_Qi post (PG D tys wf (va_A (wf σ) sz) (sz + g)) (va_A (wf σ) sz)) mc ms (va_A (wf σ) sz)
theorem MG.of {post : Int32 → S → Prop} (hy : plainName y.cls = true) (hw : wsy = Cond.code y cc maxL (some ty) :: ws') (hav : (lg_sl av).length ≤ maxL)
    (body : ∀ (p : Program) (e : Env) (s : State) (m : MethodId) (args : Array Value) (below : List Frame) (meth : Method) (c : Code) (A : Nat → Prop) (H : Heap) (locs : List Loc) (ls : Array Slot), p.tables.exec = Jvm.exec → c.code = cc → meth.sig.returnType = some ty → c.maxLocals = maxL → s.vm.findClass y.cls = some m.cls → (∀ w ∈ wsy, w.before args s = true) → meth.locks = false → EV s → SZ A s s.heap → (∀ q : Nat, s.heap.size ≤ q → A q) → va_S A s.heap H locs → va_P D vwCl (wf σ) H → va_K D vwCl tys s → va_D A (wf σ) → lv_has ls maxL (lv_args 0 av) →
      W p l e rm s m args below meth c H locs 0 0 (MQ below (va_Qi post (PG D tys wf A (s.heap.size + g)) A) args s mc ms A) (F0 m 0 ls [])) : MG l y wsy rm D tys wf av σ sz post g mc ms := by
  refine Met.ofW (cc := cc) (maxL := maxL) (ret := some ty) hy hw ?_
  intro p e s m args below meth c s₁ B hml hv
  obtain ⟨rfl, ⟨hsz, hP, hK, hD0⟩, hEV, hZ⟩ := hv
  have hts := atoms_spec (ws := wsy) B.pre
  subst hsz
  have hD := hD0.self (sz := s.heap.size)
  generalize hAe : va_A (wf σ) s.heap.size = A at hD hZ ⊢
  have hA : ∀ q : Nat, s.heap.size ≤ q → A q := fun q h => by rw [← hAe]; exact Or.inr h
  rw [lg_entry_eq]
  exact body p e s m _ below meth c A _ _ _ B.exec B.bytes B.returns hml (findClass_of_methodNamed B.named) hts B.notSynchronized hEV hZ hA va_S.rf hP hK hD (lv_entry av hav)
theorem MG.ofH {post : Int32 → S → Prop} (hy : plainName y.cls = true) (hw : wsy = Cond.codeWith y cc maxL (some ty) hh :: ws') (hav : (lg_sl av).length ≤ maxL)
    (body : ∀ (p : Program) (e : Env) (s : State) (m : MethodId) (args : Array Value) (below : List Frame) (meth : Method) (c : Code) (A : Nat → Prop) (H : Heap) (locs : List Loc) (ls : Array Slot), p.tables.exec = Jvm.exec → c.code = cc → meth.sig.returnType = some ty → c.maxLocals = maxL → s.vm.findClass y.cls = some m.cls → (∀ w ∈ wsy, w.before args s = true) → meth.locks = false → c.exceptionTable.toList = tableOf hh → EV s → SZ A s s.heap → (∀ q : Nat, s.heap.size ≤ q → A q) → va_S A s.heap H locs → va_P D vwCl (wf σ) H → va_K D vwCl tys s → va_D A (wf σ) → lv_has ls maxL (lv_args 0 av) →
      W p l e rm s m args below meth c H locs 0 0 (MQ below (va_Qi post (PG D tys wf A (s.heap.size + g)) A) args s mc ms A) (F0 m 0 ls [])) : MG l y wsy rm D tys wf av σ sz post g mc ms := by
  refine va_MetW (cc := cc) (maxL := maxL) (ret := some ty) (hh := hh) hy hw ?_
  intro p e s m args below meth c s₁ B hml hv
  obtain ⟨rfl, ⟨hsz, hP, hK, hD0⟩, hEV, hZ⟩ := hv
  have hts := atoms_spec (ws := wsy) B.pre
  have hexc := vx_table (x := y) B (hts _ (by rw [hw]; exact List.mem_cons_self))
  subst hsz
  have hD := hD0.self (sz := s.heap.size)
  generalize hAe : va_A (wf σ) s.heap.size = A at hD hZ ⊢
  have hA : ∀ q : Nat, s.heap.size ≤ q → A q := fun q h => by rw [← hAe]; exact Or.inr h
  rw [lg_entry_eq]
  exact body p e s m _ below meth c A _ _ _ B.exec B.bytes B.returns hml (findClass_of_methodNamed B.named) hts B.notSynchronized hexc hEV hZ hA va_S.rf hP hK hD (lv_entry av hav)
section GRET
variable {p : Program} {e : Env} {R : Room} {s : State} {m : MethodId} {args : Array Value} {below : List Frame} {meth : Method} {c : Code} {H : Heap} {locs : List Loc} {A : Nat → Prop} {pc nL n index cells slots : Nat} {ls : Array Slot} {v : Int32} {st0 rest As : List Value} {Ts : List Cond} {own C : String} {b : Addr} {bytes : ByteArray} {maxLy : Nat} {rety : Option FieldType} {Q : State → Prop}
theorem MG.ret {post : Int32 → S → Prop} (hx : p.tables.exec = Jvm.exec) (hb : c.code = cc) (hr : meth.sig.returnType = some .int) (hlocks : meth.locks = false) (hK : va_K D vwCl tys s) (hP : va_P D vwCl (wf u) H) (hD : va_D A (wf u)) (hS : va_S A s.heap H locs) (hG : s.heap.size + g ≤ H.size) (hc : cells ≤ mc) (hs : slots ≤ ms) (hdg : decode cc pc = .ok (.ireturn, 1)) (hp : post v u) : W p l e R s m args below meth c H locs cells slots (MQ below (va_Qi post (PG D tys wf A (s.heap.size + g)) A) args s mc ms A) (F0 m pc ls [.int v]) :=
  W.widen hc hs (W.iret hx hb hr (fun t ht hW => ⟨⟨v, u, rfl, hp, ⟨by rw [ht]; exact hP, va_K.moved hW.alike hK, hD⟩, by rw [ht]; exact hG⟩, hS.F ht⟩) hS.2.2 hdg hlocks)
theorem MG.zret {post : Int32 → S → Prop} (hx : p.tables.exec = Jvm.exec) (hb : c.code = cc) (hr : meth.sig.returnType = some .boolean) (hlocks : meth.locks = false) (hK : va_K D vwCl tys s) (hP : va_P D vwCl (wf u) H) (hD : va_D A (wf u)) (hS : va_S A s.heap H locs) (hG : s.heap.size + g ≤ H.size) (hc : cells ≤ mc) (hs : slots ≤ ms) (hdg : decode cc pc = .ok (.ireturn, 1)) (hn : narrow .boolean (.int v) = .int v) (hp : post v u) : W p l e R s m args below meth c H locs cells slots (MQ below (va_Qi post (PG D tys wf A (s.heap.size + g)) A) args s mc ms A) (F0 m pc ls [.int v]) :=
  W.widen hc hs (W.zret hx hb hr hn (fun t ht hW => ⟨⟨v, u, rfl, hp, ⟨by rw [ht]; exact hP, va_K.moved hW.alike hK, hD⟩, by rw [ht]; exact hG⟩, hS.F ht⟩) hS.2.2 hdg hlocks)
theorem MG.callS {post : Int32 → S → Prop} (F : CallFix p m c cc nL s args Ts own) (hM : MG l y wsy rm D tys wf As σ H.size post g mc ms) (cw : CallB R s args own index y bytes maxLy rety wsy rm mc ms n ∧ (Cond.static y).before args s = true)
    (hP : va_P D vwCl (wf σ) H) (hK : va_K D vwCl tys s) (hD : va_D A (wf σ)) (hS : va_S A s.heap H locs) (hA : ∀ q : Nat, s.heap.size ≤ q → A q) (hEV : EV s) (hZ : SZ A s s.heap)
    (hn : As.length = n) (hsize : ls.size = nL) (hW : (rest.map fun v => v.category).sum ≤ 8) (hcr : cells + mc ≤ R.cells) (hsr : slots + ms ≤ R.slots)
    (hdg : decode cc pc = .ok (.invokestatic index, 3)) (hst : st0 = As.reverse ++ rest)
    (kk : ∀ (r : Int32) (u : S) (H1 : Heap) (locs1 : List Loc), post r u → va_P D vwCl (wf u) H1 → va_D A (wf u) → va_S A s.heap H1 locs1 → H.size + g ≤ H1.size → W p l e R s m args below meth c H1 locs1 (cells + mc) (slots + ms) Q (F0 m (pc + 3) ls (.int r :: rest))) : W p l e R s m args below meth c H locs cells slots Q (F0 m pc ls st0) := by
  subst hst
  have hF := free_self hD hS hA
  refine va_calli (va_runS (As := As) (rest := rest) F hM cw ⟨fun a U g mk q => ⟨q.1, q.2.calling⟩, fun U hU hW => ⟨rfl, PX.at hP hK hD hS hA hEV hZ hU hW⟩⟩ rfl hn hsize rfl (lv_room hW) hdg ⟨hcr, hsr⟩) hS (fun q _ h => hF q h) hF (fun r u t H1 locs1 ht hvm hw hB hz1 hk1 hS1 => ?_)
  obtain ⟨⟨hP1, hK1, hD1⟩, hg9⟩ := hB
  rw [ht] at hP1 hg9
  exact kk r u H1 locs1 hw hP1 (hD1.weaken (fun _ _ _ h => hF _ h)) hS1 hg9
theorem MG.callSW {post : Int32 → S → Prop} (F : CallFix p m c cc nL s args Ts own) (hM : MG l y wsy rm D tys wf As σ H.size post g mc ms) (cw : vx_CSW R s args own index y bytes maxLy rety hh wsy rm mc ms n)
    (hP : va_P D vwCl (wf σ) H) (hK : va_K D vwCl tys s) (hD : va_D A (wf σ)) (hS : va_S A s.heap H locs) (hA : ∀ q : Nat, s.heap.size ≤ q → A q) (hEV : EV s) (hZ : SZ A s s.heap)
    (hn : As.length = n) (hsize : ls.size = nL) (hW : (rest.map fun v => v.category).sum ≤ 8) (hcr : cells + mc ≤ R.cells) (hsr : slots + ms ≤ R.slots)
    (hdg : decode cc pc = .ok (.invokestatic index, 3)) (hst : st0 = As.reverse ++ rest)
    (kk : ∀ (r : Int32) (u : S) (H1 : Heap) (locs1 : List Loc), post r u → va_P D vwCl (wf u) H1 → va_D A (wf u) → va_S A s.heap H1 locs1 → H.size + g ≤ H1.size → W p l e R s m args below meth c H1 locs1 (cells + mc) (slots + ms) Q (F0 m (pc + 3) ls (.int r :: rest))) : W p l e R s m args below meth c H locs cells slots Q (F0 m pc ls st0) := by
  subst hst
  have hF := free_self hD hS hA
  refine va_calli (vx_runSW (As := As) (rest := rest) F hM cw ⟨fun a U g mk q => ⟨q.1, q.2.calling⟩, fun U hU hW => ⟨rfl, PX.at hP hK hD hS hA hEV hZ hU hW⟩⟩ rfl hn hsize rfl (lv_room hW) hdg ⟨hcr, hsr⟩) hS (fun q _ h => hF q h) hF (fun r u t H1 locs1 ht hvm hw hB hz1 hk1 hS1 => ?_)
  obtain ⟨⟨hP1, hK1, hD1⟩, hg9⟩ := hB
  rw [ht] at hP1 hg9
  exact kk r u H1 locs1 hw hP1 (hD1.weaken (fun _ _ _ h => hF _ h)) hS1 hg9
theorem MG.callV {post : Int32 → S → Prop} (F : CallFix p m c cc nL s args Ts own) (hM : MG l y wsy rm D tys wf (.ref b :: As) σ H.size post g mc ms) (cw : CallW R s args own C index y bytes maxLy rety wsy rm mc ms n)
    (hP : va_P D vwCl (wf σ) H) (hK : va_K D vwCl tys s) (hD : va_D A (wf σ)) (hS : va_S A s.heap H locs) (hA : ∀ q : Nat, s.heap.size ≤ q → A q) (hEV : EV s) (hZ : SZ A s s.heap)
    (hrecv : ∃ cell : Cell, H[b]? = some cell ∧ cell.vm.isStatics = false ∧ s.vm.findClass C = some cell.cls) (hn : As.length = n) (hsize : ls.size = nL) (hW : (rest.map fun v => v.category).sum ≤ 8) (hcr : cells + mc ≤ R.cells) (hsr : slots + ms ≤ R.slots)
    (hdg : decode cc pc = .ok (.invokevirtual index, 3)) (hst : st0 = As.reverse ++ .ref b :: rest)
    (kk : ∀ (r : Int32) (u : S) (H1 : Heap) (locs1 : List Loc), post r u → va_P D vwCl (wf u) H1 → va_D A (wf u) → va_S A s.heap H1 locs1 → H.size + g ≤ H1.size → W p l e R s m args below meth c H1 locs1 (cells + mc) (slots + ms) Q (F0 m (pc + 3) ls (.int r :: rest))) : W p l e R s m args below meth c H locs cells slots Q (F0 m pc ls st0) := by
  subst hst
  have hF := free_self hD hS hA
  refine va_calli (va_runV (As := As) (rest := rest) F hM cw ⟨fun a U g mk q => ⟨q.1, q.2.calling⟩, hrecv, fun U hU hW => ⟨rfl, PX.at hP hK hD hS hA hEV hZ hU hW⟩⟩ rfl hn hsize rfl (lv_room hW) hdg ⟨hcr, hsr⟩) hS (fun q _ h => hF q h) hF (fun r u t H1 locs1 ht hvm hw hB hz1 hk1 hS1 => ?_)
  obtain ⟨⟨hP1, hK1, hD1⟩, hg9⟩ := hB
  rw [ht] at hP1 hg9
  exact kk r u H1 locs1 hw hP1 (hD1.weaken (fun _ _ _ h => hF _ h)) hS1 hg9
/-- a call that throws for certain, and is caught here -/
theorem XI.thrV {post : Int32 → S → Prop} {px : String → Prop} (F : CallFix p m c cc nL s args Ts own) (hM : XI l y wsy rm D tys wf (.ref b :: As) σ H.size post px) (hno : ∀ r u, ¬ post r u) (cw : CallW R s args own C index y bytes maxLy rety wsy rm 1 6 n)
    (hP : va_P D vwCl (wf σ) H) (hK : va_K D vwCl tys s) (hD : va_D A (wf σ)) (hS : va_S A s.heap H locs) (hA : ∀ q : Nat, s.heap.size ≤ q → A q) (hEV : EV s) (hZ : SZ A s s.heap)
    (hrecv : ∃ cell : Cell, H[b]? = some cell ∧ cell.vm.isStatics = false ∧ s.vm.findClass C = some cell.cls) (hn : As.length = n) (hsize : ls.size = nL) (hW : (rest.map fun v => v.category).sum ≤ 8) (hcr : cells + 1 ≤ R.cells) (hsr : slots + 6 ≤ R.slots)
    (hdg : decode cc pc = .ok (.invokevirtual index, 3)) (hst : st0 = As.reverse ++ .ref b :: rest)
    (kx : ∀ (E : String) (ce : Cell) (q9 : Addr) (H1 : Heap) (locs1 : List Loc), px E → va_P D vwCl (wf σ) H1 → va_D A (wf σ) → va_S A s.heap H1 locs1 → H.size + 1 ≤ H1.size → H1[q9]? = some ce → ce.vm = .none → s.vm.findClass E = some ce.cls → vx_W p l e R s m args below meth c H1 locs1 (cells + 1) (slots + 6) Q (F0 m pc ls rest) q9) : W p l e R s m args below meth c H locs cells slots Q (F0 m pc ls st0) := by
  subst hst
  have hF := free_self hD hS hA
  refine vx_calli (vx_runV (As := As) (rest := rest) F hM cw ⟨fun a U g mk q => ⟨q.1, q.2.calling⟩, hrecv, fun U hU hW => ⟨rfl, PX.at hP hK hD hS hA hEV hZ hU hW⟩⟩ rfl hn hsize rfl (lv_room hW) hdg ⟨hcr, hsr⟩) hS (fun q _ h => hF q h) hF (fun q _ h => hF q h) ?_ (fun r u t H1 locs1 ht hvm hw _ _ _ _ => absurd hw (hno r u))
  intro E ce q9 u t H1 locs1 ht hvm _ hB hz1 hk1 hS1 hce hcv hcl
  obtain ⟨⟨hE, hP1, hK1, hD1⟩, hg9⟩ := hB
  rw [ht] at hP1 hg9
  exact kx E ce q9 H1 locs1 hE hP1 (hD1.weaken (fun _ _ _ h => hF _ h)) hS1 hg9 hce hcv hcl
/-- a call that returns for certain -/
theorem XI.okV {post : Int32 → S → Prop} {px : String → Prop} (F : CallFix p m c cc nL s args Ts own) (hM : XI l y wsy rm D tys wf (.ref b :: As) σ H.size post px) (hno : ∀ E, ¬ px E) (cw : CallW R s args own C index y bytes maxLy rety wsy rm 1 6 n)
    (hP : va_P D vwCl (wf σ) H) (hK : va_K D vwCl tys s) (hD : va_D A (wf σ)) (hS : va_S A s.heap H locs) (hA : ∀ q : Nat, s.heap.size ≤ q → A q) (hEV : EV s) (hZ : SZ A s s.heap)
    (hrecv : ∃ cell : Cell, H[b]? = some cell ∧ cell.vm.isStatics = false ∧ s.vm.findClass C = some cell.cls) (hn : As.length = n) (hsize : ls.size = nL) (hW : (rest.map fun v => v.category).sum ≤ 8) (hcr : cells + 1 ≤ R.cells) (hsr : slots + 6 ≤ R.slots)
    (hdg : decode cc pc = .ok (.invokevirtual index, 3)) (hst : st0 = As.reverse ++ .ref b :: rest)
    (kk : ∀ (r : Int32) (u : S) (H1 : Heap) (locs1 : List Loc), post r u → va_P D vwCl (wf u) H1 → va_D A (wf u) → va_S A s.heap H1 locs1 → H.size + 0 ≤ H1.size → W p l e R s m args below meth c H1 locs1 (cells + 1) (slots + 6) Q (F0 m (pc + 3) ls (.int r :: rest))) : W p l e R s m args below meth c H locs cells slots Q (F0 m pc ls st0) := by
  subst hst
  have hF := free_self hD hS hA
  refine vx_calli (vx_runV (As := As) (rest := rest) F hM cw ⟨fun a U g mk q => ⟨q.1, q.2.calling⟩, hrecv, fun U hU hW => ⟨rfl, PX.at hP hK hD hS hA hEV hZ hU hW⟩⟩ rfl hn hsize rfl (lv_room hW) hdg ⟨hcr, hsr⟩) hS (fun q _ h => hF q h) hF (fun q _ h => hF q h) ?_ ?_
  · intro E ce q9 u t H1 locs1 ht hvm _ hB hz1 hk1 hS1 hce hcv hcl
    exact absurd hB.1.1 (hno E)
  · intro r u t H1 locs1 ht hvm hw hB hz1 hk1 hS1
    obtain ⟨hP1, hK1, hD1⟩ := hB
    rw [ht] at hP1
    exact kk r u H1 locs1 hw hP1 (hD1.weaken (fun _ _ _ h => hF _ h)) hS1 hz1
end GRET
/-- a method that makes nothing -/
theorem MI.toMG {post : Int32 → S → Prop} (h : MI l y wsy rm D tys wf av σ sz post) : MG l y wsy rm D tys wf av σ sz post 0 0 0 := by
  intro p e ha hc hk s m args below hf happ hPc hT
  obtain ⟨rfl, hPR, hEV, hZ⟩ := hPc
  obtain ⟨n, o, h1, h2, h3, ⟨⟨r, u, ho, hp, hB⟩, hF⟩, hL⟩ := h p e ha hc hk s m _ below hf happ ⟨rfl, hPR⟩ hT
  exact ⟨n, o, h1, h2, h3, ⟨⟨r, u, ho, hp, hB, by rw [← hPR.1]; exact hF.1⟩, hF⟩, hL⟩
end GW
/-- two yards -/
def w2 (cI cZ : ClassId) (a b : Nat → Nat) (x : St × St) : va_W := wX cI cZ a x.1 ++ wX cI cZ b x.2
section FRM
variable {l : Launch} {y : MethodName} {wsy : List Cond} {rm : Room} {D : va_G} {tys : List (ClassId × FieldType)} {av : List Value} {sz g mc ms : Nat} {cI cZ : ClassId} {a b : Nat → Nat} {σ τ : St}
theorem MG.frameA {post : Int32 → St → Prop} (h : MG l y wsy rm D tys (wX cI cZ a) av σ sz post g mc ms) : MG l y wsy rm D tys (w2 cI cZ a b) av (σ, τ) sz (fun r u => post r u.1 ∧ u.2 = τ) g mc ms := by
  intro p e ha hc hk s m args below hf happ hPc hT
  obtain ⟨rfl, ⟨hsz, hP, hK, hD⟩, hEV, hZ⟩ := hPc
  have hPc : va_P D vwCl (wX cI cZ a σ) s.heap := hP.sub (ws' := wX cI cZ a σ) [0, 1, 2, 3, 4, 5, 6, 7, 8, 9, 10, 11, 12, 13, 14, 15, 16, 17, 18, 19, 20, 21, 22, 23, 24, 25, 26] rfl
  have hDc : va_D (fun _ => True) (wX cI cZ a σ) := hD.sub (ws' := wX cI cZ a σ) [0, 1, 2, 3, 4, 5, 6, 7, 8, 9, 10, 11, 12, 13, 14, 15, 16, 17, 18, 19, 20, 21, 22, 23, 24, 25, 26] (by decide) rfl
  have hsub : ∀ q, va_A (wX cI cZ a σ) sz q → va_A (w2 cI cZ a b (σ, τ)) sz q := va_free (A0 := va_A (w2 cI cZ a b (σ, τ)) sz) (H0 := s.heap) (H := s.heap) (locs := []) (ws := w2 cI cZ a b (σ, τ)) (wc := wX cI cZ a σ) hD.self va_S.rf (fun q hq => Or.inr (by rw [← hsz]; exact hq)) [0, 1, 2, 3, 4, 5, 6, 7, 8, 9, 10, 11, 12, 13, 14, 15, 16, 17, 18, 19, 20, 21, 22, 23, 24, 25, 26] rfl |> fun h => by rw [hsz] at h; exact h
  obtain ⟨n, o, h1, h2, h3, ⟨⟨r, u, ho, hp, ⟨hP1, hK1, hD1⟩, hg⟩, hF⟩, L, hL1, hL2⟩ := h p e ha hc hk s m _ below hf happ ⟨rfl, ⟨hsz, hPc, hK, hDc⟩, hEV, hZ.narrow hsub⟩ hT
  have hD9 : va_D (va_A (w2 cI cZ a b (σ, τ)) sz) (w2 cI cZ a b (σ, τ)) := hD.self
  subst hsz
  obtain ⟨hP2, hD2⟩ := va_join (wc := wX cI cZ a σ) (wr := wX cI cZ b τ) (w1 := wX cI cZ a u) hP hD9 [0, 1, 2, 3, 4, 5, 6, 7, 8, 9, 10, 11, 12, 13, 14, 15, 16, 17, 18, 19, 20, 21, 22, 23, 24, 25, 26] [27, 28, 29, 30, 31, 32, 33, 34, 35, 36, 37, 38, 39, 40, 41, 42, 43, 44, 45, 46, 47, 48, 49, 50, 51, 52, 53] rfl rfl (by decide) (by decide) hF.2 hsub hP1 hD1
  have hP3 : va_P D vwCl (w2 cI cZ a b (u, τ)) _ := hP2.sub (ws' := w2 cI cZ a b (u, τ)) [27, 28, 29, 30, 31, 32, 33, 34, 35, 36, 37, 38, 39, 40, 41, 42, 43, 44, 45, 46, 47, 48, 49, 50, 51, 52, 53, 0, 1, 2, 3, 4, 5, 6, 7, 8, 9, 10, 11, 12, 13, 14, 15, 16, 17, 18, 19, 20, 21, 22, 23, 24, 25, 26] rfl
  have hD3 := hD2.sub (ws' := w2 cI cZ a b (u, τ)) [27, 28, 29, 30, 31, 32, 33, 34, 35, 36, 37, 38, 39, 40, 41, 42, 43, 44, 45, 46, 47, 48, 49, 50, 51, 52, 53, 0, 1, 2, 3, 4, 5, 6, 7, 8, 9, 10, 11, 12, 13, 14, 15, 16, 17, 18, 19, 20, 21, 22, 23, 24, 25, 26] (by decide) rfl
  exact ⟨n, o, h1, h2, h3, ⟨⟨r, (u, τ), ho, ⟨hp, rfl⟩, ⟨hP3, hK1, hD3⟩, hg⟩, hF.1, fun q hq hn => hF.2 q hq (fun z => hn (hsub q z))⟩, L, hL1, fun q hq => hsub _ (hL2 q hq)⟩
theorem MG.frameB {post : Int32 → St → Prop} (h : MG l y wsy rm D tys (wX cI cZ b) av τ sz post g mc ms) : MG l y wsy rm D tys (w2 cI cZ a b) av (σ, τ) sz (fun r u => post r u.2 ∧ u.1 = σ) g mc ms := by
  intro p e ha hc hk s m args below hf happ hPc hT
  obtain ⟨rfl, ⟨hsz, hP, hK, hD⟩, hEV, hZ⟩ := hPc
  have hPc : va_P D vwCl (wX cI cZ b τ) s.heap := hP.sub (ws' := wX cI cZ b τ) [27, 28, 29, 30, 31, 32, 33, 34, 35, 36, 37, 38, 39, 40, 41, 42, 43, 44, 45, 46, 47, 48, 49, 50, 51, 52, 53] rfl
  have hDc : va_D (fun _ => True) (wX cI cZ b τ) := hD.sub (ws' := wX cI cZ b τ) [27, 28, 29, 30, 31, 32, 33, 34, 35, 36, 37, 38, 39, 40, 41, 42, 43, 44, 45, 46, 47, 48, 49, 50, 51, 52, 53] (by decide) rfl
  have hsub : ∀ q, va_A (wX cI cZ b τ) sz q → va_A (w2 cI cZ a b (σ, τ)) sz q := va_free (A0 := va_A (w2 cI cZ a b (σ, τ)) sz) (H0 := s.heap) (H := s.heap) (locs := []) (ws := w2 cI cZ a b (σ, τ)) (wc := wX cI cZ b τ) hD.self va_S.rf (fun q hq => Or.inr (by rw [← hsz]; exact hq)) [27, 28, 29, 30, 31, 32, 33, 34, 35, 36, 37, 38, 39, 40, 41, 42, 43, 44, 45, 46, 47, 48, 49, 50, 51, 52, 53] rfl |> fun h => by rw [hsz] at h; exact h
  obtain ⟨n, o, h1, h2, h3, ⟨⟨r, u, ho, hp, ⟨hP1, hK1, hD1⟩, hg⟩, hF⟩, L, hL1, hL2⟩ := h p e ha hc hk s m _ below hf happ ⟨rfl, ⟨hsz, hPc, hK, hDc⟩, hEV, hZ.narrow hsub⟩ hT
  have hD9 : va_D (va_A (w2 cI cZ a b (σ, τ)) sz) (w2 cI cZ a b (σ, τ)) := hD.self
  subst hsz
  obtain ⟨hP2, hD2⟩ := va_join (wc := wX cI cZ b τ) (wr := wX cI cZ a σ) (w1 := wX cI cZ b u) hP hD9 [27, 28, 29, 30, 31, 32, 33, 34, 35, 36, 37, 38, 39, 40, 41, 42, 43, 44, 45, 46, 47, 48, 49, 50, 51, 52, 53] [0, 1, 2, 3, 4, 5, 6, 7, 8, 9, 10, 11, 12, 13, 14, 15, 16, 17, 18, 19, 20, 21, 22, 23, 24, 25, 26] rfl rfl (by decide) (by decide) hF.2 hsub hP1 hD1
  exact ⟨n, o, h1, h2, h3, ⟨⟨r, (σ, u), ho, ⟨hp, rfl⟩, ⟨hP2, hK1, hD2⟩, hg⟩, hF.1, fun q hq hn => hF.2 q hq (fun z => hn (hsub q z))⟩, L, hL1, fun q hq => hsub _ (hL2 q hq)⟩
end FRM
