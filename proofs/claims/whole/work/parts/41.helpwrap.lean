/-! the law's helpers: the class's world with the long that an answer is put into -/
abbrev ty3 (cI cZ cL : ClassId) : List (ClassId × FieldType) := [(cI, .int), (cZ, .boolean), (cL, .long)]
abbrev SO : Type := St × (Nat → Int64)
def wo (cI cZ cL : ClassId) (a : Nat → Nat) (o : Nat) (x : SO) : va_W := (o, .inl (cL, 1, .inr (.inl x.2))) :: wX cI cZ a x.1
section HW
variable {l : Launch} {y : MethodName} {wsy ws' : List Cond} {rm : Room} {D : va_G} {cI cZ cL : ClassId} {a : Nat → Nat} {o : Nat} {av : List Value} {sz : Nat} {cc : ByteArray} {maxL : Nat} {hh : List (Nat × Nat × Nat × Nat)}
/-- a helper: it returns in any case, and may have made one cell -/
def MH (l : Launch) (y : MethodName) (wsy : List Cond) (rm : Room) (D : va_G) (cI cZ cL : ClassId) (a : Nat → Nat) (o : Nat) (av : List Value) (σ : SO) (sz : Nat) (post : Int32 → SO → Prop) : Prop :=
  Met l y wsy rm (va_Pc av (PX D (ty3 cI cZ cL) (wo cI cZ cL a o) σ sz)) (va_Qi post (PO D (ty3 cI cZ cL) (wo cI cZ cL a o) (va_A (wo cI cZ cL a o σ) sz)) (va_A (wo cI cZ cL a o σ) sz)) 1 6 (va_A (wo cI cZ cL a o σ) sz)
theorem MH.of {σ : SO} {post : Int32 → SO → Prop} (hy : plainName y.cls = true) (hw : wsy = Cond.codeWith y cc maxL (some .int) hh :: ws') (hav : (lg_sl av).length ≤ maxL)
    (body : ∀ (p : Program) (e : Env) (s : State) (m : MethodId) (args : Array Value) (below : List Frame) (meth : Method) (c : Code) (A : Nat → Prop) (H : Heap) (locs : List Loc) (ls : Array Slot), p.tables.exec = Jvm.exec → c.code = cc → meth.sig.returnType = some .int → c.maxLocals = maxL → s.vm.findClass y.cls = some m.cls → (∀ w ∈ wsy, w.before args s = true) → meth.locks = false → c.exceptionTable.toList = tableOf hh → EV s → SZ A s s.heap → (∀ q : Nat, s.heap.size ≤ q → A q) → va_S A s.heap H locs → va_P D vwCl (wo cI cZ cL a o σ) H → va_K D vwCl (ty3 cI cZ cL) s → va_D A (wo cI cZ cL a o σ) → lv_has ls maxL (lv_args 0 av) →
      W p l e rm s m args below meth c H locs 0 0 (MQ below (va_Qi post (PO D (ty3 cI cZ cL) (wo cI cZ cL a o) A) A) args s 1 6 A) (F0 m 0 ls [])) : MH l y wsy rm D cI cZ cL a o av σ sz post := by
  refine va_MetW (cc := cc) (maxL := maxL) (ret := some .int) (hh := hh) hy hw ?_
  intro p e s m args below meth c s₁ B hml hv
  obtain ⟨rfl, ⟨hsz, hP, hK, hD0⟩, hEV, hZ⟩ := hv
  have hts := atoms_spec (ws := wsy) B.pre
  have hexc := vx_table (x := y) B (hts _ (by rw [hw]; exact List.mem_cons_self))
  subst hsz
  have hD := hD0.self (sz := s.heap.size)
  generalize hAe : va_A (wo cI cZ cL a o σ) s.heap.size = A at hD hZ ⊢
  have hA : ∀ q : Nat, s.heap.size ≤ q → A q := fun q h => by rw [← hAe]; exact Or.inr h
  rw [lg_entry_eq]
  exact body p e s m _ below meth c A _ _ _ B.exec B.bytes B.returns hml (findClass_of_methodNamed B.named) hts B.notSynchronized hexc hEV hZ hA va_S.rf hP hK hD (lv_entry av hav)
section HRET
variable {p : Program} {e : Env} {R : Room} {s : State} {m : MethodId} {args : Array Value} {below : List Frame} {meth : Method} {c : Code} {H : Heap} {locs : List Loc} {A : Nat → Prop} {pc nL n index : Nat} {ls : Array Slot} {v : Int32} {u : SO} {st0 rest As : List Value} {Ts : List Cond} {own C : String} {b : Addr} {bytes : ByteArray} {maxLy : Nat} {rety : Option FieldType} {σ : St} {g : Nat → Int64} {Q : State → Prop}
theorem MH.ret {post : Int32 → SO → Prop} (hx : p.tables.exec = Jvm.exec) (hb : c.code = cc) (hr : meth.sig.returnType = some .int) (hlocks : meth.locks = false) (hK : va_K D vwCl (ty3 cI cZ cL) s) (hP : va_P D vwCl (wo cI cZ cL a o u) H) (hD : va_D A (wo cI cZ cL a o u)) (hS : va_S A s.heap H locs) (hdg : decode cc pc = .ok (.ireturn, 1)) (hp : post v u) : W p l e R s m args below meth c H locs 1 6 (MQ below (va_Qi post (PO D (ty3 cI cZ cL) (wo cI cZ cL a o) A) A) args s 1 6 A) (F0 m pc ls [.int v]) :=
  W.iret hx hb hr (fun t ht hW => ⟨⟨v, u, rfl, hp, by rw [ht]; exact hP, va_K.moved hW.alike hK, hD⟩, hS.F ht⟩) hS.2.2 hdg hlocks
theorem wo_sub (hP : va_P D vwCl (wo cI cZ cL a o (σ, g)) H) : va_P D vwCl (wX cI cZ a σ) H := hP.sub (ws' := wX cI cZ a σ) [1, 2, 3, 4, 5, 6, 7, 8, 9, 10, 11, 12, 13, 14, 15, 16, 17, 18, 19, 20, 21, 22, 23, 24, 25, 26, 27] rfl
theorem wo_subD (hD : va_D A (wo cI cZ cL a o (σ, g))) : va_D A (wX cI cZ a σ) := hD.sub (ws' := wX cI cZ a σ) [1, 2, 3, 4, 5, 6, 7, 8, 9, 10, 11, 12, 13, 14, 15, 16, 17, 18, 19, 20, 21, 22, 23, 24, 25, 26, 27] (by decide) rfl
theorem wo_join {H1 : Heap} {u : St} (hP : va_P D vwCl (wo cI cZ cL a o (σ, g)) H) (hD : va_D A (wo cI cZ cL a o (σ, g))) (hk : ∀ q : Nat, q < H.size → ¬ va_A (wX cI cZ a σ) H.size q → H1[q]? = H[q]?) (hF : ∀ q, va_A (wX cI cZ a σ) H.size q → A q) (hP1 : va_P D vwCl (wX cI cZ a u) H1) (hD1 : va_D (va_A (wX cI cZ a σ) H.size) (wX cI cZ a u)) : va_P D vwCl (wo cI cZ cL a o (u, g)) H1 ∧ va_D A (wo cI cZ cL a o (u, g)) :=
  va_join (wc := wX cI cZ a σ) (wr := [(o, .inl (cL, 1, .inr (.inl g)))]) (w1 := wX cI cZ a u) hP hD [1, 2, 3, 4, 5, 6, 7, 8, 9, 10, 11, 12, 13, 14, 15, 16, 17, 18, 19, 20, 21, 22, 23, 24, 25, 26, 27] [0] rfl rfl (by decide) (by decide) hk hF hP1 hD1
theorem XI.callH {post : Int32 → St → Prop} {px : String → Prop} (F : CallFix p m c cc nL s args Ts own) (hM : XI l y wsy rm D (ty2 cI cZ) (wX cI cZ a) (.ref b :: As) σ H.size post px) (cw : CallW R s args own C index y bytes maxLy rety wsy rm 1 6 n)
    (hP : va_P D vwCl (wo cI cZ cL a o (σ, g)) H) (hK : va_K D vwCl (ty3 cI cZ cL) s) (hD : va_D A (wo cI cZ cL a o (σ, g))) (hS : va_S A s.heap H locs) (hA : ∀ q : Nat, s.heap.size ≤ q → A q) (hEV : EV s) (hZ : SZ A s s.heap)
    (hrecv : ∃ cell : Cell, H[b]? = some cell ∧ cell.vm.isStatics = false ∧ s.vm.findClass C = some cell.cls) (hn : As.length = n) (hsize : ls.size = nL) (hW : (rest.map fun v => v.category).sum ≤ 8) (hRc : 1 ≤ R.cells) (hRs : 6 ≤ R.slots)
    (hdg : decode cc pc = .ok (.invokevirtual index, 3)) (hst : st0 = As.reverse ++ .ref b :: rest)
    (kx : ∀ (E : String) (ce : Cell) (q9 : Addr) (H1 : Heap) (locs1 : List Loc), px E → va_P D vwCl (wo cI cZ cL a o (σ, g)) H1 → va_D A (wo cI cZ cL a o (σ, g)) → va_S A s.heap H1 locs1 → H1[q9]? = some ce → ce.vm = .none → s.vm.findClass E = some ce.cls → vx_W p l e R s m args below meth c H1 locs1 1 6 Q (F0 m pc ls rest) q9)
    (kk : ∀ (r : Int32) (u : St) (H1 : Heap) (locs1 : List Loc), post r u → va_P D vwCl (wo cI cZ cL a o (u, g)) H1 → va_D A (wo cI cZ cL a o (u, g)) → va_S A s.heap H1 locs1 → W p l e R s m args below meth c H1 locs1 1 6 Q (F0 m (pc + 3) ls (.int r :: rest))) :
    W p l e R s m args below meth c H locs 0 0 Q (F0 m pc ls st0) := by
  subst hst
  have hPc := wo_sub hP
  have hDc := wo_subD hD
  have hKc := hK.sub (tys' := ty2 cI cZ) [0, 1] rfl
  have hF := free_self hDc hS hA
  refine vx_calli (vx_runV (As := As) (rest := rest) F hM cw ⟨fun a U g mk q => ⟨q.1, q.2.calling⟩, hrecv, fun U hU hW => ⟨rfl, PX.at hPc hKc hDc hS hA hEV hZ hU hW⟩⟩ rfl hn hsize rfl (lv_room hW) hdg ⟨by omega, by omega⟩) hS (fun q _ h => hF q h) hF (fun q _ h => hF q h) ?_ ?_
  · intro E ce q9 u t H1 locs1 ht hvm _ hB hz1 hk1 hS1 hce hcv hcl
    obtain ⟨hE, hP1, hK1, hD1⟩ := hB
    rw [ht] at hP1
    obtain ⟨hP2, hD2⟩ := wo_join hP hD hk1 hF hP1 hD1
    have h := kx E ce q9 H1 locs1 hE hP2 hD2 hS1 hce hcv hcl
    rw [Nat.zero_add, Nat.zero_add]
    exact h
  · intro r u t H1 locs1 ht hvm hw hB hz1 hk1 hS1
    obtain ⟨hP1, hK1, hD1⟩ := hB
    rw [ht] at hP1
    obtain ⟨hP2, hD2⟩ := wo_join hP hD hk1 hF hP1 hD1
    have h := kk r u H1 locs1 hw hP2 hD2 hS1
    rw [Nat.zero_add, Nat.zero_add]
    exact h
theorem XV.callH {post : St → Prop} {px : String → Prop} (F : CallFix p m c cc nL s args Ts own) (hM : XV l y wsy rm D (ty2 cI cZ) (wX cI cZ a) (.ref b :: As) σ H.size post px) (cw : CallW R s args own C index y bytes maxLy rety wsy rm 1 6 n)
    (hP : va_P D vwCl (wo cI cZ cL a o (σ, g)) H) (hK : va_K D vwCl (ty3 cI cZ cL) s) (hD : va_D A (wo cI cZ cL a o (σ, g))) (hS : va_S A s.heap H locs) (hA : ∀ q : Nat, s.heap.size ≤ q → A q) (hEV : EV s) (hZ : SZ A s s.heap)
    (hrecv : ∃ cell : Cell, H[b]? = some cell ∧ cell.vm.isStatics = false ∧ s.vm.findClass C = some cell.cls) (hn : As.length = n) (hsize : ls.size = nL) (hW : (rest.map fun v => v.category).sum ≤ 8) (hRc : 1 ≤ R.cells) (hRs : 6 ≤ R.slots)
    (hdg : decode cc pc = .ok (.invokevirtual index, 3)) (hst : st0 = As.reverse ++ .ref b :: rest)
    (kx : ∀ (E : String) (ce : Cell) (q9 : Addr) (H1 : Heap) (locs1 : List Loc), px E → va_P D vwCl (wo cI cZ cL a o (σ, g)) H1 → va_D A (wo cI cZ cL a o (σ, g)) → va_S A s.heap H1 locs1 → H1[q9]? = some ce → ce.vm = .none → s.vm.findClass E = some ce.cls → vx_W p l e R s m args below meth c H1 locs1 1 6 Q (F0 m pc ls rest) q9)
    (kk : ∀ (u : St) (H1 : Heap) (locs1 : List Loc), post u → va_P D vwCl (wo cI cZ cL a o (u, g)) H1 → va_D A (wo cI cZ cL a o (u, g)) → va_S A s.heap H1 locs1 → W p l e R s m args below meth c H1 locs1 1 6 Q (F0 m (pc + 3) ls rest)) :
    W p l e R s m args below meth c H locs 0 0 Q (F0 m pc ls st0) := by
  subst hst
  have hPc := wo_sub hP
  have hDc := wo_subD hD
  have hKc := hK.sub (tys' := ty2 cI cZ) [0, 1] rfl
  have hF := free_self hDc hS hA
  refine vx_callv (vx_runV (As := As) (rest := rest) F hM cw ⟨fun a U g mk q => ⟨q.1, q.2.calling⟩, hrecv, fun U hU hW => ⟨rfl, PX.at hPc hKc hDc hS hA hEV hZ hU hW⟩⟩ rfl hn hsize rfl (lv_room hW) hdg ⟨by omega, by omega⟩) hS (fun q _ h => hF q h) hF (fun q _ h => hF q h) ?_ ?_
  · intro E ce q9 u t H1 locs1 ht hvm _ hB hz1 hk1 hS1 hce hcv hcl
    obtain ⟨hE, hP1, hK1, hD1⟩ := hB
    rw [ht] at hP1
    obtain ⟨hP2, hD2⟩ := wo_join hP hD hk1 hF hP1 hD1
    have h := kx E ce q9 H1 locs1 hE hP2 hD2 hS1 hce hcv hcl
    rw [Nat.zero_add, Nat.zero_add]
    exact h
  · intro u t H1 locs1 ht hvm hw hB hz1 hk1 hS1
    obtain ⟨hP1, hK1, hD1⟩ := hB
    rw [ht] at hP1
    obtain ⟨hP2, hD2⟩ := wo_join hP hD hk1 hF hP1 hD1
    have h := kk u H1 locs1 hw hP2 hD2 hS1
    rw [Nat.zero_add, Nat.zero_add]
    exact h
end HRET
end HW
