/-! the law's world: the long, the class, the reference; its calls -/
def wL (cI cZ cL : ClassId) (a : Nat → Nat) (o : Nat) (a2 : Nat → Nat) (x : SO) (μ : St) : va_W := wo cI cZ cL a o x ++ wM cI cZ a2 μ
section LC
variable {l : Launch} {y : MethodName} {wsy : List Cond} {rm : Room} {D : va_G} {cI cZ cL : ClassId} {a a2 : Nat → Nat} {o : Nat} {cc : ByteArray} {hh : List (Nat × Nat × Nat × Nat)} {p : Program} {e : Env} {R : Room} {s : State} {m : MethodId} {args : Array Value} {below : List Frame} {meth : Method} {c : Code} {H : Heap} {locs : List Loc} {A : Nat → Prop} {pc nL n index cells slots : Nat} {ls : Array Slot} {x : SO} {μ : St} {st0 rest As : List Value} {Ts : List Cond} {own C : String} {b : Addr} {bytes : ByteArray} {maxLy : Nat} {rety : Option FieldType} {Q : State → Prop}

theorem wL_x {u : SO} {H1 : Heap} (hP : va_P D vwCl (wL cI cZ cL a o a2 x μ) H) (hD : va_D A (wL cI cZ cL a o a2 x μ)) (hk : ∀ q : Nat, q < H.size → ¬ va_A (wo cI cZ cL a o x) H.size q → H1[q]? = H[q]?) (hF : ∀ q, va_A (wo cI cZ cL a o x) H.size q → A q) (hP1 : va_P D vwCl (wo cI cZ cL a o u) H1) (hD1 : va_D (va_A (wo cI cZ cL a o x) H.size) (wo cI cZ cL a o u)) : va_P D vwCl (wL cI cZ cL a o a2 u μ) H1 ∧ va_D A (wL cI cZ cL a o a2 u μ) := by
  obtain ⟨h1, h2⟩ := va_join (wc := wo cI cZ cL a o x) (wr := wM cI cZ a2 μ) (w1 := wo cI cZ cL a o u) hP hD [0, 1, 2, 3, 4, 5, 6, 7, 8, 9, 10, 11, 12, 13, 14, 15, 16, 17, 18, 19, 20, 21, 22, 23, 24, 25, 26, 27] [28, 29, 30, 31, 32, 33, 34, 35, 36, 37, 38, 39, 40, 41, 42, 43, 44, 45, 46, 47, 48] rfl rfl (by decide) (by decide) hk hF hP1 hD1
  exact ⟨h1.sub (ws' := wL cI cZ cL a o a2 u μ) [21, 22, 23, 24, 25, 26, 27, 28, 29, 30, 31, 32, 33, 34, 35, 36, 37, 38, 39, 40, 41, 42, 43, 44, 45, 46, 47, 48, 0, 1, 2, 3, 4, 5, 6, 7, 8, 9, 10, 11, 12, 13, 14, 15, 16, 17, 18, 19, 20] rfl, h2.sub (ws' := wL cI cZ cL a o a2 u μ) [21, 22, 23, 24, 25, 26, 27, 28, 29, 30, 31, 32, 33, 34, 35, 36, 37, 38, 39, 40, 41, 42, 43, 44, 45, 46, 47, 48, 0, 1, 2, 3, 4, 5, 6, 7, 8, 9, 10, 11, 12, 13, 14, 15, 16, 17, 18, 19, 20] (by decide) rfl⟩
theorem wL_m {u : St} {H1 : Heap} (hP : va_P D vwCl (wL cI cZ cL a o a2 x μ) H) (hD : va_D A (wL cI cZ cL a o a2 x μ)) (hk : ∀ q : Nat, q < H.size → ¬ va_A (wM cI cZ a2 μ) H.size q → H1[q]? = H[q]?) (hF : ∀ q, va_A (wM cI cZ a2 μ) H.size q → A q) (hP1 : va_P D vwCl (wM cI cZ a2 u) H1) (hD1 : va_D (va_A (wM cI cZ a2 μ) H.size) (wM cI cZ a2 u)) : va_P D vwCl (wL cI cZ cL a o a2 x u) H1 ∧ va_D A (wL cI cZ cL a o a2 x u) :=
  va_join (wc := wM cI cZ a2 μ) (wr := wo cI cZ cL a o x) (w1 := wM cI cZ a2 u) hP hD [28, 29, 30, 31, 32, 33, 34, 35, 36, 37, 38, 39, 40, 41, 42, 43, 44, 45, 46, 47, 48] [0, 1, 2, 3, 4, 5, 6, 7, 8, 9, 10, 11, 12, 13, 14, 15, 16, 17, 18, 19, 20, 21, 22, 23, 24, 25, 26, 27] rfl rfl (by decide) (by decide) hk hF hP1 hD1
theorem wL_k {u : St} {H1 : Heap} (hP : va_P D vwCl (wL cI cZ cL a o a2 x μ) H) (hD : va_D A (wL cI cZ cL a o a2 x μ)) (hk : ∀ q : Nat, q < H.size → ¬ va_A (wX cI cZ a x.1) H.size q → H1[q]? = H[q]?) (hF : ∀ q, va_A (wX cI cZ a x.1) H.size q → A q) (hP1 : va_P D vwCl (wX cI cZ a u) H1) (hD1 : va_D (va_A (wX cI cZ a x.1) H.size) (wX cI cZ a u)) : va_P D vwCl (wL cI cZ cL a o a2 (u, x.2) μ) H1 ∧ va_D A (wL cI cZ cL a o a2 (u, x.2) μ) := by
  obtain ⟨h1, h2⟩ := va_join (wc := wX cI cZ a x.1) (wr := (o, .inl (cL, 1, .inr (.inl x.2))) :: wM cI cZ a2 μ) (w1 := wX cI cZ a u) hP hD [1, 2, 3, 4, 5, 6, 7, 8, 9, 10, 11, 12, 13, 14, 15, 16, 17, 18, 19, 20, 21, 22, 23, 24, 25, 26, 27] [0, 28, 29, 30, 31, 32, 33, 34, 35, 36, 37, 38, 39, 40, 41, 42, 43, 44, 45, 46, 47, 48] rfl rfl (by decide) (by decide) hk hF hP1 hD1
  exact ⟨h1.sub (ws' := wL cI cZ cL a o a2 (u, x.2) μ) [0, 22, 23, 24, 25, 26, 27, 28, 29, 30, 31, 32, 33, 34, 35, 36, 37, 38, 39, 40, 41, 42, 43, 44, 45, 46, 47, 48, 1, 2, 3, 4, 5, 6, 7, 8, 9, 10, 11, 12, 13, 14, 15, 16, 17, 18, 19, 20, 21] rfl, h2.sub (ws' := wL cI cZ cL a o a2 (u, x.2) μ) [0, 22, 23, 24, 25, 26, 27, 28, 29, 30, 31, 32, 33, 34, 35, 36, 37, 38, 39, 40, 41, 42, 43, 44, 45, 46, 47, 48, 1, 2, 3, 4, 5, 6, 7, 8, 9, 10, 11, 12, 13, 14, 15, 16, 17, 18, 19, 20, 21] (by decide) rfl⟩
theorem LC_callH {post : Int32 → SO → Prop} (F : CallFix p m c cc nL s args Ts own) (hM : MH l y wsy rm D cI cZ cL a o As x H.size post) (cw : vx_CSW R s args own index y bytes maxLy rety hh wsy rm 1 6 n)
    (hP : va_P D vwCl (wL cI cZ cL a o a2 x μ) H) (hK : va_K D vwCl (ty3 cI cZ cL) s) (hD : va_D A (wL cI cZ cL a o a2 x μ)) (hS : va_S A s.heap H locs) (hA : ∀ q : Nat, s.heap.size ≤ q → A q) (hEV : EV s) (hZ : SZ A s s.heap) (hn : As.length = n) (hsize : ls.size = nL) (hW : (rest.map fun v => v.category).sum ≤ 8) (hRc : cells + 1 ≤ R.cells) (hRs : slots + 6 ≤ R.slots)
    (hdg : decode cc pc = .ok (.invokestatic index, 3)) (hst : st0 = As.reverse ++ rest)
    (kk : ∀ (r : Int32) (u : SO) (H1 : Heap) (locs1 : List Loc), post r u → va_P D vwCl (wL cI cZ cL a o a2 u μ) H1 → va_D A (wL cI cZ cL a o a2 u μ) → va_S A s.heap H1 locs1 → W p l e R s m args below meth c H1 locs1 (cells + 1) (slots + 6) Q (F0 m (pc + 3) ls (.int r :: rest))) : W p l e R s m args below meth c H locs cells slots Q (F0 m pc ls st0) := by
  subst hst
  have hPc : va_P D vwCl (wo cI cZ cL a o x) H := hP.sub (ws' := wo cI cZ cL a o x) [0, 1, 2, 3, 4, 5, 6, 7, 8, 9, 10, 11, 12, 13, 14, 15, 16, 17, 18, 19, 20, 21, 22, 23, 24, 25, 26, 27] rfl
  have hDc : va_D A (wo cI cZ cL a o x) := hD.sub (ws' := wo cI cZ cL a o x) [0, 1, 2, 3, 4, 5, 6, 7, 8, 9, 10, 11, 12, 13, 14, 15, 16, 17, 18, 19, 20, 21, 22, 23, 24, 25, 26, 27] (by decide) rfl
  have hF := free_self hDc hS hA
  refine va_calli (vx_runSW (As := As) (rest := rest) F hM cw ⟨fun a U g mk q => ⟨q.1, q.2.calling⟩, fun U hU hW => ⟨rfl, PX.at hPc hK hDc hS hA hEV hZ hU hW⟩⟩ rfl hn hsize rfl (lv_room hW) hdg ⟨hRc, hRs⟩) hS (fun q _ h => hF q h) hF (fun r u t H1 locs1 ht hvm hw hB hz1 hk1 hS1 => ?_)
  obtain ⟨hP1, hK1, hD1⟩ := hB
  rw [ht] at hP1
  obtain ⟨hP2, hD2⟩ := wL_x hP hD hk1 hF hP1 hD1
  exact kk r u H1 locs1 hw hP2 hD2 hS1
theorem LC_callM {post : Int32 → St → Prop} (F : CallFix p m c cc nL s args Ts own) (hM : MI l y wsy rm D (ty2 cI cZ) (wM cI cZ a2) (.ref b :: As) (μ) H.size post) (cw : CallW R s args own C index y bytes maxLy rety wsy rm 0 0 n)
    (hP : va_P D vwCl (wL cI cZ cL a o a2 x μ) H) (hK : va_K D vwCl (ty3 cI cZ cL) s) (hD : va_D A (wL cI cZ cL a o a2 x μ)) (hS : va_S A s.heap H locs) (hA : ∀ q : Nat, s.heap.size ≤ q → A q) (hrecv : ∃ cell : Cell, H[b]? = some cell ∧ cell.vm.isStatics = false ∧ s.vm.findClass C = some cell.cls) (hn : As.length = n) (hsize : ls.size = nL) (hW : (rest.map fun v => v.category).sum ≤ 8) (hRc : cells ≤ R.cells) (hRs : slots ≤ R.slots)
    (hdg : decode cc pc = .ok (.invokevirtual index, 3)) (hst : st0 = As.reverse ++ .ref b :: rest)
    (kk : ∀ (r : Int32) (u : St) (H1 : Heap) (locs1 : List Loc), post r u → va_P D vwCl (wL cI cZ cL a o a2 x u) H1 → va_D A (wL cI cZ cL a o a2 x u) → va_S A s.heap H1 locs1 → W p l e R s m args below meth c H1 locs1 cells slots Q (F0 m (pc + 3) ls (.int r :: rest))) : W p l e R s m args below meth c H locs cells slots Q (F0 m pc ls st0) := by
  subst hst
  have hPc : va_P D vwCl (wM cI cZ a2 (μ)) H := hP.sub (ws' := wM cI cZ a2 (μ)) [28, 29, 30, 31, 32, 33, 34, 35, 36, 37, 38, 39, 40, 41, 42, 43, 44, 45, 46, 47, 48] rfl
  have hDc : va_D A (wM cI cZ a2 (μ)) := hD.sub (ws' := wM cI cZ a2 (μ)) [28, 29, 30, 31, 32, 33, 34, 35, 36, 37, 38, 39, 40, 41, 42, 43, 44, 45, 46, 47, 48] (by decide) rfl
  have hKc := hK.sub (tys' := ty2 cI cZ) [0, 1] rfl
  have hF := free_self hDc hS hA
  refine va_calli (va_runV (As := As) (rest := rest) F hM cw ⟨fun a U g mk q => ⟨q.1, q.2.calling⟩, hrecv, fun U hU hW => ⟨rfl, PR.at hPc hKc hDc hU hW⟩⟩ rfl hn hsize rfl (lv_room hW) hdg ⟨hRc, hRs⟩) hS (fun q _ h => hF q h) hF (fun r u t H1 locs1 ht hvm hw hB hz1 hk1 hS1 => ?_)
  obtain ⟨hP1, hK1, hD1⟩ := hB
  rw [ht] at hP1
  obtain ⟨hP2, hD2⟩ := wL_m hP hD hk1 hF hP1 hD1
  exact kk r u H1 locs1 hw hP2 hD2 hS1
theorem LC_callMV {post : St → Prop} (F : CallFix p m c cc nL s args Ts own) (hM : MV l y wsy rm D (ty2 cI cZ) (wM cI cZ a2) (.ref b :: As) (μ) H.size post) (cw : CallW R s args own C index y bytes maxLy rety wsy rm 0 0 n)
    (hP : va_P D vwCl (wL cI cZ cL a o a2 x μ) H) (hK : va_K D vwCl (ty3 cI cZ cL) s) (hD : va_D A (wL cI cZ cL a o a2 x μ)) (hS : va_S A s.heap H locs) (hA : ∀ q : Nat, s.heap.size ≤ q → A q) (hrecv : ∃ cell : Cell, H[b]? = some cell ∧ cell.vm.isStatics = false ∧ s.vm.findClass C = some cell.cls) (hn : As.length = n) (hsize : ls.size = nL) (hW : (rest.map fun v => v.category).sum ≤ 8) (hRc : cells ≤ R.cells) (hRs : slots ≤ R.slots)
    (hdg : decode cc pc = .ok (.invokevirtual index, 3)) (hst : st0 = As.reverse ++ .ref b :: rest)
    (kk : ∀ (u : St) (H1 : Heap) (locs1 : List Loc), post u → va_P D vwCl (wL cI cZ cL a o a2 x u) H1 → va_D A (wL cI cZ cL a o a2 x u) → va_S A s.heap H1 locs1 → W p l e R s m args below meth c H1 locs1 cells slots Q (F0 m (pc + 3) ls rest)) : W p l e R s m args below meth c H locs cells slots Q (F0 m pc ls st0) := by
  subst hst
  have hPc : va_P D vwCl (wM cI cZ a2 (μ)) H := hP.sub (ws' := wM cI cZ a2 (μ)) [28, 29, 30, 31, 32, 33, 34, 35, 36, 37, 38, 39, 40, 41, 42, 43, 44, 45, 46, 47, 48] rfl
  have hDc : va_D A (wM cI cZ a2 (μ)) := hD.sub (ws' := wM cI cZ a2 (μ)) [28, 29, 30, 31, 32, 33, 34, 35, 36, 37, 38, 39, 40, 41, 42, 43, 44, 45, 46, 47, 48] (by decide) rfl
  have hKc := hK.sub (tys' := ty2 cI cZ) [0, 1] rfl
  have hF := free_self hDc hS hA
  refine va_callv (va_runV (As := As) (rest := rest) F hM cw ⟨fun a U g mk q => ⟨q.1, q.2.calling⟩, hrecv, fun U hU hW => ⟨rfl, PR.at hPc hKc hDc hU hW⟩⟩ rfl hn hsize rfl (lv_room hW) hdg ⟨hRc, hRs⟩) hS (fun q _ h => hF q h) hF (fun u t H1 locs1 ht hvm hw hB hz1 hk1 hS1 => ?_)
  obtain ⟨hP1, hK1, hD1⟩ := hB
  rw [ht] at hP1
  obtain ⟨hP2, hD2⟩ := wL_m hP hD hk1 hF hP1 hD1
  exact kk u H1 locs1 hw hP2 hD2 hS1
theorem LC_callX {post : Int32 → St → Prop} (F : CallFix p m c cc nL s args Ts own) (hM : MI l y wsy rm D (ty2 cI cZ) (wX cI cZ a) (.ref b :: As) (x.1) H.size post) (cw : CallW R s args own C index y bytes maxLy rety wsy rm 0 0 n)
    (hP : va_P D vwCl (wL cI cZ cL a o a2 x μ) H) (hK : va_K D vwCl (ty3 cI cZ cL) s) (hD : va_D A (wL cI cZ cL a o a2 x μ)) (hS : va_S A s.heap H locs) (hA : ∀ q : Nat, s.heap.size ≤ q → A q) (hrecv : ∃ cell : Cell, H[b]? = some cell ∧ cell.vm.isStatics = false ∧ s.vm.findClass C = some cell.cls) (hn : As.length = n) (hsize : ls.size = nL) (hW : (rest.map fun v => v.category).sum ≤ 8) (hRc : cells ≤ R.cells) (hRs : slots ≤ R.slots)
    (hdg : decode cc pc = .ok (.invokevirtual index, 3)) (hst : st0 = As.reverse ++ .ref b :: rest)
    (kk : ∀ (r : Int32) (u : St) (H1 : Heap) (locs1 : List Loc), post r u → va_P D vwCl (wL cI cZ cL a o a2 (u, x.2) μ) H1 → va_D A (wL cI cZ cL a o a2 (u, x.2) μ) → va_S A s.heap H1 locs1 → W p l e R s m args below meth c H1 locs1 cells slots Q (F0 m (pc + 3) ls (.int r :: rest))) : W p l e R s m args below meth c H locs cells slots Q (F0 m pc ls st0) := by
  subst hst
  have hPc : va_P D vwCl (wX cI cZ a (x.1)) H := hP.sub (ws' := wX cI cZ a (x.1)) [1, 2, 3, 4, 5, 6, 7, 8, 9, 10, 11, 12, 13, 14, 15, 16, 17, 18, 19, 20, 21, 22, 23, 24, 25, 26, 27] rfl
  have hDc : va_D A (wX cI cZ a (x.1)) := hD.sub (ws' := wX cI cZ a (x.1)) [1, 2, 3, 4, 5, 6, 7, 8, 9, 10, 11, 12, 13, 14, 15, 16, 17, 18, 19, 20, 21, 22, 23, 24, 25, 26, 27] (by decide) rfl
  have hKc := hK.sub (tys' := ty2 cI cZ) [0, 1] rfl
  have hF := free_self hDc hS hA
  refine va_calli (va_runV (As := As) (rest := rest) F hM cw ⟨fun a U g mk q => ⟨q.1, q.2.calling⟩, hrecv, fun U hU hW => ⟨rfl, PR.at hPc hKc hDc hU hW⟩⟩ rfl hn hsize rfl (lv_room hW) hdg ⟨hRc, hRs⟩) hS (fun q _ h => hF q h) hF (fun r u t H1 locs1 ht hvm hw hB hz1 hk1 hS1 => ?_)
  obtain ⟨hP1, hK1, hD1⟩ := hB
  rw [ht] at hP1
  obtain ⟨hP2, hD2⟩ := wL_k hP hD hk1 hF hP1 hD1
  exact kk r u H1 locs1 hw hP2 hD2 hS1
end LC
