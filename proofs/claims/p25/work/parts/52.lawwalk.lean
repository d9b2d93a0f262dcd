/-! the law's start: two new yards, a script that begins with zeros; its first comparison alone makes more cells than the claim has room for -/
abbrev R2 : Room := { frames := 13, cells := 400, slots := 2800, locals := 492 }
section CEL
set_option maxHeartbeats 4000000 in
set_option maxRecDepth 100000 in
theorem g_cell {S : Type} (l : Launch) (D : va_G) (tys : List (ClassId × FieldType)) (wf : S → va_W) (σ : S) (sz b9 L : Nat) (xs : Nat → Int32) (k : Nat) (hk : k < L) (hL : L < 2 ^ 31) : Met l yL_cell wsL_cell ({ frames := 0, cells := 0, slots := 0, locals := 0 }) (va_Pc [.ref b9, .int (nI k)] (fun U => PX D tys wf σ sz U ∧ va_X b9 L xs U U.heap ∧ b9 < sz ∧ ¬ va_A (wf σ) sz b9)) (va_Qi (fun r u => u = σ ∧ r = xs k) (PG D tys wf (va_A (wf σ) sz) (sz + 0)) (va_A (wf σ) sz)) 0 0 (va_A (wf σ) sz) := by
  refine Met.ofW (cc := cL_cell) (maxL := 2) (ret := some .int) (by decide) rfl ?_
  intro p e s m args below meth c s₁ B hml hv
  obtain ⟨rfl, ⟨⟨hsz, hP, hK, hD0⟩, hEV, hZ⟩, hX, hbl, hbA⟩ := hv
  have hts := atoms_spec (ws := wsL_cell) B.pre
  have hx := B.exec
  have hb := B.bytes
  have hr := B.returns
  have hlocks := B.notSynchronized
  subst hsz
  have hD := hD0.self (sz := s.heap.size)
  generalize hAe : va_A (wf σ) s.heap.size = A at hD hZ hbA ⊢
  have hS : va_S A s.heap s.heap [] := va_S.rf
  have hl := lv_entry ([.ref b9, .int (nI k)]) (n := 2) (Nat.le_of_ble_eq_true rfl)
  rw [lg_entry_eq]
  generalize (lg_sl ([.ref b9, .int (nI k)]) ++ List.replicate (2 - (lg_sl ([.ref b9, .int (nI k)])).length) Slot.unset).toArray = ls at hl ⊢
  have hl : lv_has ls 2 [(0, .ref b9), (1, .int (nI k))] := hl
  refine lv_iload_n hx hb dL_cell_0 rfl (lv_at hl 1 rfl) ?_
  refine lv_aload_n hx hb dL_cell_1 rfl (lv_at hl 0 rfl) ?_
  refine va_slen hx hb hX hbl hbA hS dL_cell_2 ?_
  refine lv_icmp_ge (tgt := 12) hx hb dL_cell_3 (by decide) (fun c9 => absurd c9 (nI_ge hk hL)) (fun _ => ?_)
  refine lv_aload_n hx hb dL_cell_6 rfl (lv_at hl 0 rfl) ?_
  refine lv_iload_n hx hb dL_cell_7 rfl (lv_at hl 1 rfl) ?_
  refine va_sld hx hb hX hbl hbA hS (vp_in_nI hk hL) dL_cell_8 ?_
  refine lv_goto (tgt := 27) hx hb dL_cell_9 (by decide) ?_
  rw [nI_clamp (Nat.lt_trans hk hL)]
  exact MG.ret hx hb hr hlocks hK hP hD hS (Nat.le_refl _) (Nat.le_refl _) (Nat.le_refl _) dL_cell_27 ⟨rfl, rfl⟩
theorem CE_callS {S : Type} {l : Launch} {wsy : List Cond} {rm : Room} {y : MethodName} {D : va_G} {tys : List (ClassId × FieldType)} {wf : S → va_W} {σ : S} {cc : ByteArray} {p : Program} {e : Env} {R : Room} {s : State} {m : MethodId} {args : Array Value} {below : List Frame} {meth : Method} {c : Code} {H : Heap} {locs : List Loc} {A : Nat → Prop} {pc nL index cells slots b9 L : Nat} {xs : Nat → Int32} {x : Int32} {ls : Array Slot} {st0 rest : List Value} {Ts : List Cond} {own : String} {bytes : ByteArray} {maxLy : Nat} {rety : Option FieldType} {Q : State → Prop} {post : Int32 → S → Prop}
    (F : CallFix p m c cc nL s args Ts own) (hM : Met l y wsy rm (va_Pc [.ref b9, .int x] (fun U => PX D tys wf σ H.size U ∧ va_X b9 L xs U U.heap ∧ b9 < H.size ∧ ¬ va_A (wf σ) H.size b9)) (va_Qi post (PG D tys wf (va_A (wf σ) H.size) (H.size + 0)) (va_A (wf σ) H.size)) 0 0 (va_A (wf σ) H.size))
    (cw : CallB R s args own index y bytes maxLy rety wsy rm 0 0 2 ∧ (Cond.static y).before args s = true) (hX : va_X b9 L xs s s.heap) (hbl : b9 < s.heap.size) (hbA : ¬ A b9)
    (hP : va_P D vwCl (wf σ) H) (hK : va_K D vwCl tys s) (hD : va_D A (wf σ)) (hS : va_S A s.heap H locs) (hA : ∀ q : Nat, s.heap.size ≤ q → A q) (hEV : EV s) (hZ : SZ A s s.heap)
    (hsize : ls.size = nL) (hW : (rest.map fun v => v.category).sum ≤ 8) (hcr : cells + 0 ≤ R.cells) (hsr : slots + 0 ≤ R.slots)
    (hdg : decode cc pc = .ok (.invokestatic index, 3)) (hst : st0 = [.int x, .ref b9] ++ rest)
    (kk : ∀ (r : Int32) (u : S) (H1 : Heap) (locs1 : List Loc), post r u → va_P D vwCl (wf u) H1 → va_D A (wf u) → va_S A s.heap H1 locs1 → H.size + 0 ≤ H1.size → W p l e R s m args below meth c H1 locs1 (cells + 0) (slots + 0) Q (F0 m (pc + 3) ls (.int r :: rest))) : W p l e R s m args below meth c H locs cells slots Q (F0 m pc ls st0) := by
  subst hst
  have hF := free_self hD hS hA
  refine va_calli (va_runS (As := [.ref b9, .int x]) (rest := rest) F hM cw ⟨fun a U g mk q => ⟨q.1, q.2.1.calling, va_X.moved (u := U) (U := U.calling g mk a) (Vm.Alike.refl U.vm) q.2.2.1, q.2.2.2⟩, fun U hU hW => ⟨rfl, PX.at hP hK hD hS hA hEV hZ hU hW, by rw [hU]; exact va_X.moved hW.alike (hX.kept (hS.2.1 b9 hbl hbA)), Nat.lt_of_lt_of_le hbl hS.1, fun z => hbA (hF b9 z)⟩⟩ rfl rfl hsize rfl (lv_room hW) hdg ⟨hcr, hsr⟩) hS (fun q _ h => hF q h) hF (fun r u t H1 locs1 ht hvm hw hB hz1 hk1 hS1 => ?_)
  obtain ⟨⟨hP1, hK1, hD1⟩, hg9⟩ := hB
  rw [ht] at hP1 hg9
  exact kk r u H1 locs1 hw hP1 (hD1.weaken (fun _ _ _ h => hF _ h)) hS1 hg9
end CEL
theorem ac_spec {t : FieldType} {args : Array Value} {s : State} (h : (Cond.arrayClass t).before args s = true) : ∃ (cA : ClassId) (kA : Class) (comp : ClassId), s.vm.findClass ("[" ++ t.toString) = some cA ∧ s.vm.classes[cA]? = some kA ∧ kA.kind = .array comp t := by
  simp only [Cond.before, Cond.holds, Cond.value] at h
  cases h1 : s.vm.findClass ("[" ++ t.toString) with
  | none => simp [h1] at h
  | some cA =>
    cases h2 : s.vm.classes[cA]? with
    | none => simp [h1, h2] at h
    | some kA =>
      cases h3 : kA.kind with
      | array comp t2 =>
        simp [h1, h2, h3] at h
        obtain rfl : t2 = t := by first | exact h | exact h.symm | exact h.1 | exact h.1.symm
        exact ⟨cA, kA, comp, rfl, h2, h3⟩
      | _ => simp [h1, h2, h3] at h
theorem exS : ∀ q ∈ EVs, Cond.exactly (.string RX5 q.1) "java/lang/String" ∈ flatC (Jvm.Cond.and given_1 narrow_1) := by decide +kernel
theorem srS : ∀ q ∈ EVs, Cond.stringRef RX5 q.1 q.2 ∈ lw_tbl := by decide +kernel
theorem ncS : ∀ q ∈ EVn, Cond.not (.castable q.1 q.2) ∈ flatC (Jvm.Cond.and given_1 narrow_1) := by decide +kernel
theorem ewS : ∀ w ∈ EVw, w ∈ lw_tbl := by decide +kernel
theorem EV_start {b : Addr} {s : State} (hts : ∀ w ∈ lw_tbl, w.before #[Value.ref b] s = true) (hgv : (Jvm.Cond.and given_1 narrow_1).before #[Value.ref b] s = true) : EV s := by
  have hs := flat_of_before _ hgv
  refine ⟨fun w hw => va_Nw.of (EV.tab (s := s) w hw) (hts w (ewS w hw)), fun q hq => ?_, fun q hq => va_Nc.of (hs _ (ncS q hq))⟩
  obtain ⟨a, c, cA, kA, q1, -⟩ := Cond.exactly_spec (args := #[Value.ref b]) (first := s) (o := none) (s := s) (idx := []) (t := .string RX5 q.1) (cls := "java/lang/String") (hs _ (exS q hq))
  exact ⟨a, vk_R.of (A := #[Value.ref b]) (hts _ (srS q hq)) q1⟩
theorem SZ_start {b : Addr} {s : State} (hts : ∀ w ∈ lw_tbl, w.before #[Value.ref b] s = true) (hgv : (Jvm.Cond.and given_1 narrow_1).before #[Value.ref b] s = true) : SZ (fun q : Nat => s.heap.size ≤ q) s s.heap := by
  have hs := flat_of_before _ hgv
  exact ⟨vx_Zqof (hts (.laysStatic Bundle.tN "UNASSIGNED_STACK" Bundle.steD) (by decide +kernel)) (hts (.initialized Bundle.tN) (by decide +kernel)) (hs (.isRef (.static Bundle.tN "UNASSIGNED_STACK" Bundle.steD)) (by decide +kernel)) (fun a h => Nat.not_le.mpr h),
    vx_Zqof (hts (.laysStatic Bundle.tN "SUPPRESSED_SENTINEL" Bundle.listD) (by decide +kernel)) (hts (.initialized Bundle.tN) (by decide +kernel)) (hs (.isRef (.static Bundle.tN "SUPPRESSED_SENTINEL" Bundle.listD)) (by decide +kernel)) (fun a h => Nat.not_le.mpr h)⟩
theorem NL_start {b : Addr} {s : State} (hts : ∀ w ∈ lw_tbl, w.before #[Value.ref b] s = true) : NL s :=
  ⟨va_Nw.of rfl (hts _ (by decide +kernel)), va_Nw.of rfl (hts _ (by decide +kernel)), va_Nw.of rfl (hts _ (by decide +kernel)), va_Nw.of rfl (hts _ (by decide +kernel)), va_Nw.of rfl (hts _ (by decide +kernel))⟩
set_option maxHeartbeats 4000000 in
set_option maxRecDepth 100000 in
theorem law_room {p : Program} {e : Env} {s : State} {m : MethodId} {below : List Frame} {meth : Method} {c : Code} (l : Launch) (hflags : l.flags = flags0) {b9 L : Nat} {xs : Nat → Int32} (hL : L ≤ 260) (h4 : 4 ≤ L) (h0 : ∀ j, j < 4 → xs j = 0)
    (hx : p.tables.exec = Jvm.exec) (hb : c.code = code) (hml : c.maxLocals = 6) (hown : s.vm.findClass RL = some m.cls) (hts0 : ∀ w ∈ lw_tbl, w.before #[Value.ref b9] s = true) (hX : va_X b9 L xs s s.heap) (hbl : b9 < s.heap.size) (hgv : (Jvm.Cond.and given_1 narrow_1).before #[Value.ref b9] s = true) :
    W p l e R2 s m #[Value.ref b9] below meth c s.heap [] 0 0 (fun t => s.heap.size + 184 ≤ t.heap.size) (entryFrame m ([Value.ref b9] : List Value).toArray 6) := by
  have hts : ∀ w ∈ wsL_law, w.before #[Value.ref b9] s = true := fun w h => hts0 w (wsL_law_in w h)
  have hA : ∀ q : Nat, s.heap.size ≤ q → (fun q : Nat => s.heap.size ≤ q) q := fun _ h => h
  have hbA : ¬ (fun q : Nat => s.heap.size ≤ q) b9 := Nat.not_le.mpr hbl
  have hfl : l.stackTraces = false := by unfold Launch.stackTraces; rw [hflags]; decide +kernel
  have hEV := EV_start hts0 hgv
  have hZ := SZ_start hts0 hgv
  have hNL := NL_start hts0
  obtain ⟨c0, iS0, hKn0⟩ := u_known (C := RX0) (T := TX0) (N := 6) (n := 6) hts0 inX0 (hts0 (.instantiable RX0 6) (by decide +kernel))
  obtain ⟨c1, iS1, hKn1⟩ := u_known (C := RX1) (T := TX1) (N := 3) (n := 3) hts0 inX1 (hts0 (.instantiable RX1 3) (by decide +kernel))
  obtain ⟨c2, iS2, hKn2⟩ := u_known (C := RX2) (T := TX2) (N := 1) (n := 1) hts0 inX2 (hts0 (.instantiable RX2 1) (by decide +kernel))
  obtain ⟨c3, iS3, hKn3⟩ := u_known (C := RX3) (T := TX3) (N := 5) (n := 5) hts0 inX3 (hts0 (.instantiable RX3 5) (by decide +kernel))
  obtain ⟨c4, iS4, hKn4⟩ := u_known (C := RX4) (T := TX4) (N := 4) (n := 4) hts0 inX4 (hts0 (.instantiable RX4 4) (by decide +kernel))
  obtain ⟨c5, iS5, hKn5⟩ := u_known (C := RX5) (T := TX5) (N := 8) (n := 8) hts0 inX5 (hts0 (.instantiable RX5 8) (by decide +kernel))
  obtain ⟨D, hKc⟩ : ∃ (D : va_G), ∀ (k : Nat) (q : vw_C), vwCl[k]? = some q → u_Kn s q.1 q.2.1 q.2.2 (D.1 k) (D.2 k) := by
    refine ⟨(fun k => if k = 0 then c0 else if k = 1 then c1 else if k = 2 then c2 else if k = 3 then c3 else if k = 4 then c4 else c5, fun k => if k = 0 then iS0 else if k = 1 then iS1 else if k = 2 then iS2 else if k = 3 then iS3 else if k = 4 then iS4 else iS5), ?_⟩
    intro k q hq
    match k, hq with
    | 0, hq => cases hq; exact hKn0
    | 1, hq => cases hq; exact hKn1
    | 2, hq => cases hq; exact hKn2
    | 3, hq => cases hq; exact hKn3
    | 4, hq => cases hq; exact hKn4
    | 5, hq => cases hq; exact hKn5
    | k + 6, hq => simp [vwCl] at hq
  obtain ⟨cI, kI, pI, i1, i2, i3⟩ := ac_spec (hts0 (.arrayClass .int) (by decide +kernel))
  obtain ⟨cZ, kZ, pZ, z1, z2, z3⟩ := ac_spec (hts0 (.arrayClass .boolean) (by decide +kernel))
  have hK : va_K D vwCl (ty2 cI cZ) s := by
    refine ⟨hKc, fun k q hq => ?_⟩
    match k, hq with
    | 0, hq => cases hq; exact ⟨fun n z => ⟨fun k h => (by cases h), kI, i2, pI, i3⟩, i1⟩
    | 1, hq => cases hq; exact ⟨fun n z => ⟨fun k h => (by cases h), kZ, z2, pZ, z3⟩, z1⟩
    | k + 2, hq => simp at hq
  have hS : va_S (fun q : Nat => s.heap.size ≤ q) s.heap s.heap [] := va_S.rf
  have hP : va_P D vwCl [] s.heap := fun k q h => by simp at h
  have hD : va_D (fun q : Nat => s.heap.size ≤ q) [] := ⟨fun i j p q h => by simp at h, fun k q h => by simp at h⟩
  have hl := lv_entry ([.ref b9]) (n := 6) (Nat.le_of_ble_eq_true rfl)
  rw [lg_entry_eq]
  generalize (lg_sl ([.ref b9]) ++ List.replicate (6 - (lg_sl ([.ref b9])).length) Slot.unset).toArray = ls at hl ⊢
  have hl : lv_has ls 6 [(0, .ref b9)] := hl
  refine va_new (ci := 5) (fs := [.null, .null, .null, .null, .null, .null, .int 0, .int 0]) (C := RX5) (T := TX5) (N := 8) hx hb hts0 inX5 tyX5 tyX5_ok hown (hts0 (.classLink RL 9 RX5) (by decide +kernel)) (hts0 (.instantiable RX5 8) (by decide +kernel)) (hts0 (.initialized RX5) (by decide +kernel)) hK hP hD hS hA rfl (fun j hj => by rcases (show j = 0 ∨ j = 1 ∨ j = 2 ∨ j = 3 ∨ j = 4 ∨ j = 5 ∨ j = 6 ∨ j = 7 by omega) with rfl | rfl | rfl | rfl | rfl | rfl | rfl | rfl <;> rfl) (Nat.le_of_ble_eq_true rfl) (Nat.le_of_ble_eq_true rfl) dL_law_0 (fun q5 H hP hD hS => ?_)
  refine W.widen (k := 1) (n := 8) (by omega) (by omega) ?_
  refine lv_dup hx hb dL_law_3 rfl ?_
  have hP : va_P D vwCl [(q5, .inr (5, [.null, .null, .null, .null, .null, .null, .int 0, .int 0]))] H := hP
  have hD : va_D (fun q : Nat => s.heap.size ≤ q) [(q5, .inr (5, [.null, .null, .null, .null, .null, .null, .int 0, .int 0]))] := hD
  have hFc := va_free (wc := [(q5, .inr (5, [.null, .null, .null, .null, .null, .null, .int 0, .int 0]))]) hD hS hA [0] rfl
  refine va_callv (va_runI (As := []) (rest := [.ref q5]) ⟨hx, hb, hml, hown, hts⟩ (k_X5 l D cI cZ q5 H.size) (cwI 0 hts gL_law_X5_init rfl rfl rfl (hts0 (.initialized RX5) (by decide +kernel)) (hts0 (.methodLink RL 116 yX5_init) (by decide +kernel)) (hts0 (.instanceMethod yX5_init) (by decide +kernel)) rfl (by decide +kernel) ⟨Nat.le_of_ble_eq_true rfl, Nat.le_of_ble_eq_true rfl⟩) ⟨fun a U g mk q => ⟨q.1, q.2.calling⟩, fun U hU hW => ⟨rfl, PC.at hP hK hD hNL hU hW⟩⟩ rfl rfl hl.1 rfl (lv_room (Nat.le_of_ble_eq_true rfl)) dL_law_4 ⟨Nat.le_of_ble_eq_true rfl, Nat.le_of_ble_eq_true rfl⟩) hS (fun q _ h => hFc q h) hFc (fun u t H1 locs ht hvm hw hB hz1 hk1 hS => ?_)
  obtain ⟨a, rfl⟩ : ∃ z, z = u := ⟨_, rfl⟩
  obtain ⟨hP1, hK1, hD1⟩ := hB
  rw [ht] at hP1
  obtain ⟨hPn, hDn⟩ := va_join (wr := []) (w1 := wX cI cZ a z0) hP hD [0] [] rfl rfl (by decide) (by decide) hk1 hFc hP1 hD1
  clear hP hD
  generalize H1 = H at hPn hS ⊢
  have hw : a 0 = q5 := hw
  subst hw
  have hP : va_P D vwCl (wX cI cZ a z0) H := hPn
  have hD : va_D (fun q : Nat => s.heap.size ≤ q) (wX cI cZ a z0) := hDn
  refine W.widen (k := 27) (n := 302) (by omega) (by omega) ?_
  refine lv_astore_n (lv' := [(1, .ref (a 0)), (0, .ref b9)]) hx hb dL_law_7 rfl hl (by decide) rfl (fun ls hl => ?_)
  refine va_new (ci := 5) (fs := [.null, .null, .null, .null, .null, .null, .int 0, .int 0]) (C := RX5) (T := TX5) (N := 8) hx hb hts0 inX5 tyX5 tyX5_ok hown (hts0 (.classLink RL 9 RX5) (by decide +kernel)) (hts0 (.instantiable RX5 8) (by decide +kernel)) (hts0 (.initialized RX5) (by decide +kernel)) hK hP hD hS hA rfl (fun j hj => by rcases (show j = 0 ∨ j = 1 ∨ j = 2 ∨ j = 3 ∨ j = 4 ∨ j = 5 ∨ j = 6 ∨ j = 7 by omega) with rfl | rfl | rfl | rfl | rfl | rfl | rfl | rfl <;> rfl) (Nat.le_of_ble_eq_true rfl) (Nat.le_of_ble_eq_true rfl) dL_law_8 (fun q6 H hP hD hS => ?_)
  refine W.widen (k := 28) (n := 310) (by omega) (by omega) ?_
  refine lv_dup hx hb dL_law_11 rfl ?_
  have hP : va_P D vwCl (wX cI cZ a z0 ++ [(q6, .inr (5, [.null, .null, .null, .null, .null, .null, .int 0, .int 0]))]) H := hP
  have hD : va_D (fun q : Nat => s.heap.size ≤ q) (wX cI cZ a z0 ++ [(q6, .inr (5, [.null, .null, .null, .null, .null, .null, .int 0, .int 0]))]) := hD
  have hPc : va_P D vwCl [(q6, .inr (5, [.null, .null, .null, .null, .null, .null, .int 0, .int 0]))] H := hP.sub (ws' := [(q6, .inr (5, [.null, .null, .null, .null, .null, .null, .int 0, .int 0]))]) [27] rfl
  have hDc : va_D (fun q : Nat => s.heap.size ≤ q) [(q6, .inr (5, [.null, .null, .null, .null, .null, .null, .int 0, .int 0]))] := hD.sub (ws' := [(q6, .inr (5, [.null, .null, .null, .null, .null, .null, .int 0, .int 0]))]) [27] (by decide) rfl
  have hFc := va_free (wc := [(q6, .inr (5, [.null, .null, .null, .null, .null, .null, .int 0, .int 0]))]) hD hS hA [27] rfl
  refine va_callv (va_runI (As := []) (rest := [.ref q6]) ⟨hx, hb, hml, hown, hts⟩ (k_X5 l D cI cZ q6 H.size) (cwI 0 hts gL_law_X5_init rfl rfl rfl (hts0 (.initialized RX5) (by decide +kernel)) (hts0 (.methodLink RL 116 yX5_init) (by decide +kernel)) (hts0 (.instanceMethod yX5_init) (by decide +kernel)) rfl (by decide +kernel) ⟨Nat.le_of_ble_eq_true rfl, Nat.le_of_ble_eq_true rfl⟩) ⟨fun a U g mk q => ⟨q.1, q.2.calling⟩, fun U hU hW => ⟨rfl, PC.at hPc hK hDc hNL hU hW⟩⟩ rfl rfl hl.1 rfl (lv_room (Nat.le_of_ble_eq_true rfl)) dL_law_12 ⟨Nat.le_of_ble_eq_true rfl, Nat.le_of_ble_eq_true rfl⟩) hS (fun q _ h => hFc q h) hFc (fun u t H1 locs ht hvm hw hB hz1 hk1 hS => ?_)
  obtain ⟨b, rfl⟩ : ∃ z, z = u := ⟨_, rfl⟩
  obtain ⟨hP1, hK1, hD1⟩ := hB
  rw [ht] at hP1
  obtain ⟨hPn, hDn⟩ := va_join (wr := wX cI cZ a z0) (w1 := wX cI cZ b z0) hP hD [27] [0, 1, 2, 3, 4, 5, 6, 7, 8, 9, 10, 11, 12, 13, 14, 15, 16, 17, 18, 19, 20, 21, 22, 23, 24, 25, 26] rfl rfl (by decide) (by decide) hk1 hFc hP1 hD1
  clear hP hD hPc hDc
  generalize H1 = H at hPn hS ⊢
  have hw : b 0 = q6 := hw
  subst hw
  have hP : va_P D vwCl (w2 cI cZ a b (z0, z0)) H := hPn
  have hD : va_D (fun q : Nat => s.heap.size ≤ q) (w2 cI cZ a b (z0, z0)) := hDn
  refine W.widen (k := 54) (n := 604) (by omega) (by omega) ?_
  refine lv_astore_n (lv' := [(2, .ref (b 0)), (1, .ref (a 0)), (0, .ref b9)]) hx hb dL_law_15 rfl hl (by decide) rfl (fun ls hl => ?_)
  have hG : s.heap.size + 0 ≤ H.size := hS.1
  refine lv_iconst (v := 0) hx hb dL_law_16 (by decide) ?_
  refine lv_istore_n (lv' := [(3, .int 0), (2, .ref (b 0)), (1, .ref (a 0)), (0, .ref b9)]) hx hb dL_law_17 rfl hl (by decide) rfl (fun ls hl => ?_)
  refine lv_iload_n hx hb dL_law_18 rfl (lv_at hl 0 rfl) ?_
  refine lv_bipush (v := 110) hx hb dL_law_19 (by decide) ?_
  refine lv_icmp_ge (tgt := 201) hx hb dL_law_21 (by decide) (fun c9 => absurd c9 (by decide)) (fun _ => ?_)
  refine lv_aload_n hx hb dL_law_24 rfl (lv_at hl 3 rfl) ?_
  refine lv_iload_n hx hb dL_law_25 rfl (lv_at hl 0 rfl) ?_
  refine lv_bipush (v := 61) hx hb dL_law_26 (by decide) ?_
  refine lv_irem hx hb dL_law_28 (by decide) ?_
  refine lv_topi (fun v_1 e_1 => ?_)
  obtain rfl : v_1 = 0 := e_1.trans (by decide +kernel)
  refine CE_callS (x := 0) (rest := []) ⟨hx, hb, hml, hown, hts⟩ (g_cell l D (ty2 cI cZ) (w2 cI cZ a b) (z0, z0) H.size b9 L xs 0 (by omega) (by omega)) (va_cwS 2 hts gL_law_L_cell rfl rfl rfl (by decide +kernel) ⟨Nat.le_of_ble_eq_true rfl, Nat.le_of_ble_eq_true rfl⟩) hX hbl hbA hP hK hD hS hA hEV hZ hl.1 (Nat.le_of_ble_eq_true rfl) (Nat.le_of_ble_eq_true rfl) (Nat.le_of_ble_eq_true rfl) dL_law_29 rfl (fun r_2 u_2 H_2 locs h_2 hP hD hS hg => ?_)
  have h_2 : u_2 = (z0, z0) ∧ r_2 = 0 := ⟨h_2.1, h_2.2.trans (h0 0 (by decide))⟩
  obtain ⟨e_2, f_2⟩ := h_2
  subst e_2
  subst f_2
  have hG : s.heap.size + 0 ≤ H_2.size := by omega
  refine lv_sipush (v := 1151) hx hb dL_law_32 (by decide) ?_
  refine lv_iload_n hx hb dL_law_35 rfl (lv_at hl 0 rfl) ?_
  refine lv_bipush (v := 61) hx hb dL_law_36 (by decide) ?_
  refine lv_idiv hx hb dL_law_38 (by decide) ?_
  refine lv_topi (fun v_3 e_3 => ?_)
  obtain rfl : v_3 = 0 := e_3.trans (by decide +kernel)
  refine lv_imul hx hb dL_law_39 ?_
  refine lv_topi (fun v_4 e_4 => ?_)
  obtain rfl : v_4 = 0 := e_4.trans (by decide +kernel)
  refine lv_iadd hx hb dL_law_40 ?_
  refine lv_topi (fun v_5 e_5 => ?_)
  obtain rfl : v_5 = 0 := e_5.trans (by decide +kernel)
  refine lv_istore (lv' := [(4, .int 0), (3, .int 0), (2, .ref (b 0)), (1, .ref (a 0)), (0, .ref b9)]) hx hb dL_law_41 hl (by decide) rfl (fun ls hl => ?_)
  refine lv_aload_n hx hb dL_law_43 rfl (lv_at hl 3 rfl) ?_
  refine lv_iload hx hb dL_law_44 (lv_at hl 0 rfl) ?_
  refine MG.callS (As := [.ref (a 0), .int 0]) (rest := []) ⟨hx, hb, hml, hown, hts⟩ (fA b (g_act l D cI cZ a H_2.size hfl)) (va_cwS 2 hts gL_law_L_act rfl rfl rfl (by decide +kernel) ⟨Nat.le_of_ble_eq_true rfl, Nat.le_of_ble_eq_true rfl⟩) hP hK hD hS hA hEV hZ rfl hl.1 (Nat.le_of_ble_eq_true rfl) (Nat.le_of_ble_eq_true rfl) (Nat.le_of_ble_eq_true rfl) dL_law_46 rfl (fun r_6 u_6 H_6 locs h_6 hP hD hS hg => ?_)
  have h_6 : u_6 = (z0, z0) ∧ r_6 = (-99999) := h_6
  obtain ⟨e_6, f_6⟩ := h_6
  subst e_6
  subst f_6
  have hG : s.heap.size + 1 ≤ H_6.size := by omega
  refine lv_istore (lv' := [(5, .int (-99999)), (4, .int 0), (3, .int 0), (2, .ref (b 0)), (1, .ref (a 0)), (0, .ref b9)]) hx hb dL_law_49 hl (by decide) rfl (fun ls hl => ?_)
  refine lv_iload hx hb dL_law_51 (lv_at hl 0 rfl) ?_
  refine lv_ldc (v := (-99999)) hx hb hown (hts (.constant RL 54 (-99999)) (by decide +kernel)) dL_law_53 ?_
  refine lv_icmp_eq (tgt := 69) hx hb dL_law_55 (by decide) (fun _ => ?_) (fun c9 => absurd (by decide) c9)
  refine lv_iload_n hx hb dL_law_69 rfl (lv_at hl 2 rfl) ?_
  refine lv_bipush (v := 6) hx hb dL_law_70 (by decide) ?_
  refine lv_irem hx hb dL_law_72 (by decide) ?_
  refine lv_topi (fun v_7 e_7 => ?_)
  obtain rfl : v_7 = 0 := e_7.trans (by decide +kernel)
  refine lv_iconst (v := 3) hx hb dL_law_73 (by decide) ?_
  refine lv_icmp_ne (tgt := 85) hx hb dL_law_74 (by decide) (fun _ => ?_) (fun c9 => absurd c9 (by decide))
  refine lv_iload_n hx hb dL_law_85 rfl (lv_at hl 2 rfl) ?_
  refine lv_iconst (v := 3) hx hb dL_law_86 (by decide) ?_
  refine lv_irem hx hb dL_law_87 (by decide) ?_
  refine lv_topi (fun v_8 e_8 => ?_)
  obtain rfl : v_8 = 0 := e_8.trans (by decide +kernel)
  refine lv_iconst (v := 1) hx hb dL_law_88 (by decide) ?_
  refine lv_icmp_ne (tgt := 99) hx hb dL_law_89 (by decide) (fun _ => ?_) (fun c9 => absurd c9 (by decide))
  refine lv_iload_n hx hb dL_law_99 rfl (lv_at hl 2 rfl) ?_
  refine lv_iconst (v := 5) hx hb dL_law_100 (by decide) ?_
  refine lv_irem hx hb dL_law_101 (by decide) ?_
  refine lv_topi (fun v_9 e_9 => ?_)
  obtain rfl : v_9 = 0 := e_9.trans (by decide +kernel)
  refine lv_iconst (v := 2) hx hb dL_law_102 (by decide) ?_
  refine lv_icmp_ne (tgt := 134) hx hb dL_law_103 (by decide) (fun _ => ?_) (fun c9 => absurd c9 (by decide))
  refine lv_iload_n hx hb dL_law_134 rfl (lv_at hl 2 rfl) ?_
  refine lv_bipush (v := 8) hx hb dL_law_135 (by decide) ?_
  refine lv_irem hx hb dL_law_137 (by decide) ?_
  refine lv_topi (fun v_10 e_10 => ?_)
  obtain rfl : v_10 = 0 := e_10.trans (by decide +kernel)
  refine lv_bipush (v := 6) hx hb dL_law_138 (by decide) ?_
  refine lv_icmp_ne (tgt := 168) hx hb dL_law_140 (by decide) (fun _ => ?_) (fun c9 => absurd c9 (by decide))
  refine lv_iload_n hx hb dL_law_168 rfl (lv_at hl 2 rfl) ?_
  refine lv_bipush (v := 7) hx hb dL_law_169 (by decide) ?_
  refine lv_irem hx hb dL_law_171 (by decide) ?_
  refine lv_topi (fun v_11 e_11 => ?_)
  obtain rfl : v_11 = 0 := e_11.trans (by decide +kernel)
  refine lv_iconst (v := 4) hx hb dL_law_172 (by decide) ?_
  refine lv_icmp_ne (tgt := 195) hx hb dL_law_173 (by decide) (fun _ => ?_) (fun c9 => absurd c9 (by decide))
  refine lv_iinc (v := 1) (lv' := [(3, .int 1), (5, .int (-99999)), (4, .int 0), (2, .ref (b 0)), (1, .ref (a 0)), (0, .ref b9)]) hx hb dL_law_195 hl (k := 2) rfl (by decide +kernel) (by decide) rfl (fun ls hl => ?_)
  refine lv_goto (tgt := 18) hx hb dL_law_198 (by decide) ?_
  refine lv_iload_n hx hb dL_law_18 rfl (lv_at hl 0 rfl) ?_
  refine lv_bipush (v := 110) hx hb dL_law_19 (by decide) ?_
  refine lv_icmp_ge (tgt := 201) hx hb dL_law_21 (by decide) (fun c9 => absurd c9 (by decide)) (fun _ => ?_)
  refine lv_aload_n hx hb dL_law_24 rfl (lv_at hl 5 rfl) ?_
  refine lv_iload_n hx hb dL_law_25 rfl (lv_at hl 0 rfl) ?_
  refine lv_bipush (v := 61) hx hb dL_law_26 (by decide) ?_
  refine lv_irem hx hb dL_law_28 (by decide) ?_
  refine lv_topi (fun v_12 e_12 => ?_)
  obtain rfl : v_12 = 1 := e_12.trans (by decide +kernel)
  refine CE_callS (x := 1) (rest := []) ⟨hx, hb, hml, hown, hts⟩ (g_cell l D (ty2 cI cZ) (w2 cI cZ a b) (z0, z0) H_6.size b9 L xs 1 (by omega) (by omega)) (va_cwS 2 hts gL_law_L_cell rfl rfl rfl (by decide +kernel) ⟨Nat.le_of_ble_eq_true rfl, Nat.le_of_ble_eq_true rfl⟩) hX hbl hbA hP hK hD hS hA hEV hZ hl.1 (Nat.le_of_ble_eq_true rfl) (Nat.le_of_ble_eq_true rfl) (Nat.le_of_ble_eq_true rfl) dL_law_29 rfl (fun r_13 u_13 H_13 locs h_13 hP hD hS hg => ?_)
  have h_13 : u_13 = (z0, z0) ∧ r_13 = 0 := ⟨h_13.1, h_13.2.trans (h0 1 (by decide))⟩
  obtain ⟨e_13, f_13⟩ := h_13
  subst e_13
  subst f_13
  have hG : s.heap.size + 1 ≤ H_13.size := by omega
  refine lv_sipush (v := 1151) hx hb dL_law_32 (by decide) ?_
  refine lv_iload_n hx hb dL_law_35 rfl (lv_at hl 0 rfl) ?_
  refine lv_bipush (v := 61) hx hb dL_law_36 (by decide) ?_
  refine lv_idiv hx hb dL_law_38 (by decide) ?_
  refine lv_topi (fun v_14 e_14 => ?_)
  obtain rfl : v_14 = 0 := e_14.trans (by decide +kernel)
  refine lv_imul hx hb dL_law_39 ?_
  refine lv_topi (fun v_15 e_15 => ?_)
  obtain rfl : v_15 = 0 := e_15.trans (by decide +kernel)
  refine lv_iadd hx hb dL_law_40 ?_
  refine lv_topi (fun v_16 e_16 => ?_)
  obtain rfl : v_16 = 0 := e_16.trans (by decide +kernel)
  refine lv_istore (lv' := [(4, .int 0), (3, .int 1), (5, .int (-99999)), (2, .ref (b 0)), (1, .ref (a 0)), (0, .ref b9)]) hx hb dL_law_41 hl (by decide) rfl (fun ls hl => ?_)
  refine lv_aload_n hx hb dL_law_43 rfl (lv_at hl 4 rfl) ?_
  refine lv_iload hx hb dL_law_44 (lv_at hl 0 rfl) ?_
  refine MG.callS (As := [.ref (a 0), .int 0]) (rest := []) ⟨hx, hb, hml, hown, hts⟩ (fA b (g_act l D cI cZ a H_13.size hfl)) (va_cwS 2 hts gL_law_L_act rfl rfl rfl (by decide +kernel) ⟨Nat.le_of_ble_eq_true rfl, Nat.le_of_ble_eq_true rfl⟩) hP hK hD hS hA hEV hZ rfl hl.1 (Nat.le_of_ble_eq_true rfl) (Nat.le_of_ble_eq_true rfl) (Nat.le_of_ble_eq_true rfl) dL_law_46 rfl (fun r_17 u_17 H_17 locs h_17 hP hD hS hg => ?_)
  have h_17 : u_17 = (z0, z0) ∧ r_17 = (-99999) := h_17
  obtain ⟨e_17, f_17⟩ := h_17
  subst e_17
  subst f_17
  have hG : s.heap.size + 2 ≤ H_17.size := by omega
  refine lv_istore (lv' := [(5, .int (-99999)), (4, .int 0), (3, .int 1), (2, .ref (b 0)), (1, .ref (a 0)), (0, .ref b9)]) hx hb dL_law_49 hl (by decide) rfl (fun ls hl => ?_)
  refine lv_iload hx hb dL_law_51 (lv_at hl 0 rfl) ?_
  refine lv_ldc (v := (-99999)) hx hb hown (hts (.constant RL 54 (-99999)) (by decide +kernel)) dL_law_53 ?_
  refine lv_icmp_eq (tgt := 69) hx hb dL_law_55 (by decide) (fun _ => ?_) (fun c9 => absurd (by decide) c9)
  refine lv_iload_n hx hb dL_law_69 rfl (lv_at hl 2 rfl) ?_
  refine lv_bipush (v := 6) hx hb dL_law_70 (by decide) ?_
  refine lv_irem hx hb dL_law_72 (by decide) ?_
  refine lv_topi (fun v_18 e_18 => ?_)
  obtain rfl : v_18 = 1 := e_18.trans (by decide +kernel)
  refine lv_iconst (v := 3) hx hb dL_law_73 (by decide) ?_
  refine lv_icmp_ne (tgt := 85) hx hb dL_law_74 (by decide) (fun _ => ?_) (fun c9 => absurd c9 (by decide))
  refine lv_iload_n hx hb dL_law_85 rfl (lv_at hl 2 rfl) ?_
  refine lv_iconst (v := 3) hx hb dL_law_86 (by decide) ?_
  refine lv_irem hx hb dL_law_87 (by decide) ?_
  refine lv_topi (fun v_19 e_19 => ?_)
  obtain rfl : v_19 = 1 := e_19.trans (by decide +kernel)
  refine lv_iconst (v := 1) hx hb dL_law_88 (by decide) ?_
  refine lv_icmp_ne (tgt := 99) hx hb dL_law_89 (by decide) (fun c9 => absurd (by decide) c9) (fun _ => ?_)
  refine lv_aload_n hx hb dL_law_92 rfl (lv_at hl 4 rfl) ?_
  refine MG.callS (As := [.ref (a 0)]) (rest := []) ⟨hx, hb, hml, hown, hts⟩ (fA b (g_places l D cI cZ a H_17.size hfl)) (va_cwS 1 hts gL_law_L_arePlacesSo rfl rfl rfl (by decide +kernel) ⟨Nat.le_of_ble_eq_true rfl, Nat.le_of_ble_eq_true rfl⟩) hP hK hD hS hA hEV hZ rfl hl.1 (Nat.le_of_ble_eq_true rfl) (Nat.le_of_ble_eq_true rfl) (Nat.le_of_ble_eq_true rfl) dL_law_93 rfl (fun r_20 u_20 H_20 locs h_20 hP hD hS hg => ?_)
  have h_20 : u_20 = (z0, z0) ∧ r_20 = 1 := h_20
  obtain ⟨e_20, f_20⟩ := h_20
  subst e_20
  subst f_20
  have hG : s.heap.size + 3 ≤ H_20.size := by omega
  refine lv_if_eq (tgt := 132) hx hb dL_law_96 (by decide) (fun c9 => absurd c9 (by decide)) (fun _ => ?_)
  refine lv_iload_n hx hb dL_law_99 rfl (lv_at hl 2 rfl) ?_
  refine lv_iconst (v := 5) hx hb dL_law_100 (by decide) ?_
  refine lv_irem hx hb dL_law_101 (by decide) ?_
  refine lv_topi (fun v_21 e_21 => ?_)
  obtain rfl : v_21 = 1 := e_21.trans (by decide +kernel)
  refine lv_iconst (v := 2) hx hb dL_law_102 (by decide) ?_
  refine lv_icmp_ne (tgt := 134) hx hb dL_law_103 (by decide) (fun _ => ?_) (fun c9 => absurd c9 (by decide))
  refine lv_iload_n hx hb dL_law_134 rfl (lv_at hl 2 rfl) ?_
  refine lv_bipush (v := 8) hx hb dL_law_135 (by decide) ?_
  refine lv_irem hx hb dL_law_137 (by decide) ?_
  refine lv_topi (fun v_22 e_22 => ?_)
  obtain rfl : v_22 = 1 := e_22.trans (by decide +kernel)
  refine lv_bipush (v := 6) hx hb dL_law_138 (by decide) ?_
  refine lv_icmp_ne (tgt := 168) hx hb dL_law_140 (by decide) (fun _ => ?_) (fun c9 => absurd c9 (by decide))
  refine lv_iload_n hx hb dL_law_168 rfl (lv_at hl 2 rfl) ?_
  refine lv_bipush (v := 7) hx hb dL_law_169 (by decide) ?_
  refine lv_irem hx hb dL_law_171 (by decide) ?_
  refine lv_topi (fun v_23 e_23 => ?_)
  obtain rfl : v_23 = 1 := e_23.trans (by decide +kernel)
  refine lv_iconst (v := 4) hx hb dL_law_172 (by decide) ?_
  refine lv_icmp_ne (tgt := 195) hx hb dL_law_173 (by decide) (fun _ => ?_) (fun c9 => absurd c9 (by decide))
  refine lv_iinc (v := 2) (lv' := [(3, .int 2), (5, .int (-99999)), (4, .int 0), (2, .ref (b 0)), (1, .ref (a 0)), (0, .ref b9)]) hx hb dL_law_195 hl (k := 2) rfl (by decide +kernel) (by decide) rfl (fun ls hl => ?_)
  refine lv_goto (tgt := 18) hx hb dL_law_198 (by decide) ?_
  refine lv_iload_n hx hb dL_law_18 rfl (lv_at hl 0 rfl) ?_
  refine lv_bipush (v := 110) hx hb dL_law_19 (by decide) ?_
  refine lv_icmp_ge (tgt := 201) hx hb dL_law_21 (by decide) (fun c9 => absurd c9 (by decide)) (fun _ => ?_)
  refine lv_aload_n hx hb dL_law_24 rfl (lv_at hl 5 rfl) ?_
  refine lv_iload_n hx hb dL_law_25 rfl (lv_at hl 0 rfl) ?_
  refine lv_bipush (v := 61) hx hb dL_law_26 (by decide) ?_
  refine lv_irem hx hb dL_law_28 (by decide) ?_
  refine lv_topi (fun v_24 e_24 => ?_)
  obtain rfl : v_24 = 2 := e_24.trans (by decide +kernel)
  refine CE_callS (x := 2) (rest := []) ⟨hx, hb, hml, hown, hts⟩ (g_cell l D (ty2 cI cZ) (w2 cI cZ a b) (z0, z0) H_20.size b9 L xs 2 (by omega) (by omega)) (va_cwS 2 hts gL_law_L_cell rfl rfl rfl (by decide +kernel) ⟨Nat.le_of_ble_eq_true rfl, Nat.le_of_ble_eq_true rfl⟩) hX hbl hbA hP hK hD hS hA hEV hZ hl.1 (Nat.le_of_ble_eq_true rfl) (Nat.le_of_ble_eq_true rfl) (Nat.le_of_ble_eq_true rfl) dL_law_29 rfl (fun r_25 u_25 H_25 locs h_25 hP hD hS hg => ?_)
  have h_25 : u_25 = (z0, z0) ∧ r_25 = 0 := ⟨h_25.1, h_25.2.trans (h0 2 (by decide))⟩
  obtain ⟨e_25, f_25⟩ := h_25
  subst e_25
  subst f_25
  have hG : s.heap.size + 3 ≤ H_25.size := by omega
  refine lv_sipush (v := 1151) hx hb dL_law_32 (by decide) ?_
  refine lv_iload_n hx hb dL_law_35 rfl (lv_at hl 0 rfl) ?_
  refine lv_bipush (v := 61) hx hb dL_law_36 (by decide) ?_
  refine lv_idiv hx hb dL_law_38 (by decide) ?_
  refine lv_topi (fun v_26 e_26 => ?_)
  obtain rfl : v_26 = 0 := e_26.trans (by decide +kernel)
  refine lv_imul hx hb dL_law_39 ?_
  refine lv_topi (fun v_27 e_27 => ?_)
  obtain rfl : v_27 = 0 := e_27.trans (by decide +kernel)
  refine lv_iadd hx hb dL_law_40 ?_
  refine lv_topi (fun v_28 e_28 => ?_)
  obtain rfl : v_28 = 0 := e_28.trans (by decide +kernel)
  refine lv_istore (lv' := [(4, .int 0), (3, .int 2), (5, .int (-99999)), (2, .ref (b 0)), (1, .ref (a 0)), (0, .ref b9)]) hx hb dL_law_41 hl (by decide) rfl (fun ls hl => ?_)
  refine lv_aload_n hx hb dL_law_43 rfl (lv_at hl 4 rfl) ?_
  refine lv_iload hx hb dL_law_44 (lv_at hl 0 rfl) ?_
  refine MG.callS (As := [.ref (a 0), .int 0]) (rest := []) ⟨hx, hb, hml, hown, hts⟩ (fA b (g_act l D cI cZ a H_25.size hfl)) (va_cwS 2 hts gL_law_L_act rfl rfl rfl (by decide +kernel) ⟨Nat.le_of_ble_eq_true rfl, Nat.le_of_ble_eq_true rfl⟩) hP hK hD hS hA hEV hZ rfl hl.1 (Nat.le_of_ble_eq_true rfl) (Nat.le_of_ble_eq_true rfl) (Nat.le_of_ble_eq_true rfl) dL_law_46 rfl (fun r_29 u_29 H_29 locs h_29 hP hD hS hg => ?_)
  have h_29 : u_29 = (z0, z0) ∧ r_29 = (-99999) := h_29
  obtain ⟨e_29, f_29⟩ := h_29
  subst e_29
  subst f_29
  have hG : s.heap.size + 4 ≤ H_29.size := by omega
  refine lv_istore (lv' := [(5, .int (-99999)), (4, .int 0), (3, .int 2), (2, .ref (b 0)), (1, .ref (a 0)), (0, .ref b9)]) hx hb dL_law_49 hl (by decide) rfl (fun ls hl => ?_)
  refine lv_iload hx hb dL_law_51 (lv_at hl 0 rfl) ?_
  refine lv_ldc (v := (-99999)) hx hb hown (hts (.constant RL 54 (-99999)) (by decide +kernel)) dL_law_53 ?_
  refine lv_icmp_eq (tgt := 69) hx hb dL_law_55 (by decide) (fun _ => ?_) (fun c9 => absurd (by decide) c9)
  refine lv_iload_n hx hb dL_law_69 rfl (lv_at hl 2 rfl) ?_
  refine lv_bipush (v := 6) hx hb dL_law_70 (by decide) ?_
  refine lv_irem hx hb dL_law_72 (by decide) ?_
  refine lv_topi (fun v_30 e_30 => ?_)
  obtain rfl : v_30 = 2 := e_30.trans (by decide +kernel)
  refine lv_iconst (v := 3) hx hb dL_law_73 (by decide) ?_
  refine lv_icmp_ne (tgt := 85) hx hb dL_law_74 (by decide) (fun _ => ?_) (fun c9 => absurd c9 (by decide))
  refine lv_iload_n hx hb dL_law_85 rfl (lv_at hl 2 rfl) ?_
  refine lv_iconst (v := 3) hx hb dL_law_86 (by decide) ?_
  refine lv_irem hx hb dL_law_87 (by decide) ?_
  refine lv_topi (fun v_31 e_31 => ?_)
  obtain rfl : v_31 = 2 := e_31.trans (by decide +kernel)
  refine lv_iconst (v := 1) hx hb dL_law_88 (by decide) ?_
  refine lv_icmp_ne (tgt := 99) hx hb dL_law_89 (by decide) (fun _ => ?_) (fun c9 => absurd c9 (by decide))
  refine lv_iload_n hx hb dL_law_99 rfl (lv_at hl 2 rfl) ?_
  refine lv_iconst (v := 5) hx hb dL_law_100 (by decide) ?_
  refine lv_irem hx hb dL_law_101 (by decide) ?_
  refine lv_topi (fun v_32 e_32 => ?_)
  obtain rfl : v_32 = 2 := e_32.trans (by decide +kernel)
  refine lv_iconst (v := 2) hx hb dL_law_102 (by decide) ?_
  refine lv_icmp_ne (tgt := 134) hx hb dL_law_103 (by decide) (fun c9 => absurd (by decide) c9) (fun _ => ?_)
  refine lv_aload_n hx hb dL_law_106 rfl (lv_at hl 4 rfl) ?_
  refine lv_iload hx hb dL_law_107 (lv_at hl 1 rfl) ?_
  refine lv_bipush (v := 7) hx hb dL_law_109 (by decide) ?_
  refine lv_ishr hx hb dL_law_111 ?_
  refine lv_topi (fun v_33 e_33 => ?_)
  obtain rfl : v_33 = 0 := e_33.trans (by decide +kernel)
  refine lv_bipush (v := 7) hx hb dL_law_112 (by decide) ?_
  refine lv_iand hx hb dL_law_114 ?_
  refine lv_topi (fun v_34 e_34 => ?_)
  obtain rfl : v_34 = 0 := e_34.trans (by decide +kernel)
  refine lv_iload hx hb dL_law_115 (lv_at hl 1 rfl) ?_
  refine lv_bipush (v := 9) hx hb dL_law_117 (by decide) ?_
  refine lv_ishr hx hb dL_law_119 ?_
  refine lv_topi (fun v_35 e_35 => ?_)
  obtain rfl : v_35 = 0 := e_35.trans (by decide +kernel)
  refine lv_sipush (v := 400) hx hb dL_law_120 (by decide) ?_
  refine MG.callS (As := [.int 0, .int 400]) (rest := [.int 0, .ref (a 0)]) ⟨hx, hb, hml, hown, hts⟩ (g_low l D (ty2 cI cZ) (w2 cI cZ a b) (z0, z0) H_29.size 0 400 (by decide)) (va_cwS 2 hts gL_law_L_low rfl rfl rfl (by decide +kernel) ⟨Nat.le_of_ble_eq_true rfl, Nat.le_of_ble_eq_true rfl⟩) hP hK hD hS hA hEV hZ rfl hl.1 (Nat.le_of_ble_eq_true rfl) (Nat.le_of_ble_eq_true rfl) (Nat.le_of_ble_eq_true rfl) dL_law_123 rfl (fun r_36 u_36 H_36 locs h_36 hP hD hS hg => ?_)
  have h_36 : u_36 = (z0, z0) ∧ r_36 = 0 := ⟨h_36.1, h_36.2.trans (by decide +kernel)⟩
  obtain ⟨e_36, f_36⟩ := h_36
  subst e_36
  subst f_36
  have hG : s.heap.size + 4 ≤ H_36.size := by omega
  refine MG.callS (As := [.ref (a 0), .int 0, .int 0]) (rest := []) ⟨hx, hb, hml, hown, hts⟩ (fA b (g_books l D cI cZ a H_36.size hfl)) (va_cwS 3 hts gL_law_L_areBookingsSo rfl rfl rfl (by decide +kernel) ⟨Nat.le_of_ble_eq_true rfl, Nat.le_of_ble_eq_true rfl⟩) hP hK hD hS hA hEV hZ rfl hl.1 (Nat.le_of_ble_eq_true rfl) (Nat.le_of_ble_eq_true rfl) (Nat.le_of_ble_eq_true rfl) dL_law_126 rfl (fun r_37 u_37 H_37 locs h_37 hP hD hS hg => ?_)
  have h_37 : u_37 = (z0, z0) ∧ r_37 = 1 := h_37
  obtain ⟨e_37, f_37⟩ := h_37
  subst e_37
  subst f_37
  have hG : s.heap.size + 7 ≤ H_37.size := by omega
  refine lv_if_ne (tgt := 134) hx hb dL_law_129 (by decide) (fun _ => ?_) (fun c9 => absurd c9 (by decide))
  refine lv_iload_n hx hb dL_law_134 rfl (lv_at hl 2 rfl) ?_
  refine lv_bipush (v := 8) hx hb dL_law_135 (by decide) ?_
  refine lv_irem hx hb dL_law_137 (by decide) ?_
  refine lv_topi (fun v_38 e_38 => ?_)
  obtain rfl : v_38 = 2 := e_38.trans (by decide +kernel)
  refine lv_bipush (v := 6) hx hb dL_law_138 (by decide) ?_
  refine lv_icmp_ne (tgt := 168) hx hb dL_law_140 (by decide) (fun _ => ?_) (fun c9 => absurd c9 (by decide))
  refine lv_iload_n hx hb dL_law_168 rfl (lv_at hl 2 rfl) ?_
  refine lv_bipush (v := 7) hx hb dL_law_169 (by decide) ?_
  refine lv_irem hx hb dL_law_171 (by decide) ?_
  refine lv_topi (fun v_39 e_39 => ?_)
  obtain rfl : v_39 = 2 := e_39.trans (by decide +kernel)
  refine lv_iconst (v := 4) hx hb dL_law_172 (by decide) ?_
  refine lv_icmp_ne (tgt := 195) hx hb dL_law_173 (by decide) (fun _ => ?_) (fun c9 => absurd c9 (by decide))
  refine lv_iinc (v := 3) (lv' := [(3, .int 3), (5, .int (-99999)), (4, .int 0), (2, .ref (b 0)), (1, .ref (a 0)), (0, .ref b9)]) hx hb dL_law_195 hl (k := 2) rfl (by decide +kernel) (by decide) rfl (fun ls hl => ?_)
  refine lv_goto (tgt := 18) hx hb dL_law_198 (by decide) ?_
  refine lv_iload_n hx hb dL_law_18 rfl (lv_at hl 0 rfl) ?_
  refine lv_bipush (v := 110) hx hb dL_law_19 (by decide) ?_
  refine lv_icmp_ge (tgt := 201) hx hb dL_law_21 (by decide) (fun c9 => absurd c9 (by decide)) (fun _ => ?_)
  refine lv_aload_n hx hb dL_law_24 rfl (lv_at hl 5 rfl) ?_
  refine lv_iload_n hx hb dL_law_25 rfl (lv_at hl 0 rfl) ?_
  refine lv_bipush (v := 61) hx hb dL_law_26 (by decide) ?_
  refine lv_irem hx hb dL_law_28 (by decide) ?_
  refine lv_topi (fun v_40 e_40 => ?_)
  obtain rfl : v_40 = 3 := e_40.trans (by decide +kernel)
  refine CE_callS (x := 3) (rest := []) ⟨hx, hb, hml, hown, hts⟩ (g_cell l D (ty2 cI cZ) (w2 cI cZ a b) (z0, z0) H_37.size b9 L xs 3 (by omega) (by omega)) (va_cwS 2 hts gL_law_L_cell rfl rfl rfl (by decide +kernel) ⟨Nat.le_of_ble_eq_true rfl, Nat.le_of_ble_eq_true rfl⟩) hX hbl hbA hP hK hD hS hA hEV hZ hl.1 (Nat.le_of_ble_eq_true rfl) (Nat.le_of_ble_eq_true rfl) (Nat.le_of_ble_eq_true rfl) dL_law_29 rfl (fun r_41 u_41 H_41 locs h_41 hP hD hS hg => ?_)
  have h_41 : u_41 = (z0, z0) ∧ r_41 = 0 := ⟨h_41.1, h_41.2.trans (h0 3 (by decide))⟩
  obtain ⟨e_41, f_41⟩ := h_41
  subst e_41
  subst f_41
  have hG : s.heap.size + 7 ≤ H_41.size := by omega
  refine lv_sipush (v := 1151) hx hb dL_law_32 (by decide) ?_
  refine lv_iload_n hx hb dL_law_35 rfl (lv_at hl 0 rfl) ?_
  refine lv_bipush (v := 61) hx hb dL_law_36 (by decide) ?_
  refine lv_idiv hx hb dL_law_38 (by decide) ?_
  refine lv_topi (fun v_42 e_42 => ?_)
  obtain rfl : v_42 = 0 := e_42.trans (by decide +kernel)
  refine lv_imul hx hb dL_law_39 ?_
  refine lv_topi (fun v_43 e_43 => ?_)
  obtain rfl : v_43 = 0 := e_43.trans (by decide +kernel)
  refine lv_iadd hx hb dL_law_40 ?_
  refine lv_topi (fun v_44 e_44 => ?_)
  obtain rfl : v_44 = 0 := e_44.trans (by decide +kernel)
  refine lv_istore (lv' := [(4, .int 0), (3, .int 3), (5, .int (-99999)), (2, .ref (b 0)), (1, .ref (a 0)), (0, .ref b9)]) hx hb dL_law_41 hl (by decide) rfl (fun ls hl => ?_)
  refine lv_aload_n hx hb dL_law_43 rfl (lv_at hl 4 rfl) ?_
  refine lv_iload hx hb dL_law_44 (lv_at hl 0 rfl) ?_
  refine MG.callS (As := [.ref (a 0), .int 0]) (rest := []) ⟨hx, hb, hml, hown, hts⟩ (fA b (g_act l D cI cZ a H_41.size hfl)) (va_cwS 2 hts gL_law_L_act rfl rfl rfl (by decide +kernel) ⟨Nat.le_of_ble_eq_true rfl, Nat.le_of_ble_eq_true rfl⟩) hP hK hD hS hA hEV hZ rfl hl.1 (Nat.le_of_ble_eq_true rfl) (Nat.le_of_ble_eq_true rfl) (Nat.le_of_ble_eq_true rfl) dL_law_46 rfl (fun r_45 u_45 H_45 locs h_45 hP hD hS hg => ?_)
  have h_45 : u_45 = (z0, z0) ∧ r_45 = (-99999) := h_45
  obtain ⟨e_45, f_45⟩ := h_45
  subst e_45
  subst f_45
  have hG : s.heap.size + 8 ≤ H_45.size := by omega
  refine lv_istore (lv' := [(5, .int (-99999)), (4, .int 0), (3, .int 3), (2, .ref (b 0)), (1, .ref (a 0)), (0, .ref b9)]) hx hb dL_law_49 hl (by decide) rfl (fun ls hl => ?_)
  refine lv_iload hx hb dL_law_51 (lv_at hl 0 rfl) ?_
  refine lv_ldc (v := (-99999)) hx hb hown (hts (.constant RL 54 (-99999)) (by decide +kernel)) dL_law_53 ?_
  refine lv_icmp_eq (tgt := 69) hx hb dL_law_55 (by decide) (fun _ => ?_) (fun c9 => absurd (by decide) c9)
  refine lv_iload_n hx hb dL_law_69 rfl (lv_at hl 2 rfl) ?_
  refine lv_bipush (v := 6) hx hb dL_law_70 (by decide) ?_
  refine lv_irem hx hb dL_law_72 (by decide) ?_
  refine lv_topi (fun v_46 e_46 => ?_)
  obtain rfl : v_46 = 3 := e_46.trans (by decide +kernel)
  refine lv_iconst (v := 3) hx hb dL_law_73 (by decide) ?_
  refine lv_icmp_ne (tgt := 85) hx hb dL_law_74 (by decide) (fun c9 => absurd (by decide) c9) (fun _ => ?_)
  refine lv_aload_n hx hb dL_law_77 rfl (lv_at hl 4 rfl) ?_
  refine lv_aload_n hx hb dL_law_78 rfl (lv_at hl 3 rfl) ?_
  refine MG.callS (As := [.ref (a 0), .ref (b 0)]) (rest := []) ⟨hx, hb, hml, hown, hts⟩ (g_alike l D cI cZ a b H_45.size hfl) (va_cwS 2 hts gL_law_L_areAlike rfl rfl rfl (by decide +kernel) ⟨Nat.le_of_ble_eq_true rfl, Nat.le_of_ble_eq_true rfl⟩) hP hK hD hS hA hEV hZ rfl hl.1 (Nat.le_of_ble_eq_true rfl) (Nat.le_of_ble_eq_true rfl) (Nat.le_of_ble_eq_true rfl) dL_law_79 rfl (fun r_47 u_47 H_47 locs h_47 hP hD hS hg => ?_)
  have h_47 : u_47 = (z0, z0) ∧ r_47 = 1 := h_47
  obtain ⟨e_47, f_47⟩ := h_47
  subst e_47
  subst f_47
  have hG : s.heap.size + 248 ≤ H_47.size := by omega
  intro T hT X
  exact ⟨T.setTop _, Steps.refl _, by show s.heap.size + 184 ≤ T.heap.size; rw [hT]; omega⟩
