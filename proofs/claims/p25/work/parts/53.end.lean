/-! THE CLAIM FALLS: from a start that has more room than it asks for, over a script that begins with four zeros, its run makes more than 183 cells -/
theorem room_any {l : Launch} {y : MethodName} {ts : List Cond} {R R' : Room} {pl : Platform} {s : State} {m : MethodId} {args : Array Value} {below : List Frame} (hf : s.frames = .invoking m args :: below) (h : (headSpec ts R).applies y pl s = true) (hr : s.hasRoom pl R' = true) : (headSpec ts R').appliesLoose y pl s = true := by
  obtain ⟨a1, a2, a3, a4, a5, a6, -, a8⟩ := (Spec.applies_iff hf).mp h
  have e8 : (headSpec ts R').pre = (headSpec ts R).pre := rfl
  have a9 : (headSpec ts R').pre.before args s = true := by rw [e8]; exact a8
  have a7 : s.hasRoom pl (headSpec ts R').room = true := hr
  have h1 : (headSpec ts R').applies y pl s = true := (Spec.applies_iff (S := headSpec ts R') hf).mpr ⟨a1, a2, a3, a4, a5, a6, a7, a9⟩
  exact ((Spec.applies_iff_loose (S := headSpec ts R') hf).mp h1).1
set_option maxHeartbeats 4000000 in
set_option maxRecDepth 100000 in
theorem p25_falls {l : Launch} (hflags : l.flags = flags0) {p : Program} {e : Env} {s : State} {m : MethodId} {args : Array Value} {below : List Frame}
    (hA : AtStart classFile x code maxLocals ret World_1 tables_1 room_1 Calls_1 rest_1 Pre_1 l p e s m args below) (hroom : s.hasRoom e.platform R2 = true)
    {b : Addr} {xs : List Int32} (hargs : args = #[.ref b]) (hxs : s.IntsAt b xs) (hN : xs.length ≤ 260) (h4 : 4 ≤ xs.length) (h0 : ∀ j, j < 4 → xs.getD j 0 = 0) : ¬ Claimed_1_1 := by
  intro hcl
  subst hargs
  obtain ⟨hLists, hW, hadm, -, hcas, hclk, hfr, hfit, hheap, happ, hc, hr, hpre⟩ := hA
  obtain ⟨n, o, hin, hrun, hend, hpost⟩ := hcl l hflags hLists hW p e hadm hcas hclk s m #[.ref b] below hfr hfit hheap happ ⟨hc, hr, hpre⟩
  obtain ⟨-, hF⟩ := hpost
  have hle : (stepsAlone p.tables e n s).heap.size ≤ s.heap.size + 183 := hF.2.2.2.2.1
  have happ2 : (headSpec (Jvm.Cond.code x code maxLocals ret :: tables_1) R2).appliesLoose x e.platform s = true := room_any (l := l) hfr happ hroom
  obtain ⟨meth, c, B, hcode, hml9, hfirst⟩ := BodyLoose.of_appliesLoose (l := l) (x := x) (S := headSpec (Jvm.Cond.code x code maxLocals ret :: tables_1) R2) (code := code) (maxLocals := maxLocals) (ret := ret) (by decide) (fun args s h => atoms_spec (ws := Jvm.Cond.code x code maxLocals ret :: tables_1) h _ List.mem_cons_self) p hadm hcas hclk hfr happ2
  obtain ⟨scr, harrAt, hlist, hof, hsmall⟩ := hxs
  obtain ⟨hcb, hkn, -, -⟩ := State.arrayAt?_spec harrAt
  have hown : s.vm.findClass RL = some m.cls := findClass_of_methodNamed B.named
  have hts0 : ∀ c ∈ (Jvm.Cond.code x code maxLocals ret :: tables_1), c.before #[Value.ref b] s = true := atoms_spec (ws := Jvm.Cond.code x code maxLocals ret :: tables_1) B.pre
  have hts : ∀ w ∈ lw_tbl, w.before #[Value.ref b] s = true := k2_hts_sels lw_privs (fun w hw => hts0 w (List.mem_cons_of_mem _ hw)) lw_privs_ok
  have hml : c.maxLocals = 6 := hml9
  have hsz : scr.slots.size = xs.length := by rw [← Array.length_toList, hlist, List.length_map]
  have hval : ∀ j : Nat, j < xs.length → scr.slots[j]? = some (.int (xs.getD j 0)) := fun j hj => by
    rw [← Array.getElem?_toList, hlist]
    simp [hj]
  have hbl : b < s.heap.size := (Array.getElem?_eq_some_iff.mp hcb).1
  have hX : va_X b xs.length (fun j => xs.getD j 0) s s.heap := ⟨scr, hcb, hof, hkn, hsz, hval⟩
  obtain ⟨T, hT, hQ⟩ := law_room (p := p) (e := e) (below := below) (meth := meth) l hflags hN h4 h0 B.exec B.bytes hml hown hts hX hbl hpre (s.setFrames (.java (entryFrame m #[Value.ref b] maxLocals) :: below)) rfl (Stand.of_body B)
  obtain ⟨j, hj, hjw⟩ := hfirst.trans hT
  rcases Nat.lt_or_ge n j with q | q
  · exact hend.not_within (hjw n q)
  · obtain ⟨d, rfl⟩ := Nat.exists_eq_add_of_le q
    rw [stepsAlone_add, hj] at hle
    have h1 := stepsAlone_heap_le p.tables e d T
    have h2 : s.heap.size + 184 ≤ T.heap.size := hQ
    omega
