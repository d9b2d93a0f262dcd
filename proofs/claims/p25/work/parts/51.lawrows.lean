/-- v without its sign, by n -/
def lowv (v n : Int32) : Int32 := (v &&& 2147483647) - (v &&& 2147483647) / n * n
set_option maxHeartbeats 4000000 in
set_option maxRecDepth 100000 in
theorem g_low {S : Type} (l : Launch) (D : va_G) (tys : List (ClassId × FieldType)) (wf : S → va_W) (σ : S) (sz : Nat) (v n : Int32) (hn : ¬ n = 0) : MG l yL_low wsL_low ({ frames := 0, cells := 0, slots := 0, locals := 0 }) D tys wf [.int v, .int n] σ sz (fun r u => u = σ ∧ r = lowv v n) 0 0 0 := by
  refine MG.of (cc := cL_low) (maxL := 2) (by decide) rfl (Nat.le_of_ble_eq_true rfl) ?_
  intro p e s m args below meth c A H locs ls hx hb hr hml hown hts hlocks hEV hZ hA hS hP hK hD hl
  have hl : lv_has ls 2 [(0, .int v), (1, .int n)] := hl
  refine lv_iload_n hx hb dL_low_0 rfl (lv_at hl 0 rfl) ?_
  refine lv_ldc (v := 2147483647) hx hb hown (hts (.constant RL 7 2147483647) (by decide +kernel)) dL_low_1 ?_
  refine lv_iand hx hb dL_low_3 ?_
  refine lv_iload_n hx hb dL_low_4 rfl (lv_at hl 1 rfl) ?_
  refine lv_irem hx hb dL_low_5 hn ?_
  exact MG.ret hx hb hr hlocks hK hP hD hS hS.1 (Nat.le_refl _) (Nat.le_refl _) dL_low_6 (by exact ⟨rfl, rfl⟩)
theorem MG.post' {S : Type} {l : Launch} {y : MethodName} {wsy : List Cond} {rm : Room} {D : va_G} {tys : List (ClassId × FieldType)} {wf : S → va_W} {av : List Value} {σ : S} {sz g mc ms : Nat} {post post' : Int32 → S → Prop} (h : MG l y wsy rm D tys wf av σ sz post g mc ms) (hi : ∀ r u, post r u → post' r u) : MG l y wsy rm D tys wf av σ sz post' g mc ms := by
  intro p e ha hc hk s m args below hf happ hPc hT
  obtain ⟨n, o, h1, h2, h3, ⟨⟨r, u, ho, hp, hB⟩, hF⟩, hL⟩ := h p e ha hc hk s m _ below hf happ hPc hT
  exact ⟨n, o, h1, h2, h3, ⟨⟨r, u, ho, hi r u hp, hB⟩, hF⟩, hL⟩
theorem fA {l : Launch} {y : MethodName} {wsy : List Cond} {rm : Room} {D : va_G} {tys : List (ClassId × FieldType)} {av : List Value} {sz g mc ms : Nat} {cI cZ : ClassId} {a : Nat → Nat} (b : Nat → Nat) {P : Int32 → Prop} (h : MG l y wsy rm D tys (wX cI cZ a) av z0 sz (fun r u => u = z0 ∧ P r) g mc ms) : MG l y wsy rm D tys (w2 cI cZ a b) av (z0, z0) sz (fun r u => u = (z0, z0) ∧ P r) g mc ms :=
  (h.frameA (τ := z0)).post' (fun r u q => ⟨Prod.ext q.1.1 q.2, q.1.2⟩)
theorem fB {l : Launch} {y : MethodName} {wsy : List Cond} {rm : Room} {D : va_G} {tys : List (ClassId × FieldType)} {av : List Value} {sz g mc ms : Nat} {cI cZ : ClassId} {b : Nat → Nat} (a : Nat → Nat) {P : Int32 → Prop} (h : MG l y wsy rm D tys (wX cI cZ b) av z0 sz (fun r u => u = z0 ∧ P r) g mc ms) : MG l y wsy rm D tys (w2 cI cZ a b) av (z0, z0) sz (fun r u => u = (z0, z0) ∧ P r) g mc ms :=
  (h.frameB (σ := z0)).post' (fun r u q => ⟨Prod.ext q.2 q.1.1, q.1.2⟩)
set_option maxHeartbeats 4000000 in
set_option maxRecDepth 100000 in
theorem g_looks0 (l : Launch) (D : va_G) (cI cZ : ClassId) (a : Nat → Nat) (sz : Nat) (hfl : l.stackTraces = false) (t x : Int32) : MG l yL_looks wsL_looks ({ frames := 9, cells := 1, slots := 6, locals := 152 }) D (ty2 cI cZ) (wX cI cZ a) [.ref (a 0), .int 0, .int t, .int x] z0 sz (fun r u => u = z0 ∧ r = -99999) 1 1 6 := by
  refine MG.ofH (cc := cL_looks) (maxL := 5) (hh := [(0, 79, 80, 52)]) (by decide) rfl (Nat.le_of_ble_eq_true rfl) ?_
  intro p e s m args below meth c A H locs ls hx hb hr hml hown hts hlocks hexc hEV hZ hA hS hP hK hD hl
  have hl : lv_has ls 5 [(0, .ref (a 0)), (1, .int 0), (2, .int t), (3, .int x)] := hl
  have hG : s.heap.size + 0 ≤ H.size := hS.1
  refine lv_iload_n hx hb dL_looks_0 rfl (lv_at hl 1 rfl) ?_
  refine lv_if_ne (tgt := 12) hx hb dL_looks_1 (by decide) (fun c9 => absurd (by decide) c9) (fun _ => ?_)
  refine lv_aload_n hx hb dL_looks_4 rfl (lv_at hl 0 rfl) ?_
  refine lv_iload_n hx hb dL_looks_5 rfl (lv_at hl 2 rfl) ?_
  refine XI.thrV (As := [.int t]) (rest := []) ⟨hx, hb, hml, hown, hts⟩ (c_X5_block l D cI cZ a H.size z0 hfl t 0 rfl (Nat.zero_le 4)) (fun r u q => absurd q.1 (by rw [cdTr, cif_f (tr0 t)]; decide)) (cwV 1 hts gL_looks_X5_block rfl rfl rfl (by decide +kernel) ⟨Nat.le_of_ble_eq_true rfl, Nat.le_of_ble_eq_true rfl⟩) hP hK hD hS hA hEV hZ (va_recv hK hP (ci := 5) (q0 := 0) rfl rfl) rfl hl.1 (Nat.le_of_ble_eq_true rfl) (Nat.le_of_ble_eq_true rfl) (Nat.le_of_ble_eq_true rfl) dL_looks_6 rfl ?_
  intro E ce q9 H_1 locs hE hP hD hS hg hce hcv hcl
  obtain ⟨rfl, -⟩ := hE
  have hG : s.heap.size + 1 ≤ H_1.size := by omega
  refine vx_catch (name := eIO) (E := eIO) hown [] ⟨0, 79, 80, 52⟩ [] hexc ?_ (by decide) (by decide) (hts (.classLink RL 52 eIO) (by decide +kernel)) (va_Nw.use rfl (hEV.1 (.castable eIO eIO) (by decide +kernel))) hce hcv hcl ?_
  · exact fun z hz => absurd hz List.not_mem_nil
  refine lv_astore (lv' := [(4, .ref q9), (0, .ref (a 0)), (1, .int 0), (2, .int t), (3, .int x)]) hx hb dL_looks_80 hl (by decide) rfl (fun ls hl => ?_)
  refine lv_ldc (v := (-99999)) hx hb hown (hts (.constant RL 54 (-99999)) (by decide +kernel)) dL_looks_82 ?_
  exact MG.ret hx hb hr hlocks hK hP hD hS (by omega) (Nat.le_of_ble_eq_true rfl) (Nat.le_of_ble_eq_true rfl) dL_looks_84 (by exact ⟨rfl, rfl⟩)
set_option maxHeartbeats 4000000 in
set_option maxRecDepth 100000 in
theorem g_looks1 (l : Launch) (D : va_G) (cI cZ : ClassId) (a : Nat → Nat) (sz : Nat) (hfl : l.stackTraces = false) (t x : Int32) : MG l yL_looks wsL_looks ({ frames := 9, cells := 1, slots := 6, locals := 152 }) D (ty2 cI cZ) (wX cI cZ a) [.ref (a 0), .int 1, .int t, .int x] z0 sz (fun r u => u = z0 ∧ r = -99999) 1 1 6 := by
  refine MG.ofH (cc := cL_looks) (maxL := 5) (hh := [(0, 79, 80, 52)]) (by decide) rfl (Nat.le_of_ble_eq_true rfl) ?_
  intro p e s m args below meth c A H locs ls hx hb hr hml hown hts hlocks hexc hEV hZ hA hS hP hK hD hl
  have hl : lv_has ls 5 [(0, .ref (a 0)), (1, .int 1), (2, .int t), (3, .int x)] := hl
  have hG : s.heap.size + 0 ≤ H.size := hS.1
  refine lv_iload_n hx hb dL_looks_0 rfl (lv_at hl 1 rfl) ?_
  refine lv_if_ne (tgt := 12) hx hb dL_looks_1 (by decide) (fun _ => ?_) (fun c9 => absurd c9 (by decide))
  refine lv_iload_n hx hb dL_looks_12 rfl (lv_at hl 1 rfl) ?_
  refine lv_iconst (v := 1) hx hb dL_looks_13 (by decide) ?_
  refine lv_icmp_ne (tgt := 33) hx hb dL_looks_14 (by decide) (fun c9 => absurd (by decide) c9) (fun _ => ?_)
  refine lv_aload_n hx hb dL_looks_17 rfl (lv_at hl 0 rfl) ?_
  refine lv_iload_n hx hb dL_looks_18 rfl (lv_at hl 2 rfl) ?_
  refine XI.thrV (As := [.int t]) (rest := []) ⟨hx, hb, hml, hown, hts⟩ (c_X5_isRight l D cI cZ a H.size z0 hfl t 0 rfl (Nat.zero_le 4) (fun _ _ => Or.inl rfl)) (fun r u q => absurd q.1 (by rw [cdTr, cif_f (tr0 t)]; decide)) (cwV 1 hts gL_looks_X5_isRight rfl rfl rfl (by decide +kernel) ⟨Nat.le_of_ble_eq_true rfl, Nat.le_of_ble_eq_true rfl⟩) hP hK hD hS hA hEV hZ (va_recv hK hP (ci := 5) (q0 := 0) rfl rfl) rfl hl.1 (Nat.le_of_ble_eq_true rfl) (Nat.le_of_ble_eq_true rfl) (Nat.le_of_ble_eq_true rfl) dL_looks_19 rfl ?_
  intro E ce q9 H_1 locs hE hP hD hS hg hce hcv hcl
  obtain ⟨rfl, -⟩ := hE
  have hG : s.heap.size + 1 ≤ H_1.size := by omega
  refine vx_catch (name := eIO) (E := eIO) hown [] ⟨0, 79, 80, 52⟩ [] hexc ?_ (by decide) (by decide) (hts (.classLink RL 52 eIO) (by decide +kernel)) (va_Nw.use rfl (hEV.1 (.castable eIO eIO) (by decide +kernel))) hce hcv hcl ?_
  · exact fun z hz => absurd hz List.not_mem_nil
  refine lv_astore (lv' := [(4, .ref q9), (0, .ref (a 0)), (1, .int 1), (2, .int t), (3, .int x)]) hx hb dL_looks_80 hl (by decide) rfl (fun ls hl => ?_)
  refine lv_ldc (v := (-99999)) hx hb hown (hts (.constant RL 54 (-99999)) (by decide +kernel)) dL_looks_82 ?_
  exact MG.ret hx hb hr hlocks hK hP hD hS (by omega) (Nat.le_of_ble_eq_true rfl) (Nat.le_of_ble_eq_true rfl) dL_looks_84 (by exact ⟨rfl, rfl⟩)
set_option maxHeartbeats 4000000 in
set_option maxRecDepth 100000 in
theorem g_looks2 (l : Launch) (D : va_G) (cI cZ : ClassId) (a : Nat → Nat) (sz : Nat) (hfl : l.stackTraces = false) (t x : Int32) : MG l yL_looks wsL_looks ({ frames := 9, cells := 1, slots := 6, locals := 152 }) D (ty2 cI cZ) (wX cI cZ a) [.ref (a 0), .int 2, .int t, .int x] z0 sz (fun r u => u = z0 ∧ r = -99999) 1 1 6 := by
  refine MG.ofH (cc := cL_looks) (maxL := 5) (hh := [(0, 79, 80, 52)]) (by decide) rfl (Nat.le_of_ble_eq_true rfl) ?_
  intro p e s m args below meth c A H locs ls hx hb hr hml hown hts hlocks hexc hEV hZ hA hS hP hK hD hl
  have hl : lv_has ls 5 [(0, .ref (a 0)), (1, .int 2), (2, .int t), (3, .int x)] := hl
  have hG : s.heap.size + 0 ≤ H.size := hS.1
  refine lv_iload_n hx hb dL_looks_0 rfl (lv_at hl 1 rfl) ?_
  refine lv_if_ne (tgt := 12) hx hb dL_looks_1 (by decide) (fun _ => ?_) (fun c9 => absurd c9 (by decide))
  refine lv_iload_n hx hb dL_looks_12 rfl (lv_at hl 1 rfl) ?_
  refine lv_iconst (v := 1) hx hb dL_looks_13 (by decide) ?_
  refine lv_icmp_ne (tgt := 33) hx hb dL_looks_14 (by decide) (fun _ => ?_) (fun c9 => absurd c9 (by decide))
  refine lv_iload_n hx hb dL_looks_33 rfl (lv_at hl 1 rfl) ?_
  refine lv_iconst (v := 2) hx hb dL_looks_34 (by decide) ?_
  refine lv_icmp_ne (tgt := 46) hx hb dL_looks_35 (by decide) (fun c9 => absurd (by decide) c9) (fun _ => ?_)
  refine lv_aload_n hx hb dL_looks_38 rfl (lv_at hl 0 rfl) ?_
  refine lv_iload_n hx hb dL_looks_39 rfl (lv_at hl 2 rfl) ?_
  refine XI.thrV (As := [.int t]) (rest := []) ⟨hx, hb, hml, hown, hts⟩ (c_X5_booking l D cI cZ a H.size z0 hfl t 0 rfl (Nat.zero_le 30)) (fun r u q => absurd q.1 (by rw [cdTr, cif_f (tr0 t)]; decide)) (cwV 1 hts gL_looks_X5_booking rfl rfl rfl (by decide +kernel) ⟨Nat.le_of_ble_eq_true rfl, Nat.le_of_ble_eq_true rfl⟩) hP hK hD hS hA hEV hZ (va_recv hK hP (ci := 5) (q0 := 0) rfl rfl) rfl hl.1 (Nat.le_of_ble_eq_true rfl) (Nat.le_of_ble_eq_true rfl) (Nat.le_of_ble_eq_true rfl) dL_looks_40 rfl ?_
  intro E ce q9 H_1 locs hE hP hD hS hg hce hcv hcl
  obtain ⟨rfl, -⟩ := hE
  have hG : s.heap.size + 1 ≤ H_1.size := by omega
  refine vx_catch (name := eIO) (E := eIO) hown [] ⟨0, 79, 80, 52⟩ [] hexc ?_ (by decide) (by decide) (hts (.classLink RL 52 eIO) (by decide +kernel)) (va_Nw.use rfl (hEV.1 (.castable eIO eIO) (by decide +kernel))) hce hcv hcl ?_
  · exact fun z hz => absurd hz List.not_mem_nil
  refine lv_astore (lv' := [(4, .ref q9), (0, .ref (a 0)), (1, .int 2), (2, .int t), (3, .int x)]) hx hb dL_looks_80 hl (by decide) rfl (fun ls hl => ?_)
  refine lv_ldc (v := (-99999)) hx hb hown (hts (.constant RL 54 (-99999)) (by decide +kernel)) dL_looks_82 ?_
  exact MG.ret hx hb hr hlocks hK hP hD hS (by omega) (Nat.le_of_ble_eq_true rfl) (Nat.le_of_ble_eq_true rfl) dL_looks_84 (by exact ⟨rfl, rfl⟩)
set_option maxHeartbeats 4000000 in
set_option maxRecDepth 100000 in
theorem g_looks3 (l : Launch) (D : va_G) (cI cZ : ClassId) (a : Nat → Nat) (sz : Nat) (hfl : l.stackTraces = false) (t x : Int32) : MG l yL_looks wsL_looks ({ frames := 9, cells := 1, slots := 6, locals := 152 }) D (ty2 cI cZ) (wX cI cZ a) [.ref (a 0), .int 3, .int t, .int x] z0 sz (fun r u => u = z0 ∧ r = -99999) 1 1 6 := by
  refine MG.ofH (cc := cL_looks) (maxL := 5) (hh := [(0, 79, 80, 52)]) (by decide) rfl (Nat.le_of_ble_eq_true rfl) ?_
  intro p e s m args below meth c A H locs ls hx hb hr hml hown hts hlocks hexc hEV hZ hA hS hP hK hD hl
  have hl : lv_has ls 5 [(0, .ref (a 0)), (1, .int 3), (2, .int t), (3, .int x)] := hl
  have hG : s.heap.size + 0 ≤ H.size := hS.1
  refine lv_iload_n hx hb dL_looks_0 rfl (lv_at hl 1 rfl) ?_
  refine lv_if_ne (tgt := 12) hx hb dL_looks_1 (by decide) (fun _ => ?_) (fun c9 => absurd c9 (by decide))
  refine lv_iload_n hx hb dL_looks_12 rfl (lv_at hl 1 rfl) ?_
  refine lv_iconst (v := 1) hx hb dL_looks_13 (by decide) ?_
  refine lv_icmp_ne (tgt := 33) hx hb dL_looks_14 (by decide) (fun _ => ?_) (fun c9 => absurd c9 (by decide))
  refine lv_iload_n hx hb dL_looks_33 rfl (lv_at hl 1 rfl) ?_
  refine lv_iconst (v := 2) hx hb dL_looks_34 (by decide) ?_
  refine lv_icmp_ne (tgt := 46) hx hb dL_looks_35 (by decide) (fun _ => ?_) (fun c9 => absurd c9 (by decide))
  refine lv_iload_n hx hb dL_looks_46 rfl (lv_at hl 1 rfl) ?_
  refine lv_iconst (v := 3) hx hb dL_looks_47 (by decide) ?_
  refine lv_icmp_ne (tgt := 59) hx hb dL_looks_48 (by decide) (fun c9 => absurd (by decide) c9) (fun _ => ?_)
  refine lv_aload_n hx hb dL_looks_51 rfl (lv_at hl 0 rfl) ?_
  refine lv_iload_n hx hb dL_looks_52 rfl (lv_at hl 2 rfl) ?_
  refine XI.thrV (As := [.int t]) (rest := []) ⟨hx, hb, hml, hown, hts⟩ (c_X5_late l D cI cZ a H.size z0 hfl t 0 rfl (Nat.zero_le 30)) (fun r u q => absurd q.1 (by rw [cdTr, cif_f (tr0 t)]; decide)) (cwV 1 hts gL_looks_X5_late rfl rfl rfl (by decide +kernel) ⟨Nat.le_of_ble_eq_true rfl, Nat.le_of_ble_eq_true rfl⟩) hP hK hD hS hA hEV hZ (va_recv hK hP (ci := 5) (q0 := 0) rfl rfl) rfl hl.1 (Nat.le_of_ble_eq_true rfl) (Nat.le_of_ble_eq_true rfl) (Nat.le_of_ble_eq_true rfl) dL_looks_53 rfl ?_
  intro E ce q9 H_1 locs hE hP hD hS hg hce hcv hcl
  obtain ⟨rfl, -⟩ := hE
  have hG : s.heap.size + 1 ≤ H_1.size := by omega
  refine vx_catch (name := eIO) (E := eIO) hown [] ⟨0, 79, 80, 52⟩ [] hexc ?_ (by decide) (by decide) (hts (.classLink RL 52 eIO) (by decide +kernel)) (va_Nw.use rfl (hEV.1 (.castable eIO eIO) (by decide +kernel))) hce hcv hcl ?_
  · exact fun z hz => absurd hz List.not_mem_nil
  refine lv_astore (lv' := [(4, .ref q9), (0, .ref (a 0)), (1, .int 3), (2, .int t), (3, .int x)]) hx hb dL_looks_80 hl (by decide) rfl (fun ls hl => ?_)
  refine lv_ldc (v := (-99999)) hx hb hown (hts (.constant RL 54 (-99999)) (by decide +kernel)) dL_looks_82 ?_
  exact MG.ret hx hb hr hlocks hK hP hD hS (by omega) (Nat.le_of_ble_eq_true rfl) (Nat.le_of_ble_eq_true rfl) dL_looks_84 (by exact ⟨rfl, rfl⟩)
theorem wa_in {q : Nat} (hq : q < 2) : inR (nI (6 + q)) 6 7 := by
  rcases (show q = 0 ∨ q = 1 by omega) with rfl | rfl <;> exact ⟨by decide +kernel, by decide +kernel⟩
theorem wa_out {q : Nat} (h2 : 2 ≤ q) (hq : q < 8) : ¬ inR (nI (6 + q)) 6 7 := fun h => h.2 (by rw [show (7 : Int32) = nI 7 from rfl, nI_ltI (by omega) (by omega)]; omega)
theorem wa_ok {q z : Nat} (hq : q < 2) (hz : z < 2 ^ 31) : cdAt 0 (nI (6 + q)) (nI z) = 0 := by rw [cdAt, cif_t ⟨Or.inl (wa_in hq), nI_pos hz⟩]
theorem wa_no {q z : Nat} (h2 : 2 ≤ q) (hq : q < 8) : ¬ cdAt 0 (nI (6 + q)) (nI z) = 0 := by
  rw [cdAt, cif_f (fun h => h.1.elim (wa_out h2 hq) (tr0 _))]; decide
theorem wa_e {q z : Nat} (hq : q < 2) (hz : z < 2 ^ 31) : waJ (fun _ => 0) (fun _ _ => 0) (nI (6 + q)) (nI z) = -1 := by
  rw [waJ, cif_t (wa_in hq), fLJ, if_pos ((nI_leI (by omega) hz).mpr (Nat.zero_le z))]
set_option maxHeartbeats 4000000 in
set_option maxRecDepth 100000 in
theorem g_looks4s (l : Launch) (D : va_G) (cI cZ : ClassId) (a : Nat → Nat) (sz : Nat) (hfl : l.stackTraces = false) (q z : Nat) (hq : q < 2) (hz : z < 2 ^ 31) : MG l yL_looks wsL_looks ({ frames := 8, cells := 1, slots := 6, locals := 133 }) D (ty2 cI cZ) (wX cI cZ a) [.ref (a 0), .int 4, .int (nI (6 + q)), .int (nI z)] z0 sz (fun r u => u = z0 ∧ r = -1) 0 1 6 := by
  refine MG.ofH (cc := cL_looks) (maxL := 5) (hh := [(0, 79, 80, 52)]) (by decide) rfl (Nat.le_of_ble_eq_true rfl) ?_
  intro p e s m args below meth c A H locs ls hx hb hr hml hown hts hlocks hexc hEV hZ hA hS hP hK hD hl
  have hl : lv_has ls 5 [(0, .ref (a 0)), (1, .int 4), (2, .int (nI (6 + q))), (3, .int (nI z))] := hl
  have hG : s.heap.size + 0 ≤ H.size := hS.1
  refine lv_iload_n hx hb dL_looks_0 rfl (lv_at hl 1 rfl) ?_
  refine lv_if_ne (tgt := 12) hx hb dL_looks_1 (by decide) (fun _ => ?_) (fun c9 => absurd c9 (by decide))
  refine lv_iload_n hx hb dL_looks_12 rfl (lv_at hl 1 rfl) ?_
  refine lv_iconst (v := 1) hx hb dL_looks_13 (by decide) ?_
  refine lv_icmp_ne (tgt := 33) hx hb dL_looks_14 (by decide) (fun _ => ?_) (fun c9 => absurd c9 (by decide))
  refine lv_iload_n hx hb dL_looks_33 rfl (lv_at hl 1 rfl) ?_
  refine lv_iconst (v := 2) hx hb dL_looks_34 (by decide) ?_
  refine lv_icmp_ne (tgt := 46) hx hb dL_looks_35 (by decide) (fun _ => ?_) (fun c9 => absurd c9 (by decide))
  refine lv_iload_n hx hb dL_looks_46 rfl (lv_at hl 1 rfl) ?_
  refine lv_iconst (v := 3) hx hb dL_looks_47 (by decide) ?_
  refine lv_icmp_ne (tgt := 59) hx hb dL_looks_48 (by decide) (fun _ => ?_) (fun c9 => absurd c9 (by decide))
  refine lv_iload_n hx hb dL_looks_59 rfl (lv_at hl 1 rfl) ?_
  refine lv_iconst (v := 4) hx hb dL_looks_60 (by decide) ?_
  refine lv_icmp_ne (tgt := 73) hx hb dL_looks_61 (by decide) (fun c9 => absurd (by decide) c9) (fun _ => ?_)
  refine lv_aload_n hx hb dL_looks_64 rfl (lv_at hl 0 rfl) ?_
  refine lv_iload_n hx hb dL_looks_65 rfl (lv_at hl 2 rfl) ?_
  refine lv_iload_n hx hb dL_looks_66 rfl (lv_at hl 3 rfl) ?_
  refine XI.okV (As := [.int (nI (6 + q)), .int (nI z)]) (rest := []) ⟨hx, hb, hml, hown, hts⟩ (c_X5_waggonAt l D cI cZ a H.size z0 hfl (nI (6 + q)) (nI z) 0 rfl (Nat.zero_le 4) 0 (fun _ => 0) (fun _ _ => 0) rfl (Nat.zero_le 8) (fun _ _ => ⟨rfl, Nat.zero_le 8⟩) (fun _ _ _ h => absurd h (Nat.not_lt_zero _))) (fun E q9 => absurd (q9.2.symm.trans (wa_ok hq hz)) (by decide)) (cwV 2 hts gL_looks_X5_waggonAt rfl rfl rfl (by decide +kernel) ⟨Nat.le_of_ble_eq_true rfl, Nat.le_of_ble_eq_true rfl⟩) hP hK hD hS hA hEV hZ (va_recv hK hP (ci := 5) (q0 := 0) rfl rfl) rfl hl.1 (Nat.le_of_ble_eq_true rfl) (Nat.le_of_ble_eq_true rfl) (Nat.le_of_ble_eq_true rfl) dL_looks_67 rfl (fun r_1 u_1 H_1 locs h_1 hP hD hS hg => ?_)
  have h_1 : u_1 = z0 ∧ r_1 = (-1) := ⟨h_1.2.1, h_1.2.2.trans (wa_e hq hz)⟩
  obtain ⟨e_1, f_1⟩ := h_1
  subst e_1
  subst f_1
  have hG : s.heap.size + 0 ≤ H_1.size := by omega
  refine lv_goto (tgt := 79) hx hb dL_looks_70 (by decide) ?_
  exact MG.ret hx hb hr hlocks hK hP hD hS (by omega) (Nat.le_of_ble_eq_true rfl) (Nat.le_of_ble_eq_true rfl) dL_looks_79 (by exact ⟨rfl, rfl⟩)
set_option maxHeartbeats 4000000 in
set_option maxRecDepth 100000 in
theorem g_looks4x (l : Launch) (D : va_G) (cI cZ : ClassId) (a : Nat → Nat) (sz : Nat) (hfl : l.stackTraces = false) (q z : Nat) (h2 : 2 ≤ q) (hq : q < 8) : MG l yL_looks wsL_looks ({ frames := 8, cells := 1, slots := 6, locals := 133 }) D (ty2 cI cZ) (wX cI cZ a) [.ref (a 0), .int 4, .int (nI (6 + q)), .int (nI z)] z0 sz (fun r u => u = z0 ∧ r = -99999) 0 1 6 := by
  refine MG.ofH (cc := cL_looks) (maxL := 5) (hh := [(0, 79, 80, 52)]) (by decide) rfl (Nat.le_of_ble_eq_true rfl) ?_
  intro p e s m args below meth c A H locs ls hx hb hr hml hown hts hlocks hexc hEV hZ hA hS hP hK hD hl
  have hl : lv_has ls 5 [(0, .ref (a 0)), (1, .int 4), (2, .int (nI (6 + q))), (3, .int (nI z))] := hl
  have hG : s.heap.size + 0 ≤ H.size := hS.1
  refine lv_iload_n hx hb dL_looks_0 rfl (lv_at hl 1 rfl) ?_
  refine lv_if_ne (tgt := 12) hx hb dL_looks_1 (by decide) (fun _ => ?_) (fun c9 => absurd c9 (by decide))
  refine lv_iload_n hx hb dL_looks_12 rfl (lv_at hl 1 rfl) ?_
  refine lv_iconst (v := 1) hx hb dL_looks_13 (by decide) ?_
  refine lv_icmp_ne (tgt := 33) hx hb dL_looks_14 (by decide) (fun _ => ?_) (fun c9 => absurd c9 (by decide))
  refine lv_iload_n hx hb dL_looks_33 rfl (lv_at hl 1 rfl) ?_
  refine lv_iconst (v := 2) hx hb dL_looks_34 (by decide) ?_
  refine lv_icmp_ne (tgt := 46) hx hb dL_looks_35 (by decide) (fun _ => ?_) (fun c9 => absurd c9 (by decide))
  refine lv_iload_n hx hb dL_looks_46 rfl (lv_at hl 1 rfl) ?_
  refine lv_iconst (v := 3) hx hb dL_looks_47 (by decide) ?_
  refine lv_icmp_ne (tgt := 59) hx hb dL_looks_48 (by decide) (fun _ => ?_) (fun c9 => absurd c9 (by decide))
  refine lv_iload_n hx hb dL_looks_59 rfl (lv_at hl 1 rfl) ?_
  refine lv_iconst (v := 4) hx hb dL_looks_60 (by decide) ?_
  refine lv_icmp_ne (tgt := 73) hx hb dL_looks_61 (by decide) (fun c9 => absurd (by decide) c9) (fun _ => ?_)
  refine lv_aload_n hx hb dL_looks_64 rfl (lv_at hl 0 rfl) ?_
  refine lv_iload_n hx hb dL_looks_65 rfl (lv_at hl 2 rfl) ?_
  refine lv_iload_n hx hb dL_looks_66 rfl (lv_at hl 3 rfl) ?_
  refine XI.thrV (As := [.int (nI (6 + q)), .int (nI z)]) (rest := []) ⟨hx, hb, hml, hown, hts⟩ (c_X5_waggonAt l D cI cZ a H.size z0 hfl (nI (6 + q)) (nI z) 0 rfl (Nat.zero_le 4) 0 (fun _ => 0) (fun _ _ => 0) rfl (Nat.zero_le 8) (fun _ _ => ⟨rfl, Nat.zero_le 8⟩) (fun _ _ _ h => absurd h (Nat.not_lt_zero _))) (fun r u q9 => absurd q9.1 (wa_no h2 hq)) (cwV 2 hts gL_looks_X5_waggonAt rfl rfl rfl (by decide +kernel) ⟨Nat.le_of_ble_eq_true rfl, Nat.le_of_ble_eq_true rfl⟩) hP hK hD hS hA hEV hZ (va_recv hK hP (ci := 5) (q0 := 0) rfl rfl) rfl hl.1 (Nat.le_of_ble_eq_true rfl) (Nat.le_of_ble_eq_true rfl) (Nat.le_of_ble_eq_true rfl) dL_looks_67 rfl ?_
  intro E ce q9 H_1 locs hE hP hD hS hg hce hcv hcl
  obtain ⟨rfl, -⟩ := hE
  have hG : s.heap.size + 1 ≤ H_1.size := by omega
  refine vx_catch (name := eIO) (E := eIO) hown [] ⟨0, 79, 80, 52⟩ [] hexc ?_ (by decide) (by decide) (hts (.classLink RL 52 eIO) (by decide +kernel)) (va_Nw.use rfl (hEV.1 (.castable eIO eIO) (by decide +kernel))) hce hcv hcl ?_
  · exact fun z hz => absurd hz List.not_mem_nil
  refine lv_astore (lv' := [(4, .ref q9), (0, .ref (a 0)), (1, .int 4), (2, .int (nI (6 + q))), (3, .int (nI z))]) hx hb dL_looks_80 hl (by decide) rfl (fun ls hl => ?_)
  refine lv_ldc (v := (-99999)) hx hb hown (hts (.constant RL 54 (-99999)) (by decide +kernel)) dL_looks_82 ?_
  exact MG.ret hx hb hr hlocks hK hP hD hS (by omega) (Nat.le_of_ble_eq_true rfl) (Nat.le_of_ble_eq_true rfl) dL_looks_84 (by exact ⟨rfl, rfl⟩)
def wav (q : Nat) : Int32 := if q < 2 then -1 else -99999
theorem g_looks4 (l : Launch) (D : va_G) (cI cZ : ClassId) (a : Nat → Nat) (sz : Nat) (hfl : l.stackTraces = false) (q z : Nat) (hq : q < 8) (hz : z < 2 ^ 31) : MG l yL_looks wsL_looks ({ frames := 8, cells := 1, slots := 6, locals := 133 }) D (ty2 cI cZ) (wX cI cZ a) [.ref (a 0), .int 4, .int (nI (6 + q)), .int (nI z)] z0 sz (fun r u => u = z0 ∧ r = wav q) 0 1 6 := by
  by_cases h : q < 2
  · exact (g_looks4s l D cI cZ a sz hfl q z h hz).post' (fun r u k => ⟨k.1, k.2.trans (if_pos h).symm⟩)
  · exact (g_looks4x l D cI cZ a sz hfl q z (by omega) hq).post' (fun r u k => ⟨k.1, k.2.trans (if_neg h).symm⟩)
theorem cdA0 : cdAdd z0 0 (-1) = 1 := by rw [cdAdd, cif_f (fun h => h.1 (by decide))]
theorem cdA1 : ¬ cdAdd z0 0 (-1) = 0 := by rw [cdA0]; decide
theorem cdA2 : ¬ cdAdd z0 0 (-1) = 2 := by rw [cdA0]; decide
theorem cdC0 (b f t : Int32) : cdCan 0 0 b f t = 1 := by rw [cdCan, cif_f (fun h => tr0 _ h.1)]
set_option maxHeartbeats 4000000 in
set_option maxRecDepth 100000 in
theorem g_does (l : Launch) (D : va_G) (cI cZ : ClassId) (a : Nat → Nat) (sz : Nat) (hfl : l.stackTraces = false)  : MG l yL_does wsL_does ({ frames := 9, cells := 1, slots := 6, locals := 152 }) D (ty2 cI cZ) (wX cI cZ a) [.ref (a 0), .int 0, .int (-1), .int 0, .int 0, .int 0] z0 sz (fun r u => u = z0 ∧ r = -99999) 1 1 6 := by
  refine MG.ofH (cc := cL_does) (maxL := 7) (hh := [(0, 194, 195, 52), (0, 194, 200, 55), (0, 194, 205, 57)]) (by decide) rfl (Nat.le_of_ble_eq_true rfl) ?_
  intro p e s m args below meth c A H locs ls hx hb hr hml hown hts hlocks hexc hEV hZ hA hS hP hK hD hl
  have hl : lv_has ls 7 [(0, .ref (a 0)), (1, .int 0), (2, .int (-1)), (3, .int 0), (4, .int 0), (5, .int 0)] := hl
  have hG : s.heap.size + 0 ≤ H.size := hS.1
  refine lv_iload_n hx hb dL_does_0 rfl (lv_at hl 1 rfl) ?_
  refine lv_if_ne (tgt := 22) hx hb dL_does_1 (by decide) (fun c9 => absurd (by decide) c9) (fun _ => ?_)
  refine lv_aload_n hx hb dL_does_4 rfl (lv_at hl 0 rfl) ?_
  refine lv_iload_n hx hb dL_does_5 rfl (lv_at hl 2 rfl) ?_
  refine lv_iload_n hx hb dL_does_6 rfl (lv_at hl 3 rfl) ?_
  refine lv_iconst (v := 1) hx hb dL_does_7 (by decide) ?_
  refine lv_icmp_ne (tgt := 15) hx hb dL_does_8 (by decide) (fun _ => ?_) (fun c9 => absurd c9 (by decide))
  refine lv_iconst (v := 0) hx hb dL_does_15 (by decide) ?_
  refine XI.thrV (As := [.int (-1), .int 0]) (rest := []) ⟨hx, hb, hml, hown, hts⟩ (c_X5_addTrain l D cI cZ a H.size z0 hfl (-1) 0 (Or.inl rfl) 0 rfl (Nat.zero_le 4)) (fun r u q => absurd q.1 cdA1) (cwV 2 hts gL_does_X5_addTrain rfl rfl rfl (by decide +kernel) ⟨Nat.le_of_ble_eq_true rfl, Nat.le_of_ble_eq_true rfl⟩) hP hK hD hS hA hEV hZ (va_recv hK hP (ci := 5) (q0 := 0) rfl rfl) rfl hl.1 (Nat.le_of_ble_eq_true rfl) (Nat.le_of_ble_eq_true rfl) (Nat.le_of_ble_eq_true rfl) dL_does_16 rfl ?_
  intro E ce q9 H_1 locs hE hP hD hS hg hce hcv hcl
  obtain rfl : E = eIO := hE.elim (fun q => q.1) (fun q => absurd q.2 cdA2)
  have hG : s.heap.size + 1 ≤ H_1.size := by omega
  refine vx_catch (name := eIO) (E := eIO) hown [] ⟨0, 194, 195, 52⟩ [⟨0, 194, 200, 55⟩, ⟨0, 194, 205, 57⟩] hexc ?_ (by decide) (by decide) (hts (.classLink RL 52 eIO) (by decide +kernel)) (va_Nw.use rfl (hEV.1 (.castable eIO eIO) (by decide +kernel))) hce hcv hcl ?_
  · exact fun z hz => absurd hz List.not_mem_nil
  refine lv_astore (lv' := [(6, .ref q9), (0, .ref (a 0)), (1, .int 0), (2, .int (-1)), (3, .int 0), (4, .int 0), (5, .int 0)]) hx hb dL_does_195 hl (by decide) rfl (fun ls hl => ?_)
  refine lv_ldc (v := (-99999)) hx hb hown (hts (.constant RL 54 (-99999)) (by decide +kernel)) dL_does_197 ?_
  exact MG.ret hx hb hr hlocks hK hP hD hS (by omega) (Nat.le_of_ble_eq_true rfl) (Nat.le_of_ble_eq_true rfl) dL_does_199 (by exact ⟨rfl, rfl⟩)
set_option maxHeartbeats 4000000 in
set_option maxRecDepth 100000 in
theorem g_can (l : Launch) (D : va_G) (cI cZ : ClassId) (a : Nat → Nat) (sz : Nat) (hfl : l.stackTraces = false) (b f t : Int32) : MG l yL_can wsL_can ({ frames := 9, cells := 1, slots := 6, locals := 156 }) D (ty2 cI cZ) (wX cI cZ a) [.ref (a 0), .int 0, .int b, .int f, .int t] z0 sz (fun r u => u = z0 ∧ r = -99999) 1 1 6 := by
  refine MG.ofH (cc := cL_can) (maxL := 6) (hh := [(0, 17, 18, 52), (0, 17, 23, 55)]) (by decide) rfl (Nat.le_of_ble_eq_true rfl) ?_
  intro p e s m args below meth c A H locs ls hx hb hr hml hown hts hlocks hexc hEV hZ hA hS hP hK hD hl
  have hl : lv_has ls 6 [(0, .ref (a 0)), (1, .int 0), (2, .int b), (3, .int f), (4, .int t)] := hl
  have hG : s.heap.size + 0 ≤ H.size := hS.1
  refine lv_aload_n hx hb dL_can_0 rfl (lv_at hl 0 rfl) ?_
  refine lv_iload_n hx hb dL_can_1 rfl (lv_at hl 1 rfl) ?_
  refine lv_iload_n hx hb dL_can_2 rfl (lv_at hl 2 rfl) ?_
  refine lv_iload_n hx hb dL_can_3 rfl (lv_at hl 3 rfl) ?_
  refine lv_iload hx hb dL_can_4 (lv_at hl 4 rfl) ?_
  refine XI.thrV (As := [.int 0, .int b, .int f, .int t]) (rest := []) ⟨hx, hb, hml, hown, hts⟩ (c_X5_canBook l D cI cZ a H.size z0 hfl 0 b f t 0 rfl (Nat.zero_le 4) 0 rfl (Nat.zero_le 30)) (fun r u q => absurd q.1 (by rw [cdC0]; decide)) (cwV 4 hts gL_can_X5_canBook rfl rfl rfl (by decide +kernel) ⟨Nat.le_of_ble_eq_true rfl, Nat.le_of_ble_eq_true rfl⟩) hP hK hD hS hA hEV hZ (va_recv hK hP (ci := 5) (q0 := 0) rfl rfl) rfl hl.1 (Nat.le_of_ble_eq_true rfl) (Nat.le_of_ble_eq_true rfl) (Nat.le_of_ble_eq_true rfl) dL_can_6 rfl ?_
  intro E ce q9 H_1 locs hE hP hD hS hg hce hcv hcl
  obtain rfl : E = eIO := hE.elim (fun q => q.1) (fun q => absurd q.2 (by rw [cdC0]; decide))
  have hG : s.heap.size + 1 ≤ H_1.size := by omega
  refine vx_catch (name := eIO) (E := eIO) hown [] ⟨0, 17, 18, 52⟩ [⟨0, 17, 23, 55⟩] hexc ?_ (by decide) (by decide) (hts (.classLink RL 52 eIO) (by decide +kernel)) (va_Nw.use rfl (hEV.1 (.castable eIO eIO) (by decide +kernel))) hce hcv hcl ?_
  · exact fun z hz => absurd hz List.not_mem_nil
  refine lv_astore (lv' := [(5, .ref q9), (0, .ref (a 0)), (1, .int 0), (2, .int b), (3, .int f), (4, .int t)]) hx hb dL_can_18 hl (by decide) rfl (fun ls hl => ?_)
  refine lv_ldc (v := (-99999)) hx hb hown (hts (.constant RL 54 (-99999)) (by decide +kernel)) dL_can_20 ?_
  exact MG.ret hx hb hr hlocks hK hP hD hS (by omega) (Nat.le_of_ble_eq_true rfl) (Nat.le_of_ble_eq_true rfl) dL_can_22 (by exact ⟨rfl, rfl⟩)
set_option maxHeartbeats 4000000 in
set_option maxRecDepth 100000 in
theorem g_trains (l : Launch) (D : va_G) (cI cZ : ClassId) (a : Nat → Nat) (sz : Nat) (hfl : l.stackTraces = false)  : MG l yL_trains wsL_trains ({ frames := 10, cells := 1, slots := 6, locals := 176 }) D (ty2 cI cZ) (wX cI cZ a) [.ref (a 0)] z0 sz (fun r u => u = z0 ∧ r = 0) 1 1 6 := by
  refine MG.of (cc := cL_trains) (maxL := 2) (by decide) rfl (Nat.le_of_ble_eq_true rfl) ?_
  intro p e s m args below meth c A H locs ls hx hb hr hml hown hts hlocks hEV hZ hA hS hP hK hD hl
  have hl : lv_has ls 2 [(0, .ref (a 0))] := hl
  have hG : s.heap.size + 0 ≤ H.size := hS.1
  refine lv_iconst (v := 0) hx hb dL_trains_0 (by decide) ?_
  refine lv_istore_n (lv' := [(1, .int 0), (0, .ref (a 0))]) hx hb dL_trains_1 rfl hl (by decide) rfl (fun ls hl => ?_)
  refine lv_aload_n hx hb dL_trains_2 rfl (lv_at hl 1 rfl) ?_
  refine lv_iconst (v := 0) hx hb dL_trains_3 (by decide) ?_
  refine lv_iload_n hx hb dL_trains_4 rfl (lv_at hl 0 rfl) ?_
  refine lv_iconst (v := 0) hx hb dL_trains_5 (by decide) ?_
  refine MG.callSW (As := [.ref (a 0), .int 0, .int 0, .int 0]) (rest := []) ⟨hx, hb, hml, hown, hts⟩ (g_looks0 l D cI cZ a H.size hfl 0 0) (vx_cwSW 4 hts gL_trains_L_looks rfl rfl rfl (by decide +kernel) ⟨Nat.le_of_ble_eq_true rfl, Nat.le_of_ble_eq_true rfl⟩) hP hK hD hS hA hEV hZ rfl hl.1 (Nat.le_of_ble_eq_true rfl) (Nat.le_of_ble_eq_true rfl) (Nat.le_of_ble_eq_true rfl) dL_trains_6 rfl (fun r_1 u_1 H_1 locs h_1 hP hD hS hg => ?_)
  have h_1 : u_1 = z0 ∧ r_1 = (-99999) := h_1
  obtain ⟨e_1, f_1⟩ := h_1
  subst e_1
  subst f_1
  have hG : s.heap.size + 1 ≤ H_1.size := by omega
  refine lv_if_lt (tgt := 18) hx hb dL_trains_9 (by decide) (fun _ => ?_) (fun c9 => absurd (by decide) c9)
  refine lv_iload_n hx hb dL_trains_18 rfl (lv_at hl 0 rfl) ?_
  exact MG.ret hx hb hr hlocks hK hP hD hS (by omega) (Nat.le_of_ble_eq_true rfl) (Nat.le_of_ble_eq_true rfl) dL_trains_19 (by exact ⟨rfl, rfl⟩)
set_option maxHeartbeats 4000000 in
set_option maxRecDepth 100000 in
theorem g_act (l : Launch) (D : va_G) (cI cZ : ClassId) (a : Nat → Nat) (sz : Nat) (hfl : l.stackTraces = false)  : MG l yL_act wsL_act ({ frames := 10, cells := 1, slots := 6, locals := 178 }) D (ty2 cI cZ) (wX cI cZ a) [.ref (a 0), .int 0] z0 sz (fun r u => u = z0 ∧ r = -99999) 1 1 6 := by
  refine MG.of (cc := cL_act) (maxL := 6) (by decide) rfl (Nat.le_of_ble_eq_true rfl) ?_
  intro p e s m args below meth c A H locs ls hx hb hr hml hown hts hlocks hEV hZ hA hS hP hK hD hl
  have hl : lv_has ls 6 [(0, .ref (a 0)), (1, .int 0)] := hl
  have hG : s.heap.size + 0 ≤ H.size := hS.1
  refine lv_iload_n hx hb dL_act_0 rfl (lv_at hl 1 rfl) ?_
  refine lv_bipush (v := 24) hx hb dL_act_1 (by decide) ?_
  refine lv_ishr hx hb dL_act_3 ?_
  refine lv_topi (fun v_1 e_1 => ?_)
  obtain rfl : v_1 = 0 := e_1.trans (by decide +kernel)
  refine lv_bipush (v := 8) hx hb dL_act_4 (by decide) ?_
  refine MG.callS (As := [.int 0, .int 8]) (rest := []) ⟨hx, hb, hml, hown, hts⟩ (g_low l D (ty2 cI cZ) (wX cI cZ a) z0 H.size 0 8 (by decide)) (va_cwS 2 hts gL_act_L_low rfl rfl rfl (by decide +kernel) ⟨Nat.le_of_ble_eq_true rfl, Nat.le_of_ble_eq_true rfl⟩) hP hK hD hS hA hEV hZ rfl hl.1 (Nat.le_of_ble_eq_true rfl) (Nat.le_of_ble_eq_true rfl) (Nat.le_of_ble_eq_true rfl) dL_act_6 rfl (fun r_2 u_2 H_2 locs h_2 hP hD hS hg => ?_)
  have h_2 : u_2 = z0 ∧ r_2 = 0 := ⟨h_2.1, h_2.2.trans (by decide +kernel)⟩
  obtain ⟨e_2, f_2⟩ := h_2
  subst e_2
  subst f_2
  have hG : s.heap.size + 0 ≤ H_2.size := by omega
  refine lv_if_ne (tgt := 16) hx hb dL_act_9 (by decide) (fun c9 => absurd (by decide) c9) (fun _ => ?_)
  refine lv_iconst (v := 1) hx hb dL_act_12 (by decide) ?_
  refine lv_goto (tgt := 17) hx hb dL_act_13 (by decide) ?_
  refine lv_istore_n (lv' := [(2, .int 1), (0, .ref (a 0)), (1, .int 0)]) hx hb dL_act_17 rfl hl (by decide) rfl (fun ls hl => ?_)
  refine lv_iload_n hx hb dL_act_18 rfl (lv_at hl 2 rfl) ?_
  refine lv_bipush (v := 32) hx hb dL_act_19 (by decide) ?_
  refine MG.callS (As := [.int 0, .int 32]) (rest := []) ⟨hx, hb, hml, hown, hts⟩ (g_low l D (ty2 cI cZ) (wX cI cZ a) z0 H_2.size 0 32 (by decide)) (va_cwS 2 hts gL_act_L_low rfl rfl rfl (by decide +kernel) ⟨Nat.le_of_ble_eq_true rfl, Nat.le_of_ble_eq_true rfl⟩) hP hK hD hS hA hEV hZ rfl hl.1 (Nat.le_of_ble_eq_true rfl) (Nat.le_of_ble_eq_true rfl) (Nat.le_of_ble_eq_true rfl) dL_act_21 rfl (fun r_3 u_3 H_3 locs h_3 hP hD hS hg => ?_)
  have h_3 : u_3 = z0 ∧ r_3 = 0 := ⟨h_3.1, h_3.2.trans (by decide +kernel)⟩
  obtain ⟨e_3, f_3⟩ := h_3
  subst e_3
  subst f_3
  have hG : s.heap.size + 0 ≤ H_3.size := by omega
  refine lv_istore_n (lv' := [(3, .int 0), (2, .int 1), (0, .ref (a 0)), (1, .int 0)]) hx hb dL_act_24 rfl hl (by decide) rfl (fun ls hl => ?_)
  refine lv_iload_n hx hb dL_act_25 rfl (lv_at hl 1 rfl) ?_
  refine lv_if_eq (tgt := 43) hx hb dL_act_26 (by decide) (fun c9 => absurd c9 (by decide)) (fun _ => ?_)
  refine lv_iload_n hx hb dL_act_29 rfl (lv_at hl 3 rfl) ?_
  refine lv_bipush (v := 6) hx hb dL_act_30 (by decide) ?_
  refine lv_ishr hx hb dL_act_32 ?_
  refine lv_topi (fun v_4 e_4 => ?_)
  obtain rfl : v_4 = 0 := e_4.trans (by decide +kernel)
  refine lv_bipush (v := 7) hx hb dL_act_33 (by decide) ?_
  refine MG.callS (As := [.int 0, .int 7]) (rest := []) ⟨hx, hb, hml, hown, hts⟩ (g_low l D (ty2 cI cZ) (wX cI cZ a) z0 H_3.size 0 7 (by decide)) (va_cwS 2 hts gL_act_L_low rfl rfl rfl (by decide +kernel) ⟨Nat.le_of_ble_eq_true rfl, Nat.le_of_ble_eq_true rfl⟩) hP hK hD hS hA hEV hZ rfl hl.1 (Nat.le_of_ble_eq_true rfl) (Nat.le_of_ble_eq_true rfl) (Nat.le_of_ble_eq_true rfl) dL_act_35 rfl (fun r_5 u_5 H_5 locs h_5 hP hD hS hg => ?_)
  have h_5 : u_5 = z0 ∧ r_5 = 0 := ⟨h_5.1, h_5.2.trans (by decide +kernel)⟩
  obtain ⟨e_5, f_5⟩ := h_5
  subst e_5
  subst f_5
  have hG : s.heap.size + 0 ≤ H_5.size := by omega
  refine lv_iconst (v := 1) hx hb dL_act_38 (by decide) ?_
  refine lv_isub hx hb dL_act_39 ?_
  refine lv_topi (fun v_6 e_6 => ?_)
  obtain rfl : v_6 = (-1) := e_6.trans (by decide +kernel)
  refine lv_goto (tgt := 51) hx hb dL_act_40 (by decide) ?_
  refine lv_istore (lv' := [(4, .int (-1)), (3, .int 0), (2, .int 1), (0, .ref (a 0)), (1, .int 0)]) hx hb dL_act_51 hl (by decide) rfl (fun ls hl => ?_)
  refine lv_iload_n hx hb dL_act_53 rfl (lv_at hl 1 rfl) ?_
  refine lv_iconst (v := 2) hx hb dL_act_54 (by decide) ?_
  refine lv_icmp_ge (tgt := 97) hx hb dL_act_55 (by decide) (fun c9 => absurd c9 (by decide)) (fun _ => ?_)
  refine lv_aload_n hx hb dL_act_58 rfl (lv_at hl 3 rfl) ?_
  refine lv_iconst (v := 0) hx hb dL_act_59 (by decide) ?_
  refine lv_iload_n hx hb dL_act_60 rfl (lv_at hl 2 rfl) ?_
  refine lv_if_eq (tgt := 78) hx hb dL_act_61 (by decide) (fun c9 => absurd c9 (by decide)) (fun _ => ?_)
  refine lv_iload_n hx hb dL_act_64 rfl (lv_at hl 4 rfl) ?_
  refine lv_bipush (v := 6) hx hb dL_act_65 (by decide) ?_
  refine lv_ishr hx hb dL_act_67 ?_
  refine lv_topi (fun v_7 e_7 => ?_)
  obtain rfl : v_7 = 0 := e_7.trans (by decide +kernel)
  refine lv_bipush (v := 11) hx hb dL_act_68 (by decide) ?_
  refine MG.callS (As := [.int 0, .int 11]) (rest := [.int 0, .ref (a 0)]) ⟨hx, hb, hml, hown, hts⟩ (g_low l D (ty2 cI cZ) (wX cI cZ a) z0 H_5.size 0 11 (by decide)) (va_cwS 2 hts gL_act_L_low rfl rfl rfl (by decide +kernel) ⟨Nat.le_of_ble_eq_true rfl, Nat.le_of_ble_eq_true rfl⟩) hP hK hD hS hA hEV hZ rfl hl.1 (Nat.le_of_ble_eq_true rfl) (Nat.le_of_ble_eq_true rfl) (Nat.le_of_ble_eq_true rfl) dL_act_70 rfl (fun r_8 u_8 H_8 locs h_8 hP hD hS hg => ?_)
  have h_8 : u_8 = z0 ∧ r_8 = 0 := ⟨h_8.1, h_8.2.trans (by decide +kernel)⟩
  obtain ⟨e_8, f_8⟩ := h_8
  subst e_8
  subst f_8
  have hG : s.heap.size + 0 ≤ H_8.size := by omega
  refine lv_iconst (v := 1) hx hb dL_act_73 (by decide) ?_
  refine lv_isub hx hb dL_act_74 ?_
  refine lv_topi (fun v_9 e_9 => ?_)
  obtain rfl : v_9 = (-1) := e_9.trans (by decide +kernel)
  refine lv_goto (tgt := 85) hx hb dL_act_75 (by decide) ?_
  refine lv_iload_n hx hb dL_act_85 rfl (lv_at hl 4 rfl) ?_
  refine lv_bipush (v := 10) hx hb dL_act_86 (by decide) ?_
  refine lv_ishr hx hb dL_act_88 ?_
  refine lv_topi (fun v_10 e_10 => ?_)
  obtain rfl : v_10 = 0 := e_10.trans (by decide +kernel)
  refine lv_iconst (v := 1) hx hb dL_act_89 (by decide) ?_
  refine lv_iand hx hb dL_act_90 ?_
  refine lv_topi (fun v_11 e_11 => ?_)
  obtain rfl : v_11 = 0 := e_11.trans (by decide +kernel)
  refine lv_iconst (v := 0) hx hb dL_act_91 (by decide) ?_
  refine lv_iconst (v := 0) hx hb dL_act_92 (by decide) ?_
  refine MG.callSW (As := [.ref (a 0), .int 0, .int (-1), .int 0, .int 0, .int 0]) (rest := []) ⟨hx, hb, hml, hown, hts⟩ (g_does l D cI cZ a H_8.size hfl) (vx_cwSW 6 hts gL_act_L_does rfl rfl rfl (by decide +kernel) ⟨Nat.le_of_ble_eq_true rfl, Nat.le_of_ble_eq_true rfl⟩) hP hK hD hS hA hEV hZ rfl hl.1 (Nat.le_of_ble_eq_true rfl) (Nat.le_of_ble_eq_true rfl) (Nat.le_of_ble_eq_true rfl) dL_act_93 rfl (fun r_12 u_12 H_12 locs h_12 hP hD hS hg => ?_)
  have h_12 : u_12 = z0 ∧ r_12 = (-99999) := h_12
  obtain ⟨e_12, f_12⟩ := h_12
  subst e_12
  subst f_12
  have hG : s.heap.size + 1 ≤ H_12.size := by omega
  exact MG.ret hx hb hr hlocks hK hP hD hS (by omega) (Nat.le_of_ble_eq_true rfl) (Nat.le_of_ble_eq_true rfl) dL_act_96 (by exact ⟨rfl, rfl⟩)
set_option maxHeartbeats 4000000 in
set_option maxRecDepth 100000 in
theorem g_places (l : Launch) (D : va_G) (cI cZ : ClassId) (a : Nat → Nat) (sz : Nat) (hfl : l.stackTraces = false)  : MG l yL_arePlacesSo wsL_arePlacesSo ({ frames := 11, cells := 15, slots := 90, locals := 197 }) D (ty2 cI cZ) (wX cI cZ a) [.ref (a 0)] z0 sz (fun r u => u = z0 ∧ r = 1) 1 15 90 := by
  refine MG.of (cc := cL_arePlacesSo) (maxL := 10) (by decide) rfl (Nat.le_of_ble_eq_true rfl) ?_
  intro p e s m args below meth c A H locs ls hx hb hr hml hown hts hlocks hEV hZ hA hS hP hK hD hl
  have hl : lv_has ls 10 [(0, .ref (a 0))] := hl
  have hG : s.heap.size + 0 ≤ H.size := hS.1
  refine lv_aload_n hx hb dL_arePlacesSo_0 rfl (lv_at hl 0 rfl) ?_
  refine MG.callS (As := [.ref (a 0)]) (rest := []) ⟨hx, hb, hml, hown, hts⟩ (g_trains l D cI cZ a H.size hfl) (va_cwS 1 hts gL_arePlacesSo_L_trains rfl rfl rfl (by decide +kernel) ⟨Nat.le_of_ble_eq_true rfl, Nat.le_of_ble_eq_true rfl⟩) hP hK hD hS hA hEV hZ rfl hl.1 (Nat.le_of_ble_eq_true rfl) (Nat.le_of_ble_eq_true rfl) (Nat.le_of_ble_eq_true rfl) dL_arePlacesSo_1 rfl (fun r_1 u_1 H_1 locs h_1 hP hD hS hg => ?_)
  have h_1 : u_1 = z0 ∧ r_1 = 0 := h_1
  obtain ⟨e_1, f_1⟩ := h_1
  subst e_1
  subst f_1
  have hG : s.heap.size + 1 ≤ H_1.size := by omega
  refine lv_istore_n (lv' := [(1, .int 0), (0, .ref (a 0))]) hx hb dL_arePlacesSo_4 rfl hl (by decide) rfl (fun ls hl => ?_)
  refine lv_iconst (v := 0) hx hb dL_arePlacesSo_5 (by decide) ?_
  refine lv_istore_n (lv' := [(2, .int 0), (1, .int 0), (0, .ref (a 0))]) hx hb dL_arePlacesSo_6 rfl hl (by decide) rfl (fun ls hl => ?_)
  refine lv_iconst (v := 0) hx hb dL_arePlacesSo_7 (by decide) ?_
  refine lv_istore_n (lv' := [(3, .int 0), (2, .int 0), (1, .int 0), (0, .ref (a 0))]) hx hb dL_arePlacesSo_8 rfl hl (by decide) rfl (fun ls hl => ?_)
  refine lv_iload_n hx hb dL_arePlacesSo_9 rfl (lv_at hl 2 rfl) ?_
  refine lv_iconst (v := 4) hx hb dL_arePlacesSo_10 (by decide) ?_
  refine lv_icmp_gt (tgt := 42) hx hb dL_arePlacesSo_11 (by decide) (fun c9 => absurd c9 (by decide)) (fun _ => ?_)
  refine lv_aload_n hx hb dL_arePlacesSo_14 rfl (lv_at hl 3 rfl) ?_
  refine MG.callV (As := []) (rest := []) ⟨hx, hb, hml, hown, hts⟩ (MI.toMG (c_X5_clock l D cI cZ a H_1.size z0)) (cwV 0 hts gL_arePlacesSo_X5_clock rfl rfl rfl (by decide +kernel) ⟨Nat.le_of_ble_eq_true rfl, Nat.le_of_ble_eq_true rfl⟩) hP hK hD hS hA hEV hZ (va_recv hK hP (ci := 5) (q0 := 0) rfl rfl) rfl hl.1 (Nat.le_of_ble_eq_true rfl) (Nat.le_of_ble_eq_true rfl) (Nat.le_of_ble_eq_true rfl) dL_arePlacesSo_15 rfl (fun r_2 u_2 H_2 locs h_2 hP hD hS hg => ?_)
  have h_2 : u_2 = z0 ∧ r_2 = 0 := h_2
  obtain ⟨e_2, f_2⟩ := h_2
  subst e_2
  subst f_2
  have hG : s.heap.size + 1 ≤ H_2.size := by omega
  refine lv_if_lt (tgt := 42) hx hb dL_arePlacesSo_18 (by decide) (fun c9 => absurd c9 (by decide)) (fun _ => ?_)
  refine lv_aload_n hx hb dL_arePlacesSo_21 rfl (lv_at hl 3 rfl) ?_
  refine MG.callV (As := []) (rest := []) ⟨hx, hb, hml, hown, hts⟩ (MI.toMG (c_X5_clock l D cI cZ a H_2.size z0)) (cwV 0 hts gL_arePlacesSo_X5_clock rfl rfl rfl (by decide +kernel) ⟨Nat.le_of_ble_eq_true rfl, Nat.le_of_ble_eq_true rfl⟩) hP hK hD hS hA hEV hZ (va_recv hK hP (ci := 5) (q0 := 0) rfl rfl) rfl hl.1 (Nat.le_of_ble_eq_true rfl) (Nat.le_of_ble_eq_true rfl) (Nat.le_of_ble_eq_true rfl) dL_arePlacesSo_22 rfl (fun r_3 u_3 H_3 locs h_3 hP hD hS hg => ?_)
  have h_3 : u_3 = z0 ∧ r_3 = 0 := h_3
  obtain ⟨e_3, f_3⟩ := h_3
  subst e_3
  subst f_3
  have hG : s.heap.size + 1 ≤ H_3.size := by omega
  refine lv_sipush (v := 5000) hx hb dL_arePlacesSo_25 (by decide) ?_
  refine lv_icmp_gt (tgt := 42) hx hb dL_arePlacesSo_28 (by decide) (fun c9 => absurd c9 (by decide)) (fun _ => ?_)
  refine lv_aload_n hx hb dL_arePlacesSo_31 rfl (lv_at hl 3 rfl) ?_
  refine MG.callV (As := []) (rest := []) ⟨hx, hb, hml, hown, hts⟩ (MI.toMG (c_X5_earned l D cI cZ a H_3.size z0)) (cwV 0 hts gL_arePlacesSo_X5_earned rfl rfl rfl (by decide +kernel) ⟨Nat.le_of_ble_eq_true rfl, Nat.le_of_ble_eq_true rfl⟩) hP hK hD hS hA hEV hZ (va_recv hK hP (ci := 5) (q0 := 0) rfl rfl) rfl hl.1 (Nat.le_of_ble_eq_true rfl) (Nat.le_of_ble_eq_true rfl) (Nat.le_of_ble_eq_true rfl) dL_arePlacesSo_32 rfl (fun r_4 u_4 H_4 locs h_4 hP hD hS hg => ?_)
  have h_4 : u_4 = z0 ∧ r_4 = 0 := h_4
  obtain ⟨e_4, f_4⟩ := h_4
  subst e_4
  subst f_4
  have hG : s.heap.size + 1 ≤ H_4.size := by omega
  refine lv_if_lt (tgt := 42) hx hb dL_arePlacesSo_35 (by decide) (fun c9 => absurd c9 (by decide)) (fun _ => ?_)
  refine lv_iconst (v := 1) hx hb dL_arePlacesSo_38 (by decide) ?_
  refine lv_goto (tgt := 43) hx hb dL_arePlacesSo_39 (by decide) ?_
  refine lv_istore (lv' := [(4, .int 1), (3, .int 0), (2, .int 0), (1, .int 0), (0, .ref (a 0))]) hx hb dL_arePlacesSo_43 hl (by decide) rfl (fun ls hl => ?_)
  refine lv_iconst (v := 0) hx hb dL_arePlacesSo_45 (by decide) ?_
  refine lv_istore (lv' := [(5, .int 0), (4, .int 1), (3, .int 0), (2, .int 0), (1, .int 0), (0, .ref (a 0))]) hx hb dL_arePlacesSo_46 hl (by decide) rfl (fun ls hl => ?_)
  refine lv_iload hx hb dL_arePlacesSo_48 (lv_at hl 0 rfl) ?_
  refine lv_bipush (v := 8) hx hb dL_arePlacesSo_50 (by decide) ?_
  refine lv_icmp_ge (tgt := 133) hx hb dL_arePlacesSo_52 (by decide) (fun c9 => absurd c9 (by decide)) (fun _ => ?_)
  refine lv_iload hx hb dL_arePlacesSo_55 (lv_at hl 1 rfl) ?_
  refine lv_if_eq (tgt := 133) hx hb dL_arePlacesSo_57 (by decide) (fun c9 => absurd c9 (by decide)) (fun _ => ?_)
  refine lv_aload_n hx hb dL_arePlacesSo_60 rfl (lv_at hl 5 rfl) ?_
  refine lv_iload hx hb dL_arePlacesSo_61 (lv_at hl 0 rfl) ?_
  refine XI.okV (As := [.int 0]) (rest := []) ⟨hx, hb, hml, hown, hts⟩ (c_X5_trainOn l D cI cZ a H_4.size z0 hfl 0 0 rfl (Nat.zero_le 4)) (fun E q9 => absurd (q9.2.symm.trans (cif_t (show inR 0 0 7 from ⟨by decide, by decide⟩))) (by decide)) (cwV 1 hts gL_arePlacesSo_X5_trainOn rfl rfl rfl (by decide +kernel) ⟨Nat.le_of_ble_eq_true rfl, Nat.le_of_ble_eq_true rfl⟩) hP hK hD hS hA hEV hZ (va_recv hK hP (ci := 5) (q0 := 0) rfl rfl) rfl hl.1 (Nat.le_of_ble_eq_true rfl) (Nat.le_of_ble_eq_true rfl) (Nat.le_of_ble_eq_true rfl) dL_arePlacesSo_63 rfl (fun r_5 u_5 H_5 locs h_5 hP hD hS hg => ?_)
  have h_5 : u_5 = z0 ∧ r_5 = (-1) := ⟨h_5.2.1, h_5.2.2⟩
  obtain ⟨e_5, f_5⟩ := h_5
  subst e_5
  subst f_5
  have hG : s.heap.size + 1 ≤ H_5.size := by omega
  refine lv_istore (lv' := [(6, .int (-1)), (5, .int 0), (4, .int 1), (3, .int 0), (2, .int 0), (1, .int 0), (0, .ref (a 0))]) hx hb dL_arePlacesSo_66 hl (by decide) rfl (fun ls hl => ?_)
  refine lv_iload hx hb dL_arePlacesSo_68 (lv_at hl 0 rfl) ?_
  refine lv_iconst (v := (-1)) hx hb dL_arePlacesSo_70 (by decide) ?_
  refine lv_icmp_lt (tgt := 111) hx hb dL_arePlacesSo_71 (by decide) (fun c9 => absurd c9 (by decide)) (fun _ => ?_)
  refine lv_iload hx hb dL_arePlacesSo_74 (lv_at hl 0 rfl) ?_
  refine lv_iload_n hx hb dL_arePlacesSo_76 rfl (lv_at hl 5 rfl) ?_
  refine lv_icmp_ge (tgt := 111) hx hb dL_arePlacesSo_77 (by decide) (fun c9 => absurd c9 (by decide)) (fun _ => ?_)
  refine lv_iload hx hb dL_arePlacesSo_80 (lv_at hl 0 rfl) ?_
  refine lv_if_lt (tgt := 107) hx hb dL_arePlacesSo_82 (by decide) (fun _ => ?_) (fun c9 => absurd (by decide) c9)
  refine lv_iconst (v := 1) hx hb dL_arePlacesSo_107 (by decide) ?_
  refine lv_goto (tgt := 112) hx hb dL_arePlacesSo_108 (by decide) ?_
  refine lv_istore (lv' := [(4, .int 1), (6, .int (-1)), (5, .int 0), (3, .int 0), (2, .int 0), (1, .int 0), (0, .ref (a 0))]) hx hb dL_arePlacesSo_112 hl (by decide) rfl (fun ls hl => ?_)
  refine lv_iload_n hx hb dL_arePlacesSo_114 rfl (lv_at hl 3 rfl) ?_
  refine lv_iload hx hb dL_arePlacesSo_115 (lv_at hl 1 rfl) ?_
  refine lv_if_ge (tgt := 124) hx hb dL_arePlacesSo_117 (by decide) (fun c9 => absurd c9 (by decide)) (fun _ => ?_)
  refine lv_iconst (v := 0) hx hb dL_arePlacesSo_120 (by decide) ?_
  refine lv_goto (tgt := 125) hx hb dL_arePlacesSo_121 (by decide) ?_
  refine lv_iadd hx hb dL_arePlacesSo_125 ?_
  refine lv_topi (fun v_6 e_6 => ?_)
  obtain rfl : v_6 = 0 := e_6.trans (by decide +kernel)
  refine lv_istore_n (lv' := [(3, .int 0), (4, .int 1), (6, .int (-1)), (5, .int 0), (2, .int 0), (1, .int 0), (0, .ref (a 0))]) hx hb dL_arePlacesSo_126 rfl hl (by decide) rfl (fun ls hl => ?_)
  refine lv_iinc (v := 1) (lv' := [(5, .int 1), (3, .int 0), (4, .int 1), (6, .int (-1)), (2, .int 0), (1, .int 0), (0, .ref (a 0))]) hx hb dL_arePlacesSo_127 hl (k := 3) rfl (by decide +kernel) (by decide) rfl (fun ls hl => ?_)
  refine lv_goto (tgt := 48) hx hb dL_arePlacesSo_130 (by decide) ?_
  refine lv_iload hx hb dL_arePlacesSo_48 (lv_at hl 0 rfl) ?_
  refine lv_bipush (v := 8) hx hb dL_arePlacesSo_50 (by decide) ?_
  refine lv_icmp_ge (tgt := 133) hx hb dL_arePlacesSo_52 (by decide) (fun c9 => absurd c9 (by decide)) (fun _ => ?_)
  refine lv_iload hx hb dL_arePlacesSo_55 (lv_at hl 2 rfl) ?_
  refine lv_if_eq (tgt := 133) hx hb dL_arePlacesSo_57 (by decide) (fun c9 => absurd c9 (by decide)) (fun _ => ?_)
  refine lv_aload_n hx hb dL_arePlacesSo_60 rfl (lv_at hl 6 rfl) ?_
  refine lv_iload hx hb dL_arePlacesSo_61 (lv_at hl 0 rfl) ?_
  refine XI.okV (As := [.int 1]) (rest := []) ⟨hx, hb, hml, hown, hts⟩ (c_X5_trainOn l D cI cZ a H_5.size z0 hfl 1 0 rfl (Nat.zero_le 4)) (fun E q9 => absurd (q9.2.symm.trans (cif_t (show inR 1 0 7 from ⟨by decide, by decide⟩))) (by decide)) (cwV 1 hts gL_arePlacesSo_X5_trainOn rfl rfl rfl (by decide +kernel) ⟨Nat.le_of_ble_eq_true rfl, Nat.le_of_ble_eq_true rfl⟩) hP hK hD hS hA hEV hZ (va_recv hK hP (ci := 5) (q0 := 0) rfl rfl) rfl hl.1 (Nat.le_of_ble_eq_true rfl) (Nat.le_of_ble_eq_true rfl) (Nat.le_of_ble_eq_true rfl) dL_arePlacesSo_63 rfl (fun r_7 u_7 H_7 locs h_7 hP hD hS hg => ?_)
  have h_7 : u_7 = z0 ∧ r_7 = (-1) := ⟨h_7.2.1, h_7.2.2⟩
  obtain ⟨e_7, f_7⟩ := h_7
  subst e_7
  subst f_7
  have hG : s.heap.size + 1 ≤ H_7.size := by omega
  refine lv_istore (lv' := [(6, .int (-1)), (5, .int 1), (3, .int 0), (4, .int 1), (2, .int 0), (1, .int 0), (0, .ref (a 0))]) hx hb dL_arePlacesSo_66 hl (by decide) rfl (fun ls hl => ?_)
  refine lv_iload hx hb dL_arePlacesSo_68 (lv_at hl 0 rfl) ?_
  refine lv_iconst (v := (-1)) hx hb dL_arePlacesSo_70 (by decide) ?_
  refine lv_icmp_lt (tgt := 111) hx hb dL_arePlacesSo_71 (by decide) (fun c9 => absurd c9 (by decide)) (fun _ => ?_)
  refine lv_iload hx hb dL_arePlacesSo_74 (lv_at hl 0 rfl) ?_
  refine lv_iload_n hx hb dL_arePlacesSo_76 rfl (lv_at hl 5 rfl) ?_
  refine lv_icmp_ge (tgt := 111) hx hb dL_arePlacesSo_77 (by decide) (fun c9 => absurd c9 (by decide)) (fun _ => ?_)
  refine lv_iload hx hb dL_arePlacesSo_80 (lv_at hl 0 rfl) ?_
  refine lv_if_lt (tgt := 107) hx hb dL_arePlacesSo_82 (by decide) (fun _ => ?_) (fun c9 => absurd (by decide) c9)
  refine lv_iconst (v := 1) hx hb dL_arePlacesSo_107 (by decide) ?_
  refine lv_goto (tgt := 112) hx hb dL_arePlacesSo_108 (by decide) ?_
  refine lv_istore (lv' := [(4, .int 1), (6, .int (-1)), (5, .int 1), (3, .int 0), (2, .int 0), (1, .int 0), (0, .ref (a 0))]) hx hb dL_arePlacesSo_112 hl (by decide) rfl (fun ls hl => ?_)
  refine lv_iload_n hx hb dL_arePlacesSo_114 rfl (lv_at hl 3 rfl) ?_
  refine lv_iload hx hb dL_arePlacesSo_115 (lv_at hl 1 rfl) ?_
  refine lv_if_ge (tgt := 124) hx hb dL_arePlacesSo_117 (by decide) (fun c9 => absurd c9 (by decide)) (fun _ => ?_)
  refine lv_iconst (v := 0) hx hb dL_arePlacesSo_120 (by decide) ?_
  refine lv_goto (tgt := 125) hx hb dL_arePlacesSo_121 (by decide) ?_
  refine lv_iadd hx hb dL_arePlacesSo_125 ?_
  refine lv_topi (fun v_8 e_8 => ?_)
  obtain rfl : v_8 = 0 := e_8.trans (by decide +kernel)
  refine lv_istore_n (lv' := [(3, .int 0), (4, .int 1), (6, .int (-1)), (5, .int 1), (2, .int 0), (1, .int 0), (0, .ref (a 0))]) hx hb dL_arePlacesSo_126 rfl hl (by decide) rfl (fun ls hl => ?_)
  refine lv_iinc (v := 2) (lv' := [(5, .int 2), (3, .int 0), (4, .int 1), (6, .int (-1)), (2, .int 0), (1, .int 0), (0, .ref (a 0))]) hx hb dL_arePlacesSo_127 hl (k := 3) rfl (by decide +kernel) (by decide) rfl (fun ls hl => ?_)
  refine lv_goto (tgt := 48) hx hb dL_arePlacesSo_130 (by decide) ?_
  refine lv_iload hx hb dL_arePlacesSo_48 (lv_at hl 0 rfl) ?_
  refine lv_bipush (v := 8) hx hb dL_arePlacesSo_50 (by decide) ?_
  refine lv_icmp_ge (tgt := 133) hx hb dL_arePlacesSo_52 (by decide) (fun c9 => absurd c9 (by decide)) (fun _ => ?_)
  refine lv_iload hx hb dL_arePlacesSo_55 (lv_at hl 2 rfl) ?_
  refine lv_if_eq (tgt := 133) hx hb dL_arePlacesSo_57 (by decide) (fun c9 => absurd c9 (by decide)) (fun _ => ?_)
  refine lv_aload_n hx hb dL_arePlacesSo_60 rfl (lv_at hl 6 rfl) ?_
  refine lv_iload hx hb dL_arePlacesSo_61 (lv_at hl 0 rfl) ?_
  refine XI.okV (As := [.int 2]) (rest := []) ⟨hx, hb, hml, hown, hts⟩ (c_X5_trainOn l D cI cZ a H_7.size z0 hfl 2 0 rfl (Nat.zero_le 4)) (fun E q9 => absurd (q9.2.symm.trans (cif_t (show inR 2 0 7 from ⟨by decide, by decide⟩))) (by decide)) (cwV 1 hts gL_arePlacesSo_X5_trainOn rfl rfl rfl (by decide +kernel) ⟨Nat.le_of_ble_eq_true rfl, Nat.le_of_ble_eq_true rfl⟩) hP hK hD hS hA hEV hZ (va_recv hK hP (ci := 5) (q0 := 0) rfl rfl) rfl hl.1 (Nat.le_of_ble_eq_true rfl) (Nat.le_of_ble_eq_true rfl) (Nat.le_of_ble_eq_true rfl) dL_arePlacesSo_63 rfl (fun r_9 u_9 H_9 locs h_9 hP hD hS hg => ?_)
  have h_9 : u_9 = z0 ∧ r_9 = (-1) := ⟨h_9.2.1, h_9.2.2⟩
  obtain ⟨e_9, f_9⟩ := h_9
  subst e_9
  subst f_9
  have hG : s.heap.size + 1 ≤ H_9.size := by omega
  refine lv_istore (lv' := [(6, .int (-1)), (5, .int 2), (3, .int 0), (4, .int 1), (2, .int 0), (1, .int 0), (0, .ref (a 0))]) hx hb dL_arePlacesSo_66 hl (by decide) rfl (fun ls hl => ?_)
  refine lv_iload hx hb dL_arePlacesSo_68 (lv_at hl 0 rfl) ?_
  refine lv_iconst (v := (-1)) hx hb dL_arePlacesSo_70 (by decide) ?_
  refine lv_icmp_lt (tgt := 111) hx hb dL_arePlacesSo_71 (by decide) (fun c9 => absurd c9 (by decide)) (fun _ => ?_)
  refine lv_iload hx hb dL_arePlacesSo_74 (lv_at hl 0 rfl) ?_
  refine lv_iload_n hx hb dL_arePlacesSo_76 rfl (lv_at hl 5 rfl) ?_
  refine lv_icmp_ge (tgt := 111) hx hb dL_arePlacesSo_77 (by decide) (fun c9 => absurd c9 (by decide)) (fun _ => ?_)
  refine lv_iload hx hb dL_arePlacesSo_80 (lv_at hl 0 rfl) ?_
  refine lv_if_lt (tgt := 107) hx hb dL_arePlacesSo_82 (by decide) (fun _ => ?_) (fun c9 => absurd (by decide) c9)
  refine lv_iconst (v := 1) hx hb dL_arePlacesSo_107 (by decide) ?_
  refine lv_goto (tgt := 112) hx hb dL_arePlacesSo_108 (by decide) ?_
  refine lv_istore (lv' := [(4, .int 1), (6, .int (-1)), (5, .int 2), (3, .int 0), (2, .int 0), (1, .int 0), (0, .ref (a 0))]) hx hb dL_arePlacesSo_112 hl (by decide) rfl (fun ls hl => ?_)
  refine lv_iload_n hx hb dL_arePlacesSo_114 rfl (lv_at hl 3 rfl) ?_
  refine lv_iload hx hb dL_arePlacesSo_115 (lv_at hl 1 rfl) ?_
  refine lv_if_ge (tgt := 124) hx hb dL_arePlacesSo_117 (by decide) (fun c9 => absurd c9 (by decide)) (fun _ => ?_)
  refine lv_iconst (v := 0) hx hb dL_arePlacesSo_120 (by decide) ?_
  refine lv_goto (tgt := 125) hx hb dL_arePlacesSo_121 (by decide) ?_
  refine lv_iadd hx hb dL_arePlacesSo_125 ?_
  refine lv_topi (fun v_10 e_10 => ?_)
  obtain rfl : v_10 = 0 := e_10.trans (by decide +kernel)
  refine lv_istore_n (lv' := [(3, .int 0), (4, .int 1), (6, .int (-1)), (5, .int 2), (2, .int 0), (1, .int 0), (0, .ref (a 0))]) hx hb dL_arePlacesSo_126 rfl hl (by decide) rfl (fun ls hl => ?_)
  refine lv_iinc (v := 3) (lv' := [(5, .int 3), (3, .int 0), (4, .int 1), (6, .int (-1)), (2, .int 0), (1, .int 0), (0, .ref (a 0))]) hx hb dL_arePlacesSo_127 hl (k := 3) rfl (by decide +kernel) (by decide) rfl (fun ls hl => ?_)
  refine lv_goto (tgt := 48) hx hb dL_arePlacesSo_130 (by decide) ?_
  refine lv_iload hx hb dL_arePlacesSo_48 (lv_at hl 0 rfl) ?_
  refine lv_bipush (v := 8) hx hb dL_arePlacesSo_50 (by decide) ?_
  refine lv_icmp_ge (tgt := 133) hx hb dL_arePlacesSo_52 (by decide) (fun c9 => absurd c9 (by decide)) (fun _ => ?_)
  refine lv_iload hx hb dL_arePlacesSo_55 (lv_at hl 2 rfl) ?_
  refine lv_if_eq (tgt := 133) hx hb dL_arePlacesSo_57 (by decide) (fun c9 => absurd c9 (by decide)) (fun _ => ?_)
  refine lv_aload_n hx hb dL_arePlacesSo_60 rfl (lv_at hl 6 rfl) ?_
  refine lv_iload hx hb dL_arePlacesSo_61 (lv_at hl 0 rfl) ?_
  refine XI.okV (As := [.int 3]) (rest := []) ⟨hx, hb, hml, hown, hts⟩ (c_X5_trainOn l D cI cZ a H_9.size z0 hfl 3 0 rfl (Nat.zero_le 4)) (fun E q9 => absurd (q9.2.symm.trans (cif_t (show inR 3 0 7 from ⟨by decide, by decide⟩))) (by decide)) (cwV 1 hts gL_arePlacesSo_X5_trainOn rfl rfl rfl (by decide +kernel) ⟨Nat.le_of_ble_eq_true rfl, Nat.le_of_ble_eq_true rfl⟩) hP hK hD hS hA hEV hZ (va_recv hK hP (ci := 5) (q0 := 0) rfl rfl) rfl hl.1 (Nat.le_of_ble_eq_true rfl) (Nat.le_of_ble_eq_true rfl) (Nat.le_of_ble_eq_true rfl) dL_arePlacesSo_63 rfl (fun r_11 u_11 H_11 locs h_11 hP hD hS hg => ?_)
  have h_11 : u_11 = z0 ∧ r_11 = (-1) := ⟨h_11.2.1, h_11.2.2⟩
  obtain ⟨e_11, f_11⟩ := h_11
  subst e_11
  subst f_11
  have hG : s.heap.size + 1 ≤ H_11.size := by omega
  refine lv_istore (lv' := [(6, .int (-1)), (5, .int 3), (3, .int 0), (4, .int 1), (2, .int 0), (1, .int 0), (0, .ref (a 0))]) hx hb dL_arePlacesSo_66 hl (by decide) rfl (fun ls hl => ?_)
  refine lv_iload hx hb dL_arePlacesSo_68 (lv_at hl 0 rfl) ?_
  refine lv_iconst (v := (-1)) hx hb dL_arePlacesSo_70 (by decide) ?_
  refine lv_icmp_lt (tgt := 111) hx hb dL_arePlacesSo_71 (by decide) (fun c9 => absurd c9 (by decide)) (fun _ => ?_)
  refine lv_iload hx hb dL_arePlacesSo_74 (lv_at hl 0 rfl) ?_
  refine lv_iload_n hx hb dL_arePlacesSo_76 rfl (lv_at hl 5 rfl) ?_
  refine lv_icmp_ge (tgt := 111) hx hb dL_arePlacesSo_77 (by decide) (fun c9 => absurd c9 (by decide)) (fun _ => ?_)
  refine lv_iload hx hb dL_arePlacesSo_80 (lv_at hl 0 rfl) ?_
  refine lv_if_lt (tgt := 107) hx hb dL_arePlacesSo_82 (by decide) (fun _ => ?_) (fun c9 => absurd (by decide) c9)
  refine lv_iconst (v := 1) hx hb dL_arePlacesSo_107 (by decide) ?_
  refine lv_goto (tgt := 112) hx hb dL_arePlacesSo_108 (by decide) ?_
  refine lv_istore (lv' := [(4, .int 1), (6, .int (-1)), (5, .int 3), (3, .int 0), (2, .int 0), (1, .int 0), (0, .ref (a 0))]) hx hb dL_arePlacesSo_112 hl (by decide) rfl (fun ls hl => ?_)
  refine lv_iload_n hx hb dL_arePlacesSo_114 rfl (lv_at hl 3 rfl) ?_
  refine lv_iload hx hb dL_arePlacesSo_115 (lv_at hl 1 rfl) ?_
  refine lv_if_ge (tgt := 124) hx hb dL_arePlacesSo_117 (by decide) (fun c9 => absurd c9 (by decide)) (fun _ => ?_)
  refine lv_iconst (v := 0) hx hb dL_arePlacesSo_120 (by decide) ?_
  refine lv_goto (tgt := 125) hx hb dL_arePlacesSo_121 (by decide) ?_
  refine lv_iadd hx hb dL_arePlacesSo_125 ?_
  refine lv_topi (fun v_12 e_12 => ?_)
  obtain rfl : v_12 = 0 := e_12.trans (by decide +kernel)
  refine lv_istore_n (lv' := [(3, .int 0), (4, .int 1), (6, .int (-1)), (5, .int 3), (2, .int 0), (1, .int 0), (0, .ref (a 0))]) hx hb dL_arePlacesSo_126 rfl hl (by decide) rfl (fun ls hl => ?_)
  refine lv_iinc (v := 4) (lv' := [(5, .int 4), (3, .int 0), (4, .int 1), (6, .int (-1)), (2, .int 0), (1, .int 0), (0, .ref (a 0))]) hx hb dL_arePlacesSo_127 hl (k := 3) rfl (by decide +kernel) (by decide) rfl (fun ls hl => ?_)
  refine lv_goto (tgt := 48) hx hb dL_arePlacesSo_130 (by decide) ?_
  refine lv_iload hx hb dL_arePlacesSo_48 (lv_at hl 0 rfl) ?_
  refine lv_bipush (v := 8) hx hb dL_arePlacesSo_50 (by decide) ?_
  refine lv_icmp_ge (tgt := 133) hx hb dL_arePlacesSo_52 (by decide) (fun c9 => absurd c9 (by decide)) (fun _ => ?_)
  refine lv_iload hx hb dL_arePlacesSo_55 (lv_at hl 2 rfl) ?_
  refine lv_if_eq (tgt := 133) hx hb dL_arePlacesSo_57 (by decide) (fun c9 => absurd c9 (by decide)) (fun _ => ?_)
  refine lv_aload_n hx hb dL_arePlacesSo_60 rfl (lv_at hl 6 rfl) ?_
  refine lv_iload hx hb dL_arePlacesSo_61 (lv_at hl 0 rfl) ?_
  refine XI.okV (As := [.int 4]) (rest := []) ⟨hx, hb, hml, hown, hts⟩ (c_X5_trainOn l D cI cZ a H_11.size z0 hfl 4 0 rfl (Nat.zero_le 4)) (fun E q9 => absurd (q9.2.symm.trans (cif_t (show inR 4 0 7 from ⟨by decide, by decide⟩))) (by decide)) (cwV 1 hts gL_arePlacesSo_X5_trainOn rfl rfl rfl (by decide +kernel) ⟨Nat.le_of_ble_eq_true rfl, Nat.le_of_ble_eq_true rfl⟩) hP hK hD hS hA hEV hZ (va_recv hK hP (ci := 5) (q0 := 0) rfl rfl) rfl hl.1 (Nat.le_of_ble_eq_true rfl) (Nat.le_of_ble_eq_true rfl) (Nat.le_of_ble_eq_true rfl) dL_arePlacesSo_63 rfl (fun r_13 u_13 H_13 locs h_13 hP hD hS hg => ?_)
  have h_13 : u_13 = z0 ∧ r_13 = (-1) := ⟨h_13.2.1, h_13.2.2⟩
  obtain ⟨e_13, f_13⟩ := h_13
  subst e_13
  subst f_13
  have hG : s.heap.size + 1 ≤ H_13.size := by omega
  refine lv_istore (lv' := [(6, .int (-1)), (5, .int 4), (3, .int 0), (4, .int 1), (2, .int 0), (1, .int 0), (0, .ref (a 0))]) hx hb dL_arePlacesSo_66 hl (by decide) rfl (fun ls hl => ?_)
  refine lv_iload hx hb dL_arePlacesSo_68 (lv_at hl 0 rfl) ?_
  refine lv_iconst (v := (-1)) hx hb dL_arePlacesSo_70 (by decide) ?_
  refine lv_icmp_lt (tgt := 111) hx hb dL_arePlacesSo_71 (by decide) (fun c9 => absurd c9 (by decide)) (fun _ => ?_)
  refine lv_iload hx hb dL_arePlacesSo_74 (lv_at hl 0 rfl) ?_
  refine lv_iload_n hx hb dL_arePlacesSo_76 rfl (lv_at hl 5 rfl) ?_
  refine lv_icmp_ge (tgt := 111) hx hb dL_arePlacesSo_77 (by decide) (fun c9 => absurd c9 (by decide)) (fun _ => ?_)
  refine lv_iload hx hb dL_arePlacesSo_80 (lv_at hl 0 rfl) ?_
  refine lv_if_lt (tgt := 107) hx hb dL_arePlacesSo_82 (by decide) (fun _ => ?_) (fun c9 => absurd (by decide) c9)
  refine lv_iconst (v := 1) hx hb dL_arePlacesSo_107 (by decide) ?_
  refine lv_goto (tgt := 112) hx hb dL_arePlacesSo_108 (by decide) ?_
  refine lv_istore (lv' := [(4, .int 1), (6, .int (-1)), (5, .int 4), (3, .int 0), (2, .int 0), (1, .int 0), (0, .ref (a 0))]) hx hb dL_arePlacesSo_112 hl (by decide) rfl (fun ls hl => ?_)
  refine lv_iload_n hx hb dL_arePlacesSo_114 rfl (lv_at hl 3 rfl) ?_
  refine lv_iload hx hb dL_arePlacesSo_115 (lv_at hl 1 rfl) ?_
  refine lv_if_ge (tgt := 124) hx hb dL_arePlacesSo_117 (by decide) (fun c9 => absurd c9 (by decide)) (fun _ => ?_)
  refine lv_iconst (v := 0) hx hb dL_arePlacesSo_120 (by decide) ?_
  refine lv_goto (tgt := 125) hx hb dL_arePlacesSo_121 (by decide) ?_
  refine lv_iadd hx hb dL_arePlacesSo_125 ?_
  refine lv_topi (fun v_14 e_14 => ?_)
  obtain rfl : v_14 = 0 := e_14.trans (by decide +kernel)
  refine lv_istore_n (lv' := [(3, .int 0), (4, .int 1), (6, .int (-1)), (5, .int 4), (2, .int 0), (1, .int 0), (0, .ref (a 0))]) hx hb dL_arePlacesSo_126 rfl hl (by decide) rfl (fun ls hl => ?_)
  refine lv_iinc (v := 5) (lv' := [(5, .int 5), (3, .int 0), (4, .int 1), (6, .int (-1)), (2, .int 0), (1, .int 0), (0, .ref (a 0))]) hx hb dL_arePlacesSo_127 hl (k := 3) rfl (by decide +kernel) (by decide) rfl (fun ls hl => ?_)
  refine lv_goto (tgt := 48) hx hb dL_arePlacesSo_130 (by decide) ?_
  refine lv_iload hx hb dL_arePlacesSo_48 (lv_at hl 0 rfl) ?_
  refine lv_bipush (v := 8) hx hb dL_arePlacesSo_50 (by decide) ?_
  refine lv_icmp_ge (tgt := 133) hx hb dL_arePlacesSo_52 (by decide) (fun c9 => absurd c9 (by decide)) (fun _ => ?_)
  refine lv_iload hx hb dL_arePlacesSo_55 (lv_at hl 2 rfl) ?_
  refine lv_if_eq (tgt := 133) hx hb dL_arePlacesSo_57 (by decide) (fun c9 => absurd c9 (by decide)) (fun _ => ?_)
  refine lv_aload_n hx hb dL_arePlacesSo_60 rfl (lv_at hl 6 rfl) ?_
  refine lv_iload hx hb dL_arePlacesSo_61 (lv_at hl 0 rfl) ?_
  refine XI.okV (As := [.int 5]) (rest := []) ⟨hx, hb, hml, hown, hts⟩ (c_X5_trainOn l D cI cZ a H_13.size z0 hfl 5 0 rfl (Nat.zero_le 4)) (fun E q9 => absurd (q9.2.symm.trans (cif_t (show inR 5 0 7 from ⟨by decide, by decide⟩))) (by decide)) (cwV 1 hts gL_arePlacesSo_X5_trainOn rfl rfl rfl (by decide +kernel) ⟨Nat.le_of_ble_eq_true rfl, Nat.le_of_ble_eq_true rfl⟩) hP hK hD hS hA hEV hZ (va_recv hK hP (ci := 5) (q0 := 0) rfl rfl) rfl hl.1 (Nat.le_of_ble_eq_true rfl) (Nat.le_of_ble_eq_true rfl) (Nat.le_of_ble_eq_true rfl) dL_arePlacesSo_63 rfl (fun r_15 u_15 H_15 locs h_15 hP hD hS hg => ?_)
  have h_15 : u_15 = z0 ∧ r_15 = (-1) := ⟨h_15.2.1, h_15.2.2⟩
  obtain ⟨e_15, f_15⟩ := h_15
  subst e_15
  subst f_15
  have hG : s.heap.size + 1 ≤ H_15.size := by omega
  refine lv_istore (lv' := [(6, .int (-1)), (5, .int 5), (3, .int 0), (4, .int 1), (2, .int 0), (1, .int 0), (0, .ref (a 0))]) hx hb dL_arePlacesSo_66 hl (by decide) rfl (fun ls hl => ?_)
  refine lv_iload hx hb dL_arePlacesSo_68 (lv_at hl 0 rfl) ?_
  refine lv_iconst (v := (-1)) hx hb dL_arePlacesSo_70 (by decide) ?_
  refine lv_icmp_lt (tgt := 111) hx hb dL_arePlacesSo_71 (by decide) (fun c9 => absurd c9 (by decide)) (fun _ => ?_)
  refine lv_iload hx hb dL_arePlacesSo_74 (lv_at hl 0 rfl) ?_
  refine lv_iload_n hx hb dL_arePlacesSo_76 rfl (lv_at hl 5 rfl) ?_
  refine lv_icmp_ge (tgt := 111) hx hb dL_arePlacesSo_77 (by decide) (fun c9 => absurd c9 (by decide)) (fun _ => ?_)
  refine lv_iload hx hb dL_arePlacesSo_80 (lv_at hl 0 rfl) ?_
  refine lv_if_lt (tgt := 107) hx hb dL_arePlacesSo_82 (by decide) (fun _ => ?_) (fun c9 => absurd (by decide) c9)
  refine lv_iconst (v := 1) hx hb dL_arePlacesSo_107 (by decide) ?_
  refine lv_goto (tgt := 112) hx hb dL_arePlacesSo_108 (by decide) ?_
  refine lv_istore (lv' := [(4, .int 1), (6, .int (-1)), (5, .int 5), (3, .int 0), (2, .int 0), (1, .int 0), (0, .ref (a 0))]) hx hb dL_arePlacesSo_112 hl (by decide) rfl (fun ls hl => ?_)
  refine lv_iload_n hx hb dL_arePlacesSo_114 rfl (lv_at hl 3 rfl) ?_
  refine lv_iload hx hb dL_arePlacesSo_115 (lv_at hl 1 rfl) ?_
  refine lv_if_ge (tgt := 124) hx hb dL_arePlacesSo_117 (by decide) (fun c9 => absurd c9 (by decide)) (fun _ => ?_)
  refine lv_iconst (v := 0) hx hb dL_arePlacesSo_120 (by decide) ?_
  refine lv_goto (tgt := 125) hx hb dL_arePlacesSo_121 (by decide) ?_
  refine lv_iadd hx hb dL_arePlacesSo_125 ?_
  refine lv_topi (fun v_16 e_16 => ?_)
  obtain rfl : v_16 = 0 := e_16.trans (by decide +kernel)
  refine lv_istore_n (lv' := [(3, .int 0), (4, .int 1), (6, .int (-1)), (5, .int 5), (2, .int 0), (1, .int 0), (0, .ref (a 0))]) hx hb dL_arePlacesSo_126 rfl hl (by decide) rfl (fun ls hl => ?_)
  refine lv_iinc (v := 6) (lv' := [(5, .int 6), (3, .int 0), (4, .int 1), (6, .int (-1)), (2, .int 0), (1, .int 0), (0, .ref (a 0))]) hx hb dL_arePlacesSo_127 hl (k := 3) rfl (by decide +kernel) (by decide) rfl (fun ls hl => ?_)
  refine lv_goto (tgt := 48) hx hb dL_arePlacesSo_130 (by decide) ?_
  refine lv_iload hx hb dL_arePlacesSo_48 (lv_at hl 0 rfl) ?_
  refine lv_bipush (v := 8) hx hb dL_arePlacesSo_50 (by decide) ?_
  refine lv_icmp_ge (tgt := 133) hx hb dL_arePlacesSo_52 (by decide) (fun c9 => absurd c9 (by decide)) (fun _ => ?_)
  refine lv_iload hx hb dL_arePlacesSo_55 (lv_at hl 2 rfl) ?_
  refine lv_if_eq (tgt := 133) hx hb dL_arePlacesSo_57 (by decide) (fun c9 => absurd c9 (by decide)) (fun _ => ?_)
  refine lv_aload_n hx hb dL_arePlacesSo_60 rfl (lv_at hl 6 rfl) ?_
  refine lv_iload hx hb dL_arePlacesSo_61 (lv_at hl 0 rfl) ?_
  refine XI.okV (As := [.int 6]) (rest := []) ⟨hx, hb, hml, hown, hts⟩ (c_X5_trainOn l D cI cZ a H_15.size z0 hfl 6 0 rfl (Nat.zero_le 4)) (fun E q9 => absurd (q9.2.symm.trans (cif_t (show inR 6 0 7 from ⟨by decide, by decide⟩))) (by decide)) (cwV 1 hts gL_arePlacesSo_X5_trainOn rfl rfl rfl (by decide +kernel) ⟨Nat.le_of_ble_eq_true rfl, Nat.le_of_ble_eq_true rfl⟩) hP hK hD hS hA hEV hZ (va_recv hK hP (ci := 5) (q0 := 0) rfl rfl) rfl hl.1 (Nat.le_of_ble_eq_true rfl) (Nat.le_of_ble_eq_true rfl) (Nat.le_of_ble_eq_true rfl) dL_arePlacesSo_63 rfl (fun r_17 u_17 H_17 locs h_17 hP hD hS hg => ?_)
  have h_17 : u_17 = z0 ∧ r_17 = (-1) := ⟨h_17.2.1, h_17.2.2⟩
  obtain ⟨e_17, f_17⟩ := h_17
  subst e_17
  subst f_17
  have hG : s.heap.size + 1 ≤ H_17.size := by omega
  refine lv_istore (lv' := [(6, .int (-1)), (5, .int 6), (3, .int 0), (4, .int 1), (2, .int 0), (1, .int 0), (0, .ref (a 0))]) hx hb dL_arePlacesSo_66 hl (by decide) rfl (fun ls hl => ?_)
  refine lv_iload hx hb dL_arePlacesSo_68 (lv_at hl 0 rfl) ?_
  refine lv_iconst (v := (-1)) hx hb dL_arePlacesSo_70 (by decide) ?_
  refine lv_icmp_lt (tgt := 111) hx hb dL_arePlacesSo_71 (by decide) (fun c9 => absurd c9 (by decide)) (fun _ => ?_)
  refine lv_iload hx hb dL_arePlacesSo_74 (lv_at hl 0 rfl) ?_
  refine lv_iload_n hx hb dL_arePlacesSo_76 rfl (lv_at hl 5 rfl) ?_
  refine lv_icmp_ge (tgt := 111) hx hb dL_arePlacesSo_77 (by decide) (fun c9 => absurd c9 (by decide)) (fun _ => ?_)
  refine lv_iload hx hb dL_arePlacesSo_80 (lv_at hl 0 rfl) ?_
  refine lv_if_lt (tgt := 107) hx hb dL_arePlacesSo_82 (by decide) (fun _ => ?_) (fun c9 => absurd (by decide) c9)
  refine lv_iconst (v := 1) hx hb dL_arePlacesSo_107 (by decide) ?_
  refine lv_goto (tgt := 112) hx hb dL_arePlacesSo_108 (by decide) ?_
  refine lv_istore (lv' := [(4, .int 1), (6, .int (-1)), (5, .int 6), (3, .int 0), (2, .int 0), (1, .int 0), (0, .ref (a 0))]) hx hb dL_arePlacesSo_112 hl (by decide) rfl (fun ls hl => ?_)
  refine lv_iload_n hx hb dL_arePlacesSo_114 rfl (lv_at hl 3 rfl) ?_
  refine lv_iload hx hb dL_arePlacesSo_115 (lv_at hl 1 rfl) ?_
  refine lv_if_ge (tgt := 124) hx hb dL_arePlacesSo_117 (by decide) (fun c9 => absurd c9 (by decide)) (fun _ => ?_)
  refine lv_iconst (v := 0) hx hb dL_arePlacesSo_120 (by decide) ?_
  refine lv_goto (tgt := 125) hx hb dL_arePlacesSo_121 (by decide) ?_
  refine lv_iadd hx hb dL_arePlacesSo_125 ?_
  refine lv_topi (fun v_18 e_18 => ?_)
  obtain rfl : v_18 = 0 := e_18.trans (by decide +kernel)
  refine lv_istore_n (lv' := [(3, .int 0), (4, .int 1), (6, .int (-1)), (5, .int 6), (2, .int 0), (1, .int 0), (0, .ref (a 0))]) hx hb dL_arePlacesSo_126 rfl hl (by decide) rfl (fun ls hl => ?_)
  refine lv_iinc (v := 7) (lv' := [(5, .int 7), (3, .int 0), (4, .int 1), (6, .int (-1)), (2, .int 0), (1, .int 0), (0, .ref (a 0))]) hx hb dL_arePlacesSo_127 hl (k := 3) rfl (by decide +kernel) (by decide) rfl (fun ls hl => ?_)
  refine lv_goto (tgt := 48) hx hb dL_arePlacesSo_130 (by decide) ?_
  refine lv_iload hx hb dL_arePlacesSo_48 (lv_at hl 0 rfl) ?_
  refine lv_bipush (v := 8) hx hb dL_arePlacesSo_50 (by decide) ?_
  refine lv_icmp_ge (tgt := 133) hx hb dL_arePlacesSo_52 (by decide) (fun c9 => absurd c9 (by decide)) (fun _ => ?_)
  refine lv_iload hx hb dL_arePlacesSo_55 (lv_at hl 2 rfl) ?_
  refine lv_if_eq (tgt := 133) hx hb dL_arePlacesSo_57 (by decide) (fun c9 => absurd c9 (by decide)) (fun _ => ?_)
  refine lv_aload_n hx hb dL_arePlacesSo_60 rfl (lv_at hl 6 rfl) ?_
  refine lv_iload hx hb dL_arePlacesSo_61 (lv_at hl 0 rfl) ?_
  refine XI.okV (As := [.int 7]) (rest := []) ⟨hx, hb, hml, hown, hts⟩ (c_X5_trainOn l D cI cZ a H_17.size z0 hfl 7 0 rfl (Nat.zero_le 4)) (fun E q9 => absurd (q9.2.symm.trans (cif_t (show inR 7 0 7 from ⟨by decide, by decide⟩))) (by decide)) (cwV 1 hts gL_arePlacesSo_X5_trainOn rfl rfl rfl (by decide +kernel) ⟨Nat.le_of_ble_eq_true rfl, Nat.le_of_ble_eq_true rfl⟩) hP hK hD hS hA hEV hZ (va_recv hK hP (ci := 5) (q0 := 0) rfl rfl) rfl hl.1 (Nat.le_of_ble_eq_true rfl) (Nat.le_of_ble_eq_true rfl) (Nat.le_of_ble_eq_true rfl) dL_arePlacesSo_63 rfl (fun r_19 u_19 H_19 locs h_19 hP hD hS hg => ?_)
  have h_19 : u_19 = z0 ∧ r_19 = (-1) := ⟨h_19.2.1, h_19.2.2⟩
  obtain ⟨e_19, f_19⟩ := h_19
  subst e_19
  subst f_19
  have hG : s.heap.size + 1 ≤ H_19.size := by omega
  refine lv_istore (lv' := [(6, .int (-1)), (5, .int 7), (3, .int 0), (4, .int 1), (2, .int 0), (1, .int 0), (0, .ref (a 0))]) hx hb dL_arePlacesSo_66 hl (by decide) rfl (fun ls hl => ?_)
  refine lv_iload hx hb dL_arePlacesSo_68 (lv_at hl 0 rfl) ?_
  refine lv_iconst (v := (-1)) hx hb dL_arePlacesSo_70 (by decide) ?_
  refine lv_icmp_lt (tgt := 111) hx hb dL_arePlacesSo_71 (by decide) (fun c9 => absurd c9 (by decide)) (fun _ => ?_)
  refine lv_iload hx hb dL_arePlacesSo_74 (lv_at hl 0 rfl) ?_
  refine lv_iload_n hx hb dL_arePlacesSo_76 rfl (lv_at hl 5 rfl) ?_
  refine lv_icmp_ge (tgt := 111) hx hb dL_arePlacesSo_77 (by decide) (fun c9 => absurd c9 (by decide)) (fun _ => ?_)
  refine lv_iload hx hb dL_arePlacesSo_80 (lv_at hl 0 rfl) ?_
  refine lv_if_lt (tgt := 107) hx hb dL_arePlacesSo_82 (by decide) (fun _ => ?_) (fun c9 => absurd (by decide) c9)
  refine lv_iconst (v := 1) hx hb dL_arePlacesSo_107 (by decide) ?_
  refine lv_goto (tgt := 112) hx hb dL_arePlacesSo_108 (by decide) ?_
  refine lv_istore (lv' := [(4, .int 1), (6, .int (-1)), (5, .int 7), (3, .int 0), (2, .int 0), (1, .int 0), (0, .ref (a 0))]) hx hb dL_arePlacesSo_112 hl (by decide) rfl (fun ls hl => ?_)
  refine lv_iload_n hx hb dL_arePlacesSo_114 rfl (lv_at hl 3 rfl) ?_
  refine lv_iload hx hb dL_arePlacesSo_115 (lv_at hl 1 rfl) ?_
  refine lv_if_ge (tgt := 124) hx hb dL_arePlacesSo_117 (by decide) (fun c9 => absurd c9 (by decide)) (fun _ => ?_)
  refine lv_iconst (v := 0) hx hb dL_arePlacesSo_120 (by decide) ?_
  refine lv_goto (tgt := 125) hx hb dL_arePlacesSo_121 (by decide) ?_
  refine lv_iadd hx hb dL_arePlacesSo_125 ?_
  refine lv_topi (fun v_20 e_20 => ?_)
  obtain rfl : v_20 = 0 := e_20.trans (by decide +kernel)
  refine lv_istore_n (lv' := [(3, .int 0), (4, .int 1), (6, .int (-1)), (5, .int 7), (2, .int 0), (1, .int 0), (0, .ref (a 0))]) hx hb dL_arePlacesSo_126 rfl hl (by decide) rfl (fun ls hl => ?_)
  refine lv_iinc (v := 8) (lv' := [(5, .int 8), (3, .int 0), (4, .int 1), (6, .int (-1)), (2, .int 0), (1, .int 0), (0, .ref (a 0))]) hx hb dL_arePlacesSo_127 hl (k := 3) rfl (by decide +kernel) (by decide) rfl (fun ls hl => ?_)
  refine lv_goto (tgt := 48) hx hb dL_arePlacesSo_130 (by decide) ?_
  refine lv_iload hx hb dL_arePlacesSo_48 (lv_at hl 0 rfl) ?_
  refine lv_bipush (v := 8) hx hb dL_arePlacesSo_50 (by decide) ?_
  refine lv_icmp_ge (tgt := 133) hx hb dL_arePlacesSo_52 (by decide) (fun _ => ?_) (fun c9 => absurd (by decide) c9)
  refine lv_bipush (v := 6) hx hb dL_arePlacesSo_133 (by decide) ?_
  refine lv_istore (lv' := [(5, .int 6), (3, .int 0), (4, .int 1), (6, .int (-1)), (2, .int 0), (1, .int 0), (0, .ref (a 0))]) hx hb dL_arePlacesSo_135 hl (by decide) rfl (fun ls hl => ?_)
  refine lv_iload hx hb dL_arePlacesSo_137 (lv_at hl 0 rfl) ?_
  refine lv_bipush (v := 10) hx hb dL_arePlacesSo_139 (by decide) ?_
  refine lv_iload_n hx hb dL_arePlacesSo_141 rfl (lv_at hl 5 rfl) ?_
  refine lv_iadd hx hb dL_arePlacesSo_142 ?_
  refine lv_topi (fun v_21 e_21 => ?_)
  obtain rfl : v_21 = 10 := e_21.trans (by decide +kernel)
  refine lv_icmp_ge (tgt := 302) hx hb dL_arePlacesSo_143 (by decide) (fun c9 => absurd c9 (by decide)) (fun _ => ?_)
  refine lv_iload hx hb dL_arePlacesSo_146 (lv_at hl 2 rfl) ?_
  refine lv_if_eq (tgt := 302) hx hb dL_arePlacesSo_148 (by decide) (fun c9 => absurd c9 (by decide)) (fun _ => ?_)
  refine lv_iload hx hb dL_arePlacesSo_151 (lv_at hl 0 rfl) ?_
  refine lv_bipush (v := 8) hx hb dL_arePlacesSo_153 (by decide) ?_
  refine lv_icmp_ge (tgt := 162) hx hb dL_arePlacesSo_155 (by decide) (fun c9 => absurd c9 (by decide)) (fun _ => ?_)
  refine lv_iconst (v := 4) hx hb dL_arePlacesSo_158 (by decide) ?_
  refine lv_goto (tgt := 164) hx hb dL_arePlacesSo_159 (by decide) ?_
  refine lv_istore (lv' := [(6, .int 4), (5, .int 6), (3, .int 0), (4, .int 1), (2, .int 0), (1, .int 0), (0, .ref (a 0))]) hx hb dL_arePlacesSo_164 hl (by decide) rfl (fun ls hl => ?_)
  refine lv_iload hx hb dL_arePlacesSo_166 (lv_at hl 1 rfl) ?_
  refine lv_bipush (v := 8) hx hb dL_arePlacesSo_168 (by decide) ?_
  refine lv_icmp_lt (tgt := 180) hx hb dL_arePlacesSo_170 (by decide) (fun _ => ?_) (fun c9 => absurd (by decide) c9)
  refine lv_iconst (v := 1) hx hb dL_arePlacesSo_180 (by decide) ?_
  refine lv_goto (tgt := 185) hx hb dL_arePlacesSo_181 (by decide) ?_
  refine lv_istore (lv' := [(7, .int 1), (6, .int 4), (5, .int 6), (3, .int 0), (4, .int 1), (2, .int 0), (1, .int 0), (0, .ref (a 0))]) hx hb dL_arePlacesSo_185 hl (by decide) rfl (fun ls hl => ?_)
  refine lv_iload hx hb dL_arePlacesSo_187 (lv_at hl 0 rfl) ?_
  refine lv_aload_n hx hb dL_arePlacesSo_189 rfl (lv_at hl 7 rfl) ?_
  refine lv_iconst (v := 4) hx hb dL_arePlacesSo_190 (by decide) ?_
  refine lv_iload hx hb dL_arePlacesSo_191 (lv_at hl 2 rfl) ?_
  refine lv_iconst (v := 0) hx hb dL_arePlacesSo_193 (by decide) ?_
  refine MG.callSW (As := [.ref (a 0), .int 4, .int 6, .int 0]) (rest := [.int 1]) ⟨hx, hb, hml, hown, hts⟩ (g_looks4 l D cI cZ a H_19.size hfl 0 0 (by decide) (by decide)) (vx_cwSW 4 hts gL_arePlacesSo_L_looks rfl rfl rfl (by decide +kernel) ⟨Nat.le_of_ble_eq_true rfl, Nat.le_of_ble_eq_true rfl⟩) hP hK hD hS hA hEV hZ rfl hl.1 (Nat.le_of_ble_eq_true rfl) (Nat.le_of_ble_eq_true rfl) (Nat.le_of_ble_eq_true rfl) dL_arePlacesSo_194 rfl (fun r_22 u_22 H_22 locs h_22 hP hD hS hg => ?_)
  have h_22 : u_22 = z0 ∧ r_22 = (-1) := h_22
  obtain ⟨e_22, f_22⟩ := h_22
  subst e_22
  subst f_22
  have hG : s.heap.size + 1 ≤ H_22.size := by omega
  refine lv_ldc (v := (-99999)) hx hb hown (hts (.constant RL 54 (-99999)) (by decide +kernel)) dL_arePlacesSo_197 ?_
  refine lv_icmp_eq (tgt := 206) hx hb dL_arePlacesSo_199 (by decide) (fun c9 => absurd c9 (by decide)) (fun _ => ?_)
  refine lv_iconst (v := 1) hx hb dL_arePlacesSo_202 (by decide) ?_
  refine lv_goto (tgt := 207) hx hb dL_arePlacesSo_203 (by decide) ?_
  refine lv_icmp_ne (tgt := 214) hx hb dL_arePlacesSo_207 (by decide) (fun c9 => absurd (by decide) c9) (fun _ => ?_)
  refine lv_iconst (v := 1) hx hb dL_arePlacesSo_210 (by decide) ?_
  refine lv_goto (tgt := 215) hx hb dL_arePlacesSo_211 (by decide) ?_
  refine lv_istore (lv' := [(4, .int 1), (7, .int 1), (6, .int 4), (5, .int 6), (3, .int 0), (2, .int 0), (1, .int 0), (0, .ref (a 0))]) hx hb dL_arePlacesSo_215 hl (by decide) rfl (fun ls hl => ?_)
  refine lv_iconst (v := 0) hx hb dL_arePlacesSo_217 (by decide) ?_
  refine lv_istore (lv' := [(8, .int 0), (4, .int 1), (7, .int 1), (6, .int 4), (5, .int 6), (3, .int 0), (2, .int 0), (1, .int 0), (0, .ref (a 0))]) hx hb dL_arePlacesSo_218 hl (by decide) rfl (fun ls hl => ?_)
  refine lv_iload hx hb dL_arePlacesSo_220 (lv_at hl 2 rfl) ?_
  refine lv_if_eq (tgt := 296) hx hb dL_arePlacesSo_222 (by decide) (fun c9 => absurd c9 (by decide)) (fun _ => ?_)
  refine lv_aload_n hx hb dL_arePlacesSo_225 rfl (lv_at hl 8 rfl) ?_
  refine lv_iconst (v := 4) hx hb dL_arePlacesSo_226 (by decide) ?_
  refine lv_iload hx hb dL_arePlacesSo_227 (lv_at hl 4 rfl) ?_
  refine lv_iload hx hb dL_arePlacesSo_229 (lv_at hl 0 rfl) ?_
  refine MG.callSW (As := [.ref (a 0), .int 4, .int 6, .int 0]) (rest := []) ⟨hx, hb, hml, hown, hts⟩ (g_looks4 l D cI cZ a H_22.size hfl 0 0 (by decide) (by decide)) (vx_cwSW 4 hts gL_arePlacesSo_L_looks rfl rfl rfl (by decide +kernel) ⟨Nat.le_of_ble_eq_true rfl, Nat.le_of_ble_eq_true rfl⟩) hP hK hD hS hA hEV hZ rfl hl.1 (Nat.le_of_ble_eq_true rfl) (Nat.le_of_ble_eq_true rfl) (Nat.le_of_ble_eq_true rfl) dL_arePlacesSo_231 rfl (fun r_23 u_23 H_23 locs h_23 hP hD hS hg => ?_)
  have h_23 : u_23 = z0 ∧ r_23 = (-1) := h_23
  obtain ⟨e_23, f_23⟩ := h_23
  subst e_23
  subst f_23
  have hG : s.heap.size + 1 ≤ H_23.size := by omega
  refine lv_if_lt (tgt := 296) hx hb dL_arePlacesSo_234 (by decide) (fun _ => ?_) (fun c9 => absurd (by decide) c9)
  refine lv_iinc (v := 7) (lv' := [(5, .int 7), (8, .int 0), (4, .int 1), (7, .int 1), (6, .int 4), (3, .int 0), (2, .int 0), (1, .int 0), (0, .ref (a 0))]) hx hb dL_arePlacesSo_296 hl (k := 4) rfl (by decide +kernel) (by decide) rfl (fun ls hl => ?_)
  refine lv_goto (tgt := 137) hx hb dL_arePlacesSo_299 (by decide) ?_
  refine lv_iload hx hb dL_arePlacesSo_137 (lv_at hl 0 rfl) ?_
  refine lv_bipush (v := 10) hx hb dL_arePlacesSo_139 (by decide) ?_
  refine lv_iload_n hx hb dL_arePlacesSo_141 rfl (lv_at hl 7 rfl) ?_
  refine lv_iadd hx hb dL_arePlacesSo_142 ?_
  refine lv_topi (fun v_24 e_24 => ?_)
  obtain rfl : v_24 = 10 := e_24.trans (by decide +kernel)
  refine lv_icmp_ge (tgt := 302) hx hb dL_arePlacesSo_143 (by decide) (fun c9 => absurd c9 (by decide)) (fun _ => ?_)
  refine lv_iload hx hb dL_arePlacesSo_146 (lv_at hl 2 rfl) ?_
  refine lv_if_eq (tgt := 302) hx hb dL_arePlacesSo_148 (by decide) (fun c9 => absurd c9 (by decide)) (fun _ => ?_)
  refine lv_iload hx hb dL_arePlacesSo_151 (lv_at hl 0 rfl) ?_
  refine lv_bipush (v := 8) hx hb dL_arePlacesSo_153 (by decide) ?_
  refine lv_icmp_ge (tgt := 162) hx hb dL_arePlacesSo_155 (by decide) (fun c9 => absurd c9 (by decide)) (fun _ => ?_)
  refine lv_iconst (v := 4) hx hb dL_arePlacesSo_158 (by decide) ?_
  refine lv_goto (tgt := 164) hx hb dL_arePlacesSo_159 (by decide) ?_
  refine lv_istore (lv' := [(6, .int 4), (5, .int 7), (8, .int 0), (4, .int 1), (7, .int 1), (3, .int 0), (2, .int 0), (1, .int 0), (0, .ref (a 0))]) hx hb dL_arePlacesSo_164 hl (by decide) rfl (fun ls hl => ?_)
  refine lv_iload hx hb dL_arePlacesSo_166 (lv_at hl 1 rfl) ?_
  refine lv_bipush (v := 8) hx hb dL_arePlacesSo_168 (by decide) ?_
  refine lv_icmp_lt (tgt := 180) hx hb dL_arePlacesSo_170 (by decide) (fun _ => ?_) (fun c9 => absurd (by decide) c9)
  refine lv_iconst (v := 1) hx hb dL_arePlacesSo_180 (by decide) ?_
  refine lv_goto (tgt := 185) hx hb dL_arePlacesSo_181 (by decide) ?_
  refine lv_istore (lv' := [(7, .int 1), (6, .int 4), (5, .int 7), (8, .int 0), (4, .int 1), (3, .int 0), (2, .int 0), (1, .int 0), (0, .ref (a 0))]) hx hb dL_arePlacesSo_185 hl (by decide) rfl (fun ls hl => ?_)
  refine lv_iload hx hb dL_arePlacesSo_187 (lv_at hl 0 rfl) ?_
  refine lv_aload_n hx hb dL_arePlacesSo_189 rfl (lv_at hl 8 rfl) ?_
  refine lv_iconst (v := 4) hx hb dL_arePlacesSo_190 (by decide) ?_
  refine lv_iload hx hb dL_arePlacesSo_191 (lv_at hl 2 rfl) ?_
  refine lv_iconst (v := 0) hx hb dL_arePlacesSo_193 (by decide) ?_
  refine MG.callSW (As := [.ref (a 0), .int 4, .int 7, .int 0]) (rest := [.int 1]) ⟨hx, hb, hml, hown, hts⟩ (g_looks4 l D cI cZ a H_23.size hfl 1 0 (by decide) (by decide)) (vx_cwSW 4 hts gL_arePlacesSo_L_looks rfl rfl rfl (by decide +kernel) ⟨Nat.le_of_ble_eq_true rfl, Nat.le_of_ble_eq_true rfl⟩) hP hK hD hS hA hEV hZ rfl hl.1 (Nat.le_of_ble_eq_true rfl) (Nat.le_of_ble_eq_true rfl) (Nat.le_of_ble_eq_true rfl) dL_arePlacesSo_194 rfl (fun r_25 u_25 H_25 locs h_25 hP hD hS hg => ?_)
  have h_25 : u_25 = z0 ∧ r_25 = (-1) := h_25
  obtain ⟨e_25, f_25⟩ := h_25
  subst e_25
  subst f_25
  have hG : s.heap.size + 1 ≤ H_25.size := by omega
  refine lv_ldc (v := (-99999)) hx hb hown (hts (.constant RL 54 (-99999)) (by decide +kernel)) dL_arePlacesSo_197 ?_
  refine lv_icmp_eq (tgt := 206) hx hb dL_arePlacesSo_199 (by decide) (fun c9 => absurd c9 (by decide)) (fun _ => ?_)
  refine lv_iconst (v := 1) hx hb dL_arePlacesSo_202 (by decide) ?_
  refine lv_goto (tgt := 207) hx hb dL_arePlacesSo_203 (by decide) ?_
  refine lv_icmp_ne (tgt := 214) hx hb dL_arePlacesSo_207 (by decide) (fun c9 => absurd (by decide) c9) (fun _ => ?_)
  refine lv_iconst (v := 1) hx hb dL_arePlacesSo_210 (by decide) ?_
  refine lv_goto (tgt := 215) hx hb dL_arePlacesSo_211 (by decide) ?_
  refine lv_istore (lv' := [(4, .int 1), (7, .int 1), (6, .int 4), (5, .int 7), (8, .int 0), (3, .int 0), (2, .int 0), (1, .int 0), (0, .ref (a 0))]) hx hb dL_arePlacesSo_215 hl (by decide) rfl (fun ls hl => ?_)
  refine lv_iconst (v := 0) hx hb dL_arePlacesSo_217 (by decide) ?_
  refine lv_istore (lv' := [(8, .int 0), (4, .int 1), (7, .int 1), (6, .int 4), (5, .int 7), (3, .int 0), (2, .int 0), (1, .int 0), (0, .ref (a 0))]) hx hb dL_arePlacesSo_218 hl (by decide) rfl (fun ls hl => ?_)
  refine lv_iload hx hb dL_arePlacesSo_220 (lv_at hl 2 rfl) ?_
  refine lv_if_eq (tgt := 296) hx hb dL_arePlacesSo_222 (by decide) (fun c9 => absurd c9 (by decide)) (fun _ => ?_)
  refine lv_aload_n hx hb dL_arePlacesSo_225 rfl (lv_at hl 8 rfl) ?_
  refine lv_iconst (v := 4) hx hb dL_arePlacesSo_226 (by decide) ?_
  refine lv_iload hx hb dL_arePlacesSo_227 (lv_at hl 4 rfl) ?_
  refine lv_iload hx hb dL_arePlacesSo_229 (lv_at hl 0 rfl) ?_
  refine MG.callSW (As := [.ref (a 0), .int 4, .int 7, .int 0]) (rest := []) ⟨hx, hb, hml, hown, hts⟩ (g_looks4 l D cI cZ a H_25.size hfl 1 0 (by decide) (by decide)) (vx_cwSW 4 hts gL_arePlacesSo_L_looks rfl rfl rfl (by decide +kernel) ⟨Nat.le_of_ble_eq_true rfl, Nat.le_of_ble_eq_true rfl⟩) hP hK hD hS hA hEV hZ rfl hl.1 (Nat.le_of_ble_eq_true rfl) (Nat.le_of_ble_eq_true rfl) (Nat.le_of_ble_eq_true rfl) dL_arePlacesSo_231 rfl (fun r_26 u_26 H_26 locs h_26 hP hD hS hg => ?_)
  have h_26 : u_26 = z0 ∧ r_26 = (-1) := h_26
  obtain ⟨e_26, f_26⟩ := h_26
  subst e_26
  subst f_26
  have hG : s.heap.size + 1 ≤ H_26.size := by omega
  refine lv_if_lt (tgt := 296) hx hb dL_arePlacesSo_234 (by decide) (fun _ => ?_) (fun c9 => absurd (by decide) c9)
  refine lv_iinc (v := 8) (lv' := [(5, .int 8), (8, .int 0), (4, .int 1), (7, .int 1), (6, .int 4), (3, .int 0), (2, .int 0), (1, .int 0), (0, .ref (a 0))]) hx hb dL_arePlacesSo_296 hl (k := 4) rfl (by decide +kernel) (by decide) rfl (fun ls hl => ?_)
  refine lv_goto (tgt := 137) hx hb dL_arePlacesSo_299 (by decide) ?_
  refine lv_iload hx hb dL_arePlacesSo_137 (lv_at hl 0 rfl) ?_
  refine lv_bipush (v := 10) hx hb dL_arePlacesSo_139 (by decide) ?_
  refine lv_iload_n hx hb dL_arePlacesSo_141 rfl (lv_at hl 7 rfl) ?_
  refine lv_iadd hx hb dL_arePlacesSo_142 ?_
  refine lv_topi (fun v_27 e_27 => ?_)
  obtain rfl : v_27 = 10 := e_27.trans (by decide +kernel)
  refine lv_icmp_ge (tgt := 302) hx hb dL_arePlacesSo_143 (by decide) (fun c9 => absurd c9 (by decide)) (fun _ => ?_)
  refine lv_iload hx hb dL_arePlacesSo_146 (lv_at hl 2 rfl) ?_
  refine lv_if_eq (tgt := 302) hx hb dL_arePlacesSo_148 (by decide) (fun c9 => absurd c9 (by decide)) (fun _ => ?_)
  refine lv_iload hx hb dL_arePlacesSo_151 (lv_at hl 0 rfl) ?_
  refine lv_bipush (v := 8) hx hb dL_arePlacesSo_153 (by decide) ?_
  refine lv_icmp_ge (tgt := 162) hx hb dL_arePlacesSo_155 (by decide) (fun _ => ?_) (fun c9 => absurd (by decide) c9)
  refine lv_bipush (v := 8) hx hb dL_arePlacesSo_162 (by decide) ?_
  refine lv_istore (lv' := [(6, .int 8), (5, .int 8), (8, .int 0), (4, .int 1), (7, .int 1), (3, .int 0), (2, .int 0), (1, .int 0), (0, .ref (a 0))]) hx hb dL_arePlacesSo_164 hl (by decide) rfl (fun ls hl => ?_)
  refine lv_iload hx hb dL_arePlacesSo_166 (lv_at hl 1 rfl) ?_
  refine lv_bipush (v := 8) hx hb dL_arePlacesSo_168 (by decide) ?_
  refine lv_icmp_lt (tgt := 180) hx hb dL_arePlacesSo_170 (by decide) (fun c9 => absurd c9 (by decide)) (fun _ => ?_)
  refine lv_iload hx hb dL_arePlacesSo_173 (lv_at hl 1 rfl) ?_
  refine lv_bipush (v := 9) hx hb dL_arePlacesSo_175 (by decide) ?_
  refine lv_icmp_le (tgt := 184) hx hb dL_arePlacesSo_177 (by decide) (fun _ => ?_) (fun c9 => absurd (by decide) c9)
  refine lv_iconst (v := 0) hx hb dL_arePlacesSo_184 (by decide) ?_
  refine lv_istore (lv' := [(7, .int 0), (6, .int 8), (5, .int 8), (8, .int 0), (4, .int 1), (3, .int 0), (2, .int 0), (1, .int 0), (0, .ref (a 0))]) hx hb dL_arePlacesSo_185 hl (by decide) rfl (fun ls hl => ?_)
  refine lv_iload hx hb dL_arePlacesSo_187 (lv_at hl 0 rfl) ?_
  refine lv_aload_n hx hb dL_arePlacesSo_189 rfl (lv_at hl 8 rfl) ?_
  refine lv_iconst (v := 4) hx hb dL_arePlacesSo_190 (by decide) ?_
  refine lv_iload hx hb dL_arePlacesSo_191 (lv_at hl 2 rfl) ?_
  refine lv_iconst (v := 0) hx hb dL_arePlacesSo_193 (by decide) ?_
  refine MG.callSW (As := [.ref (a 0), .int 4, .int 8, .int 0]) (rest := [.int 0]) ⟨hx, hb, hml, hown, hts⟩ (g_looks4 l D cI cZ a H_26.size hfl 2 0 (by decide) (by decide)) (vx_cwSW 4 hts gL_arePlacesSo_L_looks rfl rfl rfl (by decide +kernel) ⟨Nat.le_of_ble_eq_true rfl, Nat.le_of_ble_eq_true rfl⟩) hP hK hD hS hA hEV hZ rfl hl.1 (Nat.le_of_ble_eq_true rfl) (Nat.le_of_ble_eq_true rfl) (Nat.le_of_ble_eq_true rfl) dL_arePlacesSo_194 rfl (fun r_28 u_28 H_28 locs h_28 hP hD hS hg => ?_)
  have h_28 : u_28 = z0 ∧ r_28 = (-99999) := h_28
  obtain ⟨e_28, f_28⟩ := h_28
  subst e_28
  subst f_28
  have hG : s.heap.size + 1 ≤ H_28.size := by omega
  refine lv_ldc (v := (-99999)) hx hb hown (hts (.constant RL 54 (-99999)) (by decide +kernel)) dL_arePlacesSo_197 ?_
  refine lv_icmp_eq (tgt := 206) hx hb dL_arePlacesSo_199 (by decide) (fun _ => ?_) (fun c9 => absurd (by decide) c9)
  refine lv_iconst (v := 0) hx hb dL_arePlacesSo_206 (by decide) ?_
  refine lv_icmp_ne (tgt := 214) hx hb dL_arePlacesSo_207 (by decide) (fun c9 => absurd (by decide) c9) (fun _ => ?_)
  refine lv_iconst (v := 1) hx hb dL_arePlacesSo_210 (by decide) ?_
  refine lv_goto (tgt := 215) hx hb dL_arePlacesSo_211 (by decide) ?_
  refine lv_istore (lv' := [(4, .int 1), (7, .int 0), (6, .int 8), (5, .int 8), (8, .int 0), (3, .int 0), (2, .int 0), (1, .int 0), (0, .ref (a 0))]) hx hb dL_arePlacesSo_215 hl (by decide) rfl (fun ls hl => ?_)
  refine lv_iconst (v := 0) hx hb dL_arePlacesSo_217 (by decide) ?_
  refine lv_istore (lv' := [(8, .int 0), (4, .int 1), (7, .int 0), (6, .int 8), (5, .int 8), (3, .int 0), (2, .int 0), (1, .int 0), (0, .ref (a 0))]) hx hb dL_arePlacesSo_218 hl (by decide) rfl (fun ls hl => ?_)
  refine lv_iload hx hb dL_arePlacesSo_220 (lv_at hl 2 rfl) ?_
  refine lv_if_eq (tgt := 296) hx hb dL_arePlacesSo_222 (by decide) (fun _ => ?_) (fun c9 => absurd (by decide) c9)
  refine lv_iinc (v := 9) (lv' := [(5, .int 9), (8, .int 0), (4, .int 1), (7, .int 0), (6, .int 8), (3, .int 0), (2, .int 0), (1, .int 0), (0, .ref (a 0))]) hx hb dL_arePlacesSo_296 hl (k := 4) rfl (by decide +kernel) (by decide) rfl (fun ls hl => ?_)
  refine lv_goto (tgt := 137) hx hb dL_arePlacesSo_299 (by decide) ?_
  refine lv_iload hx hb dL_arePlacesSo_137 (lv_at hl 0 rfl) ?_
  refine lv_bipush (v := 10) hx hb dL_arePlacesSo_139 (by decide) ?_
  refine lv_iload_n hx hb dL_arePlacesSo_141 rfl (lv_at hl 7 rfl) ?_
  refine lv_iadd hx hb dL_arePlacesSo_142 ?_
  refine lv_topi (fun v_29 e_29 => ?_)
  obtain rfl : v_29 = 10 := e_29.trans (by decide +kernel)
  refine lv_icmp_ge (tgt := 302) hx hb dL_arePlacesSo_143 (by decide) (fun c9 => absurd c9 (by decide)) (fun _ => ?_)
  refine lv_iload hx hb dL_arePlacesSo_146 (lv_at hl 2 rfl) ?_
  refine lv_if_eq (tgt := 302) hx hb dL_arePlacesSo_148 (by decide) (fun c9 => absurd c9 (by decide)) (fun _ => ?_)
  refine lv_iload hx hb dL_arePlacesSo_151 (lv_at hl 0 rfl) ?_
  refine lv_bipush (v := 8) hx hb dL_arePlacesSo_153 (by decide) ?_
  refine lv_icmp_ge (tgt := 162) hx hb dL_arePlacesSo_155 (by decide) (fun _ => ?_) (fun c9 => absurd (by decide) c9)
  refine lv_bipush (v := 8) hx hb dL_arePlacesSo_162 (by decide) ?_
  refine lv_istore (lv' := [(6, .int 8), (5, .int 9), (8, .int 0), (4, .int 1), (7, .int 0), (3, .int 0), (2, .int 0), (1, .int 0), (0, .ref (a 0))]) hx hb dL_arePlacesSo_164 hl (by decide) rfl (fun ls hl => ?_)
  refine lv_iload hx hb dL_arePlacesSo_166 (lv_at hl 1 rfl) ?_
  refine lv_bipush (v := 8) hx hb dL_arePlacesSo_168 (by decide) ?_
  refine lv_icmp_lt (tgt := 180) hx hb dL_arePlacesSo_170 (by decide) (fun c9 => absurd c9 (by decide)) (fun _ => ?_)
  refine lv_iload hx hb dL_arePlacesSo_173 (lv_at hl 1 rfl) ?_
  refine lv_bipush (v := 9) hx hb dL_arePlacesSo_175 (by decide) ?_
  refine lv_icmp_le (tgt := 184) hx hb dL_arePlacesSo_177 (by decide) (fun _ => ?_) (fun c9 => absurd (by decide) c9)
  refine lv_iconst (v := 0) hx hb dL_arePlacesSo_184 (by decide) ?_
  refine lv_istore (lv' := [(7, .int 0), (6, .int 8), (5, .int 9), (8, .int 0), (4, .int 1), (3, .int 0), (2, .int 0), (1, .int 0), (0, .ref (a 0))]) hx hb dL_arePlacesSo_185 hl (by decide) rfl (fun ls hl => ?_)
  refine lv_iload hx hb dL_arePlacesSo_187 (lv_at hl 0 rfl) ?_
  refine lv_aload_n hx hb dL_arePlacesSo_189 rfl (lv_at hl 8 rfl) ?_
  refine lv_iconst (v := 4) hx hb dL_arePlacesSo_190 (by decide) ?_
  refine lv_iload hx hb dL_arePlacesSo_191 (lv_at hl 2 rfl) ?_
  refine lv_iconst (v := 0) hx hb dL_arePlacesSo_193 (by decide) ?_
  refine MG.callSW (As := [.ref (a 0), .int 4, .int 9, .int 0]) (rest := [.int 0]) ⟨hx, hb, hml, hown, hts⟩ (g_looks4 l D cI cZ a H_28.size hfl 3 0 (by decide) (by decide)) (vx_cwSW 4 hts gL_arePlacesSo_L_looks rfl rfl rfl (by decide +kernel) ⟨Nat.le_of_ble_eq_true rfl, Nat.le_of_ble_eq_true rfl⟩) hP hK hD hS hA hEV hZ rfl hl.1 (Nat.le_of_ble_eq_true rfl) (Nat.le_of_ble_eq_true rfl) (Nat.le_of_ble_eq_true rfl) dL_arePlacesSo_194 rfl (fun r_30 u_30 H_30 locs h_30 hP hD hS hg => ?_)
  have h_30 : u_30 = z0 ∧ r_30 = (-99999) := h_30
  obtain ⟨e_30, f_30⟩ := h_30
  subst e_30
  subst f_30
  have hG : s.heap.size + 1 ≤ H_30.size := by omega
  refine lv_ldc (v := (-99999)) hx hb hown (hts (.constant RL 54 (-99999)) (by decide +kernel)) dL_arePlacesSo_197 ?_
  refine lv_icmp_eq (tgt := 206) hx hb dL_arePlacesSo_199 (by decide) (fun _ => ?_) (fun c9 => absurd (by decide) c9)
  refine lv_iconst (v := 0) hx hb dL_arePlacesSo_206 (by decide) ?_
  refine lv_icmp_ne (tgt := 214) hx hb dL_arePlacesSo_207 (by decide) (fun c9 => absurd (by decide) c9) (fun _ => ?_)
  refine lv_iconst (v := 1) hx hb dL_arePlacesSo_210 (by decide) ?_
  refine lv_goto (tgt := 215) hx hb dL_arePlacesSo_211 (by decide) ?_
  refine lv_istore (lv' := [(4, .int 1), (7, .int 0), (6, .int 8), (5, .int 9), (8, .int 0), (3, .int 0), (2, .int 0), (1, .int 0), (0, .ref (a 0))]) hx hb dL_arePlacesSo_215 hl (by decide) rfl (fun ls hl => ?_)
  refine lv_iconst (v := 0) hx hb dL_arePlacesSo_217 (by decide) ?_
  refine lv_istore (lv' := [(8, .int 0), (4, .int 1), (7, .int 0), (6, .int 8), (5, .int 9), (3, .int 0), (2, .int 0), (1, .int 0), (0, .ref (a 0))]) hx hb dL_arePlacesSo_218 hl (by decide) rfl (fun ls hl => ?_)
  refine lv_iload hx hb dL_arePlacesSo_220 (lv_at hl 2 rfl) ?_
  refine lv_if_eq (tgt := 296) hx hb dL_arePlacesSo_222 (by decide) (fun _ => ?_) (fun c9 => absurd (by decide) c9)
  refine lv_iinc (v := 10) (lv' := [(5, .int 10), (8, .int 0), (4, .int 1), (7, .int 0), (6, .int 8), (3, .int 0), (2, .int 0), (1, .int 0), (0, .ref (a 0))]) hx hb dL_arePlacesSo_296 hl (k := 4) rfl (by decide +kernel) (by decide) rfl (fun ls hl => ?_)
  refine lv_goto (tgt := 137) hx hb dL_arePlacesSo_299 (by decide) ?_
  refine lv_iload hx hb dL_arePlacesSo_137 (lv_at hl 0 rfl) ?_
  refine lv_bipush (v := 10) hx hb dL_arePlacesSo_139 (by decide) ?_
  refine lv_iload_n hx hb dL_arePlacesSo_141 rfl (lv_at hl 7 rfl) ?_
  refine lv_iadd hx hb dL_arePlacesSo_142 ?_
  refine lv_topi (fun v_31 e_31 => ?_)
  obtain rfl : v_31 = 10 := e_31.trans (by decide +kernel)
  refine lv_icmp_ge (tgt := 302) hx hb dL_arePlacesSo_143 (by decide) (fun _ => ?_) (fun c9 => absurd (by decide) c9)
  refine lv_iload hx hb dL_arePlacesSo_302 (lv_at hl 2 rfl) ?_
  refine lv_if_eq (tgt := 324) hx hb dL_arePlacesSo_304 (by decide) (fun c9 => absurd c9 (by decide)) (fun _ => ?_)
  refine lv_iload_n hx hb dL_arePlacesSo_307 rfl (lv_at hl 5 rfl) ?_
  refine lv_iload_n hx hb dL_arePlacesSo_308 rfl (lv_at hl 7 rfl) ?_
  refine lv_icmp_ne (tgt := 324) hx hb dL_arePlacesSo_309 (by decide) (fun c9 => absurd (by decide) c9) (fun _ => ?_)
  refine lv_iload_n hx hb dL_arePlacesSo_312 rfl (lv_at hl 6 rfl) ?_
  refine lv_iload_n hx hb dL_arePlacesSo_313 rfl (lv_at hl 6 rfl) ?_
  refine lv_iconst (v := 1) hx hb dL_arePlacesSo_314 (by decide) ?_
  refine lv_iadd hx hb dL_arePlacesSo_315 ?_
  refine lv_topi (fun v_32 e_32 => ?_)
  obtain rfl : v_32 = 1 := e_32.trans (by decide +kernel)
  refine lv_iand hx hb dL_arePlacesSo_316 ?_
  refine lv_topi (fun v_33 e_33 => ?_)
  obtain rfl : v_33 = 0 := e_33.trans (by decide +kernel)
  refine lv_if_ne (tgt := 324) hx hb dL_arePlacesSo_317 (by decide) (fun c9 => absurd (by decide) c9) (fun _ => ?_)
  refine lv_iconst (v := 1) hx hb dL_arePlacesSo_320 (by decide) ?_
  refine lv_goto (tgt := 325) hx hb dL_arePlacesSo_321 (by decide) ?_
  exact MG.zret hx hb hr hlocks hK hP hD hS (by omega) (Nat.le_of_ble_eq_true rfl) (Nat.le_of_ble_eq_true rfl) dL_arePlacesSo_325 rfl (by exact ⟨rfl, rfl⟩)
set_option maxHeartbeats 4000000 in
set_option maxRecDepth 100000 in
theorem g_books (l : Launch) (D : va_G) (cI cZ : ClassId) (a : Nat → Nat) (sz : Nat) (hfl : l.stackTraces = false)  : MG l yL_areBookingsSo wsL_areBookingsSo ({ frames := 11, cells := 3, slots := 18, locals := 197 }) D (ty2 cI cZ) (wX cI cZ a) [.ref (a 0), .int 0, .int 0] z0 sz (fun r u => u = z0 ∧ r = 1) 3 3 18 := by
  refine MG.of (cc := cL_areBookingsSo) (maxL := 10) (by decide) rfl (Nat.le_of_ble_eq_true rfl) ?_
  intro p e s m args below meth c A H locs ls hx hb hr hml hown hts hlocks hEV hZ hA hS hP hK hD hl
  have hl : lv_has ls 10 [(0, .ref (a 0)), (1, .int 0), (2, .int 0)] := hl
  have hG : s.heap.size + 0 ≤ H.size := hS.1
  refine lv_aload_n hx hb dL_areBookingsSo_0 rfl (lv_at hl 0 rfl) ?_
  refine MG.callS (As := [.ref (a 0)]) (rest := []) ⟨hx, hb, hml, hown, hts⟩ (g_trains l D cI cZ a H.size hfl) (va_cwS 1 hts gL_areBookingsSo_L_trains rfl rfl rfl (by decide +kernel) ⟨Nat.le_of_ble_eq_true rfl, Nat.le_of_ble_eq_true rfl⟩) hP hK hD hS hA hEV hZ rfl hl.1 (Nat.le_of_ble_eq_true rfl) (Nat.le_of_ble_eq_true rfl) (Nat.le_of_ble_eq_true rfl) dL_areBookingsSo_1 rfl (fun r_1 u_1 H_1 locs h_1 hP hD hS hg => ?_)
  have h_1 : u_1 = z0 ∧ r_1 = 0 := h_1
  obtain ⟨e_1, f_1⟩ := h_1
  subst e_1
  subst f_1
  have hG : s.heap.size + 1 ≤ H_1.size := by omega
  refine lv_istore_n (lv' := [(3, .int 0), (0, .ref (a 0)), (1, .int 0), (2, .int 0)]) hx hb dL_areBookingsSo_4 rfl hl (by decide) rfl (fun ls hl => ?_)
  refine lv_iconst (v := 0) hx hb dL_areBookingsSo_5 (by decide) ?_
  refine lv_istore (lv' := [(4, .int 0), (3, .int 0), (0, .ref (a 0)), (1, .int 0), (2, .int 0)]) hx hb dL_areBookingsSo_6 hl (by decide) rfl (fun ls hl => ?_)
  refine lv_iconst (v := 1) hx hb dL_areBookingsSo_8 (by decide) ?_
  refine lv_istore (lv' := [(5, .int 1), (4, .int 0), (3, .int 0), (0, .ref (a 0)), (1, .int 0), (2, .int 0)]) hx hb dL_areBookingsSo_9 hl (by decide) rfl (fun ls hl => ?_)
  refine lv_iconst (v := 0) hx hb dL_areBookingsSo_11 (by decide) ?_
  refine lv_istore (lv' := [(6, .int 0), (5, .int 1), (4, .int 0), (3, .int 0), (0, .ref (a 0)), (1, .int 0), (2, .int 0)]) hx hb dL_areBookingsSo_12 hl (by decide) rfl (fun ls hl => ?_)
  refine lv_aload_n hx hb dL_areBookingsSo_14 rfl (lv_at hl 4 rfl) ?_
  refine lv_iconst (v := 2) hx hb dL_areBookingsSo_15 (by decide) ?_
  refine lv_iload hx hb dL_areBookingsSo_16 (lv_at hl 0 rfl) ?_
  refine lv_iconst (v := 0) hx hb dL_areBookingsSo_18 (by decide) ?_
  refine MG.callSW (As := [.ref (a 0), .int 2, .int 0, .int 0]) (rest := []) ⟨hx, hb, hml, hown, hts⟩ (g_looks2 l D cI cZ a H_1.size hfl 0 0) (vx_cwSW 4 hts gL_areBookingsSo_L_looks rfl rfl rfl (by decide +kernel) ⟨Nat.le_of_ble_eq_true rfl, Nat.le_of_ble_eq_true rfl⟩) hP hK hD hS hA hEV hZ rfl hl.1 (Nat.le_of_ble_eq_true rfl) (Nat.le_of_ble_eq_true rfl) (Nat.le_of_ble_eq_true rfl) dL_areBookingsSo_19 rfl (fun r_2 u_2 H_2 locs h_2 hP hD hS hg => ?_)
  have h_2 : u_2 = z0 ∧ r_2 = (-99999) := h_2
  obtain ⟨e_2, f_2⟩ := h_2
  subst e_2
  subst f_2
  have hG : s.heap.size + 2 ≤ H_2.size := by omega
  refine lv_if_lt (tgt := 91) hx hb dL_areBookingsSo_22 (by decide) (fun _ => ?_) (fun c9 => absurd (by decide) c9)
  refine lv_iconst (v := 0) hx hb dL_areBookingsSo_91 (by decide) ?_
  refine lv_istore (lv' := [(6, .int 0), (5, .int 1), (4, .int 0), (3, .int 0), (0, .ref (a 0)), (1, .int 0), (2, .int 0)]) hx hb dL_areBookingsSo_92 hl (by decide) rfl (fun ls hl => ?_)
  refine lv_iload hx hb dL_areBookingsSo_94 (lv_at hl 0 rfl) ?_
  refine lv_iload_n hx hb dL_areBookingsSo_96 rfl (lv_at hl 3 rfl) ?_
  refine lv_icmp_ge (tgt := 216) hx hb dL_areBookingsSo_97 (by decide) (fun _ => ?_) (fun c9 => absurd (by decide) c9)
  refine lv_iload hx hb dL_areBookingsSo_216 (lv_at hl 1 rfl) ?_
  refine lv_if_eq (tgt := 250) hx hb dL_areBookingsSo_218 (by decide) (fun c9 => absurd c9 (by decide)) (fun _ => ?_)
  refine lv_iload hx hb dL_areBookingsSo_221 (lv_at hl 2 rfl) ?_
  refine lv_iload_n hx hb dL_areBookingsSo_223 rfl (lv_at hl 3 rfl) ?_
  refine lv_icmp_eq (tgt := 233) hx hb dL_areBookingsSo_224 (by decide) (fun _ => ?_) (fun c9 => absurd (by decide) c9)
  refine lv_aload_n hx hb dL_areBookingsSo_233 rfl (lv_at hl 4 rfl) ?_
  refine lv_iload_n hx hb dL_areBookingsSo_234 rfl (lv_at hl 3 rfl) ?_
  refine lv_iload_n hx hb dL_areBookingsSo_235 rfl (lv_at hl 5 rfl) ?_
  refine lv_iload_n hx hb dL_areBookingsSo_236 rfl (lv_at hl 6 rfl) ?_
  refine lv_iload_n hx hb dL_areBookingsSo_237 rfl (lv_at hl 6 rfl) ?_
  refine MG.callSW (As := [.ref (a 0), .int 0, .int 0, .int 0, .int 0]) (rest := []) ⟨hx, hb, hml, hown, hts⟩ (g_can l D cI cZ a H_2.size hfl 0 0 0) (vx_cwSW 5 hts gL_areBookingsSo_L_can rfl rfl rfl (by decide +kernel) ⟨Nat.le_of_ble_eq_true rfl, Nat.le_of_ble_eq_true rfl⟩) hP hK hD hS hA hEV hZ rfl hl.1 (Nat.le_of_ble_eq_true rfl) (Nat.le_of_ble_eq_true rfl) (Nat.le_of_ble_eq_true rfl) dL_areBookingsSo_238 rfl (fun r_3 u_3 H_3 locs h_3 hP hD hS hg => ?_)
  have h_3 : u_3 = z0 ∧ r_3 = (-99999) := h_3
  obtain ⟨e_3, f_3⟩ := h_3
  subst e_3
  subst f_3
  have hG : s.heap.size + 3 ≤ H_3.size := by omega
  refine lv_ldc (v := (-99999)) hx hb hown (hts (.constant RL 54 (-99999)) (by decide +kernel)) dL_areBookingsSo_241 ?_
  refine lv_icmp_ne (tgt := 250) hx hb dL_areBookingsSo_243 (by decide) (fun c9 => absurd (by decide) c9) (fun _ => ?_)
  refine lv_iconst (v := 1) hx hb dL_areBookingsSo_246 (by decide) ?_
  refine lv_goto (tgt := 251) hx hb dL_areBookingsSo_247 (by decide) ?_
  exact MG.zret hx hb hr hlocks hK hP hD hS (by omega) (Nat.le_of_ble_eq_true rfl) (Nat.le_of_ble_eq_true rfl) dL_areBookingsSo_251 rfl (by exact ⟨rfl, rfl⟩)
set_option maxHeartbeats 4000000 in
set_option maxRecDepth 100000 in
theorem g_alike (l : Launch) (D : va_G) (cI cZ : ClassId) (a b : Nat → Nat) (sz : Nat) (hfl : l.stackTraces = false)  : MG l yL_areAlike wsL_areAlike ({ frames := 10, cells := 300, slots := 1800, locals := 176 }) D (ty2 cI cZ) (w2 cI cZ a b) [.ref (a 0), .ref (b 0)] (z0, z0) sz (fun r u => u = (z0, z0) ∧ r = 1) 240 300 1800 := by
  refine MG.of (cc := cL_areAlike) (maxL := 4) (by decide) rfl (Nat.le_of_ble_eq_true rfl) ?_
  intro p e s m args below meth c A H locs ls hx hb hr hml hown hts hlocks hEV hZ hA hS hP hK hD hl
  have hl : lv_has ls 4 [(0, .ref (a 0)), (1, .ref (b 0))] := hl
  have hG : s.heap.size + 0 ≤ H.size := hS.1
  refine lv_aload_n hx hb dL_areAlike_0 rfl (lv_at hl 0 rfl) ?_
  refine MG.callV (As := []) (rest := []) ⟨hx, hb, hml, hown, hts⟩ (fA b (P := fun r => r = 0) (MI.toMG (c_X5_clock l D cI cZ a H.size z0))) (cwV 0 hts gL_areAlike_X5_clock rfl rfl rfl (by decide +kernel) ⟨Nat.le_of_ble_eq_true rfl, Nat.le_of_ble_eq_true rfl⟩) hP hK hD hS hA hEV hZ (va_recv hK hP (ci := 5) (q0 := 0) rfl rfl) rfl hl.1 (Nat.le_of_ble_eq_true rfl) (Nat.le_of_ble_eq_true rfl) (Nat.le_of_ble_eq_true rfl) dL_areAlike_1 rfl (fun r_1 u_1 H_1 locs h_1 hP hD hS hg => ?_)
  have h_1 : u_1 = (z0, z0) ∧ r_1 = 0 := h_1
  obtain ⟨e_1, f_1⟩ := h_1
  subst e_1
  subst f_1
  have hG : s.heap.size + 0 ≤ H_1.size := by omega
  refine lv_aload_n hx hb dL_areAlike_4 rfl (lv_at hl 1 rfl) ?_
  refine MG.callV (As := []) (rest := [.int 0]) ⟨hx, hb, hml, hown, hts⟩ (fB a (P := fun r => r = 0) (MI.toMG (c_X5_clock l D cI cZ b H_1.size z0))) (cwV 0 hts gL_areAlike_X5_clock rfl rfl rfl (by decide +kernel) ⟨Nat.le_of_ble_eq_true rfl, Nat.le_of_ble_eq_true rfl⟩) hP hK hD hS hA hEV hZ (va_recv hK hP (ci := 5) (q0 := 27) rfl rfl) rfl hl.1 (Nat.le_of_ble_eq_true rfl) (Nat.le_of_ble_eq_true rfl) (Nat.le_of_ble_eq_true rfl) dL_areAlike_5 rfl (fun r_2 u_2 H_2 locs h_2 hP hD hS hg => ?_)
  have h_2 : u_2 = (z0, z0) ∧ r_2 = 0 := h_2
  obtain ⟨e_2, f_2⟩ := h_2
  subst e_2
  subst f_2
  have hG : s.heap.size + 0 ≤ H_2.size := by omega
  refine lv_icmp_ne (tgt := 26) hx hb dL_areAlike_8 (by decide) (fun c9 => absurd (by decide) c9) (fun _ => ?_)
  refine lv_aload_n hx hb dL_areAlike_11 rfl (lv_at hl 0 rfl) ?_
  refine MG.callV (As := []) (rest := []) ⟨hx, hb, hml, hown, hts⟩ (fA b (P := fun r => r = 0) (MI.toMG (c_X5_earned l D cI cZ a H_2.size z0))) (cwV 0 hts gL_areAlike_X5_earned rfl rfl rfl (by decide +kernel) ⟨Nat.le_of_ble_eq_true rfl, Nat.le_of_ble_eq_true rfl⟩) hP hK hD hS hA hEV hZ (va_recv hK hP (ci := 5) (q0 := 0) rfl rfl) rfl hl.1 (Nat.le_of_ble_eq_true rfl) (Nat.le_of_ble_eq_true rfl) (Nat.le_of_ble_eq_true rfl) dL_areAlike_12 rfl (fun r_3 u_3 H_3 locs h_3 hP hD hS hg => ?_)
  have h_3 : u_3 = (z0, z0) ∧ r_3 = 0 := h_3
  obtain ⟨e_3, f_3⟩ := h_3
  subst e_3
  subst f_3
  have hG : s.heap.size + 0 ≤ H_3.size := by omega
  refine lv_aload_n hx hb dL_areAlike_15 rfl (lv_at hl 1 rfl) ?_
  refine MG.callV (As := []) (rest := [.int 0]) ⟨hx, hb, hml, hown, hts⟩ (fB a (P := fun r => r = 0) (MI.toMG (c_X5_earned l D cI cZ b H_3.size z0))) (cwV 0 hts gL_areAlike_X5_earned rfl rfl rfl (by decide +kernel) ⟨Nat.le_of_ble_eq_true rfl, Nat.le_of_ble_eq_true rfl⟩) hP hK hD hS hA hEV hZ (va_recv hK hP (ci := 5) (q0 := 27) rfl rfl) rfl hl.1 (Nat.le_of_ble_eq_true rfl) (Nat.le_of_ble_eq_true rfl) (Nat.le_of_ble_eq_true rfl) dL_areAlike_16 rfl (fun r_4 u_4 H_4 locs h_4 hP hD hS hg => ?_)
  have h_4 : u_4 = (z0, z0) ∧ r_4 = 0 := h_4
  obtain ⟨e_4, f_4⟩ := h_4
  subst e_4
  subst f_4
  have hG : s.heap.size + 0 ≤ H_4.size := by omega
  refine lv_icmp_ne (tgt := 26) hx hb dL_areAlike_19 (by decide) (fun c9 => absurd (by decide) c9) (fun _ => ?_)
  refine lv_iconst (v := 1) hx hb dL_areAlike_22 (by decide) ?_
  refine lv_goto (tgt := 27) hx hb dL_areAlike_23 (by decide) ?_
  refine lv_istore_n (lv' := [(2, .int 1), (0, .ref (a 0)), (1, .ref (b 0))]) hx hb dL_areAlike_27 rfl hl (by decide) rfl (fun ls hl => ?_)
  refine lv_iconst (v := 0) hx hb dL_areAlike_28 (by decide) ?_
  refine lv_istore_n (lv' := [(3, .int 0), (2, .int 1), (0, .ref (a 0)), (1, .ref (b 0))]) hx hb dL_areAlike_29 rfl hl (by decide) rfl (fun ls hl => ?_)
  have loop_30 : ∀ (f j : Nat) (H : Heap) (locs : List Loc) (ls : Array Slot), 30 < j + f → j ≤ 30 → s.heap.size + 8 * j ≤ H.size → va_P D vwCl ((w2 cI cZ a b) (z0, z0)) H → va_D A ((w2 cI cZ a b) (z0, z0)) → va_S A s.heap H locs → lv_has ls 4 [(0, .ref (a 0)), (1, .ref (b 0)), (2, .int 1), (3, .int (nI j))] → W p l e { frames := 10, cells := 300, slots := 1800, locals := 176 } s m args below meth c H locs (10 * j) (60 * j) (MQ below (va_Qi (fun r u => u = (z0, z0) ∧ r = 1) (PG D (ty2 cI cZ) (w2 cI cZ a b) A (s.heap.size + 240)) A) args s 300 1800 A) (F0 m 30 ls []) := by
    intro f
    induction f with
    | zero => intro j H locs ls hf hj; exact absurd hf (by omega)
    | succ f ih =>
      intro j H locs ls hf hj hG hP hD hS hl
      refine lv_iload_n hx hb dL_areAlike_30 rfl (lv_at hl 3 rfl) ?_
      refine lv_bipush (v := 30) hx hb dL_areAlike_31 (by decide) ?_
      refine lv_icmp_ge (tgt := 155) hx hb dL_areAlike_33 (by decide) (fun c_33 => ?_) (fun c_33 => ?_)
      · skip
        rw [show (30 : Int32) = nI 30 from rfl, nI_leI (by omega) (by omega)] at c_33
        refine lv_iload_n hx hb dL_areAlike_155 rfl (lv_at hl 2 rfl) ?_
        exact MG.zret hx hb hr hlocks hK hP hD hS (by omega) (show 10 * j ≤ 300 by omega) (show 60 * j ≤ 1800 by omega) dL_areAlike_156 rfl (by exact ⟨rfl, rfl⟩)
      · skip
        rw [show (30 : Int32) = nI 30 from rfl, nI_leI (by omega) (by omega)] at c_33
        have hG : s.heap.size + 8 * j + 0 ≤ H.size := hG
        refine lv_iload_n hx hb dL_areAlike_36 rfl (lv_at hl 2 rfl) ?_
        refine lv_if_eq (tgt := 155) hx hb dL_areAlike_37 (by decide) (fun c9 => absurd c9 (by decide)) (fun _ => ?_)
        refine lv_aload_n hx hb dL_areAlike_40 rfl (lv_at hl 0 rfl) ?_
        refine lv_iconst (v := 0) hx hb dL_areAlike_41 (by decide) ?_
        refine lv_iload_n hx hb dL_areAlike_42 rfl (lv_at hl 3 rfl) ?_
        refine lv_iconst (v := 0) hx hb dL_areAlike_43 (by decide) ?_
        refine MG.callSW (As := [.ref (a 0), .int 0, .int (nI j), .int 0]) (rest := []) ⟨hx, hb, hml, hown, hts⟩ (fA b (g_looks0 l D cI cZ a H.size hfl (nI j) 0)) (vx_cwSW 4 hts gL_areAlike_L_looks rfl rfl rfl (by decide +kernel) ⟨Nat.le_of_ble_eq_true rfl, Nat.le_of_ble_eq_true rfl⟩) hP hK hD hS hA hEV hZ rfl hl.1 (Nat.le_of_ble_eq_true rfl) (show 10 * j + 0 + 1 ≤ 300 by omega) (show 60 * j + 0 + 6 ≤ 1800 by omega) dL_areAlike_44 rfl (fun r_5 u_5 H_5 locs h_5 hP hD hS hg => ?_)
        have h_5 : u_5 = (z0, z0) ∧ r_5 = (-99999) := h_5
        obtain ⟨e_5, f_5⟩ := h_5
        subst e_5
        subst f_5
        have hG : s.heap.size + 8 * j + 1 ≤ H_5.size := by omega
        refine lv_aload_n hx hb dL_areAlike_47 rfl (lv_at hl 1 rfl) ?_
        refine lv_iconst (v := 0) hx hb dL_areAlike_48 (by decide) ?_
        refine lv_iload_n hx hb dL_areAlike_49 rfl (lv_at hl 3 rfl) ?_
        refine lv_iconst (v := 0) hx hb dL_areAlike_50 (by decide) ?_
        refine MG.callSW (As := [.ref (b 0), .int 0, .int (nI j), .int 0]) (rest := [.int (-99999)]) ⟨hx, hb, hml, hown, hts⟩ (fB a (g_looks0 l D cI cZ b H_5.size hfl (nI j) 0)) (vx_cwSW 4 hts gL_areAlike_L_looks rfl rfl rfl (by decide +kernel) ⟨Nat.le_of_ble_eq_true rfl, Nat.le_of_ble_eq_true rfl⟩) hP hK hD hS hA hEV hZ rfl hl.1 (Nat.le_of_ble_eq_true rfl) (show 10 * j + 1 + 1 ≤ 300 by omega) (show 60 * j + 6 + 6 ≤ 1800 by omega) dL_areAlike_51 rfl (fun r_6 u_6 H_6 locs h_6 hP hD hS hg => ?_)
        have h_6 : u_6 = (z0, z0) ∧ r_6 = (-99999) := h_6
        obtain ⟨e_6, f_6⟩ := h_6
        subst e_6
        subst f_6
        have hG : s.heap.size + 8 * j + 2 ≤ H_6.size := by omega
        refine lv_icmp_ne (tgt := 147) hx hb dL_areAlike_54 (by decide) (fun c9 => absurd (by decide) c9) (fun _ => ?_)
        refine lv_aload_n hx hb dL_areAlike_57 rfl (lv_at hl 0 rfl) ?_
        refine lv_iconst (v := 1) hx hb dL_areAlike_58 (by decide) ?_
        refine lv_iload_n hx hb dL_areAlike_59 rfl (lv_at hl 3 rfl) ?_
        refine lv_iconst (v := 0) hx hb dL_areAlike_60 (by decide) ?_
        refine MG.callSW (As := [.ref (a 0), .int 1, .int (nI j), .int 0]) (rest := []) ⟨hx, hb, hml, hown, hts⟩ (fA b (g_looks1 l D cI cZ a H_6.size hfl (nI j) 0)) (vx_cwSW 4 hts gL_areAlike_L_looks rfl rfl rfl (by decide +kernel) ⟨Nat.le_of_ble_eq_true rfl, Nat.le_of_ble_eq_true rfl⟩) hP hK hD hS hA hEV hZ rfl hl.1 (Nat.le_of_ble_eq_true rfl) (show 10 * j + 2 + 1 ≤ 300 by omega) (show 60 * j + 12 + 6 ≤ 1800 by omega) dL_areAlike_61 rfl (fun r_7 u_7 H_7 locs h_7 hP hD hS hg => ?_)
        have h_7 : u_7 = (z0, z0) ∧ r_7 = (-99999) := h_7
        obtain ⟨e_7, f_7⟩ := h_7
        subst e_7
        subst f_7
        have hG : s.heap.size + 8 * j + 3 ≤ H_7.size := by omega
        refine lv_aload_n hx hb dL_areAlike_64 rfl (lv_at hl 1 rfl) ?_
        refine lv_iconst (v := 1) hx hb dL_areAlike_65 (by decide) ?_
        refine lv_iload_n hx hb dL_areAlike_66 rfl (lv_at hl 3 rfl) ?_
        refine lv_iconst (v := 0) hx hb dL_areAlike_67 (by decide) ?_
        refine MG.callSW (As := [.ref (b 0), .int 1, .int (nI j), .int 0]) (rest := [.int (-99999)]) ⟨hx, hb, hml, hown, hts⟩ (fB a (g_looks1 l D cI cZ b H_7.size hfl (nI j) 0)) (vx_cwSW 4 hts gL_areAlike_L_looks rfl rfl rfl (by decide +kernel) ⟨Nat.le_of_ble_eq_true rfl, Nat.le_of_ble_eq_true rfl⟩) hP hK hD hS hA hEV hZ rfl hl.1 (Nat.le_of_ble_eq_true rfl) (show 10 * j + 3 + 1 ≤ 300 by omega) (show 60 * j + 18 + 6 ≤ 1800 by omega) dL_areAlike_68 rfl (fun r_8 u_8 H_8 locs h_8 hP hD hS hg => ?_)
        have h_8 : u_8 = (z0, z0) ∧ r_8 = (-99999) := h_8
        obtain ⟨e_8, f_8⟩ := h_8
        subst e_8
        subst f_8
        have hG : s.heap.size + 8 * j + 4 ≤ H_8.size := by omega
        refine lv_icmp_ne (tgt := 147) hx hb dL_areAlike_71 (by decide) (fun c9 => absurd (by decide) c9) (fun _ => ?_)
        refine lv_aload_n hx hb dL_areAlike_74 rfl (lv_at hl 0 rfl) ?_
        refine lv_iconst (v := 2) hx hb dL_areAlike_75 (by decide) ?_
        refine lv_iload_n hx hb dL_areAlike_76 rfl (lv_at hl 3 rfl) ?_
        refine lv_iconst (v := 0) hx hb dL_areAlike_77 (by decide) ?_
        refine MG.callSW (As := [.ref (a 0), .int 2, .int (nI j), .int 0]) (rest := []) ⟨hx, hb, hml, hown, hts⟩ (fA b (g_looks2 l D cI cZ a H_8.size hfl (nI j) 0)) (vx_cwSW 4 hts gL_areAlike_L_looks rfl rfl rfl (by decide +kernel) ⟨Nat.le_of_ble_eq_true rfl, Nat.le_of_ble_eq_true rfl⟩) hP hK hD hS hA hEV hZ rfl hl.1 (Nat.le_of_ble_eq_true rfl) (show 10 * j + 4 + 1 ≤ 300 by omega) (show 60 * j + 24 + 6 ≤ 1800 by omega) dL_areAlike_78 rfl (fun r_9 u_9 H_9 locs h_9 hP hD hS hg => ?_)
        have h_9 : u_9 = (z0, z0) ∧ r_9 = (-99999) := h_9
        obtain ⟨e_9, f_9⟩ := h_9
        subst e_9
        subst f_9
        have hG : s.heap.size + 8 * j + 5 ≤ H_9.size := by omega
        refine lv_aload_n hx hb dL_areAlike_81 rfl (lv_at hl 1 rfl) ?_
        refine lv_iconst (v := 2) hx hb dL_areAlike_82 (by decide) ?_
        refine lv_iload_n hx hb dL_areAlike_83 rfl (lv_at hl 3 rfl) ?_
        refine lv_iconst (v := 0) hx hb dL_areAlike_84 (by decide) ?_
        refine MG.callSW (As := [.ref (b 0), .int 2, .int (nI j), .int 0]) (rest := [.int (-99999)]) ⟨hx, hb, hml, hown, hts⟩ (fB a (g_looks2 l D cI cZ b H_9.size hfl (nI j) 0)) (vx_cwSW 4 hts gL_areAlike_L_looks rfl rfl rfl (by decide +kernel) ⟨Nat.le_of_ble_eq_true rfl, Nat.le_of_ble_eq_true rfl⟩) hP hK hD hS hA hEV hZ rfl hl.1 (Nat.le_of_ble_eq_true rfl) (show 10 * j + 5 + 1 ≤ 300 by omega) (show 60 * j + 30 + 6 ≤ 1800 by omega) dL_areAlike_85 rfl (fun r_10 u_10 H_10 locs h_10 hP hD hS hg => ?_)
        have h_10 : u_10 = (z0, z0) ∧ r_10 = (-99999) := h_10
        obtain ⟨e_10, f_10⟩ := h_10
        subst e_10
        subst f_10
        have hG : s.heap.size + 8 * j + 6 ≤ H_10.size := by omega
        refine lv_icmp_ne (tgt := 147) hx hb dL_areAlike_88 (by decide) (fun c9 => absurd (by decide) c9) (fun _ => ?_)
        refine lv_aload_n hx hb dL_areAlike_91 rfl (lv_at hl 0 rfl) ?_
        refine lv_iconst (v := 3) hx hb dL_areAlike_92 (by decide) ?_
        refine lv_iload_n hx hb dL_areAlike_93 rfl (lv_at hl 3 rfl) ?_
        refine lv_iconst (v := 0) hx hb dL_areAlike_94 (by decide) ?_
        refine MG.callSW (As := [.ref (a 0), .int 3, .int (nI j), .int 0]) (rest := []) ⟨hx, hb, hml, hown, hts⟩ (fA b (g_looks3 l D cI cZ a H_10.size hfl (nI j) 0)) (vx_cwSW 4 hts gL_areAlike_L_looks rfl rfl rfl (by decide +kernel) ⟨Nat.le_of_ble_eq_true rfl, Nat.le_of_ble_eq_true rfl⟩) hP hK hD hS hA hEV hZ rfl hl.1 (Nat.le_of_ble_eq_true rfl) (show 10 * j + 6 + 1 ≤ 300 by omega) (show 60 * j + 36 + 6 ≤ 1800 by omega) dL_areAlike_95 rfl (fun r_11 u_11 H_11 locs h_11 hP hD hS hg => ?_)
        have h_11 : u_11 = (z0, z0) ∧ r_11 = (-99999) := h_11
        obtain ⟨e_11, f_11⟩ := h_11
        subst e_11
        subst f_11
        have hG : s.heap.size + 8 * j + 7 ≤ H_11.size := by omega
        refine lv_aload_n hx hb dL_areAlike_98 rfl (lv_at hl 1 rfl) ?_
        refine lv_iconst (v := 3) hx hb dL_areAlike_99 (by decide) ?_
        refine lv_iload_n hx hb dL_areAlike_100 rfl (lv_at hl 3 rfl) ?_
        refine lv_iconst (v := 0) hx hb dL_areAlike_101 (by decide) ?_
        refine MG.callSW (As := [.ref (b 0), .int 3, .int (nI j), .int 0]) (rest := [.int (-99999)]) ⟨hx, hb, hml, hown, hts⟩ (fB a (g_looks3 l D cI cZ b H_11.size hfl (nI j) 0)) (vx_cwSW 4 hts gL_areAlike_L_looks rfl rfl rfl (by decide +kernel) ⟨Nat.le_of_ble_eq_true rfl, Nat.le_of_ble_eq_true rfl⟩) hP hK hD hS hA hEV hZ rfl hl.1 (Nat.le_of_ble_eq_true rfl) (show 10 * j + 7 + 1 ≤ 300 by omega) (show 60 * j + 42 + 6 ≤ 1800 by omega) dL_areAlike_102 rfl (fun r_12 u_12 H_12 locs h_12 hP hD hS hg => ?_)
        have h_12 : u_12 = (z0, z0) ∧ r_12 = (-99999) := h_12
        obtain ⟨e_12, f_12⟩ := h_12
        subst e_12
        subst f_12
        have hG : s.heap.size + 8 * j + 8 ≤ H_12.size := by omega
        refine lv_icmp_ne (tgt := 147) hx hb dL_areAlike_105 (by decide) (fun c9 => absurd (by decide) c9) (fun _ => ?_)
        refine lv_aload_n hx hb dL_areAlike_108 rfl (lv_at hl 0 rfl) ?_
        refine lv_iconst (v := 4) hx hb dL_areAlike_109 (by decide) ?_
        refine lv_bipush (v := 6) hx hb dL_areAlike_110 (by decide) ?_
        refine lv_iload_n hx hb dL_areAlike_112 rfl (lv_at hl 3 rfl) ?_
        refine lv_bipush (v := 8) hx hb dL_areAlike_113 (by decide) ?_
        refine lv_irem hx hb dL_areAlike_115 (by decide) ?_
        refine lv_topi (fun v_13 e_13 => ?_)
        obtain rfl : v_13 = nI (j % 8) := e_13.trans (by exact pk_rem (a := j) (d := 8) (by omega) (by omega) (by omega))
        refine lv_iadd hx hb dL_areAlike_116 ?_
        refine lv_topi (fun v_14 e_14 => ?_)
        obtain rfl : v_14 = nI (6 + j % 8) := e_14.trans (by exact nI_add 6 (j % 8))
        refine lv_iload_n hx hb dL_areAlike_117 rfl (lv_at hl 3 rfl) ?_
        refine lv_bipush (v := 8) hx hb dL_areAlike_118 (by decide) ?_
        refine lv_idiv hx hb dL_areAlike_120 (by decide) ?_
        refine lv_topi (fun v_15 e_15 => ?_)
        obtain rfl : v_15 = nI (j / 8) := e_15.trans (by exact pk_div (a := j) (d := 8) (by omega) (by omega) (by omega))
        refine MG.callSW (As := [.ref (a 0), .int 4, .int (nI (6 + j % 8)), .int (nI (j / 8))]) (rest := []) ⟨hx, hb, hml, hown, hts⟩ (fA b (g_looks4 l D cI cZ a H_12.size hfl (j % 8) (j / 8) (by omega) (by omega))) (vx_cwSW 4 hts gL_areAlike_L_looks rfl rfl rfl (by decide +kernel) ⟨Nat.le_of_ble_eq_true rfl, Nat.le_of_ble_eq_true rfl⟩) hP hK hD hS hA hEV hZ rfl hl.1 (Nat.le_of_ble_eq_true rfl) (show 10 * j + 8 + 1 ≤ 300 by omega) (show 60 * j + 48 + 6 ≤ 1800 by omega) dL_areAlike_121 rfl (fun r_16 u_16 H_16 locs h_16 hP hD hS hg => ?_)
        have h_16 : u_16 = (z0, z0) ∧ r_16 = wav (j % 8) := h_16
        obtain ⟨e_16, f_16⟩ := h_16
        subst e_16
        subst f_16
        have hG : s.heap.size + 8 * j + 8 ≤ H_16.size := by omega
        refine lv_aload_n hx hb dL_areAlike_124 rfl (lv_at hl 1 rfl) ?_
        refine lv_iconst (v := 4) hx hb dL_areAlike_125 (by decide) ?_
        refine lv_bipush (v := 6) hx hb dL_areAlike_126 (by decide) ?_
        refine lv_iload_n hx hb dL_areAlike_128 rfl (lv_at hl 3 rfl) ?_
        refine lv_bipush (v := 8) hx hb dL_areAlike_129 (by decide) ?_
        refine lv_irem hx hb dL_areAlike_131 (by decide) ?_
        refine lv_topi (fun v_17 e_17 => ?_)
        obtain rfl : v_17 = nI (j % 8) := e_17.trans (by exact pk_rem (a := j) (d := 8) (by omega) (by omega) (by omega))
        refine lv_iadd hx hb dL_areAlike_132 ?_
        refine lv_topi (fun v_18 e_18 => ?_)
        obtain rfl : v_18 = nI (6 + j % 8) := e_18.trans (by exact nI_add 6 (j % 8))
        refine lv_iload_n hx hb dL_areAlike_133 rfl (lv_at hl 3 rfl) ?_
        refine lv_bipush (v := 8) hx hb dL_areAlike_134 (by decide) ?_
        refine lv_idiv hx hb dL_areAlike_136 (by decide) ?_
        refine lv_topi (fun v_19 e_19 => ?_)
        obtain rfl : v_19 = nI (j / 8) := e_19.trans (by exact pk_div (a := j) (d := 8) (by omega) (by omega) (by omega))
        refine MG.callSW (As := [.ref (b 0), .int 4, .int (nI (6 + j % 8)), .int (nI (j / 8))]) (rest := [.int (wav (j % 8))]) ⟨hx, hb, hml, hown, hts⟩ (fB a (g_looks4 l D cI cZ b H_16.size hfl (j % 8) (j / 8) (by omega) (by omega))) (vx_cwSW 4 hts gL_areAlike_L_looks rfl rfl rfl (by decide +kernel) ⟨Nat.le_of_ble_eq_true rfl, Nat.le_of_ble_eq_true rfl⟩) hP hK hD hS hA hEV hZ rfl hl.1 (Nat.le_of_ble_eq_true rfl) (show 10 * j + 9 + 1 ≤ 300 by omega) (show 60 * j + 54 + 6 ≤ 1800 by omega) dL_areAlike_137 rfl (fun r_20 u_20 H_20 locs h_20 hP hD hS hg => ?_)
        have h_20 : u_20 = (z0, z0) ∧ r_20 = wav (j % 8) := h_20
        obtain ⟨e_20, f_20⟩ := h_20
        subst e_20
        subst f_20
        have hG : s.heap.size + 8 * j + 8 ≤ H_20.size := by omega
        refine lv_icmp_ne (tgt := 147) hx hb dL_areAlike_140 (by decide) (fun c9 => absurd rfl c9) (fun _ => ?_)
        refine lv_iconst (v := 1) hx hb dL_areAlike_143 (by decide) ?_
        refine lv_goto (tgt := 148) hx hb dL_areAlike_144 (by decide) ?_
        refine lv_istore_n (lv' := [(2, .int 1), (0, .ref (a 0)), (1, .ref (b 0)), (3, .int (nI j))]) hx hb dL_areAlike_148 rfl hl (by decide) rfl (fun ls hl => ?_)
        refine lv_iinc (v := nI (j + 1)) (lv' := [(3, .int (nI (j + 1))), (2, .int 1), (0, .ref (a 0)), (1, .ref (b 0))]) hx hb dL_areAlike_149 hl (k := 3) rfl (by exact nI_1 j) (by decide) rfl (fun ls hl => ?_)
        refine lv_goto (tgt := 30) hx hb dL_areAlike_152 (by decide) ?_
        refine W.widen (k := 10 * (j + 1)) (n := 60 * (j + 1)) (by omega) (by omega) ?_
        exact ih (j + 1) _ _ ls (by omega) (by omega) (by omega) hP hD hS (lv_sub hl [2, 3, 1, 0] rfl)
  exact loop_30 31 0 _ _ ls (by omega) (by omega) (by omega) hP hD hS (lv_sub hl [2, 3, 1, 0] rfl)
