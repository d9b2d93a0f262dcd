theorem lcmp_eq {p : Program} {l : Launch} {e : Env} {R : Room} {s : State} {m : MethodId} {args : Array Value} {below : List Frame} {meth : Method} {c : Code} {H : Heap} {locs : List Loc} {cells slots : Nat} {Q : State → Prop} {cc : ByteArray} (hexec : p.tables.exec = Jvm.exec) (hb : c.code = cc) {x y : Int64} {pc : Nat} {ls : Array Slot} {rest : List Value} (hdg : decode cc pc = .ok (.lcmp, 1)) (h : x = y)
    (k : W p l e R s m args below meth c H locs cells slots Q (F0 m (pc + 1) ls (.int 0 :: rest))) : W p l e R s m args below meth c H locs cells slots Q (F0 m pc ls (.long y :: .long x :: rest)) := by
  subst h
  refine W.lcmp hexec hb hdg ?_
  have e0 : lg_cmp x x = 0 := by simp [lg_cmp]
  rw [e0]
  exact k
theorem op_gen0 {σ μ : St} {g : Nat → Int64} {x : SO} {k cd cd2 : Int32} {u2 : St} {P P2 : St → Prop} (hRR : RR σ μ) (hc : cd = cd2)
    (hx : (k = 0 ∧ (cd = 0 ∧ P x.1) ∧ x.2 = g) ∨ (¬ k = 0 ∧ k = cd ∧ x = (σ, g)))
    (hm : (¬ cd2 = 0 ∧ u2 = va_up μ 34 (fun _ => cd2)) ∨ (cd2 = 0 ∧ P2 u2))
    (hok : cd = 0 → ∀ u, P u → P2 u2 → RR u u2 ∧ u2 34 0 = 0) : RR x.1 u2 ∧ u2 34 0 = k := by
  subst hc
  rcases hx with ⟨rfl, ⟨h0, hp⟩, _⟩ | ⟨h0, rfl, rfl⟩
  · rcases hm with ⟨h1, _⟩ | ⟨_, hp2⟩
    · exact absurd h0 h1
    · exact hok h0 _ hp hp2
  · rcases hm with ⟨_, rfl⟩ | ⟨h1, _⟩
    · obtain ⟨n, nb, nw, T, Z, J, h⟩ := hRR
      exact ⟨⟨n, nb, nw, T, Z, J, h.up _⟩, va_up_self _ _ _ ▸ rfl⟩
    · exact absurd h1 h0
set_option maxHeartbeats 4000000 in
set_option maxRecDepth 100000 in
theorem case_addTrain {p : Program} {l : Launch} {e : Env} {s : State} {m : MethodId} {below : List Frame} {meth : Method} {c : Code} {b L : Nat} {xs : Nat → Int32} {D : va_G} {cI cZ cL : ClassId} {a a2 : Nat → Nat} {o : Nat} {Q : State → Prop} (hfl : l.stackTraces = false) (C0 : lw_At p s m meth c b L xs) (hL : L ≤ 2560) (hK : va_K D vwCl (ty3 cI cZ cL) s) (hEV : EV s) (hZ : SZ (fun q : Nat => s.heap.size ≤ q) s s.heap) {σ μ : St} {g : Nat → Int64} {i C9 S9 : Nat} (hi : i + 5 ≤ L) (hC9 : C9 + 1 ≤ 1098) (hS9 : S9 + 6 ≤ 8929) (hRR : RR σ μ) {H : Heap} {locs : List Loc} {ls : Array Slot} (hP : va_P D vwCl (wL cI cZ cL a o a2 (σ, g) μ) H) (hD : va_D (fun q : Nat => s.heap.size ≤ q) (wL cI cZ cL a o a2 (σ, g) μ)) (hS : va_S (fun q : Nat => s.heap.size ≤ q) s.heap H locs) (hl : lv_has ls 7 [(4, .int (nI i)), (0, .ref b), (1, .ref (a 0)), (2, .ref (a2 0)), (3, .ref o)]) (hk : ∀ (σ μ : St) (g : Nat → Int64) (H : Heap) (locs : List Loc) (ls : Array Slot), RR σ μ → va_P D vwCl (wL cI cZ cL a o a2 (σ, g) μ) H → va_D (fun q : Nat => s.heap.size ≤ q) (wL cI cZ cL a o a2 (σ, g) μ) → va_S (fun q : Nat => s.heap.size ≤ q) s.heap H locs → lv_has ls 7 [(4, .int (nI i)), (0, .ref b), (1, .ref (a 0)), (2, .ref (a2 0)), (3, .ref o)] → W p l e room_1 s m #[Value.ref b] below meth c H locs (C9 + 1) (S9 + 6) Q (F0 m 1556 ls [])) : W p l e room_1 s m #[Value.ref b] below meth c H locs C9 S9 Q (F0 m 140 ls []) := by
  obtain ⟨hx, hb, hr, hml, hown, hts0, hX, hbl, hlocks, hgv⟩ := C0
  have hts : ∀ w ∈ wsL_law, w.before #[Value.ref b] s = true := fun w h => hts0 w (wsL_law_in w h)
  have hA : ∀ q : Nat, s.heap.size ≤ q → (fun q : Nat => s.heap.size ≤ q) q := fun _ h => h
  have hbA : ¬ (fun q : Nat => s.heap.size ≤ q) b := Nat.not_le.mpr hbl
  have hv1 : vp_in (nI i + 1) L := by rw [show (1 : Int32) = nI 1 from rfl, nI_add]; exact vp_in_nI (by omega) (by omega)
  have hv2 : vp_in (nI i + 2) L := by rw [show (2 : Int32) = nI 2 from rfl, nI_add]; exact vp_in_nI (by omega) (by omega)
  have hv3 : vp_in (nI i + 3) L := by rw [show (3 : Int32) = nI 3 from rfl, nI_add]; exact vp_in_nI (by omega) (by omega)
  have hv4 : vp_in (nI i + 4) L := by rw [show (4 : Int32) = nI 4 from rfl, nI_add]; exact vp_in_nI (by omega) (by omega)
  obtain ⟨n, nb, nw, T, Z, J, h⟩ := hRR
  refine lv_aload_n hx hb dL_law_140 rfl (lv_at hl 2 rfl) ?_
  refine lv_aload_n hx hb dL_law_141 rfl (lv_at hl 1 rfl) ?_
  refine lv_iload hx hb dL_law_142 (lv_at hl 0 rfl) ?_
  refine lv_iconst (v := 1) hx hb dL_law_144 (by decide) ?_
  refine lv_iadd hx hb dL_law_145 ?_
  refine va_sld hx hb hX hbl hbA hS hv1 dL_law_146 ?_
  refine lv_aload_n hx hb dL_law_147 rfl (lv_at hl 1 rfl) ?_
  refine lv_iload hx hb dL_law_148 (lv_at hl 0 rfl) ?_
  refine lv_iconst (v := 2) hx hb dL_law_150 (by decide) ?_
  refine lv_iadd hx hb dL_law_151 ?_
  refine va_sld hx hb hX hbl hbA hS hv2 dL_law_152 ?_
  refine lv_if_eq (tgt := 160) hx hb dL_law_153 (by decide) (fun c_153 => ?_) (fun c_153 => ?_)
  · skip
    refine lv_iconst (v := 0) hx hb dL_law_160 (by decide) ?_
    refine lv_aload_n hx hb dL_law_161 rfl (lv_at hl 4 rfl) ?_
    refine LC_callH (As := [.ref (a 0), .int (xs (nI i + 1).toNatClampNeg), .int 0, .ref o]) (rest := []) ⟨hx, hb, hml, hown, hts⟩ (h_addTrain l D cI cZ cL a o H.size σ g (xs (nI i + 1).toNatClampNeg) 0 (cdAdd σ n (xs (nI i + 1).toNatClampNeg)) _ (fun sz => c_X5_addTrain l D cI cZ a sz σ hfl (xs (nI i + 1).toNatClampNeg) 0 (Or.inl rfl) n h.xn h.n4)) (vx_cwSW 4 hts gL_law_L_addTrain rfl rfl rfl (by decide +kernel) ⟨Nat.le_of_ble_eq_true rfl, Nat.le_of_ble_eq_true rfl⟩) hP hK hD hS hA hEV hZ rfl hl.1 (Nat.le_of_ble_eq_true rfl) hC9 hS9 dL_law_162 rfl (fun k9 x9 H locs hx9 hP hD hS => ?_)
    refine lv_istore (lv' := [(5, .int k9), (4, .int (nI i)), (0, .ref b), (1, .ref (a 0)), (2, .ref (a2 0)), (3, .ref o)]) hx hb dL_law_165 hl (by decide) rfl (fun ls hl => ?_)
    refine lv_aload_n hx hb dL_law_167 rfl (lv_at hl 4 rfl) ?_
    refine lv_aload_n hx hb dL_law_168 rfl (lv_at hl 2 rfl) ?_
    refine lv_iload hx hb dL_law_169 (lv_at hl 1 rfl) ?_
    refine lv_iconst (v := 1) hx hb dL_law_171 (by decide) ?_
    refine lv_iadd hx hb dL_law_172 ?_
    refine va_sld hx hb hX hbl hbA hS hv1 dL_law_173 ?_
    refine lv_aload_n hx hb dL_law_174 rfl (lv_at hl 2 rfl) ?_
    refine lv_iload hx hb dL_law_175 (lv_at hl 1 rfl) ?_
    refine lv_iconst (v := 2) hx hb dL_law_177 (by decide) ?_
    refine lv_iadd hx hb dL_law_178 ?_
    refine va_sld hx hb hX hbl hbA hS hv2 dL_law_179 ?_
    refine lv_if_eq (tgt := 187) hx hb dL_law_180 (by decide) (fun _ => ?_) (fun c9 => absurd c_153 c9)
    refine lv_iconst (v := 0) hx hb dL_law_187 (by decide) ?_
    refine LC_callM (As := [.int (xs (nI i + 1).toNatClampNeg), .int 0]) (rest := []) ⟨hx, hb, hml, hown, hts⟩ (c_X6_addTrain l D cI cZ a2 H.size μ (xs (nI i + 1).toNatClampNeg) 0 (Or.inl rfl) n h.yn h.n4) (cwV 2 hts gL_law_X6_addTrain rfl rfl rfl (by decide +kernel) ⟨Nat.le_of_ble_eq_true rfl, Nat.le_of_ble_eq_true rfl⟩) hP hK hD hS hA (va_recv hK hP (ci := 6) (q0 := 28) rfl rfl) rfl hl.1 (Nat.le_of_ble_eq_true rfl) (by show C9 + 1 ≤ 1098; omega) (by show S9 + 6 ≤ 8929; omega) dL_law_188 rfl (fun r9 w9 H locs hm9 hP hD hS => ?_)
    have hres := op_gen (g := g) (x := x9) (k := k9) (r2 := r9) (u2 := w9) (P := fun r u => u = (va_up (va_up (va_up σ 3 (fun _ => nI (n + 1))) 4 (upd (σ 4) n (xs (nI i + 1).toNatClampNeg))) 5 (upd (σ 5) n 0)) ∧ r = nI n) (P2 := fun r u => u = (va_up (va_up (va_up (va_up μ 3 (fun _ => nI (n + 1))) 4 (upd (μ 4) n (xs (nI i + 1).toNatClampNeg))) 5 (upd (μ 5) n 0)) 34 (fun _ => 0)) ∧ r = nI n) (F := fun v9 => v9.toInt64) ⟨n, nb, nw, T, Z, J, h⟩ (cdAdd_e h _) hx9 hm9 (fun h0 v9 u hp hp2 => op_addTrain h (Or.inl rfl) h0 hp hp2)
    obtain ⟨hrr, hth, hans⟩ := hres
    refine lv_istore (lv' := [(6, .int r9), (5, .int k9), (4, .int (nI i)), (0, .ref b), (1, .ref (a 0)), (2, .ref (a2 0)), (3, .ref o)]) hx hb dL_law_191 hl (by decide) rfl (fun ls hl => ?_)
    refine lv_aload_n hx hb dL_law_193 rfl (lv_at hl 5 rfl) ?_
    refine LC_callM (As := []) (rest := []) ⟨hx, hb, hml, hown, hts⟩ (c_X6_thrown l D cI cZ a2 H.size w9) (cwV 0 hts gL_law_X6_thrown rfl rfl rfl (by decide +kernel) ⟨Nat.le_of_ble_eq_true rfl, Nat.le_of_ble_eq_true rfl⟩) hP hK hD hS hA (va_recv hK hP (ci := 6) (q0 := 28) rfl rfl) rfl hl.1 (Nat.le_of_ble_eq_true rfl) (by show C9 + 1 ≤ 1098; omega) (by show S9 + 6 ≤ 8929; omega) dL_law_194 rfl (fun r7 u7 H locs hp7 hP hD hS => ?_)
    obtain ⟨eu7, hp7⟩ := hp7
    rw [eu7] at hP hD
    refine lv_iload hx hb dL_law_197 (lv_at hl 1 rfl) ?_
    refine lv_icmp_eq (tgt := 204) hx hb dL_law_199 (by decide) (fun _ => ?_) (fun c9 => absurd (hp7.trans hth) c9)
    refine lv_iload hx hb dL_law_204 (lv_at hl 1 rfl) ?_
    refine lv_if_ne (tgt := 221) hx hb dL_law_206 (by decide) (fun c_206 => ?_) (fun c_206 => ?_)
    · skip
      refine lv_goto (tgt := 1556) hx hb dL_law_221 (by decide) ?_
      exact hk _ _ _ _ _ ls hrr hP hD hS (lv_sub hl [2, 3, 4, 5, 6] rfl)
    · skip
      refine lv_aload_n hx hb dL_law_209 rfl (lv_at hl 6 rfl) ?_
      refine lv_iconst (v := 0) hx hb dL_law_210 (by decide) ?_
      refine va_lald hx hb hK hP 0 2 rfl rfl (show vp_in 0 1 by unfold vp_in; decide) dL_law_211 ?_
      refine lv_iload hx hb dL_law_212 (lv_at hl 0 rfl) ?_
      refine lv_i2l (v := r9.toInt64) hx hb dL_law_214 rfl ?_
      have hcm : x9.2 (0 : Int32).toNatClampNeg = r9.toInt64 := hans c_206
      refine lcmp_eq hx hb dL_law_215 hcm ?_
      refine lv_if_eq (tgt := 221) hx hb dL_law_216 (by decide) (fun _ => ?_) (fun c9 => absurd rfl c9)
      refine lv_goto (tgt := 1556) hx hb dL_law_221 (by decide) ?_
      exact hk _ _ _ _ _ ls hrr hP hD hS (lv_sub hl [2, 3, 4, 5, 6] rfl)
  · skip
    refine lv_iconst (v := 1) hx hb dL_law_156 (by decide) ?_
    refine lv_goto (tgt := 161) hx hb dL_law_157 (by decide) ?_
    refine lv_aload_n hx hb dL_law_161 rfl (lv_at hl 4 rfl) ?_
    refine LC_callH (As := [.ref (a 0), .int (xs (nI i + 1).toNatClampNeg), .int 1, .ref o]) (rest := []) ⟨hx, hb, hml, hown, hts⟩ (h_addTrain l D cI cZ cL a o H.size σ g (xs (nI i + 1).toNatClampNeg) 1 (cdAdd σ n (xs (nI i + 1).toNatClampNeg)) _ (fun sz => c_X5_addTrain l D cI cZ a sz σ hfl (xs (nI i + 1).toNatClampNeg) 1 (Or.inr rfl) n h.xn h.n4)) (vx_cwSW 4 hts gL_law_L_addTrain rfl rfl rfl (by decide +kernel) ⟨Nat.le_of_ble_eq_true rfl, Nat.le_of_ble_eq_true rfl⟩) hP hK hD hS hA hEV hZ rfl hl.1 (Nat.le_of_ble_eq_true rfl) hC9 hS9 dL_law_162 rfl (fun k9 x9 H locs hx9 hP hD hS => ?_)
    refine lv_istore (lv' := [(5, .int k9), (4, .int (nI i)), (0, .ref b), (1, .ref (a 0)), (2, .ref (a2 0)), (3, .ref o)]) hx hb dL_law_165 hl (by decide) rfl (fun ls hl => ?_)
    refine lv_aload_n hx hb dL_law_167 rfl (lv_at hl 4 rfl) ?_
    refine lv_aload_n hx hb dL_law_168 rfl (lv_at hl 2 rfl) ?_
    refine lv_iload hx hb dL_law_169 (lv_at hl 1 rfl) ?_
    refine lv_iconst (v := 1) hx hb dL_law_171 (by decide) ?_
    refine lv_iadd hx hb dL_law_172 ?_
    refine va_sld hx hb hX hbl hbA hS hv1 dL_law_173 ?_
    refine lv_aload_n hx hb dL_law_174 rfl (lv_at hl 2 rfl) ?_
    refine lv_iload hx hb dL_law_175 (lv_at hl 1 rfl) ?_
    refine lv_iconst (v := 2) hx hb dL_law_177 (by decide) ?_
    refine lv_iadd hx hb dL_law_178 ?_
    refine va_sld hx hb hX hbl hbA hS hv2 dL_law_179 ?_
    refine lv_if_eq (tgt := 187) hx hb dL_law_180 (by decide) (fun c9 => absurd c9 c_153) (fun _ => ?_)
    refine lv_iconst (v := 1) hx hb dL_law_183 (by decide) ?_
    refine lv_goto (tgt := 188) hx hb dL_law_184 (by decide) ?_
    refine LC_callM (As := [.int (xs (nI i + 1).toNatClampNeg), .int 1]) (rest := []) ⟨hx, hb, hml, hown, hts⟩ (c_X6_addTrain l D cI cZ a2 H.size μ (xs (nI i + 1).toNatClampNeg) 1 (Or.inr rfl) n h.yn h.n4) (cwV 2 hts gL_law_X6_addTrain rfl rfl rfl (by decide +kernel) ⟨Nat.le_of_ble_eq_true rfl, Nat.le_of_ble_eq_true rfl⟩) hP hK hD hS hA (va_recv hK hP (ci := 6) (q0 := 28) rfl rfl) rfl hl.1 (Nat.le_of_ble_eq_true rfl) (by show C9 + 1 ≤ 1098; omega) (by show S9 + 6 ≤ 8929; omega) dL_law_188 rfl (fun r9 w9 H locs hm9 hP hD hS => ?_)
    have hres := op_gen (g := g) (x := x9) (k := k9) (r2 := r9) (u2 := w9) (P := fun r u => u = (va_up (va_up (va_up σ 3 (fun _ => nI (n + 1))) 4 (upd (σ 4) n (xs (nI i + 1).toNatClampNeg))) 5 (upd (σ 5) n 1)) ∧ r = nI n) (P2 := fun r u => u = (va_up (va_up (va_up (va_up μ 3 (fun _ => nI (n + 1))) 4 (upd (μ 4) n (xs (nI i + 1).toNatClampNeg))) 5 (upd (μ 5) n 1)) 34 (fun _ => 0)) ∧ r = nI n) (F := fun v9 => v9.toInt64) ⟨n, nb, nw, T, Z, J, h⟩ (cdAdd_e h _) hx9 hm9 (fun h0 v9 u hp hp2 => op_addTrain h (Or.inr rfl) h0 hp hp2)
    obtain ⟨hrr, hth, hans⟩ := hres
    refine lv_istore (lv' := [(6, .int r9), (5, .int k9), (4, .int (nI i)), (0, .ref b), (1, .ref (a 0)), (2, .ref (a2 0)), (3, .ref o)]) hx hb dL_law_191 hl (by decide) rfl (fun ls hl => ?_)
    refine lv_aload_n hx hb dL_law_193 rfl (lv_at hl 5 rfl) ?_
    refine LC_callM (As := []) (rest := []) ⟨hx, hb, hml, hown, hts⟩ (c_X6_thrown l D cI cZ a2 H.size w9) (cwV 0 hts gL_law_X6_thrown rfl rfl rfl (by decide +kernel) ⟨Nat.le_of_ble_eq_true rfl, Nat.le_of_ble_eq_true rfl⟩) hP hK hD hS hA (va_recv hK hP (ci := 6) (q0 := 28) rfl rfl) rfl hl.1 (Nat.le_of_ble_eq_true rfl) (by show C9 + 1 ≤ 1098; omega) (by show S9 + 6 ≤ 8929; omega) dL_law_194 rfl (fun r7 u7 H locs hp7 hP hD hS => ?_)
    obtain ⟨eu7, hp7⟩ := hp7
    rw [eu7] at hP hD
    refine lv_iload hx hb dL_law_197 (lv_at hl 1 rfl) ?_
    refine lv_icmp_eq (tgt := 204) hx hb dL_law_199 (by decide) (fun _ => ?_) (fun c9 => absurd (hp7.trans hth) c9)
    refine lv_iload hx hb dL_law_204 (lv_at hl 1 rfl) ?_
    refine lv_if_ne (tgt := 221) hx hb dL_law_206 (by decide) (fun c_206 => ?_) (fun c_206 => ?_)
    · skip
      refine lv_goto (tgt := 1556) hx hb dL_law_221 (by decide) ?_
      exact hk _ _ _ _ _ ls hrr hP hD hS (lv_sub hl [2, 3, 4, 5, 6] rfl)
    · skip
      refine lv_aload_n hx hb dL_law_209 rfl (lv_at hl 6 rfl) ?_
      refine lv_iconst (v := 0) hx hb dL_law_210 (by decide) ?_
      refine va_lald hx hb hK hP 0 2 rfl rfl (show vp_in 0 1 by unfold vp_in; decide) dL_law_211 ?_
      refine lv_iload hx hb dL_law_212 (lv_at hl 0 rfl) ?_
      refine lv_i2l (v := r9.toInt64) hx hb dL_law_214 rfl ?_
      have hcm : x9.2 (0 : Int32).toNatClampNeg = r9.toInt64 := hans c_206
      refine lcmp_eq hx hb dL_law_215 hcm ?_
      refine lv_if_eq (tgt := 221) hx hb dL_law_216 (by decide) (fun _ => ?_) (fun c9 => absurd rfl c9)
      refine lv_goto (tgt := 1556) hx hb dL_law_221 (by decide) ?_
      exact hk _ _ _ _ _ ls hrr hP hD hS (lv_sub hl [2, 3, 4, 5, 6] rfl)
set_option maxHeartbeats 4000000 in
set_option maxRecDepth 100000 in
theorem case_hold {p : Program} {l : Launch} {e : Env} {s : State} {m : MethodId} {below : List Frame} {meth : Method} {c : Code} {b L : Nat} {xs : Nat → Int32} {D : va_G} {cI cZ cL : ClassId} {a a2 : Nat → Nat} {o : Nat} {Q : State → Prop} (hfl : l.stackTraces = false) (C0 : lw_At p s m meth c b L xs) (hL : L ≤ 2560) (hK : va_K D vwCl (ty3 cI cZ cL) s) (hEV : EV s) (hZ : SZ (fun q : Nat => s.heap.size ≤ q) s s.heap) {σ μ : St} {g : Nat → Int64} {i C9 S9 : Nat} (hi : i + 5 ≤ L) (hC9 : C9 + 1 ≤ 1098) (hS9 : S9 + 6 ≤ 8929) (hRR : RR σ μ) {H : Heap} {locs : List Loc} {ls : Array Slot} (hP : va_P D vwCl (wL cI cZ cL a o a2 (σ, g) μ) H) (hD : va_D (fun q : Nat => s.heap.size ≤ q) (wL cI cZ cL a o a2 (σ, g) μ)) (hS : va_S (fun q : Nat => s.heap.size ≤ q) s.heap H locs) (hl : lv_has ls 7 [(4, .int (nI i)), (0, .ref b), (1, .ref (a 0)), (2, .ref (a2 0)), (3, .ref o)]) (hk : ∀ (σ μ : St) (g : Nat → Int64) (H : Heap) (locs : List Loc) (ls : Array Slot), RR σ μ → va_P D vwCl (wL cI cZ cL a o a2 (σ, g) μ) H → va_D (fun q : Nat => s.heap.size ≤ q) (wL cI cZ cL a o a2 (σ, g) μ) → va_S (fun q : Nat => s.heap.size ≤ q) s.heap H locs → lv_has ls 7 [(4, .int (nI i)), (0, .ref b), (1, .ref (a 0)), (2, .ref (a2 0)), (3, .ref o)] → W p l e room_1 s m #[Value.ref b] below meth c H locs (C9 + 1) (S9 + 6) Q (F0 m 1556 ls [])) : W p l e room_1 s m #[Value.ref b] below meth c H locs C9 S9 Q (F0 m 224 ls []) := by
  obtain ⟨hx, hb, hr, hml, hown, hts0, hX, hbl, hlocks, hgv⟩ := C0
  have hts : ∀ w ∈ wsL_law, w.before #[Value.ref b] s = true := fun w h => hts0 w (wsL_law_in w h)
  have hA : ∀ q : Nat, s.heap.size ≤ q → (fun q : Nat => s.heap.size ≤ q) q := fun _ h => h
  have hbA : ¬ (fun q : Nat => s.heap.size ≤ q) b := Nat.not_le.mpr hbl
  have hv1 : vp_in (nI i + 1) L := by rw [show (1 : Int32) = nI 1 from rfl, nI_add]; exact vp_in_nI (by omega) (by omega)
  have hv2 : vp_in (nI i + 2) L := by rw [show (2 : Int32) = nI 2 from rfl, nI_add]; exact vp_in_nI (by omega) (by omega)
  have hv3 : vp_in (nI i + 3) L := by rw [show (3 : Int32) = nI 3 from rfl, nI_add]; exact vp_in_nI (by omega) (by omega)
  have hv4 : vp_in (nI i + 4) L := by rw [show (4 : Int32) = nI 4 from rfl, nI_add]; exact vp_in_nI (by omega) (by omega)
  obtain ⟨n, nb, nw, T, Z, J, h⟩ := hRR
  refine lv_aload_n hx hb dL_law_224 rfl (lv_at hl 2 rfl) ?_
  refine lv_aload_n hx hb dL_law_225 rfl (lv_at hl 1 rfl) ?_
  refine lv_iload hx hb dL_law_226 (lv_at hl 0 rfl) ?_
  refine lv_iconst (v := 1) hx hb dL_law_228 (by decide) ?_
  refine lv_iadd hx hb dL_law_229 ?_
  refine va_sld hx hb hX hbl hbA hS hv1 dL_law_230 ?_
  refine lv_aload_n hx hb dL_law_231 rfl (lv_at hl 1 rfl) ?_
  refine lv_iload hx hb dL_law_232 (lv_at hl 0 rfl) ?_
  refine lv_iconst (v := 2) hx hb dL_law_234 (by decide) ?_
  refine lv_iadd hx hb dL_law_235 ?_
  refine va_sld hx hb hX hbl hbA hS hv2 dL_law_236 ?_
  refine lv_if_eq (tgt := 244) hx hb dL_law_237 (by decide) (fun c_237 => ?_) (fun c_237 => ?_)
  · skip
    refine lv_iconst (v := 0) hx hb dL_law_244 (by decide) ?_
    refine lv_aload_n hx hb dL_law_245 rfl (lv_at hl 4 rfl) ?_
    refine LC_callH (As := [.ref (a 0), .int (xs (nI i + 1).toNatClampNeg), .int 0, .ref o]) (rest := []) ⟨hx, hb, hml, hown, hts⟩ (h_hold l D cI cZ cL a o H.size σ g (xs (nI i + 1).toNatClampNeg) 0 (cdTr n (xs (nI i + 1).toNatClampNeg)) _ (fun sz => c_X5_hold l D cI cZ a sz σ hfl (xs (nI i + 1).toNatClampNeg) 0 (Or.inl rfl) n h.xn h.n4)) (vx_cwSW 4 hts gL_law_L_hold rfl rfl rfl (by decide +kernel) ⟨Nat.le_of_ble_eq_true rfl, Nat.le_of_ble_eq_true rfl⟩) hP hK hD hS hA hEV hZ rfl hl.1 (Nat.le_of_ble_eq_true rfl) hC9 hS9 dL_law_246 rfl (fun k9 x9 H locs hx9 hP hD hS => ?_)
    refine lv_istore (lv' := [(5, .int k9), (4, .int (nI i)), (0, .ref b), (1, .ref (a 0)), (2, .ref (a2 0)), (3, .ref o)]) hx hb dL_law_249 hl (by decide) rfl (fun ls hl => ?_)
    refine lv_aload_n hx hb dL_law_251 rfl (lv_at hl 4 rfl) ?_
    refine lv_aload_n hx hb dL_law_252 rfl (lv_at hl 2 rfl) ?_
    refine lv_iload hx hb dL_law_253 (lv_at hl 1 rfl) ?_
    refine lv_iconst (v := 1) hx hb dL_law_255 (by decide) ?_
    refine lv_iadd hx hb dL_law_256 ?_
    refine va_sld hx hb hX hbl hbA hS hv1 dL_law_257 ?_
    refine lv_aload_n hx hb dL_law_258 rfl (lv_at hl 2 rfl) ?_
    refine lv_iload hx hb dL_law_259 (lv_at hl 1 rfl) ?_
    refine lv_iconst (v := 2) hx hb dL_law_261 (by decide) ?_
    refine lv_iadd hx hb dL_law_262 ?_
    refine va_sld hx hb hX hbl hbA hS hv2 dL_law_263 ?_
    refine lv_if_eq (tgt := 271) hx hb dL_law_264 (by decide) (fun _ => ?_) (fun c9 => absurd c_237 c9)
    refine lv_iconst (v := 0) hx hb dL_law_271 (by decide) ?_
    refine LC_callM (As := [.int (xs (nI i + 1).toNatClampNeg), .int 0]) (rest := []) ⟨hx, hb, hml, hown, hts⟩ (c_X6_hold l D cI cZ a2 H.size μ (xs (nI i + 1).toNatClampNeg) 0 (Or.inl rfl) n h.yn h.n4) (cwV 2 hts gL_law_X6_hold rfl rfl rfl (by decide +kernel) ⟨Nat.le_of_ble_eq_true rfl, Nat.le_of_ble_eq_true rfl⟩) hP hK hD hS hA (va_recv hK hP (ci := 6) (q0 := 28) rfl rfl) rfl hl.1 (Nat.le_of_ble_eq_true rfl) (by show C9 + 1 ≤ 1098; omega) (by show S9 + 6 ≤ 8929; omega) dL_law_272 rfl (fun r9 w9 H locs hm9 hP hD hS => ?_)
    have hres := op_gen (g := g) (x := x9) (k := k9) (r2 := r9) (u2 := w9) (P := fun r u => u = (va_up σ 6 (upd (σ 6) (xs (nI i + 1).toNatClampNeg).toNatClampNeg 0)) ∧ r = bI (¬ σ 6 (xs (nI i + 1).toNatClampNeg).toNatClampNeg = 0)) (P2 := fun r u => u = (va_up (va_up μ 6 (upd (μ 6) (xs (nI i + 1).toNatClampNeg).toNatClampNeg 0)) 34 (fun _ => 0)) ∧ r = bI (¬ μ 6 (xs (nI i + 1).toNatClampNeg).toNatClampNeg = 0)) (F := fun v9 => if v9 = 0 then 0 else 1) ⟨n, nb, nw, T, Z, J, h⟩ rfl hx9 hm9 (fun h0 v9 u hp hp2 => op_hold h (Or.inl rfl) hp hp2)
    obtain ⟨hrr, hth, hans⟩ := hres
    refine lv_istore (lv' := [(6, .int r9), (5, .int k9), (4, .int (nI i)), (0, .ref b), (1, .ref (a 0)), (2, .ref (a2 0)), (3, .ref o)]) hx hb dL_law_275 hl (by decide) rfl (fun ls hl => ?_)
    refine lv_aload_n hx hb dL_law_277 rfl (lv_at hl 5 rfl) ?_
    refine LC_callM (As := []) (rest := []) ⟨hx, hb, hml, hown, hts⟩ (c_X6_thrown l D cI cZ a2 H.size w9) (cwV 0 hts gL_law_X6_thrown rfl rfl rfl (by decide +kernel) ⟨Nat.le_of_ble_eq_true rfl, Nat.le_of_ble_eq_true rfl⟩) hP hK hD hS hA (va_recv hK hP (ci := 6) (q0 := 28) rfl rfl) rfl hl.1 (Nat.le_of_ble_eq_true rfl) (by show C9 + 1 ≤ 1098; omega) (by show S9 + 6 ≤ 8929; omega) dL_law_278 rfl (fun r7 u7 H locs hp7 hP hD hS => ?_)
    obtain ⟨eu7, hp7⟩ := hp7
    rw [eu7] at hP hD
    refine lv_iload hx hb dL_law_281 (lv_at hl 1 rfl) ?_
    refine lv_icmp_eq (tgt := 288) hx hb dL_law_283 (by decide) (fun _ => ?_) (fun c9 => absurd (hp7.trans hth) c9)
    refine lv_iload hx hb dL_law_288 (lv_at hl 1 rfl) ?_
    refine lv_if_ne (tgt := 312) hx hb dL_law_290 (by decide) (fun c_290 => ?_) (fun c_290 => ?_)
    · skip
      refine lv_goto (tgt := 1556) hx hb dL_law_312 (by decide) ?_
      exact hk _ _ _ _ _ ls hrr hP hD hS (lv_sub hl [2, 3, 4, 5, 6] rfl)
    · skip
      refine lv_aload_n hx hb dL_law_293 rfl (lv_at hl 6 rfl) ?_
      refine lv_iconst (v := 0) hx hb dL_law_294 (by decide) ?_
      refine va_lald hx hb hK hP 0 2 rfl rfl (show vp_in 0 1 by unfold vp_in; decide) dL_law_295 ?_
      refine lv_iload hx hb dL_law_296 (lv_at hl 0 rfl) ?_
      refine lv_if_eq (tgt := 305) hx hb dL_law_298 (by decide) (fun c_298 => ?_) (fun c_298 => ?_)
      · skip
        refine lv_lconst (v := 0) hx hb dL_law_305 (by decide) ?_
        have hcm : x9.2 (0 : Int32).toNatClampNeg = 0 := (hans c_290).trans (if_pos c_298)
        refine lcmp_eq hx hb dL_law_306 hcm ?_
        refine lv_if_eq (tgt := 312) hx hb dL_law_307 (by decide) (fun _ => ?_) (fun c9 => absurd rfl c9)
        refine lv_goto (tgt := 1556) hx hb dL_law_312 (by decide) ?_
        exact hk _ _ _ _ _ ls hrr hP hD hS (lv_sub hl [2, 3, 4, 5, 6] rfl)
      · skip
        refine lv_lconst (v := 1) hx hb dL_law_301 (by decide) ?_
        refine lv_goto (tgt := 306) hx hb dL_law_302 (by decide) ?_
        have hcm : x9.2 (0 : Int32).toNatClampNeg = 1 := (hans c_290).trans (if_neg c_298)
        refine lcmp_eq hx hb dL_law_306 hcm ?_
        refine lv_if_eq (tgt := 312) hx hb dL_law_307 (by decide) (fun _ => ?_) (fun c9 => absurd rfl c9)
        refine lv_goto (tgt := 1556) hx hb dL_law_312 (by decide) ?_
        exact hk _ _ _ _ _ ls hrr hP hD hS (lv_sub hl [2, 3, 4, 5, 6] rfl)
  · skip
    refine lv_iconst (v := 1) hx hb dL_law_240 (by decide) ?_
    refine lv_goto (tgt := 245) hx hb dL_law_241 (by decide) ?_
    refine lv_aload_n hx hb dL_law_245 rfl (lv_at hl 4 rfl) ?_
    refine LC_callH (As := [.ref (a 0), .int (xs (nI i + 1).toNatClampNeg), .int 1, .ref o]) (rest := []) ⟨hx, hb, hml, hown, hts⟩ (h_hold l D cI cZ cL a o H.size σ g (xs (nI i + 1).toNatClampNeg) 1 (cdTr n (xs (nI i + 1).toNatClampNeg)) _ (fun sz => c_X5_hold l D cI cZ a sz σ hfl (xs (nI i + 1).toNatClampNeg) 1 (Or.inr rfl) n h.xn h.n4)) (vx_cwSW 4 hts gL_law_L_hold rfl rfl rfl (by decide +kernel) ⟨Nat.le_of_ble_eq_true rfl, Nat.le_of_ble_eq_true rfl⟩) hP hK hD hS hA hEV hZ rfl hl.1 (Nat.le_of_ble_eq_true rfl) hC9 hS9 dL_law_246 rfl (fun k9 x9 H locs hx9 hP hD hS => ?_)
    refine lv_istore (lv' := [(5, .int k9), (4, .int (nI i)), (0, .ref b), (1, .ref (a 0)), (2, .ref (a2 0)), (3, .ref o)]) hx hb dL_law_249 hl (by decide) rfl (fun ls hl => ?_)
    refine lv_aload_n hx hb dL_law_251 rfl (lv_at hl 4 rfl) ?_
    refine lv_aload_n hx hb dL_law_252 rfl (lv_at hl 2 rfl) ?_
    refine lv_iload hx hb dL_law_253 (lv_at hl 1 rfl) ?_
    refine lv_iconst (v := 1) hx hb dL_law_255 (by decide) ?_
    refine lv_iadd hx hb dL_law_256 ?_
    refine va_sld hx hb hX hbl hbA hS hv1 dL_law_257 ?_
    refine lv_aload_n hx hb dL_law_258 rfl (lv_at hl 2 rfl) ?_
    refine lv_iload hx hb dL_law_259 (lv_at hl 1 rfl) ?_
    refine lv_iconst (v := 2) hx hb dL_law_261 (by decide) ?_
    refine lv_iadd hx hb dL_law_262 ?_
    refine va_sld hx hb hX hbl hbA hS hv2 dL_law_263 ?_
    refine lv_if_eq (tgt := 271) hx hb dL_law_264 (by decide) (fun c9 => absurd c9 c_237) (fun _ => ?_)
    refine lv_iconst (v := 1) hx hb dL_law_267 (by decide) ?_
    refine lv_goto (tgt := 272) hx hb dL_law_268 (by decide) ?_
    refine LC_callM (As := [.int (xs (nI i + 1).toNatClampNeg), .int 1]) (rest := []) ⟨hx, hb, hml, hown, hts⟩ (c_X6_hold l D cI cZ a2 H.size μ (xs (nI i + 1).toNatClampNeg) 1 (Or.inr rfl) n h.yn h.n4) (cwV 2 hts gL_law_X6_hold rfl rfl rfl (by decide +kernel) ⟨Nat.le_of_ble_eq_true rfl, Nat.le_of_ble_eq_true rfl⟩) hP hK hD hS hA (va_recv hK hP (ci := 6) (q0 := 28) rfl rfl) rfl hl.1 (Nat.le_of_ble_eq_true rfl) (by show C9 + 1 ≤ 1098; omega) (by show S9 + 6 ≤ 8929; omega) dL_law_272 rfl (fun r9 w9 H locs hm9 hP hD hS => ?_)
    have hres := op_gen (g := g) (x := x9) (k := k9) (r2 := r9) (u2 := w9) (P := fun r u => u = (va_up σ 6 (upd (σ 6) (xs (nI i + 1).toNatClampNeg).toNatClampNeg 1)) ∧ r = bI (¬ σ 6 (xs (nI i + 1).toNatClampNeg).toNatClampNeg = 1)) (P2 := fun r u => u = (va_up (va_up μ 6 (upd (μ 6) (xs (nI i + 1).toNatClampNeg).toNatClampNeg 1)) 34 (fun _ => 0)) ∧ r = bI (¬ μ 6 (xs (nI i + 1).toNatClampNeg).toNatClampNeg = 1)) (F := fun v9 => if v9 = 0 then 0 else 1) ⟨n, nb, nw, T, Z, J, h⟩ rfl hx9 hm9 (fun h0 v9 u hp hp2 => op_hold h (Or.inr rfl) hp hp2)
    obtain ⟨hrr, hth, hans⟩ := hres
    refine lv_istore (lv' := [(6, .int r9), (5, .int k9), (4, .int (nI i)), (0, .ref b), (1, .ref (a 0)), (2, .ref (a2 0)), (3, .ref o)]) hx hb dL_law_275 hl (by decide) rfl (fun ls hl => ?_)
    refine lv_aload_n hx hb dL_law_277 rfl (lv_at hl 5 rfl) ?_
    refine LC_callM (As := []) (rest := []) ⟨hx, hb, hml, hown, hts⟩ (c_X6_thrown l D cI cZ a2 H.size w9) (cwV 0 hts gL_law_X6_thrown rfl rfl rfl (by decide +kernel) ⟨Nat.le_of_ble_eq_true rfl, Nat.le_of_ble_eq_true rfl⟩) hP hK hD hS hA (va_recv hK hP (ci := 6) (q0 := 28) rfl rfl) rfl hl.1 (Nat.le_of_ble_eq_true rfl) (by show C9 + 1 ≤ 1098; omega) (by show S9 + 6 ≤ 8929; omega) dL_law_278 rfl (fun r7 u7 H locs hp7 hP hD hS => ?_)
    obtain ⟨eu7, hp7⟩ := hp7
    rw [eu7] at hP hD
    refine lv_iload hx hb dL_law_281 (lv_at hl 1 rfl) ?_
    refine lv_icmp_eq (tgt := 288) hx hb dL_law_283 (by decide) (fun _ => ?_) (fun c9 => absurd (hp7.trans hth) c9)
    refine lv_iload hx hb dL_law_288 (lv_at hl 1 rfl) ?_
    refine lv_if_ne (tgt := 312) hx hb dL_law_290 (by decide) (fun c_290 => ?_) (fun c_290 => ?_)
    · skip
      refine lv_goto (tgt := 1556) hx hb dL_law_312 (by decide) ?_
      exact hk _ _ _ _ _ ls hrr hP hD hS (lv_sub hl [2, 3, 4, 5, 6] rfl)
    · skip
      refine lv_aload_n hx hb dL_law_293 rfl (lv_at hl 6 rfl) ?_
      refine lv_iconst (v := 0) hx hb dL_law_294 (by decide) ?_
      refine va_lald hx hb hK hP 0 2 rfl rfl (show vp_in 0 1 by unfold vp_in; decide) dL_law_295 ?_
      refine lv_iload hx hb dL_law_296 (lv_at hl 0 rfl) ?_
      refine lv_if_eq (tgt := 305) hx hb dL_law_298 (by decide) (fun c_298 => ?_) (fun c_298 => ?_)
      · skip
        refine lv_lconst (v := 0) hx hb dL_law_305 (by decide) ?_
        have hcm : x9.2 (0 : Int32).toNatClampNeg = 0 := (hans c_290).trans (if_pos c_298)
        refine lcmp_eq hx hb dL_law_306 hcm ?_
        refine lv_if_eq (tgt := 312) hx hb dL_law_307 (by decide) (fun _ => ?_) (fun c9 => absurd rfl c9)
        refine lv_goto (tgt := 1556) hx hb dL_law_312 (by decide) ?_
        exact hk _ _ _ _ _ ls hrr hP hD hS (lv_sub hl [2, 3, 4, 5, 6] rfl)
      · skip
        refine lv_lconst (v := 1) hx hb dL_law_301 (by decide) ?_
        refine lv_goto (tgt := 306) hx hb dL_law_302 (by decide) ?_
        have hcm : x9.2 (0 : Int32).toNatClampNeg = 1 := (hans c_290).trans (if_neg c_298)
        refine lcmp_eq hx hb dL_law_306 hcm ?_
        refine lv_if_eq (tgt := 312) hx hb dL_law_307 (by decide) (fun _ => ?_) (fun c9 => absurd rfl c9)
        refine lv_goto (tgt := 1556) hx hb dL_law_312 (by decide) ?_
        exact hk _ _ _ _ _ ls hrr hP hD hS (lv_sub hl [2, 3, 4, 5, 6] rfl)
set_option maxHeartbeats 4000000 in
set_option maxRecDepth 100000 in
theorem case_delay {p : Program} {l : Launch} {e : Env} {s : State} {m : MethodId} {below : List Frame} {meth : Method} {c : Code} {b L : Nat} {xs : Nat → Int32} {D : va_G} {cI cZ cL : ClassId} {a a2 : Nat → Nat} {o : Nat} {Q : State → Prop} (hfl : l.stackTraces = false) (C0 : lw_At p s m meth c b L xs) (hL : L ≤ 2560) (hK : va_K D vwCl (ty3 cI cZ cL) s) (hEV : EV s) (hZ : SZ (fun q : Nat => s.heap.size ≤ q) s s.heap) {σ μ : St} {g : Nat → Int64} {i C9 S9 : Nat} (hi : i + 5 ≤ L) (hC9 : C9 + 1 ≤ 1098) (hS9 : S9 + 6 ≤ 8929) (hRR : RR σ μ) {H : Heap} {locs : List Loc} {ls : Array Slot} (hP : va_P D vwCl (wL cI cZ cL a o a2 (σ, g) μ) H) (hD : va_D (fun q : Nat => s.heap.size ≤ q) (wL cI cZ cL a o a2 (σ, g) μ)) (hS : va_S (fun q : Nat => s.heap.size ≤ q) s.heap H locs) (hl : lv_has ls 7 [(4, .int (nI i)), (0, .ref b), (1, .ref (a 0)), (2, .ref (a2 0)), (3, .ref o)]) (hk : ∀ (σ μ : St) (g : Nat → Int64) (H : Heap) (locs : List Loc) (ls : Array Slot), RR σ μ → va_P D vwCl (wL cI cZ cL a o a2 (σ, g) μ) H → va_D (fun q : Nat => s.heap.size ≤ q) (wL cI cZ cL a o a2 (σ, g) μ) → va_S (fun q : Nat => s.heap.size ≤ q) s.heap H locs → lv_has ls 7 [(4, .int (nI i)), (0, .ref b), (1, .ref (a 0)), (2, .ref (a2 0)), (3, .ref o)] → W p l e room_1 s m #[Value.ref b] below meth c H locs (C9 + 1) (S9 + 6) Q (F0 m 1556 ls [])) : W p l e room_1 s m #[Value.ref b] below meth c H locs C9 S9 Q (F0 m 315 ls []) := by
  obtain ⟨hx, hb, hr, hml, hown, hts0, hX, hbl, hlocks, hgv⟩ := C0
  have hts : ∀ w ∈ wsL_law, w.before #[Value.ref b] s = true := fun w h => hts0 w (wsL_law_in w h)
  have hA : ∀ q : Nat, s.heap.size ≤ q → (fun q : Nat => s.heap.size ≤ q) q := fun _ h => h
  have hbA : ¬ (fun q : Nat => s.heap.size ≤ q) b := Nat.not_le.mpr hbl
  have hv1 : vp_in (nI i + 1) L := by rw [show (1 : Int32) = nI 1 from rfl, nI_add]; exact vp_in_nI (by omega) (by omega)
  have hv2 : vp_in (nI i + 2) L := by rw [show (2 : Int32) = nI 2 from rfl, nI_add]; exact vp_in_nI (by omega) (by omega)
  have hv3 : vp_in (nI i + 3) L := by rw [show (3 : Int32) = nI 3 from rfl, nI_add]; exact vp_in_nI (by omega) (by omega)
  have hv4 : vp_in (nI i + 4) L := by rw [show (4 : Int32) = nI 4 from rfl, nI_add]; exact vp_in_nI (by omega) (by omega)
  obtain ⟨n, nb, nw, T, Z, J, h⟩ := hRR
  refine lv_aload_n hx hb dL_law_315 rfl (lv_at hl 2 rfl) ?_
  refine lv_aload_n hx hb dL_law_316 rfl (lv_at hl 1 rfl) ?_
  refine lv_iload hx hb dL_law_317 (lv_at hl 0 rfl) ?_
  refine lv_iconst (v := 1) hx hb dL_law_319 (by decide) ?_
  refine lv_iadd hx hb dL_law_320 ?_
  refine va_sld hx hb hX hbl hbA hS hv1 dL_law_321 ?_
  refine lv_aload_n hx hb dL_law_322 rfl (lv_at hl 1 rfl) ?_
  refine lv_iload hx hb dL_law_323 (lv_at hl 0 rfl) ?_
  refine lv_iconst (v := 2) hx hb dL_law_325 (by decide) ?_
  refine lv_iadd hx hb dL_law_326 ?_
  refine va_sld hx hb hX hbl hbA hS hv2 dL_law_327 ?_
  refine lv_aload_n hx hb dL_law_328 rfl (lv_at hl 4 rfl) ?_
  refine LC_callH (As := [.ref (a 0), .int (xs (nI i + 1).toNatClampNeg), .int (xs (nI i + 2).toNatClampNeg), .ref o]) (rest := []) ⟨hx, hb, hml, hown, hts⟩ (h_delay l D cI cZ cL a o H.size σ g (xs (nI i + 1).toNatClampNeg) (xs (nI i + 2).toNatClampNeg) (cdDelay σ n (xs (nI i + 1).toNatClampNeg) (xs (nI i + 2).toNatClampNeg)) _ (fun sz => c_X5_delay l D cI cZ a sz σ hfl (xs (nI i + 1).toNatClampNeg) (xs (nI i + 2).toNatClampNeg) n h.xn h.n4)) (vx_cwSW 4 hts gL_law_L_delay rfl rfl rfl (by decide +kernel) ⟨Nat.le_of_ble_eq_true rfl, Nat.le_of_ble_eq_true rfl⟩) hP hK hD hS hA hEV hZ rfl hl.1 (Nat.le_of_ble_eq_true rfl) hC9 hS9 dL_law_329 rfl (fun k9 x9 H locs hx9 hP hD hS => ?_)
  refine lv_istore (lv' := [(5, .int k9), (4, .int (nI i)), (0, .ref b), (1, .ref (a 0)), (2, .ref (a2 0)), (3, .ref o)]) hx hb dL_law_332 hl (by decide) rfl (fun ls hl => ?_)
  refine lv_aload_n hx hb dL_law_334 rfl (lv_at hl 4 rfl) ?_
  refine lv_aload_n hx hb dL_law_335 rfl (lv_at hl 2 rfl) ?_
  refine lv_iload hx hb dL_law_336 (lv_at hl 1 rfl) ?_
  refine lv_iconst (v := 1) hx hb dL_law_338 (by decide) ?_
  refine lv_iadd hx hb dL_law_339 ?_
  refine va_sld hx hb hX hbl hbA hS hv1 dL_law_340 ?_
  refine lv_aload_n hx hb dL_law_341 rfl (lv_at hl 2 rfl) ?_
  refine lv_iload hx hb dL_law_342 (lv_at hl 1 rfl) ?_
  refine lv_iconst (v := 2) hx hb dL_law_344 (by decide) ?_
  refine lv_iadd hx hb dL_law_345 ?_
  refine va_sld hx hb hX hbl hbA hS hv2 dL_law_346 ?_
  refine LC_callM (As := [.int (xs (nI i + 1).toNatClampNeg), .int (xs (nI i + 2).toNatClampNeg)]) (rest := []) ⟨hx, hb, hml, hown, hts⟩ (c_X6_delay l D cI cZ a2 H.size μ (xs (nI i + 1).toNatClampNeg) (xs (nI i + 2).toNatClampNeg) n h.yn h.n4) (cwV 2 hts gL_law_X6_delay rfl rfl rfl (by decide +kernel) ⟨Nat.le_of_ble_eq_true rfl, Nat.le_of_ble_eq_true rfl⟩) hP hK hD hS hA (va_recv hK hP (ci := 6) (q0 := 28) rfl rfl) rfl hl.1 (Nat.le_of_ble_eq_true rfl) (by show C9 + 1 ≤ 1098; omega) (by show S9 + 6 ≤ 8929; omega) dL_law_347 rfl (fun r9 w9 H locs hm9 hP hD hS => ?_)
  have hres := op_gen (g := g) (x := x9) (k := k9) (r2 := r9) (u2 := w9) (P := fun r u => u = (va_up σ 7 (upd (σ 7) (xs (nI i + 1).toNatClampNeg).toNatClampNeg (σ 7 (xs (nI i + 1).toNatClampNeg).toNatClampNeg + (xs (nI i + 2).toNatClampNeg)))) ∧ r = σ 7 (xs (nI i + 1).toNatClampNeg).toNatClampNeg + (xs (nI i + 2).toNatClampNeg)) (P2 := fun r u => u = (va_up (va_up μ 7 (upd (μ 7) (xs (nI i + 1).toNatClampNeg).toNatClampNeg (μ 7 (xs (nI i + 1).toNatClampNeg).toNatClampNeg + (xs (nI i + 2).toNatClampNeg)))) 34 (fun _ => 0)) ∧ r = μ 7 (xs (nI i + 1).toNatClampNeg).toNatClampNeg + (xs (nI i + 2).toNatClampNeg)) (F := fun v9 => v9.toInt64) ⟨n, nb, nw, T, Z, J, h⟩ (cdDelay_e h _ _) hx9 hm9 (fun h0 v9 u hp hp2 => op_delay h hp hp2)
  obtain ⟨hrr, hth, hans⟩ := hres
  refine lv_istore (lv' := [(6, .int r9), (5, .int k9), (4, .int (nI i)), (0, .ref b), (1, .ref (a 0)), (2, .ref (a2 0)), (3, .ref o)]) hx hb dL_law_350 hl (by decide) rfl (fun ls hl => ?_)
  refine lv_aload_n hx hb dL_law_352 rfl (lv_at hl 5 rfl) ?_
  refine LC_callM (As := []) (rest := []) ⟨hx, hb, hml, hown, hts⟩ (c_X6_thrown l D cI cZ a2 H.size w9) (cwV 0 hts gL_law_X6_thrown rfl rfl rfl (by decide +kernel) ⟨Nat.le_of_ble_eq_true rfl, Nat.le_of_ble_eq_true rfl⟩) hP hK hD hS hA (va_recv hK hP (ci := 6) (q0 := 28) rfl rfl) rfl hl.1 (Nat.le_of_ble_eq_true rfl) (by show C9 + 1 ≤ 1098; omega) (by show S9 + 6 ≤ 8929; omega) dL_law_353 rfl (fun r7 u7 H locs hp7 hP hD hS => ?_)
  obtain ⟨eu7, hp7⟩ := hp7
  rw [eu7] at hP hD
  refine lv_iload hx hb dL_law_356 (lv_at hl 1 rfl) ?_
  refine lv_icmp_eq (tgt := 363) hx hb dL_law_358 (by decide) (fun _ => ?_) (fun c9 => absurd (hp7.trans hth) c9)
  refine lv_iload hx hb dL_law_363 (lv_at hl 1 rfl) ?_
  refine lv_if_ne (tgt := 380) hx hb dL_law_365 (by decide) (fun c_365 => ?_) (fun c_365 => ?_)
  · skip
    refine lv_goto (tgt := 1556) hx hb dL_law_380 (by decide) ?_
    exact hk _ _ _ _ _ ls hrr hP hD hS (lv_sub hl [2, 3, 4, 5, 6] rfl)
  · skip
    refine lv_aload_n hx hb dL_law_368 rfl (lv_at hl 6 rfl) ?_
    refine lv_iconst (v := 0) hx hb dL_law_369 (by decide) ?_
    refine va_lald hx hb hK hP 0 2 rfl rfl (show vp_in 0 1 by unfold vp_in; decide) dL_law_370 ?_
    refine lv_iload hx hb dL_law_371 (lv_at hl 0 rfl) ?_
    refine lv_i2l (v := r9.toInt64) hx hb dL_law_373 rfl ?_
    have hcm : x9.2 (0 : Int32).toNatClampNeg = r9.toInt64 := hans c_365
    refine lcmp_eq hx hb dL_law_374 hcm ?_
    refine lv_if_eq (tgt := 380) hx hb dL_law_375 (by decide) (fun _ => ?_) (fun c9 => absurd rfl c9)
    refine lv_goto (tgt := 1556) hx hb dL_law_380 (by decide) ?_
    exact hk _ _ _ _ _ ls hrr hP hD hS (lv_sub hl [2, 3, 4, 5, 6] rfl)
set_option maxHeartbeats 4000000 in
set_option maxRecDepth 100000 in
theorem case_reverse {p : Program} {l : Launch} {e : Env} {s : State} {m : MethodId} {below : List Frame} {meth : Method} {c : Code} {b L : Nat} {xs : Nat → Int32} {D : va_G} {cI cZ cL : ClassId} {a a2 : Nat → Nat} {o : Nat} {Q : State → Prop} (hfl : l.stackTraces = false) (C0 : lw_At p s m meth c b L xs) (hL : L ≤ 2560) (hK : va_K D vwCl (ty3 cI cZ cL) s) (hEV : EV s) (hZ : SZ (fun q : Nat => s.heap.size ≤ q) s s.heap) {σ μ : St} {g : Nat → Int64} {i C9 S9 : Nat} (hi : i + 5 ≤ L) (hC9 : C9 + 1 ≤ 1098) (hS9 : S9 + 6 ≤ 8929) (hRR : RR σ μ) {H : Heap} {locs : List Loc} {ls : Array Slot} (hP : va_P D vwCl (wL cI cZ cL a o a2 (σ, g) μ) H) (hD : va_D (fun q : Nat => s.heap.size ≤ q) (wL cI cZ cL a o a2 (σ, g) μ)) (hS : va_S (fun q : Nat => s.heap.size ≤ q) s.heap H locs) (hl : lv_has ls 7 [(4, .int (nI i)), (0, .ref b), (1, .ref (a 0)), (2, .ref (a2 0)), (3, .ref o)]) (hk : ∀ (σ μ : St) (g : Nat → Int64) (H : Heap) (locs : List Loc) (ls : Array Slot), RR σ μ → va_P D vwCl (wL cI cZ cL a o a2 (σ, g) μ) H → va_D (fun q : Nat => s.heap.size ≤ q) (wL cI cZ cL a o a2 (σ, g) μ) → va_S (fun q : Nat => s.heap.size ≤ q) s.heap H locs → lv_has ls 7 [(4, .int (nI i)), (0, .ref b), (1, .ref (a 0)), (2, .ref (a2 0)), (3, .ref o)] → W p l e room_1 s m #[Value.ref b] below meth c H locs (C9 + 1) (S9 + 6) Q (F0 m 1556 ls [])) : W p l e room_1 s m #[Value.ref b] below meth c H locs C9 S9 Q (F0 m 383 ls []) := by
  obtain ⟨hx, hb, hr, hml, hown, hts0, hX, hbl, hlocks, hgv⟩ := C0
  have hts : ∀ w ∈ wsL_law, w.before #[Value.ref b] s = true := fun w h => hts0 w (wsL_law_in w h)
  have hA : ∀ q : Nat, s.heap.size ≤ q → (fun q : Nat => s.heap.size ≤ q) q := fun _ h => h
  have hbA : ¬ (fun q : Nat => s.heap.size ≤ q) b := Nat.not_le.mpr hbl
  have hv1 : vp_in (nI i + 1) L := by rw [show (1 : Int32) = nI 1 from rfl, nI_add]; exact vp_in_nI (by omega) (by omega)
  have hv2 : vp_in (nI i + 2) L := by rw [show (2 : Int32) = nI 2 from rfl, nI_add]; exact vp_in_nI (by omega) (by omega)
  have hv3 : vp_in (nI i + 3) L := by rw [show (3 : Int32) = nI 3 from rfl, nI_add]; exact vp_in_nI (by omega) (by omega)
  have hv4 : vp_in (nI i + 4) L := by rw [show (4 : Int32) = nI 4 from rfl, nI_add]; exact vp_in_nI (by omega) (by omega)
  obtain ⟨n, nb, nw, T, Z, J, h⟩ := hRR
  refine lv_aload_n hx hb dL_law_383 rfl (lv_at hl 2 rfl) ?_
  refine lv_aload_n hx hb dL_law_384 rfl (lv_at hl 1 rfl) ?_
  refine lv_iload hx hb dL_law_385 (lv_at hl 0 rfl) ?_
  refine lv_iconst (v := 1) hx hb dL_law_387 (by decide) ?_
  refine lv_iadd hx hb dL_law_388 ?_
  refine va_sld hx hb hX hbl hbA hS hv1 dL_law_389 ?_
  refine lv_aload_n hx hb dL_law_390 rfl (lv_at hl 4 rfl) ?_
  refine LC_callH (As := [.ref (a 0), .int (xs (nI i + 1).toNatClampNeg), .ref o]) (rest := []) ⟨hx, hb, hml, hown, hts⟩ (h_reverse l D cI cZ cL a o H.size σ g (xs (nI i + 1).toNatClampNeg) (cdTr n (xs (nI i + 1).toNatClampNeg)) _ (fun sz => c_X5_reverse l D cI cZ a sz σ hfl (xs (nI i + 1).toNatClampNeg) n h.xn h.n4)) (vx_cwSW 3 hts gL_law_L_reverse rfl rfl rfl (by decide +kernel) ⟨Nat.le_of_ble_eq_true rfl, Nat.le_of_ble_eq_true rfl⟩) hP hK hD hS hA hEV hZ rfl hl.1 (Nat.le_of_ble_eq_true rfl) hC9 hS9 dL_law_391 rfl (fun k9 x9 H locs hx9 hP hD hS => ?_)
  refine lv_istore (lv' := [(5, .int k9), (4, .int (nI i)), (0, .ref b), (1, .ref (a 0)), (2, .ref (a2 0)), (3, .ref o)]) hx hb dL_law_394 hl (by decide) rfl (fun ls hl => ?_)
  refine lv_aload_n hx hb dL_law_396 rfl (lv_at hl 4 rfl) ?_
  refine lv_aload_n hx hb dL_law_397 rfl (lv_at hl 2 rfl) ?_
  refine lv_iload hx hb dL_law_398 (lv_at hl 1 rfl) ?_
  refine lv_iconst (v := 1) hx hb dL_law_400 (by decide) ?_
  refine lv_iadd hx hb dL_law_401 ?_
  refine va_sld hx hb hX hbl hbA hS hv1 dL_law_402 ?_
  refine LC_callM (As := [.int (xs (nI i + 1).toNatClampNeg)]) (rest := []) ⟨hx, hb, hml, hown, hts⟩ (c_X6_reverse l D cI cZ a2 H.size μ (xs (nI i + 1).toNatClampNeg) n h.yn h.n4) (cwV 1 hts gL_law_X6_reverse rfl rfl rfl (by decide +kernel) ⟨Nat.le_of_ble_eq_true rfl, Nat.le_of_ble_eq_true rfl⟩) hP hK hD hS hA (va_recv hK hP (ci := 6) (q0 := 28) rfl rfl) rfl hl.1 (Nat.le_of_ble_eq_true rfl) (by show C9 + 1 ≤ 1098; omega) (by show S9 + 6 ≤ 8929; omega) dL_law_403 rfl (fun r9 w9 H locs hm9 hP hD hS => ?_)
  have hres := op_gen (g := g) (x := x9) (k := k9) (r2 := r9) (u2 := w9) (P := fun r u => u = (va_up σ 5 (upd (σ 5) (xs (nI i + 1).toNatClampNeg).toNatClampNeg (fl (σ 5 (xs (nI i + 1).toNatClampNeg).toNatClampNeg)))) ∧ r = fl (σ 5 (xs (nI i + 1).toNatClampNeg).toNatClampNeg)) (P2 := fun r u => u = (va_up (va_up μ 5 (upd (μ 5) (xs (nI i + 1).toNatClampNeg).toNatClampNeg (fl (μ 5 (xs (nI i + 1).toNatClampNeg).toNatClampNeg)))) 34 (fun _ => 0)) ∧ r = fl (μ 5 (xs (nI i + 1).toNatClampNeg).toNatClampNeg)) (F := fun v9 => if v9 = 0 then 0 else 1) ⟨n, nb, nw, T, Z, J, h⟩ rfl hx9 hm9 (fun h0 v9 u hp hp2 => op_reverse h hp hp2)
  obtain ⟨hrr, hth, hans⟩ := hres
  refine lv_istore (lv' := [(6, .int r9), (5, .int k9), (4, .int (nI i)), (0, .ref b), (1, .ref (a 0)), (2, .ref (a2 0)), (3, .ref o)]) hx hb dL_law_406 hl (by decide) rfl (fun ls hl => ?_)
  refine lv_aload_n hx hb dL_law_408 rfl (lv_at hl 5 rfl) ?_
  refine LC_callM (As := []) (rest := []) ⟨hx, hb, hml, hown, hts⟩ (c_X6_thrown l D cI cZ a2 H.size w9) (cwV 0 hts gL_law_X6_thrown rfl rfl rfl (by decide +kernel) ⟨Nat.le_of_ble_eq_true rfl, Nat.le_of_ble_eq_true rfl⟩) hP hK hD hS hA (va_recv hK hP (ci := 6) (q0 := 28) rfl rfl) rfl hl.1 (Nat.le_of_ble_eq_true rfl) (by show C9 + 1 ≤ 1098; omega) (by show S9 + 6 ≤ 8929; omega) dL_law_409 rfl (fun r7 u7 H locs hp7 hP hD hS => ?_)
  obtain ⟨eu7, hp7⟩ := hp7
  rw [eu7] at hP hD
  refine lv_iload hx hb dL_law_412 (lv_at hl 1 rfl) ?_
  refine lv_icmp_eq (tgt := 419) hx hb dL_law_414 (by decide) (fun _ => ?_) (fun c9 => absurd (hp7.trans hth) c9)
  refine lv_iload hx hb dL_law_419 (lv_at hl 1 rfl) ?_
  refine lv_if_ne (tgt := 443) hx hb dL_law_421 (by decide) (fun c_421 => ?_) (fun c_421 => ?_)
  · skip
    refine lv_goto (tgt := 1556) hx hb dL_law_443 (by decide) ?_
    exact hk _ _ _ _ _ ls hrr hP hD hS (lv_sub hl [2, 3, 4, 5, 6] rfl)
  · skip
    refine lv_aload_n hx hb dL_law_424 rfl (lv_at hl 6 rfl) ?_
    refine lv_iconst (v := 0) hx hb dL_law_425 (by decide) ?_
    refine va_lald hx hb hK hP 0 2 rfl rfl (show vp_in 0 1 by unfold vp_in; decide) dL_law_426 ?_
    refine lv_iload hx hb dL_law_427 (lv_at hl 0 rfl) ?_
    refine lv_if_eq (tgt := 436) hx hb dL_law_429 (by decide) (fun c_429 => ?_) (fun c_429 => ?_)
    · skip
      refine lv_lconst (v := 0) hx hb dL_law_436 (by decide) ?_
      have hcm : x9.2 (0 : Int32).toNatClampNeg = 0 := (hans c_421).trans (if_pos c_429)
      refine lcmp_eq hx hb dL_law_437 hcm ?_
      refine lv_if_eq (tgt := 443) hx hb dL_law_438 (by decide) (fun _ => ?_) (fun c9 => absurd rfl c9)
      refine lv_goto (tgt := 1556) hx hb dL_law_443 (by decide) ?_
      exact hk _ _ _ _ _ ls hrr hP hD hS (lv_sub hl [2, 3, 4, 5, 6] rfl)
    · skip
      refine lv_lconst (v := 1) hx hb dL_law_432 (by decide) ?_
      refine lv_goto (tgt := 437) hx hb dL_law_433 (by decide) ?_
      have hcm : x9.2 (0 : Int32).toNatClampNeg = 1 := (hans c_421).trans (if_neg c_429)
      refine lcmp_eq hx hb dL_law_437 hcm ?_
      refine lv_if_eq (tgt := 443) hx hb dL_law_438 (by decide) (fun _ => ?_) (fun c9 => absurd rfl c9)
      refine lv_goto (tgt := 1556) hx hb dL_law_443 (by decide) ?_
      exact hk _ _ _ _ _ ls hrr hP hD hS (lv_sub hl [2, 3, 4, 5, 6] rfl)
set_option maxHeartbeats 4000000 in
set_option maxRecDepth 100000 in
theorem case_throwSwitch {p : Program} {l : Launch} {e : Env} {s : State} {m : MethodId} {below : List Frame} {meth : Method} {c : Code} {b L : Nat} {xs : Nat → Int32} {D : va_G} {cI cZ cL : ClassId} {a a2 : Nat → Nat} {o : Nat} {Q : State → Prop} (hfl : l.stackTraces = false) (C0 : lw_At p s m meth c b L xs) (hL : L ≤ 2560) (hK : va_K D vwCl (ty3 cI cZ cL) s) (hEV : EV s) (hZ : SZ (fun q : Nat => s.heap.size ≤ q) s s.heap) {σ μ : St} {g : Nat → Int64} {i C9 S9 : Nat} (hi : i + 5 ≤ L) (hC9 : C9 + 1 ≤ 1098) (hS9 : S9 + 6 ≤ 8929) (hRR : RR σ μ) {H : Heap} {locs : List Loc} {ls : Array Slot} (hP : va_P D vwCl (wL cI cZ cL a o a2 (σ, g) μ) H) (hD : va_D (fun q : Nat => s.heap.size ≤ q) (wL cI cZ cL a o a2 (σ, g) μ)) (hS : va_S (fun q : Nat => s.heap.size ≤ q) s.heap H locs) (hl : lv_has ls 7 [(4, .int (nI i)), (0, .ref b), (1, .ref (a 0)), (2, .ref (a2 0)), (3, .ref o)]) (hk : ∀ (σ μ : St) (g : Nat → Int64) (H : Heap) (locs : List Loc) (ls : Array Slot), RR σ μ → va_P D vwCl (wL cI cZ cL a o a2 (σ, g) μ) H → va_D (fun q : Nat => s.heap.size ≤ q) (wL cI cZ cL a o a2 (σ, g) μ) → va_S (fun q : Nat => s.heap.size ≤ q) s.heap H locs → lv_has ls 7 [(4, .int (nI i)), (0, .ref b), (1, .ref (a 0)), (2, .ref (a2 0)), (3, .ref o)] → W p l e room_1 s m #[Value.ref b] below meth c H locs (C9 + 1) (S9 + 6) Q (F0 m 1556 ls [])) : W p l e room_1 s m #[Value.ref b] below meth c H locs C9 S9 Q (F0 m 446 ls []) := by
  obtain ⟨hx, hb, hr, hml, hown, hts0, hX, hbl, hlocks, hgv⟩ := C0
  have hts : ∀ w ∈ wsL_law, w.before #[Value.ref b] s = true := fun w h => hts0 w (wsL_law_in w h)
  have hA : ∀ q : Nat, s.heap.size ≤ q → (fun q : Nat => s.heap.size ≤ q) q := fun _ h => h
  have hbA : ¬ (fun q : Nat => s.heap.size ≤ q) b := Nat.not_le.mpr hbl
  have hv1 : vp_in (nI i + 1) L := by rw [show (1 : Int32) = nI 1 from rfl, nI_add]; exact vp_in_nI (by omega) (by omega)
  have hv2 : vp_in (nI i + 2) L := by rw [show (2 : Int32) = nI 2 from rfl, nI_add]; exact vp_in_nI (by omega) (by omega)
  have hv3 : vp_in (nI i + 3) L := by rw [show (3 : Int32) = nI 3 from rfl, nI_add]; exact vp_in_nI (by omega) (by omega)
  have hv4 : vp_in (nI i + 4) L := by rw [show (4 : Int32) = nI 4 from rfl, nI_add]; exact vp_in_nI (by omega) (by omega)
  obtain ⟨n, nb, nw, T, Z, J, h⟩ := hRR
  refine lv_aload_n hx hb dL_law_446 rfl (lv_at hl 2 rfl) ?_
  refine lv_aload_n hx hb dL_law_447 rfl (lv_at hl 1 rfl) ?_
  refine lv_iload hx hb dL_law_448 (lv_at hl 0 rfl) ?_
  refine lv_iconst (v := 1) hx hb dL_law_450 (by decide) ?_
  refine lv_iadd hx hb dL_law_451 ?_
  refine va_sld hx hb hX hbl hbA hS hv1 dL_law_452 ?_
  refine lv_aload_n hx hb dL_law_453 rfl (lv_at hl 4 rfl) ?_
  refine LC_callH (As := [.ref (a 0), .int (xs (nI i + 1).toNatClampNeg), .ref o]) (rest := []) ⟨hx, hb, hml, hown, hts⟩ (h_throwSwitch l D cI cZ cL a o H.size σ g (xs (nI i + 1).toNatClampNeg) (cdSw (xs (nI i + 1).toNatClampNeg)) _ (fun sz => c_X5_throwSwitch l D cI cZ a sz σ hfl (xs (nI i + 1).toNatClampNeg))) (vx_cwSW 3 hts gL_law_L_throwSwitch rfl rfl rfl (by decide +kernel) ⟨Nat.le_of_ble_eq_true rfl, Nat.le_of_ble_eq_true rfl⟩) hP hK hD hS hA hEV hZ rfl hl.1 (Nat.le_of_ble_eq_true rfl) hC9 hS9 dL_law_454 rfl (fun k9 x9 H locs hx9 hP hD hS => ?_)
  refine lv_istore (lv' := [(5, .int k9), (4, .int (nI i)), (0, .ref b), (1, .ref (a 0)), (2, .ref (a2 0)), (3, .ref o)]) hx hb dL_law_457 hl (by decide) rfl (fun ls hl => ?_)
  refine lv_aload_n hx hb dL_law_459 rfl (lv_at hl 4 rfl) ?_
  refine lv_aload_n hx hb dL_law_460 rfl (lv_at hl 2 rfl) ?_
  refine lv_iload hx hb dL_law_461 (lv_at hl 1 rfl) ?_
  refine lv_iconst (v := 1) hx hb dL_law_463 (by decide) ?_
  refine lv_iadd hx hb dL_law_464 ?_
  refine va_sld hx hb hX hbl hbA hS hv1 dL_law_465 ?_
  refine LC_callM (As := [.int (xs (nI i + 1).toNatClampNeg)]) (rest := []) ⟨hx, hb, hml, hown, hts⟩ (c_X6_throwSwitch l D cI cZ a2 H.size μ (xs (nI i + 1).toNatClampNeg)) (cwV 1 hts gL_law_X6_throwSwitch rfl rfl rfl (by decide +kernel) ⟨Nat.le_of_ble_eq_true rfl, Nat.le_of_ble_eq_true rfl⟩) hP hK hD hS hA (va_recv hK hP (ci := 6) (q0 := 28) rfl rfl) rfl hl.1 (Nat.le_of_ble_eq_true rfl) (by show C9 + 1 ≤ 1098; omega) (by show S9 + 6 ≤ 8929; omega) dL_law_466 rfl (fun r9 w9 H locs hm9 hP hD hS => ?_)
  have hres := op_gen (g := g) (x := x9) (k := k9) (r2 := r9) (u2 := w9) (P := fun r u => u = (va_up σ 2 (upd (σ 2) (xs (nI i + 1).toNatClampNeg).toNatClampNeg (fl (σ 2 (xs (nI i + 1).toNatClampNeg).toNatClampNeg)))) ∧ r = fl (σ 2 (xs (nI i + 1).toNatClampNeg).toNatClampNeg)) (P2 := fun r u => u = (va_up (va_up μ 2 (upd (μ 2) (xs (nI i + 1).toNatClampNeg).toNatClampNeg (fl (μ 2 (xs (nI i + 1).toNatClampNeg).toNatClampNeg)))) 34 (fun _ => 0)) ∧ r = fl (μ 2 (xs (nI i + 1).toNatClampNeg).toNatClampNeg)) (F := fun v9 => if v9 = 0 then 0 else 1) ⟨n, nb, nw, T, Z, J, h⟩ rfl hx9 hm9 (fun h0 v9 u hp hp2 => op_throwSwitch h hp hp2)
  obtain ⟨hrr, hth, hans⟩ := hres
  refine lv_istore (lv' := [(6, .int r9), (5, .int k9), (4, .int (nI i)), (0, .ref b), (1, .ref (a 0)), (2, .ref (a2 0)), (3, .ref o)]) hx hb dL_law_469 hl (by decide) rfl (fun ls hl => ?_)
  refine lv_aload_n hx hb dL_law_471 rfl (lv_at hl 5 rfl) ?_
  refine LC_callM (As := []) (rest := []) ⟨hx, hb, hml, hown, hts⟩ (c_X6_thrown l D cI cZ a2 H.size w9) (cwV 0 hts gL_law_X6_thrown rfl rfl rfl (by decide +kernel) ⟨Nat.le_of_ble_eq_true rfl, Nat.le_of_ble_eq_true rfl⟩) hP hK hD hS hA (va_recv hK hP (ci := 6) (q0 := 28) rfl rfl) rfl hl.1 (Nat.le_of_ble_eq_true rfl) (by show C9 + 1 ≤ 1098; omega) (by show S9 + 6 ≤ 8929; omega) dL_law_472 rfl (fun r7 u7 H locs hp7 hP hD hS => ?_)
  obtain ⟨eu7, hp7⟩ := hp7
  rw [eu7] at hP hD
  refine lv_iload hx hb dL_law_475 (lv_at hl 1 rfl) ?_
  refine lv_icmp_eq (tgt := 482) hx hb dL_law_477 (by decide) (fun _ => ?_) (fun c9 => absurd (hp7.trans hth) c9)
  refine lv_iload hx hb dL_law_482 (lv_at hl 1 rfl) ?_
  refine lv_if_ne (tgt := 506) hx hb dL_law_484 (by decide) (fun c_484 => ?_) (fun c_484 => ?_)
  · skip
    refine lv_goto (tgt := 1556) hx hb dL_law_506 (by decide) ?_
    exact hk _ _ _ _ _ ls hrr hP hD hS (lv_sub hl [2, 3, 4, 5, 6] rfl)
  · skip
    refine lv_aload_n hx hb dL_law_487 rfl (lv_at hl 6 rfl) ?_
    refine lv_iconst (v := 0) hx hb dL_law_488 (by decide) ?_
    refine va_lald hx hb hK hP 0 2 rfl rfl (show vp_in 0 1 by unfold vp_in; decide) dL_law_489 ?_
    refine lv_iload hx hb dL_law_490 (lv_at hl 0 rfl) ?_
    refine lv_if_eq (tgt := 499) hx hb dL_law_492 (by decide) (fun c_492 => ?_) (fun c_492 => ?_)
    · skip
      refine lv_lconst (v := 0) hx hb dL_law_499 (by decide) ?_
      have hcm : x9.2 (0 : Int32).toNatClampNeg = 0 := (hans c_484).trans (if_pos c_492)
      refine lcmp_eq hx hb dL_law_500 hcm ?_
      refine lv_if_eq (tgt := 506) hx hb dL_law_501 (by decide) (fun _ => ?_) (fun c9 => absurd rfl c9)
      refine lv_goto (tgt := 1556) hx hb dL_law_506 (by decide) ?_
      exact hk _ _ _ _ _ ls hrr hP hD hS (lv_sub hl [2, 3, 4, 5, 6] rfl)
    · skip
      refine lv_lconst (v := 1) hx hb dL_law_495 (by decide) ?_
      refine lv_goto (tgt := 500) hx hb dL_law_496 (by decide) ?_
      have hcm : x9.2 (0 : Int32).toNatClampNeg = 1 := (hans c_484).trans (if_neg c_492)
      refine lcmp_eq hx hb dL_law_500 hcm ?_
      refine lv_if_eq (tgt := 506) hx hb dL_law_501 (by decide) (fun _ => ?_) (fun c9 => absurd rfl c9)
      refine lv_goto (tgt := 1556) hx hb dL_law_506 (by decide) ?_
      exact hk _ _ _ _ _ ls hrr hP hD hS (lv_sub hl [2, 3, 4, 5, 6] rfl)
set_option maxHeartbeats 4000000 in
set_option maxRecDepth 100000 in
theorem case_block {p : Program} {l : Launch} {e : Env} {s : State} {m : MethodId} {below : List Frame} {meth : Method} {c : Code} {b L : Nat} {xs : Nat → Int32} {D : va_G} {cI cZ cL : ClassId} {a a2 : Nat → Nat} {o : Nat} {Q : State → Prop} (hfl : l.stackTraces = false) (C0 : lw_At p s m meth c b L xs) (hL : L ≤ 2560) (hK : va_K D vwCl (ty3 cI cZ cL) s) (hEV : EV s) (hZ : SZ (fun q : Nat => s.heap.size ≤ q) s s.heap) {σ μ : St} {g : Nat → Int64} {i C9 S9 : Nat} (hi : i + 5 ≤ L) (hC9 : C9 + 1 ≤ 1098) (hS9 : S9 + 6 ≤ 8929) (hRR : RR σ μ) {H : Heap} {locs : List Loc} {ls : Array Slot} (hP : va_P D vwCl (wL cI cZ cL a o a2 (σ, g) μ) H) (hD : va_D (fun q : Nat => s.heap.size ≤ q) (wL cI cZ cL a o a2 (σ, g) μ)) (hS : va_S (fun q : Nat => s.heap.size ≤ q) s.heap H locs) (hl : lv_has ls 7 [(4, .int (nI i)), (0, .ref b), (1, .ref (a 0)), (2, .ref (a2 0)), (3, .ref o)]) (hk : ∀ (σ μ : St) (g : Nat → Int64) (H : Heap) (locs : List Loc) (ls : Array Slot), RR σ μ → va_P D vwCl (wL cI cZ cL a o a2 (σ, g) μ) H → va_D (fun q : Nat => s.heap.size ≤ q) (wL cI cZ cL a o a2 (σ, g) μ) → va_S (fun q : Nat => s.heap.size ≤ q) s.heap H locs → lv_has ls 7 [(4, .int (nI i)), (0, .ref b), (1, .ref (a 0)), (2, .ref (a2 0)), (3, .ref o)] → W p l e room_1 s m #[Value.ref b] below meth c H locs (C9 + 1) (S9 + 6) Q (F0 m 1556 ls [])) : W p l e room_1 s m #[Value.ref b] below meth c H locs C9 S9 Q (F0 m 509 ls []) := by
  obtain ⟨hx, hb, hr, hml, hown, hts0, hX, hbl, hlocks, hgv⟩ := C0
  have hts : ∀ w ∈ wsL_law, w.before #[Value.ref b] s = true := fun w h => hts0 w (wsL_law_in w h)
  have hA : ∀ q : Nat, s.heap.size ≤ q → (fun q : Nat => s.heap.size ≤ q) q := fun _ h => h
  have hbA : ¬ (fun q : Nat => s.heap.size ≤ q) b := Nat.not_le.mpr hbl
  have hv1 : vp_in (nI i + 1) L := by rw [show (1 : Int32) = nI 1 from rfl, nI_add]; exact vp_in_nI (by omega) (by omega)
  have hv2 : vp_in (nI i + 2) L := by rw [show (2 : Int32) = nI 2 from rfl, nI_add]; exact vp_in_nI (by omega) (by omega)
  have hv3 : vp_in (nI i + 3) L := by rw [show (3 : Int32) = nI 3 from rfl, nI_add]; exact vp_in_nI (by omega) (by omega)
  have hv4 : vp_in (nI i + 4) L := by rw [show (4 : Int32) = nI 4 from rfl, nI_add]; exact vp_in_nI (by omega) (by omega)
  obtain ⟨n, nb, nw, T, Z, J, h⟩ := hRR
  refine lv_aload_n hx hb dL_law_509 rfl (lv_at hl 2 rfl) ?_
  refine lv_aload_n hx hb dL_law_510 rfl (lv_at hl 1 rfl) ?_
  refine lv_iload hx hb dL_law_511 (lv_at hl 0 rfl) ?_
  refine lv_iconst (v := 1) hx hb dL_law_513 (by decide) ?_
  refine lv_iadd hx hb dL_law_514 ?_
  refine va_sld hx hb hX hbl hbA hS hv1 dL_law_515 ?_
  refine lv_aload_n hx hb dL_law_516 rfl (lv_at hl 4 rfl) ?_
  refine LC_callH (As := [.ref (a 0), .int (xs (nI i + 1).toNatClampNeg), .ref o]) (rest := []) ⟨hx, hb, hml, hown, hts⟩ (h_block l D cI cZ cL a o H.size σ g (xs (nI i + 1).toNatClampNeg) (cdTr n (xs (nI i + 1).toNatClampNeg)) _ (fun sz => c_X5_block l D cI cZ a sz σ hfl (xs (nI i + 1).toNatClampNeg) n h.xn h.n4)) (vx_cwSW 3 hts gL_law_L_block rfl rfl rfl (by decide +kernel) ⟨Nat.le_of_ble_eq_true rfl, Nat.le_of_ble_eq_true rfl⟩) hP hK hD hS hA hEV hZ rfl hl.1 (Nat.le_of_ble_eq_true rfl) hC9 hS9 dL_law_517 rfl (fun k9 x9 H locs hx9 hP hD hS => ?_)
  refine lv_istore (lv' := [(5, .int k9), (4, .int (nI i)), (0, .ref b), (1, .ref (a 0)), (2, .ref (a2 0)), (3, .ref o)]) hx hb dL_law_520 hl (by decide) rfl (fun ls hl => ?_)
  refine lv_aload_n hx hb dL_law_522 rfl (lv_at hl 4 rfl) ?_
  refine lv_aload_n hx hb dL_law_523 rfl (lv_at hl 2 rfl) ?_
  refine lv_iload hx hb dL_law_524 (lv_at hl 1 rfl) ?_
  refine lv_iconst (v := 1) hx hb dL_law_526 (by decide) ?_
  refine lv_iadd hx hb dL_law_527 ?_
  refine va_sld hx hb hX hbl hbA hS hv1 dL_law_528 ?_
  refine LC_callM (As := [.int (xs (nI i + 1).toNatClampNeg)]) (rest := []) ⟨hx, hb, hml, hown, hts⟩ (c_X6_block l D cI cZ a2 H.size μ (xs (nI i + 1).toNatClampNeg) n h.yn h.n4) (cwV 1 hts gL_law_X6_block rfl rfl rfl (by decide +kernel) ⟨Nat.le_of_ble_eq_true rfl, Nat.le_of_ble_eq_true rfl⟩) hP hK hD hS hA (va_recv hK hP (ci := 6) (q0 := 28) rfl rfl) rfl hl.1 (Nat.le_of_ble_eq_true rfl) (by show C9 + 1 ≤ 1098; omega) (by show S9 + 6 ≤ 8929; omega) dL_law_529 rfl (fun r9 w9 H locs hm9 hP hD hS => ?_)
  have hres := op_gen (g := g) (x := x9) (k := k9) (r2 := r9) (u2 := w9) (P := fun r u => u = σ ∧ r = σ 4 (xs (nI i + 1).toNatClampNeg).toNatClampNeg) (P2 := fun r u => u = (va_up μ 34 (fun _ => 0)) ∧ r = μ 4 (xs (nI i + 1).toNatClampNeg).toNatClampNeg) (F := fun v9 => v9.toInt64) ⟨n, nb, nw, T, Z, J, h⟩ rfl hx9 hm9 (fun h0 v9 u hp hp2 => op_ask h (by rw [h.e4]) hp hp2)
  obtain ⟨hrr, hth, hans⟩ := hres
  refine lv_istore (lv' := [(6, .int r9), (5, .int k9), (4, .int (nI i)), (0, .ref b), (1, .ref (a 0)), (2, .ref (a2 0)), (3, .ref o)]) hx hb dL_law_532 hl (by decide) rfl (fun ls hl => ?_)
  refine lv_aload_n hx hb dL_law_534 rfl (lv_at hl 5 rfl) ?_
  refine LC_callM (As := []) (rest := []) ⟨hx, hb, hml, hown, hts⟩ (c_X6_thrown l D cI cZ a2 H.size w9) (cwV 0 hts gL_law_X6_thrown rfl rfl rfl (by decide +kernel) ⟨Nat.le_of_ble_eq_true rfl, Nat.le_of_ble_eq_true rfl⟩) hP hK hD hS hA (va_recv hK hP (ci := 6) (q0 := 28) rfl rfl) rfl hl.1 (Nat.le_of_ble_eq_true rfl) (by show C9 + 1 ≤ 1098; omega) (by show S9 + 6 ≤ 8929; omega) dL_law_535 rfl (fun r7 u7 H locs hp7 hP hD hS => ?_)
  obtain ⟨eu7, hp7⟩ := hp7
  rw [eu7] at hP hD
  refine lv_iload hx hb dL_law_538 (lv_at hl 1 rfl) ?_
  refine lv_icmp_eq (tgt := 545) hx hb dL_law_540 (by decide) (fun _ => ?_) (fun c9 => absurd (hp7.trans hth) c9)
  refine lv_iload hx hb dL_law_545 (lv_at hl 1 rfl) ?_
  refine lv_if_ne (tgt := 562) hx hb dL_law_547 (by decide) (fun c_547 => ?_) (fun c_547 => ?_)
  · skip
    refine lv_goto (tgt := 1556) hx hb dL_law_562 (by decide) ?_
    exact hk _ _ _ _ _ ls hrr hP hD hS (lv_sub hl [2, 3, 4, 5, 6] rfl)
  · skip
    refine lv_aload_n hx hb dL_law_550 rfl (lv_at hl 6 rfl) ?_
    refine lv_iconst (v := 0) hx hb dL_law_551 (by decide) ?_
    refine va_lald hx hb hK hP 0 2 rfl rfl (show vp_in 0 1 by unfold vp_in; decide) dL_law_552 ?_
    refine lv_iload hx hb dL_law_553 (lv_at hl 0 rfl) ?_
    refine lv_i2l (v := r9.toInt64) hx hb dL_law_555 rfl ?_
    have hcm : x9.2 (0 : Int32).toNatClampNeg = r9.toInt64 := hans c_547
    refine lcmp_eq hx hb dL_law_556 hcm ?_
    refine lv_if_eq (tgt := 562) hx hb dL_law_557 (by decide) (fun _ => ?_) (fun c9 => absurd rfl c9)
    refine lv_goto (tgt := 1556) hx hb dL_law_562 (by decide) ?_
    exact hk _ _ _ _ _ ls hrr hP hD hS (lv_sub hl [2, 3, 4, 5, 6] rfl)
set_option maxHeartbeats 4000000 in
set_option maxRecDepth 100000 in
theorem case_isRight {p : Program} {l : Launch} {e : Env} {s : State} {m : MethodId} {below : List Frame} {meth : Method} {c : Code} {b L : Nat} {xs : Nat → Int32} {D : va_G} {cI cZ cL : ClassId} {a a2 : Nat → Nat} {o : Nat} {Q : State → Prop} (hfl : l.stackTraces = false) (C0 : lw_At p s m meth c b L xs) (hL : L ≤ 2560) (hK : va_K D vwCl (ty3 cI cZ cL) s) (hEV : EV s) (hZ : SZ (fun q : Nat => s.heap.size ≤ q) s s.heap) {σ μ : St} {g : Nat → Int64} {i C9 S9 : Nat} (hi : i + 5 ≤ L) (hC9 : C9 + 1 ≤ 1098) (hS9 : S9 + 6 ≤ 8929) (hRR : RR σ μ) {H : Heap} {locs : List Loc} {ls : Array Slot} (hP : va_P D vwCl (wL cI cZ cL a o a2 (σ, g) μ) H) (hD : va_D (fun q : Nat => s.heap.size ≤ q) (wL cI cZ cL a o a2 (σ, g) μ)) (hS : va_S (fun q : Nat => s.heap.size ≤ q) s.heap H locs) (hl : lv_has ls 7 [(4, .int (nI i)), (0, .ref b), (1, .ref (a 0)), (2, .ref (a2 0)), (3, .ref o)]) (hk : ∀ (σ μ : St) (g : Nat → Int64) (H : Heap) (locs : List Loc) (ls : Array Slot), RR σ μ → va_P D vwCl (wL cI cZ cL a o a2 (σ, g) μ) H → va_D (fun q : Nat => s.heap.size ≤ q) (wL cI cZ cL a o a2 (σ, g) μ) → va_S (fun q : Nat => s.heap.size ≤ q) s.heap H locs → lv_has ls 7 [(4, .int (nI i)), (0, .ref b), (1, .ref (a 0)), (2, .ref (a2 0)), (3, .ref o)] → W p l e room_1 s m #[Value.ref b] below meth c H locs (C9 + 1) (S9 + 6) Q (F0 m 1556 ls [])) : W p l e room_1 s m #[Value.ref b] below meth c H locs C9 S9 Q (F0 m 565 ls []) := by
  obtain ⟨hx, hb, hr, hml, hown, hts0, hX, hbl, hlocks, hgv⟩ := C0
  have hts : ∀ w ∈ wsL_law, w.before #[Value.ref b] s = true := fun w h => hts0 w (wsL_law_in w h)
  have hA : ∀ q : Nat, s.heap.size ≤ q → (fun q : Nat => s.heap.size ≤ q) q := fun _ h => h
  have hbA : ¬ (fun q : Nat => s.heap.size ≤ q) b := Nat.not_le.mpr hbl
  have hv1 : vp_in (nI i + 1) L := by rw [show (1 : Int32) = nI 1 from rfl, nI_add]; exact vp_in_nI (by omega) (by omega)
  have hv2 : vp_in (nI i + 2) L := by rw [show (2 : Int32) = nI 2 from rfl, nI_add]; exact vp_in_nI (by omega) (by omega)
  have hv3 : vp_in (nI i + 3) L := by rw [show (3 : Int32) = nI 3 from rfl, nI_add]; exact vp_in_nI (by omega) (by omega)
  have hv4 : vp_in (nI i + 4) L := by rw [show (4 : Int32) = nI 4 from rfl, nI_add]; exact vp_in_nI (by omega) (by omega)
  obtain ⟨n, nb, nw, T, Z, J, h⟩ := hRR
  refine lv_aload_n hx hb dL_law_565 rfl (lv_at hl 2 rfl) ?_
  refine lv_aload_n hx hb dL_law_566 rfl (lv_at hl 1 rfl) ?_
  refine lv_iload hx hb dL_law_567 (lv_at hl 0 rfl) ?_
  refine lv_iconst (v := 1) hx hb dL_law_569 (by decide) ?_
  refine lv_iadd hx hb dL_law_570 ?_
  refine va_sld hx hb hX hbl hbA hS hv1 dL_law_571 ?_
  refine lv_aload_n hx hb dL_law_572 rfl (lv_at hl 4 rfl) ?_
  refine LC_callH (As := [.ref (a 0), .int (xs (nI i + 1).toNatClampNeg), .ref o]) (rest := []) ⟨hx, hb, hml, hown, hts⟩ (h_isRight l D cI cZ cL a o H.size σ g (xs (nI i + 1).toNatClampNeg) (cdTr n (xs (nI i + 1).toNatClampNeg)) _ (fun sz => c_X5_isRight l D cI cZ a sz σ hfl (xs (nI i + 1).toNatClampNeg) n h.xn h.n4 h.b5)) (vx_cwSW 3 hts gL_law_L_isRight rfl rfl rfl (by decide +kernel) ⟨Nat.le_of_ble_eq_true rfl, Nat.le_of_ble_eq_true rfl⟩) hP hK hD hS hA hEV hZ rfl hl.1 (Nat.le_of_ble_eq_true rfl) hC9 hS9 dL_law_573 rfl (fun k9 x9 H locs hx9 hP hD hS => ?_)
  refine lv_istore (lv' := [(5, .int k9), (4, .int (nI i)), (0, .ref b), (1, .ref (a 0)), (2, .ref (a2 0)), (3, .ref o)]) hx hb dL_law_576 hl (by decide) rfl (fun ls hl => ?_)
  refine lv_aload_n hx hb dL_law_578 rfl (lv_at hl 4 rfl) ?_
  refine lv_aload_n hx hb dL_law_579 rfl (lv_at hl 2 rfl) ?_
  refine lv_iload hx hb dL_law_580 (lv_at hl 1 rfl) ?_
  refine lv_iconst (v := 1) hx hb dL_law_582 (by decide) ?_
  refine lv_iadd hx hb dL_law_583 ?_
  refine va_sld hx hb hX hbl hbA hS hv1 dL_law_584 ?_
  refine LC_callM (As := [.int (xs (nI i + 1).toNatClampNeg)]) (rest := []) ⟨hx, hb, hml, hown, hts⟩ (c_X6_isRight l D cI cZ a2 H.size μ (xs (nI i + 1).toNatClampNeg) n h.yn h.n4 (by rw [← h.e5]; exact h.b5)) (cwV 1 hts gL_law_X6_isRight rfl rfl rfl (by decide +kernel) ⟨Nat.le_of_ble_eq_true rfl, Nat.le_of_ble_eq_true rfl⟩) hP hK hD hS hA (va_recv hK hP (ci := 6) (q0 := 28) rfl rfl) rfl hl.1 (Nat.le_of_ble_eq_true rfl) (by show C9 + 1 ≤ 1098; omega) (by show S9 + 6 ≤ 8929; omega) dL_law_585 rfl (fun r9 w9 H locs hm9 hP hD hS => ?_)
  have hres := op_gen (g := g) (x := x9) (k := k9) (r2 := r9) (u2 := w9) (P := fun r u => u = σ ∧ r = σ 5 (xs (nI i + 1).toNatClampNeg).toNatClampNeg) (P2 := fun r u => u = (va_up μ 34 (fun _ => 0)) ∧ r = μ 5 (xs (nI i + 1).toNatClampNeg).toNatClampNeg) (F := fun v9 => if v9 = 0 then 0 else 1) ⟨n, nb, nw, T, Z, J, h⟩ rfl hx9 hm9 (fun h0 v9 u hp hp2 => op_ask h (by rw [h.e5]) hp hp2)
  obtain ⟨hrr, hth, hans⟩ := hres
  refine lv_istore (lv' := [(6, .int r9), (5, .int k9), (4, .int (nI i)), (0, .ref b), (1, .ref (a 0)), (2, .ref (a2 0)), (3, .ref o)]) hx hb dL_law_588 hl (by decide) rfl (fun ls hl => ?_)
  refine lv_aload_n hx hb dL_law_590 rfl (lv_at hl 5 rfl) ?_
  refine LC_callM (As := []) (rest := []) ⟨hx, hb, hml, hown, hts⟩ (c_X6_thrown l D cI cZ a2 H.size w9) (cwV 0 hts gL_law_X6_thrown rfl rfl rfl (by decide +kernel) ⟨Nat.le_of_ble_eq_true rfl, Nat.le_of_ble_eq_true rfl⟩) hP hK hD hS hA (va_recv hK hP (ci := 6) (q0 := 28) rfl rfl) rfl hl.1 (Nat.le_of_ble_eq_true rfl) (by show C9 + 1 ≤ 1098; omega) (by show S9 + 6 ≤ 8929; omega) dL_law_591 rfl (fun r7 u7 H locs hp7 hP hD hS => ?_)
  obtain ⟨eu7, hp7⟩ := hp7
  rw [eu7] at hP hD
  refine lv_iload hx hb dL_law_594 (lv_at hl 1 rfl) ?_
  refine lv_icmp_eq (tgt := 601) hx hb dL_law_596 (by decide) (fun _ => ?_) (fun c9 => absurd (hp7.trans hth) c9)
  refine lv_iload hx hb dL_law_601 (lv_at hl 1 rfl) ?_
  refine lv_if_ne (tgt := 625) hx hb dL_law_603 (by decide) (fun c_603 => ?_) (fun c_603 => ?_)
  · skip
    refine lv_goto (tgt := 1556) hx hb dL_law_625 (by decide) ?_
    exact hk _ _ _ _ _ ls hrr hP hD hS (lv_sub hl [2, 3, 4, 5, 6] rfl)
  · skip
    refine lv_aload_n hx hb dL_law_606 rfl (lv_at hl 6 rfl) ?_
    refine lv_iconst (v := 0) hx hb dL_law_607 (by decide) ?_
    refine va_lald hx hb hK hP 0 2 rfl rfl (show vp_in 0 1 by unfold vp_in; decide) dL_law_608 ?_
    refine lv_iload hx hb dL_law_609 (lv_at hl 0 rfl) ?_
    refine lv_if_eq (tgt := 618) hx hb dL_law_611 (by decide) (fun c_611 => ?_) (fun c_611 => ?_)
    · skip
      refine lv_lconst (v := 0) hx hb dL_law_618 (by decide) ?_
      have hcm : x9.2 (0 : Int32).toNatClampNeg = 0 := (hans c_603).trans (if_pos c_611)
      refine lcmp_eq hx hb dL_law_619 hcm ?_
      refine lv_if_eq (tgt := 625) hx hb dL_law_620 (by decide) (fun _ => ?_) (fun c9 => absurd rfl c9)
      refine lv_goto (tgt := 1556) hx hb dL_law_625 (by decide) ?_
      exact hk _ _ _ _ _ ls hrr hP hD hS (lv_sub hl [2, 3, 4, 5, 6] rfl)
    · skip
      refine lv_lconst (v := 1) hx hb dL_law_614 (by decide) ?_
      refine lv_goto (tgt := 619) hx hb dL_law_615 (by decide) ?_
      have hcm : x9.2 (0 : Int32).toNatClampNeg = 1 := (hans c_603).trans (if_neg c_611)
      refine lcmp_eq hx hb dL_law_619 hcm ?_
      refine lv_if_eq (tgt := 625) hx hb dL_law_620 (by decide) (fun _ => ?_) (fun c9 => absurd rfl c9)
      refine lv_goto (tgt := 1556) hx hb dL_law_625 (by decide) ?_
      exact hk _ _ _ _ _ ls hrr hP hD hS (lv_sub hl [2, 3, 4, 5, 6] rfl)
set_option maxHeartbeats 4000000 in
set_option maxRecDepth 100000 in
theorem case_trainOn {p : Program} {l : Launch} {e : Env} {s : State} {m : MethodId} {below : List Frame} {meth : Method} {c : Code} {b L : Nat} {xs : Nat → Int32} {D : va_G} {cI cZ cL : ClassId} {a a2 : Nat → Nat} {o : Nat} {Q : State → Prop} (hfl : l.stackTraces = false) (C0 : lw_At p s m meth c b L xs) (hL : L ≤ 2560) (hK : va_K D vwCl (ty3 cI cZ cL) s) (hEV : EV s) (hZ : SZ (fun q : Nat => s.heap.size ≤ q) s s.heap) {σ μ : St} {g : Nat → Int64} {i C9 S9 : Nat} (hi : i + 5 ≤ L) (hC9 : C9 + 1 ≤ 1098) (hS9 : S9 + 6 ≤ 8929) (hRR : RR σ μ) {H : Heap} {locs : List Loc} {ls : Array Slot} (hP : va_P D vwCl (wL cI cZ cL a o a2 (σ, g) μ) H) (hD : va_D (fun q : Nat => s.heap.size ≤ q) (wL cI cZ cL a o a2 (σ, g) μ)) (hS : va_S (fun q : Nat => s.heap.size ≤ q) s.heap H locs) (hl : lv_has ls 7 [(4, .int (nI i)), (0, .ref b), (1, .ref (a 0)), (2, .ref (a2 0)), (3, .ref o)]) (hk : ∀ (σ μ : St) (g : Nat → Int64) (H : Heap) (locs : List Loc) (ls : Array Slot), RR σ μ → va_P D vwCl (wL cI cZ cL a o a2 (σ, g) μ) H → va_D (fun q : Nat => s.heap.size ≤ q) (wL cI cZ cL a o a2 (σ, g) μ) → va_S (fun q : Nat => s.heap.size ≤ q) s.heap H locs → lv_has ls 7 [(4, .int (nI i)), (0, .ref b), (1, .ref (a 0)), (2, .ref (a2 0)), (3, .ref o)] → W p l e room_1 s m #[Value.ref b] below meth c H locs (C9 + 1) (S9 + 6) Q (F0 m 1556 ls [])) : W p l e room_1 s m #[Value.ref b] below meth c H locs C9 S9 Q (F0 m 628 ls []) := by
  obtain ⟨hx, hb, hr, hml, hown, hts0, hX, hbl, hlocks, hgv⟩ := C0
  have hts : ∀ w ∈ wsL_law, w.before #[Value.ref b] s = true := fun w h => hts0 w (wsL_law_in w h)
  have hA : ∀ q : Nat, s.heap.size ≤ q → (fun q : Nat => s.heap.size ≤ q) q := fun _ h => h
  have hbA : ¬ (fun q : Nat => s.heap.size ≤ q) b := Nat.not_le.mpr hbl
  have hv1 : vp_in (nI i + 1) L := by rw [show (1 : Int32) = nI 1 from rfl, nI_add]; exact vp_in_nI (by omega) (by omega)
  have hv2 : vp_in (nI i + 2) L := by rw [show (2 : Int32) = nI 2 from rfl, nI_add]; exact vp_in_nI (by omega) (by omega)
  have hv3 : vp_in (nI i + 3) L := by rw [show (3 : Int32) = nI 3 from rfl, nI_add]; exact vp_in_nI (by omega) (by omega)
  have hv4 : vp_in (nI i + 4) L := by rw [show (4 : Int32) = nI 4 from rfl, nI_add]; exact vp_in_nI (by omega) (by omega)
  obtain ⟨n, nb, nw, T, Z, J, h⟩ := hRR
  refine lv_aload_n hx hb dL_law_628 rfl (lv_at hl 2 rfl) ?_
  refine lv_aload_n hx hb dL_law_629 rfl (lv_at hl 1 rfl) ?_
  refine lv_iload hx hb dL_law_630 (lv_at hl 0 rfl) ?_
  refine lv_iconst (v := 1) hx hb dL_law_632 (by decide) ?_
  refine lv_iadd hx hb dL_law_633 ?_
  refine va_sld hx hb hX hbl hbA hS hv1 dL_law_634 ?_
  refine lv_aload_n hx hb dL_law_635 rfl (lv_at hl 4 rfl) ?_
  refine LC_callH (As := [.ref (a 0), .int (xs (nI i + 1).toNatClampNeg), .ref o]) (rest := []) ⟨hx, hb, hml, hown, hts⟩ (h_trainOn l D cI cZ cL a o H.size σ g (xs (nI i + 1).toNatClampNeg) (cdBl (xs (nI i + 1).toNatClampNeg)) _ (fun sz => c_X5_trainOn l D cI cZ a sz σ hfl (xs (nI i + 1).toNatClampNeg) n h.xn h.n4)) (vx_cwSW 3 hts gL_law_L_trainOn rfl rfl rfl (by decide +kernel) ⟨Nat.le_of_ble_eq_true rfl, Nat.le_of_ble_eq_true rfl⟩) hP hK hD hS hA hEV hZ rfl hl.1 (Nat.le_of_ble_eq_true rfl) hC9 hS9 dL_law_636 rfl (fun k9 x9 H locs hx9 hP hD hS => ?_)
  refine lv_istore (lv' := [(5, .int k9), (4, .int (nI i)), (0, .ref b), (1, .ref (a 0)), (2, .ref (a2 0)), (3, .ref o)]) hx hb dL_law_639 hl (by decide) rfl (fun ls hl => ?_)
  refine lv_aload_n hx hb dL_law_641 rfl (lv_at hl 4 rfl) ?_
  refine lv_aload_n hx hb dL_law_642 rfl (lv_at hl 2 rfl) ?_
  refine lv_iload hx hb dL_law_643 (lv_at hl 1 rfl) ?_
  refine lv_iconst (v := 1) hx hb dL_law_645 (by decide) ?_
  refine lv_iadd hx hb dL_law_646 ?_
  refine va_sld hx hb hX hbl hbA hS hv1 dL_law_647 ?_
  refine LC_callM (As := [.int (xs (nI i + 1).toNatClampNeg)]) (rest := []) ⟨hx, hb, hml, hown, hts⟩ (c_X6_trainOn l D cI cZ a2 H.size μ (xs (nI i + 1).toNatClampNeg) n h.yn h.n4) (cwV 1 hts gL_law_X6_trainOn rfl rfl rfl (by decide +kernel) ⟨Nat.le_of_ble_eq_true rfl, Nat.le_of_ble_eq_true rfl⟩) hP hK hD hS hA (va_recv hK hP (ci := 6) (q0 := 28) rfl rfl) rfl hl.1 (Nat.le_of_ble_eq_true rfl) (by show C9 + 1 ≤ 1098; omega) (by show S9 + 6 ≤ 8929; omega) dL_law_648 rfl (fun r9 w9 H locs hm9 hP hD hS => ?_)
  have hres := op_gen (g := g) (x := x9) (k := k9) (r2 := r9) (u2 := w9) (P := fun r u => u = σ ∧ r = so (σ 4) (xs (nI i + 1).toNatClampNeg) n) (P2 := fun r u => u = (va_up μ 34 (fun _ => 0)) ∧ r = so (μ 4) (xs (nI i + 1).toNatClampNeg) n) (F := fun v9 => v9.toInt64) ⟨n, nb, nw, T, Z, J, h⟩ rfl hx9 hm9 (fun h0 v9 u hp hp2 => op_ask h (by rw [h.e4]) hp hp2)
  obtain ⟨hrr, hth, hans⟩ := hres
  refine lv_istore (lv' := [(6, .int r9), (5, .int k9), (4, .int (nI i)), (0, .ref b), (1, .ref (a 0)), (2, .ref (a2 0)), (3, .ref o)]) hx hb dL_law_651 hl (by decide) rfl (fun ls hl => ?_)
  refine lv_aload_n hx hb dL_law_653 rfl (lv_at hl 5 rfl) ?_
  refine LC_callM (As := []) (rest := []) ⟨hx, hb, hml, hown, hts⟩ (c_X6_thrown l D cI cZ a2 H.size w9) (cwV 0 hts gL_law_X6_thrown rfl rfl rfl (by decide +kernel) ⟨Nat.le_of_ble_eq_true rfl, Nat.le_of_ble_eq_true rfl⟩) hP hK hD hS hA (va_recv hK hP (ci := 6) (q0 := 28) rfl rfl) rfl hl.1 (Nat.le_of_ble_eq_true rfl) (by show C9 + 1 ≤ 1098; omega) (by show S9 + 6 ≤ 8929; omega) dL_law_654 rfl (fun r7 u7 H locs hp7 hP hD hS => ?_)
  obtain ⟨eu7, hp7⟩ := hp7
  rw [eu7] at hP hD
  refine lv_iload hx hb dL_law_657 (lv_at hl 1 rfl) ?_
  refine lv_icmp_eq (tgt := 664) hx hb dL_law_659 (by decide) (fun _ => ?_) (fun c9 => absurd (hp7.trans hth) c9)
  refine lv_iload hx hb dL_law_664 (lv_at hl 1 rfl) ?_
  refine lv_if_ne (tgt := 681) hx hb dL_law_666 (by decide) (fun c_666 => ?_) (fun c_666 => ?_)
  · skip
    refine lv_goto (tgt := 1556) hx hb dL_law_681 (by decide) ?_
    exact hk _ _ _ _ _ ls hrr hP hD hS (lv_sub hl [2, 3, 4, 5, 6] rfl)
  · skip
    refine lv_aload_n hx hb dL_law_669 rfl (lv_at hl 6 rfl) ?_
    refine lv_iconst (v := 0) hx hb dL_law_670 (by decide) ?_
    refine va_lald hx hb hK hP 0 2 rfl rfl (show vp_in 0 1 by unfold vp_in; decide) dL_law_671 ?_
    refine lv_iload hx hb dL_law_672 (lv_at hl 0 rfl) ?_
    refine lv_i2l (v := r9.toInt64) hx hb dL_law_674 rfl ?_
    have hcm : x9.2 (0 : Int32).toNatClampNeg = r9.toInt64 := hans c_666
    refine lcmp_eq hx hb dL_law_675 hcm ?_
    refine lv_if_eq (tgt := 681) hx hb dL_law_676 (by decide) (fun _ => ?_) (fun c9 => absurd rfl c9)
    refine lv_goto (tgt := 1556) hx hb dL_law_681 (by decide) ?_
    exact hk _ _ _ _ _ ls hrr hP hD hS (lv_sub hl [2, 3, 4, 5, 6] rfl)
set_option maxHeartbeats 4000000 in
set_option maxRecDepth 100000 in
theorem case_run {p : Program} {l : Launch} {e : Env} {s : State} {m : MethodId} {below : List Frame} {meth : Method} {c : Code} {b L : Nat} {xs : Nat → Int32} {D : va_G} {cI cZ cL : ClassId} {a a2 : Nat → Nat} {o : Nat} {Q : State → Prop} (hfl : l.stackTraces = false) (C0 : lw_At p s m meth c b L xs) (hL : L ≤ 2560) (hK : va_K D vwCl (ty3 cI cZ cL) s) (hEV : EV s) (hZ : SZ (fun q : Nat => s.heap.size ≤ q) s s.heap) {σ μ : St} {g : Nat → Int64} {i C9 S9 : Nat} (hi : i + 5 ≤ L) (hC9 : C9 + 1 ≤ 1098) (hS9 : S9 + 6 ≤ 8929) (hRR : RR σ μ) {H : Heap} {locs : List Loc} {ls : Array Slot} (hP : va_P D vwCl (wL cI cZ cL a o a2 (σ, g) μ) H) (hD : va_D (fun q : Nat => s.heap.size ≤ q) (wL cI cZ cL a o a2 (σ, g) μ)) (hS : va_S (fun q : Nat => s.heap.size ≤ q) s.heap H locs) (hl : lv_has ls 7 [(4, .int (nI i)), (0, .ref b), (1, .ref (a 0)), (2, .ref (a2 0)), (3, .ref o)]) (hk : ∀ (σ μ : St) (g : Nat → Int64) (H : Heap) (locs : List Loc) (ls : Array Slot), RR σ μ → va_P D vwCl (wL cI cZ cL a o a2 (σ, g) μ) H → va_D (fun q : Nat => s.heap.size ≤ q) (wL cI cZ cL a o a2 (σ, g) μ) → va_S (fun q : Nat => s.heap.size ≤ q) s.heap H locs → lv_has ls 7 [(4, .int (nI i)), (0, .ref b), (1, .ref (a 0)), (2, .ref (a2 0)), (3, .ref o)] → W p l e room_1 s m #[Value.ref b] below meth c H locs (C9 + 1) (S9 + 6) Q (F0 m 1556 ls [])) : W p l e room_1 s m #[Value.ref b] below meth c H locs C9 S9 Q (F0 m 684 ls []) := by
  obtain ⟨hx, hb, hr, hml, hown, hts0, hX, hbl, hlocks, hgv⟩ := C0
  have hts : ∀ w ∈ wsL_law, w.before #[Value.ref b] s = true := fun w h => hts0 w (wsL_law_in w h)
  have hA : ∀ q : Nat, s.heap.size ≤ q → (fun q : Nat => s.heap.size ≤ q) q := fun _ h => h
  have hbA : ¬ (fun q : Nat => s.heap.size ≤ q) b := Nat.not_le.mpr hbl
  have hv1 : vp_in (nI i + 1) L := by rw [show (1 : Int32) = nI 1 from rfl, nI_add]; exact vp_in_nI (by omega) (by omega)
  have hv2 : vp_in (nI i + 2) L := by rw [show (2 : Int32) = nI 2 from rfl, nI_add]; exact vp_in_nI (by omega) (by omega)
  have hv3 : vp_in (nI i + 3) L := by rw [show (3 : Int32) = nI 3 from rfl, nI_add]; exact vp_in_nI (by omega) (by omega)
  have hv4 : vp_in (nI i + 4) L := by rw [show (4 : Int32) = nI 4 from rfl, nI_add]; exact vp_in_nI (by omega) (by omega)
  obtain ⟨n, nb, nw, T, Z, J, h⟩ := hRR
  refine lv_aload_n hx hb dL_law_684 rfl (lv_at hl 2 rfl) ?_
  refine lv_aload_n hx hb dL_law_685 rfl (lv_at hl 1 rfl) ?_
  refine lv_iload hx hb dL_law_686 (lv_at hl 0 rfl) ?_
  refine lv_iconst (v := 1) hx hb dL_law_688 (by decide) ?_
  refine lv_iadd hx hb dL_law_689 ?_
  refine va_sld hx hb hX hbl hbA hS hv1 dL_law_690 ?_
  refine lv_aload_n hx hb dL_law_691 rfl (lv_at hl 4 rfl) ?_
  refine LC_callH (As := [.ref (a 0), .int (xs (nI i + 1).toNatClampNeg), .ref o]) (rest := []) ⟨hx, hb, hml, hown, hts⟩ (h_run l D cI cZ cL a o H.size σ g (xs (nI i + 1).toNatClampNeg) (cdRun σ (xs (nI i + 1).toNatClampNeg)) _ (fun sz => c_X5_run l D cI cZ a sz σ hfl (xs (nI i + 1).toNatClampNeg) n h.xn h.n4 nb h.xb h.b30 h.bB)) (vx_cwSW 3 hts gL_law_L_run rfl rfl rfl (by decide +kernel) ⟨Nat.le_of_ble_eq_true rfl, Nat.le_of_ble_eq_true rfl⟩) hP hK hD hS hA hEV hZ rfl hl.1 (Nat.le_of_ble_eq_true rfl) hC9 hS9 dL_law_692 rfl (fun k9 x9 H locs hx9 hP hD hS => ?_)
  refine lv_istore (lv' := [(5, .int k9), (4, .int (nI i)), (0, .ref b), (1, .ref (a 0)), (2, .ref (a2 0)), (3, .ref o)]) hx hb dL_law_695 hl (by decide) rfl (fun ls hl => ?_)
  refine lv_aload_n hx hb dL_law_697 rfl (lv_at hl 4 rfl) ?_
  refine lv_aload_n hx hb dL_law_698 rfl (lv_at hl 2 rfl) ?_
  refine lv_iload hx hb dL_law_699 (lv_at hl 1 rfl) ?_
  refine lv_iconst (v := 1) hx hb dL_law_701 (by decide) ?_
  refine lv_iadd hx hb dL_law_702 ?_
  refine va_sld hx hb hX hbl hbA hS hv1 dL_law_703 ?_
  refine LC_callM (As := [.int (xs (nI i + 1).toNatClampNeg)]) (rest := []) ⟨hx, hb, hml, hown, hts⟩ (c_X6_run l D cI cZ a2 H.size μ (xs (nI i + 1).toNatClampNeg) n h.yn h.n4 nb h.yb h.b30 (by rw [← h.e5]; exact h.b5) (by rw [← h.e4]; exact h.bB) (by rw [← h.e14]; exact h.tT)) (cwV 1 hts gL_law_X6_run rfl rfl rfl (by decide +kernel) ⟨Nat.le_of_ble_eq_true rfl, Nat.le_of_ble_eq_true rfl⟩) hP hK hD hS hA (va_recv hK hP (ci := 6) (q0 := 28) rfl rfl) rfl hl.1 (Nat.le_of_ble_eq_true rfl) (by show C9 + 1 ≤ 1098; omega) (by show S9 + 6 ≤ 8929; omega) dL_law_704 rfl (fun r9 w9 H locs hm9 hP hD hS => ?_)
  have hres := op_gen (g := g) (x := x9) (k := k9) (r2 := r9) (u2 := w9) (P := fun r u => u = (va_up (va_up (va_up (va_up (va_up σ 0 (fun _ => (itX σ n nb (xs (nI i + 1).toNatClampNeg).toNatClampNeg).2.2.1)) 4 ((itX σ n nb (xs (nI i + 1).toNatClampNeg).toNatClampNeg).1.1)) 5 ((itX σ n nb (xs (nI i + 1).toNatClampNeg).toNatClampNeg).1.2.1)) 7 ((itX σ n nb (xs (nI i + 1).toNatClampNeg).toNatClampNeg).1.2.2)) 18 ((itX σ n nb (xs (nI i + 1).toNatClampNeg).toNatClampNeg).2.1)) ∧ r = (itX σ n nb (xs (nI i + 1).toNatClampNeg).toNatClampNeg).2.2.2) (P2 := fun r u => u = (va_up (va_up (va_up (va_up (va_up (va_up (va_up (va_up (va_up (va_up μ 0 (fun _ => (itM μ n nb (xs (nI i + 1).toNatClampNeg).toNatClampNeg).2.2.2.1)) 4 ((itM μ n nb (xs (nI i + 1).toNatClampNeg).toNatClampNeg).1.1)) 5 ((itM μ n nb (xs (nI i + 1).toNatClampNeg).toNatClampNeg).1.2.1)) 7 ((itM μ n nb (xs (nI i + 1).toNatClampNeg).toNatClampNeg).1.2.2)) 9 ((itM μ n nb (xs (nI i + 1).toNatClampNeg).toNatClampNeg).2.1.1)) 10 ((itM μ n nb (xs (nI i + 1).toNatClampNeg).toNatClampNeg).2.1.2.1)) 12 ((itM μ n nb (xs (nI i + 1).toNatClampNeg).toNatClampNeg).2.1.2.2)) 30 ((itM μ n nb (xs (nI i + 1).toNatClampNeg).toNatClampNeg).2.2.1.1)) 31 ((itM μ n nb (xs (nI i + 1).toNatClampNeg).toNatClampNeg).2.2.1.2)) 34 (fun _ => 0)) ∧ r = (itM μ n nb (xs (nI i + 1).toNatClampNeg).toNatClampNeg).2.2.2.2) (F := fun v9 => v9.toInt64) ⟨n, nb, nw, T, Z, J, h⟩ (cdRun_e h _) hx9 hm9 (fun h0 v9 u hp hp2 => op_run h h0 hp hp2)
  obtain ⟨hrr, hth, hans⟩ := hres
  refine lv_istore (lv' := [(6, .int r9), (5, .int k9), (4, .int (nI i)), (0, .ref b), (1, .ref (a 0)), (2, .ref (a2 0)), (3, .ref o)]) hx hb dL_law_707 hl (by decide) rfl (fun ls hl => ?_)
  refine lv_aload_n hx hb dL_law_709 rfl (lv_at hl 5 rfl) ?_
  refine LC_callM (As := []) (rest := []) ⟨hx, hb, hml, hown, hts⟩ (c_X6_thrown l D cI cZ a2 H.size w9) (cwV 0 hts gL_law_X6_thrown rfl rfl rfl (by decide +kernel) ⟨Nat.le_of_ble_eq_true rfl, Nat.le_of_ble_eq_true rfl⟩) hP hK hD hS hA (va_recv hK hP (ci := 6) (q0 := 28) rfl rfl) rfl hl.1 (Nat.le_of_ble_eq_true rfl) (by show C9 + 1 ≤ 1098; omega) (by show S9 + 6 ≤ 8929; omega) dL_law_710 rfl (fun r7 u7 H locs hp7 hP hD hS => ?_)
  obtain ⟨eu7, hp7⟩ := hp7
  rw [eu7] at hP hD
  refine lv_iload hx hb dL_law_713 (lv_at hl 1 rfl) ?_
  refine lv_icmp_eq (tgt := 720) hx hb dL_law_715 (by decide) (fun _ => ?_) (fun c9 => absurd (hp7.trans hth) c9)
  refine lv_iload hx hb dL_law_720 (lv_at hl 1 rfl) ?_
  refine lv_if_ne (tgt := 737) hx hb dL_law_722 (by decide) (fun c_722 => ?_) (fun c_722 => ?_)
  · skip
    refine lv_goto (tgt := 1556) hx hb dL_law_737 (by decide) ?_
    exact hk _ _ _ _ _ ls hrr hP hD hS (lv_sub hl [2, 3, 4, 5, 6] rfl)
  · skip
    refine lv_aload_n hx hb dL_law_725 rfl (lv_at hl 6 rfl) ?_
    refine lv_iconst (v := 0) hx hb dL_law_726 (by decide) ?_
    refine va_lald hx hb hK hP 0 2 rfl rfl (show vp_in 0 1 by unfold vp_in; decide) dL_law_727 ?_
    refine lv_iload hx hb dL_law_728 (lv_at hl 0 rfl) ?_
    refine lv_i2l (v := r9.toInt64) hx hb dL_law_730 rfl ?_
    have hcm : x9.2 (0 : Int32).toNatClampNeg = r9.toInt64 := hans c_722
    refine lcmp_eq hx hb dL_law_731 hcm ?_
    refine lv_if_eq (tgt := 737) hx hb dL_law_732 (by decide) (fun _ => ?_) (fun c9 => absurd rfl c9)
    refine lv_goto (tgt := 1556) hx hb dL_law_737 (by decide) ?_
    exact hk _ _ _ _ _ ls hrr hP hD hS (lv_sub hl [2, 3, 4, 5, 6] rfl)
set_option maxHeartbeats 4000000 in
set_option maxRecDepth 100000 in
theorem case_clock {p : Program} {l : Launch} {e : Env} {s : State} {m : MethodId} {below : List Frame} {meth : Method} {c : Code} {b L : Nat} {xs : Nat → Int32} {D : va_G} {cI cZ cL : ClassId} {a a2 : Nat → Nat} {o : Nat} {Q : State → Prop} (hfl : l.stackTraces = false) (C0 : lw_At p s m meth c b L xs) (hL : L ≤ 2560) (hK : va_K D vwCl (ty3 cI cZ cL) s) (hEV : EV s) (hZ : SZ (fun q : Nat => s.heap.size ≤ q) s s.heap) {σ μ : St} {g : Nat → Int64} {i C9 S9 : Nat} (hi : i + 5 ≤ L) (hC9 : C9 + 1 ≤ 1098) (hS9 : S9 + 6 ≤ 8929) (hRR : RR σ μ) {H : Heap} {locs : List Loc} {ls : Array Slot} (hP : va_P D vwCl (wL cI cZ cL a o a2 (σ, g) μ) H) (hD : va_D (fun q : Nat => s.heap.size ≤ q) (wL cI cZ cL a o a2 (σ, g) μ)) (hS : va_S (fun q : Nat => s.heap.size ≤ q) s.heap H locs) (hl : lv_has ls 7 [(4, .int (nI i)), (0, .ref b), (1, .ref (a 0)), (2, .ref (a2 0)), (3, .ref o)]) (hk : ∀ (σ μ : St) (g : Nat → Int64) (H : Heap) (locs : List Loc) (ls : Array Slot), RR σ μ → va_P D vwCl (wL cI cZ cL a o a2 (σ, g) μ) H → va_D (fun q : Nat => s.heap.size ≤ q) (wL cI cZ cL a o a2 (σ, g) μ) → va_S (fun q : Nat => s.heap.size ≤ q) s.heap H locs → lv_has ls 7 [(4, .int (nI i)), (0, .ref b), (1, .ref (a 0)), (2, .ref (a2 0)), (3, .ref o)] → W p l e room_1 s m #[Value.ref b] below meth c H locs (C9 + 1) (S9 + 6) Q (F0 m 1556 ls [])) : W p l e room_1 s m #[Value.ref b] below meth c H locs C9 S9 Q (F0 m 740 ls []) := by
  obtain ⟨hx, hb, hr, hml, hown, hts0, hX, hbl, hlocks, hgv⟩ := C0
  have hts : ∀ w ∈ wsL_law, w.before #[Value.ref b] s = true := fun w h => hts0 w (wsL_law_in w h)
  have hA : ∀ q : Nat, s.heap.size ≤ q → (fun q : Nat => s.heap.size ≤ q) q := fun _ h => h
  have hbA : ¬ (fun q : Nat => s.heap.size ≤ q) b := Nat.not_le.mpr hbl
  have hv1 : vp_in (nI i + 1) L := by rw [show (1 : Int32) = nI 1 from rfl, nI_add]; exact vp_in_nI (by omega) (by omega)
  have hv2 : vp_in (nI i + 2) L := by rw [show (2 : Int32) = nI 2 from rfl, nI_add]; exact vp_in_nI (by omega) (by omega)
  have hv3 : vp_in (nI i + 3) L := by rw [show (3 : Int32) = nI 3 from rfl, nI_add]; exact vp_in_nI (by omega) (by omega)
  have hv4 : vp_in (nI i + 4) L := by rw [show (4 : Int32) = nI 4 from rfl, nI_add]; exact vp_in_nI (by omega) (by omega)
  obtain ⟨n, nb, nw, T, Z, J, h⟩ := hRR
  refine lv_aload_n hx hb dL_law_740 rfl (lv_at hl 2 rfl) ?_
  refine LC_callX (As := []) (rest := []) ⟨hx, hb, hml, hown, hts⟩ (c_X5_clock l D cI cZ a H.size σ) (cwV 0 hts gL_law_X5_clock rfl rfl rfl (by decide +kernel) ⟨Nat.le_of_ble_eq_true rfl, Nat.le_of_ble_eq_true rfl⟩) hP hK hD hS hA (va_recv hK hP (ci := 5) (q0 := 1) rfl rfl) rfl hl.1 (Nat.le_of_ble_eq_true rfl) (by show C9 ≤ 1098; omega) (by show S9 ≤ 8929; omega) dL_law_741 rfl (fun r5 u5 H locs hp5 hP hD hS => ?_)
  obtain ⟨eu5, hp5⟩ := hp5
  rw [eu5] at hP hD
  refine lv_aload_n hx hb dL_law_744 rfl (lv_at hl 3 rfl) ?_
  refine LC_callM (As := []) (rest := [.int r5]) ⟨hx, hb, hml, hown, hts⟩ (c_X6_clock l D cI cZ a2 H.size μ) (cwV 0 hts gL_law_X6_clock rfl rfl rfl (by decide +kernel) ⟨Nat.le_of_ble_eq_true rfl, Nat.le_of_ble_eq_true rfl⟩) hP hK hD hS hA (va_recv hK hP (ci := 6) (q0 := 28) rfl rfl) rfl hl.1 (Nat.le_of_ble_eq_true rfl) (by show C9 ≤ 1098; omega) (by show S9 ≤ 8929; omega) dL_law_745 rfl (fun r9 w9 H locs hp9 hP hD hS => ?_)
  obtain ⟨rfl, hp9⟩ := hp9
  have heq : r5 = r9 := by rw [hp5, hp9, h.xt, h.yt]
  refine lv_icmp_eq (tgt := 1556) hx hb dL_law_748 (by decide) (fun _ => ?_) (fun c9 => absurd heq c9)
  refine W.widen (k := C9 + 1) (n := S9 + 6) (by omega) (by omega) ?_
  exact hk _ _ _ _ _ ls ⟨n, nb, nw, T, Z, J, h.up _⟩ hP hD hS (lv_sub hl [0, 1, 2, 3, 4] rfl)
set_option maxHeartbeats 4000000 in
set_option maxRecDepth 100000 in
theorem case_reaches {p : Program} {l : Launch} {e : Env} {s : State} {m : MethodId} {below : List Frame} {meth : Method} {c : Code} {b L : Nat} {xs : Nat → Int32} {D : va_G} {cI cZ cL : ClassId} {a a2 : Nat → Nat} {o : Nat} {Q : State → Prop} (hfl : l.stackTraces = false) (C0 : lw_At p s m meth c b L xs) (hL : L ≤ 2560) (hK : va_K D vwCl (ty3 cI cZ cL) s) (hEV : EV s) (hZ : SZ (fun q : Nat => s.heap.size ≤ q) s s.heap) {σ μ : St} {g : Nat → Int64} {i C9 S9 : Nat} (hi : i + 5 ≤ L) (hC9 : C9 + 1 ≤ 1098) (hS9 : S9 + 6 ≤ 8929) (hRR : RR σ μ) {H : Heap} {locs : List Loc} {ls : Array Slot} (hP : va_P D vwCl (wL cI cZ cL a o a2 (σ, g) μ) H) (hD : va_D (fun q : Nat => s.heap.size ≤ q) (wL cI cZ cL a o a2 (σ, g) μ)) (hS : va_S (fun q : Nat => s.heap.size ≤ q) s.heap H locs) (hl : lv_has ls 7 [(4, .int (nI i)), (0, .ref b), (1, .ref (a 0)), (2, .ref (a2 0)), (3, .ref o)]) (hk : ∀ (σ μ : St) (g : Nat → Int64) (H : Heap) (locs : List Loc) (ls : Array Slot), RR σ μ → va_P D vwCl (wL cI cZ cL a o a2 (σ, g) μ) H → va_D (fun q : Nat => s.heap.size ≤ q) (wL cI cZ cL a o a2 (σ, g) μ) → va_S (fun q : Nat => s.heap.size ≤ q) s.heap H locs → lv_has ls 7 [(4, .int (nI i)), (0, .ref b), (1, .ref (a 0)), (2, .ref (a2 0)), (3, .ref o)] → W p l e room_1 s m #[Value.ref b] below meth c H locs (C9 + 1) (S9 + 6) Q (F0 m 1556 ls [])) : W p l e room_1 s m #[Value.ref b] below meth c H locs C9 S9 Q (F0 m 753 ls []) := by
  obtain ⟨hx, hb, hr, hml, hown, hts0, hX, hbl, hlocks, hgv⟩ := C0
  have hts : ∀ w ∈ wsL_law, w.before #[Value.ref b] s = true := fun w h => hts0 w (wsL_law_in w h)
  have hA : ∀ q : Nat, s.heap.size ≤ q → (fun q : Nat => s.heap.size ≤ q) q := fun _ h => h
  have hbA : ¬ (fun q : Nat => s.heap.size ≤ q) b := Nat.not_le.mpr hbl
  have hv1 : vp_in (nI i + 1) L := by rw [show (1 : Int32) = nI 1 from rfl, nI_add]; exact vp_in_nI (by omega) (by omega)
  have hv2 : vp_in (nI i + 2) L := by rw [show (2 : Int32) = nI 2 from rfl, nI_add]; exact vp_in_nI (by omega) (by omega)
  have hv3 : vp_in (nI i + 3) L := by rw [show (3 : Int32) = nI 3 from rfl, nI_add]; exact vp_in_nI (by omega) (by omega)
  have hv4 : vp_in (nI i + 4) L := by rw [show (4 : Int32) = nI 4 from rfl, nI_add]; exact vp_in_nI (by omega) (by omega)
  obtain ⟨n, nb, nw, T, Z, J, h⟩ := hRR
  refine lv_aload_n hx hb dL_law_753 rfl (lv_at hl 2 rfl) ?_
  refine lv_aload_n hx hb dL_law_754 rfl (lv_at hl 1 rfl) ?_
  refine lv_iload hx hb dL_law_755 (lv_at hl 0 rfl) ?_
  refine lv_iconst (v := 1) hx hb dL_law_757 (by decide) ?_
  refine lv_iadd hx hb dL_law_758 ?_
  refine va_sld hx hb hX hbl hbA hS hv1 dL_law_759 ?_
  refine lv_aload_n hx hb dL_law_760 rfl (lv_at hl 1 rfl) ?_
  refine lv_iload hx hb dL_law_761 (lv_at hl 0 rfl) ?_
  refine lv_iconst (v := 2) hx hb dL_law_763 (by decide) ?_
  refine lv_iadd hx hb dL_law_764 ?_
  refine va_sld hx hb hX hbl hbA hS hv2 dL_law_765 ?_
  refine lv_aload_n hx hb dL_law_766 rfl (lv_at hl 4 rfl) ?_
  refine LC_callH (As := [.ref (a 0), .int (xs (nI i + 1).toNatClampNeg), .int (xs (nI i + 2).toNatClampNeg), .ref o]) (rest := []) ⟨hx, hb, hml, hown, hts⟩ (h_reaches l D cI cZ cL a o H.size σ g (xs (nI i + 1).toNatClampNeg) (xs (nI i + 2).toNatClampNeg) (cdRea n (xs (nI i + 1).toNatClampNeg) (xs (nI i + 2).toNatClampNeg)) _ (fun sz => c_X5_reaches l D cI cZ a sz σ hfl (xs (nI i + 1).toNatClampNeg) (xs (nI i + 2).toNatClampNeg) n h.xn h.n4 nb h.xb h.b30 h.b5 h.b6 h.bB)) (vx_cwSW 4 hts gL_law_L_reaches rfl rfl rfl (by decide +kernel) ⟨Nat.le_of_ble_eq_true rfl, Nat.le_of_ble_eq_true rfl⟩) hP hK hD hS hA hEV hZ rfl hl.1 (Nat.le_of_ble_eq_true rfl) hC9 hS9 dL_law_767 rfl (fun k9 x9 H locs hx9 hP hD hS => ?_)
  refine lv_istore (lv' := [(5, .int k9), (4, .int (nI i)), (0, .ref b), (1, .ref (a 0)), (2, .ref (a2 0)), (3, .ref o)]) hx hb dL_law_770 hl (by decide) rfl (fun ls hl => ?_)
  refine lv_aload_n hx hb dL_law_772 rfl (lv_at hl 4 rfl) ?_
  refine lv_aload_n hx hb dL_law_773 rfl (lv_at hl 2 rfl) ?_
  refine lv_iload hx hb dL_law_774 (lv_at hl 1 rfl) ?_
  refine lv_iconst (v := 1) hx hb dL_law_776 (by decide) ?_
  refine lv_iadd hx hb dL_law_777 ?_
  refine va_sld hx hb hX hbl hbA hS hv1 dL_law_778 ?_
  refine lv_aload_n hx hb dL_law_779 rfl (lv_at hl 2 rfl) ?_
  refine lv_iload hx hb dL_law_780 (lv_at hl 1 rfl) ?_
  refine lv_iconst (v := 2) hx hb dL_law_782 (by decide) ?_
  refine lv_iadd hx hb dL_law_783 ?_
  refine va_sld hx hb hX hbl hbA hS hv2 dL_law_784 ?_
  refine LC_callM (As := [.int (xs (nI i + 1).toNatClampNeg), .int (xs (nI i + 2).toNatClampNeg)]) (rest := []) ⟨hx, hb, hml, hown, hts⟩ (c_X6_reaches l D cI cZ a2 H.size μ (xs (nI i + 1).toNatClampNeg) (xs (nI i + 2).toNatClampNeg) n h.yn h.n4 nb h.yb h.b30 (by rw [← h.e5]; exact h.b5) (by rw [← h.e4]; exact h.bB)) (cwV 2 hts gL_law_X6_reaches rfl rfl rfl (by decide +kernel) ⟨Nat.le_of_ble_eq_true rfl, Nat.le_of_ble_eq_true rfl⟩) hP hK hD hS hA (va_recv hK hP (ci := 6) (q0 := 28) rfl rfl) rfl hl.1 (Nat.le_of_ble_eq_true rfl) (by show C9 + 1 ≤ 1098; omega) (by show S9 + 6 ≤ 8929; omega) dL_law_785 rfl (fun r9 w9 H locs hm9 hP hD hS => ?_)
  have hres := op_gen (g := g) (x := x9) (k := k9) (r2 := r9) (u2 := w9) (P := fun r u => (∀ s9, s9 < 8 ∨ 12 < s9 → u s9 = σ s9) ∧ reaR (fun j => (sq σ n nb j).1 (xs (nI i + 1).toNatClampNeg).toNatClampNeg = (xs (nI i + 2).toNatClampNeg)) r) (P2 := fun r u => (∀ s9, s9 < 9 ∨ (12 < s9 ∧ s9 < 34) → u s9 = μ s9) ∧ u 34 = (fun _ => 0) ∧ reaR (fun j => (sq μ n nb j).1 (xs (nI i + 1).toNatClampNeg).toNatClampNeg = (xs (nI i + 2).toNatClampNeg)) r) (F := fun v9 => v9.toInt64) ⟨n, nb, nw, T, Z, J, h⟩ rfl hx9 hm9 (fun h0 v9 u hp hp2 => op_reaches h hp hp2)
  obtain ⟨hrr, hth, hans⟩ := hres
  refine lv_istore (lv' := [(6, .int r9), (5, .int k9), (4, .int (nI i)), (0, .ref b), (1, .ref (a 0)), (2, .ref (a2 0)), (3, .ref o)]) hx hb dL_law_788 hl (by decide) rfl (fun ls hl => ?_)
  refine lv_aload_n hx hb dL_law_790 rfl (lv_at hl 5 rfl) ?_
  refine LC_callM (As := []) (rest := []) ⟨hx, hb, hml, hown, hts⟩ (c_X6_thrown l D cI cZ a2 H.size w9) (cwV 0 hts gL_law_X6_thrown rfl rfl rfl (by decide +kernel) ⟨Nat.le_of_ble_eq_true rfl, Nat.le_of_ble_eq_true rfl⟩) hP hK hD hS hA (va_recv hK hP (ci := 6) (q0 := 28) rfl rfl) rfl hl.1 (Nat.le_of_ble_eq_true rfl) (by show C9 + 1 ≤ 1098; omega) (by show S9 + 6 ≤ 8929; omega) dL_law_791 rfl (fun r7 u7 H locs hp7 hP hD hS => ?_)
  obtain ⟨eu7, hp7⟩ := hp7
  rw [eu7] at hP hD
  refine lv_iload hx hb dL_law_794 (lv_at hl 1 rfl) ?_
  refine lv_icmp_eq (tgt := 801) hx hb dL_law_796 (by decide) (fun _ => ?_) (fun c9 => absurd (hp7.trans hth) c9)
  refine lv_iload hx hb dL_law_801 (lv_at hl 1 rfl) ?_
  refine lv_if_ne (tgt := 818) hx hb dL_law_803 (by decide) (fun c_803 => ?_) (fun c_803 => ?_)
  · skip
    refine lv_goto (tgt := 1556) hx hb dL_law_818 (by decide) ?_
    exact hk _ _ _ _ _ ls hrr hP hD hS (lv_sub hl [2, 3, 4, 5, 6] rfl)
  · skip
    refine lv_aload_n hx hb dL_law_806 rfl (lv_at hl 6 rfl) ?_
    refine lv_iconst (v := 0) hx hb dL_law_807 (by decide) ?_
    refine va_lald hx hb hK hP 0 2 rfl rfl (show vp_in 0 1 by unfold vp_in; decide) dL_law_808 ?_
    refine lv_iload hx hb dL_law_809 (lv_at hl 0 rfl) ?_
    refine lv_i2l (v := r9.toInt64) hx hb dL_law_811 rfl ?_
    have hcm : x9.2 (0 : Int32).toNatClampNeg = r9.toInt64 := hans c_803
    refine lcmp_eq hx hb dL_law_812 hcm ?_
    refine lv_if_eq (tgt := 818) hx hb dL_law_813 (by decide) (fun _ => ?_) (fun c9 => absurd rfl c9)
    refine lv_goto (tgt := 1556) hx hb dL_law_818 (by decide) ?_
    exact hk _ _ _ _ _ ls hrr hP hD hS (lv_sub hl [2, 3, 4, 5, 6] rfl)
set_option maxHeartbeats 4000000 in
set_option maxRecDepth 100000 in
theorem case_book {p : Program} {l : Launch} {e : Env} {s : State} {m : MethodId} {below : List Frame} {meth : Method} {c : Code} {b L : Nat} {xs : Nat → Int32} {D : va_G} {cI cZ cL : ClassId} {a a2 : Nat → Nat} {o : Nat} {Q : State → Prop} (hfl : l.stackTraces = false) (C0 : lw_At p s m meth c b L xs) (hL : L ≤ 2560) (hK : va_K D vwCl (ty3 cI cZ cL) s) (hEV : EV s) (hZ : SZ (fun q : Nat => s.heap.size ≤ q) s s.heap) {σ μ : St} {g : Nat → Int64} {i C9 S9 : Nat} (hi : i + 5 ≤ L) (hC9 : C9 + 1 ≤ 1098) (hS9 : S9 + 6 ≤ 8929) (hRR : RR σ μ) {H : Heap} {locs : List Loc} {ls : Array Slot} (hP : va_P D vwCl (wL cI cZ cL a o a2 (σ, g) μ) H) (hD : va_D (fun q : Nat => s.heap.size ≤ q) (wL cI cZ cL a o a2 (σ, g) μ)) (hS : va_S (fun q : Nat => s.heap.size ≤ q) s.heap H locs) (hl : lv_has ls 7 [(4, .int (nI i)), (0, .ref b), (1, .ref (a 0)), (2, .ref (a2 0)), (3, .ref o)]) (hk : ∀ (σ μ : St) (g : Nat → Int64) (H : Heap) (locs : List Loc) (ls : Array Slot), RR σ μ → va_P D vwCl (wL cI cZ cL a o a2 (σ, g) μ) H → va_D (fun q : Nat => s.heap.size ≤ q) (wL cI cZ cL a o a2 (σ, g) μ) → va_S (fun q : Nat => s.heap.size ≤ q) s.heap H locs → lv_has ls 7 [(4, .int (nI i)), (0, .ref b), (1, .ref (a 0)), (2, .ref (a2 0)), (3, .ref o)] → W p l e room_1 s m #[Value.ref b] below meth c H locs (C9 + 1) (S9 + 6) Q (F0 m 1556 ls [])) : W p l e room_1 s m #[Value.ref b] below meth c H locs C9 S9 Q (F0 m 821 ls []) := by
  obtain ⟨hx, hb, hr, hml, hown, hts0, hX, hbl, hlocks, hgv⟩ := C0
  have hts : ∀ w ∈ wsL_law, w.before #[Value.ref b] s = true := fun w h => hts0 w (wsL_law_in w h)
  have hA : ∀ q : Nat, s.heap.size ≤ q → (fun q : Nat => s.heap.size ≤ q) q := fun _ h => h
  have hbA : ¬ (fun q : Nat => s.heap.size ≤ q) b := Nat.not_le.mpr hbl
  have hv1 : vp_in (nI i + 1) L := by rw [show (1 : Int32) = nI 1 from rfl, nI_add]; exact vp_in_nI (by omega) (by omega)
  have hv2 : vp_in (nI i + 2) L := by rw [show (2 : Int32) = nI 2 from rfl, nI_add]; exact vp_in_nI (by omega) (by omega)
  have hv3 : vp_in (nI i + 3) L := by rw [show (3 : Int32) = nI 3 from rfl, nI_add]; exact vp_in_nI (by omega) (by omega)
  have hv4 : vp_in (nI i + 4) L := by rw [show (4 : Int32) = nI 4 from rfl, nI_add]; exact vp_in_nI (by omega) (by omega)
  obtain ⟨n, nb, nw, T, Z, J, h⟩ := hRR
  refine lv_aload_n hx hb dL_law_821 rfl (lv_at hl 2 rfl) ?_
  refine lv_aload_n hx hb dL_law_822 rfl (lv_at hl 1 rfl) ?_
  refine lv_iload hx hb dL_law_823 (lv_at hl 0 rfl) ?_
  refine lv_iconst (v := 1) hx hb dL_law_825 (by decide) ?_
  refine lv_iadd hx hb dL_law_826 ?_
  refine va_sld hx hb hX hbl hbA hS hv1 dL_law_827 ?_
  refine lv_aload_n hx hb dL_law_828 rfl (lv_at hl 1 rfl) ?_
  refine lv_iload hx hb dL_law_829 (lv_at hl 0 rfl) ?_
  refine lv_iconst (v := 2) hx hb dL_law_831 (by decide) ?_
  refine lv_iadd hx hb dL_law_832 ?_
  refine va_sld hx hb hX hbl hbA hS hv2 dL_law_833 ?_
  refine lv_aload_n hx hb dL_law_834 rfl (lv_at hl 1 rfl) ?_
  refine lv_iload hx hb dL_law_835 (lv_at hl 0 rfl) ?_
  refine lv_iconst (v := 3) hx hb dL_law_837 (by decide) ?_
  refine lv_iadd hx hb dL_law_838 ?_
  refine va_sld hx hb hX hbl hbA hS hv3 dL_law_839 ?_
  refine lv_aload_n hx hb dL_law_840 rfl (lv_at hl 1 rfl) ?_
  refine lv_iload hx hb dL_law_841 (lv_at hl 0 rfl) ?_
  refine lv_iconst (v := 4) hx hb dL_law_843 (by decide) ?_
  refine lv_iadd hx hb dL_law_844 ?_
  refine va_sld hx hb hX hbl hbA hS hv4 dL_law_845 ?_
  refine lv_aload_n hx hb dL_law_846 rfl (lv_at hl 4 rfl) ?_
  refine LC_callH (As := [.ref (a 0), .int (xs (nI i + 1).toNatClampNeg), .int (xs (nI i + 2).toNatClampNeg), .int (xs (nI i + 3).toNatClampNeg), .int (xs (nI i + 4).toNatClampNeg), .ref o]) (rest := []) ⟨hx, hb, hml, hown, hts⟩ (h_book l D cI cZ cL a o H.size σ g (xs (nI i + 1).toNatClampNeg) (xs (nI i + 2).toNatClampNeg) (xs (nI i + 3).toNatClampNeg) (xs (nI i + 4).toNatClampNeg) (cdBook σ n nb (xs (nI i + 1).toNatClampNeg) (xs (nI i + 2).toNatClampNeg) (xs (nI i + 3).toNatClampNeg) (xs (nI i + 4).toNatClampNeg)) _ (fun sz => c_X5_book l D cI cZ a sz σ hfl (xs (nI i + 1).toNatClampNeg) (xs (nI i + 2).toNatClampNeg) (xs (nI i + 3).toNatClampNeg) (xs (nI i + 4).toNatClampNeg) n h.xn h.n4 nb h.xb h.b30)) (vx_cwSW 6 hts gL_law_L_book rfl rfl rfl (by decide +kernel) ⟨Nat.le_of_ble_eq_true rfl, Nat.le_of_ble_eq_true rfl⟩) hP hK hD hS hA hEV hZ rfl hl.1 (Nat.le_of_ble_eq_true rfl) hC9 hS9 dL_law_847 rfl (fun k9 x9 H locs hx9 hP hD hS => ?_)
  refine lv_istore (lv' := [(5, .int k9), (4, .int (nI i)), (0, .ref b), (1, .ref (a 0)), (2, .ref (a2 0)), (3, .ref o)]) hx hb dL_law_850 hl (by decide) rfl (fun ls hl => ?_)
  refine lv_aload_n hx hb dL_law_852 rfl (lv_at hl 4 rfl) ?_
  refine lv_aload_n hx hb dL_law_853 rfl (lv_at hl 2 rfl) ?_
  refine lv_iload hx hb dL_law_854 (lv_at hl 1 rfl) ?_
  refine lv_iconst (v := 1) hx hb dL_law_856 (by decide) ?_
  refine lv_iadd hx hb dL_law_857 ?_
  refine va_sld hx hb hX hbl hbA hS hv1 dL_law_858 ?_
  refine lv_aload_n hx hb dL_law_859 rfl (lv_at hl 2 rfl) ?_
  refine lv_iload hx hb dL_law_860 (lv_at hl 1 rfl) ?_
  refine lv_iconst (v := 2) hx hb dL_law_862 (by decide) ?_
  refine lv_iadd hx hb dL_law_863 ?_
  refine va_sld hx hb hX hbl hbA hS hv2 dL_law_864 ?_
  refine lv_aload_n hx hb dL_law_865 rfl (lv_at hl 2 rfl) ?_
  refine lv_iload hx hb dL_law_866 (lv_at hl 1 rfl) ?_
  refine lv_iconst (v := 3) hx hb dL_law_868 (by decide) ?_
  refine lv_iadd hx hb dL_law_869 ?_
  refine va_sld hx hb hX hbl hbA hS hv3 dL_law_870 ?_
  refine lv_aload_n hx hb dL_law_871 rfl (lv_at hl 2 rfl) ?_
  refine lv_iload hx hb dL_law_872 (lv_at hl 1 rfl) ?_
  refine lv_iconst (v := 4) hx hb dL_law_874 (by decide) ?_
  refine lv_iadd hx hb dL_law_875 ?_
  refine va_sld hx hb hX hbl hbA hS hv4 dL_law_876 ?_
  refine LC_callM (As := [.int (xs (nI i + 1).toNatClampNeg), .int (xs (nI i + 2).toNatClampNeg), .int (xs (nI i + 3).toNatClampNeg), .int (xs (nI i + 4).toNatClampNeg)]) (rest := []) ⟨hx, hb, hml, hown, hts⟩ (c_X6_book l D cI cZ a2 H.size μ (xs (nI i + 1).toNatClampNeg) (xs (nI i + 2).toNatClampNeg) (xs (nI i + 3).toNatClampNeg) (xs (nI i + 4).toNatClampNeg) n h.yn h.n4 nb h.yb h.b30) (cwV 4 hts gL_law_X6_book rfl rfl rfl (by decide +kernel) ⟨Nat.le_of_ble_eq_true rfl, Nat.le_of_ble_eq_true rfl⟩) hP hK hD hS hA (va_recv hK hP (ci := 6) (q0 := 28) rfl rfl) rfl hl.1 (Nat.le_of_ble_eq_true rfl) (by show C9 + 1 ≤ 1098; omega) (by show S9 + 6 ≤ 8929; omega) dL_law_877 rfl (fun r9 w9 H locs hm9 hP hD hS => ?_)
  have hres := op_gen (g := g) (x := x9) (k := k9) (r2 := r9) (u2 := w9) (P := fun r u => ((mts (σ 14) (σ 15) (σ 16) (σ 17) nb (xs (nI i + 1).toNatClampNeg) (xs (nI i + 2).toNatClampNeg) (xs (nI i + 3).toNatClampNeg) (xs (nI i + 4).toNatClampNeg) ∧ u = σ ∧ r = -1) ∨ (¬ mts (σ 14) (σ 15) (σ 16) (σ 17) nb (xs (nI i + 1).toNatClampNeg) (xs (nI i + 2).toNatClampNeg) (xs (nI i + 3).toNatClampNeg) (xs (nI i + 4).toNatClampNeg) ∧ u = (va_up (va_up (va_up (va_up (va_up (va_up σ 13 (fun _ => nI (nb + 1))) 14 (upd (σ 14) nb (xs (nI i + 1).toNatClampNeg))) 15 (upd (σ 15) nb (xs (nI i + 2).toNatClampNeg))) 16 (upd (σ 16) nb (xs (nI i + 3).toNatClampNeg))) 17 (upd (σ 17) nb (xs (nI i + 4).toNatClampNeg))) 18 (upd (σ 18) nb (-1))) ∧ r = nI nb))) (P2 := fun r u => ((mts (μ 14) (μ 15) (μ 16) (μ 17) nb (xs (nI i + 1).toNatClampNeg) (xs (nI i + 2).toNatClampNeg) (xs (nI i + 3).toNatClampNeg) (xs (nI i + 4).toNatClampNeg) ∧ u = (va_up μ 34 (fun _ => 0)) ∧ r = -1) ∨ (¬ mts (μ 14) (μ 15) (μ 16) (μ 17) nb (xs (nI i + 1).toNatClampNeg) (xs (nI i + 2).toNatClampNeg) (xs (nI i + 3).toNatClampNeg) (xs (nI i + 4).toNatClampNeg) ∧ u = (va_up (va_up (va_up (va_up (va_up (va_up μ 13 (fun _ => nI (nb + 1))) 14 (upd (μ 14) nb (xs (nI i + 1).toNatClampNeg))) 15 (upd (μ 15) nb (xs (nI i + 2).toNatClampNeg))) 16 (upd (μ 16) nb (xs (nI i + 3).toNatClampNeg))) 17 (upd (μ 17) nb (xs (nI i + 4).toNatClampNeg))) 34 (fun _ => 0)) ∧ r = nI nb))) (F := fun v9 => v9.toInt64) ⟨n, nb, nw, T, Z, J, h⟩ (cdBook_e h _ _ _ _) hx9 hm9 (fun h0 v9 u hp hp2 => op_book h h0 hp hp2)
  obtain ⟨hrr, hth, hans⟩ := hres
  refine lv_istore (lv' := [(6, .int r9), (5, .int k9), (4, .int (nI i)), (0, .ref b), (1, .ref (a 0)), (2, .ref (a2 0)), (3, .ref o)]) hx hb dL_law_880 hl (by decide) rfl (fun ls hl => ?_)
  refine lv_aload_n hx hb dL_law_882 rfl (lv_at hl 5 rfl) ?_
  refine LC_callM (As := []) (rest := []) ⟨hx, hb, hml, hown, hts⟩ (c_X6_thrown l D cI cZ a2 H.size w9) (cwV 0 hts gL_law_X6_thrown rfl rfl rfl (by decide +kernel) ⟨Nat.le_of_ble_eq_true rfl, Nat.le_of_ble_eq_true rfl⟩) hP hK hD hS hA (va_recv hK hP (ci := 6) (q0 := 28) rfl rfl) rfl hl.1 (Nat.le_of_ble_eq_true rfl) (by show C9 + 1 ≤ 1098; omega) (by show S9 + 6 ≤ 8929; omega) dL_law_883 rfl (fun r7 u7 H locs hp7 hP hD hS => ?_)
  obtain ⟨eu7, hp7⟩ := hp7
  rw [eu7] at hP hD
  refine lv_iload hx hb dL_law_886 (lv_at hl 1 rfl) ?_
  refine lv_icmp_eq (tgt := 893) hx hb dL_law_888 (by decide) (fun _ => ?_) (fun c9 => absurd (hp7.trans hth) c9)
  refine lv_iload hx hb dL_law_893 (lv_at hl 1 rfl) ?_
  refine lv_if_ne (tgt := 910) hx hb dL_law_895 (by decide) (fun c_895 => ?_) (fun c_895 => ?_)
  · skip
    refine lv_goto (tgt := 1556) hx hb dL_law_910 (by decide) ?_
    exact hk _ _ _ _ _ ls hrr hP hD hS (lv_sub hl [2, 3, 4, 5, 6] rfl)
  · skip
    refine lv_aload_n hx hb dL_law_898 rfl (lv_at hl 6 rfl) ?_
    refine lv_iconst (v := 0) hx hb dL_law_899 (by decide) ?_
    refine va_lald hx hb hK hP 0 2 rfl rfl (show vp_in 0 1 by unfold vp_in; decide) dL_law_900 ?_
    refine lv_iload hx hb dL_law_901 (lv_at hl 0 rfl) ?_
    refine lv_i2l (v := r9.toInt64) hx hb dL_law_903 rfl ?_
    have hcm : x9.2 (0 : Int32).toNatClampNeg = r9.toInt64 := hans c_895
    refine lcmp_eq hx hb dL_law_904 hcm ?_
    refine lv_if_eq (tgt := 910) hx hb dL_law_905 (by decide) (fun _ => ?_) (fun c9 => absurd rfl c9)
    refine lv_goto (tgt := 1556) hx hb dL_law_910 (by decide) ?_
    exact hk _ _ _ _ _ ls hrr hP hD hS (lv_sub hl [2, 3, 4, 5, 6] rfl)
set_option maxHeartbeats 4000000 in
set_option maxRecDepth 100000 in
theorem case_canBook {p : Program} {l : Launch} {e : Env} {s : State} {m : MethodId} {below : List Frame} {meth : Method} {c : Code} {b L : Nat} {xs : Nat → Int32} {D : va_G} {cI cZ cL : ClassId} {a a2 : Nat → Nat} {o : Nat} {Q : State → Prop} (hfl : l.stackTraces = false) (C0 : lw_At p s m meth c b L xs) (hL : L ≤ 2560) (hK : va_K D vwCl (ty3 cI cZ cL) s) (hEV : EV s) (hZ : SZ (fun q : Nat => s.heap.size ≤ q) s s.heap) {σ μ : St} {g : Nat → Int64} {i C9 S9 : Nat} (hi : i + 5 ≤ L) (hC9 : C9 + 1 ≤ 1098) (hS9 : S9 + 6 ≤ 8929) (hRR : RR σ μ) {H : Heap} {locs : List Loc} {ls : Array Slot} (hP : va_P D vwCl (wL cI cZ cL a o a2 (σ, g) μ) H) (hD : va_D (fun q : Nat => s.heap.size ≤ q) (wL cI cZ cL a o a2 (σ, g) μ)) (hS : va_S (fun q : Nat => s.heap.size ≤ q) s.heap H locs) (hl : lv_has ls 7 [(4, .int (nI i)), (0, .ref b), (1, .ref (a 0)), (2, .ref (a2 0)), (3, .ref o)]) (hk : ∀ (σ μ : St) (g : Nat → Int64) (H : Heap) (locs : List Loc) (ls : Array Slot), RR σ μ → va_P D vwCl (wL cI cZ cL a o a2 (σ, g) μ) H → va_D (fun q : Nat => s.heap.size ≤ q) (wL cI cZ cL a o a2 (σ, g) μ) → va_S (fun q : Nat => s.heap.size ≤ q) s.heap H locs → lv_has ls 7 [(4, .int (nI i)), (0, .ref b), (1, .ref (a 0)), (2, .ref (a2 0)), (3, .ref o)] → W p l e room_1 s m #[Value.ref b] below meth c H locs (C9 + 1) (S9 + 6) Q (F0 m 1556 ls [])) : W p l e room_1 s m #[Value.ref b] below meth c H locs C9 S9 Q (F0 m 913 ls []) := by
  obtain ⟨hx, hb, hr, hml, hown, hts0, hX, hbl, hlocks, hgv⟩ := C0
  have hts : ∀ w ∈ wsL_law, w.before #[Value.ref b] s = true := fun w h => hts0 w (wsL_law_in w h)
  have hA : ∀ q : Nat, s.heap.size ≤ q → (fun q : Nat => s.heap.size ≤ q) q := fun _ h => h
  have hbA : ¬ (fun q : Nat => s.heap.size ≤ q) b := Nat.not_le.mpr hbl
  have hv1 : vp_in (nI i + 1) L := by rw [show (1 : Int32) = nI 1 from rfl, nI_add]; exact vp_in_nI (by omega) (by omega)
  have hv2 : vp_in (nI i + 2) L := by rw [show (2 : Int32) = nI 2 from rfl, nI_add]; exact vp_in_nI (by omega) (by omega)
  have hv3 : vp_in (nI i + 3) L := by rw [show (3 : Int32) = nI 3 from rfl, nI_add]; exact vp_in_nI (by omega) (by omega)
  have hv4 : vp_in (nI i + 4) L := by rw [show (4 : Int32) = nI 4 from rfl, nI_add]; exact vp_in_nI (by omega) (by omega)
  obtain ⟨n, nb, nw, T, Z, J, h⟩ := hRR
  refine lv_aload_n hx hb dL_law_913 rfl (lv_at hl 2 rfl) ?_
  refine lv_aload_n hx hb dL_law_914 rfl (lv_at hl 1 rfl) ?_
  refine lv_iload hx hb dL_law_915 (lv_at hl 0 rfl) ?_
  refine lv_iconst (v := 1) hx hb dL_law_917 (by decide) ?_
  refine lv_iadd hx hb dL_law_918 ?_
  refine va_sld hx hb hX hbl hbA hS hv1 dL_law_919 ?_
  refine lv_aload_n hx hb dL_law_920 rfl (lv_at hl 1 rfl) ?_
  refine lv_iload hx hb dL_law_921 (lv_at hl 0 rfl) ?_
  refine lv_iconst (v := 2) hx hb dL_law_923 (by decide) ?_
  refine lv_iadd hx hb dL_law_924 ?_
  refine va_sld hx hb hX hbl hbA hS hv2 dL_law_925 ?_
  refine lv_aload_n hx hb dL_law_926 rfl (lv_at hl 1 rfl) ?_
  refine lv_iload hx hb dL_law_927 (lv_at hl 0 rfl) ?_
  refine lv_iconst (v := 3) hx hb dL_law_929 (by decide) ?_
  refine lv_iadd hx hb dL_law_930 ?_
  refine va_sld hx hb hX hbl hbA hS hv3 dL_law_931 ?_
  refine lv_aload_n hx hb dL_law_932 rfl (lv_at hl 1 rfl) ?_
  refine lv_iload hx hb dL_law_933 (lv_at hl 0 rfl) ?_
  refine lv_iconst (v := 4) hx hb dL_law_935 (by decide) ?_
  refine lv_iadd hx hb dL_law_936 ?_
  refine va_sld hx hb hX hbl hbA hS hv4 dL_law_937 ?_
  refine lv_aload_n hx hb dL_law_938 rfl (lv_at hl 4 rfl) ?_
  refine LC_callH (As := [.ref (a 0), .int (xs (nI i + 1).toNatClampNeg), .int (xs (nI i + 2).toNatClampNeg), .int (xs (nI i + 3).toNatClampNeg), .int (xs (nI i + 4).toNatClampNeg), .ref o]) (rest := []) ⟨hx, hb, hml, hown, hts⟩ (h_canBook l D cI cZ cL a o H.size σ g (xs (nI i + 1).toNatClampNeg) (xs (nI i + 2).toNatClampNeg) (xs (nI i + 3).toNatClampNeg) (xs (nI i + 4).toNatClampNeg) (cdCan n (xs (nI i + 1).toNatClampNeg) (xs (nI i + 2).toNatClampNeg) (xs (nI i + 3).toNatClampNeg) (xs (nI i + 4).toNatClampNeg)) _ (fun sz => c_X5_canBook l D cI cZ a sz σ hfl (xs (nI i + 1).toNatClampNeg) (xs (nI i + 2).toNatClampNeg) (xs (nI i + 3).toNatClampNeg) (xs (nI i + 4).toNatClampNeg) n h.xn h.n4 nb h.xb h.b30)) (vx_cwSW 6 hts gL_law_L_canBook rfl rfl rfl (by decide +kernel) ⟨Nat.le_of_ble_eq_true rfl, Nat.le_of_ble_eq_true rfl⟩) hP hK hD hS hA hEV hZ rfl hl.1 (Nat.le_of_ble_eq_true rfl) hC9 hS9 dL_law_939 rfl (fun k9 x9 H locs hx9 hP hD hS => ?_)
  refine lv_istore (lv' := [(5, .int k9), (4, .int (nI i)), (0, .ref b), (1, .ref (a 0)), (2, .ref (a2 0)), (3, .ref o)]) hx hb dL_law_942 hl (by decide) rfl (fun ls hl => ?_)
  refine lv_aload_n hx hb dL_law_944 rfl (lv_at hl 4 rfl) ?_
  refine lv_aload_n hx hb dL_law_945 rfl (lv_at hl 2 rfl) ?_
  refine lv_iload hx hb dL_law_946 (lv_at hl 1 rfl) ?_
  refine lv_iconst (v := 1) hx hb dL_law_948 (by decide) ?_
  refine lv_iadd hx hb dL_law_949 ?_
  refine va_sld hx hb hX hbl hbA hS hv1 dL_law_950 ?_
  refine lv_aload_n hx hb dL_law_951 rfl (lv_at hl 2 rfl) ?_
  refine lv_iload hx hb dL_law_952 (lv_at hl 1 rfl) ?_
  refine lv_iconst (v := 2) hx hb dL_law_954 (by decide) ?_
  refine lv_iadd hx hb dL_law_955 ?_
  refine va_sld hx hb hX hbl hbA hS hv2 dL_law_956 ?_
  refine lv_aload_n hx hb dL_law_957 rfl (lv_at hl 2 rfl) ?_
  refine lv_iload hx hb dL_law_958 (lv_at hl 1 rfl) ?_
  refine lv_iconst (v := 3) hx hb dL_law_960 (by decide) ?_
  refine lv_iadd hx hb dL_law_961 ?_
  refine va_sld hx hb hX hbl hbA hS hv3 dL_law_962 ?_
  refine lv_aload_n hx hb dL_law_963 rfl (lv_at hl 2 rfl) ?_
  refine lv_iload hx hb dL_law_964 (lv_at hl 1 rfl) ?_
  refine lv_iconst (v := 4) hx hb dL_law_966 (by decide) ?_
  refine lv_iadd hx hb dL_law_967 ?_
  refine va_sld hx hb hX hbl hbA hS hv4 dL_law_968 ?_
  refine LC_callM (As := [.int (xs (nI i + 1).toNatClampNeg), .int (xs (nI i + 2).toNatClampNeg), .int (xs (nI i + 3).toNatClampNeg), .int (xs (nI i + 4).toNatClampNeg)]) (rest := []) ⟨hx, hb, hml, hown, hts⟩ (c_X6_canBook l D cI cZ a2 H.size μ (xs (nI i + 1).toNatClampNeg) (xs (nI i + 2).toNatClampNeg) (xs (nI i + 3).toNatClampNeg) (xs (nI i + 4).toNatClampNeg) n h.yn h.n4 nb h.yb h.b30) (cwV 4 hts gL_law_X6_canBook rfl rfl rfl (by decide +kernel) ⟨Nat.le_of_ble_eq_true rfl, Nat.le_of_ble_eq_true rfl⟩) hP hK hD hS hA (va_recv hK hP (ci := 6) (q0 := 28) rfl rfl) rfl hl.1 (Nat.le_of_ble_eq_true rfl) (by show C9 + 1 ≤ 1098; omega) (by show S9 + 6 ≤ 8929; omega) dL_law_969 rfl (fun r9 w9 H locs hm9 hP hD hS => ?_)
  have hm9 : (¬ cdCan n (xs (nI i + 1).toNatClampNeg) (xs (nI i + 2).toNatClampNeg) (xs (nI i + 3).toNatClampNeg) (xs (nI i + 4).toNatClampNeg) = 0 ∧ w9 = va_up μ 34 (fun _ => cdCan n (xs (nI i + 1).toNatClampNeg) (xs (nI i + 2).toNatClampNeg) (xs (nI i + 3).toNatClampNeg) (xs (nI i + 4).toNatClampNeg))) ∨ (cdCan n (xs (nI i + 1).toNatClampNeg) (xs (nI i + 2).toNatClampNeg) (xs (nI i + 3).toNatClampNeg) (xs (nI i + 4).toNatClampNeg) = 0 ∧ (w9 = (va_up μ 34 (fun _ => 0)) ∧ r9 = bI (¬ mts (μ 14) (μ 15) (μ 16) (μ 17) nb (xs (nI i + 1).toNatClampNeg) (xs (nI i + 2).toNatClampNeg) (xs (nI i + 3).toNatClampNeg) (xs (nI i + 4).toNatClampNeg)))) := by
    rcases hm9 with ⟨q1, q2, _⟩ | ⟨q1, q2, q3, q4⟩ | ⟨q1, q2, q3, q4⟩
    · exact Or.inl ⟨q1, q2⟩
    · exact Or.inr ⟨q1, q3, q4.trans (bI_t q2).symm⟩
    · exact Or.inr ⟨q1, q3, q4.trans (bI_f (fun z => z q2)).symm⟩
  have hres := op_gen (g := g) (x := x9) (k := k9) (r2 := r9) (u2 := w9) (P := fun r u => u = σ ∧ r = bI (¬ mts (σ 14) (σ 15) (σ 16) (σ 17) nb (xs (nI i + 1).toNatClampNeg) (xs (nI i + 2).toNatClampNeg) (xs (nI i + 3).toNatClampNeg) (xs (nI i + 4).toNatClampNeg))) (P2 := fun r u => u = (va_up μ 34 (fun _ => 0)) ∧ r = bI (¬ mts (μ 14) (μ 15) (μ 16) (μ 17) nb (xs (nI i + 1).toNatClampNeg) (xs (nI i + 2).toNatClampNeg) (xs (nI i + 3).toNatClampNeg) (xs (nI i + 4).toNatClampNeg))) (F := fun v9 => if v9 = 0 then 0 else 1) ⟨n, nb, nw, T, Z, J, h⟩ rfl hx9 hm9 (fun h0 v9 u hp hp2 => op_ask h (by rw [h.e14, h.e15, h.e16, h.e17]) hp hp2)
  obtain ⟨hrr, hth, hans⟩ := hres
  refine lv_istore (lv' := [(6, .int r9), (5, .int k9), (4, .int (nI i)), (0, .ref b), (1, .ref (a 0)), (2, .ref (a2 0)), (3, .ref o)]) hx hb dL_law_972 hl (by decide) rfl (fun ls hl => ?_)
  refine lv_aload_n hx hb dL_law_974 rfl (lv_at hl 5 rfl) ?_
  refine LC_callM (As := []) (rest := []) ⟨hx, hb, hml, hown, hts⟩ (c_X6_thrown l D cI cZ a2 H.size w9) (cwV 0 hts gL_law_X6_thrown rfl rfl rfl (by decide +kernel) ⟨Nat.le_of_ble_eq_true rfl, Nat.le_of_ble_eq_true rfl⟩) hP hK hD hS hA (va_recv hK hP (ci := 6) (q0 := 28) rfl rfl) rfl hl.1 (Nat.le_of_ble_eq_true rfl) (by show C9 + 1 ≤ 1098; omega) (by show S9 + 6 ≤ 8929; omega) dL_law_975 rfl (fun r7 u7 H locs hp7 hP hD hS => ?_)
  obtain ⟨eu7, hp7⟩ := hp7
  rw [eu7] at hP hD
  refine lv_iload hx hb dL_law_978 (lv_at hl 1 rfl) ?_
  refine lv_icmp_eq (tgt := 985) hx hb dL_law_980 (by decide) (fun _ => ?_) (fun c9 => absurd (hp7.trans hth) c9)
  refine lv_iload hx hb dL_law_985 (lv_at hl 1 rfl) ?_
  refine lv_if_ne (tgt := 1009) hx hb dL_law_987 (by decide) (fun c_987 => ?_) (fun c_987 => ?_)
  · skip
    refine lv_goto (tgt := 1556) hx hb dL_law_1009 (by decide) ?_
    exact hk _ _ _ _ _ ls hrr hP hD hS (lv_sub hl [2, 3, 4, 5, 6] rfl)
  · skip
    refine lv_aload_n hx hb dL_law_990 rfl (lv_at hl 6 rfl) ?_
    refine lv_iconst (v := 0) hx hb dL_law_991 (by decide) ?_
    refine va_lald hx hb hK hP 0 2 rfl rfl (show vp_in 0 1 by unfold vp_in; decide) dL_law_992 ?_
    refine lv_iload hx hb dL_law_993 (lv_at hl 0 rfl) ?_
    refine lv_if_eq (tgt := 1002) hx hb dL_law_995 (by decide) (fun c_995 => ?_) (fun c_995 => ?_)
    · skip
      refine lv_lconst (v := 0) hx hb dL_law_1002 (by decide) ?_
      have hcm : x9.2 (0 : Int32).toNatClampNeg = 0 := (hans c_987).trans (if_pos c_995)
      refine lcmp_eq hx hb dL_law_1003 hcm ?_
      refine lv_if_eq (tgt := 1009) hx hb dL_law_1004 (by decide) (fun _ => ?_) (fun c9 => absurd rfl c9)
      refine lv_goto (tgt := 1556) hx hb dL_law_1009 (by decide) ?_
      exact hk _ _ _ _ _ ls hrr hP hD hS (lv_sub hl [2, 3, 4, 5, 6] rfl)
    · skip
      refine lv_lconst (v := 1) hx hb dL_law_998 (by decide) ?_
      refine lv_goto (tgt := 1003) hx hb dL_law_999 (by decide) ?_
      have hcm : x9.2 (0 : Int32).toNatClampNeg = 1 := (hans c_987).trans (if_neg c_995)
      refine lcmp_eq hx hb dL_law_1003 hcm ?_
      refine lv_if_eq (tgt := 1009) hx hb dL_law_1004 (by decide) (fun _ => ?_) (fun c9 => absurd rfl c9)
      refine lv_goto (tgt := 1556) hx hb dL_law_1009 (by decide) ?_
      exact hk _ _ _ _ _ ls hrr hP hD hS (lv_sub hl [2, 3, 4, 5, 6] rfl)
set_option maxHeartbeats 4000000 in
set_option maxRecDepth 100000 in
theorem case_canBookByMinutes {p : Program} {l : Launch} {e : Env} {s : State} {m : MethodId} {below : List Frame} {meth : Method} {c : Code} {b L : Nat} {xs : Nat → Int32} {D : va_G} {cI cZ cL : ClassId} {a a2 : Nat → Nat} {o : Nat} {Q : State → Prop} (hfl : l.stackTraces = false) (C0 : lw_At p s m meth c b L xs) (hL : L ≤ 2560) (hK : va_K D vwCl (ty3 cI cZ cL) s) (hEV : EV s) (hZ : SZ (fun q : Nat => s.heap.size ≤ q) s s.heap) {σ μ : St} {g : Nat → Int64} {i C9 S9 : Nat} (hi : i + 5 ≤ L) (hC9 : C9 + 1 ≤ 1098) (hS9 : S9 + 6 ≤ 8929) (hRR : RR σ μ) {H : Heap} {locs : List Loc} {ls : Array Slot} (hP : va_P D vwCl (wL cI cZ cL a o a2 (σ, g) μ) H) (hD : va_D (fun q : Nat => s.heap.size ≤ q) (wL cI cZ cL a o a2 (σ, g) μ)) (hS : va_S (fun q : Nat => s.heap.size ≤ q) s.heap H locs) (hl : lv_has ls 7 [(4, .int (nI i)), (0, .ref b), (1, .ref (a 0)), (2, .ref (a2 0)), (3, .ref o)]) (hk : ∀ (σ μ : St) (g : Nat → Int64) (H : Heap) (locs : List Loc) (ls : Array Slot), RR σ μ → va_P D vwCl (wL cI cZ cL a o a2 (σ, g) μ) H → va_D (fun q : Nat => s.heap.size ≤ q) (wL cI cZ cL a o a2 (σ, g) μ) → va_S (fun q : Nat => s.heap.size ≤ q) s.heap H locs → lv_has ls 7 [(4, .int (nI i)), (0, .ref b), (1, .ref (a 0)), (2, .ref (a2 0)), (3, .ref o)] → W p l e room_1 s m #[Value.ref b] below meth c H locs (C9 + 1) (S9 + 6) Q (F0 m 1556 ls [])) : W p l e room_1 s m #[Value.ref b] below meth c H locs C9 S9 Q (F0 m 1012 ls []) := by
  obtain ⟨hx, hb, hr, hml, hown, hts0, hX, hbl, hlocks, hgv⟩ := C0
  have hts : ∀ w ∈ wsL_law, w.before #[Value.ref b] s = true := fun w h => hts0 w (wsL_law_in w h)
  have hA : ∀ q : Nat, s.heap.size ≤ q → (fun q : Nat => s.heap.size ≤ q) q := fun _ h => h
  have hbA : ¬ (fun q : Nat => s.heap.size ≤ q) b := Nat.not_le.mpr hbl
  have hv1 : vp_in (nI i + 1) L := by rw [show (1 : Int32) = nI 1 from rfl, nI_add]; exact vp_in_nI (by omega) (by omega)
  have hv2 : vp_in (nI i + 2) L := by rw [show (2 : Int32) = nI 2 from rfl, nI_add]; exact vp_in_nI (by omega) (by omega)
  have hv3 : vp_in (nI i + 3) L := by rw [show (3 : Int32) = nI 3 from rfl, nI_add]; exact vp_in_nI (by omega) (by omega)
  have hv4 : vp_in (nI i + 4) L := by rw [show (4 : Int32) = nI 4 from rfl, nI_add]; exact vp_in_nI (by omega) (by omega)
  obtain ⟨n, nb, nw, T, Z, J, h⟩ := hRR
  refine lv_aload_n hx hb dL_law_1012 rfl (lv_at hl 2 rfl) ?_
  refine lv_aload_n hx hb dL_law_1013 rfl (lv_at hl 1 rfl) ?_
  refine lv_iload hx hb dL_law_1014 (lv_at hl 0 rfl) ?_
  refine lv_iconst (v := 1) hx hb dL_law_1016 (by decide) ?_
  refine lv_iadd hx hb dL_law_1017 ?_
  refine va_sld hx hb hX hbl hbA hS hv1 dL_law_1018 ?_
  refine lv_aload_n hx hb dL_law_1019 rfl (lv_at hl 1 rfl) ?_
  refine lv_iload hx hb dL_law_1020 (lv_at hl 0 rfl) ?_
  refine lv_iconst (v := 2) hx hb dL_law_1022 (by decide) ?_
  refine lv_iadd hx hb dL_law_1023 ?_
  refine va_sld hx hb hX hbl hbA hS hv2 dL_law_1024 ?_
  refine lv_aload_n hx hb dL_law_1025 rfl (lv_at hl 1 rfl) ?_
  refine lv_iload hx hb dL_law_1026 (lv_at hl 0 rfl) ?_
  refine lv_iconst (v := 3) hx hb dL_law_1028 (by decide) ?_
  refine lv_iadd hx hb dL_law_1029 ?_
  refine va_sld hx hb hX hbl hbA hS hv3 dL_law_1030 ?_
  refine lv_aload_n hx hb dL_law_1031 rfl (lv_at hl 1 rfl) ?_
  refine lv_iload hx hb dL_law_1032 (lv_at hl 0 rfl) ?_
  refine lv_iconst (v := 4) hx hb dL_law_1034 (by decide) ?_
  refine lv_iadd hx hb dL_law_1035 ?_
  refine va_sld hx hb hX hbl hbA hS hv4 dL_law_1036 ?_
  refine lv_aload_n hx hb dL_law_1037 rfl (lv_at hl 4 rfl) ?_
  refine LC_callH (As := [.ref (a 0), .int (xs (nI i + 1).toNatClampNeg), .int (xs (nI i + 2).toNatClampNeg), .int (xs (nI i + 3).toNatClampNeg), .int (xs (nI i + 4).toNatClampNeg), .ref o]) (rest := []) ⟨hx, hb, hml, hown, hts⟩ (h_canBookByMinutes l D cI cZ cL a o H.size σ g (xs (nI i + 1).toNatClampNeg) (xs (nI i + 2).toNatClampNeg) (xs (nI i + 3).toNatClampNeg) (xs (nI i + 4).toNatClampNeg) (cdCan n (xs (nI i + 1).toNatClampNeg) (xs (nI i + 2).toNatClampNeg) (xs (nI i + 3).toNatClampNeg) (xs (nI i + 4).toNatClampNeg)) _ (fun sz => c_X5_canBookByMinutes l D cI cZ a sz σ hfl (xs (nI i + 1).toNatClampNeg) (xs (nI i + 2).toNatClampNeg) (xs (nI i + 3).toNatClampNeg) (xs (nI i + 4).toNatClampNeg) n h.xn h.n4 nb h.xb h.b30 h.fL)) (vx_cwSW 6 hts gL_law_L_canBookByMinutes rfl rfl rfl (by decide +kernel) ⟨Nat.le_of_ble_eq_true rfl, Nat.le_of_ble_eq_true rfl⟩) hP hK hD hS hA hEV hZ rfl hl.1 (Nat.le_of_ble_eq_true rfl) hC9 hS9 dL_law_1038 rfl (fun k9 x9 H locs hx9 hP hD hS => ?_)
  refine lv_istore (lv' := [(5, .int k9), (4, .int (nI i)), (0, .ref b), (1, .ref (a 0)), (2, .ref (a2 0)), (3, .ref o)]) hx hb dL_law_1041 hl (by decide) rfl (fun ls hl => ?_)
  refine lv_aload_n hx hb dL_law_1043 rfl (lv_at hl 4 rfl) ?_
  refine lv_aload_n hx hb dL_law_1044 rfl (lv_at hl 2 rfl) ?_
  refine lv_iload hx hb dL_law_1045 (lv_at hl 1 rfl) ?_
  refine lv_iconst (v := 1) hx hb dL_law_1047 (by decide) ?_
  refine lv_iadd hx hb dL_law_1048 ?_
  refine va_sld hx hb hX hbl hbA hS hv1 dL_law_1049 ?_
  refine lv_aload_n hx hb dL_law_1050 rfl (lv_at hl 2 rfl) ?_
  refine lv_iload hx hb dL_law_1051 (lv_at hl 1 rfl) ?_
  refine lv_iconst (v := 2) hx hb dL_law_1053 (by decide) ?_
  refine lv_iadd hx hb dL_law_1054 ?_
  refine va_sld hx hb hX hbl hbA hS hv2 dL_law_1055 ?_
  refine lv_aload_n hx hb dL_law_1056 rfl (lv_at hl 2 rfl) ?_
  refine lv_iload hx hb dL_law_1057 (lv_at hl 1 rfl) ?_
  refine lv_iconst (v := 3) hx hb dL_law_1059 (by decide) ?_
  refine lv_iadd hx hb dL_law_1060 ?_
  refine va_sld hx hb hX hbl hbA hS hv3 dL_law_1061 ?_
  refine lv_aload_n hx hb dL_law_1062 rfl (lv_at hl 2 rfl) ?_
  refine lv_iload hx hb dL_law_1063 (lv_at hl 1 rfl) ?_
  refine lv_iconst (v := 4) hx hb dL_law_1065 (by decide) ?_
  refine lv_iadd hx hb dL_law_1066 ?_
  refine va_sld hx hb hX hbl hbA hS hv4 dL_law_1067 ?_
  refine LC_callM (As := [.int (xs (nI i + 1).toNatClampNeg), .int (xs (nI i + 2).toNatClampNeg), .int (xs (nI i + 3).toNatClampNeg), .int (xs (nI i + 4).toNatClampNeg)]) (rest := []) ⟨hx, hb, hml, hown, hts⟩ (c_X6_canBookByMinutes l D cI cZ a2 H.size μ (xs (nI i + 1).toNatClampNeg) (xs (nI i + 2).toNatClampNeg) (xs (nI i + 3).toNatClampNeg) (xs (nI i + 4).toNatClampNeg) n h.yn h.n4 nb h.yb h.b30) (cwV 4 hts gL_law_X6_canBookByMinutes rfl rfl rfl (by decide +kernel) ⟨Nat.le_of_ble_eq_true rfl, Nat.le_of_ble_eq_true rfl⟩) hP hK hD hS hA (va_recv hK hP (ci := 6) (q0 := 28) rfl rfl) rfl hl.1 (Nat.le_of_ble_eq_true rfl) (by show C9 + 1 ≤ 1098; omega) (by show S9 + 6 ≤ 8929; omega) dL_law_1068 rfl (fun r9 w9 H locs hm9 hP hD hS => ?_)
  have hm9 : (¬ cdCan n (xs (nI i + 1).toNatClampNeg) (xs (nI i + 2).toNatClampNeg) (xs (nI i + 3).toNatClampNeg) (xs (nI i + 4).toNatClampNeg) = 0 ∧ w9 = va_up μ 34 (fun _ => cdCan n (xs (nI i + 1).toNatClampNeg) (xs (nI i + 2).toNatClampNeg) (xs (nI i + 3).toNatClampNeg) (xs (nI i + 4).toNatClampNeg))) ∨ (cdCan n (xs (nI i + 1).toNatClampNeg) (xs (nI i + 2).toNatClampNeg) (xs (nI i + 3).toNatClampNeg) (xs (nI i + 4).toNatClampNeg) = 0 ∧ (w9 = (va_up μ 34 (fun _ => 0)) ∧ r9 = bI (¬ mts (μ 14) (μ 15) (μ 16) (μ 17) nb (xs (nI i + 1).toNatClampNeg) (xs (nI i + 2).toNatClampNeg) (xs (nI i + 3).toNatClampNeg) (xs (nI i + 4).toNatClampNeg)))) := by
    rcases hm9 with ⟨q1, q2, _⟩ | ⟨q1, q2, q3, q4⟩ | ⟨q1, q2, q3, q4⟩
    · exact Or.inl ⟨q1, q2⟩
    · exact Or.inr ⟨q1, q3, q4.trans (bI_t q2).symm⟩
    · exact Or.inr ⟨q1, q3, q4.trans (bI_f (fun z => z q2)).symm⟩
  have hres := op_gen (g := g) (x := x9) (k := k9) (r2 := r9) (u2 := w9) (P := fun r u => u = σ ∧ r = bI (¬ mts (σ 14) (σ 15) (σ 16) (σ 17) nb (xs (nI i + 1).toNatClampNeg) (xs (nI i + 2).toNatClampNeg) (xs (nI i + 3).toNatClampNeg) (xs (nI i + 4).toNatClampNeg))) (P2 := fun r u => u = (va_up μ 34 (fun _ => 0)) ∧ r = bI (¬ mts (μ 14) (μ 15) (μ 16) (μ 17) nb (xs (nI i + 1).toNatClampNeg) (xs (nI i + 2).toNatClampNeg) (xs (nI i + 3).toNatClampNeg) (xs (nI i + 4).toNatClampNeg))) (F := fun v9 => if v9 = 0 then 0 else 1) ⟨n, nb, nw, T, Z, J, h⟩ rfl hx9 hm9 (fun h0 v9 u hp hp2 => op_ask h (by rw [h.e14, h.e15, h.e16, h.e17]) hp hp2)
  obtain ⟨hrr, hth, hans⟩ := hres
  refine lv_istore (lv' := [(6, .int r9), (5, .int k9), (4, .int (nI i)), (0, .ref b), (1, .ref (a 0)), (2, .ref (a2 0)), (3, .ref o)]) hx hb dL_law_1071 hl (by decide) rfl (fun ls hl => ?_)
  refine lv_aload_n hx hb dL_law_1073 rfl (lv_at hl 5 rfl) ?_
  refine LC_callM (As := []) (rest := []) ⟨hx, hb, hml, hown, hts⟩ (c_X6_thrown l D cI cZ a2 H.size w9) (cwV 0 hts gL_law_X6_thrown rfl rfl rfl (by decide +kernel) ⟨Nat.le_of_ble_eq_true rfl, Nat.le_of_ble_eq_true rfl⟩) hP hK hD hS hA (va_recv hK hP (ci := 6) (q0 := 28) rfl rfl) rfl hl.1 (Nat.le_of_ble_eq_true rfl) (by show C9 + 1 ≤ 1098; omega) (by show S9 + 6 ≤ 8929; omega) dL_law_1074 rfl (fun r7 u7 H locs hp7 hP hD hS => ?_)
  obtain ⟨eu7, hp7⟩ := hp7
  rw [eu7] at hP hD
  refine lv_iload hx hb dL_law_1077 (lv_at hl 1 rfl) ?_
  refine lv_icmp_eq (tgt := 1084) hx hb dL_law_1079 (by decide) (fun _ => ?_) (fun c9 => absurd (hp7.trans hth) c9)
  refine lv_iload hx hb dL_law_1084 (lv_at hl 1 rfl) ?_
  refine lv_if_ne (tgt := 1108) hx hb dL_law_1086 (by decide) (fun c_1086 => ?_) (fun c_1086 => ?_)
  · skip
    refine lv_goto (tgt := 1556) hx hb dL_law_1108 (by decide) ?_
    exact hk _ _ _ _ _ ls hrr hP hD hS (lv_sub hl [2, 3, 4, 5, 6] rfl)
  · skip
    refine lv_aload_n hx hb dL_law_1089 rfl (lv_at hl 6 rfl) ?_
    refine lv_iconst (v := 0) hx hb dL_law_1090 (by decide) ?_
    refine va_lald hx hb hK hP 0 2 rfl rfl (show vp_in 0 1 by unfold vp_in; decide) dL_law_1091 ?_
    refine lv_iload hx hb dL_law_1092 (lv_at hl 0 rfl) ?_
    refine lv_if_eq (tgt := 1101) hx hb dL_law_1094 (by decide) (fun c_1094 => ?_) (fun c_1094 => ?_)
    · skip
      refine lv_lconst (v := 0) hx hb dL_law_1101 (by decide) ?_
      have hcm : x9.2 (0 : Int32).toNatClampNeg = 0 := (hans c_1086).trans (if_pos c_1094)
      refine lcmp_eq hx hb dL_law_1102 hcm ?_
      refine lv_if_eq (tgt := 1108) hx hb dL_law_1103 (by decide) (fun _ => ?_) (fun c9 => absurd rfl c9)
      refine lv_goto (tgt := 1556) hx hb dL_law_1108 (by decide) ?_
      exact hk _ _ _ _ _ ls hrr hP hD hS (lv_sub hl [2, 3, 4, 5, 6] rfl)
    · skip
      refine lv_lconst (v := 1) hx hb dL_law_1097 (by decide) ?_
      refine lv_goto (tgt := 1102) hx hb dL_law_1098 (by decide) ?_
      have hcm : x9.2 (0 : Int32).toNatClampNeg = 1 := (hans c_1086).trans (if_neg c_1094)
      refine lcmp_eq hx hb dL_law_1102 hcm ?_
      refine lv_if_eq (tgt := 1108) hx hb dL_law_1103 (by decide) (fun _ => ?_) (fun c9 => absurd rfl c9)
      refine lv_goto (tgt := 1556) hx hb dL_law_1108 (by decide) ?_
      exact hk _ _ _ _ _ ls hrr hP hD hS (lv_sub hl [2, 3, 4, 5, 6] rfl)
set_option maxHeartbeats 4000000 in
set_option maxRecDepth 100000 in
theorem case_booking {p : Program} {l : Launch} {e : Env} {s : State} {m : MethodId} {below : List Frame} {meth : Method} {c : Code} {b L : Nat} {xs : Nat → Int32} {D : va_G} {cI cZ cL : ClassId} {a a2 : Nat → Nat} {o : Nat} {Q : State → Prop} (hfl : l.stackTraces = false) (C0 : lw_At p s m meth c b L xs) (hL : L ≤ 2560) (hK : va_K D vwCl (ty3 cI cZ cL) s) (hEV : EV s) (hZ : SZ (fun q : Nat => s.heap.size ≤ q) s s.heap) {σ μ : St} {g : Nat → Int64} {i C9 S9 : Nat} (hi : i + 5 ≤ L) (hC9 : C9 + 1 ≤ 1098) (hS9 : S9 + 6 ≤ 8929) (hRR : RR σ μ) {H : Heap} {locs : List Loc} {ls : Array Slot} (hP : va_P D vwCl (wL cI cZ cL a o a2 (σ, g) μ) H) (hD : va_D (fun q : Nat => s.heap.size ≤ q) (wL cI cZ cL a o a2 (σ, g) μ)) (hS : va_S (fun q : Nat => s.heap.size ≤ q) s.heap H locs) (hl : lv_has ls 7 [(4, .int (nI i)), (0, .ref b), (1, .ref (a 0)), (2, .ref (a2 0)), (3, .ref o)]) (hk : ∀ (σ μ : St) (g : Nat → Int64) (H : Heap) (locs : List Loc) (ls : Array Slot), RR σ μ → va_P D vwCl (wL cI cZ cL a o a2 (σ, g) μ) H → va_D (fun q : Nat => s.heap.size ≤ q) (wL cI cZ cL a o a2 (σ, g) μ) → va_S (fun q : Nat => s.heap.size ≤ q) s.heap H locs → lv_has ls 7 [(4, .int (nI i)), (0, .ref b), (1, .ref (a 0)), (2, .ref (a2 0)), (3, .ref o)] → W p l e room_1 s m #[Value.ref b] below meth c H locs (C9 + 1) (S9 + 6) Q (F0 m 1556 ls [])) : W p l e room_1 s m #[Value.ref b] below meth c H locs C9 S9 Q (F0 m 1111 ls []) := by
  obtain ⟨hx, hb, hr, hml, hown, hts0, hX, hbl, hlocks, hgv⟩ := C0
  have hts : ∀ w ∈ wsL_law, w.before #[Value.ref b] s = true := fun w h => hts0 w (wsL_law_in w h)
  have hA : ∀ q : Nat, s.heap.size ≤ q → (fun q : Nat => s.heap.size ≤ q) q := fun _ h => h
  have hbA : ¬ (fun q : Nat => s.heap.size ≤ q) b := Nat.not_le.mpr hbl
  have hv1 : vp_in (nI i + 1) L := by rw [show (1 : Int32) = nI 1 from rfl, nI_add]; exact vp_in_nI (by omega) (by omega)
  have hv2 : vp_in (nI i + 2) L := by rw [show (2 : Int32) = nI 2 from rfl, nI_add]; exact vp_in_nI (by omega) (by omega)
  have hv3 : vp_in (nI i + 3) L := by rw [show (3 : Int32) = nI 3 from rfl, nI_add]; exact vp_in_nI (by omega) (by omega)
  have hv4 : vp_in (nI i + 4) L := by rw [show (4 : Int32) = nI 4 from rfl, nI_add]; exact vp_in_nI (by omega) (by omega)
  obtain ⟨n, nb, nw, T, Z, J, h⟩ := hRR
  refine lv_aload_n hx hb dL_law_1111 rfl (lv_at hl 2 rfl) ?_
  refine lv_aload_n hx hb dL_law_1112 rfl (lv_at hl 1 rfl) ?_
  refine lv_iload hx hb dL_law_1113 (lv_at hl 0 rfl) ?_
  refine lv_iconst (v := 1) hx hb dL_law_1115 (by decide) ?_
  refine lv_iadd hx hb dL_law_1116 ?_
  refine va_sld hx hb hX hbl hbA hS hv1 dL_law_1117 ?_
  refine lv_aload_n hx hb dL_law_1118 rfl (lv_at hl 4 rfl) ?_
  refine LC_callH (As := [.ref (a 0), .int (xs (nI i + 1).toNatClampNeg), .ref o]) (rest := []) ⟨hx, hb, hml, hown, hts⟩ (h_booking l D cI cZ cL a o H.size σ g (xs (nI i + 1).toNatClampNeg) (cdTr nb (xs (nI i + 1).toNatClampNeg)) _ (fun sz => c_X5_booking l D cI cZ a sz σ hfl (xs (nI i + 1).toNatClampNeg) nb h.xb h.b30)) (vx_cwSW 3 hts gL_law_L_booking rfl rfl rfl (by decide +kernel) ⟨Nat.le_of_ble_eq_true rfl, Nat.le_of_ble_eq_true rfl⟩) hP hK hD hS hA hEV hZ rfl hl.1 (Nat.le_of_ble_eq_true rfl) hC9 hS9 dL_law_1119 rfl (fun k9 x9 H locs hx9 hP hD hS => ?_)
  refine lv_istore (lv' := [(5, .int k9), (4, .int (nI i)), (0, .ref b), (1, .ref (a 0)), (2, .ref (a2 0)), (3, .ref o)]) hx hb dL_law_1122 hl (by decide) rfl (fun ls hl => ?_)
  refine lv_aload_n hx hb dL_law_1124 rfl (lv_at hl 4 rfl) ?_
  refine lv_aload_n hx hb dL_law_1125 rfl (lv_at hl 2 rfl) ?_
  refine lv_iload hx hb dL_law_1126 (lv_at hl 1 rfl) ?_
  refine lv_iconst (v := 1) hx hb dL_law_1128 (by decide) ?_
  refine lv_iadd hx hb dL_law_1129 ?_
  refine va_sld hx hb hX hbl hbA hS hv1 dL_law_1130 ?_
  refine LC_callM (As := [.int (xs (nI i + 1).toNatClampNeg)]) (rest := []) ⟨hx, hb, hml, hown, hts⟩ (c_X6_booking l D cI cZ a2 H.size μ (xs (nI i + 1).toNatClampNeg) nb h.yb h.b30) (cwV 1 hts gL_law_X6_booking rfl rfl rfl (by decide +kernel) ⟨Nat.le_of_ble_eq_true rfl, Nat.le_of_ble_eq_true rfl⟩) hP hK hD hS hA (va_recv hK hP (ci := 6) (q0 := 28) rfl rfl) rfl hl.1 (Nat.le_of_ble_eq_true rfl) (by show C9 + 1 ≤ 1098; omega) (by show S9 + 6 ≤ 8929; omega) dL_law_1131 rfl (fun r9 w9 H locs hm9 hP hD hS => ?_)
  have hres := op_gen (g := g) (x := x9) (k := k9) (r2 := r9) (u2 := w9) (P := fun r u => u = σ ∧ r = (if σ 18 (xs (nI i + 1).toNatClampNeg).toNatClampNeg = -1 then (if σ 17 (xs (nI i + 1).toNatClampNeg).toNatClampNeg < σ 0 0 then 2 else 0) else 1)) (P2 := fun r u => u = (va_up μ 34 (fun _ => 0)) ∧ r = μ 30 (xs (nI i + 1).toNatClampNeg).toNatClampNeg) (F := fun v9 => v9.toInt64) ⟨n, nb, nw, T, Z, J, h⟩ rfl hx9 hm9 (fun h0 v9 u hp hp2 => op_ask h (op_booking h (cif0 (by decide) h0).1) hp hp2)
  obtain ⟨hrr, hth, hans⟩ := hres
  refine lv_istore (lv' := [(6, .int r9), (5, .int k9), (4, .int (nI i)), (0, .ref b), (1, .ref (a 0)), (2, .ref (a2 0)), (3, .ref o)]) hx hb dL_law_1134 hl (by decide) rfl (fun ls hl => ?_)
  refine lv_aload_n hx hb dL_law_1136 rfl (lv_at hl 5 rfl) ?_
  refine LC_callM (As := []) (rest := []) ⟨hx, hb, hml, hown, hts⟩ (c_X6_thrown l D cI cZ a2 H.size w9) (cwV 0 hts gL_law_X6_thrown rfl rfl rfl (by decide +kernel) ⟨Nat.le_of_ble_eq_true rfl, Nat.le_of_ble_eq_true rfl⟩) hP hK hD hS hA (va_recv hK hP (ci := 6) (q0 := 28) rfl rfl) rfl hl.1 (Nat.le_of_ble_eq_true rfl) (by show C9 + 1 ≤ 1098; omega) (by show S9 + 6 ≤ 8929; omega) dL_law_1137 rfl (fun r7 u7 H locs hp7 hP hD hS => ?_)
  obtain ⟨eu7, hp7⟩ := hp7
  rw [eu7] at hP hD
  refine lv_iload hx hb dL_law_1140 (lv_at hl 1 rfl) ?_
  refine lv_icmp_eq (tgt := 1147) hx hb dL_law_1142 (by decide) (fun _ => ?_) (fun c9 => absurd (hp7.trans hth) c9)
  refine lv_iload hx hb dL_law_1147 (lv_at hl 1 rfl) ?_
  refine lv_if_ne (tgt := 1164) hx hb dL_law_1149 (by decide) (fun c_1149 => ?_) (fun c_1149 => ?_)
  · skip
    refine lv_goto (tgt := 1556) hx hb dL_law_1164 (by decide) ?_
    exact hk _ _ _ _ _ ls hrr hP hD hS (lv_sub hl [2, 3, 4, 5, 6] rfl)
  · skip
    refine lv_aload_n hx hb dL_law_1152 rfl (lv_at hl 6 rfl) ?_
    refine lv_iconst (v := 0) hx hb dL_law_1153 (by decide) ?_
    refine va_lald hx hb hK hP 0 2 rfl rfl (show vp_in 0 1 by unfold vp_in; decide) dL_law_1154 ?_
    refine lv_iload hx hb dL_law_1155 (lv_at hl 0 rfl) ?_
    refine lv_i2l (v := r9.toInt64) hx hb dL_law_1157 rfl ?_
    have hcm : x9.2 (0 : Int32).toNatClampNeg = r9.toInt64 := hans c_1149
    refine lcmp_eq hx hb dL_law_1158 hcm ?_
    refine lv_if_eq (tgt := 1164) hx hb dL_law_1159 (by decide) (fun _ => ?_) (fun c9 => absurd rfl c9)
    refine lv_goto (tgt := 1556) hx hb dL_law_1164 (by decide) ?_
    exact hk _ _ _ _ _ ls hrr hP hD hS (lv_sub hl [2, 3, 4, 5, 6] rfl)
set_option maxHeartbeats 4000000 in
set_option maxRecDepth 100000 in
theorem case_late {p : Program} {l : Launch} {e : Env} {s : State} {m : MethodId} {below : List Frame} {meth : Method} {c : Code} {b L : Nat} {xs : Nat → Int32} {D : va_G} {cI cZ cL : ClassId} {a a2 : Nat → Nat} {o : Nat} {Q : State → Prop} (hfl : l.stackTraces = false) (C0 : lw_At p s m meth c b L xs) (hL : L ≤ 2560) (hK : va_K D vwCl (ty3 cI cZ cL) s) (hEV : EV s) (hZ : SZ (fun q : Nat => s.heap.size ≤ q) s s.heap) {σ μ : St} {g : Nat → Int64} {i C9 S9 : Nat} (hi : i + 5 ≤ L) (hC9 : C9 + 1 ≤ 1098) (hS9 : S9 + 6 ≤ 8929) (hRR : RR σ μ) {H : Heap} {locs : List Loc} {ls : Array Slot} (hP : va_P D vwCl (wL cI cZ cL a o a2 (σ, g) μ) H) (hD : va_D (fun q : Nat => s.heap.size ≤ q) (wL cI cZ cL a o a2 (σ, g) μ)) (hS : va_S (fun q : Nat => s.heap.size ≤ q) s.heap H locs) (hl : lv_has ls 7 [(4, .int (nI i)), (0, .ref b), (1, .ref (a 0)), (2, .ref (a2 0)), (3, .ref o)]) (hk : ∀ (σ μ : St) (g : Nat → Int64) (H : Heap) (locs : List Loc) (ls : Array Slot), RR σ μ → va_P D vwCl (wL cI cZ cL a o a2 (σ, g) μ) H → va_D (fun q : Nat => s.heap.size ≤ q) (wL cI cZ cL a o a2 (σ, g) μ) → va_S (fun q : Nat => s.heap.size ≤ q) s.heap H locs → lv_has ls 7 [(4, .int (nI i)), (0, .ref b), (1, .ref (a 0)), (2, .ref (a2 0)), (3, .ref o)] → W p l e room_1 s m #[Value.ref b] below meth c H locs (C9 + 1) (S9 + 6) Q (F0 m 1556 ls [])) : W p l e room_1 s m #[Value.ref b] below meth c H locs C9 S9 Q (F0 m 1167 ls []) := by
  obtain ⟨hx, hb, hr, hml, hown, hts0, hX, hbl, hlocks, hgv⟩ := C0
  have hts : ∀ w ∈ wsL_law, w.before #[Value.ref b] s = true := fun w h => hts0 w (wsL_law_in w h)
  have hA : ∀ q : Nat, s.heap.size ≤ q → (fun q : Nat => s.heap.size ≤ q) q := fun _ h => h
  have hbA : ¬ (fun q : Nat => s.heap.size ≤ q) b := Nat.not_le.mpr hbl
  have hv1 : vp_in (nI i + 1) L := by rw [show (1 : Int32) = nI 1 from rfl, nI_add]; exact vp_in_nI (by omega) (by omega)
  have hv2 : vp_in (nI i + 2) L := by rw [show (2 : Int32) = nI 2 from rfl, nI_add]; exact vp_in_nI (by omega) (by omega)
  have hv3 : vp_in (nI i + 3) L := by rw [show (3 : Int32) = nI 3 from rfl, nI_add]; exact vp_in_nI (by omega) (by omega)
  have hv4 : vp_in (nI i + 4) L := by rw [show (4 : Int32) = nI 4 from rfl, nI_add]; exact vp_in_nI (by omega) (by omega)
  obtain ⟨n, nb, nw, T, Z, J, h⟩ := hRR
  refine lv_aload_n hx hb dL_law_1167 rfl (lv_at hl 2 rfl) ?_
  refine lv_aload_n hx hb dL_law_1168 rfl (lv_at hl 1 rfl) ?_
  refine lv_iload hx hb dL_law_1169 (lv_at hl 0 rfl) ?_
  refine lv_iconst (v := 1) hx hb dL_law_1171 (by decide) ?_
  refine lv_iadd hx hb dL_law_1172 ?_
  refine va_sld hx hb hX hbl hbA hS hv1 dL_law_1173 ?_
  refine lv_aload_n hx hb dL_law_1174 rfl (lv_at hl 4 rfl) ?_
  refine LC_callH (As := [.ref (a 0), .int (xs (nI i + 1).toNatClampNeg), .ref o]) (rest := []) ⟨hx, hb, hml, hown, hts⟩ (h_late l D cI cZ cL a o H.size σ g (xs (nI i + 1).toNatClampNeg) (cdTr nb (xs (nI i + 1).toNatClampNeg)) _ (fun sz => c_X5_late l D cI cZ a sz σ hfl (xs (nI i + 1).toNatClampNeg) nb h.xb h.b30)) (vx_cwSW 3 hts gL_law_L_late rfl rfl rfl (by decide +kernel) ⟨Nat.le_of_ble_eq_true rfl, Nat.le_of_ble_eq_true rfl⟩) hP hK hD hS hA hEV hZ rfl hl.1 (Nat.le_of_ble_eq_true rfl) hC9 hS9 dL_law_1175 rfl (fun k9 x9 H locs hx9 hP hD hS => ?_)
  refine lv_istore (lv' := [(5, .int k9), (4, .int (nI i)), (0, .ref b), (1, .ref (a 0)), (2, .ref (a2 0)), (3, .ref o)]) hx hb dL_law_1178 hl (by decide) rfl (fun ls hl => ?_)
  refine lv_aload_n hx hb dL_law_1180 rfl (lv_at hl 4 rfl) ?_
  refine lv_aload_n hx hb dL_law_1181 rfl (lv_at hl 2 rfl) ?_
  refine lv_iload hx hb dL_law_1182 (lv_at hl 1 rfl) ?_
  refine lv_iconst (v := 1) hx hb dL_law_1184 (by decide) ?_
  refine lv_iadd hx hb dL_law_1185 ?_
  refine va_sld hx hb hX hbl hbA hS hv1 dL_law_1186 ?_
  refine LC_callM (As := [.int (xs (nI i + 1).toNatClampNeg)]) (rest := []) ⟨hx, hb, hml, hown, hts⟩ (c_X6_late l D cI cZ a2 H.size μ (xs (nI i + 1).toNatClampNeg) nb h.yb h.b30) (cwV 1 hts gL_law_X6_late rfl rfl rfl (by decide +kernel) ⟨Nat.le_of_ble_eq_true rfl, Nat.le_of_ble_eq_true rfl⟩) hP hK hD hS hA (va_recv hK hP (ci := 6) (q0 := 28) rfl rfl) rfl hl.1 (Nat.le_of_ble_eq_true rfl) (by show C9 + 1 ≤ 1098; omega) (by show S9 + 6 ≤ 8929; omega) dL_law_1187 rfl (fun r9 w9 H locs hm9 hP hD hS => ?_)
  have hres := op_gen (g := g) (x := x9) (k := k9) (r2 := r9) (u2 := w9) (P := fun r u => u = σ ∧ r = σ 18 (xs (nI i + 1).toNatClampNeg).toNatClampNeg) (P2 := fun r u => u = (va_up μ 34 (fun _ => 0)) ∧ r = (if μ 30 (xs (nI i + 1).toNatClampNeg).toNatClampNeg = 1 then μ 31 (xs (nI i + 1).toNatClampNeg).toNatClampNeg else -1)) (F := fun v9 => v9.toInt64) ⟨n, nb, nw, T, Z, J, h⟩ rfl hx9 hm9 (fun h0 v9 u hp hp2 => op_ask h (op_late h (cif0 (by decide) h0).1) hp hp2)
  obtain ⟨hrr, hth, hans⟩ := hres
  refine lv_istore (lv' := [(6, .int r9), (5, .int k9), (4, .int (nI i)), (0, .ref b), (1, .ref (a 0)), (2, .ref (a2 0)), (3, .ref o)]) hx hb dL_law_1190 hl (by decide) rfl (fun ls hl => ?_)
  refine lv_aload_n hx hb dL_law_1192 rfl (lv_at hl 5 rfl) ?_
  refine LC_callM (As := []) (rest := []) ⟨hx, hb, hml, hown, hts⟩ (c_X6_thrown l D cI cZ a2 H.size w9) (cwV 0 hts gL_law_X6_thrown rfl rfl rfl (by decide +kernel) ⟨Nat.le_of_ble_eq_true rfl, Nat.le_of_ble_eq_true rfl⟩) hP hK hD hS hA (va_recv hK hP (ci := 6) (q0 := 28) rfl rfl) rfl hl.1 (Nat.le_of_ble_eq_true rfl) (by show C9 + 1 ≤ 1098; omega) (by show S9 + 6 ≤ 8929; omega) dL_law_1193 rfl (fun r7 u7 H locs hp7 hP hD hS => ?_)
  obtain ⟨eu7, hp7⟩ := hp7
  rw [eu7] at hP hD
  refine lv_iload hx hb dL_law_1196 (lv_at hl 1 rfl) ?_
  refine lv_icmp_eq (tgt := 1203) hx hb dL_law_1198 (by decide) (fun _ => ?_) (fun c9 => absurd (hp7.trans hth) c9)
  refine lv_iload hx hb dL_law_1203 (lv_at hl 1 rfl) ?_
  refine lv_if_ne (tgt := 1220) hx hb dL_law_1205 (by decide) (fun c_1205 => ?_) (fun c_1205 => ?_)
  · skip
    refine lv_goto (tgt := 1556) hx hb dL_law_1220 (by decide) ?_
    exact hk _ _ _ _ _ ls hrr hP hD hS (lv_sub hl [2, 3, 4, 5, 6] rfl)
  · skip
    refine lv_aload_n hx hb dL_law_1208 rfl (lv_at hl 6 rfl) ?_
    refine lv_iconst (v := 0) hx hb dL_law_1209 (by decide) ?_
    refine va_lald hx hb hK hP 0 2 rfl rfl (show vp_in 0 1 by unfold vp_in; decide) dL_law_1210 ?_
    refine lv_iload hx hb dL_law_1211 (lv_at hl 0 rfl) ?_
    refine lv_i2l (v := r9.toInt64) hx hb dL_law_1213 rfl ?_
    have hcm : x9.2 (0 : Int32).toNatClampNeg = r9.toInt64 := hans c_1205
    refine lcmp_eq hx hb dL_law_1214 hcm ?_
    refine lv_if_eq (tgt := 1220) hx hb dL_law_1215 (by decide) (fun _ => ?_) (fun c9 => absurd rfl c9)
    refine lv_goto (tgt := 1556) hx hb dL_law_1220 (by decide) ?_
    exact hk _ _ _ _ _ ls hrr hP hD hS (lv_sub hl [2, 3, 4, 5, 6] rfl)
set_option maxHeartbeats 4000000 in
set_option maxRecDepth 100000 in
theorem case_addWaggon {p : Program} {l : Launch} {e : Env} {s : State} {m : MethodId} {below : List Frame} {meth : Method} {c : Code} {b L : Nat} {xs : Nat → Int32} {D : va_G} {cI cZ cL : ClassId} {a a2 : Nat → Nat} {o : Nat} {Q : State → Prop} (hfl : l.stackTraces = false) (C0 : lw_At p s m meth c b L xs) (hL : L ≤ 2560) (hK : va_K D vwCl (ty3 cI cZ cL) s) (hEV : EV s) (hZ : SZ (fun q : Nat => s.heap.size ≤ q) s s.heap) {σ μ : St} {g : Nat → Int64} {i C9 S9 : Nat} (hi : i + 5 ≤ L) (hC9 : C9 + 1 ≤ 1098) (hS9 : S9 + 6 ≤ 8929) (hRR : RR σ μ) {H : Heap} {locs : List Loc} {ls : Array Slot} (hP : va_P D vwCl (wL cI cZ cL a o a2 (σ, g) μ) H) (hD : va_D (fun q : Nat => s.heap.size ≤ q) (wL cI cZ cL a o a2 (σ, g) μ)) (hS : va_S (fun q : Nat => s.heap.size ≤ q) s.heap H locs) (hl : lv_has ls 7 [(4, .int (nI i)), (0, .ref b), (1, .ref (a 0)), (2, .ref (a2 0)), (3, .ref o)]) (hk : ∀ (σ μ : St) (g : Nat → Int64) (H : Heap) (locs : List Loc) (ls : Array Slot), RR σ μ → va_P D vwCl (wL cI cZ cL a o a2 (σ, g) μ) H → va_D (fun q : Nat => s.heap.size ≤ q) (wL cI cZ cL a o a2 (σ, g) μ) → va_S (fun q : Nat => s.heap.size ≤ q) s.heap H locs → lv_has ls 7 [(4, .int (nI i)), (0, .ref b), (1, .ref (a 0)), (2, .ref (a2 0)), (3, .ref o)] → W p l e room_1 s m #[Value.ref b] below meth c H locs (C9 + 1) (S9 + 6) Q (F0 m 1556 ls [])) : W p l e room_1 s m #[Value.ref b] below meth c H locs C9 S9 Q (F0 m 1223 ls []) := by
  obtain ⟨hx, hb, hr, hml, hown, hts0, hX, hbl, hlocks, hgv⟩ := C0
  have hts : ∀ w ∈ wsL_law, w.before #[Value.ref b] s = true := fun w h => hts0 w (wsL_law_in w h)
  have hA : ∀ q : Nat, s.heap.size ≤ q → (fun q : Nat => s.heap.size ≤ q) q := fun _ h => h
  have hbA : ¬ (fun q : Nat => s.heap.size ≤ q) b := Nat.not_le.mpr hbl
  have hv1 : vp_in (nI i + 1) L := by rw [show (1 : Int32) = nI 1 from rfl, nI_add]; exact vp_in_nI (by omega) (by omega)
  have hv2 : vp_in (nI i + 2) L := by rw [show (2 : Int32) = nI 2 from rfl, nI_add]; exact vp_in_nI (by omega) (by omega)
  have hv3 : vp_in (nI i + 3) L := by rw [show (3 : Int32) = nI 3 from rfl, nI_add]; exact vp_in_nI (by omega) (by omega)
  have hv4 : vp_in (nI i + 4) L := by rw [show (4 : Int32) = nI 4 from rfl, nI_add]; exact vp_in_nI (by omega) (by omega)
  obtain ⟨n, nb, nw, T, Z, J, h⟩ := hRR
  refine lv_aload_n hx hb dL_law_1223 rfl (lv_at hl 2 rfl) ?_
  refine lv_aload_n hx hb dL_law_1224 rfl (lv_at hl 1 rfl) ?_
  refine lv_iload hx hb dL_law_1225 (lv_at hl 0 rfl) ?_
  refine lv_iconst (v := 1) hx hb dL_law_1227 (by decide) ?_
  refine lv_iadd hx hb dL_law_1228 ?_
  refine va_sld hx hb hX hbl hbA hS hv1 dL_law_1229 ?_
  refine lv_aload_n hx hb dL_law_1230 rfl (lv_at hl 1 rfl) ?_
  refine lv_iload hx hb dL_law_1231 (lv_at hl 0 rfl) ?_
  refine lv_iconst (v := 2) hx hb dL_law_1233 (by decide) ?_
  refine lv_iadd hx hb dL_law_1234 ?_
  refine va_sld hx hb hX hbl hbA hS hv2 dL_law_1235 ?_
  refine lv_aload_n hx hb dL_law_1236 rfl (lv_at hl 4 rfl) ?_
  refine LC_callH (As := [.ref (a 0), .int (xs (nI i + 1).toNatClampNeg), .int (xs (nI i + 2).toNatClampNeg), .ref o]) (rest := []) ⟨hx, hb, hml, hown, hts⟩ (h_addWaggon l D cI cZ cL a o H.size σ g (xs (nI i + 1).toNatClampNeg) (xs (nI i + 2).toNatClampNeg) (cdAW nw Z (xs (nI i + 1).toNatClampNeg) (xs (nI i + 2).toNatClampNeg)) _ (fun sz => c_X5_addWaggon l D cI cZ a sz σ hfl (xs (nI i + 1).toNatClampNeg) (xs (nI i + 2).toNatClampNeg) nw Z J h.xw h.wi.w8 (RI.hQ h) h.wi.hJ8)) (vx_cwSW 4 hts gL_law_L_addWaggon rfl rfl rfl (by decide +kernel) ⟨Nat.le_of_ble_eq_true rfl, Nat.le_of_ble_eq_true rfl⟩) hP hK hD hS hA hEV hZ rfl hl.1 (Nat.le_of_ble_eq_true rfl) hC9 hS9 dL_law_1237 rfl (fun k9 x9 H locs hx9 hP hD hS => ?_)
  refine lv_istore (lv' := [(5, .int k9), (4, .int (nI i)), (0, .ref b), (1, .ref (a 0)), (2, .ref (a2 0)), (3, .ref o)]) hx hb dL_law_1240 hl (by decide) rfl (fun ls hl => ?_)
  refine lv_aload_n hx hb dL_law_1242 rfl (lv_at hl 4 rfl) ?_
  refine lv_aload_n hx hb dL_law_1243 rfl (lv_at hl 2 rfl) ?_
  refine lv_iload hx hb dL_law_1244 (lv_at hl 1 rfl) ?_
  refine lv_iconst (v := 1) hx hb dL_law_1246 (by decide) ?_
  refine lv_iadd hx hb dL_law_1247 ?_
  refine va_sld hx hb hX hbl hbA hS hv1 dL_law_1248 ?_
  refine lv_aload_n hx hb dL_law_1249 rfl (lv_at hl 2 rfl) ?_
  refine lv_iload hx hb dL_law_1250 (lv_at hl 1 rfl) ?_
  refine lv_iconst (v := 2) hx hb dL_law_1252 (by decide) ?_
  refine lv_iadd hx hb dL_law_1253 ?_
  refine va_sld hx hb hX hbl hbA hS hv2 dL_law_1254 ?_
  refine LC_callM (As := [.int (xs (nI i + 1).toNatClampNeg), .int (xs (nI i + 2).toNatClampNeg)]) (rest := []) ⟨hx, hb, hml, hown, hts⟩ (c_X6_addWaggon l D cI cZ a2 H.size μ (xs (nI i + 1).toNatClampNeg) (xs (nI i + 2).toNatClampNeg) nw h.yw h.wi.w8 Z J h.wi.hM (RI.hG h) (RI.hW h) h.wi.z4) (cwV 2 hts gL_law_X6_addWaggon rfl rfl rfl (by decide +kernel) ⟨Nat.le_of_ble_eq_true rfl, Nat.le_of_ble_eq_true rfl⟩) hP hK hD hS hA (va_recv hK hP (ci := 6) (q0 := 28) rfl rfl) rfl hl.1 (Nat.le_of_ble_eq_true rfl) (by show C9 + 1 ≤ 1098; omega) (by show S9 + 6 ≤ 8929; omega) dL_law_1255 rfl (fun r9 w9 H locs hm9 hP hD hS => ?_)
  have hres := op_gen (g := g) (x := x9) (k := k9) (r2 := r9) (u2 := w9) (P := fun r u => u = (va_up (va_up (va_up (va_up σ 19 (fun _ => nI (nw + 1))) 20 (upd (σ 20) nw (xs (nI i + 2).toNatClampNeg))) 21 (upd (σ 21) (sR (xs (nI i + 1).toNatClampNeg)) (nI (Z (sR (xs (nI i + 1).toNatClampNeg)) + 1)))) 22 (upd (σ 22) (sR (xs (nI i + 1).toNatClampNeg) * 8 + Z (sR (xs (nI i + 1).toNatClampNeg))) (nI nw))) ∧ r = nI nw) (P2 := fun r u => u = (va_up (va_up (va_up (va_up (va_up μ 19 (fun _ => nI (nw + 1))) 20 (upd (μ 20) nw (xs (nI i + 2).toNatClampNeg))) 32 (upd (μ 32) nw (xs (nI i + 1).toNatClampNeg))) 33 (upd (μ 33) nw (nI (Z (sR (xs (nI i + 1).toNatClampNeg)))))) 34 (fun _ => 0)) ∧ r = nI nw) (F := fun v9 => v9.toInt64) ⟨n, nb, nw, T, Z, J, h⟩ rfl hx9 hm9 (fun h0 v9 u hp hp2 => op_addWaggon h h0 hp hp2)
  obtain ⟨hrr, hth, hans⟩ := hres
  refine lv_istore (lv' := [(6, .int r9), (5, .int k9), (4, .int (nI i)), (0, .ref b), (1, .ref (a 0)), (2, .ref (a2 0)), (3, .ref o)]) hx hb dL_law_1258 hl (by decide) rfl (fun ls hl => ?_)
  refine lv_aload_n hx hb dL_law_1260 rfl (lv_at hl 5 rfl) ?_
  refine LC_callM (As := []) (rest := []) ⟨hx, hb, hml, hown, hts⟩ (c_X6_thrown l D cI cZ a2 H.size w9) (cwV 0 hts gL_law_X6_thrown rfl rfl rfl (by decide +kernel) ⟨Nat.le_of_ble_eq_true rfl, Nat.le_of_ble_eq_true rfl⟩) hP hK hD hS hA (va_recv hK hP (ci := 6) (q0 := 28) rfl rfl) rfl hl.1 (Nat.le_of_ble_eq_true rfl) (by show C9 + 1 ≤ 1098; omega) (by show S9 + 6 ≤ 8929; omega) dL_law_1261 rfl (fun r7 u7 H locs hp7 hP hD hS => ?_)
  obtain ⟨eu7, hp7⟩ := hp7
  rw [eu7] at hP hD
  refine lv_iload hx hb dL_law_1264 (lv_at hl 1 rfl) ?_
  refine lv_icmp_eq (tgt := 1271) hx hb dL_law_1266 (by decide) (fun _ => ?_) (fun c9 => absurd (hp7.trans hth) c9)
  refine lv_iload hx hb dL_law_1271 (lv_at hl 1 rfl) ?_
  refine lv_if_ne (tgt := 1288) hx hb dL_law_1273 (by decide) (fun c_1273 => ?_) (fun c_1273 => ?_)
  · skip
    refine lv_goto (tgt := 1556) hx hb dL_law_1288 (by decide) ?_
    exact hk _ _ _ _ _ ls hrr hP hD hS (lv_sub hl [2, 3, 4, 5, 6] rfl)
  · skip
    refine lv_aload_n hx hb dL_law_1276 rfl (lv_at hl 6 rfl) ?_
    refine lv_iconst (v := 0) hx hb dL_law_1277 (by decide) ?_
    refine va_lald hx hb hK hP 0 2 rfl rfl (show vp_in 0 1 by unfold vp_in; decide) dL_law_1278 ?_
    refine lv_iload hx hb dL_law_1279 (lv_at hl 0 rfl) ?_
    refine lv_i2l (v := r9.toInt64) hx hb dL_law_1281 rfl ?_
    have hcm : x9.2 (0 : Int32).toNatClampNeg = r9.toInt64 := hans c_1273
    refine lcmp_eq hx hb dL_law_1282 hcm ?_
    refine lv_if_eq (tgt := 1288) hx hb dL_law_1283 (by decide) (fun _ => ?_) (fun c9 => absurd rfl c9)
    refine lv_goto (tgt := 1556) hx hb dL_law_1288 (by decide) ?_
    exact hk _ _ _ _ _ ls hrr hP hD hS (lv_sub hl [2, 3, 4, 5, 6] rfl)
set_option maxHeartbeats 4000000 in
set_option maxRecDepth 100000 in
theorem case_offer {p : Program} {l : Launch} {e : Env} {s : State} {m : MethodId} {below : List Frame} {meth : Method} {c : Code} {b L : Nat} {xs : Nat → Int32} {D : va_G} {cI cZ cL : ClassId} {a a2 : Nat → Nat} {o : Nat} {Q : State → Prop} (hfl : l.stackTraces = false) (C0 : lw_At p s m meth c b L xs) (hL : L ≤ 2560) (hK : va_K D vwCl (ty3 cI cZ cL) s) (hEV : EV s) (hZ : SZ (fun q : Nat => s.heap.size ≤ q) s s.heap) {σ μ : St} {g : Nat → Int64} {i C9 S9 : Nat} (hi : i + 5 ≤ L) (hC9 : C9 + 1 ≤ 1098) (hS9 : S9 + 6 ≤ 8929) (hRR : RR σ μ) {H : Heap} {locs : List Loc} {ls : Array Slot} (hP : va_P D vwCl (wL cI cZ cL a o a2 (σ, g) μ) H) (hD : va_D (fun q : Nat => s.heap.size ≤ q) (wL cI cZ cL a o a2 (σ, g) μ)) (hS : va_S (fun q : Nat => s.heap.size ≤ q) s.heap H locs) (hl : lv_has ls 7 [(4, .int (nI i)), (0, .ref b), (1, .ref (a 0)), (2, .ref (a2 0)), (3, .ref o)]) (hk : ∀ (σ μ : St) (g : Nat → Int64) (H : Heap) (locs : List Loc) (ls : Array Slot), RR σ μ → va_P D vwCl (wL cI cZ cL a o a2 (σ, g) μ) H → va_D (fun q : Nat => s.heap.size ≤ q) (wL cI cZ cL a o a2 (σ, g) μ) → va_S (fun q : Nat => s.heap.size ≤ q) s.heap H locs → lv_has ls 7 [(4, .int (nI i)), (0, .ref b), (1, .ref (a 0)), (2, .ref (a2 0)), (3, .ref o)] → W p l e room_1 s m #[Value.ref b] below meth c H locs (C9 + 1) (S9 + 6) Q (F0 m 1556 ls [])) : W p l e room_1 s m #[Value.ref b] below meth c H locs C9 S9 Q (F0 m 1291 ls []) := by
  obtain ⟨hx, hb, hr, hml, hown, hts0, hX, hbl, hlocks, hgv⟩ := C0
  have hts : ∀ w ∈ wsL_law, w.before #[Value.ref b] s = true := fun w h => hts0 w (wsL_law_in w h)
  have hA : ∀ q : Nat, s.heap.size ≤ q → (fun q : Nat => s.heap.size ≤ q) q := fun _ h => h
  have hbA : ¬ (fun q : Nat => s.heap.size ≤ q) b := Nat.not_le.mpr hbl
  have hv1 : vp_in (nI i + 1) L := by rw [show (1 : Int32) = nI 1 from rfl, nI_add]; exact vp_in_nI (by omega) (by omega)
  have hv2 : vp_in (nI i + 2) L := by rw [show (2 : Int32) = nI 2 from rfl, nI_add]; exact vp_in_nI (by omega) (by omega)
  have hv3 : vp_in (nI i + 3) L := by rw [show (3 : Int32) = nI 3 from rfl, nI_add]; exact vp_in_nI (by omega) (by omega)
  have hv4 : vp_in (nI i + 4) L := by rw [show (4 : Int32) = nI 4 from rfl, nI_add]; exact vp_in_nI (by omega) (by omega)
  obtain ⟨n, nb, nw, T, Z, J, h⟩ := hRR
  refine lv_aload_n hx hb dL_law_1291 rfl (lv_at hl 2 rfl) ?_
  refine lv_aload_n hx hb dL_law_1292 rfl (lv_at hl 1 rfl) ?_
  refine lv_iload hx hb dL_law_1293 (lv_at hl 0 rfl) ?_
  refine lv_iconst (v := 1) hx hb dL_law_1295 (by decide) ?_
  refine lv_iadd hx hb dL_law_1296 ?_
  refine va_sld hx hb hX hbl hbA hS hv1 dL_law_1297 ?_
  refine lv_aload_n hx hb dL_law_1298 rfl (lv_at hl 1 rfl) ?_
  refine lv_iload hx hb dL_law_1299 (lv_at hl 0 rfl) ?_
  refine lv_iconst (v := 2) hx hb dL_law_1301 (by decide) ?_
  refine lv_iadd hx hb dL_law_1302 ?_
  refine va_sld hx hb hX hbl hbA hS hv2 dL_law_1303 ?_
  refine lv_aload_n hx hb dL_law_1304 rfl (lv_at hl 1 rfl) ?_
  refine lv_iload hx hb dL_law_1305 (lv_at hl 0 rfl) ?_
  refine lv_iconst (v := 3) hx hb dL_law_1307 (by decide) ?_
  refine lv_iadd hx hb dL_law_1308 ?_
  refine va_sld hx hb hX hbl hbA hS hv3 dL_law_1309 ?_
  refine lv_aload_n hx hb dL_law_1310 rfl (lv_at hl 1 rfl) ?_
  refine lv_iload hx hb dL_law_1311 (lv_at hl 0 rfl) ?_
  refine lv_iconst (v := 4) hx hb dL_law_1313 (by decide) ?_
  refine lv_iadd hx hb dL_law_1314 ?_
  refine va_sld hx hb hX hbl hbA hS hv4 dL_law_1315 ?_
  refine LC_callH (As := [.ref (a 0), .int (xs (nI i + 1).toNatClampNeg), .int (xs (nI i + 2).toNatClampNeg), .int (xs (nI i + 3).toNatClampNeg), .int (xs (nI i + 4).toNatClampNeg)]) (rest := []) ⟨hx, hb, hml, hown, hts⟩ (h_offer l D cI cZ cL a o H.size σ g (xs (nI i + 1).toNatClampNeg) (xs (nI i + 2).toNatClampNeg) (xs (nI i + 3).toNatClampNeg) (xs (nI i + 4).toNatClampNeg) (cdOf nw (xs (nI i + 1).toNatClampNeg) (xs (nI i + 2).toNatClampNeg) (xs (nI i + 3).toNatClampNeg) (xs (nI i + 4).toNatClampNeg)) _ (fun sz => c_X5_offer l D cI cZ a sz σ hfl (xs (nI i + 1).toNatClampNeg) (xs (nI i + 2).toNatClampNeg) (xs (nI i + 3).toNatClampNeg) (xs (nI i + 4).toNatClampNeg) nw h.xw h.wi.w8)) (vx_cwSW 5 hts gL_law_L_offer rfl rfl rfl (by decide +kernel) ⟨Nat.le_of_ble_eq_true rfl, Nat.le_of_ble_eq_true rfl⟩) hP hK hD hS hA hEV hZ rfl hl.1 (Nat.le_of_ble_eq_true rfl) hC9 hS9 dL_law_1316 rfl (fun k9 x9 H locs hx9 hP hD hS => ?_)
  refine lv_istore (lv' := [(5, .int k9), (4, .int (nI i)), (0, .ref b), (1, .ref (a 0)), (2, .ref (a2 0)), (3, .ref o)]) hx hb dL_law_1319 hl (by decide) rfl (fun ls hl => ?_)
  refine lv_aload_n hx hb dL_law_1321 rfl (lv_at hl 4 rfl) ?_
  refine lv_aload_n hx hb dL_law_1322 rfl (lv_at hl 2 rfl) ?_
  refine lv_iload hx hb dL_law_1323 (lv_at hl 1 rfl) ?_
  refine lv_iconst (v := 1) hx hb dL_law_1325 (by decide) ?_
  refine lv_iadd hx hb dL_law_1326 ?_
  refine va_sld hx hb hX hbl hbA hS hv1 dL_law_1327 ?_
  refine lv_aload_n hx hb dL_law_1328 rfl (lv_at hl 2 rfl) ?_
  refine lv_iload hx hb dL_law_1329 (lv_at hl 1 rfl) ?_
  refine lv_iconst (v := 2) hx hb dL_law_1331 (by decide) ?_
  refine lv_iadd hx hb dL_law_1332 ?_
  refine va_sld hx hb hX hbl hbA hS hv2 dL_law_1333 ?_
  refine lv_aload_n hx hb dL_law_1334 rfl (lv_at hl 2 rfl) ?_
  refine lv_iload hx hb dL_law_1335 (lv_at hl 1 rfl) ?_
  refine lv_iconst (v := 3) hx hb dL_law_1337 (by decide) ?_
  refine lv_iadd hx hb dL_law_1338 ?_
  refine va_sld hx hb hX hbl hbA hS hv3 dL_law_1339 ?_
  refine lv_aload_n hx hb dL_law_1340 rfl (lv_at hl 2 rfl) ?_
  refine lv_iload hx hb dL_law_1341 (lv_at hl 1 rfl) ?_
  refine lv_iconst (v := 4) hx hb dL_law_1343 (by decide) ?_
  refine lv_iadd hx hb dL_law_1344 ?_
  refine va_sld hx hb hX hbl hbA hS hv4 dL_law_1345 ?_
  refine LC_callMV (As := [.int (xs (nI i + 1).toNatClampNeg), .int (xs (nI i + 2).toNatClampNeg), .int (xs (nI i + 3).toNatClampNeg), .int (xs (nI i + 4).toNatClampNeg)]) (rest := []) ⟨hx, hb, hml, hown, hts⟩ (c_X6_offer l D cI cZ a2 H.size μ (xs (nI i + 1).toNatClampNeg) (xs (nI i + 2).toNatClampNeg) (xs (nI i + 3).toNatClampNeg) (xs (nI i + 4).toNatClampNeg) nw h.yw h.wi.w8) (cwV 4 hts gL_law_X6_offer rfl rfl rfl (by decide +kernel) ⟨Nat.le_of_ble_eq_true rfl, Nat.le_of_ble_eq_true rfl⟩) hP hK hD hS hA (va_recv hK hP (ci := 6) (q0 := 28) rfl rfl) rfl hl.1 (Nat.le_of_ble_eq_true rfl) (by show C9 + 1 ≤ 1098; omega) (by show S9 + 6 ≤ 8929; omega) dL_law_1346 rfl (fun w9 H locs hm9 hP hD hS => ?_)
  have hres := op_gen0 (g := g) (x := x9) (k := k9) (u2 := w9) (P := fun u => u = (va_up (va_up (va_up σ 24 (upd (σ 24) (xs (nI i + 1).toNatClampNeg).toNatClampNeg (xs (nI i + 2).toNatClampNeg))) 25 (upd (σ 25) (xs (nI i + 1).toNatClampNeg).toNatClampNeg (xs (nI i + 3).toNatClampNeg))) 26 (upd (σ 26) (xs (nI i + 1).toNatClampNeg).toNatClampNeg (xs (nI i + 4).toNatClampNeg)))) (P2 := fun u => u = (va_up (va_up (va_up (va_up μ 24 (upd (μ 24) (xs (nI i + 1).toNatClampNeg).toNatClampNeg (xs (nI i + 2).toNatClampNeg))) 25 (upd (μ 25) (xs (nI i + 1).toNatClampNeg).toNatClampNeg (xs (nI i + 3).toNatClampNeg))) 26 (upd (μ 26) (xs (nI i + 1).toNatClampNeg).toNatClampNeg (xs (nI i + 4).toNatClampNeg))) 34 (fun _ => 0))) ⟨n, nb, nw, T, Z, J, h⟩ rfl hx9 hm9 (fun h0 u hp hp2 => op_offer h h0 hp hp2)
  obtain ⟨hrr, hth⟩ := hres
  refine lv_aload_n hx hb dL_law_1349 rfl (lv_at hl 4 rfl) ?_
  refine LC_callM (As := []) (rest := []) ⟨hx, hb, hml, hown, hts⟩ (c_X6_thrown l D cI cZ a2 H.size w9) (cwV 0 hts gL_law_X6_thrown rfl rfl rfl (by decide +kernel) ⟨Nat.le_of_ble_eq_true rfl, Nat.le_of_ble_eq_true rfl⟩) hP hK hD hS hA (va_recv hK hP (ci := 6) (q0 := 28) rfl rfl) rfl hl.1 (Nat.le_of_ble_eq_true rfl) (by show C9 + 1 ≤ 1098; omega) (by show S9 + 6 ≤ 8929; omega) dL_law_1350 rfl (fun r7 u7 H locs hp7 hP hD hS => ?_)
  obtain ⟨eu7, hp7⟩ := hp7
  rw [eu7] at hP hD
  refine lv_iload hx hb dL_law_1353 (lv_at hl 0 rfl) ?_
  refine lv_icmp_eq (tgt := 1360) hx hb dL_law_1355 (by decide) (fun _ => ?_) (fun c9 => absurd (hp7.trans hth) c9)
  refine lv_goto (tgt := 1556) hx hb dL_law_1360 (by decide) ?_
  exact hk _ _ _ _ _ ls hrr hP hD hS (lv_sub hl [1, 2, 3, 4, 5] rfl)
set_option maxHeartbeats 4000000 in
set_option maxRecDepth 100000 in
theorem case_couple {p : Program} {l : Launch} {e : Env} {s : State} {m : MethodId} {below : List Frame} {meth : Method} {c : Code} {b L : Nat} {xs : Nat → Int32} {D : va_G} {cI cZ cL : ClassId} {a a2 : Nat → Nat} {o : Nat} {Q : State → Prop} (hfl : l.stackTraces = false) (C0 : lw_At p s m meth c b L xs) (hL : L ≤ 2560) (hK : va_K D vwCl (ty3 cI cZ cL) s) (hEV : EV s) (hZ : SZ (fun q : Nat => s.heap.size ≤ q) s s.heap) {σ μ : St} {g : Nat → Int64} {i C9 S9 : Nat} (hi : i + 5 ≤ L) (hC9 : C9 + 1 ≤ 1098) (hS9 : S9 + 6 ≤ 8929) (hRR : RR σ μ) {H : Heap} {locs : List Loc} {ls : Array Slot} (hP : va_P D vwCl (wL cI cZ cL a o a2 (σ, g) μ) H) (hD : va_D (fun q : Nat => s.heap.size ≤ q) (wL cI cZ cL a o a2 (σ, g) μ)) (hS : va_S (fun q : Nat => s.heap.size ≤ q) s.heap H locs) (hl : lv_has ls 7 [(4, .int (nI i)), (0, .ref b), (1, .ref (a 0)), (2, .ref (a2 0)), (3, .ref o)]) (hk : ∀ (σ μ : St) (g : Nat → Int64) (H : Heap) (locs : List Loc) (ls : Array Slot), RR σ μ → va_P D vwCl (wL cI cZ cL a o a2 (σ, g) μ) H → va_D (fun q : Nat => s.heap.size ≤ q) (wL cI cZ cL a o a2 (σ, g) μ) → va_S (fun q : Nat => s.heap.size ≤ q) s.heap H locs → lv_has ls 7 [(4, .int (nI i)), (0, .ref b), (1, .ref (a 0)), (2, .ref (a2 0)), (3, .ref o)] → W p l e room_1 s m #[Value.ref b] below meth c H locs (C9 + 1) (S9 + 6) Q (F0 m 1556 ls [])) : W p l e room_1 s m #[Value.ref b] below meth c H locs C9 S9 Q (F0 m 1363 ls []) := by
  obtain ⟨hx, hb, hr, hml, hown, hts0, hX, hbl, hlocks, hgv⟩ := C0
  have hts : ∀ w ∈ wsL_law, w.before #[Value.ref b] s = true := fun w h => hts0 w (wsL_law_in w h)
  have hA : ∀ q : Nat, s.heap.size ≤ q → (fun q : Nat => s.heap.size ≤ q) q := fun _ h => h
  have hbA : ¬ (fun q : Nat => s.heap.size ≤ q) b := Nat.not_le.mpr hbl
  have hv1 : vp_in (nI i + 1) L := by rw [show (1 : Int32) = nI 1 from rfl, nI_add]; exact vp_in_nI (by omega) (by omega)
  have hv2 : vp_in (nI i + 2) L := by rw [show (2 : Int32) = nI 2 from rfl, nI_add]; exact vp_in_nI (by omega) (by omega)
  have hv3 : vp_in (nI i + 3) L := by rw [show (3 : Int32) = nI 3 from rfl, nI_add]; exact vp_in_nI (by omega) (by omega)
  have hv4 : vp_in (nI i + 4) L := by rw [show (4 : Int32) = nI 4 from rfl, nI_add]; exact vp_in_nI (by omega) (by omega)
  obtain ⟨n, nb, nw, T, Z, J, h⟩ := hRR
  refine lv_aload_n hx hb dL_law_1363 rfl (lv_at hl 2 rfl) ?_
  refine lv_aload_n hx hb dL_law_1364 rfl (lv_at hl 1 rfl) ?_
  refine lv_iload hx hb dL_law_1365 (lv_at hl 0 rfl) ?_
  refine lv_iconst (v := 1) hx hb dL_law_1367 (by decide) ?_
  refine lv_iadd hx hb dL_law_1368 ?_
  refine va_sld hx hb hX hbl hbA hS hv1 dL_law_1369 ?_
  refine lv_aload_n hx hb dL_law_1370 rfl (lv_at hl 4 rfl) ?_
  refine LC_callH (As := [.ref (a 0), .int (xs (nI i + 1).toNatClampNeg), .ref o]) (rest := []) ⟨hx, hb, hml, hown, hts⟩ (h_couple l D cI cZ cL a o H.size σ g (xs (nI i + 1).toNatClampNeg) (cdCo σ n Z J (xs (nI i + 1).toNatClampNeg)) _ (fun sz => c_X5_couple l D cI cZ a sz σ hfl (xs (nI i + 1).toNatClampNeg) n h.xn h.n4 nw Z J h.xw h.wi.w8 (RI.hQ h) h.wi.hJ8 h.wi.hS8)) (vx_cwSW 3 hts gL_law_L_couple rfl rfl rfl (by decide +kernel) ⟨Nat.le_of_ble_eq_true rfl, Nat.le_of_ble_eq_true rfl⟩) hP hK hD hS hA hEV hZ rfl hl.1 (Nat.le_of_ble_eq_true rfl) hC9 hS9 dL_law_1371 rfl (fun k9 x9 H locs hx9 hP hD hS => ?_)
  refine lv_istore (lv' := [(5, .int k9), (4, .int (nI i)), (0, .ref b), (1, .ref (a 0)), (2, .ref (a2 0)), (3, .ref o)]) hx hb dL_law_1374 hl (by decide) rfl (fun ls hl => ?_)
  refine lv_aload_n hx hb dL_law_1376 rfl (lv_at hl 4 rfl) ?_
  refine lv_aload_n hx hb dL_law_1377 rfl (lv_at hl 2 rfl) ?_
  refine lv_iload hx hb dL_law_1378 (lv_at hl 1 rfl) ?_
  refine lv_iconst (v := 1) hx hb dL_law_1380 (by decide) ?_
  refine lv_iadd hx hb dL_law_1381 ?_
  refine va_sld hx hb hX hbl hbA hS hv1 dL_law_1382 ?_
  refine LC_callM (As := [.int (xs (nI i + 1).toNatClampNeg)]) (rest := []) ⟨hx, hb, hml, hown, hts⟩ (c_X6_couple l D cI cZ a2 H.size μ (xs (nI i + 1).toNatClampNeg) n h.yn h.n4 nw h.yw h.wi.w8 Z J h.wi.hM (RI.hG h) (RI.hW h)) (cwV 1 hts gL_law_X6_couple rfl rfl rfl (by decide +kernel) ⟨Nat.le_of_ble_eq_true rfl, Nat.le_of_ble_eq_true rfl⟩) hP hK hD hS hA (va_recv hK hP (ci := 6) (q0 := 28) rfl rfl) rfl hl.1 (Nat.le_of_ble_eq_true rfl) (by show C9 + 1 ≤ 1098; omega) (by show S9 + 6 ≤ 8929; omega) dL_law_1383 rfl (fun r9 w9 H locs hm9 hP hD hS => ?_)
  have hres := op_gen (g := g) (x := x9) (k := k9) (r2 := r9) (u2 := w9) (P := fun r u => u = (va_up (va_up σ 21 (upd (upd (σ 21) (sR (σ 4 (xs (nI i + 1).toNatClampNeg).toNatClampNeg)) (nI (Z (sR (σ 4 (xs (nI i + 1).toNatClampNeg).toNatClampNeg)) - 1))) (2 + (xs (nI i + 1).toNatClampNeg).toNatClampNeg) (nI (Z (2 + (xs (nI i + 1).toNatClampNeg).toNatClampNeg) + 1)))) 22 (upd (σ 22) ((2 + (xs (nI i + 1).toNatClampNeg).toNatClampNeg) * 8 + Z (2 + (xs (nI i + 1).toNatClampNeg).toNatClampNeg)) (nI (J (sR (σ 4 (xs (nI i + 1).toNatClampNeg).toNatClampNeg)) (Z (sR (σ 4 (xs (nI i + 1).toNatClampNeg).toNatClampNeg)) - 1))))) ∧ r = (nI (J (sR (σ 4 (xs (nI i + 1).toNatClampNeg).toNatClampNeg)) (Z (sR (σ 4 (xs (nI i + 1).toNatClampNeg).toNatClampNeg)) - 1)))) (P2 := fun r u => u = (va_up (va_up (va_up μ 32 (upd (μ 32) (J (sR (μ 4 (xs (nI i + 1).toNatClampNeg).toNatClampNeg)) (Z (sR (μ 4 (xs (nI i + 1).toNatClampNeg).toNatClampNeg)) - 1)) (wh (2 + (xs (nI i + 1).toNatClampNeg).toNatClampNeg)))) 33 (upd (μ 33) (J (sR (μ 4 (xs (nI i + 1).toNatClampNeg).toNatClampNeg)) (Z (sR (μ 4 (xs (nI i + 1).toNatClampNeg).toNatClampNeg)) - 1)) (nI (Z (2 + (xs (nI i + 1).toNatClampNeg).toNatClampNeg))))) 34 (fun _ => 0)) ∧ r = nI (J (sR (μ 4 (xs (nI i + 1).toNatClampNeg).toNatClampNeg)) (Z (sR (μ 4 (xs (nI i + 1).toNatClampNeg).toNatClampNeg)) - 1))) (F := fun v9 => v9.toInt64) ⟨n, nb, nw, T, Z, J, h⟩ (cdCo_e h _) hx9 hm9 (fun h0 v9 u hp hp2 => op_couple h h0 hp hp2)
  obtain ⟨hrr, hth, hans⟩ := hres
  refine lv_istore (lv' := [(6, .int r9), (5, .int k9), (4, .int (nI i)), (0, .ref b), (1, .ref (a 0)), (2, .ref (a2 0)), (3, .ref o)]) hx hb dL_law_1386 hl (by decide) rfl (fun ls hl => ?_)
  refine lv_aload_n hx hb dL_law_1388 rfl (lv_at hl 5 rfl) ?_
  refine LC_callM (As := []) (rest := []) ⟨hx, hb, hml, hown, hts⟩ (c_X6_thrown l D cI cZ a2 H.size w9) (cwV 0 hts gL_law_X6_thrown rfl rfl rfl (by decide +kernel) ⟨Nat.le_of_ble_eq_true rfl, Nat.le_of_ble_eq_true rfl⟩) hP hK hD hS hA (va_recv hK hP (ci := 6) (q0 := 28) rfl rfl) rfl hl.1 (Nat.le_of_ble_eq_true rfl) (by show C9 + 1 ≤ 1098; omega) (by show S9 + 6 ≤ 8929; omega) dL_law_1389 rfl (fun r7 u7 H locs hp7 hP hD hS => ?_)
  obtain ⟨eu7, hp7⟩ := hp7
  rw [eu7] at hP hD
  refine lv_iload hx hb dL_law_1392 (lv_at hl 1 rfl) ?_
  refine lv_icmp_eq (tgt := 1399) hx hb dL_law_1394 (by decide) (fun _ => ?_) (fun c9 => absurd (hp7.trans hth) c9)
  refine lv_iload hx hb dL_law_1399 (lv_at hl 1 rfl) ?_
  refine lv_if_ne (tgt := 1416) hx hb dL_law_1401 (by decide) (fun c_1401 => ?_) (fun c_1401 => ?_)
  · skip
    refine lv_goto (tgt := 1556) hx hb dL_law_1416 (by decide) ?_
    exact hk _ _ _ _ _ ls hrr hP hD hS (lv_sub hl [2, 3, 4, 5, 6] rfl)
  · skip
    refine lv_aload_n hx hb dL_law_1404 rfl (lv_at hl 6 rfl) ?_
    refine lv_iconst (v := 0) hx hb dL_law_1405 (by decide) ?_
    refine va_lald hx hb hK hP 0 2 rfl rfl (show vp_in 0 1 by unfold vp_in; decide) dL_law_1406 ?_
    refine lv_iload hx hb dL_law_1407 (lv_at hl 0 rfl) ?_
    refine lv_i2l (v := r9.toInt64) hx hb dL_law_1409 rfl ?_
    have hcm : x9.2 (0 : Int32).toNatClampNeg = r9.toInt64 := hans c_1401
    refine lcmp_eq hx hb dL_law_1410 hcm ?_
    refine lv_if_eq (tgt := 1416) hx hb dL_law_1411 (by decide) (fun _ => ?_) (fun c9 => absurd rfl c9)
    refine lv_goto (tgt := 1556) hx hb dL_law_1416 (by decide) ?_
    exact hk _ _ _ _ _ ls hrr hP hD hS (lv_sub hl [2, 3, 4, 5, 6] rfl)
set_option maxHeartbeats 4000000 in
set_option maxRecDepth 100000 in
theorem case_leave {p : Program} {l : Launch} {e : Env} {s : State} {m : MethodId} {below : List Frame} {meth : Method} {c : Code} {b L : Nat} {xs : Nat → Int32} {D : va_G} {cI cZ cL : ClassId} {a a2 : Nat → Nat} {o : Nat} {Q : State → Prop} (hfl : l.stackTraces = false) (C0 : lw_At p s m meth c b L xs) (hL : L ≤ 2560) (hK : va_K D vwCl (ty3 cI cZ cL) s) (hEV : EV s) (hZ : SZ (fun q : Nat => s.heap.size ≤ q) s s.heap) {σ μ : St} {g : Nat → Int64} {i C9 S9 : Nat} (hi : i + 5 ≤ L) (hC9 : C9 + 1 ≤ 1098) (hS9 : S9 + 6 ≤ 8929) (hRR : RR σ μ) {H : Heap} {locs : List Loc} {ls : Array Slot} (hP : va_P D vwCl (wL cI cZ cL a o a2 (σ, g) μ) H) (hD : va_D (fun q : Nat => s.heap.size ≤ q) (wL cI cZ cL a o a2 (σ, g) μ)) (hS : va_S (fun q : Nat => s.heap.size ≤ q) s.heap H locs) (hl : lv_has ls 7 [(4, .int (nI i)), (0, .ref b), (1, .ref (a 0)), (2, .ref (a2 0)), (3, .ref o)]) (hk : ∀ (σ μ : St) (g : Nat → Int64) (H : Heap) (locs : List Loc) (ls : Array Slot), RR σ μ → va_P D vwCl (wL cI cZ cL a o a2 (σ, g) μ) H → va_D (fun q : Nat => s.heap.size ≤ q) (wL cI cZ cL a o a2 (σ, g) μ) → va_S (fun q : Nat => s.heap.size ≤ q) s.heap H locs → lv_has ls 7 [(4, .int (nI i)), (0, .ref b), (1, .ref (a 0)), (2, .ref (a2 0)), (3, .ref o)] → W p l e room_1 s m #[Value.ref b] below meth c H locs (C9 + 1) (S9 + 6) Q (F0 m 1556 ls [])) : W p l e room_1 s m #[Value.ref b] below meth c H locs C9 S9 Q (F0 m 1419 ls []) := by
  obtain ⟨hx, hb, hr, hml, hown, hts0, hX, hbl, hlocks, hgv⟩ := C0
  have hts : ∀ w ∈ wsL_law, w.before #[Value.ref b] s = true := fun w h => hts0 w (wsL_law_in w h)
  have hA : ∀ q : Nat, s.heap.size ≤ q → (fun q : Nat => s.heap.size ≤ q) q := fun _ h => h
  have hbA : ¬ (fun q : Nat => s.heap.size ≤ q) b := Nat.not_le.mpr hbl
  have hv1 : vp_in (nI i + 1) L := by rw [show (1 : Int32) = nI 1 from rfl, nI_add]; exact vp_in_nI (by omega) (by omega)
  have hv2 : vp_in (nI i + 2) L := by rw [show (2 : Int32) = nI 2 from rfl, nI_add]; exact vp_in_nI (by omega) (by omega)
  have hv3 : vp_in (nI i + 3) L := by rw [show (3 : Int32) = nI 3 from rfl, nI_add]; exact vp_in_nI (by omega) (by omega)
  have hv4 : vp_in (nI i + 4) L := by rw [show (4 : Int32) = nI 4 from rfl, nI_add]; exact vp_in_nI (by omega) (by omega)
  obtain ⟨n, nb, nw, T, Z, J, h⟩ := hRR
  refine lv_aload_n hx hb dL_law_1419 rfl (lv_at hl 2 rfl) ?_
  refine lv_aload_n hx hb dL_law_1420 rfl (lv_at hl 1 rfl) ?_
  refine lv_iload hx hb dL_law_1421 (lv_at hl 0 rfl) ?_
  refine lv_iconst (v := 1) hx hb dL_law_1423 (by decide) ?_
  refine lv_iadd hx hb dL_law_1424 ?_
  refine va_sld hx hb hX hbl hbA hS hv1 dL_law_1425 ?_
  refine lv_aload_n hx hb dL_law_1426 rfl (lv_at hl 4 rfl) ?_
  refine LC_callH (As := [.ref (a 0), .int (xs (nI i + 1).toNatClampNeg), .ref o]) (rest := []) ⟨hx, hb, hml, hown, hts⟩ (h_leave l D cI cZ cL a o H.size σ g (xs (nI i + 1).toNatClampNeg) (cdLe σ n Z (xs (nI i + 1).toNatClampNeg)) _ (fun sz => c_X5_leave l D cI cZ a sz σ hfl (xs (nI i + 1).toNatClampNeg) n h.xn h.n4 nw Z J h.xw h.wi.w8 (RI.hQ h) h.wi.hJ8 h.wi.hS8)) (vx_cwSW 3 hts gL_law_L_leave rfl rfl rfl (by decide +kernel) ⟨Nat.le_of_ble_eq_true rfl, Nat.le_of_ble_eq_true rfl⟩) hP hK hD hS hA hEV hZ rfl hl.1 (Nat.le_of_ble_eq_true rfl) hC9 hS9 dL_law_1427 rfl (fun k9 x9 H locs hx9 hP hD hS => ?_)
  refine lv_istore (lv' := [(5, .int k9), (4, .int (nI i)), (0, .ref b), (1, .ref (a 0)), (2, .ref (a2 0)), (3, .ref o)]) hx hb dL_law_1430 hl (by decide) rfl (fun ls hl => ?_)
  refine lv_aload_n hx hb dL_law_1432 rfl (lv_at hl 4 rfl) ?_
  refine lv_aload_n hx hb dL_law_1433 rfl (lv_at hl 2 rfl) ?_
  refine lv_iload hx hb dL_law_1434 (lv_at hl 1 rfl) ?_
  refine lv_iconst (v := 1) hx hb dL_law_1436 (by decide) ?_
  refine lv_iadd hx hb dL_law_1437 ?_
  refine va_sld hx hb hX hbl hbA hS hv1 dL_law_1438 ?_
  refine LC_callM (As := [.int (xs (nI i + 1).toNatClampNeg)]) (rest := []) ⟨hx, hb, hml, hown, hts⟩ (c_X6_leave l D cI cZ a2 H.size μ (xs (nI i + 1).toNatClampNeg) n h.yn h.n4 nw h.yw h.wi.w8 Z J h.wi.hM (RI.hG h) (RI.hW h)) (cwV 1 hts gL_law_X6_leave rfl rfl rfl (by decide +kernel) ⟨Nat.le_of_ble_eq_true rfl, Nat.le_of_ble_eq_true rfl⟩) hP hK hD hS hA (va_recv hK hP (ci := 6) (q0 := 28) rfl rfl) rfl hl.1 (Nat.le_of_ble_eq_true rfl) (by show C9 + 1 ≤ 1098; omega) (by show S9 + 6 ≤ 8929; omega) dL_law_1439 rfl (fun r9 w9 H locs hm9 hP hD hS => ?_)
  have hres := op_gen (g := g) (x := x9) (k := k9) (r2 := r9) (u2 := w9) (P := fun r u => ((σ 24 (J (2 + (xs (nI i + 1).toNatClampNeg).toNatClampNeg) (Z (2 + (xs (nI i + 1).toNatClampNeg).toNatClampNeg) - 1)) = σ 4 (xs (nI i + 1).toNatClampNeg).toNatClampNeg ∧ u = (va_up (va_up (va_up (va_up σ 1 (fun _ => σ 1 0 + pay (σ 26 (J (2 + (xs (nI i + 1).toNatClampNeg).toNatClampNeg) (Z (2 + (xs (nI i + 1).toNatClampNeg).toNatClampNeg) - 1))) (σ 25 (J (2 + (xs (nI i + 1).toNatClampNeg).toNatClampNeg) (Z (2 + (xs (nI i + 1).toNatClampNeg).toNatClampNeg) - 1))) (σ 0 0))) 21 (upd (upd (σ 21) (2 + (xs (nI i + 1).toNatClampNeg).toNatClampNeg) (nI (Z (2 + (xs (nI i + 1).toNatClampNeg).toNatClampNeg) - 1))) (sR (σ 4 (xs (nI i + 1).toNatClampNeg).toNatClampNeg)) (nI (Z (sR (σ 4 (xs (nI i + 1).toNatClampNeg).toNatClampNeg)) + 1)))) 22 (upd (σ 22) ((sR (σ 4 (xs (nI i + 1).toNatClampNeg).toNatClampNeg)) * 8 + Z (sR (σ 4 (xs (nI i + 1).toNatClampNeg).toNatClampNeg))) (nI (J (2 + (xs (nI i + 1).toNatClampNeg).toNatClampNeg) (Z (2 + (xs (nI i + 1).toNatClampNeg).toNatClampNeg) - 1))))) 24 (upd (σ 24) (J (2 + (xs (nI i + 1).toNatClampNeg).toNatClampNeg) (Z (2 + (xs (nI i + 1).toNatClampNeg).toNatClampNeg) - 1)) 0)) ∧ r = pay (σ 26 (J (2 + (xs (nI i + 1).toNatClampNeg).toNatClampNeg) (Z (2 + (xs (nI i + 1).toNatClampNeg).toNatClampNeg) - 1))) (σ 25 (J (2 + (xs (nI i + 1).toNatClampNeg).toNatClampNeg) (Z (2 + (xs (nI i + 1).toNatClampNeg).toNatClampNeg) - 1))) (σ 0 0)) ∨ (¬ σ 24 (J (2 + (xs (nI i + 1).toNatClampNeg).toNatClampNeg) (Z (2 + (xs (nI i + 1).toNatClampNeg).toNatClampNeg) - 1)) = σ 4 (xs (nI i + 1).toNatClampNeg).toNatClampNeg ∧ u = (va_up (va_up (va_up σ 1 (fun _ => σ 1 0 + 0)) 21 (upd (upd (σ 21) (2 + (xs (nI i + 1).toNatClampNeg).toNatClampNeg) (nI (Z (2 + (xs (nI i + 1).toNatClampNeg).toNatClampNeg) - 1))) (sR (σ 4 (xs (nI i + 1).toNatClampNeg).toNatClampNeg)) (nI (Z (sR (σ 4 (xs (nI i + 1).toNatClampNeg).toNatClampNeg)) + 1)))) 22 (upd (σ 22) ((sR (σ 4 (xs (nI i + 1).toNatClampNeg).toNatClampNeg)) * 8 + Z (sR (σ 4 (xs (nI i + 1).toNatClampNeg).toNatClampNeg))) (nI (J (2 + (xs (nI i + 1).toNatClampNeg).toNatClampNeg) (Z (2 + (xs (nI i + 1).toNatClampNeg).toNatClampNeg) - 1))))) ∧ r = 0))) (P2 := fun r u => (((μ 26 (J (2 + (xs (nI i + 1).toNatClampNeg).toNatClampNeg) (Z (2 + (xs (nI i + 1).toNatClampNeg).toNatClampNeg) - 1)) = 0 ∨ ¬ μ 24 (J (2 + (xs (nI i + 1).toNatClampNeg).toNatClampNeg) (Z (2 + (xs (nI i + 1).toNatClampNeg).toNatClampNeg) - 1)) = μ 4 (xs (nI i + 1).toNatClampNeg).toNatClampNeg) ∧ u = (va_up (va_up (va_up μ 32 (upd (μ 32) (J (2 + (xs (nI i + 1).toNatClampNeg).toNatClampNeg) (Z (2 + (xs (nI i + 1).toNatClampNeg).toNatClampNeg) - 1)) (μ 4 (xs (nI i + 1).toNatClampNeg).toNatClampNeg))) 33 (upd (μ 33) (J (2 + (xs (nI i + 1).toNatClampNeg).toNatClampNeg) (Z (2 + (xs (nI i + 1).toNatClampNeg).toNatClampNeg) - 1)) (nI (Z (sR (μ 4 (xs (nI i + 1).toNatClampNeg).toNatClampNeg)))))) 34 (fun _ => 0)) ∧ r = 0) ∨ ((¬ μ 26 (J (2 + (xs (nI i + 1).toNatClampNeg).toNatClampNeg) (Z (2 + (xs (nI i + 1).toNatClampNeg).toNatClampNeg) - 1)) = 0 ∧ μ 24 (J (2 + (xs (nI i + 1).toNatClampNeg).toNatClampNeg) (Z (2 + (xs (nI i + 1).toNatClampNeg).toNatClampNeg) - 1)) = μ 4 (xs (nI i + 1).toNatClampNeg).toNatClampNeg) ∧ u = (va_up (va_up (va_up (va_up (va_up μ 1 (fun _ => μ 1 0 + payM (μ 26 (J (2 + (xs (nI i + 1).toNatClampNeg).toNatClampNeg) (Z (2 + (xs (nI i + 1).toNatClampNeg).toNatClampNeg) - 1))) (μ 25 (J (2 + (xs (nI i + 1).toNatClampNeg).toNatClampNeg) (Z (2 + (xs (nI i + 1).toNatClampNeg).toNatClampNeg) - 1))) (μ 0 0))) 26 (upd (μ 26) (J (2 + (xs (nI i + 1).toNatClampNeg).toNatClampNeg) (Z (2 + (xs (nI i + 1).toNatClampNeg).toNatClampNeg) - 1)) 0)) 32 (upd (μ 32) (J (2 + (xs (nI i + 1).toNatClampNeg).toNatClampNeg) (Z (2 + (xs (nI i + 1).toNatClampNeg).toNatClampNeg) - 1)) (μ 4 (xs (nI i + 1).toNatClampNeg).toNatClampNeg))) 33 (upd (μ 33) (J (2 + (xs (nI i + 1).toNatClampNeg).toNatClampNeg) (Z (2 + (xs (nI i + 1).toNatClampNeg).toNatClampNeg) - 1)) (nI (Z (sR (μ 4 (xs (nI i + 1).toNatClampNeg).toNatClampNeg)))))) 34 (fun _ => 0)) ∧ r = payM (μ 26 (J (2 + (xs (nI i + 1).toNatClampNeg).toNatClampNeg) (Z (2 + (xs (nI i + 1).toNatClampNeg).toNatClampNeg) - 1))) (μ 25 (J (2 + (xs (nI i + 1).toNatClampNeg).toNatClampNeg) (Z (2 + (xs (nI i + 1).toNatClampNeg).toNatClampNeg) - 1))) (μ 0 0)))) (F := fun v9 => v9.toInt64) ⟨n, nb, nw, T, Z, J, h⟩ (cdLe_e h _) hx9 hm9 (fun h0 v9 u hp hp2 => op_leave h h0 hp hp2)
  obtain ⟨hrr, hth, hans⟩ := hres
  refine lv_istore (lv' := [(6, .int r9), (5, .int k9), (4, .int (nI i)), (0, .ref b), (1, .ref (a 0)), (2, .ref (a2 0)), (3, .ref o)]) hx hb dL_law_1442 hl (by decide) rfl (fun ls hl => ?_)
  refine lv_aload_n hx hb dL_law_1444 rfl (lv_at hl 5 rfl) ?_
  refine LC_callM (As := []) (rest := []) ⟨hx, hb, hml, hown, hts⟩ (c_X6_thrown l D cI cZ a2 H.size w9) (cwV 0 hts gL_law_X6_thrown rfl rfl rfl (by decide +kernel) ⟨Nat.le_of_ble_eq_true rfl, Nat.le_of_ble_eq_true rfl⟩) hP hK hD hS hA (va_recv hK hP (ci := 6) (q0 := 28) rfl rfl) rfl hl.1 (Nat.le_of_ble_eq_true rfl) (by show C9 + 1 ≤ 1098; omega) (by show S9 + 6 ≤ 8929; omega) dL_law_1445 rfl (fun r7 u7 H locs hp7 hP hD hS => ?_)
  obtain ⟨eu7, hp7⟩ := hp7
  rw [eu7] at hP hD
  refine lv_iload hx hb dL_law_1448 (lv_at hl 1 rfl) ?_
  refine lv_icmp_eq (tgt := 1455) hx hb dL_law_1450 (by decide) (fun _ => ?_) (fun c9 => absurd (hp7.trans hth) c9)
  refine lv_iload hx hb dL_law_1455 (lv_at hl 1 rfl) ?_
  refine lv_if_ne (tgt := 1472) hx hb dL_law_1457 (by decide) (fun c_1457 => ?_) (fun c_1457 => ?_)
  · skip
    refine lv_goto (tgt := 1556) hx hb dL_law_1472 (by decide) ?_
    exact hk _ _ _ _ _ ls hrr hP hD hS (lv_sub hl [2, 3, 4, 5, 6] rfl)
  · skip
    refine lv_aload_n hx hb dL_law_1460 rfl (lv_at hl 6 rfl) ?_
    refine lv_iconst (v := 0) hx hb dL_law_1461 (by decide) ?_
    refine va_lald hx hb hK hP 0 2 rfl rfl (show vp_in 0 1 by unfold vp_in; decide) dL_law_1462 ?_
    refine lv_iload hx hb dL_law_1463 (lv_at hl 0 rfl) ?_
    refine lv_i2l (v := r9.toInt64) hx hb dL_law_1465 rfl ?_
    have hcm : x9.2 (0 : Int32).toNatClampNeg = r9.toInt64 := hans c_1457
    refine lcmp_eq hx hb dL_law_1466 hcm ?_
    refine lv_if_eq (tgt := 1472) hx hb dL_law_1467 (by decide) (fun _ => ?_) (fun c9 => absurd rfl c9)
    refine lv_goto (tgt := 1556) hx hb dL_law_1472 (by decide) ?_
    exact hk _ _ _ _ _ ls hrr hP hD hS (lv_sub hl [2, 3, 4, 5, 6] rfl)
set_option maxHeartbeats 4000000 in
set_option maxRecDepth 100000 in
theorem case_waggonAt {p : Program} {l : Launch} {e : Env} {s : State} {m : MethodId} {below : List Frame} {meth : Method} {c : Code} {b L : Nat} {xs : Nat → Int32} {D : va_G} {cI cZ cL : ClassId} {a a2 : Nat → Nat} {o : Nat} {Q : State → Prop} (hfl : l.stackTraces = false) (C0 : lw_At p s m meth c b L xs) (hL : L ≤ 2560) (hK : va_K D vwCl (ty3 cI cZ cL) s) (hEV : EV s) (hZ : SZ (fun q : Nat => s.heap.size ≤ q) s s.heap) {σ μ : St} {g : Nat → Int64} {i C9 S9 : Nat} (hi : i + 5 ≤ L) (hC9 : C9 + 1 ≤ 1098) (hS9 : S9 + 6 ≤ 8929) (hRR : RR σ μ) {H : Heap} {locs : List Loc} {ls : Array Slot} (hP : va_P D vwCl (wL cI cZ cL a o a2 (σ, g) μ) H) (hD : va_D (fun q : Nat => s.heap.size ≤ q) (wL cI cZ cL a o a2 (σ, g) μ)) (hS : va_S (fun q : Nat => s.heap.size ≤ q) s.heap H locs) (hl : lv_has ls 7 [(4, .int (nI i)), (0, .ref b), (1, .ref (a 0)), (2, .ref (a2 0)), (3, .ref o)]) (hk : ∀ (σ μ : St) (g : Nat → Int64) (H : Heap) (locs : List Loc) (ls : Array Slot), RR σ μ → va_P D vwCl (wL cI cZ cL a o a2 (σ, g) μ) H → va_D (fun q : Nat => s.heap.size ≤ q) (wL cI cZ cL a o a2 (σ, g) μ) → va_S (fun q : Nat => s.heap.size ≤ q) s.heap H locs → lv_has ls 7 [(4, .int (nI i)), (0, .ref b), (1, .ref (a 0)), (2, .ref (a2 0)), (3, .ref o)] → W p l e room_1 s m #[Value.ref b] below meth c H locs (C9 + 1) (S9 + 6) Q (F0 m 1556 ls [])) : W p l e room_1 s m #[Value.ref b] below meth c H locs C9 S9 Q (F0 m 1475 ls []) := by
  obtain ⟨hx, hb, hr, hml, hown, hts0, hX, hbl, hlocks, hgv⟩ := C0
  have hts : ∀ w ∈ wsL_law, w.before #[Value.ref b] s = true := fun w h => hts0 w (wsL_law_in w h)
  have hA : ∀ q : Nat, s.heap.size ≤ q → (fun q : Nat => s.heap.size ≤ q) q := fun _ h => h
  have hbA : ¬ (fun q : Nat => s.heap.size ≤ q) b := Nat.not_le.mpr hbl
  have hv1 : vp_in (nI i + 1) L := by rw [show (1 : Int32) = nI 1 from rfl, nI_add]; exact vp_in_nI (by omega) (by omega)
  have hv2 : vp_in (nI i + 2) L := by rw [show (2 : Int32) = nI 2 from rfl, nI_add]; exact vp_in_nI (by omega) (by omega)
  have hv3 : vp_in (nI i + 3) L := by rw [show (3 : Int32) = nI 3 from rfl, nI_add]; exact vp_in_nI (by omega) (by omega)
  have hv4 : vp_in (nI i + 4) L := by rw [show (4 : Int32) = nI 4 from rfl, nI_add]; exact vp_in_nI (by omega) (by omega)
  obtain ⟨n, nb, nw, T, Z, J, h⟩ := hRR
  refine lv_aload_n hx hb dL_law_1475 rfl (lv_at hl 2 rfl) ?_
  refine lv_aload_n hx hb dL_law_1476 rfl (lv_at hl 1 rfl) ?_
  refine lv_iload hx hb dL_law_1477 (lv_at hl 0 rfl) ?_
  refine lv_iconst (v := 1) hx hb dL_law_1479 (by decide) ?_
  refine lv_iadd hx hb dL_law_1480 ?_
  refine va_sld hx hb hX hbl hbA hS hv1 dL_law_1481 ?_
  refine lv_aload_n hx hb dL_law_1482 rfl (lv_at hl 1 rfl) ?_
  refine lv_iload hx hb dL_law_1483 (lv_at hl 0 rfl) ?_
  refine lv_iconst (v := 2) hx hb dL_law_1485 (by decide) ?_
  refine lv_iadd hx hb dL_law_1486 ?_
  refine va_sld hx hb hX hbl hbA hS hv2 dL_law_1487 ?_
  refine lv_aload_n hx hb dL_law_1488 rfl (lv_at hl 4 rfl) ?_
  refine LC_callH (As := [.ref (a 0), .int (xs (nI i + 1).toNatClampNeg), .int (xs (nI i + 2).toNatClampNeg), .ref o]) (rest := []) ⟨hx, hb, hml, hown, hts⟩ (h_waggonAt l D cI cZ cL a o H.size σ g (xs (nI i + 1).toNatClampNeg) (xs (nI i + 2).toNatClampNeg) (cdAt n (xs (nI i + 1).toNatClampNeg) (xs (nI i + 2).toNatClampNeg)) _ (fun sz => c_X5_waggonAt l D cI cZ a sz σ hfl (xs (nI i + 1).toNatClampNeg) (xs (nI i + 2).toNatClampNeg) n h.xn h.n4 nw Z J h.xw h.wi.w8 (RI.hQ h) h.wi.hJ8)) (vx_cwSW 4 hts gL_law_L_waggonAt rfl rfl rfl (by decide +kernel) ⟨Nat.le_of_ble_eq_true rfl, Nat.le_of_ble_eq_true rfl⟩) hP hK hD hS hA hEV hZ rfl hl.1 (Nat.le_of_ble_eq_true rfl) hC9 hS9 dL_law_1489 rfl (fun k9 x9 H locs hx9 hP hD hS => ?_)
  refine lv_istore (lv' := [(5, .int k9), (4, .int (nI i)), (0, .ref b), (1, .ref (a 0)), (2, .ref (a2 0)), (3, .ref o)]) hx hb dL_law_1492 hl (by decide) rfl (fun ls hl => ?_)
  refine lv_aload_n hx hb dL_law_1494 rfl (lv_at hl 4 rfl) ?_
  refine lv_aload_n hx hb dL_law_1495 rfl (lv_at hl 2 rfl) ?_
  refine lv_iload hx hb dL_law_1496 (lv_at hl 1 rfl) ?_
  refine lv_iconst (v := 1) hx hb dL_law_1498 (by decide) ?_
  refine lv_iadd hx hb dL_law_1499 ?_
  refine va_sld hx hb hX hbl hbA hS hv1 dL_law_1500 ?_
  refine lv_aload_n hx hb dL_law_1501 rfl (lv_at hl 2 rfl) ?_
  refine lv_iload hx hb dL_law_1502 (lv_at hl 1 rfl) ?_
  refine lv_iconst (v := 2) hx hb dL_law_1504 (by decide) ?_
  refine lv_iadd hx hb dL_law_1505 ?_
  refine va_sld hx hb hX hbl hbA hS hv2 dL_law_1506 ?_
  refine LC_callM (As := [.int (xs (nI i + 1).toNatClampNeg), .int (xs (nI i + 2).toNatClampNeg)]) (rest := []) ⟨hx, hb, hml, hown, hts⟩ (c_X6_waggonAt l D cI cZ a2 H.size μ (xs (nI i + 1).toNatClampNeg) (xs (nI i + 2).toNatClampNeg) n h.yn h.n4 nw h.yw h.wi.w8 Z J h.wi.hM (RI.hG h) (RI.hW h)) (cwV 2 hts gL_law_X6_waggonAt rfl rfl rfl (by decide +kernel) ⟨Nat.le_of_ble_eq_true rfl, Nat.le_of_ble_eq_true rfl⟩) hP hK hD hS hA (va_recv hK hP (ci := 6) (q0 := 28) rfl rfl) rfl hl.1 (Nat.le_of_ble_eq_true rfl) (by show C9 + 1 ≤ 1098; omega) (by show S9 + 6 ≤ 8929; omega) dL_law_1507 rfl (fun r9 w9 H locs hm9 hP hD hS => ?_)
  have hres := op_gen (g := g) (x := x9) (k := k9) (r2 := r9) (u2 := w9) (P := fun r u => u = σ ∧ r = waJ Z J (xs (nI i + 1).toNatClampNeg) (xs (nI i + 2).toNatClampNeg)) (P2 := fun r u => u = (va_up μ 34 (fun _ => 0)) ∧ r = waJ Z J (xs (nI i + 1).toNatClampNeg) (xs (nI i + 2).toNatClampNeg)) (F := fun v9 => v9.toInt64) ⟨n, nb, nw, T, Z, J, h⟩ rfl hx9 hm9 (fun h0 v9 u hp hp2 => op_ask h rfl hp hp2)
  obtain ⟨hrr, hth, hans⟩ := hres
  refine lv_istore (lv' := [(6, .int r9), (5, .int k9), (4, .int (nI i)), (0, .ref b), (1, .ref (a 0)), (2, .ref (a2 0)), (3, .ref o)]) hx hb dL_law_1510 hl (by decide) rfl (fun ls hl => ?_)
  refine lv_aload_n hx hb dL_law_1512 rfl (lv_at hl 5 rfl) ?_
  refine LC_callM (As := []) (rest := []) ⟨hx, hb, hml, hown, hts⟩ (c_X6_thrown l D cI cZ a2 H.size w9) (cwV 0 hts gL_law_X6_thrown rfl rfl rfl (by decide +kernel) ⟨Nat.le_of_ble_eq_true rfl, Nat.le_of_ble_eq_true rfl⟩) hP hK hD hS hA (va_recv hK hP (ci := 6) (q0 := 28) rfl rfl) rfl hl.1 (Nat.le_of_ble_eq_true rfl) (by show C9 + 1 ≤ 1098; omega) (by show S9 + 6 ≤ 8929; omega) dL_law_1513 rfl (fun r7 u7 H locs hp7 hP hD hS => ?_)
  obtain ⟨eu7, hp7⟩ := hp7
  rw [eu7] at hP hD
  refine lv_iload hx hb dL_law_1516 (lv_at hl 1 rfl) ?_
  refine lv_icmp_eq (tgt := 1523) hx hb dL_law_1518 (by decide) (fun _ => ?_) (fun c9 => absurd (hp7.trans hth) c9)
  refine lv_iload hx hb dL_law_1523 (lv_at hl 1 rfl) ?_
  refine lv_if_ne (tgt := 1540) hx hb dL_law_1525 (by decide) (fun c_1525 => ?_) (fun c_1525 => ?_)
  · skip
    refine lv_goto (tgt := 1556) hx hb dL_law_1540 (by decide) ?_
    exact hk _ _ _ _ _ ls hrr hP hD hS (lv_sub hl [2, 3, 4, 5, 6] rfl)
  · skip
    refine lv_aload_n hx hb dL_law_1528 rfl (lv_at hl 6 rfl) ?_
    refine lv_iconst (v := 0) hx hb dL_law_1529 (by decide) ?_
    refine va_lald hx hb hK hP 0 2 rfl rfl (show vp_in 0 1 by unfold vp_in; decide) dL_law_1530 ?_
    refine lv_iload hx hb dL_law_1531 (lv_at hl 0 rfl) ?_
    refine lv_i2l (v := r9.toInt64) hx hb dL_law_1533 rfl ?_
    have hcm : x9.2 (0 : Int32).toNatClampNeg = r9.toInt64 := hans c_1525
    refine lcmp_eq hx hb dL_law_1534 hcm ?_
    refine lv_if_eq (tgt := 1540) hx hb dL_law_1535 (by decide) (fun _ => ?_) (fun c9 => absurd rfl c9)
    refine lv_goto (tgt := 1556) hx hb dL_law_1540 (by decide) ?_
    exact hk _ _ _ _ _ ls hrr hP hD hS (lv_sub hl [2, 3, 4, 5, 6] rfl)
set_option maxHeartbeats 4000000 in
set_option maxRecDepth 100000 in
theorem case_earned {p : Program} {l : Launch} {e : Env} {s : State} {m : MethodId} {below : List Frame} {meth : Method} {c : Code} {b L : Nat} {xs : Nat → Int32} {D : va_G} {cI cZ cL : ClassId} {a a2 : Nat → Nat} {o : Nat} {Q : State → Prop} (hfl : l.stackTraces = false) (C0 : lw_At p s m meth c b L xs) (hL : L ≤ 2560) (hK : va_K D vwCl (ty3 cI cZ cL) s) (hEV : EV s) (hZ : SZ (fun q : Nat => s.heap.size ≤ q) s s.heap) {σ μ : St} {g : Nat → Int64} {i C9 S9 : Nat} (hi : i + 5 ≤ L) (hC9 : C9 + 1 ≤ 1098) (hS9 : S9 + 6 ≤ 8929) (hRR : RR σ μ) {H : Heap} {locs : List Loc} {ls : Array Slot} (hP : va_P D vwCl (wL cI cZ cL a o a2 (σ, g) μ) H) (hD : va_D (fun q : Nat => s.heap.size ≤ q) (wL cI cZ cL a o a2 (σ, g) μ)) (hS : va_S (fun q : Nat => s.heap.size ≤ q) s.heap H locs) (hl : lv_has ls 7 [(4, .int (nI i)), (0, .ref b), (1, .ref (a 0)), (2, .ref (a2 0)), (3, .ref o)]) (hk : ∀ (σ μ : St) (g : Nat → Int64) (H : Heap) (locs : List Loc) (ls : Array Slot), RR σ μ → va_P D vwCl (wL cI cZ cL a o a2 (σ, g) μ) H → va_D (fun q : Nat => s.heap.size ≤ q) (wL cI cZ cL a o a2 (σ, g) μ) → va_S (fun q : Nat => s.heap.size ≤ q) s.heap H locs → lv_has ls 7 [(4, .int (nI i)), (0, .ref b), (1, .ref (a 0)), (2, .ref (a2 0)), (3, .ref o)] → W p l e room_1 s m #[Value.ref b] below meth c H locs (C9 + 1) (S9 + 6) Q (F0 m 1556 ls [])) : W p l e room_1 s m #[Value.ref b] below meth c H locs C9 S9 Q (F0 m 1543 ls []) := by
  obtain ⟨hx, hb, hr, hml, hown, hts0, hX, hbl, hlocks, hgv⟩ := C0
  have hts : ∀ w ∈ wsL_law, w.before #[Value.ref b] s = true := fun w h => hts0 w (wsL_law_in w h)
  have hA : ∀ q : Nat, s.heap.size ≤ q → (fun q : Nat => s.heap.size ≤ q) q := fun _ h => h
  have hbA : ¬ (fun q : Nat => s.heap.size ≤ q) b := Nat.not_le.mpr hbl
  have hv1 : vp_in (nI i + 1) L := by rw [show (1 : Int32) = nI 1 from rfl, nI_add]; exact vp_in_nI (by omega) (by omega)
  have hv2 : vp_in (nI i + 2) L := by rw [show (2 : Int32) = nI 2 from rfl, nI_add]; exact vp_in_nI (by omega) (by omega)
  have hv3 : vp_in (nI i + 3) L := by rw [show (3 : Int32) = nI 3 from rfl, nI_add]; exact vp_in_nI (by omega) (by omega)
  have hv4 : vp_in (nI i + 4) L := by rw [show (4 : Int32) = nI 4 from rfl, nI_add]; exact vp_in_nI (by omega) (by omega)
  obtain ⟨n, nb, nw, T, Z, J, h⟩ := hRR
  refine lv_aload_n hx hb dL_law_1543 rfl (lv_at hl 2 rfl) ?_
  refine LC_callX (As := []) (rest := []) ⟨hx, hb, hml, hown, hts⟩ (c_X5_earned l D cI cZ a H.size σ) (cwV 0 hts gL_law_X5_earned rfl rfl rfl (by decide +kernel) ⟨Nat.le_of_ble_eq_true rfl, Nat.le_of_ble_eq_true rfl⟩) hP hK hD hS hA (va_recv hK hP (ci := 5) (q0 := 1) rfl rfl) rfl hl.1 (Nat.le_of_ble_eq_true rfl) (by show C9 ≤ 1098; omega) (by show S9 ≤ 8929; omega) dL_law_1544 rfl (fun r5 u5 H locs hp5 hP hD hS => ?_)
  obtain ⟨eu5, hp5⟩ := hp5
  rw [eu5] at hP hD
  refine lv_aload_n hx hb dL_law_1547 rfl (lv_at hl 3 rfl) ?_
  refine LC_callM (As := []) (rest := [.int r5]) ⟨hx, hb, hml, hown, hts⟩ (c_X6_earned l D cI cZ a2 H.size μ) (cwV 0 hts gL_law_X6_earned rfl rfl rfl (by decide +kernel) ⟨Nat.le_of_ble_eq_true rfl, Nat.le_of_ble_eq_true rfl⟩) hP hK hD hS hA (va_recv hK hP (ci := 6) (q0 := 28) rfl rfl) rfl hl.1 (Nat.le_of_ble_eq_true rfl) (by show C9 ≤ 1098; omega) (by show S9 ≤ 8929; omega) dL_law_1548 rfl (fun r9 w9 H locs hp9 hP hD hS => ?_)
  obtain ⟨rfl, hp9⟩ := hp9
  have heq : r5 = r9 := by rw [hp5, hp9, h.e1]
  refine lv_icmp_eq (tgt := 1556) hx hb dL_law_1551 (by decide) (fun _ => ?_) (fun c9 => absurd heq c9)
  refine W.widen (k := C9 + 1) (n := S9 + 6) (by omega) (by omega) ?_
  exact hk _ _ _ _ _ ls ⟨n, nb, nw, T, Z, J, h.up _⟩ hP hD hS (lv_sub hl [0, 1, 2, 3, 4] rfl)
