/-! the law's loop and its start -/
theorem ac_spec {t : FieldType} {args : Array Value} {s : State} (h : (Cond.arrayClass t).before args s = true) : ∃ (cA : ClassId) (kA : Class) (comp : ClassId), s.vm.findClass ("[" ++ t.toString) = some cA ∧ s.vm.classes[cA]? = some kA ∧ kA.kind = .array comp t := by
  simp only [Cond.before, Cond.holds, Cond.value] at h
  cases h1 : s.vm.findClass ("[" ++ t.toString) with
  | none => simp [h1] at h
  | some cA =>
    cases h2 : s.vm.classes[cA]? with
    | none => simp [h1, h2] at h
    | some kA =>
      cases h3 : kA.kind with
      | array comp t2 =>
        simp [h1, h2, h3] at h
        obtain rfl : t2 = t := by first | exact h | exact h.symm | exact h.1 | exact h.1.symm
        exact ⟨cA, kA, comp, rfl, h2, h3⟩
      | _ => simp [h1, h2, h3] at h
set_option maxHeartbeats 4000000 in
set_option maxRecDepth 100000 in
theorem law_loop {p : Program} {l : Launch} {e : Env} {s : State} {m : MethodId} {below : List Frame} {meth : Method} {c : Code} {b L : Nat} {xs : Nat → Int32} {D : va_G} {cI cZ cL : ClassId} {a a2 : Nat → Nat} {o : Nat} (hfl : l.stackTraces = false) (C0 : lw_At p s m meth c b L xs) (hL : L ≤ 2560) (hK : va_K D vwCl (ty3 cI cZ cL) s) (hEV : EV s) (hZ : SZ (fun q : Nat => s.heap.size ≤ q) s s.heap) : ∀ (f i j : Nat) (σ μ : St) (g : Nat → Int64) (H : Heap) (locs : List Loc) (ls : Array Slot), L < i + f → i = 5 * j → i ≤ L → RR σ μ → va_P D vwCl (wL cI cZ cL a o a2 (σ, g) μ) H → va_D (fun q : Nat => s.heap.size ≤ q) (wL cI cZ cL a o a2 (σ, g) μ) → va_S (fun q : Nat => s.heap.size ≤ q) s.heap H locs → lv_has ls 7 [(4, .int (nI i)), (0, .ref b), (1, .ref (a 0)), (2, .ref (a2 0)), (3, .ref o)] → W p l e room_1 s m #[Value.ref b] below meth c H locs (49 + j) (587 + 6 * j) (lw_Z below #[Value.ref b] s) (F0 m 23 ls []) := by
  have C1 := C0
  obtain ⟨hx, hb, hr, hml, hown, hts0, hX, hbl, hlocks, hgv⟩ := C0
  have hbA : ¬ (fun q : Nat => s.heap.size ≤ q) b := Nat.not_le.mpr hbl
  intro f
  induction f with
  | zero => intro i j σ μ g H locs ls hf hij hiL; exact absurd hf (by omega)
  | succ f ih =>
    intro i j σ μ g H locs ls hf hij hiL hRR hP hD hS hl
    refine lv_iload hx hb dL_law_23 (lv_at hl 0 rfl) ?_
    refine lv_aload_n hx hb dL_law_25 rfl (lv_at hl 1 rfl) ?_
    refine va_slen hx hb hX hbl hbA hS dL_law_26 ?_
    refine lv_iconst (v := 5) hx hb dL_law_27 (by decide) ?_
    refine lv_isub hx hb dL_law_28 ?_
    refine lv_icmp_gt (tgt := 1562) hx hb dL_law_29 (by decide) (fun c9 => ?_) (fun c9 => ?_)
    · refine lv_iconst (v := 1) hx hb dL_law_1562 (by decide) ?_
      refine va_forget (fun q hq => hS.2.2 q hq) ?_
      refine W.widen (k := 1098) (n := 8929) (by omega) (by omega) ?_
      exact lw_ret hx hb hr hlocks dL_law_1563
    · have hi : i + 5 ≤ L := by
        have e1 := pk_sub_toInt (a := L) (b := 5) (by omega) (by omega)
        have e2 := nI_toInt (n := i) (by omega)
        have c8 : ¬ (nI L - nI 5) < nI i := c9
        rw [Int32.lt_iff_toInt_lt, e1, e2] at c8
        omega
      have hk : ∀ (σ μ : St) (g : Nat → Int64) (H : Heap) (locs : List Loc) (ls : Array Slot), RR σ μ → va_P D vwCl (wL cI cZ cL a o a2 (σ, g) μ) H → va_D (fun q : Nat => s.heap.size ≤ q) (wL cI cZ cL a o a2 (σ, g) μ) → va_S (fun q : Nat => s.heap.size ≤ q) s.heap H locs → lv_has ls 7 [(4, .int (nI i)), (0, .ref b), (1, .ref (a 0)), (2, .ref (a2 0)), (3, .ref o)] → W p l e room_1 s m #[Value.ref b] below meth c H locs (49 + j + 1) (587 + 6 * j + 6) (lw_Z below #[Value.ref b] s) (F0 m 1556 ls []) := by
        intro σ μ g H locs ls hRR hP hD hS hl
        refine lv_iinc (v := nI (i + 5)) (lv' := [(4, .int (nI (i + 5))), (0, .ref b), (1, .ref (a 0)), (2, .ref (a2 0)), (3, .ref o)]) hx hb dL_law_1556 hl (k := 0) rfl (by exact nI_add i 5) (by decide) rfl (fun ls hl => ?_)
        refine lv_goto (tgt := 23) hx hb dL_law_1559 (by decide) ?_
        refine W.widen (k := 49 + (j + 1)) (n := 587 + 6 * (j + 1)) (by omega) (by omega) ?_
        exact ih (i + 5) (j + 1) σ μ g H locs ls (by omega) (by omega) hi hRR hP hD hS hl
      have hv0 : vp_in (nI i) L := vp_in_nI (by omega) (by omega)
      refine lv_aload_n hx hb dL_law_32 rfl (lv_at hl 1 rfl) ?_
      refine lv_iload hx hb dL_law_33 (lv_at hl 0 rfl) ?_
      refine va_sld hx hb hX hbl hbA hS hv0 dL_law_35 ?_
      refine lv_bipush (v := 31) hx hb dL_law_36 (by decide) ?_
      refine lv_iand hx hb dL_law_38 ?_
      rw [pk_and _ 5 (show (31 : Int32).toBitVec.toNat = 2 ^ 5 - 1 by decide)]
      generalize hk9 : (xs (nI i).toNatClampNeg).toBitVec.toNat % 2 ^ 5 = k9
      have hk32 : k9 < 32 := by rw [← hk9]; exact Nat.mod_lt _ (by decide)
      rcases (show k9 = 0 ∨ k9 = 1 ∨ k9 = 2 ∨ k9 = 3 ∨ k9 = 4 ∨ k9 = 5 ∨ k9 = 6 ∨ k9 = 7 ∨ k9 = 8 ∨ k9 = 9 ∨ k9 = 10 ∨ k9 = 11 ∨ k9 = 12 ∨ k9 = 13 ∨ k9 = 14 ∨ k9 = 15 ∨ k9 = 16 ∨ k9 = 17 ∨ k9 = 18 ∨ k9 = 19 ∨ k9 = 20 ∨ k9 = 21 ∨ 22 ≤ k9 by omega) with rfl | rfl | rfl | rfl | rfl | rfl | rfl | rfl | rfl | rfl | rfl | rfl | rfl | rfl | rfl | rfl | rfl | rfl | rfl | rfl | rfl | rfl | h9
      · refine lv_tableIn (off := 101) (tgt := 140) hx hb dL_law_39 (by decide) (by decide) (by decide) (by decide) ?_
        exact case_addTrain hfl C1 hL hK hEV hZ hi (by omega) (by omega) hRR hP hD hS hl hk
      · refine lv_tableIn (off := 185) (tgt := 224) hx hb dL_law_39 (by decide) (by decide) (by decide) (by decide) ?_
        exact case_hold hfl C1 hL hK hEV hZ hi (by omega) (by omega) hRR hP hD hS hl hk
      · refine lv_tableIn (off := 276) (tgt := 315) hx hb dL_law_39 (by decide) (by decide) (by decide) (by decide) ?_
        exact case_delay hfl C1 hL hK hEV hZ hi (by omega) (by omega) hRR hP hD hS hl hk
      · refine lv_tableIn (off := 344) (tgt := 383) hx hb dL_law_39 (by decide) (by decide) (by decide) (by decide) ?_
        exact case_reverse hfl C1 hL hK hEV hZ hi (by omega) (by omega) hRR hP hD hS hl hk
      · refine lv_tableIn (off := 407) (tgt := 446) hx hb dL_law_39 (by decide) (by decide) (by decide) (by decide) ?_
        exact case_throwSwitch hfl C1 hL hK hEV hZ hi (by omega) (by omega) hRR hP hD hS hl hk
      · refine lv_tableIn (off := 470) (tgt := 509) hx hb dL_law_39 (by decide) (by decide) (by decide) (by decide) ?_
        exact case_block hfl C1 hL hK hEV hZ hi (by omega) (by omega) hRR hP hD hS hl hk
      · refine lv_tableIn (off := 526) (tgt := 565) hx hb dL_law_39 (by decide) (by decide) (by decide) (by decide) ?_
        exact case_isRight hfl C1 hL hK hEV hZ hi (by omega) (by omega) hRR hP hD hS hl hk
      · refine lv_tableIn (off := 589) (tgt := 628) hx hb dL_law_39 (by decide) (by decide) (by decide) (by decide) ?_
        exact case_trainOn hfl C1 hL hK hEV hZ hi (by omega) (by omega) hRR hP hD hS hl hk
      · refine lv_tableIn (off := 645) (tgt := 684) hx hb dL_law_39 (by decide) (by decide) (by decide) (by decide) ?_
        exact case_run hfl C1 hL hK hEV hZ hi (by omega) (by omega) hRR hP hD hS hl hk
      · refine lv_tableIn (off := 701) (tgt := 740) hx hb dL_law_39 (by decide) (by decide) (by decide) (by decide) ?_
        exact case_clock hfl C1 hL hK hEV hZ hi (by omega) (by omega) hRR hP hD hS hl hk
      · refine lv_tableIn (off := 714) (tgt := 753) hx hb dL_law_39 (by decide) (by decide) (by decide) (by decide) ?_
        exact case_reaches hfl C1 hL hK hEV hZ hi (by omega) (by omega) hRR hP hD hS hl hk
      · refine lv_tableIn (off := 782) (tgt := 821) hx hb dL_law_39 (by decide) (by decide) (by decide) (by decide) ?_
        exact case_book hfl C1 hL hK hEV hZ hi (by omega) (by omega) hRR hP hD hS hl hk
      · refine lv_tableIn (off := 874) (tgt := 913) hx hb dL_law_39 (by decide) (by decide) (by decide) (by decide) ?_
        exact case_canBook hfl C1 hL hK hEV hZ hi (by omega) (by omega) hRR hP hD hS hl hk
      · refine lv_tableIn (off := 973) (tgt := 1012) hx hb dL_law_39 (by decide) (by decide) (by decide) (by decide) ?_
        exact case_canBookByMinutes hfl C1 hL hK hEV hZ hi (by omega) (by omega) hRR hP hD hS hl hk
      · refine lv_tableIn (off := 1072) (tgt := 1111) hx hb dL_law_39 (by decide) (by decide) (by decide) (by decide) ?_
        exact case_booking hfl C1 hL hK hEV hZ hi (by omega) (by omega) hRR hP hD hS hl hk
      · refine lv_tableIn (off := 1128) (tgt := 1167) hx hb dL_law_39 (by decide) (by decide) (by decide) (by decide) ?_
        exact case_late hfl C1 hL hK hEV hZ hi (by omega) (by omega) hRR hP hD hS hl hk
      · refine lv_tableIn (off := 1184) (tgt := 1223) hx hb dL_law_39 (by decide) (by decide) (by decide) (by decide) ?_
        exact case_addWaggon hfl C1 hL hK hEV hZ hi (by omega) (by omega) hRR hP hD hS hl hk
      · refine lv_tableIn (off := 1252) (tgt := 1291) hx hb dL_law_39 (by decide) (by decide) (by decide) (by decide) ?_
        exact case_offer hfl C1 hL hK hEV hZ hi (by omega) (by omega) hRR hP hD hS hl hk
      · refine lv_tableIn (off := 1324) (tgt := 1363) hx hb dL_law_39 (by decide) (by decide) (by decide) (by decide) ?_
        exact case_couple hfl C1 hL hK hEV hZ hi (by omega) (by omega) hRR hP hD hS hl hk
      · refine lv_tableIn (off := 1380) (tgt := 1419) hx hb dL_law_39 (by decide) (by decide) (by decide) (by decide) ?_
        exact case_leave hfl C1 hL hK hEV hZ hi (by omega) (by omega) hRR hP hD hS hl hk
      · refine lv_tableIn (off := 1436) (tgt := 1475) hx hb dL_law_39 (by decide) (by decide) (by decide) (by decide) ?_
        exact case_waggonAt hfl C1 hL hK hEV hZ hi (by omega) (by omega) hRR hP hD hS hl hk
      · refine lv_tableIn (off := 1504) (tgt := 1543) hx hb dL_law_39 (by decide) (by decide) (by decide) (by decide) ?_
        exact case_earned hfl C1 hL hK hEV hZ hi (by omega) (by omega) hRR hP hD hS hl hk
      · refine lv_tableOut (tgt := 1556) hx hb dL_law_39 (Or.inr (by rw [nI_toInt (by omega)]; omega)) (by decide) ?_
        refine W.widen (k := 49 + j + 1) (n := 587 + 6 * j + 6) (by omega) (by omega) ?_
        exact hk σ μ g H locs ls hRR hP hD hS hl
theorem so0 : ∀ n w, ¬ w = 0 → so (fun _ => 0) w n = -1 := fun n w h => so_miss (fun _ _ e => h e.symm)
theorem RR0 : RR (fun _ _ => 0) (fun _ _ => 0) := by
  refine ⟨0, 0, 0, 0, fun _ => 0, fun _ _ => 0, ⟨by omega, by omega, by omega, rfl, rfl, rfl, rfl, rfl, rfl, rfl, rfl, rfl, rfl, rfl, rfl, rfl, rfl, rfl, rfl, rfl, rfl, rfl, ?_, ?_, ?_, ?_, ?_, ?_, ?_, ?_, ?_, ?_⟩⟩
  · intro i hi; exact absurd hi (Nat.not_lt_zero i)
  · intro i j hi; exact absurd hi (Nat.not_lt_zero i)
  · intro i _; exact Or.inl rfl
  · intro i _; exact Or.inl rfl
  · intro i hi; exact absurd hi (Nat.not_lt_zero i)
  · intro i hi; exact absurd hi (Nat.not_lt_zero i)
  · intro i hi; exact absurd hi (Nat.not_lt_zero i)
  · intro i _; rfl
  · exact ⟨by omega, fun _ _ => rfl, fun r _ p hp => absurd hp (Nat.not_lt_zero p), fun r _ p hp => absurd hp (Nat.not_lt_zero p), fun w hw => absurd hw (Nat.not_lt_zero w), fun _ _ => rfl, fun _ _ => rfl, fun _ _ => Nat.zero_le 4⟩
  · intro i _; exact Or.inl ⟨rfl, rfl⟩
theorem exS : ∀ q ∈ EVs, Cond.exactly (.string RX5 q.1) "java/lang/String" ∈ flatC (Jvm.Cond.and given_1 narrow_1) := by decide +kernel
theorem srS : ∀ q ∈ EVs, Cond.stringRef RX5 q.1 q.2 ∈ lw_tbl := by decide +kernel
theorem ncS : ∀ q ∈ EVn, Cond.not (.castable q.1 q.2) ∈ flatC (Jvm.Cond.and given_1 narrow_1) := by decide +kernel
theorem ewS : ∀ w ∈ EVw, w ∈ lw_tbl := by decide +kernel
theorem EV_start {b : Addr} {s : State} (hts : ∀ w ∈ lw_tbl, w.before #[Value.ref b] s = true) (hgv : (Jvm.Cond.and given_1 narrow_1).before #[Value.ref b] s = true) : EV s := by
  have hs := flat_of_before _ hgv
  refine ⟨fun w hw => va_Nw.of (EV.tab (s := s) w hw) (hts w (ewS w hw)), fun q hq => ?_, fun q hq => va_Nc.of (hs _ (ncS q hq))⟩
  obtain ⟨a, c, cA, kA, q1, -⟩ := Cond.exactly_spec (args := #[Value.ref b]) (first := s) (o := none) (s := s) (idx := []) (t := .string RX5 q.1) (cls := "java/lang/String") (hs _ (exS q hq))
  exact ⟨a, vk_R.of (A := #[Value.ref b]) (hts _ (srS q hq)) q1⟩
theorem SZ_start {b : Addr} {s : State} (hts : ∀ w ∈ lw_tbl, w.before #[Value.ref b] s = true) (hgv : (Jvm.Cond.and given_1 narrow_1).before #[Value.ref b] s = true) : SZ (fun q : Nat => s.heap.size ≤ q) s s.heap := by
  have hs := flat_of_before _ hgv
  exact ⟨vx_Zqof (hts (.laysStatic Bundle.tN "UNASSIGNED_STACK" Bundle.steD) (by decide +kernel)) (hts (.initialized Bundle.tN) (by decide +kernel)) (hs (.isRef (.static Bundle.tN "UNASSIGNED_STACK" Bundle.steD)) (by decide +kernel)) (fun a h => Nat.not_le.mpr h),
    vx_Zqof (hts (.laysStatic Bundle.tN "SUPPRESSED_SENTINEL" Bundle.listD) (by decide +kernel)) (hts (.initialized Bundle.tN) (by decide +kernel)) (hs (.isRef (.static Bundle.tN "SUPPRESSED_SENTINEL" Bundle.listD)) (by decide +kernel)) (fun a h => Nat.not_le.mpr h)⟩
theorem NL_start {b : Addr} {s : State} (hts : ∀ w ∈ lw_tbl, w.before #[Value.ref b] s = true) : NL s :=
  ⟨va_Nw.of rfl (hts _ (by decide +kernel)), va_Nw.of rfl (hts _ (by decide +kernel)), va_Nw.of rfl (hts _ (by decide +kernel)), va_Nw.of rfl (hts _ (by decide +kernel)), va_Nw.of rfl (hts _ (by decide +kernel))⟩
set_option maxHeartbeats 4000000 in
set_option maxRecDepth 100000 in
/-- the law, from its entry -/
theorem whole_start {p : Program} {e : Env} {s : State} {m : MethodId} {below : List Frame} {meth : Method} {c : Code} (l : Launch) (hflags : l.flags = flags0) {b L : Nat} {xs : Nat → Int32} (hL : L ≤ 2560) (C0 : lw_At p s m meth c b L xs) : W p l e room_1 s m #[Value.ref b] below meth c s.heap [] 0 0 (lw_Z below #[Value.ref b] s) (entryFrame m ([Value.ref b] : List Value).toArray 7) := by
  have C1 := C0
  obtain ⟨hx, hb, hr, hml, hown, hts0, hX, hbl, hlocks, hgv⟩ := C0
  have hts : ∀ w ∈ wsL_law, w.before #[Value.ref b] s = true := fun w h => hts0 w (wsL_law_in w h)
  have hA : ∀ q : Nat, s.heap.size ≤ q → (fun q : Nat => s.heap.size ≤ q) q := fun _ h => h
  have hbA : ¬ (fun q : Nat => s.heap.size ≤ q) b := Nat.not_le.mpr hbl
  have hfl : l.stackTraces = false := by unfold Launch.stackTraces; rw [hflags]; decide +kernel
  have hEV := EV_start hts0 hgv
  have hZ := SZ_start hts0 hgv
  have hNL := NL_start hts0
  obtain ⟨c0, iS0, hKn0⟩ := u_known (C := RX0) (T := TX0) (N := 6) (n := 6) hts0 inX0 (hts0 (.instantiable RX0 6) (by decide +kernel))
  obtain ⟨c1, iS1, hKn1⟩ := u_known (C := RX1) (T := TX1) (N := 3) (n := 3) hts0 inX1 (hts0 (.instantiable RX1 3) (by decide +kernel))
  obtain ⟨c2, iS2, hKn2⟩ := u_known (C := RX2) (T := TX2) (N := 1) (n := 1) hts0 inX2 (hts0 (.instantiable RX2 1) (by decide +kernel))
  obtain ⟨c3, iS3, hKn3⟩ := u_known (C := RX3) (T := TX3) (N := 5) (n := 5) hts0 inX3 (hts0 (.instantiable RX3 5) (by decide +kernel))
  obtain ⟨c4, iS4, hKn4⟩ := u_known (C := RX4) (T := TX4) (N := 4) (n := 4) hts0 inX4 (hts0 (.instantiable RX4 4) (by decide +kernel))
  obtain ⟨c5, iS5, hKn5⟩ := u_known (C := RX5) (T := TX5) (N := 8) (n := 8) hts0 inX5 (hts0 (.instantiable RX5 8) (by decide +kernel))
  obtain ⟨c6, iS6, hKn6⟩ := u_known (C := RX6) (T := TX6) (N := 26) (n := 26) hts0 inX6 (hts0 (.instantiable RX6 26) (by decide +kernel))
  obtain ⟨D, hKc⟩ : ∃ (D : va_G), ∀ (k : Nat) (q : vw_C), vwCl[k]? = some q → u_Kn s q.1 q.2.1 q.2.2 (D.1 k) (D.2 k) := by
    refine ⟨(fun k => if k = 0 then c0 else if k = 1 then c1 else if k = 2 then c2 else if k = 3 then c3 else if k = 4 then c4 else if k = 5 then c5 else c6, fun k => if k = 0 then iS0 else if k = 1 then iS1 else if k = 2 then iS2 else if k = 3 then iS3 else if k = 4 then iS4 else if k = 5 then iS5 else iS6), ?_⟩
    intro k q hq
    match k, hq with
    | 0, hq => cases hq; exact hKn0
    | 1, hq => cases hq; exact hKn1
    | 2, hq => cases hq; exact hKn2
    | 3, hq => cases hq; exact hKn3
    | 4, hq => cases hq; exact hKn4
    | 5, hq => cases hq; exact hKn5
    | 6, hq => cases hq; exact hKn6
    | k + 7, hq => simp [vwCl] at hq
  obtain ⟨cI, kI, pI, i1, i2, i3⟩ := ac_spec (hts0 (.arrayClass .int) (by decide +kernel))
  obtain ⟨cZ, kZ, pZ, z1, z2, z3⟩ := ac_spec (hts0 (.arrayClass .boolean) (by decide +kernel))
  have hK : va_K D vwCl (ty2 cI cZ) s := by
    refine ⟨hKc, fun k q hq => ?_⟩
    match k, hq with
    | 0, hq => cases hq; exact ⟨fun n z => ⟨fun k h => (by cases h), kI, i2, pI, i3⟩, i1⟩
    | 1, hq => cases hq; exact ⟨fun n z => ⟨fun k h => (by cases h), kZ, z2, pZ, z3⟩, z1⟩
    | k + 2, hq => simp at hq
  have hS : va_S (fun q : Nat => s.heap.size ≤ q) s.heap s.heap [] := va_S.rf
  have hP : va_P D vwCl [] s.heap := fun k q h => by simp at h
  have hD : va_D (fun q : Nat => s.heap.size ≤ q) [] := ⟨fun i j p q h => by simp at h, fun k q h => by simp at h⟩
  have hl := lv_entry ([.ref b]) (n := 7) (Nat.le_of_ble_eq_true rfl)
  rw [lg_entry_eq]
  generalize (lg_sl ([.ref b]) ++ List.replicate (7 - (lg_sl ([.ref b])).length) Slot.unset).toArray = ls at hl ⊢
  have hl : lv_has ls 7 [(0, .ref b)] := hl
  refine va_new (ci := 5) (fs := [.null, .null, .null, .null, .null, .null, .int 0, .int 0]) (C := RX5) (T := TX5) (N := 8) hx hb hts0 inX5 tyX5 tyX5_ok hown (hts0 (.classLink RL 8 RX5) (by decide +kernel)) (hts0 (.instantiable RX5 8) (by decide +kernel)) (hts0 (.initialized RX5) (by decide +kernel)) hK hP hD hS hA rfl (fun j hj => by rcases (show j = 0 ∨ j = 1 ∨ j = 2 ∨ j = 3 ∨ j = 4 ∨ j = 5 ∨ j = 6 ∨ j = 7 by omega) with rfl | rfl | rfl | rfl | rfl | rfl | rfl | rfl <;> rfl) (Nat.le_of_ble_eq_true rfl) (Nat.le_of_ble_eq_true rfl) dL_law_0 (fun q5 H hP hD hS => ?_)
  refine W.widen (k := 1) (n := 8) (by omega) (by omega) ?_
  refine lv_dup hx hb dL_law_3 rfl ?_
  have hP : va_P D vwCl [(q5, .inr (5, [.null, .null, .null, .null, .null, .null, .int 0, .int 0]))] H := hP
  have hD : va_D (fun q : Nat => s.heap.size ≤ q) [(q5, .inr (5, [.null, .null, .null, .null, .null, .null, .int 0, .int 0]))] := hD
  have hFc := va_free (wc := [(q5, .inr (5, [.null, .null, .null, .null, .null, .null, .int 0, .int 0]))]) hD hS hA [0] rfl
  refine va_callv (va_runI (As := []) (rest := [.ref q5]) ⟨hx, hb, hml, hown, hts⟩ (k_X5 l D cI cZ q5 H.size) (cwI 0 hts gL_law_X5_init rfl rfl rfl (hts0 (.initialized RX5) (by decide +kernel)) (hts0 (.methodLink RL 83 yX5_init) (by decide +kernel)) (hts0 (.instanceMethod yX5_init) (by decide +kernel)) rfl (by decide +kernel) ⟨Nat.le_of_ble_eq_true rfl, Nat.le_of_ble_eq_true rfl⟩) ⟨fun a U g mk q => ⟨q.1, q.2.calling⟩, fun U hU hW => ⟨rfl, PC.at hP hK hD hNL hU hW⟩⟩ rfl rfl hl.1 rfl (lv_room (Nat.le_of_ble_eq_true rfl)) dL_law_4 ⟨Nat.le_of_ble_eq_true rfl, Nat.le_of_ble_eq_true rfl⟩) hS (fun q _ h => hFc q h) hFc (fun u t H1 locs ht hvm hw hB hz1 hk1 hS => ?_)
  obtain ⟨a, rfl⟩ : ∃ z, z = u := ⟨_, rfl⟩
  obtain ⟨hP1, hK1, hD1⟩ := hB
  rw [ht] at hP1
  obtain ⟨hPn, hDn⟩ := va_join (wr := []) (w1 := wX cI cZ a (fun _ _ => 0)) hP hD [0] [] rfl rfl (by decide) (by decide) hk1 hFc hP1 hD1
  clear hP hD
  generalize H1 = H at hPn hS ⊢
  have hw : a 0 = q5 := hw
  subst hw
  have hP : va_P D vwCl (wX cI cZ a (fun _ _ => 0)) H := hPn
  have hD : va_D (fun q : Nat => s.heap.size ≤ q) (wX cI cZ a (fun _ _ => 0)) := hDn
  refine W.widen (k := 27) (n := 302) (by omega) (by omega) ?_
  refine lv_astore_n (lv' := [(1, .ref (a 0)), (0, .ref b)]) hx hb dL_law_7 rfl hl (by decide) rfl (fun ls hl => ?_)
  refine va_new (ci := 6) (fs := [.int 0, .int 0, .int 0, .null, .null, .null, .null, .null, .null, .null, .null, .int 0, .null, .null, .null, .null, .null, .null, .int 0, .null, .null, .null, .null, .null, .null, .int 0]) (C := RX6) (T := TX6) (N := 26) hx hb hts0 inX6 tyX6 tyX6_ok hown (hts0 (.classLink RL 84 RX6) (by decide +kernel)) (hts0 (.instantiable RX6 26) (by decide +kernel)) (hts0 (.initialized RX6) (by decide +kernel)) hK hP hD hS hA rfl (fun j hj => by rcases (show j = 0 ∨ j = 1 ∨ j = 2 ∨ j = 3 ∨ j = 4 ∨ j = 5 ∨ j = 6 ∨ j = 7 ∨ j = 8 ∨ j = 9 ∨ j = 10 ∨ j = 11 ∨ j = 12 ∨ j = 13 ∨ j = 14 ∨ j = 15 ∨ j = 16 ∨ j = 17 ∨ j = 18 ∨ j = 19 ∨ j = 20 ∨ j = 21 ∨ j = 22 ∨ j = 23 ∨ j = 24 ∨ j = 25 by omega) with rfl | rfl | rfl | rfl | rfl | rfl | rfl | rfl | rfl | rfl | rfl | rfl | rfl | rfl | rfl | rfl | rfl | rfl | rfl | rfl | rfl | rfl | rfl | rfl | rfl | rfl <;> rfl) (Nat.le_of_ble_eq_true rfl) (Nat.le_of_ble_eq_true rfl) dL_law_8 (fun q6 H hP hD hS => ?_)
  refine W.widen (k := 28) (n := 328) (by omega) (by omega) ?_
  refine lv_dup hx hb dL_law_11 rfl ?_
  have hP : va_P D vwCl (wX cI cZ a (fun _ _ => 0) ++ [(q6, .inr (6, [.int 0, .int 0, .int 0, .null, .null, .null, .null, .null, .null, .null, .null, .int 0, .null, .null, .null, .null, .null, .null, .int 0, .null, .null, .null, .null, .null, .null, .int 0]))]) H := hP
  have hD : va_D (fun q : Nat => s.heap.size ≤ q) (wX cI cZ a (fun _ _ => 0) ++ [(q6, .inr (6, [.int 0, .int 0, .int 0, .null, .null, .null, .null, .null, .null, .null, .null, .int 0, .null, .null, .null, .null, .null, .null, .int 0, .null, .null, .null, .null, .null, .null, .int 0]))]) := hD
  have hPc : va_P D vwCl [(q6, .inr (6, [.int 0, .int 0, .int 0, .null, .null, .null, .null, .null, .null, .null, .null, .int 0, .null, .null, .null, .null, .null, .null, .int 0, .null, .null, .null, .null, .null, .null, .int 0]))] H := hP.sub (ws' := [(q6, .inr (6, [.int 0, .int 0, .int 0, .null, .null, .null, .null, .null, .null, .null, .null, .int 0, .null, .null, .null, .null, .null, .null, .int 0, .null, .null, .null, .null, .null, .null, .int 0]))]) [27] rfl
  have hDc : va_D (fun q : Nat => s.heap.size ≤ q) [(q6, .inr (6, [.int 0, .int 0, .int 0, .null, .null, .null, .null, .null, .null, .null, .null, .int 0, .null, .null, .null, .null, .null, .null, .int 0, .null, .null, .null, .null, .null, .null, .int 0]))] := hD.sub (ws' := [(q6, .inr (6, [.int 0, .int 0, .int 0, .null, .null, .null, .null, .null, .null, .null, .null, .int 0, .null, .null, .null, .null, .null, .null, .int 0, .null, .null, .null, .null, .null, .null, .int 0]))]) [27] (by decide) rfl
  have hFc := va_free (wc := [(q6, .inr (6, [.int 0, .int 0, .int 0, .null, .null, .null, .null, .null, .null, .null, .null, .int 0, .null, .null, .null, .null, .null, .null, .int 0, .null, .null, .null, .null, .null, .null, .int 0]))]) hD hS hA [27] rfl
  refine va_callv (va_runI (As := []) (rest := [.ref q6]) ⟨hx, hb, hml, hown, hts⟩ (k_X6 l D cI cZ q6 H.size) (cwI 0 hts gL_law_X6_init rfl rfl rfl (hts0 (.initialized RX6) (by decide +kernel)) (hts0 (.methodLink RL 86 yX6_init) (by decide +kernel)) (hts0 (.instanceMethod yX6_init) (by decide +kernel)) rfl (by decide +kernel) ⟨Nat.le_of_ble_eq_true rfl, Nat.le_of_ble_eq_true rfl⟩) ⟨fun a U g mk q => ⟨q.1, q.2.calling⟩, fun U hU hW => ⟨rfl, PC.at hPc hK hDc hNL hU hW⟩⟩ rfl rfl hl.1 rfl (lv_room (Nat.le_of_ble_eq_true rfl)) dL_law_12 ⟨Nat.le_of_ble_eq_true rfl, Nat.le_of_ble_eq_true rfl⟩) hS (fun q _ h => hFc q h) hFc (fun u t H1 locs ht hvm hw hB hz1 hk1 hS => ?_)
  obtain ⟨a2, rfl⟩ : ∃ z, z = u := ⟨_, rfl⟩
  obtain ⟨hP1, hK1, hD1⟩ := hB
  rw [ht] at hP1
  obtain ⟨hPn, hDn⟩ := va_join (wr := wX cI cZ a (fun _ _ => 0)) (w1 := wM cI cZ a2 (fun _ _ => 0)) hP hD [27] [0, 1, 2, 3, 4, 5, 6, 7, 8, 9, 10, 11, 12, 13, 14, 15, 16, 17, 18, 19, 20, 21, 22, 23, 24, 25, 26] rfl rfl (by decide) (by decide) hk1 hFc hP1 hD1
  clear hP hD hPc hDc
  generalize H1 = H at hPn hS ⊢
  have hw : a2 0 = q6 := hw
  subst hw
  have hP := hPn
  have hD := hDn
  refine W.widen (k := 48) (n := 586) (by omega) (by omega) ?_
  refine lv_astore_n (lv' := [(2, .ref (a2 0)), (1, .ref (a 0)), (0, .ref b)]) hx hb dL_law_15 rfl hl (by decide) rfl (fun ls hl => ?_)
  refine lv_iconst (v := 1) hx hb dL_law_16 (by decide) ?_
  refine va_newa (atype := .long) (ty := .long) (N' := 1) (a0 := (1, .inr (.inl (fun _ => 0)))) hx hb (hts0 (.arrayClass .long) (by decide +kernel)) rfl hK hP hD hS hA (fun _ => rfl) (by decide) (by decide) (by decide) (Nat.le_of_ble_eq_true rfl) (Nat.le_of_ble_eq_true rfl) dL_law_17 (fun o cL H hK hP hD hS => ?_)
  have hK : va_K D vwCl (ty3 cI cZ cL) s := hK
  have hP : va_P D vwCl (wL cI cZ cL a o a2 (fun _ _ => 0, fun _ => 0) (fun _ _ => 0)) H := hP.sub (ws' := wL cI cZ cL a o a2 (fun _ _ => 0, fun _ => 0) (fun _ _ => 0)) [48, 0, 1, 2, 3, 4, 5, 6, 7, 8, 9, 10, 11, 12, 13, 14, 15, 16, 17, 18, 19, 20, 21, 22, 23, 24, 25, 26, 27, 28, 29, 30, 31, 32, 33, 34, 35, 36, 37, 38, 39, 40, 41, 42, 43, 44, 45, 46, 47] rfl
  have hD : va_D (fun q : Nat => s.heap.size ≤ q) (wL cI cZ cL a o a2 (fun _ _ => 0, fun _ => 0) (fun _ _ => 0)) := hD.sub (ws' := wL cI cZ cL a o a2 (fun _ _ => 0, fun _ => 0) (fun _ _ => 0)) [48, 0, 1, 2, 3, 4, 5, 6, 7, 8, 9, 10, 11, 12, 13, 14, 15, 16, 17, 18, 19, 20, 21, 22, 23, 24, 25, 26, 27, 28, 29, 30, 31, 32, 33, 34, 35, 36, 37, 38, 39, 40, 41, 42, 43, 44, 45, 46, 47] (by decide) rfl
  refine lv_astore_n (lv' := [(3, .ref o), (2, .ref (a2 0)), (1, .ref (a 0)), (0, .ref b)]) hx hb dL_law_19 rfl hl (by decide) rfl (fun ls hl => ?_)
  refine lv_iconst (v := 0) hx hb dL_law_20 (by decide) ?_
  refine lv_istore (lv' := [(4, .int 0), (3, .ref o), (2, .ref (a2 0)), (1, .ref (a 0)), (0, .ref b)]) hx hb dL_law_21 hl (by decide) rfl (fun ls hl => ?_)
  refine W.widen (k := 49 + 0) (n := 587 + 6 * 0) (by omega) (by omega) ?_
  exact law_loop hfl C1 hL hK hEV hZ (L + 1) 0 0 _ _ _ _ _ ls (by omega) rfl (Nat.zero_le L) RR0 hP hD hS (lv_sub hl [0, 4, 3, 2, 1] rfl)
