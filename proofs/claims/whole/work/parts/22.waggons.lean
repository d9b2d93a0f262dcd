set_option maxHeartbeats 4000000 in
set_option maxRecDepth 100000 in
theorem c_X4_rowOfSiding (l : Launch) (D : va_G) (cI cZ : ClassId) (a : Nat → Nat) (sz : Nat) (σ : St) (v : Int32) : MI l yX4_rowOfSiding wsX4_rowOfSiding ({ frames := 0, cells := 0, slots := 0, locals := 0 }) D (ty2 cI cZ) (wX cI cZ a) [.int v] σ sz (fun r u => u = σ ∧ r = v - 6) := by
  refine MI.of (cc := cX4_rowOfSiding) (maxL := 1) (by decide) rfl (Nat.le_of_ble_eq_true rfl) ?_
  intro p e s m args below meth c A H locs ls hx hb hr hml hown hts hlocks hA hS hP hK hD hl
  have hl : lv_has ls 1 [(0, .int v)] := hl
  refine lv_iload_n hx hb dX4_rowOfSiding_0 rfl (lv_at hl 0 rfl) ?_
  refine lv_bipush (v := 6) hx hb dX4_rowOfSiding_1 (by decide) ?_
  refine lv_isub hx hb dX4_rowOfSiding_3 ?_
  exact MI.ret hx hb hr hlocks hK hP hD hS dX4_rowOfSiding_4 (by exact ⟨rfl, rfl⟩)
set_option maxHeartbeats 4000000 in
set_option maxRecDepth 100000 in
theorem c_X4_rowOfTrain (l : Launch) (D : va_G) (cI cZ : ClassId) (a : Nat → Nat) (sz : Nat) (σ : St) (v : Int32) : MI l yX4_rowOfTrain wsX4_rowOfTrain ({ frames := 0, cells := 0, slots := 0, locals := 0 }) D (ty2 cI cZ) (wX cI cZ a) [.int v] σ sz (fun r u => u = σ ∧ r = 2 + v) := by
  refine MI.of (cc := cX4_rowOfTrain) (maxL := 1) (by decide) rfl (Nat.le_of_ble_eq_true rfl) ?_
  intro p e s m args below meth c A H locs ls hx hb hr hml hown hts hlocks hA hS hP hK hD hl
  have hl : lv_has ls 1 [(0, .int v)] := hl
  refine lv_iconst (v := 2) hx hb dX4_rowOfTrain_0 (by decide) ?_
  refine lv_iload_n hx hb dX4_rowOfTrain_1 rfl (lv_at hl 0 rfl) ?_
  refine lv_iadd hx hb dX4_rowOfTrain_2 ?_
  exact MI.ret hx hb hr hlocks hK hP hD hS dX4_rowOfTrain_3 (by exact ⟨rfl, rfl⟩)
set_option maxRecDepth 20000 in
theorem in_X4_append_X4 : ∀ w ∈ wsX40, w ∈ wsX4_append := by decide +kernel
set_option maxHeartbeats 4000000 in
set_option maxRecDepth 100000 in
/-- Waggons.append: a waggon at the end of a row -/
theorem c_X4_append (l : Launch) (D : va_G) (cI cZ : ClassId) (a : Nat → Nat) (sz : Nat) (σ : St) (r z : Nat) (v : Int32) (hr6 : r < 6) (hz : σ 21 r = nI z) (hz8 : z < 8) : MV l yX4_append wsX4_append ({ frames := 0, cells := 0, slots := 0, locals := 0 }) D (ty2 cI cZ) (wX cI cZ a) [.ref (a 19), .int (nI r), .int v] σ sz (fun u => u = (va_up (va_up σ 21 (upd (σ 21) r (nI (z + 1)))) 22 (upd (σ 22) (r * 8 + z) v))) := by
  refine MV.of (cc := cX4_append) (maxL := 3) (by decide) rfl (Nat.le_of_ble_eq_true rfl) ?_
  intro p e s m args below meth c A H locs ls hx hb hr hml hown hts hlocks hA hS hP hK hD hl
  have hl : lv_has ls 3 [(0, .ref (a 19)), (1, .int (nI r)), (2, .int v)] := hl
  refine lv_aload_n hx hb dX4_append_0 rfl (lv_at hl 0 rfl) ?_
  refine va_get (D := D) (ci := 4) (v := .ref (a 21)) (C := RX4) (T := TX4) (N := 4) hx hb hts in_X4_append_X4 hown hK hP 19 rfl rfl 1 (by decide) (hts (.fieldLink RX4 15 "Warpyard$Waggons" "size" "[I") (by decide +kernel)) (fun _ h9 => h9) rfl dX4_append_1 ?_
  refine lv_iload_n hx hb dX4_append_4 rfl (lv_at hl 1 rfl) ?_
  refine na_iald hx hb hK hP 21 0 (f := (σ 21)) rfl rfl r (by omega) (by decide) rfl dX4_append_5 ?_
  refine lv_topi (fun v_6 e_6 => ?_)
  obtain rfl : v_6 = nI z := by rw [e_6]; exact hz
  refine lv_bipush (v := 8) hx hb dX4_append_6 (by decide) ?_
  refine lv_icmp_ge (tgt := 38) hx hb dX4_append_8 (by decide) (fun c9 => absurd c9 (fun h => by rw [show (8 : Int32) = nI 8 from rfl, nI_leI (by omega) (by omega)] at h; omega)) (fun c_8 => ?_)
  refine lv_aload_n hx hb dX4_append_11 rfl (lv_at hl 0 rfl) ?_
  refine va_get (D := D) (ci := 4) (v := .ref (a 22)) (C := RX4) (T := TX4) (N := 4) hx hb hts in_X4_append_X4 hown hK hP 19 rfl rfl 2 (by decide) (hts (.fieldLink RX4 18 "Warpyard$Waggons" "inRow" "[I") (by decide +kernel)) (fun _ h9 => h9) rfl dX4_append_12 ?_
  refine lv_iload_n hx hb dX4_append_15 rfl (lv_at hl 1 rfl) ?_
  refine lv_bipush (v := 8) hx hb dX4_append_16 (by decide) ?_
  refine lv_imul hx hb dX4_append_18 ?_
  refine lv_aload_n hx hb dX4_append_19 rfl (lv_at hl 0 rfl) ?_
  refine va_get (D := D) (ci := 4) (v := .ref (a 21)) (C := RX4) (T := TX4) (N := 4) hx hb hts in_X4_append_X4 hown hK hP 19 rfl rfl 1 (by decide) (hts (.fieldLink RX4 15 "Warpyard$Waggons" "size" "[I") (by decide +kernel)) (fun _ h9 => h9) rfl dX4_append_20 ?_
  refine lv_iload_n hx hb dX4_append_23 rfl (lv_at hl 1 rfl) ?_
  refine na_iald hx hb hK hP 21 0 (f := (σ 21)) rfl rfl r (by omega) (by decide) rfl dX4_append_24 ?_
  refine lv_topi (fun v_25 e_25 => ?_)
  obtain rfl : v_25 = nI z := by rw [e_25]; exact hz
  refine lv_iadd hx hb dX4_append_25 ?_
  refine lv_iload_n hx hb dX4_append_26 rfl (lv_at hl 2 rfl) ?_
  refine na_iast hx hb hK hP hD hS 22 0 (f := (σ 22)) (x := v) rfl rfl (r * 8 + z) (by omega) (by decide) (ix_a r z) dX4_append_27 (fun H locs hP hD hS => ?_)
  have hP : va_P D vwCl (wX cI cZ a (va_up σ 22 (upd (σ 22) (r * 8 + z) v))) H := hP
  have hD : va_D A (wX cI cZ a (va_up σ 22 (upd (σ 22) (r * 8 + z) v))) := hD
  refine lv_aload_n hx hb dX4_append_28 rfl (lv_at hl 0 rfl) ?_
  refine va_get (D := D) (ci := 4) (v := .ref (a 21)) (C := RX4) (T := TX4) (N := 4) hx hb hts in_X4_append_X4 hown hK hP 19 rfl rfl 1 (by decide) (hts (.fieldLink RX4 15 "Warpyard$Waggons" "size" "[I") (by decide +kernel)) (fun _ h9 => h9) rfl dX4_append_29 ?_
  refine lv_iload_n hx hb dX4_append_32 rfl (lv_at hl 1 rfl) ?_
  refine lv_dup2_11 hx hb dX4_append_33 rfl rfl ?_
  refine na_iald hx hb hK hP 21 0 (f := (σ 21)) rfl rfl r (by omega) (by decide) rfl dX4_append_34 ?_
  refine lv_topi (fun v_35 e_35 => ?_)
  obtain rfl : v_35 = nI z := by rw [e_35]; exact hz
  refine lv_iconst (v := 1) hx hb dX4_append_35 (by decide) ?_
  refine lv_iadd hx hb dX4_append_36 ?_
  refine lv_topi (fun v_37 e_37 => ?_)
  obtain rfl : v_37 = nI (z + 1) := by rw [e_37]; exact nI_1 z
  refine na_iast hx hb hK hP hD hS 21 0 (f := (σ 21)) (x := nI (z + 1)) rfl rfl r (by omega) (by decide) rfl dX4_append_37 (fun H locs hP hD hS => ?_)
  have hP : va_P D vwCl (wX cI cZ a (va_up (va_up σ 21 (upd (σ 21) r (nI (z + 1)))) 22 (upd (σ 22) (r * 8 + z) v))) H := hP
  have hD : va_D A (wX cI cZ a (va_up (va_up σ 21 (upd (σ 21) r (nI (z + 1)))) 22 (upd (σ 22) (r * 8 + z) v))) := hD
  exact MV.ret hx hb hr hlocks hK hP hD hS dX4_append_38 (by rfl)
set_option maxRecDepth 20000 in
theorem in_X4_add_X4 : ∀ w ∈ wsX40, w ∈ wsX4_add := by decide +kernel
set_option maxHeartbeats 4000000 in
set_option maxRecDepth 100000 in
/-- Waggons.add -/
theorem c_X4_add (l : Launch) (D : va_G) (cI cZ : ClassId) (a : Nat → Nat) (sz : Nat) (σ : St) (r z nw : Nat) (w : Int32) (hr6 : r < 6) (hz : σ 21 r = nI z) (hz8 : z < 8) (hnw : σ 19 0 = nI nw) (hnw7 : nw < 8) : MI l yX4_add wsX4_add ({ frames := 1, cells := 0, slots := 0, locals := 22 }) D (ty2 cI cZ) (wX cI cZ a) [.ref (a 19), .int (nI r), .int w] σ sz (fun q u => u = (va_up (va_up (va_up (va_up σ 19 (fun _ => nI (nw + 1))) 20 (upd (σ 20) nw w)) 21 (upd (σ 21) r (nI (z + 1)))) 22 (upd (σ 22) (r * 8 + z) (nI nw))) ∧ q = nI nw) := by
  refine MI.of (cc := cX4_add) (maxL := 4) (by decide) rfl (Nat.le_of_ble_eq_true rfl) ?_
  intro p e s m args below meth c A H locs ls hx hb hr hml hown hts hlocks hA hS hP hK hD hl
  have hl : lv_has ls 4 [(0, .ref (a 19)), (1, .int (nI r)), (2, .int w)] := hl
  refine lv_aload_n hx hb dX4_add_0 rfl (lv_at hl 0 rfl) ?_
  refine va_get (D := D) (ci := 4) (v := .int (σ 19 0)) (C := RX4) (T := TX4) (N := 4) hx hb hts in_X4_add_X4 hown hK hP 19 rfl rfl 3 (by decide) (hts (.fieldLink RX4 21 "Warpyard$Waggons" "count" "I") (by decide +kernel)) (fun _ h9 => h9) rfl dX4_add_1 ?_
  refine lv_topi (fun v_4 e_4 => ?_)
  obtain rfl : v_4 = nI nw := by rw [e_4]; exact hnw
  refine lv_istore_n (lv' := [(3, .int (nI nw)), (0, .ref (a 19)), (1, .int (nI r)), (2, .int w)]) hx hb dX4_add_4 rfl hl (by decide) rfl (fun ls hl => ?_)
  refine lv_aload_n hx hb dX4_add_5 rfl (lv_at hl 1 rfl) ?_
  refine va_get (D := D) (ci := 4) (v := .ref (a 20)) (C := RX4) (T := TX4) (N := 4) hx hb hts in_X4_add_X4 hown hK hP 19 rfl rfl 0 (by decide) (hts (.fieldLink RX4 9 "Warpyard$Waggons" "weight" "[I") (by decide +kernel)) (fun _ h9 => h9) rfl dX4_add_6 ?_
  refine lv_iload_n hx hb dX4_add_9 rfl (lv_at hl 0 rfl) ?_
  refine lv_iload_n hx hb dX4_add_10 rfl (lv_at hl 3 rfl) ?_
  refine na_iast hx hb hK hP hD hS 20 0 (f := (σ 20)) (x := w) rfl rfl nw (by omega) (by decide) rfl dX4_add_11 (fun H locs hP hD hS => ?_)
  have hP : va_P D vwCl (wX cI cZ a (va_up σ 20 (upd (σ 20) nw w))) H := hP
  have hD : va_D A (wX cI cZ a (va_up σ 20 (upd (σ 20) nw w))) := hD
  refine lv_aload_n hx hb dX4_add_12 rfl (lv_at hl 1 rfl) ?_
  refine lv_dup hx hb dX4_add_13 rfl ?_
  refine va_get (D := D) (ci := 4) (v := .int (σ 19 0)) (C := RX4) (T := TX4) (N := 4) hx hb hts in_X4_add_X4 hown hK hP 19 rfl rfl 3 (by decide) (hts (.fieldLink RX4 21 "Warpyard$Waggons" "count" "I") (by decide +kernel)) (fun _ h9 => h9) rfl dX4_add_14 ?_
  refine lv_topi (fun v_17 e_17 => ?_)
  obtain rfl : v_17 = nI nw := by rw [e_17]; exact hnw
  refine lv_iconst (v := 1) hx hb dX4_add_17 (by decide) ?_
  refine lv_iadd hx hb dX4_add_18 ?_
  refine lv_topi (fun v_19 e_19 => ?_)
  obtain rfl : v_19 = nI (nw + 1) := by rw [e_19]; exact nI_1 nw
  refine va_put (D := D) (ci := 4) (v := .int (nI (nw + 1))) (ty := .int) (C := RX4) (T := TX4) (N := 4) hx hb hts in_X4_add_X4 tyX4 tyX4_ok nmX4 hown hK hP hD hS 19 rfl rfl 3 (by decide) (hts (.fieldLink RX4 21 "Warpyard$Waggons" "count" "I") (by decide +kernel)) (fun _ h9 => h9) rfl (by decide +kernel) rfl rfl (Nat.le_of_ble_eq_true rfl) dX4_add_19 (fun H locs hP hD hS => ?_)
  have hP : va_P D vwCl (wX cI cZ a (va_up (va_up σ 19 (fun _ => nI (nw + 1))) 20 (upd (σ 20) nw w))) H := hP
  have hD : va_D A (wX cI cZ a (va_up (va_up σ 19 (fun _ => nI (nw + 1))) 20 (upd (σ 20) nw w))) := hD
  refine lv_aload_n hx hb dX4_add_22 rfl (lv_at hl 1 rfl) ?_
  refine lv_iload_n hx hb dX4_add_23 rfl (lv_at hl 2 rfl) ?_
  refine lv_iload_n hx hb dX4_add_24 rfl (lv_at hl 0 rfl) ?_
  refine MV.callV (As := [.int (nI r), .int (nI nw)]) (rest := []) ⟨hx, hb, hml, hown, hts⟩ (c_X4_append l D cI cZ a H.size (va_up (va_up σ 19 (fun _ => nI (nw + 1))) 20 (upd (σ 20) nw w)) r z (nI nw) hr6 hz hz8) (cwV 2 hts gX4_add_X4_append rfl rfl rfl (by decide +kernel) ⟨Nat.le_of_ble_eq_true rfl, Nat.le_of_ble_eq_true rfl⟩) hP hK hD hS hA (va_recv hK hP (ci := 4) (q0 := 19) rfl rfl) rfl hl.1 (Nat.le_of_ble_eq_true rfl) (Nat.zero_le _) (Nat.zero_le _) dX4_add_25 rfl (fun u_25 H locs h_25 hP hD hS => ?_)
  have e_25 := h_25
  have e_25 := Eq.symm e_25
  subst e_25
  have hP : va_P D vwCl (wX cI cZ a (va_up (va_up (va_up (va_up σ 19 (fun _ => nI (nw + 1))) 20 (upd (σ 20) nw w)) 21 (upd (σ 21) r (nI (z + 1)))) 22 (upd (σ 22) (r * 8 + z) (nI nw)))) H := hP
  have hD : va_D A (wX cI cZ a (va_up (va_up (va_up (va_up σ 19 (fun _ => nI (nw + 1))) 20 (upd (σ 20) nw w)) 21 (upd (σ 21) r (nI (z + 1)))) 22 (upd (σ 22) (r * 8 + z) (nI nw)))) := hD
  refine lv_iload_n hx hb dX4_add_28 rfl (lv_at hl 0 rfl) ?_
  exact MI.ret hx hb hr hlocks hK hP hD hS dX4_add_29 (by exact ⟨rfl, rfl⟩)
set_option maxRecDepth 20000 in
theorem in_X4_fromFirst_X4 : ∀ w ∈ wsX40, w ∈ wsX4_fromFirst := by decide +kernel
set_option maxHeartbeats 4000000 in
set_option maxRecDepth 100000 in
/-- Waggons.fromFirst -/
theorem c_X4_fromFirst (l : Launch) (D : va_G) (cI cZ : ClassId) (a : Nat → Nat) (sz : Nat) (σ : St) (r z : Nat) (pl : Int32) (hr6 : r < 6) (hz : σ 21 r = nI z) (hz8 : z ≤ 8) (hp : ¬ pl < 0) : MI l yX4_fromFirst wsX4_fromFirst ({ frames := 0, cells := 0, slots := 0, locals := 0 }) D (ty2 cI cZ) (wX cI cZ a) [.ref (a 19), .int (nI r), .int pl] σ sz (fun q u => u = σ ∧ q = fFi (σ 22) r z pl) := by
  refine MI.of (cc := cX4_fromFirst) (maxL := 3) (by decide) rfl (Nat.le_of_ble_eq_true rfl) ?_
  intro p e s m args below meth c A H locs ls hx hb hr hml hown hts hlocks hA hS hP hK hD hl
  have hl : lv_has ls 3 [(0, .ref (a 19)), (1, .int (nI r)), (2, .int pl)] := hl
  obtain ⟨j, hj, rfl⟩ := nI_of hp
  refine lv_iload_n hx hb dX4_fromFirst_0 rfl (lv_at hl 2 rfl) ?_
  refine lv_aload_n hx hb dX4_fromFirst_1 rfl (lv_at hl 0 rfl) ?_
  refine va_get (D := D) (ci := 4) (v := .ref (a 21)) (C := RX4) (T := TX4) (N := 4) hx hb hts in_X4_fromFirst_X4 hown hK hP 19 rfl rfl 1 (by decide) (hts (.fieldLink RX4 15 "Warpyard$Waggons" "size" "[I") (by decide +kernel)) (fun _ h9 => h9) rfl dX4_fromFirst_2 ?_
  refine lv_iload_n hx hb dX4_fromFirst_5 rfl (lv_at hl 1 rfl) ?_
  refine na_iald hx hb hK hP 21 0 (f := (σ 21)) rfl rfl r (by omega) (by decide) rfl dX4_fromFirst_6 ?_
  refine lv_topi (fun v_7 e_7 => ?_)
  obtain rfl : v_7 = nI z := by rw [e_7]; exact hz
  refine lv_icmp_ge (tgt := 24) hx hb dX4_fromFirst_7 (by decide) (fun c_7 => ?_) (fun c_7 => ?_)
  · skip
    rw [nI_leI (by omega) (by omega)] at c_7
    refine lv_iconst (v := (-1)) hx hb dX4_fromFirst_24 (by decide) ?_
    exact MI.ret hx hb hr hlocks hK hP hD hS dX4_fromFirst_25 (by exact ⟨rfl, (fFi_n (by omega) (by omega) hj).symm⟩)
  · skip
    rw [nI_leI (by omega) (by omega)] at c_7
    refine lv_aload_n hx hb dX4_fromFirst_10 rfl (lv_at hl 0 rfl) ?_
    refine va_get (D := D) (ci := 4) (v := .ref (a 22)) (C := RX4) (T := TX4) (N := 4) hx hb hts in_X4_fromFirst_X4 hown hK hP 19 rfl rfl 2 (by decide) (hts (.fieldLink RX4 18 "Warpyard$Waggons" "inRow" "[I") (by decide +kernel)) (fun _ h9 => h9) rfl dX4_fromFirst_11 ?_
    refine lv_iload_n hx hb dX4_fromFirst_14 rfl (lv_at hl 1 rfl) ?_
    refine lv_bipush (v := 8) hx hb dX4_fromFirst_15 (by decide) ?_
    refine lv_imul hx hb dX4_fromFirst_17 ?_
    refine lv_iload_n hx hb dX4_fromFirst_18 rfl (lv_at hl 2 rfl) ?_
    refine lv_iadd hx hb dX4_fromFirst_19 ?_
    refine na_iald hx hb hK hP 22 0 (f := (σ 22)) rfl rfl (r * 8 + j) (by omega) (by decide) (ix_a r j) dX4_fromFirst_20 ?_
    refine lv_goto (tgt := 25) hx hb dX4_fromFirst_21 (by decide) ?_
    exact MI.ret hx hb hr hlocks hK hP hD hS dX4_fromFirst_25 (by exact ⟨rfl, (fFi_y (by omega) (by omega)).symm⟩)
set_option maxRecDepth 20000 in
theorem in_X4_fromLast_X4 : ∀ w ∈ wsX40, w ∈ wsX4_fromLast := by decide +kernel
set_option maxHeartbeats 4000000 in
set_option maxRecDepth 100000 in
/-- Waggons.fromLast -/
theorem c_X4_fromLast (l : Launch) (D : va_G) (cI cZ : ClassId) (a : Nat → Nat) (sz : Nat) (σ : St) (r z : Nat) (pl : Int32) (hr6 : r < 6) (hz : σ 21 r = nI z) (hz8 : z ≤ 8) (hp : ¬ pl < 0) : MI l yX4_fromLast wsX4_fromLast ({ frames := 0, cells := 0, slots := 0, locals := 0 }) D (ty2 cI cZ) (wX cI cZ a) [.ref (a 19), .int (nI r), .int pl] σ sz (fun q u => u = σ ∧ q = fLa (σ 22) r z pl) := by
  refine MI.of (cc := cX4_fromLast) (maxL := 3) (by decide) rfl (Nat.le_of_ble_eq_true rfl) ?_
  intro p e s m args below meth c A H locs ls hx hb hr hml hown hts hlocks hA hS hP hK hD hl
  have hl : lv_has ls 3 [(0, .ref (a 19)), (1, .int (nI r)), (2, .int pl)] := hl
  obtain ⟨j, hj, rfl⟩ := nI_of hp
  refine lv_iload_n hx hb dX4_fromLast_0 rfl (lv_at hl 2 rfl) ?_
  refine lv_aload_n hx hb dX4_fromLast_1 rfl (lv_at hl 0 rfl) ?_
  refine va_get (D := D) (ci := 4) (v := .ref (a 21)) (C := RX4) (T := TX4) (N := 4) hx hb hts in_X4_fromLast_X4 hown hK hP 19 rfl rfl 1 (by decide) (hts (.fieldLink RX4 15 "Warpyard$Waggons" "size" "[I") (by decide +kernel)) (fun _ h9 => h9) rfl dX4_fromLast_2 ?_
  refine lv_iload_n hx hb dX4_fromLast_5 rfl (lv_at hl 1 rfl) ?_
  refine na_iald hx hb hK hP 21 0 (f := (σ 21)) rfl rfl r (by omega) (by decide) rfl dX4_fromLast_6 ?_
  refine lv_topi (fun v_7 e_7 => ?_)
  obtain rfl : v_7 = nI z := by rw [e_7]; exact hz
  refine lv_icmp_ge (tgt := 33) hx hb dX4_fromLast_7 (by decide) (fun c_7 => ?_) (fun c_7 => ?_)
  · skip
    rw [nI_leI (by omega) (by omega)] at c_7
    refine lv_iconst (v := (-1)) hx hb dX4_fromLast_33 (by decide) ?_
    exact MI.ret hx hb hr hlocks hK hP hD hS dX4_fromLast_34 (by exact ⟨rfl, (fLa_n (by omega) (by omega) hj).symm⟩)
  · skip
    rw [nI_leI (by omega) (by omega)] at c_7
    refine lv_aload_n hx hb dX4_fromLast_10 rfl (lv_at hl 0 rfl) ?_
    refine va_get (D := D) (ci := 4) (v := .ref (a 22)) (C := RX4) (T := TX4) (N := 4) hx hb hts in_X4_fromLast_X4 hown hK hP 19 rfl rfl 2 (by decide) (hts (.fieldLink RX4 18 "Warpyard$Waggons" "inRow" "[I") (by decide +kernel)) (fun _ h9 => h9) rfl dX4_fromLast_11 ?_
    refine lv_iload_n hx hb dX4_fromLast_14 rfl (lv_at hl 1 rfl) ?_
    refine lv_bipush (v := 8) hx hb dX4_fromLast_15 (by decide) ?_
    refine lv_imul hx hb dX4_fromLast_17 ?_
    refine lv_aload_n hx hb dX4_fromLast_18 rfl (lv_at hl 0 rfl) ?_
    refine va_get (D := D) (ci := 4) (v := .ref (a 21)) (C := RX4) (T := TX4) (N := 4) hx hb hts in_X4_fromLast_X4 hown hK hP 19 rfl rfl 1 (by decide) (hts (.fieldLink RX4 15 "Warpyard$Waggons" "size" "[I") (by decide +kernel)) (fun _ h9 => h9) rfl dX4_fromLast_19 ?_
    refine lv_iload_n hx hb dX4_fromLast_22 rfl (lv_at hl 1 rfl) ?_
    refine na_iald hx hb hK hP 21 0 (f := (σ 21)) rfl rfl r (by omega) (by decide) rfl dX4_fromLast_23 ?_
    refine lv_topi (fun v_24 e_24 => ?_)
    obtain rfl : v_24 = nI z := by rw [e_24]; exact hz
    refine lv_iadd hx hb dX4_fromLast_24 ?_
    refine lv_iconst (v := 1) hx hb dX4_fromLast_25 (by decide) ?_
    refine lv_isub hx hb dX4_fromLast_26 ?_
    refine lv_iload_n hx hb dX4_fromLast_27 rfl (lv_at hl 2 rfl) ?_
    refine lv_isub hx hb dX4_fromLast_28 ?_
    refine na_iald hx hb hK hP 22 0 (f := (σ 22)) rfl rfl (r * 8 + (z - 1 - j)) (by omega) (by decide) (ix_l r (by omega)) dX4_fromLast_29 ?_
    refine lv_goto (tgt := 34) hx hb dX4_fromLast_30 (by decide) ?_
    exact MI.ret hx hb hr hlocks hK hP hD hS dX4_fromLast_34 (by exact ⟨rfl, (fLa_y (by omega) (by omega)).symm⟩)
set_option maxHeartbeats 4000000 in
set_option maxRecDepth 100000 in
/-- Waggons.lastOf -/
theorem c_X4_lastOf (l : Launch) (D : va_G) (cI cZ : ClassId) (a : Nat → Nat) (sz : Nat) (σ : St) (r z : Nat) (hr6 : r < 6) (hz : σ 21 r = nI z) (hz8 : z ≤ 8) : MI l yX4_lastOf wsX4_lastOf ({ frames := 1, cells := 0, slots := 0, locals := 22 }) D (ty2 cI cZ) (wX cI cZ a) [.ref (a 19), .int (nI r)] σ sz (fun q u => u = σ ∧ q = lst (σ 22) r z) := by
  refine MI.of (cc := cX4_lastOf) (maxL := 2) (by decide) rfl (Nat.le_of_ble_eq_true rfl) ?_
  intro p e s m args below meth c A H locs ls hx hb hr hml hown hts hlocks hA hS hP hK hD hl
  have hl : lv_has ls 2 [(0, .ref (a 19)), (1, .int (nI r))] := hl
  refine lv_aload_n hx hb dX4_lastOf_0 rfl (lv_at hl 0 rfl) ?_
  refine lv_iload_n hx hb dX4_lastOf_1 rfl (lv_at hl 1 rfl) ?_
  refine lv_iconst (v := 0) hx hb dX4_lastOf_2 (by decide) ?_
  refine MI.callV (As := [.int (nI r), .int 0]) (rest := []) ⟨hx, hb, hml, hown, hts⟩ (c_X4_fromLast l D cI cZ a H.size σ r z 0 hr6 hz hz8 (by decide)) (cwV 2 hts gX4_lastOf_X4_fromLast rfl rfl rfl (by decide +kernel) ⟨Nat.le_of_ble_eq_true rfl, Nat.le_of_ble_eq_true rfl⟩) hP hK hD hS hA (va_recv hK hP (ci := 4) (q0 := 19) rfl rfl) rfl hl.1 (Nat.le_of_ble_eq_true rfl) (Nat.zero_le _) (Nat.zero_le _) dX4_lastOf_3 rfl (fun r_3 u_3 H locs h_3 hP hD hS => ?_)
  obtain ⟨e_3, h_3⟩ := h_3
  have e_3 := Eq.symm e_3
  subst e_3
  have h_3 : r_3 = fLa (σ 22) r z 0 := h_3
  exact MI.ret hx hb hr hlocks hK hP hD hS dX4_lastOf_6 (by exact ⟨rfl, h_3.trans (fLa_0 (by omega))⟩)
set_option maxRecDepth 20000 in
theorem in_X4_weightOf_X4 : ∀ w ∈ wsX40, w ∈ wsX4_weightOf := by decide +kernel
set_option maxHeartbeats 4000000 in
set_option maxRecDepth 100000 in
/-- Waggons.weightOf -/
theorem c_X4_weightOf (l : Launch) (D : va_G) (cI cZ : ClassId) (a : Nat → Nat) (sz : Nat) (σ : St) (r z : Nat) (hr6 : r < 6) (hz : σ 21 r = nI z) (hz8 : z ≤ 8) (hI : ∀ p, p < z → ∃ j, j < 8 ∧ σ 22 (r * 8 + p) = nI j) : MI l yX4_weightOf wsX4_weightOf ({ frames := 0, cells := 0, slots := 0, locals := 0 }) D (ty2 cI cZ) (wX cI cZ a) [.ref (a 19), .int (nI r)] σ sz (fun q u => u = σ ∧ q = wsm (σ 20) (σ 22) r z) := by
  refine MI.of (cc := cX4_weightOf) (maxL := 4) (by decide) rfl (Nat.le_of_ble_eq_true rfl) ?_
  intro p e s m args below meth c A H locs ls hx hb hr hml hown hts hlocks hA hS hP hK hD hl
  have hl : lv_has ls 4 [(0, .ref (a 19)), (1, .int (nI r))] := hl
  refine lv_iconst (v := 0) hx hb dX4_weightOf_0 (by decide) ?_
  refine lv_istore_n (lv' := [(2, .int 0), (0, .ref (a 19)), (1, .int (nI r))]) hx hb dX4_weightOf_1 rfl hl (by decide) rfl (fun ls hl => ?_)
  refine lv_iconst (v := 0) hx hb dX4_weightOf_2 (by decide) ?_
  refine lv_istore_n (lv' := [(3, .int 0), (2, .int 0), (0, .ref (a 19)), (1, .int (nI r))]) hx hb dX4_weightOf_3 rfl hl (by decide) rfl (fun ls hl => ?_)
  have loop_4 : ∀ (f : Nat) (k : Nat) (ac : Int32) (H : Heap) (locs : List Loc) (ls : Array Slot), z < k + f → k ≤ z → ac = wsm (σ 20) (σ 22) r k → va_P D vwCl (wX cI cZ a σ) H → va_D A (wX cI cZ a σ) → va_S A s.heap H locs → lv_has ls 4 [(0, .ref (a 19)), (1, .int (nI r)), (2, .int ac), (3, .int (nI k))] → W p l e { frames := 0, cells := 0, slots := 0, locals := 0 } s m args below meth c H locs 0 0 (MQ below (va_Qi (fun q u => u = σ ∧ q = wsm (σ 20) (σ 22) r z) (PO D (ty2 cI cZ) (wX cI cZ a) A) A) args s 0 0 A) (F0 m 4 ls []) := by
    intro f
    induction f with
    | zero => intro k ac H locs ls hf hk hac; exact absurd hf (by omega)
    | succ f ih =>
      intro k ac H locs ls hf hk hac hP hD hS hl
      refine lv_iload_n hx hb dX4_weightOf_4 rfl (lv_at hl 3 rfl) ?_
      refine lv_aload_n hx hb dX4_weightOf_5 rfl (lv_at hl 0 rfl) ?_
      refine va_get (D := D) (ci := 4) (v := .ref (a 21)) (C := RX4) (T := TX4) (N := 4) hx hb hts in_X4_weightOf_X4 hown hK hP 19 rfl rfl 1 (by decide) (hts (.fieldLink RX4 15 "Warpyard$Waggons" "size" "[I") (by decide +kernel)) (fun _ h9 => h9) rfl dX4_weightOf_6 ?_
      refine lv_iload_n hx hb dX4_weightOf_9 rfl (lv_at hl 1 rfl) ?_
      refine na_iald hx hb hK hP 21 0 (f := (σ 21)) rfl rfl r (by omega) (by decide) rfl dX4_weightOf_10 ?_
      refine lv_topi (fun v_11 e_11 => ?_)
      obtain rfl : v_11 = nI z := by rw [e_11]; exact hz
      refine lv_icmp_ge (tgt := 39) hx hb dX4_weightOf_11 (by decide) (fun c_11 => ?_) (fun c_11 => ?_)
      · skip
        rw [nI_leI (by omega) (by omega)] at c_11
        refine lv_iload_n hx hb dX4_weightOf_39 rfl (lv_at hl 2 rfl) ?_
        exact MI.ret hx hb hr hlocks hK hP hD hS dX4_weightOf_40 (by have e : z = k := (by omega); subst e; exact ⟨rfl, hac⟩)
      · skip
        rw [nI_leI (by omega) (by omega)] at c_11
        refine lv_iload_n hx hb dX4_weightOf_14 rfl (lv_at hl 2 rfl) ?_
        refine lv_aload_n hx hb dX4_weightOf_15 rfl (lv_at hl 0 rfl) ?_
        refine va_get (D := D) (ci := 4) (v := .ref (a 20)) (C := RX4) (T := TX4) (N := 4) hx hb hts in_X4_weightOf_X4 hown hK hP 19 rfl rfl 0 (by decide) (hts (.fieldLink RX4 9 "Warpyard$Waggons" "weight" "[I") (by decide +kernel)) (fun _ h9 => h9) rfl dX4_weightOf_16 ?_
        refine lv_aload_n hx hb dX4_weightOf_19 rfl (lv_at hl 0 rfl) ?_
        refine va_get (D := D) (ci := 4) (v := .ref (a 22)) (C := RX4) (T := TX4) (N := 4) hx hb hts in_X4_weightOf_X4 hown hK hP 19 rfl rfl 2 (by decide) (hts (.fieldLink RX4 18 "Warpyard$Waggons" "inRow" "[I") (by decide +kernel)) (fun _ h9 => h9) rfl dX4_weightOf_20 ?_
        refine lv_iload_n hx hb dX4_weightOf_23 rfl (lv_at hl 1 rfl) ?_
        refine lv_bipush (v := 8) hx hb dX4_weightOf_24 (by decide) ?_
        refine lv_imul hx hb dX4_weightOf_26 ?_
        refine lv_iload_n hx hb dX4_weightOf_27 rfl (lv_at hl 3 rfl) ?_
        refine lv_iadd hx hb dX4_weightOf_28 ?_
        refine na_iald hx hb hK hP 22 0 (f := (σ 22)) rfl rfl (r * 8 + k) (by omega) (by decide) (ix_a r k) dX4_weightOf_29 ?_
        obtain ⟨j, hj, ej⟩ := hI k (by omega)
        refine na_iald hx hb hK hP 20 0 (f := (σ 20)) rfl rfl j (by omega) (by decide) ej dX4_weightOf_30 ?_
        refine lv_iadd hx hb dX4_weightOf_31 ?_
        refine lv_istore_n (lv' := [(2, .int (ac + (σ 20 j))), (0, .ref (a 19)), (1, .int (nI r)), (3, .int (nI k))]) hx hb dX4_weightOf_32 rfl hl (by decide) rfl (fun ls hl => ?_)
        refine lv_iinc (v := nI (k + 1)) (lv' := [(3, .int (nI (k + 1))), (2, .int (ac + (σ 20 j))), (0, .ref (a 19)), (1, .int (nI r))]) hx hb dX4_weightOf_33 hl (k := 3) rfl (by exact nI_1 k) (by decide) rfl (fun ls hl => ?_)
        refine lv_goto (tgt := 4) hx hb dX4_weightOf_36 (by decide) ?_
        exact ih (k + 1) (ac + σ 20 j) _ _ ls (by omega) (by omega) (by rw [hac, wsm, ej, nI_clamp (by omega)]) hP hD hS (lv_sub hl [2, 3, 1, 0] rfl)
  exact loop_4 (z + 1) 0 0 _ _ ls (by omega) (by omega) (by rfl) hP hD hS (lv_sub hl [2, 3, 1, 0] rfl)
set_option maxRecDepth 20000 in
theorem in_X4_moveLast_X4 : ∀ w ∈ wsX40, w ∈ wsX4_moveLast := by decide +kernel
set_option maxHeartbeats 4000000 in
set_option maxRecDepth 100000 in
/-- Waggons.moveLast -/
theorem c_X4_moveLast (l : Launch) (D : va_G) (cI cZ : ClassId) (a : Nat → Nat) (sz : Nat) (σ : St) (r z r2 z2 j : Nat) (hr6 : r < 6) (hz : σ 21 r = nI (z + 1)) (hz8 : z + 1 ≤ 8) (hr2 : r2 < 6) (hne : r2 ≠ r) (hz2 : σ 21 r2 = nI z2) (hz28 : z2 < 8) (hj : j < 8) (hv : σ 22 (r * 8 + z) = nI j) : MV l yX4_moveLast wsX4_moveLast ({ frames := 2, cells := 0, slots := 0, locals := 43 }) D (ty2 cI cZ) (wX cI cZ a) [.ref (a 19), .int (nI r), .int (nI r2)] σ sz (fun u => u = (va_up (va_up σ 21 (upd (upd (σ 21) r (nI z)) r2 (nI (z2 + 1)))) 22 (upd (σ 22) (r2 * 8 + z2) (nI j)))) := by
  refine MV.of (cc := cX4_moveLast) (maxL := 4) (by decide) rfl (Nat.le_of_ble_eq_true rfl) ?_
  intro p e s m args below meth c A H locs ls hx hb hr hml hown hts hlocks hA hS hP hK hD hl
  have hl : lv_has ls 4 [(0, .ref (a 19)), (1, .int (nI r)), (2, .int (nI r2))] := hl
  refine lv_aload_n hx hb dX4_moveLast_0 rfl (lv_at hl 0 rfl) ?_
  refine lv_iload_n hx hb dX4_moveLast_1 rfl (lv_at hl 1 rfl) ?_
  refine MI.callV (As := [.int (nI r)]) (rest := []) ⟨hx, hb, hml, hown, hts⟩ (c_X4_lastOf l D cI cZ a H.size σ r (z + 1) hr6 hz hz8) (cwV 1 hts gX4_moveLast_X4_lastOf rfl rfl rfl (by decide +kernel) ⟨Nat.le_of_ble_eq_true rfl, Nat.le_of_ble_eq_true rfl⟩) hP hK hD hS hA (va_recv hK hP (ci := 4) (q0 := 19) rfl rfl) rfl hl.1 (Nat.le_of_ble_eq_true rfl) (Nat.zero_le _) (Nat.zero_le _) dX4_moveLast_2 rfl (fun r_2 u_2 H locs h_2 hP hD hS => ?_)
  obtain ⟨e_2, h_2⟩ := h_2
  have e_2 := Eq.symm e_2
  subst e_2
  have h_2 : r_2 = lst (σ 22) r (z + 1) := h_2
  refine lv_topi (fun v_5 e_5 => ?_)
  obtain rfl : v_5 = nI j := by rw [e_5]; rw [h_2]; exact hv
  refine lv_istore_n (lv' := [(3, .int (nI j)), (0, .ref (a 19)), (1, .int (nI r)), (2, .int (nI r2))]) hx hb dX4_moveLast_5 rfl hl (by decide) rfl (fun ls hl => ?_)
  refine lv_iload_n hx hb dX4_moveLast_6 rfl (lv_at hl 0 rfl) ?_
  refine lv_iconst (v := (-1)) hx hb dX4_moveLast_7 (by decide) ?_
  refine lv_icmp_eq (tgt := 27) hx hb dX4_moveLast_8 (by decide) (fun c9 => absurd c9 (nI_m1 (by omega))) (fun c_8 => ?_)
  refine lv_aload_n hx hb dX4_moveLast_11 rfl (lv_at hl 1 rfl) ?_
  refine va_get (D := D) (ci := 4) (v := .ref (a 21)) (C := RX4) (T := TX4) (N := 4) hx hb hts in_X4_moveLast_X4 hown hK hP 19 rfl rfl 1 (by decide) (hts (.fieldLink RX4 15 "Warpyard$Waggons" "size" "[I") (by decide +kernel)) (fun _ h9 => h9) rfl dX4_moveLast_12 ?_
  refine lv_iload_n hx hb dX4_moveLast_15 rfl (lv_at hl 2 rfl) ?_
  refine lv_dup2_11 hx hb dX4_moveLast_16 rfl rfl ?_
  refine na_iald hx hb hK hP 21 0 (f := (σ 21)) rfl rfl r (by omega) (by decide) rfl dX4_moveLast_17 ?_
  refine lv_topi (fun v_18 e_18 => ?_)
  obtain rfl : v_18 = nI (z + 1) := by rw [e_18]; exact hz
  refine lv_iconst (v := 1) hx hb dX4_moveLast_18 (by decide) ?_
  refine lv_isub hx hb dX4_moveLast_19 ?_
  refine lv_topi (fun v_20 e_20 => ?_)
  obtain rfl : v_20 = nI z := by rw [e_20]; exact nI_pred z
  refine na_iast hx hb hK hP hD hS 21 0 (f := (σ 21)) (x := nI z) rfl rfl r (by omega) (by decide) rfl dX4_moveLast_20 (fun H locs hP hD hS => ?_)
  have hP : va_P D vwCl (wX cI cZ a (va_up σ 21 (upd (σ 21) r (nI z)))) H := hP
  have hD : va_D A (wX cI cZ a (va_up σ 21 (upd (σ 21) r (nI z)))) := hD
  refine lv_aload_n hx hb dX4_moveLast_21 rfl (lv_at hl 1 rfl) ?_
  refine lv_iload_n hx hb dX4_moveLast_22 rfl (lv_at hl 3 rfl) ?_
  refine lv_iload_n hx hb dX4_moveLast_23 rfl (lv_at hl 0 rfl) ?_
  refine MV.callV (As := [.int (nI r2), .int (nI j)]) (rest := []) ⟨hx, hb, hml, hown, hts⟩ (c_X4_append l D cI cZ a H.size (va_up σ 21 (upd (σ 21) r (nI z))) r2 z2 (nI j) hr2 ((pk_un hne).trans hz2) hz28) (cwV 2 hts gX4_moveLast_X4_append rfl rfl rfl (by decide +kernel) ⟨Nat.le_of_ble_eq_true rfl, Nat.le_of_ble_eq_true rfl⟩) hP hK hD hS hA (va_recv hK hP (ci := 4) (q0 := 19) rfl rfl) rfl hl.1 (Nat.le_of_ble_eq_true rfl) (Nat.zero_le _) (Nat.zero_le _) dX4_moveLast_24 rfl (fun u_24 H locs h_24 hP hD hS => ?_)
  have e_24 := h_24
  have e_24 := Eq.symm e_24
  subst e_24
  have hP : va_P D vwCl (wX cI cZ a (va_up (va_up σ 21 (upd (upd (σ 21) r (nI z)) r2 (nI (z2 + 1)))) 22 (upd (σ 22) (r2 * 8 + z2) (nI j)))) H := hP
  have hD : va_D A (wX cI cZ a (va_up (va_up σ 21 (upd (upd (σ 21) r (nI z)) r2 (nI (z2 + 1)))) 22 (upd (σ 22) (r2 * 8 + z2) (nI j)))) := hD
  exact MV.ret hx hb hr hlocks hK hP hD hS dX4_moveLast_27 (by rfl)
set_option maxHeartbeats 4000000 in
set_option maxRecDepth 100000 in
theorem c_X1_begunHours (l : Launch) (D : va_G) (cI cZ : ClassId) (a : Nat → Nat) (sz : Nat) (σ : St) (v : Int32) : MI l yX1_begunHours wsX1_begunHours ({ frames := 0, cells := 0, slots := 0, locals := 0 }) D (ty2 cI cZ) (wX cI cZ a) [.int v] σ sz (fun r u => u = σ ∧ r = bh v) := by
  refine MI.of (cc := cX1_begunHours) (maxL := 1) (by decide) rfl (Nat.le_of_ble_eq_true rfl) ?_
  intro p e s m args below meth c A H locs ls hx hb hr hml hown hts hlocks hA hS hP hK hD hl
  have hl : lv_has ls 1 [(0, .int v)] := hl
  refine lv_iload_n hx hb dX1_begunHours_0 rfl (lv_at hl 0 rfl) ?_
  refine lv_if_le (tgt := 16) hx hb dX1_begunHours_1 (by decide) (fun c_1 => ?_) (fun c_1 => ?_)
  · skip
    refine lv_iconst (v := 0) hx hb dX1_begunHours_16 (by decide) ?_
    exact MI.ret hx hb hr hlocks hK hP hD hS dX1_begunHours_17 (by exact ⟨rfl, (bh_0 c_1).symm⟩)
  · skip
    refine lv_iload_n hx hb dX1_begunHours_4 rfl (lv_at hl 0 rfl) ?_
    refine lv_bipush (v := 60) hx hb dX1_begunHours_5 (by decide) ?_
    refine lv_iadd hx hb dX1_begunHours_7 ?_
    refine lv_iconst (v := 1) hx hb dX1_begunHours_8 (by decide) ?_
    refine lv_isub hx hb dX1_begunHours_9 ?_
    refine lv_bipush (v := 60) hx hb dX1_begunHours_10 (by decide) ?_
    refine lv_idiv hx hb dX1_begunHours_12 (by decide) ?_
    refine lv_goto (tgt := 17) hx hb dX1_begunHours_13 (by decide) ?_
    exact MI.ret hx hb hr hlocks hK hP hD hS dX1_begunHours_17 (by exact ⟨rfl, (bh_1 c_1).symm⟩)
set_option maxRecDepth 20000 in
theorem in_X1_put_X1 : ∀ w ∈ wsX10, w ∈ wsX1_put := by decide +kernel
set_option maxHeartbeats 4000000 in
set_option maxRecDepth 100000 in
/-- Offers.put -/
theorem c_X1_put (l : Launch) (D : va_G) (cI cZ : ClassId) (a : Nat → Nat) (sz : Nat) (σ : St) (j : Nat) (sd mi pr : Int32) (hj : j < 8) : MV l yX1_put wsX1_put ({ frames := 0, cells := 0, slots := 0, locals := 0 }) D (ty2 cI cZ) (wX cI cZ a) [.ref (a 23), .int (nI j), .int sd, .int mi, .int pr] σ sz (fun u => u = (va_up (va_up (va_up σ 24 (upd (σ 24) j sd)) 25 (upd (σ 25) j mi)) 26 (upd (σ 26) j pr))) := by
  refine MV.of (cc := cX1_put) (maxL := 5) (by decide) rfl (Nat.le_of_ble_eq_true rfl) ?_
  intro p e s m args below meth c A H locs ls hx hb hr hml hown hts hlocks hA hS hP hK hD hl
  have hl : lv_has ls 5 [(0, .ref (a 23)), (1, .int (nI j)), (2, .int sd), (3, .int mi), (4, .int pr)] := hl
  refine lv_aload_n hx hb dX1_put_0 rfl (lv_at hl 0 rfl) ?_
  refine va_get (D := D) (ci := 1) (v := .ref (a 24)) (C := RX1) (T := TX1) (N := 3) hx hb hts in_X1_put_X1 hown hK hP 23 rfl rfl 0 (by decide) (hts (.fieldLink RX1 9 "Warpyard$Offers" "siding" "[I") (by decide +kernel)) (fun _ h9 => h9) rfl dX1_put_1 ?_
  refine lv_iload_n hx hb dX1_put_4 rfl (lv_at hl 1 rfl) ?_
  refine lv_iload_n hx hb dX1_put_5 rfl (lv_at hl 2 rfl) ?_
  refine na_iast hx hb hK hP hD hS 24 0 (f := (σ 24)) (x := sd) rfl rfl j (by omega) (by decide) rfl dX1_put_6 (fun H locs hP hD hS => ?_)
  have hP : va_P D vwCl (wX cI cZ a (va_up σ 24 (upd (σ 24) j sd))) H := hP
  have hD : va_D A (wX cI cZ a (va_up σ 24 (upd (σ 24) j sd))) := hD
  refine lv_aload_n hx hb dX1_put_7 rfl (lv_at hl 0 rfl) ?_
  refine va_get (D := D) (ci := 1) (v := .ref (a 25)) (C := RX1) (T := TX1) (N := 3) hx hb hts in_X1_put_X1 hown hK hP 23 rfl rfl 1 (by decide) (hts (.fieldLink RX1 15 "Warpyard$Offers" "minute" "[I") (by decide +kernel)) (fun _ h9 => h9) rfl dX1_put_8 ?_
  refine lv_iload_n hx hb dX1_put_11 rfl (lv_at hl 1 rfl) ?_
  refine lv_iload_n hx hb dX1_put_12 rfl (lv_at hl 3 rfl) ?_
  refine na_iast hx hb hK hP hD hS 25 0 (f := (σ 25)) (x := mi) rfl rfl j (by omega) (by decide) rfl dX1_put_13 (fun H locs hP hD hS => ?_)
  have hP : va_P D vwCl (wX cI cZ a (va_up (va_up σ 24 (upd (σ 24) j sd)) 25 (upd (σ 25) j mi))) H := hP
  have hD : va_D A (wX cI cZ a (va_up (va_up σ 24 (upd (σ 24) j sd)) 25 (upd (σ 25) j mi))) := hD
  refine lv_aload_n hx hb dX1_put_14 rfl (lv_at hl 0 rfl) ?_
  refine va_get (D := D) (ci := 1) (v := .ref (a 26)) (C := RX1) (T := TX1) (N := 3) hx hb hts in_X1_put_X1 hown hK hP 23 rfl rfl 2 (by decide) (hts (.fieldLink RX1 18 "Warpyard$Offers" "price" "[I") (by decide +kernel)) (fun _ h9 => h9) rfl dX1_put_15 ?_
  refine lv_iload_n hx hb dX1_put_18 rfl (lv_at hl 1 rfl) ?_
  refine lv_iload hx hb dX1_put_19 (lv_at hl 4 rfl) ?_
  refine na_iast hx hb hK hP hD hS 26 0 (f := (σ 26)) (x := pr) rfl rfl j (by omega) (by decide) rfl dX1_put_21 (fun H locs hP hD hS => ?_)
  have hP : va_P D vwCl (wX cI cZ a (va_up (va_up (va_up σ 24 (upd (σ 24) j sd)) 25 (upd (σ 25) j mi)) 26 (upd (σ 26) j pr))) H := hP
  have hD : va_D A (wX cI cZ a (va_up (va_up (va_up σ 24 (upd (σ 24) j sd)) 25 (upd (σ 25) j mi)) 26 (upd (σ 26) j pr))) := hD
  exact MV.ret hx hb hr hlocks hK hP hD hS dX1_put_22 (by rfl)
set_option maxRecDepth 20000 in
theorem in_X1_settle_X1 : ∀ w ∈ wsX10, w ∈ wsX1_settle := by decide +kernel
set_option maxHeartbeats 4000000 in
set_option maxRecDepth 100000 in
/-- Offers.settle -/
theorem c_X1_settle (l : Launch) (D : va_G) (cI cZ : ClassId) (a : Nat → Nat) (sz : Nat) (σ : St) (j : Nat) (sd nw : Int32) (hj : j < 8) : MI l yX1_settle wsX1_settle ({ frames := 1, cells := 0, slots := 0, locals := 21 }) D (ty2 cI cZ) (wX cI cZ a) [.ref (a 23), .int (nI j), .int sd, .int nw] σ sz (fun r u => (σ 24 j = sd ∧ u = (va_up σ 24 (upd (σ 24) j 0)) ∧ r = pay (σ 26 j) (σ 25 j) nw) ∨ (¬ σ 24 j = sd ∧ u = σ ∧ r = 0)) := by
  refine MI.of (cc := cX1_settle) (maxL := 4) (by decide) rfl (Nat.le_of_ble_eq_true rfl) ?_
  intro p e s m args below meth c A H locs ls hx hb hr hml hown hts hlocks hA hS hP hK hD hl
  have hl : lv_has ls 4 [(0, .ref (a 23)), (1, .int (nI j)), (2, .int sd), (3, .int nw)] := hl
  refine lv_aload_n hx hb dX1_settle_0 rfl (lv_at hl 0 rfl) ?_
  refine va_get (D := D) (ci := 1) (v := .ref (a 24)) (C := RX1) (T := TX1) (N := 3) hx hb hts in_X1_settle_X1 hown hK hP 23 rfl rfl 0 (by decide) (hts (.fieldLink RX1 9 "Warpyard$Offers" "siding" "[I") (by decide +kernel)) (fun _ h9 => h9) rfl dX1_settle_1 ?_
  refine lv_iload_n hx hb dX1_settle_4 rfl (lv_at hl 1 rfl) ?_
  refine na_iald hx hb hK hP 24 0 (f := (σ 24)) rfl rfl j (by omega) (by decide) rfl dX1_settle_5 ?_
  refine lv_iload_n hx hb dX1_settle_6 rfl (lv_at hl 2 rfl) ?_
  refine lv_icmp_eq (tgt := 12) hx hb dX1_settle_7 (by decide) (fun c_7 => ?_) (fun c_7 => ?_)
  · skip
    refine lv_aload_n hx hb dX1_settle_12 rfl (lv_at hl 0 rfl) ?_
    refine va_get (D := D) (ci := 1) (v := .ref (a 24)) (C := RX1) (T := TX1) (N := 3) hx hb hts in_X1_settle_X1 hown hK hP 23 rfl rfl 0 (by decide) (hts (.fieldLink RX1 9 "Warpyard$Offers" "siding" "[I") (by decide +kernel)) (fun _ h9 => h9) rfl dX1_settle_13 ?_
    refine lv_iload_n hx hb dX1_settle_16 rfl (lv_at hl 1 rfl) ?_
    refine lv_iconst (v := 0) hx hb dX1_settle_17 (by decide) ?_
    refine na_iast hx hb hK hP hD hS 24 0 (f := (σ 24)) (x := 0) rfl rfl j (by omega) (by decide) rfl dX1_settle_18 (fun H locs hP hD hS => ?_)
    have hP : va_P D vwCl (wX cI cZ a (va_up σ 24 (upd (σ 24) j 0))) H := hP
    have hD : va_D A (wX cI cZ a (va_up σ 24 (upd (σ 24) j 0))) := hD
    refine lv_iconst (v := 0) hx hb dX1_settle_19 (by decide) ?_
    refine lv_aload_n hx hb dX1_settle_20 rfl (lv_at hl 0 rfl) ?_
    refine va_get (D := D) (ci := 1) (v := .ref (a 26)) (C := RX1) (T := TX1) (N := 3) hx hb hts in_X1_settle_X1 hown hK hP 23 rfl rfl 2 (by decide) (hts (.fieldLink RX1 18 "Warpyard$Offers" "price" "[I") (by decide +kernel)) (fun _ h9 => h9) rfl dX1_settle_21 ?_
    refine lv_iload_n hx hb dX1_settle_24 rfl (lv_at hl 1 rfl) ?_
    refine na_iald hx hb hK hP 26 0 (f := (σ 26)) rfl rfl j (by omega) (by decide) rfl dX1_settle_25 ?_
    refine lv_bipush (v := 10) hx hb dX1_settle_26 (by decide) ?_
    refine lv_iload_n hx hb dX1_settle_28 rfl (lv_at hl 3 rfl) ?_
    refine lv_aload_n hx hb dX1_settle_29 rfl (lv_at hl 0 rfl) ?_
    refine va_get (D := D) (ci := 1) (v := .ref (a 25)) (C := RX1) (T := TX1) (N := 3) hx hb hts in_X1_settle_X1 hown hK hP 23 rfl rfl 1 (by decide) (hts (.fieldLink RX1 15 "Warpyard$Offers" "minute" "[I") (by decide +kernel)) (fun _ h9 => h9) rfl dX1_settle_30 ?_
    refine lv_iload_n hx hb dX1_settle_33 rfl (lv_at hl 1 rfl) ?_
    refine na_iald hx hb hK hP 25 0 (f := (σ 25)) rfl rfl j (by omega) (by decide) rfl dX1_settle_34 ?_
    refine lv_isub hx hb dX1_settle_35 ?_
    refine MI.callS (As := [.int (nw - (σ 25 j))]) (rest := [.int 10, .int (σ 26 j), .int 0]) ⟨hx, hb, hml, hown, hts⟩ (c_X1_begunHours l D cI cZ a H.size (va_up σ 24 (upd (σ 24) j 0)) (nw - (σ 25 j))) (va_cwS 1 hts gX1_settle_X1_begunHours rfl rfl rfl (by decide +kernel) ⟨Nat.le_of_ble_eq_true rfl, Nat.le_of_ble_eq_true rfl⟩) hP hK hD hS hA rfl hl.1 (Nat.le_of_ble_eq_true rfl) (Nat.zero_le _) (Nat.zero_le _) dX1_settle_36 rfl (fun r_36 u_36 H locs h_36 hP hD hS => ?_)
    obtain ⟨e_36, h_36⟩ := h_36
    have e_36 := Eq.symm e_36
    subst e_36
    refine lv_imul hx hb dX1_settle_39 ?_
    refine lv_isub hx hb dX1_settle_40 ?_
    refine va_mmax hx hb (hml.trans hl.1.symm) hown (hts (.methodLink RX1 25 Lib.Math.max.name) (by decide +kernel)) (hts (.static Lib.Math.max.name) (by decide +kernel)) (hts (.initialized "java/lang/Math") (by decide +kernel)) (hts (.code Lib.Math.max.name Lib.Math.max.code 2 (some .int)) (by decide +kernel)) (Nat.le_of_ble_eq_true rfl) (Nat.le_of_ble_eq_true rfl) (Nat.zero_le _) (Nat.zero_le _) dX1_settle_41 ?_
    exact MI.ret hx hb hr hlocks hK hP hD hS dX1_settle_44 (by subst h_36; exact Or.inl ⟨c_7, rfl, rfl⟩)
  · skip
    refine lv_iconst (v := 0) hx hb dX1_settle_10 (by decide) ?_
    exact MI.ret hx hb hr hlocks hK hP hD hS dX1_settle_11 (by exact Or.inr ⟨c_7, rfl, rfl⟩)
