set_option maxHeartbeats 4000000 in
set_option maxRecDepth 100000 in
theorem c_X4_rowOfSiding (l : Launch) (D : va_G) (cI cZ : ClassId) (a : Nat → Nat) (sz : Nat) (σ : St) (v : Int32) : MI l yX4_rowOfSiding wsX4_rowOfSiding ({ frames := 0, cells := 0, slots := 0, locals := 0 }) D (ty2 cI cZ) (wX cI cZ a) [.int v] σ sz (fun r u => u = σ ∧ r = v - 6) := by
  refine MI.of (cc := cX4_rowOfSiding) (maxL := 1) (by decide) rfl (Nat.le_of_ble_eq_true rfl) ?_
  intro p e s m args below meth c A H locs ls hx hb hr hml hown hts hlocks hA hS hP hK hD hl
  have hl : lv_has ls 1 [(0, .int v)] := hl
  refine lv_iload_n hx hb dX4_rowOfSiding_0 rfl (lv_at hl 0 rfl) ?_
  refine lv_bipush (v := 6) hx hb dX4_rowOfSiding_1 (by decide) ?_
  refine lv_isub hx hb dX4_rowOfSiding_3 ?_
  exact MI.ret hx hb hr hlocks hK hP hD hS dX4_rowOfSiding_4 (by exact ⟨rfl, rfl⟩)
set_option maxHeartbeats 4000000 in
set_option maxRecDepth 100000 in
theorem c_X4_rowOfTrain (l : Launch) (D : va_G) (cI cZ : ClassId) (a : Nat → Nat) (sz : Nat) (σ : St) (v : Int32) : MI l yX4_rowOfTrain wsX4_rowOfTrain ({ frames := 0, cells := 0, slots := 0, locals := 0 }) D (ty2 cI cZ) (wX cI cZ a) [.int v] σ sz (fun r u => u = σ ∧ r = 2 + v) := by
  refine MI.of (cc := cX4_rowOfTrain) (maxL := 1) (by decide) rfl (Nat.le_of_ble_eq_true rfl) ?_
  intro p e s m args below meth c A H locs ls hx hb hr hml hown hts hlocks hA hS hP hK hD hl
  have hl : lv_has ls 1 [(0, .int v)] := hl
  refine lv_iconst (v := 2) hx hb dX4_rowOfTrain_0 (by decide) ?_
  refine lv_iload_n hx hb dX4_rowOfTrain_1 rfl (lv_at hl 0 rfl) ?_
  refine lv_iadd hx hb dX4_rowOfTrain_2 ?_
  exact MI.ret hx hb hr hlocks hK hP hD hS dX4_rowOfTrain_3 (by exact ⟨rfl, rfl⟩)
set_option maxRecDepth 20000 in
theorem in_X4_fromFirst_X4 : ∀ w ∈ wsX40, w ∈ wsX4_fromFirst := by decide +kernel
set_option maxHeartbeats 4000000 in
set_option maxRecDepth 100000 in
/-- Waggons.fromFirst -/
theorem c_X4_fromFirst (l : Launch) (D : va_G) (cI cZ : ClassId) (a : Nat → Nat) (sz : Nat) (σ : St) (r z : Nat) (pl : Int32) (hr6 : r < 6) (hz : σ 21 r = nI z) (hz8 : z ≤ 8) (hp : ¬ pl < 0) : MI l yX4_fromFirst wsX4_fromFirst ({ frames := 0, cells := 0, slots := 0, locals := 0 }) D (ty2 cI cZ) (wX cI cZ a) [.ref (a 19), .int (nI r), .int pl] σ sz (fun q u => u = σ ∧ q = fFi (σ 22) r z pl) := by
  refine MI.of (cc := cX4_fromFirst) (maxL := 3) (by decide) rfl (Nat.le_of_ble_eq_true rfl) ?_
  intro p e s m args below meth c A H locs ls hx hb hr hml hown hts hlocks hA hS hP hK hD hl
  have hl : lv_has ls 3 [(0, .ref (a 19)), (1, .int (nI r)), (2, .int pl)] := hl
  obtain ⟨j, hj, rfl⟩ := nI_of hp
  refine lv_iload_n hx hb dX4_fromFirst_0 rfl (lv_at hl 2 rfl) ?_
  refine lv_aload_n hx hb dX4_fromFirst_1 rfl (lv_at hl 0 rfl) ?_
  refine va_get (D := D) (ci := 4) (v := .ref (a 21)) (C := RX4) (T := TX4) (N := 4) hx hb hts in_X4_fromFirst_X4 hown hK hP 19 rfl rfl 1 (by decide) (hts (.fieldLink RX4 15 "Warpyard$Waggons" "size" "[I") (by decide +kernel)) (fun _ h9 => h9) rfl dX4_fromFirst_2 ?_
  refine lv_iload_n hx hb dX4_fromFirst_5 rfl (lv_at hl 1 rfl) ?_
  refine na_iald hx hb hK hP 21 0 (f := (σ 21)) rfl rfl r (by omega) (by decide) rfl dX4_fromFirst_6 ?_
  refine lv_topi (fun v_7 e_7 => ?_)
  obtain rfl : v_7 = nI z := by rw [e_7]; exact hz
  refine lv_icmp_ge (tgt := 24) hx hb dX4_fromFirst_7 (by decide) (fun c_7 => ?_) (fun c_7 => ?_)
  · skip
    rw [nI_leI (by omega) (by omega)] at c_7
    refine lv_iconst (v := (-1)) hx hb dX4_fromFirst_24 (by decide) ?_
    exact MI.ret hx hb hr hlocks hK hP hD hS dX4_fromFirst_25 (by exact ⟨rfl, (fFi_n (by omega) (by omega) hj).symm⟩)
  · skip
    rw [nI_leI (by omega) (by omega)] at c_7
    refine lv_aload_n hx hb dX4_fromFirst_10 rfl (lv_at hl 0 rfl) ?_
    refine va_get (D := D) (ci := 4) (v := .ref (a 22)) (C := RX4) (T := TX4) (N := 4) hx hb hts in_X4_fromFirst_X4 hown hK hP 19 rfl rfl 2 (by decide) (hts (.fieldLink RX4 18 "Warpyard$Waggons" "inRow" "[I") (by decide +kernel)) (fun _ h9 => h9) rfl dX4_fromFirst_11 ?_
    refine lv_iload_n hx hb dX4_fromFirst_14 rfl (lv_at hl 1 rfl) ?_
    refine lv_bipush (v := 8) hx hb dX4_fromFirst_15 (by decide) ?_
    refine lv_imul hx hb dX4_fromFirst_17 ?_
    refine lv_iload_n hx hb dX4_fromFirst_18 rfl (lv_at hl 2 rfl) ?_
    refine lv_iadd hx hb dX4_fromFirst_19 ?_
    refine na_iald hx hb hK hP 22 0 (f := (σ 22)) rfl rfl (r * 8 + j) (by omega) (by decide) (ix_a r j) dX4_fromFirst_20 ?_
    refine lv_goto (tgt := 25) hx hb dX4_fromFirst_21 (by decide) ?_
    exact MI.ret hx hb hr hlocks hK hP hD hS dX4_fromFirst_25 (by exact ⟨rfl, (fFi_y (by omega) (by omega)).symm⟩)
set_option maxRecDepth 20000 in
theorem in_X4_fromLast_X4 : ∀ w ∈ wsX40, w ∈ wsX4_fromLast := by decide +kernel
set_option maxHeartbeats 4000000 in
set_option maxRecDepth 100000 in
/-- Waggons.fromLast -/
theorem c_X4_fromLast (l : Launch) (D : va_G) (cI cZ : ClassId) (a : Nat → Nat) (sz : Nat) (σ : St) (r z : Nat) (pl : Int32) (hr6 : r < 6) (hz : σ 21 r = nI z) (hz8 : z ≤ 8) (hp : ¬ pl < 0) : MI l yX4_fromLast wsX4_fromLast ({ frames := 0, cells := 0, slots := 0, locals := 0 }) D (ty2 cI cZ) (wX cI cZ a) [.ref (a 19), .int (nI r), .int pl] σ sz (fun q u => u = σ ∧ q = fLa (σ 22) r z pl) := by
  refine MI.of (cc := cX4_fromLast) (maxL := 3) (by decide) rfl (Nat.le_of_ble_eq_true rfl) ?_
  intro p e s m args below meth c A H locs ls hx hb hr hml hown hts hlocks hA hS hP hK hD hl
  have hl : lv_has ls 3 [(0, .ref (a 19)), (1, .int (nI r)), (2, .int pl)] := hl
  obtain ⟨j, hj, rfl⟩ := nI_of hp
  refine lv_iload_n hx hb dX4_fromLast_0 rfl (lv_at hl 2 rfl) ?_
  refine lv_aload_n hx hb dX4_fromLast_1 rfl (lv_at hl 0 rfl) ?_
  refine va_get (D := D) (ci := 4) (v := .ref (a 21)) (C := RX4) (T := TX4) (N := 4) hx hb hts in_X4_fromLast_X4 hown hK hP 19 rfl rfl 1 (by decide) (hts (.fieldLink RX4 15 "Warpyard$Waggons" "size" "[I") (by decide +kernel)) (fun _ h9 => h9) rfl dX4_fromLast_2 ?_
  refine lv_iload_n hx hb dX4_fromLast_5 rfl (lv_at hl 1 rfl) ?_
  refine na_iald hx hb hK hP 21 0 (f := (σ 21)) rfl rfl r (by omega) (by decide) rfl dX4_fromLast_6 ?_
  refine lv_topi (fun v_7 e_7 => ?_)
  obtain rfl : v_7 = nI z := by rw [e_7]; exact hz
  refine lv_icmp_ge (tgt := 33) hx hb dX4_fromLast_7 (by decide) (fun c_7 => ?_) (fun c_7 => ?_)
  · skip
    rw [nI_leI (by omega) (by omega)] at c_7
    refine lv_iconst (v := (-1)) hx hb dX4_fromLast_33 (by decide) ?_
    exact MI.ret hx hb hr hlocks hK hP hD hS dX4_fromLast_34 (by exact ⟨rfl, (fLa_n (by omega) (by omega) hj).symm⟩)
  · skip
    rw [nI_leI (by omega) (by omega)] at c_7
    refine lv_aload_n hx hb dX4_fromLast_10 rfl (lv_at hl 0 rfl) ?_
    refine va_get (D := D) (ci := 4) (v := .ref (a 22)) (C := RX4) (T := TX4) (N := 4) hx hb hts in_X4_fromLast_X4 hown hK hP 19 rfl rfl 2 (by decide) (hts (.fieldLink RX4 18 "Warpyard$Waggons" "inRow" "[I") (by decide +kernel)) (fun _ h9 => h9) rfl dX4_fromLast_11 ?_
    refine lv_iload_n hx hb dX4_fromLast_14 rfl (lv_at hl 1 rfl) ?_
    refine lv_bipush (v := 8) hx hb dX4_fromLast_15 (by decide) ?_
    refine lv_imul hx hb dX4_fromLast_17 ?_
    refine lv_aload_n hx hb dX4_fromLast_18 rfl (lv_at hl 0 rfl) ?_
    refine va_get (D := D) (ci := 4) (v := .ref (a 21)) (C := RX4) (T := TX4) (N := 4) hx hb hts in_X4_fromLast_X4 hown hK hP 19 rfl rfl 1 (by decide) (hts (.fieldLink RX4 15 "Warpyard$Waggons" "size" "[I") (by decide +kernel)) (fun _ h9 => h9) rfl dX4_fromLast_19 ?_
    refine lv_iload_n hx hb dX4_fromLast_22 rfl (lv_at hl 1 rfl) ?_
    refine na_iald hx hb hK hP 21 0 (f := (σ 21)) rfl rfl r (by omega) (by decide) rfl dX4_fromLast_23 ?_
    refine lv_topi (fun v_24 e_24 => ?_)
    obtain rfl : v_24 = nI z := by rw [e_24]; exact hz
    refine lv_iadd hx hb dX4_fromLast_24 ?_
    refine lv_iconst (v := 1) hx hb dX4_fromLast_25 (by decide) ?_
    refine lv_isub hx hb dX4_fromLast_26 ?_
    refine lv_iload_n hx hb dX4_fromLast_27 rfl (lv_at hl 2 rfl) ?_
    refine lv_isub hx hb dX4_fromLast_28 ?_
    refine na_iald hx hb hK hP 22 0 (f := (σ 22)) rfl rfl (r * 8 + (z - 1 - j)) (by omega) (by decide) (ix_l r (by omega)) dX4_fromLast_29 ?_
    refine lv_goto (tgt := 34) hx hb dX4_fromLast_30 (by decide) ?_
    exact MI.ret hx hb hr hlocks hK hP hD hS dX4_fromLast_34 (by exact ⟨rfl, (fLa_y (by omega) (by omega)).symm⟩)
