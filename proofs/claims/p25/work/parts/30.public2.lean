set_option maxRecDepth 20000 in
theorem in_X5_waggonAt_X3 : ∀ w ∈ wsX30, w ∈ wsX5_waggonAt := by decide +kernel
set_option maxRecDepth 20000 in
theorem in_X5_waggonAt_X5 : ∀ w ∈ wsX50, w ∈ wsX5_waggonAt := by decide +kernel
set_option maxRecDepth 20000 in
theorem k_X5_waggonAt_95 : Cond.classLink RX5 95 "java/lang/IndexOutOfBoundsException" ∈ wsX5_waggonAt := by decide +kernel
set_option maxRecDepth 20000 in
theorem j_X5_waggonAt_95 : Cond.initialized "java/lang/IndexOutOfBoundsException" ∈ wsX5_waggonAt := by decide +kernel
set_option maxRecDepth 20000 in
theorem v_X5_waggonAt_95 : ∀ w ∈ (vx_atS RX5 99 "java/lang/IndexOutOfBoundsException" xnames).filter goodWord, w ∈ wsX5_waggonAt := by decide +kernel
theorem w_X5_waggonAt_95 {s : State} {args : Array Value} (hts : ∀ w ∈ wsX5_waggonAt, w.before args s = true) (hEV : EV s) : ∀ w ∈ vx_atS RX5 99 "java/lang/IndexOutOfBoundsException" xnames, w.before args s = true := vx_hat (fun w h => hts w (v_X5_waggonAt_95 w h)) (B := EVw) (by decide +kernel) (fun w h => va_Nw.use (EV.tab (s := s) w h) (hEV.1 w h))
theorem o_X5_waggonAt_95 : ∀ w ∈ Cond.classLink RX5 95 "java/lang/IndexOutOfBoundsException" :: Cond.initialized "java/lang/IndexOutOfBoundsException" :: vx_atS RX5 99 "java/lang/IndexOutOfBoundsException" xnames, vx_ot w = true := by decide +kernel
set_option maxHeartbeats 4000000 in
set_option maxRecDepth 100000 in
/-- Warpyard.waggonAt -/
theorem c_X5_waggonAt (l : Launch) (D : va_G) (cI cZ : ClassId) (a : Nat → Nat) (sz : Nat) (σ : St) (hfl : l.stackTraces = false) (w pl : Int32) (n : Nat) (hn : σ 3 0 = nI n) (hn4 : n ≤ 4) (nw : Nat) (Z : Nat → Nat) (J : Nat → Nat → Nat) (hnw : σ 19 0 = nI nw) (hnw8 : nw ≤ 8) (hQ : ∀ r, r < 6 → σ 21 r = nI (Z r) ∧ Z r ≤ 8) (hJ : ∀ r, r < 6 → ∀ p, p < Z r → σ 22 (r * 8 + p) = nI (J r p) ∧ J r p < 8) : XI l yX5_waggonAt wsX5_waggonAt ({ frames := 7, cells := 1, slots := 6, locals := 110 }) D (ty2 cI cZ) (wX cI cZ a) [.ref (a 0), .int w, .int pl] σ sz (fun r u => cdAt n w pl = 0 ∧ u = σ ∧ r = waJ Z J w pl) (x1 (cdAt n w pl)) := by
  refine XI.of (cc := cX5_waggonAt) (maxL := 4) (by decide) rfl (Nat.le_of_ble_eq_true rfl) ?_
  intro p e s m args below meth c A H locs ls hx hb hr hml hown hts hlocks hexc hEV hZ hA hS hP hK hD hl
  have hl : lv_has ls 4 [(0, .ref (a 0)), (1, .int w), (2, .int pl)] := hl
  refine lv_iload_n hx hb dX5_waggonAt_0 rfl (lv_at hl 1 rfl) ?_
  refine MI.callS (As := [.int w]) (rest := []) ⟨hx, hb, hml, hown, hts⟩ (c_X5_isSiding l D cI cZ a H.size σ w) (va_cwS 1 hts gX5_waggonAt_X5_isSiding rfl rfl rfl (by decide +kernel) ⟨Nat.le_of_ble_eq_true rfl, Nat.le_of_ble_eq_true rfl⟩) hP hK hD hS hA rfl hl.1 (Nat.le_of_ble_eq_true rfl) (Nat.zero_le _) (Nat.zero_le _) dX5_waggonAt_1 rfl (fun r_1 u_1 H locs h_1 hP hD hS => ?_)
  rcases h_1 with ⟨e_1, ⟨rfl, h_1⟩ | ⟨rfl, h_1⟩⟩
  · skip
    have e_1 := Eq.symm e_1
    subst e_1
    have h_1 : inR w 6 7 := h_1
    refine lv_istore_n (lv' := [(3, .int 1), (0, .ref (a 0)), (1, .int w), (2, .int pl)]) hx hb dX5_waggonAt_4 rfl hl (by decide) rfl (fun ls hl => ?_)
    refine lv_iload_n hx hb dX5_waggonAt_5 rfl (lv_at hl 0 rfl) ?_
    refine lv_if_ne (tgt := 39) hx hb dX5_waggonAt_6 (by decide) (fun _ => ?_) (fun c9 => absurd c9 (by decide))
    refine lv_iload_n hx hb dX5_waggonAt_39 rfl (lv_at hl 3 rfl) ?_
    refine lv_if_ge (tgt := 53) hx hb dX5_waggonAt_40 (by decide) (fun c_40 => ?_) (fun c_40 => ?_)
    · skip
      refine lv_iload_n hx hb dX5_waggonAt_53 rfl (lv_at hl 0 rfl) ?_
      refine lv_if_eq (tgt := 70) hx hb dX5_waggonAt_54 (by decide) (fun c9 => absurd c9 (by decide)) (fun _ => ?_)
      refine lv_aload_n hx hb dX5_waggonAt_57 rfl (lv_at hl 1 rfl) ?_
      refine va_get (D := D) (ci := 5) (v := .ref (a 19)) (C := RX5) (T := TX5) (N := 8) hx hb hts in_X5_waggonAt_X5 hown hK hP 0 rfl rfl 4 (by decide) (hts (.fieldLink RX5 36 "Warpyard" "waggons" "LWarpyard$Waggons;") (by decide +kernel)) (fun _ h9 => h9) rfl dX5_waggonAt_58 ?_
      refine lv_iload_n hx hb dX5_waggonAt_61 rfl (lv_at hl 2 rfl) ?_
      refine MI.callS (As := [.int w]) (rest := [.ref (a 19)]) ⟨hx, hb, hml, hown, hts⟩ (c_X4_rowOfSiding l D cI cZ a H.size σ w) (va_cwS 1 hts gX5_waggonAt_X4_rowOfSiding rfl rfl rfl (by decide +kernel) ⟨Nat.le_of_ble_eq_true rfl, Nat.le_of_ble_eq_true rfl⟩) hP hK hD hS hA rfl hl.1 (Nat.le_of_ble_eq_true rfl) (Nat.zero_le _) (Nat.zero_le _) dX5_waggonAt_62 rfl (fun r_62 u_62 H locs h_62 hP hD hS => ?_)
      obtain ⟨e_62, h_62⟩ := h_62
      have e_62 := Eq.symm e_62
      subst e_62
      refine lv_topi (fun v_65 e_65 => ?_)
      obtain rfl : v_65 = nI (sR w) := by rw [e_65]; exact h_62.trans (sR_e h_1)
      refine lv_iload_n hx hb dX5_waggonAt_65 rfl (lv_at hl 3 rfl) ?_
      refine MI.callV (As := [.int (nI (sR w)), .int pl]) (rest := []) ⟨hx, hb, hml, hown, hts⟩ (c_X4_fromLast l D cI cZ a H.size σ (sR w) (Z (sR w)) pl (sR_6 h_1) (hQ (sR w) (sR_6 h_1)).1 (hQ (sR w) (sR_6 h_1)).2 (le_nlt.mp c_40)) (cwV 2 hts gX5_waggonAt_X4_fromLast rfl rfl rfl (by decide +kernel) ⟨Nat.le_of_ble_eq_true rfl, Nat.le_of_ble_eq_true rfl⟩) hP hK hD hS hA (va_recv hK hP (ci := 4) (q0 := 19) rfl rfl) rfl hl.1 (Nat.le_of_ble_eq_true rfl) (Nat.zero_le _) (Nat.zero_le _) dX5_waggonAt_66 rfl (fun r_66 u_66 H locs h_66 hP hD hS => ?_)
      obtain ⟨e_66, h_66⟩ := h_66
      have e_66 := Eq.symm e_66
      subst e_66
      have h_66 : r_66 = fLa (σ 22) (sR w) (Z (sR w)) pl := h_66
      exact XI.ret hx hb hr hlocks hK hP hD hS dX5_waggonAt_69 (by exact ⟨cif_t ⟨Or.inl h_1, le_nlt.mp c_40⟩, rfl, by rw [waJ, cif_t h_1, h_66]; exact fLa_J (le_nlt.mp c_40) (by have := (hQ (sR w) (sR_6 h_1)).2; omega) (fun p hp => (hJ (sR w) (sR_6 h_1) p hp).1)⟩)
    · skip
      exact X.throwS (cls := "java/lang/IndexOutOfBoundsException") (text := "place is below 0") (names := xnames) (ik := 95) (is := 217) (ic := 99) hx hb hfl hown (by decide +kernel) (by decide +kernel) (hts _ k_X5_waggonAt_95) (hts _ j_X5_waggonAt_95) (by decide +kernel) (w_X5_waggonAt_95 hts hEV) o_X5_waggonAt_95 hEV hZ hK hP hD hS (hl.1.trans hml.symm) dX5_waggonAt_43 dX5_waggonAt_46 dX5_waggonAt_47 dX5_waggonAt_49 dX5_waggonAt_52 hexc (Nat.le_of_ble_eq_true rfl) (Nat.le_of_ble_eq_true rfl) (Nat.le_of_ble_eq_true rfl) (Nat.le_of_ble_eq_true rfl) hlocks (⟨rfl, cif_f (fun h => c_40 (le_nlt.mpr h.2))⟩)
  · skip
    have e_1 := Eq.symm e_1
    subst e_1
    have h_1 : ¬ inR w 6 7 := h_1
    refine lv_istore_n (lv' := [(3, .int 0), (0, .ref (a 0)), (1, .int w), (2, .int pl)]) hx hb dX5_waggonAt_4 rfl hl (by decide) rfl (fun ls hl => ?_)
    refine lv_iload_n hx hb dX5_waggonAt_5 rfl (lv_at hl 0 rfl) ?_
    refine lv_if_ne (tgt := 39) hx hb dX5_waggonAt_6 (by decide) (fun c9 => absurd (by decide) c9) (fun _ => ?_)
    refine lv_iload_n hx hb dX5_waggonAt_9 rfl (lv_at hl 2 rfl) ?_
    refine lv_bipush (v := 10) hx hb dX5_waggonAt_10 (by decide) ?_
    refine lv_icmp_lt (tgt := 29) hx hb dX5_waggonAt_12 (by decide) (fun c_12 => ?_) (fun c_12 => ?_)
    · skip
      exact X.throwS (cls := "java/lang/IndexOutOfBoundsException") (text := "no such siding or train") (names := xnames) (ik := 95) (is := 215) (ic := 99) hx hb hfl hown (by decide +kernel) (by decide +kernel) (hts _ k_X5_waggonAt_95) (hts _ j_X5_waggonAt_95) (by decide +kernel) (w_X5_waggonAt_95 hts hEV) o_X5_waggonAt_95 hEV hZ hK hP hD hS (hl.1.trans hml.symm) dX5_waggonAt_29 dX5_waggonAt_32 dX5_waggonAt_33 dX5_waggonAt_35 dX5_waggonAt_38 hexc (Nat.le_of_ble_eq_true rfl) (Nat.le_of_ble_eq_true rfl) (Nat.le_of_ble_eq_true rfl) (Nat.le_of_ble_eq_true rfl) hlocks (⟨rfl, cif_f (fun h => h.1.elim h_1 (fun q => ten_1 (by omega) q c_12))⟩)
    · skip
      refine lv_iload_n hx hb dX5_waggonAt_15 rfl (lv_at hl 2 rfl) ?_
      refine lv_bipush (v := 10) hx hb dX5_waggonAt_16 (by decide) ?_
      refine lv_aload_n hx hb dX5_waggonAt_18 rfl (lv_at hl 1 rfl) ?_
      refine va_get (D := D) (ci := 5) (v := .ref (a 3)) (C := RX5) (T := TX5) (N := 8) hx hb hts in_X5_waggonAt_X5 hown hK hP 0 rfl rfl 1 (by decide) (hts (.fieldLink RX5 19 "Warpyard" "trains" "LWarpyard$Trains;") (by decide +kernel)) (fun _ h9 => h9) rfl dX5_waggonAt_19 ?_
      refine va_get (D := D) (ci := 3) (v := .int (σ 3 0)) (C := RX3) (T := TX3) (N := 5) hx hb hts in_X5_waggonAt_X3 hown hK hP 3 rfl rfl 4 (by decide) (hts (.fieldLink RX5 51 "Warpyard$Trains" "count" "I") (by decide +kernel)) (fun _ h9 => h9) rfl dX5_waggonAt_22 ?_
      refine lv_topi (fun v_25 e_25 => ?_)
      obtain rfl : v_25 = nI n := by rw [e_25]; exact hn
      refine lv_iadd hx hb dX5_waggonAt_25 ?_
      refine lv_topi (fun v_26 e_26 => ?_)
      obtain rfl : v_26 = nI (10 + n) := by rw [e_26]; exact nI_add 10 n
      refine lv_icmp_lt (tgt := 39) hx hb dX5_waggonAt_26 (by decide) (fun c_26 => ?_) (fun c_26 => ?_)
      · skip
        refine lv_iload_n hx hb dX5_waggonAt_39 rfl (lv_at hl 3 rfl) ?_
        refine lv_if_ge (tgt := 53) hx hb dX5_waggonAt_40 (by decide) (fun c_40 => ?_) (fun c_40 => ?_)
        · skip
          refine lv_iload_n hx hb dX5_waggonAt_53 rfl (lv_at hl 0 rfl) ?_
          refine lv_if_eq (tgt := 70) hx hb dX5_waggonAt_54 (by decide) (fun _ => ?_) (fun c9 => absurd (by decide) c9)
          refine lv_aload_n hx hb dX5_waggonAt_70 rfl (lv_at hl 1 rfl) ?_
          refine va_get (D := D) (ci := 5) (v := .ref (a 19)) (C := RX5) (T := TX5) (N := 8) hx hb hts in_X5_waggonAt_X5 hown hK hP 0 rfl rfl 4 (by decide) (hts (.fieldLink RX5 36 "Warpyard" "waggons" "LWarpyard$Waggons;") (by decide +kernel)) (fun _ h9 => h9) rfl dX5_waggonAt_71 ?_
          refine lv_iload_n hx hb dX5_waggonAt_74 rfl (lv_at hl 2 rfl) ?_
          refine lv_bipush (v := 10) hx hb dX5_waggonAt_75 (by decide) ?_
          refine lv_isub hx hb dX5_waggonAt_77 ?_
          obtain ⟨k, hk, ek⟩ := ten_tr (by omega) c_12 c_26
          refine lv_topi (fun v_78 e_78 => ?_)
          obtain rfl : v_78 = nI k := by rw [e_78]; exact ek
          refine MI.callS (As := [.int (nI k)]) (rest := [.ref (a 19)]) ⟨hx, hb, hml, hown, hts⟩ (c_X4_rowOfTrain l D cI cZ a H.size σ (nI k)) (va_cwS 1 hts gX5_waggonAt_X4_rowOfTrain rfl rfl rfl (by decide +kernel) ⟨Nat.le_of_ble_eq_true rfl, Nat.le_of_ble_eq_true rfl⟩) hP hK hD hS hA rfl hl.1 (Nat.le_of_ble_eq_true rfl) (Nat.zero_le _) (Nat.zero_le _) dX5_waggonAt_78 rfl (fun r_78 u_78 H locs h_78 hP hD hS => ?_)
          obtain ⟨e_78, h_78⟩ := h_78
          have e_78 := Eq.symm e_78
          subst e_78
          refine lv_topi (fun v_81 e_81 => ?_)
          obtain rfl : v_81 = nI (2 + k) := by rw [e_81]; rw [h_78]; exact nI_add 2 k
          refine lv_iload_n hx hb dX5_waggonAt_81 rfl (lv_at hl 3 rfl) ?_
          refine MI.callV (As := [.int (nI (2 + k)), .int pl]) (rest := []) ⟨hx, hb, hml, hown, hts⟩ (c_X4_fromFirst l D cI cZ a H.size σ (2 + k) (Z (2 + k)) pl (by omega) (hQ (2 + k) (by omega)).1 (hQ (2 + k) (by omega)).2 (le_nlt.mp c_40)) (cwV 2 hts gX5_waggonAt_X4_fromFirst rfl rfl rfl (by decide +kernel) ⟨Nat.le_of_ble_eq_true rfl, Nat.le_of_ble_eq_true rfl⟩) hP hK hD hS hA (va_recv hK hP (ci := 4) (q0 := 19) rfl rfl) rfl hl.1 (Nat.le_of_ble_eq_true rfl) (Nat.zero_le _) (Nat.zero_le _) dX5_waggonAt_82 rfl (fun r_82 u_82 H locs h_82 hP hD hS => ?_)
          obtain ⟨e_82, h_82⟩ := h_82
          have e_82 := Eq.symm e_82
          subst e_82
          have h_82 : r_82 = fFi (σ 22) (2 + k) (Z (2 + k)) pl := h_82
          exact XI.ret hx hb hr hlocks hK hP hD hS dX5_waggonAt_85 (by exact ⟨cif_t ⟨Or.inr ⟨k, hk, ek⟩, le_nlt.mp c_40⟩, rfl, by rw [waJ, cif_f h_1, ek, nI_clamp (show k < 2 ^ 31 by omega), h_82]; exact fFi_J (le_nlt.mp c_40) (by have := (hQ (2 + k) (by omega)).2; omega) (fun p hp => (hJ (2 + k) (by omega) p hp).1)⟩)
        · skip
          exact X.throwS (cls := "java/lang/IndexOutOfBoundsException") (text := "place is below 0") (names := xnames) (ik := 95) (is := 217) (ic := 99) hx hb hfl hown (by decide +kernel) (by decide +kernel) (hts _ k_X5_waggonAt_95) (hts _ j_X5_waggonAt_95) (by decide +kernel) (w_X5_waggonAt_95 hts hEV) o_X5_waggonAt_95 hEV hZ hK hP hD hS (hl.1.trans hml.symm) dX5_waggonAt_43 dX5_waggonAt_46 dX5_waggonAt_47 dX5_waggonAt_49 dX5_waggonAt_52 hexc (Nat.le_of_ble_eq_true rfl) (Nat.le_of_ble_eq_true rfl) (Nat.le_of_ble_eq_true rfl) (Nat.le_of_ble_eq_true rfl) hlocks (⟨rfl, cif_f (fun h => c_40 (le_nlt.mpr h.2))⟩)
      · skip
        exact X.throwS (cls := "java/lang/IndexOutOfBoundsException") (text := "no such siding or train") (names := xnames) (ik := 95) (is := 215) (ic := 99) hx hb hfl hown (by decide +kernel) (by decide +kernel) (hts _ k_X5_waggonAt_95) (hts _ j_X5_waggonAt_95) (by decide +kernel) (w_X5_waggonAt_95 hts hEV) o_X5_waggonAt_95 hEV hZ hK hP hD hS (hl.1.trans hml.symm) dX5_waggonAt_29 dX5_waggonAt_32 dX5_waggonAt_33 dX5_waggonAt_35 dX5_waggonAt_38 hexc (Nat.le_of_ble_eq_true rfl) (Nat.le_of_ble_eq_true rfl) (Nat.le_of_ble_eq_true rfl) (Nat.le_of_ble_eq_true rfl) hlocks (⟨rfl, cif_f (fun h => h.1.elim h_1 (fun q => c_26 (ten_2 (by omega) q)))⟩)
