set_option maxRecDepth 20000 in
theorem in_X5_couple_X4 : ∀ w ∈ wsX40, w ∈ wsX5_couple := by decide +kernel
set_option maxRecDepth 20000 in
theorem in_X5_couple_X5 : ∀ w ∈ wsX50, w ∈ wsX5_couple := by decide +kernel
set_option maxRecDepth 20000 in
theorem k_X5_couple_55 : Cond.classLink RX5 55 "java/lang/IllegalStateException" ∈ wsX5_couple := by decide +kernel
set_option maxRecDepth 20000 in
theorem j_X5_couple_55 : Cond.initialized "java/lang/IllegalStateException" ∈ wsX5_couple := by decide +kernel
set_option maxRecDepth 20000 in
theorem v_X5_couple_55 : ∀ w ∈ (vx_atS RX5 59 "java/lang/IllegalStateException" xnames).filter goodWord, w ∈ wsX5_couple := by decide +kernel
theorem w_X5_couple_55 {s : State} {args : Array Value} (hts : ∀ w ∈ wsX5_couple, w.before args s = true) (hEV : EV s) : ∀ w ∈ vx_atS RX5 59 "java/lang/IllegalStateException" xnames, w.before args s = true := vx_hat (fun w h => hts w (v_X5_couple_55 w h)) (B := EVw) (by decide +kernel) (fun w h => va_Nw.use (EV.tab (s := s) w h) (hEV.1 w h))
theorem o_X5_couple_55 : ∀ w ∈ Cond.classLink RX5 55 "java/lang/IllegalStateException" :: Cond.initialized "java/lang/IllegalStateException" :: vx_atS RX5 59 "java/lang/IllegalStateException" xnames, vx_ot w = true := by decide +kernel
set_option maxHeartbeats 4000000 in
set_option maxRecDepth 100000 in
/-- Warpyard.couple -/
theorem c_X5_couple (l : Launch) (D : va_G) (cI cZ : ClassId) (a : Nat → Nat) (sz : Nat) (σ : St) (hfl : l.stackTraces = false) (t : Int32) (n : Nat) (hn : σ 3 0 = nI n) (hn4 : n ≤ 4) (nw : Nat) (Z : Nat → Nat) (J : Nat → Nat → Nat) (hnw : σ 19 0 = nI nw) (hnw8 : nw ≤ 8) (hQ : ∀ r, r < 6 → σ 21 r = nI (Z r) ∧ Z r ≤ 8) (hJ : ∀ r, r < 6 → ∀ p, p < Z r → σ 22 (r * 8 + p) = nI (J r p) ∧ J r p < 8) (hS8 : ∀ r r2, r < 6 → r2 < 6 → r ≠ r2 → Z r + Z r2 ≤ 8) : XI l yX5_couple wsX5_couple ({ frames := 8, cells := 1, slots := 6, locals := 132 }) D (ty2 cI cZ) (wX cI cZ a) [.ref (a 0), .int t] σ sz (fun r u => cdCo σ n Z J t = 0 ∧ u = (va_up (va_up σ 21 (upd (upd (σ 21) (sR (σ 4 t.toNatClampNeg)) (nI (Z (sR (σ 4 t.toNatClampNeg)) - 1))) (2 + t.toNatClampNeg) (nI (Z (2 + t.toNatClampNeg) + 1)))) 22 (upd (σ 22) ((2 + t.toNatClampNeg) * 8 + Z (2 + t.toNatClampNeg)) (nI (J (sR (σ 4 t.toNatClampNeg)) (Z (sR (σ 4 t.toNatClampNeg)) - 1))))) ∧ r = (nI (J (sR (σ 4 t.toNatClampNeg)) (Z (sR (σ 4 t.toNatClampNeg)) - 1)))) (xA (cdCo σ n Z J t)) := by
  refine XI.of (cc := cX5_couple) (maxL := 5) (by decide) rfl (Nat.le_of_ble_eq_true rfl) ?_
  intro p e s m args below meth c A H locs ls hx hb hr hml hown hts hlocks hexc hEV hZ hA hS hP hK hD hl
  have hl : lv_has ls 5 [(0, .ref (a 0)), (1, .int t)] := hl
  refine lv_aload_n hx hb dX5_couple_0 rfl (lv_at hl 0 rfl) ?_
  refine lv_iload_n hx hb dX5_couple_1 rfl (lv_at hl 1 rfl) ?_
  by_cases g_2 : tr n t
  · skip
    refine MV.callV (As := [.int t]) (rest := []) ⟨hx, hb, hml, hown, hts⟩ (c_X5_needTrain_ok l D cI cZ a H.size σ t n hn hn4 g_2) (cwV 1 hts gX5_couple_X5_needTrain rfl rfl rfl (by decide +kernel) ⟨Nat.le_of_ble_eq_true rfl, Nat.le_of_ble_eq_true rfl⟩) hP hK hD hS hA (va_recv hK hP (ci := 5) (q0 := 0) rfl rfl) rfl hl.1 (Nat.le_of_ble_eq_true rfl) (Nat.zero_le _) (Nat.zero_le _) dX5_couple_2 rfl (fun u_2 H locs h_2 hP hD hS => ?_)
    have e_2 := h_2
    have e_2 := Eq.symm e_2
    subst e_2
    obtain ⟨k, hk, rfl⟩ := id g_2
    refine lv_aload_n hx hb dX5_couple_5 rfl (lv_at hl 0 rfl) ?_
    refine lv_iload_n hx hb dX5_couple_6 rfl (lv_at hl 1 rfl) ?_
    by_cases g_7 : inR (σ 4 k) 6 7
    · skip
      refine MI.callV (As := [.int (nI k)]) (rest := []) ⟨hx, hb, hml, hown, hts⟩ (c_X5_sidingUnder_ok l D cI cZ a H.size σ k (by omega) g_7) (cwV 1 hts gX5_couple_X5_sidingUnder rfl rfl rfl (by decide +kernel) ⟨Nat.le_of_ble_eq_true rfl, Nat.le_of_ble_eq_true rfl⟩) hP hK hD hS hA (va_recv hK hP (ci := 5) (q0 := 0) rfl rfl) rfl hl.1 (Nat.le_of_ble_eq_true rfl) (Nat.zero_le _) (Nat.zero_le _) dX5_couple_7 rfl (fun r_7 u_7 H locs h_7 hP hD hS => ?_)
      obtain ⟨e_7, rfl⟩ := h_7
      have e_7 := Eq.symm e_7
      subst e_7
      refine MI.callS (As := [.int ((σ 4) k)]) (rest := []) ⟨hx, hb, hml, hown, hts⟩ (c_X4_rowOfSiding l D cI cZ a H.size σ ((σ 4) k)) (va_cwS 1 hts gX5_couple_X4_rowOfSiding rfl rfl rfl (by decide +kernel) ⟨Nat.le_of_ble_eq_true rfl, Nat.le_of_ble_eq_true rfl⟩) hP hK hD hS hA rfl hl.1 (Nat.le_of_ble_eq_true rfl) (Nat.zero_le _) (Nat.zero_le _) dX5_couple_10 rfl (fun r_10 u_10 H locs h_10 hP hD hS => ?_)
      obtain ⟨e_10, h_10⟩ := h_10
      have e_10 := Eq.symm e_10
      subst e_10
      refine lv_topi (fun v_13 e_13 => ?_)
      obtain rfl : v_13 = nI (sR (σ 4 k)) := by rw [e_13]; exact h_10.trans (sR_e g_7)
      refine lv_istore_n (lv' := [(2, .int (nI (sR (σ 4 k)))), (0, .ref (a 0)), (1, .int (nI k))]) hx hb dX5_couple_13 rfl hl (by decide) rfl (fun ls hl => ?_)
      refine lv_iload_n hx hb dX5_couple_14 rfl (lv_at hl 2 rfl) ?_
      refine MI.callS (As := [.int (nI k)]) (rest := []) ⟨hx, hb, hml, hown, hts⟩ (c_X4_rowOfTrain l D cI cZ a H.size σ (nI k)) (va_cwS 1 hts gX5_couple_X4_rowOfTrain rfl rfl rfl (by decide +kernel) ⟨Nat.le_of_ble_eq_true rfl, Nat.le_of_ble_eq_true rfl⟩) hP hK hD hS hA rfl hl.1 (Nat.le_of_ble_eq_true rfl) (Nat.zero_le _) (Nat.zero_le _) dX5_couple_15 rfl (fun r_15 u_15 H locs h_15 hP hD hS => ?_)
      obtain ⟨e_15, h_15⟩ := h_15
      have e_15 := Eq.symm e_15
      subst e_15
      refine lv_topi (fun v_18 e_18 => ?_)
      obtain rfl : v_18 = nI (2 + k) := by rw [e_18]; rw [h_15]; exact nI_add 2 k
      refine lv_istore_n (lv' := [(3, .int (nI (2 + k))), (2, .int (nI (sR (σ 4 k)))), (0, .ref (a 0)), (1, .int (nI k))]) hx hb dX5_couple_18 rfl hl (by decide) rfl (fun ls hl => ?_)
      refine lv_aload_n hx hb dX5_couple_19 rfl (lv_at hl 2 rfl) ?_
      refine va_get (D := D) (ci := 5) (v := .ref (a 19)) (C := RX5) (T := TX5) (N := 8) hx hb hts in_X5_couple_X5 hown hK hP 0 rfl rfl 4 (by decide) (hts (.fieldLink RX5 36 "Warpyard" "waggons" "LWarpyard$Waggons;") (by decide +kernel)) (fun _ h9 => h9) rfl dX5_couple_20 ?_
      refine lv_iload_n hx hb dX5_couple_23 rfl (lv_at hl 1 rfl) ?_
      refine MI.callV (As := [.int (nI (sR (σ 4 k)))]) (rest := []) ⟨hx, hb, hml, hown, hts⟩ (c_X4_lastOf l D cI cZ a H.size σ (sR (σ 4 k)) (Z (sR (σ 4 k))) (sR_6 g_7) (hQ (sR (σ 4 k)) (sR_6 g_7)).1 (hQ (sR (σ 4 k)) (sR_6 g_7)).2) (cwV 1 hts gX5_couple_X4_lastOf rfl rfl rfl (by decide +kernel) ⟨Nat.le_of_ble_eq_true rfl, Nat.le_of_ble_eq_true rfl⟩) hP hK hD hS hA (va_recv hK hP (ci := 4) (q0 := 19) rfl rfl) rfl hl.1 (Nat.le_of_ble_eq_true rfl) (Nat.zero_le _) (Nat.zero_le _) dX5_couple_24 rfl (fun r_24 u_24 H locs h_24 hP hD hS => ?_)
      obtain ⟨e_24, h_24⟩ := h_24
      have e_24 := Eq.symm e_24
      subst e_24
      have h_24 : r_24 = lst (σ 22) (sR (σ 4 k)) (Z (sR (σ 4 k))) := h_24
      refine lv_istore (lv' := [(4, .int r_24), (3, .int (nI (2 + k))), (2, .int (nI (sR (σ 4 k)))), (0, .ref (a 0)), (1, .int (nI k))]) hx hb dX5_couple_27 hl (by decide) rfl (fun ls hl => ?_)
      refine lv_iload hx hb dX5_couple_29 (lv_at hl 0 rfl) ?_
      refine lv_iconst (v := (-1)) hx hb dX5_couple_31 (by decide) ?_
      refine lv_icmp_ne (tgt := 45) hx hb dX5_couple_32 (by decide) (fun c_32 => ?_) (fun c_32 => ?_)
      · skip
        obtain ⟨y, ey, ev⟩ := lst_s h_24 c_32
        have ev := ev.trans (hJ (sR (σ 4 k)) (sR_6 g_7) y (by omega)).1
        subst ev
        refine lv_aload_n hx hb dX5_couple_45 rfl (lv_at hl 3 rfl) ?_
        refine va_get (D := D) (ci := 5) (v := .ref (a 19)) (C := RX5) (T := TX5) (N := 8) hx hb hts in_X5_couple_X5 hown hK hP 0 rfl rfl 4 (by decide) (hts (.fieldLink RX5 36 "Warpyard" "waggons" "LWarpyard$Waggons;") (by decide +kernel)) (fun _ h9 => h9) rfl dX5_couple_46 ?_
        refine lv_iload_n hx hb dX5_couple_49 rfl (lv_at hl 1 rfl) ?_
        refine MI.callV (As := [.int (nI (2 + k))]) (rest := []) ⟨hx, hb, hml, hown, hts⟩ (c_X4_weightOf l D cI cZ a H.size σ (2 + k) (Z (2 + k)) (by omega) (hQ (2 + k) (by omega)).1 (hQ (2 + k) (by omega)).2 (fun p hp => ⟨J (2 + k) p, (hJ (2 + k) (by omega) p hp).2, (hJ (2 + k) (by omega) p hp).1⟩)) (cwV 1 hts gX5_couple_X4_weightOf rfl rfl rfl (by decide +kernel) ⟨Nat.le_of_ble_eq_true rfl, Nat.le_of_ble_eq_true rfl⟩) hP hK hD hS hA (va_recv hK hP (ci := 4) (q0 := 19) rfl rfl) rfl hl.1 (Nat.le_of_ble_eq_true rfl) (Nat.zero_le _) (Nat.zero_le _) dX5_couple_50 rfl (fun r_50 u_50 H locs h_50 hP hD hS => ?_)
        obtain ⟨e_50, h_50⟩ := h_50
        have e_50 := Eq.symm e_50
        subst e_50
        have h_50 : r_50 = wsm (σ 20) (σ 22) (2 + k) (Z (2 + k)) := h_50
        rw [wsm_J (J := J (2 + k)) (fun p hp => hJ (2 + k) (by omega) p hp)] at h_50
        refine lv_aload_n hx hb dX5_couple_53 rfl (lv_at hl 3 rfl) ?_
        refine va_get (D := D) (ci := 5) (v := .ref (a 19)) (C := RX5) (T := TX5) (N := 8) hx hb hts in_X5_couple_X5 hown hK hP 0 rfl rfl 4 (by decide) (hts (.fieldLink RX5 36 "Warpyard" "waggons" "LWarpyard$Waggons;") (by decide +kernel)) (fun _ h9 => h9) rfl dX5_couple_54 ?_
        refine va_get (D := D) (ci := 4) (v := .ref (a 20)) (C := RX4) (T := TX4) (N := 4) hx hb hts in_X5_couple_X4 hown hK hP 19 rfl rfl 0 (by decide) (hts (.fieldLink RX5 194 "Warpyard$Waggons" "weight" "[I") (by decide +kernel)) (fun _ h9 => h9) rfl dX5_couple_57 ?_
        refine lv_iload hx hb dX5_couple_60 (lv_at hl 0 rfl) ?_
        refine na_iald hx hb hK hP 20 0 (f := (σ 20)) rfl rfl (J (sR (σ 4 k)) y) (hJ (sR (σ 4 k)) (sR_6 g_7) y (by omega)).2 (by decide) rfl dX5_couple_62 ?_
        refine lv_iadd hx hb dX5_couple_63 ?_
        refine lv_bipush (v := 100) hx hb dX5_couple_64 (by decide) ?_
        refine lv_icmp_le (tgt := 79) hx hb dX5_couple_66 (by decide) (fun c_66 => ?_) (fun c_66 => ?_)
        · skip
          refine lv_aload_n hx hb dX5_couple_79 rfl (lv_at hl 3 rfl) ?_
          refine va_get (D := D) (ci := 5) (v := .ref (a 19)) (C := RX5) (T := TX5) (N := 8) hx hb hts in_X5_couple_X5 hown hK hP 0 rfl rfl 4 (by decide) (hts (.fieldLink RX5 36 "Warpyard" "waggons" "LWarpyard$Waggons;") (by decide +kernel)) (fun _ h9 => h9) rfl dX5_couple_80 ?_
          refine lv_iload_n hx hb dX5_couple_83 rfl (lv_at hl 2 rfl) ?_
          refine lv_iload_n hx hb dX5_couple_84 rfl (lv_at hl 1 rfl) ?_
          refine MV.callV (As := [.int (nI (sR (σ 4 k))), .int (nI (2 + k))]) (rest := []) ⟨hx, hb, hml, hown, hts⟩ (c_X4_moveLast l D cI cZ a H.size σ (sR (σ 4 k)) y (2 + k) (Z (2 + k)) (J (sR (σ 4 k)) y) (sR_6 g_7) ((hQ (sR (σ 4 k)) (sR_6 g_7)).1.trans (by rw [ey])) (by have := (hQ (sR (σ 4 k)) (sR_6 g_7)).2; omega) (by omega) (by have := sR_2 g_7; omega) (hQ (2 + k) (by omega)).1 (by have := hS8 (sR (σ 4 k)) (2 + k) (sR_6 g_7) (by omega) (by have := sR_2 g_7; omega); omega) (hJ (sR (σ 4 k)) (sR_6 g_7) y (by omega)).2 (hJ (sR (σ 4 k)) (sR_6 g_7) y (by omega)).1) (cwV 2 hts gX5_couple_X4_moveLast rfl rfl rfl (by decide +kernel) ⟨Nat.le_of_ble_eq_true rfl, Nat.le_of_ble_eq_true rfl⟩) hP hK hD hS hA (va_recv hK hP (ci := 4) (q0 := 19) rfl rfl) rfl hl.1 (Nat.le_of_ble_eq_true rfl) (Nat.zero_le _) (Nat.zero_le _) dX5_couple_85 rfl (fun u_85 H locs h_85 hP hD hS => ?_)
          have e_85 := h_85
          have e_85 := Eq.symm e_85
          subst e_85
          have hP : va_P D vwCl (wX cI cZ a (va_up (va_up σ 21 (upd (upd (σ 21) (sR (σ 4 k)) (nI y)) (2 + k) (nI ((Z (2 + k)) + 1)))) 22 (upd (σ 22) ((2 + k) * 8 + (Z (2 + k))) (nI (J (sR (σ 4 k)) y))))) H := hP
          have hD : va_D A (wX cI cZ a (va_up (va_up σ 21 (upd (upd (σ 21) (sR (σ 4 k)) (nI y)) (2 + k) (nI ((Z (2 + k)) + 1)))) 22 (upd (σ 22) ((2 + k) * 8 + (Z (2 + k))) (nI (J (sR (σ 4 k)) y))))) := hD
          refine lv_iload hx hb dX5_couple_88 (lv_at hl 0 rfl) ?_
          exact XI.ret hx hb hr hlocks hK hP hD hS dX5_couple_90 (by rw [nI_clamp (show k < 2 ^ 31 by omega), ey, Nat.add_sub_cancel]; exact ⟨by rw [cdCo, cif_t g_2, nI_clamp (show k < 2 ^ 31 by omega), ey, Nat.add_sub_cancel, ← h_50, cif_t ⟨g_7, by omega, le_nlt.mp c_66⟩], rfl, rfl⟩)
        · skip
          exact X.throwS (cls := "java/lang/IllegalStateException") (text := "all would weigh too much") (names := xnames) (ik := 55) (is := 197) (ic := 59) hx hb hfl hown (by decide +kernel) (by decide +kernel) (hts _ k_X5_couple_55) (hts _ j_X5_couple_55) (by decide +kernel) (w_X5_couple_55 hts hEV) o_X5_couple_55 hEV hZ hK hP hD hS (hl.1.trans hml.symm) dX5_couple_69 dX5_couple_72 dX5_couple_73 dX5_couple_75 dX5_couple_78 hexc (Nat.le_of_ble_eq_true rfl) (Nat.le_of_ble_eq_true rfl) (Nat.le_of_ble_eq_true rfl) (Nat.le_of_ble_eq_true rfl) hlocks (Or.inr ⟨rfl, by rw [cdCo, cif_t g_2, nI_clamp (show k < 2 ^ 31 by omega), cif_f (fun h => c_66 (le_nlt.mpr (by have h9 := h.2.2; rw [ey, Nat.add_sub_cancel, ← h_50] at h9; exact h9)))]⟩)
      · skip
        exact X.throwS (cls := "java/lang/IllegalStateException") (text := "there is no waggon in the siding") (names := xnames) (ik := 55) (is := 189) (ic := 59) hx hb hfl hown (by decide +kernel) (by decide +kernel) (hts _ k_X5_couple_55) (hts _ j_X5_couple_55) (by decide +kernel) (w_X5_couple_55 hts hEV) o_X5_couple_55 hEV hZ hK hP hD hS (hl.1.trans hml.symm) dX5_couple_35 dX5_couple_38 dX5_couple_39 dX5_couple_41 dX5_couple_44 hexc (Nat.le_of_ble_eq_true rfl) (Nat.le_of_ble_eq_true rfl) (Nat.le_of_ble_eq_true rfl) (Nat.le_of_ble_eq_true rfl) hlocks (Or.inr ⟨rfl, by rw [cdCo, cif_t g_2, nI_clamp (show k < 2 ^ 31 by omega), cif_f (fun h => h.2.1 (lst_z (fun p hp => ⟨J (sR (σ 4 k)) p, (hJ (sR (σ 4 k)) (sR_6 g_7) p hp).2, (hJ (sR (σ 4 k)) (sR_6 g_7) p hp).1⟩) h_24 c_32))]⟩)
    · skip
      exact XI.outV (As := [.int (nI k)]) (rest := []) ⟨hx, hb, hml, hown, hts⟩ (c_X5_sidingUnder_bad l D cI cZ a H.size σ hfl k (by omega) g_7) (cwV 1 hts gX5_couple_X5_sidingUnder rfl rfl rfl (by decide +kernel) ⟨Nat.le_of_ble_eq_true rfl, Nat.le_of_ble_eq_true rfl⟩) hP hK hD hS hA hEV hZ (va_recv hK hP (ci := 5) (q0 := 0) rfl rfl) rfl hl.1 (Nat.le_of_ble_eq_true rfl) (Nat.le_of_ble_eq_true rfl) (Nat.le_of_ble_eq_true rfl) dX5_couple_7 rfl hlocks hexc (fun E hE => Or.inr ⟨hE, by rw [cdCo, cif_t g_2, nI_clamp (show k < 2 ^ 31 by omega), cif_f (fun h => g_7 h.1)]⟩)
  · skip
    exact XV.outV (As := [.int t]) (rest := []) ⟨hx, hb, hml, hown, hts⟩ (c_X5_needTrain_bad l D cI cZ a H.size σ hfl t n hn hn4 g_2) (cwV 1 hts gX5_couple_X5_needTrain rfl rfl rfl (by decide +kernel) ⟨Nat.le_of_ble_eq_true rfl, Nat.le_of_ble_eq_true rfl⟩) hP hK hD hS hA hEV hZ (va_recv hK hP (ci := 5) (q0 := 0) rfl rfl) rfl hl.1 (Nat.le_of_ble_eq_true rfl) (Nat.le_of_ble_eq_true rfl) (Nat.le_of_ble_eq_true rfl) dX5_couple_2 rfl hlocks hexc (fun E hE => Or.inl ⟨hE, by rw [cdCo, cif_f g_2]⟩)
set_option maxRecDepth 20000 in
theorem in_X5_leave_X5 : ∀ w ∈ wsX50, w ∈ wsX5_leave := by decide +kernel
set_option maxRecDepth 20000 in
theorem k_X5_leave_55 : Cond.classLink RX5 55 "java/lang/IllegalStateException" ∈ wsX5_leave := by decide +kernel
set_option maxRecDepth 20000 in
theorem j_X5_leave_55 : Cond.initialized "java/lang/IllegalStateException" ∈ wsX5_leave := by decide +kernel
set_option maxRecDepth 20000 in
theorem v_X5_leave_55 : ∀ w ∈ (vx_atS RX5 59 "java/lang/IllegalStateException" xnames).filter goodWord, w ∈ wsX5_leave := by decide +kernel
theorem w_X5_leave_55 {s : State} {args : Array Value} (hts : ∀ w ∈ wsX5_leave, w.before args s = true) (hEV : EV s) : ∀ w ∈ vx_atS RX5 59 "java/lang/IllegalStateException" xnames, w.before args s = true := vx_hat (fun w h => hts w (v_X5_leave_55 w h)) (B := EVw) (by decide +kernel) (fun w h => va_Nw.use (EV.tab (s := s) w h) (hEV.1 w h))
theorem o_X5_leave_55 : ∀ w ∈ Cond.classLink RX5 55 "java/lang/IllegalStateException" :: Cond.initialized "java/lang/IllegalStateException" :: vx_atS RX5 59 "java/lang/IllegalStateException" xnames, vx_ot w = true := by decide +kernel
set_option maxHeartbeats 4000000 in
set_option maxRecDepth 100000 in
/-- Warpyard.leave -/
theorem c_X5_leave (l : Launch) (D : va_G) (cI cZ : ClassId) (a : Nat → Nat) (sz : Nat) (σ : St) (hfl : l.stackTraces = false) (t : Int32) (n : Nat) (hn : σ 3 0 = nI n) (hn4 : n ≤ 4) (nw : Nat) (Z : Nat → Nat) (J : Nat → Nat → Nat) (hnw : σ 19 0 = nI nw) (hnw8 : nw ≤ 8) (hQ : ∀ r, r < 6 → σ 21 r = nI (Z r) ∧ Z r ≤ 8) (hJ : ∀ r, r < 6 → ∀ p, p < Z r → σ 22 (r * 8 + p) = nI (J r p) ∧ J r p < 8) (hS8 : ∀ r r2, r < 6 → r2 < 6 → r ≠ r2 → Z r + Z r2 ≤ 8) : XI l yX5_leave wsX5_leave ({ frames := 8, cells := 1, slots := 6, locals := 132 }) D (ty2 cI cZ) (wX cI cZ a) [.ref (a 0), .int t] σ sz (fun r u => cdLe σ n Z t = 0 ∧ ((σ 24 (J (2 + t.toNatClampNeg) (Z (2 + t.toNatClampNeg) - 1)) = σ 4 t.toNatClampNeg ∧ u = (va_up (va_up (va_up (va_up σ 1 (fun _ => σ 1 0 + pay (σ 26 (J (2 + t.toNatClampNeg) (Z (2 + t.toNatClampNeg) - 1))) (σ 25 (J (2 + t.toNatClampNeg) (Z (2 + t.toNatClampNeg) - 1))) (σ 0 0))) 21 (upd (upd (σ 21) (2 + t.toNatClampNeg) (nI (Z (2 + t.toNatClampNeg) - 1))) (sR (σ 4 t.toNatClampNeg)) (nI (Z (sR (σ 4 t.toNatClampNeg)) + 1)))) 22 (upd (σ 22) ((sR (σ 4 t.toNatClampNeg)) * 8 + Z (sR (σ 4 t.toNatClampNeg))) (nI (J (2 + t.toNatClampNeg) (Z (2 + t.toNatClampNeg) - 1))))) 24 (upd (σ 24) (J (2 + t.toNatClampNeg) (Z (2 + t.toNatClampNeg) - 1)) 0)) ∧ r = pay (σ 26 (J (2 + t.toNatClampNeg) (Z (2 + t.toNatClampNeg) - 1))) (σ 25 (J (2 + t.toNatClampNeg) (Z (2 + t.toNatClampNeg) - 1))) (σ 0 0)) ∨ (¬ σ 24 (J (2 + t.toNatClampNeg) (Z (2 + t.toNatClampNeg) - 1)) = σ 4 t.toNatClampNeg ∧ u = (va_up (va_up (va_up σ 1 (fun _ => σ 1 0 + 0)) 21 (upd (upd (σ 21) (2 + t.toNatClampNeg) (nI (Z (2 + t.toNatClampNeg) - 1))) (sR (σ 4 t.toNatClampNeg)) (nI (Z (sR (σ 4 t.toNatClampNeg)) + 1)))) 22 (upd (σ 22) ((sR (σ 4 t.toNatClampNeg)) * 8 + Z (sR (σ 4 t.toNatClampNeg))) (nI (J (2 + t.toNatClampNeg) (Z (2 + t.toNatClampNeg) - 1))))) ∧ r = 0))) (xA (cdLe σ n Z t)) := by
  refine XI.of (cc := cX5_leave) (maxL := 6) (by decide) rfl (Nat.le_of_ble_eq_true rfl) ?_
  intro p e s m args below meth c A H locs ls hx hb hr hml hown hts hlocks hexc hEV hZ hA hS hP hK hD hl
  have hl : lv_has ls 6 [(0, .ref (a 0)), (1, .int t)] := hl
  refine lv_aload_n hx hb dX5_leave_0 rfl (lv_at hl 0 rfl) ?_
  refine lv_iload_n hx hb dX5_leave_1 rfl (lv_at hl 1 rfl) ?_
  by_cases g_2 : tr n t
  · skip
    refine MV.callV (As := [.int t]) (rest := []) ⟨hx, hb, hml, hown, hts⟩ (c_X5_needTrain_ok l D cI cZ a H.size σ t n hn hn4 g_2) (cwV 1 hts gX5_leave_X5_needTrain rfl rfl rfl (by decide +kernel) ⟨Nat.le_of_ble_eq_true rfl, Nat.le_of_ble_eq_true rfl⟩) hP hK hD hS hA (va_recv hK hP (ci := 5) (q0 := 0) rfl rfl) rfl hl.1 (Nat.le_of_ble_eq_true rfl) (Nat.zero_le _) (Nat.zero_le _) dX5_leave_2 rfl (fun u_2 H locs h_2 hP hD hS => ?_)
    have e_2 := h_2
    have e_2 := Eq.symm e_2
    subst e_2
    obtain ⟨k, hk, rfl⟩ := id g_2
    refine lv_aload_n hx hb dX5_leave_5 rfl (lv_at hl 0 rfl) ?_
    refine lv_iload_n hx hb dX5_leave_6 rfl (lv_at hl 1 rfl) ?_
    by_cases g_7 : inR (σ 4 k) 6 7
    · skip
      refine MI.callV (As := [.int (nI k)]) (rest := []) ⟨hx, hb, hml, hown, hts⟩ (c_X5_sidingUnder_ok l D cI cZ a H.size σ k (by omega) g_7) (cwV 1 hts gX5_leave_X5_sidingUnder rfl rfl rfl (by decide +kernel) ⟨Nat.le_of_ble_eq_true rfl, Nat.le_of_ble_eq_true rfl⟩) hP hK hD hS hA (va_recv hK hP (ci := 5) (q0 := 0) rfl rfl) rfl hl.1 (Nat.le_of_ble_eq_true rfl) (Nat.zero_le _) (Nat.zero_le _) dX5_leave_7 rfl (fun r_7 u_7 H locs h_7 hP hD hS => ?_)
      obtain ⟨e_7, rfl⟩ := h_7
      have e_7 := Eq.symm e_7
      subst e_7
      refine lv_istore_n (lv' := [(2, .int ((σ 4) k)), (0, .ref (a 0)), (1, .int (nI k))]) hx hb dX5_leave_10 rfl hl (by decide) rfl (fun ls hl => ?_)
      refine lv_iload_n hx hb dX5_leave_11 rfl (lv_at hl 2 rfl) ?_
      refine MI.callS (As := [.int (nI k)]) (rest := []) ⟨hx, hb, hml, hown, hts⟩ (c_X4_rowOfTrain l D cI cZ a H.size σ (nI k)) (va_cwS 1 hts gX5_leave_X4_rowOfTrain rfl rfl rfl (by decide +kernel) ⟨Nat.le_of_ble_eq_true rfl, Nat.le_of_ble_eq_true rfl⟩) hP hK hD hS hA rfl hl.1 (Nat.le_of_ble_eq_true rfl) (Nat.zero_le _) (Nat.zero_le _) dX5_leave_12 rfl (fun r_12 u_12 H locs h_12 hP hD hS => ?_)
      obtain ⟨e_12, h_12⟩ := h_12
      have e_12 := Eq.symm e_12
      subst e_12
      refine lv_topi (fun v_15 e_15 => ?_)
      obtain rfl : v_15 = nI (2 + k) := by rw [e_15]; rw [h_12]; exact nI_add 2 k
      refine lv_istore_n (lv' := [(3, .int (nI (2 + k))), (2, .int ((σ 4) k)), (0, .ref (a 0)), (1, .int (nI k))]) hx hb dX5_leave_15 rfl hl (by decide) rfl (fun ls hl => ?_)
      refine lv_aload_n hx hb dX5_leave_16 rfl (lv_at hl 2 rfl) ?_
      refine va_get (D := D) (ci := 5) (v := .ref (a 19)) (C := RX5) (T := TX5) (N := 8) hx hb hts in_X5_leave_X5 hown hK hP 0 rfl rfl 4 (by decide) (hts (.fieldLink RX5 36 "Warpyard" "waggons" "LWarpyard$Waggons;") (by decide +kernel)) (fun _ h9 => h9) rfl dX5_leave_17 ?_
      refine lv_iload_n hx hb dX5_leave_20 rfl (lv_at hl 0 rfl) ?_
      refine MI.callV (As := [.int (nI (2 + k))]) (rest := []) ⟨hx, hb, hml, hown, hts⟩ (c_X4_lastOf l D cI cZ a H.size σ (2 + k) (Z (2 + k)) (by omega) (hQ (2 + k) (by omega)).1 (hQ (2 + k) (by omega)).2) (cwV 1 hts gX5_leave_X4_lastOf rfl rfl rfl (by decide +kernel) ⟨Nat.le_of_ble_eq_true rfl, Nat.le_of_ble_eq_true rfl⟩) hP hK hD hS hA (va_recv hK hP (ci := 4) (q0 := 19) rfl rfl) rfl hl.1 (Nat.le_of_ble_eq_true rfl) (Nat.zero_le _) (Nat.zero_le _) dX5_leave_21 rfl (fun r_21 u_21 H locs h_21 hP hD hS => ?_)
      obtain ⟨e_21, h_21⟩ := h_21
      have e_21 := Eq.symm e_21
      subst e_21
      have h_21 : r_21 = lst (σ 22) (2 + k) (Z (2 + k)) := h_21
      refine lv_istore (lv' := [(4, .int r_21), (3, .int (nI (2 + k))), (2, .int ((σ 4) k)), (0, .ref (a 0)), (1, .int (nI k))]) hx hb dX5_leave_24 hl (by decide) rfl (fun ls hl => ?_)
      refine lv_iload hx hb dX5_leave_26 (lv_at hl 0 rfl) ?_
      refine lv_iconst (v := (-1)) hx hb dX5_leave_28 (by decide) ?_
      refine lv_icmp_ne (tgt := 42) hx hb dX5_leave_29 (by decide) (fun c_29 => ?_) (fun c_29 => ?_)
      · skip
        obtain ⟨y, ey, ev⟩ := lst_s h_21 c_29
        have ev := ev.trans (hJ (2 + k) (by omega) y (by omega)).1
        subst ev
        refine lv_aload_n hx hb dX5_leave_42 rfl (lv_at hl 3 rfl) ?_
        refine lv_iload_n hx hb dX5_leave_43 rfl (lv_at hl 2 rfl) ?_
        by_cases g_44 : ¬ 4 ≤ Z (sR (σ 4 k))
        · skip
          refine MV.callV (As := [.int ((σ 4) k)]) (rest := []) ⟨hx, hb, hml, hown, hts⟩ (c_X5_needRoomIn_ok l D cI cZ a H.size σ ((σ 4) k) Z g_7 hQ g_44) (cwV 1 hts gX5_leave_X5_needRoomIn rfl rfl rfl (by decide +kernel) ⟨Nat.le_of_ble_eq_true rfl, Nat.le_of_ble_eq_true rfl⟩) hP hK hD hS hA (va_recv hK hP (ci := 5) (q0 := 0) rfl rfl) rfl hl.1 (Nat.le_of_ble_eq_true rfl) (Nat.zero_le _) (Nat.zero_le _) dX5_leave_44 rfl (fun u_44 H locs h_44 hP hD hS => ?_)
          have e_44 := h_44
          have e_44 := Eq.symm e_44
          subst e_44
          refine lv_aload_n hx hb dX5_leave_47 rfl (lv_at hl 3 rfl) ?_
          refine va_get (D := D) (ci := 5) (v := .ref (a 19)) (C := RX5) (T := TX5) (N := 8) hx hb hts in_X5_leave_X5 hown hK hP 0 rfl rfl 4 (by decide) (hts (.fieldLink RX5 36 "Warpyard" "waggons" "LWarpyard$Waggons;") (by decide +kernel)) (fun _ h9 => h9) rfl dX5_leave_48 ?_
          refine lv_iload_n hx hb dX5_leave_51 rfl (lv_at hl 1 rfl) ?_
          refine lv_iload_n hx hb dX5_leave_52 rfl (lv_at hl 2 rfl) ?_
          refine MI.callS (As := [.int ((σ 4) k)]) (rest := [.int (nI (2 + k)), .ref (a 19)]) ⟨hx, hb, hml, hown, hts⟩ (c_X4_rowOfSiding l D cI cZ a H.size σ ((σ 4) k)) (va_cwS 1 hts gX5_leave_X4_rowOfSiding rfl rfl rfl (by decide +kernel) ⟨Nat.le_of_ble_eq_true rfl, Nat.le_of_ble_eq_true rfl⟩) hP hK hD hS hA rfl hl.1 (Nat.le_of_ble_eq_true rfl) (Nat.zero_le _) (Nat.zero_le _) dX5_leave_53 rfl (fun r_53 u_53 H locs h_53 hP hD hS => ?_)
          obtain ⟨e_53, h_53⟩ := h_53
          have e_53 := Eq.symm e_53
          subst e_53
          refine lv_topi (fun v_56 e_56 => ?_)
          obtain rfl : v_56 = nI (sR (σ 4 k)) := by rw [e_56]; exact h_53.trans (sR_e g_7)
          refine MV.callV (As := [.int (nI (2 + k)), .int (nI (sR (σ 4 k)))]) (rest := []) ⟨hx, hb, hml, hown, hts⟩ (c_X4_moveLast l D cI cZ a H.size σ (2 + k) y (sR (σ 4 k)) (Z (sR (σ 4 k))) (J (2 + k) y) (by omega) ((hQ (2 + k) (by omega)).1.trans (by rw [ey])) (by have := (hQ (2 + k) (by omega)).2; omega) (sR_6 g_7) (by have := sR_2 g_7; omega) (hQ (sR (σ 4 k)) (sR_6 g_7)).1 (by omega) (hJ (2 + k) (by omega) y (by omega)).2 (hJ (2 + k) (by omega) y (by omega)).1) (cwV 2 hts gX5_leave_X4_moveLast rfl rfl rfl (by decide +kernel) ⟨Nat.le_of_ble_eq_true rfl, Nat.le_of_ble_eq_true rfl⟩) hP hK hD hS hA (va_recv hK hP (ci := 4) (q0 := 19) rfl rfl) rfl hl.1 (Nat.le_of_ble_eq_true rfl) (Nat.zero_le _) (Nat.zero_le _) dX5_leave_56 rfl (fun u_56 H locs h_56 hP hD hS => ?_)
          have e_56 := h_56
          have e_56 := Eq.symm e_56
          subst e_56
          have hP : va_P D vwCl (wX cI cZ a (va_up (va_up σ 21 (upd (upd (σ 21) (2 + k) (nI y)) (sR (σ 4 k)) (nI ((Z (sR (σ 4 k))) + 1)))) 22 (upd (σ 22) ((sR (σ 4 k)) * 8 + (Z (sR (σ 4 k)))) (nI (J (2 + k) y))))) H := hP
          have hD : va_D A (wX cI cZ a (va_up (va_up σ 21 (upd (upd (σ 21) (2 + k) (nI y)) (sR (σ 4 k)) (nI ((Z (sR (σ 4 k))) + 1)))) 22 (upd (σ 22) ((sR (σ 4 k)) * 8 + (Z (sR (σ 4 k)))) (nI (J (2 + k) y))))) := hD
          refine lv_aload_n hx hb dX5_leave_59 rfl (lv_at hl 3 rfl) ?_
          refine va_get (D := D) (ci := 5) (v := .ref (a 23)) (C := RX5) (T := TX5) (N := 8) hx hb hts in_X5_leave_X5 hown hK hP 0 rfl rfl 5 (by decide) (hts (.fieldLink RX5 43 "Warpyard" "offers" "LWarpyard$Offers;") (by decide +kernel)) (fun _ h9 => h9) rfl dX5_leave_60 ?_
          refine lv_iload hx hb dX5_leave_63 (lv_at hl 0 rfl) ?_
          refine lv_iload_n hx hb dX5_leave_65 rfl (lv_at hl 2 rfl) ?_
          refine lv_aload_n hx hb dX5_leave_66 rfl (lv_at hl 3 rfl) ?_
          refine va_get (D := D) (ci := 5) (v := .int (σ 0 0)) (C := RX5) (T := TX5) (N := 8) hx hb hts in_X5_leave_X5 hown hK hP 0 rfl rfl 6 (by decide) (hts (.fieldLink RX5 109 "Warpyard" "now" "I") (by decide +kernel)) (fun _ h9 => h9) rfl dX5_leave_67 ?_
          refine MI.callV (As := [.int (nI (J (2 + k) y)), .int ((σ 4) k), .int (σ 0 0)]) (rest := []) ⟨hx, hb, hml, hown, hts⟩ (c_X1_settle l D cI cZ a H.size (va_up (va_up σ 21 (upd (upd (σ 21) (2 + k) (nI y)) (sR (σ 4 k)) (nI ((Z (sR (σ 4 k))) + 1)))) 22 (upd (σ 22) ((sR (σ 4 k)) * 8 + (Z (sR (σ 4 k)))) (nI (J (2 + k) y)))) (J (2 + k) y) ((σ 4) k) (σ 0 0) (hJ (2 + k) (by omega) y (by omega)).2) (cwV 3 hts gX5_leave_X1_settle rfl rfl rfl (by decide +kernel) ⟨Nat.le_of_ble_eq_true rfl, Nat.le_of_ble_eq_true rfl⟩) hP hK hD hS hA (va_recv hK hP (ci := 1) (q0 := 23) rfl rfl) rfl hl.1 (Nat.le_of_ble_eq_true rfl) (Nat.zero_le _) (Nat.zero_le _) dX5_leave_70 rfl (fun r_70 u_70 H locs h_70 hP hD hS => ?_)
          rcases h_70 with ⟨h_70, e_70, rfl⟩ | ⟨h_70, e_70, rfl⟩
          · skip
            have e_70 := Eq.symm e_70
            subst e_70
            have hP : va_P D vwCl (wX cI cZ a (va_up (va_up (va_up σ 21 (upd (upd (σ 21) (2 + k) (nI y)) (sR (σ 4 k)) (nI ((Z (sR (σ 4 k))) + 1)))) 22 (upd (σ 22) ((sR (σ 4 k)) * 8 + (Z (sR (σ 4 k)))) (nI (J (2 + k) y)))) 24 (upd (σ 24) (J (2 + k) y) 0))) H := hP
            have hD : va_D A (wX cI cZ a (va_up (va_up (va_up σ 21 (upd (upd (σ 21) (2 + k) (nI y)) (sR (σ 4 k)) (nI ((Z (sR (σ 4 k))) + 1)))) 22 (upd (σ 22) ((sR (σ 4 k)) * 8 + (Z (sR (σ 4 k)))) (nI (J (2 + k) y)))) 24 (upd (σ 24) (J (2 + k) y) 0))) := hD
            have h_70 : (σ 24) (J (2 + k) y) = ((σ 4) k) := h_70
            refine lv_istore (lv' := [(5, .int (pay ((σ 26) (J (2 + k) y)) ((σ 25) (J (2 + k) y)) (σ 0 0))), (4, .int (nI (J (2 + k) y))), (3, .int (nI (2 + k))), (2, .int ((σ 4) k)), (0, .ref (a 0)), (1, .int (nI k))]) hx hb dX5_leave_73 hl (by decide) rfl (fun ls hl => ?_)
            refine lv_aload_n hx hb dX5_leave_75 rfl (lv_at hl 4 rfl) ?_
            refine lv_dup hx hb dX5_leave_76 rfl ?_
            refine va_get (D := D) (ci := 5) (v := .int (σ 1 0)) (C := RX5) (T := TX5) (N := 8) hx hb hts in_X5_leave_X5 hown hK hP 0 rfl rfl 7 (by decide) (hts (.fieldLink RX5 209 "Warpyard" "money" "I") (by decide +kernel)) (fun _ h9 => h9) rfl dX5_leave_77 ?_
            refine lv_iload hx hb dX5_leave_80 (lv_at hl 0 rfl) ?_
            refine lv_iadd hx hb dX5_leave_82 ?_
            refine va_put (D := D) (ci := 5) (v := .int ((σ 1 0) + (pay ((σ 26) (J (2 + k) y)) ((σ 25) (J (2 + k) y)) (σ 0 0)))) (ty := .int) (C := RX5) (T := TX5) (N := 8) hx hb hts in_X5_leave_X5 tyX5 tyX5_ok nmX5 hown hK hP hD hS 0 rfl rfl 7 (by decide) (hts (.fieldLink RX5 209 "Warpyard" "money" "I") (by decide +kernel)) (fun _ h9 => h9) rfl (by decide +kernel) rfl rfl (Nat.le_of_ble_eq_true rfl) dX5_leave_83 (fun H locs hP hD hS => ?_)
            have hP : va_P D vwCl (wX cI cZ a (va_up (va_up (va_up (va_up σ 1 (fun _ => (σ 1 0) + (pay ((σ 26) (J (2 + k) y)) ((σ 25) (J (2 + k) y)) (σ 0 0)))) 21 (upd (upd (σ 21) (2 + k) (nI y)) (sR (σ 4 k)) (nI ((Z (sR (σ 4 k))) + 1)))) 22 (upd (σ 22) ((sR (σ 4 k)) * 8 + (Z (sR (σ 4 k)))) (nI (J (2 + k) y)))) 24 (upd (σ 24) (J (2 + k) y) 0))) H := hP
            have hD : va_D A (wX cI cZ a (va_up (va_up (va_up (va_up σ 1 (fun _ => (σ 1 0) + (pay ((σ 26) (J (2 + k) y)) ((σ 25) (J (2 + k) y)) (σ 0 0)))) 21 (upd (upd (σ 21) (2 + k) (nI y)) (sR (σ 4 k)) (nI ((Z (sR (σ 4 k))) + 1)))) 22 (upd (σ 22) ((sR (σ 4 k)) * 8 + (Z (sR (σ 4 k)))) (nI (J (2 + k) y)))) 24 (upd (σ 24) (J (2 + k) y) 0))) := hD
            refine lv_iload hx hb dX5_leave_86 (lv_at hl 0 rfl) ?_
            exact XI.ret hx hb hr hlocks hK hP hD hS dX5_leave_88 (by rw [nI_clamp (show k < 2 ^ 31 by omega), ey, Nat.add_sub_cancel]; exact ⟨by rw [cdLe, cif_t g_2, nI_clamp (show k < 2 ^ 31 by omega), cif_t ⟨g_7, by omega, g_44⟩], Or.inl ⟨h_70, rfl, rfl⟩⟩)
          · skip
            have e_70 := Eq.symm e_70
            subst e_70
            have h_70 : ¬ (σ 24) (J (2 + k) y) = ((σ 4) k) := h_70
            refine lv_istore (lv' := [(5, .int 0), (4, .int (nI (J (2 + k) y))), (3, .int (nI (2 + k))), (2, .int ((σ 4) k)), (0, .ref (a 0)), (1, .int (nI k))]) hx hb dX5_leave_73 hl (by decide) rfl (fun ls hl => ?_)
            refine lv_aload_n hx hb dX5_leave_75 rfl (lv_at hl 4 rfl) ?_
            refine lv_dup hx hb dX5_leave_76 rfl ?_
            refine va_get (D := D) (ci := 5) (v := .int (σ 1 0)) (C := RX5) (T := TX5) (N := 8) hx hb hts in_X5_leave_X5 hown hK hP 0 rfl rfl 7 (by decide) (hts (.fieldLink RX5 209 "Warpyard" "money" "I") (by decide +kernel)) (fun _ h9 => h9) rfl dX5_leave_77 ?_
            refine lv_iload hx hb dX5_leave_80 (lv_at hl 0 rfl) ?_
            refine lv_iadd hx hb dX5_leave_82 ?_
            refine va_put (D := D) (ci := 5) (v := .int ((σ 1 0) + 0)) (ty := .int) (C := RX5) (T := TX5) (N := 8) hx hb hts in_X5_leave_X5 tyX5 tyX5_ok nmX5 hown hK hP hD hS 0 rfl rfl 7 (by decide) (hts (.fieldLink RX5 209 "Warpyard" "money" "I") (by decide +kernel)) (fun _ h9 => h9) rfl (by decide +kernel) rfl rfl (Nat.le_of_ble_eq_true rfl) dX5_leave_83 (fun H locs hP hD hS => ?_)
            have hP : va_P D vwCl (wX cI cZ a (va_up (va_up (va_up σ 1 (fun _ => (σ 1 0) + 0)) 21 (upd (upd (σ 21) (2 + k) (nI y)) (sR (σ 4 k)) (nI ((Z (sR (σ 4 k))) + 1)))) 22 (upd (σ 22) ((sR (σ 4 k)) * 8 + (Z (sR (σ 4 k)))) (nI (J (2 + k) y))))) H := hP
            have hD : va_D A (wX cI cZ a (va_up (va_up (va_up σ 1 (fun _ => (σ 1 0) + 0)) 21 (upd (upd (σ 21) (2 + k) (nI y)) (sR (σ 4 k)) (nI ((Z (sR (σ 4 k))) + 1)))) 22 (upd (σ 22) ((sR (σ 4 k)) * 8 + (Z (sR (σ 4 k)))) (nI (J (2 + k) y))))) := hD
            refine lv_iload hx hb dX5_leave_86 (lv_at hl 0 rfl) ?_
            exact XI.ret hx hb hr hlocks hK hP hD hS dX5_leave_88 (by rw [nI_clamp (show k < 2 ^ 31 by omega), ey, Nat.add_sub_cancel]; exact ⟨by rw [cdLe, cif_t g_2, nI_clamp (show k < 2 ^ 31 by omega), cif_t ⟨g_7, by omega, g_44⟩], Or.inr ⟨h_70, rfl, rfl⟩⟩)
        · skip
          exact XV.outV (As := [.int ((σ 4) k)]) (rest := []) ⟨hx, hb, hml, hown, hts⟩ (c_X5_needRoomIn_bad l D cI cZ a H.size σ hfl ((σ 4) k) Z g_7 hQ g_44) (cwV 1 hts gX5_leave_X5_needRoomIn rfl rfl rfl (by decide +kernel) ⟨Nat.le_of_ble_eq_true rfl, Nat.le_of_ble_eq_true rfl⟩) hP hK hD hS hA hEV hZ (va_recv hK hP (ci := 5) (q0 := 0) rfl rfl) rfl hl.1 (Nat.le_of_ble_eq_true rfl) (Nat.le_of_ble_eq_true rfl) (Nat.le_of_ble_eq_true rfl) dX5_leave_44 rfl hlocks hexc (fun E hE => Or.inr ⟨hE, by rw [cdLe, cif_t g_2, nI_clamp (show k < 2 ^ 31 by omega), cif_f (fun h => g_44 h.2.2)]⟩)
      · skip
        exact X.throwS (cls := "java/lang/IllegalStateException") (text := "the train has no waggon") (names := xnames) (ik := 55) (is := 203) (ic := 59) hx hb hfl hown (by decide +kernel) (by decide +kernel) (hts _ k_X5_leave_55) (hts _ j_X5_leave_55) (by decide +kernel) (w_X5_leave_55 hts hEV) o_X5_leave_55 hEV hZ hK hP hD hS (hl.1.trans hml.symm) dX5_leave_32 dX5_leave_35 dX5_leave_36 dX5_leave_38 dX5_leave_41 hexc (Nat.le_of_ble_eq_true rfl) (Nat.le_of_ble_eq_true rfl) (Nat.le_of_ble_eq_true rfl) (Nat.le_of_ble_eq_true rfl) hlocks (Or.inr ⟨rfl, by rw [cdLe, cif_t g_2, nI_clamp (show k < 2 ^ 31 by omega), cif_f (fun h => h.2.1 (lst_z (fun p hp => ⟨J (2 + k) p, (hJ (2 + k) (by omega) p hp).2, (hJ (2 + k) (by omega) p hp).1⟩) h_21 c_29))]⟩)
    · skip
      exact XI.outV (As := [.int (nI k)]) (rest := []) ⟨hx, hb, hml, hown, hts⟩ (c_X5_sidingUnder_bad l D cI cZ a H.size σ hfl k (by omega) g_7) (cwV 1 hts gX5_leave_X5_sidingUnder rfl rfl rfl (by decide +kernel) ⟨Nat.le_of_ble_eq_true rfl, Nat.le_of_ble_eq_true rfl⟩) hP hK hD hS hA hEV hZ (va_recv hK hP (ci := 5) (q0 := 0) rfl rfl) rfl hl.1 (Nat.le_of_ble_eq_true rfl) (Nat.le_of_ble_eq_true rfl) (Nat.le_of_ble_eq_true rfl) dX5_leave_7 rfl hlocks hexc (fun E hE => Or.inr ⟨hE, by rw [cdLe, cif_t g_2, nI_clamp (show k < 2 ^ 31 by omega), cif_f (fun h => g_7 h.1)]⟩)
  · skip
    exact XV.outV (As := [.int t]) (rest := []) ⟨hx, hb, hml, hown, hts⟩ (c_X5_needTrain_bad l D cI cZ a H.size σ hfl t n hn hn4 g_2) (cwV 1 hts gX5_leave_X5_needTrain rfl rfl rfl (by decide +kernel) ⟨Nat.le_of_ble_eq_true rfl, Nat.le_of_ble_eq_true rfl⟩) hP hK hD hS hA hEV hZ (va_recv hK hP (ci := 5) (q0 := 0) rfl rfl) rfl hl.1 (Nat.le_of_ble_eq_true rfl) (Nat.le_of_ble_eq_true rfl) (Nat.le_of_ble_eq_true rfl) dX5_leave_2 rfl hlocks hexc (fun E hE => Or.inl ⟨hE, by rw [cdLe, cif_f g_2]⟩)
set_option maxRecDepth 20000 in
theorem in_X5_waggonAt_X3 : ∀ w ∈ wsX30, w ∈ wsX5_waggonAt := by decide +kernel
set_option maxRecDepth 20000 in
theorem in_X5_waggonAt_X5 : ∀ w ∈ wsX50, w ∈ wsX5_waggonAt := by decide +kernel
set_option maxRecDepth 20000 in
theorem k_X5_waggonAt_95 : Cond.classLink RX5 95 "java/lang/IndexOutOfBoundsException" ∈ wsX5_waggonAt := by decide +kernel
set_option maxRecDepth 20000 in
theorem j_X5_waggonAt_95 : Cond.initialized "java/lang/IndexOutOfBoundsException" ∈ wsX5_waggonAt := by decide +kernel
set_option maxRecDepth 20000 in
theorem v_X5_waggonAt_95 : ∀ w ∈ (vx_atS RX5 99 "java/lang/IndexOutOfBoundsException" xnames).filter goodWord, w ∈ wsX5_waggonAt := by decide +kernel
theorem w_X5_waggonAt_95 {s : State} {args : Array Value} (hts : ∀ w ∈ wsX5_waggonAt, w.before args s = true) (hEV : EV s) : ∀ w ∈ vx_atS RX5 99 "java/lang/IndexOutOfBoundsException" xnames, w.before args s = true := vx_hat (fun w h => hts w (v_X5_waggonAt_95 w h)) (B := EVw) (by decide +kernel) (fun w h => va_Nw.use (EV.tab (s := s) w h) (hEV.1 w h))
theorem o_X5_waggonAt_95 : ∀ w ∈ Cond.classLink RX5 95 "java/lang/IndexOutOfBoundsException" :: Cond.initialized "java/lang/IndexOutOfBoundsException" :: vx_atS RX5 99 "java/lang/IndexOutOfBoundsException" xnames, vx_ot w = true := by decide +kernel
set_option maxHeartbeats 4000000 in
set_option maxRecDepth 100000 in
/-- Warpyard.waggonAt -/
theorem c_X5_waggonAt (l : Launch) (D : va_G) (cI cZ : ClassId) (a : Nat → Nat) (sz : Nat) (σ : St) (hfl : l.stackTraces = false) (w pl : Int32) (n : Nat) (hn : σ 3 0 = nI n) (hn4 : n ≤ 4) (nw : Nat) (Z : Nat → Nat) (J : Nat → Nat → Nat) (hnw : σ 19 0 = nI nw) (hnw8 : nw ≤ 8) (hQ : ∀ r, r < 6 → σ 21 r = nI (Z r) ∧ Z r ≤ 8) (hJ : ∀ r, r < 6 → ∀ p, p < Z r → σ 22 (r * 8 + p) = nI (J r p) ∧ J r p < 8) : XI l yX5_waggonAt wsX5_waggonAt ({ frames := 7, cells := 1, slots := 6, locals := 110 }) D (ty2 cI cZ) (wX cI cZ a) [.ref (a 0), .int w, .int pl] σ sz (fun r u => cdAt n w pl = 0 ∧ u = σ ∧ r = waJ Z J w pl) (x1 (cdAt n w pl)) := by
  refine XI.of (cc := cX5_waggonAt) (maxL := 4) (by decide) rfl (Nat.le_of_ble_eq_true rfl) ?_
  intro p e s m args below meth c A H locs ls hx hb hr hml hown hts hlocks hexc hEV hZ hA hS hP hK hD hl
  have hl : lv_has ls 4 [(0, .ref (a 0)), (1, .int w), (2, .int pl)] := hl
  refine lv_iload_n hx hb dX5_waggonAt_0 rfl (lv_at hl 1 rfl) ?_
  refine MI.callS (As := [.int w]) (rest := []) ⟨hx, hb, hml, hown, hts⟩ (c_X5_isSiding l D cI cZ a H.size σ w) (va_cwS 1 hts gX5_waggonAt_X5_isSiding rfl rfl rfl (by decide +kernel) ⟨Nat.le_of_ble_eq_true rfl, Nat.le_of_ble_eq_true rfl⟩) hP hK hD hS hA rfl hl.1 (Nat.le_of_ble_eq_true rfl) (Nat.zero_le _) (Nat.zero_le _) dX5_waggonAt_1 rfl (fun r_1 u_1 H locs h_1 hP hD hS => ?_)
  rcases h_1 with ⟨e_1, ⟨rfl, h_1⟩ | ⟨rfl, h_1⟩⟩
  · skip
    have e_1 := Eq.symm e_1
    subst e_1
    have h_1 : inR w 6 7 := h_1
    refine lv_istore_n (lv' := [(3, .int 1), (0, .ref (a 0)), (1, .int w), (2, .int pl)]) hx hb dX5_waggonAt_4 rfl hl (by decide) rfl (fun ls hl => ?_)
    refine lv_iload_n hx hb dX5_waggonAt_5 rfl (lv_at hl 0 rfl) ?_
    refine lv_if_ne (tgt := 39) hx hb dX5_waggonAt_6 (by decide) (fun _ => ?_) (fun c9 => absurd c9 (by decide))
    refine lv_iload_n hx hb dX5_waggonAt_39 rfl (lv_at hl 3 rfl) ?_
    refine lv_if_ge (tgt := 53) hx hb dX5_waggonAt_40 (by decide) (fun c_40 => ?_) (fun c_40 => ?_)
    · skip
      refine lv_iload_n hx hb dX5_waggonAt_53 rfl (lv_at hl 0 rfl) ?_
      refine lv_if_eq (tgt := 70) hx hb dX5_waggonAt_54 (by decide) (fun c9 => absurd c9 (by decide)) (fun _ => ?_)
      refine lv_aload_n hx hb dX5_waggonAt_57 rfl (lv_at hl 1 rfl) ?_
      refine va_get (D := D) (ci := 5) (v := .ref (a 19)) (C := RX5) (T := TX5) (N := 8) hx hb hts in_X5_waggonAt_X5 hown hK hP 0 rfl rfl 4 (by decide) (hts (.fieldLink RX5 36 "Warpyard" "waggons" "LWarpyard$Waggons;") (by decide +kernel)) (fun _ h9 => h9) rfl dX5_waggonAt_58 ?_
      refine lv_iload_n hx hb dX5_waggonAt_61 rfl (lv_at hl 2 rfl) ?_
      refine MI.callS (As := [.int w]) (rest := [.ref (a 19)]) ⟨hx, hb, hml, hown, hts⟩ (c_X4_rowOfSiding l D cI cZ a H.size σ w) (va_cwS 1 hts gX5_waggonAt_X4_rowOfSiding rfl rfl rfl (by decide +kernel) ⟨Nat.le_of_ble_eq_true rfl, Nat.le_of_ble_eq_true rfl⟩) hP hK hD hS hA rfl hl.1 (Nat.le_of_ble_eq_true rfl) (Nat.zero_le _) (Nat.zero_le _) dX5_waggonAt_62 rfl (fun r_62 u_62 H locs h_62 hP hD hS => ?_)
      obtain ⟨e_62, h_62⟩ := h_62
      have e_62 := Eq.symm e_62
      subst e_62
      refine lv_topi (fun v_65 e_65 => ?_)
      obtain rfl : v_65 = nI (sR w) := by rw [e_65]; exact h_62.trans (sR_e h_1)
      refine lv_iload_n hx hb dX5_waggonAt_65 rfl (lv_at hl 3 rfl) ?_
      refine MI.callV (As := [.int (nI (sR w)), .int pl]) (rest := []) ⟨hx, hb, hml, hown, hts⟩ (c_X4_fromLast l D cI cZ a H.size σ (sR w) (Z (sR w)) pl (sR_6 h_1) (hQ (sR w) (sR_6 h_1)).1 (hQ (sR w) (sR_6 h_1)).2 (le_nlt.mp c_40)) (cwV 2 hts gX5_waggonAt_X4_fromLast rfl rfl rfl (by decide +kernel) ⟨Nat.le_of_ble_eq_true rfl, Nat.le_of_ble_eq_true rfl⟩) hP hK hD hS hA (va_recv hK hP (ci := 4) (q0 := 19) rfl rfl) rfl hl.1 (Nat.le_of_ble_eq_true rfl) (Nat.zero_le _) (Nat.zero_le _) dX5_waggonAt_66 rfl (fun r_66 u_66 H locs h_66 hP hD hS => ?_)
      obtain ⟨e_66, h_66⟩ := h_66
      have e_66 := Eq.symm e_66
      subst e_66
      have h_66 : r_66 = fLa (σ 22) (sR w) (Z (sR w)) pl := h_66
      exact XI.ret hx hb hr hlocks hK hP hD hS dX5_waggonAt_69 (by exact ⟨cif_t ⟨Or.inl h_1, le_nlt.mp c_40⟩, rfl, by rw [waJ, cif_t h_1, h_66]; exact fLa_J (le_nlt.mp c_40) (by have := (hQ (sR w) (sR_6 h_1)).2; omega) (fun p hp => (hJ (sR w) (sR_6 h_1) p hp).1)⟩)
    · skip
      exact X.throwS (cls := "java/lang/IndexOutOfBoundsException") (text := "place is below 0") (names := xnames) (ik := 95) (is := 217) (ic := 99) hx hb hfl hown (by decide +kernel) (by decide +kernel) (hts _ k_X5_waggonAt_95) (hts _ j_X5_waggonAt_95) (by decide +kernel) (w_X5_waggonAt_95 hts hEV) o_X5_waggonAt_95 hEV hZ hK hP hD hS (hl.1.trans hml.symm) dX5_waggonAt_43 dX5_waggonAt_46 dX5_waggonAt_47 dX5_waggonAt_49 dX5_waggonAt_52 hexc (Nat.le_of_ble_eq_true rfl) (Nat.le_of_ble_eq_true rfl) (Nat.le_of_ble_eq_true rfl) (Nat.le_of_ble_eq_true rfl) hlocks (⟨rfl, cif_f (fun h => c_40 (le_nlt.mpr h.2))⟩)
  · skip
    have e_1 := Eq.symm e_1
    subst e_1
    have h_1 : ¬ inR w 6 7 := h_1
    refine lv_istore_n (lv' := [(3, .int 0), (0, .ref (a 0)), (1, .int w), (2, .int pl)]) hx hb dX5_waggonAt_4 rfl hl (by decide) rfl (fun ls hl => ?_)
    refine lv_iload_n hx hb dX5_waggonAt_5 rfl (lv_at hl 0 rfl) ?_
    refine lv_if_ne (tgt := 39) hx hb dX5_waggonAt_6 (by decide) (fun c9 => absurd (by decide) c9) (fun _ => ?_)
    refine lv_iload_n hx hb dX5_waggonAt_9 rfl (lv_at hl 2 rfl) ?_
    refine lv_bipush (v := 10) hx hb dX5_waggonAt_10 (by decide) ?_
    refine lv_icmp_lt (tgt := 29) hx hb dX5_waggonAt_12 (by decide) (fun c_12 => ?_) (fun c_12 => ?_)
    · skip
      exact X.throwS (cls := "java/lang/IndexOutOfBoundsException") (text := "no such siding or train") (names := xnames) (ik := 95) (is := 215) (ic := 99) hx hb hfl hown (by decide +kernel) (by decide +kernel) (hts _ k_X5_waggonAt_95) (hts _ j_X5_waggonAt_95) (by decide +kernel) (w_X5_waggonAt_95 hts hEV) o_X5_waggonAt_95 hEV hZ hK hP hD hS (hl.1.trans hml.symm) dX5_waggonAt_29 dX5_waggonAt_32 dX5_waggonAt_33 dX5_waggonAt_35 dX5_waggonAt_38 hexc (Nat.le_of_ble_eq_true rfl) (Nat.le_of_ble_eq_true rfl) (Nat.le_of_ble_eq_true rfl) (Nat.le_of_ble_eq_true rfl) hlocks (⟨rfl, cif_f (fun h => h.1.elim h_1 (fun q => ten_1 (by omega) q c_12))⟩)
    · skip
      refine lv_iload_n hx hb dX5_waggonAt_15 rfl (lv_at hl 2 rfl) ?_
      refine lv_bipush (v := 10) hx hb dX5_waggonAt_16 (by decide) ?_
      refine lv_aload_n hx hb dX5_waggonAt_18 rfl (lv_at hl 1 rfl) ?_
      refine va_get (D := D) (ci := 5) (v := .ref (a 3)) (C := RX5) (T := TX5) (N := 8) hx hb hts in_X5_waggonAt_X5 hown hK hP 0 rfl rfl 1 (by decide) (hts (.fieldLink RX5 19 "Warpyard" "trains" "LWarpyard$Trains;") (by decide +kernel)) (fun _ h9 => h9) rfl dX5_waggonAt_19 ?_
      refine va_get (D := D) (ci := 3) (v := .int (σ 3 0)) (C := RX3) (T := TX3) (N := 5) hx hb hts in_X5_waggonAt_X3 hown hK hP 3 rfl rfl 4 (by decide) (hts (.fieldLink RX5 51 "Warpyard$Trains" "count" "I") (by decide +kernel)) (fun _ h9 => h9) rfl dX5_waggonAt_22 ?_
      refine lv_topi (fun v_25 e_25 => ?_)
      obtain rfl : v_25 = nI n := by rw [e_25]; exact hn
      refine lv_iadd hx hb dX5_waggonAt_25 ?_
      refine lv_topi (fun v_26 e_26 => ?_)
      obtain rfl : v_26 = nI (10 + n) := by rw [e_26]; exact nI_add 10 n
      refine lv_icmp_lt (tgt := 39) hx hb dX5_waggonAt_26 (by decide) (fun c_26 => ?_) (fun c_26 => ?_)
      · skip
        refine lv_iload_n hx hb dX5_waggonAt_39 rfl (lv_at hl 3 rfl) ?_
        refine lv_if_ge (tgt := 53) hx hb dX5_waggonAt_40 (by decide) (fun c_40 => ?_) (fun c_40 => ?_)
        · skip
          refine lv_iload_n hx hb dX5_waggonAt_53 rfl (lv_at hl 0 rfl) ?_
          refine lv_if_eq (tgt := 70) hx hb dX5_waggonAt_54 (by decide) (fun _ => ?_) (fun c9 => absurd (by decide) c9)
          refine lv_aload_n hx hb dX5_waggonAt_70 rfl (lv_at hl 1 rfl) ?_
          refine va_get (D := D) (ci := 5) (v := .ref (a 19)) (C := RX5) (T := TX5) (N := 8) hx hb hts in_X5_waggonAt_X5 hown hK hP 0 rfl rfl 4 (by decide) (hts (.fieldLink RX5 36 "Warpyard" "waggons" "LWarpyard$Waggons;") (by decide +kernel)) (fun _ h9 => h9) rfl dX5_waggonAt_71 ?_
          refine lv_iload_n hx hb dX5_waggonAt_74 rfl (lv_at hl 2 rfl) ?_
          refine lv_bipush (v := 10) hx hb dX5_waggonAt_75 (by decide) ?_
          refine lv_isub hx hb dX5_waggonAt_77 ?_
          obtain ⟨k, hk, ek⟩ := ten_tr (by omega) c_12 c_26
          refine lv_topi (fun v_78 e_78 => ?_)
          obtain rfl : v_78 = nI k := by rw [e_78]; exact ek
          refine MI.callS (As := [.int (nI k)]) (rest := [.ref (a 19)]) ⟨hx, hb, hml, hown, hts⟩ (c_X4_rowOfTrain l D cI cZ a H.size σ (nI k)) (va_cwS 1 hts gX5_waggonAt_X4_rowOfTrain rfl rfl rfl (by decide +kernel) ⟨Nat.le_of_ble_eq_true rfl, Nat.le_of_ble_eq_true rfl⟩) hP hK hD hS hA rfl hl.1 (Nat.le_of_ble_eq_true rfl) (Nat.zero_le _) (Nat.zero_le _) dX5_waggonAt_78 rfl (fun r_78 u_78 H locs h_78 hP hD hS => ?_)
          obtain ⟨e_78, h_78⟩ := h_78
          have e_78 := Eq.symm e_78
          subst e_78
          refine lv_topi (fun v_81 e_81 => ?_)
          obtain rfl : v_81 = nI (2 + k) := by rw [e_81]; rw [h_78]; exact nI_add 2 k
          refine lv_iload_n hx hb dX5_waggonAt_81 rfl (lv_at hl 3 rfl) ?_
          refine MI.callV (As := [.int (nI (2 + k)), .int pl]) (rest := []) ⟨hx, hb, hml, hown, hts⟩ (c_X4_fromFirst l D cI cZ a H.size σ (2 + k) (Z (2 + k)) pl (by omega) (hQ (2 + k) (by omega)).1 (hQ (2 + k) (by omega)).2 (le_nlt.mp c_40)) (cwV 2 hts gX5_waggonAt_X4_fromFirst rfl rfl rfl (by decide +kernel) ⟨Nat.le_of_ble_eq_true rfl, Nat.le_of_ble_eq_true rfl⟩) hP hK hD hS hA (va_recv hK hP (ci := 4) (q0 := 19) rfl rfl) rfl hl.1 (Nat.le_of_ble_eq_true rfl) (Nat.zero_le _) (Nat.zero_le _) dX5_waggonAt_82 rfl (fun r_82 u_82 H locs h_82 hP hD hS => ?_)
          obtain ⟨e_82, h_82⟩ := h_82
          have e_82 := Eq.symm e_82
          subst e_82
          have h_82 : r_82 = fFi (σ 22) (2 + k) (Z (2 + k)) pl := h_82
          exact XI.ret hx hb hr hlocks hK hP hD hS dX5_waggonAt_85 (by exact ⟨cif_t ⟨Or.inr ⟨k, hk, ek⟩, le_nlt.mp c_40⟩, rfl, by rw [waJ, cif_f h_1, ek, nI_clamp (show k < 2 ^ 31 by omega), h_82]; exact fFi_J (le_nlt.mp c_40) (by have := (hQ (2 + k) (by omega)).2; omega) (fun p hp => (hJ (2 + k) (by omega) p hp).1)⟩)
        · skip
          exact X.throwS (cls := "java/lang/IndexOutOfBoundsException") (text := "place is below 0") (names := xnames) (ik := 95) (is := 217) (ic := 99) hx hb hfl hown (by decide +kernel) (by decide +kernel) (hts _ k_X5_waggonAt_95) (hts _ j_X5_waggonAt_95) (by decide +kernel) (w_X5_waggonAt_95 hts hEV) o_X5_waggonAt_95 hEV hZ hK hP hD hS (hl.1.trans hml.symm) dX5_waggonAt_43 dX5_waggonAt_46 dX5_waggonAt_47 dX5_waggonAt_49 dX5_waggonAt_52 hexc (Nat.le_of_ble_eq_true rfl) (Nat.le_of_ble_eq_true rfl) (Nat.le_of_ble_eq_true rfl) (Nat.le_of_ble_eq_true rfl) hlocks (⟨rfl, cif_f (fun h => c_40 (le_nlt.mpr h.2))⟩)
      · skip
        exact X.throwS (cls := "java/lang/IndexOutOfBoundsException") (text := "no such siding or train") (names := xnames) (ik := 95) (is := 215) (ic := 99) hx hb hfl hown (by decide +kernel) (by decide +kernel) (hts _ k_X5_waggonAt_95) (hts _ j_X5_waggonAt_95) (by decide +kernel) (w_X5_waggonAt_95 hts hEV) o_X5_waggonAt_95 hEV hZ hK hP hD hS (hl.1.trans hml.symm) dX5_waggonAt_29 dX5_waggonAt_32 dX5_waggonAt_33 dX5_waggonAt_35 dX5_waggonAt_38 hexc (Nat.le_of_ble_eq_true rfl) (Nat.le_of_ble_eq_true rfl) (Nat.le_of_ble_eq_true rfl) (Nat.le_of_ble_eq_true rfl) hlocks (⟨rfl, cif_f (fun h => h.1.elim h_1 (fun q => c_26 (ten_2 (by omega) q)))⟩)
