set_option maxRecDepth 20000 in
theorem in_X5_addTrain_X3 : ∀ w ∈ wsX30, w ∈ wsX5_addTrain := by decide +kernel
set_option maxRecDepth 20000 in
theorem in_X5_addTrain_X5 : ∀ w ∈ wsX50, w ∈ wsX5_addTrain := by decide +kernel
set_option maxRecDepth 20000 in
theorem k_X5_addTrain_55 : Cond.classLink RX5 55 "java/lang/IllegalStateException" ∈ wsX5_addTrain := by decide +kernel
set_option maxRecDepth 20000 in
theorem j_X5_addTrain_55 : Cond.initialized "java/lang/IllegalStateException" ∈ wsX5_addTrain := by decide +kernel
set_option maxRecDepth 20000 in
theorem v_X5_addTrain_55 : ∀ w ∈ (vx_atS RX5 59 "java/lang/IllegalStateException" xnames).filter goodWord, w ∈ wsX5_addTrain := by decide +kernel
theorem w_X5_addTrain_55 {s : State} {args : Array Value} (hts : ∀ w ∈ wsX5_addTrain, w.before args s = true) (hEV : EV s) : ∀ w ∈ vx_atS RX5 59 "java/lang/IllegalStateException" xnames, w.before args s = true := vx_hat (fun w h => hts w (v_X5_addTrain_55 w h)) (B := EVw) (by decide +kernel) (fun w h => va_Nw.use (EV.tab (s := s) w h) (hEV.1 w h))
theorem o_X5_addTrain_55 : ∀ w ∈ Cond.classLink RX5 55 "java/lang/IllegalStateException" :: Cond.initialized "java/lang/IllegalStateException" :: vx_atS RX5 59 "java/lang/IllegalStateException" xnames, vx_ot w = true := by decide +kernel
set_option maxHeartbeats 4000000 in
set_option maxRecDepth 100000 in
/-- Warpyard.addTrain -/
theorem c_X5_addTrain (l : Launch) (D : va_G) (cI cZ : ClassId) (a : Nat → Nat) (sz : Nat) (σ : St) (hfl : l.stackTraces = false) (b rt : Int32) (hrt : rt = 0 ∨ rt = 1) (n : Nat) (hn : σ 3 0 = nI n) (hn4 : n ≤ 4) : XI l yX5_addTrain wsX5_addTrain ({ frames := 8, cells := 1, slots := 6, locals := 130 }) D (ty2 cI cZ) (wX cI cZ a) [.ref (a 0), .int b, .int rt] σ sz (fun r u => cdAdd σ n b = 0 ∧ u = (va_up (va_up (va_up σ 3 (fun _ => nI (n + 1))) 4 (upd (σ 4) n b)) 5 (upd (σ 5) n rt)) ∧ r = nI n) (xA (cdAdd σ n b)) := by
  refine XI.of (cc := cX5_addTrain) (maxL := 3) (by decide) rfl (Nat.le_of_ble_eq_true rfl) ?_
  intro p e s m args below meth c A H locs ls hx hb hr hml hown hts hlocks hexc hEV hZ hA hS hP hK hD hl
  have hl : lv_has ls 3 [(0, .ref (a 0)), (1, .int b), (2, .int rt)] := hl
  refine lv_iload_n hx hb dX5_addTrain_0 rfl (lv_at hl 1 rfl) ?_
  by_cases g_1 : inR b 0 7
  · skip
    refine MV.callS (As := [.int b]) (rest := []) ⟨hx, hb, hml, hown, hts⟩ (c_X5_needBlock_ok l D cI cZ a H.size σ b g_1) (va_cwS 1 hts gX5_addTrain_X5_needBlock rfl rfl rfl (by decide +kernel) ⟨Nat.le_of_ble_eq_true rfl, Nat.le_of_ble_eq_true rfl⟩) hP hK hD hS hA rfl hl.1 (Nat.le_of_ble_eq_true rfl) (Nat.zero_le _) (Nat.zero_le _) dX5_addTrain_1 rfl (fun u_1 H locs h_1 hP hD hS => ?_)
    have e_1 := h_1
    have e_1 := Eq.symm e_1
    subst e_1
    refine lv_aload_n hx hb dX5_addTrain_4 rfl (lv_at hl 0 rfl) ?_
    refine va_get (D := D) (ci := 5) (v := .ref (a 3)) (C := RX5) (T := TX5) (N := 8) hx hb hts in_X5_addTrain_X5 hown hK hP 0 rfl rfl 1 (by decide) (hts (.fieldLink RX5 19 "Warpyard" "trains" "LWarpyard$Trains;") (by decide +kernel)) (fun _ h9 => h9) rfl dX5_addTrain_5 ?_
    refine va_get (D := D) (ci := 3) (v := .int (σ 3 0)) (C := RX3) (T := TX3) (N := 5) hx hb hts in_X5_addTrain_X3 hown hK hP 3 rfl rfl 4 (by decide) (hts (.fieldLink RX5 51 "Warpyard$Trains" "count" "I") (by decide +kernel)) (fun _ h9 => h9) rfl dX5_addTrain_8 ?_
    refine lv_topi (fun v_11 e_11 => ?_)
    obtain rfl : v_11 = nI n := by rw [e_11]; exact hn
    refine lv_iconst (v := 4) hx hb dX5_addTrain_11 (by decide) ?_
    refine lv_icmp_lt (tgt := 25) hx hb dX5_addTrain_12 (by decide) (fun c_12 => ?_) (fun c_12 => ?_)
    · skip
      rw [show (4 : Int32) = nI 4 from rfl, nI_ltI (by omega) (by omega)] at c_12
      refine lv_aload_n hx hb dX5_addTrain_25 rfl (lv_at hl 0 rfl) ?_
      refine va_get (D := D) (ci := 5) (v := .ref (a 3)) (C := RX5) (T := TX5) (N := 8) hx hb hts in_X5_addTrain_X5 hown hK hP 0 rfl rfl 1 (by decide) (hts (.fieldLink RX5 19 "Warpyard" "trains" "LWarpyard$Trains;") (by decide +kernel)) (fun _ h9 => h9) rfl dX5_addTrain_26 ?_
      refine lv_iload_n hx hb dX5_addTrain_29 rfl (lv_at hl 1 rfl) ?_
      refine MI.callV (As := [.int b]) (rest := []) ⟨hx, hb, hml, hown, hts⟩ (c_X3_standingOn l D cI cZ a H.size σ b n hn hn4) (cwV 1 hts gX5_addTrain_X3_standingOn rfl rfl rfl (by decide +kernel) ⟨Nat.le_of_ble_eq_true rfl, Nat.le_of_ble_eq_true rfl⟩) hP hK hD hS hA (va_recv hK hP (ci := 3) (q0 := 3) rfl rfl) rfl hl.1 (Nat.le_of_ble_eq_true rfl) (Nat.zero_le _) (Nat.zero_le _) dX5_addTrain_30 rfl (fun r_30 u_30 H locs h_30 hP hD hS => ?_)
      obtain ⟨e_30, h_30⟩ := h_30
      have e_30 := Eq.symm e_30
      subst e_30
      have h_30 : r_30 = so (σ 4) b n := h_30
      refine lv_iconst (v := (-1)) hx hb dX5_addTrain_33 (by decide) ?_
      refine lv_icmp_eq (tgt := 47) hx hb dX5_addTrain_34 (by decide) (fun c_34 => ?_) (fun c_34 => ?_)
      · skip
        refine lv_aload_n hx hb dX5_addTrain_47 rfl (lv_at hl 0 rfl) ?_
        refine va_get (D := D) (ci := 5) (v := .ref (a 3)) (C := RX5) (T := TX5) (N := 8) hx hb hts in_X5_addTrain_X5 hown hK hP 0 rfl rfl 1 (by decide) (hts (.fieldLink RX5 19 "Warpyard" "trains" "LWarpyard$Trains;") (by decide +kernel)) (fun _ h9 => h9) rfl dX5_addTrain_48 ?_
        refine lv_iload_n hx hb dX5_addTrain_51 rfl (lv_at hl 1 rfl) ?_
        refine lv_iload_n hx hb dX5_addTrain_52 rfl (lv_at hl 2 rfl) ?_
        refine MI.callV (As := [.int b, .int rt]) (rest := []) ⟨hx, hb, hml, hown, hts⟩ (c_X3_add l D cI cZ a H.size σ b rt n hrt hn (by omega)) (cwV 2 hts gX5_addTrain_X3_add rfl rfl rfl (by decide +kernel) ⟨Nat.le_of_ble_eq_true rfl, Nat.le_of_ble_eq_true rfl⟩) hP hK hD hS hA (va_recv hK hP (ci := 3) (q0 := 3) rfl rfl) rfl hl.1 (Nat.le_of_ble_eq_true rfl) (Nat.zero_le _) (Nat.zero_le _) dX5_addTrain_53 rfl (fun r_53 u_53 H locs h_53 hP hD hS => ?_)
        obtain ⟨e_53, rfl⟩ := h_53
        have e_53 := Eq.symm e_53
        subst e_53
        have hP : va_P D vwCl (wX cI cZ a (va_up (va_up (va_up σ 3 (fun _ => nI (n + 1))) 4 (upd (σ 4) n b)) 5 (upd (σ 5) n rt))) H := hP
        have hD : va_D A (wX cI cZ a (va_up (va_up (va_up σ 3 (fun _ => nI (n + 1))) 4 (upd (σ 4) n b)) 5 (upd (σ 5) n rt))) := hD
        exact XI.ret hx hb hr hlocks hK hP hD hS dX5_addTrain_56 (by exact ⟨by rw [cdAdd, cif_t g_1, cif_t ⟨by omega, h_30.symm.trans c_34⟩], rfl, rfl⟩)
      · skip
        exact X.throwS (cls := "java/lang/IllegalStateException") (text := "a train stands on that block") (names := xnames) (ik := 55) (is := 66) (ic := 59) hx hb hfl hown (by decide +kernel) (by decide +kernel) (hts _ k_X5_addTrain_55) (hts _ j_X5_addTrain_55) (by decide +kernel) (w_X5_addTrain_55 hts hEV) o_X5_addTrain_55 hEV hZ hK hP hD hS (hl.1.trans hml.symm) dX5_addTrain_37 dX5_addTrain_40 dX5_addTrain_41 dX5_addTrain_43 dX5_addTrain_46 hexc (Nat.le_of_ble_eq_true rfl) (Nat.le_of_ble_eq_true rfl) (Nat.le_of_ble_eq_true rfl) (Nat.le_of_ble_eq_true rfl) hlocks (Or.inr ⟨rfl, by rw [cdAdd, cif_t g_1, cif_f (fun h => c_34 (h_30.trans h.2))]⟩)
    · skip
      rw [show (4 : Int32) = nI 4 from rfl, nI_ltI (by omega) (by omega)] at c_12
      exact X.throwS (cls := "java/lang/IllegalStateException") (text := "there are 4 trains") (names := xnames) (ik := 55) (is := 57) (ic := 59) hx hb hfl hown (by decide +kernel) (by decide +kernel) (hts _ k_X5_addTrain_55) (hts _ j_X5_addTrain_55) (by decide +kernel) (w_X5_addTrain_55 hts hEV) o_X5_addTrain_55 hEV hZ hK hP hD hS (hl.1.trans hml.symm) dX5_addTrain_15 dX5_addTrain_18 dX5_addTrain_19 dX5_addTrain_21 dX5_addTrain_24 hexc (Nat.le_of_ble_eq_true rfl) (Nat.le_of_ble_eq_true rfl) (Nat.le_of_ble_eq_true rfl) (Nat.le_of_ble_eq_true rfl) hlocks (Or.inr ⟨rfl, by rw [cdAdd, cif_t g_1, cif_f (fun h => h.1 (by omega))]⟩)
  · skip
    exact XV.outS (As := [.int b]) (rest := []) ⟨hx, hb, hml, hown, hts⟩ (c_X5_needBlock_bad l D cI cZ a H.size σ hfl b g_1) (va_cwS 1 hts gX5_addTrain_X5_needBlock rfl rfl rfl (by decide +kernel) ⟨Nat.le_of_ble_eq_true rfl, Nat.le_of_ble_eq_true rfl⟩) hP hK hD hS hA hEV hZ rfl hl.1 (Nat.le_of_ble_eq_true rfl) (Nat.le_of_ble_eq_true rfl) (Nat.le_of_ble_eq_true rfl) dX5_addTrain_1 rfl hlocks hexc (fun E hE => Or.inl ⟨hE, by rw [cdAdd, cif_f g_1]⟩)
set_option maxRecDepth 20000 in
theorem in_X5_hold_X3 : ∀ w ∈ wsX30, w ∈ wsX5_hold := by decide +kernel
set_option maxRecDepth 20000 in
theorem in_X5_hold_X5 : ∀ w ∈ wsX50, w ∈ wsX5_hold := by decide +kernel
set_option maxHeartbeats 4000000 in
set_option maxRecDepth 100000 in
/-- Warpyard.hold -/
theorem c_X5_hold (l : Launch) (D : va_G) (cI cZ : ClassId) (a : Nat → Nat) (sz : Nat) (σ : St) (hfl : l.stackTraces = false) (t v : Int32) (hv : v = 0 ∨ v = 1) (n : Nat) (hn : σ 3 0 = nI n) (hn4 : n ≤ 4) : XI l yX5_hold wsX5_hold ({ frames := 8, cells := 1, slots := 6, locals := 131 }) D (ty2 cI cZ) (wX cI cZ a) [.ref (a 0), .int t, .int v] σ sz (fun r u => cdTr n t = 0 ∧ u = (va_up σ 6 (upd (σ 6) t.toNatClampNeg v)) ∧ r = bI (¬ σ 6 t.toNatClampNeg = v)) (x1 (cdTr n t)) := by
  refine XI.of (cc := cX5_hold) (maxL := 4) (by decide) rfl (Nat.le_of_ble_eq_true rfl) ?_
  intro p e s m args below meth c A H locs ls hx hb hr hml hown hts hlocks hexc hEV hZ hA hS hP hK hD hl
  have hl : lv_has ls 4 [(0, .ref (a 0)), (1, .int t), (2, .int v)] := hl
  refine lv_aload_n hx hb dX5_hold_0 rfl (lv_at hl 0 rfl) ?_
  refine lv_iload_n hx hb dX5_hold_1 rfl (lv_at hl 1 rfl) ?_
  by_cases g_2 : tr n t
  · skip
    refine MV.callV (As := [.int t]) (rest := []) ⟨hx, hb, hml, hown, hts⟩ (c_X5_needTrain_ok l D cI cZ a H.size σ t n hn hn4 g_2) (cwV 1 hts gX5_hold_X5_needTrain rfl rfl rfl (by decide +kernel) ⟨Nat.le_of_ble_eq_true rfl, Nat.le_of_ble_eq_true rfl⟩) hP hK hD hS hA (va_recv hK hP (ci := 5) (q0 := 0) rfl rfl) rfl hl.1 (Nat.le_of_ble_eq_true rfl) (Nat.zero_le _) (Nat.zero_le _) dX5_hold_2 rfl (fun u_2 H locs h_2 hP hD hS => ?_)
    have e_2 := h_2
    have e_2 := Eq.symm e_2
    subst e_2
    obtain ⟨k, hk, rfl⟩ := id g_2
    refine lv_aload_n hx hb dX5_hold_5 rfl (lv_at hl 0 rfl) ?_
    refine va_get (D := D) (ci := 5) (v := .ref (a 3)) (C := RX5) (T := TX5) (N := 8) hx hb hts in_X5_hold_X5 hown hK hP 0 rfl rfl 1 (by decide) (hts (.fieldLink RX5 19 "Warpyard" "trains" "LWarpyard$Trains;") (by decide +kernel)) (fun _ h9 => h9) rfl dX5_hold_6 ?_
    refine va_get (D := D) (ci := 3) (v := .ref (a 6)) (C := RX3) (T := TX3) (N := 5) hx hb hts in_X5_hold_X3 hown hK hP 3 rfl rfl 2 (by decide) (hts (.fieldLink RX5 75 "Warpyard$Trains" "held" "[Z") (by decide +kernel)) (fun _ h9 => h9) rfl dX5_hold_9 ?_
    refine lv_iload_n hx hb dX5_hold_12 rfl (lv_at hl 1 rfl) ?_
    refine na_zald hx hb hK hP 6 1 (f := (σ 6)) rfl rfl k (by omega) (by decide) rfl dX5_hold_13 ?_
    refine lv_iload_n hx hb dX5_hold_14 rfl (lv_at hl 2 rfl) ?_
    refine lv_icmp_eq (tgt := 22) hx hb dX5_hold_15 (by decide) (fun c_15 => ?_) (fun c_15 => ?_)
    · skip
      refine lv_iconst (v := 0) hx hb dX5_hold_22 (by decide) ?_
      refine lv_istore_n (lv' := [(3, .int 0), (0, .ref (a 0)), (1, .int (nI k)), (2, .int v)]) hx hb dX5_hold_23 rfl hl (by decide) rfl (fun ls hl => ?_)
      refine lv_aload_n hx hb dX5_hold_24 rfl (lv_at hl 1 rfl) ?_
      refine va_get (D := D) (ci := 5) (v := .ref (a 3)) (C := RX5) (T := TX5) (N := 8) hx hb hts in_X5_hold_X5 hown hK hP 0 rfl rfl 1 (by decide) (hts (.fieldLink RX5 19 "Warpyard" "trains" "LWarpyard$Trains;") (by decide +kernel)) (fun _ h9 => h9) rfl dX5_hold_25 ?_
      refine va_get (D := D) (ci := 3) (v := .ref (a 6)) (C := RX3) (T := TX3) (N := 5) hx hb hts in_X5_hold_X3 hown hK hP 3 rfl rfl 2 (by decide) (hts (.fieldLink RX5 75 "Warpyard$Trains" "held" "[Z") (by decide +kernel)) (fun _ h9 => h9) rfl dX5_hold_28 ?_
      refine lv_iload_n hx hb dX5_hold_31 rfl (lv_at hl 2 rfl) ?_
      refine lv_iload_n hx hb dX5_hold_32 rfl (lv_at hl 3 rfl) ?_
      refine na_zast hx hb hK hP hD hS 6 1 (f := (σ 6)) (x := v) rfl rfl k (by omega) (by decide) rfl hv dX5_hold_33 (fun H locs hP hD hS => ?_)
      have hP : va_P D vwCl (wX cI cZ a (va_up σ 6 (upd (σ 6) k v))) H := hP
      have hD : va_D A (wX cI cZ a (va_up σ 6 (upd (σ 6) k v))) := hD
      refine lv_iload_n hx hb dX5_hold_34 rfl (lv_at hl 0 rfl) ?_
      exact XI.zret hx hb hr hlocks hK hP hD hS dX5_hold_35 rfl (by rw [nI_clamp (show k < 2 ^ 31 by omega)]; exact ⟨cif_t g_2, rfl, (bI_f (fun h => h c_15)).symm⟩)
    · skip
      refine lv_iconst (v := 1) hx hb dX5_hold_18 (by decide) ?_
      refine lv_goto (tgt := 23) hx hb dX5_hold_19 (by decide) ?_
      refine lv_istore_n (lv' := [(3, .int 1), (0, .ref (a 0)), (1, .int (nI k)), (2, .int v)]) hx hb dX5_hold_23 rfl hl (by decide) rfl (fun ls hl => ?_)
      refine lv_aload_n hx hb dX5_hold_24 rfl (lv_at hl 1 rfl) ?_
      refine va_get (D := D) (ci := 5) (v := .ref (a 3)) (C := RX5) (T := TX5) (N := 8) hx hb hts in_X5_hold_X5 hown hK hP 0 rfl rfl 1 (by decide) (hts (.fieldLink RX5 19 "Warpyard" "trains" "LWarpyard$Trains;") (by decide +kernel)) (fun _ h9 => h9) rfl dX5_hold_25 ?_
      refine va_get (D := D) (ci := 3) (v := .ref (a 6)) (C := RX3) (T := TX3) (N := 5) hx hb hts in_X5_hold_X3 hown hK hP 3 rfl rfl 2 (by decide) (hts (.fieldLink RX5 75 "Warpyard$Trains" "held" "[Z") (by decide +kernel)) (fun _ h9 => h9) rfl dX5_hold_28 ?_
      refine lv_iload_n hx hb dX5_hold_31 rfl (lv_at hl 2 rfl) ?_
      refine lv_iload_n hx hb dX5_hold_32 rfl (lv_at hl 3 rfl) ?_
      refine na_zast hx hb hK hP hD hS 6 1 (f := (σ 6)) (x := v) rfl rfl k (by omega) (by decide) rfl hv dX5_hold_33 (fun H locs hP hD hS => ?_)
      have hP : va_P D vwCl (wX cI cZ a (va_up σ 6 (upd (σ 6) k v))) H := hP
      have hD : va_D A (wX cI cZ a (va_up σ 6 (upd (σ 6) k v))) := hD
      refine lv_iload_n hx hb dX5_hold_34 rfl (lv_at hl 0 rfl) ?_
      exact XI.zret hx hb hr hlocks hK hP hD hS dX5_hold_35 rfl (by rw [nI_clamp (show k < 2 ^ 31 by omega)]; exact ⟨cif_t g_2, rfl, (bI_t c_15).symm⟩)
  · skip
    exact XV.outV (As := [.int t]) (rest := []) ⟨hx, hb, hml, hown, hts⟩ (c_X5_needTrain_bad l D cI cZ a H.size σ hfl t n hn hn4 g_2) (cwV 1 hts gX5_hold_X5_needTrain rfl rfl rfl (by decide +kernel) ⟨Nat.le_of_ble_eq_true rfl, Nat.le_of_ble_eq_true rfl⟩) hP hK hD hS hA hEV hZ (va_recv hK hP (ci := 5) (q0 := 0) rfl rfl) rfl hl.1 (Nat.le_of_ble_eq_true rfl) (Nat.le_of_ble_eq_true rfl) (Nat.le_of_ble_eq_true rfl) dX5_hold_2 rfl hlocks hexc (fun E hE => ⟨hE, cif_f g_2⟩)
set_option maxRecDepth 20000 in
theorem in_X5_delay_X3 : ∀ w ∈ wsX30, w ∈ wsX5_delay := by decide +kernel
set_option maxRecDepth 20000 in
theorem in_X5_delay_X5 : ∀ w ∈ wsX50, w ∈ wsX5_delay := by decide +kernel
set_option maxRecDepth 20000 in
theorem k_X5_delay_86 : Cond.classLink RX5 86 "java/lang/IllegalArgumentException" ∈ wsX5_delay := by decide +kernel
set_option maxRecDepth 20000 in
theorem j_X5_delay_86 : Cond.initialized "java/lang/IllegalArgumentException" ∈ wsX5_delay := by decide +kernel
set_option maxRecDepth 20000 in
theorem v_X5_delay_86 : ∀ w ∈ (vx_atS RX5 90 "java/lang/IllegalArgumentException" xnames).filter goodWord, w ∈ wsX5_delay := by decide +kernel
theorem w_X5_delay_86 {s : State} {args : Array Value} (hts : ∀ w ∈ wsX5_delay, w.before args s = true) (hEV : EV s) : ∀ w ∈ vx_atS RX5 90 "java/lang/IllegalArgumentException" xnames, w.before args s = true := vx_hat (fun w h => hts w (v_X5_delay_86 w h)) (B := EVw) (by decide +kernel) (fun w h => va_Nw.use (EV.tab (s := s) w h) (hEV.1 w h))
theorem o_X5_delay_86 : ∀ w ∈ Cond.classLink RX5 86 "java/lang/IllegalArgumentException" :: Cond.initialized "java/lang/IllegalArgumentException" :: vx_atS RX5 90 "java/lang/IllegalArgumentException" xnames, vx_ot w = true := by decide +kernel
set_option maxHeartbeats 4000000 in
set_option maxRecDepth 100000 in
/-- Warpyard.delay -/
theorem c_X5_delay (l : Launch) (D : va_G) (cI cZ : ClassId) (a : Nat → Nat) (sz : Nat) (σ : St) (hfl : l.stackTraces = false) (t mm : Int32) (n : Nat) (hn : σ 3 0 = nI n) (hn4 : n ≤ 4) : XI l yX5_delay wsX5_delay ({ frames := 8, cells := 1, slots := 6, locals := 131 }) D (ty2 cI cZ) (wX cI cZ a) [.ref (a 0), .int t, .int mm] σ sz (fun r u => cdDelay σ n t mm = 0 ∧ u = (va_up σ 7 (upd (σ 7) t.toNatClampNeg (σ 7 t.toNatClampNeg + mm))) ∧ r = σ 7 t.toNatClampNeg + mm) (xB (cdDelay σ n t mm)) := by
  refine XI.of (cc := cX5_delay) (maxL := 4) (by decide) rfl (Nat.le_of_ble_eq_true rfl) ?_
  intro p e s m args below meth c A H locs ls hx hb hr hml hown hts hlocks hexc hEV hZ hA hS hP hK hD hl
  have hl : lv_has ls 4 [(0, .ref (a 0)), (1, .int t), (2, .int mm)] := hl
  refine lv_aload_n hx hb dX5_delay_0 rfl (lv_at hl 0 rfl) ?_
  refine lv_iload_n hx hb dX5_delay_1 rfl (lv_at hl 1 rfl) ?_
  by_cases g_2 : tr n t
  · skip
    refine MV.callV (As := [.int t]) (rest := []) ⟨hx, hb, hml, hown, hts⟩ (c_X5_needTrain_ok l D cI cZ a H.size σ t n hn hn4 g_2) (cwV 1 hts gX5_delay_X5_needTrain rfl rfl rfl (by decide +kernel) ⟨Nat.le_of_ble_eq_true rfl, Nat.le_of_ble_eq_true rfl⟩) hP hK hD hS hA (va_recv hK hP (ci := 5) (q0 := 0) rfl rfl) rfl hl.1 (Nat.le_of_ble_eq_true rfl) (Nat.zero_le _) (Nat.zero_le _) dX5_delay_2 rfl (fun u_2 H locs h_2 hP hD hS => ?_)
    have e_2 := h_2
    have e_2 := Eq.symm e_2
    subst e_2
    obtain ⟨k, hk, rfl⟩ := id g_2
    refine lv_iload_n hx hb dX5_delay_5 rfl (lv_at hl 2 rfl) ?_
    by_cases g_6 : inR mm 1 100
    · skip
      refine MV.callS (As := [.int mm]) (rest := []) ⟨hx, hb, hml, hown, hts⟩ (c_X5_needMinutesToRun_ok l D cI cZ a H.size σ mm g_6) (va_cwS 1 hts gX5_delay_X5_needMinutesToRun rfl rfl rfl (by decide +kernel) ⟨Nat.le_of_ble_eq_true rfl, Nat.le_of_ble_eq_true rfl⟩) hP hK hD hS hA rfl hl.1 (Nat.le_of_ble_eq_true rfl) (Nat.zero_le _) (Nat.zero_le _) dX5_delay_6 rfl (fun u_6 H locs h_6 hP hD hS => ?_)
      have e_6 := h_6
      have e_6 := Eq.symm e_6
      subst e_6
      refine lv_aload_n hx hb dX5_delay_9 rfl (lv_at hl 0 rfl) ?_
      refine va_get (D := D) (ci := 5) (v := .ref (a 3)) (C := RX5) (T := TX5) (N := 8) hx hb hts in_X5_delay_X5 hown hK hP 0 rfl rfl 1 (by decide) (hts (.fieldLink RX5 19 "Warpyard" "trains" "LWarpyard$Trains;") (by decide +kernel)) (fun _ h9 => h9) rfl dX5_delay_10 ?_
      refine va_get (D := D) (ci := 3) (v := .ref (a 7)) (C := RX3) (T := TX3) (N := 5) hx hb hts in_X5_delay_X3 hown hK hP 3 rfl rfl 3 (by decide) (hts (.fieldLink RX5 82 "Warpyard$Trains" "delay" "[I") (by decide +kernel)) (fun _ h9 => h9) rfl dX5_delay_13 ?_
      refine lv_iload_n hx hb dX5_delay_16 rfl (lv_at hl 1 rfl) ?_
      refine na_iald hx hb hK hP 7 0 (f := (σ 7)) rfl rfl k (by omega) (by decide) rfl dX5_delay_17 ?_
      refine lv_iload_n hx hb dX5_delay_18 rfl (lv_at hl 2 rfl) ?_
      refine lv_iadd hx hb dX5_delay_19 ?_
      refine lv_istore_n (lv' := [(3, .int ((σ 7 k) + mm)), (0, .ref (a 0)), (1, .int (nI k)), (2, .int mm)]) hx hb dX5_delay_20 rfl hl (by decide) rfl (fun ls hl => ?_)
      refine lv_iload_n hx hb dX5_delay_21 rfl (lv_at hl 0 rfl) ?_
      refine lv_sipush (v := 1000) hx hb dX5_delay_22 (by decide) ?_
      refine lv_icmp_le (tgt := 38) hx hb dX5_delay_25 (by decide) (fun c_25 => ?_) (fun c_25 => ?_)
      · skip
        refine lv_aload_n hx hb dX5_delay_38 rfl (lv_at hl 1 rfl) ?_
        refine va_get (D := D) (ci := 5) (v := .ref (a 3)) (C := RX5) (T := TX5) (N := 8) hx hb hts in_X5_delay_X5 hown hK hP 0 rfl rfl 1 (by decide) (hts (.fieldLink RX5 19 "Warpyard" "trains" "LWarpyard$Trains;") (by decide +kernel)) (fun _ h9 => h9) rfl dX5_delay_39 ?_
        refine va_get (D := D) (ci := 3) (v := .ref (a 7)) (C := RX3) (T := TX3) (N := 5) hx hb hts in_X5_delay_X3 hown hK hP 3 rfl rfl 3 (by decide) (hts (.fieldLink RX5 82 "Warpyard$Trains" "delay" "[I") (by decide +kernel)) (fun _ h9 => h9) rfl dX5_delay_42 ?_
        refine lv_iload_n hx hb dX5_delay_45 rfl (lv_at hl 2 rfl) ?_
        refine lv_iload_n hx hb dX5_delay_46 rfl (lv_at hl 0 rfl) ?_
        refine na_iast hx hb hK hP hD hS 7 0 (f := (σ 7)) (x := (σ 7 k) + mm) rfl rfl k (by omega) (by decide) rfl dX5_delay_47 (fun H locs hP hD hS => ?_)
        have hP : va_P D vwCl (wX cI cZ a (va_up σ 7 (upd (σ 7) k ((σ 7 k) + mm)))) H := hP
        have hD : va_D A (wX cI cZ a (va_up σ 7 (upd (σ 7) k ((σ 7 k) + mm)))) := hD
        refine lv_iload_n hx hb dX5_delay_48 rfl (lv_at hl 0 rfl) ?_
        exact XI.ret hx hb hr hlocks hK hP hD hS dX5_delay_49 (by rw [nI_clamp (show k < 2 ^ 31 by omega)]; exact ⟨by rw [cdDelay, cif_t g_2, cif_t g_6, nI_clamp (show k < 2 ^ 31 by omega), cif_t (le_nlt.mp c_25)], rfl, rfl⟩)
      · skip
        exact X.throwS (cls := "java/lang/IllegalArgumentException") (text := "the delay would be above 1000") (names := xnames) (ik := 86) (is := 88) (ic := 90) hx hb hfl hown (by decide +kernel) (by decide +kernel) (hts _ k_X5_delay_86) (hts _ j_X5_delay_86) (by decide +kernel) (w_X5_delay_86 hts hEV) o_X5_delay_86 hEV hZ hK hP hD hS (hl.1.trans hml.symm) dX5_delay_28 dX5_delay_31 dX5_delay_32 dX5_delay_34 dX5_delay_37 hexc (Nat.le_of_ble_eq_true rfl) (Nat.le_of_ble_eq_true rfl) (Nat.le_of_ble_eq_true rfl) (Nat.le_of_ble_eq_true rfl) hlocks (Or.inr ⟨rfl, by rw [cdDelay, cif_t g_2, cif_t g_6, nI_clamp (show k < 2 ^ 31 by omega), cif_f (fun h => h (nle_lt c_25))]⟩)
    · skip
      exact XV.outS (As := [.int mm]) (rest := []) ⟨hx, hb, hml, hown, hts⟩ (c_X5_needMinutesToRun_bad l D cI cZ a H.size σ hfl mm g_6) (va_cwS 1 hts gX5_delay_X5_needMinutesToRun rfl rfl rfl (by decide +kernel) ⟨Nat.le_of_ble_eq_true rfl, Nat.le_of_ble_eq_true rfl⟩) hP hK hD hS hA hEV hZ rfl hl.1 (Nat.le_of_ble_eq_true rfl) (Nat.le_of_ble_eq_true rfl) (Nat.le_of_ble_eq_true rfl) dX5_delay_6 rfl hlocks hexc (fun E hE => Or.inr ⟨hE, by rw [cdDelay, cif_t g_2, cif_f g_6]⟩)
  · skip
    exact XV.outV (As := [.int t]) (rest := []) ⟨hx, hb, hml, hown, hts⟩ (c_X5_needTrain_bad l D cI cZ a H.size σ hfl t n hn hn4 g_2) (cwV 1 hts gX5_delay_X5_needTrain rfl rfl rfl (by decide +kernel) ⟨Nat.le_of_ble_eq_true rfl, Nat.le_of_ble_eq_true rfl⟩) hP hK hD hS hA hEV hZ (va_recv hK hP (ci := 5) (q0 := 0) rfl rfl) rfl hl.1 (Nat.le_of_ble_eq_true rfl) (Nat.le_of_ble_eq_true rfl) (Nat.le_of_ble_eq_true rfl) dX5_delay_2 rfl hlocks hexc (fun E hE => Or.inl ⟨hE, by rw [cdDelay, cif_f g_2]⟩)
set_option maxRecDepth 20000 in
theorem in_X5_reverse_X5 : ∀ w ∈ wsX50, w ∈ wsX5_reverse := by decide +kernel
set_option maxHeartbeats 4000000 in
set_option maxRecDepth 100000 in
/-- Warpyard.reverse -/
theorem c_X5_reverse (l : Launch) (D : va_G) (cI cZ : ClassId) (a : Nat → Nat) (sz : Nat) (σ : St) (hfl : l.stackTraces = false) (t : Int32) (n : Nat) (hn : σ 3 0 = nI n) (hn4 : n ≤ 4) : XI l yX5_reverse wsX5_reverse ({ frames := 8, cells := 1, slots := 6, locals := 131 }) D (ty2 cI cZ) (wX cI cZ a) [.ref (a 0), .int t] σ sz (fun r u => cdTr n t = 0 ∧ u = (va_up σ 5 (upd (σ 5) t.toNatClampNeg (fl (σ 5 t.toNatClampNeg)))) ∧ r = fl (σ 5 t.toNatClampNeg)) (x1 (cdTr n t)) := by
  refine XI.of (cc := cX5_reverse) (maxL := 2) (by decide) rfl (Nat.le_of_ble_eq_true rfl) ?_
  intro p e s m args below meth c A H locs ls hx hb hr hml hown hts hlocks hexc hEV hZ hA hS hP hK hD hl
  have hl : lv_has ls 2 [(0, .ref (a 0)), (1, .int t)] := hl
  refine lv_aload_n hx hb dX5_reverse_0 rfl (lv_at hl 0 rfl) ?_
  refine lv_iload_n hx hb dX5_reverse_1 rfl (lv_at hl 1 rfl) ?_
  by_cases g_2 : tr n t
  · skip
    refine MV.callV (As := [.int t]) (rest := []) ⟨hx, hb, hml, hown, hts⟩ (c_X5_needTrain_ok l D cI cZ a H.size σ t n hn hn4 g_2) (cwV 1 hts gX5_reverse_X5_needTrain rfl rfl rfl (by decide +kernel) ⟨Nat.le_of_ble_eq_true rfl, Nat.le_of_ble_eq_true rfl⟩) hP hK hD hS hA (va_recv hK hP (ci := 5) (q0 := 0) rfl rfl) rfl hl.1 (Nat.le_of_ble_eq_true rfl) (Nat.zero_le _) (Nat.zero_le _) dX5_reverse_2 rfl (fun u_2 H locs h_2 hP hD hS => ?_)
    have e_2 := h_2
    have e_2 := Eq.symm e_2
    subst e_2
    obtain ⟨k, hk, rfl⟩ := id g_2
    refine lv_aload_n hx hb dX5_reverse_5 rfl (lv_at hl 0 rfl) ?_
    refine va_get (D := D) (ci := 5) (v := .ref (a 3)) (C := RX5) (T := TX5) (N := 8) hx hb hts in_X5_reverse_X5 hown hK hP 0 rfl rfl 1 (by decide) (hts (.fieldLink RX5 19 "Warpyard" "trains" "LWarpyard$Trains;") (by decide +kernel)) (fun _ h9 => h9) rfl dX5_reverse_6 ?_
    refine lv_iload_n hx hb dX5_reverse_9 rfl (lv_at hl 1 rfl) ?_
    refine MI.callV (As := [.int (nI k)]) (rest := []) ⟨hx, hb, hml, hown, hts⟩ (c_X3_turnRound l D cI cZ a H.size σ k (by omega)) (cwV 1 hts gX5_reverse_X3_turnRound rfl rfl rfl (by decide +kernel) ⟨Nat.le_of_ble_eq_true rfl, Nat.le_of_ble_eq_true rfl⟩) hP hK hD hS hA (va_recv hK hP (ci := 3) (q0 := 3) rfl rfl) rfl hl.1 (Nat.le_of_ble_eq_true rfl) (Nat.zero_le _) (Nat.zero_le _) dX5_reverse_10 rfl (fun r_10 u_10 H locs h_10 hP hD hS => ?_)
    obtain ⟨e_10, h_10⟩ := h_10
    have e_10 := Eq.symm e_10
    subst e_10
    have hP : va_P D vwCl (wX cI cZ a (va_up σ 5 (upd (σ 5) k (fl ((σ 5) k))))) H := hP
    have hD : va_D A (wX cI cZ a (va_up σ 5 (upd (σ 5) k (fl ((σ 5) k))))) := hD
    have h_10 : r_10 = fl ((σ 5) k) := h_10
    exact XI.zret hx hb hr hlocks hK hP hD hS dX5_reverse_13 (nar_b (by rw [h_10]; exact fl_b _)) (by rw [nI_clamp (show k < 2 ^ 31 by omega)]; exact ⟨cif_t g_2, rfl, h_10⟩)
  · skip
    exact XV.outV (As := [.int t]) (rest := []) ⟨hx, hb, hml, hown, hts⟩ (c_X5_needTrain_bad l D cI cZ a H.size σ hfl t n hn hn4 g_2) (cwV 1 hts gX5_reverse_X5_needTrain rfl rfl rfl (by decide +kernel) ⟨Nat.le_of_ble_eq_true rfl, Nat.le_of_ble_eq_true rfl⟩) hP hK hD hS hA hEV hZ (va_recv hK hP (ci := 5) (q0 := 0) rfl rfl) rfl hl.1 (Nat.le_of_ble_eq_true rfl) (Nat.le_of_ble_eq_true rfl) (Nat.le_of_ble_eq_true rfl) dX5_reverse_2 rfl hlocks hexc (fun E hE => ⟨hE, cif_f g_2⟩)
set_option maxRecDepth 20000 in
theorem in_X5_throwSwitch_X5 : ∀ w ∈ wsX50, w ∈ wsX5_throwSwitch := by decide +kernel
set_option maxRecDepth 20000 in
theorem k_X5_throwSwitch_95 : Cond.classLink RX5 95 "java/lang/IndexOutOfBoundsException" ∈ wsX5_throwSwitch := by decide +kernel
set_option maxRecDepth 20000 in
theorem j_X5_throwSwitch_95 : Cond.initialized "java/lang/IndexOutOfBoundsException" ∈ wsX5_throwSwitch := by decide +kernel
set_option maxRecDepth 20000 in
theorem v_X5_throwSwitch_95 : ∀ w ∈ (vx_atS RX5 99 "java/lang/IndexOutOfBoundsException" xnames).filter goodWord, w ∈ wsX5_throwSwitch := by decide +kernel
theorem w_X5_throwSwitch_95 {s : State} {args : Array Value} (hts : ∀ w ∈ wsX5_throwSwitch, w.before args s = true) (hEV : EV s) : ∀ w ∈ vx_atS RX5 99 "java/lang/IndexOutOfBoundsException" xnames, w.before args s = true := vx_hat (fun w h => hts w (v_X5_throwSwitch_95 w h)) (B := EVw) (by decide +kernel) (fun w h => va_Nw.use (EV.tab (s := s) w h) (hEV.1 w h))
theorem o_X5_throwSwitch_95 : ∀ w ∈ Cond.classLink RX5 95 "java/lang/IndexOutOfBoundsException" :: Cond.initialized "java/lang/IndexOutOfBoundsException" :: vx_atS RX5 99 "java/lang/IndexOutOfBoundsException" xnames, vx_ot w = true := by decide +kernel
set_option maxHeartbeats 4000000 in
set_option maxRecDepth 100000 in
/-- Warpyard.throwSwitch -/
theorem c_X5_throwSwitch (l : Launch) (D : va_G) (cI cZ : ClassId) (a : Nat → Nat) (sz : Nat) (σ : St) (hfl : l.stackTraces = false) (v : Int32) : XI l yX5_throwSwitch wsX5_throwSwitch ({ frames := 7, cells := 1, slots := 6, locals := 110 }) D (ty2 cI cZ) (wX cI cZ a) [.ref (a 0), .int v] σ sz (fun r u => cdSw v = 0 ∧ u = (va_up σ 2 (upd (σ 2) v.toNatClampNeg (fl (σ 2 v.toNatClampNeg)))) ∧ r = fl (σ 2 v.toNatClampNeg)) (x1 (cdSw v)) := by
  refine XI.of (cc := cX5_throwSwitch) (maxL := 2) (by decide) rfl (Nat.le_of_ble_eq_true rfl) ?_
  intro p e s m args below meth c A H locs ls hx hb hr hml hown hts hlocks hexc hEV hZ hA hS hP hK hD hl
  have hl : lv_has ls 2 [(0, .ref (a 0)), (1, .int v)] := hl
  refine lv_iload_n hx hb dX5_throwSwitch_0 rfl (lv_at hl 1 rfl) ?_
  refine lv_if_lt (tgt := 9) hx hb dX5_throwSwitch_1 (by decide) (fun c_1 => ?_) (fun c_1 => ?_)
  · skip
    exact X.throwS (cls := "java/lang/IndexOutOfBoundsException") (text := "no such switch") (names := xnames) (ik := 95) (is := 97) (ic := 99) hx hb hfl hown (by decide +kernel) (by decide +kernel) (hts _ k_X5_throwSwitch_95) (hts _ j_X5_throwSwitch_95) (by decide +kernel) (w_X5_throwSwitch_95 hts hEV) o_X5_throwSwitch_95 hEV hZ hK hP hD hS (hl.1.trans hml.symm) dX5_throwSwitch_9 dX5_throwSwitch_12 dX5_throwSwitch_13 dX5_throwSwitch_15 dX5_throwSwitch_18 hexc (Nat.le_of_ble_eq_true rfl) (Nat.le_of_ble_eq_true rfl) (Nat.le_of_ble_eq_true rfl) (Nat.le_of_ble_eq_true rfl) hlocks (⟨rfl, cif_f (fun h => h.1 c_1)⟩)
  · skip
    refine lv_iload_n hx hb dX5_throwSwitch_4 rfl (lv_at hl 1 rfl) ?_
    refine lv_iconst (v := 2) hx hb dX5_throwSwitch_5 (by decide) ?_
    refine lv_icmp_lt (tgt := 19) hx hb dX5_throwSwitch_6 (by decide) (fun c_6 => ?_) (fun c_6 => ?_)
    · skip
      have g_6 : inR v 0 1 := ⟨c_1, (lt_suc (by decide)).mp c_6⟩
      obtain ⟨k, hk, rfl⟩ := sw_k c_1 c_6
      refine lv_aload_n hx hb dX5_throwSwitch_19 rfl (lv_at hl 0 rfl) ?_
      refine va_get (D := D) (ci := 5) (v := .ref (a 1)) (C := RX5) (T := TX5) (N := 8) hx hb hts in_X5_throwSwitch_X5 hown hK hP 0 rfl rfl 0 (by decide) (hts (.fieldLink RX5 10 "Warpyard" "tracks" "LWarpyard$Tracks;") (by decide +kernel)) (fun _ h9 => h9) rfl dX5_throwSwitch_20 ?_
      refine lv_iload_n hx hb dX5_throwSwitch_23 rfl (lv_at hl 1 rfl) ?_
      refine MI.callV (As := [.int (nI k)]) (rest := []) ⟨hx, hb, hml, hown, hts⟩ (c_X2_turn l D cI cZ a H.size σ k (by omega)) (cwV 1 hts gX5_throwSwitch_X2_turn rfl rfl rfl (by decide +kernel) ⟨Nat.le_of_ble_eq_true rfl, Nat.le_of_ble_eq_true rfl⟩) hP hK hD hS hA (va_recv hK hP (ci := 2) (q0 := 1) rfl rfl) rfl hl.1 (Nat.le_of_ble_eq_true rfl) (Nat.zero_le _) (Nat.zero_le _) dX5_throwSwitch_24 rfl (fun r_24 u_24 H locs h_24 hP hD hS => ?_)
      obtain ⟨e_24, h_24⟩ := h_24
      have e_24 := Eq.symm e_24
      subst e_24
      have hP : va_P D vwCl (wX cI cZ a (va_up σ 2 (upd (σ 2) k (fl ((σ 2) k))))) H := hP
      have hD : va_D A (wX cI cZ a (va_up σ 2 (upd (σ 2) k (fl ((σ 2) k))))) := hD
      have h_24 : r_24 = fl ((σ 2) k) := h_24
      exact XI.zret hx hb hr hlocks hK hP hD hS dX5_throwSwitch_27 (nar_b (by rw [h_24]; exact fl_b _)) (by rw [nI_clamp (show k < 2 ^ 31 by omega)]; exact ⟨cif_t g_6, rfl, h_24⟩)
    · skip
      exact X.throwS (cls := "java/lang/IndexOutOfBoundsException") (text := "no such switch") (names := xnames) (ik := 95) (is := 97) (ic := 99) hx hb hfl hown (by decide +kernel) (by decide +kernel) (hts _ k_X5_throwSwitch_95) (hts _ j_X5_throwSwitch_95) (by decide +kernel) (w_X5_throwSwitch_95 hts hEV) o_X5_throwSwitch_95 hEV hZ hK hP hD hS (hl.1.trans hml.symm) dX5_throwSwitch_9 dX5_throwSwitch_12 dX5_throwSwitch_13 dX5_throwSwitch_15 dX5_throwSwitch_18 hexc (Nat.le_of_ble_eq_true rfl) (Nat.le_of_ble_eq_true rfl) (Nat.le_of_ble_eq_true rfl) (Nat.le_of_ble_eq_true rfl) hlocks (⟨rfl, cif_f (fun h => c_6 ((lt_suc (by decide)).mpr h.2))⟩)
set_option maxRecDepth 20000 in
theorem in_X5_block_X3 : ∀ w ∈ wsX30, w ∈ wsX5_block := by decide +kernel
set_option maxRecDepth 20000 in
theorem in_X5_block_X5 : ∀ w ∈ wsX50, w ∈ wsX5_block := by decide +kernel
set_option maxHeartbeats 4000000 in
set_option maxRecDepth 100000 in
/-- Warpyard.block -/
theorem c_X5_block (l : Launch) (D : va_G) (cI cZ : ClassId) (a : Nat → Nat) (sz : Nat) (σ : St) (hfl : l.stackTraces = false) (t : Int32) (n : Nat) (hn : σ 3 0 = nI n) (hn4 : n ≤ 4) : XI l yX5_block wsX5_block ({ frames := 8, cells := 1, slots := 6, locals := 131 }) D (ty2 cI cZ) (wX cI cZ a) [.ref (a 0), .int t] σ sz (fun r u => cdTr n t = 0 ∧ u = σ ∧ r = σ 4 t.toNatClampNeg) (x1 (cdTr n t)) := by
  refine XI.of (cc := cX5_block) (maxL := 2) (by decide) rfl (Nat.le_of_ble_eq_true rfl) ?_
  intro p e s m args below meth c A H locs ls hx hb hr hml hown hts hlocks hexc hEV hZ hA hS hP hK hD hl
  have hl : lv_has ls 2 [(0, .ref (a 0)), (1, .int t)] := hl
  refine lv_aload_n hx hb dX5_block_0 rfl (lv_at hl 0 rfl) ?_
  refine lv_iload_n hx hb dX5_block_1 rfl (lv_at hl 1 rfl) ?_
  by_cases g_2 : tr n t
  · skip
    refine MV.callV (As := [.int t]) (rest := []) ⟨hx, hb, hml, hown, hts⟩ (c_X5_needTrain_ok l D cI cZ a H.size σ t n hn hn4 g_2) (cwV 1 hts gX5_block_X5_needTrain rfl rfl rfl (by decide +kernel) ⟨Nat.le_of_ble_eq_true rfl, Nat.le_of_ble_eq_true rfl⟩) hP hK hD hS hA (va_recv hK hP (ci := 5) (q0 := 0) rfl rfl) rfl hl.1 (Nat.le_of_ble_eq_true rfl) (Nat.zero_le _) (Nat.zero_le _) dX5_block_2 rfl (fun u_2 H locs h_2 hP hD hS => ?_)
    have e_2 := h_2
    have e_2 := Eq.symm e_2
    subst e_2
    obtain ⟨k, hk, rfl⟩ := id g_2
    refine lv_aload_n hx hb dX5_block_5 rfl (lv_at hl 0 rfl) ?_
    refine va_get (D := D) (ci := 5) (v := .ref (a 3)) (C := RX5) (T := TX5) (N := 8) hx hb hts in_X5_block_X5 hown hK hP 0 rfl rfl 1 (by decide) (hts (.fieldLink RX5 19 "Warpyard" "trains" "LWarpyard$Trains;") (by decide +kernel)) (fun _ h9 => h9) rfl dX5_block_6 ?_
    refine va_get (D := D) (ci := 3) (v := .ref (a 4)) (C := RX3) (T := TX3) (N := 5) hx hb hts in_X5_block_X3 hown hK hP 3 rfl rfl 0 (by decide) (hts (.fieldLink RX5 103 "Warpyard$Trains" "block" "[I") (by decide +kernel)) (fun _ h9 => h9) rfl dX5_block_9 ?_
    refine lv_iload_n hx hb dX5_block_12 rfl (lv_at hl 1 rfl) ?_
    refine na_iald hx hb hK hP 4 0 (f := (σ 4)) rfl rfl k (by omega) (by decide) rfl dX5_block_13 ?_
    exact XI.ret hx hb hr hlocks hK hP hD hS dX5_block_14 (by rw [nI_clamp (show k < 2 ^ 31 by omega)]; exact ⟨cif_t g_2, rfl, rfl⟩)
  · skip
    exact XV.outV (As := [.int t]) (rest := []) ⟨hx, hb, hml, hown, hts⟩ (c_X5_needTrain_bad l D cI cZ a H.size σ hfl t n hn hn4 g_2) (cwV 1 hts gX5_block_X5_needTrain rfl rfl rfl (by decide +kernel) ⟨Nat.le_of_ble_eq_true rfl, Nat.le_of_ble_eq_true rfl⟩) hP hK hD hS hA hEV hZ (va_recv hK hP (ci := 5) (q0 := 0) rfl rfl) rfl hl.1 (Nat.le_of_ble_eq_true rfl) (Nat.le_of_ble_eq_true rfl) (Nat.le_of_ble_eq_true rfl) dX5_block_2 rfl hlocks hexc (fun E hE => ⟨hE, cif_f g_2⟩)
set_option maxRecDepth 20000 in
theorem in_X5_isRight_X3 : ∀ w ∈ wsX30, w ∈ wsX5_isRight := by decide +kernel
set_option maxRecDepth 20000 in
theorem in_X5_isRight_X5 : ∀ w ∈ wsX50, w ∈ wsX5_isRight := by decide +kernel
set_option maxHeartbeats 4000000 in
set_option maxRecDepth 100000 in
/-- Warpyard.isRight -/
theorem c_X5_isRight (l : Launch) (D : va_G) (cI cZ : ClassId) (a : Nat → Nat) (sz : Nat) (σ : St) (hfl : l.stackTraces = false) (t : Int32) (n : Nat) (hn : σ 3 0 = nI n) (hn4 : n ≤ 4) (hR : ∀ i, i < 4 → σ 5 i = 0 ∨ σ 5 i = 1) : XI l yX5_isRight wsX5_isRight ({ frames := 8, cells := 1, slots := 6, locals := 131 }) D (ty2 cI cZ) (wX cI cZ a) [.ref (a 0), .int t] σ sz (fun r u => cdTr n t = 0 ∧ u = σ ∧ r = σ 5 t.toNatClampNeg) (x1 (cdTr n t)) := by
  refine XI.of (cc := cX5_isRight) (maxL := 2) (by decide) rfl (Nat.le_of_ble_eq_true rfl) ?_
  intro p e s m args below meth c A H locs ls hx hb hr hml hown hts hlocks hexc hEV hZ hA hS hP hK hD hl
  have hl : lv_has ls 2 [(0, .ref (a 0)), (1, .int t)] := hl
  refine lv_aload_n hx hb dX5_isRight_0 rfl (lv_at hl 0 rfl) ?_
  refine lv_iload_n hx hb dX5_isRight_1 rfl (lv_at hl 1 rfl) ?_
  by_cases g_2 : tr n t
  · skip
    refine MV.callV (As := [.int t]) (rest := []) ⟨hx, hb, hml, hown, hts⟩ (c_X5_needTrain_ok l D cI cZ a H.size σ t n hn hn4 g_2) (cwV 1 hts gX5_isRight_X5_needTrain rfl rfl rfl (by decide +kernel) ⟨Nat.le_of_ble_eq_true rfl, Nat.le_of_ble_eq_true rfl⟩) hP hK hD hS hA (va_recv hK hP (ci := 5) (q0 := 0) rfl rfl) rfl hl.1 (Nat.le_of_ble_eq_true rfl) (Nat.zero_le _) (Nat.zero_le _) dX5_isRight_2 rfl (fun u_2 H locs h_2 hP hD hS => ?_)
    have e_2 := h_2
    have e_2 := Eq.symm e_2
    subst e_2
    obtain ⟨k, hk, rfl⟩ := id g_2
    refine lv_aload_n hx hb dX5_isRight_5 rfl (lv_at hl 0 rfl) ?_
    refine va_get (D := D) (ci := 5) (v := .ref (a 3)) (C := RX5) (T := TX5) (N := 8) hx hb hts in_X5_isRight_X5 hown hK hP 0 rfl rfl 1 (by decide) (hts (.fieldLink RX5 19 "Warpyard" "trains" "LWarpyard$Trains;") (by decide +kernel)) (fun _ h9 => h9) rfl dX5_isRight_6 ?_
    refine va_get (D := D) (ci := 3) (v := .ref (a 5)) (C := RX3) (T := TX3) (N := 5) hx hb hts in_X5_isRight_X3 hown hK hP 3 rfl rfl 1 (by decide) (hts (.fieldLink RX5 106 "Warpyard$Trains" "right" "[Z") (by decide +kernel)) (fun _ h9 => h9) rfl dX5_isRight_9 ?_
    refine lv_iload_n hx hb dX5_isRight_12 rfl (lv_at hl 1 rfl) ?_
    refine na_zald hx hb hK hP 5 1 (f := (σ 5)) rfl rfl k (by omega) (by decide) rfl dX5_isRight_13 ?_
    exact XI.zret hx hb hr hlocks hK hP hD hS dX5_isRight_14 (nar_b (hR k (by omega))) (by rw [nI_clamp (show k < 2 ^ 31 by omega)]; exact ⟨cif_t g_2, rfl, rfl⟩)
  · skip
    exact XV.outV (As := [.int t]) (rest := []) ⟨hx, hb, hml, hown, hts⟩ (c_X5_needTrain_bad l D cI cZ a H.size σ hfl t n hn hn4 g_2) (cwV 1 hts gX5_isRight_X5_needTrain rfl rfl rfl (by decide +kernel) ⟨Nat.le_of_ble_eq_true rfl, Nat.le_of_ble_eq_true rfl⟩) hP hK hD hS hA hEV hZ (va_recv hK hP (ci := 5) (q0 := 0) rfl rfl) rfl hl.1 (Nat.le_of_ble_eq_true rfl) (Nat.le_of_ble_eq_true rfl) (Nat.le_of_ble_eq_true rfl) dX5_isRight_2 rfl hlocks hexc (fun E hE => ⟨hE, cif_f g_2⟩)
set_option maxRecDepth 20000 in
theorem in_X5_trainOn_X5 : ∀ w ∈ wsX50, w ∈ wsX5_trainOn := by decide +kernel
set_option maxHeartbeats 4000000 in
set_option maxRecDepth 100000 in
/-- Warpyard.trainOn -/
theorem c_X5_trainOn (l : Launch) (D : va_G) (cI cZ : ClassId) (a : Nat → Nat) (sz : Nat) (σ : St) (hfl : l.stackTraces = false) (b : Int32) (n : Nat) (hn : σ 3 0 = nI n) (hn4 : n ≤ 4) : XI l yX5_trainOn wsX5_trainOn ({ frames := 8, cells := 1, slots := 6, locals := 130 }) D (ty2 cI cZ) (wX cI cZ a) [.ref (a 0), .int b] σ sz (fun r u => cdBl b = 0 ∧ u = σ ∧ r = so (σ 4) b n) (x1 (cdBl b)) := by
  refine XI.of (cc := cX5_trainOn) (maxL := 2) (by decide) rfl (Nat.le_of_ble_eq_true rfl) ?_
  intro p e s m args below meth c A H locs ls hx hb hr hml hown hts hlocks hexc hEV hZ hA hS hP hK hD hl
  have hl : lv_has ls 2 [(0, .ref (a 0)), (1, .int b)] := hl
  refine lv_iload_n hx hb dX5_trainOn_0 rfl (lv_at hl 1 rfl) ?_
  by_cases g_1 : inR b 0 7
  · skip
    refine MV.callS (As := [.int b]) (rest := []) ⟨hx, hb, hml, hown, hts⟩ (c_X5_needBlock_ok l D cI cZ a H.size σ b g_1) (va_cwS 1 hts gX5_trainOn_X5_needBlock rfl rfl rfl (by decide +kernel) ⟨Nat.le_of_ble_eq_true rfl, Nat.le_of_ble_eq_true rfl⟩) hP hK hD hS hA rfl hl.1 (Nat.le_of_ble_eq_true rfl) (Nat.zero_le _) (Nat.zero_le _) dX5_trainOn_1 rfl (fun u_1 H locs h_1 hP hD hS => ?_)
    have e_1 := h_1
    have e_1 := Eq.symm e_1
    subst e_1
    refine lv_aload_n hx hb dX5_trainOn_4 rfl (lv_at hl 0 rfl) ?_
    refine va_get (D := D) (ci := 5) (v := .ref (a 3)) (C := RX5) (T := TX5) (N := 8) hx hb hts in_X5_trainOn_X5 hown hK hP 0 rfl rfl 1 (by decide) (hts (.fieldLink RX5 19 "Warpyard" "trains" "LWarpyard$Trains;") (by decide +kernel)) (fun _ h9 => h9) rfl dX5_trainOn_5 ?_
    refine lv_iload_n hx hb dX5_trainOn_8 rfl (lv_at hl 1 rfl) ?_
    refine MI.callV (As := [.int b]) (rest := []) ⟨hx, hb, hml, hown, hts⟩ (c_X3_standingOn l D cI cZ a H.size σ b n hn hn4) (cwV 1 hts gX5_trainOn_X3_standingOn rfl rfl rfl (by decide +kernel) ⟨Nat.le_of_ble_eq_true rfl, Nat.le_of_ble_eq_true rfl⟩) hP hK hD hS hA (va_recv hK hP (ci := 3) (q0 := 3) rfl rfl) rfl hl.1 (Nat.le_of_ble_eq_true rfl) (Nat.zero_le _) (Nat.zero_le _) dX5_trainOn_9 rfl (fun r_9 u_9 H locs h_9 hP hD hS => ?_)
    obtain ⟨e_9, h_9⟩ := h_9
    have e_9 := Eq.symm e_9
    subst e_9
    have h_9 : r_9 = so (σ 4) b n := h_9
    exact XI.ret hx hb hr hlocks hK hP hD hS dX5_trainOn_12 (by exact ⟨cif_t g_1, rfl, h_9⟩)
  · skip
    exact XV.outS (As := [.int b]) (rest := []) ⟨hx, hb, hml, hown, hts⟩ (c_X5_needBlock_bad l D cI cZ a H.size σ hfl b g_1) (va_cwS 1 hts gX5_trainOn_X5_needBlock rfl rfl rfl (by decide +kernel) ⟨Nat.le_of_ble_eq_true rfl, Nat.le_of_ble_eq_true rfl⟩) hP hK hD hS hA hEV hZ rfl hl.1 (Nat.le_of_ble_eq_true rfl) (Nat.le_of_ble_eq_true rfl) (Nat.le_of_ble_eq_true rfl) dX5_trainOn_1 rfl hlocks hexc (fun E hE => ⟨hE, cif_f g_1⟩)
set_option maxRecDepth 20000 in
theorem in_X5_clock_X5 : ∀ w ∈ wsX50, w ∈ wsX5_clock := by decide +kernel
set_option maxHeartbeats 4000000 in
set_option maxRecDepth 100000 in
/-- Warpyard.clock -/
theorem c_X5_clock (l : Launch) (D : va_G) (cI cZ : ClassId) (a : Nat → Nat) (sz : Nat) (σ : St)  : MI l yX5_clock wsX5_clock ({ frames := 0, cells := 0, slots := 0, locals := 0 }) D (ty2 cI cZ) (wX cI cZ a) [.ref (a 0)] σ sz (fun r u => u = σ ∧ r = σ 0 0) := by
  refine MI.of (cc := cX5_clock) (maxL := 1) (by decide) rfl (Nat.le_of_ble_eq_true rfl) ?_
  intro p e s m args below meth c A H locs ls hx hb hr hml hown hts hlocks hA hS hP hK hD hl
  have hl : lv_has ls 1 [(0, .ref (a 0))] := hl
  refine lv_aload_n hx hb dX5_clock_0 rfl (lv_at hl 0 rfl) ?_
  refine va_get (D := D) (ci := 5) (v := .int (σ 0 0)) (C := RX5) (T := TX5) (N := 8) hx hb hts in_X5_clock_X5 hown hK hP 0 rfl rfl 6 (by decide) (hts (.fieldLink RX5 109 "Warpyard" "now" "I") (by decide +kernel)) (fun _ h9 => h9) rfl dX5_clock_1 ?_
  exact MI.ret hx hb hr hlocks hK hP hD hS dX5_clock_4 (by exact ⟨rfl, rfl⟩)
set_option maxRecDepth 20000 in
theorem in_X5_earned_X5 : ∀ w ∈ wsX50, w ∈ wsX5_earned := by decide +kernel
set_option maxHeartbeats 4000000 in
set_option maxRecDepth 100000 in
/-- Warpyard.earned -/
theorem c_X5_earned (l : Launch) (D : va_G) (cI cZ : ClassId) (a : Nat → Nat) (sz : Nat) (σ : St)  : MI l yX5_earned wsX5_earned ({ frames := 0, cells := 0, slots := 0, locals := 0 }) D (ty2 cI cZ) (wX cI cZ a) [.ref (a 0)] σ sz (fun r u => u = σ ∧ r = σ 1 0) := by
  refine MI.of (cc := cX5_earned) (maxL := 1) (by decide) rfl (Nat.le_of_ble_eq_true rfl) ?_
  intro p e s m args below meth c A H locs ls hx hb hr hml hown hts hlocks hA hS hP hK hD hl
  have hl : lv_has ls 1 [(0, .ref (a 0))] := hl
  refine lv_aload_n hx hb dX5_earned_0 rfl (lv_at hl 0 rfl) ?_
  refine va_get (D := D) (ci := 5) (v := .int (σ 1 0)) (C := RX5) (T := TX5) (N := 8) hx hb hts in_X5_earned_X5 hown hK hP 0 rfl rfl 7 (by decide) (hts (.fieldLink RX5 209 "Warpyard" "money" "I") (by decide +kernel)) (fun _ h9 => h9) rfl dX5_earned_1 ?_
  exact MI.ret hx hb hr hlocks hK hP hD hS dX5_earned_4 (by exact ⟨rfl, rfl⟩)
set_option maxRecDepth 20000 in
theorem in_X5_book_X0 : ∀ w ∈ wsX00, w ∈ wsX5_book := by decide +kernel
set_option maxRecDepth 20000 in
theorem in_X5_book_X5 : ∀ w ∈ wsX50, w ∈ wsX5_book := by decide +kernel
set_option maxRecDepth 20000 in
theorem k_X5_book_55 : Cond.classLink RX5 55 "java/lang/IllegalStateException" ∈ wsX5_book := by decide +kernel
set_option maxRecDepth 20000 in
theorem j_X5_book_55 : Cond.initialized "java/lang/IllegalStateException" ∈ wsX5_book := by decide +kernel
set_option maxRecDepth 20000 in
theorem v_X5_book_55 : ∀ w ∈ (vx_atS RX5 59 "java/lang/IllegalStateException" xnames).filter goodWord, w ∈ wsX5_book := by decide +kernel
theorem w_X5_book_55 {s : State} {args : Array Value} (hts : ∀ w ∈ wsX5_book, w.before args s = true) (hEV : EV s) : ∀ w ∈ vx_atS RX5 59 "java/lang/IllegalStateException" xnames, w.before args s = true := vx_hat (fun w h => hts w (v_X5_book_55 w h)) (B := EVw) (by decide +kernel) (fun w h => va_Nw.use (EV.tab (s := s) w h) (hEV.1 w h))
theorem o_X5_book_55 : ∀ w ∈ Cond.classLink RX5 55 "java/lang/IllegalStateException" :: Cond.initialized "java/lang/IllegalStateException" :: vx_atS RX5 59 "java/lang/IllegalStateException" xnames, vx_ot w = true := by decide +kernel
set_option maxHeartbeats 4000000 in
set_option maxRecDepth 100000 in
/-- Warpyard.book -/
theorem c_X5_book (l : Launch) (D : va_G) (cI cZ : ClassId) (a : Nat → Nat) (sz : Nat) (σ : St) (hfl : l.stackTraces = false) (t b fr to : Int32) (n : Nat) (hn : σ 3 0 = nI n) (hn4 : n ≤ 4) (nb : Nat) (hnb : σ 13 0 = nI nb) (hnb30 : nb ≤ 30) : XI l yX5_book wsX5_book ({ frames := 8, cells := 1, slots := 6, locals := 132 }) D (ty2 cI cZ) (wX cI cZ a) [.ref (a 0), .int t, .int b, .int fr, .int to] σ sz (fun r u => cdBook σ n nb t b fr to = 0 ∧ ((mts (σ 14) (σ 15) (σ 16) (σ 17) nb t b fr to ∧ u = σ ∧ r = -1) ∨ (¬ mts (σ 14) (σ 15) (σ 16) (σ 17) nb t b fr to ∧ u = (va_up (va_up (va_up (va_up (va_up (va_up σ 13 (fun _ => nI (nb + 1))) 14 (upd (σ 14) nb t)) 15 (upd (σ 15) nb b)) 16 (upd (σ 16) nb fr)) 17 (upd (σ 17) nb to)) 18 (upd (σ 18) nb (-1))) ∧ r = nI nb))) (xD (cdBook σ n nb t b fr to)) := by
  refine XI.of (cc := cX5_book) (maxL := 5) (by decide) rfl (Nat.le_of_ble_eq_true rfl) ?_
  intro p e s m args below meth c A H locs ls hx hb hr hml hown hts hlocks hexc hEV hZ hA hS hP hK hD hl
  have hl : lv_has ls 5 [(0, .ref (a 0)), (1, .int t), (2, .int b), (3, .int fr), (4, .int to)] := hl
  refine lv_aload_n hx hb dX5_book_0 rfl (lv_at hl 0 rfl) ?_
  refine lv_iload_n hx hb dX5_book_1 rfl (lv_at hl 1 rfl) ?_
  by_cases g_2 : tr n t
  · skip
    refine MV.callV (As := [.int t]) (rest := []) ⟨hx, hb, hml, hown, hts⟩ (c_X5_needTrain_ok l D cI cZ a H.size σ t n hn hn4 g_2) (cwV 1 hts gX5_book_X5_needTrain rfl rfl rfl (by decide +kernel) ⟨Nat.le_of_ble_eq_true rfl, Nat.le_of_ble_eq_true rfl⟩) hP hK hD hS hA (va_recv hK hP (ci := 5) (q0 := 0) rfl rfl) rfl hl.1 (Nat.le_of_ble_eq_true rfl) (Nat.zero_le _) (Nat.zero_le _) dX5_book_2 rfl (fun u_2 H locs h_2 hP hD hS => ?_)
    have e_2 := h_2
    have e_2 := Eq.symm e_2
    subst e_2
    refine lv_iload_n hx hb dX5_book_5 rfl (lv_at hl 2 rfl) ?_
    by_cases g_6 : inR b 0 7
    · skip
      refine MV.callS (As := [.int b]) (rest := []) ⟨hx, hb, hml, hown, hts⟩ (c_X5_needBlock_ok l D cI cZ a H.size σ b g_6) (va_cwS 1 hts gX5_book_X5_needBlock rfl rfl rfl (by decide +kernel) ⟨Nat.le_of_ble_eq_true rfl, Nat.le_of_ble_eq_true rfl⟩) hP hK hD hS hA rfl hl.1 (Nat.le_of_ble_eq_true rfl) (Nat.zero_le _) (Nat.zero_le _) dX5_book_6 rfl (fun u_6 H locs h_6 hP hD hS => ?_)
      have e_6 := h_6
      have e_6 := Eq.symm e_6
      subst e_6
      refine lv_aload_n hx hb dX5_book_9 rfl (lv_at hl 0 rfl) ?_
      refine va_get (D := D) (ci := 5) (v := .int (σ 0 0)) (C := RX5) (T := TX5) (N := 8) hx hb hts in_X5_book_X5 hown hK hP 0 rfl rfl 6 (by decide) (hts (.fieldLink RX5 109 "Warpyard" "now" "I") (by decide +kernel)) (fun _ h9 => h9) rfl dX5_book_10 ?_
      refine lv_iload_n hx hb dX5_book_13 rfl (lv_at hl 3 rfl) ?_
      refine lv_iload hx hb dX5_book_14 (lv_at hl 4 rfl) ?_
      by_cases g_16 : inR fr (σ 0 0) 5000 ∧ inR to fr 5000
      · skip
        refine MV.callS (As := [.int (σ 0 0), .int fr, .int to]) (rest := []) ⟨hx, hb, hml, hown, hts⟩ (c_X5_needSpan_ok l D cI cZ a H.size σ (σ 0 0) fr to g_16) (va_cwS 3 hts gX5_book_X5_needSpan rfl rfl rfl (by decide +kernel) ⟨Nat.le_of_ble_eq_true rfl, Nat.le_of_ble_eq_true rfl⟩) hP hK hD hS hA rfl hl.1 (Nat.le_of_ble_eq_true rfl) (Nat.zero_le _) (Nat.zero_le _) dX5_book_16 rfl (fun u_16 H locs h_16 hP hD hS => ?_)
        have e_16 := h_16
        have e_16 := Eq.symm e_16
        subst e_16
        refine lv_aload_n hx hb dX5_book_19 rfl (lv_at hl 0 rfl) ?_
        refine va_get (D := D) (ci := 5) (v := .ref (a 13)) (C := RX5) (T := TX5) (N := 8) hx hb hts in_X5_book_X5 hown hK hP 0 rfl rfl 3 (by decide) (hts (.fieldLink RX5 29 "Warpyard" "bookings" "LWarpyard$Bookings;") (by decide +kernel)) (fun _ h9 => h9) rfl dX5_book_20 ?_
        refine va_get (D := D) (ci := 0) (v := .int (σ 13 0)) (C := RX0) (T := TX0) (N := 6) hx hb hts in_X5_book_X0 hown hK hP 13 rfl rfl 5 (by decide) (hts (.fieldLink RX5 130 "Warpyard$Bookings" "count" "I") (by decide +kernel)) (fun _ h9 => h9) rfl dX5_book_23 ?_
        refine lv_topi (fun v_26 e_26 => ?_)
        obtain rfl : v_26 = nI nb := by rw [e_26]; exact hnb
        refine lv_bipush (v := 30) hx hb dX5_book_26 (by decide) ?_
        refine lv_icmp_lt (tgt := 41) hx hb dX5_book_28 (by decide) (fun c_28 => ?_) (fun c_28 => ?_)
        · skip
          rw [show (30 : Int32) = nI 30 from rfl, nI_ltI (by omega) (by omega)] at c_28
          refine lv_aload_n hx hb dX5_book_41 rfl (lv_at hl 0 rfl) ?_
          refine va_get (D := D) (ci := 5) (v := .ref (a 13)) (C := RX5) (T := TX5) (N := 8) hx hb hts in_X5_book_X5 hown hK hP 0 rfl rfl 3 (by decide) (hts (.fieldLink RX5 29 "Warpyard" "bookings" "LWarpyard$Bookings;") (by decide +kernel)) (fun _ h9 => h9) rfl dX5_book_42 ?_
          refine lv_iload_n hx hb dX5_book_45 rfl (lv_at hl 1 rfl) ?_
          refine lv_iload_n hx hb dX5_book_46 rfl (lv_at hl 2 rfl) ?_
          refine lv_iload_n hx hb dX5_book_47 rfl (lv_at hl 3 rfl) ?_
          refine lv_iload hx hb dX5_book_48 (lv_at hl 4 rfl) ?_
          refine MI.callV (As := [.int t, .int b, .int fr, .int to]) (rest := []) ⟨hx, hb, hml, hown, hts⟩ (c_X0_meetsAnother l D cI cZ a H.size σ t b fr to nb hnb hnb30) (cwV 4 hts gX5_book_X0_meetsAnother rfl rfl rfl (by decide +kernel) ⟨Nat.le_of_ble_eq_true rfl, Nat.le_of_ble_eq_true rfl⟩) hP hK hD hS hA (va_recv hK hP (ci := 0) (q0 := 13) rfl rfl) rfl hl.1 (Nat.le_of_ble_eq_true rfl) (Nat.zero_le _) (Nat.zero_le _) dX5_book_50 rfl (fun r_50 u_50 H locs h_50 hP hD hS => ?_)
          rcases h_50 with ⟨e_50, ⟨rfl, h_50⟩ | ⟨rfl, h_50⟩⟩
          · skip
            have e_50 := Eq.symm e_50
            subst e_50
            have h_50 : mts (σ 14) (σ 15) (σ 16) (σ 17) nb t b fr to := h_50
            refine lv_if_eq (tgt := 58) hx hb dX5_book_53 (by decide) (fun c9 => absurd c9 (by decide)) (fun _ => ?_)
            refine lv_iconst (v := (-1)) hx hb dX5_book_56 (by decide) ?_
            exact XI.ret hx hb hr hlocks hK hP hD hS dX5_book_57 (by exact ⟨by rw [cdBook, cif_t ⟨g_2, g_6⟩, cif_t g_16, cif_f (by omega)], Or.inl ⟨h_50, rfl, rfl⟩⟩)
          · skip
            have e_50 := Eq.symm e_50
            subst e_50
            have h_50 : ¬ mts (σ 14) (σ 15) (σ 16) (σ 17) nb t b fr to := h_50
            refine lv_if_eq (tgt := 58) hx hb dX5_book_53 (by decide) (fun _ => ?_) (fun c9 => absurd (by decide) c9)
            refine lv_aload_n hx hb dX5_book_58 rfl (lv_at hl 0 rfl) ?_
            refine va_get (D := D) (ci := 5) (v := .ref (a 13)) (C := RX5) (T := TX5) (N := 8) hx hb hts in_X5_book_X5 hown hK hP 0 rfl rfl 3 (by decide) (hts (.fieldLink RX5 29 "Warpyard" "bookings" "LWarpyard$Bookings;") (by decide +kernel)) (fun _ h9 => h9) rfl dX5_book_59 ?_
            refine lv_iload_n hx hb dX5_book_62 rfl (lv_at hl 1 rfl) ?_
            refine lv_iload_n hx hb dX5_book_63 rfl (lv_at hl 2 rfl) ?_
            refine lv_iload_n hx hb dX5_book_64 rfl (lv_at hl 3 rfl) ?_
            refine lv_iload hx hb dX5_book_65 (lv_at hl 4 rfl) ?_
            refine MI.callV (As := [.int t, .int b, .int fr, .int to]) (rest := []) ⟨hx, hb, hml, hown, hts⟩ (c_X0_add l D cI cZ a H.size σ t b fr to nb hnb (by omega)) (cwV 4 hts gX5_book_X0_add rfl rfl rfl (by decide +kernel) ⟨Nat.le_of_ble_eq_true rfl, Nat.le_of_ble_eq_true rfl⟩) hP hK hD hS hA (va_recv hK hP (ci := 0) (q0 := 13) rfl rfl) rfl hl.1 (Nat.le_of_ble_eq_true rfl) (Nat.zero_le _) (Nat.zero_le _) dX5_book_67 rfl (fun r_67 u_67 H locs h_67 hP hD hS => ?_)
            obtain ⟨e_67, rfl⟩ := h_67
            have e_67 := Eq.symm e_67
            subst e_67
            have hP : va_P D vwCl (wX cI cZ a (va_up (va_up (va_up (va_up (va_up (va_up σ 13 (fun _ => nI (nb + 1))) 14 (upd (σ 14) nb t)) 15 (upd (σ 15) nb b)) 16 (upd (σ 16) nb fr)) 17 (upd (σ 17) nb to)) 18 (upd (σ 18) nb (-1)))) H := hP
            have hD : va_D A (wX cI cZ a (va_up (va_up (va_up (va_up (va_up (va_up σ 13 (fun _ => nI (nb + 1))) 14 (upd (σ 14) nb t)) 15 (upd (σ 15) nb b)) 16 (upd (σ 16) nb fr)) 17 (upd (σ 17) nb to)) 18 (upd (σ 18) nb (-1)))) := hD
            exact XI.ret hx hb hr hlocks hK hP hD hS dX5_book_70 (by exact ⟨by rw [cdBook, cif_t ⟨g_2, g_6⟩, cif_t g_16, cif_f (by omega)], Or.inr ⟨h_50, rfl, rfl⟩⟩)
        · skip
          rw [show (30 : Int32) = nI 30 from rfl, nI_ltI (by omega) (by omega)] at c_28
          exact X.throwS (cls := "java/lang/IllegalStateException") (text := "there are 30 bookings") (names := xnames) (ik := 55) (is := 131) (ic := 59) hx hb hfl hown (by decide +kernel) (by decide +kernel) (hts _ k_X5_book_55) (hts _ j_X5_book_55) (by decide +kernel) (w_X5_book_55 hts hEV) o_X5_book_55 hEV hZ hK hP hD hS (hl.1.trans hml.symm) dX5_book_31 dX5_book_34 dX5_book_35 dX5_book_37 dX5_book_40 hexc (Nat.le_of_ble_eq_true rfl) (Nat.le_of_ble_eq_true rfl) (Nat.le_of_ble_eq_true rfl) (Nat.le_of_ble_eq_true rfl) hlocks (Or.inr (Or.inr ⟨rfl, by rw [cdBook, cif_t ⟨g_2, g_6⟩, cif_t g_16, cif_t (by omega)]⟩))
      · skip
        exact XV.outS (As := [.int (σ 0 0), .int fr, .int to]) (rest := []) ⟨hx, hb, hml, hown, hts⟩ (c_X5_needSpan_bad l D cI cZ a H.size σ hfl (σ 0 0) fr to g_16) (va_cwS 3 hts gX5_book_X5_needSpan rfl rfl rfl (by decide +kernel) ⟨Nat.le_of_ble_eq_true rfl, Nat.le_of_ble_eq_true rfl⟩) hP hK hD hS hA hEV hZ rfl hl.1 (Nat.le_of_ble_eq_true rfl) (Nat.le_of_ble_eq_true rfl) (Nat.le_of_ble_eq_true rfl) dX5_book_16 rfl hlocks hexc (fun E hE => Or.inr (Or.inl ⟨hE, by rw [cdBook, cif_t ⟨g_2, g_6⟩, cif_f g_16]⟩))
    · skip
      exact XV.outS (As := [.int b]) (rest := []) ⟨hx, hb, hml, hown, hts⟩ (c_X5_needBlock_bad l D cI cZ a H.size σ hfl b g_6) (va_cwS 1 hts gX5_book_X5_needBlock rfl rfl rfl (by decide +kernel) ⟨Nat.le_of_ble_eq_true rfl, Nat.le_of_ble_eq_true rfl⟩) hP hK hD hS hA hEV hZ rfl hl.1 (Nat.le_of_ble_eq_true rfl) (Nat.le_of_ble_eq_true rfl) (Nat.le_of_ble_eq_true rfl) dX5_book_6 rfl hlocks hexc (fun E hE => Or.inl ⟨hE, by rw [cdBook, cif_f (fun h => g_6 h.2)]⟩)
  · skip
    exact XV.outV (As := [.int t]) (rest := []) ⟨hx, hb, hml, hown, hts⟩ (c_X5_needTrain_bad l D cI cZ a H.size σ hfl t n hn hn4 g_2) (cwV 1 hts gX5_book_X5_needTrain rfl rfl rfl (by decide +kernel) ⟨Nat.le_of_ble_eq_true rfl, Nat.le_of_ble_eq_true rfl⟩) hP hK hD hS hA hEV hZ (va_recv hK hP (ci := 5) (q0 := 0) rfl rfl) rfl hl.1 (Nat.le_of_ble_eq_true rfl) (Nat.le_of_ble_eq_true rfl) (Nat.le_of_ble_eq_true rfl) dX5_book_2 rfl hlocks hexc (fun E hE => Or.inl ⟨hE, by rw [cdBook, cif_f (fun h => g_2 h.1)]⟩)
set_option maxRecDepth 20000 in
theorem in_X5_canBook_X5 : ∀ w ∈ wsX50, w ∈ wsX5_canBook := by decide +kernel
set_option maxHeartbeats 4000000 in
set_option maxRecDepth 100000 in
/-- Warpyard.canBook -/
theorem c_X5_canBook (l : Launch) (D : va_G) (cI cZ : ClassId) (a : Nat → Nat) (sz : Nat) (σ : St) (hfl : l.stackTraces = false) (t b fr to : Int32) (n : Nat) (hn : σ 3 0 = nI n) (hn4 : n ≤ 4) (nb : Nat) (hnb : σ 13 0 = nI nb) (hnb30 : nb ≤ 30) : XI l yX5_canBook wsX5_canBook ({ frames := 8, cells := 1, slots := 6, locals := 132 }) D (ty2 cI cZ) (wX cI cZ a) [.ref (a 0), .int t, .int b, .int fr, .int to] σ sz (fun r u => cdCan n t b fr to = 0 ∧ u = σ ∧ r = bI (¬ mts (σ 14) (σ 15) (σ 16) (σ 17) nb t b fr to)) (xB (cdCan n t b fr to)) := by
  refine XI.of (cc := cX5_canBook) (maxL := 5) (by decide) rfl (Nat.le_of_ble_eq_true rfl) ?_
  intro p e s m args below meth c A H locs ls hx hb hr hml hown hts hlocks hexc hEV hZ hA hS hP hK hD hl
  have hl : lv_has ls 5 [(0, .ref (a 0)), (1, .int t), (2, .int b), (3, .int fr), (4, .int to)] := hl
  refine lv_aload_n hx hb dX5_canBook_0 rfl (lv_at hl 0 rfl) ?_
  refine lv_iload_n hx hb dX5_canBook_1 rfl (lv_at hl 1 rfl) ?_
  by_cases g_2 : tr n t
  · skip
    refine MV.callV (As := [.int t]) (rest := []) ⟨hx, hb, hml, hown, hts⟩ (c_X5_needTrain_ok l D cI cZ a H.size σ t n hn hn4 g_2) (cwV 1 hts gX5_canBook_X5_needTrain rfl rfl rfl (by decide +kernel) ⟨Nat.le_of_ble_eq_true rfl, Nat.le_of_ble_eq_true rfl⟩) hP hK hD hS hA (va_recv hK hP (ci := 5) (q0 := 0) rfl rfl) rfl hl.1 (Nat.le_of_ble_eq_true rfl) (Nat.zero_le _) (Nat.zero_le _) dX5_canBook_2 rfl (fun u_2 H locs h_2 hP hD hS => ?_)
    have e_2 := h_2
    have e_2 := Eq.symm e_2
    subst e_2
    refine lv_iload_n hx hb dX5_canBook_5 rfl (lv_at hl 2 rfl) ?_
    by_cases g_6 : inR b 0 7
    · skip
      refine MV.callS (As := [.int b]) (rest := []) ⟨hx, hb, hml, hown, hts⟩ (c_X5_needBlock_ok l D cI cZ a H.size σ b g_6) (va_cwS 1 hts gX5_canBook_X5_needBlock rfl rfl rfl (by decide +kernel) ⟨Nat.le_of_ble_eq_true rfl, Nat.le_of_ble_eq_true rfl⟩) hP hK hD hS hA rfl hl.1 (Nat.le_of_ble_eq_true rfl) (Nat.zero_le _) (Nat.zero_le _) dX5_canBook_6 rfl (fun u_6 H locs h_6 hP hD hS => ?_)
      have e_6 := h_6
      have e_6 := Eq.symm e_6
      subst e_6
      refine lv_iconst (v := 0) hx hb dX5_canBook_9 (by decide) ?_
      refine lv_iload_n hx hb dX5_canBook_10 rfl (lv_at hl 3 rfl) ?_
      refine lv_iload hx hb dX5_canBook_11 (lv_at hl 4 rfl) ?_
      by_cases g_13 : inR fr 0 5000 ∧ inR to fr 5000
      · skip
        refine MV.callS (As := [.int 0, .int fr, .int to]) (rest := []) ⟨hx, hb, hml, hown, hts⟩ (c_X5_needSpan_ok l D cI cZ a H.size σ 0 fr to g_13) (va_cwS 3 hts gX5_canBook_X5_needSpan rfl rfl rfl (by decide +kernel) ⟨Nat.le_of_ble_eq_true rfl, Nat.le_of_ble_eq_true rfl⟩) hP hK hD hS hA rfl hl.1 (Nat.le_of_ble_eq_true rfl) (Nat.zero_le _) (Nat.zero_le _) dX5_canBook_13 rfl (fun u_13 H locs h_13 hP hD hS => ?_)
        have e_13 := h_13
        have e_13 := Eq.symm e_13
        subst e_13
        refine lv_aload_n hx hb dX5_canBook_16 rfl (lv_at hl 0 rfl) ?_
        refine va_get (D := D) (ci := 5) (v := .ref (a 13)) (C := RX5) (T := TX5) (N := 8) hx hb hts in_X5_canBook_X5 hown hK hP 0 rfl rfl 3 (by decide) (hts (.fieldLink RX5 29 "Warpyard" "bookings" "LWarpyard$Bookings;") (by decide +kernel)) (fun _ h9 => h9) rfl dX5_canBook_17 ?_
        refine lv_iload_n hx hb dX5_canBook_20 rfl (lv_at hl 1 rfl) ?_
        refine lv_iload_n hx hb dX5_canBook_21 rfl (lv_at hl 2 rfl) ?_
        refine lv_iload_n hx hb dX5_canBook_22 rfl (lv_at hl 3 rfl) ?_
        refine lv_iload hx hb dX5_canBook_23 (lv_at hl 4 rfl) ?_
        refine MI.callV (As := [.int t, .int b, .int fr, .int to]) (rest := []) ⟨hx, hb, hml, hown, hts⟩ (c_X0_meetsAnother l D cI cZ a H.size σ t b fr to nb hnb hnb30) (cwV 4 hts gX5_canBook_X0_meetsAnother rfl rfl rfl (by decide +kernel) ⟨Nat.le_of_ble_eq_true rfl, Nat.le_of_ble_eq_true rfl⟩) hP hK hD hS hA (va_recv hK hP (ci := 0) (q0 := 13) rfl rfl) rfl hl.1 (Nat.le_of_ble_eq_true rfl) (Nat.zero_le _) (Nat.zero_le _) dX5_canBook_25 rfl (fun r_25 u_25 H locs h_25 hP hD hS => ?_)
        rcases h_25 with ⟨e_25, ⟨rfl, h_25⟩ | ⟨rfl, h_25⟩⟩
        · skip
          have e_25 := Eq.symm e_25
          subst e_25
          have h_25 : mts (σ 14) (σ 15) (σ 16) (σ 17) nb t b fr to := h_25
          refine lv_if_ne (tgt := 35) hx hb dX5_canBook_28 (by decide) (fun _ => ?_) (fun c9 => absurd c9 (by decide))
          refine lv_iconst (v := 0) hx hb dX5_canBook_35 (by decide) ?_
          exact XI.zret hx hb hr hlocks hK hP hD hS dX5_canBook_36 rfl (by exact ⟨by rw [cdCan, cif_t ⟨g_2, g_6⟩, cif_t g_13], rfl, (bI_f (fun h => h h_25)).symm⟩)
        · skip
          have e_25 := Eq.symm e_25
          subst e_25
          have h_25 : ¬ mts (σ 14) (σ 15) (σ 16) (σ 17) nb t b fr to := h_25
          refine lv_if_ne (tgt := 35) hx hb dX5_canBook_28 (by decide) (fun c9 => absurd (by decide) c9) (fun _ => ?_)
          refine lv_iconst (v := 1) hx hb dX5_canBook_31 (by decide) ?_
          refine lv_goto (tgt := 36) hx hb dX5_canBook_32 (by decide) ?_
          exact XI.zret hx hb hr hlocks hK hP hD hS dX5_canBook_36 rfl (by exact ⟨by rw [cdCan, cif_t ⟨g_2, g_6⟩, cif_t g_13], rfl, (bI_t h_25).symm⟩)
      · skip
        exact XV.outS (As := [.int 0, .int fr, .int to]) (rest := []) ⟨hx, hb, hml, hown, hts⟩ (c_X5_needSpan_bad l D cI cZ a H.size σ hfl 0 fr to g_13) (va_cwS 3 hts gX5_canBook_X5_needSpan rfl rfl rfl (by decide +kernel) ⟨Nat.le_of_ble_eq_true rfl, Nat.le_of_ble_eq_true rfl⟩) hP hK hD hS hA hEV hZ rfl hl.1 (Nat.le_of_ble_eq_true rfl) (Nat.le_of_ble_eq_true rfl) (Nat.le_of_ble_eq_true rfl) dX5_canBook_13 rfl hlocks hexc (fun E hE => Or.inr ⟨hE, by rw [cdCan, cif_t ⟨g_2, g_6⟩, cif_f g_13]⟩)
    · skip
      exact XV.outS (As := [.int b]) (rest := []) ⟨hx, hb, hml, hown, hts⟩ (c_X5_needBlock_bad l D cI cZ a H.size σ hfl b g_6) (va_cwS 1 hts gX5_canBook_X5_needBlock rfl rfl rfl (by decide +kernel) ⟨Nat.le_of_ble_eq_true rfl, Nat.le_of_ble_eq_true rfl⟩) hP hK hD hS hA hEV hZ rfl hl.1 (Nat.le_of_ble_eq_true rfl) (Nat.le_of_ble_eq_true rfl) (Nat.le_of_ble_eq_true rfl) dX5_canBook_6 rfl hlocks hexc (fun E hE => Or.inl ⟨hE, by rw [cdCan, cif_f (fun h => g_6 h.2)]⟩)
  · skip
    exact XV.outV (As := [.int t]) (rest := []) ⟨hx, hb, hml, hown, hts⟩ (c_X5_needTrain_bad l D cI cZ a H.size σ hfl t n hn hn4 g_2) (cwV 1 hts gX5_canBook_X5_needTrain rfl rfl rfl (by decide +kernel) ⟨Nat.le_of_ble_eq_true rfl, Nat.le_of_ble_eq_true rfl⟩) hP hK hD hS hA hEV hZ (va_recv hK hP (ci := 5) (q0 := 0) rfl rfl) rfl hl.1 (Nat.le_of_ble_eq_true rfl) (Nat.le_of_ble_eq_true rfl) (Nat.le_of_ble_eq_true rfl) dX5_canBook_2 rfl hlocks hexc (fun E hE => Or.inl ⟨hE, by rw [cdCan, cif_f (fun h => g_2 h.1)]⟩)
set_option maxRecDepth 20000 in
theorem in_X5_canBookByMinutes_X5 : ∀ w ∈ wsX50, w ∈ wsX5_canBookByMinutes := by decide +kernel
set_option maxHeartbeats 4000000 in
set_option maxRecDepth 100000 in
/-- Warpyard.canBookByMinutes -/
theorem c_X5_canBookByMinutes (l : Launch) (D : va_G) (cI cZ : ClassId) (a : Nat → Nat) (sz : Nat) (σ : St) (hfl : l.stackTraces = false) (t b fr to : Int32) (n : Nat) (hn : σ 3 0 = nI n) (hn4 : n ≤ 4) (nb : Nat) (hnb : σ 13 0 = nI nb) (hnb30 : nb ≤ 30) (hFL : ∀ k, k < nb → ¬ σ 17 k < σ 16 k) : XI l yX5_canBookByMinutes wsX5_canBookByMinutes ({ frames := 8, cells := 1, slots := 6, locals := 132 }) D (ty2 cI cZ) (wX cI cZ a) [.ref (a 0), .int t, .int b, .int fr, .int to] σ sz (fun r u => cdCan n t b fr to = 0 ∧ u = σ ∧ r = bI (¬ mts (σ 14) (σ 15) (σ 16) (σ 17) nb t b fr to)) (xB (cdCan n t b fr to)) := by
  refine XI.of (cc := cX5_canBookByMinutes) (maxL := 6) (by decide) rfl (Nat.le_of_ble_eq_true rfl) ?_
  intro p e s m args below meth c A H locs ls hx hb hr hml hown hts hlocks hexc hEV hZ hA hS hP hK hD hl
  have hl : lv_has ls 6 [(0, .ref (a 0)), (1, .int t), (2, .int b), (3, .int fr), (4, .int to)] := hl
  refine lv_aload_n hx hb dX5_canBookByMinutes_0 rfl (lv_at hl 0 rfl) ?_
  refine lv_iload_n hx hb dX5_canBookByMinutes_1 rfl (lv_at hl 1 rfl) ?_
  by_cases g_2 : tr n t
  · skip
    refine MV.callV (As := [.int t]) (rest := []) ⟨hx, hb, hml, hown, hts⟩ (c_X5_needTrain_ok l D cI cZ a H.size σ t n hn hn4 g_2) (cwV 1 hts gX5_canBookByMinutes_X5_needTrain rfl rfl rfl (by decide +kernel) ⟨Nat.le_of_ble_eq_true rfl, Nat.le_of_ble_eq_true rfl⟩) hP hK hD hS hA (va_recv hK hP (ci := 5) (q0 := 0) rfl rfl) rfl hl.1 (Nat.le_of_ble_eq_true rfl) (Nat.zero_le _) (Nat.zero_le _) dX5_canBookByMinutes_2 rfl (fun u_2 H locs h_2 hP hD hS => ?_)
    have e_2 := h_2
    have e_2 := Eq.symm e_2
    subst e_2
    refine lv_iload_n hx hb dX5_canBookByMinutes_5 rfl (lv_at hl 2 rfl) ?_
    by_cases g_6 : inR b 0 7
    · skip
      refine MV.callS (As := [.int b]) (rest := []) ⟨hx, hb, hml, hown, hts⟩ (c_X5_needBlock_ok l D cI cZ a H.size σ b g_6) (va_cwS 1 hts gX5_canBookByMinutes_X5_needBlock rfl rfl rfl (by decide +kernel) ⟨Nat.le_of_ble_eq_true rfl, Nat.le_of_ble_eq_true rfl⟩) hP hK hD hS hA rfl hl.1 (Nat.le_of_ble_eq_true rfl) (Nat.zero_le _) (Nat.zero_le _) dX5_canBookByMinutes_6 rfl (fun u_6 H locs h_6 hP hD hS => ?_)
      have e_6 := h_6
      have e_6 := Eq.symm e_6
      subst e_6
      refine lv_iconst (v := 0) hx hb dX5_canBookByMinutes_9 (by decide) ?_
      refine lv_iload_n hx hb dX5_canBookByMinutes_10 rfl (lv_at hl 3 rfl) ?_
      refine lv_iload hx hb dX5_canBookByMinutes_11 (lv_at hl 4 rfl) ?_
      by_cases g_13 : inR fr 0 5000 ∧ inR to fr 5000
      · skip
        refine MV.callS (As := [.int 0, .int fr, .int to]) (rest := []) ⟨hx, hb, hml, hown, hts⟩ (c_X5_needSpan_ok l D cI cZ a H.size σ 0 fr to g_13) (va_cwS 3 hts gX5_canBookByMinutes_X5_needSpan rfl rfl rfl (by decide +kernel) ⟨Nat.le_of_ble_eq_true rfl, Nat.le_of_ble_eq_true rfl⟩) hP hK hD hS hA rfl hl.1 (Nat.le_of_ble_eq_true rfl) (Nat.zero_le _) (Nat.zero_le _) dX5_canBookByMinutes_13 rfl (fun u_13 H locs h_13 hP hD hS => ?_)
        have e_13 := h_13
        have e_13 := Eq.symm e_13
        subst e_13
        obtain ⟨f0, hf0, rfl⟩ := R_k (hi := 5000) (by decide) g_13.1
        obtain ⟨t0, ht0, ht5, rfl⟩ := R_k2 (by omega) g_13.2
        refine lv_iload_n hx hb dX5_canBookByMinutes_16 rfl (lv_at hl 3 rfl) ?_
        refine lv_istore (lv' := [(5, .int (nI f0)), (0, .ref (a 0)), (1, .int t), (2, .int b), (3, .int (nI f0)), (4, .int (nI t0))]) hx hb dX5_canBookByMinutes_17 hl (by decide) rfl (fun ls hl => ?_)
        have loop_19 : ∀ (f : Nat) (q : Nat) (H : Heap) (locs : List Loc) (ls : Array Slot), t0 + 1 < q + f → f0 ≤ q → q ≤ t0 + 1 → (∀ i, f0 ≤ i → i < q → ¬ mts (σ 14) (σ 15) (σ 16) (σ 17) nb t b (nI i) (nI i)) → va_P D vwCl (wX cI cZ a σ) H → va_D A (wX cI cZ a σ) → va_S A s.heap H locs → lv_has ls 6 [(0, .ref (a 0)), (1, .int t), (2, .int b), (3, .int (nI f0)), (4, .int (nI t0)), (5, .int (nI q))] → W p l e { frames := 8, cells := 1, slots := 6, locals := 132 } s m args below meth c H locs 0 0 (vx_MQ below (va_Qi (fun r u => cdCan n t b (nI f0) (nI t0) = 0 ∧ u = σ ∧ r = bI (¬ mts (σ 14) (σ 15) (σ 16) (σ 17) nb t b (nI f0) (nI t0))) (PO D (ty2 cI cZ) (wX cI cZ a) A) A) (XX D (ty2 cI cZ) (wX cI cZ a) σ A (xB (cdCan n t b (nI f0) (nI t0)))) args s 1 6 A) (F0 m 19 ls []) := by
          intro f
          induction f with
          | zero => intro q H locs ls hf hq0 hq1 hno; exact absurd hf (by omega)
          | succ f ih =>
            intro q H locs ls hf hq0 hq1 hno hP hD hS hl
            refine lv_iload hx hb dX5_canBookByMinutes_19 (lv_at hl 5 rfl) ?_
            refine lv_iload hx hb dX5_canBookByMinutes_21 (lv_at hl 4 rfl) ?_
            refine lv_icmp_gt (tgt := 48) hx hb dX5_canBookByMinutes_23 (by decide) (fun c_23 => ?_) (fun c_23 => ?_)
            · skip
              rw [nI_ltI (by omega) (by omega)] at c_23
              refine lv_iconst (v := 1) hx hb dX5_canBookByMinutes_48 (by decide) ?_
              exact XI.zret hx hb hr hlocks hK hP hD hS dX5_canBookByMinutes_49 rfl (by exact ⟨by rw [cdCan, cif_t ⟨g_2, g_6⟩, cif_t g_13], rfl, (bI_t (fun h => by obtain ⟨i, h1, h2, h3⟩ := (mts_min ht5 ht0 hFL).mp h; exact hno i h1 (by omega) h3)).symm⟩)
            · skip
              rw [nI_ltI (by omega) (by omega)] at c_23
              refine lv_aload_n hx hb dX5_canBookByMinutes_26 rfl (lv_at hl 0 rfl) ?_
              refine va_get (D := D) (ci := 5) (v := .ref (a 13)) (C := RX5) (T := TX5) (N := 8) hx hb hts in_X5_canBookByMinutes_X5 hown hK hP 0 rfl rfl 3 (by decide) (hts (.fieldLink RX5 29 "Warpyard" "bookings" "LWarpyard$Bookings;") (by decide +kernel)) (fun _ h9 => h9) rfl dX5_canBookByMinutes_27 ?_
              refine lv_iload_n hx hb dX5_canBookByMinutes_30 rfl (lv_at hl 1 rfl) ?_
              refine lv_iload_n hx hb dX5_canBookByMinutes_31 rfl (lv_at hl 2 rfl) ?_
              refine lv_iload hx hb dX5_canBookByMinutes_32 (lv_at hl 5 rfl) ?_
              refine MI.callV (As := [.int t, .int b, .int (nI q)]) (rest := []) ⟨hx, hb, hml, hown, hts⟩ (c_X0_isForAnother l D cI cZ a H.size σ t b (nI q) nb hnb hnb30) (cwV 3 hts gX5_canBookByMinutes_X0_isForAnother rfl rfl rfl (by decide +kernel) ⟨Nat.le_of_ble_eq_true rfl, Nat.le_of_ble_eq_true rfl⟩) hP hK hD hS hA (va_recv hK hP (ci := 0) (q0 := 13) rfl rfl) rfl hl.1 (Nat.le_of_ble_eq_true rfl) (Nat.zero_le _) (Nat.zero_le _) dX5_canBookByMinutes_34 rfl (fun r_34 u_34 H locs h_34 hP hD hS => ?_)
              rcases h_34 with ⟨e_34, ⟨rfl, h_34⟩ | ⟨rfl, h_34⟩⟩
              · skip
                have e_34 := Eq.symm e_34
                subst e_34
                have h_34 : mts (σ 14) (σ 15) (σ 16) (σ 17) nb t b (nI q) (nI q) := h_34
                refine lv_if_eq (tgt := 42) hx hb dX5_canBookByMinutes_37 (by decide) (fun c9 => absurd c9 (by decide)) (fun _ => ?_)
                refine lv_iconst (v := 0) hx hb dX5_canBookByMinutes_40 (by decide) ?_
                exact XI.zret hx hb hr hlocks hK hP hD hS dX5_canBookByMinutes_41 rfl (by exact ⟨by rw [cdCan, cif_t ⟨g_2, g_6⟩, cif_t g_13], rfl, (bI_f (fun h => h ((mts_min ht5 ht0 hFL).mpr ⟨q, hq0, by omega, h_34⟩))).symm⟩)
              · skip
                have e_34 := Eq.symm e_34
                subst e_34
                have h_34 : ¬ mts (σ 14) (σ 15) (σ 16) (σ 17) nb t b (nI q) (nI q) := h_34
                refine lv_if_eq (tgt := 42) hx hb dX5_canBookByMinutes_37 (by decide) (fun _ => ?_) (fun c9 => absurd (by decide) c9)
                refine lv_iinc (v := nI (q + 1)) (lv' := [(5, .int (nI (q + 1))), (0, .ref (a 0)), (1, .int t), (2, .int b), (3, .int (nI f0)), (4, .int (nI t0))]) hx hb dX5_canBookByMinutes_42 hl (k := 5) rfl (by exact nI_1 q) (by decide) rfl (fun ls hl => ?_)
                refine lv_goto (tgt := 19) hx hb dX5_canBookByMinutes_45 (by decide) ?_
                exact ih (q + 1) _ _ ls (by omega) (by omega) (by omega) (by intro i h1 h2; rcases Nat.lt_or_ge i q with e9 | e9; exact hno i h1 e9; have e8 : i = q := (by omega); subst e8; exact h_34) hP hD hS (lv_sub hl [1, 2, 3, 4, 5, 0] rfl)
        exact loop_19 (t0 + 2) f0 _ _ ls (by omega) (by omega) (by omega) (by intro i h1 h2; omega) hP hD hS (lv_sub hl [1, 2, 3, 4, 5, 0] rfl)
      · skip
        exact XV.outS (As := [.int 0, .int fr, .int to]) (rest := []) ⟨hx, hb, hml, hown, hts⟩ (c_X5_needSpan_bad l D cI cZ a H.size σ hfl 0 fr to g_13) (va_cwS 3 hts gX5_canBookByMinutes_X5_needSpan rfl rfl rfl (by decide +kernel) ⟨Nat.le_of_ble_eq_true rfl, Nat.le_of_ble_eq_true rfl⟩) hP hK hD hS hA hEV hZ rfl hl.1 (Nat.le_of_ble_eq_true rfl) (Nat.le_of_ble_eq_true rfl) (Nat.le_of_ble_eq_true rfl) dX5_canBookByMinutes_13 rfl hlocks hexc (fun E hE => Or.inr ⟨hE, by rw [cdCan, cif_t ⟨g_2, g_6⟩, cif_f g_13]⟩)
    · skip
      exact XV.outS (As := [.int b]) (rest := []) ⟨hx, hb, hml, hown, hts⟩ (c_X5_needBlock_bad l D cI cZ a H.size σ hfl b g_6) (va_cwS 1 hts gX5_canBookByMinutes_X5_needBlock rfl rfl rfl (by decide +kernel) ⟨Nat.le_of_ble_eq_true rfl, Nat.le_of_ble_eq_true rfl⟩) hP hK hD hS hA hEV hZ rfl hl.1 (Nat.le_of_ble_eq_true rfl) (Nat.le_of_ble_eq_true rfl) (Nat.le_of_ble_eq_true rfl) dX5_canBookByMinutes_6 rfl hlocks hexc (fun E hE => Or.inl ⟨hE, by rw [cdCan, cif_f (fun h => g_6 h.2)]⟩)
  · skip
    exact XV.outV (As := [.int t]) (rest := []) ⟨hx, hb, hml, hown, hts⟩ (c_X5_needTrain_bad l D cI cZ a H.size σ hfl t n hn hn4 g_2) (cwV 1 hts gX5_canBookByMinutes_X5_needTrain rfl rfl rfl (by decide +kernel) ⟨Nat.le_of_ble_eq_true rfl, Nat.le_of_ble_eq_true rfl⟩) hP hK hD hS hA hEV hZ (va_recv hK hP (ci := 5) (q0 := 0) rfl rfl) rfl hl.1 (Nat.le_of_ble_eq_true rfl) (Nat.le_of_ble_eq_true rfl) (Nat.le_of_ble_eq_true rfl) dX5_canBookByMinutes_2 rfl hlocks hexc (fun E hE => Or.inl ⟨hE, by rw [cdCan, cif_f (fun h => g_2 h.1)]⟩)
set_option maxRecDepth 20000 in
theorem in_X5_booking_X0 : ∀ w ∈ wsX00, w ∈ wsX5_booking := by decide +kernel
set_option maxRecDepth 20000 in
theorem in_X5_booking_X5 : ∀ w ∈ wsX50, w ∈ wsX5_booking := by decide +kernel
set_option maxHeartbeats 4000000 in
set_option maxRecDepth 100000 in
/-- Warpyard.booking -/
theorem c_X5_booking (l : Launch) (D : va_G) (cI cZ : ClassId) (a : Nat → Nat) (sz : Nat) (σ : St) (hfl : l.stackTraces = false) (t : Int32) (nb : Nat) (hnb : σ 13 0 = nI nb) (hnb30 : nb ≤ 30) : XI l yX5_booking wsX5_booking ({ frames := 8, cells := 1, slots := 6, locals := 131 }) D (ty2 cI cZ) (wX cI cZ a) [.ref (a 0), .int t] σ sz (fun r u => cdTr nb t = 0 ∧ u = σ ∧ r = (if σ 18 t.toNatClampNeg = -1 then (if σ 17 t.toNatClampNeg < σ 0 0 then 2 else 0) else 1)) (x1 (cdTr nb t)) := by
  refine XI.of (cc := cX5_booking) (maxL := 2) (by decide) rfl (Nat.le_of_ble_eq_true rfl) ?_
  intro p e s m args below meth c A H locs ls hx hb hr hml hown hts hlocks hexc hEV hZ hA hS hP hK hD hl
  have hl : lv_has ls 2 [(0, .ref (a 0)), (1, .int t)] := hl
  refine lv_aload_n hx hb dX5_booking_0 rfl (lv_at hl 0 rfl) ?_
  refine lv_iload_n hx hb dX5_booking_1 rfl (lv_at hl 1 rfl) ?_
  by_cases g_2 : tr nb t
  · skip
    refine MV.callV (As := [.int t]) (rest := []) ⟨hx, hb, hml, hown, hts⟩ (c_X5_needBooking_ok l D cI cZ a H.size σ t nb hnb hnb30 g_2) (cwV 1 hts gX5_booking_X5_needBooking rfl rfl rfl (by decide +kernel) ⟨Nat.le_of_ble_eq_true rfl, Nat.le_of_ble_eq_true rfl⟩) hP hK hD hS hA (va_recv hK hP (ci := 5) (q0 := 0) rfl rfl) rfl hl.1 (Nat.le_of_ble_eq_true rfl) (Nat.zero_le _) (Nat.zero_le _) dX5_booking_2 rfl (fun u_2 H locs h_2 hP hD hS => ?_)
    have e_2 := h_2
    have e_2 := Eq.symm e_2
    subst e_2
    obtain ⟨k, hk, rfl⟩ := id g_2
    refine lv_aload_n hx hb dX5_booking_5 rfl (lv_at hl 0 rfl) ?_
    refine va_get (D := D) (ci := 5) (v := .ref (a 13)) (C := RX5) (T := TX5) (N := 8) hx hb hts in_X5_booking_X5 hown hK hP 0 rfl rfl 3 (by decide) (hts (.fieldLink RX5 29 "Warpyard" "bookings" "LWarpyard$Bookings;") (by decide +kernel)) (fun _ h9 => h9) rfl dX5_booking_6 ?_
    refine va_get (D := D) (ci := 0) (v := .ref (a 18)) (C := RX0) (T := TX0) (N := 6) hx hb hts in_X5_booking_X0 hown hK hP 13 rfl rfl 4 (by decide) (hts (.fieldLink RX5 147 "Warpyard$Bookings" "lateness" "[I") (by decide +kernel)) (fun _ h9 => h9) rfl dX5_booking_9 ?_
    refine lv_iload_n hx hb dX5_booking_12 rfl (lv_at hl 1 rfl) ?_
    refine na_iald hx hb hK hP 18 0 (f := (σ 18)) rfl rfl k (by omega) (by decide) rfl dX5_booking_13 ?_
    refine lv_iconst (v := (-1)) hx hb dX5_booking_14 (by decide) ?_
    refine lv_icmp_eq (tgt := 20) hx hb dX5_booking_15 (by decide) (fun c_15 => ?_) (fun c_15 => ?_)
    · skip
      refine lv_aload_n hx hb dX5_booking_20 rfl (lv_at hl 0 rfl) ?_
      refine va_get (D := D) (ci := 5) (v := .ref (a 13)) (C := RX5) (T := TX5) (N := 8) hx hb hts in_X5_booking_X5 hown hK hP 0 rfl rfl 3 (by decide) (hts (.fieldLink RX5 29 "Warpyard" "bookings" "LWarpyard$Bookings;") (by decide +kernel)) (fun _ h9 => h9) rfl dX5_booking_21 ?_
      refine va_get (D := D) (ci := 0) (v := .ref (a 17)) (C := RX0) (T := TX0) (N := 6) hx hb hts in_X5_booking_X0 hown hK hP 13 rfl rfl 3 (by decide) (hts (.fieldLink RX5 150 "Warpyard$Bookings" "last" "[I") (by decide +kernel)) (fun _ h9 => h9) rfl dX5_booking_24 ?_
      refine lv_iload_n hx hb dX5_booking_27 rfl (lv_at hl 1 rfl) ?_
      refine na_iald hx hb hK hP 17 0 (f := (σ 17)) rfl rfl k (by omega) (by decide) rfl dX5_booking_28 ?_
      refine lv_aload_n hx hb dX5_booking_29 rfl (lv_at hl 0 rfl) ?_
      refine va_get (D := D) (ci := 5) (v := .int (σ 0 0)) (C := RX5) (T := TX5) (N := 8) hx hb hts in_X5_booking_X5 hown hK hP 0 rfl rfl 6 (by decide) (hts (.fieldLink RX5 109 "Warpyard" "now" "I") (by decide +kernel)) (fun _ h9 => h9) rfl dX5_booking_30 ?_
      refine lv_icmp_ge (tgt := 40) hx hb dX5_booking_33 (by decide) (fun c_33 => ?_) (fun c_33 => ?_)
      · skip
        refine lv_iconst (v := 0) hx hb dX5_booking_40 (by decide) ?_
        exact XI.ret hx hb hr hlocks hK hP hD hS dX5_booking_41 (by rw [nI_clamp (show k < 2 ^ 31 by omega)]; exact ⟨cif_t g_2, rfl, by rw [if_pos c_15, if_neg (le_nlt.mp c_33)]⟩)
      · skip
        refine lv_iconst (v := 2) hx hb dX5_booking_36 (by decide) ?_
        refine lv_goto (tgt := 41) hx hb dX5_booking_37 (by decide) ?_
        exact XI.ret hx hb hr hlocks hK hP hD hS dX5_booking_41 (by rw [nI_clamp (show k < 2 ^ 31 by omega)]; exact ⟨cif_t g_2, rfl, by rw [if_pos c_15, if_pos (nle_lt c_33)]⟩)
    · skip
      refine lv_iconst (v := 1) hx hb dX5_booking_18 (by decide) ?_
      exact XI.ret hx hb hr hlocks hK hP hD hS dX5_booking_19 (by rw [nI_clamp (show k < 2 ^ 31 by omega)]; exact ⟨cif_t g_2, rfl, by rw [if_neg c_15]⟩)
  · skip
    exact XV.outV (As := [.int t]) (rest := []) ⟨hx, hb, hml, hown, hts⟩ (c_X5_needBooking_bad l D cI cZ a H.size σ hfl t nb hnb hnb30 g_2) (cwV 1 hts gX5_booking_X5_needBooking rfl rfl rfl (by decide +kernel) ⟨Nat.le_of_ble_eq_true rfl, Nat.le_of_ble_eq_true rfl⟩) hP hK hD hS hA hEV hZ (va_recv hK hP (ci := 5) (q0 := 0) rfl rfl) rfl hl.1 (Nat.le_of_ble_eq_true rfl) (Nat.le_of_ble_eq_true rfl) (Nat.le_of_ble_eq_true rfl) dX5_booking_2 rfl hlocks hexc (fun E hE => ⟨hE, cif_f g_2⟩)
set_option maxRecDepth 20000 in
theorem in_X5_late_X0 : ∀ w ∈ wsX00, w ∈ wsX5_late := by decide +kernel
set_option maxRecDepth 20000 in
theorem in_X5_late_X5 : ∀ w ∈ wsX50, w ∈ wsX5_late := by decide +kernel
set_option maxHeartbeats 4000000 in
set_option maxRecDepth 100000 in
/-- Warpyard.late -/
theorem c_X5_late (l : Launch) (D : va_G) (cI cZ : ClassId) (a : Nat → Nat) (sz : Nat) (σ : St) (hfl : l.stackTraces = false) (t : Int32) (nb : Nat) (hnb : σ 13 0 = nI nb) (hnb30 : nb ≤ 30) : XI l yX5_late wsX5_late ({ frames := 8, cells := 1, slots := 6, locals := 131 }) D (ty2 cI cZ) (wX cI cZ a) [.ref (a 0), .int t] σ sz (fun r u => cdTr nb t = 0 ∧ u = σ ∧ r = σ 18 t.toNatClampNeg) (x1 (cdTr nb t)) := by
  refine XI.of (cc := cX5_late) (maxL := 2) (by decide) rfl (Nat.le_of_ble_eq_true rfl) ?_
  intro p e s m args below meth c A H locs ls hx hb hr hml hown hts hlocks hexc hEV hZ hA hS hP hK hD hl
  have hl : lv_has ls 2 [(0, .ref (a 0)), (1, .int t)] := hl
  refine lv_aload_n hx hb dX5_late_0 rfl (lv_at hl 0 rfl) ?_
  refine lv_iload_n hx hb dX5_late_1 rfl (lv_at hl 1 rfl) ?_
  by_cases g_2 : tr nb t
  · skip
    refine MV.callV (As := [.int t]) (rest := []) ⟨hx, hb, hml, hown, hts⟩ (c_X5_needBooking_ok l D cI cZ a H.size σ t nb hnb hnb30 g_2) (cwV 1 hts gX5_late_X5_needBooking rfl rfl rfl (by decide +kernel) ⟨Nat.le_of_ble_eq_true rfl, Nat.le_of_ble_eq_true rfl⟩) hP hK hD hS hA (va_recv hK hP (ci := 5) (q0 := 0) rfl rfl) rfl hl.1 (Nat.le_of_ble_eq_true rfl) (Nat.zero_le _) (Nat.zero_le _) dX5_late_2 rfl (fun u_2 H locs h_2 hP hD hS => ?_)
    have e_2 := h_2
    have e_2 := Eq.symm e_2
    subst e_2
    obtain ⟨k, hk, rfl⟩ := id g_2
    refine lv_aload_n hx hb dX5_late_5 rfl (lv_at hl 0 rfl) ?_
    refine va_get (D := D) (ci := 5) (v := .ref (a 13)) (C := RX5) (T := TX5) (N := 8) hx hb hts in_X5_late_X5 hown hK hP 0 rfl rfl 3 (by decide) (hts (.fieldLink RX5 29 "Warpyard" "bookings" "LWarpyard$Bookings;") (by decide +kernel)) (fun _ h9 => h9) rfl dX5_late_6 ?_
    refine va_get (D := D) (ci := 0) (v := .ref (a 18)) (C := RX0) (T := TX0) (N := 6) hx hb hts in_X5_late_X0 hown hK hP 13 rfl rfl 4 (by decide) (hts (.fieldLink RX5 147 "Warpyard$Bookings" "lateness" "[I") (by decide +kernel)) (fun _ h9 => h9) rfl dX5_late_9 ?_
    refine lv_iload_n hx hb dX5_late_12 rfl (lv_at hl 1 rfl) ?_
    refine na_iald hx hb hK hP 18 0 (f := (σ 18)) rfl rfl k (by omega) (by decide) rfl dX5_late_13 ?_
    exact XI.ret hx hb hr hlocks hK hP hD hS dX5_late_14 (by rw [nI_clamp (show k < 2 ^ 31 by omega)]; exact ⟨cif_t g_2, rfl, rfl⟩)
  · skip
    exact XV.outV (As := [.int t]) (rest := []) ⟨hx, hb, hml, hown, hts⟩ (c_X5_needBooking_bad l D cI cZ a H.size σ hfl t nb hnb hnb30 g_2) (cwV 1 hts gX5_late_X5_needBooking rfl rfl rfl (by decide +kernel) ⟨Nat.le_of_ble_eq_true rfl, Nat.le_of_ble_eq_true rfl⟩) hP hK hD hS hA hEV hZ (va_recv hK hP (ci := 5) (q0 := 0) rfl rfl) rfl hl.1 (Nat.le_of_ble_eq_true rfl) (Nat.le_of_ble_eq_true rfl) (Nat.le_of_ble_eq_true rfl) dX5_late_2 rfl hlocks hexc (fun E hE => ⟨hE, cif_f g_2⟩)
set_option maxRecDepth 20000 in
theorem in_X5_addWaggon_X4 : ∀ w ∈ wsX40, w ∈ wsX5_addWaggon := by decide +kernel
set_option maxRecDepth 20000 in
theorem in_X5_addWaggon_X5 : ∀ w ∈ wsX50, w ∈ wsX5_addWaggon := by decide +kernel
set_option maxRecDepth 20000 in
theorem k_X5_addWaggon_55 : Cond.classLink RX5 55 "java/lang/IllegalStateException" ∈ wsX5_addWaggon := by decide +kernel
set_option maxRecDepth 20000 in
theorem j_X5_addWaggon_55 : Cond.initialized "java/lang/IllegalStateException" ∈ wsX5_addWaggon := by decide +kernel
set_option maxRecDepth 20000 in
theorem v_X5_addWaggon_55 : ∀ w ∈ (vx_atS RX5 59 "java/lang/IllegalStateException" xnames).filter goodWord, w ∈ wsX5_addWaggon := by decide +kernel
theorem w_X5_addWaggon_55 {s : State} {args : Array Value} (hts : ∀ w ∈ wsX5_addWaggon, w.before args s = true) (hEV : EV s) : ∀ w ∈ vx_atS RX5 59 "java/lang/IllegalStateException" xnames, w.before args s = true := vx_hat (fun w h => hts w (v_X5_addWaggon_55 w h)) (B := EVw) (by decide +kernel) (fun w h => va_Nw.use (EV.tab (s := s) w h) (hEV.1 w h))
theorem o_X5_addWaggon_55 : ∀ w ∈ Cond.classLink RX5 55 "java/lang/IllegalStateException" :: Cond.initialized "java/lang/IllegalStateException" :: vx_atS RX5 59 "java/lang/IllegalStateException" xnames, vx_ot w = true := by decide +kernel
set_option maxRecDepth 20000 in
theorem k_X5_addWaggon_86 : Cond.classLink RX5 86 "java/lang/IllegalArgumentException" ∈ wsX5_addWaggon := by decide +kernel
set_option maxRecDepth 20000 in
theorem j_X5_addWaggon_86 : Cond.initialized "java/lang/IllegalArgumentException" ∈ wsX5_addWaggon := by decide +kernel
set_option maxRecDepth 20000 in
theorem v_X5_addWaggon_86 : ∀ w ∈ (vx_atS RX5 90 "java/lang/IllegalArgumentException" xnames).filter goodWord, w ∈ wsX5_addWaggon := by decide +kernel
theorem w_X5_addWaggon_86 {s : State} {args : Array Value} (hts : ∀ w ∈ wsX5_addWaggon, w.before args s = true) (hEV : EV s) : ∀ w ∈ vx_atS RX5 90 "java/lang/IllegalArgumentException" xnames, w.before args s = true := vx_hat (fun w h => hts w (v_X5_addWaggon_86 w h)) (B := EVw) (by decide +kernel) (fun w h => va_Nw.use (EV.tab (s := s) w h) (hEV.1 w h))
theorem o_X5_addWaggon_86 : ∀ w ∈ Cond.classLink RX5 86 "java/lang/IllegalArgumentException" :: Cond.initialized "java/lang/IllegalArgumentException" :: vx_atS RX5 90 "java/lang/IllegalArgumentException" xnames, vx_ot w = true := by decide +kernel
set_option maxHeartbeats 4000000 in
set_option maxRecDepth 100000 in
/-- Warpyard.addWaggon -/
theorem c_X5_addWaggon (l : Launch) (D : va_G) (cI cZ : ClassId) (a : Nat → Nat) (sz : Nat) (σ : St) (hfl : l.stackTraces = false) (sd w : Int32) (nw : Nat) (Z : Nat → Nat) (J : Nat → Nat → Nat) (hnw : σ 19 0 = nI nw) (hnw8 : nw ≤ 8) (hQ : ∀ r, r < 6 → σ 21 r = nI (Z r) ∧ Z r ≤ 8) (hJ : ∀ r, r < 6 → ∀ p, p < Z r → σ 22 (r * 8 + p) = nI (J r p) ∧ J r p < 8) : XI l yX5_addWaggon wsX5_addWaggon ({ frames := 8, cells := 1, slots := 6, locals := 131 }) D (ty2 cI cZ) (wX cI cZ a) [.ref (a 0), .int sd, .int w] σ sz (fun r u => cdAW nw Z sd w = 0 ∧ u = (va_up (va_up (va_up (va_up σ 19 (fun _ => nI (nw + 1))) 20 (upd (σ 20) nw w)) 21 (upd (σ 21) (sR sd) (nI (Z (sR sd) + 1)))) 22 (upd (σ 22) (sR sd * 8 + Z (sR sd)) (nI nw))) ∧ r = nI nw) (xD (cdAW nw Z sd w)) := by
  refine XI.of (cc := cX5_addWaggon) (maxL := 3) (by decide) rfl (Nat.le_of_ble_eq_true rfl) ?_
  intro p e s m args below meth c A H locs ls hx hb hr hml hown hts hlocks hexc hEV hZ hA hS hP hK hD hl
  have hl : lv_has ls 3 [(0, .ref (a 0)), (1, .int sd), (2, .int w)] := hl
  refine lv_iload_n hx hb dX5_addWaggon_0 rfl (lv_at hl 1 rfl) ?_
  by_cases g_1 : inR sd 6 7
  · skip
    refine MV.callS (As := [.int sd]) (rest := []) ⟨hx, hb, hml, hown, hts⟩ (c_X5_needSiding_ok l D cI cZ a H.size σ sd g_1) (va_cwS 1 hts gX5_addWaggon_X5_needSiding rfl rfl rfl (by decide +kernel) ⟨Nat.le_of_ble_eq_true rfl, Nat.le_of_ble_eq_true rfl⟩) hP hK hD hS hA rfl hl.1 (Nat.le_of_ble_eq_true rfl) (Nat.zero_le _) (Nat.zero_le _) dX5_addWaggon_1 rfl (fun u_1 H locs h_1 hP hD hS => ?_)
    have e_1 := h_1
    have e_1 := Eq.symm e_1
    subst e_1
    refine lv_iload_n hx hb dX5_addWaggon_4 rfl (lv_at hl 2 rfl) ?_
    refine lv_iconst (v := 1) hx hb dX5_addWaggon_5 (by decide) ?_
    refine lv_icmp_lt (tgt := 15) hx hb dX5_addWaggon_6 (by decide) (fun c_6 => ?_) (fun c_6 => ?_)
    · skip
      exact X.throwS (cls := "java/lang/IllegalArgumentException") (text := "weight is out of range") (names := xnames) (ik := 86) (is := 156) (ic := 90) hx hb hfl hown (by decide +kernel) (by decide +kernel) (hts _ k_X5_addWaggon_86) (hts _ j_X5_addWaggon_86) (by decide +kernel) (w_X5_addWaggon_86 hts hEV) o_X5_addWaggon_86 hEV hZ hK hP hD hS (hl.1.trans hml.symm) dX5_addWaggon_15 dX5_addWaggon_18 dX5_addWaggon_19 dX5_addWaggon_21 dX5_addWaggon_24 hexc (Nat.le_of_ble_eq_true rfl) (Nat.le_of_ble_eq_true rfl) (Nat.le_of_ble_eq_true rfl) (Nat.le_of_ble_eq_true rfl) hlocks (Or.inr (Or.inl ⟨rfl, by rw [cdAW, cif_t g_1, cif_f (fun h => h.1 c_6)]⟩))
    · skip
      refine lv_iload_n hx hb dX5_addWaggon_9 rfl (lv_at hl 2 rfl) ?_
      refine lv_bipush (v := 100) hx hb dX5_addWaggon_10 (by decide) ?_
      refine lv_icmp_le (tgt := 25) hx hb dX5_addWaggon_12 (by decide) (fun c_12 => ?_) (fun c_12 => ?_)
      · skip
        refine lv_aload_n hx hb dX5_addWaggon_25 rfl (lv_at hl 0 rfl) ?_
        refine va_get (D := D) (ci := 5) (v := .ref (a 19)) (C := RX5) (T := TX5) (N := 8) hx hb hts in_X5_addWaggon_X5 hown hK hP 0 rfl rfl 4 (by decide) (hts (.fieldLink RX5 36 "Warpyard" "waggons" "LWarpyard$Waggons;") (by decide +kernel)) (fun _ h9 => h9) rfl dX5_addWaggon_26 ?_
        refine va_get (D := D) (ci := 4) (v := .int (σ 19 0)) (C := RX4) (T := TX4) (N := 4) hx hb hts in_X5_addWaggon_X4 hown hK hP 19 rfl rfl 3 (by decide) (hts (.fieldLink RX5 158 "Warpyard$Waggons" "count" "I") (by decide +kernel)) (fun _ h9 => h9) rfl dX5_addWaggon_29 ?_
        refine lv_topi (fun v_32 e_32 => ?_)
        obtain rfl : v_32 = nI nw := by rw [e_32]; exact hnw
        refine lv_bipush (v := 8) hx hb dX5_addWaggon_32 (by decide) ?_
        refine lv_icmp_lt (tgt := 47) hx hb dX5_addWaggon_34 (by decide) (fun c_34 => ?_) (fun c_34 => ?_)
        · skip
          rw [show (8 : Int32) = nI 8 from rfl, nI_ltI (by omega) (by omega)] at c_34
          refine lv_aload_n hx hb dX5_addWaggon_47 rfl (lv_at hl 0 rfl) ?_
          refine lv_iload_n hx hb dX5_addWaggon_48 rfl (lv_at hl 1 rfl) ?_
          by_cases g_49 : ¬ 4 ≤ Z (sR sd)
          · skip
            refine MV.callV (As := [.int sd]) (rest := []) ⟨hx, hb, hml, hown, hts⟩ (c_X5_needRoomIn_ok l D cI cZ a H.size σ sd Z g_1 hQ g_49) (cwV 1 hts gX5_addWaggon_X5_needRoomIn rfl rfl rfl (by decide +kernel) ⟨Nat.le_of_ble_eq_true rfl, Nat.le_of_ble_eq_true rfl⟩) hP hK hD hS hA (va_recv hK hP (ci := 5) (q0 := 0) rfl rfl) rfl hl.1 (Nat.le_of_ble_eq_true rfl) (Nat.zero_le _) (Nat.zero_le _) dX5_addWaggon_49 rfl (fun u_49 H locs h_49 hP hD hS => ?_)
            have e_49 := h_49
            have e_49 := Eq.symm e_49
            subst e_49
            refine lv_aload_n hx hb dX5_addWaggon_52 rfl (lv_at hl 0 rfl) ?_
            refine va_get (D := D) (ci := 5) (v := .ref (a 19)) (C := RX5) (T := TX5) (N := 8) hx hb hts in_X5_addWaggon_X5 hown hK hP 0 rfl rfl 4 (by decide) (hts (.fieldLink RX5 36 "Warpyard" "waggons" "LWarpyard$Waggons;") (by decide +kernel)) (fun _ h9 => h9) rfl dX5_addWaggon_53 ?_
            refine lv_iload_n hx hb dX5_addWaggon_56 rfl (lv_at hl 1 rfl) ?_
            refine MI.callS (As := [.int sd]) (rest := [.ref (a 19)]) ⟨hx, hb, hml, hown, hts⟩ (c_X4_rowOfSiding l D cI cZ a H.size σ sd) (va_cwS 1 hts gX5_addWaggon_X4_rowOfSiding rfl rfl rfl (by decide +kernel) ⟨Nat.le_of_ble_eq_true rfl, Nat.le_of_ble_eq_true rfl⟩) hP hK hD hS hA rfl hl.1 (Nat.le_of_ble_eq_true rfl) (Nat.zero_le _) (Nat.zero_le _) dX5_addWaggon_57 rfl (fun r_57 u_57 H locs h_57 hP hD hS => ?_)
            obtain ⟨e_57, h_57⟩ := h_57
            have e_57 := Eq.symm e_57
            subst e_57
            refine lv_topi (fun v_60 e_60 => ?_)
            obtain rfl : v_60 = nI (sR sd) := by rw [e_60]; exact h_57.trans (sR_e g_1)
            refine lv_iload_n hx hb dX5_addWaggon_60 rfl (lv_at hl 2 rfl) ?_
            refine MI.callV (As := [.int (nI (sR sd)), .int w]) (rest := []) ⟨hx, hb, hml, hown, hts⟩ (c_X4_add l D cI cZ a H.size σ (sR sd) (Z (sR sd)) nw w (sR_6 g_1) (hQ (sR sd) (sR_6 g_1)).1 (by omega) hnw (by omega)) (cwV 2 hts gX5_addWaggon_X4_add rfl rfl rfl (by decide +kernel) ⟨Nat.le_of_ble_eq_true rfl, Nat.le_of_ble_eq_true rfl⟩) hP hK hD hS hA (va_recv hK hP (ci := 4) (q0 := 19) rfl rfl) rfl hl.1 (Nat.le_of_ble_eq_true rfl) (Nat.zero_le _) (Nat.zero_le _) dX5_addWaggon_61 rfl (fun r_61 u_61 H locs h_61 hP hD hS => ?_)
            obtain ⟨e_61, rfl⟩ := h_61
            have e_61 := Eq.symm e_61
            subst e_61
            have hP : va_P D vwCl (wX cI cZ a (va_up (va_up (va_up (va_up σ 19 (fun _ => nI (nw + 1))) 20 (upd (σ 20) nw w)) 21 (upd (σ 21) (sR sd) (nI ((Z (sR sd)) + 1)))) 22 (upd (σ 22) ((sR sd) * 8 + (Z (sR sd))) (nI nw)))) H := hP
            have hD : va_D A (wX cI cZ a (va_up (va_up (va_up (va_up σ 19 (fun _ => nI (nw + 1))) 20 (upd (σ 20) nw w)) 21 (upd (σ 21) (sR sd) (nI ((Z (sR sd)) + 1)))) 22 (upd (σ 22) ((sR sd) * 8 + (Z (sR sd))) (nI nw)))) := hD
            exact XI.ret hx hb hr hlocks hK hP hD hS dX5_addWaggon_64 (by exact ⟨by rw [cdAW, cif_t g_1, cif_t ⟨c_6, le_nlt.mp c_12⟩, cif_f (by omega)], rfl, rfl⟩)
          · skip
            exact XV.outV (As := [.int sd]) (rest := []) ⟨hx, hb, hml, hown, hts⟩ (c_X5_needRoomIn_bad l D cI cZ a H.size σ hfl sd Z g_1 hQ g_49) (cwV 1 hts gX5_addWaggon_X5_needRoomIn rfl rfl rfl (by decide +kernel) ⟨Nat.le_of_ble_eq_true rfl, Nat.le_of_ble_eq_true rfl⟩) hP hK hD hS hA hEV hZ (va_recv hK hP (ci := 5) (q0 := 0) rfl rfl) rfl hl.1 (Nat.le_of_ble_eq_true rfl) (Nat.le_of_ble_eq_true rfl) (Nat.le_of_ble_eq_true rfl) dX5_addWaggon_49 rfl hlocks hexc (fun E hE => Or.inr (Or.inr ⟨hE, by rw [cdAW, cif_t g_1, cif_t ⟨c_6, le_nlt.mp c_12⟩, cif_t (Or.inr (Classical.not_not.mp g_49))]⟩))
        · skip
          rw [show (8 : Int32) = nI 8 from rfl, nI_ltI (by omega) (by omega)] at c_34
          exact X.throwS (cls := "java/lang/IllegalStateException") (text := "there are 8 waggons") (names := xnames) (ik := 55) (is := 159) (ic := 59) hx hb hfl hown (by decide +kernel) (by decide +kernel) (hts _ k_X5_addWaggon_55) (hts _ j_X5_addWaggon_55) (by decide +kernel) (w_X5_addWaggon_55 hts hEV) o_X5_addWaggon_55 hEV hZ hK hP hD hS (hl.1.trans hml.symm) dX5_addWaggon_37 dX5_addWaggon_40 dX5_addWaggon_41 dX5_addWaggon_43 dX5_addWaggon_46 hexc (Nat.le_of_ble_eq_true rfl) (Nat.le_of_ble_eq_true rfl) (Nat.le_of_ble_eq_true rfl) (Nat.le_of_ble_eq_true rfl) hlocks (Or.inr (Or.inr ⟨rfl, by rw [cdAW, cif_t g_1, cif_t ⟨c_6, le_nlt.mp c_12⟩, cif_t (Or.inl (by omega))]⟩))
      · skip
        exact X.throwS (cls := "java/lang/IllegalArgumentException") (text := "weight is out of range") (names := xnames) (ik := 86) (is := 156) (ic := 90) hx hb hfl hown (by decide +kernel) (by decide +kernel) (hts _ k_X5_addWaggon_86) (hts _ j_X5_addWaggon_86) (by decide +kernel) (w_X5_addWaggon_86 hts hEV) o_X5_addWaggon_86 hEV hZ hK hP hD hS (hl.1.trans hml.symm) dX5_addWaggon_15 dX5_addWaggon_18 dX5_addWaggon_19 dX5_addWaggon_21 dX5_addWaggon_24 hexc (Nat.le_of_ble_eq_true rfl) (Nat.le_of_ble_eq_true rfl) (Nat.le_of_ble_eq_true rfl) (Nat.le_of_ble_eq_true rfl) hlocks (Or.inr (Or.inl ⟨rfl, by rw [cdAW, cif_t g_1, cif_f (fun h => c_12 (le_nlt.mpr h.2))]⟩))
  · skip
    exact XV.outS (As := [.int sd]) (rest := []) ⟨hx, hb, hml, hown, hts⟩ (c_X5_needSiding_bad l D cI cZ a H.size σ hfl sd g_1) (va_cwS 1 hts gX5_addWaggon_X5_needSiding rfl rfl rfl (by decide +kernel) ⟨Nat.le_of_ble_eq_true rfl, Nat.le_of_ble_eq_true rfl⟩) hP hK hD hS hA hEV hZ rfl hl.1 (Nat.le_of_ble_eq_true rfl) (Nat.le_of_ble_eq_true rfl) (Nat.le_of_ble_eq_true rfl) dX5_addWaggon_1 rfl hlocks hexc (fun E hE => Or.inl ⟨hE, by rw [cdAW, cif_f g_1]⟩)
set_option maxRecDepth 20000 in
theorem in_X5_offer_X4 : ∀ w ∈ wsX40, w ∈ wsX5_offer := by decide +kernel
set_option maxRecDepth 20000 in
theorem in_X5_offer_X5 : ∀ w ∈ wsX50, w ∈ wsX5_offer := by decide +kernel
set_option maxRecDepth 20000 in
theorem k_X5_offer_86 : Cond.classLink RX5 86 "java/lang/IllegalArgumentException" ∈ wsX5_offer := by decide +kernel
set_option maxRecDepth 20000 in
theorem j_X5_offer_86 : Cond.initialized "java/lang/IllegalArgumentException" ∈ wsX5_offer := by decide +kernel
set_option maxRecDepth 20000 in
theorem v_X5_offer_86 : ∀ w ∈ (vx_atS RX5 90 "java/lang/IllegalArgumentException" xnames).filter goodWord, w ∈ wsX5_offer := by decide +kernel
theorem w_X5_offer_86 {s : State} {args : Array Value} (hts : ∀ w ∈ wsX5_offer, w.before args s = true) (hEV : EV s) : ∀ w ∈ vx_atS RX5 90 "java/lang/IllegalArgumentException" xnames, w.before args s = true := vx_hat (fun w h => hts w (v_X5_offer_86 w h)) (B := EVw) (by decide +kernel) (fun w h => va_Nw.use (EV.tab (s := s) w h) (hEV.1 w h))
theorem o_X5_offer_86 : ∀ w ∈ Cond.classLink RX5 86 "java/lang/IllegalArgumentException" :: Cond.initialized "java/lang/IllegalArgumentException" :: vx_atS RX5 90 "java/lang/IllegalArgumentException" xnames, vx_ot w = true := by decide +kernel
set_option maxRecDepth 20000 in
theorem k_X5_offer_95 : Cond.classLink RX5 95 "java/lang/IndexOutOfBoundsException" ∈ wsX5_offer := by decide +kernel
set_option maxRecDepth 20000 in
theorem j_X5_offer_95 : Cond.initialized "java/lang/IndexOutOfBoundsException" ∈ wsX5_offer := by decide +kernel
set_option maxRecDepth 20000 in
theorem v_X5_offer_95 : ∀ w ∈ (vx_atS RX5 99 "java/lang/IndexOutOfBoundsException" xnames).filter goodWord, w ∈ wsX5_offer := by decide +kernel
theorem w_X5_offer_95 {s : State} {args : Array Value} (hts : ∀ w ∈ wsX5_offer, w.before args s = true) (hEV : EV s) : ∀ w ∈ vx_atS RX5 99 "java/lang/IndexOutOfBoundsException" xnames, w.before args s = true := vx_hat (fun w h => hts w (v_X5_offer_95 w h)) (B := EVw) (by decide +kernel) (fun w h => va_Nw.use (EV.tab (s := s) w h) (hEV.1 w h))
theorem o_X5_offer_95 : ∀ w ∈ Cond.classLink RX5 95 "java/lang/IndexOutOfBoundsException" :: Cond.initialized "java/lang/IndexOutOfBoundsException" :: vx_atS RX5 99 "java/lang/IndexOutOfBoundsException" xnames, vx_ot w = true := by decide +kernel
set_option maxHeartbeats 4000000 in
set_option maxRecDepth 100000 in
/-- Warpyard.offer -/
theorem c_X5_offer (l : Launch) (D : va_G) (cI cZ : ClassId) (a : Nat → Nat) (sz : Nat) (σ : St) (hfl : l.stackTraces = false) (w sd mi pr : Int32) (nw : Nat) (hnw : σ 19 0 = nI nw) (hnw8 : nw ≤ 8) : XV l yX5_offer wsX5_offer ({ frames := 8, cells := 1, slots := 6, locals := 130 }) D (ty2 cI cZ) (wX cI cZ a) [.ref (a 0), .int w, .int sd, .int mi, .int pr] σ sz (fun u => cdOf nw w sd mi pr = 0 ∧ u = (va_up (va_up (va_up σ 24 (upd (σ 24) w.toNatClampNeg sd)) 25 (upd (σ 25) w.toNatClampNeg mi)) 26 (upd (σ 26) w.toNatClampNeg pr))) (xB (cdOf nw w sd mi pr)) := by
  refine XV.of (cc := cX5_offer) (maxL := 5) (by decide) rfl (Nat.le_of_ble_eq_true rfl) ?_
  intro p e s m args below meth c A H locs ls hx hb hr hml hown hts hlocks hexc hEV hZ hA hS hP hK hD hl
  have hl : lv_has ls 5 [(0, .ref (a 0)), (1, .int w), (2, .int sd), (3, .int mi), (4, .int pr)] := hl
  refine lv_iload_n hx hb dX5_offer_0 rfl (lv_at hl 1 rfl) ?_
  refine lv_if_lt (tgt := 15) hx hb dX5_offer_1 (by decide) (fun c_1 => ?_) (fun c_1 => ?_)
  · skip
    exact X.throwS (cls := "java/lang/IndexOutOfBoundsException") (text := "no such waggon") (names := xnames) (ik := 95) (is := 170) (ic := 99) hx hb hfl hown (by decide +kernel) (by decide +kernel) (hts _ k_X5_offer_95) (hts _ j_X5_offer_95) (by decide +kernel) (w_X5_offer_95 hts hEV) o_X5_offer_95 hEV hZ hK hP hD hS (hl.1.trans hml.symm) dX5_offer_15 dX5_offer_18 dX5_offer_19 dX5_offer_21 dX5_offer_24 hexc (Nat.le_of_ble_eq_true rfl) (Nat.le_of_ble_eq_true rfl) (Nat.le_of_ble_eq_true rfl) (Nat.le_of_ble_eq_true rfl) hlocks (Or.inl ⟨rfl, by rw [cdOf, cif_f (fun h => tr_1 (by omega) h.1 c_1)]⟩)
  · skip
    refine lv_iload_n hx hb dX5_offer_4 rfl (lv_at hl 1 rfl) ?_
    refine lv_aload_n hx hb dX5_offer_5 rfl (lv_at hl 0 rfl) ?_
    refine va_get (D := D) (ci := 5) (v := .ref (a 19)) (C := RX5) (T := TX5) (N := 8) hx hb hts in_X5_offer_X5 hown hK hP 0 rfl rfl 4 (by decide) (hts (.fieldLink RX5 36 "Warpyard" "waggons" "LWarpyard$Waggons;") (by decide +kernel)) (fun _ h9 => h9) rfl dX5_offer_6 ?_
    refine va_get (D := D) (ci := 4) (v := .int (σ 19 0)) (C := RX4) (T := TX4) (N := 4) hx hb hts in_X5_offer_X4 hown hK hP 19 rfl rfl 3 (by decide) (hts (.fieldLink RX5 158 "Warpyard$Waggons" "count" "I") (by decide +kernel)) (fun _ h9 => h9) rfl dX5_offer_9 ?_
    refine lv_topi (fun v_12 e_12 => ?_)
    obtain rfl : v_12 = nI nw := by rw [e_12]; exact hnw
    refine lv_icmp_lt (tgt := 25) hx hb dX5_offer_12 (by decide) (fun c_12 => ?_) (fun c_12 => ?_)
    · skip
      refine lv_iload_n hx hb dX5_offer_25 rfl (lv_at hl 2 rfl) ?_
      by_cases g_26 : inR sd 6 7
      · skip
        refine MV.callS (As := [.int sd]) (rest := []) ⟨hx, hb, hml, hown, hts⟩ (c_X5_needSiding_ok l D cI cZ a H.size σ sd g_26) (va_cwS 1 hts gX5_offer_X5_needSiding rfl rfl rfl (by decide +kernel) ⟨Nat.le_of_ble_eq_true rfl, Nat.le_of_ble_eq_true rfl⟩) hP hK hD hS hA rfl hl.1 (Nat.le_of_ble_eq_true rfl) (Nat.zero_le _) (Nat.zero_le _) dX5_offer_26 rfl (fun u_26 H locs h_26 hP hD hS => ?_)
        have e_26 := h_26
        have e_26 := Eq.symm e_26
        subst e_26
        refine lv_iload_n hx hb dX5_offer_29 rfl (lv_at hl 3 rfl) ?_
        refine lv_if_lt (tgt := 40) hx hb dX5_offer_30 (by decide) (fun c_30 => ?_) (fun c_30 => ?_)
        · skip
          exact X.throwS (cls := "java/lang/IllegalArgumentException") (text := "minute is out of range") (names := xnames) (ik := 86) (is := 172) (ic := 90) hx hb hfl hown (by decide +kernel) (by decide +kernel) (hts _ k_X5_offer_86) (hts _ j_X5_offer_86) (by decide +kernel) (w_X5_offer_86 hts hEV) o_X5_offer_86 hEV hZ hK hP hD hS (hl.1.trans hml.symm) dX5_offer_40 dX5_offer_43 dX5_offer_44 dX5_offer_46 dX5_offer_49 hexc (Nat.le_of_ble_eq_true rfl) (Nat.le_of_ble_eq_true rfl) (Nat.le_of_ble_eq_true rfl) (Nat.le_of_ble_eq_true rfl) hlocks (Or.inr ⟨rfl, by rw [cdOf, cif_t ⟨(tr_y (by omega) c_1 c_12), g_26⟩, cif_f (fun h => h.1.1 c_30)]⟩)
        · skip
          refine lv_iload_n hx hb dX5_offer_33 rfl (lv_at hl 3 rfl) ?_
          refine lv_sipush (v := 5000) hx hb dX5_offer_34 (by decide) ?_
          refine lv_icmp_le (tgt := 50) hx hb dX5_offer_37 (by decide) (fun c_37 => ?_) (fun c_37 => ?_)
          · skip
            refine lv_iload hx hb dX5_offer_50 (lv_at hl 4 rfl) ?_
            refine lv_iconst (v := 1) hx hb dX5_offer_52 (by decide) ?_
            refine lv_icmp_lt (tgt := 64) hx hb dX5_offer_53 (by decide) (fun c_53 => ?_) (fun c_53 => ?_)
            · skip
              exact X.throwS (cls := "java/lang/IllegalArgumentException") (text := "price is out of range") (names := xnames) (ik := 86) (is := 174) (ic := 90) hx hb hfl hown (by decide +kernel) (by decide +kernel) (hts _ k_X5_offer_86) (hts _ j_X5_offer_86) (by decide +kernel) (w_X5_offer_86 hts hEV) o_X5_offer_86 hEV hZ hK hP hD hS (hl.1.trans hml.symm) dX5_offer_64 dX5_offer_67 dX5_offer_68 dX5_offer_70 dX5_offer_73 hexc (Nat.le_of_ble_eq_true rfl) (Nat.le_of_ble_eq_true rfl) (Nat.le_of_ble_eq_true rfl) (Nat.le_of_ble_eq_true rfl) hlocks (Or.inr ⟨rfl, by rw [cdOf, cif_t ⟨(tr_y (by omega) c_1 c_12), g_26⟩, cif_f (fun h => h.2.1 c_53)]⟩)
            · skip
              refine lv_iload hx hb dX5_offer_56 (lv_at hl 4 rfl) ?_
              refine lv_sipush (v := 1000) hx hb dX5_offer_58 (by decide) ?_
              refine lv_icmp_le (tgt := 74) hx hb dX5_offer_61 (by decide) (fun c_61 => ?_) (fun c_61 => ?_)
              · skip
                have g_1 := (tr_y (by omega) c_1 c_12)
                obtain ⟨k, hk, rfl⟩ := id g_1
                refine lv_aload_n hx hb dX5_offer_74 rfl (lv_at hl 0 rfl) ?_
                refine va_get (D := D) (ci := 5) (v := .ref (a 23)) (C := RX5) (T := TX5) (N := 8) hx hb hts in_X5_offer_X5 hown hK hP 0 rfl rfl 5 (by decide) (hts (.fieldLink RX5 43 "Warpyard" "offers" "LWarpyard$Offers;") (by decide +kernel)) (fun _ h9 => h9) rfl dX5_offer_75 ?_
                refine lv_iload_n hx hb dX5_offer_78 rfl (lv_at hl 1 rfl) ?_
                refine lv_iload_n hx hb dX5_offer_79 rfl (lv_at hl 2 rfl) ?_
                refine lv_iload_n hx hb dX5_offer_80 rfl (lv_at hl 3 rfl) ?_
                refine lv_iload hx hb dX5_offer_81 (lv_at hl 4 rfl) ?_
                refine MV.callV (As := [.int (nI k), .int sd, .int mi, .int pr]) (rest := []) ⟨hx, hb, hml, hown, hts⟩ (c_X1_put l D cI cZ a H.size σ k sd mi pr (by omega)) (cwV 4 hts gX5_offer_X1_put rfl rfl rfl (by decide +kernel) ⟨Nat.le_of_ble_eq_true rfl, Nat.le_of_ble_eq_true rfl⟩) hP hK hD hS hA (va_recv hK hP (ci := 1) (q0 := 23) rfl rfl) rfl hl.1 (Nat.le_of_ble_eq_true rfl) (Nat.zero_le _) (Nat.zero_le _) dX5_offer_83 rfl (fun u_83 H locs h_83 hP hD hS => ?_)
                have e_83 := h_83
                have e_83 := Eq.symm e_83
                subst e_83
                have hP : va_P D vwCl (wX cI cZ a (va_up (va_up (va_up σ 24 (upd (σ 24) k sd)) 25 (upd (σ 25) k mi)) 26 (upd (σ 26) k pr))) H := hP
                have hD : va_D A (wX cI cZ a (va_up (va_up (va_up σ 24 (upd (σ 24) k sd)) 25 (upd (σ 25) k mi)) 26 (upd (σ 26) k pr))) := hD
                exact XV.ret hx hb hr hlocks hK hP hD hS dX5_offer_86 (by rw [nI_clamp (show k < 2 ^ 31 by omega)]; exact ⟨by rw [cdOf, cif_t ⟨g_1, g_26⟩, cif_t ⟨⟨c_30, le_nlt.mp c_37⟩, ⟨c_53, le_nlt.mp c_61⟩⟩], rfl⟩)
              · skip
                exact X.throwS (cls := "java/lang/IllegalArgumentException") (text := "price is out of range") (names := xnames) (ik := 86) (is := 174) (ic := 90) hx hb hfl hown (by decide +kernel) (by decide +kernel) (hts _ k_X5_offer_86) (hts _ j_X5_offer_86) (by decide +kernel) (w_X5_offer_86 hts hEV) o_X5_offer_86 hEV hZ hK hP hD hS (hl.1.trans hml.symm) dX5_offer_64 dX5_offer_67 dX5_offer_68 dX5_offer_70 dX5_offer_73 hexc (Nat.le_of_ble_eq_true rfl) (Nat.le_of_ble_eq_true rfl) (Nat.le_of_ble_eq_true rfl) (Nat.le_of_ble_eq_true rfl) hlocks (Or.inr ⟨rfl, by rw [cdOf, cif_t ⟨(tr_y (by omega) c_1 c_12), g_26⟩, cif_f (fun h => c_61 (le_nlt.mpr h.2.2))]⟩)
          · skip
            exact X.throwS (cls := "java/lang/IllegalArgumentException") (text := "minute is out of range") (names := xnames) (ik := 86) (is := 172) (ic := 90) hx hb hfl hown (by decide +kernel) (by decide +kernel) (hts _ k_X5_offer_86) (hts _ j_X5_offer_86) (by decide +kernel) (w_X5_offer_86 hts hEV) o_X5_offer_86 hEV hZ hK hP hD hS (hl.1.trans hml.symm) dX5_offer_40 dX5_offer_43 dX5_offer_44 dX5_offer_46 dX5_offer_49 hexc (Nat.le_of_ble_eq_true rfl) (Nat.le_of_ble_eq_true rfl) (Nat.le_of_ble_eq_true rfl) (Nat.le_of_ble_eq_true rfl) hlocks (Or.inr ⟨rfl, by rw [cdOf, cif_t ⟨(tr_y (by omega) c_1 c_12), g_26⟩, cif_f (fun h => c_37 (le_nlt.mpr h.1.2))]⟩)
      · skip
        exact XV.outS (As := [.int sd]) (rest := []) ⟨hx, hb, hml, hown, hts⟩ (c_X5_needSiding_bad l D cI cZ a H.size σ hfl sd g_26) (va_cwS 1 hts gX5_offer_X5_needSiding rfl rfl rfl (by decide +kernel) ⟨Nat.le_of_ble_eq_true rfl, Nat.le_of_ble_eq_true rfl⟩) hP hK hD hS hA hEV hZ rfl hl.1 (Nat.le_of_ble_eq_true rfl) (Nat.le_of_ble_eq_true rfl) (Nat.le_of_ble_eq_true rfl) dX5_offer_26 rfl hlocks hexc (fun E hE => Or.inl ⟨hE, by rw [cdOf, cif_f (fun h => g_26 h.2)]⟩)
    · skip
      exact X.throwS (cls := "java/lang/IndexOutOfBoundsException") (text := "no such waggon") (names := xnames) (ik := 95) (is := 170) (ic := 99) hx hb hfl hown (by decide +kernel) (by decide +kernel) (hts _ k_X5_offer_95) (hts _ j_X5_offer_95) (by decide +kernel) (w_X5_offer_95 hts hEV) o_X5_offer_95 hEV hZ hK hP hD hS (hl.1.trans hml.symm) dX5_offer_15 dX5_offer_18 dX5_offer_19 dX5_offer_21 dX5_offer_24 hexc (Nat.le_of_ble_eq_true rfl) (Nat.le_of_ble_eq_true rfl) (Nat.le_of_ble_eq_true rfl) (Nat.le_of_ble_eq_true rfl) hlocks (Or.inl ⟨rfl, by rw [cdOf, cif_f (fun h => c_12 (tr_2 (by omega) h.1))]⟩)
