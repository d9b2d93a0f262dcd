set_option maxRecDepth 20000 in
theorem in_X5_addTrain_X3 : ∀ w ∈ wsX30, w ∈ wsX5_addTrain := by decide +kernel
set_option maxRecDepth 20000 in
theorem in_X5_addTrain_X5 : ∀ w ∈ wsX50, w ∈ wsX5_addTrain := by decide +kernel
set_option maxRecDepth 20000 in
theorem k_X5_addTrain_55 : Cond.classLink RX5 55 "java/lang/IllegalStateException" ∈ wsX5_addTrain := by decide +kernel
set_option maxRecDepth 20000 in
theorem j_X5_addTrain_55 : Cond.initialized "java/lang/IllegalStateException" ∈ wsX5_addTrain := by decide +kernel
set_option maxRecDepth 20000 in
theorem v_X5_addTrain_55 : ∀ w ∈ (vx_atS RX5 59 "java/lang/IllegalStateException" xnames).filter goodWord, w ∈ wsX5_addTrain := by decide +kernel
theorem w_X5_addTrain_55 {s : State} {args : Array Value} (hts : ∀ w ∈ wsX5_addTrain, w.before args s = true) (hEV : EV s) : ∀ w ∈ vx_atS RX5 59 "java/lang/IllegalStateException" xnames, w.before args s = true := vx_hat (fun w h => hts w (v_X5_addTrain_55 w h)) (B := EVw) (by decide +kernel) (fun w h => va_Nw.use (EV.tab (s := s) w h) (hEV.1 w h))
theorem o_X5_addTrain_55 : ∀ w ∈ Cond.classLink RX5 55 "java/lang/IllegalStateException" :: Cond.initialized "java/lang/IllegalStateException" :: vx_atS RX5 59 "java/lang/IllegalStateException" xnames, vx_ot w = true := by decide +kernel
set_option maxHeartbeats 4000000 in
set_option maxRecDepth 100000 in
/-- Warpyard.addTrain -/
theorem c_X5_addTrain (l : Launch) (D : va_G) (cI cZ : ClassId) (a : Nat → Nat) (sz : Nat) (σ : St) (hfl : l.stackTraces = false) (b rt : Int32) (hrt : rt = 0 ∨ rt = 1) (n : Nat) (hn : σ 3 0 = nI n) (hn4 : n ≤ 4) : XI l yX5_addTrain wsX5_addTrain ({ frames := 8, cells := 1, slots := 6, locals := 130 }) D (ty2 cI cZ) (wX cI cZ a) [.ref (a 0), .int b, .int rt] σ sz (fun r u => cdAdd σ n b = 0 ∧ u = (va_up (va_up (va_up σ 3 (fun _ => nI (n + 1))) 4 (upd (σ 4) n b)) 5 (upd (σ 5) n rt)) ∧ r = nI n) (xA (cdAdd σ n b)) := by
  refine XI.of (cc := cX5_addTrain) (maxL := 3) (by decide) rfl (Nat.le_of_ble_eq_true rfl) ?_
  intro p e s m args below meth c A H locs ls hx hb hr hml hown hts hlocks hexc hEV hZ hA hS hP hK hD hl
  have hl : lv_has ls 3 [(0, .ref (a 0)), (1, .int b), (2, .int rt)] := hl
  refine lv_iload_n hx hb dX5_addTrain_0 rfl (lv_at hl 1 rfl) ?_
  by_cases g_1 : inR b 0 7
  · skip
    refine MV.callS (As := [.int b]) (rest := []) ⟨hx, hb, hml, hown, hts⟩ (c_X5_needBlock_ok l D cI cZ a H.size σ b g_1) (va_cwS 1 hts gX5_addTrain_X5_needBlock rfl rfl rfl (by decide +kernel) ⟨Nat.le_of_ble_eq_true rfl, Nat.le_of_ble_eq_true rfl⟩) hP hK hD hS hA rfl hl.1 (Nat.le_of_ble_eq_true rfl) (Nat.zero_le _) (Nat.zero_le _) dX5_addTrain_1 rfl (fun u_1 H locs h_1 hP hD hS => ?_)
    have e_1 := h_1
    have e_1 := Eq.symm e_1
    subst e_1
    refine lv_aload_n hx hb dX5_addTrain_4 rfl (lv_at hl 0 rfl) ?_
    refine va_get (D := D) (ci := 5) (v := .ref (a 3)) (C := RX5) (T := TX5) (N := 8) hx hb hts in_X5_addTrain_X5 hown hK hP 0 rfl rfl 1 (by decide) (hts (.fieldLink RX5 19 "Warpyard" "trains" "LWarpyard$Trains;") (by decide +kernel)) (fun _ h9 => h9) rfl dX5_addTrain_5 ?_
    refine va_get (D := D) (ci := 3) (v := .int (σ 3 0)) (C := RX3) (T := TX3) (N := 5) hx hb hts in_X5_addTrain_X3 hown hK hP 3 rfl rfl 4 (by decide) (hts (.fieldLink RX5 51 "Warpyard$Trains" "count" "I") (by decide +kernel)) (fun _ h9 => h9) rfl dX5_addTrain_8 ?_
    refine lv_topi (fun v_11 e_11 => ?_)
    obtain rfl : v_11 = nI n := by rw [e_11]; exact hn
    refine lv_iconst (v := 4) hx hb dX5_addTrain_11 (by decide) ?_
    refine lv_icmp_lt (tgt := 25) hx hb dX5_addTrain_12 (by decide) (fun c_12 => ?_) (fun c_12 => ?_)
    · skip
      rw [show (4 : Int32) = nI 4 from rfl, nI_ltI (by omega) (by omega)] at c_12
      refine lv_aload_n hx hb dX5_addTrain_25 rfl (lv_at hl 0 rfl) ?_
      refine va_get (D := D) (ci := 5) (v := .ref (a 3)) (C := RX5) (T := TX5) (N := 8) hx hb hts in_X5_addTrain_X5 hown hK hP 0 rfl rfl 1 (by decide) (hts (.fieldLink RX5 19 "Warpyard" "trains" "LWarpyard$Trains;") (by decide +kernel)) (fun _ h9 => h9) rfl dX5_addTrain_26 ?_
      refine lv_iload_n hx hb dX5_addTrain_29 rfl (lv_at hl 1 rfl) ?_
      refine MI.callV (As := [.int b]) (rest := []) ⟨hx, hb, hml, hown, hts⟩ (c_X3_standingOn l D cI cZ a H.size σ b n hn hn4) (cwV 1 hts gX5_addTrain_X3_standingOn rfl rfl rfl (by decide +kernel) ⟨Nat.le_of_ble_eq_true rfl, Nat.le_of_ble_eq_true rfl⟩) hP hK hD hS hA (va_recv hK hP (ci := 3) (q0 := 3) rfl rfl) rfl hl.1 (Nat.le_of_ble_eq_true rfl) (Nat.zero_le _) (Nat.zero_le _) dX5_addTrain_30 rfl (fun r_30 u_30 H locs h_30 hP hD hS => ?_)
      obtain ⟨e_30, h_30⟩ := h_30
      have e_30 := Eq.symm e_30
      subst e_30
      have h_30 : r_30 = so (σ 4) b n := h_30
      refine lv_iconst (v := (-1)) hx hb dX5_addTrain_33 (by decide) ?_
      refine lv_icmp_eq (tgt := 47) hx hb dX5_addTrain_34 (by decide) (fun c_34 => ?_) (fun c_34 => ?_)
      · skip
        refine lv_aload_n hx hb dX5_addTrain_47 rfl (lv_at hl 0 rfl) ?_
        refine va_get (D := D) (ci := 5) (v := .ref (a 3)) (C := RX5) (T := TX5) (N := 8) hx hb hts in_X5_addTrain_X5 hown hK hP 0 rfl rfl 1 (by decide) (hts (.fieldLink RX5 19 "Warpyard" "trains" "LWarpyard$Trains;") (by decide +kernel)) (fun _ h9 => h9) rfl dX5_addTrain_48 ?_
        refine lv_iload_n hx hb dX5_addTrain_51 rfl (lv_at hl 1 rfl) ?_
        refine lv_iload_n hx hb dX5_addTrain_52 rfl (lv_at hl 2 rfl) ?_
        refine MI.callV (As := [.int b, .int rt]) (rest := []) ⟨hx, hb, hml, hown, hts⟩ (c_X3_add l D cI cZ a H.size σ b rt n hrt hn (by omega)) (cwV 2 hts gX5_addTrain_X3_add rfl rfl rfl (by decide +kernel) ⟨Nat.le_of_ble_eq_true rfl, Nat.le_of_ble_eq_true rfl⟩) hP hK hD hS hA (va_recv hK hP (ci := 3) (q0 := 3) rfl rfl) rfl hl.1 (Nat.le_of_ble_eq_true rfl) (Nat.zero_le _) (Nat.zero_le _) dX5_addTrain_53 rfl (fun r_53 u_53 H locs h_53 hP hD hS => ?_)
        obtain ⟨e_53, rfl⟩ := h_53
        have e_53 := Eq.symm e_53
        subst e_53
        have hP : va_P D vwCl (wX cI cZ a (va_up (va_up (va_up σ 3 (fun _ => nI (n + 1))) 4 (upd (σ 4) n b)) 5 (upd (σ 5) n rt))) H := hP
        have hD : va_D A (wX cI cZ a (va_up (va_up (va_up σ 3 (fun _ => nI (n + 1))) 4 (upd (σ 4) n b)) 5 (upd (σ 5) n rt))) := hD
        exact XI.ret hx hb hr hlocks hK hP hD hS dX5_addTrain_56 (by exact ⟨by rw [cdAdd, cif_t g_1, cif_t ⟨by omega, h_30.symm.trans c_34⟩], rfl, rfl⟩)
      · skip
        exact X.throwS (cls := "java/lang/IllegalStateException") (text := "a train stands on that block") (names := xnames) (ik := 55) (is := 66) (ic := 59) hx hb hfl hown (by decide +kernel) (by decide +kernel) (hts _ k_X5_addTrain_55) (hts _ j_X5_addTrain_55) (by decide +kernel) (w_X5_addTrain_55 hts hEV) o_X5_addTrain_55 hEV hZ hK hP hD hS (hl.1.trans hml.symm) dX5_addTrain_37 dX5_addTrain_40 dX5_addTrain_41 dX5_addTrain_43 dX5_addTrain_46 hexc (Nat.le_of_ble_eq_true rfl) (Nat.le_of_ble_eq_true rfl) (Nat.le_of_ble_eq_true rfl) (Nat.le_of_ble_eq_true rfl) hlocks (Or.inr ⟨rfl, by rw [cdAdd, cif_t g_1, cif_f (fun h => c_34 (h_30.trans h.2))]⟩)
    · skip
      rw [show (4 : Int32) = nI 4 from rfl, nI_ltI (by omega) (by omega)] at c_12
      exact X.throwS (cls := "java/lang/IllegalStateException") (text := "there are 4 trains") (names := xnames) (ik := 55) (is := 57) (ic := 59) hx hb hfl hown (by decide +kernel) (by decide +kernel) (hts _ k_X5_addTrain_55) (hts _ j_X5_addTrain_55) (by decide +kernel) (w_X5_addTrain_55 hts hEV) o_X5_addTrain_55 hEV hZ hK hP hD hS (hl.1.trans hml.symm) dX5_addTrain_15 dX5_addTrain_18 dX5_addTrain_19 dX5_addTrain_21 dX5_addTrain_24 hexc (Nat.le_of_ble_eq_true rfl) (Nat.le_of_ble_eq_true rfl) (Nat.le_of_ble_eq_true rfl) (Nat.le_of_ble_eq_true rfl) hlocks (Or.inr ⟨rfl, by rw [cdAdd, cif_t g_1, cif_f (fun h => h.1 (by omega))]⟩)
  · skip
    exact XV.outS (As := [.int b]) (rest := []) ⟨hx, hb, hml, hown, hts⟩ (c_X5_needBlock_bad l D cI cZ a H.size σ hfl b g_1) (va_cwS 1 hts gX5_addTrain_X5_needBlock rfl rfl rfl (by decide +kernel) ⟨Nat.le_of_ble_eq_true rfl, Nat.le_of_ble_eq_true rfl⟩) hP hK hD hS hA hEV hZ rfl hl.1 (Nat.le_of_ble_eq_true rfl) (Nat.le_of_ble_eq_true rfl) (Nat.le_of_ble_eq_true rfl) dX5_addTrain_1 rfl hlocks hexc (fun E hE => Or.inl ⟨hE, by rw [cdAdd, cif_f g_1]⟩)
set_option maxRecDepth 20000 in
theorem in_X5_block_X3 : ∀ w ∈ wsX30, w ∈ wsX5_block := by decide +kernel
set_option maxRecDepth 20000 in
theorem in_X5_block_X5 : ∀ w ∈ wsX50, w ∈ wsX5_block := by decide +kernel
set_option maxHeartbeats 4000000 in
set_option maxRecDepth 100000 in
/-- Warpyard.block -/
theorem c_X5_block (l : Launch) (D : va_G) (cI cZ : ClassId) (a : Nat → Nat) (sz : Nat) (σ : St) (hfl : l.stackTraces = false) (t : Int32) (n : Nat) (hn : σ 3 0 = nI n) (hn4 : n ≤ 4) : XI l yX5_block wsX5_block ({ frames := 8, cells := 1, slots := 6, locals := 131 }) D (ty2 cI cZ) (wX cI cZ a) [.ref (a 0), .int t] σ sz (fun r u => cdTr n t = 0 ∧ u = σ ∧ r = σ 4 t.toNatClampNeg) (x1 (cdTr n t)) := by
  refine XI.of (cc := cX5_block) (maxL := 2) (by decide) rfl (Nat.le_of_ble_eq_true rfl) ?_
  intro p e s m args below meth c A H locs ls hx hb hr hml hown hts hlocks hexc hEV hZ hA hS hP hK hD hl
  have hl : lv_has ls 2 [(0, .ref (a 0)), (1, .int t)] := hl
  refine lv_aload_n hx hb dX5_block_0 rfl (lv_at hl 0 rfl) ?_
  refine lv_iload_n hx hb dX5_block_1 rfl (lv_at hl 1 rfl) ?_
  by_cases g_2 : tr n t
  · skip
    refine MV.callV (As := [.int t]) (rest := []) ⟨hx, hb, hml, hown, hts⟩ (c_X5_needTrain_ok l D cI cZ a H.size σ t n hn hn4 g_2) (cwV 1 hts gX5_block_X5_needTrain rfl rfl rfl (by decide +kernel) ⟨Nat.le_of_ble_eq_true rfl, Nat.le_of_ble_eq_true rfl⟩) hP hK hD hS hA (va_recv hK hP (ci := 5) (q0 := 0) rfl rfl) rfl hl.1 (Nat.le_of_ble_eq_true rfl) (Nat.zero_le _) (Nat.zero_le _) dX5_block_2 rfl (fun u_2 H locs h_2 hP hD hS => ?_)
    have e_2 := h_2
    have e_2 := Eq.symm e_2
    subst e_2
    obtain ⟨k, hk, rfl⟩ := id g_2
    refine lv_aload_n hx hb dX5_block_5 rfl (lv_at hl 0 rfl) ?_
    refine va_get (D := D) (ci := 5) (v := .ref (a 3)) (C := RX5) (T := TX5) (N := 8) hx hb hts in_X5_block_X5 hown hK hP 0 rfl rfl 1 (by decide) (hts (.fieldLink RX5 19 "Warpyard" "trains" "LWarpyard$Trains;") (by decide +kernel)) (fun _ h9 => h9) rfl dX5_block_6 ?_
    refine va_get (D := D) (ci := 3) (v := .ref (a 4)) (C := RX3) (T := TX3) (N := 5) hx hb hts in_X5_block_X3 hown hK hP 3 rfl rfl 0 (by decide) (hts (.fieldLink RX5 103 "Warpyard$Trains" "block" "[I") (by decide +kernel)) (fun _ h9 => h9) rfl dX5_block_9 ?_
    refine lv_iload_n hx hb dX5_block_12 rfl (lv_at hl 1 rfl) ?_
    refine na_iald hx hb hK hP 4 0 (f := (σ 4)) rfl rfl k (by omega) (by decide) rfl dX5_block_13 ?_
    exact XI.ret hx hb hr hlocks hK hP hD hS dX5_block_14 (by rw [nI_clamp (show k < 2 ^ 31 by omega)]; exact ⟨cif_t g_2, rfl, rfl⟩)
  · skip
    exact XV.outV (As := [.int t]) (rest := []) ⟨hx, hb, hml, hown, hts⟩ (c_X5_needTrain_bad l D cI cZ a H.size σ hfl t n hn hn4 g_2) (cwV 1 hts gX5_block_X5_needTrain rfl rfl rfl (by decide +kernel) ⟨Nat.le_of_ble_eq_true rfl, Nat.le_of_ble_eq_true rfl⟩) hP hK hD hS hA hEV hZ (va_recv hK hP (ci := 5) (q0 := 0) rfl rfl) rfl hl.1 (Nat.le_of_ble_eq_true rfl) (Nat.le_of_ble_eq_true rfl) (Nat.le_of_ble_eq_true rfl) dX5_block_2 rfl hlocks hexc (fun E hE => ⟨hE, cif_f g_2⟩)
set_option maxRecDepth 20000 in
theorem in_X5_isRight_X3 : ∀ w ∈ wsX30, w ∈ wsX5_isRight := by decide +kernel
set_option maxRecDepth 20000 in
theorem in_X5_isRight_X5 : ∀ w ∈ wsX50, w ∈ wsX5_isRight := by decide +kernel
set_option maxHeartbeats 4000000 in
set_option maxRecDepth 100000 in
/-- Warpyard.isRight -/
theorem c_X5_isRight (l : Launch) (D : va_G) (cI cZ : ClassId) (a : Nat → Nat) (sz : Nat) (σ : St) (hfl : l.stackTraces = false) (t : Int32) (n : Nat) (hn : σ 3 0 = nI n) (hn4 : n ≤ 4) (hR : ∀ i, i < 4 → σ 5 i = 0 ∨ σ 5 i = 1) : XI l yX5_isRight wsX5_isRight ({ frames := 8, cells := 1, slots := 6, locals := 131 }) D (ty2 cI cZ) (wX cI cZ a) [.ref (a 0), .int t] σ sz (fun r u => cdTr n t = 0 ∧ u = σ ∧ r = σ 5 t.toNatClampNeg) (x1 (cdTr n t)) := by
  refine XI.of (cc := cX5_isRight) (maxL := 2) (by decide) rfl (Nat.le_of_ble_eq_true rfl) ?_
  intro p e s m args below meth c A H locs ls hx hb hr hml hown hts hlocks hexc hEV hZ hA hS hP hK hD hl
  have hl : lv_has ls 2 [(0, .ref (a 0)), (1, .int t)] := hl
  refine lv_aload_n hx hb dX5_isRight_0 rfl (lv_at hl 0 rfl) ?_
  refine lv_iload_n hx hb dX5_isRight_1 rfl (lv_at hl 1 rfl) ?_
  by_cases g_2 : tr n t
  · skip
    refine MV.callV (As := [.int t]) (rest := []) ⟨hx, hb, hml, hown, hts⟩ (c_X5_needTrain_ok l D cI cZ a H.size σ t n hn hn4 g_2) (cwV 1 hts gX5_isRight_X5_needTrain rfl rfl rfl (by decide +kernel) ⟨Nat.le_of_ble_eq_true rfl, Nat.le_of_ble_eq_true rfl⟩) hP hK hD hS hA (va_recv hK hP (ci := 5) (q0 := 0) rfl rfl) rfl hl.1 (Nat.le_of_ble_eq_true rfl) (Nat.zero_le _) (Nat.zero_le _) dX5_isRight_2 rfl (fun u_2 H locs h_2 hP hD hS => ?_)
    have e_2 := h_2
    have e_2 := Eq.symm e_2
    subst e_2
    obtain ⟨k, hk, rfl⟩ := id g_2
    refine lv_aload_n hx hb dX5_isRight_5 rfl (lv_at hl 0 rfl) ?_
    refine va_get (D := D) (ci := 5) (v := .ref (a 3)) (C := RX5) (T := TX5) (N := 8) hx hb hts in_X5_isRight_X5 hown hK hP 0 rfl rfl 1 (by decide) (hts (.fieldLink RX5 19 "Warpyard" "trains" "LWarpyard$Trains;") (by decide +kernel)) (fun _ h9 => h9) rfl dX5_isRight_6 ?_
    refine va_get (D := D) (ci := 3) (v := .ref (a 5)) (C := RX3) (T := TX3) (N := 5) hx hb hts in_X5_isRight_X3 hown hK hP 3 rfl rfl 1 (by decide) (hts (.fieldLink RX5 106 "Warpyard$Trains" "right" "[Z") (by decide +kernel)) (fun _ h9 => h9) rfl dX5_isRight_9 ?_
    refine lv_iload_n hx hb dX5_isRight_12 rfl (lv_at hl 1 rfl) ?_
    refine na_zald hx hb hK hP 5 1 (f := (σ 5)) rfl rfl k (by omega) (by decide) rfl dX5_isRight_13 ?_
    exact XI.zret hx hb hr hlocks hK hP hD hS dX5_isRight_14 (nar_b (hR k (by omega))) (by rw [nI_clamp (show k < 2 ^ 31 by omega)]; exact ⟨cif_t g_2, rfl, rfl⟩)
  · skip
    exact XV.outV (As := [.int t]) (rest := []) ⟨hx, hb, hml, hown, hts⟩ (c_X5_needTrain_bad l D cI cZ a H.size σ hfl t n hn hn4 g_2) (cwV 1 hts gX5_isRight_X5_needTrain rfl rfl rfl (by decide +kernel) ⟨Nat.le_of_ble_eq_true rfl, Nat.le_of_ble_eq_true rfl⟩) hP hK hD hS hA hEV hZ (va_recv hK hP (ci := 5) (q0 := 0) rfl rfl) rfl hl.1 (Nat.le_of_ble_eq_true rfl) (Nat.le_of_ble_eq_true rfl) (Nat.le_of_ble_eq_true rfl) dX5_isRight_2 rfl hlocks hexc (fun E hE => ⟨hE, cif_f g_2⟩)
set_option maxRecDepth 20000 in
theorem in_X5_trainOn_X5 : ∀ w ∈ wsX50, w ∈ wsX5_trainOn := by decide +kernel
set_option maxHeartbeats 4000000 in
set_option maxRecDepth 100000 in
/-- Warpyard.trainOn -/
theorem c_X5_trainOn (l : Launch) (D : va_G) (cI cZ : ClassId) (a : Nat → Nat) (sz : Nat) (σ : St) (hfl : l.stackTraces = false) (b : Int32) (n : Nat) (hn : σ 3 0 = nI n) (hn4 : n ≤ 4) : XI l yX5_trainOn wsX5_trainOn ({ frames := 8, cells := 1, slots := 6, locals := 130 }) D (ty2 cI cZ) (wX cI cZ a) [.ref (a 0), .int b] σ sz (fun r u => cdBl b = 0 ∧ u = σ ∧ r = so (σ 4) b n) (x1 (cdBl b)) := by
  refine XI.of (cc := cX5_trainOn) (maxL := 2) (by decide) rfl (Nat.le_of_ble_eq_true rfl) ?_
  intro p e s m args below meth c A H locs ls hx hb hr hml hown hts hlocks hexc hEV hZ hA hS hP hK hD hl
  have hl : lv_has ls 2 [(0, .ref (a 0)), (1, .int b)] := hl
  refine lv_iload_n hx hb dX5_trainOn_0 rfl (lv_at hl 1 rfl) ?_
  by_cases g_1 : inR b 0 7
  · skip
    refine MV.callS (As := [.int b]) (rest := []) ⟨hx, hb, hml, hown, hts⟩ (c_X5_needBlock_ok l D cI cZ a H.size σ b g_1) (va_cwS 1 hts gX5_trainOn_X5_needBlock rfl rfl rfl (by decide +kernel) ⟨Nat.le_of_ble_eq_true rfl, Nat.le_of_ble_eq_true rfl⟩) hP hK hD hS hA rfl hl.1 (Nat.le_of_ble_eq_true rfl) (Nat.zero_le _) (Nat.zero_le _) dX5_trainOn_1 rfl (fun u_1 H locs h_1 hP hD hS => ?_)
    have e_1 := h_1
    have e_1 := Eq.symm e_1
    subst e_1
    refine lv_aload_n hx hb dX5_trainOn_4 rfl (lv_at hl 0 rfl) ?_
    refine va_get (D := D) (ci := 5) (v := .ref (a 3)) (C := RX5) (T := TX5) (N := 8) hx hb hts in_X5_trainOn_X5 hown hK hP 0 rfl rfl 1 (by decide) (hts (.fieldLink RX5 19 "Warpyard" "trains" "LWarpyard$Trains;") (by decide +kernel)) (fun _ h9 => h9) rfl dX5_trainOn_5 ?_
    refine lv_iload_n hx hb dX5_trainOn_8 rfl (lv_at hl 1 rfl) ?_
    refine MI.callV (As := [.int b]) (rest := []) ⟨hx, hb, hml, hown, hts⟩ (c_X3_standingOn l D cI cZ a H.size σ b n hn hn4) (cwV 1 hts gX5_trainOn_X3_standingOn rfl rfl rfl (by decide +kernel) ⟨Nat.le_of_ble_eq_true rfl, Nat.le_of_ble_eq_true rfl⟩) hP hK hD hS hA (va_recv hK hP (ci := 3) (q0 := 3) rfl rfl) rfl hl.1 (Nat.le_of_ble_eq_true rfl) (Nat.zero_le _) (Nat.zero_le _) dX5_trainOn_9 rfl (fun r_9 u_9 H locs h_9 hP hD hS => ?_)
    obtain ⟨e_9, h_9⟩ := h_9
    have e_9 := Eq.symm e_9
    subst e_9
    have h_9 : r_9 = so (σ 4) b n := h_9
    exact XI.ret hx hb hr hlocks hK hP hD hS dX5_trainOn_12 (by exact ⟨cif_t g_1, rfl, h_9⟩)
  · skip
    exact XV.outS (As := [.int b]) (rest := []) ⟨hx, hb, hml, hown, hts⟩ (c_X5_needBlock_bad l D cI cZ a H.size σ hfl b g_1) (va_cwS 1 hts gX5_trainOn_X5_needBlock rfl rfl rfl (by decide +kernel) ⟨Nat.le_of_ble_eq_true rfl, Nat.le_of_ble_eq_true rfl⟩) hP hK hD hS hA hEV hZ rfl hl.1 (Nat.le_of_ble_eq_true rfl) (Nat.le_of_ble_eq_true rfl) (Nat.le_of_ble_eq_true rfl) dX5_trainOn_1 rfl hlocks hexc (fun E hE => ⟨hE, cif_f g_1⟩)
set_option maxRecDepth 20000 in
theorem in_X5_clock_X5 : ∀ w ∈ wsX50, w ∈ wsX5_clock := by decide +kernel
set_option maxHeartbeats 4000000 in
set_option maxRecDepth 100000 in
/-- Warpyard.clock -/
theorem c_X5_clock (l : Launch) (D : va_G) (cI cZ : ClassId) (a : Nat → Nat) (sz : Nat) (σ : St)  : MI l yX5_clock wsX5_clock ({ frames := 0, cells := 0, slots := 0, locals := 0 }) D (ty2 cI cZ) (wX cI cZ a) [.ref (a 0)] σ sz (fun r u => u = σ ∧ r = σ 0 0) := by
  refine MI.of (cc := cX5_clock) (maxL := 1) (by decide) rfl (Nat.le_of_ble_eq_true rfl) ?_
  intro p e s m args below meth c A H locs ls hx hb hr hml hown hts hlocks hA hS hP hK hD hl
  have hl : lv_has ls 1 [(0, .ref (a 0))] := hl
  refine lv_aload_n hx hb dX5_clock_0 rfl (lv_at hl 0 rfl) ?_
  refine va_get (D := D) (ci := 5) (v := .int (σ 0 0)) (C := RX5) (T := TX5) (N := 8) hx hb hts in_X5_clock_X5 hown hK hP 0 rfl rfl 6 (by decide) (hts (.fieldLink RX5 109 "Warpyard" "now" "I") (by decide +kernel)) (fun _ h9 => h9) rfl dX5_clock_1 ?_
  exact MI.ret hx hb hr hlocks hK hP hD hS dX5_clock_4 (by exact ⟨rfl, rfl⟩)
set_option maxRecDepth 20000 in
theorem in_X5_earned_X5 : ∀ w ∈ wsX50, w ∈ wsX5_earned := by decide +kernel
set_option maxHeartbeats 4000000 in
set_option maxRecDepth 100000 in
/-- Warpyard.earned -/
theorem c_X5_earned (l : Launch) (D : va_G) (cI cZ : ClassId) (a : Nat → Nat) (sz : Nat) (σ : St)  : MI l yX5_earned wsX5_earned ({ frames := 0, cells := 0, slots := 0, locals := 0 }) D (ty2 cI cZ) (wX cI cZ a) [.ref (a 0)] σ sz (fun r u => u = σ ∧ r = σ 1 0) := by
  refine MI.of (cc := cX5_earned) (maxL := 1) (by decide) rfl (Nat.le_of_ble_eq_true rfl) ?_
  intro p e s m args below meth c A H locs ls hx hb hr hml hown hts hlocks hA hS hP hK hD hl
  have hl : lv_has ls 1 [(0, .ref (a 0))] := hl
  refine lv_aload_n hx hb dX5_earned_0 rfl (lv_at hl 0 rfl) ?_
  refine va_get (D := D) (ci := 5) (v := .int (σ 1 0)) (C := RX5) (T := TX5) (N := 8) hx hb hts in_X5_earned_X5 hown hK hP 0 rfl rfl 7 (by decide) (hts (.fieldLink RX5 209 "Warpyard" "money" "I") (by decide +kernel)) (fun _ h9 => h9) rfl dX5_earned_1 ?_
  exact MI.ret hx hb hr hlocks hK hP hD hS dX5_earned_4 (by exact ⟨rfl, rfl⟩)
set_option maxRecDepth 20000 in
theorem in_X5_canBook_X5 : ∀ w ∈ wsX50, w ∈ wsX5_canBook := by decide +kernel
set_option maxHeartbeats 4000000 in
set_option maxRecDepth 100000 in
/-- Warpyard.canBook -/
theorem c_X5_canBook (l : Launch) (D : va_G) (cI cZ : ClassId) (a : Nat → Nat) (sz : Nat) (σ : St) (hfl : l.stackTraces = false) (t b fr to : Int32) (n : Nat) (hn : σ 3 0 = nI n) (hn4 : n ≤ 4) (nb : Nat) (hnb : σ 13 0 = nI nb) (hnb30 : nb ≤ 30) : XI l yX5_canBook wsX5_canBook ({ frames := 8, cells := 1, slots := 6, locals := 132 }) D (ty2 cI cZ) (wX cI cZ a) [.ref (a 0), .int t, .int b, .int fr, .int to] σ sz (fun r u => cdCan n t b fr to = 0 ∧ u = σ ∧ r = bI (¬ mts (σ 14) (σ 15) (σ 16) (σ 17) nb t b fr to)) (xB (cdCan n t b fr to)) := by
  refine XI.of (cc := cX5_canBook) (maxL := 5) (by decide) rfl (Nat.le_of_ble_eq_true rfl) ?_
  intro p e s m args below meth c A H locs ls hx hb hr hml hown hts hlocks hexc hEV hZ hA hS hP hK hD hl
  have hl : lv_has ls 5 [(0, .ref (a 0)), (1, .int t), (2, .int b), (3, .int fr), (4, .int to)] := hl
  refine lv_aload_n hx hb dX5_canBook_0 rfl (lv_at hl 0 rfl) ?_
  refine lv_iload_n hx hb dX5_canBook_1 rfl (lv_at hl 1 rfl) ?_
  by_cases g_2 : tr n t
  · skip
    refine MV.callV (As := [.int t]) (rest := []) ⟨hx, hb, hml, hown, hts⟩ (c_X5_needTrain_ok l D cI cZ a H.size σ t n hn hn4 g_2) (cwV 1 hts gX5_canBook_X5_needTrain rfl rfl rfl (by decide +kernel) ⟨Nat.le_of_ble_eq_true rfl, Nat.le_of_ble_eq_true rfl⟩) hP hK hD hS hA (va_recv hK hP (ci := 5) (q0 := 0) rfl rfl) rfl hl.1 (Nat.le_of_ble_eq_true rfl) (Nat.zero_le _) (Nat.zero_le _) dX5_canBook_2 rfl (fun u_2 H locs h_2 hP hD hS => ?_)
    have e_2 := h_2
    have e_2 := Eq.symm e_2
    subst e_2
    refine lv_iload_n hx hb dX5_canBook_5 rfl (lv_at hl 2 rfl) ?_
    by_cases g_6 : inR b 0 7
    · skip
      refine MV.callS (As := [.int b]) (rest := []) ⟨hx, hb, hml, hown, hts⟩ (c_X5_needBlock_ok l D cI cZ a H.size σ b g_6) (va_cwS 1 hts gX5_canBook_X5_needBlock rfl rfl rfl (by decide +kernel) ⟨Nat.le_of_ble_eq_true rfl, Nat.le_of_ble_eq_true rfl⟩) hP hK hD hS hA rfl hl.1 (Nat.le_of_ble_eq_true rfl) (Nat.zero_le _) (Nat.zero_le _) dX5_canBook_6 rfl (fun u_6 H locs h_6 hP hD hS => ?_)
      have e_6 := h_6
      have e_6 := Eq.symm e_6
      subst e_6
      refine lv_iconst (v := 0) hx hb dX5_canBook_9 (by decide) ?_
      refine lv_iload_n hx hb dX5_canBook_10 rfl (lv_at hl 3 rfl) ?_
      refine lv_iload hx hb dX5_canBook_11 (lv_at hl 4 rfl) ?_
      by_cases g_13 : inR fr 0 5000 ∧ inR to fr 5000
      · skip
        refine MV.callS (As := [.int 0, .int fr, .int to]) (rest := []) ⟨hx, hb, hml, hown, hts⟩ (c_X5_needSpan_ok l D cI cZ a H.size σ 0 fr to g_13) (va_cwS 3 hts gX5_canBook_X5_needSpan rfl rfl rfl (by decide +kernel) ⟨Nat.le_of_ble_eq_true rfl, Nat.le_of_ble_eq_true rfl⟩) hP hK hD hS hA rfl hl.1 (Nat.le_of_ble_eq_true rfl) (Nat.zero_le _) (Nat.zero_le _) dX5_canBook_13 rfl (fun u_13 H locs h_13 hP hD hS => ?_)
        have e_13 := h_13
        have e_13 := Eq.symm e_13
        subst e_13
        refine lv_aload_n hx hb dX5_canBook_16 rfl (lv_at hl 0 rfl) ?_
        refine va_get (D := D) (ci := 5) (v := .ref (a 13)) (C := RX5) (T := TX5) (N := 8) hx hb hts in_X5_canBook_X5 hown hK hP 0 rfl rfl 3 (by decide) (hts (.fieldLink RX5 29 "Warpyard" "bookings" "LWarpyard$Bookings;") (by decide +kernel)) (fun _ h9 => h9) rfl dX5_canBook_17 ?_
        refine lv_iload_n hx hb dX5_canBook_20 rfl (lv_at hl 1 rfl) ?_
        refine lv_iload_n hx hb dX5_canBook_21 rfl (lv_at hl 2 rfl) ?_
        refine lv_iload_n hx hb dX5_canBook_22 rfl (lv_at hl 3 rfl) ?_
        refine lv_iload hx hb dX5_canBook_23 (lv_at hl 4 rfl) ?_
        refine MI.callV (As := [.int t, .int b, .int fr, .int to]) (rest := []) ⟨hx, hb, hml, hown, hts⟩ (c_X0_meetsAnother l D cI cZ a H.size σ t b fr to nb hnb hnb30) (cwV 4 hts gX5_canBook_X0_meetsAnother rfl rfl rfl (by decide +kernel) ⟨Nat.le_of_ble_eq_true rfl, Nat.le_of_ble_eq_true rfl⟩) hP hK hD hS hA (va_recv hK hP (ci := 0) (q0 := 13) rfl rfl) rfl hl.1 (Nat.le_of_ble_eq_true rfl) (Nat.zero_le _) (Nat.zero_le _) dX5_canBook_25 rfl (fun r_25 u_25 H locs h_25 hP hD hS => ?_)
        rcases h_25 with ⟨e_25, ⟨rfl, h_25⟩ | ⟨rfl, h_25⟩⟩
        · skip
          have e_25 := Eq.symm e_25
          subst e_25
          have h_25 : mts (σ 14) (σ 15) (σ 16) (σ 17) nb t b fr to := h_25
          refine lv_if_ne (tgt := 35) hx hb dX5_canBook_28 (by decide) (fun _ => ?_) (fun c9 => absurd c9 (by decide))
          refine lv_iconst (v := 0) hx hb dX5_canBook_35 (by decide) ?_
          exact XI.zret hx hb hr hlocks hK hP hD hS dX5_canBook_36 rfl (by exact ⟨by rw [cdCan, cif_t ⟨g_2, g_6⟩, cif_t g_13], rfl, (bI_f (fun h => h h_25)).symm⟩)
        · skip
          have e_25 := Eq.symm e_25
          subst e_25
          have h_25 : ¬ mts (σ 14) (σ 15) (σ 16) (σ 17) nb t b fr to := h_25
          refine lv_if_ne (tgt := 35) hx hb dX5_canBook_28 (by decide) (fun c9 => absurd (by decide) c9) (fun _ => ?_)
          refine lv_iconst (v := 1) hx hb dX5_canBook_31 (by decide) ?_
          refine lv_goto (tgt := 36) hx hb dX5_canBook_32 (by decide) ?_
          exact XI.zret hx hb hr hlocks hK hP hD hS dX5_canBook_36 rfl (by exact ⟨by rw [cdCan, cif_t ⟨g_2, g_6⟩, cif_t g_13], rfl, (bI_t h_25).symm⟩)
      · skip
        exact XV.outS (As := [.int 0, .int fr, .int to]) (rest := []) ⟨hx, hb, hml, hown, hts⟩ (c_X5_needSpan_bad l D cI cZ a H.size σ hfl 0 fr to g_13) (va_cwS 3 hts gX5_canBook_X5_needSpan rfl rfl rfl (by decide +kernel) ⟨Nat.le_of_ble_eq_true rfl, Nat.le_of_ble_eq_true rfl⟩) hP hK hD hS hA hEV hZ rfl hl.1 (Nat.le_of_ble_eq_true rfl) (Nat.le_of_ble_eq_true rfl) (Nat.le_of_ble_eq_true rfl) dX5_canBook_13 rfl hlocks hexc (fun E hE => Or.inr ⟨hE, by rw [cdCan, cif_t ⟨g_2, g_6⟩, cif_f g_13]⟩)
    · skip
      exact XV.outS (As := [.int b]) (rest := []) ⟨hx, hb, hml, hown, hts⟩ (c_X5_needBlock_bad l D cI cZ a H.size σ hfl b g_6) (va_cwS 1 hts gX5_canBook_X5_needBlock rfl rfl rfl (by decide +kernel) ⟨Nat.le_of_ble_eq_true rfl, Nat.le_of_ble_eq_true rfl⟩) hP hK hD hS hA hEV hZ rfl hl.1 (Nat.le_of_ble_eq_true rfl) (Nat.le_of_ble_eq_true rfl) (Nat.le_of_ble_eq_true rfl) dX5_canBook_6 rfl hlocks hexc (fun E hE => Or.inl ⟨hE, by rw [cdCan, cif_f (fun h => g_6 h.2)]⟩)
  · skip
    exact XV.outV (As := [.int t]) (rest := []) ⟨hx, hb, hml, hown, hts⟩ (c_X5_needTrain_bad l D cI cZ a H.size σ hfl t n hn hn4 g_2) (cwV 1 hts gX5_canBook_X5_needTrain rfl rfl rfl (by decide +kernel) ⟨Nat.le_of_ble_eq_true rfl, Nat.le_of_ble_eq_true rfl⟩) hP hK hD hS hA hEV hZ (va_recv hK hP (ci := 5) (q0 := 0) rfl rfl) rfl hl.1 (Nat.le_of_ble_eq_true rfl) (Nat.le_of_ble_eq_true rfl) (Nat.le_of_ble_eq_true rfl) dX5_canBook_2 rfl hlocks hexc (fun E hE => Or.inl ⟨hE, by rw [cdCan, cif_f (fun h => g_2 h.1)]⟩)
set_option maxRecDepth 20000 in
theorem in_X5_booking_X0 : ∀ w ∈ wsX00, w ∈ wsX5_booking := by decide +kernel
set_option maxRecDepth 20000 in
theorem in_X5_booking_X5 : ∀ w ∈ wsX50, w ∈ wsX5_booking := by decide +kernel
set_option maxHeartbeats 4000000 in
set_option maxRecDepth 100000 in
/-- Warpyard.booking -/
theorem c_X5_booking (l : Launch) (D : va_G) (cI cZ : ClassId) (a : Nat → Nat) (sz : Nat) (σ : St) (hfl : l.stackTraces = false) (t : Int32) (nb : Nat) (hnb : σ 13 0 = nI nb) (hnb30 : nb ≤ 30) : XI l yX5_booking wsX5_booking ({ frames := 8, cells := 1, slots := 6, locals := 131 }) D (ty2 cI cZ) (wX cI cZ a) [.ref (a 0), .int t] σ sz (fun r u => cdTr nb t = 0 ∧ u = σ ∧ r = (if σ 18 t.toNatClampNeg = -1 then (if σ 17 t.toNatClampNeg < σ 0 0 then 2 else 0) else 1)) (x1 (cdTr nb t)) := by
  refine XI.of (cc := cX5_booking) (maxL := 2) (by decide) rfl (Nat.le_of_ble_eq_true rfl) ?_
  intro p e s m args below meth c A H locs ls hx hb hr hml hown hts hlocks hexc hEV hZ hA hS hP hK hD hl
  have hl : lv_has ls 2 [(0, .ref (a 0)), (1, .int t)] := hl
  refine lv_aload_n hx hb dX5_booking_0 rfl (lv_at hl 0 rfl) ?_
  refine lv_iload_n hx hb dX5_booking_1 rfl (lv_at hl 1 rfl) ?_
  by_cases g_2 : tr nb t
  · skip
    refine MV.callV (As := [.int t]) (rest := []) ⟨hx, hb, hml, hown, hts⟩ (c_X5_needBooking_ok l D cI cZ a H.size σ t nb hnb hnb30 g_2) (cwV 1 hts gX5_booking_X5_needBooking rfl rfl rfl (by decide +kernel) ⟨Nat.le_of_ble_eq_true rfl, Nat.le_of_ble_eq_true rfl⟩) hP hK hD hS hA (va_recv hK hP (ci := 5) (q0 := 0) rfl rfl) rfl hl.1 (Nat.le_of_ble_eq_true rfl) (Nat.zero_le _) (Nat.zero_le _) dX5_booking_2 rfl (fun u_2 H locs h_2 hP hD hS => ?_)
    have e_2 := h_2
    have e_2 := Eq.symm e_2
    subst e_2
    obtain ⟨k, hk, rfl⟩ := id g_2
    refine lv_aload_n hx hb dX5_booking_5 rfl (lv_at hl 0 rfl) ?_
    refine va_get (D := D) (ci := 5) (v := .ref (a 13)) (C := RX5) (T := TX5) (N := 8) hx hb hts in_X5_booking_X5 hown hK hP 0 rfl rfl 3 (by decide) (hts (.fieldLink RX5 29 "Warpyard" "bookings" "LWarpyard$Bookings;") (by decide +kernel)) (fun _ h9 => h9) rfl dX5_booking_6 ?_
    refine va_get (D := D) (ci := 0) (v := .ref (a 18)) (C := RX0) (T := TX0) (N := 6) hx hb hts in_X5_booking_X0 hown hK hP 13 rfl rfl 4 (by decide) (hts (.fieldLink RX5 147 "Warpyard$Bookings" "lateness" "[I") (by decide +kernel)) (fun _ h9 => h9) rfl dX5_booking_9 ?_
    refine lv_iload_n hx hb dX5_booking_12 rfl (lv_at hl 1 rfl) ?_
    refine na_iald hx hb hK hP 18 0 (f := (σ 18)) rfl rfl k (by omega) (by decide) rfl dX5_booking_13 ?_
    refine lv_iconst (v := (-1)) hx hb dX5_booking_14 (by decide) ?_
    refine lv_icmp_eq (tgt := 20) hx hb dX5_booking_15 (by decide) (fun c_15 => ?_) (fun c_15 => ?_)
    · skip
      refine lv_aload_n hx hb dX5_booking_20 rfl (lv_at hl 0 rfl) ?_
      refine va_get (D := D) (ci := 5) (v := .ref (a 13)) (C := RX5) (T := TX5) (N := 8) hx hb hts in_X5_booking_X5 hown hK hP 0 rfl rfl 3 (by decide) (hts (.fieldLink RX5 29 "Warpyard" "bookings" "LWarpyard$Bookings;") (by decide +kernel)) (fun _ h9 => h9) rfl dX5_booking_21 ?_
      refine va_get (D := D) (ci := 0) (v := .ref (a 17)) (C := RX0) (T := TX0) (N := 6) hx hb hts in_X5_booking_X0 hown hK hP 13 rfl rfl 3 (by decide) (hts (.fieldLink RX5 150 "Warpyard$Bookings" "last" "[I") (by decide +kernel)) (fun _ h9 => h9) rfl dX5_booking_24 ?_
      refine lv_iload_n hx hb dX5_booking_27 rfl (lv_at hl 1 rfl) ?_
      refine na_iald hx hb hK hP 17 0 (f := (σ 17)) rfl rfl k (by omega) (by decide) rfl dX5_booking_28 ?_
      refine lv_aload_n hx hb dX5_booking_29 rfl (lv_at hl 0 rfl) ?_
      refine va_get (D := D) (ci := 5) (v := .int (σ 0 0)) (C := RX5) (T := TX5) (N := 8) hx hb hts in_X5_booking_X5 hown hK hP 0 rfl rfl 6 (by decide) (hts (.fieldLink RX5 109 "Warpyard" "now" "I") (by decide +kernel)) (fun _ h9 => h9) rfl dX5_booking_30 ?_
      refine lv_icmp_ge (tgt := 40) hx hb dX5_booking_33 (by decide) (fun c_33 => ?_) (fun c_33 => ?_)
      · skip
        refine lv_iconst (v := 0) hx hb dX5_booking_40 (by decide) ?_
        exact XI.ret hx hb hr hlocks hK hP hD hS dX5_booking_41 (by rw [nI_clamp (show k < 2 ^ 31 by omega)]; exact ⟨cif_t g_2, rfl, by rw [if_pos c_15, if_neg (le_nlt.mp c_33)]⟩)
      · skip
        refine lv_iconst (v := 2) hx hb dX5_booking_36 (by decide) ?_
        refine lv_goto (tgt := 41) hx hb dX5_booking_37 (by decide) ?_
        exact XI.ret hx hb hr hlocks hK hP hD hS dX5_booking_41 (by rw [nI_clamp (show k < 2 ^ 31 by omega)]; exact ⟨cif_t g_2, rfl, by rw [if_pos c_15, if_pos (nle_lt c_33)]⟩)
    · skip
      refine lv_iconst (v := 1) hx hb dX5_booking_18 (by decide) ?_
      exact XI.ret hx hb hr hlocks hK hP hD hS dX5_booking_19 (by rw [nI_clamp (show k < 2 ^ 31 by omega)]; exact ⟨cif_t g_2, rfl, by rw [if_neg c_15]⟩)
  · skip
    exact XV.outV (As := [.int t]) (rest := []) ⟨hx, hb, hml, hown, hts⟩ (c_X5_needBooking_bad l D cI cZ a H.size σ hfl t nb hnb hnb30 g_2) (cwV 1 hts gX5_booking_X5_needBooking rfl rfl rfl (by decide +kernel) ⟨Nat.le_of_ble_eq_true rfl, Nat.le_of_ble_eq_true rfl⟩) hP hK hD hS hA hEV hZ (va_recv hK hP (ci := 5) (q0 := 0) rfl rfl) rfl hl.1 (Nat.le_of_ble_eq_true rfl) (Nat.le_of_ble_eq_true rfl) (Nat.le_of_ble_eq_true rfl) dX5_booking_2 rfl hlocks hexc (fun E hE => ⟨hE, cif_f g_2⟩)
set_option maxRecDepth 20000 in
theorem in_X5_late_X0 : ∀ w ∈ wsX00, w ∈ wsX5_late := by decide +kernel
set_option maxRecDepth 20000 in
theorem in_X5_late_X5 : ∀ w ∈ wsX50, w ∈ wsX5_late := by decide +kernel
set_option maxHeartbeats 4000000 in
set_option maxRecDepth 100000 in
/-- Warpyard.late -/
theorem c_X5_late (l : Launch) (D : va_G) (cI cZ : ClassId) (a : Nat → Nat) (sz : Nat) (σ : St) (hfl : l.stackTraces = false) (t : Int32) (nb : Nat) (hnb : σ 13 0 = nI nb) (hnb30 : nb ≤ 30) : XI l yX5_late wsX5_late ({ frames := 8, cells := 1, slots := 6, locals := 131 }) D (ty2 cI cZ) (wX cI cZ a) [.ref (a 0), .int t] σ sz (fun r u => cdTr nb t = 0 ∧ u = σ ∧ r = σ 18 t.toNatClampNeg) (x1 (cdTr nb t)) := by
  refine XI.of (cc := cX5_late) (maxL := 2) (by decide) rfl (Nat.le_of_ble_eq_true rfl) ?_
  intro p e s m args below meth c A H locs ls hx hb hr hml hown hts hlocks hexc hEV hZ hA hS hP hK hD hl
  have hl : lv_has ls 2 [(0, .ref (a 0)), (1, .int t)] := hl
  refine lv_aload_n hx hb dX5_late_0 rfl (lv_at hl 0 rfl) ?_
  refine lv_iload_n hx hb dX5_late_1 rfl (lv_at hl 1 rfl) ?_
  by_cases g_2 : tr nb t
  · skip
    refine MV.callV (As := [.int t]) (rest := []) ⟨hx, hb, hml, hown, hts⟩ (c_X5_needBooking_ok l D cI cZ a H.size σ t nb hnb hnb30 g_2) (cwV 1 hts gX5_late_X5_needBooking rfl rfl rfl (by decide +kernel) ⟨Nat.le_of_ble_eq_true rfl, Nat.le_of_ble_eq_true rfl⟩) hP hK hD hS hA (va_recv hK hP (ci := 5) (q0 := 0) rfl rfl) rfl hl.1 (Nat.le_of_ble_eq_true rfl) (Nat.zero_le _) (Nat.zero_le _) dX5_late_2 rfl (fun u_2 H locs h_2 hP hD hS => ?_)
    have e_2 := h_2
    have e_2 := Eq.symm e_2
    subst e_2
    obtain ⟨k, hk, rfl⟩ := id g_2
    refine lv_aload_n hx hb dX5_late_5 rfl (lv_at hl 0 rfl) ?_
    refine va_get (D := D) (ci := 5) (v := .ref (a 13)) (C := RX5) (T := TX5) (N := 8) hx hb hts in_X5_late_X5 hown hK hP 0 rfl rfl 3 (by decide) (hts (.fieldLink RX5 29 "Warpyard" "bookings" "LWarpyard$Bookings;") (by decide +kernel)) (fun _ h9 => h9) rfl dX5_late_6 ?_
    refine va_get (D := D) (ci := 0) (v := .ref (a 18)) (C := RX0) (T := TX0) (N := 6) hx hb hts in_X5_late_X0 hown hK hP 13 rfl rfl 4 (by decide) (hts (.fieldLink RX5 147 "Warpyard$Bookings" "lateness" "[I") (by decide +kernel)) (fun _ h9 => h9) rfl dX5_late_9 ?_
    refine lv_iload_n hx hb dX5_late_12 rfl (lv_at hl 1 rfl) ?_
    refine na_iald hx hb hK hP 18 0 (f := (σ 18)) rfl rfl k (by omega) (by decide) rfl dX5_late_13 ?_
    exact XI.ret hx hb hr hlocks hK hP hD hS dX5_late_14 (by rw [nI_clamp (show k < 2 ^ 31 by omega)]; exact ⟨cif_t g_2, rfl, rfl⟩)
  · skip
    exact XV.outV (As := [.int t]) (rest := []) ⟨hx, hb, hml, hown, hts⟩ (c_X5_needBooking_bad l D cI cZ a H.size σ hfl t nb hnb hnb30 g_2) (cwV 1 hts gX5_late_X5_needBooking rfl rfl rfl (by decide +kernel) ⟨Nat.le_of_ble_eq_true rfl, Nat.le_of_ble_eq_true rfl⟩) hP hK hD hS hA hEV hZ (va_recv hK hP (ci := 5) (q0 := 0) rfl rfl) rfl hl.1 (Nat.le_of_ble_eq_true rfl) (Nat.le_of_ble_eq_true rfl) (Nat.le_of_ble_eq_true rfl) dX5_late_2 rfl hlocks hexc (fun E hE => ⟨hE, cif_f g_2⟩)
