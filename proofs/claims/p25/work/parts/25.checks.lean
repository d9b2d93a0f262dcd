set_option maxRecDepth 20000 in
theorem in_X5_needTrain_X3 : ∀ w ∈ wsX30, w ∈ wsX5_needTrain := by decide +kernel
set_option maxRecDepth 20000 in
theorem in_X5_needTrain_X5 : ∀ w ∈ wsX50, w ∈ wsX5_needTrain := by decide +kernel
set_option maxHeartbeats 4000000 in
set_option maxRecDepth 100000 in
/-- needTrain, where nothing is refused -/
theorem c_X5_needTrain_ok (l : Launch) (D : va_G) (cI cZ : ClassId) (a : Nat → Nat) (sz : Nat) (σ : St) (t : Int32) (n : Nat) (hn : σ 3 0 = nI n) (hn4 : n ≤ 4) (g : tr n t) : MV l yX5_needTrain wsX5_needTrain ({ frames := 0, cells := 0, slots := 0, locals := 0 }) D (ty2 cI cZ) (wX cI cZ a) [.ref (a 0), .int t] σ sz (fun u => u = σ) := by
  refine MV.of (cc := cX5_needTrain) (maxL := 2) (by decide) rfl (Nat.le_of_ble_eq_true rfl) ?_
  intro p e s m args below meth c A H locs ls hx hb hr hml hown hts hlocks hA hS hP hK hD hl
  have hl : lv_has ls 2 [(0, .ref (a 0)), (1, .int t)] := hl
  refine lv_iload_n hx hb dX5_needTrain_0 rfl (lv_at hl 1 rfl) ?_
  refine lv_if_lt (tgt := 15) hx hb dX5_needTrain_1 (by decide) (fun c_1 => ?_) (fun c_1 => ?_)
  · skip
    exact absurd c_1 (tr_1 (by omega) g)
  · skip
    refine lv_iload_n hx hb dX5_needTrain_4 rfl (lv_at hl 1 rfl) ?_
    refine lv_aload_n hx hb dX5_needTrain_5 rfl (lv_at hl 0 rfl) ?_
    refine va_get (D := D) (ci := 5) (v := .ref (a 3)) (C := RX5) (T := TX5) (N := 8) hx hb hts in_X5_needTrain_X5 hown hK hP 0 rfl rfl 1 (by decide) (hts (.fieldLink RX5 19 "Warpyard" "trains" "LWarpyard$Trains;") (by decide +kernel)) (fun _ h9 => h9) rfl dX5_needTrain_6 ?_
    refine va_get (D := D) (ci := 3) (v := .int (σ 3 0)) (C := RX3) (T := TX3) (N := 5) hx hb hts in_X5_needTrain_X3 hown hK hP 3 rfl rfl 4 (by decide) (hts (.fieldLink RX5 51 "Warpyard$Trains" "count" "I") (by decide +kernel)) (fun _ h9 => h9) rfl dX5_needTrain_9 ?_
    refine lv_topi (fun v_12 e_12 => ?_)
    obtain rfl : v_12 = nI n := by rw [e_12]; exact hn
    refine lv_icmp_lt (tgt := 25) hx hb dX5_needTrain_12 (by decide) (fun c_12 => ?_) (fun c_12 => ?_)
    · skip
      exact MV.ret hx hb hr hlocks hK hP hD hS dX5_needTrain_25 (by rfl)
    · skip
      exact absurd (tr_2 (by omega) g) c_12
set_option maxRecDepth 20000 in
theorem k_X5_needTrain_95 : Cond.classLink RX5 95 "java/lang/IndexOutOfBoundsException" ∈ wsX5_needTrain := by decide +kernel
set_option maxRecDepth 20000 in
theorem j_X5_needTrain_95 : Cond.initialized "java/lang/IndexOutOfBoundsException" ∈ wsX5_needTrain := by decide +kernel
set_option maxRecDepth 20000 in
theorem v_X5_needTrain_95 : ∀ w ∈ (vx_atS RX5 99 "java/lang/IndexOutOfBoundsException" xnames).filter goodWord, w ∈ wsX5_needTrain := by decide +kernel
theorem w_X5_needTrain_95 {s : State} {args : Array Value} (hts : ∀ w ∈ wsX5_needTrain, w.before args s = true) (hEV : EV s) : ∀ w ∈ vx_atS RX5 99 "java/lang/IndexOutOfBoundsException" xnames, w.before args s = true := vx_hat (fun w h => hts w (v_X5_needTrain_95 w h)) (B := EVw) (by decide +kernel) (fun w h => va_Nw.use (EV.tab (s := s) w h) (hEV.1 w h))
theorem o_X5_needTrain_95 : ∀ w ∈ Cond.classLink RX5 95 "java/lang/IndexOutOfBoundsException" :: Cond.initialized "java/lang/IndexOutOfBoundsException" :: vx_atS RX5 99 "java/lang/IndexOutOfBoundsException" xnames, vx_ot w = true := by decide +kernel
set_option maxHeartbeats 4000000 in
set_option maxRecDepth 100000 in
/-- needTrain, where it refuses -/
theorem c_X5_needTrain_bad (l : Launch) (D : va_G) (cI cZ : ClassId) (a : Nat → Nat) (sz : Nat) (σ : St) (hfl : l.stackTraces = false) (t : Int32) (n : Nat) (hn : σ 3 0 = nI n) (hn4 : n ≤ 4) (g : ¬ (tr n t)) : XV l yX5_needTrain wsX5_needTrain ({ frames := 7, cells := 1, slots := 6, locals := 110 }) D (ty2 cI cZ) (wX cI cZ a) [.ref (a 0), .int t] σ sz (fun _ => False) (fun E => E = eIO) := by
  refine XV.of (cc := cX5_needTrain) (maxL := 2) (by decide) rfl (Nat.le_of_ble_eq_true rfl) ?_
  intro p e s m args below meth c A H locs ls hx hb hr hml hown hts hlocks hexc hEV hZ hA hS hP hK hD hl
  have hl : lv_has ls 2 [(0, .ref (a 0)), (1, .int t)] := hl
  refine lv_iload_n hx hb dX5_needTrain_0 rfl (lv_at hl 1 rfl) ?_
  refine lv_if_lt (tgt := 15) hx hb dX5_needTrain_1 (by decide) (fun c_1 => ?_) (fun c_1 => ?_)
  · skip
    exact X.throwS (cls := "java/lang/IndexOutOfBoundsException") (text := "no such train") (names := xnames) (ik := 95) (is := 225) (ic := 99) hx hb hfl hown (by decide +kernel) (by decide +kernel) (hts _ k_X5_needTrain_95) (hts _ j_X5_needTrain_95) (by decide +kernel) (w_X5_needTrain_95 hts hEV) o_X5_needTrain_95 hEV hZ hK hP hD hS (hl.1.trans hml.symm) dX5_needTrain_15 dX5_needTrain_18 dX5_needTrain_19 dX5_needTrain_21 dX5_needTrain_24 hexc (Nat.le_of_ble_eq_true rfl) (Nat.le_of_ble_eq_true rfl) (Nat.le_of_ble_eq_true rfl) (Nat.le_of_ble_eq_true rfl) hlocks (rfl)
  · skip
    refine lv_iload_n hx hb dX5_needTrain_4 rfl (lv_at hl 1 rfl) ?_
    refine lv_aload_n hx hb dX5_needTrain_5 rfl (lv_at hl 0 rfl) ?_
    refine va_get (D := D) (ci := 5) (v := .ref (a 3)) (C := RX5) (T := TX5) (N := 8) hx hb hts in_X5_needTrain_X5 hown hK hP 0 rfl rfl 1 (by decide) (hts (.fieldLink RX5 19 "Warpyard" "trains" "LWarpyard$Trains;") (by decide +kernel)) (fun _ h9 => h9) rfl dX5_needTrain_6 ?_
    refine va_get (D := D) (ci := 3) (v := .int (σ 3 0)) (C := RX3) (T := TX3) (N := 5) hx hb hts in_X5_needTrain_X3 hown hK hP 3 rfl rfl 4 (by decide) (hts (.fieldLink RX5 51 "Warpyard$Trains" "count" "I") (by decide +kernel)) (fun _ h9 => h9) rfl dX5_needTrain_9 ?_
    refine lv_topi (fun v_12 e_12 => ?_)
    obtain rfl : v_12 = nI n := by rw [e_12]; exact hn
    refine lv_icmp_lt (tgt := 25) hx hb dX5_needTrain_12 (by decide) (fun c_12 => ?_) (fun c_12 => ?_)
    · skip
      exact absurd (tr_y (by omega) c_1 c_12) g
    · skip
      exact X.throwS (cls := "java/lang/IndexOutOfBoundsException") (text := "no such train") (names := xnames) (ik := 95) (is := 225) (ic := 99) hx hb hfl hown (by decide +kernel) (by decide +kernel) (hts _ k_X5_needTrain_95) (hts _ j_X5_needTrain_95) (by decide +kernel) (w_X5_needTrain_95 hts hEV) o_X5_needTrain_95 hEV hZ hK hP hD hS (hl.1.trans hml.symm) dX5_needTrain_15 dX5_needTrain_18 dX5_needTrain_19 dX5_needTrain_21 dX5_needTrain_24 hexc (Nat.le_of_ble_eq_true rfl) (Nat.le_of_ble_eq_true rfl) (Nat.le_of_ble_eq_true rfl) (Nat.le_of_ble_eq_true rfl) hlocks (rfl)
set_option maxRecDepth 20000 in
theorem in_X5_needBooking_X0 : ∀ w ∈ wsX00, w ∈ wsX5_needBooking := by decide +kernel
set_option maxRecDepth 20000 in
theorem in_X5_needBooking_X5 : ∀ w ∈ wsX50, w ∈ wsX5_needBooking := by decide +kernel
set_option maxHeartbeats 4000000 in
set_option maxRecDepth 100000 in
/-- needBooking, where nothing is refused -/
theorem c_X5_needBooking_ok (l : Launch) (D : va_G) (cI cZ : ClassId) (a : Nat → Nat) (sz : Nat) (σ : St) (t : Int32) (nb : Nat) (hnb : σ 13 0 = nI nb) (hnb30 : nb ≤ 30) (g : tr nb t) : MV l yX5_needBooking wsX5_needBooking ({ frames := 0, cells := 0, slots := 0, locals := 0 }) D (ty2 cI cZ) (wX cI cZ a) [.ref (a 0), .int t] σ sz (fun u => u = σ) := by
  refine MV.of (cc := cX5_needBooking) (maxL := 2) (by decide) rfl (Nat.le_of_ble_eq_true rfl) ?_
  intro p e s m args below meth c A H locs ls hx hb hr hml hown hts hlocks hA hS hP hK hD hl
  have hl : lv_has ls 2 [(0, .ref (a 0)), (1, .int t)] := hl
  refine lv_iload_n hx hb dX5_needBooking_0 rfl (lv_at hl 1 rfl) ?_
  refine lv_if_lt (tgt := 15) hx hb dX5_needBooking_1 (by decide) (fun c_1 => ?_) (fun c_1 => ?_)
  · skip
    exact absurd c_1 (tr_1 (by omega) g)
  · skip
    refine lv_iload_n hx hb dX5_needBooking_4 rfl (lv_at hl 1 rfl) ?_
    refine lv_aload_n hx hb dX5_needBooking_5 rfl (lv_at hl 0 rfl) ?_
    refine va_get (D := D) (ci := 5) (v := .ref (a 13)) (C := RX5) (T := TX5) (N := 8) hx hb hts in_X5_needBooking_X5 hown hK hP 0 rfl rfl 3 (by decide) (hts (.fieldLink RX5 29 "Warpyard" "bookings" "LWarpyard$Bookings;") (by decide +kernel)) (fun _ h9 => h9) rfl dX5_needBooking_6 ?_
    refine va_get (D := D) (ci := 0) (v := .int (σ 13 0)) (C := RX0) (T := TX0) (N := 6) hx hb hts in_X5_needBooking_X0 hown hK hP 13 rfl rfl 5 (by decide) (hts (.fieldLink RX5 130 "Warpyard$Bookings" "count" "I") (by decide +kernel)) (fun _ h9 => h9) rfl dX5_needBooking_9 ?_
    refine lv_topi (fun v_12 e_12 => ?_)
    obtain rfl : v_12 = nI nb := by rw [e_12]; exact hnb
    refine lv_icmp_lt (tgt := 25) hx hb dX5_needBooking_12 (by decide) (fun c_12 => ?_) (fun c_12 => ?_)
    · skip
      exact MV.ret hx hb hr hlocks hK hP hD hS dX5_needBooking_25 (by rfl)
    · skip
      exact absurd (tr_2 (by omega) g) c_12
set_option maxRecDepth 20000 in
theorem k_X5_needBooking_95 : Cond.classLink RX5 95 "java/lang/IndexOutOfBoundsException" ∈ wsX5_needBooking := by decide +kernel
set_option maxRecDepth 20000 in
theorem j_X5_needBooking_95 : Cond.initialized "java/lang/IndexOutOfBoundsException" ∈ wsX5_needBooking := by decide +kernel
set_option maxRecDepth 20000 in
theorem v_X5_needBooking_95 : ∀ w ∈ (vx_atS RX5 99 "java/lang/IndexOutOfBoundsException" xnames).filter goodWord, w ∈ wsX5_needBooking := by decide +kernel
theorem w_X5_needBooking_95 {s : State} {args : Array Value} (hts : ∀ w ∈ wsX5_needBooking, w.before args s = true) (hEV : EV s) : ∀ w ∈ vx_atS RX5 99 "java/lang/IndexOutOfBoundsException" xnames, w.before args s = true := vx_hat (fun w h => hts w (v_X5_needBooking_95 w h)) (B := EVw) (by decide +kernel) (fun w h => va_Nw.use (EV.tab (s := s) w h) (hEV.1 w h))
theorem o_X5_needBooking_95 : ∀ w ∈ Cond.classLink RX5 95 "java/lang/IndexOutOfBoundsException" :: Cond.initialized "java/lang/IndexOutOfBoundsException" :: vx_atS RX5 99 "java/lang/IndexOutOfBoundsException" xnames, vx_ot w = true := by decide +kernel
set_option maxHeartbeats 4000000 in
set_option maxRecDepth 100000 in
/-- needBooking, where it refuses -/
theorem c_X5_needBooking_bad (l : Launch) (D : va_G) (cI cZ : ClassId) (a : Nat → Nat) (sz : Nat) (σ : St) (hfl : l.stackTraces = false) (t : Int32) (nb : Nat) (hnb : σ 13 0 = nI nb) (hnb30 : nb ≤ 30) (g : ¬ (tr nb t)) : XV l yX5_needBooking wsX5_needBooking ({ frames := 7, cells := 1, slots := 6, locals := 110 }) D (ty2 cI cZ) (wX cI cZ a) [.ref (a 0), .int t] σ sz (fun _ => False) (fun E => E = eIO) := by
  refine XV.of (cc := cX5_needBooking) (maxL := 2) (by decide) rfl (Nat.le_of_ble_eq_true rfl) ?_
  intro p e s m args below meth c A H locs ls hx hb hr hml hown hts hlocks hexc hEV hZ hA hS hP hK hD hl
  have hl : lv_has ls 2 [(0, .ref (a 0)), (1, .int t)] := hl
  refine lv_iload_n hx hb dX5_needBooking_0 rfl (lv_at hl 1 rfl) ?_
  refine lv_if_lt (tgt := 15) hx hb dX5_needBooking_1 (by decide) (fun c_1 => ?_) (fun c_1 => ?_)
  · skip
    exact X.throwS (cls := "java/lang/IndexOutOfBoundsException") (text := "no such booking") (names := xnames) (ik := 95) (is := 227) (ic := 99) hx hb hfl hown (by decide +kernel) (by decide +kernel) (hts _ k_X5_needBooking_95) (hts _ j_X5_needBooking_95) (by decide +kernel) (w_X5_needBooking_95 hts hEV) o_X5_needBooking_95 hEV hZ hK hP hD hS (hl.1.trans hml.symm) dX5_needBooking_15 dX5_needBooking_18 dX5_needBooking_19 dX5_needBooking_21 dX5_needBooking_24 hexc (Nat.le_of_ble_eq_true rfl) (Nat.le_of_ble_eq_true rfl) (Nat.le_of_ble_eq_true rfl) (Nat.le_of_ble_eq_true rfl) hlocks (rfl)
  · skip
    refine lv_iload_n hx hb dX5_needBooking_4 rfl (lv_at hl 1 rfl) ?_
    refine lv_aload_n hx hb dX5_needBooking_5 rfl (lv_at hl 0 rfl) ?_
    refine va_get (D := D) (ci := 5) (v := .ref (a 13)) (C := RX5) (T := TX5) (N := 8) hx hb hts in_X5_needBooking_X5 hown hK hP 0 rfl rfl 3 (by decide) (hts (.fieldLink RX5 29 "Warpyard" "bookings" "LWarpyard$Bookings;") (by decide +kernel)) (fun _ h9 => h9) rfl dX5_needBooking_6 ?_
    refine va_get (D := D) (ci := 0) (v := .int (σ 13 0)) (C := RX0) (T := TX0) (N := 6) hx hb hts in_X5_needBooking_X0 hown hK hP 13 rfl rfl 5 (by decide) (hts (.fieldLink RX5 130 "Warpyard$Bookings" "count" "I") (by decide +kernel)) (fun _ h9 => h9) rfl dX5_needBooking_9 ?_
    refine lv_topi (fun v_12 e_12 => ?_)
    obtain rfl : v_12 = nI nb := by rw [e_12]; exact hnb
    refine lv_icmp_lt (tgt := 25) hx hb dX5_needBooking_12 (by decide) (fun c_12 => ?_) (fun c_12 => ?_)
    · skip
      exact absurd (tr_y (by omega) c_1 c_12) g
    · skip
      exact X.throwS (cls := "java/lang/IndexOutOfBoundsException") (text := "no such booking") (names := xnames) (ik := 95) (is := 227) (ic := 99) hx hb hfl hown (by decide +kernel) (by decide +kernel) (hts _ k_X5_needBooking_95) (hts _ j_X5_needBooking_95) (by decide +kernel) (w_X5_needBooking_95 hts hEV) o_X5_needBooking_95 hEV hZ hK hP hD hS (hl.1.trans hml.symm) dX5_needBooking_15 dX5_needBooking_18 dX5_needBooking_19 dX5_needBooking_21 dX5_needBooking_24 hexc (Nat.le_of_ble_eq_true rfl) (Nat.le_of_ble_eq_true rfl) (Nat.le_of_ble_eq_true rfl) (Nat.le_of_ble_eq_true rfl) hlocks (rfl)
set_option maxHeartbeats 4000000 in
set_option maxRecDepth 100000 in
/-- needBlock, where nothing is refused -/
theorem c_X5_needBlock_ok (l : Launch) (D : va_G) (cI cZ : ClassId) (a : Nat → Nat) (sz : Nat) (σ : St) (b : Int32) (g : inR b 0 7) : MV l yX5_needBlock wsX5_needBlock ({ frames := 0, cells := 0, slots := 0, locals := 0 }) D (ty2 cI cZ) (wX cI cZ a) [.int b] σ sz (fun u => u = σ) := by
  refine MV.of (cc := cX5_needBlock) (maxL := 1) (by decide) rfl (Nat.le_of_ble_eq_true rfl) ?_
  intro p e s m args below meth c A H locs ls hx hb hr hml hown hts hlocks hA hS hP hK hD hl
  have hl : lv_has ls 1 [(0, .int b)] := hl
  refine lv_iload_n hx hb dX5_needBlock_0 rfl (lv_at hl 0 rfl) ?_
  refine lv_if_lt (tgt := 10) hx hb dX5_needBlock_1 (by decide) (fun c_1 => ?_) (fun c_1 => ?_)
  · skip
    exact absurd c_1 g.1
  · skip
    refine lv_iload_n hx hb dX5_needBlock_4 rfl (lv_at hl 0 rfl) ?_
    refine lv_bipush (v := 8) hx hb dX5_needBlock_5 (by decide) ?_
    refine lv_icmp_lt (tgt := 20) hx hb dX5_needBlock_7 (by decide) (fun c_7 => ?_) (fun c_7 => ?_)
    · skip
      exact MV.ret hx hb hr hlocks hK hP hD hS dX5_needBlock_20 (by rfl)
    · skip
      exact absurd ((lt_suc (by decide)).mpr g.2) c_7
set_option maxRecDepth 20000 in
theorem k_X5_needBlock_95 : Cond.classLink RX5 95 "java/lang/IndexOutOfBoundsException" ∈ wsX5_needBlock := by decide +kernel
set_option maxRecDepth 20000 in
theorem j_X5_needBlock_95 : Cond.initialized "java/lang/IndexOutOfBoundsException" ∈ wsX5_needBlock := by decide +kernel
set_option maxRecDepth 20000 in
theorem v_X5_needBlock_95 : ∀ w ∈ (vx_atS RX5 99 "java/lang/IndexOutOfBoundsException" xnames).filter goodWord, w ∈ wsX5_needBlock := by decide +kernel
theorem w_X5_needBlock_95 {s : State} {args : Array Value} (hts : ∀ w ∈ wsX5_needBlock, w.before args s = true) (hEV : EV s) : ∀ w ∈ vx_atS RX5 99 "java/lang/IndexOutOfBoundsException" xnames, w.before args s = true := vx_hat (fun w h => hts w (v_X5_needBlock_95 w h)) (B := EVw) (by decide +kernel) (fun w h => va_Nw.use (EV.tab (s := s) w h) (hEV.1 w h))
theorem o_X5_needBlock_95 : ∀ w ∈ Cond.classLink RX5 95 "java/lang/IndexOutOfBoundsException" :: Cond.initialized "java/lang/IndexOutOfBoundsException" :: vx_atS RX5 99 "java/lang/IndexOutOfBoundsException" xnames, vx_ot w = true := by decide +kernel
set_option maxHeartbeats 4000000 in
set_option maxRecDepth 100000 in
/-- needBlock, where it refuses -/
theorem c_X5_needBlock_bad (l : Launch) (D : va_G) (cI cZ : ClassId) (a : Nat → Nat) (sz : Nat) (σ : St) (hfl : l.stackTraces = false) (b : Int32) (g : ¬ (inR b 0 7)) : XV l yX5_needBlock wsX5_needBlock ({ frames := 7, cells := 1, slots := 6, locals := 110 }) D (ty2 cI cZ) (wX cI cZ a) [.int b] σ sz (fun _ => False) (fun E => E = eIO) := by
  refine XV.of (cc := cX5_needBlock) (maxL := 1) (by decide) rfl (Nat.le_of_ble_eq_true rfl) ?_
  intro p e s m args below meth c A H locs ls hx hb hr hml hown hts hlocks hexc hEV hZ hA hS hP hK hD hl
  have hl : lv_has ls 1 [(0, .int b)] := hl
  refine lv_iload_n hx hb dX5_needBlock_0 rfl (lv_at hl 0 rfl) ?_
  refine lv_if_lt (tgt := 10) hx hb dX5_needBlock_1 (by decide) (fun c_1 => ?_) (fun c_1 => ?_)
  · skip
    exact X.throwS (cls := "java/lang/IndexOutOfBoundsException") (text := "no such block") (names := xnames) (ik := 95) (is := 229) (ic := 99) hx hb hfl hown (by decide +kernel) (by decide +kernel) (hts _ k_X5_needBlock_95) (hts _ j_X5_needBlock_95) (by decide +kernel) (w_X5_needBlock_95 hts hEV) o_X5_needBlock_95 hEV hZ hK hP hD hS (hl.1.trans hml.symm) dX5_needBlock_10 dX5_needBlock_13 dX5_needBlock_14 dX5_needBlock_16 dX5_needBlock_19 hexc (Nat.le_of_ble_eq_true rfl) (Nat.le_of_ble_eq_true rfl) (Nat.le_of_ble_eq_true rfl) (Nat.le_of_ble_eq_true rfl) hlocks (rfl)
  · skip
    refine lv_iload_n hx hb dX5_needBlock_4 rfl (lv_at hl 0 rfl) ?_
    refine lv_bipush (v := 8) hx hb dX5_needBlock_5 (by decide) ?_
    refine lv_icmp_lt (tgt := 20) hx hb dX5_needBlock_7 (by decide) (fun c_7 => ?_) (fun c_7 => ?_)
    · skip
      exact absurd ⟨c_1, (lt_suc (by decide)).mp c_7⟩ g
    · skip
      exact X.throwS (cls := "java/lang/IndexOutOfBoundsException") (text := "no such block") (names := xnames) (ik := 95) (is := 229) (ic := 99) hx hb hfl hown (by decide +kernel) (by decide +kernel) (hts _ k_X5_needBlock_95) (hts _ j_X5_needBlock_95) (by decide +kernel) (w_X5_needBlock_95 hts hEV) o_X5_needBlock_95 hEV hZ hK hP hD hS (hl.1.trans hml.symm) dX5_needBlock_10 dX5_needBlock_13 dX5_needBlock_14 dX5_needBlock_16 dX5_needBlock_19 hexc (Nat.le_of_ble_eq_true rfl) (Nat.le_of_ble_eq_true rfl) (Nat.le_of_ble_eq_true rfl) (Nat.le_of_ble_eq_true rfl) hlocks (rfl)
set_option maxHeartbeats 4000000 in
set_option maxRecDepth 100000 in
/-- needSpan, where nothing is refused -/
theorem c_X5_needSpan_ok (l : Launch) (D : va_G) (cI cZ : ClassId) (a : Nat → Nat) (sz : Nat) (σ : St) (ea fr to : Int32) (g : inR fr ea 5000 ∧ inR to fr 5000) : MV l yX5_needSpan wsX5_needSpan ({ frames := 0, cells := 0, slots := 0, locals := 0 }) D (ty2 cI cZ) (wX cI cZ a) [.int ea, .int fr, .int to] σ sz (fun u => u = σ) := by
  refine MV.of (cc := cX5_needSpan) (maxL := 3) (by decide) rfl (Nat.le_of_ble_eq_true rfl) ?_
  intro p e s m args below meth c A H locs ls hx hb hr hml hown hts hlocks hA hS hP hK hD hl
  have hl : lv_has ls 3 [(0, .int ea), (1, .int fr), (2, .int to)] := hl
  refine lv_iload_n hx hb dX5_needSpan_0 rfl (lv_at hl 1 rfl) ?_
  refine lv_iload_n hx hb dX5_needSpan_1 rfl (lv_at hl 0 rfl) ?_
  refine lv_icmp_lt (tgt := 12) hx hb dX5_needSpan_2 (by decide) (fun c_2 => ?_) (fun c_2 => ?_)
  · skip
    exact absurd c_2 g.1.1
  · skip
    refine lv_iload_n hx hb dX5_needSpan_5 rfl (lv_at hl 1 rfl) ?_
    refine lv_sipush (v := 5000) hx hb dX5_needSpan_6 (by decide) ?_
    refine lv_icmp_le (tgt := 22) hx hb dX5_needSpan_9 (by decide) (fun c_9 => ?_) (fun c_9 => ?_)
    · skip
      refine lv_iload_n hx hb dX5_needSpan_22 rfl (lv_at hl 2 rfl) ?_
      refine lv_iload_n hx hb dX5_needSpan_23 rfl (lv_at hl 1 rfl) ?_
      refine lv_icmp_lt (tgt := 34) hx hb dX5_needSpan_24 (by decide) (fun c_24 => ?_) (fun c_24 => ?_)
      · skip
        exact absurd c_24 g.2.1
      · skip
        refine lv_iload_n hx hb dX5_needSpan_27 rfl (lv_at hl 2 rfl) ?_
        refine lv_sipush (v := 5000) hx hb dX5_needSpan_28 (by decide) ?_
        refine lv_icmp_le (tgt := 44) hx hb dX5_needSpan_31 (by decide) (fun c_31 => ?_) (fun c_31 => ?_)
        · skip
          exact MV.ret hx hb hr hlocks hK hP hD hS dX5_needSpan_44 (by rfl)
        · skip
          exact absurd (le_nlt.mpr g.2.2) c_31
    · skip
      exact absurd (le_nlt.mpr g.1.2) c_9
set_option maxRecDepth 20000 in
theorem k_X5_needSpan_86 : Cond.classLink RX5 86 "java/lang/IllegalArgumentException" ∈ wsX5_needSpan := by decide +kernel
set_option maxRecDepth 20000 in
theorem j_X5_needSpan_86 : Cond.initialized "java/lang/IllegalArgumentException" ∈ wsX5_needSpan := by decide +kernel
set_option maxRecDepth 20000 in
theorem v_X5_needSpan_86 : ∀ w ∈ (vx_atS RX5 90 "java/lang/IllegalArgumentException" xnames).filter goodWord, w ∈ wsX5_needSpan := by decide +kernel
theorem w_X5_needSpan_86 {s : State} {args : Array Value} (hts : ∀ w ∈ wsX5_needSpan, w.before args s = true) (hEV : EV s) : ∀ w ∈ vx_atS RX5 90 "java/lang/IllegalArgumentException" xnames, w.before args s = true := vx_hat (fun w h => hts w (v_X5_needSpan_86 w h)) (B := EVw) (by decide +kernel) (fun w h => va_Nw.use (EV.tab (s := s) w h) (hEV.1 w h))
theorem o_X5_needSpan_86 : ∀ w ∈ Cond.classLink RX5 86 "java/lang/IllegalArgumentException" :: Cond.initialized "java/lang/IllegalArgumentException" :: vx_atS RX5 90 "java/lang/IllegalArgumentException" xnames, vx_ot w = true := by decide +kernel
set_option maxHeartbeats 4000000 in
set_option maxRecDepth 100000 in
/-- needSpan, where it refuses -/
theorem c_X5_needSpan_bad (l : Launch) (D : va_G) (cI cZ : ClassId) (a : Nat → Nat) (sz : Nat) (σ : St) (hfl : l.stackTraces = false) (ea fr to : Int32) (g : ¬ (inR fr ea 5000 ∧ inR to fr 5000)) : XV l yX5_needSpan wsX5_needSpan ({ frames := 7, cells := 1, slots := 6, locals := 110 }) D (ty2 cI cZ) (wX cI cZ a) [.int ea, .int fr, .int to] σ sz (fun _ => False) (fun E => E = eIA) := by
  refine XV.of (cc := cX5_needSpan) (maxL := 3) (by decide) rfl (Nat.le_of_ble_eq_true rfl) ?_
  intro p e s m args below meth c A H locs ls hx hb hr hml hown hts hlocks hexc hEV hZ hA hS hP hK hD hl
  have hl : lv_has ls 3 [(0, .int ea), (1, .int fr), (2, .int to)] := hl
  refine lv_iload_n hx hb dX5_needSpan_0 rfl (lv_at hl 1 rfl) ?_
  refine lv_iload_n hx hb dX5_needSpan_1 rfl (lv_at hl 0 rfl) ?_
  refine lv_icmp_lt (tgt := 12) hx hb dX5_needSpan_2 (by decide) (fun c_2 => ?_) (fun c_2 => ?_)
  · skip
    exact X.throwS (cls := "java/lang/IllegalArgumentException") (text := "first is out of range") (names := xnames) (ik := 86) (is := 235) (ic := 90) hx hb hfl hown (by decide +kernel) (by decide +kernel) (hts _ k_X5_needSpan_86) (hts _ j_X5_needSpan_86) (by decide +kernel) (w_X5_needSpan_86 hts hEV) o_X5_needSpan_86 hEV hZ hK hP hD hS (hl.1.trans hml.symm) dX5_needSpan_12 dX5_needSpan_15 dX5_needSpan_16 dX5_needSpan_18 dX5_needSpan_21 hexc (Nat.le_of_ble_eq_true rfl) (Nat.le_of_ble_eq_true rfl) (Nat.le_of_ble_eq_true rfl) (Nat.le_of_ble_eq_true rfl) hlocks (rfl)
  · skip
    refine lv_iload_n hx hb dX5_needSpan_5 rfl (lv_at hl 1 rfl) ?_
    refine lv_sipush (v := 5000) hx hb dX5_needSpan_6 (by decide) ?_
    refine lv_icmp_le (tgt := 22) hx hb dX5_needSpan_9 (by decide) (fun c_9 => ?_) (fun c_9 => ?_)
    · skip
      refine lv_iload_n hx hb dX5_needSpan_22 rfl (lv_at hl 2 rfl) ?_
      refine lv_iload_n hx hb dX5_needSpan_23 rfl (lv_at hl 1 rfl) ?_
      refine lv_icmp_lt (tgt := 34) hx hb dX5_needSpan_24 (by decide) (fun c_24 => ?_) (fun c_24 => ?_)
      · skip
        exact X.throwS (cls := "java/lang/IllegalArgumentException") (text := "last is out of range") (names := xnames) (ik := 86) (is := 237) (ic := 90) hx hb hfl hown (by decide +kernel) (by decide +kernel) (hts _ k_X5_needSpan_86) (hts _ j_X5_needSpan_86) (by decide +kernel) (w_X5_needSpan_86 hts hEV) o_X5_needSpan_86 hEV hZ hK hP hD hS (hl.1.trans hml.symm) dX5_needSpan_34 dX5_needSpan_37 dX5_needSpan_38 dX5_needSpan_40 dX5_needSpan_43 hexc (Nat.le_of_ble_eq_true rfl) (Nat.le_of_ble_eq_true rfl) (Nat.le_of_ble_eq_true rfl) (Nat.le_of_ble_eq_true rfl) hlocks (rfl)
      · skip
        refine lv_iload_n hx hb dX5_needSpan_27 rfl (lv_at hl 2 rfl) ?_
        refine lv_sipush (v := 5000) hx hb dX5_needSpan_28 (by decide) ?_
        refine lv_icmp_le (tgt := 44) hx hb dX5_needSpan_31 (by decide) (fun c_31 => ?_) (fun c_31 => ?_)
        · skip
          exact absurd ⟨⟨c_2, le_nlt.mp c_9⟩, ⟨c_24, le_nlt.mp c_31⟩⟩ g
        · skip
          exact X.throwS (cls := "java/lang/IllegalArgumentException") (text := "last is out of range") (names := xnames) (ik := 86) (is := 237) (ic := 90) hx hb hfl hown (by decide +kernel) (by decide +kernel) (hts _ k_X5_needSpan_86) (hts _ j_X5_needSpan_86) (by decide +kernel) (w_X5_needSpan_86 hts hEV) o_X5_needSpan_86 hEV hZ hK hP hD hS (hl.1.trans hml.symm) dX5_needSpan_34 dX5_needSpan_37 dX5_needSpan_38 dX5_needSpan_40 dX5_needSpan_43 hexc (Nat.le_of_ble_eq_true rfl) (Nat.le_of_ble_eq_true rfl) (Nat.le_of_ble_eq_true rfl) (Nat.le_of_ble_eq_true rfl) hlocks (rfl)
    · skip
      exact X.throwS (cls := "java/lang/IllegalArgumentException") (text := "first is out of range") (names := xnames) (ik := 86) (is := 235) (ic := 90) hx hb hfl hown (by decide +kernel) (by decide +kernel) (hts _ k_X5_needSpan_86) (hts _ j_X5_needSpan_86) (by decide +kernel) (w_X5_needSpan_86 hts hEV) o_X5_needSpan_86 hEV hZ hK hP hD hS (hl.1.trans hml.symm) dX5_needSpan_12 dX5_needSpan_15 dX5_needSpan_16 dX5_needSpan_18 dX5_needSpan_21 hexc (Nat.le_of_ble_eq_true rfl) (Nat.le_of_ble_eq_true rfl) (Nat.le_of_ble_eq_true rfl) (Nat.le_of_ble_eq_true rfl) hlocks (rfl)
set_option maxHeartbeats 4000000 in
set_option maxRecDepth 100000 in
theorem c_X5_isSiding (l : Launch) (D : va_G) (cI cZ : ClassId) (a : Nat → Nat) (sz : Nat) (σ : St) (v : Int32) : MI l yX5_isSiding wsX5_isSiding ({ frames := 0, cells := 0, slots := 0, locals := 0 }) D (ty2 cI cZ) (wX cI cZ a) [.int v] σ sz (fun r u => u = σ ∧ bo r (inR v 6 7)) := by
  refine MI.of (cc := cX5_isSiding) (maxL := 1) (by decide) rfl (Nat.le_of_ble_eq_true rfl) ?_
  intro p e s m args below meth c A H locs ls hx hb hr hml hown hts hlocks hA hS hP hK hD hl
  have hl : lv_has ls 1 [(0, .int v)] := hl
  refine lv_iload_n hx hb dX5_isSiding_0 rfl (lv_at hl 0 rfl) ?_
  refine lv_bipush (v := 6) hx hb dX5_isSiding_1 (by decide) ?_
  refine lv_icmp_lt (tgt := 16) hx hb dX5_isSiding_3 (by decide) (fun c_3 => ?_) (fun c_3 => ?_)
  · skip
    refine lv_iconst (v := 0) hx hb dX5_isSiding_16 (by decide) ?_
    exact MI.zret hx hb hr hlocks hK hP hD hS dX5_isSiding_17 rfl (by exact ⟨rfl, Or.inr ⟨rfl, fun h => h.1 c_3⟩⟩)
  · skip
    refine lv_iload_n hx hb dX5_isSiding_6 rfl (lv_at hl 0 rfl) ?_
    refine lv_bipush (v := 8) hx hb dX5_isSiding_7 (by decide) ?_
    refine lv_icmp_ge (tgt := 16) hx hb dX5_isSiding_9 (by decide) (fun c_9 => ?_) (fun c_9 => ?_)
    · skip
      refine lv_iconst (v := 0) hx hb dX5_isSiding_16 (by decide) ?_
      exact MI.zret hx hb hr hlocks hK hP hD hS dX5_isSiding_17 rfl (by exact ⟨rfl, Or.inr ⟨rfl, fun h => h.2 (ge_suc (by decide) c_9)⟩⟩)
    · skip
      refine lv_iconst (v := 1) hx hb dX5_isSiding_12 (by decide) ?_
      refine lv_goto (tgt := 17) hx hb dX5_isSiding_13 (by decide) ?_
      exact MI.zret hx hb hr hlocks hK hP hD hS dX5_isSiding_17 rfl (by exact ⟨rfl, Or.inl ⟨rfl, c_3, nge_suc (by decide) c_9⟩⟩)
