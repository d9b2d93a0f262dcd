set_option maxRecDepth 20000 in
theorem in_X5_needTrain_X3 : ∀ w ∈ wsX30, w ∈ wsX5_needTrain := by decide +kernel
set_option maxRecDepth 20000 in
theorem in_X5_needTrain_X5 : ∀ w ∈ wsX50, w ∈ wsX5_needTrain := by decide +kernel
set_option maxHeartbeats 4000000 in
set_option maxRecDepth 100000 in
/-- needTrain, where nothing is refused -/
theorem c_X5_needTrain_ok (l : Launch) (D : va_G) (cI cZ : ClassId) (a : Nat → Nat) (sz : Nat) (σ : St) (t : Int32) (n : Nat) (hn : σ 3 0 = nI n) (hn4 : n ≤ 4) (g : tr n t) : MV l yX5_needTrain wsX5_needTrain ({ frames := 0, cells := 0, slots := 0, locals := 0 }) D (ty2 cI cZ) (wX cI cZ a) [.ref (a 0), .int t] σ sz (fun u => u = σ) := by
  refine MV.of (cc := cX5_needTrain) (maxL := 2) (by decide) rfl (Nat.le_of_ble_eq_true rfl) ?_
  intro p e s m args below meth c A H locs ls hx hb hr hml hown hts hlocks hA hS hP hK hD hl
  have hl : lv_has ls 2 [(0, .ref (a 0)), (1, .int t)] := hl
  refine lv_iload_n hx hb dX5_needTrain_0 rfl (lv_at hl 1 rfl) ?_
  refine lv_if_lt (tgt := 15) hx hb dX5_needTrain_1 (by decide) (fun c_1 => ?_) (fun c_1 => ?_)
  · skip
    exact absurd c_1 (tr_1 (by omega) g)
  · skip
    refine lv_iload_n hx hb dX5_needTrain_4 rfl (lv_at hl 1 rfl) ?_
    refine lv_aload_n hx hb dX5_needTrain_5 rfl (lv_at hl 0 rfl) ?_
    refine va_get (D := D) (ci := 5) (v := .ref (a 3)) (C := RX5) (T := TX5) (N := 8) hx hb hts in_X5_needTrain_X5 hown hK hP 0 rfl rfl 1 (by decide) (hts (.fieldLink RX5 19 "Warpyard" "trains" "LWarpyard$Trains;") (by decide +kernel)) (fun _ h9 => h9) rfl dX5_needTrain_6 ?_
    refine va_get (D := D) (ci := 3) (v := .int (σ 3 0)) (C := RX3) (T := TX3) (N := 5) hx hb hts in_X5_needTrain_X3 hown hK hP 3 rfl rfl 4 (by decide) (hts (.fieldLink RX5 51 "Warpyard$Trains" "count" "I") (by decide +kernel)) (fun _ h9 => h9) rfl dX5_needTrain_9 ?_
    refine lv_topi (fun v_12 e_12 => ?_)
    obtain rfl : v_12 = nI n := by rw [e_12]; exact hn
    refine lv_icmp_lt (tgt := 25) hx hb dX5_needTrain_12 (by decide) (fun c_12 => ?_) (fun c_12 => ?_)
    · skip
      exact MV.ret hx hb hr hlocks hK hP hD hS dX5_needTrain_25 (by rfl)
    · skip
      exact absurd (tr_2 (by omega) g) c_12
set_option maxRecDepth 20000 in
theorem k_X5_needTrain_95 : Cond.classLink RX5 95 "java/lang/IndexOutOfBoundsException" ∈ wsX5_needTrain := by decide +kernel
set_option maxRecDepth 20000 in
theorem j_X5_needTrain_95 : Cond.initialized "java/lang/IndexOutOfBoundsException" ∈ wsX5_needTrain := by decide +kernel
set_option maxRecDepth 20000 in
theorem v_X5_needTrain_95 : ∀ w ∈ (vx_atS RX5 99 "java/lang/IndexOutOfBoundsException" xnames).filter goodWord, w ∈ wsX5_needTrain := by decide +kernel
theorem w_X5_needTrain_95 {s : State} {args : Array Value} (hts : ∀ w ∈ wsX5_needTrain, w.before args s = true) (hEV : EV s) : ∀ w ∈ vx_atS RX5 99 "java/lang/IndexOutOfBoundsException" xnames, w.before args s = true := vx_hat (fun w h => hts w (v_X5_needTrain_95 w h)) (B := EVw) (by decide +kernel) (fun w h => va_Nw.use (EV.tab (s := s) w h) (hEV.1 w h))
theorem o_X5_needTrain_95 : ∀ w ∈ Cond.classLink RX5 95 "java/lang/IndexOutOfBoundsException" :: Cond.initialized "java/lang/IndexOutOfBoundsException" :: vx_atS RX5 99 "java/lang/IndexOutOfBoundsException" xnames, vx_ot w = true := by decide +kernel
set_option maxHeartbeats 4000000 in
set_option maxRecDepth 100000 in
/-- needTrain, where it refuses -/
theorem c_X5_needTrain_bad (l : Launch) (D : va_G) (cI cZ : ClassId) (a : Nat → Nat) (sz : Nat) (σ : St) (hfl : l.stackTraces = false) (t : Int32) (n : Nat) (hn : σ 3 0 = nI n) (hn4 : n ≤ 4) (g : ¬ (tr n t)) : XV l yX5_needTrain wsX5_needTrain ({ frames := 7, cells := 1, slots := 6, locals := 110 }) D (ty2 cI cZ) (wX cI cZ a) [.ref (a 0), .int t] σ sz (fun _ => False) (fun E => E = eIO) := by
  refine XV.of (cc := cX5_needTrain) (maxL := 2) (by decide) rfl (Nat.le_of_ble_eq_true rfl) ?_
  intro p e s m args below meth c A H locs ls hx hb hr hml hown hts hlocks hexc hEV hZ hA hS hP hK hD hl
  have hl : lv_has ls 2 [(0, .ref (a 0)), (1, .int t)] := hl
  refine lv_iload_n hx hb dX5_needTrain_0 rfl (lv_at hl 1 rfl) ?_
  refine lv_if_lt (tgt := 15) hx hb dX5_needTrain_1 (by decide) (fun c_1 => ?_) (fun c_1 => ?_)
  · skip
    exact X.throwS (cls := "java/lang/IndexOutOfBoundsException") (text := "no such train") (names := xnames) (ik := 95) (is := 225) (ic := 99) hx hb hfl hown (by decide +kernel) (by decide +kernel) (hts _ k_X5_needTrain_95) (hts _ j_X5_needTrain_95) (by decide +kernel) (w_X5_needTrain_95 hts hEV) o_X5_needTrain_95 hEV hZ hK hP hD hS (hl.1.trans hml.symm) dX5_needTrain_15 dX5_needTrain_18 dX5_needTrain_19 dX5_needTrain_21 dX5_needTrain_24 hexc (Nat.le_of_ble_eq_true rfl) (Nat.le_of_ble_eq_true rfl) (Nat.le_of_ble_eq_true rfl) (Nat.le_of_ble_eq_true rfl) hlocks (rfl)
  · skip
    refine lv_iload_n hx hb dX5_needTrain_4 rfl (lv_at hl 1 rfl) ?_
    refine lv_aload_n hx hb dX5_needTrain_5 rfl (lv_at hl 0 rfl) ?_
    refine va_get (D := D) (ci := 5) (v := .ref (a 3)) (C := RX5) (T := TX5) (N := 8) hx hb hts in_X5_needTrain_X5 hown hK hP 0 rfl rfl 1 (by decide) (hts (.fieldLink RX5 19 "Warpyard" "trains" "LWarpyard$Trains;") (by decide +kernel)) (fun _ h9 => h9) rfl dX5_needTrain_6 ?_
    refine va_get (D := D) (ci := 3) (v := .int (σ 3 0)) (C := RX3) (T := TX3) (N := 5) hx hb hts in_X5_needTrain_X3 hown hK hP 3 rfl rfl 4 (by decide) (hts (.fieldLink RX5 51 "Warpyard$Trains" "count" "I") (by decide +kernel)) (fun _ h9 => h9) rfl dX5_needTrain_9 ?_
    refine lv_topi (fun v_12 e_12 => ?_)
    obtain rfl : v_12 = nI n := by rw [e_12]; exact hn
    refine lv_icmp_lt (tgt := 25) hx hb dX5_needTrain_12 (by decide) (fun c_12 => ?_) (fun c_12 => ?_)
    · skip
      exact absurd (tr_y (by omega) c_1 c_12) g
    · skip
      exact X.throwS (cls := "java/lang/IndexOutOfBoundsException") (text := "no such train") (names := xnames) (ik := 95) (is := 225) (ic := 99) hx hb hfl hown (by decide +kernel) (by decide +kernel) (hts _ k_X5_needTrain_95) (hts _ j_X5_needTrain_95) (by decide +kernel) (w_X5_needTrain_95 hts hEV) o_X5_needTrain_95 hEV hZ hK hP hD hS (hl.1.trans hml.symm) dX5_needTrain_15 dX5_needTrain_18 dX5_needTrain_19 dX5_needTrain_21 dX5_needTrain_24 hexc (Nat.le_of_ble_eq_true rfl) (Nat.le_of_ble_eq_true rfl) (Nat.le_of_ble_eq_true rfl) (Nat.le_of_ble_eq_true rfl) hlocks (rfl)
set_option maxRecDepth 20000 in
theorem in_X5_needBooking_X0 : ∀ w ∈ wsX00, w ∈ wsX5_needBooking := by decide +kernel
set_option maxRecDepth 20000 in
theorem in_X5_needBooking_X5 : ∀ w ∈ wsX50, w ∈ wsX5_needBooking := by decide +kernel
set_option maxHeartbeats 4000000 in
set_option maxRecDepth 100000 in
/-- needBooking, where nothing is refused -/
theorem c_X5_needBooking_ok (l : Launch) (D : va_G) (cI cZ : ClassId) (a : Nat → Nat) (sz : Nat) (σ : St) (t : Int32) (nb : Nat) (hnb : σ 13 0 = nI nb) (hnb30 : nb ≤ 30) (g : tr nb t) : MV l yX5_needBooking wsX5_needBooking ({ frames := 0, cells := 0, slots := 0, locals := 0 }) D (ty2 cI cZ) (wX cI cZ a) [.ref (a 0), .int t] σ sz (fun u => u = σ) := by
  refine MV.of (cc := cX5_needBooking) (maxL := 2) (by decide) rfl (Nat.le_of_ble_eq_true rfl) ?_
  intro p e s m args below meth c A H locs ls hx hb hr hml hown hts hlocks hA hS hP hK hD hl
  have hl : lv_has ls 2 [(0, .ref (a 0)), (1, .int t)] := hl
  refine lv_iload_n hx hb dX5_needBooking_0 rfl (lv_at hl 1 rfl) ?_
  refine lv_if_lt (tgt := 15) hx hb dX5_needBooking_1 (by decide) (fun c_1 => ?_) (fun c_1 => ?_)
  · skip
    exact absurd c_1 (tr_1 (by omega) g)
  · skip
    refine lv_iload_n hx hb dX5_needBooking_4 rfl (lv_at hl 1 rfl) ?_
    refine lv_aload_n hx hb dX5_needBooking_5 rfl (lv_at hl 0 rfl) ?_
    refine va_get (D := D) (ci := 5) (v := .ref (a 13)) (C := RX5) (T := TX5) (N := 8) hx hb hts in_X5_needBooking_X5 hown hK hP 0 rfl rfl 3 (by decide) (hts (.fieldLink RX5 29 "Warpyard" "bookings" "LWarpyard$Bookings;") (by decide +kernel)) (fun _ h9 => h9) rfl dX5_needBooking_6 ?_
    refine va_get (D := D) (ci := 0) (v := .int (σ 13 0)) (C := RX0) (T := TX0) (N := 6) hx hb hts in_X5_needBooking_X0 hown hK hP 13 rfl rfl 5 (by decide) (hts (.fieldLink RX5 130 "Warpyard$Bookings" "count" "I") (by decide +kernel)) (fun _ h9 => h9) rfl dX5_needBooking_9 ?_
    refine lv_topi (fun v_12 e_12 => ?_)
    obtain rfl : v_12 = nI nb := by rw [e_12]; exact hnb
    refine lv_icmp_lt (tgt := 25) hx hb dX5_needBooking_12 (by decide) (fun c_12 => ?_) (fun c_12 => ?_)
    · skip
      exact MV.ret hx hb hr hlocks hK hP hD hS dX5_needBooking_25 (by rfl)
    · skip
      exact absurd (tr_2 (by omega) g) c_12
set_option maxRecDepth 20000 in
theorem k_X5_needBooking_95 : Cond.classLink RX5 95 "java/lang/IndexOutOfBoundsException" ∈ wsX5_needBooking := by decide +kernel
set_option maxRecDepth 20000 in
theorem j_X5_needBooking_95 : Cond.initialized "java/lang/IndexOutOfBoundsException" ∈ wsX5_needBooking := by decide +kernel
set_option maxRecDepth 20000 in
theorem v_X5_needBooking_95 : ∀ w ∈ (vx_atS RX5 99 "java/lang/IndexOutOfBoundsException" xnames).filter goodWord, w ∈ wsX5_needBooking := by decide +kernel
theorem w_X5_needBooking_95 {s : State} {args : Array Value} (hts : ∀ w ∈ wsX5_needBooking, w.before args s = true) (hEV : EV s) : ∀ w ∈ vx_atS RX5 99 "java/lang/IndexOutOfBoundsException" xnames, w.before args s = true := vx_hat (fun w h => hts w (v_X5_needBooking_95 w h)) (B := EVw) (by decide +kernel) (fun w h => va_Nw.use (EV.tab (s := s) w h) (hEV.1 w h))
theorem o_X5_needBooking_95 : ∀ w ∈ Cond.classLink RX5 95 "java/lang/IndexOutOfBoundsException" :: Cond.initialized "java/lang/IndexOutOfBoundsException" :: vx_atS RX5 99 "java/lang/IndexOutOfBoundsException" xnames, vx_ot w = true := by decide +kernel
set_option maxHeartbeats 4000000 in
set_option maxRecDepth 100000 in
/-- needBooking, where it refuses -/
theorem c_X5_needBooking_bad (l : Launch) (D : va_G) (cI cZ : ClassId) (a : Nat → Nat) (sz : Nat) (σ : St) (hfl : l.stackTraces = false) (t : Int32) (nb : Nat) (hnb : σ 13 0 = nI nb) (hnb30 : nb ≤ 30) (g : ¬ (tr nb t)) : XV l yX5_needBooking wsX5_needBooking ({ frames := 7, cells := 1, slots := 6, locals := 110 }) D (ty2 cI cZ) (wX cI cZ a) [.ref (a 0), .int t] σ sz (fun _ => False) (fun E => E = eIO) := by
  refine XV.of (cc := cX5_needBooking) (maxL := 2) (by decide) rfl (Nat.le_of_ble_eq_true rfl) ?_
  intro p e s m args below meth c A H locs ls hx hb hr hml hown hts hlocks hexc hEV hZ hA hS hP hK hD hl
  have hl : lv_has ls 2 [(0, .ref (a 0)), (1, .int t)] := hl
  refine lv_iload_n hx hb dX5_needBooking_0 rfl (lv_at hl 1 rfl) ?_
  refine lv_if_lt (tgt := 15) hx hb dX5_needBooking_1 (by decide) (fun c_1 => ?_) (fun c_1 => ?_)
  · skip
    exact X.throwS (cls := "java/lang/IndexOutOfBoundsException") (text := "no such booking") (names := xnames) (ik := 95) (is := 227) (ic := 99) hx hb hfl hown (by decide +kernel) (by decide +kernel) (hts _ k_X5_needBooking_95) (hts _ j_X5_needBooking_95) (by decide +kernel) (w_X5_needBooking_95 hts hEV) o_X5_needBooking_95 hEV hZ hK hP hD hS (hl.1.trans hml.symm) dX5_needBooking_15 dX5_needBooking_18 dX5_needBooking_19 dX5_needBooking_21 dX5_needBooking_24 hexc (Nat.le_of_ble_eq_true rfl) (Nat.le_of_ble_eq_true rfl) (Nat.le_of_ble_eq_true rfl) (Nat.le_of_ble_eq_true rfl) hlocks (rfl)
  · skip
    refine lv_iload_n hx hb dX5_needBooking_4 rfl (lv_at hl 1 rfl) ?_
    refine lv_aload_n hx hb dX5_needBooking_5 rfl (lv_at hl 0 rfl) ?_
    refine va_get (D := D) (ci := 5) (v := .ref (a 13)) (C := RX5) (T := TX5) (N := 8) hx hb hts in_X5_needBooking_X5 hown hK hP 0 rfl rfl 3 (by decide) (hts (.fieldLink RX5 29 "Warpyard" "bookings" "LWarpyard$Bookings;") (by decide +kernel)) (fun _ h9 => h9) rfl dX5_needBooking_6 ?_
    refine va_get (D := D) (ci := 0) (v := .int (σ 13 0)) (C := RX0) (T := TX0) (N := 6) hx hb hts in_X5_needBooking_X0 hown hK hP 13 rfl rfl 5 (by decide) (hts (.fieldLink RX5 130 "Warpyard$Bookings" "count" "I") (by decide +kernel)) (fun _ h9 => h9) rfl dX5_needBooking_9 ?_
    refine lv_topi (fun v_12 e_12 => ?_)
    obtain rfl : v_12 = nI nb := by rw [e_12]; exact hnb
    refine lv_icmp_lt (tgt := 25) hx hb dX5_needBooking_12 (by decide) (fun c_12 => ?_) (fun c_12 => ?_)
    · skip
      exact absurd (tr_y (by omega) c_1 c_12) g
    · skip
      exact X.throwS (cls := "java/lang/IndexOutOfBoundsException") (text := "no such booking") (names := xnames) (ik := 95) (is := 227) (ic := 99) hx hb hfl hown (by decide +kernel) (by decide +kernel) (hts _ k_X5_needBooking_95) (hts _ j_X5_needBooking_95) (by decide +kernel) (w_X5_needBooking_95 hts hEV) o_X5_needBooking_95 hEV hZ hK hP hD hS (hl.1.trans hml.symm) dX5_needBooking_15 dX5_needBooking_18 dX5_needBooking_19 dX5_needBooking_21 dX5_needBooking_24 hexc (Nat.le_of_ble_eq_true rfl) (Nat.le_of_ble_eq_true rfl) (Nat.le_of_ble_eq_true rfl) (Nat.le_of_ble_eq_true rfl) hlocks (rfl)
set_option maxHeartbeats 4000000 in
set_option maxRecDepth 100000 in
/-- needBlock, where nothing is refused -/
theorem c_X5_needBlock_ok (l : Launch) (D : va_G) (cI cZ : ClassId) (a : Nat → Nat) (sz : Nat) (σ : St) (b : Int32) (g : inR b 0 7) : MV l yX5_needBlock wsX5_needBlock ({ frames := 0, cells := 0, slots := 0, locals := 0 }) D (ty2 cI cZ) (wX cI cZ a) [.int b] σ sz (fun u => u = σ) := by
  refine MV.of (cc := cX5_needBlock) (maxL := 1) (by decide) rfl (Nat.le_of_ble_eq_true rfl) ?_
  intro p e s m args below meth c A H locs ls hx hb hr hml hown hts hlocks hA hS hP hK hD hl
  have hl : lv_has ls 1 [(0, .int b)] := hl
  refine lv_iload_n hx hb dX5_needBlock_0 rfl (lv_at hl 0 rfl) ?_
  refine lv_if_lt (tgt := 10) hx hb dX5_needBlock_1 (by decide) (fun c_1 => ?_) (fun c_1 => ?_)
  · skip
    exact absurd c_1 g.1
  · skip
    refine lv_iload_n hx hb dX5_needBlock_4 rfl (lv_at hl 0 rfl) ?_
    refine lv_bipush (v := 8) hx hb dX5_needBlock_5 (by decide) ?_
    refine lv_icmp_lt (tgt := 20) hx hb dX5_needBlock_7 (by decide) (fun c_7 => ?_) (fun c_7 => ?_)
    · skip
      exact MV.ret hx hb hr hlocks hK hP hD hS dX5_needBlock_20 (by rfl)
    · skip
      exact absurd ((lt_suc (by decide)).mpr g.2) c_7
set_option maxRecDepth 20000 in
theorem k_X5_needBlock_95 : Cond.classLink RX5 95 "java/lang/IndexOutOfBoundsException" ∈ wsX5_needBlock := by decide +kernel
set_option maxRecDepth 20000 in
theorem j_X5_needBlock_95 : Cond.initialized "java/lang/IndexOutOfBoundsException" ∈ wsX5_needBlock := by decide +kernel
set_option maxRecDepth 20000 in
theorem v_X5_needBlock_95 : ∀ w ∈ (vx_atS RX5 99 "java/lang/IndexOutOfBoundsException" xnames).filter goodWord, w ∈ wsX5_needBlock := by decide +kernel
theorem w_X5_needBlock_95 {s : State} {args : Array Value} (hts : ∀ w ∈ wsX5_needBlock, w.before args s = true) (hEV : EV s) : ∀ w ∈ vx_atS RX5 99 "java/lang/IndexOutOfBoundsException" xnames, w.before args s = true := vx_hat (fun w h => hts w (v_X5_needBlock_95 w h)) (B := EVw) (by decide +kernel) (fun w h => va_Nw.use (EV.tab (s := s) w h) (hEV.1 w h))
theorem o_X5_needBlock_95 : ∀ w ∈ Cond.classLink RX5 95 "java/lang/IndexOutOfBoundsException" :: Cond.initialized "java/lang/IndexOutOfBoundsException" :: vx_atS RX5 99 "java/lang/IndexOutOfBoundsException" xnames, vx_ot w = true := by decide +kernel
set_option maxHeartbeats 4000000 in
set_option maxRecDepth 100000 in
/-- needBlock, where it refuses -/
theorem c_X5_needBlock_bad (l : Launch) (D : va_G) (cI cZ : ClassId) (a : Nat → Nat) (sz : Nat) (σ : St) (hfl : l.stackTraces = false) (b : Int32) (g : ¬ (inR b 0 7)) : XV l yX5_needBlock wsX5_needBlock ({ frames := 7, cells := 1, slots := 6, locals := 110 }) D (ty2 cI cZ) (wX cI cZ a) [.int b] σ sz (fun _ => False) (fun E => E = eIO) := by
  refine XV.of (cc := cX5_needBlock) (maxL := 1) (by decide) rfl (Nat.le_of_ble_eq_true rfl) ?_
  intro p e s m args below meth c A H locs ls hx hb hr hml hown hts hlocks hexc hEV hZ hA hS hP hK hD hl
  have hl : lv_has ls 1 [(0, .int b)] := hl
  refine lv_iload_n hx hb dX5_needBlock_0 rfl (lv_at hl 0 rfl) ?_
  refine lv_if_lt (tgt := 10) hx hb dX5_needBlock_1 (by decide) (fun c_1 => ?_) (fun c_1 => ?_)
  · skip
    exact X.throwS (cls := "java/lang/IndexOutOfBoundsException") (text := "no such block") (names := xnames) (ik := 95) (is := 229) (ic := 99) hx hb hfl hown (by decide +kernel) (by decide +kernel) (hts _ k_X5_needBlock_95) (hts _ j_X5_needBlock_95) (by decide +kernel) (w_X5_needBlock_95 hts hEV) o_X5_needBlock_95 hEV hZ hK hP hD hS (hl.1.trans hml.symm) dX5_needBlock_10 dX5_needBlock_13 dX5_needBlock_14 dX5_needBlock_16 dX5_needBlock_19 hexc (Nat.le_of_ble_eq_true rfl) (Nat.le_of_ble_eq_true rfl) (Nat.le_of_ble_eq_true rfl) (Nat.le_of_ble_eq_true rfl) hlocks (rfl)
  · skip
    refine lv_iload_n hx hb dX5_needBlock_4 rfl (lv_at hl 0 rfl) ?_
    refine lv_bipush (v := 8) hx hb dX5_needBlock_5 (by decide) ?_
    refine lv_icmp_lt (tgt := 20) hx hb dX5_needBlock_7 (by decide) (fun c_7 => ?_) (fun c_7 => ?_)
    · skip
      exact absurd ⟨c_1, (lt_suc (by decide)).mp c_7⟩ g
    · skip
      exact X.throwS (cls := "java/lang/IndexOutOfBoundsException") (text := "no such block") (names := xnames) (ik := 95) (is := 229) (ic := 99) hx hb hfl hown (by decide +kernel) (by decide +kernel) (hts _ k_X5_needBlock_95) (hts _ j_X5_needBlock_95) (by decide +kernel) (w_X5_needBlock_95 hts hEV) o_X5_needBlock_95 hEV hZ hK hP hD hS (hl.1.trans hml.symm) dX5_needBlock_10 dX5_needBlock_13 dX5_needBlock_14 dX5_needBlock_16 dX5_needBlock_19 hexc (Nat.le_of_ble_eq_true rfl) (Nat.le_of_ble_eq_true rfl) (Nat.le_of_ble_eq_true rfl) (Nat.le_of_ble_eq_true rfl) hlocks (rfl)
set_option maxHeartbeats 4000000 in
set_option maxRecDepth 100000 in
/-- needMinutesToRun, where nothing is refused -/
theorem c_X5_needMinutesToRun_ok (l : Launch) (D : va_G) (cI cZ : ClassId) (a : Nat → Nat) (sz : Nat) (σ : St) (v : Int32) (g : inR v 1 100) : MV l yX5_needMinutesToRun wsX5_needMinutesToRun ({ frames := 0, cells := 0, slots := 0, locals := 0 }) D (ty2 cI cZ) (wX cI cZ a) [.int v] σ sz (fun u => u = σ) := by
  refine MV.of (cc := cX5_needMinutesToRun) (maxL := 1) (by decide) rfl (Nat.le_of_ble_eq_true rfl) ?_
  intro p e s m args below meth c A H locs ls hx hb hr hml hown hts hlocks hA hS hP hK hD hl
  have hl : lv_has ls 1 [(0, .int v)] := hl
  refine lv_iload_n hx hb dX5_needMinutesToRun_0 rfl (lv_at hl 0 rfl) ?_
  refine lv_iconst (v := 1) hx hb dX5_needMinutesToRun_1 (by decide) ?_
  refine lv_icmp_lt (tgt := 11) hx hb dX5_needMinutesToRun_2 (by decide) (fun c_2 => ?_) (fun c_2 => ?_)
  · skip
    exact absurd c_2 g.1
  · skip
    refine lv_iload_n hx hb dX5_needMinutesToRun_5 rfl (lv_at hl 0 rfl) ?_
    refine lv_bipush (v := 100) hx hb dX5_needMinutesToRun_6 (by decide) ?_
    refine lv_icmp_le (tgt := 21) hx hb dX5_needMinutesToRun_8 (by decide) (fun c_8 => ?_) (fun c_8 => ?_)
    · skip
      exact MV.ret hx hb hr hlocks hK hP hD hS dX5_needMinutesToRun_21 (by rfl)
    · skip
      exact absurd (le_nlt.mpr g.2) c_8
set_option maxRecDepth 20000 in
theorem k_X5_needMinutesToRun_86 : Cond.classLink RX5 86 "java/lang/IllegalArgumentException" ∈ wsX5_needMinutesToRun := by decide +kernel
set_option maxRecDepth 20000 in
theorem j_X5_needMinutesToRun_86 : Cond.initialized "java/lang/IllegalArgumentException" ∈ wsX5_needMinutesToRun := by decide +kernel
set_option maxRecDepth 20000 in
theorem v_X5_needMinutesToRun_86 : ∀ w ∈ (vx_atS RX5 90 "java/lang/IllegalArgumentException" xnames).filter goodWord, w ∈ wsX5_needMinutesToRun := by decide +kernel
theorem w_X5_needMinutesToRun_86 {s : State} {args : Array Value} (hts : ∀ w ∈ wsX5_needMinutesToRun, w.before args s = true) (hEV : EV s) : ∀ w ∈ vx_atS RX5 90 "java/lang/IllegalArgumentException" xnames, w.before args s = true := vx_hat (fun w h => hts w (v_X5_needMinutesToRun_86 w h)) (B := EVw) (by decide +kernel) (fun w h => va_Nw.use (EV.tab (s := s) w h) (hEV.1 w h))
theorem o_X5_needMinutesToRun_86 : ∀ w ∈ Cond.classLink RX5 86 "java/lang/IllegalArgumentException" :: Cond.initialized "java/lang/IllegalArgumentException" :: vx_atS RX5 90 "java/lang/IllegalArgumentException" xnames, vx_ot w = true := by decide +kernel
set_option maxHeartbeats 4000000 in
set_option maxRecDepth 100000 in
/-- needMinutesToRun, where it refuses -/
theorem c_X5_needMinutesToRun_bad (l : Launch) (D : va_G) (cI cZ : ClassId) (a : Nat → Nat) (sz : Nat) (σ : St) (hfl : l.stackTraces = false) (v : Int32) (g : ¬ (inR v 1 100)) : XV l yX5_needMinutesToRun wsX5_needMinutesToRun ({ frames := 7, cells := 1, slots := 6, locals := 110 }) D (ty2 cI cZ) (wX cI cZ a) [.int v] σ sz (fun _ => False) (fun E => E = eIA) := by
  refine XV.of (cc := cX5_needMinutesToRun) (maxL := 1) (by decide) rfl (Nat.le_of_ble_eq_true rfl) ?_
  intro p e s m args below meth c A H locs ls hx hb hr hml hown hts hlocks hexc hEV hZ hA hS hP hK hD hl
  have hl : lv_has ls 1 [(0, .int v)] := hl
  refine lv_iload_n hx hb dX5_needMinutesToRun_0 rfl (lv_at hl 0 rfl) ?_
  refine lv_iconst (v := 1) hx hb dX5_needMinutesToRun_1 (by decide) ?_
  refine lv_icmp_lt (tgt := 11) hx hb dX5_needMinutesToRun_2 (by decide) (fun c_2 => ?_) (fun c_2 => ?_)
  · skip
    exact X.throwS (cls := "java/lang/IllegalArgumentException") (text := "minutes is out of range") (names := xnames) (ik := 86) (is := 233) (ic := 90) hx hb hfl hown (by decide +kernel) (by decide +kernel) (hts _ k_X5_needMinutesToRun_86) (hts _ j_X5_needMinutesToRun_86) (by decide +kernel) (w_X5_needMinutesToRun_86 hts hEV) o_X5_needMinutesToRun_86 hEV hZ hK hP hD hS (hl.1.trans hml.symm) dX5_needMinutesToRun_11 dX5_needMinutesToRun_14 dX5_needMinutesToRun_15 dX5_needMinutesToRun_17 dX5_needMinutesToRun_20 hexc (Nat.le_of_ble_eq_true rfl) (Nat.le_of_ble_eq_true rfl) (Nat.le_of_ble_eq_true rfl) (Nat.le_of_ble_eq_true rfl) hlocks (rfl)
  · skip
    refine lv_iload_n hx hb dX5_needMinutesToRun_5 rfl (lv_at hl 0 rfl) ?_
    refine lv_bipush (v := 100) hx hb dX5_needMinutesToRun_6 (by decide) ?_
    refine lv_icmp_le (tgt := 21) hx hb dX5_needMinutesToRun_8 (by decide) (fun c_8 => ?_) (fun c_8 => ?_)
    · skip
      exact absurd ⟨c_2, le_nlt.mp c_8⟩ g
    · skip
      exact X.throwS (cls := "java/lang/IllegalArgumentException") (text := "minutes is out of range") (names := xnames) (ik := 86) (is := 233) (ic := 90) hx hb hfl hown (by decide +kernel) (by decide +kernel) (hts _ k_X5_needMinutesToRun_86) (hts _ j_X5_needMinutesToRun_86) (by decide +kernel) (w_X5_needMinutesToRun_86 hts hEV) o_X5_needMinutesToRun_86 hEV hZ hK hP hD hS (hl.1.trans hml.symm) dX5_needMinutesToRun_11 dX5_needMinutesToRun_14 dX5_needMinutesToRun_15 dX5_needMinutesToRun_17 dX5_needMinutesToRun_20 hexc (Nat.le_of_ble_eq_true rfl) (Nat.le_of_ble_eq_true rfl) (Nat.le_of_ble_eq_true rfl) (Nat.le_of_ble_eq_true rfl) hlocks (rfl)
set_option maxHeartbeats 4000000 in
set_option maxRecDepth 100000 in
/-- needSpan, where nothing is refused -/
theorem c_X5_needSpan_ok (l : Launch) (D : va_G) (cI cZ : ClassId) (a : Nat → Nat) (sz : Nat) (σ : St) (ea fr to : Int32) (g : inR fr ea 5000 ∧ inR to fr 5000) : MV l yX5_needSpan wsX5_needSpan ({ frames := 0, cells := 0, slots := 0, locals := 0 }) D (ty2 cI cZ) (wX cI cZ a) [.int ea, .int fr, .int to] σ sz (fun u => u = σ) := by
  refine MV.of (cc := cX5_needSpan) (maxL := 3) (by decide) rfl (Nat.le_of_ble_eq_true rfl) ?_
  intro p e s m args below meth c A H locs ls hx hb hr hml hown hts hlocks hA hS hP hK hD hl
  have hl : lv_has ls 3 [(0, .int ea), (1, .int fr), (2, .int to)] := hl
  refine lv_iload_n hx hb dX5_needSpan_0 rfl (lv_at hl 1 rfl) ?_
  refine lv_iload_n hx hb dX5_needSpan_1 rfl (lv_at hl 0 rfl) ?_
  refine lv_icmp_lt (tgt := 12) hx hb dX5_needSpan_2 (by decide) (fun c_2 => ?_) (fun c_2 => ?_)
  · skip
    exact absurd c_2 g.1.1
  · skip
    refine lv_iload_n hx hb dX5_needSpan_5 rfl (lv_at hl 1 rfl) ?_
    refine lv_sipush (v := 5000) hx hb dX5_needSpan_6 (by decide) ?_
    refine lv_icmp_le (tgt := 22) hx hb dX5_needSpan_9 (by decide) (fun c_9 => ?_) (fun c_9 => ?_)
    · skip
      refine lv_iload_n hx hb dX5_needSpan_22 rfl (lv_at hl 2 rfl) ?_
      refine lv_iload_n hx hb dX5_needSpan_23 rfl (lv_at hl 1 rfl) ?_
      refine lv_icmp_lt (tgt := 34) hx hb dX5_needSpan_24 (by decide) (fun c_24 => ?_) (fun c_24 => ?_)
      · skip
        exact absurd c_24 g.2.1
      · skip
        refine lv_iload_n hx hb dX5_needSpan_27 rfl (lv_at hl 2 rfl) ?_
        refine lv_sipush (v := 5000) hx hb dX5_needSpan_28 (by decide) ?_
        refine lv_icmp_le (tgt := 44) hx hb dX5_needSpan_31 (by decide) (fun c_31 => ?_) (fun c_31 => ?_)
        · skip
          exact MV.ret hx hb hr hlocks hK hP hD hS dX5_needSpan_44 (by rfl)
        · skip
          exact absurd (le_nlt.mpr g.2.2) c_31
    · skip
      exact absurd (le_nlt.mpr g.1.2) c_9
set_option maxRecDepth 20000 in
theorem k_X5_needSpan_86 : Cond.classLink RX5 86 "java/lang/IllegalArgumentException" ∈ wsX5_needSpan := by decide +kernel
set_option maxRecDepth 20000 in
theorem j_X5_needSpan_86 : Cond.initialized "java/lang/IllegalArgumentException" ∈ wsX5_needSpan := by decide +kernel
set_option maxRecDepth 20000 in
theorem v_X5_needSpan_86 : ∀ w ∈ (vx_atS RX5 90 "java/lang/IllegalArgumentException" xnames).filter goodWord, w ∈ wsX5_needSpan := by decide +kernel
theorem w_X5_needSpan_86 {s : State} {args : Array Value} (hts : ∀ w ∈ wsX5_needSpan, w.before args s = true) (hEV : EV s) : ∀ w ∈ vx_atS RX5 90 "java/lang/IllegalArgumentException" xnames, w.before args s = true := vx_hat (fun w h => hts w (v_X5_needSpan_86 w h)) (B := EVw) (by decide +kernel) (fun w h => va_Nw.use (EV.tab (s := s) w h) (hEV.1 w h))
theorem o_X5_needSpan_86 : ∀ w ∈ Cond.classLink RX5 86 "java/lang/IllegalArgumentException" :: Cond.initialized "java/lang/IllegalArgumentException" :: vx_atS RX5 90 "java/lang/IllegalArgumentException" xnames, vx_ot w = true := by decide +kernel
set_option maxHeartbeats 4000000 in
set_option maxRecDepth 100000 in
/-- needSpan, where it refuses -/
theorem c_X5_needSpan_bad (l : Launch) (D : va_G) (cI cZ : ClassId) (a : Nat → Nat) (sz : Nat) (σ : St) (hfl : l.stackTraces = false) (ea fr to : Int32) (g : ¬ (inR fr ea 5000 ∧ inR to fr 5000)) : XV l yX5_needSpan wsX5_needSpan ({ frames := 7, cells := 1, slots := 6, locals := 110 }) D (ty2 cI cZ) (wX cI cZ a) [.int ea, .int fr, .int to] σ sz (fun _ => False) (fun E => E = eIA) := by
  refine XV.of (cc := cX5_needSpan) (maxL := 3) (by decide) rfl (Nat.le_of_ble_eq_true rfl) ?_
  intro p e s m args below meth c A H locs ls hx hb hr hml hown hts hlocks hexc hEV hZ hA hS hP hK hD hl
  have hl : lv_has ls 3 [(0, .int ea), (1, .int fr), (2, .int to)] := hl
  refine lv_iload_n hx hb dX5_needSpan_0 rfl (lv_at hl 1 rfl) ?_
  refine lv_iload_n hx hb dX5_needSpan_1 rfl (lv_at hl 0 rfl) ?_
  refine lv_icmp_lt (tgt := 12) hx hb dX5_needSpan_2 (by decide) (fun c_2 => ?_) (fun c_2 => ?_)
  · skip
    exact X.throwS (cls := "java/lang/IllegalArgumentException") (text := "first is out of range") (names := xnames) (ik := 86) (is := 235) (ic := 90) hx hb hfl hown (by decide +kernel) (by decide +kernel) (hts _ k_X5_needSpan_86) (hts _ j_X5_needSpan_86) (by decide +kernel) (w_X5_needSpan_86 hts hEV) o_X5_needSpan_86 hEV hZ hK hP hD hS (hl.1.trans hml.symm) dX5_needSpan_12 dX5_needSpan_15 dX5_needSpan_16 dX5_needSpan_18 dX5_needSpan_21 hexc (Nat.le_of_ble_eq_true rfl) (Nat.le_of_ble_eq_true rfl) (Nat.le_of_ble_eq_true rfl) (Nat.le_of_ble_eq_true rfl) hlocks (rfl)
  · skip
    refine lv_iload_n hx hb dX5_needSpan_5 rfl (lv_at hl 1 rfl) ?_
    refine lv_sipush (v := 5000) hx hb dX5_needSpan_6 (by decide) ?_
    refine lv_icmp_le (tgt := 22) hx hb dX5_needSpan_9 (by decide) (fun c_9 => ?_) (fun c_9 => ?_)
    · skip
      refine lv_iload_n hx hb dX5_needSpan_22 rfl (lv_at hl 2 rfl) ?_
      refine lv_iload_n hx hb dX5_needSpan_23 rfl (lv_at hl 1 rfl) ?_
      refine lv_icmp_lt (tgt := 34) hx hb dX5_needSpan_24 (by decide) (fun c_24 => ?_) (fun c_24 => ?_)
      · skip
        exact X.throwS (cls := "java/lang/IllegalArgumentException") (text := "last is out of range") (names := xnames) (ik := 86) (is := 237) (ic := 90) hx hb hfl hown (by decide +kernel) (by decide +kernel) (hts _ k_X5_needSpan_86) (hts _ j_X5_needSpan_86) (by decide +kernel) (w_X5_needSpan_86 hts hEV) o_X5_needSpan_86 hEV hZ hK hP hD hS (hl.1.trans hml.symm) dX5_needSpan_34 dX5_needSpan_37 dX5_needSpan_38 dX5_needSpan_40 dX5_needSpan_43 hexc (Nat.le_of_ble_eq_true rfl) (Nat.le_of_ble_eq_true rfl) (Nat.le_of_ble_eq_true rfl) (Nat.le_of_ble_eq_true rfl) hlocks (rfl)
      · skip
        refine lv_iload_n hx hb dX5_needSpan_27 rfl (lv_at hl 2 rfl) ?_
        refine lv_sipush (v := 5000) hx hb dX5_needSpan_28 (by decide) ?_
        refine lv_icmp_le (tgt := 44) hx hb dX5_needSpan_31 (by decide) (fun c_31 => ?_) (fun c_31 => ?_)
        · skip
          exact absurd ⟨⟨c_2, le_nlt.mp c_9⟩, ⟨c_24, le_nlt.mp c_31⟩⟩ g
        · skip
          exact X.throwS (cls := "java/lang/IllegalArgumentException") (text := "last is out of range") (names := xnames) (ik := 86) (is := 237) (ic := 90) hx hb hfl hown (by decide +kernel) (by decide +kernel) (hts _ k_X5_needSpan_86) (hts _ j_X5_needSpan_86) (by decide +kernel) (w_X5_needSpan_86 hts hEV) o_X5_needSpan_86 hEV hZ hK hP hD hS (hl.1.trans hml.symm) dX5_needSpan_34 dX5_needSpan_37 dX5_needSpan_38 dX5_needSpan_40 dX5_needSpan_43 hexc (Nat.le_of_ble_eq_true rfl) (Nat.le_of_ble_eq_true rfl) (Nat.le_of_ble_eq_true rfl) (Nat.le_of_ble_eq_true rfl) hlocks (rfl)
    · skip
      exact X.throwS (cls := "java/lang/IllegalArgumentException") (text := "first is out of range") (names := xnames) (ik := 86) (is := 235) (ic := 90) hx hb hfl hown (by decide +kernel) (by decide +kernel) (hts _ k_X5_needSpan_86) (hts _ j_X5_needSpan_86) (by decide +kernel) (w_X5_needSpan_86 hts hEV) o_X5_needSpan_86 hEV hZ hK hP hD hS (hl.1.trans hml.symm) dX5_needSpan_12 dX5_needSpan_15 dX5_needSpan_16 dX5_needSpan_18 dX5_needSpan_21 hexc (Nat.le_of_ble_eq_true rfl) (Nat.le_of_ble_eq_true rfl) (Nat.le_of_ble_eq_true rfl) (Nat.le_of_ble_eq_true rfl) hlocks (rfl)
set_option maxHeartbeats 4000000 in
set_option maxRecDepth 100000 in
theorem c_X5_isSiding (l : Launch) (D : va_G) (cI cZ : ClassId) (a : Nat → Nat) (sz : Nat) (σ : St) (v : Int32) : MI l yX5_isSiding wsX5_isSiding ({ frames := 0, cells := 0, slots := 0, locals := 0 }) D (ty2 cI cZ) (wX cI cZ a) [.int v] σ sz (fun r u => u = σ ∧ bo r (inR v 6 7)) := by
  refine MI.of (cc := cX5_isSiding) (maxL := 1) (by decide) rfl (Nat.le_of_ble_eq_true rfl) ?_
  intro p e s m args below meth c A H locs ls hx hb hr hml hown hts hlocks hA hS hP hK hD hl
  have hl : lv_has ls 1 [(0, .int v)] := hl
  refine lv_iload_n hx hb dX5_isSiding_0 rfl (lv_at hl 0 rfl) ?_
  refine lv_bipush (v := 6) hx hb dX5_isSiding_1 (by decide) ?_
  refine lv_icmp_lt (tgt := 16) hx hb dX5_isSiding_3 (by decide) (fun c_3 => ?_) (fun c_3 => ?_)
  · skip
    refine lv_iconst (v := 0) hx hb dX5_isSiding_16 (by decide) ?_
    exact MI.zret hx hb hr hlocks hK hP hD hS dX5_isSiding_17 rfl (by exact ⟨rfl, Or.inr ⟨rfl, fun h => h.1 c_3⟩⟩)
  · skip
    refine lv_iload_n hx hb dX5_isSiding_6 rfl (lv_at hl 0 rfl) ?_
    refine lv_bipush (v := 8) hx hb dX5_isSiding_7 (by decide) ?_
    refine lv_icmp_ge (tgt := 16) hx hb dX5_isSiding_9 (by decide) (fun c_9 => ?_) (fun c_9 => ?_)
    · skip
      refine lv_iconst (v := 0) hx hb dX5_isSiding_16 (by decide) ?_
      exact MI.zret hx hb hr hlocks hK hP hD hS dX5_isSiding_17 rfl (by exact ⟨rfl, Or.inr ⟨rfl, fun h => h.2 (ge_suc (by decide) c_9)⟩⟩)
    · skip
      refine lv_iconst (v := 1) hx hb dX5_isSiding_12 (by decide) ?_
      refine lv_goto (tgt := 17) hx hb dX5_isSiding_13 (by decide) ?_
      exact MI.zret hx hb hr hlocks hK hP hD hS dX5_isSiding_17 rfl (by exact ⟨rfl, Or.inl ⟨rfl, c_3, nge_suc (by decide) c_9⟩⟩)
set_option maxHeartbeats 4000000 in
set_option maxRecDepth 100000 in
/-- needSiding, where nothing is refused -/
theorem c_X5_needSiding_ok (l : Launch) (D : va_G) (cI cZ : ClassId) (a : Nat → Nat) (sz : Nat) (σ : St) (v : Int32) (g : inR v 6 7) : MV l yX5_needSiding wsX5_needSiding ({ frames := 1, cells := 0, slots := 0, locals := 20 }) D (ty2 cI cZ) (wX cI cZ a) [.int v] σ sz (fun u => u = σ) := by
  refine MV.of (cc := cX5_needSiding) (maxL := 1) (by decide) rfl (Nat.le_of_ble_eq_true rfl) ?_
  intro p e s m args below meth c A H locs ls hx hb hr hml hown hts hlocks hA hS hP hK hD hl
  have hl : lv_has ls 1 [(0, .int v)] := hl
  refine lv_iload_n hx hb dX5_needSiding_0 rfl (lv_at hl 0 rfl) ?_
  refine MI.callS (As := [.int v]) (rest := []) ⟨hx, hb, hml, hown, hts⟩ (c_X5_isSiding l D cI cZ a H.size σ v) (va_cwS 1 hts gX5_needSiding_X5_isSiding rfl rfl rfl (by decide +kernel) ⟨Nat.le_of_ble_eq_true rfl, Nat.le_of_ble_eq_true rfl⟩) hP hK hD hS hA rfl hl.1 (Nat.le_of_ble_eq_true rfl) (Nat.zero_le _) (Nat.zero_le _) dX5_needSiding_1 rfl (fun r_1 u_1 H locs h_1 hP hD hS => ?_)
  rcases h_1 with ⟨e_1, ⟨rfl, h_1⟩ | ⟨rfl, h_1⟩⟩
  · skip
    have e_1 := Eq.symm e_1
    subst e_1
    have h_1 : inR v 6 7 := h_1
    refine lv_if_ne (tgt := 17) hx hb dX5_needSiding_4 (by decide) (fun _ => ?_) (fun c9 => absurd c9 (by decide))
    exact MV.ret hx hb hr hlocks hK hP hD hS dX5_needSiding_17 (by rfl)
  · skip
    have e_1 := Eq.symm e_1
    subst e_1
    have h_1 : ¬ inR v 6 7 := h_1
    exact absurd g h_1
set_option maxRecDepth 20000 in
theorem k_X5_needSiding_95 : Cond.classLink RX5 95 "java/lang/IndexOutOfBoundsException" ∈ wsX5_needSiding := by decide +kernel
set_option maxRecDepth 20000 in
theorem j_X5_needSiding_95 : Cond.initialized "java/lang/IndexOutOfBoundsException" ∈ wsX5_needSiding := by decide +kernel
set_option maxRecDepth 20000 in
theorem v_X5_needSiding_95 : ∀ w ∈ (vx_atS RX5 99 "java/lang/IndexOutOfBoundsException" xnames).filter goodWord, w ∈ wsX5_needSiding := by decide +kernel
theorem w_X5_needSiding_95 {s : State} {args : Array Value} (hts : ∀ w ∈ wsX5_needSiding, w.before args s = true) (hEV : EV s) : ∀ w ∈ vx_atS RX5 99 "java/lang/IndexOutOfBoundsException" xnames, w.before args s = true := vx_hat (fun w h => hts w (v_X5_needSiding_95 w h)) (B := EVw) (by decide +kernel) (fun w h => va_Nw.use (EV.tab (s := s) w h) (hEV.1 w h))
theorem o_X5_needSiding_95 : ∀ w ∈ Cond.classLink RX5 95 "java/lang/IndexOutOfBoundsException" :: Cond.initialized "java/lang/IndexOutOfBoundsException" :: vx_atS RX5 99 "java/lang/IndexOutOfBoundsException" xnames, vx_ot w = true := by decide +kernel
set_option maxHeartbeats 4000000 in
set_option maxRecDepth 100000 in
/-- needSiding, where it refuses -/
theorem c_X5_needSiding_bad (l : Launch) (D : va_G) (cI cZ : ClassId) (a : Nat → Nat) (sz : Nat) (σ : St) (hfl : l.stackTraces = false) (v : Int32) (g : ¬ (inR v 6 7)) : XV l yX5_needSiding wsX5_needSiding ({ frames := 7, cells := 1, slots := 6, locals := 110 }) D (ty2 cI cZ) (wX cI cZ a) [.int v] σ sz (fun _ => False) (fun E => E = eIO) := by
  refine XV.of (cc := cX5_needSiding) (maxL := 1) (by decide) rfl (Nat.le_of_ble_eq_true rfl) ?_
  intro p e s m args below meth c A H locs ls hx hb hr hml hown hts hlocks hexc hEV hZ hA hS hP hK hD hl
  have hl : lv_has ls 1 [(0, .int v)] := hl
  refine lv_iload_n hx hb dX5_needSiding_0 rfl (lv_at hl 0 rfl) ?_
  refine MI.callS (As := [.int v]) (rest := []) ⟨hx, hb, hml, hown, hts⟩ (c_X5_isSiding l D cI cZ a H.size σ v) (va_cwS 1 hts gX5_needSiding_X5_isSiding rfl rfl rfl (by decide +kernel) ⟨Nat.le_of_ble_eq_true rfl, Nat.le_of_ble_eq_true rfl⟩) hP hK hD hS hA rfl hl.1 (Nat.le_of_ble_eq_true rfl) (Nat.zero_le _) (Nat.zero_le _) dX5_needSiding_1 rfl (fun r_1 u_1 H locs h_1 hP hD hS => ?_)
  rcases h_1 with ⟨e_1, ⟨rfl, h_1⟩ | ⟨rfl, h_1⟩⟩
  · skip
    have e_1 := Eq.symm e_1
    subst e_1
    have h_1 : inR v 6 7 := h_1
    exact absurd h_1 g
  · skip
    have e_1 := Eq.symm e_1
    subst e_1
    have h_1 : ¬ inR v 6 7 := h_1
    refine lv_if_ne (tgt := 17) hx hb dX5_needSiding_4 (by decide) (fun c9 => absurd (by decide) c9) (fun _ => ?_)
    exact X.throwS (cls := "java/lang/IndexOutOfBoundsException") (text := "no such siding") (names := xnames) (ik := 95) (is := 231) (ic := 99) hx hb hfl hown (by decide +kernel) (by decide +kernel) (hts _ k_X5_needSiding_95) (hts _ j_X5_needSiding_95) (by decide +kernel) (w_X5_needSiding_95 hts hEV) o_X5_needSiding_95 hEV hZ hK hP hD hS (hl.1.trans hml.symm) dX5_needSiding_7 dX5_needSiding_10 dX5_needSiding_11 dX5_needSiding_13 dX5_needSiding_16 hexc (Nat.le_of_ble_eq_true rfl) (Nat.le_of_ble_eq_true rfl) (Nat.le_of_ble_eq_true rfl) (Nat.le_of_ble_eq_true rfl) hlocks (rfl)
set_option maxRecDepth 20000 in
theorem in_X5_needRoomIn_X4 : ∀ w ∈ wsX40, w ∈ wsX5_needRoomIn := by decide +kernel
set_option maxRecDepth 20000 in
theorem in_X5_needRoomIn_X5 : ∀ w ∈ wsX50, w ∈ wsX5_needRoomIn := by decide +kernel
set_option maxHeartbeats 4000000 in
set_option maxRecDepth 100000 in
/-- needRoomIn, where nothing is refused -/
theorem c_X5_needRoomIn_ok (l : Launch) (D : va_G) (cI cZ : ClassId) (a : Nat → Nat) (sz : Nat) (σ : St) (v : Int32) (Z : Nat → Nat) (hv : inR v 6 7) (hQ : ∀ r, r < 6 → σ 21 r = nI (Z r) ∧ Z r ≤ 8) (g : ¬ 4 ≤ Z (sR v)) : MV l yX5_needRoomIn wsX5_needRoomIn ({ frames := 1, cells := 0, slots := 0, locals := 20 }) D (ty2 cI cZ) (wX cI cZ a) [.ref (a 0), .int v] σ sz (fun u => u = σ) := by
  refine MV.of (cc := cX5_needRoomIn) (maxL := 2) (by decide) rfl (Nat.le_of_ble_eq_true rfl) ?_
  intro p e s m args below meth c A H locs ls hx hb hr hml hown hts hlocks hA hS hP hK hD hl
  have hl : lv_has ls 2 [(0, .ref (a 0)), (1, .int v)] := hl
  refine lv_aload_n hx hb dX5_needRoomIn_0 rfl (lv_at hl 0 rfl) ?_
  refine va_get (D := D) (ci := 5) (v := .ref (a 19)) (C := RX5) (T := TX5) (N := 8) hx hb hts in_X5_needRoomIn_X5 hown hK hP 0 rfl rfl 4 (by decide) (hts (.fieldLink RX5 36 "Warpyard" "waggons" "LWarpyard$Waggons;") (by decide +kernel)) (fun _ h9 => h9) rfl dX5_needRoomIn_1 ?_
  refine va_get (D := D) (ci := 4) (v := .ref (a 21)) (C := RX4) (T := TX4) (N := 4) hx hb hts in_X5_needRoomIn_X4 hown hK hP 19 rfl rfl 1 (by decide) (hts (.fieldLink RX5 239 "Warpyard$Waggons" "size" "[I") (by decide +kernel)) (fun _ h9 => h9) rfl dX5_needRoomIn_4 ?_
  refine lv_iload_n hx hb dX5_needRoomIn_7 rfl (lv_at hl 1 rfl) ?_
  refine MI.callS (As := [.int v]) (rest := [.ref (a 21)]) ⟨hx, hb, hml, hown, hts⟩ (c_X4_rowOfSiding l D cI cZ a H.size σ v) (va_cwS 1 hts gX5_needRoomIn_X4_rowOfSiding rfl rfl rfl (by decide +kernel) ⟨Nat.le_of_ble_eq_true rfl, Nat.le_of_ble_eq_true rfl⟩) hP hK hD hS hA rfl hl.1 (Nat.le_of_ble_eq_true rfl) (Nat.zero_le _) (Nat.zero_le _) dX5_needRoomIn_8 rfl (fun r_8 u_8 H locs h_8 hP hD hS => ?_)
  obtain ⟨e_8, h_8⟩ := h_8
  have e_8 := Eq.symm e_8
  subst e_8
  refine na_iald hx hb hK hP 21 0 (f := (σ 21)) rfl rfl (sR v) (sR_6 hv) (by decide) (h_8.trans (sR_e hv)) dX5_needRoomIn_11 ?_
  refine lv_topi (fun v_12 e_12 => ?_)
  obtain rfl : v_12 = nI (Z (sR v)) := by rw [e_12]; exact (hQ (sR v) (sR_6 hv)).1
  refine lv_iconst (v := 4) hx hb dX5_needRoomIn_12 (by decide) ?_
  refine lv_icmp_lt (tgt := 26) hx hb dX5_needRoomIn_13 (by decide) (fun c_13 => ?_) (fun c_13 => ?_)
  · skip
    exact MV.ret hx hb hr hlocks hK hP hD hS dX5_needRoomIn_26 (by rfl)
  · skip
    exact absurd (nI_lt4 (hQ (sR v) (sR_6 hv)).2 g) c_13
set_option maxRecDepth 20000 in
theorem k_X5_needRoomIn_55 : Cond.classLink RX5 55 "java/lang/IllegalStateException" ∈ wsX5_needRoomIn := by decide +kernel
set_option maxRecDepth 20000 in
theorem j_X5_needRoomIn_55 : Cond.initialized "java/lang/IllegalStateException" ∈ wsX5_needRoomIn := by decide +kernel
set_option maxRecDepth 20000 in
theorem v_X5_needRoomIn_55 : ∀ w ∈ (vx_atS RX5 59 "java/lang/IllegalStateException" xnames).filter goodWord, w ∈ wsX5_needRoomIn := by decide +kernel
theorem w_X5_needRoomIn_55 {s : State} {args : Array Value} (hts : ∀ w ∈ wsX5_needRoomIn, w.before args s = true) (hEV : EV s) : ∀ w ∈ vx_atS RX5 59 "java/lang/IllegalStateException" xnames, w.before args s = true := vx_hat (fun w h => hts w (v_X5_needRoomIn_55 w h)) (B := EVw) (by decide +kernel) (fun w h => va_Nw.use (EV.tab (s := s) w h) (hEV.1 w h))
theorem o_X5_needRoomIn_55 : ∀ w ∈ Cond.classLink RX5 55 "java/lang/IllegalStateException" :: Cond.initialized "java/lang/IllegalStateException" :: vx_atS RX5 59 "java/lang/IllegalStateException" xnames, vx_ot w = true := by decide +kernel
set_option maxHeartbeats 4000000 in
set_option maxRecDepth 100000 in
/-- needRoomIn, where it refuses -/
theorem c_X5_needRoomIn_bad (l : Launch) (D : va_G) (cI cZ : ClassId) (a : Nat → Nat) (sz : Nat) (σ : St) (hfl : l.stackTraces = false) (v : Int32) (Z : Nat → Nat) (hv : inR v 6 7) (hQ : ∀ r, r < 6 → σ 21 r = nI (Z r) ∧ Z r ≤ 8) (g : ¬ (¬ 4 ≤ Z (sR v))) : XV l yX5_needRoomIn wsX5_needRoomIn ({ frames := 7, cells := 1, slots := 6, locals := 110 }) D (ty2 cI cZ) (wX cI cZ a) [.ref (a 0), .int v] σ sz (fun _ => False) (fun E => E = eIS) := by
  refine XV.of (cc := cX5_needRoomIn) (maxL := 2) (by decide) rfl (Nat.le_of_ble_eq_true rfl) ?_
  intro p e s m args below meth c A H locs ls hx hb hr hml hown hts hlocks hexc hEV hZ hA hS hP hK hD hl
  have hl : lv_has ls 2 [(0, .ref (a 0)), (1, .int v)] := hl
  refine lv_aload_n hx hb dX5_needRoomIn_0 rfl (lv_at hl 0 rfl) ?_
  refine va_get (D := D) (ci := 5) (v := .ref (a 19)) (C := RX5) (T := TX5) (N := 8) hx hb hts in_X5_needRoomIn_X5 hown hK hP 0 rfl rfl 4 (by decide) (hts (.fieldLink RX5 36 "Warpyard" "waggons" "LWarpyard$Waggons;") (by decide +kernel)) (fun _ h9 => h9) rfl dX5_needRoomIn_1 ?_
  refine va_get (D := D) (ci := 4) (v := .ref (a 21)) (C := RX4) (T := TX4) (N := 4) hx hb hts in_X5_needRoomIn_X4 hown hK hP 19 rfl rfl 1 (by decide) (hts (.fieldLink RX5 239 "Warpyard$Waggons" "size" "[I") (by decide +kernel)) (fun _ h9 => h9) rfl dX5_needRoomIn_4 ?_
  refine lv_iload_n hx hb dX5_needRoomIn_7 rfl (lv_at hl 1 rfl) ?_
  refine MI.callS (As := [.int v]) (rest := [.ref (a 21)]) ⟨hx, hb, hml, hown, hts⟩ (c_X4_rowOfSiding l D cI cZ a H.size σ v) (va_cwS 1 hts gX5_needRoomIn_X4_rowOfSiding rfl rfl rfl (by decide +kernel) ⟨Nat.le_of_ble_eq_true rfl, Nat.le_of_ble_eq_true rfl⟩) hP hK hD hS hA rfl hl.1 (Nat.le_of_ble_eq_true rfl) (Nat.zero_le _) (Nat.zero_le _) dX5_needRoomIn_8 rfl (fun r_8 u_8 H locs h_8 hP hD hS => ?_)
  obtain ⟨e_8, h_8⟩ := h_8
  have e_8 := Eq.symm e_8
  subst e_8
  refine na_iald hx hb hK hP 21 0 (f := (σ 21)) rfl rfl (sR v) (sR_6 hv) (by decide) (h_8.trans (sR_e hv)) dX5_needRoomIn_11 ?_
  refine lv_topi (fun v_12 e_12 => ?_)
  obtain rfl : v_12 = nI (Z (sR v)) := by rw [e_12]; exact (hQ (sR v) (sR_6 hv)).1
  refine lv_iconst (v := 4) hx hb dX5_needRoomIn_12 (by decide) ?_
  refine lv_icmp_lt (tgt := 26) hx hb dX5_needRoomIn_13 (by decide) (fun c_13 => ?_) (fun c_13 => ?_)
  · skip
    exact absurd (nI_lt4' (hQ (sR v) (sR_6 hv)).2 c_13) g
  · skip
    exact X.throwS (cls := "java/lang/IllegalStateException") (text := "there are 4 waggons in the siding") (names := xnames) (ik := 55) (is := 242) (ic := 59) hx hb hfl hown (by decide +kernel) (by decide +kernel) (hts _ k_X5_needRoomIn_55) (hts _ j_X5_needRoomIn_55) (by decide +kernel) (w_X5_needRoomIn_55 hts hEV) o_X5_needRoomIn_55 hEV hZ hK hP hD hS (hl.1.trans hml.symm) dX5_needRoomIn_16 dX5_needRoomIn_19 dX5_needRoomIn_20 dX5_needRoomIn_22 dX5_needRoomIn_25 hexc (Nat.le_of_ble_eq_true rfl) (Nat.le_of_ble_eq_true rfl) (Nat.le_of_ble_eq_true rfl) (Nat.le_of_ble_eq_true rfl) hlocks (rfl)
set_option maxRecDepth 20000 in
theorem in_X5_sidingUnder_X3 : ∀ w ∈ wsX30, w ∈ wsX5_sidingUnder := by decide +kernel
set_option maxRecDepth 20000 in
theorem in_X5_sidingUnder_X5 : ∀ w ∈ wsX50, w ∈ wsX5_sidingUnder := by decide +kernel
set_option maxHeartbeats 4000000 in
set_option maxRecDepth 100000 in
theorem c_X5_sidingUnder_ok (l : Launch) (D : va_G) (cI cZ : ClassId) (a : Nat → Nat) (sz : Nat) (σ : St) (k : Nat) (hk : k < 4) (g : inR (σ 4 k) 6 7) : MI l yX5_sidingUnder wsX5_sidingUnder ({ frames := 1, cells := 0, slots := 0, locals := 20 }) D (ty2 cI cZ) (wX cI cZ a) [.ref (a 0), .int (nI k)] σ sz (fun r u => u = σ ∧ r = σ 4 k) := by
  refine MI.of (cc := cX5_sidingUnder) (maxL := 3) (by decide) rfl (Nat.le_of_ble_eq_true rfl) ?_
  intro p e s m args below meth c A H locs ls hx hb hr hml hown hts hlocks hA hS hP hK hD hl
  have hl : lv_has ls 3 [(0, .ref (a 0)), (1, .int (nI k))] := hl
  refine lv_aload_n hx hb dX5_sidingUnder_0 rfl (lv_at hl 0 rfl) ?_
  refine va_get (D := D) (ci := 5) (v := .ref (a 3)) (C := RX5) (T := TX5) (N := 8) hx hb hts in_X5_sidingUnder_X5 hown hK hP 0 rfl rfl 1 (by decide) (hts (.fieldLink RX5 19 "Warpyard" "trains" "LWarpyard$Trains;") (by decide +kernel)) (fun _ h9 => h9) rfl dX5_sidingUnder_1 ?_
  refine va_get (D := D) (ci := 3) (v := .ref (a 4)) (C := RX3) (T := TX3) (N := 5) hx hb hts in_X5_sidingUnder_X3 hown hK hP 3 rfl rfl 0 (by decide) (hts (.fieldLink RX5 103 "Warpyard$Trains" "block" "[I") (by decide +kernel)) (fun _ h9 => h9) rfl dX5_sidingUnder_4 ?_
  refine lv_iload_n hx hb dX5_sidingUnder_7 rfl (lv_at hl 1 rfl) ?_
  refine na_iald hx hb hK hP 4 0 (f := (σ 4)) rfl rfl k (by omega) (by decide) rfl dX5_sidingUnder_8 ?_
  refine lv_istore_n (lv' := [(2, .int (σ 4 k)), (0, .ref (a 0)), (1, .int (nI k))]) hx hb dX5_sidingUnder_9 rfl hl (by decide) rfl (fun ls hl => ?_)
  refine lv_iload_n hx hb dX5_sidingUnder_10 rfl (lv_at hl 0 rfl) ?_
  refine MI.callS (As := [.int (σ 4 k)]) (rest := []) ⟨hx, hb, hml, hown, hts⟩ (c_X5_isSiding l D cI cZ a H.size σ (σ 4 k)) (va_cwS 1 hts gX5_sidingUnder_X5_isSiding rfl rfl rfl (by decide +kernel) ⟨Nat.le_of_ble_eq_true rfl, Nat.le_of_ble_eq_true rfl⟩) hP hK hD hS hA rfl hl.1 (Nat.le_of_ble_eq_true rfl) (Nat.zero_le _) (Nat.zero_le _) dX5_sidingUnder_11 rfl (fun r_11 u_11 H locs h_11 hP hD hS => ?_)
  rcases h_11 with ⟨e_11, ⟨rfl, h_11⟩ | ⟨rfl, h_11⟩⟩
  · skip
    have e_11 := Eq.symm e_11
    subst e_11
    have h_11 : inR (σ 4 k) 6 7 := h_11
    refine lv_if_ne (tgt := 27) hx hb dX5_sidingUnder_14 (by decide) (fun _ => ?_) (fun c9 => absurd c9 (by decide))
    refine lv_iload_n hx hb dX5_sidingUnder_27 rfl (lv_at hl 0 rfl) ?_
    exact MI.ret hx hb hr hlocks hK hP hD hS dX5_sidingUnder_28 (by exact ⟨rfl, rfl⟩)
  · skip
    have e_11 := Eq.symm e_11
    subst e_11
    have h_11 : ¬ inR (σ 4 k) 6 7 := h_11
    exact absurd g h_11
set_option maxRecDepth 20000 in
theorem k_X5_sidingUnder_55 : Cond.classLink RX5 55 "java/lang/IllegalStateException" ∈ wsX5_sidingUnder := by decide +kernel
set_option maxRecDepth 20000 in
theorem j_X5_sidingUnder_55 : Cond.initialized "java/lang/IllegalStateException" ∈ wsX5_sidingUnder := by decide +kernel
set_option maxRecDepth 20000 in
theorem v_X5_sidingUnder_55 : ∀ w ∈ (vx_atS RX5 59 "java/lang/IllegalStateException" xnames).filter goodWord, w ∈ wsX5_sidingUnder := by decide +kernel
theorem w_X5_sidingUnder_55 {s : State} {args : Array Value} (hts : ∀ w ∈ wsX5_sidingUnder, w.before args s = true) (hEV : EV s) : ∀ w ∈ vx_atS RX5 59 "java/lang/IllegalStateException" xnames, w.before args s = true := vx_hat (fun w h => hts w (v_X5_sidingUnder_55 w h)) (B := EVw) (by decide +kernel) (fun w h => va_Nw.use (EV.tab (s := s) w h) (hEV.1 w h))
theorem o_X5_sidingUnder_55 : ∀ w ∈ Cond.classLink RX5 55 "java/lang/IllegalStateException" :: Cond.initialized "java/lang/IllegalStateException" :: vx_atS RX5 59 "java/lang/IllegalStateException" xnames, vx_ot w = true := by decide +kernel
set_option maxHeartbeats 4000000 in
set_option maxRecDepth 100000 in
theorem c_X5_sidingUnder_bad (l : Launch) (D : va_G) (cI cZ : ClassId) (a : Nat → Nat) (sz : Nat) (σ : St) (hfl : l.stackTraces = false) (k : Nat) (hk : k < 4) (g : ¬ inR (σ 4 k) 6 7) : XI l yX5_sidingUnder wsX5_sidingUnder ({ frames := 7, cells := 1, slots := 6, locals := 110 }) D (ty2 cI cZ) (wX cI cZ a) [.ref (a 0), .int (nI k)] σ sz (fun _ _ => False) (fun E => E = eIS) := by
  refine XI.of (cc := cX5_sidingUnder) (maxL := 3) (by decide) rfl (Nat.le_of_ble_eq_true rfl) ?_
  intro p e s m args below meth c A H locs ls hx hb hr hml hown hts hlocks hexc hEV hZ hA hS hP hK hD hl
  have hl : lv_has ls 3 [(0, .ref (a 0)), (1, .int (nI k))] := hl
  refine lv_aload_n hx hb dX5_sidingUnder_0 rfl (lv_at hl 0 rfl) ?_
  refine va_get (D := D) (ci := 5) (v := .ref (a 3)) (C := RX5) (T := TX5) (N := 8) hx hb hts in_X5_sidingUnder_X5 hown hK hP 0 rfl rfl 1 (by decide) (hts (.fieldLink RX5 19 "Warpyard" "trains" "LWarpyard$Trains;") (by decide +kernel)) (fun _ h9 => h9) rfl dX5_sidingUnder_1 ?_
  refine va_get (D := D) (ci := 3) (v := .ref (a 4)) (C := RX3) (T := TX3) (N := 5) hx hb hts in_X5_sidingUnder_X3 hown hK hP 3 rfl rfl 0 (by decide) (hts (.fieldLink RX5 103 "Warpyard$Trains" "block" "[I") (by decide +kernel)) (fun _ h9 => h9) rfl dX5_sidingUnder_4 ?_
  refine lv_iload_n hx hb dX5_sidingUnder_7 rfl (lv_at hl 1 rfl) ?_
  refine na_iald hx hb hK hP 4 0 (f := (σ 4)) rfl rfl k (by omega) (by decide) rfl dX5_sidingUnder_8 ?_
  refine lv_istore_n (lv' := [(2, .int (σ 4 k)), (0, .ref (a 0)), (1, .int (nI k))]) hx hb dX5_sidingUnder_9 rfl hl (by decide) rfl (fun ls hl => ?_)
  refine lv_iload_n hx hb dX5_sidingUnder_10 rfl (lv_at hl 0 rfl) ?_
  refine MI.callS (As := [.int (σ 4 k)]) (rest := []) ⟨hx, hb, hml, hown, hts⟩ (c_X5_isSiding l D cI cZ a H.size σ (σ 4 k)) (va_cwS 1 hts gX5_sidingUnder_X5_isSiding rfl rfl rfl (by decide +kernel) ⟨Nat.le_of_ble_eq_true rfl, Nat.le_of_ble_eq_true rfl⟩) hP hK hD hS hA rfl hl.1 (Nat.le_of_ble_eq_true rfl) (Nat.zero_le _) (Nat.zero_le _) dX5_sidingUnder_11 rfl (fun r_11 u_11 H locs h_11 hP hD hS => ?_)
  rcases h_11 with ⟨e_11, ⟨rfl, h_11⟩ | ⟨rfl, h_11⟩⟩
  · skip
    have e_11 := Eq.symm e_11
    subst e_11
    have h_11 : inR (σ 4 k) 6 7 := h_11
    exact absurd h_11 g
  · skip
    have e_11 := Eq.symm e_11
    subst e_11
    have h_11 : ¬ inR (σ 4 k) 6 7 := h_11
    refine lv_if_ne (tgt := 27) hx hb dX5_sidingUnder_14 (by decide) (fun c9 => absurd (by decide) c9) (fun _ => ?_)
    exact X.throwS (cls := "java/lang/IllegalStateException") (text := "the train stands on no siding") (names := xnames) (ik := 55) (is := 244) (ic := 59) hx hb hfl hown (by decide +kernel) (by decide +kernel) (hts _ k_X5_sidingUnder_55) (hts _ j_X5_sidingUnder_55) (by decide +kernel) (w_X5_sidingUnder_55 hts hEV) o_X5_sidingUnder_55 hEV hZ hK hP hD hS (hl.1.trans hml.symm) dX5_sidingUnder_17 dX5_sidingUnder_20 dX5_sidingUnder_21 dX5_sidingUnder_23 dX5_sidingUnder_26 hexc (Nat.le_of_ble_eq_true rfl) (Nat.le_of_ble_eq_true rfl) (Nat.le_of_ble_eq_true rfl) (Nat.le_of_ble_eq_true rfl) hlocks (rfl)
