set_option maxRecDepth 20000 in
theorem in_X5_run_X5 : ∀ w ∈ wsX50, w ∈ wsX5_run := by decide +kernel
set_option maxRecDepth 20000 in
theorem k_X5_run_55 : Cond.classLink RX5 55 "java/lang/IllegalStateException" ∈ wsX5_run := by decide +kernel
set_option maxRecDepth 20000 in
theorem j_X5_run_55 : Cond.initialized "java/lang/IllegalStateException" ∈ wsX5_run := by decide +kernel
set_option maxRecDepth 20000 in
theorem v_X5_run_55 : ∀ w ∈ (vx_atS RX5 59 "java/lang/IllegalStateException" xnames).filter goodWord, w ∈ wsX5_run := by decide +kernel
theorem w_X5_run_55 {s : State} {args : Array Value} (hts : ∀ w ∈ wsX5_run, w.before args s = true) (hEV : EV s) : ∀ w ∈ vx_atS RX5 59 "java/lang/IllegalStateException" xnames, w.before args s = true := vx_hat (fun w h => hts w (v_X5_run_55 w h)) (B := EVw) (by decide +kernel) (fun w h => va_Nw.use (EV.tab (s := s) w h) (hEV.1 w h))
theorem o_X5_run_55 : ∀ w ∈ Cond.classLink RX5 55 "java/lang/IllegalStateException" :: Cond.initialized "java/lang/IllegalStateException" :: vx_atS RX5 59 "java/lang/IllegalStateException" xnames, vx_ot w = true := by decide +kernel
set_option maxHeartbeats 4000000 in
set_option maxRecDepth 100000 in
/-- Warpyard.run -/
theorem c_X5_run (l : Launch) (D : va_G) (cI cZ : ClassId) (a : Nat → Nat) (sz : Nat) (σ : St) (hfl : l.stackTraces = false) (mm : Int32) (n : Nat) (hn : σ 3 0 = nI n) (hn4 : n ≤ 4) (nb : Nat) (hnb : σ 13 0 = nI nb) (hnb30 : nb ≤ 30) (hB : ∀ i, i < n → blk (σ 4 i)) : XI l yX5_run wsX5_run ({ frames := 8, cells := 1, slots := 6, locals := 130 }) D (ty2 cI cZ) (wX cI cZ a) [.ref (a 0), .int mm] σ sz (fun r u => cdRun σ mm = 0 ∧ u = (va_up (va_up (va_up (va_up (va_up σ 0 (fun _ => (itX σ n nb mm.toNatClampNeg).2.2.1)) 4 ((itX σ n nb mm.toNatClampNeg).1.1)) 5 ((itX σ n nb mm.toNatClampNeg).1.2.1)) 7 ((itX σ n nb mm.toNatClampNeg).1.2.2)) 18 ((itX σ n nb mm.toNatClampNeg).2.1)) ∧ r = (itX σ n nb mm.toNatClampNeg).2.2.2) (xC (cdRun σ mm)) := by
  refine XI.of (cc := cX5_run) (maxL := 4) (by decide) rfl (Nat.le_of_ble_eq_true rfl) ?_
  intro p e s m args below meth c A H locs ls hx hb hr hml hown hts hlocks hexc hEV hZ hA hS hP hK hD hl
  have hl : lv_has ls 4 [(0, .ref (a 0)), (1, .int mm)] := hl
  refine lv_iload_n hx hb dX5_run_0 rfl (lv_at hl 1 rfl) ?_
  by_cases g_1 : inR mm 1 100
  · skip
    refine MV.callS (As := [.int mm]) (rest := []) ⟨hx, hb, hml, hown, hts⟩ (c_X5_needMinutesToRun_ok l D cI cZ a H.size σ mm g_1) (va_cwS 1 hts gX5_run_X5_needMinutesToRun rfl rfl rfl (by decide +kernel) ⟨Nat.le_of_ble_eq_true rfl, Nat.le_of_ble_eq_true rfl⟩) hP hK hD hS hA rfl hl.1 (Nat.le_of_ble_eq_true rfl) (Nat.zero_le _) (Nat.zero_le _) dX5_run_1 rfl (fun u_1 H locs h_1 hP hD hS => ?_)
    have e_1 := h_1
    have e_1 := Eq.symm e_1
    subst e_1
    refine lv_aload_n hx hb dX5_run_4 rfl (lv_at hl 0 rfl) ?_
    refine va_get (D := D) (ci := 5) (v := .int (σ 0 0)) (C := RX5) (T := TX5) (N := 8) hx hb hts in_X5_run_X5 hown hK hP 0 rfl rfl 6 (by decide) (hts (.fieldLink RX5 109 "Warpyard" "now" "I") (by decide +kernel)) (fun _ h9 => h9) rfl dX5_run_5 ?_
    refine lv_iload_n hx hb dX5_run_8 rfl (lv_at hl 1 rfl) ?_
    refine lv_iadd hx hb dX5_run_9 ?_
    refine lv_sipush (v := 5000) hx hb dX5_run_10 (by decide) ?_
    refine lv_icmp_le (tgt := 26) hx hb dX5_run_13 (by decide) (fun c_13 => ?_) (fun c_13 => ?_)
    · skip
      obtain ⟨q, hq1, hq100, rfl⟩ := R_k1 g_1
      refine lv_iconst (v := 0) hx hb dX5_run_26 (by decide) ?_
      refine lv_istore_n (lv' := [(2, .int 0), (0, .ref (a 0)), (1, .int (nI q))]) hx hb dX5_run_27 rfl hl (by decide) rfl (fun ls hl => ?_)
      refine lv_iconst (v := 0) hx hb dX5_run_28 (by decide) ?_
      refine lv_istore_n (lv' := [(3, .int 0), (2, .int 0), (0, .ref (a 0)), (1, .int (nI q))]) hx hb dX5_run_29 rfl hl (by decide) rfl (fun ls hl => ?_)
      have loop_30 : ∀ (f : Nat) (k : Nat) (H : Heap) (locs : List Loc) (ls : Array Slot), q < k + f → k ≤ q → va_P D vwCl (wX cI cZ a (va_up (va_up (va_up (va_up (va_up σ 0 (fun _ => (itX σ n nb k).2.2.1)) 4 ((itX σ n nb k).1.1)) 5 ((itX σ n nb k).1.2.1)) 7 ((itX σ n nb k).1.2.2)) 18 ((itX σ n nb k).2.1))) H → va_D A (wX cI cZ a (va_up (va_up (va_up (va_up (va_up σ 0 (fun _ => (itX σ n nb k).2.2.1)) 4 ((itX σ n nb k).1.1)) 5 ((itX σ n nb k).1.2.1)) 7 ((itX σ n nb k).1.2.2)) 18 ((itX σ n nb k).2.1))) → va_S A s.heap H locs → lv_has ls 4 [(0, .ref (a 0)), (1, .int (nI q)), (2, .int ((itX σ n nb k).2.2.2)), (3, .int (nI k))] → W p l e { frames := 8, cells := 1, slots := 6, locals := 130 } s m args below meth c H locs 0 0 (vx_MQ below (va_Qi (fun r u => cdRun σ (nI q) = 0 ∧ u = (va_up (va_up (va_up (va_up (va_up σ 0 (fun _ => (itX σ n nb (nI q).toNatClampNeg).2.2.1)) 4 ((itX σ n nb (nI q).toNatClampNeg).1.1)) 5 ((itX σ n nb (nI q).toNatClampNeg).1.2.1)) 7 ((itX σ n nb (nI q).toNatClampNeg).1.2.2)) 18 ((itX σ n nb (nI q).toNatClampNeg).2.1)) ∧ r = (itX σ n nb (nI q).toNatClampNeg).2.2.2) (PO D (ty2 cI cZ) (wX cI cZ a) A) A) (XX D (ty2 cI cZ) (wX cI cZ a) σ A (xC (cdRun σ (nI q)))) args s 1 6 A) (F0 m 30 ls []) := by
        intro f
        induction f with
        | zero => intro k H locs ls hf hk; exact absurd hf (by omega)
        | succ f ih =>
          intro k H locs ls hf hk hP hD hS hl
          refine lv_iload_n hx hb dX5_run_30 rfl (lv_at hl 3 rfl) ?_
          refine lv_iload_n hx hb dX5_run_31 rfl (lv_at hl 1 rfl) ?_
          refine lv_icmp_ge (tgt := 88) hx hb dX5_run_32 (by decide) (fun c_32 => ?_) (fun c_32 => ?_)
          · skip
            rw [nI_leI (by omega) (by omega)] at c_32
            refine lv_iload_n hx hb dX5_run_88 rfl (lv_at hl 2 rfl) ?_
            exact XI.ret hx hb hr hlocks hK hP hD hS dX5_run_89 (by have e9 : q = k := (by omega); subst e9; rw [nI_clamp (show q < 2 ^ 31 by omega)]; exact ⟨by rw [cdRun, cif_t g_1, cif_t (le_nlt.mp c_13)], rfl, rfl⟩)
          · skip
            rw [nI_leI (by omega) (by omega)] at c_32
            refine lv_iload_n hx hb dX5_run_35 rfl (lv_at hl 2 rfl) ?_
            refine lv_aload_n hx hb dX5_run_36 rfl (lv_at hl 0 rfl) ?_
            refine va_get (D := D) (ci := 5) (v := .ref (a 3)) (C := RX5) (T := TX5) (N := 8) hx hb hts in_X5_run_X5 hown hK hP 0 rfl rfl 1 (by decide) (hts (.fieldLink RX5 19 "Warpyard" "trains" "LWarpyard$Trains;") (by decide +kernel)) (fun _ h9 => h9) rfl dX5_run_37 ?_
            refine lv_aload_n hx hb dX5_run_40 rfl (lv_at hl 0 rfl) ?_
            refine va_get (D := D) (ci := 5) (v := .ref (a 1)) (C := RX5) (T := TX5) (N := 8) hx hb hts in_X5_run_X5 hown hK hP 0 rfl rfl 0 (by decide) (hts (.fieldLink RX5 10 "Warpyard" "tracks" "LWarpyard$Tracks;") (by decide +kernel)) (fun _ h9 => h9) rfl dX5_run_41 ?_
            refine lv_aload_n hx hb dX5_run_44 rfl (lv_at hl 0 rfl) ?_
            refine va_get (D := D) (ci := 5) (v := .ref (a 13)) (C := RX5) (T := TX5) (N := 8) hx hb hts in_X5_run_X5 hown hK hP 0 rfl rfl 3 (by decide) (hts (.fieldLink RX5 29 "Warpyard" "bookings" "LWarpyard$Bookings;") (by decide +kernel)) (fun _ h9 => h9) rfl dX5_run_45 ?_
            refine lv_aload_n hx hb dX5_run_48 rfl (lv_at hl 0 rfl) ?_
            refine va_get (D := D) (ci := 5) (v := .int ((itX σ n nb k).2.2.1)) (C := RX5) (T := TX5) (N := 8) hx hb hts in_X5_run_X5 hown hK hP 0 rfl rfl 6 (by decide) (hts (.fieldLink RX5 109 "Warpyard" "now" "I") (by decide +kernel)) (fun _ h9 => h9) rfl dX5_run_49 ?_
            have hP : va_P D vwCl (wX cI cZ a (va_up (va_up (va_up (va_up (va_up σ 0 (fun _ => (itX σ n nb k).2.2.1)) 18 ((itX σ n nb k).2.1)) 4 ((itX σ n nb k).1).1) 5 ((itX σ n nb k).1).2.1) 7 ((itX σ n nb k).1).2.2)) H := hP
            have hD : va_D A (wX cI cZ a (va_up (va_up (va_up (va_up (va_up σ 0 (fun _ => (itX σ n nb k).2.2.1)) 18 ((itX σ n nb k).2.1)) 4 ((itX σ n nb k).1).1) 5 ((itX σ n nb k).1).2.1) 7 ((itX σ n nb k).1).2.2)) := hD
            refine MI.callV (As := [.ref (a 1), .ref (a 13), .int ((itX σ n nb k).2.2.1)]) (rest := [.int ((itX σ n nb k).2.2.2)]) ⟨hx, hb, hml, hown, hts⟩ (c_X3_runMinute l D cI cZ a H.size (va_up (va_up σ 0 (fun _ => (itX σ n nb k).2.2.1)) 18 ((itX σ n nb k).2.1)) n nb ((itX σ n nb k).2.2.1) (itX σ n nb k).1 hn hn4 hnb hnb30 (itX_blk hB k)) (cwV 3 hts gX5_run_X3_runMinute rfl rfl rfl (by decide +kernel) ⟨Nat.le_of_ble_eq_true rfl, Nat.le_of_ble_eq_true rfl⟩) hP hK hD hS hA (va_recv hK hP (ci := 3) (q0 := 3) rfl rfl) rfl hl.1 (Nat.le_of_ble_eq_true rfl) (Nat.zero_le _) (Nat.zero_le _) dX5_run_52 rfl (fun r_52 u_52 H locs h_52 hP hD hS => ?_)
            obtain ⟨e_52, h_52⟩ := h_52
            have e_52 := Eq.symm e_52
            subst e_52
            have hP : va_P D vwCl (wX cI cZ a (va_up (va_up (va_up (va_up (va_up σ 0 (fun _ => (itX σ n nb k).2.2.1)) 4 ((mvs (σ 2) (σ 14) (σ 15) (σ 16) (σ 17) (σ 6) n nb ((itX σ n nb k).2.2.1) (itX σ n nb k).1 n).1.1)) 5 ((mvs (σ 2) (σ 14) (σ 15) (σ 16) (σ 17) (σ 6) n nb ((itX σ n nb k).2.2.1) (itX σ n nb k).1 n).1.2.1)) 7 ((mvs (σ 2) (σ 14) (σ 15) (σ 16) (σ 17) (σ 6) n nb ((itX σ n nb k).2.2.1) (itX σ n nb k).1 n).1.2.2)) 18 ((itX σ n nb k).2.1))) H := hP
            have hD : va_D A (wX cI cZ a (va_up (va_up (va_up (va_up (va_up σ 0 (fun _ => (itX σ n nb k).2.2.1)) 4 ((mvs (σ 2) (σ 14) (σ 15) (σ 16) (σ 17) (σ 6) n nb ((itX σ n nb k).2.2.1) (itX σ n nb k).1 n).1.1)) 5 ((mvs (σ 2) (σ 14) (σ 15) (σ 16) (σ 17) (σ 6) n nb ((itX σ n nb k).2.2.1) (itX σ n nb k).1 n).1.2.1)) 7 ((mvs (σ 2) (σ 14) (σ 15) (σ 16) (σ 17) (σ 6) n nb ((itX σ n nb k).2.2.1) (itX σ n nb k).1 n).1.2.2)) 18 ((itX σ n nb k).2.1))) := hD
            have h_52 : r_52 = (mvs (σ 2) (σ 14) (σ 15) (σ 16) (σ 17) (σ 6) n nb ((itX σ n nb k).2.2.1) (itX σ n nb k).1 n).2 := h_52
            refine lv_iadd hx hb dX5_run_55 ?_
            refine lv_istore_n (lv' := [(2, .int (((itX σ n nb k).2.2.2) + r_52)), (0, .ref (a 0)), (1, .int (nI q)), (3, .int (nI k))]) hx hb dX5_run_56 rfl hl (by decide) rfl (fun ls hl => ?_)
            refine lv_aload_n hx hb dX5_run_57 rfl (lv_at hl 1 rfl) ?_
            refine va_get (D := D) (ci := 5) (v := .ref (a 13)) (C := RX5) (T := TX5) (N := 8) hx hb hts in_X5_run_X5 hown hK hP 0 rfl rfl 3 (by decide) (hts (.fieldLink RX5 29 "Warpyard" "bookings" "LWarpyard$Bookings;") (by decide +kernel)) (fun _ h9 => h9) rfl dX5_run_58 ?_
            refine lv_aload_n hx hb dX5_run_61 rfl (lv_at hl 1 rfl) ?_
            refine va_get (D := D) (ci := 5) (v := .ref (a 3)) (C := RX5) (T := TX5) (N := 8) hx hb hts in_X5_run_X5 hown hK hP 0 rfl rfl 1 (by decide) (hts (.fieldLink RX5 19 "Warpyard" "trains" "LWarpyard$Trains;") (by decide +kernel)) (fun _ h9 => h9) rfl dX5_run_62 ?_
            refine lv_aload_n hx hb dX5_run_65 rfl (lv_at hl 1 rfl) ?_
            refine va_get (D := D) (ci := 5) (v := .int ((itX σ n nb k).2.2.1)) (C := RX5) (T := TX5) (N := 8) hx hb hts in_X5_run_X5 hown hK hP 0 rfl rfl 6 (by decide) (hts (.fieldLink RX5 109 "Warpyard" "now" "I") (by decide +kernel)) (fun _ h9 => h9) rfl dX5_run_66 ?_
            have hP : va_P D vwCl (wX cI cZ a (va_up (va_up (va_up (va_up (va_up σ 0 (fun _ => (itX σ n nb k).2.2.1)) 4 ((mvs (σ 2) (σ 14) (σ 15) (σ 16) (σ 17) (σ 6) n nb ((itX σ n nb k).2.2.1) (itX σ n nb k).1 n).1.1)) 5 ((mvs (σ 2) (σ 14) (σ 15) (σ 16) (σ 17) (σ 6) n nb ((itX σ n nb k).2.2.1) (itX σ n nb k).1 n).1.2.1)) 7 ((mvs (σ 2) (σ 14) (σ 15) (σ 16) (σ 17) (σ 6) n nb ((itX σ n nb k).2.2.1) (itX σ n nb k).1 n).1.2.2)) 18 ((itX σ n nb k).2.1))) H := hP
            have hD : va_D A (wX cI cZ a (va_up (va_up (va_up (va_up (va_up σ 0 (fun _ => (itX σ n nb k).2.2.1)) 4 ((mvs (σ 2) (σ 14) (σ 15) (σ 16) (σ 17) (σ 6) n nb ((itX σ n nb k).2.2.1) (itX σ n nb k).1 n).1.1)) 5 ((mvs (σ 2) (σ 14) (σ 15) (σ 16) (σ 17) (σ 6) n nb ((itX σ n nb k).2.2.1) (itX σ n nb k).1 n).1.2.1)) 7 ((mvs (σ 2) (σ 14) (σ 15) (σ 16) (σ 17) (σ 6) n nb ((itX σ n nb k).2.2.1) (itX σ n nb k).1 n).1.2.2)) 18 ((itX σ n nb k).2.1))) := hD
            refine MV.callV (As := [.ref (a 3), .int ((itX σ n nb k).2.2.1)]) (rest := []) ⟨hx, hb, hml, hown, hts⟩ (c_X0_markMet l D cI cZ a H.size (va_up (va_up (va_up (va_up σ 0 (fun _ => (itX σ n nb k).2.2.1)) 4 ((mvs (σ 2) (σ 14) (σ 15) (σ 16) (σ 17) (σ 6) n nb ((itX σ n nb k).2.2.1) (itX σ n nb k).1 n).1.1)) 5 ((mvs (σ 2) (σ 14) (σ 15) (σ 16) (σ 17) (σ 6) n nb ((itX σ n nb k).2.2.1) (itX σ n nb k).1 n).1.2.1)) 7 ((mvs (σ 2) (σ 14) (σ 15) (σ 16) (σ 17) (σ 6) n nb ((itX σ n nb k).2.2.1) (itX σ n nb k).1 n).1.2.2)) n nb ((itX σ n nb k).2.2.1) (itX σ n nb k).2.1 hn hn4 hnb hnb30) (cwV 2 hts gX5_run_X0_markMet rfl rfl rfl (by decide +kernel) ⟨Nat.le_of_ble_eq_true rfl, Nat.le_of_ble_eq_true rfl⟩) hP hK hD hS hA (va_recv hK hP (ci := 0) (q0 := 13) rfl rfl) rfl hl.1 (Nat.le_of_ble_eq_true rfl) (Nat.zero_le _) (Nat.zero_le _) dX5_run_69 rfl (fun u_69 H locs h_69 hP hD hS => ?_)
            have e_69 := h_69
            have e_69 := Eq.symm e_69
            subst e_69
            have hP : va_P D vwCl (wX cI cZ a (va_up (va_up (va_up (va_up (va_up σ 0 (fun _ => (itX σ n nb k).2.2.1)) 4 ((mvs (σ 2) (σ 14) (σ 15) (σ 16) (σ 17) (σ 6) n nb ((itX σ n nb k).2.2.1) (itX σ n nb k).1 n).1.1)) 5 ((mvs (σ 2) (σ 14) (σ 15) (σ 16) (σ 17) (σ 6) n nb ((itX σ n nb k).2.2.1) (itX σ n nb k).1 n).1.2.1)) 7 ((mvs (σ 2) (σ 14) (σ 15) (σ 16) (σ 17) (σ 6) n nb ((itX σ n nb k).2.2.1) (itX σ n nb k).1 n).1.2.2)) 18 (mkm ((mvs (σ 2) (σ 14) (σ 15) (σ 16) (σ 17) (σ 6) n nb ((itX σ n nb k).2.2.1) (itX σ n nb k).1 n).1.1) (σ 14) (σ 15) (σ 16) (σ 17) n ((itX σ n nb k).2.2.1) (itX σ n nb k).2.1 nb))) H := hP
            have hD : va_D A (wX cI cZ a (va_up (va_up (va_up (va_up (va_up σ 0 (fun _ => (itX σ n nb k).2.2.1)) 4 ((mvs (σ 2) (σ 14) (σ 15) (σ 16) (σ 17) (σ 6) n nb ((itX σ n nb k).2.2.1) (itX σ n nb k).1 n).1.1)) 5 ((mvs (σ 2) (σ 14) (σ 15) (σ 16) (σ 17) (σ 6) n nb ((itX σ n nb k).2.2.1) (itX σ n nb k).1 n).1.2.1)) 7 ((mvs (σ 2) (σ 14) (σ 15) (σ 16) (σ 17) (σ 6) n nb ((itX σ n nb k).2.2.1) (itX σ n nb k).1 n).1.2.2)) 18 (mkm ((mvs (σ 2) (σ 14) (σ 15) (σ 16) (σ 17) (σ 6) n nb ((itX σ n nb k).2.2.1) (itX σ n nb k).1 n).1.1) (σ 14) (σ 15) (σ 16) (σ 17) n ((itX σ n nb k).2.2.1) (itX σ n nb k).2.1 nb))) := hD
            refine lv_aload_n hx hb dX5_run_72 rfl (lv_at hl 1 rfl) ?_
            refine lv_dup hx hb dX5_run_73 rfl ?_
            refine va_get (D := D) (ci := 5) (v := .int ((itX σ n nb k).2.2.1)) (C := RX5) (T := TX5) (N := 8) hx hb hts in_X5_run_X5 hown hK hP 0 rfl rfl 6 (by decide) (hts (.fieldLink RX5 109 "Warpyard" "now" "I") (by decide +kernel)) (fun _ h9 => h9) rfl dX5_run_74 ?_
            refine lv_iconst (v := 1) hx hb dX5_run_77 (by decide) ?_
            refine lv_iadd hx hb dX5_run_78 ?_
            refine va_put (D := D) (ci := 5) (v := .int (((itX σ n nb k).2.2.1) + 1)) (ty := .int) (C := RX5) (T := TX5) (N := 8) hx hb hts in_X5_run_X5 tyX5 tyX5_ok nmX5 hown hK hP hD hS 0 rfl rfl 6 (by decide) (hts (.fieldLink RX5 109 "Warpyard" "now" "I") (by decide +kernel)) (fun _ h9 => h9) rfl (by decide +kernel) rfl rfl (Nat.le_of_ble_eq_true rfl) dX5_run_79 (fun H locs hP hD hS => ?_)
            have hP : va_P D vwCl (wX cI cZ a (va_up (va_up (va_up (va_up (va_up σ 0 (fun _ => ((itX σ n nb k).2.2.1) + 1)) 4 ((mvs (σ 2) (σ 14) (σ 15) (σ 16) (σ 17) (σ 6) n nb ((itX σ n nb k).2.2.1) (itX σ n nb k).1 n).1.1)) 5 ((mvs (σ 2) (σ 14) (σ 15) (σ 16) (σ 17) (σ 6) n nb ((itX σ n nb k).2.2.1) (itX σ n nb k).1 n).1.2.1)) 7 ((mvs (σ 2) (σ 14) (σ 15) (σ 16) (σ 17) (σ 6) n nb ((itX σ n nb k).2.2.1) (itX σ n nb k).1 n).1.2.2)) 18 (mkm ((mvs (σ 2) (σ 14) (σ 15) (σ 16) (σ 17) (σ 6) n nb ((itX σ n nb k).2.2.1) (itX σ n nb k).1 n).1.1) (σ 14) (σ 15) (σ 16) (σ 17) n ((itX σ n nb k).2.2.1) (itX σ n nb k).2.1 nb))) H := hP
            have hD : va_D A (wX cI cZ a (va_up (va_up (va_up (va_up (va_up σ 0 (fun _ => ((itX σ n nb k).2.2.1) + 1)) 4 ((mvs (σ 2) (σ 14) (σ 15) (σ 16) (σ 17) (σ 6) n nb ((itX σ n nb k).2.2.1) (itX σ n nb k).1 n).1.1)) 5 ((mvs (σ 2) (σ 14) (σ 15) (σ 16) (σ 17) (σ 6) n nb ((itX σ n nb k).2.2.1) (itX σ n nb k).1 n).1.2.1)) 7 ((mvs (σ 2) (σ 14) (σ 15) (σ 16) (σ 17) (σ 6) n nb ((itX σ n nb k).2.2.1) (itX σ n nb k).1 n).1.2.2)) 18 (mkm ((mvs (σ 2) (σ 14) (σ 15) (σ 16) (σ 17) (σ 6) n nb ((itX σ n nb k).2.2.1) (itX σ n nb k).1 n).1.1) (σ 14) (σ 15) (σ 16) (σ 17) n ((itX σ n nb k).2.2.1) (itX σ n nb k).2.1 nb))) := hD
            refine lv_iinc (v := nI (k + 1)) (lv' := [(3, .int (nI (k + 1))), (2, .int (((itX σ n nb k).2.2.2) + r_52)), (0, .ref (a 0)), (1, .int (nI q))]) hx hb dX5_run_82 hl (k := 3) rfl (by exact nI_1 k) (by decide) rfl (fun ls hl => ?_)
            refine lv_goto (tgt := 30) hx hb dX5_run_85 (by decide) ?_
            subst h_52
            exact ih (k + 1) _ _ ls (by omega) (by omega) hP hD hS (lv_sub hl [2, 3, 1, 0] rfl)
      exact loop_30 (q + 1) 0 _ _ ls (by omega) (by omega) hP hD hS (lv_sub hl [2, 3, 1, 0] rfl)
    · skip
      exact X.throwS (cls := "java/lang/IllegalStateException") (text := "the clock would be above 5000") (names := xnames) (ik := 55) (is := 112) (ic := 59) hx hb hfl hown (by decide +kernel) (by decide +kernel) (hts _ k_X5_run_55) (hts _ j_X5_run_55) (by decide +kernel) (w_X5_run_55 hts hEV) o_X5_run_55 hEV hZ hK hP hD hS (hl.1.trans hml.symm) dX5_run_16 dX5_run_19 dX5_run_20 dX5_run_22 dX5_run_25 hexc (Nat.le_of_ble_eq_true rfl) (Nat.le_of_ble_eq_true rfl) (Nat.le_of_ble_eq_true rfl) (Nat.le_of_ble_eq_true rfl) hlocks (Or.inr ⟨rfl, by rw [cdRun, cif_t g_1, cif_f (fun h => h (nle_lt c_13))]⟩)
  · skip
    exact XV.outS (As := [.int mm]) (rest := []) ⟨hx, hb, hml, hown, hts⟩ (c_X5_needMinutesToRun_bad l D cI cZ a H.size σ hfl mm g_1) (va_cwS 1 hts gX5_run_X5_needMinutesToRun rfl rfl rfl (by decide +kernel) ⟨Nat.le_of_ble_eq_true rfl, Nat.le_of_ble_eq_true rfl⟩) hP hK hD hS hA hEV hZ rfl hl.1 (Nat.le_of_ble_eq_true rfl) (Nat.le_of_ble_eq_true rfl) (Nat.le_of_ble_eq_true rfl) dX5_run_1 rfl hlocks hexc (fun E hE => Or.inl ⟨hE, by rw [cdRun, cif_f g_1]⟩)
set_option maxRecDepth 20000 in
theorem in_X5_reaches_X3 : ∀ w ∈ wsX30, w ∈ wsX5_reaches := by decide +kernel
set_option maxRecDepth 20000 in
theorem in_X5_reaches_X5 : ∀ w ∈ wsX50, w ∈ wsX5_reaches := by decide +kernel
set_option maxHeartbeats 4000000 in
set_option maxRecDepth 100000 in
/-- Warpyard.reaches -/
theorem c_X5_reaches (l : Launch) (D : va_G) (cI cZ : ClassId) (a : Nat → Nat) (sz : Nat) (σ : St) (hfl : l.stackTraces = false) (t b : Int32) (n : Nat) (hn : σ 3 0 = nI n) (hn4 : n ≤ 4) (nb : Nat) (hnb : σ 13 0 = nI nb) (hnb30 : nb ≤ 30) (hR : ∀ i, i < 4 → σ 5 i = 0 ∨ σ 5 i = 1) (hH : ∀ i, i < 4 → σ 6 i = 0 ∨ σ 6 i = 1) (hB : ∀ i, i < n → blk (σ 4 i)) : XI l yX5_reaches wsX5_reaches ({ frames := 8, cells := 1, slots := 6, locals := 131 }) D (ty2 cI cZ) (wX cI cZ a) [.ref (a 0), .int t, .int b] σ sz (fun r u => cdRea n t b = 0 ∧ (∀ s9, s9 < 8 ∨ 12 < s9 → u s9 = σ s9) ∧ reaR (fun j => (sq σ n nb j).1 t.toNatClampNeg = b) r) (x1 (cdRea n t b)) := by
  refine XI.of (cc := cX5_reaches) (maxL := 4) (by decide) rfl (Nat.le_of_ble_eq_true rfl) ?_
  intro p e s m args below meth c A H locs ls hx hb hr hml hown hts hlocks hexc hEV hZ hA hS hP hK hD hl
  have hl : lv_has ls 4 [(0, .ref (a 0)), (1, .int t), (2, .int b)] := hl
  refine lv_aload_n hx hb dX5_reaches_0 rfl (lv_at hl 0 rfl) ?_
  refine lv_iload_n hx hb dX5_reaches_1 rfl (lv_at hl 1 rfl) ?_
  by_cases g_2 : tr n t
  · skip
    refine MV.callV (As := [.int t]) (rest := []) ⟨hx, hb, hml, hown, hts⟩ (c_X5_needTrain_ok l D cI cZ a H.size σ t n hn hn4 g_2) (cwV 1 hts gX5_reaches_X5_needTrain rfl rfl rfl (by decide +kernel) ⟨Nat.le_of_ble_eq_true rfl, Nat.le_of_ble_eq_true rfl⟩) hP hK hD hS hA (va_recv hK hP (ci := 5) (q0 := 0) rfl rfl) rfl hl.1 (Nat.le_of_ble_eq_true rfl) (Nat.zero_le _) (Nat.zero_le _) dX5_reaches_2 rfl (fun u_2 H locs h_2 hP hD hS => ?_)
    have e_2 := h_2
    have e_2 := Eq.symm e_2
    subst e_2
    refine lv_iload_n hx hb dX5_reaches_5 rfl (lv_at hl 2 rfl) ?_
    by_cases g_6 : inR b 0 7
    · skip
      refine MV.callS (As := [.int b]) (rest := []) ⟨hx, hb, hml, hown, hts⟩ (c_X5_needBlock_ok l D cI cZ a H.size σ b g_6) (va_cwS 1 hts gX5_reaches_X5_needBlock rfl rfl rfl (by decide +kernel) ⟨Nat.le_of_ble_eq_true rfl, Nat.le_of_ble_eq_true rfl⟩) hP hK hD hS hA rfl hl.1 (Nat.le_of_ble_eq_true rfl) (Nat.zero_le _) (Nat.zero_le _) dX5_reaches_6 rfl (fun u_6 H locs h_6 hP hD hS => ?_)
      have e_6 := h_6
      have e_6 := Eq.symm e_6
      subst e_6
      obtain ⟨kt, hkt, rfl⟩ := id g_2
      refine lv_aload_n hx hb dX5_reaches_9 rfl (lv_at hl 0 rfl) ?_
      refine va_get (D := D) (ci := 5) (v := .ref (a 3)) (C := RX5) (T := TX5) (N := 8) hx hb hts in_X5_reaches_X5 hown hK hP 0 rfl rfl 1 (by decide) (hts (.fieldLink RX5 19 "Warpyard" "trains" "LWarpyard$Trains;") (by decide +kernel)) (fun _ h9 => h9) rfl dX5_reaches_10 ?_
      refine va_get (D := D) (ci := 3) (v := .ref (a 4)) (C := RX3) (T := TX3) (N := 5) hx hb hts in_X5_reaches_X3 hown hK hP 3 rfl rfl 0 (by decide) (hts (.fieldLink RX5 103 "Warpyard$Trains" "block" "[I") (by decide +kernel)) (fun _ h9 => h9) rfl dX5_reaches_13 ?_
      refine lv_iload_n hx hb dX5_reaches_16 rfl (lv_at hl 1 rfl) ?_
      refine na_iald hx hb hK hP 4 0 (f := (σ 4)) rfl rfl kt (by omega) (by decide) rfl dX5_reaches_17 ?_
      refine lv_iload_n hx hb dX5_reaches_18 rfl (lv_at hl 2 rfl) ?_
      refine lv_icmp_ne (tgt := 24) hx hb dX5_reaches_19 (by decide) (fun c_19 => ?_) (fun c_19 => ?_)
      · skip
        refine lv_aload_n hx hb dX5_reaches_24 rfl (lv_at hl 0 rfl) ?_
        refine va_get (D := D) (ci := 5) (v := .ref (a 8)) (C := RX5) (T := TX5) (N := 8) hx hb hts in_X5_reaches_X5 hown hK hP 0 rfl rfl 2 (by decide) (hts (.fieldLink RX5 23 "Warpyard" "trial" "LWarpyard$Trains;") (by decide +kernel)) (fun _ h9 => h9) rfl dX5_reaches_25 ?_
        refine lv_aload_n hx hb dX5_reaches_28 rfl (lv_at hl 0 rfl) ?_
        refine va_get (D := D) (ci := 5) (v := .ref (a 3)) (C := RX5) (T := TX5) (N := 8) hx hb hts in_X5_reaches_X5 hown hK hP 0 rfl rfl 1 (by decide) (hts (.fieldLink RX5 19 "Warpyard" "trains" "LWarpyard$Trains;") (by decide +kernel)) (fun _ h9 => h9) rfl dX5_reaches_29 ?_
        refine MV.callV (As := [.ref (a 3)]) (rest := []) ⟨hx, hb, hml, hown, hts⟩ (c_X3_copyFrom l D cI cZ a H.size σ n hn hn4 hR hH) (cwV 1 hts gX5_reaches_X3_copyFrom rfl rfl rfl (by decide +kernel) ⟨Nat.le_of_ble_eq_true rfl, Nat.le_of_ble_eq_true rfl⟩) hP hK hD hS hA (va_recv hK hP (ci := 3) (q0 := 8) rfl rfl) rfl hl.1 (Nat.le_of_ble_eq_true rfl) (Nat.zero_le _) (Nat.zero_le _) dX5_reaches_32 rfl (fun u_32 H locs h_32 hP hD hS => ?_)
        have e_32 := h_32
        have e_32 := Eq.symm e_32
        subst e_32
        have hP : va_P D vwCl (wX cI cZ a (va_up (va_up (va_up (va_up (va_up σ 8 (fun _ => nI n)) 9 (cpn (σ 4) (σ 9) n)) 10 (cpn (σ 5) (σ 10) n)) 11 (cpn (σ 6) (σ 11) n)) 12 (cpn (σ 7) (σ 12) n))) H := hP
        have hD : va_D A (wX cI cZ a (va_up (va_up (va_up (va_up (va_up σ 8 (fun _ => nI n)) 9 (cpn (σ 4) (σ 9) n)) 10 (cpn (σ 5) (σ 10) n)) 11 (cpn (σ 6) (σ 11) n)) 12 (cpn (σ 7) (σ 12) n))) := hD
        refine lv_iconst (v := 1) hx hb dX5_reaches_35 (by decide) ?_
        refine lv_istore_n (lv' := [(3, .int 1), (0, .ref (a 0)), (1, .int (nI kt)), (2, .int b)]) hx hb dX5_reaches_36 rfl hl (by decide) rfl (fun ls hl => ?_)
        have loop_37 : ∀ (f : Nat) (k : Nat) (w : T3) (H : Heap) (locs : List Loc) (ls : Array Slot), 100 < k + f → k ≤ 100 → ag n w (sq σ n nb k) → (∀ i, i < k + 1 → ¬ (sq σ n nb i).1 kt = b) → va_P D vwCl (wX cI cZ a (va_up (va_up (va_up (va_up (va_up σ 8 (fun _ => nI n)) 9 w.1) 10 w.2.1) 11 (cpn (σ 6) (σ 11) n)) 12 w.2.2)) H → va_D A (wX cI cZ a (va_up (va_up (va_up (va_up (va_up σ 8 (fun _ => nI n)) 9 w.1) 10 w.2.1) 11 (cpn (σ 6) (σ 11) n)) 12 w.2.2)) → va_S A s.heap H locs → lv_has ls 4 [(0, .ref (a 0)), (1, .int (nI kt)), (2, .int b), (3, .int (nI (k + 1)))] → W p l e { frames := 8, cells := 1, slots := 6, locals := 131 } s m args below meth c H locs 0 0 (vx_MQ below (va_Qi (fun r u => cdRea n (nI kt) b = 0 ∧ (∀ s9, s9 < 8 ∨ 12 < s9 → u s9 = σ s9) ∧ reaR (fun j => (sq σ n nb j).1 (nI kt).toNatClampNeg = b) r) (PO D (ty2 cI cZ) (wX cI cZ a) A) A) (XX D (ty2 cI cZ) (wX cI cZ a) σ A (x1 (cdRea n (nI kt) b))) args s 1 6 A) (F0 m 37 ls []) := by
          intro f
          induction f with
          | zero => intro k w H locs ls hf hk hag hno; exact absurd hf (by omega)
          | succ f ih =>
            intro k w H locs ls hf hk hag hno hP hD hS hl
            refine lv_iload_n hx hb dX5_reaches_37 rfl (lv_at hl 3 rfl) ?_
            refine lv_bipush (v := 100) hx hb dX5_reaches_38 (by decide) ?_
            refine lv_icmp_gt (tgt := 88) hx hb dX5_reaches_40 (by decide) (fun c_40 => ?_) (fun c_40 => ?_)
            · skip
              rw [show (100 : Int32) = nI 100 from rfl, nI_ltI (by omega) (by omega)] at c_40
              refine lv_iconst (v := (-1)) hx hb dX5_reaches_88 (by decide) ?_
              exact XI.ret hx hb hr hlocks hK hP hD hS dX5_reaches_89 (by rw [nI_clamp (show kt < 2 ^ 31 by omega)]; exact ⟨cif_t ⟨g_2, g_6⟩, fun s9 hs9 => by rw [va_up_ne _ _ (by omega), va_up_ne _ _ (by omega), va_up_ne _ _ (by omega), va_up_ne _ _ (by omega), va_up_ne _ _ (by omega)], Or.inr ⟨rfl, fun j hj => hno j (by omega)⟩⟩)
            · skip
              rw [show (100 : Int32) = nI 100 from rfl, nI_ltI (by omega) (by omega)] at c_40
              refine lv_aload_n hx hb dX5_reaches_43 rfl (lv_at hl 0 rfl) ?_
              refine va_get (D := D) (ci := 5) (v := .ref (a 8)) (C := RX5) (T := TX5) (N := 8) hx hb hts in_X5_reaches_X5 hown hK hP 0 rfl rfl 2 (by decide) (hts (.fieldLink RX5 23 "Warpyard" "trial" "LWarpyard$Trains;") (by decide +kernel)) (fun _ h9 => h9) rfl dX5_reaches_44 ?_
              refine lv_aload_n hx hb dX5_reaches_47 rfl (lv_at hl 0 rfl) ?_
              refine va_get (D := D) (ci := 5) (v := .ref (a 1)) (C := RX5) (T := TX5) (N := 8) hx hb hts in_X5_reaches_X5 hown hK hP 0 rfl rfl 0 (by decide) (hts (.fieldLink RX5 10 "Warpyard" "tracks" "LWarpyard$Tracks;") (by decide +kernel)) (fun _ h9 => h9) rfl dX5_reaches_48 ?_
              refine lv_aload_n hx hb dX5_reaches_51 rfl (lv_at hl 0 rfl) ?_
              refine va_get (D := D) (ci := 5) (v := .ref (a 13)) (C := RX5) (T := TX5) (N := 8) hx hb hts in_X5_reaches_X5 hown hK hP 0 rfl rfl 3 (by decide) (hts (.fieldLink RX5 29 "Warpyard" "bookings" "LWarpyard$Bookings;") (by decide +kernel)) (fun _ h9 => h9) rfl dX5_reaches_52 ?_
              refine lv_aload_n hx hb dX5_reaches_55 rfl (lv_at hl 0 rfl) ?_
              refine va_get (D := D) (ci := 5) (v := .int (σ 0 0)) (C := RX5) (T := TX5) (N := 8) hx hb hts in_X5_reaches_X5 hown hK hP 0 rfl rfl 6 (by decide) (hts (.fieldLink RX5 109 "Warpyard" "now" "I") (by decide +kernel)) (fun _ h9 => h9) rfl dX5_reaches_56 ?_
              refine lv_iload_n hx hb dX5_reaches_59 rfl (lv_at hl 3 rfl) ?_
              refine lv_iadd hx hb dX5_reaches_60 ?_
              refine lv_iconst (v := 1) hx hb dX5_reaches_61 (by decide) ?_
              refine lv_isub hx hb dX5_reaches_62 ?_
              refine lv_topi (fun v_63 e_63 => ?_)
              obtain rfl : v_63 = σ 0 0 + nI k := by rw [e_63]; exact mi_e _ k
              have hP : va_P D vwCl (wX cI cZ a (va_up (va_up (va_up (va_up (va_up σ 8 (fun _ => nI n)) 11 (cpn (σ 6) (σ 11) n)) 9 w.1) 10 w.2.1) 12 w.2.2)) H := hP
              have hD : va_D A (wX cI cZ a (va_up (va_up (va_up (va_up (va_up σ 8 (fun _ => nI n)) 11 (cpn (σ 6) (σ 11) n)) 9 w.1) 10 w.2.1) 12 w.2.2)) := hD
              refine MI.callV (As := [.ref (a 1), .ref (a 13), .int (σ 0 0 + nI k)]) (rest := []) ⟨hx, hb, hml, hown, hts⟩ (c_X3_runMinute_t l D cI cZ a H.size (va_up (va_up σ 8 (fun _ => nI n)) 11 (cpn (σ 6) (σ 11) n)) n nb (σ 0 0 + nI k) w rfl hn4 hnb hnb30 (fun i hi => by rw [(hag i hi).1]; exact sq_blk hB k i hi)) (cwV 3 hts gX5_reaches_X3_runMinute rfl rfl rfl (by decide +kernel) ⟨Nat.le_of_ble_eq_true rfl, Nat.le_of_ble_eq_true rfl⟩) hP hK hD hS hA (va_recv hK hP (ci := 3) (q0 := 8) rfl rfl) rfl hl.1 (Nat.le_of_ble_eq_true rfl) (Nat.zero_le _) (Nat.zero_le _) dX5_reaches_63 rfl (fun r_63 u_63 H locs h_63 hP hD hS => ?_)
              obtain ⟨e_63, h_63⟩ := h_63
              have e_63 := Eq.symm e_63
              subst e_63
              have hP : va_P D vwCl (wX cI cZ a (va_up (va_up (va_up (va_up (va_up σ 8 (fun _ => nI n)) 9 ((mvs (σ 2) (σ 14) (σ 15) (σ 16) (σ 17) (cpn (σ 6) (σ 11) n) n nb (σ 0 0 + nI k) w n).1.1)) 10 ((mvs (σ 2) (σ 14) (σ 15) (σ 16) (σ 17) (cpn (σ 6) (σ 11) n) n nb (σ 0 0 + nI k) w n).1.2.1)) 11 (cpn (σ 6) (σ 11) n)) 12 ((mvs (σ 2) (σ 14) (σ 15) (σ 16) (σ 17) (cpn (σ 6) (σ 11) n) n nb (σ 0 0 + nI k) w n).1.2.2))) H := hP
              have hD : va_D A (wX cI cZ a (va_up (va_up (va_up (va_up (va_up σ 8 (fun _ => nI n)) 9 ((mvs (σ 2) (σ 14) (σ 15) (σ 16) (σ 17) (cpn (σ 6) (σ 11) n) n nb (σ 0 0 + nI k) w n).1.1)) 10 ((mvs (σ 2) (σ 14) (σ 15) (σ 16) (σ 17) (cpn (σ 6) (σ 11) n) n nb (σ 0 0 + nI k) w n).1.2.1)) 11 (cpn (σ 6) (σ 11) n)) 12 ((mvs (σ 2) (σ 14) (σ 15) (σ 16) (σ 17) (cpn (σ 6) (σ 11) n) n nb (σ 0 0 + nI k) w n).1.2.2))) := hD
              have h_63 : r_63 = (mvs (σ 2) (σ 14) (σ 15) (σ 16) (σ 17) (cpn (σ 6) (σ 11) n) n nb (σ 0 0 + nI k) w n).2 := h_63
              refine lv_pop hx hb dX5_reaches_66 rfl ?_
              refine lv_aload_n hx hb dX5_reaches_67 rfl (lv_at hl 0 rfl) ?_
              refine va_get (D := D) (ci := 5) (v := .ref (a 8)) (C := RX5) (T := TX5) (N := 8) hx hb hts in_X5_reaches_X5 hown hK hP 0 rfl rfl 2 (by decide) (hts (.fieldLink RX5 23 "Warpyard" "trial" "LWarpyard$Trains;") (by decide +kernel)) (fun _ h9 => h9) rfl dX5_reaches_68 ?_
              refine va_get (D := D) (ci := 3) (v := .ref (a 9)) (C := RX3) (T := TX3) (N := 5) hx hb hts in_X5_reaches_X3 hown hK hP 8 rfl rfl 0 (by decide) (hts (.fieldLink RX5 103 "Warpyard$Trains" "block" "[I") (by decide +kernel)) (fun _ h9 => h9) rfl dX5_reaches_71 ?_
              refine lv_iload_n hx hb dX5_reaches_74 rfl (lv_at hl 1 rfl) ?_
              refine na_iald hx hb hK hP 9 0 (f := ((mvs (σ 2) (σ 14) (σ 15) (σ 16) (σ 17) (cpn (σ 6) (σ 11) n) n nb (σ 0 0 + nI k) w n).1.1)) rfl rfl kt (by omega) (by decide) rfl dX5_reaches_75 ?_
              have hag2 : ag n (mvs (σ 2) (σ 14) (σ 15) (σ 16) (σ 17) (cpn (σ 6) (σ 11) n) n nb (σ 0 0 + nI k) w n).1 (sq σ n nb (k + 1)) := (mvs_ag hag (fun i hi => cpn_in hi) (Nat.le_refl n)).1
              refine lv_iload_n hx hb dX5_reaches_76 rfl (lv_at hl 2 rfl) ?_
              refine lv_icmp_ne (tgt := 82) hx hb dX5_reaches_77 (by decide) (fun c_77 => ?_) (fun c_77 => ?_)
              · skip
                refine lv_iinc (v := nI (k + 1 + 1)) (lv' := [(3, .int (nI (k + 1 + 1))), (0, .ref (a 0)), (1, .int (nI kt)), (2, .int b)]) hx hb dX5_reaches_82 hl (k := 3) rfl (by exact nI_1 (k + 1)) (by decide) rfl (fun ls hl => ?_)
                refine lv_goto (tgt := 37) hx hb dX5_reaches_85 (by decide) ?_
                exact ih (k + 1) ((mvs (σ 2) (σ 14) (σ 15) (σ 16) (σ 17) (cpn (σ 6) (σ 11) n) n nb (σ 0 0 + nI k) w n).1) _ _ ls (by omega) (by omega) (by exact hag2) (by exact lt_s hno (fun h => c_77 ((hag2 kt hkt).1.trans h))) hP hD hS (lv_sub hl [1, 2, 3, 0] rfl)
              · skip
                refine lv_iload_n hx hb dX5_reaches_80 rfl (lv_at hl 3 rfl) ?_
                exact XI.ret hx hb hr hlocks hK hP hD hS dX5_reaches_81 (by rw [nI_clamp (show kt < 2 ^ 31 by omega)]; exact ⟨cif_t ⟨g_2, g_6⟩, fun s9 hs9 => by rw [va_up_ne _ _ (by omega), va_up_ne _ _ (by omega), va_up_ne _ _ (by omega), va_up_ne _ _ (by omega), va_up_ne _ _ (by omega)], Or.inl ⟨k + 1, by omega, (hag2 kt hkt).1.symm.trans c_77, hno, rfl⟩⟩)
        exact loop_37 101 0 (cpn (σ 4) (σ 9) n, cpn (σ 5) (σ 10) n, cpn (σ 7) (σ 12) n) _ _ ls (by omega) (by omega) (by exact fun i hi => ⟨cpn_in hi, cpn_in hi, cpn_in hi⟩) (by intro i hi; have e9 : i = 0 := (by omega); subst e9; exact c_19) hP hD hS (lv_sub hl [1, 2, 3, 0] rfl)
      · skip
        refine lv_iconst (v := 0) hx hb dX5_reaches_22 (by decide) ?_
        exact XI.ret hx hb hr hlocks hK hP hD hS dX5_reaches_23 (by rw [nI_clamp (show kt < 2 ^ 31 by omega)]; exact ⟨cif_t ⟨g_2, g_6⟩, fun _ _ => rfl, Or.inl ⟨0, by omega, c_19, fun i hi => absurd hi (Nat.not_lt_zero i), rfl⟩⟩)
    · skip
      exact XV.outS (As := [.int b]) (rest := []) ⟨hx, hb, hml, hown, hts⟩ (c_X5_needBlock_bad l D cI cZ a H.size σ hfl b g_6) (va_cwS 1 hts gX5_reaches_X5_needBlock rfl rfl rfl (by decide +kernel) ⟨Nat.le_of_ble_eq_true rfl, Nat.le_of_ble_eq_true rfl⟩) hP hK hD hS hA hEV hZ rfl hl.1 (Nat.le_of_ble_eq_true rfl) (Nat.le_of_ble_eq_true rfl) (Nat.le_of_ble_eq_true rfl) dX5_reaches_6 rfl hlocks hexc (fun E hE => ⟨hE, cif_f (fun h => g_6 h.2)⟩)
  · skip
    exact XV.outV (As := [.int t]) (rest := []) ⟨hx, hb, hml, hown, hts⟩ (c_X5_needTrain_bad l D cI cZ a H.size σ hfl t n hn hn4 g_2) (cwV 1 hts gX5_reaches_X5_needTrain rfl rfl rfl (by decide +kernel) ⟨Nat.le_of_ble_eq_true rfl, Nat.le_of_ble_eq_true rfl⟩) hP hK hD hS hA hEV hZ (va_recv hK hP (ci := 5) (q0 := 0) rfl rfl) rfl hl.1 (Nat.le_of_ble_eq_true rfl) (Nat.le_of_ble_eq_true rfl) (Nat.le_of_ble_eq_true rfl) dX5_reaches_2 rfl hlocks hexc (fun E hE => ⟨hE, cif_f (fun h => g_2 h.1)⟩)
