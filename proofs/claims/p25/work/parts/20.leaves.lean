set_option maxRecDepth 20000 in
theorem in_X0_meetsAnother_X0 : ∀ w ∈ wsX00, w ∈ wsX0_meetsAnother := by decide +kernel
set_option maxHeartbeats 4000000 in
set_option maxRecDepth 100000 in
/-- Bookings.meetsAnother -/
theorem c_X0_meetsAnother (l : Launch) (D : va_G) (cI cZ : ClassId) (a : Nat → Nat) (sz : Nat) (σ : St) (t b fr to : Int32) (nb : Nat) (hnb : σ 13 0 = nI nb) (hnb30 : nb ≤ 30) : MI l yX0_meetsAnother wsX0_meetsAnother ({ frames := 0, cells := 0, slots := 0, locals := 0 }) D (ty2 cI cZ) (wX cI cZ a) [.ref (a 13), .int t, .int b, .int fr, .int to] σ sz (fun r u => u = σ ∧ bo r (mts (σ 14) (σ 15) (σ 16) (σ 17) nb t b fr to)) := by
  refine MI.of (cc := cX0_meetsAnother) (maxL := 6) (by decide) rfl (Nat.le_of_ble_eq_true rfl) ?_
  intro p e s m args below meth c A H locs ls hx hb hr hml hown hts hlocks hA hS hP hK hD hl
  have hl : lv_has ls 6 [(0, .ref (a 13)), (1, .int t), (2, .int b), (3, .int fr), (4, .int to)] := hl
  refine lv_iconst (v := 0) hx hb dX0_meetsAnother_0 (by decide) ?_
  refine lv_istore (lv' := [(5, .int 0), (0, .ref (a 13)), (1, .int t), (2, .int b), (3, .int fr), (4, .int to)]) hx hb dX0_meetsAnother_1 hl (by decide) rfl (fun ls hl => ?_)
  have loop_3 : ∀ (f : Nat) (k : Nat) (H : Heap) (locs : List Loc) (ls : Array Slot), nb < k + f → k ≤ nb → (∀ i, i < k → ¬ (σ 15 i = b ∧ ¬ σ 14 i = t ∧ ¬ to < σ 16 i ∧ ¬ σ 17 i < fr)) → va_P D vwCl (wX cI cZ a σ) H → va_D A (wX cI cZ a σ) → va_S A s.heap H locs → lv_has ls 6 [(0, .ref (a 13)), (1, .int t), (2, .int b), (3, .int fr), (4, .int to), (5, .int (nI k))] → W p l e { frames := 0, cells := 0, slots := 0, locals := 0 } s m args below meth c H locs 0 0 (MQ below (va_Qi (fun r u => u = σ ∧ bo r (mts (σ 14) (σ 15) (σ 16) (σ 17) nb t b fr to)) (PO D (ty2 cI cZ) (wX cI cZ a) A) A) args s 0 0 A) (F0 m 3 ls []) := by
    intro f
    induction f with
    | zero => intro k H locs ls hf hk hno; exact absurd hf (by omega)
    | succ f ih =>
      intro k H locs ls hf hk hno hP hD hS hl
      refine lv_iload hx hb dX0_meetsAnother_3 (lv_at hl 5 rfl) ?_
      refine lv_aload_n hx hb dX0_meetsAnother_5 rfl (lv_at hl 0 rfl) ?_
      refine va_get (D := D) (ci := 0) (v := .int (σ 13 0)) (C := RX0) (T := TX0) (N := 6) hx hb hts in_X0_meetsAnother_X0 hown hK hP 13 rfl rfl 5 (by decide) (hts (.fieldLink RX0 27 "Warpyard$Bookings" "count" "I") (by decide +kernel)) (fun _ h9 => h9) rfl dX0_meetsAnother_6 ?_
      refine lv_topi (fun v_9 e_9 => ?_)
      obtain rfl : v_9 = nI nb := by rw [e_9]; exact hnb
      refine lv_icmp_ge (tgt := 65) hx hb dX0_meetsAnother_9 (by decide) (fun c_9 => ?_) (fun c_9 => ?_)
      · skip
        rw [nI_leI (by omega) (by omega)] at c_9
        refine lv_iconst (v := 0) hx hb dX0_meetsAnother_65 (by decide) ?_
        exact MI.zret hx hb hr hlocks hK hP hD hS dX0_meetsAnother_66 rfl (by exact ⟨rfl, Or.inr ⟨rfl, fun ⟨i, hi, h⟩ => hno i (by omega) h⟩⟩)
      · skip
        rw [nI_leI (by omega) (by omega)] at c_9
        refine lv_aload_n hx hb dX0_meetsAnother_12 rfl (lv_at hl 0 rfl) ?_
        refine va_get (D := D) (ci := 0) (v := .ref (a 15)) (C := RX0) (T := TX0) (N := 6) hx hb hts in_X0_meetsAnother_X0 hown hK hP 13 rfl rfl 1 (by decide) (hts (.fieldLink RX0 15 "Warpyard$Bookings" "block" "[I") (by decide +kernel)) (fun _ h9 => h9) rfl dX0_meetsAnother_13 ?_
        refine lv_iload hx hb dX0_meetsAnother_16 (lv_at hl 5 rfl) ?_
        refine na_iald hx hb hK hP 15 0 (f := (σ 15)) rfl rfl k (by omega) (by decide) rfl dX0_meetsAnother_18 ?_
        refine lv_iload_n hx hb dX0_meetsAnother_19 rfl (lv_at hl 2 rfl) ?_
        refine lv_icmp_ne (tgt := 59) hx hb dX0_meetsAnother_20 (by decide) (fun c_20 => ?_) (fun c_20 => ?_)
        · skip
          refine lv_iinc (v := nI (k + 1)) (lv' := [(5, .int (nI (k + 1))), (0, .ref (a 13)), (1, .int t), (2, .int b), (3, .int fr), (4, .int to)]) hx hb dX0_meetsAnother_59 hl (k := 5) rfl (by exact nI_1 k) (by decide) rfl (fun ls hl => ?_)
          refine lv_goto (tgt := 3) hx hb dX0_meetsAnother_62 (by decide) ?_
          exact ih (k + 1) _ _ ls (by omega) (by omega) (by exact lt_s hno (fun h => c_20 h.1)) hP hD hS (lv_sub hl [1, 2, 3, 4, 5, 0] rfl)
        · skip
          refine lv_aload_n hx hb dX0_meetsAnother_23 rfl (lv_at hl 0 rfl) ?_
          refine va_get (D := D) (ci := 0) (v := .ref (a 14)) (C := RX0) (T := TX0) (N := 6) hx hb hts in_X0_meetsAnother_X0 hown hK hP 13 rfl rfl 0 (by decide) (hts (.fieldLink RX0 9 "Warpyard$Bookings" "train" "[I") (by decide +kernel)) (fun _ h9 => h9) rfl dX0_meetsAnother_24 ?_
          refine lv_iload hx hb dX0_meetsAnother_27 (lv_at hl 5 rfl) ?_
          refine na_iald hx hb hK hP 14 0 (f := (σ 14)) rfl rfl k (by omega) (by decide) rfl dX0_meetsAnother_29 ?_
          refine lv_iload_n hx hb dX0_meetsAnother_30 rfl (lv_at hl 1 rfl) ?_
          refine lv_icmp_eq (tgt := 59) hx hb dX0_meetsAnother_31 (by decide) (fun c_31 => ?_) (fun c_31 => ?_)
          · skip
            refine lv_iinc (v := nI (k + 1)) (lv' := [(5, .int (nI (k + 1))), (0, .ref (a 13)), (1, .int t), (2, .int b), (3, .int fr), (4, .int to)]) hx hb dX0_meetsAnother_59 hl (k := 5) rfl (by exact nI_1 k) (by decide) rfl (fun ls hl => ?_)
            refine lv_goto (tgt := 3) hx hb dX0_meetsAnother_62 (by decide) ?_
            exact ih (k + 1) _ _ ls (by omega) (by omega) (by exact lt_s hno (fun h => h.2.1 c_31)) hP hD hS (lv_sub hl [1, 2, 3, 4, 5, 0] rfl)
          · skip
            refine lv_aload_n hx hb dX0_meetsAnother_34 rfl (lv_at hl 0 rfl) ?_
            refine va_get (D := D) (ci := 0) (v := .ref (a 16)) (C := RX0) (T := TX0) (N := 6) hx hb hts in_X0_meetsAnother_X0 hown hK hP 13 rfl rfl 2 (by decide) (hts (.fieldLink RX0 18 "Warpyard$Bookings" "first" "[I") (by decide +kernel)) (fun _ h9 => h9) rfl dX0_meetsAnother_35 ?_
            refine lv_iload hx hb dX0_meetsAnother_38 (lv_at hl 5 rfl) ?_
            refine na_iald hx hb hK hP 16 0 (f := (σ 16)) rfl rfl k (by omega) (by decide) rfl dX0_meetsAnother_40 ?_
            refine lv_iload hx hb dX0_meetsAnother_41 (lv_at hl 4 rfl) ?_
            refine lv_icmp_gt (tgt := 59) hx hb dX0_meetsAnother_43 (by decide) (fun c_43 => ?_) (fun c_43 => ?_)
            · skip
              refine lv_iinc (v := nI (k + 1)) (lv' := [(5, .int (nI (k + 1))), (0, .ref (a 13)), (1, .int t), (2, .int b), (3, .int fr), (4, .int to)]) hx hb dX0_meetsAnother_59 hl (k := 5) rfl (by exact nI_1 k) (by decide) rfl (fun ls hl => ?_)
              refine lv_goto (tgt := 3) hx hb dX0_meetsAnother_62 (by decide) ?_
              exact ih (k + 1) _ _ ls (by omega) (by omega) (by exact lt_s hno (fun h => h.2.2.1 c_43)) hP hD hS (lv_sub hl [1, 2, 3, 4, 5, 0] rfl)
            · skip
              refine lv_iload_n hx hb dX0_meetsAnother_46 rfl (lv_at hl 3 rfl) ?_
              refine lv_aload_n hx hb dX0_meetsAnother_47 rfl (lv_at hl 0 rfl) ?_
              refine va_get (D := D) (ci := 0) (v := .ref (a 17)) (C := RX0) (T := TX0) (N := 6) hx hb hts in_X0_meetsAnother_X0 hown hK hP 13 rfl rfl 3 (by decide) (hts (.fieldLink RX0 21 "Warpyard$Bookings" "last" "[I") (by decide +kernel)) (fun _ h9 => h9) rfl dX0_meetsAnother_48 ?_
              refine lv_iload hx hb dX0_meetsAnother_51 (lv_at hl 5 rfl) ?_
              refine na_iald hx hb hK hP 17 0 (f := (σ 17)) rfl rfl k (by omega) (by decide) rfl dX0_meetsAnother_53 ?_
              refine lv_icmp_gt (tgt := 59) hx hb dX0_meetsAnother_54 (by decide) (fun c_54 => ?_) (fun c_54 => ?_)
              · skip
                refine lv_iinc (v := nI (k + 1)) (lv' := [(5, .int (nI (k + 1))), (0, .ref (a 13)), (1, .int t), (2, .int b), (3, .int fr), (4, .int to)]) hx hb dX0_meetsAnother_59 hl (k := 5) rfl (by exact nI_1 k) (by decide) rfl (fun ls hl => ?_)
                refine lv_goto (tgt := 3) hx hb dX0_meetsAnother_62 (by decide) ?_
                exact ih (k + 1) _ _ ls (by omega) (by omega) (by exact lt_s hno (fun h => h.2.2.2 c_54)) hP hD hS (lv_sub hl [1, 2, 3, 4, 5, 0] rfl)
              · skip
                refine lv_iconst (v := 1) hx hb dX0_meetsAnother_57 (by decide) ?_
                exact MI.zret hx hb hr hlocks hK hP hD hS dX0_meetsAnother_58 rfl (by exact ⟨rfl, Or.inl ⟨rfl, k, by omega, c_20, c_31, c_43, c_54⟩⟩)
  exact loop_3 (nb + 1) 0 _ _ ls (by omega) (by omega) (by intro i hi; omega) hP hD hS (lv_sub hl [1, 2, 3, 4, 5, 0] rfl)
set_option maxRecDepth 20000 in
theorem in_X3_standingOn_X3 : ∀ w ∈ wsX30, w ∈ wsX3_standingOn := by decide +kernel
set_option maxHeartbeats 4000000 in
set_option maxRecDepth 100000 in
/-- Trains.standingOn: the train on a block -/
theorem c_X3_standingOn (l : Launch) (D : va_G) (cI cZ : ClassId) (a : Nat → Nat) (sz : Nat) (σ : St) (w : Int32) (n : Nat) (hn : σ 3 0 = nI n) (hn4 : n ≤ 4) : MI l yX3_standingOn wsX3_standingOn ({ frames := 0, cells := 0, slots := 0, locals := 0 }) D (ty2 cI cZ) (wX cI cZ a) [.ref (a 3), .int w] σ sz (fun r u => u = σ ∧ r = so (σ 4) w n) := by
  refine MI.of (cc := cX3_standingOn) (maxL := 3) (by decide) rfl (Nat.le_of_ble_eq_true rfl) ?_
  intro p e s m args below meth c A H locs ls hx hb hr hml hown hts hlocks hA hS hP hK hD hl
  have hl : lv_has ls 3 [(0, .ref (a 3)), (1, .int w)] := hl
  refine lv_iconst (v := 0) hx hb dX3_standingOn_0 (by decide) ?_
  refine lv_istore_n (lv' := [(2, .int 0), (0, .ref (a 3)), (1, .int w)]) hx hb dX3_standingOn_1 rfl hl (by decide) rfl (fun ls hl => ?_)
  have loop_2 : ∀ (f : Nat) (k : Nat) (H : Heap) (locs : List Loc) (ls : Array Slot), n < k + f → k ≤ n → (∀ i, i < k → ¬ σ 4 i = w) → va_P D vwCl (wX cI cZ a σ) H → va_D A (wX cI cZ a σ) → va_S A s.heap H locs → lv_has ls 3 [(0, .ref (a 3)), (1, .int w), (2, .int (nI k))] → W p l e { frames := 0, cells := 0, slots := 0, locals := 0 } s m args below meth c H locs 0 0 (MQ below (va_Qi (fun r u => u = σ ∧ r = so (σ 4) w n) (PO D (ty2 cI cZ) (wX cI cZ a) A) A) args s 0 0 A) (F0 m 2 ls []) := by
    intro f
    induction f with
    | zero => intro k H locs ls hf hk hno; exact absurd hf (by omega)
    | succ f ih =>
      intro k H locs ls hf hk hno hP hD hS hl
      refine lv_iload_n hx hb dX3_standingOn_2 rfl (lv_at hl 2 rfl) ?_
      refine lv_aload_n hx hb dX3_standingOn_3 rfl (lv_at hl 0 rfl) ?_
      refine va_get (D := D) (ci := 3) (v := .int (σ 3 0)) (C := RX3) (T := TX3) (N := 5) hx hb hts in_X3_standingOn_X3 hown hK hP 3 rfl rfl 4 (by decide) (hts (.fieldLink RX3 25 "Warpyard$Trains" "count" "I") (by decide +kernel)) (fun _ h9 => h9) rfl dX3_standingOn_4 ?_
      refine lv_topi (fun v_7 e_7 => ?_)
      obtain rfl : v_7 = nI n := by rw [e_7]; exact hn
      refine lv_icmp_ge (tgt := 28) hx hb dX3_standingOn_7 (by decide) (fun c_7 => ?_) (fun c_7 => ?_)
      · skip
        rw [nI_leI (by omega) (by omega)] at c_7
        refine lv_iconst (v := (-1)) hx hb dX3_standingOn_28 (by decide) ?_
        exact MI.ret hx hb hr hlocks hK hP hD hS dX3_standingOn_29 (by exact ⟨rfl, (so_miss (fun i hi => hno i (by omega))).symm⟩)
      · skip
        rw [nI_leI (by omega) (by omega)] at c_7
        refine lv_aload_n hx hb dX3_standingOn_10 rfl (lv_at hl 0 rfl) ?_
        refine va_get (D := D) (ci := 3) (v := .ref (a 4)) (C := RX3) (T := TX3) (N := 5) hx hb hts in_X3_standingOn_X3 hown hK hP 3 rfl rfl 0 (by decide) (hts (.fieldLink RX3 9 "Warpyard$Trains" "block" "[I") (by decide +kernel)) (fun _ h9 => h9) rfl dX3_standingOn_11 ?_
        refine lv_iload_n hx hb dX3_standingOn_14 rfl (lv_at hl 2 rfl) ?_
        refine na_iald hx hb hK hP 4 0 (f := (σ 4)) rfl rfl k (by omega) (by decide) rfl dX3_standingOn_15 ?_
        refine lv_iload_n hx hb dX3_standingOn_16 rfl (lv_at hl 1 rfl) ?_
        refine lv_icmp_ne (tgt := 22) hx hb dX3_standingOn_17 (by decide) (fun c_17 => ?_) (fun c_17 => ?_)
        · skip
          refine lv_iinc (v := nI (k + 1)) (lv' := [(2, .int (nI (k + 1))), (0, .ref (a 3)), (1, .int w)]) hx hb dX3_standingOn_22 hl (k := 2) rfl (by exact nI_1 k) (by decide) rfl (fun ls hl => ?_)
          refine lv_goto (tgt := 2) hx hb dX3_standingOn_25 (by decide) ?_
          exact ih (k + 1) _ _ ls (by omega) (by omega) (by exact lt_s hno c_17) hP hD hS (lv_sub hl [1, 2, 0] rfl)
        · skip
          refine lv_iload_n hx hb dX3_standingOn_20 rfl (lv_at hl 2 rfl) ?_
          exact MI.ret hx hb hr hlocks hK hP hD hS dX3_standingOn_21 (by exact ⟨rfl, (so_hit c_17 hno (by omega) (by omega)).symm⟩)
  exact loop_2 (n + 1) 0 _ _ ls (by omega) (by omega) (by intro i hi; omega) hP hD hS (lv_sub hl [1, 2, 0] rfl)
set_option maxRecDepth 20000 in
theorem in_X3_add_X3 : ∀ w ∈ wsX30, w ∈ wsX3_add := by decide +kernel
set_option maxHeartbeats 4000000 in
set_option maxRecDepth 100000 in
/-- Trains.add -/
theorem c_X3_add (l : Launch) (D : va_G) (cI cZ : ClassId) (a : Nat → Nat) (sz : Nat) (σ : St) (b rt : Int32) (n : Nat) (hrt : rt = 0 ∨ rt = 1) (hn : σ 3 0 = nI n) (hn3 : n < 4) : MI l yX3_add wsX3_add ({ frames := 0, cells := 0, slots := 0, locals := 0 }) D (ty2 cI cZ) (wX cI cZ a) [.ref (a 3), .int b, .int rt] σ sz (fun r u => u = (va_up (va_up (va_up σ 3 (fun _ => nI (n + 1))) 4 (upd (σ 4) n b)) 5 (upd (σ 5) n rt)) ∧ r = nI n) := by
  refine MI.of (cc := cX3_add) (maxL := 4) (by decide) rfl (Nat.le_of_ble_eq_true rfl) ?_
  intro p e s m args below meth c A H locs ls hx hb hr hml hown hts hlocks hA hS hP hK hD hl
  have hl : lv_has ls 4 [(0, .ref (a 3)), (1, .int b), (2, .int rt)] := hl
  refine lv_aload_n hx hb dX3_add_0 rfl (lv_at hl 0 rfl) ?_
  refine va_get (D := D) (ci := 3) (v := .int (σ 3 0)) (C := RX3) (T := TX3) (N := 5) hx hb hts in_X3_add_X3 hown hK hP 3 rfl rfl 4 (by decide) (hts (.fieldLink RX3 25 "Warpyard$Trains" "count" "I") (by decide +kernel)) (fun _ h9 => h9) rfl dX3_add_1 ?_
  refine lv_topi (fun v_4 e_4 => ?_)
  obtain rfl : v_4 = nI n := by rw [e_4]; exact hn
  refine lv_istore_n (lv' := [(3, .int (nI n)), (0, .ref (a 3)), (1, .int b), (2, .int rt)]) hx hb dX3_add_4 rfl hl (by decide) rfl (fun ls hl => ?_)
  refine lv_aload_n hx hb dX3_add_5 rfl (lv_at hl 1 rfl) ?_
  refine va_get (D := D) (ci := 3) (v := .ref (a 4)) (C := RX3) (T := TX3) (N := 5) hx hb hts in_X3_add_X3 hown hK hP 3 rfl rfl 0 (by decide) (hts (.fieldLink RX3 9 "Warpyard$Trains" "block" "[I") (by decide +kernel)) (fun _ h9 => h9) rfl dX3_add_6 ?_
  refine lv_iload_n hx hb dX3_add_9 rfl (lv_at hl 0 rfl) ?_
  refine lv_iload_n hx hb dX3_add_10 rfl (lv_at hl 2 rfl) ?_
  refine na_iast hx hb hK hP hD hS 4 0 (f := (σ 4)) (x := b) rfl rfl n (by omega) (by decide) rfl dX3_add_11 (fun H locs hP hD hS => ?_)
  have hP : va_P D vwCl (wX cI cZ a (va_up σ 4 (upd (σ 4) n b))) H := hP
  have hD : va_D A (wX cI cZ a (va_up σ 4 (upd (σ 4) n b))) := hD
  refine lv_aload_n hx hb dX3_add_12 rfl (lv_at hl 1 rfl) ?_
  refine va_get (D := D) (ci := 3) (v := .ref (a 5)) (C := RX3) (T := TX3) (N := 5) hx hb hts in_X3_add_X3 hown hK hP 3 rfl rfl 1 (by decide) (hts (.fieldLink RX3 15 "Warpyard$Trains" "right" "[Z") (by decide +kernel)) (fun _ h9 => h9) rfl dX3_add_13 ?_
  refine lv_iload_n hx hb dX3_add_16 rfl (lv_at hl 0 rfl) ?_
  refine lv_iload_n hx hb dX3_add_17 rfl (lv_at hl 3 rfl) ?_
  refine na_zast hx hb hK hP hD hS 5 1 (f := (σ 5)) (x := rt) rfl rfl n (by omega) (by decide) rfl hrt dX3_add_18 (fun H locs hP hD hS => ?_)
  have hP : va_P D vwCl (wX cI cZ a (va_up (va_up σ 4 (upd (σ 4) n b)) 5 (upd (σ 5) n rt))) H := hP
  have hD : va_D A (wX cI cZ a (va_up (va_up σ 4 (upd (σ 4) n b)) 5 (upd (σ 5) n rt))) := hD
  refine lv_aload_n hx hb dX3_add_19 rfl (lv_at hl 1 rfl) ?_
  refine lv_dup hx hb dX3_add_20 rfl ?_
  refine va_get (D := D) (ci := 3) (v := .int (σ 3 0)) (C := RX3) (T := TX3) (N := 5) hx hb hts in_X3_add_X3 hown hK hP 3 rfl rfl 4 (by decide) (hts (.fieldLink RX3 25 "Warpyard$Trains" "count" "I") (by decide +kernel)) (fun _ h9 => h9) rfl dX3_add_21 ?_
  refine lv_topi (fun v_24 e_24 => ?_)
  obtain rfl : v_24 = nI n := by rw [e_24]; exact hn
  refine lv_iconst (v := 1) hx hb dX3_add_24 (by decide) ?_
  refine lv_iadd hx hb dX3_add_25 ?_
  refine lv_topi (fun v_26 e_26 => ?_)
  obtain rfl : v_26 = nI (n + 1) := by rw [e_26]; exact nI_1 n
  refine va_put (D := D) (ci := 3) (v := .int (nI (n + 1))) (ty := .int) (C := RX3) (T := TX3) (N := 5) hx hb hts in_X3_add_X3 tyX3 tyX3_ok nmX3 hown hK hP hD hS 3 rfl rfl 4 (by decide) (hts (.fieldLink RX3 25 "Warpyard$Trains" "count" "I") (by decide +kernel)) (fun _ h9 => h9) rfl (by decide +kernel) rfl rfl (Nat.le_of_ble_eq_true rfl) dX3_add_26 (fun H locs hP hD hS => ?_)
  have hP : va_P D vwCl (wX cI cZ a (va_up (va_up (va_up σ 3 (fun _ => nI (n + 1))) 4 (upd (σ 4) n b)) 5 (upd (σ 5) n rt))) H := hP
  have hD : va_D A (wX cI cZ a (va_up (va_up (va_up σ 3 (fun _ => nI (n + 1))) 4 (upd (σ 4) n b)) 5 (upd (σ 5) n rt))) := hD
  refine lv_iload_n hx hb dX3_add_29 rfl (lv_at hl 0 rfl) ?_
  exact MI.ret hx hb hr hlocks hK hP hD hS dX3_add_30 (by exact ⟨rfl, rfl⟩)
