set_option maxRecDepth 20000 in
theorem in_X6_many_X6 : ∀ w ∈ wsX60, w ∈ wsX6_many := by decide +kernel
set_option maxHeartbeats 4000000 in
set_option maxRecDepth 100000 in
/-- the reference: many -/
theorem c_X6_many (l : Launch) (D : va_G) (cI cZ : ClassId) (a : Nat → Nat) (sz : Nat) (σ : St) (w : Int32) (nw : Nat) (hnw : σ 19 0 = nI nw) (hnw8 : nw ≤ 8) : MI l yX6_many wsX6_many ({ frames := 0, cells := 0, slots := 0, locals := 0 }) D (ty2 cI cZ) (wM cI cZ a) [.ref (a 0), .int w] σ sz (fun r u => u = σ ∧ r = nI (mny (σ 32) w nw)) := by
  refine MI.of (cc := cX6_many) (maxL := 4) (by decide) rfl (Nat.le_of_ble_eq_true rfl) ?_
  intro p e s m args below meth c A H locs ls hx hb hr hml hown hts hlocks hA hS hP hK hD hl
  have hl : lv_has ls 4 [(0, .ref (a 0)), (1, .int w)] := hl
  refine lv_iconst (v := 0) hx hb dX6_many_0 (by decide) ?_
  refine lv_istore_n (lv' := [(2, .int 0), (0, .ref (a 0)), (1, .int w)]) hx hb dX6_many_1 rfl hl (by decide) rfl (fun ls hl => ?_)
  refine lv_iconst (v := 0) hx hb dX6_many_2 (by decide) ?_
  refine lv_istore_n (lv' := [(3, .int 0), (2, .int 0), (0, .ref (a 0)), (1, .int w)]) hx hb dX6_many_3 rfl hl (by decide) rfl (fun ls hl => ?_)
  have loop_4 : ∀ (f : Nat) (k : Nat) (ac : Int32) (H : Heap) (locs : List Loc) (ls : Array Slot), nw < k + f → k ≤ nw → ac = nI (mny (σ 32) w k) → va_P D vwCl (wM cI cZ a σ) H → va_D A (wM cI cZ a σ) → va_S A s.heap H locs → lv_has ls 4 [(0, .ref (a 0)), (1, .int w), (2, .int ac), (3, .int (nI k))] → W p l e { frames := 0, cells := 0, slots := 0, locals := 0 } s m args below meth c H locs 0 0 (MQ below (va_Qi (fun r u => u = σ ∧ r = nI (mny (σ 32) w nw)) (PO D (ty2 cI cZ) (wM cI cZ a) A) A) args s 0 0 A) (F0 m 4 ls []) := by
    intro f
    induction f with
    | zero => intro k ac H locs ls hf hk hac; exact absurd hf (by omega)
    | succ f ih =>
      intro k ac H locs ls hf hk hac hP hD hS hl
      refine lv_iload_n hx hb dX6_many_4 rfl (lv_at hl 3 rfl) ?_
      refine lv_aload_n hx hb dX6_many_5 rfl (lv_at hl 0 rfl) ?_
      refine va_get (D := D) (ci := 6) (v := .int (σ 19 0)) (C := RX6) (T := TX6) (N := 26) hx hb hts in_X6_many_X6 hown hK hP 0 rfl rfl 18 (by decide) (hts (.fieldLink RX6 129 "WarpyardModel" "waggons" "I") (by decide +kernel)) (fun _ h9 => h9) rfl dX6_many_6 ?_
      refine lv_topi (fun v_9 e_9 => ?_)
      obtain rfl : v_9 = nI nw := by rw [e_9]; exact hnw
      refine lv_icmp_ge (tgt := 36) hx hb dX6_many_9 (by decide) (fun c_9 => ?_) (fun c_9 => ?_)
      · skip
        rw [nI_leI (by omega) (by omega)] at c_9
        refine lv_iload_n hx hb dX6_many_36 rfl (lv_at hl 2 rfl) ?_
        exact MI.ret hx hb hr hlocks hK hP hD hS dX6_many_37 (by have e9 : nw = k := (by omega); subst e9; exact ⟨rfl, hac⟩)
      · skip
        rw [nI_leI (by omega) (by omega)] at c_9
        refine lv_iload_n hx hb dX6_many_12 rfl (lv_at hl 2 rfl) ?_
        refine lv_aload_n hx hb dX6_many_13 rfl (lv_at hl 0 rfl) ?_
        refine va_get (D := D) (ci := 6) (v := .ref (a 16)) (C := RX6) (T := TX6) (N := 26) hx hb hts in_X6_many_X6 hown hK hP 0 rfl rfl 20 (by decide) (hts (.fieldLink RX6 56 "WarpyardModel" "wheres" "[I") (by decide +kernel)) (fun _ h9 => h9) rfl dX6_many_14 ?_
        refine lv_iload_n hx hb dX6_many_17 rfl (lv_at hl 3 rfl) ?_
        refine na_iald hx hb hK hP 16 0 (f := (σ 32)) rfl rfl k (by omega) (by decide) rfl dX6_many_18 ?_
        refine lv_iload_n hx hb dX6_many_19 rfl (lv_at hl 1 rfl) ?_
        refine lv_icmp_ne (tgt := 27) hx hb dX6_many_20 (by decide) (fun c_20 => ?_) (fun c_20 => ?_)
        · skip
          refine lv_iconst (v := 0) hx hb dX6_many_27 (by decide) ?_
          refine lv_iadd hx hb dX6_many_28 ?_
          refine lv_istore_n (lv' := [(2, .int (ac + 0)), (0, .ref (a 0)), (1, .int w), (3, .int (nI k))]) hx hb dX6_many_29 rfl hl (by decide) rfl (fun ls hl => ?_)
          refine lv_iinc (v := nI (k + 1)) (lv' := [(3, .int (nI (k + 1))), (2, .int (ac + 0)), (0, .ref (a 0)), (1, .int w)]) hx hb dX6_many_30 hl (k := 3) rfl (by exact nI_1 k) (by decide) rfl (fun ls hl => ?_)
          refine lv_goto (tgt := 4) hx hb dX6_many_33 (by decide) ?_
          exact ih (k + 1) (ac + 0) _ _ ls (by omega) (by omega) (by rw [hac, mny, if_neg c_20]; exact Int32.add_zero _) hP hD hS (lv_sub hl [2, 3, 1, 0] rfl)
        · skip
          refine lv_iconst (v := 1) hx hb dX6_many_23 (by decide) ?_
          refine lv_goto (tgt := 28) hx hb dX6_many_24 (by decide) ?_
          refine lv_iadd hx hb dX6_many_28 ?_
          refine lv_istore_n (lv' := [(2, .int (ac + 1)), (0, .ref (a 0)), (1, .int w), (3, .int (nI k))]) hx hb dX6_many_29 rfl hl (by decide) rfl (fun ls hl => ?_)
          refine lv_iinc (v := nI (k + 1)) (lv' := [(3, .int (nI (k + 1))), (2, .int (ac + 1)), (0, .ref (a 0)), (1, .int w)]) hx hb dX6_many_30 hl (k := 3) rfl (by exact nI_1 k) (by decide) rfl (fun ls hl => ?_)
          refine lv_goto (tgt := 4) hx hb dX6_many_33 (by decide) ?_
          exact ih (k + 1) (ac + 1) _ _ ls (by omega) (by omega) (by rw [hac, mny, if_pos c_20, nI_succ]) hP hD hS (lv_sub hl [2, 3, 1, 0] rfl)
  exact loop_4 (nw + 1) 0 0 _ _ ls (by omega) (by omega) (by rfl) hP hD hS (lv_sub hl [2, 3, 1, 0] rfl)
set_option maxRecDepth 20000 in
theorem in_X6_waggon_X6 : ∀ w ∈ wsX60, w ∈ wsX6_waggon := by decide +kernel
set_option maxHeartbeats 4000000 in
set_option maxRecDepth 100000 in
/-- the reference: waggon -/
theorem c_X6_waggon (l : Launch) (D : va_G) (cI cZ : ClassId) (a : Nat → Nat) (sz : Nat) (σ : St) (w pl : Int32) (nw : Nat) (hnw : σ 19 0 = nI nw) (hnw8 : nw ≤ 8) : MI l yX6_waggon wsX6_waggon ({ frames := 0, cells := 0, slots := 0, locals := 0 }) D (ty2 cI cZ) (wM cI cZ a) [.ref (a 0), .int w, .int pl] σ sz (fun r u => u = σ ∧ r = wgn (σ 32) (σ 33) w pl nw) := by
  refine MI.of (cc := cX6_waggon) (maxL := 4) (by decide) rfl (Nat.le_of_ble_eq_true rfl) ?_
  intro p e s m args below meth c A H locs ls hx hb hr hml hown hts hlocks hA hS hP hK hD hl
  have hl : lv_has ls 4 [(0, .ref (a 0)), (1, .int w), (2, .int pl)] := hl
  refine lv_iconst (v := 0) hx hb dX6_waggon_0 (by decide) ?_
  refine lv_istore_n (lv' := [(3, .int 0), (0, .ref (a 0)), (1, .int w), (2, .int pl)]) hx hb dX6_waggon_1 rfl hl (by decide) rfl (fun ls hl => ?_)
  have loop_2 : ∀ (f : Nat) (k : Nat) (H : Heap) (locs : List Loc) (ls : Array Slot), nw < k + f → k ≤ nw → (∀ i, i < k → ¬ (σ 32 i = w ∧ σ 33 i = pl)) → va_P D vwCl (wM cI cZ a σ) H → va_D A (wM cI cZ a σ) → va_S A s.heap H locs → lv_has ls 4 [(0, .ref (a 0)), (1, .int w), (2, .int pl), (3, .int (nI k))] → W p l e { frames := 0, cells := 0, slots := 0, locals := 0 } s m args below meth c H locs 0 0 (MQ below (va_Qi (fun r u => u = σ ∧ r = wgn (σ 32) (σ 33) w pl nw) (PO D (ty2 cI cZ) (wM cI cZ a) A) A) args s 0 0 A) (F0 m 2 ls []) := by
    intro f
    induction f with
    | zero => intro k H locs ls hf hk hno; exact absurd hf (by omega)
    | succ f ih =>
      intro k H locs ls hf hk hno hP hD hS hl
      refine lv_iload_n hx hb dX6_waggon_2 rfl (lv_at hl 3 rfl) ?_
      refine lv_aload_n hx hb dX6_waggon_3 rfl (lv_at hl 0 rfl) ?_
      refine va_get (D := D) (ci := 6) (v := .int (σ 19 0)) (C := RX6) (T := TX6) (N := 26) hx hb hts in_X6_waggon_X6 hown hK hP 0 rfl rfl 18 (by decide) (hts (.fieldLink RX6 129 "WarpyardModel" "waggons" "I") (by decide +kernel)) (fun _ h9 => h9) rfl dX6_waggon_4 ?_
      refine lv_topi (fun v_7 e_7 => ?_)
      obtain rfl : v_7 = nI nw := by rw [e_7]; exact hnw
      refine lv_icmp_ge (tgt := 38) hx hb dX6_waggon_7 (by decide) (fun c_7 => ?_) (fun c_7 => ?_)
      · skip
        rw [nI_leI (by omega) (by omega)] at c_7
        refine lv_iconst (v := (-1)) hx hb dX6_waggon_38 (by decide) ?_
        exact MI.ret hx hb hr hlocks hK hP hD hS dX6_waggon_39 (by exact ⟨rfl, (wgn_miss (fun i hi => hno i (by omega))).symm⟩)
      · skip
        rw [nI_leI (by omega) (by omega)] at c_7
        refine lv_aload_n hx hb dX6_waggon_10 rfl (lv_at hl 0 rfl) ?_
        refine va_get (D := D) (ci := 6) (v := .ref (a 16)) (C := RX6) (T := TX6) (N := 26) hx hb hts in_X6_waggon_X6 hown hK hP 0 rfl rfl 20 (by decide) (hts (.fieldLink RX6 56 "WarpyardModel" "wheres" "[I") (by decide +kernel)) (fun _ h9 => h9) rfl dX6_waggon_11 ?_
        refine lv_iload_n hx hb dX6_waggon_14 rfl (lv_at hl 3 rfl) ?_
        refine na_iald hx hb hK hP 16 0 (f := (σ 32)) rfl rfl k (by omega) (by decide) rfl dX6_waggon_15 ?_
        refine lv_iload_n hx hb dX6_waggon_16 rfl (lv_at hl 1 rfl) ?_
        refine lv_icmp_ne (tgt := 32) hx hb dX6_waggon_17 (by decide) (fun c_17 => ?_) (fun c_17 => ?_)
        · skip
          refine lv_iinc (v := nI (k + 1)) (lv' := [(3, .int (nI (k + 1))), (0, .ref (a 0)), (1, .int w), (2, .int pl)]) hx hb dX6_waggon_32 hl (k := 3) rfl (by exact nI_1 k) (by decide) rfl (fun ls hl => ?_)
          refine lv_goto (tgt := 2) hx hb dX6_waggon_35 (by decide) ?_
          exact ih (k + 1) _ _ ls (by omega) (by omega) (by exact lt_s hno (fun h => c_17 h.1)) hP hD hS (lv_sub hl [1, 2, 3, 0] rfl)
        · skip
          refine lv_aload_n hx hb dX6_waggon_20 rfl (lv_at hl 0 rfl) ?_
          refine va_get (D := D) (ci := 6) (v := .ref (a 17)) (C := RX6) (T := TX6) (N := 26) hx hb hts in_X6_waggon_X6 hown hK hP 0 rfl rfl 21 (by decide) (hts (.fieldLink RX6 59 "WarpyardModel" "places" "[I") (by decide +kernel)) (fun _ h9 => h9) rfl dX6_waggon_21 ?_
          refine lv_iload_n hx hb dX6_waggon_24 rfl (lv_at hl 3 rfl) ?_
          refine na_iald hx hb hK hP 17 0 (f := (σ 33)) rfl rfl k (by omega) (by decide) rfl dX6_waggon_25 ?_
          refine lv_iload_n hx hb dX6_waggon_26 rfl (lv_at hl 2 rfl) ?_
          refine lv_icmp_ne (tgt := 32) hx hb dX6_waggon_27 (by decide) (fun c_27 => ?_) (fun c_27 => ?_)
          · skip
            refine lv_iinc (v := nI (k + 1)) (lv' := [(3, .int (nI (k + 1))), (0, .ref (a 0)), (1, .int w), (2, .int pl)]) hx hb dX6_waggon_32 hl (k := 3) rfl (by exact nI_1 k) (by decide) rfl (fun ls hl => ?_)
            refine lv_goto (tgt := 2) hx hb dX6_waggon_35 (by decide) ?_
            exact ih (k + 1) _ _ ls (by omega) (by omega) (by exact lt_s hno (fun h => c_27 h.2)) hP hD hS (lv_sub hl [1, 2, 3, 0] rfl)
          · skip
            refine lv_iload_n hx hb dX6_waggon_30 rfl (lv_at hl 3 rfl) ?_
            exact MI.ret hx hb hr hlocks hK hP hD hS dX6_waggon_31 (by exact ⟨rfl, (wgn_hit ⟨c_17, c_27⟩ hno (by omega) (by omega)).symm⟩)
  exact loop_2 (nw + 1) 0 _ _ ls (by omega) (by omega) (by intro i hi; omega) hP hD hS (lv_sub hl [1, 2, 3, 0] rfl)
set_option maxRecDepth 20000 in
theorem in_X6_weight_X6 : ∀ w ∈ wsX60, w ∈ wsX6_weight := by decide +kernel
set_option maxHeartbeats 4000000 in
set_option maxRecDepth 100000 in
/-- the reference: weight -/
theorem c_X6_weight (l : Launch) (D : va_G) (cI cZ : ClassId) (a : Nat → Nat) (sz : Nat) (σ : St) (w : Int32) (nw : Nat) (hnw : σ 19 0 = nI nw) (hnw8 : nw ≤ 8) : MI l yX6_weight wsX6_weight ({ frames := 0, cells := 0, slots := 0, locals := 0 }) D (ty2 cI cZ) (wM cI cZ a) [.ref (a 0), .int w] σ sz (fun r u => u = σ ∧ r = wgt (σ 20) (σ 32) w nw) := by
  refine MI.of (cc := cX6_weight) (maxL := 4) (by decide) rfl (Nat.le_of_ble_eq_true rfl) ?_
  intro p e s m args below meth c A H locs ls hx hb hr hml hown hts hlocks hA hS hP hK hD hl
  have hl : lv_has ls 4 [(0, .ref (a 0)), (1, .int w)] := hl
  refine lv_iconst (v := 0) hx hb dX6_weight_0 (by decide) ?_
  refine lv_istore_n (lv' := [(2, .int 0), (0, .ref (a 0)), (1, .int w)]) hx hb dX6_weight_1 rfl hl (by decide) rfl (fun ls hl => ?_)
  refine lv_iconst (v := 0) hx hb dX6_weight_2 (by decide) ?_
  refine lv_istore_n (lv' := [(3, .int 0), (2, .int 0), (0, .ref (a 0)), (1, .int w)]) hx hb dX6_weight_3 rfl hl (by decide) rfl (fun ls hl => ?_)
  have loop_4 : ∀ (f : Nat) (k : Nat) (ac : Int32) (H : Heap) (locs : List Loc) (ls : Array Slot), nw < k + f → k ≤ nw → ac = wgt (σ 20) (σ 32) w k → va_P D vwCl (wM cI cZ a σ) H → va_D A (wM cI cZ a σ) → va_S A s.heap H locs → lv_has ls 4 [(0, .ref (a 0)), (1, .int w), (2, .int ac), (3, .int (nI k))] → W p l e { frames := 0, cells := 0, slots := 0, locals := 0 } s m args below meth c H locs 0 0 (MQ below (va_Qi (fun r u => u = σ ∧ r = wgt (σ 20) (σ 32) w nw) (PO D (ty2 cI cZ) (wM cI cZ a) A) A) args s 0 0 A) (F0 m 4 ls []) := by
    intro f
    induction f with
    | zero => intro k ac H locs ls hf hk hac; exact absurd hf (by omega)
    | succ f ih =>
      intro k ac H locs ls hf hk hac hP hD hS hl
      refine lv_iload_n hx hb dX6_weight_4 rfl (lv_at hl 3 rfl) ?_
      refine lv_aload_n hx hb dX6_weight_5 rfl (lv_at hl 0 rfl) ?_
      refine va_get (D := D) (ci := 6) (v := .int (σ 19 0)) (C := RX6) (T := TX6) (N := 26) hx hb hts in_X6_weight_X6 hown hK hP 0 rfl rfl 18 (by decide) (hts (.fieldLink RX6 129 "WarpyardModel" "waggons" "I") (by decide +kernel)) (fun _ h9 => h9) rfl dX6_weight_6 ?_
      refine lv_topi (fun v_9 e_9 => ?_)
      obtain rfl : v_9 = nI nw := by rw [e_9]; exact hnw
      refine lv_icmp_ge (tgt := 41) hx hb dX6_weight_9 (by decide) (fun c_9 => ?_) (fun c_9 => ?_)
      · skip
        rw [nI_leI (by omega) (by omega)] at c_9
        refine lv_iload_n hx hb dX6_weight_41 rfl (lv_at hl 2 rfl) ?_
        exact MI.ret hx hb hr hlocks hK hP hD hS dX6_weight_42 (by have e9 : nw = k := (by omega); subst e9; exact ⟨rfl, hac⟩)
      · skip
        rw [nI_leI (by omega) (by omega)] at c_9
        refine lv_iload_n hx hb dX6_weight_12 rfl (lv_at hl 2 rfl) ?_
        refine lv_aload_n hx hb dX6_weight_13 rfl (lv_at hl 0 rfl) ?_
        refine va_get (D := D) (ci := 6) (v := .ref (a 16)) (C := RX6) (T := TX6) (N := 26) hx hb hts in_X6_weight_X6 hown hK hP 0 rfl rfl 20 (by decide) (hts (.fieldLink RX6 56 "WarpyardModel" "wheres" "[I") (by decide +kernel)) (fun _ h9 => h9) rfl dX6_weight_14 ?_
        refine lv_iload_n hx hb dX6_weight_17 rfl (lv_at hl 3 rfl) ?_
        refine na_iald hx hb hK hP 16 0 (f := (σ 32)) rfl rfl k (by omega) (by decide) rfl dX6_weight_18 ?_
        refine lv_iload_n hx hb dX6_weight_19 rfl (lv_at hl 1 rfl) ?_
        refine lv_icmp_ne (tgt := 32) hx hb dX6_weight_20 (by decide) (fun c_20 => ?_) (fun c_20 => ?_)
        · skip
          refine lv_iconst (v := 0) hx hb dX6_weight_32 (by decide) ?_
          refine lv_iadd hx hb dX6_weight_33 ?_
          refine lv_istore_n (lv' := [(2, .int (ac + 0)), (0, .ref (a 0)), (1, .int w), (3, .int (nI k))]) hx hb dX6_weight_34 rfl hl (by decide) rfl (fun ls hl => ?_)
          refine lv_iinc (v := nI (k + 1)) (lv' := [(3, .int (nI (k + 1))), (2, .int (ac + 0)), (0, .ref (a 0)), (1, .int w)]) hx hb dX6_weight_35 hl (k := 3) rfl (by exact nI_1 k) (by decide) rfl (fun ls hl => ?_)
          refine lv_goto (tgt := 4) hx hb dX6_weight_38 (by decide) ?_
          exact ih (k + 1) (ac + 0) _ _ ls (by omega) (by omega) (by rw [hac, wgt, if_neg c_20]) hP hD hS (lv_sub hl [2, 3, 1, 0] rfl)
        · skip
          refine lv_aload_n hx hb dX6_weight_23 rfl (lv_at hl 0 rfl) ?_
          refine va_get (D := D) (ci := 6) (v := .ref (a 15)) (C := RX6) (T := TX6) (N := 26) hx hb hts in_X6_weight_X6 hown hK hP 0 rfl rfl 19 (by decide) (hts (.fieldLink RX6 53 "WarpyardModel" "weights" "[I") (by decide +kernel)) (fun _ h9 => h9) rfl dX6_weight_24 ?_
          refine lv_iload_n hx hb dX6_weight_27 rfl (lv_at hl 3 rfl) ?_
          refine na_iald hx hb hK hP 15 0 (f := (σ 20)) rfl rfl k (by omega) (by decide) rfl dX6_weight_28 ?_
          refine lv_goto (tgt := 33) hx hb dX6_weight_29 (by decide) ?_
          refine lv_iadd hx hb dX6_weight_33 ?_
          refine lv_istore_n (lv' := [(2, .int (ac + (σ 20 k))), (0, .ref (a 0)), (1, .int w), (3, .int (nI k))]) hx hb dX6_weight_34 rfl hl (by decide) rfl (fun ls hl => ?_)
          refine lv_iinc (v := nI (k + 1)) (lv' := [(3, .int (nI (k + 1))), (2, .int (ac + (σ 20 k))), (0, .ref (a 0)), (1, .int w)]) hx hb dX6_weight_35 hl (k := 3) rfl (by exact nI_1 k) (by decide) rfl (fun ls hl => ?_)
          refine lv_goto (tgt := 4) hx hb dX6_weight_38 (by decide) ?_
          exact ih (k + 1) (ac + σ 20 k) _ _ ls (by omega) (by omega) (by rw [hac, wgt, if_pos c_20]) hP hD hS (lv_sub hl [2, 3, 1, 0] rfl)
  exact loop_4 (nw + 1) 0 0 _ _ ls (by omega) (by omega) (by rfl) hP hD hS (lv_sub hl [2, 3, 1, 0] rfl)
set_option maxRecDepth 20000 in
theorem in_X6_comes_X6 : ∀ w ∈ wsX60, w ∈ wsX6_comes := by decide +kernel
set_option maxHeartbeats 4000000 in
set_option maxRecDepth 100000 in
/-- the reference: comes -/
theorem c_X6_comes (l : Launch) (D : va_G) (cI cZ : ClassId) (a : Nat → Nat) (sz : Nat) (σ : St) (j : Nat) (w : Int32) (hj : j < 8) (nw : Nat) (hnw : σ 19 0 = nI nw) (hnw8 : nw ≤ 8) : MV l yX6_comes wsX6_comes ({ frames := 1, cells := 0, slots := 0, locals := 23 }) D (ty2 cI cZ) (wM cI cZ a) [.ref (a 0), .int (nI j), .int w] σ sz (fun u => u = (va_up (va_up σ 32 (upd (σ 32) j w)) 33 (upd (σ 33) j (nI (mny (σ 32) w nw))))) := by
  refine MV.of (cc := cX6_comes) (maxL := 4) (by decide) rfl (Nat.le_of_ble_eq_true rfl) ?_
  intro p e s m args below meth c A H locs ls hx hb hr hml hown hts hlocks hA hS hP hK hD hl
  have hl : lv_has ls 4 [(0, .ref (a 0)), (1, .int (nI j)), (2, .int w)] := hl
  refine lv_aload_n hx hb dX6_comes_0 rfl (lv_at hl 0 rfl) ?_
  refine lv_iload_n hx hb dX6_comes_1 rfl (lv_at hl 2 rfl) ?_
  refine MI.callV (As := [.int w]) (rest := []) ⟨hx, hb, hml, hown, hts⟩ (c_X6_many l D cI cZ a H.size σ w nw hnw hnw8) (cwV 1 hts gX6_comes_X6_many rfl rfl rfl (by decide +kernel) ⟨Nat.le_of_ble_eq_true rfl, Nat.le_of_ble_eq_true rfl⟩) hP hK hD hS hA (va_recv hK hP (ci := 6) (q0 := 0) rfl rfl) rfl hl.1 (Nat.le_of_ble_eq_true rfl) (Nat.zero_le _) (Nat.zero_le _) dX6_comes_2 rfl (fun r_2 u_2 H locs h_2 hP hD hS => ?_)
  obtain ⟨e_2, h_2⟩ := h_2
  have e_2 := Eq.symm e_2
  subst e_2
  have h_2 : r_2 = nI (mny (σ 32) w nw) := h_2
  subst h_2
  refine lv_istore_n (lv' := [(3, .int (nI (mny (σ 32) w nw))), (0, .ref (a 0)), (1, .int (nI j)), (2, .int w)]) hx hb dX6_comes_5 rfl hl (by decide) rfl (fun ls hl => ?_)
  refine lv_aload_n hx hb dX6_comes_6 rfl (lv_at hl 1 rfl) ?_
  refine va_get (D := D) (ci := 6) (v := .ref (a 16)) (C := RX6) (T := TX6) (N := 26) hx hb hts in_X6_comes_X6 hown hK hP 0 rfl rfl 20 (by decide) (hts (.fieldLink RX6 56 "WarpyardModel" "wheres" "[I") (by decide +kernel)) (fun _ h9 => h9) rfl dX6_comes_7 ?_
  refine lv_iload_n hx hb dX6_comes_10 rfl (lv_at hl 2 rfl) ?_
  refine lv_iload_n hx hb dX6_comes_11 rfl (lv_at hl 3 rfl) ?_
  refine na_iast hx hb hK hP hD hS 16 0 (f := (σ 32)) (x := w) rfl rfl j (by omega) (by decide) rfl dX6_comes_12 (fun H locs hP hD hS => ?_)
  have hP : va_P D vwCl (wM cI cZ a (va_up σ 32 (upd (σ 32) j w))) H := hP
  have hD : va_D A (wM cI cZ a (va_up σ 32 (upd (σ 32) j w))) := hD
  refine lv_aload_n hx hb dX6_comes_13 rfl (lv_at hl 1 rfl) ?_
  refine va_get (D := D) (ci := 6) (v := .ref (a 17)) (C := RX6) (T := TX6) (N := 26) hx hb hts in_X6_comes_X6 hown hK hP 0 rfl rfl 21 (by decide) (hts (.fieldLink RX6 59 "WarpyardModel" "places" "[I") (by decide +kernel)) (fun _ h9 => h9) rfl dX6_comes_14 ?_
  refine lv_iload_n hx hb dX6_comes_17 rfl (lv_at hl 2 rfl) ?_
  refine lv_iload_n hx hb dX6_comes_18 rfl (lv_at hl 0 rfl) ?_
  refine na_iast hx hb hK hP hD hS 17 0 (f := (σ 33)) (x := nI (mny (σ 32) w nw)) rfl rfl j (by omega) (by decide) rfl dX6_comes_19 (fun H locs hP hD hS => ?_)
  have hP : va_P D vwCl (wM cI cZ a (va_up (va_up σ 32 (upd (σ 32) j w)) 33 (upd (σ 33) j (nI (mny (σ 32) w nw))))) H := hP
  have hD : va_D A (wM cI cZ a (va_up (va_up σ 32 (upd (σ 32) j w)) 33 (upd (σ 33) j (nI (mny (σ 32) w nw))))) := hD
  exact MV.ret hx hb hr hlocks hK hP hD hS dX6_comes_20 (by rfl)
set_option maxRecDepth 20000 in
theorem in_X6_errorOfCouple_X6 : ∀ w ∈ wsX60, w ∈ wsX6_errorOfCouple := by decide +kernel
set_option maxHeartbeats 4000000 in
set_option maxRecDepth 100000 in
/-- the reference: errorOfCouple -/
theorem c_X6_errorOfCouple (l : Launch) (D : va_G) (cI cZ : ClassId) (a : Nat → Nat) (sz : Nat) (σ : St) (t : Int32) (n : Nat) (hn : σ 3 0 = nI n) (hn4 : n ≤ 4) (nw : Nat) (hnw : σ 19 0 = nI nw) (hnw8 : nw ≤ 8) (Z : Nat → Nat) (J : Nat → Nat → Nat) (hM9 : ∀ r, r < 6 → mny (σ 32) (wh r) nw = Z r) (hG9 : ∀ r, r < 6 → ∀ p, p < Z r → wgn (σ 32) (σ 33) (wh r) (nI p) nw = nI (J r p) ∧ J r p < 8) (hS9 : ∀ r, r < 6 → wgt (σ 20) (σ 32) (wh r) nw = wsJ (σ 20) (J r) (Z r)) : MI l yX6_errorOfCouple wsX6_errorOfCouple ({ frames := 2, cells := 0, slots := 0, locals := 43 }) D (ty2 cI cZ) (wM cI cZ a) [.ref (a 0), .int t] σ sz (fun r u => u = σ ∧ ((r = 1 ∧ cdCo σ n Z J t = 1) ∨ (r = 2 ∧ cdCo σ n Z J t = 2) ∨ (r = 0 ∧ cdCo σ n Z J t = 0 ∧ tr n t ∧ inR (σ 4 t.toNatClampNeg) 6 7 ∧ ¬ Z (sR (σ 4 t.toNatClampNeg)) = 0))) := by
  refine MI.of (cc := cX6_errorOfCouple) (maxL := 4) (by decide) rfl (Nat.le_of_ble_eq_true rfl) ?_
  intro p e s m args below meth c A H locs ls hx hb hr hml hown hts hlocks hA hS hP hK hD hl
  have hl : lv_has ls 4 [(0, .ref (a 0)), (1, .int t)] := hl
  refine lv_aload_n hx hb dX6_errorOfCouple_0 rfl (lv_at hl 0 rfl) ?_
  refine lv_iload_n hx hb dX6_errorOfCouple_1 rfl (lv_at hl 1 rfl) ?_
  refine MI.callV (As := [.int t]) (rest := []) ⟨hx, hb, hml, hown, hts⟩ (c_X6_isTrain l D cI cZ a H.size σ t n hn hn4) (cwV 1 hts gX6_errorOfCouple_X6_isTrain rfl rfl rfl (by decide +kernel) ⟨Nat.le_of_ble_eq_true rfl, Nat.le_of_ble_eq_true rfl⟩) hP hK hD hS hA (va_recv hK hP (ci := 6) (q0 := 0) rfl rfl) rfl hl.1 (Nat.le_of_ble_eq_true rfl) (Nat.zero_le _) (Nat.zero_le _) dX6_errorOfCouple_2 rfl (fun r_2 u_2 H locs h_2 hP hD hS => ?_)
  rcases h_2 with ⟨e_2, ⟨rfl, h_2⟩ | ⟨rfl, h_2⟩⟩
  · skip
    have e_2 := Eq.symm e_2
    subst e_2
    have h_2 : tr n t := h_2
    refine lv_if_ne (tgt := 10) hx hb dX6_errorOfCouple_5 (by decide) (fun _ => ?_) (fun c9 => absurd c9 (by decide))
    obtain ⟨k, hk, rfl⟩ := id h_2
    refine lv_aload_n hx hb dX6_errorOfCouple_10 rfl (lv_at hl 0 rfl) ?_
    refine va_get (D := D) (ci := 6) (v := .ref (a 1)) (C := RX6) (T := TX6) (N := 26) hx hb hts in_X6_errorOfCouple_X6 hown hK hP 0 rfl rfl 3 (by decide) (hts (.fieldLink RX6 7 "WarpyardModel" "blocks" "[I") (by decide +kernel)) (fun _ h9 => h9) rfl dX6_errorOfCouple_11 ?_
    refine lv_iload_n hx hb dX6_errorOfCouple_14 rfl (lv_at hl 1 rfl) ?_
    refine na_iald hx hb hK hP 1 0 (f := (σ 4)) rfl rfl k (by omega) (by decide) rfl dX6_errorOfCouple_15 ?_
    refine lv_istore_n (lv' := [(2, .int (σ 4 k)), (0, .ref (a 0)), (1, .int (nI k))]) hx hb dX6_errorOfCouple_16 rfl hl (by decide) rfl (fun ls hl => ?_)
    refine lv_iload_n hx hb dX6_errorOfCouple_17 rfl (lv_at hl 0 rfl) ?_
    refine MI.callS (As := [.int (σ 4 k)]) (rest := []) ⟨hx, hb, hml, hown, hts⟩ (c_X6_isSiding l D cI cZ a H.size σ (σ 4 k)) (va_cwS 1 hts gX6_errorOfCouple_X6_isSiding rfl rfl rfl (by decide +kernel) ⟨Nat.le_of_ble_eq_true rfl, Nat.le_of_ble_eq_true rfl⟩) hP hK hD hS hA rfl hl.1 (Nat.le_of_ble_eq_true rfl) (Nat.zero_le _) (Nat.zero_le _) dX6_errorOfCouple_18 rfl (fun r_18 u_18 H locs h_18 hP hD hS => ?_)
    rcases h_18 with ⟨e_18, ⟨rfl, h_18⟩ | ⟨rfl, h_18⟩⟩
    · skip
      have e_18 := Eq.symm e_18
      subst e_18
      have h_18 : inR (σ 4 k) 6 7 := h_18
      refine lv_if_eq (tgt := 32) hx hb dX6_errorOfCouple_21 (by decide) (fun c9 => absurd c9 (by decide)) (fun _ => ?_)
      refine lv_aload_n hx hb dX6_errorOfCouple_24 rfl (lv_at hl 1 rfl) ?_
      refine lv_iload_n hx hb dX6_errorOfCouple_25 rfl (lv_at hl 0 rfl) ?_
      refine MI.callV (As := [.int (σ 4 k)]) (rest := []) ⟨hx, hb, hml, hown, hts⟩ (c_X6_many l D cI cZ a H.size σ (σ 4 k) nw hnw hnw8) (cwV 1 hts gX6_errorOfCouple_X6_many rfl rfl rfl (by decide +kernel) ⟨Nat.le_of_ble_eq_true rfl, Nat.le_of_ble_eq_true rfl⟩) hP hK hD hS hA (va_recv hK hP (ci := 6) (q0 := 0) rfl rfl) rfl hl.1 (Nat.le_of_ble_eq_true rfl) (Nat.zero_le _) (Nat.zero_le _) dX6_errorOfCouple_26 rfl (fun r_26 u_26 H locs h_26 hP hD hS => ?_)
      obtain ⟨e_26, h_26⟩ := h_26
      have e_26 := Eq.symm e_26
      subst e_26
      have h_26 : r_26 = nI (mny (σ 32) (σ 4 k) nw) := h_26
      refine lv_topi (fun v_29 e_29 => ?_)
      obtain rfl : v_29 = nI (Z (sR (σ 4 k))) := by rw [e_29]; rw [h_26, many_s hM9 h_18]
      refine lv_if_ne (tgt := 34) hx hb dX6_errorOfCouple_29 (by decide) (fun c_29 => ?_) (fun c_29 => ?_)
      · skip
        have c_29 : ¬ Z (sR (σ 4 k)) = 0 := fun z => c_29 (by rw [z]; rfl)
        refine lv_aload_n hx hb dX6_errorOfCouple_34 rfl (lv_at hl 1 rfl) ?_
        refine lv_iload_n hx hb dX6_errorOfCouple_35 rfl (lv_at hl 0 rfl) ?_
        refine lv_aload_n hx hb dX6_errorOfCouple_36 rfl (lv_at hl 1 rfl) ?_
        refine lv_iload_n hx hb dX6_errorOfCouple_37 rfl (lv_at hl 0 rfl) ?_
        refine MI.callV (As := [.int (σ 4 k)]) (rest := [.int (σ 4 k), .ref (a 0)]) ⟨hx, hb, hml, hown, hts⟩ (c_X6_many l D cI cZ a H.size σ (σ 4 k) nw hnw hnw8) (cwV 1 hts gX6_errorOfCouple_X6_many rfl rfl rfl (by decide +kernel) ⟨Nat.le_of_ble_eq_true rfl, Nat.le_of_ble_eq_true rfl⟩) hP hK hD hS hA (va_recv hK hP (ci := 6) (q0 := 0) rfl rfl) rfl hl.1 (Nat.le_of_ble_eq_true rfl) (Nat.zero_le _) (Nat.zero_le _) dX6_errorOfCouple_38 rfl (fun r_38 u_38 H locs h_38 hP hD hS => ?_)
        obtain ⟨e_38, h_38⟩ := h_38
        have e_38 := Eq.symm e_38
        subst e_38
        have h_38 : r_38 = nI (mny (σ 32) (σ 4 k) nw) := h_38
        refine lv_topi (fun v_41 e_41 => ?_)
        obtain rfl : v_41 = nI (Z (sR (σ 4 k))) := by rw [e_41]; rw [h_38, many_s hM9 h_18]
        refine lv_iconst (v := 1) hx hb dX6_errorOfCouple_41 (by decide) ?_
        refine lv_isub hx hb dX6_errorOfCouple_42 ?_
        refine lv_topi (fun v_43 e_43 => ?_)
        obtain rfl : v_43 = nI (Z (sR (σ 4 k)) - 1) := by rw [e_43]; rw [show (1 : Int32) = nI 1 from rfl]; exact pk_sub (by omega)
        refine MI.callV (As := [.int (σ 4 k), .int (nI (Z (sR (σ 4 k)) - 1))]) (rest := []) ⟨hx, hb, hml, hown, hts⟩ (c_X6_waggon l D cI cZ a H.size σ (σ 4 k) (nI (Z (sR (σ 4 k)) - 1)) nw hnw hnw8) (cwV 2 hts gX6_errorOfCouple_X6_waggon rfl rfl rfl (by decide +kernel) ⟨Nat.le_of_ble_eq_true rfl, Nat.le_of_ble_eq_true rfl⟩) hP hK hD hS hA (va_recv hK hP (ci := 6) (q0 := 0) rfl rfl) rfl hl.1 (Nat.le_of_ble_eq_true rfl) (Nat.zero_le _) (Nat.zero_le _) dX6_errorOfCouple_43 rfl (fun r_43 u_43 H locs h_43 hP hD hS => ?_)
        obtain ⟨e_43, h_43⟩ := h_43
        have e_43 := Eq.symm e_43
        subst e_43
        have h_43 : r_43 = wgn (σ 32) (σ 33) (σ 4 k) (nI (Z (sR (σ 4 k)) - 1)) nw := h_43
        refine lv_topi (fun v_46 e_46 => ?_)
        obtain rfl : v_46 = nI (J (sR (σ 4 k)) (Z (sR (σ 4 k)) - 1)) := by rw [e_46]; rw [h_43, wh_s h_18, ← wh_s h_18]; exact (wgn_s h_18 hG9 (by omega)).1
        refine lv_istore_n (lv' := [(3, .int (nI (J (sR (σ 4 k)) (Z (sR (σ 4 k)) - 1)))), (2, .int (σ 4 k)), (0, .ref (a 0)), (1, .int (nI k))]) hx hb dX6_errorOfCouple_46 rfl hl (by decide) rfl (fun ls hl => ?_)
        refine lv_aload_n hx hb dX6_errorOfCouple_47 rfl (lv_at hl 2 rfl) ?_
        refine lv_bipush (v := 10) hx hb dX6_errorOfCouple_48 (by decide) ?_
        refine lv_iload_n hx hb dX6_errorOfCouple_50 rfl (lv_at hl 3 rfl) ?_
        refine lv_iadd hx hb dX6_errorOfCouple_51 ?_
        refine lv_topi (fun v_52 e_52 => ?_)
        obtain rfl : v_52 = wh (2 + k) := by rw [e_52]; exact wh_t k
        refine MI.callV (As := [.int (wh (2 + k))]) (rest := []) ⟨hx, hb, hml, hown, hts⟩ (c_X6_weight l D cI cZ a H.size σ (wh (2 + k)) nw hnw hnw8) (cwV 1 hts gX6_errorOfCouple_X6_weight rfl rfl rfl (by decide +kernel) ⟨Nat.le_of_ble_eq_true rfl, Nat.le_of_ble_eq_true rfl⟩) hP hK hD hS hA (va_recv hK hP (ci := 6) (q0 := 0) rfl rfl) rfl hl.1 (Nat.le_of_ble_eq_true rfl) (Nat.zero_le _) (Nat.zero_le _) dX6_errorOfCouple_52 rfl (fun r_52 u_52 H locs h_52 hP hD hS => ?_)
        obtain ⟨e_52, h_52⟩ := h_52
        have e_52 := Eq.symm e_52
        subst e_52
        have h_52 : r_52 = wgt (σ 20) (σ 32) (wh (2 + k)) nw := h_52
        rw [hS9 (2 + k) (by omega)] at h_52
        refine lv_aload_n hx hb dX6_errorOfCouple_55 rfl (lv_at hl 2 rfl) ?_
        refine va_get (D := D) (ci := 6) (v := .ref (a 15)) (C := RX6) (T := TX6) (N := 26) hx hb hts in_X6_errorOfCouple_X6 hown hK hP 0 rfl rfl 19 (by decide) (hts (.fieldLink RX6 53 "WarpyardModel" "weights" "[I") (by decide +kernel)) (fun _ h9 => h9) rfl dX6_errorOfCouple_56 ?_
        refine lv_iload_n hx hb dX6_errorOfCouple_59 rfl (lv_at hl 0 rfl) ?_
        refine na_iald hx hb hK hP 15 0 (f := (σ 20)) rfl rfl (J (sR (σ 4 k)) (Z (sR (σ 4 k)) - 1)) (wgn_s h_18 hG9 (by omega)).2 (by decide) rfl dX6_errorOfCouple_60 ?_
        refine lv_iadd hx hb dX6_errorOfCouple_61 ?_
        refine lv_bipush (v := 100) hx hb dX6_errorOfCouple_62 (by decide) ?_
        refine lv_icmp_le (tgt := 71) hx hb dX6_errorOfCouple_64 (by decide) (fun c_64 => ?_) (fun c_64 => ?_)
        · skip
          refine lv_iconst (v := 0) hx hb dX6_errorOfCouple_71 (by decide) ?_
          exact MI.ret hx hb hr hlocks hK hP hD hS dX6_errorOfCouple_72 (by exact ⟨rfl, Or.inr (Or.inr ⟨rfl, by rw [cdCo, cif_t h_2, nI_clamp (show k < 2 ^ 31 by omega), cif_t ⟨h_18, c_29, by rw [← h_52]; exact le_nlt.mp c_64⟩], h_2, by rw [nI_clamp (show k < 2 ^ 31 by omega)]; exact h_18, by rw [nI_clamp (show k < 2 ^ 31 by omega)]; exact c_29⟩)⟩)
        · skip
          refine lv_iconst (v := 2) hx hb dX6_errorOfCouple_67 (by decide) ?_
          refine lv_goto (tgt := 72) hx hb dX6_errorOfCouple_68 (by decide) ?_
          exact MI.ret hx hb hr hlocks hK hP hD hS dX6_errorOfCouple_72 (by exact ⟨rfl, Or.inr (Or.inl ⟨rfl, by rw [cdCo, cif_t h_2, nI_clamp (show k < 2 ^ 31 by omega), cif_f (fun h => c_64 (le_nlt.mpr (by rw [h_52]; exact h.2.2)))]⟩)⟩)
      · skip
        have c_29 : Z (sR (σ 4 k)) = 0 := (nI_eq (by have := mny_le (σ 32) (wh (sR (σ 4 k))) nw; rw [hM9 (sR (σ 4 k)) (sR_6 h_18)] at this; omega) (by omega)).mp c_29
        refine lv_iconst (v := 2) hx hb dX6_errorOfCouple_32 (by decide) ?_
        exact MI.ret hx hb hr hlocks hK hP hD hS dX6_errorOfCouple_33 (by exact ⟨rfl, Or.inr (Or.inl ⟨rfl, by rw [cdCo, cif_t h_2, nI_clamp (show k < 2 ^ 31 by omega), cif_f (fun h => h.2.1 c_29)]⟩)⟩)
    · skip
      have e_18 := Eq.symm e_18
      subst e_18
      have h_18 : ¬ (inR (σ 4 k) 6 7) := h_18
      refine lv_if_eq (tgt := 32) hx hb dX6_errorOfCouple_21 (by decide) (fun _ => ?_) (fun c9 => absurd (by decide) c9)
      refine lv_iconst (v := 2) hx hb dX6_errorOfCouple_32 (by decide) ?_
      exact MI.ret hx hb hr hlocks hK hP hD hS dX6_errorOfCouple_33 (by exact ⟨rfl, Or.inr (Or.inl ⟨rfl, by rw [cdCo, cif_t h_2, nI_clamp (show k < 2 ^ 31 by omega), cif_f (fun h => h_18 h.1)]⟩)⟩)
  · skip
    have e_2 := Eq.symm e_2
    subst e_2
    have h_2 : ¬ (tr n t) := h_2
    refine lv_if_ne (tgt := 10) hx hb dX6_errorOfCouple_5 (by decide) (fun c9 => absurd (by decide) c9) (fun _ => ?_)
    refine lv_iconst (v := 1) hx hb dX6_errorOfCouple_8 (by decide) ?_
    exact MI.ret hx hb hr hlocks hK hP hD hS dX6_errorOfCouple_9 (by exact ⟨rfl, Or.inl ⟨rfl, by rw [cdCo, cif_f h_2]⟩⟩)
set_option maxRecDepth 20000 in
theorem in_X6_couple_X6 : ∀ w ∈ wsX60, w ∈ wsX6_couple := by decide +kernel
set_option maxHeartbeats 4000000 in
set_option maxRecDepth 100000 in
/-- the reference: couple -/
theorem c_X6_couple (l : Launch) (D : va_G) (cI cZ : ClassId) (a : Nat → Nat) (sz : Nat) (σ : St) (t : Int32) (n : Nat) (hn : σ 3 0 = nI n) (hn4 : n ≤ 4) (nw : Nat) (hnw : σ 19 0 = nI nw) (hnw8 : nw ≤ 8) (Z : Nat → Nat) (J : Nat → Nat → Nat) (hM9 : ∀ r, r < 6 → mny (σ 32) (wh r) nw = Z r) (hG9 : ∀ r, r < 6 → ∀ p, p < Z r → wgn (σ 32) (σ 33) (wh r) (nI p) nw = nI (J r p) ∧ J r p < 8) (hS9 : ∀ r, r < 6 → wgt (σ 20) (σ 32) (wh r) nw = wsJ (σ 20) (J r) (Z r)) : MI l yX6_couple wsX6_couple ({ frames := 3, cells := 0, slots := 0, locals := 66 }) D (ty2 cI cZ) (wM cI cZ a) [.ref (a 0), .int t] σ sz (fun r u => (¬ cdCo σ n Z J t = 0 ∧ u = (va_up σ 34 (fun _ => cdCo σ n Z J t))) ∨ (cdCo σ n Z J t = 0 ∧ u = (va_up (va_up (va_up σ 32 (upd (σ 32) (J (sR (σ 4 t.toNatClampNeg)) (Z (sR (σ 4 t.toNatClampNeg)) - 1)) (wh (2 + t.toNatClampNeg)))) 33 (upd (σ 33) (J (sR (σ 4 t.toNatClampNeg)) (Z (sR (σ 4 t.toNatClampNeg)) - 1)) (nI (Z (2 + t.toNatClampNeg))))) 34 (fun _ => 0)) ∧ r = nI (J (sR (σ 4 t.toNatClampNeg)) (Z (sR (σ 4 t.toNatClampNeg)) - 1)))) := by
  refine MI.of (cc := cX6_couple) (maxL := 3) (by decide) rfl (Nat.le_of_ble_eq_true rfl) ?_
  intro p e s m args below meth c A H locs ls hx hb hr hml hown hts hlocks hA hS hP hK hD hl
  have hl : lv_has ls 3 [(0, .ref (a 0)), (1, .int t)] := hl
  refine lv_aload_n hx hb dX6_couple_0 rfl (lv_at hl 0 rfl) ?_
  refine lv_aload_n hx hb dX6_couple_1 rfl (lv_at hl 0 rfl) ?_
  refine lv_iload_n hx hb dX6_couple_2 rfl (lv_at hl 1 rfl) ?_
  refine MI.callV (As := [.int t]) (rest := [.ref (a 0)]) ⟨hx, hb, hml, hown, hts⟩ (c_X6_errorOfCouple l D cI cZ a H.size σ t n hn hn4 nw hnw hnw8 Z J hM9 hG9 hS9) (cwV 1 hts gX6_couple_X6_errorOfCouple rfl rfl rfl (by decide +kernel) ⟨Nat.le_of_ble_eq_true rfl, Nat.le_of_ble_eq_true rfl⟩) hP hK hD hS hA (va_recv hK hP (ci := 6) (q0 := 0) rfl rfl) rfl hl.1 (Nat.le_of_ble_eq_true rfl) (Nat.zero_le _) (Nat.zero_le _) dX6_couple_3 rfl (fun r_3 u_3 H locs h_3 hP hD hS => ?_)
  rcases h_3 with ⟨e_3, ⟨rfl, h_3⟩ | ⟨rfl, h_3⟩ | ⟨rfl, h_3, ht_3, hs_3, hz_3⟩⟩
  · skip
    have e_3 := Eq.symm e_3
    subst e_3
    refine MI.callV (As := [.int 1]) (rest := []) ⟨hx, hb, hml, hown, hts⟩ (c_X6_holds l D cI cZ a H.size σ 1) (cwV 1 hts gX6_couple_X6_holds rfl rfl rfl (by decide +kernel) ⟨Nat.le_of_ble_eq_true rfl, Nat.le_of_ble_eq_true rfl⟩) hP hK hD hS hA (va_recv hK hP (ci := 6) (q0 := 0) rfl rfl) rfl hl.1 (Nat.le_of_ble_eq_true rfl) (Nat.zero_le _) (Nat.zero_le _) dX6_couple_6 rfl (fun r_6 u_6 H locs h_6 hP hD hS => ?_)
    obtain ⟨e_6, h_6⟩ := h_6
    have e_6 := Eq.symm e_6
    subst e_6
    have hP : va_P D vwCl (wM cI cZ a (va_up σ 34 (fun _ => 1))) H := hP
    have hD : va_D A (wM cI cZ a (va_up σ 34 (fun _ => 1))) := hD
    obtain rfl : r_6 = 0 := h_6.trans (by decide)
    refine lv_if_ne (tgt := 14) hx hb dX6_couple_9 (by decide) (fun c9 => absurd (by decide) c9) (fun _ => ?_)
    refine lv_iconst (v := 0) hx hb dX6_couple_12 (by decide) ?_
    exact MI.ret hx hb hr hlocks hK hP hD hS dX6_couple_13 (by exact Or.inl (rf_ (h_3) (by decide)))
  · skip
    have e_3 := Eq.symm e_3
    subst e_3
    refine MI.callV (As := [.int 2]) (rest := []) ⟨hx, hb, hml, hown, hts⟩ (c_X6_holds l D cI cZ a H.size σ 2) (cwV 1 hts gX6_couple_X6_holds rfl rfl rfl (by decide +kernel) ⟨Nat.le_of_ble_eq_true rfl, Nat.le_of_ble_eq_true rfl⟩) hP hK hD hS hA (va_recv hK hP (ci := 6) (q0 := 0) rfl rfl) rfl hl.1 (Nat.le_of_ble_eq_true rfl) (Nat.zero_le _) (Nat.zero_le _) dX6_couple_6 rfl (fun r_6 u_6 H locs h_6 hP hD hS => ?_)
    obtain ⟨e_6, h_6⟩ := h_6
    have e_6 := Eq.symm e_6
    subst e_6
    have hP : va_P D vwCl (wM cI cZ a (va_up σ 34 (fun _ => 2))) H := hP
    have hD : va_D A (wM cI cZ a (va_up σ 34 (fun _ => 2))) := hD
    obtain rfl : r_6 = 0 := h_6.trans (by decide)
    refine lv_if_ne (tgt := 14) hx hb dX6_couple_9 (by decide) (fun c9 => absurd (by decide) c9) (fun _ => ?_)
    refine lv_iconst (v := 0) hx hb dX6_couple_12 (by decide) ?_
    exact MI.ret hx hb hr hlocks hK hP hD hS dX6_couple_13 (by exact Or.inl (rf_ (h_3) (by decide)))
  · skip
    have e_3 := Eq.symm e_3
    subst e_3
    refine MI.callV (As := [.int 0]) (rest := []) ⟨hx, hb, hml, hown, hts⟩ (c_X6_holds l D cI cZ a H.size σ 0) (cwV 1 hts gX6_couple_X6_holds rfl rfl rfl (by decide +kernel) ⟨Nat.le_of_ble_eq_true rfl, Nat.le_of_ble_eq_true rfl⟩) hP hK hD hS hA (va_recv hK hP (ci := 6) (q0 := 0) rfl rfl) rfl hl.1 (Nat.le_of_ble_eq_true rfl) (Nat.zero_le _) (Nat.zero_le _) dX6_couple_6 rfl (fun r_6 u_6 H locs h_6 hP hD hS => ?_)
    obtain ⟨e_6, h_6⟩ := h_6
    have e_6 := Eq.symm e_6
    subst e_6
    have hP : va_P D vwCl (wM cI cZ a (va_up σ 34 (fun _ => 0))) H := hP
    have hD : va_D A (wM cI cZ a (va_up σ 34 (fun _ => 0))) := hD
    obtain rfl : r_6 = 1 := h_6.trans (by decide)
    refine lv_if_ne (tgt := 14) hx hb dX6_couple_9 (by decide) (fun _ => ?_) (fun c9 => absurd c9 (by decide))
    obtain ⟨k, hk, rfl⟩ := id ht_3
    rw [nI_clamp (show k < 2 ^ 31 by omega)] at hs_3 hz_3
    refine lv_aload_n hx hb dX6_couple_14 rfl (lv_at hl 0 rfl) ?_
    refine lv_aload_n hx hb dX6_couple_15 rfl (lv_at hl 0 rfl) ?_
    refine va_get (D := D) (ci := 6) (v := .ref (a 1)) (C := RX6) (T := TX6) (N := 26) hx hb hts in_X6_couple_X6 hown hK hP 0 rfl rfl 3 (by decide) (hts (.fieldLink RX6 7 "WarpyardModel" "blocks" "[I") (by decide +kernel)) (fun _ h9 => h9) rfl dX6_couple_16 ?_
    refine lv_iload_n hx hb dX6_couple_19 rfl (lv_at hl 1 rfl) ?_
    refine na_iald hx hb hK hP 1 0 (f := (σ 4)) rfl rfl k (by omega) (by decide) rfl dX6_couple_20 ?_
    refine lv_aload_n hx hb dX6_couple_21 rfl (lv_at hl 0 rfl) ?_
    refine lv_aload_n hx hb dX6_couple_22 rfl (lv_at hl 0 rfl) ?_
    refine va_get (D := D) (ci := 6) (v := .ref (a 1)) (C := RX6) (T := TX6) (N := 26) hx hb hts in_X6_couple_X6 hown hK hP 0 rfl rfl 3 (by decide) (hts (.fieldLink RX6 7 "WarpyardModel" "blocks" "[I") (by decide +kernel)) (fun _ h9 => h9) rfl dX6_couple_23 ?_
    refine lv_iload_n hx hb dX6_couple_26 rfl (lv_at hl 1 rfl) ?_
    refine na_iald hx hb hK hP 1 0 (f := (σ 4)) rfl rfl k (by omega) (by decide) rfl dX6_couple_27 ?_
    refine MI.callV (As := [.int (σ 4 k)]) (rest := [.int (σ 4 k), .ref (a 0)]) ⟨hx, hb, hml, hown, hts⟩ (c_X6_many l D cI cZ a H.size (va_up σ 34 (fun _ => 0)) (σ 4 k) nw hnw hnw8) (cwV 1 hts gX6_couple_X6_many rfl rfl rfl (by decide +kernel) ⟨Nat.le_of_ble_eq_true rfl, Nat.le_of_ble_eq_true rfl⟩) hP hK hD hS hA (va_recv hK hP (ci := 6) (q0 := 0) rfl rfl) rfl hl.1 (Nat.le_of_ble_eq_true rfl) (Nat.zero_le _) (Nat.zero_le _) dX6_couple_28 rfl (fun r_28 u_28 H locs h_28 hP hD hS => ?_)
    obtain ⟨e_28, h_28⟩ := h_28
    have e_28 := Eq.symm e_28
    subst e_28
    have h_28 : r_28 = nI (mny (σ 32) (σ 4 k) nw) := h_28
    refine lv_topi (fun v_31 e_31 => ?_)
    obtain rfl : v_31 = nI (Z (sR (σ 4 k))) := by rw [e_31]; rw [h_28, many_s hM9 hs_3]
    refine lv_iconst (v := 1) hx hb dX6_couple_31 (by decide) ?_
    refine lv_isub hx hb dX6_couple_32 ?_
    refine lv_topi (fun v_33 e_33 => ?_)
    obtain rfl : v_33 = nI (Z (sR (σ 4 k)) - 1) := by rw [e_33]; rw [show (1 : Int32) = nI 1 from rfl]; exact pk_sub (by omega)
    refine MI.callV (As := [.int (σ 4 k), .int (nI (Z (sR (σ 4 k)) - 1))]) (rest := []) ⟨hx, hb, hml, hown, hts⟩ (c_X6_waggon l D cI cZ a H.size (va_up σ 34 (fun _ => 0)) (σ 4 k) (nI (Z (sR (σ 4 k)) - 1)) nw hnw hnw8) (cwV 2 hts gX6_couple_X6_waggon rfl rfl rfl (by decide +kernel) ⟨Nat.le_of_ble_eq_true rfl, Nat.le_of_ble_eq_true rfl⟩) hP hK hD hS hA (va_recv hK hP (ci := 6) (q0 := 0) rfl rfl) rfl hl.1 (Nat.le_of_ble_eq_true rfl) (Nat.zero_le _) (Nat.zero_le _) dX6_couple_33 rfl (fun r_33 u_33 H locs h_33 hP hD hS => ?_)
    obtain ⟨e_33, h_33⟩ := h_33
    have e_33 := Eq.symm e_33
    subst e_33
    have h_33 : r_33 = wgn (σ 32) (σ 33) (σ 4 k) (nI (Z (sR (σ 4 k)) - 1)) nw := h_33
    refine lv_topi (fun v_36 e_36 => ?_)
    obtain rfl : v_36 = nI (J (sR (σ 4 k)) (Z (sR (σ 4 k)) - 1)) := by rw [e_36]; rw [h_33]; exact (wgn_s hs_3 hG9 (by omega)).1
    refine lv_istore_n (lv' := [(2, .int (nI (J (sR (σ 4 k)) (Z (sR (σ 4 k)) - 1)))), (0, .ref (a 0)), (1, .int (nI k))]) hx hb dX6_couple_36 rfl hl (by decide) rfl (fun ls hl => ?_)
    refine lv_aload_n hx hb dX6_couple_37 rfl (lv_at hl 1 rfl) ?_
    refine lv_iload_n hx hb dX6_couple_38 rfl (lv_at hl 0 rfl) ?_
    refine lv_bipush (v := 10) hx hb dX6_couple_39 (by decide) ?_
    refine lv_iload_n hx hb dX6_couple_41 rfl (lv_at hl 2 rfl) ?_
    refine lv_iadd hx hb dX6_couple_42 ?_
    refine lv_topi (fun v_43 e_43 => ?_)
    obtain rfl : v_43 = wh (2 + k) := by rw [e_43]; exact wh_t k
    refine MV.callV (As := [.int (nI (J (sR (σ 4 k)) (Z (sR (σ 4 k)) - 1))), .int (wh (2 + k))]) (rest := []) ⟨hx, hb, hml, hown, hts⟩ (c_X6_comes l D cI cZ a H.size (va_up σ 34 (fun _ => 0)) (J (sR (σ 4 k)) (Z (sR (σ 4 k)) - 1)) (wh (2 + k)) (wgn_s hs_3 hG9 (by omega)).2 nw hnw hnw8) (cwV 2 hts gX6_couple_X6_comes rfl rfl rfl (by decide +kernel) ⟨Nat.le_of_ble_eq_true rfl, Nat.le_of_ble_eq_true rfl⟩) hP hK hD hS hA (va_recv hK hP (ci := 6) (q0 := 0) rfl rfl) rfl hl.1 (Nat.le_of_ble_eq_true rfl) (Nat.zero_le _) (Nat.zero_le _) dX6_couple_43 rfl (fun u_43 H locs h_43 hP hD hS => ?_)
    have e_43 := h_43
    have e_43 := Eq.symm e_43
    subst e_43
    have hP : va_P D vwCl (wM cI cZ a (va_up (va_up (va_up σ 32 (upd (σ 32) (J (sR (σ 4 k)) (Z (sR (σ 4 k)) - 1)) (wh (2 + k)))) 33 (upd (σ 33) (J (sR (σ 4 k)) (Z (sR (σ 4 k)) - 1)) (nI (mny (σ 32) (wh (2 + k)) nw)))) 34 (fun _ => 0))) H := hP
    have hD : va_D A (wM cI cZ a (va_up (va_up (va_up σ 32 (upd (σ 32) (J (sR (σ 4 k)) (Z (sR (σ 4 k)) - 1)) (wh (2 + k)))) 33 (upd (σ 33) (J (sR (σ 4 k)) (Z (sR (σ 4 k)) - 1)) (nI (mny (σ 32) (wh (2 + k)) nw)))) 34 (fun _ => 0))) := hD
    refine lv_iload_n hx hb dX6_couple_46 rfl (lv_at hl 0 rfl) ?_
    exact MI.ret hx hb hr hlocks hK hP hD hS dX6_couple_47 (by simp only [nI_clamp (show k < 2 ^ 31 by omega)]; exact Or.inr ⟨h_3, by rw [hM9 (2 + k) (by omega)], trivial⟩)
set_option maxRecDepth 20000 in
theorem in_X6_leave_X6 : ∀ w ∈ wsX60, w ∈ wsX6_leave := by decide +kernel
set_option maxHeartbeats 4000000 in
set_option maxRecDepth 100000 in
/-- the reference: leave -/
theorem c_X6_leave (l : Launch) (D : va_G) (cI cZ : ClassId) (a : Nat → Nat) (sz : Nat) (σ : St) (t : Int32) (n : Nat) (hn : σ 3 0 = nI n) (hn4 : n ≤ 4) (nw : Nat) (hnw : σ 19 0 = nI nw) (hnw8 : nw ≤ 8) (Z : Nat → Nat) (J : Nat → Nat → Nat) (hM9 : ∀ r, r < 6 → mny (σ 32) (wh r) nw = Z r) (hG9 : ∀ r, r < 6 → ∀ p, p < Z r → wgn (σ 32) (σ 33) (wh r) (nI p) nw = nI (J r p) ∧ J r p < 8) (hS9 : ∀ r, r < 6 → wgt (σ 20) (σ 32) (wh r) nw = wsJ (σ 20) (J r) (Z r)) : MI l yX6_leave wsX6_leave ({ frames := 2, cells := 0, slots := 0, locals := 46 }) D (ty2 cI cZ) (wM cI cZ a) [.ref (a 0), .int t] σ sz (fun r u => (¬ cdLe σ n Z t = 0 ∧ u = (va_up σ 34 (fun _ => cdLe σ n Z t))) ∨ (cdLe σ n Z t = 0 ∧ (((σ 26 (J (2 + t.toNatClampNeg) (Z (2 + t.toNatClampNeg) - 1)) = 0 ∨ ¬ σ 24 (J (2 + t.toNatClampNeg) (Z (2 + t.toNatClampNeg) - 1)) = σ 4 t.toNatClampNeg) ∧ u = (va_up (va_up (va_up σ 32 (upd (σ 32) (J (2 + t.toNatClampNeg) (Z (2 + t.toNatClampNeg) - 1)) (σ 4 t.toNatClampNeg))) 33 (upd (σ 33) (J (2 + t.toNatClampNeg) (Z (2 + t.toNatClampNeg) - 1)) (nI (Z (sR (σ 4 t.toNatClampNeg)))))) 34 (fun _ => 0)) ∧ r = 0) ∨ ((¬ σ 26 (J (2 + t.toNatClampNeg) (Z (2 + t.toNatClampNeg) - 1)) = 0 ∧ σ 24 (J (2 + t.toNatClampNeg) (Z (2 + t.toNatClampNeg) - 1)) = σ 4 t.toNatClampNeg) ∧ u = (va_up (va_up (va_up (va_up (va_up σ 1 (fun _ => σ 1 0 + payM (σ 26 (J (2 + t.toNatClampNeg) (Z (2 + t.toNatClampNeg) - 1))) (σ 25 (J (2 + t.toNatClampNeg) (Z (2 + t.toNatClampNeg) - 1))) (σ 0 0))) 26 (upd (σ 26) (J (2 + t.toNatClampNeg) (Z (2 + t.toNatClampNeg) - 1)) 0)) 32 (upd (σ 32) (J (2 + t.toNatClampNeg) (Z (2 + t.toNatClampNeg) - 1)) (σ 4 t.toNatClampNeg))) 33 (upd (σ 33) (J (2 + t.toNatClampNeg) (Z (2 + t.toNatClampNeg) - 1)) (nI (Z (sR (σ 4 t.toNatClampNeg)))))) 34 (fun _ => 0)) ∧ r = payM (σ 26 (J (2 + t.toNatClampNeg) (Z (2 + t.toNatClampNeg) - 1))) (σ 25 (J (2 + t.toNatClampNeg) (Z (2 + t.toNatClampNeg) - 1))) (σ 0 0))))) := by
  refine MI.of (cc := cX6_leave) (maxL := 8) (by decide) rfl (Nat.le_of_ble_eq_true rfl) ?_
  intro p e s m args below meth c A H locs ls hx hb hr hml hown hts hlocks hA hS hP hK hD hl
  have hl : lv_has ls 8 [(0, .ref (a 0)), (1, .int t)] := hl
  refine lv_aload_n hx hb dX6_leave_0 rfl (lv_at hl 0 rfl) ?_
  refine lv_iload_n hx hb dX6_leave_1 rfl (lv_at hl 1 rfl) ?_
  refine MI.callV (As := [.int t]) (rest := []) ⟨hx, hb, hml, hown, hts⟩ (c_X6_isTrain l D cI cZ a H.size σ t n hn hn4) (cwV 1 hts gX6_leave_X6_isTrain rfl rfl rfl (by decide +kernel) ⟨Nat.le_of_ble_eq_true rfl, Nat.le_of_ble_eq_true rfl⟩) hP hK hD hS hA (va_recv hK hP (ci := 6) (q0 := 0) rfl rfl) rfl hl.1 (Nat.le_of_ble_eq_true rfl) (Nat.zero_le _) (Nat.zero_le _) dX6_leave_2 rfl (fun r_2 u_2 H locs h_2 hP hD hS => ?_)
  rcases h_2 with ⟨e_2, ⟨rfl, h_2⟩ | ⟨rfl, h_2⟩⟩
  · skip
    have e_2 := Eq.symm e_2
    subst e_2
    have h_2 : tr n t := h_2
    refine lv_istore_n (lv' := [(2, .int 1), (0, .ref (a 0)), (1, .int t)]) hx hb dX6_leave_5 rfl hl (by decide) rfl (fun ls hl => ?_)
    refine lv_iload_n hx hb dX6_leave_6 rfl (lv_at hl 0 rfl) ?_
    refine lv_if_eq (tgt := 19) hx hb dX6_leave_7 (by decide) (fun c9 => absurd c9 (by decide)) (fun _ => ?_)
    obtain ⟨k, hk, rfl⟩ := id h_2
    refine lv_aload_n hx hb dX6_leave_10 rfl (lv_at hl 1 rfl) ?_
    refine va_get (D := D) (ci := 6) (v := .ref (a 1)) (C := RX6) (T := TX6) (N := 26) hx hb hts in_X6_leave_X6 hown hK hP 0 rfl rfl 3 (by decide) (hts (.fieldLink RX6 7 "WarpyardModel" "blocks" "[I") (by decide +kernel)) (fun _ h9 => h9) rfl dX6_leave_11 ?_
    refine lv_iload_n hx hb dX6_leave_14 rfl (lv_at hl 2 rfl) ?_
    refine na_iald hx hb hK hP 1 0 (f := (σ 4)) rfl rfl k (by omega) (by decide) rfl dX6_leave_15 ?_
    refine lv_goto (tgt := 20) hx hb dX6_leave_16 (by decide) ?_
    refine lv_istore_n (lv' := [(3, .int (σ 4 k)), (2, .int 1), (0, .ref (a 0)), (1, .int (nI k))]) hx hb dX6_leave_20 rfl hl (by decide) rfl (fun ls hl => ?_)
    refine lv_iload_n hx hb dX6_leave_21 rfl (lv_at hl 1 rfl) ?_
    refine lv_if_eq (tgt := 56) hx hb dX6_leave_22 (by decide) (fun c9 => absurd c9 (by decide)) (fun _ => ?_)
    refine lv_iload_n hx hb dX6_leave_25 rfl (lv_at hl 0 rfl) ?_
    refine MI.callS (As := [.int (σ 4 k)]) (rest := []) ⟨hx, hb, hml, hown, hts⟩ (c_X6_isSiding l D cI cZ a H.size σ (σ 4 k)) (va_cwS 1 hts gX6_leave_X6_isSiding rfl rfl rfl (by decide +kernel) ⟨Nat.le_of_ble_eq_true rfl, Nat.le_of_ble_eq_true rfl⟩) hP hK hD hS hA rfl hl.1 (Nat.le_of_ble_eq_true rfl) (Nat.zero_le _) (Nat.zero_le _) dX6_leave_26 rfl (fun r_26 u_26 H locs h_26 hP hD hS => ?_)
    rcases h_26 with ⟨e_26, ⟨rfl, h_26⟩ | ⟨rfl, h_26⟩⟩
    · skip
      have e_26 := Eq.symm e_26
      subst e_26
      have h_26 : inR (σ 4 k) 6 7 := h_26
      refine lv_if_eq (tgt := 56) hx hb dX6_leave_29 (by decide) (fun c9 => absurd c9 (by decide)) (fun _ => ?_)
      refine lv_aload_n hx hb dX6_leave_32 rfl (lv_at hl 2 rfl) ?_
      refine lv_bipush (v := 10) hx hb dX6_leave_33 (by decide) ?_
      refine lv_iload_n hx hb dX6_leave_35 rfl (lv_at hl 3 rfl) ?_
      refine lv_iadd hx hb dX6_leave_36 ?_
      refine lv_topi (fun v_37 e_37 => ?_)
      obtain rfl : v_37 = wh (2 + k) := by rw [e_37]; exact wh_t k
      refine MI.callV (As := [.int (wh (2 + k))]) (rest := []) ⟨hx, hb, hml, hown, hts⟩ (c_X6_many l D cI cZ a H.size σ (wh (2 + k)) nw hnw hnw8) (cwV 1 hts gX6_leave_X6_many rfl rfl rfl (by decide +kernel) ⟨Nat.le_of_ble_eq_true rfl, Nat.le_of_ble_eq_true rfl⟩) hP hK hD hS hA (va_recv hK hP (ci := 6) (q0 := 0) rfl rfl) rfl hl.1 (Nat.le_of_ble_eq_true rfl) (Nat.zero_le _) (Nat.zero_le _) dX6_leave_37 rfl (fun r_37 u_37 H locs h_37 hP hD hS => ?_)
      obtain ⟨e_37, h_37⟩ := h_37
      have e_37 := Eq.symm e_37
      subst e_37
      have h_37 : r_37 = nI (mny (σ 32) (wh (2 + k)) nw) := h_37
      refine lv_topi (fun v_40 e_40 => ?_)
      obtain rfl : v_40 = nI (Z (2 + k)) := by rw [e_40]; rw [h_37, hM9 (2 + k) (by omega)]
      refine lv_if_le (tgt := 56) hx hb dX6_leave_40 (by decide) (fun c_40 => ?_) (fun c_40 => ?_)
      · skip
        have c_40 : Z (2 + k) = 0 := nI_le0 (Z_le hM9 (r := (2 + k)) (by omega)) hnw8 c_40
        refine lv_iconst (v := 0) hx hb dX6_leave_56 (by decide) ?_
        refine lv_istore (lv' := [(4, .int 0), (3, .int (σ 4 k)), (2, .int 1), (0, .ref (a 0)), (1, .int (nI k))]) hx hb dX6_leave_57 hl (by decide) rfl (fun ls hl => ?_)
        refine lv_aload_n hx hb dX6_leave_59 rfl (lv_at hl 3 rfl) ?_
        refine lv_iload_n hx hb dX6_leave_60 rfl (lv_at hl 2 rfl) ?_
        refine lv_if_ne (tgt := 68) hx hb dX6_leave_61 (by decide) (fun _ => ?_) (fun c9 => absurd c9 (by decide))
        refine lv_iload hx hb dX6_leave_68 (lv_at hl 0 rfl) ?_
        refine lv_if_eq (tgt := 77) hx hb dX6_leave_70 (by decide) (fun _ => ?_) (fun c9 => absurd (by decide) c9)
        refine lv_iconst (v := 2) hx hb dX6_leave_77 (by decide) ?_
        refine MI.callV (As := [.int 2]) (rest := []) ⟨hx, hb, hml, hown, hts⟩ (c_X6_holds l D cI cZ a H.size σ 2) (cwV 1 hts gX6_leave_X6_holds rfl rfl rfl (by decide +kernel) ⟨Nat.le_of_ble_eq_true rfl, Nat.le_of_ble_eq_true rfl⟩) hP hK hD hS hA (va_recv hK hP (ci := 6) (q0 := 0) rfl rfl) rfl hl.1 (Nat.le_of_ble_eq_true rfl) (Nat.zero_le _) (Nat.zero_le _) dX6_leave_78 rfl (fun r_78 u_78 H locs h_78 hP hD hS => ?_)
        obtain ⟨e_78, h_78⟩ := h_78
        have e_78 := Eq.symm e_78
        subst e_78
        have hP : va_P D vwCl (wM cI cZ a (va_up σ 34 (fun _ => 2))) H := hP
        have hD : va_D A (wM cI cZ a (va_up σ 34 (fun _ => 2))) := hD
        obtain rfl : r_78 = 0 := h_78.trans (by decide)
        refine lv_if_ne (tgt := 86) hx hb dX6_leave_81 (by decide) (fun c9 => absurd (by decide) c9) (fun _ => ?_)
        refine lv_iconst (v := 0) hx hb dX6_leave_84 (by decide) ?_
        exact MI.ret hx hb hr hlocks hK hP hD hS dX6_leave_85 (by exact Or.inl (rf_ (by rw [cdLe, cif_t h_2, nI_clamp (show k < 2 ^ 31 by omega), cif_f (fun h => h.2.1 c_40)]) (by decide)))
      · skip
        have c_40 : ¬ Z (2 + k) = 0 := fun z => c_40 (by rw [z]; decide)
        refine lv_aload_n hx hb dX6_leave_43 rfl (lv_at hl 2 rfl) ?_
        refine lv_iload_n hx hb dX6_leave_44 rfl (lv_at hl 0 rfl) ?_
        refine MI.callV (As := [.int (σ 4 k)]) (rest := []) ⟨hx, hb, hml, hown, hts⟩ (c_X6_many l D cI cZ a H.size σ (σ 4 k) nw hnw hnw8) (cwV 1 hts gX6_leave_X6_many rfl rfl rfl (by decide +kernel) ⟨Nat.le_of_ble_eq_true rfl, Nat.le_of_ble_eq_true rfl⟩) hP hK hD hS hA (va_recv hK hP (ci := 6) (q0 := 0) rfl rfl) rfl hl.1 (Nat.le_of_ble_eq_true rfl) (Nat.zero_le _) (Nat.zero_le _) dX6_leave_45 rfl (fun r_45 u_45 H locs h_45 hP hD hS => ?_)
        obtain ⟨e_45, h_45⟩ := h_45
        have e_45 := Eq.symm e_45
        subst e_45
        have h_45 : r_45 = nI (mny (σ 32) (σ 4 k) nw) := h_45
        refine lv_topi (fun v_48 e_48 => ?_)
        obtain rfl : v_48 = nI (Z (sR (σ 4 k))) := by rw [e_48]; rw [h_45, many_s hM9 h_26]
        refine lv_iconst (v := 4) hx hb dX6_leave_48 (by decide) ?_
        refine lv_icmp_ge (tgt := 56) hx hb dX6_leave_49 (by decide) (fun c_49 => ?_) (fun c_49 => ?_)
        · skip
          have c_49 : 4 ≤ Z (sR (σ 4 k)) := by rw [show (4 : Int32) = nI 4 from rfl, nI_leI (by omega) (by have := Z_le hM9 (r := (sR (σ 4 k))) (sR_6 h_26); omega)] at c_49; exact c_49
          refine lv_iconst (v := 0) hx hb dX6_leave_56 (by decide) ?_
          refine lv_istore (lv' := [(4, .int 0), (3, .int (σ 4 k)), (2, .int 1), (0, .ref (a 0)), (1, .int (nI k))]) hx hb dX6_leave_57 hl (by decide) rfl (fun ls hl => ?_)
          refine lv_aload_n hx hb dX6_leave_59 rfl (lv_at hl 3 rfl) ?_
          refine lv_iload_n hx hb dX6_leave_60 rfl (lv_at hl 2 rfl) ?_
          refine lv_if_ne (tgt := 68) hx hb dX6_leave_61 (by decide) (fun _ => ?_) (fun c9 => absurd c9 (by decide))
          refine lv_iload hx hb dX6_leave_68 (lv_at hl 0 rfl) ?_
          refine lv_if_eq (tgt := 77) hx hb dX6_leave_70 (by decide) (fun _ => ?_) (fun c9 => absurd (by decide) c9)
          refine lv_iconst (v := 2) hx hb dX6_leave_77 (by decide) ?_
          refine MI.callV (As := [.int 2]) (rest := []) ⟨hx, hb, hml, hown, hts⟩ (c_X6_holds l D cI cZ a H.size σ 2) (cwV 1 hts gX6_leave_X6_holds rfl rfl rfl (by decide +kernel) ⟨Nat.le_of_ble_eq_true rfl, Nat.le_of_ble_eq_true rfl⟩) hP hK hD hS hA (va_recv hK hP (ci := 6) (q0 := 0) rfl rfl) rfl hl.1 (Nat.le_of_ble_eq_true rfl) (Nat.zero_le _) (Nat.zero_le _) dX6_leave_78 rfl (fun r_78 u_78 H locs h_78 hP hD hS => ?_)
          obtain ⟨e_78, h_78⟩ := h_78
          have e_78 := Eq.symm e_78
          subst e_78
          have hP : va_P D vwCl (wM cI cZ a (va_up σ 34 (fun _ => 2))) H := hP
          have hD : va_D A (wM cI cZ a (va_up σ 34 (fun _ => 2))) := hD
          obtain rfl : r_78 = 0 := h_78.trans (by decide)
          refine lv_if_ne (tgt := 86) hx hb dX6_leave_81 (by decide) (fun c9 => absurd (by decide) c9) (fun _ => ?_)
          refine lv_iconst (v := 0) hx hb dX6_leave_84 (by decide) ?_
          exact MI.ret hx hb hr hlocks hK hP hD hS dX6_leave_85 (by exact Or.inl (rf_ (by rw [cdLe, cif_t h_2, nI_clamp (show k < 2 ^ 31 by omega), cif_f (fun h => h.2.2 c_49)]) (by decide)))
        · skip
          have c_49 : ¬ 4 ≤ Z (sR (σ 4 k)) := by rw [show (4 : Int32) = nI 4 from rfl, nI_leI (by omega) (by have := Z_le hM9 (r := (sR (σ 4 k))) (sR_6 h_26); omega)] at c_49; exact c_49
          refine lv_iconst (v := 1) hx hb dX6_leave_52 (by decide) ?_
          refine lv_goto (tgt := 57) hx hb dX6_leave_53 (by decide) ?_
          refine lv_istore (lv' := [(4, .int 1), (3, .int (σ 4 k)), (2, .int 1), (0, .ref (a 0)), (1, .int (nI k))]) hx hb dX6_leave_57 hl (by decide) rfl (fun ls hl => ?_)
          refine lv_aload_n hx hb dX6_leave_59 rfl (lv_at hl 3 rfl) ?_
          refine lv_iload_n hx hb dX6_leave_60 rfl (lv_at hl 2 rfl) ?_
          refine lv_if_ne (tgt := 68) hx hb dX6_leave_61 (by decide) (fun _ => ?_) (fun c9 => absurd c9 (by decide))
          refine lv_iload hx hb dX6_leave_68 (lv_at hl 0 rfl) ?_
          refine lv_if_eq (tgt := 77) hx hb dX6_leave_70 (by decide) (fun c9 => absurd c9 (by decide)) (fun _ => ?_)
          refine lv_iconst (v := 0) hx hb dX6_leave_73 (by decide) ?_
          refine lv_goto (tgt := 78) hx hb dX6_leave_74 (by decide) ?_
          refine MI.callV (As := [.int 0]) (rest := []) ⟨hx, hb, hml, hown, hts⟩ (c_X6_holds l D cI cZ a H.size σ 0) (cwV 1 hts gX6_leave_X6_holds rfl rfl rfl (by decide +kernel) ⟨Nat.le_of_ble_eq_true rfl, Nat.le_of_ble_eq_true rfl⟩) hP hK hD hS hA (va_recv hK hP (ci := 6) (q0 := 0) rfl rfl) rfl hl.1 (Nat.le_of_ble_eq_true rfl) (Nat.zero_le _) (Nat.zero_le _) dX6_leave_78 rfl (fun r_78 u_78 H locs h_78 hP hD hS => ?_)
          obtain ⟨e_78, h_78⟩ := h_78
          have e_78 := Eq.symm e_78
          subst e_78
          have hP : va_P D vwCl (wM cI cZ a (va_up σ 34 (fun _ => 0))) H := hP
          have hD : va_D A (wM cI cZ a (va_up σ 34 (fun _ => 0))) := hD
          obtain rfl : r_78 = 1 := h_78.trans (by decide)
          refine lv_if_ne (tgt := 86) hx hb dX6_leave_81 (by decide) (fun _ => ?_) (fun c9 => absurd c9 (by decide))
          refine lv_aload_n hx hb dX6_leave_86 rfl (lv_at hl 3 rfl) ?_
          refine lv_bipush (v := 10) hx hb dX6_leave_87 (by decide) ?_
          refine lv_iload_n hx hb dX6_leave_89 rfl (lv_at hl 4 rfl) ?_
          refine lv_iadd hx hb dX6_leave_90 ?_
          refine lv_topi (fun v_91 e_91 => ?_)
          obtain rfl : v_91 = wh (2 + k) := by rw [e_91]; exact wh_t k
          refine lv_aload_n hx hb dX6_leave_91 rfl (lv_at hl 3 rfl) ?_
          refine lv_bipush (v := 10) hx hb dX6_leave_92 (by decide) ?_
          refine lv_iload_n hx hb dX6_leave_94 rfl (lv_at hl 4 rfl) ?_
          refine lv_iadd hx hb dX6_leave_95 ?_
          refine lv_topi (fun v_96 e_96 => ?_)
          obtain rfl : v_96 = wh (2 + k) := by rw [e_96]; exact wh_t k
          refine MI.callV (As := [.int (wh (2 + k))]) (rest := [.int (wh (2 + k)), .ref (a 0)]) ⟨hx, hb, hml, hown, hts⟩ (c_X6_many l D cI cZ a H.size (va_up σ 34 (fun _ => 0)) (wh (2 + k)) nw hnw hnw8) (cwV 1 hts gX6_leave_X6_many rfl rfl rfl (by decide +kernel) ⟨Nat.le_of_ble_eq_true rfl, Nat.le_of_ble_eq_true rfl⟩) hP hK hD hS hA (va_recv hK hP (ci := 6) (q0 := 0) rfl rfl) rfl hl.1 (Nat.le_of_ble_eq_true rfl) (Nat.zero_le _) (Nat.zero_le _) dX6_leave_96 rfl (fun r_96 u_96 H locs h_96 hP hD hS => ?_)
          obtain ⟨e_96, h_96⟩ := h_96
          have e_96 := Eq.symm e_96
          subst e_96
          have h_96 : r_96 = nI (mny (σ 32) (wh (2 + k)) nw) := h_96
          refine lv_topi (fun v_99 e_99 => ?_)
          obtain rfl : v_99 = nI (Z (2 + k)) := by rw [e_99]; rw [h_96, hM9 (2 + k) (by omega)]
          refine lv_iconst (v := 1) hx hb dX6_leave_99 (by decide) ?_
          refine lv_isub hx hb dX6_leave_100 ?_
          refine lv_topi (fun v_101 e_101 => ?_)
          obtain rfl : v_101 = nI (Z (2 + k) - 1) := by rw [e_101]; rw [show (1 : Int32) = nI 1 from rfl]; exact pk_sub (by omega)
          refine MI.callV (As := [.int (wh (2 + k)), .int (nI (Z (2 + k) - 1))]) (rest := []) ⟨hx, hb, hml, hown, hts⟩ (c_X6_waggon l D cI cZ a H.size (va_up σ 34 (fun _ => 0)) (wh (2 + k)) (nI (Z (2 + k) - 1)) nw hnw hnw8) (cwV 2 hts gX6_leave_X6_waggon rfl rfl rfl (by decide +kernel) ⟨Nat.le_of_ble_eq_true rfl, Nat.le_of_ble_eq_true rfl⟩) hP hK hD hS hA (va_recv hK hP (ci := 6) (q0 := 0) rfl rfl) rfl hl.1 (Nat.le_of_ble_eq_true rfl) (Nat.zero_le _) (Nat.zero_le _) dX6_leave_101 rfl (fun r_101 u_101 H locs h_101 hP hD hS => ?_)
          obtain ⟨e_101, h_101⟩ := h_101
          have e_101 := Eq.symm e_101
          subst e_101
          have h_101 : r_101 = wgn (σ 32) (σ 33) (wh (2 + k)) (nI (Z (2 + k) - 1)) nw := h_101
          refine lv_topi (fun v_104 e_104 => ?_)
          obtain rfl : v_104 = nI (J (2 + k) (Z (2 + k) - 1)) := by rw [e_104]; rw [h_101]; exact (hG9 (2 + k) (by omega) (Z (2 + k) - 1) (by omega)).1
          refine lv_istore (lv' := [(5, .int (nI (J (2 + k) (Z (2 + k) - 1)))), (4, .int 1), (3, .int (σ 4 k)), (2, .int 1), (0, .ref (a 0)), (1, .int (nI k))]) hx hb dX6_leave_104 hl (by decide) rfl (fun ls hl => ?_)
          refine lv_aload_n hx hb dX6_leave_106 rfl (lv_at hl 4 rfl) ?_
          refine lv_iload hx hb dX6_leave_107 (lv_at hl 0 rfl) ?_
          refine lv_iload_n hx hb dX6_leave_109 rfl (lv_at hl 2 rfl) ?_
          refine MV.callV (As := [.int (nI (J (2 + k) (Z (2 + k) - 1))), .int (σ 4 k)]) (rest := []) ⟨hx, hb, hml, hown, hts⟩ (c_X6_comes l D cI cZ a H.size (va_up σ 34 (fun _ => 0)) (J (2 + k) (Z (2 + k) - 1)) (σ 4 k) (hG9 (2 + k) (by omega) (Z (2 + k) - 1) (by omega)).2 nw hnw hnw8) (cwV 2 hts gX6_leave_X6_comes rfl rfl rfl (by decide +kernel) ⟨Nat.le_of_ble_eq_true rfl, Nat.le_of_ble_eq_true rfl⟩) hP hK hD hS hA (va_recv hK hP (ci := 6) (q0 := 0) rfl rfl) rfl hl.1 (Nat.le_of_ble_eq_true rfl) (Nat.zero_le _) (Nat.zero_le _) dX6_leave_110 rfl (fun u_110 H locs h_110 hP hD hS => ?_)
          have e_110 := h_110
          have e_110 := Eq.symm e_110
          subst e_110
          have hP : va_P D vwCl (wM cI cZ a (va_up (va_up (va_up σ 32 (upd (σ 32) (J (2 + k) (Z (2 + k) - 1)) (σ 4 k))) 33 (upd (σ 33) (J (2 + k) (Z (2 + k) - 1)) (nI (mny (σ 32) (σ 4 k) nw)))) 34 (fun _ => 0))) H := hP
          have hD : va_D A (wM cI cZ a (va_up (va_up (va_up σ 32 (upd (σ 32) (J (2 + k) (Z (2 + k) - 1)) (σ 4 k))) 33 (upd (σ 33) (J (2 + k) (Z (2 + k) - 1)) (nI (mny (σ 32) (σ 4 k) nw)))) 34 (fun _ => 0))) := hD
          rw [show mny (σ 32) (σ 4 k) nw = Z (sR (σ 4 k)) from many_s hM9 h_26] at hP hD
          refine lv_aload_n hx hb dX6_leave_113 rfl (lv_at hl 4 rfl) ?_
          refine va_get (D := D) (ci := 6) (v := .ref (a 20)) (C := RX6) (T := TX6) (N := 26) hx hb hts in_X6_leave_X6 hown hK hP 0 rfl rfl 24 (by decide) (hts (.fieldLink RX6 68 "WarpyardModel" "prices" "[I") (by decide +kernel)) (fun _ h9 => h9) rfl dX6_leave_114 ?_
          refine lv_iload hx hb dX6_leave_117 (lv_at hl 0 rfl) ?_
          refine na_iald hx hb hK hP 20 0 (f := (σ 26)) rfl rfl (J (2 + k) (Z (2 + k) - 1)) (hG9 (2 + k) (by omega) (Z (2 + k) - 1) (by omega)).2 (by decide) rfl dX6_leave_119 ?_
          refine lv_if_eq (tgt := 134) hx hb dX6_leave_120 (by decide) (fun c_120 => ?_) (fun c_120 => ?_)
          · skip
            refine lv_iconst (v := 0) hx hb dX6_leave_134 (by decide) ?_
            exact MI.ret hx hb hr hlocks hK hP hD hS dX6_leave_135 (by simp only [nI_clamp (show k < 2 ^ 31 by omega)]; exact Or.inr ⟨by rw [cdLe, cif_t h_2, nI_clamp (show k < 2 ^ 31 by omega), cif_t ⟨h_26, c_40, c_49⟩], Or.inl ⟨Or.inl c_120, trivial, trivial⟩⟩)
          · skip
            refine lv_aload_n hx hb dX6_leave_123 rfl (lv_at hl 4 rfl) ?_
            refine va_get (D := D) (ci := 6) (v := .ref (a 18)) (C := RX6) (T := TX6) (N := 26) hx hb hts in_X6_leave_X6 hown hK hP 0 rfl rfl 22 (by decide) (hts (.fieldLink RX6 62 "WarpyardModel" "offeredSidings" "[I") (by decide +kernel)) (fun _ h9 => h9) rfl dX6_leave_124 ?_
            refine lv_iload hx hb dX6_leave_127 (lv_at hl 0 rfl) ?_
            refine na_iald hx hb hK hP 18 0 (f := (σ 24)) rfl rfl (J (2 + k) (Z (2 + k) - 1)) (hG9 (2 + k) (by omega) (Z (2 + k) - 1) (by omega)).2 (by decide) rfl dX6_leave_129 ?_
            refine lv_iload_n hx hb dX6_leave_130 rfl (lv_at hl 2 rfl) ?_
            refine lv_icmp_eq (tgt := 136) hx hb dX6_leave_131 (by decide) (fun c_131 => ?_) (fun c_131 => ?_)
            · skip
              refine lv_aload_n hx hb dX6_leave_136 rfl (lv_at hl 4 rfl) ?_
              refine va_get (D := D) (ci := 6) (v := .int (σ 0 0)) (C := RX6) (T := TX6) (N := 26) hx hb hts in_X6_leave_X6 hown hK hP 0 rfl rfl 1 (by decide) (hts (.fieldLink RX6 113 "WarpyardModel" "clock" "I") (by decide +kernel)) (fun _ h9 => h9) rfl dX6_leave_137 ?_
              refine lv_aload_n hx hb dX6_leave_140 rfl (lv_at hl 4 rfl) ?_
              refine va_get (D := D) (ci := 6) (v := .ref (a 19)) (C := RX6) (T := TX6) (N := 26) hx hb hts in_X6_leave_X6 hown hK hP 0 rfl rfl 23 (by decide) (hts (.fieldLink RX6 65 "WarpyardModel" "offeredMinutes" "[I") (by decide +kernel)) (fun _ h9 => h9) rfl dX6_leave_141 ?_
              refine lv_iload hx hb dX6_leave_144 (lv_at hl 0 rfl) ?_
              refine na_iald hx hb hK hP 19 0 (f := (σ 25)) rfl rfl (J (2 + k) (Z (2 + k) - 1)) (hG9 (2 + k) (by omega) (Z (2 + k) - 1) (by omega)).2 (by decide) rfl dX6_leave_146 ?_
              refine lv_icmp_le (tgt := 165) hx hb dX6_leave_147 (by decide) (fun c_147 => ?_) (fun c_147 => ?_)
              · skip
                refine lv_iconst (v := 0) hx hb dX6_leave_165 (by decide) ?_
                refine lv_istore (lv' := [(6, .int 0), (5, .int (nI (J (2 + k) (Z (2 + k) - 1)))), (4, .int 1), (3, .int (σ 4 k)), (2, .int 1), (0, .ref (a 0)), (1, .int (nI k))]) hx hb dX6_leave_166 hl (by decide) rfl (fun ls hl => ?_)
                refine lv_aload_n hx hb dX6_leave_168 rfl (lv_at hl 5 rfl) ?_
                refine va_get (D := D) (ci := 6) (v := .ref (a 20)) (C := RX6) (T := TX6) (N := 26) hx hb hts in_X6_leave_X6 hown hK hP 0 rfl rfl 24 (by decide) (hts (.fieldLink RX6 68 "WarpyardModel" "prices" "[I") (by decide +kernel)) (fun _ h9 => h9) rfl dX6_leave_169 ?_
                refine lv_iload hx hb dX6_leave_172 (lv_at hl 1 rfl) ?_
                refine na_iald hx hb hK hP 20 0 (f := (σ 26)) rfl rfl (J (2 + k) (Z (2 + k) - 1)) (hG9 (2 + k) (by omega) (Z (2 + k) - 1) (by omega)).2 (by decide) rfl dX6_leave_174 ?_
                refine lv_bipush (v := 10) hx hb dX6_leave_175 (by decide) ?_
                refine lv_iload hx hb dX6_leave_177 (lv_at hl 0 rfl) ?_
                refine lv_bipush (v := 59) hx hb dX6_leave_179 (by decide) ?_
                refine lv_iadd hx hb dX6_leave_181 ?_
                refine lv_topi (fun v_181 e_181 => ?_)
                obtain rfl : v_181 = 59 := e_181.trans (by decide)
                refine lv_bipush (v := 60) hx hb dX6_leave_182 (by decide) ?_
                refine lv_idiv hx hb dX6_leave_184 (by decide) ?_
                refine lv_topi (fun v_184 e_184 => ?_)
                obtain rfl : v_184 = 0 := e_184.trans (by decide)
                refine lv_imul hx hb dX6_leave_185 ?_
                refine lv_topi (fun v_185 e_185 => ?_)
                obtain rfl : v_185 = 0 := e_185.trans (by decide)
                refine lv_isub hx hb dX6_leave_186 ?_
                refine lv_istore (lv' := [(7, .int ((σ 26 (J (2 + k) (Z (2 + k) - 1))) - 0)), (6, .int 0), (5, .int (nI (J (2 + k) (Z (2 + k) - 1)))), (4, .int 1), (3, .int (σ 4 k)), (2, .int 1), (0, .ref (a 0)), (1, .int (nI k))]) hx hb dX6_leave_187 hl (by decide) rfl (fun ls hl => ?_)
                refine lv_iload hx hb dX6_leave_189 (lv_at hl 0 rfl) ?_
                refine lv_if_ge (tgt := 198) hx hb dX6_leave_191 (by decide) (fun c_191 => ?_) (fun c_191 => ?_)
                · skip
                  refine lv_iload hx hb dX6_leave_198 (lv_at hl 0 rfl) ?_
                  refine lv_istore (lv' := [(7, .int ((σ 26 (J (2 + k) (Z (2 + k) - 1))) - 0)), (6, .int 0), (5, .int (nI (J (2 + k) (Z (2 + k) - 1)))), (4, .int 1), (3, .int (σ 4 k)), (2, .int 1), (0, .ref (a 0)), (1, .int (nI k))]) hx hb dX6_leave_200 hl (by decide) rfl (fun ls hl => ?_)
                  refine lv_aload_n hx hb dX6_leave_202 rfl (lv_at hl 6 rfl) ?_
                  refine va_get (D := D) (ci := 6) (v := .ref (a 20)) (C := RX6) (T := TX6) (N := 26) hx hb hts in_X6_leave_X6 hown hK hP 0 rfl rfl 24 (by decide) (hts (.fieldLink RX6 68 "WarpyardModel" "prices" "[I") (by decide +kernel)) (fun _ h9 => h9) rfl dX6_leave_203 ?_
                  refine lv_iload hx hb dX6_leave_206 (lv_at hl 2 rfl) ?_
                  refine lv_iconst (v := 0) hx hb dX6_leave_208 (by decide) ?_
                  refine na_iast hx hb hK hP hD hS 20 0 (f := (σ 26)) (x := 0) rfl rfl (J (2 + k) (Z (2 + k) - 1)) (hG9 (2 + k) (by omega) (Z (2 + k) - 1) (by omega)).2 (by decide) rfl dX6_leave_209 (fun H locs hP hD hS => ?_)
                  have hP : va_P D vwCl (wM cI cZ a (va_up (va_up (va_up (va_up σ 26 (upd (σ 26) (J (2 + k) (Z (2 + k) - 1)) 0)) 32 (upd (σ 32) (J (2 + k) (Z (2 + k) - 1)) (σ 4 k))) 33 (upd (σ 33) (J (2 + k) (Z (2 + k) - 1)) (nI (Z (sR (σ 4 k)))))) 34 (fun _ => 0))) H := hP
                  have hD : va_D A (wM cI cZ a (va_up (va_up (va_up (va_up σ 26 (upd (σ 26) (J (2 + k) (Z (2 + k) - 1)) 0)) 32 (upd (σ 32) (J (2 + k) (Z (2 + k) - 1)) (σ 4 k))) 33 (upd (σ 33) (J (2 + k) (Z (2 + k) - 1)) (nI (Z (sR (σ 4 k)))))) 34 (fun _ => 0))) := hD
                  refine lv_aload_n hx hb dX6_leave_210 rfl (lv_at hl 6 rfl) ?_
                  refine lv_dup hx hb dX6_leave_211 rfl ?_
                  refine va_get (D := D) (ci := 6) (v := .int (σ 1 0)) (C := RX6) (T := TX6) (N := 26) hx hb hts in_X6_leave_X6 hown hK hP 0 rfl rfl 25 (by decide) (hts (.fieldLink RX6 152 "WarpyardModel" "earned" "I") (by decide +kernel)) (fun _ h9 => h9) rfl dX6_leave_212 ?_
                  refine lv_iload hx hb dX6_leave_215 (lv_at hl 0 rfl) ?_
                  refine lv_iadd hx hb dX6_leave_217 ?_
                  refine va_put (D := D) (ci := 6) (v := .int ((σ 1 0) + ((σ 26 (J (2 + k) (Z (2 + k) - 1))) - 0))) (ty := .int) (C := RX6) (T := TX6) (N := 26) hx hb hts in_X6_leave_X6 tyX6 tyX6_ok nmX6 hown hK hP hD hS 0 rfl rfl 25 (by decide) (hts (.fieldLink RX6 152 "WarpyardModel" "earned" "I") (by decide +kernel)) (fun _ h9 => h9) rfl (by decide +kernel) rfl rfl (Nat.le_of_ble_eq_true rfl) dX6_leave_218 (fun H locs hP hD hS => ?_)
                  have hP : va_P D vwCl (wM cI cZ a (va_up (va_up (va_up (va_up (va_up σ 1 (fun _ => (σ 1 0) + ((σ 26 (J (2 + k) (Z (2 + k) - 1))) - 0))) 26 (upd (σ 26) (J (2 + k) (Z (2 + k) - 1)) 0)) 32 (upd (σ 32) (J (2 + k) (Z (2 + k) - 1)) (σ 4 k))) 33 (upd (σ 33) (J (2 + k) (Z (2 + k) - 1)) (nI (Z (sR (σ 4 k)))))) 34 (fun _ => 0))) H := hP
                  have hD : va_D A (wM cI cZ a (va_up (va_up (va_up (va_up (va_up σ 1 (fun _ => (σ 1 0) + ((σ 26 (J (2 + k) (Z (2 + k) - 1))) - 0))) 26 (upd (σ 26) (J (2 + k) (Z (2 + k) - 1)) 0)) 32 (upd (σ 32) (J (2 + k) (Z (2 + k) - 1)) (σ 4 k))) 33 (upd (σ 33) (J (2 + k) (Z (2 + k) - 1)) (nI (Z (sR (σ 4 k)))))) 34 (fun _ => 0))) := hD
                  refine lv_iload hx hb dX6_leave_221 (lv_at hl 0 rfl) ?_
                  exact MI.ret hx hb hr hlocks hK hP hD hS dX6_leave_223 (by simp only [nI_clamp (show k < 2 ^ 31 by omega)]; exact Or.inr ⟨by rw [cdLe, cif_t h_2, nI_clamp (show k < 2 ^ 31 by omega), cif_t ⟨h_26, c_40, c_49⟩], Or.inr ⟨⟨c_120, c_131⟩, by rw [(py_aa c_147 c_191)], (py_aa c_147 c_191).symm⟩⟩)
                · skip
                  refine lv_iconst (v := 0) hx hb dX6_leave_194 (by decide) ?_
                  refine lv_goto (tgt := 200) hx hb dX6_leave_195 (by decide) ?_
                  refine lv_istore (lv' := [(7, .int 0), (6, .int 0), (5, .int (nI (J (2 + k) (Z (2 + k) - 1)))), (4, .int 1), (3, .int (σ 4 k)), (2, .int 1), (0, .ref (a 0)), (1, .int (nI k))]) hx hb dX6_leave_200 hl (by decide) rfl (fun ls hl => ?_)
                  refine lv_aload_n hx hb dX6_leave_202 rfl (lv_at hl 6 rfl) ?_
                  refine va_get (D := D) (ci := 6) (v := .ref (a 20)) (C := RX6) (T := TX6) (N := 26) hx hb hts in_X6_leave_X6 hown hK hP 0 rfl rfl 24 (by decide) (hts (.fieldLink RX6 68 "WarpyardModel" "prices" "[I") (by decide +kernel)) (fun _ h9 => h9) rfl dX6_leave_203 ?_
                  refine lv_iload hx hb dX6_leave_206 (lv_at hl 2 rfl) ?_
                  refine lv_iconst (v := 0) hx hb dX6_leave_208 (by decide) ?_
                  refine na_iast hx hb hK hP hD hS 20 0 (f := (σ 26)) (x := 0) rfl rfl (J (2 + k) (Z (2 + k) - 1)) (hG9 (2 + k) (by omega) (Z (2 + k) - 1) (by omega)).2 (by decide) rfl dX6_leave_209 (fun H locs hP hD hS => ?_)
                  have hP : va_P D vwCl (wM cI cZ a (va_up (va_up (va_up (va_up σ 26 (upd (σ 26) (J (2 + k) (Z (2 + k) - 1)) 0)) 32 (upd (σ 32) (J (2 + k) (Z (2 + k) - 1)) (σ 4 k))) 33 (upd (σ 33) (J (2 + k) (Z (2 + k) - 1)) (nI (Z (sR (σ 4 k)))))) 34 (fun _ => 0))) H := hP
                  have hD : va_D A (wM cI cZ a (va_up (va_up (va_up (va_up σ 26 (upd (σ 26) (J (2 + k) (Z (2 + k) - 1)) 0)) 32 (upd (σ 32) (J (2 + k) (Z (2 + k) - 1)) (σ 4 k))) 33 (upd (σ 33) (J (2 + k) (Z (2 + k) - 1)) (nI (Z (sR (σ 4 k)))))) 34 (fun _ => 0))) := hD
                  refine lv_aload_n hx hb dX6_leave_210 rfl (lv_at hl 6 rfl) ?_
                  refine lv_dup hx hb dX6_leave_211 rfl ?_
                  refine va_get (D := D) (ci := 6) (v := .int (σ 1 0)) (C := RX6) (T := TX6) (N := 26) hx hb hts in_X6_leave_X6 hown hK hP 0 rfl rfl 25 (by decide) (hts (.fieldLink RX6 152 "WarpyardModel" "earned" "I") (by decide +kernel)) (fun _ h9 => h9) rfl dX6_leave_212 ?_
                  refine lv_iload hx hb dX6_leave_215 (lv_at hl 0 rfl) ?_
                  refine lv_iadd hx hb dX6_leave_217 ?_
                  refine va_put (D := D) (ci := 6) (v := .int ((σ 1 0) + 0)) (ty := .int) (C := RX6) (T := TX6) (N := 26) hx hb hts in_X6_leave_X6 tyX6 tyX6_ok nmX6 hown hK hP hD hS 0 rfl rfl 25 (by decide) (hts (.fieldLink RX6 152 "WarpyardModel" "earned" "I") (by decide +kernel)) (fun _ h9 => h9) rfl (by decide +kernel) rfl rfl (Nat.le_of_ble_eq_true rfl) dX6_leave_218 (fun H locs hP hD hS => ?_)
                  have hP : va_P D vwCl (wM cI cZ a (va_up (va_up (va_up (va_up (va_up σ 1 (fun _ => (σ 1 0) + 0)) 26 (upd (σ 26) (J (2 + k) (Z (2 + k) - 1)) 0)) 32 (upd (σ 32) (J (2 + k) (Z (2 + k) - 1)) (σ 4 k))) 33 (upd (σ 33) (J (2 + k) (Z (2 + k) - 1)) (nI (Z (sR (σ 4 k)))))) 34 (fun _ => 0))) H := hP
                  have hD : va_D A (wM cI cZ a (va_up (va_up (va_up (va_up (va_up σ 1 (fun _ => (σ 1 0) + 0)) 26 (upd (σ 26) (J (2 + k) (Z (2 + k) - 1)) 0)) 32 (upd (σ 32) (J (2 + k) (Z (2 + k) - 1)) (σ 4 k))) 33 (upd (σ 33) (J (2 + k) (Z (2 + k) - 1)) (nI (Z (sR (σ 4 k)))))) 34 (fun _ => 0))) := hD
                  refine lv_iload hx hb dX6_leave_221 (lv_at hl 0 rfl) ?_
                  exact MI.ret hx hb hr hlocks hK hP hD hS dX6_leave_223 (by simp only [nI_clamp (show k < 2 ^ 31 by omega)]; exact Or.inr ⟨by rw [cdLe, cif_t h_2, nI_clamp (show k < 2 ^ 31 by omega), cif_t ⟨h_26, c_40, c_49⟩], Or.inr ⟨⟨c_120, c_131⟩, by rw [(py_ab c_147 c_191)], (py_ab c_147 c_191).symm⟩⟩)
              · skip
                refine lv_aload_n hx hb dX6_leave_150 rfl (lv_at hl 4 rfl) ?_
                refine va_get (D := D) (ci := 6) (v := .int (σ 0 0)) (C := RX6) (T := TX6) (N := 26) hx hb hts in_X6_leave_X6 hown hK hP 0 rfl rfl 1 (by decide) (hts (.fieldLink RX6 113 "WarpyardModel" "clock" "I") (by decide +kernel)) (fun _ h9 => h9) rfl dX6_leave_151 ?_
                refine lv_aload_n hx hb dX6_leave_154 rfl (lv_at hl 4 rfl) ?_
                refine va_get (D := D) (ci := 6) (v := .ref (a 19)) (C := RX6) (T := TX6) (N := 26) hx hb hts in_X6_leave_X6 hown hK hP 0 rfl rfl 23 (by decide) (hts (.fieldLink RX6 65 "WarpyardModel" "offeredMinutes" "[I") (by decide +kernel)) (fun _ h9 => h9) rfl dX6_leave_155 ?_
                refine lv_iload hx hb dX6_leave_158 (lv_at hl 0 rfl) ?_
                refine na_iald hx hb hK hP 19 0 (f := (σ 25)) rfl rfl (J (2 + k) (Z (2 + k) - 1)) (hG9 (2 + k) (by omega) (Z (2 + k) - 1) (by omega)).2 (by decide) rfl dX6_leave_160 ?_
                refine lv_isub hx hb dX6_leave_161 ?_
                refine lv_goto (tgt := 166) hx hb dX6_leave_162 (by decide) ?_
                refine lv_istore (lv' := [(6, .int ((σ 0 0) - (σ 25 (J (2 + k) (Z (2 + k) - 1))))), (5, .int (nI (J (2 + k) (Z (2 + k) - 1)))), (4, .int 1), (3, .int (σ 4 k)), (2, .int 1), (0, .ref (a 0)), (1, .int (nI k))]) hx hb dX6_leave_166 hl (by decide) rfl (fun ls hl => ?_)
                refine lv_aload_n hx hb dX6_leave_168 rfl (lv_at hl 5 rfl) ?_
                refine va_get (D := D) (ci := 6) (v := .ref (a 20)) (C := RX6) (T := TX6) (N := 26) hx hb hts in_X6_leave_X6 hown hK hP 0 rfl rfl 24 (by decide) (hts (.fieldLink RX6 68 "WarpyardModel" "prices" "[I") (by decide +kernel)) (fun _ h9 => h9) rfl dX6_leave_169 ?_
                refine lv_iload hx hb dX6_leave_172 (lv_at hl 1 rfl) ?_
                refine na_iald hx hb hK hP 20 0 (f := (σ 26)) rfl rfl (J (2 + k) (Z (2 + k) - 1)) (hG9 (2 + k) (by omega) (Z (2 + k) - 1) (by omega)).2 (by decide) rfl dX6_leave_174 ?_
                refine lv_bipush (v := 10) hx hb dX6_leave_175 (by decide) ?_
                refine lv_iload hx hb dX6_leave_177 (lv_at hl 0 rfl) ?_
                refine lv_bipush (v := 59) hx hb dX6_leave_179 (by decide) ?_
                refine lv_iadd hx hb dX6_leave_181 ?_
                refine lv_bipush (v := 60) hx hb dX6_leave_182 (by decide) ?_
                refine lv_idiv hx hb dX6_leave_184 (by decide) ?_
                refine lv_imul hx hb dX6_leave_185 ?_
                refine lv_isub hx hb dX6_leave_186 ?_
                refine lv_istore (lv' := [(7, .int ((σ 26 (J (2 + k) (Z (2 + k) - 1))) - (10 * ((((σ 0 0) - (σ 25 (J (2 + k) (Z (2 + k) - 1)))) + 59) / 60)))), (6, .int ((σ 0 0) - (σ 25 (J (2 + k) (Z (2 + k) - 1))))), (5, .int (nI (J (2 + k) (Z (2 + k) - 1)))), (4, .int 1), (3, .int (σ 4 k)), (2, .int 1), (0, .ref (a 0)), (1, .int (nI k))]) hx hb dX6_leave_187 hl (by decide) rfl (fun ls hl => ?_)
                refine lv_iload hx hb dX6_leave_189 (lv_at hl 0 rfl) ?_
                refine lv_if_ge (tgt := 198) hx hb dX6_leave_191 (by decide) (fun c_191 => ?_) (fun c_191 => ?_)
                · skip
                  refine lv_iload hx hb dX6_leave_198 (lv_at hl 0 rfl) ?_
                  refine lv_istore (lv' := [(7, .int ((σ 26 (J (2 + k) (Z (2 + k) - 1))) - (10 * ((((σ 0 0) - (σ 25 (J (2 + k) (Z (2 + k) - 1)))) + 59) / 60)))), (6, .int ((σ 0 0) - (σ 25 (J (2 + k) (Z (2 + k) - 1))))), (5, .int (nI (J (2 + k) (Z (2 + k) - 1)))), (4, .int 1), (3, .int (σ 4 k)), (2, .int 1), (0, .ref (a 0)), (1, .int (nI k))]) hx hb dX6_leave_200 hl (by decide) rfl (fun ls hl => ?_)
                  refine lv_aload_n hx hb dX6_leave_202 rfl (lv_at hl 6 rfl) ?_
                  refine va_get (D := D) (ci := 6) (v := .ref (a 20)) (C := RX6) (T := TX6) (N := 26) hx hb hts in_X6_leave_X6 hown hK hP 0 rfl rfl 24 (by decide) (hts (.fieldLink RX6 68 "WarpyardModel" "prices" "[I") (by decide +kernel)) (fun _ h9 => h9) rfl dX6_leave_203 ?_
                  refine lv_iload hx hb dX6_leave_206 (lv_at hl 2 rfl) ?_
                  refine lv_iconst (v := 0) hx hb dX6_leave_208 (by decide) ?_
                  refine na_iast hx hb hK hP hD hS 20 0 (f := (σ 26)) (x := 0) rfl rfl (J (2 + k) (Z (2 + k) - 1)) (hG9 (2 + k) (by omega) (Z (2 + k) - 1) (by omega)).2 (by decide) rfl dX6_leave_209 (fun H locs hP hD hS => ?_)
                  have hP : va_P D vwCl (wM cI cZ a (va_up (va_up (va_up (va_up σ 26 (upd (σ 26) (J (2 + k) (Z (2 + k) - 1)) 0)) 32 (upd (σ 32) (J (2 + k) (Z (2 + k) - 1)) (σ 4 k))) 33 (upd (σ 33) (J (2 + k) (Z (2 + k) - 1)) (nI (Z (sR (σ 4 k)))))) 34 (fun _ => 0))) H := hP
                  have hD : va_D A (wM cI cZ a (va_up (va_up (va_up (va_up σ 26 (upd (σ 26) (J (2 + k) (Z (2 + k) - 1)) 0)) 32 (upd (σ 32) (J (2 + k) (Z (2 + k) - 1)) (σ 4 k))) 33 (upd (σ 33) (J (2 + k) (Z (2 + k) - 1)) (nI (Z (sR (σ 4 k)))))) 34 (fun _ => 0))) := hD
                  refine lv_aload_n hx hb dX6_leave_210 rfl (lv_at hl 6 rfl) ?_
                  refine lv_dup hx hb dX6_leave_211 rfl ?_
                  refine va_get (D := D) (ci := 6) (v := .int (σ 1 0)) (C := RX6) (T := TX6) (N := 26) hx hb hts in_X6_leave_X6 hown hK hP 0 rfl rfl 25 (by decide) (hts (.fieldLink RX6 152 "WarpyardModel" "earned" "I") (by decide +kernel)) (fun _ h9 => h9) rfl dX6_leave_212 ?_
                  refine lv_iload hx hb dX6_leave_215 (lv_at hl 0 rfl) ?_
                  refine lv_iadd hx hb dX6_leave_217 ?_
                  refine va_put (D := D) (ci := 6) (v := .int ((σ 1 0) + ((σ 26 (J (2 + k) (Z (2 + k) - 1))) - (10 * ((((σ 0 0) - (σ 25 (J (2 + k) (Z (2 + k) - 1)))) + 59) / 60))))) (ty := .int) (C := RX6) (T := TX6) (N := 26) hx hb hts in_X6_leave_X6 tyX6 tyX6_ok nmX6 hown hK hP hD hS 0 rfl rfl 25 (by decide) (hts (.fieldLink RX6 152 "WarpyardModel" "earned" "I") (by decide +kernel)) (fun _ h9 => h9) rfl (by decide +kernel) rfl rfl (Nat.le_of_ble_eq_true rfl) dX6_leave_218 (fun H locs hP hD hS => ?_)
                  have hP : va_P D vwCl (wM cI cZ a (va_up (va_up (va_up (va_up (va_up σ 1 (fun _ => (σ 1 0) + ((σ 26 (J (2 + k) (Z (2 + k) - 1))) - (10 * ((((σ 0 0) - (σ 25 (J (2 + k) (Z (2 + k) - 1)))) + 59) / 60))))) 26 (upd (σ 26) (J (2 + k) (Z (2 + k) - 1)) 0)) 32 (upd (σ 32) (J (2 + k) (Z (2 + k) - 1)) (σ 4 k))) 33 (upd (σ 33) (J (2 + k) (Z (2 + k) - 1)) (nI (Z (sR (σ 4 k)))))) 34 (fun _ => 0))) H := hP
                  have hD : va_D A (wM cI cZ a (va_up (va_up (va_up (va_up (va_up σ 1 (fun _ => (σ 1 0) + ((σ 26 (J (2 + k) (Z (2 + k) - 1))) - (10 * ((((σ 0 0) - (σ 25 (J (2 + k) (Z (2 + k) - 1)))) + 59) / 60))))) 26 (upd (σ 26) (J (2 + k) (Z (2 + k) - 1)) 0)) 32 (upd (σ 32) (J (2 + k) (Z (2 + k) - 1)) (σ 4 k))) 33 (upd (σ 33) (J (2 + k) (Z (2 + k) - 1)) (nI (Z (sR (σ 4 k)))))) 34 (fun _ => 0))) := hD
                  refine lv_iload hx hb dX6_leave_221 (lv_at hl 0 rfl) ?_
                  exact MI.ret hx hb hr hlocks hK hP hD hS dX6_leave_223 (by simp only [nI_clamp (show k < 2 ^ 31 by omega)]; exact Or.inr ⟨by rw [cdLe, cif_t h_2, nI_clamp (show k < 2 ^ 31 by omega), cif_t ⟨h_26, c_40, c_49⟩], Or.inr ⟨⟨c_120, c_131⟩, by rw [(py_ba c_147 c_191)], (py_ba c_147 c_191).symm⟩⟩)
                · skip
                  refine lv_iconst (v := 0) hx hb dX6_leave_194 (by decide) ?_
                  refine lv_goto (tgt := 200) hx hb dX6_leave_195 (by decide) ?_
                  refine lv_istore (lv' := [(7, .int 0), (6, .int ((σ 0 0) - (σ 25 (J (2 + k) (Z (2 + k) - 1))))), (5, .int (nI (J (2 + k) (Z (2 + k) - 1)))), (4, .int 1), (3, .int (σ 4 k)), (2, .int 1), (0, .ref (a 0)), (1, .int (nI k))]) hx hb dX6_leave_200 hl (by decide) rfl (fun ls hl => ?_)
                  refine lv_aload_n hx hb dX6_leave_202 rfl (lv_at hl 6 rfl) ?_
                  refine va_get (D := D) (ci := 6) (v := .ref (a 20)) (C := RX6) (T := TX6) (N := 26) hx hb hts in_X6_leave_X6 hown hK hP 0 rfl rfl 24 (by decide) (hts (.fieldLink RX6 68 "WarpyardModel" "prices" "[I") (by decide +kernel)) (fun _ h9 => h9) rfl dX6_leave_203 ?_
                  refine lv_iload hx hb dX6_leave_206 (lv_at hl 2 rfl) ?_
                  refine lv_iconst (v := 0) hx hb dX6_leave_208 (by decide) ?_
                  refine na_iast hx hb hK hP hD hS 20 0 (f := (σ 26)) (x := 0) rfl rfl (J (2 + k) (Z (2 + k) - 1)) (hG9 (2 + k) (by omega) (Z (2 + k) - 1) (by omega)).2 (by decide) rfl dX6_leave_209 (fun H locs hP hD hS => ?_)
                  have hP : va_P D vwCl (wM cI cZ a (va_up (va_up (va_up (va_up σ 26 (upd (σ 26) (J (2 + k) (Z (2 + k) - 1)) 0)) 32 (upd (σ 32) (J (2 + k) (Z (2 + k) - 1)) (σ 4 k))) 33 (upd (σ 33) (J (2 + k) (Z (2 + k) - 1)) (nI (Z (sR (σ 4 k)))))) 34 (fun _ => 0))) H := hP
                  have hD : va_D A (wM cI cZ a (va_up (va_up (va_up (va_up σ 26 (upd (σ 26) (J (2 + k) (Z (2 + k) - 1)) 0)) 32 (upd (σ 32) (J (2 + k) (Z (2 + k) - 1)) (σ 4 k))) 33 (upd (σ 33) (J (2 + k) (Z (2 + k) - 1)) (nI (Z (sR (σ 4 k)))))) 34 (fun _ => 0))) := hD
                  refine lv_aload_n hx hb dX6_leave_210 rfl (lv_at hl 6 rfl) ?_
                  refine lv_dup hx hb dX6_leave_211 rfl ?_
                  refine va_get (D := D) (ci := 6) (v := .int (σ 1 0)) (C := RX6) (T := TX6) (N := 26) hx hb hts in_X6_leave_X6 hown hK hP 0 rfl rfl 25 (by decide) (hts (.fieldLink RX6 152 "WarpyardModel" "earned" "I") (by decide +kernel)) (fun _ h9 => h9) rfl dX6_leave_212 ?_
                  refine lv_iload hx hb dX6_leave_215 (lv_at hl 0 rfl) ?_
                  refine lv_iadd hx hb dX6_leave_217 ?_
                  refine va_put (D := D) (ci := 6) (v := .int ((σ 1 0) + 0)) (ty := .int) (C := RX6) (T := TX6) (N := 26) hx hb hts in_X6_leave_X6 tyX6 tyX6_ok nmX6 hown hK hP hD hS 0 rfl rfl 25 (by decide) (hts (.fieldLink RX6 152 "WarpyardModel" "earned" "I") (by decide +kernel)) (fun _ h9 => h9) rfl (by decide +kernel) rfl rfl (Nat.le_of_ble_eq_true rfl) dX6_leave_218 (fun H locs hP hD hS => ?_)
                  have hP : va_P D vwCl (wM cI cZ a (va_up (va_up (va_up (va_up (va_up σ 1 (fun _ => (σ 1 0) + 0)) 26 (upd (σ 26) (J (2 + k) (Z (2 + k) - 1)) 0)) 32 (upd (σ 32) (J (2 + k) (Z (2 + k) - 1)) (σ 4 k))) 33 (upd (σ 33) (J (2 + k) (Z (2 + k) - 1)) (nI (Z (sR (σ 4 k)))))) 34 (fun _ => 0))) H := hP
                  have hD : va_D A (wM cI cZ a (va_up (va_up (va_up (va_up (va_up σ 1 (fun _ => (σ 1 0) + 0)) 26 (upd (σ 26) (J (2 + k) (Z (2 + k) - 1)) 0)) 32 (upd (σ 32) (J (2 + k) (Z (2 + k) - 1)) (σ 4 k))) 33 (upd (σ 33) (J (2 + k) (Z (2 + k) - 1)) (nI (Z (sR (σ 4 k)))))) 34 (fun _ => 0))) := hD
                  refine lv_iload hx hb dX6_leave_221 (lv_at hl 0 rfl) ?_
                  exact MI.ret hx hb hr hlocks hK hP hD hS dX6_leave_223 (by simp only [nI_clamp (show k < 2 ^ 31 by omega)]; exact Or.inr ⟨by rw [cdLe, cif_t h_2, nI_clamp (show k < 2 ^ 31 by omega), cif_t ⟨h_26, c_40, c_49⟩], Or.inr ⟨⟨c_120, c_131⟩, by rw [(py_bb c_147 c_191)], (py_bb c_147 c_191).symm⟩⟩)
            · skip
              refine lv_iconst (v := 0) hx hb dX6_leave_134 (by decide) ?_
              exact MI.ret hx hb hr hlocks hK hP hD hS dX6_leave_135 (by simp only [nI_clamp (show k < 2 ^ 31 by omega)]; exact Or.inr ⟨by rw [cdLe, cif_t h_2, nI_clamp (show k < 2 ^ 31 by omega), cif_t ⟨h_26, c_40, c_49⟩], Or.inl ⟨Or.inr c_131, trivial, trivial⟩⟩)
    · skip
      have e_26 := Eq.symm e_26
      subst e_26
      have h_26 : ¬ (inR (σ 4 k) 6 7) := h_26
      refine lv_if_eq (tgt := 56) hx hb dX6_leave_29 (by decide) (fun _ => ?_) (fun c9 => absurd (by decide) c9)
      refine lv_iconst (v := 0) hx hb dX6_leave_56 (by decide) ?_
      refine lv_istore (lv' := [(4, .int 0), (3, .int (σ 4 k)), (2, .int 1), (0, .ref (a 0)), (1, .int (nI k))]) hx hb dX6_leave_57 hl (by decide) rfl (fun ls hl => ?_)
      refine lv_aload_n hx hb dX6_leave_59 rfl (lv_at hl 3 rfl) ?_
      refine lv_iload_n hx hb dX6_leave_60 rfl (lv_at hl 2 rfl) ?_
      refine lv_if_ne (tgt := 68) hx hb dX6_leave_61 (by decide) (fun _ => ?_) (fun c9 => absurd c9 (by decide))
      refine lv_iload hx hb dX6_leave_68 (lv_at hl 0 rfl) ?_
      refine lv_if_eq (tgt := 77) hx hb dX6_leave_70 (by decide) (fun _ => ?_) (fun c9 => absurd (by decide) c9)
      refine lv_iconst (v := 2) hx hb dX6_leave_77 (by decide) ?_
      refine MI.callV (As := [.int 2]) (rest := []) ⟨hx, hb, hml, hown, hts⟩ (c_X6_holds l D cI cZ a H.size σ 2) (cwV 1 hts gX6_leave_X6_holds rfl rfl rfl (by decide +kernel) ⟨Nat.le_of_ble_eq_true rfl, Nat.le_of_ble_eq_true rfl⟩) hP hK hD hS hA (va_recv hK hP (ci := 6) (q0 := 0) rfl rfl) rfl hl.1 (Nat.le_of_ble_eq_true rfl) (Nat.zero_le _) (Nat.zero_le _) dX6_leave_78 rfl (fun r_78 u_78 H locs h_78 hP hD hS => ?_)
      obtain ⟨e_78, h_78⟩ := h_78
      have e_78 := Eq.symm e_78
      subst e_78
      have hP : va_P D vwCl (wM cI cZ a (va_up σ 34 (fun _ => 2))) H := hP
      have hD : va_D A (wM cI cZ a (va_up σ 34 (fun _ => 2))) := hD
      obtain rfl : r_78 = 0 := h_78.trans (by decide)
      refine lv_if_ne (tgt := 86) hx hb dX6_leave_81 (by decide) (fun c9 => absurd (by decide) c9) (fun _ => ?_)
      refine lv_iconst (v := 0) hx hb dX6_leave_84 (by decide) ?_
      exact MI.ret hx hb hr hlocks hK hP hD hS dX6_leave_85 (by exact Or.inl (rf_ (by rw [cdLe, cif_t h_2, nI_clamp (show k < 2 ^ 31 by omega), cif_f (fun h => h_26 h.1)]) (by decide)))
  · skip
    have e_2 := Eq.symm e_2
    subst e_2
    have h_2 : ¬ (tr n t) := h_2
    refine lv_istore_n (lv' := [(2, .int 0), (0, .ref (a 0)), (1, .int t)]) hx hb dX6_leave_5 rfl hl (by decide) rfl (fun ls hl => ?_)
    refine lv_iload_n hx hb dX6_leave_6 rfl (lv_at hl 0 rfl) ?_
    refine lv_if_eq (tgt := 19) hx hb dX6_leave_7 (by decide) (fun _ => ?_) (fun c9 => absurd (by decide) c9)
    refine lv_iconst (v := (-1)) hx hb dX6_leave_19 (by decide) ?_
    refine lv_istore_n (lv' := [(3, .int (-1)), (2, .int 0), (0, .ref (a 0)), (1, .int t)]) hx hb dX6_leave_20 rfl hl (by decide) rfl (fun ls hl => ?_)
    refine lv_iload_n hx hb dX6_leave_21 rfl (lv_at hl 1 rfl) ?_
    refine lv_if_eq (tgt := 56) hx hb dX6_leave_22 (by decide) (fun _ => ?_) (fun c9 => absurd (by decide) c9)
    refine lv_iconst (v := 0) hx hb dX6_leave_56 (by decide) ?_
    refine lv_istore (lv' := [(4, .int 0), (3, .int (-1)), (2, .int 0), (0, .ref (a 0)), (1, .int t)]) hx hb dX6_leave_57 hl (by decide) rfl (fun ls hl => ?_)
    refine lv_aload_n hx hb dX6_leave_59 rfl (lv_at hl 3 rfl) ?_
    refine lv_iload_n hx hb dX6_leave_60 rfl (lv_at hl 2 rfl) ?_
    refine lv_if_ne (tgt := 68) hx hb dX6_leave_61 (by decide) (fun c9 => absurd (by decide) c9) (fun _ => ?_)
    refine lv_iconst (v := 1) hx hb dX6_leave_64 (by decide) ?_
    refine lv_goto (tgt := 78) hx hb dX6_leave_65 (by decide) ?_
    refine MI.callV (As := [.int 1]) (rest := []) ⟨hx, hb, hml, hown, hts⟩ (c_X6_holds l D cI cZ a H.size σ 1) (cwV 1 hts gX6_leave_X6_holds rfl rfl rfl (by decide +kernel) ⟨Nat.le_of_ble_eq_true rfl, Nat.le_of_ble_eq_true rfl⟩) hP hK hD hS hA (va_recv hK hP (ci := 6) (q0 := 0) rfl rfl) rfl hl.1 (Nat.le_of_ble_eq_true rfl) (Nat.zero_le _) (Nat.zero_le _) dX6_leave_78 rfl (fun r_78 u_78 H locs h_78 hP hD hS => ?_)
    obtain ⟨e_78, h_78⟩ := h_78
    have e_78 := Eq.symm e_78
    subst e_78
    have hP : va_P D vwCl (wM cI cZ a (va_up σ 34 (fun _ => 1))) H := hP
    have hD : va_D A (wM cI cZ a (va_up σ 34 (fun _ => 1))) := hD
    obtain rfl : r_78 = 0 := h_78.trans (by decide)
    refine lv_if_ne (tgt := 86) hx hb dX6_leave_81 (by decide) (fun c9 => absurd (by decide) c9) (fun _ => ?_)
    refine lv_iconst (v := 0) hx hb dX6_leave_84 (by decide) ?_
    exact MI.ret hx hb hr hlocks hK hP hD hS dX6_leave_85 (by exact Or.inl (rf_ (by rw [cdLe, cif_f h_2]) (by decide)))
set_option maxRecDepth 20000 in
theorem in_X6_addWaggon_X6 : ∀ w ∈ wsX60, w ∈ wsX6_addWaggon := by decide +kernel
set_option maxHeartbeats 4000000 in
set_option maxRecDepth 100000 in
/-- the reference: addWaggon -/
theorem c_X6_addWaggon (l : Launch) (D : va_G) (cI cZ : ClassId) (a : Nat → Nat) (sz : Nat) (σ : St) (sd w : Int32) (nw : Nat) (hnw : σ 19 0 = nI nw) (hnw8 : nw ≤ 8) (Z : Nat → Nat) (J : Nat → Nat → Nat) (hM9 : ∀ r, r < 6 → mny (σ 32) (wh r) nw = Z r) (hG9 : ∀ r, r < 6 → ∀ p, p < Z r → wgn (σ 32) (σ 33) (wh r) (nI p) nw = nI (J r p) ∧ J r p < 8) (hS9 : ∀ r, r < 6 → wgt (σ 20) (σ 32) (wh r) nw = wsJ (σ 20) (J r) (Z r)) (hZ4 : ∀ r, r < 2 → Z r ≤ 4) : MI l yX6_addWaggon wsX6_addWaggon ({ frames := 2, cells := 0, slots := 0, locals := 46 }) D (ty2 cI cZ) (wM cI cZ a) [.ref (a 0), .int sd, .int w] σ sz (fun r u => (¬ cdAW nw Z sd w = 0 ∧ u = (va_up σ 34 (fun _ => cdAW nw Z sd w))) ∨ (cdAW nw Z sd w = 0 ∧ u = (va_up (va_up (va_up (va_up (va_up σ 19 (fun _ => nI (nw + 1))) 20 (upd (σ 20) nw w)) 32 (upd (σ 32) nw sd)) 33 (upd (σ 33) nw (nI (Z (sR sd))))) 34 (fun _ => 0)) ∧ r = nI nw)) := by
  refine MI.of (cc := cX6_addWaggon) (maxL := 4) (by decide) rfl (Nat.le_of_ble_eq_true rfl) ?_
  intro p e s m args below meth c A H locs ls hx hb hr hml hown hts hlocks hA hS hP hK hD hl
  have hl : lv_has ls 4 [(0, .ref (a 0)), (1, .int sd), (2, .int w)] := hl
  refine lv_aload_n hx hb dX6_addWaggon_0 rfl (lv_at hl 0 rfl) ?_
  refine va_get (D := D) (ci := 6) (v := .int (σ 19 0)) (C := RX6) (T := TX6) (N := 26) hx hb hts in_X6_addWaggon_X6 hown hK hP 0 rfl rfl 18 (by decide) (hts (.fieldLink RX6 129 "WarpyardModel" "waggons" "I") (by decide +kernel)) (fun _ h9 => h9) rfl dX6_addWaggon_1 ?_
  refine lv_topi (fun v_4 e_4 => ?_)
  obtain rfl : v_4 = nI nw := by rw [e_4]; exact hnw
  refine lv_bipush (v := 8) hx hb dX6_addWaggon_4 (by decide) ?_
  refine lv_icmp_eq (tgt := 25) hx hb dX6_addWaggon_6 (by decide) (fun c_6 => ?_) (fun c_6 => ?_)
  · skip
    rw [show (8 : Int32) = nI 8 from rfl, nI_eq (by omega) (by omega)] at c_6
    refine lv_iconst (v := 1) hx hb dX6_addWaggon_25 (by decide) ?_
    refine lv_goto (tgt := 30) hx hb dX6_addWaggon_26 (by decide) ?_
    refine lv_istore_n (lv' := [(3, .int 1), (0, .ref (a 0)), (1, .int sd), (2, .int w)]) hx hb dX6_addWaggon_30 rfl hl (by decide) rfl (fun ls hl => ?_)
    refine lv_aload_n hx hb dX6_addWaggon_31 rfl (lv_at hl 1 rfl) ?_
    refine lv_iload_n hx hb dX6_addWaggon_32 rfl (lv_at hl 2 rfl) ?_
    refine MI.callS (As := [.int sd]) (rest := [.ref (a 0)]) ⟨hx, hb, hml, hown, hts⟩ (c_X6_isSiding l D cI cZ a H.size σ sd) (va_cwS 1 hts gX6_addWaggon_X6_isSiding rfl rfl rfl (by decide +kernel) ⟨Nat.le_of_ble_eq_true rfl, Nat.le_of_ble_eq_true rfl⟩) hP hK hD hS hA rfl hl.1 (Nat.le_of_ble_eq_true rfl) (Nat.zero_le _) (Nat.zero_le _) dX6_addWaggon_33 rfl (fun r_33 u_33 H locs h_33 hP hD hS => ?_)
    rcases h_33 with ⟨e_33, ⟨rfl, h_33⟩ | ⟨rfl, h_33⟩⟩
    · skip
      have e_33 := Eq.symm e_33
      subst e_33
      have h_33 : inR sd 6 7 := h_33
      refine lv_if_ne (tgt := 43) hx hb dX6_addWaggon_36 (by decide) (fun _ => ?_) (fun c9 => absurd c9 (by decide))
      refine lv_iload_n hx hb dX6_addWaggon_43 rfl (lv_at hl 3 rfl) ?_
      refine lv_iconst (v := 1) hx hb dX6_addWaggon_44 (by decide) ?_
      refine lv_bipush (v := 100) hx hb dX6_addWaggon_45 (by decide) ?_
      refine MI.callS (As := [.int w, .int 1, .int 100]) (rest := [.ref (a 0)]) ⟨hx, hb, hml, hown, hts⟩ (c_X6_in l D cI cZ a H.size σ w 1 100) (va_cwS 3 hts gX6_addWaggon_X6_in rfl rfl rfl (by decide +kernel) ⟨Nat.le_of_ble_eq_true rfl, Nat.le_of_ble_eq_true rfl⟩) hP hK hD hS hA rfl hl.1 (Nat.le_of_ble_eq_true rfl) (Nat.zero_le _) (Nat.zero_le _) dX6_addWaggon_47 rfl (fun r_47 u_47 H locs h_47 hP hD hS => ?_)
      rcases h_47 with ⟨e_47, ⟨rfl, h_47⟩ | ⟨rfl, h_47⟩⟩
      · skip
        have e_47 := Eq.symm e_47
        subst e_47
        have h_47 : inR w 1 100 := h_47
        refine lv_if_ne (tgt := 57) hx hb dX6_addWaggon_50 (by decide) (fun _ => ?_) (fun c9 => absurd c9 (by decide))
        refine lv_iload_n hx hb dX6_addWaggon_57 rfl (lv_at hl 0 rfl) ?_
        refine lv_if_eq (tgt := 65) hx hb dX6_addWaggon_58 (by decide) (fun c9 => absurd c9 (by decide)) (fun _ => ?_)
        refine lv_iconst (v := 3) hx hb dX6_addWaggon_61 (by decide) ?_
        refine lv_goto (tgt := 66) hx hb dX6_addWaggon_62 (by decide) ?_
        refine MI.callV (As := [.int 3]) (rest := []) ⟨hx, hb, hml, hown, hts⟩ (c_X6_holds l D cI cZ a H.size σ 3) (cwV 1 hts gX6_addWaggon_X6_holds rfl rfl rfl (by decide +kernel) ⟨Nat.le_of_ble_eq_true rfl, Nat.le_of_ble_eq_true rfl⟩) hP hK hD hS hA (va_recv hK hP (ci := 6) (q0 := 0) rfl rfl) rfl hl.1 (Nat.le_of_ble_eq_true rfl) (Nat.zero_le _) (Nat.zero_le _) dX6_addWaggon_66 rfl (fun r_66 u_66 H locs h_66 hP hD hS => ?_)
        obtain ⟨e_66, h_66⟩ := h_66
        have e_66 := Eq.symm e_66
        subst e_66
        have hP : va_P D vwCl (wM cI cZ a (va_up σ 34 (fun _ => 3))) H := hP
        have hD : va_D A (wM cI cZ a (va_up σ 34 (fun _ => 3))) := hD
        obtain rfl : r_66 = 0 := h_66.trans (by decide)
        refine lv_if_ne (tgt := 74) hx hb dX6_addWaggon_69 (by decide) (fun c9 => absurd (by decide) c9) (fun _ => ?_)
        refine lv_iconst (v := 0) hx hb dX6_addWaggon_72 (by decide) ?_
        exact MI.ret hx hb hr hlocks hK hP hD hS dX6_addWaggon_73 (by exact Or.inl (rf_ (by rw [cdAW, cif_t h_33, cif_t h_47, cif_t (Or.inl c_6)]) (by decide)))
      · skip
        have e_47 := Eq.symm e_47
        subst e_47
        have h_47 : ¬ (inR w 1 100) := h_47
        refine lv_if_ne (tgt := 57) hx hb dX6_addWaggon_50 (by decide) (fun c9 => absurd (by decide) c9) (fun _ => ?_)
        refine lv_iconst (v := 2) hx hb dX6_addWaggon_53 (by decide) ?_
        refine lv_goto (tgt := 66) hx hb dX6_addWaggon_54 (by decide) ?_
        refine MI.callV (As := [.int 2]) (rest := []) ⟨hx, hb, hml, hown, hts⟩ (c_X6_holds l D cI cZ a H.size σ 2) (cwV 1 hts gX6_addWaggon_X6_holds rfl rfl rfl (by decide +kernel) ⟨Nat.le_of_ble_eq_true rfl, Nat.le_of_ble_eq_true rfl⟩) hP hK hD hS hA (va_recv hK hP (ci := 6) (q0 := 0) rfl rfl) rfl hl.1 (Nat.le_of_ble_eq_true rfl) (Nat.zero_le _) (Nat.zero_le _) dX6_addWaggon_66 rfl (fun r_66 u_66 H locs h_66 hP hD hS => ?_)
        obtain ⟨e_66, h_66⟩ := h_66
        have e_66 := Eq.symm e_66
        subst e_66
        have hP : va_P D vwCl (wM cI cZ a (va_up σ 34 (fun _ => 2))) H := hP
        have hD : va_D A (wM cI cZ a (va_up σ 34 (fun _ => 2))) := hD
        obtain rfl : r_66 = 0 := h_66.trans (by decide)
        refine lv_if_ne (tgt := 74) hx hb dX6_addWaggon_69 (by decide) (fun c9 => absurd (by decide) c9) (fun _ => ?_)
        refine lv_iconst (v := 0) hx hb dX6_addWaggon_72 (by decide) ?_
        exact MI.ret hx hb hr hlocks hK hP hD hS dX6_addWaggon_73 (by exact Or.inl (rf_ (by rw [cdAW, cif_t h_33, cif_f h_47]) (by decide)))
    · skip
      have e_33 := Eq.symm e_33
      subst e_33
      have h_33 : ¬ (inR sd 6 7) := h_33
      refine lv_if_ne (tgt := 43) hx hb dX6_addWaggon_36 (by decide) (fun c9 => absurd (by decide) c9) (fun _ => ?_)
      refine lv_iconst (v := 1) hx hb dX6_addWaggon_39 (by decide) ?_
      refine lv_goto (tgt := 66) hx hb dX6_addWaggon_40 (by decide) ?_
      refine MI.callV (As := [.int 1]) (rest := []) ⟨hx, hb, hml, hown, hts⟩ (c_X6_holds l D cI cZ a H.size σ 1) (cwV 1 hts gX6_addWaggon_X6_holds rfl rfl rfl (by decide +kernel) ⟨Nat.le_of_ble_eq_true rfl, Nat.le_of_ble_eq_true rfl⟩) hP hK hD hS hA (va_recv hK hP (ci := 6) (q0 := 0) rfl rfl) rfl hl.1 (Nat.le_of_ble_eq_true rfl) (Nat.zero_le _) (Nat.zero_le _) dX6_addWaggon_66 rfl (fun r_66 u_66 H locs h_66 hP hD hS => ?_)
      obtain ⟨e_66, h_66⟩ := h_66
      have e_66 := Eq.symm e_66
      subst e_66
      have hP : va_P D vwCl (wM cI cZ a (va_up σ 34 (fun _ => 1))) H := hP
      have hD : va_D A (wM cI cZ a (va_up σ 34 (fun _ => 1))) := hD
      obtain rfl : r_66 = 0 := h_66.trans (by decide)
      refine lv_if_ne (tgt := 74) hx hb dX6_addWaggon_69 (by decide) (fun c9 => absurd (by decide) c9) (fun _ => ?_)
      refine lv_iconst (v := 0) hx hb dX6_addWaggon_72 (by decide) ?_
      exact MI.ret hx hb hr hlocks hK hP hD hS dX6_addWaggon_73 (by exact Or.inl (rf_ (by rw [cdAW, cif_f h_33]) (by decide)))
  · skip
    rw [show (8 : Int32) = nI 8 from rfl, nI_eq (by omega) (by omega)] at c_6
    refine lv_iload_n hx hb dX6_addWaggon_9 rfl (lv_at hl 1 rfl) ?_
    refine MI.callS (As := [.int sd]) (rest := []) ⟨hx, hb, hml, hown, hts⟩ (c_X6_isSiding l D cI cZ a H.size σ sd) (va_cwS 1 hts gX6_addWaggon_X6_isSiding rfl rfl rfl (by decide +kernel) ⟨Nat.le_of_ble_eq_true rfl, Nat.le_of_ble_eq_true rfl⟩) hP hK hD hS hA rfl hl.1 (Nat.le_of_ble_eq_true rfl) (Nat.zero_le _) (Nat.zero_le _) dX6_addWaggon_10 rfl (fun r_10 u_10 H locs h_10 hP hD hS => ?_)
    rcases h_10 with ⟨e_10, ⟨rfl, h_10⟩ | ⟨rfl, h_10⟩⟩
    · skip
      have e_10 := Eq.symm e_10
      subst e_10
      have h_10 : inR sd 6 7 := h_10
      refine lv_if_eq (tgt := 29) hx hb dX6_addWaggon_13 (by decide) (fun c9 => absurd c9 (by decide)) (fun _ => ?_)
      refine lv_aload_n hx hb dX6_addWaggon_16 rfl (lv_at hl 0 rfl) ?_
      refine lv_iload_n hx hb dX6_addWaggon_17 rfl (lv_at hl 1 rfl) ?_
      refine MI.callV (As := [.int sd]) (rest := []) ⟨hx, hb, hml, hown, hts⟩ (c_X6_many l D cI cZ a H.size σ sd nw hnw hnw8) (cwV 1 hts gX6_addWaggon_X6_many rfl rfl rfl (by decide +kernel) ⟨Nat.le_of_ble_eq_true rfl, Nat.le_of_ble_eq_true rfl⟩) hP hK hD hS hA (va_recv hK hP (ci := 6) (q0 := 0) rfl rfl) rfl hl.1 (Nat.le_of_ble_eq_true rfl) (Nat.zero_le _) (Nat.zero_le _) dX6_addWaggon_18 rfl (fun r_18 u_18 H locs h_18 hP hD hS => ?_)
      obtain ⟨e_18, h_18⟩ := h_18
      have e_18 := Eq.symm e_18
      subst e_18
      have h_18 : r_18 = nI (mny (σ 32) sd nw) := h_18
      refine lv_topi (fun v_21 e_21 => ?_)
      obtain rfl : v_21 = nI (Z (sR sd)) := by rw [e_21]; rw [h_18, many_s hM9 h_10]
      refine lv_iconst (v := 4) hx hb dX6_addWaggon_21 (by decide) ?_
      refine lv_icmp_ne (tgt := 29) hx hb dX6_addWaggon_22 (by decide) (fun c_22 => ?_) (fun c_22 => ?_)
      · skip
        have c_22 : ¬ 4 ≤ Z (sR sd) := fun z => c_22 (by rw [show Z (sR sd) = 4 from Nat.le_antisymm (hZ4 _ (sR_2 h_10)) z]; rfl)
        refine lv_iconst (v := 0) hx hb dX6_addWaggon_29 (by decide) ?_
        refine lv_istore_n (lv' := [(3, .int 0), (0, .ref (a 0)), (1, .int sd), (2, .int w)]) hx hb dX6_addWaggon_30 rfl hl (by decide) rfl (fun ls hl => ?_)
        refine lv_aload_n hx hb dX6_addWaggon_31 rfl (lv_at hl 1 rfl) ?_
        refine lv_iload_n hx hb dX6_addWaggon_32 rfl (lv_at hl 2 rfl) ?_
        refine MI.callS (As := [.int sd]) (rest := [.ref (a 0)]) ⟨hx, hb, hml, hown, hts⟩ (c_X6_isSiding l D cI cZ a H.size σ sd) (va_cwS 1 hts gX6_addWaggon_X6_isSiding rfl rfl rfl (by decide +kernel) ⟨Nat.le_of_ble_eq_true rfl, Nat.le_of_ble_eq_true rfl⟩) hP hK hD hS hA rfl hl.1 (Nat.le_of_ble_eq_true rfl) (Nat.zero_le _) (Nat.zero_le _) dX6_addWaggon_33 rfl (fun r_33 u_33 H locs h_33 hP hD hS => ?_)
        rcases h_33 with ⟨e_33, ⟨rfl, h_33⟩ | ⟨rfl, h_33⟩⟩
        · skip
          have e_33 := Eq.symm e_33
          subst e_33
          have h_33 : inR sd 6 7 := h_33
          refine lv_if_ne (tgt := 43) hx hb dX6_addWaggon_36 (by decide) (fun _ => ?_) (fun c9 => absurd c9 (by decide))
          refine lv_iload_n hx hb dX6_addWaggon_43 rfl (lv_at hl 3 rfl) ?_
          refine lv_iconst (v := 1) hx hb dX6_addWaggon_44 (by decide) ?_
          refine lv_bipush (v := 100) hx hb dX6_addWaggon_45 (by decide) ?_
          refine MI.callS (As := [.int w, .int 1, .int 100]) (rest := [.ref (a 0)]) ⟨hx, hb, hml, hown, hts⟩ (c_X6_in l D cI cZ a H.size σ w 1 100) (va_cwS 3 hts gX6_addWaggon_X6_in rfl rfl rfl (by decide +kernel) ⟨Nat.le_of_ble_eq_true rfl, Nat.le_of_ble_eq_true rfl⟩) hP hK hD hS hA rfl hl.1 (Nat.le_of_ble_eq_true rfl) (Nat.zero_le _) (Nat.zero_le _) dX6_addWaggon_47 rfl (fun r_47 u_47 H locs h_47 hP hD hS => ?_)
          rcases h_47 with ⟨e_47, ⟨rfl, h_47⟩ | ⟨rfl, h_47⟩⟩
          · skip
            have e_47 := Eq.symm e_47
            subst e_47
            have h_47 : inR w 1 100 := h_47
            refine lv_if_ne (tgt := 57) hx hb dX6_addWaggon_50 (by decide) (fun _ => ?_) (fun c9 => absurd c9 (by decide))
            refine lv_iload_n hx hb dX6_addWaggon_57 rfl (lv_at hl 0 rfl) ?_
            refine lv_if_eq (tgt := 65) hx hb dX6_addWaggon_58 (by decide) (fun _ => ?_) (fun c9 => absurd (by decide) c9)
            refine lv_iconst (v := 0) hx hb dX6_addWaggon_65 (by decide) ?_
            refine MI.callV (As := [.int 0]) (rest := []) ⟨hx, hb, hml, hown, hts⟩ (c_X6_holds l D cI cZ a H.size σ 0) (cwV 1 hts gX6_addWaggon_X6_holds rfl rfl rfl (by decide +kernel) ⟨Nat.le_of_ble_eq_true rfl, Nat.le_of_ble_eq_true rfl⟩) hP hK hD hS hA (va_recv hK hP (ci := 6) (q0 := 0) rfl rfl) rfl hl.1 (Nat.le_of_ble_eq_true rfl) (Nat.zero_le _) (Nat.zero_le _) dX6_addWaggon_66 rfl (fun r_66 u_66 H locs h_66 hP hD hS => ?_)
            obtain ⟨e_66, h_66⟩ := h_66
            have e_66 := Eq.symm e_66
            subst e_66
            have hP : va_P D vwCl (wM cI cZ a (va_up σ 34 (fun _ => 0))) H := hP
            have hD : va_D A (wM cI cZ a (va_up σ 34 (fun _ => 0))) := hD
            obtain rfl : r_66 = 1 := h_66.trans (by decide)
            refine lv_if_ne (tgt := 74) hx hb dX6_addWaggon_69 (by decide) (fun _ => ?_) (fun c9 => absurd c9 (by decide))
            refine lv_aload_n hx hb dX6_addWaggon_74 rfl (lv_at hl 1 rfl) ?_
            refine va_get (D := D) (ci := 6) (v := .ref (a 15)) (C := RX6) (T := TX6) (N := 26) hx hb hts in_X6_addWaggon_X6 hown hK hP 0 rfl rfl 19 (by decide) (hts (.fieldLink RX6 53 "WarpyardModel" "weights" "[I") (by decide +kernel)) (fun _ h9 => h9) rfl dX6_addWaggon_75 ?_
            refine lv_aload_n hx hb dX6_addWaggon_78 rfl (lv_at hl 1 rfl) ?_
            refine va_get (D := D) (ci := 6) (v := .int (σ 19 0)) (C := RX6) (T := TX6) (N := 26) hx hb hts in_X6_addWaggon_X6 hown hK hP 0 rfl rfl 18 (by decide) (hts (.fieldLink RX6 129 "WarpyardModel" "waggons" "I") (by decide +kernel)) (fun _ h9 => h9) rfl dX6_addWaggon_79 ?_
            refine lv_topi (fun v_82 e_82 => ?_)
            obtain rfl : v_82 = nI nw := by rw [e_82]; exact hnw
            refine lv_iload_n hx hb dX6_addWaggon_82 rfl (lv_at hl 3 rfl) ?_
            refine na_iast hx hb hK hP hD hS 15 0 (f := (σ 20)) (x := w) rfl rfl nw (by omega) (by decide) rfl dX6_addWaggon_83 (fun H locs hP hD hS => ?_)
            have hP : va_P D vwCl (wM cI cZ a (va_up (va_up σ 20 (upd (σ 20) nw w)) 34 (fun _ => 0))) H := hP
            have hD : va_D A (wM cI cZ a (va_up (va_up σ 20 (upd (σ 20) nw w)) 34 (fun _ => 0))) := hD
            refine lv_aload_n hx hb dX6_addWaggon_84 rfl (lv_at hl 1 rfl) ?_
            refine lv_aload_n hx hb dX6_addWaggon_85 rfl (lv_at hl 1 rfl) ?_
            refine va_get (D := D) (ci := 6) (v := .int (σ 19 0)) (C := RX6) (T := TX6) (N := 26) hx hb hts in_X6_addWaggon_X6 hown hK hP 0 rfl rfl 18 (by decide) (hts (.fieldLink RX6 129 "WarpyardModel" "waggons" "I") (by decide +kernel)) (fun _ h9 => h9) rfl dX6_addWaggon_86 ?_
            refine lv_topi (fun v_89 e_89 => ?_)
            obtain rfl : v_89 = nI nw := by rw [e_89]; exact hnw
            refine lv_iload_n hx hb dX6_addWaggon_89 rfl (lv_at hl 2 rfl) ?_
            refine MV.callV (As := [.int (nI nw), .int sd]) (rest := []) ⟨hx, hb, hml, hown, hts⟩ (c_X6_comes l D cI cZ a H.size (va_up (va_up σ 20 (upd (σ 20) nw w)) 34 (fun _ => 0)) nw sd (by omega) nw hnw hnw8) (cwV 2 hts gX6_addWaggon_X6_comes rfl rfl rfl (by decide +kernel) ⟨Nat.le_of_ble_eq_true rfl, Nat.le_of_ble_eq_true rfl⟩) hP hK hD hS hA (va_recv hK hP (ci := 6) (q0 := 0) rfl rfl) rfl hl.1 (Nat.le_of_ble_eq_true rfl) (Nat.zero_le _) (Nat.zero_le _) dX6_addWaggon_90 rfl (fun u_90 H locs h_90 hP hD hS => ?_)
            have e_90 := h_90
            have e_90 := Eq.symm e_90
            subst e_90
            have hP : va_P D vwCl (wM cI cZ a (va_up (va_up (va_up (va_up σ 20 (upd (σ 20) nw w)) 32 (upd (σ 32) nw sd)) 33 (upd (σ 33) nw (nI (mny (σ 32) sd nw)))) 34 (fun _ => 0))) H := hP
            have hD : va_D A (wM cI cZ a (va_up (va_up (va_up (va_up σ 20 (upd (σ 20) nw w)) 32 (upd (σ 32) nw sd)) 33 (upd (σ 33) nw (nI (mny (σ 32) sd nw)))) 34 (fun _ => 0))) := hD
            rw [show mny (σ 32) sd nw = Z (sR sd) from many_s hM9 h_33] at hP hD
            refine lv_aload_n hx hb dX6_addWaggon_93 rfl (lv_at hl 1 rfl) ?_
            refine lv_dup hx hb dX6_addWaggon_94 rfl ?_
            refine va_get (D := D) (ci := 6) (v := .int (σ 19 0)) (C := RX6) (T := TX6) (N := 26) hx hb hts in_X6_addWaggon_X6 hown hK hP 0 rfl rfl 18 (by decide) (hts (.fieldLink RX6 129 "WarpyardModel" "waggons" "I") (by decide +kernel)) (fun _ h9 => h9) rfl dX6_addWaggon_95 ?_
            refine lv_topi (fun v_98 e_98 => ?_)
            obtain rfl : v_98 = nI nw := by rw [e_98]; exact hnw
            refine lv_iconst (v := 1) hx hb dX6_addWaggon_98 (by decide) ?_
            refine lv_iadd hx hb dX6_addWaggon_99 ?_
            refine lv_topi (fun v_100 e_100 => ?_)
            obtain rfl : v_100 = nI (nw + 1) := by rw [e_100]; exact nI_1 nw
            refine va_put (D := D) (ci := 6) (v := .int (nI (nw + 1))) (ty := .int) (C := RX6) (T := TX6) (N := 26) hx hb hts in_X6_addWaggon_X6 tyX6 tyX6_ok nmX6 hown hK hP hD hS 0 rfl rfl 18 (by decide) (hts (.fieldLink RX6 129 "WarpyardModel" "waggons" "I") (by decide +kernel)) (fun _ h9 => h9) rfl (by decide +kernel) rfl rfl (Nat.le_of_ble_eq_true rfl) dX6_addWaggon_100 (fun H locs hP hD hS => ?_)
            have hP : va_P D vwCl (wM cI cZ a (va_up (va_up (va_up (va_up (va_up σ 19 (fun _ => nI (nw + 1))) 20 (upd (σ 20) nw w)) 32 (upd (σ 32) nw sd)) 33 (upd (σ 33) nw (nI (Z (sR sd))))) 34 (fun _ => 0))) H := hP
            have hD : va_D A (wM cI cZ a (va_up (va_up (va_up (va_up (va_up σ 19 (fun _ => nI (nw + 1))) 20 (upd (σ 20) nw w)) 32 (upd (σ 32) nw sd)) 33 (upd (σ 33) nw (nI (Z (sR sd))))) 34 (fun _ => 0))) := hD
            refine lv_aload_n hx hb dX6_addWaggon_103 rfl (lv_at hl 1 rfl) ?_
            refine va_get (D := D) (ci := 6) (v := .int (nI (nw + 1))) (C := RX6) (T := TX6) (N := 26) hx hb hts in_X6_addWaggon_X6 hown hK hP 0 rfl rfl 18 (by decide) (hts (.fieldLink RX6 129 "WarpyardModel" "waggons" "I") (by decide +kernel)) (fun _ h9 => h9) rfl dX6_addWaggon_104 ?_
            refine lv_iconst (v := 1) hx hb dX6_addWaggon_107 (by decide) ?_
            refine lv_isub hx hb dX6_addWaggon_108 ?_
            refine lv_topi (fun v_109 e_109 => ?_)
            obtain rfl : v_109 = nI nw := by rw [e_109]; exact nI_pred nw
            exact MI.ret hx hb hr hlocks hK hP hD hS dX6_addWaggon_109 (by exact Or.inr ⟨by rw [cdAW, cif_t h_33, cif_t h_47, cif_f (by rintro (e9 | e9) <;> first | exact c_6 e9 | exact c_22 e9)], rfl, rfl⟩)
          · skip
            have e_47 := Eq.symm e_47
            subst e_47
            have h_47 : ¬ (inR w 1 100) := h_47
            refine lv_if_ne (tgt := 57) hx hb dX6_addWaggon_50 (by decide) (fun c9 => absurd (by decide) c9) (fun _ => ?_)
            refine lv_iconst (v := 2) hx hb dX6_addWaggon_53 (by decide) ?_
            refine lv_goto (tgt := 66) hx hb dX6_addWaggon_54 (by decide) ?_
            refine MI.callV (As := [.int 2]) (rest := []) ⟨hx, hb, hml, hown, hts⟩ (c_X6_holds l D cI cZ a H.size σ 2) (cwV 1 hts gX6_addWaggon_X6_holds rfl rfl rfl (by decide +kernel) ⟨Nat.le_of_ble_eq_true rfl, Nat.le_of_ble_eq_true rfl⟩) hP hK hD hS hA (va_recv hK hP (ci := 6) (q0 := 0) rfl rfl) rfl hl.1 (Nat.le_of_ble_eq_true rfl) (Nat.zero_le _) (Nat.zero_le _) dX6_addWaggon_66 rfl (fun r_66 u_66 H locs h_66 hP hD hS => ?_)
            obtain ⟨e_66, h_66⟩ := h_66
            have e_66 := Eq.symm e_66
            subst e_66
            have hP : va_P D vwCl (wM cI cZ a (va_up σ 34 (fun _ => 2))) H := hP
            have hD : va_D A (wM cI cZ a (va_up σ 34 (fun _ => 2))) := hD
            obtain rfl : r_66 = 0 := h_66.trans (by decide)
            refine lv_if_ne (tgt := 74) hx hb dX6_addWaggon_69 (by decide) (fun c9 => absurd (by decide) c9) (fun _ => ?_)
            refine lv_iconst (v := 0) hx hb dX6_addWaggon_72 (by decide) ?_
            exact MI.ret hx hb hr hlocks hK hP hD hS dX6_addWaggon_73 (by exact Or.inl (rf_ (by rw [cdAW, cif_t h_33, cif_f h_47]) (by decide)))
        · skip
          have e_33 := Eq.symm e_33
          subst e_33
          have h_33 : ¬ (inR sd 6 7) := h_33
          refine lv_if_ne (tgt := 43) hx hb dX6_addWaggon_36 (by decide) (fun c9 => absurd (by decide) c9) (fun _ => ?_)
          refine lv_iconst (v := 1) hx hb dX6_addWaggon_39 (by decide) ?_
          refine lv_goto (tgt := 66) hx hb dX6_addWaggon_40 (by decide) ?_
          refine MI.callV (As := [.int 1]) (rest := []) ⟨hx, hb, hml, hown, hts⟩ (c_X6_holds l D cI cZ a H.size σ 1) (cwV 1 hts gX6_addWaggon_X6_holds rfl rfl rfl (by decide +kernel) ⟨Nat.le_of_ble_eq_true rfl, Nat.le_of_ble_eq_true rfl⟩) hP hK hD hS hA (va_recv hK hP (ci := 6) (q0 := 0) rfl rfl) rfl hl.1 (Nat.le_of_ble_eq_true rfl) (Nat.zero_le _) (Nat.zero_le _) dX6_addWaggon_66 rfl (fun r_66 u_66 H locs h_66 hP hD hS => ?_)
          obtain ⟨e_66, h_66⟩ := h_66
          have e_66 := Eq.symm e_66
          subst e_66
          have hP : va_P D vwCl (wM cI cZ a (va_up σ 34 (fun _ => 1))) H := hP
          have hD : va_D A (wM cI cZ a (va_up σ 34 (fun _ => 1))) := hD
          obtain rfl : r_66 = 0 := h_66.trans (by decide)
          refine lv_if_ne (tgt := 74) hx hb dX6_addWaggon_69 (by decide) (fun c9 => absurd (by decide) c9) (fun _ => ?_)
          refine lv_iconst (v := 0) hx hb dX6_addWaggon_72 (by decide) ?_
          exact MI.ret hx hb hr hlocks hK hP hD hS dX6_addWaggon_73 (by exact Or.inl (rf_ (by rw [cdAW, cif_f h_33]) (by decide)))
      · skip
        have c_22 : 4 ≤ Z (sR sd) := by rw [show (4 : Int32) = nI 4 from rfl, nI_eq (by have := hZ4 _ (sR_2 h_10); omega) (by omega)] at c_22; omega
        refine lv_iconst (v := 1) hx hb dX6_addWaggon_25 (by decide) ?_
        refine lv_goto (tgt := 30) hx hb dX6_addWaggon_26 (by decide) ?_
        refine lv_istore_n (lv' := [(3, .int 1), (0, .ref (a 0)), (1, .int sd), (2, .int w)]) hx hb dX6_addWaggon_30 rfl hl (by decide) rfl (fun ls hl => ?_)
        refine lv_aload_n hx hb dX6_addWaggon_31 rfl (lv_at hl 1 rfl) ?_
        refine lv_iload_n hx hb dX6_addWaggon_32 rfl (lv_at hl 2 rfl) ?_
        refine MI.callS (As := [.int sd]) (rest := [.ref (a 0)]) ⟨hx, hb, hml, hown, hts⟩ (c_X6_isSiding l D cI cZ a H.size σ sd) (va_cwS 1 hts gX6_addWaggon_X6_isSiding rfl rfl rfl (by decide +kernel) ⟨Nat.le_of_ble_eq_true rfl, Nat.le_of_ble_eq_true rfl⟩) hP hK hD hS hA rfl hl.1 (Nat.le_of_ble_eq_true rfl) (Nat.zero_le _) (Nat.zero_le _) dX6_addWaggon_33 rfl (fun r_33 u_33 H locs h_33 hP hD hS => ?_)
        rcases h_33 with ⟨e_33, ⟨rfl, h_33⟩ | ⟨rfl, h_33⟩⟩
        · skip
          have e_33 := Eq.symm e_33
          subst e_33
          have h_33 : inR sd 6 7 := h_33
          refine lv_if_ne (tgt := 43) hx hb dX6_addWaggon_36 (by decide) (fun _ => ?_) (fun c9 => absurd c9 (by decide))
          refine lv_iload_n hx hb dX6_addWaggon_43 rfl (lv_at hl 3 rfl) ?_
          refine lv_iconst (v := 1) hx hb dX6_addWaggon_44 (by decide) ?_
          refine lv_bipush (v := 100) hx hb dX6_addWaggon_45 (by decide) ?_
          refine MI.callS (As := [.int w, .int 1, .int 100]) (rest := [.ref (a 0)]) ⟨hx, hb, hml, hown, hts⟩ (c_X6_in l D cI cZ a H.size σ w 1 100) (va_cwS 3 hts gX6_addWaggon_X6_in rfl rfl rfl (by decide +kernel) ⟨Nat.le_of_ble_eq_true rfl, Nat.le_of_ble_eq_true rfl⟩) hP hK hD hS hA rfl hl.1 (Nat.le_of_ble_eq_true rfl) (Nat.zero_le _) (Nat.zero_le _) dX6_addWaggon_47 rfl (fun r_47 u_47 H locs h_47 hP hD hS => ?_)
          rcases h_47 with ⟨e_47, ⟨rfl, h_47⟩ | ⟨rfl, h_47⟩⟩
          · skip
            have e_47 := Eq.symm e_47
            subst e_47
            have h_47 : inR w 1 100 := h_47
            refine lv_if_ne (tgt := 57) hx hb dX6_addWaggon_50 (by decide) (fun _ => ?_) (fun c9 => absurd c9 (by decide))
            refine lv_iload_n hx hb dX6_addWaggon_57 rfl (lv_at hl 0 rfl) ?_
            refine lv_if_eq (tgt := 65) hx hb dX6_addWaggon_58 (by decide) (fun c9 => absurd c9 (by decide)) (fun _ => ?_)
            refine lv_iconst (v := 3) hx hb dX6_addWaggon_61 (by decide) ?_
            refine lv_goto (tgt := 66) hx hb dX6_addWaggon_62 (by decide) ?_
            refine MI.callV (As := [.int 3]) (rest := []) ⟨hx, hb, hml, hown, hts⟩ (c_X6_holds l D cI cZ a H.size σ 3) (cwV 1 hts gX6_addWaggon_X6_holds rfl rfl rfl (by decide +kernel) ⟨Nat.le_of_ble_eq_true rfl, Nat.le_of_ble_eq_true rfl⟩) hP hK hD hS hA (va_recv hK hP (ci := 6) (q0 := 0) rfl rfl) rfl hl.1 (Nat.le_of_ble_eq_true rfl) (Nat.zero_le _) (Nat.zero_le _) dX6_addWaggon_66 rfl (fun r_66 u_66 H locs h_66 hP hD hS => ?_)
            obtain ⟨e_66, h_66⟩ := h_66
            have e_66 := Eq.symm e_66
            subst e_66
            have hP : va_P D vwCl (wM cI cZ a (va_up σ 34 (fun _ => 3))) H := hP
            have hD : va_D A (wM cI cZ a (va_up σ 34 (fun _ => 3))) := hD
            obtain rfl : r_66 = 0 := h_66.trans (by decide)
            refine lv_if_ne (tgt := 74) hx hb dX6_addWaggon_69 (by decide) (fun c9 => absurd (by decide) c9) (fun _ => ?_)
            refine lv_iconst (v := 0) hx hb dX6_addWaggon_72 (by decide) ?_
            exact MI.ret hx hb hr hlocks hK hP hD hS dX6_addWaggon_73 (by exact Or.inl (rf_ (by rw [cdAW, cif_t h_33, cif_t h_47, cif_t (Or.inr c_22)]) (by decide)))
          · skip
            have e_47 := Eq.symm e_47
            subst e_47
            have h_47 : ¬ (inR w 1 100) := h_47
            refine lv_if_ne (tgt := 57) hx hb dX6_addWaggon_50 (by decide) (fun c9 => absurd (by decide) c9) (fun _ => ?_)
            refine lv_iconst (v := 2) hx hb dX6_addWaggon_53 (by decide) ?_
            refine lv_goto (tgt := 66) hx hb dX6_addWaggon_54 (by decide) ?_
            refine MI.callV (As := [.int 2]) (rest := []) ⟨hx, hb, hml, hown, hts⟩ (c_X6_holds l D cI cZ a H.size σ 2) (cwV 1 hts gX6_addWaggon_X6_holds rfl rfl rfl (by decide +kernel) ⟨Nat.le_of_ble_eq_true rfl, Nat.le_of_ble_eq_true rfl⟩) hP hK hD hS hA (va_recv hK hP (ci := 6) (q0 := 0) rfl rfl) rfl hl.1 (Nat.le_of_ble_eq_true rfl) (Nat.zero_le _) (Nat.zero_le _) dX6_addWaggon_66 rfl (fun r_66 u_66 H locs h_66 hP hD hS => ?_)
            obtain ⟨e_66, h_66⟩ := h_66
            have e_66 := Eq.symm e_66
            subst e_66
            have hP : va_P D vwCl (wM cI cZ a (va_up σ 34 (fun _ => 2))) H := hP
            have hD : va_D A (wM cI cZ a (va_up σ 34 (fun _ => 2))) := hD
            obtain rfl : r_66 = 0 := h_66.trans (by decide)
            refine lv_if_ne (tgt := 74) hx hb dX6_addWaggon_69 (by decide) (fun c9 => absurd (by decide) c9) (fun _ => ?_)
            refine lv_iconst (v := 0) hx hb dX6_addWaggon_72 (by decide) ?_
            exact MI.ret hx hb hr hlocks hK hP hD hS dX6_addWaggon_73 (by exact Or.inl (rf_ (by rw [cdAW, cif_t h_33, cif_f h_47]) (by decide)))
        · skip
          have e_33 := Eq.symm e_33
          subst e_33
          have h_33 : ¬ (inR sd 6 7) := h_33
          refine lv_if_ne (tgt := 43) hx hb dX6_addWaggon_36 (by decide) (fun c9 => absurd (by decide) c9) (fun _ => ?_)
          refine lv_iconst (v := 1) hx hb dX6_addWaggon_39 (by decide) ?_
          refine lv_goto (tgt := 66) hx hb dX6_addWaggon_40 (by decide) ?_
          refine MI.callV (As := [.int 1]) (rest := []) ⟨hx, hb, hml, hown, hts⟩ (c_X6_holds l D cI cZ a H.size σ 1) (cwV 1 hts gX6_addWaggon_X6_holds rfl rfl rfl (by decide +kernel) ⟨Nat.le_of_ble_eq_true rfl, Nat.le_of_ble_eq_true rfl⟩) hP hK hD hS hA (va_recv hK hP (ci := 6) (q0 := 0) rfl rfl) rfl hl.1 (Nat.le_of_ble_eq_true rfl) (Nat.zero_le _) (Nat.zero_le _) dX6_addWaggon_66 rfl (fun r_66 u_66 H locs h_66 hP hD hS => ?_)
          obtain ⟨e_66, h_66⟩ := h_66
          have e_66 := Eq.symm e_66
          subst e_66
          have hP : va_P D vwCl (wM cI cZ a (va_up σ 34 (fun _ => 1))) H := hP
          have hD : va_D A (wM cI cZ a (va_up σ 34 (fun _ => 1))) := hD
          obtain rfl : r_66 = 0 := h_66.trans (by decide)
          refine lv_if_ne (tgt := 74) hx hb dX6_addWaggon_69 (by decide) (fun c9 => absurd (by decide) c9) (fun _ => ?_)
          refine lv_iconst (v := 0) hx hb dX6_addWaggon_72 (by decide) ?_
          exact MI.ret hx hb hr hlocks hK hP hD hS dX6_addWaggon_73 (by exact Or.inl (rf_ (by rw [cdAW, cif_f h_33]) (by decide)))
    · skip
      have e_10 := Eq.symm e_10
      subst e_10
      have h_10 : ¬ (inR sd 6 7) := h_10
      refine lv_if_eq (tgt := 29) hx hb dX6_addWaggon_13 (by decide) (fun _ => ?_) (fun c9 => absurd (by decide) c9)
      refine lv_iconst (v := 0) hx hb dX6_addWaggon_29 (by decide) ?_
      refine lv_istore_n (lv' := [(3, .int 0), (0, .ref (a 0)), (1, .int sd), (2, .int w)]) hx hb dX6_addWaggon_30 rfl hl (by decide) rfl (fun ls hl => ?_)
      refine lv_aload_n hx hb dX6_addWaggon_31 rfl (lv_at hl 1 rfl) ?_
      refine lv_iload_n hx hb dX6_addWaggon_32 rfl (lv_at hl 2 rfl) ?_
      refine MI.callS (As := [.int sd]) (rest := [.ref (a 0)]) ⟨hx, hb, hml, hown, hts⟩ (c_X6_isSiding l D cI cZ a H.size σ sd) (va_cwS 1 hts gX6_addWaggon_X6_isSiding rfl rfl rfl (by decide +kernel) ⟨Nat.le_of_ble_eq_true rfl, Nat.le_of_ble_eq_true rfl⟩) hP hK hD hS hA rfl hl.1 (Nat.le_of_ble_eq_true rfl) (Nat.zero_le _) (Nat.zero_le _) dX6_addWaggon_33 rfl (fun r_33 u_33 H locs h_33 hP hD hS => ?_)
      rcases h_33 with ⟨e_33, ⟨rfl, h_33⟩ | ⟨rfl, h_33⟩⟩
      · skip
        have e_33 := Eq.symm e_33
        subst e_33
        have h_33 : inR sd 6 7 := h_33
        refine lv_if_ne (tgt := 43) hx hb dX6_addWaggon_36 (by decide) (fun _ => ?_) (fun c9 => absurd c9 (by decide))
        refine lv_iload_n hx hb dX6_addWaggon_43 rfl (lv_at hl 3 rfl) ?_
        refine lv_iconst (v := 1) hx hb dX6_addWaggon_44 (by decide) ?_
        refine lv_bipush (v := 100) hx hb dX6_addWaggon_45 (by decide) ?_
        refine MI.callS (As := [.int w, .int 1, .int 100]) (rest := [.ref (a 0)]) ⟨hx, hb, hml, hown, hts⟩ (c_X6_in l D cI cZ a H.size σ w 1 100) (va_cwS 3 hts gX6_addWaggon_X6_in rfl rfl rfl (by decide +kernel) ⟨Nat.le_of_ble_eq_true rfl, Nat.le_of_ble_eq_true rfl⟩) hP hK hD hS hA rfl hl.1 (Nat.le_of_ble_eq_true rfl) (Nat.zero_le _) (Nat.zero_le _) dX6_addWaggon_47 rfl (fun r_47 u_47 H locs h_47 hP hD hS => ?_)
        rcases h_47 with ⟨e_47, ⟨rfl, h_47⟩ | ⟨rfl, h_47⟩⟩
        · skip
          have e_47 := Eq.symm e_47
          subst e_47
          have h_47 : inR w 1 100 := h_47
          refine lv_if_ne (tgt := 57) hx hb dX6_addWaggon_50 (by decide) (fun _ => ?_) (fun c9 => absurd c9 (by decide))
          refine lv_iload_n hx hb dX6_addWaggon_57 rfl (lv_at hl 0 rfl) ?_
          refine lv_if_eq (tgt := 65) hx hb dX6_addWaggon_58 (by decide) (fun _ => ?_) (fun c9 => absurd (by decide) c9)
          refine lv_iconst (v := 0) hx hb dX6_addWaggon_65 (by decide) ?_
          refine MI.callV (As := [.int 0]) (rest := []) ⟨hx, hb, hml, hown, hts⟩ (c_X6_holds l D cI cZ a H.size σ 0) (cwV 1 hts gX6_addWaggon_X6_holds rfl rfl rfl (by decide +kernel) ⟨Nat.le_of_ble_eq_true rfl, Nat.le_of_ble_eq_true rfl⟩) hP hK hD hS hA (va_recv hK hP (ci := 6) (q0 := 0) rfl rfl) rfl hl.1 (Nat.le_of_ble_eq_true rfl) (Nat.zero_le _) (Nat.zero_le _) dX6_addWaggon_66 rfl (fun r_66 u_66 H locs h_66 hP hD hS => ?_)
          obtain ⟨e_66, h_66⟩ := h_66
          have e_66 := Eq.symm e_66
          subst e_66
          have hP : va_P D vwCl (wM cI cZ a (va_up σ 34 (fun _ => 0))) H := hP
          have hD : va_D A (wM cI cZ a (va_up σ 34 (fun _ => 0))) := hD
          obtain rfl : r_66 = 1 := h_66.trans (by decide)
          refine lv_if_ne (tgt := 74) hx hb dX6_addWaggon_69 (by decide) (fun _ => ?_) (fun c9 => absurd c9 (by decide))
          refine lv_aload_n hx hb dX6_addWaggon_74 rfl (lv_at hl 1 rfl) ?_
          refine va_get (D := D) (ci := 6) (v := .ref (a 15)) (C := RX6) (T := TX6) (N := 26) hx hb hts in_X6_addWaggon_X6 hown hK hP 0 rfl rfl 19 (by decide) (hts (.fieldLink RX6 53 "WarpyardModel" "weights" "[I") (by decide +kernel)) (fun _ h9 => h9) rfl dX6_addWaggon_75 ?_
          refine lv_aload_n hx hb dX6_addWaggon_78 rfl (lv_at hl 1 rfl) ?_
          refine va_get (D := D) (ci := 6) (v := .int (σ 19 0)) (C := RX6) (T := TX6) (N := 26) hx hb hts in_X6_addWaggon_X6 hown hK hP 0 rfl rfl 18 (by decide) (hts (.fieldLink RX6 129 "WarpyardModel" "waggons" "I") (by decide +kernel)) (fun _ h9 => h9) rfl dX6_addWaggon_79 ?_
          refine lv_topi (fun v_82 e_82 => ?_)
          obtain rfl : v_82 = nI nw := by rw [e_82]; exact hnw
          refine lv_iload_n hx hb dX6_addWaggon_82 rfl (lv_at hl 3 rfl) ?_
          refine na_iast hx hb hK hP hD hS 15 0 (f := (σ 20)) (x := w) rfl rfl nw (by omega) (by decide) rfl dX6_addWaggon_83 (fun H locs hP hD hS => ?_)
          have hP : va_P D vwCl (wM cI cZ a (va_up (va_up σ 20 (upd (σ 20) nw w)) 34 (fun _ => 0))) H := hP
          have hD : va_D A (wM cI cZ a (va_up (va_up σ 20 (upd (σ 20) nw w)) 34 (fun _ => 0))) := hD
          refine lv_aload_n hx hb dX6_addWaggon_84 rfl (lv_at hl 1 rfl) ?_
          refine lv_aload_n hx hb dX6_addWaggon_85 rfl (lv_at hl 1 rfl) ?_
          refine va_get (D := D) (ci := 6) (v := .int (σ 19 0)) (C := RX6) (T := TX6) (N := 26) hx hb hts in_X6_addWaggon_X6 hown hK hP 0 rfl rfl 18 (by decide) (hts (.fieldLink RX6 129 "WarpyardModel" "waggons" "I") (by decide +kernel)) (fun _ h9 => h9) rfl dX6_addWaggon_86 ?_
          refine lv_topi (fun v_89 e_89 => ?_)
          obtain rfl : v_89 = nI nw := by rw [e_89]; exact hnw
          refine lv_iload_n hx hb dX6_addWaggon_89 rfl (lv_at hl 2 rfl) ?_
          refine MV.callV (As := [.int (nI nw), .int sd]) (rest := []) ⟨hx, hb, hml, hown, hts⟩ (c_X6_comes l D cI cZ a H.size (va_up (va_up σ 20 (upd (σ 20) nw w)) 34 (fun _ => 0)) nw sd (by omega) nw hnw hnw8) (cwV 2 hts gX6_addWaggon_X6_comes rfl rfl rfl (by decide +kernel) ⟨Nat.le_of_ble_eq_true rfl, Nat.le_of_ble_eq_true rfl⟩) hP hK hD hS hA (va_recv hK hP (ci := 6) (q0 := 0) rfl rfl) rfl hl.1 (Nat.le_of_ble_eq_true rfl) (Nat.zero_le _) (Nat.zero_le _) dX6_addWaggon_90 rfl (fun u_90 H locs h_90 hP hD hS => ?_)
          have e_90 := h_90
          have e_90 := Eq.symm e_90
          subst e_90
          have hP : va_P D vwCl (wM cI cZ a (va_up (va_up (va_up (va_up σ 20 (upd (σ 20) nw w)) 32 (upd (σ 32) nw sd)) 33 (upd (σ 33) nw (nI (mny (σ 32) sd nw)))) 34 (fun _ => 0))) H := hP
          have hD : va_D A (wM cI cZ a (va_up (va_up (va_up (va_up σ 20 (upd (σ 20) nw w)) 32 (upd (σ 32) nw sd)) 33 (upd (σ 33) nw (nI (mny (σ 32) sd nw)))) 34 (fun _ => 0))) := hD
          rw [show mny (σ 32) sd nw = Z (sR sd) from many_s hM9 h_33] at hP hD
          refine lv_aload_n hx hb dX6_addWaggon_93 rfl (lv_at hl 1 rfl) ?_
          refine lv_dup hx hb dX6_addWaggon_94 rfl ?_
          refine va_get (D := D) (ci := 6) (v := .int (σ 19 0)) (C := RX6) (T := TX6) (N := 26) hx hb hts in_X6_addWaggon_X6 hown hK hP 0 rfl rfl 18 (by decide) (hts (.fieldLink RX6 129 "WarpyardModel" "waggons" "I") (by decide +kernel)) (fun _ h9 => h9) rfl dX6_addWaggon_95 ?_
          refine lv_topi (fun v_98 e_98 => ?_)
          obtain rfl : v_98 = nI nw := by rw [e_98]; exact hnw
          refine lv_iconst (v := 1) hx hb dX6_addWaggon_98 (by decide) ?_
          refine lv_iadd hx hb dX6_addWaggon_99 ?_
          refine lv_topi (fun v_100 e_100 => ?_)
          obtain rfl : v_100 = nI (nw + 1) := by rw [e_100]; exact nI_1 nw
          refine va_put (D := D) (ci := 6) (v := .int (nI (nw + 1))) (ty := .int) (C := RX6) (T := TX6) (N := 26) hx hb hts in_X6_addWaggon_X6 tyX6 tyX6_ok nmX6 hown hK hP hD hS 0 rfl rfl 18 (by decide) (hts (.fieldLink RX6 129 "WarpyardModel" "waggons" "I") (by decide +kernel)) (fun _ h9 => h9) rfl (by decide +kernel) rfl rfl (Nat.le_of_ble_eq_true rfl) dX6_addWaggon_100 (fun H locs hP hD hS => ?_)
          have hP : va_P D vwCl (wM cI cZ a (va_up (va_up (va_up (va_up (va_up σ 19 (fun _ => nI (nw + 1))) 20 (upd (σ 20) nw w)) 32 (upd (σ 32) nw sd)) 33 (upd (σ 33) nw (nI (Z (sR sd))))) 34 (fun _ => 0))) H := hP
          have hD : va_D A (wM cI cZ a (va_up (va_up (va_up (va_up (va_up σ 19 (fun _ => nI (nw + 1))) 20 (upd (σ 20) nw w)) 32 (upd (σ 32) nw sd)) 33 (upd (σ 33) nw (nI (Z (sR sd))))) 34 (fun _ => 0))) := hD
          refine lv_aload_n hx hb dX6_addWaggon_103 rfl (lv_at hl 1 rfl) ?_
          refine va_get (D := D) (ci := 6) (v := .int (nI (nw + 1))) (C := RX6) (T := TX6) (N := 26) hx hb hts in_X6_addWaggon_X6 hown hK hP 0 rfl rfl 18 (by decide) (hts (.fieldLink RX6 129 "WarpyardModel" "waggons" "I") (by decide +kernel)) (fun _ h9 => h9) rfl dX6_addWaggon_104 ?_
          refine lv_iconst (v := 1) hx hb dX6_addWaggon_107 (by decide) ?_
          refine lv_isub hx hb dX6_addWaggon_108 ?_
          refine lv_topi (fun v_109 e_109 => ?_)
          obtain rfl : v_109 = nI nw := by rw [e_109]; exact nI_pred nw
          exact MI.ret hx hb hr hlocks hK hP hD hS dX6_addWaggon_109 (by exact absurd h_33 h_10)
        · skip
          have e_47 := Eq.symm e_47
          subst e_47
          have h_47 : ¬ (inR w 1 100) := h_47
          refine lv_if_ne (tgt := 57) hx hb dX6_addWaggon_50 (by decide) (fun c9 => absurd (by decide) c9) (fun _ => ?_)
          refine lv_iconst (v := 2) hx hb dX6_addWaggon_53 (by decide) ?_
          refine lv_goto (tgt := 66) hx hb dX6_addWaggon_54 (by decide) ?_
          refine MI.callV (As := [.int 2]) (rest := []) ⟨hx, hb, hml, hown, hts⟩ (c_X6_holds l D cI cZ a H.size σ 2) (cwV 1 hts gX6_addWaggon_X6_holds rfl rfl rfl (by decide +kernel) ⟨Nat.le_of_ble_eq_true rfl, Nat.le_of_ble_eq_true rfl⟩) hP hK hD hS hA (va_recv hK hP (ci := 6) (q0 := 0) rfl rfl) rfl hl.1 (Nat.le_of_ble_eq_true rfl) (Nat.zero_le _) (Nat.zero_le _) dX6_addWaggon_66 rfl (fun r_66 u_66 H locs h_66 hP hD hS => ?_)
          obtain ⟨e_66, h_66⟩ := h_66
          have e_66 := Eq.symm e_66
          subst e_66
          have hP : va_P D vwCl (wM cI cZ a (va_up σ 34 (fun _ => 2))) H := hP
          have hD : va_D A (wM cI cZ a (va_up σ 34 (fun _ => 2))) := hD
          obtain rfl : r_66 = 0 := h_66.trans (by decide)
          refine lv_if_ne (tgt := 74) hx hb dX6_addWaggon_69 (by decide) (fun c9 => absurd (by decide) c9) (fun _ => ?_)
          refine lv_iconst (v := 0) hx hb dX6_addWaggon_72 (by decide) ?_
          exact MI.ret hx hb hr hlocks hK hP hD hS dX6_addWaggon_73 (by exact Or.inl (rf_ (by rw [cdAW, cif_t h_33, cif_f h_47]) (by decide)))
      · skip
        have e_33 := Eq.symm e_33
        subst e_33
        have h_33 : ¬ (inR sd 6 7) := h_33
        refine lv_if_ne (tgt := 43) hx hb dX6_addWaggon_36 (by decide) (fun c9 => absurd (by decide) c9) (fun _ => ?_)
        refine lv_iconst (v := 1) hx hb dX6_addWaggon_39 (by decide) ?_
        refine lv_goto (tgt := 66) hx hb dX6_addWaggon_40 (by decide) ?_
        refine MI.callV (As := [.int 1]) (rest := []) ⟨hx, hb, hml, hown, hts⟩ (c_X6_holds l D cI cZ a H.size σ 1) (cwV 1 hts gX6_addWaggon_X6_holds rfl rfl rfl (by decide +kernel) ⟨Nat.le_of_ble_eq_true rfl, Nat.le_of_ble_eq_true rfl⟩) hP hK hD hS hA (va_recv hK hP (ci := 6) (q0 := 0) rfl rfl) rfl hl.1 (Nat.le_of_ble_eq_true rfl) (Nat.zero_le _) (Nat.zero_le _) dX6_addWaggon_66 rfl (fun r_66 u_66 H locs h_66 hP hD hS => ?_)
        obtain ⟨e_66, h_66⟩ := h_66
        have e_66 := Eq.symm e_66
        subst e_66
        have hP : va_P D vwCl (wM cI cZ a (va_up σ 34 (fun _ => 1))) H := hP
        have hD : va_D A (wM cI cZ a (va_up σ 34 (fun _ => 1))) := hD
        obtain rfl : r_66 = 0 := h_66.trans (by decide)
        refine lv_if_ne (tgt := 74) hx hb dX6_addWaggon_69 (by decide) (fun c9 => absurd (by decide) c9) (fun _ => ?_)
        refine lv_iconst (v := 0) hx hb dX6_addWaggon_72 (by decide) ?_
        exact MI.ret hx hb hr hlocks hK hP hD hS dX6_addWaggon_73 (by exact Or.inl (rf_ (by rw [cdAW, cif_f h_33]) (by decide)))
set_option maxRecDepth 20000 in
theorem in_X6_offer_X6 : ∀ w ∈ wsX60, w ∈ wsX6_offer := by decide +kernel
set_option maxHeartbeats 4000000 in
set_option maxRecDepth 100000 in
/-- the reference: offer -/
theorem c_X6_offer (l : Launch) (D : va_G) (cI cZ : ClassId) (a : Nat → Nat) (sz : Nat) (σ : St) (w sd mi pr : Int32) (nw : Nat) (hnw : σ 19 0 = nI nw) (hnw8 : nw ≤ 8) : MV l yX6_offer wsX6_offer ({ frames := 2, cells := 0, slots := 0, locals := 42 }) D (ty2 cI cZ) (wM cI cZ a) [.ref (a 0), .int w, .int sd, .int mi, .int pr] σ sz (fun u => (¬ cdOf nw w sd mi pr = 0 ∧ u = (va_up σ 34 (fun _ => cdOf nw w sd mi pr))) ∨ (cdOf nw w sd mi pr = 0 ∧ u = (va_up (va_up (va_up (va_up σ 24 (upd (σ 24) w.toNatClampNeg sd)) 25 (upd (σ 25) w.toNatClampNeg mi)) 26 (upd (σ 26) w.toNatClampNeg pr)) 34 (fun _ => 0)))) := by
  refine MV.of (cc := cX6_offer) (maxL := 6) (by decide) rfl (Nat.le_of_ble_eq_true rfl) ?_
  intro p e s m args below meth c A H locs ls hx hb hr hml hown hts hlocks hA hS hP hK hD hl
  have hl : lv_has ls 6 [(0, .ref (a 0)), (1, .int w), (2, .int sd), (3, .int mi), (4, .int pr)] := hl
  refine lv_iload_n hx hb dX6_offer_0 rfl (lv_at hl 1 rfl) ?_
  refine lv_iconst (v := 0) hx hb dX6_offer_1 (by decide) ?_
  refine lv_aload_n hx hb dX6_offer_2 rfl (lv_at hl 0 rfl) ?_
  refine va_get (D := D) (ci := 6) (v := .int (σ 19 0)) (C := RX6) (T := TX6) (N := 26) hx hb hts in_X6_offer_X6 hown hK hP 0 rfl rfl 18 (by decide) (hts (.fieldLink RX6 129 "WarpyardModel" "waggons" "I") (by decide +kernel)) (fun _ h9 => h9) rfl dX6_offer_3 ?_
  refine lv_topi (fun v_6 e_6 => ?_)
  obtain rfl : v_6 = nI nw := by rw [e_6]; exact hnw
  refine lv_iconst (v := 1) hx hb dX6_offer_6 (by decide) ?_
  refine lv_isub hx hb dX6_offer_7 ?_
  refine MI.callS (As := [.int w, .int 0, .int ((nI nw) - 1)]) (rest := []) ⟨hx, hb, hml, hown, hts⟩ (c_X6_in l D cI cZ a H.size σ w 0 ((nI nw) - 1)) (va_cwS 3 hts gX6_offer_X6_in rfl rfl rfl (by decide +kernel) ⟨Nat.le_of_ble_eq_true rfl, Nat.le_of_ble_eq_true rfl⟩) hP hK hD hS hA rfl hl.1 (Nat.le_of_ble_eq_true rfl) (Nat.zero_le _) (Nat.zero_le _) dX6_offer_8 rfl (fun r_8 u_8 H locs h_8 hP hD hS => ?_)
  rcases h_8 with ⟨e_8, ⟨rfl, h_8⟩ | ⟨rfl, h_8⟩⟩
  · skip
    have e_8 := Eq.symm e_8
    subst e_8
    have h_8 : inR w 0 ((nI nw) - 1) := h_8
    refine lv_if_eq (tgt := 25) hx hb dX6_offer_11 (by decide) (fun c9 => absurd c9 (by decide)) (fun _ => ?_)
    refine lv_iload_n hx hb dX6_offer_14 rfl (lv_at hl 2 rfl) ?_
    refine MI.callS (As := [.int sd]) (rest := []) ⟨hx, hb, hml, hown, hts⟩ (c_X6_isSiding l D cI cZ a H.size σ sd) (va_cwS 1 hts gX6_offer_X6_isSiding rfl rfl rfl (by decide +kernel) ⟨Nat.le_of_ble_eq_true rfl, Nat.le_of_ble_eq_true rfl⟩) hP hK hD hS hA rfl hl.1 (Nat.le_of_ble_eq_true rfl) (Nat.zero_le _) (Nat.zero_le _) dX6_offer_15 rfl (fun r_15 u_15 H locs h_15 hP hD hS => ?_)
    rcases h_15 with ⟨e_15, ⟨rfl, h_15⟩ | ⟨rfl, h_15⟩⟩
    · skip
      have e_15 := Eq.symm e_15
      subst e_15
      have h_15 : inR sd 6 7 := h_15
      refine lv_if_eq (tgt := 25) hx hb dX6_offer_18 (by decide) (fun c9 => absurd c9 (by decide)) (fun _ => ?_)
      refine lv_iconst (v := 1) hx hb dX6_offer_21 (by decide) ?_
      refine lv_goto (tgt := 26) hx hb dX6_offer_22 (by decide) ?_
      refine lv_istore (lv' := [(5, .int 1), (0, .ref (a 0)), (1, .int w), (2, .int sd), (3, .int mi), (4, .int pr)]) hx hb dX6_offer_26 hl (by decide) rfl (fun ls hl => ?_)
      refine lv_aload_n hx hb dX6_offer_28 rfl (lv_at hl 1 rfl) ?_
      refine lv_iload hx hb dX6_offer_29 (lv_at hl 0 rfl) ?_
      refine lv_if_ne (tgt := 38) hx hb dX6_offer_31 (by decide) (fun _ => ?_) (fun c9 => absurd c9 (by decide))
      refine lv_iload_n hx hb dX6_offer_38 rfl (lv_at hl 4 rfl) ?_
      refine lv_iconst (v := 0) hx hb dX6_offer_39 (by decide) ?_
      refine lv_sipush (v := 5000) hx hb dX6_offer_40 (by decide) ?_
      refine MI.callS (As := [.int mi, .int 0, .int 5000]) (rest := [.ref (a 0)]) ⟨hx, hb, hml, hown, hts⟩ (c_X6_in l D cI cZ a H.size σ mi 0 5000) (va_cwS 3 hts gX6_offer_X6_in rfl rfl rfl (by decide +kernel) ⟨Nat.le_of_ble_eq_true rfl, Nat.le_of_ble_eq_true rfl⟩) hP hK hD hS hA rfl hl.1 (Nat.le_of_ble_eq_true rfl) (Nat.zero_le _) (Nat.zero_le _) dX6_offer_43 rfl (fun r_43 u_43 H locs h_43 hP hD hS => ?_)
      rcases h_43 with ⟨e_43, ⟨rfl, h_43⟩ | ⟨rfl, h_43⟩⟩
      · skip
        have e_43 := Eq.symm e_43
        subst e_43
        have h_43 : inR mi 0 5000 := h_43
        refine lv_if_eq (tgt := 65) hx hb dX6_offer_46 (by decide) (fun c9 => absurd c9 (by decide)) (fun _ => ?_)
        refine lv_iload hx hb dX6_offer_49 (lv_at hl 5 rfl) ?_
        refine lv_iconst (v := 1) hx hb dX6_offer_51 (by decide) ?_
        refine lv_sipush (v := 1000) hx hb dX6_offer_52 (by decide) ?_
        refine MI.callS (As := [.int pr, .int 1, .int 1000]) (rest := [.ref (a 0)]) ⟨hx, hb, hml, hown, hts⟩ (c_X6_in l D cI cZ a H.size σ pr 1 1000) (va_cwS 3 hts gX6_offer_X6_in rfl rfl rfl (by decide +kernel) ⟨Nat.le_of_ble_eq_true rfl, Nat.le_of_ble_eq_true rfl⟩) hP hK hD hS hA rfl hl.1 (Nat.le_of_ble_eq_true rfl) (Nat.zero_le _) (Nat.zero_le _) dX6_offer_55 rfl (fun r_55 u_55 H locs h_55 hP hD hS => ?_)
        rcases h_55 with ⟨e_55, ⟨rfl, h_55⟩ | ⟨rfl, h_55⟩⟩
        · skip
          have e_55 := Eq.symm e_55
          subst e_55
          have h_55 : inR pr 1 1000 := h_55
          refine lv_if_eq (tgt := 65) hx hb dX6_offer_58 (by decide) (fun c9 => absurd c9 (by decide)) (fun _ => ?_)
          refine lv_iconst (v := 0) hx hb dX6_offer_61 (by decide) ?_
          refine lv_goto (tgt := 66) hx hb dX6_offer_62 (by decide) ?_
          refine MI.callV (As := [.int 0]) (rest := []) ⟨hx, hb, hml, hown, hts⟩ (c_X6_holds l D cI cZ a H.size σ 0) (cwV 1 hts gX6_offer_X6_holds rfl rfl rfl (by decide +kernel) ⟨Nat.le_of_ble_eq_true rfl, Nat.le_of_ble_eq_true rfl⟩) hP hK hD hS hA (va_recv hK hP (ci := 6) (q0 := 0) rfl rfl) rfl hl.1 (Nat.le_of_ble_eq_true rfl) (Nat.zero_le _) (Nat.zero_le _) dX6_offer_66 rfl (fun r_66 u_66 H locs h_66 hP hD hS => ?_)
          obtain ⟨e_66, h_66⟩ := h_66
          have e_66 := Eq.symm e_66
          subst e_66
          have hP : va_P D vwCl (wM cI cZ a (va_up σ 34 (fun _ => 0))) H := hP
          have hD : va_D A (wM cI cZ a (va_up σ 34 (fun _ => 0))) := hD
          obtain rfl : r_66 = 1 := h_66.trans (by decide)
          refine lv_if_eq (tgt := 94) hx hb dX6_offer_69 (by decide) (fun c9 => absurd c9 (by decide)) (fun _ => ?_)
          have g_8 := (tr_R (by omega)).mpr h_8
          obtain ⟨k, hk, rfl⟩ := id g_8
          refine lv_aload_n hx hb dX6_offer_72 rfl (lv_at hl 1 rfl) ?_
          refine va_get (D := D) (ci := 6) (v := .ref (a 18)) (C := RX6) (T := TX6) (N := 26) hx hb hts in_X6_offer_X6 hown hK hP 0 rfl rfl 22 (by decide) (hts (.fieldLink RX6 62 "WarpyardModel" "offeredSidings" "[I") (by decide +kernel)) (fun _ h9 => h9) rfl dX6_offer_73 ?_
          refine lv_iload_n hx hb dX6_offer_76 rfl (lv_at hl 2 rfl) ?_
          refine lv_iload_n hx hb dX6_offer_77 rfl (lv_at hl 3 rfl) ?_
          refine na_iast hx hb hK hP hD hS 18 0 (f := (σ 24)) (x := sd) rfl rfl k (by omega) (by decide) rfl dX6_offer_78 (fun H locs hP hD hS => ?_)
          have hP : va_P D vwCl (wM cI cZ a (va_up (va_up σ 24 (upd (σ 24) k sd)) 34 (fun _ => 0))) H := hP
          have hD : va_D A (wM cI cZ a (va_up (va_up σ 24 (upd (σ 24) k sd)) 34 (fun _ => 0))) := hD
          refine lv_aload_n hx hb dX6_offer_79 rfl (lv_at hl 1 rfl) ?_
          refine va_get (D := D) (ci := 6) (v := .ref (a 19)) (C := RX6) (T := TX6) (N := 26) hx hb hts in_X6_offer_X6 hown hK hP 0 rfl rfl 23 (by decide) (hts (.fieldLink RX6 65 "WarpyardModel" "offeredMinutes" "[I") (by decide +kernel)) (fun _ h9 => h9) rfl dX6_offer_80 ?_
          refine lv_iload_n hx hb dX6_offer_83 rfl (lv_at hl 2 rfl) ?_
          refine lv_iload_n hx hb dX6_offer_84 rfl (lv_at hl 4 rfl) ?_
          refine na_iast hx hb hK hP hD hS 19 0 (f := (σ 25)) (x := mi) rfl rfl k (by omega) (by decide) rfl dX6_offer_85 (fun H locs hP hD hS => ?_)
          have hP : va_P D vwCl (wM cI cZ a (va_up (va_up (va_up σ 24 (upd (σ 24) k sd)) 25 (upd (σ 25) k mi)) 34 (fun _ => 0))) H := hP
          have hD : va_D A (wM cI cZ a (va_up (va_up (va_up σ 24 (upd (σ 24) k sd)) 25 (upd (σ 25) k mi)) 34 (fun _ => 0))) := hD
          refine lv_aload_n hx hb dX6_offer_86 rfl (lv_at hl 1 rfl) ?_
          refine va_get (D := D) (ci := 6) (v := .ref (a 20)) (C := RX6) (T := TX6) (N := 26) hx hb hts in_X6_offer_X6 hown hK hP 0 rfl rfl 24 (by decide) (hts (.fieldLink RX6 68 "WarpyardModel" "prices" "[I") (by decide +kernel)) (fun _ h9 => h9) rfl dX6_offer_87 ?_
          refine lv_iload_n hx hb dX6_offer_90 rfl (lv_at hl 2 rfl) ?_
          refine lv_iload hx hb dX6_offer_91 (lv_at hl 5 rfl) ?_
          refine na_iast hx hb hK hP hD hS 20 0 (f := (σ 26)) (x := pr) rfl rfl k (by omega) (by decide) rfl dX6_offer_93 (fun H locs hP hD hS => ?_)
          have hP : va_P D vwCl (wM cI cZ a (va_up (va_up (va_up (va_up σ 24 (upd (σ 24) k sd)) 25 (upd (σ 25) k mi)) 26 (upd (σ 26) k pr)) 34 (fun _ => 0))) H := hP
          have hD : va_D A (wM cI cZ a (va_up (va_up (va_up (va_up σ 24 (upd (σ 24) k sd)) 25 (upd (σ 25) k mi)) 26 (upd (σ 26) k pr)) 34 (fun _ => 0))) := hD
          exact MV.ret hx hb hr hlocks hK hP hD hS dX6_offer_94 (by rw [nI_clamp (show k < 2 ^ 31 by omega)]; exact Or.inr ⟨by rw [cdOf, cif_t ⟨g_8, h_15⟩, cif_t ⟨h_43, h_55⟩], rfl⟩)
        · skip
          have e_55 := Eq.symm e_55
          subst e_55
          have h_55 : ¬ (inR pr 1 1000) := h_55
          refine lv_if_eq (tgt := 65) hx hb dX6_offer_58 (by decide) (fun _ => ?_) (fun c9 => absurd (by decide) c9)
          refine lv_iconst (v := 2) hx hb dX6_offer_65 (by decide) ?_
          refine MI.callV (As := [.int 2]) (rest := []) ⟨hx, hb, hml, hown, hts⟩ (c_X6_holds l D cI cZ a H.size σ 2) (cwV 1 hts gX6_offer_X6_holds rfl rfl rfl (by decide +kernel) ⟨Nat.le_of_ble_eq_true rfl, Nat.le_of_ble_eq_true rfl⟩) hP hK hD hS hA (va_recv hK hP (ci := 6) (q0 := 0) rfl rfl) rfl hl.1 (Nat.le_of_ble_eq_true rfl) (Nat.zero_le _) (Nat.zero_le _) dX6_offer_66 rfl (fun r_66 u_66 H locs h_66 hP hD hS => ?_)
          obtain ⟨e_66, h_66⟩ := h_66
          have e_66 := Eq.symm e_66
          subst e_66
          have hP : va_P D vwCl (wM cI cZ a (va_up σ 34 (fun _ => 2))) H := hP
          have hD : va_D A (wM cI cZ a (va_up σ 34 (fun _ => 2))) := hD
          obtain rfl : r_66 = 0 := h_66.trans (by decide)
          refine lv_if_eq (tgt := 94) hx hb dX6_offer_69 (by decide) (fun _ => ?_) (fun c9 => absurd (by decide) c9)
          exact MV.ret hx hb hr hlocks hK hP hD hS dX6_offer_94 (by exact Or.inl (rf_ (by rw [cdOf, cif_t ⟨(tr_R (by omega)).mpr h_8, h_15⟩, cif_f (fun h => h_55 h.2)]) (by decide)))
      · skip
        have e_43 := Eq.symm e_43
        subst e_43
        have h_43 : ¬ (inR mi 0 5000) := h_43
        refine lv_if_eq (tgt := 65) hx hb dX6_offer_46 (by decide) (fun _ => ?_) (fun c9 => absurd (by decide) c9)
        refine lv_iconst (v := 2) hx hb dX6_offer_65 (by decide) ?_
        refine MI.callV (As := [.int 2]) (rest := []) ⟨hx, hb, hml, hown, hts⟩ (c_X6_holds l D cI cZ a H.size σ 2) (cwV 1 hts gX6_offer_X6_holds rfl rfl rfl (by decide +kernel) ⟨Nat.le_of_ble_eq_true rfl, Nat.le_of_ble_eq_true rfl⟩) hP hK hD hS hA (va_recv hK hP (ci := 6) (q0 := 0) rfl rfl) rfl hl.1 (Nat.le_of_ble_eq_true rfl) (Nat.zero_le _) (Nat.zero_le _) dX6_offer_66 rfl (fun r_66 u_66 H locs h_66 hP hD hS => ?_)
        obtain ⟨e_66, h_66⟩ := h_66
        have e_66 := Eq.symm e_66
        subst e_66
        have hP : va_P D vwCl (wM cI cZ a (va_up σ 34 (fun _ => 2))) H := hP
        have hD : va_D A (wM cI cZ a (va_up σ 34 (fun _ => 2))) := hD
        obtain rfl : r_66 = 0 := h_66.trans (by decide)
        refine lv_if_eq (tgt := 94) hx hb dX6_offer_69 (by decide) (fun _ => ?_) (fun c9 => absurd (by decide) c9)
        exact MV.ret hx hb hr hlocks hK hP hD hS dX6_offer_94 (by exact Or.inl (rf_ (by rw [cdOf, cif_t ⟨(tr_R (by omega)).mpr h_8, h_15⟩, cif_f (fun h => h_43 h.1)]) (by decide)))
    · skip
      have e_15 := Eq.symm e_15
      subst e_15
      have h_15 : ¬ (inR sd 6 7) := h_15
      refine lv_if_eq (tgt := 25) hx hb dX6_offer_18 (by decide) (fun _ => ?_) (fun c9 => absurd (by decide) c9)
      refine lv_iconst (v := 0) hx hb dX6_offer_25 (by decide) ?_
      refine lv_istore (lv' := [(5, .int 0), (0, .ref (a 0)), (1, .int w), (2, .int sd), (3, .int mi), (4, .int pr)]) hx hb dX6_offer_26 hl (by decide) rfl (fun ls hl => ?_)
      refine lv_aload_n hx hb dX6_offer_28 rfl (lv_at hl 1 rfl) ?_
      refine lv_iload hx hb dX6_offer_29 (lv_at hl 0 rfl) ?_
      refine lv_if_ne (tgt := 38) hx hb dX6_offer_31 (by decide) (fun c9 => absurd (by decide) c9) (fun _ => ?_)
      refine lv_iconst (v := 1) hx hb dX6_offer_34 (by decide) ?_
      refine lv_goto (tgt := 66) hx hb dX6_offer_35 (by decide) ?_
      refine MI.callV (As := [.int 1]) (rest := []) ⟨hx, hb, hml, hown, hts⟩ (c_X6_holds l D cI cZ a H.size σ 1) (cwV 1 hts gX6_offer_X6_holds rfl rfl rfl (by decide +kernel) ⟨Nat.le_of_ble_eq_true rfl, Nat.le_of_ble_eq_true rfl⟩) hP hK hD hS hA (va_recv hK hP (ci := 6) (q0 := 0) rfl rfl) rfl hl.1 (Nat.le_of_ble_eq_true rfl) (Nat.zero_le _) (Nat.zero_le _) dX6_offer_66 rfl (fun r_66 u_66 H locs h_66 hP hD hS => ?_)
      obtain ⟨e_66, h_66⟩ := h_66
      have e_66 := Eq.symm e_66
      subst e_66
      have hP : va_P D vwCl (wM cI cZ a (va_up σ 34 (fun _ => 1))) H := hP
      have hD : va_D A (wM cI cZ a (va_up σ 34 (fun _ => 1))) := hD
      obtain rfl : r_66 = 0 := h_66.trans (by decide)
      refine lv_if_eq (tgt := 94) hx hb dX6_offer_69 (by decide) (fun _ => ?_) (fun c9 => absurd (by decide) c9)
      exact MV.ret hx hb hr hlocks hK hP hD hS dX6_offer_94 (by exact Or.inl (rf_ (by rw [cdOf, cif_f (fun h => h_15 h.2)]) (by decide)))
  · skip
    have e_8 := Eq.symm e_8
    subst e_8
    have h_8 : ¬ (inR w 0 ((nI nw) - 1)) := h_8
    refine lv_if_eq (tgt := 25) hx hb dX6_offer_11 (by decide) (fun _ => ?_) (fun c9 => absurd (by decide) c9)
    refine lv_iconst (v := 0) hx hb dX6_offer_25 (by decide) ?_
    refine lv_istore (lv' := [(5, .int 0), (0, .ref (a 0)), (1, .int w), (2, .int sd), (3, .int mi), (4, .int pr)]) hx hb dX6_offer_26 hl (by decide) rfl (fun ls hl => ?_)
    refine lv_aload_n hx hb dX6_offer_28 rfl (lv_at hl 1 rfl) ?_
    refine lv_iload hx hb dX6_offer_29 (lv_at hl 0 rfl) ?_
    refine lv_if_ne (tgt := 38) hx hb dX6_offer_31 (by decide) (fun c9 => absurd (by decide) c9) (fun _ => ?_)
    refine lv_iconst (v := 1) hx hb dX6_offer_34 (by decide) ?_
    refine lv_goto (tgt := 66) hx hb dX6_offer_35 (by decide) ?_
    refine MI.callV (As := [.int 1]) (rest := []) ⟨hx, hb, hml, hown, hts⟩ (c_X6_holds l D cI cZ a H.size σ 1) (cwV 1 hts gX6_offer_X6_holds rfl rfl rfl (by decide +kernel) ⟨Nat.le_of_ble_eq_true rfl, Nat.le_of_ble_eq_true rfl⟩) hP hK hD hS hA (va_recv hK hP (ci := 6) (q0 := 0) rfl rfl) rfl hl.1 (Nat.le_of_ble_eq_true rfl) (Nat.zero_le _) (Nat.zero_le _) dX6_offer_66 rfl (fun r_66 u_66 H locs h_66 hP hD hS => ?_)
    obtain ⟨e_66, h_66⟩ := h_66
    have e_66 := Eq.symm e_66
    subst e_66
    have hP : va_P D vwCl (wM cI cZ a (va_up σ 34 (fun _ => 1))) H := hP
    have hD : va_D A (wM cI cZ a (va_up σ 34 (fun _ => 1))) := hD
    obtain rfl : r_66 = 0 := h_66.trans (by decide)
    refine lv_if_eq (tgt := 94) hx hb dX6_offer_69 (by decide) (fun _ => ?_) (fun c9 => absurd (by decide) c9)
    exact MV.ret hx hb hr hlocks hK hP hD hS dX6_offer_94 (by exact Or.inl (rf_ (by rw [cdOf, cif_f (fun h => h_8 ((tr_R (by omega)).mp h.1))]) (by decide)))
set_option maxHeartbeats 4000000 in
set_option maxRecDepth 100000 in
/-- the reference: waggonAt -/
theorem c_X6_waggonAt (l : Launch) (D : va_G) (cI cZ : ClassId) (a : Nat → Nat) (sz : Nat) (σ : St) (w pl : Int32) (n : Nat) (hn : σ 3 0 = nI n) (hn4 : n ≤ 4) (nw : Nat) (hnw : σ 19 0 = nI nw) (hnw8 : nw ≤ 8) (Z : Nat → Nat) (J : Nat → Nat → Nat) (hM9 : ∀ r, r < 6 → mny (σ 32) (wh r) nw = Z r) (hG9 : ∀ r, r < 6 → ∀ p, p < Z r → wgn (σ 32) (σ 33) (wh r) (nI p) nw = nI (J r p) ∧ J r p < 8) (hS9 : ∀ r, r < 6 → wgt (σ 20) (σ 32) (wh r) nw = wsJ (σ 20) (J r) (Z r)) : MI l yX6_waggonAt wsX6_waggonAt ({ frames := 2, cells := 0, slots := 0, locals := 43 }) D (ty2 cI cZ) (wM cI cZ a) [.ref (a 0), .int w, .int pl] σ sz (fun r u => (¬ cdAt n w pl = 0 ∧ u = (va_up σ 34 (fun _ => cdAt n w pl))) ∨ (cdAt n w pl = 0 ∧ u = (va_up σ 34 (fun _ => 0)) ∧ r = waJ Z J w pl)) := by
  refine MI.of (cc := cX6_waggonAt) (maxL := 5) (by decide) rfl (Nat.le_of_ble_eq_true rfl) ?_
  intro p e s m args below meth c A H locs ls hx hb hr hml hown hts hlocks hA hS hP hK hD hl
  have hl : lv_has ls 5 [(0, .ref (a 0)), (1, .int w), (2, .int pl)] := hl
  refine lv_iload_n hx hb dX6_waggonAt_0 rfl (lv_at hl 1 rfl) ?_
  refine MI.callS (As := [.int w]) (rest := []) ⟨hx, hb, hml, hown, hts⟩ (c_X6_isSiding l D cI cZ a H.size σ w) (va_cwS 1 hts gX6_waggonAt_X6_isSiding rfl rfl rfl (by decide +kernel) ⟨Nat.le_of_ble_eq_true rfl, Nat.le_of_ble_eq_true rfl⟩) hP hK hD hS hA rfl hl.1 (Nat.le_of_ble_eq_true rfl) (Nat.zero_le _) (Nat.zero_le _) dX6_waggonAt_1 rfl (fun r_1 u_1 H locs h_1 hP hD hS => ?_)
  rcases h_1 with ⟨e_1, ⟨rfl, h_1⟩ | ⟨rfl, h_1⟩⟩
  · skip
    have e_1 := Eq.symm e_1
    subst e_1
    have h_1 : inR w 6 7 := h_1
    refine lv_if_ne (tgt := 18) hx hb dX6_waggonAt_4 (by decide) (fun _ => ?_) (fun c9 => absurd c9 (by decide))
    refine lv_iload_n hx hb dX6_waggonAt_18 rfl (lv_at hl 2 rfl) ?_
    refine lv_if_lt (tgt := 26) hx hb dX6_waggonAt_19 (by decide) (fun c_19 => ?_) (fun c_19 => ?_)
    · skip
      refine lv_iconst (v := 0) hx hb dX6_waggonAt_26 (by decide) ?_
      refine lv_istore_n (lv' := [(3, .int 0), (0, .ref (a 0)), (1, .int w), (2, .int pl)]) hx hb dX6_waggonAt_27 rfl hl (by decide) rfl (fun ls hl => ?_)
      refine lv_aload_n hx hb dX6_waggonAt_28 rfl (lv_at hl 1 rfl) ?_
      refine lv_iload_n hx hb dX6_waggonAt_29 rfl (lv_at hl 0 rfl) ?_
      refine lv_if_eq (tgt := 37) hx hb dX6_waggonAt_30 (by decide) (fun _ => ?_) (fun c9 => absurd (by decide) c9)
      refine lv_iconst (v := 1) hx hb dX6_waggonAt_37 (by decide) ?_
      refine MI.callV (As := [.int 1]) (rest := []) ⟨hx, hb, hml, hown, hts⟩ (c_X6_holds l D cI cZ a H.size σ 1) (cwV 1 hts gX6_waggonAt_X6_holds rfl rfl rfl (by decide +kernel) ⟨Nat.le_of_ble_eq_true rfl, Nat.le_of_ble_eq_true rfl⟩) hP hK hD hS hA (va_recv hK hP (ci := 6) (q0 := 0) rfl rfl) rfl hl.1 (Nat.le_of_ble_eq_true rfl) (Nat.zero_le _) (Nat.zero_le _) dX6_waggonAt_38 rfl (fun r_38 u_38 H locs h_38 hP hD hS => ?_)
      obtain ⟨e_38, h_38⟩ := h_38
      have e_38 := Eq.symm e_38
      subst e_38
      have hP : va_P D vwCl (wM cI cZ a (va_up σ 34 (fun _ => 1))) H := hP
      have hD : va_D A (wM cI cZ a (va_up σ 34 (fun _ => 1))) := hD
      obtain rfl : r_38 = 0 := h_38.trans (by decide)
      refine lv_if_ne (tgt := 46) hx hb dX6_waggonAt_41 (by decide) (fun c9 => absurd (by decide) c9) (fun _ => ?_)
      refine lv_iconst (v := 0) hx hb dX6_waggonAt_44 (by decide) ?_
      exact MI.ret hx hb hr hlocks hK hP hD hS dX6_waggonAt_45 (by exact Or.inl (rf_ (cif_f (fun h => h.2 c_19)) (by decide)))
    · skip
      refine lv_iconst (v := 1) hx hb dX6_waggonAt_22 (by decide) ?_
      refine lv_goto (tgt := 27) hx hb dX6_waggonAt_23 (by decide) ?_
      refine lv_istore_n (lv' := [(3, .int 1), (0, .ref (a 0)), (1, .int w), (2, .int pl)]) hx hb dX6_waggonAt_27 rfl hl (by decide) rfl (fun ls hl => ?_)
      refine lv_aload_n hx hb dX6_waggonAt_28 rfl (lv_at hl 1 rfl) ?_
      refine lv_iload_n hx hb dX6_waggonAt_29 rfl (lv_at hl 0 rfl) ?_
      refine lv_if_eq (tgt := 37) hx hb dX6_waggonAt_30 (by decide) (fun c9 => absurd c9 (by decide)) (fun _ => ?_)
      refine lv_iconst (v := 0) hx hb dX6_waggonAt_33 (by decide) ?_
      refine lv_goto (tgt := 38) hx hb dX6_waggonAt_34 (by decide) ?_
      refine MI.callV (As := [.int 0]) (rest := []) ⟨hx, hb, hml, hown, hts⟩ (c_X6_holds l D cI cZ a H.size σ 0) (cwV 1 hts gX6_waggonAt_X6_holds rfl rfl rfl (by decide +kernel) ⟨Nat.le_of_ble_eq_true rfl, Nat.le_of_ble_eq_true rfl⟩) hP hK hD hS hA (va_recv hK hP (ci := 6) (q0 := 0) rfl rfl) rfl hl.1 (Nat.le_of_ble_eq_true rfl) (Nat.zero_le _) (Nat.zero_le _) dX6_waggonAt_38 rfl (fun r_38 u_38 H locs h_38 hP hD hS => ?_)
      obtain ⟨e_38, h_38⟩ := h_38
      have e_38 := Eq.symm e_38
      subst e_38
      have hP : va_P D vwCl (wM cI cZ a (va_up σ 34 (fun _ => 0))) H := hP
      have hD : va_D A (wM cI cZ a (va_up σ 34 (fun _ => 0))) := hD
      obtain rfl : r_38 = 1 := h_38.trans (by decide)
      refine lv_if_ne (tgt := 46) hx hb dX6_waggonAt_41 (by decide) (fun _ => ?_) (fun c9 => absurd c9 (by decide))
      refine lv_aload_n hx hb dX6_waggonAt_46 rfl (lv_at hl 1 rfl) ?_
      refine lv_iload_n hx hb dX6_waggonAt_47 rfl (lv_at hl 2 rfl) ?_
      refine MI.callV (As := [.int w]) (rest := []) ⟨hx, hb, hml, hown, hts⟩ (c_X6_many l D cI cZ a H.size (va_up σ 34 (fun _ => 0)) w nw hnw hnw8) (cwV 1 hts gX6_waggonAt_X6_many rfl rfl rfl (by decide +kernel) ⟨Nat.le_of_ble_eq_true rfl, Nat.le_of_ble_eq_true rfl⟩) hP hK hD hS hA (va_recv hK hP (ci := 6) (q0 := 0) rfl rfl) rfl hl.1 (Nat.le_of_ble_eq_true rfl) (Nat.zero_le _) (Nat.zero_le _) dX6_waggonAt_48 rfl (fun r_48 u_48 H locs h_48 hP hD hS => ?_)
      obtain ⟨e_48, h_48⟩ := h_48
      have e_48 := Eq.symm e_48
      subst e_48
      have h_48 : r_48 = nI (mny (σ 32) w nw) := h_48
      refine lv_topi (fun v_51 e_51 => ?_)
      obtain rfl : v_51 = nI (Z (sR w)) := by rw [e_51]; rw [h_48, many_s hM9 h_1]
      refine lv_istore (lv' := [(4, .int (nI (Z (sR w)))), (3, .int 1), (0, .ref (a 0)), (1, .int w), (2, .int pl)]) hx hb dX6_waggonAt_51 hl (by decide) rfl (fun ls hl => ?_)
      refine lv_iload_n hx hb dX6_waggonAt_53 rfl (lv_at hl 4 rfl) ?_
      refine lv_iload hx hb dX6_waggonAt_54 (lv_at hl 0 rfl) ?_
      refine lv_icmp_lt (tgt := 63) hx hb dX6_waggonAt_56 (by decide) (fun c_56 => ?_) (fun c_56 => ?_)
      · skip
        refine lv_aload_n hx hb dX6_waggonAt_63 rfl (lv_at hl 2 rfl) ?_
        refine lv_iload_n hx hb dX6_waggonAt_64 rfl (lv_at hl 3 rfl) ?_
        refine lv_iload_n hx hb dX6_waggonAt_65 rfl (lv_at hl 3 rfl) ?_
        refine MI.callS (As := [.int w]) (rest := [.int w, .ref (a 0)]) ⟨hx, hb, hml, hown, hts⟩ (c_X6_isSiding l D cI cZ a H.size (va_up σ 34 (fun _ => 0)) w) (va_cwS 1 hts gX6_waggonAt_X6_isSiding rfl rfl rfl (by decide +kernel) ⟨Nat.le_of_ble_eq_true rfl, Nat.le_of_ble_eq_true rfl⟩) hP hK hD hS hA rfl hl.1 (Nat.le_of_ble_eq_true rfl) (Nat.zero_le _) (Nat.zero_le _) dX6_waggonAt_66 rfl (fun r_66 u_66 H locs h_66 hP hD hS => ?_)
        rcases h_66 with ⟨e_66, ⟨rfl, h_66⟩ | ⟨rfl, h_66⟩⟩
        · skip
          have e_66 := Eq.symm e_66
          subst e_66
          have h_66 : inR w 6 7 := h_66
          refine lv_if_eq (tgt := 81) hx hb dX6_waggonAt_69 (by decide) (fun c9 => absurd c9 (by decide)) (fun _ => ?_)
          refine lv_iload hx hb dX6_waggonAt_72 (lv_at hl 0 rfl) ?_
          refine lv_iconst (v := 1) hx hb dX6_waggonAt_74 (by decide) ?_
          refine lv_isub hx hb dX6_waggonAt_75 ?_
          refine lv_iload_n hx hb dX6_waggonAt_76 rfl (lv_at hl 4 rfl) ?_
          refine lv_isub hx hb dX6_waggonAt_77 ?_
          refine lv_goto (tgt := 82) hx hb dX6_waggonAt_78 (by decide) ?_
          refine MI.callV (As := [.int w, .int (((nI (Z (sR w))) - 1) - pl)]) (rest := []) ⟨hx, hb, hml, hown, hts⟩ (c_X6_waggon l D cI cZ a H.size (va_up σ 34 (fun _ => 0)) w (((nI (Z (sR w))) - 1) - pl) nw hnw hnw8) (cwV 2 hts gX6_waggonAt_X6_waggon rfl rfl rfl (by decide +kernel) ⟨Nat.le_of_ble_eq_true rfl, Nat.le_of_ble_eq_true rfl⟩) hP hK hD hS hA (va_recv hK hP (ci := 6) (q0 := 0) rfl rfl) rfl hl.1 (Nat.le_of_ble_eq_true rfl) (Nat.zero_le _) (Nat.zero_le _) dX6_waggonAt_82 rfl (fun r_82 u_82 H locs h_82 hP hD hS => ?_)
          obtain ⟨e_82, h_82⟩ := h_82
          have e_82 := Eq.symm e_82
          subst e_82
          have h_82 : r_82 = wgn (σ 32) (σ 33) w (((nI (Z (sR w))) - 1) - pl) nw := h_82
          exact MI.ret hx hb hr hlocks hK hP hD hS dX6_waggonAt_85 (by exact Or.inr ⟨cif_t ⟨Or.inl h_1, c_19⟩, rfl, by rw [h_82]; exact wa_s h_1 hG9 (Z_le hM9 (sR_6 h_1)) hnw8 c_19 c_56⟩)
        · skip
          have e_66 := Eq.symm e_66
          subst e_66
          have h_66 : ¬ (inR w 6 7) := h_66
          refine lv_if_eq (tgt := 81) hx hb dX6_waggonAt_69 (by decide) (fun _ => ?_) (fun c9 => absurd (by decide) c9)
          refine lv_iload_n hx hb dX6_waggonAt_81 rfl (lv_at hl 4 rfl) ?_
          refine MI.callV (As := [.int w, .int pl]) (rest := []) ⟨hx, hb, hml, hown, hts⟩ (c_X6_waggon l D cI cZ a H.size (va_up σ 34 (fun _ => 0)) w pl nw hnw hnw8) (cwV 2 hts gX6_waggonAt_X6_waggon rfl rfl rfl (by decide +kernel) ⟨Nat.le_of_ble_eq_true rfl, Nat.le_of_ble_eq_true rfl⟩) hP hK hD hS hA (va_recv hK hP (ci := 6) (q0 := 0) rfl rfl) rfl hl.1 (Nat.le_of_ble_eq_true rfl) (Nat.zero_le _) (Nat.zero_le _) dX6_waggonAt_82 rfl (fun r_82 u_82 H locs h_82 hP hD hS => ?_)
          obtain ⟨e_82, h_82⟩ := h_82
          have e_82 := Eq.symm e_82
          subst e_82
          have h_82 : r_82 = wgn (σ 32) (σ 33) w pl nw := h_82
          exact MI.ret hx hb hr hlocks hK hP hD hS dX6_waggonAt_85 (by exact absurd h_1 h_66)
      · skip
        refine lv_iconst (v := (-1)) hx hb dX6_waggonAt_59 (by decide) ?_
        refine lv_goto (tgt := 85) hx hb dX6_waggonAt_60 (by decide) ?_
        exact MI.ret hx hb hr hlocks hK hP hD hS dX6_waggonAt_85 (by exact Or.inr ⟨cif_t ⟨Or.inl h_1, c_19⟩, rfl, by rw [waJ, cif_t h_1, fLJ, if_pos (fa_nlt c_56)]⟩)
  · skip
    have e_1 := Eq.symm e_1
    subst e_1
    have h_1 : ¬ (inR w 6 7) := h_1
    refine lv_if_ne (tgt := 18) hx hb dX6_waggonAt_4 (by decide) (fun c9 => absurd (by decide) c9) (fun _ => ?_)
    refine lv_aload_n hx hb dX6_waggonAt_7 rfl (lv_at hl 0 rfl) ?_
    refine lv_iload_n hx hb dX6_waggonAt_8 rfl (lv_at hl 1 rfl) ?_
    refine lv_bipush (v := 10) hx hb dX6_waggonAt_9 (by decide) ?_
    refine lv_isub hx hb dX6_waggonAt_11 ?_
    refine MI.callV (As := [.int (w - 10)]) (rest := []) ⟨hx, hb, hml, hown, hts⟩ (c_X6_isTrain l D cI cZ a H.size σ (w - 10) n hn hn4) (cwV 1 hts gX6_waggonAt_X6_isTrain rfl rfl rfl (by decide +kernel) ⟨Nat.le_of_ble_eq_true rfl, Nat.le_of_ble_eq_true rfl⟩) hP hK hD hS hA (va_recv hK hP (ci := 6) (q0 := 0) rfl rfl) rfl hl.1 (Nat.le_of_ble_eq_true rfl) (Nat.zero_le _) (Nat.zero_le _) dX6_waggonAt_12 rfl (fun r_12 u_12 H locs h_12 hP hD hS => ?_)
    rcases h_12 with ⟨e_12, ⟨rfl, h_12⟩ | ⟨rfl, h_12⟩⟩
    · skip
      have e_12 := Eq.symm e_12
      subst e_12
      have h_12 : tr n (w - 10) := h_12
      refine lv_if_eq (tgt := 26) hx hb dX6_waggonAt_15 (by decide) (fun c9 => absurd c9 (by decide)) (fun _ => ?_)
      refine lv_iload_n hx hb dX6_waggonAt_18 rfl (lv_at hl 2 rfl) ?_
      refine lv_if_lt (tgt := 26) hx hb dX6_waggonAt_19 (by decide) (fun c_19 => ?_) (fun c_19 => ?_)
      · skip
        refine lv_iconst (v := 0) hx hb dX6_waggonAt_26 (by decide) ?_
        refine lv_istore_n (lv' := [(3, .int 0), (0, .ref (a 0)), (1, .int w), (2, .int pl)]) hx hb dX6_waggonAt_27 rfl hl (by decide) rfl (fun ls hl => ?_)
        refine lv_aload_n hx hb dX6_waggonAt_28 rfl (lv_at hl 1 rfl) ?_
        refine lv_iload_n hx hb dX6_waggonAt_29 rfl (lv_at hl 0 rfl) ?_
        refine lv_if_eq (tgt := 37) hx hb dX6_waggonAt_30 (by decide) (fun _ => ?_) (fun c9 => absurd (by decide) c9)
        refine lv_iconst (v := 1) hx hb dX6_waggonAt_37 (by decide) ?_
        refine MI.callV (As := [.int 1]) (rest := []) ⟨hx, hb, hml, hown, hts⟩ (c_X6_holds l D cI cZ a H.size σ 1) (cwV 1 hts gX6_waggonAt_X6_holds rfl rfl rfl (by decide +kernel) ⟨Nat.le_of_ble_eq_true rfl, Nat.le_of_ble_eq_true rfl⟩) hP hK hD hS hA (va_recv hK hP (ci := 6) (q0 := 0) rfl rfl) rfl hl.1 (Nat.le_of_ble_eq_true rfl) (Nat.zero_le _) (Nat.zero_le _) dX6_waggonAt_38 rfl (fun r_38 u_38 H locs h_38 hP hD hS => ?_)
        obtain ⟨e_38, h_38⟩ := h_38
        have e_38 := Eq.symm e_38
        subst e_38
        have hP : va_P D vwCl (wM cI cZ a (va_up σ 34 (fun _ => 1))) H := hP
        have hD : va_D A (wM cI cZ a (va_up σ 34 (fun _ => 1))) := hD
        obtain rfl : r_38 = 0 := h_38.trans (by decide)
        refine lv_if_ne (tgt := 46) hx hb dX6_waggonAt_41 (by decide) (fun c9 => absurd (by decide) c9) (fun _ => ?_)
        refine lv_iconst (v := 0) hx hb dX6_waggonAt_44 (by decide) ?_
        exact MI.ret hx hb hr hlocks hK hP hD hS dX6_waggonAt_45 (by exact Or.inl (rf_ (cif_f (fun h => h.2 c_19)) (by decide)))
      · skip
        refine lv_iconst (v := 1) hx hb dX6_waggonAt_22 (by decide) ?_
        refine lv_goto (tgt := 27) hx hb dX6_waggonAt_23 (by decide) ?_
        refine lv_istore_n (lv' := [(3, .int 1), (0, .ref (a 0)), (1, .int w), (2, .int pl)]) hx hb dX6_waggonAt_27 rfl hl (by decide) rfl (fun ls hl => ?_)
        refine lv_aload_n hx hb dX6_waggonAt_28 rfl (lv_at hl 1 rfl) ?_
        refine lv_iload_n hx hb dX6_waggonAt_29 rfl (lv_at hl 0 rfl) ?_
        refine lv_if_eq (tgt := 37) hx hb dX6_waggonAt_30 (by decide) (fun c9 => absurd c9 (by decide)) (fun _ => ?_)
        refine lv_iconst (v := 0) hx hb dX6_waggonAt_33 (by decide) ?_
        refine lv_goto (tgt := 38) hx hb dX6_waggonAt_34 (by decide) ?_
        refine MI.callV (As := [.int 0]) (rest := []) ⟨hx, hb, hml, hown, hts⟩ (c_X6_holds l D cI cZ a H.size σ 0) (cwV 1 hts gX6_waggonAt_X6_holds rfl rfl rfl (by decide +kernel) ⟨Nat.le_of_ble_eq_true rfl, Nat.le_of_ble_eq_true rfl⟩) hP hK hD hS hA (va_recv hK hP (ci := 6) (q0 := 0) rfl rfl) rfl hl.1 (Nat.le_of_ble_eq_true rfl) (Nat.zero_le _) (Nat.zero_le _) dX6_waggonAt_38 rfl (fun r_38 u_38 H locs h_38 hP hD hS => ?_)
        obtain ⟨e_38, h_38⟩ := h_38
        have e_38 := Eq.symm e_38
        subst e_38
        have hP : va_P D vwCl (wM cI cZ a (va_up σ 34 (fun _ => 0))) H := hP
        have hD : va_D A (wM cI cZ a (va_up σ 34 (fun _ => 0))) := hD
        obtain rfl : r_38 = 1 := h_38.trans (by decide)
        refine lv_if_ne (tgt := 46) hx hb dX6_waggonAt_41 (by decide) (fun _ => ?_) (fun c9 => absurd c9 (by decide))
        obtain ⟨k, hk, ek⟩ := id h_12
        refine lv_aload_n hx hb dX6_waggonAt_46 rfl (lv_at hl 1 rfl) ?_
        refine lv_iload_n hx hb dX6_waggonAt_47 rfl (lv_at hl 2 rfl) ?_
        refine MI.callV (As := [.int w]) (rest := []) ⟨hx, hb, hml, hown, hts⟩ (c_X6_many l D cI cZ a H.size (va_up σ 34 (fun _ => 0)) w nw hnw hnw8) (cwV 1 hts gX6_waggonAt_X6_many rfl rfl rfl (by decide +kernel) ⟨Nat.le_of_ble_eq_true rfl, Nat.le_of_ble_eq_true rfl⟩) hP hK hD hS hA (va_recv hK hP (ci := 6) (q0 := 0) rfl rfl) rfl hl.1 (Nat.le_of_ble_eq_true rfl) (Nat.zero_le _) (Nat.zero_le _) dX6_waggonAt_48 rfl (fun r_48 u_48 H locs h_48 hP hD hS => ?_)
        obtain ⟨e_48, h_48⟩ := h_48
        have e_48 := Eq.symm e_48
        subst e_48
        have h_48 : r_48 = nI (mny (σ 32) w nw) := h_48
        refine lv_topi (fun v_51 e_51 => ?_)
        obtain rfl : v_51 = nI (Z (2 + k)) := by rw [e_51]; rw [h_48, w_t ek, hM9 (2 + k) (by omega)]
        refine lv_istore (lv' := [(4, .int (nI (Z (2 + k)))), (3, .int 1), (0, .ref (a 0)), (1, .int w), (2, .int pl)]) hx hb dX6_waggonAt_51 hl (by decide) rfl (fun ls hl => ?_)
        refine lv_iload_n hx hb dX6_waggonAt_53 rfl (lv_at hl 4 rfl) ?_
        refine lv_iload hx hb dX6_waggonAt_54 (lv_at hl 0 rfl) ?_
        refine lv_icmp_lt (tgt := 63) hx hb dX6_waggonAt_56 (by decide) (fun c_56 => ?_) (fun c_56 => ?_)
        · skip
          refine lv_aload_n hx hb dX6_waggonAt_63 rfl (lv_at hl 2 rfl) ?_
          refine lv_iload_n hx hb dX6_waggonAt_64 rfl (lv_at hl 3 rfl) ?_
          refine lv_iload_n hx hb dX6_waggonAt_65 rfl (lv_at hl 3 rfl) ?_
          refine MI.callS (As := [.int w]) (rest := [.int w, .ref (a 0)]) ⟨hx, hb, hml, hown, hts⟩ (c_X6_isSiding l D cI cZ a H.size (va_up σ 34 (fun _ => 0)) w) (va_cwS 1 hts gX6_waggonAt_X6_isSiding rfl rfl rfl (by decide +kernel) ⟨Nat.le_of_ble_eq_true rfl, Nat.le_of_ble_eq_true rfl⟩) hP hK hD hS hA rfl hl.1 (Nat.le_of_ble_eq_true rfl) (Nat.zero_le _) (Nat.zero_le _) dX6_waggonAt_66 rfl (fun r_66 u_66 H locs h_66 hP hD hS => ?_)
          rcases h_66 with ⟨e_66, ⟨rfl, h_66⟩ | ⟨rfl, h_66⟩⟩
          · skip
            have e_66 := Eq.symm e_66
            subst e_66
            have h_66 : inR w 6 7 := h_66
            refine lv_if_eq (tgt := 81) hx hb dX6_waggonAt_69 (by decide) (fun c9 => absurd c9 (by decide)) (fun _ => ?_)
            refine lv_iload hx hb dX6_waggonAt_72 (lv_at hl 0 rfl) ?_
            refine lv_iconst (v := 1) hx hb dX6_waggonAt_74 (by decide) ?_
            refine lv_isub hx hb dX6_waggonAt_75 ?_
            refine lv_iload_n hx hb dX6_waggonAt_76 rfl (lv_at hl 4 rfl) ?_
            refine lv_isub hx hb dX6_waggonAt_77 ?_
            refine lv_goto (tgt := 82) hx hb dX6_waggonAt_78 (by decide) ?_
            refine MI.callV (As := [.int w, .int (((nI (Z (2 + k))) - 1) - pl)]) (rest := []) ⟨hx, hb, hml, hown, hts⟩ (c_X6_waggon l D cI cZ a H.size (va_up σ 34 (fun _ => 0)) w (((nI (Z (2 + k))) - 1) - pl) nw hnw hnw8) (cwV 2 hts gX6_waggonAt_X6_waggon rfl rfl rfl (by decide +kernel) ⟨Nat.le_of_ble_eq_true rfl, Nat.le_of_ble_eq_true rfl⟩) hP hK hD hS hA (va_recv hK hP (ci := 6) (q0 := 0) rfl rfl) rfl hl.1 (Nat.le_of_ble_eq_true rfl) (Nat.zero_le _) (Nat.zero_le _) dX6_waggonAt_82 rfl (fun r_82 u_82 H locs h_82 hP hD hS => ?_)
            obtain ⟨e_82, h_82⟩ := h_82
            have e_82 := Eq.symm e_82
            subst e_82
            have h_82 : r_82 = wgn (σ 32) (σ 33) w (((nI (Z (2 + k))) - 1) - pl) nw := h_82
            exact MI.ret hx hb hr hlocks hK hP hD hS dX6_waggonAt_85 (by exact absurd h_66 h_1)
          · skip
            have e_66 := Eq.symm e_66
            subst e_66
            have h_66 : ¬ (inR w 6 7) := h_66
            refine lv_if_eq (tgt := 81) hx hb dX6_waggonAt_69 (by decide) (fun _ => ?_) (fun c9 => absurd (by decide) c9)
            refine lv_iload_n hx hb dX6_waggonAt_81 rfl (lv_at hl 4 rfl) ?_
            refine MI.callV (As := [.int w, .int pl]) (rest := []) ⟨hx, hb, hml, hown, hts⟩ (c_X6_waggon l D cI cZ a H.size (va_up σ 34 (fun _ => 0)) w pl nw hnw hnw8) (cwV 2 hts gX6_waggonAt_X6_waggon rfl rfl rfl (by decide +kernel) ⟨Nat.le_of_ble_eq_true rfl, Nat.le_of_ble_eq_true rfl⟩) hP hK hD hS hA (va_recv hK hP (ci := 6) (q0 := 0) rfl rfl) rfl hl.1 (Nat.le_of_ble_eq_true rfl) (Nat.zero_le _) (Nat.zero_le _) dX6_waggonAt_82 rfl (fun r_82 u_82 H locs h_82 hP hD hS => ?_)
            obtain ⟨e_82, h_82⟩ := h_82
            have e_82 := Eq.symm e_82
            subst e_82
            have h_82 : r_82 = wgn (σ 32) (σ 33) w pl nw := h_82
            exact MI.ret hx hb hr hlocks hK hP hD hS dX6_waggonAt_85 (by exact Or.inr ⟨cif_t ⟨Or.inr ⟨k, hk, ek⟩, c_19⟩, rfl, by rw [h_82]; exact wa_t h_1 hk ek hn4 hG9 (Z_le hM9 (by omega)) hnw8 c_19 c_56⟩)
        · skip
          refine lv_iconst (v := (-1)) hx hb dX6_waggonAt_59 (by decide) ?_
          refine lv_goto (tgt := 85) hx hb dX6_waggonAt_60 (by decide) ?_
          exact MI.ret hx hb hr hlocks hK hP hD hS dX6_waggonAt_85 (by exact Or.inr ⟨cif_t ⟨Or.inr ⟨k, hk, ek⟩, c_19⟩, rfl, by rw [waJ, cif_f h_1, ek, nI_clamp (show k < 2 ^ 31 by omega), fFJ, if_pos (fa_nlt c_56)]⟩)
    · skip
      have e_12 := Eq.symm e_12
      subst e_12
      have h_12 : ¬ (tr n (w - 10)) := h_12
      refine lv_if_eq (tgt := 26) hx hb dX6_waggonAt_15 (by decide) (fun _ => ?_) (fun c9 => absurd (by decide) c9)
      refine lv_iconst (v := 0) hx hb dX6_waggonAt_26 (by decide) ?_
      refine lv_istore_n (lv' := [(3, .int 0), (0, .ref (a 0)), (1, .int w), (2, .int pl)]) hx hb dX6_waggonAt_27 rfl hl (by decide) rfl (fun ls hl => ?_)
      refine lv_aload_n hx hb dX6_waggonAt_28 rfl (lv_at hl 1 rfl) ?_
      refine lv_iload_n hx hb dX6_waggonAt_29 rfl (lv_at hl 0 rfl) ?_
      refine lv_if_eq (tgt := 37) hx hb dX6_waggonAt_30 (by decide) (fun _ => ?_) (fun c9 => absurd (by decide) c9)
      refine lv_iconst (v := 1) hx hb dX6_waggonAt_37 (by decide) ?_
      refine MI.callV (As := [.int 1]) (rest := []) ⟨hx, hb, hml, hown, hts⟩ (c_X6_holds l D cI cZ a H.size σ 1) (cwV 1 hts gX6_waggonAt_X6_holds rfl rfl rfl (by decide +kernel) ⟨Nat.le_of_ble_eq_true rfl, Nat.le_of_ble_eq_true rfl⟩) hP hK hD hS hA (va_recv hK hP (ci := 6) (q0 := 0) rfl rfl) rfl hl.1 (Nat.le_of_ble_eq_true rfl) (Nat.zero_le _) (Nat.zero_le _) dX6_waggonAt_38 rfl (fun r_38 u_38 H locs h_38 hP hD hS => ?_)
      obtain ⟨e_38, h_38⟩ := h_38
      have e_38 := Eq.symm e_38
      subst e_38
      have hP : va_P D vwCl (wM cI cZ a (va_up σ 34 (fun _ => 1))) H := hP
      have hD : va_D A (wM cI cZ a (va_up σ 34 (fun _ => 1))) := hD
      obtain rfl : r_38 = 0 := h_38.trans (by decide)
      refine lv_if_ne (tgt := 46) hx hb dX6_waggonAt_41 (by decide) (fun c9 => absurd (by decide) c9) (fun _ => ?_)
      refine lv_iconst (v := 0) hx hb dX6_waggonAt_44 (by decide) ?_
      exact MI.ret hx hb hr hlocks hK hP hD hS dX6_waggonAt_45 (by exact Or.inl (rf_ (cif_f (fun h => h.1.elim h_1 h_12)) (by decide)))
