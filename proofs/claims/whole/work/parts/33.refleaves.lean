set_option maxHeartbeats 4000000 in
set_option maxRecDepth 100000 in
/-- the reference: in -/
theorem c_X6_in (l : Launch) (D : va_G) (cI cZ : ClassId) (a : Nat → Nat) (sz : Nat) (σ : St) (v lo hi : Int32) : MI l yX6_in wsX6_in ({ frames := 0, cells := 0, slots := 0, locals := 0 }) D (ty2 cI cZ) (wM cI cZ a) [.int v, .int lo, .int hi] σ sz (fun r u => u = σ ∧ bo r (inR v lo hi)) := by
  refine MI.of (cc := cX6_in) (maxL := 3) (by decide) rfl (Nat.le_of_ble_eq_true rfl) ?_
  intro p e s m args below meth c A H locs ls hx hb hr hml hown hts hlocks hA hS hP hK hD hl
  have hl : lv_has ls 3 [(0, .int v), (1, .int lo), (2, .int hi)] := hl
  refine lv_iload_n hx hb dX6_in_0 rfl (lv_at hl 0 rfl) ?_
  refine lv_iload_n hx hb dX6_in_1 rfl (lv_at hl 1 rfl) ?_
  refine lv_icmp_lt (tgt := 14) hx hb dX6_in_2 (by decide) (fun c_2 => ?_) (fun c_2 => ?_)
  · skip
    refine lv_iconst (v := 0) hx hb dX6_in_14 (by decide) ?_
    exact MI.zret hx hb hr hlocks hK hP hD hS dX6_in_15 rfl (by exact ⟨rfl, Or.inr ⟨rfl, fun h => h.1 c_2⟩⟩)
  · skip
    refine lv_iload_n hx hb dX6_in_5 rfl (lv_at hl 0 rfl) ?_
    refine lv_iload_n hx hb dX6_in_6 rfl (lv_at hl 2 rfl) ?_
    refine lv_icmp_gt (tgt := 14) hx hb dX6_in_7 (by decide) (fun c_7 => ?_) (fun c_7 => ?_)
    · skip
      refine lv_iconst (v := 0) hx hb dX6_in_14 (by decide) ?_
      exact MI.zret hx hb hr hlocks hK hP hD hS dX6_in_15 rfl (by exact ⟨rfl, Or.inr ⟨rfl, fun h => h.2 c_7⟩⟩)
    · skip
      refine lv_iconst (v := 1) hx hb dX6_in_10 (by decide) ?_
      refine lv_goto (tgt := 15) hx hb dX6_in_11 (by decide) ?_
      exact MI.zret hx hb hr hlocks hK hP hD hS dX6_in_15 rfl (by exact ⟨rfl, Or.inl ⟨rfl, c_2, c_7⟩⟩)
set_option maxRecDepth 20000 in
theorem in_X6_thrown_X6 : ∀ w ∈ wsX60, w ∈ wsX6_thrown := by decide +kernel
set_option maxHeartbeats 4000000 in
set_option maxRecDepth 100000 in
/-- the reference: thrown -/
theorem c_X6_thrown (l : Launch) (D : va_G) (cI cZ : ClassId) (a : Nat → Nat) (sz : Nat) (σ : St)  : MI l yX6_thrown wsX6_thrown ({ frames := 0, cells := 0, slots := 0, locals := 0 }) D (ty2 cI cZ) (wM cI cZ a) [.ref (a 0)] σ sz (fun r u => u = σ ∧ r = σ 34 0) := by
  refine MI.of (cc := cX6_thrown) (maxL := 1) (by decide) rfl (Nat.le_of_ble_eq_true rfl) ?_
  intro p e s m args below meth c A H locs ls hx hb hr hml hown hts hlocks hA hS hP hK hD hl
  have hl : lv_has ls 1 [(0, .ref (a 0))] := hl
  refine lv_aload_n hx hb dX6_thrown_0 rfl (lv_at hl 0 rfl) ?_
  refine va_get (D := D) (ci := 6) (v := .int (σ 34 0)) (C := RX6) (T := TX6) (N := 26) hx hb hts in_X6_thrown_X6 hown hK hP 0 rfl rfl 0 (by decide) (hts (.fieldLink RX6 71 "WarpyardModel" "thrown" "I") (by decide +kernel)) (fun _ h9 => h9) rfl dX6_thrown_1 ?_
  exact MI.ret hx hb hr hlocks hK hP hD hS dX6_thrown_4 (by exact ⟨rfl, rfl⟩)
set_option maxRecDepth 20000 in
theorem in_X6_holds_X6 : ∀ w ∈ wsX60, w ∈ wsX6_holds := by decide +kernel
set_option maxHeartbeats 4000000 in
set_option maxRecDepth 100000 in
/-- the reference: holds -/
theorem c_X6_holds (l : Launch) (D : va_G) (cI cZ : ClassId) (a : Nat → Nat) (sz : Nat) (σ : St) (cc9 : Int32) : MI l yX6_holds wsX6_holds ({ frames := 0, cells := 0, slots := 0, locals := 0 }) D (ty2 cI cZ) (wM cI cZ a) [.ref (a 0), .int cc9] σ sz (fun r u => u = (va_up σ 34 (fun _ => cc9)) ∧ r = (if cc9 = 0 then 1 else 0)) := by
  refine MI.of (cc := cX6_holds) (maxL := 2) (by decide) rfl (Nat.le_of_ble_eq_true rfl) ?_
  intro p e s m args below meth c A H locs ls hx hb hr hml hown hts hlocks hA hS hP hK hD hl
  have hl : lv_has ls 2 [(0, .ref (a 0)), (1, .int cc9)] := hl
  refine lv_aload_n hx hb dX6_holds_0 rfl (lv_at hl 0 rfl) ?_
  refine lv_iload_n hx hb dX6_holds_1 rfl (lv_at hl 1 rfl) ?_
  refine va_put (D := D) (ci := 6) (v := .int cc9) (ty := .int) (C := RX6) (T := TX6) (N := 26) hx hb hts in_X6_holds_X6 tyX6 tyX6_ok nmX6 hown hK hP hD hS 0 rfl rfl 0 (by decide) (hts (.fieldLink RX6 71 "WarpyardModel" "thrown" "I") (by decide +kernel)) (fun _ h9 => h9) rfl (by decide +kernel) rfl rfl (Nat.le_of_ble_eq_true rfl) dX6_holds_2 (fun H locs hP hD hS => ?_)
  have hP : va_P D vwCl (wM cI cZ a (va_up σ 34 (fun _ => cc9))) H := hP
  have hD : va_D A (wM cI cZ a (va_up σ 34 (fun _ => cc9))) := hD
  refine lv_iload_n hx hb dX6_holds_5 rfl (lv_at hl 1 rfl) ?_
  refine lv_if_ne (tgt := 13) hx hb dX6_holds_6 (by decide) (fun c_6 => ?_) (fun c_6 => ?_)
  · skip
    refine lv_iconst (v := 0) hx hb dX6_holds_13 (by decide) ?_
    exact MI.zret hx hb hr hlocks hK hP hD hS dX6_holds_14 rfl (by exact ⟨rfl, (if_neg c_6).symm⟩)
  · skip
    refine lv_iconst (v := 1) hx hb dX6_holds_9 (by decide) ?_
    refine lv_goto (tgt := 14) hx hb dX6_holds_10 (by decide) ?_
    exact MI.zret hx hb hr hlocks hK hP hD hS dX6_holds_14 rfl (by exact ⟨rfl, (if_pos c_6).symm⟩)
set_option maxRecDepth 20000 in
theorem in_X6_isTrain_X6 : ∀ w ∈ wsX60, w ∈ wsX6_isTrain := by decide +kernel
set_option maxHeartbeats 4000000 in
set_option maxRecDepth 100000 in
/-- the reference: isTrain -/
theorem c_X6_isTrain (l : Launch) (D : va_G) (cI cZ : ClassId) (a : Nat → Nat) (sz : Nat) (σ : St) (t : Int32) (n : Nat) (hn : σ 3 0 = nI n) (hn4 : n ≤ 4) : MI l yX6_isTrain wsX6_isTrain ({ frames := 1, cells := 0, slots := 0, locals := 22 }) D (ty2 cI cZ) (wM cI cZ a) [.ref (a 0), .int t] σ sz (fun r u => u = σ ∧ bo r (tr n t)) := by
  refine MI.of (cc := cX6_isTrain) (maxL := 2) (by decide) rfl (Nat.le_of_ble_eq_true rfl) ?_
  intro p e s m args below meth c A H locs ls hx hb hr hml hown hts hlocks hA hS hP hK hD hl
  have hl : lv_has ls 2 [(0, .ref (a 0)), (1, .int t)] := hl
  refine lv_iload_n hx hb dX6_isTrain_0 rfl (lv_at hl 1 rfl) ?_
  refine lv_iconst (v := 0) hx hb dX6_isTrain_1 (by decide) ?_
  refine lv_aload_n hx hb dX6_isTrain_2 rfl (lv_at hl 0 rfl) ?_
  refine va_get (D := D) (ci := 6) (v := .int (σ 3 0)) (C := RX6) (T := TX6) (N := 26) hx hb hts in_X6_isTrain_X6 hown hK hP 0 rfl rfl 2 (by decide) (hts (.fieldLink RX6 75 "WarpyardModel" "trains" "I") (by decide +kernel)) (fun _ h9 => h9) rfl dX6_isTrain_3 ?_
  refine lv_topi (fun v_6 e_6 => ?_)
  obtain rfl : v_6 = nI n := by rw [e_6]; exact hn
  refine lv_iconst (v := 1) hx hb dX6_isTrain_6 (by decide) ?_
  refine lv_isub hx hb dX6_isTrain_7 ?_
  refine MI.callS (As := [.int t, .int 0, .int ((nI n) - 1)]) (rest := []) ⟨hx, hb, hml, hown, hts⟩ (c_X6_in l D cI cZ a H.size σ t 0 ((nI n) - 1)) (va_cwS 3 hts gX6_isTrain_X6_in rfl rfl rfl (by decide +kernel) ⟨Nat.le_of_ble_eq_true rfl, Nat.le_of_ble_eq_true rfl⟩) hP hK hD hS hA rfl hl.1 (Nat.le_of_ble_eq_true rfl) (Nat.zero_le _) (Nat.zero_le _) dX6_isTrain_8 rfl (fun r_8 u_8 H locs h_8 hP hD hS => ?_)
  rcases h_8 with ⟨e_8, ⟨rfl, h_8⟩ | ⟨rfl, h_8⟩⟩
  · skip
    have e_8 := Eq.symm e_8
    subst e_8
    have h_8 : inR t 0 ((nI n) - 1) := h_8
    exact MI.zret hx hb hr hlocks hK hP hD hS dX6_isTrain_11 rfl (by exact ⟨rfl, Or.inl ⟨rfl, (tr_R (by omega)).mpr h_8⟩⟩)
  · skip
    have e_8 := Eq.symm e_8
    subst e_8
    have h_8 : ¬ (inR t 0 ((nI n) - 1)) := h_8
    exact MI.zret hx hb hr hlocks hK hP hD hS dX6_isTrain_11 rfl (by exact ⟨rfl, Or.inr ⟨rfl, fun h => h_8 ((tr_R (by omega)).mp h)⟩⟩)
set_option maxHeartbeats 4000000 in
set_option maxRecDepth 100000 in
/-- the reference: isBlock -/
theorem c_X6_isBlock (l : Launch) (D : va_G) (cI cZ : ClassId) (a : Nat → Nat) (sz : Nat) (σ : St) (b : Int32) : MI l yX6_isBlock wsX6_isBlock ({ frames := 1, cells := 0, slots := 0, locals := 22 }) D (ty2 cI cZ) (wM cI cZ a) [.int b] σ sz (fun r u => u = σ ∧ bo r (inR b 0 7)) := by
  refine MI.of (cc := cX6_isBlock) (maxL := 1) (by decide) rfl (Nat.le_of_ble_eq_true rfl) ?_
  intro p e s m args below meth c A H locs ls hx hb hr hml hown hts hlocks hA hS hP hK hD hl
  have hl : lv_has ls 1 [(0, .int b)] := hl
  refine lv_iload_n hx hb dX6_isBlock_0 rfl (lv_at hl 0 rfl) ?_
  refine lv_iconst (v := 0) hx hb dX6_isBlock_1 (by decide) ?_
  refine lv_bipush (v := 7) hx hb dX6_isBlock_2 (by decide) ?_
  refine MI.callS (As := [.int b, .int 0, .int 7]) (rest := []) ⟨hx, hb, hml, hown, hts⟩ (c_X6_in l D cI cZ a H.size σ b 0 7) (va_cwS 3 hts gX6_isBlock_X6_in rfl rfl rfl (by decide +kernel) ⟨Nat.le_of_ble_eq_true rfl, Nat.le_of_ble_eq_true rfl⟩) hP hK hD hS hA rfl hl.1 (Nat.le_of_ble_eq_true rfl) (Nat.zero_le _) (Nat.zero_le _) dX6_isBlock_4 rfl (fun r_4 u_4 H locs h_4 hP hD hS => ?_)
  rcases h_4 with ⟨e_4, ⟨rfl, h_4⟩ | ⟨rfl, h_4⟩⟩
  · skip
    have e_4 := Eq.symm e_4
    subst e_4
    have h_4 : inR b 0 7 := h_4
    exact MI.zret hx hb hr hlocks hK hP hD hS dX6_isBlock_7 rfl (by exact ⟨rfl, Or.inl ⟨rfl, h_4⟩⟩)
  · skip
    have e_4 := Eq.symm e_4
    subst e_4
    have h_4 : ¬ (inR b 0 7) := h_4
    exact MI.zret hx hb hr hlocks hK hP hD hS dX6_isBlock_7 rfl (by exact ⟨rfl, Or.inr ⟨rfl, h_4⟩⟩)
set_option maxHeartbeats 4000000 in
set_option maxRecDepth 100000 in
/-- the reference: isSiding -/
theorem c_X6_isSiding (l : Launch) (D : va_G) (cI cZ : ClassId) (a : Nat → Nat) (sz : Nat) (σ : St) (v : Int32) : MI l yX6_isSiding wsX6_isSiding ({ frames := 1, cells := 0, slots := 0, locals := 22 }) D (ty2 cI cZ) (wM cI cZ a) [.int v] σ sz (fun r u => u = σ ∧ bo r (inR v 6 7)) := by
  refine MI.of (cc := cX6_isSiding) (maxL := 1) (by decide) rfl (Nat.le_of_ble_eq_true rfl) ?_
  intro p e s m args below meth c A H locs ls hx hb hr hml hown hts hlocks hA hS hP hK hD hl
  have hl : lv_has ls 1 [(0, .int v)] := hl
  refine lv_iload_n hx hb dX6_isSiding_0 rfl (lv_at hl 0 rfl) ?_
  refine lv_bipush (v := 6) hx hb dX6_isSiding_1 (by decide) ?_
  refine lv_bipush (v := 7) hx hb dX6_isSiding_3 (by decide) ?_
  refine MI.callS (As := [.int v, .int 6, .int 7]) (rest := []) ⟨hx, hb, hml, hown, hts⟩ (c_X6_in l D cI cZ a H.size σ v 6 7) (va_cwS 3 hts gX6_isSiding_X6_in rfl rfl rfl (by decide +kernel) ⟨Nat.le_of_ble_eq_true rfl, Nat.le_of_ble_eq_true rfl⟩) hP hK hD hS hA rfl hl.1 (Nat.le_of_ble_eq_true rfl) (Nat.zero_le _) (Nat.zero_le _) dX6_isSiding_5 rfl (fun r_5 u_5 H locs h_5 hP hD hS => ?_)
  rcases h_5 with ⟨e_5, ⟨rfl, h_5⟩ | ⟨rfl, h_5⟩⟩
  · skip
    have e_5 := Eq.symm e_5
    subst e_5
    have h_5 : inR v 6 7 := h_5
    exact MI.zret hx hb hr hlocks hK hP hD hS dX6_isSiding_8 rfl (by exact ⟨rfl, Or.inl ⟨rfl, h_5⟩⟩)
  · skip
    have e_5 := Eq.symm e_5
    subst e_5
    have h_5 : ¬ (inR v 6 7) := h_5
    exact MI.zret hx hb hr hlocks hK hP hD hS dX6_isSiding_8 rfl (by exact ⟨rfl, Or.inr ⟨rfl, h_5⟩⟩)
set_option maxRecDepth 20000 in
theorem in_X6_standsOn_X6 : ∀ w ∈ wsX60, w ∈ wsX6_standsOn := by decide +kernel
set_option maxHeartbeats 4000000 in
set_option maxRecDepth 100000 in
/-- the reference: standsOn -/
theorem c_X6_standsOn (l : Launch) (D : va_G) (cI cZ : ClassId) (a : Nat → Nat) (sz : Nat) (σ : St) (w : Int32) (n : Nat) (hn : σ 3 0 = nI n) (hn4 : n ≤ 4) : MI l yX6_standsOn wsX6_standsOn ({ frames := 0, cells := 0, slots := 0, locals := 0 }) D (ty2 cI cZ) (wM cI cZ a) [.ref (a 0), .int w] σ sz (fun r u => u = σ ∧ r = so (σ 4) w n) := by
  refine MI.of (cc := cX6_standsOn) (maxL := 3) (by decide) rfl (Nat.le_of_ble_eq_true rfl) ?_
  intro p e s m args below meth c A H locs ls hx hb hr hml hown hts hlocks hA hS hP hK hD hl
  have hl : lv_has ls 3 [(0, .ref (a 0)), (1, .int w)] := hl
  refine lv_iconst (v := 0) hx hb dX6_standsOn_0 (by decide) ?_
  refine lv_istore_n (lv' := [(2, .int 0), (0, .ref (a 0)), (1, .int w)]) hx hb dX6_standsOn_1 rfl hl (by decide) rfl (fun ls hl => ?_)
  have loop_2 : ∀ (f : Nat) (k : Nat) (H : Heap) (locs : List Loc) (ls : Array Slot), n < k + f → k ≤ n → (∀ i, i < k → ¬ σ 4 i = w) → va_P D vwCl (wM cI cZ a σ) H → va_D A (wM cI cZ a σ) → va_S A s.heap H locs → lv_has ls 3 [(0, .ref (a 0)), (1, .int w), (2, .int (nI k))] → W p l e { frames := 0, cells := 0, slots := 0, locals := 0 } s m args below meth c H locs 0 0 (MQ below (va_Qi (fun r u => u = σ ∧ r = so (σ 4) w n) (PO D (ty2 cI cZ) (wM cI cZ a) A) A) args s 0 0 A) (F0 m 2 ls []) := by
    intro f
    induction f with
    | zero => intro k H locs ls hf hk hno; exact absurd hf (by omega)
    | succ f ih =>
      intro k H locs ls hf hk hno hP hD hS hl
      refine lv_iload_n hx hb dX6_standsOn_2 rfl (lv_at hl 2 rfl) ?_
      refine lv_aload_n hx hb dX6_standsOn_3 rfl (lv_at hl 0 rfl) ?_
      refine va_get (D := D) (ci := 6) (v := .int (σ 3 0)) (C := RX6) (T := TX6) (N := 26) hx hb hts in_X6_standsOn_X6 hown hK hP 0 rfl rfl 2 (by decide) (hts (.fieldLink RX6 75 "WarpyardModel" "trains" "I") (by decide +kernel)) (fun _ h9 => h9) rfl dX6_standsOn_4 ?_
      refine lv_topi (fun v_7 e_7 => ?_)
      obtain rfl : v_7 = nI n := by rw [e_7]; exact hn
      refine lv_icmp_ge (tgt := 28) hx hb dX6_standsOn_7 (by decide) (fun c_7 => ?_) (fun c_7 => ?_)
      · skip
        rw [nI_leI (by omega) (by omega)] at c_7
        refine lv_iconst (v := (-1)) hx hb dX6_standsOn_28 (by decide) ?_
        exact MI.ret hx hb hr hlocks hK hP hD hS dX6_standsOn_29 (by exact ⟨rfl, (so_miss (fun i hi => hno i (by omega))).symm⟩)
      · skip
        rw [nI_leI (by omega) (by omega)] at c_7
        refine lv_aload_n hx hb dX6_standsOn_10 rfl (lv_at hl 0 rfl) ?_
        refine va_get (D := D) (ci := 6) (v := .ref (a 1)) (C := RX6) (T := TX6) (N := 26) hx hb hts in_X6_standsOn_X6 hown hK hP 0 rfl rfl 3 (by decide) (hts (.fieldLink RX6 7 "WarpyardModel" "blocks" "[I") (by decide +kernel)) (fun _ h9 => h9) rfl dX6_standsOn_11 ?_
        refine lv_iload_n hx hb dX6_standsOn_14 rfl (lv_at hl 2 rfl) ?_
        refine na_iald hx hb hK hP 1 0 (f := (σ 4)) rfl rfl k (by omega) (by decide) rfl dX6_standsOn_15 ?_
        refine lv_iload_n hx hb dX6_standsOn_16 rfl (lv_at hl 1 rfl) ?_
        refine lv_icmp_ne (tgt := 22) hx hb dX6_standsOn_17 (by decide) (fun c_17 => ?_) (fun c_17 => ?_)
        · skip
          refine lv_iinc (v := nI (k + 1)) (lv' := [(2, .int (nI (k + 1))), (0, .ref (a 0)), (1, .int w)]) hx hb dX6_standsOn_22 hl (k := 2) rfl (by exact nI_1 k) (by decide) rfl (fun ls hl => ?_)
          refine lv_goto (tgt := 2) hx hb dX6_standsOn_25 (by decide) ?_
          exact ih (k + 1) _ _ ls (by omega) (by omega) (by exact lt_s hno c_17) hP hD hS (lv_sub hl [1, 2, 0] rfl)
        · skip
          refine lv_iload_n hx hb dX6_standsOn_20 rfl (lv_at hl 2 rfl) ?_
          exact MI.ret hx hb hr hlocks hK hP hD hS dX6_standsOn_21 (by exact ⟨rfl, (so_hit c_17 hno (by omega) (by omega)).symm⟩)
  exact loop_2 (n + 1) 0 _ _ ls (by omega) (by omega) (by intro i hi; omega) hP hD hS (lv_sub hl [1, 2, 0] rfl)
set_option maxRecDepth 20000 in
theorem in_X6_isTriedOn_X6 : ∀ w ∈ wsX60, w ∈ wsX6_isTriedOn := by decide +kernel
set_option maxHeartbeats 4000000 in
set_option maxRecDepth 100000 in
/-- the reference: isTriedOn -/
theorem c_X6_isTriedOn (l : Launch) (D : va_G) (cI cZ : ClassId) (a : Nat → Nat) (sz : Nat) (σ : St) (w : Int32) (n : Nat) (hn : σ 3 0 = nI n) (hn4 : n ≤ 4) : MI l yX6_isTriedOn wsX6_isTriedOn ({ frames := 0, cells := 0, slots := 0, locals := 0 }) D (ty2 cI cZ) (wM cI cZ a) [.ref (a 0), .int w] σ sz (fun r u => u = σ ∧ bo r (¬ so (σ 9) w n = -1)) := by
  refine MI.of (cc := cX6_isTriedOn) (maxL := 3) (by decide) rfl (Nat.le_of_ble_eq_true rfl) ?_
  intro p e s m args below meth c A H locs ls hx hb hr hml hown hts hlocks hA hS hP hK hD hl
  have hl : lv_has ls 3 [(0, .ref (a 0)), (1, .int w)] := hl
  refine lv_iconst (v := 0) hx hb dX6_isTriedOn_0 (by decide) ?_
  refine lv_istore_n (lv' := [(2, .int 0), (0, .ref (a 0)), (1, .int w)]) hx hb dX6_isTriedOn_1 rfl hl (by decide) rfl (fun ls hl => ?_)
  have loop_2 : ∀ (f : Nat) (k : Nat) (H : Heap) (locs : List Loc) (ls : Array Slot), n < k + f → k ≤ n → (∀ i, i < k → ¬ σ 9 i = w) → va_P D vwCl (wM cI cZ a σ) H → va_D A (wM cI cZ a σ) → va_S A s.heap H locs → lv_has ls 3 [(0, .ref (a 0)), (1, .int w), (2, .int (nI k))] → W p l e { frames := 0, cells := 0, slots := 0, locals := 0 } s m args below meth c H locs 0 0 (MQ below (va_Qi (fun r u => u = σ ∧ bo r (¬ so (σ 9) w n = -1)) (PO D (ty2 cI cZ) (wM cI cZ a) A) A) args s 0 0 A) (F0 m 2 ls []) := by
    intro f
    induction f with
    | zero => intro k H locs ls hf hk hno; exact absurd hf (by omega)
    | succ f ih =>
      intro k H locs ls hf hk hno hP hD hS hl
      refine lv_iload_n hx hb dX6_isTriedOn_2 rfl (lv_at hl 2 rfl) ?_
      refine lv_aload_n hx hb dX6_isTriedOn_3 rfl (lv_at hl 0 rfl) ?_
      refine va_get (D := D) (ci := 6) (v := .int (σ 3 0)) (C := RX6) (T := TX6) (N := 26) hx hb hts in_X6_isTriedOn_X6 hown hK hP 0 rfl rfl 2 (by decide) (hts (.fieldLink RX6 75 "WarpyardModel" "trains" "I") (by decide +kernel)) (fun _ h9 => h9) rfl dX6_isTriedOn_4 ?_
      refine lv_topi (fun v_7 e_7 => ?_)
      obtain rfl : v_7 = nI n := by rw [e_7]; exact hn
      refine lv_icmp_ge (tgt := 28) hx hb dX6_isTriedOn_7 (by decide) (fun c_7 => ?_) (fun c_7 => ?_)
      · skip
        rw [nI_leI (by omega) (by omega)] at c_7
        refine lv_iconst (v := 0) hx hb dX6_isTriedOn_28 (by decide) ?_
        exact MI.zret hx hb hr hlocks hK hP hD hS dX6_isTriedOn_29 rfl (by exact ⟨rfl, Or.inr ⟨rfl, fun h => h (so_miss (fun i hi => hno i (by omega)))⟩⟩)
      · skip
        rw [nI_leI (by omega) (by omega)] at c_7
        refine lv_aload_n hx hb dX6_isTriedOn_10 rfl (lv_at hl 0 rfl) ?_
        refine va_get (D := D) (ci := 6) (v := .ref (a 6)) (C := RX6) (T := TX6) (N := 26) hx hb hts in_X6_isTriedOn_X6 hown hK hP 0 rfl rfl 8 (by decide) (hts (.fieldLink RX6 26 "WarpyardModel" "triedBlocks" "[I") (by decide +kernel)) (fun _ h9 => h9) rfl dX6_isTriedOn_11 ?_
        refine lv_iload_n hx hb dX6_isTriedOn_14 rfl (lv_at hl 2 rfl) ?_
        refine na_iald hx hb hK hP 6 0 (f := (σ 9)) rfl rfl k (by omega) (by decide) rfl dX6_isTriedOn_15 ?_
        refine lv_iload_n hx hb dX6_isTriedOn_16 rfl (lv_at hl 1 rfl) ?_
        refine lv_icmp_ne (tgt := 22) hx hb dX6_isTriedOn_17 (by decide) (fun c_17 => ?_) (fun c_17 => ?_)
        · skip
          refine lv_iinc (v := nI (k + 1)) (lv' := [(2, .int (nI (k + 1))), (0, .ref (a 0)), (1, .int w)]) hx hb dX6_isTriedOn_22 hl (k := 2) rfl (by exact nI_1 k) (by decide) rfl (fun ls hl => ?_)
          refine lv_goto (tgt := 2) hx hb dX6_isTriedOn_25 (by decide) ?_
          exact ih (k + 1) _ _ ls (by omega) (by omega) (by exact lt_s hno c_17) hP hD hS (lv_sub hl [1, 2, 0] rfl)
        · skip
          refine lv_iconst (v := 1) hx hb dX6_isTriedOn_20 (by decide) ?_
          exact MI.zret hx hb hr hlocks hK hP hD hS dX6_isTriedOn_21 rfl (by exact ⟨rfl, Or.inl ⟨rfl, by rw [so_hit c_17 hno (by omega) (by omega)]; exact nI_m1 (by omega)⟩⟩)
  exact loop_2 (n + 1) 0 _ _ ls (by omega) (by omega) (by intro i hi; omega) hP hD hS (lv_sub hl [1, 2, 0] rfl)
set_option maxRecDepth 20000 in
theorem in_X6_meets_X6 : ∀ w ∈ wsX60, w ∈ wsX6_meets := by decide +kernel
set_option maxHeartbeats 4000000 in
set_option maxRecDepth 100000 in
/-- the reference: meets -/
theorem c_X6_meets (l : Launch) (D : va_G) (cI cZ : ClassId) (a : Nat → Nat) (sz : Nat) (σ : St) (t b fr to : Int32) (nb : Nat) (hnb : σ 13 0 = nI nb) (hnb30 : nb ≤ 30) : MI l yX6_meets wsX6_meets ({ frames := 0, cells := 0, slots := 0, locals := 0 }) D (ty2 cI cZ) (wM cI cZ a) [.ref (a 0), .int t, .int b, .int fr, .int to] σ sz (fun r u => u = σ ∧ bo r (mts (σ 14) (σ 15) (σ 16) (σ 17) nb t b fr to)) := by
  refine MI.of (cc := cX6_meets) (maxL := 6) (by decide) rfl (Nat.le_of_ble_eq_true rfl) ?_
  intro p e s m args below meth c A H locs ls hx hb hr hml hown hts hlocks hA hS hP hK hD hl
  have hl : lv_has ls 6 [(0, .ref (a 0)), (1, .int t), (2, .int b), (3, .int fr), (4, .int to)] := hl
  refine lv_iconst (v := 0) hx hb dX6_meets_0 (by decide) ?_
  refine lv_istore (lv' := [(5, .int 0), (0, .ref (a 0)), (1, .int t), (2, .int b), (3, .int fr), (4, .int to)]) hx hb dX6_meets_1 hl (by decide) rfl (fun ls hl => ?_)
  have loop_3 : ∀ (f : Nat) (k : Nat) (H : Heap) (locs : List Loc) (ls : Array Slot), nb < k + f → k ≤ nb → (∀ i, i < k → ¬ (σ 15 i = b ∧ ¬ σ 14 i = t ∧ ¬ to < σ 16 i ∧ ¬ σ 17 i < fr)) → va_P D vwCl (wM cI cZ a σ) H → va_D A (wM cI cZ a σ) → va_S A s.heap H locs → lv_has ls 6 [(0, .ref (a 0)), (1, .int t), (2, .int b), (3, .int fr), (4, .int to), (5, .int (nI k))] → W p l e { frames := 0, cells := 0, slots := 0, locals := 0 } s m args below meth c H locs 0 0 (MQ below (va_Qi (fun r u => u = σ ∧ bo r (mts (σ 14) (σ 15) (σ 16) (σ 17) nb t b fr to)) (PO D (ty2 cI cZ) (wM cI cZ a) A) A) args s 0 0 A) (F0 m 3 ls []) := by
    intro f
    induction f with
    | zero => intro k H locs ls hf hk hno; exact absurd hf (by omega)
    | succ f ih =>
      intro k H locs ls hf hk hno hP hD hS hl
      refine lv_iload hx hb dX6_meets_3 (lv_at hl 5 rfl) ?_
      refine lv_aload_n hx hb dX6_meets_5 rfl (lv_at hl 0 rfl) ?_
      refine va_get (D := D) (ci := 6) (v := .int (σ 13 0)) (C := RX6) (T := TX6) (N := 26) hx hb hts in_X6_meets_X6 hown hK hP 0 rfl rfl 11 (by decide) (hts (.fieldLink RX6 96 "WarpyardModel" "bookings" "I") (by decide +kernel)) (fun _ h9 => h9) rfl dX6_meets_6 ?_
      refine lv_topi (fun v_9 e_9 => ?_)
      obtain rfl : v_9 = nI nb := by rw [e_9]; exact hnb
      refine lv_icmp_ge (tgt := 65) hx hb dX6_meets_9 (by decide) (fun c_9 => ?_) (fun c_9 => ?_)
      · skip
        rw [nI_leI (by omega) (by omega)] at c_9
        refine lv_iconst (v := 0) hx hb dX6_meets_65 (by decide) ?_
        exact MI.zret hx hb hr hlocks hK hP hD hS dX6_meets_66 rfl (by exact ⟨rfl, Or.inr ⟨rfl, fun ⟨i, hi, h⟩ => hno i (by omega) h⟩⟩)
      · skip
        rw [nI_leI (by omega) (by omega)] at c_9
        refine lv_aload_n hx hb dX6_meets_12 rfl (lv_at hl 0 rfl) ?_
        refine va_get (D := D) (ci := 6) (v := .ref (a 10)) (C := RX6) (T := TX6) (N := 26) hx hb hts in_X6_meets_X6 hown hK hP 0 rfl rfl 13 (by decide) (hts (.fieldLink RX6 38 "WarpyardModel" "bookedBlocks" "[I") (by decide +kernel)) (fun _ h9 => h9) rfl dX6_meets_13 ?_
        refine lv_iload hx hb dX6_meets_16 (lv_at hl 5 rfl) ?_
        refine na_iald hx hb hK hP 10 0 (f := (σ 15)) rfl rfl k (by omega) (by decide) rfl dX6_meets_18 ?_
        refine lv_iload_n hx hb dX6_meets_19 rfl (lv_at hl 2 rfl) ?_
        refine lv_icmp_ne (tgt := 59) hx hb dX6_meets_20 (by decide) (fun c_20 => ?_) (fun c_20 => ?_)
        · skip
          refine lv_iinc (v := nI (k + 1)) (lv' := [(5, .int (nI (k + 1))), (0, .ref (a 0)), (1, .int t), (2, .int b), (3, .int fr), (4, .int to)]) hx hb dX6_meets_59 hl (k := 5) rfl (by exact nI_1 k) (by decide) rfl (fun ls hl => ?_)
          refine lv_goto (tgt := 3) hx hb dX6_meets_62 (by decide) ?_
          exact ih (k + 1) _ _ ls (by omega) (by omega) (by exact lt_s hno (fun h => c_20 h.1)) hP hD hS (lv_sub hl [1, 2, 3, 4, 5, 0] rfl)
        · skip
          refine lv_aload_n hx hb dX6_meets_23 rfl (lv_at hl 0 rfl) ?_
          refine va_get (D := D) (ci := 6) (v := .ref (a 9)) (C := RX6) (T := TX6) (N := 26) hx hb hts in_X6_meets_X6 hown hK hP 0 rfl rfl 12 (by decide) (hts (.fieldLink RX6 35 "WarpyardModel" "bookedTrains" "[I") (by decide +kernel)) (fun _ h9 => h9) rfl dX6_meets_24 ?_
          refine lv_iload hx hb dX6_meets_27 (lv_at hl 5 rfl) ?_
          refine na_iald hx hb hK hP 9 0 (f := (σ 14)) rfl rfl k (by omega) (by decide) rfl dX6_meets_29 ?_
          refine lv_iload_n hx hb dX6_meets_30 rfl (lv_at hl 1 rfl) ?_
          refine lv_icmp_eq (tgt := 59) hx hb dX6_meets_31 (by decide) (fun c_31 => ?_) (fun c_31 => ?_)
          · skip
            refine lv_iinc (v := nI (k + 1)) (lv' := [(5, .int (nI (k + 1))), (0, .ref (a 0)), (1, .int t), (2, .int b), (3, .int fr), (4, .int to)]) hx hb dX6_meets_59 hl (k := 5) rfl (by exact nI_1 k) (by decide) rfl (fun ls hl => ?_)
            refine lv_goto (tgt := 3) hx hb dX6_meets_62 (by decide) ?_
            exact ih (k + 1) _ _ ls (by omega) (by omega) (by exact lt_s hno (fun h => h.2.1 c_31)) hP hD hS (lv_sub hl [1, 2, 3, 4, 5, 0] rfl)
          · skip
            refine lv_aload_n hx hb dX6_meets_34 rfl (lv_at hl 0 rfl) ?_
            refine va_get (D := D) (ci := 6) (v := .ref (a 11)) (C := RX6) (T := TX6) (N := 26) hx hb hts in_X6_meets_X6 hown hK hP 0 rfl rfl 14 (by decide) (hts (.fieldLink RX6 41 "WarpyardModel" "firsts" "[I") (by decide +kernel)) (fun _ h9 => h9) rfl dX6_meets_35 ?_
            refine lv_iload hx hb dX6_meets_38 (lv_at hl 5 rfl) ?_
            refine na_iald hx hb hK hP 11 0 (f := (σ 16)) rfl rfl k (by omega) (by decide) rfl dX6_meets_40 ?_
            refine lv_iload hx hb dX6_meets_41 (lv_at hl 4 rfl) ?_
            refine lv_icmp_gt (tgt := 59) hx hb dX6_meets_43 (by decide) (fun c_43 => ?_) (fun c_43 => ?_)
            · skip
              refine lv_iinc (v := nI (k + 1)) (lv' := [(5, .int (nI (k + 1))), (0, .ref (a 0)), (1, .int t), (2, .int b), (3, .int fr), (4, .int to)]) hx hb dX6_meets_59 hl (k := 5) rfl (by exact nI_1 k) (by decide) rfl (fun ls hl => ?_)
              refine lv_goto (tgt := 3) hx hb dX6_meets_62 (by decide) ?_
              exact ih (k + 1) _ _ ls (by omega) (by omega) (by exact lt_s hno (fun h => h.2.2.1 c_43)) hP hD hS (lv_sub hl [1, 2, 3, 4, 5, 0] rfl)
            · skip
              refine lv_aload_n hx hb dX6_meets_46 rfl (lv_at hl 0 rfl) ?_
              refine va_get (D := D) (ci := 6) (v := .ref (a 12)) (C := RX6) (T := TX6) (N := 26) hx hb hts in_X6_meets_X6 hown hK hP 0 rfl rfl 15 (by decide) (hts (.fieldLink RX6 44 "WarpyardModel" "lasts" "[I") (by decide +kernel)) (fun _ h9 => h9) rfl dX6_meets_47 ?_
              refine lv_iload hx hb dX6_meets_50 (lv_at hl 5 rfl) ?_
              refine na_iald hx hb hK hP 12 0 (f := (σ 17)) rfl rfl k (by omega) (by decide) rfl dX6_meets_52 ?_
              refine lv_iload_n hx hb dX6_meets_53 rfl (lv_at hl 3 rfl) ?_
              refine lv_icmp_lt (tgt := 59) hx hb dX6_meets_54 (by decide) (fun c_54 => ?_) (fun c_54 => ?_)
              · skip
                refine lv_iinc (v := nI (k + 1)) (lv' := [(5, .int (nI (k + 1))), (0, .ref (a 0)), (1, .int t), (2, .int b), (3, .int fr), (4, .int to)]) hx hb dX6_meets_59 hl (k := 5) rfl (by exact nI_1 k) (by decide) rfl (fun ls hl => ?_)
                refine lv_goto (tgt := 3) hx hb dX6_meets_62 (by decide) ?_
                exact ih (k + 1) _ _ ls (by omega) (by omega) (by exact lt_s hno (fun h => h.2.2.2 c_54)) hP hD hS (lv_sub hl [1, 2, 3, 4, 5, 0] rfl)
              · skip
                refine lv_iconst (v := 1) hx hb dX6_meets_57 (by decide) ?_
                exact MI.zret hx hb hr hlocks hK hP hD hS dX6_meets_58 rfl (by exact ⟨rfl, Or.inl ⟨rfl, k, by omega, c_20, c_31, c_43, c_54⟩⟩)
  exact loop_3 (nb + 1) 0 _ _ ls (by omega) (by omega) (by intro i hi; omega) hP hD hS (lv_sub hl [1, 2, 3, 4, 5, 0] rfl)
set_option maxRecDepth 20000 in
theorem in_X6_behind_X6 : ∀ w ∈ wsX60, w ∈ wsX6_behind := by decide +kernel
set_option maxHeartbeats 4000000 in
set_option maxRecDepth 100000 in
/-- the reference: behind -/
theorem c_X6_behind (l : Launch) (D : va_G) (cI cZ : ClassId) (a : Nat → Nat) (sz : Nat) (σ : St) (b rt : Int32) (hb8 : blk b) : MI l yX6_behind wsX6_behind ({ frames := 0, cells := 0, slots := 0, locals := 0 }) D (ty2 cI cZ) (wM cI cZ a) [.ref (a 0), .int b, .int rt] σ sz (fun r u => u = σ ∧ r = ahd (σ 2) b rt) := by
  refine MI.of (cc := cX6_behind) (maxL := 4) (by decide) rfl (Nat.le_of_ble_eq_true rfl) ?_
  intro p e s m args below meth c A H locs ls hx hb hr hml hown hts hlocks hA hS hP hK hD hl
  have hl : lv_has ls 4 [(0, .ref (a 0)), (1, .int b), (2, .int rt)] := hl
  rcases hb8 with rfl | rfl | rfl | rfl | rfl | rfl | rfl | rfl
  · skip
    refine lv_iload_n hx hb dX6_behind_0 rfl (lv_at hl 1 rfl) ?_
    refine lv_iconst (v := 5) hx hb dX6_behind_1 (by decide) ?_
    refine lv_icmp_le (tgt := 38) hx hb dX6_behind_2 (by decide) (fun _ => ?_) (fun c9 => absurd (by decide) c9)
    refine lv_iload_n hx hb dX6_behind_38 rfl (lv_at hl 2 rfl) ?_
    refine lv_if_eq (tgt := 96) hx hb dX6_behind_39 (by decide) (fun c_39 => ?_) (fun c_39 => ?_)
    · skip
      refine lv_iload_n hx hb dX6_behind_96 rfl (lv_at hl 1 rfl) ?_
      refine lv_iconst (v := 2) hx hb dX6_behind_97 (by decide) ?_
      refine lv_icmp_eq (tgt := 106) hx hb dX6_behind_98 (by decide) (fun c9 => absurd c9 (by decide)) (fun _ => ?_)
      refine lv_iload_n hx hb dX6_behind_101 rfl (lv_at hl 1 rfl) ?_
      refine lv_iconst (v := 4) hx hb dX6_behind_102 (by decide) ?_
      refine lv_icmp_ne (tgt := 110) hx hb dX6_behind_103 (by decide) (fun _ => ?_) (fun c9 => absurd c9 (by decide))
      refine lv_iconst (v := 0) hx hb dX6_behind_110 (by decide) ?_
      refine lv_istore_n (lv' := [(3, .int 0), (0, .ref (a 0)), (1, .int 0), (2, .int rt)]) hx hb dX6_behind_111 rfl hl (by decide) rfl (fun ls hl => ?_)
      refine lv_iload_n hx hb dX6_behind_112 rfl (lv_at hl 2 rfl) ?_
      refine lv_if_ne (tgt := 121) hx hb dX6_behind_113 (by decide) (fun c9 => absurd (by decide) c9) (fun _ => ?_)
      refine lv_bipush (v := (-2)) hx hb dX6_behind_116 (by decide) ?_
      refine lv_goto (tgt := 145) hx hb dX6_behind_118 (by decide) ?_
      exact MI.ret hx hb hr hlocks hK hP hD hS dX6_behind_145 (by refine ⟨rfl, ?_⟩; simp (decide := true) only [ahd, if_true, if_false, reduceIte, c_39])
    · skip
      refine lv_iload_n hx hb dX6_behind_42 rfl (lv_at hl 1 rfl) ?_
      refine lv_iconst (v := 1) hx hb dX6_behind_43 (by decide) ?_
      refine lv_icmp_eq (tgt := 52) hx hb dX6_behind_44 (by decide) (fun c9 => absurd c9 (by decide)) (fun _ => ?_)
      refine lv_iload_n hx hb dX6_behind_47 rfl (lv_at hl 1 rfl) ?_
      refine lv_iconst (v := 3) hx hb dX6_behind_48 (by decide) ?_
      refine lv_icmp_ne (tgt := 56) hx hb dX6_behind_49 (by decide) (fun _ => ?_) (fun c9 => absurd c9 (by decide))
      refine lv_iconst (v := 0) hx hb dX6_behind_56 (by decide) ?_
      refine lv_istore_n (lv' := [(3, .int 0), (0, .ref (a 0)), (1, .int 0), (2, .int rt)]) hx hb dX6_behind_57 rfl hl (by decide) rfl (fun ls hl => ?_)
      refine lv_iload_n hx hb dX6_behind_58 rfl (lv_at hl 2 rfl) ?_
      refine lv_iconst (v := 5) hx hb dX6_behind_59 (by decide) ?_
      refine lv_icmp_ne (tgt := 68) hx hb dX6_behind_60 (by decide) (fun _ => ?_) (fun c9 => absurd c9 (by decide))
      refine lv_iload_n hx hb dX6_behind_68 rfl (lv_at hl 0 rfl) ?_
      refine lv_if_eq (tgt := 92) hx hb dX6_behind_69 (by decide) (fun _ => ?_) (fun c9 => absurd (by decide) c9)
      refine lv_iload_n hx hb dX6_behind_92 rfl (lv_at hl 2 rfl) ?_
      refine lv_iconst (v := 1) hx hb dX6_behind_93 (by decide) ?_
      refine lv_iadd hx hb dX6_behind_94 ?_
      refine lv_topi (fun v_94 e_94 => ?_)
      obtain rfl : v_94 = 1 := e_94.trans (by decide)
      exact MI.ret hx hb hr hlocks hK hP hD hS dX6_behind_95 (by refine ⟨rfl, ?_⟩; simp (decide := true) only [ahd, if_true, if_false, reduceIte, c_39])
  · skip
    refine lv_iload_n hx hb dX6_behind_0 rfl (lv_at hl 1 rfl) ?_
    refine lv_iconst (v := 5) hx hb dX6_behind_1 (by decide) ?_
    refine lv_icmp_le (tgt := 38) hx hb dX6_behind_2 (by decide) (fun _ => ?_) (fun c9 => absurd (by decide) c9)
    refine lv_iload_n hx hb dX6_behind_38 rfl (lv_at hl 2 rfl) ?_
    refine lv_if_eq (tgt := 96) hx hb dX6_behind_39 (by decide) (fun c_39 => ?_) (fun c_39 => ?_)
    · skip
      refine lv_iload_n hx hb dX6_behind_96 rfl (lv_at hl 1 rfl) ?_
      refine lv_iconst (v := 2) hx hb dX6_behind_97 (by decide) ?_
      refine lv_icmp_eq (tgt := 106) hx hb dX6_behind_98 (by decide) (fun c9 => absurd c9 (by decide)) (fun _ => ?_)
      refine lv_iload_n hx hb dX6_behind_101 rfl (lv_at hl 1 rfl) ?_
      refine lv_iconst (v := 4) hx hb dX6_behind_102 (by decide) ?_
      refine lv_icmp_ne (tgt := 110) hx hb dX6_behind_103 (by decide) (fun _ => ?_) (fun c9 => absurd c9 (by decide))
      refine lv_iconst (v := 0) hx hb dX6_behind_110 (by decide) ?_
      refine lv_istore_n (lv' := [(3, .int 0), (0, .ref (a 0)), (1, .int 1), (2, .int rt)]) hx hb dX6_behind_111 rfl hl (by decide) rfl (fun ls hl => ?_)
      refine lv_iload_n hx hb dX6_behind_112 rfl (lv_at hl 2 rfl) ?_
      refine lv_if_ne (tgt := 121) hx hb dX6_behind_113 (by decide) (fun _ => ?_) (fun c9 => absurd c9 (by decide))
      refine lv_iload_n hx hb dX6_behind_121 rfl (lv_at hl 0 rfl) ?_
      refine lv_if_eq (tgt := 142) hx hb dX6_behind_122 (by decide) (fun _ => ?_) (fun c9 => absurd (by decide) c9)
      refine lv_iload_n hx hb dX6_behind_142 rfl (lv_at hl 2 rfl) ?_
      refine lv_iconst (v := 1) hx hb dX6_behind_143 (by decide) ?_
      refine lv_isub hx hb dX6_behind_144 ?_
      refine lv_topi (fun v_144 e_144 => ?_)
      obtain rfl : v_144 = 0 := e_144.trans (by decide)
      exact MI.ret hx hb hr hlocks hK hP hD hS dX6_behind_145 (by refine ⟨rfl, ?_⟩; simp (decide := true) only [ahd, if_true, if_false, reduceIte, c_39])
    · skip
      refine lv_iload_n hx hb dX6_behind_42 rfl (lv_at hl 1 rfl) ?_
      refine lv_iconst (v := 1) hx hb dX6_behind_43 (by decide) ?_
      refine lv_icmp_eq (tgt := 52) hx hb dX6_behind_44 (by decide) (fun _ => ?_) (fun c9 => absurd (by decide) c9)
      refine lv_iconst (v := 1) hx hb dX6_behind_52 (by decide) ?_
      refine lv_goto (tgt := 57) hx hb dX6_behind_53 (by decide) ?_
      refine lv_istore_n (lv' := [(3, .int 1), (0, .ref (a 0)), (1, .int 1), (2, .int rt)]) hx hb dX6_behind_57 rfl hl (by decide) rfl (fun ls hl => ?_)
      refine lv_iload_n hx hb dX6_behind_58 rfl (lv_at hl 2 rfl) ?_
      refine lv_iconst (v := 5) hx hb dX6_behind_59 (by decide) ?_
      refine lv_icmp_ne (tgt := 68) hx hb dX6_behind_60 (by decide) (fun _ => ?_) (fun c9 => absurd c9 (by decide))
      refine lv_iload_n hx hb dX6_behind_68 rfl (lv_at hl 0 rfl) ?_
      refine lv_if_eq (tgt := 92) hx hb dX6_behind_69 (by decide) (fun c9 => absurd c9 (by decide)) (fun _ => ?_)
      refine lv_aload_n hx hb dX6_behind_72 rfl (lv_at hl 1 rfl) ?_
      refine va_get (D := D) (ci := 6) (v := .ref (a 5)) (C := RX6) (T := TX6) (N := 26) hx hb hts in_X6_behind_X6 hown hK hP 0 rfl rfl 7 (by decide) (hts (.fieldLink RX6 23 "WarpyardModel" "areTurned" "[Z") (by decide +kernel)) (fun _ h9 => h9) rfl dX6_behind_73 ?_
      refine lv_iload_n hx hb dX6_behind_76 rfl (lv_at hl 2 rfl) ?_
      refine lv_iconst (v := 2) hx hb dX6_behind_77 (by decide) ?_
      refine lv_idiv hx hb dX6_behind_78 (by decide) ?_
      refine lv_topi (fun v_78 e_78 => ?_)
      obtain rfl : v_78 = 0 := e_78.trans (by decide)
      refine na_zald hx hb hK hP 5 1 (f := (σ 2)) rfl rfl 0 (by decide) (by decide) rfl dX6_behind_79 ?_
      refine lv_if_eq (tgt := 92) hx hb dX6_behind_80 (by decide) (fun c_80 => ?_) (fun c_80 => ?_)
      · skip
        refine lv_iload_n hx hb dX6_behind_92 rfl (lv_at hl 2 rfl) ?_
        refine lv_iconst (v := 1) hx hb dX6_behind_93 (by decide) ?_
        refine lv_iadd hx hb dX6_behind_94 ?_
        refine lv_topi (fun v_94 e_94 => ?_)
        obtain rfl : v_94 = 2 := e_94.trans (by decide)
        exact MI.ret hx hb hr hlocks hK hP hD hS dX6_behind_95 (by refine ⟨rfl, ?_⟩; simp (decide := true) only [ahd, if_true, if_false, reduceIte, c_39, c_80])
      · skip
        refine lv_bipush (v := 6) hx hb dX6_behind_83 (by decide) ?_
        refine lv_iload_n hx hb dX6_behind_85 rfl (lv_at hl 2 rfl) ?_
        refine lv_iconst (v := 2) hx hb dX6_behind_86 (by decide) ?_
        refine lv_idiv hx hb dX6_behind_87 (by decide) ?_
        refine lv_topi (fun v_87 e_87 => ?_)
        obtain rfl : v_87 = 0 := e_87.trans (by decide)
        refine lv_iadd hx hb dX6_behind_88 ?_
        refine lv_topi (fun v_88 e_88 => ?_)
        obtain rfl : v_88 = 6 := e_88.trans (by decide)
        refine lv_goto (tgt := 95) hx hb dX6_behind_89 (by decide) ?_
        exact MI.ret hx hb hr hlocks hK hP hD hS dX6_behind_95 (by refine ⟨rfl, ?_⟩; simp (decide := true) only [ahd, if_true, if_false, reduceIte, c_39, c_80])
  · skip
    refine lv_iload_n hx hb dX6_behind_0 rfl (lv_at hl 1 rfl) ?_
    refine lv_iconst (v := 5) hx hb dX6_behind_1 (by decide) ?_
    refine lv_icmp_le (tgt := 38) hx hb dX6_behind_2 (by decide) (fun _ => ?_) (fun c9 => absurd (by decide) c9)
    refine lv_iload_n hx hb dX6_behind_38 rfl (lv_at hl 2 rfl) ?_
    refine lv_if_eq (tgt := 96) hx hb dX6_behind_39 (by decide) (fun c_39 => ?_) (fun c_39 => ?_)
    · skip
      refine lv_iload_n hx hb dX6_behind_96 rfl (lv_at hl 1 rfl) ?_
      refine lv_iconst (v := 2) hx hb dX6_behind_97 (by decide) ?_
      refine lv_icmp_eq (tgt := 106) hx hb dX6_behind_98 (by decide) (fun _ => ?_) (fun c9 => absurd (by decide) c9)
      refine lv_iconst (v := 1) hx hb dX6_behind_106 (by decide) ?_
      refine lv_goto (tgt := 111) hx hb dX6_behind_107 (by decide) ?_
      refine lv_istore_n (lv' := [(3, .int 1), (0, .ref (a 0)), (1, .int 2), (2, .int rt)]) hx hb dX6_behind_111 rfl hl (by decide) rfl (fun ls hl => ?_)
      refine lv_iload_n hx hb dX6_behind_112 rfl (lv_at hl 2 rfl) ?_
      refine lv_if_ne (tgt := 121) hx hb dX6_behind_113 (by decide) (fun _ => ?_) (fun c9 => absurd c9 (by decide))
      refine lv_iload_n hx hb dX6_behind_121 rfl (lv_at hl 0 rfl) ?_
      refine lv_if_eq (tgt := 142) hx hb dX6_behind_122 (by decide) (fun c9 => absurd c9 (by decide)) (fun _ => ?_)
      refine lv_aload_n hx hb dX6_behind_125 rfl (lv_at hl 1 rfl) ?_
      refine va_get (D := D) (ci := 6) (v := .ref (a 5)) (C := RX6) (T := TX6) (N := 26) hx hb hts in_X6_behind_X6 hown hK hP 0 rfl rfl 7 (by decide) (hts (.fieldLink RX6 23 "WarpyardModel" "areTurned" "[Z") (by decide +kernel)) (fun _ h9 => h9) rfl dX6_behind_126 ?_
      refine lv_iload_n hx hb dX6_behind_129 rfl (lv_at hl 2 rfl) ?_
      refine lv_iconst (v := 2) hx hb dX6_behind_130 (by decide) ?_
      refine lv_idiv hx hb dX6_behind_131 (by decide) ?_
      refine lv_topi (fun v_131 e_131 => ?_)
      obtain rfl : v_131 = 1 := e_131.trans (by decide)
      refine lv_iconst (v := 1) hx hb dX6_behind_132 (by decide) ?_
      refine lv_isub hx hb dX6_behind_133 ?_
      refine lv_topi (fun v_133 e_133 => ?_)
      obtain rfl : v_133 = 0 := e_133.trans (by decide)
      refine na_zald hx hb hK hP 5 1 (f := (σ 2)) rfl rfl 0 (by decide) (by decide) rfl dX6_behind_134 ?_
      refine lv_if_eq (tgt := 142) hx hb dX6_behind_135 (by decide) (fun c_135 => ?_) (fun c_135 => ?_)
      · skip
        refine lv_iload_n hx hb dX6_behind_142 rfl (lv_at hl 2 rfl) ?_
        refine lv_iconst (v := 1) hx hb dX6_behind_143 (by decide) ?_
        refine lv_isub hx hb dX6_behind_144 ?_
        refine lv_topi (fun v_144 e_144 => ?_)
        obtain rfl : v_144 = 1 := e_144.trans (by decide)
        exact MI.ret hx hb hr hlocks hK hP hD hS dX6_behind_145 (by refine ⟨rfl, ?_⟩; simp (decide := true) only [ahd, if_true, if_false, reduceIte, c_39, c_135])
      · skip
        refine lv_iconst (v := (-1)) hx hb dX6_behind_138 (by decide) ?_
        refine lv_goto (tgt := 145) hx hb dX6_behind_139 (by decide) ?_
        exact MI.ret hx hb hr hlocks hK hP hD hS dX6_behind_145 (by refine ⟨rfl, ?_⟩; simp (decide := true) only [ahd, if_true, if_false, reduceIte, c_39, c_135])
    · skip
      refine lv_iload_n hx hb dX6_behind_42 rfl (lv_at hl 1 rfl) ?_
      refine lv_iconst (v := 1) hx hb dX6_behind_43 (by decide) ?_
      refine lv_icmp_eq (tgt := 52) hx hb dX6_behind_44 (by decide) (fun c9 => absurd c9 (by decide)) (fun _ => ?_)
      refine lv_iload_n hx hb dX6_behind_47 rfl (lv_at hl 1 rfl) ?_
      refine lv_iconst (v := 3) hx hb dX6_behind_48 (by decide) ?_
      refine lv_icmp_ne (tgt := 56) hx hb dX6_behind_49 (by decide) (fun _ => ?_) (fun c9 => absurd c9 (by decide))
      refine lv_iconst (v := 0) hx hb dX6_behind_56 (by decide) ?_
      refine lv_istore_n (lv' := [(3, .int 0), (0, .ref (a 0)), (1, .int 2), (2, .int rt)]) hx hb dX6_behind_57 rfl hl (by decide) rfl (fun ls hl => ?_)
      refine lv_iload_n hx hb dX6_behind_58 rfl (lv_at hl 2 rfl) ?_
      refine lv_iconst (v := 5) hx hb dX6_behind_59 (by decide) ?_
      refine lv_icmp_ne (tgt := 68) hx hb dX6_behind_60 (by decide) (fun _ => ?_) (fun c9 => absurd c9 (by decide))
      refine lv_iload_n hx hb dX6_behind_68 rfl (lv_at hl 0 rfl) ?_
      refine lv_if_eq (tgt := 92) hx hb dX6_behind_69 (by decide) (fun _ => ?_) (fun c9 => absurd (by decide) c9)
      refine lv_iload_n hx hb dX6_behind_92 rfl (lv_at hl 2 rfl) ?_
      refine lv_iconst (v := 1) hx hb dX6_behind_93 (by decide) ?_
      refine lv_iadd hx hb dX6_behind_94 ?_
      refine lv_topi (fun v_94 e_94 => ?_)
      obtain rfl : v_94 = 3 := e_94.trans (by decide)
      exact MI.ret hx hb hr hlocks hK hP hD hS dX6_behind_95 (by refine ⟨rfl, ?_⟩; simp (decide := true) only [ahd, if_true, if_false, reduceIte, c_39])
  · skip
    refine lv_iload_n hx hb dX6_behind_0 rfl (lv_at hl 1 rfl) ?_
    refine lv_iconst (v := 5) hx hb dX6_behind_1 (by decide) ?_
    refine lv_icmp_le (tgt := 38) hx hb dX6_behind_2 (by decide) (fun _ => ?_) (fun c9 => absurd (by decide) c9)
    refine lv_iload_n hx hb dX6_behind_38 rfl (lv_at hl 2 rfl) ?_
    refine lv_if_eq (tgt := 96) hx hb dX6_behind_39 (by decide) (fun c_39 => ?_) (fun c_39 => ?_)
    · skip
      refine lv_iload_n hx hb dX6_behind_96 rfl (lv_at hl 1 rfl) ?_
      refine lv_iconst (v := 2) hx hb dX6_behind_97 (by decide) ?_
      refine lv_icmp_eq (tgt := 106) hx hb dX6_behind_98 (by decide) (fun c9 => absurd c9 (by decide)) (fun _ => ?_)
      refine lv_iload_n hx hb dX6_behind_101 rfl (lv_at hl 1 rfl) ?_
      refine lv_iconst (v := 4) hx hb dX6_behind_102 (by decide) ?_
      refine lv_icmp_ne (tgt := 110) hx hb dX6_behind_103 (by decide) (fun _ => ?_) (fun c9 => absurd c9 (by decide))
      refine lv_iconst (v := 0) hx hb dX6_behind_110 (by decide) ?_
      refine lv_istore_n (lv' := [(3, .int 0), (0, .ref (a 0)), (1, .int 3), (2, .int rt)]) hx hb dX6_behind_111 rfl hl (by decide) rfl (fun ls hl => ?_)
      refine lv_iload_n hx hb dX6_behind_112 rfl (lv_at hl 2 rfl) ?_
      refine lv_if_ne (tgt := 121) hx hb dX6_behind_113 (by decide) (fun _ => ?_) (fun c9 => absurd c9 (by decide))
      refine lv_iload_n hx hb dX6_behind_121 rfl (lv_at hl 0 rfl) ?_
      refine lv_if_eq (tgt := 142) hx hb dX6_behind_122 (by decide) (fun _ => ?_) (fun c9 => absurd (by decide) c9)
      refine lv_iload_n hx hb dX6_behind_142 rfl (lv_at hl 2 rfl) ?_
      refine lv_iconst (v := 1) hx hb dX6_behind_143 (by decide) ?_
      refine lv_isub hx hb dX6_behind_144 ?_
      refine lv_topi (fun v_144 e_144 => ?_)
      obtain rfl : v_144 = 2 := e_144.trans (by decide)
      exact MI.ret hx hb hr hlocks hK hP hD hS dX6_behind_145 (by refine ⟨rfl, ?_⟩; simp (decide := true) only [ahd, if_true, if_false, reduceIte, c_39])
    · skip
      refine lv_iload_n hx hb dX6_behind_42 rfl (lv_at hl 1 rfl) ?_
      refine lv_iconst (v := 1) hx hb dX6_behind_43 (by decide) ?_
      refine lv_icmp_eq (tgt := 52) hx hb dX6_behind_44 (by decide) (fun c9 => absurd c9 (by decide)) (fun _ => ?_)
      refine lv_iload_n hx hb dX6_behind_47 rfl (lv_at hl 1 rfl) ?_
      refine lv_iconst (v := 3) hx hb dX6_behind_48 (by decide) ?_
      refine lv_icmp_ne (tgt := 56) hx hb dX6_behind_49 (by decide) (fun c9 => absurd (by decide) c9) (fun _ => ?_)
      refine lv_iconst (v := 1) hx hb dX6_behind_52 (by decide) ?_
      refine lv_goto (tgt := 57) hx hb dX6_behind_53 (by decide) ?_
      refine lv_istore_n (lv' := [(3, .int 1), (0, .ref (a 0)), (1, .int 3), (2, .int rt)]) hx hb dX6_behind_57 rfl hl (by decide) rfl (fun ls hl => ?_)
      refine lv_iload_n hx hb dX6_behind_58 rfl (lv_at hl 2 rfl) ?_
      refine lv_iconst (v := 5) hx hb dX6_behind_59 (by decide) ?_
      refine lv_icmp_ne (tgt := 68) hx hb dX6_behind_60 (by decide) (fun _ => ?_) (fun c9 => absurd c9 (by decide))
      refine lv_iload_n hx hb dX6_behind_68 rfl (lv_at hl 0 rfl) ?_
      refine lv_if_eq (tgt := 92) hx hb dX6_behind_69 (by decide) (fun c9 => absurd c9 (by decide)) (fun _ => ?_)
      refine lv_aload_n hx hb dX6_behind_72 rfl (lv_at hl 1 rfl) ?_
      refine va_get (D := D) (ci := 6) (v := .ref (a 5)) (C := RX6) (T := TX6) (N := 26) hx hb hts in_X6_behind_X6 hown hK hP 0 rfl rfl 7 (by decide) (hts (.fieldLink RX6 23 "WarpyardModel" "areTurned" "[Z") (by decide +kernel)) (fun _ h9 => h9) rfl dX6_behind_73 ?_
      refine lv_iload_n hx hb dX6_behind_76 rfl (lv_at hl 2 rfl) ?_
      refine lv_iconst (v := 2) hx hb dX6_behind_77 (by decide) ?_
      refine lv_idiv hx hb dX6_behind_78 (by decide) ?_
      refine lv_topi (fun v_78 e_78 => ?_)
      obtain rfl : v_78 = 1 := e_78.trans (by decide)
      refine na_zald hx hb hK hP 5 1 (f := (σ 2)) rfl rfl 1 (by decide) (by decide) rfl dX6_behind_79 ?_
      refine lv_if_eq (tgt := 92) hx hb dX6_behind_80 (by decide) (fun c_80 => ?_) (fun c_80 => ?_)
      · skip
        refine lv_iload_n hx hb dX6_behind_92 rfl (lv_at hl 2 rfl) ?_
        refine lv_iconst (v := 1) hx hb dX6_behind_93 (by decide) ?_
        refine lv_iadd hx hb dX6_behind_94 ?_
        refine lv_topi (fun v_94 e_94 => ?_)
        obtain rfl : v_94 = 4 := e_94.trans (by decide)
        exact MI.ret hx hb hr hlocks hK hP hD hS dX6_behind_95 (by refine ⟨rfl, ?_⟩; simp (decide := true) only [ahd, if_true, if_false, reduceIte, c_39, c_80])
      · skip
        refine lv_bipush (v := 6) hx hb dX6_behind_83 (by decide) ?_
        refine lv_iload_n hx hb dX6_behind_85 rfl (lv_at hl 2 rfl) ?_
        refine lv_iconst (v := 2) hx hb dX6_behind_86 (by decide) ?_
        refine lv_idiv hx hb dX6_behind_87 (by decide) ?_
        refine lv_topi (fun v_87 e_87 => ?_)
        obtain rfl : v_87 = 1 := e_87.trans (by decide)
        refine lv_iadd hx hb dX6_behind_88 ?_
        refine lv_topi (fun v_88 e_88 => ?_)
        obtain rfl : v_88 = 7 := e_88.trans (by decide)
        refine lv_goto (tgt := 95) hx hb dX6_behind_89 (by decide) ?_
        exact MI.ret hx hb hr hlocks hK hP hD hS dX6_behind_95 (by refine ⟨rfl, ?_⟩; simp (decide := true) only [ahd, if_true, if_false, reduceIte, c_39, c_80])
  · skip
    refine lv_iload_n hx hb dX6_behind_0 rfl (lv_at hl 1 rfl) ?_
    refine lv_iconst (v := 5) hx hb dX6_behind_1 (by decide) ?_
    refine lv_icmp_le (tgt := 38) hx hb dX6_behind_2 (by decide) (fun _ => ?_) (fun c9 => absurd (by decide) c9)
    refine lv_iload_n hx hb dX6_behind_38 rfl (lv_at hl 2 rfl) ?_
    refine lv_if_eq (tgt := 96) hx hb dX6_behind_39 (by decide) (fun c_39 => ?_) (fun c_39 => ?_)
    · skip
      refine lv_iload_n hx hb dX6_behind_96 rfl (lv_at hl 1 rfl) ?_
      refine lv_iconst (v := 2) hx hb dX6_behind_97 (by decide) ?_
      refine lv_icmp_eq (tgt := 106) hx hb dX6_behind_98 (by decide) (fun c9 => absurd c9 (by decide)) (fun _ => ?_)
      refine lv_iload_n hx hb dX6_behind_101 rfl (lv_at hl 1 rfl) ?_
      refine lv_iconst (v := 4) hx hb dX6_behind_102 (by decide) ?_
      refine lv_icmp_ne (tgt := 110) hx hb dX6_behind_103 (by decide) (fun c9 => absurd (by decide) c9) (fun _ => ?_)
      refine lv_iconst (v := 1) hx hb dX6_behind_106 (by decide) ?_
      refine lv_goto (tgt := 111) hx hb dX6_behind_107 (by decide) ?_
      refine lv_istore_n (lv' := [(3, .int 1), (0, .ref (a 0)), (1, .int 4), (2, .int rt)]) hx hb dX6_behind_111 rfl hl (by decide) rfl (fun ls hl => ?_)
      refine lv_iload_n hx hb dX6_behind_112 rfl (lv_at hl 2 rfl) ?_
      refine lv_if_ne (tgt := 121) hx hb dX6_behind_113 (by decide) (fun _ => ?_) (fun c9 => absurd c9 (by decide))
      refine lv_iload_n hx hb dX6_behind_121 rfl (lv_at hl 0 rfl) ?_
      refine lv_if_eq (tgt := 142) hx hb dX6_behind_122 (by decide) (fun c9 => absurd c9 (by decide)) (fun _ => ?_)
      refine lv_aload_n hx hb dX6_behind_125 rfl (lv_at hl 1 rfl) ?_
      refine va_get (D := D) (ci := 6) (v := .ref (a 5)) (C := RX6) (T := TX6) (N := 26) hx hb hts in_X6_behind_X6 hown hK hP 0 rfl rfl 7 (by decide) (hts (.fieldLink RX6 23 "WarpyardModel" "areTurned" "[Z") (by decide +kernel)) (fun _ h9 => h9) rfl dX6_behind_126 ?_
      refine lv_iload_n hx hb dX6_behind_129 rfl (lv_at hl 2 rfl) ?_
      refine lv_iconst (v := 2) hx hb dX6_behind_130 (by decide) ?_
      refine lv_idiv hx hb dX6_behind_131 (by decide) ?_
      refine lv_topi (fun v_131 e_131 => ?_)
      obtain rfl : v_131 = 2 := e_131.trans (by decide)
      refine lv_iconst (v := 1) hx hb dX6_behind_132 (by decide) ?_
      refine lv_isub hx hb dX6_behind_133 ?_
      refine lv_topi (fun v_133 e_133 => ?_)
      obtain rfl : v_133 = 1 := e_133.trans (by decide)
      refine na_zald hx hb hK hP 5 1 (f := (σ 2)) rfl rfl 1 (by decide) (by decide) rfl dX6_behind_134 ?_
      refine lv_if_eq (tgt := 142) hx hb dX6_behind_135 (by decide) (fun c_135 => ?_) (fun c_135 => ?_)
      · skip
        refine lv_iload_n hx hb dX6_behind_142 rfl (lv_at hl 2 rfl) ?_
        refine lv_iconst (v := 1) hx hb dX6_behind_143 (by decide) ?_
        refine lv_isub hx hb dX6_behind_144 ?_
        refine lv_topi (fun v_144 e_144 => ?_)
        obtain rfl : v_144 = 3 := e_144.trans (by decide)
        exact MI.ret hx hb hr hlocks hK hP hD hS dX6_behind_145 (by refine ⟨rfl, ?_⟩; simp (decide := true) only [ahd, if_true, if_false, reduceIte, c_39, c_135])
      · skip
        refine lv_iconst (v := (-1)) hx hb dX6_behind_138 (by decide) ?_
        refine lv_goto (tgt := 145) hx hb dX6_behind_139 (by decide) ?_
        exact MI.ret hx hb hr hlocks hK hP hD hS dX6_behind_145 (by refine ⟨rfl, ?_⟩; simp (decide := true) only [ahd, if_true, if_false, reduceIte, c_39, c_135])
    · skip
      refine lv_iload_n hx hb dX6_behind_42 rfl (lv_at hl 1 rfl) ?_
      refine lv_iconst (v := 1) hx hb dX6_behind_43 (by decide) ?_
      refine lv_icmp_eq (tgt := 52) hx hb dX6_behind_44 (by decide) (fun c9 => absurd c9 (by decide)) (fun _ => ?_)
      refine lv_iload_n hx hb dX6_behind_47 rfl (lv_at hl 1 rfl) ?_
      refine lv_iconst (v := 3) hx hb dX6_behind_48 (by decide) ?_
      refine lv_icmp_ne (tgt := 56) hx hb dX6_behind_49 (by decide) (fun _ => ?_) (fun c9 => absurd c9 (by decide))
      refine lv_iconst (v := 0) hx hb dX6_behind_56 (by decide) ?_
      refine lv_istore_n (lv' := [(3, .int 0), (0, .ref (a 0)), (1, .int 4), (2, .int rt)]) hx hb dX6_behind_57 rfl hl (by decide) rfl (fun ls hl => ?_)
      refine lv_iload_n hx hb dX6_behind_58 rfl (lv_at hl 2 rfl) ?_
      refine lv_iconst (v := 5) hx hb dX6_behind_59 (by decide) ?_
      refine lv_icmp_ne (tgt := 68) hx hb dX6_behind_60 (by decide) (fun _ => ?_) (fun c9 => absurd c9 (by decide))
      refine lv_iload_n hx hb dX6_behind_68 rfl (lv_at hl 0 rfl) ?_
      refine lv_if_eq (tgt := 92) hx hb dX6_behind_69 (by decide) (fun _ => ?_) (fun c9 => absurd (by decide) c9)
      refine lv_iload_n hx hb dX6_behind_92 rfl (lv_at hl 2 rfl) ?_
      refine lv_iconst (v := 1) hx hb dX6_behind_93 (by decide) ?_
      refine lv_iadd hx hb dX6_behind_94 ?_
      refine lv_topi (fun v_94 e_94 => ?_)
      obtain rfl : v_94 = 5 := e_94.trans (by decide)
      exact MI.ret hx hb hr hlocks hK hP hD hS dX6_behind_95 (by refine ⟨rfl, ?_⟩; simp (decide := true) only [ahd, if_true, if_false, reduceIte, c_39])
  · skip
    refine lv_iload_n hx hb dX6_behind_0 rfl (lv_at hl 1 rfl) ?_
    refine lv_iconst (v := 5) hx hb dX6_behind_1 (by decide) ?_
    refine lv_icmp_le (tgt := 38) hx hb dX6_behind_2 (by decide) (fun _ => ?_) (fun c9 => absurd (by decide) c9)
    refine lv_iload_n hx hb dX6_behind_38 rfl (lv_at hl 2 rfl) ?_
    refine lv_if_eq (tgt := 96) hx hb dX6_behind_39 (by decide) (fun c_39 => ?_) (fun c_39 => ?_)
    · skip
      refine lv_iload_n hx hb dX6_behind_96 rfl (lv_at hl 1 rfl) ?_
      refine lv_iconst (v := 2) hx hb dX6_behind_97 (by decide) ?_
      refine lv_icmp_eq (tgt := 106) hx hb dX6_behind_98 (by decide) (fun c9 => absurd c9 (by decide)) (fun _ => ?_)
      refine lv_iload_n hx hb dX6_behind_101 rfl (lv_at hl 1 rfl) ?_
      refine lv_iconst (v := 4) hx hb dX6_behind_102 (by decide) ?_
      refine lv_icmp_ne (tgt := 110) hx hb dX6_behind_103 (by decide) (fun _ => ?_) (fun c9 => absurd c9 (by decide))
      refine lv_iconst (v := 0) hx hb dX6_behind_110 (by decide) ?_
      refine lv_istore_n (lv' := [(3, .int 0), (0, .ref (a 0)), (1, .int 5), (2, .int rt)]) hx hb dX6_behind_111 rfl hl (by decide) rfl (fun ls hl => ?_)
      refine lv_iload_n hx hb dX6_behind_112 rfl (lv_at hl 2 rfl) ?_
      refine lv_if_ne (tgt := 121) hx hb dX6_behind_113 (by decide) (fun _ => ?_) (fun c9 => absurd c9 (by decide))
      refine lv_iload_n hx hb dX6_behind_121 rfl (lv_at hl 0 rfl) ?_
      refine lv_if_eq (tgt := 142) hx hb dX6_behind_122 (by decide) (fun _ => ?_) (fun c9 => absurd (by decide) c9)
      refine lv_iload_n hx hb dX6_behind_142 rfl (lv_at hl 2 rfl) ?_
      refine lv_iconst (v := 1) hx hb dX6_behind_143 (by decide) ?_
      refine lv_isub hx hb dX6_behind_144 ?_
      refine lv_topi (fun v_144 e_144 => ?_)
      obtain rfl : v_144 = 4 := e_144.trans (by decide)
      exact MI.ret hx hb hr hlocks hK hP hD hS dX6_behind_145 (by refine ⟨rfl, ?_⟩; simp (decide := true) only [ahd, if_true, if_false, reduceIte, c_39])
    · skip
      refine lv_iload_n hx hb dX6_behind_42 rfl (lv_at hl 1 rfl) ?_
      refine lv_iconst (v := 1) hx hb dX6_behind_43 (by decide) ?_
      refine lv_icmp_eq (tgt := 52) hx hb dX6_behind_44 (by decide) (fun c9 => absurd c9 (by decide)) (fun _ => ?_)
      refine lv_iload_n hx hb dX6_behind_47 rfl (lv_at hl 1 rfl) ?_
      refine lv_iconst (v := 3) hx hb dX6_behind_48 (by decide) ?_
      refine lv_icmp_ne (tgt := 56) hx hb dX6_behind_49 (by decide) (fun _ => ?_) (fun c9 => absurd c9 (by decide))
      refine lv_iconst (v := 0) hx hb dX6_behind_56 (by decide) ?_
      refine lv_istore_n (lv' := [(3, .int 0), (0, .ref (a 0)), (1, .int 5), (2, .int rt)]) hx hb dX6_behind_57 rfl hl (by decide) rfl (fun ls hl => ?_)
      refine lv_iload_n hx hb dX6_behind_58 rfl (lv_at hl 2 rfl) ?_
      refine lv_iconst (v := 5) hx hb dX6_behind_59 (by decide) ?_
      refine lv_icmp_ne (tgt := 68) hx hb dX6_behind_60 (by decide) (fun c9 => absurd (by decide) c9) (fun _ => ?_)
      refine lv_bipush (v := (-2)) hx hb dX6_behind_63 (by decide) ?_
      refine lv_goto (tgt := 95) hx hb dX6_behind_65 (by decide) ?_
      exact MI.ret hx hb hr hlocks hK hP hD hS dX6_behind_95 (by refine ⟨rfl, ?_⟩; simp (decide := true) only [ahd, if_true, if_false, reduceIte, c_39])
  · skip
    refine lv_iload_n hx hb dX6_behind_0 rfl (lv_at hl 1 rfl) ?_
    refine lv_iconst (v := 5) hx hb dX6_behind_1 (by decide) ?_
    refine lv_icmp_le (tgt := 38) hx hb dX6_behind_2 (by decide) (fun c9 => absurd c9 (by decide)) (fun _ => ?_)
    refine lv_iload_n hx hb dX6_behind_5 rfl (lv_at hl 1 rfl) ?_
    refine lv_bipush (v := 6) hx hb dX6_behind_6 (by decide) ?_
    refine lv_isub hx hb dX6_behind_8 ?_
    refine lv_topi (fun v_8 e_8 => ?_)
    obtain rfl : v_8 = 0 := e_8.trans (by decide)
    refine lv_istore_n (lv' := [(3, .int 0), (0, .ref (a 0)), (1, .int 6), (2, .int rt)]) hx hb dX6_behind_9 rfl hl (by decide) rfl (fun ls hl => ?_)
    refine lv_iload_n hx hb dX6_behind_10 rfl (lv_at hl 3 rfl) ?_
    refine lv_if_eq (tgt := 19) hx hb dX6_behind_11 (by decide) (fun c_11 => ?_) (fun c_11 => ?_)
    · skip
      refine lv_aload_n hx hb dX6_behind_19 rfl (lv_at hl 1 rfl) ?_
      refine va_get (D := D) (ci := 6) (v := .ref (a 5)) (C := RX6) (T := TX6) (N := 26) hx hb hts in_X6_behind_X6 hown hK hP 0 rfl rfl 7 (by decide) (hts (.fieldLink RX6 23 "WarpyardModel" "areTurned" "[Z") (by decide +kernel)) (fun _ h9 => h9) rfl dX6_behind_20 ?_
      refine lv_iload_n hx hb dX6_behind_23 rfl (lv_at hl 0 rfl) ?_
      refine na_zald hx hb hK hP 5 1 (f := (σ 2)) rfl rfl 0 (by decide) (by decide) rfl dX6_behind_24 ?_
      refine lv_if_eq (tgt := 36) hx hb dX6_behind_25 (by decide) (fun c_25 => ?_) (fun c_25 => ?_)
      · skip
        refine lv_iconst (v := (-1)) hx hb dX6_behind_36 (by decide) ?_
        exact MI.ret hx hb hr hlocks hK hP hD hS dX6_behind_37 (by refine ⟨rfl, ?_⟩; simp (decide := true) only [ahd, if_true, if_false, reduceIte, c_11, c_25])
      · skip
        refine lv_iconst (v := 2) hx hb dX6_behind_28 (by decide) ?_
        refine lv_iload_n hx hb dX6_behind_29 rfl (lv_at hl 0 rfl) ?_
        refine lv_imul hx hb dX6_behind_30 ?_
        refine lv_topi (fun v_30 e_30 => ?_)
        obtain rfl : v_30 = 0 := e_30.trans (by decide)
        refine lv_iconst (v := 1) hx hb dX6_behind_31 (by decide) ?_
        refine lv_iadd hx hb dX6_behind_32 ?_
        refine lv_topi (fun v_32 e_32 => ?_)
        obtain rfl : v_32 = 1 := e_32.trans (by decide)
        refine lv_goto (tgt := 37) hx hb dX6_behind_33 (by decide) ?_
        exact MI.ret hx hb hr hlocks hK hP hD hS dX6_behind_37 (by refine ⟨rfl, ?_⟩; simp (decide := true) only [ahd, if_true, if_false, reduceIte, c_11, c_25])
    · skip
      refine lv_bipush (v := (-2)) hx hb dX6_behind_14 (by decide) ?_
      refine lv_goto (tgt := 37) hx hb dX6_behind_16 (by decide) ?_
      exact MI.ret hx hb hr hlocks hK hP hD hS dX6_behind_37 (by refine ⟨rfl, ?_⟩; simp (decide := true) only [ahd, if_true, if_false, reduceIte, c_11])
  · skip
    refine lv_iload_n hx hb dX6_behind_0 rfl (lv_at hl 1 rfl) ?_
    refine lv_iconst (v := 5) hx hb dX6_behind_1 (by decide) ?_
    refine lv_icmp_le (tgt := 38) hx hb dX6_behind_2 (by decide) (fun c9 => absurd c9 (by decide)) (fun _ => ?_)
    refine lv_iload_n hx hb dX6_behind_5 rfl (lv_at hl 1 rfl) ?_
    refine lv_bipush (v := 6) hx hb dX6_behind_6 (by decide) ?_
    refine lv_isub hx hb dX6_behind_8 ?_
    refine lv_topi (fun v_8 e_8 => ?_)
    obtain rfl : v_8 = 1 := e_8.trans (by decide)
    refine lv_istore_n (lv' := [(3, .int 1), (0, .ref (a 0)), (1, .int 7), (2, .int rt)]) hx hb dX6_behind_9 rfl hl (by decide) rfl (fun ls hl => ?_)
    refine lv_iload_n hx hb dX6_behind_10 rfl (lv_at hl 3 rfl) ?_
    refine lv_if_eq (tgt := 19) hx hb dX6_behind_11 (by decide) (fun c_11 => ?_) (fun c_11 => ?_)
    · skip
      refine lv_aload_n hx hb dX6_behind_19 rfl (lv_at hl 1 rfl) ?_
      refine va_get (D := D) (ci := 6) (v := .ref (a 5)) (C := RX6) (T := TX6) (N := 26) hx hb hts in_X6_behind_X6 hown hK hP 0 rfl rfl 7 (by decide) (hts (.fieldLink RX6 23 "WarpyardModel" "areTurned" "[Z") (by decide +kernel)) (fun _ h9 => h9) rfl dX6_behind_20 ?_
      refine lv_iload_n hx hb dX6_behind_23 rfl (lv_at hl 0 rfl) ?_
      refine na_zald hx hb hK hP 5 1 (f := (σ 2)) rfl rfl 1 (by decide) (by decide) rfl dX6_behind_24 ?_
      refine lv_if_eq (tgt := 36) hx hb dX6_behind_25 (by decide) (fun c_25 => ?_) (fun c_25 => ?_)
      · skip
        refine lv_iconst (v := (-1)) hx hb dX6_behind_36 (by decide) ?_
        exact MI.ret hx hb hr hlocks hK hP hD hS dX6_behind_37 (by refine ⟨rfl, ?_⟩; simp (decide := true) only [ahd, if_true, if_false, reduceIte, c_11, c_25])
      · skip
        refine lv_iconst (v := 2) hx hb dX6_behind_28 (by decide) ?_
        refine lv_iload_n hx hb dX6_behind_29 rfl (lv_at hl 0 rfl) ?_
        refine lv_imul hx hb dX6_behind_30 ?_
        refine lv_topi (fun v_30 e_30 => ?_)
        obtain rfl : v_30 = 2 := e_30.trans (by decide)
        refine lv_iconst (v := 1) hx hb dX6_behind_31 (by decide) ?_
        refine lv_iadd hx hb dX6_behind_32 ?_
        refine lv_topi (fun v_32 e_32 => ?_)
        obtain rfl : v_32 = 3 := e_32.trans (by decide)
        refine lv_goto (tgt := 37) hx hb dX6_behind_33 (by decide) ?_
        exact MI.ret hx hb hr hlocks hK hP hD hS dX6_behind_37 (by refine ⟨rfl, ?_⟩; simp (decide := true) only [ahd, if_true, if_false, reduceIte, c_11, c_25])
    · skip
      refine lv_bipush (v := (-2)) hx hb dX6_behind_14 (by decide) ?_
      refine lv_goto (tgt := 37) hx hb dX6_behind_16 (by decide) ?_
      exact MI.ret hx hb hr hlocks hK hP hD hS dX6_behind_37 (by refine ⟨rfl, ?_⟩; simp (decide := true) only [ahd, if_true, if_false, reduceIte, c_11])
set_option maxRecDepth 20000 in
theorem in_X6_tries_X6 : ∀ w ∈ wsX60, w ∈ wsX6_tries := by decide +kernel
set_option maxHeartbeats 4000000 in
set_option maxRecDepth 100000 in
/-- the reference: tries -/
theorem c_X6_tries (l : Launch) (D : va_G) (cI cZ : ClassId) (a : Nat → Nat) (sz : Nat) (σ : St) (n : Nat) (hn : σ 3 0 = nI n) (hn4 : n ≤ 4) (hR : ∀ i, i < 4 → σ 5 i = 0 ∨ σ 5 i = 1) : MV l yX6_tries wsX6_tries ({ frames := 0, cells := 0, slots := 0, locals := 0 }) D (ty2 cI cZ) (wM cI cZ a) [.ref (a 0)] σ sz (fun u => u = (va_up (va_up (va_up σ 9 (cpn (σ 4) (σ 9) n)) 10 (cpn (σ 5) (σ 10) n)) 12 (cpn (σ 7) (σ 12) n))) := by
  refine MV.of (cc := cX6_tries) (maxL := 2) (by decide) rfl (Nat.le_of_ble_eq_true rfl) ?_
  intro p e s m args below meth c A H locs ls hx hb hr hml hown hts hlocks hA hS hP hK hD hl
  have hl : lv_has ls 2 [(0, .ref (a 0))] := hl
  refine lv_iconst (v := 0) hx hb dX6_tries_0 (by decide) ?_
  refine lv_istore_n (lv' := [(1, .int 0), (0, .ref (a 0))]) hx hb dX6_tries_1 rfl hl (by decide) rfl (fun ls hl => ?_)
  have loop_2 : ∀ (f : Nat) (k : Nat) (T9 : Nat → Int32) (T10 : Nat → Int32) (T12 : Nat → Int32) (H : Heap) (locs : List Loc) (ls : Array Slot), n < k + f → k ≤ n → T9 = cpn (σ 4) (σ 9) k → T10 = cpn (σ 5) (σ 10) k → T12 = cpn (σ 7) (σ 12) k → va_P D vwCl (wM cI cZ a (va_up (va_up (va_up σ 9 T9) 10 T10) 12 T12)) H → va_D A (wM cI cZ a (va_up (va_up (va_up σ 9 T9) 10 T10) 12 T12)) → va_S A s.heap H locs → lv_has ls 2 [(0, .ref (a 0)), (1, .int (nI k))] → W p l e { frames := 0, cells := 0, slots := 0, locals := 0 } s m args below meth c H locs 0 0 (MQ below (va_Qv (fun u => u = (va_up (va_up (va_up σ 9 (cpn (σ 4) (σ 9) n)) 10 (cpn (σ 5) (σ 10) n)) 12 (cpn (σ 7) (σ 12) n))) (PO D (ty2 cI cZ) (wM cI cZ a) A) A) args s 0 0 A) (F0 m 2 ls []) := by
    intro f
    induction f with
    | zero => intro k T9 T10 T12 H locs ls hf hk h9 h10 h12; exact absurd hf (by omega)
    | succ f ih =>
      intro k T9 T10 T12 H locs ls hf hk h9 h10 h12 hP hD hS hl
      refine lv_iload_n hx hb dX6_tries_2 rfl (lv_at hl 1 rfl) ?_
      refine lv_aload_n hx hb dX6_tries_3 rfl (lv_at hl 0 rfl) ?_
      refine va_get (D := D) (ci := 6) (v := .int (σ 3 0)) (C := RX6) (T := TX6) (N := 26) hx hb hts in_X6_tries_X6 hown hK hP 0 rfl rfl 2 (by decide) (hts (.fieldLink RX6 75 "WarpyardModel" "trains" "I") (by decide +kernel)) (fun _ h9 => h9) rfl dX6_tries_4 ?_
      refine lv_topi (fun v_7 e_7 => ?_)
      obtain rfl : v_7 = nI n := by rw [e_7]; exact hn
      refine lv_icmp_ge (tgt := 52) hx hb dX6_tries_7 (by decide) (fun c_7 => ?_) (fun c_7 => ?_)
      · skip
        rw [nI_leI (by omega) (by omega)] at c_7
        exact MV.ret hx hb hr hlocks hK hP hD hS dX6_tries_52 (by have e : n = k := (by omega); subst e; rw [h9, h10, h12])
      · skip
        rw [nI_leI (by omega) (by omega)] at c_7
        refine lv_aload_n hx hb dX6_tries_10 rfl (lv_at hl 0 rfl) ?_
        refine va_get (D := D) (ci := 6) (v := .ref (a 6)) (C := RX6) (T := TX6) (N := 26) hx hb hts in_X6_tries_X6 hown hK hP 0 rfl rfl 8 (by decide) (hts (.fieldLink RX6 26 "WarpyardModel" "triedBlocks" "[I") (by decide +kernel)) (fun _ h9 => h9) rfl dX6_tries_11 ?_
        refine lv_iload_n hx hb dX6_tries_14 rfl (lv_at hl 1 rfl) ?_
        refine lv_aload_n hx hb dX6_tries_15 rfl (lv_at hl 0 rfl) ?_
        refine va_get (D := D) (ci := 6) (v := .ref (a 1)) (C := RX6) (T := TX6) (N := 26) hx hb hts in_X6_tries_X6 hown hK hP 0 rfl rfl 3 (by decide) (hts (.fieldLink RX6 7 "WarpyardModel" "blocks" "[I") (by decide +kernel)) (fun _ h9 => h9) rfl dX6_tries_16 ?_
        refine lv_iload_n hx hb dX6_tries_19 rfl (lv_at hl 1 rfl) ?_
        refine na_iald hx hb hK hP 1 0 (f := (σ 4)) rfl rfl k (by omega) (by decide) rfl dX6_tries_20 ?_
        refine na_iast hx hb hK hP hD hS 6 0 (f := T9) (x := σ 4 k) rfl rfl k (by omega) (by decide) rfl dX6_tries_21 (fun H locs hP hD hS => ?_)
        have hP : va_P D vwCl (wM cI cZ a (va_up (va_up (va_up σ 9 (upd T9 k (σ 4 k))) 10 T10) 12 T12)) H := hP
        have hD : va_D A (wM cI cZ a (va_up (va_up (va_up σ 9 (upd T9 k (σ 4 k))) 10 T10) 12 T12)) := hD
        refine lv_aload_n hx hb dX6_tries_22 rfl (lv_at hl 0 rfl) ?_
        refine va_get (D := D) (ci := 6) (v := .ref (a 7)) (C := RX6) (T := TX6) (N := 26) hx hb hts in_X6_tries_X6 hown hK hP 0 rfl rfl 9 (by decide) (hts (.fieldLink RX6 29 "WarpyardModel" "triedRight" "[Z") (by decide +kernel)) (fun _ h9 => h9) rfl dX6_tries_23 ?_
        refine lv_iload_n hx hb dX6_tries_26 rfl (lv_at hl 1 rfl) ?_
        refine lv_aload_n hx hb dX6_tries_27 rfl (lv_at hl 0 rfl) ?_
        refine va_get (D := D) (ci := 6) (v := .ref (a 2)) (C := RX6) (T := TX6) (N := 26) hx hb hts in_X6_tries_X6 hown hK hP 0 rfl rfl 4 (by decide) (hts (.fieldLink RX6 13 "WarpyardModel" "areRight" "[Z") (by decide +kernel)) (fun _ h9 => h9) rfl dX6_tries_28 ?_
        refine lv_iload_n hx hb dX6_tries_31 rfl (lv_at hl 1 rfl) ?_
        refine na_zald hx hb hK hP 2 1 (f := (σ 5)) rfl rfl k (by omega) (by decide) rfl dX6_tries_32 ?_
        refine na_zast hx hb hK hP hD hS 7 1 (f := T10) (x := σ 5 k) rfl rfl k (by omega) (by decide) rfl (hR k (by omega)) dX6_tries_33 (fun H locs hP hD hS => ?_)
        have hP : va_P D vwCl (wM cI cZ a (va_up (va_up (va_up σ 9 (upd T9 k (σ 4 k))) 10 (upd T10 k (σ 5 k))) 12 T12)) H := hP
        have hD : va_D A (wM cI cZ a (va_up (va_up (va_up σ 9 (upd T9 k (σ 4 k))) 10 (upd T10 k (σ 5 k))) 12 T12)) := hD
        refine lv_aload_n hx hb dX6_tries_34 rfl (lv_at hl 0 rfl) ?_
        refine va_get (D := D) (ci := 6) (v := .ref (a 8)) (C := RX6) (T := TX6) (N := 26) hx hb hts in_X6_tries_X6 hown hK hP 0 rfl rfl 10 (by decide) (hts (.fieldLink RX6 32 "WarpyardModel" "triedDelays" "[I") (by decide +kernel)) (fun _ h9 => h9) rfl dX6_tries_35 ?_
        refine lv_iload_n hx hb dX6_tries_38 rfl (lv_at hl 1 rfl) ?_
        refine lv_aload_n hx hb dX6_tries_39 rfl (lv_at hl 0 rfl) ?_
        refine va_get (D := D) (ci := 6) (v := .ref (a 4)) (C := RX6) (T := TX6) (N := 26) hx hb hts in_X6_tries_X6 hown hK hP 0 rfl rfl 6 (by decide) (hts (.fieldLink RX6 20 "WarpyardModel" "delays" "[I") (by decide +kernel)) (fun _ h9 => h9) rfl dX6_tries_40 ?_
        refine lv_iload_n hx hb dX6_tries_43 rfl (lv_at hl 1 rfl) ?_
        refine na_iald hx hb hK hP 4 0 (f := (σ 7)) rfl rfl k (by omega) (by decide) rfl dX6_tries_44 ?_
        refine na_iast hx hb hK hP hD hS 8 0 (f := T12) (x := σ 7 k) rfl rfl k (by omega) (by decide) rfl dX6_tries_45 (fun H locs hP hD hS => ?_)
        have hP : va_P D vwCl (wM cI cZ a (va_up (va_up (va_up σ 9 (upd T9 k (σ 4 k))) 10 (upd T10 k (σ 5 k))) 12 (upd T12 k (σ 7 k)))) H := hP
        have hD : va_D A (wM cI cZ a (va_up (va_up (va_up σ 9 (upd T9 k (σ 4 k))) 10 (upd T10 k (σ 5 k))) 12 (upd T12 k (σ 7 k)))) := hD
        refine lv_iinc (v := nI (k + 1)) (lv' := [(1, .int (nI (k + 1))), (0, .ref (a 0))]) hx hb dX6_tries_46 hl (k := 1) rfl (by exact nI_1 k) (by decide) rfl (fun ls hl => ?_)
        refine lv_goto (tgt := 2) hx hb dX6_tries_49 (by decide) ?_
        exact ih (k + 1) (upd T9 k (σ 4 k)) (upd T10 k (σ 5 k)) (upd T12 k (σ 7 k)) _ _ ls (by omega) (by omega) (by rw [h9, cpn_s]) (by rw [h10, cpn_s]) (by rw [h12, cpn_s]) hP hD hS (lv_sub hl [1, 0] rfl)
  exact loop_2 (n + 1) 0 (σ 9) (σ 10) (σ 12) _ _ ls (by omega) (by omega) (by exact (cpn_0 _ _).symm) (by exact (cpn_0 _ _).symm) (by exact (cpn_0 _ _).symm) hP hD hS (lv_sub hl [1, 0] rfl)
set_option maxRecDepth 20000 in
theorem in_X6_moves_X6 : ∀ w ∈ wsX60, w ∈ wsX6_moves := by decide +kernel
set_option maxHeartbeats 4000000 in
set_option maxRecDepth 100000 in
/-- the reference: moves -/
theorem c_X6_moves (l : Launch) (D : va_G) (cI cZ : ClassId) (a : Nat → Nat) (sz : Nat) (σ : St) (n nb : Nat) (mi : Int32) (x : T3) (hn : σ 3 0 = nI n) (hn4 : n ≤ 4) (hnb : σ 13 0 = nI nb) (hnb30 : nb ≤ 30) (hB : ∀ i, i < n → blk (x.1 i)) : MI l yX6_moves wsX6_moves ({ frames := 1, cells := 0, slots := 0, locals := 25 }) D (ty2 cI cZ) (wM cI cZ a) [.ref (a 0), .int mi] (va_up (va_up (va_up σ 9 x.1) 10 x.2.1) 12 x.2.2) sz (fun r u => u = (va_up (va_up (va_up σ 9 ((mvs (σ 2) (σ 14) (σ 15) (σ 16) (σ 17) (σ 6) n nb mi x n).1.1)) 10 ((mvs (σ 2) (σ 14) (σ 15) (σ 16) (σ 17) (σ 6) n nb mi x n).1.2.1)) 12 ((mvs (σ 2) (σ 14) (σ 15) (σ 16) (σ 17) (σ 6) n nb mi x n).1.2.2)) ∧ r = (mvs (σ 2) (σ 14) (σ 15) (σ 16) (σ 17) (σ 6) n nb mi x n).2) := by
  refine MI.of (cc := cX6_moves) (maxL := 5) (by decide) rfl (Nat.le_of_ble_eq_true rfl) ?_
  intro p e s m args below meth c A H locs ls hx hb hr hml hown hts hlocks hA hS hP hK hD hl
  have hl : lv_has ls 5 [(0, .ref (a 0)), (1, .int mi)] := hl
  refine lv_iconst (v := 0) hx hb dX6_moves_0 (by decide) ?_
  refine lv_istore_n (lv' := [(2, .int 0), (0, .ref (a 0)), (1, .int mi)]) hx hb dX6_moves_1 rfl hl (by decide) rfl (fun ls hl => ?_)
  refine lv_iconst (v := 0) hx hb dX6_moves_2 (by decide) ?_
  refine lv_istore_n (lv' := [(3, .int 0), (2, .int 0), (0, .ref (a 0)), (1, .int mi)]) hx hb dX6_moves_3 rfl hl (by decide) rfl (fun ls hl => ?_)
  have loop_4 : ∀ (f : Nat) (k : Nat) (mv : Int32) (H : Heap) (locs : List Loc) (ls : Array Slot), n < k + f → k ≤ n → mv = (mvs (σ 2) (σ 14) (σ 15) (σ 16) (σ 17) (σ 6) n nb mi x k).2 → va_P D vwCl (wM cI cZ a (va_up (va_up (va_up σ 9 ((mvs (σ 2) (σ 14) (σ 15) (σ 16) (σ 17) (σ 6) n nb mi x k).1.1)) 10 ((mvs (σ 2) (σ 14) (σ 15) (σ 16) (σ 17) (σ 6) n nb mi x k).1.2.1)) 12 ((mvs (σ 2) (σ 14) (σ 15) (σ 16) (σ 17) (σ 6) n nb mi x k).1.2.2))) H → va_D A (wM cI cZ a (va_up (va_up (va_up σ 9 ((mvs (σ 2) (σ 14) (σ 15) (σ 16) (σ 17) (σ 6) n nb mi x k).1.1)) 10 ((mvs (σ 2) (σ 14) (σ 15) (σ 16) (σ 17) (σ 6) n nb mi x k).1.2.1)) 12 ((mvs (σ 2) (σ 14) (σ 15) (σ 16) (σ 17) (σ 6) n nb mi x k).1.2.2))) → va_S A s.heap H locs → lv_has ls 5 [(0, .ref (a 0)), (1, .int mi), (2, .int mv), (3, .int (nI k))] → W p l e { frames := 1, cells := 0, slots := 0, locals := 25 } s m args below meth c H locs 0 0 (MQ below (va_Qi (fun r u => u = (va_up (va_up (va_up σ 9 ((mvs (σ 2) (σ 14) (σ 15) (σ 16) (σ 17) (σ 6) n nb mi x n).1.1)) 10 ((mvs (σ 2) (σ 14) (σ 15) (σ 16) (σ 17) (σ 6) n nb mi x n).1.2.1)) 12 ((mvs (σ 2) (σ 14) (σ 15) (σ 16) (σ 17) (σ 6) n nb mi x n).1.2.2)) ∧ r = (mvs (σ 2) (σ 14) (σ 15) (σ 16) (σ 17) (σ 6) n nb mi x n).2) (PO D (ty2 cI cZ) (wM cI cZ a) A) A) args s 0 0 A) (F0 m 4 ls []) := by
    intro f
    induction f with
    | zero => intro k mv H locs ls hf hk hmv; exact absurd hf (by omega)
    | succ f ih =>
      intro k mv H locs ls hf hk hmv hP hD hS hl
      refine lv_iload_n hx hb dX6_moves_4 rfl (lv_at hl 3 rfl) ?_
      refine lv_aload_n hx hb dX6_moves_5 rfl (lv_at hl 0 rfl) ?_
      refine va_get (D := D) (ci := 6) (v := .int (σ 3 0)) (C := RX6) (T := TX6) (N := 26) hx hb hts in_X6_moves_X6 hown hK hP 0 rfl rfl 2 (by decide) (hts (.fieldLink RX6 75 "WarpyardModel" "trains" "I") (by decide +kernel)) (fun _ h9 => h9) rfl dX6_moves_6 ?_
      refine lv_topi (fun v_9 e_9 => ?_)
      obtain rfl : v_9 = nI n := by rw [e_9]; exact hn
      refine lv_icmp_ge (tgt := 144) hx hb dX6_moves_9 (by decide) (fun c_9 => ?_) (fun c_9 => ?_)
      · skip
        rw [nI_leI (by omega) (by omega)] at c_9
        refine lv_iload_n hx hb dX6_moves_144 rfl (lv_at hl 2 rfl) ?_
        exact MI.ret hx hb hr hlocks hK hP hD hS dX6_moves_145 (by have e9 : n = k := (by omega); subst e9; exact ⟨rfl, hmv⟩)
      · skip
        rw [nI_leI (by omega) (by omega)] at c_9
        refine lv_aload_n hx hb dX6_moves_12 rfl (lv_at hl 0 rfl) ?_
        refine lv_aload_n hx hb dX6_moves_13 rfl (lv_at hl 0 rfl) ?_
        refine va_get (D := D) (ci := 6) (v := .ref (a 6)) (C := RX6) (T := TX6) (N := 26) hx hb hts in_X6_moves_X6 hown hK hP 0 rfl rfl 8 (by decide) (hts (.fieldLink RX6 26 "WarpyardModel" "triedBlocks" "[I") (by decide +kernel)) (fun _ h9 => h9) rfl dX6_moves_14 ?_
        refine lv_iload_n hx hb dX6_moves_17 rfl (lv_at hl 3 rfl) ?_
        refine na_iald hx hb hK hP 6 0 (f := ((mvs (σ 2) (σ 14) (σ 15) (σ 16) (σ 17) (σ 6) n nb mi x k).1.1)) rfl rfl k (by omega) (by decide) rfl dX6_moves_18 ?_
        refine lv_aload_n hx hb dX6_moves_19 rfl (lv_at hl 0 rfl) ?_
        refine va_get (D := D) (ci := 6) (v := .ref (a 7)) (C := RX6) (T := TX6) (N := 26) hx hb hts in_X6_moves_X6 hown hK hP 0 rfl rfl 9 (by decide) (hts (.fieldLink RX6 29 "WarpyardModel" "triedRight" "[Z") (by decide +kernel)) (fun _ h9 => h9) rfl dX6_moves_20 ?_
        refine lv_iload_n hx hb dX6_moves_23 rfl (lv_at hl 3 rfl) ?_
        refine na_zald hx hb hK hP 7 1 (f := ((mvs (σ 2) (σ 14) (σ 15) (σ 16) (σ 17) (σ 6) n nb mi x k).1.2.1)) rfl rfl k (by omega) (by decide) rfl dX6_moves_24 ?_
        refine MI.callV (As := [.int (((mvs (σ 2) (σ 14) (σ 15) (σ 16) (σ 17) (σ 6) n nb mi x k).1.1) k), .int (((mvs (σ 2) (σ 14) (σ 15) (σ 16) (σ 17) (σ 6) n nb mi x k).1.2.1) k)]) (rest := []) ⟨hx, hb, hml, hown, hts⟩ (c_X6_behind l D cI cZ a H.size (va_up (va_up (va_up σ 9 ((mvs (σ 2) (σ 14) (σ 15) (σ 16) (σ 17) (σ 6) n nb mi x k).1.1)) 10 ((mvs (σ 2) (σ 14) (σ 15) (σ 16) (σ 17) (σ 6) n nb mi x k).1.2.1)) 12 ((mvs (σ 2) (σ 14) (σ 15) (σ 16) (σ 17) (σ 6) n nb mi x k).1.2.2)) (((mvs (σ 2) (σ 14) (σ 15) (σ 16) (σ 17) (σ 6) n nb mi x k).1.1) k) (((mvs (σ 2) (σ 14) (σ 15) (σ 16) (σ 17) (σ 6) n nb mi x k).1.2.1) k) (mvs_blk hB k k (by omega) (by omega))) (cwV 2 hts gX6_moves_X6_behind rfl rfl rfl (by decide +kernel) ⟨Nat.le_of_ble_eq_true rfl, Nat.le_of_ble_eq_true rfl⟩) hP hK hD hS hA (va_recv hK hP (ci := 6) (q0 := 0) rfl rfl) rfl hl.1 (Nat.le_of_ble_eq_true rfl) (Nat.zero_le _) (Nat.zero_le _) dX6_moves_25 rfl (fun r_25 u_25 H locs h_25 hP hD hS => ?_)
        obtain ⟨e_25, h_25⟩ := h_25
        have e_25 := Eq.symm e_25
        subst e_25
        have h_25 : r_25 = ahd (σ 2) (((mvs (σ 2) (σ 14) (σ 15) (σ 16) (σ 17) (σ 6) n nb mi x k).1.1) k) (((mvs (σ 2) (σ 14) (σ 15) (σ 16) (σ 17) (σ 6) n nb mi x k).1.2.1) k) := h_25
        refine lv_istore (lv' := [(4, .int r_25), (0, .ref (a 0)), (1, .int mi), (2, .int mv), (3, .int (nI k))]) hx hb dX6_moves_28 hl (by decide) rfl (fun ls hl => ?_)
        refine lv_aload_n hx hb dX6_moves_30 rfl (lv_at hl 1 rfl) ?_
        refine va_get (D := D) (ci := 6) (v := .ref (a 8)) (C := RX6) (T := TX6) (N := 26) hx hb hts in_X6_moves_X6 hown hK hP 0 rfl rfl 10 (by decide) (hts (.fieldLink RX6 32 "WarpyardModel" "triedDelays" "[I") (by decide +kernel)) (fun _ h9 => h9) rfl dX6_moves_31 ?_
        refine lv_iload_n hx hb dX6_moves_34 rfl (lv_at hl 4 rfl) ?_
        refine na_iald hx hb hK hP 8 0 (f := ((mvs (σ 2) (σ 14) (σ 15) (σ 16) (σ 17) (σ 6) n nb mi x k).1.2.2)) rfl rfl k (by omega) (by decide) rfl dX6_moves_35 ?_
        refine lv_if_le (tgt := 52) hx hb dX6_moves_36 (by decide) (fun c_36 => ?_) (fun c_36 => ?_)
        · skip
          refine lv_aload_n hx hb dX6_moves_52 rfl (lv_at hl 1 rfl) ?_
          refine va_get (D := D) (ci := 6) (v := .ref (a 3)) (C := RX6) (T := TX6) (N := 26) hx hb hts in_X6_moves_X6 hown hK hP 0 rfl rfl 5 (by decide) (hts (.fieldLink RX6 17 "WarpyardModel" "areHeld" "[Z") (by decide +kernel)) (fun _ h9 => h9) rfl dX6_moves_53 ?_
          refine lv_iload_n hx hb dX6_moves_56 rfl (lv_at hl 4 rfl) ?_
          refine na_zald hx hb hK hP 3 1 (f := (σ 6)) rfl rfl k (by omega) (by decide) rfl dX6_moves_57 ?_
          refine lv_if_ne (tgt := 91) hx hb dX6_moves_58 (by decide) (fun c_58 => ?_) (fun c_58 => ?_)
          · skip
            refine lv_aload_n hx hb dX6_moves_91 rfl (lv_at hl 1 rfl) ?_
            refine va_get (D := D) (ci := 6) (v := .ref (a 3)) (C := RX6) (T := TX6) (N := 26) hx hb hts in_X6_moves_X6 hown hK hP 0 rfl rfl 5 (by decide) (hts (.fieldLink RX6 17 "WarpyardModel" "areHeld" "[Z") (by decide +kernel)) (fun _ h9 => h9) rfl dX6_moves_92 ?_
            refine lv_iload_n hx hb dX6_moves_95 rfl (lv_at hl 4 rfl) ?_
            refine na_zald hx hb hK hP 3 1 (f := (σ 6)) rfl rfl k (by omega) (by decide) rfl dX6_moves_96 ?_
            refine lv_if_ne (tgt := 138) hx hb dX6_moves_97 (by decide) (fun c_97 => ?_) (fun c_97 => ?_)
            · skip
              refine lv_iinc (v := nI (k + 1)) (lv' := [(3, .int (nI (k + 1))), (4, .int r_25), (0, .ref (a 0)), (1, .int mi), (2, .int mv)]) hx hb dX6_moves_138 hl (k := 4) rfl (by exact nI_1 k) (by decide) rfl (fun ls hl => ?_)
              refine lv_goto (tgt := 4) hx hb dX6_moves_141 (by decide) ?_
              have e9 : (stp (σ 2) (σ 14) (σ 15) (σ 16) (σ 17) (σ 6) n nb mi k (mvs (σ 2) (σ 14) (σ 15) (σ 16) (σ 17) (σ 6) n nb mi x k).1) = ((mvs (σ 2) (σ 14) (σ 15) (σ 16) (σ 17) (σ 6) n nb mi x k).1, 0) := stp_h c_36 c_97
              have e8 : (mvs (σ 2) (σ 14) (σ 15) (σ 16) (σ 17) (σ 6) n nb mi x (k + 1)).1 = (mvs (σ 2) (σ 14) (σ 15) (σ 16) (σ 17) (σ 6) n nb mi x k).1 := (by have e7 := congrArg Prod.fst e9; exact e7)
              exact ih (k + 1) mv _ _ ls (by omega) (by omega) (by rw [mvs_2, ← hmv, e9]; exact (Int32.add_zero _).symm) (by rw [e8]; exact hP) (by rw [e8]; exact hD) hS (lv_sub hl [2, 3, 4, 0] rfl)
            · skip
              exact absurd c_97 c_58
          · skip
            refine lv_iload hx hb dX6_moves_61 (lv_at hl 0 rfl) ?_
            refine lv_bipush (v := (-2)) hx hb dX6_moves_63 (by decide) ?_
            refine lv_icmp_ne (tgt := 91) hx hb dX6_moves_65 (by decide) (fun c_65 => ?_) (fun c_65 => ?_)
            · skip
              refine lv_aload_n hx hb dX6_moves_91 rfl (lv_at hl 1 rfl) ?_
              refine va_get (D := D) (ci := 6) (v := .ref (a 3)) (C := RX6) (T := TX6) (N := 26) hx hb hts in_X6_moves_X6 hown hK hP 0 rfl rfl 5 (by decide) (hts (.fieldLink RX6 17 "WarpyardModel" "areHeld" "[Z") (by decide +kernel)) (fun _ h9 => h9) rfl dX6_moves_92 ?_
              refine lv_iload_n hx hb dX6_moves_95 rfl (lv_at hl 4 rfl) ?_
              refine na_zald hx hb hK hP 3 1 (f := (σ 6)) rfl rfl k (by omega) (by decide) rfl dX6_moves_96 ?_
              refine lv_if_ne (tgt := 138) hx hb dX6_moves_97 (by decide) (fun c_97 => ?_) (fun c_97 => ?_)
              · skip
                exact absurd c_58 c_97
              · skip
                refine lv_iload hx hb dX6_moves_100 (lv_at hl 0 rfl) ?_
                refine lv_iconst (v := (-1)) hx hb dX6_moves_102 (by decide) ?_
                refine lv_icmp_eq (tgt := 138) hx hb dX6_moves_103 (by decide) (fun c_103 => ?_) (fun c_103 => ?_)
                · skip
                  refine lv_iinc (v := nI (k + 1)) (lv' := [(3, .int (nI (k + 1))), (4, .int r_25), (0, .ref (a 0)), (1, .int mi), (2, .int mv)]) hx hb dX6_moves_138 hl (k := 4) rfl (by exact nI_1 k) (by decide) rfl (fun ls hl => ?_)
                  refine lv_goto (tgt := 4) hx hb dX6_moves_141 (by decide) ?_
                  have e9 : (stp (σ 2) (σ 14) (σ 15) (σ 16) (σ 17) (σ 6) n nb mi k (mvs (σ 2) (σ 14) (σ 15) (σ 16) (σ 17) (σ 6) n nb mi x k).1) = ((mvs (σ 2) (σ 14) (σ 15) (σ 16) (σ 17) (σ 6) n nb mi x k).1, 0) := stp_b c_36 c_97 (fun e => c_65 (h_25.trans e)) (Or.inl (h_25.symm.trans c_103))
                  have e8 : (mvs (σ 2) (σ 14) (σ 15) (σ 16) (σ 17) (σ 6) n nb mi x (k + 1)).1 = (mvs (σ 2) (σ 14) (σ 15) (σ 16) (σ 17) (σ 6) n nb mi x k).1 := (by have e7 := congrArg Prod.fst e9; exact e7)
                  exact ih (k + 1) mv _ _ ls (by omega) (by omega) (by rw [mvs_2, ← hmv, e9]; exact (Int32.add_zero _).symm) (by rw [e8]; exact hP) (by rw [e8]; exact hD) hS (lv_sub hl [2, 3, 4, 0] rfl)
                · skip
                  refine lv_aload_n hx hb dX6_moves_106 rfl (lv_at hl 1 rfl) ?_
                  refine lv_iload hx hb dX6_moves_107 (lv_at hl 0 rfl) ?_
                  refine MI.callV (As := [.int r_25]) (rest := []) ⟨hx, hb, hml, hown, hts⟩ (c_X6_isTriedOn l D cI cZ a H.size (va_up (va_up (va_up σ 9 ((mvs (σ 2) (σ 14) (σ 15) (σ 16) (σ 17) (σ 6) n nb mi x k).1.1)) 10 ((mvs (σ 2) (σ 14) (σ 15) (σ 16) (σ 17) (σ 6) n nb mi x k).1.2.1)) 12 ((mvs (σ 2) (σ 14) (σ 15) (σ 16) (σ 17) (σ 6) n nb mi x k).1.2.2)) r_25 n hn hn4) (cwV 1 hts gX6_moves_X6_isTriedOn rfl rfl rfl (by decide +kernel) ⟨Nat.le_of_ble_eq_true rfl, Nat.le_of_ble_eq_true rfl⟩) hP hK hD hS hA (va_recv hK hP (ci := 6) (q0 := 0) rfl rfl) rfl hl.1 (Nat.le_of_ble_eq_true rfl) (Nat.zero_le _) (Nat.zero_le _) dX6_moves_109 rfl (fun r_109 u_109 H locs h_109 hP hD hS => ?_)
                  rcases h_109 with ⟨e_109, ⟨rfl, h_109⟩ | ⟨rfl, h_109⟩⟩
                  · skip
                    have e_109 := Eq.symm e_109
                    subst e_109
                    have h_109 : ¬ so ((mvs (σ 2) (σ 14) (σ 15) (σ 16) (σ 17) (σ 6) n nb mi x k).1.1) r_25 n = -1 := h_109
                    refine lv_if_ne (tgt := 138) hx hb dX6_moves_112 (by decide) (fun _ => ?_) (fun c9 => absurd c9 (by decide))
                    refine lv_iinc (v := nI (k + 1)) (lv' := [(3, .int (nI (k + 1))), (4, .int r_25), (0, .ref (a 0)), (1, .int mi), (2, .int mv)]) hx hb dX6_moves_138 hl (k := 4) rfl (by exact nI_1 k) (by decide) rfl (fun ls hl => ?_)
                    refine lv_goto (tgt := 4) hx hb dX6_moves_141 (by decide) ?_
                    have e9 : (stp (σ 2) (σ 14) (σ 15) (σ 16) (σ 17) (σ 6) n nb mi k (mvs (σ 2) (σ 14) (σ 15) (σ 16) (σ 17) (σ 6) n nb mi x k).1) = ((mvs (σ 2) (σ 14) (σ 15) (σ 16) (σ 17) (σ 6) n nb mi x k).1, 0) := stp_b c_36 c_97 (fun e => c_65 (h_25.trans e)) (Or.inr (Or.inl (by rw [← h_25]; exact h_109)))
                    have e8 : (mvs (σ 2) (σ 14) (σ 15) (σ 16) (σ 17) (σ 6) n nb mi x (k + 1)).1 = (mvs (σ 2) (σ 14) (σ 15) (σ 16) (σ 17) (σ 6) n nb mi x k).1 := (by have e7 := congrArg Prod.fst e9; exact e7)
                    exact ih (k + 1) mv _ _ ls (by omega) (by omega) (by rw [mvs_2, ← hmv, e9]; exact (Int32.add_zero _).symm) (by rw [e8]; exact hP) (by rw [e8]; exact hD) hS (lv_sub hl [2, 3, 4, 0] rfl)
                  · skip
                    have e_109 := Eq.symm e_109
                    subst e_109
                    have h_109 : ¬ (¬ so ((mvs (σ 2) (σ 14) (σ 15) (σ 16) (σ 17) (σ 6) n nb mi x k).1.1) r_25 n = -1) := h_109
                    refine lv_if_ne (tgt := 138) hx hb dX6_moves_112 (by decide) (fun c9 => absurd (by decide) c9) (fun _ => ?_)
                    refine lv_aload_n hx hb dX6_moves_115 rfl (lv_at hl 1 rfl) ?_
                    refine lv_iload_n hx hb dX6_moves_116 rfl (lv_at hl 4 rfl) ?_
                    refine lv_iload hx hb dX6_moves_117 (lv_at hl 0 rfl) ?_
                    refine lv_iload_n hx hb dX6_moves_119 rfl (lv_at hl 2 rfl) ?_
                    refine lv_iload_n hx hb dX6_moves_120 rfl (lv_at hl 2 rfl) ?_
                    refine MI.callV (As := [.int (nI k), .int r_25, .int mi, .int mi]) (rest := []) ⟨hx, hb, hml, hown, hts⟩ (c_X6_meets l D cI cZ a H.size (va_up (va_up (va_up σ 9 ((mvs (σ 2) (σ 14) (σ 15) (σ 16) (σ 17) (σ 6) n nb mi x k).1.1)) 10 ((mvs (σ 2) (σ 14) (σ 15) (σ 16) (σ 17) (σ 6) n nb mi x k).1.2.1)) 12 ((mvs (σ 2) (σ 14) (σ 15) (σ 16) (σ 17) (σ 6) n nb mi x k).1.2.2)) (nI k) r_25 mi mi nb hnb hnb30) (cwV 4 hts gX6_moves_X6_meets rfl rfl rfl (by decide +kernel) ⟨Nat.le_of_ble_eq_true rfl, Nat.le_of_ble_eq_true rfl⟩) hP hK hD hS hA (va_recv hK hP (ci := 6) (q0 := 0) rfl rfl) rfl hl.1 (Nat.le_of_ble_eq_true rfl) (Nat.zero_le _) (Nat.zero_le _) dX6_moves_121 rfl (fun r_121 u_121 H locs h_121 hP hD hS => ?_)
                    rcases h_121 with ⟨e_121, ⟨rfl, h_121⟩ | ⟨rfl, h_121⟩⟩
                    · skip
                      have e_121 := Eq.symm e_121
                      subst e_121
                      have h_121 : mts (σ 14) (σ 15) (σ 16) (σ 17) nb (nI k) r_25 mi mi := h_121
                      refine lv_if_ne (tgt := 138) hx hb dX6_moves_124 (by decide) (fun _ => ?_) (fun c9 => absurd c9 (by decide))
                      refine lv_iinc (v := nI (k + 1)) (lv' := [(3, .int (nI (k + 1))), (4, .int r_25), (0, .ref (a 0)), (1, .int mi), (2, .int mv)]) hx hb dX6_moves_138 hl (k := 4) rfl (by exact nI_1 k) (by decide) rfl (fun ls hl => ?_)
                      refine lv_goto (tgt := 4) hx hb dX6_moves_141 (by decide) ?_
                      have e9 : (stp (σ 2) (σ 14) (σ 15) (σ 16) (σ 17) (σ 6) n nb mi k (mvs (σ 2) (σ 14) (σ 15) (σ 16) (σ 17) (σ 6) n nb mi x k).1) = ((mvs (σ 2) (σ 14) (σ 15) (σ 16) (σ 17) (σ 6) n nb mi x k).1, 0) := stp_b c_36 c_97 (fun e => c_65 (h_25.trans e)) (Or.inr (Or.inr (by rw [← h_25]; exact h_121)))
                      have e8 : (mvs (σ 2) (σ 14) (σ 15) (σ 16) (σ 17) (σ 6) n nb mi x (k + 1)).1 = (mvs (σ 2) (σ 14) (σ 15) (σ 16) (σ 17) (σ 6) n nb mi x k).1 := (by have e7 := congrArg Prod.fst e9; exact e7)
                      exact ih (k + 1) mv _ _ ls (by omega) (by omega) (by rw [mvs_2, ← hmv, e9]; exact (Int32.add_zero _).symm) (by rw [e8]; exact hP) (by rw [e8]; exact hD) hS (lv_sub hl [2, 3, 4, 0] rfl)
                    · skip
                      have e_121 := Eq.symm e_121
                      subst e_121
                      have h_121 : ¬ (mts (σ 14) (σ 15) (σ 16) (σ 17) nb (nI k) r_25 mi mi) := h_121
                      refine lv_if_ne (tgt := 138) hx hb dX6_moves_124 (by decide) (fun c9 => absurd (by decide) c9) (fun _ => ?_)
                      refine lv_aload_n hx hb dX6_moves_127 rfl (lv_at hl 1 rfl) ?_
                      refine va_get (D := D) (ci := 6) (v := .ref (a 6)) (C := RX6) (T := TX6) (N := 26) hx hb hts in_X6_moves_X6 hown hK hP 0 rfl rfl 8 (by decide) (hts (.fieldLink RX6 26 "WarpyardModel" "triedBlocks" "[I") (by decide +kernel)) (fun _ h9 => h9) rfl dX6_moves_128 ?_
                      refine lv_iload_n hx hb dX6_moves_131 rfl (lv_at hl 4 rfl) ?_
                      refine lv_iload hx hb dX6_moves_132 (lv_at hl 0 rfl) ?_
                      refine na_iast hx hb hK hP hD hS 6 0 (f := ((mvs (σ 2) (σ 14) (σ 15) (σ 16) (σ 17) (σ 6) n nb mi x k).1.1)) (x := r_25) rfl rfl k (by omega) (by decide) rfl dX6_moves_134 (fun H locs hP hD hS => ?_)
                      have hP : va_P D vwCl (wM cI cZ a (va_up (va_up (va_up σ 9 (upd ((mvs (σ 2) (σ 14) (σ 15) (σ 16) (σ 17) (σ 6) n nb mi x k).1.1) k r_25)) 10 ((mvs (σ 2) (σ 14) (σ 15) (σ 16) (σ 17) (σ 6) n nb mi x k).1.2.1)) 12 ((mvs (σ 2) (σ 14) (σ 15) (σ 16) (σ 17) (σ 6) n nb mi x k).1.2.2))) H := hP
                      have hD : va_D A (wM cI cZ a (va_up (va_up (va_up σ 9 (upd ((mvs (σ 2) (σ 14) (σ 15) (σ 16) (σ 17) (σ 6) n nb mi x k).1.1) k r_25)) 10 ((mvs (σ 2) (σ 14) (σ 15) (σ 16) (σ 17) (σ 6) n nb mi x k).1.2.1)) 12 ((mvs (σ 2) (σ 14) (σ 15) (σ 16) (σ 17) (σ 6) n nb mi x k).1.2.2))) := hD
                      refine lv_iinc (v := mv + 1) (lv' := [(2, .int (mv + 1)), (4, .int r_25), (0, .ref (a 0)), (1, .int mi), (3, .int (nI k))]) hx hb dX6_moves_135 hl (k := 3) rfl rfl (by decide) rfl (fun ls hl => ?_)
                      refine lv_iinc (v := nI (k + 1)) (lv' := [(3, .int (nI (k + 1))), (2, .int (mv + 1)), (4, .int r_25), (0, .ref (a 0)), (1, .int mi)]) hx hb dX6_moves_138 hl (k := 4) rfl (by exact nI_1 k) (by decide) rfl (fun ls hl => ?_)
                      refine lv_goto (tgt := 4) hx hb dX6_moves_141 (by decide) ?_
                      have e9 : (stp (σ 2) (σ 14) (σ 15) (σ 16) (σ 17) (σ 6) n nb mi k (mvs (σ 2) (σ 14) (σ 15) (σ 16) (σ 17) (σ 6) n nb mi x k).1) = ((upd (mvs (σ 2) (σ 14) (σ 15) (σ 16) (σ 17) (σ 6) n nb mi x k).1.1 k (ahd (σ 2) ((mvs (σ 2) (σ 14) (σ 15) (σ 16) (σ 17) (σ 6) n nb mi x k).1.1 k) ((mvs (σ 2) (σ 14) (σ 15) (σ 16) (σ 17) (σ 6) n nb mi x k).1.2.1 k)), (mvs (σ 2) (σ 14) (σ 15) (σ 16) (σ 17) (σ 6) n nb mi x k).1.2.1, (mvs (σ 2) (σ 14) (σ 15) (σ 16) (σ 17) (σ 6) n nb mi x k).1.2.2), 1) := stp_m c_36 c_97 (fun e => c_65 (h_25.trans e)) (by rw [← h_25]; rintro (e | e | e) <;> first | exact c_103 e | exact h_109 e | exact h_121 e)
                      have e8 : (mvs (σ 2) (σ 14) (σ 15) (σ 16) (σ 17) (σ 6) n nb mi x (k + 1)).1 = (upd (mvs (σ 2) (σ 14) (σ 15) (σ 16) (σ 17) (σ 6) n nb mi x k).1.1 k (ahd (σ 2) ((mvs (σ 2) (σ 14) (σ 15) (σ 16) (σ 17) (σ 6) n nb mi x k).1.1 k) ((mvs (σ 2) (σ 14) (σ 15) (σ 16) (σ 17) (σ 6) n nb mi x k).1.2.1 k)), (mvs (σ 2) (σ 14) (σ 15) (σ 16) (σ 17) (σ 6) n nb mi x k).1.2.1, (mvs (σ 2) (σ 14) (σ 15) (σ 16) (σ 17) (σ 6) n nb mi x k).1.2.2) := (by have e7 := congrArg Prod.fst e9; exact e7)
                      subst h_25
                      exact ih (k + 1) (mv + 1) _ _ ls (by omega) (by omega) (by rw [mvs_2, ← hmv, e9]) (by rw [e8]; exact hP) (by rw [e8]; exact hD) hS (lv_sub hl [3, 4, 1, 0] rfl)
            · skip
              refine lv_aload_n hx hb dX6_moves_68 rfl (lv_at hl 1 rfl) ?_
              refine va_get (D := D) (ci := 6) (v := .ref (a 7)) (C := RX6) (T := TX6) (N := 26) hx hb hts in_X6_moves_X6 hown hK hP 0 rfl rfl 9 (by decide) (hts (.fieldLink RX6 29 "WarpyardModel" "triedRight" "[Z") (by decide +kernel)) (fun _ h9 => h9) rfl dX6_moves_69 ?_
              refine lv_iload_n hx hb dX6_moves_72 rfl (lv_at hl 4 rfl) ?_
              refine lv_aload_n hx hb dX6_moves_73 rfl (lv_at hl 1 rfl) ?_
              refine va_get (D := D) (ci := 6) (v := .ref (a 7)) (C := RX6) (T := TX6) (N := 26) hx hb hts in_X6_moves_X6 hown hK hP 0 rfl rfl 9 (by decide) (hts (.fieldLink RX6 29 "WarpyardModel" "triedRight" "[Z") (by decide +kernel)) (fun _ h9 => h9) rfl dX6_moves_74 ?_
              refine lv_iload_n hx hb dX6_moves_77 rfl (lv_at hl 4 rfl) ?_
              refine na_zald hx hb hK hP 7 1 (f := ((mvs (σ 2) (σ 14) (σ 15) (σ 16) (σ 17) (σ 6) n nb mi x k).1.2.1)) rfl rfl k (by omega) (by decide) rfl dX6_moves_78 ?_
              refine lv_if_ne (tgt := 86) hx hb dX6_moves_79 (by decide) (fun c_79 => ?_) (fun c_79 => ?_)
              · skip
                refine lv_iconst (v := 0) hx hb dX6_moves_86 (by decide) ?_
                refine na_zast hx hb hK hP hD hS 7 1 (f := ((mvs (σ 2) (σ 14) (σ 15) (σ 16) (σ 17) (σ 6) n nb mi x k).1.2.1)) (x := 0) rfl rfl k (by omega) (by decide) rfl (Or.inl rfl) dX6_moves_87 (fun H locs hP hD hS => ?_)
                have hP : va_P D vwCl (wM cI cZ a (va_up (va_up (va_up σ 9 ((mvs (σ 2) (σ 14) (σ 15) (σ 16) (σ 17) (σ 6) n nb mi x k).1.1)) 10 (upd ((mvs (σ 2) (σ 14) (σ 15) (σ 16) (σ 17) (σ 6) n nb mi x k).1.2.1) k 0)) 12 ((mvs (σ 2) (σ 14) (σ 15) (σ 16) (σ 17) (σ 6) n nb mi x k).1.2.2))) H := hP
                have hD : va_D A (wM cI cZ a (va_up (va_up (va_up σ 9 ((mvs (σ 2) (σ 14) (σ 15) (σ 16) (σ 17) (σ 6) n nb mi x k).1.1)) 10 (upd ((mvs (σ 2) (σ 14) (σ 15) (σ 16) (σ 17) (σ 6) n nb mi x k).1.2.1) k 0)) 12 ((mvs (σ 2) (σ 14) (σ 15) (σ 16) (σ 17) (σ 6) n nb mi x k).1.2.2))) := hD
                refine lv_goto (tgt := 138) hx hb dX6_moves_88 (by decide) ?_
                refine lv_iinc (v := nI (k + 1)) (lv' := [(3, .int (nI (k + 1))), (4, .int r_25), (0, .ref (a 0)), (1, .int mi), (2, .int mv)]) hx hb dX6_moves_138 hl (k := 4) rfl (by exact nI_1 k) (by decide) rfl (fun ls hl => ?_)
                refine lv_goto (tgt := 4) hx hb dX6_moves_141 (by decide) ?_
                have e9 : (stp (σ 2) (σ 14) (σ 15) (σ 16) (σ 17) (σ 6) n nb mi k (mvs (σ 2) (σ 14) (σ 15) (σ 16) (σ 17) (σ 6) n nb mi x k).1) = (((mvs (σ 2) (σ 14) (σ 15) (σ 16) (σ 17) (σ 6) n nb mi x k).1.1, upd (mvs (σ 2) (σ 14) (σ 15) (σ 16) (σ 17) (σ 6) n nb mi x k).1.2.1 k (fl ((mvs (σ 2) (σ 14) (σ 15) (σ 16) (σ 17) (σ 6) n nb mi x k).1.2.1 k)), (mvs (σ 2) (σ 14) (σ 15) (σ 16) (σ 17) (σ 6) n nb mi x k).1.2.2), 0) := stp_f c_36 c_58 (h_25.symm.trans c_65)
                have e8 : (mvs (σ 2) (σ 14) (σ 15) (σ 16) (σ 17) (σ 6) n nb mi x (k + 1)).1 = ((mvs (σ 2) (σ 14) (σ 15) (σ 16) (σ 17) (σ 6) n nb mi x k).1.1, upd (mvs (σ 2) (σ 14) (σ 15) (σ 16) (σ 17) (σ 6) n nb mi x k).1.2.1 k (fl ((mvs (σ 2) (σ 14) (σ 15) (σ 16) (σ 17) (σ 6) n nb mi x k).1.2.1 k)), (mvs (σ 2) (σ 14) (σ 15) (σ 16) (σ 17) (σ 6) n nb mi x k).1.2.2) := (by have e7 := congrArg Prod.fst e9; exact e7)
                rw [show fl ((mvs (σ 2) (σ 14) (σ 15) (σ 16) (σ 17) (σ 6) n nb mi x k).1.2.1 k) = 0 from fl_1 c_79] at e8
                exact ih (k + 1) mv _ _ ls (by omega) (by omega) (by rw [mvs_2, ← hmv, e9]; exact (Int32.add_zero _).symm) (by rw [e8]; exact hP) (by rw [e8]; exact hD) hS (lv_sub hl [2, 3, 4, 0] rfl)
              · skip
                refine lv_iconst (v := 1) hx hb dX6_moves_82 (by decide) ?_
                refine lv_goto (tgt := 87) hx hb dX6_moves_83 (by decide) ?_
                refine na_zast hx hb hK hP hD hS 7 1 (f := ((mvs (σ 2) (σ 14) (σ 15) (σ 16) (σ 17) (σ 6) n nb mi x k).1.2.1)) (x := 1) rfl rfl k (by omega) (by decide) rfl (Or.inr rfl) dX6_moves_87 (fun H locs hP hD hS => ?_)
                have hP : va_P D vwCl (wM cI cZ a (va_up (va_up (va_up σ 9 ((mvs (σ 2) (σ 14) (σ 15) (σ 16) (σ 17) (σ 6) n nb mi x k).1.1)) 10 (upd ((mvs (σ 2) (σ 14) (σ 15) (σ 16) (σ 17) (σ 6) n nb mi x k).1.2.1) k 1)) 12 ((mvs (σ 2) (σ 14) (σ 15) (σ 16) (σ 17) (σ 6) n nb mi x k).1.2.2))) H := hP
                have hD : va_D A (wM cI cZ a (va_up (va_up (va_up σ 9 ((mvs (σ 2) (σ 14) (σ 15) (σ 16) (σ 17) (σ 6) n nb mi x k).1.1)) 10 (upd ((mvs (σ 2) (σ 14) (σ 15) (σ 16) (σ 17) (σ 6) n nb mi x k).1.2.1) k 1)) 12 ((mvs (σ 2) (σ 14) (σ 15) (σ 16) (σ 17) (σ 6) n nb mi x k).1.2.2))) := hD
                refine lv_goto (tgt := 138) hx hb dX6_moves_88 (by decide) ?_
                refine lv_iinc (v := nI (k + 1)) (lv' := [(3, .int (nI (k + 1))), (4, .int r_25), (0, .ref (a 0)), (1, .int mi), (2, .int mv)]) hx hb dX6_moves_138 hl (k := 4) rfl (by exact nI_1 k) (by decide) rfl (fun ls hl => ?_)
                refine lv_goto (tgt := 4) hx hb dX6_moves_141 (by decide) ?_
                have e9 : (stp (σ 2) (σ 14) (σ 15) (σ 16) (σ 17) (σ 6) n nb mi k (mvs (σ 2) (σ 14) (σ 15) (σ 16) (σ 17) (σ 6) n nb mi x k).1) = (((mvs (σ 2) (σ 14) (σ 15) (σ 16) (σ 17) (σ 6) n nb mi x k).1.1, upd (mvs (σ 2) (σ 14) (σ 15) (σ 16) (σ 17) (σ 6) n nb mi x k).1.2.1 k (fl ((mvs (σ 2) (σ 14) (σ 15) (σ 16) (σ 17) (σ 6) n nb mi x k).1.2.1 k)), (mvs (σ 2) (σ 14) (σ 15) (σ 16) (σ 17) (σ 6) n nb mi x k).1.2.2), 0) := stp_f c_36 c_58 (h_25.symm.trans c_65)
                have e8 : (mvs (σ 2) (σ 14) (σ 15) (σ 16) (σ 17) (σ 6) n nb mi x (k + 1)).1 = ((mvs (σ 2) (σ 14) (σ 15) (σ 16) (σ 17) (σ 6) n nb mi x k).1.1, upd (mvs (σ 2) (σ 14) (σ 15) (σ 16) (σ 17) (σ 6) n nb mi x k).1.2.1 k (fl ((mvs (σ 2) (σ 14) (σ 15) (σ 16) (σ 17) (σ 6) n nb mi x k).1.2.1 k)), (mvs (σ 2) (σ 14) (σ 15) (σ 16) (σ 17) (σ 6) n nb mi x k).1.2.2) := (by have e7 := congrArg Prod.fst e9; exact e7)
                rw [show fl ((mvs (σ 2) (σ 14) (σ 15) (σ 16) (σ 17) (σ 6) n nb mi x k).1.2.1 k) = 1 from fl_0 c_79] at e8
                exact ih (k + 1) mv _ _ ls (by omega) (by omega) (by rw [mvs_2, ← hmv, e9]; exact (Int32.add_zero _).symm) (by rw [e8]; exact hP) (by rw [e8]; exact hD) hS (lv_sub hl [2, 3, 4, 0] rfl)
        · skip
          refine lv_aload_n hx hb dX6_moves_39 rfl (lv_at hl 1 rfl) ?_
          refine va_get (D := D) (ci := 6) (v := .ref (a 8)) (C := RX6) (T := TX6) (N := 26) hx hb hts in_X6_moves_X6 hown hK hP 0 rfl rfl 10 (by decide) (hts (.fieldLink RX6 32 "WarpyardModel" "triedDelays" "[I") (by decide +kernel)) (fun _ h9 => h9) rfl dX6_moves_40 ?_
          refine lv_iload_n hx hb dX6_moves_43 rfl (lv_at hl 4 rfl) ?_
          refine lv_dup2_11 hx hb dX6_moves_44 rfl rfl ?_
          refine na_iald hx hb hK hP 8 0 (f := ((mvs (σ 2) (σ 14) (σ 15) (σ 16) (σ 17) (σ 6) n nb mi x k).1.2.2)) rfl rfl k (by omega) (by decide) rfl dX6_moves_45 ?_
          refine lv_iconst (v := 1) hx hb dX6_moves_46 (by decide) ?_
          refine lv_isub hx hb dX6_moves_47 ?_
          refine na_iast hx hb hK hP hD hS 8 0 (f := ((mvs (σ 2) (σ 14) (σ 15) (σ 16) (σ 17) (σ 6) n nb mi x k).1.2.2)) (x := (((mvs (σ 2) (σ 14) (σ 15) (σ 16) (σ 17) (σ 6) n nb mi x k).1.2.2) k) - 1) rfl rfl k (by omega) (by decide) rfl dX6_moves_48 (fun H locs hP hD hS => ?_)
          have hP : va_P D vwCl (wM cI cZ a (va_up (va_up (va_up σ 9 ((mvs (σ 2) (σ 14) (σ 15) (σ 16) (σ 17) (σ 6) n nb mi x k).1.1)) 10 ((mvs (σ 2) (σ 14) (σ 15) (σ 16) (σ 17) (σ 6) n nb mi x k).1.2.1)) 12 (upd ((mvs (σ 2) (σ 14) (σ 15) (σ 16) (σ 17) (σ 6) n nb mi x k).1.2.2) k ((((mvs (σ 2) (σ 14) (σ 15) (σ 16) (σ 17) (σ 6) n nb mi x k).1.2.2) k) - 1)))) H := hP
          have hD : va_D A (wM cI cZ a (va_up (va_up (va_up σ 9 ((mvs (σ 2) (σ 14) (σ 15) (σ 16) (σ 17) (σ 6) n nb mi x k).1.1)) 10 ((mvs (σ 2) (σ 14) (σ 15) (σ 16) (σ 17) (σ 6) n nb mi x k).1.2.1)) 12 (upd ((mvs (σ 2) (σ 14) (σ 15) (σ 16) (σ 17) (σ 6) n nb mi x k).1.2.2) k ((((mvs (σ 2) (σ 14) (σ 15) (σ 16) (σ 17) (σ 6) n nb mi x k).1.2.2) k) - 1)))) := hD
          refine lv_goto (tgt := 138) hx hb dX6_moves_49 (by decide) ?_
          refine lv_iinc (v := nI (k + 1)) (lv' := [(3, .int (nI (k + 1))), (4, .int r_25), (0, .ref (a 0)), (1, .int mi), (2, .int mv)]) hx hb dX6_moves_138 hl (k := 4) rfl (by exact nI_1 k) (by decide) rfl (fun ls hl => ?_)
          refine lv_goto (tgt := 4) hx hb dX6_moves_141 (by decide) ?_
          have e9 : (stp (σ 2) (σ 14) (σ 15) (σ 16) (σ 17) (σ 6) n nb mi k (mvs (σ 2) (σ 14) (σ 15) (σ 16) (σ 17) (σ 6) n nb mi x k).1) = (((mvs (σ 2) (σ 14) (σ 15) (σ 16) (σ 17) (σ 6) n nb mi x k).1.1, (mvs (σ 2) (σ 14) (σ 15) (σ 16) (σ 17) (σ 6) n nb mi x k).1.2.1, upd (mvs (σ 2) (σ 14) (σ 15) (σ 16) (σ 17) (σ 6) n nb mi x k).1.2.2 k ((mvs (σ 2) (σ 14) (σ 15) (σ 16) (σ 17) (σ 6) n nb mi x k).1.2.2 k - 1)), 0) := stp_d c_36
          have e8 : (mvs (σ 2) (σ 14) (σ 15) (σ 16) (σ 17) (σ 6) n nb mi x (k + 1)).1 = ((mvs (σ 2) (σ 14) (σ 15) (σ 16) (σ 17) (σ 6) n nb mi x k).1.1, (mvs (σ 2) (σ 14) (σ 15) (σ 16) (σ 17) (σ 6) n nb mi x k).1.2.1, upd (mvs (σ 2) (σ 14) (σ 15) (σ 16) (σ 17) (σ 6) n nb mi x k).1.2.2 k ((mvs (σ 2) (σ 14) (σ 15) (σ 16) (σ 17) (σ 6) n nb mi x k).1.2.2 k - 1)) := (by have e7 := congrArg Prod.fst e9; exact e7)
          exact ih (k + 1) mv _ _ ls (by omega) (by omega) (by rw [mvs_2, ← hmv, e9]; exact (Int32.add_zero _).symm) (by rw [e8]; exact hP) (by rw [e8]; exact hD) hS (lv_sub hl [2, 3, 4, 0] rfl)
  exact loop_4 (n + 1) 0 0 _ _ ls (by omega) (by omega) (by rfl) hP hD hS (lv_sub hl [2, 3, 1, 0] rfl)
