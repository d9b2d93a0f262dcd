set_option maxRecDepth 20000 in
theorem in_X6_clock_X6 : ∀ w ∈ wsX60, w ∈ wsX6_clock := by decide +kernel
set_option maxHeartbeats 4000000 in
set_option maxRecDepth 100000 in
/-- the reference: clock -/
theorem c_X6_clock (l : Launch) (D : va_G) (cI cZ : ClassId) (a : Nat → Nat) (sz : Nat) (σ : St)  : MI l yX6_clock wsX6_clock ({ frames := 0, cells := 0, slots := 0, locals := 0 }) D (ty2 cI cZ) (wM cI cZ a) [.ref (a 0)] σ sz (fun r u => u = (va_up σ 34 (fun _ => 0)) ∧ r = σ 0 0) := by
  refine MI.of (cc := cX6_clock) (maxL := 1) (by decide) rfl (Nat.le_of_ble_eq_true rfl) ?_
  intro p e s m args below meth c A H locs ls hx hb hr hml hown hts hlocks hA hS hP hK hD hl
  have hl : lv_has ls 1 [(0, .ref (a 0))] := hl
  refine lv_aload_n hx hb dX6_clock_0 rfl (lv_at hl 0 rfl) ?_
  refine lv_iconst (v := 0) hx hb dX6_clock_1 (by decide) ?_
  refine va_put (D := D) (ci := 6) (v := .int 0) (ty := .int) (C := RX6) (T := TX6) (N := 26) hx hb hts in_X6_clock_X6 tyX6 tyX6_ok nmX6 hown hK hP hD hS 0 rfl rfl 0 (by decide) (hts (.fieldLink RX6 71 "WarpyardModel" "thrown" "I") (by decide +kernel)) (fun _ h9 => h9) rfl (by decide +kernel) rfl rfl (Nat.le_of_ble_eq_true rfl) dX6_clock_2 (fun H locs hP hD hS => ?_)
  have hP : va_P D vwCl (wM cI cZ a (va_up σ 34 (fun _ => 0))) H := hP
  have hD : va_D A (wM cI cZ a (va_up σ 34 (fun _ => 0))) := hD
  refine lv_aload_n hx hb dX6_clock_5 rfl (lv_at hl 0 rfl) ?_
  refine va_get (D := D) (ci := 6) (v := .int (σ 0 0)) (C := RX6) (T := TX6) (N := 26) hx hb hts in_X6_clock_X6 hown hK hP 0 rfl rfl 1 (by decide) (hts (.fieldLink RX6 113 "WarpyardModel" "clock" "I") (by decide +kernel)) (fun _ h9 => h9) rfl dX6_clock_6 ?_
  exact MI.ret hx hb hr hlocks hK hP hD hS dX6_clock_9 (by exact ⟨rfl, rfl⟩)
set_option maxRecDepth 20000 in
theorem in_X6_earned_X6 : ∀ w ∈ wsX60, w ∈ wsX6_earned := by decide +kernel
set_option maxHeartbeats 4000000 in
set_option maxRecDepth 100000 in
/-- the reference: earned -/
theorem c_X6_earned (l : Launch) (D : va_G) (cI cZ : ClassId) (a : Nat → Nat) (sz : Nat) (σ : St)  : MI l yX6_earned wsX6_earned ({ frames := 0, cells := 0, slots := 0, locals := 0 }) D (ty2 cI cZ) (wM cI cZ a) [.ref (a 0)] σ sz (fun r u => u = (va_up σ 34 (fun _ => 0)) ∧ r = σ 1 0) := by
  refine MI.of (cc := cX6_earned) (maxL := 1) (by decide) rfl (Nat.le_of_ble_eq_true rfl) ?_
  intro p e s m args below meth c A H locs ls hx hb hr hml hown hts hlocks hA hS hP hK hD hl
  have hl : lv_has ls 1 [(0, .ref (a 0))] := hl
  refine lv_aload_n hx hb dX6_earned_0 rfl (lv_at hl 0 rfl) ?_
  refine lv_iconst (v := 0) hx hb dX6_earned_1 (by decide) ?_
  refine va_put (D := D) (ci := 6) (v := .int 0) (ty := .int) (C := RX6) (T := TX6) (N := 26) hx hb hts in_X6_earned_X6 tyX6 tyX6_ok nmX6 hown hK hP hD hS 0 rfl rfl 0 (by decide) (hts (.fieldLink RX6 71 "WarpyardModel" "thrown" "I") (by decide +kernel)) (fun _ h9 => h9) rfl (by decide +kernel) rfl rfl (Nat.le_of_ble_eq_true rfl) dX6_earned_2 (fun H locs hP hD hS => ?_)
  have hP : va_P D vwCl (wM cI cZ a (va_up σ 34 (fun _ => 0))) H := hP
  have hD : va_D A (wM cI cZ a (va_up σ 34 (fun _ => 0))) := hD
  refine lv_aload_n hx hb dX6_earned_5 rfl (lv_at hl 0 rfl) ?_
  refine va_get (D := D) (ci := 6) (v := .int (σ 1 0)) (C := RX6) (T := TX6) (N := 26) hx hb hts in_X6_earned_X6 hown hK hP 0 rfl rfl 25 (by decide) (hts (.fieldLink RX6 152 "WarpyardModel" "earned" "I") (by decide +kernel)) (fun _ h9 => h9) rfl dX6_earned_6 ?_
  exact MI.ret hx hb hr hlocks hK hP hD hS dX6_earned_9 (by exact ⟨rfl, rfl⟩)
set_option maxRecDepth 20000 in
theorem in_X6_addTrain_X6 : ∀ w ∈ wsX60, w ∈ wsX6_addTrain := by decide +kernel
set_option maxHeartbeats 4000000 in
set_option maxRecDepth 100000 in
/-- the reference: addTrain -/
theorem c_X6_addTrain (l : Launch) (D : va_G) (cI cZ : ClassId) (a : Nat → Nat) (sz : Nat) (σ : St) (b rt : Int32) (hrt : rt = 0 ∨ rt = 1) (n : Nat) (hn : σ 3 0 = nI n) (hn4 : n ≤ 4) : MI l yX6_addTrain wsX6_addTrain ({ frames := 2, cells := 0, slots := 0, locals := 42 }) D (ty2 cI cZ) (wM cI cZ a) [.ref (a 0), .int b, .int rt] σ sz (fun r u => (¬ cdAdd σ n b = 0 ∧ u = (va_up σ 34 (fun _ => cdAdd σ n b))) ∨ (cdAdd σ n b = 0 ∧ u = (va_up (va_up (va_up (va_up σ 3 (fun _ => nI (n + 1))) 4 (upd (σ 4) n b)) 5 (upd (σ 5) n rt)) 34 (fun _ => 0)) ∧ r = nI n)) := by
  refine MI.of (cc := cX6_addTrain) (maxL := 3) (by decide) rfl (Nat.le_of_ble_eq_true rfl) ?_
  intro p e s m args below meth c A H locs ls hx hb hr hml hown hts hlocks hA hS hP hK hD hl
  have hl : lv_has ls 3 [(0, .ref (a 0)), (1, .int b), (2, .int rt)] := hl
  refine lv_aload_n hx hb dX6_addTrain_0 rfl (lv_at hl 0 rfl) ?_
  refine lv_iload_n hx hb dX6_addTrain_1 rfl (lv_at hl 1 rfl) ?_
  refine MI.callS (As := [.int b]) (rest := [.ref (a 0)]) ⟨hx, hb, hml, hown, hts⟩ (c_X6_isBlock l D cI cZ a H.size σ b) (va_cwS 1 hts gX6_addTrain_X6_isBlock rfl rfl rfl (by decide +kernel) ⟨Nat.le_of_ble_eq_true rfl, Nat.le_of_ble_eq_true rfl⟩) hP hK hD hS hA rfl hl.1 (Nat.le_of_ble_eq_true rfl) (Nat.zero_le _) (Nat.zero_le _) dX6_addTrain_2 rfl (fun r_2 u_2 H locs h_2 hP hD hS => ?_)
  rcases h_2 with ⟨e_2, ⟨rfl, h_2⟩ | ⟨rfl, h_2⟩⟩
  · skip
    have e_2 := Eq.symm e_2
    subst e_2
    have h_2 : inR b 0 7 := h_2
    refine lv_if_ne (tgt := 12) hx hb dX6_addTrain_5 (by decide) (fun _ => ?_) (fun c9 => absurd c9 (by decide))
    refine lv_aload_n hx hb dX6_addTrain_12 rfl (lv_at hl 0 rfl) ?_
    refine va_get (D := D) (ci := 6) (v := .int (σ 3 0)) (C := RX6) (T := TX6) (N := 26) hx hb hts in_X6_addTrain_X6 hown hK hP 0 rfl rfl 2 (by decide) (hts (.fieldLink RX6 75 "WarpyardModel" "trains" "I") (by decide +kernel)) (fun _ h9 => h9) rfl dX6_addTrain_13 ?_
    refine lv_topi (fun v_16 e_16 => ?_)
    obtain rfl : v_16 = nI n := by rw [e_16]; exact hn
    refine lv_iconst (v := 4) hx hb dX6_addTrain_16 (by decide) ?_
    refine lv_icmp_eq (tgt := 29) hx hb dX6_addTrain_17 (by decide) (fun c_17 => ?_) (fun c_17 => ?_)
    · skip
      rw [show (4 : Int32) = nI 4 from rfl, nI_eq (by omega) (by omega)] at c_17
      refine lv_iconst (v := 2) hx hb dX6_addTrain_29 (by decide) ?_
      refine lv_goto (tgt := 34) hx hb dX6_addTrain_30 (by decide) ?_
      refine MI.callV (As := [.int 2]) (rest := []) ⟨hx, hb, hml, hown, hts⟩ (c_X6_holds l D cI cZ a H.size σ 2) (cwV 1 hts gX6_addTrain_X6_holds rfl rfl rfl (by decide +kernel) ⟨Nat.le_of_ble_eq_true rfl, Nat.le_of_ble_eq_true rfl⟩) hP hK hD hS hA (va_recv hK hP (ci := 6) (q0 := 0) rfl rfl) rfl hl.1 (Nat.le_of_ble_eq_true rfl) (Nat.zero_le _) (Nat.zero_le _) dX6_addTrain_34 rfl (fun r_34 u_34 H locs h_34 hP hD hS => ?_)
      obtain ⟨e_34, h_34⟩ := h_34
      have e_34 := Eq.symm e_34
      subst e_34
      have hP : va_P D vwCl (wM cI cZ a (va_up σ 34 (fun _ => 2))) H := hP
      have hD : va_D A (wM cI cZ a (va_up σ 34 (fun _ => 2))) := hD
      obtain rfl : r_34 = 0 := h_34.trans (by decide)
      refine lv_if_ne (tgt := 42) hx hb dX6_addTrain_37 (by decide) (fun c9 => absurd (by decide) c9) (fun _ => ?_)
      refine lv_iconst (v := 0) hx hb dX6_addTrain_40 (by decide) ?_
      exact MI.ret hx hb hr hlocks hK hP hD hS dX6_addTrain_41 (by exact Or.inl (rf_ (by rw [cdAdd, cif_t h_2, cif_f (fun h => h.1 c_17)]) (by decide)))
    · skip
      rw [show (4 : Int32) = nI 4 from rfl, nI_eq (by omega) (by omega)] at c_17
      refine lv_aload_n hx hb dX6_addTrain_20 rfl (lv_at hl 0 rfl) ?_
      refine lv_iload_n hx hb dX6_addTrain_21 rfl (lv_at hl 1 rfl) ?_
      refine MI.callV (As := [.int b]) (rest := [.ref (a 0)]) ⟨hx, hb, hml, hown, hts⟩ (c_X6_standsOn l D cI cZ a H.size σ b n hn hn4) (cwV 1 hts gX6_addTrain_X6_standsOn rfl rfl rfl (by decide +kernel) ⟨Nat.le_of_ble_eq_true rfl, Nat.le_of_ble_eq_true rfl⟩) hP hK hD hS hA (va_recv hK hP (ci := 6) (q0 := 0) rfl rfl) rfl hl.1 (Nat.le_of_ble_eq_true rfl) (Nat.zero_le _) (Nat.zero_le _) dX6_addTrain_22 rfl (fun r_22 u_22 H locs h_22 hP hD hS => ?_)
      obtain ⟨e_22, h_22⟩ := h_22
      have e_22 := Eq.symm e_22
      subst e_22
      have h_22 : r_22 = so (σ 4) b n := h_22
      refine lv_iconst (v := (-1)) hx hb dX6_addTrain_25 (by decide) ?_
      refine lv_icmp_eq (tgt := 33) hx hb dX6_addTrain_26 (by decide) (fun c_26 => ?_) (fun c_26 => ?_)
      · skip
        refine lv_iconst (v := 0) hx hb dX6_addTrain_33 (by decide) ?_
        refine MI.callV (As := [.int 0]) (rest := []) ⟨hx, hb, hml, hown, hts⟩ (c_X6_holds l D cI cZ a H.size σ 0) (cwV 1 hts gX6_addTrain_X6_holds rfl rfl rfl (by decide +kernel) ⟨Nat.le_of_ble_eq_true rfl, Nat.le_of_ble_eq_true rfl⟩) hP hK hD hS hA (va_recv hK hP (ci := 6) (q0 := 0) rfl rfl) rfl hl.1 (Nat.le_of_ble_eq_true rfl) (Nat.zero_le _) (Nat.zero_le _) dX6_addTrain_34 rfl (fun r_34 u_34 H locs h_34 hP hD hS => ?_)
        obtain ⟨e_34, h_34⟩ := h_34
        have e_34 := Eq.symm e_34
        subst e_34
        have hP : va_P D vwCl (wM cI cZ a (va_up σ 34 (fun _ => 0))) H := hP
        have hD : va_D A (wM cI cZ a (va_up σ 34 (fun _ => 0))) := hD
        obtain rfl : r_34 = 1 := h_34.trans (by decide)
        refine lv_if_ne (tgt := 42) hx hb dX6_addTrain_37 (by decide) (fun _ => ?_) (fun c9 => absurd c9 (by decide))
        refine lv_aload_n hx hb dX6_addTrain_42 rfl (lv_at hl 0 rfl) ?_
        refine va_get (D := D) (ci := 6) (v := .ref (a 1)) (C := RX6) (T := TX6) (N := 26) hx hb hts in_X6_addTrain_X6 hown hK hP 0 rfl rfl 3 (by decide) (hts (.fieldLink RX6 7 "WarpyardModel" "blocks" "[I") (by decide +kernel)) (fun _ h9 => h9) rfl dX6_addTrain_43 ?_
        refine lv_aload_n hx hb dX6_addTrain_46 rfl (lv_at hl 0 rfl) ?_
        refine va_get (D := D) (ci := 6) (v := .int (σ 3 0)) (C := RX6) (T := TX6) (N := 26) hx hb hts in_X6_addTrain_X6 hown hK hP 0 rfl rfl 2 (by decide) (hts (.fieldLink RX6 75 "WarpyardModel" "trains" "I") (by decide +kernel)) (fun _ h9 => h9) rfl dX6_addTrain_47 ?_
        refine lv_topi (fun v_50 e_50 => ?_)
        obtain rfl : v_50 = nI n := by rw [e_50]; exact hn
        refine lv_iload_n hx hb dX6_addTrain_50 rfl (lv_at hl 1 rfl) ?_
        refine na_iast hx hb hK hP hD hS 1 0 (f := (σ 4)) (x := b) rfl rfl n (by omega) (by decide) rfl dX6_addTrain_51 (fun H locs hP hD hS => ?_)
        have hP : va_P D vwCl (wM cI cZ a (va_up (va_up σ 4 (upd (σ 4) n b)) 34 (fun _ => 0))) H := hP
        have hD : va_D A (wM cI cZ a (va_up (va_up σ 4 (upd (σ 4) n b)) 34 (fun _ => 0))) := hD
        refine lv_aload_n hx hb dX6_addTrain_52 rfl (lv_at hl 0 rfl) ?_
        refine va_get (D := D) (ci := 6) (v := .ref (a 2)) (C := RX6) (T := TX6) (N := 26) hx hb hts in_X6_addTrain_X6 hown hK hP 0 rfl rfl 4 (by decide) (hts (.fieldLink RX6 13 "WarpyardModel" "areRight" "[Z") (by decide +kernel)) (fun _ h9 => h9) rfl dX6_addTrain_53 ?_
        refine lv_aload_n hx hb dX6_addTrain_56 rfl (lv_at hl 0 rfl) ?_
        refine va_get (D := D) (ci := 6) (v := .int (σ 3 0)) (C := RX6) (T := TX6) (N := 26) hx hb hts in_X6_addTrain_X6 hown hK hP 0 rfl rfl 2 (by decide) (hts (.fieldLink RX6 75 "WarpyardModel" "trains" "I") (by decide +kernel)) (fun _ h9 => h9) rfl dX6_addTrain_57 ?_
        refine lv_topi (fun v_60 e_60 => ?_)
        obtain rfl : v_60 = nI n := by rw [e_60]; exact hn
        refine lv_iload_n hx hb dX6_addTrain_60 rfl (lv_at hl 2 rfl) ?_
        refine na_zast hx hb hK hP hD hS 2 1 (f := (σ 5)) (x := rt) rfl rfl n (by omega) (by decide) rfl hrt dX6_addTrain_61 (fun H locs hP hD hS => ?_)
        have hP : va_P D vwCl (wM cI cZ a (va_up (va_up (va_up σ 4 (upd (σ 4) n b)) 5 (upd (σ 5) n rt)) 34 (fun _ => 0))) H := hP
        have hD : va_D A (wM cI cZ a (va_up (va_up (va_up σ 4 (upd (σ 4) n b)) 5 (upd (σ 5) n rt)) 34 (fun _ => 0))) := hD
        refine lv_aload_n hx hb dX6_addTrain_62 rfl (lv_at hl 0 rfl) ?_
        refine lv_dup hx hb dX6_addTrain_63 rfl ?_
        refine va_get (D := D) (ci := 6) (v := .int (σ 3 0)) (C := RX6) (T := TX6) (N := 26) hx hb hts in_X6_addTrain_X6 hown hK hP 0 rfl rfl 2 (by decide) (hts (.fieldLink RX6 75 "WarpyardModel" "trains" "I") (by decide +kernel)) (fun _ h9 => h9) rfl dX6_addTrain_64 ?_
        refine lv_topi (fun v_67 e_67 => ?_)
        obtain rfl : v_67 = nI n := by rw [e_67]; exact hn
        refine lv_iconst (v := 1) hx hb dX6_addTrain_67 (by decide) ?_
        refine lv_iadd hx hb dX6_addTrain_68 ?_
        refine lv_topi (fun v_69 e_69 => ?_)
        obtain rfl : v_69 = nI (n + 1) := by rw [e_69]; exact nI_1 n
        refine va_put (D := D) (ci := 6) (v := .int (nI (n + 1))) (ty := .int) (C := RX6) (T := TX6) (N := 26) hx hb hts in_X6_addTrain_X6 tyX6 tyX6_ok nmX6 hown hK hP hD hS 0 rfl rfl 2 (by decide) (hts (.fieldLink RX6 75 "WarpyardModel" "trains" "I") (by decide +kernel)) (fun _ h9 => h9) rfl (by decide +kernel) rfl rfl (Nat.le_of_ble_eq_true rfl) dX6_addTrain_69 (fun H locs hP hD hS => ?_)
        have hP : va_P D vwCl (wM cI cZ a (va_up (va_up (va_up (va_up σ 3 (fun _ => nI (n + 1))) 4 (upd (σ 4) n b)) 5 (upd (σ 5) n rt)) 34 (fun _ => 0))) H := hP
        have hD : va_D A (wM cI cZ a (va_up (va_up (va_up (va_up σ 3 (fun _ => nI (n + 1))) 4 (upd (σ 4) n b)) 5 (upd (σ 5) n rt)) 34 (fun _ => 0))) := hD
        refine lv_aload_n hx hb dX6_addTrain_72 rfl (lv_at hl 0 rfl) ?_
        refine va_get (D := D) (ci := 6) (v := .int (nI (n + 1))) (C := RX6) (T := TX6) (N := 26) hx hb hts in_X6_addTrain_X6 hown hK hP 0 rfl rfl 2 (by decide) (hts (.fieldLink RX6 75 "WarpyardModel" "trains" "I") (by decide +kernel)) (fun _ h9 => h9) rfl dX6_addTrain_73 ?_
        refine lv_iconst (v := 1) hx hb dX6_addTrain_76 (by decide) ?_
        refine lv_isub hx hb dX6_addTrain_77 ?_
        refine lv_topi (fun v_78 e_78 => ?_)
        obtain rfl : v_78 = nI n := by rw [e_78]; exact nI_pred n
        exact MI.ret hx hb hr hlocks hK hP hD hS dX6_addTrain_78 (by exact Or.inr ⟨by rw [cdAdd, cif_t h_2, cif_t ⟨c_17, h_22.symm.trans c_26⟩], rfl, rfl⟩)
      · skip
        refine lv_iconst (v := 2) hx hb dX6_addTrain_29 (by decide) ?_
        refine lv_goto (tgt := 34) hx hb dX6_addTrain_30 (by decide) ?_
        refine MI.callV (As := [.int 2]) (rest := []) ⟨hx, hb, hml, hown, hts⟩ (c_X6_holds l D cI cZ a H.size σ 2) (cwV 1 hts gX6_addTrain_X6_holds rfl rfl rfl (by decide +kernel) ⟨Nat.le_of_ble_eq_true rfl, Nat.le_of_ble_eq_true rfl⟩) hP hK hD hS hA (va_recv hK hP (ci := 6) (q0 := 0) rfl rfl) rfl hl.1 (Nat.le_of_ble_eq_true rfl) (Nat.zero_le _) (Nat.zero_le _) dX6_addTrain_34 rfl (fun r_34 u_34 H locs h_34 hP hD hS => ?_)
        obtain ⟨e_34, h_34⟩ := h_34
        have e_34 := Eq.symm e_34
        subst e_34
        have hP : va_P D vwCl (wM cI cZ a (va_up σ 34 (fun _ => 2))) H := hP
        have hD : va_D A (wM cI cZ a (va_up σ 34 (fun _ => 2))) := hD
        obtain rfl : r_34 = 0 := h_34.trans (by decide)
        refine lv_if_ne (tgt := 42) hx hb dX6_addTrain_37 (by decide) (fun c9 => absurd (by decide) c9) (fun _ => ?_)
        refine lv_iconst (v := 0) hx hb dX6_addTrain_40 (by decide) ?_
        exact MI.ret hx hb hr hlocks hK hP hD hS dX6_addTrain_41 (by exact Or.inl (rf_ (by rw [cdAdd, cif_t h_2, cif_f (fun h => c_26 (h_22.trans h.2))]) (by decide)))
  · skip
    have e_2 := Eq.symm e_2
    subst e_2
    have h_2 : ¬ (inR b 0 7) := h_2
    refine lv_if_ne (tgt := 12) hx hb dX6_addTrain_5 (by decide) (fun c9 => absurd (by decide) c9) (fun _ => ?_)
    refine lv_iconst (v := 1) hx hb dX6_addTrain_8 (by decide) ?_
    refine lv_goto (tgt := 34) hx hb dX6_addTrain_9 (by decide) ?_
    refine MI.callV (As := [.int 1]) (rest := []) ⟨hx, hb, hml, hown, hts⟩ (c_X6_holds l D cI cZ a H.size σ 1) (cwV 1 hts gX6_addTrain_X6_holds rfl rfl rfl (by decide +kernel) ⟨Nat.le_of_ble_eq_true rfl, Nat.le_of_ble_eq_true rfl⟩) hP hK hD hS hA (va_recv hK hP (ci := 6) (q0 := 0) rfl rfl) rfl hl.1 (Nat.le_of_ble_eq_true rfl) (Nat.zero_le _) (Nat.zero_le _) dX6_addTrain_34 rfl (fun r_34 u_34 H locs h_34 hP hD hS => ?_)
    obtain ⟨e_34, h_34⟩ := h_34
    have e_34 := Eq.symm e_34
    subst e_34
    have hP : va_P D vwCl (wM cI cZ a (va_up σ 34 (fun _ => 1))) H := hP
    have hD : va_D A (wM cI cZ a (va_up σ 34 (fun _ => 1))) := hD
    obtain rfl : r_34 = 0 := h_34.trans (by decide)
    refine lv_if_ne (tgt := 42) hx hb dX6_addTrain_37 (by decide) (fun c9 => absurd (by decide) c9) (fun _ => ?_)
    refine lv_iconst (v := 0) hx hb dX6_addTrain_40 (by decide) ?_
    exact MI.ret hx hb hr hlocks hK hP hD hS dX6_addTrain_41 (by exact Or.inl (rf_ (by rw [cdAdd, cif_f h_2]) (by decide)))
set_option maxRecDepth 20000 in
theorem in_X6_hold_X6 : ∀ w ∈ wsX60, w ∈ wsX6_hold := by decide +kernel
set_option maxHeartbeats 4000000 in
set_option maxRecDepth 100000 in
/-- the reference: hold -/
theorem c_X6_hold (l : Launch) (D : va_G) (cI cZ : ClassId) (a : Nat → Nat) (sz : Nat) (σ : St) (t v : Int32) (hv : v = 0 ∨ v = 1) (n : Nat) (hn : σ 3 0 = nI n) (hn4 : n ≤ 4) : MI l yX6_hold wsX6_hold ({ frames := 2, cells := 0, slots := 0, locals := 43 }) D (ty2 cI cZ) (wM cI cZ a) [.ref (a 0), .int t, .int v] σ sz (fun r u => (¬ cdTr n t = 0 ∧ u = (va_up σ 34 (fun _ => cdTr n t))) ∨ (cdTr n t = 0 ∧ u = (va_up (va_up σ 6 (upd (σ 6) t.toNatClampNeg v)) 34 (fun _ => 0)) ∧ r = bI (¬ σ 6 t.toNatClampNeg = v))) := by
  refine MI.of (cc := cX6_hold) (maxL := 4) (by decide) rfl (Nat.le_of_ble_eq_true rfl) ?_
  intro p e s m args below meth c A H locs ls hx hb hr hml hown hts hlocks hA hS hP hK hD hl
  have hl : lv_has ls 4 [(0, .ref (a 0)), (1, .int t), (2, .int v)] := hl
  refine lv_aload_n hx hb dX6_hold_0 rfl (lv_at hl 0 rfl) ?_
  refine lv_aload_n hx hb dX6_hold_1 rfl (lv_at hl 0 rfl) ?_
  refine lv_iload_n hx hb dX6_hold_2 rfl (lv_at hl 1 rfl) ?_
  refine MI.callV (As := [.int t]) (rest := [.ref (a 0)]) ⟨hx, hb, hml, hown, hts⟩ (c_X6_isTrain l D cI cZ a H.size σ t n hn hn4) (cwV 1 hts gX6_hold_X6_isTrain rfl rfl rfl (by decide +kernel) ⟨Nat.le_of_ble_eq_true rfl, Nat.le_of_ble_eq_true rfl⟩) hP hK hD hS hA (va_recv hK hP (ci := 6) (q0 := 0) rfl rfl) rfl hl.1 (Nat.le_of_ble_eq_true rfl) (Nat.zero_le _) (Nat.zero_le _) dX6_hold_3 rfl (fun r_3 u_3 H locs h_3 hP hD hS => ?_)
  rcases h_3 with ⟨e_3, ⟨rfl, h_3⟩ | ⟨rfl, h_3⟩⟩
  · skip
    have e_3 := Eq.symm e_3
    subst e_3
    have h_3 : tr n t := h_3
    refine lv_if_eq (tgt := 13) hx hb dX6_hold_6 (by decide) (fun c9 => absurd c9 (by decide)) (fun _ => ?_)
    refine lv_iconst (v := 0) hx hb dX6_hold_9 (by decide) ?_
    refine lv_goto (tgt := 14) hx hb dX6_hold_10 (by decide) ?_
    refine MI.callV (As := [.int 0]) (rest := []) ⟨hx, hb, hml, hown, hts⟩ (c_X6_holds l D cI cZ a H.size σ 0) (cwV 1 hts gX6_hold_X6_holds rfl rfl rfl (by decide +kernel) ⟨Nat.le_of_ble_eq_true rfl, Nat.le_of_ble_eq_true rfl⟩) hP hK hD hS hA (va_recv hK hP (ci := 6) (q0 := 0) rfl rfl) rfl hl.1 (Nat.le_of_ble_eq_true rfl) (Nat.zero_le _) (Nat.zero_le _) dX6_hold_14 rfl (fun r_14 u_14 H locs h_14 hP hD hS => ?_)
    obtain ⟨e_14, h_14⟩ := h_14
    have e_14 := Eq.symm e_14
    subst e_14
    have hP : va_P D vwCl (wM cI cZ a (va_up σ 34 (fun _ => 0))) H := hP
    have hD : va_D A (wM cI cZ a (va_up σ 34 (fun _ => 0))) := hD
    obtain rfl : r_14 = 1 := h_14.trans (by decide)
    refine lv_if_ne (tgt := 22) hx hb dX6_hold_17 (by decide) (fun _ => ?_) (fun c9 => absurd c9 (by decide))
    obtain ⟨k, hk, rfl⟩ := id h_3
    refine lv_aload_n hx hb dX6_hold_22 rfl (lv_at hl 0 rfl) ?_
    refine va_get (D := D) (ci := 6) (v := .ref (a 3)) (C := RX6) (T := TX6) (N := 26) hx hb hts in_X6_hold_X6 hown hK hP 0 rfl rfl 5 (by decide) (hts (.fieldLink RX6 17 "WarpyardModel" "areHeld" "[Z") (by decide +kernel)) (fun _ h9 => h9) rfl dX6_hold_23 ?_
    refine lv_iload_n hx hb dX6_hold_26 rfl (lv_at hl 1 rfl) ?_
    refine na_zald hx hb hK hP 3 1 (f := (σ 6)) rfl rfl k (by omega) (by decide) rfl dX6_hold_27 ?_
    refine lv_istore_n (lv' := [(3, .int (σ 6 k)), (0, .ref (a 0)), (1, .int (nI k)), (2, .int v)]) hx hb dX6_hold_28 rfl hl (by decide) rfl (fun ls hl => ?_)
    refine lv_aload_n hx hb dX6_hold_29 rfl (lv_at hl 1 rfl) ?_
    refine va_get (D := D) (ci := 6) (v := .ref (a 3)) (C := RX6) (T := TX6) (N := 26) hx hb hts in_X6_hold_X6 hown hK hP 0 rfl rfl 5 (by decide) (hts (.fieldLink RX6 17 "WarpyardModel" "areHeld" "[Z") (by decide +kernel)) (fun _ h9 => h9) rfl dX6_hold_30 ?_
    refine lv_iload_n hx hb dX6_hold_33 rfl (lv_at hl 2 rfl) ?_
    refine lv_iload_n hx hb dX6_hold_34 rfl (lv_at hl 3 rfl) ?_
    refine na_zast hx hb hK hP hD hS 3 1 (f := (σ 6)) (x := v) rfl rfl k (by omega) (by decide) rfl hv dX6_hold_35 (fun H locs hP hD hS => ?_)
    have hP : va_P D vwCl (wM cI cZ a (va_up (va_up σ 6 (upd (σ 6) k v)) 34 (fun _ => 0))) H := hP
    have hD : va_D A (wM cI cZ a (va_up (va_up σ 6 (upd (σ 6) k v)) 34 (fun _ => 0))) := hD
    refine lv_iload_n hx hb dX6_hold_36 rfl (lv_at hl 0 rfl) ?_
    refine lv_iload_n hx hb dX6_hold_37 rfl (lv_at hl 3 rfl) ?_
    refine lv_icmp_eq (tgt := 45) hx hb dX6_hold_38 (by decide) (fun c_38 => ?_) (fun c_38 => ?_)
    · skip
      refine lv_iconst (v := 0) hx hb dX6_hold_45 (by decide) ?_
      exact MI.zret hx hb hr hlocks hK hP hD hS dX6_hold_46 rfl (by rw [nI_clamp (show k < 2 ^ 31 by omega)]; exact Or.inr ⟨cif_t h_3, rfl, (bI_f (fun h => h c_38)).symm⟩)
    · skip
      refine lv_iconst (v := 1) hx hb dX6_hold_41 (by decide) ?_
      refine lv_goto (tgt := 46) hx hb dX6_hold_42 (by decide) ?_
      exact MI.zret hx hb hr hlocks hK hP hD hS dX6_hold_46 rfl (by rw [nI_clamp (show k < 2 ^ 31 by omega)]; exact Or.inr ⟨cif_t h_3, rfl, (bI_t c_38).symm⟩)
  · skip
    have e_3 := Eq.symm e_3
    subst e_3
    have h_3 : ¬ (tr n t) := h_3
    refine lv_if_eq (tgt := 13) hx hb dX6_hold_6 (by decide) (fun _ => ?_) (fun c9 => absurd (by decide) c9)
    refine lv_iconst (v := 1) hx hb dX6_hold_13 (by decide) ?_
    refine MI.callV (As := [.int 1]) (rest := []) ⟨hx, hb, hml, hown, hts⟩ (c_X6_holds l D cI cZ a H.size σ 1) (cwV 1 hts gX6_hold_X6_holds rfl rfl rfl (by decide +kernel) ⟨Nat.le_of_ble_eq_true rfl, Nat.le_of_ble_eq_true rfl⟩) hP hK hD hS hA (va_recv hK hP (ci := 6) (q0 := 0) rfl rfl) rfl hl.1 (Nat.le_of_ble_eq_true rfl) (Nat.zero_le _) (Nat.zero_le _) dX6_hold_14 rfl (fun r_14 u_14 H locs h_14 hP hD hS => ?_)
    obtain ⟨e_14, h_14⟩ := h_14
    have e_14 := Eq.symm e_14
    subst e_14
    have hP : va_P D vwCl (wM cI cZ a (va_up σ 34 (fun _ => 1))) H := hP
    have hD : va_D A (wM cI cZ a (va_up σ 34 (fun _ => 1))) := hD
    obtain rfl : r_14 = 0 := h_14.trans (by decide)
    refine lv_if_ne (tgt := 22) hx hb dX6_hold_17 (by decide) (fun c9 => absurd (by decide) c9) (fun _ => ?_)
    refine lv_iconst (v := 0) hx hb dX6_hold_20 (by decide) ?_
    exact MI.zret hx hb hr hlocks hK hP hD hS dX6_hold_21 rfl (by exact Or.inl (rf_ (cif_f h_3) (by decide)))
set_option maxRecDepth 20000 in
theorem in_X6_delay_X6 : ∀ w ∈ wsX60, w ∈ wsX6_delay := by decide +kernel
set_option maxHeartbeats 4000000 in
set_option maxRecDepth 100000 in
/-- the reference: delay -/
theorem c_X6_delay (l : Launch) (D : va_G) (cI cZ : ClassId) (a : Nat → Nat) (sz : Nat) (σ : St) (t mm : Int32) (n : Nat) (hn : σ 3 0 = nI n) (hn4 : n ≤ 4) : MI l yX6_delay wsX6_delay ({ frames := 2, cells := 0, slots := 0, locals := 43 }) D (ty2 cI cZ) (wM cI cZ a) [.ref (a 0), .int t, .int mm] σ sz (fun r u => (¬ cdDelay σ n t mm = 0 ∧ u = (va_up σ 34 (fun _ => cdDelay σ n t mm))) ∨ (cdDelay σ n t mm = 0 ∧ u = (va_up (va_up σ 7 (upd (σ 7) t.toNatClampNeg (σ 7 t.toNatClampNeg + mm))) 34 (fun _ => 0)) ∧ r = σ 7 t.toNatClampNeg + mm)) := by
  refine MI.of (cc := cX6_delay) (maxL := 3) (by decide) rfl (Nat.le_of_ble_eq_true rfl) ?_
  intro p e s m args below meth c A H locs ls hx hb hr hml hown hts hlocks hA hS hP hK hD hl
  have hl : lv_has ls 3 [(0, .ref (a 0)), (1, .int t), (2, .int mm)] := hl
  refine lv_aload_n hx hb dX6_delay_0 rfl (lv_at hl 0 rfl) ?_
  refine lv_aload_n hx hb dX6_delay_1 rfl (lv_at hl 0 rfl) ?_
  refine lv_iload_n hx hb dX6_delay_2 rfl (lv_at hl 1 rfl) ?_
  refine MI.callV (As := [.int t]) (rest := [.ref (a 0)]) ⟨hx, hb, hml, hown, hts⟩ (c_X6_isTrain l D cI cZ a H.size σ t n hn hn4) (cwV 1 hts gX6_delay_X6_isTrain rfl rfl rfl (by decide +kernel) ⟨Nat.le_of_ble_eq_true rfl, Nat.le_of_ble_eq_true rfl⟩) hP hK hD hS hA (va_recv hK hP (ci := 6) (q0 := 0) rfl rfl) rfl hl.1 (Nat.le_of_ble_eq_true rfl) (Nat.zero_le _) (Nat.zero_le _) dX6_delay_3 rfl (fun r_3 u_3 H locs h_3 hP hD hS => ?_)
  rcases h_3 with ⟨e_3, ⟨rfl, h_3⟩ | ⟨rfl, h_3⟩⟩
  · skip
    have e_3 := Eq.symm e_3
    subst e_3
    have h_3 : tr n t := h_3
    refine lv_if_ne (tgt := 13) hx hb dX6_delay_6 (by decide) (fun _ => ?_) (fun c9 => absurd c9 (by decide))
    obtain ⟨k, hk, rfl⟩ := id h_3
    refine lv_iload_n hx hb dX6_delay_13 rfl (lv_at hl 2 rfl) ?_
    refine lv_iconst (v := 1) hx hb dX6_delay_14 (by decide) ?_
    refine lv_bipush (v := 100) hx hb dX6_delay_15 (by decide) ?_
    refine MI.callS (As := [.int mm, .int 1, .int 100]) (rest := [.ref (a 0)]) ⟨hx, hb, hml, hown, hts⟩ (c_X6_in l D cI cZ a H.size σ mm 1 100) (va_cwS 3 hts gX6_delay_X6_in rfl rfl rfl (by decide +kernel) ⟨Nat.le_of_ble_eq_true rfl, Nat.le_of_ble_eq_true rfl⟩) hP hK hD hS hA rfl hl.1 (Nat.le_of_ble_eq_true rfl) (Nat.zero_le _) (Nat.zero_le _) dX6_delay_17 rfl (fun r_17 u_17 H locs h_17 hP hD hS => ?_)
    rcases h_17 with ⟨e_17, ⟨rfl, h_17⟩ | ⟨rfl, h_17⟩⟩
    · skip
      have e_17 := Eq.symm e_17
      subst e_17
      have h_17 : inR mm 1 100 := h_17
      refine lv_if_eq (tgt := 37) hx hb dX6_delay_20 (by decide) (fun c9 => absurd c9 (by decide)) (fun _ => ?_)
      refine lv_aload_n hx hb dX6_delay_23 rfl (lv_at hl 0 rfl) ?_
      refine va_get (D := D) (ci := 6) (v := .ref (a 4)) (C := RX6) (T := TX6) (N := 26) hx hb hts in_X6_delay_X6 hown hK hP 0 rfl rfl 6 (by decide) (hts (.fieldLink RX6 20 "WarpyardModel" "delays" "[I") (by decide +kernel)) (fun _ h9 => h9) rfl dX6_delay_24 ?_
      refine lv_iload_n hx hb dX6_delay_27 rfl (lv_at hl 1 rfl) ?_
      refine na_iald hx hb hK hP 4 0 (f := (σ 7)) rfl rfl k (by omega) (by decide) rfl dX6_delay_28 ?_
      refine lv_iload_n hx hb dX6_delay_29 rfl (lv_at hl 2 rfl) ?_
      refine lv_iadd hx hb dX6_delay_30 ?_
      refine lv_sipush (v := 1000) hx hb dX6_delay_31 (by decide) ?_
      refine lv_icmp_le (tgt := 41) hx hb dX6_delay_34 (by decide) (fun c_34 => ?_) (fun c_34 => ?_)
      · skip
        refine lv_iconst (v := 0) hx hb dX6_delay_41 (by decide) ?_
        refine MI.callV (As := [.int 0]) (rest := []) ⟨hx, hb, hml, hown, hts⟩ (c_X6_holds l D cI cZ a H.size σ 0) (cwV 1 hts gX6_delay_X6_holds rfl rfl rfl (by decide +kernel) ⟨Nat.le_of_ble_eq_true rfl, Nat.le_of_ble_eq_true rfl⟩) hP hK hD hS hA (va_recv hK hP (ci := 6) (q0 := 0) rfl rfl) rfl hl.1 (Nat.le_of_ble_eq_true rfl) (Nat.zero_le _) (Nat.zero_le _) dX6_delay_42 rfl (fun r_42 u_42 H locs h_42 hP hD hS => ?_)
        obtain ⟨e_42, h_42⟩ := h_42
        have e_42 := Eq.symm e_42
        subst e_42
        have hP : va_P D vwCl (wM cI cZ a (va_up σ 34 (fun _ => 0))) H := hP
        have hD : va_D A (wM cI cZ a (va_up σ 34 (fun _ => 0))) := hD
        obtain rfl : r_42 = 1 := h_42.trans (by decide)
        refine lv_if_ne (tgt := 50) hx hb dX6_delay_45 (by decide) (fun _ => ?_) (fun c9 => absurd c9 (by decide))
        refine lv_aload_n hx hb dX6_delay_50 rfl (lv_at hl 0 rfl) ?_
        refine va_get (D := D) (ci := 6) (v := .ref (a 4)) (C := RX6) (T := TX6) (N := 26) hx hb hts in_X6_delay_X6 hown hK hP 0 rfl rfl 6 (by decide) (hts (.fieldLink RX6 20 "WarpyardModel" "delays" "[I") (by decide +kernel)) (fun _ h9 => h9) rfl dX6_delay_51 ?_
        refine lv_iload_n hx hb dX6_delay_54 rfl (lv_at hl 1 rfl) ?_
        refine lv_dup2_11 hx hb dX6_delay_55 rfl rfl ?_
        refine na_iald hx hb hK hP 4 0 (f := (σ 7)) rfl rfl k (by omega) (by decide) rfl dX6_delay_56 ?_
        refine lv_iload_n hx hb dX6_delay_57 rfl (lv_at hl 2 rfl) ?_
        refine lv_iadd hx hb dX6_delay_58 ?_
        refine na_iast hx hb hK hP hD hS 4 0 (f := (σ 7)) (x := (σ 7 k) + mm) rfl rfl k (by omega) (by decide) rfl dX6_delay_59 (fun H locs hP hD hS => ?_)
        have hP : va_P D vwCl (wM cI cZ a (va_up (va_up σ 7 (upd (σ 7) k ((σ 7 k) + mm))) 34 (fun _ => 0))) H := hP
        have hD : va_D A (wM cI cZ a (va_up (va_up σ 7 (upd (σ 7) k ((σ 7 k) + mm))) 34 (fun _ => 0))) := hD
        refine lv_aload_n hx hb dX6_delay_60 rfl (lv_at hl 0 rfl) ?_
        refine va_get (D := D) (ci := 6) (v := .ref (a 4)) (C := RX6) (T := TX6) (N := 26) hx hb hts in_X6_delay_X6 hown hK hP 0 rfl rfl 6 (by decide) (hts (.fieldLink RX6 20 "WarpyardModel" "delays" "[I") (by decide +kernel)) (fun _ h9 => h9) rfl dX6_delay_61 ?_
        refine lv_iload_n hx hb dX6_delay_64 rfl (lv_at hl 1 rfl) ?_
        refine na_iald hx hb hK hP 4 0 (f := (upd (σ 7) k ((σ 7 k) + mm))) rfl rfl k (by omega) (by decide) rfl dX6_delay_65 ?_
        exact MI.ret hx hb hr hlocks hK hP hD hS dX6_delay_66 (by rw [nI_clamp (show k < 2 ^ 31 by omega)]; exact Or.inr ⟨by rw [cdDelay, cif_t h_3, cif_t h_17, nI_clamp (show k < 2 ^ 31 by omega), cif_t (le_nlt.mp c_34)], rfl, pk_us⟩)
      · skip
        refine lv_iconst (v := 2) hx hb dX6_delay_37 (by decide) ?_
        refine lv_goto (tgt := 42) hx hb dX6_delay_38 (by decide) ?_
        refine MI.callV (As := [.int 2]) (rest := []) ⟨hx, hb, hml, hown, hts⟩ (c_X6_holds l D cI cZ a H.size σ 2) (cwV 1 hts gX6_delay_X6_holds rfl rfl rfl (by decide +kernel) ⟨Nat.le_of_ble_eq_true rfl, Nat.le_of_ble_eq_true rfl⟩) hP hK hD hS hA (va_recv hK hP (ci := 6) (q0 := 0) rfl rfl) rfl hl.1 (Nat.le_of_ble_eq_true rfl) (Nat.zero_le _) (Nat.zero_le _) dX6_delay_42 rfl (fun r_42 u_42 H locs h_42 hP hD hS => ?_)
        obtain ⟨e_42, h_42⟩ := h_42
        have e_42 := Eq.symm e_42
        subst e_42
        have hP : va_P D vwCl (wM cI cZ a (va_up σ 34 (fun _ => 2))) H := hP
        have hD : va_D A (wM cI cZ a (va_up σ 34 (fun _ => 2))) := hD
        obtain rfl : r_42 = 0 := h_42.trans (by decide)
        refine lv_if_ne (tgt := 50) hx hb dX6_delay_45 (by decide) (fun c9 => absurd (by decide) c9) (fun _ => ?_)
        refine lv_iconst (v := 0) hx hb dX6_delay_48 (by decide) ?_
        exact MI.ret hx hb hr hlocks hK hP hD hS dX6_delay_49 (by exact Or.inl (rf_ (by rw [cdDelay, cif_t h_3, cif_t h_17, nI_clamp (show k < 2 ^ 31 by omega), cif_f (fun h => h (nle_lt c_34))]) (by decide)))
    · skip
      have e_17 := Eq.symm e_17
      subst e_17
      have h_17 : ¬ (inR mm 1 100) := h_17
      refine lv_if_eq (tgt := 37) hx hb dX6_delay_20 (by decide) (fun _ => ?_) (fun c9 => absurd (by decide) c9)
      refine lv_iconst (v := 2) hx hb dX6_delay_37 (by decide) ?_
      refine lv_goto (tgt := 42) hx hb dX6_delay_38 (by decide) ?_
      refine MI.callV (As := [.int 2]) (rest := []) ⟨hx, hb, hml, hown, hts⟩ (c_X6_holds l D cI cZ a H.size σ 2) (cwV 1 hts gX6_delay_X6_holds rfl rfl rfl (by decide +kernel) ⟨Nat.le_of_ble_eq_true rfl, Nat.le_of_ble_eq_true rfl⟩) hP hK hD hS hA (va_recv hK hP (ci := 6) (q0 := 0) rfl rfl) rfl hl.1 (Nat.le_of_ble_eq_true rfl) (Nat.zero_le _) (Nat.zero_le _) dX6_delay_42 rfl (fun r_42 u_42 H locs h_42 hP hD hS => ?_)
      obtain ⟨e_42, h_42⟩ := h_42
      have e_42 := Eq.symm e_42
      subst e_42
      have hP : va_P D vwCl (wM cI cZ a (va_up σ 34 (fun _ => 2))) H := hP
      have hD : va_D A (wM cI cZ a (va_up σ 34 (fun _ => 2))) := hD
      obtain rfl : r_42 = 0 := h_42.trans (by decide)
      refine lv_if_ne (tgt := 50) hx hb dX6_delay_45 (by decide) (fun c9 => absurd (by decide) c9) (fun _ => ?_)
      refine lv_iconst (v := 0) hx hb dX6_delay_48 (by decide) ?_
      exact MI.ret hx hb hr hlocks hK hP hD hS dX6_delay_49 (by exact Or.inl (rf_ (by rw [cdDelay, cif_t h_3, cif_f h_17]) (by decide)))
  · skip
    have e_3 := Eq.symm e_3
    subst e_3
    have h_3 : ¬ (tr n t) := h_3
    refine lv_if_ne (tgt := 13) hx hb dX6_delay_6 (by decide) (fun c9 => absurd (by decide) c9) (fun _ => ?_)
    refine lv_iconst (v := 1) hx hb dX6_delay_9 (by decide) ?_
    refine lv_goto (tgt := 42) hx hb dX6_delay_10 (by decide) ?_
    refine MI.callV (As := [.int 1]) (rest := []) ⟨hx, hb, hml, hown, hts⟩ (c_X6_holds l D cI cZ a H.size σ 1) (cwV 1 hts gX6_delay_X6_holds rfl rfl rfl (by decide +kernel) ⟨Nat.le_of_ble_eq_true rfl, Nat.le_of_ble_eq_true rfl⟩) hP hK hD hS hA (va_recv hK hP (ci := 6) (q0 := 0) rfl rfl) rfl hl.1 (Nat.le_of_ble_eq_true rfl) (Nat.zero_le _) (Nat.zero_le _) dX6_delay_42 rfl (fun r_42 u_42 H locs h_42 hP hD hS => ?_)
    obtain ⟨e_42, h_42⟩ := h_42
    have e_42 := Eq.symm e_42
    subst e_42
    have hP : va_P D vwCl (wM cI cZ a (va_up σ 34 (fun _ => 1))) H := hP
    have hD : va_D A (wM cI cZ a (va_up σ 34 (fun _ => 1))) := hD
    obtain rfl : r_42 = 0 := h_42.trans (by decide)
    refine lv_if_ne (tgt := 50) hx hb dX6_delay_45 (by decide) (fun c9 => absurd (by decide) c9) (fun _ => ?_)
    refine lv_iconst (v := 0) hx hb dX6_delay_48 (by decide) ?_
    exact MI.ret hx hb hr hlocks hK hP hD hS dX6_delay_49 (by exact Or.inl (rf_ (by rw [cdDelay, cif_f h_3]) (by decide)))
set_option maxRecDepth 20000 in
theorem in_X6_reverse_X6 : ∀ w ∈ wsX60, w ∈ wsX6_reverse := by decide +kernel
set_option maxHeartbeats 4000000 in
set_option maxRecDepth 100000 in
/-- the reference: reverse -/
theorem c_X6_reverse (l : Launch) (D : va_G) (cI cZ : ClassId) (a : Nat → Nat) (sz : Nat) (σ : St) (t : Int32) (n : Nat) (hn : σ 3 0 = nI n) (hn4 : n ≤ 4) : MI l yX6_reverse wsX6_reverse ({ frames := 2, cells := 0, slots := 0, locals := 43 }) D (ty2 cI cZ) (wM cI cZ a) [.ref (a 0), .int t] σ sz (fun r u => (¬ cdTr n t = 0 ∧ u = (va_up σ 34 (fun _ => cdTr n t))) ∨ (cdTr n t = 0 ∧ u = (va_up (va_up σ 5 (upd (σ 5) t.toNatClampNeg (fl (σ 5 t.toNatClampNeg)))) 34 (fun _ => 0)) ∧ r = fl (σ 5 t.toNatClampNeg))) := by
  refine MI.of (cc := cX6_reverse) (maxL := 2) (by decide) rfl (Nat.le_of_ble_eq_true rfl) ?_
  intro p e s m args below meth c A H locs ls hx hb hr hml hown hts hlocks hA hS hP hK hD hl
  have hl : lv_has ls 2 [(0, .ref (a 0)), (1, .int t)] := hl
  refine lv_aload_n hx hb dX6_reverse_0 rfl (lv_at hl 0 rfl) ?_
  refine lv_aload_n hx hb dX6_reverse_1 rfl (lv_at hl 0 rfl) ?_
  refine lv_iload_n hx hb dX6_reverse_2 rfl (lv_at hl 1 rfl) ?_
  refine MI.callV (As := [.int t]) (rest := [.ref (a 0)]) ⟨hx, hb, hml, hown, hts⟩ (c_X6_isTrain l D cI cZ a H.size σ t n hn hn4) (cwV 1 hts gX6_reverse_X6_isTrain rfl rfl rfl (by decide +kernel) ⟨Nat.le_of_ble_eq_true rfl, Nat.le_of_ble_eq_true rfl⟩) hP hK hD hS hA (va_recv hK hP (ci := 6) (q0 := 0) rfl rfl) rfl hl.1 (Nat.le_of_ble_eq_true rfl) (Nat.zero_le _) (Nat.zero_le _) dX6_reverse_3 rfl (fun r_3 u_3 H locs h_3 hP hD hS => ?_)
  rcases h_3 with ⟨e_3, ⟨rfl, h_3⟩ | ⟨rfl, h_3⟩⟩
  · skip
    have e_3 := Eq.symm e_3
    subst e_3
    have h_3 : tr n t := h_3
    refine lv_if_eq (tgt := 13) hx hb dX6_reverse_6 (by decide) (fun c9 => absurd c9 (by decide)) (fun _ => ?_)
    refine lv_iconst (v := 0) hx hb dX6_reverse_9 (by decide) ?_
    refine lv_goto (tgt := 14) hx hb dX6_reverse_10 (by decide) ?_
    refine MI.callV (As := [.int 0]) (rest := []) ⟨hx, hb, hml, hown, hts⟩ (c_X6_holds l D cI cZ a H.size σ 0) (cwV 1 hts gX6_reverse_X6_holds rfl rfl rfl (by decide +kernel) ⟨Nat.le_of_ble_eq_true rfl, Nat.le_of_ble_eq_true rfl⟩) hP hK hD hS hA (va_recv hK hP (ci := 6) (q0 := 0) rfl rfl) rfl hl.1 (Nat.le_of_ble_eq_true rfl) (Nat.zero_le _) (Nat.zero_le _) dX6_reverse_14 rfl (fun r_14 u_14 H locs h_14 hP hD hS => ?_)
    obtain ⟨e_14, h_14⟩ := h_14
    have e_14 := Eq.symm e_14
    subst e_14
    have hP : va_P D vwCl (wM cI cZ a (va_up σ 34 (fun _ => 0))) H := hP
    have hD : va_D A (wM cI cZ a (va_up σ 34 (fun _ => 0))) := hD
    obtain rfl : r_14 = 1 := h_14.trans (by decide)
    refine lv_if_ne (tgt := 22) hx hb dX6_reverse_17 (by decide) (fun _ => ?_) (fun c9 => absurd c9 (by decide))
    obtain ⟨k, hk, rfl⟩ := id h_3
    refine lv_aload_n hx hb dX6_reverse_22 rfl (lv_at hl 0 rfl) ?_
    refine va_get (D := D) (ci := 6) (v := .ref (a 2)) (C := RX6) (T := TX6) (N := 26) hx hb hts in_X6_reverse_X6 hown hK hP 0 rfl rfl 4 (by decide) (hts (.fieldLink RX6 13 "WarpyardModel" "areRight" "[Z") (by decide +kernel)) (fun _ h9 => h9) rfl dX6_reverse_23 ?_
    refine lv_iload_n hx hb dX6_reverse_26 rfl (lv_at hl 1 rfl) ?_
    refine lv_aload_n hx hb dX6_reverse_27 rfl (lv_at hl 0 rfl) ?_
    refine va_get (D := D) (ci := 6) (v := .ref (a 2)) (C := RX6) (T := TX6) (N := 26) hx hb hts in_X6_reverse_X6 hown hK hP 0 rfl rfl 4 (by decide) (hts (.fieldLink RX6 13 "WarpyardModel" "areRight" "[Z") (by decide +kernel)) (fun _ h9 => h9) rfl dX6_reverse_28 ?_
    refine lv_iload_n hx hb dX6_reverse_31 rfl (lv_at hl 1 rfl) ?_
    refine na_zald hx hb hK hP 2 1 (f := (σ 5)) rfl rfl k (by omega) (by decide) rfl dX6_reverse_32 ?_
    refine lv_if_ne (tgt := 40) hx hb dX6_reverse_33 (by decide) (fun c_33 => ?_) (fun c_33 => ?_)
    · skip
      refine lv_iconst (v := 0) hx hb dX6_reverse_40 (by decide) ?_
      refine na_zast hx hb hK hP hD hS 2 1 (f := (σ 5)) (x := 0) rfl rfl k (by omega) (by decide) rfl (Or.inl rfl) dX6_reverse_41 (fun H locs hP hD hS => ?_)
      have hP : va_P D vwCl (wM cI cZ a (va_up (va_up σ 5 (upd (σ 5) k 0)) 34 (fun _ => 0))) H := hP
      have hD : va_D A (wM cI cZ a (va_up (va_up σ 5 (upd (σ 5) k 0)) 34 (fun _ => 0))) := hD
      refine lv_aload_n hx hb dX6_reverse_42 rfl (lv_at hl 0 rfl) ?_
      refine va_get (D := D) (ci := 6) (v := .ref (a 2)) (C := RX6) (T := TX6) (N := 26) hx hb hts in_X6_reverse_X6 hown hK hP 0 rfl rfl 4 (by decide) (hts (.fieldLink RX6 13 "WarpyardModel" "areRight" "[Z") (by decide +kernel)) (fun _ h9 => h9) rfl dX6_reverse_43 ?_
      refine lv_iload_n hx hb dX6_reverse_46 rfl (lv_at hl 1 rfl) ?_
      refine na_zald hx hb hK hP 2 1 (f := (upd (σ 5) k 0)) rfl rfl k (by omega) (by decide) rfl dX6_reverse_47 ?_
      exact MI.zret hx hb hr hlocks hK hP hD hS dX6_reverse_48 (nar_b (by rw [pk_us]; decide)) (by rw [nI_clamp (show k < 2 ^ 31 by omega), fl_1 c_33]; exact Or.inr ⟨cif_t h_3, rfl, pk_us⟩)
    · skip
      refine lv_iconst (v := 1) hx hb dX6_reverse_36 (by decide) ?_
      refine lv_goto (tgt := 41) hx hb dX6_reverse_37 (by decide) ?_
      refine na_zast hx hb hK hP hD hS 2 1 (f := (σ 5)) (x := 1) rfl rfl k (by omega) (by decide) rfl (Or.inr rfl) dX6_reverse_41 (fun H locs hP hD hS => ?_)
      have hP : va_P D vwCl (wM cI cZ a (va_up (va_up σ 5 (upd (σ 5) k 1)) 34 (fun _ => 0))) H := hP
      have hD : va_D A (wM cI cZ a (va_up (va_up σ 5 (upd (σ 5) k 1)) 34 (fun _ => 0))) := hD
      refine lv_aload_n hx hb dX6_reverse_42 rfl (lv_at hl 0 rfl) ?_
      refine va_get (D := D) (ci := 6) (v := .ref (a 2)) (C := RX6) (T := TX6) (N := 26) hx hb hts in_X6_reverse_X6 hown hK hP 0 rfl rfl 4 (by decide) (hts (.fieldLink RX6 13 "WarpyardModel" "areRight" "[Z") (by decide +kernel)) (fun _ h9 => h9) rfl dX6_reverse_43 ?_
      refine lv_iload_n hx hb dX6_reverse_46 rfl (lv_at hl 1 rfl) ?_
      refine na_zald hx hb hK hP 2 1 (f := (upd (σ 5) k 1)) rfl rfl k (by omega) (by decide) rfl dX6_reverse_47 ?_
      exact MI.zret hx hb hr hlocks hK hP hD hS dX6_reverse_48 (nar_b (by rw [pk_us]; decide)) (by rw [nI_clamp (show k < 2 ^ 31 by omega), fl_0 c_33]; exact Or.inr ⟨cif_t h_3, rfl, pk_us⟩)
  · skip
    have e_3 := Eq.symm e_3
    subst e_3
    have h_3 : ¬ (tr n t) := h_3
    refine lv_if_eq (tgt := 13) hx hb dX6_reverse_6 (by decide) (fun _ => ?_) (fun c9 => absurd (by decide) c9)
    refine lv_iconst (v := 1) hx hb dX6_reverse_13 (by decide) ?_
    refine MI.callV (As := [.int 1]) (rest := []) ⟨hx, hb, hml, hown, hts⟩ (c_X6_holds l D cI cZ a H.size σ 1) (cwV 1 hts gX6_reverse_X6_holds rfl rfl rfl (by decide +kernel) ⟨Nat.le_of_ble_eq_true rfl, Nat.le_of_ble_eq_true rfl⟩) hP hK hD hS hA (va_recv hK hP (ci := 6) (q0 := 0) rfl rfl) rfl hl.1 (Nat.le_of_ble_eq_true rfl) (Nat.zero_le _) (Nat.zero_le _) dX6_reverse_14 rfl (fun r_14 u_14 H locs h_14 hP hD hS => ?_)
    obtain ⟨e_14, h_14⟩ := h_14
    have e_14 := Eq.symm e_14
    subst e_14
    have hP : va_P D vwCl (wM cI cZ a (va_up σ 34 (fun _ => 1))) H := hP
    have hD : va_D A (wM cI cZ a (va_up σ 34 (fun _ => 1))) := hD
    obtain rfl : r_14 = 0 := h_14.trans (by decide)
    refine lv_if_ne (tgt := 22) hx hb dX6_reverse_17 (by decide) (fun c9 => absurd (by decide) c9) (fun _ => ?_)
    refine lv_iconst (v := 0) hx hb dX6_reverse_20 (by decide) ?_
    exact MI.zret hx hb hr hlocks hK hP hD hS dX6_reverse_21 rfl (by exact Or.inl (rf_ (cif_f h_3) (by decide)))
set_option maxRecDepth 20000 in
theorem in_X6_throwSwitch_X6 : ∀ w ∈ wsX60, w ∈ wsX6_throwSwitch := by decide +kernel
set_option maxHeartbeats 4000000 in
set_option maxRecDepth 100000 in
/-- the reference: throwSwitch -/
theorem c_X6_throwSwitch (l : Launch) (D : va_G) (cI cZ : ClassId) (a : Nat → Nat) (sz : Nat) (σ : St) (v : Int32) : MI l yX6_throwSwitch wsX6_throwSwitch ({ frames := 1, cells := 0, slots := 0, locals := 22 }) D (ty2 cI cZ) (wM cI cZ a) [.ref (a 0), .int v] σ sz (fun r u => (¬ cdSw v = 0 ∧ u = (va_up σ 34 (fun _ => cdSw v))) ∨ (cdSw v = 0 ∧ u = (va_up (va_up σ 2 (upd (σ 2) v.toNatClampNeg (fl (σ 2 v.toNatClampNeg)))) 34 (fun _ => 0)) ∧ r = fl (σ 2 v.toNatClampNeg))) := by
  refine MI.of (cc := cX6_throwSwitch) (maxL := 2) (by decide) rfl (Nat.le_of_ble_eq_true rfl) ?_
  intro p e s m args below meth c A H locs ls hx hb hr hml hown hts hlocks hA hS hP hK hD hl
  have hl : lv_has ls 2 [(0, .ref (a 0)), (1, .int v)] := hl
  refine lv_aload_n hx hb dX6_throwSwitch_0 rfl (lv_at hl 0 rfl) ?_
  refine lv_iload_n hx hb dX6_throwSwitch_1 rfl (lv_at hl 1 rfl) ?_
  refine lv_iconst (v := 0) hx hb dX6_throwSwitch_2 (by decide) ?_
  refine lv_iconst (v := 1) hx hb dX6_throwSwitch_3 (by decide) ?_
  refine MI.callS (As := [.int v, .int 0, .int 1]) (rest := [.ref (a 0)]) ⟨hx, hb, hml, hown, hts⟩ (c_X6_in l D cI cZ a H.size σ v 0 1) (va_cwS 3 hts gX6_throwSwitch_X6_in rfl rfl rfl (by decide +kernel) ⟨Nat.le_of_ble_eq_true rfl, Nat.le_of_ble_eq_true rfl⟩) hP hK hD hS hA rfl hl.1 (Nat.le_of_ble_eq_true rfl) (Nat.zero_le _) (Nat.zero_le _) dX6_throwSwitch_4 rfl (fun r_4 u_4 H locs h_4 hP hD hS => ?_)
  rcases h_4 with ⟨e_4, ⟨rfl, h_4⟩ | ⟨rfl, h_4⟩⟩
  · skip
    have e_4 := Eq.symm e_4
    subst e_4
    have h_4 : inR v 0 1 := h_4
    refine lv_if_eq (tgt := 14) hx hb dX6_throwSwitch_7 (by decide) (fun c9 => absurd c9 (by decide)) (fun _ => ?_)
    refine lv_iconst (v := 0) hx hb dX6_throwSwitch_10 (by decide) ?_
    refine lv_goto (tgt := 15) hx hb dX6_throwSwitch_11 (by decide) ?_
    refine MI.callV (As := [.int 0]) (rest := []) ⟨hx, hb, hml, hown, hts⟩ (c_X6_holds l D cI cZ a H.size σ 0) (cwV 1 hts gX6_throwSwitch_X6_holds rfl rfl rfl (by decide +kernel) ⟨Nat.le_of_ble_eq_true rfl, Nat.le_of_ble_eq_true rfl⟩) hP hK hD hS hA (va_recv hK hP (ci := 6) (q0 := 0) rfl rfl) rfl hl.1 (Nat.le_of_ble_eq_true rfl) (Nat.zero_le _) (Nat.zero_le _) dX6_throwSwitch_15 rfl (fun r_15 u_15 H locs h_15 hP hD hS => ?_)
    obtain ⟨e_15, h_15⟩ := h_15
    have e_15 := Eq.symm e_15
    subst e_15
    have hP : va_P D vwCl (wM cI cZ a (va_up σ 34 (fun _ => 0))) H := hP
    have hD : va_D A (wM cI cZ a (va_up σ 34 (fun _ => 0))) := hD
    obtain rfl : r_15 = 1 := h_15.trans (by decide)
    refine lv_if_ne (tgt := 23) hx hb dX6_throwSwitch_18 (by decide) (fun _ => ?_) (fun c9 => absurd c9 (by decide))
    obtain ⟨k, hk, rfl⟩ := sw_k h_4.1 ((lt_suc (by decide)).mpr h_4.2)
    refine lv_aload_n hx hb dX6_throwSwitch_23 rfl (lv_at hl 0 rfl) ?_
    refine va_get (D := D) (ci := 6) (v := .ref (a 5)) (C := RX6) (T := TX6) (N := 26) hx hb hts in_X6_throwSwitch_X6 hown hK hP 0 rfl rfl 7 (by decide) (hts (.fieldLink RX6 23 "WarpyardModel" "areTurned" "[Z") (by decide +kernel)) (fun _ h9 => h9) rfl dX6_throwSwitch_24 ?_
    refine lv_iload_n hx hb dX6_throwSwitch_27 rfl (lv_at hl 1 rfl) ?_
    refine lv_aload_n hx hb dX6_throwSwitch_28 rfl (lv_at hl 0 rfl) ?_
    refine va_get (D := D) (ci := 6) (v := .ref (a 5)) (C := RX6) (T := TX6) (N := 26) hx hb hts in_X6_throwSwitch_X6 hown hK hP 0 rfl rfl 7 (by decide) (hts (.fieldLink RX6 23 "WarpyardModel" "areTurned" "[Z") (by decide +kernel)) (fun _ h9 => h9) rfl dX6_throwSwitch_29 ?_
    refine lv_iload_n hx hb dX6_throwSwitch_32 rfl (lv_at hl 1 rfl) ?_
    refine na_zald hx hb hK hP 5 1 (f := (σ 2)) rfl rfl k (by omega) (by decide) rfl dX6_throwSwitch_33 ?_
    refine lv_if_ne (tgt := 41) hx hb dX6_throwSwitch_34 (by decide) (fun c_34 => ?_) (fun c_34 => ?_)
    · skip
      refine lv_iconst (v := 0) hx hb dX6_throwSwitch_41 (by decide) ?_
      refine na_zast hx hb hK hP hD hS 5 1 (f := (σ 2)) (x := 0) rfl rfl k (by omega) (by decide) rfl (Or.inl rfl) dX6_throwSwitch_42 (fun H locs hP hD hS => ?_)
      have hP : va_P D vwCl (wM cI cZ a (va_up (va_up σ 2 (upd (σ 2) k 0)) 34 (fun _ => 0))) H := hP
      have hD : va_D A (wM cI cZ a (va_up (va_up σ 2 (upd (σ 2) k 0)) 34 (fun _ => 0))) := hD
      refine lv_aload_n hx hb dX6_throwSwitch_43 rfl (lv_at hl 0 rfl) ?_
      refine va_get (D := D) (ci := 6) (v := .ref (a 5)) (C := RX6) (T := TX6) (N := 26) hx hb hts in_X6_throwSwitch_X6 hown hK hP 0 rfl rfl 7 (by decide) (hts (.fieldLink RX6 23 "WarpyardModel" "areTurned" "[Z") (by decide +kernel)) (fun _ h9 => h9) rfl dX6_throwSwitch_44 ?_
      refine lv_iload_n hx hb dX6_throwSwitch_47 rfl (lv_at hl 1 rfl) ?_
      refine na_zald hx hb hK hP 5 1 (f := (upd (σ 2) k 0)) rfl rfl k (by omega) (by decide) rfl dX6_throwSwitch_48 ?_
      exact MI.zret hx hb hr hlocks hK hP hD hS dX6_throwSwitch_49 (nar_b (by rw [pk_us]; decide)) (by rw [nI_clamp (show k < 2 ^ 31 by omega), fl_1 c_34]; exact Or.inr ⟨cif_t h_4, rfl, pk_us⟩)
    · skip
      refine lv_iconst (v := 1) hx hb dX6_throwSwitch_37 (by decide) ?_
      refine lv_goto (tgt := 42) hx hb dX6_throwSwitch_38 (by decide) ?_
      refine na_zast hx hb hK hP hD hS 5 1 (f := (σ 2)) (x := 1) rfl rfl k (by omega) (by decide) rfl (Or.inr rfl) dX6_throwSwitch_42 (fun H locs hP hD hS => ?_)
      have hP : va_P D vwCl (wM cI cZ a (va_up (va_up σ 2 (upd (σ 2) k 1)) 34 (fun _ => 0))) H := hP
      have hD : va_D A (wM cI cZ a (va_up (va_up σ 2 (upd (σ 2) k 1)) 34 (fun _ => 0))) := hD
      refine lv_aload_n hx hb dX6_throwSwitch_43 rfl (lv_at hl 0 rfl) ?_
      refine va_get (D := D) (ci := 6) (v := .ref (a 5)) (C := RX6) (T := TX6) (N := 26) hx hb hts in_X6_throwSwitch_X6 hown hK hP 0 rfl rfl 7 (by decide) (hts (.fieldLink RX6 23 "WarpyardModel" "areTurned" "[Z") (by decide +kernel)) (fun _ h9 => h9) rfl dX6_throwSwitch_44 ?_
      refine lv_iload_n hx hb dX6_throwSwitch_47 rfl (lv_at hl 1 rfl) ?_
      refine na_zald hx hb hK hP 5 1 (f := (upd (σ 2) k 1)) rfl rfl k (by omega) (by decide) rfl dX6_throwSwitch_48 ?_
      exact MI.zret hx hb hr hlocks hK hP hD hS dX6_throwSwitch_49 (nar_b (by rw [pk_us]; decide)) (by rw [nI_clamp (show k < 2 ^ 31 by omega), fl_0 c_34]; exact Or.inr ⟨cif_t h_4, rfl, pk_us⟩)
  · skip
    have e_4 := Eq.symm e_4
    subst e_4
    have h_4 : ¬ (inR v 0 1) := h_4
    refine lv_if_eq (tgt := 14) hx hb dX6_throwSwitch_7 (by decide) (fun _ => ?_) (fun c9 => absurd (by decide) c9)
    refine lv_iconst (v := 1) hx hb dX6_throwSwitch_14 (by decide) ?_
    refine MI.callV (As := [.int 1]) (rest := []) ⟨hx, hb, hml, hown, hts⟩ (c_X6_holds l D cI cZ a H.size σ 1) (cwV 1 hts gX6_throwSwitch_X6_holds rfl rfl rfl (by decide +kernel) ⟨Nat.le_of_ble_eq_true rfl, Nat.le_of_ble_eq_true rfl⟩) hP hK hD hS hA (va_recv hK hP (ci := 6) (q0 := 0) rfl rfl) rfl hl.1 (Nat.le_of_ble_eq_true rfl) (Nat.zero_le _) (Nat.zero_le _) dX6_throwSwitch_15 rfl (fun r_15 u_15 H locs h_15 hP hD hS => ?_)
    obtain ⟨e_15, h_15⟩ := h_15
    have e_15 := Eq.symm e_15
    subst e_15
    have hP : va_P D vwCl (wM cI cZ a (va_up σ 34 (fun _ => 1))) H := hP
    have hD : va_D A (wM cI cZ a (va_up σ 34 (fun _ => 1))) := hD
    obtain rfl : r_15 = 0 := h_15.trans (by decide)
    refine lv_if_ne (tgt := 23) hx hb dX6_throwSwitch_18 (by decide) (fun c9 => absurd (by decide) c9) (fun _ => ?_)
    refine lv_iconst (v := 0) hx hb dX6_throwSwitch_21 (by decide) ?_
    exact MI.zret hx hb hr hlocks hK hP hD hS dX6_throwSwitch_22 rfl (by exact Or.inl (rf_ (cif_f h_4) (by decide)))
set_option maxRecDepth 20000 in
theorem in_X6_block_X6 : ∀ w ∈ wsX60, w ∈ wsX6_block := by decide +kernel
set_option maxHeartbeats 4000000 in
set_option maxRecDepth 100000 in
/-- the reference: block -/
theorem c_X6_block (l : Launch) (D : va_G) (cI cZ : ClassId) (a : Nat → Nat) (sz : Nat) (σ : St) (t : Int32) (n : Nat) (hn : σ 3 0 = nI n) (hn4 : n ≤ 4) : MI l yX6_block wsX6_block ({ frames := 2, cells := 0, slots := 0, locals := 43 }) D (ty2 cI cZ) (wM cI cZ a) [.ref (a 0), .int t] σ sz (fun r u => (¬ cdTr n t = 0 ∧ u = (va_up σ 34 (fun _ => cdTr n t))) ∨ (cdTr n t = 0 ∧ u = (va_up σ 34 (fun _ => 0)) ∧ r = σ 4 t.toNatClampNeg)) := by
  refine MI.of (cc := cX6_block) (maxL := 2) (by decide) rfl (Nat.le_of_ble_eq_true rfl) ?_
  intro p e s m args below meth c A H locs ls hx hb hr hml hown hts hlocks hA hS hP hK hD hl
  have hl : lv_has ls 2 [(0, .ref (a 0)), (1, .int t)] := hl
  refine lv_aload_n hx hb dX6_block_0 rfl (lv_at hl 0 rfl) ?_
  refine lv_aload_n hx hb dX6_block_1 rfl (lv_at hl 0 rfl) ?_
  refine lv_iload_n hx hb dX6_block_2 rfl (lv_at hl 1 rfl) ?_
  refine MI.callV (As := [.int t]) (rest := [.ref (a 0)]) ⟨hx, hb, hml, hown, hts⟩ (c_X6_isTrain l D cI cZ a H.size σ t n hn hn4) (cwV 1 hts gX6_block_X6_isTrain rfl rfl rfl (by decide +kernel) ⟨Nat.le_of_ble_eq_true rfl, Nat.le_of_ble_eq_true rfl⟩) hP hK hD hS hA (va_recv hK hP (ci := 6) (q0 := 0) rfl rfl) rfl hl.1 (Nat.le_of_ble_eq_true rfl) (Nat.zero_le _) (Nat.zero_le _) dX6_block_3 rfl (fun r_3 u_3 H locs h_3 hP hD hS => ?_)
  rcases h_3 with ⟨e_3, ⟨rfl, h_3⟩ | ⟨rfl, h_3⟩⟩
  · skip
    have e_3 := Eq.symm e_3
    subst e_3
    have h_3 : tr n t := h_3
    refine lv_if_eq (tgt := 13) hx hb dX6_block_6 (by decide) (fun c9 => absurd c9 (by decide)) (fun _ => ?_)
    refine lv_iconst (v := 0) hx hb dX6_block_9 (by decide) ?_
    refine lv_goto (tgt := 14) hx hb dX6_block_10 (by decide) ?_
    refine MI.callV (As := [.int 0]) (rest := []) ⟨hx, hb, hml, hown, hts⟩ (c_X6_holds l D cI cZ a H.size σ 0) (cwV 1 hts gX6_block_X6_holds rfl rfl rfl (by decide +kernel) ⟨Nat.le_of_ble_eq_true rfl, Nat.le_of_ble_eq_true rfl⟩) hP hK hD hS hA (va_recv hK hP (ci := 6) (q0 := 0) rfl rfl) rfl hl.1 (Nat.le_of_ble_eq_true rfl) (Nat.zero_le _) (Nat.zero_le _) dX6_block_14 rfl (fun r_14 u_14 H locs h_14 hP hD hS => ?_)
    obtain ⟨e_14, h_14⟩ := h_14
    have e_14 := Eq.symm e_14
    subst e_14
    have hP : va_P D vwCl (wM cI cZ a (va_up σ 34 (fun _ => 0))) H := hP
    have hD : va_D A (wM cI cZ a (va_up σ 34 (fun _ => 0))) := hD
    obtain rfl : r_14 = 1 := h_14.trans (by decide)
    refine lv_if_eq (tgt := 29) hx hb dX6_block_17 (by decide) (fun c9 => absurd c9 (by decide)) (fun _ => ?_)
    obtain ⟨k, hk, rfl⟩ := id h_3
    refine lv_aload_n hx hb dX6_block_20 rfl (lv_at hl 0 rfl) ?_
    refine va_get (D := D) (ci := 6) (v := .ref (a 1)) (C := RX6) (T := TX6) (N := 26) hx hb hts in_X6_block_X6 hown hK hP 0 rfl rfl 3 (by decide) (hts (.fieldLink RX6 7 "WarpyardModel" "blocks" "[I") (by decide +kernel)) (fun _ h9 => h9) rfl dX6_block_21 ?_
    refine lv_iload_n hx hb dX6_block_24 rfl (lv_at hl 1 rfl) ?_
    refine na_iald hx hb hK hP 1 0 (f := (σ 4)) rfl rfl k (by omega) (by decide) rfl dX6_block_25 ?_
    refine lv_goto (tgt := 30) hx hb dX6_block_26 (by decide) ?_
    exact MI.ret hx hb hr hlocks hK hP hD hS dX6_block_30 (by rw [nI_clamp (show k < 2 ^ 31 by omega)]; exact Or.inr ⟨cif_t h_3, rfl, rfl⟩)
  · skip
    have e_3 := Eq.symm e_3
    subst e_3
    have h_3 : ¬ (tr n t) := h_3
    refine lv_if_eq (tgt := 13) hx hb dX6_block_6 (by decide) (fun _ => ?_) (fun c9 => absurd (by decide) c9)
    refine lv_iconst (v := 1) hx hb dX6_block_13 (by decide) ?_
    refine MI.callV (As := [.int 1]) (rest := []) ⟨hx, hb, hml, hown, hts⟩ (c_X6_holds l D cI cZ a H.size σ 1) (cwV 1 hts gX6_block_X6_holds rfl rfl rfl (by decide +kernel) ⟨Nat.le_of_ble_eq_true rfl, Nat.le_of_ble_eq_true rfl⟩) hP hK hD hS hA (va_recv hK hP (ci := 6) (q0 := 0) rfl rfl) rfl hl.1 (Nat.le_of_ble_eq_true rfl) (Nat.zero_le _) (Nat.zero_le _) dX6_block_14 rfl (fun r_14 u_14 H locs h_14 hP hD hS => ?_)
    obtain ⟨e_14, h_14⟩ := h_14
    have e_14 := Eq.symm e_14
    subst e_14
    have hP : va_P D vwCl (wM cI cZ a (va_up σ 34 (fun _ => 1))) H := hP
    have hD : va_D A (wM cI cZ a (va_up σ 34 (fun _ => 1))) := hD
    obtain rfl : r_14 = 0 := h_14.trans (by decide)
    refine lv_if_eq (tgt := 29) hx hb dX6_block_17 (by decide) (fun _ => ?_) (fun c9 => absurd (by decide) c9)
    refine lv_iconst (v := 0) hx hb dX6_block_29 (by decide) ?_
    exact MI.ret hx hb hr hlocks hK hP hD hS dX6_block_30 (by exact Or.inl (rf_ (cif_f h_3) (by decide)))
set_option maxRecDepth 20000 in
theorem in_X6_isRight_X6 : ∀ w ∈ wsX60, w ∈ wsX6_isRight := by decide +kernel
set_option maxHeartbeats 4000000 in
set_option maxRecDepth 100000 in
/-- the reference: isRight -/
theorem c_X6_isRight (l : Launch) (D : va_G) (cI cZ : ClassId) (a : Nat → Nat) (sz : Nat) (σ : St) (t : Int32) (n : Nat) (hn : σ 3 0 = nI n) (hn4 : n ≤ 4) (hR : ∀ i, i < 4 → σ 5 i = 0 ∨ σ 5 i = 1) : MI l yX6_isRight wsX6_isRight ({ frames := 2, cells := 0, slots := 0, locals := 43 }) D (ty2 cI cZ) (wM cI cZ a) [.ref (a 0), .int t] σ sz (fun r u => (¬ cdTr n t = 0 ∧ u = (va_up σ 34 (fun _ => cdTr n t))) ∨ (cdTr n t = 0 ∧ u = (va_up σ 34 (fun _ => 0)) ∧ r = σ 5 t.toNatClampNeg)) := by
  refine MI.of (cc := cX6_isRight) (maxL := 2) (by decide) rfl (Nat.le_of_ble_eq_true rfl) ?_
  intro p e s m args below meth c A H locs ls hx hb hr hml hown hts hlocks hA hS hP hK hD hl
  have hl : lv_has ls 2 [(0, .ref (a 0)), (1, .int t)] := hl
  refine lv_aload_n hx hb dX6_isRight_0 rfl (lv_at hl 0 rfl) ?_
  refine lv_aload_n hx hb dX6_isRight_1 rfl (lv_at hl 0 rfl) ?_
  refine lv_iload_n hx hb dX6_isRight_2 rfl (lv_at hl 1 rfl) ?_
  refine MI.callV (As := [.int t]) (rest := [.ref (a 0)]) ⟨hx, hb, hml, hown, hts⟩ (c_X6_isTrain l D cI cZ a H.size σ t n hn hn4) (cwV 1 hts gX6_isRight_X6_isTrain rfl rfl rfl (by decide +kernel) ⟨Nat.le_of_ble_eq_true rfl, Nat.le_of_ble_eq_true rfl⟩) hP hK hD hS hA (va_recv hK hP (ci := 6) (q0 := 0) rfl rfl) rfl hl.1 (Nat.le_of_ble_eq_true rfl) (Nat.zero_le _) (Nat.zero_le _) dX6_isRight_3 rfl (fun r_3 u_3 H locs h_3 hP hD hS => ?_)
  rcases h_3 with ⟨e_3, ⟨rfl, h_3⟩ | ⟨rfl, h_3⟩⟩
  · skip
    have e_3 := Eq.symm e_3
    subst e_3
    have h_3 : tr n t := h_3
    refine lv_if_eq (tgt := 13) hx hb dX6_isRight_6 (by decide) (fun c9 => absurd c9 (by decide)) (fun _ => ?_)
    refine lv_iconst (v := 0) hx hb dX6_isRight_9 (by decide) ?_
    refine lv_goto (tgt := 14) hx hb dX6_isRight_10 (by decide) ?_
    refine MI.callV (As := [.int 0]) (rest := []) ⟨hx, hb, hml, hown, hts⟩ (c_X6_holds l D cI cZ a H.size σ 0) (cwV 1 hts gX6_isRight_X6_holds rfl rfl rfl (by decide +kernel) ⟨Nat.le_of_ble_eq_true rfl, Nat.le_of_ble_eq_true rfl⟩) hP hK hD hS hA (va_recv hK hP (ci := 6) (q0 := 0) rfl rfl) rfl hl.1 (Nat.le_of_ble_eq_true rfl) (Nat.zero_le _) (Nat.zero_le _) dX6_isRight_14 rfl (fun r_14 u_14 H locs h_14 hP hD hS => ?_)
    obtain ⟨e_14, h_14⟩ := h_14
    have e_14 := Eq.symm e_14
    subst e_14
    have hP : va_P D vwCl (wM cI cZ a (va_up σ 34 (fun _ => 0))) H := hP
    have hD : va_D A (wM cI cZ a (va_up σ 34 (fun _ => 0))) := hD
    obtain rfl : r_14 = 1 := h_14.trans (by decide)
    refine lv_if_eq (tgt := 33) hx hb dX6_isRight_17 (by decide) (fun c9 => absurd c9 (by decide)) (fun _ => ?_)
    obtain ⟨k, hk, rfl⟩ := id h_3
    refine lv_aload_n hx hb dX6_isRight_20 rfl (lv_at hl 0 rfl) ?_
    refine va_get (D := D) (ci := 6) (v := .ref (a 2)) (C := RX6) (T := TX6) (N := 26) hx hb hts in_X6_isRight_X6 hown hK hP 0 rfl rfl 4 (by decide) (hts (.fieldLink RX6 13 "WarpyardModel" "areRight" "[Z") (by decide +kernel)) (fun _ h9 => h9) rfl dX6_isRight_21 ?_
    refine lv_iload_n hx hb dX6_isRight_24 rfl (lv_at hl 1 rfl) ?_
    refine na_zald hx hb hK hP 2 1 (f := (σ 5)) rfl rfl k (by omega) (by decide) rfl dX6_isRight_25 ?_
    refine lv_if_eq (tgt := 33) hx hb dX6_isRight_26 (by decide) (fun c_26 => ?_) (fun c_26 => ?_)
    · skip
      refine lv_iconst (v := 0) hx hb dX6_isRight_33 (by decide) ?_
      exact MI.zret hx hb hr hlocks hK hP hD hS dX6_isRight_34 rfl (by rw [nI_clamp (show k < 2 ^ 31 by omega)]; exact Or.inr ⟨cif_t h_3, rfl, c_26.symm⟩)
    · skip
      refine lv_iconst (v := 1) hx hb dX6_isRight_29 (by decide) ?_
      refine lv_goto (tgt := 34) hx hb dX6_isRight_30 (by decide) ?_
      exact MI.zret hx hb hr hlocks hK hP hD hS dX6_isRight_34 rfl (by rw [nI_clamp (show k < 2 ^ 31 by omega)]; exact Or.inr ⟨cif_t h_3, rfl, ((hR k (by omega)).resolve_left c_26).symm⟩)
  · skip
    have e_3 := Eq.symm e_3
    subst e_3
    have h_3 : ¬ (tr n t) := h_3
    refine lv_if_eq (tgt := 13) hx hb dX6_isRight_6 (by decide) (fun _ => ?_) (fun c9 => absurd (by decide) c9)
    refine lv_iconst (v := 1) hx hb dX6_isRight_13 (by decide) ?_
    refine MI.callV (As := [.int 1]) (rest := []) ⟨hx, hb, hml, hown, hts⟩ (c_X6_holds l D cI cZ a H.size σ 1) (cwV 1 hts gX6_isRight_X6_holds rfl rfl rfl (by decide +kernel) ⟨Nat.le_of_ble_eq_true rfl, Nat.le_of_ble_eq_true rfl⟩) hP hK hD hS hA (va_recv hK hP (ci := 6) (q0 := 0) rfl rfl) rfl hl.1 (Nat.le_of_ble_eq_true rfl) (Nat.zero_le _) (Nat.zero_le _) dX6_isRight_14 rfl (fun r_14 u_14 H locs h_14 hP hD hS => ?_)
    obtain ⟨e_14, h_14⟩ := h_14
    have e_14 := Eq.symm e_14
    subst e_14
    have hP : va_P D vwCl (wM cI cZ a (va_up σ 34 (fun _ => 1))) H := hP
    have hD : va_D A (wM cI cZ a (va_up σ 34 (fun _ => 1))) := hD
    obtain rfl : r_14 = 0 := h_14.trans (by decide)
    refine lv_if_eq (tgt := 33) hx hb dX6_isRight_17 (by decide) (fun _ => ?_) (fun c9 => absurd (by decide) c9)
    refine lv_iconst (v := 0) hx hb dX6_isRight_33 (by decide) ?_
    exact MI.zret hx hb hr hlocks hK hP hD hS dX6_isRight_34 rfl (by exact Or.inl (rf_ (cif_f h_3) (by decide)))
set_option maxHeartbeats 4000000 in
set_option maxRecDepth 100000 in
/-- the reference: trainOn -/
theorem c_X6_trainOn (l : Launch) (D : va_G) (cI cZ : ClassId) (a : Nat → Nat) (sz : Nat) (σ : St) (b : Int32) (n : Nat) (hn : σ 3 0 = nI n) (hn4 : n ≤ 4) : MI l yX6_trainOn wsX6_trainOn ({ frames := 2, cells := 0, slots := 0, locals := 42 }) D (ty2 cI cZ) (wM cI cZ a) [.ref (a 0), .int b] σ sz (fun r u => (¬ cdBl b = 0 ∧ u = (va_up σ 34 (fun _ => cdBl b))) ∨ (cdBl b = 0 ∧ u = (va_up σ 34 (fun _ => 0)) ∧ r = so (σ 4) b n)) := by
  refine MI.of (cc := cX6_trainOn) (maxL := 2) (by decide) rfl (Nat.le_of_ble_eq_true rfl) ?_
  intro p e s m args below meth c A H locs ls hx hb hr hml hown hts hlocks hA hS hP hK hD hl
  have hl : lv_has ls 2 [(0, .ref (a 0)), (1, .int b)] := hl
  refine lv_aload_n hx hb dX6_trainOn_0 rfl (lv_at hl 0 rfl) ?_
  refine lv_iload_n hx hb dX6_trainOn_1 rfl (lv_at hl 1 rfl) ?_
  refine MI.callS (As := [.int b]) (rest := [.ref (a 0)]) ⟨hx, hb, hml, hown, hts⟩ (c_X6_isBlock l D cI cZ a H.size σ b) (va_cwS 1 hts gX6_trainOn_X6_isBlock rfl rfl rfl (by decide +kernel) ⟨Nat.le_of_ble_eq_true rfl, Nat.le_of_ble_eq_true rfl⟩) hP hK hD hS hA rfl hl.1 (Nat.le_of_ble_eq_true rfl) (Nat.zero_le _) (Nat.zero_le _) dX6_trainOn_2 rfl (fun r_2 u_2 H locs h_2 hP hD hS => ?_)
  rcases h_2 with ⟨e_2, ⟨rfl, h_2⟩ | ⟨rfl, h_2⟩⟩
  · skip
    have e_2 := Eq.symm e_2
    subst e_2
    have h_2 : inR b 0 7 := h_2
    refine lv_if_eq (tgt := 12) hx hb dX6_trainOn_5 (by decide) (fun c9 => absurd c9 (by decide)) (fun _ => ?_)
    refine lv_iconst (v := 0) hx hb dX6_trainOn_8 (by decide) ?_
    refine lv_goto (tgt := 13) hx hb dX6_trainOn_9 (by decide) ?_
    refine MI.callV (As := [.int 0]) (rest := []) ⟨hx, hb, hml, hown, hts⟩ (c_X6_holds l D cI cZ a H.size σ 0) (cwV 1 hts gX6_trainOn_X6_holds rfl rfl rfl (by decide +kernel) ⟨Nat.le_of_ble_eq_true rfl, Nat.le_of_ble_eq_true rfl⟩) hP hK hD hS hA (va_recv hK hP (ci := 6) (q0 := 0) rfl rfl) rfl hl.1 (Nat.le_of_ble_eq_true rfl) (Nat.zero_le _) (Nat.zero_le _) dX6_trainOn_13 rfl (fun r_13 u_13 H locs h_13 hP hD hS => ?_)
    obtain ⟨e_13, h_13⟩ := h_13
    have e_13 := Eq.symm e_13
    subst e_13
    have hP : va_P D vwCl (wM cI cZ a (va_up σ 34 (fun _ => 0))) H := hP
    have hD : va_D A (wM cI cZ a (va_up σ 34 (fun _ => 0))) := hD
    obtain rfl : r_13 = 1 := h_13.trans (by decide)
    refine lv_if_eq (tgt := 27) hx hb dX6_trainOn_16 (by decide) (fun c9 => absurd c9 (by decide)) (fun _ => ?_)
    refine lv_aload_n hx hb dX6_trainOn_19 rfl (lv_at hl 0 rfl) ?_
    refine lv_iload_n hx hb dX6_trainOn_20 rfl (lv_at hl 1 rfl) ?_
    refine MI.callV (As := [.int b]) (rest := []) ⟨hx, hb, hml, hown, hts⟩ (c_X6_standsOn l D cI cZ a H.size (va_up σ 34 (fun _ => 0)) b n hn hn4) (cwV 1 hts gX6_trainOn_X6_standsOn rfl rfl rfl (by decide +kernel) ⟨Nat.le_of_ble_eq_true rfl, Nat.le_of_ble_eq_true rfl⟩) hP hK hD hS hA (va_recv hK hP (ci := 6) (q0 := 0) rfl rfl) rfl hl.1 (Nat.le_of_ble_eq_true rfl) (Nat.zero_le _) (Nat.zero_le _) dX6_trainOn_21 rfl (fun r_21 u_21 H locs h_21 hP hD hS => ?_)
    obtain ⟨e_21, h_21⟩ := h_21
    have e_21 := Eq.symm e_21
    subst e_21
    have h_21 : r_21 = so (σ 4) b n := h_21
    refine lv_goto (tgt := 28) hx hb dX6_trainOn_24 (by decide) ?_
    exact MI.ret hx hb hr hlocks hK hP hD hS dX6_trainOn_28 (by exact Or.inr ⟨cif_t h_2, rfl, h_21⟩)
  · skip
    have e_2 := Eq.symm e_2
    subst e_2
    have h_2 : ¬ (inR b 0 7) := h_2
    refine lv_if_eq (tgt := 12) hx hb dX6_trainOn_5 (by decide) (fun _ => ?_) (fun c9 => absurd (by decide) c9)
    refine lv_iconst (v := 1) hx hb dX6_trainOn_12 (by decide) ?_
    refine MI.callV (As := [.int 1]) (rest := []) ⟨hx, hb, hml, hown, hts⟩ (c_X6_holds l D cI cZ a H.size σ 1) (cwV 1 hts gX6_trainOn_X6_holds rfl rfl rfl (by decide +kernel) ⟨Nat.le_of_ble_eq_true rfl, Nat.le_of_ble_eq_true rfl⟩) hP hK hD hS hA (va_recv hK hP (ci := 6) (q0 := 0) rfl rfl) rfl hl.1 (Nat.le_of_ble_eq_true rfl) (Nat.zero_le _) (Nat.zero_le _) dX6_trainOn_13 rfl (fun r_13 u_13 H locs h_13 hP hD hS => ?_)
    obtain ⟨e_13, h_13⟩ := h_13
    have e_13 := Eq.symm e_13
    subst e_13
    have hP : va_P D vwCl (wM cI cZ a (va_up σ 34 (fun _ => 1))) H := hP
    have hD : va_D A (wM cI cZ a (va_up σ 34 (fun _ => 1))) := hD
    obtain rfl : r_13 = 0 := h_13.trans (by decide)
    refine lv_if_eq (tgt := 27) hx hb dX6_trainOn_16 (by decide) (fun _ => ?_) (fun c9 => absurd (by decide) c9)
    refine lv_iconst (v := 0) hx hb dX6_trainOn_27 (by decide) ?_
    exact MI.ret hx hb hr hlocks hK hP hD hS dX6_trainOn_28 (by exact Or.inl (rf_ (cif_f h_2) (by decide)))
set_option maxRecDepth 20000 in
theorem in_X6_book_X6 : ∀ w ∈ wsX60, w ∈ wsX6_book := by decide +kernel
set_option maxHeartbeats 4000000 in
set_option maxRecDepth 100000 in
/-- the reference: book -/
theorem c_X6_book (l : Launch) (D : va_G) (cI cZ : ClassId) (a : Nat → Nat) (sz : Nat) (σ : St) (t b fr to : Int32) (n : Nat) (hn : σ 3 0 = nI n) (hn4 : n ≤ 4) (nb : Nat) (hnb : σ 13 0 = nI nb) (hnb30 : nb ≤ 30) : MI l yX6_book wsX6_book ({ frames := 2, cells := 0, slots := 0, locals := 43 }) D (ty2 cI cZ) (wM cI cZ a) [.ref (a 0), .int t, .int b, .int fr, .int to] σ sz (fun r u => (¬ cdBook σ n nb t b fr to = 0 ∧ u = (va_up σ 34 (fun _ => cdBook σ n nb t b fr to))) ∨ (cdBook σ n nb t b fr to = 0 ∧ ((mts (σ 14) (σ 15) (σ 16) (σ 17) nb t b fr to ∧ u = (va_up σ 34 (fun _ => 0)) ∧ r = -1) ∨ (¬ mts (σ 14) (σ 15) (σ 16) (σ 17) nb t b fr to ∧ u = (va_up (va_up (va_up (va_up (va_up (va_up σ 13 (fun _ => nI (nb + 1))) 14 (upd (σ 14) nb t)) 15 (upd (σ 15) nb b)) 16 (upd (σ 16) nb fr)) 17 (upd (σ 17) nb to)) 34 (fun _ => 0)) ∧ r = nI nb)))) := by
  refine MI.of (cc := cX6_book) (maxL := 7) (by decide) rfl (Nat.le_of_ble_eq_true rfl) ?_
  intro p e s m args below meth c A H locs ls hx hb hr hml hown hts hlocks hA hS hP hK hD hl
  have hl : lv_has ls 7 [(0, .ref (a 0)), (1, .int t), (2, .int b), (3, .int fr), (4, .int to)] := hl
  refine lv_aload_n hx hb dX6_book_0 rfl (lv_at hl 0 rfl) ?_
  refine lv_iload_n hx hb dX6_book_1 rfl (lv_at hl 1 rfl) ?_
  refine MI.callV (As := [.int t]) (rest := []) ⟨hx, hb, hml, hown, hts⟩ (c_X6_isTrain l D cI cZ a H.size σ t n hn hn4) (cwV 1 hts gX6_book_X6_isTrain rfl rfl rfl (by decide +kernel) ⟨Nat.le_of_ble_eq_true rfl, Nat.le_of_ble_eq_true rfl⟩) hP hK hD hS hA (va_recv hK hP (ci := 6) (q0 := 0) rfl rfl) rfl hl.1 (Nat.le_of_ble_eq_true rfl) (Nat.zero_le _) (Nat.zero_le _) dX6_book_2 rfl (fun r_2 u_2 H locs h_2 hP hD hS => ?_)
  rcases h_2 with ⟨e_2, ⟨rfl, h_2⟩ | ⟨rfl, h_2⟩⟩
  · skip
    have e_2 := Eq.symm e_2
    subst e_2
    have h_2 : tr n t := h_2
    refine lv_if_eq (tgt := 19) hx hb dX6_book_5 (by decide) (fun c9 => absurd c9 (by decide)) (fun _ => ?_)
    refine lv_iload_n hx hb dX6_book_8 rfl (lv_at hl 2 rfl) ?_
    refine MI.callS (As := [.int b]) (rest := []) ⟨hx, hb, hml, hown, hts⟩ (c_X6_isBlock l D cI cZ a H.size σ b) (va_cwS 1 hts gX6_book_X6_isBlock rfl rfl rfl (by decide +kernel) ⟨Nat.le_of_ble_eq_true rfl, Nat.le_of_ble_eq_true rfl⟩) hP hK hD hS hA rfl hl.1 (Nat.le_of_ble_eq_true rfl) (Nat.zero_le _) (Nat.zero_le _) dX6_book_9 rfl (fun r_9 u_9 H locs h_9 hP hD hS => ?_)
    rcases h_9 with ⟨e_9, ⟨rfl, h_9⟩ | ⟨rfl, h_9⟩⟩
    · skip
      have e_9 := Eq.symm e_9
      subst e_9
      have h_9 : inR b 0 7 := h_9
      refine lv_if_eq (tgt := 19) hx hb dX6_book_12 (by decide) (fun c9 => absurd c9 (by decide)) (fun _ => ?_)
      refine lv_iconst (v := 1) hx hb dX6_book_15 (by decide) ?_
      refine lv_goto (tgt := 20) hx hb dX6_book_16 (by decide) ?_
      refine lv_istore (lv' := [(5, .int 1), (0, .ref (a 0)), (1, .int t), (2, .int b), (3, .int fr), (4, .int to)]) hx hb dX6_book_20 hl (by decide) rfl (fun ls hl => ?_)
      refine lv_iload_n hx hb dX6_book_22 rfl (lv_at hl 4 rfl) ?_
      refine lv_aload_n hx hb dX6_book_23 rfl (lv_at hl 1 rfl) ?_
      refine va_get (D := D) (ci := 6) (v := .int (σ 0 0)) (C := RX6) (T := TX6) (N := 26) hx hb hts in_X6_book_X6 hown hK hP 0 rfl rfl 1 (by decide) (hts (.fieldLink RX6 113 "WarpyardModel" "clock" "I") (by decide +kernel)) (fun _ h9 => h9) rfl dX6_book_24 ?_
      refine lv_sipush (v := 5000) hx hb dX6_book_27 (by decide) ?_
      refine MI.callS (As := [.int fr, .int (σ 0 0), .int 5000]) (rest := []) ⟨hx, hb, hml, hown, hts⟩ (c_X6_in l D cI cZ a H.size σ fr (σ 0 0) 5000) (va_cwS 3 hts gX6_book_X6_in rfl rfl rfl (by decide +kernel) ⟨Nat.le_of_ble_eq_true rfl, Nat.le_of_ble_eq_true rfl⟩) hP hK hD hS hA rfl hl.1 (Nat.le_of_ble_eq_true rfl) (Nat.zero_le _) (Nat.zero_le _) dX6_book_30 rfl (fun r_30 u_30 H locs h_30 hP hD hS => ?_)
      rcases h_30 with ⟨e_30, ⟨rfl, h_30⟩ | ⟨rfl, h_30⟩⟩
      · skip
        have e_30 := Eq.symm e_30
        subst e_30
        have h_30 : inR fr (σ 0 0) 5000 := h_30
        refine lv_if_eq (tgt := 52) hx hb dX6_book_33 (by decide) (fun c9 => absurd c9 (by decide)) (fun _ => ?_)
        refine lv_iload hx hb dX6_book_36 (lv_at hl 5 rfl) ?_
        refine lv_iload_n hx hb dX6_book_38 rfl (lv_at hl 4 rfl) ?_
        refine lv_sipush (v := 5000) hx hb dX6_book_39 (by decide) ?_
        refine MI.callS (As := [.int to, .int fr, .int 5000]) (rest := []) ⟨hx, hb, hml, hown, hts⟩ (c_X6_in l D cI cZ a H.size σ to fr 5000) (va_cwS 3 hts gX6_book_X6_in rfl rfl rfl (by decide +kernel) ⟨Nat.le_of_ble_eq_true rfl, Nat.le_of_ble_eq_true rfl⟩) hP hK hD hS hA rfl hl.1 (Nat.le_of_ble_eq_true rfl) (Nat.zero_le _) (Nat.zero_le _) dX6_book_42 rfl (fun r_42 u_42 H locs h_42 hP hD hS => ?_)
        rcases h_42 with ⟨e_42, ⟨rfl, h_42⟩ | ⟨rfl, h_42⟩⟩
        · skip
          have e_42 := Eq.symm e_42
          subst e_42
          have h_42 : inR to fr 5000 := h_42
          refine lv_if_eq (tgt := 52) hx hb dX6_book_45 (by decide) (fun c9 => absurd c9 (by decide)) (fun _ => ?_)
          refine lv_iconst (v := 1) hx hb dX6_book_48 (by decide) ?_
          refine lv_goto (tgt := 53) hx hb dX6_book_49 (by decide) ?_
          refine lv_istore (lv' := [(6, .int 1), (5, .int 1), (0, .ref (a 0)), (1, .int t), (2, .int b), (3, .int fr), (4, .int to)]) hx hb dX6_book_53 hl (by decide) rfl (fun ls hl => ?_)
          refine lv_aload_n hx hb dX6_book_55 rfl (lv_at hl 2 rfl) ?_
          refine lv_iload hx hb dX6_book_56 (lv_at hl 1 rfl) ?_
          refine lv_if_ne (tgt := 65) hx hb dX6_book_58 (by decide) (fun _ => ?_) (fun c9 => absurd c9 (by decide))
          refine lv_iload hx hb dX6_book_65 (lv_at hl 0 rfl) ?_
          refine lv_if_ne (tgt := 74) hx hb dX6_book_67 (by decide) (fun _ => ?_) (fun c9 => absurd c9 (by decide))
          refine lv_aload_n hx hb dX6_book_74 rfl (lv_at hl 2 rfl) ?_
          refine va_get (D := D) (ci := 6) (v := .int (σ 13 0)) (C := RX6) (T := TX6) (N := 26) hx hb hts in_X6_book_X6 hown hK hP 0 rfl rfl 11 (by decide) (hts (.fieldLink RX6 96 "WarpyardModel" "bookings" "I") (by decide +kernel)) (fun _ h9 => h9) rfl dX6_book_75 ?_
          refine lv_topi (fun v_78 e_78 => ?_)
          obtain rfl : v_78 = nI nb := by rw [e_78]; exact hnb
          refine lv_bipush (v := 30) hx hb dX6_book_78 (by decide) ?_
          refine lv_icmp_ne (tgt := 87) hx hb dX6_book_80 (by decide) (fun c_80 => ?_) (fun c_80 => ?_)
          · skip
            rw [show (30 : Int32) = nI 30 from rfl, nI_eq (by omega) (by omega)] at c_80
            refine lv_iconst (v := 0) hx hb dX6_book_87 (by decide) ?_
            refine MI.callV (As := [.int 0]) (rest := []) ⟨hx, hb, hml, hown, hts⟩ (c_X6_holds l D cI cZ a H.size σ 0) (cwV 1 hts gX6_book_X6_holds rfl rfl rfl (by decide +kernel) ⟨Nat.le_of_ble_eq_true rfl, Nat.le_of_ble_eq_true rfl⟩) hP hK hD hS hA (va_recv hK hP (ci := 6) (q0 := 0) rfl rfl) rfl hl.1 (Nat.le_of_ble_eq_true rfl) (Nat.zero_le _) (Nat.zero_le _) dX6_book_88 rfl (fun r_88 u_88 H locs h_88 hP hD hS => ?_)
            obtain ⟨e_88, h_88⟩ := h_88
            have e_88 := Eq.symm e_88
            subst e_88
            have hP : va_P D vwCl (wM cI cZ a (va_up σ 34 (fun _ => 0))) H := hP
            have hD : va_D A (wM cI cZ a (va_up σ 34 (fun _ => 0))) := hD
            obtain rfl : r_88 = 1 := h_88.trans (by decide)
            refine lv_if_ne (tgt := 96) hx hb dX6_book_91 (by decide) (fun _ => ?_) (fun c9 => absurd c9 (by decide))
            refine lv_aload_n hx hb dX6_book_96 rfl (lv_at hl 2 rfl) ?_
            refine lv_iload_n hx hb dX6_book_97 rfl (lv_at hl 3 rfl) ?_
            refine lv_iload_n hx hb dX6_book_98 rfl (lv_at hl 4 rfl) ?_
            refine lv_iload_n hx hb dX6_book_99 rfl (lv_at hl 5 rfl) ?_
            refine lv_iload hx hb dX6_book_100 (lv_at hl 6 rfl) ?_
            refine MI.callV (As := [.int t, .int b, .int fr, .int to]) (rest := []) ⟨hx, hb, hml, hown, hts⟩ (c_X6_meets l D cI cZ a H.size (va_up σ 34 (fun _ => 0)) t b fr to nb hnb hnb30) (cwV 4 hts gX6_book_X6_meets rfl rfl rfl (by decide +kernel) ⟨Nat.le_of_ble_eq_true rfl, Nat.le_of_ble_eq_true rfl⟩) hP hK hD hS hA (va_recv hK hP (ci := 6) (q0 := 0) rfl rfl) rfl hl.1 (Nat.le_of_ble_eq_true rfl) (Nat.zero_le _) (Nat.zero_le _) dX6_book_102 rfl (fun r_102 u_102 H locs h_102 hP hD hS => ?_)
            rcases h_102 with ⟨e_102, ⟨rfl, h_102⟩ | ⟨rfl, h_102⟩⟩
            · skip
              have e_102 := Eq.symm e_102
              subst e_102
              have h_102 : mts (σ 14) (σ 15) (σ 16) (σ 17) nb t b fr to := h_102
              refine lv_if_eq (tgt := 110) hx hb dX6_book_105 (by decide) (fun c9 => absurd c9 (by decide)) (fun _ => ?_)
              refine lv_iconst (v := (-1)) hx hb dX6_book_108 (by decide) ?_
              exact MI.ret hx hb hr hlocks hK hP hD hS dX6_book_109 (by exact Or.inr ⟨by rw [cdBook, cif_t ⟨h_2, h_9⟩, cif_t ⟨h_30, h_42⟩, cif_f c_80], Or.inl ⟨h_102, rfl, rfl⟩⟩)
            · skip
              have e_102 := Eq.symm e_102
              subst e_102
              have h_102 : ¬ (mts (σ 14) (σ 15) (σ 16) (σ 17) nb t b fr to) := h_102
              refine lv_if_eq (tgt := 110) hx hb dX6_book_105 (by decide) (fun _ => ?_) (fun c9 => absurd (by decide) c9)
              refine lv_aload_n hx hb dX6_book_110 rfl (lv_at hl 2 rfl) ?_
              refine va_get (D := D) (ci := 6) (v := .ref (a 9)) (C := RX6) (T := TX6) (N := 26) hx hb hts in_X6_book_X6 hown hK hP 0 rfl rfl 12 (by decide) (hts (.fieldLink RX6 35 "WarpyardModel" "bookedTrains" "[I") (by decide +kernel)) (fun _ h9 => h9) rfl dX6_book_111 ?_
              refine lv_aload_n hx hb dX6_book_114 rfl (lv_at hl 2 rfl) ?_
              refine va_get (D := D) (ci := 6) (v := .int (σ 13 0)) (C := RX6) (T := TX6) (N := 26) hx hb hts in_X6_book_X6 hown hK hP 0 rfl rfl 11 (by decide) (hts (.fieldLink RX6 96 "WarpyardModel" "bookings" "I") (by decide +kernel)) (fun _ h9 => h9) rfl dX6_book_115 ?_
              refine lv_topi (fun v_118 e_118 => ?_)
              obtain rfl : v_118 = nI nb := by rw [e_118]; exact hnb
              refine lv_iload_n hx hb dX6_book_118 rfl (lv_at hl 3 rfl) ?_
              refine na_iast hx hb hK hP hD hS 9 0 (f := (σ 14)) (x := t) rfl rfl nb (by omega) (by decide) rfl dX6_book_119 (fun H locs hP hD hS => ?_)
              have hP : va_P D vwCl (wM cI cZ a (va_up (va_up σ 14 (upd (σ 14) nb t)) 34 (fun _ => 0))) H := hP
              have hD : va_D A (wM cI cZ a (va_up (va_up σ 14 (upd (σ 14) nb t)) 34 (fun _ => 0))) := hD
              refine lv_aload_n hx hb dX6_book_120 rfl (lv_at hl 2 rfl) ?_
              refine va_get (D := D) (ci := 6) (v := .ref (a 10)) (C := RX6) (T := TX6) (N := 26) hx hb hts in_X6_book_X6 hown hK hP 0 rfl rfl 13 (by decide) (hts (.fieldLink RX6 38 "WarpyardModel" "bookedBlocks" "[I") (by decide +kernel)) (fun _ h9 => h9) rfl dX6_book_121 ?_
              refine lv_aload_n hx hb dX6_book_124 rfl (lv_at hl 2 rfl) ?_
              refine va_get (D := D) (ci := 6) (v := .int (σ 13 0)) (C := RX6) (T := TX6) (N := 26) hx hb hts in_X6_book_X6 hown hK hP 0 rfl rfl 11 (by decide) (hts (.fieldLink RX6 96 "WarpyardModel" "bookings" "I") (by decide +kernel)) (fun _ h9 => h9) rfl dX6_book_125 ?_
              refine lv_topi (fun v_128 e_128 => ?_)
              obtain rfl : v_128 = nI nb := by rw [e_128]; exact hnb
              refine lv_iload_n hx hb dX6_book_128 rfl (lv_at hl 4 rfl) ?_
              refine na_iast hx hb hK hP hD hS 10 0 (f := (σ 15)) (x := b) rfl rfl nb (by omega) (by decide) rfl dX6_book_129 (fun H locs hP hD hS => ?_)
              have hP : va_P D vwCl (wM cI cZ a (va_up (va_up (va_up σ 14 (upd (σ 14) nb t)) 15 (upd (σ 15) nb b)) 34 (fun _ => 0))) H := hP
              have hD : va_D A (wM cI cZ a (va_up (va_up (va_up σ 14 (upd (σ 14) nb t)) 15 (upd (σ 15) nb b)) 34 (fun _ => 0))) := hD
              refine lv_aload_n hx hb dX6_book_130 rfl (lv_at hl 2 rfl) ?_
              refine va_get (D := D) (ci := 6) (v := .ref (a 11)) (C := RX6) (T := TX6) (N := 26) hx hb hts in_X6_book_X6 hown hK hP 0 rfl rfl 14 (by decide) (hts (.fieldLink RX6 41 "WarpyardModel" "firsts" "[I") (by decide +kernel)) (fun _ h9 => h9) rfl dX6_book_131 ?_
              refine lv_aload_n hx hb dX6_book_134 rfl (lv_at hl 2 rfl) ?_
              refine va_get (D := D) (ci := 6) (v := .int (σ 13 0)) (C := RX6) (T := TX6) (N := 26) hx hb hts in_X6_book_X6 hown hK hP 0 rfl rfl 11 (by decide) (hts (.fieldLink RX6 96 "WarpyardModel" "bookings" "I") (by decide +kernel)) (fun _ h9 => h9) rfl dX6_book_135 ?_
              refine lv_topi (fun v_138 e_138 => ?_)
              obtain rfl : v_138 = nI nb := by rw [e_138]; exact hnb
              refine lv_iload_n hx hb dX6_book_138 rfl (lv_at hl 5 rfl) ?_
              refine na_iast hx hb hK hP hD hS 11 0 (f := (σ 16)) (x := fr) rfl rfl nb (by omega) (by decide) rfl dX6_book_139 (fun H locs hP hD hS => ?_)
              have hP : va_P D vwCl (wM cI cZ a (va_up (va_up (va_up (va_up σ 14 (upd (σ 14) nb t)) 15 (upd (σ 15) nb b)) 16 (upd (σ 16) nb fr)) 34 (fun _ => 0))) H := hP
              have hD : va_D A (wM cI cZ a (va_up (va_up (va_up (va_up σ 14 (upd (σ 14) nb t)) 15 (upd (σ 15) nb b)) 16 (upd (σ 16) nb fr)) 34 (fun _ => 0))) := hD
              refine lv_aload_n hx hb dX6_book_140 rfl (lv_at hl 2 rfl) ?_
              refine va_get (D := D) (ci := 6) (v := .ref (a 12)) (C := RX6) (T := TX6) (N := 26) hx hb hts in_X6_book_X6 hown hK hP 0 rfl rfl 15 (by decide) (hts (.fieldLink RX6 44 "WarpyardModel" "lasts" "[I") (by decide +kernel)) (fun _ h9 => h9) rfl dX6_book_141 ?_
              refine lv_aload_n hx hb dX6_book_144 rfl (lv_at hl 2 rfl) ?_
              refine va_get (D := D) (ci := 6) (v := .int (σ 13 0)) (C := RX6) (T := TX6) (N := 26) hx hb hts in_X6_book_X6 hown hK hP 0 rfl rfl 11 (by decide) (hts (.fieldLink RX6 96 "WarpyardModel" "bookings" "I") (by decide +kernel)) (fun _ h9 => h9) rfl dX6_book_145 ?_
              refine lv_topi (fun v_148 e_148 => ?_)
              obtain rfl : v_148 = nI nb := by rw [e_148]; exact hnb
              refine lv_iload hx hb dX6_book_148 (lv_at hl 6 rfl) ?_
              refine na_iast hx hb hK hP hD hS 12 0 (f := (σ 17)) (x := to) rfl rfl nb (by omega) (by decide) rfl dX6_book_150 (fun H locs hP hD hS => ?_)
              have hP : va_P D vwCl (wM cI cZ a (va_up (va_up (va_up (va_up (va_up σ 14 (upd (σ 14) nb t)) 15 (upd (σ 15) nb b)) 16 (upd (σ 16) nb fr)) 17 (upd (σ 17) nb to)) 34 (fun _ => 0))) H := hP
              have hD : va_D A (wM cI cZ a (va_up (va_up (va_up (va_up (va_up σ 14 (upd (σ 14) nb t)) 15 (upd (σ 15) nb b)) 16 (upd (σ 16) nb fr)) 17 (upd (σ 17) nb to)) 34 (fun _ => 0))) := hD
              refine lv_aload_n hx hb dX6_book_151 rfl (lv_at hl 2 rfl) ?_
              refine lv_dup hx hb dX6_book_152 rfl ?_
              refine va_get (D := D) (ci := 6) (v := .int (σ 13 0)) (C := RX6) (T := TX6) (N := 26) hx hb hts in_X6_book_X6 hown hK hP 0 rfl rfl 11 (by decide) (hts (.fieldLink RX6 96 "WarpyardModel" "bookings" "I") (by decide +kernel)) (fun _ h9 => h9) rfl dX6_book_153 ?_
              refine lv_topi (fun v_156 e_156 => ?_)
              obtain rfl : v_156 = nI nb := by rw [e_156]; exact hnb
              refine lv_iconst (v := 1) hx hb dX6_book_156 (by decide) ?_
              refine lv_iadd hx hb dX6_book_157 ?_
              refine lv_topi (fun v_158 e_158 => ?_)
              obtain rfl : v_158 = nI (nb + 1) := by rw [e_158]; exact nI_1 nb
              refine va_put (D := D) (ci := 6) (v := .int (nI (nb + 1))) (ty := .int) (C := RX6) (T := TX6) (N := 26) hx hb hts in_X6_book_X6 tyX6 tyX6_ok nmX6 hown hK hP hD hS 0 rfl rfl 11 (by decide) (hts (.fieldLink RX6 96 "WarpyardModel" "bookings" "I") (by decide +kernel)) (fun _ h9 => h9) rfl (by decide +kernel) rfl rfl (Nat.le_of_ble_eq_true rfl) dX6_book_158 (fun H locs hP hD hS => ?_)
              have hP : va_P D vwCl (wM cI cZ a (va_up (va_up (va_up (va_up (va_up (va_up σ 13 (fun _ => nI (nb + 1))) 14 (upd (σ 14) nb t)) 15 (upd (σ 15) nb b)) 16 (upd (σ 16) nb fr)) 17 (upd (σ 17) nb to)) 34 (fun _ => 0))) H := hP
              have hD : va_D A (wM cI cZ a (va_up (va_up (va_up (va_up (va_up (va_up σ 13 (fun _ => nI (nb + 1))) 14 (upd (σ 14) nb t)) 15 (upd (σ 15) nb b)) 16 (upd (σ 16) nb fr)) 17 (upd (σ 17) nb to)) 34 (fun _ => 0))) := hD
              refine lv_aload_n hx hb dX6_book_161 rfl (lv_at hl 2 rfl) ?_
              refine va_get (D := D) (ci := 6) (v := .int (nI (nb + 1))) (C := RX6) (T := TX6) (N := 26) hx hb hts in_X6_book_X6 hown hK hP 0 rfl rfl 11 (by decide) (hts (.fieldLink RX6 96 "WarpyardModel" "bookings" "I") (by decide +kernel)) (fun _ h9 => h9) rfl dX6_book_162 ?_
              refine lv_iconst (v := 1) hx hb dX6_book_165 (by decide) ?_
              refine lv_isub hx hb dX6_book_166 ?_
              refine lv_topi (fun v_167 e_167 => ?_)
              obtain rfl : v_167 = nI nb := by rw [e_167]; exact nI_pred nb
              exact MI.ret hx hb hr hlocks hK hP hD hS dX6_book_167 (by exact Or.inr ⟨by rw [cdBook, cif_t ⟨h_2, h_9⟩, cif_t ⟨h_30, h_42⟩, cif_f c_80], Or.inr ⟨h_102, rfl, rfl⟩⟩)
          · skip
            rw [show (30 : Int32) = nI 30 from rfl, nI_eq (by omega) (by omega)] at c_80
            refine lv_iconst (v := 3) hx hb dX6_book_83 (by decide) ?_
            refine lv_goto (tgt := 88) hx hb dX6_book_84 (by decide) ?_
            refine MI.callV (As := [.int 3]) (rest := []) ⟨hx, hb, hml, hown, hts⟩ (c_X6_holds l D cI cZ a H.size σ 3) (cwV 1 hts gX6_book_X6_holds rfl rfl rfl (by decide +kernel) ⟨Nat.le_of_ble_eq_true rfl, Nat.le_of_ble_eq_true rfl⟩) hP hK hD hS hA (va_recv hK hP (ci := 6) (q0 := 0) rfl rfl) rfl hl.1 (Nat.le_of_ble_eq_true rfl) (Nat.zero_le _) (Nat.zero_le _) dX6_book_88 rfl (fun r_88 u_88 H locs h_88 hP hD hS => ?_)
            obtain ⟨e_88, h_88⟩ := h_88
            have e_88 := Eq.symm e_88
            subst e_88
            have hP : va_P D vwCl (wM cI cZ a (va_up σ 34 (fun _ => 3))) H := hP
            have hD : va_D A (wM cI cZ a (va_up σ 34 (fun _ => 3))) := hD
            obtain rfl : r_88 = 0 := h_88.trans (by decide)
            refine lv_if_ne (tgt := 96) hx hb dX6_book_91 (by decide) (fun c9 => absurd (by decide) c9) (fun _ => ?_)
            refine lv_iconst (v := 0) hx hb dX6_book_94 (by decide) ?_
            exact MI.ret hx hb hr hlocks hK hP hD hS dX6_book_95 (by exact Or.inl (rf_ (by rw [cdBook, cif_t ⟨h_2, h_9⟩, cif_t ⟨h_30, h_42⟩, cif_t c_80]) (by decide)))
        · skip
          have e_42 := Eq.symm e_42
          subst e_42
          have h_42 : ¬ (inR to fr 5000) := h_42
          refine lv_if_eq (tgt := 52) hx hb dX6_book_45 (by decide) (fun _ => ?_) (fun c9 => absurd (by decide) c9)
          refine lv_iconst (v := 0) hx hb dX6_book_52 (by decide) ?_
          refine lv_istore (lv' := [(6, .int 0), (5, .int 1), (0, .ref (a 0)), (1, .int t), (2, .int b), (3, .int fr), (4, .int to)]) hx hb dX6_book_53 hl (by decide) rfl (fun ls hl => ?_)
          refine lv_aload_n hx hb dX6_book_55 rfl (lv_at hl 2 rfl) ?_
          refine lv_iload hx hb dX6_book_56 (lv_at hl 1 rfl) ?_
          refine lv_if_ne (tgt := 65) hx hb dX6_book_58 (by decide) (fun _ => ?_) (fun c9 => absurd c9 (by decide))
          refine lv_iload hx hb dX6_book_65 (lv_at hl 0 rfl) ?_
          refine lv_if_ne (tgt := 74) hx hb dX6_book_67 (by decide) (fun c9 => absurd (by decide) c9) (fun _ => ?_)
          refine lv_iconst (v := 2) hx hb dX6_book_70 (by decide) ?_
          refine lv_goto (tgt := 88) hx hb dX6_book_71 (by decide) ?_
          refine MI.callV (As := [.int 2]) (rest := []) ⟨hx, hb, hml, hown, hts⟩ (c_X6_holds l D cI cZ a H.size σ 2) (cwV 1 hts gX6_book_X6_holds rfl rfl rfl (by decide +kernel) ⟨Nat.le_of_ble_eq_true rfl, Nat.le_of_ble_eq_true rfl⟩) hP hK hD hS hA (va_recv hK hP (ci := 6) (q0 := 0) rfl rfl) rfl hl.1 (Nat.le_of_ble_eq_true rfl) (Nat.zero_le _) (Nat.zero_le _) dX6_book_88 rfl (fun r_88 u_88 H locs h_88 hP hD hS => ?_)
          obtain ⟨e_88, h_88⟩ := h_88
          have e_88 := Eq.symm e_88
          subst e_88
          have hP : va_P D vwCl (wM cI cZ a (va_up σ 34 (fun _ => 2))) H := hP
          have hD : va_D A (wM cI cZ a (va_up σ 34 (fun _ => 2))) := hD
          obtain rfl : r_88 = 0 := h_88.trans (by decide)
          refine lv_if_ne (tgt := 96) hx hb dX6_book_91 (by decide) (fun c9 => absurd (by decide) c9) (fun _ => ?_)
          refine lv_iconst (v := 0) hx hb dX6_book_94 (by decide) ?_
          exact MI.ret hx hb hr hlocks hK hP hD hS dX6_book_95 (by exact Or.inl (rf_ (by rw [cdBook, cif_t ⟨h_2, h_9⟩, cif_f (fun h => h_42 h.2)]) (by decide)))
      · skip
        have e_30 := Eq.symm e_30
        subst e_30
        have h_30 : ¬ (inR fr (σ 0 0) 5000) := h_30
        refine lv_if_eq (tgt := 52) hx hb dX6_book_33 (by decide) (fun _ => ?_) (fun c9 => absurd (by decide) c9)
        refine lv_iconst (v := 0) hx hb dX6_book_52 (by decide) ?_
        refine lv_istore (lv' := [(6, .int 0), (5, .int 1), (0, .ref (a 0)), (1, .int t), (2, .int b), (3, .int fr), (4, .int to)]) hx hb dX6_book_53 hl (by decide) rfl (fun ls hl => ?_)
        refine lv_aload_n hx hb dX6_book_55 rfl (lv_at hl 2 rfl) ?_
        refine lv_iload hx hb dX6_book_56 (lv_at hl 1 rfl) ?_
        refine lv_if_ne (tgt := 65) hx hb dX6_book_58 (by decide) (fun _ => ?_) (fun c9 => absurd c9 (by decide))
        refine lv_iload hx hb dX6_book_65 (lv_at hl 0 rfl) ?_
        refine lv_if_ne (tgt := 74) hx hb dX6_book_67 (by decide) (fun c9 => absurd (by decide) c9) (fun _ => ?_)
        refine lv_iconst (v := 2) hx hb dX6_book_70 (by decide) ?_
        refine lv_goto (tgt := 88) hx hb dX6_book_71 (by decide) ?_
        refine MI.callV (As := [.int 2]) (rest := []) ⟨hx, hb, hml, hown, hts⟩ (c_X6_holds l D cI cZ a H.size σ 2) (cwV 1 hts gX6_book_X6_holds rfl rfl rfl (by decide +kernel) ⟨Nat.le_of_ble_eq_true rfl, Nat.le_of_ble_eq_true rfl⟩) hP hK hD hS hA (va_recv hK hP (ci := 6) (q0 := 0) rfl rfl) rfl hl.1 (Nat.le_of_ble_eq_true rfl) (Nat.zero_le _) (Nat.zero_le _) dX6_book_88 rfl (fun r_88 u_88 H locs h_88 hP hD hS => ?_)
        obtain ⟨e_88, h_88⟩ := h_88
        have e_88 := Eq.symm e_88
        subst e_88
        have hP : va_P D vwCl (wM cI cZ a (va_up σ 34 (fun _ => 2))) H := hP
        have hD : va_D A (wM cI cZ a (va_up σ 34 (fun _ => 2))) := hD
        obtain rfl : r_88 = 0 := h_88.trans (by decide)
        refine lv_if_ne (tgt := 96) hx hb dX6_book_91 (by decide) (fun c9 => absurd (by decide) c9) (fun _ => ?_)
        refine lv_iconst (v := 0) hx hb dX6_book_94 (by decide) ?_
        exact MI.ret hx hb hr hlocks hK hP hD hS dX6_book_95 (by exact Or.inl (rf_ (by rw [cdBook, cif_t ⟨h_2, h_9⟩, cif_f (fun h => h_30 h.1)]) (by decide)))
    · skip
      have e_9 := Eq.symm e_9
      subst e_9
      have h_9 : ¬ (inR b 0 7) := h_9
      refine lv_if_eq (tgt := 19) hx hb dX6_book_12 (by decide) (fun _ => ?_) (fun c9 => absurd (by decide) c9)
      refine lv_iconst (v := 0) hx hb dX6_book_19 (by decide) ?_
      refine lv_istore (lv' := [(5, .int 0), (0, .ref (a 0)), (1, .int t), (2, .int b), (3, .int fr), (4, .int to)]) hx hb dX6_book_20 hl (by decide) rfl (fun ls hl => ?_)
      refine lv_iload_n hx hb dX6_book_22 rfl (lv_at hl 4 rfl) ?_
      refine lv_aload_n hx hb dX6_book_23 rfl (lv_at hl 1 rfl) ?_
      refine va_get (D := D) (ci := 6) (v := .int (σ 0 0)) (C := RX6) (T := TX6) (N := 26) hx hb hts in_X6_book_X6 hown hK hP 0 rfl rfl 1 (by decide) (hts (.fieldLink RX6 113 "WarpyardModel" "clock" "I") (by decide +kernel)) (fun _ h9 => h9) rfl dX6_book_24 ?_
      refine lv_sipush (v := 5000) hx hb dX6_book_27 (by decide) ?_
      refine MI.callS (As := [.int fr, .int (σ 0 0), .int 5000]) (rest := []) ⟨hx, hb, hml, hown, hts⟩ (c_X6_in l D cI cZ a H.size σ fr (σ 0 0) 5000) (va_cwS 3 hts gX6_book_X6_in rfl rfl rfl (by decide +kernel) ⟨Nat.le_of_ble_eq_true rfl, Nat.le_of_ble_eq_true rfl⟩) hP hK hD hS hA rfl hl.1 (Nat.le_of_ble_eq_true rfl) (Nat.zero_le _) (Nat.zero_le _) dX6_book_30 rfl (fun r_30 u_30 H locs h_30 hP hD hS => ?_)
      rcases h_30 with ⟨e_30, ⟨rfl, h_30⟩ | ⟨rfl, h_30⟩⟩
      · skip
        have e_30 := Eq.symm e_30
        subst e_30
        have h_30 : inR fr (σ 0 0) 5000 := h_30
        refine lv_if_eq (tgt := 52) hx hb dX6_book_33 (by decide) (fun c9 => absurd c9 (by decide)) (fun _ => ?_)
        refine lv_iload hx hb dX6_book_36 (lv_at hl 5 rfl) ?_
        refine lv_iload_n hx hb dX6_book_38 rfl (lv_at hl 4 rfl) ?_
        refine lv_sipush (v := 5000) hx hb dX6_book_39 (by decide) ?_
        refine MI.callS (As := [.int to, .int fr, .int 5000]) (rest := []) ⟨hx, hb, hml, hown, hts⟩ (c_X6_in l D cI cZ a H.size σ to fr 5000) (va_cwS 3 hts gX6_book_X6_in rfl rfl rfl (by decide +kernel) ⟨Nat.le_of_ble_eq_true rfl, Nat.le_of_ble_eq_true rfl⟩) hP hK hD hS hA rfl hl.1 (Nat.le_of_ble_eq_true rfl) (Nat.zero_le _) (Nat.zero_le _) dX6_book_42 rfl (fun r_42 u_42 H locs h_42 hP hD hS => ?_)
        rcases h_42 with ⟨e_42, ⟨rfl, h_42⟩ | ⟨rfl, h_42⟩⟩
        · skip
          have e_42 := Eq.symm e_42
          subst e_42
          have h_42 : inR to fr 5000 := h_42
          refine lv_if_eq (tgt := 52) hx hb dX6_book_45 (by decide) (fun c9 => absurd c9 (by decide)) (fun _ => ?_)
          refine lv_iconst (v := 1) hx hb dX6_book_48 (by decide) ?_
          refine lv_goto (tgt := 53) hx hb dX6_book_49 (by decide) ?_
          refine lv_istore (lv' := [(6, .int 1), (5, .int 0), (0, .ref (a 0)), (1, .int t), (2, .int b), (3, .int fr), (4, .int to)]) hx hb dX6_book_53 hl (by decide) rfl (fun ls hl => ?_)
          refine lv_aload_n hx hb dX6_book_55 rfl (lv_at hl 2 rfl) ?_
          refine lv_iload hx hb dX6_book_56 (lv_at hl 1 rfl) ?_
          refine lv_if_ne (tgt := 65) hx hb dX6_book_58 (by decide) (fun c9 => absurd (by decide) c9) (fun _ => ?_)
          refine lv_iconst (v := 1) hx hb dX6_book_61 (by decide) ?_
          refine lv_goto (tgt := 88) hx hb dX6_book_62 (by decide) ?_
          refine MI.callV (As := [.int 1]) (rest := []) ⟨hx, hb, hml, hown, hts⟩ (c_X6_holds l D cI cZ a H.size σ 1) (cwV 1 hts gX6_book_X6_holds rfl rfl rfl (by decide +kernel) ⟨Nat.le_of_ble_eq_true rfl, Nat.le_of_ble_eq_true rfl⟩) hP hK hD hS hA (va_recv hK hP (ci := 6) (q0 := 0) rfl rfl) rfl hl.1 (Nat.le_of_ble_eq_true rfl) (Nat.zero_le _) (Nat.zero_le _) dX6_book_88 rfl (fun r_88 u_88 H locs h_88 hP hD hS => ?_)
          obtain ⟨e_88, h_88⟩ := h_88
          have e_88 := Eq.symm e_88
          subst e_88
          have hP : va_P D vwCl (wM cI cZ a (va_up σ 34 (fun _ => 1))) H := hP
          have hD : va_D A (wM cI cZ a (va_up σ 34 (fun _ => 1))) := hD
          obtain rfl : r_88 = 0 := h_88.trans (by decide)
          refine lv_if_ne (tgt := 96) hx hb dX6_book_91 (by decide) (fun c9 => absurd (by decide) c9) (fun _ => ?_)
          refine lv_iconst (v := 0) hx hb dX6_book_94 (by decide) ?_
          exact MI.ret hx hb hr hlocks hK hP hD hS dX6_book_95 (by exact Or.inl (rf_ (by rw [cdBook, cif_f (fun h => h_9 h.2)]) (by decide)))
        · skip
          have e_42 := Eq.symm e_42
          subst e_42
          have h_42 : ¬ (inR to fr 5000) := h_42
          refine lv_if_eq (tgt := 52) hx hb dX6_book_45 (by decide) (fun _ => ?_) (fun c9 => absurd (by decide) c9)
          refine lv_iconst (v := 0) hx hb dX6_book_52 (by decide) ?_
          refine lv_istore (lv' := [(6, .int 0), (5, .int 0), (0, .ref (a 0)), (1, .int t), (2, .int b), (3, .int fr), (4, .int to)]) hx hb dX6_book_53 hl (by decide) rfl (fun ls hl => ?_)
          refine lv_aload_n hx hb dX6_book_55 rfl (lv_at hl 2 rfl) ?_
          refine lv_iload hx hb dX6_book_56 (lv_at hl 1 rfl) ?_
          refine lv_if_ne (tgt := 65) hx hb dX6_book_58 (by decide) (fun c9 => absurd (by decide) c9) (fun _ => ?_)
          refine lv_iconst (v := 1) hx hb dX6_book_61 (by decide) ?_
          refine lv_goto (tgt := 88) hx hb dX6_book_62 (by decide) ?_
          refine MI.callV (As := [.int 1]) (rest := []) ⟨hx, hb, hml, hown, hts⟩ (c_X6_holds l D cI cZ a H.size σ 1) (cwV 1 hts gX6_book_X6_holds rfl rfl rfl (by decide +kernel) ⟨Nat.le_of_ble_eq_true rfl, Nat.le_of_ble_eq_true rfl⟩) hP hK hD hS hA (va_recv hK hP (ci := 6) (q0 := 0) rfl rfl) rfl hl.1 (Nat.le_of_ble_eq_true rfl) (Nat.zero_le _) (Nat.zero_le _) dX6_book_88 rfl (fun r_88 u_88 H locs h_88 hP hD hS => ?_)
          obtain ⟨e_88, h_88⟩ := h_88
          have e_88 := Eq.symm e_88
          subst e_88
          have hP : va_P D vwCl (wM cI cZ a (va_up σ 34 (fun _ => 1))) H := hP
          have hD : va_D A (wM cI cZ a (va_up σ 34 (fun _ => 1))) := hD
          obtain rfl : r_88 = 0 := h_88.trans (by decide)
          refine lv_if_ne (tgt := 96) hx hb dX6_book_91 (by decide) (fun c9 => absurd (by decide) c9) (fun _ => ?_)
          refine lv_iconst (v := 0) hx hb dX6_book_94 (by decide) ?_
          exact MI.ret hx hb hr hlocks hK hP hD hS dX6_book_95 (by exact Or.inl (rf_ (by rw [cdBook, cif_f (fun h => h_9 h.2)]) (by decide)))
      · skip
        have e_30 := Eq.symm e_30
        subst e_30
        have h_30 : ¬ (inR fr (σ 0 0) 5000) := h_30
        refine lv_if_eq (tgt := 52) hx hb dX6_book_33 (by decide) (fun _ => ?_) (fun c9 => absurd (by decide) c9)
        refine lv_iconst (v := 0) hx hb dX6_book_52 (by decide) ?_
        refine lv_istore (lv' := [(6, .int 0), (5, .int 0), (0, .ref (a 0)), (1, .int t), (2, .int b), (3, .int fr), (4, .int to)]) hx hb dX6_book_53 hl (by decide) rfl (fun ls hl => ?_)
        refine lv_aload_n hx hb dX6_book_55 rfl (lv_at hl 2 rfl) ?_
        refine lv_iload hx hb dX6_book_56 (lv_at hl 1 rfl) ?_
        refine lv_if_ne (tgt := 65) hx hb dX6_book_58 (by decide) (fun c9 => absurd (by decide) c9) (fun _ => ?_)
        refine lv_iconst (v := 1) hx hb dX6_book_61 (by decide) ?_
        refine lv_goto (tgt := 88) hx hb dX6_book_62 (by decide) ?_
        refine MI.callV (As := [.int 1]) (rest := []) ⟨hx, hb, hml, hown, hts⟩ (c_X6_holds l D cI cZ a H.size σ 1) (cwV 1 hts gX6_book_X6_holds rfl rfl rfl (by decide +kernel) ⟨Nat.le_of_ble_eq_true rfl, Nat.le_of_ble_eq_true rfl⟩) hP hK hD hS hA (va_recv hK hP (ci := 6) (q0 := 0) rfl rfl) rfl hl.1 (Nat.le_of_ble_eq_true rfl) (Nat.zero_le _) (Nat.zero_le _) dX6_book_88 rfl (fun r_88 u_88 H locs h_88 hP hD hS => ?_)
        obtain ⟨e_88, h_88⟩ := h_88
        have e_88 := Eq.symm e_88
        subst e_88
        have hP : va_P D vwCl (wM cI cZ a (va_up σ 34 (fun _ => 1))) H := hP
        have hD : va_D A (wM cI cZ a (va_up σ 34 (fun _ => 1))) := hD
        obtain rfl : r_88 = 0 := h_88.trans (by decide)
        refine lv_if_ne (tgt := 96) hx hb dX6_book_91 (by decide) (fun c9 => absurd (by decide) c9) (fun _ => ?_)
        refine lv_iconst (v := 0) hx hb dX6_book_94 (by decide) ?_
        exact MI.ret hx hb hr hlocks hK hP hD hS dX6_book_95 (by exact Or.inl (rf_ (by rw [cdBook, cif_f (fun h => h_9 h.2)]) (by decide)))
  · skip
    have e_2 := Eq.symm e_2
    subst e_2
    have h_2 : ¬ (tr n t) := h_2
    refine lv_if_eq (tgt := 19) hx hb dX6_book_5 (by decide) (fun _ => ?_) (fun c9 => absurd (by decide) c9)
    refine lv_iconst (v := 0) hx hb dX6_book_19 (by decide) ?_
    refine lv_istore (lv' := [(5, .int 0), (0, .ref (a 0)), (1, .int t), (2, .int b), (3, .int fr), (4, .int to)]) hx hb dX6_book_20 hl (by decide) rfl (fun ls hl => ?_)
    refine lv_iload_n hx hb dX6_book_22 rfl (lv_at hl 4 rfl) ?_
    refine lv_aload_n hx hb dX6_book_23 rfl (lv_at hl 1 rfl) ?_
    refine va_get (D := D) (ci := 6) (v := .int (σ 0 0)) (C := RX6) (T := TX6) (N := 26) hx hb hts in_X6_book_X6 hown hK hP 0 rfl rfl 1 (by decide) (hts (.fieldLink RX6 113 "WarpyardModel" "clock" "I") (by decide +kernel)) (fun _ h9 => h9) rfl dX6_book_24 ?_
    refine lv_sipush (v := 5000) hx hb dX6_book_27 (by decide) ?_
    refine MI.callS (As := [.int fr, .int (σ 0 0), .int 5000]) (rest := []) ⟨hx, hb, hml, hown, hts⟩ (c_X6_in l D cI cZ a H.size σ fr (σ 0 0) 5000) (va_cwS 3 hts gX6_book_X6_in rfl rfl rfl (by decide +kernel) ⟨Nat.le_of_ble_eq_true rfl, Nat.le_of_ble_eq_true rfl⟩) hP hK hD hS hA rfl hl.1 (Nat.le_of_ble_eq_true rfl) (Nat.zero_le _) (Nat.zero_le _) dX6_book_30 rfl (fun r_30 u_30 H locs h_30 hP hD hS => ?_)
    rcases h_30 with ⟨e_30, ⟨rfl, h_30⟩ | ⟨rfl, h_30⟩⟩
    · skip
      have e_30 := Eq.symm e_30
      subst e_30
      have h_30 : inR fr (σ 0 0) 5000 := h_30
      refine lv_if_eq (tgt := 52) hx hb dX6_book_33 (by decide) (fun c9 => absurd c9 (by decide)) (fun _ => ?_)
      refine lv_iload hx hb dX6_book_36 (lv_at hl 5 rfl) ?_
      refine lv_iload_n hx hb dX6_book_38 rfl (lv_at hl 4 rfl) ?_
      refine lv_sipush (v := 5000) hx hb dX6_book_39 (by decide) ?_
      refine MI.callS (As := [.int to, .int fr, .int 5000]) (rest := []) ⟨hx, hb, hml, hown, hts⟩ (c_X6_in l D cI cZ a H.size σ to fr 5000) (va_cwS 3 hts gX6_book_X6_in rfl rfl rfl (by decide +kernel) ⟨Nat.le_of_ble_eq_true rfl, Nat.le_of_ble_eq_true rfl⟩) hP hK hD hS hA rfl hl.1 (Nat.le_of_ble_eq_true rfl) (Nat.zero_le _) (Nat.zero_le _) dX6_book_42 rfl (fun r_42 u_42 H locs h_42 hP hD hS => ?_)
      rcases h_42 with ⟨e_42, ⟨rfl, h_42⟩ | ⟨rfl, h_42⟩⟩
      · skip
        have e_42 := Eq.symm e_42
        subst e_42
        have h_42 : inR to fr 5000 := h_42
        refine lv_if_eq (tgt := 52) hx hb dX6_book_45 (by decide) (fun c9 => absurd c9 (by decide)) (fun _ => ?_)
        refine lv_iconst (v := 1) hx hb dX6_book_48 (by decide) ?_
        refine lv_goto (tgt := 53) hx hb dX6_book_49 (by decide) ?_
        refine lv_istore (lv' := [(6, .int 1), (5, .int 0), (0, .ref (a 0)), (1, .int t), (2, .int b), (3, .int fr), (4, .int to)]) hx hb dX6_book_53 hl (by decide) rfl (fun ls hl => ?_)
        refine lv_aload_n hx hb dX6_book_55 rfl (lv_at hl 2 rfl) ?_
        refine lv_iload hx hb dX6_book_56 (lv_at hl 1 rfl) ?_
        refine lv_if_ne (tgt := 65) hx hb dX6_book_58 (by decide) (fun c9 => absurd (by decide) c9) (fun _ => ?_)
        refine lv_iconst (v := 1) hx hb dX6_book_61 (by decide) ?_
        refine lv_goto (tgt := 88) hx hb dX6_book_62 (by decide) ?_
        refine MI.callV (As := [.int 1]) (rest := []) ⟨hx, hb, hml, hown, hts⟩ (c_X6_holds l D cI cZ a H.size σ 1) (cwV 1 hts gX6_book_X6_holds rfl rfl rfl (by decide +kernel) ⟨Nat.le_of_ble_eq_true rfl, Nat.le_of_ble_eq_true rfl⟩) hP hK hD hS hA (va_recv hK hP (ci := 6) (q0 := 0) rfl rfl) rfl hl.1 (Nat.le_of_ble_eq_true rfl) (Nat.zero_le _) (Nat.zero_le _) dX6_book_88 rfl (fun r_88 u_88 H locs h_88 hP hD hS => ?_)
        obtain ⟨e_88, h_88⟩ := h_88
        have e_88 := Eq.symm e_88
        subst e_88
        have hP : va_P D vwCl (wM cI cZ a (va_up σ 34 (fun _ => 1))) H := hP
        have hD : va_D A (wM cI cZ a (va_up σ 34 (fun _ => 1))) := hD
        obtain rfl : r_88 = 0 := h_88.trans (by decide)
        refine lv_if_ne (tgt := 96) hx hb dX6_book_91 (by decide) (fun c9 => absurd (by decide) c9) (fun _ => ?_)
        refine lv_iconst (v := 0) hx hb dX6_book_94 (by decide) ?_
        exact MI.ret hx hb hr hlocks hK hP hD hS dX6_book_95 (by exact Or.inl (rf_ (by rw [cdBook, cif_f (fun h => h_2 h.1)]) (by decide)))
      · skip
        have e_42 := Eq.symm e_42
        subst e_42
        have h_42 : ¬ (inR to fr 5000) := h_42
        refine lv_if_eq (tgt := 52) hx hb dX6_book_45 (by decide) (fun _ => ?_) (fun c9 => absurd (by decide) c9)
        refine lv_iconst (v := 0) hx hb dX6_book_52 (by decide) ?_
        refine lv_istore (lv' := [(6, .int 0), (5, .int 0), (0, .ref (a 0)), (1, .int t), (2, .int b), (3, .int fr), (4, .int to)]) hx hb dX6_book_53 hl (by decide) rfl (fun ls hl => ?_)
        refine lv_aload_n hx hb dX6_book_55 rfl (lv_at hl 2 rfl) ?_
        refine lv_iload hx hb dX6_book_56 (lv_at hl 1 rfl) ?_
        refine lv_if_ne (tgt := 65) hx hb dX6_book_58 (by decide) (fun c9 => absurd (by decide) c9) (fun _ => ?_)
        refine lv_iconst (v := 1) hx hb dX6_book_61 (by decide) ?_
        refine lv_goto (tgt := 88) hx hb dX6_book_62 (by decide) ?_
        refine MI.callV (As := [.int 1]) (rest := []) ⟨hx, hb, hml, hown, hts⟩ (c_X6_holds l D cI cZ a H.size σ 1) (cwV 1 hts gX6_book_X6_holds rfl rfl rfl (by decide +kernel) ⟨Nat.le_of_ble_eq_true rfl, Nat.le_of_ble_eq_true rfl⟩) hP hK hD hS hA (va_recv hK hP (ci := 6) (q0 := 0) rfl rfl) rfl hl.1 (Nat.le_of_ble_eq_true rfl) (Nat.zero_le _) (Nat.zero_le _) dX6_book_88 rfl (fun r_88 u_88 H locs h_88 hP hD hS => ?_)
        obtain ⟨e_88, h_88⟩ := h_88
        have e_88 := Eq.symm e_88
        subst e_88
        have hP : va_P D vwCl (wM cI cZ a (va_up σ 34 (fun _ => 1))) H := hP
        have hD : va_D A (wM cI cZ a (va_up σ 34 (fun _ => 1))) := hD
        obtain rfl : r_88 = 0 := h_88.trans (by decide)
        refine lv_if_ne (tgt := 96) hx hb dX6_book_91 (by decide) (fun c9 => absurd (by decide) c9) (fun _ => ?_)
        refine lv_iconst (v := 0) hx hb dX6_book_94 (by decide) ?_
        exact MI.ret hx hb hr hlocks hK hP hD hS dX6_book_95 (by exact Or.inl (rf_ (by rw [cdBook, cif_f (fun h => h_2 h.1)]) (by decide)))
    · skip
      have e_30 := Eq.symm e_30
      subst e_30
      have h_30 : ¬ (inR fr (σ 0 0) 5000) := h_30
      refine lv_if_eq (tgt := 52) hx hb dX6_book_33 (by decide) (fun _ => ?_) (fun c9 => absurd (by decide) c9)
      refine lv_iconst (v := 0) hx hb dX6_book_52 (by decide) ?_
      refine lv_istore (lv' := [(6, .int 0), (5, .int 0), (0, .ref (a 0)), (1, .int t), (2, .int b), (3, .int fr), (4, .int to)]) hx hb dX6_book_53 hl (by decide) rfl (fun ls hl => ?_)
      refine lv_aload_n hx hb dX6_book_55 rfl (lv_at hl 2 rfl) ?_
      refine lv_iload hx hb dX6_book_56 (lv_at hl 1 rfl) ?_
      refine lv_if_ne (tgt := 65) hx hb dX6_book_58 (by decide) (fun c9 => absurd (by decide) c9) (fun _ => ?_)
      refine lv_iconst (v := 1) hx hb dX6_book_61 (by decide) ?_
      refine lv_goto (tgt := 88) hx hb dX6_book_62 (by decide) ?_
      refine MI.callV (As := [.int 1]) (rest := []) ⟨hx, hb, hml, hown, hts⟩ (c_X6_holds l D cI cZ a H.size σ 1) (cwV 1 hts gX6_book_X6_holds rfl rfl rfl (by decide +kernel) ⟨Nat.le_of_ble_eq_true rfl, Nat.le_of_ble_eq_true rfl⟩) hP hK hD hS hA (va_recv hK hP (ci := 6) (q0 := 0) rfl rfl) rfl hl.1 (Nat.le_of_ble_eq_true rfl) (Nat.zero_le _) (Nat.zero_le _) dX6_book_88 rfl (fun r_88 u_88 H locs h_88 hP hD hS => ?_)
      obtain ⟨e_88, h_88⟩ := h_88
      have e_88 := Eq.symm e_88
      subst e_88
      have hP : va_P D vwCl (wM cI cZ a (va_up σ 34 (fun _ => 1))) H := hP
      have hD : va_D A (wM cI cZ a (va_up σ 34 (fun _ => 1))) := hD
      obtain rfl : r_88 = 0 := h_88.trans (by decide)
      refine lv_if_ne (tgt := 96) hx hb dX6_book_91 (by decide) (fun c9 => absurd (by decide) c9) (fun _ => ?_)
      refine lv_iconst (v := 0) hx hb dX6_book_94 (by decide) ?_
      exact MI.ret hx hb hr hlocks hK hP hD hS dX6_book_95 (by exact Or.inl (rf_ (by rw [cdBook, cif_f (fun h => h_2 h.1)]) (by decide)))
set_option maxHeartbeats 4000000 in
set_option maxRecDepth 100000 in
/-- the reference: mayBook -/
theorem c_X6_mayBook (l : Launch) (D : va_G) (cI cZ : ClassId) (a : Nat → Nat) (sz : Nat) (σ : St) (t b fr to : Int32) (n : Nat) (hn : σ 3 0 = nI n) (hn4 : n ≤ 4) (nb : Nat) (hnb : σ 13 0 = nI nb) (hnb30 : nb ≤ 30) : MI l yX6_mayBook wsX6_mayBook ({ frames := 2, cells := 0, slots := 0, locals := 43 }) D (ty2 cI cZ) (wM cI cZ a) [.ref (a 0), .int t, .int b, .int fr, .int to] σ sz (fun r u => (¬ cdCan n t b fr to = 0 ∧ u = (va_up σ 34 (fun _ => cdCan n t b fr to)) ∧ r = 0) ∨ (cdCan n t b fr to = 0 ∧ ¬ mts (σ 14) (σ 15) (σ 16) (σ 17) nb t b fr to ∧ u = (va_up σ 34 (fun _ => 0)) ∧ r = 1) ∨ (cdCan n t b fr to = 0 ∧ mts (σ 14) (σ 15) (σ 16) (σ 17) nb t b fr to ∧ u = (va_up σ 34 (fun _ => 0)) ∧ r = 0)) := by
  refine MI.of (cc := cX6_mayBook) (maxL := 7) (by decide) rfl (Nat.le_of_ble_eq_true rfl) ?_
  intro p e s m args below meth c A H locs ls hx hb hr hml hown hts hlocks hA hS hP hK hD hl
  have hl : lv_has ls 7 [(0, .ref (a 0)), (1, .int t), (2, .int b), (3, .int fr), (4, .int to)] := hl
  refine lv_aload_n hx hb dX6_mayBook_0 rfl (lv_at hl 0 rfl) ?_
  refine lv_iload_n hx hb dX6_mayBook_1 rfl (lv_at hl 1 rfl) ?_
  refine MI.callV (As := [.int t]) (rest := []) ⟨hx, hb, hml, hown, hts⟩ (c_X6_isTrain l D cI cZ a H.size σ t n hn hn4) (cwV 1 hts gX6_mayBook_X6_isTrain rfl rfl rfl (by decide +kernel) ⟨Nat.le_of_ble_eq_true rfl, Nat.le_of_ble_eq_true rfl⟩) hP hK hD hS hA (va_recv hK hP (ci := 6) (q0 := 0) rfl rfl) rfl hl.1 (Nat.le_of_ble_eq_true rfl) (Nat.zero_le _) (Nat.zero_le _) dX6_mayBook_2 rfl (fun r_2 u_2 H locs h_2 hP hD hS => ?_)
  rcases h_2 with ⟨e_2, ⟨rfl, h_2⟩ | ⟨rfl, h_2⟩⟩
  · skip
    have e_2 := Eq.symm e_2
    subst e_2
    have h_2 : tr n t := h_2
    refine lv_if_eq (tgt := 19) hx hb dX6_mayBook_5 (by decide) (fun c9 => absurd c9 (by decide)) (fun _ => ?_)
    refine lv_iload_n hx hb dX6_mayBook_8 rfl (lv_at hl 2 rfl) ?_
    refine MI.callS (As := [.int b]) (rest := []) ⟨hx, hb, hml, hown, hts⟩ (c_X6_isBlock l D cI cZ a H.size σ b) (va_cwS 1 hts gX6_mayBook_X6_isBlock rfl rfl rfl (by decide +kernel) ⟨Nat.le_of_ble_eq_true rfl, Nat.le_of_ble_eq_true rfl⟩) hP hK hD hS hA rfl hl.1 (Nat.le_of_ble_eq_true rfl) (Nat.zero_le _) (Nat.zero_le _) dX6_mayBook_9 rfl (fun r_9 u_9 H locs h_9 hP hD hS => ?_)
    rcases h_9 with ⟨e_9, ⟨rfl, h_9⟩ | ⟨rfl, h_9⟩⟩
    · skip
      have e_9 := Eq.symm e_9
      subst e_9
      have h_9 : inR b 0 7 := h_9
      refine lv_if_eq (tgt := 19) hx hb dX6_mayBook_12 (by decide) (fun c9 => absurd c9 (by decide)) (fun _ => ?_)
      refine lv_iconst (v := 1) hx hb dX6_mayBook_15 (by decide) ?_
      refine lv_goto (tgt := 20) hx hb dX6_mayBook_16 (by decide) ?_
      refine lv_istore (lv' := [(5, .int 1), (0, .ref (a 0)), (1, .int t), (2, .int b), (3, .int fr), (4, .int to)]) hx hb dX6_mayBook_20 hl (by decide) rfl (fun ls hl => ?_)
      refine lv_iload_n hx hb dX6_mayBook_22 rfl (lv_at hl 4 rfl) ?_
      refine lv_iconst (v := 0) hx hb dX6_mayBook_23 (by decide) ?_
      refine lv_sipush (v := 5000) hx hb dX6_mayBook_24 (by decide) ?_
      refine MI.callS (As := [.int fr, .int 0, .int 5000]) (rest := []) ⟨hx, hb, hml, hown, hts⟩ (c_X6_in l D cI cZ a H.size σ fr 0 5000) (va_cwS 3 hts gX6_mayBook_X6_in rfl rfl rfl (by decide +kernel) ⟨Nat.le_of_ble_eq_true rfl, Nat.le_of_ble_eq_true rfl⟩) hP hK hD hS hA rfl hl.1 (Nat.le_of_ble_eq_true rfl) (Nat.zero_le _) (Nat.zero_le _) dX6_mayBook_27 rfl (fun r_27 u_27 H locs h_27 hP hD hS => ?_)
      rcases h_27 with ⟨e_27, ⟨rfl, h_27⟩ | ⟨rfl, h_27⟩⟩
      · skip
        have e_27 := Eq.symm e_27
        subst e_27
        have h_27 : inR fr 0 5000 := h_27
        refine lv_if_eq (tgt := 49) hx hb dX6_mayBook_30 (by decide) (fun c9 => absurd c9 (by decide)) (fun _ => ?_)
        refine lv_iload hx hb dX6_mayBook_33 (lv_at hl 5 rfl) ?_
        refine lv_iload_n hx hb dX6_mayBook_35 rfl (lv_at hl 4 rfl) ?_
        refine lv_sipush (v := 5000) hx hb dX6_mayBook_36 (by decide) ?_
        refine MI.callS (As := [.int to, .int fr, .int 5000]) (rest := []) ⟨hx, hb, hml, hown, hts⟩ (c_X6_in l D cI cZ a H.size σ to fr 5000) (va_cwS 3 hts gX6_mayBook_X6_in rfl rfl rfl (by decide +kernel) ⟨Nat.le_of_ble_eq_true rfl, Nat.le_of_ble_eq_true rfl⟩) hP hK hD hS hA rfl hl.1 (Nat.le_of_ble_eq_true rfl) (Nat.zero_le _) (Nat.zero_le _) dX6_mayBook_39 rfl (fun r_39 u_39 H locs h_39 hP hD hS => ?_)
        rcases h_39 with ⟨e_39, ⟨rfl, h_39⟩ | ⟨rfl, h_39⟩⟩
        · skip
          have e_39 := Eq.symm e_39
          subst e_39
          have h_39 : inR to fr 5000 := h_39
          refine lv_if_eq (tgt := 49) hx hb dX6_mayBook_42 (by decide) (fun c9 => absurd c9 (by decide)) (fun _ => ?_)
          refine lv_iconst (v := 1) hx hb dX6_mayBook_45 (by decide) ?_
          refine lv_goto (tgt := 50) hx hb dX6_mayBook_46 (by decide) ?_
          refine lv_istore (lv' := [(6, .int 1), (5, .int 1), (0, .ref (a 0)), (1, .int t), (2, .int b), (3, .int fr), (4, .int to)]) hx hb dX6_mayBook_50 hl (by decide) rfl (fun ls hl => ?_)
          refine lv_aload_n hx hb dX6_mayBook_52 rfl (lv_at hl 2 rfl) ?_
          refine lv_iload hx hb dX6_mayBook_53 (lv_at hl 1 rfl) ?_
          refine lv_if_ne (tgt := 62) hx hb dX6_mayBook_55 (by decide) (fun _ => ?_) (fun c9 => absurd c9 (by decide))
          refine lv_iload hx hb dX6_mayBook_62 (lv_at hl 0 rfl) ?_
          refine lv_if_eq (tgt := 71) hx hb dX6_mayBook_64 (by decide) (fun c9 => absurd c9 (by decide)) (fun _ => ?_)
          refine lv_iconst (v := 0) hx hb dX6_mayBook_67 (by decide) ?_
          refine lv_goto (tgt := 72) hx hb dX6_mayBook_68 (by decide) ?_
          refine MI.callV (As := [.int 0]) (rest := []) ⟨hx, hb, hml, hown, hts⟩ (c_X6_holds l D cI cZ a H.size σ 0) (cwV 1 hts gX6_mayBook_X6_holds rfl rfl rfl (by decide +kernel) ⟨Nat.le_of_ble_eq_true rfl, Nat.le_of_ble_eq_true rfl⟩) hP hK hD hS hA (va_recv hK hP (ci := 6) (q0 := 0) rfl rfl) rfl hl.1 (Nat.le_of_ble_eq_true rfl) (Nat.zero_le _) (Nat.zero_le _) dX6_mayBook_72 rfl (fun r_72 u_72 H locs h_72 hP hD hS => ?_)
          obtain ⟨e_72, h_72⟩ := h_72
          have e_72 := Eq.symm e_72
          subst e_72
          have hP : va_P D vwCl (wM cI cZ a (va_up σ 34 (fun _ => 0))) H := hP
          have hD : va_D A (wM cI cZ a (va_up σ 34 (fun _ => 0))) := hD
          obtain rfl : r_72 = 1 := h_72.trans (by decide)
          refine lv_if_eq (tgt := 94) hx hb dX6_mayBook_75 (by decide) (fun c9 => absurd c9 (by decide)) (fun _ => ?_)
          refine lv_aload_n hx hb dX6_mayBook_78 rfl (lv_at hl 2 rfl) ?_
          refine lv_iload_n hx hb dX6_mayBook_79 rfl (lv_at hl 3 rfl) ?_
          refine lv_iload_n hx hb dX6_mayBook_80 rfl (lv_at hl 4 rfl) ?_
          refine lv_iload_n hx hb dX6_mayBook_81 rfl (lv_at hl 5 rfl) ?_
          refine lv_iload hx hb dX6_mayBook_82 (lv_at hl 6 rfl) ?_
          refine MI.callV (As := [.int t, .int b, .int fr, .int to]) (rest := []) ⟨hx, hb, hml, hown, hts⟩ (c_X6_meets l D cI cZ a H.size (va_up σ 34 (fun _ => 0)) t b fr to nb hnb hnb30) (cwV 4 hts gX6_mayBook_X6_meets rfl rfl rfl (by decide +kernel) ⟨Nat.le_of_ble_eq_true rfl, Nat.le_of_ble_eq_true rfl⟩) hP hK hD hS hA (va_recv hK hP (ci := 6) (q0 := 0) rfl rfl) rfl hl.1 (Nat.le_of_ble_eq_true rfl) (Nat.zero_le _) (Nat.zero_le _) dX6_mayBook_84 rfl (fun r_84 u_84 H locs h_84 hP hD hS => ?_)
          rcases h_84 with ⟨e_84, ⟨rfl, h_84⟩ | ⟨rfl, h_84⟩⟩
          · skip
            have e_84 := Eq.symm e_84
            subst e_84
            have h_84 : mts (σ 14) (σ 15) (σ 16) (σ 17) nb t b fr to := h_84
            refine lv_if_ne (tgt := 94) hx hb dX6_mayBook_87 (by decide) (fun _ => ?_) (fun c9 => absurd c9 (by decide))
            refine lv_iconst (v := 0) hx hb dX6_mayBook_94 (by decide) ?_
            exact MI.zret hx hb hr hlocks hK hP hD hS dX6_mayBook_95 rfl (by exact Or.inr (Or.inr ⟨by rw [cdCan, cif_t ⟨h_2, h_9⟩, cif_t ⟨h_27, h_39⟩], h_84, rfl, rfl⟩))
          · skip
            have e_84 := Eq.symm e_84
            subst e_84
            have h_84 : ¬ (mts (σ 14) (σ 15) (σ 16) (σ 17) nb t b fr to) := h_84
            refine lv_if_ne (tgt := 94) hx hb dX6_mayBook_87 (by decide) (fun c9 => absurd (by decide) c9) (fun _ => ?_)
            refine lv_iconst (v := 1) hx hb dX6_mayBook_90 (by decide) ?_
            refine lv_goto (tgt := 95) hx hb dX6_mayBook_91 (by decide) ?_
            exact MI.zret hx hb hr hlocks hK hP hD hS dX6_mayBook_95 rfl (by exact Or.inr (Or.inl ⟨by rw [cdCan, cif_t ⟨h_2, h_9⟩, cif_t ⟨h_27, h_39⟩], h_84, rfl, rfl⟩))
        · skip
          have e_39 := Eq.symm e_39
          subst e_39
          have h_39 : ¬ (inR to fr 5000) := h_39
          refine lv_if_eq (tgt := 49) hx hb dX6_mayBook_42 (by decide) (fun _ => ?_) (fun c9 => absurd (by decide) c9)
          refine lv_iconst (v := 0) hx hb dX6_mayBook_49 (by decide) ?_
          refine lv_istore (lv' := [(6, .int 0), (5, .int 1), (0, .ref (a 0)), (1, .int t), (2, .int b), (3, .int fr), (4, .int to)]) hx hb dX6_mayBook_50 hl (by decide) rfl (fun ls hl => ?_)
          refine lv_aload_n hx hb dX6_mayBook_52 rfl (lv_at hl 2 rfl) ?_
          refine lv_iload hx hb dX6_mayBook_53 (lv_at hl 1 rfl) ?_
          refine lv_if_ne (tgt := 62) hx hb dX6_mayBook_55 (by decide) (fun _ => ?_) (fun c9 => absurd c9 (by decide))
          refine lv_iload hx hb dX6_mayBook_62 (lv_at hl 0 rfl) ?_
          refine lv_if_eq (tgt := 71) hx hb dX6_mayBook_64 (by decide) (fun _ => ?_) (fun c9 => absurd (by decide) c9)
          refine lv_iconst (v := 2) hx hb dX6_mayBook_71 (by decide) ?_
          refine MI.callV (As := [.int 2]) (rest := []) ⟨hx, hb, hml, hown, hts⟩ (c_X6_holds l D cI cZ a H.size σ 2) (cwV 1 hts gX6_mayBook_X6_holds rfl rfl rfl (by decide +kernel) ⟨Nat.le_of_ble_eq_true rfl, Nat.le_of_ble_eq_true rfl⟩) hP hK hD hS hA (va_recv hK hP (ci := 6) (q0 := 0) rfl rfl) rfl hl.1 (Nat.le_of_ble_eq_true rfl) (Nat.zero_le _) (Nat.zero_le _) dX6_mayBook_72 rfl (fun r_72 u_72 H locs h_72 hP hD hS => ?_)
          obtain ⟨e_72, h_72⟩ := h_72
          have e_72 := Eq.symm e_72
          subst e_72
          have hP : va_P D vwCl (wM cI cZ a (va_up σ 34 (fun _ => 2))) H := hP
          have hD : va_D A (wM cI cZ a (va_up σ 34 (fun _ => 2))) := hD
          obtain rfl : r_72 = 0 := h_72.trans (by decide)
          refine lv_if_eq (tgt := 94) hx hb dX6_mayBook_75 (by decide) (fun _ => ?_) (fun c9 => absurd (by decide) c9)
          refine lv_iconst (v := 0) hx hb dX6_mayBook_94 (by decide) ?_
          exact MI.zret hx hb hr hlocks hK hP hD hS dX6_mayBook_95 rfl (by obtain ⟨q1, q2⟩ := rf_ (σ := σ) (show cdCan n t b fr to = 2 from by rw [cdCan, cif_t ⟨h_2, h_9⟩, cif_f (fun h => h_39 h.2)]) (by decide); exact Or.inl ⟨q1, q2, rfl⟩)
      · skip
        have e_27 := Eq.symm e_27
        subst e_27
        have h_27 : ¬ (inR fr 0 5000) := h_27
        refine lv_if_eq (tgt := 49) hx hb dX6_mayBook_30 (by decide) (fun _ => ?_) (fun c9 => absurd (by decide) c9)
        refine lv_iconst (v := 0) hx hb dX6_mayBook_49 (by decide) ?_
        refine lv_istore (lv' := [(6, .int 0), (5, .int 1), (0, .ref (a 0)), (1, .int t), (2, .int b), (3, .int fr), (4, .int to)]) hx hb dX6_mayBook_50 hl (by decide) rfl (fun ls hl => ?_)
        refine lv_aload_n hx hb dX6_mayBook_52 rfl (lv_at hl 2 rfl) ?_
        refine lv_iload hx hb dX6_mayBook_53 (lv_at hl 1 rfl) ?_
        refine lv_if_ne (tgt := 62) hx hb dX6_mayBook_55 (by decide) (fun _ => ?_) (fun c9 => absurd c9 (by decide))
        refine lv_iload hx hb dX6_mayBook_62 (lv_at hl 0 rfl) ?_
        refine lv_if_eq (tgt := 71) hx hb dX6_mayBook_64 (by decide) (fun _ => ?_) (fun c9 => absurd (by decide) c9)
        refine lv_iconst (v := 2) hx hb dX6_mayBook_71 (by decide) ?_
        refine MI.callV (As := [.int 2]) (rest := []) ⟨hx, hb, hml, hown, hts⟩ (c_X6_holds l D cI cZ a H.size σ 2) (cwV 1 hts gX6_mayBook_X6_holds rfl rfl rfl (by decide +kernel) ⟨Nat.le_of_ble_eq_true rfl, Nat.le_of_ble_eq_true rfl⟩) hP hK hD hS hA (va_recv hK hP (ci := 6) (q0 := 0) rfl rfl) rfl hl.1 (Nat.le_of_ble_eq_true rfl) (Nat.zero_le _) (Nat.zero_le _) dX6_mayBook_72 rfl (fun r_72 u_72 H locs h_72 hP hD hS => ?_)
        obtain ⟨e_72, h_72⟩ := h_72
        have e_72 := Eq.symm e_72
        subst e_72
        have hP : va_P D vwCl (wM cI cZ a (va_up σ 34 (fun _ => 2))) H := hP
        have hD : va_D A (wM cI cZ a (va_up σ 34 (fun _ => 2))) := hD
        obtain rfl : r_72 = 0 := h_72.trans (by decide)
        refine lv_if_eq (tgt := 94) hx hb dX6_mayBook_75 (by decide) (fun _ => ?_) (fun c9 => absurd (by decide) c9)
        refine lv_iconst (v := 0) hx hb dX6_mayBook_94 (by decide) ?_
        exact MI.zret hx hb hr hlocks hK hP hD hS dX6_mayBook_95 rfl (by obtain ⟨q1, q2⟩ := rf_ (σ := σ) (show cdCan n t b fr to = 2 from by rw [cdCan, cif_t ⟨h_2, h_9⟩, cif_f (fun h => h_27 h.1)]) (by decide); exact Or.inl ⟨q1, q2, rfl⟩)
    · skip
      have e_9 := Eq.symm e_9
      subst e_9
      have h_9 : ¬ (inR b 0 7) := h_9
      refine lv_if_eq (tgt := 19) hx hb dX6_mayBook_12 (by decide) (fun _ => ?_) (fun c9 => absurd (by decide) c9)
      refine lv_iconst (v := 0) hx hb dX6_mayBook_19 (by decide) ?_
      refine lv_istore (lv' := [(5, .int 0), (0, .ref (a 0)), (1, .int t), (2, .int b), (3, .int fr), (4, .int to)]) hx hb dX6_mayBook_20 hl (by decide) rfl (fun ls hl => ?_)
      refine lv_iload_n hx hb dX6_mayBook_22 rfl (lv_at hl 4 rfl) ?_
      refine lv_iconst (v := 0) hx hb dX6_mayBook_23 (by decide) ?_
      refine lv_sipush (v := 5000) hx hb dX6_mayBook_24 (by decide) ?_
      refine MI.callS (As := [.int fr, .int 0, .int 5000]) (rest := []) ⟨hx, hb, hml, hown, hts⟩ (c_X6_in l D cI cZ a H.size σ fr 0 5000) (va_cwS 3 hts gX6_mayBook_X6_in rfl rfl rfl (by decide +kernel) ⟨Nat.le_of_ble_eq_true rfl, Nat.le_of_ble_eq_true rfl⟩) hP hK hD hS hA rfl hl.1 (Nat.le_of_ble_eq_true rfl) (Nat.zero_le _) (Nat.zero_le _) dX6_mayBook_27 rfl (fun r_27 u_27 H locs h_27 hP hD hS => ?_)
      rcases h_27 with ⟨e_27, ⟨rfl, h_27⟩ | ⟨rfl, h_27⟩⟩
      · skip
        have e_27 := Eq.symm e_27
        subst e_27
        have h_27 : inR fr 0 5000 := h_27
        refine lv_if_eq (tgt := 49) hx hb dX6_mayBook_30 (by decide) (fun c9 => absurd c9 (by decide)) (fun _ => ?_)
        refine lv_iload hx hb dX6_mayBook_33 (lv_at hl 5 rfl) ?_
        refine lv_iload_n hx hb dX6_mayBook_35 rfl (lv_at hl 4 rfl) ?_
        refine lv_sipush (v := 5000) hx hb dX6_mayBook_36 (by decide) ?_
        refine MI.callS (As := [.int to, .int fr, .int 5000]) (rest := []) ⟨hx, hb, hml, hown, hts⟩ (c_X6_in l D cI cZ a H.size σ to fr 5000) (va_cwS 3 hts gX6_mayBook_X6_in rfl rfl rfl (by decide +kernel) ⟨Nat.le_of_ble_eq_true rfl, Nat.le_of_ble_eq_true rfl⟩) hP hK hD hS hA rfl hl.1 (Nat.le_of_ble_eq_true rfl) (Nat.zero_le _) (Nat.zero_le _) dX6_mayBook_39 rfl (fun r_39 u_39 H locs h_39 hP hD hS => ?_)
        rcases h_39 with ⟨e_39, ⟨rfl, h_39⟩ | ⟨rfl, h_39⟩⟩
        · skip
          have e_39 := Eq.symm e_39
          subst e_39
          have h_39 : inR to fr 5000 := h_39
          refine lv_if_eq (tgt := 49) hx hb dX6_mayBook_42 (by decide) (fun c9 => absurd c9 (by decide)) (fun _ => ?_)
          refine lv_iconst (v := 1) hx hb dX6_mayBook_45 (by decide) ?_
          refine lv_goto (tgt := 50) hx hb dX6_mayBook_46 (by decide) ?_
          refine lv_istore (lv' := [(6, .int 1), (5, .int 0), (0, .ref (a 0)), (1, .int t), (2, .int b), (3, .int fr), (4, .int to)]) hx hb dX6_mayBook_50 hl (by decide) rfl (fun ls hl => ?_)
          refine lv_aload_n hx hb dX6_mayBook_52 rfl (lv_at hl 2 rfl) ?_
          refine lv_iload hx hb dX6_mayBook_53 (lv_at hl 1 rfl) ?_
          refine lv_if_ne (tgt := 62) hx hb dX6_mayBook_55 (by decide) (fun c9 => absurd (by decide) c9) (fun _ => ?_)
          refine lv_iconst (v := 1) hx hb dX6_mayBook_58 (by decide) ?_
          refine lv_goto (tgt := 72) hx hb dX6_mayBook_59 (by decide) ?_
          refine MI.callV (As := [.int 1]) (rest := []) ⟨hx, hb, hml, hown, hts⟩ (c_X6_holds l D cI cZ a H.size σ 1) (cwV 1 hts gX6_mayBook_X6_holds rfl rfl rfl (by decide +kernel) ⟨Nat.le_of_ble_eq_true rfl, Nat.le_of_ble_eq_true rfl⟩) hP hK hD hS hA (va_recv hK hP (ci := 6) (q0 := 0) rfl rfl) rfl hl.1 (Nat.le_of_ble_eq_true rfl) (Nat.zero_le _) (Nat.zero_le _) dX6_mayBook_72 rfl (fun r_72 u_72 H locs h_72 hP hD hS => ?_)
          obtain ⟨e_72, h_72⟩ := h_72
          have e_72 := Eq.symm e_72
          subst e_72
          have hP : va_P D vwCl (wM cI cZ a (va_up σ 34 (fun _ => 1))) H := hP
          have hD : va_D A (wM cI cZ a (va_up σ 34 (fun _ => 1))) := hD
          obtain rfl : r_72 = 0 := h_72.trans (by decide)
          refine lv_if_eq (tgt := 94) hx hb dX6_mayBook_75 (by decide) (fun _ => ?_) (fun c9 => absurd (by decide) c9)
          refine lv_iconst (v := 0) hx hb dX6_mayBook_94 (by decide) ?_
          exact MI.zret hx hb hr hlocks hK hP hD hS dX6_mayBook_95 rfl (by obtain ⟨q1, q2⟩ := rf_ (σ := σ) (show cdCan n t b fr to = 1 from by rw [cdCan, cif_f (fun h => h_9 h.2)]) (by decide); exact Or.inl ⟨q1, q2, rfl⟩)
        · skip
          have e_39 := Eq.symm e_39
          subst e_39
          have h_39 : ¬ (inR to fr 5000) := h_39
          refine lv_if_eq (tgt := 49) hx hb dX6_mayBook_42 (by decide) (fun _ => ?_) (fun c9 => absurd (by decide) c9)
          refine lv_iconst (v := 0) hx hb dX6_mayBook_49 (by decide) ?_
          refine lv_istore (lv' := [(6, .int 0), (5, .int 0), (0, .ref (a 0)), (1, .int t), (2, .int b), (3, .int fr), (4, .int to)]) hx hb dX6_mayBook_50 hl (by decide) rfl (fun ls hl => ?_)
          refine lv_aload_n hx hb dX6_mayBook_52 rfl (lv_at hl 2 rfl) ?_
          refine lv_iload hx hb dX6_mayBook_53 (lv_at hl 1 rfl) ?_
          refine lv_if_ne (tgt := 62) hx hb dX6_mayBook_55 (by decide) (fun c9 => absurd (by decide) c9) (fun _ => ?_)
          refine lv_iconst (v := 1) hx hb dX6_mayBook_58 (by decide) ?_
          refine lv_goto (tgt := 72) hx hb dX6_mayBook_59 (by decide) ?_
          refine MI.callV (As := [.int 1]) (rest := []) ⟨hx, hb, hml, hown, hts⟩ (c_X6_holds l D cI cZ a H.size σ 1) (cwV 1 hts gX6_mayBook_X6_holds rfl rfl rfl (by decide +kernel) ⟨Nat.le_of_ble_eq_true rfl, Nat.le_of_ble_eq_true rfl⟩) hP hK hD hS hA (va_recv hK hP (ci := 6) (q0 := 0) rfl rfl) rfl hl.1 (Nat.le_of_ble_eq_true rfl) (Nat.zero_le _) (Nat.zero_le _) dX6_mayBook_72 rfl (fun r_72 u_72 H locs h_72 hP hD hS => ?_)
          obtain ⟨e_72, h_72⟩ := h_72
          have e_72 := Eq.symm e_72
          subst e_72
          have hP : va_P D vwCl (wM cI cZ a (va_up σ 34 (fun _ => 1))) H := hP
          have hD : va_D A (wM cI cZ a (va_up σ 34 (fun _ => 1))) := hD
          obtain rfl : r_72 = 0 := h_72.trans (by decide)
          refine lv_if_eq (tgt := 94) hx hb dX6_mayBook_75 (by decide) (fun _ => ?_) (fun c9 => absurd (by decide) c9)
          refine lv_iconst (v := 0) hx hb dX6_mayBook_94 (by decide) ?_
          exact MI.zret hx hb hr hlocks hK hP hD hS dX6_mayBook_95 rfl (by obtain ⟨q1, q2⟩ := rf_ (σ := σ) (show cdCan n t b fr to = 1 from by rw [cdCan, cif_f (fun h => h_9 h.2)]) (by decide); exact Or.inl ⟨q1, q2, rfl⟩)
      · skip
        have e_27 := Eq.symm e_27
        subst e_27
        have h_27 : ¬ (inR fr 0 5000) := h_27
        refine lv_if_eq (tgt := 49) hx hb dX6_mayBook_30 (by decide) (fun _ => ?_) (fun c9 => absurd (by decide) c9)
        refine lv_iconst (v := 0) hx hb dX6_mayBook_49 (by decide) ?_
        refine lv_istore (lv' := [(6, .int 0), (5, .int 0), (0, .ref (a 0)), (1, .int t), (2, .int b), (3, .int fr), (4, .int to)]) hx hb dX6_mayBook_50 hl (by decide) rfl (fun ls hl => ?_)
        refine lv_aload_n hx hb dX6_mayBook_52 rfl (lv_at hl 2 rfl) ?_
        refine lv_iload hx hb dX6_mayBook_53 (lv_at hl 1 rfl) ?_
        refine lv_if_ne (tgt := 62) hx hb dX6_mayBook_55 (by decide) (fun c9 => absurd (by decide) c9) (fun _ => ?_)
        refine lv_iconst (v := 1) hx hb dX6_mayBook_58 (by decide) ?_
        refine lv_goto (tgt := 72) hx hb dX6_mayBook_59 (by decide) ?_
        refine MI.callV (As := [.int 1]) (rest := []) ⟨hx, hb, hml, hown, hts⟩ (c_X6_holds l D cI cZ a H.size σ 1) (cwV 1 hts gX6_mayBook_X6_holds rfl rfl rfl (by decide +kernel) ⟨Nat.le_of_ble_eq_true rfl, Nat.le_of_ble_eq_true rfl⟩) hP hK hD hS hA (va_recv hK hP (ci := 6) (q0 := 0) rfl rfl) rfl hl.1 (Nat.le_of_ble_eq_true rfl) (Nat.zero_le _) (Nat.zero_le _) dX6_mayBook_72 rfl (fun r_72 u_72 H locs h_72 hP hD hS => ?_)
        obtain ⟨e_72, h_72⟩ := h_72
        have e_72 := Eq.symm e_72
        subst e_72
        have hP : va_P D vwCl (wM cI cZ a (va_up σ 34 (fun _ => 1))) H := hP
        have hD : va_D A (wM cI cZ a (va_up σ 34 (fun _ => 1))) := hD
        obtain rfl : r_72 = 0 := h_72.trans (by decide)
        refine lv_if_eq (tgt := 94) hx hb dX6_mayBook_75 (by decide) (fun _ => ?_) (fun c9 => absurd (by decide) c9)
        refine lv_iconst (v := 0) hx hb dX6_mayBook_94 (by decide) ?_
        exact MI.zret hx hb hr hlocks hK hP hD hS dX6_mayBook_95 rfl (by obtain ⟨q1, q2⟩ := rf_ (σ := σ) (show cdCan n t b fr to = 1 from by rw [cdCan, cif_f (fun h => h_9 h.2)]) (by decide); exact Or.inl ⟨q1, q2, rfl⟩)
  · skip
    have e_2 := Eq.symm e_2
    subst e_2
    have h_2 : ¬ (tr n t) := h_2
    refine lv_if_eq (tgt := 19) hx hb dX6_mayBook_5 (by decide) (fun _ => ?_) (fun c9 => absurd (by decide) c9)
    refine lv_iconst (v := 0) hx hb dX6_mayBook_19 (by decide) ?_
    refine lv_istore (lv' := [(5, .int 0), (0, .ref (a 0)), (1, .int t), (2, .int b), (3, .int fr), (4, .int to)]) hx hb dX6_mayBook_20 hl (by decide) rfl (fun ls hl => ?_)
    refine lv_iload_n hx hb dX6_mayBook_22 rfl (lv_at hl 4 rfl) ?_
    refine lv_iconst (v := 0) hx hb dX6_mayBook_23 (by decide) ?_
    refine lv_sipush (v := 5000) hx hb dX6_mayBook_24 (by decide) ?_
    refine MI.callS (As := [.int fr, .int 0, .int 5000]) (rest := []) ⟨hx, hb, hml, hown, hts⟩ (c_X6_in l D cI cZ a H.size σ fr 0 5000) (va_cwS 3 hts gX6_mayBook_X6_in rfl rfl rfl (by decide +kernel) ⟨Nat.le_of_ble_eq_true rfl, Nat.le_of_ble_eq_true rfl⟩) hP hK hD hS hA rfl hl.1 (Nat.le_of_ble_eq_true rfl) (Nat.zero_le _) (Nat.zero_le _) dX6_mayBook_27 rfl (fun r_27 u_27 H locs h_27 hP hD hS => ?_)
    rcases h_27 with ⟨e_27, ⟨rfl, h_27⟩ | ⟨rfl, h_27⟩⟩
    · skip
      have e_27 := Eq.symm e_27
      subst e_27
      have h_27 : inR fr 0 5000 := h_27
      refine lv_if_eq (tgt := 49) hx hb dX6_mayBook_30 (by decide) (fun c9 => absurd c9 (by decide)) (fun _ => ?_)
      refine lv_iload hx hb dX6_mayBook_33 (lv_at hl 5 rfl) ?_
      refine lv_iload_n hx hb dX6_mayBook_35 rfl (lv_at hl 4 rfl) ?_
      refine lv_sipush (v := 5000) hx hb dX6_mayBook_36 (by decide) ?_
      refine MI.callS (As := [.int to, .int fr, .int 5000]) (rest := []) ⟨hx, hb, hml, hown, hts⟩ (c_X6_in l D cI cZ a H.size σ to fr 5000) (va_cwS 3 hts gX6_mayBook_X6_in rfl rfl rfl (by decide +kernel) ⟨Nat.le_of_ble_eq_true rfl, Nat.le_of_ble_eq_true rfl⟩) hP hK hD hS hA rfl hl.1 (Nat.le_of_ble_eq_true rfl) (Nat.zero_le _) (Nat.zero_le _) dX6_mayBook_39 rfl (fun r_39 u_39 H locs h_39 hP hD hS => ?_)
      rcases h_39 with ⟨e_39, ⟨rfl, h_39⟩ | ⟨rfl, h_39⟩⟩
      · skip
        have e_39 := Eq.symm e_39
        subst e_39
        have h_39 : inR to fr 5000 := h_39
        refine lv_if_eq (tgt := 49) hx hb dX6_mayBook_42 (by decide) (fun c9 => absurd c9 (by decide)) (fun _ => ?_)
        refine lv_iconst (v := 1) hx hb dX6_mayBook_45 (by decide) ?_
        refine lv_goto (tgt := 50) hx hb dX6_mayBook_46 (by decide) ?_
        refine lv_istore (lv' := [(6, .int 1), (5, .int 0), (0, .ref (a 0)), (1, .int t), (2, .int b), (3, .int fr), (4, .int to)]) hx hb dX6_mayBook_50 hl (by decide) rfl (fun ls hl => ?_)
        refine lv_aload_n hx hb dX6_mayBook_52 rfl (lv_at hl 2 rfl) ?_
        refine lv_iload hx hb dX6_mayBook_53 (lv_at hl 1 rfl) ?_
        refine lv_if_ne (tgt := 62) hx hb dX6_mayBook_55 (by decide) (fun c9 => absurd (by decide) c9) (fun _ => ?_)
        refine lv_iconst (v := 1) hx hb dX6_mayBook_58 (by decide) ?_
        refine lv_goto (tgt := 72) hx hb dX6_mayBook_59 (by decide) ?_
        refine MI.callV (As := [.int 1]) (rest := []) ⟨hx, hb, hml, hown, hts⟩ (c_X6_holds l D cI cZ a H.size σ 1) (cwV 1 hts gX6_mayBook_X6_holds rfl rfl rfl (by decide +kernel) ⟨Nat.le_of_ble_eq_true rfl, Nat.le_of_ble_eq_true rfl⟩) hP hK hD hS hA (va_recv hK hP (ci := 6) (q0 := 0) rfl rfl) rfl hl.1 (Nat.le_of_ble_eq_true rfl) (Nat.zero_le _) (Nat.zero_le _) dX6_mayBook_72 rfl (fun r_72 u_72 H locs h_72 hP hD hS => ?_)
        obtain ⟨e_72, h_72⟩ := h_72
        have e_72 := Eq.symm e_72
        subst e_72
        have hP : va_P D vwCl (wM cI cZ a (va_up σ 34 (fun _ => 1))) H := hP
        have hD : va_D A (wM cI cZ a (va_up σ 34 (fun _ => 1))) := hD
        obtain rfl : r_72 = 0 := h_72.trans (by decide)
        refine lv_if_eq (tgt := 94) hx hb dX6_mayBook_75 (by decide) (fun _ => ?_) (fun c9 => absurd (by decide) c9)
        refine lv_iconst (v := 0) hx hb dX6_mayBook_94 (by decide) ?_
        exact MI.zret hx hb hr hlocks hK hP hD hS dX6_mayBook_95 rfl (by obtain ⟨q1, q2⟩ := rf_ (σ := σ) (show cdCan n t b fr to = 1 from by rw [cdCan, cif_f (fun h => h_2 h.1)]) (by decide); exact Or.inl ⟨q1, q2, rfl⟩)
      · skip
        have e_39 := Eq.symm e_39
        subst e_39
        have h_39 : ¬ (inR to fr 5000) := h_39
        refine lv_if_eq (tgt := 49) hx hb dX6_mayBook_42 (by decide) (fun _ => ?_) (fun c9 => absurd (by decide) c9)
        refine lv_iconst (v := 0) hx hb dX6_mayBook_49 (by decide) ?_
        refine lv_istore (lv' := [(6, .int 0), (5, .int 0), (0, .ref (a 0)), (1, .int t), (2, .int b), (3, .int fr), (4, .int to)]) hx hb dX6_mayBook_50 hl (by decide) rfl (fun ls hl => ?_)
        refine lv_aload_n hx hb dX6_mayBook_52 rfl (lv_at hl 2 rfl) ?_
        refine lv_iload hx hb dX6_mayBook_53 (lv_at hl 1 rfl) ?_
        refine lv_if_ne (tgt := 62) hx hb dX6_mayBook_55 (by decide) (fun c9 => absurd (by decide) c9) (fun _ => ?_)
        refine lv_iconst (v := 1) hx hb dX6_mayBook_58 (by decide) ?_
        refine lv_goto (tgt := 72) hx hb dX6_mayBook_59 (by decide) ?_
        refine MI.callV (As := [.int 1]) (rest := []) ⟨hx, hb, hml, hown, hts⟩ (c_X6_holds l D cI cZ a H.size σ 1) (cwV 1 hts gX6_mayBook_X6_holds rfl rfl rfl (by decide +kernel) ⟨Nat.le_of_ble_eq_true rfl, Nat.le_of_ble_eq_true rfl⟩) hP hK hD hS hA (va_recv hK hP (ci := 6) (q0 := 0) rfl rfl) rfl hl.1 (Nat.le_of_ble_eq_true rfl) (Nat.zero_le _) (Nat.zero_le _) dX6_mayBook_72 rfl (fun r_72 u_72 H locs h_72 hP hD hS => ?_)
        obtain ⟨e_72, h_72⟩ := h_72
        have e_72 := Eq.symm e_72
        subst e_72
        have hP : va_P D vwCl (wM cI cZ a (va_up σ 34 (fun _ => 1))) H := hP
        have hD : va_D A (wM cI cZ a (va_up σ 34 (fun _ => 1))) := hD
        obtain rfl : r_72 = 0 := h_72.trans (by decide)
        refine lv_if_eq (tgt := 94) hx hb dX6_mayBook_75 (by decide) (fun _ => ?_) (fun c9 => absurd (by decide) c9)
        refine lv_iconst (v := 0) hx hb dX6_mayBook_94 (by decide) ?_
        exact MI.zret hx hb hr hlocks hK hP hD hS dX6_mayBook_95 rfl (by obtain ⟨q1, q2⟩ := rf_ (σ := σ) (show cdCan n t b fr to = 1 from by rw [cdCan, cif_f (fun h => h_2 h.1)]) (by decide); exact Or.inl ⟨q1, q2, rfl⟩)
    · skip
      have e_27 := Eq.symm e_27
      subst e_27
      have h_27 : ¬ (inR fr 0 5000) := h_27
      refine lv_if_eq (tgt := 49) hx hb dX6_mayBook_30 (by decide) (fun _ => ?_) (fun c9 => absurd (by decide) c9)
      refine lv_iconst (v := 0) hx hb dX6_mayBook_49 (by decide) ?_
      refine lv_istore (lv' := [(6, .int 0), (5, .int 0), (0, .ref (a 0)), (1, .int t), (2, .int b), (3, .int fr), (4, .int to)]) hx hb dX6_mayBook_50 hl (by decide) rfl (fun ls hl => ?_)
      refine lv_aload_n hx hb dX6_mayBook_52 rfl (lv_at hl 2 rfl) ?_
      refine lv_iload hx hb dX6_mayBook_53 (lv_at hl 1 rfl) ?_
      refine lv_if_ne (tgt := 62) hx hb dX6_mayBook_55 (by decide) (fun c9 => absurd (by decide) c9) (fun _ => ?_)
      refine lv_iconst (v := 1) hx hb dX6_mayBook_58 (by decide) ?_
      refine lv_goto (tgt := 72) hx hb dX6_mayBook_59 (by decide) ?_
      refine MI.callV (As := [.int 1]) (rest := []) ⟨hx, hb, hml, hown, hts⟩ (c_X6_holds l D cI cZ a H.size σ 1) (cwV 1 hts gX6_mayBook_X6_holds rfl rfl rfl (by decide +kernel) ⟨Nat.le_of_ble_eq_true rfl, Nat.le_of_ble_eq_true rfl⟩) hP hK hD hS hA (va_recv hK hP (ci := 6) (q0 := 0) rfl rfl) rfl hl.1 (Nat.le_of_ble_eq_true rfl) (Nat.zero_le _) (Nat.zero_le _) dX6_mayBook_72 rfl (fun r_72 u_72 H locs h_72 hP hD hS => ?_)
      obtain ⟨e_72, h_72⟩ := h_72
      have e_72 := Eq.symm e_72
      subst e_72
      have hP : va_P D vwCl (wM cI cZ a (va_up σ 34 (fun _ => 1))) H := hP
      have hD : va_D A (wM cI cZ a (va_up σ 34 (fun _ => 1))) := hD
      obtain rfl : r_72 = 0 := h_72.trans (by decide)
      refine lv_if_eq (tgt := 94) hx hb dX6_mayBook_75 (by decide) (fun _ => ?_) (fun c9 => absurd (by decide) c9)
      refine lv_iconst (v := 0) hx hb dX6_mayBook_94 (by decide) ?_
      exact MI.zret hx hb hr hlocks hK hP hD hS dX6_mayBook_95 rfl (by obtain ⟨q1, q2⟩ := rf_ (σ := σ) (show cdCan n t b fr to = 1 from by rw [cdCan, cif_f (fun h => h_2 h.1)]) (by decide); exact Or.inl ⟨q1, q2, rfl⟩)
set_option maxHeartbeats 4000000 in
set_option maxRecDepth 100000 in
/-- the reference: canBook -/
theorem c_X6_canBook (l : Launch) (D : va_G) (cI cZ : ClassId) (a : Nat → Nat) (sz : Nat) (σ : St) (t b fr to : Int32) (n : Nat) (hn : σ 3 0 = nI n) (hn4 : n ≤ 4) (nb : Nat) (hnb : σ 13 0 = nI nb) (hnb30 : nb ≤ 30) : MI l yX6_canBook wsX6_canBook ({ frames := 3, cells := 0, slots := 0, locals := 69 }) D (ty2 cI cZ) (wM cI cZ a) [.ref (a 0), .int t, .int b, .int fr, .int to] σ sz (fun r u => (¬ cdCan n t b fr to = 0 ∧ u = (va_up σ 34 (fun _ => cdCan n t b fr to)) ∧ r = 0) ∨ (cdCan n t b fr to = 0 ∧ ¬ mts (σ 14) (σ 15) (σ 16) (σ 17) nb t b fr to ∧ u = (va_up σ 34 (fun _ => 0)) ∧ r = 1) ∨ (cdCan n t b fr to = 0 ∧ mts (σ 14) (σ 15) (σ 16) (σ 17) nb t b fr to ∧ u = (va_up σ 34 (fun _ => 0)) ∧ r = 0)) := by
  refine MI.of (cc := cX6_canBook) (maxL := 5) (by decide) rfl (Nat.le_of_ble_eq_true rfl) ?_
  intro p e s m args below meth c A H locs ls hx hb hr hml hown hts hlocks hA hS hP hK hD hl
  have hl : lv_has ls 5 [(0, .ref (a 0)), (1, .int t), (2, .int b), (3, .int fr), (4, .int to)] := hl
  refine lv_aload_n hx hb dX6_canBook_0 rfl (lv_at hl 0 rfl) ?_
  refine lv_iload_n hx hb dX6_canBook_1 rfl (lv_at hl 1 rfl) ?_
  refine lv_iload_n hx hb dX6_canBook_2 rfl (lv_at hl 2 rfl) ?_
  refine lv_iload_n hx hb dX6_canBook_3 rfl (lv_at hl 3 rfl) ?_
  refine lv_iload hx hb dX6_canBook_4 (lv_at hl 4 rfl) ?_
  refine MI.callV (As := [.int t, .int b, .int fr, .int to]) (rest := []) ⟨hx, hb, hml, hown, hts⟩ (c_X6_mayBook l D cI cZ a H.size σ t b fr to n hn hn4 nb hnb hnb30) (cwV 4 hts gX6_canBook_X6_mayBook rfl rfl rfl (by decide +kernel) ⟨Nat.le_of_ble_eq_true rfl, Nat.le_of_ble_eq_true rfl⟩) hP hK hD hS hA (va_recv hK hP (ci := 6) (q0 := 0) rfl rfl) rfl hl.1 (Nat.le_of_ble_eq_true rfl) (Nat.zero_le _) (Nat.zero_le _) dX6_canBook_6 rfl (fun r_6 u_6 H locs h_6 hP hD hS => ?_)
  rcases h_6 with ⟨h_6, e_6, rfl⟩ | ⟨h_6, hm_6, e_6, rfl⟩ | ⟨h_6, hm_6, e_6, rfl⟩
  · skip
    have e_6 := Eq.symm e_6
    subst e_6
    have hP : va_P D vwCl (wM cI cZ a (va_up σ 34 (fun _ => cdCan n t b fr to))) H := hP
    have hD : va_D A (wM cI cZ a (va_up σ 34 (fun _ => cdCan n t b fr to))) := hD
    exact MI.zret hx hb hr hlocks hK hP hD hS dX6_canBook_9 rfl (by exact Or.inl ⟨h_6, rfl, rfl⟩)
  · skip
    have e_6 := Eq.symm e_6
    subst e_6
    have hP : va_P D vwCl (wM cI cZ a (va_up σ 34 (fun _ => 0))) H := hP
    have hD : va_D A (wM cI cZ a (va_up σ 34 (fun _ => 0))) := hD
    exact MI.zret hx hb hr hlocks hK hP hD hS dX6_canBook_9 rfl (by exact Or.inr (Or.inl ⟨h_6, hm_6, rfl, rfl⟩))
  · skip
    have e_6 := Eq.symm e_6
    subst e_6
    have hP : va_P D vwCl (wM cI cZ a (va_up σ 34 (fun _ => 0))) H := hP
    have hD : va_D A (wM cI cZ a (va_up σ 34 (fun _ => 0))) := hD
    exact MI.zret hx hb hr hlocks hK hP hD hS dX6_canBook_9 rfl (by exact Or.inr (Or.inr ⟨h_6, hm_6, rfl, rfl⟩))
set_option maxHeartbeats 4000000 in
set_option maxRecDepth 100000 in
/-- the reference: canBookByMinutes -/
theorem c_X6_canBookByMinutes (l : Launch) (D : va_G) (cI cZ : ClassId) (a : Nat → Nat) (sz : Nat) (σ : St) (t b fr to : Int32) (n : Nat) (hn : σ 3 0 = nI n) (hn4 : n ≤ 4) (nb : Nat) (hnb : σ 13 0 = nI nb) (hnb30 : nb ≤ 30) : MI l yX6_canBookByMinutes wsX6_canBookByMinutes ({ frames := 3, cells := 0, slots := 0, locals := 69 }) D (ty2 cI cZ) (wM cI cZ a) [.ref (a 0), .int t, .int b, .int fr, .int to] σ sz (fun r u => (¬ cdCan n t b fr to = 0 ∧ u = (va_up σ 34 (fun _ => cdCan n t b fr to)) ∧ r = 0) ∨ (cdCan n t b fr to = 0 ∧ ¬ mts (σ 14) (σ 15) (σ 16) (σ 17) nb t b fr to ∧ u = (va_up σ 34 (fun _ => 0)) ∧ r = 1) ∨ (cdCan n t b fr to = 0 ∧ mts (σ 14) (σ 15) (σ 16) (σ 17) nb t b fr to ∧ u = (va_up σ 34 (fun _ => 0)) ∧ r = 0)) := by
  refine MI.of (cc := cX6_canBookByMinutes) (maxL := 5) (by decide) rfl (Nat.le_of_ble_eq_true rfl) ?_
  intro p e s m args below meth c A H locs ls hx hb hr hml hown hts hlocks hA hS hP hK hD hl
  have hl : lv_has ls 5 [(0, .ref (a 0)), (1, .int t), (2, .int b), (3, .int fr), (4, .int to)] := hl
  refine lv_aload_n hx hb dX6_canBookByMinutes_0 rfl (lv_at hl 0 rfl) ?_
  refine lv_iload_n hx hb dX6_canBookByMinutes_1 rfl (lv_at hl 1 rfl) ?_
  refine lv_iload_n hx hb dX6_canBookByMinutes_2 rfl (lv_at hl 2 rfl) ?_
  refine lv_iload_n hx hb dX6_canBookByMinutes_3 rfl (lv_at hl 3 rfl) ?_
  refine lv_iload hx hb dX6_canBookByMinutes_4 (lv_at hl 4 rfl) ?_
  refine MI.callV (As := [.int t, .int b, .int fr, .int to]) (rest := []) ⟨hx, hb, hml, hown, hts⟩ (c_X6_mayBook l D cI cZ a H.size σ t b fr to n hn hn4 nb hnb hnb30) (cwV 4 hts gX6_canBookByMinutes_X6_mayBook rfl rfl rfl (by decide +kernel) ⟨Nat.le_of_ble_eq_true rfl, Nat.le_of_ble_eq_true rfl⟩) hP hK hD hS hA (va_recv hK hP (ci := 6) (q0 := 0) rfl rfl) rfl hl.1 (Nat.le_of_ble_eq_true rfl) (Nat.zero_le _) (Nat.zero_le _) dX6_canBookByMinutes_6 rfl (fun r_6 u_6 H locs h_6 hP hD hS => ?_)
  rcases h_6 with ⟨h_6, e_6, rfl⟩ | ⟨h_6, hm_6, e_6, rfl⟩ | ⟨h_6, hm_6, e_6, rfl⟩
  · skip
    have e_6 := Eq.symm e_6
    subst e_6
    have hP : va_P D vwCl (wM cI cZ a (va_up σ 34 (fun _ => cdCan n t b fr to))) H := hP
    have hD : va_D A (wM cI cZ a (va_up σ 34 (fun _ => cdCan n t b fr to))) := hD
    exact MI.zret hx hb hr hlocks hK hP hD hS dX6_canBookByMinutes_9 rfl (by exact Or.inl ⟨h_6, rfl, rfl⟩)
  · skip
    have e_6 := Eq.symm e_6
    subst e_6
    have hP : va_P D vwCl (wM cI cZ a (va_up σ 34 (fun _ => 0))) H := hP
    have hD : va_D A (wM cI cZ a (va_up σ 34 (fun _ => 0))) := hD
    exact MI.zret hx hb hr hlocks hK hP hD hS dX6_canBookByMinutes_9 rfl (by exact Or.inr (Or.inl ⟨h_6, hm_6, rfl, rfl⟩))
  · skip
    have e_6 := Eq.symm e_6
    subst e_6
    have hP : va_P D vwCl (wM cI cZ a (va_up σ 34 (fun _ => 0))) H := hP
    have hD : va_D A (wM cI cZ a (va_up σ 34 (fun _ => 0))) := hD
    exact MI.zret hx hb hr hlocks hK hP hD hS dX6_canBookByMinutes_9 rfl (by exact Or.inr (Or.inr ⟨h_6, hm_6, rfl, rfl⟩))
set_option maxRecDepth 20000 in
theorem in_X6_isBooking_X6 : ∀ w ∈ wsX60, w ∈ wsX6_isBooking := by decide +kernel
set_option maxHeartbeats 4000000 in
set_option maxRecDepth 100000 in
/-- the reference: isBooking -/
theorem c_X6_isBooking (l : Launch) (D : va_G) (cI cZ : ClassId) (a : Nat → Nat) (sz : Nat) (σ : St) (t : Int32) (nb : Nat) (hnb : σ 13 0 = nI nb) (hnb30 : nb ≤ 30) : MI l yX6_isBooking wsX6_isBooking ({ frames := 1, cells := 0, slots := 0, locals := 22 }) D (ty2 cI cZ) (wM cI cZ a) [.ref (a 0), .int t] σ sz (fun r u => (tr nb t ∧ u = (va_up σ 34 (fun _ => 0)) ∧ r = 1) ∨ (¬ tr nb t ∧ u = (va_up σ 34 (fun _ => 1)) ∧ r = 0)) := by
  refine MI.of (cc := cX6_isBooking) (maxL := 2) (by decide) rfl (Nat.le_of_ble_eq_true rfl) ?_
  intro p e s m args below meth c A H locs ls hx hb hr hml hown hts hlocks hA hS hP hK hD hl
  have hl : lv_has ls 2 [(0, .ref (a 0)), (1, .int t)] := hl
  refine lv_aload_n hx hb dX6_isBooking_0 rfl (lv_at hl 0 rfl) ?_
  refine lv_iload_n hx hb dX6_isBooking_1 rfl (lv_at hl 1 rfl) ?_
  refine lv_iconst (v := 0) hx hb dX6_isBooking_2 (by decide) ?_
  refine lv_aload_n hx hb dX6_isBooking_3 rfl (lv_at hl 0 rfl) ?_
  refine va_get (D := D) (ci := 6) (v := .int (σ 13 0)) (C := RX6) (T := TX6) (N := 26) hx hb hts in_X6_isBooking_X6 hown hK hP 0 rfl rfl 11 (by decide) (hts (.fieldLink RX6 96 "WarpyardModel" "bookings" "I") (by decide +kernel)) (fun _ h9 => h9) rfl dX6_isBooking_4 ?_
  refine lv_topi (fun v_7 e_7 => ?_)
  obtain rfl : v_7 = nI nb := by rw [e_7]; exact hnb
  refine lv_iconst (v := 1) hx hb dX6_isBooking_7 (by decide) ?_
  refine lv_isub hx hb dX6_isBooking_8 ?_
  refine MI.callS (As := [.int t, .int 0, .int ((nI nb) - 1)]) (rest := [.ref (a 0)]) ⟨hx, hb, hml, hown, hts⟩ (c_X6_in l D cI cZ a H.size σ t 0 ((nI nb) - 1)) (va_cwS 3 hts gX6_isBooking_X6_in rfl rfl rfl (by decide +kernel) ⟨Nat.le_of_ble_eq_true rfl, Nat.le_of_ble_eq_true rfl⟩) hP hK hD hS hA rfl hl.1 (Nat.le_of_ble_eq_true rfl) (Nat.zero_le _) (Nat.zero_le _) dX6_isBooking_9 rfl (fun r_9 u_9 H locs h_9 hP hD hS => ?_)
  rcases h_9 with ⟨e_9, ⟨rfl, h_9⟩ | ⟨rfl, h_9⟩⟩
  · skip
    have e_9 := Eq.symm e_9
    subst e_9
    have h_9 : inR t 0 ((nI nb) - 1) := h_9
    refine lv_if_eq (tgt := 19) hx hb dX6_isBooking_12 (by decide) (fun c9 => absurd c9 (by decide)) (fun _ => ?_)
    refine lv_iconst (v := 0) hx hb dX6_isBooking_15 (by decide) ?_
    refine lv_goto (tgt := 20) hx hb dX6_isBooking_16 (by decide) ?_
    refine MI.callV (As := [.int 0]) (rest := []) ⟨hx, hb, hml, hown, hts⟩ (c_X6_holds l D cI cZ a H.size σ 0) (cwV 1 hts gX6_isBooking_X6_holds rfl rfl rfl (by decide +kernel) ⟨Nat.le_of_ble_eq_true rfl, Nat.le_of_ble_eq_true rfl⟩) hP hK hD hS hA (va_recv hK hP (ci := 6) (q0 := 0) rfl rfl) rfl hl.1 (Nat.le_of_ble_eq_true rfl) (Nat.zero_le _) (Nat.zero_le _) dX6_isBooking_20 rfl (fun r_20 u_20 H locs h_20 hP hD hS => ?_)
    obtain ⟨e_20, h_20⟩ := h_20
    have e_20 := Eq.symm e_20
    subst e_20
    have hP : va_P D vwCl (wM cI cZ a (va_up σ 34 (fun _ => 0))) H := hP
    have hD : va_D A (wM cI cZ a (va_up σ 34 (fun _ => 0))) := hD
    obtain rfl : r_20 = 1 := h_20.trans (by decide)
    exact MI.zret hx hb hr hlocks hK hP hD hS dX6_isBooking_23 rfl (by exact Or.inl ⟨(tr_R (by omega)).mpr h_9, rfl, rfl⟩)
  · skip
    have e_9 := Eq.symm e_9
    subst e_9
    have h_9 : ¬ (inR t 0 ((nI nb) - 1)) := h_9
    refine lv_if_eq (tgt := 19) hx hb dX6_isBooking_12 (by decide) (fun _ => ?_) (fun c9 => absurd (by decide) c9)
    refine lv_iconst (v := 1) hx hb dX6_isBooking_19 (by decide) ?_
    refine MI.callV (As := [.int 1]) (rest := []) ⟨hx, hb, hml, hown, hts⟩ (c_X6_holds l D cI cZ a H.size σ 1) (cwV 1 hts gX6_isBooking_X6_holds rfl rfl rfl (by decide +kernel) ⟨Nat.le_of_ble_eq_true rfl, Nat.le_of_ble_eq_true rfl⟩) hP hK hD hS hA (va_recv hK hP (ci := 6) (q0 := 0) rfl rfl) rfl hl.1 (Nat.le_of_ble_eq_true rfl) (Nat.zero_le _) (Nat.zero_le _) dX6_isBooking_20 rfl (fun r_20 u_20 H locs h_20 hP hD hS => ?_)
    obtain ⟨e_20, h_20⟩ := h_20
    have e_20 := Eq.symm e_20
    subst e_20
    have hP : va_P D vwCl (wM cI cZ a (va_up σ 34 (fun _ => 1))) H := hP
    have hD : va_D A (wM cI cZ a (va_up σ 34 (fun _ => 1))) := hD
    obtain rfl : r_20 = 0 := h_20.trans (by decide)
    exact MI.zret hx hb hr hlocks hK hP hD hS dX6_isBooking_23 rfl (by exact Or.inr ⟨fun h => h_9 ((tr_R (by omega)).mp h), rfl, rfl⟩)
set_option maxRecDepth 20000 in
theorem in_X6_booking_X6 : ∀ w ∈ wsX60, w ∈ wsX6_booking := by decide +kernel
set_option maxHeartbeats 4000000 in
set_option maxRecDepth 100000 in
/-- the reference: booking -/
theorem c_X6_booking (l : Launch) (D : va_G) (cI cZ : ClassId) (a : Nat → Nat) (sz : Nat) (σ : St) (t : Int32) (nb : Nat) (hnb : σ 13 0 = nI nb) (hnb30 : nb ≤ 30) : MI l yX6_booking wsX6_booking ({ frames := 2, cells := 0, slots := 0, locals := 43 }) D (ty2 cI cZ) (wM cI cZ a) [.ref (a 0), .int t] σ sz (fun r u => (¬ cdTr nb t = 0 ∧ u = (va_up σ 34 (fun _ => cdTr nb t))) ∨ (cdTr nb t = 0 ∧ u = (va_up σ 34 (fun _ => 0)) ∧ r = σ 30 t.toNatClampNeg)) := by
  refine MI.of (cc := cX6_booking) (maxL := 2) (by decide) rfl (Nat.le_of_ble_eq_true rfl) ?_
  intro p e s m args below meth c A H locs ls hx hb hr hml hown hts hlocks hA hS hP hK hD hl
  have hl : lv_has ls 2 [(0, .ref (a 0)), (1, .int t)] := hl
  refine lv_aload_n hx hb dX6_booking_0 rfl (lv_at hl 0 rfl) ?_
  refine lv_iload_n hx hb dX6_booking_1 rfl (lv_at hl 1 rfl) ?_
  refine MI.callV (As := [.int t]) (rest := []) ⟨hx, hb, hml, hown, hts⟩ (c_X6_isBooking l D cI cZ a H.size σ t nb hnb hnb30) (cwV 1 hts gX6_booking_X6_isBooking rfl rfl rfl (by decide +kernel) ⟨Nat.le_of_ble_eq_true rfl, Nat.le_of_ble_eq_true rfl⟩) hP hK hD hS hA (va_recv hK hP (ci := 6) (q0 := 0) rfl rfl) rfl hl.1 (Nat.le_of_ble_eq_true rfl) (Nat.zero_le _) (Nat.zero_le _) dX6_booking_2 rfl (fun r_2 u_2 H locs h_2 hP hD hS => ?_)
  rcases h_2 with ⟨h_2, e_2, rfl⟩ | ⟨h_2, e_2, rfl⟩
  · skip
    have e_2 := Eq.symm e_2
    subst e_2
    have hP : va_P D vwCl (wM cI cZ a (va_up σ 34 (fun _ => 0))) H := hP
    have hD : va_D A (wM cI cZ a (va_up σ 34 (fun _ => 0))) := hD
    refine lv_if_eq (tgt := 17) hx hb dX6_booking_5 (by decide) (fun c9 => absurd c9 (by decide)) (fun _ => ?_)
    obtain ⟨k, hk, rfl⟩ := id h_2
    refine lv_aload_n hx hb dX6_booking_8 rfl (lv_at hl 0 rfl) ?_
    refine va_get (D := D) (ci := 6) (v := .ref (a 13)) (C := RX6) (T := TX6) (N := 26) hx hb hts in_X6_booking_X6 hown hK hP 0 rfl rfl 16 (by decide) (hts (.fieldLink RX6 47 "WarpyardModel" "standings" "[I") (by decide +kernel)) (fun _ h9 => h9) rfl dX6_booking_9 ?_
    refine lv_iload_n hx hb dX6_booking_12 rfl (lv_at hl 1 rfl) ?_
    refine na_iald hx hb hK hP 13 0 (f := (σ 30)) rfl rfl k (by omega) (by decide) rfl dX6_booking_13 ?_
    refine lv_goto (tgt := 18) hx hb dX6_booking_14 (by decide) ?_
    exact MI.ret hx hb hr hlocks hK hP hD hS dX6_booking_18 (by rw [nI_clamp (show k < 2 ^ 31 by omega)]; exact Or.inr ⟨cif_t h_2, rfl, rfl⟩)
  · skip
    have e_2 := Eq.symm e_2
    subst e_2
    have hP : va_P D vwCl (wM cI cZ a (va_up σ 34 (fun _ => 1))) H := hP
    have hD : va_D A (wM cI cZ a (va_up σ 34 (fun _ => 1))) := hD
    refine lv_if_eq (tgt := 17) hx hb dX6_booking_5 (by decide) (fun _ => ?_) (fun c9 => absurd (by decide) c9)
    refine lv_iconst (v := 0) hx hb dX6_booking_17 (by decide) ?_
    exact MI.ret hx hb hr hlocks hK hP hD hS dX6_booking_18 (by exact Or.inl (rf_ (cif_f h_2) (by decide)))
set_option maxRecDepth 20000 in
theorem in_X6_late_X6 : ∀ w ∈ wsX60, w ∈ wsX6_late := by decide +kernel
set_option maxHeartbeats 4000000 in
set_option maxRecDepth 100000 in
/-- the reference: late -/
theorem c_X6_late (l : Launch) (D : va_G) (cI cZ : ClassId) (a : Nat → Nat) (sz : Nat) (σ : St) (t : Int32) (nb : Nat) (hnb : σ 13 0 = nI nb) (hnb30 : nb ≤ 30) : MI l yX6_late wsX6_late ({ frames := 2, cells := 0, slots := 0, locals := 43 }) D (ty2 cI cZ) (wM cI cZ a) [.ref (a 0), .int t] σ sz (fun r u => (¬ cdTr nb t = 0 ∧ u = (va_up σ 34 (fun _ => cdTr nb t))) ∨ (cdTr nb t = 0 ∧ u = (va_up σ 34 (fun _ => 0)) ∧ r = (if σ 30 t.toNatClampNeg = 1 then σ 31 t.toNatClampNeg else -1))) := by
  refine MI.of (cc := cX6_late) (maxL := 2) (by decide) rfl (Nat.le_of_ble_eq_true rfl) ?_
  intro p e s m args below meth c A H locs ls hx hb hr hml hown hts hlocks hA hS hP hK hD hl
  have hl : lv_has ls 2 [(0, .ref (a 0)), (1, .int t)] := hl
  refine lv_aload_n hx hb dX6_late_0 rfl (lv_at hl 0 rfl) ?_
  refine lv_iload_n hx hb dX6_late_1 rfl (lv_at hl 1 rfl) ?_
  refine MI.callV (As := [.int t]) (rest := []) ⟨hx, hb, hml, hown, hts⟩ (c_X6_isBooking l D cI cZ a H.size σ t nb hnb hnb30) (cwV 1 hts gX6_late_X6_isBooking rfl rfl rfl (by decide +kernel) ⟨Nat.le_of_ble_eq_true rfl, Nat.le_of_ble_eq_true rfl⟩) hP hK hD hS hA (va_recv hK hP (ci := 6) (q0 := 0) rfl rfl) rfl hl.1 (Nat.le_of_ble_eq_true rfl) (Nat.zero_le _) (Nat.zero_le _) dX6_late_2 rfl (fun r_2 u_2 H locs h_2 hP hD hS => ?_)
  rcases h_2 with ⟨h_2, e_2, rfl⟩ | ⟨h_2, e_2, rfl⟩
  · skip
    have e_2 := Eq.symm e_2
    subst e_2
    have hP : va_P D vwCl (wM cI cZ a (va_up σ 34 (fun _ => 0))) H := hP
    have hD : va_D A (wM cI cZ a (va_up σ 34 (fun _ => 0))) := hD
    refine lv_if_ne (tgt := 12) hx hb dX6_late_5 (by decide) (fun _ => ?_) (fun c9 => absurd c9 (by decide))
    obtain ⟨k, hk, rfl⟩ := id h_2
    refine lv_aload_n hx hb dX6_late_12 rfl (lv_at hl 0 rfl) ?_
    refine va_get (D := D) (ci := 6) (v := .ref (a 13)) (C := RX6) (T := TX6) (N := 26) hx hb hts in_X6_late_X6 hown hK hP 0 rfl rfl 16 (by decide) (hts (.fieldLink RX6 47 "WarpyardModel" "standings" "[I") (by decide +kernel)) (fun _ h9 => h9) rfl dX6_late_13 ?_
    refine lv_iload_n hx hb dX6_late_16 rfl (lv_at hl 1 rfl) ?_
    refine na_iald hx hb hK hP 13 0 (f := (σ 30)) rfl rfl k (by omega) (by decide) rfl dX6_late_17 ?_
    refine lv_iconst (v := 1) hx hb dX6_late_18 (by decide) ?_
    refine lv_icmp_ne (tgt := 31) hx hb dX6_late_19 (by decide) (fun c_19 => ?_) (fun c_19 => ?_)
    · skip
      refine lv_iconst (v := (-1)) hx hb dX6_late_31 (by decide) ?_
      exact MI.ret hx hb hr hlocks hK hP hD hS dX6_late_32 (by rw [nI_clamp (show k < 2 ^ 31 by omega)]; exact Or.inr ⟨cif_t h_2, rfl, (if_neg c_19).symm⟩)
    · skip
      refine lv_aload_n hx hb dX6_late_22 rfl (lv_at hl 0 rfl) ?_
      refine va_get (D := D) (ci := 6) (v := .ref (a 14)) (C := RX6) (T := TX6) (N := 26) hx hb hts in_X6_late_X6 hown hK hP 0 rfl rfl 17 (by decide) (hts (.fieldLink RX6 50 "WarpyardModel" "lates" "[I") (by decide +kernel)) (fun _ h9 => h9) rfl dX6_late_23 ?_
      refine lv_iload_n hx hb dX6_late_26 rfl (lv_at hl 1 rfl) ?_
      refine na_iald hx hb hK hP 14 0 (f := (σ 31)) rfl rfl k (by omega) (by decide) rfl dX6_late_27 ?_
      refine lv_goto (tgt := 32) hx hb dX6_late_28 (by decide) ?_
      exact MI.ret hx hb hr hlocks hK hP hD hS dX6_late_32 (by rw [nI_clamp (show k < 2 ^ 31 by omega)]; exact Or.inr ⟨cif_t h_2, rfl, (if_pos c_19).symm⟩)
  · skip
    have e_2 := Eq.symm e_2
    subst e_2
    have hP : va_P D vwCl (wM cI cZ a (va_up σ 34 (fun _ => 1))) H := hP
    have hD : va_D A (wM cI cZ a (va_up σ 34 (fun _ => 1))) := hD
    refine lv_if_ne (tgt := 12) hx hb dX6_late_5 (by decide) (fun c9 => absurd (by decide) c9) (fun _ => ?_)
    refine lv_iconst (v := 0) hx hb dX6_late_8 (by decide) ?_
    refine lv_goto (tgt := 32) hx hb dX6_late_9 (by decide) ?_
    exact MI.ret hx hb hr hlocks hK hP hD hS dX6_late_32 (by exact Or.inl (rf_ (cif_f h_2) (by decide)))
