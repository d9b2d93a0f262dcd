set_option maxHeartbeats 4000000 in
set_option maxRecDepth 100000 in
theorem h_addTrain (l : Launch) (D : va_G) (cI cZ cL : ClassId) (a : Nat → Nat) (o sz : Nat) (σ : St) (g : Nat → Int64) (b rt cd : Int32) (post : Int32 → St → Prop) (hM : ∀ sz, XI l yX5_addTrain wsX5_addTrain ({ frames := 8, cells := 1, slots := 6, locals := 130 }) D (ty2 cI cZ) (wX cI cZ a) [.ref (a 0), .int b, .int rt] σ sz post (xA cd)) : MH l yL_addTrain wsL_addTrain ({ frames := 9, cells := 1, slots := 6, locals := 152 }) D cI cZ cL a o [.ref (a 0), .int b, .int rt, .ref o] (σ, g) sz (fun r u => (r = 0 ∧ ∃ v9 : Int32, post v9 u.1 ∧ u.2 0 = v9.toInt64) ∨ (¬ r = 0 ∧ r = cd ∧ u = (σ, g))) := by
  refine MH.of (cc := cL_addTrain) (maxL := 5) (hh := [(0, 10, 13, 13), (0, 10, 17, 15)]) (by decide) rfl (Nat.le_of_ble_eq_true rfl) ?_
  intro p e s m args below meth c A H locs ls hx hb hr hml hown hts hlocks hexc hEV hZ hA hS hP hK hD hl
  have hl : lv_has ls 5 [(0, .ref (a 0)), (1, .int b), (2, .int rt), (3, .ref o)] := hl
  refine lv_aload_n hx hb dL_addTrain_0 rfl (lv_at hl 3 rfl) ?_
  refine lv_iconst (v := 0) hx hb dL_addTrain_1 (by decide) ?_
  refine lv_aload_n hx hb dL_addTrain_2 rfl (lv_at hl 0 rfl) ?_
  refine lv_iload_n hx hb dL_addTrain_3 rfl (lv_at hl 1 rfl) ?_
  refine lv_iload_n hx hb dL_addTrain_4 rfl (lv_at hl 2 rfl) ?_
  refine XI.callH (As := [.int b, .int rt]) (rest := [.int 0, .ref o]) ⟨hx, hb, hml, hown, hts⟩ (hM H.size) (cwV 2 hts gL_addTrain_X5_addTrain rfl rfl rfl (by decide +kernel) ⟨Nat.le_of_ble_eq_true rfl, Nat.le_of_ble_eq_true rfl⟩) hP hK hD hS hA hEV hZ (va_recv hK hP (ci := 5) (q0 := 1) rfl rfl) rfl hl.1 (Nat.le_of_ble_eq_true rfl) (Nat.le_of_ble_eq_true rfl) (Nat.le_of_ble_eq_true rfl) dL_addTrain_5 rfl ?_ (fun r u H locs hp hP hD hS => ?_)
  · intro E ce q9 H locs hE hP hD hS hce hcv hcl
    rcases hE with ⟨rfl, hc⟩ | ⟨rfl, hc⟩
    · skip
      refine vx_catch (name := eIO) (E := eIO) hown [] ⟨0, 10, 13, 13⟩ [⟨0, 10, 17, 15⟩] hexc ?_ (by decide) (by decide) (hts (.classLink RL 13 eIO) (by decide +kernel)) (va_Nw.use rfl (hEV.1 (.castable eIO eIO) (by decide +kernel))) hce hcv hcl ?_
      · exact fun z hz => absurd hz List.not_mem_nil
      refine lv_astore (lv' := [(4, .ref q9), (0, .ref (a 0)), (1, .int b), (2, .int rt), (3, .ref o)]) hx hb dL_addTrain_13 hl (by decide) rfl (fun ls hl => ?_)
      refine lv_iconst (v := 1) hx hb dL_addTrain_15 (by decide) ?_
      exact MH.ret hx hb hr hlocks hK hP hD hS dL_addTrain_16 (by exact Or.inr ⟨by decide, hc.symm, rfl⟩)
    · skip
      refine vx_catch (name := eIS) (E := eIS) hown [⟨0, 10, 13, 13⟩] ⟨0, 10, 17, 15⟩ [] hexc ?_ (by decide) (by decide) (hts (.classLink RL 15 eIS) (by decide +kernel)) (va_Nw.use rfl (hEV.1 (.castable eIS eIS) (by decide +kernel))) hce hcv hcl ?_
      · intro z hz
        rw [List.mem_singleton.mp hz]
        exact Or.inr ⟨by decide, eIO, hts (.classLink RL 13 eIO) (by decide +kernel), hEV.2.2 (eIS, eIO) (by decide +kernel)⟩
      refine lv_astore (lv' := [(4, .ref q9), (0, .ref (a 0)), (1, .int b), (2, .int rt), (3, .ref o)]) hx hb dL_addTrain_17 hl (by decide) rfl (fun ls hl => ?_)
      refine lv_iconst (v := 2) hx hb dL_addTrain_19 (by decide) ?_
      exact MH.ret hx hb hr hlocks hK hP hD hS dL_addTrain_20 (by exact Or.inr ⟨by decide, hc.symm, rfl⟩)
  refine lv_i2l (v := r.toInt64) hx hb dL_addTrain_8 rfl ?_
  refine va_last hx hb hK hP hD hS 0 2 rfl rfl (by unfold vp_in; decide) dL_addTrain_9 (fun H locs hP hD hS => ?_)
  have hP : va_P D vwCl (wo cI cZ cL a o (u, vp_updL g (0 : Int32).toNatClampNeg r.toInt64)) H := hP
  have hD : va_D A (wo cI cZ cL a o (u, vp_updL g (0 : Int32).toNatClampNeg r.toInt64)) := hD
  refine lv_goto (tgt := 21) hx hb dL_addTrain_10 (by decide) ?_
  refine lv_iconst (v := 0) hx hb dL_addTrain_21 (by decide) ?_
  exact MH.ret hx hb hr hlocks hK hP hD hS dL_addTrain_22 (by exact Or.inl ⟨rfl, r, hp, rfl⟩)
set_option maxHeartbeats 4000000 in
set_option maxRecDepth 100000 in
theorem h_hold (l : Launch) (D : va_G) (cI cZ cL : ClassId) (a : Nat → Nat) (o sz : Nat) (σ : St) (g : Nat → Int64) (t v cd : Int32) (post : Int32 → St → Prop) (hM : ∀ sz, XI l yX5_hold wsX5_hold ({ frames := 8, cells := 1, slots := 6, locals := 131 }) D (ty2 cI cZ) (wX cI cZ a) [.ref (a 0), .int t, .int v] σ sz post (x1 cd)) : MH l yL_hold wsL_hold ({ frames := 9, cells := 1, slots := 6, locals := 154 }) D cI cZ cL a o [.ref (a 0), .int t, .int v, .ref o] (σ, g) sz (fun r u => (r = 0 ∧ ∃ v9 : Int32, post v9 u.1 ∧ u.2 0 = (if v9 = 0 then 0 else 1)) ∨ (¬ r = 0 ∧ r = cd ∧ u = (σ, g))) := by
  refine MH.of (cc := cL_hold) (maxL := 5) (hh := [(0, 17, 20, 13)]) (by decide) rfl (Nat.le_of_ble_eq_true rfl) ?_
  intro p e s m args below meth c A H locs ls hx hb hr hml hown hts hlocks hexc hEV hZ hA hS hP hK hD hl
  have hl : lv_has ls 5 [(0, .ref (a 0)), (1, .int t), (2, .int v), (3, .ref o)] := hl
  refine lv_aload_n hx hb dL_hold_0 rfl (lv_at hl 3 rfl) ?_
  refine lv_iconst (v := 0) hx hb dL_hold_1 (by decide) ?_
  refine lv_aload_n hx hb dL_hold_2 rfl (lv_at hl 0 rfl) ?_
  refine lv_iload_n hx hb dL_hold_3 rfl (lv_at hl 1 rfl) ?_
  refine lv_iload_n hx hb dL_hold_4 rfl (lv_at hl 2 rfl) ?_
  refine XI.callH (As := [.int t, .int v]) (rest := [.int 0, .ref o]) ⟨hx, hb, hml, hown, hts⟩ (hM H.size) (cwV 2 hts gL_hold_X5_hold rfl rfl rfl (by decide +kernel) ⟨Nat.le_of_ble_eq_true rfl, Nat.le_of_ble_eq_true rfl⟩) hP hK hD hS hA hEV hZ (va_recv hK hP (ci := 5) (q0 := 1) rfl rfl) rfl hl.1 (Nat.le_of_ble_eq_true rfl) (Nat.le_of_ble_eq_true rfl) (Nat.le_of_ble_eq_true rfl) dL_hold_5 rfl ?_ (fun r u H locs hp hP hD hS => ?_)
  · intro E ce q9 H locs hE hP hD hS hce hcv hcl
    obtain ⟨rfl, hc⟩ := hE
    · skip
      refine vx_catch (name := eIO) (E := eIO) hown [] ⟨0, 17, 20, 13⟩ [] hexc ?_ (by decide) (by decide) (hts (.classLink RL 13 eIO) (by decide +kernel)) (va_Nw.use rfl (hEV.1 (.castable eIO eIO) (by decide +kernel))) hce hcv hcl ?_
      · exact fun z hz => absurd hz List.not_mem_nil
      refine lv_astore (lv' := [(4, .ref q9), (0, .ref (a 0)), (1, .int t), (2, .int v), (3, .ref o)]) hx hb dL_hold_20 hl (by decide) rfl (fun ls hl => ?_)
      refine lv_iconst (v := 1) hx hb dL_hold_22 (by decide) ?_
      exact MH.ret hx hb hr hlocks hK hP hD hS dL_hold_23 (by exact Or.inr ⟨by decide, hc.symm, rfl⟩)
  refine lv_if_eq (tgt := 15) hx hb dL_hold_8 (by decide) (fun c_8 => ?_) (fun c_8 => ?_)
  · skip
    refine lv_lconst (v := 0) hx hb dL_hold_15 (by decide) ?_
    refine va_last hx hb hK hP hD hS 0 2 rfl rfl (by unfold vp_in; decide) dL_hold_16 (fun H locs hP hD hS => ?_)
    have hP : va_P D vwCl (wo cI cZ cL a o (u, vp_updL g (0 : Int32).toNatClampNeg 0)) H := hP
    have hD : va_D A (wo cI cZ cL a o (u, vp_updL g (0 : Int32).toNatClampNeg 0)) := hD
    refine lv_goto (tgt := 24) hx hb dL_hold_17 (by decide) ?_
    refine lv_iconst (v := 0) hx hb dL_hold_24 (by decide) ?_
    exact MH.ret hx hb hr hlocks hK hP hD hS dL_hold_25 (by exact Or.inl ⟨rfl, r, hp, (if_pos c_8).symm⟩)
  · skip
    refine lv_lconst (v := 1) hx hb dL_hold_11 (by decide) ?_
    refine lv_goto (tgt := 16) hx hb dL_hold_12 (by decide) ?_
    refine va_last hx hb hK hP hD hS 0 2 rfl rfl (by unfold vp_in; decide) dL_hold_16 (fun H locs hP hD hS => ?_)
    have hP : va_P D vwCl (wo cI cZ cL a o (u, vp_updL g (0 : Int32).toNatClampNeg 1)) H := hP
    have hD : va_D A (wo cI cZ cL a o (u, vp_updL g (0 : Int32).toNatClampNeg 1)) := hD
    refine lv_goto (tgt := 24) hx hb dL_hold_17 (by decide) ?_
    refine lv_iconst (v := 0) hx hb dL_hold_24 (by decide) ?_
    exact MH.ret hx hb hr hlocks hK hP hD hS dL_hold_25 (by exact Or.inl ⟨rfl, r, hp, (if_neg c_8).symm⟩)
set_option maxHeartbeats 4000000 in
set_option maxRecDepth 100000 in
theorem h_delay (l : Launch) (D : va_G) (cI cZ cL : ClassId) (a : Nat → Nat) (o sz : Nat) (σ : St) (g : Nat → Int64) (t mm cd : Int32) (post : Int32 → St → Prop) (hM : ∀ sz, XI l yX5_delay wsX5_delay ({ frames := 8, cells := 1, slots := 6, locals := 131 }) D (ty2 cI cZ) (wX cI cZ a) [.ref (a 0), .int t, .int mm] σ sz post (xB cd)) : MH l yL_delay wsL_delay ({ frames := 9, cells := 1, slots := 6, locals := 154 }) D cI cZ cL a o [.ref (a 0), .int t, .int mm, .ref o] (σ, g) sz (fun r u => (r = 0 ∧ ∃ v9 : Int32, post v9 u.1 ∧ u.2 0 = v9.toInt64) ∨ (¬ r = 0 ∧ r = cd ∧ u = (σ, g))) := by
  refine MH.of (cc := cL_delay) (maxL := 5) (hh := [(0, 10, 13, 13), (0, 10, 17, 25)]) (by decide) rfl (Nat.le_of_ble_eq_true rfl) ?_
  intro p e s m args below meth c A H locs ls hx hb hr hml hown hts hlocks hexc hEV hZ hA hS hP hK hD hl
  have hl : lv_has ls 5 [(0, .ref (a 0)), (1, .int t), (2, .int mm), (3, .ref o)] := hl
  refine lv_aload_n hx hb dL_delay_0 rfl (lv_at hl 3 rfl) ?_
  refine lv_iconst (v := 0) hx hb dL_delay_1 (by decide) ?_
  refine lv_aload_n hx hb dL_delay_2 rfl (lv_at hl 0 rfl) ?_
  refine lv_iload_n hx hb dL_delay_3 rfl (lv_at hl 1 rfl) ?_
  refine lv_iload_n hx hb dL_delay_4 rfl (lv_at hl 2 rfl) ?_
  refine XI.callH (As := [.int t, .int mm]) (rest := [.int 0, .ref o]) ⟨hx, hb, hml, hown, hts⟩ (hM H.size) (cwV 2 hts gL_delay_X5_delay rfl rfl rfl (by decide +kernel) ⟨Nat.le_of_ble_eq_true rfl, Nat.le_of_ble_eq_true rfl⟩) hP hK hD hS hA hEV hZ (va_recv hK hP (ci := 5) (q0 := 1) rfl rfl) rfl hl.1 (Nat.le_of_ble_eq_true rfl) (Nat.le_of_ble_eq_true rfl) (Nat.le_of_ble_eq_true rfl) dL_delay_5 rfl ?_ (fun r u H locs hp hP hD hS => ?_)
  · intro E ce q9 H locs hE hP hD hS hce hcv hcl
    rcases hE with ⟨rfl, hc⟩ | ⟨rfl, hc⟩
    · skip
      refine vx_catch (name := eIO) (E := eIO) hown [] ⟨0, 10, 13, 13⟩ [⟨0, 10, 17, 25⟩] hexc ?_ (by decide) (by decide) (hts (.classLink RL 13 eIO) (by decide +kernel)) (va_Nw.use rfl (hEV.1 (.castable eIO eIO) (by decide +kernel))) hce hcv hcl ?_
      · exact fun z hz => absurd hz List.not_mem_nil
      refine lv_astore (lv' := [(4, .ref q9), (0, .ref (a 0)), (1, .int t), (2, .int mm), (3, .ref o)]) hx hb dL_delay_13 hl (by decide) rfl (fun ls hl => ?_)
      refine lv_iconst (v := 1) hx hb dL_delay_15 (by decide) ?_
      exact MH.ret hx hb hr hlocks hK hP hD hS dL_delay_16 (by exact Or.inr ⟨by decide, hc.symm, rfl⟩)
    · skip
      refine vx_catch (name := eIA) (E := eIA) hown [⟨0, 10, 13, 13⟩] ⟨0, 10, 17, 25⟩ [] hexc ?_ (by decide) (by decide) (hts (.classLink RL 25 eIA) (by decide +kernel)) (va_Nw.use rfl (hEV.1 (.castable eIA eIA) (by decide +kernel))) hce hcv hcl ?_
      · intro z hz
        rw [List.mem_singleton.mp hz]
        exact Or.inr ⟨by decide, eIO, hts (.classLink RL 13 eIO) (by decide +kernel), hEV.2.2 (eIA, eIO) (by decide +kernel)⟩
      refine lv_astore (lv' := [(4, .ref q9), (0, .ref (a 0)), (1, .int t), (2, .int mm), (3, .ref o)]) hx hb dL_delay_17 hl (by decide) rfl (fun ls hl => ?_)
      refine lv_iconst (v := 2) hx hb dL_delay_19 (by decide) ?_
      exact MH.ret hx hb hr hlocks hK hP hD hS dL_delay_20 (by exact Or.inr ⟨by decide, hc.symm, rfl⟩)
  refine lv_i2l (v := r.toInt64) hx hb dL_delay_8 rfl ?_
  refine va_last hx hb hK hP hD hS 0 2 rfl rfl (by unfold vp_in; decide) dL_delay_9 (fun H locs hP hD hS => ?_)
  have hP : va_P D vwCl (wo cI cZ cL a o (u, vp_updL g (0 : Int32).toNatClampNeg r.toInt64)) H := hP
  have hD : va_D A (wo cI cZ cL a o (u, vp_updL g (0 : Int32).toNatClampNeg r.toInt64)) := hD
  refine lv_goto (tgt := 21) hx hb dL_delay_10 (by decide) ?_
  refine lv_iconst (v := 0) hx hb dL_delay_21 (by decide) ?_
  exact MH.ret hx hb hr hlocks hK hP hD hS dL_delay_22 (by exact Or.inl ⟨rfl, r, hp, rfl⟩)
set_option maxHeartbeats 4000000 in
set_option maxRecDepth 100000 in
theorem h_reverse (l : Launch) (D : va_G) (cI cZ cL : ClassId) (a : Nat → Nat) (o sz : Nat) (σ : St) (g : Nat → Int64) (t cd : Int32) (post : Int32 → St → Prop) (hM : ∀ sz, XI l yX5_reverse wsX5_reverse ({ frames := 8, cells := 1, slots := 6, locals := 131 }) D (ty2 cI cZ) (wX cI cZ a) [.ref (a 0), .int t] σ sz post (x1 cd)) : MH l yL_reverse wsL_reverse ({ frames := 9, cells := 1, slots := 6, locals := 152 }) D cI cZ cL a o [.ref (a 0), .int t, .ref o] (σ, g) sz (fun r u => (r = 0 ∧ ∃ v9 : Int32, post v9 u.1 ∧ u.2 0 = (if v9 = 0 then 0 else 1)) ∨ (¬ r = 0 ∧ r = cd ∧ u = (σ, g))) := by
  refine MH.of (cc := cL_reverse) (maxL := 4) (hh := [(0, 16, 19, 13)]) (by decide) rfl (Nat.le_of_ble_eq_true rfl) ?_
  intro p e s m args below meth c A H locs ls hx hb hr hml hown hts hlocks hexc hEV hZ hA hS hP hK hD hl
  have hl : lv_has ls 4 [(0, .ref (a 0)), (1, .int t), (2, .ref o)] := hl
  refine lv_aload_n hx hb dL_reverse_0 rfl (lv_at hl 2 rfl) ?_
  refine lv_iconst (v := 0) hx hb dL_reverse_1 (by decide) ?_
  refine lv_aload_n hx hb dL_reverse_2 rfl (lv_at hl 0 rfl) ?_
  refine lv_iload_n hx hb dL_reverse_3 rfl (lv_at hl 1 rfl) ?_
  refine XI.callH (As := [.int t]) (rest := [.int 0, .ref o]) ⟨hx, hb, hml, hown, hts⟩ (hM H.size) (cwV 1 hts gL_reverse_X5_reverse rfl rfl rfl (by decide +kernel) ⟨Nat.le_of_ble_eq_true rfl, Nat.le_of_ble_eq_true rfl⟩) hP hK hD hS hA hEV hZ (va_recv hK hP (ci := 5) (q0 := 1) rfl rfl) rfl hl.1 (Nat.le_of_ble_eq_true rfl) (Nat.le_of_ble_eq_true rfl) (Nat.le_of_ble_eq_true rfl) dL_reverse_4 rfl ?_ (fun r u H locs hp hP hD hS => ?_)
  · intro E ce q9 H locs hE hP hD hS hce hcv hcl
    obtain ⟨rfl, hc⟩ := hE
    · skip
      refine vx_catch (name := eIO) (E := eIO) hown [] ⟨0, 16, 19, 13⟩ [] hexc ?_ (by decide) (by decide) (hts (.classLink RL 13 eIO) (by decide +kernel)) (va_Nw.use rfl (hEV.1 (.castable eIO eIO) (by decide +kernel))) hce hcv hcl ?_
      · exact fun z hz => absurd hz List.not_mem_nil
      refine lv_astore_n (lv' := [(3, .ref q9), (0, .ref (a 0)), (1, .int t), (2, .ref o)]) hx hb dL_reverse_19 rfl hl (by decide) rfl (fun ls hl => ?_)
      refine lv_iconst (v := 1) hx hb dL_reverse_20 (by decide) ?_
      exact MH.ret hx hb hr hlocks hK hP hD hS dL_reverse_21 (by exact Or.inr ⟨by decide, hc.symm, rfl⟩)
  refine lv_if_eq (tgt := 14) hx hb dL_reverse_7 (by decide) (fun c_7 => ?_) (fun c_7 => ?_)
  · skip
    refine lv_lconst (v := 0) hx hb dL_reverse_14 (by decide) ?_
    refine va_last hx hb hK hP hD hS 0 2 rfl rfl (by unfold vp_in; decide) dL_reverse_15 (fun H locs hP hD hS => ?_)
    have hP : va_P D vwCl (wo cI cZ cL a o (u, vp_updL g (0 : Int32).toNatClampNeg 0)) H := hP
    have hD : va_D A (wo cI cZ cL a o (u, vp_updL g (0 : Int32).toNatClampNeg 0)) := hD
    refine lv_goto (tgt := 22) hx hb dL_reverse_16 (by decide) ?_
    refine lv_iconst (v := 0) hx hb dL_reverse_22 (by decide) ?_
    exact MH.ret hx hb hr hlocks hK hP hD hS dL_reverse_23 (by exact Or.inl ⟨rfl, r, hp, (if_pos c_7).symm⟩)
  · skip
    refine lv_lconst (v := 1) hx hb dL_reverse_10 (by decide) ?_
    refine lv_goto (tgt := 15) hx hb dL_reverse_11 (by decide) ?_
    refine va_last hx hb hK hP hD hS 0 2 rfl rfl (by unfold vp_in; decide) dL_reverse_15 (fun H locs hP hD hS => ?_)
    have hP : va_P D vwCl (wo cI cZ cL a o (u, vp_updL g (0 : Int32).toNatClampNeg 1)) H := hP
    have hD : va_D A (wo cI cZ cL a o (u, vp_updL g (0 : Int32).toNatClampNeg 1)) := hD
    refine lv_goto (tgt := 22) hx hb dL_reverse_16 (by decide) ?_
    refine lv_iconst (v := 0) hx hb dL_reverse_22 (by decide) ?_
    exact MH.ret hx hb hr hlocks hK hP hD hS dL_reverse_23 (by exact Or.inl ⟨rfl, r, hp, (if_neg c_7).symm⟩)
set_option maxHeartbeats 4000000 in
set_option maxRecDepth 100000 in
theorem h_throwSwitch (l : Launch) (D : va_G) (cI cZ cL : ClassId) (a : Nat → Nat) (o sz : Nat) (σ : St) (g : Nat → Int64) (v cd : Int32) (post : Int32 → St → Prop) (hM : ∀ sz, XI l yX5_throwSwitch wsX5_throwSwitch ({ frames := 7, cells := 1, slots := 6, locals := 110 }) D (ty2 cI cZ) (wX cI cZ a) [.ref (a 0), .int v] σ sz post (x1 cd)) : MH l yL_throwSwitch wsL_throwSwitch ({ frames := 8, cells := 1, slots := 6, locals := 131 }) D cI cZ cL a o [.ref (a 0), .int v, .ref o] (σ, g) sz (fun r u => (r = 0 ∧ ∃ v9 : Int32, post v9 u.1 ∧ u.2 0 = (if v9 = 0 then 0 else 1)) ∨ (¬ r = 0 ∧ r = cd ∧ u = (σ, g))) := by
  refine MH.of (cc := cL_throwSwitch) (maxL := 4) (hh := [(0, 16, 19, 13)]) (by decide) rfl (Nat.le_of_ble_eq_true rfl) ?_
  intro p e s m args below meth c A H locs ls hx hb hr hml hown hts hlocks hexc hEV hZ hA hS hP hK hD hl
  have hl : lv_has ls 4 [(0, .ref (a 0)), (1, .int v), (2, .ref o)] := hl
  refine lv_aload_n hx hb dL_throwSwitch_0 rfl (lv_at hl 2 rfl) ?_
  refine lv_iconst (v := 0) hx hb dL_throwSwitch_1 (by decide) ?_
  refine lv_aload_n hx hb dL_throwSwitch_2 rfl (lv_at hl 0 rfl) ?_
  refine lv_iload_n hx hb dL_throwSwitch_3 rfl (lv_at hl 1 rfl) ?_
  refine XI.callH (As := [.int v]) (rest := [.int 0, .ref o]) ⟨hx, hb, hml, hown, hts⟩ (hM H.size) (cwV 1 hts gL_throwSwitch_X5_throwSwitch rfl rfl rfl (by decide +kernel) ⟨Nat.le_of_ble_eq_true rfl, Nat.le_of_ble_eq_true rfl⟩) hP hK hD hS hA hEV hZ (va_recv hK hP (ci := 5) (q0 := 1) rfl rfl) rfl hl.1 (Nat.le_of_ble_eq_true rfl) (Nat.le_of_ble_eq_true rfl) (Nat.le_of_ble_eq_true rfl) dL_throwSwitch_4 rfl ?_ (fun r u H locs hp hP hD hS => ?_)
  · intro E ce q9 H locs hE hP hD hS hce hcv hcl
    obtain ⟨rfl, hc⟩ := hE
    · skip
      refine vx_catch (name := eIO) (E := eIO) hown [] ⟨0, 16, 19, 13⟩ [] hexc ?_ (by decide) (by decide) (hts (.classLink RL 13 eIO) (by decide +kernel)) (va_Nw.use rfl (hEV.1 (.castable eIO eIO) (by decide +kernel))) hce hcv hcl ?_
      · exact fun z hz => absurd hz List.not_mem_nil
      refine lv_astore_n (lv' := [(3, .ref q9), (0, .ref (a 0)), (1, .int v), (2, .ref o)]) hx hb dL_throwSwitch_19 rfl hl (by decide) rfl (fun ls hl => ?_)
      refine lv_iconst (v := 1) hx hb dL_throwSwitch_20 (by decide) ?_
      exact MH.ret hx hb hr hlocks hK hP hD hS dL_throwSwitch_21 (by exact Or.inr ⟨by decide, hc.symm, rfl⟩)
  refine lv_if_eq (tgt := 14) hx hb dL_throwSwitch_7 (by decide) (fun c_7 => ?_) (fun c_7 => ?_)
  · skip
    refine lv_lconst (v := 0) hx hb dL_throwSwitch_14 (by decide) ?_
    refine va_last hx hb hK hP hD hS 0 2 rfl rfl (by unfold vp_in; decide) dL_throwSwitch_15 (fun H locs hP hD hS => ?_)
    have hP : va_P D vwCl (wo cI cZ cL a o (u, vp_updL g (0 : Int32).toNatClampNeg 0)) H := hP
    have hD : va_D A (wo cI cZ cL a o (u, vp_updL g (0 : Int32).toNatClampNeg 0)) := hD
    refine lv_goto (tgt := 22) hx hb dL_throwSwitch_16 (by decide) ?_
    refine lv_iconst (v := 0) hx hb dL_throwSwitch_22 (by decide) ?_
    exact MH.ret hx hb hr hlocks hK hP hD hS dL_throwSwitch_23 (by exact Or.inl ⟨rfl, r, hp, (if_pos c_7).symm⟩)
  · skip
    refine lv_lconst (v := 1) hx hb dL_throwSwitch_10 (by decide) ?_
    refine lv_goto (tgt := 15) hx hb dL_throwSwitch_11 (by decide) ?_
    refine va_last hx hb hK hP hD hS 0 2 rfl rfl (by unfold vp_in; decide) dL_throwSwitch_15 (fun H locs hP hD hS => ?_)
    have hP : va_P D vwCl (wo cI cZ cL a o (u, vp_updL g (0 : Int32).toNatClampNeg 1)) H := hP
    have hD : va_D A (wo cI cZ cL a o (u, vp_updL g (0 : Int32).toNatClampNeg 1)) := hD
    refine lv_goto (tgt := 22) hx hb dL_throwSwitch_16 (by decide) ?_
    refine lv_iconst (v := 0) hx hb dL_throwSwitch_22 (by decide) ?_
    exact MH.ret hx hb hr hlocks hK hP hD hS dL_throwSwitch_23 (by exact Or.inl ⟨rfl, r, hp, (if_neg c_7).symm⟩)
set_option maxHeartbeats 4000000 in
set_option maxRecDepth 100000 in
theorem h_block (l : Launch) (D : va_G) (cI cZ cL : ClassId) (a : Nat → Nat) (o sz : Nat) (σ : St) (g : Nat → Int64) (t cd : Int32) (post : Int32 → St → Prop) (hM : ∀ sz, XI l yX5_block wsX5_block ({ frames := 8, cells := 1, slots := 6, locals := 131 }) D (ty2 cI cZ) (wX cI cZ a) [.ref (a 0), .int t] σ sz post (x1 cd)) : MH l yL_block wsL_block ({ frames := 9, cells := 1, slots := 6, locals := 152 }) D cI cZ cL a o [.ref (a 0), .int t, .ref o] (σ, g) sz (fun r u => (r = 0 ∧ ∃ v9 : Int32, post v9 u.1 ∧ u.2 0 = v9.toInt64) ∨ (¬ r = 0 ∧ r = cd ∧ u = (σ, g))) := by
  refine MH.of (cc := cL_block) (maxL := 4) (hh := [(0, 9, 12, 13)]) (by decide) rfl (Nat.le_of_ble_eq_true rfl) ?_
  intro p e s m args below meth c A H locs ls hx hb hr hml hown hts hlocks hexc hEV hZ hA hS hP hK hD hl
  have hl : lv_has ls 4 [(0, .ref (a 0)), (1, .int t), (2, .ref o)] := hl
  refine lv_aload_n hx hb dL_block_0 rfl (lv_at hl 2 rfl) ?_
  refine lv_iconst (v := 0) hx hb dL_block_1 (by decide) ?_
  refine lv_aload_n hx hb dL_block_2 rfl (lv_at hl 0 rfl) ?_
  refine lv_iload_n hx hb dL_block_3 rfl (lv_at hl 1 rfl) ?_
  refine XI.callH (As := [.int t]) (rest := [.int 0, .ref o]) ⟨hx, hb, hml, hown, hts⟩ (hM H.size) (cwV 1 hts gL_block_X5_block rfl rfl rfl (by decide +kernel) ⟨Nat.le_of_ble_eq_true rfl, Nat.le_of_ble_eq_true rfl⟩) hP hK hD hS hA hEV hZ (va_recv hK hP (ci := 5) (q0 := 1) rfl rfl) rfl hl.1 (Nat.le_of_ble_eq_true rfl) (Nat.le_of_ble_eq_true rfl) (Nat.le_of_ble_eq_true rfl) dL_block_4 rfl ?_ (fun r u H locs hp hP hD hS => ?_)
  · intro E ce q9 H locs hE hP hD hS hce hcv hcl
    obtain ⟨rfl, hc⟩ := hE
    · skip
      refine vx_catch (name := eIO) (E := eIO) hown [] ⟨0, 9, 12, 13⟩ [] hexc ?_ (by decide) (by decide) (hts (.classLink RL 13 eIO) (by decide +kernel)) (va_Nw.use rfl (hEV.1 (.castable eIO eIO) (by decide +kernel))) hce hcv hcl ?_
      · exact fun z hz => absurd hz List.not_mem_nil
      refine lv_astore_n (lv' := [(3, .ref q9), (0, .ref (a 0)), (1, .int t), (2, .ref o)]) hx hb dL_block_12 rfl hl (by decide) rfl (fun ls hl => ?_)
      refine lv_iconst (v := 1) hx hb dL_block_13 (by decide) ?_
      exact MH.ret hx hb hr hlocks hK hP hD hS dL_block_14 (by exact Or.inr ⟨by decide, hc.symm, rfl⟩)
  refine lv_i2l (v := r.toInt64) hx hb dL_block_7 rfl ?_
  refine va_last hx hb hK hP hD hS 0 2 rfl rfl (by unfold vp_in; decide) dL_block_8 (fun H locs hP hD hS => ?_)
  have hP : va_P D vwCl (wo cI cZ cL a o (u, vp_updL g (0 : Int32).toNatClampNeg r.toInt64)) H := hP
  have hD : va_D A (wo cI cZ cL a o (u, vp_updL g (0 : Int32).toNatClampNeg r.toInt64)) := hD
  refine lv_goto (tgt := 15) hx hb dL_block_9 (by decide) ?_
  refine lv_iconst (v := 0) hx hb dL_block_15 (by decide) ?_
  exact MH.ret hx hb hr hlocks hK hP hD hS dL_block_16 (by exact Or.inl ⟨rfl, r, hp, rfl⟩)
set_option maxHeartbeats 4000000 in
set_option maxRecDepth 100000 in
theorem h_isRight (l : Launch) (D : va_G) (cI cZ cL : ClassId) (a : Nat → Nat) (o sz : Nat) (σ : St) (g : Nat → Int64) (t cd : Int32) (post : Int32 → St → Prop) (hM : ∀ sz, XI l yX5_isRight wsX5_isRight ({ frames := 8, cells := 1, slots := 6, locals := 131 }) D (ty2 cI cZ) (wX cI cZ a) [.ref (a 0), .int t] σ sz post (x1 cd)) : MH l yL_isRight wsL_isRight ({ frames := 9, cells := 1, slots := 6, locals := 152 }) D cI cZ cL a o [.ref (a 0), .int t, .ref o] (σ, g) sz (fun r u => (r = 0 ∧ ∃ v9 : Int32, post v9 u.1 ∧ u.2 0 = (if v9 = 0 then 0 else 1)) ∨ (¬ r = 0 ∧ r = cd ∧ u = (σ, g))) := by
  refine MH.of (cc := cL_isRight) (maxL := 4) (hh := [(0, 16, 19, 13)]) (by decide) rfl (Nat.le_of_ble_eq_true rfl) ?_
  intro p e s m args below meth c A H locs ls hx hb hr hml hown hts hlocks hexc hEV hZ hA hS hP hK hD hl
  have hl : lv_has ls 4 [(0, .ref (a 0)), (1, .int t), (2, .ref o)] := hl
  refine lv_aload_n hx hb dL_isRight_0 rfl (lv_at hl 2 rfl) ?_
  refine lv_iconst (v := 0) hx hb dL_isRight_1 (by decide) ?_
  refine lv_aload_n hx hb dL_isRight_2 rfl (lv_at hl 0 rfl) ?_
  refine lv_iload_n hx hb dL_isRight_3 rfl (lv_at hl 1 rfl) ?_
  refine XI.callH (As := [.int t]) (rest := [.int 0, .ref o]) ⟨hx, hb, hml, hown, hts⟩ (hM H.size) (cwV 1 hts gL_isRight_X5_isRight rfl rfl rfl (by decide +kernel) ⟨Nat.le_of_ble_eq_true rfl, Nat.le_of_ble_eq_true rfl⟩) hP hK hD hS hA hEV hZ (va_recv hK hP (ci := 5) (q0 := 1) rfl rfl) rfl hl.1 (Nat.le_of_ble_eq_true rfl) (Nat.le_of_ble_eq_true rfl) (Nat.le_of_ble_eq_true rfl) dL_isRight_4 rfl ?_ (fun r u H locs hp hP hD hS => ?_)
  · intro E ce q9 H locs hE hP hD hS hce hcv hcl
    obtain ⟨rfl, hc⟩ := hE
    · skip
      refine vx_catch (name := eIO) (E := eIO) hown [] ⟨0, 16, 19, 13⟩ [] hexc ?_ (by decide) (by decide) (hts (.classLink RL 13 eIO) (by decide +kernel)) (va_Nw.use rfl (hEV.1 (.castable eIO eIO) (by decide +kernel))) hce hcv hcl ?_
      · exact fun z hz => absurd hz List.not_mem_nil
      refine lv_astore_n (lv' := [(3, .ref q9), (0, .ref (a 0)), (1, .int t), (2, .ref o)]) hx hb dL_isRight_19 rfl hl (by decide) rfl (fun ls hl => ?_)
      refine lv_iconst (v := 1) hx hb dL_isRight_20 (by decide) ?_
      exact MH.ret hx hb hr hlocks hK hP hD hS dL_isRight_21 (by exact Or.inr ⟨by decide, hc.symm, rfl⟩)
  refine lv_if_eq (tgt := 14) hx hb dL_isRight_7 (by decide) (fun c_7 => ?_) (fun c_7 => ?_)
  · skip
    refine lv_lconst (v := 0) hx hb dL_isRight_14 (by decide) ?_
    refine va_last hx hb hK hP hD hS 0 2 rfl rfl (by unfold vp_in; decide) dL_isRight_15 (fun H locs hP hD hS => ?_)
    have hP : va_P D vwCl (wo cI cZ cL a o (u, vp_updL g (0 : Int32).toNatClampNeg 0)) H := hP
    have hD : va_D A (wo cI cZ cL a o (u, vp_updL g (0 : Int32).toNatClampNeg 0)) := hD
    refine lv_goto (tgt := 22) hx hb dL_isRight_16 (by decide) ?_
    refine lv_iconst (v := 0) hx hb dL_isRight_22 (by decide) ?_
    exact MH.ret hx hb hr hlocks hK hP hD hS dL_isRight_23 (by exact Or.inl ⟨rfl, r, hp, (if_pos c_7).symm⟩)
  · skip
    refine lv_lconst (v := 1) hx hb dL_isRight_10 (by decide) ?_
    refine lv_goto (tgt := 15) hx hb dL_isRight_11 (by decide) ?_
    refine va_last hx hb hK hP hD hS 0 2 rfl rfl (by unfold vp_in; decide) dL_isRight_15 (fun H locs hP hD hS => ?_)
    have hP : va_P D vwCl (wo cI cZ cL a o (u, vp_updL g (0 : Int32).toNatClampNeg 1)) H := hP
    have hD : va_D A (wo cI cZ cL a o (u, vp_updL g (0 : Int32).toNatClampNeg 1)) := hD
    refine lv_goto (tgt := 22) hx hb dL_isRight_16 (by decide) ?_
    refine lv_iconst (v := 0) hx hb dL_isRight_22 (by decide) ?_
    exact MH.ret hx hb hr hlocks hK hP hD hS dL_isRight_23 (by exact Or.inl ⟨rfl, r, hp, (if_neg c_7).symm⟩)
set_option maxHeartbeats 4000000 in
set_option maxRecDepth 100000 in
theorem h_trainOn (l : Launch) (D : va_G) (cI cZ cL : ClassId) (a : Nat → Nat) (o sz : Nat) (σ : St) (g : Nat → Int64) (b cd : Int32) (post : Int32 → St → Prop) (hM : ∀ sz, XI l yX5_trainOn wsX5_trainOn ({ frames := 8, cells := 1, slots := 6, locals := 130 }) D (ty2 cI cZ) (wX cI cZ a) [.ref (a 0), .int b] σ sz post (x1 cd)) : MH l yL_trainOn wsL_trainOn ({ frames := 9, cells := 1, slots := 6, locals := 151 }) D cI cZ cL a o [.ref (a 0), .int b, .ref o] (σ, g) sz (fun r u => (r = 0 ∧ ∃ v9 : Int32, post v9 u.1 ∧ u.2 0 = v9.toInt64) ∨ (¬ r = 0 ∧ r = cd ∧ u = (σ, g))) := by
  refine MH.of (cc := cL_trainOn) (maxL := 4) (hh := [(0, 9, 12, 13)]) (by decide) rfl (Nat.le_of_ble_eq_true rfl) ?_
  intro p e s m args below meth c A H locs ls hx hb hr hml hown hts hlocks hexc hEV hZ hA hS hP hK hD hl
  have hl : lv_has ls 4 [(0, .ref (a 0)), (1, .int b), (2, .ref o)] := hl
  refine lv_aload_n hx hb dL_trainOn_0 rfl (lv_at hl 2 rfl) ?_
  refine lv_iconst (v := 0) hx hb dL_trainOn_1 (by decide) ?_
  refine lv_aload_n hx hb dL_trainOn_2 rfl (lv_at hl 0 rfl) ?_
  refine lv_iload_n hx hb dL_trainOn_3 rfl (lv_at hl 1 rfl) ?_
  refine XI.callH (As := [.int b]) (rest := [.int 0, .ref o]) ⟨hx, hb, hml, hown, hts⟩ (hM H.size) (cwV 1 hts gL_trainOn_X5_trainOn rfl rfl rfl (by decide +kernel) ⟨Nat.le_of_ble_eq_true rfl, Nat.le_of_ble_eq_true rfl⟩) hP hK hD hS hA hEV hZ (va_recv hK hP (ci := 5) (q0 := 1) rfl rfl) rfl hl.1 (Nat.le_of_ble_eq_true rfl) (Nat.le_of_ble_eq_true rfl) (Nat.le_of_ble_eq_true rfl) dL_trainOn_4 rfl ?_ (fun r u H locs hp hP hD hS => ?_)
  · intro E ce q9 H locs hE hP hD hS hce hcv hcl
    obtain ⟨rfl, hc⟩ := hE
    · skip
      refine vx_catch (name := eIO) (E := eIO) hown [] ⟨0, 9, 12, 13⟩ [] hexc ?_ (by decide) (by decide) (hts (.classLink RL 13 eIO) (by decide +kernel)) (va_Nw.use rfl (hEV.1 (.castable eIO eIO) (by decide +kernel))) hce hcv hcl ?_
      · exact fun z hz => absurd hz List.not_mem_nil
      refine lv_astore_n (lv' := [(3, .ref q9), (0, .ref (a 0)), (1, .int b), (2, .ref o)]) hx hb dL_trainOn_12 rfl hl (by decide) rfl (fun ls hl => ?_)
      refine lv_iconst (v := 1) hx hb dL_trainOn_13 (by decide) ?_
      exact MH.ret hx hb hr hlocks hK hP hD hS dL_trainOn_14 (by exact Or.inr ⟨by decide, hc.symm, rfl⟩)
  refine lv_i2l (v := r.toInt64) hx hb dL_trainOn_7 rfl ?_
  refine va_last hx hb hK hP hD hS 0 2 rfl rfl (by unfold vp_in; decide) dL_trainOn_8 (fun H locs hP hD hS => ?_)
  have hP : va_P D vwCl (wo cI cZ cL a o (u, vp_updL g (0 : Int32).toNatClampNeg r.toInt64)) H := hP
  have hD : va_D A (wo cI cZ cL a o (u, vp_updL g (0 : Int32).toNatClampNeg r.toInt64)) := hD
  refine lv_goto (tgt := 15) hx hb dL_trainOn_9 (by decide) ?_
  refine lv_iconst (v := 0) hx hb dL_trainOn_15 (by decide) ?_
  exact MH.ret hx hb hr hlocks hK hP hD hS dL_trainOn_16 (by exact Or.inl ⟨rfl, r, hp, rfl⟩)
set_option maxHeartbeats 4000000 in
set_option maxRecDepth 100000 in
theorem h_run (l : Launch) (D : va_G) (cI cZ cL : ClassId) (a : Nat → Nat) (o sz : Nat) (σ : St) (g : Nat → Int64) (mm cd : Int32) (post : Int32 → St → Prop) (hM : ∀ sz, XI l yX5_run wsX5_run ({ frames := 8, cells := 1, slots := 6, locals := 130 }) D (ty2 cI cZ) (wX cI cZ a) [.ref (a 0), .int mm] σ sz post (xC cd)) : MH l yL_run wsL_run ({ frames := 9, cells := 1, slots := 6, locals := 153 }) D cI cZ cL a o [.ref (a 0), .int mm, .ref o] (σ, g) sz (fun r u => (r = 0 ∧ ∃ v9 : Int32, post v9 u.1 ∧ u.2 0 = v9.toInt64) ∨ (¬ r = 0 ∧ r = cd ∧ u = (σ, g))) := by
  refine MH.of (cc := cL_run) (maxL := 4) (hh := [(0, 9, 12, 25), (0, 9, 15, 15)]) (by decide) rfl (Nat.le_of_ble_eq_true rfl) ?_
  intro p e s m args below meth c A H locs ls hx hb hr hml hown hts hlocks hexc hEV hZ hA hS hP hK hD hl
  have hl : lv_has ls 4 [(0, .ref (a 0)), (1, .int mm), (2, .ref o)] := hl
  refine lv_aload_n hx hb dL_run_0 rfl (lv_at hl 2 rfl) ?_
  refine lv_iconst (v := 0) hx hb dL_run_1 (by decide) ?_
  refine lv_aload_n hx hb dL_run_2 rfl (lv_at hl 0 rfl) ?_
  refine lv_iload_n hx hb dL_run_3 rfl (lv_at hl 1 rfl) ?_
  refine XI.callH (As := [.int mm]) (rest := [.int 0, .ref o]) ⟨hx, hb, hml, hown, hts⟩ (hM H.size) (cwV 1 hts gL_run_X5_run rfl rfl rfl (by decide +kernel) ⟨Nat.le_of_ble_eq_true rfl, Nat.le_of_ble_eq_true rfl⟩) hP hK hD hS hA hEV hZ (va_recv hK hP (ci := 5) (q0 := 1) rfl rfl) rfl hl.1 (Nat.le_of_ble_eq_true rfl) (Nat.le_of_ble_eq_true rfl) (Nat.le_of_ble_eq_true rfl) dL_run_4 rfl ?_ (fun r u H locs hp hP hD hS => ?_)
  · intro E ce q9 H locs hE hP hD hS hce hcv hcl
    rcases hE with ⟨rfl, hc⟩ | ⟨rfl, hc⟩
    · skip
      refine vx_catch (name := eIA) (E := eIA) hown [] ⟨0, 9, 12, 25⟩ [⟨0, 9, 15, 15⟩] hexc ?_ (by decide) (by decide) (hts (.classLink RL 25 eIA) (by decide +kernel)) (va_Nw.use rfl (hEV.1 (.castable eIA eIA) (by decide +kernel))) hce hcv hcl ?_
      · exact fun z hz => absurd hz List.not_mem_nil
      refine lv_astore_n (lv' := [(3, .ref q9), (0, .ref (a 0)), (1, .int mm), (2, .ref o)]) hx hb dL_run_12 rfl hl (by decide) rfl (fun ls hl => ?_)
      refine lv_iconst (v := 1) hx hb dL_run_13 (by decide) ?_
      exact MH.ret hx hb hr hlocks hK hP hD hS dL_run_14 (by exact Or.inr ⟨by decide, hc.symm, rfl⟩)
    · skip
      refine vx_catch (name := eIS) (E := eIS) hown [⟨0, 9, 12, 25⟩] ⟨0, 9, 15, 15⟩ [] hexc ?_ (by decide) (by decide) (hts (.classLink RL 15 eIS) (by decide +kernel)) (va_Nw.use rfl (hEV.1 (.castable eIS eIS) (by decide +kernel))) hce hcv hcl ?_
      · intro z hz
        rw [List.mem_singleton.mp hz]
        exact Or.inr ⟨by decide, eIA, hts (.classLink RL 25 eIA) (by decide +kernel), hEV.2.2 (eIS, eIA) (by decide +kernel)⟩
      refine lv_astore_n (lv' := [(3, .ref q9), (0, .ref (a 0)), (1, .int mm), (2, .ref o)]) hx hb dL_run_15 rfl hl (by decide) rfl (fun ls hl => ?_)
      refine lv_iconst (v := 2) hx hb dL_run_16 (by decide) ?_
      exact MH.ret hx hb hr hlocks hK hP hD hS dL_run_17 (by exact Or.inr ⟨by decide, hc.symm, rfl⟩)
  refine lv_i2l (v := r.toInt64) hx hb dL_run_7 rfl ?_
  refine va_last hx hb hK hP hD hS 0 2 rfl rfl (by unfold vp_in; decide) dL_run_8 (fun H locs hP hD hS => ?_)
  have hP : va_P D vwCl (wo cI cZ cL a o (u, vp_updL g (0 : Int32).toNatClampNeg r.toInt64)) H := hP
  have hD : va_D A (wo cI cZ cL a o (u, vp_updL g (0 : Int32).toNatClampNeg r.toInt64)) := hD
  refine lv_goto (tgt := 18) hx hb dL_run_9 (by decide) ?_
  refine lv_iconst (v := 0) hx hb dL_run_18 (by decide) ?_
  exact MH.ret hx hb hr hlocks hK hP hD hS dL_run_19 (by exact Or.inl ⟨rfl, r, hp, rfl⟩)
set_option maxHeartbeats 4000000 in
set_option maxRecDepth 100000 in
theorem h_reaches (l : Launch) (D : va_G) (cI cZ cL : ClassId) (a : Nat → Nat) (o sz : Nat) (σ : St) (g : Nat → Int64) (t b cd : Int32) (post : Int32 → St → Prop) (hM : ∀ sz, XI l yX5_reaches wsX5_reaches ({ frames := 8, cells := 1, slots := 6, locals := 131 }) D (ty2 cI cZ) (wX cI cZ a) [.ref (a 0), .int t, .int b] σ sz post (x1 cd)) : MH l yL_reaches wsL_reaches ({ frames := 9, cells := 1, slots := 6, locals := 154 }) D cI cZ cL a o [.ref (a 0), .int t, .int b, .ref o] (σ, g) sz (fun r u => (r = 0 ∧ ∃ v9 : Int32, post v9 u.1 ∧ u.2 0 = v9.toInt64) ∨ (¬ r = 0 ∧ r = cd ∧ u = (σ, g))) := by
  refine MH.of (cc := cL_reaches) (maxL := 5) (hh := [(0, 10, 13, 13)]) (by decide) rfl (Nat.le_of_ble_eq_true rfl) ?_
  intro p e s m args below meth c A H locs ls hx hb hr hml hown hts hlocks hexc hEV hZ hA hS hP hK hD hl
  have hl : lv_has ls 5 [(0, .ref (a 0)), (1, .int t), (2, .int b), (3, .ref o)] := hl
  refine lv_aload_n hx hb dL_reaches_0 rfl (lv_at hl 3 rfl) ?_
  refine lv_iconst (v := 0) hx hb dL_reaches_1 (by decide) ?_
  refine lv_aload_n hx hb dL_reaches_2 rfl (lv_at hl 0 rfl) ?_
  refine lv_iload_n hx hb dL_reaches_3 rfl (lv_at hl 1 rfl) ?_
  refine lv_iload_n hx hb dL_reaches_4 rfl (lv_at hl 2 rfl) ?_
  refine XI.callH (As := [.int t, .int b]) (rest := [.int 0, .ref o]) ⟨hx, hb, hml, hown, hts⟩ (hM H.size) (cwV 2 hts gL_reaches_X5_reaches rfl rfl rfl (by decide +kernel) ⟨Nat.le_of_ble_eq_true rfl, Nat.le_of_ble_eq_true rfl⟩) hP hK hD hS hA hEV hZ (va_recv hK hP (ci := 5) (q0 := 1) rfl rfl) rfl hl.1 (Nat.le_of_ble_eq_true rfl) (Nat.le_of_ble_eq_true rfl) (Nat.le_of_ble_eq_true rfl) dL_reaches_5 rfl ?_ (fun r u H locs hp hP hD hS => ?_)
  · intro E ce q9 H locs hE hP hD hS hce hcv hcl
    obtain ⟨rfl, hc⟩ := hE
    · skip
      refine vx_catch (name := eIO) (E := eIO) hown [] ⟨0, 10, 13, 13⟩ [] hexc ?_ (by decide) (by decide) (hts (.classLink RL 13 eIO) (by decide +kernel)) (va_Nw.use rfl (hEV.1 (.castable eIO eIO) (by decide +kernel))) hce hcv hcl ?_
      · exact fun z hz => absurd hz List.not_mem_nil
      refine lv_astore (lv' := [(4, .ref q9), (0, .ref (a 0)), (1, .int t), (2, .int b), (3, .ref o)]) hx hb dL_reaches_13 hl (by decide) rfl (fun ls hl => ?_)
      refine lv_iconst (v := 1) hx hb dL_reaches_15 (by decide) ?_
      exact MH.ret hx hb hr hlocks hK hP hD hS dL_reaches_16 (by exact Or.inr ⟨by decide, hc.symm, rfl⟩)
  refine lv_i2l (v := r.toInt64) hx hb dL_reaches_8 rfl ?_
  refine va_last hx hb hK hP hD hS 0 2 rfl rfl (by unfold vp_in; decide) dL_reaches_9 (fun H locs hP hD hS => ?_)
  have hP : va_P D vwCl (wo cI cZ cL a o (u, vp_updL g (0 : Int32).toNatClampNeg r.toInt64)) H := hP
  have hD : va_D A (wo cI cZ cL a o (u, vp_updL g (0 : Int32).toNatClampNeg r.toInt64)) := hD
  refine lv_goto (tgt := 17) hx hb dL_reaches_10 (by decide) ?_
  refine lv_iconst (v := 0) hx hb dL_reaches_17 (by decide) ?_
  exact MH.ret hx hb hr hlocks hK hP hD hS dL_reaches_18 (by exact Or.inl ⟨rfl, r, hp, rfl⟩)
set_option maxHeartbeats 4000000 in
set_option maxRecDepth 100000 in
theorem h_book (l : Launch) (D : va_G) (cI cZ cL : ClassId) (a : Nat → Nat) (o sz : Nat) (σ : St) (g : Nat → Int64) (t b fr to cd : Int32) (post : Int32 → St → Prop) (hM : ∀ sz, XI l yX5_book wsX5_book ({ frames := 8, cells := 1, slots := 6, locals := 132 }) D (ty2 cI cZ) (wX cI cZ a) [.ref (a 0), .int t, .int b, .int fr, .int to] σ sz post (xD cd)) : MH l yL_book wsL_book ({ frames := 9, cells := 1, slots := 6, locals := 156 }) D cI cZ cL a o [.ref (a 0), .int t, .int b, .int fr, .int to, .ref o] (σ, g) sz (fun r u => (r = 0 ∧ ∃ v9 : Int32, post v9 u.1 ∧ u.2 0 = v9.toInt64) ∨ (¬ r = 0 ∧ r = cd ∧ u = (σ, g))) := by
  refine MH.of (cc := cL_book) (maxL := 7) (hh := [(0, 14, 17, 13), (0, 14, 21, 25), (0, 14, 25, 15)]) (by decide) rfl (Nat.le_of_ble_eq_true rfl) ?_
  intro p e s m args below meth c A H locs ls hx hb hr hml hown hts hlocks hexc hEV hZ hA hS hP hK hD hl
  have hl : lv_has ls 7 [(0, .ref (a 0)), (1, .int t), (2, .int b), (3, .int fr), (4, .int to), (5, .ref o)] := hl
  refine lv_aload hx hb dL_book_0 (lv_at hl 5 rfl) ?_
  refine lv_iconst (v := 0) hx hb dL_book_2 (by decide) ?_
  refine lv_aload_n hx hb dL_book_3 rfl (lv_at hl 0 rfl) ?_
  refine lv_iload_n hx hb dL_book_4 rfl (lv_at hl 1 rfl) ?_
  refine lv_iload_n hx hb dL_book_5 rfl (lv_at hl 2 rfl) ?_
  refine lv_iload_n hx hb dL_book_6 rfl (lv_at hl 3 rfl) ?_
  refine lv_iload hx hb dL_book_7 (lv_at hl 4 rfl) ?_
  refine XI.callH (As := [.int t, .int b, .int fr, .int to]) (rest := [.int 0, .ref o]) ⟨hx, hb, hml, hown, hts⟩ (hM H.size) (cwV 4 hts gL_book_X5_book rfl rfl rfl (by decide +kernel) ⟨Nat.le_of_ble_eq_true rfl, Nat.le_of_ble_eq_true rfl⟩) hP hK hD hS hA hEV hZ (va_recv hK hP (ci := 5) (q0 := 1) rfl rfl) rfl hl.1 (Nat.le_of_ble_eq_true rfl) (Nat.le_of_ble_eq_true rfl) (Nat.le_of_ble_eq_true rfl) dL_book_9 rfl ?_ (fun r u H locs hp hP hD hS => ?_)
  · intro E ce q9 H locs hE hP hD hS hce hcv hcl
    rcases hE with ⟨rfl, hc⟩ | ⟨rfl, hc⟩ | ⟨rfl, hc⟩
    · skip
      refine vx_catch (name := eIO) (E := eIO) hown [] ⟨0, 14, 17, 13⟩ [⟨0, 14, 21, 25⟩, ⟨0, 14, 25, 15⟩] hexc ?_ (by decide) (by decide) (hts (.classLink RL 13 eIO) (by decide +kernel)) (va_Nw.use rfl (hEV.1 (.castable eIO eIO) (by decide +kernel))) hce hcv hcl ?_
      · exact fun z hz => absurd hz List.not_mem_nil
      refine lv_astore (lv' := [(6, .ref q9), (0, .ref (a 0)), (1, .int t), (2, .int b), (3, .int fr), (4, .int to), (5, .ref o)]) hx hb dL_book_17 hl (by decide) rfl (fun ls hl => ?_)
      refine lv_iconst (v := 1) hx hb dL_book_19 (by decide) ?_
      exact MH.ret hx hb hr hlocks hK hP hD hS dL_book_20 (by exact Or.inr ⟨by decide, hc.symm, rfl⟩)
    · skip
      refine vx_catch (name := eIA) (E := eIA) hown [⟨0, 14, 17, 13⟩] ⟨0, 14, 21, 25⟩ [⟨0, 14, 25, 15⟩] hexc ?_ (by decide) (by decide) (hts (.classLink RL 25 eIA) (by decide +kernel)) (va_Nw.use rfl (hEV.1 (.castable eIA eIA) (by decide +kernel))) hce hcv hcl ?_
      · intro z hz
        rw [List.mem_singleton.mp hz]
        exact Or.inr ⟨by decide, eIO, hts (.classLink RL 13 eIO) (by decide +kernel), hEV.2.2 (eIA, eIO) (by decide +kernel)⟩
      refine lv_astore (lv' := [(6, .ref q9), (0, .ref (a 0)), (1, .int t), (2, .int b), (3, .int fr), (4, .int to), (5, .ref o)]) hx hb dL_book_21 hl (by decide) rfl (fun ls hl => ?_)
      refine lv_iconst (v := 2) hx hb dL_book_23 (by decide) ?_
      exact MH.ret hx hb hr hlocks hK hP hD hS dL_book_24 (by exact Or.inr ⟨by decide, hc.symm, rfl⟩)
    · skip
      refine vx_catch (name := eIS) (E := eIS) hown [⟨0, 14, 17, 13⟩, ⟨0, 14, 21, 25⟩] ⟨0, 14, 25, 15⟩ [] hexc ?_ (by decide) (by decide) (hts (.classLink RL 15 eIS) (by decide +kernel)) (va_Nw.use rfl (hEV.1 (.castable eIS eIS) (by decide +kernel))) hce hcv hcl ?_
      · intro z hz
        rcases List.mem_cons.mp hz with rfl | hz
        · exact Or.inr ⟨by decide, eIO, hts (.classLink RL 13 eIO) (by decide +kernel), hEV.2.2 (eIS, eIO) (by decide +kernel)⟩
        · rw [List.mem_singleton.mp hz]
          exact Or.inr ⟨by decide, eIA, hts (.classLink RL 25 eIA) (by decide +kernel), hEV.2.2 (eIS, eIA) (by decide +kernel)⟩
      refine lv_astore (lv' := [(6, .ref q9), (0, .ref (a 0)), (1, .int t), (2, .int b), (3, .int fr), (4, .int to), (5, .ref o)]) hx hb dL_book_25 hl (by decide) rfl (fun ls hl => ?_)
      refine lv_iconst (v := 3) hx hb dL_book_27 (by decide) ?_
      exact MH.ret hx hb hr hlocks hK hP hD hS dL_book_28 (by exact Or.inr ⟨by decide, hc.symm, rfl⟩)
  refine lv_i2l (v := r.toInt64) hx hb dL_book_12 rfl ?_
  refine va_last hx hb hK hP hD hS 0 2 rfl rfl (by unfold vp_in; decide) dL_book_13 (fun H locs hP hD hS => ?_)
  have hP : va_P D vwCl (wo cI cZ cL a o (u, vp_updL g (0 : Int32).toNatClampNeg r.toInt64)) H := hP
  have hD : va_D A (wo cI cZ cL a o (u, vp_updL g (0 : Int32).toNatClampNeg r.toInt64)) := hD
  refine lv_goto (tgt := 29) hx hb dL_book_14 (by decide) ?_
  refine lv_iconst (v := 0) hx hb dL_book_29 (by decide) ?_
  exact MH.ret hx hb hr hlocks hK hP hD hS dL_book_30 (by exact Or.inl ⟨rfl, r, hp, rfl⟩)
set_option maxHeartbeats 4000000 in
set_option maxRecDepth 100000 in
theorem h_canBook (l : Launch) (D : va_G) (cI cZ cL : ClassId) (a : Nat → Nat) (o sz : Nat) (σ : St) (g : Nat → Int64) (t b fr to cd : Int32) (post : Int32 → St → Prop) (hM : ∀ sz, XI l yX5_canBook wsX5_canBook ({ frames := 8, cells := 1, slots := 6, locals := 132 }) D (ty2 cI cZ) (wX cI cZ a) [.ref (a 0), .int t, .int b, .int fr, .int to] σ sz post (xB cd)) : MH l yL_canBook wsL_canBook ({ frames := 9, cells := 1, slots := 6, locals := 156 }) D cI cZ cL a o [.ref (a 0), .int t, .int b, .int fr, .int to, .ref o] (σ, g) sz (fun r u => (r = 0 ∧ ∃ v9 : Int32, post v9 u.1 ∧ u.2 0 = (if v9 = 0 then 0 else 1)) ∨ (¬ r = 0 ∧ r = cd ∧ u = (σ, g))) := by
  refine MH.of (cc := cL_canBook) (maxL := 7) (hh := [(0, 21, 24, 13), (0, 21, 28, 25)]) (by decide) rfl (Nat.le_of_ble_eq_true rfl) ?_
  intro p e s m args below meth c A H locs ls hx hb hr hml hown hts hlocks hexc hEV hZ hA hS hP hK hD hl
  have hl : lv_has ls 7 [(0, .ref (a 0)), (1, .int t), (2, .int b), (3, .int fr), (4, .int to), (5, .ref o)] := hl
  refine lv_aload hx hb dL_canBook_0 (lv_at hl 5 rfl) ?_
  refine lv_iconst (v := 0) hx hb dL_canBook_2 (by decide) ?_
  refine lv_aload_n hx hb dL_canBook_3 rfl (lv_at hl 0 rfl) ?_
  refine lv_iload_n hx hb dL_canBook_4 rfl (lv_at hl 1 rfl) ?_
  refine lv_iload_n hx hb dL_canBook_5 rfl (lv_at hl 2 rfl) ?_
  refine lv_iload_n hx hb dL_canBook_6 rfl (lv_at hl 3 rfl) ?_
  refine lv_iload hx hb dL_canBook_7 (lv_at hl 4 rfl) ?_
  refine XI.callH (As := [.int t, .int b, .int fr, .int to]) (rest := [.int 0, .ref o]) ⟨hx, hb, hml, hown, hts⟩ (hM H.size) (cwV 4 hts gL_canBook_X5_canBook rfl rfl rfl (by decide +kernel) ⟨Nat.le_of_ble_eq_true rfl, Nat.le_of_ble_eq_true rfl⟩) hP hK hD hS hA hEV hZ (va_recv hK hP (ci := 5) (q0 := 1) rfl rfl) rfl hl.1 (Nat.le_of_ble_eq_true rfl) (Nat.le_of_ble_eq_true rfl) (Nat.le_of_ble_eq_true rfl) dL_canBook_9 rfl ?_ (fun r u H locs hp hP hD hS => ?_)
  · intro E ce q9 H locs hE hP hD hS hce hcv hcl
    rcases hE with ⟨rfl, hc⟩ | ⟨rfl, hc⟩
    · skip
      refine vx_catch (name := eIO) (E := eIO) hown [] ⟨0, 21, 24, 13⟩ [⟨0, 21, 28, 25⟩] hexc ?_ (by decide) (by decide) (hts (.classLink RL 13 eIO) (by decide +kernel)) (va_Nw.use rfl (hEV.1 (.castable eIO eIO) (by decide +kernel))) hce hcv hcl ?_
      · exact fun z hz => absurd hz List.not_mem_nil
      refine lv_astore (lv' := [(6, .ref q9), (0, .ref (a 0)), (1, .int t), (2, .int b), (3, .int fr), (4, .int to), (5, .ref o)]) hx hb dL_canBook_24 hl (by decide) rfl (fun ls hl => ?_)
      refine lv_iconst (v := 1) hx hb dL_canBook_26 (by decide) ?_
      exact MH.ret hx hb hr hlocks hK hP hD hS dL_canBook_27 (by exact Or.inr ⟨by decide, hc.symm, rfl⟩)
    · skip
      refine vx_catch (name := eIA) (E := eIA) hown [⟨0, 21, 24, 13⟩] ⟨0, 21, 28, 25⟩ [] hexc ?_ (by decide) (by decide) (hts (.classLink RL 25 eIA) (by decide +kernel)) (va_Nw.use rfl (hEV.1 (.castable eIA eIA) (by decide +kernel))) hce hcv hcl ?_
      · intro z hz
        rw [List.mem_singleton.mp hz]
        exact Or.inr ⟨by decide, eIO, hts (.classLink RL 13 eIO) (by decide +kernel), hEV.2.2 (eIA, eIO) (by decide +kernel)⟩
      refine lv_astore (lv' := [(6, .ref q9), (0, .ref (a 0)), (1, .int t), (2, .int b), (3, .int fr), (4, .int to), (5, .ref o)]) hx hb dL_canBook_28 hl (by decide) rfl (fun ls hl => ?_)
      refine lv_iconst (v := 2) hx hb dL_canBook_30 (by decide) ?_
      exact MH.ret hx hb hr hlocks hK hP hD hS dL_canBook_31 (by exact Or.inr ⟨by decide, hc.symm, rfl⟩)
  refine lv_if_eq (tgt := 19) hx hb dL_canBook_12 (by decide) (fun c_12 => ?_) (fun c_12 => ?_)
  · skip
    refine lv_lconst (v := 0) hx hb dL_canBook_19 (by decide) ?_
    refine va_last hx hb hK hP hD hS 0 2 rfl rfl (by unfold vp_in; decide) dL_canBook_20 (fun H locs hP hD hS => ?_)
    have hP : va_P D vwCl (wo cI cZ cL a o (u, vp_updL g (0 : Int32).toNatClampNeg 0)) H := hP
    have hD : va_D A (wo cI cZ cL a o (u, vp_updL g (0 : Int32).toNatClampNeg 0)) := hD
    refine lv_goto (tgt := 32) hx hb dL_canBook_21 (by decide) ?_
    refine lv_iconst (v := 0) hx hb dL_canBook_32 (by decide) ?_
    exact MH.ret hx hb hr hlocks hK hP hD hS dL_canBook_33 (by exact Or.inl ⟨rfl, r, hp, (if_pos c_12).symm⟩)
  · skip
    refine lv_lconst (v := 1) hx hb dL_canBook_15 (by decide) ?_
    refine lv_goto (tgt := 20) hx hb dL_canBook_16 (by decide) ?_
    refine va_last hx hb hK hP hD hS 0 2 rfl rfl (by unfold vp_in; decide) dL_canBook_20 (fun H locs hP hD hS => ?_)
    have hP : va_P D vwCl (wo cI cZ cL a o (u, vp_updL g (0 : Int32).toNatClampNeg 1)) H := hP
    have hD : va_D A (wo cI cZ cL a o (u, vp_updL g (0 : Int32).toNatClampNeg 1)) := hD
    refine lv_goto (tgt := 32) hx hb dL_canBook_21 (by decide) ?_
    refine lv_iconst (v := 0) hx hb dL_canBook_32 (by decide) ?_
    exact MH.ret hx hb hr hlocks hK hP hD hS dL_canBook_33 (by exact Or.inl ⟨rfl, r, hp, (if_neg c_12).symm⟩)
set_option maxHeartbeats 4000000 in
set_option maxRecDepth 100000 in
theorem h_canBookByMinutes (l : Launch) (D : va_G) (cI cZ cL : ClassId) (a : Nat → Nat) (o sz : Nat) (σ : St) (g : Nat → Int64) (t b fr to cd : Int32) (post : Int32 → St → Prop) (hM : ∀ sz, XI l yX5_canBookByMinutes wsX5_canBookByMinutes ({ frames := 8, cells := 1, slots := 6, locals := 132 }) D (ty2 cI cZ) (wX cI cZ a) [.ref (a 0), .int t, .int b, .int fr, .int to] σ sz post (xB cd)) : MH l yL_canBookByMinutes wsL_canBookByMinutes ({ frames := 9, cells := 1, slots := 6, locals := 157 }) D cI cZ cL a o [.ref (a 0), .int t, .int b, .int fr, .int to, .ref o] (σ, g) sz (fun r u => (r = 0 ∧ ∃ v9 : Int32, post v9 u.1 ∧ u.2 0 = (if v9 = 0 then 0 else 1)) ∨ (¬ r = 0 ∧ r = cd ∧ u = (σ, g))) := by
  refine MH.of (cc := cL_canBookByMinutes) (maxL := 7) (hh := [(0, 21, 24, 13), (0, 21, 28, 25)]) (by decide) rfl (Nat.le_of_ble_eq_true rfl) ?_
  intro p e s m args below meth c A H locs ls hx hb hr hml hown hts hlocks hexc hEV hZ hA hS hP hK hD hl
  have hl : lv_has ls 7 [(0, .ref (a 0)), (1, .int t), (2, .int b), (3, .int fr), (4, .int to), (5, .ref o)] := hl
  refine lv_aload hx hb dL_canBookByMinutes_0 (lv_at hl 5 rfl) ?_
  refine lv_iconst (v := 0) hx hb dL_canBookByMinutes_2 (by decide) ?_
  refine lv_aload_n hx hb dL_canBookByMinutes_3 rfl (lv_at hl 0 rfl) ?_
  refine lv_iload_n hx hb dL_canBookByMinutes_4 rfl (lv_at hl 1 rfl) ?_
  refine lv_iload_n hx hb dL_canBookByMinutes_5 rfl (lv_at hl 2 rfl) ?_
  refine lv_iload_n hx hb dL_canBookByMinutes_6 rfl (lv_at hl 3 rfl) ?_
  refine lv_iload hx hb dL_canBookByMinutes_7 (lv_at hl 4 rfl) ?_
  refine XI.callH (As := [.int t, .int b, .int fr, .int to]) (rest := [.int 0, .ref o]) ⟨hx, hb, hml, hown, hts⟩ (hM H.size) (cwV 4 hts gL_canBookByMinutes_X5_canBookByMinutes rfl rfl rfl (by decide +kernel) ⟨Nat.le_of_ble_eq_true rfl, Nat.le_of_ble_eq_true rfl⟩) hP hK hD hS hA hEV hZ (va_recv hK hP (ci := 5) (q0 := 1) rfl rfl) rfl hl.1 (Nat.le_of_ble_eq_true rfl) (Nat.le_of_ble_eq_true rfl) (Nat.le_of_ble_eq_true rfl) dL_canBookByMinutes_9 rfl ?_ (fun r u H locs hp hP hD hS => ?_)
  · intro E ce q9 H locs hE hP hD hS hce hcv hcl
    rcases hE with ⟨rfl, hc⟩ | ⟨rfl, hc⟩
    · skip
      refine vx_catch (name := eIO) (E := eIO) hown [] ⟨0, 21, 24, 13⟩ [⟨0, 21, 28, 25⟩] hexc ?_ (by decide) (by decide) (hts (.classLink RL 13 eIO) (by decide +kernel)) (va_Nw.use rfl (hEV.1 (.castable eIO eIO) (by decide +kernel))) hce hcv hcl ?_
      · exact fun z hz => absurd hz List.not_mem_nil
      refine lv_astore (lv' := [(6, .ref q9), (0, .ref (a 0)), (1, .int t), (2, .int b), (3, .int fr), (4, .int to), (5, .ref o)]) hx hb dL_canBookByMinutes_24 hl (by decide) rfl (fun ls hl => ?_)
      refine lv_iconst (v := 1) hx hb dL_canBookByMinutes_26 (by decide) ?_
      exact MH.ret hx hb hr hlocks hK hP hD hS dL_canBookByMinutes_27 (by exact Or.inr ⟨by decide, hc.symm, rfl⟩)
    · skip
      refine vx_catch (name := eIA) (E := eIA) hown [⟨0, 21, 24, 13⟩] ⟨0, 21, 28, 25⟩ [] hexc ?_ (by decide) (by decide) (hts (.classLink RL 25 eIA) (by decide +kernel)) (va_Nw.use rfl (hEV.1 (.castable eIA eIA) (by decide +kernel))) hce hcv hcl ?_
      · intro z hz
        rw [List.mem_singleton.mp hz]
        exact Or.inr ⟨by decide, eIO, hts (.classLink RL 13 eIO) (by decide +kernel), hEV.2.2 (eIA, eIO) (by decide +kernel)⟩
      refine lv_astore (lv' := [(6, .ref q9), (0, .ref (a 0)), (1, .int t), (2, .int b), (3, .int fr), (4, .int to), (5, .ref o)]) hx hb dL_canBookByMinutes_28 hl (by decide) rfl (fun ls hl => ?_)
      refine lv_iconst (v := 2) hx hb dL_canBookByMinutes_30 (by decide) ?_
      exact MH.ret hx hb hr hlocks hK hP hD hS dL_canBookByMinutes_31 (by exact Or.inr ⟨by decide, hc.symm, rfl⟩)
  refine lv_if_eq (tgt := 19) hx hb dL_canBookByMinutes_12 (by decide) (fun c_12 => ?_) (fun c_12 => ?_)
  · skip
    refine lv_lconst (v := 0) hx hb dL_canBookByMinutes_19 (by decide) ?_
    refine va_last hx hb hK hP hD hS 0 2 rfl rfl (by unfold vp_in; decide) dL_canBookByMinutes_20 (fun H locs hP hD hS => ?_)
    have hP : va_P D vwCl (wo cI cZ cL a o (u, vp_updL g (0 : Int32).toNatClampNeg 0)) H := hP
    have hD : va_D A (wo cI cZ cL a o (u, vp_updL g (0 : Int32).toNatClampNeg 0)) := hD
    refine lv_goto (tgt := 32) hx hb dL_canBookByMinutes_21 (by decide) ?_
    refine lv_iconst (v := 0) hx hb dL_canBookByMinutes_32 (by decide) ?_
    exact MH.ret hx hb hr hlocks hK hP hD hS dL_canBookByMinutes_33 (by exact Or.inl ⟨rfl, r, hp, (if_pos c_12).symm⟩)
  · skip
    refine lv_lconst (v := 1) hx hb dL_canBookByMinutes_15 (by decide) ?_
    refine lv_goto (tgt := 20) hx hb dL_canBookByMinutes_16 (by decide) ?_
    refine va_last hx hb hK hP hD hS 0 2 rfl rfl (by unfold vp_in; decide) dL_canBookByMinutes_20 (fun H locs hP hD hS => ?_)
    have hP : va_P D vwCl (wo cI cZ cL a o (u, vp_updL g (0 : Int32).toNatClampNeg 1)) H := hP
    have hD : va_D A (wo cI cZ cL a o (u, vp_updL g (0 : Int32).toNatClampNeg 1)) := hD
    refine lv_goto (tgt := 32) hx hb dL_canBookByMinutes_21 (by decide) ?_
    refine lv_iconst (v := 0) hx hb dL_canBookByMinutes_32 (by decide) ?_
    exact MH.ret hx hb hr hlocks hK hP hD hS dL_canBookByMinutes_33 (by exact Or.inl ⟨rfl, r, hp, (if_neg c_12).symm⟩)
set_option maxHeartbeats 4000000 in
set_option maxRecDepth 100000 in
theorem h_booking (l : Launch) (D : va_G) (cI cZ cL : ClassId) (a : Nat → Nat) (o sz : Nat) (σ : St) (g : Nat → Int64) (t cd : Int32) (post : Int32 → St → Prop) (hM : ∀ sz, XI l yX5_booking wsX5_booking ({ frames := 8, cells := 1, slots := 6, locals := 131 }) D (ty2 cI cZ) (wX cI cZ a) [.ref (a 0), .int t] σ sz post (x1 cd)) : MH l yL_booking wsL_booking ({ frames := 9, cells := 1, slots := 6, locals := 152 }) D cI cZ cL a o [.ref (a 0), .int t, .ref o] (σ, g) sz (fun r u => (r = 0 ∧ ∃ v9 : Int32, post v9 u.1 ∧ u.2 0 = v9.toInt64) ∨ (¬ r = 0 ∧ r = cd ∧ u = (σ, g))) := by
  refine MH.of (cc := cL_booking) (maxL := 4) (hh := [(0, 9, 12, 13)]) (by decide) rfl (Nat.le_of_ble_eq_true rfl) ?_
  intro p e s m args below meth c A H locs ls hx hb hr hml hown hts hlocks hexc hEV hZ hA hS hP hK hD hl
  have hl : lv_has ls 4 [(0, .ref (a 0)), (1, .int t), (2, .ref o)] := hl
  refine lv_aload_n hx hb dL_booking_0 rfl (lv_at hl 2 rfl) ?_
  refine lv_iconst (v := 0) hx hb dL_booking_1 (by decide) ?_
  refine lv_aload_n hx hb dL_booking_2 rfl (lv_at hl 0 rfl) ?_
  refine lv_iload_n hx hb dL_booking_3 rfl (lv_at hl 1 rfl) ?_
  refine XI.callH (As := [.int t]) (rest := [.int 0, .ref o]) ⟨hx, hb, hml, hown, hts⟩ (hM H.size) (cwV 1 hts gL_booking_X5_booking rfl rfl rfl (by decide +kernel) ⟨Nat.le_of_ble_eq_true rfl, Nat.le_of_ble_eq_true rfl⟩) hP hK hD hS hA hEV hZ (va_recv hK hP (ci := 5) (q0 := 1) rfl rfl) rfl hl.1 (Nat.le_of_ble_eq_true rfl) (Nat.le_of_ble_eq_true rfl) (Nat.le_of_ble_eq_true rfl) dL_booking_4 rfl ?_ (fun r u H locs hp hP hD hS => ?_)
  · intro E ce q9 H locs hE hP hD hS hce hcv hcl
    obtain ⟨rfl, hc⟩ := hE
    · skip
      refine vx_catch (name := eIO) (E := eIO) hown [] ⟨0, 9, 12, 13⟩ [] hexc ?_ (by decide) (by decide) (hts (.classLink RL 13 eIO) (by decide +kernel)) (va_Nw.use rfl (hEV.1 (.castable eIO eIO) (by decide +kernel))) hce hcv hcl ?_
      · exact fun z hz => absurd hz List.not_mem_nil
      refine lv_astore_n (lv' := [(3, .ref q9), (0, .ref (a 0)), (1, .int t), (2, .ref o)]) hx hb dL_booking_12 rfl hl (by decide) rfl (fun ls hl => ?_)
      refine lv_iconst (v := 1) hx hb dL_booking_13 (by decide) ?_
      exact MH.ret hx hb hr hlocks hK hP hD hS dL_booking_14 (by exact Or.inr ⟨by decide, hc.symm, rfl⟩)
  refine lv_i2l (v := r.toInt64) hx hb dL_booking_7 rfl ?_
  refine va_last hx hb hK hP hD hS 0 2 rfl rfl (by unfold vp_in; decide) dL_booking_8 (fun H locs hP hD hS => ?_)
  have hP : va_P D vwCl (wo cI cZ cL a o (u, vp_updL g (0 : Int32).toNatClampNeg r.toInt64)) H := hP
  have hD : va_D A (wo cI cZ cL a o (u, vp_updL g (0 : Int32).toNatClampNeg r.toInt64)) := hD
  refine lv_goto (tgt := 15) hx hb dL_booking_9 (by decide) ?_
  refine lv_iconst (v := 0) hx hb dL_booking_15 (by decide) ?_
  exact MH.ret hx hb hr hlocks hK hP hD hS dL_booking_16 (by exact Or.inl ⟨rfl, r, hp, rfl⟩)
set_option maxHeartbeats 4000000 in
set_option maxRecDepth 100000 in
theorem h_late (l : Launch) (D : va_G) (cI cZ cL : ClassId) (a : Nat → Nat) (o sz : Nat) (σ : St) (g : Nat → Int64) (t cd : Int32) (post : Int32 → St → Prop) (hM : ∀ sz, XI l yX5_late wsX5_late ({ frames := 8, cells := 1, slots := 6, locals := 131 }) D (ty2 cI cZ) (wX cI cZ a) [.ref (a 0), .int t] σ sz post (x1 cd)) : MH l yL_late wsL_late ({ frames := 9, cells := 1, slots := 6, locals := 152 }) D cI cZ cL a o [.ref (a 0), .int t, .ref o] (σ, g) sz (fun r u => (r = 0 ∧ ∃ v9 : Int32, post v9 u.1 ∧ u.2 0 = v9.toInt64) ∨ (¬ r = 0 ∧ r = cd ∧ u = (σ, g))) := by
  refine MH.of (cc := cL_late) (maxL := 4) (hh := [(0, 9, 12, 13)]) (by decide) rfl (Nat.le_of_ble_eq_true rfl) ?_
  intro p e s m args below meth c A H locs ls hx hb hr hml hown hts hlocks hexc hEV hZ hA hS hP hK hD hl
  have hl : lv_has ls 4 [(0, .ref (a 0)), (1, .int t), (2, .ref o)] := hl
  refine lv_aload_n hx hb dL_late_0 rfl (lv_at hl 2 rfl) ?_
  refine lv_iconst (v := 0) hx hb dL_late_1 (by decide) ?_
  refine lv_aload_n hx hb dL_late_2 rfl (lv_at hl 0 rfl) ?_
  refine lv_iload_n hx hb dL_late_3 rfl (lv_at hl 1 rfl) ?_
  refine XI.callH (As := [.int t]) (rest := [.int 0, .ref o]) ⟨hx, hb, hml, hown, hts⟩ (hM H.size) (cwV 1 hts gL_late_X5_late rfl rfl rfl (by decide +kernel) ⟨Nat.le_of_ble_eq_true rfl, Nat.le_of_ble_eq_true rfl⟩) hP hK hD hS hA hEV hZ (va_recv hK hP (ci := 5) (q0 := 1) rfl rfl) rfl hl.1 (Nat.le_of_ble_eq_true rfl) (Nat.le_of_ble_eq_true rfl) (Nat.le_of_ble_eq_true rfl) dL_late_4 rfl ?_ (fun r u H locs hp hP hD hS => ?_)
  · intro E ce q9 H locs hE hP hD hS hce hcv hcl
    obtain ⟨rfl, hc⟩ := hE
    · skip
      refine vx_catch (name := eIO) (E := eIO) hown [] ⟨0, 9, 12, 13⟩ [] hexc ?_ (by decide) (by decide) (hts (.classLink RL 13 eIO) (by decide +kernel)) (va_Nw.use rfl (hEV.1 (.castable eIO eIO) (by decide +kernel))) hce hcv hcl ?_
      · exact fun z hz => absurd hz List.not_mem_nil
      refine lv_astore_n (lv' := [(3, .ref q9), (0, .ref (a 0)), (1, .int t), (2, .ref o)]) hx hb dL_late_12 rfl hl (by decide) rfl (fun ls hl => ?_)
      refine lv_iconst (v := 1) hx hb dL_late_13 (by decide) ?_
      exact MH.ret hx hb hr hlocks hK hP hD hS dL_late_14 (by exact Or.inr ⟨by decide, hc.symm, rfl⟩)
  refine lv_i2l (v := r.toInt64) hx hb dL_late_7 rfl ?_
  refine va_last hx hb hK hP hD hS 0 2 rfl rfl (by unfold vp_in; decide) dL_late_8 (fun H locs hP hD hS => ?_)
  have hP : va_P D vwCl (wo cI cZ cL a o (u, vp_updL g (0 : Int32).toNatClampNeg r.toInt64)) H := hP
  have hD : va_D A (wo cI cZ cL a o (u, vp_updL g (0 : Int32).toNatClampNeg r.toInt64)) := hD
  refine lv_goto (tgt := 15) hx hb dL_late_9 (by decide) ?_
  refine lv_iconst (v := 0) hx hb dL_late_15 (by decide) ?_
  exact MH.ret hx hb hr hlocks hK hP hD hS dL_late_16 (by exact Or.inl ⟨rfl, r, hp, rfl⟩)
set_option maxHeartbeats 4000000 in
set_option maxRecDepth 100000 in
theorem h_addWaggon (l : Launch) (D : va_G) (cI cZ cL : ClassId) (a : Nat → Nat) (o sz : Nat) (σ : St) (g : Nat → Int64) (sd w cd : Int32) (post : Int32 → St → Prop) (hM : ∀ sz, XI l yX5_addWaggon wsX5_addWaggon ({ frames := 8, cells := 1, slots := 6, locals := 131 }) D (ty2 cI cZ) (wX cI cZ a) [.ref (a 0), .int sd, .int w] σ sz post (xD cd)) : MH l yL_addWaggon wsL_addWaggon ({ frames := 9, cells := 1, slots := 6, locals := 153 }) D cI cZ cL a o [.ref (a 0), .int sd, .int w, .ref o] (σ, g) sz (fun r u => (r = 0 ∧ ∃ v9 : Int32, post v9 u.1 ∧ u.2 0 = v9.toInt64) ∨ (¬ r = 0 ∧ r = cd ∧ u = (σ, g))) := by
  refine MH.of (cc := cL_addWaggon) (maxL := 5) (hh := [(0, 10, 13, 13), (0, 10, 17, 25), (0, 10, 21, 15)]) (by decide) rfl (Nat.le_of_ble_eq_true rfl) ?_
  intro p e s m args below meth c A H locs ls hx hb hr hml hown hts hlocks hexc hEV hZ hA hS hP hK hD hl
  have hl : lv_has ls 5 [(0, .ref (a 0)), (1, .int sd), (2, .int w), (3, .ref o)] := hl
  refine lv_aload_n hx hb dL_addWaggon_0 rfl (lv_at hl 3 rfl) ?_
  refine lv_iconst (v := 0) hx hb dL_addWaggon_1 (by decide) ?_
  refine lv_aload_n hx hb dL_addWaggon_2 rfl (lv_at hl 0 rfl) ?_
  refine lv_iload_n hx hb dL_addWaggon_3 rfl (lv_at hl 1 rfl) ?_
  refine lv_iload_n hx hb dL_addWaggon_4 rfl (lv_at hl 2 rfl) ?_
  refine XI.callH (As := [.int sd, .int w]) (rest := [.int 0, .ref o]) ⟨hx, hb, hml, hown, hts⟩ (hM H.size) (cwV 2 hts gL_addWaggon_X5_addWaggon rfl rfl rfl (by decide +kernel) ⟨Nat.le_of_ble_eq_true rfl, Nat.le_of_ble_eq_true rfl⟩) hP hK hD hS hA hEV hZ (va_recv hK hP (ci := 5) (q0 := 1) rfl rfl) rfl hl.1 (Nat.le_of_ble_eq_true rfl) (Nat.le_of_ble_eq_true rfl) (Nat.le_of_ble_eq_true rfl) dL_addWaggon_5 rfl ?_ (fun r u H locs hp hP hD hS => ?_)
  · intro E ce q9 H locs hE hP hD hS hce hcv hcl
    rcases hE with ⟨rfl, hc⟩ | ⟨rfl, hc⟩ | ⟨rfl, hc⟩
    · skip
      refine vx_catch (name := eIO) (E := eIO) hown [] ⟨0, 10, 13, 13⟩ [⟨0, 10, 17, 25⟩, ⟨0, 10, 21, 15⟩] hexc ?_ (by decide) (by decide) (hts (.classLink RL 13 eIO) (by decide +kernel)) (va_Nw.use rfl (hEV.1 (.castable eIO eIO) (by decide +kernel))) hce hcv hcl ?_
      · exact fun z hz => absurd hz List.not_mem_nil
      refine lv_astore (lv' := [(4, .ref q9), (0, .ref (a 0)), (1, .int sd), (2, .int w), (3, .ref o)]) hx hb dL_addWaggon_13 hl (by decide) rfl (fun ls hl => ?_)
      refine lv_iconst (v := 1) hx hb dL_addWaggon_15 (by decide) ?_
      exact MH.ret hx hb hr hlocks hK hP hD hS dL_addWaggon_16 (by exact Or.inr ⟨by decide, hc.symm, rfl⟩)
    · skip
      refine vx_catch (name := eIA) (E := eIA) hown [⟨0, 10, 13, 13⟩] ⟨0, 10, 17, 25⟩ [⟨0, 10, 21, 15⟩] hexc ?_ (by decide) (by decide) (hts (.classLink RL 25 eIA) (by decide +kernel)) (va_Nw.use rfl (hEV.1 (.castable eIA eIA) (by decide +kernel))) hce hcv hcl ?_
      · intro z hz
        rw [List.mem_singleton.mp hz]
        exact Or.inr ⟨by decide, eIO, hts (.classLink RL 13 eIO) (by decide +kernel), hEV.2.2 (eIA, eIO) (by decide +kernel)⟩
      refine lv_astore (lv' := [(4, .ref q9), (0, .ref (a 0)), (1, .int sd), (2, .int w), (3, .ref o)]) hx hb dL_addWaggon_17 hl (by decide) rfl (fun ls hl => ?_)
      refine lv_iconst (v := 2) hx hb dL_addWaggon_19 (by decide) ?_
      exact MH.ret hx hb hr hlocks hK hP hD hS dL_addWaggon_20 (by exact Or.inr ⟨by decide, hc.symm, rfl⟩)
    · skip
      refine vx_catch (name := eIS) (E := eIS) hown [⟨0, 10, 13, 13⟩, ⟨0, 10, 17, 25⟩] ⟨0, 10, 21, 15⟩ [] hexc ?_ (by decide) (by decide) (hts (.classLink RL 15 eIS) (by decide +kernel)) (va_Nw.use rfl (hEV.1 (.castable eIS eIS) (by decide +kernel))) hce hcv hcl ?_
      · intro z hz
        rcases List.mem_cons.mp hz with rfl | hz
        · exact Or.inr ⟨by decide, eIO, hts (.classLink RL 13 eIO) (by decide +kernel), hEV.2.2 (eIS, eIO) (by decide +kernel)⟩
        · rw [List.mem_singleton.mp hz]
          exact Or.inr ⟨by decide, eIA, hts (.classLink RL 25 eIA) (by decide +kernel), hEV.2.2 (eIS, eIA) (by decide +kernel)⟩
      refine lv_astore (lv' := [(4, .ref q9), (0, .ref (a 0)), (1, .int sd), (2, .int w), (3, .ref o)]) hx hb dL_addWaggon_21 hl (by decide) rfl (fun ls hl => ?_)
      refine lv_iconst (v := 3) hx hb dL_addWaggon_23 (by decide) ?_
      exact MH.ret hx hb hr hlocks hK hP hD hS dL_addWaggon_24 (by exact Or.inr ⟨by decide, hc.symm, rfl⟩)
  refine lv_i2l (v := r.toInt64) hx hb dL_addWaggon_8 rfl ?_
  refine va_last hx hb hK hP hD hS 0 2 rfl rfl (by unfold vp_in; decide) dL_addWaggon_9 (fun H locs hP hD hS => ?_)
  have hP : va_P D vwCl (wo cI cZ cL a o (u, vp_updL g (0 : Int32).toNatClampNeg r.toInt64)) H := hP
  have hD : va_D A (wo cI cZ cL a o (u, vp_updL g (0 : Int32).toNatClampNeg r.toInt64)) := hD
  refine lv_goto (tgt := 25) hx hb dL_addWaggon_10 (by decide) ?_
  refine lv_iconst (v := 0) hx hb dL_addWaggon_25 (by decide) ?_
  exact MH.ret hx hb hr hlocks hK hP hD hS dL_addWaggon_26 (by exact Or.inl ⟨rfl, r, hp, rfl⟩)
set_option maxHeartbeats 4000000 in
set_option maxRecDepth 100000 in
theorem h_offer (l : Launch) (D : va_G) (cI cZ cL : ClassId) (a : Nat → Nat) (o sz : Nat) (σ : St) (g : Nat → Int64) (w sd mi pr cd : Int32) (post : St → Prop) (hM : ∀ sz, XV l yX5_offer wsX5_offer ({ frames := 8, cells := 1, slots := 6, locals := 130 }) D (ty2 cI cZ) (wX cI cZ a) [.ref (a 0), .int w, .int sd, .int mi, .int pr] σ sz post (xB cd)) : MH l yL_offer wsL_offer ({ frames := 9, cells := 1, slots := 6, locals := 154 }) D cI cZ cL a o [.ref (a 0), .int w, .int sd, .int mi, .int pr] (σ, g) sz (fun r u => (r = 0 ∧ post u.1 ∧ u.2 = g) ∨ (¬ r = 0 ∧ r = cd ∧ u = (σ, g))) := by
  refine MH.of (cc := cL_offer) (maxL := 6) (hh := [(0, 9, 12, 13), (0, 9, 16, 25)]) (by decide) rfl (Nat.le_of_ble_eq_true rfl) ?_
  intro p e s m args below meth c A H locs ls hx hb hr hml hown hts hlocks hexc hEV hZ hA hS hP hK hD hl
  have hl : lv_has ls 6 [(0, .ref (a 0)), (1, .int w), (2, .int sd), (3, .int mi), (4, .int pr)] := hl
  refine lv_aload_n hx hb dL_offer_0 rfl (lv_at hl 0 rfl) ?_
  refine lv_iload_n hx hb dL_offer_1 rfl (lv_at hl 1 rfl) ?_
  refine lv_iload_n hx hb dL_offer_2 rfl (lv_at hl 2 rfl) ?_
  refine lv_iload_n hx hb dL_offer_3 rfl (lv_at hl 3 rfl) ?_
  refine lv_iload hx hb dL_offer_4 (lv_at hl 4 rfl) ?_
  refine XV.callH (As := [.int w, .int sd, .int mi, .int pr]) (rest := []) ⟨hx, hb, hml, hown, hts⟩ (hM H.size) (cwV 4 hts gL_offer_X5_offer rfl rfl rfl (by decide +kernel) ⟨Nat.le_of_ble_eq_true rfl, Nat.le_of_ble_eq_true rfl⟩) hP hK hD hS hA hEV hZ (va_recv hK hP (ci := 5) (q0 := 1) rfl rfl) rfl hl.1 (Nat.le_of_ble_eq_true rfl) (Nat.le_of_ble_eq_true rfl) (Nat.le_of_ble_eq_true rfl) dL_offer_6 rfl ?_ (fun u H locs hp hP hD hS => ?_)
  · intro E ce q9 H locs hE hP hD hS hce hcv hcl
    rcases hE with ⟨rfl, hc⟩ | ⟨rfl, hc⟩
    · skip
      refine vx_catch (name := eIO) (E := eIO) hown [] ⟨0, 9, 12, 13⟩ [⟨0, 9, 16, 25⟩] hexc ?_ (by decide) (by decide) (hts (.classLink RL 13 eIO) (by decide +kernel)) (va_Nw.use rfl (hEV.1 (.castable eIO eIO) (by decide +kernel))) hce hcv hcl ?_
      · exact fun z hz => absurd hz List.not_mem_nil
      refine lv_astore (lv' := [(5, .ref q9), (0, .ref (a 0)), (1, .int w), (2, .int sd), (3, .int mi), (4, .int pr)]) hx hb dL_offer_12 hl (by decide) rfl (fun ls hl => ?_)
      refine lv_iconst (v := 1) hx hb dL_offer_14 (by decide) ?_
      exact MH.ret hx hb hr hlocks hK hP hD hS dL_offer_15 (by exact Or.inr ⟨by decide, hc.symm, rfl⟩)
    · skip
      refine vx_catch (name := eIA) (E := eIA) hown [⟨0, 9, 12, 13⟩] ⟨0, 9, 16, 25⟩ [] hexc ?_ (by decide) (by decide) (hts (.classLink RL 25 eIA) (by decide +kernel)) (va_Nw.use rfl (hEV.1 (.castable eIA eIA) (by decide +kernel))) hce hcv hcl ?_
      · intro z hz
        rw [List.mem_singleton.mp hz]
        exact Or.inr ⟨by decide, eIO, hts (.classLink RL 13 eIO) (by decide +kernel), hEV.2.2 (eIA, eIO) (by decide +kernel)⟩
      refine lv_astore (lv' := [(5, .ref q9), (0, .ref (a 0)), (1, .int w), (2, .int sd), (3, .int mi), (4, .int pr)]) hx hb dL_offer_16 hl (by decide) rfl (fun ls hl => ?_)
      refine lv_iconst (v := 2) hx hb dL_offer_18 (by decide) ?_
      exact MH.ret hx hb hr hlocks hK hP hD hS dL_offer_19 (by exact Or.inr ⟨by decide, hc.symm, rfl⟩)
  refine lv_goto (tgt := 20) hx hb dL_offer_9 (by decide) ?_
  refine lv_iconst (v := 0) hx hb dL_offer_20 (by decide) ?_
  exact MH.ret hx hb hr hlocks hK hP hD hS dL_offer_21 (by exact Or.inl ⟨rfl, hp, rfl⟩)
set_option maxHeartbeats 4000000 in
set_option maxRecDepth 100000 in
theorem h_couple (l : Launch) (D : va_G) (cI cZ cL : ClassId) (a : Nat → Nat) (o sz : Nat) (σ : St) (g : Nat → Int64) (t cd : Int32) (post : Int32 → St → Prop) (hM : ∀ sz, XI l yX5_couple wsX5_couple ({ frames := 8, cells := 1, slots := 6, locals := 132 }) D (ty2 cI cZ) (wX cI cZ a) [.ref (a 0), .int t] σ sz post (xA cd)) : MH l yL_couple wsL_couple ({ frames := 9, cells := 1, slots := 6, locals := 156 }) D cI cZ cL a o [.ref (a 0), .int t, .ref o] (σ, g) sz (fun r u => (r = 0 ∧ ∃ v9 : Int32, post v9 u.1 ∧ u.2 0 = v9.toInt64) ∨ (¬ r = 0 ∧ r = cd ∧ u = (σ, g))) := by
  refine MH.of (cc := cL_couple) (maxL := 4) (hh := [(0, 9, 12, 13), (0, 9, 15, 15)]) (by decide) rfl (Nat.le_of_ble_eq_true rfl) ?_
  intro p e s m args below meth c A H locs ls hx hb hr hml hown hts hlocks hexc hEV hZ hA hS hP hK hD hl
  have hl : lv_has ls 4 [(0, .ref (a 0)), (1, .int t), (2, .ref o)] := hl
  refine lv_aload_n hx hb dL_couple_0 rfl (lv_at hl 2 rfl) ?_
  refine lv_iconst (v := 0) hx hb dL_couple_1 (by decide) ?_
  refine lv_aload_n hx hb dL_couple_2 rfl (lv_at hl 0 rfl) ?_
  refine lv_iload_n hx hb dL_couple_3 rfl (lv_at hl 1 rfl) ?_
  refine XI.callH (As := [.int t]) (rest := [.int 0, .ref o]) ⟨hx, hb, hml, hown, hts⟩ (hM H.size) (cwV 1 hts gL_couple_X5_couple rfl rfl rfl (by decide +kernel) ⟨Nat.le_of_ble_eq_true rfl, Nat.le_of_ble_eq_true rfl⟩) hP hK hD hS hA hEV hZ (va_recv hK hP (ci := 5) (q0 := 1) rfl rfl) rfl hl.1 (Nat.le_of_ble_eq_true rfl) (Nat.le_of_ble_eq_true rfl) (Nat.le_of_ble_eq_true rfl) dL_couple_4 rfl ?_ (fun r u H locs hp hP hD hS => ?_)
  · intro E ce q9 H locs hE hP hD hS hce hcv hcl
    rcases hE with ⟨rfl, hc⟩ | ⟨rfl, hc⟩
    · skip
      refine vx_catch (name := eIO) (E := eIO) hown [] ⟨0, 9, 12, 13⟩ [⟨0, 9, 15, 15⟩] hexc ?_ (by decide) (by decide) (hts (.classLink RL 13 eIO) (by decide +kernel)) (va_Nw.use rfl (hEV.1 (.castable eIO eIO) (by decide +kernel))) hce hcv hcl ?_
      · exact fun z hz => absurd hz List.not_mem_nil
      refine lv_astore_n (lv' := [(3, .ref q9), (0, .ref (a 0)), (1, .int t), (2, .ref o)]) hx hb dL_couple_12 rfl hl (by decide) rfl (fun ls hl => ?_)
      refine lv_iconst (v := 1) hx hb dL_couple_13 (by decide) ?_
      exact MH.ret hx hb hr hlocks hK hP hD hS dL_couple_14 (by exact Or.inr ⟨by decide, hc.symm, rfl⟩)
    · skip
      refine vx_catch (name := eIS) (E := eIS) hown [⟨0, 9, 12, 13⟩] ⟨0, 9, 15, 15⟩ [] hexc ?_ (by decide) (by decide) (hts (.classLink RL 15 eIS) (by decide +kernel)) (va_Nw.use rfl (hEV.1 (.castable eIS eIS) (by decide +kernel))) hce hcv hcl ?_
      · intro z hz
        rw [List.mem_singleton.mp hz]
        exact Or.inr ⟨by decide, eIO, hts (.classLink RL 13 eIO) (by decide +kernel), hEV.2.2 (eIS, eIO) (by decide +kernel)⟩
      refine lv_astore_n (lv' := [(3, .ref q9), (0, .ref (a 0)), (1, .int t), (2, .ref o)]) hx hb dL_couple_15 rfl hl (by decide) rfl (fun ls hl => ?_)
      refine lv_iconst (v := 2) hx hb dL_couple_16 (by decide) ?_
      exact MH.ret hx hb hr hlocks hK hP hD hS dL_couple_17 (by exact Or.inr ⟨by decide, hc.symm, rfl⟩)
  refine lv_i2l (v := r.toInt64) hx hb dL_couple_7 rfl ?_
  refine va_last hx hb hK hP hD hS 0 2 rfl rfl (by unfold vp_in; decide) dL_couple_8 (fun H locs hP hD hS => ?_)
  have hP : va_P D vwCl (wo cI cZ cL a o (u, vp_updL g (0 : Int32).toNatClampNeg r.toInt64)) H := hP
  have hD : va_D A (wo cI cZ cL a o (u, vp_updL g (0 : Int32).toNatClampNeg r.toInt64)) := hD
  refine lv_goto (tgt := 18) hx hb dL_couple_9 (by decide) ?_
  refine lv_iconst (v := 0) hx hb dL_couple_18 (by decide) ?_
  exact MH.ret hx hb hr hlocks hK hP hD hS dL_couple_19 (by exact Or.inl ⟨rfl, r, hp, rfl⟩)
set_option maxHeartbeats 4000000 in
set_option maxRecDepth 100000 in
theorem h_leave (l : Launch) (D : va_G) (cI cZ cL : ClassId) (a : Nat → Nat) (o sz : Nat) (σ : St) (g : Nat → Int64) (t cd : Int32) (post : Int32 → St → Prop) (hM : ∀ sz, XI l yX5_leave wsX5_leave ({ frames := 8, cells := 1, slots := 6, locals := 132 }) D (ty2 cI cZ) (wX cI cZ a) [.ref (a 0), .int t] σ sz post (xA cd)) : MH l yL_leave wsL_leave ({ frames := 9, cells := 1, slots := 6, locals := 157 }) D cI cZ cL a o [.ref (a 0), .int t, .ref o] (σ, g) sz (fun r u => (r = 0 ∧ ∃ v9 : Int32, post v9 u.1 ∧ u.2 0 = v9.toInt64) ∨ (¬ r = 0 ∧ r = cd ∧ u = (σ, g))) := by
  refine MH.of (cc := cL_leave) (maxL := 4) (hh := [(0, 9, 12, 13), (0, 9, 15, 15)]) (by decide) rfl (Nat.le_of_ble_eq_true rfl) ?_
  intro p e s m args below meth c A H locs ls hx hb hr hml hown hts hlocks hexc hEV hZ hA hS hP hK hD hl
  have hl : lv_has ls 4 [(0, .ref (a 0)), (1, .int t), (2, .ref o)] := hl
  refine lv_aload_n hx hb dL_leave_0 rfl (lv_at hl 2 rfl) ?_
  refine lv_iconst (v := 0) hx hb dL_leave_1 (by decide) ?_
  refine lv_aload_n hx hb dL_leave_2 rfl (lv_at hl 0 rfl) ?_
  refine lv_iload_n hx hb dL_leave_3 rfl (lv_at hl 1 rfl) ?_
  refine XI.callH (As := [.int t]) (rest := [.int 0, .ref o]) ⟨hx, hb, hml, hown, hts⟩ (hM H.size) (cwV 1 hts gL_leave_X5_leave rfl rfl rfl (by decide +kernel) ⟨Nat.le_of_ble_eq_true rfl, Nat.le_of_ble_eq_true rfl⟩) hP hK hD hS hA hEV hZ (va_recv hK hP (ci := 5) (q0 := 1) rfl rfl) rfl hl.1 (Nat.le_of_ble_eq_true rfl) (Nat.le_of_ble_eq_true rfl) (Nat.le_of_ble_eq_true rfl) dL_leave_4 rfl ?_ (fun r u H locs hp hP hD hS => ?_)
  · intro E ce q9 H locs hE hP hD hS hce hcv hcl
    rcases hE with ⟨rfl, hc⟩ | ⟨rfl, hc⟩
    · skip
      refine vx_catch (name := eIO) (E := eIO) hown [] ⟨0, 9, 12, 13⟩ [⟨0, 9, 15, 15⟩] hexc ?_ (by decide) (by decide) (hts (.classLink RL 13 eIO) (by decide +kernel)) (va_Nw.use rfl (hEV.1 (.castable eIO eIO) (by decide +kernel))) hce hcv hcl ?_
      · exact fun z hz => absurd hz List.not_mem_nil
      refine lv_astore_n (lv' := [(3, .ref q9), (0, .ref (a 0)), (1, .int t), (2, .ref o)]) hx hb dL_leave_12 rfl hl (by decide) rfl (fun ls hl => ?_)
      refine lv_iconst (v := 1) hx hb dL_leave_13 (by decide) ?_
      exact MH.ret hx hb hr hlocks hK hP hD hS dL_leave_14 (by exact Or.inr ⟨by decide, hc.symm, rfl⟩)
    · skip
      refine vx_catch (name := eIS) (E := eIS) hown [⟨0, 9, 12, 13⟩] ⟨0, 9, 15, 15⟩ [] hexc ?_ (by decide) (by decide) (hts (.classLink RL 15 eIS) (by decide +kernel)) (va_Nw.use rfl (hEV.1 (.castable eIS eIS) (by decide +kernel))) hce hcv hcl ?_
      · intro z hz
        rw [List.mem_singleton.mp hz]
        exact Or.inr ⟨by decide, eIO, hts (.classLink RL 13 eIO) (by decide +kernel), hEV.2.2 (eIS, eIO) (by decide +kernel)⟩
      refine lv_astore_n (lv' := [(3, .ref q9), (0, .ref (a 0)), (1, .int t), (2, .ref o)]) hx hb dL_leave_15 rfl hl (by decide) rfl (fun ls hl => ?_)
      refine lv_iconst (v := 2) hx hb dL_leave_16 (by decide) ?_
      exact MH.ret hx hb hr hlocks hK hP hD hS dL_leave_17 (by exact Or.inr ⟨by decide, hc.symm, rfl⟩)
  refine lv_i2l (v := r.toInt64) hx hb dL_leave_7 rfl ?_
  refine va_last hx hb hK hP hD hS 0 2 rfl rfl (by unfold vp_in; decide) dL_leave_8 (fun H locs hP hD hS => ?_)
  have hP : va_P D vwCl (wo cI cZ cL a o (u, vp_updL g (0 : Int32).toNatClampNeg r.toInt64)) H := hP
  have hD : va_D A (wo cI cZ cL a o (u, vp_updL g (0 : Int32).toNatClampNeg r.toInt64)) := hD
  refine lv_goto (tgt := 18) hx hb dL_leave_9 (by decide) ?_
  refine lv_iconst (v := 0) hx hb dL_leave_18 (by decide) ?_
  exact MH.ret hx hb hr hlocks hK hP hD hS dL_leave_19 (by exact Or.inl ⟨rfl, r, hp, rfl⟩)
set_option maxHeartbeats 4000000 in
set_option maxRecDepth 100000 in
theorem h_waggonAt (l : Launch) (D : va_G) (cI cZ cL : ClassId) (a : Nat → Nat) (o sz : Nat) (σ : St) (g : Nat → Int64) (w pl cd : Int32) (post : Int32 → St → Prop) (hM : ∀ sz, XI l yX5_waggonAt wsX5_waggonAt ({ frames := 7, cells := 1, slots := 6, locals := 110 }) D (ty2 cI cZ) (wX cI cZ a) [.ref (a 0), .int w, .int pl] σ sz post (x1 cd)) : MH l yL_waggonAt wsL_waggonAt ({ frames := 8, cells := 1, slots := 6, locals := 133 }) D cI cZ cL a o [.ref (a 0), .int w, .int pl, .ref o] (σ, g) sz (fun r u => (r = 0 ∧ ∃ v9 : Int32, post v9 u.1 ∧ u.2 0 = v9.toInt64) ∨ (¬ r = 0 ∧ r = cd ∧ u = (σ, g))) := by
  refine MH.of (cc := cL_waggonAt) (maxL := 5) (hh := [(0, 10, 13, 13)]) (by decide) rfl (Nat.le_of_ble_eq_true rfl) ?_
  intro p e s m args below meth c A H locs ls hx hb hr hml hown hts hlocks hexc hEV hZ hA hS hP hK hD hl
  have hl : lv_has ls 5 [(0, .ref (a 0)), (1, .int w), (2, .int pl), (3, .ref o)] := hl
  refine lv_aload_n hx hb dL_waggonAt_0 rfl (lv_at hl 3 rfl) ?_
  refine lv_iconst (v := 0) hx hb dL_waggonAt_1 (by decide) ?_
  refine lv_aload_n hx hb dL_waggonAt_2 rfl (lv_at hl 0 rfl) ?_
  refine lv_iload_n hx hb dL_waggonAt_3 rfl (lv_at hl 1 rfl) ?_
  refine lv_iload_n hx hb dL_waggonAt_4 rfl (lv_at hl 2 rfl) ?_
  refine XI.callH (As := [.int w, .int pl]) (rest := [.int 0, .ref o]) ⟨hx, hb, hml, hown, hts⟩ (hM H.size) (cwV 2 hts gL_waggonAt_X5_waggonAt rfl rfl rfl (by decide +kernel) ⟨Nat.le_of_ble_eq_true rfl, Nat.le_of_ble_eq_true rfl⟩) hP hK hD hS hA hEV hZ (va_recv hK hP (ci := 5) (q0 := 1) rfl rfl) rfl hl.1 (Nat.le_of_ble_eq_true rfl) (Nat.le_of_ble_eq_true rfl) (Nat.le_of_ble_eq_true rfl) dL_waggonAt_5 rfl ?_ (fun r u H locs hp hP hD hS => ?_)
  · intro E ce q9 H locs hE hP hD hS hce hcv hcl
    obtain ⟨rfl, hc⟩ := hE
    · skip
      refine vx_catch (name := eIO) (E := eIO) hown [] ⟨0, 10, 13, 13⟩ [] hexc ?_ (by decide) (by decide) (hts (.classLink RL 13 eIO) (by decide +kernel)) (va_Nw.use rfl (hEV.1 (.castable eIO eIO) (by decide +kernel))) hce hcv hcl ?_
      · exact fun z hz => absurd hz List.not_mem_nil
      refine lv_astore (lv' := [(4, .ref q9), (0, .ref (a 0)), (1, .int w), (2, .int pl), (3, .ref o)]) hx hb dL_waggonAt_13 hl (by decide) rfl (fun ls hl => ?_)
      refine lv_iconst (v := 1) hx hb dL_waggonAt_15 (by decide) ?_
      exact MH.ret hx hb hr hlocks hK hP hD hS dL_waggonAt_16 (by exact Or.inr ⟨by decide, hc.symm, rfl⟩)
  refine lv_i2l (v := r.toInt64) hx hb dL_waggonAt_8 rfl ?_
  refine va_last hx hb hK hP hD hS 0 2 rfl rfl (by unfold vp_in; decide) dL_waggonAt_9 (fun H locs hP hD hS => ?_)
  have hP : va_P D vwCl (wo cI cZ cL a o (u, vp_updL g (0 : Int32).toNatClampNeg r.toInt64)) H := hP
  have hD : va_D A (wo cI cZ cL a o (u, vp_updL g (0 : Int32).toNatClampNeg r.toInt64)) := hD
  refine lv_goto (tgt := 17) hx hb dL_waggonAt_10 (by decide) ?_
  refine lv_iconst (v := 0) hx hb dL_waggonAt_17 (by decide) ?_
  exact MH.ret hx hb hr hlocks hK hP hD hS dL_waggonAt_18 (by exact Or.inl ⟨rfl, r, hp, rfl⟩)
