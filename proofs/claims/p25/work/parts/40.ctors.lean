/-! the constructors -/
def NL (U : State) : Prop := va_Nw (.methodLinkNest RX5 9 yX2_init "Warpyard") U ∧ va_Nw (.methodLinkNest RX5 18 yX3_init "Warpyard") U ∧ va_Nw (.methodLinkNest RX5 28 yX0_init "Warpyard") U ∧ va_Nw (.methodLinkNest RX5 35 yX4_init "Warpyard") U ∧ va_Nw (.methodLinkNest RX5 42 yX1_init "Warpyard") U
theorem NL.warm {s U : State} (hW : s.WarmedH U.vm) (h : NL s) : NL U := by
  obtain ⟨a1, a2, a3, a4, a5⟩ := h
  exact ⟨va_Nw.warmM hW a1, va_Nw.warmM hW a2, va_Nw.warmM hW a3, va_Nw.warmM hW a4, va_Nw.warmM hW a5⟩
theorem NL.calling {U : State} {g : JFrame} {mk : MethodId} {a : Array Value} (h : NL U) : NL (U.calling g mk a) := by
  obtain ⟨a1, a2, a3, a4, a5⟩ := h
  exact ⟨va_Nw.same rfl (u := U) (U := U.calling g mk a) rfl a1, va_Nw.same rfl (u := U) (U := U.calling g mk a) rfl a2, va_Nw.same rfl (u := U) (U := U.calling g mk a) rfl a3, va_Nw.same rfl (u := U) (U := U.calling g mk a) rfl a4, va_Nw.same rfl (u := U) (U := U.calling g mk a) rfl a5⟩
def PC (D : va_G) (tys : List (ClassId × FieldType)) (w0 : va_W) (sz : Nat) (U : State) : Prop := U.heap.size = sz ∧ va_P D vwCl w0 U.heap ∧ va_K D vwCl tys U ∧ va_D (fun _ => True) w0 ∧ NL U
theorem PC.calling {D : va_G} {tys : List (ClassId × FieldType)} {w0 : va_W} {sz : Nat} {U : State} {g : JFrame} {mk : MethodId} {a : Array Value} (h : PC D tys w0 sz U) : PC D tys w0 sz (U.calling g mk a) := by
  obtain ⟨h1, h2, h3, h4, h5⟩ := h
  exact ⟨h1, h2, va_K.moved (u := U) (U := U.calling g mk a) (Vm.Alike.refl U.vm) h3, h4, h5.calling⟩
theorem PC.at {D : va_G} {tys : List (ClassId × FieldType)} {w0 : va_W} {A : Nat → Prop} {s U : State} {H : Heap} (hP : va_P D vwCl w0 H) (hK : va_K D vwCl tys s) (hD : va_D A w0) (hNL : NL s) (hU : U.heap = H) (hW : s.WarmedH U.vm) : PC D tys w0 H.size U :=
  ⟨by rw [hU], by rw [hU]; exact hP, va_K.moved hW.alike hK, hD.weaken (fun _ _ _ _ => trivial), hNL.warm hW⟩
/-- a constructor of the object at b: it makes the cells of wf -/
def MC (l : Launch) (y : MethodName) (wsy : List Cond) (rm : Room) (D : va_G) (tys : List (ClassId × FieldType)) (w0 : va_W) (b sz : Nat) (wf : (Nat → Nat) → va_W) (mc ms : Nat) : Prop :=
  Met l y wsy rm (va_Pc [.ref b] (PC D tys w0 sz)) (va_Qv (fun g : Nat → Nat => g 0 = b) (fun g t => va_P D vwCl (wf g) t.heap ∧ va_K D vwCl tys t ∧ va_D (va_A w0 sz) (wf g)) (va_A w0 sz)) mc ms (va_A w0 sz)
theorem RA_I {s : State} {x y : ClassId} (h : va_RA s x .int) (h2 : va_RA s y .int) : x = y := Option.some.inj (Eq.trans (Eq.symm (show s.vm.findClass ("[" ++ FieldType.int.toString) = some x from h)) (show s.vm.findClass ("[" ++ FieldType.int.toString) = some y from h2))
theorem RA_Z {s : State} {x y : ClassId} (h : va_RA s x .boolean) (h2 : va_RA s y .boolean) : x = y := Option.some.inj (Eq.trans (Eq.symm (show s.vm.findClass ("[" ++ FieldType.boolean.toString) = some x from h)) (show s.vm.findClass ("[" ++ FieldType.boolean.toString) = some y from h2))
def wX0 (cI cZ : ClassId) (g : Nat → Nat) : va_W := [(g 0, .inr (0, [.ref (g 1), .ref (g 2), .ref (g 3), .ref (g 4), .ref (g 5), .int 0])), (g 1, .inl (cI, 30, .inl (fun _ => 0))), (g 2, .inl (cI, 30, .inl (fun _ => 0))), (g 3, .inl (cI, 30, .inl (fun _ => 0))), (g 4, .inl (cI, 30, .inl (fun _ => 0))), (g 5, .inl (cI, 30, .inl (fun _ => 0)))]
set_option maxHeartbeats 4000000 in
set_option maxRecDepth 100000 in
theorem k_X0 (l : Launch) (D : va_G) (cI cZ : ClassId) (b sz : Nat) : MC l yX0_init wsX0_init ({ frames := 1, cells := 5, slots := 150, locals := 12 }) D (ty2 cI cZ) [(b, .inr (0, [.null, .null, .null, .null, .null, .int 0]))] b sz (fun g => wX0 cI cZ g) 5 150 := by
  refine Met.ofW (cc := cX0_init) (maxL := 1) (ret := none) (by decide) rfl ?_
  intro p e s m args below meth c s₁ B hml hv
  obtain ⟨rfl, hsz, hP, hK, hD0, hNL⟩ := hv
  have hx := B.exec
  have hb := B.bytes
  have hr := B.returns
  have hts := atoms_spec (ws := wsX0_init) B.pre
  have hown : s.vm.findClass RX0 = some m.cls := findClass_of_methodNamed B.named
  have hlocks := B.notSynchronized
  have hin : meth.name = "<init>" := (name_of_methodNamed B.named B.method).1
  subst hsz
  have hD := hD0.self (sz := s.heap.size)
  generalize hAe : va_A [(b, .inr (0, [.null, .null, .null, .null, .null, .int 0]))] s.heap.size = A at hD ⊢
  have hA : ∀ q : Nat, s.heap.size ≤ q → A q := fun q h => by rw [← hAe]; exact Or.inr h
  have hS : va_S A s.heap s.heap [] := va_S.rf
  have hP : va_P D vwCl [(b, .inr (0, [.null, .null, .null, .null, .null, .int 0]))] s.heap := hP
  have hl := lv_entry ([.ref b]) (n := 1) (Nat.le_of_ble_eq_true rfl)
  rw [lg_entry_eq]
  generalize (lg_sl ([.ref b]) ++ List.replicate (1 - (lg_sl ([.ref b])).length) Slot.unset).toArray = ls at hl ⊢
  have hl : lv_has ls 1 [(0, .ref b)] := hl
  refine lv_aload_n hx hb dX0_init_0 rfl (lv_at hl 0 rfl) ?_
  refine W.objInit hx hb hown (hts (.methodLink RX0 3 objectInit) (by decide +kernel)) (hts (.instanceMethod objectInit) (by decide +kernel)) (hts (Cond.code objectInit ⟨#[0xb1]⟩ 1 none) (by decide +kernel)) rfl (by rw [hml]; exact hl.1) rfl dX0_init_1 (Nat.le_of_ble_eq_true rfl) (Nat.le_of_ble_eq_true rfl) ?_
  refine W.eq (g2 := F0 m 4 ls []) rfl ?_
  refine lv_aload_n hx hb dX0_init_4 rfl (lv_at hl 0 rfl) ?_
  refine lv_bipush (v := 30) hx hb dX0_init_5 (by decide) ?_
  have hc_0 : 0 + 1 ≤ 5 := by decide
  have hs_0 : 0 + 30 ≤ 150 := by decide
  refine va_newa (atype := .int) (ty := .int) (N' := 30) (a0 := (30, .inl (fun _ => 0))) hx hb (hts (.arrayClass .int) (by decide +kernel)) rfl hK hP hD hS hA (fun _ => rfl) (by decide) (by decide) (by decide) hc_0 hs_0 dX0_init_7 (fun q0 cA H hK1 hP hD hS => ?_)
  have e0 : cI = cA := RA_I (hK1.2 0 _ rfl).2 (hK1.2 2 _ rfl).2
  subst e0
  have hP : va_P D vwCl [(b, .inr (0, [.null, .null, .null, .null, .null, .int 0])), (q0, .inl (cI, 30, .inl (fun _ => 0)))] H := hP
  have hD : va_D A [(b, .inr (0, [.null, .null, .null, .null, .null, .int 0])), (q0, .inl (cI, 30, .inl (fun _ => 0)))] := hD
  refine W.widen (k := 1) (n := 30) (by omega) (by omega) ?_
  refine va_putF (D := D) (ci := 0) (v := .ref q0) (ty := (.array .int)) (C := RX0) (T := TX0) (N := 6) hx hb hts (by decide +kernel) tyX0 tyX0_ok nmX0 hown hK hP hD hS 0 rfl rfl 0 (by decide) (hts (.fieldLink RX0 9 "Warpyard$Bookings" "train" "[I") (by decide +kernel)) (fun _ h9 => h9) rfl hin rfl (by decide +kernel) rfl rfl (Nat.le_of_ble_eq_true rfl) dX0_init_9 (fun H locs hP hD hS => ?_)
  have hP : va_P D vwCl [(b, .inr (0, [.ref q0, .null, .null, .null, .null, .int 0])), (q0, .inl (cI, 30, .inl (fun _ => 0)))] H := hP
  have hD : va_D A [(b, .inr (0, [.ref q0, .null, .null, .null, .null, .int 0])), (q0, .inl (cI, 30, .inl (fun _ => 0)))] := hD
  refine lv_aload_n hx hb dX0_init_12 rfl (lv_at hl 0 rfl) ?_
  refine lv_bipush (v := 30) hx hb dX0_init_13 (by decide) ?_
  have hc_1 : 1 + 1 ≤ 5 := by decide
  have hs_1 : 30 + 30 ≤ 150 := by decide
  refine va_newa (atype := .int) (ty := .int) (N' := 30) (a0 := (30, .inl (fun _ => 0))) hx hb (hts (.arrayClass .int) (by decide +kernel)) rfl hK hP hD hS hA (fun _ => rfl) (by decide) (by decide) (by decide) hc_1 hs_1 dX0_init_15 (fun q1 cA H hK1 hP hD hS => ?_)
  have e1 : cI = cA := RA_I (hK1.2 0 _ rfl).2 (hK1.2 2 _ rfl).2
  subst e1
  have hP : va_P D vwCl [(b, .inr (0, [.ref q0, .null, .null, .null, .null, .int 0])), (q0, .inl (cI, 30, .inl (fun _ => 0))), (q1, .inl (cI, 30, .inl (fun _ => 0)))] H := hP
  have hD : va_D A [(b, .inr (0, [.ref q0, .null, .null, .null, .null, .int 0])), (q0, .inl (cI, 30, .inl (fun _ => 0))), (q1, .inl (cI, 30, .inl (fun _ => 0)))] := hD
  refine W.widen (k := 2) (n := 60) (by omega) (by omega) ?_
  refine va_putF (D := D) (ci := 0) (v := .ref q1) (ty := (.array .int)) (C := RX0) (T := TX0) (N := 6) hx hb hts (by decide +kernel) tyX0 tyX0_ok nmX0 hown hK hP hD hS 0 rfl rfl 1 (by decide) (hts (.fieldLink RX0 15 "Warpyard$Bookings" "block" "[I") (by decide +kernel)) (fun _ h9 => h9) rfl hin rfl (by decide +kernel) rfl rfl (Nat.le_of_ble_eq_true rfl) dX0_init_17 (fun H locs hP hD hS => ?_)
  have hP : va_P D vwCl [(b, .inr (0, [.ref q0, .ref q1, .null, .null, .null, .int 0])), (q0, .inl (cI, 30, .inl (fun _ => 0))), (q1, .inl (cI, 30, .inl (fun _ => 0)))] H := hP
  have hD : va_D A [(b, .inr (0, [.ref q0, .ref q1, .null, .null, .null, .int 0])), (q0, .inl (cI, 30, .inl (fun _ => 0))), (q1, .inl (cI, 30, .inl (fun _ => 0)))] := hD
  refine lv_aload_n hx hb dX0_init_20 rfl (lv_at hl 0 rfl) ?_
  refine lv_bipush (v := 30) hx hb dX0_init_21 (by decide) ?_
  have hc_2 : 2 + 1 ≤ 5 := by decide
  have hs_2 : 60 + 30 ≤ 150 := by decide
  refine va_newa (atype := .int) (ty := .int) (N' := 30) (a0 := (30, .inl (fun _ => 0))) hx hb (hts (.arrayClass .int) (by decide +kernel)) rfl hK hP hD hS hA (fun _ => rfl) (by decide) (by decide) (by decide) hc_2 hs_2 dX0_init_23 (fun q2 cA H hK1 hP hD hS => ?_)
  have e2 : cI = cA := RA_I (hK1.2 0 _ rfl).2 (hK1.2 2 _ rfl).2
  subst e2
  have hP : va_P D vwCl [(b, .inr (0, [.ref q0, .ref q1, .null, .null, .null, .int 0])), (q0, .inl (cI, 30, .inl (fun _ => 0))), (q1, .inl (cI, 30, .inl (fun _ => 0))), (q2, .inl (cI, 30, .inl (fun _ => 0)))] H := hP
  have hD : va_D A [(b, .inr (0, [.ref q0, .ref q1, .null, .null, .null, .int 0])), (q0, .inl (cI, 30, .inl (fun _ => 0))), (q1, .inl (cI, 30, .inl (fun _ => 0))), (q2, .inl (cI, 30, .inl (fun _ => 0)))] := hD
  refine W.widen (k := 3) (n := 90) (by omega) (by omega) ?_
  refine va_putF (D := D) (ci := 0) (v := .ref q2) (ty := (.array .int)) (C := RX0) (T := TX0) (N := 6) hx hb hts (by decide +kernel) tyX0 tyX0_ok nmX0 hown hK hP hD hS 0 rfl rfl 2 (by decide) (hts (.fieldLink RX0 18 "Warpyard$Bookings" "first" "[I") (by decide +kernel)) (fun _ h9 => h9) rfl hin rfl (by decide +kernel) rfl rfl (Nat.le_of_ble_eq_true rfl) dX0_init_25 (fun H locs hP hD hS => ?_)
  have hP : va_P D vwCl [(b, .inr (0, [.ref q0, .ref q1, .ref q2, .null, .null, .int 0])), (q0, .inl (cI, 30, .inl (fun _ => 0))), (q1, .inl (cI, 30, .inl (fun _ => 0))), (q2, .inl (cI, 30, .inl (fun _ => 0)))] H := hP
  have hD : va_D A [(b, .inr (0, [.ref q0, .ref q1, .ref q2, .null, .null, .int 0])), (q0, .inl (cI, 30, .inl (fun _ => 0))), (q1, .inl (cI, 30, .inl (fun _ => 0))), (q2, .inl (cI, 30, .inl (fun _ => 0)))] := hD
  refine lv_aload_n hx hb dX0_init_28 rfl (lv_at hl 0 rfl) ?_
  refine lv_bipush (v := 30) hx hb dX0_init_29 (by decide) ?_
  have hc_3 : 3 + 1 ≤ 5 := by decide
  have hs_3 : 90 + 30 ≤ 150 := by decide
  refine va_newa (atype := .int) (ty := .int) (N' := 30) (a0 := (30, .inl (fun _ => 0))) hx hb (hts (.arrayClass .int) (by decide +kernel)) rfl hK hP hD hS hA (fun _ => rfl) (by decide) (by decide) (by decide) hc_3 hs_3 dX0_init_31 (fun q3 cA H hK1 hP hD hS => ?_)
  have e3 : cI = cA := RA_I (hK1.2 0 _ rfl).2 (hK1.2 2 _ rfl).2
  subst e3
  have hP : va_P D vwCl [(b, .inr (0, [.ref q0, .ref q1, .ref q2, .null, .null, .int 0])), (q0, .inl (cI, 30, .inl (fun _ => 0))), (q1, .inl (cI, 30, .inl (fun _ => 0))), (q2, .inl (cI, 30, .inl (fun _ => 0))), (q3, .inl (cI, 30, .inl (fun _ => 0)))] H := hP
  have hD : va_D A [(b, .inr (0, [.ref q0, .ref q1, .ref q2, .null, .null, .int 0])), (q0, .inl (cI, 30, .inl (fun _ => 0))), (q1, .inl (cI, 30, .inl (fun _ => 0))), (q2, .inl (cI, 30, .inl (fun _ => 0))), (q3, .inl (cI, 30, .inl (fun _ => 0)))] := hD
  refine W.widen (k := 4) (n := 120) (by omega) (by omega) ?_
  refine va_putF (D := D) (ci := 0) (v := .ref q3) (ty := (.array .int)) (C := RX0) (T := TX0) (N := 6) hx hb hts (by decide +kernel) tyX0 tyX0_ok nmX0 hown hK hP hD hS 0 rfl rfl 3 (by decide) (hts (.fieldLink RX0 21 "Warpyard$Bookings" "last" "[I") (by decide +kernel)) (fun _ h9 => h9) rfl hin rfl (by decide +kernel) rfl rfl (Nat.le_of_ble_eq_true rfl) dX0_init_33 (fun H locs hP hD hS => ?_)
  have hP : va_P D vwCl [(b, .inr (0, [.ref q0, .ref q1, .ref q2, .ref q3, .null, .int 0])), (q0, .inl (cI, 30, .inl (fun _ => 0))), (q1, .inl (cI, 30, .inl (fun _ => 0))), (q2, .inl (cI, 30, .inl (fun _ => 0))), (q3, .inl (cI, 30, .inl (fun _ => 0)))] H := hP
  have hD : va_D A [(b, .inr (0, [.ref q0, .ref q1, .ref q2, .ref q3, .null, .int 0])), (q0, .inl (cI, 30, .inl (fun _ => 0))), (q1, .inl (cI, 30, .inl (fun _ => 0))), (q2, .inl (cI, 30, .inl (fun _ => 0))), (q3, .inl (cI, 30, .inl (fun _ => 0)))] := hD
  refine lv_aload_n hx hb dX0_init_36 rfl (lv_at hl 0 rfl) ?_
  refine lv_bipush (v := 30) hx hb dX0_init_37 (by decide) ?_
  have hc_4 : 4 + 1 ≤ 5 := by decide
  have hs_4 : 120 + 30 ≤ 150 := by decide
  refine va_newa (atype := .int) (ty := .int) (N' := 30) (a0 := (30, .inl (fun _ => 0))) hx hb (hts (.arrayClass .int) (by decide +kernel)) rfl hK hP hD hS hA (fun _ => rfl) (by decide) (by decide) (by decide) hc_4 hs_4 dX0_init_39 (fun q4 cA H hK1 hP hD hS => ?_)
  have e4 : cI = cA := RA_I (hK1.2 0 _ rfl).2 (hK1.2 2 _ rfl).2
  subst e4
  have hP : va_P D vwCl [(b, .inr (0, [.ref q0, .ref q1, .ref q2, .ref q3, .null, .int 0])), (q0, .inl (cI, 30, .inl (fun _ => 0))), (q1, .inl (cI, 30, .inl (fun _ => 0))), (q2, .inl (cI, 30, .inl (fun _ => 0))), (q3, .inl (cI, 30, .inl (fun _ => 0))), (q4, .inl (cI, 30, .inl (fun _ => 0)))] H := hP
  have hD : va_D A [(b, .inr (0, [.ref q0, .ref q1, .ref q2, .ref q3, .null, .int 0])), (q0, .inl (cI, 30, .inl (fun _ => 0))), (q1, .inl (cI, 30, .inl (fun _ => 0))), (q2, .inl (cI, 30, .inl (fun _ => 0))), (q3, .inl (cI, 30, .inl (fun _ => 0))), (q4, .inl (cI, 30, .inl (fun _ => 0)))] := hD
  refine W.widen (k := 5) (n := 150) (by omega) (by omega) ?_
  refine va_putF (D := D) (ci := 0) (v := .ref q4) (ty := (.array .int)) (C := RX0) (T := TX0) (N := 6) hx hb hts (by decide +kernel) tyX0 tyX0_ok nmX0 hown hK hP hD hS 0 rfl rfl 4 (by decide) (hts (.fieldLink RX0 24 "Warpyard$Bookings" "lateness" "[I") (by decide +kernel)) (fun _ h9 => h9) rfl hin rfl (by decide +kernel) rfl rfl (Nat.le_of_ble_eq_true rfl) dX0_init_41 (fun H locs hP hD hS => ?_)
  have hP : va_P D vwCl [(b, .inr (0, [.ref q0, .ref q1, .ref q2, .ref q3, .ref q4, .int 0])), (q0, .inl (cI, 30, .inl (fun _ => 0))), (q1, .inl (cI, 30, .inl (fun _ => 0))), (q2, .inl (cI, 30, .inl (fun _ => 0))), (q3, .inl (cI, 30, .inl (fun _ => 0))), (q4, .inl (cI, 30, .inl (fun _ => 0)))] H := hP
  have hD : va_D A [(b, .inr (0, [.ref q0, .ref q1, .ref q2, .ref q3, .ref q4, .int 0])), (q0, .inl (cI, 30, .inl (fun _ => 0))), (q1, .inl (cI, 30, .inl (fun _ => 0))), (q2, .inl (cI, 30, .inl (fun _ => 0))), (q3, .inl (cI, 30, .inl (fun _ => 0))), (q4, .inl (cI, 30, .inl (fun _ => 0)))] := hD
  have hP9 : va_P D vwCl ((fun g => wX0 cI cZ g) (fun k => match k with | 0 => b | 1 => q0 | 2 => q1 | 3 => q2 | 4 => q3 | 5 => q4 | _ => 0)) H := hP
  have hD9 : va_D A ((fun g => wX0 cI cZ g) (fun k => match k with | 0 => b | 1 => q0 | 2 => q1 | 3 => q2 | 4 => q3 | 5 => q4 | _ => 0)) := hD
  exact W.vret hx hb hr (fun t ht hW => ⟨⟨(fun k => match k with | 0 => b | 1 => q0 | 2 => q1 | 3 => q2 | 4 => q3 | 5 => q4 | _ => 0), rfl, rfl, by rw [ht]; exact hP9, va_K.moved hW.alike hK, hD9⟩, hS.F ht⟩) hS.2.2 dX0_init_44
def wX1 (cI cZ : ClassId) (g : Nat → Nat) : va_W := [(g 0, .inr (1, [.ref (g 1), .ref (g 2), .ref (g 3)])), (g 1, .inl (cI, 8, .inl (fun _ => 0))), (g 2, .inl (cI, 8, .inl (fun _ => 0))), (g 3, .inl (cI, 8, .inl (fun _ => 0)))]
set_option maxHeartbeats 4000000 in
set_option maxRecDepth 100000 in
theorem k_X1 (l : Launch) (D : va_G) (cI cZ : ClassId) (b sz : Nat) : MC l yX1_init wsX1_init ({ frames := 1, cells := 3, slots := 24, locals := 12 }) D (ty2 cI cZ) [(b, .inr (1, [.null, .null, .null]))] b sz (fun g => wX1 cI cZ g) 3 24 := by
  refine Met.ofW (cc := cX1_init) (maxL := 1) (ret := none) (by decide) rfl ?_
  intro p e s m args below meth c s₁ B hml hv
  obtain ⟨rfl, hsz, hP, hK, hD0, hNL⟩ := hv
  have hx := B.exec
  have hb := B.bytes
  have hr := B.returns
  have hts := atoms_spec (ws := wsX1_init) B.pre
  have hown : s.vm.findClass RX1 = some m.cls := findClass_of_methodNamed B.named
  have hlocks := B.notSynchronized
  have hin : meth.name = "<init>" := (name_of_methodNamed B.named B.method).1
  subst hsz
  have hD := hD0.self (sz := s.heap.size)
  generalize hAe : va_A [(b, .inr (1, [.null, .null, .null]))] s.heap.size = A at hD ⊢
  have hA : ∀ q : Nat, s.heap.size ≤ q → A q := fun q h => by rw [← hAe]; exact Or.inr h
  have hS : va_S A s.heap s.heap [] := va_S.rf
  have hP : va_P D vwCl [(b, .inr (1, [.null, .null, .null]))] s.heap := hP
  have hl := lv_entry ([.ref b]) (n := 1) (Nat.le_of_ble_eq_true rfl)
  rw [lg_entry_eq]
  generalize (lg_sl ([.ref b]) ++ List.replicate (1 - (lg_sl ([.ref b])).length) Slot.unset).toArray = ls at hl ⊢
  have hl : lv_has ls 1 [(0, .ref b)] := hl
  refine lv_aload_n hx hb dX1_init_0 rfl (lv_at hl 0 rfl) ?_
  refine W.objInit hx hb hown (hts (.methodLink RX1 3 objectInit) (by decide +kernel)) (hts (.instanceMethod objectInit) (by decide +kernel)) (hts (Cond.code objectInit ⟨#[0xb1]⟩ 1 none) (by decide +kernel)) rfl (by rw [hml]; exact hl.1) rfl dX1_init_1 (Nat.le_of_ble_eq_true rfl) (Nat.le_of_ble_eq_true rfl) ?_
  refine W.eq (g2 := F0 m 4 ls []) rfl ?_
  refine lv_aload_n hx hb dX1_init_4 rfl (lv_at hl 0 rfl) ?_
  refine lv_bipush (v := 8) hx hb dX1_init_5 (by decide) ?_
  have hc_0 : 0 + 1 ≤ 3 := by decide
  have hs_0 : 0 + 8 ≤ 24 := by decide
  refine va_newa (atype := .int) (ty := .int) (N' := 8) (a0 := (8, .inl (fun _ => 0))) hx hb (hts (.arrayClass .int) (by decide +kernel)) rfl hK hP hD hS hA (fun _ => rfl) (by decide) (by decide) (by decide) hc_0 hs_0 dX1_init_7 (fun q0 cA H hK1 hP hD hS => ?_)
  have e0 : cI = cA := RA_I (hK1.2 0 _ rfl).2 (hK1.2 2 _ rfl).2
  subst e0
  have hP : va_P D vwCl [(b, .inr (1, [.null, .null, .null])), (q0, .inl (cI, 8, .inl (fun _ => 0)))] H := hP
  have hD : va_D A [(b, .inr (1, [.null, .null, .null])), (q0, .inl (cI, 8, .inl (fun _ => 0)))] := hD
  refine W.widen (k := 1) (n := 8) (by omega) (by omega) ?_
  refine va_putF (D := D) (ci := 1) (v := .ref q0) (ty := (.array .int)) (C := RX1) (T := TX1) (N := 3) hx hb hts (by decide +kernel) tyX1 tyX1_ok nmX1 hown hK hP hD hS 0 rfl rfl 0 (by decide) (hts (.fieldLink RX1 9 "Warpyard$Offers" "siding" "[I") (by decide +kernel)) (fun _ h9 => h9) rfl hin rfl (by decide +kernel) rfl rfl (Nat.le_of_ble_eq_true rfl) dX1_init_9 (fun H locs hP hD hS => ?_)
  have hP : va_P D vwCl [(b, .inr (1, [.ref q0, .null, .null])), (q0, .inl (cI, 8, .inl (fun _ => 0)))] H := hP
  have hD : va_D A [(b, .inr (1, [.ref q0, .null, .null])), (q0, .inl (cI, 8, .inl (fun _ => 0)))] := hD
  refine lv_aload_n hx hb dX1_init_12 rfl (lv_at hl 0 rfl) ?_
  refine lv_bipush (v := 8) hx hb dX1_init_13 (by decide) ?_
  have hc_1 : 1 + 1 ≤ 3 := by decide
  have hs_1 : 8 + 8 ≤ 24 := by decide
  refine va_newa (atype := .int) (ty := .int) (N' := 8) (a0 := (8, .inl (fun _ => 0))) hx hb (hts (.arrayClass .int) (by decide +kernel)) rfl hK hP hD hS hA (fun _ => rfl) (by decide) (by decide) (by decide) hc_1 hs_1 dX1_init_15 (fun q1 cA H hK1 hP hD hS => ?_)
  have e1 : cI = cA := RA_I (hK1.2 0 _ rfl).2 (hK1.2 2 _ rfl).2
  subst e1
  have hP : va_P D vwCl [(b, .inr (1, [.ref q0, .null, .null])), (q0, .inl (cI, 8, .inl (fun _ => 0))), (q1, .inl (cI, 8, .inl (fun _ => 0)))] H := hP
  have hD : va_D A [(b, .inr (1, [.ref q0, .null, .null])), (q0, .inl (cI, 8, .inl (fun _ => 0))), (q1, .inl (cI, 8, .inl (fun _ => 0)))] := hD
  refine W.widen (k := 2) (n := 16) (by omega) (by omega) ?_
  refine va_putF (D := D) (ci := 1) (v := .ref q1) (ty := (.array .int)) (C := RX1) (T := TX1) (N := 3) hx hb hts (by decide +kernel) tyX1 tyX1_ok nmX1 hown hK hP hD hS 0 rfl rfl 1 (by decide) (hts (.fieldLink RX1 15 "Warpyard$Offers" "minute" "[I") (by decide +kernel)) (fun _ h9 => h9) rfl hin rfl (by decide +kernel) rfl rfl (Nat.le_of_ble_eq_true rfl) dX1_init_17 (fun H locs hP hD hS => ?_)
  have hP : va_P D vwCl [(b, .inr (1, [.ref q0, .ref q1, .null])), (q0, .inl (cI, 8, .inl (fun _ => 0))), (q1, .inl (cI, 8, .inl (fun _ => 0)))] H := hP
  have hD : va_D A [(b, .inr (1, [.ref q0, .ref q1, .null])), (q0, .inl (cI, 8, .inl (fun _ => 0))), (q1, .inl (cI, 8, .inl (fun _ => 0)))] := hD
  refine lv_aload_n hx hb dX1_init_20 rfl (lv_at hl 0 rfl) ?_
  refine lv_bipush (v := 8) hx hb dX1_init_21 (by decide) ?_
  have hc_2 : 2 + 1 ≤ 3 := by decide
  have hs_2 : 16 + 8 ≤ 24 := by decide
  refine va_newa (atype := .int) (ty := .int) (N' := 8) (a0 := (8, .inl (fun _ => 0))) hx hb (hts (.arrayClass .int) (by decide +kernel)) rfl hK hP hD hS hA (fun _ => rfl) (by decide) (by decide) (by decide) hc_2 hs_2 dX1_init_23 (fun q2 cA H hK1 hP hD hS => ?_)
  have e2 : cI = cA := RA_I (hK1.2 0 _ rfl).2 (hK1.2 2 _ rfl).2
  subst e2
  have hP : va_P D vwCl [(b, .inr (1, [.ref q0, .ref q1, .null])), (q0, .inl (cI, 8, .inl (fun _ => 0))), (q1, .inl (cI, 8, .inl (fun _ => 0))), (q2, .inl (cI, 8, .inl (fun _ => 0)))] H := hP
  have hD : va_D A [(b, .inr (1, [.ref q0, .ref q1, .null])), (q0, .inl (cI, 8, .inl (fun _ => 0))), (q1, .inl (cI, 8, .inl (fun _ => 0))), (q2, .inl (cI, 8, .inl (fun _ => 0)))] := hD
  refine W.widen (k := 3) (n := 24) (by omega) (by omega) ?_
  refine va_putF (D := D) (ci := 1) (v := .ref q2) (ty := (.array .int)) (C := RX1) (T := TX1) (N := 3) hx hb hts (by decide +kernel) tyX1 tyX1_ok nmX1 hown hK hP hD hS 0 rfl rfl 2 (by decide) (hts (.fieldLink RX1 18 "Warpyard$Offers" "price" "[I") (by decide +kernel)) (fun _ h9 => h9) rfl hin rfl (by decide +kernel) rfl rfl (Nat.le_of_ble_eq_true rfl) dX1_init_25 (fun H locs hP hD hS => ?_)
  have hP : va_P D vwCl [(b, .inr (1, [.ref q0, .ref q1, .ref q2])), (q0, .inl (cI, 8, .inl (fun _ => 0))), (q1, .inl (cI, 8, .inl (fun _ => 0))), (q2, .inl (cI, 8, .inl (fun _ => 0)))] H := hP
  have hD : va_D A [(b, .inr (1, [.ref q0, .ref q1, .ref q2])), (q0, .inl (cI, 8, .inl (fun _ => 0))), (q1, .inl (cI, 8, .inl (fun _ => 0))), (q2, .inl (cI, 8, .inl (fun _ => 0)))] := hD
  have hP9 : va_P D vwCl ((fun g => wX1 cI cZ g) (fun k => match k with | 0 => b | 1 => q0 | 2 => q1 | 3 => q2 | _ => 0)) H := hP
  have hD9 : va_D A ((fun g => wX1 cI cZ g) (fun k => match k with | 0 => b | 1 => q0 | 2 => q1 | 3 => q2 | _ => 0)) := hD
  exact W.vret hx hb hr (fun t ht hW => ⟨⟨(fun k => match k with | 0 => b | 1 => q0 | 2 => q1 | 3 => q2 | _ => 0), rfl, rfl, by rw [ht]; exact hP9, va_K.moved hW.alike hK, hD9⟩, hS.F ht⟩) hS.2.2 dX1_init_28
def wX2 (cI cZ : ClassId) (g : Nat → Nat) : va_W := [(g 0, .inr (2, [.ref (g 1)])), (g 1, .inl (cZ, 2, .inl (fun _ => 0)))]
set_option maxHeartbeats 4000000 in
set_option maxRecDepth 100000 in
theorem k_X2 (l : Launch) (D : va_G) (cI cZ : ClassId) (b sz : Nat) : MC l yX2_init wsX2_init ({ frames := 1, cells := 1, slots := 2, locals := 12 }) D (ty2 cI cZ) [(b, .inr (2, [.null]))] b sz (fun g => wX2 cI cZ g) 1 2 := by
  refine Met.ofW (cc := cX2_init) (maxL := 1) (ret := none) (by decide) rfl ?_
  intro p e s m args below meth c s₁ B hml hv
  obtain ⟨rfl, hsz, hP, hK, hD0, hNL⟩ := hv
  have hx := B.exec
  have hb := B.bytes
  have hr := B.returns
  have hts := atoms_spec (ws := wsX2_init) B.pre
  have hown : s.vm.findClass RX2 = some m.cls := findClass_of_methodNamed B.named
  have hlocks := B.notSynchronized
  have hin : meth.name = "<init>" := (name_of_methodNamed B.named B.method).1
  subst hsz
  have hD := hD0.self (sz := s.heap.size)
  generalize hAe : va_A [(b, .inr (2, [.null]))] s.heap.size = A at hD ⊢
  have hA : ∀ q : Nat, s.heap.size ≤ q → A q := fun q h => by rw [← hAe]; exact Or.inr h
  have hS : va_S A s.heap s.heap [] := va_S.rf
  have hP : va_P D vwCl [(b, .inr (2, [.null]))] s.heap := hP
  have hl := lv_entry ([.ref b]) (n := 1) (Nat.le_of_ble_eq_true rfl)
  rw [lg_entry_eq]
  generalize (lg_sl ([.ref b]) ++ List.replicate (1 - (lg_sl ([.ref b])).length) Slot.unset).toArray = ls at hl ⊢
  have hl : lv_has ls 1 [(0, .ref b)] := hl
  refine lv_aload_n hx hb dX2_init_0 rfl (lv_at hl 0 rfl) ?_
  refine W.objInit hx hb hown (hts (.methodLink RX2 3 objectInit) (by decide +kernel)) (hts (.instanceMethod objectInit) (by decide +kernel)) (hts (Cond.code objectInit ⟨#[0xb1]⟩ 1 none) (by decide +kernel)) rfl (by rw [hml]; exact hl.1) rfl dX2_init_1 (Nat.le_of_ble_eq_true rfl) (Nat.le_of_ble_eq_true rfl) ?_
  refine W.eq (g2 := F0 m 4 ls []) rfl ?_
  refine lv_aload_n hx hb dX2_init_4 rfl (lv_at hl 0 rfl) ?_
  refine lv_iconst (v := 2) hx hb dX2_init_5 (by decide) ?_
  have hc_0 : 0 + 1 ≤ 1 := by decide
  have hs_0 : 0 + 2 ≤ 2 := by decide
  refine va_newa (atype := .boolean) (ty := .boolean) (N' := 2) (a0 := (2, .inl (fun _ => 0))) hx hb (hts (.arrayClass .boolean) (by decide +kernel)) rfl hK hP hD hS hA (fun _ => rfl) (by decide) (by decide) (by decide) hc_0 hs_0 dX2_init_6 (fun q0 cA H hK1 hP hD hS => ?_)
  have e0 : cZ = cA := RA_Z (hK1.2 1 _ rfl).2 (hK1.2 2 _ rfl).2
  subst e0
  have hP : va_P D vwCl [(b, .inr (2, [.null])), (q0, .inl (cZ, 2, .inl (fun _ => 0)))] H := hP
  have hD : va_D A [(b, .inr (2, [.null])), (q0, .inl (cZ, 2, .inl (fun _ => 0)))] := hD
  refine W.widen (k := 1) (n := 2) (by omega) (by omega) ?_
  refine va_putF (D := D) (ci := 2) (v := .ref q0) (ty := (.array .boolean)) (C := RX2) (T := TX2) (N := 1) hx hb hts (by decide +kernel) tyX2 tyX2_ok nmX2 hown hK hP hD hS 0 rfl rfl 0 (by decide) (hts (.fieldLink RX2 9 "Warpyard$Tracks" "turned" "[Z") (by decide +kernel)) (fun _ h9 => h9) rfl hin rfl (by decide +kernel) rfl rfl (Nat.le_of_ble_eq_true rfl) dX2_init_8 (fun H locs hP hD hS => ?_)
  have hP : va_P D vwCl [(b, .inr (2, [.ref q0])), (q0, .inl (cZ, 2, .inl (fun _ => 0)))] H := hP
  have hD : va_D A [(b, .inr (2, [.ref q0])), (q0, .inl (cZ, 2, .inl (fun _ => 0)))] := hD
  have hP9 : va_P D vwCl ((fun g => wX2 cI cZ g) (fun k => match k with | 0 => b | 1 => q0 | _ => 0)) H := hP
  have hD9 : va_D A ((fun g => wX2 cI cZ g) (fun k => match k with | 0 => b | 1 => q0 | _ => 0)) := hD
  exact W.vret hx hb hr (fun t ht hW => ⟨⟨(fun k => match k with | 0 => b | 1 => q0 | _ => 0), rfl, rfl, by rw [ht]; exact hP9, va_K.moved hW.alike hK, hD9⟩, hS.F ht⟩) hS.2.2 dX2_init_11
def wX3 (cI cZ : ClassId) (g : Nat → Nat) : va_W := [(g 0, .inr (3, [.ref (g 1), .ref (g 2), .ref (g 3), .ref (g 4), .int 0])), (g 1, .inl (cI, 4, .inl (fun _ => 0))), (g 2, .inl (cZ, 4, .inl (fun _ => 0))), (g 3, .inl (cZ, 4, .inl (fun _ => 0))), (g 4, .inl (cI, 4, .inl (fun _ => 0)))]
set_option maxHeartbeats 4000000 in
set_option maxRecDepth 100000 in
theorem k_X3 (l : Launch) (D : va_G) (cI cZ : ClassId) (b sz : Nat) : MC l yX3_init wsX3_init ({ frames := 1, cells := 4, slots := 16, locals := 12 }) D (ty2 cI cZ) [(b, .inr (3, [.null, .null, .null, .null, .int 0]))] b sz (fun g => wX3 cI cZ g) 4 16 := by
  refine Met.ofW (cc := cX3_init) (maxL := 1) (ret := none) (by decide) rfl ?_
  intro p e s m args below meth c s₁ B hml hv
  obtain ⟨rfl, hsz, hP, hK, hD0, hNL⟩ := hv
  have hx := B.exec
  have hb := B.bytes
  have hr := B.returns
  have hts := atoms_spec (ws := wsX3_init) B.pre
  have hown : s.vm.findClass RX3 = some m.cls := findClass_of_methodNamed B.named
  have hlocks := B.notSynchronized
  have hin : meth.name = "<init>" := (name_of_methodNamed B.named B.method).1
  subst hsz
  have hD := hD0.self (sz := s.heap.size)
  generalize hAe : va_A [(b, .inr (3, [.null, .null, .null, .null, .int 0]))] s.heap.size = A at hD ⊢
  have hA : ∀ q : Nat, s.heap.size ≤ q → A q := fun q h => by rw [← hAe]; exact Or.inr h
  have hS : va_S A s.heap s.heap [] := va_S.rf
  have hP : va_P D vwCl [(b, .inr (3, [.null, .null, .null, .null, .int 0]))] s.heap := hP
  have hl := lv_entry ([.ref b]) (n := 1) (Nat.le_of_ble_eq_true rfl)
  rw [lg_entry_eq]
  generalize (lg_sl ([.ref b]) ++ List.replicate (1 - (lg_sl ([.ref b])).length) Slot.unset).toArray = ls at hl ⊢
  have hl : lv_has ls 1 [(0, .ref b)] := hl
  refine lv_aload_n hx hb dX3_init_0 rfl (lv_at hl 0 rfl) ?_
  refine W.objInit hx hb hown (hts (.methodLink RX3 3 objectInit) (by decide +kernel)) (hts (.instanceMethod objectInit) (by decide +kernel)) (hts (Cond.code objectInit ⟨#[0xb1]⟩ 1 none) (by decide +kernel)) rfl (by rw [hml]; exact hl.1) rfl dX3_init_1 (Nat.le_of_ble_eq_true rfl) (Nat.le_of_ble_eq_true rfl) ?_
  refine W.eq (g2 := F0 m 4 ls []) rfl ?_
  refine lv_aload_n hx hb dX3_init_4 rfl (lv_at hl 0 rfl) ?_
  refine lv_iconst (v := 4) hx hb dX3_init_5 (by decide) ?_
  have hc_0 : 0 + 1 ≤ 4 := by decide
  have hs_0 : 0 + 4 ≤ 16 := by decide
  refine va_newa (atype := .int) (ty := .int) (N' := 4) (a0 := (4, .inl (fun _ => 0))) hx hb (hts (.arrayClass .int) (by decide +kernel)) rfl hK hP hD hS hA (fun _ => rfl) (by decide) (by decide) (by decide) hc_0 hs_0 dX3_init_6 (fun q0 cA H hK1 hP hD hS => ?_)
  have e0 : cI = cA := RA_I (hK1.2 0 _ rfl).2 (hK1.2 2 _ rfl).2
  subst e0
  have hP : va_P D vwCl [(b, .inr (3, [.null, .null, .null, .null, .int 0])), (q0, .inl (cI, 4, .inl (fun _ => 0)))] H := hP
  have hD : va_D A [(b, .inr (3, [.null, .null, .null, .null, .int 0])), (q0, .inl (cI, 4, .inl (fun _ => 0)))] := hD
  refine W.widen (k := 1) (n := 4) (by omega) (by omega) ?_
  refine va_putF (D := D) (ci := 3) (v := .ref q0) (ty := (.array .int)) (C := RX3) (T := TX3) (N := 5) hx hb hts (by decide +kernel) tyX3 tyX3_ok nmX3 hown hK hP hD hS 0 rfl rfl 0 (by decide) (hts (.fieldLink RX3 9 "Warpyard$Trains" "block" "[I") (by decide +kernel)) (fun _ h9 => h9) rfl hin rfl (by decide +kernel) rfl rfl (Nat.le_of_ble_eq_true rfl) dX3_init_8 (fun H locs hP hD hS => ?_)
  have hP : va_P D vwCl [(b, .inr (3, [.ref q0, .null, .null, .null, .int 0])), (q0, .inl (cI, 4, .inl (fun _ => 0)))] H := hP
  have hD : va_D A [(b, .inr (3, [.ref q0, .null, .null, .null, .int 0])), (q0, .inl (cI, 4, .inl (fun _ => 0)))] := hD
  refine lv_aload_n hx hb dX3_init_11 rfl (lv_at hl 0 rfl) ?_
  refine lv_iconst (v := 4) hx hb dX3_init_12 (by decide) ?_
  have hc_1 : 1 + 1 ≤ 4 := by decide
  have hs_1 : 4 + 4 ≤ 16 := by decide
  refine va_newa (atype := .boolean) (ty := .boolean) (N' := 4) (a0 := (4, .inl (fun _ => 0))) hx hb (hts (.arrayClass .boolean) (by decide +kernel)) rfl hK hP hD hS hA (fun _ => rfl) (by decide) (by decide) (by decide) hc_1 hs_1 dX3_init_13 (fun q1 cA H hK1 hP hD hS => ?_)
  have e1 : cZ = cA := RA_Z (hK1.2 1 _ rfl).2 (hK1.2 2 _ rfl).2
  subst e1
  have hP : va_P D vwCl [(b, .inr (3, [.ref q0, .null, .null, .null, .int 0])), (q0, .inl (cI, 4, .inl (fun _ => 0))), (q1, .inl (cZ, 4, .inl (fun _ => 0)))] H := hP
  have hD : va_D A [(b, .inr (3, [.ref q0, .null, .null, .null, .int 0])), (q0, .inl (cI, 4, .inl (fun _ => 0))), (q1, .inl (cZ, 4, .inl (fun _ => 0)))] := hD
  refine W.widen (k := 2) (n := 8) (by omega) (by omega) ?_
  refine va_putF (D := D) (ci := 3) (v := .ref q1) (ty := (.array .boolean)) (C := RX3) (T := TX3) (N := 5) hx hb hts (by decide +kernel) tyX3 tyX3_ok nmX3 hown hK hP hD hS 0 rfl rfl 1 (by decide) (hts (.fieldLink RX3 15 "Warpyard$Trains" "right" "[Z") (by decide +kernel)) (fun _ h9 => h9) rfl hin rfl (by decide +kernel) rfl rfl (Nat.le_of_ble_eq_true rfl) dX3_init_15 (fun H locs hP hD hS => ?_)
  have hP : va_P D vwCl [(b, .inr (3, [.ref q0, .ref q1, .null, .null, .int 0])), (q0, .inl (cI, 4, .inl (fun _ => 0))), (q1, .inl (cZ, 4, .inl (fun _ => 0)))] H := hP
  have hD : va_D A [(b, .inr (3, [.ref q0, .ref q1, .null, .null, .int 0])), (q0, .inl (cI, 4, .inl (fun _ => 0))), (q1, .inl (cZ, 4, .inl (fun _ => 0)))] := hD
  refine lv_aload_n hx hb dX3_init_18 rfl (lv_at hl 0 rfl) ?_
  refine lv_iconst (v := 4) hx hb dX3_init_19 (by decide) ?_
  have hc_2 : 2 + 1 ≤ 4 := by decide
  have hs_2 : 8 + 4 ≤ 16 := by decide
  refine va_newa (atype := .boolean) (ty := .boolean) (N' := 4) (a0 := (4, .inl (fun _ => 0))) hx hb (hts (.arrayClass .boolean) (by decide +kernel)) rfl hK hP hD hS hA (fun _ => rfl) (by decide) (by decide) (by decide) hc_2 hs_2 dX3_init_20 (fun q2 cA H hK1 hP hD hS => ?_)
  have e2 : cZ = cA := RA_Z (hK1.2 1 _ rfl).2 (hK1.2 2 _ rfl).2
  subst e2
  have hP : va_P D vwCl [(b, .inr (3, [.ref q0, .ref q1, .null, .null, .int 0])), (q0, .inl (cI, 4, .inl (fun _ => 0))), (q1, .inl (cZ, 4, .inl (fun _ => 0))), (q2, .inl (cZ, 4, .inl (fun _ => 0)))] H := hP
  have hD : va_D A [(b, .inr (3, [.ref q0, .ref q1, .null, .null, .int 0])), (q0, .inl (cI, 4, .inl (fun _ => 0))), (q1, .inl (cZ, 4, .inl (fun _ => 0))), (q2, .inl (cZ, 4, .inl (fun _ => 0)))] := hD
  refine W.widen (k := 3) (n := 12) (by omega) (by omega) ?_
  refine va_putF (D := D) (ci := 3) (v := .ref q2) (ty := (.array .boolean)) (C := RX3) (T := TX3) (N := 5) hx hb hts (by decide +kernel) tyX3 tyX3_ok nmX3 hown hK hP hD hS 0 rfl rfl 2 (by decide) (hts (.fieldLink RX3 19 "Warpyard$Trains" "held" "[Z") (by decide +kernel)) (fun _ h9 => h9) rfl hin rfl (by decide +kernel) rfl rfl (Nat.le_of_ble_eq_true rfl) dX3_init_22 (fun H locs hP hD hS => ?_)
  have hP : va_P D vwCl [(b, .inr (3, [.ref q0, .ref q1, .ref q2, .null, .int 0])), (q0, .inl (cI, 4, .inl (fun _ => 0))), (q1, .inl (cZ, 4, .inl (fun _ => 0))), (q2, .inl (cZ, 4, .inl (fun _ => 0)))] H := hP
  have hD : va_D A [(b, .inr (3, [.ref q0, .ref q1, .ref q2, .null, .int 0])), (q0, .inl (cI, 4, .inl (fun _ => 0))), (q1, .inl (cZ, 4, .inl (fun _ => 0))), (q2, .inl (cZ, 4, .inl (fun _ => 0)))] := hD
  refine lv_aload_n hx hb dX3_init_25 rfl (lv_at hl 0 rfl) ?_
  refine lv_iconst (v := 4) hx hb dX3_init_26 (by decide) ?_
  have hc_3 : 3 + 1 ≤ 4 := by decide
  have hs_3 : 12 + 4 ≤ 16 := by decide
  refine va_newa (atype := .int) (ty := .int) (N' := 4) (a0 := (4, .inl (fun _ => 0))) hx hb (hts (.arrayClass .int) (by decide +kernel)) rfl hK hP hD hS hA (fun _ => rfl) (by decide) (by decide) (by decide) hc_3 hs_3 dX3_init_27 (fun q3 cA H hK1 hP hD hS => ?_)
  have e3 : cI = cA := RA_I (hK1.2 0 _ rfl).2 (hK1.2 2 _ rfl).2
  subst e3
  have hP : va_P D vwCl [(b, .inr (3, [.ref q0, .ref q1, .ref q2, .null, .int 0])), (q0, .inl (cI, 4, .inl (fun _ => 0))), (q1, .inl (cZ, 4, .inl (fun _ => 0))), (q2, .inl (cZ, 4, .inl (fun _ => 0))), (q3, .inl (cI, 4, .inl (fun _ => 0)))] H := hP
  have hD : va_D A [(b, .inr (3, [.ref q0, .ref q1, .ref q2, .null, .int 0])), (q0, .inl (cI, 4, .inl (fun _ => 0))), (q1, .inl (cZ, 4, .inl (fun _ => 0))), (q2, .inl (cZ, 4, .inl (fun _ => 0))), (q3, .inl (cI, 4, .inl (fun _ => 0)))] := hD
  refine W.widen (k := 4) (n := 16) (by omega) (by omega) ?_
  refine va_putF (D := D) (ci := 3) (v := .ref q3) (ty := (.array .int)) (C := RX3) (T := TX3) (N := 5) hx hb hts (by decide +kernel) tyX3 tyX3_ok nmX3 hown hK hP hD hS 0 rfl rfl 3 (by decide) (hts (.fieldLink RX3 22 "Warpyard$Trains" "delay" "[I") (by decide +kernel)) (fun _ h9 => h9) rfl hin rfl (by decide +kernel) rfl rfl (Nat.le_of_ble_eq_true rfl) dX3_init_29 (fun H locs hP hD hS => ?_)
  have hP : va_P D vwCl [(b, .inr (3, [.ref q0, .ref q1, .ref q2, .ref q3, .int 0])), (q0, .inl (cI, 4, .inl (fun _ => 0))), (q1, .inl (cZ, 4, .inl (fun _ => 0))), (q2, .inl (cZ, 4, .inl (fun _ => 0))), (q3, .inl (cI, 4, .inl (fun _ => 0)))] H := hP
  have hD : va_D A [(b, .inr (3, [.ref q0, .ref q1, .ref q2, .ref q3, .int 0])), (q0, .inl (cI, 4, .inl (fun _ => 0))), (q1, .inl (cZ, 4, .inl (fun _ => 0))), (q2, .inl (cZ, 4, .inl (fun _ => 0))), (q3, .inl (cI, 4, .inl (fun _ => 0)))] := hD
  have hP9 : va_P D vwCl ((fun g => wX3 cI cZ g) (fun k => match k with | 0 => b | 1 => q0 | 2 => q1 | 3 => q2 | 4 => q3 | _ => 0)) H := hP
  have hD9 : va_D A ((fun g => wX3 cI cZ g) (fun k => match k with | 0 => b | 1 => q0 | 2 => q1 | 3 => q2 | 4 => q3 | _ => 0)) := hD
  exact W.vret hx hb hr (fun t ht hW => ⟨⟨(fun k => match k with | 0 => b | 1 => q0 | 2 => q1 | 3 => q2 | 4 => q3 | _ => 0), rfl, rfl, by rw [ht]; exact hP9, va_K.moved hW.alike hK, hD9⟩, hS.F ht⟩) hS.2.2 dX3_init_32
def wX4 (cI cZ : ClassId) (g : Nat → Nat) : va_W := [(g 0, .inr (4, [.ref (g 1), .ref (g 2), .ref (g 3), .int 0])), (g 1, .inl (cI, 8, .inl (fun _ => 0))), (g 2, .inl (cI, 6, .inl (fun _ => 0))), (g 3, .inl (cI, 48, .inl (fun _ => 0)))]
set_option maxHeartbeats 4000000 in
set_option maxRecDepth 100000 in
theorem k_X4 (l : Launch) (D : va_G) (cI cZ : ClassId) (b sz : Nat) : MC l yX4_init wsX4_init ({ frames := 1, cells := 3, slots := 62, locals := 12 }) D (ty2 cI cZ) [(b, .inr (4, [.null, .null, .null, .int 0]))] b sz (fun g => wX4 cI cZ g) 3 62 := by
  refine Met.ofW (cc := cX4_init) (maxL := 1) (ret := none) (by decide) rfl ?_
  intro p e s m args below meth c s₁ B hml hv
  obtain ⟨rfl, hsz, hP, hK, hD0, hNL⟩ := hv
  have hx := B.exec
  have hb := B.bytes
  have hr := B.returns
  have hts := atoms_spec (ws := wsX4_init) B.pre
  have hown : s.vm.findClass RX4 = some m.cls := findClass_of_methodNamed B.named
  have hlocks := B.notSynchronized
  have hin : meth.name = "<init>" := (name_of_methodNamed B.named B.method).1
  subst hsz
  have hD := hD0.self (sz := s.heap.size)
  generalize hAe : va_A [(b, .inr (4, [.null, .null, .null, .int 0]))] s.heap.size = A at hD ⊢
  have hA : ∀ q : Nat, s.heap.size ≤ q → A q := fun q h => by rw [← hAe]; exact Or.inr h
  have hS : va_S A s.heap s.heap [] := va_S.rf
  have hP : va_P D vwCl [(b, .inr (4, [.null, .null, .null, .int 0]))] s.heap := hP
  have hl := lv_entry ([.ref b]) (n := 1) (Nat.le_of_ble_eq_true rfl)
  rw [lg_entry_eq]
  generalize (lg_sl ([.ref b]) ++ List.replicate (1 - (lg_sl ([.ref b])).length) Slot.unset).toArray = ls at hl ⊢
  have hl : lv_has ls 1 [(0, .ref b)] := hl
  refine lv_aload_n hx hb dX4_init_0 rfl (lv_at hl 0 rfl) ?_
  refine W.objInit hx hb hown (hts (.methodLink RX4 3 objectInit) (by decide +kernel)) (hts (.instanceMethod objectInit) (by decide +kernel)) (hts (Cond.code objectInit ⟨#[0xb1]⟩ 1 none) (by decide +kernel)) rfl (by rw [hml]; exact hl.1) rfl dX4_init_1 (Nat.le_of_ble_eq_true rfl) (Nat.le_of_ble_eq_true rfl) ?_
  refine W.eq (g2 := F0 m 4 ls []) rfl ?_
  refine lv_aload_n hx hb dX4_init_4 rfl (lv_at hl 0 rfl) ?_
  refine lv_bipush (v := 8) hx hb dX4_init_5 (by decide) ?_
  have hc_0 : 0 + 1 ≤ 3 := by decide
  have hs_0 : 0 + 8 ≤ 62 := by decide
  refine va_newa (atype := .int) (ty := .int) (N' := 8) (a0 := (8, .inl (fun _ => 0))) hx hb (hts (.arrayClass .int) (by decide +kernel)) rfl hK hP hD hS hA (fun _ => rfl) (by decide) (by decide) (by decide) hc_0 hs_0 dX4_init_7 (fun q0 cA H hK1 hP hD hS => ?_)
  have e0 : cI = cA := RA_I (hK1.2 0 _ rfl).2 (hK1.2 2 _ rfl).2
  subst e0
  have hP : va_P D vwCl [(b, .inr (4, [.null, .null, .null, .int 0])), (q0, .inl (cI, 8, .inl (fun _ => 0)))] H := hP
  have hD : va_D A [(b, .inr (4, [.null, .null, .null, .int 0])), (q0, .inl (cI, 8, .inl (fun _ => 0)))] := hD
  refine W.widen (k := 1) (n := 8) (by omega) (by omega) ?_
  refine va_putF (D := D) (ci := 4) (v := .ref q0) (ty := (.array .int)) (C := RX4) (T := TX4) (N := 4) hx hb hts (by decide +kernel) tyX4 tyX4_ok nmX4 hown hK hP hD hS 0 rfl rfl 0 (by decide) (hts (.fieldLink RX4 9 "Warpyard$Waggons" "weight" "[I") (by decide +kernel)) (fun _ h9 => h9) rfl hin rfl (by decide +kernel) rfl rfl (Nat.le_of_ble_eq_true rfl) dX4_init_9 (fun H locs hP hD hS => ?_)
  have hP : va_P D vwCl [(b, .inr (4, [.ref q0, .null, .null, .int 0])), (q0, .inl (cI, 8, .inl (fun _ => 0)))] H := hP
  have hD : va_D A [(b, .inr (4, [.ref q0, .null, .null, .int 0])), (q0, .inl (cI, 8, .inl (fun _ => 0)))] := hD
  refine lv_aload_n hx hb dX4_init_12 rfl (lv_at hl 0 rfl) ?_
  refine lv_bipush (v := 6) hx hb dX4_init_13 (by decide) ?_
  have hc_1 : 1 + 1 ≤ 3 := by decide
  have hs_1 : 8 + 6 ≤ 62 := by decide
  refine va_newa (atype := .int) (ty := .int) (N' := 6) (a0 := (6, .inl (fun _ => 0))) hx hb (hts (.arrayClass .int) (by decide +kernel)) rfl hK hP hD hS hA (fun _ => rfl) (by decide) (by decide) (by decide) hc_1 hs_1 dX4_init_15 (fun q1 cA H hK1 hP hD hS => ?_)
  have e1 : cI = cA := RA_I (hK1.2 0 _ rfl).2 (hK1.2 2 _ rfl).2
  subst e1
  have hP : va_P D vwCl [(b, .inr (4, [.ref q0, .null, .null, .int 0])), (q0, .inl (cI, 8, .inl (fun _ => 0))), (q1, .inl (cI, 6, .inl (fun _ => 0)))] H := hP
  have hD : va_D A [(b, .inr (4, [.ref q0, .null, .null, .int 0])), (q0, .inl (cI, 8, .inl (fun _ => 0))), (q1, .inl (cI, 6, .inl (fun _ => 0)))] := hD
  refine W.widen (k := 2) (n := 14) (by omega) (by omega) ?_
  refine va_putF (D := D) (ci := 4) (v := .ref q1) (ty := (.array .int)) (C := RX4) (T := TX4) (N := 4) hx hb hts (by decide +kernel) tyX4 tyX4_ok nmX4 hown hK hP hD hS 0 rfl rfl 1 (by decide) (hts (.fieldLink RX4 15 "Warpyard$Waggons" "size" "[I") (by decide +kernel)) (fun _ h9 => h9) rfl hin rfl (by decide +kernel) rfl rfl (Nat.le_of_ble_eq_true rfl) dX4_init_17 (fun H locs hP hD hS => ?_)
  have hP : va_P D vwCl [(b, .inr (4, [.ref q0, .ref q1, .null, .int 0])), (q0, .inl (cI, 8, .inl (fun _ => 0))), (q1, .inl (cI, 6, .inl (fun _ => 0)))] H := hP
  have hD : va_D A [(b, .inr (4, [.ref q0, .ref q1, .null, .int 0])), (q0, .inl (cI, 8, .inl (fun _ => 0))), (q1, .inl (cI, 6, .inl (fun _ => 0)))] := hD
  refine lv_aload_n hx hb dX4_init_20 rfl (lv_at hl 0 rfl) ?_
  refine lv_bipush (v := 48) hx hb dX4_init_21 (by decide) ?_
  have hc_2 : 2 + 1 ≤ 3 := by decide
  have hs_2 : 14 + 48 ≤ 62 := by decide
  refine va_newa (atype := .int) (ty := .int) (N' := 48) (a0 := (48, .inl (fun _ => 0))) hx hb (hts (.arrayClass .int) (by decide +kernel)) rfl hK hP hD hS hA (fun _ => rfl) (by decide) (by decide) (by decide) hc_2 hs_2 dX4_init_23 (fun q2 cA H hK1 hP hD hS => ?_)
  have e2 : cI = cA := RA_I (hK1.2 0 _ rfl).2 (hK1.2 2 _ rfl).2
  subst e2
  have hP : va_P D vwCl [(b, .inr (4, [.ref q0, .ref q1, .null, .int 0])), (q0, .inl (cI, 8, .inl (fun _ => 0))), (q1, .inl (cI, 6, .inl (fun _ => 0))), (q2, .inl (cI, 48, .inl (fun _ => 0)))] H := hP
  have hD : va_D A [(b, .inr (4, [.ref q0, .ref q1, .null, .int 0])), (q0, .inl (cI, 8, .inl (fun _ => 0))), (q1, .inl (cI, 6, .inl (fun _ => 0))), (q2, .inl (cI, 48, .inl (fun _ => 0)))] := hD
  refine W.widen (k := 3) (n := 62) (by omega) (by omega) ?_
  refine va_putF (D := D) (ci := 4) (v := .ref q2) (ty := (.array .int)) (C := RX4) (T := TX4) (N := 4) hx hb hts (by decide +kernel) tyX4 tyX4_ok nmX4 hown hK hP hD hS 0 rfl rfl 2 (by decide) (hts (.fieldLink RX4 18 "Warpyard$Waggons" "inRow" "[I") (by decide +kernel)) (fun _ h9 => h9) rfl hin rfl (by decide +kernel) rfl rfl (Nat.le_of_ble_eq_true rfl) dX4_init_25 (fun H locs hP hD hS => ?_)
  have hP : va_P D vwCl [(b, .inr (4, [.ref q0, .ref q1, .ref q2, .int 0])), (q0, .inl (cI, 8, .inl (fun _ => 0))), (q1, .inl (cI, 6, .inl (fun _ => 0))), (q2, .inl (cI, 48, .inl (fun _ => 0)))] H := hP
  have hD : va_D A [(b, .inr (4, [.ref q0, .ref q1, .ref q2, .int 0])), (q0, .inl (cI, 8, .inl (fun _ => 0))), (q1, .inl (cI, 6, .inl (fun _ => 0))), (q2, .inl (cI, 48, .inl (fun _ => 0)))] := hD
  have hP9 : va_P D vwCl ((fun g => wX4 cI cZ g) (fun k => match k with | 0 => b | 1 => q0 | 2 => q1 | 3 => q2 | _ => 0)) H := hP
  have hD9 : va_D A ((fun g => wX4 cI cZ g) (fun k => match k with | 0 => b | 1 => q0 | 2 => q1 | 3 => q2 | _ => 0)) := hD
  exact W.vret hx hb hr (fun t ht hW => ⟨⟨(fun k => match k with | 0 => b | 1 => q0 | 2 => q1 | 3 => q2 | _ => 0), rfl, rfl, by rw [ht]; exact hP9, va_K.moved hW.alike hK, hD9⟩, hS.F ht⟩) hS.2.2 dX4_init_28
set_option maxHeartbeats 4000000 in
set_option maxRecDepth 100000 in
theorem k_X5 (l : Launch) (D : va_G) (cI cZ : ClassId) (b sz : Nat) : MC l yX5_init wsX5_init ({ frames := 2, cells := 26, slots := 294, locals := 32 }) D (ty2 cI cZ) [(b, .inr (5, [.null, .null, .null, .null, .null, .null, .int 0, .int 0]))] b sz (fun g => wX cI cZ g (fun _ _ => 0)) 26 294 := by
  refine Met.ofW (cc := cX5_init) (maxL := 1) (ret := none) (by decide) rfl ?_
  intro p e s m args below meth c s₁ B hml hv
  obtain ⟨rfl, hsz, hP, hK, hD0, hNL⟩ := hv
  have hx := B.exec
  have hb := B.bytes
  have hr := B.returns
  have hts := atoms_spec (ws := wsX5_init) B.pre
  have hown : s.vm.findClass RX5 = some m.cls := findClass_of_methodNamed B.named
  have hlocks := B.notSynchronized
  have hin : meth.name = "<init>" := (name_of_methodNamed B.named B.method).1
  subst hsz
  have hD := hD0.self (sz := s.heap.size)
  generalize hAe : va_A [(b, .inr (5, [.null, .null, .null, .null, .null, .null, .int 0, .int 0]))] s.heap.size = A at hD ⊢
  have hA : ∀ q : Nat, s.heap.size ≤ q → A q := fun q h => by rw [← hAe]; exact Or.inr h
  have hS : va_S A s.heap s.heap [] := va_S.rf
  have hP : va_P D vwCl [(b, .inr (5, [.null, .null, .null, .null, .null, .null, .int 0, .int 0]))] s.heap := hP
  have hl := lv_entry ([.ref b]) (n := 1) (Nat.le_of_ble_eq_true rfl)
  rw [lg_entry_eq]
  generalize (lg_sl ([.ref b]) ++ List.replicate (1 - (lg_sl ([.ref b])).length) Slot.unset).toArray = ls at hl ⊢
  have hl : lv_has ls 1 [(0, .ref b)] := hl
  refine lv_aload_n hx hb dX5_init_0 rfl (lv_at hl 0 rfl) ?_
  refine W.objInit hx hb hown (hts (.methodLink RX5 1 objectInit) (by decide +kernel)) (hts (.instanceMethod objectInit) (by decide +kernel)) (hts (Cond.code objectInit ⟨#[0xb1]⟩ 1 none) (by decide +kernel)) rfl (by rw [hml]; exact hl.1) rfl dX5_init_1 (Nat.le_of_ble_eq_true rfl) (Nat.le_of_ble_eq_true rfl) ?_
  refine W.eq (g2 := F0 m 4 ls []) rfl ?_
  refine lv_aload_n hx hb dX5_init_4 rfl (lv_at hl 0 rfl) ?_
  have hc_0 : 0 + 1 ≤ 26 := by decide
  have hs_0 : 0 + 1 ≤ 294 := by decide
  refine va_new (ci := 2) (fs := [.null]) (C := RX2) (T := TX2) (N := 1) hx hb hts (by decide +kernel) tyX2 tyX2_ok hown (hts (.classLink RX5 7 RX2) (by decide +kernel)) (hts (.instantiable RX2 1) (by decide +kernel)) (hts (.initialized RX2) (by decide +kernel)) hK hP hD hS hA rfl (fun j hj => by rcases (show j = 0 by omega) with rfl <;> rfl) hc_0 hs_0 dX5_init_5 (fun q0 H hP hD hS => ?_)
  have hP : va_P D vwCl [(b, .inr (5, [.null, .null, .null, .null, .null, .null, .int 0, .int 0])), (q0, .inr (2, [.null]))] H := hP
  have hD : va_D A [(b, .inr (5, [.null, .null, .null, .null, .null, .null, .int 0, .int 0])), (q0, .inr (2, [.null]))] := hD
  refine W.widen (k := 1) (n := 1) (by omega) (by omega) ?_
  refine lv_dup hx hb dX5_init_8 rfl ?_
  have hkc_0 : 1 + 1 ≤ 26 := by decide
  have hks_0 : 1 + 2 ≤ 294 := by decide
  have hPc := hP.sub (ws' := [(q0, .inr (2, [.null]))]) [1] rfl
  have hDc := hD.sub (ws' := [(q0, .inr (2, [.null]))]) [1] (by decide) rfl
  have hFc := va_free (wc := [(q0, .inr (2, [.null]))]) hD hS hA [1] rfl
  refine va_callv (va_runIN (As := []) (rest := [.ref q0, .ref b]) ⟨hx, hb, hml, hown, hts⟩ (k_X2 l D cI cZ q0 H.size) ⟨va_cnB 0 hts gX5_init_X2_init_n9 rfl rfl rfl hNL.1 (hts (.initialized RX2) (by decide +kernel)) (by decide +kernel) ⟨Nat.le_of_ble_eq_true rfl, Nat.le_of_ble_eq_true rfl⟩, rfl, hts (.instanceMethod yX2_init) (by decide +kernel)⟩ ⟨fun a U g mk q => ⟨q.1, q.2.calling⟩, fun U hU hW => ⟨rfl, PC.at hPc hK hDc hNL hU hW⟩⟩ rfl rfl hl.1 rfl (lv_room (Nat.le_of_ble_eq_true rfl)) dX5_init_9 ⟨hkc_0, hks_0⟩) hS (fun q _ h => hFc q h) hFc (fun u t H1 locs ht hvm hw hB hz1 hk1 hS => ?_)
  obtain ⟨g0, rfl⟩ : ∃ z, z = u := ⟨_, rfl⟩
  obtain ⟨hP1, hK1, hD1⟩ := hB
  rw [ht] at hP1
  obtain ⟨hPn, hDn⟩ := va_join (wr := [(b, .inr (5, [.null, .null, .null, .null, .null, .null, .int 0, .int 0]))]) (w1 := [(g0 0, .inr (2, [.ref (g0 1)])), (g0 1, .inl (cZ, 2, .inl (fun _ => 0)))]) hP hD [1] [0] rfl rfl (by decide) (by decide) hk1 hFc hP1 hD1
  clear hP hD
  generalize H1 = H at hPn hS ⊢
  have hw : g0 0 = q0 := hw
  subst hw
  have hP := hPn
  have hD := hDn
  have hP : va_P D vwCl [(b, .inr (5, [.null, .null, .null, .null, .null, .null, .int 0, .int 0])), (g0 0, .inr (2, [.ref (g0 1)])), (g0 1, .inl (cZ, 2, .inl (fun _ => 0)))] H := hP
  have hD : va_D A [(b, .inr (5, [.null, .null, .null, .null, .null, .null, .int 0, .int 0])), (g0 0, .inr (2, [.ref (g0 1)])), (g0 1, .inl (cZ, 2, .inl (fun _ => 0)))] := hD
  refine W.widen (k := 2) (n := 3) (by omega) (by omega) ?_
  refine va_putF (D := D) (ci := 5) (v := .ref (g0 0)) (ty := (.object "Warpyard$Tracks")) (C := RX5) (T := TX5) (N := 8) hx hb hts (by decide +kernel) tyX5 tyX5_ok nmX5 hown hK hP hD hS 0 rfl rfl 0 (by decide) (hts (.fieldLink RX5 10 "Warpyard" "tracks" "LWarpyard$Tracks;") (by decide +kernel)) (fun _ h9 => h9) rfl hin rfl (by decide +kernel) rfl rfl (Nat.le_of_ble_eq_true rfl) dX5_init_12 (fun H locs hP hD hS => ?_)
  have hP : va_P D vwCl [(b, .inr (5, [.ref (g0 0), .null, .null, .null, .null, .null, .int 0, .int 0])), (g0 0, .inr (2, [.ref (g0 1)])), (g0 1, .inl (cZ, 2, .inl (fun _ => 0)))] H := hP
  have hD : va_D A [(b, .inr (5, [.ref (g0 0), .null, .null, .null, .null, .null, .int 0, .int 0])), (g0 0, .inr (2, [.ref (g0 1)])), (g0 1, .inl (cZ, 2, .inl (fun _ => 0)))] := hD
  refine lv_aload_n hx hb dX5_init_15 rfl (lv_at hl 0 rfl) ?_
  have hc_1 : 2 + 1 ≤ 26 := by decide
  have hs_1 : 3 + 5 ≤ 294 := by decide
  refine va_new (ci := 3) (fs := [.null, .null, .null, .null, .int 0]) (C := RX3) (T := TX3) (N := 5) hx hb hts (by decide +kernel) tyX3 tyX3_ok hown (hts (.classLink RX5 16 RX3) (by decide +kernel)) (hts (.instantiable RX3 5) (by decide +kernel)) (hts (.initialized RX3) (by decide +kernel)) hK hP hD hS hA rfl (fun j hj => by rcases (show j = 0 ∨ j = 1 ∨ j = 2 ∨ j = 3 ∨ j = 4 by omega) with rfl | rfl | rfl | rfl | rfl <;> rfl) hc_1 hs_1 dX5_init_16 (fun q1 H hP hD hS => ?_)
  have hP : va_P D vwCl [(b, .inr (5, [.ref (g0 0), .null, .null, .null, .null, .null, .int 0, .int 0])), (g0 0, .inr (2, [.ref (g0 1)])), (g0 1, .inl (cZ, 2, .inl (fun _ => 0))), (q1, .inr (3, [.null, .null, .null, .null, .int 0]))] H := hP
  have hD : va_D A [(b, .inr (5, [.ref (g0 0), .null, .null, .null, .null, .null, .int 0, .int 0])), (g0 0, .inr (2, [.ref (g0 1)])), (g0 1, .inl (cZ, 2, .inl (fun _ => 0))), (q1, .inr (3, [.null, .null, .null, .null, .int 0]))] := hD
  refine W.widen (k := 3) (n := 8) (by omega) (by omega) ?_
  refine lv_dup hx hb dX5_init_19 rfl ?_
  have hkc_1 : 3 + 4 ≤ 26 := by decide
  have hks_1 : 8 + 16 ≤ 294 := by decide
  have hPc := hP.sub (ws' := [(q1, .inr (3, [.null, .null, .null, .null, .int 0]))]) [3] rfl
  have hDc := hD.sub (ws' := [(q1, .inr (3, [.null, .null, .null, .null, .int 0]))]) [3] (by decide) rfl
  have hFc := va_free (wc := [(q1, .inr (3, [.null, .null, .null, .null, .int 0]))]) hD hS hA [3] rfl
  refine va_callv (va_runIN (As := []) (rest := [.ref q1, .ref b]) ⟨hx, hb, hml, hown, hts⟩ (k_X3 l D cI cZ q1 H.size) ⟨va_cnB 0 hts gX5_init_X3_init_n18 rfl rfl rfl hNL.2.1 (hts (.initialized RX3) (by decide +kernel)) (by decide +kernel) ⟨Nat.le_of_ble_eq_true rfl, Nat.le_of_ble_eq_true rfl⟩, rfl, hts (.instanceMethod yX3_init) (by decide +kernel)⟩ ⟨fun a U g mk q => ⟨q.1, q.2.calling⟩, fun U hU hW => ⟨rfl, PC.at hPc hK hDc hNL hU hW⟩⟩ rfl rfl hl.1 rfl (lv_room (Nat.le_of_ble_eq_true rfl)) dX5_init_20 ⟨hkc_1, hks_1⟩) hS (fun q _ h => hFc q h) hFc (fun u t H1 locs ht hvm hw hB hz1 hk1 hS => ?_)
  obtain ⟨g1, rfl⟩ : ∃ z, z = u := ⟨_, rfl⟩
  obtain ⟨hP1, hK1, hD1⟩ := hB
  rw [ht] at hP1
  obtain ⟨hPn, hDn⟩ := va_join (wr := [(b, .inr (5, [.ref (g0 0), .null, .null, .null, .null, .null, .int 0, .int 0])), (g0 0, .inr (2, [.ref (g0 1)])), (g0 1, .inl (cZ, 2, .inl (fun _ => 0)))]) (w1 := [(g1 0, .inr (3, [.ref (g1 1), .ref (g1 2), .ref (g1 3), .ref (g1 4), .int 0])), (g1 1, .inl (cI, 4, .inl (fun _ => 0))), (g1 2, .inl (cZ, 4, .inl (fun _ => 0))), (g1 3, .inl (cZ, 4, .inl (fun _ => 0))), (g1 4, .inl (cI, 4, .inl (fun _ => 0)))]) hP hD [3] [0, 1, 2] rfl rfl (by decide) (by decide) hk1 hFc hP1 hD1
  clear hP hD
  generalize H1 = H at hPn hS ⊢
  have hw : g1 0 = q1 := hw
  subst hw
  have hP := hPn
  have hD := hDn
  have hP : va_P D vwCl [(b, .inr (5, [.ref (g0 0), .null, .null, .null, .null, .null, .int 0, .int 0])), (g0 0, .inr (2, [.ref (g0 1)])), (g0 1, .inl (cZ, 2, .inl (fun _ => 0))), (g1 0, .inr (3, [.ref (g1 1), .ref (g1 2), .ref (g1 3), .ref (g1 4), .int 0])), (g1 1, .inl (cI, 4, .inl (fun _ => 0))), (g1 2, .inl (cZ, 4, .inl (fun _ => 0))), (g1 3, .inl (cZ, 4, .inl (fun _ => 0))), (g1 4, .inl (cI, 4, .inl (fun _ => 0)))] H := hP
  have hD : va_D A [(b, .inr (5, [.ref (g0 0), .null, .null, .null, .null, .null, .int 0, .int 0])), (g0 0, .inr (2, [.ref (g0 1)])), (g0 1, .inl (cZ, 2, .inl (fun _ => 0))), (g1 0, .inr (3, [.ref (g1 1), .ref (g1 2), .ref (g1 3), .ref (g1 4), .int 0])), (g1 1, .inl (cI, 4, .inl (fun _ => 0))), (g1 2, .inl (cZ, 4, .inl (fun _ => 0))), (g1 3, .inl (cZ, 4, .inl (fun _ => 0))), (g1 4, .inl (cI, 4, .inl (fun _ => 0)))] := hD
  refine W.widen (k := 7) (n := 24) (by omega) (by omega) ?_
  refine va_putF (D := D) (ci := 5) (v := .ref (g1 0)) (ty := (.object "Warpyard$Trains")) (C := RX5) (T := TX5) (N := 8) hx hb hts (by decide +kernel) tyX5 tyX5_ok nmX5 hown hK hP hD hS 0 rfl rfl 1 (by decide) (hts (.fieldLink RX5 19 "Warpyard" "trains" "LWarpyard$Trains;") (by decide +kernel)) (fun _ h9 => h9) rfl hin rfl (by decide +kernel) rfl rfl (Nat.le_of_ble_eq_true rfl) dX5_init_23 (fun H locs hP hD hS => ?_)
  have hP : va_P D vwCl [(b, .inr (5, [.ref (g0 0), .ref (g1 0), .null, .null, .null, .null, .int 0, .int 0])), (g0 0, .inr (2, [.ref (g0 1)])), (g0 1, .inl (cZ, 2, .inl (fun _ => 0))), (g1 0, .inr (3, [.ref (g1 1), .ref (g1 2), .ref (g1 3), .ref (g1 4), .int 0])), (g1 1, .inl (cI, 4, .inl (fun _ => 0))), (g1 2, .inl (cZ, 4, .inl (fun _ => 0))), (g1 3, .inl (cZ, 4, .inl (fun _ => 0))), (g1 4, .inl (cI, 4, .inl (fun _ => 0)))] H := hP
  have hD : va_D A [(b, .inr (5, [.ref (g0 0), .ref (g1 0), .null, .null, .null, .null, .int 0, .int 0])), (g0 0, .inr (2, [.ref (g0 1)])), (g0 1, .inl (cZ, 2, .inl (fun _ => 0))), (g1 0, .inr (3, [.ref (g1 1), .ref (g1 2), .ref (g1 3), .ref (g1 4), .int 0])), (g1 1, .inl (cI, 4, .inl (fun _ => 0))), (g1 2, .inl (cZ, 4, .inl (fun _ => 0))), (g1 3, .inl (cZ, 4, .inl (fun _ => 0))), (g1 4, .inl (cI, 4, .inl (fun _ => 0)))] := hD
  refine lv_aload_n hx hb dX5_init_26 rfl (lv_at hl 0 rfl) ?_
  have hc_2 : 7 + 1 ≤ 26 := by decide
  have hs_2 : 24 + 5 ≤ 294 := by decide
  refine va_new (ci := 3) (fs := [.null, .null, .null, .null, .int 0]) (C := RX3) (T := TX3) (N := 5) hx hb hts (by decide +kernel) tyX3 tyX3_ok hown (hts (.classLink RX5 16 RX3) (by decide +kernel)) (hts (.instantiable RX3 5) (by decide +kernel)) (hts (.initialized RX3) (by decide +kernel)) hK hP hD hS hA rfl (fun j hj => by rcases (show j = 0 ∨ j = 1 ∨ j = 2 ∨ j = 3 ∨ j = 4 by omega) with rfl | rfl | rfl | rfl | rfl <;> rfl) hc_2 hs_2 dX5_init_27 (fun q2 H hP hD hS => ?_)
  have hP : va_P D vwCl [(b, .inr (5, [.ref (g0 0), .ref (g1 0), .null, .null, .null, .null, .int 0, .int 0])), (g0 0, .inr (2, [.ref (g0 1)])), (g0 1, .inl (cZ, 2, .inl (fun _ => 0))), (g1 0, .inr (3, [.ref (g1 1), .ref (g1 2), .ref (g1 3), .ref (g1 4), .int 0])), (g1 1, .inl (cI, 4, .inl (fun _ => 0))), (g1 2, .inl (cZ, 4, .inl (fun _ => 0))), (g1 3, .inl (cZ, 4, .inl (fun _ => 0))), (g1 4, .inl (cI, 4, .inl (fun _ => 0))), (q2, .inr (3, [.null, .null, .null, .null, .int 0]))] H := hP
  have hD : va_D A [(b, .inr (5, [.ref (g0 0), .ref (g1 0), .null, .null, .null, .null, .int 0, .int 0])), (g0 0, .inr (2, [.ref (g0 1)])), (g0 1, .inl (cZ, 2, .inl (fun _ => 0))), (g1 0, .inr (3, [.ref (g1 1), .ref (g1 2), .ref (g1 3), .ref (g1 4), .int 0])), (g1 1, .inl (cI, 4, .inl (fun _ => 0))), (g1 2, .inl (cZ, 4, .inl (fun _ => 0))), (g1 3, .inl (cZ, 4, .inl (fun _ => 0))), (g1 4, .inl (cI, 4, .inl (fun _ => 0))), (q2, .inr (3, [.null, .null, .null, .null, .int 0]))] := hD
  refine W.widen (k := 8) (n := 29) (by omega) (by omega) ?_
  refine lv_dup hx hb dX5_init_30 rfl ?_
  have hkc_2 : 8 + 4 ≤ 26 := by decide
  have hks_2 : 29 + 16 ≤ 294 := by decide
  have hPc := hP.sub (ws' := [(q2, .inr (3, [.null, .null, .null, .null, .int 0]))]) [8] rfl
  have hDc := hD.sub (ws' := [(q2, .inr (3, [.null, .null, .null, .null, .int 0]))]) [8] (by decide) rfl
  have hFc := va_free (wc := [(q2, .inr (3, [.null, .null, .null, .null, .int 0]))]) hD hS hA [8] rfl
  refine va_callv (va_runIN (As := []) (rest := [.ref q2, .ref b]) ⟨hx, hb, hml, hown, hts⟩ (k_X3 l D cI cZ q2 H.size) ⟨va_cnB 0 hts gX5_init_X3_init_n18 rfl rfl rfl hNL.2.1 (hts (.initialized RX3) (by decide +kernel)) (by decide +kernel) ⟨Nat.le_of_ble_eq_true rfl, Nat.le_of_ble_eq_true rfl⟩, rfl, hts (.instanceMethod yX3_init) (by decide +kernel)⟩ ⟨fun a U g mk q => ⟨q.1, q.2.calling⟩, fun U hU hW => ⟨rfl, PC.at hPc hK hDc hNL hU hW⟩⟩ rfl rfl hl.1 rfl (lv_room (Nat.le_of_ble_eq_true rfl)) dX5_init_31 ⟨hkc_2, hks_2⟩) hS (fun q _ h => hFc q h) hFc (fun u t H1 locs ht hvm hw hB hz1 hk1 hS => ?_)
  obtain ⟨g2, rfl⟩ : ∃ z, z = u := ⟨_, rfl⟩
  obtain ⟨hP1, hK1, hD1⟩ := hB
  rw [ht] at hP1
  obtain ⟨hPn, hDn⟩ := va_join (wr := [(b, .inr (5, [.ref (g0 0), .ref (g1 0), .null, .null, .null, .null, .int 0, .int 0])), (g0 0, .inr (2, [.ref (g0 1)])), (g0 1, .inl (cZ, 2, .inl (fun _ => 0))), (g1 0, .inr (3, [.ref (g1 1), .ref (g1 2), .ref (g1 3), .ref (g1 4), .int 0])), (g1 1, .inl (cI, 4, .inl (fun _ => 0))), (g1 2, .inl (cZ, 4, .inl (fun _ => 0))), (g1 3, .inl (cZ, 4, .inl (fun _ => 0))), (g1 4, .inl (cI, 4, .inl (fun _ => 0)))]) (w1 := [(g2 0, .inr (3, [.ref (g2 1), .ref (g2 2), .ref (g2 3), .ref (g2 4), .int 0])), (g2 1, .inl (cI, 4, .inl (fun _ => 0))), (g2 2, .inl (cZ, 4, .inl (fun _ => 0))), (g2 3, .inl (cZ, 4, .inl (fun _ => 0))), (g2 4, .inl (cI, 4, .inl (fun _ => 0)))]) hP hD [8] [0, 1, 2, 3, 4, 5, 6, 7] rfl rfl (by decide) (by decide) hk1 hFc hP1 hD1
  clear hP hD
  generalize H1 = H at hPn hS ⊢
  have hw : g2 0 = q2 := hw
  subst hw
  have hP := hPn
  have hD := hDn
  have hP : va_P D vwCl [(b, .inr (5, [.ref (g0 0), .ref (g1 0), .null, .null, .null, .null, .int 0, .int 0])), (g0 0, .inr (2, [.ref (g0 1)])), (g0 1, .inl (cZ, 2, .inl (fun _ => 0))), (g1 0, .inr (3, [.ref (g1 1), .ref (g1 2), .ref (g1 3), .ref (g1 4), .int 0])), (g1 1, .inl (cI, 4, .inl (fun _ => 0))), (g1 2, .inl (cZ, 4, .inl (fun _ => 0))), (g1 3, .inl (cZ, 4, .inl (fun _ => 0))), (g1 4, .inl (cI, 4, .inl (fun _ => 0))), (g2 0, .inr (3, [.ref (g2 1), .ref (g2 2), .ref (g2 3), .ref (g2 4), .int 0])), (g2 1, .inl (cI, 4, .inl (fun _ => 0))), (g2 2, .inl (cZ, 4, .inl (fun _ => 0))), (g2 3, .inl (cZ, 4, .inl (fun _ => 0))), (g2 4, .inl (cI, 4, .inl (fun _ => 0)))] H := hP
  have hD : va_D A [(b, .inr (5, [.ref (g0 0), .ref (g1 0), .null, .null, .null, .null, .int 0, .int 0])), (g0 0, .inr (2, [.ref (g0 1)])), (g0 1, .inl (cZ, 2, .inl (fun _ => 0))), (g1 0, .inr (3, [.ref (g1 1), .ref (g1 2), .ref (g1 3), .ref (g1 4), .int 0])), (g1 1, .inl (cI, 4, .inl (fun _ => 0))), (g1 2, .inl (cZ, 4, .inl (fun _ => 0))), (g1 3, .inl (cZ, 4, .inl (fun _ => 0))), (g1 4, .inl (cI, 4, .inl (fun _ => 0))), (g2 0, .inr (3, [.ref (g2 1), .ref (g2 2), .ref (g2 3), .ref (g2 4), .int 0])), (g2 1, .inl (cI, 4, .inl (fun _ => 0))), (g2 2, .inl (cZ, 4, .inl (fun _ => 0))), (g2 3, .inl (cZ, 4, .inl (fun _ => 0))), (g2 4, .inl (cI, 4, .inl (fun _ => 0)))] := hD
  refine W.widen (k := 12) (n := 45) (by omega) (by omega) ?_
  refine va_putF (D := D) (ci := 5) (v := .ref (g2 0)) (ty := (.object "Warpyard$Trains")) (C := RX5) (T := TX5) (N := 8) hx hb hts (by decide +kernel) tyX5 tyX5_ok nmX5 hown hK hP hD hS 0 rfl rfl 2 (by decide) (hts (.fieldLink RX5 23 "Warpyard" "trial" "LWarpyard$Trains;") (by decide +kernel)) (fun _ h9 => h9) rfl hin rfl (by decide +kernel) rfl rfl (Nat.le_of_ble_eq_true rfl) dX5_init_34 (fun H locs hP hD hS => ?_)
  have hP : va_P D vwCl [(b, .inr (5, [.ref (g0 0), .ref (g1 0), .ref (g2 0), .null, .null, .null, .int 0, .int 0])), (g0 0, .inr (2, [.ref (g0 1)])), (g0 1, .inl (cZ, 2, .inl (fun _ => 0))), (g1 0, .inr (3, [.ref (g1 1), .ref (g1 2), .ref (g1 3), .ref (g1 4), .int 0])), (g1 1, .inl (cI, 4, .inl (fun _ => 0))), (g1 2, .inl (cZ, 4, .inl (fun _ => 0))), (g1 3, .inl (cZ, 4, .inl (fun _ => 0))), (g1 4, .inl (cI, 4, .inl (fun _ => 0))), (g2 0, .inr (3, [.ref (g2 1), .ref (g2 2), .ref (g2 3), .ref (g2 4), .int 0])), (g2 1, .inl (cI, 4, .inl (fun _ => 0))), (g2 2, .inl (cZ, 4, .inl (fun _ => 0))), (g2 3, .inl (cZ, 4, .inl (fun _ => 0))), (g2 4, .inl (cI, 4, .inl (fun _ => 0)))] H := hP
  have hD : va_D A [(b, .inr (5, [.ref (g0 0), .ref (g1 0), .ref (g2 0), .null, .null, .null, .int 0, .int 0])), (g0 0, .inr (2, [.ref (g0 1)])), (g0 1, .inl (cZ, 2, .inl (fun _ => 0))), (g1 0, .inr (3, [.ref (g1 1), .ref (g1 2), .ref (g1 3), .ref (g1 4), .int 0])), (g1 1, .inl (cI, 4, .inl (fun _ => 0))), (g1 2, .inl (cZ, 4, .inl (fun _ => 0))), (g1 3, .inl (cZ, 4, .inl (fun _ => 0))), (g1 4, .inl (cI, 4, .inl (fun _ => 0))), (g2 0, .inr (3, [.ref (g2 1), .ref (g2 2), .ref (g2 3), .ref (g2 4), .int 0])), (g2 1, .inl (cI, 4, .inl (fun _ => 0))), (g2 2, .inl (cZ, 4, .inl (fun _ => 0))), (g2 3, .inl (cZ, 4, .inl (fun _ => 0))), (g2 4, .inl (cI, 4, .inl (fun _ => 0)))] := hD
  refine lv_aload_n hx hb dX5_init_37 rfl (lv_at hl 0 rfl) ?_
  have hc_3 : 12 + 1 ≤ 26 := by decide
  have hs_3 : 45 + 6 ≤ 294 := by decide
  refine va_new (ci := 0) (fs := [.null, .null, .null, .null, .null, .int 0]) (C := RX0) (T := TX0) (N := 6) hx hb hts (by decide +kernel) tyX0 tyX0_ok hown (hts (.classLink RX5 26 RX0) (by decide +kernel)) (hts (.instantiable RX0 6) (by decide +kernel)) (hts (.initialized RX0) (by decide +kernel)) hK hP hD hS hA rfl (fun j hj => by rcases (show j = 0 ∨ j = 1 ∨ j = 2 ∨ j = 3 ∨ j = 4 ∨ j = 5 by omega) with rfl | rfl | rfl | rfl | rfl | rfl <;> rfl) hc_3 hs_3 dX5_init_38 (fun q3 H hP hD hS => ?_)
  have hP : va_P D vwCl [(b, .inr (5, [.ref (g0 0), .ref (g1 0), .ref (g2 0), .null, .null, .null, .int 0, .int 0])), (g0 0, .inr (2, [.ref (g0 1)])), (g0 1, .inl (cZ, 2, .inl (fun _ => 0))), (g1 0, .inr (3, [.ref (g1 1), .ref (g1 2), .ref (g1 3), .ref (g1 4), .int 0])), (g1 1, .inl (cI, 4, .inl (fun _ => 0))), (g1 2, .inl (cZ, 4, .inl (fun _ => 0))), (g1 3, .inl (cZ, 4, .inl (fun _ => 0))), (g1 4, .inl (cI, 4, .inl (fun _ => 0))), (g2 0, .inr (3, [.ref (g2 1), .ref (g2 2), .ref (g2 3), .ref (g2 4), .int 0])), (g2 1, .inl (cI, 4, .inl (fun _ => 0))), (g2 2, .inl (cZ, 4, .inl (fun _ => 0))), (g2 3, .inl (cZ, 4, .inl (fun _ => 0))), (g2 4, .inl (cI, 4, .inl (fun _ => 0))), (q3, .inr (0, [.null, .null, .null, .null, .null, .int 0]))] H := hP
  have hD : va_D A [(b, .inr (5, [.ref (g0 0), .ref (g1 0), .ref (g2 0), .null, .null, .null, .int 0, .int 0])), (g0 0, .inr (2, [.ref (g0 1)])), (g0 1, .inl (cZ, 2, .inl (fun _ => 0))), (g1 0, .inr (3, [.ref (g1 1), .ref (g1 2), .ref (g1 3), .ref (g1 4), .int 0])), (g1 1, .inl (cI, 4, .inl (fun _ => 0))), (g1 2, .inl (cZ, 4, .inl (fun _ => 0))), (g1 3, .inl (cZ, 4, .inl (fun _ => 0))), (g1 4, .inl (cI, 4, .inl (fun _ => 0))), (g2 0, .inr (3, [.ref (g2 1), .ref (g2 2), .ref (g2 3), .ref (g2 4), .int 0])), (g2 1, .inl (cI, 4, .inl (fun _ => 0))), (g2 2, .inl (cZ, 4, .inl (fun _ => 0))), (g2 3, .inl (cZ, 4, .inl (fun _ => 0))), (g2 4, .inl (cI, 4, .inl (fun _ => 0))), (q3, .inr (0, [.null, .null, .null, .null, .null, .int 0]))] := hD
  refine W.widen (k := 13) (n := 51) (by omega) (by omega) ?_
  refine lv_dup hx hb dX5_init_41 rfl ?_
  have hkc_3 : 13 + 5 ≤ 26 := by decide
  have hks_3 : 51 + 150 ≤ 294 := by decide
  have hPc := hP.sub (ws' := [(q3, .inr (0, [.null, .null, .null, .null, .null, .int 0]))]) [13] rfl
  have hDc := hD.sub (ws' := [(q3, .inr (0, [.null, .null, .null, .null, .null, .int 0]))]) [13] (by decide) rfl
  have hFc := va_free (wc := [(q3, .inr (0, [.null, .null, .null, .null, .null, .int 0]))]) hD hS hA [13] rfl
  refine va_callv (va_runIN (As := []) (rest := [.ref q3, .ref b]) ⟨hx, hb, hml, hown, hts⟩ (k_X0 l D cI cZ q3 H.size) ⟨va_cnB 0 hts gX5_init_X0_init_n28 rfl rfl rfl hNL.2.2.1 (hts (.initialized RX0) (by decide +kernel)) (by decide +kernel) ⟨Nat.le_of_ble_eq_true rfl, Nat.le_of_ble_eq_true rfl⟩, rfl, hts (.instanceMethod yX0_init) (by decide +kernel)⟩ ⟨fun a U g mk q => ⟨q.1, q.2.calling⟩, fun U hU hW => ⟨rfl, PC.at hPc hK hDc hNL hU hW⟩⟩ rfl rfl hl.1 rfl (lv_room (Nat.le_of_ble_eq_true rfl)) dX5_init_42 ⟨hkc_3, hks_3⟩) hS (fun q _ h => hFc q h) hFc (fun u t H1 locs ht hvm hw hB hz1 hk1 hS => ?_)
  obtain ⟨g3, rfl⟩ : ∃ z, z = u := ⟨_, rfl⟩
  obtain ⟨hP1, hK1, hD1⟩ := hB
  rw [ht] at hP1
  obtain ⟨hPn, hDn⟩ := va_join (wr := [(b, .inr (5, [.ref (g0 0), .ref (g1 0), .ref (g2 0), .null, .null, .null, .int 0, .int 0])), (g0 0, .inr (2, [.ref (g0 1)])), (g0 1, .inl (cZ, 2, .inl (fun _ => 0))), (g1 0, .inr (3, [.ref (g1 1), .ref (g1 2), .ref (g1 3), .ref (g1 4), .int 0])), (g1 1, .inl (cI, 4, .inl (fun _ => 0))), (g1 2, .inl (cZ, 4, .inl (fun _ => 0))), (g1 3, .inl (cZ, 4, .inl (fun _ => 0))), (g1 4, .inl (cI, 4, .inl (fun _ => 0))), (g2 0, .inr (3, [.ref (g2 1), .ref (g2 2), .ref (g2 3), .ref (g2 4), .int 0])), (g2 1, .inl (cI, 4, .inl (fun _ => 0))), (g2 2, .inl (cZ, 4, .inl (fun _ => 0))), (g2 3, .inl (cZ, 4, .inl (fun _ => 0))), (g2 4, .inl (cI, 4, .inl (fun _ => 0)))]) (w1 := [(g3 0, .inr (0, [.ref (g3 1), .ref (g3 2), .ref (g3 3), .ref (g3 4), .ref (g3 5), .int 0])), (g3 1, .inl (cI, 30, .inl (fun _ => 0))), (g3 2, .inl (cI, 30, .inl (fun _ => 0))), (g3 3, .inl (cI, 30, .inl (fun _ => 0))), (g3 4, .inl (cI, 30, .inl (fun _ => 0))), (g3 5, .inl (cI, 30, .inl (fun _ => 0)))]) hP hD [13] [0, 1, 2, 3, 4, 5, 6, 7, 8, 9, 10, 11, 12] rfl rfl (by decide) (by decide) hk1 hFc hP1 hD1
  clear hP hD
  generalize H1 = H at hPn hS ⊢
  have hw : g3 0 = q3 := hw
  subst hw
  have hP := hPn
  have hD := hDn
  have hP : va_P D vwCl [(b, .inr (5, [.ref (g0 0), .ref (g1 0), .ref (g2 0), .null, .null, .null, .int 0, .int 0])), (g0 0, .inr (2, [.ref (g0 1)])), (g0 1, .inl (cZ, 2, .inl (fun _ => 0))), (g1 0, .inr (3, [.ref (g1 1), .ref (g1 2), .ref (g1 3), .ref (g1 4), .int 0])), (g1 1, .inl (cI, 4, .inl (fun _ => 0))), (g1 2, .inl (cZ, 4, .inl (fun _ => 0))), (g1 3, .inl (cZ, 4, .inl (fun _ => 0))), (g1 4, .inl (cI, 4, .inl (fun _ => 0))), (g2 0, .inr (3, [.ref (g2 1), .ref (g2 2), .ref (g2 3), .ref (g2 4), .int 0])), (g2 1, .inl (cI, 4, .inl (fun _ => 0))), (g2 2, .inl (cZ, 4, .inl (fun _ => 0))), (g2 3, .inl (cZ, 4, .inl (fun _ => 0))), (g2 4, .inl (cI, 4, .inl (fun _ => 0))), (g3 0, .inr (0, [.ref (g3 1), .ref (g3 2), .ref (g3 3), .ref (g3 4), .ref (g3 5), .int 0])), (g3 1, .inl (cI, 30, .inl (fun _ => 0))), (g3 2, .inl (cI, 30, .inl (fun _ => 0))), (g3 3, .inl (cI, 30, .inl (fun _ => 0))), (g3 4, .inl (cI, 30, .inl (fun _ => 0))), (g3 5, .inl (cI, 30, .inl (fun _ => 0)))] H := hP
  have hD : va_D A [(b, .inr (5, [.ref (g0 0), .ref (g1 0), .ref (g2 0), .null, .null, .null, .int 0, .int 0])), (g0 0, .inr (2, [.ref (g0 1)])), (g0 1, .inl (cZ, 2, .inl (fun _ => 0))), (g1 0, .inr (3, [.ref (g1 1), .ref (g1 2), .ref (g1 3), .ref (g1 4), .int 0])), (g1 1, .inl (cI, 4, .inl (fun _ => 0))), (g1 2, .inl (cZ, 4, .inl (fun _ => 0))), (g1 3, .inl (cZ, 4, .inl (fun _ => 0))), (g1 4, .inl (cI, 4, .inl (fun _ => 0))), (g2 0, .inr (3, [.ref (g2 1), .ref (g2 2), .ref (g2 3), .ref (g2 4), .int 0])), (g2 1, .inl (cI, 4, .inl (fun _ => 0))), (g2 2, .inl (cZ, 4, .inl (fun _ => 0))), (g2 3, .inl (cZ, 4, .inl (fun _ => 0))), (g2 4, .inl (cI, 4, .inl (fun _ => 0))), (g3 0, .inr (0, [.ref (g3 1), .ref (g3 2), .ref (g3 3), .ref (g3 4), .ref (g3 5), .int 0])), (g3 1, .inl (cI, 30, .inl (fun _ => 0))), (g3 2, .inl (cI, 30, .inl (fun _ => 0))), (g3 3, .inl (cI, 30, .inl (fun _ => 0))), (g3 4, .inl (cI, 30, .inl (fun _ => 0))), (g3 5, .inl (cI, 30, .inl (fun _ => 0)))] := hD
  refine W.widen (k := 18) (n := 201) (by omega) (by omega) ?_
  refine va_putF (D := D) (ci := 5) (v := .ref (g3 0)) (ty := (.object "Warpyard$Bookings")) (C := RX5) (T := TX5) (N := 8) hx hb hts (by decide +kernel) tyX5 tyX5_ok nmX5 hown hK hP hD hS 0 rfl rfl 3 (by decide) (hts (.fieldLink RX5 29 "Warpyard" "bookings" "LWarpyard$Bookings;") (by decide +kernel)) (fun _ h9 => h9) rfl hin rfl (by decide +kernel) rfl rfl (Nat.le_of_ble_eq_true rfl) dX5_init_45 (fun H locs hP hD hS => ?_)
  have hP : va_P D vwCl [(b, .inr (5, [.ref (g0 0), .ref (g1 0), .ref (g2 0), .ref (g3 0), .null, .null, .int 0, .int 0])), (g0 0, .inr (2, [.ref (g0 1)])), (g0 1, .inl (cZ, 2, .inl (fun _ => 0))), (g1 0, .inr (3, [.ref (g1 1), .ref (g1 2), .ref (g1 3), .ref (g1 4), .int 0])), (g1 1, .inl (cI, 4, .inl (fun _ => 0))), (g1 2, .inl (cZ, 4, .inl (fun _ => 0))), (g1 3, .inl (cZ, 4, .inl (fun _ => 0))), (g1 4, .inl (cI, 4, .inl (fun _ => 0))), (g2 0, .inr (3, [.ref (g2 1), .ref (g2 2), .ref (g2 3), .ref (g2 4), .int 0])), (g2 1, .inl (cI, 4, .inl (fun _ => 0))), (g2 2, .inl (cZ, 4, .inl (fun _ => 0))), (g2 3, .inl (cZ, 4, .inl (fun _ => 0))), (g2 4, .inl (cI, 4, .inl (fun _ => 0))), (g3 0, .inr (0, [.ref (g3 1), .ref (g3 2), .ref (g3 3), .ref (g3 4), .ref (g3 5), .int 0])), (g3 1, .inl (cI, 30, .inl (fun _ => 0))), (g3 2, .inl (cI, 30, .inl (fun _ => 0))), (g3 3, .inl (cI, 30, .inl (fun _ => 0))), (g3 4, .inl (cI, 30, .inl (fun _ => 0))), (g3 5, .inl (cI, 30, .inl (fun _ => 0)))] H := hP
  have hD : va_D A [(b, .inr (5, [.ref (g0 0), .ref (g1 0), .ref (g2 0), .ref (g3 0), .null, .null, .int 0, .int 0])), (g0 0, .inr (2, [.ref (g0 1)])), (g0 1, .inl (cZ, 2, .inl (fun _ => 0))), (g1 0, .inr (3, [.ref (g1 1), .ref (g1 2), .ref (g1 3), .ref (g1 4), .int 0])), (g1 1, .inl (cI, 4, .inl (fun _ => 0))), (g1 2, .inl (cZ, 4, .inl (fun _ => 0))), (g1 3, .inl (cZ, 4, .inl (fun _ => 0))), (g1 4, .inl (cI, 4, .inl (fun _ => 0))), (g2 0, .inr (3, [.ref (g2 1), .ref (g2 2), .ref (g2 3), .ref (g2 4), .int 0])), (g2 1, .inl (cI, 4, .inl (fun _ => 0))), (g2 2, .inl (cZ, 4, .inl (fun _ => 0))), (g2 3, .inl (cZ, 4, .inl (fun _ => 0))), (g2 4, .inl (cI, 4, .inl (fun _ => 0))), (g3 0, .inr (0, [.ref (g3 1), .ref (g3 2), .ref (g3 3), .ref (g3 4), .ref (g3 5), .int 0])), (g3 1, .inl (cI, 30, .inl (fun _ => 0))), (g3 2, .inl (cI, 30, .inl (fun _ => 0))), (g3 3, .inl (cI, 30, .inl (fun _ => 0))), (g3 4, .inl (cI, 30, .inl (fun _ => 0))), (g3 5, .inl (cI, 30, .inl (fun _ => 0)))] := hD
  refine lv_aload_n hx hb dX5_init_48 rfl (lv_at hl 0 rfl) ?_
  have hc_4 : 18 + 1 ≤ 26 := by decide
  have hs_4 : 201 + 4 ≤ 294 := by decide
  refine va_new (ci := 4) (fs := [.null, .null, .null, .int 0]) (C := RX4) (T := TX4) (N := 4) hx hb hts (by decide +kernel) tyX4 tyX4_ok hown (hts (.classLink RX5 33 RX4) (by decide +kernel)) (hts (.instantiable RX4 4) (by decide +kernel)) (hts (.initialized RX4) (by decide +kernel)) hK hP hD hS hA rfl (fun j hj => by rcases (show j = 0 ∨ j = 1 ∨ j = 2 ∨ j = 3 by omega) with rfl | rfl | rfl | rfl <;> rfl) hc_4 hs_4 dX5_init_49 (fun q4 H hP hD hS => ?_)
  have hP : va_P D vwCl [(b, .inr (5, [.ref (g0 0), .ref (g1 0), .ref (g2 0), .ref (g3 0), .null, .null, .int 0, .int 0])), (g0 0, .inr (2, [.ref (g0 1)])), (g0 1, .inl (cZ, 2, .inl (fun _ => 0))), (g1 0, .inr (3, [.ref (g1 1), .ref (g1 2), .ref (g1 3), .ref (g1 4), .int 0])), (g1 1, .inl (cI, 4, .inl (fun _ => 0))), (g1 2, .inl (cZ, 4, .inl (fun _ => 0))), (g1 3, .inl (cZ, 4, .inl (fun _ => 0))), (g1 4, .inl (cI, 4, .inl (fun _ => 0))), (g2 0, .inr (3, [.ref (g2 1), .ref (g2 2), .ref (g2 3), .ref (g2 4), .int 0])), (g2 1, .inl (cI, 4, .inl (fun _ => 0))), (g2 2, .inl (cZ, 4, .inl (fun _ => 0))), (g2 3, .inl (cZ, 4, .inl (fun _ => 0))), (g2 4, .inl (cI, 4, .inl (fun _ => 0))), (g3 0, .inr (0, [.ref (g3 1), .ref (g3 2), .ref (g3 3), .ref (g3 4), .ref (g3 5), .int 0])), (g3 1, .inl (cI, 30, .inl (fun _ => 0))), (g3 2, .inl (cI, 30, .inl (fun _ => 0))), (g3 3, .inl (cI, 30, .inl (fun _ => 0))), (g3 4, .inl (cI, 30, .inl (fun _ => 0))), (g3 5, .inl (cI, 30, .inl (fun _ => 0))), (q4, .inr (4, [.null, .null, .null, .int 0]))] H := hP
  have hD : va_D A [(b, .inr (5, [.ref (g0 0), .ref (g1 0), .ref (g2 0), .ref (g3 0), .null, .null, .int 0, .int 0])), (g0 0, .inr (2, [.ref (g0 1)])), (g0 1, .inl (cZ, 2, .inl (fun _ => 0))), (g1 0, .inr (3, [.ref (g1 1), .ref (g1 2), .ref (g1 3), .ref (g1 4), .int 0])), (g1 1, .inl (cI, 4, .inl (fun _ => 0))), (g1 2, .inl (cZ, 4, .inl (fun _ => 0))), (g1 3, .inl (cZ, 4, .inl (fun _ => 0))), (g1 4, .inl (cI, 4, .inl (fun _ => 0))), (g2 0, .inr (3, [.ref (g2 1), .ref (g2 2), .ref (g2 3), .ref (g2 4), .int 0])), (g2 1, .inl (cI, 4, .inl (fun _ => 0))), (g2 2, .inl (cZ, 4, .inl (fun _ => 0))), (g2 3, .inl (cZ, 4, .inl (fun _ => 0))), (g2 4, .inl (cI, 4, .inl (fun _ => 0))), (g3 0, .inr (0, [.ref (g3 1), .ref (g3 2), .ref (g3 3), .ref (g3 4), .ref (g3 5), .int 0])), (g3 1, .inl (cI, 30, .inl (fun _ => 0))), (g3 2, .inl (cI, 30, .inl (fun _ => 0))), (g3 3, .inl (cI, 30, .inl (fun _ => 0))), (g3 4, .inl (cI, 30, .inl (fun _ => 0))), (g3 5, .inl (cI, 30, .inl (fun _ => 0))), (q4, .inr (4, [.null, .null, .null, .int 0]))] := hD
  refine W.widen (k := 19) (n := 205) (by omega) (by omega) ?_
  refine lv_dup hx hb dX5_init_52 rfl ?_
  have hkc_4 : 19 + 3 ≤ 26 := by decide
  have hks_4 : 205 + 62 ≤ 294 := by decide
  have hPc := hP.sub (ws' := [(q4, .inr (4, [.null, .null, .null, .int 0]))]) [19] rfl
  have hDc := hD.sub (ws' := [(q4, .inr (4, [.null, .null, .null, .int 0]))]) [19] (by decide) rfl
  have hFc := va_free (wc := [(q4, .inr (4, [.null, .null, .null, .int 0]))]) hD hS hA [19] rfl
  refine va_callv (va_runIN (As := []) (rest := [.ref q4, .ref b]) ⟨hx, hb, hml, hown, hts⟩ (k_X4 l D cI cZ q4 H.size) ⟨va_cnB 0 hts gX5_init_X4_init_n35 rfl rfl rfl hNL.2.2.2.1 (hts (.initialized RX4) (by decide +kernel)) (by decide +kernel) ⟨Nat.le_of_ble_eq_true rfl, Nat.le_of_ble_eq_true rfl⟩, rfl, hts (.instanceMethod yX4_init) (by decide +kernel)⟩ ⟨fun a U g mk q => ⟨q.1, q.2.calling⟩, fun U hU hW => ⟨rfl, PC.at hPc hK hDc hNL hU hW⟩⟩ rfl rfl hl.1 rfl (lv_room (Nat.le_of_ble_eq_true rfl)) dX5_init_53 ⟨hkc_4, hks_4⟩) hS (fun q _ h => hFc q h) hFc (fun u t H1 locs ht hvm hw hB hz1 hk1 hS => ?_)
  obtain ⟨g4, rfl⟩ : ∃ z, z = u := ⟨_, rfl⟩
  obtain ⟨hP1, hK1, hD1⟩ := hB
  rw [ht] at hP1
  obtain ⟨hPn, hDn⟩ := va_join (wr := [(b, .inr (5, [.ref (g0 0), .ref (g1 0), .ref (g2 0), .ref (g3 0), .null, .null, .int 0, .int 0])), (g0 0, .inr (2, [.ref (g0 1)])), (g0 1, .inl (cZ, 2, .inl (fun _ => 0))), (g1 0, .inr (3, [.ref (g1 1), .ref (g1 2), .ref (g1 3), .ref (g1 4), .int 0])), (g1 1, .inl (cI, 4, .inl (fun _ => 0))), (g1 2, .inl (cZ, 4, .inl (fun _ => 0))), (g1 3, .inl (cZ, 4, .inl (fun _ => 0))), (g1 4, .inl (cI, 4, .inl (fun _ => 0))), (g2 0, .inr (3, [.ref (g2 1), .ref (g2 2), .ref (g2 3), .ref (g2 4), .int 0])), (g2 1, .inl (cI, 4, .inl (fun _ => 0))), (g2 2, .inl (cZ, 4, .inl (fun _ => 0))), (g2 3, .inl (cZ, 4, .inl (fun _ => 0))), (g2 4, .inl (cI, 4, .inl (fun _ => 0))), (g3 0, .inr (0, [.ref (g3 1), .ref (g3 2), .ref (g3 3), .ref (g3 4), .ref (g3 5), .int 0])), (g3 1, .inl (cI, 30, .inl (fun _ => 0))), (g3 2, .inl (cI, 30, .inl (fun _ => 0))), (g3 3, .inl (cI, 30, .inl (fun _ => 0))), (g3 4, .inl (cI, 30, .inl (fun _ => 0))), (g3 5, .inl (cI, 30, .inl (fun _ => 0)))]) (w1 := [(g4 0, .inr (4, [.ref (g4 1), .ref (g4 2), .ref (g4 3), .int 0])), (g4 1, .inl (cI, 8, .inl (fun _ => 0))), (g4 2, .inl (cI, 6, .inl (fun _ => 0))), (g4 3, .inl (cI, 48, .inl (fun _ => 0)))]) hP hD [19] [0, 1, 2, 3, 4, 5, 6, 7, 8, 9, 10, 11, 12, 13, 14, 15, 16, 17, 18] rfl rfl (by decide) (by decide) hk1 hFc hP1 hD1
  clear hP hD
  generalize H1 = H at hPn hS ⊢
  have hw : g4 0 = q4 := hw
  subst hw
  have hP := hPn
  have hD := hDn
  have hP : va_P D vwCl [(b, .inr (5, [.ref (g0 0), .ref (g1 0), .ref (g2 0), .ref (g3 0), .null, .null, .int 0, .int 0])), (g0 0, .inr (2, [.ref (g0 1)])), (g0 1, .inl (cZ, 2, .inl (fun _ => 0))), (g1 0, .inr (3, [.ref (g1 1), .ref (g1 2), .ref (g1 3), .ref (g1 4), .int 0])), (g1 1, .inl (cI, 4, .inl (fun _ => 0))), (g1 2, .inl (cZ, 4, .inl (fun _ => 0))), (g1 3, .inl (cZ, 4, .inl (fun _ => 0))), (g1 4, .inl (cI, 4, .inl (fun _ => 0))), (g2 0, .inr (3, [.ref (g2 1), .ref (g2 2), .ref (g2 3), .ref (g2 4), .int 0])), (g2 1, .inl (cI, 4, .inl (fun _ => 0))), (g2 2, .inl (cZ, 4, .inl (fun _ => 0))), (g2 3, .inl (cZ, 4, .inl (fun _ => 0))), (g2 4, .inl (cI, 4, .inl (fun _ => 0))), (g3 0, .inr (0, [.ref (g3 1), .ref (g3 2), .ref (g3 3), .ref (g3 4), .ref (g3 5), .int 0])), (g3 1, .inl (cI, 30, .inl (fun _ => 0))), (g3 2, .inl (cI, 30, .inl (fun _ => 0))), (g3 3, .inl (cI, 30, .inl (fun _ => 0))), (g3 4, .inl (cI, 30, .inl (fun _ => 0))), (g3 5, .inl (cI, 30, .inl (fun _ => 0))), (g4 0, .inr (4, [.ref (g4 1), .ref (g4 2), .ref (g4 3), .int 0])), (g4 1, .inl (cI, 8, .inl (fun _ => 0))), (g4 2, .inl (cI, 6, .inl (fun _ => 0))), (g4 3, .inl (cI, 48, .inl (fun _ => 0)))] H := hP
  have hD : va_D A [(b, .inr (5, [.ref (g0 0), .ref (g1 0), .ref (g2 0), .ref (g3 0), .null, .null, .int 0, .int 0])), (g0 0, .inr (2, [.ref (g0 1)])), (g0 1, .inl (cZ, 2, .inl (fun _ => 0))), (g1 0, .inr (3, [.ref (g1 1), .ref (g1 2), .ref (g1 3), .ref (g1 4), .int 0])), (g1 1, .inl (cI, 4, .inl (fun _ => 0))), (g1 2, .inl (cZ, 4, .inl (fun _ => 0))), (g1 3, .inl (cZ, 4, .inl (fun _ => 0))), (g1 4, .inl (cI, 4, .inl (fun _ => 0))), (g2 0, .inr (3, [.ref (g2 1), .ref (g2 2), .ref (g2 3), .ref (g2 4), .int 0])), (g2 1, .inl (cI, 4, .inl (fun _ => 0))), (g2 2, .inl (cZ, 4, .inl (fun _ => 0))), (g2 3, .inl (cZ, 4, .inl (fun _ => 0))), (g2 4, .inl (cI, 4, .inl (fun _ => 0))), (g3 0, .inr (0, [.ref (g3 1), .ref (g3 2), .ref (g3 3), .ref (g3 4), .ref (g3 5), .int 0])), (g3 1, .inl (cI, 30, .inl (fun _ => 0))), (g3 2, .inl (cI, 30, .inl (fun _ => 0))), (g3 3, .inl (cI, 30, .inl (fun _ => 0))), (g3 4, .inl (cI, 30, .inl (fun _ => 0))), (g3 5, .inl (cI, 30, .inl (fun _ => 0))), (g4 0, .inr (4, [.ref (g4 1), .ref (g4 2), .ref (g4 3), .int 0])), (g4 1, .inl (cI, 8, .inl (fun _ => 0))), (g4 2, .inl (cI, 6, .inl (fun _ => 0))), (g4 3, .inl (cI, 48, .inl (fun _ => 0)))] := hD
  refine W.widen (k := 22) (n := 267) (by omega) (by omega) ?_
  refine va_putF (D := D) (ci := 5) (v := .ref (g4 0)) (ty := (.object "Warpyard$Waggons")) (C := RX5) (T := TX5) (N := 8) hx hb hts (by decide +kernel) tyX5 tyX5_ok nmX5 hown hK hP hD hS 0 rfl rfl 4 (by decide) (hts (.fieldLink RX5 36 "Warpyard" "waggons" "LWarpyard$Waggons;") (by decide +kernel)) (fun _ h9 => h9) rfl hin rfl (by decide +kernel) rfl rfl (Nat.le_of_ble_eq_true rfl) dX5_init_56 (fun H locs hP hD hS => ?_)
  have hP : va_P D vwCl [(b, .inr (5, [.ref (g0 0), .ref (g1 0), .ref (g2 0), .ref (g3 0), .ref (g4 0), .null, .int 0, .int 0])), (g0 0, .inr (2, [.ref (g0 1)])), (g0 1, .inl (cZ, 2, .inl (fun _ => 0))), (g1 0, .inr (3, [.ref (g1 1), .ref (g1 2), .ref (g1 3), .ref (g1 4), .int 0])), (g1 1, .inl (cI, 4, .inl (fun _ => 0))), (g1 2, .inl (cZ, 4, .inl (fun _ => 0))), (g1 3, .inl (cZ, 4, .inl (fun _ => 0))), (g1 4, .inl (cI, 4, .inl (fun _ => 0))), (g2 0, .inr (3, [.ref (g2 1), .ref (g2 2), .ref (g2 3), .ref (g2 4), .int 0])), (g2 1, .inl (cI, 4, .inl (fun _ => 0))), (g2 2, .inl (cZ, 4, .inl (fun _ => 0))), (g2 3, .inl (cZ, 4, .inl (fun _ => 0))), (g2 4, .inl (cI, 4, .inl (fun _ => 0))), (g3 0, .inr (0, [.ref (g3 1), .ref (g3 2), .ref (g3 3), .ref (g3 4), .ref (g3 5), .int 0])), (g3 1, .inl (cI, 30, .inl (fun _ => 0))), (g3 2, .inl (cI, 30, .inl (fun _ => 0))), (g3 3, .inl (cI, 30, .inl (fun _ => 0))), (g3 4, .inl (cI, 30, .inl (fun _ => 0))), (g3 5, .inl (cI, 30, .inl (fun _ => 0))), (g4 0, .inr (4, [.ref (g4 1), .ref (g4 2), .ref (g4 3), .int 0])), (g4 1, .inl (cI, 8, .inl (fun _ => 0))), (g4 2, .inl (cI, 6, .inl (fun _ => 0))), (g4 3, .inl (cI, 48, .inl (fun _ => 0)))] H := hP
  have hD : va_D A [(b, .inr (5, [.ref (g0 0), .ref (g1 0), .ref (g2 0), .ref (g3 0), .ref (g4 0), .null, .int 0, .int 0])), (g0 0, .inr (2, [.ref (g0 1)])), (g0 1, .inl (cZ, 2, .inl (fun _ => 0))), (g1 0, .inr (3, [.ref (g1 1), .ref (g1 2), .ref (g1 3), .ref (g1 4), .int 0])), (g1 1, .inl (cI, 4, .inl (fun _ => 0))), (g1 2, .inl (cZ, 4, .inl (fun _ => 0))), (g1 3, .inl (cZ, 4, .inl (fun _ => 0))), (g1 4, .inl (cI, 4, .inl (fun _ => 0))), (g2 0, .inr (3, [.ref (g2 1), .ref (g2 2), .ref (g2 3), .ref (g2 4), .int 0])), (g2 1, .inl (cI, 4, .inl (fun _ => 0))), (g2 2, .inl (cZ, 4, .inl (fun _ => 0))), (g2 3, .inl (cZ, 4, .inl (fun _ => 0))), (g2 4, .inl (cI, 4, .inl (fun _ => 0))), (g3 0, .inr (0, [.ref (g3 1), .ref (g3 2), .ref (g3 3), .ref (g3 4), .ref (g3 5), .int 0])), (g3 1, .inl (cI, 30, .inl (fun _ => 0))), (g3 2, .inl (cI, 30, .inl (fun _ => 0))), (g3 3, .inl (cI, 30, .inl (fun _ => 0))), (g3 4, .inl (cI, 30, .inl (fun _ => 0))), (g3 5, .inl (cI, 30, .inl (fun _ => 0))), (g4 0, .inr (4, [.ref (g4 1), .ref (g4 2), .ref (g4 3), .int 0])), (g4 1, .inl (cI, 8, .inl (fun _ => 0))), (g4 2, .inl (cI, 6, .inl (fun _ => 0))), (g4 3, .inl (cI, 48, .inl (fun _ => 0)))] := hD
  refine lv_aload_n hx hb dX5_init_59 rfl (lv_at hl 0 rfl) ?_
  have hc_5 : 22 + 1 ≤ 26 := by decide
  have hs_5 : 267 + 3 ≤ 294 := by decide
  refine va_new (ci := 1) (fs := [.null, .null, .null]) (C := RX1) (T := TX1) (N := 3) hx hb hts (by decide +kernel) tyX1 tyX1_ok hown (hts (.classLink RX5 40 RX1) (by decide +kernel)) (hts (.instantiable RX1 3) (by decide +kernel)) (hts (.initialized RX1) (by decide +kernel)) hK hP hD hS hA rfl (fun j hj => by rcases (show j = 0 ∨ j = 1 ∨ j = 2 by omega) with rfl | rfl | rfl <;> rfl) hc_5 hs_5 dX5_init_60 (fun q5 H hP hD hS => ?_)
  have hP : va_P D vwCl [(b, .inr (5, [.ref (g0 0), .ref (g1 0), .ref (g2 0), .ref (g3 0), .ref (g4 0), .null, .int 0, .int 0])), (g0 0, .inr (2, [.ref (g0 1)])), (g0 1, .inl (cZ, 2, .inl (fun _ => 0))), (g1 0, .inr (3, [.ref (g1 1), .ref (g1 2), .ref (g1 3), .ref (g1 4), .int 0])), (g1 1, .inl (cI, 4, .inl (fun _ => 0))), (g1 2, .inl (cZ, 4, .inl (fun _ => 0))), (g1 3, .inl (cZ, 4, .inl (fun _ => 0))), (g1 4, .inl (cI, 4, .inl (fun _ => 0))), (g2 0, .inr (3, [.ref (g2 1), .ref (g2 2), .ref (g2 3), .ref (g2 4), .int 0])), (g2 1, .inl (cI, 4, .inl (fun _ => 0))), (g2 2, .inl (cZ, 4, .inl (fun _ => 0))), (g2 3, .inl (cZ, 4, .inl (fun _ => 0))), (g2 4, .inl (cI, 4, .inl (fun _ => 0))), (g3 0, .inr (0, [.ref (g3 1), .ref (g3 2), .ref (g3 3), .ref (g3 4), .ref (g3 5), .int 0])), (g3 1, .inl (cI, 30, .inl (fun _ => 0))), (g3 2, .inl (cI, 30, .inl (fun _ => 0))), (g3 3, .inl (cI, 30, .inl (fun _ => 0))), (g3 4, .inl (cI, 30, .inl (fun _ => 0))), (g3 5, .inl (cI, 30, .inl (fun _ => 0))), (g4 0, .inr (4, [.ref (g4 1), .ref (g4 2), .ref (g4 3), .int 0])), (g4 1, .inl (cI, 8, .inl (fun _ => 0))), (g4 2, .inl (cI, 6, .inl (fun _ => 0))), (g4 3, .inl (cI, 48, .inl (fun _ => 0))), (q5, .inr (1, [.null, .null, .null]))] H := hP
  have hD : va_D A [(b, .inr (5, [.ref (g0 0), .ref (g1 0), .ref (g2 0), .ref (g3 0), .ref (g4 0), .null, .int 0, .int 0])), (g0 0, .inr (2, [.ref (g0 1)])), (g0 1, .inl (cZ, 2, .inl (fun _ => 0))), (g1 0, .inr (3, [.ref (g1 1), .ref (g1 2), .ref (g1 3), .ref (g1 4), .int 0])), (g1 1, .inl (cI, 4, .inl (fun _ => 0))), (g1 2, .inl (cZ, 4, .inl (fun _ => 0))), (g1 3, .inl (cZ, 4, .inl (fun _ => 0))), (g1 4, .inl (cI, 4, .inl (fun _ => 0))), (g2 0, .inr (3, [.ref (g2 1), .ref (g2 2), .ref (g2 3), .ref (g2 4), .int 0])), (g2 1, .inl (cI, 4, .inl (fun _ => 0))), (g2 2, .inl (cZ, 4, .inl (fun _ => 0))), (g2 3, .inl (cZ, 4, .inl (fun _ => 0))), (g2 4, .inl (cI, 4, .inl (fun _ => 0))), (g3 0, .inr (0, [.ref (g3 1), .ref (g3 2), .ref (g3 3), .ref (g3 4), .ref (g3 5), .int 0])), (g3 1, .inl (cI, 30, .inl (fun _ => 0))), (g3 2, .inl (cI, 30, .inl (fun _ => 0))), (g3 3, .inl (cI, 30, .inl (fun _ => 0))), (g3 4, .inl (cI, 30, .inl (fun _ => 0))), (g3 5, .inl (cI, 30, .inl (fun _ => 0))), (g4 0, .inr (4, [.ref (g4 1), .ref (g4 2), .ref (g4 3), .int 0])), (g4 1, .inl (cI, 8, .inl (fun _ => 0))), (g4 2, .inl (cI, 6, .inl (fun _ => 0))), (g4 3, .inl (cI, 48, .inl (fun _ => 0))), (q5, .inr (1, [.null, .null, .null]))] := hD
  refine W.widen (k := 23) (n := 270) (by omega) (by omega) ?_
  refine lv_dup hx hb dX5_init_63 rfl ?_
  have hkc_5 : 23 + 3 ≤ 26 := by decide
  have hks_5 : 270 + 24 ≤ 294 := by decide
  have hPc := hP.sub (ws' := [(q5, .inr (1, [.null, .null, .null]))]) [23] rfl
  have hDc := hD.sub (ws' := [(q5, .inr (1, [.null, .null, .null]))]) [23] (by decide) rfl
  have hFc := va_free (wc := [(q5, .inr (1, [.null, .null, .null]))]) hD hS hA [23] rfl
  refine va_callv (va_runIN (As := []) (rest := [.ref q5, .ref b]) ⟨hx, hb, hml, hown, hts⟩ (k_X1 l D cI cZ q5 H.size) ⟨va_cnB 0 hts gX5_init_X1_init_n42 rfl rfl rfl hNL.2.2.2.2 (hts (.initialized RX1) (by decide +kernel)) (by decide +kernel) ⟨Nat.le_of_ble_eq_true rfl, Nat.le_of_ble_eq_true rfl⟩, rfl, hts (.instanceMethod yX1_init) (by decide +kernel)⟩ ⟨fun a U g mk q => ⟨q.1, q.2.calling⟩, fun U hU hW => ⟨rfl, PC.at hPc hK hDc hNL hU hW⟩⟩ rfl rfl hl.1 rfl (lv_room (Nat.le_of_ble_eq_true rfl)) dX5_init_64 ⟨hkc_5, hks_5⟩) hS (fun q _ h => hFc q h) hFc (fun u t H1 locs ht hvm hw hB hz1 hk1 hS => ?_)
  obtain ⟨g5, rfl⟩ : ∃ z, z = u := ⟨_, rfl⟩
  obtain ⟨hP1, hK1, hD1⟩ := hB
  rw [ht] at hP1
  obtain ⟨hPn, hDn⟩ := va_join (wr := [(b, .inr (5, [.ref (g0 0), .ref (g1 0), .ref (g2 0), .ref (g3 0), .ref (g4 0), .null, .int 0, .int 0])), (g0 0, .inr (2, [.ref (g0 1)])), (g0 1, .inl (cZ, 2, .inl (fun _ => 0))), (g1 0, .inr (3, [.ref (g1 1), .ref (g1 2), .ref (g1 3), .ref (g1 4), .int 0])), (g1 1, .inl (cI, 4, .inl (fun _ => 0))), (g1 2, .inl (cZ, 4, .inl (fun _ => 0))), (g1 3, .inl (cZ, 4, .inl (fun _ => 0))), (g1 4, .inl (cI, 4, .inl (fun _ => 0))), (g2 0, .inr (3, [.ref (g2 1), .ref (g2 2), .ref (g2 3), .ref (g2 4), .int 0])), (g2 1, .inl (cI, 4, .inl (fun _ => 0))), (g2 2, .inl (cZ, 4, .inl (fun _ => 0))), (g2 3, .inl (cZ, 4, .inl (fun _ => 0))), (g2 4, .inl (cI, 4, .inl (fun _ => 0))), (g3 0, .inr (0, [.ref (g3 1), .ref (g3 2), .ref (g3 3), .ref (g3 4), .ref (g3 5), .int 0])), (g3 1, .inl (cI, 30, .inl (fun _ => 0))), (g3 2, .inl (cI, 30, .inl (fun _ => 0))), (g3 3, .inl (cI, 30, .inl (fun _ => 0))), (g3 4, .inl (cI, 30, .inl (fun _ => 0))), (g3 5, .inl (cI, 30, .inl (fun _ => 0))), (g4 0, .inr (4, [.ref (g4 1), .ref (g4 2), .ref (g4 3), .int 0])), (g4 1, .inl (cI, 8, .inl (fun _ => 0))), (g4 2, .inl (cI, 6, .inl (fun _ => 0))), (g4 3, .inl (cI, 48, .inl (fun _ => 0)))]) (w1 := [(g5 0, .inr (1, [.ref (g5 1), .ref (g5 2), .ref (g5 3)])), (g5 1, .inl (cI, 8, .inl (fun _ => 0))), (g5 2, .inl (cI, 8, .inl (fun _ => 0))), (g5 3, .inl (cI, 8, .inl (fun _ => 0)))]) hP hD [23] [0, 1, 2, 3, 4, 5, 6, 7, 8, 9, 10, 11, 12, 13, 14, 15, 16, 17, 18, 19, 20, 21, 22] rfl rfl (by decide) (by decide) hk1 hFc hP1 hD1
  clear hP hD
  generalize H1 = H at hPn hS ⊢
  have hw : g5 0 = q5 := hw
  subst hw
  have hP := hPn
  have hD := hDn
  have hP : va_P D vwCl [(b, .inr (5, [.ref (g0 0), .ref (g1 0), .ref (g2 0), .ref (g3 0), .ref (g4 0), .null, .int 0, .int 0])), (g0 0, .inr (2, [.ref (g0 1)])), (g0 1, .inl (cZ, 2, .inl (fun _ => 0))), (g1 0, .inr (3, [.ref (g1 1), .ref (g1 2), .ref (g1 3), .ref (g1 4), .int 0])), (g1 1, .inl (cI, 4, .inl (fun _ => 0))), (g1 2, .inl (cZ, 4, .inl (fun _ => 0))), (g1 3, .inl (cZ, 4, .inl (fun _ => 0))), (g1 4, .inl (cI, 4, .inl (fun _ => 0))), (g2 0, .inr (3, [.ref (g2 1), .ref (g2 2), .ref (g2 3), .ref (g2 4), .int 0])), (g2 1, .inl (cI, 4, .inl (fun _ => 0))), (g2 2, .inl (cZ, 4, .inl (fun _ => 0))), (g2 3, .inl (cZ, 4, .inl (fun _ => 0))), (g2 4, .inl (cI, 4, .inl (fun _ => 0))), (g3 0, .inr (0, [.ref (g3 1), .ref (g3 2), .ref (g3 3), .ref (g3 4), .ref (g3 5), .int 0])), (g3 1, .inl (cI, 30, .inl (fun _ => 0))), (g3 2, .inl (cI, 30, .inl (fun _ => 0))), (g3 3, .inl (cI, 30, .inl (fun _ => 0))), (g3 4, .inl (cI, 30, .inl (fun _ => 0))), (g3 5, .inl (cI, 30, .inl (fun _ => 0))), (g4 0, .inr (4, [.ref (g4 1), .ref (g4 2), .ref (g4 3), .int 0])), (g4 1, .inl (cI, 8, .inl (fun _ => 0))), (g4 2, .inl (cI, 6, .inl (fun _ => 0))), (g4 3, .inl (cI, 48, .inl (fun _ => 0))), (g5 0, .inr (1, [.ref (g5 1), .ref (g5 2), .ref (g5 3)])), (g5 1, .inl (cI, 8, .inl (fun _ => 0))), (g5 2, .inl (cI, 8, .inl (fun _ => 0))), (g5 3, .inl (cI, 8, .inl (fun _ => 0)))] H := hP
  have hD : va_D A [(b, .inr (5, [.ref (g0 0), .ref (g1 0), .ref (g2 0), .ref (g3 0), .ref (g4 0), .null, .int 0, .int 0])), (g0 0, .inr (2, [.ref (g0 1)])), (g0 1, .inl (cZ, 2, .inl (fun _ => 0))), (g1 0, .inr (3, [.ref (g1 1), .ref (g1 2), .ref (g1 3), .ref (g1 4), .int 0])), (g1 1, .inl (cI, 4, .inl (fun _ => 0))), (g1 2, .inl (cZ, 4, .inl (fun _ => 0))), (g1 3, .inl (cZ, 4, .inl (fun _ => 0))), (g1 4, .inl (cI, 4, .inl (fun _ => 0))), (g2 0, .inr (3, [.ref (g2 1), .ref (g2 2), .ref (g2 3), .ref (g2 4), .int 0])), (g2 1, .inl (cI, 4, .inl (fun _ => 0))), (g2 2, .inl (cZ, 4, .inl (fun _ => 0))), (g2 3, .inl (cZ, 4, .inl (fun _ => 0))), (g2 4, .inl (cI, 4, .inl (fun _ => 0))), (g3 0, .inr (0, [.ref (g3 1), .ref (g3 2), .ref (g3 3), .ref (g3 4), .ref (g3 5), .int 0])), (g3 1, .inl (cI, 30, .inl (fun _ => 0))), (g3 2, .inl (cI, 30, .inl (fun _ => 0))), (g3 3, .inl (cI, 30, .inl (fun _ => 0))), (g3 4, .inl (cI, 30, .inl (fun _ => 0))), (g3 5, .inl (cI, 30, .inl (fun _ => 0))), (g4 0, .inr (4, [.ref (g4 1), .ref (g4 2), .ref (g4 3), .int 0])), (g4 1, .inl (cI, 8, .inl (fun _ => 0))), (g4 2, .inl (cI, 6, .inl (fun _ => 0))), (g4 3, .inl (cI, 48, .inl (fun _ => 0))), (g5 0, .inr (1, [.ref (g5 1), .ref (g5 2), .ref (g5 3)])), (g5 1, .inl (cI, 8, .inl (fun _ => 0))), (g5 2, .inl (cI, 8, .inl (fun _ => 0))), (g5 3, .inl (cI, 8, .inl (fun _ => 0)))] := hD
  refine W.widen (k := 26) (n := 294) (by omega) (by omega) ?_
  refine va_putF (D := D) (ci := 5) (v := .ref (g5 0)) (ty := (.object "Warpyard$Offers")) (C := RX5) (T := TX5) (N := 8) hx hb hts (by decide +kernel) tyX5 tyX5_ok nmX5 hown hK hP hD hS 0 rfl rfl 5 (by decide) (hts (.fieldLink RX5 43 "Warpyard" "offers" "LWarpyard$Offers;") (by decide +kernel)) (fun _ h9 => h9) rfl hin rfl (by decide +kernel) rfl rfl (Nat.le_of_ble_eq_true rfl) dX5_init_67 (fun H locs hP hD hS => ?_)
  have hP : va_P D vwCl [(b, .inr (5, [.ref (g0 0), .ref (g1 0), .ref (g2 0), .ref (g3 0), .ref (g4 0), .ref (g5 0), .int 0, .int 0])), (g0 0, .inr (2, [.ref (g0 1)])), (g0 1, .inl (cZ, 2, .inl (fun _ => 0))), (g1 0, .inr (3, [.ref (g1 1), .ref (g1 2), .ref (g1 3), .ref (g1 4), .int 0])), (g1 1, .inl (cI, 4, .inl (fun _ => 0))), (g1 2, .inl (cZ, 4, .inl (fun _ => 0))), (g1 3, .inl (cZ, 4, .inl (fun _ => 0))), (g1 4, .inl (cI, 4, .inl (fun _ => 0))), (g2 0, .inr (3, [.ref (g2 1), .ref (g2 2), .ref (g2 3), .ref (g2 4), .int 0])), (g2 1, .inl (cI, 4, .inl (fun _ => 0))), (g2 2, .inl (cZ, 4, .inl (fun _ => 0))), (g2 3, .inl (cZ, 4, .inl (fun _ => 0))), (g2 4, .inl (cI, 4, .inl (fun _ => 0))), (g3 0, .inr (0, [.ref (g3 1), .ref (g3 2), .ref (g3 3), .ref (g3 4), .ref (g3 5), .int 0])), (g3 1, .inl (cI, 30, .inl (fun _ => 0))), (g3 2, .inl (cI, 30, .inl (fun _ => 0))), (g3 3, .inl (cI, 30, .inl (fun _ => 0))), (g3 4, .inl (cI, 30, .inl (fun _ => 0))), (g3 5, .inl (cI, 30, .inl (fun _ => 0))), (g4 0, .inr (4, [.ref (g4 1), .ref (g4 2), .ref (g4 3), .int 0])), (g4 1, .inl (cI, 8, .inl (fun _ => 0))), (g4 2, .inl (cI, 6, .inl (fun _ => 0))), (g4 3, .inl (cI, 48, .inl (fun _ => 0))), (g5 0, .inr (1, [.ref (g5 1), .ref (g5 2), .ref (g5 3)])), (g5 1, .inl (cI, 8, .inl (fun _ => 0))), (g5 2, .inl (cI, 8, .inl (fun _ => 0))), (g5 3, .inl (cI, 8, .inl (fun _ => 0)))] H := hP
  have hD : va_D A [(b, .inr (5, [.ref (g0 0), .ref (g1 0), .ref (g2 0), .ref (g3 0), .ref (g4 0), .ref (g5 0), .int 0, .int 0])), (g0 0, .inr (2, [.ref (g0 1)])), (g0 1, .inl (cZ, 2, .inl (fun _ => 0))), (g1 0, .inr (3, [.ref (g1 1), .ref (g1 2), .ref (g1 3), .ref (g1 4), .int 0])), (g1 1, .inl (cI, 4, .inl (fun _ => 0))), (g1 2, .inl (cZ, 4, .inl (fun _ => 0))), (g1 3, .inl (cZ, 4, .inl (fun _ => 0))), (g1 4, .inl (cI, 4, .inl (fun _ => 0))), (g2 0, .inr (3, [.ref (g2 1), .ref (g2 2), .ref (g2 3), .ref (g2 4), .int 0])), (g2 1, .inl (cI, 4, .inl (fun _ => 0))), (g2 2, .inl (cZ, 4, .inl (fun _ => 0))), (g2 3, .inl (cZ, 4, .inl (fun _ => 0))), (g2 4, .inl (cI, 4, .inl (fun _ => 0))), (g3 0, .inr (0, [.ref (g3 1), .ref (g3 2), .ref (g3 3), .ref (g3 4), .ref (g3 5), .int 0])), (g3 1, .inl (cI, 30, .inl (fun _ => 0))), (g3 2, .inl (cI, 30, .inl (fun _ => 0))), (g3 3, .inl (cI, 30, .inl (fun _ => 0))), (g3 4, .inl (cI, 30, .inl (fun _ => 0))), (g3 5, .inl (cI, 30, .inl (fun _ => 0))), (g4 0, .inr (4, [.ref (g4 1), .ref (g4 2), .ref (g4 3), .int 0])), (g4 1, .inl (cI, 8, .inl (fun _ => 0))), (g4 2, .inl (cI, 6, .inl (fun _ => 0))), (g4 3, .inl (cI, 48, .inl (fun _ => 0))), (g5 0, .inr (1, [.ref (g5 1), .ref (g5 2), .ref (g5 3)])), (g5 1, .inl (cI, 8, .inl (fun _ => 0))), (g5 2, .inl (cI, 8, .inl (fun _ => 0))), (g5 3, .inl (cI, 8, .inl (fun _ => 0)))] := hD
  have hP9 : va_P D vwCl ((fun g => wX cI cZ g (fun _ _ => 0)) (fun k => match k with | 0 => b | 1 => g0 0 | 2 => g0 1 | 3 => g1 0 | 4 => g1 1 | 5 => g1 2 | 6 => g1 3 | 7 => g1 4 | 8 => g2 0 | 9 => g2 1 | 10 => g2 2 | 11 => g2 3 | 12 => g2 4 | 13 => g3 0 | 14 => g3 1 | 15 => g3 2 | 16 => g3 3 | 17 => g3 4 | 18 => g3 5 | 19 => g4 0 | 20 => g4 1 | 21 => g4 2 | 22 => g4 3 | 23 => g5 0 | 24 => g5 1 | 25 => g5 2 | 26 => g5 3 | _ => 0)) H := hP
  have hD9 : va_D A ((fun g => wX cI cZ g (fun _ _ => 0)) (fun k => match k with | 0 => b | 1 => g0 0 | 2 => g0 1 | 3 => g1 0 | 4 => g1 1 | 5 => g1 2 | 6 => g1 3 | 7 => g1 4 | 8 => g2 0 | 9 => g2 1 | 10 => g2 2 | 11 => g2 3 | 12 => g2 4 | 13 => g3 0 | 14 => g3 1 | 15 => g3 2 | 16 => g3 3 | 17 => g3 4 | 18 => g3 5 | 19 => g4 0 | 20 => g4 1 | 21 => g4 2 | 22 => g4 3 | 23 => g5 0 | 24 => g5 1 | 25 => g5 2 | 26 => g5 3 | _ => 0)) := hD
  exact W.vret hx hb hr (fun t ht hW => ⟨⟨(fun k => match k with | 0 => b | 1 => g0 0 | 2 => g0 1 | 3 => g1 0 | 4 => g1 1 | 5 => g1 2 | 6 => g1 3 | 7 => g1 4 | 8 => g2 0 | 9 => g2 1 | 10 => g2 2 | 11 => g2 3 | 12 => g2 4 | 13 => g3 0 | 14 => g3 1 | 15 => g3 2 | 16 => g3 3 | 17 => g3 4 | 18 => g3 5 | 19 => g4 0 | 20 => g4 1 | 21 => g4 2 | 22 => g4 3 | 23 => g5 0 | 24 => g5 1 | 25 => g5 2 | 26 => g5 3 | _ => 0), rfl, rfl, by rw [ht]; exact hP9, va_K.moved hW.alike hK, hD9⟩, hS.F ht⟩) hS.2.2 dX5_init_70
