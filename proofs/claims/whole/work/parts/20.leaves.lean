set_option maxRecDepth 20000 in
theorem in_X2_rightOf_X2 : ∀ w ∈ wsX20, w ∈ wsX2_rightOf := by decide +kernel
set_option maxHeartbeats 4000000 in
set_option maxRecDepth 100000 in
/-- Tracks.rightOf: the block behind that end -/
theorem c_X2_rightOf (l : Launch) (D : va_G) (cI cZ : ClassId) (a : Nat → Nat) (sz : Nat) (σ : St) (b : Int32) (hb8 : blk b) : MI l yX2_rightOf wsX2_rightOf ({ frames := 0, cells := 0, slots := 0, locals := 0 }) D (ty2 cI cZ) (wX cI cZ a) [.ref (a 1), .int b] σ sz (fun r u => u = σ ∧ r = ahd (σ 2) b 1) := by
  refine MI.of (cc := cX2_rightOf) (maxL := 2) (by decide) rfl (Nat.le_of_ble_eq_true rfl) ?_
  intro p e s m args below meth c A H locs ls hx hb hr hml hown hts hlocks hA hS hP hK hD hl
  have hl : lv_has ls 2 [(0, .ref (a 1)), (1, .int b)] := hl
  rcases hb8 with rfl | rfl | rfl | rfl | rfl | rfl | rfl | rfl
  · skip
    refine lv_iload_n hx hb dX2_rightOf_0 rfl (lv_at hl 1 rfl) ?_
    refine lv_tableOut (tgt := 79) hx hb dX2_rightOf_1 (by decide) (by decide) ?_
    refine lv_iload_n hx hb dX2_rightOf_79 rfl (lv_at hl 1 rfl) ?_
    refine lv_iconst (v := 1) hx hb dX2_rightOf_80 (by decide) ?_
    refine lv_iadd hx hb dX2_rightOf_81 ?_
    exact MI.ret hx hb hr hlocks hK hP hD hS dX2_rightOf_82 (by refine ⟨rfl, ?_⟩; simp (decide := true) only [ahd, if_true, if_false, reduceIte])
  · skip
    refine lv_iload_n hx hb dX2_rightOf_0 rfl (lv_at hl 1 rfl) ?_
    refine lv_tableIn (off := 43) (tgt := 44) hx hb dX2_rightOf_1 (by decide) (by decide) (by decide) (by decide) ?_
    refine lv_aload_n hx hb dX2_rightOf_44 rfl (lv_at hl 0 rfl) ?_
    refine va_get (D := D) (ci := 2) (v := .ref (a 2)) (C := RX2) (T := TX2) (N := 1) hx hb hts in_X2_rightOf_X2 hown hK hP 1 rfl rfl 0 (by decide) (hts (.fieldLink RX2 9 "Warpyard$Tracks" "turned" "[Z") (by decide +kernel)) (fun _ h9 => h9) rfl dX2_rightOf_45 ?_
    refine lv_iconst (v := 0) hx hb dX2_rightOf_48 (by decide) ?_
    refine na_zald hx hb hK hP 2 1 (f := (σ 2)) rfl rfl 0 (by decide) (by decide) rfl dX2_rightOf_49 ?_
    refine lv_if_eq (tgt := 58) hx hb dX2_rightOf_50 (by decide) (fun c_50 => ?_) (fun c_50 => ?_)
    · skip
      refine lv_iconst (v := 2) hx hb dX2_rightOf_58 (by decide) ?_
      exact MI.ret hx hb hr hlocks hK hP hD hS dX2_rightOf_59 (by refine ⟨rfl, ?_⟩; simp (decide := true) only [ahd, if_true, if_false, reduceIte, c_50])
    · skip
      refine lv_bipush (v := 6) hx hb dX2_rightOf_53 (by decide) ?_
      refine lv_goto (tgt := 59) hx hb dX2_rightOf_55 (by decide) ?_
      exact MI.ret hx hb hr hlocks hK hP hD hS dX2_rightOf_59 (by refine ⟨rfl, ?_⟩; simp (decide := true) only [ahd, if_true, if_false, reduceIte, c_50])
  · skip
    refine lv_iload_n hx hb dX2_rightOf_0 rfl (lv_at hl 1 rfl) ?_
    refine lv_tableIn (off := 78) (tgt := 79) hx hb dX2_rightOf_1 (by decide) (by decide) (by decide) (by decide) ?_
    refine lv_iload_n hx hb dX2_rightOf_79 rfl (lv_at hl 1 rfl) ?_
    refine lv_iconst (v := 1) hx hb dX2_rightOf_80 (by decide) ?_
    refine lv_iadd hx hb dX2_rightOf_81 ?_
    exact MI.ret hx hb hr hlocks hK hP hD hS dX2_rightOf_82 (by refine ⟨rfl, ?_⟩; simp (decide := true) only [ahd, if_true, if_false, reduceIte])
  · skip
    refine lv_iload_n hx hb dX2_rightOf_0 rfl (lv_at hl 1 rfl) ?_
    refine lv_tableIn (off := 59) (tgt := 60) hx hb dX2_rightOf_1 (by decide) (by decide) (by decide) (by decide) ?_
    refine lv_aload_n hx hb dX2_rightOf_60 rfl (lv_at hl 0 rfl) ?_
    refine va_get (D := D) (ci := 2) (v := .ref (a 2)) (C := RX2) (T := TX2) (N := 1) hx hb hts in_X2_rightOf_X2 hown hK hP 1 rfl rfl 0 (by decide) (hts (.fieldLink RX2 9 "Warpyard$Tracks" "turned" "[Z") (by decide +kernel)) (fun _ h9 => h9) rfl dX2_rightOf_61 ?_
    refine lv_iconst (v := 1) hx hb dX2_rightOf_64 (by decide) ?_
    refine na_zald hx hb hK hP 2 1 (f := (σ 2)) rfl rfl 1 (by decide) (by decide) rfl dX2_rightOf_65 ?_
    refine lv_if_eq (tgt := 74) hx hb dX2_rightOf_66 (by decide) (fun c_66 => ?_) (fun c_66 => ?_)
    · skip
      refine lv_iconst (v := 4) hx hb dX2_rightOf_74 (by decide) ?_
      exact MI.ret hx hb hr hlocks hK hP hD hS dX2_rightOf_75 (by refine ⟨rfl, ?_⟩; simp (decide := true) only [ahd, if_true, if_false, reduceIte, c_66])
    · skip
      refine lv_bipush (v := 7) hx hb dX2_rightOf_69 (by decide) ?_
      refine lv_goto (tgt := 75) hx hb dX2_rightOf_71 (by decide) ?_
      exact MI.ret hx hb hr hlocks hK hP hD hS dX2_rightOf_75 (by refine ⟨rfl, ?_⟩; simp (decide := true) only [ahd, if_true, if_false, reduceIte, c_66])
  · skip
    refine lv_iload_n hx hb dX2_rightOf_0 rfl (lv_at hl 1 rfl) ?_
    refine lv_tableIn (off := 78) (tgt := 79) hx hb dX2_rightOf_1 (by decide) (by decide) (by decide) (by decide) ?_
    refine lv_iload_n hx hb dX2_rightOf_79 rfl (lv_at hl 1 rfl) ?_
    refine lv_iconst (v := 1) hx hb dX2_rightOf_80 (by decide) ?_
    refine lv_iadd hx hb dX2_rightOf_81 ?_
    exact MI.ret hx hb hr hlocks hK hP hD hS dX2_rightOf_82 (by refine ⟨rfl, ?_⟩; simp (decide := true) only [ahd, if_true, if_false, reduceIte])
  · skip
    refine lv_iload_n hx hb dX2_rightOf_0 rfl (lv_at hl 1 rfl) ?_
    refine lv_tableIn (off := 75) (tgt := 76) hx hb dX2_rightOf_1 (by decide) (by decide) (by decide) (by decide) ?_
    refine lv_bipush (v := (-2)) hx hb dX2_rightOf_76 (by decide) ?_
    exact MI.ret hx hb hr hlocks hK hP hD hS dX2_rightOf_78 (by refine ⟨rfl, ?_⟩; simp (decide := true) only [ahd, if_true, if_false, reduceIte])
  · skip
    refine lv_iload_n hx hb dX2_rightOf_0 rfl (lv_at hl 1 rfl) ?_
    refine lv_tableIn (off := 75) (tgt := 76) hx hb dX2_rightOf_1 (by decide) (by decide) (by decide) (by decide) ?_
    refine lv_bipush (v := (-2)) hx hb dX2_rightOf_76 (by decide) ?_
    exact MI.ret hx hb hr hlocks hK hP hD hS dX2_rightOf_78 (by refine ⟨rfl, ?_⟩; simp (decide := true) only [ahd, if_true, if_false, reduceIte])
  · skip
    refine lv_iload_n hx hb dX2_rightOf_0 rfl (lv_at hl 1 rfl) ?_
    refine lv_tableIn (off := 75) (tgt := 76) hx hb dX2_rightOf_1 (by decide) (by decide) (by decide) (by decide) ?_
    refine lv_bipush (v := (-2)) hx hb dX2_rightOf_76 (by decide) ?_
    exact MI.ret hx hb hr hlocks hK hP hD hS dX2_rightOf_78 (by refine ⟨rfl, ?_⟩; simp (decide := true) only [ahd, if_true, if_false, reduceIte])
set_option maxRecDepth 20000 in
theorem in_X2_leftOf_X2 : ∀ w ∈ wsX20, w ∈ wsX2_leftOf := by decide +kernel
set_option maxHeartbeats 4000000 in
set_option maxRecDepth 100000 in
/-- Tracks.leftOf: the block behind that end -/
theorem c_X2_leftOf (l : Launch) (D : va_G) (cI cZ : ClassId) (a : Nat → Nat) (sz : Nat) (σ : St) (b : Int32) (hb8 : blk b) : MI l yX2_leftOf wsX2_leftOf ({ frames := 0, cells := 0, slots := 0, locals := 0 }) D (ty2 cI cZ) (wX cI cZ a) [.ref (a 1), .int b] σ sz (fun r u => u = σ ∧ r = ahd (σ 2) b 0) := by
  refine MI.of (cc := cX2_leftOf) (maxL := 2) (by decide) rfl (Nat.le_of_ble_eq_true rfl) ?_
  intro p e s m args below meth c A H locs ls hx hb hr hml hown hts hlocks hA hS hP hK hD hl
  have hl : lv_has ls 2 [(0, .ref (a 1)), (1, .int b)] := hl
  rcases hb8 with rfl | rfl | rfl | rfl | rfl | rfl | rfl | rfl
  · skip
    refine lv_iload_n hx hb dX2_leftOf_0 rfl (lv_at hl 1 rfl) ?_
    refine lv_tableIn (off := 47) (tgt := 48) hx hb dX2_leftOf_1 (by decide) (by decide) (by decide) (by decide) ?_
    refine lv_bipush (v := (-2)) hx hb dX2_leftOf_48 (by decide) ?_
    exact MI.ret hx hb hr hlocks hK hP hD hS dX2_leftOf_50 (by refine ⟨rfl, ?_⟩; simp (decide := true) only [ahd, if_true, if_false, reduceIte])
  · skip
    refine lv_iload_n hx hb dX2_leftOf_0 rfl (lv_at hl 1 rfl) ?_
    refine lv_tableIn (off := 110) (tgt := 111) hx hb dX2_leftOf_1 (by decide) (by decide) (by decide) (by decide) ?_
    refine lv_iload_n hx hb dX2_leftOf_111 rfl (lv_at hl 1 rfl) ?_
    refine lv_iconst (v := 1) hx hb dX2_leftOf_112 (by decide) ?_
    refine lv_isub hx hb dX2_leftOf_113 ?_
    exact MI.ret hx hb hr hlocks hK hP hD hS dX2_leftOf_114 (by refine ⟨rfl, ?_⟩; simp (decide := true) only [ahd, if_true, if_false, reduceIte])
  · skip
    refine lv_iload_n hx hb dX2_leftOf_0 rfl (lv_at hl 1 rfl) ?_
    refine lv_tableIn (off := 50) (tgt := 51) hx hb dX2_leftOf_1 (by decide) (by decide) (by decide) (by decide) ?_
    refine lv_aload_n hx hb dX2_leftOf_51 rfl (lv_at hl 0 rfl) ?_
    refine va_get (D := D) (ci := 2) (v := .ref (a 2)) (C := RX2) (T := TX2) (N := 1) hx hb hts in_X2_leftOf_X2 hown hK hP 1 rfl rfl 0 (by decide) (hts (.fieldLink RX2 9 "Warpyard$Tracks" "turned" "[Z") (by decide +kernel)) (fun _ h9 => h9) rfl dX2_leftOf_52 ?_
    refine lv_iconst (v := 0) hx hb dX2_leftOf_55 (by decide) ?_
    refine na_zald hx hb hK hP 2 1 (f := (σ 2)) rfl rfl 0 (by decide) (by decide) rfl dX2_leftOf_56 ?_
    refine lv_if_eq (tgt := 64) hx hb dX2_leftOf_57 (by decide) (fun c_57 => ?_) (fun c_57 => ?_)
    · skip
      refine lv_iconst (v := 1) hx hb dX2_leftOf_64 (by decide) ?_
      exact MI.ret hx hb hr hlocks hK hP hD hS dX2_leftOf_65 (by refine ⟨rfl, ?_⟩; simp (decide := true) only [ahd, if_true, if_false, reduceIte, c_57])
    · skip
      refine lv_iconst (v := (-1)) hx hb dX2_leftOf_60 (by decide) ?_
      refine lv_goto (tgt := 65) hx hb dX2_leftOf_61 (by decide) ?_
      exact MI.ret hx hb hr hlocks hK hP hD hS dX2_leftOf_65 (by refine ⟨rfl, ?_⟩; simp (decide := true) only [ahd, if_true, if_false, reduceIte, c_57])
  · skip
    refine lv_iload_n hx hb dX2_leftOf_0 rfl (lv_at hl 1 rfl) ?_
    refine lv_tableIn (off := 110) (tgt := 111) hx hb dX2_leftOf_1 (by decide) (by decide) (by decide) (by decide) ?_
    refine lv_iload_n hx hb dX2_leftOf_111 rfl (lv_at hl 1 rfl) ?_
    refine lv_iconst (v := 1) hx hb dX2_leftOf_112 (by decide) ?_
    refine lv_isub hx hb dX2_leftOf_113 ?_
    exact MI.ret hx hb hr hlocks hK hP hD hS dX2_leftOf_114 (by refine ⟨rfl, ?_⟩; simp (decide := true) only [ahd, if_true, if_false, reduceIte])
  · skip
    refine lv_iload_n hx hb dX2_leftOf_0 rfl (lv_at hl 1 rfl) ?_
    refine lv_tableIn (off := 65) (tgt := 66) hx hb dX2_leftOf_1 (by decide) (by decide) (by decide) (by decide) ?_
    refine lv_aload_n hx hb dX2_leftOf_66 rfl (lv_at hl 0 rfl) ?_
    refine va_get (D := D) (ci := 2) (v := .ref (a 2)) (C := RX2) (T := TX2) (N := 1) hx hb hts in_X2_leftOf_X2 hown hK hP 1 rfl rfl 0 (by decide) (hts (.fieldLink RX2 9 "Warpyard$Tracks" "turned" "[Z") (by decide +kernel)) (fun _ h9 => h9) rfl dX2_leftOf_67 ?_
    refine lv_iconst (v := 1) hx hb dX2_leftOf_70 (by decide) ?_
    refine na_zald hx hb hK hP 2 1 (f := (σ 2)) rfl rfl 1 (by decide) (by decide) rfl dX2_leftOf_71 ?_
    refine lv_if_eq (tgt := 79) hx hb dX2_leftOf_72 (by decide) (fun c_72 => ?_) (fun c_72 => ?_)
    · skip
      refine lv_iconst (v := 3) hx hb dX2_leftOf_79 (by decide) ?_
      exact MI.ret hx hb hr hlocks hK hP hD hS dX2_leftOf_80 (by refine ⟨rfl, ?_⟩; simp (decide := true) only [ahd, if_true, if_false, reduceIte, c_72])
    · skip
      refine lv_iconst (v := (-1)) hx hb dX2_leftOf_75 (by decide) ?_
      refine lv_goto (tgt := 80) hx hb dX2_leftOf_76 (by decide) ?_
      exact MI.ret hx hb hr hlocks hK hP hD hS dX2_leftOf_80 (by refine ⟨rfl, ?_⟩; simp (decide := true) only [ahd, if_true, if_false, reduceIte, c_72])
  · skip
    refine lv_iload_n hx hb dX2_leftOf_0 rfl (lv_at hl 1 rfl) ?_
    refine lv_tableIn (off := 110) (tgt := 111) hx hb dX2_leftOf_1 (by decide) (by decide) (by decide) (by decide) ?_
    refine lv_iload_n hx hb dX2_leftOf_111 rfl (lv_at hl 1 rfl) ?_
    refine lv_iconst (v := 1) hx hb dX2_leftOf_112 (by decide) ?_
    refine lv_isub hx hb dX2_leftOf_113 ?_
    exact MI.ret hx hb hr hlocks hK hP hD hS dX2_leftOf_114 (by refine ⟨rfl, ?_⟩; simp (decide := true) only [ahd, if_true, if_false, reduceIte])
  · skip
    refine lv_iload_n hx hb dX2_leftOf_0 rfl (lv_at hl 1 rfl) ?_
    refine lv_tableIn (off := 80) (tgt := 81) hx hb dX2_leftOf_1 (by decide) (by decide) (by decide) (by decide) ?_
    refine lv_aload_n hx hb dX2_leftOf_81 rfl (lv_at hl 0 rfl) ?_
    refine va_get (D := D) (ci := 2) (v := .ref (a 2)) (C := RX2) (T := TX2) (N := 1) hx hb hts in_X2_leftOf_X2 hown hK hP 1 rfl rfl 0 (by decide) (hts (.fieldLink RX2 9 "Warpyard$Tracks" "turned" "[Z") (by decide +kernel)) (fun _ h9 => h9) rfl dX2_leftOf_82 ?_
    refine lv_iconst (v := 0) hx hb dX2_leftOf_85 (by decide) ?_
    refine na_zald hx hb hK hP 2 1 (f := (σ 2)) rfl rfl 0 (by decide) (by decide) rfl dX2_leftOf_86 ?_
    refine lv_if_eq (tgt := 94) hx hb dX2_leftOf_87 (by decide) (fun c_87 => ?_) (fun c_87 => ?_)
    · skip
      refine lv_iconst (v := (-1)) hx hb dX2_leftOf_94 (by decide) ?_
      exact MI.ret hx hb hr hlocks hK hP hD hS dX2_leftOf_95 (by refine ⟨rfl, ?_⟩; simp (decide := true) only [ahd, if_true, if_false, reduceIte, c_87])
    · skip
      refine lv_iconst (v := 1) hx hb dX2_leftOf_90 (by decide) ?_
      refine lv_goto (tgt := 95) hx hb dX2_leftOf_91 (by decide) ?_
      exact MI.ret hx hb hr hlocks hK hP hD hS dX2_leftOf_95 (by refine ⟨rfl, ?_⟩; simp (decide := true) only [ahd, if_true, if_false, reduceIte, c_87])
  · skip
    refine lv_iload_n hx hb dX2_leftOf_0 rfl (lv_at hl 1 rfl) ?_
    refine lv_tableIn (off := 95) (tgt := 96) hx hb dX2_leftOf_1 (by decide) (by decide) (by decide) (by decide) ?_
    refine lv_aload_n hx hb dX2_leftOf_96 rfl (lv_at hl 0 rfl) ?_
    refine va_get (D := D) (ci := 2) (v := .ref (a 2)) (C := RX2) (T := TX2) (N := 1) hx hb hts in_X2_leftOf_X2 hown hK hP 1 rfl rfl 0 (by decide) (hts (.fieldLink RX2 9 "Warpyard$Tracks" "turned" "[Z") (by decide +kernel)) (fun _ h9 => h9) rfl dX2_leftOf_97 ?_
    refine lv_iconst (v := 1) hx hb dX2_leftOf_100 (by decide) ?_
    refine na_zald hx hb hK hP 2 1 (f := (σ 2)) rfl rfl 1 (by decide) (by decide) rfl dX2_leftOf_101 ?_
    refine lv_if_eq (tgt := 109) hx hb dX2_leftOf_102 (by decide) (fun c_102 => ?_) (fun c_102 => ?_)
    · skip
      refine lv_iconst (v := (-1)) hx hb dX2_leftOf_109 (by decide) ?_
      exact MI.ret hx hb hr hlocks hK hP hD hS dX2_leftOf_110 (by refine ⟨rfl, ?_⟩; simp (decide := true) only [ahd, if_true, if_false, reduceIte, c_102])
    · skip
      refine lv_iconst (v := 3) hx hb dX2_leftOf_105 (by decide) ?_
      refine lv_goto (tgt := 110) hx hb dX2_leftOf_106 (by decide) ?_
      exact MI.ret hx hb hr hlocks hK hP hD hS dX2_leftOf_110 (by refine ⟨rfl, ?_⟩; simp (decide := true) only [ahd, if_true, if_false, reduceIte, c_102])
set_option maxHeartbeats 4000000 in
set_option maxRecDepth 100000 in
/-- Tracks.ahead: the block behind the end to which it heads -/
theorem c_X2_ahead (l : Launch) (D : va_G) (cI cZ : ClassId) (a : Nat → Nat) (sz : Nat) (σ : St) (b rt : Int32) (hb8 : blk b) : MI l yX2_ahead wsX2_ahead ({ frames := 1, cells := 0, slots := 0, locals := 21 }) D (ty2 cI cZ) (wX cI cZ a) [.ref (a 1), .int b, .int rt] σ sz (fun r u => u = σ ∧ r = ahd (σ 2) b rt) := by
  refine MI.of (cc := cX2_ahead) (maxL := 3) (by decide) rfl (Nat.le_of_ble_eq_true rfl) ?_
  intro p e s m args below meth c A H locs ls hx hb hr hml hown hts hlocks hA hS hP hK hD hl
  have hl : lv_has ls 3 [(0, .ref (a 1)), (1, .int b), (2, .int rt)] := hl
  refine lv_iload_n hx hb dX2_ahead_0 rfl (lv_at hl 2 rfl) ?_
  refine lv_if_eq (tgt := 12) hx hb dX2_ahead_1 (by decide) (fun c_1 => ?_) (fun c_1 => ?_)
  · skip
    refine lv_aload_n hx hb dX2_ahead_12 rfl (lv_at hl 0 rfl) ?_
    refine lv_iload_n hx hb dX2_ahead_13 rfl (lv_at hl 1 rfl) ?_
    refine MI.callV (As := [.int b]) (rest := []) ⟨hx, hb, hml, hown, hts⟩ (c_X2_leftOf l D cI cZ a H.size σ b hb8) (cwV 1 hts gX2_ahead_X2_leftOf rfl rfl rfl (by decide +kernel) ⟨Nat.le_of_ble_eq_true rfl, Nat.le_of_ble_eq_true rfl⟩) hP hK hD hS hA (va_recv hK hP (ci := 2) (q0 := 1) rfl rfl) rfl hl.1 (Nat.le_of_ble_eq_true rfl) (Nat.zero_le _) (Nat.zero_le _) dX2_ahead_14 rfl (fun r_14 u_14 H locs h_14 hP hD hS => ?_)
    obtain ⟨e_14, h_14⟩ := h_14
    have e_14 := Eq.symm e_14
    subst e_14
    have h_14 : r_14 = ahd (σ 2) b 0 := h_14
    exact MI.ret hx hb hr hlocks hK hP hD hS dX2_ahead_17 (by refine ⟨rfl, ?_⟩; rw [h_14, c_1])
  · skip
    refine lv_aload_n hx hb dX2_ahead_4 rfl (lv_at hl 0 rfl) ?_
    refine lv_iload_n hx hb dX2_ahead_5 rfl (lv_at hl 1 rfl) ?_
    refine MI.callV (As := [.int b]) (rest := []) ⟨hx, hb, hml, hown, hts⟩ (c_X2_rightOf l D cI cZ a H.size σ b hb8) (cwV 1 hts gX2_ahead_X2_rightOf rfl rfl rfl (by decide +kernel) ⟨Nat.le_of_ble_eq_true rfl, Nat.le_of_ble_eq_true rfl⟩) hP hK hD hS hA (va_recv hK hP (ci := 2) (q0 := 1) rfl rfl) rfl hl.1 (Nat.le_of_ble_eq_true rfl) (Nat.zero_le _) (Nat.zero_le _) dX2_ahead_6 rfl (fun r_6 u_6 H locs h_6 hP hD hS => ?_)
    obtain ⟨e_6, h_6⟩ := h_6
    have e_6 := Eq.symm e_6
    subst e_6
    have h_6 : r_6 = ahd (σ 2) b 1 := h_6
    refine lv_goto (tgt := 17) hx hb dX2_ahead_9 (by decide) ?_
    exact MI.ret hx hb hr hlocks hK hP hD hS dX2_ahead_17 (by refine ⟨rfl, ?_⟩; rw [h_6]; simp (decide := true) only [ahd, c_1, if_false])
set_option maxRecDepth 20000 in
theorem in_X2_turn_X2 : ∀ w ∈ wsX20, w ∈ wsX2_turn := by decide +kernel
set_option maxHeartbeats 4000000 in
set_option maxRecDepth 100000 in
/-- Tracks.turn: throws a switch -/
theorem c_X2_turn (l : Launch) (D : va_G) (cI cZ : ClassId) (a : Nat → Nat) (sz : Nat) (σ : St) (k : Nat) (hk : k < 2) : MI l yX2_turn wsX2_turn ({ frames := 0, cells := 0, slots := 0, locals := 0 }) D (ty2 cI cZ) (wX cI cZ a) [.ref (a 1), .int (nI k)] σ sz (fun r u => u = (va_up σ 2 (upd (σ 2) k (fl (σ 2 k)))) ∧ r = fl (σ 2 k)) := by
  refine MI.of (cc := cX2_turn) (maxL := 2) (by decide) rfl (Nat.le_of_ble_eq_true rfl) ?_
  intro p e s m args below meth c A H locs ls hx hb hr hml hown hts hlocks hA hS hP hK hD hl
  have hl : lv_has ls 2 [(0, .ref (a 1)), (1, .int (nI k))] := hl
  refine lv_aload_n hx hb dX2_turn_0 rfl (lv_at hl 0 rfl) ?_
  refine va_get (D := D) (ci := 2) (v := .ref (a 2)) (C := RX2) (T := TX2) (N := 1) hx hb hts in_X2_turn_X2 hown hK hP 1 rfl rfl 0 (by decide) (hts (.fieldLink RX2 9 "Warpyard$Tracks" "turned" "[Z") (by decide +kernel)) (fun _ h9 => h9) rfl dX2_turn_1 ?_
  refine lv_iload_n hx hb dX2_turn_4 rfl (lv_at hl 1 rfl) ?_
  refine lv_aload_n hx hb dX2_turn_5 rfl (lv_at hl 0 rfl) ?_
  refine va_get (D := D) (ci := 2) (v := .ref (a 2)) (C := RX2) (T := TX2) (N := 1) hx hb hts in_X2_turn_X2 hown hK hP 1 rfl rfl 0 (by decide) (hts (.fieldLink RX2 9 "Warpyard$Tracks" "turned" "[Z") (by decide +kernel)) (fun _ h9 => h9) rfl dX2_turn_6 ?_
  refine lv_iload_n hx hb dX2_turn_9 rfl (lv_at hl 1 rfl) ?_
  refine na_zald hx hb hK hP 2 1 (f := (σ 2)) rfl rfl k (by omega) (by decide) rfl dX2_turn_10 ?_
  refine lv_if_ne (tgt := 18) hx hb dX2_turn_11 (by decide) (fun c_11 => ?_) (fun c_11 => ?_)
  · skip
    refine lv_iconst (v := 0) hx hb dX2_turn_18 (by decide) ?_
    refine na_zast hx hb hK hP hD hS 2 1 (f := (σ 2)) (x := 0) rfl rfl k (by omega) (by decide) rfl (Or.inl rfl) dX2_turn_19 (fun H locs hP hD hS => ?_)
    have hP : va_P D vwCl (wX cI cZ a (va_up σ 2 (upd (σ 2) k 0))) H := hP
    have hD : va_D A (wX cI cZ a (va_up σ 2 (upd (σ 2) k 0))) := hD
    refine lv_aload_n hx hb dX2_turn_20 rfl (lv_at hl 0 rfl) ?_
    refine va_get (D := D) (ci := 2) (v := .ref (a 2)) (C := RX2) (T := TX2) (N := 1) hx hb hts in_X2_turn_X2 hown hK hP 1 rfl rfl 0 (by decide) (hts (.fieldLink RX2 9 "Warpyard$Tracks" "turned" "[Z") (by decide +kernel)) (fun _ h9 => h9) rfl dX2_turn_21 ?_
    refine lv_iload_n hx hb dX2_turn_24 rfl (lv_at hl 1 rfl) ?_
    refine na_zald hx hb hK hP 2 1 (f := (upd (σ 2) k 0)) rfl rfl k (by omega) (by decide) rfl dX2_turn_25 ?_
    exact MI.zret hx hb hr hlocks hK hP hD hS dX2_turn_26 (nar_b (by rw [pk_us]; decide)) (by rw [fl_1 c_11]; exact ⟨rfl, pk_us⟩)
  · skip
    refine lv_iconst (v := 1) hx hb dX2_turn_14 (by decide) ?_
    refine lv_goto (tgt := 19) hx hb dX2_turn_15 (by decide) ?_
    refine na_zast hx hb hK hP hD hS 2 1 (f := (σ 2)) (x := 1) rfl rfl k (by omega) (by decide) rfl (Or.inr rfl) dX2_turn_19 (fun H locs hP hD hS => ?_)
    have hP : va_P D vwCl (wX cI cZ a (va_up σ 2 (upd (σ 2) k 1))) H := hP
    have hD : va_D A (wX cI cZ a (va_up σ 2 (upd (σ 2) k 1))) := hD
    refine lv_aload_n hx hb dX2_turn_20 rfl (lv_at hl 0 rfl) ?_
    refine va_get (D := D) (ci := 2) (v := .ref (a 2)) (C := RX2) (T := TX2) (N := 1) hx hb hts in_X2_turn_X2 hown hK hP 1 rfl rfl 0 (by decide) (hts (.fieldLink RX2 9 "Warpyard$Tracks" "turned" "[Z") (by decide +kernel)) (fun _ h9 => h9) rfl dX2_turn_21 ?_
    refine lv_iload_n hx hb dX2_turn_24 rfl (lv_at hl 1 rfl) ?_
    refine na_zald hx hb hK hP 2 1 (f := (upd (σ 2) k 1)) rfl rfl k (by omega) (by decide) rfl dX2_turn_25 ?_
    exact MI.zret hx hb hr hlocks hK hP hD hS dX2_turn_26 (nar_b (by rw [pk_us]; decide)) (by rw [fl_0 c_11]; exact ⟨rfl, pk_us⟩)
set_option maxRecDepth 20000 in
theorem in_X0_isIn_X0 : ∀ w ∈ wsX00, w ∈ wsX0_isIn := by decide +kernel
set_option maxHeartbeats 4000000 in
set_option maxRecDepth 100000 in
/-- Bookings.isIn -/
theorem c_X0_isIn (l : Launch) (D : va_G) (cI cZ : ClassId) (a : Nat → Nat) (sz : Nat) (σ : St) (k : Nat) (mi : Int32) (hk : k < 30) : MI l yX0_isIn wsX0_isIn ({ frames := 0, cells := 0, slots := 0, locals := 0 }) D (ty2 cI cZ) (wX cI cZ a) [.ref (a 13), .int (nI k), .int mi] σ sz (fun r u => u = σ ∧ bo r (inR mi (σ 16 k) (σ 17 k))) := by
  refine MI.of (cc := cX0_isIn) (maxL := 3) (by decide) rfl (Nat.le_of_ble_eq_true rfl) ?_
  intro p e s m args below meth c A H locs ls hx hb hr hml hown hts hlocks hA hS hP hK hD hl
  have hl : lv_has ls 3 [(0, .ref (a 13)), (1, .int (nI k)), (2, .int mi)] := hl
  refine lv_aload_n hx hb dX0_isIn_0 rfl (lv_at hl 0 rfl) ?_
  refine va_get (D := D) (ci := 0) (v := .ref (a 16)) (C := RX0) (T := TX0) (N := 6) hx hb hts in_X0_isIn_X0 hown hK hP 13 rfl rfl 2 (by decide) (hts (.fieldLink RX0 18 "Warpyard$Bookings" "first" "[I") (by decide +kernel)) (fun _ h9 => h9) rfl dX0_isIn_1 ?_
  refine lv_iload_n hx hb dX0_isIn_4 rfl (lv_at hl 1 rfl) ?_
  refine na_iald hx hb hK hP 16 0 (f := (σ 16)) rfl rfl k (by omega) (by decide) rfl dX0_isIn_5 ?_
  refine lv_iload_n hx hb dX0_isIn_6 rfl (lv_at hl 2 rfl) ?_
  refine lv_icmp_gt (tgt := 24) hx hb dX0_isIn_7 (by decide) (fun c_7 => ?_) (fun c_7 => ?_)
  · skip
    refine lv_iconst (v := 0) hx hb dX0_isIn_24 (by decide) ?_
    exact MI.zret hx hb hr hlocks hK hP hD hS dX0_isIn_25 rfl (by exact ⟨rfl, Or.inr ⟨rfl, fun h => h.1 c_7⟩⟩)
  · skip
    refine lv_iload_n hx hb dX0_isIn_10 rfl (lv_at hl 2 rfl) ?_
    refine lv_aload_n hx hb dX0_isIn_11 rfl (lv_at hl 0 rfl) ?_
    refine va_get (D := D) (ci := 0) (v := .ref (a 17)) (C := RX0) (T := TX0) (N := 6) hx hb hts in_X0_isIn_X0 hown hK hP 13 rfl rfl 3 (by decide) (hts (.fieldLink RX0 21 "Warpyard$Bookings" "last" "[I") (by decide +kernel)) (fun _ h9 => h9) rfl dX0_isIn_12 ?_
    refine lv_iload_n hx hb dX0_isIn_15 rfl (lv_at hl 1 rfl) ?_
    refine na_iald hx hb hK hP 17 0 (f := (σ 17)) rfl rfl k (by omega) (by decide) rfl dX0_isIn_16 ?_
    refine lv_icmp_gt (tgt := 24) hx hb dX0_isIn_17 (by decide) (fun c_17 => ?_) (fun c_17 => ?_)
    · skip
      refine lv_iconst (v := 0) hx hb dX0_isIn_24 (by decide) ?_
      exact MI.zret hx hb hr hlocks hK hP hD hS dX0_isIn_25 rfl (by exact ⟨rfl, Or.inr ⟨rfl, fun h => h.2 c_17⟩⟩)
    · skip
      refine lv_iconst (v := 1) hx hb dX0_isIn_20 (by decide) ?_
      refine lv_goto (tgt := 25) hx hb dX0_isIn_21 (by decide) ?_
      exact MI.zret hx hb hr hlocks hK hP hD hS dX0_isIn_25 rfl (by exact ⟨rfl, Or.inl ⟨rfl, c_7, c_17⟩⟩)
set_option maxRecDepth 20000 in
theorem in_X0_isForAnother_X0 : ∀ w ∈ wsX00, w ∈ wsX0_isForAnother := by decide +kernel
set_option maxHeartbeats 4000000 in
set_option maxRecDepth 100000 in
/-- Bookings.isForAnother -/
theorem c_X0_isForAnother (l : Launch) (D : va_G) (cI cZ : ClassId) (a : Nat → Nat) (sz : Nat) (σ : St) (t b mi : Int32) (nb : Nat) (hnb : σ 13 0 = nI nb) (hnb30 : nb ≤ 30) : MI l yX0_isForAnother wsX0_isForAnother ({ frames := 1, cells := 0, slots := 0, locals := 22 }) D (ty2 cI cZ) (wX cI cZ a) [.ref (a 13), .int t, .int b, .int mi] σ sz (fun r u => u = σ ∧ bo r (mts (σ 14) (σ 15) (σ 16) (σ 17) nb t b mi mi)) := by
  refine MI.of (cc := cX0_isForAnother) (maxL := 5) (by decide) rfl (Nat.le_of_ble_eq_true rfl) ?_
  intro p e s m args below meth c A H locs ls hx hb hr hml hown hts hlocks hA hS hP hK hD hl
  have hl : lv_has ls 5 [(0, .ref (a 13)), (1, .int t), (2, .int b), (3, .int mi)] := hl
  refine lv_iconst (v := 0) hx hb dX0_isForAnother_0 (by decide) ?_
  refine lv_istore (lv' := [(4, .int 0), (0, .ref (a 13)), (1, .int t), (2, .int b), (3, .int mi)]) hx hb dX0_isForAnother_1 hl (by decide) rfl (fun ls hl => ?_)
  have loop_3 : ∀ (f : Nat) (k : Nat) (H : Heap) (locs : List Loc) (ls : Array Slot), nb < k + f → k ≤ nb → (∀ i, i < k → ¬ (σ 15 i = b ∧ ¬ σ 14 i = t ∧ inR mi (σ 16 i) (σ 17 i))) → va_P D vwCl (wX cI cZ a σ) H → va_D A (wX cI cZ a σ) → va_S A s.heap H locs → lv_has ls 5 [(0, .ref (a 13)), (1, .int t), (2, .int b), (3, .int mi), (4, .int (nI k))] → W p l e { frames := 1, cells := 0, slots := 0, locals := 22 } s m args below meth c H locs 0 0 (MQ below (va_Qi (fun r u => u = σ ∧ bo r (mts (σ 14) (σ 15) (σ 16) (σ 17) nb t b mi mi)) (PO D (ty2 cI cZ) (wX cI cZ a) A) A) args s 0 0 A) (F0 m 3 ls []) := by
    intro f
    induction f with
    | zero => intro k H locs ls hf hk hno; exact absurd hf (by omega)
    | succ f ih =>
      intro k H locs ls hf hk hno hP hD hS hl
      refine lv_iload hx hb dX0_isForAnother_3 (lv_at hl 4 rfl) ?_
      refine lv_aload_n hx hb dX0_isForAnother_5 rfl (lv_at hl 0 rfl) ?_
      refine va_get (D := D) (ci := 0) (v := .int (σ 13 0)) (C := RX0) (T := TX0) (N := 6) hx hb hts in_X0_isForAnother_X0 hown hK hP 13 rfl rfl 5 (by decide) (hts (.fieldLink RX0 27 "Warpyard$Bookings" "count" "I") (by decide +kernel)) (fun _ h9 => h9) rfl dX0_isForAnother_6 ?_
      refine lv_topi (fun v_9 e_9 => ?_)
      obtain rfl : v_9 = nI nb := by rw [e_9]; exact hnb
      refine lv_icmp_ge (tgt := 52) hx hb dX0_isForAnother_9 (by decide) (fun c_9 => ?_) (fun c_9 => ?_)
      · skip
        rw [nI_leI (by omega) (by omega)] at c_9
        refine lv_iconst (v := 0) hx hb dX0_isForAnother_52 (by decide) ?_
        exact MI.zret hx hb hr hlocks hK hP hD hS dX0_isForAnother_53 rfl (by exact ⟨rfl, Or.inr ⟨rfl, fun ⟨i, hi, h1, h2, h3⟩ => hno i (by omega) ⟨h1, h2, h3⟩⟩⟩)
      · skip
        rw [nI_leI (by omega) (by omega)] at c_9
        refine lv_aload_n hx hb dX0_isForAnother_12 rfl (lv_at hl 0 rfl) ?_
        refine va_get (D := D) (ci := 0) (v := .ref (a 15)) (C := RX0) (T := TX0) (N := 6) hx hb hts in_X0_isForAnother_X0 hown hK hP 13 rfl rfl 1 (by decide) (hts (.fieldLink RX0 15 "Warpyard$Bookings" "block" "[I") (by decide +kernel)) (fun _ h9 => h9) rfl dX0_isForAnother_13 ?_
        refine lv_iload hx hb dX0_isForAnother_16 (lv_at hl 4 rfl) ?_
        refine na_iald hx hb hK hP 15 0 (f := (σ 15)) rfl rfl k (by omega) (by decide) rfl dX0_isForAnother_18 ?_
        refine lv_iload_n hx hb dX0_isForAnother_19 rfl (lv_at hl 2 rfl) ?_
        refine lv_icmp_ne (tgt := 46) hx hb dX0_isForAnother_20 (by decide) (fun c_20 => ?_) (fun c_20 => ?_)
        · skip
          refine lv_iinc (v := nI (k + 1)) (lv' := [(4, .int (nI (k + 1))), (0, .ref (a 13)), (1, .int t), (2, .int b), (3, .int mi)]) hx hb dX0_isForAnother_46 hl (k := 4) rfl (by exact nI_1 k) (by decide) rfl (fun ls hl => ?_)
          refine lv_goto (tgt := 3) hx hb dX0_isForAnother_49 (by decide) ?_
          exact ih (k + 1) _ _ ls (by omega) (by omega) (by exact lt_s hno (fun h => c_20 h.1)) hP hD hS (lv_sub hl [1, 2, 3, 4, 0] rfl)
        · skip
          refine lv_aload_n hx hb dX0_isForAnother_23 rfl (lv_at hl 0 rfl) ?_
          refine va_get (D := D) (ci := 0) (v := .ref (a 14)) (C := RX0) (T := TX0) (N := 6) hx hb hts in_X0_isForAnother_X0 hown hK hP 13 rfl rfl 0 (by decide) (hts (.fieldLink RX0 9 "Warpyard$Bookings" "train" "[I") (by decide +kernel)) (fun _ h9 => h9) rfl dX0_isForAnother_24 ?_
          refine lv_iload hx hb dX0_isForAnother_27 (lv_at hl 4 rfl) ?_
          refine na_iald hx hb hK hP 14 0 (f := (σ 14)) rfl rfl k (by omega) (by decide) rfl dX0_isForAnother_29 ?_
          refine lv_iload_n hx hb dX0_isForAnother_30 rfl (lv_at hl 1 rfl) ?_
          refine lv_icmp_eq (tgt := 46) hx hb dX0_isForAnother_31 (by decide) (fun c_31 => ?_) (fun c_31 => ?_)
          · skip
            refine lv_iinc (v := nI (k + 1)) (lv' := [(4, .int (nI (k + 1))), (0, .ref (a 13)), (1, .int t), (2, .int b), (3, .int mi)]) hx hb dX0_isForAnother_46 hl (k := 4) rfl (by exact nI_1 k) (by decide) rfl (fun ls hl => ?_)
            refine lv_goto (tgt := 3) hx hb dX0_isForAnother_49 (by decide) ?_
            exact ih (k + 1) _ _ ls (by omega) (by omega) (by exact lt_s hno (fun h => h.2.1 c_31)) hP hD hS (lv_sub hl [1, 2, 3, 4, 0] rfl)
          · skip
            refine lv_aload_n hx hb dX0_isForAnother_34 rfl (lv_at hl 0 rfl) ?_
            refine lv_iload hx hb dX0_isForAnother_35 (lv_at hl 4 rfl) ?_
            refine lv_iload_n hx hb dX0_isForAnother_37 rfl (lv_at hl 3 rfl) ?_
            refine MI.callV (As := [.int (nI k), .int mi]) (rest := []) ⟨hx, hb, hml, hown, hts⟩ (c_X0_isIn l D cI cZ a H.size σ k mi (by omega)) (cwV 2 hts gX0_isForAnother_X0_isIn rfl rfl rfl (by decide +kernel) ⟨Nat.le_of_ble_eq_true rfl, Nat.le_of_ble_eq_true rfl⟩) hP hK hD hS hA (va_recv hK hP (ci := 0) (q0 := 13) rfl rfl) rfl hl.1 (Nat.le_of_ble_eq_true rfl) (Nat.zero_le _) (Nat.zero_le _) dX0_isForAnother_38 rfl (fun r_38 u_38 H locs h_38 hP hD hS => ?_)
            rcases h_38 with ⟨e_38, ⟨rfl, h_38⟩ | ⟨rfl, h_38⟩⟩
            · skip
              have e_38 := Eq.symm e_38
              subst e_38
              have h_38 : inR mi ((σ 16) k) ((σ 17) k) := h_38
              refine lv_if_eq (tgt := 46) hx hb dX0_isForAnother_41 (by decide) (fun c9 => absurd c9 (by decide)) (fun _ => ?_)
              refine lv_iconst (v := 1) hx hb dX0_isForAnother_44 (by decide) ?_
              exact MI.zret hx hb hr hlocks hK hP hD hS dX0_isForAnother_45 rfl (by exact ⟨rfl, Or.inl ⟨rfl, k, by omega, c_20, c_31, h_38.1, h_38.2⟩⟩)
            · skip
              have e_38 := Eq.symm e_38
              subst e_38
              have h_38 : ¬ inR mi ((σ 16) k) ((σ 17) k) := h_38
              refine lv_if_eq (tgt := 46) hx hb dX0_isForAnother_41 (by decide) (fun _ => ?_) (fun c9 => absurd (by decide) c9)
              refine lv_iinc (v := nI (k + 1)) (lv' := [(4, .int (nI (k + 1))), (0, .ref (a 13)), (1, .int t), (2, .int b), (3, .int mi)]) hx hb dX0_isForAnother_46 hl (k := 4) rfl (by exact nI_1 k) (by decide) rfl (fun ls hl => ?_)
              refine lv_goto (tgt := 3) hx hb dX0_isForAnother_49 (by decide) ?_
              exact ih (k + 1) _ _ ls (by omega) (by omega) (by exact lt_s hno (fun h => h_38 h.2.2)) hP hD hS (lv_sub hl [1, 2, 3, 4, 0] rfl)
  exact loop_3 (nb + 1) 0 _ _ ls (by omega) (by omega) (by intro i hi; omega) hP hD hS (lv_sub hl [1, 2, 3, 4, 0] rfl)
set_option maxRecDepth 20000 in
theorem in_X0_meetsAnother_X0 : ∀ w ∈ wsX00, w ∈ wsX0_meetsAnother := by decide +kernel
set_option maxHeartbeats 4000000 in
set_option maxRecDepth 100000 in
/-- Bookings.meetsAnother -/
theorem c_X0_meetsAnother (l : Launch) (D : va_G) (cI cZ : ClassId) (a : Nat → Nat) (sz : Nat) (σ : St) (t b fr to : Int32) (nb : Nat) (hnb : σ 13 0 = nI nb) (hnb30 : nb ≤ 30) : MI l yX0_meetsAnother wsX0_meetsAnother ({ frames := 0, cells := 0, slots := 0, locals := 0 }) D (ty2 cI cZ) (wX cI cZ a) [.ref (a 13), .int t, .int b, .int fr, .int to] σ sz (fun r u => u = σ ∧ bo r (mts (σ 14) (σ 15) (σ 16) (σ 17) nb t b fr to)) := by
  refine MI.of (cc := cX0_meetsAnother) (maxL := 6) (by decide) rfl (Nat.le_of_ble_eq_true rfl) ?_
  intro p e s m args below meth c A H locs ls hx hb hr hml hown hts hlocks hA hS hP hK hD hl
  have hl : lv_has ls 6 [(0, .ref (a 13)), (1, .int t), (2, .int b), (3, .int fr), (4, .int to)] := hl
  refine lv_iconst (v := 0) hx hb dX0_meetsAnother_0 (by decide) ?_
  refine lv_istore (lv' := [(5, .int 0), (0, .ref (a 13)), (1, .int t), (2, .int b), (3, .int fr), (4, .int to)]) hx hb dX0_meetsAnother_1 hl (by decide) rfl (fun ls hl => ?_)
  have loop_3 : ∀ (f : Nat) (k : Nat) (H : Heap) (locs : List Loc) (ls : Array Slot), nb < k + f → k ≤ nb → (∀ i, i < k → ¬ (σ 15 i = b ∧ ¬ σ 14 i = t ∧ ¬ to < σ 16 i ∧ ¬ σ 17 i < fr)) → va_P D vwCl (wX cI cZ a σ) H → va_D A (wX cI cZ a σ) → va_S A s.heap H locs → lv_has ls 6 [(0, .ref (a 13)), (1, .int t), (2, .int b), (3, .int fr), (4, .int to), (5, .int (nI k))] → W p l e { frames := 0, cells := 0, slots := 0, locals := 0 } s m args below meth c H locs 0 0 (MQ below (va_Qi (fun r u => u = σ ∧ bo r (mts (σ 14) (σ 15) (σ 16) (σ 17) nb t b fr to)) (PO D (ty2 cI cZ) (wX cI cZ a) A) A) args s 0 0 A) (F0 m 3 ls []) := by
    intro f
    induction f with
    | zero => intro k H locs ls hf hk hno; exact absurd hf (by omega)
    | succ f ih =>
      intro k H locs ls hf hk hno hP hD hS hl
      refine lv_iload hx hb dX0_meetsAnother_3 (lv_at hl 5 rfl) ?_
      refine lv_aload_n hx hb dX0_meetsAnother_5 rfl (lv_at hl 0 rfl) ?_
      refine va_get (D := D) (ci := 0) (v := .int (σ 13 0)) (C := RX0) (T := TX0) (N := 6) hx hb hts in_X0_meetsAnother_X0 hown hK hP 13 rfl rfl 5 (by decide) (hts (.fieldLink RX0 27 "Warpyard$Bookings" "count" "I") (by decide +kernel)) (fun _ h9 => h9) rfl dX0_meetsAnother_6 ?_
      refine lv_topi (fun v_9 e_9 => ?_)
      obtain rfl : v_9 = nI nb := by rw [e_9]; exact hnb
      refine lv_icmp_ge (tgt := 65) hx hb dX0_meetsAnother_9 (by decide) (fun c_9 => ?_) (fun c_9 => ?_)
      · skip
        rw [nI_leI (by omega) (by omega)] at c_9
        refine lv_iconst (v := 0) hx hb dX0_meetsAnother_65 (by decide) ?_
        exact MI.zret hx hb hr hlocks hK hP hD hS dX0_meetsAnother_66 rfl (by exact ⟨rfl, Or.inr ⟨rfl, fun ⟨i, hi, h⟩ => hno i (by omega) h⟩⟩)
      · skip
        rw [nI_leI (by omega) (by omega)] at c_9
        refine lv_aload_n hx hb dX0_meetsAnother_12 rfl (lv_at hl 0 rfl) ?_
        refine va_get (D := D) (ci := 0) (v := .ref (a 15)) (C := RX0) (T := TX0) (N := 6) hx hb hts in_X0_meetsAnother_X0 hown hK hP 13 rfl rfl 1 (by decide) (hts (.fieldLink RX0 15 "Warpyard$Bookings" "block" "[I") (by decide +kernel)) (fun _ h9 => h9) rfl dX0_meetsAnother_13 ?_
        refine lv_iload hx hb dX0_meetsAnother_16 (lv_at hl 5 rfl) ?_
        refine na_iald hx hb hK hP 15 0 (f := (σ 15)) rfl rfl k (by omega) (by decide) rfl dX0_meetsAnother_18 ?_
        refine lv_iload_n hx hb dX0_meetsAnother_19 rfl (lv_at hl 2 rfl) ?_
        refine lv_icmp_ne (tgt := 59) hx hb dX0_meetsAnother_20 (by decide) (fun c_20 => ?_) (fun c_20 => ?_)
        · skip
          refine lv_iinc (v := nI (k + 1)) (lv' := [(5, .int (nI (k + 1))), (0, .ref (a 13)), (1, .int t), (2, .int b), (3, .int fr), (4, .int to)]) hx hb dX0_meetsAnother_59 hl (k := 5) rfl (by exact nI_1 k) (by decide) rfl (fun ls hl => ?_)
          refine lv_goto (tgt := 3) hx hb dX0_meetsAnother_62 (by decide) ?_
          exact ih (k + 1) _ _ ls (by omega) (by omega) (by exact lt_s hno (fun h => c_20 h.1)) hP hD hS (lv_sub hl [1, 2, 3, 4, 5, 0] rfl)
        · skip
          refine lv_aload_n hx hb dX0_meetsAnother_23 rfl (lv_at hl 0 rfl) ?_
          refine va_get (D := D) (ci := 0) (v := .ref (a 14)) (C := RX0) (T := TX0) (N := 6) hx hb hts in_X0_meetsAnother_X0 hown hK hP 13 rfl rfl 0 (by decide) (hts (.fieldLink RX0 9 "Warpyard$Bookings" "train" "[I") (by decide +kernel)) (fun _ h9 => h9) rfl dX0_meetsAnother_24 ?_
          refine lv_iload hx hb dX0_meetsAnother_27 (lv_at hl 5 rfl) ?_
          refine na_iald hx hb hK hP 14 0 (f := (σ 14)) rfl rfl k (by omega) (by decide) rfl dX0_meetsAnother_29 ?_
          refine lv_iload_n hx hb dX0_meetsAnother_30 rfl (lv_at hl 1 rfl) ?_
          refine lv_icmp_eq (tgt := 59) hx hb dX0_meetsAnother_31 (by decide) (fun c_31 => ?_) (fun c_31 => ?_)
          · skip
            refine lv_iinc (v := nI (k + 1)) (lv' := [(5, .int (nI (k + 1))), (0, .ref (a 13)), (1, .int t), (2, .int b), (3, .int fr), (4, .int to)]) hx hb dX0_meetsAnother_59 hl (k := 5) rfl (by exact nI_1 k) (by decide) rfl (fun ls hl => ?_)
            refine lv_goto (tgt := 3) hx hb dX0_meetsAnother_62 (by decide) ?_
            exact ih (k + 1) _ _ ls (by omega) (by omega) (by exact lt_s hno (fun h => h.2.1 c_31)) hP hD hS (lv_sub hl [1, 2, 3, 4, 5, 0] rfl)
          · skip
            refine lv_aload_n hx hb dX0_meetsAnother_34 rfl (lv_at hl 0 rfl) ?_
            refine va_get (D := D) (ci := 0) (v := .ref (a 16)) (C := RX0) (T := TX0) (N := 6) hx hb hts in_X0_meetsAnother_X0 hown hK hP 13 rfl rfl 2 (by decide) (hts (.fieldLink RX0 18 "Warpyard$Bookings" "first" "[I") (by decide +kernel)) (fun _ h9 => h9) rfl dX0_meetsAnother_35 ?_
            refine lv_iload hx hb dX0_meetsAnother_38 (lv_at hl 5 rfl) ?_
            refine na_iald hx hb hK hP 16 0 (f := (σ 16)) rfl rfl k (by omega) (by decide) rfl dX0_meetsAnother_40 ?_
            refine lv_iload hx hb dX0_meetsAnother_41 (lv_at hl 4 rfl) ?_
            refine lv_icmp_gt (tgt := 59) hx hb dX0_meetsAnother_43 (by decide) (fun c_43 => ?_) (fun c_43 => ?_)
            · skip
              refine lv_iinc (v := nI (k + 1)) (lv' := [(5, .int (nI (k + 1))), (0, .ref (a 13)), (1, .int t), (2, .int b), (3, .int fr), (4, .int to)]) hx hb dX0_meetsAnother_59 hl (k := 5) rfl (by exact nI_1 k) (by decide) rfl (fun ls hl => ?_)
              refine lv_goto (tgt := 3) hx hb dX0_meetsAnother_62 (by decide) ?_
              exact ih (k + 1) _ _ ls (by omega) (by omega) (by exact lt_s hno (fun h => h.2.2.1 c_43)) hP hD hS (lv_sub hl [1, 2, 3, 4, 5, 0] rfl)
            · skip
              refine lv_iload_n hx hb dX0_meetsAnother_46 rfl (lv_at hl 3 rfl) ?_
              refine lv_aload_n hx hb dX0_meetsAnother_47 rfl (lv_at hl 0 rfl) ?_
              refine va_get (D := D) (ci := 0) (v := .ref (a 17)) (C := RX0) (T := TX0) (N := 6) hx hb hts in_X0_meetsAnother_X0 hown hK hP 13 rfl rfl 3 (by decide) (hts (.fieldLink RX0 21 "Warpyard$Bookings" "last" "[I") (by decide +kernel)) (fun _ h9 => h9) rfl dX0_meetsAnother_48 ?_
              refine lv_iload hx hb dX0_meetsAnother_51 (lv_at hl 5 rfl) ?_
              refine na_iald hx hb hK hP 17 0 (f := (σ 17)) rfl rfl k (by omega) (by decide) rfl dX0_meetsAnother_53 ?_
              refine lv_icmp_gt (tgt := 59) hx hb dX0_meetsAnother_54 (by decide) (fun c_54 => ?_) (fun c_54 => ?_)
              · skip
                refine lv_iinc (v := nI (k + 1)) (lv' := [(5, .int (nI (k + 1))), (0, .ref (a 13)), (1, .int t), (2, .int b), (3, .int fr), (4, .int to)]) hx hb dX0_meetsAnother_59 hl (k := 5) rfl (by exact nI_1 k) (by decide) rfl (fun ls hl => ?_)
                refine lv_goto (tgt := 3) hx hb dX0_meetsAnother_62 (by decide) ?_
                exact ih (k + 1) _ _ ls (by omega) (by omega) (by exact lt_s hno (fun h => h.2.2.2 c_54)) hP hD hS (lv_sub hl [1, 2, 3, 4, 5, 0] rfl)
              · skip
                refine lv_iconst (v := 1) hx hb dX0_meetsAnother_57 (by decide) ?_
                exact MI.zret hx hb hr hlocks hK hP hD hS dX0_meetsAnother_58 rfl (by exact ⟨rfl, Or.inl ⟨rfl, k, by omega, c_20, c_31, c_43, c_54⟩⟩)
  exact loop_3 (nb + 1) 0 _ _ ls (by omega) (by omega) (by intro i hi; omega) hP hD hS (lv_sub hl [1, 2, 3, 4, 5, 0] rfl)
set_option maxRecDepth 20000 in
theorem in_X3_standingOn_X3 : ∀ w ∈ wsX30, w ∈ wsX3_standingOn := by decide +kernel
set_option maxHeartbeats 4000000 in
set_option maxRecDepth 100000 in
/-- Trains.standingOn: the train on a block -/
theorem c_X3_standingOn (l : Launch) (D : va_G) (cI cZ : ClassId) (a : Nat → Nat) (sz : Nat) (σ : St) (w : Int32) (n : Nat) (hn : σ 3 0 = nI n) (hn4 : n ≤ 4) : MI l yX3_standingOn wsX3_standingOn ({ frames := 0, cells := 0, slots := 0, locals := 0 }) D (ty2 cI cZ) (wX cI cZ a) [.ref (a 3), .int w] σ sz (fun r u => u = σ ∧ r = so (σ 4) w n) := by
  refine MI.of (cc := cX3_standingOn) (maxL := 3) (by decide) rfl (Nat.le_of_ble_eq_true rfl) ?_
  intro p e s m args below meth c A H locs ls hx hb hr hml hown hts hlocks hA hS hP hK hD hl
  have hl : lv_has ls 3 [(0, .ref (a 3)), (1, .int w)] := hl
  refine lv_iconst (v := 0) hx hb dX3_standingOn_0 (by decide) ?_
  refine lv_istore_n (lv' := [(2, .int 0), (0, .ref (a 3)), (1, .int w)]) hx hb dX3_standingOn_1 rfl hl (by decide) rfl (fun ls hl => ?_)
  have loop_2 : ∀ (f : Nat) (k : Nat) (H : Heap) (locs : List Loc) (ls : Array Slot), n < k + f → k ≤ n → (∀ i, i < k → ¬ σ 4 i = w) → va_P D vwCl (wX cI cZ a σ) H → va_D A (wX cI cZ a σ) → va_S A s.heap H locs → lv_has ls 3 [(0, .ref (a 3)), (1, .int w), (2, .int (nI k))] → W p l e { frames := 0, cells := 0, slots := 0, locals := 0 } s m args below meth c H locs 0 0 (MQ below (va_Qi (fun r u => u = σ ∧ r = so (σ 4) w n) (PO D (ty2 cI cZ) (wX cI cZ a) A) A) args s 0 0 A) (F0 m 2 ls []) := by
    intro f
    induction f with
    | zero => intro k H locs ls hf hk hno; exact absurd hf (by omega)
    | succ f ih =>
      intro k H locs ls hf hk hno hP hD hS hl
      refine lv_iload_n hx hb dX3_standingOn_2 rfl (lv_at hl 2 rfl) ?_
      refine lv_aload_n hx hb dX3_standingOn_3 rfl (lv_at hl 0 rfl) ?_
      refine va_get (D := D) (ci := 3) (v := .int (σ 3 0)) (C := RX3) (T := TX3) (N := 5) hx hb hts in_X3_standingOn_X3 hown hK hP 3 rfl rfl 4 (by decide) (hts (.fieldLink RX3 25 "Warpyard$Trains" "count" "I") (by decide +kernel)) (fun _ h9 => h9) rfl dX3_standingOn_4 ?_
      refine lv_topi (fun v_7 e_7 => ?_)
      obtain rfl : v_7 = nI n := by rw [e_7]; exact hn
      refine lv_icmp_ge (tgt := 28) hx hb dX3_standingOn_7 (by decide) (fun c_7 => ?_) (fun c_7 => ?_)
      · skip
        rw [nI_leI (by omega) (by omega)] at c_7
        refine lv_iconst (v := (-1)) hx hb dX3_standingOn_28 (by decide) ?_
        exact MI.ret hx hb hr hlocks hK hP hD hS dX3_standingOn_29 (by exact ⟨rfl, (so_miss (fun i hi => hno i (by omega))).symm⟩)
      · skip
        rw [nI_leI (by omega) (by omega)] at c_7
        refine lv_aload_n hx hb dX3_standingOn_10 rfl (lv_at hl 0 rfl) ?_
        refine va_get (D := D) (ci := 3) (v := .ref (a 4)) (C := RX3) (T := TX3) (N := 5) hx hb hts in_X3_standingOn_X3 hown hK hP 3 rfl rfl 0 (by decide) (hts (.fieldLink RX3 9 "Warpyard$Trains" "block" "[I") (by decide +kernel)) (fun _ h9 => h9) rfl dX3_standingOn_11 ?_
        refine lv_iload_n hx hb dX3_standingOn_14 rfl (lv_at hl 2 rfl) ?_
        refine na_iald hx hb hK hP 4 0 (f := (σ 4)) rfl rfl k (by omega) (by decide) rfl dX3_standingOn_15 ?_
        refine lv_iload_n hx hb dX3_standingOn_16 rfl (lv_at hl 1 rfl) ?_
        refine lv_icmp_ne (tgt := 22) hx hb dX3_standingOn_17 (by decide) (fun c_17 => ?_) (fun c_17 => ?_)
        · skip
          refine lv_iinc (v := nI (k + 1)) (lv' := [(2, .int (nI (k + 1))), (0, .ref (a 3)), (1, .int w)]) hx hb dX3_standingOn_22 hl (k := 2) rfl (by exact nI_1 k) (by decide) rfl (fun ls hl => ?_)
          refine lv_goto (tgt := 2) hx hb dX3_standingOn_25 (by decide) ?_
          exact ih (k + 1) _ _ ls (by omega) (by omega) (by exact lt_s hno c_17) hP hD hS (lv_sub hl [1, 2, 0] rfl)
        · skip
          refine lv_iload_n hx hb dX3_standingOn_20 rfl (lv_at hl 2 rfl) ?_
          exact MI.ret hx hb hr hlocks hK hP hD hS dX3_standingOn_21 (by exact ⟨rfl, (so_hit c_17 hno (by omega) (by omega)).symm⟩)
  exact loop_2 (n + 1) 0 _ _ ls (by omega) (by omega) (by intro i hi; omega) hP hD hS (lv_sub hl [1, 2, 0] rfl)
set_option maxRecDepth 20000 in
theorem in_X3_turnRound_X3 : ∀ w ∈ wsX30, w ∈ wsX3_turnRound := by decide +kernel
set_option maxHeartbeats 4000000 in
set_option maxRecDepth 100000 in
/-- Trains.turnRound -/
theorem c_X3_turnRound (l : Launch) (D : va_G) (cI cZ : ClassId) (a : Nat → Nat) (sz : Nat) (σ : St) (k : Nat) (hk : k < 4) : MI l yX3_turnRound wsX3_turnRound ({ frames := 0, cells := 0, slots := 0, locals := 0 }) D (ty2 cI cZ) (wX cI cZ a) [.ref (a 3), .int (nI k)] σ sz (fun r u => u = (va_up σ 5 (upd (σ 5) k (fl (σ 5 k)))) ∧ r = fl (σ 5 k)) := by
  refine MI.of (cc := cX3_turnRound) (maxL := 2) (by decide) rfl (Nat.le_of_ble_eq_true rfl) ?_
  intro p e s m args below meth c A H locs ls hx hb hr hml hown hts hlocks hA hS hP hK hD hl
  have hl : lv_has ls 2 [(0, .ref (a 3)), (1, .int (nI k))] := hl
  refine lv_aload_n hx hb dX3_turnRound_0 rfl (lv_at hl 0 rfl) ?_
  refine va_get (D := D) (ci := 3) (v := .ref (a 5)) (C := RX3) (T := TX3) (N := 5) hx hb hts in_X3_turnRound_X3 hown hK hP 3 rfl rfl 1 (by decide) (hts (.fieldLink RX3 15 "Warpyard$Trains" "right" "[Z") (by decide +kernel)) (fun _ h9 => h9) rfl dX3_turnRound_1 ?_
  refine lv_iload_n hx hb dX3_turnRound_4 rfl (lv_at hl 1 rfl) ?_
  refine lv_aload_n hx hb dX3_turnRound_5 rfl (lv_at hl 0 rfl) ?_
  refine va_get (D := D) (ci := 3) (v := .ref (a 5)) (C := RX3) (T := TX3) (N := 5) hx hb hts in_X3_turnRound_X3 hown hK hP 3 rfl rfl 1 (by decide) (hts (.fieldLink RX3 15 "Warpyard$Trains" "right" "[Z") (by decide +kernel)) (fun _ h9 => h9) rfl dX3_turnRound_6 ?_
  refine lv_iload_n hx hb dX3_turnRound_9 rfl (lv_at hl 1 rfl) ?_
  refine na_zald hx hb hK hP 5 1 (f := (σ 5)) rfl rfl k (by omega) (by decide) rfl dX3_turnRound_10 ?_
  refine lv_if_ne (tgt := 18) hx hb dX3_turnRound_11 (by decide) (fun c_11 => ?_) (fun c_11 => ?_)
  · skip
    refine lv_iconst (v := 0) hx hb dX3_turnRound_18 (by decide) ?_
    refine na_zast hx hb hK hP hD hS 5 1 (f := (σ 5)) (x := 0) rfl rfl k (by omega) (by decide) rfl (Or.inl rfl) dX3_turnRound_19 (fun H locs hP hD hS => ?_)
    have hP : va_P D vwCl (wX cI cZ a (va_up σ 5 (upd (σ 5) k 0))) H := hP
    have hD : va_D A (wX cI cZ a (va_up σ 5 (upd (σ 5) k 0))) := hD
    refine lv_aload_n hx hb dX3_turnRound_20 rfl (lv_at hl 0 rfl) ?_
    refine va_get (D := D) (ci := 3) (v := .ref (a 5)) (C := RX3) (T := TX3) (N := 5) hx hb hts in_X3_turnRound_X3 hown hK hP 3 rfl rfl 1 (by decide) (hts (.fieldLink RX3 15 "Warpyard$Trains" "right" "[Z") (by decide +kernel)) (fun _ h9 => h9) rfl dX3_turnRound_21 ?_
    refine lv_iload_n hx hb dX3_turnRound_24 rfl (lv_at hl 1 rfl) ?_
    refine na_zald hx hb hK hP 5 1 (f := (upd (σ 5) k 0)) rfl rfl k (by omega) (by decide) rfl dX3_turnRound_25 ?_
    exact MI.zret hx hb hr hlocks hK hP hD hS dX3_turnRound_26 (nar_b (by rw [pk_us]; decide)) (by rw [fl_1 c_11]; exact ⟨rfl, pk_us⟩)
  · skip
    refine lv_iconst (v := 1) hx hb dX3_turnRound_14 (by decide) ?_
    refine lv_goto (tgt := 19) hx hb dX3_turnRound_15 (by decide) ?_
    refine na_zast hx hb hK hP hD hS 5 1 (f := (σ 5)) (x := 1) rfl rfl k (by omega) (by decide) rfl (Or.inr rfl) dX3_turnRound_19 (fun H locs hP hD hS => ?_)
    have hP : va_P D vwCl (wX cI cZ a (va_up σ 5 (upd (σ 5) k 1))) H := hP
    have hD : va_D A (wX cI cZ a (va_up σ 5 (upd (σ 5) k 1))) := hD
    refine lv_aload_n hx hb dX3_turnRound_20 rfl (lv_at hl 0 rfl) ?_
    refine va_get (D := D) (ci := 3) (v := .ref (a 5)) (C := RX3) (T := TX3) (N := 5) hx hb hts in_X3_turnRound_X3 hown hK hP 3 rfl rfl 1 (by decide) (hts (.fieldLink RX3 15 "Warpyard$Trains" "right" "[Z") (by decide +kernel)) (fun _ h9 => h9) rfl dX3_turnRound_21 ?_
    refine lv_iload_n hx hb dX3_turnRound_24 rfl (lv_at hl 1 rfl) ?_
    refine na_zald hx hb hK hP 5 1 (f := (upd (σ 5) k 1)) rfl rfl k (by omega) (by decide) rfl dX3_turnRound_25 ?_
    exact MI.zret hx hb hr hlocks hK hP hD hS dX3_turnRound_26 (nar_b (by rw [pk_us]; decide)) (by rw [fl_0 c_11]; exact ⟨rfl, pk_us⟩)
set_option maxRecDepth 20000 in
theorem in_X3_step_X3 : ∀ w ∈ wsX30, w ∈ wsX3_step := by decide +kernel
set_option maxHeartbeats 4000000 in
set_option maxRecDepth 100000 in
/-- Trains.step: one train in one minute -/
theorem c_X3_step (l : Launch) (D : va_G) (cI cZ : ClassId) (a : Nat → Nat) (sz : Nat) (σ : St) (n nb k : Nat) (mi : Int32) (x : T3) (hn : σ 3 0 = nI n) (hn4 : n ≤ 4) (hk : k < n) (hnb : σ 13 0 = nI nb) (hnb30 : nb ≤ 30) (hB : blk (x.1 k)) : MI l yX3_step wsX3_step ({ frames := 2, cells := 0, slots := 0, locals := 46 }) D (ty2 cI cZ) (wX cI cZ a) [.ref (a 3), .int (nI k), .ref (a 1), .ref (a 13), .int mi] (va_up (va_up (va_up σ 4 x.1) 5 x.2.1) 7 x.2.2) sz (fun r u => u = (va_up (va_up (va_up σ 4 ((stp (σ 2) (σ 14) (σ 15) (σ 16) (σ 17) (σ 6) n nb mi k x).1.1)) 5 ((stp (σ 2) (σ 14) (σ 15) (σ 16) (σ 17) (σ 6) n nb mi k x).1.2.1)) 7 ((stp (σ 2) (σ 14) (σ 15) (σ 16) (σ 17) (σ 6) n nb mi k x).1.2.2)) ∧ r = (stp (σ 2) (σ 14) (σ 15) (σ 16) (σ 17) (σ 6) n nb mi k x).2) := by
  refine MI.of (cc := cX3_step) (maxL := 6) (by decide) rfl (Nat.le_of_ble_eq_true rfl) ?_
  intro p e s m args below meth c A H locs ls hx hb hr hml hown hts hlocks hA hS hP hK hD hl
  have hl : lv_has ls 6 [(0, .ref (a 3)), (1, .int (nI k)), (2, .ref (a 1)), (3, .ref (a 13)), (4, .int mi)] := hl
  refine lv_aload_n hx hb dX3_step_0 rfl (lv_at hl 0 rfl) ?_
  refine va_get (D := D) (ci := 3) (v := .ref (a 7)) (C := RX3) (T := TX3) (N := 5) hx hb hts in_X3_step_X3 hown hK hP 3 rfl rfl 3 (by decide) (hts (.fieldLink RX3 22 "Warpyard$Trains" "delay" "[I") (by decide +kernel)) (fun _ h9 => h9) rfl dX3_step_1 ?_
  refine lv_iload_n hx hb dX3_step_4 rfl (lv_at hl 1 rfl) ?_
  refine na_iald hx hb hK hP 7 0 (f := x.2.2) rfl rfl k (by omega) (by decide) rfl dX3_step_5 ?_
  refine lv_if_le (tgt := 21) hx hb dX3_step_6 (by decide) (fun c_6 => ?_) (fun c_6 => ?_)
  · skip
    refine lv_aload_n hx hb dX3_step_21 rfl (lv_at hl 0 rfl) ?_
    refine va_get (D := D) (ci := 3) (v := .ref (a 6)) (C := RX3) (T := TX3) (N := 5) hx hb hts in_X3_step_X3 hown hK hP 3 rfl rfl 2 (by decide) (hts (.fieldLink RX3 19 "Warpyard$Trains" "held" "[Z") (by decide +kernel)) (fun _ h9 => h9) rfl dX3_step_22 ?_
    refine lv_iload_n hx hb dX3_step_25 rfl (lv_at hl 1 rfl) ?_
    refine na_zald hx hb hK hP 6 1 (f := (σ 6)) rfl rfl k (by omega) (by decide) rfl dX3_step_26 ?_
    refine lv_if_eq (tgt := 32) hx hb dX3_step_27 (by decide) (fun c_27 => ?_) (fun c_27 => ?_)
    · skip
      refine lv_aload_n hx hb dX3_step_32 rfl (lv_at hl 2 rfl) ?_
      refine lv_aload_n hx hb dX3_step_33 rfl (lv_at hl 0 rfl) ?_
      refine va_get (D := D) (ci := 3) (v := .ref (a 4)) (C := RX3) (T := TX3) (N := 5) hx hb hts in_X3_step_X3 hown hK hP 3 rfl rfl 0 (by decide) (hts (.fieldLink RX3 9 "Warpyard$Trains" "block" "[I") (by decide +kernel)) (fun _ h9 => h9) rfl dX3_step_34 ?_
      refine lv_iload_n hx hb dX3_step_37 rfl (lv_at hl 1 rfl) ?_
      refine na_iald hx hb hK hP 4 0 (f := x.1) rfl rfl k (by omega) (by decide) rfl dX3_step_38 ?_
      refine lv_aload_n hx hb dX3_step_39 rfl (lv_at hl 0 rfl) ?_
      refine va_get (D := D) (ci := 3) (v := .ref (a 5)) (C := RX3) (T := TX3) (N := 5) hx hb hts in_X3_step_X3 hown hK hP 3 rfl rfl 1 (by decide) (hts (.fieldLink RX3 15 "Warpyard$Trains" "right" "[Z") (by decide +kernel)) (fun _ h9 => h9) rfl dX3_step_40 ?_
      refine lv_iload_n hx hb dX3_step_43 rfl (lv_at hl 1 rfl) ?_
      refine na_zald hx hb hK hP 5 1 (f := x.2.1) rfl rfl k (by omega) (by decide) rfl dX3_step_44 ?_
      refine MI.callV (As := [.int (x.1 k), .int (x.2.1 k)]) (rest := []) ⟨hx, hb, hml, hown, hts⟩ (c_X2_ahead l D cI cZ a H.size (va_up (va_up (va_up σ 4 x.1) 5 x.2.1) 7 x.2.2) (x.1 k) (x.2.1 k) hB) (cwV 2 hts gX3_step_X2_ahead rfl rfl rfl (by decide +kernel) ⟨Nat.le_of_ble_eq_true rfl, Nat.le_of_ble_eq_true rfl⟩) hP hK hD hS hA (va_recv hK hP (ci := 2) (q0 := 1) rfl rfl) rfl hl.1 (Nat.le_of_ble_eq_true rfl) (Nat.zero_le _) (Nat.zero_le _) dX3_step_45 rfl (fun r_45 u_45 H locs h_45 hP hD hS => ?_)
      obtain ⟨e_45, h_45⟩ := h_45
      have e_45 := Eq.symm e_45
      subst e_45
      have h_45 : r_45 = ahd (σ 2) (x.1 k) (x.2.1 k) := h_45
      refine lv_istore (lv' := [(5, .int r_45), (0, .ref (a 3)), (1, .int (nI k)), (2, .ref (a 1)), (3, .ref (a 13)), (4, .int mi)]) hx hb dX3_step_48 hl (by decide) rfl (fun ls hl => ?_)
      refine lv_iload hx hb dX3_step_50 (lv_at hl 0 rfl) ?_
      refine lv_bipush (v := (-2)) hx hb dX3_step_52 (by decide) ?_
      refine lv_icmp_ne (tgt := 65) hx hb dX3_step_54 (by decide) (fun c_54 => ?_) (fun c_54 => ?_)
      · skip
        refine lv_iload hx hb dX3_step_65 (lv_at hl 0 rfl) ?_
        refine lv_iconst (v := (-1)) hx hb dX3_step_67 (by decide) ?_
        refine lv_icmp_eq (tgt := 93) hx hb dX3_step_68 (by decide) (fun c_68 => ?_) (fun c_68 => ?_)
        · skip
          refine lv_iconst (v := 0) hx hb dX3_step_93 (by decide) ?_
          exact MI.zret hx hb hr hlocks hK hP hD hS dX3_step_94 rfl (by subst h_45; rw [stp_b c_6 c_27 c_54 (Or.inl c_68)]; exact ⟨rfl, rfl⟩)
        · skip
          refine lv_aload_n hx hb dX3_step_71 rfl (lv_at hl 1 rfl) ?_
          refine lv_iload hx hb dX3_step_72 (lv_at hl 0 rfl) ?_
          refine MI.callV (As := [.int r_45]) (rest := []) ⟨hx, hb, hml, hown, hts⟩ (c_X3_standingOn l D cI cZ a H.size (va_up (va_up (va_up σ 4 x.1) 5 x.2.1) 7 x.2.2) r_45 n hn hn4) (cwV 1 hts gX3_step_X3_standingOn rfl rfl rfl (by decide +kernel) ⟨Nat.le_of_ble_eq_true rfl, Nat.le_of_ble_eq_true rfl⟩) hP hK hD hS hA (va_recv hK hP (ci := 3) (q0 := 3) rfl rfl) rfl hl.1 (Nat.le_of_ble_eq_true rfl) (Nat.zero_le _) (Nat.zero_le _) dX3_step_74 rfl (fun r_74 u_74 H locs h_74 hP hD hS => ?_)
          obtain ⟨e_74, h_74⟩ := h_74
          have e_74 := Eq.symm e_74
          subst e_74
          have h_74 : r_74 = so x.1 r_45 n := h_74
          refine lv_iconst (v := (-1)) hx hb dX3_step_77 (by decide) ?_
          refine lv_icmp_ne (tgt := 93) hx hb dX3_step_78 (by decide) (fun c_78 => ?_) (fun c_78 => ?_)
          · skip
            refine lv_iconst (v := 0) hx hb dX3_step_93 (by decide) ?_
            exact MI.zret hx hb hr hlocks hK hP hD hS dX3_step_94 rfl (by subst h_45; subst h_74; rw [stp_b c_6 c_27 c_54 (Or.inr (Or.inl c_78))]; exact ⟨rfl, rfl⟩)
          · skip
            refine lv_aload_n hx hb dX3_step_81 rfl (lv_at hl 4 rfl) ?_
            refine lv_iload_n hx hb dX3_step_82 rfl (lv_at hl 2 rfl) ?_
            refine lv_iload hx hb dX3_step_83 (lv_at hl 0 rfl) ?_
            refine lv_iload hx hb dX3_step_85 (lv_at hl 5 rfl) ?_
            refine MI.callV (As := [.int (nI k), .int r_45, .int mi]) (rest := []) ⟨hx, hb, hml, hown, hts⟩ (c_X0_isForAnother l D cI cZ a H.size (va_up (va_up (va_up σ 4 x.1) 5 x.2.1) 7 x.2.2) (nI k) r_45 mi nb hnb hnb30) (cwV 3 hts gX3_step_X0_isForAnother rfl rfl rfl (by decide +kernel) ⟨Nat.le_of_ble_eq_true rfl, Nat.le_of_ble_eq_true rfl⟩) hP hK hD hS hA (va_recv hK hP (ci := 0) (q0 := 13) rfl rfl) rfl hl.1 (Nat.le_of_ble_eq_true rfl) (Nat.zero_le _) (Nat.zero_le _) dX3_step_87 rfl (fun r_87 u_87 H locs h_87 hP hD hS => ?_)
            rcases h_87 with ⟨e_87, ⟨rfl, h_87⟩ | ⟨rfl, h_87⟩⟩
            · skip
              have e_87 := Eq.symm e_87
              subst e_87
              have h_87 : mts (σ 14) (σ 15) (σ 16) (σ 17) nb (nI k) r_45 mi mi := h_87
              refine lv_if_eq (tgt := 95) hx hb dX3_step_90 (by decide) (fun c9 => absurd c9 (by decide)) (fun _ => ?_)
              refine lv_iconst (v := 0) hx hb dX3_step_93 (by decide) ?_
              exact MI.zret hx hb hr hlocks hK hP hD hS dX3_step_94 rfl (by subst h_45; subst h_74; rw [stp_b c_6 c_27 c_54 (Or.inr (Or.inr h_87))]; exact ⟨rfl, rfl⟩)
            · skip
              have e_87 := Eq.symm e_87
              subst e_87
              have h_87 : ¬ mts (σ 14) (σ 15) (σ 16) (σ 17) nb (nI k) r_45 mi mi := h_87
              refine lv_if_eq (tgt := 95) hx hb dX3_step_90 (by decide) (fun _ => ?_) (fun c9 => absurd (by decide) c9)
              refine lv_aload_n hx hb dX3_step_95 rfl (lv_at hl 1 rfl) ?_
              refine va_get (D := D) (ci := 3) (v := .ref (a 4)) (C := RX3) (T := TX3) (N := 5) hx hb hts in_X3_step_X3 hown hK hP 3 rfl rfl 0 (by decide) (hts (.fieldLink RX3 9 "Warpyard$Trains" "block" "[I") (by decide +kernel)) (fun _ h9 => h9) rfl dX3_step_96 ?_
              refine lv_iload_n hx hb dX3_step_99 rfl (lv_at hl 2 rfl) ?_
              refine lv_iload hx hb dX3_step_100 (lv_at hl 0 rfl) ?_
              refine na_iast hx hb hK hP hD hS 4 0 (f := x.1) (x := r_45) rfl rfl k (by omega) (by decide) rfl dX3_step_102 (fun H locs hP hD hS => ?_)
              have hP : va_P D vwCl (wX cI cZ a (va_up (va_up (va_up σ 4 (upd x.1 k r_45)) 5 x.2.1) 7 x.2.2)) H := hP
              have hD : va_D A (wX cI cZ a (va_up (va_up (va_up σ 4 (upd x.1 k r_45)) 5 x.2.1) 7 x.2.2)) := hD
              refine lv_iconst (v := 1) hx hb dX3_step_103 (by decide) ?_
              exact MI.zret hx hb hr hlocks hK hP hD hS dX3_step_104 rfl (by subst h_45; subst h_74; rw [stp_m c_6 c_27 c_54 (by rintro (e | e | e) <;> first | exact c_68 e | exact e c_78 | exact h_87 e)]; exact ⟨rfl, rfl⟩)
      · skip
        refine lv_aload_n hx hb dX3_step_57 rfl (lv_at hl 1 rfl) ?_
        refine lv_iload_n hx hb dX3_step_58 rfl (lv_at hl 2 rfl) ?_
        refine MI.callV (As := [.int (nI k)]) (rest := []) ⟨hx, hb, hml, hown, hts⟩ (c_X3_turnRound l D cI cZ a H.size (va_up (va_up (va_up σ 4 x.1) 5 x.2.1) 7 x.2.2) k (by omega)) (cwV 1 hts gX3_step_X3_turnRound rfl rfl rfl (by decide +kernel) ⟨Nat.le_of_ble_eq_true rfl, Nat.le_of_ble_eq_true rfl⟩) hP hK hD hS hA (va_recv hK hP (ci := 3) (q0 := 3) rfl rfl) rfl hl.1 (Nat.le_of_ble_eq_true rfl) (Nat.zero_le _) (Nat.zero_le _) dX3_step_59 rfl (fun r_59 u_59 H locs h_59 hP hD hS => ?_)
        obtain ⟨e_59, h_59⟩ := h_59
        have e_59 := Eq.symm e_59
        subst e_59
        have hP : va_P D vwCl (wX cI cZ a (va_up (va_up (va_up σ 4 x.1) 5 (upd x.2.1 k (fl (x.2.1 k)))) 7 x.2.2)) H := hP
        have hD : va_D A (wX cI cZ a (va_up (va_up (va_up σ 4 x.1) 5 (upd x.2.1 k (fl (x.2.1 k)))) 7 x.2.2)) := hD
        have h_59 : r_59 = fl (x.2.1 k) := h_59
        refine lv_pop hx hb dX3_step_62 rfl ?_
        refine lv_iconst (v := 0) hx hb dX3_step_63 (by decide) ?_
        exact MI.zret hx hb hr hlocks hK hP hD hS dX3_step_64 rfl (by subst h_45; rw [stp_f c_6 c_27 c_54]; exact ⟨rfl, rfl⟩)
    · skip
      refine lv_iconst (v := 0) hx hb dX3_step_30 (by decide) ?_
      exact MI.zret hx hb hr hlocks hK hP hD hS dX3_step_31 rfl (by rw [stp_h c_6 c_27]; exact ⟨rfl, rfl⟩)
  · skip
    refine lv_aload_n hx hb dX3_step_9 rfl (lv_at hl 0 rfl) ?_
    refine va_get (D := D) (ci := 3) (v := .ref (a 7)) (C := RX3) (T := TX3) (N := 5) hx hb hts in_X3_step_X3 hown hK hP 3 rfl rfl 3 (by decide) (hts (.fieldLink RX3 22 "Warpyard$Trains" "delay" "[I") (by decide +kernel)) (fun _ h9 => h9) rfl dX3_step_10 ?_
    refine lv_iload_n hx hb dX3_step_13 rfl (lv_at hl 1 rfl) ?_
    refine lv_dup2_11 hx hb dX3_step_14 rfl rfl ?_
    refine na_iald hx hb hK hP 7 0 (f := x.2.2) rfl rfl k (by omega) (by decide) rfl dX3_step_15 ?_
    refine lv_iconst (v := 1) hx hb dX3_step_16 (by decide) ?_
    refine lv_isub hx hb dX3_step_17 ?_
    refine na_iast hx hb hK hP hD hS 7 0 (f := x.2.2) (x := (x.2.2 k) - 1) rfl rfl k (by omega) (by decide) rfl dX3_step_18 (fun H locs hP hD hS => ?_)
    have hP : va_P D vwCl (wX cI cZ a (va_up (va_up (va_up σ 4 x.1) 5 x.2.1) 7 (upd x.2.2 k ((x.2.2 k) - 1)))) H := hP
    have hD : va_D A (wX cI cZ a (va_up (va_up (va_up σ 4 x.1) 5 x.2.1) 7 (upd x.2.2 k ((x.2.2 k) - 1)))) := hD
    refine lv_iconst (v := 0) hx hb dX3_step_19 (by decide) ?_
    exact MI.zret hx hb hr hlocks hK hP hD hS dX3_step_20 rfl (by rw [stp_d c_6]; exact ⟨rfl, rfl⟩)
set_option maxRecDepth 20000 in
theorem in_X3_runMinute_X3 : ∀ w ∈ wsX30, w ∈ wsX3_runMinute := by decide +kernel
set_option maxHeartbeats 4000000 in
set_option maxRecDepth 100000 in
/-- Trains.runMinute: all trains, one minute -/
theorem c_X3_runMinute (l : Launch) (D : va_G) (cI cZ : ClassId) (a : Nat → Nat) (sz : Nat) (σ : St) (n nb : Nat) (mi : Int32) (x : T3) (hn : σ 3 0 = nI n) (hn4 : n ≤ 4) (hnb : σ 13 0 = nI nb) (hnb30 : nb ≤ 30) (hB : ∀ i, i < n → blk (x.1 i)) : MI l yX3_runMinute wsX3_runMinute ({ frames := 3, cells := 0, slots := 0, locals := 71 }) D (ty2 cI cZ) (wX cI cZ a) [.ref (a 3), .ref (a 1), .ref (a 13), .int mi] (va_up (va_up (va_up σ 4 x.1) 5 x.2.1) 7 x.2.2) sz (fun r u => u = (va_up (va_up (va_up σ 4 ((mvs (σ 2) (σ 14) (σ 15) (σ 16) (σ 17) (σ 6) n nb mi x n).1.1)) 5 ((mvs (σ 2) (σ 14) (σ 15) (σ 16) (σ 17) (σ 6) n nb mi x n).1.2.1)) 7 ((mvs (σ 2) (σ 14) (σ 15) (σ 16) (σ 17) (σ 6) n nb mi x n).1.2.2)) ∧ r = (mvs (σ 2) (σ 14) (σ 15) (σ 16) (σ 17) (σ 6) n nb mi x n).2) := by
  refine MI.of (cc := cX3_runMinute) (maxL := 6) (by decide) rfl (Nat.le_of_ble_eq_true rfl) ?_
  intro p e s m args below meth c A H locs ls hx hb hr hml hown hts hlocks hA hS hP hK hD hl
  have hl : lv_has ls 6 [(0, .ref (a 3)), (1, .ref (a 1)), (2, .ref (a 13)), (3, .int mi)] := hl
  refine lv_iconst (v := 0) hx hb dX3_runMinute_0 (by decide) ?_
  refine lv_istore (lv' := [(4, .int 0), (0, .ref (a 3)), (1, .ref (a 1)), (2, .ref (a 13)), (3, .int mi)]) hx hb dX3_runMinute_1 hl (by decide) rfl (fun ls hl => ?_)
  refine lv_iconst (v := 0) hx hb dX3_runMinute_3 (by decide) ?_
  refine lv_istore (lv' := [(5, .int 0), (4, .int 0), (0, .ref (a 3)), (1, .ref (a 1)), (2, .ref (a 13)), (3, .int mi)]) hx hb dX3_runMinute_4 hl (by decide) rfl (fun ls hl => ?_)
  have loop_6 : ∀ (f : Nat) (k : Nat) (mv : Int32) (H : Heap) (locs : List Loc) (ls : Array Slot), n < k + f → k ≤ n → mv = (mvs (σ 2) (σ 14) (σ 15) (σ 16) (σ 17) (σ 6) n nb mi x k).2 → va_P D vwCl (wX cI cZ a (va_up (va_up (va_up σ 4 ((mvs (σ 2) (σ 14) (σ 15) (σ 16) (σ 17) (σ 6) n nb mi x k).1.1)) 5 ((mvs (σ 2) (σ 14) (σ 15) (σ 16) (σ 17) (σ 6) n nb mi x k).1.2.1)) 7 ((mvs (σ 2) (σ 14) (σ 15) (σ 16) (σ 17) (σ 6) n nb mi x k).1.2.2))) H → va_D A (wX cI cZ a (va_up (va_up (va_up σ 4 ((mvs (σ 2) (σ 14) (σ 15) (σ 16) (σ 17) (σ 6) n nb mi x k).1.1)) 5 ((mvs (σ 2) (σ 14) (σ 15) (σ 16) (σ 17) (σ 6) n nb mi x k).1.2.1)) 7 ((mvs (σ 2) (σ 14) (σ 15) (σ 16) (σ 17) (σ 6) n nb mi x k).1.2.2))) → va_S A s.heap H locs → lv_has ls 6 [(0, .ref (a 3)), (1, .ref (a 1)), (2, .ref (a 13)), (3, .int mi), (4, .int mv), (5, .int (nI k))] → W p l e { frames := 3, cells := 0, slots := 0, locals := 71 } s m args below meth c H locs 0 0 (MQ below (va_Qi (fun r u => u = (va_up (va_up (va_up σ 4 ((mvs (σ 2) (σ 14) (σ 15) (σ 16) (σ 17) (σ 6) n nb mi x n).1.1)) 5 ((mvs (σ 2) (σ 14) (σ 15) (σ 16) (σ 17) (σ 6) n nb mi x n).1.2.1)) 7 ((mvs (σ 2) (σ 14) (σ 15) (σ 16) (σ 17) (σ 6) n nb mi x n).1.2.2)) ∧ r = (mvs (σ 2) (σ 14) (σ 15) (σ 16) (σ 17) (σ 6) n nb mi x n).2) (PO D (ty2 cI cZ) (wX cI cZ a) A) A) args s 0 0 A) (F0 m 6 ls []) := by
    intro f
    induction f with
    | zero => intro k mv H locs ls hf hk hmv; exact absurd hf (by omega)
    | succ f ih =>
      intro k mv H locs ls hf hk hmv hP hD hS hl
      refine lv_iload hx hb dX3_runMinute_6 (lv_at hl 5 rfl) ?_
      refine lv_aload_n hx hb dX3_runMinute_8 rfl (lv_at hl 0 rfl) ?_
      refine va_get (D := D) (ci := 3) (v := .int (σ 3 0)) (C := RX3) (T := TX3) (N := 5) hx hb hts in_X3_runMinute_X3 hown hK hP 3 rfl rfl 4 (by decide) (hts (.fieldLink RX3 25 "Warpyard$Trains" "count" "I") (by decide +kernel)) (fun _ h9 => h9) rfl dX3_runMinute_9 ?_
      refine lv_topi (fun v_12 e_12 => ?_)
      obtain rfl : v_12 = nI n := by rw [e_12]; exact hn
      refine lv_icmp_ge (tgt := 36) hx hb dX3_runMinute_12 (by decide) (fun c_12 => ?_) (fun c_12 => ?_)
      · skip
        rw [nI_leI (by omega) (by omega)] at c_12
        refine lv_iload hx hb dX3_runMinute_36 (lv_at hl 4 rfl) ?_
        exact MI.ret hx hb hr hlocks hK hP hD hS dX3_runMinute_38 (by have e : n = k := (by omega); subst e; exact ⟨rfl, hmv⟩)
      · skip
        rw [nI_leI (by omega) (by omega)] at c_12
        refine lv_aload_n hx hb dX3_runMinute_15 rfl (lv_at hl 0 rfl) ?_
        refine lv_iload hx hb dX3_runMinute_16 (lv_at hl 5 rfl) ?_
        refine lv_aload_n hx hb dX3_runMinute_18 rfl (lv_at hl 1 rfl) ?_
        refine lv_aload_n hx hb dX3_runMinute_19 rfl (lv_at hl 2 rfl) ?_
        refine lv_iload_n hx hb dX3_runMinute_20 rfl (lv_at hl 3 rfl) ?_
        refine MI.callV (As := [.int (nI k), .ref (a 1), .ref (a 13), .int mi]) (rest := []) ⟨hx, hb, hml, hown, hts⟩ (c_X3_step l D cI cZ a H.size σ n nb k mi (mvs (σ 2) (σ 14) (σ 15) (σ 16) (σ 17) (σ 6) n nb mi x k).1 hn hn4 (by omega) hnb hnb30 (mvs_blk hB k k (by omega) (by omega))) (cwV 4 hts gX3_runMinute_X3_step rfl rfl rfl (by decide +kernel) ⟨Nat.le_of_ble_eq_true rfl, Nat.le_of_ble_eq_true rfl⟩) hP hK hD hS hA (va_recv hK hP (ci := 3) (q0 := 3) rfl rfl) rfl hl.1 (Nat.le_of_ble_eq_true rfl) (Nat.zero_le _) (Nat.zero_le _) dX3_runMinute_21 rfl (fun r_21 u_21 H locs h_21 hP hD hS => ?_)
        obtain ⟨e_21, h_21⟩ := h_21
        have e_21 := Eq.symm e_21
        subst e_21
        have hP : va_P D vwCl (wX cI cZ a (va_up (va_up (va_up σ 4 ((stp (σ 2) (σ 14) (σ 15) (σ 16) (σ 17) (σ 6) n nb mi k (mvs (σ 2) (σ 14) (σ 15) (σ 16) (σ 17) (σ 6) n nb mi x k).1).1.1)) 5 ((stp (σ 2) (σ 14) (σ 15) (σ 16) (σ 17) (σ 6) n nb mi k (mvs (σ 2) (σ 14) (σ 15) (σ 16) (σ 17) (σ 6) n nb mi x k).1).1.2.1)) 7 ((stp (σ 2) (σ 14) (σ 15) (σ 16) (σ 17) (σ 6) n nb mi k (mvs (σ 2) (σ 14) (σ 15) (σ 16) (σ 17) (σ 6) n nb mi x k).1).1.2.2))) H := hP
        have hD : va_D A (wX cI cZ a (va_up (va_up (va_up σ 4 ((stp (σ 2) (σ 14) (σ 15) (σ 16) (σ 17) (σ 6) n nb mi k (mvs (σ 2) (σ 14) (σ 15) (σ 16) (σ 17) (σ 6) n nb mi x k).1).1.1)) 5 ((stp (σ 2) (σ 14) (σ 15) (σ 16) (σ 17) (σ 6) n nb mi k (mvs (σ 2) (σ 14) (σ 15) (σ 16) (σ 17) (σ 6) n nb mi x k).1).1.2.1)) 7 ((stp (σ 2) (σ 14) (σ 15) (σ 16) (σ 17) (σ 6) n nb mi k (mvs (σ 2) (σ 14) (σ 15) (σ 16) (σ 17) (σ 6) n nb mi x k).1).1.2.2))) := hD
        have h_21 : r_21 = (stp (σ 2) (σ 14) (σ 15) (σ 16) (σ 17) (σ 6) n nb mi k (mvs (σ 2) (σ 14) (σ 15) (σ 16) (σ 17) (σ 6) n nb mi x k).1).2 := h_21
        refine lv_if_eq (tgt := 30) hx hb dX3_runMinute_24 (by decide) (fun c_24 => ?_) (fun c_24 => ?_)
        · skip
          refine lv_iinc (v := nI (k + 1)) (lv' := [(5, .int (nI (k + 1))), (0, .ref (a 3)), (1, .ref (a 1)), (2, .ref (a 13)), (3, .int mi), (4, .int mv)]) hx hb dX3_runMinute_30 hl (k := 5) rfl (by exact nI_1 k) (by decide) rfl (fun ls hl => ?_)
          refine lv_goto (tgt := 6) hx hb dX3_runMinute_33 (by decide) ?_
          exact ih (k + 1) mv _ _ ls (by omega) (by omega) (by rw [mvs_2, ← hmv, ← h_21, c_24]; exact (Int32.add_zero _).symm) hP hD hS (lv_sub hl [1, 2, 3, 4, 5, 0] rfl)
        · skip
          refine lv_iinc (v := mv + 1) (lv' := [(4, .int (mv + 1)), (0, .ref (a 3)), (1, .ref (a 1)), (2, .ref (a 13)), (3, .int mi), (5, .int (nI k))]) hx hb dX3_runMinute_27 hl (k := 4) rfl rfl (by decide) rfl (fun ls hl => ?_)
          refine lv_iinc (v := nI (k + 1)) (lv' := [(5, .int (nI (k + 1))), (4, .int (mv + 1)), (0, .ref (a 3)), (1, .ref (a 1)), (2, .ref (a 13)), (3, .int mi)]) hx hb dX3_runMinute_30 hl (k := 5) rfl (by exact nI_1 k) (by decide) rfl (fun ls hl => ?_)
          refine lv_goto (tgt := 6) hx hb dX3_runMinute_33 (by decide) ?_
          exact ih (k + 1) (mv + 1) _ _ ls (by omega) (by omega) (by rw [mvs_2, ← hmv, ← h_21, stp_one h_21 c_24]) hP hD hS (lv_sub hl [2, 3, 4, 5, 1, 0] rfl)
  exact loop_6 (n + 1) 0 0 _ _ ls (by omega) (by omega) (by rfl) hP hD hS (lv_sub hl [2, 3, 4, 5, 1, 0] rfl)
set_option maxHeartbeats 4000000 in
set_option maxRecDepth 100000 in
/-- Trains.standingOn: the train on a block -/
theorem c_X3_standingOn_t (l : Launch) (D : va_G) (cI cZ : ClassId) (a : Nat → Nat) (sz : Nat) (σ : St) (w : Int32) (n : Nat) (hn : σ 8 0 = nI n) (hn4 : n ≤ 4) : MI l yX3_standingOn wsX3_standingOn ({ frames := 0, cells := 0, slots := 0, locals := 0 }) D (ty2 cI cZ) (wX cI cZ a) [.ref (a 8), .int w] σ sz (fun r u => u = σ ∧ r = so (σ 9) w n) := by
  refine MI.of (cc := cX3_standingOn) (maxL := 3) (by decide) rfl (Nat.le_of_ble_eq_true rfl) ?_
  intro p e s m args below meth c A H locs ls hx hb hr hml hown hts hlocks hA hS hP hK hD hl
  have hl : lv_has ls 3 [(0, .ref (a 8)), (1, .int w)] := hl
  refine lv_iconst (v := 0) hx hb dX3_standingOn_0 (by decide) ?_
  refine lv_istore_n (lv' := [(2, .int 0), (0, .ref (a 8)), (1, .int w)]) hx hb dX3_standingOn_1 rfl hl (by decide) rfl (fun ls hl => ?_)
  have loop_2 : ∀ (f : Nat) (k : Nat) (H : Heap) (locs : List Loc) (ls : Array Slot), n < k + f → k ≤ n → (∀ i, i < k → ¬ σ 9 i = w) → va_P D vwCl (wX cI cZ a σ) H → va_D A (wX cI cZ a σ) → va_S A s.heap H locs → lv_has ls 3 [(0, .ref (a 8)), (1, .int w), (2, .int (nI k))] → W p l e { frames := 0, cells := 0, slots := 0, locals := 0 } s m args below meth c H locs 0 0 (MQ below (va_Qi (fun r u => u = σ ∧ r = so (σ 9) w n) (PO D (ty2 cI cZ) (wX cI cZ a) A) A) args s 0 0 A) (F0 m 2 ls []) := by
    intro f
    induction f with
    | zero => intro k H locs ls hf hk hno; exact absurd hf (by omega)
    | succ f ih =>
      intro k H locs ls hf hk hno hP hD hS hl
      refine lv_iload_n hx hb dX3_standingOn_2 rfl (lv_at hl 2 rfl) ?_
      refine lv_aload_n hx hb dX3_standingOn_3 rfl (lv_at hl 0 rfl) ?_
      refine va_get (D := D) (ci := 3) (v := .int (σ 8 0)) (C := RX3) (T := TX3) (N := 5) hx hb hts in_X3_standingOn_X3 hown hK hP 8 rfl rfl 4 (by decide) (hts (.fieldLink RX3 25 "Warpyard$Trains" "count" "I") (by decide +kernel)) (fun _ h9 => h9) rfl dX3_standingOn_4 ?_
      refine lv_topi (fun v_7 e_7 => ?_)
      obtain rfl : v_7 = nI n := by rw [e_7]; exact hn
      refine lv_icmp_ge (tgt := 28) hx hb dX3_standingOn_7 (by decide) (fun c_7 => ?_) (fun c_7 => ?_)
      · skip
        rw [nI_leI (by omega) (by omega)] at c_7
        refine lv_iconst (v := (-1)) hx hb dX3_standingOn_28 (by decide) ?_
        exact MI.ret hx hb hr hlocks hK hP hD hS dX3_standingOn_29 (by exact ⟨rfl, (so_miss (fun i hi => hno i (by omega))).symm⟩)
      · skip
        rw [nI_leI (by omega) (by omega)] at c_7
        refine lv_aload_n hx hb dX3_standingOn_10 rfl (lv_at hl 0 rfl) ?_
        refine va_get (D := D) (ci := 3) (v := .ref (a 9)) (C := RX3) (T := TX3) (N := 5) hx hb hts in_X3_standingOn_X3 hown hK hP 8 rfl rfl 0 (by decide) (hts (.fieldLink RX3 9 "Warpyard$Trains" "block" "[I") (by decide +kernel)) (fun _ h9 => h9) rfl dX3_standingOn_11 ?_
        refine lv_iload_n hx hb dX3_standingOn_14 rfl (lv_at hl 2 rfl) ?_
        refine na_iald hx hb hK hP 9 0 (f := (σ 9)) rfl rfl k (by omega) (by decide) rfl dX3_standingOn_15 ?_
        refine lv_iload_n hx hb dX3_standingOn_16 rfl (lv_at hl 1 rfl) ?_
        refine lv_icmp_ne (tgt := 22) hx hb dX3_standingOn_17 (by decide) (fun c_17 => ?_) (fun c_17 => ?_)
        · skip
          refine lv_iinc (v := nI (k + 1)) (lv' := [(2, .int (nI (k + 1))), (0, .ref (a 8)), (1, .int w)]) hx hb dX3_standingOn_22 hl (k := 2) rfl (by exact nI_1 k) (by decide) rfl (fun ls hl => ?_)
          refine lv_goto (tgt := 2) hx hb dX3_standingOn_25 (by decide) ?_
          exact ih (k + 1) _ _ ls (by omega) (by omega) (by exact lt_s hno c_17) hP hD hS (lv_sub hl [1, 2, 0] rfl)
        · skip
          refine lv_iload_n hx hb dX3_standingOn_20 rfl (lv_at hl 2 rfl) ?_
          exact MI.ret hx hb hr hlocks hK hP hD hS dX3_standingOn_21 (by exact ⟨rfl, (so_hit c_17 hno (by omega) (by omega)).symm⟩)
  exact loop_2 (n + 1) 0 _ _ ls (by omega) (by omega) (by intro i hi; omega) hP hD hS (lv_sub hl [1, 2, 0] rfl)
set_option maxHeartbeats 4000000 in
set_option maxRecDepth 100000 in
/-- Trains.turnRound -/
theorem c_X3_turnRound_t (l : Launch) (D : va_G) (cI cZ : ClassId) (a : Nat → Nat) (sz : Nat) (σ : St) (k : Nat) (hk : k < 4) : MI l yX3_turnRound wsX3_turnRound ({ frames := 0, cells := 0, slots := 0, locals := 0 }) D (ty2 cI cZ) (wX cI cZ a) [.ref (a 8), .int (nI k)] σ sz (fun r u => u = (va_up σ 10 (upd (σ 10) k (fl (σ 10 k)))) ∧ r = fl (σ 10 k)) := by
  refine MI.of (cc := cX3_turnRound) (maxL := 2) (by decide) rfl (Nat.le_of_ble_eq_true rfl) ?_
  intro p e s m args below meth c A H locs ls hx hb hr hml hown hts hlocks hA hS hP hK hD hl
  have hl : lv_has ls 2 [(0, .ref (a 8)), (1, .int (nI k))] := hl
  refine lv_aload_n hx hb dX3_turnRound_0 rfl (lv_at hl 0 rfl) ?_
  refine va_get (D := D) (ci := 3) (v := .ref (a 10)) (C := RX3) (T := TX3) (N := 5) hx hb hts in_X3_turnRound_X3 hown hK hP 8 rfl rfl 1 (by decide) (hts (.fieldLink RX3 15 "Warpyard$Trains" "right" "[Z") (by decide +kernel)) (fun _ h9 => h9) rfl dX3_turnRound_1 ?_
  refine lv_iload_n hx hb dX3_turnRound_4 rfl (lv_at hl 1 rfl) ?_
  refine lv_aload_n hx hb dX3_turnRound_5 rfl (lv_at hl 0 rfl) ?_
  refine va_get (D := D) (ci := 3) (v := .ref (a 10)) (C := RX3) (T := TX3) (N := 5) hx hb hts in_X3_turnRound_X3 hown hK hP 8 rfl rfl 1 (by decide) (hts (.fieldLink RX3 15 "Warpyard$Trains" "right" "[Z") (by decide +kernel)) (fun _ h9 => h9) rfl dX3_turnRound_6 ?_
  refine lv_iload_n hx hb dX3_turnRound_9 rfl (lv_at hl 1 rfl) ?_
  refine na_zald hx hb hK hP 10 1 (f := (σ 10)) rfl rfl k (by omega) (by decide) rfl dX3_turnRound_10 ?_
  refine lv_if_ne (tgt := 18) hx hb dX3_turnRound_11 (by decide) (fun c_11 => ?_) (fun c_11 => ?_)
  · skip
    refine lv_iconst (v := 0) hx hb dX3_turnRound_18 (by decide) ?_
    refine na_zast hx hb hK hP hD hS 10 1 (f := (σ 10)) (x := 0) rfl rfl k (by omega) (by decide) rfl (Or.inl rfl) dX3_turnRound_19 (fun H locs hP hD hS => ?_)
    have hP : va_P D vwCl (wX cI cZ a (va_up σ 10 (upd (σ 10) k 0))) H := hP
    have hD : va_D A (wX cI cZ a (va_up σ 10 (upd (σ 10) k 0))) := hD
    refine lv_aload_n hx hb dX3_turnRound_20 rfl (lv_at hl 0 rfl) ?_
    refine va_get (D := D) (ci := 3) (v := .ref (a 10)) (C := RX3) (T := TX3) (N := 5) hx hb hts in_X3_turnRound_X3 hown hK hP 8 rfl rfl 1 (by decide) (hts (.fieldLink RX3 15 "Warpyard$Trains" "right" "[Z") (by decide +kernel)) (fun _ h9 => h9) rfl dX3_turnRound_21 ?_
    refine lv_iload_n hx hb dX3_turnRound_24 rfl (lv_at hl 1 rfl) ?_
    refine na_zald hx hb hK hP 10 1 (f := (upd (σ 10) k 0)) rfl rfl k (by omega) (by decide) rfl dX3_turnRound_25 ?_
    exact MI.zret hx hb hr hlocks hK hP hD hS dX3_turnRound_26 (nar_b (by rw [pk_us]; decide)) (by rw [fl_1 c_11]; exact ⟨rfl, pk_us⟩)
  · skip
    refine lv_iconst (v := 1) hx hb dX3_turnRound_14 (by decide) ?_
    refine lv_goto (tgt := 19) hx hb dX3_turnRound_15 (by decide) ?_
    refine na_zast hx hb hK hP hD hS 10 1 (f := (σ 10)) (x := 1) rfl rfl k (by omega) (by decide) rfl (Or.inr rfl) dX3_turnRound_19 (fun H locs hP hD hS => ?_)
    have hP : va_P D vwCl (wX cI cZ a (va_up σ 10 (upd (σ 10) k 1))) H := hP
    have hD : va_D A (wX cI cZ a (va_up σ 10 (upd (σ 10) k 1))) := hD
    refine lv_aload_n hx hb dX3_turnRound_20 rfl (lv_at hl 0 rfl) ?_
    refine va_get (D := D) (ci := 3) (v := .ref (a 10)) (C := RX3) (T := TX3) (N := 5) hx hb hts in_X3_turnRound_X3 hown hK hP 8 rfl rfl 1 (by decide) (hts (.fieldLink RX3 15 "Warpyard$Trains" "right" "[Z") (by decide +kernel)) (fun _ h9 => h9) rfl dX3_turnRound_21 ?_
    refine lv_iload_n hx hb dX3_turnRound_24 rfl (lv_at hl 1 rfl) ?_
    refine na_zald hx hb hK hP 10 1 (f := (upd (σ 10) k 1)) rfl rfl k (by omega) (by decide) rfl dX3_turnRound_25 ?_
    exact MI.zret hx hb hr hlocks hK hP hD hS dX3_turnRound_26 (nar_b (by rw [pk_us]; decide)) (by rw [fl_0 c_11]; exact ⟨rfl, pk_us⟩)
set_option maxHeartbeats 4000000 in
set_option maxRecDepth 100000 in
/-- Trains.step: one train in one minute -/
theorem c_X3_step_t (l : Launch) (D : va_G) (cI cZ : ClassId) (a : Nat → Nat) (sz : Nat) (σ : St) (n nb k : Nat) (mi : Int32) (x : T3) (hn : σ 8 0 = nI n) (hn4 : n ≤ 4) (hk : k < n) (hnb : σ 13 0 = nI nb) (hnb30 : nb ≤ 30) (hB : blk (x.1 k)) : MI l yX3_step wsX3_step ({ frames := 2, cells := 0, slots := 0, locals := 46 }) D (ty2 cI cZ) (wX cI cZ a) [.ref (a 8), .int (nI k), .ref (a 1), .ref (a 13), .int mi] (va_up (va_up (va_up σ 9 x.1) 10 x.2.1) 12 x.2.2) sz (fun r u => u = (va_up (va_up (va_up σ 9 ((stp (σ 2) (σ 14) (σ 15) (σ 16) (σ 17) (σ 11) n nb mi k x).1.1)) 10 ((stp (σ 2) (σ 14) (σ 15) (σ 16) (σ 17) (σ 11) n nb mi k x).1.2.1)) 12 ((stp (σ 2) (σ 14) (σ 15) (σ 16) (σ 17) (σ 11) n nb mi k x).1.2.2)) ∧ r = (stp (σ 2) (σ 14) (σ 15) (σ 16) (σ 17) (σ 11) n nb mi k x).2) := by
  refine MI.of (cc := cX3_step) (maxL := 6) (by decide) rfl (Nat.le_of_ble_eq_true rfl) ?_
  intro p e s m args below meth c A H locs ls hx hb hr hml hown hts hlocks hA hS hP hK hD hl
  have hl : lv_has ls 6 [(0, .ref (a 8)), (1, .int (nI k)), (2, .ref (a 1)), (3, .ref (a 13)), (4, .int mi)] := hl
  refine lv_aload_n hx hb dX3_step_0 rfl (lv_at hl 0 rfl) ?_
  refine va_get (D := D) (ci := 3) (v := .ref (a 12)) (C := RX3) (T := TX3) (N := 5) hx hb hts in_X3_step_X3 hown hK hP 8 rfl rfl 3 (by decide) (hts (.fieldLink RX3 22 "Warpyard$Trains" "delay" "[I") (by decide +kernel)) (fun _ h9 => h9) rfl dX3_step_1 ?_
  refine lv_iload_n hx hb dX3_step_4 rfl (lv_at hl 1 rfl) ?_
  refine na_iald hx hb hK hP 12 0 (f := x.2.2) rfl rfl k (by omega) (by decide) rfl dX3_step_5 ?_
  refine lv_if_le (tgt := 21) hx hb dX3_step_6 (by decide) (fun c_6 => ?_) (fun c_6 => ?_)
  · skip
    refine lv_aload_n hx hb dX3_step_21 rfl (lv_at hl 0 rfl) ?_
    refine va_get (D := D) (ci := 3) (v := .ref (a 11)) (C := RX3) (T := TX3) (N := 5) hx hb hts in_X3_step_X3 hown hK hP 8 rfl rfl 2 (by decide) (hts (.fieldLink RX3 19 "Warpyard$Trains" "held" "[Z") (by decide +kernel)) (fun _ h9 => h9) rfl dX3_step_22 ?_
    refine lv_iload_n hx hb dX3_step_25 rfl (lv_at hl 1 rfl) ?_
    refine na_zald hx hb hK hP 11 1 (f := (σ 11)) rfl rfl k (by omega) (by decide) rfl dX3_step_26 ?_
    refine lv_if_eq (tgt := 32) hx hb dX3_step_27 (by decide) (fun c_27 => ?_) (fun c_27 => ?_)
    · skip
      refine lv_aload_n hx hb dX3_step_32 rfl (lv_at hl 2 rfl) ?_
      refine lv_aload_n hx hb dX3_step_33 rfl (lv_at hl 0 rfl) ?_
      refine va_get (D := D) (ci := 3) (v := .ref (a 9)) (C := RX3) (T := TX3) (N := 5) hx hb hts in_X3_step_X3 hown hK hP 8 rfl rfl 0 (by decide) (hts (.fieldLink RX3 9 "Warpyard$Trains" "block" "[I") (by decide +kernel)) (fun _ h9 => h9) rfl dX3_step_34 ?_
      refine lv_iload_n hx hb dX3_step_37 rfl (lv_at hl 1 rfl) ?_
      refine na_iald hx hb hK hP 9 0 (f := x.1) rfl rfl k (by omega) (by decide) rfl dX3_step_38 ?_
      refine lv_aload_n hx hb dX3_step_39 rfl (lv_at hl 0 rfl) ?_
      refine va_get (D := D) (ci := 3) (v := .ref (a 10)) (C := RX3) (T := TX3) (N := 5) hx hb hts in_X3_step_X3 hown hK hP 8 rfl rfl 1 (by decide) (hts (.fieldLink RX3 15 "Warpyard$Trains" "right" "[Z") (by decide +kernel)) (fun _ h9 => h9) rfl dX3_step_40 ?_
      refine lv_iload_n hx hb dX3_step_43 rfl (lv_at hl 1 rfl) ?_
      refine na_zald hx hb hK hP 10 1 (f := x.2.1) rfl rfl k (by omega) (by decide) rfl dX3_step_44 ?_
      refine MI.callV (As := [.int (x.1 k), .int (x.2.1 k)]) (rest := []) ⟨hx, hb, hml, hown, hts⟩ (c_X2_ahead l D cI cZ a H.size (va_up (va_up (va_up σ 9 x.1) 10 x.2.1) 12 x.2.2) (x.1 k) (x.2.1 k) hB) (cwV 2 hts gX3_step_X2_ahead rfl rfl rfl (by decide +kernel) ⟨Nat.le_of_ble_eq_true rfl, Nat.le_of_ble_eq_true rfl⟩) hP hK hD hS hA (va_recv hK hP (ci := 2) (q0 := 1) rfl rfl) rfl hl.1 (Nat.le_of_ble_eq_true rfl) (Nat.zero_le _) (Nat.zero_le _) dX3_step_45 rfl (fun r_45 u_45 H locs h_45 hP hD hS => ?_)
      obtain ⟨e_45, h_45⟩ := h_45
      have e_45 := Eq.symm e_45
      subst e_45
      have h_45 : r_45 = ahd (σ 2) (x.1 k) (x.2.1 k) := h_45
      refine lv_istore (lv' := [(5, .int r_45), (0, .ref (a 8)), (1, .int (nI k)), (2, .ref (a 1)), (3, .ref (a 13)), (4, .int mi)]) hx hb dX3_step_48 hl (by decide) rfl (fun ls hl => ?_)
      refine lv_iload hx hb dX3_step_50 (lv_at hl 0 rfl) ?_
      refine lv_bipush (v := (-2)) hx hb dX3_step_52 (by decide) ?_
      refine lv_icmp_ne (tgt := 65) hx hb dX3_step_54 (by decide) (fun c_54 => ?_) (fun c_54 => ?_)
      · skip
        refine lv_iload hx hb dX3_step_65 (lv_at hl 0 rfl) ?_
        refine lv_iconst (v := (-1)) hx hb dX3_step_67 (by decide) ?_
        refine lv_icmp_eq (tgt := 93) hx hb dX3_step_68 (by decide) (fun c_68 => ?_) (fun c_68 => ?_)
        · skip
          refine lv_iconst (v := 0) hx hb dX3_step_93 (by decide) ?_
          exact MI.zret hx hb hr hlocks hK hP hD hS dX3_step_94 rfl (by subst h_45; rw [stp_b c_6 c_27 c_54 (Or.inl c_68)]; exact ⟨rfl, rfl⟩)
        · skip
          refine lv_aload_n hx hb dX3_step_71 rfl (lv_at hl 1 rfl) ?_
          refine lv_iload hx hb dX3_step_72 (lv_at hl 0 rfl) ?_
          refine MI.callV (As := [.int r_45]) (rest := []) ⟨hx, hb, hml, hown, hts⟩ (c_X3_standingOn_t l D cI cZ a H.size (va_up (va_up (va_up σ 9 x.1) 10 x.2.1) 12 x.2.2) r_45 n hn hn4) (cwV 1 hts gX3_step_X3_standingOn rfl rfl rfl (by decide +kernel) ⟨Nat.le_of_ble_eq_true rfl, Nat.le_of_ble_eq_true rfl⟩) hP hK hD hS hA (va_recv hK hP (ci := 3) (q0 := 8) rfl rfl) rfl hl.1 (Nat.le_of_ble_eq_true rfl) (Nat.zero_le _) (Nat.zero_le _) dX3_step_74 rfl (fun r_74 u_74 H locs h_74 hP hD hS => ?_)
          obtain ⟨e_74, h_74⟩ := h_74
          have e_74 := Eq.symm e_74
          subst e_74
          have h_74 : r_74 = so x.1 r_45 n := h_74
          refine lv_iconst (v := (-1)) hx hb dX3_step_77 (by decide) ?_
          refine lv_icmp_ne (tgt := 93) hx hb dX3_step_78 (by decide) (fun c_78 => ?_) (fun c_78 => ?_)
          · skip
            refine lv_iconst (v := 0) hx hb dX3_step_93 (by decide) ?_
            exact MI.zret hx hb hr hlocks hK hP hD hS dX3_step_94 rfl (by subst h_45; subst h_74; rw [stp_b c_6 c_27 c_54 (Or.inr (Or.inl c_78))]; exact ⟨rfl, rfl⟩)
          · skip
            refine lv_aload_n hx hb dX3_step_81 rfl (lv_at hl 4 rfl) ?_
            refine lv_iload_n hx hb dX3_step_82 rfl (lv_at hl 2 rfl) ?_
            refine lv_iload hx hb dX3_step_83 (lv_at hl 0 rfl) ?_
            refine lv_iload hx hb dX3_step_85 (lv_at hl 5 rfl) ?_
            refine MI.callV (As := [.int (nI k), .int r_45, .int mi]) (rest := []) ⟨hx, hb, hml, hown, hts⟩ (c_X0_isForAnother l D cI cZ a H.size (va_up (va_up (va_up σ 9 x.1) 10 x.2.1) 12 x.2.2) (nI k) r_45 mi nb hnb hnb30) (cwV 3 hts gX3_step_X0_isForAnother rfl rfl rfl (by decide +kernel) ⟨Nat.le_of_ble_eq_true rfl, Nat.le_of_ble_eq_true rfl⟩) hP hK hD hS hA (va_recv hK hP (ci := 0) (q0 := 13) rfl rfl) rfl hl.1 (Nat.le_of_ble_eq_true rfl) (Nat.zero_le _) (Nat.zero_le _) dX3_step_87 rfl (fun r_87 u_87 H locs h_87 hP hD hS => ?_)
            rcases h_87 with ⟨e_87, ⟨rfl, h_87⟩ | ⟨rfl, h_87⟩⟩
            · skip
              have e_87 := Eq.symm e_87
              subst e_87
              have h_87 : mts (σ 14) (σ 15) (σ 16) (σ 17) nb (nI k) r_45 mi mi := h_87
              refine lv_if_eq (tgt := 95) hx hb dX3_step_90 (by decide) (fun c9 => absurd c9 (by decide)) (fun _ => ?_)
              refine lv_iconst (v := 0) hx hb dX3_step_93 (by decide) ?_
              exact MI.zret hx hb hr hlocks hK hP hD hS dX3_step_94 rfl (by subst h_45; subst h_74; rw [stp_b c_6 c_27 c_54 (Or.inr (Or.inr h_87))]; exact ⟨rfl, rfl⟩)
            · skip
              have e_87 := Eq.symm e_87
              subst e_87
              have h_87 : ¬ mts (σ 14) (σ 15) (σ 16) (σ 17) nb (nI k) r_45 mi mi := h_87
              refine lv_if_eq (tgt := 95) hx hb dX3_step_90 (by decide) (fun _ => ?_) (fun c9 => absurd (by decide) c9)
              refine lv_aload_n hx hb dX3_step_95 rfl (lv_at hl 1 rfl) ?_
              refine va_get (D := D) (ci := 3) (v := .ref (a 9)) (C := RX3) (T := TX3) (N := 5) hx hb hts in_X3_step_X3 hown hK hP 8 rfl rfl 0 (by decide) (hts (.fieldLink RX3 9 "Warpyard$Trains" "block" "[I") (by decide +kernel)) (fun _ h9 => h9) rfl dX3_step_96 ?_
              refine lv_iload_n hx hb dX3_step_99 rfl (lv_at hl 2 rfl) ?_
              refine lv_iload hx hb dX3_step_100 (lv_at hl 0 rfl) ?_
              refine na_iast hx hb hK hP hD hS 9 0 (f := x.1) (x := r_45) rfl rfl k (by omega) (by decide) rfl dX3_step_102 (fun H locs hP hD hS => ?_)
              have hP : va_P D vwCl (wX cI cZ a (va_up (va_up (va_up σ 9 (upd x.1 k r_45)) 10 x.2.1) 12 x.2.2)) H := hP
              have hD : va_D A (wX cI cZ a (va_up (va_up (va_up σ 9 (upd x.1 k r_45)) 10 x.2.1) 12 x.2.2)) := hD
              refine lv_iconst (v := 1) hx hb dX3_step_103 (by decide) ?_
              exact MI.zret hx hb hr hlocks hK hP hD hS dX3_step_104 rfl (by subst h_45; subst h_74; rw [stp_m c_6 c_27 c_54 (by rintro (e | e | e) <;> first | exact c_68 e | exact e c_78 | exact h_87 e)]; exact ⟨rfl, rfl⟩)
      · skip
        refine lv_aload_n hx hb dX3_step_57 rfl (lv_at hl 1 rfl) ?_
        refine lv_iload_n hx hb dX3_step_58 rfl (lv_at hl 2 rfl) ?_
        refine MI.callV (As := [.int (nI k)]) (rest := []) ⟨hx, hb, hml, hown, hts⟩ (c_X3_turnRound_t l D cI cZ a H.size (va_up (va_up (va_up σ 9 x.1) 10 x.2.1) 12 x.2.2) k (by omega)) (cwV 1 hts gX3_step_X3_turnRound rfl rfl rfl (by decide +kernel) ⟨Nat.le_of_ble_eq_true rfl, Nat.le_of_ble_eq_true rfl⟩) hP hK hD hS hA (va_recv hK hP (ci := 3) (q0 := 8) rfl rfl) rfl hl.1 (Nat.le_of_ble_eq_true rfl) (Nat.zero_le _) (Nat.zero_le _) dX3_step_59 rfl (fun r_59 u_59 H locs h_59 hP hD hS => ?_)
        obtain ⟨e_59, h_59⟩ := h_59
        have e_59 := Eq.symm e_59
        subst e_59
        have hP : va_P D vwCl (wX cI cZ a (va_up (va_up (va_up σ 9 x.1) 10 (upd x.2.1 k (fl (x.2.1 k)))) 12 x.2.2)) H := hP
        have hD : va_D A (wX cI cZ a (va_up (va_up (va_up σ 9 x.1) 10 (upd x.2.1 k (fl (x.2.1 k)))) 12 x.2.2)) := hD
        have h_59 : r_59 = fl (x.2.1 k) := h_59
        refine lv_pop hx hb dX3_step_62 rfl ?_
        refine lv_iconst (v := 0) hx hb dX3_step_63 (by decide) ?_
        exact MI.zret hx hb hr hlocks hK hP hD hS dX3_step_64 rfl (by subst h_45; rw [stp_f c_6 c_27 c_54]; exact ⟨rfl, rfl⟩)
    · skip
      refine lv_iconst (v := 0) hx hb dX3_step_30 (by decide) ?_
      exact MI.zret hx hb hr hlocks hK hP hD hS dX3_step_31 rfl (by rw [stp_h c_6 c_27]; exact ⟨rfl, rfl⟩)
  · skip
    refine lv_aload_n hx hb dX3_step_9 rfl (lv_at hl 0 rfl) ?_
    refine va_get (D := D) (ci := 3) (v := .ref (a 12)) (C := RX3) (T := TX3) (N := 5) hx hb hts in_X3_step_X3 hown hK hP 8 rfl rfl 3 (by decide) (hts (.fieldLink RX3 22 "Warpyard$Trains" "delay" "[I") (by decide +kernel)) (fun _ h9 => h9) rfl dX3_step_10 ?_
    refine lv_iload_n hx hb dX3_step_13 rfl (lv_at hl 1 rfl) ?_
    refine lv_dup2_11 hx hb dX3_step_14 rfl rfl ?_
    refine na_iald hx hb hK hP 12 0 (f := x.2.2) rfl rfl k (by omega) (by decide) rfl dX3_step_15 ?_
    refine lv_iconst (v := 1) hx hb dX3_step_16 (by decide) ?_
    refine lv_isub hx hb dX3_step_17 ?_
    refine na_iast hx hb hK hP hD hS 12 0 (f := x.2.2) (x := (x.2.2 k) - 1) rfl rfl k (by omega) (by decide) rfl dX3_step_18 (fun H locs hP hD hS => ?_)
    have hP : va_P D vwCl (wX cI cZ a (va_up (va_up (va_up σ 9 x.1) 10 x.2.1) 12 (upd x.2.2 k ((x.2.2 k) - 1)))) H := hP
    have hD : va_D A (wX cI cZ a (va_up (va_up (va_up σ 9 x.1) 10 x.2.1) 12 (upd x.2.2 k ((x.2.2 k) - 1)))) := hD
    refine lv_iconst (v := 0) hx hb dX3_step_19 (by decide) ?_
    exact MI.zret hx hb hr hlocks hK hP hD hS dX3_step_20 rfl (by rw [stp_d c_6]; exact ⟨rfl, rfl⟩)
set_option maxHeartbeats 4000000 in
set_option maxRecDepth 100000 in
/-- Trains.runMinute: all trains, one minute -/
theorem c_X3_runMinute_t (l : Launch) (D : va_G) (cI cZ : ClassId) (a : Nat → Nat) (sz : Nat) (σ : St) (n nb : Nat) (mi : Int32) (x : T3) (hn : σ 8 0 = nI n) (hn4 : n ≤ 4) (hnb : σ 13 0 = nI nb) (hnb30 : nb ≤ 30) (hB : ∀ i, i < n → blk (x.1 i)) : MI l yX3_runMinute wsX3_runMinute ({ frames := 3, cells := 0, slots := 0, locals := 71 }) D (ty2 cI cZ) (wX cI cZ a) [.ref (a 8), .ref (a 1), .ref (a 13), .int mi] (va_up (va_up (va_up σ 9 x.1) 10 x.2.1) 12 x.2.2) sz (fun r u => u = (va_up (va_up (va_up σ 9 ((mvs (σ 2) (σ 14) (σ 15) (σ 16) (σ 17) (σ 11) n nb mi x n).1.1)) 10 ((mvs (σ 2) (σ 14) (σ 15) (σ 16) (σ 17) (σ 11) n nb mi x n).1.2.1)) 12 ((mvs (σ 2) (σ 14) (σ 15) (σ 16) (σ 17) (σ 11) n nb mi x n).1.2.2)) ∧ r = (mvs (σ 2) (σ 14) (σ 15) (σ 16) (σ 17) (σ 11) n nb mi x n).2) := by
  refine MI.of (cc := cX3_runMinute) (maxL := 6) (by decide) rfl (Nat.le_of_ble_eq_true rfl) ?_
  intro p e s m args below meth c A H locs ls hx hb hr hml hown hts hlocks hA hS hP hK hD hl
  have hl : lv_has ls 6 [(0, .ref (a 8)), (1, .ref (a 1)), (2, .ref (a 13)), (3, .int mi)] := hl
  refine lv_iconst (v := 0) hx hb dX3_runMinute_0 (by decide) ?_
  refine lv_istore (lv' := [(4, .int 0), (0, .ref (a 8)), (1, .ref (a 1)), (2, .ref (a 13)), (3, .int mi)]) hx hb dX3_runMinute_1 hl (by decide) rfl (fun ls hl => ?_)
  refine lv_iconst (v := 0) hx hb dX3_runMinute_3 (by decide) ?_
  refine lv_istore (lv' := [(5, .int 0), (4, .int 0), (0, .ref (a 8)), (1, .ref (a 1)), (2, .ref (a 13)), (3, .int mi)]) hx hb dX3_runMinute_4 hl (by decide) rfl (fun ls hl => ?_)
  have loop_6 : ∀ (f : Nat) (k : Nat) (mv : Int32) (H : Heap) (locs : List Loc) (ls : Array Slot), n < k + f → k ≤ n → mv = (mvs (σ 2) (σ 14) (σ 15) (σ 16) (σ 17) (σ 11) n nb mi x k).2 → va_P D vwCl (wX cI cZ a (va_up (va_up (va_up σ 9 ((mvs (σ 2) (σ 14) (σ 15) (σ 16) (σ 17) (σ 11) n nb mi x k).1.1)) 10 ((mvs (σ 2) (σ 14) (σ 15) (σ 16) (σ 17) (σ 11) n nb mi x k).1.2.1)) 12 ((mvs (σ 2) (σ 14) (σ 15) (σ 16) (σ 17) (σ 11) n nb mi x k).1.2.2))) H → va_D A (wX cI cZ a (va_up (va_up (va_up σ 9 ((mvs (σ 2) (σ 14) (σ 15) (σ 16) (σ 17) (σ 11) n nb mi x k).1.1)) 10 ((mvs (σ 2) (σ 14) (σ 15) (σ 16) (σ 17) (σ 11) n nb mi x k).1.2.1)) 12 ((mvs (σ 2) (σ 14) (σ 15) (σ 16) (σ 17) (σ 11) n nb mi x k).1.2.2))) → va_S A s.heap H locs → lv_has ls 6 [(0, .ref (a 8)), (1, .ref (a 1)), (2, .ref (a 13)), (3, .int mi), (4, .int mv), (5, .int (nI k))] → W p l e { frames := 3, cells := 0, slots := 0, locals := 71 } s m args below meth c H locs 0 0 (MQ below (va_Qi (fun r u => u = (va_up (va_up (va_up σ 9 ((mvs (σ 2) (σ 14) (σ 15) (σ 16) (σ 17) (σ 11) n nb mi x n).1.1)) 10 ((mvs (σ 2) (σ 14) (σ 15) (σ 16) (σ 17) (σ 11) n nb mi x n).1.2.1)) 12 ((mvs (σ 2) (σ 14) (σ 15) (σ 16) (σ 17) (σ 11) n nb mi x n).1.2.2)) ∧ r = (mvs (σ 2) (σ 14) (σ 15) (σ 16) (σ 17) (σ 11) n nb mi x n).2) (PO D (ty2 cI cZ) (wX cI cZ a) A) A) args s 0 0 A) (F0 m 6 ls []) := by
    intro f
    induction f with
    | zero => intro k mv H locs ls hf hk hmv; exact absurd hf (by omega)
    | succ f ih =>
      intro k mv H locs ls hf hk hmv hP hD hS hl
      refine lv_iload hx hb dX3_runMinute_6 (lv_at hl 5 rfl) ?_
      refine lv_aload_n hx hb dX3_runMinute_8 rfl (lv_at hl 0 rfl) ?_
      refine va_get (D := D) (ci := 3) (v := .int (σ 8 0)) (C := RX3) (T := TX3) (N := 5) hx hb hts in_X3_runMinute_X3 hown hK hP 8 rfl rfl 4 (by decide) (hts (.fieldLink RX3 25 "Warpyard$Trains" "count" "I") (by decide +kernel)) (fun _ h9 => h9) rfl dX3_runMinute_9 ?_
      refine lv_topi (fun v_12 e_12 => ?_)
      obtain rfl : v_12 = nI n := by rw [e_12]; exact hn
      refine lv_icmp_ge (tgt := 36) hx hb dX3_runMinute_12 (by decide) (fun c_12 => ?_) (fun c_12 => ?_)
      · skip
        rw [nI_leI (by omega) (by omega)] at c_12
        refine lv_iload hx hb dX3_runMinute_36 (lv_at hl 4 rfl) ?_
        exact MI.ret hx hb hr hlocks hK hP hD hS dX3_runMinute_38 (by have e : n = k := (by omega); subst e; exact ⟨rfl, hmv⟩)
      · skip
        rw [nI_leI (by omega) (by omega)] at c_12
        refine lv_aload_n hx hb dX3_runMinute_15 rfl (lv_at hl 0 rfl) ?_
        refine lv_iload hx hb dX3_runMinute_16 (lv_at hl 5 rfl) ?_
        refine lv_aload_n hx hb dX3_runMinute_18 rfl (lv_at hl 1 rfl) ?_
        refine lv_aload_n hx hb dX3_runMinute_19 rfl (lv_at hl 2 rfl) ?_
        refine lv_iload_n hx hb dX3_runMinute_20 rfl (lv_at hl 3 rfl) ?_
        refine MI.callV (As := [.int (nI k), .ref (a 1), .ref (a 13), .int mi]) (rest := []) ⟨hx, hb, hml, hown, hts⟩ (c_X3_step_t l D cI cZ a H.size σ n nb k mi (mvs (σ 2) (σ 14) (σ 15) (σ 16) (σ 17) (σ 11) n nb mi x k).1 hn hn4 (by omega) hnb hnb30 (mvs_blk hB k k (by omega) (by omega))) (cwV 4 hts gX3_runMinute_X3_step rfl rfl rfl (by decide +kernel) ⟨Nat.le_of_ble_eq_true rfl, Nat.le_of_ble_eq_true rfl⟩) hP hK hD hS hA (va_recv hK hP (ci := 3) (q0 := 8) rfl rfl) rfl hl.1 (Nat.le_of_ble_eq_true rfl) (Nat.zero_le _) (Nat.zero_le _) dX3_runMinute_21 rfl (fun r_21 u_21 H locs h_21 hP hD hS => ?_)
        obtain ⟨e_21, h_21⟩ := h_21
        have e_21 := Eq.symm e_21
        subst e_21
        have hP : va_P D vwCl (wX cI cZ a (va_up (va_up (va_up σ 9 ((stp (σ 2) (σ 14) (σ 15) (σ 16) (σ 17) (σ 11) n nb mi k (mvs (σ 2) (σ 14) (σ 15) (σ 16) (σ 17) (σ 11) n nb mi x k).1).1.1)) 10 ((stp (σ 2) (σ 14) (σ 15) (σ 16) (σ 17) (σ 11) n nb mi k (mvs (σ 2) (σ 14) (σ 15) (σ 16) (σ 17) (σ 11) n nb mi x k).1).1.2.1)) 12 ((stp (σ 2) (σ 14) (σ 15) (σ 16) (σ 17) (σ 11) n nb mi k (mvs (σ 2) (σ 14) (σ 15) (σ 16) (σ 17) (σ 11) n nb mi x k).1).1.2.2))) H := hP
        have hD : va_D A (wX cI cZ a (va_up (va_up (va_up σ 9 ((stp (σ 2) (σ 14) (σ 15) (σ 16) (σ 17) (σ 11) n nb mi k (mvs (σ 2) (σ 14) (σ 15) (σ 16) (σ 17) (σ 11) n nb mi x k).1).1.1)) 10 ((stp (σ 2) (σ 14) (σ 15) (σ 16) (σ 17) (σ 11) n nb mi k (mvs (σ 2) (σ 14) (σ 15) (σ 16) (σ 17) (σ 11) n nb mi x k).1).1.2.1)) 12 ((stp (σ 2) (σ 14) (σ 15) (σ 16) (σ 17) (σ 11) n nb mi k (mvs (σ 2) (σ 14) (σ 15) (σ 16) (σ 17) (σ 11) n nb mi x k).1).1.2.2))) := hD
        have h_21 : r_21 = (stp (σ 2) (σ 14) (σ 15) (σ 16) (σ 17) (σ 11) n nb mi k (mvs (σ 2) (σ 14) (σ 15) (σ 16) (σ 17) (σ 11) n nb mi x k).1).2 := h_21
        refine lv_if_eq (tgt := 30) hx hb dX3_runMinute_24 (by decide) (fun c_24 => ?_) (fun c_24 => ?_)
        · skip
          refine lv_iinc (v := nI (k + 1)) (lv' := [(5, .int (nI (k + 1))), (0, .ref (a 8)), (1, .ref (a 1)), (2, .ref (a 13)), (3, .int mi), (4, .int mv)]) hx hb dX3_runMinute_30 hl (k := 5) rfl (by exact nI_1 k) (by decide) rfl (fun ls hl => ?_)
          refine lv_goto (tgt := 6) hx hb dX3_runMinute_33 (by decide) ?_
          exact ih (k + 1) mv _ _ ls (by omega) (by omega) (by rw [mvs_2, ← hmv, ← h_21, c_24]; exact (Int32.add_zero _).symm) hP hD hS (lv_sub hl [1, 2, 3, 4, 5, 0] rfl)
        · skip
          refine lv_iinc (v := mv + 1) (lv' := [(4, .int (mv + 1)), (0, .ref (a 8)), (1, .ref (a 1)), (2, .ref (a 13)), (3, .int mi), (5, .int (nI k))]) hx hb dX3_runMinute_27 hl (k := 4) rfl rfl (by decide) rfl (fun ls hl => ?_)
          refine lv_iinc (v := nI (k + 1)) (lv' := [(5, .int (nI (k + 1))), (4, .int (mv + 1)), (0, .ref (a 8)), (1, .ref (a 1)), (2, .ref (a 13)), (3, .int mi)]) hx hb dX3_runMinute_30 hl (k := 5) rfl (by exact nI_1 k) (by decide) rfl (fun ls hl => ?_)
          refine lv_goto (tgt := 6) hx hb dX3_runMinute_33 (by decide) ?_
          exact ih (k + 1) (mv + 1) _ _ ls (by omega) (by omega) (by rw [mvs_2, ← hmv, ← h_21, stp_one h_21 c_24]) hP hD hS (lv_sub hl [2, 3, 4, 5, 1, 0] rfl)
  exact loop_6 (n + 1) 0 0 _ _ ls (by omega) (by omega) (by rfl) hP hD hS (lv_sub hl [2, 3, 4, 5, 1, 0] rfl)
set_option maxRecDepth 20000 in
theorem in_X0_markMet_X0 : ∀ w ∈ wsX00, w ∈ wsX0_markMet := by decide +kernel
set_option maxHeartbeats 4000000 in
set_option maxRecDepth 100000 in
/-- Bookings.markMet: which bookings are met behind a minute -/
theorem c_X0_markMet (l : Launch) (D : va_G) (cI cZ : ClassId) (a : Nat → Nat) (sz : Nat) (σ : St) (n nb : Nat) (mi : Int32) (Lt : Nat → Int32) (hn : σ 3 0 = nI n) (hn4 : n ≤ 4) (hnb : σ 13 0 = nI nb) (hnb30 : nb ≤ 30) : MV l yX0_markMet wsX0_markMet ({ frames := 1, cells := 0, slots := 0, locals := 22 }) D (ty2 cI cZ) (wX cI cZ a) [.ref (a 13), .ref (a 3), .int mi] (va_up σ 18 Lt) sz (fun u => u = (va_up σ 18 (mkm (σ 4) (σ 14) (σ 15) (σ 16) (σ 17) n mi Lt nb))) := by
  refine MV.of (cc := cX0_markMet) (maxL := 4) (by decide) rfl (Nat.le_of_ble_eq_true rfl) ?_
  intro p e s m args below meth c A H locs ls hx hb hr hml hown hts hlocks hA hS hP hK hD hl
  have hl : lv_has ls 4 [(0, .ref (a 13)), (1, .ref (a 3)), (2, .int mi)] := hl
  refine lv_iconst (v := 0) hx hb dX0_markMet_0 (by decide) ?_
  refine lv_istore_n (lv' := [(3, .int 0), (0, .ref (a 13)), (1, .ref (a 3)), (2, .int mi)]) hx hb dX0_markMet_1 rfl hl (by decide) rfl (fun ls hl => ?_)
  have loop_2 : ∀ (f : Nat) (k : Nat) (H : Heap) (locs : List Loc) (ls : Array Slot), nb < k + f → k ≤ nb → va_P D vwCl (wX cI cZ a (va_up σ 18 (mkm (σ 4) (σ 14) (σ 15) (σ 16) (σ 17) n mi Lt k))) H → va_D A (wX cI cZ a (va_up σ 18 (mkm (σ 4) (σ 14) (σ 15) (σ 16) (σ 17) n mi Lt k))) → va_S A s.heap H locs → lv_has ls 4 [(0, .ref (a 13)), (1, .ref (a 3)), (2, .int mi), (3, .int (nI k))] → W p l e { frames := 1, cells := 0, slots := 0, locals := 22 } s m args below meth c H locs 0 0 (MQ below (va_Qv (fun u => u = (va_up σ 18 (mkm (σ 4) (σ 14) (σ 15) (σ 16) (σ 17) n mi Lt nb))) (PO D (ty2 cI cZ) (wX cI cZ a) A) A) args s 0 0 A) (F0 m 2 ls []) := by
    intro f
    induction f with
    | zero => intro k H locs ls hf hk; exact absurd hf (by omega)
    | succ f ih =>
      intro k H locs ls hf hk hP hD hS hl
      refine lv_iload_n hx hb dX0_markMet_2 rfl (lv_at hl 3 rfl) ?_
      refine lv_aload_n hx hb dX0_markMet_3 rfl (lv_at hl 0 rfl) ?_
      refine va_get (D := D) (ci := 0) (v := .int (σ 13 0)) (C := RX0) (T := TX0) (N := 6) hx hb hts in_X0_markMet_X0 hown hK hP 13 rfl rfl 5 (by decide) (hts (.fieldLink RX0 27 "Warpyard$Bookings" "count" "I") (by decide +kernel)) (fun _ h9 => h9) rfl dX0_markMet_4 ?_
      refine lv_topi (fun v_7 e_7 => ?_)
      obtain rfl : v_7 = nI nb := by rw [e_7]; exact hnb
      refine lv_icmp_ge (tgt := 68) hx hb dX0_markMet_7 (by decide) (fun c_7 => ?_) (fun c_7 => ?_)
      · skip
        rw [nI_leI (by omega) (by omega)] at c_7
        exact MV.ret hx hb hr hlocks hK hP hD hS dX0_markMet_68 (by have e : nb = k := (by omega); subst e; rfl)
      · skip
        rw [nI_leI (by omega) (by omega)] at c_7
        refine lv_aload_n hx hb dX0_markMet_10 rfl (lv_at hl 0 rfl) ?_
        refine va_get (D := D) (ci := 0) (v := .ref (a 18)) (C := RX0) (T := TX0) (N := 6) hx hb hts in_X0_markMet_X0 hown hK hP 13 rfl rfl 4 (by decide) (hts (.fieldLink RX0 24 "Warpyard$Bookings" "lateness" "[I") (by decide +kernel)) (fun _ h9 => h9) rfl dX0_markMet_11 ?_
        refine lv_iload_n hx hb dX0_markMet_14 rfl (lv_at hl 3 rfl) ?_
        refine na_iald hx hb hK hP 18 0 (f := (mkm (σ 4) (σ 14) (σ 15) (σ 16) (σ 17) n mi Lt k)) rfl rfl k (by omega) (by decide) rfl dX0_markMet_15 ?_
        refine lv_iconst (v := (-1)) hx hb dX0_markMet_16 (by decide) ?_
        refine lv_icmp_ne (tgt := 62) hx hb dX0_markMet_17 (by decide) (fun c_17 => ?_) (fun c_17 => ?_)
        · skip
          refine lv_iinc (v := nI (k + 1)) (lv' := [(3, .int (nI (k + 1))), (0, .ref (a 13)), (1, .ref (a 3)), (2, .int mi)]) hx hb dX0_markMet_62 hl (k := 3) rfl (by exact nI_1 k) (by decide) rfl (fun ls hl => ?_)
          refine lv_goto (tgt := 2) hx hb dX0_markMet_65 (by decide) ?_
          have e9 : (mkm (σ 4) (σ 14) (σ 15) (σ 16) (σ 17) n mi Lt (k + 1)) = (mkm (σ 4) (σ 14) (σ 15) (σ 16) (σ 17) n mi Lt k) := by rw [mkm, cif_f (fun h => c_17 h.1)]
          rw [← e9] at hP hD
          exact ih (k + 1) _ _ ls (by omega) (by omega) hP hD hS (lv_sub hl [1, 2, 3, 0] rfl)
        · skip
          refine lv_aload_n hx hb dX0_markMet_20 rfl (lv_at hl 0 rfl) ?_
          refine lv_iload_n hx hb dX0_markMet_21 rfl (lv_at hl 3 rfl) ?_
          refine lv_iload_n hx hb dX0_markMet_22 rfl (lv_at hl 2 rfl) ?_
          refine MI.callV (As := [.int (nI k), .int mi]) (rest := []) ⟨hx, hb, hml, hown, hts⟩ (c_X0_isIn l D cI cZ a H.size (va_up σ 18 (mkm (σ 4) (σ 14) (σ 15) (σ 16) (σ 17) n mi Lt k)) k mi (by omega)) (cwV 2 hts gX0_markMet_X0_isIn rfl rfl rfl (by decide +kernel) ⟨Nat.le_of_ble_eq_true rfl, Nat.le_of_ble_eq_true rfl⟩) hP hK hD hS hA (va_recv hK hP (ci := 0) (q0 := 13) rfl rfl) rfl hl.1 (Nat.le_of_ble_eq_true rfl) (Nat.zero_le _) (Nat.zero_le _) dX0_markMet_23 rfl (fun r_23 u_23 H locs h_23 hP hD hS => ?_)
          rcases h_23 with ⟨e_23, ⟨rfl, h_23⟩ | ⟨rfl, h_23⟩⟩
          · skip
            have e_23 := Eq.symm e_23
            subst e_23
            have h_23 : inR mi ((σ 16) k) ((σ 17) k) := h_23
            refine lv_if_eq (tgt := 62) hx hb dX0_markMet_26 (by decide) (fun c9 => absurd c9 (by decide)) (fun _ => ?_)
            refine lv_aload_n hx hb dX0_markMet_29 rfl (lv_at hl 1 rfl) ?_
            refine lv_aload_n hx hb dX0_markMet_30 rfl (lv_at hl 0 rfl) ?_
            refine va_get (D := D) (ci := 0) (v := .ref (a 15)) (C := RX0) (T := TX0) (N := 6) hx hb hts in_X0_markMet_X0 hown hK hP 13 rfl rfl 1 (by decide) (hts (.fieldLink RX0 15 "Warpyard$Bookings" "block" "[I") (by decide +kernel)) (fun _ h9 => h9) rfl dX0_markMet_31 ?_
            refine lv_iload_n hx hb dX0_markMet_34 rfl (lv_at hl 3 rfl) ?_
            refine na_iald hx hb hK hP 15 0 (f := (σ 15)) rfl rfl k (by omega) (by decide) rfl dX0_markMet_35 ?_
            refine MI.callV (As := [.int (σ 15 k)]) (rest := []) ⟨hx, hb, hml, hown, hts⟩ (c_X3_standingOn l D cI cZ a H.size (va_up σ 18 (mkm (σ 4) (σ 14) (σ 15) (σ 16) (σ 17) n mi Lt k)) (σ 15 k) n hn hn4) (cwV 1 hts gX0_markMet_X3_standingOn rfl rfl rfl (by decide +kernel) ⟨Nat.le_of_ble_eq_true rfl, Nat.le_of_ble_eq_true rfl⟩) hP hK hD hS hA (va_recv hK hP (ci := 3) (q0 := 3) rfl rfl) rfl hl.1 (Nat.le_of_ble_eq_true rfl) (Nat.zero_le _) (Nat.zero_le _) dX0_markMet_36 rfl (fun r_36 u_36 H locs h_36 hP hD hS => ?_)
            obtain ⟨e_36, h_36⟩ := h_36
            have e_36 := Eq.symm e_36
            subst e_36
            have h_36 : r_36 = so (σ 4) (σ 15 k) n := h_36
            refine lv_aload_n hx hb dX0_markMet_39 rfl (lv_at hl 0 rfl) ?_
            refine va_get (D := D) (ci := 0) (v := .ref (a 14)) (C := RX0) (T := TX0) (N := 6) hx hb hts in_X0_markMet_X0 hown hK hP 13 rfl rfl 0 (by decide) (hts (.fieldLink RX0 9 "Warpyard$Bookings" "train" "[I") (by decide +kernel)) (fun _ h9 => h9) rfl dX0_markMet_40 ?_
            refine lv_iload_n hx hb dX0_markMet_43 rfl (lv_at hl 3 rfl) ?_
            refine na_iald hx hb hK hP 14 0 (f := (σ 14)) rfl rfl k (by omega) (by decide) rfl dX0_markMet_44 ?_
            refine lv_icmp_ne (tgt := 62) hx hb dX0_markMet_45 (by decide) (fun c_45 => ?_) (fun c_45 => ?_)
            · skip
              refine lv_iinc (v := nI (k + 1)) (lv' := [(3, .int (nI (k + 1))), (0, .ref (a 13)), (1, .ref (a 3)), (2, .int mi)]) hx hb dX0_markMet_62 hl (k := 3) rfl (by exact nI_1 k) (by decide) rfl (fun ls hl => ?_)
              refine lv_goto (tgt := 2) hx hb dX0_markMet_65 (by decide) ?_
              have e9 : (mkm (σ 4) (σ 14) (σ 15) (σ 16) (σ 17) n mi Lt (k + 1)) = (mkm (σ 4) (σ 14) (σ 15) (σ 16) (σ 17) n mi Lt k) := by rw [mkm, cif_f (fun h => c_45 (h_36.trans h.2.2))]
              rw [← e9] at hP hD
              exact ih (k + 1) _ _ ls (by omega) (by omega) hP hD hS (lv_sub hl [1, 2, 3, 0] rfl)
            · skip
              refine lv_aload_n hx hb dX0_markMet_48 rfl (lv_at hl 0 rfl) ?_
              refine va_get (D := D) (ci := 0) (v := .ref (a 18)) (C := RX0) (T := TX0) (N := 6) hx hb hts in_X0_markMet_X0 hown hK hP 13 rfl rfl 4 (by decide) (hts (.fieldLink RX0 24 "Warpyard$Bookings" "lateness" "[I") (by decide +kernel)) (fun _ h9 => h9) rfl dX0_markMet_49 ?_
              refine lv_iload_n hx hb dX0_markMet_52 rfl (lv_at hl 3 rfl) ?_
              refine lv_iload_n hx hb dX0_markMet_53 rfl (lv_at hl 2 rfl) ?_
              refine lv_aload_n hx hb dX0_markMet_54 rfl (lv_at hl 0 rfl) ?_
              refine va_get (D := D) (ci := 0) (v := .ref (a 16)) (C := RX0) (T := TX0) (N := 6) hx hb hts in_X0_markMet_X0 hown hK hP 13 rfl rfl 2 (by decide) (hts (.fieldLink RX0 18 "Warpyard$Bookings" "first" "[I") (by decide +kernel)) (fun _ h9 => h9) rfl dX0_markMet_55 ?_
              refine lv_iload_n hx hb dX0_markMet_58 rfl (lv_at hl 3 rfl) ?_
              refine na_iald hx hb hK hP 16 0 (f := (σ 16)) rfl rfl k (by omega) (by decide) rfl dX0_markMet_59 ?_
              refine lv_isub hx hb dX0_markMet_60 ?_
              refine na_iast hx hb hK hP hD hS 18 0 (f := (mkm (σ 4) (σ 14) (σ 15) (σ 16) (σ 17) n mi Lt k)) (x := mi - (σ 16 k)) rfl rfl k (by omega) (by decide) rfl dX0_markMet_61 (fun H locs hP hD hS => ?_)
              have hP : va_P D vwCl (wX cI cZ a (va_up σ 18 (upd (mkm (σ 4) (σ 14) (σ 15) (σ 16) (σ 17) n mi Lt k) k (mi - (σ 16 k))))) H := hP
              have hD : va_D A (wX cI cZ a (va_up σ 18 (upd (mkm (σ 4) (σ 14) (σ 15) (σ 16) (σ 17) n mi Lt k) k (mi - (σ 16 k))))) := hD
              refine lv_iinc (v := nI (k + 1)) (lv' := [(3, .int (nI (k + 1))), (0, .ref (a 13)), (1, .ref (a 3)), (2, .int mi)]) hx hb dX0_markMet_62 hl (k := 3) rfl (by exact nI_1 k) (by decide) rfl (fun ls hl => ?_)
              refine lv_goto (tgt := 2) hx hb dX0_markMet_65 (by decide) ?_
              have e9 : (mkm (σ 4) (σ 14) (σ 15) (σ 16) (σ 17) n mi Lt (k + 1)) = upd (mkm (σ 4) (σ 14) (σ 15) (σ 16) (σ 17) n mi Lt k) k (mi - σ 16 k) := by rw [mkm, cif_t ⟨c_17, h_23, h_36.symm.trans c_45⟩]
              rw [← e9] at hP hD
              exact ih (k + 1) _ _ ls (by omega) (by omega) hP hD hS (lv_sub hl [1, 2, 3, 0] rfl)
          · skip
            have e_23 := Eq.symm e_23
            subst e_23
            have h_23 : ¬ inR mi ((σ 16) k) ((σ 17) k) := h_23
            refine lv_if_eq (tgt := 62) hx hb dX0_markMet_26 (by decide) (fun _ => ?_) (fun c9 => absurd (by decide) c9)
            refine lv_iinc (v := nI (k + 1)) (lv' := [(3, .int (nI (k + 1))), (0, .ref (a 13)), (1, .ref (a 3)), (2, .int mi)]) hx hb dX0_markMet_62 hl (k := 3) rfl (by exact nI_1 k) (by decide) rfl (fun ls hl => ?_)
            refine lv_goto (tgt := 2) hx hb dX0_markMet_65 (by decide) ?_
            have e9 : (mkm (σ 4) (σ 14) (σ 15) (σ 16) (σ 17) n mi Lt (k + 1)) = (mkm (σ 4) (σ 14) (σ 15) (σ 16) (σ 17) n mi Lt k) := by rw [mkm, cif_f (fun h => h_23 h.2.1)]
            rw [← e9] at hP hD
            exact ih (k + 1) _ _ ls (by omega) (by omega) hP hD hS (lv_sub hl [1, 2, 3, 0] rfl)
  exact loop_2 (nb + 1) 0 _ _ ls (by omega) (by omega) hP hD hS (lv_sub hl [1, 2, 3, 0] rfl)
set_option maxRecDepth 20000 in
theorem in_X3_copyFrom_X3 : ∀ w ∈ wsX30, w ∈ wsX3_copyFrom := by decide +kernel
set_option maxHeartbeats 4000000 in
set_option maxRecDepth 100000 in
/-- Trains.copyFrom: the trial as the trains -/
theorem c_X3_copyFrom (l : Launch) (D : va_G) (cI cZ : ClassId) (a : Nat → Nat) (sz : Nat) (σ : St) (n : Nat) (hn : σ 3 0 = nI n) (hn4 : n ≤ 4) (hR : ∀ i, i < 4 → σ 5 i = 0 ∨ σ 5 i = 1) (hH : ∀ i, i < 4 → σ 6 i = 0 ∨ σ 6 i = 1) : MV l yX3_copyFrom wsX3_copyFrom ({ frames := 0, cells := 0, slots := 0, locals := 0 }) D (ty2 cI cZ) (wX cI cZ a) [.ref (a 8), .ref (a 3)] σ sz (fun u => u = (va_up (va_up (va_up (va_up (va_up σ 8 (fun _ => nI n)) 9 (cpn (σ 4) (σ 9) n)) 10 (cpn (σ 5) (σ 10) n)) 11 (cpn (σ 6) (σ 11) n)) 12 (cpn (σ 7) (σ 12) n))) := by
  refine MV.of (cc := cX3_copyFrom) (maxL := 3) (by decide) rfl (Nat.le_of_ble_eq_true rfl) ?_
  intro p e s m args below meth c A H locs ls hx hb hr hml hown hts hlocks hA hS hP hK hD hl
  have hl : lv_has ls 3 [(0, .ref (a 8)), (1, .ref (a 3))] := hl
  refine lv_aload_n hx hb dX3_copyFrom_0 rfl (lv_at hl 0 rfl) ?_
  refine lv_aload_n hx hb dX3_copyFrom_1 rfl (lv_at hl 1 rfl) ?_
  refine va_get (D := D) (ci := 3) (v := .int (σ 3 0)) (C := RX3) (T := TX3) (N := 5) hx hb hts in_X3_copyFrom_X3 hown hK hP 3 rfl rfl 4 (by decide) (hts (.fieldLink RX3 25 "Warpyard$Trains" "count" "I") (by decide +kernel)) (fun _ h9 => h9) rfl dX3_copyFrom_2 ?_
  refine lv_topi (fun v_5 e_5 => ?_)
  obtain rfl : v_5 = nI n := by rw [e_5]; exact hn
  refine va_put (D := D) (ci := 3) (v := .int (nI n)) (ty := .int) (C := RX3) (T := TX3) (N := 5) hx hb hts in_X3_copyFrom_X3 tyX3 tyX3_ok nmX3 hown hK hP hD hS 8 rfl rfl 4 (by decide) (hts (.fieldLink RX3 25 "Warpyard$Trains" "count" "I") (by decide +kernel)) (fun _ h9 => h9) rfl (by decide +kernel) rfl rfl (Nat.le_of_ble_eq_true rfl) dX3_copyFrom_5 (fun H locs hP hD hS => ?_)
  have hP : va_P D vwCl (wX cI cZ a (va_up σ 8 (fun _ => nI n))) H := hP
  have hD : va_D A (wX cI cZ a (va_up σ 8 (fun _ => nI n))) := hD
  refine lv_iconst (v := 0) hx hb dX3_copyFrom_8 (by decide) ?_
  refine lv_istore_n (lv' := [(2, .int 0), (0, .ref (a 8)), (1, .ref (a 3))]) hx hb dX3_copyFrom_9 rfl hl (by decide) rfl (fun ls hl => ?_)
  have loop_10 : ∀ (f : Nat) (k : Nat) (T9 : Nat → Int32) (T10 : Nat → Int32) (T11 : Nat → Int32) (T12 : Nat → Int32) (H : Heap) (locs : List Loc) (ls : Array Slot), n < k + f → k ≤ n → T9 = cpn (σ 4) (σ 9) k → T10 = cpn (σ 5) (σ 10) k → T11 = cpn (σ 6) (σ 11) k → T12 = cpn (σ 7) (σ 12) k → va_P D vwCl (wX cI cZ a (va_up (va_up (va_up (va_up (va_up σ 8 (fun _ => nI n)) 9 T9) 10 T10) 11 T11) 12 T12)) H → va_D A (wX cI cZ a (va_up (va_up (va_up (va_up (va_up σ 8 (fun _ => nI n)) 9 T9) 10 T10) 11 T11) 12 T12)) → va_S A s.heap H locs → lv_has ls 3 [(0, .ref (a 8)), (1, .ref (a 3)), (2, .int (nI k))] → W p l e { frames := 0, cells := 0, slots := 0, locals := 0 } s m args below meth c H locs 0 0 (MQ below (va_Qv (fun u => u = (va_up (va_up (va_up (va_up (va_up σ 8 (fun _ => nI n)) 9 (cpn (σ 4) (σ 9) n)) 10 (cpn (σ 5) (σ 10) n)) 11 (cpn (σ 6) (σ 11) n)) 12 (cpn (σ 7) (σ 12) n))) (PO D (ty2 cI cZ) (wX cI cZ a) A) A) args s 0 0 A) (F0 m 10 ls []) := by
    intro f
    induction f with
    | zero => intro k T9 T10 T11 T12 H locs ls hf hk h9 h10 h11 h12; exact absurd hf (by omega)
    | succ f ih =>
      intro k T9 T10 T11 T12 H locs ls hf hk h9 h10 h11 h12 hP hD hS hl
      refine lv_iload_n hx hb dX3_copyFrom_10 rfl (lv_at hl 2 rfl) ?_
      refine lv_aload_n hx hb dX3_copyFrom_11 rfl (lv_at hl 0 rfl) ?_
      refine va_get (D := D) (ci := 3) (v := .int (nI n)) (C := RX3) (T := TX3) (N := 5) hx hb hts in_X3_copyFrom_X3 hown hK hP 8 rfl rfl 4 (by decide) (hts (.fieldLink RX3 25 "Warpyard$Trains" "count" "I") (by decide +kernel)) (fun _ h9 => h9) rfl dX3_copyFrom_12 ?_
      refine lv_icmp_ge (tgt := 72) hx hb dX3_copyFrom_15 (by decide) (fun c_15 => ?_) (fun c_15 => ?_)
      · skip
        rw [nI_leI (by omega) (by omega)] at c_15
        exact MV.ret hx hb hr hlocks hK hP hD hS dX3_copyFrom_72 (by have e : n = k := (by omega); subst e; rw [h9, h10, h11, h12])
      · skip
        rw [nI_leI (by omega) (by omega)] at c_15
        refine lv_aload_n hx hb dX3_copyFrom_18 rfl (lv_at hl 0 rfl) ?_
        refine va_get (D := D) (ci := 3) (v := .ref (a 9)) (C := RX3) (T := TX3) (N := 5) hx hb hts in_X3_copyFrom_X3 hown hK hP 8 rfl rfl 0 (by decide) (hts (.fieldLink RX3 9 "Warpyard$Trains" "block" "[I") (by decide +kernel)) (fun _ h9 => h9) rfl dX3_copyFrom_19 ?_
        refine lv_iload_n hx hb dX3_copyFrom_22 rfl (lv_at hl 2 rfl) ?_
        refine lv_aload_n hx hb dX3_copyFrom_23 rfl (lv_at hl 1 rfl) ?_
        refine va_get (D := D) (ci := 3) (v := .ref (a 4)) (C := RX3) (T := TX3) (N := 5) hx hb hts in_X3_copyFrom_X3 hown hK hP 3 rfl rfl 0 (by decide) (hts (.fieldLink RX3 9 "Warpyard$Trains" "block" "[I") (by decide +kernel)) (fun _ h9 => h9) rfl dX3_copyFrom_24 ?_
        refine lv_iload_n hx hb dX3_copyFrom_27 rfl (lv_at hl 2 rfl) ?_
        refine na_iald hx hb hK hP 4 0 (f := (σ 4)) rfl rfl k (by omega) (by decide) rfl dX3_copyFrom_28 ?_
        refine na_iast hx hb hK hP hD hS 9 0 (f := T9) (x := σ 4 k) rfl rfl k (by omega) (by decide) rfl dX3_copyFrom_29 (fun H locs hP hD hS => ?_)
        have hP : va_P D vwCl (wX cI cZ a (va_up (va_up (va_up (va_up (va_up σ 8 (fun _ => nI n)) 9 (upd T9 k (σ 4 k))) 10 T10) 11 T11) 12 T12)) H := hP
        have hD : va_D A (wX cI cZ a (va_up (va_up (va_up (va_up (va_up σ 8 (fun _ => nI n)) 9 (upd T9 k (σ 4 k))) 10 T10) 11 T11) 12 T12)) := hD
        refine lv_aload_n hx hb dX3_copyFrom_30 rfl (lv_at hl 0 rfl) ?_
        refine va_get (D := D) (ci := 3) (v := .ref (a 10)) (C := RX3) (T := TX3) (N := 5) hx hb hts in_X3_copyFrom_X3 hown hK hP 8 rfl rfl 1 (by decide) (hts (.fieldLink RX3 15 "Warpyard$Trains" "right" "[Z") (by decide +kernel)) (fun _ h9 => h9) rfl dX3_copyFrom_31 ?_
        refine lv_iload_n hx hb dX3_copyFrom_34 rfl (lv_at hl 2 rfl) ?_
        refine lv_aload_n hx hb dX3_copyFrom_35 rfl (lv_at hl 1 rfl) ?_
        refine va_get (D := D) (ci := 3) (v := .ref (a 5)) (C := RX3) (T := TX3) (N := 5) hx hb hts in_X3_copyFrom_X3 hown hK hP 3 rfl rfl 1 (by decide) (hts (.fieldLink RX3 15 "Warpyard$Trains" "right" "[Z") (by decide +kernel)) (fun _ h9 => h9) rfl dX3_copyFrom_36 ?_
        refine lv_iload_n hx hb dX3_copyFrom_39 rfl (lv_at hl 2 rfl) ?_
        refine na_zald hx hb hK hP 5 1 (f := (σ 5)) rfl rfl k (by omega) (by decide) rfl dX3_copyFrom_40 ?_
        refine na_zast hx hb hK hP hD hS 10 1 (f := T10) (x := σ 5 k) rfl rfl k (by omega) (by decide) rfl (hR k (by omega)) dX3_copyFrom_41 (fun H locs hP hD hS => ?_)
        have hP : va_P D vwCl (wX cI cZ a (va_up (va_up (va_up (va_up (va_up σ 8 (fun _ => nI n)) 9 (upd T9 k (σ 4 k))) 10 (upd T10 k (σ 5 k))) 11 T11) 12 T12)) H := hP
        have hD : va_D A (wX cI cZ a (va_up (va_up (va_up (va_up (va_up σ 8 (fun _ => nI n)) 9 (upd T9 k (σ 4 k))) 10 (upd T10 k (σ 5 k))) 11 T11) 12 T12)) := hD
        refine lv_aload_n hx hb dX3_copyFrom_42 rfl (lv_at hl 0 rfl) ?_
        refine va_get (D := D) (ci := 3) (v := .ref (a 11)) (C := RX3) (T := TX3) (N := 5) hx hb hts in_X3_copyFrom_X3 hown hK hP 8 rfl rfl 2 (by decide) (hts (.fieldLink RX3 19 "Warpyard$Trains" "held" "[Z") (by decide +kernel)) (fun _ h9 => h9) rfl dX3_copyFrom_43 ?_
        refine lv_iload_n hx hb dX3_copyFrom_46 rfl (lv_at hl 2 rfl) ?_
        refine lv_aload_n hx hb dX3_copyFrom_47 rfl (lv_at hl 1 rfl) ?_
        refine va_get (D := D) (ci := 3) (v := .ref (a 6)) (C := RX3) (T := TX3) (N := 5) hx hb hts in_X3_copyFrom_X3 hown hK hP 3 rfl rfl 2 (by decide) (hts (.fieldLink RX3 19 "Warpyard$Trains" "held" "[Z") (by decide +kernel)) (fun _ h9 => h9) rfl dX3_copyFrom_48 ?_
        refine lv_iload_n hx hb dX3_copyFrom_51 rfl (lv_at hl 2 rfl) ?_
        refine na_zald hx hb hK hP 6 1 (f := (σ 6)) rfl rfl k (by omega) (by decide) rfl dX3_copyFrom_52 ?_
        refine na_zast hx hb hK hP hD hS 11 1 (f := T11) (x := σ 6 k) rfl rfl k (by omega) (by decide) rfl (hH k (by omega)) dX3_copyFrom_53 (fun H locs hP hD hS => ?_)
        have hP : va_P D vwCl (wX cI cZ a (va_up (va_up (va_up (va_up (va_up σ 8 (fun _ => nI n)) 9 (upd T9 k (σ 4 k))) 10 (upd T10 k (σ 5 k))) 11 (upd T11 k (σ 6 k))) 12 T12)) H := hP
        have hD : va_D A (wX cI cZ a (va_up (va_up (va_up (va_up (va_up σ 8 (fun _ => nI n)) 9 (upd T9 k (σ 4 k))) 10 (upd T10 k (σ 5 k))) 11 (upd T11 k (σ 6 k))) 12 T12)) := hD
        refine lv_aload_n hx hb dX3_copyFrom_54 rfl (lv_at hl 0 rfl) ?_
        refine va_get (D := D) (ci := 3) (v := .ref (a 12)) (C := RX3) (T := TX3) (N := 5) hx hb hts in_X3_copyFrom_X3 hown hK hP 8 rfl rfl 3 (by decide) (hts (.fieldLink RX3 22 "Warpyard$Trains" "delay" "[I") (by decide +kernel)) (fun _ h9 => h9) rfl dX3_copyFrom_55 ?_
        refine lv_iload_n hx hb dX3_copyFrom_58 rfl (lv_at hl 2 rfl) ?_
        refine lv_aload_n hx hb dX3_copyFrom_59 rfl (lv_at hl 1 rfl) ?_
        refine va_get (D := D) (ci := 3) (v := .ref (a 7)) (C := RX3) (T := TX3) (N := 5) hx hb hts in_X3_copyFrom_X3 hown hK hP 3 rfl rfl 3 (by decide) (hts (.fieldLink RX3 22 "Warpyard$Trains" "delay" "[I") (by decide +kernel)) (fun _ h9 => h9) rfl dX3_copyFrom_60 ?_
        refine lv_iload_n hx hb dX3_copyFrom_63 rfl (lv_at hl 2 rfl) ?_
        refine na_iald hx hb hK hP 7 0 (f := (σ 7)) rfl rfl k (by omega) (by decide) rfl dX3_copyFrom_64 ?_
        refine na_iast hx hb hK hP hD hS 12 0 (f := T12) (x := σ 7 k) rfl rfl k (by omega) (by decide) rfl dX3_copyFrom_65 (fun H locs hP hD hS => ?_)
        have hP : va_P D vwCl (wX cI cZ a (va_up (va_up (va_up (va_up (va_up σ 8 (fun _ => nI n)) 9 (upd T9 k (σ 4 k))) 10 (upd T10 k (σ 5 k))) 11 (upd T11 k (σ 6 k))) 12 (upd T12 k (σ 7 k)))) H := hP
        have hD : va_D A (wX cI cZ a (va_up (va_up (va_up (va_up (va_up σ 8 (fun _ => nI n)) 9 (upd T9 k (σ 4 k))) 10 (upd T10 k (σ 5 k))) 11 (upd T11 k (σ 6 k))) 12 (upd T12 k (σ 7 k)))) := hD
        refine lv_iinc (v := nI (k + 1)) (lv' := [(2, .int (nI (k + 1))), (0, .ref (a 8)), (1, .ref (a 3))]) hx hb dX3_copyFrom_66 hl (k := 2) rfl (by exact nI_1 k) (by decide) rfl (fun ls hl => ?_)
        refine lv_goto (tgt := 10) hx hb dX3_copyFrom_69 (by decide) ?_
        exact ih (k + 1) (upd T9 k (σ 4 k)) (upd T10 k (σ 5 k)) (upd T11 k (σ 6 k)) (upd T12 k (σ 7 k)) _ _ ls (by omega) (by omega) (by rw [h9, cpn_s]) (by rw [h10, cpn_s]) (by rw [h11, cpn_s]) (by rw [h12, cpn_s]) hP hD hS (lv_sub hl [1, 2, 0] rfl)
  exact loop_10 (n + 1) 0 (σ 9) (σ 10) (σ 11) (σ 12) _ _ ls (by omega) (by omega) (by exact (cpn_0 _ _).symm) (by exact (cpn_0 _ _).symm) (by exact (cpn_0 _ _).symm) (by exact (cpn_0 _ _).symm) hP hD hS (lv_sub hl [1, 2, 0] rfl)
set_option maxRecDepth 20000 in
theorem in_X3_add_X3 : ∀ w ∈ wsX30, w ∈ wsX3_add := by decide +kernel
set_option maxHeartbeats 4000000 in
set_option maxRecDepth 100000 in
/-- Trains.add -/
theorem c_X3_add (l : Launch) (D : va_G) (cI cZ : ClassId) (a : Nat → Nat) (sz : Nat) (σ : St) (b rt : Int32) (n : Nat) (hrt : rt = 0 ∨ rt = 1) (hn : σ 3 0 = nI n) (hn3 : n < 4) : MI l yX3_add wsX3_add ({ frames := 0, cells := 0, slots := 0, locals := 0 }) D (ty2 cI cZ) (wX cI cZ a) [.ref (a 3), .int b, .int rt] σ sz (fun r u => u = (va_up (va_up (va_up σ 3 (fun _ => nI (n + 1))) 4 (upd (σ 4) n b)) 5 (upd (σ 5) n rt)) ∧ r = nI n) := by
  refine MI.of (cc := cX3_add) (maxL := 4) (by decide) rfl (Nat.le_of_ble_eq_true rfl) ?_
  intro p e s m args below meth c A H locs ls hx hb hr hml hown hts hlocks hA hS hP hK hD hl
  have hl : lv_has ls 4 [(0, .ref (a 3)), (1, .int b), (2, .int rt)] := hl
  refine lv_aload_n hx hb dX3_add_0 rfl (lv_at hl 0 rfl) ?_
  refine va_get (D := D) (ci := 3) (v := .int (σ 3 0)) (C := RX3) (T := TX3) (N := 5) hx hb hts in_X3_add_X3 hown hK hP 3 rfl rfl 4 (by decide) (hts (.fieldLink RX3 25 "Warpyard$Trains" "count" "I") (by decide +kernel)) (fun _ h9 => h9) rfl dX3_add_1 ?_
  refine lv_topi (fun v_4 e_4 => ?_)
  obtain rfl : v_4 = nI n := by rw [e_4]; exact hn
  refine lv_istore_n (lv' := [(3, .int (nI n)), (0, .ref (a 3)), (1, .int b), (2, .int rt)]) hx hb dX3_add_4 rfl hl (by decide) rfl (fun ls hl => ?_)
  refine lv_aload_n hx hb dX3_add_5 rfl (lv_at hl 1 rfl) ?_
  refine va_get (D := D) (ci := 3) (v := .ref (a 4)) (C := RX3) (T := TX3) (N := 5) hx hb hts in_X3_add_X3 hown hK hP 3 rfl rfl 0 (by decide) (hts (.fieldLink RX3 9 "Warpyard$Trains" "block" "[I") (by decide +kernel)) (fun _ h9 => h9) rfl dX3_add_6 ?_
  refine lv_iload_n hx hb dX3_add_9 rfl (lv_at hl 0 rfl) ?_
  refine lv_iload_n hx hb dX3_add_10 rfl (lv_at hl 2 rfl) ?_
  refine na_iast hx hb hK hP hD hS 4 0 (f := (σ 4)) (x := b) rfl rfl n (by omega) (by decide) rfl dX3_add_11 (fun H locs hP hD hS => ?_)
  have hP : va_P D vwCl (wX cI cZ a (va_up σ 4 (upd (σ 4) n b))) H := hP
  have hD : va_D A (wX cI cZ a (va_up σ 4 (upd (σ 4) n b))) := hD
  refine lv_aload_n hx hb dX3_add_12 rfl (lv_at hl 1 rfl) ?_
  refine va_get (D := D) (ci := 3) (v := .ref (a 5)) (C := RX3) (T := TX3) (N := 5) hx hb hts in_X3_add_X3 hown hK hP 3 rfl rfl 1 (by decide) (hts (.fieldLink RX3 15 "Warpyard$Trains" "right" "[Z") (by decide +kernel)) (fun _ h9 => h9) rfl dX3_add_13 ?_
  refine lv_iload_n hx hb dX3_add_16 rfl (lv_at hl 0 rfl) ?_
  refine lv_iload_n hx hb dX3_add_17 rfl (lv_at hl 3 rfl) ?_
  refine na_zast hx hb hK hP hD hS 5 1 (f := (σ 5)) (x := rt) rfl rfl n (by omega) (by decide) rfl hrt dX3_add_18 (fun H locs hP hD hS => ?_)
  have hP : va_P D vwCl (wX cI cZ a (va_up (va_up σ 4 (upd (σ 4) n b)) 5 (upd (σ 5) n rt))) H := hP
  have hD : va_D A (wX cI cZ a (va_up (va_up σ 4 (upd (σ 4) n b)) 5 (upd (σ 5) n rt))) := hD
  refine lv_aload_n hx hb dX3_add_19 rfl (lv_at hl 1 rfl) ?_
  refine lv_dup hx hb dX3_add_20 rfl ?_
  refine va_get (D := D) (ci := 3) (v := .int (σ 3 0)) (C := RX3) (T := TX3) (N := 5) hx hb hts in_X3_add_X3 hown hK hP 3 rfl rfl 4 (by decide) (hts (.fieldLink RX3 25 "Warpyard$Trains" "count" "I") (by decide +kernel)) (fun _ h9 => h9) rfl dX3_add_21 ?_
  refine lv_topi (fun v_24 e_24 => ?_)
  obtain rfl : v_24 = nI n := by rw [e_24]; exact hn
  refine lv_iconst (v := 1) hx hb dX3_add_24 (by decide) ?_
  refine lv_iadd hx hb dX3_add_25 ?_
  refine lv_topi (fun v_26 e_26 => ?_)
  obtain rfl : v_26 = nI (n + 1) := by rw [e_26]; exact nI_1 n
  refine va_put (D := D) (ci := 3) (v := .int (nI (n + 1))) (ty := .int) (C := RX3) (T := TX3) (N := 5) hx hb hts in_X3_add_X3 tyX3 tyX3_ok nmX3 hown hK hP hD hS 3 rfl rfl 4 (by decide) (hts (.fieldLink RX3 25 "Warpyard$Trains" "count" "I") (by decide +kernel)) (fun _ h9 => h9) rfl (by decide +kernel) rfl rfl (Nat.le_of_ble_eq_true rfl) dX3_add_26 (fun H locs hP hD hS => ?_)
  have hP : va_P D vwCl (wX cI cZ a (va_up (va_up (va_up σ 3 (fun _ => nI (n + 1))) 4 (upd (σ 4) n b)) 5 (upd (σ 5) n rt))) H := hP
  have hD : va_D A (wX cI cZ a (va_up (va_up (va_up σ 3 (fun _ => nI (n + 1))) 4 (upd (σ 4) n b)) 5 (upd (σ 5) n rt))) := hD
  refine lv_iload_n hx hb dX3_add_29 rfl (lv_at hl 0 rfl) ?_
  exact MI.ret hx hb hr hlocks hK hP hD hS dX3_add_30 (by exact ⟨rfl, rfl⟩)
set_option maxRecDepth 20000 in
theorem in_X0_add_X0 : ∀ w ∈ wsX00, w ∈ wsX0_add := by decide +kernel
set_option maxHeartbeats 4000000 in
set_option maxRecDepth 100000 in
/-- Bookings.add -/
theorem c_X0_add (l : Launch) (D : va_G) (cI cZ : ClassId) (a : Nat → Nat) (sz : Nat) (σ : St) (t b fr to : Int32) (nb : Nat) (hnb : σ 13 0 = nI nb) (hnb29 : nb < 30) : MI l yX0_add wsX0_add ({ frames := 0, cells := 0, slots := 0, locals := 0 }) D (ty2 cI cZ) (wX cI cZ a) [.ref (a 13), .int t, .int b, .int fr, .int to] σ sz (fun r u => u = (va_up (va_up (va_up (va_up (va_up (va_up σ 13 (fun _ => nI (nb + 1))) 14 (upd (σ 14) nb t)) 15 (upd (σ 15) nb b)) 16 (upd (σ 16) nb fr)) 17 (upd (σ 17) nb to)) 18 (upd (σ 18) nb (-1))) ∧ r = nI nb) := by
  refine MI.of (cc := cX0_add) (maxL := 6) (by decide) rfl (Nat.le_of_ble_eq_true rfl) ?_
  intro p e s m args below meth c A H locs ls hx hb hr hml hown hts hlocks hA hS hP hK hD hl
  have hl : lv_has ls 6 [(0, .ref (a 13)), (1, .int t), (2, .int b), (3, .int fr), (4, .int to)] := hl
  refine lv_aload_n hx hb dX0_add_0 rfl (lv_at hl 0 rfl) ?_
  refine va_get (D := D) (ci := 0) (v := .int (σ 13 0)) (C := RX0) (T := TX0) (N := 6) hx hb hts in_X0_add_X0 hown hK hP 13 rfl rfl 5 (by decide) (hts (.fieldLink RX0 27 "Warpyard$Bookings" "count" "I") (by decide +kernel)) (fun _ h9 => h9) rfl dX0_add_1 ?_
  refine lv_topi (fun v_4 e_4 => ?_)
  obtain rfl : v_4 = nI nb := by rw [e_4]; exact hnb
  refine lv_istore (lv' := [(5, .int (nI nb)), (0, .ref (a 13)), (1, .int t), (2, .int b), (3, .int fr), (4, .int to)]) hx hb dX0_add_4 hl (by decide) rfl (fun ls hl => ?_)
  refine lv_aload_n hx hb dX0_add_6 rfl (lv_at hl 1 rfl) ?_
  refine va_get (D := D) (ci := 0) (v := .ref (a 14)) (C := RX0) (T := TX0) (N := 6) hx hb hts in_X0_add_X0 hown hK hP 13 rfl rfl 0 (by decide) (hts (.fieldLink RX0 9 "Warpyard$Bookings" "train" "[I") (by decide +kernel)) (fun _ h9 => h9) rfl dX0_add_7 ?_
  refine lv_iload hx hb dX0_add_10 (lv_at hl 0 rfl) ?_
  refine lv_iload_n hx hb dX0_add_12 rfl (lv_at hl 2 rfl) ?_
  refine na_iast hx hb hK hP hD hS 14 0 (f := (σ 14)) (x := t) rfl rfl nb (by omega) (by decide) rfl dX0_add_13 (fun H locs hP hD hS => ?_)
  have hP : va_P D vwCl (wX cI cZ a (va_up σ 14 (upd (σ 14) nb t))) H := hP
  have hD : va_D A (wX cI cZ a (va_up σ 14 (upd (σ 14) nb t))) := hD
  refine lv_aload_n hx hb dX0_add_14 rfl (lv_at hl 1 rfl) ?_
  refine va_get (D := D) (ci := 0) (v := .ref (a 15)) (C := RX0) (T := TX0) (N := 6) hx hb hts in_X0_add_X0 hown hK hP 13 rfl rfl 1 (by decide) (hts (.fieldLink RX0 15 "Warpyard$Bookings" "block" "[I") (by decide +kernel)) (fun _ h9 => h9) rfl dX0_add_15 ?_
  refine lv_iload hx hb dX0_add_18 (lv_at hl 0 rfl) ?_
  refine lv_iload_n hx hb dX0_add_20 rfl (lv_at hl 3 rfl) ?_
  refine na_iast hx hb hK hP hD hS 15 0 (f := (σ 15)) (x := b) rfl rfl nb (by omega) (by decide) rfl dX0_add_21 (fun H locs hP hD hS => ?_)
  have hP : va_P D vwCl (wX cI cZ a (va_up (va_up σ 14 (upd (σ 14) nb t)) 15 (upd (σ 15) nb b))) H := hP
  have hD : va_D A (wX cI cZ a (va_up (va_up σ 14 (upd (σ 14) nb t)) 15 (upd (σ 15) nb b))) := hD
  refine lv_aload_n hx hb dX0_add_22 rfl (lv_at hl 1 rfl) ?_
  refine va_get (D := D) (ci := 0) (v := .ref (a 16)) (C := RX0) (T := TX0) (N := 6) hx hb hts in_X0_add_X0 hown hK hP 13 rfl rfl 2 (by decide) (hts (.fieldLink RX0 18 "Warpyard$Bookings" "first" "[I") (by decide +kernel)) (fun _ h9 => h9) rfl dX0_add_23 ?_
  refine lv_iload hx hb dX0_add_26 (lv_at hl 0 rfl) ?_
  refine lv_iload_n hx hb dX0_add_28 rfl (lv_at hl 4 rfl) ?_
  refine na_iast hx hb hK hP hD hS 16 0 (f := (σ 16)) (x := fr) rfl rfl nb (by omega) (by decide) rfl dX0_add_29 (fun H locs hP hD hS => ?_)
  have hP : va_P D vwCl (wX cI cZ a (va_up (va_up (va_up σ 14 (upd (σ 14) nb t)) 15 (upd (σ 15) nb b)) 16 (upd (σ 16) nb fr))) H := hP
  have hD : va_D A (wX cI cZ a (va_up (va_up (va_up σ 14 (upd (σ 14) nb t)) 15 (upd (σ 15) nb b)) 16 (upd (σ 16) nb fr))) := hD
  refine lv_aload_n hx hb dX0_add_30 rfl (lv_at hl 1 rfl) ?_
  refine va_get (D := D) (ci := 0) (v := .ref (a 17)) (C := RX0) (T := TX0) (N := 6) hx hb hts in_X0_add_X0 hown hK hP 13 rfl rfl 3 (by decide) (hts (.fieldLink RX0 21 "Warpyard$Bookings" "last" "[I") (by decide +kernel)) (fun _ h9 => h9) rfl dX0_add_31 ?_
  refine lv_iload hx hb dX0_add_34 (lv_at hl 0 rfl) ?_
  refine lv_iload hx hb dX0_add_36 (lv_at hl 5 rfl) ?_
  refine na_iast hx hb hK hP hD hS 17 0 (f := (σ 17)) (x := to) rfl rfl nb (by omega) (by decide) rfl dX0_add_38 (fun H locs hP hD hS => ?_)
  have hP : va_P D vwCl (wX cI cZ a (va_up (va_up (va_up (va_up σ 14 (upd (σ 14) nb t)) 15 (upd (σ 15) nb b)) 16 (upd (σ 16) nb fr)) 17 (upd (σ 17) nb to))) H := hP
  have hD : va_D A (wX cI cZ a (va_up (va_up (va_up (va_up σ 14 (upd (σ 14) nb t)) 15 (upd (σ 15) nb b)) 16 (upd (σ 16) nb fr)) 17 (upd (σ 17) nb to))) := hD
  refine lv_aload_n hx hb dX0_add_39 rfl (lv_at hl 1 rfl) ?_
  refine va_get (D := D) (ci := 0) (v := .ref (a 18)) (C := RX0) (T := TX0) (N := 6) hx hb hts in_X0_add_X0 hown hK hP 13 rfl rfl 4 (by decide) (hts (.fieldLink RX0 24 "Warpyard$Bookings" "lateness" "[I") (by decide +kernel)) (fun _ h9 => h9) rfl dX0_add_40 ?_
  refine lv_iload hx hb dX0_add_43 (lv_at hl 0 rfl) ?_
  refine lv_iconst (v := (-1)) hx hb dX0_add_45 (by decide) ?_
  refine na_iast hx hb hK hP hD hS 18 0 (f := (σ 18)) (x := (-1)) rfl rfl nb (by omega) (by decide) rfl dX0_add_46 (fun H locs hP hD hS => ?_)
  have hP : va_P D vwCl (wX cI cZ a (va_up (va_up (va_up (va_up (va_up σ 14 (upd (σ 14) nb t)) 15 (upd (σ 15) nb b)) 16 (upd (σ 16) nb fr)) 17 (upd (σ 17) nb to)) 18 (upd (σ 18) nb (-1)))) H := hP
  have hD : va_D A (wX cI cZ a (va_up (va_up (va_up (va_up (va_up σ 14 (upd (σ 14) nb t)) 15 (upd (σ 15) nb b)) 16 (upd (σ 16) nb fr)) 17 (upd (σ 17) nb to)) 18 (upd (σ 18) nb (-1)))) := hD
  refine lv_aload_n hx hb dX0_add_47 rfl (lv_at hl 1 rfl) ?_
  refine lv_dup hx hb dX0_add_48 rfl ?_
  refine va_get (D := D) (ci := 0) (v := .int (σ 13 0)) (C := RX0) (T := TX0) (N := 6) hx hb hts in_X0_add_X0 hown hK hP 13 rfl rfl 5 (by decide) (hts (.fieldLink RX0 27 "Warpyard$Bookings" "count" "I") (by decide +kernel)) (fun _ h9 => h9) rfl dX0_add_49 ?_
  refine lv_topi (fun v_52 e_52 => ?_)
  obtain rfl : v_52 = nI nb := by rw [e_52]; exact hnb
  refine lv_iconst (v := 1) hx hb dX0_add_52 (by decide) ?_
  refine lv_iadd hx hb dX0_add_53 ?_
  refine lv_topi (fun v_54 e_54 => ?_)
  obtain rfl : v_54 = nI (nb + 1) := by rw [e_54]; exact nI_1 nb
  refine va_put (D := D) (ci := 0) (v := .int (nI (nb + 1))) (ty := .int) (C := RX0) (T := TX0) (N := 6) hx hb hts in_X0_add_X0 tyX0 tyX0_ok nmX0 hown hK hP hD hS 13 rfl rfl 5 (by decide) (hts (.fieldLink RX0 27 "Warpyard$Bookings" "count" "I") (by decide +kernel)) (fun _ h9 => h9) rfl (by decide +kernel) rfl rfl (Nat.le_of_ble_eq_true rfl) dX0_add_54 (fun H locs hP hD hS => ?_)
  have hP : va_P D vwCl (wX cI cZ a (va_up (va_up (va_up (va_up (va_up (va_up σ 13 (fun _ => nI (nb + 1))) 14 (upd (σ 14) nb t)) 15 (upd (σ 15) nb b)) 16 (upd (σ 16) nb fr)) 17 (upd (σ 17) nb to)) 18 (upd (σ 18) nb (-1)))) H := hP
  have hD : va_D A (wX cI cZ a (va_up (va_up (va_up (va_up (va_up (va_up σ 13 (fun _ => nI (nb + 1))) 14 (upd (σ 14) nb t)) 15 (upd (σ 15) nb b)) 16 (upd (σ 16) nb fr)) 17 (upd (σ 17) nb to)) 18 (upd (σ 18) nb (-1)))) := hD
  refine lv_iload hx hb dX0_add_57 (lv_at hl 0 rfl) ?_
  exact MI.ret hx hb hr hlocks hK hP hD hS dX0_add_59 (by exact ⟨rfl, rfl⟩)
