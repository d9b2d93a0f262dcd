/-! what the class and the reference hold of the waggons -/
abbrev WI (nw : Nat) (Z : Nat → Nat) (J : Nat → Nat → Nat) (S I V P G : Nat → Int32) : Prop :=
  (nw ≤ 8) ∧
  (∀ r, r < 6 → S r = nI (Z r)) ∧
  (∀ r, r < 6 → ∀ p, p < Z r → I (r * 8 + p) = nI (J r p)) ∧
  (∀ r, r < 6 → ∀ p, p < Z r → J r p < nw ∧ V (J r p) = wh r ∧ P (J r p) = nI p) ∧
  (∀ w, w < nw → ∃ r p, r < 6 ∧ p < Z r ∧ J r p = w) ∧
  (∀ r, r < 6 → mny V (wh r) nw = Z r) ∧
  (∀ r, r < 6 → wgt G V (wh r) nw = wsJ G (J r) (Z r)) ∧
  (∀ r, r < 2 → Z r ≤ 4)
theorem WI.w8 {nw : Nat} {Z : Nat → Nat} {J : Nat → Nat → Nat} {S I V P G : Nat → Int32} (h : WI nw Z J S I V P G) : nw ≤ 8 := h.1
theorem WI.hQ {nw : Nat} {Z : Nat → Nat} {J : Nat → Nat → Nat} {S I V P G : Nat → Int32} (h : WI nw Z J S I V P G) : ∀ r, r < 6 → S r = nI (Z r) := h.2.1
theorem WI.hJ {nw : Nat} {Z : Nat → Nat} {J : Nat → Nat → Nat} {S I V P G : Nat → Int32} (h : WI nw Z J S I V P G) : ∀ r, r < 6 → ∀ p, p < Z r → I (r * 8 + p) = nI (J r p) := h.2.2.1
theorem WI.jA {nw : Nat} {Z : Nat → Nat} {J : Nat → Nat → Nat} {S I V P G : Nat → Int32} (h : WI nw Z J S I V P G) : ∀ r, r < 6 → ∀ p, p < Z r → J r p < nw ∧ V (J r p) = wh r ∧ P (J r p) = nI p := h.2.2.2.1
theorem WI.jB {nw : Nat} {Z : Nat → Nat} {J : Nat → Nat → Nat} {S I V P G : Nat → Int32} (h : WI nw Z J S I V P G) : ∀ w, w < nw → ∃ r p, r < 6 ∧ p < Z r ∧ J r p = w := h.2.2.2.2.1
theorem WI.hM {nw : Nat} {Z : Nat → Nat} {J : Nat → Nat → Nat} {S I V P G : Nat → Int32} (h : WI nw Z J S I V P G) : ∀ r, r < 6 → mny V (wh r) nw = Z r := h.2.2.2.2.2.1
theorem WI.hW {nw : Nat} {Z : Nat → Nat} {J : Nat → Nat → Nat} {S I V P G : Nat → Int32} (h : WI nw Z J S I V P G) : ∀ r, r < 6 → wgt G V (wh r) nw = wsJ G (J r) (Z r) := h.2.2.2.2.2.2.1
theorem WI.z4 {nw : Nat} {Z : Nat → Nat} {J : Nat → Nat → Nat} {S I V P G : Nat → Int32} (h : WI nw Z J S I V P G) : ∀ r, r < 2 → Z r ≤ 4 := h.2.2.2.2.2.2.2
theorem mny_2 {V : Nat → Int32} {w w2 : Int32} (h : ¬ w = w2) : ∀ k, mny V w k + mny V w2 k ≤ k
  | 0 => Nat.le_refl 0
  | k + 1 => by
    have e := mny_2 h (V := V) k
    rw [mny, mny]
    by_cases h1 : V k = w
    · rw [if_pos h1, if_neg (fun e => h (h1.symm.trans e))]; omega
    · by_cases h2 : V k = w2
      · rw [if_neg h1, if_pos h2]; omega
      · rw [if_neg h1, if_neg h2]; omega
theorem mny_out {V : Nat → Int32} {w v : Int32} {j : Nat} : ∀ {k}, k ≤ j → mny (upd V j v) w k = mny V w k
  | 0, _ => rfl
  | k + 1, h => by
    have e := mny_out (V := V) (w := w) (v := v) (j := j) (k := k) (by omega)
    rw [mny, mny, e, pk_un (show k ≠ j by omega)]
theorem mny_upd {V : Nat → Int32} {w v : Int32} {j : Nat} : ∀ {k}, j < k → mny (upd V j v) w k + (if V j = w then 1 else 0) = mny V w k + (if v = w then 1 else 0)
  | 0, h => absurd h (Nat.not_lt_zero j)
  | k + 1, h => by
    by_cases e : j = k
    · subst e
      rw [mny, mny, mny_out (Nat.le_refl j), pk_us]
      omega
    · have e2 := mny_upd (V := V) (w := w) (v := v) (j := j) (k := k) (by omega)
      rw [mny, mny, pk_un (show k ≠ j by omega)]
      omega
theorem wgt_out {G V : Nat → Int32} {w v : Int32} {j : Nat} : ∀ {k}, k ≤ j → wgt G (upd V j v) w k = wgt G V w k
  | 0, _ => rfl
  | k + 1, h => by
    have e := wgt_out (G := G) (V := V) (w := w) (v := v) (j := j) (k := k) (by omega)
    rw [wgt, wgt, e, pk_un (show k ≠ j by omega)]
theorem wgt_outG {G V : Nat → Int32} {w v : Int32} {j : Nat} : ∀ {k}, k ≤ j → wgt (upd G j v) V w k = wgt G V w k
  | 0, _ => rfl
  | k + 1, h => by
    have e := wgt_outG (G := G) (V := V) (w := w) (v := v) (j := j) (k := k) (by omega)
    rw [wgt, wgt, e, pk_un (show k ≠ j by omega)]
theorem ad_sw (a b c : Int32) : a + b + c = a + c + b := by rw [Int32.add_assoc, Int32.add_comm b c, ← Int32.add_assoc]
theorem wgt_upd {G V : Nat → Int32} {w v : Int32} {j : Nat} : ∀ {k}, j < k → wgt G (upd V j v) w k + (if V j = w then G j else 0) = wgt G V w k + (if v = w then G j else 0)
  | 0, h => absurd h (Nat.not_lt_zero j)
  | k + 1, h => by
    by_cases e : j = k
    · subst e
      rw [wgt, wgt, wgt_out (Nat.le_refl j), pk_us, ad_sw]
    · have e2 := wgt_upd (G := G) (V := V) (w := w) (v := v) (j := j) (k := k) (by omega)
      rw [wgt, wgt, pk_un (show k ≠ j by omega), ad_sw, e2, ad_sw]
theorem wsJ_ag {W W' : Nat → Int32} {J J' : Nat → Nat} : ∀ {z}, (∀ p, p < z → J' p = J p ∧ W' (J p) = W (J p)) → wsJ W' J' z = wsJ W J z
  | 0, _ => rfl
  | z + 1, h => by
    rw [wsJ, wsJ, wsJ_ag (fun p hp => h p (by omega)), (h z (by omega)).1, (h z (by omega)).2]
section WIS
variable {nw : Nat} {Z : Nat → Nat} {J : Nat → Nat → Nat} {S I V P G : Nat → Int32}
theorem WI.z (h : WI nw Z J S I V P G) {r : Nat} (hr : r < 6) : Z r ≤ nw := by rw [← h.hM r hr]; exact mny_le _ _ _
theorem WI.hQ8 (h : WI nw Z J S I V P G) : ∀ r, r < 6 → S r = nI (Z r) ∧ Z r ≤ 8 := fun r hr => ⟨h.hQ r hr, Nat.le_trans (h.z hr) h.w8⟩
theorem WI.hJ8 (h : WI nw Z J S I V P G) : ∀ r, r < 6 → ∀ p, p < Z r → I (r * 8 + p) = nI (J r p) ∧ J r p < 8 := fun r hr p hp => ⟨h.hJ r hr p hp, Nat.lt_of_lt_of_le (h.jA r hr p hp).1 h.w8⟩
theorem WI.hS8 (h : WI nw Z J S I V P G) : ∀ r r2, r < 6 → r2 < 6 → r ≠ r2 → Z r + Z r2 ≤ 8 := fun r r2 hr hr2 hne => by
  have e := mny_2 (V := V) (fun e => hne (wh_i hr hr2 e)) nw
  rw [h.hM r hr, h.hM r2 hr2] at e
  exact Nat.le_trans e h.w8
theorem WI.hG9 (h : WI nw Z J S I V P G) : ∀ r, r < 6 → ∀ p, p < Z r → wgn V P (wh r) (nI p) nw = nI (J r p) ∧ J r p < 8 := fun r hr p hp => by
  obtain ⟨a1, a2, a3⟩ := h.jA r hr p hp
  have h8 := h.w8
  refine ⟨wgn_hit ⟨a2, a3⟩ (fun i hi => ?_) a1 (by omega), by omega⟩
  rintro ⟨b1, b2⟩
  obtain ⟨r', p', hr', hp', e⟩ := h.jB i (by omega)
  subst e
  obtain ⟨c1, c2, c3⟩ := h.jA r' hr' p' hp'
  have e1 : r' = r := wh_i hr' hr (c2.symm.trans b1)
  subst e1
  have hz := h.z hr
  have e2 : p' = p := (nI_eq (by omega) (by omega)).mp (c3.symm.trans b2)
  subst e2
  omega
theorem wh_ne {r r2 : Nat} (h : r < 6) (h2 : r2 < 6) (e : ¬ r = r2) : ¬ wh r = wh r2 := fun q => e (wh_i h h2 q)
/-- a waggon comes into a siding -/
theorem WI.add (h : WI nw Z J S I V P G) {r : Nat} {w : Int32} (hr : r < 2) (hn : nw < 8) (hz : Z r < 4) :
    WI (nw + 1) (fun q => if q = r then Z r + 1 else Z q) (fun q p => if q = r ∧ p = Z r then nw else J q p) (upd S r (nI (Z r + 1))) (upd I (r * 8 + Z r) (nI nw)) (upd V nw (wh r)) (upd P nw (nI (Z r))) (upd G nw w) := by
  refine ⟨?_, ?_, ?_, ?_, ?_, ?_, ?_, ?_⟩
  · try dsimp only
    exact by omega
  · try dsimp only
    exact fun q hq => by
        by_cases e : q = r
        · subst e; rw [pk_us, if_pos rfl]
        · rw [pk_un e, if_neg e]; exact h.hQ q hq
  · try dsimp only
    exact fun q hq p hp => by
        by_cases e : q = r
        · subst e
          rw [if_pos rfl] at hp
          by_cases e2 : p = Z q
          · subst e2; rw [pk_us, if_pos ⟨rfl, rfl⟩]
          · rw [pk_un (show q * 8 + p ≠ q * 8 + Z q by omega), if_neg (fun x => e2 x.2)]
            exact h.hJ q hq p (by omega)
        · rw [if_neg e] at hp
          have h1 := h.z hq
          rw [pk_un (show q * 8 + p ≠ r * 8 + Z r by omega), if_neg (fun x => e x.1)]
          exact h.hJ q hq p hp
  · try dsimp only
    exact fun q hq p hp => by
        by_cases e : q = r ∧ p = Z r
        · rw [if_pos e, pk_us, pk_us, e.1, e.2]
          exact ⟨by omega, rfl, rfl⟩
        · have hp2 : p < Z q := by
            by_cases e1 : q = r
            · rw [if_pos e1] at hp
              have e2 : ¬ p = Z r := fun x => e ⟨e1, x⟩
              rw [e1]; omega
            · rw [if_neg e1] at hp; exact hp
          obtain ⟨a1, a2, a3⟩ := h.jA q hq p hp2
          rw [if_neg e, pk_un (show J q p ≠ nw by omega), pk_un (show J q p ≠ nw by omega)]
          exact ⟨by omega, a2, a3⟩
  · try dsimp only
    exact fun x hx => by
        by_cases e : x = nw
        · exact ⟨r, Z r, by omega, by rw [if_pos rfl]; omega, by rw [if_pos ⟨rfl, rfl⟩, e]⟩
        · obtain ⟨q, p, hq, hp, e2⟩ := h.jB x (by omega)
          refine ⟨q, p, hq, ?_, ?_⟩
          · by_cases e1 : q = r
            · rw [if_pos e1, ← e1]; omega
            · rw [if_neg e1]; exact hp
          · rw [if_neg (fun y => ?_)]
            · exact e2
            · rw [y.1, y.2] at hp
              omega
  · try dsimp only
    exact fun q hq => by
        rw [mny, mny_out (Nat.le_refl nw), pk_us, h.hM q hq]
        by_cases e : q = r
        · subst e; rw [if_pos rfl, if_pos rfl]
        · rw [if_neg e, if_neg (wh_ne (by omega) hq (fun x => e x.symm))]; rfl
  · try dsimp only
    exact fun q hq => by
        rw [wgt, wgt_out (Nat.le_refl nw), wgt_outG (Nat.le_refl nw), pk_us, pk_us, h.hW q hq]
        have hag : ∀ z, z ≤ Z q → wsJ (upd G nw w) (fun p => if q = r ∧ p = Z r then nw else J q p) z = wsJ G (J q) z := fun z hz2 => wsJ_ag (fun p hp => by
          have a1 := (h.jA q hq p (by omega)).1
          refine ⟨if_neg (fun x => ?_), pk_un (show J q p ≠ nw by omega)⟩
          rw [x.2] at hp
          rw [x.1] at hz2
          omega)
        by_cases e : q = r
        · subst e
          rw [if_pos rfl, if_pos rfl, wsJ, hag _ (Nat.le_refl _), if_pos ⟨rfl, rfl⟩, pk_us]
        · rw [if_neg e, if_neg (wh_ne (by omega) hq (fun x => e x.symm)), hag _ (Nat.le_refl _), Int32.add_zero]
  · try dsimp only
    exact fun q hq => by
        by_cases e : q = r
        · subst e; rw [if_pos rfl]; omega
        · rw [if_neg e]; exact h.z4 q hq
/-- a row's last waggon comes to another row's end -/
theorem WI.move (h : WI nw Z J S I V P G) {r r2 : Nat} (hr : r < 6) (hr2 : r2 < 6) (hne : ¬ r = r2) (hz : ¬ Z r = 0) (h4 : r2 < 2 → Z r2 < 4) :
    WI nw (fun q => if q = r then Z r - 1 else if q = r2 then Z r2 + 1 else Z q) (fun q p => if q = r2 ∧ p = Z r2 then J r (Z r - 1) else J q p) (upd (upd S r (nI (Z r - 1))) r2 (nI (Z r2 + 1))) (upd I (r2 * 8 + Z r2) (nI (J r (Z r - 1)))) (upd V (J r (Z r - 1)) (wh r2)) (upd P (J r (Z r - 1)) (nI (Z r2))) G := by
  refine ⟨?_, ?_, ?_, ?_, ?_, ?_, ?_, ?_⟩
  · try dsimp only
    exact h.w8
  · try dsimp only
    exact fun q hq => by
        by_cases e : q = r
        · subst e; rw [pk_un hne, pk_us, if_pos rfl]
        · by_cases e2 : q = r2
          · subst e2; rw [pk_us, if_neg e, if_pos rfl]
          · rw [pk_un e2, pk_un e, if_neg e, if_neg e2]; exact h.hQ q hq
  · try dsimp only
    exact fun q hq p hp => by
        by_cases e2 : q = r2 ∧ p = Z r2
        · rw [if_pos e2, e2.1, e2.2, pk_us]
        · have h1 := h.z hq
          have h8 := h.w8
          have h2 := h.hS8 r r2 hr hr2 hne
          have hp2 : p < Z q := by
            by_cases e : q = r
            · rw [if_pos e] at hp; rw [e]; omega
            · by_cases e3 : q = r2
              · rw [if_neg e, if_pos e3] at hp
                have e4 : ¬ p = Z r2 := fun x => e2 ⟨e3, x⟩
                rw [e3]; omega
              · rw [if_neg e, if_neg e3] at hp; exact hp
          rw [if_neg e2, pk_un (fun x => e2 (by omega))]
          exact h.hJ q hq p hp2
  · try dsimp only
    exact fun q hq p hp => by
        obtain ⟨j1, j2, j3⟩ := h.jA r hr (Z r - 1) (by omega)
        by_cases e2 : q = r2 ∧ p = Z r2
        · rw [if_pos e2, pk_us, pk_us, e2.1, e2.2]
          exact ⟨j1, rfl, rfl⟩
        · have hp2 : p < Z q := by
            by_cases e : q = r
            · rw [if_pos e] at hp; rw [e]; omega
            · by_cases e3 : q = r2
              · rw [if_neg e, if_pos e3] at hp
                have e4 : ¬ p = Z r2 := fun x => e2 ⟨e3, x⟩
                rw [e3]; omega
              · rw [if_neg e, if_neg e3] at hp; exact hp
          obtain ⟨a1, a2, a3⟩ := h.jA q hq p hp2
          have hj : J q p ≠ J r (Z r - 1) := fun x => by
            rw [x, j2] at a2
            have e := wh_i hr hq a2
            rw [x, j3] at a3
            have z1 := h.z hr
            have z2 := h.z hq
            have h8 := h.w8
            have e5 := (nI_eq (show Z r - 1 < 2 ^ 31 by omega) (show p < 2 ^ 31 by omega)).mp a3
            rw [if_pos e.symm] at hp
            omega
          rw [if_neg e2, pk_un hj, pk_un hj]
          exact ⟨a1, a2, a3⟩
  · try dsimp only
    exact fun x hx => by
        obtain ⟨q, p, hq, hp, e⟩ := h.jB x hx
        by_cases e1 : q = r ∧ p = Z r - 1
        · refine ⟨r2, Z r2, hr2, ?_, ?_⟩
          · rw [if_neg (fun y => hne y.symm), if_pos rfl]; omega
          · rw [if_pos ⟨rfl, rfl⟩, ← e, e1.1, e1.2]
        · refine ⟨q, p, hq, ?_, ?_⟩
          · by_cases e2 : q = r
            · rw [if_pos e2]
              have e3 : ¬ p = Z r - 1 := fun y => e1 ⟨e2, y⟩
              rw [e2] at hp; omega
            · by_cases e3 : q = r2
              · rw [if_neg e2, if_pos e3, ← e3]; omega
              · rw [if_neg e2, if_neg e3]; exact hp
          · rw [if_neg (fun y => ?_)]
            · exact e
            · rw [y.1, y.2] at hp; omega
  · try dsimp only
    exact fun q hq => by
        obtain ⟨j1, j2, j3⟩ := h.jA r hr (Z r - 1) (by omega)
        have e := mny_upd (V := V) (w := wh q) (v := wh r2) (j := J r (Z r - 1)) (k := nw) j1
        rw [j2, h.hM q hq] at e
        by_cases e1 : q = r
        · subst e1
          rw [if_pos rfl, if_neg (wh_ne hr2 hq (fun y => hne y.symm))] at e
          rw [if_pos rfl]; omega
        · rw [if_neg (wh_ne hr hq (fun y => e1 y.symm))] at e
          by_cases e2 : q = r2
          · subst e2
            rw [if_pos rfl] at e
            rw [if_neg e1, if_pos rfl]; omega
          · rw [if_neg (wh_ne hr2 hq (fun y => e2 y.symm))] at e
            rw [if_neg e1, if_neg e2]; omega
  · try dsimp only
    exact fun q hq => by
        obtain ⟨j1, j2, j3⟩ := h.jA r hr (Z r - 1) (by omega)
        have e := wgt_upd (G := G) (V := V) (w := wh q) (v := wh r2) (j := J r (Z r - 1)) (k := nw) j1
        rw [j2, h.hW q hq] at e
        have hag : ∀ z, z ≤ Z q → wsJ G (fun p => if q = r2 ∧ p = Z r2 then J r (Z r - 1) else J q p) z = wsJ G (J q) z := fun z hz2 => wsJ_ag (fun p hp => by
          refine ⟨if_neg (fun x => ?_), rfl⟩
          rw [x.2] at hp
          rw [x.1] at hz2
          omega)
        by_cases e1 : q = r
        · subst e1
          rw [if_pos rfl, if_neg (wh_ne hr2 hq (fun y => hne y.symm)), Int32.add_zero] at e
          rw [if_pos rfl, hag _ (by omega)]
          obtain ⟨y, ey⟩ : ∃ y, Z q = y + 1 := ⟨Z q - 1, by omega⟩
          rw [ey, Nat.add_sub_cancel] at e ⊢
          rw [wsJ] at e
          exact (Int32.add_left_inj _).mp e
        · rw [if_neg (wh_ne hr hq (fun y => e1 y.symm)), Int32.add_zero] at e
          by_cases e2 : q = r2
          · subst e2
            rw [if_pos rfl] at e
            rw [if_neg e1, if_pos rfl, e, wsJ, hag _ (Nat.le_refl _), if_pos ⟨rfl, rfl⟩]
          · rw [if_neg (wh_ne hr2 hq (fun y => e2 y.symm)), Int32.add_zero] at e
            rw [if_neg e1, if_neg e2, e, hag _ (Nat.le_refl _)]
  · try dsimp only
    exact fun q hq => by
        by_cases e : q = r
        · subst e
          have := h.z4 q hq
          rw [if_pos rfl]; omega
        · by_cases e2 : q = r2
          · subst e2
            have := h4 hq
            rw [if_neg e, if_pos rfl]; omega
          · rw [if_neg e, if_neg e2]; exact h.z4 q hq
end WIS
