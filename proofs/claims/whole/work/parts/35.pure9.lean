theorem many_s {V : Nat → Int32} {nw : Nat} {Z : Nat → Nat} {v : Int32} (h : ∀ r, r < 6 → mny V (wh r) nw = Z r) (hv : inR v 6 7) : mny V v nw = Z (sR v) := by
  have h1 := h (sR v) (sR_6 hv)
  rw [← wh_s hv] at h1
  exact h1
theorem Z_le {V : Nat → Int32} {nw : Nat} {Z : Nat → Nat} (h : ∀ r, r < 6 → mny V (wh r) nw = Z r) {r : Nat} (hr : r < 6) : Z r ≤ nw := by
  rw [← h r hr]
  exact mny_le _ _ _
theorem wgn_s {V P : Nat → Int32} {nw : Nat} {Z : Nat → Nat} {J : Nat → Nat → Nat} {v : Int32} {p : Nat} (hv : inR v 6 7) (h : ∀ r, r < 6 → ∀ p, p < Z r → wgn V P (wh r) (nI p) nw = nI (J r p) ∧ J r p < 8) (hp : p < Z (sR v)) : wgn V P v (nI p) nw = nI (J (sR v) p) ∧ J (sR v) p < 8 := by
  have h1 := h (sR v) (sR_6 hv) p hp
  rw [← wh_s hv] at h1
  exact h1
theorem nI_le0 {z nw : Nat} (hz : z ≤ nw) (hn : nw ≤ 8) (h : nI z ≤ 0) : z = 0 := by
  rw [show (0 : Int32) = nI 0 from rfl, nI_leI (by omega) (by omega)] at h
  omega
theorem fa_nlt {x y : Int32} (h : ¬ x < y) : y ≤ x := by
  rw [Int32.lt_iff_toInt_lt] at h
  rw [Int32.le_iff_toInt_le]
  omega
theorem w_t {w : Int32} {k : Nat} (e : w - 10 = nI k) : w = wh (2 + k) := by
  have e2 : w = w - 10 + 10 := (Int32.sub_add_cancel w 10).symm
  rw [e2, e, Int32.add_comm]
  exact wh_t k
/-- what the reference pays -/
def payM (p m now : Int32) : Int32 := if 0 ≤ p - 10 * (((if now ≤ m then 0 else now - m) + 59) / 60) then p - 10 * (((if now ≤ m then 0 else now - m) + 59) / 60) else 0
theorem py_aa {p m now : Int32} (h : now ≤ m) (h2 : 0 ≤ p - 0) : payM p m now = p - 0 := by rw [payM, if_pos h, show (10 : Int32) * ((0 + 59) / 60) = 0 by decide, if_pos h2]
theorem py_ab {p m now : Int32} (h : now ≤ m) (h2 : ¬ 0 ≤ p - 0) : payM p m now = 0 := by rw [payM, if_pos h, show (10 : Int32) * ((0 + 59) / 60) = 0 by decide, if_neg h2]
theorem py_ba {p m now : Int32} (h : ¬ now ≤ m) (h2 : 0 ≤ p - 10 * ((now - m + 59) / 60)) : payM p m now = p - 10 * ((now - m + 59) / 60) := by rw [payM, if_neg h, if_pos h2]
theorem py_bb {p m now : Int32} (h : ¬ now ≤ m) (h2 : ¬ 0 ≤ p - 10 * ((now - m + 59) / 60)) : payM p m now = 0 := by rw [payM, if_neg h, if_neg h2]
theorem wa_s {V P : Nat → Int32} {nw : Nat} {Z : Nat → Nat} {J : Nat → Nat → Nat} {v p : Int32} (hv : inR v 6 7) (h : ∀ r, r < 6 → ∀ p, p < Z r → wgn V P (wh r) (nI p) nw = nI (J r p) ∧ J r p < 8) (hz : Z (sR v) ≤ nw) (hn : nw ≤ 8) (hp : ¬ p < 0) (hl : p < nI (Z (sR v))) : wgn V P v (nI (Z (sR v)) - 1 - p) nw = waJ Z J v p := by
  obtain ⟨j, hj, rfl⟩ := nI_of hp
  rw [nI_ltI hj (by omega)] at hl
  rw [waJ, cif_t hv, fLJ, if_neg (fun e => by rw [nI_leI (by omega) hj] at e; omega), nI_clamp hj, show (1 : Int32) = nI 1 from rfl, pk_sub (by omega), pk_sub (by omega)]
  exact (wgn_s hv h (by omega)).1
theorem wa_t {V P : Nat → Int32} {n nw k : Nat} {Z : Nat → Nat} {J : Nat → Nat → Nat} {v p : Int32} (hv : ¬ inR v 6 7) (hk : k < n) (ek : v - 10 = nI k) (hn4 : n ≤ 4) (h : ∀ r, r < 6 → ∀ p, p < Z r → wgn V P (wh r) (nI p) nw = nI (J r p) ∧ J r p < 8) (hz : Z (2 + k) ≤ nw) (hn : nw ≤ 8) (hp : ¬ p < 0) (hl : p < nI (Z (2 + k))) : wgn V P v p nw = waJ Z J v p := by
  obtain ⟨j, hj, rfl⟩ := nI_of hp
  rw [nI_ltI hj (by omega)] at hl
  rw [waJ, cif_f hv, ek, nI_clamp (show k < 2 ^ 31 by omega), fFJ, if_neg (fun e => by rw [nI_leI (by omega) hj] at e; omega), nI_clamp hj, w_t ek]
  exact (h (2 + k) (by omega) j hl).1
theorem itM_blk {σ : St} {n nb : Nat} (h : ∀ i, i < n → blk (σ 4 i)) : ∀ j i, i < n → blk ((itM σ n nb j).1.1 i)
  | 0, i, hi => h i hi
  | j + 1, i, hi => by
    show blk (cpn (mvM σ n nb (itM σ n nb j)).1.1 _ n i)
    rw [cpn_in hi]
    refine mvs_blk (fun i hi => ?_) n i hi (Nat.le_refl n)
    show blk (cpn _ _ n i)
    rw [cpn_in hi]
    exact itM_blk h j i hi
theorem itM_R {σ : St} {n nb : Nat} (h : ∀ i, i < 4 → σ 5 i = 0 ∨ σ 5 i = 1) : ∀ j i, i < 4 → (itM σ n nb j).1.2.1 i = 0 ∨ (itM σ n nb j).1.2.1 i = 1
  | 0, i, hi => h i hi
  | j + 1, i, hi => by
    show cpn (mvM σ n nb (itM σ n nb j)).1.2.1 (itM σ n nb j).1.2.1 n i = 0 ∨ cpn (mvM σ n nb (itM σ n nb j)).1.2.1 (itM σ n nb j).1.2.1 n i = 1
    by_cases hin : i < n
    · rw [cpn_in hin]
      refine mvs_bool ?_ n
      show cpn _ _ n i = 0 ∨ cpn _ _ n i = 1
      rw [cpn_in hin]
      exact itM_R h j i hi
    · rw [cpn_out hin]
      exact itM_R h j i hi
