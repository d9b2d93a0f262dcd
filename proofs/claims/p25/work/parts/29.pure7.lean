theorem ten_tr {n : Nat} {w : Int32} (hn : n ≤ 4) (h1 : ¬ w < 10) (h2 : w < nI (10 + n)) : ∃ k, k < n ∧ w - 10 = nI k := by
  have h0 : ¬ w < 0 := by
    rw [Int32.lt_iff_toInt_lt] at h1 ⊢
    have e1 : (10 : Int32).toInt = 10 := rfl
    have e0 : (0 : Int32).toInt = 0 := rfl
    omega
  obtain ⟨j, hj, rfl⟩ := nI_of h0
  rw [show (10 : Int32) = nI 10 from rfl, nI_ltI hj (by omega)] at h1
  rw [nI_ltI hj (by omega)] at h2
  exact ⟨j - 10, by omega, by rw [show (10 : Int32) = nI 10 from rfl, pk_sub (by omega)]⟩
theorem ten_w {n : Nat} {w : Int32} (h : tr n (w - 10)) : ∃ k, k < n ∧ w = nI (10 + k) := by
  obtain ⟨k, hk, e⟩ := h
  refine ⟨k, hk, ?_⟩
  have e2 : w = w - 10 + 10 := (Int32.sub_add_cancel w 10).symm
  rw [e2, e, show (10 : Int32) = nI 10 from rfl, nI_add, Nat.add_comm]
theorem ten_1 {n : Nat} {w : Int32} (hn : n ≤ 4) (h : tr n (w - 10)) : ¬ w < 10 := by
  obtain ⟨k, hk, rfl⟩ := ten_w h
  rw [show (10 : Int32) = nI 10 from rfl, nI_ltI (by omega) (by omega)]
  omega
theorem ten_2 {n : Nat} {w : Int32} (hn : n ≤ 4) (h : tr n (w - 10)) : w < nI (10 + n) := by
  obtain ⟨k, hk, rfl⟩ := ten_w h
  rw [nI_ltI (by omega) (by omega)]
  omega
theorem sq_blk {σ : St} {n nb : Nat} (h : ∀ i, i < n → blk (σ 4 i)) : ∀ j i, i < n → blk ((sq σ n nb j).1 i)
  | 0, i, hi => h i hi
  | j + 1, i, hi => mvs_blk (fun i hi => sq_blk h j i hi) n i hi (Nat.le_refl n)
theorem mi_e (a : Int32) (k : Nat) : a + nI (k + 1) - 1 = a + nI k := by
  rw [nI_succ, ← Int32.add_assoc, Int32.add_sub_cancel]
