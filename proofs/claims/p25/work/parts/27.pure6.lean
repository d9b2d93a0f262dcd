theorem R_k2 {v : Int32} {f0 : Nat} (hf : f0 < 2 ^ 31) (h : inR v (nI f0) 5000) : ∃ k, f0 ≤ k ∧ k ≤ 5000 ∧ v = nI k := by
  have h0 : ¬ v < 0 := by
    have h1 := h.1
    rw [Int32.lt_iff_toInt_lt, nI_toInt hf] at h1
    rw [Int32.lt_iff_toInt_lt]
    have e0 : (0 : Int32).toInt = 0 := rfl
    omega
  obtain ⟨k, hk, rfl⟩ := nI_of h0
  have h1 := h.1
  have h2 := h.2
  rw [nI_ltI hk hf] at h1
  rw [show (5000 : Int32) = nI 5000 from rfl, nI_ltI (by omega) hk] at h2
  exact ⟨k, by omega, by omega, rfl⟩
theorem nle_lt {a b : Int32} (h : ¬ a ≤ b) : b < a := by
  rw [Int32.le_iff_toInt_le] at h
  rw [Int32.lt_iff_toInt_lt]
  omega
