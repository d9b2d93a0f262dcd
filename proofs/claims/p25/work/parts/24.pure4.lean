theorem ge_suc {v hi hi' : Int32} (e : hi'.toInt = hi.toInt + 1) (h : hi' ≤ v) : hi < v := by
  rw [Int32.le_iff_toInt_le] at h
  rw [Int32.lt_iff_toInt_lt]
  omega
theorem nge_suc {v hi hi' : Int32} (e : hi'.toInt = hi.toInt + 1) (h : ¬ hi' ≤ v) : ¬ hi < v := by
  rw [Int32.le_iff_toInt_le] at h
  rw [Int32.lt_iff_toInt_lt]
  omega
theorem sd_2 {v : Int32} (h : inR v 6 7) : v = 6 ∨ v = 7 := by
  obtain ⟨h1, h2⟩ := h
  rw [Int32.lt_iff_toInt_lt] at h1 h2
  have e6 : (6 : Int32).toInt = 6 := rfl
  have e7 : (7 : Int32).toInt = 7 := rfl
  rcases (show v.toInt = 6 ∨ v.toInt = 7 by omega) with e | e
  · exact Or.inl (Int32.toInt_inj.mp (by rw [e]; rfl))
  · exact Or.inr (Int32.toInt_inj.mp (by rw [e]; rfl))
theorem sR_2 {v : Int32} (h : inR v 6 7) : sR v < 2 := by
  rcases sd_2 h with rfl | rfl <;> decide
theorem sR_6 {v : Int32} (h : inR v 6 7) : sR v < 6 := Nat.lt_trans (sR_2 h) (by decide)
theorem sR_e {v : Int32} (h : inR v 6 7) : v - 6 = nI (sR v) := by
  rcases sd_2 h with rfl | rfl <;> decide
theorem nI_lt4 {z : Nat} (hz : z ≤ 8) (h : ¬ 4 ≤ z) : nI z < 4 := by
  rw [show (4 : Int32) = nI 4 from rfl, nI_ltI (by omega) (by omega)]
  omega
theorem nI_lt4' {z : Nat} (hz : z ≤ 8) (h : nI z < 4) : ¬ 4 ≤ z := by
  rw [show (4 : Int32) = nI 4 from rfl, nI_ltI (by omega) (by omega)] at h
  omega
