/-! the pure pictures of waggons and offers -/
theorem ix_a (r z : Nat) : nI r * 8 + nI z = nI (r * 8 + z) := by
  rw [show (8 : Int32) = nI 8 from rfl, pk_mul, nI_add]
theorem ix_l (r : Nat) {z j : Nat} (h : j < z) : nI r * 8 + nI z - 1 - nI j = nI (r * 8 + (z - 1 - j)) := by
  rw [ix_a, show (1 : Int32) = nI 1 from rfl, pk_sub (by omega), pk_sub (by omega)]
  congr 1
  omega
/-- a row's waggon, counted from its first on, from its last on, and its last -/
def fFi (I : Nat → Int32) (r z : Nat) (p : Int32) : Int32 := if nI z ≤ p then -1 else I (r * 8 + p.toNatClampNeg)
def fLa (I : Nat → Int32) (r z : Nat) (p : Int32) : Int32 := if nI z ≤ p then -1 else I (r * 8 + (z - 1 - p.toNatClampNeg))
def lst (I : Nat → Int32) (r : Nat) : Nat → Int32
  | 0 => -1
  | z + 1 => I (r * 8 + z)
theorem fFi_n {I : Nat → Int32} {r z j : Nat} (h : z ≤ j) (hz : z < 2 ^ 31) (hj : j < 2 ^ 31) : fFi I r z (nI j) = -1 := by
  rw [fFi, if_pos ((nI_leI hz hj).mpr h)]
theorem fFi_y {I : Nat → Int32} {r z j : Nat} (h : j < z) (hz : z < 2 ^ 31) : fFi I r z (nI j) = I (r * 8 + j) := by
  have hj : j < 2 ^ 31 := by omega
  rw [fFi, if_neg (fun e => by rw [nI_leI hz hj] at e; omega), nI_clamp hj]
theorem fLa_n {I : Nat → Int32} {r z j : Nat} (h : z ≤ j) (hz : z < 2 ^ 31) (hj : j < 2 ^ 31) : fLa I r z (nI j) = -1 := by
  rw [fLa, if_pos ((nI_leI hz hj).mpr h)]
theorem fLa_y {I : Nat → Int32} {r z j : Nat} (h : j < z) (hz : z < 2 ^ 31) : fLa I r z (nI j) = I (r * 8 + (z - 1 - j)) := by
  have hj : j < 2 ^ 31 := by omega
  rw [fLa, if_neg (fun e => by rw [nI_leI hz hj] at e; omega), nI_clamp hj]
theorem fLa_0 {I : Nat → Int32} {r z : Nat} (hz : z < 2 ^ 31) : fLa I r z 0 = lst I r z := by
  rw [show (0 : Int32) = nI 0 from rfl]
  cases z with
  | zero => exact fLa_n (Nat.le_refl 0) (by omega) (by omega)
  | succ z =>
    rw [fLa_y (by omega) hz]
    rfl
/-- the weight of a row's first places -/
def wsm (W I : Nat → Int32) (r : Nat) : Nat → Int32
  | 0 => 0
  | p + 1 => wsm W I r p + W (I (r * 8 + p)).toNatClampNeg
def bh (m : Int32) : Int32 := if m ≤ 0 then 0 else (m + 60 - 1) / 60
theorem bh_0 {m : Int32} (h : m ≤ 0) : bh m = 0 := if_pos h
theorem bh_1 {m : Int32} (h : ¬ m ≤ 0) : bh m = (m + 60 - 1) / 60 := if_neg h
/-- what an offer of the price p by the minute m pays at the minute now -/
def pay (p m now : Int32) : Int32 := if 0 < p - 10 * bh (now - m) then p - 10 * bh (now - m) else 0
