/-! what a call refuses, as a number: 0 nothing, else the place of its exception -/
theorem lt_suc {v hi hi' : Int32} (h : hi'.toInt = hi.toInt + 1) : v < hi' ↔ ¬ hi < v := by
  rw [Int32.lt_iff_toInt_lt, Int32.lt_iff_toInt_lt]
  omega
theorem le_nlt {v hi : Int32} : v ≤ hi ↔ ¬ hi < v := by
  rw [Int32.le_iff_toInt_le, Int32.lt_iff_toInt_lt]
  omega
/-- a number below n -/
def tr (n : Nat) (t : Int32) : Prop := ∃ k, k < n ∧ t = nI k
theorem tr_y {n : Nat} {t : Int32} (hn : n < 2 ^ 31) (h0 : ¬ t < 0) (h : t < nI n) : tr n t := by
  obtain ⟨k, hk, rfl⟩ := nI_of h0
  exact ⟨k, (nI_ltI hk hn).mp h, rfl⟩
theorem tr_1 {n : Nat} {t : Int32} (hn : n < 2 ^ 31) (h : tr n t) : ¬ t < 0 := by
  obtain ⟨k, hk, rfl⟩ := h
  exact nI_pos (by omega)
theorem tr_2 {n : Nat} {t : Int32} (hn : n < 2 ^ 31) (h : tr n t) : t < nI n := by
  obtain ⟨k, hk, rfl⟩ := h
  exact nI_lt hk hn
theorem tr_R {n : Nat} {t : Int32} (hn : n < 2 ^ 31) : tr n t ↔ inR t 0 (nI n - 1) := by
  have e : (nI n - 1).toInt = (n : Int) - 1 := by
    cases n with
    | zero => rfl
    | succ n => rw [nI_pred, nI_toInt (by omega)]; omega
  constructor
  · intro h
    refine ⟨tr_1 hn h, ?_⟩
    have h2 := tr_2 hn h
    rw [Int32.lt_iff_toInt_lt, nI_toInt hn] at h2
    rw [Int32.lt_iff_toInt_lt, e]
    omega
  · intro h
    refine tr_y hn h.1 ?_
    have h2 := h.2
    rw [Int32.lt_iff_toInt_lt, e] at h2
    rw [Int32.lt_iff_toInt_lt, nI_toInt hn]
    omega
theorem blk_R {b : Int32} : inR b 0 7 ↔ blk b := by
  constructor
  · intro h
    obtain ⟨k, hk, rfl⟩ := nI_of h.1
    have h2 := h.2
    rw [show (7 : Int32) = nI 7 from rfl, nI_ltI (by omega) hk] at h2
    rcases (show k = 0 ∨ k = 1 ∨ k = 2 ∨ k = 3 ∨ k = 4 ∨ k = 5 ∨ k = 6 ∨ k = 7 by omega) with rfl | rfl | rfl | rfl | rfl | rfl | rfl | rfl <;> (unfold blk; decide)
  · rintro (rfl | rfl | rfl | rfl | rfl | rfl | rfl | rfl) <;> exact ⟨by decide, by decide⟩
noncomputable def cdTr (n : Nat) (t : Int32) : Int32 := cif (tr n t) 0 1
noncomputable def cdAdd (σ : St) (n : Nat) (b : Int32) : Int32 := cif (inR b 0 7) (cif (¬ n = 4 ∧ so (σ 4) b n = -1) 0 2) 1
noncomputable def cdDelay (σ : St) (n : Nat) (t m : Int32) : Int32 := cif (tr n t) (cif (inR m 1 100) (cif (¬ 1000 < σ 7 t.toNatClampNeg + m) 0 2) 2) 1
noncomputable def cdSw (v : Int32) : Int32 := cif (inR v 0 1) 0 1
noncomputable def cdBl (b : Int32) : Int32 := cif (inR b 0 7) 0 1
noncomputable def cdRun (σ : St) (m : Int32) : Int32 := cif (inR m 1 100) (cif (¬ 5000 < σ 0 0 + m) 0 2) 1
noncomputable def cdRea (n : Nat) (t b : Int32) : Int32 := cif (tr n t ∧ inR b 0 7) 0 1
noncomputable def cdBook (σ : St) (n nb : Nat) (t b fr to : Int32) : Int32 := cif (tr n t ∧ inR b 0 7) (cif (inR fr (σ 0 0) 5000 ∧ inR to fr 5000) (cif (nb = 30) 3 0) 2) 1
noncomputable def cdCan (n : Nat) (t b fr to : Int32) : Int32 := cif (tr n t ∧ inR b 0 7) (cif (inR fr 0 5000 ∧ inR to fr 5000) 0 2) 1
/-- the row of a siding -/
def sR (v : Int32) : Nat := (v - 6).toNatClampNeg
noncomputable def cdAW (nw : Nat) (Z : Nat → Nat) (s w : Int32) : Int32 := cif (inR s 6 7) (cif (inR w 1 100) (cif (nw = 8 ∨ 4 ≤ Z (sR s)) 3 0) 2) 1
noncomputable def cdOf (nw : Nat) (w s mi pr : Int32) : Int32 := cif (tr nw w ∧ inR s 6 7) (cif (inR mi 0 5000 ∧ inR pr 1 1000) 0 2) 1
/-- the weight of the first p of a row's waggons -/
def wsJ (W : Nat → Int32) (J : Nat → Nat) : Nat → Int32
  | 0 => 0
  | p + 1 => wsJ W J p + W (J p)
noncomputable def cdCo (σ : St) (n : Nat) (Z : Nat → Nat) (J : Nat → Nat → Nat) (t : Int32) : Int32 :=
  cif (tr n t) (cif (inR (σ 4 t.toNatClampNeg) 6 7 ∧ ¬ Z (sR (σ 4 t.toNatClampNeg)) = 0 ∧ ¬ 100 < wsJ (σ 20) (J (2 + t.toNatClampNeg)) (Z (2 + t.toNatClampNeg)) + σ 20 (J (sR (σ 4 t.toNatClampNeg)) (Z (sR (σ 4 t.toNatClampNeg)) - 1))) 0 2) 1
noncomputable def cdLe (σ : St) (n : Nat) (Z : Nat → Nat) (t : Int32) : Int32 :=
  cif (tr n t) (cif (inR (σ 4 t.toNatClampNeg) 6 7 ∧ ¬ Z (2 + t.toNatClampNeg) = 0 ∧ ¬ 4 ≤ Z (sR (σ 4 t.toNatClampNeg))) 0 2) 1
noncomputable def cdAt (n : Nat) (w p : Int32) : Int32 := cif ((inR w 6 7 ∨ tr n (w - 10)) ∧ ¬ p < 0) 0 1
/-- the exceptions by their places -/
def xA (c : Int32) (E : String) : Prop := (E = eIO ∧ c = 1) ∨ (E = eIS ∧ c = 2)
def xB (c : Int32) (E : String) : Prop := (E = eIO ∧ c = 1) ∨ (E = eIA ∧ c = 2)
def xC (c : Int32) (E : String) : Prop := (E = eIA ∧ c = 1) ∨ (E = eIS ∧ c = 2)
def xD (c : Int32) (E : String) : Prop := (E = eIO ∧ c = 1) ∨ (E = eIA ∧ c = 2) ∨ (E = eIS ∧ c = 3)
def x1 (c : Int32) (E : String) : Prop := E = eIO ∧ c = 1
