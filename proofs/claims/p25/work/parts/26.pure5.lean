/-! rows of waggons by what stands where (Z: how many in a row, J: which), minutes, what is reached -/
theorem sw_k {v : Int32} (h0 : ¬ v < 0) (h : v < 2) : ∃ k, k < 2 ∧ v = nI k := by
  obtain ⟨k, hk, rfl⟩ := nI_of h0
  rw [show (2 : Int32) = nI 2 from rfl, nI_ltI hk (by omega)] at h
  exact ⟨k, h, rfl⟩
theorem R_k {v : Int32} {hi : Nat} (hh : hi < 2 ^ 31) (h : inR v 0 (nI hi)) : ∃ k, k ≤ hi ∧ v = nI k := by
  obtain ⟨k, hk, rfl⟩ := nI_of h.1
  have h2 := h.2
  rw [nI_ltI hh hk] at h2
  exact ⟨k, by omega, rfl⟩
theorem R_k1 {v : Int32} (h : inR v 1 100) : ∃ k, 1 ≤ k ∧ k ≤ 100 ∧ v = nI k := by
  have h0 : ¬ v < 0 := by
    have h1 := h.1
    rw [Int32.lt_iff_toInt_lt] at h1 ⊢
    have e1 : (1 : Int32).toInt = 1 := rfl
    have e0 : (0 : Int32).toInt = 0 := rfl
    omega
  obtain ⟨k, hk, rfl⟩ := nI_of h0
  have h1 := h.1
  have h2 := h.2
  rw [show (1 : Int32) = nI 1 from rfl, nI_ltI hk (by omega)] at h1
  rw [show (100 : Int32) = nI 100 from rfl, nI_ltI (by omega) hk] at h2
  exact ⟨k, by omega, by omega, rfl⟩
theorem lst_z {I : Nat → Int32} {r z : Nat} {v : Int32} (hJ : ∀ p, p < z → ∃ j, j < 8 ∧ I (r * 8 + p) = nI j) (h : v = lst I r z) (e : v = -1) : z = 0 := by
  cases z with
  | zero => rfl
  | succ z =>
    obtain ⟨j, hj, ej⟩ := hJ z (by omega)
    have h1 : lst I r (z + 1) = nI j := ej
    rw [h1, e] at h
    exact absurd h.symm (nI_m1 (by omega))
theorem lst_s {I : Nat → Int32} {r z : Nat} {v : Int32} (h : v = lst I r z) (e : ¬ v = -1) : ∃ y, z = y + 1 ∧ v = I (r * 8 + y) := by
  cases z with
  | zero => exact absurd h e
  | succ z => exact ⟨z, rfl, h⟩
theorem wsm_J {W I : Nat → Int32} {r : Nat} {J : Nat → Nat} : ∀ {z : Nat}, (∀ p, p < z → I (r * 8 + p) = nI (J p) ∧ J p < 8) → wsm W I r z = wsJ W J z
  | 0, _ => rfl
  | z + 1, h => by
    rw [wsm, wsJ, wsm_J (fun p hp => h p (by omega)), (h z (by omega)).1, nI_clamp (Nat.lt_trans (h z (by omega)).2 (by decide))]
/-- which waggon stands at a place of a row, counted from the switch (a siding) or from the first one on (a train) -/
def fLJ (J : Nat → Nat) (z : Nat) (p : Int32) : Int32 := if nI z ≤ p then -1 else nI (J (z - 1 - p.toNatClampNeg))
def fFJ (J : Nat → Nat) (z : Nat) (p : Int32) : Int32 := if nI z ≤ p then -1 else nI (J p.toNatClampNeg)
theorem fLa_J {I : Nat → Int32} {r z : Nat} {J : Nat → Nat} {p : Int32} (hp : ¬ p < 0) (hz : z < 2 ^ 31) (h : ∀ p, p < z → I (r * 8 + p) = nI (J p)) : fLa I r z p = fLJ J z p := by
  obtain ⟨j, hj, rfl⟩ := nI_of hp
  by_cases e : nI z ≤ nI j
  · rw [fLa, fLJ, if_pos e, if_pos e]
  · rw [fLa, fLJ, if_neg e, if_neg e, nI_clamp hj]
    rw [nI_leI hz hj] at e
    exact h _ (by omega)
theorem fFi_J {I : Nat → Int32} {r z : Nat} {J : Nat → Nat} {p : Int32} (hp : ¬ p < 0) (hz : z < 2 ^ 31) (h : ∀ p, p < z → I (r * 8 + p) = nI (J p)) : fFi I r z p = fFJ J z p := by
  obtain ⟨j, hj, rfl⟩ := nI_of hp
  by_cases e : nI z ≤ nI j
  · rw [fFi, fFJ, if_pos e, if_pos e]
  · rw [fFi, fFJ, if_neg e, if_neg e, nI_clamp hj]
    rw [nI_leI hz hj] at e
    exact h _ (by omega)
noncomputable def waJ (Z : Nat → Nat) (J : Nat → Nat → Nat) (w p : Int32) : Int32 := cif (inR w 6 7) (fLJ (J (sR w)) (Z (sR w)) p) (fFJ (J (2 + (w - 10).toNatClampNeg)) (Z (2 + (w - 10).toNatClampNeg)) p)
/-- what stands behind minutes: the trains, the lateness, the clock, how many came to another block -/
abbrev T4 : Type := T3 × (Nat → Int32) × Int32 × Int32
noncomputable def mnX (σ : St) (n nb : Nat) (y : T4) : T4 :=
  ((mvs (σ 2) (σ 14) (σ 15) (σ 16) (σ 17) (σ 6) n nb y.2.2.1 y.1 n).1, mkm (mvs (σ 2) (σ 14) (σ 15) (σ 16) (σ 17) (σ 6) n nb y.2.2.1 y.1 n).1.1 (σ 14) (σ 15) (σ 16) (σ 17) n y.2.2.1 y.2.1 nb, y.2.2.1 + 1, y.2.2.2 + (mvs (σ 2) (σ 14) (σ 15) (σ 16) (σ 17) (σ 6) n nb y.2.2.1 y.1 n).2)
noncomputable def itX (σ : St) (n nb : Nat) : Nat → T4
  | 0 => ((σ 4, σ 5, σ 7), σ 18, σ 0 0, 0)
  | j + 1 => mnX σ n nb (itX σ n nb j)
theorem itX_blk {σ : St} {n nb : Nat} (h : ∀ i, i < n → blk (σ 4 i)) : ∀ j i, i < n → blk ((itX σ n nb j).1.1 i)
  | 0, i, hi => h i hi
  | j + 1, i, hi => mvs_blk (fun i hi => itX_blk h j i hi) n i hi (Nat.le_refl n)
/-- two pictures of n trains agree -/
def ag (n : Nat) (x y : T3) : Prop := ∀ i, i < n → x.1 i = y.1 i ∧ x.2.1 i = y.2.1 i ∧ x.2.2 i = y.2.2 i
theorem so_ag {B C : Nat → Int32} {w : Int32} : ∀ {n : Nat}, (∀ i, i < n → B i = C i) → so B w n = so C w n
  | 0, _ => rfl
  | n + 1, h => by rw [so, so, so_ag (fun i hi => h i (by omega)), h n (by omega)]
theorem upd_ag {f g : Nat → Int32} {n k : Nat} {v : Int32} (h : ∀ i, i < n → f i = g i) : ∀ i, i < n → upd f k v i = upd g k v i := by
  intro i hi
  by_cases e : i = k
  · subst e; rw [pk_us, pk_us]
  · rw [pk_un e, pk_un e]; exact h i hi
theorem stp_ag {Tu bT bB bF bL Hd Hf : Nat → Int32} {n nb : Nat} {mi : Int32} {k : Nat} {x y : T3} (h : ag n x y) (hH : ∀ i, i < n → Hd i = Hf i) (hk : k < n) :
    ag n (stp Tu bT bB bF bL Hd n nb mi k x).1 (stp Tu bT bB bF bL Hf n nb mi k y).1 ∧ (stp Tu bT bB bF bL Hd n nb mi k x).2 = (stp Tu bT bB bF bL Hf n nb mi k y).2 := by
  obtain ⟨e1, e2, e3⟩ := h k hk
  have eH := hH k hk
  have eS : ∀ w, so x.1 w n = so y.1 w n := fun w => so_ag (fun i hi => (h i hi).1)
  by_cases h1 : x.2.2 k ≤ 0
  · have h1' : y.2.2 k ≤ 0 := e3 ▸ h1
    by_cases h2 : Hd k = 0
    · have h2' : Hf k = 0 := eH ▸ h2
      by_cases h3 : ahd Tu (x.1 k) (x.2.1 k) = -2
      · have h3' : ahd Tu (y.1 k) (y.2.1 k) = -2 := by rw [← e1, ← e2]; exact h3
        rw [stp_f h1 h2 h3, stp_f h1' h2' h3', e2]
        exact ⟨fun i hi => ⟨(h i hi).1, upd_ag (fun i hi => (h i hi).2.1) i hi, (h i hi).2.2⟩, rfl⟩
      · have h3' : ¬ ahd Tu (y.1 k) (y.2.1 k) = -2 := by rw [← e1, ← e2]; exact h3
        by_cases h4 : ahd Tu (x.1 k) (x.2.1 k) = -1 ∨ ¬ so x.1 (ahd Tu (x.1 k) (x.2.1 k)) n = -1 ∨ mts bT bB bF bL nb (nI k) (ahd Tu (x.1 k) (x.2.1 k)) mi mi
        · have h4' : ahd Tu (y.1 k) (y.2.1 k) = -1 ∨ ¬ so y.1 (ahd Tu (y.1 k) (y.2.1 k)) n = -1 ∨ mts bT bB bF bL nb (nI k) (ahd Tu (y.1 k) (y.2.1 k)) mi mi := by rw [← e1, ← e2, ← eS]; exact h4
          rw [stp_b h1 h2 h3 h4, stp_b h1' h2' h3' h4']
          exact ⟨h, rfl⟩
        · have h4' : ¬ (ahd Tu (y.1 k) (y.2.1 k) = -1 ∨ ¬ so y.1 (ahd Tu (y.1 k) (y.2.1 k)) n = -1 ∨ mts bT bB bF bL nb (nI k) (ahd Tu (y.1 k) (y.2.1 k)) mi mi) := by rw [← e1, ← e2, ← eS]; exact h4
          rw [stp_m h1 h2 h3 h4, stp_m h1' h2' h3' h4', e1, e2]
          exact ⟨fun i hi => ⟨upd_ag (fun i hi => (h i hi).1) i hi, (h i hi).2.1, (h i hi).2.2⟩, rfl⟩
    · have h2' : ¬ Hf k = 0 := eH ▸ h2
      rw [stp_h h1 h2, stp_h h1' h2']
      exact ⟨h, rfl⟩
  · have h1' : ¬ y.2.2 k ≤ 0 := e3 ▸ h1
    rw [stp_d h1, stp_d h1', e3]
    exact ⟨fun i hi => ⟨(h i hi).1, (h i hi).2.1, upd_ag (fun i hi => (h i hi).2.2) i hi⟩, rfl⟩
theorem mvs_ag {Tu bT bB bF bL Hd Hf : Nat → Int32} {n nb : Nat} {mi : Int32} {x y : T3} (h : ag n x y) (hH : ∀ i, i < n → Hd i = Hf i) : ∀ {k : Nat}, k ≤ n →
    ag n (mvs Tu bT bB bF bL Hd n nb mi x k).1 (mvs Tu bT bB bF bL Hf n nb mi y k).1 ∧ (mvs Tu bT bB bF bL Hd n nb mi x k).2 = (mvs Tu bT bB bF bL Hf n nb mi y k).2
  | 0, _ => ⟨h, rfl⟩
  | k + 1, hk => by
    obtain ⟨a1, a2⟩ := mvs_ag (Tu := Tu) (bT := bT) (bB := bB) (bF := bF) (bL := bL) (nb := nb) (mi := mi) h hH (k := k) (by omega)
    obtain ⟨b1, b2⟩ := stp_ag (Tu := Tu) (bT := bT) (bB := bB) (bF := bF) (bL := bL) (nb := nb) (mi := mi) a1 hH (k := k) (by omega)
    exact ⟨b1, by rw [mvs_2, mvs_2, a2, b2]⟩
/-- the trains behind j minutes, if only time passed -/
noncomputable def sq (σ : St) (n nb : Nat) : Nat → T3
  | 0 => (σ 4, σ 5, σ 7)
  | j + 1 => (mvs (σ 2) (σ 14) (σ 15) (σ 16) (σ 17) (σ 6) n nb (σ 0 0 + nI j) (sq σ n nb j) n).1
def reaR (P : Nat → Prop) (r : Int32) : Prop := (∃ j, j ≤ 100 ∧ P j ∧ (∀ i, i < j → ¬ P i) ∧ r = nI j) ∨ (r = -1 ∧ ∀ j, j ≤ 100 → ¬ P j)
theorem reaR_one {P P' : Nat → Prop} {r r' : Int32} (e : ∀ j, j ≤ 100 → (P j ↔ P' j)) (h : reaR P r) (h' : reaR P' r') : r = r' := by
  rcases h with ⟨j, hj, hp, hm, rfl⟩ | ⟨rfl, hm⟩ <;> rcases h' with ⟨i, hi, hp', hm', rfl⟩ | ⟨rfl, hm'⟩
  · rcases Nat.lt_trichotomy j i with q | q | q
    · exact absurd ((e j hj).mp hp) (hm' j q)
    · rw [q]
    · exact absurd ((e i hi).mpr hp') (hm i q)
  · exact absurd ((e j hj).mp hp) (hm' j hj)
  · exact absurd ((e i hi).mpr hp') (hm i hi)
  · rfl
/-- minute by minute is the same -/
theorem mts_min {T B F L : Nat → Int32} {n : Nat} {t b : Int32} {f0 t0 : Nat} (h5 : t0 ≤ 5000) (hft : f0 ≤ t0) (hFL : ∀ k, k < n → ¬ L k < F k) :
    mts T B F L n t b (nI f0) (nI t0) ↔ ∃ q, f0 ≤ q ∧ q ≤ t0 ∧ mts T B F L n t b (nI q) (nI q) := by
  constructor
  · rintro ⟨k, hk, h1, h2, h3, h4⟩
    have h6 := hFL k hk
    rw [Int32.lt_iff_toInt_lt] at h3 h4 h6
    rw [nI_toInt (by omega)] at h3 h4
    by_cases c : (F k).toInt ≤ (f0 : Int)
    · refine ⟨f0, Nat.le_refl _, hft, k, hk, h1, h2, ?_, ?_⟩
      · rw [Int32.lt_iff_toInt_lt, nI_toInt (by omega)]; omega
      · rw [Int32.lt_iff_toInt_lt, nI_toInt (by omega)]; omega
    · refine ⟨(F k).toInt.toNat, by omega, by omega, k, hk, h1, h2, ?_, ?_⟩
      · rw [Int32.lt_iff_toInt_lt, nI_toInt (by omega)]; omega
      · rw [Int32.lt_iff_toInt_lt, nI_toInt (by omega)]; omega
  · rintro ⟨q, hq1, hq2, k, hk, h1, h2, h3, h4⟩
    rw [Int32.lt_iff_toInt_lt] at h3 h4
    rw [nI_toInt (by omega)] at h3 h4
    refine ⟨k, hk, h1, h2, ?_, ?_⟩
    · rw [Int32.lt_iff_toInt_lt, nI_toInt (by omega)]; omega
    · rw [Int32.lt_iff_toInt_lt, nI_toInt (by omega)]; omega
