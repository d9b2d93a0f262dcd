/-! the class's state and the reference's -/
def of9 (s a m' pr m2 pr2 : Int32) : Prop := (s = 0 ∧ pr2 = 0) ∨ (s = a ∧ m' = m2 ∧ pr = pr2 ∧ ¬ pr2 = 0 ∧ inR s 6 7 ∧ inR pr 1 1000 ∧ inR m' 0 5000)
abbrev RI (n nb nw T : Nat) (Z : Nat → Nat) (J : Nat → Nat → Nat) (σ μ : St) : Prop :=
  (n ≤ 4) ∧
  (nb ≤ 30) ∧
  (T ≤ 5000) ∧
  (σ 3 0 = nI n) ∧
  (μ 3 0 = nI n) ∧
  (σ 13 0 = nI nb) ∧
  (μ 13 0 = nI nb) ∧
  (σ 19 0 = nI nw) ∧
  (μ 19 0 = nI nw) ∧
  (σ 0 0 = nI T) ∧
  (μ 0 0 = nI T) ∧
  (σ 1 0 = μ 1 0) ∧
  (σ 2 = μ 2) ∧
  (σ 4 = μ 4) ∧
  (σ 5 = μ 5) ∧
  (σ 6 = μ 6) ∧
  (σ 7 = μ 7) ∧
  (σ 14 = μ 14) ∧
  (σ 15 = μ 15) ∧
  (σ 16 = μ 16) ∧
  (σ 17 = μ 17) ∧
  (σ 20 = μ 20) ∧
  (∀ i, i < n → blk (σ 4 i)) ∧
  (un n (σ 4)) ∧
  (∀ i, i < 4 → σ 5 i = 0 ∨ σ 5 i = 1) ∧
  (∀ i, i < 4 → σ 6 i = 0 ∨ σ 6 i = 1) ∧
  (∀ k, k < nb → ∃ j, j < n ∧ σ 14 k = nI j) ∧
  (∀ k, k < nb → ¬ σ 17 k < σ 16 k) ∧
  (∀ k, k < nb → BK T (σ 17 k) (σ 18 k) (μ 30 k) (μ 31 k)) ∧
  (∀ k, nb ≤ k → μ 30 k = 0) ∧
  (WI nw Z J (σ 21) (σ 22) (μ 32) (μ 33) (σ 20)) ∧
  (∀ w, w < 8 → of9 (σ 24 w) (μ 24 w) (σ 25 w) (σ 26 w) (μ 25 w) (μ 26 w))
theorem RI.n4 {n nb nw T : Nat} {Z : Nat → Nat} {J : Nat → Nat → Nat} {σ μ : St} (h : RI n nb nw T Z J σ μ) : n ≤ 4 := h.1
theorem RI.b30 {n nb nw T : Nat} {Z : Nat → Nat} {J : Nat → Nat → Nat} {σ μ : St} (h : RI n nb nw T Z J σ μ) : nb ≤ 30 := h.2.1
theorem RI.t5 {n nb nw T : Nat} {Z : Nat → Nat} {J : Nat → Nat → Nat} {σ μ : St} (h : RI n nb nw T Z J σ μ) : T ≤ 5000 := h.2.2.1
theorem RI.xn {n nb nw T : Nat} {Z : Nat → Nat} {J : Nat → Nat → Nat} {σ μ : St} (h : RI n nb nw T Z J σ μ) : σ 3 0 = nI n := h.2.2.2.1
theorem RI.yn {n nb nw T : Nat} {Z : Nat → Nat} {J : Nat → Nat → Nat} {σ μ : St} (h : RI n nb nw T Z J σ μ) : μ 3 0 = nI n := h.2.2.2.2.1
theorem RI.xb {n nb nw T : Nat} {Z : Nat → Nat} {J : Nat → Nat → Nat} {σ μ : St} (h : RI n nb nw T Z J σ μ) : σ 13 0 = nI nb := h.2.2.2.2.2.1
theorem RI.yb {n nb nw T : Nat} {Z : Nat → Nat} {J : Nat → Nat → Nat} {σ μ : St} (h : RI n nb nw T Z J σ μ) : μ 13 0 = nI nb := h.2.2.2.2.2.2.1
theorem RI.xw {n nb nw T : Nat} {Z : Nat → Nat} {J : Nat → Nat → Nat} {σ μ : St} (h : RI n nb nw T Z J σ μ) : σ 19 0 = nI nw := h.2.2.2.2.2.2.2.1
theorem RI.yw {n nb nw T : Nat} {Z : Nat → Nat} {J : Nat → Nat → Nat} {σ μ : St} (h : RI n nb nw T Z J σ μ) : μ 19 0 = nI nw := h.2.2.2.2.2.2.2.2.1
theorem RI.xt {n nb nw T : Nat} {Z : Nat → Nat} {J : Nat → Nat → Nat} {σ μ : St} (h : RI n nb nw T Z J σ μ) : σ 0 0 = nI T := h.2.2.2.2.2.2.2.2.2.1
theorem RI.yt {n nb nw T : Nat} {Z : Nat → Nat} {J : Nat → Nat → Nat} {σ μ : St} (h : RI n nb nw T Z J σ μ) : μ 0 0 = nI T := h.2.2.2.2.2.2.2.2.2.2.1
theorem RI.e1 {n nb nw T : Nat} {Z : Nat → Nat} {J : Nat → Nat → Nat} {σ μ : St} (h : RI n nb nw T Z J σ μ) : σ 1 0 = μ 1 0 := h.2.2.2.2.2.2.2.2.2.2.2.1
theorem RI.e2 {n nb nw T : Nat} {Z : Nat → Nat} {J : Nat → Nat → Nat} {σ μ : St} (h : RI n nb nw T Z J σ μ) : σ 2 = μ 2 := h.2.2.2.2.2.2.2.2.2.2.2.2.1
theorem RI.e4 {n nb nw T : Nat} {Z : Nat → Nat} {J : Nat → Nat → Nat} {σ μ : St} (h : RI n nb nw T Z J σ μ) : σ 4 = μ 4 := h.2.2.2.2.2.2.2.2.2.2.2.2.2.1
theorem RI.e5 {n nb nw T : Nat} {Z : Nat → Nat} {J : Nat → Nat → Nat} {σ μ : St} (h : RI n nb nw T Z J σ μ) : σ 5 = μ 5 := h.2.2.2.2.2.2.2.2.2.2.2.2.2.2.1
theorem RI.e6 {n nb nw T : Nat} {Z : Nat → Nat} {J : Nat → Nat → Nat} {σ μ : St} (h : RI n nb nw T Z J σ μ) : σ 6 = μ 6 := h.2.2.2.2.2.2.2.2.2.2.2.2.2.2.2.1
theorem RI.e7 {n nb nw T : Nat} {Z : Nat → Nat} {J : Nat → Nat → Nat} {σ μ : St} (h : RI n nb nw T Z J σ μ) : σ 7 = μ 7 := h.2.2.2.2.2.2.2.2.2.2.2.2.2.2.2.2.1
theorem RI.e14 {n nb nw T : Nat} {Z : Nat → Nat} {J : Nat → Nat → Nat} {σ μ : St} (h : RI n nb nw T Z J σ μ) : σ 14 = μ 14 := h.2.2.2.2.2.2.2.2.2.2.2.2.2.2.2.2.2.1
theorem RI.e15 {n nb nw T : Nat} {Z : Nat → Nat} {J : Nat → Nat → Nat} {σ μ : St} (h : RI n nb nw T Z J σ μ) : σ 15 = μ 15 := h.2.2.2.2.2.2.2.2.2.2.2.2.2.2.2.2.2.2.1
theorem RI.e16 {n nb nw T : Nat} {Z : Nat → Nat} {J : Nat → Nat → Nat} {σ μ : St} (h : RI n nb nw T Z J σ μ) : σ 16 = μ 16 := h.2.2.2.2.2.2.2.2.2.2.2.2.2.2.2.2.2.2.2.1
theorem RI.e17 {n nb nw T : Nat} {Z : Nat → Nat} {J : Nat → Nat → Nat} {σ μ : St} (h : RI n nb nw T Z J σ μ) : σ 17 = μ 17 := h.2.2.2.2.2.2.2.2.2.2.2.2.2.2.2.2.2.2.2.2.1
theorem RI.e20 {n nb nw T : Nat} {Z : Nat → Nat} {J : Nat → Nat → Nat} {σ μ : St} (h : RI n nb nw T Z J σ μ) : σ 20 = μ 20 := h.2.2.2.2.2.2.2.2.2.2.2.2.2.2.2.2.2.2.2.2.2.1
theorem RI.bB {n nb nw T : Nat} {Z : Nat → Nat} {J : Nat → Nat → Nat} {σ μ : St} (h : RI n nb nw T Z J σ μ) : ∀ i, i < n → blk (σ 4 i) := h.2.2.2.2.2.2.2.2.2.2.2.2.2.2.2.2.2.2.2.2.2.2.1
theorem RI.u {n nb nw T : Nat} {Z : Nat → Nat} {J : Nat → Nat → Nat} {σ μ : St} (h : RI n nb nw T Z J σ μ) : un n (σ 4) := h.2.2.2.2.2.2.2.2.2.2.2.2.2.2.2.2.2.2.2.2.2.2.2.1
theorem RI.b5 {n nb nw T : Nat} {Z : Nat → Nat} {J : Nat → Nat → Nat} {σ μ : St} (h : RI n nb nw T Z J σ μ) : ∀ i, i < 4 → σ 5 i = 0 ∨ σ 5 i = 1 := h.2.2.2.2.2.2.2.2.2.2.2.2.2.2.2.2.2.2.2.2.2.2.2.2.1
theorem RI.b6 {n nb nw T : Nat} {Z : Nat → Nat} {J : Nat → Nat → Nat} {σ μ : St} (h : RI n nb nw T Z J σ μ) : ∀ i, i < 4 → σ 6 i = 0 ∨ σ 6 i = 1 := h.2.2.2.2.2.2.2.2.2.2.2.2.2.2.2.2.2.2.2.2.2.2.2.2.2.1
theorem RI.tT {n nb nw T : Nat} {Z : Nat → Nat} {J : Nat → Nat → Nat} {σ μ : St} (h : RI n nb nw T Z J σ μ) : ∀ k, k < nb → ∃ j, j < n ∧ σ 14 k = nI j := h.2.2.2.2.2.2.2.2.2.2.2.2.2.2.2.2.2.2.2.2.2.2.2.2.2.2.1
theorem RI.fL {n nb nw T : Nat} {Z : Nat → Nat} {J : Nat → Nat → Nat} {σ μ : St} (h : RI n nb nw T Z J σ μ) : ∀ k, k < nb → ¬ σ 17 k < σ 16 k := h.2.2.2.2.2.2.2.2.2.2.2.2.2.2.2.2.2.2.2.2.2.2.2.2.2.2.2.1
theorem RI.bk {n nb nw T : Nat} {Z : Nat → Nat} {J : Nat → Nat → Nat} {σ μ : St} (h : RI n nb nw T Z J σ μ) : ∀ k, k < nb → BK T (σ 17 k) (σ 18 k) (μ 30 k) (μ 31 k) := h.2.2.2.2.2.2.2.2.2.2.2.2.2.2.2.2.2.2.2.2.2.2.2.2.2.2.2.2.1
theorem RI.s0 {n nb nw T : Nat} {Z : Nat → Nat} {J : Nat → Nat → Nat} {σ μ : St} (h : RI n nb nw T Z J σ μ) : ∀ k, nb ≤ k → μ 30 k = 0 := h.2.2.2.2.2.2.2.2.2.2.2.2.2.2.2.2.2.2.2.2.2.2.2.2.2.2.2.2.2.1
theorem RI.wi {n nb nw T : Nat} {Z : Nat → Nat} {J : Nat → Nat → Nat} {σ μ : St} (h : RI n nb nw T Z J σ μ) : WI nw Z J (σ 21) (σ 22) (μ 32) (μ 33) (σ 20) := h.2.2.2.2.2.2.2.2.2.2.2.2.2.2.2.2.2.2.2.2.2.2.2.2.2.2.2.2.2.2.1
theorem RI.of {n nb nw T : Nat} {Z : Nat → Nat} {J : Nat → Nat → Nat} {σ μ : St} (h : RI n nb nw T Z J σ μ) : ∀ w, w < 8 → of9 (σ 24 w) (μ 24 w) (σ 25 w) (σ 26 w) (μ 25 w) (μ 26 w) := h.2.2.2.2.2.2.2.2.2.2.2.2.2.2.2.2.2.2.2.2.2.2.2.2.2.2.2.2.2.2.2
def RR (σ μ : St) : Prop := ∃ (n nb nw T : Nat) (Z : Nat → Nat) (J : Nat → Nat → Nat), RI n nb nw T Z J σ μ
theorem RI.up {n nb nw T : Nat} {Z : Nat → Nat} {J : Nat → Nat → Nat} {σ μ : St} (h : RI n nb nw T Z J σ μ) (f : Nat → Int32) : RI n nb nw T Z J σ (va_up μ 34 f) := ⟨h.n4, h.b30, h.t5, h.xn, h.yn, h.xb, h.yb, h.xw, h.yw, h.xt, h.yt, h.e1, h.e2, h.e4, h.e5, h.e6, h.e7, h.e14, h.e15, h.e16, h.e17, h.e20, h.bB, h.u, h.b5, h.b6, h.tT, h.fL, h.bk, h.s0, h.wi, h.of⟩
/-- a state of the reference that differs at most at what no promise speaks of -/
theorem RI.ag {n nb nw T : Nat} {Z : Nat → Nat} {J : Nat → Nat → Nat} {σ μ : St} {σ' μ' : St} (h : RI n nb nw T Z J σ μ) (hs : ∀ s9, s9 < 8 ∨ 12 < s9 → σ' s9 = σ s9) (hm : ∀ s9, s9 < 9 ∨ (12 < s9 ∧ s9 < 34) → μ' s9 = μ s9) : RI n nb nw T Z J σ' μ' := by
  have a0 := hs 0 (by omega)
  have a1 := hs 1 (by omega)
  have a2 := hs 2 (by omega)
  have a3 := hs 3 (by omega)
  have a4 := hs 4 (by omega)
  have a5 := hs 5 (by omega)
  have a6 := hs 6 (by omega)
  have a7 := hs 7 (by omega)
  have a13 := hs 13 (by omega)
  have a14 := hs 14 (by omega)
  have a15 := hs 15 (by omega)
  have a16 := hs 16 (by omega)
  have a17 := hs 17 (by omega)
  have a18 := hs 18 (by omega)
  have a19 := hs 19 (by omega)
  have a20 := hs 20 (by omega)
  have a21 := hs 21 (by omega)
  have a22 := hs 22 (by omega)
  have a24 := hs 24 (by omega)
  have a25 := hs 25 (by omega)
  have a26 := hs 26 (by omega)
  have b0 := hm 0 (by omega)
  have b1 := hm 1 (by omega)
  have b2 := hm 2 (by omega)
  have b3 := hm 3 (by omega)
  have b4 := hm 4 (by omega)
  have b5 := hm 5 (by omega)
  have b6 := hm 6 (by omega)
  have b7 := hm 7 (by omega)
  have b13 := hm 13 (by omega)
  have b14 := hm 14 (by omega)
  have b15 := hm 15 (by omega)
  have b16 := hm 16 (by omega)
  have b17 := hm 17 (by omega)
  have b19 := hm 19 (by omega)
  have b20 := hm 20 (by omega)
  have b24 := hm 24 (by omega)
  have b25 := hm 25 (by omega)
  have b26 := hm 26 (by omega)
  have b30 := hm 30 (by omega)
  have b31 := hm 31 (by omega)
  have b32 := hm 32 (by omega)
  have b33 := hm 33 (by omega)
  unfold RI at h ⊢
  simp only [a0, a1, a2, a3, a4, a5, a6, a7, a13, a14, a15, a16, a17, a18, a19, a20, a21, a22, a24, a25, a26, b0, b1, b2, b3, b4, b5, b6, b7, b13, b14, b15, b16, b17, b19, b20, b24, b25, b26, b30, b31, b32, b33]
  exact h
/-- one operation on both: refused alike, or answered alike -/
theorem op_gen {σ μ : St} {g : Nat → Int64} {x : SO} {k r2 cd cd2 : Int32} {u2 : St} {P P2 : Int32 → St → Prop} {F : Int32 → Int64} (hRR : RR σ μ) (hc : cd = cd2)
    (hx : (k = 0 ∧ ∃ v9 : Int32, (cd = 0 ∧ P v9 x.1) ∧ x.2 0 = F v9) ∨ (¬ k = 0 ∧ k = cd ∧ x = (σ, g)))
    (hm : (¬ cd2 = 0 ∧ u2 = va_up μ 34 (fun _ => cd2)) ∨ (cd2 = 0 ∧ P2 r2 u2))
    (hok : cd = 0 → ∀ v9 u, P v9 u → P2 r2 u2 → RR u u2 ∧ v9 = r2 ∧ u2 34 0 = 0) : RR x.1 u2 ∧ u2 34 0 = k ∧ (k = 0 → x.2 0 = F r2) := by
  subst hc
  rcases hx with ⟨rfl, v9, ⟨h0, hp⟩, ha⟩ | ⟨h0, rfl, rfl⟩
  · rcases hm with ⟨h1, _⟩ | ⟨_, hp2⟩
    · exact absurd h0 h1
    · obtain ⟨a1, rfl, a3⟩ := hok h0 v9 _ hp hp2
      exact ⟨a1, a3, fun _ => ha⟩
  · rcases hm with ⟨_, rfl⟩ | ⟨h1, _⟩
    · obtain ⟨n, nb, nw, T, Z, J, h⟩ := hRR
      exact ⟨⟨n, nb, nw, T, Z, J, h.up _⟩, va_up_self _ _ _ ▸ rfl, fun e => absurd e h0⟩
    · exact absurd h1 h0
theorem mv_un {σ : St} {n : Nat} {b : Int32} (hn : n < 2 ^ 31) (h : un n (σ 4)) (hs : so (σ 4) b n = -1) : un (n + 1) (upd (σ 4) n b) := by
  have hno := so_none hn hs
  intro i j hi hj e
  by_cases ei : i = n
  · by_cases ej : j = n
    · rw [ei, ej]
    · rw [ei, pk_us, pk_un ej] at e
      exact absurd e.symm (hno j (by omega))
  · by_cases ej : j = n
    · rw [ej, pk_us, pk_un ei] at e
      exact absurd e (hno i (by omega))
    · rw [pk_un ei, pk_un ej] at e
      exact h i j (by omega) (by omega) e
theorem upd_b {f : Nat → Int32} {k : Nat} {v : Int32} (hv : v = 0 ∨ v = 1) (h : ∀ i, i < 4 → f i = 0 ∨ f i = 1) : ∀ i, i < 4 → upd f k v i = 0 ∨ upd f k v i = 1 := by
  intro i hi
  by_cases e : i = k
  · subst e; rw [pk_us]; exact hv
  · rw [pk_un e]; exact h i hi
theorem pos_eq (v : Int32) : (if 0 < v then v else 0) = (if 0 ≤ v then v else 0) := by
  by_cases h : 0 < v
  · rw [if_pos h, if_pos (Int32.le_of_lt h)]
  · rw [if_neg h]
    by_cases h2 : 0 ≤ v
    · rw [if_pos h2]
      have e0 : (0 : Int32).toInt = 0 := rfl
      rw [Int32.lt_iff_toInt_lt, e0] at h
      rw [Int32.le_iff_toInt_le, e0] at h2
      exact Int32.toInt_inj.mp (by rw [e0]; omega)
    · rw [if_neg h2]
theorem pay_eq {pr m' : Int32} {T : Nat} (hT : T ≤ 5000) (hm : inR m' 0 5000) : pay pr m' (nI T) = payM pr m' (nI T) := by
  obtain ⟨M, hM, rfl⟩ := nI_of hm.1
  have h2 := hm.2
  rw [show (5000 : Int32) = nI 5000 from rfl, nI_ltI (by omega) hM] at h2
  have ed := pk_sub_toInt (a := T) (b := M) (by omega) (by omega)
  have e0 : (0 : Int32).toInt = 0 := rfl
  by_cases c : nI T ≤ nI M
  · have c2 := (nI_leI (by omega) hM).mp c
    have e1 : (nI T - nI M) ≤ 0 := by
      rw [Int32.le_iff_toInt_le, ed, e0]; omega
    rw [pay, payM, bh_0 e1, if_pos c, pos_eq, show ((0 : Int32) + 59) / 60 = 0 by decide]
  · have c2 : ¬ T ≤ M := fun q => c ((nI_leI (by omega) hM).mpr q)
    have e1 : ¬ (nI T - nI M) ≤ 0 := by
      rw [Int32.le_iff_toInt_le, ed, e0]; omega
    rw [pay, payM, bh_1 e1, if_neg c, pos_eq, show nI T - nI M + 60 - 1 = nI T - nI M + 59 by rw [Int32.sub_eq_add_neg (nI T - nI M + 60), Int32.add_assoc]; rfl]
theorem cif0 {P : Prop} {y : Int32} {c : Int32} (hc : ¬ c = 0) (h : cif P y c = 0) : P ∧ y = 0 := by
  by_cases p : P
  · rw [cif_t p] at h; exact ⟨p, h⟩
  · rw [cif_f p] at h; exact absurd h hc
theorem tr_c {n : Nat} {t : Int32} (hn : n ≤ 30) (h : tr n t) : ∃ k, k < n ∧ t = nI k ∧ t.toNatClampNeg = k := by
  obtain ⟨k, hk, rfl⟩ := h
  exact ⟨k, hk, rfl, nI_clamp (by omega)⟩
section OPS
variable {n nb nw T : Nat} {Z : Nat → Nat} {J : Nat → Nat → Nat} {σ μ : St}
theorem op_addTrain (h : RI n nb nw T Z J σ μ) {b rt v9 r2 : Int32} {u u2 : St} (hrt : rt = 0 ∨ rt = 1) (hc : cdAdd σ n b = 0) (hp : u = (va_up (va_up (va_up σ 3 (fun _ => nI (n + 1))) 4 (upd (σ 4) n b)) 5 (upd (σ 5) n rt)) ∧ v9 = nI n) (hp2 : u2 = (va_up (va_up (va_up (va_up μ 3 (fun _ => nI (n + 1))) 4 (upd (μ 4) n b)) 5 (upd (μ 5) n rt)) 34 (fun _ => 0)) ∧ r2 = nI n) : RR u u2 ∧ v9 = r2 ∧ u2 34 0 = 0 := by
  obtain ⟨rfl, rfl⟩ := hp
  obtain ⟨rfl, rfl⟩ := hp2
  obtain ⟨c1, c2⟩ := cif0 (by decide) hc
  obtain ⟨⟨c3, c4⟩, -⟩ := cif0 (by decide) c2
  refine ⟨⟨n + 1, nb, nw, T, Z, J, ⟨(by have := h.n4; omega), h.b30, h.t5, rfl, rfl, h.xb, h.yb, h.xw, h.yw, h.xt, h.yt, h.e1, h.e2, ?_, ?_, h.e6, h.e7, h.e14, h.e15, h.e16, h.e17, h.e20, ?_, mv_un (by have := h.n4; omega) h.u c4, upd_b hrt h.b5, h.b6, ?_, h.fL, h.bk, h.s0, h.wi, h.of⟩⟩, rfl, rfl⟩
  · show upd (σ 4) n b = upd (μ 4) n b
    rw [h.e4]
  · show upd (σ 5) n rt = upd (μ 5) n rt
    rw [h.e5]
  · intro i hi
    show blk (upd (σ 4) n b i)
    by_cases e : i = n
    · rw [e, pk_us]; exact blk_R.mp c1
    · rw [pk_un e]; exact h.bB i (by omega)
  · intro k hk
    obtain ⟨j, hj, e⟩ := h.tT k hk
    exact ⟨j, by omega, e⟩
theorem op_hold (h : RI n nb nw T Z J σ μ) {t v v9 r2 : Int32} {u u2 : St} (hv : v = 0 ∨ v = 1) (hp : u = (va_up σ 6 (upd (σ 6) t.toNatClampNeg v)) ∧ v9 = bI (¬ σ 6 t.toNatClampNeg = v)) (hp2 : u2 = (va_up (va_up μ 6 (upd (μ 6) t.toNatClampNeg v)) 34 (fun _ => 0)) ∧ r2 = bI (¬ μ 6 t.toNatClampNeg = v)) : RR u u2 ∧ v9 = r2 ∧ u2 34 0 = 0 := by
  obtain ⟨rfl, rfl⟩ := hp
  obtain ⟨rfl, rfl⟩ := hp2
  refine ⟨⟨n, nb, nw, T, Z, J, ⟨h.n4, h.b30, h.t5, h.xn, h.yn, h.xb, h.yb, h.xw, h.yw, h.xt, h.yt, h.e1, h.e2, h.e4, h.e5, ?_, h.e7, h.e14, h.e15, h.e16, h.e17, h.e20, h.bB, h.u, h.b5, upd_b hv h.b6, h.tT, h.fL, h.bk, h.s0, h.wi, h.of⟩⟩, by rw [h.e6], rfl⟩
  show upd (σ 6) t.toNatClampNeg v = upd (μ 6) t.toNatClampNeg v
  rw [h.e6]
theorem op_delay (h : RI n nb nw T Z J σ μ) {t mm v9 r2 : Int32} {u u2 : St} (hp : u = (va_up σ 7 (upd (σ 7) t.toNatClampNeg (σ 7 t.toNatClampNeg + mm))) ∧ v9 = σ 7 t.toNatClampNeg + mm) (hp2 : u2 = (va_up (va_up μ 7 (upd (μ 7) t.toNatClampNeg (μ 7 t.toNatClampNeg + mm))) 34 (fun _ => 0)) ∧ r2 = μ 7 t.toNatClampNeg + mm) : RR u u2 ∧ v9 = r2 ∧ u2 34 0 = 0 := by
  obtain ⟨rfl, rfl⟩ := hp
  obtain ⟨rfl, rfl⟩ := hp2
  refine ⟨⟨n, nb, nw, T, Z, J, ⟨h.n4, h.b30, h.t5, h.xn, h.yn, h.xb, h.yb, h.xw, h.yw, h.xt, h.yt, h.e1, h.e2, h.e4, h.e5, h.e6, ?_, h.e14, h.e15, h.e16, h.e17, h.e20, h.bB, h.u, h.b5, h.b6, h.tT, h.fL, h.bk, h.s0, h.wi, h.of⟩⟩, by rw [h.e7], rfl⟩
  show upd (σ 7) t.toNatClampNeg (σ 7 t.toNatClampNeg + mm) = upd (μ 7) t.toNatClampNeg (μ 7 t.toNatClampNeg + mm)
  rw [h.e7]
theorem op_reverse (h : RI n nb nw T Z J σ μ) {t v9 r2 : Int32} {u u2 : St} (hp : u = (va_up σ 5 (upd (σ 5) t.toNatClampNeg (fl (σ 5 t.toNatClampNeg)))) ∧ v9 = fl (σ 5 t.toNatClampNeg)) (hp2 : u2 = (va_up (va_up μ 5 (upd (μ 5) t.toNatClampNeg (fl (μ 5 t.toNatClampNeg)))) 34 (fun _ => 0)) ∧ r2 = fl (μ 5 t.toNatClampNeg)) : RR u u2 ∧ v9 = r2 ∧ u2 34 0 = 0 := by
  obtain ⟨rfl, rfl⟩ := hp
  obtain ⟨rfl, rfl⟩ := hp2
  refine ⟨⟨n, nb, nw, T, Z, J, ⟨h.n4, h.b30, h.t5, h.xn, h.yn, h.xb, h.yb, h.xw, h.yw, h.xt, h.yt, h.e1, h.e2, h.e4, ?_, h.e6, h.e7, h.e14, h.e15, h.e16, h.e17, h.e20, h.bB, h.u, upd_b (fl_b _) h.b5, h.b6, h.tT, h.fL, h.bk, h.s0, h.wi, h.of⟩⟩, by rw [h.e5], rfl⟩
  show upd (σ 5) t.toNatClampNeg (fl (σ 5 t.toNatClampNeg)) = upd (μ 5) t.toNatClampNeg (fl (μ 5 t.toNatClampNeg))
  rw [h.e5]
theorem op_throwSwitch (h : RI n nb nw T Z J σ μ) {v v9 r2 : Int32} {u u2 : St} (hp : u = (va_up σ 2 (upd (σ 2) v.toNatClampNeg (fl (σ 2 v.toNatClampNeg)))) ∧ v9 = fl (σ 2 v.toNatClampNeg)) (hp2 : u2 = (va_up (va_up μ 2 (upd (μ 2) v.toNatClampNeg (fl (μ 2 v.toNatClampNeg)))) 34 (fun _ => 0)) ∧ r2 = fl (μ 2 v.toNatClampNeg)) : RR u u2 ∧ v9 = r2 ∧ u2 34 0 = 0 := by
  obtain ⟨rfl, rfl⟩ := hp
  obtain ⟨rfl, rfl⟩ := hp2
  refine ⟨⟨n, nb, nw, T, Z, J, ⟨h.n4, h.b30, h.t5, h.xn, h.yn, h.xb, h.yb, h.xw, h.yw, h.xt, h.yt, h.e1, ?_, h.e4, h.e5, h.e6, h.e7, h.e14, h.e15, h.e16, h.e17, h.e20, h.bB, h.u, h.b5, h.b6, h.tT, h.fL, h.bk, h.s0, h.wi, h.of⟩⟩, by rw [h.e2], rfl⟩
  show upd (σ 2) v.toNatClampNeg (fl (σ 2 v.toNatClampNeg)) = upd (μ 2) v.toNatClampNeg (fl (μ 2 v.toNatClampNeg))
  rw [h.e2]
/-- what is asked only -/
theorem op_ask (h : RI n nb nw T Z J σ μ) {v9 r2 : Int32} {u u2 : St} {x9 y9 : Int32} (e : x9 = y9) (hp : u = σ ∧ v9 = x9) (hp2 : u2 = va_up μ 34 (fun _ => 0) ∧ r2 = y9) : RR u u2 ∧ v9 = r2 ∧ u2 34 0 = 0 := by
  obtain ⟨rfl, rfl⟩ := hp
  obtain ⟨rfl, rfl⟩ := hp2
  exact ⟨⟨n, nb, nw, T, Z, J, h.up _⟩, e, rfl⟩
theorem op_booking (h : RI n nb nw T Z J σ μ) {t : Int32} (ht : tr nb t) : (if σ 18 t.toNatClampNeg = -1 then (if σ 17 t.toNatClampNeg < σ 0 0 then 2 else 0) else (1 : Int32)) = μ 30 t.toNatClampNeg := by
  obtain ⟨k, hk, -, ek⟩ := tr_c h.b30 ht
  rw [ek, h.xt]
  rcases h.bk k hk with ⟨a1, a2, a3⟩ | ⟨a1, a2⟩
  · rw [if_neg a1, a2]
  · rw [if_pos a1, a2]
theorem op_late (h : RI n nb nw T Z J σ μ) {t : Int32} (ht : tr nb t) : σ 18 t.toNatClampNeg = (if μ 30 t.toNatClampNeg = 1 then μ 31 t.toNatClampNeg else -1) := by
  obtain ⟨k, hk, -, ek⟩ := tr_c h.b30 ht
  rw [ek]
  rcases h.bk k hk with ⟨a1, a2, a3⟩ | ⟨a1, a2⟩
  · rw [if_pos a2, a3]
  · rw [if_neg, a1]
    rw [a2]
    split <;> decide
theorem op_run (h : RI n nb nw T Z J σ μ) {mm v9 r2 : Int32} {u u2 : St} (hc : cdRun σ mm = 0) (hp : u = (va_up (va_up (va_up (va_up (va_up σ 0 (fun _ => (itX σ n nb mm.toNatClampNeg).2.2.1)) 4 ((itX σ n nb mm.toNatClampNeg).1.1)) 5 ((itX σ n nb mm.toNatClampNeg).1.2.1)) 7 ((itX σ n nb mm.toNatClampNeg).1.2.2)) 18 ((itX σ n nb mm.toNatClampNeg).2.1)) ∧ v9 = (itX σ n nb mm.toNatClampNeg).2.2.2)
    (hp2 : u2 = (va_up (va_up (va_up (va_up (va_up (va_up (va_up (va_up (va_up (va_up μ 0 (fun _ => (itM μ n nb mm.toNatClampNeg).2.2.2.1)) 4 ((itM μ n nb mm.toNatClampNeg).1.1)) 5 ((itM μ n nb mm.toNatClampNeg).1.2.1)) 7 ((itM μ n nb mm.toNatClampNeg).1.2.2)) 9 ((itM μ n nb mm.toNatClampNeg).2.1.1)) 10 ((itM μ n nb mm.toNatClampNeg).2.1.2.1)) 12 ((itM μ n nb mm.toNatClampNeg).2.1.2.2)) 30 ((itM μ n nb mm.toNatClampNeg).2.2.1.1)) 31 ((itM μ n nb mm.toNatClampNeg).2.2.1.2)) 34 (fun _ => 0)) ∧ r2 = (itM μ n nb mm.toNatClampNeg).2.2.2.2) : RR u u2 ∧ v9 = r2 ∧ u2 34 0 = 0 := by
  obtain ⟨rfl, rfl⟩ := hp
  obtain ⟨rfl, rfl⟩ := hp2
  obtain ⟨c1, c2⟩ := cif0 (by decide) hc
  obtain ⟨c3, -⟩ := cif0 (by decide) c2
  obtain ⟨q, hq1, hq2, rfl⟩ := R_k1 c1
  have ht5 := h.t5
  rw [h.xt, nI_add, show (5000 : Int32) = nI 5000 from rfl, nI_ltI (by omega) (by omega)] at c3
  rw [nI_clamp (show q < 2 ^ 31 by omega)]
  have hM : ∀ j, j ≤ q → MR n nb (T + j) (σ 17) (itX σ n nb j) (itM μ n nb j) := by
    intro j
    induction j with
    | zero => intro _; exact ⟨by show (σ 4, σ 5, σ 7) = (μ 4, μ 5, μ 7); rw [h.e4, h.e5, h.e7], h.xt, h.yt, rfl, h.bB, h.u, h.b5, h.bk, h.s0⟩
    | succ j ih => intro hj; exact MR.step (ih (by omega)) (show T + j ≤ 5000 by omega) h.n4 h.e2 h.e6 h.e14 h.e15 h.e16 h.e17 h.tT h.fL
  have hq := hM q (Nat.le_refl q)
  have hx := hq.x
  refine ⟨⟨n, nb, nw, T + q, Z, J, ⟨h.n4, h.b30, (by omega), h.xn, h.yn, h.xb, h.yb, h.xw, h.yw, hq.t, hq.t2, h.e1, h.e2, congrArg (fun z : T3 => z.1) hx, congrArg (fun z : T3 => z.2.1) hx, h.e6, congrArg (fun z : T3 => z.2.2) hx, h.e14, h.e15, h.e16, h.e17, h.e20, hq.bB, hq.u, hq.r, h.b6, h.tT, h.fL, hq.k, hq.s, h.wi, h.of⟩⟩, hq.c, rfl⟩
theorem op_book (h : RI n nb nw T Z J σ μ) {t b fr to v9 r2 : Int32} {u u2 : St} (hc : cdBook σ n nb t b fr to = 0) (hp : ((mts (σ 14) (σ 15) (σ 16) (σ 17) nb t b fr to ∧ u = σ ∧ v9 = -1) ∨ (¬ mts (σ 14) (σ 15) (σ 16) (σ 17) nb t b fr to ∧ u = (va_up (va_up (va_up (va_up (va_up (va_up σ 13 (fun _ => nI (nb + 1))) 14 (upd (σ 14) nb t)) 15 (upd (σ 15) nb b)) 16 (upd (σ 16) nb fr)) 17 (upd (σ 17) nb to)) 18 (upd (σ 18) nb (-1))) ∧ v9 = nI nb)))
    (hp2 : ((mts (μ 14) (μ 15) (μ 16) (μ 17) nb t b fr to ∧ u2 = (va_up μ 34 (fun _ => 0)) ∧ r2 = -1) ∨ (¬ mts (μ 14) (μ 15) (μ 16) (μ 17) nb t b fr to ∧ u2 = (va_up (va_up (va_up (va_up (va_up (va_up μ 13 (fun _ => nI (nb + 1))) 14 (upd (μ 14) nb t)) 15 (upd (μ 15) nb b)) 16 (upd (μ 16) nb fr)) 17 (upd (μ 17) nb to)) 34 (fun _ => 0)) ∧ r2 = nI nb))) : RR u u2 ∧ v9 = r2 ∧ u2 34 0 = 0 := by
  rw [← h.e14, ← h.e15, ← h.e16, ← h.e17] at hp2
  rcases hp with ⟨m1, rfl, rfl⟩ | ⟨m1, rfl, rfl⟩
  · rcases hp2 with ⟨_, rfl, rfl⟩ | ⟨m2, _⟩
    · exact ⟨⟨n, nb, nw, T, Z, J, h.up _⟩, rfl, rfl⟩
    · exact absurd m1 m2
  · rcases hp2 with ⟨m2, _⟩ | ⟨_, rfl, rfl⟩
    · exact absurd m2 m1
    · obtain ⟨⟨c1, c2⟩, c3⟩ := cif0 (by decide) hc
      obtain ⟨⟨c4, c5⟩, c6⟩ := cif0 (by decide) c3
      have hnb : ¬ nb = 30 := fun e => by rw [cif_t e] at c6; exact absurd c6 (by decide)
      refine ⟨⟨n, nb + 1, nw, T, Z, J, ⟨h.n4, (by have := h.b30; omega), h.t5, h.xn, h.yn, rfl, rfl, h.xw, h.yw, h.xt, h.yt, h.e1, h.e2, h.e4, h.e5, h.e6, h.e7, rfl, rfl, rfl, rfl, h.e20, h.bB, h.u, h.b5, h.b6, ?_, ?_, ?_, fun k hk => h.s0 k (by omega), h.wi, h.of⟩⟩, rfl, rfl⟩
      · intro k hk
        show ∃ j, j < n ∧ upd (σ 14) nb t k = nI j
        by_cases e : k = nb
        · rw [e, pk_us]; exact c1
        · rw [pk_un e]; exact h.tT k (by omega)
      · intro k hk
        show ¬ upd (σ 17) nb to k < upd (σ 16) nb fr k
        by_cases e : k = nb
        · rw [e, pk_us, pk_us]; exact c5.1
        · rw [pk_un e, pk_un e]; exact h.fL k (by omega)
      · intro k hk
        show BK T (upd (σ 17) nb to k) (upd (σ 18) nb (-1) k) (μ 30 k) (μ 31 k)
        by_cases e : k = nb
        · rw [e, pk_us, pk_us]
          refine Or.inr ⟨rfl, ?_⟩
          have c7 := c4.1
          have c8 := c5.1
          rw [h.xt] at c7
          rw [h.s0 nb (Nat.le_refl nb), if_neg]
          rw [Int32.lt_iff_toInt_lt] at c7 c8 ⊢
          omega
        · rw [pk_un e, pk_un e]; exact h.bk k (by omega)
theorem op_addWaggon (h : RI n nb nw T Z J σ μ) {sd w v9 r2 : Int32} {u u2 : St} (hc : cdAW nw Z sd w = 0) (hp : u = (va_up (va_up (va_up (va_up σ 19 (fun _ => nI (nw + 1))) 20 (upd (σ 20) nw w)) 21 (upd (σ 21) (sR sd) (nI (Z (sR sd) + 1)))) 22 (upd (σ 22) (sR sd * 8 + Z (sR sd)) (nI nw))) ∧ v9 = nI nw)
    (hp2 : u2 = (va_up (va_up (va_up (va_up (va_up μ 19 (fun _ => nI (nw + 1))) 20 (upd (μ 20) nw w)) 32 (upd (μ 32) nw sd)) 33 (upd (μ 33) nw (nI (Z (sR sd))))) 34 (fun _ => 0)) ∧ r2 = nI nw) : RR u u2 ∧ v9 = r2 ∧ u2 34 0 = 0 := by
  obtain ⟨rfl, rfl⟩ := hp
  obtain ⟨rfl, rfl⟩ := hp2
  obtain ⟨c1, c2⟩ := cif0 (by decide) hc
  obtain ⟨c3, c4⟩ := cif0 (by decide) c2
  have c5 : ¬ (nw = 8 ∨ 4 ≤ Z (sR sd)) := fun e => by rw [cif_t e] at c4; exact absurd c4 (by decide)
  have w8 := h.wi.w8
  have hw := h.wi.add (w := w) (sR_2 c1) (by omega) (by omega)
  rw [← wh_s c1] at hw
  refine ⟨⟨n, nb, nw + 1, T, _, _, ⟨h.n4, h.b30, h.t5, h.xn, h.yn, h.xb, h.yb, rfl, rfl, h.xt, h.yt, h.e1, h.e2, h.e4, h.e5, h.e6, h.e7, h.e14, h.e15, h.e16, h.e17, ?_, h.bB, h.u, h.b5, h.b6, h.tT, h.fL, h.bk, h.s0, hw, h.of⟩⟩, rfl, rfl⟩
  show upd (σ 20) nw w = upd (μ 20) nw w
  rw [h.e20]
theorem op_offer (h : RI n nb nw T Z J σ μ) {w sd mi pr : Int32} {u u2 : St} (hc : cdOf nw w sd mi pr = 0) (hp : u = (va_up (va_up (va_up σ 24 (upd (σ 24) w.toNatClampNeg sd)) 25 (upd (σ 25) w.toNatClampNeg mi)) 26 (upd (σ 26) w.toNatClampNeg pr)))
    (hp2 : u2 = (va_up (va_up (va_up (va_up μ 24 (upd (μ 24) w.toNatClampNeg sd)) 25 (upd (μ 25) w.toNatClampNeg mi)) 26 (upd (μ 26) w.toNatClampNeg pr)) 34 (fun _ => 0))) : RR u u2 ∧ u2 34 0 = 0 := by
  subst hp
  subst hp2
  obtain ⟨⟨c1, c2⟩, c3⟩ := cif0 (by decide) hc
  obtain ⟨⟨c4, c5⟩, -⟩ := cif0 (by decide) c3
  refine ⟨⟨n, nb, nw, T, Z, J, ⟨h.n4, h.b30, h.t5, h.xn, h.yn, h.xb, h.yb, h.xw, h.yw, h.xt, h.yt, h.e1, h.e2, h.e4, h.e5, h.e6, h.e7, h.e14, h.e15, h.e16, h.e17, h.e20, h.bB, h.u, h.b5, h.b6, h.tT, h.fL, h.bk, h.s0, h.wi, ?_⟩⟩, rfl⟩
  intro k hk
  show of9 (upd (σ 24) w.toNatClampNeg sd k) (upd (μ 24) w.toNatClampNeg sd k) (upd (σ 25) w.toNatClampNeg mi k) (upd (σ 26) w.toNatClampNeg pr k) (upd (μ 25) w.toNatClampNeg mi k) (upd (μ 26) w.toNatClampNeg pr k)
  by_cases e : k = w.toNatClampNeg
  · rw [e, pk_us, pk_us, pk_us, pk_us, pk_us, pk_us]
    refine Or.inr ⟨rfl, rfl, rfl, fun z => c5.1 (by rw [z]; decide), c2, c5, c4⟩
  · rw [pk_un e, pk_un e, pk_un e, pk_un e, pk_un e, pk_un e]; exact h.of k hk
theorem op_couple (h : RI n nb nw T Z J σ μ) {t v9 r2 : Int32} {u u2 : St} (hc : cdCo σ n Z J t = 0) (hp : u = (va_up (va_up σ 21 (upd (upd (σ 21) (sR (σ 4 t.toNatClampNeg)) (nI (Z (sR (σ 4 t.toNatClampNeg)) - 1))) (2 + t.toNatClampNeg) (nI (Z (2 + t.toNatClampNeg) + 1)))) 22 (upd (σ 22) ((2 + t.toNatClampNeg) * 8 + Z (2 + t.toNatClampNeg)) (nI (J (sR (σ 4 t.toNatClampNeg)) (Z (sR (σ 4 t.toNatClampNeg)) - 1))))) ∧ v9 = (nI (J (sR (σ 4 t.toNatClampNeg)) (Z (sR (σ 4 t.toNatClampNeg)) - 1))))
    (hp2 : u2 = (va_up (va_up (va_up μ 32 (upd (μ 32) (J (sR (μ 4 t.toNatClampNeg)) (Z (sR (μ 4 t.toNatClampNeg)) - 1)) (wh (2 + t.toNatClampNeg)))) 33 (upd (μ 33) (J (sR (μ 4 t.toNatClampNeg)) (Z (sR (μ 4 t.toNatClampNeg)) - 1)) (nI (Z (2 + t.toNatClampNeg))))) 34 (fun _ => 0)) ∧ r2 = nI (J (sR (μ 4 t.toNatClampNeg)) (Z (sR (μ 4 t.toNatClampNeg)) - 1))) : RR u u2 ∧ v9 = r2 ∧ u2 34 0 = 0 := by
  rw [← h.e4] at hp2
  obtain ⟨rfl, rfl⟩ := hp
  obtain ⟨rfl, rfl⟩ := hp2
  obtain ⟨c1, c2⟩ := cif0 (by decide) hc
  obtain ⟨⟨c3, c4, c5⟩, -⟩ := cif0 (by decide) c2
  obtain ⟨k, hk, -, ek⟩ := tr_c (Nat.le_trans h.n4 (by decide)) c1
  rw [ek] at c3 c4 c5 ⊢
  have n4 := h.n4
  have hr := sR_2 c3
  have hw := h.wi.move (r := sR (σ 4 k)) (r2 := 2 + k) (by omega) (by omega) (by omega) c4 (fun q => absurd q (by omega))
  exact ⟨⟨n, nb, nw, T, _, _, ⟨h.n4, h.b30, h.t5, h.xn, h.yn, h.xb, h.yb, h.xw, h.yw, h.xt, h.yt, h.e1, h.e2, h.e4, h.e5, h.e6, h.e7, h.e14, h.e15, h.e16, h.e17, h.e20, h.bB, h.u, h.b5, h.b6, h.tT, h.fL, h.bk, h.s0, hw, h.of⟩⟩, rfl, rfl⟩
theorem op_leave (h : RI n nb nw T Z J σ μ) {t v9 r2 : Int32} {u u2 : St} (hc : cdLe σ n Z t = 0)
    (hp : ((σ 24 (J (2 + t.toNatClampNeg) (Z (2 + t.toNatClampNeg) - 1)) = σ 4 t.toNatClampNeg ∧ u = (va_up (va_up (va_up (va_up σ 1 (fun _ => σ 1 0 + pay (σ 26 (J (2 + t.toNatClampNeg) (Z (2 + t.toNatClampNeg) - 1))) (σ 25 (J (2 + t.toNatClampNeg) (Z (2 + t.toNatClampNeg) - 1))) (σ 0 0))) 21 (upd (upd (σ 21) (2 + t.toNatClampNeg) (nI (Z (2 + t.toNatClampNeg) - 1))) (sR (σ 4 t.toNatClampNeg)) (nI (Z (sR (σ 4 t.toNatClampNeg)) + 1)))) 22 (upd (σ 22) ((sR (σ 4 t.toNatClampNeg)) * 8 + Z (sR (σ 4 t.toNatClampNeg))) (nI (J (2 + t.toNatClampNeg) (Z (2 + t.toNatClampNeg) - 1))))) 24 (upd (σ 24) (J (2 + t.toNatClampNeg) (Z (2 + t.toNatClampNeg) - 1)) 0)) ∧ v9 = pay (σ 26 (J (2 + t.toNatClampNeg) (Z (2 + t.toNatClampNeg) - 1))) (σ 25 (J (2 + t.toNatClampNeg) (Z (2 + t.toNatClampNeg) - 1))) (σ 0 0)) ∨ (¬ σ 24 (J (2 + t.toNatClampNeg) (Z (2 + t.toNatClampNeg) - 1)) = σ 4 t.toNatClampNeg ∧ u = (va_up (va_up (va_up σ 1 (fun _ => σ 1 0 + 0)) 21 (upd (upd (σ 21) (2 + t.toNatClampNeg) (nI (Z (2 + t.toNatClampNeg) - 1))) (sR (σ 4 t.toNatClampNeg)) (nI (Z (sR (σ 4 t.toNatClampNeg)) + 1)))) 22 (upd (σ 22) ((sR (σ 4 t.toNatClampNeg)) * 8 + Z (sR (σ 4 t.toNatClampNeg))) (nI (J (2 + t.toNatClampNeg) (Z (2 + t.toNatClampNeg) - 1))))) ∧ v9 = 0)))
    (hp2 : (((μ 26 (J (2 + t.toNatClampNeg) (Z (2 + t.toNatClampNeg) - 1)) = 0 ∨ ¬ μ 24 (J (2 + t.toNatClampNeg) (Z (2 + t.toNatClampNeg) - 1)) = μ 4 t.toNatClampNeg) ∧ u2 = (va_up (va_up (va_up μ 32 (upd (μ 32) (J (2 + t.toNatClampNeg) (Z (2 + t.toNatClampNeg) - 1)) (μ 4 t.toNatClampNeg))) 33 (upd (μ 33) (J (2 + t.toNatClampNeg) (Z (2 + t.toNatClampNeg) - 1)) (nI (Z (sR (μ 4 t.toNatClampNeg)))))) 34 (fun _ => 0)) ∧ r2 = 0) ∨ ((¬ μ 26 (J (2 + t.toNatClampNeg) (Z (2 + t.toNatClampNeg) - 1)) = 0 ∧ μ 24 (J (2 + t.toNatClampNeg) (Z (2 + t.toNatClampNeg) - 1)) = μ 4 t.toNatClampNeg) ∧ u2 = (va_up (va_up (va_up (va_up (va_up μ 1 (fun _ => μ 1 0 + payM (μ 26 (J (2 + t.toNatClampNeg) (Z (2 + t.toNatClampNeg) - 1))) (μ 25 (J (2 + t.toNatClampNeg) (Z (2 + t.toNatClampNeg) - 1))) (μ 0 0))) 26 (upd (μ 26) (J (2 + t.toNatClampNeg) (Z (2 + t.toNatClampNeg) - 1)) 0)) 32 (upd (μ 32) (J (2 + t.toNatClampNeg) (Z (2 + t.toNatClampNeg) - 1)) (μ 4 t.toNatClampNeg))) 33 (upd (μ 33) (J (2 + t.toNatClampNeg) (Z (2 + t.toNatClampNeg) - 1)) (nI (Z (sR (μ 4 t.toNatClampNeg)))))) 34 (fun _ => 0)) ∧ r2 = payM (μ 26 (J (2 + t.toNatClampNeg) (Z (2 + t.toNatClampNeg) - 1))) (μ 25 (J (2 + t.toNatClampNeg) (Z (2 + t.toNatClampNeg) - 1))) (μ 0 0)))) : RR u u2 ∧ v9 = r2 ∧ u2 34 0 = 0 := by
  rw [← h.e4] at hp2
  obtain ⟨c1, c2⟩ := cif0 (by decide) hc
  obtain ⟨⟨c3, c4, c5⟩, -⟩ := cif0 (by decide) c2
  obtain ⟨k, hk, -, ek⟩ := tr_c (Nat.le_trans h.n4 (by decide)) c1
  rw [ek] at c3 c4 c5 hp hp2
  have n4 := h.n4
  have hr := sR_2 c3
  have hj := h.wi.jA (2 + k) (by omega) (Z (2 + k) - 1) (by omega)
  have w8 := h.wi.w8
  have ho := h.of (J (2 + k) (Z (2 + k) - 1)) (by omega)
  have hw := h.wi.move (r := 2 + k) (r2 := sR (σ 4 k)) (by omega) (by omega) (by omega) c4 (fun q => by omega)
  rw [← wh_s c3] at hw
  generalize J (2 + k) (Z (2 + k) - 1) = j at hp hp2 ho hj hw
  rcases hp with ⟨m1, rfl, rfl⟩ | ⟨m1, rfl, rfl⟩
  · rcases ho with ⟨o1, o2⟩ | ⟨o1, o2, o3, o4, o5, o6, o7⟩
    · rw [← m1, o1] at c3
      exact absurd c3.1 (by decide)
    · rcases hp2 with ⟨m2, _⟩ | ⟨_, rfl, rfl⟩
      · rcases m2 with m2 | m2
        · exact absurd m2 o4
        · exact absurd (o1.symm.trans m1) m2
      · have ep : pay (σ 26 j) (σ 25 j) (σ 0 0) = payM (μ 26 j) (μ 25 j) (μ 0 0) := by
          rw [h.xt, h.yt, ← o2, ← o3]; exact pay_eq h.t5 o7
        refine ⟨⟨n, nb, nw, T, _, _, ⟨h.n4, h.b30, h.t5, h.xn, h.yn, h.xb, h.yb, h.xw, h.yw, h.xt, h.yt, ?_, h.e2, h.e4, h.e5, h.e6, h.e7, h.e14, h.e15, h.e16, h.e17, h.e20, h.bB, h.u, h.b5, h.b6, h.tT, h.fL, h.bk, h.s0, hw, ?_⟩⟩, ep, rfl⟩
        · show σ 1 0 + pay (σ 26 j) (σ 25 j) (σ 0 0) = μ 1 0 + payM (μ 26 j) (μ 25 j) (μ 0 0)
          rw [ep, h.e1]
        · intro i hi
          show of9 (upd (σ 24) j 0 i) (μ 24 i) (σ 25 i) (σ 26 i) (μ 25 i) (upd (μ 26) j 0 i)
          by_cases e : i = j
          · rw [e, pk_us, pk_us]; exact Or.inl ⟨rfl, rfl⟩
          · rw [pk_un e, pk_un e]; exact h.of i hi
  · rcases hp2 with ⟨m2, rfl, rfl⟩ | ⟨⟨m2, m3⟩, _⟩
    · refine ⟨⟨n, nb, nw, T, _, _, ⟨h.n4, h.b30, h.t5, h.xn, h.yn, h.xb, h.yb, h.xw, h.yw, h.xt, h.yt, ?_, h.e2, h.e4, h.e5, h.e6, h.e7, h.e14, h.e15, h.e16, h.e17, h.e20, h.bB, h.u, h.b5, h.b6, h.tT, h.fL, h.bk, h.s0, hw, h.of⟩⟩, rfl, rfl⟩
      show σ 1 0 + 0 = μ 1 0
      rw [Int32.add_zero, h.e1]
    · rcases ho with ⟨o1, o2⟩ | ⟨o1, o2, o3, o4, o5, o6, o7⟩
      · exact absurd o2 m2
      · exact absurd (o1.trans m3) m1
theorem RI.hQ (h : RI n nb nw T Z J σ μ) : ∀ r, r < 6 → σ 21 r = nI (Z r) ∧ Z r ≤ 8 := h.wi.hQ8
theorem RI.hG (h : RI n nb nw T Z J σ μ) : ∀ r, r < 6 → ∀ p, p < Z r → wgn (μ 32) (μ 33) (wh r) (nI p) nw = nI (J r p) ∧ J r p < 8 := h.wi.hG9
theorem RI.hW (h : RI n nb nw T Z J σ μ) : ∀ r, r < 6 → wgt (μ 20) (μ 32) (wh r) nw = wsJ (μ 20) (J r) (Z r) := by rw [← h.e20]; exact h.wi.hW
theorem cdAdd_e (h : RI n nb nw T Z J σ μ) (b : Int32) : cdAdd σ n b = cdAdd μ n b := by rw [cdAdd, cdAdd, h.e4]
theorem cdDelay_e (h : RI n nb nw T Z J σ μ) (t mm : Int32) : cdDelay σ n t mm = cdDelay μ n t mm := by rw [cdDelay, cdDelay, h.e7]
theorem cdRun_e (h : RI n nb nw T Z J σ μ) (mm : Int32) : cdRun σ mm = cdRun μ mm := by rw [cdRun, cdRun, h.xt, h.yt]
theorem cdBook_e (h : RI n nb nw T Z J σ μ) (t b fr to : Int32) : cdBook σ n nb t b fr to = cdBook μ n nb t b fr to := by rw [cdBook, cdBook, h.xt, h.yt]
theorem cdCo_e (h : RI n nb nw T Z J σ μ) (t : Int32) : cdCo σ n Z J t = cdCo μ n Z J t := by rw [cdCo, cdCo, h.e4, h.e20]
theorem cdLe_e (h : RI n nb nw T Z J σ μ) (t : Int32) : cdLe σ n Z t = cdLe μ n Z t := by rw [cdLe, cdLe, h.e4]
theorem sq_e (h : RI n nb nw T Z J σ μ) : ∀ j, sq σ n nb j = sq μ n nb j
  | 0 => by rw [sq, sq, h.e4, h.e5, h.e7]
  | j + 1 => by rw [sq, sq, sq_e h j, h.e2, h.e6, h.e14, h.e15, h.e16, h.e17, h.xt, h.yt]
theorem op_reaches (h : RI n nb nw T Z J σ μ) {t b v9 r2 : Int32} {u u2 : St} (hp : (∀ s9, s9 < 8 ∨ 12 < s9 → u s9 = σ s9) ∧ reaR (fun j => (sq σ n nb j).1 t.toNatClampNeg = b) v9) (hp2 : (∀ s9, s9 < 9 ∨ (12 < s9 ∧ s9 < 34) → u2 s9 = μ s9) ∧ u2 34 = (fun _ => 0) ∧ reaR (fun j => (sq μ n nb j).1 t.toNatClampNeg = b) r2) : RR u u2 ∧ v9 = r2 ∧ u2 34 0 = 0 := by
  refine ⟨⟨n, nb, nw, T, Z, J, RI.ag h hp.1 hp2.1⟩, reaR_one (fun j _ => ?_) hp.2 hp2.2.2, by rw [hp2.2.1]⟩
  show (sq σ n nb j).1 t.toNatClampNeg = b ↔ (sq μ n nb j).1 t.toNatClampNeg = b
  rw [sq_e h]
end OPS
