/-! what a minute does to both -/
theorem so_none {B : Nat → Int32} {w : Int32} : ∀ {n : Nat}, n < 2 ^ 31 → so B w n = -1 → ∀ i, i < n → ¬ B i = w
  | 0, _, _, i, hi => absurd hi (Nat.not_lt_zero i)
  | n + 1, hn, h, i, hi => by
    rw [so] at h
    by_cases e : so B w n = -1
    · rw [if_pos e] at h
      by_cases e2 : B n = w
      · rw [if_pos e2] at h
        exact absurd h (nI_m1 (by omega))
      · by_cases e3 : i = n
        · subst e3; exact e2
        · exact so_none (by omega) e i (by omega)
    · rw [if_neg e] at h
      exact absurd h e
theorem so_back {B : Nat → Int32} {w : Int32} {j : Nat} (hj : j < 2 ^ 31) : ∀ {n : Nat}, n < 2 ^ 31 → so B w n = nI j → j < n ∧ B j = w
  | 0, _, h => absurd h.symm (nI_m1 hj)
  | n + 1, hn, h => by
    rw [so] at h
    by_cases e : so B w n = -1
    · rw [if_pos e] at h
      by_cases e2 : B n = w
      · rw [if_pos e2] at h
        have e3 := (nI_eq (by omega) hj).mp h
        subst e3
        exact ⟨by omega, e2⟩
      · rw [if_neg e2] at h
        exact absurd h.symm (nI_m1 hj)
    · rw [if_neg e] at h
      obtain ⟨a1, a2⟩ := so_back hj (by omega) h
      exact ⟨by omega, a2⟩
def un (n : Nat) (B : Nat → Int32) : Prop := ∀ i j, i < n → j < n → B i = B j → i = j
theorem so_iff {B : Nat → Int32} {w : Int32} {n j : Nat} (hu : un n B) (hj : j < n) (hn : n < 2 ^ 31) : so B w n = nI j ↔ B j = w := by
  constructor
  · intro h; exact (so_back (by omega) hn h).2
  · intro h
    exact so_hit h (fun i hi e => by have := hu i j (by omega) hj (e.trans h.symm); omega) hj hn
section STP2
variable {Tu bT bB bF bL Hd : Nat → Int32} {n nb : Nat} {mi : Int32}
theorem stp_out {k : Nat} {x : T3} {i : Nat} (h : ¬ i = k) : (stp Tu bT bB bF bL Hd n nb mi k x).1.1 i = x.1 i ∧ (stp Tu bT bB bF bL Hd n nb mi k x).1.2.1 i = x.2.1 i ∧ (stp Tu bT bB bF bL Hd n nb mi k x).1.2.2 i = x.2.2 i := by
  by_cases h1 : x.2.2 k ≤ 0
  · by_cases h2 : Hd k = 0
    · by_cases h3 : ahd Tu (x.1 k) (x.2.1 k) = -2
      · rw [stp_f h1 h2 h3]; exact ⟨rfl, pk_un h, rfl⟩
      · by_cases h4 : ahd Tu (x.1 k) (x.2.1 k) = -1 ∨ ¬ so x.1 (ahd Tu (x.1 k) (x.2.1 k)) n = -1 ∨ mts bT bB bF bL nb (nI k) (ahd Tu (x.1 k) (x.2.1 k)) mi mi
        · rw [stp_b h1 h2 h3 h4]; exact ⟨rfl, rfl, rfl⟩
        · rw [stp_m h1 h2 h3 h4]; exact ⟨pk_un h, rfl, rfl⟩
    · rw [stp_h h1 h2]; exact ⟨rfl, rfl, rfl⟩
  · rw [stp_d h1]; exact ⟨rfl, rfl, pk_un h⟩
theorem mvs_out {x : T3} {i : Nat} : ∀ {k : Nat}, k ≤ i → (mvs Tu bT bB bF bL Hd n nb mi x k).1.1 i = x.1 i ∧ (mvs Tu bT bB bF bL Hd n nb mi x k).1.2.1 i = x.2.1 i ∧ (mvs Tu bT bB bF bL Hd n nb mi x k).1.2.2 i = x.2.2 i
  | 0, _ => ⟨rfl, rfl, rfl⟩
  | k + 1, h => by
    obtain ⟨a1, a2, a3⟩ := mvs_out (x := x) (i := i) (k := k) (by omega)
    obtain ⟨b1, b2, b3⟩ := stp_out (Tu := Tu) (bT := bT) (bB := bB) (bF := bF) (bL := bL) (Hd := Hd) (n := n) (nb := nb) (mi := mi) (k := k) (x := (mvs Tu bT bB bF bL Hd n nb mi x k).1) (i := i) (by omega)
    exact ⟨b1.trans a1, b2.trans a2, b3.trans a3⟩
theorem stp_un {k : Nat} {x : T3} (hn : n < 2 ^ 31) (hk : k < n) (h : un n x.1) : un n (stp Tu bT bB bF bL Hd n nb mi k x).1.1 := by
  by_cases h1 : x.2.2 k ≤ 0
  · by_cases h2 : Hd k = 0
    · by_cases h3 : ahd Tu (x.1 k) (x.2.1 k) = -2
      · rw [stp_f h1 h2 h3]; exact h
      · by_cases h4 : ahd Tu (x.1 k) (x.2.1 k) = -1 ∨ ¬ so x.1 (ahd Tu (x.1 k) (x.2.1 k)) n = -1 ∨ mts bT bB bF bL nb (nI k) (ahd Tu (x.1 k) (x.2.1 k)) mi mi
        · rw [stp_b h1 h2 h3 h4]; exact h
        · rw [stp_m h1 h2 h3 h4]
          have hs : so x.1 (ahd Tu (x.1 k) (x.2.1 k)) n = -1 := Classical.byContradiction fun q => h4 (Or.inr (Or.inl q))
          have hno := so_none hn hs
          show un n (upd x.1 k (ahd Tu (x.1 k) (x.2.1 k)))
          intro i j hi hj e
          by_cases ei : i = k
          · by_cases ej : j = k
            · rw [ei, ej]
            · rw [ei, pk_us, pk_un ej] at e
              exact absurd e.symm (hno j hj)
          · by_cases ej : j = k
            · rw [ej, pk_us, pk_un ei] at e
              exact absurd e (hno i hi)
            · rw [pk_un ei, pk_un ej] at e
              exact h i j hi hj e
    · rw [stp_h h1 h2]; exact h
  · rw [stp_d h1]; exact h
theorem mvs_un {x : T3} (hn : n < 2 ^ 31) (h : un n x.1) : ∀ {k : Nat}, k ≤ n → un n (mvs Tu bT bB bF bL Hd n nb mi x k).1.1
  | 0, _ => h
  | k + 1, hk => stp_un hn hk (mvs_un hn h (k := k) (by omega))
end STP2
section BKS
variable {B bT bB bF bL L S Q : Nat → Int32} {n nb : Nat} {mi : Int32}
theorem mkm_ge : ∀ {k i : Nat}, k ≤ i → mkm B bT bB bF bL n mi L k i = L i
  | 0, _, _ => rfl
  | k + 1, i, h => by
    have e := mkm_ge (k := k) (i := i) (by omega)
    rw [mkm]
    by_cases c : mkm B bT bB bF bL n mi L k k = -1 ∧ inR mi (bF k) (bL k) ∧ so B (bB k) n = bT k
    · rw [cif_t c, pk_un (show i ≠ k by omega), e]
    · rw [cif_f c, e]
theorem mkm_lt : ∀ {k i : Nat}, i < k → mkm B bT bB bF bL n mi L k i = cif (L i = -1 ∧ inR mi (bF i) (bL i) ∧ so B (bB i) n = bT i) (mi - bF i) (L i)
  | 0, i, h => absurd h (Nat.not_lt_zero i)
  | k + 1, i, h => by
    rw [mkm]
    by_cases e : i = k
    · subst e
      rw [mkm_ge (Nat.le_refl i)]
      by_cases c : L i = -1 ∧ inR mi (bF i) (bL i) ∧ so B (bB i) n = bT i
      · rw [cif_t c, cif_t c, pk_us]
      · rw [cif_f c, cif_f c, mkm_ge (Nat.le_refl i)]
    · have e2 := mkm_lt (k := k) (i := i) (by omega)
      by_cases c : mkm B bT bB bF bL n mi L k k = -1 ∧ inR mi (bF k) (bL k) ∧ so B (bB k) n = bT k
      · rw [cif_t c, pk_un e, e2]
      · rw [cif_f c, e2]
theorem stm_ge : ∀ {k i : Nat}, k ≤ i → (stm B bT bB bF bL mi S Q k).1 i = S i ∧ (stm B bT bB bF bL mi S Q k).2 i = Q i
  | 0, _, _ => ⟨rfl, rfl⟩
  | k + 1, i, h => by
    obtain ⟨e1, e2⟩ := stm_ge (k := k) (i := i) (by omega)
    rw [stm]
    by_cases c : (stm B bT bB bF bL mi S Q k).1 k = 0 ∧ inR mi (bF k) (bL k)
    · rw [cif_t c]
      exact ⟨(pk_un (show i ≠ k by omega)).trans e1, (pk_un (show i ≠ k by omega)).trans e2⟩
    · rw [cif_f c]; exact ⟨e1, e2⟩
theorem stm_lt : ∀ {k i : Nat}, i < k → ((S i = 0 ∧ inR mi (bF i) (bL i)) ∧ (stm B bT bB bF bL mi S Q k).1 i = (if B (bT i).toNatClampNeg = bB i then 1 else if mi = bL i then 2 else 0) ∧ (stm B bT bB bF bL mi S Q k).2 i = mi - bF i) ∨ (¬ (S i = 0 ∧ inR mi (bF i) (bL i)) ∧ (stm B bT bB bF bL mi S Q k).1 i = S i ∧ (stm B bT bB bF bL mi S Q k).2 i = Q i)
  | 0, i, h => absurd h (Nat.not_lt_zero i)
  | k + 1, i, h => by
    rw [stm]
    by_cases e : i = k
    · subst e
      obtain ⟨e1, e2⟩ := stm_ge (B := B) (bT := bT) (bB := bB) (bF := bF) (bL := bL) (S := S) (Q := Q) (mi := mi) (Nat.le_refl i)
      rw [e1]
      by_cases c : S i = 0 ∧ inR mi (bF i) (bL i)
      · rw [cif_t c]
        exact Or.inl ⟨c, pk_us, pk_us⟩
      · rw [cif_f c]
        exact Or.inr ⟨c, e1, e2⟩
    · have e2 := stm_lt (k := k) (i := i) (by omega)
      by_cases c : (stm B bT bB bF bL mi S Q k).1 k = 0 ∧ inR mi (bF k) (bL k)
      · rw [cif_t c]
        show (_ ∧ upd _ k _ i = _ ∧ upd _ k _ i = _) ∨ (_ ∧ upd _ k _ i = _ ∧ upd _ k _ i = _)
        rw [pk_un e, pk_un e]
        exact e2
      · rw [cif_f c]; exact e2
end BKS
/-- a booking: its lateness in the class, its standing and lateness in the reference -/
def BK (T : Nat) (la late sd9 lt9 : Int32) : Prop := (¬ late = -1 ∧ sd9 = 1 ∧ lt9 = late) ∨ (late = -1 ∧ sd9 = (if la < nI T then 2 else 0))
theorem BK.step {T : Nat} {f la late sd9 lt9 : Int32} {C C2 : Prop} [Decidable C2] (hT : T + 1 < 2 ^ 31) (hC : C ↔ C2) (hfl : ¬ la < f) (h : BK T la late sd9 lt9) {sd' lt' : Int32}
    (h2 : ((sd9 = 0 ∧ inR (nI T) f la) ∧ sd' = (if C2 then 1 else if nI T = la then 2 else 0) ∧ lt' = nI T - f) ∨ (¬ (sd9 = 0 ∧ inR (nI T) f la) ∧ sd' = sd9 ∧ lt' = lt9)) :
    BK (T + 1) la (cif (late = -1 ∧ inR (nI T) f la ∧ C) (nI T - f) late) sd' lt' := by
  have eT := nI_toInt (n := T) (by omega)
  have eT1 := nI_toInt (n := T + 1) hT
  rcases h with ⟨h1, rfl, rfl⟩ | ⟨rfl, h1⟩
  · rw [cif_f (fun q => h1 q.1)]
    rcases h2 with ⟨⟨a, _⟩, _⟩ | ⟨_, rfl, rfl⟩
    · exact absurd a (by decide)
    · exact Or.inl ⟨h1, rfl, rfl⟩
  · rcases h2 with ⟨⟨a, hin⟩, b1, b2⟩ | ⟨a, b1, b2⟩
    · by_cases c : C
      · rw [cif_t ⟨rfl, hin, c⟩]
        rw [if_pos (hC.mp c)] at b1
        refine Or.inl ⟨fun e => ?_, b1, b2⟩
        have e2 : f = nI T + 1 := by
          have e3 : nI T - f + f = -1 + f := by rw [e]
          rw [Int32.sub_add_cancel] at e3
          rw [e3, Int32.add_assoc, Int32.add_comm f 1, ← Int32.add_assoc]
          exact (Int32.zero_add f).symm
        refine hin.1 ?_
        rw [e2, show (1 : Int32) = nI 1 from rfl, nI_add]
        rw [Int32.lt_iff_toInt_lt, eT, eT1]
        omega
      · rw [cif_f (fun q => c q.2.2)]
        rw [if_neg (fun q => c (hC.mpr q))] at b1
        refine Or.inr ⟨rfl, b1.trans ?_⟩
        have h3 := hin.2
        rw [Int32.lt_iff_toInt_lt, eT] at h3
        by_cases e : nI T = la
        · rw [if_pos e, if_pos]
          rw [Int32.lt_iff_toInt_lt, eT1, ← e, eT]; omega
        · rw [if_neg e, if_neg]
          rw [Int32.lt_iff_toInt_lt, eT1]
          intro q
          exact e (Int32.toInt_inj.mp (by rw [eT]; omega))
    · by_cases hin : inR (nI T) f la
      · have h3 : ¬ la < nI T := hin.2
        rw [if_neg h3] at h1
        exact absurd ⟨h1, hin⟩ a
      · rw [cif_f (fun q => hin q.2.1)]
        refine Or.inr ⟨rfl, b1.trans (h1.trans ?_)⟩
        by_cases e : la < nI T
        · rw [if_pos e, if_pos]
          rw [Int32.lt_iff_toInt_lt, eT] at e
          rw [Int32.lt_iff_toInt_lt, eT1]; omega
        · rw [if_neg e, if_neg]
          intro q
          refine hin ⟨?_, e⟩
          rw [Int32.lt_iff_toInt_lt, eT] at e ⊢
          rw [Int32.lt_iff_toInt_lt, eT1] at q
          rw [Int32.lt_iff_toInt_lt] at hfl
          omega
/-- both behind the same minutes -/
abbrev MR (n nb T : Nat) (bL : Nat → Int32) (y : T4) (z : M9) : Prop :=
  (y.1 = z.1) ∧
  (y.2.2.1 = nI T) ∧
  (z.2.2.2.1 = nI T) ∧
  (y.2.2.2 = z.2.2.2.2) ∧
  (∀ i, i < n → blk (y.1.1 i)) ∧
  (un n y.1.1) ∧
  (∀ i, i < 4 → y.1.2.1 i = 0 ∨ y.1.2.1 i = 1) ∧
  (∀ k, k < nb → BK T (bL k) (y.2.1 k) (z.2.2.1.1 k) (z.2.2.1.2 k)) ∧
  (∀ k, nb ≤ k → z.2.2.1.1 k = 0)
theorem MR.x {n nb T : Nat} {bL : Nat → Int32} {y : T4} {z : M9} (h : MR n nb T bL y z) : y.1 = z.1 := h.1
theorem MR.t {n nb T : Nat} {bL : Nat → Int32} {y : T4} {z : M9} (h : MR n nb T bL y z) : y.2.2.1 = nI T := h.2.1
theorem MR.t2 {n nb T : Nat} {bL : Nat → Int32} {y : T4} {z : M9} (h : MR n nb T bL y z) : z.2.2.2.1 = nI T := h.2.2.1
theorem MR.c {n nb T : Nat} {bL : Nat → Int32} {y : T4} {z : M9} (h : MR n nb T bL y z) : y.2.2.2 = z.2.2.2.2 := h.2.2.2.1
theorem MR.bB {n nb T : Nat} {bL : Nat → Int32} {y : T4} {z : M9} (h : MR n nb T bL y z) : ∀ i, i < n → blk (y.1.1 i) := h.2.2.2.2.1
theorem MR.u {n nb T : Nat} {bL : Nat → Int32} {y : T4} {z : M9} (h : MR n nb T bL y z) : un n y.1.1 := h.2.2.2.2.2.1
theorem MR.r {n nb T : Nat} {bL : Nat → Int32} {y : T4} {z : M9} (h : MR n nb T bL y z) : ∀ i, i < 4 → y.1.2.1 i = 0 ∨ y.1.2.1 i = 1 := h.2.2.2.2.2.2.1
theorem MR.k {n nb T : Nat} {bL : Nat → Int32} {y : T4} {z : M9} (h : MR n nb T bL y z) : ∀ k, k < nb → BK T (bL k) (y.2.1 k) (z.2.2.1.1 k) (z.2.2.1.2 k) := h.2.2.2.2.2.2.2.1
theorem MR.s {n nb T : Nat} {bL : Nat → Int32} {y : T4} {z : M9} (h : MR n nb T bL y z) : ∀ k, nb ≤ k → z.2.2.1.1 k = 0 := h.2.2.2.2.2.2.2.2
theorem MR.step {σ μ : St} {n nb T : Nat} {y : T4} {z : M9} (h : MR n nb T (σ 17) y z) (hT : T ≤ 5000) (hn : n ≤ 4) (e2 : σ 2 = μ 2) (e6 : σ 6 = μ 6) (e14 : σ 14 = μ 14) (e15 : σ 15 = μ 15) (e16 : σ 16 = μ 16) (e17 : σ 17 = μ 17)
    (tT : ∀ k, k < nb → ∃ j, j < n ∧ σ 14 k = nI j) (fL : ∀ k, k < nb → ¬ σ 17 k < σ 16 k) : MR n nb (T + 1) (σ 17) (mnX σ n nb y) (mnM μ n nb z) := by
  have ag0 : ag n (cpn z.1.1 z.2.1.1 n, cpn z.1.2.1 z.2.1.2.1 n, cpn z.1.2.2 z.2.1.2.2 n) y.1 := by
    intro i hi
    rw [h.x]
    exact ⟨cpn_in hi, cpn_in hi, cpn_in hi⟩
  obtain ⟨m1, m2⟩ := mvs_ag (Tu := σ 2) (bT := σ 14) (bB := σ 15) (bF := σ 16) (bL := σ 17) (Hd := σ 6) (nb := nb) (mi := nI T) ag0 (fun i _ => rfl) (Nat.le_refl n)
  have eM : mvM μ n nb z = mvs (σ 2) (σ 14) (σ 15) (σ 16) (σ 17) (σ 6) n nb (nI T) (cpn z.1.1 z.2.1.1 n, cpn z.1.2.1 z.2.1.2.1 n, cpn z.1.2.2 z.2.1.2.2 n) n := by
    rw [mvM, ← e2, ← e6, ← e14, ← e15, ← e16, ← e17, h.t2]
  have f1 : (mvs (σ 2) (σ 14) (σ 15) (σ 16) (σ 17) (σ 6) n nb (nI T) y.1 n).1.1 = cpn (mvM μ n nb z).1.1 z.1.1 n := by
    funext i
    by_cases hi : i < n
    · rw [cpn_in hi, eM]; exact (m1 i hi).1.symm
    · rw [cpn_out hi, ← h.x]; exact (mvs_out (by omega)).1
  have f2 : (mvs (σ 2) (σ 14) (σ 15) (σ 16) (σ 17) (σ 6) n nb (nI T) y.1 n).1.2.1 = cpn (mvM μ n nb z).1.2.1 z.1.2.1 n := by
    funext i
    by_cases hi : i < n
    · rw [cpn_in hi, eM]; exact (m1 i hi).2.1.symm
    · rw [cpn_out hi, ← h.x]; exact (mvs_out (by omega)).2.1
  have f3 : (mvs (σ 2) (σ 14) (σ 15) (σ 16) (σ 17) (σ 6) n nb (nI T) y.1 n).1.2.2 = cpn (mvM μ n nb z).1.2.2 z.1.2.2 n := by
    funext i
    by_cases hi : i < n
    · rw [cpn_in hi, eM]; exact (m1 i hi).2.2.symm
    · rw [cpn_out hi, ← h.x]; exact (mvs_out (by omega)).2.2
  have hu := mvs_un (Tu := σ 2) (bT := σ 14) (bB := σ 15) (bF := σ 16) (bL := σ 17) (Hd := σ 6) (nb := nb) (mi := nI T) (n := n) (by omega) h.u (Nat.le_refl n)
  have eX : mnX σ n nb y = ((mvs (σ 2) (σ 14) (σ 15) (σ 16) (σ 17) (σ 6) n nb (nI T) y.1 n).1, mkm (mvs (σ 2) (σ 14) (σ 15) (σ 16) (σ 17) (σ 6) n nb (nI T) y.1 n).1.1 (σ 14) (σ 15) (σ 16) (σ 17) n (nI T) y.2.1 nb, nI T + 1, y.2.2.2 + (mvs (σ 2) (σ 14) (σ 15) (σ 16) (σ 17) (σ 6) n nb (nI T) y.1 n).2) := by
    rw [mnX, h.t]
  have eN : mnM μ n nb z = (((mvs (σ 2) (σ 14) (σ 15) (σ 16) (σ 17) (σ 6) n nb (nI T) y.1 n).1.1, (mvs (σ 2) (σ 14) (σ 15) (σ 16) (σ 17) (σ 6) n nb (nI T) y.1 n).1.2.1, (mvs (σ 2) (σ 14) (σ 15) (σ 16) (σ 17) (σ 6) n nb (nI T) y.1 n).1.2.2), (mvM μ n nb z).1, stm (mvs (σ 2) (σ 14) (σ 15) (σ 16) (σ 17) (σ 6) n nb (nI T) y.1 n).1.1 (σ 14) (σ 15) (σ 16) (σ 17) (nI T) z.2.2.1.1 z.2.2.1.2 nb, nI T + 1, z.2.2.2.2 + (mvM μ n nb z).2) := by
    rw [mnM, f1, f2, f3, h.t2, ← e14, ← e15, ← e16, ← e17]
  rw [eX, eN]
  have et : nI T + 1 = nI (T + 1) := by rw [show (1 : Int32) = nI 1 from rfl, nI_add]
  refine ⟨rfl, et, et, ?_, ?_, hu, ?_, ?_, ?_⟩
  · show y.2.2.2 + _ = z.2.2.2.2 + _
    rw [h.c, eM, m2]
  · exact fun i hi => mvs_blk h.bB n i hi (Nat.le_refl n)
  · exact fun i hi => mvs_bool (h.r i hi) n
  · intro k hk
    show BK (T + 1) (σ 17 k) (mkm _ (σ 14) (σ 15) (σ 16) (σ 17) n (nI T) y.2.1 nb k) _ _
    rw [mkm_lt hk]
    obtain ⟨j, hj, ej⟩ := tT k hk
    refine BK.step (C2 := (mvs (σ 2) (σ 14) (σ 15) (σ 16) (σ 17) (σ 6) n nb (nI T) y.1 n).1.1 (σ 14 k).toNatClampNeg = σ 15 k) (by omega) ?_ (fL k hk) (h.k k hk) (stm_lt hk)
    rw [ej, nI_clamp (show j < 2 ^ 31 by omega)]
    exact so_iff hu hj (by omega)
  · intro k hk
    show (stm _ (σ 14) (σ 15) (σ 16) (σ 17) (nI T) z.2.2.1.1 z.2.2.1.2 nb).1 k = 0
    rw [(stm_ge hk).1]
    exact h.s k hk
