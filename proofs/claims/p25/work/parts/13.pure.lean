/-! the pure pictures -/
def fl (x : Int32) : Int32 := if x = 0 then 1 else 0
theorem fl_0 {x : Int32} (h : x = 0) : fl x = 1 := if_pos h
theorem fl_1 {x : Int32} (h : ¬ x = 0) : fl x = 0 := if_neg h
theorem fl_b (x : Int32) : fl x = 0 ∨ fl x = 1 := by
  by_cases h : x = 0
  · exact Or.inr (fl_0 h)
  · exact Or.inl (fl_1 h)
def blk (b : Int32) : Prop := b = 0 ∨ b = 1 ∨ b = 2 ∨ b = 3 ∨ b = 4 ∨ b = 5 ∨ b = 6 ∨ b = 7
/-- the block behind an end: -2 a dead end, -1 not joined -/
def ahd (T : Nat → Int32) (b r : Int32) : Int32 :=
  if r = 0 then
    (if b = 0 then -2 else if b = 2 then (if T 0 = 0 then 1 else -1) else if b = 4 then (if T 1 = 0 then 3 else -1) else if b = 6 then (if T 0 = 0 then -1 else 1) else if b = 7 then (if T 1 = 0 then -1 else 3) else b - 1)
  else
    (if b = 1 then (if T 0 = 0 then 2 else 6) else if b = 3 then (if T 1 = 0 then 4 else 7) else if b = 5 then -2 else if b = 6 then -2 else if b = 7 then -2 else b + 1)
/-- the first k < n with B k = w, or -1 -/
def so (B : Nat → Int32) (w : Int32) : Nat → Int32
  | 0 => -1
  | n + 1 => if so B w n = -1 then (if B n = w then nI n else -1) else so B w n
theorem so_miss {B : Nat → Int32} {w : Int32} : ∀ {n : Nat}, (∀ i, i < n → ¬ B i = w) → so B w n = -1
  | 0, _ => rfl
  | n + 1, h => by
    rw [so, if_pos (so_miss (fun i hi => h i (by omega))), if_neg (h n (by omega))]
theorem nI_m1 {j : Nat} (h : j < 2 ^ 31) : ¬ nI j = -1 := by
  intro e
  have h1 := nI_toInt h
  rw [e] at h1
  have h2 : (-1 : Int32).toInt = -1 := rfl
  omega
theorem so_hit {B : Nat → Int32} {w : Int32} {j : Nat} (e : B j = w) (h : ∀ i, i < j → ¬ B i = w) : ∀ {n : Nat}, j < n → n < 2 ^ 31 → so B w n = nI j
  | 0, hj, _ => absurd hj (Nat.not_lt_zero j)
  | n + 1, hj, hn => by
    by_cases hjn : j = n
    · subst hjn
      rw [so, if_pos (so_miss h), if_pos e]
    · have h1 := so_hit e h (n := n) (by omega) (by omega)
      rw [so, h1, if_neg (nI_m1 (by omega))]
/-- some booking of the block b for another train than t has a minute of f .. l -/
def mts (T B F L : Nat → Int32) (n : Nat) (t b f l : Int32) : Prop := ∃ k, k < n ∧ B k = b ∧ ¬ T k = t ∧ ¬ l < F k ∧ ¬ L k < f
def inR (v a b : Int32) : Prop := ¬ v < a ∧ ¬ b < v
abbrev T3 : Type := (Nat → Int32) × (Nat → Int32) × (Nat → Int32)
/-- one train in one minute: blocks, directions, delays -/
noncomputable def stp (Tu bT bB bF bL Hd : Nat → Int32) (n nb : Nat) (mi : Int32) (k : Nat) (x : T3) : T3 × Int32 :=
  if x.2.2 k ≤ 0 then
    (if Hd k = 0 then
      (if ahd Tu (x.1 k) (x.2.1 k) = -2 then ((x.1, upd x.2.1 k (fl (x.2.1 k)), x.2.2), 0)
       else cif (ahd Tu (x.1 k) (x.2.1 k) = -1 ∨ ¬ so x.1 (ahd Tu (x.1 k) (x.2.1 k)) n = -1 ∨ mts bT bB bF bL nb (nI k) (ahd Tu (x.1 k) (x.2.1 k)) mi mi) (x, 0) ((upd x.1 k (ahd Tu (x.1 k) (x.2.1 k)), x.2.1, x.2.2), 1))
     else (x, 0))
  else ((x.1, x.2.1, upd x.2.2 k (x.2.2 k - 1)), 0)
section STP
variable {Tu bT bB bF bL Hd : Nat → Int32} {n nb : Nat} {mi : Int32} {k : Nat} {x : T3}
theorem stp_d (h : ¬ x.2.2 k ≤ 0) : stp Tu bT bB bF bL Hd n nb mi k x = ((x.1, x.2.1, upd x.2.2 k (x.2.2 k - 1)), 0) := if_neg h
theorem stp_h (h : x.2.2 k ≤ 0) (h2 : ¬ Hd k = 0) : stp Tu bT bB bF bL Hd n nb mi k x = (x, 0) := by rw [stp, if_pos h, if_neg h2]
theorem stp_f (h : x.2.2 k ≤ 0) (h2 : Hd k = 0) (h3 : ahd Tu (x.1 k) (x.2.1 k) = -2) : stp Tu bT bB bF bL Hd n nb mi k x = ((x.1, upd x.2.1 k (fl (x.2.1 k)), x.2.2), 0) := by rw [stp, if_pos h, if_pos h2, if_pos h3]
theorem stp_b (h : x.2.2 k ≤ 0) (h2 : Hd k = 0) (h3 : ¬ ahd Tu (x.1 k) (x.2.1 k) = -2) (h4 : ahd Tu (x.1 k) (x.2.1 k) = -1 ∨ ¬ so x.1 (ahd Tu (x.1 k) (x.2.1 k)) n = -1 ∨ mts bT bB bF bL nb (nI k) (ahd Tu (x.1 k) (x.2.1 k)) mi mi) : stp Tu bT bB bF bL Hd n nb mi k x = (x, 0) := by rw [stp, if_pos h, if_pos h2, if_neg h3, cif_t h4]
theorem stp_m (h : x.2.2 k ≤ 0) (h2 : Hd k = 0) (h3 : ¬ ahd Tu (x.1 k) (x.2.1 k) = -2) (h4 : ¬ (ahd Tu (x.1 k) (x.2.1 k) = -1 ∨ ¬ so x.1 (ahd Tu (x.1 k) (x.2.1 k)) n = -1 ∨ mts bT bB bF bL nb (nI k) (ahd Tu (x.1 k) (x.2.1 k)) mi mi)) : stp Tu bT bB bF bL Hd n nb mi k x = ((upd x.1 k (ahd Tu (x.1 k) (x.2.1 k)), x.2.1, x.2.2), 1) := by rw [stp, if_pos h, if_pos h2, if_neg h3, cif_f h4]
theorem stp_01 (Tu bT bB bF bL Hd : Nat → Int32) (n nb : Nat) (mi : Int32) (k : Nat) (x : T3) : (stp Tu bT bB bF bL Hd n nb mi k x).2 = 0 ∨ (stp Tu bT bB bF bL Hd n nb mi k x).2 = 1 := by
  by_cases h : x.2.2 k ≤ 0
  · by_cases h2 : Hd k = 0
    · by_cases h3 : ahd Tu (x.1 k) (x.2.1 k) = -2
      · rw [stp_f h h2 h3]; exact Or.inl rfl
      · by_cases h4 : ahd Tu (x.1 k) (x.2.1 k) = -1 ∨ ¬ so x.1 (ahd Tu (x.1 k) (x.2.1 k)) n = -1 ∨ mts bT bB bF bL nb (nI k) (ahd Tu (x.1 k) (x.2.1 k)) mi mi
        · rw [stp_b h h2 h3 h4]; exact Or.inl rfl
        · rw [stp_m h h2 h3 h4]; exact Or.inr rfl
    · rw [stp_h h h2]; exact Or.inl rfl
  · rw [stp_d h]; exact Or.inl rfl
/-- the first k trains in one minute, and how many came to another block -/
noncomputable def mvs (Tu bT bB bF bL Hd : Nat → Int32) (n nb : Nat) (mi : Int32) (x : T3) : Nat → T3 × Int32
  | 0 => (x, 0)
  | k + 1 => ((stp Tu bT bB bF bL Hd n nb mi k (mvs Tu bT bB bF bL Hd n nb mi x k).1).1, (mvs Tu bT bB bF bL Hd n nb mi x k).2 + (stp Tu bT bB bF bL Hd n nb mi k (mvs Tu bT bB bF bL Hd n nb mi x k).1).2)
end STP
/-- lateness behind a minute, of the first k bookings -/
noncomputable def mkm (B bT bB bF bL : Nat → Int32) (n : Nat) (mi : Int32) (L : Nat → Int32) : Nat → Nat → Int32
  | 0 => L
  | k + 1 => cif (mkm B bT bB bF bL n mi L k k = -1 ∧ inR mi (bF k) (bL k) ∧ so B (bB k) n = bT k) (upd (mkm B bT bB bF bL n mi L k) k (mi - bF k)) (mkm B bT bB bF bL n mi L k)
theorem ahd_blk {T : Nat → Int32} {b r : Int32} (h : blk b) : ahd T b r = -2 ∨ ahd T b r = -1 ∨ blk (ahd T b r) := by
  rcases h with rfl | rfl | rfl | rfl | rfl | rfl | rfl | rfl <;> by_cases hr : r = 0 <;> by_cases h0 : T 0 = 0 <;> by_cases h1 : T 1 = 0 <;> simp (decide := true) [ahd, hr, h0, h1, blk]
theorem stp_one {Tu bT bB bF bL Hd : Nat → Int32} {n nb : Nat} {mi : Int32} {k : Nat} {x : T3} {r : Int32} (h : r = (stp Tu bT bB bF bL Hd n nb mi k x).2) (c : ¬ r = 0) : r = 1 := by
  subst h
  exact (stp_01 Tu bT bB bF bL Hd n nb mi k x).resolve_left c
theorem stp_blk {Tu bT bB bF bL Hd : Nat → Int32} {n nb : Nat} {mi : Int32} {k : Nat} {x : T3} (i : Nat) (h : blk (x.1 i)) (hk : blk (x.1 k)) : blk ((stp Tu bT bB bF bL Hd n nb mi k x).1.1 i) := by
  by_cases h1 : x.2.2 k ≤ 0
  · by_cases h2 : Hd k = 0
    · by_cases h3 : ahd Tu (x.1 k) (x.2.1 k) = -2
      · rw [stp_f h1 h2 h3]; exact h
      · by_cases h4 : ahd Tu (x.1 k) (x.2.1 k) = -1 ∨ ¬ so x.1 (ahd Tu (x.1 k) (x.2.1 k)) n = -1 ∨ mts bT bB bF bL nb (nI k) (ahd Tu (x.1 k) (x.2.1 k)) mi mi
        · rw [stp_b h1 h2 h3 h4]; exact h
        · rw [stp_m h1 h2 h3 h4]
          show blk (upd x.1 k _ i)
          by_cases e : i = k
          · subst e
            rw [pk_us]
            rcases ahd_blk (T := Tu) (r := x.2.1 i) hk with q | q | q
            · exact absurd q h3
            · exact absurd (Or.inl q) h4
            · exact q
          · rw [pk_un e]; exact h
    · rw [stp_h h1 h2]; exact h
  · rw [stp_d h1]; exact h
theorem mvs_2 (Tu bT bB bF bL Hd : Nat → Int32) (n nb : Nat) (mi : Int32) (x : T3) (k : Nat) : (mvs Tu bT bB bF bL Hd n nb mi x (k + 1)).2 = (mvs Tu bT bB bF bL Hd n nb mi x k).2 + (stp Tu bT bB bF bL Hd n nb mi k (mvs Tu bT bB bF bL Hd n nb mi x k).1).2 := rfl
theorem mvs_blk {Tu bT bB bF bL Hd : Nat → Int32} {n nb : Nat} {mi : Int32} {x : T3} (h : ∀ i, i < n → blk (x.1 i)) : ∀ k i, i < n → k ≤ n → blk ((mvs Tu bT bB bF bL Hd n nb mi x k).1.1 i)
  | 0, i, hi, _ => h i hi
  | k + 1, i, hi, hk => stp_blk i (mvs_blk h k i hi (by omega)) (mvs_blk h k k (by omega) (by omega))
/-- f on the first k, else g -/
def cpn (f g : Nat → Int32) (k : Nat) : Nat → Int32 := fun i => if i < k then f i else g i
theorem cpn_0 (f g : Nat → Int32) : cpn f g 0 = g := by funext i; simp [cpn]
theorem cpn_s (f g : Nat → Int32) (k : Nat) : upd (cpn f g k) k (f k) = cpn f g (k + 1) := by
  funext i
  by_cases h : i = k
  · subst h; simp [cpn, upd]
  · by_cases h2 : i < k
    · have h3 : i < k + 1 := by omega
      simp [cpn, upd, h, h2, h3]
    · have h3 : ¬ i < k + 1 := by omega
      simp [cpn, upd, h, h2, h3]
theorem cpn_in {f g : Nat → Int32} {k i : Nat} (h : i < k) : cpn f g k i = f i := if_pos h
theorem cpn_out {f g : Nat → Int32} {k i : Nat} (h : ¬ i < k) : cpn f g k i = g i := if_neg h
