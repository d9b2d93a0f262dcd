/-! the pure pictures of the reference -/
theorem rf_ {cd c : Int32} {σ : St} (h : cd = c) (hc : ¬ c = 0) : ¬ cd = 0 ∧ va_up σ 34 (fun _ => c) = va_up σ 34 (fun _ => cd) := by
  subst h
  exact ⟨hc, rfl⟩
/-- how many of the first waggons are at a place, the first of them at a place there, and their weight -/
def mny (V : Nat → Int32) (w : Int32) : Nat → Nat
  | 0 => 0
  | k + 1 => mny V w k + (if V k = w then 1 else 0)
theorem mny_le (V : Nat → Int32) (w : Int32) : ∀ k, mny V w k ≤ k
  | 0 => Nat.le_refl 0
  | k + 1 => by
    have h := mny_le V w k
    rw [mny]
    split <;> omega
def wgn (V P : Nat → Int32) (w p : Int32) : Nat → Int32
  | 0 => -1
  | n + 1 => if wgn V P w p n = -1 then (if V n = w ∧ P n = p then nI n else -1) else wgn V P w p n
theorem wgn_miss {V P : Nat → Int32} {w p : Int32} : ∀ {n : Nat}, (∀ i, i < n → ¬ (V i = w ∧ P i = p)) → wgn V P w p n = -1
  | 0, _ => rfl
  | n + 1, h => by
    rw [wgn, if_pos (wgn_miss (fun i hi => h i (by omega))), if_neg (h n (by omega))]
theorem wgn_hit {V P : Nat → Int32} {w p : Int32} {j : Nat} (e : V j = w ∧ P j = p) (h : ∀ i, i < j → ¬ (V i = w ∧ P i = p)) : ∀ {n : Nat}, j < n → n < 2 ^ 31 → wgn V P w p n = nI j
  | 0, hj, _ => absurd hj (Nat.not_lt_zero j)
  | n + 1, hj, hn => by
    by_cases hjn : j = n
    · subst hjn
      rw [wgn, if_pos (wgn_miss h), if_pos e]
    · have h1 := wgn_hit e h (n := n) (by omega) (by omega)
      rw [wgn, h1, if_neg (nI_m1 (by omega))]
def wgt (G V : Nat → Int32) (w : Int32) : Nat → Int32
  | 0 => 0
  | k + 1 => wgt G V w k + (if V k = w then G k else 0)
/-- the place of a row: a siding's block, or a train's number and 10 -/
def wh (r : Nat) : Int32 := nI (if r < 2 then 6 + r else 8 + r)
theorem wh_s {v : Int32} (h : inR v 6 7) : v = wh (sR v) := by
  rcases sd_2 h with rfl | rfl <;> decide
theorem wh_t (k : Nat) : 10 + nI k = wh (2 + k) := by
  rw [show (10 : Int32) = nI 10 from rfl, nI_add, wh, if_neg (by omega)]
  congr 1
  omega
theorem wh_i {r r2 : Nat} (h : r < 6) (h2 : r2 < 6) (e : wh r = wh r2) : r = r2 := by
  unfold wh at e
  rw [nI_eq (by split <;> omega) (by split <;> omega)] at e
  split at e <;> split at e <;> omega
/-- what becomes of the first k bookings in a minute -/
noncomputable def stm (B bT bB bF bL : Nat → Int32) (mi : Int32) (S L : Nat → Int32) : Nat → (Nat → Int32) × (Nat → Int32)
  | 0 => (S, L)
  | k + 1 => cif ((stm B bT bB bF bL mi S L k).1 k = 0 ∧ inR mi (bF k) (bL k))
      (upd (stm B bT bB bF bL mi S L k).1 k (if B (bT k).toNatClampNeg = bB k then 1 else if mi = bL k then 2 else 0), upd (stm B bT bB bF bL mi S L k).2 k (mi - bF k))
      (stm B bT bB bF bL mi S L k)
/-- the reference's minutes: trains, those tried, standings and lates, clock, how many came to another block -/
abbrev M9 : Type := T3 × T3 × ((Nat → Int32) × (Nat → Int32)) × Int32 × Int32
noncomputable def mvM (σ : St) (n nb : Nat) (y : M9) : T3 × Int32 := mvs (σ 2) (σ 14) (σ 15) (σ 16) (σ 17) (σ 6) n nb y.2.2.2.1 (cpn y.1.1 y.2.1.1 n, cpn y.1.2.1 y.2.1.2.1 n, cpn y.1.2.2 y.2.1.2.2 n) n
noncomputable def mnM (σ : St) (n nb : Nat) (y : M9) : M9 :=
  ((cpn (mvM σ n nb y).1.1 y.1.1 n, cpn (mvM σ n nb y).1.2.1 y.1.2.1 n, cpn (mvM σ n nb y).1.2.2 y.1.2.2 n), (mvM σ n nb y).1, stm (cpn (mvM σ n nb y).1.1 y.1.1 n) (σ 14) (σ 15) (σ 16) (σ 17) y.2.2.2.1 y.2.2.1.1 y.2.2.1.2 nb, y.2.2.2.1 + 1, y.2.2.2.2 + (mvM σ n nb y).2)
noncomputable def itM (σ : St) (n nb : Nat) : Nat → M9
  | 0 => ((σ 4, σ 5, σ 7), (σ 9, σ 10, σ 12), (σ 30, σ 31), σ 0 0, 0)
  | j + 1 => mnM σ n nb (itM σ n nb j)
theorem stp_bool {Tu bT bB bF bL Hd : Nat → Int32} {n nb : Nat} {mi : Int32} {k : Nat} {x : T3} (i : Nat) (h : x.2.1 i = 0 ∨ x.2.1 i = 1) : (stp Tu bT bB bF bL Hd n nb mi k x).1.2.1 i = 0 ∨ (stp Tu bT bB bF bL Hd n nb mi k x).1.2.1 i = 1 := by
  by_cases h1 : x.2.2 k ≤ 0
  · by_cases h2 : Hd k = 0
    · by_cases h3 : ahd Tu (x.1 k) (x.2.1 k) = -2
      · rw [stp_f h1 h2 h3]
        show upd x.2.1 k _ i = 0 ∨ upd x.2.1 k _ i = 1
        by_cases e : i = k
        · subst e; rw [pk_us]; exact fl_b _
        · rw [pk_un e]; exact h
      · by_cases h4 : ahd Tu (x.1 k) (x.2.1 k) = -1 ∨ ¬ so x.1 (ahd Tu (x.1 k) (x.2.1 k)) n = -1 ∨ mts bT bB bF bL nb (nI k) (ahd Tu (x.1 k) (x.2.1 k)) mi mi
        · rw [stp_b h1 h2 h3 h4]; exact h
        · rw [stp_m h1 h2 h3 h4]; exact h
    · rw [stp_h h1 h2]; exact h
  · rw [stp_d h1]; exact h
theorem mvs_bool {Tu bT bB bF bL Hd : Nat → Int32} {n nb : Nat} {mi : Int32} {x : T3} {i : Nat} (h : x.2.1 i = 0 ∨ x.2.1 i = 1) : ∀ k, (mvs Tu bT bB bF bL Hd n nb mi x k).1.2.1 i = 0 ∨ (mvs Tu bT bB bF bL Hd n nb mi x k).1.2.1 i = 1
  | 0 => h
  | k + 1 => stp_bool i (mvs_bool h k)
theorem cpn_b {f g : Nat → Int32} {k : Nat} (hf : ∀ i, i < k → f i = 0 ∨ f i = 1) (hg : ∀ i, i < 4 → g i = 0 ∨ g i = 1) : ∀ i, i < 4 → cpn f g k i = 0 ∨ cpn f g k i = 1 := by
  intro i hi
  by_cases h : i < k
  · rw [cpn_in h]; exact hf i h
  · rw [cpn_out h]; exact hg i hi
