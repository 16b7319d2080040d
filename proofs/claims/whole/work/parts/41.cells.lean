-- the relation between a Cell and the reference's rows
def r_sum (c5 c6 : Nat → Int32) (i : Nat) : Nat → Int64
  | 0 => 0
  | k + 1 => r_sum c5 c6 i k + (c5 (30 * i + k)).toInt64 * (c6 (30 * i + k)).toInt64
def r_vt (c6 c7 : Nat → Int32) (i : Nat) : Nat → Int32 × Int32
  | 0 => (0, 0)
  | k + 1 => if k = 0 ∨ c6 (30 * i + k) = c6 (30 * i + (k - 1)) then r_vt c6 c7 i k else (m_abs (c7 (30 * i + k) - c7 (30 * i + (k - 1))), m_abs (c6 (30 * i + k) - c6 (30 * i + (k - 1))))
def r_stp (i k : Nat) (t : CeT) (c5 c6 c7 : Nat → Int32) : Prop := t.2.1 = nI k ∧ t.2.2.1 = r_sum c5 c6 i k ∧ (0 < k → t.2.2.2.1 = c6 (30 * i + (k - 1)) ∧ t.2.2.2.2.1 = c7 (30 * i + (k - 1))) ∧ t.2.2.2.2.2.1 = (r_vt c6 c7 i k).1 ∧ t.2.2.2.2.2.2.1 = (r_vt c6 c7 i k).2
def r_rst (i r : Nat) (t : CeT) (c9 c10 : Nat → Int32) : Prop := t.2.2.2.2.2.2.2.1 = nI r ∧ (0 < r → t.2.2.2.2.2.2.2.2.1 = c9 (10 * i) ∧ t.2.2.2.2.2.2.2.2.2.1 = c10 (10 * i) ∧ t.2.2.2.2.2.2.2.2.2.2.1 = c9 (10 * i + (r - 1)) ∧ t.2.2.2.2.2.2.2.2.2.2.2 = c10 (10 * i + (r - 1)))
def r_cell (i : Nat) (t : CeT) (c1 c4 c5 c6 c7 c8 c9 c10 : Nat → Int32) : Prop :=
  t.1 = c1 i ∧ (∃ k, k ≤ 30 ∧ c4 i = nI k ∧ r_stp i k t c5 c6 c7) ∧ ∃ r, r ≤ 10 ∧ c8 i = nI r ∧ r_rst i r t c9 c10
def r_rng (c5 c6 c7 c10 : Nat → Int32) : Prop := (∀ i, i < 240 → ¬ c5 i < 0 ∧ c5 i ≤ 100000) ∧ (∀ i, i < 240 → ¬ c6 i < (-100000) ∧ c6 i ≤ 100000) ∧ (∀ i, i < 240 → ¬ c7 i < 0 ∧ c7 i ≤ 10000) ∧ ∀ i, i < 80 → ¬ c10 i < 0 ∧ c10 i ≤ 10000
def r_cells (nc : Nat) (cnt u0 : Int32) (fc : Nat → Option Nat) (LP : List Nat) (ce : Nat → CeT) (c1 c4 c5 c6 c7 c8 c9 c10 : Nat → Int32) : Prop :=
  nc ≤ 8 ∧ cnt = nI nc ∧ u0 = nI nc ∧ LP.Nodup ∧ (∀ i, i < nc → ∃ a, fc i = some a ∧ a ∈ LP ∧ r_cell i (ce a) c1 c4 c5 c6 c7 c8 c9 c10) ∧ (∀ i j, i < nc → j < nc → fc i = fc j → i = j) ∧
  (∀ i, nc ≤ i → i < 8 → c1 i = 0 ∧ c4 i = 0 ∧ c8 i = 0) ∧ r_rng c5 c6 c7 c10 ∧ m_days c8 c9
section RC
variable {nc : Nat} {cnt u0 : Int32} {fc : Nat → Option Nat} {LP : List Nat} {ce : Nat → CeT} {c1 c4 c5 c6 c7 c8 c9 c10 : Nat → Int32} {p0 p1 p2 p3 : Int32}
theorem r_hc (h : r_cells nc cnt u0 fc LP ce c1 c4 c5 c6 c7 c8 c9 c10) : u0 ≤ 8 := by
  rw [h.2.2.1]; exact nI_le h.1 (by decide)
theorem r_hc0 (h : r_cells nc cnt u0 fc LP ce c1 c4 c5 c6 c7 c8 c9 c10) : ¬ u0 < 0 := by
  have := h.1
  rw [h.2.2.1]; exact nI_pos (by omega)
theorem r_hst (h : r_cells nc cnt u0 fc LP ce c1 c4 c5 c6 c7 c8 c9 c10) : ∀ i, i < 8 → ¬ c4 i < 0 ∧ c4 i ≤ 30 := by
  intro i hi
  rcases Nat.lt_or_ge i nc with q | q
  · obtain ⟨a, -, -, -, ⟨k, h1, h2, -⟩, -⟩ := h.2.2.2.2.1 i q
    rw [h2]; exact ⟨nI_pos (by omega), nI_le h1 (by decide)⟩
  · rw [(h.2.2.2.2.2.2.1 i q hi).2.1]; decide
theorem r_hrc (h : r_cells nc cnt u0 fc LP ce c1 c4 c5 c6 c7 c8 c9 c10) : ∀ i, i < 8 → ¬ c8 i < 0 ∧ c8 i ≤ 10 := by
  intro i hi
  rcases Nat.lt_or_ge i nc with q | q
  · obtain ⟨a, -, -, -, -, ⟨k, h1, h2, -⟩⟩ := h.2.2.2.2.1 i q
    rw [h2]; exact ⟨nI_pos (by omega), nI_le h1 (by decide)⟩
  · rw [(h.2.2.2.2.2.2.1 i q hi).2.2]; decide
theorem r_ham (h : r_cells nc cnt u0 fc LP ce c1 c4 c5 c6 c7 c8 c9 c10) : ∀ i, i < 240 → ¬ c6 i < (-100000) ∧ c6 i ≤ 100000 := h.2.2.2.2.2.2.2.1.2.1
theorem r_hvo (h : r_cells nc cnt u0 fc LP ce c1 c4 c5 c6 c7 c8 c9 c10) : ∀ i, i < 240 → ¬ c7 i < 0 ∧ c7 i ≤ 10000 := h.2.2.2.2.2.2.2.1.2.2.1
theorem r_hdy (h : r_cells nc cnt u0 fc LP ce c1 c4 c5 c6 c7 c8 c9 c10) : m_days c8 c9 := h.2.2.2.2.2.2.2.2
/-- a number that names no cell, or one that does -/
theorem r_of (h : r_cells nc cnt u0 fc LP ce c1 c4 c5 c6 c7 c8 c9 c10) (p0 : Int32) : (m_isCell u0 p0 = 0 ∧ m_cellOf cnt fc p0 = none) ∨
    ∃ i a, i < nc ∧ p0 = nI i ∧ m_isCell u0 p0 = 1 ∧ m_cellOf cnt fc p0 = some a ∧ fc i = some a ∧ a ∈ LP ∧ r_cell i (ce a) c1 c4 c5 c6 c7 c8 c9 c10 := by
  obtain ⟨h1, h2, h3, h4, h5, -⟩ := h
  unfold m_isCell m_cellOf
  rw [h2, h3]
  by_cases q0 : p0 < 0
  · exact Or.inl ⟨if_pos (Or.inl q0), if_pos (Or.inl q0)⟩
  · obtain ⟨i, hi, rfl⟩ := nI_of q0
    by_cases q1 : nI nc ≤ nI i
    · exact Or.inl ⟨if_pos (Or.inr q1), if_pos (Or.inr (Or.inl q1))⟩
    · have hlt := ix_nge q1 (by omega) hi
      obtain ⟨a, e1, e2, e3⟩ := h5 i hlt
      refine Or.inr ⟨i, a, hlt, rfl, if_neg (by rintro (z | z); exact q0 z; exact q1 z), ?_, e1, e2, e3⟩
      rw [if_neg (by rintro (z | z | z); exact q0 z; exact q1 z; exact z (nI_lt (a := i) (b := 8) (by omega) (by decide))), nI_clamp hi]
      exact e1
theorem r_in (h : r_cells nc cnt u0 fc LP ce c1 c4 c5 c6 c7 c8 c9 c10) (p : Int32) (a : Nat) (hp : m_cellOf cnt fc p = some a) : a ∈ LP := by
  rcases r_of h p with ⟨-, q⟩ | ⟨i, b, -, -, -, q, -, e, -⟩
  · rw [q] at hp; cases hp
  · rw [q] at hp; cases hp; exact e
theorem x_30 (i k : Nat) : 30 * nI i + nI k = nI (30 * i + k) := by rw [show (30 : Int32) = nI 30 from rfl, pk_mul, nI_add]
theorem x_10 (i k : Nat) : 10 * nI i + nI k = nI (10 * i + k) := by rw [show (10 : Int32) = nI 10 from rfl, pk_mul, nI_add]
theorem x_10z (i : Nat) : 10 * nI i = nI (10 * i) := by rw [show (10 : Int32) = nI 10 from rfl, pk_mul]
theorem x_p {k : Nat} (h : 0 < k) : nI k - 1 = nI (k - 1) := by
  obtain ⟨j, rfl⟩ : ∃ j, k = j + 1 := ⟨k - 1, by omega⟩
  exact nI_pred j
theorem x_c {i : Nat} (h : i < 1000) : (nI i).toNatClampNeg = i := nI_clamp (by omega)
theorem r_chs {i k : Nat} (hi : i < 8) (hk : k ≤ 30) : ∀ (n j : Nat), j ≤ k → j + n = k + 1 → m_chsum c5 c6 (nI i) (nI k) n j (r_sum c5 c6 i j) = r_sum c5 c6 i k := by
  intro n
  induction n with
  | zero => intro j h1 h2; omega
  | succ n ih =>
    intro j h1 h2
    rw [m_chsum]
    by_cases q : nI k ≤ nI j
    · rw [if_pos q]
      have := (nI_leI (by omega) (by omega)).mp q
      rw [show j = k by omega]
    · rw [if_neg q, x_30, x_c (by omega)]
      exact ih (j + 1) (ix_nge q (by omega) (by omega)) (by omega)
/-- charge -/
theorem r_charge {i k : Nat} {t : CeT} (hi : i < nc) (h : r_cells nc cnt u0 fc LP ce c1 c4 c5 c6 c7 c8 c9 c10) (hk : k ≤ 30) (e4 : c4 i = nI k) (hs : r_stp i k t c5 c6 c7) : m_mcharge u0 c4 c5 c6 (nI i) = m_floorDiv t.2.2.1 3600 := by
  have h8 := h.1
  unfold m_mcharge
  rw [if_neg, x_c (by omega), e4, n_floor, hs.2.1, x_c (by omega), ← r_chs (c5 := c5) (c6 := c6) (by omega) hk (k + 1) 0 (Nat.zero_le _) (by omega)]
  · rfl
  · rw [m_isCell, h.2.2.1]
    rw [if_neg (by rintro (z | z); exact nI_pos (by omega) z; exact nI_ge hi (by omega) z)]
    decide
/-- the last turn -/
theorem r_trn {i k : Nat} (hi : i < 8) (hk : k ≤ 30) : ∀ (n j : Nat) (f : Int32), 1 ≤ j → k < j + n → j ≤ k →
    ((f < 0 ∧ r_vt c6 c7 i j = (0, 0)) ∨ ∃ x, 1 ≤ x ∧ x < j ∧ f = nI (30 * i + x) ∧ ¬ c6 (30 * i + x) = c6 (30 * i + (x - 1)) ∧ r_vt c6 c7 i j = (m_abs (c7 (30 * i + x) - c7 (30 * i + (x - 1))), m_abs (c6 (30 * i + x) - c6 (30 * i + (x - 1))))) →
    ((m_turn c6 (nI (30 * i + k)) n (nI (30 * i + j)) f < 0 ∧ r_vt c6 c7 i k = (0, 0)) ∨ ∃ x, 1 ≤ x ∧ x < k ∧ m_turn c6 (nI (30 * i + k)) n (nI (30 * i + j)) f = nI (30 * i + x) ∧ ¬ c6 (30 * i + x) = c6 (30 * i + (x - 1)) ∧ r_vt c6 c7 i k = (m_abs (c7 (30 * i + x) - c7 (30 * i + (x - 1))), m_abs (c6 (30 * i + x) - c6 (30 * i + (x - 1))))) := by
  intro n
  induction n with
  | zero => intro j f h1 h2 h3; omega
  | succ n ih =>
    intro j f h1 h2 h3 hI
    rw [m_turn]
    by_cases q : nI (30 * i + k) ≤ nI (30 * i + j)
    · rw [if_pos q]
      have hq := (nI_leI (by omega) (by omega)).mp q
      obtain rfl : j = k := by omega
      exact hI
    · rw [if_neg q]
      have hq := ix_nge q (by omega) (by omega)
      rw [nI_1, show 30 * i + j + 1 = 30 * i + (j + 1) by omega, x_p (by omega), x_c (by omega), x_c (by omega), show 30 * i + j - 1 = 30 * i + (j - 1) by omega]
      refine ih (j + 1) _ (by omega) (by omega) (by omega) ?_
      by_cases e : c6 (30 * i + j) = c6 (30 * i + (j - 1))
      · have ev : r_vt c6 c7 i (j + 1) = r_vt c6 c7 i j := if_pos (Or.inr e)
        rw [ev, if_pos e]
        rcases hI with a | ⟨x, x1, x2, x3⟩
        · exact Or.inl a
        · exact Or.inr ⟨x, x1, by omega, x3⟩
      · have ev : r_vt c6 c7 i (j + 1) = (m_abs (c7 (30 * i + j) - c7 (30 * i + (j - 1))), m_abs (c6 (30 * i + j) - c6 (30 * i + (j - 1)))) := if_neg (fun z => z.elim (fun z => absurd z (by omega)) e)
        rw [ev, if_neg e]
        exact Or.inr ⟨j, h1, by omega, rfl, e, rfl⟩
end RC
