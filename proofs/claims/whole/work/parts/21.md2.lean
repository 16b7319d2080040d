-- the reference's functions: charge, resistance, loss, uns, may, fade
theorem ix_via {u : Int32} {i n : Nat} (hn : n < 2 ^ 31) (h : ¬ u ≤ nI i) (hu : u ≤ nI n) (hi : i < 2 ^ 31) : vp_in (nI i) n := by
  refine vp_in_nI ?_ hn
  rw [Int32.le_iff_toInt_le, nI_toInt hi] at h
  rw [Int32.le_iff_toInt_le, nI_toInt hn] at hu
  omega
theorem md_fl30 {u0 c : Int32} {c4 : Nat → Int32} {i : Nat} (h : ¬ m_isCell u0 c = 0) (hc : u0 ≤ 8) (hst : ∀ i, i < 8 → ¬ c4 i < 0 ∧ c4 i ≤ 30) (hlt : ¬ c4 c.toNatClampNeg ≤ nI i) (hi : i < 2 ^ 31) : vp_in (30 * c + nI i) 240 := by
  obtain ⟨h0, h1⟩ := hst _ (md_cl (md_ix h hc))
  rw [Int32.le_iff_toInt_le, nI_toInt hi] at hlt
  rw [Int32.le_iff_toInt_le, show (30 : Int32).toInt = 30 from rfl] at h1
  obtain ⟨j, hj, e⟩ := vp_in_of (md_ix h hc) (by decide)
  rw [e, show (30 : Int32) = nI 30 from rfl, pk_mul, nI_add]
  exact vp_in_nI (by omega) (by decide)
def m_chsum (c5 c6 : Nat → Int32) (p0 sc : Int32) : Nat → Nat → Int64 → Int64
  | 0, _, s => s
  | n + 1, i, s => if sc ≤ nI i then s else m_chsum c5 c6 p0 sc n (i + 1) (s + (c5 (30 * p0 + nI i).toNatClampNeg).toInt64 * (c6 (30 * p0 + nI i).toNatClampNeg).toInt64)
def m_fl (s : Int64) : Int64 := if s / 3600 * 3600 ≤ s then s / 3600 else s / 3600 - 1
def m_mcharge (u0 : Int32) (c4 c5 c6 : Nat → Int32) (p0 : Int32) : Int64 := if m_isCell u0 p0 = 0 then (-9223372036854775808) else m_fl (m_chsum c5 c6 p0 (c4 p0.toNatClampNeg) ((c4 p0.toNatClampNeg).toNatClampNeg + 1) 0 0)
def m_size (v : Int32) : Int32 := if 0 ≤ v then v else -v
def m_gcdW : Nat → Int32 → Int32 → Int32
  | 0, x, _ => x
  | n + 1, x, y => if y = 0 then x else m_gcdW n y (x - x / y * y)
theorem md_rem {x y : Int32} (hx : ¬ x < 0) (hy : ¬ y < 0) (hne : ¬ y = 0) : ¬ (x - x / y * y) < 0 ∧ (x - x / y * y).toNatClampNeg < y.toNatClampNeg := by
  obtain ⟨a, ha, rfl⟩ := nI_of hx
  obtain ⟨b, hb, rfl⟩ := nI_of hy
  have h0 : 0 < b := Nat.pos_of_ne_zero fun q => hne (by rw [q]; rfl)
  have h1 := Nat.mod_lt a h0
  rw [pk_rem ha h0 hb, nI_clamp (by omega), nI_clamp hb]
  exact ⟨nI_pos (by omega), h1⟩
theorem m_gcdW_ne : ∀ (n : Nat) (x y : Int32), ¬ x < 0 → ¬ y < 0 → (¬ y = 0 ∨ ¬ x = 0) → y.toNatClampNeg < n → ¬ m_gcdW n x y = 0 := by
  intro n
  induction n with
  | zero => intro x y _ _ _ h; exact absurd h (Nat.not_lt_zero _)
  | succ n ih =>
    intro x y hx hy hor h
    rw [m_gcdW]
    by_cases h0 : y = 0
    · rw [if_pos h0]; exact hor.resolve_left (fun q => q h0)
    · rw [if_neg h0]
      have := md_rem hx hy h0
      exact ih y _ hy this.1 (Or.inr h0) (Nat.lt_of_lt_of_le this.2 (Nat.le_of_lt_succ h))
def m_mpart (p0 p1 p2 : Int32) : Int32 := if p2 = 0 then p0 / m_gcdW (p1.toNatClampNeg + 1) p0 p1 else p1 / m_gcdW (p1.toNatClampNeg + 1) p0 p1
theorem md_n0 {x : Int32} (h : ¬ x < 1) : ¬ x < 0 := fun q => h (Int32.lt_trans q (by decide))
theorem ix_up1 {x p : Int32} (h0 : ¬ x < 1) (h : ¬ p ≤ x) : ¬ x + 1 < 1 := by
  have h1 : x.toInt < p.toInt := by rw [Int32.le_iff_toInt_le] at h; omega
  have h2 := Int32.toInt_lt p
  have h3 : 1 ≤ x.toInt := by rw [Int32.lt_iff_toInt_lt, show (1 : Int32).toInt = 1 from rfl] at h0; omega
  have e : (x + 1).toInt = x.toInt + 1 := by
    rw [Int32.toInt_add, show (1 : Int32).toInt = 1 from rfl]
    apply Int.bmod_eq_of_le <;> omega
  rw [Int32.lt_iff_toInt_lt, e, show (1 : Int32).toInt = 1 from rfl]; omega
theorem md_st1 {c : Int32} (h : vp_in c 8) : ¬ 30 * c + 1 < 1 := by
  obtain ⟨j, hj, e⟩ := vp_in_of h (by decide)
  rw [e, show (30 : Int32) = nI 30 from rfl, pk_mul, nI_1, show (1 : Int32) = nI 1 from rfl]
  exact nI_nlt (by omega) (by omega)
theorem md_lim {c : Int32} {c4 : Nat → Int32} (h : vp_in c 8) (hst : ∀ i, i < 8 → ¬ c4 i < 0 ∧ c4 i ≤ 30) : 30 * c + c4 c.toNatClampNeg ≤ nI 240 := by
  obtain ⟨h0, h1⟩ := hst _ (md_cl h)
  obtain ⟨j, hj, e⟩ := vp_in_of h (by decide)
  obtain ⟨i, hi, e2⟩ := nI_of h0
  rw [e2] at h1 ⊢
  have h2 := (nI_leI hi (by decide)).mp (show nI i ≤ nI 30 from h1)
  rw [e, show (30 : Int32) = nI 30 from rfl, pk_mul, nI_add]
  exact nI_le (by omega) (by decide)
theorem ix_midp {x p : Int32} {n : Nat} (hn : n < 2 ^ 31) (h0 : ¬ x < 1) (h1 : ¬ p ≤ x) (h2 : p ≤ nI n) : vp_in (x - 1) n := by
  obtain ⟨j, hj, e⟩ := vp_in_of (ix_mid hn (md_n0 h0) h1 h2) hn
  cases j with
  | zero => exact absurd (by rw [e]; decide) h0
  | succ j => rw [e, nI_pred]; exact vp_in_nI (by omega) hn
def m_turn (c6 : Nat → Int32) (lim : Int32) : Nat → Int32 → Int32 → Int32
  | 0, _, f => f
  | n + 1, x, f => if lim ≤ x then f else m_turn c6 lim n (x + 1) (if c6 x.toNatClampNeg = c6 (x - 1).toNatClampNeg then f else x)
def m_turnOf (c4 c6 : Nat → Int32) (p0 : Int32) : Int32 := m_turn c6 (30 * p0 + c4 p0.toNatClampNeg) (((30 * p0 + c4 p0.toNatClampNeg).toInt - (30 * p0 + 1).toInt).toNat + 1) (30 * p0 + 1) (-1)
theorem m_turn_in (c6 : Nat → Int32) (lim : Int32) : ∀ (n : Nat) (x f : Int32), ¬ x < 1 → (f < 0 ∨ (¬ f < 1 ∧ ¬ lim ≤ f ∧ ¬ c6 f.toNatClampNeg = c6 (f - 1).toNatClampNeg)) → (m_turn c6 lim n x f < 0 ∨ (¬ m_turn c6 lim n x f < 1 ∧ ¬ lim ≤ m_turn c6 lim n x f ∧ ¬ c6 (m_turn c6 lim n x f).toNatClampNeg = c6 (m_turn c6 lim n x f - 1).toNatClampNeg)) := by
  intro n
  induction n with
  | zero => intro x f _ h; exact h
  | succ n ih =>
    intro x f hx h
    rw [m_turn]
    by_cases h0 : lim ≤ x
    · rw [if_pos h0]; exact h
    · rw [if_neg h0]
      refine ih _ _ (ix_up1 hx h0) ?_
      by_cases h1 : c6 x.toNatClampNeg = c6 (x - 1).toNatClampNeg
      · rw [if_pos h1]; exact h
      · rw [if_neg h1]; exact Or.inr ⟨hx, h0, h1⟩
theorem md_turn_p {c4 c6 : Nat → Int32} {p0 : Int32} (h : vp_in p0 8) (ht : 0 ≤ m_turnOf c4 c6 p0) : ¬ m_turnOf c4 c6 p0 < 1 ∧ ¬ (30 * p0 + c4 p0.toNatClampNeg) ≤ m_turnOf c4 c6 p0 ∧ ¬ c6 (m_turnOf c4 c6 p0).toNatClampNeg = c6 (m_turnOf c4 c6 p0 - 1).toNatClampNeg := by
  rcases m_turn_in c6 (30 * p0 + c4 p0.toNatClampNeg) (((30 * p0 + c4 p0.toNatClampNeg).toInt - (30 * p0 + 1).toInt).toNat + 1) (30 * p0 + 1) (-1) (md_st1 h) (Or.inl (by decide)) with q | q
  · exact absurd ht (Int32.not_le.mpr q)
  · exact q
theorem md_turn_ix {c4 c6 : Nat → Int32} {p0 : Int32} (h : vp_in p0 8) (hst : ∀ i, i < 8 → ¬ c4 i < 0 ∧ c4 i ≤ 30) (ht : 0 ≤ m_turnOf c4 c6 p0) : vp_in (m_turnOf c4 c6 p0) 240 ∧ vp_in (m_turnOf c4 c6 p0 - 1) 240 := by
  obtain ⟨h1, h2, -⟩ := md_turn_p h ht
  exact ⟨ix_mid (by decide) (md_n0 h1) h2 (md_lim h hst), ix_midp (by decide) h1 h2 (md_lim h hst)⟩
theorem md_turn_ne {c4 c6 : Nat → Int32} {p0 : Int32} (h : vp_in p0 8) (ht : 0 ≤ m_turnOf c4 c6 p0) : ¬ c6 (m_turnOf c4 c6 p0).toNatClampNeg = c6 (m_turnOf c4 c6 p0 - 1).toNatClampNeg := (md_turn_p h ht).2.2
theorem md_subI {a b : Int32} (ha : -1000000 ≤ a.toInt ∧ a.toInt ≤ 1000000) (hb : -1000000 ≤ b.toInt ∧ b.toInt ≤ 1000000) : (a - b).toInt = a.toInt - b.toInt := by
  rw [Int32.toInt_sub]
  apply Int.bmod_eq_of_le <;> omega
theorem md_sizeI {v : Int32} (h : -2000000 ≤ v.toInt ∧ v.toInt ≤ 2000000) : (m_size v).toInt = v.toInt.natAbs := by
  unfold m_size
  split
  · rename_i q; rw [Int32.le_iff_toInt_le, Int32.toInt_zero] at q; omega
  · rename_i q; rw [Int32.le_iff_toInt_le, Int32.toInt_zero] at q
    rw [Int32.toInt_neg, Int.bmod_eq_of_le (by omega) (by omega)]
    omega
theorem md_bndA {c6 : Nat → Int32} (ham : ∀ i, i < 240 → ¬ c6 i < (-100000) ∧ c6 i ≤ 100000) {t : Int32} (h : vp_in t 240) : -100000 ≤ (c6 t.toNatClampNeg).toInt ∧ (c6 t.toNatClampNeg).toInt ≤ 100000 := by
  obtain ⟨h1, h2⟩ := ham _ (md_cl h)
  rw [Int32.lt_iff_toInt_lt, show (-100000 : Int32).toInt = -100000 from rfl] at h1
  rw [Int32.le_iff_toInt_le, show (100000 : Int32).toInt = 100000 from rfl] at h2
  omega
theorem md_bndV {c7 : Nat → Int32} {m : Nat} (hvo : ∀ i, i < m → ¬ c7 i < 0 ∧ c7 i ≤ 10000) {t : Int32} (h : vp_in t m) : 0 ≤ (c7 t.toNatClampNeg).toInt ∧ (c7 t.toNatClampNeg).toInt ≤ 10000 := by
  obtain ⟨h1, h2⟩ := hvo _ (md_cl h)
  rw [Int32.lt_iff_toInt_lt, Int32.toInt_zero] at h1
  rw [Int32.le_iff_toInt_le, show (10000 : Int32).toInt = 10000 from rfl] at h2
  omega
theorem md_nneg {x : Int32} (h : 0 ≤ x.toInt) : ¬ x < 0 := by rw [Int32.lt_iff_toInt_lt, Int32.toInt_zero]; omega
theorem md_size_v {c7 : Nat → Int32} {t u : Int32} (hvo : ∀ i, i < 240 → ¬ c7 i < 0 ∧ c7 i ≤ 10000) (h : vp_in t 240 ∧ vp_in u 240) : ¬ m_size (c7 t.toNatClampNeg - c7 u.toNatClampNeg) < 0 := by
  have h1 := md_bndV hvo h.1
  have h2 := md_bndV hvo h.2
  have e := md_subI (a := c7 t.toNatClampNeg) (b := c7 u.toNatClampNeg) (by omega) (by omega)
  exact md_nneg (by rw [md_sizeI (by omega)]; omega)
theorem md_size_a {c6 : Nat → Int32} {t u : Int32} (ham : ∀ i, i < 240 → ¬ c6 i < (-100000) ∧ c6 i ≤ 100000) (h : vp_in t 240 ∧ vp_in u 240) : ¬ m_size (c6 t.toNatClampNeg - c6 u.toNatClampNeg) < 0 := by
  have h1 := md_bndA ham h.1
  have h2 := md_bndA ham h.2
  have e := md_subI (a := c6 t.toNatClampNeg) (b := c6 u.toNatClampNeg) (by omega) (by omega)
  exact md_nneg (by rw [md_sizeI (by omega)]; omega)
theorem md_size_ne {c6 : Nat → Int32} {t u : Int32} (ham : ∀ i, i < 240 → ¬ c6 i < (-100000) ∧ c6 i ≤ 100000) (h : vp_in t 240 ∧ vp_in u 240) (hne : ¬ c6 t.toNatClampNeg = c6 u.toNatClampNeg) : ¬ m_size (c6 t.toNatClampNeg - c6 u.toNatClampNeg) = 0 := by
  have h1 := md_bndA ham h.1
  have h2 := md_bndA ham h.2
  have e := md_subI (a := c6 t.toNatClampNeg) (b := c6 u.toNatClampNeg) (by omega) (by omega)
  have e2 := md_sizeI (v := c6 t.toNatClampNeg - c6 u.toNatClampNeg) (by omega)
  intro q
  rw [q, Int32.toInt_zero] at e2
  exact hne (Int32.toInt_inj.mp (by omega))
def m_mres (u0 : Int32) (c4 c6 c7 : Nat → Int32) (p0 p1 : Int32) : Int32 :=
  if m_isCell u0 p0 = 0 ∨ m_in p1.toInt64 0 1 = 0 ∨ ¬ 0 ≤ m_turnOf c4 c6 p0 then -1
  else m_mpart (m_size (c7 (m_turnOf c4 c6 p0).toNatClampNeg - c7 (m_turnOf c4 c6 p0 - 1).toNatClampNeg)) (m_size (c6 (m_turnOf c4 c6 p0).toNatClampNeg - c6 (m_turnOf c4 c6 p0 - 1).toNatClampNeg)) p1
theorem md_two {x : Int32} (h : 2 ≤ x) : ¬ x ≤ 0 := fun q => absurd (Int32.le_trans h q) (by decide)
theorem md_ix10f {u0 c : Int32} (h : ¬ m_isCell u0 c = 0) (hc : u0 ≤ 8) : vp_in (10 * c) 80 := by
  obtain ⟨j, hj, e⟩ := vp_in_of (md_ix h hc) (by decide)
  rw [e, show (10 : Int32) = nI 10 from rfl, pk_mul]
  exact vp_in_nI (by omega) (by decide)
def m_days (c8 c9 : Nat → Int32) : Prop := (∀ c i j : Nat, c < 8 → i < j → j < (c8 c).toNatClampNeg → c9 (10 * c + i) < c9 (10 * c + j)) ∧ ∀ i, i < 80 → ¬ c9 i < 0 ∧ c9 i ≤ 100000
theorem md_days {u0 c : Int32} {c8 c9 : Nat → Int32} (h : ¬ m_isCell u0 c = 0) (hc : u0 ≤ 8) (hrc : ∀ i, i < 8 → ¬ c8 i < 0 ∧ c8 i ≤ 10) (hdy : m_days c8 c9) (h2 : 2 ≤ c8 c.toNatClampNeg) :
    ¬ (c9 (10 * c + c8 c.toNatClampNeg - 1).toNatClampNeg - c9 (10 * c).toNatClampNeg) < 0 ∧ ¬ (c9 (10 * c + c8 c.toNatClampNeg - 1).toNatClampNeg - c9 (10 * c).toNatClampNeg) = 0 := by
  obtain ⟨h0, h1⟩ := hrc _ (md_cl (md_ix h hc))
  obtain ⟨j, hj, e⟩ := vp_in_of (md_ix h hc) (by decide)
  have ej : c.toNatClampNeg = j := by rw [e, nI_clamp (by omega)]
  rw [ej] at h0 h1 h2 ⊢
  obtain ⟨i, hi, e2⟩ := nI_of h0
  have h3 := (nI_leI hi (by decide)).mp (show nI i ≤ nI 10 by rw [← e2]; exact h1)
  have h4 := (nI_leI (by decide) hi).mp (show nI 2 ≤ nI i by rw [← e2]; exact h2)
  have hl := hdy.1 j 0 (i - 1) hj (by omega) (by rw [e2, nI_clamp hi]; omega)
  have a1 := hdy.2 (10 * j + 0) (by omega)
  have a2 := hdy.2 (10 * j + (i - 1)) (by omega)
  have e3 : 10 * c + c8 j - 1 = nI (10 * j + (i - 1)) := by
    rw [e, e2, show (10 : Int32) = nI 10 from rfl, pk_mul, nI_add, show 10 * j + i = (10 * j + (i - 1)) + 1 by omega, nI_pred]
  have e4 : (10 * c : Int32) = nI (10 * j + 0) := by rw [e, show (10 : Int32) = nI 10 from rfl, pk_mul]; rfl
  rw [e3, e4, nI_clamp (by omega), nI_clamp (by omega)]
  generalize c9 (10 * j + 0) = x at *
  generalize c9 (10 * j + (i - 1)) = y at *
  rw [Int32.lt_iff_toInt_lt] at hl
  simp only [Int32.lt_iff_toInt_lt, Int32.le_iff_toInt_le, Int32.toInt_zero, show (100000 : Int32).toInt = 100000 from rfl] at a1 a2
  have e5 := md_subI (a := y) (b := x) (by omega) (by omega)
  refine ⟨md_nneg (by omega), fun q => ?_⟩
  rw [q, Int32.toInt_zero] at e5
  omega
def m_mloss (u0 : Int32) (c8 c9 c10 : Nat → Int32) (p0 p1 : Int32) : Int32 :=
  if m_isCell u0 p0 = 0 ∨ m_in p1.toInt64 0 1 = 0 ∨ ¬ 2 ≤ c8 p0.toNatClampNeg then -1
  else m_mpart (if 0 ≤ c10 (10 * p0).toNatClampNeg - c10 (10 * p0 + c8 p0.toNatClampNeg - 1).toNatClampNeg then c10 (10 * p0).toNatClampNeg - c10 (10 * p0 + c8 p0.toNatClampNeg - 1).toNatClampNeg else 0) (c9 (10 * p0 + c8 p0.toNatClampNeg - 1).toNatClampNeg - c9 (10 * p0).toNatClampNeg) p1
def m_mopen (c4 c8 : Nat → Int32) (p0 : Int32) : Int32 := if c4 p0.toNatClampNeg = 0 ∨ c8 p0.toNatClampNeg = 0 then 1 else 0
def m_lastRest (c8 c10 : Nat → Int32) (p0 : Int32) : Int32 := c10 (10 * p0 + c8 p0.toNatClampNeg - 1).toNatClampNeg
theorem md_predq {c : Int32} {c8 : Nat → Int32} {k m : Nat} (hk : k ≤ 100) (h : vp_in c 8) (h0 : ¬ c8 c.toNatClampNeg < 0) (h1 : c8 c.toNatClampNeg ≤ nI k) (hm : m = 8 * k) (hp : ¬ c8 c.toNatClampNeg ≤ 0) : vp_in (nI k * c + c8 c.toNatClampNeg - 1) m := by
  obtain ⟨j, hj, e⟩ := vp_in_of h (by decide)
  obtain ⟨i, hi, e2⟩ := nI_of h0
  rw [e2] at h1 hp
  have h2 := (nI_leI hi (by omega)).mp h1
  rw [e2, e, pk_mul, nI_add]
  cases i with
  | zero => exact absurd (show nI 0 ≤ 0 from Int32.le_refl 0) hp
  | succ i =>
    rw [show k * j + (i + 1) = (k * j + i) + 1 by omega, nI_pred]
    have : k * j ≤ k * 7 := Nat.mul_le_mul_left k (by omega)
    exact vp_in_nI (by omega) (by omega)
theorem md_ix10q {c : Int32} {c8 : Nat → Int32} (h : vp_in c 8) (hrc : ∀ i, i < 8 → ¬ c8 i < 0 ∧ c8 i ≤ 10) (hp : ¬ c8 c.toNatClampNeg ≤ 0) : vp_in (10 * c + c8 c.toNatClampNeg - 1) 80 :=
  md_predq (k := 10) (by decide) h (hrc _ (md_cl h)).1 (hrc _ (md_cl h)).2 rfl hp
theorem md_ix30p {c : Int32} {c4 : Nat → Int32} (h : vp_in c 8) (hst : ∀ i, i < 8 → ¬ c4 i < 0 ∧ c4 i ≤ 30) (hp : ¬ c4 c.toNatClampNeg ≤ 0) : vp_in (30 * c + c4 c.toNatClampNeg - 1) 240 :=
  md_predq (k := 30) (by decide) h (hst _ (md_cl h)).1 (hst _ (md_cl h)).2 rfl hp
def m_muns (u0 : Int32) (c4 c7 c8 c10 : Nat → Int32) (p0 : Int32) : Int32 :=
  if m_isCell u0 p0 = 0 then 0 else if (¬ c8 p0.toNatClampNeg ≤ 0 ∧ (m_lastRest c8 c10 p0 < 1000 ∨ ¬ m_lastRest c8 c10 p0 ≤ 4500)) ∨ (¬ c4 p0.toNatClampNeg ≤ 0 ∧ ¬ c7 (30 * p0 + c4 p0.toNatClampNeg - 1).toNatClampNeg ≤ 5000) then 1 else 0
def m_mmay (u0 : Int32) (c4 c7 c8 c10 : Nat → Int32) (p0 p1 : Int32) : Int32 :=
  if m_isCell u0 p0 = 0 ∨ m_in p1.toInt64 0 4 = 0 then 0
  else if m_muns u0 c4 c7 c8 c10 p0 = 0 then (if m_mopen c4 c8 p0 = 0 then (if p1 = 4 then 0 else 1) else (if p1 = 0 ∨ p1 = 4 then 1 else 0)) else (if p1 < 3 then 0 else 1)
def m_mwhole (u0 : Int32) (c4 c7 c8 c10 : Nat → Int32) (p0 : Int32) : Int32 := if m_mopen c4 c8 p0 = 0 ∧ m_muns u0 c4 c7 c8 c10 p0 = 0 then 1 else 0
def m_lostAt (c25 c26 : Nat → Int32) (u24 : Int32) (k : Nat) : Nat → Nat → Int64 → Int64
  | 0, _, l => l
  | n + 1, i, l => if u24 ≤ nI i then l else m_lostAt c25 c26 u24 k n (i + 1) (if nI k < c25 (nI i).toNatClampNeg then l else (c26 (nI i).toNatClampNeg).toInt64)
def m_fadeR (c25 c26 : Nat → Int32) (u24 p1 : Int32) : Nat → Nat → Int64 → Int64
  | 0, _, q => q
  | n + 1, k, q => if p1 ≤ nI k then q else m_fadeR c25 c26 u24 p1 n (k + 1) (q - q * m_lostAt c25 c26 u24 k (u24.toNatClampNeg + 1) 0 0 / 1000)
def m_mfade (u0 u24 : Int32) (c4 c5 c6 c25 c26 : Nat → Int32) (p0 p1 : Int32) : Int64 :=
  if m_isCell u0 p0 = 0 ∨ m_in p1.toInt64 0 10000 = 0 then (-9223372036854775808) else m_fadeR c25 c26 u24 p1 (p1.toNatClampNeg + 1) 0 (m_mcharge u0 c4 c5 c6 p0)
set_option maxHeartbeats 4000000 in
set_option maxRecDepth 100000 in
theorem c_Md_charge (l : Launch) (D : va_G)  (h0 : Nat) (u0 : Int32) (a1 : Nat) (u2 : Int32) (u3 : Int32) (a4 : Nat) (a5 : Nat) (a6 : Nat) (a7 : Nat) (a8 : Nat) (a9 : Nat) (a10 : Nat) (a11 : Nat) (u12 : Int32) (u13 : Int32) (a14 : Nat) (a15 : Nat) (a16 : Nat) (u17 : Int32) (a18 : Nat) (a19 : Nat) (a20 : Nat) (u21 : Int32) (a22 : Nat) (a23 : Nat) (u24 : Int32) (a25 : Nat) (a26 : Nat) (u27 : Int32) (u28 : Int32) (u29 : Int32) (u30 : Int32) (k4 : ClassId) (k5 : ClassId) (k6 : ClassId) (c4 : Nat → Int32) (c5 : Nat → Int32) (c6 : Nat → Int32) (p0 : Int32) (sz : Nat) (hc : u0 ≤ 8) (hst : ∀ i, i < 8 → ¬ c4 i < 0 ∧ c4 i ≤ 30) : Met l y_Md_charge ws_Md_charge ({ frames := 1, cells := 0, slots := 0, locals := 21 }) (va_Pc [.ref h0, .int p0] (cx_pre D [(k4, .int), (k5, .int), (k6, .int)] ([(h0, .inr (6, [.int u0, .ref a1, .int u2, .int u3, .ref a4, .ref a5, .ref a6, .ref a7, .ref a8, .ref a9, .ref a10, .ref a11, .int u12, .int u13, .ref a14, .ref a15, .ref a16, .int u17, .ref a18, .ref a19, .ref a20, .int u21, .ref a22, .ref a23, .int u24, .ref a25, .ref a26, .int u27, .int u28, .int u29, .int u30])), (a4, .inl (k4, 8, .inl c4)), (a5, .inl (k5, 240, .inl c5)), (a6, .inl (k6, 240, .inl c6))]) sz)) (vp_Sl (fun r9 => r9 = m_mcharge u0 c4 c5 c6 p0)) 0 0 (fun _ => False) := by
  refine Met.ofW (cc := b_Md_charge) (maxL := 6) (ret := (some .long)) (by decide) rfl ?_
  intro p e s m args below meth c s₁ B hml hv
  obtain ⟨rfl, hsz, hP, hK, hD0, hN, hO⟩ := hv
  have hx := B.exec
  have hb := B.bytes
  have hr := B.returns
  have hts := fun (w : Cond) (h : w ∈ cx_tbl) => atoms_spec (ws := ws_Md_charge) B.pre w (List.mem_cons_of_mem _ h)
  have hown : s.vm.findClass R_Md = some m.cls := findClass_of_methodNamed B.named
  have hlocks := B.notSynchronized
  subst hsz
  have hD := hD0.self (sz := s.heap.size)
  generalize hAe : va_A ([(h0, .inr (6, [.int u0, .ref a1, .int u2, .int u3, .ref a4, .ref a5, .ref a6, .ref a7, .ref a8, .ref a9, .ref a10, .ref a11, .int u12, .int u13, .ref a14, .ref a15, .ref a16, .int u17, .ref a18, .ref a19, .ref a20, .int u21, .ref a22, .ref a23, .int u24, .ref a25, .ref a26, .int u27, .int u28, .int u29, .int u30])), (a4, .inl (k4, 8, .inl c4)), (a5, .inl (k5, 240, .inl c5)), (a6, .inl (k6, 240, .inl c6))]) s.heap.size = A at hD hO
  have hA : ∀ q : Nat, s.heap.size ≤ q → A q := fun q h => by rw [← hAe]; exact Or.inr h
  have hS : va_S A s.heap s.heap [] := va_S.rf
  have hl := lv_entry ([.ref h0, .int p0]) (n := 6) (Nat.le_of_ble_eq_true rfl)
  rw [lg_entry_eq]
  generalize (lg_sl ([.ref h0, .int p0]) ++ List.replicate (6 - (lg_sl ([.ref h0, .int p0])).length) Slot.unset).toArray = ls at hl ⊢
  have hl : lv_has ls 6 [(0, .ref h0), (1, .int p0)] := hl
  refine cx_q (fun Q hQ => ?_)
  refine lv_aload_n hx hb d_Md_charge_0 rfl (lv_at hl 0 rfl) ?_
  refine lv_iload_n hx hb d_Md_charge_1 rfl (lv_at hl 1 rfl) ?_
  have hPc := hP.sub (ws' := [(h0, .inr (6, [.int u0, .ref a1, .int u2, .int u3, .ref a4, .ref a5, .ref a6, .ref a7, .ref a8, .ref a9, .ref a10, .ref a11, .int u12, .int u13, .ref a14, .ref a15, .ref a16, .int u17, .ref a18, .ref a19, .ref a20, .int u21, .ref a22, .ref a23, .int u24, .ref a25, .ref a26, .int u27, .int u28, .int u29, .int u30]))]) [0] rfl
  have hDc := hD.sub (ws' := [(h0, .inr (6, [.int u0, .ref a1, .int u2, .int u3, .ref a4, .ref a5, .ref a6, .ref a7, .ref a8, .ref a9, .ref a10, .ref a11, .int u12, .int u13, .ref a14, .ref a15, .ref a16, .int u17, .ref a18, .ref a19, .ref a20, .int u21, .ref a22, .ref a23, .int u24, .ref a25, .ref a26, .int u27, .int u28, .int u29, .int u30]))]) [0] (by decide) rfl
  have hKc := hK.sub (tys' := []) [] rfl
  have hFc := va_free (wc := [(h0, .inr (6, [.int u0, .ref a1, .int u2, .int u3, .ref a4, .ref a5, .ref a6, .ref a7, .ref a8, .ref a9, .ref a10, .ref a11, .int u12, .int u13, .ref a14, .ref a15, .ref a16, .int u17, .ref a18, .ref a19, .ref a20, .int u21, .ref a22, .ref a23, .int u24, .ref a25, .ref a26, .int u27, .int u28, .int u29, .int u30]))]) hD hS hA [0] rfl
  refine vp_callSi (va_Run.run (va_runV (As := [.int p0]) (rest := [])  ⟨hx, hb, hml, hown, hts⟩ (c_Md_isCell l D h0 u0 a1 u2 u3 a4 a5 a6 a7 a8 a9 a10 a11 u12 u13 a14 a15 a16 u17 a18 a19 a20 u21 a22 a23 u24 a25 a26 u27 u28 u29 u30 p0 s.heap.size ) ⟨callB_of 1 hts cg_Md_isCell rfl rfl rfl (hts _ cw_10) (hts _ cw_844) (by decide +kernel) ⟨Nat.le_of_ble_eq_true rfl, Nat.le_of_ble_eq_true rfl⟩, hts _ cw_846, hts _ cs_16⟩ (cx_preV (C := R_Md) [.int p0] hPc hKc hDc hN hO hS hFc (ci := 6) (q0 := 0) rfl rfl rfl) rfl rfl hl.1 rfl (lv_room (Nat.le_of_ble_eq_true rfl)) d_Md_charge_2 ⟨Nat.le_of_ble_eq_true rfl, Nat.le_of_ble_eq_true rfl⟩)) (fun r z_1 => ?_)
  subst z_1
  refine lv_if_ne (tgt := 12) hx hb d_Md_charge_5 (by decide) (fun c_2 => ?_) (fun c_2 => ?_)
  · refine lv_lconst (v := 0) hx hb d_Md_charge_12 (by decide) ?_
    refine lv_lstore_n (lv' := [(2, .long 0), (0, .ref h0), (1, .int p0)]) hx hb d_Md_charge_13 rfl hl (by decide) rfl (fun ls hl => ?_)
    refine lv_iconst (v := 0) hx hb d_Md_charge_14 (by decide) ?_
    refine lv_istore (lv' := [(4, .int 0), (2, .long 0), (0, .ref h0), (1, .int p0)]) hx hb d_Md_charge_15 hl (by decide) rfl (fun ls hl => ?_)
    have loop_3 : ∀ (n : Nat) (i : Nat) (sm : Int64) (hi : i ≤ (c4 p0.toNatClampNeg).toNatClampNeg) (hn : i + n = (c4 p0.toNatClampNeg).toNatClampNeg + 1) (hg : m_chsum c5 c6 p0 (c4 p0.toNatClampNeg) ((c4 p0.toNatClampNeg).toNatClampNeg + 1) 0 0 = m_chsum c5 c6 p0 (c4 p0.toNatClampNeg) n i sm) (ls : Array Slot) (hl : lv_has ls 6 [(0, .ref h0), (1, .int p0), (2, .long sm), (4, .int (nI i))]), W p l e ({ frames := 1, cells := 0, slots := 0, locals := 21 }) s m [.ref h0, .int p0].toArray below meth c s.heap [] 0 0 Q (F0 m 17 ls []) := by
      intro n
      induction n with
      | zero =>
        intro i sm hi hn hg ls hl
        exact absurd hn (by omega)
      | succ n ih_17 =>
        intro i sm hi hn hg ls hl
        refine lv_iload hx hb d_Md_charge_17 (lv_at hl 3 rfl) ?_
        refine lv_aload_n hx hb d_Md_charge_19 rfl (lv_at hl 0 rfl) ?_
        refine va_get (D := D) (ci := 6) (v := .ref a4) (C := R_Md) (T := T_Md) (N := 31) hx hb hts in_Md hown hK hP 0 rfl rfl 4 (by decide) (hts _ cw_738) (fun _ h9 => h9) rfl d_Md_charge_20 ?_
        refine lv_iload_n hx hb d_Md_charge_23 rfl (lv_at hl 1 rfl) ?_
        refine va_iald hx hb hK hP 1 0 rfl rfl (md_ix c_2 hc) d_Md_charge_24 ?_
        refine lv_icmp_ge (tgt := 64) hx hb d_Md_charge_25 (by decide) (fun c_4 => ?_) (fun c_4 => ?_)
        · refine lv_lload_n hx hb d_Md_charge_64 rfl (lv_at hl 2 rfl) ?_
          refine lv_ldc2 (v := 3600) hx hb hown (hts _ cw_868) d_Md_charge_65 ?_
          refine lv_ldiv hx hb d_Md_charge_68 (by decide) ?_
          refine lv_lstore (lv' := [(4, .long (sm / 3600)), (0, .ref h0), (1, .int p0), (2, .long sm)]) hx hb d_Md_charge_69 hl (by decide) rfl (fun ls hl => ?_)
          refine lv_lload hx hb d_Md_charge_71 (lv_at hl 0 rfl) ?_
          refine lv_ldc2 (v := 3600) hx hb hown (hts _ cw_868) d_Md_charge_73 ?_
          refine lv_lmul hx hb d_Md_charge_76 ?_
          refine lv_lload_n hx hb d_Md_charge_77 rfl (lv_at hl 3 rfl) ?_
          refine W.lcmp hx hb d_Md_charge_78 ?_
          refine lv_if_le (tgt := 89) hx hb d_Md_charge_79 (by decide) (fun c_5 => ?_) (fun c_5 => ?_)
          · have c_5 := (lg_cmp_le ((sm / 3600) * 3600) sm).mp c_5
            refine lv_lload hx hb d_Md_charge_89 (lv_at hl 0 rfl) ?_
            subst hQ
            exact W.lret (v := sm / 3600) hx hb hr (fun t ht hW => ⟨_, rfl, (by have hz := hg.trans (by rw [m_chsum, if_pos c_4]); simp [m_mcharge, m_fl, hz, eq_false c_2, eq_true c_4, eq_true c_5]), ht⟩) (fun q h => by cases h) d_Md_charge_91
          · have c_5 := (not_congr (lg_cmp_le ((sm / 3600) * 3600) sm)).mp c_5
            refine lv_lload hx hb d_Md_charge_82 (lv_at hl 0 rfl) ?_
            refine lv_lconst (v := 1) hx hb d_Md_charge_84 (by decide) ?_
            refine lv_lsub hx hb d_Md_charge_85 ?_
            refine lv_goto (tgt := 91) hx hb d_Md_charge_86 (by decide) ?_
            subst hQ
            exact W.lret (v := (sm / 3600) - 1) hx hb hr (fun t ht hW => ⟨_, rfl, (by have hz := hg.trans (by rw [m_chsum, if_pos c_4]); simp [m_mcharge, m_fl, hz, eq_false c_2, eq_true c_4, eq_false c_5]), ht⟩) (fun q h => by cases h) d_Md_charge_91
        · refine lv_lload_n hx hb d_Md_charge_28 rfl (lv_at hl 2 rfl) ?_
          refine lv_aload_n hx hb d_Md_charge_29 rfl (lv_at hl 0 rfl) ?_
          refine va_get (D := D) (ci := 6) (v := .ref a5) (C := R_Md) (T := T_Md) (N := 31) hx hb hts in_Md hown hK hP 0 rfl rfl 5 (by decide) (hts _ cw_739) (fun _ h9 => h9) rfl d_Md_charge_30 ?_
          refine lv_bipush (v := 30) hx hb d_Md_charge_33 (by decide) ?_
          refine lv_iload_n hx hb d_Md_charge_35 rfl (lv_at hl 1 rfl) ?_
          refine lv_imul hx hb d_Md_charge_36 ?_
          refine lv_iload hx hb d_Md_charge_37 (lv_at hl 3 rfl) ?_
          refine lv_iadd hx hb d_Md_charge_39 ?_
          refine va_iald hx hb hK hP 2 1 rfl rfl (md_fl30 c_2 hc hst c_4 (Nat.lt_of_le_of_lt hi (Int32.toNatClampNeg_lt _))) d_Md_charge_40 ?_
          refine lv_i2l hx hb d_Md_charge_41 rfl ?_
          refine lv_aload_n hx hb d_Md_charge_42 rfl (lv_at hl 0 rfl) ?_
          refine va_get (D := D) (ci := 6) (v := .ref a6) (C := R_Md) (T := T_Md) (N := 31) hx hb hts in_Md hown hK hP 0 rfl rfl 6 (by decide) (hts _ cw_740) (fun _ h9 => h9) rfl d_Md_charge_43 ?_
          refine lv_bipush (v := 30) hx hb d_Md_charge_46 (by decide) ?_
          refine lv_iload_n hx hb d_Md_charge_48 rfl (lv_at hl 1 rfl) ?_
          refine lv_imul hx hb d_Md_charge_49 ?_
          refine lv_iload hx hb d_Md_charge_50 (lv_at hl 3 rfl) ?_
          refine lv_iadd hx hb d_Md_charge_52 ?_
          refine va_iald hx hb hK hP 3 2 rfl rfl (md_fl30 c_2 hc hst c_4 (Nat.lt_of_le_of_lt hi (Int32.toNatClampNeg_lt _))) d_Md_charge_53 ?_
          refine lv_i2l hx hb d_Md_charge_54 rfl ?_
          refine lv_lmul hx hb d_Md_charge_55 ?_
          refine lv_ladd hx hb d_Md_charge_56 ?_
          refine lv_lstore_n (lv' := [(2, .long (sm + (((c5 (((30 * p0) + (nI i)).toNatClampNeg)).toInt64) * ((c6 (((30 * p0) + (nI i)).toNatClampNeg)).toInt64)))), (0, .ref h0), (1, .int p0), (4, .int (nI i))]) hx hb d_Md_charge_57 rfl hl (by decide) rfl (fun ls hl => ?_)
          refine lv_iinc (v := nI (i + 1)) (lv' := [(4, .int (nI (i + 1))), (2, .long (sm + (((c5 (((30 * p0) + (nI i)).toNatClampNeg)).toInt64) * ((c6 (((30 * p0) + (nI i)).toNatClampNeg)).toInt64)))), (0, .ref h0), (1, .int p0)]) hx hb d_Md_charge_58 hl (k := 3) rfl (nI_1 i) (by decide) rfl (fun ls hl => ?_)
          refine lv_goto (tgt := 17) hx hb d_Md_charge_61 (by decide) ?_
          exact ih_17 (i + 1) (sm + (((c5 (((30 * p0) + (nI i)).toNatClampNeg)).toInt64) * ((c6 (((30 * p0) + (nI i)).toNatClampNeg)).toInt64))) (ix_clamp c_4 (Nat.lt_of_le_of_lt hi (Int32.toNatClampNeg_lt _))) (by omega) (hg.trans (by rw [m_chsum]; simp [eq_false c_2, eq_false c_4])) ls (lv_sub hl [2, 3, 1, 0] rfl)
    exact loop_3 ((c4 p0.toNatClampNeg).toNatClampNeg + 1) 0 0 (by omega) (by omega) (rfl) ls (lv_sub hl [2, 3, 1, 0] rfl)
  · refine lv_ldc2 (v := (-9223372036854775808)) hx hb hown (hts _ cw_867) d_Md_charge_8 ?_
    subst hQ
    exact W.lret (v := (-9223372036854775808)) hx hb hr (fun t ht hW => ⟨_, rfl, by simp [m_mcharge, eq_true c_2], ht⟩) (fun q h => by cases h) d_Md_charge_11

set_option maxHeartbeats 4000000 in
set_option maxRecDepth 100000 in
theorem c_Md_size (l : Launch) (D : va_G)  (p0 : Int32) (sz : Nat)  : Met l y_Md_size ws_Md_size ({ frames := 0, cells := 0, slots := 0, locals := 0 }) (va_Pc [.int p0] (cx_pre D [] ([]) sz)) (vp_Si (fun r9 => r9 = m_size p0)) 0 0 (fun _ => False) := by
  refine Met.ofW (cc := b_Md_size) (maxL := 1) (ret := (some .int)) (by decide) rfl ?_
  intro p e s m args below meth c s₁ B hml hv
  obtain ⟨rfl, hsz, hP, hK, hD0, hN, hO⟩ := hv
  have hx := B.exec
  have hb := B.bytes
  have hr := B.returns
  have hts := fun (w : Cond) (h : w ∈ cx_tbl) => atoms_spec (ws := ws_Md_size) B.pre w (List.mem_cons_of_mem _ h)
  have hown : s.vm.findClass R_Md = some m.cls := findClass_of_methodNamed B.named
  have hlocks := B.notSynchronized
  subst hsz
  have hD := hD0.self (sz := s.heap.size)
  generalize hAe : va_A ([]) s.heap.size = A at hD hO
  have hA : ∀ q : Nat, s.heap.size ≤ q → A q := fun q h => by rw [← hAe]; exact Or.inr h
  have hS : va_S A s.heap s.heap [] := va_S.rf
  have hl := lv_entry ([.int p0]) (n := 1) (Nat.le_of_ble_eq_true rfl)
  rw [lg_entry_eq]
  generalize (lg_sl ([.int p0]) ++ List.replicate (1 - (lg_sl ([.int p0])).length) Slot.unset).toArray = ls at hl ⊢
  have hl : lv_has ls 1 [(0, .int p0)] := hl
  refine lv_iload_n hx hb d_Md_size_0 rfl (lv_at hl 0 rfl) ?_
  refine lv_if_ge (tgt := 9) hx hb d_Md_size_1 (by decide) (fun c_1 => ?_) (fun c_1 => ?_)
  · refine lv_iload_n hx hb d_Md_size_9 rfl (lv_at hl 0 rfl) ?_
    exact W.iret (v := p0) hx hb hr (fun t ht hW => ⟨_, rfl, by simp [m_size, eq_true c_1], ht⟩) (fun q h => by cases h) d_Md_size_10
  · refine lv_iload_n hx hb d_Md_size_4 rfl (lv_at hl 0 rfl) ?_
    refine lv_ineg hx hb d_Md_size_5 ?_
    refine lv_goto (tgt := 10) hx hb d_Md_size_6 (by decide) ?_
    exact W.iret (v := -p0) hx hb hr (fun t ht hW => ⟨_, rfl, by simp [m_size, eq_false c_1], ht⟩) (fun q h => by cases h) d_Md_size_10

set_option maxHeartbeats 4000000 in
set_option maxRecDepth 100000 in
theorem c_Md_common (l : Launch) (D : va_G)  (p0 : Int32) (p1 : Int32) (sz : Nat) (hp0 : ¬ p0 < 0) (hp1 : ¬ p1 < 0) : Met l y_Md_common ws_Md_common ({ frames := 0, cells := 0, slots := 0, locals := 0 }) (va_Pc [.int p0, .int p1] (cx_pre D [] ([]) sz)) (vp_Si (fun r9 => r9 = m_gcdW (p1.toNatClampNeg + 1) p0 p1)) 0 0 (fun _ => False) := by
  refine Met.ofW (cc := b_Md_common) (maxL := 5) (ret := (some .int)) (by decide) rfl ?_
  intro p e s m args below meth c s₁ B hml hv
  obtain ⟨rfl, hsz, hP, hK, hD0, hN, hO⟩ := hv
  have hx := B.exec
  have hb := B.bytes
  have hr := B.returns
  have hts := fun (w : Cond) (h : w ∈ cx_tbl) => atoms_spec (ws := ws_Md_common) B.pre w (List.mem_cons_of_mem _ h)
  have hown : s.vm.findClass R_Md = some m.cls := findClass_of_methodNamed B.named
  have hlocks := B.notSynchronized
  subst hsz
  have hD := hD0.self (sz := s.heap.size)
  generalize hAe : va_A ([]) s.heap.size = A at hD hO
  have hA : ∀ q : Nat, s.heap.size ≤ q → A q := fun q h => by rw [← hAe]; exact Or.inr h
  have hS : va_S A s.heap s.heap [] := va_S.rf
  have hl := lv_entry ([.int p0, .int p1]) (n := 5) (Nat.le_of_ble_eq_true rfl)
  rw [lg_entry_eq]
  generalize (lg_sl ([.int p0, .int p1]) ++ List.replicate (5 - (lg_sl ([.int p0, .int p1])).length) Slot.unset).toArray = ls at hl ⊢
  have hl : lv_has ls 5 [(0, .int p0), (1, .int p1)] := hl
  refine cx_q (fun Q hQ => ?_)
  refine lv_iload_n hx hb d_Md_common_0 rfl (lv_at hl 0 rfl) ?_
  refine lv_istore_n (lv' := [(2, .int p0), (0, .int p0), (1, .int p1)]) hx hb d_Md_common_1 rfl hl (by decide) rfl (fun ls hl => ?_)
  refine lv_iload_n hx hb d_Md_common_2 rfl (lv_at hl 2 rfl) ?_
  refine lv_istore_n (lv' := [(3, .int p1), (2, .int p0), (0, .int p0), (1, .int p1)]) hx hb d_Md_common_3 rfl hl (by decide) rfl (fun ls hl => ?_)
  have loop_1 : ∀ (n : Nat) (x : Int32) (y : Int32) (hn : y.toNatClampNeg < n) (hg : m_gcdW (p1.toNatClampNeg + 1) p0 p1 = m_gcdW n x y) (hx0 : ¬ x < 0) (hy0 : ¬ y < 0) (ls : Array Slot) (hl : lv_has ls 5 [(0, .int p0), (1, .int p1), (2, .int x), (3, .int y)]), W p l e ({ frames := 0, cells := 0, slots := 0, locals := 0 }) s m [.int p0, .int p1].toArray below meth c s.heap [] 0 0 Q (F0 m 4 ls []) := by
    intro n
    induction n with
    | zero =>
      intro x y hn hg hx0 hy0 ls hl
      exact absurd hn (Nat.not_lt_zero _)
    | succ n ih_4 =>
      intro x y hn hg hx0 hy0 ls hl
      refine lv_iload_n hx hb d_Md_common_4 rfl (lv_at hl 3 rfl) ?_
      refine lv_if_eq (tgt := 21) hx hb d_Md_common_5 (by decide) (fun c_2 => ?_) (fun c_2 => ?_)
      · refine lv_iload_n hx hb d_Md_common_21 rfl (lv_at hl 2 rfl) ?_
        subst hQ
        exact W.iret (v := x) hx hb hr (fun t ht hW => ⟨_, rfl, (hg.trans (by rw [m_gcdW]; simp [eq_true c_2])).symm, ht⟩) (fun q h => by cases h) d_Md_common_22
      · refine lv_iload_n hx hb d_Md_common_8 rfl (lv_at hl 2 rfl) ?_
        refine lv_iload_n hx hb d_Md_common_9 rfl (lv_at hl 3 rfl) ?_
        refine lv_irem hx hb d_Md_common_10 (c_2) ?_
        refine lv_istore (lv' := [(4, .int (x - x / y * y)), (0, .int p0), (1, .int p1), (2, .int x), (3, .int y)]) hx hb d_Md_common_11 hl (by decide) rfl (fun ls hl => ?_)
        refine lv_iload_n hx hb d_Md_common_13 rfl (lv_at hl 4 rfl) ?_
        refine lv_istore_n (lv' := [(2, .int y), (4, .int (x - x / y * y)), (0, .int p0), (1, .int p1), (3, .int y)]) hx hb d_Md_common_14 rfl hl (by decide) rfl (fun ls hl => ?_)
        refine lv_iload hx hb d_Md_common_15 (lv_at hl 1 rfl) ?_
        refine lv_istore_n (lv' := [(3, .int (x - x / y * y)), (2, .int y), (4, .int (x - x / y * y)), (0, .int p0), (1, .int p1)]) hx hb d_Md_common_17 rfl hl (by decide) rfl (fun ls hl => ?_)
        refine lv_goto (tgt := 4) hx hb d_Md_common_18 (by decide) ?_
        exact ih_4 y (x - x / y * y) (Nat.lt_of_lt_of_le (md_rem hx0 hy0 c_2).2 (Nat.le_of_lt_succ hn)) (hg.trans (by rw [m_gcdW]; simp [eq_false c_2])) (hy0) ((md_rem hx0 hy0 c_2).1) ls (lv_sub hl [3, 4, 1, 0] rfl)
  exact loop_1 (p1.toNatClampNeg + 1) p0 p1 (Nat.lt_succ_self _) (rfl) (hp0) (hp1) ls (lv_sub hl [2, 3, 1, 0] rfl)

set_option maxHeartbeats 4000000 in
set_option maxRecDepth 100000 in
theorem c_Md_partOf (l : Launch) (D : va_G)  (p0 : Int32) (p1 : Int32) (p2 : Int32) (sz : Nat) (hp0 : ¬ p0 < 0) (hp1 : ¬ p1 < 0) (hne : ¬ p1 = 0) : Met l y_Md_partOf ws_Md_partOf ({ frames := 1, cells := 0, slots := 0, locals := 24 }) (va_Pc [.int p0, .int p1, .int p2] (cx_pre D [] ([]) sz)) (vp_Si (fun r9 => r9 = m_mpart p0 p1 p2)) 0 0 (fun _ => False) := by
  refine Met.ofW (cc := b_Md_partOf) (maxL := 4) (ret := (some .int)) (by decide) rfl ?_
  intro p e s m args below meth c s₁ B hml hv
  obtain ⟨rfl, hsz, hP, hK, hD0, hN, hO⟩ := hv
  have hx := B.exec
  have hb := B.bytes
  have hr := B.returns
  have hts := fun (w : Cond) (h : w ∈ cx_tbl) => atoms_spec (ws := ws_Md_partOf) B.pre w (List.mem_cons_of_mem _ h)
  have hown : s.vm.findClass R_Md = some m.cls := findClass_of_methodNamed B.named
  have hlocks := B.notSynchronized
  subst hsz
  have hD := hD0.self (sz := s.heap.size)
  generalize hAe : va_A ([]) s.heap.size = A at hD hO
  have hA : ∀ q : Nat, s.heap.size ≤ q → A q := fun q h => by rw [← hAe]; exact Or.inr h
  have hS : va_S A s.heap s.heap [] := va_S.rf
  have hl := lv_entry ([.int p0, .int p1, .int p2]) (n := 4) (Nat.le_of_ble_eq_true rfl)
  rw [lg_entry_eq]
  generalize (lg_sl ([.int p0, .int p1, .int p2]) ++ List.replicate (4 - (lg_sl ([.int p0, .int p1, .int p2])).length) Slot.unset).toArray = ls at hl ⊢
  have hl : lv_has ls 4 [(0, .int p0), (1, .int p1), (2, .int p2)] := hl
  refine lv_iload_n hx hb d_Md_partOf_0 rfl (lv_at hl 0 rfl) ?_
  refine lv_iload_n hx hb d_Md_partOf_1 rfl (lv_at hl 1 rfl) ?_
  have hPc := hP.sub (ws' := []) [] rfl
  have hDc := hD.sub (ws' := []) [] (by decide) rfl
  have hKc := hK.sub (tys' := []) [] rfl
  have hFc := va_free (wc := []) hD hS hA [] rfl
  refine vp_callSi (va_Run.run (va_runS (As := [.int p0, .int p1]) (rest := [])  ⟨hx, hb, hml, hown, hts⟩ (c_Md_common l D p0 p1 s.heap.size (hp0) (hp1)) ⟨callB_of 2 hts cg_Md_common rfl rfl rfl (hts _ cw_10) (hts _ cw_883) (by decide +kernel) ⟨Nat.le_of_ble_eq_true rfl, Nat.le_of_ble_eq_true rfl⟩, hts _ cw_884⟩ (cx_preS [.int p0, .int p1] hPc hKc hDc hN hO hS hFc) rfl rfl hl.1 rfl (lv_room (Nat.le_of_ble_eq_true rfl)) d_Md_partOf_2 ⟨Nat.le_of_ble_eq_true rfl, Nat.le_of_ble_eq_true rfl⟩)) (fun r z_1 => ?_)
  subst z_1
  refine lv_istore_n (lv' := [(3, .int (m_gcdW (p1.toNatClampNeg + 1) p0 p1)), (0, .int p0), (1, .int p1), (2, .int p2)]) hx hb d_Md_partOf_5 rfl hl (by decide) rfl (fun ls hl => ?_)
  refine lv_iload_n hx hb d_Md_partOf_6 rfl (lv_at hl 3 rfl) ?_
  refine lv_if_ne (tgt := 16) hx hb d_Md_partOf_7 (by decide) (fun c_2 => ?_) (fun c_2 => ?_)
  · refine lv_iload_n hx hb d_Md_partOf_16 rfl (lv_at hl 2 rfl) ?_
    refine lv_iload_n hx hb d_Md_partOf_17 rfl (lv_at hl 0 rfl) ?_
    refine lv_idiv hx hb d_Md_partOf_18 (m_gcdW_ne _ _ _ hp0 hp1 (Or.inl hne) (Nat.lt_succ_self _)) ?_
    exact W.iret (v := p1 / (m_gcdW (p1.toNatClampNeg + 1) p0 p1)) hx hb hr (fun t ht hW => ⟨_, rfl, by simp [m_mpart, eq_false c_2], ht⟩) (fun q h => by cases h) d_Md_partOf_19
  · refine lv_iload_n hx hb d_Md_partOf_10 rfl (lv_at hl 1 rfl) ?_
    refine lv_iload_n hx hb d_Md_partOf_11 rfl (lv_at hl 0 rfl) ?_
    refine lv_idiv hx hb d_Md_partOf_12 (m_gcdW_ne _ _ _ hp0 hp1 (Or.inl hne) (Nat.lt_succ_self _)) ?_
    refine lv_goto (tgt := 19) hx hb d_Md_partOf_13 (by decide) ?_
    exact W.iret (v := p0 / (m_gcdW (p1.toNatClampNeg + 1) p0 p1)) hx hb hr (fun t ht hW => ⟨_, rfl, by simp [m_mpart, eq_true c_2], ht⟩) (fun q h => by cases h) d_Md_partOf_19

set_option maxHeartbeats 4000000 in
set_option maxRecDepth 100000 in
theorem c_Md_turnOf (l : Launch) (D : va_G)  (h0 : Nat) (u0 : Int32) (a1 : Nat) (u2 : Int32) (u3 : Int32) (a4 : Nat) (a5 : Nat) (a6 : Nat) (a7 : Nat) (a8 : Nat) (a9 : Nat) (a10 : Nat) (a11 : Nat) (u12 : Int32) (u13 : Int32) (a14 : Nat) (a15 : Nat) (a16 : Nat) (u17 : Int32) (a18 : Nat) (a19 : Nat) (a20 : Nat) (u21 : Int32) (a22 : Nat) (a23 : Nat) (u24 : Int32) (a25 : Nat) (a26 : Nat) (u27 : Int32) (u28 : Int32) (u29 : Int32) (u30 : Int32) (k4 : ClassId) (k6 : ClassId) (c4 : Nat → Int32) (c6 : Nat → Int32) (p0 : Int32) (sz : Nat) (hx8 : vp_in p0 8) (hst : ∀ i, i < 8 → ¬ c4 i < 0 ∧ c4 i ≤ 30) : Met l y_Md_turnOf ws_Md_turnOf ({ frames := 0, cells := 0, slots := 0, locals := 0 }) (va_Pc [.ref h0, .int p0] (cx_pre D [(k4, .int), (k6, .int)] ([(h0, .inr (6, [.int u0, .ref a1, .int u2, .int u3, .ref a4, .ref a5, .ref a6, .ref a7, .ref a8, .ref a9, .ref a10, .ref a11, .int u12, .int u13, .ref a14, .ref a15, .ref a16, .int u17, .ref a18, .ref a19, .ref a20, .int u21, .ref a22, .ref a23, .int u24, .ref a25, .ref a26, .int u27, .int u28, .int u29, .int u30])), (a4, .inl (k4, 8, .inl c4)), (a6, .inl (k6, 240, .inl c6))]) sz)) (vp_Si (fun r9 => r9 = m_turnOf c4 c6 p0)) 0 0 (fun _ => False) := by
  refine Met.ofW (cc := b_Md_turnOf) (maxL := 4) (ret := (some .int)) (by decide) rfl ?_
  intro p e s m args below meth c s₁ B hml hv
  obtain ⟨rfl, hsz, hP, hK, hD0, hN, hO⟩ := hv
  have hx := B.exec
  have hb := B.bytes
  have hr := B.returns
  have hts := fun (w : Cond) (h : w ∈ cx_tbl) => atoms_spec (ws := ws_Md_turnOf) B.pre w (List.mem_cons_of_mem _ h)
  have hown : s.vm.findClass R_Md = some m.cls := findClass_of_methodNamed B.named
  have hlocks := B.notSynchronized
  subst hsz
  have hD := hD0.self (sz := s.heap.size)
  generalize hAe : va_A ([(h0, .inr (6, [.int u0, .ref a1, .int u2, .int u3, .ref a4, .ref a5, .ref a6, .ref a7, .ref a8, .ref a9, .ref a10, .ref a11, .int u12, .int u13, .ref a14, .ref a15, .ref a16, .int u17, .ref a18, .ref a19, .ref a20, .int u21, .ref a22, .ref a23, .int u24, .ref a25, .ref a26, .int u27, .int u28, .int u29, .int u30])), (a4, .inl (k4, 8, .inl c4)), (a6, .inl (k6, 240, .inl c6))]) s.heap.size = A at hD hO
  have hA : ∀ q : Nat, s.heap.size ≤ q → A q := fun q h => by rw [← hAe]; exact Or.inr h
  have hS : va_S A s.heap s.heap [] := va_S.rf
  have hl := lv_entry ([.ref h0, .int p0]) (n := 4) (Nat.le_of_ble_eq_true rfl)
  rw [lg_entry_eq]
  generalize (lg_sl ([.ref h0, .int p0]) ++ List.replicate (4 - (lg_sl ([.ref h0, .int p0])).length) Slot.unset).toArray = ls at hl ⊢
  have hl : lv_has ls 4 [(0, .ref h0), (1, .int p0)] := hl
  refine cx_q (fun Q hQ => ?_)
  refine lv_iconst (v := (-1)) hx hb d_Md_turnOf_0 (by decide) ?_
  refine lv_istore_n (lv' := [(2, .int (-1)), (0, .ref h0), (1, .int p0)]) hx hb d_Md_turnOf_1 rfl hl (by decide) rfl (fun ls hl => ?_)
  refine lv_bipush (v := 30) hx hb d_Md_turnOf_2 (by decide) ?_
  refine lv_iload_n hx hb d_Md_turnOf_4 rfl (lv_at hl 2 rfl) ?_
  refine lv_imul hx hb d_Md_turnOf_5 ?_
  refine lv_iconst (v := 1) hx hb d_Md_turnOf_6 (by decide) ?_
  refine lv_iadd hx hb d_Md_turnOf_7 ?_
  refine lv_istore_n (lv' := [(3, .int ((30 * p0) + 1)), (2, .int (-1)), (0, .ref h0), (1, .int p0)]) hx hb d_Md_turnOf_8 rfl hl (by decide) rfl (fun ls hl => ?_)
  have loop_1 : ∀ (n : Nat) (x : Int32) (fd : Int32) (hn : (((30 * p0) + (c4 p0.toNatClampNeg)).toInt - x.toInt).toNat < n) (hg : m_turnOf c4 c6 p0 = m_turn c6 ((30 * p0) + (c4 p0.toNatClampNeg)) n x fd) (hx1 : ¬ x < 1) (ls : Array Slot) (hl : lv_has ls 4 [(0, .ref h0), (1, .int p0), (2, .int fd), (3, .int x)]), W p l e ({ frames := 0, cells := 0, slots := 0, locals := 0 }) s m [.ref h0, .int p0].toArray below meth c s.heap [] 0 0 Q (F0 m 9 ls []) := by
    intro n
    induction n with
    | zero =>
      intro x fd hn hg hx1 ls hl
      exact absurd hn (Nat.not_lt_zero _)
    | succ n ih_9 =>
      intro x fd hn hg hx1 ls hl
      refine lv_iload_n hx hb d_Md_turnOf_9 rfl (lv_at hl 3 rfl) ?_
      refine lv_bipush (v := 30) hx hb d_Md_turnOf_10 (by decide) ?_
      refine lv_iload_n hx hb d_Md_turnOf_12 rfl (lv_at hl 1 rfl) ?_
      refine lv_imul hx hb d_Md_turnOf_13 ?_
      refine lv_aload_n hx hb d_Md_turnOf_14 rfl (lv_at hl 0 rfl) ?_
      refine va_get (D := D) (ci := 6) (v := .ref a4) (C := R_Md) (T := T_Md) (N := 31) hx hb hts in_Md hown hK hP 0 rfl rfl 4 (by decide) (hts _ cw_738) (fun _ h9 => h9) rfl d_Md_turnOf_15 ?_
      refine lv_iload_n hx hb d_Md_turnOf_18 rfl (lv_at hl 1 rfl) ?_
      refine va_iald hx hb hK hP 1 0 rfl rfl (hx8) d_Md_turnOf_19 ?_
      refine lv_iadd hx hb d_Md_turnOf_20 ?_
      refine lv_icmp_ge (tgt := 53) hx hb d_Md_turnOf_21 (by decide) (fun c_2 => ?_) (fun c_2 => ?_)
      · refine lv_iload_n hx hb d_Md_turnOf_53 rfl (lv_at hl 2 rfl) ?_
        subst hQ
        exact W.iret (v := fd) hx hb hr (fun t ht hW => ⟨_, rfl, (hg.trans (by rw [m_turn]; simp [eq_true c_2])).symm, ht⟩) (fun q h => by cases h) d_Md_turnOf_54
      · refine lv_aload_n hx hb d_Md_turnOf_24 rfl (lv_at hl 0 rfl) ?_
        refine va_get (D := D) (ci := 6) (v := .ref a6) (C := R_Md) (T := T_Md) (N := 31) hx hb hts in_Md hown hK hP 0 rfl rfl 6 (by decide) (hts _ cw_740) (fun _ h9 => h9) rfl d_Md_turnOf_25 ?_
        refine lv_iload_n hx hb d_Md_turnOf_28 rfl (lv_at hl 3 rfl) ?_
        refine va_iald hx hb hK hP 2 1 rfl rfl (ix_mid (n := 240) (by decide) (md_n0 hx1) c_2 (md_lim hx8 hst)) d_Md_turnOf_29 ?_
        refine lv_aload_n hx hb d_Md_turnOf_30 rfl (lv_at hl 0 rfl) ?_
        refine va_get (D := D) (ci := 6) (v := .ref a6) (C := R_Md) (T := T_Md) (N := 31) hx hb hts in_Md hown hK hP 0 rfl rfl 6 (by decide) (hts _ cw_740) (fun _ h9 => h9) rfl d_Md_turnOf_31 ?_
        refine lv_iload_n hx hb d_Md_turnOf_34 rfl (lv_at hl 3 rfl) ?_
        refine lv_iconst (v := 1) hx hb d_Md_turnOf_35 (by decide) ?_
        refine lv_isub hx hb d_Md_turnOf_36 ?_
        refine va_iald hx hb hK hP 2 1 rfl rfl (ix_midp (n := 240) (by decide) hx1 c_2 (md_lim hx8 hst)) d_Md_turnOf_37 ?_
        refine lv_icmp_eq (tgt := 45) hx hb d_Md_turnOf_38 (by decide) (fun c_3 => ?_) (fun c_3 => ?_)
        · refine lv_iload_n hx hb d_Md_turnOf_45 rfl (lv_at hl 2 rfl) ?_
          refine lv_istore_n (lv' := [(2, .int fd), (0, .ref h0), (1, .int p0), (3, .int x)]) hx hb d_Md_turnOf_46 rfl hl (by decide) rfl (fun ls hl => ?_)
          refine lv_iinc (v := x + 1) (lv' := [(3, .int (x + 1)), (2, .int fd), (0, .ref h0), (1, .int p0)]) hx hb d_Md_turnOf_47 hl (k := 3) rfl (rfl) (by decide) rfl (fun ls hl => ?_)
          refine lv_goto (tgt := 9) hx hb d_Md_turnOf_50 (by decide) ?_
          exact ih_9 (x + 1) fd (ix_up hn c_2) (hg.trans (by rw [m_turn]; simp [eq_false c_2, eq_true c_3])) (ix_up1 hx1 c_2) ls (lv_sub hl [2, 3, 1, 0] rfl)
        · refine lv_iload_n hx hb d_Md_turnOf_41 rfl (lv_at hl 3 rfl) ?_
          refine lv_goto (tgt := 46) hx hb d_Md_turnOf_42 (by decide) ?_
          refine lv_istore_n (lv' := [(2, .int x), (0, .ref h0), (1, .int p0), (3, .int x)]) hx hb d_Md_turnOf_46 rfl hl (by decide) rfl (fun ls hl => ?_)
          refine lv_iinc (v := x + 1) (lv' := [(3, .int (x + 1)), (2, .int x), (0, .ref h0), (1, .int p0)]) hx hb d_Md_turnOf_47 hl (k := 3) rfl (rfl) (by decide) rfl (fun ls hl => ?_)
          refine lv_goto (tgt := 9) hx hb d_Md_turnOf_50 (by decide) ?_
          exact ih_9 (x + 1) x (ix_up hn c_2) (hg.trans (by rw [m_turn]; simp [eq_false c_2, eq_false c_3])) (ix_up1 hx1 c_2) ls (lv_sub hl [2, 3, 1, 0] rfl)
  exact loop_1 ((((30 * p0) + (c4 p0.toNatClampNeg)).toInt - ((30 * p0) + 1).toInt).toNat + 1) ((30 * p0) + 1) (-1) (Nat.lt_succ_self _) (rfl) (md_st1 hx8) ls (lv_sub hl [2, 3, 1, 0] rfl)

set_option maxHeartbeats 4000000 in
set_option maxRecDepth 100000 in
theorem c_Md_resistance (l : Launch) (D : va_G)  (h0 : Nat) (u0 : Int32) (a1 : Nat) (u2 : Int32) (u3 : Int32) (a4 : Nat) (a5 : Nat) (a6 : Nat) (a7 : Nat) (a8 : Nat) (a9 : Nat) (a10 : Nat) (a11 : Nat) (u12 : Int32) (u13 : Int32) (a14 : Nat) (a15 : Nat) (a16 : Nat) (u17 : Int32) (a18 : Nat) (a19 : Nat) (a20 : Nat) (u21 : Int32) (a22 : Nat) (a23 : Nat) (u24 : Int32) (a25 : Nat) (a26 : Nat) (u27 : Int32) (u28 : Int32) (u29 : Int32) (u30 : Int32) (k4 : ClassId) (k6 : ClassId) (k7 : ClassId) (c4 : Nat → Int32) (c6 : Nat → Int32) (c7 : Nat → Int32) (p0 : Int32) (p1 : Int32) (sz : Nat) (hc : u0 ≤ 8) (hst : ∀ i, i < 8 → ¬ c4 i < 0 ∧ c4 i ≤ 30) (ham : ∀ i, i < 240 → ¬ c6 i < (-100000) ∧ c6 i ≤ 100000) (hvo : ∀ i, i < 240 → ¬ c7 i < 0 ∧ c7 i ≤ 10000) : Met l y_Md_resistance ws_Md_resistance ({ frames := 2, cells := 0, slots := 0, locals := 47 }) (va_Pc [.ref h0, .int p0, .int p1] (cx_pre D [(k4, .int), (k6, .int), (k7, .int)] ([(h0, .inr (6, [.int u0, .ref a1, .int u2, .int u3, .ref a4, .ref a5, .ref a6, .ref a7, .ref a8, .ref a9, .ref a10, .ref a11, .int u12, .int u13, .ref a14, .ref a15, .ref a16, .int u17, .ref a18, .ref a19, .ref a20, .int u21, .ref a22, .ref a23, .int u24, .ref a25, .ref a26, .int u27, .int u28, .int u29, .int u30])), (a4, .inl (k4, 8, .inl c4)), (a6, .inl (k6, 240, .inl c6)), (a7, .inl (k7, 240, .inl c7))]) sz)) (vp_Si (fun r9 => r9 = m_mres u0 c4 c6 c7 p0 p1)) 0 0 (fun _ => False) := by
  refine Met.ofW (cc := b_Md_resistance) (maxL := 4) (ret := (some .int)) (by decide) rfl ?_
  intro p e s m args below meth c s₁ B hml hv
  obtain ⟨rfl, hsz, hP, hK, hD0, hN, hO⟩ := hv
  have hx := B.exec
  have hb := B.bytes
  have hr := B.returns
  have hts := fun (w : Cond) (h : w ∈ cx_tbl) => atoms_spec (ws := ws_Md_resistance) B.pre w (List.mem_cons_of_mem _ h)
  have hown : s.vm.findClass R_Md = some m.cls := findClass_of_methodNamed B.named
  have hlocks := B.notSynchronized
  subst hsz
  have hD := hD0.self (sz := s.heap.size)
  generalize hAe : va_A ([(h0, .inr (6, [.int u0, .ref a1, .int u2, .int u3, .ref a4, .ref a5, .ref a6, .ref a7, .ref a8, .ref a9, .ref a10, .ref a11, .int u12, .int u13, .ref a14, .ref a15, .ref a16, .int u17, .ref a18, .ref a19, .ref a20, .int u21, .ref a22, .ref a23, .int u24, .ref a25, .ref a26, .int u27, .int u28, .int u29, .int u30])), (a4, .inl (k4, 8, .inl c4)), (a6, .inl (k6, 240, .inl c6)), (a7, .inl (k7, 240, .inl c7))]) s.heap.size = A at hD hO
  have hA : ∀ q : Nat, s.heap.size ≤ q → A q := fun q h => by rw [← hAe]; exact Or.inr h
  have hS : va_S A s.heap s.heap [] := va_S.rf
  have hl := lv_entry ([.ref h0, .int p0, .int p1]) (n := 4) (Nat.le_of_ble_eq_true rfl)
  rw [lg_entry_eq]
  generalize (lg_sl ([.ref h0, .int p0, .int p1]) ++ List.replicate (4 - (lg_sl ([.ref h0, .int p0, .int p1])).length) Slot.unset).toArray = ls at hl ⊢
  have hl : lv_has ls 4 [(0, .ref h0), (1, .int p0), (2, .int p1)] := hl
  refine cx_q (fun Q hQ => ?_)
  refine lv_aload_n hx hb d_Md_resistance_0 rfl (lv_at hl 0 rfl) ?_
  refine lv_iload_n hx hb d_Md_resistance_1 rfl (lv_at hl 1 rfl) ?_
  have hPc := hP.sub (ws' := [(h0, .inr (6, [.int u0, .ref a1, .int u2, .int u3, .ref a4, .ref a5, .ref a6, .ref a7, .ref a8, .ref a9, .ref a10, .ref a11, .int u12, .int u13, .ref a14, .ref a15, .ref a16, .int u17, .ref a18, .ref a19, .ref a20, .int u21, .ref a22, .ref a23, .int u24, .ref a25, .ref a26, .int u27, .int u28, .int u29, .int u30]))]) [0] rfl
  have hDc := hD.sub (ws' := [(h0, .inr (6, [.int u0, .ref a1, .int u2, .int u3, .ref a4, .ref a5, .ref a6, .ref a7, .ref a8, .ref a9, .ref a10, .ref a11, .int u12, .int u13, .ref a14, .ref a15, .ref a16, .int u17, .ref a18, .ref a19, .ref a20, .int u21, .ref a22, .ref a23, .int u24, .ref a25, .ref a26, .int u27, .int u28, .int u29, .int u30]))]) [0] (by decide) rfl
  have hKc := hK.sub (tys' := []) [] rfl
  have hFc := va_free (wc := [(h0, .inr (6, [.int u0, .ref a1, .int u2, .int u3, .ref a4, .ref a5, .ref a6, .ref a7, .ref a8, .ref a9, .ref a10, .ref a11, .int u12, .int u13, .ref a14, .ref a15, .ref a16, .int u17, .ref a18, .ref a19, .ref a20, .int u21, .ref a22, .ref a23, .int u24, .ref a25, .ref a26, .int u27, .int u28, .int u29, .int u30]))]) hD hS hA [0] rfl
  refine vp_callSi (va_Run.run (va_runV (As := [.int p0]) (rest := [])  ⟨hx, hb, hml, hown, hts⟩ (c_Md_isCell l D h0 u0 a1 u2 u3 a4 a5 a6 a7 a8 a9 a10 a11 u12 u13 a14 a15 a16 u17 a18 a19 a20 u21 a22 a23 u24 a25 a26 u27 u28 u29 u30 p0 s.heap.size ) ⟨callB_of 1 hts cg_Md_isCell rfl rfl rfl (hts _ cw_10) (hts _ cw_844) (by decide +kernel) ⟨Nat.le_of_ble_eq_true rfl, Nat.le_of_ble_eq_true rfl⟩, hts _ cw_846, hts _ cs_16⟩ (cx_preV (C := R_Md) [.int p0] hPc hKc hDc hN hO hS hFc (ci := 6) (q0 := 0) rfl rfl rfl) rfl rfl hl.1 rfl (lv_room (Nat.le_of_ble_eq_true rfl)) d_Md_resistance_2 ⟨Nat.le_of_ble_eq_true rfl, Nat.le_of_ble_eq_true rfl⟩)) (fun r z_1 => ?_)
  subst z_1
  refine lv_if_eq (tgt := 26) hx hb d_Md_resistance_5 (by decide) (fun c_2 => ?_) (fun c_2 => ?_)
  · refine lv_iconst (v := (-1)) hx hb d_Md_resistance_26 (by decide) ?_
    subst hQ
    exact W.iret (v := (-1)) hx hb hr (fun t ht hW => ⟨_, rfl, by simp [m_mres, eq_true c_2], ht⟩) (fun q h => by cases h) d_Md_resistance_27
  · refine lv_iload_n hx hb d_Md_resistance_8 rfl (lv_at hl 2 rfl) ?_
    refine lv_i2l hx hb d_Md_resistance_9 rfl ?_
    refine lv_lconst (v := 0) hx hb d_Md_resistance_10 (by decide) ?_
    refine lv_lconst (v := 1) hx hb d_Md_resistance_11 (by decide) ?_
    have hPc := hP.sub (ws' := []) [] rfl
    have hDc := hD.sub (ws' := []) [] (by decide) rfl
    have hKc := hK.sub (tys' := []) [] rfl
    have hFc := va_free (wc := []) hD hS hA [] rfl
    refine vp_callSi (va_Run.run (va_runS (As := [.long p1.toInt64, .long 0, .long 1]) (rest := [])  ⟨hx, hb, hml, hown, hts⟩ (c_Md_isIn l D p1.toInt64 0 1 s.heap.size ) ⟨callB_of 3 hts cg_Md_isIn rfl rfl rfl (hts _ cw_10) (hts _ cw_837) (by decide +kernel) ⟨Nat.le_of_ble_eq_true rfl, Nat.le_of_ble_eq_true rfl⟩, hts _ cw_838⟩ (cx_preS [.long p1.toInt64, .long 0, .long 1] hPc hKc hDc hN hO hS hFc) rfl rfl hl.1 rfl (lv_room (Nat.le_of_ble_eq_true rfl)) d_Md_resistance_12 ⟨Nat.le_of_ble_eq_true rfl, Nat.le_of_ble_eq_true rfl⟩)) (fun r z_3 => ?_)
    subst z_3
    refine lv_if_eq (tgt := 26) hx hb d_Md_resistance_15 (by decide) (fun c_4 => ?_) (fun c_4 => ?_)
    · refine lv_iconst (v := (-1)) hx hb d_Md_resistance_26 (by decide) ?_
      subst hQ
      exact W.iret (v := (-1)) hx hb hr (fun t ht hW => ⟨_, rfl, by simp [m_mres, eq_false c_2, eq_true c_4], ht⟩) (fun q h => by cases h) d_Md_resistance_27
    · refine lv_aload_n hx hb d_Md_resistance_18 rfl (lv_at hl 0 rfl) ?_
      refine lv_iload_n hx hb d_Md_resistance_19 rfl (lv_at hl 1 rfl) ?_
      have hPc := hP.sub (ws' := [(h0, .inr (6, [.int u0, .ref a1, .int u2, .int u3, .ref a4, .ref a5, .ref a6, .ref a7, .ref a8, .ref a9, .ref a10, .ref a11, .int u12, .int u13, .ref a14, .ref a15, .ref a16, .int u17, .ref a18, .ref a19, .ref a20, .int u21, .ref a22, .ref a23, .int u24, .ref a25, .ref a26, .int u27, .int u28, .int u29, .int u30])), (a4, .inl (k4, 8, .inl c4)), (a6, .inl (k6, 240, .inl c6))]) [0, 1, 2] rfl
      have hDc := hD.sub (ws' := [(h0, .inr (6, [.int u0, .ref a1, .int u2, .int u3, .ref a4, .ref a5, .ref a6, .ref a7, .ref a8, .ref a9, .ref a10, .ref a11, .int u12, .int u13, .ref a14, .ref a15, .ref a16, .int u17, .ref a18, .ref a19, .ref a20, .int u21, .ref a22, .ref a23, .int u24, .ref a25, .ref a26, .int u27, .int u28, .int u29, .int u30])), (a4, .inl (k4, 8, .inl c4)), (a6, .inl (k6, 240, .inl c6))]) [0, 1, 2] (by decide) rfl
      have hKc := hK.sub (tys' := [(k4, .int), (k6, .int)]) [0, 1] rfl
      have hFc := va_free (wc := [(h0, .inr (6, [.int u0, .ref a1, .int u2, .int u3, .ref a4, .ref a5, .ref a6, .ref a7, .ref a8, .ref a9, .ref a10, .ref a11, .int u12, .int u13, .ref a14, .ref a15, .ref a16, .int u17, .ref a18, .ref a19, .ref a20, .int u21, .ref a22, .ref a23, .int u24, .ref a25, .ref a26, .int u27, .int u28, .int u29, .int u30])), (a4, .inl (k4, 8, .inl c4)), (a6, .inl (k6, 240, .inl c6))]) hD hS hA [0, 1, 2] rfl
      refine vp_callSi (va_Run.run (va_runV (As := [.int p0]) (rest := [])  ⟨hx, hb, hml, hown, hts⟩ (c_Md_turnOf l D h0 u0 a1 u2 u3 a4 a5 a6 a7 a8 a9 a10 a11 u12 u13 a14 a15 a16 u17 a18 a19 a20 u21 a22 a23 u24 a25 a26 u27 u28 u29 u30 k4 k6 c4 c6 p0 s.heap.size (md_ix c_2 hc) (by assumption)) ⟨callB_of 1 hts cg_Md_turnOf rfl rfl rfl (hts _ cw_10) (hts _ cw_873) (by decide +kernel) ⟨Nat.le_of_ble_eq_true rfl, Nat.le_of_ble_eq_true rfl⟩, hts _ cw_875, hts _ cs_18⟩ (cx_preV (C := R_Md) [.int p0] hPc hKc hDc hN hO hS hFc (ci := 6) (q0 := 0) rfl rfl rfl) rfl rfl hl.1 rfl (lv_room (Nat.le_of_ble_eq_true rfl)) d_Md_resistance_20 ⟨Nat.le_of_ble_eq_true rfl, Nat.le_of_ble_eq_true rfl⟩)) (fun r z_5 => ?_)
      subst z_5
      refine lv_if_ge (tgt := 28) hx hb d_Md_resistance_23 (by decide) (fun c_6 => ?_) (fun c_6 => ?_)
      · refine lv_aload_n hx hb d_Md_resistance_28 rfl (lv_at hl 0 rfl) ?_
        refine lv_iload_n hx hb d_Md_resistance_29 rfl (lv_at hl 1 rfl) ?_
        have hPc := hP.sub (ws' := [(h0, .inr (6, [.int u0, .ref a1, .int u2, .int u3, .ref a4, .ref a5, .ref a6, .ref a7, .ref a8, .ref a9, .ref a10, .ref a11, .int u12, .int u13, .ref a14, .ref a15, .ref a16, .int u17, .ref a18, .ref a19, .ref a20, .int u21, .ref a22, .ref a23, .int u24, .ref a25, .ref a26, .int u27, .int u28, .int u29, .int u30])), (a4, .inl (k4, 8, .inl c4)), (a6, .inl (k6, 240, .inl c6))]) [0, 1, 2] rfl
        have hDc := hD.sub (ws' := [(h0, .inr (6, [.int u0, .ref a1, .int u2, .int u3, .ref a4, .ref a5, .ref a6, .ref a7, .ref a8, .ref a9, .ref a10, .ref a11, .int u12, .int u13, .ref a14, .ref a15, .ref a16, .int u17, .ref a18, .ref a19, .ref a20, .int u21, .ref a22, .ref a23, .int u24, .ref a25, .ref a26, .int u27, .int u28, .int u29, .int u30])), (a4, .inl (k4, 8, .inl c4)), (a6, .inl (k6, 240, .inl c6))]) [0, 1, 2] (by decide) rfl
        have hKc := hK.sub (tys' := [(k4, .int), (k6, .int)]) [0, 1] rfl
        have hFc := va_free (wc := [(h0, .inr (6, [.int u0, .ref a1, .int u2, .int u3, .ref a4, .ref a5, .ref a6, .ref a7, .ref a8, .ref a9, .ref a10, .ref a11, .int u12, .int u13, .ref a14, .ref a15, .ref a16, .int u17, .ref a18, .ref a19, .ref a20, .int u21, .ref a22, .ref a23, .int u24, .ref a25, .ref a26, .int u27, .int u28, .int u29, .int u30])), (a4, .inl (k4, 8, .inl c4)), (a6, .inl (k6, 240, .inl c6))]) hD hS hA [0, 1, 2] rfl
        refine vp_callSi (va_Run.run (va_runV (As := [.int p0]) (rest := [])  ⟨hx, hb, hml, hown, hts⟩ (c_Md_turnOf l D h0 u0 a1 u2 u3 a4 a5 a6 a7 a8 a9 a10 a11 u12 u13 a14 a15 a16 u17 a18 a19 a20 u21 a22 a23 u24 a25 a26 u27 u28 u29 u30 k4 k6 c4 c6 p0 s.heap.size (md_ix c_2 hc) (by assumption)) ⟨callB_of 1 hts cg_Md_turnOf rfl rfl rfl (hts _ cw_10) (hts _ cw_873) (by decide +kernel) ⟨Nat.le_of_ble_eq_true rfl, Nat.le_of_ble_eq_true rfl⟩, hts _ cw_875, hts _ cs_18⟩ (cx_preV (C := R_Md) [.int p0] hPc hKc hDc hN hO hS hFc (ci := 6) (q0 := 0) rfl rfl rfl) rfl rfl hl.1 rfl (lv_room (Nat.le_of_ble_eq_true rfl)) d_Md_resistance_30 ⟨Nat.le_of_ble_eq_true rfl, Nat.le_of_ble_eq_true rfl⟩)) (fun r z_7 => ?_)
        subst z_7
        refine lv_istore_n (lv' := [(3, .int (m_turnOf c4 c6 p0)), (0, .ref h0), (1, .int p0), (2, .int p1)]) hx hb d_Md_resistance_33 rfl hl (by decide) rfl (fun ls hl => ?_)
        refine lv_aload_n hx hb d_Md_resistance_34 rfl (lv_at hl 1 rfl) ?_
        refine va_get (D := D) (ci := 6) (v := .ref a7) (C := R_Md) (T := T_Md) (N := 31) hx hb hts in_Md hown hK hP 0 rfl rfl 7 (by decide) (hts _ cw_741) (fun _ h9 => h9) rfl d_Md_resistance_35 ?_
        refine lv_iload_n hx hb d_Md_resistance_38 rfl (lv_at hl 0 rfl) ?_
        refine va_iald hx hb hK hP 3 2 rfl rfl ((md_turn_ix (md_ix c_2 hc) hst c_6).1) d_Md_resistance_39 ?_
        refine lv_aload_n hx hb d_Md_resistance_40 rfl (lv_at hl 1 rfl) ?_
        refine va_get (D := D) (ci := 6) (v := .ref a7) (C := R_Md) (T := T_Md) (N := 31) hx hb hts in_Md hown hK hP 0 rfl rfl 7 (by decide) (hts _ cw_741) (fun _ h9 => h9) rfl d_Md_resistance_41 ?_
        refine lv_iload_n hx hb d_Md_resistance_44 rfl (lv_at hl 0 rfl) ?_
        refine lv_iconst (v := 1) hx hb d_Md_resistance_45 (by decide) ?_
        refine lv_isub hx hb d_Md_resistance_46 ?_
        refine va_iald hx hb hK hP 3 2 rfl rfl ((md_turn_ix (md_ix c_2 hc) hst c_6).2) d_Md_resistance_47 ?_
        refine lv_isub hx hb d_Md_resistance_48 ?_
        have hPc := hP.sub (ws' := []) [] rfl
        have hDc := hD.sub (ws' := []) [] (by decide) rfl
        have hKc := hK.sub (tys' := []) [] rfl
        have hFc := va_free (wc := []) hD hS hA [] rfl
        refine vp_callSi (va_Run.run (va_runS (As := [.int ((c7 ((m_turnOf c4 c6 p0).toNatClampNeg)) - (c7 (((m_turnOf c4 c6 p0) - 1).toNatClampNeg)))]) (rest := [])  ⟨hx, hb, hml, hown, hts⟩ (c_Md_size l D ((c7 ((m_turnOf c4 c6 p0).toNatClampNeg)) - (c7 (((m_turnOf c4 c6 p0) - 1).toNatClampNeg))) s.heap.size ) ⟨callB_of 1 hts cg_Md_size rfl rfl rfl (hts _ cw_10) (hts _ cw_877) (by decide +kernel) ⟨Nat.le_of_ble_eq_true rfl, Nat.le_of_ble_eq_true rfl⟩, hts _ cw_878⟩ (cx_preS [.int ((c7 ((m_turnOf c4 c6 p0).toNatClampNeg)) - (c7 (((m_turnOf c4 c6 p0) - 1).toNatClampNeg)))] hPc hKc hDc hN hO hS hFc) rfl rfl hl.1 rfl (lv_room (Nat.le_of_ble_eq_true rfl)) d_Md_resistance_49 ⟨Nat.le_of_ble_eq_true rfl, Nat.le_of_ble_eq_true rfl⟩)) (fun r z_8 => ?_)
        subst z_8
        refine lv_aload_n hx hb d_Md_resistance_52 rfl (lv_at hl 1 rfl) ?_
        refine va_get (D := D) (ci := 6) (v := .ref a6) (C := R_Md) (T := T_Md) (N := 31) hx hb hts in_Md hown hK hP 0 rfl rfl 6 (by decide) (hts _ cw_740) (fun _ h9 => h9) rfl d_Md_resistance_53 ?_
        refine lv_iload_n hx hb d_Md_resistance_56 rfl (lv_at hl 0 rfl) ?_
        refine va_iald hx hb hK hP 2 1 rfl rfl ((md_turn_ix (md_ix c_2 hc) hst c_6).1) d_Md_resistance_57 ?_
        refine lv_aload_n hx hb d_Md_resistance_58 rfl (lv_at hl 1 rfl) ?_
        refine va_get (D := D) (ci := 6) (v := .ref a6) (C := R_Md) (T := T_Md) (N := 31) hx hb hts in_Md hown hK hP 0 rfl rfl 6 (by decide) (hts _ cw_740) (fun _ h9 => h9) rfl d_Md_resistance_59 ?_
        refine lv_iload_n hx hb d_Md_resistance_62 rfl (lv_at hl 0 rfl) ?_
        refine lv_iconst (v := 1) hx hb d_Md_resistance_63 (by decide) ?_
        refine lv_isub hx hb d_Md_resistance_64 ?_
        refine va_iald hx hb hK hP 2 1 rfl rfl ((md_turn_ix (md_ix c_2 hc) hst c_6).2) d_Md_resistance_65 ?_
        refine lv_isub hx hb d_Md_resistance_66 ?_
        have hPc := hP.sub (ws' := []) [] rfl
        have hDc := hD.sub (ws' := []) [] (by decide) rfl
        have hKc := hK.sub (tys' := []) [] rfl
        have hFc := va_free (wc := []) hD hS hA [] rfl
        refine vp_callSi (va_Run.run (va_runS (As := [.int ((c6 ((m_turnOf c4 c6 p0).toNatClampNeg)) - (c6 (((m_turnOf c4 c6 p0) - 1).toNatClampNeg)))]) (rest := [.int (m_size ((c7 ((m_turnOf c4 c6 p0).toNatClampNeg)) - (c7 (((m_turnOf c4 c6 p0) - 1).toNatClampNeg))))])  ⟨hx, hb, hml, hown, hts⟩ (c_Md_size l D ((c6 ((m_turnOf c4 c6 p0).toNatClampNeg)) - (c6 (((m_turnOf c4 c6 p0) - 1).toNatClampNeg))) s.heap.size ) ⟨callB_of 1 hts cg_Md_size rfl rfl rfl (hts _ cw_10) (hts _ cw_877) (by decide +kernel) ⟨Nat.le_of_ble_eq_true rfl, Nat.le_of_ble_eq_true rfl⟩, hts _ cw_878⟩ (cx_preS [.int ((c6 ((m_turnOf c4 c6 p0).toNatClampNeg)) - (c6 (((m_turnOf c4 c6 p0) - 1).toNatClampNeg)))] hPc hKc hDc hN hO hS hFc) rfl rfl hl.1 rfl (lv_room (Nat.le_of_ble_eq_true rfl)) d_Md_resistance_67 ⟨Nat.le_of_ble_eq_true rfl, Nat.le_of_ble_eq_true rfl⟩)) (fun r z_9 => ?_)
        subst z_9
        refine lv_iload_n hx hb d_Md_resistance_70 rfl (lv_at hl 3 rfl) ?_
        have hPc := hP.sub (ws' := []) [] rfl
        have hDc := hD.sub (ws' := []) [] (by decide) rfl
        have hKc := hK.sub (tys' := []) [] rfl
        have hFc := va_free (wc := []) hD hS hA [] rfl
        refine vp_callSi (va_Run.run (va_runS (As := [.int (m_size ((c7 ((m_turnOf c4 c6 p0).toNatClampNeg)) - (c7 (((m_turnOf c4 c6 p0) - 1).toNatClampNeg)))), .int (m_size ((c6 ((m_turnOf c4 c6 p0).toNatClampNeg)) - (c6 (((m_turnOf c4 c6 p0) - 1).toNatClampNeg)))), .int p1]) (rest := [])  ⟨hx, hb, hml, hown, hts⟩ (c_Md_partOf l D (m_size ((c7 ((m_turnOf c4 c6 p0).toNatClampNeg)) - (c7 (((m_turnOf c4 c6 p0) - 1).toNatClampNeg)))) (m_size ((c6 ((m_turnOf c4 c6 p0).toNatClampNeg)) - (c6 (((m_turnOf c4 c6 p0) - 1).toNatClampNeg)))) p1 s.heap.size (md_size_v hvo (md_turn_ix (md_ix c_2 hc) hst c_6)) (md_size_a ham (md_turn_ix (md_ix c_2 hc) hst c_6)) (md_size_ne ham (md_turn_ix (md_ix c_2 hc) hst c_6) (md_turn_ne (md_ix c_2 hc) c_6))) ⟨callB_of 3 hts cg_Md_partOf rfl rfl rfl (hts _ cw_10) (hts _ cw_880) (by decide +kernel) ⟨Nat.le_of_ble_eq_true rfl, Nat.le_of_ble_eq_true rfl⟩, hts _ cw_881⟩ (cx_preS [.int (m_size ((c7 ((m_turnOf c4 c6 p0).toNatClampNeg)) - (c7 (((m_turnOf c4 c6 p0) - 1).toNatClampNeg)))), .int (m_size ((c6 ((m_turnOf c4 c6 p0).toNatClampNeg)) - (c6 (((m_turnOf c4 c6 p0) - 1).toNatClampNeg)))), .int p1] hPc hKc hDc hN hO hS hFc) rfl rfl hl.1 rfl (lv_room (Nat.le_of_ble_eq_true rfl)) d_Md_resistance_71 ⟨Nat.le_of_ble_eq_true rfl, Nat.le_of_ble_eq_true rfl⟩)) (fun r z_10 => ?_)
        subst z_10
        subst hQ
        exact W.iret (v := m_mpart (m_size ((c7 ((m_turnOf c4 c6 p0).toNatClampNeg)) - (c7 (((m_turnOf c4 c6 p0) - 1).toNatClampNeg)))) (m_size ((c6 ((m_turnOf c4 c6 p0).toNatClampNeg)) - (c6 (((m_turnOf c4 c6 p0) - 1).toNatClampNeg)))) p1) hx hb hr (fun t ht hW => ⟨_, rfl, by simp [m_mres, eq_false c_2, eq_false c_4, eq_true c_6], ht⟩) (fun q h => by cases h) d_Md_resistance_74
      · refine lv_iconst (v := (-1)) hx hb d_Md_resistance_26 (by decide) ?_
        subst hQ
        exact W.iret (v := (-1)) hx hb hr (fun t ht hW => ⟨_, rfl, by simp [m_mres, eq_false c_2, eq_false c_4, eq_false c_6], ht⟩) (fun q h => by cases h) d_Md_resistance_27

set_option maxHeartbeats 4000000 in
set_option maxRecDepth 100000 in
theorem c_Md_loss (l : Launch) (D : va_G)  (h0 : Nat) (u0 : Int32) (a1 : Nat) (u2 : Int32) (u3 : Int32) (a4 : Nat) (a5 : Nat) (a6 : Nat) (a7 : Nat) (a8 : Nat) (a9 : Nat) (a10 : Nat) (a11 : Nat) (u12 : Int32) (u13 : Int32) (a14 : Nat) (a15 : Nat) (a16 : Nat) (u17 : Int32) (a18 : Nat) (a19 : Nat) (a20 : Nat) (u21 : Int32) (a22 : Nat) (a23 : Nat) (u24 : Int32) (a25 : Nat) (a26 : Nat) (u27 : Int32) (u28 : Int32) (u29 : Int32) (u30 : Int32) (k8 : ClassId) (k9 : ClassId) (k10 : ClassId) (c8 : Nat → Int32) (c9 : Nat → Int32) (c10 : Nat → Int32) (p0 : Int32) (p1 : Int32) (sz : Nat) (hc : u0 ≤ 8) (hrc : ∀ i, i < 8 → ¬ c8 i < 0 ∧ c8 i ≤ 10) (hdy : m_days c8 c9) : Met l y_Md_loss ws_Md_loss ({ frames := 2, cells := 0, slots := 0, locals := 47 }) (va_Pc [.ref h0, .int p0, .int p1] (cx_pre D [(k8, .int), (k9, .int), (k10, .int)] ([(h0, .inr (6, [.int u0, .ref a1, .int u2, .int u3, .ref a4, .ref a5, .ref a6, .ref a7, .ref a8, .ref a9, .ref a10, .ref a11, .int u12, .int u13, .ref a14, .ref a15, .ref a16, .int u17, .ref a18, .ref a19, .ref a20, .int u21, .ref a22, .ref a23, .int u24, .ref a25, .ref a26, .int u27, .int u28, .int u29, .int u30])), (a8, .inl (k8, 8, .inl c8)), (a9, .inl (k9, 80, .inl c9)), (a10, .inl (k10, 80, .inl c10))]) sz)) (vp_Si (fun r9 => r9 = m_mloss u0 c8 c9 c10 p0 p1)) 0 0 (fun _ => False) := by
  refine Met.ofW (cc := b_Md_loss) (maxL := 6) (ret := (some .int)) (by decide) rfl ?_
  intro p e s m args below meth c s₁ B hml hv
  obtain ⟨rfl, hsz, hP, hK, hD0, hN, hO⟩ := hv
  have hx := B.exec
  have hb := B.bytes
  have hr := B.returns
  have hts := fun (w : Cond) (h : w ∈ cx_tbl) => atoms_spec (ws := ws_Md_loss) B.pre w (List.mem_cons_of_mem _ h)
  have hown : s.vm.findClass R_Md = some m.cls := findClass_of_methodNamed B.named
  have hlocks := B.notSynchronized
  subst hsz
  have hD := hD0.self (sz := s.heap.size)
  generalize hAe : va_A ([(h0, .inr (6, [.int u0, .ref a1, .int u2, .int u3, .ref a4, .ref a5, .ref a6, .ref a7, .ref a8, .ref a9, .ref a10, .ref a11, .int u12, .int u13, .ref a14, .ref a15, .ref a16, .int u17, .ref a18, .ref a19, .ref a20, .int u21, .ref a22, .ref a23, .int u24, .ref a25, .ref a26, .int u27, .int u28, .int u29, .int u30])), (a8, .inl (k8, 8, .inl c8)), (a9, .inl (k9, 80, .inl c9)), (a10, .inl (k10, 80, .inl c10))]) s.heap.size = A at hD hO
  have hA : ∀ q : Nat, s.heap.size ≤ q → A q := fun q h => by rw [← hAe]; exact Or.inr h
  have hS : va_S A s.heap s.heap [] := va_S.rf
  have hl := lv_entry ([.ref h0, .int p0, .int p1]) (n := 6) (Nat.le_of_ble_eq_true rfl)
  rw [lg_entry_eq]
  generalize (lg_sl ([.ref h0, .int p0, .int p1]) ++ List.replicate (6 - (lg_sl ([.ref h0, .int p0, .int p1])).length) Slot.unset).toArray = ls at hl ⊢
  have hl : lv_has ls 6 [(0, .ref h0), (1, .int p0), (2, .int p1)] := hl
  refine cx_q (fun Q hQ => ?_)
  refine lv_aload_n hx hb d_Md_loss_0 rfl (lv_at hl 0 rfl) ?_
  refine lv_iload_n hx hb d_Md_loss_1 rfl (lv_at hl 1 rfl) ?_
  have hPc := hP.sub (ws' := [(h0, .inr (6, [.int u0, .ref a1, .int u2, .int u3, .ref a4, .ref a5, .ref a6, .ref a7, .ref a8, .ref a9, .ref a10, .ref a11, .int u12, .int u13, .ref a14, .ref a15, .ref a16, .int u17, .ref a18, .ref a19, .ref a20, .int u21, .ref a22, .ref a23, .int u24, .ref a25, .ref a26, .int u27, .int u28, .int u29, .int u30]))]) [0] rfl
  have hDc := hD.sub (ws' := [(h0, .inr (6, [.int u0, .ref a1, .int u2, .int u3, .ref a4, .ref a5, .ref a6, .ref a7, .ref a8, .ref a9, .ref a10, .ref a11, .int u12, .int u13, .ref a14, .ref a15, .ref a16, .int u17, .ref a18, .ref a19, .ref a20, .int u21, .ref a22, .ref a23, .int u24, .ref a25, .ref a26, .int u27, .int u28, .int u29, .int u30]))]) [0] (by decide) rfl
  have hKc := hK.sub (tys' := []) [] rfl
  have hFc := va_free (wc := [(h0, .inr (6, [.int u0, .ref a1, .int u2, .int u3, .ref a4, .ref a5, .ref a6, .ref a7, .ref a8, .ref a9, .ref a10, .ref a11, .int u12, .int u13, .ref a14, .ref a15, .ref a16, .int u17, .ref a18, .ref a19, .ref a20, .int u21, .ref a22, .ref a23, .int u24, .ref a25, .ref a26, .int u27, .int u28, .int u29, .int u30]))]) hD hS hA [0] rfl
  refine vp_callSi (va_Run.run (va_runV (As := [.int p0]) (rest := [])  ⟨hx, hb, hml, hown, hts⟩ (c_Md_isCell l D h0 u0 a1 u2 u3 a4 a5 a6 a7 a8 a9 a10 a11 u12 u13 a14 a15 a16 u17 a18 a19 a20 u21 a22 a23 u24 a25 a26 u27 u28 u29 u30 p0 s.heap.size ) ⟨callB_of 1 hts cg_Md_isCell rfl rfl rfl (hts _ cw_10) (hts _ cw_844) (by decide +kernel) ⟨Nat.le_of_ble_eq_true rfl, Nat.le_of_ble_eq_true rfl⟩, hts _ cw_846, hts _ cs_16⟩ (cx_preV (C := R_Md) [.int p0] hPc hKc hDc hN hO hS hFc (ci := 6) (q0 := 0) rfl rfl rfl) rfl rfl hl.1 rfl (lv_room (Nat.le_of_ble_eq_true rfl)) d_Md_loss_2 ⟨Nat.le_of_ble_eq_true rfl, Nat.le_of_ble_eq_true rfl⟩)) (fun r z_1 => ?_)
  subst z_1
  refine lv_if_eq (tgt := 28) hx hb d_Md_loss_5 (by decide) (fun c_2 => ?_) (fun c_2 => ?_)
  · refine lv_iconst (v := (-1)) hx hb d_Md_loss_28 (by decide) ?_
    subst hQ
    exact W.iret (v := (-1)) hx hb hr (fun t ht hW => ⟨_, rfl, by simp [m_mloss, eq_true c_2], ht⟩) (fun q h => by cases h) d_Md_loss_29
  · refine lv_iload_n hx hb d_Md_loss_8 rfl (lv_at hl 2 rfl) ?_
    refine lv_i2l hx hb d_Md_loss_9 rfl ?_
    refine lv_lconst (v := 0) hx hb d_Md_loss_10 (by decide) ?_
    refine lv_lconst (v := 1) hx hb d_Md_loss_11 (by decide) ?_
    have hPc := hP.sub (ws' := []) [] rfl
    have hDc := hD.sub (ws' := []) [] (by decide) rfl
    have hKc := hK.sub (tys' := []) [] rfl
    have hFc := va_free (wc := []) hD hS hA [] rfl
    refine vp_callSi (va_Run.run (va_runS (As := [.long p1.toInt64, .long 0, .long 1]) (rest := [])  ⟨hx, hb, hml, hown, hts⟩ (c_Md_isIn l D p1.toInt64 0 1 s.heap.size ) ⟨callB_of 3 hts cg_Md_isIn rfl rfl rfl (hts _ cw_10) (hts _ cw_837) (by decide +kernel) ⟨Nat.le_of_ble_eq_true rfl, Nat.le_of_ble_eq_true rfl⟩, hts _ cw_838⟩ (cx_preS [.long p1.toInt64, .long 0, .long 1] hPc hKc hDc hN hO hS hFc) rfl rfl hl.1 rfl (lv_room (Nat.le_of_ble_eq_true rfl)) d_Md_loss_12 ⟨Nat.le_of_ble_eq_true rfl, Nat.le_of_ble_eq_true rfl⟩)) (fun r z_3 => ?_)
    subst z_3
    refine lv_if_eq (tgt := 28) hx hb d_Md_loss_15 (by decide) (fun c_4 => ?_) (fun c_4 => ?_)
    · refine lv_iconst (v := (-1)) hx hb d_Md_loss_28 (by decide) ?_
      subst hQ
      exact W.iret (v := (-1)) hx hb hr (fun t ht hW => ⟨_, rfl, by simp [m_mloss, eq_false c_2, eq_true c_4], ht⟩) (fun q h => by cases h) d_Md_loss_29
    · refine lv_aload_n hx hb d_Md_loss_18 rfl (lv_at hl 0 rfl) ?_
      refine va_get (D := D) (ci := 6) (v := .ref a8) (C := R_Md) (T := T_Md) (N := 31) hx hb hts in_Md hown hK hP 0 rfl rfl 8 (by decide) (hts _ cw_742) (fun _ h9 => h9) rfl d_Md_loss_19 ?_
      refine lv_iload_n hx hb d_Md_loss_22 rfl (lv_at hl 1 rfl) ?_
      refine va_iald hx hb hK hP 1 0 rfl rfl (md_ix c_2 hc) d_Md_loss_23 ?_
      refine lv_iconst (v := 2) hx hb d_Md_loss_24 (by decide) ?_
      refine lv_icmp_ge (tgt := 30) hx hb d_Md_loss_25 (by decide) (fun c_5 => ?_) (fun c_5 => ?_)
      · refine lv_bipush (v := 10) hx hb d_Md_loss_30 (by decide) ?_
        refine lv_iload_n hx hb d_Md_loss_32 rfl (lv_at hl 1 rfl) ?_
        refine lv_imul hx hb d_Md_loss_33 ?_
        refine lv_istore_n (lv' := [(3, .int (10 * p0)), (0, .ref h0), (1, .int p0), (2, .int p1)]) hx hb d_Md_loss_34 rfl hl (by decide) rfl (fun ls hl => ?_)
        refine lv_iload_n hx hb d_Md_loss_35 rfl (lv_at hl 0 rfl) ?_
        refine lv_aload_n hx hb d_Md_loss_36 rfl (lv_at hl 1 rfl) ?_
        refine va_get (D := D) (ci := 6) (v := .ref a8) (C := R_Md) (T := T_Md) (N := 31) hx hb hts in_Md hown hK hP 0 rfl rfl 8 (by decide) (hts _ cw_742) (fun _ h9 => h9) rfl d_Md_loss_37 ?_
        refine lv_iload_n hx hb d_Md_loss_40 rfl (lv_at hl 2 rfl) ?_
        refine va_iald hx hb hK hP 1 0 rfl rfl (md_ix c_2 hc) d_Md_loss_41 ?_
        refine lv_iadd hx hb d_Md_loss_42 ?_
        refine lv_iconst (v := 1) hx hb d_Md_loss_43 (by decide) ?_
        refine lv_isub hx hb d_Md_loss_44 ?_
        refine lv_istore (lv' := [(4, .int (((10 * p0) + (c8 p0.toNatClampNeg)) - 1)), (3, .int (10 * p0)), (0, .ref h0), (1, .int p0), (2, .int p1)]) hx hb d_Md_loss_45 hl (by decide) rfl (fun ls hl => ?_)
        refine lv_aload_n hx hb d_Md_loss_47 rfl (lv_at hl 2 rfl) ?_
        refine va_get (D := D) (ci := 6) (v := .ref a10) (C := R_Md) (T := T_Md) (N := 31) hx hb hts in_Md hown hK hP 0 rfl rfl 10 (by decide) (hts _ cw_744) (fun _ h9 => h9) rfl d_Md_loss_48 ?_
        refine lv_iload_n hx hb d_Md_loss_51 rfl (lv_at hl 1 rfl) ?_
        refine va_iald hx hb hK hP 3 2 rfl rfl (md_ix10f c_2 hc) d_Md_loss_52 ?_
        refine lv_aload_n hx hb d_Md_loss_53 rfl (lv_at hl 2 rfl) ?_
        refine va_get (D := D) (ci := 6) (v := .ref a10) (C := R_Md) (T := T_Md) (N := 31) hx hb hts in_Md hown hK hP 0 rfl rfl 10 (by decide) (hts _ cw_744) (fun _ h9 => h9) rfl d_Md_loss_54 ?_
        refine lv_iload hx hb d_Md_loss_57 (lv_at hl 0 rfl) ?_
        refine va_iald hx hb hK hP 3 2 rfl rfl (md_ix10p c_2 hc hrc (md_two c_5)) d_Md_loss_59 ?_
        refine lv_isub hx hb d_Md_loss_60 ?_
        refine lv_istore (lv' := [(5, .int ((c10 ((10 * p0).toNatClampNeg)) - (c10 ((((10 * p0) + (c8 p0.toNatClampNeg)) - 1).toNatClampNeg)))), (4, .int (((10 * p0) + (c8 p0.toNatClampNeg)) - 1)), (3, .int (10 * p0)), (0, .ref h0), (1, .int p0), (2, .int p1)]) hx hb d_Md_loss_61 hl (by decide) rfl (fun ls hl => ?_)
        refine lv_iload hx hb d_Md_loss_63 (lv_at hl 0 rfl) ?_
        refine lv_if_ge (tgt := 72) hx hb d_Md_loss_65 (by decide) (fun c_6 => ?_) (fun c_6 => ?_)
        · refine lv_iload hx hb d_Md_loss_72 (lv_at hl 0 rfl) ?_
          refine lv_aload_n hx hb d_Md_loss_74 rfl (lv_at hl 3 rfl) ?_
          refine va_get (D := D) (ci := 6) (v := .ref a9) (C := R_Md) (T := T_Md) (N := 31) hx hb hts in_Md hown hK hP 0 rfl rfl 9 (by decide) (hts _ cw_743) (fun _ h9 => h9) rfl d_Md_loss_75 ?_
          refine lv_iload hx hb d_Md_loss_78 (lv_at hl 1 rfl) ?_
          refine va_iald hx hb hK hP 2 1 rfl rfl (md_ix10p c_2 hc hrc (md_two c_5)) d_Md_loss_80 ?_
          refine lv_aload_n hx hb d_Md_loss_81 rfl (lv_at hl 3 rfl) ?_
          refine va_get (D := D) (ci := 6) (v := .ref a9) (C := R_Md) (T := T_Md) (N := 31) hx hb hts in_Md hown hK hP 0 rfl rfl 9 (by decide) (hts _ cw_743) (fun _ h9 => h9) rfl d_Md_loss_82 ?_
          refine lv_iload_n hx hb d_Md_loss_85 rfl (lv_at hl 2 rfl) ?_
          refine va_iald hx hb hK hP 2 1 rfl rfl (md_ix10f c_2 hc) d_Md_loss_86 ?_
          refine lv_isub hx hb d_Md_loss_87 ?_
          refine lv_iload_n hx hb d_Md_loss_88 rfl (lv_at hl 5 rfl) ?_
          have hPc := hP.sub (ws' := []) [] rfl
          have hDc := hD.sub (ws' := []) [] (by decide) rfl
          have hKc := hK.sub (tys' := []) [] rfl
          have hFc := va_free (wc := []) hD hS hA [] rfl
          refine vp_callSi (va_Run.run (va_runS (As := [.int ((c10 ((10 * p0).toNatClampNeg)) - (c10 ((((10 * p0) + (c8 p0.toNatClampNeg)) - 1).toNatClampNeg))), .int ((c9 ((((10 * p0) + (c8 p0.toNatClampNeg)) - 1).toNatClampNeg)) - (c9 ((10 * p0).toNatClampNeg))), .int p1]) (rest := [])  ⟨hx, hb, hml, hown, hts⟩ (c_Md_partOf l D ((c10 ((10 * p0).toNatClampNeg)) - (c10 ((((10 * p0) + (c8 p0.toNatClampNeg)) - 1).toNatClampNeg))) ((c9 ((((10 * p0) + (c8 p0.toNatClampNeg)) - 1).toNatClampNeg)) - (c9 ((10 * p0).toNatClampNeg))) p1 s.heap.size (Int32.not_lt.mpr c_6) ((md_days c_2 hc hrc hdy c_5).1) ((md_days c_2 hc hrc hdy c_5).2)) ⟨callB_of 3 hts cg_Md_partOf rfl rfl rfl (hts _ cw_10) (hts _ cw_880) (by decide +kernel) ⟨Nat.le_of_ble_eq_true rfl, Nat.le_of_ble_eq_true rfl⟩, hts _ cw_881⟩ (cx_preS [.int ((c10 ((10 * p0).toNatClampNeg)) - (c10 ((((10 * p0) + (c8 p0.toNatClampNeg)) - 1).toNatClampNeg))), .int ((c9 ((((10 * p0) + (c8 p0.toNatClampNeg)) - 1).toNatClampNeg)) - (c9 ((10 * p0).toNatClampNeg))), .int p1] hPc hKc hDc hN hO hS hFc) rfl rfl hl.1 rfl (lv_room (Nat.le_of_ble_eq_true rfl)) d_Md_loss_89 ⟨Nat.le_of_ble_eq_true rfl, Nat.le_of_ble_eq_true rfl⟩)) (fun r z_7 => ?_)
          subst z_7
          subst hQ
          exact W.iret (v := m_mpart ((c10 ((10 * p0).toNatClampNeg)) - (c10 ((((10 * p0) + (c8 p0.toNatClampNeg)) - 1).toNatClampNeg))) ((c9 ((((10 * p0) + (c8 p0.toNatClampNeg)) - 1).toNatClampNeg)) - (c9 ((10 * p0).toNatClampNeg))) p1) hx hb hr (fun t ht hW => ⟨_, rfl, by simp [m_mloss, eq_false c_2, eq_false c_4, eq_true c_5, eq_true c_6], ht⟩) (fun q h => by cases h) d_Md_loss_92
        · refine lv_iconst (v := 0) hx hb d_Md_loss_68 (by decide) ?_
          refine lv_goto (tgt := 74) hx hb d_Md_loss_69 (by decide) ?_
          refine lv_aload_n hx hb d_Md_loss_74 rfl (lv_at hl 3 rfl) ?_
          refine va_get (D := D) (ci := 6) (v := .ref a9) (C := R_Md) (T := T_Md) (N := 31) hx hb hts in_Md hown hK hP 0 rfl rfl 9 (by decide) (hts _ cw_743) (fun _ h9 => h9) rfl d_Md_loss_75 ?_
          refine lv_iload hx hb d_Md_loss_78 (lv_at hl 1 rfl) ?_
          refine va_iald hx hb hK hP 2 1 rfl rfl (md_ix10p c_2 hc hrc (md_two c_5)) d_Md_loss_80 ?_
          refine lv_aload_n hx hb d_Md_loss_81 rfl (lv_at hl 3 rfl) ?_
          refine va_get (D := D) (ci := 6) (v := .ref a9) (C := R_Md) (T := T_Md) (N := 31) hx hb hts in_Md hown hK hP 0 rfl rfl 9 (by decide) (hts _ cw_743) (fun _ h9 => h9) rfl d_Md_loss_82 ?_
          refine lv_iload_n hx hb d_Md_loss_85 rfl (lv_at hl 2 rfl) ?_
          refine va_iald hx hb hK hP 2 1 rfl rfl (md_ix10f c_2 hc) d_Md_loss_86 ?_
          refine lv_isub hx hb d_Md_loss_87 ?_
          refine lv_iload_n hx hb d_Md_loss_88 rfl (lv_at hl 5 rfl) ?_
          have hPc := hP.sub (ws' := []) [] rfl
          have hDc := hD.sub (ws' := []) [] (by decide) rfl
          have hKc := hK.sub (tys' := []) [] rfl
          have hFc := va_free (wc := []) hD hS hA [] rfl
          refine vp_callSi (va_Run.run (va_runS (As := [.int 0, .int ((c9 ((((10 * p0) + (c8 p0.toNatClampNeg)) - 1).toNatClampNeg)) - (c9 ((10 * p0).toNatClampNeg))), .int p1]) (rest := [])  ⟨hx, hb, hml, hown, hts⟩ (c_Md_partOf l D 0 ((c9 ((((10 * p0) + (c8 p0.toNatClampNeg)) - 1).toNatClampNeg)) - (c9 ((10 * p0).toNatClampNeg))) p1 s.heap.size (by decide) ((md_days c_2 hc hrc hdy c_5).1) ((md_days c_2 hc hrc hdy c_5).2)) ⟨callB_of 3 hts cg_Md_partOf rfl rfl rfl (hts _ cw_10) (hts _ cw_880) (by decide +kernel) ⟨Nat.le_of_ble_eq_true rfl, Nat.le_of_ble_eq_true rfl⟩, hts _ cw_881⟩ (cx_preS [.int 0, .int ((c9 ((((10 * p0) + (c8 p0.toNatClampNeg)) - 1).toNatClampNeg)) - (c9 ((10 * p0).toNatClampNeg))), .int p1] hPc hKc hDc hN hO hS hFc) rfl rfl hl.1 rfl (lv_room (Nat.le_of_ble_eq_true rfl)) d_Md_loss_89 ⟨Nat.le_of_ble_eq_true rfl, Nat.le_of_ble_eq_true rfl⟩)) (fun r z_8 => ?_)
          subst z_8
          subst hQ
          exact W.iret (v := m_mpart 0 ((c9 ((((10 * p0) + (c8 p0.toNatClampNeg)) - 1).toNatClampNeg)) - (c9 ((10 * p0).toNatClampNeg))) p1) hx hb hr (fun t ht hW => ⟨_, rfl, by simp [m_mloss, eq_false c_2, eq_false c_4, eq_true c_5, eq_false c_6], ht⟩) (fun q h => by cases h) d_Md_loss_92
      · refine lv_iconst (v := (-1)) hx hb d_Md_loss_28 (by decide) ?_
        subst hQ
        exact W.iret (v := (-1)) hx hb hr (fun t ht hW => ⟨_, rfl, by simp [m_mloss, eq_false c_2, eq_false c_4, eq_false c_5], ht⟩) (fun q h => by cases h) d_Md_loss_29

set_option maxHeartbeats 4000000 in
set_option maxRecDepth 100000 in
theorem c_Md_isOpen (l : Launch) (D : va_G)  (h0 : Nat) (u0 : Int32) (a1 : Nat) (u2 : Int32) (u3 : Int32) (a4 : Nat) (a5 : Nat) (a6 : Nat) (a7 : Nat) (a8 : Nat) (a9 : Nat) (a10 : Nat) (a11 : Nat) (u12 : Int32) (u13 : Int32) (a14 : Nat) (a15 : Nat) (a16 : Nat) (u17 : Int32) (a18 : Nat) (a19 : Nat) (a20 : Nat) (u21 : Int32) (a22 : Nat) (a23 : Nat) (u24 : Int32) (a25 : Nat) (a26 : Nat) (u27 : Int32) (u28 : Int32) (u29 : Int32) (u30 : Int32) (k4 : ClassId) (k8 : ClassId) (c4 : Nat → Int32) (c8 : Nat → Int32) (p0 : Int32) (sz : Nat) (hx8 : vp_in p0 8) : Met l y_Md_isOpen ws_Md_isOpen ({ frames := 0, cells := 0, slots := 0, locals := 0 }) (va_Pc [.ref h0, .int p0] (cx_pre D [(k4, .int), (k8, .int)] ([(h0, .inr (6, [.int u0, .ref a1, .int u2, .int u3, .ref a4, .ref a5, .ref a6, .ref a7, .ref a8, .ref a9, .ref a10, .ref a11, .int u12, .int u13, .ref a14, .ref a15, .ref a16, .int u17, .ref a18, .ref a19, .ref a20, .int u21, .ref a22, .ref a23, .int u24, .ref a25, .ref a26, .int u27, .int u28, .int u29, .int u30])), (a4, .inl (k4, 8, .inl c4)), (a8, .inl (k8, 8, .inl c8))]) sz)) (vp_Si (fun r9 => r9 = m_mopen c4 c8 p0)) 0 0 (fun _ => False) := by
  refine Met.ofW (cc := b_Md_isOpen) (maxL := 2) (ret := (some .boolean)) (by decide) rfl ?_
  intro p e s m args below meth c s₁ B hml hv
  obtain ⟨rfl, hsz, hP, hK, hD0, hN, hO⟩ := hv
  have hx := B.exec
  have hb := B.bytes
  have hr := B.returns
  have hts := fun (w : Cond) (h : w ∈ cx_tbl) => atoms_spec (ws := ws_Md_isOpen) B.pre w (List.mem_cons_of_mem _ h)
  have hown : s.vm.findClass R_Md = some m.cls := findClass_of_methodNamed B.named
  have hlocks := B.notSynchronized
  subst hsz
  have hD := hD0.self (sz := s.heap.size)
  generalize hAe : va_A ([(h0, .inr (6, [.int u0, .ref a1, .int u2, .int u3, .ref a4, .ref a5, .ref a6, .ref a7, .ref a8, .ref a9, .ref a10, .ref a11, .int u12, .int u13, .ref a14, .ref a15, .ref a16, .int u17, .ref a18, .ref a19, .ref a20, .int u21, .ref a22, .ref a23, .int u24, .ref a25, .ref a26, .int u27, .int u28, .int u29, .int u30])), (a4, .inl (k4, 8, .inl c4)), (a8, .inl (k8, 8, .inl c8))]) s.heap.size = A at hD hO
  have hA : ∀ q : Nat, s.heap.size ≤ q → A q := fun q h => by rw [← hAe]; exact Or.inr h
  have hS : va_S A s.heap s.heap [] := va_S.rf
  have hl := lv_entry ([.ref h0, .int p0]) (n := 2) (Nat.le_of_ble_eq_true rfl)
  rw [lg_entry_eq]
  generalize (lg_sl ([.ref h0, .int p0]) ++ List.replicate (2 - (lg_sl ([.ref h0, .int p0])).length) Slot.unset).toArray = ls at hl ⊢
  have hl : lv_has ls 2 [(0, .ref h0), (1, .int p0)] := hl
  refine lv_aload_n hx hb d_Md_isOpen_0 rfl (lv_at hl 0 rfl) ?_
  refine va_get (D := D) (ci := 6) (v := .ref a4) (C := R_Md) (T := T_Md) (N := 31) hx hb hts in_Md hown hK hP 0 rfl rfl 4 (by decide) (hts _ cw_738) (fun _ h9 => h9) rfl d_Md_isOpen_1 ?_
  refine lv_iload_n hx hb d_Md_isOpen_4 rfl (lv_at hl 1 rfl) ?_
  refine va_iald hx hb hK hP 1 0 rfl rfl (hx8) d_Md_isOpen_5 ?_
  refine lv_if_eq (tgt := 18) hx hb d_Md_isOpen_6 (by decide) (fun c_1 => ?_) (fun c_1 => ?_)
  · refine lv_iconst (v := 1) hx hb d_Md_isOpen_18 (by decide) ?_
    refine lv_goto (tgt := 23) hx hb d_Md_isOpen_19 (by decide) ?_
    exact W.zret (v := 1) hx hb hr (rfl) (fun t ht hW => ⟨_, rfl, by simp [m_mopen, eq_true c_1], ht⟩) (fun q h => by cases h) d_Md_isOpen_23
  · refine lv_aload_n hx hb d_Md_isOpen_9 rfl (lv_at hl 0 rfl) ?_
    refine va_get (D := D) (ci := 6) (v := .ref a8) (C := R_Md) (T := T_Md) (N := 31) hx hb hts in_Md hown hK hP 0 rfl rfl 8 (by decide) (hts _ cw_742) (fun _ h9 => h9) rfl d_Md_isOpen_10 ?_
    refine lv_iload_n hx hb d_Md_isOpen_13 rfl (lv_at hl 1 rfl) ?_
    refine va_iald hx hb hK hP 2 1 rfl rfl (hx8) d_Md_isOpen_14 ?_
    refine lv_if_ne (tgt := 22) hx hb d_Md_isOpen_15 (by decide) (fun c_2 => ?_) (fun c_2 => ?_)
    · refine lv_iconst (v := 0) hx hb d_Md_isOpen_22 (by decide) ?_
      exact W.zret (v := 0) hx hb hr (rfl) (fun t ht hW => ⟨_, rfl, by simp [m_mopen, eq_false c_1, eq_false c_2], ht⟩) (fun q h => by cases h) d_Md_isOpen_23
    · refine lv_iconst (v := 1) hx hb d_Md_isOpen_18 (by decide) ?_
      refine lv_goto (tgt := 23) hx hb d_Md_isOpen_19 (by decide) ?_
      exact W.zret (v := 1) hx hb hr (rfl) (fun t ht hW => ⟨_, rfl, by simp [m_mopen, eq_false c_1, eq_true c_2], ht⟩) (fun q h => by cases h) d_Md_isOpen_23

set_option maxHeartbeats 4000000 in
set_option maxRecDepth 100000 in
theorem c_Md_lastRest (l : Launch) (D : va_G)  (h0 : Nat) (u0 : Int32) (a1 : Nat) (u2 : Int32) (u3 : Int32) (a4 : Nat) (a5 : Nat) (a6 : Nat) (a7 : Nat) (a8 : Nat) (a9 : Nat) (a10 : Nat) (a11 : Nat) (u12 : Int32) (u13 : Int32) (a14 : Nat) (a15 : Nat) (a16 : Nat) (u17 : Int32) (a18 : Nat) (a19 : Nat) (a20 : Nat) (u21 : Int32) (a22 : Nat) (a23 : Nat) (u24 : Int32) (a25 : Nat) (a26 : Nat) (u27 : Int32) (u28 : Int32) (u29 : Int32) (u30 : Int32) (k8 : ClassId) (k10 : ClassId) (c8 : Nat → Int32) (c10 : Nat → Int32) (p0 : Int32) (sz : Nat) (hx8 : vp_in p0 8) (hrc : ∀ i, i < 8 → ¬ c8 i < 0 ∧ c8 i ≤ 10) (hpos : ¬ c8 p0.toNatClampNeg ≤ 0) : Met l y_Md_lastRest ws_Md_lastRest ({ frames := 0, cells := 0, slots := 0, locals := 0 }) (va_Pc [.ref h0, .int p0] (cx_pre D [(k8, .int), (k10, .int)] ([(h0, .inr (6, [.int u0, .ref a1, .int u2, .int u3, .ref a4, .ref a5, .ref a6, .ref a7, .ref a8, .ref a9, .ref a10, .ref a11, .int u12, .int u13, .ref a14, .ref a15, .ref a16, .int u17, .ref a18, .ref a19, .ref a20, .int u21, .ref a22, .ref a23, .int u24, .ref a25, .ref a26, .int u27, .int u28, .int u29, .int u30])), (a8, .inl (k8, 8, .inl c8)), (a10, .inl (k10, 80, .inl c10))]) sz)) (vp_Si (fun r9 => r9 = m_lastRest c8 c10 p0)) 0 0 (fun _ => False) := by
  refine Met.ofW (cc := b_Md_lastRest) (maxL := 2) (ret := (some .int)) (by decide) rfl ?_
  intro p e s m args below meth c s₁ B hml hv
  obtain ⟨rfl, hsz, hP, hK, hD0, hN, hO⟩ := hv
  have hx := B.exec
  have hb := B.bytes
  have hr := B.returns
  have hts := fun (w : Cond) (h : w ∈ cx_tbl) => atoms_spec (ws := ws_Md_lastRest) B.pre w (List.mem_cons_of_mem _ h)
  have hown : s.vm.findClass R_Md = some m.cls := findClass_of_methodNamed B.named
  have hlocks := B.notSynchronized
  subst hsz
  have hD := hD0.self (sz := s.heap.size)
  generalize hAe : va_A ([(h0, .inr (6, [.int u0, .ref a1, .int u2, .int u3, .ref a4, .ref a5, .ref a6, .ref a7, .ref a8, .ref a9, .ref a10, .ref a11, .int u12, .int u13, .ref a14, .ref a15, .ref a16, .int u17, .ref a18, .ref a19, .ref a20, .int u21, .ref a22, .ref a23, .int u24, .ref a25, .ref a26, .int u27, .int u28, .int u29, .int u30])), (a8, .inl (k8, 8, .inl c8)), (a10, .inl (k10, 80, .inl c10))]) s.heap.size = A at hD hO
  have hA : ∀ q : Nat, s.heap.size ≤ q → A q := fun q h => by rw [← hAe]; exact Or.inr h
  have hS : va_S A s.heap s.heap [] := va_S.rf
  have hl := lv_entry ([.ref h0, .int p0]) (n := 2) (Nat.le_of_ble_eq_true rfl)
  rw [lg_entry_eq]
  generalize (lg_sl ([.ref h0, .int p0]) ++ List.replicate (2 - (lg_sl ([.ref h0, .int p0])).length) Slot.unset).toArray = ls at hl ⊢
  have hl : lv_has ls 2 [(0, .ref h0), (1, .int p0)] := hl
  refine lv_aload_n hx hb d_Md_lastRest_0 rfl (lv_at hl 0 rfl) ?_
  refine va_get (D := D) (ci := 6) (v := .ref a10) (C := R_Md) (T := T_Md) (N := 31) hx hb hts in_Md hown hK hP 0 rfl rfl 10 (by decide) (hts _ cw_744) (fun _ h9 => h9) rfl d_Md_lastRest_1 ?_
  refine lv_bipush (v := 10) hx hb d_Md_lastRest_4 (by decide) ?_
  refine lv_iload_n hx hb d_Md_lastRest_6 rfl (lv_at hl 1 rfl) ?_
  refine lv_imul hx hb d_Md_lastRest_7 ?_
  refine lv_aload_n hx hb d_Md_lastRest_8 rfl (lv_at hl 0 rfl) ?_
  refine va_get (D := D) (ci := 6) (v := .ref a8) (C := R_Md) (T := T_Md) (N := 31) hx hb hts in_Md hown hK hP 0 rfl rfl 8 (by decide) (hts _ cw_742) (fun _ h9 => h9) rfl d_Md_lastRest_9 ?_
  refine lv_iload_n hx hb d_Md_lastRest_12 rfl (lv_at hl 1 rfl) ?_
  refine va_iald hx hb hK hP 1 0 rfl rfl (hx8) d_Md_lastRest_13 ?_
  refine lv_iadd hx hb d_Md_lastRest_14 ?_
  refine lv_iconst (v := 1) hx hb d_Md_lastRest_15 (by decide) ?_
  refine lv_isub hx hb d_Md_lastRest_16 ?_
  refine va_iald hx hb hK hP 2 1 rfl rfl (md_ix10q hx8 hrc hpos) d_Md_lastRest_17 ?_
  exact W.iret (v := c10 ((((10 * p0) + (c8 p0.toNatClampNeg)) - 1).toNatClampNeg)) hx hb hr (fun t ht hW => ⟨_, rfl, rfl, ht⟩) (fun q h => by cases h) d_Md_lastRest_18

set_option maxHeartbeats 4000000 in
set_option maxRecDepth 100000 in
theorem c_Md_uns (l : Launch) (D : va_G)  (h0 : Nat) (u0 : Int32) (a1 : Nat) (u2 : Int32) (u3 : Int32) (a4 : Nat) (a5 : Nat) (a6 : Nat) (a7 : Nat) (a8 : Nat) (a9 : Nat) (a10 : Nat) (a11 : Nat) (u12 : Int32) (u13 : Int32) (a14 : Nat) (a15 : Nat) (a16 : Nat) (u17 : Int32) (a18 : Nat) (a19 : Nat) (a20 : Nat) (u21 : Int32) (a22 : Nat) (a23 : Nat) (u24 : Int32) (a25 : Nat) (a26 : Nat) (u27 : Int32) (u28 : Int32) (u29 : Int32) (u30 : Int32) (k4 : ClassId) (k7 : ClassId) (k8 : ClassId) (k10 : ClassId) (c4 : Nat → Int32) (c7 : Nat → Int32) (c8 : Nat → Int32) (c10 : Nat → Int32) (p0 : Int32) (sz : Nat) (hc : u0 ≤ 8) (hst : ∀ i, i < 8 → ¬ c4 i < 0 ∧ c4 i ≤ 30) (hrc : ∀ i, i < 8 → ¬ c8 i < 0 ∧ c8 i ≤ 10) : Met l y_Md_uns ws_Md_uns ({ frames := 1, cells := 0, slots := 0, locals := 21 }) (va_Pc [.ref h0, .int p0] (cx_pre D [(k4, .int), (k7, .int), (k8, .int), (k10, .int)] ([(h0, .inr (6, [.int u0, .ref a1, .int u2, .int u3, .ref a4, .ref a5, .ref a6, .ref a7, .ref a8, .ref a9, .ref a10, .ref a11, .int u12, .int u13, .ref a14, .ref a15, .ref a16, .int u17, .ref a18, .ref a19, .ref a20, .int u21, .ref a22, .ref a23, .int u24, .ref a25, .ref a26, .int u27, .int u28, .int u29, .int u30])), (a4, .inl (k4, 8, .inl c4)), (a7, .inl (k7, 240, .inl c7)), (a8, .inl (k8, 8, .inl c8)), (a10, .inl (k10, 80, .inl c10))]) sz)) (vp_Si (fun r9 => r9 = m_muns u0 c4 c7 c8 c10 p0)) 0 0 (fun _ => False) := by
  refine Met.ofW (cc := b_Md_uns) (maxL := 4) (ret := (some .boolean)) (by decide) rfl ?_
  intro p e s m args below meth c s₁ B hml hv
  obtain ⟨rfl, hsz, hP, hK, hD0, hN, hO⟩ := hv
  have hx := B.exec
  have hb := B.bytes
  have hr := B.returns
  have hts := fun (w : Cond) (h : w ∈ cx_tbl) => atoms_spec (ws := ws_Md_uns) B.pre w (List.mem_cons_of_mem _ h)
  have hown : s.vm.findClass R_Md = some m.cls := findClass_of_methodNamed B.named
  have hlocks := B.notSynchronized
  subst hsz
  have hD := hD0.self (sz := s.heap.size)
  generalize hAe : va_A ([(h0, .inr (6, [.int u0, .ref a1, .int u2, .int u3, .ref a4, .ref a5, .ref a6, .ref a7, .ref a8, .ref a9, .ref a10, .ref a11, .int u12, .int u13, .ref a14, .ref a15, .ref a16, .int u17, .ref a18, .ref a19, .ref a20, .int u21, .ref a22, .ref a23, .int u24, .ref a25, .ref a26, .int u27, .int u28, .int u29, .int u30])), (a4, .inl (k4, 8, .inl c4)), (a7, .inl (k7, 240, .inl c7)), (a8, .inl (k8, 8, .inl c8)), (a10, .inl (k10, 80, .inl c10))]) s.heap.size = A at hD hO
  have hA : ∀ q : Nat, s.heap.size ≤ q → A q := fun q h => by rw [← hAe]; exact Or.inr h
  have hS : va_S A s.heap s.heap [] := va_S.rf
  have hl := lv_entry ([.ref h0, .int p0]) (n := 4) (Nat.le_of_ble_eq_true rfl)
  rw [lg_entry_eq]
  generalize (lg_sl ([.ref h0, .int p0]) ++ List.replicate (4 - (lg_sl ([.ref h0, .int p0])).length) Slot.unset).toArray = ls at hl ⊢
  have hl : lv_has ls 4 [(0, .ref h0), (1, .int p0)] := hl
  refine lv_aload_n hx hb d_Md_uns_0 rfl (lv_at hl 0 rfl) ?_
  refine lv_iload_n hx hb d_Md_uns_1 rfl (lv_at hl 1 rfl) ?_
  have hPc := hP.sub (ws' := [(h0, .inr (6, [.int u0, .ref a1, .int u2, .int u3, .ref a4, .ref a5, .ref a6, .ref a7, .ref a8, .ref a9, .ref a10, .ref a11, .int u12, .int u13, .ref a14, .ref a15, .ref a16, .int u17, .ref a18, .ref a19, .ref a20, .int u21, .ref a22, .ref a23, .int u24, .ref a25, .ref a26, .int u27, .int u28, .int u29, .int u30]))]) [0] rfl
  have hDc := hD.sub (ws' := [(h0, .inr (6, [.int u0, .ref a1, .int u2, .int u3, .ref a4, .ref a5, .ref a6, .ref a7, .ref a8, .ref a9, .ref a10, .ref a11, .int u12, .int u13, .ref a14, .ref a15, .ref a16, .int u17, .ref a18, .ref a19, .ref a20, .int u21, .ref a22, .ref a23, .int u24, .ref a25, .ref a26, .int u27, .int u28, .int u29, .int u30]))]) [0] (by decide) rfl
  have hKc := hK.sub (tys' := []) [] rfl
  have hFc := va_free (wc := [(h0, .inr (6, [.int u0, .ref a1, .int u2, .int u3, .ref a4, .ref a5, .ref a6, .ref a7, .ref a8, .ref a9, .ref a10, .ref a11, .int u12, .int u13, .ref a14, .ref a15, .ref a16, .int u17, .ref a18, .ref a19, .ref a20, .int u21, .ref a22, .ref a23, .int u24, .ref a25, .ref a26, .int u27, .int u28, .int u29, .int u30]))]) hD hS hA [0] rfl
  refine vp_callSi (va_Run.run (va_runV (As := [.int p0]) (rest := [])  ⟨hx, hb, hml, hown, hts⟩ (c_Md_isCell l D h0 u0 a1 u2 u3 a4 a5 a6 a7 a8 a9 a10 a11 u12 u13 a14 a15 a16 u17 a18 a19 a20 u21 a22 a23 u24 a25 a26 u27 u28 u29 u30 p0 s.heap.size ) ⟨callB_of 1 hts cg_Md_isCell rfl rfl rfl (hts _ cw_10) (hts _ cw_844) (by decide +kernel) ⟨Nat.le_of_ble_eq_true rfl, Nat.le_of_ble_eq_true rfl⟩, hts _ cw_846, hts _ cs_16⟩ (cx_preV (C := R_Md) [.int p0] hPc hKc hDc hN hO hS hFc (ci := 6) (q0 := 0) rfl rfl rfl) rfl rfl hl.1 rfl (lv_room (Nat.le_of_ble_eq_true rfl)) d_Md_uns_2 ⟨Nat.le_of_ble_eq_true rfl, Nat.le_of_ble_eq_true rfl⟩)) (fun r z_1 => ?_)
  subst z_1
  refine lv_if_ne (tgt := 10) hx hb d_Md_uns_5 (by decide) (fun c_2 => ?_) (fun c_2 => ?_)
  · refine lv_aload_n hx hb d_Md_uns_10 rfl (lv_at hl 0 rfl) ?_
    refine va_get (D := D) (ci := 6) (v := .ref a8) (C := R_Md) (T := T_Md) (N := 31) hx hb hts in_Md hown hK hP 0 rfl rfl 8 (by decide) (hts _ cw_742) (fun _ h9 => h9) rfl d_Md_uns_11 ?_
    refine lv_iload_n hx hb d_Md_uns_14 rfl (lv_at hl 1 rfl) ?_
    refine va_iald hx hb hK hP 3 2 rfl rfl (md_ix c_2 hc) d_Md_uns_15 ?_
    refine lv_if_le (tgt := 45) hx hb d_Md_uns_16 (by decide) (fun c_3 => ?_) (fun c_3 => ?_)
    · refine lv_iconst (v := 0) hx hb d_Md_uns_45 (by decide) ?_
      refine lv_istore_n (lv' := [(2, .int 0), (0, .ref h0), (1, .int p0)]) hx hb d_Md_uns_46 rfl hl (by decide) rfl (fun ls hl => ?_)
      refine lv_aload_n hx hb d_Md_uns_47 rfl (lv_at hl 1 rfl) ?_
      refine va_get (D := D) (ci := 6) (v := .ref a4) (C := R_Md) (T := T_Md) (N := 31) hx hb hts in_Md hown hK hP 0 rfl rfl 4 (by decide) (hts _ cw_738) (fun _ h9 => h9) rfl d_Md_uns_48 ?_
      refine lv_iload_n hx hb d_Md_uns_51 rfl (lv_at hl 2 rfl) ?_
      refine va_iald hx hb hK hP 1 0 rfl rfl (md_ix c_2 hc) d_Md_uns_52 ?_
      refine lv_if_le (tgt := 84) hx hb d_Md_uns_53 (by decide) (fun c_4 => ?_) (fun c_4 => ?_)
      · refine lv_iconst (v := 0) hx hb d_Md_uns_84 (by decide) ?_
        refine lv_istore_n (lv' := [(3, .int 0), (2, .int 0), (0, .ref h0), (1, .int p0)]) hx hb d_Md_uns_85 rfl hl (by decide) rfl (fun ls hl => ?_)
        refine lv_iload_n hx hb d_Md_uns_86 rfl (lv_at hl 1 rfl) ?_
        refine lv_if_ne (tgt := 94) hx hb d_Md_uns_87 (by decide) (fun c_5 => ?_) (fun c_5 => ?_)
        · exact absurd c_5 (by decide)
        · refine lv_iload_n hx hb d_Md_uns_90 rfl (lv_at hl 0 rfl) ?_
          refine lv_if_eq (tgt := 98) hx hb d_Md_uns_91 (by decide) (fun c_6 => ?_) (fun c_6 => ?_)
          · refine lv_iconst (v := 0) hx hb d_Md_uns_98 (by decide) ?_
            exact W.zret (v := 0) hx hb hr (rfl) (fun t ht hW => ⟨_, rfl, by simp [m_muns, eq_false c_2, eq_true c_3, eq_true c_4], ht⟩) (fun q h => by cases h) d_Md_uns_99
          · exact absurd c_6 (by decide)
      · refine lv_aload_n hx hb d_Md_uns_56 rfl (lv_at hl 1 rfl) ?_
        refine va_get (D := D) (ci := 6) (v := .ref a7) (C := R_Md) (T := T_Md) (N := 31) hx hb hts in_Md hown hK hP 0 rfl rfl 7 (by decide) (hts _ cw_741) (fun _ h9 => h9) rfl d_Md_uns_57 ?_
        refine lv_bipush (v := 30) hx hb d_Md_uns_60 (by decide) ?_
        refine lv_iload_n hx hb d_Md_uns_62 rfl (lv_at hl 2 rfl) ?_
        refine lv_imul hx hb d_Md_uns_63 ?_
        refine lv_aload_n hx hb d_Md_uns_64 rfl (lv_at hl 1 rfl) ?_
        refine va_get (D := D) (ci := 6) (v := .ref a4) (C := R_Md) (T := T_Md) (N := 31) hx hb hts in_Md hown hK hP 0 rfl rfl 4 (by decide) (hts _ cw_738) (fun _ h9 => h9) rfl d_Md_uns_65 ?_
        refine lv_iload_n hx hb d_Md_uns_68 rfl (lv_at hl 2 rfl) ?_
        refine va_iald hx hb hK hP 1 0 rfl rfl (md_ix c_2 hc) d_Md_uns_69 ?_
        refine lv_iadd hx hb d_Md_uns_70 ?_
        refine lv_iconst (v := 1) hx hb d_Md_uns_71 (by decide) ?_
        refine lv_isub hx hb d_Md_uns_72 ?_
        refine va_iald hx hb hK hP 2 1 rfl rfl (md_ix30p (md_ix c_2 hc) hst c_4) d_Md_uns_73 ?_
        refine lv_sipush (v := 5000) hx hb d_Md_uns_74 (by decide) ?_
        refine lv_icmp_le (tgt := 84) hx hb d_Md_uns_77 (by decide) (fun c_7 => ?_) (fun c_7 => ?_)
        · refine lv_iconst (v := 0) hx hb d_Md_uns_84 (by decide) ?_
          refine lv_istore_n (lv' := [(3, .int 0), (2, .int 0), (0, .ref h0), (1, .int p0)]) hx hb d_Md_uns_85 rfl hl (by decide) rfl (fun ls hl => ?_)
          refine lv_iload_n hx hb d_Md_uns_86 rfl (lv_at hl 1 rfl) ?_
          refine lv_if_ne (tgt := 94) hx hb d_Md_uns_87 (by decide) (fun c_8 => ?_) (fun c_8 => ?_)
          · exact absurd c_8 (by decide)
          · refine lv_iload_n hx hb d_Md_uns_90 rfl (lv_at hl 0 rfl) ?_
            refine lv_if_eq (tgt := 98) hx hb d_Md_uns_91 (by decide) (fun c_9 => ?_) (fun c_9 => ?_)
            · refine lv_iconst (v := 0) hx hb d_Md_uns_98 (by decide) ?_
              exact W.zret (v := 0) hx hb hr (rfl) (fun t ht hW => ⟨_, rfl, by simp [m_muns, eq_false c_2, eq_true c_3, eq_false c_4, eq_true c_7], ht⟩) (fun q h => by cases h) d_Md_uns_99
            · exact absurd c_9 (by decide)
        · refine lv_iconst (v := 1) hx hb d_Md_uns_80 (by decide) ?_
          refine lv_goto (tgt := 85) hx hb d_Md_uns_81 (by decide) ?_
          refine lv_istore_n (lv' := [(3, .int 1), (2, .int 0), (0, .ref h0), (1, .int p0)]) hx hb d_Md_uns_85 rfl hl (by decide) rfl (fun ls hl => ?_)
          refine lv_iload_n hx hb d_Md_uns_86 rfl (lv_at hl 1 rfl) ?_
          refine lv_if_ne (tgt := 94) hx hb d_Md_uns_87 (by decide) (fun c_10 => ?_) (fun c_10 => ?_)
          · exact absurd c_10 (by decide)
          · refine lv_iload_n hx hb d_Md_uns_90 rfl (lv_at hl 0 rfl) ?_
            refine lv_if_eq (tgt := 98) hx hb d_Md_uns_91 (by decide) (fun c_11 => ?_) (fun c_11 => ?_)
            · exact absurd c_11 (by decide)
            · refine lv_iconst (v := 1) hx hb d_Md_uns_94 (by decide) ?_
              refine lv_goto (tgt := 99) hx hb d_Md_uns_95 (by decide) ?_
              exact W.zret (v := 1) hx hb hr (rfl) (fun t ht hW => ⟨_, rfl, by simp [m_muns, eq_false c_2, eq_true c_3, eq_false c_4, eq_false c_7], ht⟩) (fun q h => by cases h) d_Md_uns_99
    · refine lv_aload_n hx hb d_Md_uns_19 rfl (lv_at hl 0 rfl) ?_
      refine lv_iload_n hx hb d_Md_uns_20 rfl (lv_at hl 1 rfl) ?_
      have hPc := hP.sub (ws' := [(h0, .inr (6, [.int u0, .ref a1, .int u2, .int u3, .ref a4, .ref a5, .ref a6, .ref a7, .ref a8, .ref a9, .ref a10, .ref a11, .int u12, .int u13, .ref a14, .ref a15, .ref a16, .int u17, .ref a18, .ref a19, .ref a20, .int u21, .ref a22, .ref a23, .int u24, .ref a25, .ref a26, .int u27, .int u28, .int u29, .int u30])), (a8, .inl (k8, 8, .inl c8)), (a10, .inl (k10, 80, .inl c10))]) [0, 3, 4] rfl
      have hDc := hD.sub (ws' := [(h0, .inr (6, [.int u0, .ref a1, .int u2, .int u3, .ref a4, .ref a5, .ref a6, .ref a7, .ref a8, .ref a9, .ref a10, .ref a11, .int u12, .int u13, .ref a14, .ref a15, .ref a16, .int u17, .ref a18, .ref a19, .ref a20, .int u21, .ref a22, .ref a23, .int u24, .ref a25, .ref a26, .int u27, .int u28, .int u29, .int u30])), (a8, .inl (k8, 8, .inl c8)), (a10, .inl (k10, 80, .inl c10))]) [0, 3, 4] (by decide) rfl
      have hKc := hK.sub (tys' := [(k8, .int), (k10, .int)]) [2, 3] rfl
      have hFc := va_free (wc := [(h0, .inr (6, [.int u0, .ref a1, .int u2, .int u3, .ref a4, .ref a5, .ref a6, .ref a7, .ref a8, .ref a9, .ref a10, .ref a11, .int u12, .int u13, .ref a14, .ref a15, .ref a16, .int u17, .ref a18, .ref a19, .ref a20, .int u21, .ref a22, .ref a23, .int u24, .ref a25, .ref a26, .int u27, .int u28, .int u29, .int u30])), (a8, .inl (k8, 8, .inl c8)), (a10, .inl (k10, 80, .inl c10))]) hD hS hA [0, 3, 4] rfl
      refine vp_callSi (va_Run.run (va_runV (As := [.int p0]) (rest := [])  ⟨hx, hb, hml, hown, hts⟩ (c_Md_lastRest l D h0 u0 a1 u2 u3 a4 a5 a6 a7 a8 a9 a10 a11 u12 u13 a14 a15 a16 u17 a18 a19 a20 u21 a22 a23 u24 a25 a26 u27 u28 u29 u30 k8 k10 c8 c10 p0 s.heap.size (md_ix c_2 hc) (by assumption) (c_3)) ⟨callB_of 1 hts cg_Md_lastRest rfl rfl rfl (hts _ cw_10) (hts _ cw_894) (by decide +kernel) ⟨Nat.le_of_ble_eq_true rfl, Nat.le_of_ble_eq_true rfl⟩, hts _ cw_896, hts _ cs_19⟩ (cx_preV (C := R_Md) [.int p0] hPc hKc hDc hN hO hS hFc (ci := 6) (q0 := 0) rfl rfl rfl) rfl rfl hl.1 rfl (lv_room (Nat.le_of_ble_eq_true rfl)) d_Md_uns_21 ⟨Nat.le_of_ble_eq_true rfl, Nat.le_of_ble_eq_true rfl⟩)) (fun r z_12 => ?_)
      subst z_12
      refine lv_sipush (v := 1000) hx hb d_Md_uns_24 (by decide) ?_
      refine lv_icmp_lt (tgt := 41) hx hb d_Md_uns_27 (by decide) (fun c_13 => ?_) (fun c_13 => ?_)
      · refine lv_iconst (v := 1) hx hb d_Md_uns_41 (by decide) ?_
        refine lv_goto (tgt := 46) hx hb d_Md_uns_42 (by decide) ?_
        refine lv_istore_n (lv' := [(2, .int 1), (0, .ref h0), (1, .int p0)]) hx hb d_Md_uns_46 rfl hl (by decide) rfl (fun ls hl => ?_)
        refine lv_aload_n hx hb d_Md_uns_47 rfl (lv_at hl 1 rfl) ?_
        refine va_get (D := D) (ci := 6) (v := .ref a4) (C := R_Md) (T := T_Md) (N := 31) hx hb hts in_Md hown hK hP 0 rfl rfl 4 (by decide) (hts _ cw_738) (fun _ h9 => h9) rfl d_Md_uns_48 ?_
        refine lv_iload_n hx hb d_Md_uns_51 rfl (lv_at hl 2 rfl) ?_
        refine va_iald hx hb hK hP 1 0 rfl rfl (md_ix c_2 hc) d_Md_uns_52 ?_
        refine lv_if_le (tgt := 84) hx hb d_Md_uns_53 (by decide) (fun c_14 => ?_) (fun c_14 => ?_)
        · refine lv_iconst (v := 0) hx hb d_Md_uns_84 (by decide) ?_
          refine lv_istore_n (lv' := [(3, .int 0), (2, .int 1), (0, .ref h0), (1, .int p0)]) hx hb d_Md_uns_85 rfl hl (by decide) rfl (fun ls hl => ?_)
          refine lv_iload_n hx hb d_Md_uns_86 rfl (lv_at hl 1 rfl) ?_
          refine lv_if_ne (tgt := 94) hx hb d_Md_uns_87 (by decide) (fun c_15 => ?_) (fun c_15 => ?_)
          · refine lv_iconst (v := 1) hx hb d_Md_uns_94 (by decide) ?_
            refine lv_goto (tgt := 99) hx hb d_Md_uns_95 (by decide) ?_
            exact W.zret (v := 1) hx hb hr (rfl) (fun t ht hW => ⟨_, rfl, by simp [m_muns, eq_false c_2, eq_false c_3, eq_true c_13, eq_true c_14], ht⟩) (fun q h => by cases h) d_Md_uns_99
          · exact absurd c_15 (by decide)
        · refine lv_aload_n hx hb d_Md_uns_56 rfl (lv_at hl 1 rfl) ?_
          refine va_get (D := D) (ci := 6) (v := .ref a7) (C := R_Md) (T := T_Md) (N := 31) hx hb hts in_Md hown hK hP 0 rfl rfl 7 (by decide) (hts _ cw_741) (fun _ h9 => h9) rfl d_Md_uns_57 ?_
          refine lv_bipush (v := 30) hx hb d_Md_uns_60 (by decide) ?_
          refine lv_iload_n hx hb d_Md_uns_62 rfl (lv_at hl 2 rfl) ?_
          refine lv_imul hx hb d_Md_uns_63 ?_
          refine lv_aload_n hx hb d_Md_uns_64 rfl (lv_at hl 1 rfl) ?_
          refine va_get (D := D) (ci := 6) (v := .ref a4) (C := R_Md) (T := T_Md) (N := 31) hx hb hts in_Md hown hK hP 0 rfl rfl 4 (by decide) (hts _ cw_738) (fun _ h9 => h9) rfl d_Md_uns_65 ?_
          refine lv_iload_n hx hb d_Md_uns_68 rfl (lv_at hl 2 rfl) ?_
          refine va_iald hx hb hK hP 1 0 rfl rfl (md_ix c_2 hc) d_Md_uns_69 ?_
          refine lv_iadd hx hb d_Md_uns_70 ?_
          refine lv_iconst (v := 1) hx hb d_Md_uns_71 (by decide) ?_
          refine lv_isub hx hb d_Md_uns_72 ?_
          refine va_iald hx hb hK hP 2 1 rfl rfl (md_ix30p (md_ix c_2 hc) hst c_14) d_Md_uns_73 ?_
          refine lv_sipush (v := 5000) hx hb d_Md_uns_74 (by decide) ?_
          refine lv_icmp_le (tgt := 84) hx hb d_Md_uns_77 (by decide) (fun c_16 => ?_) (fun c_16 => ?_)
          · refine lv_iconst (v := 0) hx hb d_Md_uns_84 (by decide) ?_
            refine lv_istore_n (lv' := [(3, .int 0), (2, .int 1), (0, .ref h0), (1, .int p0)]) hx hb d_Md_uns_85 rfl hl (by decide) rfl (fun ls hl => ?_)
            refine lv_iload_n hx hb d_Md_uns_86 rfl (lv_at hl 1 rfl) ?_
            refine lv_if_ne (tgt := 94) hx hb d_Md_uns_87 (by decide) (fun c_17 => ?_) (fun c_17 => ?_)
            · refine lv_iconst (v := 1) hx hb d_Md_uns_94 (by decide) ?_
              refine lv_goto (tgt := 99) hx hb d_Md_uns_95 (by decide) ?_
              exact W.zret (v := 1) hx hb hr (rfl) (fun t ht hW => ⟨_, rfl, by simp [m_muns, eq_false c_2, eq_false c_3, eq_true c_13, eq_false c_14, eq_true c_16], ht⟩) (fun q h => by cases h) d_Md_uns_99
            · exact absurd c_17 (by decide)
          · refine lv_iconst (v := 1) hx hb d_Md_uns_80 (by decide) ?_
            refine lv_goto (tgt := 85) hx hb d_Md_uns_81 (by decide) ?_
            refine lv_istore_n (lv' := [(3, .int 1), (2, .int 1), (0, .ref h0), (1, .int p0)]) hx hb d_Md_uns_85 rfl hl (by decide) rfl (fun ls hl => ?_)
            refine lv_iload_n hx hb d_Md_uns_86 rfl (lv_at hl 1 rfl) ?_
            refine lv_if_ne (tgt := 94) hx hb d_Md_uns_87 (by decide) (fun c_18 => ?_) (fun c_18 => ?_)
            · refine lv_iconst (v := 1) hx hb d_Md_uns_94 (by decide) ?_
              refine lv_goto (tgt := 99) hx hb d_Md_uns_95 (by decide) ?_
              exact W.zret (v := 1) hx hb hr (rfl) (fun t ht hW => ⟨_, rfl, by simp [m_muns, eq_false c_2, eq_false c_3, eq_true c_13, eq_false c_14, eq_false c_16], ht⟩) (fun q h => by cases h) d_Md_uns_99
            · exact absurd c_18 (by decide)
      · refine lv_aload_n hx hb d_Md_uns_30 rfl (lv_at hl 0 rfl) ?_
        refine lv_iload_n hx hb d_Md_uns_31 rfl (lv_at hl 1 rfl) ?_
        have hPc := hP.sub (ws' := [(h0, .inr (6, [.int u0, .ref a1, .int u2, .int u3, .ref a4, .ref a5, .ref a6, .ref a7, .ref a8, .ref a9, .ref a10, .ref a11, .int u12, .int u13, .ref a14, .ref a15, .ref a16, .int u17, .ref a18, .ref a19, .ref a20, .int u21, .ref a22, .ref a23, .int u24, .ref a25, .ref a26, .int u27, .int u28, .int u29, .int u30])), (a8, .inl (k8, 8, .inl c8)), (a10, .inl (k10, 80, .inl c10))]) [0, 3, 4] rfl
        have hDc := hD.sub (ws' := [(h0, .inr (6, [.int u0, .ref a1, .int u2, .int u3, .ref a4, .ref a5, .ref a6, .ref a7, .ref a8, .ref a9, .ref a10, .ref a11, .int u12, .int u13, .ref a14, .ref a15, .ref a16, .int u17, .ref a18, .ref a19, .ref a20, .int u21, .ref a22, .ref a23, .int u24, .ref a25, .ref a26, .int u27, .int u28, .int u29, .int u30])), (a8, .inl (k8, 8, .inl c8)), (a10, .inl (k10, 80, .inl c10))]) [0, 3, 4] (by decide) rfl
        have hKc := hK.sub (tys' := [(k8, .int), (k10, .int)]) [2, 3] rfl
        have hFc := va_free (wc := [(h0, .inr (6, [.int u0, .ref a1, .int u2, .int u3, .ref a4, .ref a5, .ref a6, .ref a7, .ref a8, .ref a9, .ref a10, .ref a11, .int u12, .int u13, .ref a14, .ref a15, .ref a16, .int u17, .ref a18, .ref a19, .ref a20, .int u21, .ref a22, .ref a23, .int u24, .ref a25, .ref a26, .int u27, .int u28, .int u29, .int u30])), (a8, .inl (k8, 8, .inl c8)), (a10, .inl (k10, 80, .inl c10))]) hD hS hA [0, 3, 4] rfl
        refine vp_callSi (va_Run.run (va_runV (As := [.int p0]) (rest := [])  ⟨hx, hb, hml, hown, hts⟩ (c_Md_lastRest l D h0 u0 a1 u2 u3 a4 a5 a6 a7 a8 a9 a10 a11 u12 u13 a14 a15 a16 u17 a18 a19 a20 u21 a22 a23 u24 a25 a26 u27 u28 u29 u30 k8 k10 c8 c10 p0 s.heap.size (md_ix c_2 hc) (by assumption) (c_3)) ⟨callB_of 1 hts cg_Md_lastRest rfl rfl rfl (hts _ cw_10) (hts _ cw_894) (by decide +kernel) ⟨Nat.le_of_ble_eq_true rfl, Nat.le_of_ble_eq_true rfl⟩, hts _ cw_896, hts _ cs_19⟩ (cx_preV (C := R_Md) [.int p0] hPc hKc hDc hN hO hS hFc (ci := 6) (q0 := 0) rfl rfl rfl) rfl rfl hl.1 rfl (lv_room (Nat.le_of_ble_eq_true rfl)) d_Md_uns_32 ⟨Nat.le_of_ble_eq_true rfl, Nat.le_of_ble_eq_true rfl⟩)) (fun r z_19 => ?_)
        subst z_19
        refine lv_sipush (v := 4500) hx hb d_Md_uns_35 (by decide) ?_
        refine lv_icmp_le (tgt := 45) hx hb d_Md_uns_38 (by decide) (fun c_20 => ?_) (fun c_20 => ?_)
        · refine lv_iconst (v := 0) hx hb d_Md_uns_45 (by decide) ?_
          refine lv_istore_n (lv' := [(2, .int 0), (0, .ref h0), (1, .int p0)]) hx hb d_Md_uns_46 rfl hl (by decide) rfl (fun ls hl => ?_)
          refine lv_aload_n hx hb d_Md_uns_47 rfl (lv_at hl 1 rfl) ?_
          refine va_get (D := D) (ci := 6) (v := .ref a4) (C := R_Md) (T := T_Md) (N := 31) hx hb hts in_Md hown hK hP 0 rfl rfl 4 (by decide) (hts _ cw_738) (fun _ h9 => h9) rfl d_Md_uns_48 ?_
          refine lv_iload_n hx hb d_Md_uns_51 rfl (lv_at hl 2 rfl) ?_
          refine va_iald hx hb hK hP 1 0 rfl rfl (md_ix c_2 hc) d_Md_uns_52 ?_
          refine lv_if_le (tgt := 84) hx hb d_Md_uns_53 (by decide) (fun c_21 => ?_) (fun c_21 => ?_)
          · refine lv_iconst (v := 0) hx hb d_Md_uns_84 (by decide) ?_
            refine lv_istore_n (lv' := [(3, .int 0), (2, .int 0), (0, .ref h0), (1, .int p0)]) hx hb d_Md_uns_85 rfl hl (by decide) rfl (fun ls hl => ?_)
            refine lv_iload_n hx hb d_Md_uns_86 rfl (lv_at hl 1 rfl) ?_
            refine lv_if_ne (tgt := 94) hx hb d_Md_uns_87 (by decide) (fun c_22 => ?_) (fun c_22 => ?_)
            · exact absurd c_22 (by decide)
            · refine lv_iload_n hx hb d_Md_uns_90 rfl (lv_at hl 0 rfl) ?_
              refine lv_if_eq (tgt := 98) hx hb d_Md_uns_91 (by decide) (fun c_23 => ?_) (fun c_23 => ?_)
              · refine lv_iconst (v := 0) hx hb d_Md_uns_98 (by decide) ?_
                exact W.zret (v := 0) hx hb hr (rfl) (fun t ht hW => ⟨_, rfl, by simp [m_muns, eq_false c_2, eq_false c_3, eq_false c_13, eq_true c_20, eq_true c_21], ht⟩) (fun q h => by cases h) d_Md_uns_99
              · exact absurd c_23 (by decide)
          · refine lv_aload_n hx hb d_Md_uns_56 rfl (lv_at hl 1 rfl) ?_
            refine va_get (D := D) (ci := 6) (v := .ref a7) (C := R_Md) (T := T_Md) (N := 31) hx hb hts in_Md hown hK hP 0 rfl rfl 7 (by decide) (hts _ cw_741) (fun _ h9 => h9) rfl d_Md_uns_57 ?_
            refine lv_bipush (v := 30) hx hb d_Md_uns_60 (by decide) ?_
            refine lv_iload_n hx hb d_Md_uns_62 rfl (lv_at hl 2 rfl) ?_
            refine lv_imul hx hb d_Md_uns_63 ?_
            refine lv_aload_n hx hb d_Md_uns_64 rfl (lv_at hl 1 rfl) ?_
            refine va_get (D := D) (ci := 6) (v := .ref a4) (C := R_Md) (T := T_Md) (N := 31) hx hb hts in_Md hown hK hP 0 rfl rfl 4 (by decide) (hts _ cw_738) (fun _ h9 => h9) rfl d_Md_uns_65 ?_
            refine lv_iload_n hx hb d_Md_uns_68 rfl (lv_at hl 2 rfl) ?_
            refine va_iald hx hb hK hP 1 0 rfl rfl (md_ix c_2 hc) d_Md_uns_69 ?_
            refine lv_iadd hx hb d_Md_uns_70 ?_
            refine lv_iconst (v := 1) hx hb d_Md_uns_71 (by decide) ?_
            refine lv_isub hx hb d_Md_uns_72 ?_
            refine va_iald hx hb hK hP 2 1 rfl rfl (md_ix30p (md_ix c_2 hc) hst c_21) d_Md_uns_73 ?_
            refine lv_sipush (v := 5000) hx hb d_Md_uns_74 (by decide) ?_
            refine lv_icmp_le (tgt := 84) hx hb d_Md_uns_77 (by decide) (fun c_24 => ?_) (fun c_24 => ?_)
            · refine lv_iconst (v := 0) hx hb d_Md_uns_84 (by decide) ?_
              refine lv_istore_n (lv' := [(3, .int 0), (2, .int 0), (0, .ref h0), (1, .int p0)]) hx hb d_Md_uns_85 rfl hl (by decide) rfl (fun ls hl => ?_)
              refine lv_iload_n hx hb d_Md_uns_86 rfl (lv_at hl 1 rfl) ?_
              refine lv_if_ne (tgt := 94) hx hb d_Md_uns_87 (by decide) (fun c_25 => ?_) (fun c_25 => ?_)
              · exact absurd c_25 (by decide)
              · refine lv_iload_n hx hb d_Md_uns_90 rfl (lv_at hl 0 rfl) ?_
                refine lv_if_eq (tgt := 98) hx hb d_Md_uns_91 (by decide) (fun c_26 => ?_) (fun c_26 => ?_)
                · refine lv_iconst (v := 0) hx hb d_Md_uns_98 (by decide) ?_
                  exact W.zret (v := 0) hx hb hr (rfl) (fun t ht hW => ⟨_, rfl, by simp [m_muns, eq_false c_2, eq_false c_3, eq_false c_13, eq_true c_20, eq_false c_21, eq_true c_24], ht⟩) (fun q h => by cases h) d_Md_uns_99
                · exact absurd c_26 (by decide)
            · refine lv_iconst (v := 1) hx hb d_Md_uns_80 (by decide) ?_
              refine lv_goto (tgt := 85) hx hb d_Md_uns_81 (by decide) ?_
              refine lv_istore_n (lv' := [(3, .int 1), (2, .int 0), (0, .ref h0), (1, .int p0)]) hx hb d_Md_uns_85 rfl hl (by decide) rfl (fun ls hl => ?_)
              refine lv_iload_n hx hb d_Md_uns_86 rfl (lv_at hl 1 rfl) ?_
              refine lv_if_ne (tgt := 94) hx hb d_Md_uns_87 (by decide) (fun c_27 => ?_) (fun c_27 => ?_)
              · exact absurd c_27 (by decide)
              · refine lv_iload_n hx hb d_Md_uns_90 rfl (lv_at hl 0 rfl) ?_
                refine lv_if_eq (tgt := 98) hx hb d_Md_uns_91 (by decide) (fun c_28 => ?_) (fun c_28 => ?_)
                · exact absurd c_28 (by decide)
                · refine lv_iconst (v := 1) hx hb d_Md_uns_94 (by decide) ?_
                  refine lv_goto (tgt := 99) hx hb d_Md_uns_95 (by decide) ?_
                  exact W.zret (v := 1) hx hb hr (rfl) (fun t ht hW => ⟨_, rfl, by simp [m_muns, eq_false c_2, eq_false c_3, eq_false c_13, eq_true c_20, eq_false c_21, eq_false c_24], ht⟩) (fun q h => by cases h) d_Md_uns_99
        · refine lv_iconst (v := 1) hx hb d_Md_uns_41 (by decide) ?_
          refine lv_goto (tgt := 46) hx hb d_Md_uns_42 (by decide) ?_
          refine lv_istore_n (lv' := [(2, .int 1), (0, .ref h0), (1, .int p0)]) hx hb d_Md_uns_46 rfl hl (by decide) rfl (fun ls hl => ?_)
          refine lv_aload_n hx hb d_Md_uns_47 rfl (lv_at hl 1 rfl) ?_
          refine va_get (D := D) (ci := 6) (v := .ref a4) (C := R_Md) (T := T_Md) (N := 31) hx hb hts in_Md hown hK hP 0 rfl rfl 4 (by decide) (hts _ cw_738) (fun _ h9 => h9) rfl d_Md_uns_48 ?_
          refine lv_iload_n hx hb d_Md_uns_51 rfl (lv_at hl 2 rfl) ?_
          refine va_iald hx hb hK hP 1 0 rfl rfl (md_ix c_2 hc) d_Md_uns_52 ?_
          refine lv_if_le (tgt := 84) hx hb d_Md_uns_53 (by decide) (fun c_29 => ?_) (fun c_29 => ?_)
          · refine lv_iconst (v := 0) hx hb d_Md_uns_84 (by decide) ?_
            refine lv_istore_n (lv' := [(3, .int 0), (2, .int 1), (0, .ref h0), (1, .int p0)]) hx hb d_Md_uns_85 rfl hl (by decide) rfl (fun ls hl => ?_)
            refine lv_iload_n hx hb d_Md_uns_86 rfl (lv_at hl 1 rfl) ?_
            refine lv_if_ne (tgt := 94) hx hb d_Md_uns_87 (by decide) (fun c_30 => ?_) (fun c_30 => ?_)
            · refine lv_iconst (v := 1) hx hb d_Md_uns_94 (by decide) ?_
              refine lv_goto (tgt := 99) hx hb d_Md_uns_95 (by decide) ?_
              exact W.zret (v := 1) hx hb hr (rfl) (fun t ht hW => ⟨_, rfl, by simp [m_muns, eq_false c_2, eq_false c_3, eq_false c_13, eq_false c_20, eq_true c_29], ht⟩) (fun q h => by cases h) d_Md_uns_99
            · exact absurd c_30 (by decide)
          · refine lv_aload_n hx hb d_Md_uns_56 rfl (lv_at hl 1 rfl) ?_
            refine va_get (D := D) (ci := 6) (v := .ref a7) (C := R_Md) (T := T_Md) (N := 31) hx hb hts in_Md hown hK hP 0 rfl rfl 7 (by decide) (hts _ cw_741) (fun _ h9 => h9) rfl d_Md_uns_57 ?_
            refine lv_bipush (v := 30) hx hb d_Md_uns_60 (by decide) ?_
            refine lv_iload_n hx hb d_Md_uns_62 rfl (lv_at hl 2 rfl) ?_
            refine lv_imul hx hb d_Md_uns_63 ?_
            refine lv_aload_n hx hb d_Md_uns_64 rfl (lv_at hl 1 rfl) ?_
            refine va_get (D := D) (ci := 6) (v := .ref a4) (C := R_Md) (T := T_Md) (N := 31) hx hb hts in_Md hown hK hP 0 rfl rfl 4 (by decide) (hts _ cw_738) (fun _ h9 => h9) rfl d_Md_uns_65 ?_
            refine lv_iload_n hx hb d_Md_uns_68 rfl (lv_at hl 2 rfl) ?_
            refine va_iald hx hb hK hP 1 0 rfl rfl (md_ix c_2 hc) d_Md_uns_69 ?_
            refine lv_iadd hx hb d_Md_uns_70 ?_
            refine lv_iconst (v := 1) hx hb d_Md_uns_71 (by decide) ?_
            refine lv_isub hx hb d_Md_uns_72 ?_
            refine va_iald hx hb hK hP 2 1 rfl rfl (md_ix30p (md_ix c_2 hc) hst c_29) d_Md_uns_73 ?_
            refine lv_sipush (v := 5000) hx hb d_Md_uns_74 (by decide) ?_
            refine lv_icmp_le (tgt := 84) hx hb d_Md_uns_77 (by decide) (fun c_31 => ?_) (fun c_31 => ?_)
            · refine lv_iconst (v := 0) hx hb d_Md_uns_84 (by decide) ?_
              refine lv_istore_n (lv' := [(3, .int 0), (2, .int 1), (0, .ref h0), (1, .int p0)]) hx hb d_Md_uns_85 rfl hl (by decide) rfl (fun ls hl => ?_)
              refine lv_iload_n hx hb d_Md_uns_86 rfl (lv_at hl 1 rfl) ?_
              refine lv_if_ne (tgt := 94) hx hb d_Md_uns_87 (by decide) (fun c_32 => ?_) (fun c_32 => ?_)
              · refine lv_iconst (v := 1) hx hb d_Md_uns_94 (by decide) ?_
                refine lv_goto (tgt := 99) hx hb d_Md_uns_95 (by decide) ?_
                exact W.zret (v := 1) hx hb hr (rfl) (fun t ht hW => ⟨_, rfl, by simp [m_muns, eq_false c_2, eq_false c_3, eq_false c_13, eq_false c_20, eq_false c_29, eq_true c_31], ht⟩) (fun q h => by cases h) d_Md_uns_99
              · exact absurd c_32 (by decide)
            · refine lv_iconst (v := 1) hx hb d_Md_uns_80 (by decide) ?_
              refine lv_goto (tgt := 85) hx hb d_Md_uns_81 (by decide) ?_
              refine lv_istore_n (lv' := [(3, .int 1), (2, .int 1), (0, .ref h0), (1, .int p0)]) hx hb d_Md_uns_85 rfl hl (by decide) rfl (fun ls hl => ?_)
              refine lv_iload_n hx hb d_Md_uns_86 rfl (lv_at hl 1 rfl) ?_
              refine lv_if_ne (tgt := 94) hx hb d_Md_uns_87 (by decide) (fun c_33 => ?_) (fun c_33 => ?_)
              · refine lv_iconst (v := 1) hx hb d_Md_uns_94 (by decide) ?_
                refine lv_goto (tgt := 99) hx hb d_Md_uns_95 (by decide) ?_
                exact W.zret (v := 1) hx hb hr (rfl) (fun t ht hW => ⟨_, rfl, by simp [m_muns, eq_false c_2, eq_false c_3, eq_false c_13, eq_false c_20, eq_false c_29, eq_false c_31], ht⟩) (fun q h => by cases h) d_Md_uns_99
              · exact absurd c_33 (by decide)
  · refine lv_iconst (v := 0) hx hb d_Md_uns_8 (by decide) ?_
    exact W.zret (v := 0) hx hb hr (rfl) (fun t ht hW => ⟨_, rfl, by simp [m_muns, eq_true c_2], ht⟩) (fun q h => by cases h) d_Md_uns_9

set_option maxHeartbeats 4000000 in
set_option maxRecDepth 100000 in
theorem c_Md_may (l : Launch) (D : va_G)  (h0 : Nat) (u0 : Int32) (a1 : Nat) (u2 : Int32) (u3 : Int32) (a4 : Nat) (a5 : Nat) (a6 : Nat) (a7 : Nat) (a8 : Nat) (a9 : Nat) (a10 : Nat) (a11 : Nat) (u12 : Int32) (u13 : Int32) (a14 : Nat) (a15 : Nat) (a16 : Nat) (u17 : Int32) (a18 : Nat) (a19 : Nat) (a20 : Nat) (u21 : Int32) (a22 : Nat) (a23 : Nat) (u24 : Int32) (a25 : Nat) (a26 : Nat) (u27 : Int32) (u28 : Int32) (u29 : Int32) (u30 : Int32) (k4 : ClassId) (k7 : ClassId) (k8 : ClassId) (k10 : ClassId) (c4 : Nat → Int32) (c7 : Nat → Int32) (c8 : Nat → Int32) (c10 : Nat → Int32) (p0 : Int32) (p1 : Int32) (sz : Nat) (hc : u0 ≤ 8) (hst : ∀ i, i < 8 → ¬ c4 i < 0 ∧ c4 i ≤ 30) (hrc : ∀ i, i < 8 → ¬ c8 i < 0 ∧ c8 i ≤ 10) : Met l y_Md_may ws_Md_may ({ frames := 2, cells := 0, slots := 0, locals := 44 }) (va_Pc [.ref h0, .int p0, .int p1] (cx_pre D [(k4, .int), (k7, .int), (k8, .int), (k10, .int)] ([(h0, .inr (6, [.int u0, .ref a1, .int u2, .int u3, .ref a4, .ref a5, .ref a6, .ref a7, .ref a8, .ref a9, .ref a10, .ref a11, .int u12, .int u13, .ref a14, .ref a15, .ref a16, .int u17, .ref a18, .ref a19, .ref a20, .int u21, .ref a22, .ref a23, .int u24, .ref a25, .ref a26, .int u27, .int u28, .int u29, .int u30])), (a4, .inl (k4, 8, .inl c4)), (a7, .inl (k7, 240, .inl c7)), (a8, .inl (k8, 8, .inl c8)), (a10, .inl (k10, 80, .inl c10))]) sz)) (vp_Si (fun r9 => r9 = m_mmay u0 c4 c7 c8 c10 p0 p1)) 0 0 (fun _ => False) := by
  refine Met.ofW (cc := b_Md_may) (maxL := 3) (ret := (some .boolean)) (by decide) rfl ?_
  intro p e s m args below meth c s₁ B hml hv
  obtain ⟨rfl, hsz, hP, hK, hD0, hN, hO⟩ := hv
  have hx := B.exec
  have hb := B.bytes
  have hr := B.returns
  have hts := fun (w : Cond) (h : w ∈ cx_tbl) => atoms_spec (ws := ws_Md_may) B.pre w (List.mem_cons_of_mem _ h)
  have hown : s.vm.findClass R_Md = some m.cls := findClass_of_methodNamed B.named
  have hlocks := B.notSynchronized
  subst hsz
  have hD := hD0.self (sz := s.heap.size)
  generalize hAe : va_A ([(h0, .inr (6, [.int u0, .ref a1, .int u2, .int u3, .ref a4, .ref a5, .ref a6, .ref a7, .ref a8, .ref a9, .ref a10, .ref a11, .int u12, .int u13, .ref a14, .ref a15, .ref a16, .int u17, .ref a18, .ref a19, .ref a20, .int u21, .ref a22, .ref a23, .int u24, .ref a25, .ref a26, .int u27, .int u28, .int u29, .int u30])), (a4, .inl (k4, 8, .inl c4)), (a7, .inl (k7, 240, .inl c7)), (a8, .inl (k8, 8, .inl c8)), (a10, .inl (k10, 80, .inl c10))]) s.heap.size = A at hD hO
  have hA : ∀ q : Nat, s.heap.size ≤ q → A q := fun q h => by rw [← hAe]; exact Or.inr h
  have hS : va_S A s.heap s.heap [] := va_S.rf
  have hl := lv_entry ([.ref h0, .int p0, .int p1]) (n := 3) (Nat.le_of_ble_eq_true rfl)
  rw [lg_entry_eq]
  generalize (lg_sl ([.ref h0, .int p0, .int p1]) ++ List.replicate (3 - (lg_sl ([.ref h0, .int p0, .int p1])).length) Slot.unset).toArray = ls at hl ⊢
  have hl : lv_has ls 3 [(0, .ref h0), (1, .int p0), (2, .int p1)] := hl
  refine lv_aload_n hx hb d_Md_may_0 rfl (lv_at hl 0 rfl) ?_
  refine lv_iload_n hx hb d_Md_may_1 rfl (lv_at hl 1 rfl) ?_
  have hPc := hP.sub (ws' := [(h0, .inr (6, [.int u0, .ref a1, .int u2, .int u3, .ref a4, .ref a5, .ref a6, .ref a7, .ref a8, .ref a9, .ref a10, .ref a11, .int u12, .int u13, .ref a14, .ref a15, .ref a16, .int u17, .ref a18, .ref a19, .ref a20, .int u21, .ref a22, .ref a23, .int u24, .ref a25, .ref a26, .int u27, .int u28, .int u29, .int u30]))]) [0] rfl
  have hDc := hD.sub (ws' := [(h0, .inr (6, [.int u0, .ref a1, .int u2, .int u3, .ref a4, .ref a5, .ref a6, .ref a7, .ref a8, .ref a9, .ref a10, .ref a11, .int u12, .int u13, .ref a14, .ref a15, .ref a16, .int u17, .ref a18, .ref a19, .ref a20, .int u21, .ref a22, .ref a23, .int u24, .ref a25, .ref a26, .int u27, .int u28, .int u29, .int u30]))]) [0] (by decide) rfl
  have hKc := hK.sub (tys' := []) [] rfl
  have hFc := va_free (wc := [(h0, .inr (6, [.int u0, .ref a1, .int u2, .int u3, .ref a4, .ref a5, .ref a6, .ref a7, .ref a8, .ref a9, .ref a10, .ref a11, .int u12, .int u13, .ref a14, .ref a15, .ref a16, .int u17, .ref a18, .ref a19, .ref a20, .int u21, .ref a22, .ref a23, .int u24, .ref a25, .ref a26, .int u27, .int u28, .int u29, .int u30]))]) hD hS hA [0] rfl
  refine vp_callSi (va_Run.run (va_runV (As := [.int p0]) (rest := [])  ⟨hx, hb, hml, hown, hts⟩ (c_Md_isCell l D h0 u0 a1 u2 u3 a4 a5 a6 a7 a8 a9 a10 a11 u12 u13 a14 a15 a16 u17 a18 a19 a20 u21 a22 a23 u24 a25 a26 u27 u28 u29 u30 p0 s.heap.size ) ⟨callB_of 1 hts cg_Md_isCell rfl rfl rfl (hts _ cw_10) (hts _ cw_844) (by decide +kernel) ⟨Nat.le_of_ble_eq_true rfl, Nat.le_of_ble_eq_true rfl⟩, hts _ cw_846, hts _ cs_16⟩ (cx_preV (C := R_Md) [.int p0] hPc hKc hDc hN hO hS hFc (ci := 6) (q0 := 0) rfl rfl rfl) rfl rfl hl.1 rfl (lv_room (Nat.le_of_ble_eq_true rfl)) d_Md_may_2 ⟨Nat.le_of_ble_eq_true rfl, Nat.le_of_ble_eq_true rfl⟩)) (fun r z_1 => ?_)
  subst z_1
  refine lv_if_eq (tgt := 20) hx hb d_Md_may_5 (by decide) (fun c_2 => ?_) (fun c_2 => ?_)
  · refine lv_iconst (v := 0) hx hb d_Md_may_20 (by decide) ?_
    exact W.zret (v := 0) hx hb hr (rfl) (fun t ht hW => ⟨_, rfl, by simp [m_mmay, eq_true c_2], ht⟩) (fun q h => by cases h) d_Md_may_21
  · refine lv_iload_n hx hb d_Md_may_8 rfl (lv_at hl 2 rfl) ?_
    refine lv_i2l hx hb d_Md_may_9 rfl ?_
    refine lv_lconst (v := 0) hx hb d_Md_may_10 (by decide) ?_
    refine lv_ldc2 (v := 4) hx hb hown (hts _ cw_950) d_Md_may_11 ?_
    have hPc := hP.sub (ws' := []) [] rfl
    have hDc := hD.sub (ws' := []) [] (by decide) rfl
    have hKc := hK.sub (tys' := []) [] rfl
    have hFc := va_free (wc := []) hD hS hA [] rfl
    refine vp_callSi (va_Run.run (va_runS (As := [.long p1.toInt64, .long 0, .long 4]) (rest := [])  ⟨hx, hb, hml, hown, hts⟩ (c_Md_isIn l D p1.toInt64 0 4 s.heap.size ) ⟨callB_of 3 hts cg_Md_isIn rfl rfl rfl (hts _ cw_10) (hts _ cw_837) (by decide +kernel) ⟨Nat.le_of_ble_eq_true rfl, Nat.le_of_ble_eq_true rfl⟩, hts _ cw_838⟩ (cx_preS [.long p1.toInt64, .long 0, .long 4] hPc hKc hDc hN hO hS hFc) rfl rfl hl.1 rfl (lv_room (Nat.le_of_ble_eq_true rfl)) d_Md_may_14 ⟨Nat.le_of_ble_eq_true rfl, Nat.le_of_ble_eq_true rfl⟩)) (fun r z_3 => ?_)
    subst z_3
    refine lv_if_ne (tgt := 22) hx hb d_Md_may_17 (by decide) (fun c_4 => ?_) (fun c_4 => ?_)
    · refine lv_aload_n hx hb d_Md_may_22 rfl (lv_at hl 0 rfl) ?_
      refine lv_iload_n hx hb d_Md_may_23 rfl (lv_at hl 1 rfl) ?_
      have hPc := hP.sub (ws' := [(h0, .inr (6, [.int u0, .ref a1, .int u2, .int u3, .ref a4, .ref a5, .ref a6, .ref a7, .ref a8, .ref a9, .ref a10, .ref a11, .int u12, .int u13, .ref a14, .ref a15, .ref a16, .int u17, .ref a18, .ref a19, .ref a20, .int u21, .ref a22, .ref a23, .int u24, .ref a25, .ref a26, .int u27, .int u28, .int u29, .int u30])), (a4, .inl (k4, 8, .inl c4)), (a7, .inl (k7, 240, .inl c7)), (a8, .inl (k8, 8, .inl c8)), (a10, .inl (k10, 80, .inl c10))]) [0, 1, 2, 3, 4] rfl
      have hDc := hD.sub (ws' := [(h0, .inr (6, [.int u0, .ref a1, .int u2, .int u3, .ref a4, .ref a5, .ref a6, .ref a7, .ref a8, .ref a9, .ref a10, .ref a11, .int u12, .int u13, .ref a14, .ref a15, .ref a16, .int u17, .ref a18, .ref a19, .ref a20, .int u21, .ref a22, .ref a23, .int u24, .ref a25, .ref a26, .int u27, .int u28, .int u29, .int u30])), (a4, .inl (k4, 8, .inl c4)), (a7, .inl (k7, 240, .inl c7)), (a8, .inl (k8, 8, .inl c8)), (a10, .inl (k10, 80, .inl c10))]) [0, 1, 2, 3, 4] (by decide) rfl
      have hKc := hK.sub (tys' := [(k4, .int), (k7, .int), (k8, .int), (k10, .int)]) [0, 1, 2, 3] rfl
      have hFc := va_free (wc := [(h0, .inr (6, [.int u0, .ref a1, .int u2, .int u3, .ref a4, .ref a5, .ref a6, .ref a7, .ref a8, .ref a9, .ref a10, .ref a11, .int u12, .int u13, .ref a14, .ref a15, .ref a16, .int u17, .ref a18, .ref a19, .ref a20, .int u21, .ref a22, .ref a23, .int u24, .ref a25, .ref a26, .int u27, .int u28, .int u29, .int u30])), (a4, .inl (k4, 8, .inl c4)), (a7, .inl (k7, 240, .inl c7)), (a8, .inl (k8, 8, .inl c8)), (a10, .inl (k10, 80, .inl c10))]) hD hS hA [0, 1, 2, 3, 4] rfl
      refine vp_callSi (va_Run.run (va_runV (As := [.int p0]) (rest := [])  ⟨hx, hb, hml, hown, hts⟩ (c_Md_uns l D h0 u0 a1 u2 u3 a4 a5 a6 a7 a8 a9 a10 a11 u12 u13 a14 a15 a16 u17 a18 a19 a20 u21 a22 a23 u24 a25 a26 u27 u28 u29 u30 k4 k7 k8 k10 c4 c7 c8 c10 p0 s.heap.size (by assumption) (by assumption) (by assumption)) ⟨callB_of 1 hts cg_Md_uns rfl rfl rfl (hts _ cw_10) (hts _ cw_951) (by decide +kernel) ⟨Nat.le_of_ble_eq_true rfl, Nat.le_of_ble_eq_true rfl⟩, hts _ cw_891, hts _ cw_892⟩ (cx_preV (C := R_Md) [.int p0] hPc hKc hDc hN hO hS hFc (ci := 6) (q0 := 0) rfl rfl rfl) rfl rfl hl.1 rfl (lv_room (Nat.le_of_ble_eq_true rfl)) d_Md_may_24 ⟨Nat.le_of_ble_eq_true rfl, Nat.le_of_ble_eq_true rfl⟩)) (fun r z_5 => ?_)
      subst z_5
      refine lv_if_eq (tgt := 41) hx hb d_Md_may_27 (by decide) (fun c_6 => ?_) (fun c_6 => ?_)
      · refine lv_aload_n hx hb d_Md_may_41 rfl (lv_at hl 0 rfl) ?_
        refine lv_iload_n hx hb d_Md_may_42 rfl (lv_at hl 1 rfl) ?_
        have hPc := hP.sub (ws' := [(h0, .inr (6, [.int u0, .ref a1, .int u2, .int u3, .ref a4, .ref a5, .ref a6, .ref a7, .ref a8, .ref a9, .ref a10, .ref a11, .int u12, .int u13, .ref a14, .ref a15, .ref a16, .int u17, .ref a18, .ref a19, .ref a20, .int u21, .ref a22, .ref a23, .int u24, .ref a25, .ref a26, .int u27, .int u28, .int u29, .int u30])), (a4, .inl (k4, 8, .inl c4)), (a8, .inl (k8, 8, .inl c8))]) [0, 1, 3] rfl
        have hDc := hD.sub (ws' := [(h0, .inr (6, [.int u0, .ref a1, .int u2, .int u3, .ref a4, .ref a5, .ref a6, .ref a7, .ref a8, .ref a9, .ref a10, .ref a11, .int u12, .int u13, .ref a14, .ref a15, .ref a16, .int u17, .ref a18, .ref a19, .ref a20, .int u21, .ref a22, .ref a23, .int u24, .ref a25, .ref a26, .int u27, .int u28, .int u29, .int u30])), (a4, .inl (k4, 8, .inl c4)), (a8, .inl (k8, 8, .inl c8))]) [0, 1, 3] (by decide) rfl
        have hKc := hK.sub (tys' := [(k4, .int), (k8, .int)]) [0, 2] rfl
        have hFc := va_free (wc := [(h0, .inr (6, [.int u0, .ref a1, .int u2, .int u3, .ref a4, .ref a5, .ref a6, .ref a7, .ref a8, .ref a9, .ref a10, .ref a11, .int u12, .int u13, .ref a14, .ref a15, .ref a16, .int u17, .ref a18, .ref a19, .ref a20, .int u21, .ref a22, .ref a23, .int u24, .ref a25, .ref a26, .int u27, .int u28, .int u29, .int u30])), (a4, .inl (k4, 8, .inl c4)), (a8, .inl (k8, 8, .inl c8))]) hD hS hA [0, 1, 3] rfl
        refine vp_callSi (va_Run.run (va_runV (As := [.int p0]) (rest := [])  ⟨hx, hb, hml, hown, hts⟩ (c_Md_isOpen l D h0 u0 a1 u2 u3 a4 a5 a6 a7 a8 a9 a10 a11 u12 u13 a14 a15 a16 u17 a18 a19 a20 u21 a22 a23 u24 a25 a26 u27 u28 u29 u30 k4 k8 c4 c8 p0 s.heap.size (md_ix c_2 hc)) ⟨callB_of 1 hts cg_Md_isOpen rfl rfl rfl (hts _ cw_10) (hts _ cw_936) (by decide +kernel) ⟨Nat.le_of_ble_eq_true rfl, Nat.le_of_ble_eq_true rfl⟩, hts _ cw_938, hts _ cs_25⟩ (cx_preV (C := R_Md) [.int p0] hPc hKc hDc hN hO hS hFc (ci := 6) (q0 := 0) rfl rfl rfl) rfl rfl hl.1 rfl (lv_room (Nat.le_of_ble_eq_true rfl)) d_Md_may_43 ⟨Nat.le_of_ble_eq_true rfl, Nat.le_of_ble_eq_true rfl⟩)) (fun r z_7 => ?_)
        subst z_7
        refine lv_if_eq (tgt := 66) hx hb d_Md_may_46 (by decide) (fun c_8 => ?_) (fun c_8 => ?_)
        · refine lv_iload_n hx hb d_Md_may_66 rfl (lv_at hl 2 rfl) ?_
          refine lv_iconst (v := 4) hx hb d_Md_may_67 (by decide) ?_
          refine lv_icmp_eq (tgt := 75) hx hb d_Md_may_68 (by decide) (fun c_9 => ?_) (fun c_9 => ?_)
          · refine lv_iconst (v := 0) hx hb d_Md_may_75 (by decide) ?_
            exact W.zret (v := 0) hx hb hr (rfl) (fun t ht hW => ⟨_, rfl, by simp [m_mmay, eq_false c_2, eq_false c_4, eq_true c_6, eq_true c_8, eq_true c_9], ht⟩) (fun q h => by cases h) d_Md_may_76
          · refine lv_iconst (v := 1) hx hb d_Md_may_71 (by decide) ?_
            refine lv_goto (tgt := 76) hx hb d_Md_may_72 (by decide) ?_
            exact W.zret (v := 1) hx hb hr (rfl) (fun t ht hW => ⟨_, rfl, by simp [m_mmay, eq_false c_2, eq_false c_4, eq_true c_6, eq_true c_8, eq_false c_9], ht⟩) (fun q h => by cases h) d_Md_may_76
        · refine lv_iload_n hx hb d_Md_may_49 rfl (lv_at hl 2 rfl) ?_
          refine lv_if_eq (tgt := 58) hx hb d_Md_may_50 (by decide) (fun c_10 => ?_) (fun c_10 => ?_)
          · refine lv_iconst (v := 1) hx hb d_Md_may_58 (by decide) ?_
            refine lv_goto (tgt := 76) hx hb d_Md_may_59 (by decide) ?_
            exact W.zret (v := 1) hx hb hr (rfl) (fun t ht hW => ⟨_, rfl, by simp [m_mmay, eq_false c_2, eq_false c_4, eq_true c_6, eq_false c_8, eq_true c_10], ht⟩) (fun q h => by cases h) d_Md_may_76
          · refine lv_iload_n hx hb d_Md_may_53 rfl (lv_at hl 2 rfl) ?_
            refine lv_iconst (v := 4) hx hb d_Md_may_54 (by decide) ?_
            refine lv_icmp_ne (tgt := 62) hx hb d_Md_may_55 (by decide) (fun c_11 => ?_) (fun c_11 => ?_)
            · refine lv_iconst (v := 0) hx hb d_Md_may_62 (by decide) ?_
              refine lv_goto (tgt := 76) hx hb d_Md_may_63 (by decide) ?_
              exact W.zret (v := 0) hx hb hr (rfl) (fun t ht hW => ⟨_, rfl, by simp [m_mmay, eq_false c_2, eq_false c_4, eq_true c_6, eq_false c_8, eq_false c_10, eq_false c_11], ht⟩) (fun q h => by cases h) d_Md_may_76
            · refine lv_iconst (v := 1) hx hb d_Md_may_58 (by decide) ?_
              refine lv_goto (tgt := 76) hx hb d_Md_may_59 (by decide) ?_
              exact W.zret (v := 1) hx hb hr (rfl) (fun t ht hW => ⟨_, rfl, by simp [m_mmay, eq_false c_2, eq_false c_4, eq_true c_6, eq_false c_8, eq_false c_10, eq_true c_11], ht⟩) (fun q h => by cases h) d_Md_may_76
      · refine lv_iload_n hx hb d_Md_may_30 rfl (lv_at hl 2 rfl) ?_
        refine lv_iconst (v := 3) hx hb d_Md_may_31 (by decide) ?_
        refine lv_icmp_lt (tgt := 39) hx hb d_Md_may_32 (by decide) (fun c_12 => ?_) (fun c_12 => ?_)
        · refine lv_iconst (v := 0) hx hb d_Md_may_39 (by decide) ?_
          exact W.zret (v := 0) hx hb hr (rfl) (fun t ht hW => ⟨_, rfl, by simp [m_mmay, eq_false c_2, eq_false c_4, eq_false c_6, eq_true c_12], ht⟩) (fun q h => by cases h) d_Md_may_40
        · refine lv_iconst (v := 1) hx hb d_Md_may_35 (by decide) ?_
          refine lv_goto (tgt := 40) hx hb d_Md_may_36 (by decide) ?_
          exact W.zret (v := 1) hx hb hr (rfl) (fun t ht hW => ⟨_, rfl, by simp [m_mmay, eq_false c_2, eq_false c_4, eq_false c_6, eq_false c_12], ht⟩) (fun q h => by cases h) d_Md_may_40
    · refine lv_iconst (v := 0) hx hb d_Md_may_20 (by decide) ?_
      exact W.zret (v := 0) hx hb hr (rfl) (fun t ht hW => ⟨_, rfl, by simp [m_mmay, eq_false c_2, eq_true c_4], ht⟩) (fun q h => by cases h) d_Md_may_21

set_option maxHeartbeats 4000000 in
set_option maxRecDepth 100000 in
theorem c_Md_isWhole (l : Launch) (D : va_G)  (h0 : Nat) (u0 : Int32) (a1 : Nat) (u2 : Int32) (u3 : Int32) (a4 : Nat) (a5 : Nat) (a6 : Nat) (a7 : Nat) (a8 : Nat) (a9 : Nat) (a10 : Nat) (a11 : Nat) (u12 : Int32) (u13 : Int32) (a14 : Nat) (a15 : Nat) (a16 : Nat) (u17 : Int32) (a18 : Nat) (a19 : Nat) (a20 : Nat) (u21 : Int32) (a22 : Nat) (a23 : Nat) (u24 : Int32) (a25 : Nat) (a26 : Nat) (u27 : Int32) (u28 : Int32) (u29 : Int32) (u30 : Int32) (k4 : ClassId) (k7 : ClassId) (k8 : ClassId) (k10 : ClassId) (c4 : Nat → Int32) (c7 : Nat → Int32) (c8 : Nat → Int32) (c10 : Nat → Int32) (p0 : Int32) (sz : Nat) (hc : u0 ≤ 8) (hst : ∀ i, i < 8 → ¬ c4 i < 0 ∧ c4 i ≤ 30) (hrc : ∀ i, i < 8 → ¬ c8 i < 0 ∧ c8 i ≤ 10) (hx8 : vp_in p0 8) : Met l y_Md_isWhole ws_Md_isWhole ({ frames := 2, cells := 0, slots := 0, locals := 44 }) (va_Pc [.ref h0, .int p0] (cx_pre D [(k4, .int), (k7, .int), (k8, .int), (k10, .int)] ([(h0, .inr (6, [.int u0, .ref a1, .int u2, .int u3, .ref a4, .ref a5, .ref a6, .ref a7, .ref a8, .ref a9, .ref a10, .ref a11, .int u12, .int u13, .ref a14, .ref a15, .ref a16, .int u17, .ref a18, .ref a19, .ref a20, .int u21, .ref a22, .ref a23, .int u24, .ref a25, .ref a26, .int u27, .int u28, .int u29, .int u30])), (a4, .inl (k4, 8, .inl c4)), (a7, .inl (k7, 240, .inl c7)), (a8, .inl (k8, 8, .inl c8)), (a10, .inl (k10, 80, .inl c10))]) sz)) (vp_Si (fun r9 => r9 = m_mwhole u0 c4 c7 c8 c10 p0)) 0 0 (fun _ => False) := by
  refine Met.ofW (cc := b_Md_isWhole) (maxL := 2) (ret := (some .boolean)) (by decide) rfl ?_
  intro p e s m args below meth c s₁ B hml hv
  obtain ⟨rfl, hsz, hP, hK, hD0, hN, hO⟩ := hv
  have hx := B.exec
  have hb := B.bytes
  have hr := B.returns
  have hts := fun (w : Cond) (h : w ∈ cx_tbl) => atoms_spec (ws := ws_Md_isWhole) B.pre w (List.mem_cons_of_mem _ h)
  have hown : s.vm.findClass R_Md = some m.cls := findClass_of_methodNamed B.named
  have hlocks := B.notSynchronized
  subst hsz
  have hD := hD0.self (sz := s.heap.size)
  generalize hAe : va_A ([(h0, .inr (6, [.int u0, .ref a1, .int u2, .int u3, .ref a4, .ref a5, .ref a6, .ref a7, .ref a8, .ref a9, .ref a10, .ref a11, .int u12, .int u13, .ref a14, .ref a15, .ref a16, .int u17, .ref a18, .ref a19, .ref a20, .int u21, .ref a22, .ref a23, .int u24, .ref a25, .ref a26, .int u27, .int u28, .int u29, .int u30])), (a4, .inl (k4, 8, .inl c4)), (a7, .inl (k7, 240, .inl c7)), (a8, .inl (k8, 8, .inl c8)), (a10, .inl (k10, 80, .inl c10))]) s.heap.size = A at hD hO
  have hA : ∀ q : Nat, s.heap.size ≤ q → A q := fun q h => by rw [← hAe]; exact Or.inr h
  have hS : va_S A s.heap s.heap [] := va_S.rf
  have hl := lv_entry ([.ref h0, .int p0]) (n := 2) (Nat.le_of_ble_eq_true rfl)
  rw [lg_entry_eq]
  generalize (lg_sl ([.ref h0, .int p0]) ++ List.replicate (2 - (lg_sl ([.ref h0, .int p0])).length) Slot.unset).toArray = ls at hl ⊢
  have hl : lv_has ls 2 [(0, .ref h0), (1, .int p0)] := hl
  refine lv_aload_n hx hb d_Md_isWhole_0 rfl (lv_at hl 0 rfl) ?_
  refine lv_iload_n hx hb d_Md_isWhole_1 rfl (lv_at hl 1 rfl) ?_
  have hPc := hP.sub (ws' := [(h0, .inr (6, [.int u0, .ref a1, .int u2, .int u3, .ref a4, .ref a5, .ref a6, .ref a7, .ref a8, .ref a9, .ref a10, .ref a11, .int u12, .int u13, .ref a14, .ref a15, .ref a16, .int u17, .ref a18, .ref a19, .ref a20, .int u21, .ref a22, .ref a23, .int u24, .ref a25, .ref a26, .int u27, .int u28, .int u29, .int u30])), (a4, .inl (k4, 8, .inl c4)), (a8, .inl (k8, 8, .inl c8))]) [0, 1, 3] rfl
  have hDc := hD.sub (ws' := [(h0, .inr (6, [.int u0, .ref a1, .int u2, .int u3, .ref a4, .ref a5, .ref a6, .ref a7, .ref a8, .ref a9, .ref a10, .ref a11, .int u12, .int u13, .ref a14, .ref a15, .ref a16, .int u17, .ref a18, .ref a19, .ref a20, .int u21, .ref a22, .ref a23, .int u24, .ref a25, .ref a26, .int u27, .int u28, .int u29, .int u30])), (a4, .inl (k4, 8, .inl c4)), (a8, .inl (k8, 8, .inl c8))]) [0, 1, 3] (by decide) rfl
  have hKc := hK.sub (tys' := [(k4, .int), (k8, .int)]) [0, 2] rfl
  have hFc := va_free (wc := [(h0, .inr (6, [.int u0, .ref a1, .int u2, .int u3, .ref a4, .ref a5, .ref a6, .ref a7, .ref a8, .ref a9, .ref a10, .ref a11, .int u12, .int u13, .ref a14, .ref a15, .ref a16, .int u17, .ref a18, .ref a19, .ref a20, .int u21, .ref a22, .ref a23, .int u24, .ref a25, .ref a26, .int u27, .int u28, .int u29, .int u30])), (a4, .inl (k4, 8, .inl c4)), (a8, .inl (k8, 8, .inl c8))]) hD hS hA [0, 1, 3] rfl
  refine vp_callSi (va_Run.run (va_runV (As := [.int p0]) (rest := [])  ⟨hx, hb, hml, hown, hts⟩ (c_Md_isOpen l D h0 u0 a1 u2 u3 a4 a5 a6 a7 a8 a9 a10 a11 u12 u13 a14 a15 a16 u17 a18 a19 a20 u21 a22 a23 u24 a25 a26 u27 u28 u29 u30 k4 k8 c4 c8 p0 s.heap.size (by assumption)) ⟨callB_of 1 hts cg_Md_isOpen rfl rfl rfl (hts _ cw_10) (hts _ cw_936) (by decide +kernel) ⟨Nat.le_of_ble_eq_true rfl, Nat.le_of_ble_eq_true rfl⟩, hts _ cw_938, hts _ cs_25⟩ (cx_preV (C := R_Md) [.int p0] hPc hKc hDc hN hO hS hFc (ci := 6) (q0 := 0) rfl rfl rfl) rfl rfl hl.1 rfl (lv_room (Nat.le_of_ble_eq_true rfl)) d_Md_isWhole_2 ⟨Nat.le_of_ble_eq_true rfl, Nat.le_of_ble_eq_true rfl⟩)) (fun r z_1 => ?_)
  subst z_1
  refine lv_if_ne (tgt := 20) hx hb d_Md_isWhole_5 (by decide) (fun c_2 => ?_) (fun c_2 => ?_)
  · refine lv_iconst (v := 0) hx hb d_Md_isWhole_20 (by decide) ?_
    exact W.zret (v := 0) hx hb hr (rfl) (fun t ht hW => ⟨_, rfl, by simp [m_mwhole, eq_false c_2], ht⟩) (fun q h => by cases h) d_Md_isWhole_21
  · refine lv_aload_n hx hb d_Md_isWhole_8 rfl (lv_at hl 0 rfl) ?_
    refine lv_iload_n hx hb d_Md_isWhole_9 rfl (lv_at hl 1 rfl) ?_
    have hPc := hP.sub (ws' := [(h0, .inr (6, [.int u0, .ref a1, .int u2, .int u3, .ref a4, .ref a5, .ref a6, .ref a7, .ref a8, .ref a9, .ref a10, .ref a11, .int u12, .int u13, .ref a14, .ref a15, .ref a16, .int u17, .ref a18, .ref a19, .ref a20, .int u21, .ref a22, .ref a23, .int u24, .ref a25, .ref a26, .int u27, .int u28, .int u29, .int u30])), (a4, .inl (k4, 8, .inl c4)), (a7, .inl (k7, 240, .inl c7)), (a8, .inl (k8, 8, .inl c8)), (a10, .inl (k10, 80, .inl c10))]) [0, 1, 2, 3, 4] rfl
    have hDc := hD.sub (ws' := [(h0, .inr (6, [.int u0, .ref a1, .int u2, .int u3, .ref a4, .ref a5, .ref a6, .ref a7, .ref a8, .ref a9, .ref a10, .ref a11, .int u12, .int u13, .ref a14, .ref a15, .ref a16, .int u17, .ref a18, .ref a19, .ref a20, .int u21, .ref a22, .ref a23, .int u24, .ref a25, .ref a26, .int u27, .int u28, .int u29, .int u30])), (a4, .inl (k4, 8, .inl c4)), (a7, .inl (k7, 240, .inl c7)), (a8, .inl (k8, 8, .inl c8)), (a10, .inl (k10, 80, .inl c10))]) [0, 1, 2, 3, 4] (by decide) rfl
    have hKc := hK.sub (tys' := [(k4, .int), (k7, .int), (k8, .int), (k10, .int)]) [0, 1, 2, 3] rfl
    have hFc := va_free (wc := [(h0, .inr (6, [.int u0, .ref a1, .int u2, .int u3, .ref a4, .ref a5, .ref a6, .ref a7, .ref a8, .ref a9, .ref a10, .ref a11, .int u12, .int u13, .ref a14, .ref a15, .ref a16, .int u17, .ref a18, .ref a19, .ref a20, .int u21, .ref a22, .ref a23, .int u24, .ref a25, .ref a26, .int u27, .int u28, .int u29, .int u30])), (a4, .inl (k4, 8, .inl c4)), (a7, .inl (k7, 240, .inl c7)), (a8, .inl (k8, 8, .inl c8)), (a10, .inl (k10, 80, .inl c10))]) hD hS hA [0, 1, 2, 3, 4] rfl
    refine vp_callSi (va_Run.run (va_runV (As := [.int p0]) (rest := [])  ⟨hx, hb, hml, hown, hts⟩ (c_Md_uns l D h0 u0 a1 u2 u3 a4 a5 a6 a7 a8 a9 a10 a11 u12 u13 a14 a15 a16 u17 a18 a19 a20 u21 a22 a23 u24 a25 a26 u27 u28 u29 u30 k4 k7 k8 k10 c4 c7 c8 c10 p0 s.heap.size (by assumption) (by assumption) (by assumption)) ⟨callB_of 1 hts cg_Md_uns rfl rfl rfl (hts _ cw_10) (hts _ cw_951) (by decide +kernel) ⟨Nat.le_of_ble_eq_true rfl, Nat.le_of_ble_eq_true rfl⟩, hts _ cw_891, hts _ cw_892⟩ (cx_preV (C := R_Md) [.int p0] hPc hKc hDc hN hO hS hFc (ci := 6) (q0 := 0) rfl rfl rfl) rfl rfl hl.1 rfl (lv_room (Nat.le_of_ble_eq_true rfl)) d_Md_isWhole_10 ⟨Nat.le_of_ble_eq_true rfl, Nat.le_of_ble_eq_true rfl⟩)) (fun r z_3 => ?_)
    subst z_3
    refine lv_if_ne (tgt := 20) hx hb d_Md_isWhole_13 (by decide) (fun c_4 => ?_) (fun c_4 => ?_)
    · refine lv_iconst (v := 0) hx hb d_Md_isWhole_20 (by decide) ?_
      exact W.zret (v := 0) hx hb hr (rfl) (fun t ht hW => ⟨_, rfl, by simp [m_mwhole, eq_true c_2, eq_false c_4], ht⟩) (fun q h => by cases h) d_Md_isWhole_21
    · refine lv_iconst (v := 1) hx hb d_Md_isWhole_16 (by decide) ?_
      refine lv_goto (tgt := 21) hx hb d_Md_isWhole_17 (by decide) ?_
      exact W.zret (v := 1) hx hb hr (rfl) (fun t ht hW => ⟨_, rfl, by simp [m_mwhole, eq_true c_2, eq_true c_4], ht⟩) (fun q h => by cases h) d_Md_isWhole_21

set_option maxHeartbeats 4000000 in
set_option maxRecDepth 100000 in
theorem c_Md_fade (l : Launch) (D : va_G)  (h0 : Nat) (u0 : Int32) (a1 : Nat) (u2 : Int32) (u3 : Int32) (a4 : Nat) (a5 : Nat) (a6 : Nat) (a7 : Nat) (a8 : Nat) (a9 : Nat) (a10 : Nat) (a11 : Nat) (u12 : Int32) (u13 : Int32) (a14 : Nat) (a15 : Nat) (a16 : Nat) (u17 : Int32) (a18 : Nat) (a19 : Nat) (a20 : Nat) (u21 : Int32) (a22 : Nat) (a23 : Nat) (u24 : Int32) (a25 : Nat) (a26 : Nat) (u27 : Int32) (u28 : Int32) (u29 : Int32) (u30 : Int32) (k4 : ClassId) (k5 : ClassId) (k6 : ClassId) (k25 : ClassId) (k26 : ClassId) (c4 : Nat → Int32) (c5 : Nat → Int32) (c6 : Nat → Int32) (c25 : Nat → Int32) (c26 : Nat → Int32) (p0 : Int32) (p1 : Int32) (sz : Nat) (hc : u0 ≤ 8) (hst : ∀ i, i < 8 → ¬ c4 i < 0 ∧ c4 i ≤ 30) (hz1 : u24 ≤ 6) : Met l y_Md_fade ws_Md_fade ({ frames := 2, cells := 0, slots := 0, locals := 46 }) (va_Pc [.ref h0, .int p0, .int p1] (cx_pre D [(k4, .int), (k5, .int), (k6, .int), (k25, .int), (k26, .int)] ([(h0, .inr (6, [.int u0, .ref a1, .int u2, .int u3, .ref a4, .ref a5, .ref a6, .ref a7, .ref a8, .ref a9, .ref a10, .ref a11, .int u12, .int u13, .ref a14, .ref a15, .ref a16, .int u17, .ref a18, .ref a19, .ref a20, .int u21, .ref a22, .ref a23, .int u24, .ref a25, .ref a26, .int u27, .int u28, .int u29, .int u30])), (a4, .inl (k4, 8, .inl c4)), (a5, .inl (k5, 240, .inl c5)), (a6, .inl (k6, 240, .inl c6)), (a25, .inl (k25, 6, .inl c25)), (a26, .inl (k26, 6, .inl c26))]) sz)) (vp_Sl (fun r9 => r9 = m_mfade u0 u24 c4 c5 c6 c25 c26 p0 p1)) 0 0 (fun _ => False) := by
  refine Met.ofW (cc := b_Md_fade) (maxL := 9) (ret := (some .long)) (by decide) rfl ?_
  intro p e s m args below meth c s₁ B hml hv
  obtain ⟨rfl, hsz, hP, hK, hD0, hN, hO⟩ := hv
  have hx := B.exec
  have hb := B.bytes
  have hr := B.returns
  have hts := fun (w : Cond) (h : w ∈ cx_tbl) => atoms_spec (ws := ws_Md_fade) B.pre w (List.mem_cons_of_mem _ h)
  have hown : s.vm.findClass R_Md = some m.cls := findClass_of_methodNamed B.named
  have hlocks := B.notSynchronized
  subst hsz
  have hD := hD0.self (sz := s.heap.size)
  generalize hAe : va_A ([(h0, .inr (6, [.int u0, .ref a1, .int u2, .int u3, .ref a4, .ref a5, .ref a6, .ref a7, .ref a8, .ref a9, .ref a10, .ref a11, .int u12, .int u13, .ref a14, .ref a15, .ref a16, .int u17, .ref a18, .ref a19, .ref a20, .int u21, .ref a22, .ref a23, .int u24, .ref a25, .ref a26, .int u27, .int u28, .int u29, .int u30])), (a4, .inl (k4, 8, .inl c4)), (a5, .inl (k5, 240, .inl c5)), (a6, .inl (k6, 240, .inl c6)), (a25, .inl (k25, 6, .inl c25)), (a26, .inl (k26, 6, .inl c26))]) s.heap.size = A at hD hO
  have hA : ∀ q : Nat, s.heap.size ≤ q → A q := fun q h => by rw [← hAe]; exact Or.inr h
  have hS : va_S A s.heap s.heap [] := va_S.rf
  have hl := lv_entry ([.ref h0, .int p0, .int p1]) (n := 9) (Nat.le_of_ble_eq_true rfl)
  rw [lg_entry_eq]
  generalize (lg_sl ([.ref h0, .int p0, .int p1]) ++ List.replicate (9 - (lg_sl ([.ref h0, .int p0, .int p1])).length) Slot.unset).toArray = ls at hl ⊢
  have hl : lv_has ls 9 [(0, .ref h0), (1, .int p0), (2, .int p1)] := hl
  refine cx_q (fun Q hQ => ?_)
  refine lv_aload_n hx hb d_Md_fade_0 rfl (lv_at hl 0 rfl) ?_
  refine lv_iload_n hx hb d_Md_fade_1 rfl (lv_at hl 1 rfl) ?_
  have hPc := hP.sub (ws' := [(h0, .inr (6, [.int u0, .ref a1, .int u2, .int u3, .ref a4, .ref a5, .ref a6, .ref a7, .ref a8, .ref a9, .ref a10, .ref a11, .int u12, .int u13, .ref a14, .ref a15, .ref a16, .int u17, .ref a18, .ref a19, .ref a20, .int u21, .ref a22, .ref a23, .int u24, .ref a25, .ref a26, .int u27, .int u28, .int u29, .int u30]))]) [0] rfl
  have hDc := hD.sub (ws' := [(h0, .inr (6, [.int u0, .ref a1, .int u2, .int u3, .ref a4, .ref a5, .ref a6, .ref a7, .ref a8, .ref a9, .ref a10, .ref a11, .int u12, .int u13, .ref a14, .ref a15, .ref a16, .int u17, .ref a18, .ref a19, .ref a20, .int u21, .ref a22, .ref a23, .int u24, .ref a25, .ref a26, .int u27, .int u28, .int u29, .int u30]))]) [0] (by decide) rfl
  have hKc := hK.sub (tys' := []) [] rfl
  have hFc := va_free (wc := [(h0, .inr (6, [.int u0, .ref a1, .int u2, .int u3, .ref a4, .ref a5, .ref a6, .ref a7, .ref a8, .ref a9, .ref a10, .ref a11, .int u12, .int u13, .ref a14, .ref a15, .ref a16, .int u17, .ref a18, .ref a19, .ref a20, .int u21, .ref a22, .ref a23, .int u24, .ref a25, .ref a26, .int u27, .int u28, .int u29, .int u30]))]) hD hS hA [0] rfl
  refine vp_callSi (va_Run.run (va_runV (As := [.int p0]) (rest := [])  ⟨hx, hb, hml, hown, hts⟩ (c_Md_isCell l D h0 u0 a1 u2 u3 a4 a5 a6 a7 a8 a9 a10 a11 u12 u13 a14 a15 a16 u17 a18 a19 a20 u21 a22 a23 u24 a25 a26 u27 u28 u29 u30 p0 s.heap.size ) ⟨callB_of 1 hts cg_Md_isCell rfl rfl rfl (hts _ cw_10) (hts _ cw_844) (by decide +kernel) ⟨Nat.le_of_ble_eq_true rfl, Nat.le_of_ble_eq_true rfl⟩, hts _ cw_846, hts _ cs_16⟩ (cx_preV (C := R_Md) [.int p0] hPc hKc hDc hN hO hS hFc (ci := 6) (q0 := 0) rfl rfl rfl) rfl rfl hl.1 rfl (lv_room (Nat.le_of_ble_eq_true rfl)) d_Md_fade_2 ⟨Nat.le_of_ble_eq_true rfl, Nat.le_of_ble_eq_true rfl⟩)) (fun r z_1 => ?_)
  subst z_1
  refine lv_if_eq (tgt := 20) hx hb d_Md_fade_5 (by decide) (fun c_2 => ?_) (fun c_2 => ?_)
  · refine lv_ldc2 (v := (-9223372036854775808)) hx hb hown (hts _ cw_867) d_Md_fade_20 ?_
    subst hQ
    exact W.lret (v := (-9223372036854775808)) hx hb hr (fun t ht hW => ⟨_, rfl, by simp [m_mfade, eq_true c_2], ht⟩) (fun q h => by cases h) d_Md_fade_23
  · refine lv_iload_n hx hb d_Md_fade_8 rfl (lv_at hl 2 rfl) ?_
    refine lv_i2l hx hb d_Md_fade_9 rfl ?_
    refine lv_lconst (v := 0) hx hb d_Md_fade_10 (by decide) ?_
    refine lv_ldc2 (v := 10000) hx hb hown (hts _ cw_858) d_Md_fade_11 ?_
    have hPc := hP.sub (ws' := []) [] rfl
    have hDc := hD.sub (ws' := []) [] (by decide) rfl
    have hKc := hK.sub (tys' := []) [] rfl
    have hFc := va_free (wc := []) hD hS hA [] rfl
    refine vp_callSi (va_Run.run (va_runS (As := [.long p1.toInt64, .long 0, .long 10000]) (rest := [])  ⟨hx, hb, hml, hown, hts⟩ (c_Md_isIn l D p1.toInt64 0 10000 s.heap.size ) ⟨callB_of 3 hts cg_Md_isIn rfl rfl rfl (hts _ cw_10) (hts _ cw_837) (by decide +kernel) ⟨Nat.le_of_ble_eq_true rfl, Nat.le_of_ble_eq_true rfl⟩, hts _ cw_838⟩ (cx_preS [.long p1.toInt64, .long 0, .long 10000] hPc hKc hDc hN hO hS hFc) rfl rfl hl.1 rfl (lv_room (Nat.le_of_ble_eq_true rfl)) d_Md_fade_14 ⟨Nat.le_of_ble_eq_true rfl, Nat.le_of_ble_eq_true rfl⟩)) (fun r z_3 => ?_)
    subst z_3
    refine lv_if_ne (tgt := 24) hx hb d_Md_fade_17 (by decide) (fun c_4 => ?_) (fun c_4 => ?_)
    · refine lv_aload_n hx hb d_Md_fade_24 rfl (lv_at hl 0 rfl) ?_
      refine lv_iload_n hx hb d_Md_fade_25 rfl (lv_at hl 1 rfl) ?_
      have hPc := hP.sub (ws' := [(h0, .inr (6, [.int u0, .ref a1, .int u2, .int u3, .ref a4, .ref a5, .ref a6, .ref a7, .ref a8, .ref a9, .ref a10, .ref a11, .int u12, .int u13, .ref a14, .ref a15, .ref a16, .int u17, .ref a18, .ref a19, .ref a20, .int u21, .ref a22, .ref a23, .int u24, .ref a25, .ref a26, .int u27, .int u28, .int u29, .int u30])), (a4, .inl (k4, 8, .inl c4)), (a5, .inl (k5, 240, .inl c5)), (a6, .inl (k6, 240, .inl c6))]) [0, 1, 2, 3] rfl
      have hDc := hD.sub (ws' := [(h0, .inr (6, [.int u0, .ref a1, .int u2, .int u3, .ref a4, .ref a5, .ref a6, .ref a7, .ref a8, .ref a9, .ref a10, .ref a11, .int u12, .int u13, .ref a14, .ref a15, .ref a16, .int u17, .ref a18, .ref a19, .ref a20, .int u21, .ref a22, .ref a23, .int u24, .ref a25, .ref a26, .int u27, .int u28, .int u29, .int u30])), (a4, .inl (k4, 8, .inl c4)), (a5, .inl (k5, 240, .inl c5)), (a6, .inl (k6, 240, .inl c6))]) [0, 1, 2, 3] (by decide) rfl
      have hKc := hK.sub (tys' := [(k4, .int), (k5, .int), (k6, .int)]) [0, 1, 2] rfl
      have hFc := va_free (wc := [(h0, .inr (6, [.int u0, .ref a1, .int u2, .int u3, .ref a4, .ref a5, .ref a6, .ref a7, .ref a8, .ref a9, .ref a10, .ref a11, .int u12, .int u13, .ref a14, .ref a15, .ref a16, .int u17, .ref a18, .ref a19, .ref a20, .int u21, .ref a22, .ref a23, .int u24, .ref a25, .ref a26, .int u27, .int u28, .int u29, .int u30])), (a4, .inl (k4, 8, .inl c4)), (a5, .inl (k5, 240, .inl c5)), (a6, .inl (k6, 240, .inl c6))]) hD hS hA [0, 1, 2, 3] rfl
      refine vp_callSl (va_Run.run (va_runV (As := [.int p0]) (rest := [])  ⟨hx, hb, hml, hown, hts⟩ (c_Md_charge l D h0 u0 a1 u2 u3 a4 a5 a6 a7 a8 a9 a10 a11 u12 u13 a14 a15 a16 u17 a18 a19 a20 u21 a22 a23 u24 a25 a26 u27 u28 u29 u30 k4 k5 k6 c4 c5 c6 p0 s.heap.size (by assumption) (by assumption)) ⟨callB_of 1 hts cg_Md_charge rfl rfl rfl (hts _ cw_10) (hts _ cw_944) (by decide +kernel) ⟨Nat.le_of_ble_eq_true rfl, Nat.le_of_ble_eq_true rfl⟩, hts _ cw_864, hts _ cw_865⟩ (cx_preV (C := R_Md) [.int p0] hPc hKc hDc hN hO hS hFc (ci := 6) (q0 := 0) rfl rfl rfl) rfl rfl hl.1 rfl (lv_room (Nat.le_of_ble_eq_true rfl)) d_Md_fade_26 ⟨Nat.le_of_ble_eq_true rfl, Nat.le_of_ble_eq_true rfl⟩)) (fun r z_5 => ?_)
      subst z_5
      refine lv_lstore_n (lv' := [(3, .long (m_mcharge u0 c4 c5 c6 p0)), (0, .ref h0), (1, .int p0), (2, .int p1)]) hx hb d_Md_fade_29 rfl hl (by decide) rfl (fun ls hl => ?_)
      refine lv_iconst (v := 0) hx hb d_Md_fade_30 (by decide) ?_
      refine lv_istore (lv' := [(5, .int 0), (3, .long (m_mcharge u0 c4 c5 c6 p0)), (0, .ref h0), (1, .int p0), (2, .int p1)]) hx hb d_Md_fade_31 hl (by decide) rfl (fun ls hl => ?_)
      have loop_6 : ∀ (n : Nat) (k : Nat) (q : Int64) (hi : k ≤ p1.toNatClampNeg) (hn : k + n = p1.toNatClampNeg + 1) (hg : m_fadeR c25 c26 u24 p1 (p1.toNatClampNeg + 1) 0 (m_mcharge u0 c4 c5 c6 p0) = m_fadeR c25 c26 u24 p1 n k q) (ls : Array Slot) (hl : lv_has ls 9 [(0, .ref h0), (1, .int p0), (2, .int p1), (3, .long q), (5, .int (nI k))]), W p l e ({ frames := 2, cells := 0, slots := 0, locals := 46 }) s m [.ref h0, .int p0, .int p1].toArray below meth c s.heap [] 0 0 Q (F0 m 33 ls []) := by
        intro n
        induction n with
        | zero =>
          intro k q hi hn hg ls hl
          exact absurd hn (by omega)
        | succ n ih_33 =>
          intro k q hi hn hg ls hl
          refine lv_iload hx hb d_Md_fade_33 (lv_at hl 4 rfl) ?_
          refine lv_iload_n hx hb d_Md_fade_35 rfl (lv_at hl 2 rfl) ?_
          refine lv_icmp_ge (tgt := 104) hx hb d_Md_fade_36 (by decide) (fun c_7 => ?_) (fun c_7 => ?_)
          · refine lv_lload_n hx hb d_Md_fade_104 rfl (lv_at hl 3 rfl) ?_
            subst hQ
            exact W.lret (v := q) hx hb hr (fun t ht hW => ⟨_, rfl, (by have hy := hg.trans (by rw [m_fadeR, if_pos c_7]); simp [m_mfade, hy, eq_false c_2, eq_false c_4, eq_true c_7]), ht⟩) (fun q h => by cases h) d_Md_fade_105
          · refine lv_lconst (v := 0) hx hb d_Md_fade_39 (by decide) ?_
            refine lv_lstore (lv' := [(6, .long 0), (0, .ref h0), (1, .int p0), (2, .int p1), (3, .long q), (5, .int (nI k))]) hx hb d_Md_fade_40 hl (by decide) rfl (fun ls hl => ?_)
            refine lv_iconst (v := 0) hx hb d_Md_fade_42 (by decide) ?_
            refine lv_istore (lv' := [(8, .int 0), (6, .long 0), (0, .ref h0), (1, .int p0), (2, .int p1), (3, .long q), (5, .int (nI k))]) hx hb d_Md_fade_43 hl (by decide) rfl (fun ls hl => ?_)
            have loop_8 : ∀ (n : Nat) (j : Nat) (lo : Int64) (hi2 : j ≤ u24.toNatClampNeg) (hn2 : j + n = u24.toNatClampNeg + 1) (hg2 : m_lostAt c25 c26 u24 k (u24.toNatClampNeg + 1) 0 0 = m_lostAt c25 c26 u24 k n j lo) (ls : Array Slot) (hl : lv_has ls 9 [(0, .ref h0), (1, .int p0), (2, .int p1), (3, .long q), (5, .int (nI k)), (6, .long lo), (8, .int (nI j))]), W p l e ({ frames := 2, cells := 0, slots := 0, locals := 46 }) s m [.ref h0, .int p0, .int p1].toArray below meth c s.heap [] 0 0 Q (F0 m 45 ls []) := by
              intro n
              induction n with
              | zero =>
                intro j lo hi2 hn2 hg2 ls hl
                exact absurd hn2 (by omega)
              | succ n ih_45 =>
                intro j lo hi2 hn2 hg2 ls hl
                refine lv_iload hx hb d_Md_fade_45 (lv_at hl 6 rfl) ?_
                refine lv_aload_n hx hb d_Md_fade_47 rfl (lv_at hl 0 rfl) ?_
                refine va_get (D := D) (ci := 6) (v := .int u24) (C := R_Md) (T := T_Md) (N := 31) hx hb hts in_Md hown hK hP 0 rfl rfl 24 (by decide) (hts _ cw_758) (fun _ h9 => h9) rfl d_Md_fade_48 ?_
                refine lv_icmp_ge (tgt := 87) hx hb d_Md_fade_51 (by decide) (fun c_9 => ?_) (fun c_9 => ?_)
                · have hz : m_lostAt c25 c26 u24 k (u24.toNatClampNeg + 1) 0 0 = lo := hg2.trans (by rw [m_lostAt, if_pos c_9])
                  refine lv_lload_n hx hb d_Md_fade_87 rfl (lv_at hl 3 rfl) ?_
                  refine lv_lload_n hx hb d_Md_fade_88 rfl (lv_at hl 3 rfl) ?_
                  refine lv_lload hx hb d_Md_fade_89 (lv_at hl 5 rfl) ?_
                  refine lv_lmul hx hb d_Md_fade_91 ?_
                  refine lv_ldc2 (v := 1000) hx hb hown (hts _ cw_981) d_Md_fade_92 ?_
                  refine lv_ldiv hx hb d_Md_fade_95 (by decide) ?_
                  refine lv_lsub hx hb d_Md_fade_96 ?_
                  refine lv_lstore_n (lv' := [(3, .long (q - ((q * lo) / 1000))), (0, .ref h0), (1, .int p0), (2, .int p1), (5, .int (nI k)), (6, .long lo), (8, .int (nI j))]) hx hb d_Md_fade_97 rfl hl (by decide) rfl (fun ls hl => ?_)
                  refine lv_iinc (v := nI (k + 1)) (lv' := [(5, .int (nI (k + 1))), (3, .long (q - ((q * lo) / 1000))), (0, .ref h0), (1, .int p0), (2, .int p1), (6, .long lo), (8, .int (nI j))]) hx hb d_Md_fade_98 hl (k := 4) rfl (nI_1 k) (by decide) rfl (fun ls hl => ?_)
                  refine lv_goto (tgt := 33) hx hb d_Md_fade_101 (by decide) ?_
                  exact ih_33 (k + 1) (q - ((q * lo) / 1000)) (ix_clamp c_7 (Nat.lt_of_le_of_lt hi (Int32.toNatClampNeg_lt _))) (by omega) (hg.trans (by rw [m_fadeR]; simp [eq_false c_2, eq_false c_4, eq_false c_7, eq_true c_9, hz])) ls (lv_sub hl [2, 3, 4, 1, 0] rfl)
                · refine lv_aload_n hx hb d_Md_fade_54 rfl (lv_at hl 0 rfl) ?_
                  refine va_get (D := D) (ci := 6) (v := .ref a25) (C := R_Md) (T := T_Md) (N := 31) hx hb hts in_Md hown hK hP 0 rfl rfl 25 (by decide) (hts _ cw_759) (fun _ h9 => h9) rfl d_Md_fade_55 ?_
                  refine lv_iload hx hb d_Md_fade_58 (lv_at hl 6 rfl) ?_
                  refine va_iald hx hb hK hP 4 3 rfl rfl (ix_via (n := 6) (by decide) c_9 hz1 (Nat.lt_of_le_of_lt hi2 (Int32.toNatClampNeg_lt _))) d_Md_fade_60 ?_
                  refine lv_iload hx hb d_Md_fade_61 (lv_at hl 4 rfl) ?_
                  refine lv_icmp_gt (tgt := 77) hx hb d_Md_fade_63 (by decide) (fun c_10 => ?_) (fun c_10 => ?_)
                  · refine lv_lload hx hb d_Md_fade_77 (lv_at hl 5 rfl) ?_
                    refine lv_lstore (lv' := [(6, .long lo), (0, .ref h0), (1, .int p0), (2, .int p1), (3, .long q), (5, .int (nI k)), (8, .int (nI j))]) hx hb d_Md_fade_79 hl (by decide) rfl (fun ls hl => ?_)
                    refine lv_iinc (v := nI (j + 1)) (lv' := [(8, .int (nI (j + 1))), (6, .long lo), (0, .ref h0), (1, .int p0), (2, .int p1), (3, .long q), (5, .int (nI k))]) hx hb d_Md_fade_81 hl (k := 6) rfl (nI_1 j) (by decide) rfl (fun ls hl => ?_)
                    refine lv_goto (tgt := 45) hx hb d_Md_fade_84 (by decide) ?_
                    exact ih_45 (j + 1) lo (ix_clamp c_9 (Nat.lt_of_le_of_lt hi2 (Int32.toNatClampNeg_lt _))) (by omega) (hg2.trans (by rw [m_lostAt]; simp [eq_false c_2, eq_false c_4, eq_false c_7, eq_false c_9, eq_true c_10])) ls (lv_sub hl [2, 3, 4, 5, 6, 1, 0] rfl)
                  · refine lv_aload_n hx hb d_Md_fade_66 rfl (lv_at hl 0 rfl) ?_
                    refine va_get (D := D) (ci := 6) (v := .ref a26) (C := R_Md) (T := T_Md) (N := 31) hx hb hts in_Md hown hK hP 0 rfl rfl 26 (by decide) (hts _ cw_760) (fun _ h9 => h9) rfl d_Md_fade_67 ?_
                    refine lv_iload hx hb d_Md_fade_70 (lv_at hl 6 rfl) ?_
                    refine va_iald hx hb hK hP 5 4 rfl rfl (ix_via (n := 6) (by decide) c_9 hz1 (Nat.lt_of_le_of_lt hi2 (Int32.toNatClampNeg_lt _))) d_Md_fade_72 ?_
                    refine lv_i2l hx hb d_Md_fade_73 rfl ?_
                    refine lv_goto (tgt := 79) hx hb d_Md_fade_74 (by decide) ?_
                    refine lv_lstore (lv' := [(6, .long ((c26 ((nI j).toNatClampNeg)).toInt64)), (0, .ref h0), (1, .int p0), (2, .int p1), (3, .long q), (5, .int (nI k)), (8, .int (nI j))]) hx hb d_Md_fade_79 hl (by decide) rfl (fun ls hl => ?_)
                    refine lv_iinc (v := nI (j + 1)) (lv' := [(8, .int (nI (j + 1))), (6, .long ((c26 ((nI j).toNatClampNeg)).toInt64)), (0, .ref h0), (1, .int p0), (2, .int p1), (3, .long q), (5, .int (nI k))]) hx hb d_Md_fade_81 hl (k := 6) rfl (nI_1 j) (by decide) rfl (fun ls hl => ?_)
                    refine lv_goto (tgt := 45) hx hb d_Md_fade_84 (by decide) ?_
                    exact ih_45 (j + 1) ((c26 ((nI j).toNatClampNeg)).toInt64) (ix_clamp c_9 (Nat.lt_of_le_of_lt hi2 (Int32.toNatClampNeg_lt _))) (by omega) (hg2.trans (by rw [m_lostAt]; simp [eq_false c_2, eq_false c_4, eq_false c_7, eq_false c_9, eq_false c_10])) ls (lv_sub hl [2, 3, 4, 5, 6, 1, 0] rfl)
            exact loop_8 (u24.toNatClampNeg + 1) 0 0 (by omega) (by omega) (rfl) ls (lv_sub hl [2, 3, 4, 5, 6, 1, 0] rfl)
      exact loop_6 (p1.toNatClampNeg + 1) 0 (m_mcharge u0 c4 c5 c6 p0) (by omega) (by omega) (rfl) ls (lv_sub hl [2, 3, 4, 1, 0] rfl)
    · refine lv_ldc2 (v := (-9223372036854775808)) hx hb hown (hts _ cw_867) d_Md_fade_20 ?_
      subst hQ
      exact W.lret (v := (-9223372036854775808)) hx hb hr (fun t ht hW => ⟨_, rfl, by simp [m_mfade, eq_false c_2, eq_true c_4], ht⟩) (fun q h => by cases h) d_Md_fade_23
