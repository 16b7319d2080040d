-- answers of one cell: both sides
section RA
variable {nc : Nat} {cnt u0 : Int32} {fc : Nat → Option Nat} {LP : List Nat} {ce : Nat → CeT} {c1 c4 c5 c6 c7 c8 c9 c10 : Nat → Int32} {p0 p1 p2 p3 : Int32} {i k r : Nat} {t : CeT}
theorem r_is (hi : i < nc) (h : r_cells nc cnt u0 fc LP ce c1 c4 c5 c6 c7 c8 c9 c10) : m_isCell u0 (nI i) = 1 := by
  have h8 := h.1
  rw [m_isCell, h.2.2.1]
  exact if_neg (by rintro (z | z); exact nI_pos (by omega) z; exact nI_ge hi (by omega) z)
theorem r_turnOf (hi : i < 8) (hk : k ≤ 30) (e4 : c4 i = nI k) : (m_turnOf c4 c6 (nI i) < 0 ∧ r_vt c6 c7 i k = (0, 0)) ∨ ∃ x, 1 ≤ x ∧ x < k ∧ m_turnOf c4 c6 (nI i) = nI (30 * i + x) ∧ ¬ c6 (30 * i + x) = c6 (30 * i + (x - 1)) ∧ r_vt c6 c7 i k = (m_abs (c7 (30 * i + x) - c7 (30 * i + (x - 1))), m_abs (c6 (30 * i + x) - c6 (30 * i + (x - 1)))) := by
  unfold m_turnOf
  rw [x_c (by omega), e4, x_30, show 30 * nI i + 1 = nI (30 * i + 1) from x_30 i 1, nI_toInt (by omega), nI_toInt (by omega)]
  by_cases h0 : k = 0
  · subst h0
    rw [m_turn, if_pos (nI_le (by omega) (by omega))]
    exact Or.inl ⟨by decide, rfl⟩
  · exact r_trn hi hk _ 1 (-1) (by omega) (by omega) (by omega) (Or.inl ⟨by decide, rfl⟩)
theorem r_res (hi : i < nc) (h : r_cells nc cnt u0 fc LP ce c1 c4 c5 c6 c7 c8 c9 c10) (hk : k ≤ 30) (e4 : c4 i = nI k) (hs : r_stp i k t c5 c6 c7) (p1 : Int32) : m_mres u0 c4 c6 c7 (nI i) p1 = m_cres t.2.2.2.2.2.1 t.2.2.2.2.2.2.1 p1 ∧
    ((m_turnOf c4 c6 (nI i) < 0 ∧ t.2.2.2.2.2.2.1 = 0) ∨ (¬ m_turnOf c4 c6 (nI i) < 0 ∧ ∃ a b, a < 2 ^ 31 ∧ b < 2 ^ 31 ∧ 0 < b ∧ t.2.2.2.2.2.1 = nI a ∧ t.2.2.2.2.2.2.1 = nI b)) := by
  have h8 := h.1
  obtain ⟨-, -, -, e5, e6⟩ := hs
  have hx8 : vp_in (nI i) 8 := vp_in_nI (by omega) (by decide)
  rcases r_turnOf (c6 := c6) (c7 := c7) (by omega) hk e4 with ⟨q1, q2⟩ | ⟨x, x1, x2, q1, q2, q3⟩
  · rw [e5, e6, q2]
    refine ⟨?_, Or.inl ⟨q1, rfl⟩⟩
    rw [m_mres, if_pos (Or.inr (Or.inr (Int32.not_le.mpr q1)))]
    rfl
  · have hn : ¬ m_turnOf c4 c6 (nI i) < 0 := by rw [q1]; exact nI_pos (by omega)
    have h0 : 0 ≤ m_turnOf c4 c6 (nI i) := Int32.not_lt.mp hn
    have hix := md_turn_ix hx8 (r_hst h) h0
    have g1 := md_size_v (r_hvo h) hix
    have g2 := md_size_a (r_ham h) hix
    have g3 := md_size_ne (r_ham h) hix (md_turn_ne hx8 h0)
    have ec : ∀ c : Nat → Int32, c (m_turnOf c4 c6 (nI i)).toNatClampNeg - c (m_turnOf c4 c6 (nI i) - 1).toNatClampNeg = c (30 * i + x) - c (30 * i + (x - 1)) := fun c => by
      rw [q1, x_p (by omega), x_c (by omega), x_c (by omega), show 30 * i + x - 1 = 30 * i + (x - 1) by omega]
    rw [ec] at g1 g2 g3
    rw [e5, e6, q3]
    simp only []
    rw [n_size, n_size]
    obtain ⟨a, ha, ea⟩ := nI_of g1
    obtain ⟨b, hb, eb⟩ := nI_of g2
    have hb0 : 0 < b := Nat.pos_of_ne_zero fun z => g3 (by rw [eb, z]; rfl)
    refine ⟨?_, Or.inr ⟨hn, a, b, ha, hb, hb0, ea, eb⟩⟩
    rw [m_mres, ec, ec, ea, eb, m_cres, m_hasRes, if_neg (show ¬ nI b ≤ 0 from nI_ge hb0 hb), if_neg (show ¬ (1 : Int32) = 0 by decide), n_part ha hb hb0]
    by_cases h1 : m_in p1.toInt64 0 1 = 0
    · rw [if_pos (Or.inr (Or.inl h1)), if_pos h1]
    · rw [if_neg, if_neg h1]
      rintro (z | z | z)
      · rw [r_is hi h] at z; exact absurd z (by decide)
      · exact h1 z
      · exact z h0
theorem r_div {a b : Nat} (ha : a < 2 ^ 31) (hb : b < 2 ^ 31) (hb0 : 0 < b) : m_mpart (nI a) (nI b) 0 / m_mpart (nI a) (nI b) 1 = nI a / nI b := by
  have hg : 0 < Nat.gcd a b := Nat.gcd_pos_of_pos_right a hb0
  have hle : Nat.gcd a b ≤ b := Nat.gcd_le_right a hb0
  unfold m_mpart
  rw [if_pos rfl, if_neg (by decide), nI_clamp hb, m_gcdW_gcd (b + 1) a b ha hb (Nat.lt_succ_self _), pk_div ha hg (by omega), pk_div hb hg (by omega)]
  have h1 : 0 < b / Nat.gcd a b := Nat.div_pos hle hg
  have h2 : b / Nat.gcd a b ≤ b := Nat.div_le_self _ _
  have h3 : a / Nat.gcd a b ≤ a := Nat.div_le_self _ _
  rw [pk_div (by omega) h1 (by omega), pk_div ha hb0 hb]
  congr 1
  have e1 : a = Nat.gcd a b * (a / Nat.gcd a b) := (Nat.mul_div_cancel' (Nat.gcd_dvd_left a b)).symm
  have e2 : b = Nat.gcd a b * (b / Nat.gcd a b) := (Nat.mul_div_cancel' (Nat.gcd_dvd_right a b)).symm
  have e3 := Nat.mul_div_mul_left (a / Nat.gcd a b) (b / Nat.gcd a b) hg
  rw [← e1, ← e2] at e3
  exact e3.symm
theorem r_loss (hi : i < nc) (h : r_cells nc cnt u0 fc LP ce c1 c4 c5 c6 c7 c8 c9 c10) (hr : r ≤ 10) (e8 : c8 i = nI r) (hs : r_rst i r t c9 c10) (p1 : Int32) :
    m_mloss u0 c8 c9 c10 (nI i) p1 = m_closs t.2.2.2.2.2.2.2.1 t.2.2.2.2.2.2.2.2.1 t.2.2.2.2.2.2.2.2.2.1 t.2.2.2.2.2.2.2.2.2.2.1 t.2.2.2.2.2.2.2.2.2.2.2 p1 := by
  have h8 := h.1
  obtain ⟨e7, hs2⟩ := hs
  rw [m_closs, m_hasLoss, e7, m_mloss, x_c (by omega), e8]
  by_cases h2 : 2 ≤ r
  · obtain ⟨g8, g9, g10, g11⟩ := hs2 (by omega)
    have hd := md_days (u0 := u0) (c := nI i) (by rw [r_is hi h]; decide) (r_hc h) (r_hrc h) (r_hdy h) (by rw [x_c (by omega), e8]; exact nI_le h2 (by omega))
    rw [x_c (by omega), e8] at hd
    have ex : 10 * nI i + nI r - 1 = nI (10 * i + (r - 1)) := by rw [x_10, x_p (by omega), show 10 * i + r - 1 = 10 * i + (r - 1) by omega]
    rw [ex, x_10z, x_c (by omega), x_c (by omega)] at hd
    rw [ex, x_10z, x_c (by omega), x_c (by omega), g8, g9, g10, g11, if_neg (show ¬ nI r ≤ 1 from nI_ge (a := 1) (by omega) (by omega)), if_neg (show ¬ (1 : Int32) = 0 by decide)]
    have b1 := h.2.2.2.2.2.2.2.1.2.2.2 (10 * i) (by omega)
    have b2 := h.2.2.2.2.2.2.2.1.2.2.2 (10 * i + (r - 1)) (by omega)
    generalize c10 (10 * i) = v1 at *
    generalize c10 (10 * i + (r - 1)) = v2 at *
    have em : m_max 0 (v1 - v2) = if 0 ≤ v1 - v2 then v1 - v2 else 0 := by
      unfold m_max
      by_cases z : 0 < v1 - v2
      · rw [if_pos z, if_pos (Int32.le_of_lt z)]
      · rw [if_neg z]
        split
        · rename_i z2; exact Int32.le_antisymm z2 (Int32.not_lt.mp z)
        · rfl
    rw [em]
    have hx : ¬ (if 0 ≤ v1 - v2 then v1 - v2 else 0) < 0 := by
      split
      · rename_i z; exact Int32.not_lt.mpr z
      · decide
    obtain ⟨a, ha, ea⟩ := nI_of hx
    obtain ⟨b, hb, eb⟩ := nI_of hd.1
    have hb0 : 0 < b := Nat.pos_of_ne_zero fun z => hd.2 (by rw [eb, z]; rfl)
    rw [ea, eb, n_part ha hb hb0]
    by_cases h1 : m_in p1.toInt64 0 1 = 0
    · rw [if_pos (Or.inr (Or.inl h1)), if_pos h1]
    · rw [if_neg, if_neg h1]
      rintro (z | z | z)
      · rw [r_is hi h] at z; exact absurd z (by decide)
      · exact h1 z
      · exact z (nI_le (a := 2) h2 (by omega))
  · rw [if_pos (Or.inr (Or.inr (show ¬ (2 : Int32) ≤ nI r from nI_ge (b := 2) (by omega) (by decide)))), if_pos (show nI r ≤ 1 from nI_le (b := 1) (by omega) (by decide)), if_pos rfl]
theorem r_open (hi : i < 8) (hk : k ≤ 30) (hr : r ≤ 10) (e4 : c4 i = nI k) (e8 : c8 i = nI r) (hs : r_stp i k t c5 c6 c7) (hs2 : r_rst i r t c9 c10) : m_mopen c4 c8 (nI i) = m_open t.2.1 t.2.2.2.2.2.2.2.1 := by
  rw [m_mopen, m_open, x_c (by omega), e4, e8, hs.1, hs2.1]
theorem r_uns (hi : i < nc) (h : r_cells nc cnt u0 fc LP ce c1 c4 c5 c6 c7 c8 c9 c10) (hk : k ≤ 30) (hr : r ≤ 10) (e4 : c4 i = nI k) (e8 : c8 i = nI r) (hs : r_stp i k t c5 c6 c7) (hs2 : r_rst i r t c9 c10) :
    m_muns u0 c4 c7 c8 c10 (nI i) = m_uns t.2.1 t.2.2.2.2.1 t.2.2.2.2.2.2.2.1 t.2.2.2.2.2.2.2.2.2.2.2 := by
  have h8 := h.1
  rw [m_muns, if_neg (by rw [r_is hi h]; decide), m_uns, m_lastRest, x_c (by omega), e4, e8, hs.1, hs2.1]
  have A : (¬ nI r ≤ 0 ∧ (c10 (10 * nI i + nI r - 1).toNatClampNeg < 1000 ∨ ¬ c10 (10 * nI i + nI r - 1).toNatClampNeg ≤ 4500)) ↔ (¬ nI r ≤ 0 ∧ m_in (t.2.2.2.2.2.2.2.2.2.2.2).toInt64 1000 4500 = 0) := by
    refine and_congr_right (fun z => ?_)
    have hr0 : 0 < r := ix_nge (i := 0) z (by omega) (by decide) |> fun q => q
    rw [(hs2.2 hr0).2.2.2, x_10, x_p (by omega), x_c (by omega), show 10 * i + r - 1 = 10 * i + (r - 1) by omega, n_inR, show (1000 : Int64).toInt = 1000 from rfl, show (4500 : Int64).toInt = 4500 from rfl, Int32.lt_iff_toInt_lt, Int32.not_le, Int32.lt_iff_toInt_lt]
    exact Iff.rfl
  have B : (¬ nI k ≤ 0 ∧ ¬ c7 (30 * nI i + nI k - 1).toNatClampNeg ≤ 5000) ↔ (¬ nI k ≤ 0 ∧ ¬ t.2.2.2.2.1 ≤ 5000) := by
    refine and_congr_right (fun z => ?_)
    have hr0 : 0 < k := ix_nge (i := 0) z (by omega) (by decide) |> fun q => q
    rw [(hs.2.2.1 hr0).2, x_30, x_p (by omega), x_c (by omega), show 30 * i + k - 1 = 30 * i + (k - 1) by omega]
  simp only [A, B]
theorem u_01 (a b c d : Int32) : m_uns a b c d = 0 ∨ m_uns a b c d = 1 := by
  unfold m_uns; split <;> simp
theorem r_cuns (a b c d : Int32) : m_cuns a b c d = m_uns a b c d := by
  unfold m_cuns
  rcases u_01 a b c d with q | q <;> rw [q] <;> rfl
theorem r_may (hi : i < nc) (h : r_cells nc cnt u0 fc LP ce c1 c4 c5 c6 c7 c8 c9 c10) (hk : k ≤ 30) (hr : r ≤ 10) (e4 : c4 i = nI k) (e8 : c8 i = nI r) (hs : r_stp i k t c5 c6 c7) (hs2 : r_rst i r t c9 c10) (p1 : Int32) :
    m_mmay u0 c4 c7 c8 c10 (nI i) p1 = m_cmay t.2.1 t.2.2.2.2.1 t.2.2.2.2.2.2.2.1 t.2.2.2.2.2.2.2.2.2.2.2 p1 := by
  have h8 := h.1
  rw [m_mmay, m_cmay, r_is hi h, r_uns hi h hk hr e4 e8 hs hs2, r_open (by omega) hk hr e4 e8 hs hs2]
  by_cases h1 : m_in p1.toInt64 0 4 = 0
  · rw [if_pos (Or.inr h1), if_pos h1]
  · rw [if_neg (by rintro (z | z); exact absurd z (by decide); exact h1 z), if_neg h1]
    have h2 : ¬ (p1.toInt < 0 ∨ 4 < p1.toInt) := fun z => h1 (n_inR.mpr z)
    have e : (if p1 < 3 then (0 : Int32) else 1) = if p1 = 3 ∨ p1 = 4 then 1 else 0 := by
      by_cases z : p1 < 3
      · rw [if_pos z, if_neg]
        rintro (q | q) <;> rw [q] at z <;> exact absurd z (by decide)
      · rw [if_neg z, if_pos]
        rw [Int32.lt_iff_toInt_lt, show (3 : Int32).toInt = 3 from rfl] at z
        have : p1.toInt = 3 ∨ p1.toInt = 4 := by omega
        exact this.imp (fun q => Int32.toInt_inj.mp q) (fun q => Int32.toInt_inj.mp q)
    rw [e]
theorem r_whole (hi : i < nc) (h : r_cells nc cnt u0 fc LP ce c1 c4 c5 c6 c7 c8 c9 c10) (hk : k ≤ 30) (hr : r ≤ 10) (e4 : c4 i = nI k) (e8 : c8 i = nI r) (hs : r_stp i k t c5 c6 c7) (hs2 : r_rst i r t c9 c10) :
    m_mwhole u0 c4 c7 c8 c10 (nI i) = if m_open t.2.1 t.2.2.2.2.2.2.2.1 = 0 ∧ m_uns t.2.1 t.2.2.2.2.1 t.2.2.2.2.2.2.2.1 t.2.2.2.2.2.2.2.2.2.2.2 = 0 then 1 else 0 := by
  have h8 := h.1
  rw [m_mwhole, r_uns hi h hk hr e4 e8 hs hs2, r_open (by omega) hk hr e4 e8 hs hs2]
end RA
