-- the answers of both sides, as the law compares them
section RW2
variable {nc : Nat} {cnt u0 u2 u3 : Int32} {fc : Nat → Option Nat} {LP : List Nat} {ce : Nat → CeT} {c1 c4 c5 c6 c7 c8 c9 c10 c14 c15 c16 c25 c26 : Nat → Int32} {u13 u24 u29 u30 p0 p1 p2 p3 : Int32} {i a : Nat}
theorem w_span (u2 u3 p0 p1 : Int32) : m_span u2 u3 p0 p1 = m_mspan u2 u3 p0 p1 := by
  have hC : (p0 < 0 ∨ 1000000 < p1 ∨ ¬ p0 ≤ p1) ↔ (m_in p0.toInt64 0 1000000 = 0 ∨ m_in p1.toInt64 0 1000000 = 0 ∨ ¬ p0 ≤ p1) := by
    rw [n_inR, n_inR, Int32.lt_iff_toInt_lt, Int32.lt_iff_toInt_lt, Int32.le_iff_toInt_le, Int32.toInt_zero, show (1000000 : Int32).toInt = 1000000 from rfl, show (0 : Int64).toInt = 0 from rfl, show (1000000 : Int64).toInt = 1000000 from rfl]
    omega
  rw [m_span, m_mspan]
  simp only [hC]
theorem w_cell (h : r_cells nc cnt u0 fc LP ce c1 c4 c5 c6 c7 c8 c9 c10) (h8 : nc < 8) : m_mcell u0 = (u0 + 1 - 1, u0 + 1) ∧ cnt = u0 ∧ ¬ cnt < 0 ∧ cnt < 8 := by
  rw [m_mcell, h.2.2.1, h.2.1, if_neg (show ¬ nI nc = 8 from fun z => absurd ((nI_eq (b := 8) (by omega) (by decide)).mp z) (by omega))]
  exact ⟨rfl, rfl, nI_pos (by omega), nI_lt (b := 8) h8 (by decide)⟩
theorem w_cell8 (h : r_cells nc cnt u0 fc LP ce c1 c4 c5 c6 c7 c8 c9 c10) (h8 : ¬ nc < 8) : m_mcell u0 = (-1, u0) ∧ (cnt < 0 ∨ ¬ cnt < 8) := by
  have := h.1
  obtain rfl : nc = 8 := by omega
  rw [m_mcell, h.2.2.1, h.2.1]
  exact ⟨if_pos rfl, Or.inr (by decide)⟩
theorem w_packs {fo c22 : Nat → Int32} (h : r_packs nc fo c22) : r_packs (nc + 1) fo c22 := fun j hj => ⟨(h j hj).1, fun z => (h j hj).2 (by omega)⟩
theorem w0_warm (h : m_isCell u0 p0 = 0) : m_mwarm u0 u2 u3 c1 p0 p1 = (0, c1) := if_pos (Or.inl h)
theorem w0_step (h : m_isCell u0 p0 = 0) : m_mstep u0 u2 u3 c1 c4 c5 c6 c7 p0 p1 p2 p3 = (0, c4, c5, c6, c7) := if_pos (Or.inl h)
theorem w0_rest (h : m_isCell u0 p0 = 0) : m_mrest u0 c8 c9 c10 p0 p1 p2 = (0, c8, c9, c10) := if_pos (Or.inl h)
theorem w0_charge (h : m_isCell u0 p0 = 0) : m_mcharge u0 c4 c5 c6 p0 = (-9223372036854775808) := if_pos h
theorem w0_res (h : m_isCell u0 p0 = 0) : m_mres u0 c4 c6 c7 p0 p1 = -1 := if_pos (Or.inl h)
theorem w0_loss (h : m_isCell u0 p0 = 0) : m_mloss u0 c8 c9 c10 p0 p1 = -1 := if_pos (Or.inl h)
theorem w0_cls (h : m_isCell u0 p0 = 0) : m_mclass u0 c4 c5 c6 c7 c8 c10 c14 c15 c16 u13 p0 = -1 := if_pos (Or.inl h)
theorem w0_uns (h : m_isCell u0 p0 = 0) : m_muns u0 c4 c7 c8 c10 p0 = 0 := if_pos h
theorem w0_may (h : m_isCell u0 p0 = 0) : m_mmay u0 c4 c7 c8 c10 p0 p1 = 0 := if_pos (Or.inl h)
theorem w0_fade (h : m_isCell u0 p0 = 0) : m_mfade u0 u24 c4 c5 c6 c25 c26 p0 p1 = (-9223372036854775808) := if_pos (Or.inl h)
theorem w0_rec (h : m_isCell u0 p0 = 0) : (m_mrec u0 c4 c5 c6 c7 c8 c10 c14 c15 c16 u13 u29 u30 p0 p1).1 = -1 := by rw [m_mrec, if_pos (Or.inl h)]
section WF
variable {f0 f1 : Int32} {f2 : Int64} {f3 f4 f5 f6 f7 f8 f9 f10 f11 : Int32} {g0 g1 g2 g3 g4 : Nat → Int32} {sn fcn : Int32}
theorem w_charge (h : r_cells nc cnt u0 fc LP ce c1 c4 c5 c6 c7 c8 c9 c10) (hi : i < nc) (hc : r_cell i (ce a) c1 c4 c5 c6 c7 c8 c9 c10) (hf : ce a = (f0, f1, f2, f3, f4, f5, f6, f7, f8, f9, f10, f11)) : m_floorDiv f2 3600 = m_mcharge u0 c4 c5 c6 (nI i) := by
  obtain ⟨-, ⟨k, hk, e4, hs⟩, -⟩ := hc
  rw [hf] at hs
  exact (r_charge hi h hk e4 hs).symm
theorem w_res (h : r_cells nc cnt u0 fc LP ce c1 c4 c5 c6 c7 c8 c9 c10) (hi : i < nc) (hc : r_cell i (ce a) c1 c4 c5 c6 c7 c8 c9 c10) (hf : ce a = (f0, f1, f2, f3, f4, f5, f6, f7, f8, f9, f10, f11)) (p1 : Int32) : m_cres f5 f6 p1 = m_mres u0 c4 c6 c7 (nI i) p1 := by
  obtain ⟨-, ⟨k, hk, e4, hs⟩, -⟩ := hc
  rw [hf] at hs
  exact (r_res hi h hk e4 hs p1).1.symm
theorem w_loss (h : r_cells nc cnt u0 fc LP ce c1 c4 c5 c6 c7 c8 c9 c10) (hi : i < nc) (hc : r_cell i (ce a) c1 c4 c5 c6 c7 c8 c9 c10) (hf : ce a = (f0, f1, f2, f3, f4, f5, f6, f7, f8, f9, f10, f11)) (p1 : Int32) : m_closs f7 f8 f9 f10 f11 p1 = m_mloss u0 c8 c9 c10 (nI i) p1 := by
  obtain ⟨-, -, ⟨r, hr, e8, hs2⟩⟩ := hc
  rw [hf] at hs2
  exact (r_loss hi h hr e8 hs2 p1).symm
theorem w_uns (h : r_cells nc cnt u0 fc LP ce c1 c4 c5 c6 c7 c8 c9 c10) (hi : i < nc) (hc : r_cell i (ce a) c1 c4 c5 c6 c7 c8 c9 c10) (hf : ce a = (f0, f1, f2, f3, f4, f5, f6, f7, f8, f9, f10, f11)) : m_cuns f1 f4 f7 f11 = m_muns u0 c4 c7 c8 c10 (nI i) := by
  obtain ⟨-, ⟨k, hk, e4, hs⟩, ⟨r, hr, e8, hs2⟩⟩ := hc
  rw [hf] at hs hs2
  rw [r_cuns]
  exact (r_uns hi h hk hr e4 e8 hs hs2).symm
theorem w_may (h : r_cells nc cnt u0 fc LP ce c1 c4 c5 c6 c7 c8 c9 c10) (hi : i < nc) (hc : r_cell i (ce a) c1 c4 c5 c6 c7 c8 c9 c10) (hf : ce a = (f0, f1, f2, f3, f4, f5, f6, f7, f8, f9, f10, f11)) (p1 : Int32) : m_cmay f1 f4 f7 f11 p1 = m_mmay u0 c4 c7 c8 c10 (nI i) p1 := by
  obtain ⟨-, ⟨k, hk, e4, hs⟩, ⟨r, hr, e8, hs2⟩⟩ := hc
  rw [hf] at hs hs2
  exact (r_may hi h hk hr e4 e8 hs hs2 p1).symm
theorem w_cls (h : r_cells nc cnt u0 fc LP ce c1 c4 c5 c6 c7 c8 c9 c10) (hR : r_rules g0 g1 g2 g3 g4 sn u13 c14 c15 c16) (hi : i < nc) (hc : r_cell i (ce a) c1 c4 c5 c6 c7 c8 c9 c10) (hf : ce a = (f0, f1, f2, f3, f4, f5, f6, f7, f8, f9, f10, f11)) : m_class f1 f7 f2 f5 f6 f11 g0 g1 g2 g3 g4 sn = m_mclass u0 c4 c5 c6 c7 c8 c10 c14 c15 c16 u13 (nI i) := by
  obtain ⟨-, ⟨k, hk, e4, hs⟩, ⟨r, hr, e8, hs2⟩⟩ := hc
  rw [hf] at hs hs2
  exact (r_class hi h hk hr e4 e8 hs hs2 hR).1.symm
theorem w_fade (h : r_cells nc cnt u0 fc LP ce c1 c4 c5 c6 c7 c8 c9 c10) (hF : r_fade g0 g1 fcn u24 c25 c26) (hi : i < nc) (hc : r_cell i (ce a) c1 c4 c5 c6 c7 c8 c9 c10) (hf : ce a = (f0, f1, f2, f3, f4, f5, f6, f7, f8, f9, f10, f11)) (p1 : Int32) : m_cfade f2 g0 g1 fcn p1 = m_mfade u0 u24 c4 c5 c6 c25 c26 (nI i) p1 := by
  rw [m_cfade, m_mfade, ← w_charge h hi hc hf]
  by_cases q : m_in p1.toInt64 0 10000 = 0
  · rw [if_pos q, if_pos (Or.inr q)]
  · rw [if_neg q, if_neg (by rintro (z | z); exact absurd (r_is hi h) (by rw [z]; decide); exact q z)]
    exact r_fadeEq hF q _
theorem w_warm (h : r_cells nc cnt u0 fc LP ce c1 c4 c5 c6 c7 c8 c9 c10) (hi : i < nc) (ha : fc i = some a) (hf : ce a = (f0, f1, f2, f3, f4, f5, f6, f7, f8, f9, f10, f11)) (p1 : Int32) : (m_warm u2 u3 f0 p1).1 = (m_mwarm u0 u2 u3 c1 (nI i) p1).1 ∧ r_cells nc cnt u0 fc LP (va_up ce a ((m_warm u2 u3 f0 p1).2, f1, f2, f3, f4, f5, f6, f7, f8, f9, f10, f11)) (m_mwarm u0 u2 u3 c1 (nI i) p1).2 c4 c5 c6 c7 c8 c9 c10 := by
  have := k_warm (u2 := u2) (u3 := u3) h hi ha p1
  rw [hf] at this
  exact this
end WF
theorem w_text0 (bt c11 : Nat → Int32) : r_text bt 0 c11 0 := ⟨0, Nat.zero_le _, rfl, rfl, fun j hj => absurd hj (Nat.not_lt_zero _)⟩
theorem w_ix {L i : Nat} (k : Nat) (hk : k < 5) (hi : i + 5 ≤ L) (hL : L ≤ 2560) : vp_in (nI i + nI k) L := by
  rw [nI_add]; exact vp_in_nI (by omega) (by omega)
theorem w_ix0 {L i : Nat} (hi : i + 5 ≤ L) (hL : L ≤ 2560) : vp_in (nI i) L := vp_in_nI (by omega) (by omega)
theorem w_end {L i : Nat} (hi : i ≤ L) (hL : L ≤ 2560) (h : ¬ Int32.ofNat L - 5 < nI i) : i + 5 ≤ L := by
  rw [Int32.lt_iff_toInt_lt, nI_toInt (by omega), show Int32.ofNat L = nI L from rfl, Int32.toInt_sub, nI_toInt (by omega), show (5 : Int32).toInt = 5 from rfl, Int.bmod_eq_of_le (by omega) (by omega)] at h
  omega
end RW2
