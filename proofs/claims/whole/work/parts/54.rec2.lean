-- record(): the same letter
theorem n_len {x : Int32} {b d : Nat} (hd : ∀ w, w ≤ b → sb_dg w ≤ d) (h : -(b : Int) ≤ x.toInt ∧ x.toInt ≤ b) : m_len x ≤ d + 1 ∧ (¬ x < 0 → m_len x ≤ d) := by
  have h1 := hd (m_wd x) (by unfold m_wd; omega)
  unfold m_len
  split
  · rename_i q; exact ⟨by omega, fun z => absurd q z⟩
  · exact ⟨by omega, fun _ => h1⟩
theorem n_d8 : ∀ w, w ≤ 83333334 → sb_dg w ≤ 8 := by
  intro w hw
  unfold sb_dg
  repeat (first | (split; decide) | split)
  all_goals omega
theorem n_d1 : ∀ w, w ≤ 7 → sb_dg w ≤ 1 := by
  intro w hw
  unfold sb_dg
  rw [if_pos (by omega)]; exact Nat.le_refl _
theorem n_d2 : ∀ w, w ≤ 99 → sb_dg w ≤ 2 := by
  intro w hw
  unfold sb_dg
  by_cases h : w < 10
  · rw [if_pos h]; decide
  · rw [if_neg h, if_pos (by omega)]; decide
theorem n_min {x : Int32} (h : -1000000000 ≤ x.toInt) : x ≠ -2147483648 := fun z => by
  rw [z, show (-2147483648 : Int32).toInt = -2147483648 from rfl] at h; omega
section RREC
variable {nc : Nat} {cnt u0 : Int32} {fc : Nat → Option Nat} {LP : List Nat} {ce : Nat → CeT} {c1 c4 c5 c6 c7 c8 c9 c10 : Nat → Int32} {g0 g1 g2 g3 g4 : Nat → Int32} {sn u13 : Int32} {c14 c15 c16 : Nat → Int32} {i a : Nat}
theorem k_record (h : r_cells nc cnt u0 fc LP ce c1 c4 c5 c6 c7 c8 c9 c10) (hR : r_rules g0 g1 g2 g3 g4 sn u13 c14 c15 c16) (hi : i < nc) (hcell : r_cell i (ce a) c1 c4 c5 c6 c7 c8 c9 c10) (lbt : Nat → Int32) (u29 u30 p1 : Int32) {f0 f1 : Int32} {f2 : Int64} {f3 f4 f5 f6 f7 f8 f9 f10 f11 : Int32} (hf : ce a = (f0, f1, f2, f3, f4, f5, f6, f7, f8, f9, f10, f11)) :
    (m_rlen (nI i) ((m_floorDiv f2 3600).toInt32) (m_class f1 f7 f2 f5 f6 f11 g0 g1 g2 g3 g4 sn) ≤ 16 ∧ nI i ≠ -2147483648 ∧ (m_floorDiv f2 3600).toInt32 ≠ -2147483648 ∧ m_class f1 f7 f2 f5 f6 f11 g0 g1 g2 g3 g4 sn ≠ -2147483648) ∧
    m_crec lbt (nI i) ((m_floorDiv f2 3600).toInt32) (m_class f1 f7 f2 f5 f6 f11 g0 g1 g2 g3 g4 sn) p1 = (m_mrec u0 c4 c5 c6 c7 c8 c10 c14 c15 c16 u13 u29 u30 (nI i) p1).1 := by
  have h8 := h.1
  obtain ⟨-, ⟨k, hk, e4, hs⟩, ⟨r, hr, e8, hs2⟩⟩ := hcell
  obtain ⟨e1, e2, e3⟩ := r_class hi h hk hr e4 e8 hs hs2 hR
  have eb := r_chb hi h hk hs
  have ec := r_charge hi h hk e4 hs
  rw [hf] at e1 e2 e3 eb ec
  dsimp only at e1 e2 e3 eb ec
  have et : ((m_floorDiv f2 3600).toInt32).toInt = (m_floorDiv f2 3600).toInt := by
    rw [Int64.toInt_toInt32]; apply Int.bmod_eq_of_le <;> omega
  have i0 := nI_toInt (n := i) (by omega)
  have l0 := (n_len n_d1 (x := nI i) (by omega)).2 (nI_pos (by omega))
  have l1 := (n_len n_d8 (x := (m_floorDiv f2 3600).toInt32) (by omega)).1
  have l2 : m_len (m_class f1 f7 f2 f5 f6 f11 g0 g1 g2 g3 g4 sn) ≤ 2 := by
    by_cases q : m_class f1 f7 f2 f5 f6 f11 g0 g1 g2 g3 g4 sn < 0
    · rw [Int32.lt_iff_toInt_lt, Int32.toInt_zero] at q
      exact (n_len (x := m_class f1 f7 f2 f5 f6 f11 g0 g1 g2 g3 g4 sn) n_d1 (by omega)).1
    · exact (n_len n_d2 (by omega)).2 q
  have hl : m_rlen (nI i) ((m_floorDiv f2 3600).toInt32) (m_class f1 f7 f2 f5 f6 f11 g0 g1 g2 g3 g4 sn) ≤ 16 := by unfold m_rlen; omega
  have m0 : nI i ≠ -2147483648 := n_min (by omega)
  have m1 : (m_floorDiv f2 3600).toInt32 ≠ -2147483648 := n_min (by omega)
  have m2 : m_class f1 f7 f2 f5 f6 f11 g0 g1 g2 g3 g4 sn ≠ -2147483648 := n_min (by omega)
  refine ⟨⟨hl, m0, m1, m2⟩, ?_⟩
  rw [m_mrec, r_is hi h]
  by_cases q : p1 < 0
  · rw [m_crec, if_pos (Or.inl q), if_pos (Or.inr (Int32.not_le.mpr q))]
  · obtain ⟨Q, hQ, rfl⟩ := nI_of q
    rw [if_neg (by rintro (z | z); exact absurd z (by decide); exact z (Int32.not_lt.mp q))]
    dsimp only
    rw [e1, ec, p_rec (bt := lbt) hQ m0 m1 m2 (Int32.toInt_toInt64 _) et.symm (Int32.toInt_toInt64 _) hl, m_crec, p_st]
    dsimp only
    by_cases z : Q < m_rlen (nI i) ((m_floorDiv f2 3600).toInt32) (m_class f1 f7 f2 f5 f6 f11 g0 g1 g2 g3 g4 sn)
    · rw [if_neg (by rintro (y | y); exact q y; exact y (nI_lt z (by omega))), if_pos z, nI_clamp hQ]
    · rw [if_pos (Or.inr (nI_nlt (by omega) (by omega))), if_neg z]
end RREC
