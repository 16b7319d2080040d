-- rest(), unit(), row(), fade(), packOf()
section RK2
variable {nc : Nat} {cnt u0 u2 u3 : Int32} {fc : Nat → Option Nat} {LP : List Nat} {ce : Nat → CeT} {c1 c4 c5 c6 c7 c8 c9 c10 : Nat → Int32} {p0 p1 p2 p3 : Int32} {i a : Nat}
theorem k_rest (h : r_cells nc cnt u0 fc LP ce c1 c4 c5 c6 c7 c8 c9 c10) (hi : i < nc) (ha : fc i = some a) (p1 p2 : Int32) {f0 f1 : Int32} {f2 : Int64} {f3 f4 f5 f6 f7 f8 f9 f10 f11 : Int32} (hf : ce a = (f0, f1, f2, f3, f4, f5, f6, f7, f8, f9, f10, f11)) :
    (m_rest f0 f1 f2 f3 f4 f5 f6 f7 f8 f9 f10 f11 p1 p2).1 = (m_mrest u0 c8 c9 c10 (nI i) p1 p2).1 ∧
    r_cells nc cnt u0 fc LP (va_up ce a (m_rest f0 f1 f2 f3 f4 f5 f6 f7 f8 f9 f10 f11 p1 p2).2) c1 c4 c5 c6 c7 (m_mrest u0 c8 c9 c10 (nI i) p1 p2).2.1 (m_mrest u0 c8 c9 c10 (nI i) p1 p2).2.2.1 (m_mrest u0 c8 c9 c10 (nI i) p1 p2).2.2.2 := by
  have h8 := h.1
  obtain ⟨b, hb, hb2, g1, g5, ⟨r, g2, g3, g4⟩⟩ := h.2.2.2.2.1 i hi
  cases hb.symm.trans ha
  have hr := h.2.2.2.2.2.2.2.1
  have hd := h.2.2.2.2.2.2.2.2
  rw [hf] at g1 g4 g5
  have same : r_cells nc cnt u0 fc LP (va_up ce a (f0, f1, f2, f3, f4, f5, f6, f7, f8, f9, f10, f11)) c1 c4 c5 c6 c7 c8 c9 c10 :=
    r_put h hi ha ⟨g1, g5, ⟨r, g2, g3, g4⟩⟩ (fun _ _ => rfl) (fun _ _ => rfl) (fun _ _ => rfl) (fun _ _ _ _ => rfl) (fun _ _ _ _ => rfl) (fun _ _ _ _ => rfl) (fun _ _ _ _ => rfl) (fun _ _ _ _ => rfl) hr hd
  obtain ⟨b1, b2⟩ := g4
  dsimp only at g1 b1 b2
  rw [m_rest, m_mrest, r_is hi h, x_c (by omega), g3, m_addRest, b1]
  have hC : (¬ nI r ≤ 0 ∧ ¬ c9 (10 * nI i + nI r - 1).toNatClampNeg < p1) ↔ (¬ nI r ≤ 0 ∧ p1 ≤ f10) := by
    refine and_congr_right (fun z => ?_)
    have hr0 : 0 < r := ix_nge (i := 0) z (by omega) (by decide)
    rw [x_10, x_p (by omega), x_c (by omega), (b2 hr0).2.2.1, show 10 * i + r - 1 = 10 * i + (r - 1) by omega, Int32.not_lt]
  simp only [hC]
  by_cases q1 : 10 ≤ nI r ∨ m_in p1.toInt64 0 100000 = 0 ∨ m_in p2.toInt64 0 10000 = 0 ∨ (¬ nI r ≤ 0 ∧ p1 ≤ f10)
  · have q2 : (1 : Int32) = 0 ∨ nI r = 10 ∨ m_in p1.toInt64 0 100000 = 0 ∨ m_in p2.toInt64 0 10000 = 0 ∨ (¬ nI r ≤ 0 ∧ p1 ≤ f10) := by
      rcases q1 with z | z
      · have := (nI_leI (a := 10) (by decide) (by omega)).mp z
        exact Or.inr (Or.inl (by rw [show r = 10 by omega]; rfl))
      · exact Or.inr (Or.inr z)
    rw [if_pos q1, if_pos q2]
    rw [b1] at same
    exact ⟨rfl, same⟩
  · have hk : r < 10 := by
      rcases Nat.lt_or_ge r 10 with z | z
      · exact z
      · exact absurd (Or.inl (nI_le (a := 10) z (by omega))) q1
    have q2 : ¬ ((1 : Int32) = 0 ∨ nI r = 10 ∨ m_in p1.toInt64 0 100000 = 0 ∨ m_in p2.toInt64 0 10000 = 0 ∨ (¬ nI r ≤ 0 ∧ p1 ≤ f10)) := by
      rintro (z | z | z)
      · exact absurd z (by decide)
      · exact q1 (Or.inl (by rw [z]; decide))
      · exact q1 (Or.inr z)
    rw [if_neg q1, if_neg q2, x_10, x_c (by omega)]
    dsimp only
    have r1 : ¬ (p1.toInt < 0 ∨ 100000 < p1.toInt) := fun z => q1 (Or.inr (Or.inl (n_inR.mpr z)))
    have r2 : ¬ (p2.toInt < 0 ∨ 10000 < p2.toInt) := fun z => q1 (Or.inr (Or.inr (Or.inl (n_inR.mpr z))))
    refine ⟨if_neg (by decide), r_put h hi ha ⟨g1, g5, ⟨r + 1, by omega, ?_, ?_⟩⟩ (fun _ _ => rfl) (fun _ _ => rfl) (fun j hj => pk_un hj) (fun _ _ _ _ => rfl) (fun _ _ _ _ => rfl) (fun _ _ _ _ => rfl) (fun j m hj hm => pk_un (by omega)) (fun j m hj hm => pk_un (by omega)) ⟨hr.1, hr.2.1, hr.2.2.1, ?_⟩ ⟨?_, ?_⟩⟩
    · show upd c8 i (nI r + 1) i = nI (r + 1)
      rw [pk_us, nI_1]
    · refine ⟨nI_1 r, fun _ => ?_⟩
      show (if nI r = 0 then p1 else f8) = upd c9 (10 * i + r) p1 (10 * i) ∧ (if nI r = 0 then p2 else f9) = upd c10 (10 * i + r) p2 (10 * i) ∧ p1 = upd c9 (10 * i + r) p1 (10 * i + (r + 1 - 1)) ∧ p2 = upd c10 (10 * i + r) p2 (10 * i + (r + 1 - 1))
      rw [Nat.add_sub_cancel, pk_us, pk_us]
      by_cases hr0 : r = 0
      · subst hr0
        rw [Nat.add_zero, pk_us, pk_us, if_pos (show nI 0 = 0 from rfl), if_pos (show nI 0 = 0 from rfl)]
        exact ⟨rfl, rfl, rfl, rfl⟩
      · obtain ⟨b8, b9, -, -⟩ := b2 (by omega)
        rw [if_neg (nI_ne0 (by omega) (by omega)), if_neg (nI_ne0 (by omega) (by omega)), pk_un (by omega), pk_un (by omega)]
        exact ⟨b8, b9, rfl, rfl⟩
    · refine r_upd (P := fun v => ¬ v < 0 ∧ v ≤ 10000) hr.2.2.2 ⟨?_, ?_⟩
      · rw [Int32.lt_iff_toInt_lt, Int32.toInt_zero]; omega
      · rw [Int32.le_iff_toInt_le, show (10000 : Int32).toInt = 10000 from rfl]; omega
    · intro c m j hc hm hj
      by_cases ec : c = i
      · subst ec
        rw [pk_us, nI_1, nI_clamp (by omega)] at hj
        have old := hd.1 c
        by_cases ej : j = r
        · subst ej
          rw [pk_us, pk_un (by omega)]
          have hlt : f10 < p1 := Int32.not_le.mp fun z => q1 (Or.inr (Or.inr (Or.inr ⟨nI_ge (a := 0) (by omega) (by omega), z⟩)))
          rw [(b2 (by omega)).2.2.1] at hlt
          rcases Nat.lt_or_ge m (j - 1) with z | z
          · have := old m (j - 1) hc z (by rw [g3, nI_clamp (by omega)]; omega)
            exact Int32.lt_trans this hlt
          · rw [show m = j - 1 by omega]; exact hlt
        · rw [pk_un (by omega), pk_un (by omega)]
          exact old m j hc hm (by rw [g3, nI_clamp (by omega)]; omega)
      · rw [pk_un ec] at hj
        have := r_hrc h c hc
        have h10 : (c8 c).toNatClampNeg ≤ 10 := by
          have := m_clle this.1 this.2
          exact this
        rw [pk_un (by omega), pk_un (by omega)]
        exact hd.1 c m j hc hm hj
    · refine r_upd (P := fun v => ¬ v < 0 ∧ v ≤ 100000) hd.2 ⟨?_, ?_⟩
      · rw [Int32.lt_iff_toInt_lt, Int32.toInt_zero]; omega
      · rw [Int32.le_iff_toInt_le, show (100000 : Int32).toInt = 100000 from rfl]; omega
end RK2
/-- the text -/
def r_text (bt : Nat → Int32) (len : Int32) (c11 : Nat → Int32) (u12 : Int32) : Prop := ∃ tl, tl ≤ 600 ∧ len = nI tl ∧ u12 = nI tl ∧ ∀ j, j < tl → bt j = c11 j
theorem r_text_0 {bt : Nat → Int32} {len : Int32} {c11 : Nat → Int32} {u12 : Int32} (h : r_text bt len c11 u12) : ¬ u12 < 0 ∧ u12 ≤ 600 := by
  obtain ⟨tl, h1, h2, h3, h4⟩ := h
  rw [h3]; exact ⟨nI_pos (by omega), nI_le (b := 600) h1 (by decide)⟩
theorem r_text_l {bt : Nat → Int32} {len : Int32} {c11 : Nat → Int32} {u12 : Int32} (h : r_text bt len c11 u12) : len ≤ 600 := by
  obtain ⟨tl, h1, h2, -⟩ := h
  rw [h2]; exact nI_le (b := 600) h1 (by decide)
theorem n_ch {p : Int32} (h0 : 0 ≤ p.toInt) (h1 : p.toInt ≤ 255) : vp_nar .char (p.toUInt32 % 65536).toInt32 = p := by
  rw [pk_vc]
  obtain ⟨j, hj, rfl⟩ := nI_of (show ¬ p < 0 by rw [Int32.lt_iff_toInt_lt, Int32.toInt_zero]; omega)
  rw [nI_toInt hj] at h1
  exact (sb_byte j (by omega)).2.1
theorem k_unit {bt : Nat → Int32} {len : Int32} {c11 : Nat → Int32} {u12 : Int32} (h : r_text bt len c11 u12) (p0 : Int32) : (m_unit bt len p0).1 = (m_munit u12 c11 p0).1 ∧ r_text (m_unit bt len p0).2.1 (m_unit bt len p0).2.2 (m_munit u12 c11 p0).2.2 (m_munit u12 c11 p0).2.1 := by
  have h' := h
  obtain ⟨tl, h1, h2, h3, h4⟩ := h
  rw [m_unit, m_munit, m_textAdd]
  by_cases q : m_in p0.toInt64 0 255 = 0
  · rw [if_pos q, if_pos (Or.inl q)]; exact ⟨rfl, h'⟩
  · rw [if_neg q]
    have r1 : ¬ (p0.toInt < 0 ∨ 255 < p0.toInt) := fun z => q (n_inR.mpr z)
    by_cases q2 : tl = 600
    · rw [if_pos (show m_in p0.toInt64 0 255 = 0 ∨ u12 = 600 from Or.inr (by rw [h3, q2]; rfl)), if_pos (show len < 0 ∨ ¬ len < 600 from Or.inr (by rw [h2, q2]; decide))]
      exact ⟨rfl, h'⟩
    · rw [if_neg (show ¬ (m_in p0.toInt64 0 255 = 0 ∨ u12 = 600) from fun z => z.elim q (fun z => q2 ((nI_eq (b := 600) (by omega) (by decide)).mp (h3.symm.trans z)))), if_neg (show ¬ (len < 0 ∨ ¬ len < 600) from fun z => z.elim (by rw [h2]; exact nI_pos (by omega)) (fun z => z (by rw [h2]; exact nI_lt (b := 600) (by omega) (by decide))))]
      dsimp only
      refine ⟨if_neg (by decide), tl + 1, by omega, by rw [h2, nI_1], by rw [h3, nI_1], fun j hj => ?_⟩
      rw [h2, h3, x_c (by omega), n_ch (by omega) (by omega)]
      by_cases e : j = tl
      · rw [e, pk_us, pk_us]
      · rw [pk_un e, pk_un e]; exact h4 j (by omega)
/-- the rows of fading -/
def r_fade (g0 g1 : Nat → Int32) (fcn u24 : Int32) (c25 c26 : Nat → Int32) : Prop := ∃ nr, nr ≤ 6 ∧ fcn = nI nr ∧ u24 = nI nr ∧ (∀ j, j < nr → g0 j = c25 j ∧ g1 j = c26 j ∧ (¬ c25 j < 0 ∧ c25 j ≤ 10000) ∧ ¬ c26 j < 0 ∧ c26 j ≤ 1000) ∧ ∀ i j, i < j → j < nr → c25 i < c25 j
theorem r_fade_0 {g0 g1 : Nat → Int32} {fcn u24 : Int32} {c25 c26 : Nat → Int32} (h : r_fade g0 g1 fcn u24 c25 c26) : ¬ u24 < 0 ∧ u24 ≤ 6 := by
  obtain ⟨tl, h1, h2, h3, h4⟩ := h
  rw [h3]; exact ⟨nI_pos (by omega), nI_le (b := 6) h1 (by decide)⟩
theorem k_row {g0 g1 : Nat → Int32} {fcn u24 : Int32} {c25 c26 : Nat → Int32} (h : r_fade g0 g1 fcn u24 c25 c26) (p0 p1 : Int32) : (m_fadeAdd g0 g1 fcn p0 p1).1 = (m_mrow u24 c25 c26 p0 p1).1 ∧ r_fade (m_fadeAdd g0 g1 fcn p0 p1).2.1 (m_fadeAdd g0 g1 fcn p0 p1).2.2.1 (m_fadeAdd g0 g1 fcn p0 p1).2.2.2 (m_mrow u24 c25 c26 p0 p1).2.1 (m_mrow u24 c25 c26 p0 p1).2.2.1 (m_mrow u24 c25 c26 p0 p1).2.2.2 := by
  have h' := h
  obtain ⟨nr, h1, h2, h3, h4, h5⟩ := h
  rw [m_fadeAdd, m_mrow]
  have hC : (¬ u24 ≤ 0 ∧ ¬ c25 (u24 - 1).toNatClampNeg < p0) ↔ (¬ fcn ≤ 0 ∧ ¬ g0 (fcn - 1).toNatClampNeg < p0) := by
    rw [h2, h3]
    refine and_congr_right (fun z => ?_)
    have hr0 : 0 < nr := ix_nge (i := 0) z (by omega) (by decide)
    rw [x_p hr0, x_c (by omega), (h4 (nr - 1) (by omega)).1]
  simp only [hC]
  by_cases q1 : m_in p0.toInt64 0 10000 = 0 ∨ m_in p1.toInt64 0 1000 = 0 ∨ (¬ fcn ≤ 0 ∧ ¬ g0 (fcn - 1).toNatClampNeg < p0)
  · rw [if_pos (Or.inr (Or.inr q1)), if_pos (Or.inr q1)]; exact ⟨rfl, h'⟩
  · by_cases q2 : nr = 6
    · rw [if_pos (Or.inr (Or.inl (by rw [h2, q2]; decide))), if_pos (Or.inl (by rw [h3, q2]; rfl))]; exact ⟨rfl, h'⟩
    · rw [if_neg (by rintro (z | z | z); exact absurd z (by rw [h2]; exact nI_pos (by omega)); exact absurd z (by rw [h2]; exact nI_ge (b := 6) (by omega) (by decide)); exact q1 z), if_neg (by rintro (z | z); exact q2 ((nI_eq (b := 6) (by omega) (by decide)).mp (h3.symm.trans z)); exact q1 z)]
      have r1 : ¬ (p0.toInt < 0 ∨ 10000 < p0.toInt) := fun z => q1 (Or.inl (n_inR.mpr z))
      have r2 : ¬ (p1.toInt < 0 ∨ 1000 < p1.toInt) := fun z => q1 (Or.inr (Or.inl (n_inR.mpr z)))
      refine ⟨rfl, nr + 1, by omega, by rw [h2, nI_1], by rw [h3, nI_1], fun j hj => ?_, fun m j hm hj => ?_⟩
      · dsimp only
        rw [h2, h3, x_c (by omega)]
        by_cases e : j = nr
        · rw [e, pk_us, pk_us, pk_us, pk_us]
          refine ⟨rfl, rfl, ⟨?_, ?_⟩, ?_, ?_⟩
          · rw [Int32.lt_iff_toInt_lt, Int32.toInt_zero]; omega
          · rw [Int32.le_iff_toInt_le, show (10000 : Int32).toInt = 10000 from rfl]; omega
          · rw [Int32.lt_iff_toInt_lt, Int32.toInt_zero]; omega
          · rw [Int32.le_iff_toInt_le, show (1000 : Int32).toInt = 1000 from rfl]; omega
        · rw [pk_un e, pk_un e, pk_un e, pk_un e]; exact h4 j (by omega)
      · dsimp only
        rw [h3, x_c (by omega)]
        by_cases e : j = nr
        · rw [e, pk_us, pk_un (by omega)]
          have hlt : c25 (nr - 1) < p0 := by
            have z : ¬ (¬ fcn ≤ 0 ∧ ¬ g0 (fcn - 1).toNatClampNeg < p0) := fun z => q1 (Or.inr (Or.inr z))
            rw [h2, x_p (by omega), x_c (by omega), (h4 (nr - 1) (by omega)).1] at z
            by_cases z2 : c25 (nr - 1) < p0
            · exact z2
            · exact absurd ⟨nI_ge (a := 0) (by omega) (by omega), z2⟩ z
          rcases Nat.lt_or_ge m (nr - 1) with z | z
          · exact Int32.lt_trans (h5 m (nr - 1) z (by omega)) hlt
          · rw [show m = nr - 1 by omega]; exact hlt
        · rw [pk_un e, pk_un (by omega)]; exact h5 m j hm (by omega)
/-- where packs stand -/
def r_packs (nc : Nat) (fo c22 : Nat → Int32) : Prop := ∀ j, j < 8 → fo j = c22 j ∧ (nc ≤ j → c22 j = -1)
theorem r_packOf {nc : Nat} {u0 : Int32} {fo c22 : Nat → Int32} (hu : u0 = nI nc) (hn : nc ≤ 8) (h : r_packs nc fo c22) (p0 : Int32) : m_foundFor fo p0 = m_mpackOf u0 c22 p0 := by
  rw [m_foundFor, m_mpackOf, m_isCell, hu]
  by_cases q0 : p0 < 0
  · rw [if_pos (Or.inl q0), if_pos (by rw [if_pos (Or.inl q0)])]
  · obtain ⟨i, hi, rfl⟩ := nI_of q0
    by_cases q1 : nI nc ≤ nI i
    · rw [if_pos (show (if nI i < 0 ∨ nI nc ≤ nI i then (0 : Int32) else 1) = 0 from if_pos (Or.inr q1))]
      by_cases q2 : (8 : Int32) ≤ nI i
      · rw [if_pos (Or.inr q2)]
      · rw [if_neg (fun z => z.elim q0 q2), nI_clamp hi]
        have h8 : i < 8 := ix_nge (k := 8) q2 (by decide) hi
        rw [(h i h8).1, (h i h8).2 ((nI_leI (by omega) hi).mp q1)]
    · have hlt := ix_nge q1 (by omega) hi
      rw [if_neg (show ¬ (if nI i < 0 ∨ nI nc ≤ nI i then (0 : Int32) else 1) = 0 by rw [if_neg (fun z => z.elim q0 q1)]; decide), if_neg (fun z => z.elim q0 (fun z => absurd z (nI_ge (b := 8) (by omega) (by decide)))), nI_clamp hi]
      exact (h i (by omega)).1
