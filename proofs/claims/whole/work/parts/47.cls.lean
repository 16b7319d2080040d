-- cls(): the rules of both sides
def r_rules (g0 g1 g2 g3 g4 : Nat → Int32) (sn u13 : Int32) (c14 c15 c16 : Nat → Int32) : Prop :=
  (∀ i, i ≤ 20 → ¬ c15 i < 0 ∧ c15 i ≤ 200) ∧ ∃ (ns : Nat) (E : Nat → Nat), ns ≤ 20 ∧ sn = nI ns ∧ u13 = nI ns ∧ E 0 = 0 ∧ (∀ i, i < ns → E i ≤ E (i + 1)) ∧ E ns ≤ 100 ∧ (∀ i, i ≤ ns → c15 i = nI (E i)) ∧
  (∀ i, i < ns → g0 i = c14 i ∧ g1 i = nI (E (i + 1)) ∧ ¬ c14 i < 0 ∧ c14 i ≤ 98) ∧ ∀ j, j < E ns → g2 j = c16 (3 * j) ∧ g3 j = c16 (3 * j + 1) ∧ g4 j = c16 (3 * j + 2)
theorem r_r13 {g0 g1 g2 g3 g4 : Nat → Int32} {sn u13 : Int32} {c14 c15 c16 : Nat → Int32} (h : r_rules g0 g1 g2 g3 g4 sn u13 c14 c15 c16) : u13 ≤ 20 := by
  obtain ⟨-, ns, E, h1, -, h3, -⟩ := h
  rw [h3]; exact nI_le (b := 20) h1 (by decide)
theorem x_3 (j k : Nat) : 3 * nI j + nI k = nI (3 * j + k) := by rw [show (3 : Int32) = nI 3 from rfl, pk_mul, nI_add]
theorem x_3z (j : Nat) : 3 * nI j = nI (3 * j) := by rw [show (3 : Int32) = nI 3 from rfl, pk_mul]
theorem x_Emono {E : Nat → Nat} {ns : Nat} (h : ∀ i, i < ns → E i ≤ E (i + 1)) : ∀ {i : Nat}, i ≤ ns → E i ≤ E ns := by
  intro i hi
  obtain ⟨d, rfl⟩ : ∃ d, ns = i + d := ⟨ns - i, by omega⟩
  induction d with
  | zero => exact Nat.le_refl _
  | succ d ih => exact Nat.le_trans (ih (fun j hj => h j (by omega)) (by omega)) (h (i + d) (by omega))
theorem l_mall0 {u0 : Int32} {c4 c5 c6 c7 c8 c10 c16 : Nat → Int32} {p0 lim : Int32} : ∀ (n : Nat) (x : Int32), m_mall u0 c4 c5 c6 c7 c8 c10 c16 p0 lim n x 0 = 0 := by
  intro n
  induction n with
  | zero => intro x; rfl
  | succ n ih =>
    intro x
    rw [m_mall]
    split
    · rfl
    · rw [if_pos rfl]; exact ih _
theorem l_all {u0 : Int32} {c4 c5 c6 c7 c8 c10 c16 : Nat → Int32} {p0 : Int32} {f2 : Int64} {f5 f6 f11 : Int32} {g2 g3 g4 : Nat → Int32} {b : Nat} (hb : b ≤ 100)
    (hh : ∀ j, j < b → (m_mholds u0 c4 c5 c6 c7 c8 c10 c16 p0 (nI j) = 0 ↔ m_holds f2 f5 f6 f11 g2 g3 g4 (nI j) = 0)) :
    ∀ (n j : Nat), j ≤ b → m_mall u0 c4 c5 c6 c7 c8 c10 c16 p0 (nI b) n (nI j) 1 = m_allHold f2 f5 f6 f11 g2 g3 g4 (nI b) n (nI j) := by
  intro n
  induction n with
  | zero => intro j _; rfl
  | succ n ih =>
    intro j hj
    rw [m_mall, m_allHold]
    by_cases h : nI b ≤ nI j
    · rw [if_pos h, if_pos h]
    · have hlt := ix_nge h (by omega) (by omega)
      rw [if_neg h, if_neg h, if_neg (by decide)]
      by_cases h2 : m_holds f2 f5 f6 f11 g2 g3 g4 (nI j) = 0
      · rw [if_pos h2, if_pos ((hh j hlt).mpr h2), l_mall0]
      · rw [if_neg h2, if_neg (fun z => h2 ((hh j hlt).mp z)), nI_1]
        exact ih (j + 1) hlt
section RCL
variable {nc : Nat} {cnt u0 : Int32} {fc : Nat → Option Nat} {LP : List Nat} {ce : Nat → CeT} {c1 c4 c5 c6 c7 c8 c9 c10 : Nat → Int32} {i k r : Nat} {t : CeT} {g0 g1 g2 g3 g4 : Nat → Int32} {sn u13 : Int32} {c14 c15 c16 : Nat → Int32}
theorem r_holds (hi : i < nc) (h : r_cells nc cnt u0 fc LP ce c1 c4 c5 c6 c7 c8 c9 c10) (hk : k ≤ 30) (hr : r ≤ 10) (e4 : c4 i = nI k) (e8 : c8 i = nI r) (hs : r_stp i k t c5 c6 c7) (hs2 : r_rst i r t c9 c10) (hr0 : 0 < r)
    {j : Nat} (hj : j < 100) (hg : g2 j = c16 (3 * j) ∧ g3 j = c16 (3 * j + 1) ∧ g4 j = c16 (3 * j + 2)) : m_mholds u0 c4 c5 c6 c7 c8 c10 c16 (nI i) (nI j) = 0 ↔ m_holds t.2.2.1 t.2.2.2.2.2.1 t.2.2.2.2.2.2.1 t.2.2.2.2.2.2.2.2.2.2.2 g2 g3 g4 (nI j) = 0 := by
  have h8 := h.1
  obtain ⟨a2, a3, a4⟩ := hg
  have E : m_mholds u0 c4 c5 c6 c7 c8 c10 c16 (nI i) (nI j) = m_holds t.2.2.1 t.2.2.2.2.2.1 t.2.2.2.2.2.2.1 t.2.2.2.2.2.2.2.2.2.2.2 g2 g3 g4 (nI j) := by
    rw [m_mholds, m_holds, if_neg (show ¬ (nI j < 0 ∨ ¬ nI j < 100) from fun z => z.elim (nI_pos (by omega)) (fun z => z (nI_lt (b := 100) hj (by decide)))), x_3z, show nI (3 * j) + 1 = nI (3 * j + 1) from nI_1 _, show nI (3 * j) + 2 = nI (3 * j + 2) from nI_add _ 2]
    rw [x_c (by omega), x_c (by omega), x_c (by omega), x_c (by omega), a2, a3, a4]
    by_cases q1 : c16 (3 * j) = 113
    · rw [if_pos q1, if_pos q1, r_charge hi h hk e4 hs]
    · rw [if_neg q1, if_neg q1]
      by_cases q2 : c16 (3 * j) = 118
      · rw [if_pos q2, if_pos q2, m_lastRest, x_c (by omega), e8, x_10, x_p (by omega), x_c (by omega), (hs2.2 hr0).2.2.2, show 10 * i + r - 1 = 10 * i + (r - 1) by omega]
      · rw [if_neg q2, if_neg q2]
        obtain ⟨m0, hm⟩ := r_res hi h hk e4 hs 0
        obtain ⟨m1, -⟩ := r_res hi h hk e4 hs 1
        rcases hm with ⟨q3, q4⟩ | ⟨q3, a, b, ha, hb, hb0, ea, eb⟩
        · rw [if_pos q3, q4, if_pos (by decide)]
        · rw [if_neg q3, m0, m1, ea, eb, if_neg (show ¬ nI b ≤ 0 from nI_ge (a := 0) hb0 hb)]
          have ec : ∀ p : Int32, ¬ m_in p.toInt64 0 1 = 0 → m_cres (nI a) (nI b) p = m_mpart (nI a) (nI b) p := fun p hp => by
            rw [m_cres, m_hasRes, if_neg (show ¬ nI b ≤ 0 from nI_ge (a := 0) hb0 hb), if_neg (show ¬ (1 : Int32) = 0 by decide), n_part ha hb hb0, if_neg hp]
          rw [ec 0 (by decide), ec 1 (by decide), r_div ha hb hb0]
  rw [E]
theorem r_class (hi : i < nc) (h : r_cells nc cnt u0 fc LP ce c1 c4 c5 c6 c7 c8 c9 c10) (hk : k ≤ 30) (hr : r ≤ 10) (e4 : c4 i = nI k) (e8 : c8 i = nI r) (hs : r_stp i k t c5 c6 c7) (hs2 : r_rst i r t c9 c10) (hR : r_rules g0 g1 g2 g3 g4 sn u13 c14 c15 c16) :
    m_mclass u0 c4 c5 c6 c7 c8 c10 c14 c15 c16 u13 (nI i) = m_class t.2.1 t.2.2.2.2.2.2.2.1 t.2.2.1 t.2.2.2.2.2.1 t.2.2.2.2.2.2.1 t.2.2.2.2.2.2.2.2.2.2.2 g0 g1 g2 g3 g4 sn ∧
    (-1 ≤ (m_class t.2.1 t.2.2.2.2.2.2.2.1 t.2.2.1 t.2.2.2.2.2.1 t.2.2.2.2.2.2.1 t.2.2.2.2.2.2.2.2.2.2.2 g0 g1 g2 g3 g4 sn).toInt ∧ (m_class t.2.1 t.2.2.2.2.2.2.2.1 t.2.2.1 t.2.2.2.2.2.1 t.2.2.2.2.2.2.1 t.2.2.2.2.2.2.2.2.2.2.2 g0 g1 g2 g3 g4 sn).toInt ≤ 99) := by
  have h8 := h.1
  obtain ⟨hfc, ns, E, h1, h2, h3, hE0, hEm, hE, h15, hg, hcl⟩ := hR
  rw [m_mclass, m_class, r_open (by omega) hk hr e4 e8 hs hs2, r_is hi h]
  by_cases ho : m_open t.2.1 t.2.2.2.2.2.2.2.1 = 0
  · have hr0 : 0 < r := by
      rcases Nat.eq_zero_or_pos r with z | z
      · rw [hs2.1, z, m_open, if_pos (Or.inr (show nI 0 = 0 from rfl))] at ho
        exact absurd ho (by decide)
      · exact z
    rw [if_neg (by rintro (z | z); exact absurd z (by decide); exact z ho), if_pos ho, h2, h3, x_c (by omega)]
    have L : ∀ (n n2 m : Nat), m ≤ ns → ns < m + n → ns < m + n2 → m_mfirst u0 c4 c5 c6 c7 c8 c10 c14 c15 c16 (nI ns) (nI i) n m = m_first t.2.2.1 t.2.2.2.2.2.1 t.2.2.2.2.2.2.1 t.2.2.2.2.2.2.2.2.2.2.2 g0 g1 g2 g3 g4 (nI ns) n2 m (nI (E m)) ∧
        (-1 ≤ (m_first t.2.2.1 t.2.2.2.2.2.1 t.2.2.2.2.2.2.1 t.2.2.2.2.2.2.2.2.2.2.2 g0 g1 g2 g3 g4 (nI ns) n2 m (nI (E m))).toInt ∧ (m_first t.2.2.1 t.2.2.2.2.2.1 t.2.2.2.2.2.2.1 t.2.2.2.2.2.2.2.2.2.2.2 g0 g1 g2 g3 g4 (nI ns) n2 m (nI (E m))).toInt ≤ 99) := by
      intro n
      induction n with
      | zero => intro n2 m a1 a2; omega
      | succ n ih =>
        intro n2 m a1 a2 a3
        obtain ⟨n3, rfl⟩ : ∃ n3, n2 = n3 + 1 := ⟨n2 - 1, by omega⟩
        rw [m_mfirst, m_first]
        by_cases q : nI ns ≤ nI m
        · rw [if_pos q, if_pos (Or.inl q)]; exact ⟨rfl, by decide, by decide⟩
        · have hlt := ix_nge q (by omega) (by omega)
          rw [if_neg q, if_neg (show ¬ (nI ns ≤ nI m ∨ 20 ≤ nI m) from fun z => z.elim q (nI_ge (b := 20) (by omega) (by decide))), nI_1, x_c (by omega), x_c (by omega), h15 m (by omega), h15 (m + 1) (by omega), (hg m hlt).1, (hg m hlt).2.1]
          have hmm := x_Emono hEm (i := m + 1) (by omega)
          have hm1 := hEm m hlt
          have hA := l_all (u0 := u0) (c4 := c4) (c5 := c5) (c6 := c6) (c7 := c7) (c8 := c8) (c10 := c10) (c16 := c16) (p0 := nI i) (f2 := t.2.2.1) (f5 := t.2.2.2.2.2.1) (f6 := t.2.2.2.2.2.2.1) (f11 := t.2.2.2.2.2.2.2.2.2.2.2) (g2 := g2) (g3 := g3) (g4 := g4) (b := E (m + 1)) (by omega)
            (fun j hj => r_holds hi h hk hr e4 e8 hs hs2 hr0 (by omega) (hcl j (by omega))) (((nI (E (m + 1))).toInt - (nI (E m)).toInt).toNat + 1) (E m) hm1
          rw [hA]
          by_cases z : m_allHold t.2.2.1 t.2.2.2.2.2.1 t.2.2.2.2.2.2.1 t.2.2.2.2.2.2.2.2.2.2.2 g2 g3 g4 (nI (E (m + 1))) (((nI (E (m + 1))).toInt - (nI (E m)).toInt).toNat + 1) (nI (E m)) = 0
          · rw [if_pos z, if_pos z]
            exact ih n3 (m + 1) hlt (by omega) (by omega)
          · rw [if_neg z, if_neg z]
            have hz := (hg m hlt).2.2
            rw [Int32.lt_iff_toInt_lt, Int32.toInt_zero, Int32.le_iff_toInt_le, show (98 : Int32).toInt = 98 from rfl] at hz
            exact ⟨rfl, by omega, by omega⟩
    have := L (ns + 1) 21 0 (Nat.zero_le _) (by omega) (by omega)
    rw [hE0] at this
    exact this
  · rw [if_pos (Or.inr ho), if_neg ho]; exact ⟨rfl, by decide, by decide⟩
end RCL
