-- what cell(), warm(), step(), rest() leave: the relation is kept
theorem r_sum_c {c5 c6 d5 d6 : Nat → Int32} {i : Nat} : ∀ {k : Nat}, (∀ m, m < k → d5 (30 * i + m) = c5 (30 * i + m) ∧ d6 (30 * i + m) = c6 (30 * i + m)) → r_sum d5 d6 i k = r_sum c5 c6 i k := by
  intro k
  induction k with
  | zero => intro _; rfl
  | succ k ih => intro h; rw [r_sum, r_sum, ih (fun m hm => h m (by omega)), (h k (by omega)).1, (h k (by omega)).2]
theorem r_vt_c {c6 c7 d6 d7 : Nat → Int32} {i : Nat} : ∀ {k : Nat}, (∀ m, m < k → d6 (30 * i + m) = c6 (30 * i + m) ∧ d7 (30 * i + m) = c7 (30 * i + m)) → r_vt d6 d7 i k = r_vt c6 c7 i k := by
  intro k
  induction k with
  | zero => intro _; rfl
  | succ k ih => intro h; rw [r_vt, r_vt, ih (fun m hm => h m (by omega)), (h k (by omega)).1, (h k (by omega)).2, (h (k - 1) (by omega)).1, (h (k - 1) (by omega)).2]
theorem r_stp_c {i k : Nat} {t : CeT} {c5 c6 c7 d5 d6 d7 : Nat → Int32} (h : r_stp i k t c5 c6 c7) (h5 : ∀ m, m < k → d5 (30 * i + m) = c5 (30 * i + m)) (h6 : ∀ m, m < k → d6 (30 * i + m) = c6 (30 * i + m)) (h7 : ∀ m, m < k → d7 (30 * i + m) = c7 (30 * i + m)) : r_stp i k t d5 d6 d7 := by
  obtain ⟨a1, a2, a3, a4, a5⟩ := h
  refine ⟨a1, ?_, fun hk => ?_, ?_, ?_⟩
  · rw [r_sum_c (fun m hm => ⟨h5 m hm, h6 m hm⟩)]; exact a2
  · rw [h6 _ (by omega), h7 _ (by omega)]; exact a3 hk
  · rw [r_vt_c (fun m hm => ⟨h6 m hm, h7 m hm⟩)]; exact a4
  · rw [r_vt_c (fun m hm => ⟨h6 m hm, h7 m hm⟩)]; exact a5
theorem r_rst_c {i r : Nat} {t : CeT} {c9 c10 d9 d10 : Nat → Int32} (h : r_rst i r t c9 c10) (h9 : ∀ m, m < r → d9 (10 * i + m) = c9 (10 * i + m)) (h10 : ∀ m, m < r → d10 (10 * i + m) = c10 (10 * i + m)) : r_rst i r t d9 d10 := by
  obtain ⟨a1, a2⟩ := h
  refine ⟨a1, fun hr => ?_⟩
  have e9 := h9 0 (by omega)
  have e10 := h10 0 (by omega)
  rw [Nat.add_zero] at e9 e10
  rw [e9, e10, h9 (r - 1) (by omega), h10 (r - 1) (by omega)]
  exact a2 hr
/-- Cell a, the i-th, and its rows are changed: the others are as they were -/
theorem r_put {nc : Nat} {cnt u0 : Int32} {fc : Nat → Option Nat} {LP : List Nat} {ce : Nat → CeT} {c1 c4 c5 c6 c7 c8 c9 c10 d1 d4 d5 d6 d7 d8 d9 d10 : Nat → Int32} {i a : Nat} {t : CeT}
    (h : r_cells nc cnt u0 fc LP ce c1 c4 c5 c6 c7 c8 c9 c10) (hi : i < nc) (ha : fc i = some a) (ht : r_cell i t d1 d4 d5 d6 d7 d8 d9 d10)
    (e1 : ∀ j, j ≠ i → d1 j = c1 j) (e4 : ∀ j, j ≠ i → d4 j = c4 j) (e8 : ∀ j, j ≠ i → d8 j = c8 j)
    (e5 : ∀ j m, j ≠ i → m < 30 → d5 (30 * j + m) = c5 (30 * j + m)) (e6 : ∀ j m, j ≠ i → m < 30 → d6 (30 * j + m) = c6 (30 * j + m)) (e7 : ∀ j m, j ≠ i → m < 30 → d7 (30 * j + m) = c7 (30 * j + m))
    (e9 : ∀ j m, j ≠ i → m < 10 → d9 (10 * j + m) = c9 (10 * j + m)) (e10 : ∀ j m, j ≠ i → m < 10 → d10 (10 * j + m) = c10 (10 * j + m)) (hr : r_rng d5 d6 d7 d10) (hd : m_days d8 d9) :
    r_cells nc cnt u0 fc LP (va_up ce a t) d1 d4 d5 d6 d7 d8 d9 d10 := by
  obtain ⟨h1, h2, h3, h4, h5, h6, h7, -, -⟩ := h
  refine ⟨h1, h2, h3, h4, fun j hj => ?_, h6, fun j hj hj8 => ?_, hr, hd⟩
  · by_cases e : j = i
    · subst e
      obtain ⟨b, hb, hb2, -⟩ := h5 j hj
      cases hb.symm.trans ha
      exact ⟨a, ha, hb2, by rw [va_up_self]; exact ht⟩
    · obtain ⟨b, hb, hb2, g1, ⟨k, g2, g3, g4⟩, ⟨r, g5, g6, g7⟩⟩ := h5 j hj
      have hne : b ≠ a := fun z => e (h6 j i hj hi (by rw [hb, ha, z]))
      refine ⟨b, hb, hb2, ?_⟩
      rw [va_up_ne _ _ hne]
      exact ⟨by rw [e1 j e]; exact g1, ⟨k, g2, by rw [e4 j e]; exact g3, r_stp_c g4 (fun m hm => e5 j m e (by omega)) (fun m hm => e6 j m e (by omega)) (fun m hm => e7 j m e (by omega))⟩, ⟨r, g5, by rw [e8 j e]; exact g6, r_rst_c g7 (fun m hm => e9 j m e (by omega)) (fun m hm => e10 j m e (by omega))⟩⟩
  · have hne : j ≠ i := by omega
    rw [e1 j hne, e4 j hne, e8 j hne]
    exact h7 j hj hj8
section RK
variable {nc : Nat} {cnt u0 u2 u3 : Int32} {fc : Nat → Option Nat} {LP : List Nat} {ce : Nat → CeT} {c1 c4 c5 c6 c7 c8 c9 c10 : Nat → Int32} {p0 p1 p2 p3 : Int32} {i a : Nat}
/-- cell() -/
theorem k_cell (h : r_cells nc cnt u0 fc LP ce c1 c4 c5 c6 c7 c8 c9 c10) (h8 : nc < 8) {q : Nat} (hq : q ∉ LP) : r_cells (nc + 1) (cnt + 1) (u0 + 1) (va_up fc cnt.toNatClampNeg (some q)) (LP ++ [q]) (va_up ce q (0, 0, 0, 0, 0, 0, 0, 0, 0, 0, 0, 0)) c1 c4 c5 c6 c7 c8 c9 c10 := by
  obtain ⟨h1, h2, h3, h4, h5, h6, h7, hr, hd⟩ := h
  have ec : cnt.toNatClampNeg = nc := by rw [h2, x_c (by omega)]
  refine ⟨by omega, by rw [h2, nI_1], by rw [h3, nI_1], ?_, fun j hj => ?_, fun j m hj hm e => ?_, fun j hj hj8 => h7 j (by omega) hj8, hr, hd⟩
  · rw [List.nodup_append]
    refine ⟨h4, by simp, fun x hx y hy => ?_⟩
    rw [List.mem_singleton] at hy
    subst hy
    exact fun z => hq (z ▸ hx)
  · rw [ec]
    by_cases e : j = nc
    · subst e
      obtain ⟨g1, g2, g3⟩ := h7 j (Nat.le_refl _) h8
      refine ⟨q, va_up_self _ _ _, List.mem_append.mpr (Or.inr (List.mem_singleton.mpr rfl)), ?_⟩
      rw [va_up_self]
      exact ⟨g1.symm, ⟨0, by omega, g2, rfl, rfl, fun z => absurd z (by omega), rfl, rfl⟩, ⟨0, by omega, g3, rfl, fun z => absurd z (by omega)⟩⟩
    · obtain ⟨b, hb, hb2, g⟩ := h5 j (by omega)
      have hne : b ≠ q := fun z => hq (z ▸ hb2)
      exact ⟨b, by rw [va_up_ne _ _ e]; exact hb, List.mem_append.mpr (Or.inl hb2), by rw [va_up_ne _ _ hne]; exact g⟩
  · rw [ec] at e
    have key : ∀ x, x < nc → fc x ≠ some q := fun x hx z => by
      obtain ⟨b, hb, hb2, -⟩ := h5 x hx
      rw [hb] at z
      cases z
      exact hq hb2
    by_cases ej : j = nc <;> by_cases em : m = nc
    · omega
    · rw [ej, va_up_self, va_up_ne _ _ em] at e
      exact absurd e.symm (key m (by omega))
    · rw [em, va_up_self, va_up_ne _ _ ej] at e
      exact absurd e (key j (by omega))
    · rw [va_up_ne _ _ ej, va_up_ne _ _ em] at e
      exact h6 j m (by omega) (by omega) e
theorem r_spn {u2 u3 : Int32} {c1 : Nat → Int32} (hi : i < 1000) : m_inSpan u2 u3 c1 (nI i) = m_in (c1 i).toInt64 u2.toInt64 u3.toInt64 := by
  rw [m_inSpan, n_in, x_c hi]
/-- warm() -/
theorem k_warm (h : r_cells nc cnt u0 fc LP ce c1 c4 c5 c6 c7 c8 c9 c10) (hi : i < nc) (ha : fc i = some a) (p1 : Int32) : (m_warm u2 u3 (ce a).1 p1).1 = (m_mwarm u0 u2 u3 c1 (nI i) p1).1 ∧ r_cells nc cnt u0 fc LP (va_up ce a ((m_warm u2 u3 (ce a).1 p1).2, (ce a).2)) (m_mwarm u0 u2 u3 c1 (nI i) p1).2 c4 c5 c6 c7 c8 c9 c10 := by
  have h8 := h.1
  obtain ⟨b, hb, hb2, g1, g2, g3⟩ := h.2.2.2.2.1 i hi
  cases hb.symm.trans ha
  have hr := h.2.2.2.2.2.2.2.1
  have hd := h.2.2.2.2.2.2.2.2
  rw [m_warm, m_mwarm, r_is hi h]
  by_cases q : m_in p1.toInt64 0 1000000 = 0
  · rw [if_pos q, if_pos (Or.inr q)]
    refine ⟨rfl, r_put h hi ha ⟨g1, g2, g3⟩ (fun _ _ => rfl) (fun _ _ => rfl) (fun _ _ => rfl) (fun _ _ _ _ => rfl) (fun _ _ _ _ => rfl) (fun _ _ _ _ => rfl) (fun _ _ _ _ => rfl) (fun _ _ _ _ => rfl) hr hd⟩
  · rw [if_neg q, if_neg (by rintro (z | z); exact absurd z (by decide); exact q z)]
    dsimp only
    refine ⟨?_, r_put h hi ha ⟨?_, g2, g3⟩ (fun j hj => ?_) (fun _ _ => rfl) (fun _ _ => rfl) (fun _ _ _ _ => rfl) (fun _ _ _ _ => rfl) (fun _ _ _ _ => rfl) (fun _ _ _ _ => rfl) (fun _ _ _ _ => rfl) hr hd⟩
    · rw [r_spn (by omega), x_c (by omega), pk_us]
    · rw [x_c (by omega), pk_us]
    · rw [x_c (by omega), pk_un hj]
theorem r_upd {c : Nat → Int32} {n m : Nat} {x : Int32} {P : Int32 → Prop} (h : ∀ j, j < n → P (c j)) (hx : P x) : ∀ j, j < n → P (upd c m x j) := fun j hj => by
  by_cases e : j = m
  · rw [e, pk_us]; exact hx
  · rw [pk_un e]; exact h j hj
/-- step() -/
theorem k_step (h : r_cells nc cnt u0 fc LP ce c1 c4 c5 c6 c7 c8 c9 c10) (hi : i < nc) (ha : fc i = some a) (p1 p2 p3 : Int32) {f0 f1 : Int32} {f2 : Int64} {f3 f4 f5 f6 f7 f8 f9 f10 f11 : Int32} (hf : ce a = (f0, f1, f2, f3, f4, f5, f6, f7, f8, f9, f10, f11)) :
    (m_step f0 f1 f2 f3 f4 f5 f6 f7 f8 f9 f10 f11 u2 u3 p1 p2 p3).1 = (m_mstep u0 u2 u3 c1 c4 c5 c6 c7 (nI i) p1 p2 p3).1 ∧
    r_cells nc cnt u0 fc LP (va_up ce a (m_step f0 f1 f2 f3 f4 f5 f6 f7 f8 f9 f10 f11 u2 u3 p1 p2 p3).2) c1 (m_mstep u0 u2 u3 c1 c4 c5 c6 c7 (nI i) p1 p2 p3).2.1 (m_mstep u0 u2 u3 c1 c4 c5 c6 c7 (nI i) p1 p2 p3).2.2.1 (m_mstep u0 u2 u3 c1 c4 c5 c6 c7 (nI i) p1 p2 p3).2.2.2.1 (m_mstep u0 u2 u3 c1 c4 c5 c6 c7 (nI i) p1 p2 p3).2.2.2.2 c8 c9 c10 := by
  have h8 := h.1
  obtain ⟨b, hb, hb2, g1, ⟨k, g2, g3, g4⟩, g5⟩ := h.2.2.2.2.1 i hi
  cases hb.symm.trans ha
  have hr := h.2.2.2.2.2.2.2.1
  have hd := h.2.2.2.2.2.2.2.2
  rw [hf] at g1 g4 g5
  have same : r_cells nc cnt u0 fc LP (va_up ce a (f0, f1, f2, f3, f4, f5, f6, f7, f8, f9, f10, f11)) c1 c4 c5 c6 c7 c8 c9 c10 :=
    r_put h hi ha ⟨g1, ⟨k, g2, g3, g4⟩, g5⟩ (fun _ _ => rfl) (fun _ _ => rfl) (fun _ _ => rfl) (fun _ _ _ _ => rfl) (fun _ _ _ _ => rfl) (fun _ _ _ _ => rfl) (fun _ _ _ _ => rfl) (fun _ _ _ _ => rfl) hr hd
  obtain ⟨b1, b2, b3, b4, b5⟩ := g4
  dsimp only at g1 b1 b2 b3 b4 b5
  rw [m_step, m_mstep, r_is hi h, r_spn (by omega), ← g1, x_c (by omega), g3, m_addStep, b1]
  by_cases q0 : m_in f0.toInt64 u2.toInt64 u3.toInt64 = 0
  · rw [if_pos q0, if_pos (Or.inr (Or.inr (Or.inr (Or.inr (Or.inr q0)))))]
    rw [b1] at same
    exact ⟨rfl, same⟩
  · rw [if_neg q0]
    by_cases q1 : 30 ≤ nI k ∨ m_in p1.toInt64 1 100000 = 0 ∨ m_in p2.toInt64 (-100000) 100000 = 0 ∨ m_in p3.toInt64 0 10000 = 0
    · have q2 : (1 : Int32) = 0 ∨ nI k = 30 ∨ m_in p1.toInt64 1 100000 = 0 ∨ m_in p2.toInt64 (-100000) 100000 = 0 ∨ m_in p3.toInt64 0 10000 = 0 ∨ m_in f0.toInt64 u2.toInt64 u3.toInt64 = 0 := by
        rcases q1 with z | z | z | z
        · have := (nI_leI (a := 30) (by decide) (by omega)).mp z
          exact Or.inr (Or.inl (by rw [show k = 30 by omega]; rfl))
        · exact Or.inr (Or.inr (Or.inl z))
        · exact Or.inr (Or.inr (Or.inr (Or.inl z)))
        · exact Or.inr (Or.inr (Or.inr (Or.inr (Or.inl z))))
      rw [if_pos q1, if_pos q2]
      rw [b1] at same
      exact ⟨rfl, same⟩
    · have hk : k < 30 := by
        rcases Nat.lt_or_ge k 30 with z | z
        · exact z
        · exact absurd (Or.inl (nI_le (a := 30) z (by omega))) q1
      have q2 : ¬ ((1 : Int32) = 0 ∨ nI k = 30 ∨ m_in p1.toInt64 1 100000 = 0 ∨ m_in p2.toInt64 (-100000) 100000 = 0 ∨ m_in p3.toInt64 0 10000 = 0 ∨ m_in f0.toInt64 u2.toInt64 u3.toInt64 = 0) := by
        rintro (z | z | z | z | z | z)
        · exact absurd z (by decide)
        · exact q1 (Or.inl (by rw [z]; decide))
        · exact q1 (Or.inr (Or.inl z))
        · exact q1 (Or.inr (Or.inr (Or.inl z)))
        · exact q1 (Or.inr (Or.inr (Or.inr z)))
        · exact q0 z
      rw [if_neg q1, if_neg q2, x_30, x_c (by omega)]
      dsimp only
      have r1 : ¬ (p1.toInt < 1 ∨ 100000 < p1.toInt) := fun z => q1 (Or.inr (Or.inl (n_inR.mpr z)))
      have r2 : ¬ (p2.toInt < -100000 ∨ 100000 < p2.toInt) := fun z => q1 (Or.inr (Or.inr (Or.inl (n_inR.mpr z))))
      have r3 : ¬ (p3.toInt < 0 ∨ 10000 < p3.toInt) := fun z => q1 (Or.inr (Or.inr (Or.inr (n_inR.mpr z))))
      refine ⟨if_neg (by decide), r_put h hi ha ⟨g1, ⟨k + 1, by omega, ?_, ?_⟩, g5⟩ (fun _ _ => rfl) (fun j hj => pk_un hj) (fun _ _ => rfl) (fun j m hj hm => pk_un (by omega)) (fun j m hj hm => pk_un (by omega)) (fun j m hj hm => pk_un (by omega)) (fun _ _ _ _ => rfl) (fun _ _ _ _ => rfl) ⟨?_, ?_, ?_, hr.2.2.2⟩ hd⟩
      · show upd c4 i (nI k + 1) i = nI (k + 1)
        rw [pk_us, nI_1]
      · refine ⟨nI_1 k, ?_, fun _ => ?_, ?_, ?_⟩
        · show f2 + p1.toInt64 * p2.toInt64 = r_sum _ _ i (k + 1)
          rw [r_sum, pk_us, pk_us, b2, r_sum_c (c5 := c5) (c6 := c6) (fun m hm => ⟨pk_un (by omega), pk_un (by omega)⟩)]
        · show p2 = upd c6 (30 * i + k) p2 (30 * i + (k + 1 - 1)) ∧ p3 = upd c7 (30 * i + k) p3 (30 * i + (k + 1 - 1))
          rw [Nat.add_sub_cancel, pk_us, pk_us]; exact ⟨rfl, rfl⟩
        all_goals
          rw [r_vt, r_vt_c (c6 := c6) (c7 := c7) (fun m hm => ⟨pk_un (by omega), pk_un (by omega)⟩), pk_us, pk_us]
          by_cases hk0 : k = 0
          · rw [if_pos (Or.inl hk0)]
            show (if nI k ≤ 0 ∨ p2 = f3 then _ else _) = _
            rw [if_pos (Or.inl (by rw [hk0]; decide))]
            first | exact b4 | exact b5
          · obtain ⟨b31, b32⟩ := b3 (by omega)
            rw [pk_un (by omega), pk_un (by omega), ← b31, ← b32]
            show (if nI k ≤ 0 ∨ p2 = f3 then _ else _) = _
            have hk1 : ¬ nI k ≤ 0 := nI_ge (a := 0) (by omega) (by omega)
            by_cases he : p2 = f3
            · rw [if_pos (Or.inr he), if_pos (Or.inr he)]
              first | exact b4 | exact b5
            · rw [if_neg (fun z => z.elim hk1 he), if_neg (fun z => z.elim hk0 he)]
      · refine r_upd (P := fun v => ¬ v < 0 ∧ v ≤ 100000) hr.1 ⟨?_, ?_⟩
        · rw [Int32.lt_iff_toInt_lt, Int32.toInt_zero]; omega
        · rw [Int32.le_iff_toInt_le, show (100000 : Int32).toInt = 100000 from rfl]; omega
      · refine r_upd (P := fun v => ¬ v < (-100000) ∧ v ≤ 100000) hr.2.1 ⟨?_, ?_⟩
        · rw [Int32.lt_iff_toInt_lt, show (-100000 : Int32).toInt = -100000 from rfl]; omega
        · rw [Int32.le_iff_toInt_le, show (100000 : Int32).toInt = 100000 from rfl]; omega
      · refine r_upd (P := fun v => ¬ v < 0 ∧ v ≤ 10000) hr.2.2.1 ⟨?_, ?_⟩
        · rw [Int32.lt_iff_toInt_lt, Int32.toInt_zero]; omega
        · rw [Int32.le_iff_toInt_le, show (10000 : Int32).toInt = 10000 from rfl]; omega
end RK
