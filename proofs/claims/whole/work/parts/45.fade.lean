-- fade(): by rows, and by cycles
def f_one (q l : Int64) : Int64 := q - q * l / 1000
def f_it (L : Nat → Int64) : Nat → Nat → Int64 → Int64
  | 0, _, q => q
  | n + 1, k, q => f_it L n (k + 1) (f_one q (L k))
theorem f_it_add (L : Nat → Int64) : ∀ (m n k : Nat) (q : Int64), f_it L (m + n) k q = f_it L n (k + m) (f_it L m k q) := by
  intro m
  induction m with
  | zero => intro n k q; rw [Nat.zero_add, Nat.add_zero]; rfl
  | succ m ih => intro n k q; rw [show m + 1 + n = (m + n) + 1 by omega, f_it, ih, f_it, show k + 1 + m = k + (m + 1) by omega]
theorem f_it_c {L M : Nat → Int64} : ∀ {n k : Nat} {q : Int64}, (∀ j, k ≤ j → j < k + n → L j = M j) → f_it L n k q = f_it M n k q := by
  intro n
  induction n with
  | zero => intro k q _; rfl
  | succ n ih => intro k q h; rw [f_it, f_it, h k (by omega) (by omega), ih (fun j h1 h2 => h j (by omega) (by omega))]
theorem f_0 (q : Int64) : f_one q 0 = q := by
  unfold f_one
  rw [Int64.mul_zero, show (0 : Int64) / 1000 = 0 by decide, Int64.sub_zero]
theorem f_it_0 {L : Nat → Int64} : ∀ {n k : Nat} {q : Int64}, (∀ j, k ≤ j → j < k + n → L j = 0) → f_it L n k q = q := by
  intro n
  induction n with
  | zero => intro k q _; rfl
  | succ n ih => intro k q h; rw [f_it, h k (by omega) (by omega), f_0, ih (fun j h1 h2 => h j (by omega) (by omega))]
theorem f_fix {l : Int64} : ∀ {n k : Nat} {q : Int64}, q * l / 1000 = 0 → f_it (fun _ => l) n k q = q := by
  intro n
  induction n with
  | zero => intro k q _; rfl
  | succ n ih =>
    intro k q h
    have e : f_one q l = q := by unfold f_one; rw [h, Int64.sub_zero]
    rw [f_it, e, ih h]
/-- fadeBy: the same loss T times -/
theorem f_by {l : Int32} {T : Nat} (hT : T < 2 ^ 31) : ∀ (n i : Nat) (q : Int64), i ≤ T → i + n = T + 1 → m_fadeBy l (nI T) n i q = f_it (fun _ => l.toInt64) (T - i) i q := by
  intro n
  induction n with
  | zero => intro i q h1 h2; omega
  | succ n ih =>
    intro i q h1 h2
    rw [m_fadeBy]
    by_cases h : nI T ≤ nI i
    · rw [if_pos h]
      have := (nI_leI hT (by omega)).mp h
      rw [show T - i = 0 by omega]; rfl
    · rw [if_neg h]
      have hlt := ix_nge h hT (by omega)
      by_cases h0 : q * l.toInt64 / 1000 = 0
      · rw [if_pos h0, f_fix h0]
      · rw [if_neg h0, ih (i + 1) _ hlt (by omega), show T - i = (T - (i + 1)) + 1 by omega, f_it]
        rfl
theorem f_byn {l t : Int32} {q : Int64} (h : t ≤ 0) : m_fadeBy l t (t.toNatClampNeg + 1) 0 q = q := by
  rw [m_fadeBy, if_pos (show t ≤ nI 0 from h)]
/-- the reference's loss in cycle k -/
theorem f_lost {c25 c26 : Nat → Int32} {nr k i : Nat} (hn : nr ≤ 6) (hi : i < nr) (hk : k < 2 ^ 31) (h1 : ∀ m, m ≤ i → ¬ nI k < c25 m) (h2 : ∀ m, i < m → m < nr → nI k < c25 m) : ∀ (n j : Nat) (l : Int64), j ≤ nr → j + n = nr + 1 → (i < j → l = (c26 i).toInt64) → m_lostAt c25 c26 (nI nr) k n j l = (c26 i).toInt64 := by
  intro n
  induction n with
  | zero => intro j l a1 a2; omega
  | succ n ih =>
    intro j l a1 a2 a3
    rw [m_lostAt]
    by_cases h : nI nr ≤ nI j
    · rw [if_pos h]
      have := (nI_leI (by omega) (by omega)).mp h
      exact a3 (by omega)
    · rw [if_neg h, x_c (by omega)]
      have hlt := ix_nge h (by omega) (by omega)
      refine ih (j + 1) _ hlt (by omega) (fun hij => ?_)
      rcases Nat.lt_trichotomy j i with q | q | q
      · omega
      · rw [q, if_neg (h1 i (Nat.le_refl _))]
      · rw [if_pos (h2 j q hlt)]; exact a3 q
theorem f_lost0 {c25 c26 : Nat → Int32} {nr k : Nat} (hn : nr ≤ 6) (hk : k < 2 ^ 31) (h2 : ∀ m, m < nr → nI k < c25 m) : ∀ (n j : Nat) (l : Int64), j ≤ nr → j + n = nr + 1 → m_lostAt c25 c26 (nI nr) k n j l = l := by
  intro n
  induction n with
  | zero => intro j l a1 a2; omega
  | succ n ih =>
    intro j l a1 a2
    rw [m_lostAt]
    by_cases h : nI nr ≤ nI j
    · rw [if_pos h]
    · rw [if_neg h, x_c (by omega)]
      have hlt := ix_nge h (by omega) (by omega)
      rw [if_pos (h2 j hlt), ih (j + 1) _ hlt (by omega)]
def f_L (c25 c26 : Nat → Int32) (nr k : Nat) : Int64 := m_lostAt c25 c26 (nI nr) k (nr + 1) 0 0
theorem f_R {c25 c26 : Nat → Int32} {nr C : Nat} (hn : nr ≤ 6) (hC : C < 2 ^ 31) : ∀ (n k : Nat) (q : Int64), k ≤ C → k + n = C + 1 → m_fadeR c25 c26 (nI nr) (nI C) n k q = f_it (f_L c25 c26 nr) (C - k) k q := by
  intro n
  induction n with
  | zero => intro k q h1 h2; omega
  | succ n ih =>
    intro k q h1 h2
    rw [m_fadeR]
    by_cases h : nI C ≤ nI k
    · rw [if_pos h]
      have := (nI_leI hC (by omega)).mp h
      rw [show C - k = 0 by omega]; rfl
    · rw [if_neg h]
      have hlt := ix_nge h hC (by omega)
      rw [ih (k + 1) _ hlt (by omega), show C - k = (C - (k + 1)) + 1 by omega, f_it, x_c (by omega)]
      rfl
/-- the end of what the first i rows speak of -/
def f_e (c25 : Nat → Int32) (nr C i : Nat) : Nat := if i < nr then min C (c25 i).toNatClampNeg else C
theorem f_leftOf {g0 g1 c25 c26 : Nat → Int32} {nr C : Nat} {q0 : Int64} (hn : nr ≤ 6) (hC : C ≤ 10000) (h4 : ∀ j, j < nr → g0 j = c25 j ∧ g1 j = c26 j ∧ (¬ c25 j < 0 ∧ c25 j ≤ 10000) ∧ ¬ c26 j < 0 ∧ c26 j ≤ 1000) (h5 : ∀ i j, i < j → j < nr → c25 i < c25 j) :
    ∀ (n i : Nat) (q : Int64), i ≤ nr → 7 ≤ i + n → q = f_it (f_L c25 c26 nr) (f_e c25 nr C i) 0 q0 → m_leftOf g0 g1 (nI nr) (nI C) n i q = f_it (f_L c25 c26 nr) C 0 q0 := by
  have key : ∀ j, j < nr → ∃ F, F ≤ 10000 ∧ c25 j = nI F := fun j hj => by
    obtain ⟨-, -, ⟨a1, a2⟩, -⟩ := h4 j hj
    obtain ⟨F, hF, e⟩ := nI_of a1
    rw [e] at a2
    exact ⟨F, (nI_leI (b := 10000) hF (by decide)).mp a2, e⟩
  intro n
  induction n with
  | zero => intro i q h1 h2; omega
  | succ n ih =>
    intro i q h1 h2 hq
    rw [m_leftOf]
    by_cases hc : nI nr ≤ nI i ∨ 6 ≤ nI i
    · rw [if_pos hc]
      have hi : i = nr := by
        rcases hc with z | z
        · have := (nI_leI (by omega) (by omega)).mp z; omega
        · have := (nI_leI (a := 6) (by decide) (by omega)).mp z; omega
      rw [hq, f_e, if_neg (by omega)]
    · rw [if_neg hc]
      have hlt : i < nr := ix_nge (fun z => hc (Or.inl z)) (by omega) (by omega)
      refine ih (i + 1) _ (by omega) (by omega) ?_
      obtain ⟨F, hF, eF⟩ := key i hlt
      obtain ⟨e0, e1, -⟩ := h4 i hlt
      have eN : m_min (if nI nr ≤ nI i + 1 ∨ 6 ≤ nI i + 1 then nI C else g0 (nI i + 1).toNatClampNeg) (nI C) = nI (f_e c25 nr C (i + 1)) := by
        rw [nI_1]
        unfold f_e
        by_cases hl : i + 1 < nr
        · obtain ⟨G, hG, eG⟩ := key (i + 1) hl
          rw [if_neg (fun z => z.elim (nI_ge hl (by omega)) (nI_ge (b := 6) (by omega) (by decide))), if_pos hl, x_c (by omega), (h4 (i + 1) hl).1, eG, nI_clamp (by omega), m_min]
          by_cases z : C < G
          · rw [if_pos (nI_lt z (by omega)), show min C G = C by omega]
          · rw [if_neg (nI_nlt (by omega) (by omega)), show min C G = G by omega]
        · rw [if_pos (Or.inl (nI_le (by omega) (by omega))), if_neg hl, m_min, if_neg (nI_nlt (Nat.le_refl _) (by omega))]
      have hge : f_e c25 nr C i ≤ f_e c25 nr C (i + 1) ∧ (f_e c25 nr C (i + 1) ≤ C) ∧ f_e c25 nr C i = min C F := by
        have ei : f_e c25 nr C i = min C F := by unfold f_e; rw [if_pos hlt, eF, nI_clamp (by omega)]
        refine ⟨?_, ?_, ei⟩
        · rw [ei]
          unfold f_e
          split
          · rename_i hl
            obtain ⟨G, hG, eG⟩ := key (i + 1) hl
            have := h5 i (i + 1) (by omega) hl
            rw [eF, eG] at this
            have := (nI_ltI (by omega) (by omega)).mp this
            rw [eG, nI_clamp (by omega)]; omega
          · omega
        · unfold f_e; split <;> omega
      dsimp only
      rw [eN, x_c (by omega), e0, e1, eF]
      generalize hE : f_e c25 nr C (i + 1) = E at hge ⊢
      have hc26 : (c26 i).toInt64 = (c26 i).toInt64 := rfl
      by_cases hz : C ≤ F
      · -- the row begins behind the last cycle
        have hEC : E = C := by omega
        have ht : nI E - nI F ≤ 0 := by
          rw [Int32.le_iff_toInt_le, pk_sub_toInt (by omega) (by omega), Int32.toInt_zero]; omega
        rw [f_byn ht, hq, hge.2.2, show min C F = C by omega, hEC]
      · have eS : nI E - nI F = nI (E - F) := by
          apply Int32.toInt_inj.mp
          rw [pk_sub_toInt (by omega) (by omega), nI_toInt (by omega)]; omega
        rw [eS, nI_clamp (by omega), f_by (by omega) _ 0 q (by omega) (by omega), hq, hge.2.2, show min C F = F by omega, Nat.sub_zero]
        rw [show E = F + (E - F) by omega, f_it_add, Nat.zero_add, show F + (E - F) - F = E - F by omega]
        have hL : ∀ j, F ≤ j → j < F + (E - F) → f_L c25 c26 nr j = (c26 i).toInt64 := by
          intro j j1 j2
          refine f_lost hn hlt (by omega) (fun m hm => ?_) (fun m hm hm2 => ?_) (nr + 1) 0 0 (by omega) (by omega) (fun z => absurd z (by omega))
          · have hle : c25 m ≤ c25 i := by
              rcases Nat.lt_or_ge m i with z | z
              · exact Int32.le_of_lt (h5 m i z hlt)
              · rw [show m = i by omega]; exact Int32.le_refl _
            rw [eF] at hle
            intro z
            have := Int32.lt_of_lt_of_le z hle
            exact nI_nlt (a := j) (b := F) j1 (by omega) this
          · obtain ⟨G, hG, eG⟩ := key m hm2
            have hle : nI E ≤ c25 m := by
              have hl : i + 1 < nr := by omega
              obtain ⟨G1, hG1, eG1⟩ := key (i + 1) hl
              have hE1 : E ≤ G1 := by
                rw [← hE]; unfold f_e; rw [if_pos hl, eG1, nI_clamp (by omega)]; omega
              have : c25 (i + 1) ≤ c25 m := by
                rcases Nat.lt_or_ge (i + 1) m with z | z
                · exact Int32.le_of_lt (h5 (i + 1) m z hm2)
                · rw [show m = i + 1 by omega]; exact Int32.le_refl _
              rw [eG1] at this
              exact Int32.le_trans (nI_le hE1 (by omega)) this
            exact Int32.lt_of_lt_of_le (nI_lt (by omega) (by omega)) hle
        rw [f_it_c (L := f_L c25 c26 nr) (M := fun _ => (c26 i).toInt64) (k := F) (n := E - F) hL]
        -- from cycle 0 or from F: the loss is the same
        have shift : ∀ (n a b : Nat) (x : Int64), f_it (fun _ => (c26 i).toInt64) n a x = f_it (fun _ => (c26 i).toInt64) n b x := by
          intro n
          induction n with
          | zero => intro a b x; rfl
          | succ n ih2 => intro a b x; rw [f_it, f_it, ih2 (a + 1) (b + 1)]
        exact shift _ _ _ _
theorem r_fadeEq {g0 g1 : Nat → Int32} {fcn u24 : Int32} {c25 c26 : Nat → Int32} (h : r_fade g0 g1 fcn u24 c25 c26) {p1 : Int32} (hp : ¬ m_in p1.toInt64 0 10000 = 0) (q : Int64) : m_leftOf g0 g1 fcn p1 7 0 q = m_fadeR c25 c26 u24 p1 (p1.toNatClampNeg + 1) 0 q := by
  obtain ⟨nr, h1, h2, h3, h4, h5⟩ := h
  have r1 : ¬ (p1.toInt < 0 ∨ 10000 < p1.toInt) := fun z => hp (n_inR.mpr z)
  obtain ⟨C, hC, rfl⟩ := nI_of (show ¬ p1 < 0 by rw [Int32.lt_iff_toInt_lt, Int32.toInt_zero]; omega)
  rw [nI_toInt hC] at r1
  rw [h2, h3, nI_clamp hC, f_R h1 hC _ 0 q (Nat.zero_le _) (by omega), Nat.sub_zero]
  refine f_leftOf h1 (by omega) h4 h5 7 0 q (Nat.zero_le _) (by omega) ?_
  refine (f_it_0 (fun j j1 j2 => ?_)).symm
  refine f_lost0 h1 (by unfold f_e at j2; split at j2 <;> omega) (fun m hm => ?_) (nr + 1) 0 0 (by omega) (by omega)
  have h0 : 0 < nr := by omega
  obtain ⟨-, -, ⟨a1, a2⟩, -⟩ := h4 0 h0
  obtain ⟨F, hF, e⟩ := nI_of a1
  rw [f_e, if_pos h0, e, nI_clamp hF] at j2
  have h6 : nI j < c25 0 := by rw [e]; exact nI_lt (by omega) hF
  rcases Nat.lt_or_ge 0 m with z | z
  · exact Int32.lt_trans h6 (h5 0 m z hm)
  · rw [show m = 0 by omega]; exact h6
