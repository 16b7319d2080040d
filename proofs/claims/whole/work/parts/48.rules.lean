-- rules(): both sides read a text alike
def x_upd (f : Nat → Nat) (k x : Nat) : Nat → Nat := fun j => if j = k then x else f j
section RRD
variable {bt c11 : Nat → Int32} {tl : Nat}
theorem t_nrbad {e : Int32} : ∀ (n : Nat) (x : Int32), m_numR c11 e n x (-10000000) = -10000000 := by
  intro n
  cases n with
  | zero => intro x; rfl
  | succ n => intro x; rw [m_numR, if_pos (Or.inr (by decide))]
theorem t_dig {c : Int32} (h : ¬ (c < 48 ∨ 57 < c)) : ∃ k, k ≤ 9 ∧ c = nI (48 + k) := by
  have h1 : ¬ c.toInt < 48 := fun q => h (Or.inl (by rw [Int32.lt_iff_toInt_lt]; exact q))
  have h2 : ¬ 57 < c.toInt := fun q => h (Or.inr (by rw [Int32.lt_iff_toInt_lt]; exact q))
  obtain ⟨j, hj, rfl⟩ := nI_of (x := c) (by rw [Int32.lt_iff_toInt_lt, Int32.toInt_zero]; omega)
  rw [nI_toInt hj] at h1 h2
  exact ⟨j - 48, by omega, by rw [show 48 + (j - 48) = j by omega]⟩
theorem t_nr (hbt : ∀ j, j < tl → bt j = c11 j) (htl : tl ≤ 600) (neg : Bool) {e : Nat} (he : e ≤ tl) : ∀ (d x val n n' : Nat), x + d = e → d ≤ 6 → d < n → d < n' → val < 10 ^ (6 - d) →
    (∃ v, v < 1000000 ∧ m_num neg bt (nI e) n (nI x) (nI val) = (if neg then -nI v else nI v) ∧ m_numR c11 (nI e) n' (nI x) (nI val) = nI v) ∨ (m_num neg bt (nI e) n (nI x) (nI val) = (-2147483648) ∧ m_numR c11 (nI e) n' (nI x) (nI val) = -10000000) := by
  intro d
  induction d with
  | zero =>
    intro x val n n' h1 h2 h3 h4 h5
    obtain ⟨n, rfl⟩ : ∃ m, n = m + 1 := ⟨n - 1, by omega⟩
    obtain ⟨n', rfl⟩ : ∃ m, n' = m + 1 := ⟨n' - 1, by omega⟩
    obtain rfl : x = e := by omega
    refine Or.inl ⟨val, h5, ?_, ?_⟩
    · rw [m_num, if_pos (Int32.le_refl _)]
    · rw [m_numR, if_pos (Or.inl (Int32.le_refl _))]
  | succ d ih =>
    intro x val n n' h1 h2 h3 h4 h5
    obtain ⟨n, rfl⟩ : ∃ m, n = m + 1 := ⟨n - 1, by omega⟩
    obtain ⟨n', rfl⟩ : ∃ m, n' = m + 1 := ⟨n' - 1, by omega⟩
    have h6 : (10 : Nat) ^ (6 - d) = 10 ^ (6 - (d + 1)) * 10 := by rw [← Nat.pow_succ]; congr 1; omega
    have h7 : (10 : Nat) ^ (6 - (d + 1)) ≤ 10 ^ 6 := Nat.pow_le_pow_right (by decide) (by omega)
    rw [m_num, m_numR, if_neg (nI_ge (show x < e by omega) (by omega)), if_neg (show ¬ (nI e ≤ nI x ∨ nI val < 0) from fun z => z.elim (nI_ge (by omega) (by omega)) (nI_pos (by omega))), x_c (by omega), hbt x (by omega)]
    by_cases q : c11 x < 48 ∨ 57 < c11 x
    · rw [if_pos (show m_in (c11 x).toInt64 48 57 = 0 by rw [n_inR]; exact q.imp (fun z => by rw [Int32.lt_iff_toInt_lt] at z; exact z) (fun z => by rw [Int32.lt_iff_toInt_lt] at z; exact z)), if_pos q, t_nrbad]
      exact Or.inr ⟨rfl, rfl⟩
    · rw [if_neg (show ¬ m_in (c11 x).toInt64 48 57 = 0 from fun z => q (by rw [n_inR] at z; exact z.imp (fun z => by rw [Int32.lt_iff_toInt_lt]; exact z) (fun z => by rw [Int32.lt_iff_toInt_lt]; exact z))), if_neg q]
      obtain ⟨k, hk, ek⟩ := t_dig q
      have e1 : nI val * 10 + (c11 x - 48) = nI (10 * val + k) := by
        rw [ek, show (48 : Int32) = nI 48 from rfl, pk_sub (by omega), show (10 : Int32) = nI 10 from rfl, pk_mul, nI_add]; congr 1; omega
      have e2 : 10 * nI val + c11 x - 48 = nI (10 * val + k) := by
        rw [ek, show (48 : Int32) = nI 48 from rfl, show (10 : Int32) = nI 10 from rfl, pk_mul, nI_add, pk_sub (by omega)]; congr 1; omega
      rw [e1, e2, nI_1]
      exact ih (x + 1) (10 * val + k) n n' (by omega) (by omega) (by omega) (by omega) (by omega)
theorem t_i16 {k : Nat} (hk : k < 1000) : m_in (nI k).toInt64 1 6 = 0 ↔ (nI k < 1 ∨ 6 < nI k) := by
  rw [n_inR]
  exact or_congr (by rw [Int32.lt_iff_toInt_lt]; exact Iff.rfl) (by rw [Int32.lt_iff_toInt_lt]; exact Iff.rfl)
theorem t_num (hbt : ∀ j, j < tl → bt j = c11 j) (htl : tl ≤ 600) {a e : Nat} (hae : a < e) (he : e ≤ tl) :
    (∃ v : Int32, m_numberIn bt (nI a) (nI e) = v ∧ m_numberAt c11 (nI a) (nI e) = v ∧ -1000000 ≤ v.toInt ∧ v.toInt ≤ 1000000) ∨ (m_numberIn bt (nI a) (nI e) = (-2147483648) ∧ m_numberAt c11 (nI a) (nI e) = -10000000) := by
  rw [m_numberIn, m_numberAt, if_neg (show ¬ (nI a < 0 ∨ nI e ≤ nI a ∨ ¬ nI e ≤ 600) from fun z => z.elim (nI_pos (by omega)) (fun z => z.elim (nI_ge hae (by omega)) (fun z => z (nI_le (b := 600) (by omega) (by decide))))), x_c (by omega), hbt a (by omega), nI_1]
  by_cases q : c11 a = 45
  · rw [if_pos q, if_pos q, pk_sub (show a + 1 ≤ e by omega)]
    by_cases q2 : nI (e - (a + 1)) < 1 ∨ 6 < nI (e - (a + 1))
    · rw [if_pos ((t_i16 (by omega)).mpr q2), if_pos q2, t_nrbad, if_pos (by decide)]
      exact Or.inr ⟨rfl, rfl⟩
    · rw [if_neg (fun z => q2 ((t_i16 (by omega)).mp z)), if_neg q2]
      have h6 : e - (a + 1) ≤ 6 := by
        rcases Nat.lt_or_ge 6 (e - (a + 1)) with z | z
        · exact absurd (Or.inr (nI_lt (a := 6) z (by omega))) q2
        · exact z
      have ef : ((nI e).toInt - (nI (a + 1)).toInt).toNat + 1 = e - (a + 1) + 1 := by rw [nI_toInt (by omega), nI_toInt (by omega)]; omega
      rw [ef]
      rcases t_nr hbt htl true he (e - (a + 1)) (a + 1) 0 (e - (a + 1) + 1) (e - (a + 1) + 1) (by omega) h6 (by omega) (by omega) (Nat.pow_pos (by decide)) with ⟨v, h1, h2, h3⟩ | ⟨h2, h3⟩
      · refine Or.inl ⟨-nI v, h2, ?_, ?_⟩
        · rw [show m_numR c11 (nI e) (e - (a + 1) + 1) (nI (a + 1)) 0 = nI v from h3, if_neg (nI_pos (by omega))]
        · rw [Int32.toInt_neg, nI_toInt (by omega), Int.bmod_eq_of_le (by omega) (by omega)]; omega
      · refine Or.inr ⟨h2, ?_⟩
        rw [show m_numR c11 (nI e) (e - (a + 1) + 1) (nI (a + 1)) 0 = -10000000 from h3, if_pos (by decide)]
  · rw [if_neg q, if_neg q, pk_sub (show a ≤ e by omega)]
    by_cases q2 : nI (e - a) < 1 ∨ 6 < nI (e - a)
    · rw [if_pos ((t_i16 (by omega)).mpr q2), if_pos q2, t_nrbad]
      exact Or.inr ⟨rfl, rfl⟩
    · rw [if_neg (fun z => q2 ((t_i16 (by omega)).mp z)), if_neg q2]
      have h6 : e - a ≤ 6 := by
        rcases Nat.lt_or_ge 6 (e - a) with z | z
        · exact absurd (Or.inr (nI_lt (a := 6) z (by omega))) q2
        · exact z
      have ef : ((nI e).toInt - (nI a).toInt).toNat + 1 = e - a + 1 := by rw [nI_toInt (by omega), nI_toInt (by omega)]; omega
      rw [ef]
      rcases t_nr hbt htl false he (e - a) a 0 (e - a + 1) (e - a + 1) (by omega) h6 (by omega) (by omega) (Nat.pow_pos (by decide)) with ⟨v, h1, h2, h3⟩ | ⟨h2, h3⟩
      · refine Or.inl ⟨nI v, h2, h3, ?_⟩
        rw [nI_toInt (by omega)]; omega
      · exact Or.inr ⟨h2, h3⟩
theorem t_cls (hbt : ∀ j, j < tl → bt j = c11 j) (htl : tl ≤ 600) {a e : Nat} (hae : a < e) (he : e ≤ tl) : m_isCW bt (nI a) (nI e) = m_mcls c11 (nI a) (nI e) ∧ (¬ m_mcls c11 (nI a) (nI e) = 0 → e = a + 5) := by
  rw [m_isCW, m_mcls, pk_sub (show a ≤ e by omega)]
  by_cases q : e = a + 5
  · subst q
    rw [show a + 5 - a = 5 by omega, if_pos (show nI 5 = 5 from rfl), if_neg (show ¬ (nI a < 0 ∨ ¬ nI (a + 5) ≤ 600) from fun z => z.elim (nI_pos (by omega)) (fun z => z (nI_le (b := 600) (by omega) (by decide))))]
    refine ⟨?_, fun _ => rfl⟩
    simp only [m_cwFrom, nI_add]
    rw [if_neg (show ¬ (5 : Int32) ≤ nI 0 by decide), if_neg (show ¬ (5 : Int32) ≤ nI (0 + 1) by decide), if_neg (show ¬ (5 : Int32) ≤ nI (0 + 1 + 1) by decide), if_neg (show ¬ (5 : Int32) ≤ nI (0 + 1 + 1 + 1) by decide), if_neg (show ¬ (5 : Int32) ≤ nI (0 + 1 + 1 + 1 + 1) by decide), if_pos (show (5 : Int32) ≤ nI (0 + 1 + 1 + 1 + 1 + 1) by decide)]
    rw [x_c (by omega), x_c (by omega), x_c (by omega), x_c (by omega), x_c (by omega), x_c (by omega), x_c (by omega), x_c (by omega), x_c (by omega), x_c (by omega)]
    rw [hbt _ (by omega), hbt _ (by omega), hbt _ (by omega), hbt _ (by omega), hbt _ (by omega)]
    rw [show nI a + 1 = nI (a + 1) from nI_add a 1, show nI a + 2 = nI (a + 2) from nI_add a 2, show nI a + 3 = nI (a + 3) from nI_add a 3, show nI a + 4 = nI (a + 4) from nI_add a 4, x_c (by omega), x_c (by omega), x_c (by omega), x_c (by omega), x_c (by omega)]
    rw [show m_ch (m_cw 0) = 99 by decide, show m_ch (m_cw (0 + 1)) = 108 by decide, show m_ch (m_cw (0 + 1 + 1)) = 97 by decide, show m_ch (m_cw (0 + 1 + 1 + 1)) = 115 by decide, show m_ch (m_cw (0 + 1 + 1 + 1 + 1)) = 115 by decide]
    simp only [Nat.add_zero, Nat.zero_add, Nat.add_assoc, Nat.reduceAdd]
    by_cases h0 : c11 a = 99 <;> by_cases h1 : c11 (a + 1) = 108 <;> by_cases h2 : c11 (a + 2) = 97 <;> by_cases h3 : c11 (a + 3) = 115 <;> by_cases h4 : c11 (a + 4) = 115 <;> simp [h0, h1, h2, h3, h4, show nI 5 = 5 from rfl]
  · have hne : ¬ nI (e - a) = 5 := fun z => q (by have := (nI_eq (b := 5) (by omega) (by decide)).mp z; omega)
    rw [if_neg hne, if_neg (fun z => hne z.1)]
    exact ⟨rfl, fun z => absurd rfl z⟩
theorem t_let (hbt : ∀ j, j < tl → bt j = c11 j) (htl : tl ≤ 600) {a e : Nat} (hae : a < e) (he : e ≤ tl) (due ltr : Int32) :
    (m_mlet c11 (nI a) (nI e) = 0 ∧ m_tl bt due ltr (nI a) (nI e) = (0, due, ltr)) ∨ (m_mlet c11 (nI a) (nI e) = 1 ∧ m_tl bt due ltr (nI a) (nI e) = (1, 3, c11 a) ∧ (c11 a = 113 ∨ c11 a = 118 ∨ c11 a = 114)) := by
  rw [m_mlet, m_tl, pk_sub (show a ≤ e by omega), x_c (by omega), hbt a (by omega)]
  by_cases q : nI (e - a) = 1
  · rw [if_pos q, if_neg (show ¬ (nI a < 0 ∨ ¬ nI a < 600) from fun z => z.elim (nI_pos (by omega)) (fun z => z (nI_lt (b := 600) (by omega) (by decide))))]
    by_cases q2 : c11 a = 113 ∨ c11 a = 118 ∨ c11 a = 114
    · rw [if_pos ⟨q, q2⟩, if_pos q2]; exact Or.inr ⟨rfl, rfl, q2⟩
    · rw [if_neg (fun z => q2 z.2), if_neg q2]; exact Or.inl ⟨rfl, rfl⟩
  · rw [if_neg q, if_neg (fun z => q z.1)]; exact Or.inl ⟨rfl, rfl⟩
/-- both readers stand alike: the word due, the sentences, the clauses -/
def t_I (a : Nat) (r : RdT) (q : Int32 × Int32 × Int32 × (Nat → Int32) × (Nat → Int32) × (Nat → Int32)) : Prop :=
  ∃ (st ns nl : Nat) (E : Nat → Nat), st ≤ 4 ∧ r.1 = nI st ∧ q.1 = nI st ∧ ns ≤ 20 ∧ r.2.2.2.2.2.2.2.2.1 = nI ns ∧ q.2.1 = nI ns ∧ r.2.2.2.2.2.2.2.2.2 = nI nl ∧ q.2.2.1 = nI nl ∧ E 0 = 0 ∧ E ns = nl ∧ (∀ i, i < ns → E i ≤ E (i + 1)) ∧
  (∀ i, i < ns → q.2.2.2.2.1 i = nI (E i) ∧ r.2.2.2.2.1 i = nI (E (i + 1)) ∧ r.2.2.2.1 i = q.2.2.2.1 i ∧ ¬ q.2.2.2.1 i < 0 ∧ q.2.2.2.1 i ≤ 98) ∧
  (∀ j, j < nl → r.2.2.2.2.2.1 j = q.2.2.2.2.2 (3 * j) ∧ r.2.2.2.2.2.2.1 j = q.2.2.2.2.2 (3 * j + 1) ∧ r.2.2.2.2.2.2.2.1 j = q.2.2.2.2.2 (3 * j + 2)) ∧
  6 * nl + (if st = 0 then 0 else 2 * st + 4) ≤ a ∧ (st = 1 → ns < 20) ∧ (2 ≤ st → 1 ≤ ns) ∧ (3 ≤ st → r.2.1 = q.2.2.2.2.2 (3 * nl) ∧ (r.2.1 = 113 ∨ r.2.1 = 118 ∨ r.2.1 = 114)) ∧ (st = 4 → r.2.2.1 = q.2.2.2.2.2 (3 * nl + 1) ∧ -1000000 ≤ r.2.2.1.toInt)
theorem t_up {a b : Nat} {r : RdT} {q : Int32 × Int32 × Int32 × (Nat → Int32) × (Nat → Int32) × (Nat → Int32)} (h : t_I a r q) (hab : a ≤ b) : t_I b r q := by
  obtain ⟨st, ns, nl, E, h1, h2, h3, h4, h5, h6, h7, h8, h9, h10, h11, h12, h13, h14, h15⟩ := h
  exact ⟨st, ns, nl, E, h1, h2, h3, h4, h5, h6, h7, h8, h9, h10, h11, h12, h13, Nat.le_trans h14 hab, h15⟩
theorem t_st {m k : Nat} (hm : m ≤ 4) (hk : k ≤ 4) (h : m ≠ k) : ¬ nI m = nI k := fun z => h ((nI_eq (by omega) (by omega)).mp z)
theorem t_nar {x : Int32} (h : x = 113 ∨ x = 118 ∨ x = 114) : vp_nar .char x = x := by
  rcases h with h | h | h <;> subst h <;> decide
theorem t_word (hbt : ∀ j, j < tl → bt j = c11 j) (htl : tl ≤ 600) {a e : Nat} (hae : a < e) (he : e ≤ tl) {due ltr low : Int32} {g0 g1 g2 g3 g4 : Nat → Int32} {sn cl sx xs xc : Int32} {d18 d19 d20 : Nat → Int32}
    (hI : t_I a (due, ltr, low, g0, g1, g2, g3, g4, sn, cl) (sx, xs, xc, d18, d19, d20)) :
    ((m_tw bt due ltr low g0 g1 g2 g3 g4 sn cl (nI a) (nI e)).1 = 0 ∧ m_good sx (m_numberAt c11 (nI a) (nI e)) xs xc d20 (m_mcls c11 (nI a) (nI e)) (m_mlet c11 (nI a) (nI e)) = 0) ∨
    (¬ (m_tw bt due ltr low g0 g1 g2 g3 g4 sn cl (nI a) (nI e)).1 = 0 ∧ ¬ m_good sx (m_numberAt c11 (nI a) (nI e)) xs xc d20 (m_mcls c11 (nI a) (nI e)) (m_mlet c11 (nI a) (nI e)) = 0 ∧
      t_I (e + 1) (m_tw bt due ltr low g0 g1 g2 g3 g4 sn cl (nI a) (nI e)).2 (m_take c11 d18 d19 d20 xs xc (nI a) (nI e) sx (m_numberAt c11 (nI a) (nI e)))) := by
  obtain ⟨st, ns, nl, E, h1, h2, h3, h4, h5, h6, h7, h8, h9, h10, h11, h12, h13, h14, h15, h16, h17, h18⟩ := hI
  dsimp only at h2 h3 h5 h6 h7 h8 h12 h13 h17 h18
  obtain ⟨k1, k2⟩ := t_cls hbt htl hae he
  have hfull : m_isFull sn = 0 ↔ xs < 20 := by
    rw [m_isFull, h5, h6]
    by_cases z : nI ns < 20
    · rw [if_pos z]; exact ⟨fun _ => z, fun _ => rfl⟩
    · rw [if_neg z]; exact ⟨fun y => absurd y (by decide), fun y => absurd y z⟩
  -- the word of a sentence
  have hcw : ∀ d : Int32, ((m_tcw bt d sn (nI a) (nI e)) = (0, d) ∧ ¬ (¬ m_mcls c11 (nI a) (nI e) = 0 ∧ xs < 20)) ∨ ((m_tcw bt d sn (nI a) (nI e)) = (1, 1) ∧ ¬ m_mcls c11 (nI a) (nI e) = 0 ∧ xs < 20) := by
    intro d
    rw [m_tcw, k1]
    by_cases z : ¬ m_isFull sn = 0 ∨ m_mcls c11 (nI a) (nI e) = 0
    · rw [if_pos z]; exact Or.inl ⟨rfl, fun y => z.elim (fun z => z (hfull.mpr y.2)) y.1⟩
    · rw [if_neg z]
      refine Or.inr ⟨rfl, fun y => z (Or.inr y), ?_⟩
      by_cases y : m_isFull sn = 0
      · exact hfull.mp y
      · exact absurd (Or.inl y) z
  have h20 : xs < 20 → ns < 20 := fun z => by rw [h6] at z; exact (nI_ltI (b := 20) (by omega) (by decide)).mp z
  by_cases s1 : st = 1
  · subst s1
    have n0 : ¬ nI 1 = 0 := by decide
    rw [m_tw, m_good, m_take, h2, h3, if_neg n0, if_pos (show nI 1 = 1 from rfl), if_pos (show nI 1 = 1 from rfl), if_pos (show nI 1 = 1 from rfl)]
    have hns := h15 rfl
    have hadd : ∀ v : Int32, m_addSent g0 g1 sn cl v = (1, upd g0 ns v, upd g1 ns (nI nl), nI (ns + 1)) := fun v => by
      rw [m_addSent, h5, h7, if_neg (show ¬ (nI ns < 0 ∨ ¬ nI ns < 20) from fun z => z.elim (nI_pos (by omega)) (fun z => z (nI_lt (b := 20) hns (by decide)))), x_c (by omega), nI_1]
    rcases t_num hbt htl hae he with ⟨v, e1, e2, e3, e4⟩ | ⟨e1, e2⟩
    · rw [e1, e2]
      by_cases z : m_in v.toInt64 0 98 = 0
      · refine Or.inl ⟨?_, z⟩
        rw [m_tcn, if_pos z]
      · refine Or.inr ⟨?_, z, ?_⟩
        · rw [m_tcn, if_neg z, hadd]; dsimp only; rw [if_neg (by decide)]; decide
        · have r1 : ¬ (v.toInt < 0 ∨ 98 < v.toInt) := fun y => z (n_inR.mpr y)
          rw [m_tcn, if_neg z, hadd]
          dsimp only
          rw [if_neg (show ¬ (1 : Int32) = 0 by decide), h6, h8, x_c (by omega), nI_1]
          refine ⟨2, ns + 1, nl, x_upd E (ns + 1) nl, by omega, rfl, rfl, by omega, rfl, rfl, h7, rfl, ?_, if_pos rfl, ?_, ?_, h13, ?_, fun y => absurd y (by decide), fun _ => by omega, fun y => absurd y (by decide), fun y => absurd y (by decide)⟩
          · rw [x_upd, if_neg (by omega)]; exact h9
          · intro i hi
            by_cases y : i = ns
            · subst y; rw [x_upd, x_upd, if_pos rfl, if_neg (by omega), h10]; exact Nat.le_refl _
            · rw [x_upd, x_upd, if_neg (by omega), if_neg (by omega)]; exact h11 i (by omega)
          · intro i hi
            dsimp only
            by_cases y : i = ns
            · subst y; rw [pk_us, pk_us, pk_us, pk_us, x_upd, x_upd, if_pos rfl, if_neg (by omega), h10]
              refine ⟨rfl, rfl, rfl, ?_, ?_⟩
              · rw [Int32.lt_iff_toInt_lt, Int32.toInt_zero]; omega
              · rw [Int32.le_iff_toInt_le, show (98 : Int32).toInt = 98 from rfl]; omega
            · rw [pk_un y, pk_un y, pk_un y, pk_un y, x_upd, x_upd, if_neg (by omega), if_neg (by omega)]
              exact h12 i (by omega)
          · rw [if_neg (by decide)] at h14 ⊢; omega
    · rw [e1, e2]
      refine Or.inl ⟨?_, by decide⟩
      rw [m_tcn, if_pos (by decide)]
  · by_cases s3 : st = 3
    · subst s3
      simp only [m_tw, m_good, m_take, h2, h3, eq_false (show ¬ nI 3 = 0 by decide), eq_false (show ¬ nI 3 = 1 by decide), eq_false (show ¬ nI 3 = 2 by decide), eq_true (show nI 3 = 3 from rfl), reduceIte]
      rcases t_num hbt htl hae he with ⟨v, e1, e2, e3, e4⟩ | ⟨e1, e2⟩
      · rw [e1, e2, if_neg (show ¬ v ≤ -10000000 by rw [Int32.le_iff_toInt_le, show (-10000000 : Int32).toInt = -10000000 from rfl]; omega), m_tlow, if_neg (show ¬ v = -2147483648 from fun y => by rw [y, show (-2147483648 : Int32).toInt = -2147483648 from rfl] at e3; omega)]
        refine Or.inr ⟨show ¬ (1 : Int32) = 0 by decide, by decide, ?_⟩
        rw [h8, x_3z, nI_1, x_c (by omega)]
        refine ⟨4, ns, nl, E, by omega, rfl, rfl, h4, h5, h6, h7, rfl, h9, h10, h11, h12, ?_, ?_, fun y => absurd y (by decide), fun _ => h16 (by omega), fun _ => ?_, fun _ => ?_⟩
        · intro j hj
          dsimp only
          rw [pk_un (by omega), pk_un (by omega), pk_un (by omega)]; exact h13 j hj
        · rw [if_neg (by decide)] at h14 ⊢; omega
        · dsimp only
          rw [pk_un (by omega)]; exact h17 (by omega)
        · dsimp only
          rw [pk_us]; exact ⟨rfl, e3⟩
      · rw [e1, e2]
        exact Or.inl ⟨by rw [m_tlow, if_pos rfl], by decide⟩
    · by_cases s4 : st = 4
      · subst s4
        simp only [m_tw, m_good, m_take, h2, h3, eq_false (show ¬ nI 4 = 0 by decide), eq_false (show ¬ nI 4 = 1 by decide), eq_false (show ¬ nI 4 = 2 by decide), eq_false (show ¬ nI 4 = 3 by decide), eq_true (show nI 4 = 4 from rfl), reduceIte]
        obtain ⟨l1, l2⟩ := h17 (by omega)
        obtain ⟨l3, l4⟩ := h18 rfl
        rw [if_neg (by decide)] at h14
        have hn1 := h16 (by omega)
        have hadd : ∀ v : Int32, m_addClause g1 g2 g3 g4 sn cl ltr low v = (1, upd g1 (ns - 1) (nI (nl + 1)), upd g2 nl ltr, upd g3 nl low, upd g4 nl v, nI (nl + 1)) := fun v => by
          rw [m_addClause, h5, h7, if_neg (show ¬ (nI ns < 1 ∨ 20 < nI ns ∨ nI nl < 0 ∨ ¬ nI nl < 100) from fun z => z.elim (nI_nlt (b := 1) hn1 (by omega)) (fun z => z.elim (nI_nlt (a := 20) h4 (by decide)) (fun z => z.elim (nI_pos (by omega)) (fun z => z (nI_lt (b := 100) (by omega) (by decide)))))), x_p hn1, x_c (by omega), x_c (by omega), nI_1, t_nar l2]
        rw [h8, show 3 * nI nl + 1 = nI (3 * nl + 1) by rw [x_3z, nI_1], show 3 * nI nl + 2 = nI (3 * nl + 2) from x_3 nl 2, x_c (by omega), x_c (by omega), ← l3, nI_1]
        rcases t_num hbt htl hae he with ⟨v, e1, e2, e3, e4⟩ | ⟨e1, e2⟩
        · rw [e1, e2, if_neg (show ¬ v ≤ -10000000 by rw [Int32.le_iff_toInt_le, show (-10000000 : Int32).toInt = -10000000 from rfl]; omega)]
          by_cases z : v < low
          · rw [if_pos z]
            refine Or.inl ⟨?_, rfl⟩
            rw [m_th, if_pos z]
          · rw [if_neg z, m_th, if_neg z, hadd]
            dsimp only
            rw [if_neg (show ¬ (1 : Int32) = 0 by decide), if_neg (show ¬ (1 : Int32) = 0 by decide)]
            refine Or.inr ⟨by decide, by decide, ?_⟩
            refine ⟨2, ns, nl + 1, x_upd E ns (nl + 1), by omega, rfl, rfl, h4, h5, h6, rfl, rfl, ?_, if_pos rfl, ?_, ?_, ?_, ?_, fun y => absurd y (by decide), fun _ => hn1, fun y => absurd y (by decide), fun y => absurd y (by decide)⟩
            · rw [x_upd, if_neg (by omega)]; exact h9
            · intro i hi
              rw [x_upd, x_upd, if_neg (by omega)]
              have := h11 i hi
              by_cases y : i + 1 = ns
              · rw [if_pos y]; rw [y, h10] at this; omega
              · rw [if_neg y]; exact this
            · intro i hi
              dsimp only
              obtain ⟨m1, m2, m3⟩ := h12 i hi
              rw [x_upd, x_upd, if_neg (by omega)]
              refine ⟨m1, ?_, m3⟩
              by_cases y : i + 1 = ns
              · rw [if_pos y, show i = ns - 1 by omega, pk_us]
              · rw [if_neg y, pk_un (by omega)]; exact m2
            · intro j hj
              dsimp only
              by_cases y : j = nl
              · subst y; rw [pk_us, pk_us, pk_us, pk_us, pk_un (by omega), pk_un (by omega)]; exact ⟨l1, l3, rfl⟩
              · rw [pk_un y, pk_un y, pk_un y, pk_un (by omega), pk_un (by omega), pk_un (by omega)]; exact h13 j (by omega)
            · rw [if_neg (by decide)]; omega
        · rw [e1, e2, if_pos (show (-10000000 : Int32) ≤ -10000000 by decide)]
          refine Or.inl ⟨?_, rfl⟩
          rw [m_th, if_pos]
          rw [Int32.lt_iff_toInt_lt, show (-2147483648 : Int32).toInt = -2147483648 from rfl]; omega
      · -- a sentence's word or a letter
        have z1 : ¬ nI st = 1 := t_st (k := 1) h1 (by decide) s1
        have z3 : ¬ nI st = 3 := t_st (k := 3) h1 (by decide) s3
        have z4 : ¬ nI st = 4 := t_st (k := 4) h1 (by decide) s4
        have goC : ¬ m_mcls c11 (nI a) (nI e) = 0 → xs < 20 → t_I (e + 1) (1, ltr, low, g0, g1, g2, g3, g4, sn, cl) (1, xs, xc, d18, d19, d20) := fun y1 y2 => by
          have y3 := k2 y1
          refine ⟨1, ns, nl, E, by omega, rfl, rfl, h4, h5, h6, h7, h8, h9, h10, h11, h12, h13, ?_, fun _ => h20 y2, fun y => absurd y (by decide), fun y => absurd y (by decide), fun y => absurd y (by decide)⟩
          rw [if_neg (by decide)]
          by_cases y : st = 0
          · rw [if_pos y] at h14; omega
          · rw [if_neg y] at h14; omega
        simp only [m_tw, m_good, m_take, h2, h3, eq_false z1, eq_false z3, eq_false z4, if_false]
        by_cases s0 : st = 0
        · subst s0
          rw [if_pos (show nI 0 = 0 from rfl)]
          rcases hcw (nI 0) with ⟨y1, y2⟩ | ⟨y1, y2, y3⟩
          · rw [y1, if_neg (show ¬ ((¬ m_mcls c11 (nI a) (nI e) = 0 ∧ xs < 20) ∨ (nI 0 = 2 ∧ ¬ m_mlet c11 (nI a) (nI e) = 0)) from fun y => y.elim y2 (fun y => absurd y.1 (by decide)))]
            exact Or.inl ⟨rfl, rfl⟩
          · rw [y1, if_pos (show (¬ m_mcls c11 (nI a) (nI e) = 0 ∧ xs < 20) ∨ (nI 0 = 2 ∧ ¬ m_mlet c11 (nI a) (nI e) = 0) from Or.inl ⟨y2, y3⟩), if_neg y2]
            exact Or.inr ⟨show ¬ (1 : Int32) = 0 by decide, by decide, goC y2 y3⟩
        · have s2 : st = 2 := by omega
          subst s2
          simp only [eq_false (show ¬ nI 2 = 0 by decide), eq_true (show nI 2 = 2 from rfl), if_false, if_true, true_and]
          rw [if_neg (by decide)] at h14
          rcases t_let hbt htl hae he (nI 2) ltr with ⟨y1, y2⟩ | ⟨y1, y2, y3⟩
          · rw [y2]
            dsimp only
            rw [if_pos (show (0 : Int32) = 0 from rfl)]
            rcases hcw (nI 2) with ⟨w1, w2⟩ | ⟨w1, w2, w3⟩
            · rw [w1, if_neg (show ¬ ((¬ m_mcls c11 (nI a) (nI e) = 0 ∧ xs < 20) ∨ (¬ m_mlet c11 (nI a) (nI e) = 0)) from fun y => y.elim w2 (fun y => absurd y1 y))]
              exact Or.inl ⟨rfl, rfl⟩
            · rw [w1, if_pos (show (¬ m_mcls c11 (nI a) (nI e) = 0 ∧ xs < 20) ∨ (¬ m_mlet c11 (nI a) (nI e) = 0) from Or.inl ⟨w2, w3⟩), if_neg w2]
              exact Or.inr ⟨show ¬ (1 : Int32) = 0 by decide, by decide, goC w2 w3⟩
          · have y4 : m_mcls c11 (nI a) (nI e) = 0 := md_excl (by rw [y1]; decide)
            rw [y2, if_pos (show (¬ m_mcls c11 (nI a) (nI e) = 0 ∧ xs < 20) ∨ (¬ m_mlet c11 (nI a) (nI e) = 0) from Or.inr (by rw [y1]; decide)), if_pos y4]
            dsimp only
            rw [if_neg (show ¬ (1 : Int32) = 0 by decide)]
            refine Or.inr ⟨show ¬ (1 : Int32) = 0 by decide, by decide, ?_⟩
            rw [h8, x_3z, x_c (by omega), x_c (by omega)]
            refine ⟨3, ns, nl, E, by omega, rfl, rfl, h4, h5, h6, h7, rfl, h9, h10, h11, h12, ?_, ?_, fun y => absurd y (by decide), fun _ => h16 (by omega), fun _ => ?_, fun y => absurd y (by decide)⟩
            · intro j hj
              dsimp only
              rw [pk_un (by omega), pk_un (by omega), pk_un (by omega)]; exact h13 j hj
            · rw [if_neg (by decide)]; omega
            · dsimp only
              rw [pk_us]; exact ⟨rfl, y3⟩
theorem t_we (hbt : ∀ j, j < tl → bt j = c11 j) (htl : tl ≤ 600) : ∀ (n n' a : Nat), a ≤ tl → tl - a < n → tl - a < n' →
    ∃ e, a ≤ e ∧ e ≤ tl ∧ m_wordEnd bt (nI tl) n (nI a) = nI e ∧ m_wend c11 (nI tl) n' (nI a) = nI e ∧ (e < tl → ¬ m_blank (c11 e) = 0) := by
  intro n
  induction n with
  | zero => intro n' a h1 h2; omega
  | succ n ih =>
    intro n' a h1 h2 h3
    obtain ⟨n', rfl⟩ : ∃ m, n' = m + 1 := ⟨n' - 1, by omega⟩
    rw [m_wordEnd, m_wend]
    by_cases q : nI tl ≤ nI a
    · have := (nI_leI (by omega) (by omega)).mp q
      rw [if_pos (Or.inl q), if_pos q]
      exact ⟨a, Nat.le_refl _, h1, rfl, rfl, fun z => by omega⟩
    · have hlt := ix_nge q (by omega) (by omega)
      rw [if_neg (show ¬ (nI tl ≤ nI a ∨ 600 ≤ nI a) from fun z => z.elim q (nI_ge (b := 600) (by omega) (by decide))), if_neg q, x_c (by omega), hbt a hlt]
      by_cases z : m_blank (c11 a) = 0
      · rw [if_pos z, if_pos z, nI_1]
        obtain ⟨e, h4, h5⟩ := ih n' (a + 1) (by omega) (by omega) (by omega)
        exact ⟨e, by omega, h5⟩
      · rw [if_neg z, if_neg z]
        exact ⟨a, Nat.le_refl _, h1, rfl, rfl, fun _ => z⟩
def t_sk (c11 : Nat → Int32) (tl b : Nat) : Int32 := m_skip c11 (nI tl) (tl - b + 1) (nI b)
theorem t_sk_e (htl : tl ≤ 600) : t_sk c11 tl tl = nI tl := by
  rw [t_sk, m_skip, if_pos (Int32.le_refl _)]
theorem t_sk_b (htl : tl ≤ 600) {b : Nat} (h : b < tl) (hb : ¬ m_blank (c11 b) = 0) : t_sk c11 tl b = t_sk c11 tl (b + 1) := by
  rw [t_sk, t_sk, m_skip, if_neg (nI_ge h (by omega)), x_c (by omega), if_neg hb, nI_1, show tl - b = tl - (b + 1) + 1 by omega]
theorem t_sk_w (htl : tl ≤ 600) {b : Nat} (h : b < tl) (hb : m_blank (c11 b) = 0) : t_sk c11 tl b = nI b := by
  rw [t_sk, m_skip, if_neg (nI_ge h (by omega)), x_c (by omega), if_pos hb]
theorem t_sk_le (htl : tl ≤ 600) {b a : Nat} (ha : a ≤ tl) (hb : b ≤ tl) (h : t_sk c11 tl b = nI a) : b ≤ a := by
  have := (m_skip_p c11 (nI tl) (tl - b + 1) (nI b)).1
  rw [← t_sk, h, nI_toInt (by omega), nI_toInt (by omega)] at this
  omega
theorem t_next (htl : tl ≤ 600) {b : Nat} (hb : b ≤ tl) : m_next c11 (nI tl) (nI b) = (if nI tl ≤ t_sk c11 tl b then 0 else 1, t_sk c11 tl b, m_wend c11 (nI tl) (((nI tl).toInt - (t_sk c11 tl b).toInt).toNat + 1) (t_sk c11 tl b)) := by
  have ef : ((nI tl).toInt - (nI b).toInt).toNat + 1 = tl - b + 1 := by rw [nI_toInt (by omega), nI_toInt (by omega)]; omega
  rw [m_next, ef]
  rfl
theorem t_wg {u12 wd sx wg xf xe xs xc : Int32} {d18 d19 d20 : Nat → Int32} (h : 0 ≤ wg) : ∀ n, m_rloop c11 u12 n wd sx wg xf xe xs xc d18 d19 d20 = (wd, sx, wg, xf, xe, xs, xc, d18, d19, d20) := by
  intro n
  cases n with
  | zero => rfl
  | succ n => rw [m_rloop, if_pos h]
def t_O (r : Int32 × RdT) (q : RlT) : Prop :=
  (r.1 < 0 ∧ 0 ≤ q.2.2.1 ∧ r.1 = (-1) - q.2.2.1) ∨ (r.1 < 0 ∧ ¬ 0 ≤ q.2.2.1 ∧ ¬ (q.2.1 = 0 ∨ q.2.1 = 2) ∧ r.1 = (-1) - q.1) ∨
  (¬ 0 ≤ q.2.2.1 ∧ (q.2.1 = 0 ∨ q.2.1 = 2) ∧ r.1 = q.2.2.2.2.2.1 ∧ ¬ r.1 < 0 ∧ t_I 601 r.2 (q.2.1, q.2.2.2.2.2.1, q.2.2.2.2.2.2.1, q.2.2.2.2.2.2.2.1, q.2.2.2.2.2.2.2.2.1, q.2.2.2.2.2.2.2.2.2))
theorem t_neg {w : Nat} (h : w < 1000) : (-1) - nI w < 0 := by
  rw [Int32.lt_iff_toInt_lt, Int32.toInt_sub, nI_toInt (by omega), show (-1 : Int32).toInt = -1 from rfl, Int32.toInt_zero, Int.bmod_eq_of_le (by omega) (by omega)]; omega
theorem t_loop (hbt : ∀ j, j < tl → bt j = c11 j) (htl : tl ≤ 600) : ∀ (n a b w n2 : Nat) (due ltr low : Int32) (g0 g1 g2 g3 g4 : Nat → Int32) (sn cl sx wg xf xs xc : Int32) (d18 d19 d20 : Nat → Int32),
    a ≤ tl + 1 → b ≤ tl → tl - a < n → tl - b < n2 → w ≤ a → ¬ 0 ≤ wg → t_sk c11 tl b = t_sk c11 tl (min a tl) → t_I a (due, ltr, low, g0, g1, g2, g3, g4, sn, cl) (sx, xs, xc, d18, d19, d20) →
    t_O (m_read bt (nI tl) n (nI a) (nI w) due ltr low g0 g1 g2 g3 g4 sn cl) (m_rloop c11 (nI tl) n2 (nI w) sx wg xf (nI b) xs xc d18 d19 d20) := by
  intro n
  induction n with
  | zero => intro a b w n2 due ltr low g0 g1 g2 g3 g4 sn cl sx wg xf xs xc d18 d19 d20 h1 h2 h3; omega
  | succ n ih =>
    intro a b w n2 due ltr low g0 g1 g2 g3 g4 sn cl sx wg xf xs xc d18 d19 d20 h1 h2 h3 h4 h5 h6 h7 hI
    rw [m_read]
    by_cases q : tl ≤ a
    · rw [if_pos (show nI tl ≤ nI a ∨ 600 ≤ nI a from Or.inl (nI_le q (by omega)))]
      obtain ⟨n2, rfl⟩ : ∃ m, n2 = m + 1 := ⟨n2 - 1, by omega⟩
      rw [Nat.min_eq_right q, t_sk_e htl] at h7
      rw [m_rloop, if_neg h6, t_next htl h2, h7]
      dsimp only
      rw [if_pos (show (if nI tl ≤ nI tl then (0 : Int32) else 1) = 0 from if_pos (Int32.le_refl _))]
      have hI' := t_up hI (show a ≤ 601 by omega)
      obtain ⟨st, ns, nl, E, -, k2, k3, k4, k5, k6, -⟩ := hI
      dsimp only at k2 k3 k5 k6
      by_cases z : sx = 0 ∨ sx = 2
      · refine Or.inr (Or.inr ⟨h6, z, ?_, ?_, hI'⟩)
        · dsimp only; rw [if_pos (by rw [k2, ← k3]; exact z), k5, k6]
        · dsimp only; rw [if_pos (by rw [k2, ← k3]; exact z), k5]; exact nI_pos (by omega)
      · refine Or.inr (Or.inl ⟨?_, h6, z, ?_⟩)
        · dsimp only; rw [if_neg (by rw [k2, ← k3]; exact z)]; exact t_neg (by omega)
        · dsimp only; rw [if_neg (by rw [k2, ← k3]; exact z)]
    · rw [if_neg (show ¬ (nI tl ≤ nI a ∨ 600 ≤ nI a) from fun z => z.elim (nI_ge (by omega) (by omega)) (nI_ge (b := 600) (by omega) (by decide))), x_c (by omega), hbt a (by omega)]
      rw [Nat.min_eq_left (show a ≤ tl by omega)] at h7
      by_cases z : m_blank (c11 a) = 0
      · rw [if_pos z]
        have ef : (600 - (nI a).toInt).toNat + 1 = 600 - a + 1 := by rw [nI_toInt (by omega)]; omega
        obtain ⟨e, e1, e2, e3, e4, e5⟩ := t_we hbt htl (600 - a + 1) (tl - a + 1) a (by omega) (by omega) (by omega)
        have hae : a < e := by
          rcases Nat.lt_or_ge a e with y | y
          · exact y
          · obtain rfl : a = e := by omega
            exact absurd z (e5 (by omega))
        rw [t_sk_w htl (by omega) z] at h7
        have hba := t_sk_le htl (show a ≤ tl by omega) h2 h7
        rw [ef, e3]
        obtain ⟨n2, rfl⟩ : ∃ m, n2 = m + 1 := ⟨n2 - 1, by omega⟩
        rw [m_rloop, if_neg h6, t_next htl h2, h7, show ((nI tl).toInt - (nI a).toInt).toNat + 1 = tl - a + 1 by rw [nI_toInt (by omega), nI_toInt (by omega)]; omega, e4]
        dsimp only
        rw [if_neg (show ¬ (if nI tl ≤ nI a then (0 : Int32) else 1) = 0 by rw [if_neg (nI_ge (by omega) (by omega))]; decide)]
        rcases t_word hbt htl hae e2 hI with ⟨w1, w2⟩ | ⟨w1, w2, w3⟩
        · rw [if_pos w1, if_pos w2, t_wg (nI_pos' (by omega))]
          exact Or.inl ⟨t_neg (by omega), nI_pos' (by omega), rfl⟩
        · rw [if_neg w1, if_neg w2, nI_1, nI_1]
          refine ih (e + 1) e (w + 1) n2 _ _ _ _ _ _ _ _ _ _ _ wg _ _ _ _ _ _ (by omega) e2 (by omega) (by omega) (by omega) h6 ?_ w3
          by_cases y : e < tl
          · rw [t_sk_b htl y (e5 y), Nat.min_eq_left (by omega)]
          · obtain rfl : e = tl := by omega
            rw [Nat.min_eq_right (by omega)]
      · rw [if_neg z, nI_1]
        refine ih (a + 1) b w n2 _ _ _ _ _ _ _ _ _ _ _ wg _ _ _ _ _ _ (by omega) h2 (by omega) h4 (by omega) h6 ?_ (t_up hI (by omega))
        rw [h7, t_sk_b htl (by omega) z, Nat.min_eq_left (by omega)]
/-- a word's end, where it is known -/
theorem t_we2 (htl : tl ≤ 600) : ∀ (n a e : Nat), a ≤ e → e ≤ tl → e - a < n → (∀ j, a ≤ j → j < e → m_blank (bt j) = 0) → (e < tl → ¬ m_blank (bt e) = 0) → m_wordEnd bt (nI tl) n (nI a) = nI e := by
  intro n
  induction n with
  | zero => intro a e h1 h2 h3; omega
  | succ n ih =>
    intro a e h1 h2 h3 h4 h5
    rw [m_wordEnd]
    by_cases y : a < tl
    · rw [if_neg (show ¬ (nI tl ≤ nI a ∨ 600 ≤ nI a) from fun z => z.elim (nI_ge y (by omega)) (nI_ge (b := 600) (by omega) (by decide))), x_c (by omega)]
      by_cases q : a = e
      · subst q
        rw [if_neg (h5 y)]
      · rw [if_pos (h4 a (Nat.le_refl _) (by omega)), nI_1]
        exact ih (a + 1) e (by omega) h2 (by omega) (fun j z1 z2 => h4 j (by omega) z2) h5
    · obtain rfl : a = e := by omega
      rw [if_pos (Or.inl (nI_le (by omega) (by omega)))]
/-- the code's loop, place by place, reads what a loop word by word reads -/
theorem t_rdw (htl : tl ≤ 600) : ∀ (n n' i a w : Nat) (due ltr low : Int32) (g0 g1 g2 g3 g4 : Nat → Int32) (sn cl : Int32), a ≤ i → i ≤ tl + 1 → (i = tl + 1 → a = i) → tl + 1 - i < n → tl - a < n' → (∀ j, a ≤ j → j < i → m_blank (bt j) = 0) →
    m_rd bt (nI tl) n (nI i) (nI a) (nI w) due ltr low g0 g1 g2 g3 g4 sn cl = m_read bt (nI tl) n' (nI a) (nI w) due ltr low g0 g1 g2 g3 g4 sn cl := by
  intro n
  induction n with
  | zero => intro n' i a w due ltr low g0 g1 g2 g3 g4 sn cl h1 h2 h3 h4; omega
  | succ n ih =>
    intro n' i a w due ltr low g0 g1 g2 g3 g4 sn cl h1 h2 h3 h4 h5 h6
    obtain ⟨n', rfl⟩ : ∃ m, n' = m + 1 := ⟨n' - 1, by omega⟩
    rw [m_rd]
    by_cases q : i = tl + 1
    · obtain rfl := h3 q
      rw [if_pos (nI_lt (show tl < a by omega) (by omega)), m_read, if_pos (Or.inl (nI_le (by omega) (by omega)))]
    · rw [if_neg (show ¬ nI tl < nI i from fun z => absurd ((nI_ltI (by omega) (by omega)).mp z) (by omega))]
      by_cases y : nI tl ≤ nI i ∨ 600 ≤ nI i ∨ ¬ m_blank (bt (nI i).toNatClampNeg) = 0
      · rw [if_pos y]
        have y2 : i < tl → ¬ m_blank (bt i) = 0 := fun z => by
          rcases y with y | y | y
          · exact absurd y (nI_ge z (by omega))
          · exact absurd y (nI_ge (b := 600) (by omega) (by decide))
          · rw [x_c (by omega)] at y; exact y
        by_cases z : a = i
        · subst z
          rw [if_pos (Int32.le_refl _), nI_1, m_read]
          by_cases u : a = tl
          · rw [if_pos (show nI tl ≤ nI a ∨ 600 ≤ nI a from Or.inl (nI_le (by omega) (by omega))), ih (n' + 1) (a + 1) (a + 1) w due ltr low g0 g1 g2 g3 g4 sn cl (Nat.le_refl _) (by omega) (fun _ => rfl) (by omega) (by omega) (fun j z1 z2 => by omega), m_read, if_pos (show nI tl ≤ nI (a + 1) ∨ 600 ≤ nI (a + 1) from Or.inl (nI_le (by omega) (by omega)))]
          · rw [if_neg (show ¬ (nI tl ≤ nI a ∨ 600 ≤ nI a) from fun z => z.elim (nI_ge (by omega) (by omega)) (nI_ge (b := 600) (by omega) (by decide))), x_c (by omega), if_neg (y2 (by omega)), nI_1]
            exact ih n' (a + 1) (a + 1) w due ltr low g0 g1 g2 g3 g4 sn cl (Nat.le_refl _) (by omega) (fun _ => rfl) (by omega) (by omega) (fun j z1 z2 => by omega)
        · have ef : (600 - (nI a).toInt).toNat + 1 = 600 - a + 1 := by rw [nI_toInt (by omega)]; omega
          rw [if_neg (show ¬ nI i ≤ nI a from nI_ge (by omega) (by omega)), m_read, if_neg (show ¬ (nI tl ≤ nI a ∨ 600 ≤ nI a) from fun z => z.elim (nI_ge (by omega) (by omega)) (nI_ge (b := 600) (by omega) (by decide))), x_c (show a < 1000 by omega), if_pos (h6 a (Nat.le_refl _) (by omega)), ef, t_we2 htl (600 - a + 1) a i h1 (by omega) (by omega) h6 y2]
          by_cases u : (m_tw bt due ltr low g0 g1 g2 g3 g4 sn cl (nI a) (nI i)).1 = 0
          · rw [if_pos u, if_pos u]
          · rw [if_neg u, if_neg u, nI_1, nI_1]
            exact ih n' (i + 1) (i + 1) (w + 1) _ _ _ _ _ _ _ _ _ _ (Nat.le_refl _) (by omega) (fun _ => rfl) (by omega) (by omega) (fun j z1 z2 => by omega)
      · rw [if_neg y, nI_1]
        have y1 : i < tl := by
          rcases Nat.lt_or_ge i tl with z | z
          · exact z
          · exact absurd (Or.inl (nI_le z (by omega))) y
        have y3 : m_blank (bt i) = 0 := by
          rcases Decidable.em (m_blank (bt i) = 0) with z | z
          · exact z
          · exact absurd (Or.inr (Or.inr (by rw [x_c (by omega)]; exact z))) y
        refine ih (n' + 1) (i + 1) a w due ltr low g0 g1 g2 g3 g4 sn cl (by omega) (by omega) (fun z => by omega) (by omega) h5 (fun j z1 z2 => ?_)
        by_cases z : j = i
        · rw [z]; exact y3
        · exact h6 j z1 (by omega)
theorem t_cpy {src : Nat → Int32} {k : Nat} (hk : k < 1000) : ∀ (n i : Nat) (d : Nat → Int32), i ≤ k → k < i + n → ∀ j, m_cpy src (nI k) n i d j = if i ≤ j ∧ j < k then src j else d j := by
  intro n
  induction n with
  | zero => intro i d h1 h2; omega
  | succ n ih =>
    intro i d h1 h2 j
    rw [m_cpy]
    by_cases q : nI k ≤ nI i
    · have := (nI_leI (by omega) (by omega)).mp q
      rw [if_pos q, if_neg (by omega)]
    · have hlt := ix_nge q (by omega) (by omega)
      rw [if_neg q, ih (i + 1) _ (by omega) (by omega) j, x_c (by omega)]
      by_cases e : j = i
      · rw [e, if_neg (by omega), pk_us, if_pos (by omega)]
      · rw [pk_un e]
        by_cases y : i + 1 ≤ j ∧ j < k
        · rw [if_pos y, if_pos (by omega)]
        · rw [if_neg y, if_neg (by omega)]
theorem t_cpyE {src : Nat → Int32} {k : Nat} (hk : k < 900) : ∀ (n i : Nat) (d : Nat → Int32), i ≤ k + 1 → k + 1 < i + n → ∀ j, m_cpyE src (nI k) n i d j = if i ≤ j ∧ j ≤ k then src j else d j := by
  intro n
  induction n with
  | zero => intro i d h1 h2; omega
  | succ n ih =>
    intro i d h1 h2 j
    rw [m_cpyE]
    by_cases q : nI k < nI i
    · have := (nI_ltI (by omega) (by omega)).mp q
      rw [if_pos q, if_neg (by omega)]
    · have hle : i ≤ k := by
        rcases Nat.lt_or_ge k i with y | y
        · exact absurd (nI_lt y (by omega)) q
        · exact y
      rw [if_neg q, ih (i + 1) _ (by omega) (by omega) j, x_c (by omega)]
      by_cases e : j = i
      · rw [e, if_neg (by omega), pk_us, if_pos (by omega)]
      · rw [pk_un e]
        by_cases y : i + 1 ≤ j ∧ j ≤ k
        · rw [if_pos y, if_pos (by omega)]
        · rw [if_neg y, if_neg (by omega)]
/-- rules(): the same answer; the rules that were told stand alike, or those that stood -/
theorem k_rules {len u12 : Int32} (hT : r_text bt len c11 u12) {G0 G1 G2 G3 G4 : Nat → Int32} {SN u13 : Int32} {c14 c15 c16 : Nat → Int32} (hR : r_rules G0 G1 G2 G3 G4 SN u13 c14 c15 c16) (ltr low : Int32) (g0 g1 g2 g3 g4 c18 c19 c20 : Nat → Int32) (u27 : Int32)
    {r : Int32 × RdT} (er : m_rd bt len 602 0 0 0 0 ltr low g0 g1 g2 g3 g4 0 0 = r) {q : Int32 × Int32 × Int32 × Int32 × Int32 × (Nat → Int32) × (Nat → Int32) × (Nat → Int32) × (Nat → Int32) × (Nat → Int32) × (Nat → Int32) × Int32 × Int32} (eq' : m_mrules c11 c14 c15 c16 c18 c19 c20 u12 u13 u27 = q) :
    r.1 = q.1 ∧ q.2.1 = 0 ∧ (r.1 < 0 → r_rules G0 G1 G2 G3 G4 SN q.2.2.1 q.2.2.2.2.2.1 q.2.2.2.2.2.2.1 q.2.2.2.2.2.2.2.1) ∧ (¬ r.1 < 0 → r_rules r.2.2.2.2.1 r.2.2.2.2.2.1 r.2.2.2.2.2.2.1 r.2.2.2.2.2.2.2.1 r.2.2.2.2.2.2.2.2.1 r.2.2.2.2.2.2.2.2.2.1 q.2.2.1 q.2.2.2.2.2.1 q.2.2.2.2.2.2.1 q.2.2.2.2.2.2.2.1) := by
  obtain ⟨tl, htl, rfl, rfl, hbt⟩ := hT
  have hI0 : t_I 0 (0, ltr, low, g0, g1, g2, g3, g4, 0, 0) (0, 0, 0, c18, c19, c20) :=
    ⟨0, 0, 0, fun _ => 0, by decide, rfl, rfl, by decide, rfl, rfl, rfl, rfl, rfl, rfl, fun i h => absurd h (Nat.not_lt_zero _), fun i h => absurd h (Nat.not_lt_zero _), fun i h => absurd h (Nat.not_lt_zero _), by decide, fun h => absurd h (by decide), fun h => absurd h (by decide), fun h => absurd h (by decide), fun h => absurd h (by decide)⟩
  have hO := t_loop hbt htl 601 0 0 0 601 0 ltr low g0 g1 g2 g3 g4 0 0 0 (-1) u27 0 0 c18 c19 c20 (by omega) (by omega) (by omega) (by omega) (by omega) (by decide) (by rw [Nat.min_eq_left (Nat.zero_le _)]) hI0
  rw [← t_rdw htl 602 601 0 0 0 0 ltr low g0 g1 g2 g3 g4 0 0 (Nat.le_refl _) (by omega) (fun z => rfl) (by omega) (by omega) (fun j z1 z2 => by omega), show m_rd bt (nI tl) 602 (nI 0) (nI 0) (nI 0) 0 ltr low g0 g1 g2 g3 g4 0 0 = r from er] at hO
  rw [m_mrules] at eq'
  have eL : m_rloop c11 (nI tl) 601 0 0 (-1) u27 0 0 0 c18 c19 c20 = m_rloop c11 (nI tl) 601 (nI 0) 0 (-1) u27 (nI 0) 0 0 c18 c19 c20 := rfl
  rw [eL] at eq'
  generalize m_rloop c11 (nI tl) 601 (nI 0) 0 (-1) u27 (nI 0) 0 0 c18 c19 c20 = L at eq' hO
  obtain ⟨wd, sx, wg, xf, xe, xs, xc, d18, d19, d20⟩ := L
  dsimp only at eq'
  unfold t_O at hO
  dsimp only at hO
  rcases hO with ⟨o1, o2, o3⟩ | ⟨o1, o2, o3, o4⟩ | ⟨o2, o3, o4, o5, o6⟩
  · rw [if_pos o2] at eq'
    subst eq'
    exact ⟨o3, rfl, fun _ => hR, fun z => absurd o1 z⟩
  · rw [if_neg o2, if_neg o3] at eq'
    subst eq'
    exact ⟨o4, rfl, fun _ => hR, fun z => absurd o1 z⟩
  · rw [if_neg o2, if_pos o3] at eq'
    subst eq'
    refine ⟨o4, rfl, fun z => absurd z o5, fun _ => ?_⟩
    obtain ⟨st, ns, nl, E, h1, h2, h3, h4, h5, h6, h7, h8, h9, h10, h11, h12, h13, h14, -⟩ := o6
    dsimp only at h3 h6 h8 h12 h13 ⊢
    have hnl : nl ≤ 100 := by omega
    rw [h5, h6, h8, x_3z, x_c (by omega), x_c (by omega)]
    have e15 := t_cpyE (src := upd d19 ns (nI nl)) (k := ns) (by omega) (ns + 1 + 1) 0 c15 (by omega) (by omega)
    have e14 := t_cpy (src := d18) (k := ns) (by omega) (ns + 1) 0 c14 (by omega) (by omega)
    have e16 := t_cpy (src := d20) (k := 3 * nl) (by omega) (3 * nl + 1) 0 c16 (by omega) (by omega)
    have eE : ∀ i, i ≤ ns → m_cpyE (upd d19 ns (nI nl)) (nI ns) (ns + 1 + 1) 0 c15 i = nI (E i) := fun i hi => by
      rw [e15 i, if_pos ⟨Nat.zero_le _, hi⟩]
      by_cases y : i = ns
      · rw [y, pk_us, h10]
      · rw [pk_un y]; exact (h12 i (by omega)).1
    refine ⟨fun i hi => ?_, ns, E, h4, rfl, rfl, h9, h11, by omega, eE, fun i hi => ?_, fun j hj => ?_⟩
    · by_cases y : i ≤ ns
      · rw [eE i y]
        have := x_Emono h11 y
        exact ⟨nI_pos (by omega), nI_le (b := 200) (by omega) (by decide)⟩
      · rw [e15 i, if_neg (fun z => y z.2)]; exact hR.1 i hi
    · obtain ⟨m1, m2, m3, m4⟩ := h12 i hi
      rw [e14 i, if_pos ⟨Nat.zero_le _, hi⟩]
      exact ⟨m3, m2, m4⟩
    · rw [h10] at hj
      rw [e16, if_pos (by omega), e16, if_pos (by omega), e16, if_pos (by omega)]
      exact h13 j hj
end RRD
