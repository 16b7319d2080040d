-- record(): the letters of both sides
def p_st (P m : Nat) (S : Nat → Int32) : Int32 × Int32 := (nI P - nI m, if P < m then S P else -1)
theorem p_sub {P m : Nat} (hP : P < 2 ^ 31) (hm : m ≤ 100) : (nI P - nI m).toInt = (P : Int) - m := by
  rw [Int32.toInt_sub, nI_toInt hP, nI_toInt (by omega)]
  apply Int.bmod_eq_of_le <;> omega
theorem p_put {P m : Nat} {S : Nat → Int32} (hP : P < 2 ^ 31) (hm : m ≤ 99) {v : Int32} (hv : v = S m) : m_put (p_st P m S).1 (p_st P m S).2 v = p_st P (m + 1) S := by
  unfold m_put p_st
  dsimp only
  have e1 : nI P - nI m - 1 = nI P - nI (m + 1) := by rw [← nI_1, Int32.sub_sub]
  rw [e1]
  congr 1
  by_cases h : P = m
  · subst h
    rw [Int32.sub_self, if_pos rfl, if_pos (by omega), hv]
  · have h0 : ¬ nI P - nI m = 0 := fun z => by
      have := p_sub hP (show m ≤ 100 by omega)
      rw [z, Int32.toInt_zero] at this
      omega
    rw [if_neg h0]
    by_cases h2 : P < m
    · rw [if_pos h2, if_pos (by omega)]
    · rw [if_neg h2, if_neg (by omega)]
theorem p_dg1 {w : Nat} : w < 10 ^ sb_dg w ∨ 10000000000 ≤ w := by
  unfold sb_dg
  (repeat' split) <;> omega
theorem p_dg0 {w : Nat} : sb_dg w = 1 ∨ 10 ^ (sb_dg w - 1) ≤ w := by
  unfold sb_dg
  (repeat' split) <;> simp <;> omega
theorem p_pw {e : Nat} (h : e ≤ 10) : 10 ^ e < 2 ^ 63 := Nat.lt_of_le_of_lt (Nat.pow_le_pow_right (by decide) h) (by decide)
theorem p_by {w : Nat} (hw : w < 2 ^ 31) : ∀ (n e : Nat), e ≤ sb_dg w - 1 → sb_dg w ≤ e + n → m_by (lN w) n (lN (10 ^ e)) = lN (10 ^ (sb_dg w - 1)) := by
  have hd := sb_dg_in w
  intro n
  induction n with
  | zero => intro e h1 h2; omega
  | succ n ih =>
    intro e h1 h2
    have hle : lN w / lN (10 ^ e) ≤ 9 ↔ w / 10 ^ e ≤ 9 := by
      rw [pk_lDiv (by omega) (Nat.pow_pos (by decide)) (p_pw (by omega)), show (9 : Int64) = lN 9 from rfl]
      exact pk_lLE (Nat.lt_of_le_of_lt (Nat.div_le_self _ _) (by omega)) (by decide)
    rw [m_by]
    by_cases he : e = sb_dg w - 1
    · rw [if_pos, he]
      rw [hle]
      have h3 : w < 10 ^ sb_dg w := p_dg1.resolve_right (by omega)
      rw [show sb_dg w = e + 1 by omega, Nat.pow_succ] at h3
      have := (Nat.div_lt_iff_lt_mul (Nat.pow_pos (by decide : 0 < 10) (n := e))).mpr (show w < 10 * 10 ^ e by omega)
      omega
    · rw [if_neg]
      · rw [show (10 : Int64) = lN 10 from rfl, lN_mul, ← Nat.pow_succ]
        exact ih (e + 1) (by omega) (by omega)
      · rw [hle]
        have h3 : 10 ^ (sb_dg w - 1) ≤ w := p_dg0.resolve_left (by omega)
        have h4 : 10 ^ (e + 1) ≤ 10 ^ (sb_dg w - 1) := Nat.pow_le_pow_right (by decide) (by omega)
        rw [Nat.pow_succ] at h4
        have := (Nat.le_div_iff_mul_le (Nat.pow_pos (by decide : 0 < 10) (n := e))).mpr (show 10 * 10 ^ e ≤ w by omega)
        omega
theorem p_dig {w e : Nat} (hw : w < 2 ^ 31) (he : e ≤ 10) : (48 + (lN w / lN (10 ^ e) - lN w / lN (10 ^ e) / 10 * 10)).toInt32 = nI (48 + w / 10 ^ e % 10) := by
  have h1 : w / 10 ^ e ≤ w := Nat.div_le_self _ _
  rw [pk_lDiv (by omega) (Nat.pow_pos (by decide)) (p_pw he), show (10 : Int64) = lN 10 from rfl, pk_lRem (by omega) (by decide) (by decide), show (48 : Int64) = lN 48 from rfl]
  have h2 : lN 48 + lN (w / 10 ^ e % 10) = lN (48 + w / 10 ^ e % 10) := (lN_add 48 _)
  rw [h2]
  apply Int32.toInt_inj.mp
  rw [Int64.toInt_toInt32, pk_lT (by omega), nI_toInt (by omega)]
  apply Int.bmod_eq_of_le <;> omega
theorem p_putD {P : Nat} {S : Nat → Int32} (hP : P < 2 ^ 31) {w : Nat} (hw : w < 2 ^ 31) : ∀ (e n m : Nat), e ≤ 10 → m + e ≤ 90 → e + 2 ≤ n → (∀ j, j ≤ e → S (m + j) = nI (48 + w / 10 ^ (e - j) % 10)) →
    m_putD (lN w) n (lN (10 ^ e)) (p_st P m S).1 (p_st P m S).2 = p_st P (m + e + 1) S := by
  intro e
  induction e with
  | zero =>
    intro n m h1 h2 h3 hS
    obtain ⟨n1, rfl⟩ : ∃ n1, n = n1 + 2 := ⟨n - 2, by omega⟩
    rw [show n1 + 2 = (n1 + 1) + 1 from rfl, m_putD, if_neg (by rw [Nat.pow_zero]; decide), p_dig hw h1]
    have e0 := p_put (S := S) hP (show m ≤ 99 by omega) (v := nI (48 + w / 10 ^ 0 % 10)) (by have := hS 0 (Nat.le_refl _); rw [Nat.add_zero] at this; exact this.symm)
    rw [m_putD, if_pos (by rw [Nat.pow_zero]; decide), e0]
  | succ e ih =>
    intro n m h1 h2 h3 hS
    obtain ⟨n1, rfl⟩ : ∃ n1, n = n1 + 1 := ⟨n - 1, by omega⟩
    have hp : 0 < 10 ^ (e + 1) := Nat.pow_pos (by decide)
    rw [m_putD, if_neg, p_dig hw h1]
    · have e0 := p_put (S := S) hP (show m ≤ 99 by omega) (v := nI (48 + w / 10 ^ (e + 1) % 10)) (by have := hS 0 (Nat.zero_le _); rw [Nat.add_zero, Nat.sub_zero] at this; exact this.symm)
      rw [e0, show (10 : Int64) = lN 10 from rfl, pk_lDiv (p_pw h1) (by decide) (by decide), Nat.pow_succ, Nat.mul_div_cancel _ (by decide)]
      rw [ih n1 (m + 1) (by omega) (by omega) (by omega) (fun j hj => by
        have := hS (j + 1) (by omega)
        rw [show m + (j + 1) = m + 1 + j by omega, show e + 1 - (j + 1) = e - j by omega] at this
        exact this)]
      rw [show m + 1 + e + 1 = m + (e + 1) + 1 by omega]
    · show ¬ lN (10 ^ (e + 1)) ≤ lN 0
      rw [pk_lLE (p_pw h1) (by decide)]; omega
theorem p_lN {w : Nat} (hw : w < 2 ^ 31) : (lN w).toInt.toNat = w := by rw [pk_lT (by omega)]; rfl
theorem p_nat {P : Nat} {S : Nat → Int32} (hP : P < 2 ^ 31) {w : Nat} (hw : w < 2 ^ 31) {m : Nat} (hm : m ≤ 50) (hS : ∀ j, j < sb_dg w → S (m + j) = nI (48 + w / 10 ^ (sb_dg w - 1 - j) % 10)) :
    m_putD (lN w) ((m_by (lN w) ((lN w).toInt.toNat + 1) 1).toInt.toNat + 1) (m_by (lN w) ((lN w).toInt.toNat + 1) 1) (p_st P m S).1 (p_st P m S).2 = p_st P (m + sb_dg w) S := by
  have hd := sb_dg_in w
  have hf : sb_dg w ≤ 0 + (w + 1) := by
    rcases p_dg0 (w := w) with z | z
    · omega
    · have h2 := (Nat.lt_pow_self (n := sb_dg w - 1) (by decide : 1 < 10))
      omega
  rw [p_lN hw, show (1 : Int64) = lN (10 ^ 0) from rfl, p_by hw (w + 1) 0 (Nat.zero_le _) hf, pk_lT (p_pw (by omega))]
  have h2 := (Nat.lt_pow_self (n := sb_dg w - 1) (by decide : 1 < 10))
  rw [Int.toNat_natCast, p_putD hP hw (sb_dg w - 1) _ m (by omega) (by omega) (by omega) (fun j hj => hS j (by omega)), show m + (sb_dg w - 1) + 1 = m + sb_dg w by omega]
/-- a number's letters from m on -/
def p_let (S : Nat → Int32) (m : Nat) (x : Int32) : Prop := if x < 0 then S m = 45 ∧ ∀ j, j < sb_dg (m_wd x) → S (m + 1 + j) = nI (48 + m_wd x / 10 ^ (sb_dg (m_wd x) - 1 - j) % 10) else ∀ j, j < sb_dg (m_wd x) → S (m + j) = nI (48 + m_wd x / 10 ^ (sb_dg (m_wd x) - 1 - j) % 10)
theorem p_pn {P : Nat} {S : Nat → Int32} (hP : P < 2 ^ 31) {x : Int32} {v : Int64} (hx : x ≠ -2147483648) (hv : v.toInt = x.toInt) {m : Nat} (hm : m ≤ 40) (hS : p_let S m x) : m_pn (p_st P m S) v = p_st P (m + m_len x) S := by
  unfold m_pn m_putNumber
  by_cases h : x < 0
  · obtain ⟨a1, a2, a3⟩ := m_of_neg h hx
    have h0 : ¬ 0 ≤ v := by
      rw [Int64.le_iff_toInt_le, hv, Int64.toInt_zero]
      rw [Int32.lt_iff_toInt_lt, Int32.toInt_zero] at h
      omega
    have ev : -v = lN (m_wd x) := by
      apply Int64.toInt_inj.mp
      have hq := sb_negT a2
      rw [← a3] at hq
      rw [Int64.toInt_neg, hv, pk_lT (by omega), hq, Int.neg_neg]
      apply Int.bmod_eq_of_le <;> omega
    unfold p_let at hS
    rw [if_pos h] at hS
    rw [if_neg h0, ev, p_put hP (by omega) hS.1.symm, p_nat hP a2 (by omega) hS.2, m_len, if_pos h, show m + 1 + sb_dg (m_wd x) = m + (sb_dg (m_wd x) + 1) by omega]
  · obtain ⟨a2, a3⟩ := m_of_pos h
    have ev : v = lN (m_wd x) := by
      apply Int64.toInt_inj.mp
      rw [hv, pk_lT (by omega)]
      have := nI_toInt a2
      rw [← a3] at this
      exact this
    have h0 : 0 ≤ v := by rw [ev]; show lN 0 ≤ _; rw [pk_lLE (by decide) (by omega)]; omega
    unfold p_let at hS
    rw [if_neg h] at hS
    rw [if_pos h0, ev, p_nat hP a2 (by omega) hS, m_len, if_neg h]
theorem p_ch {c : Nat} (h : c < 256) : m_ch (sb_b c) = nI c := by
  unfold m_ch
  rw [(sb_byte c h).1, (sb_byte c h).2.1]
theorem p_gc {bt : Nat → Int32} {n w j : Nat} (h : j < sb_dg w) : m_ch (m_gc bt n w (n + j)) = nI (48 + w / 10 ^ (sb_dg w - 1 - j) % 10) := by
  rw [m_gc, if_pos (by omega), p_ch (by omega), show n + sb_dg w - 1 - (n + j) = sb_dg w - 1 - j by omega]
theorem p_app {bt : Nat → Int32} {k : Nat} {x : Int32} : p_let (fun j => m_ch (m_app bt k x j)) k x := by
  unfold p_let m_app
  by_cases h : x < 0
  · rw [if_pos h]
    refine ⟨?_, fun j hj => ?_⟩
    · dsimp only
      rw [if_pos h, pk_us]; decide
    · dsimp only
      rw [if_pos h, pk_un (by omega), p_gc hj]
  · rw [if_neg h]
    intro j hj
    dsimp only
    rw [if_neg h, p_gc hj]
theorem p_applo {bt : Nat → Int32} {k j : Nat} {x : Int32} (h : j < k) : m_app bt k x j = bt j := by
  unfold m_app
  split
  · rw [pk_un (by omega), m_gc, if_neg (by omega)]
  · rw [m_gc, if_neg (by omega)]
theorem p_splo {bt : Nat → Int32} {k j : Nat} (h : j < k) : m_sp bt k j = bt j := pk_un (by omega)
theorem p_let_c {S T : Nat → Int32} {m : Nat} {x : Int32} (h : p_let S m x) (e : ∀ j, m ≤ j → j < m + m_len x → T j = S j) : p_let T m x := by
  have hd := sb_dg_in (m_wd x)
  unfold p_let at h ⊢
  unfold m_len at e
  by_cases hx : x < 0
  · rw [if_pos hx] at h ⊢
    rw [if_pos hx] at e
    exact ⟨by rw [e m (by omega) (by omega)]; exact h.1, fun j hj => by rw [e _ (by omega) (by omega)]; exact h.2 j hj⟩
  · rw [if_neg hx] at h ⊢
    rw [if_neg hx] at e
    exact fun j hj => by rw [e _ (by omega) (by omega)]; exact h j hj
theorem p_len (x : Int32) : 1 ≤ m_len x ∧ m_len x ≤ 11 := by
  have hd := sb_dg_in (m_wd x)
  unfold m_len; split <;> omega
/-- the whole row of letters -/
theorem p_rec {bt : Nat → Int32} {P : Nat} (hP : P < 2 ^ 31) {x y z : Int32} {v1 v2 v3 : Int64} (hx : x ≠ -2147483648) (hy : y ≠ -2147483648) (hz : z ≠ -2147483648) (h1 : v1.toInt = x.toInt) (h2 : v2.toInt = y.toInt) (h3 : v3.toInt = z.toInt) (hl : m_rlen x y z ≤ 16) :
    m_pn (m_p1 (m_pn (m_p1 (m_pn (nI P, -1) v1) 32) v2) 32) v3 = p_st P (m_rlen x y z) (fun j => m_ch (m_rbt bt x y z j)) := by
  have l1 := p_len x
  have l2 := p_len y
  have l3 := p_len z
  unfold m_rlen at hl ⊢
  have e0 : (nI P, (-1 : Int32)) = p_st P 0 (fun j => m_ch (m_rbt bt x y z j)) := by
    unfold p_st
    rw [if_neg (by omega), show nI P - nI 0 = nI P from Int32.sub_zero _]
  rw [e0, p_pn hP hx h1 (by omega) (p_let_c (T := fun j => m_ch (m_rbt bt x y z j)) (S := fun j => m_ch (m_app bt 0 x j)) p_app (fun j _ hj => by
    unfold m_rbt
    rw [p_applo (by omega), p_splo (by omega), p_applo (by omega), p_splo (by omega)]))]
  have s1 : m_p1 (p_st P (0 + m_len x) (fun j => m_ch (m_rbt bt x y z j))) 32 = p_st P (0 + m_len x + 1) (fun j => m_ch (m_rbt bt x y z j)) := by
    refine p_put hP (by omega) ?_
    show (32 : Int32) = m_ch (m_rbt bt x y z (0 + m_len x))
    unfold m_rbt
    rw [p_applo (by omega), p_splo (by omega), p_applo (by omega), m_sp, pk_us]
    decide
  rw [s1, p_pn hP hy h2 (by omega) (p_let_c (T := fun j => m_ch (m_rbt bt x y z j)) (S := fun j => m_ch (m_app (m_sp (m_app bt 0 x) (0 + m_len x)) (0 + m_len x + 1) y j)) p_app (fun j _ hj => by
    unfold m_rbt
    rw [p_applo (by omega), p_splo (by omega)]))]
  have s2 : m_p1 (p_st P (0 + m_len x + 1 + m_len y) (fun j => m_ch (m_rbt bt x y z j))) 32 = p_st P (0 + m_len x + 1 + m_len y + 1) (fun j => m_ch (m_rbt bt x y z j)) := by
    refine p_put hP (by omega) ?_
    show (32 : Int32) = m_ch (m_rbt bt x y z (0 + m_len x + 1 + m_len y))
    unfold m_rbt
    rw [p_applo (by omega), m_sp, pk_us]
    decide
  rw [s2, p_pn hP hz h3 (by omega) (p_let_c (S := fun j => m_ch (m_rbt bt x y z j)) (by unfold m_rbt; exact p_app) (fun j _ hj => rfl))]
