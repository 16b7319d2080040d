-- numbers: both sides' gcd, floor, parts
theorem n_gcd : ∀ (m n a b : Nat), a < 2 ^ 31 → b < 2 ^ 31 → b < 2 ^ m → 2 * m + 1 ≤ n → m_gcd n (nI a) (nI b) = nI (Nat.gcd a b) := by
  intro m
  induction m with
  | zero =>
    intro n a b ha hb h hn
    obtain rfl : b = 0 := by simpa using h
    rw [m_gcd_z (show nI 0 = 0 from rfl), Nat.gcd_zero_right]
  | succ m ih =>
    intro n a b ha hb h hn
    by_cases h0 : b = 0
    · subst h0
      rw [m_gcd_z (show nI 0 = 0 from rfl), Nat.gcd_zero_right]
    · obtain ⟨n1, rfl⟩ : ∃ n1, n = n1 + 2 := ⟨n - 2, by omega⟩
      have hb0 := Nat.pos_of_ne_zero h0
      have h1 := Nat.mod_lt a hb0
      rw [show n1 + 2 = (n1 + 1) + 1 from rfl, m_gcd, if_neg (nI_ne0 hb0 hb), pk_rem ha hb0 hb]
      have e1 : Nat.gcd a b = Nat.gcd b (a % b) := by rw [Nat.gcd_comm a b, Nat.gcd_rec b a, Nat.gcd_comm]
      by_cases h2 : a % b = 0
      · rw [h2, m_gcd_z (show nI 0 = 0 from rfl), e1, h2, Nat.gcd_zero_right]
      · have hr0 := Nat.pos_of_ne_zero h2
        have h3 := Nat.mod_lt b hr0
        rw [m_gcd, if_neg (nI_ne0 hr0 (by omega)), pk_rem hb hr0 (by omega)]
        have e2 : Nat.gcd b (a % b) = Nat.gcd (a % b) (b % (a % b)) := by rw [Nat.gcd_comm b, Nat.gcd_rec (a % b) b, Nat.gcd_comm]
        have h4 : 2 * (b % (a % b)) < b := by
          have := Nat.mod_add_div b (a % b)
          have h5 : 1 ≤ b / (a % b) := Nat.div_pos (by omega) hr0
          have h6 : (a % b) * 1 ≤ (a % b) * (b / (a % b)) := Nat.mul_le_mul_left _ h5
          omega
        rw [ih n1 (a % b) (b % (a % b)) (by omega) (by omega) (by rw [Nat.pow_succ] at h; omega) (by omega), e1, e2]
theorem n_gcd64 {a b : Nat} (ha : a < 2 ^ 31) (hb : b < 2 ^ 31) : m_gcd 64 (nI a) (nI b) = nI (Nat.gcd a b) := n_gcd 31 64 a b ha hb hb (by decide)
theorem n_part {a b : Nat} {p : Int32} (ha : a < 2 ^ 31) (hb : b < 2 ^ 31) (h0 : 0 < b) : m_partOf (nI a) (nI b) p = if m_in p.toInt64 0 1 = 0 then -1 else m_mpart (nI a) (nI b) p := by
  have hg : 0 < Nat.gcd a b := Nat.gcd_pos_of_pos_right a h0
  have hle : Nat.gcd a b ≤ b := Nat.gcd_le_right a h0
  unfold m_partOf m_mpart
  rw [n_gcd64 ha hb, nI_clamp hb, m_gcdW_gcd (b + 1) a b ha hb (Nat.lt_succ_self _)]
  by_cases h : m_in p.toInt64 0 1 = 0
  · rw [if_pos (Or.inr h), if_pos h]
  · rw [if_neg (by rintro (q | q); exact nI_ne0 hg (by omega) q; exact h q), if_neg h]
theorem n_size (x : Int32) : m_abs x = m_size x := by
  unfold m_abs m_size
  split
  · rfl
  · exact Int32.zero_sub x
theorem n_xorn {x : Int64} : 0 ≤ x ^^^ 3600 ↔ 0 ≤ x := by
  have h : ∀ y : Int64, 0 ≤ y ↔ y.toBitVec.msb = false := fun y => by
    rw [Int64.le_iff_toBitVec_sle, BitVec.sle_eq_decide]
    simp [BitVec.msb_eq_toInt]
  rw [h, h, Int64.toBitVec_xor, BitVec.msb_xor]
  simp
  rw [show (3600#64).msb = false by decide]
theorem n_floor (s : Int64) : m_floorDiv s 3600 = m_fl s := by
  unfold m_floorDiv m_fl
  have e : (s / 3600).toInt = s.toInt.tdiv 3600 := by
    rw [Int64.toInt_div, show (3600 : Int64).toInt = 3600 from rfl]
    have h1 := Int64.toInt_lt s
    have h2 := Int64.le_toInt s
    by_cases hneg : s.toInt < 0
    · have a1 := Int.tdiv_nonneg (a := -s.toInt) (b := 3600) (by omega) (by omega)
      have a2 : (-s.toInt).tdiv 3600 = -s.toInt / 3600 := Int.tdiv_eq_ediv_of_nonneg (by omega)
      rw [Int.neg_tdiv] at a1 a2
      apply Int.bmod_eq_of_le <;> omega
    · rw [Int.tdiv_eq_ediv_of_nonneg (by omega)]
      apply Int.bmod_eq_of_le <;> omega
  have e2 : (s / 3600 * 3600).toInt = s.toInt.tdiv 3600 * 3600 := by
    rw [Int64.toInt_mul, e, show (3600 : Int64).toInt = 3600 from rfl]
    have h1 := Int64.toInt_lt s
    have h2 := Int64.le_toInt s
    by_cases hneg : s.toInt < 0
    · have a2 : (-s.toInt).tdiv 3600 = -s.toInt / 3600 := Int.tdiv_eq_ediv_of_nonneg (by omega)
      rw [Int.neg_tdiv] at a2
      apply Int.bmod_eq_of_le <;> omega
    · rw [Int.tdiv_eq_ediv_of_nonneg (by omega)]
      apply Int.bmod_eq_of_le <;> omega
  by_cases h : (0 : Int64) ≤ s
  · have h0 : 0 ≤ s.toInt := by simpa [Int64.le_iff_toInt_le] using h
    rw [if_pos (n_xorn.mpr h), if_pos]
    rw [Int64.le_iff_toInt_le, e2, Int.tdiv_eq_ediv_of_nonneg h0]
    omega
  · have h0 : ¬ 0 ≤ s.toInt := by simpa [Int64.le_iff_toInt_le] using h
    rw [if_neg (fun q => h (n_xorn.mp q))]
    have a2 : (-s.toInt).tdiv 3600 = -s.toInt / 3600 := Int.tdiv_eq_ediv_of_nonneg (by omega)
    rw [Int.neg_tdiv] at a2
    by_cases h3 : s / 3600 * 3600 = s
    · rw [if_pos h3, if_pos (by rw [h3]; exact Int64.le_refl s)]
    · rw [if_neg h3, if_neg]
      rw [Int64.le_iff_toInt_le, e2]
      intro q
      apply h3
      apply Int64.toInt_inj.mp
      rw [e2]
      omega
theorem n_in {v lo hi : Int32} : m_in v.toInt64 lo.toInt64 hi.toInt64 = if v < lo ∨ hi < v then 0 else 1 := by
  unfold m_in
  have e1 : v.toInt64 < lo.toInt64 ↔ v < lo := by rw [Int64.lt_iff_toInt_lt, Int32.lt_iff_toInt_lt, Int32.toInt_toInt64, Int32.toInt_toInt64]
  have e2 : hi.toInt64 < v.toInt64 ↔ hi < v := by rw [Int64.lt_iff_toInt_lt, Int32.lt_iff_toInt_lt, Int32.toInt_toInt64, Int32.toInt_toInt64]
  simp only [e1, e2]
  by_cases h : v < lo
  · simp [h]
  · simp [h]
theorem n_inZ {v lo hi : Int64} : m_in v lo hi = 0 ↔ (v < lo ∨ hi < v) := by
  unfold m_in
  split
  · rename_i h; exact ⟨fun _ => Or.inl h, fun _ => rfl⟩
  · rename_i h
    split
    · rename_i h2; exact ⟨fun _ => Or.inr h2, fun _ => rfl⟩
    · rename_i h2; exact ⟨fun q => absurd q (by decide), fun q => q.elim (fun z => absurd z h) (fun z => absurd z h2)⟩
theorem n_inR {v : Int32} {lo hi : Int64} : m_in v.toInt64 lo hi = 0 ↔ (v.toInt < lo.toInt ∨ hi.toInt < v.toInt) := by
  rw [n_inZ, Int64.lt_iff_toInt_lt, Int64.lt_iff_toInt_lt, Int32.toInt_toInt64]
theorem n_in01 (v lo hi : Int64) : m_in v lo hi = 0 ∨ m_in v lo hi = 1 := by
  unfold m_in; split
  · exact Or.inl rfl
  · split
    · exact Or.inl rfl
    · exact Or.inr rfl
