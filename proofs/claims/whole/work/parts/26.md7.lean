-- the reference's pack(): its ways as numbers, its loop
def vl (P : Nat) (w : Nat → Int32) : Nat → Nat
  | 0 => 0
  | k + 1 => vl P w k * (P + 1) + (w k).toNatClampNeg
theorem vl_congr {P : Nat} {w w' : Nat → Int32} : ∀ {k : Nat}, (∀ c, c < k → w c = w' c) → vl P w k = vl P w' k := by
  intro k
  induction k with
  | zero => intro _; rfl
  | succ k ih => intro h; rw [vl, vl, ih (fun c hc => h c (by omega)), h k (by omega)]
theorem vl_lt {P : Nat} {w : Nat → Int32} {m : Nat} : ∀ {r : Nat}, (∀ c, c < m + r → (w c).toNatClampNeg ≤ P) → vl P w (m + r) < (vl P w m + 1) * (P + 1) ^ r := by
  intro r
  induction r with
  | zero => intro _; rw [Nat.add_zero, Nat.pow_zero, Nat.mul_one]; exact Nat.lt_succ_self _
  | succ r ih =>
    intro h
    have h1 := ih (fun c hc => h c (by omega))
    have h2 := h (m + r) (by omega)
    rw [← Nat.add_assoc, vl, Nat.pow_succ, ← Nat.mul_assoc]
    have h3 : (vl P w (m + r) + 1) * (P + 1) ≤ ((vl P w m + 1) * (P + 1) ^ r) * (P + 1) := Nat.mul_le_mul_right _ h1
    rw [Nat.add_mul] at h3
    omega
theorem vl_ge {P : Nat} {w : Nat → Int32} {m : Nat} : ∀ {r : Nat}, vl P w m * (P + 1) ^ r ≤ vl P w (m + r) := by
  intro r
  induction r with
  | zero => rw [Nat.pow_zero, Nat.mul_one]; exact Nat.le_refl _
  | succ r ih =>
    rw [← Nat.add_assoc, vl, Nat.pow_succ, ← Nat.mul_assoc]
    have := Nat.mul_le_mul_right (P + 1) ih
    omega
def m_wayOK (wh : Int32 → Int32) (nc : Nat) (p1 : Int32) (w : Nat → Int32) : Prop := ∀ c, c < nc → ¬ w c < 0 ∧ w c ≤ p1 ∧ (wh (nI c) = 0 → w c = p1)
def m_mu (u0 p1 : Int32) (w : Nat → Int32) : Nat := (p1.toNatClampNeg + 1) ^ u0.toNatClampNeg - vl p1.toNatClampNeg w u0.toNatClampNeg
def m_mm (mr u0 p1 : Int32) (w : Nat → Int32) : Nat := if mr = 0 then 0 else m_mu u0 p1 w
theorem m_mm_0 {u0 p1 : Int32} {w : Nat → Int32} : m_mm 1 u0 p1 w < m_mu u0 p1 w + 1 := by unfold m_mm; rw [if_neg (by decide)]; exact Nat.lt_succ_self _
theorem m_clle {x y : Int32} (h0 : ¬ x < 0) (h : x ≤ y) : x.toNatClampNeg ≤ y.toNatClampNeg := by
  rw [Int32.lt_iff_toInt_lt, Int32.toInt_zero] at h0
  rw [Int32.le_iff_toInt_le] at h
  unfold Int32.toNatClampNeg; omega
theorem upd_s {f : Nat → Int32} {k : Nat} {x : Int32} : upd f k x k = x := pk_us
theorem m_turnL_p (wh : Int32 → Int32) (p1 : Int32) : ∀ (n k : Nat) (x : Int32) (w : Nat → Int32), k ≤ 8 → k < n → x.toInt = (k : Int) - 1 →
    ((m_turnL wh p1 n x w).1 < 0 ∧ (∀ c, c < k → (m_turnL wh p1 n x w).2 c = if wh (nI c) = 0 then p1 else 0) ∧ ∀ c, k ≤ c → (m_turnL wh p1 n x w).2 c = w c) ∨
    ∃ m, m < k ∧ (m_turnL wh p1 n x w).1 = nI m ∧ ¬ wh (nI m) = 0 ∧ ¬ w m = p1 ∧ (∀ c, c ≤ m → (m_turnL wh p1 n x w).2 c = w c) ∧ (∀ c, m < c → c < k → (m_turnL wh p1 n x w).2 c = if wh (nI c) = 0 then p1 else 0) ∧ ∀ c, k ≤ c → (m_turnL wh p1 n x w).2 c = w c := by
  intro n
  induction n with
  | zero => intro k x w _ h; exact absurd h (Nat.not_lt_zero _)
  | succ n ih =>
    intro k x w hk hn hx
    rw [m_turnL]
    by_cases h0 : x < 0
    · rw [if_pos h0]
      refine Or.inl ⟨h0, fun c hc => ?_, fun _ _ => rfl⟩
      rw [Int32.lt_iff_toInt_lt, Int32.toInt_zero] at h0; omega
    · rw [if_neg h0]
      have h0' := h0
      rw [Int32.lt_iff_toInt_lt, Int32.toInt_zero] at h0'
      obtain ⟨j, rfl⟩ : ∃ j, k = j + 1 := ⟨k - 1, by omega⟩
      have ex : x = nI j := Int32.toInt_inj.mp (by rw [nI_toInt (by omega), hx]; omega)
      have ed : (x + (-1)).toInt = (j : Int) - 1 := by rw [m_dec h0, hx]; omega
      have ec : x.toNatClampNeg = j := by rw [ex, nI_clamp (by omega)]
      rw [ec]
      have step : ∀ v : Int32, v = (if wh (nI j) = 0 then p1 else 0) → ((m_turnL wh p1 n (x + (-1)) (upd w j v)).1 < 0 ∧ (∀ c, c < j + 1 → (m_turnL wh p1 n (x + (-1)) (upd w j v)).2 c = if wh (nI c) = 0 then p1 else 0) ∧ ∀ c, j + 1 ≤ c → (m_turnL wh p1 n (x + (-1)) (upd w j v)).2 c = w c) ∨
          ∃ m, m < j + 1 ∧ (m_turnL wh p1 n (x + (-1)) (upd w j v)).1 = nI m ∧ ¬ wh (nI m) = 0 ∧ ¬ w m = p1 ∧ (∀ c, c ≤ m → (m_turnL wh p1 n (x + (-1)) (upd w j v)).2 c = w c) ∧ (∀ c, m < c → c < j + 1 → (m_turnL wh p1 n (x + (-1)) (upd w j v)).2 c = if wh (nI c) = 0 then p1 else 0) ∧ ∀ c, j + 1 ≤ c → (m_turnL wh p1 n (x + (-1)) (upd w j v)).2 c = w c := by
        intro v hv
        rcases ih j (x + (-1)) (upd w j v) (by omega) (by omega) ed with ⟨a1, a3, a2⟩ | ⟨m, b1, b2, b3, b4, b5, b6, b7⟩
        · refine Or.inl ⟨a1, fun c hc => ?_, fun c hc => by rw [a2 c (by omega), pk_un (by omega)]⟩
          by_cases hcj : c = j
          · subst hcj; rw [a2 c (Nat.le_refl _), pk_us, hv]
          · exact a3 c (by omega)
        · refine Or.inr ⟨m, by omega, b2, b3, by rw [pk_un (by omega)] at b4; exact b4, fun c hc => by rw [b5 c hc, pk_un (by omega)], fun c hc1 hc2 => ?_, fun c hc => by rw [b7 c (by omega), pk_un (by omega)]⟩
          by_cases hcj : c = j
          · subst hcj; rw [b7 c (Nat.le_refl _), pk_us, hv]
          · exact b6 c hc1 (by omega)
      by_cases h1 : wh x = 0
      · rw [if_pos h1]; exact step p1 (by rw [ex] at h1; rw [if_pos h1])
      · rw [if_neg h1]
        by_cases h2 : w j = p1
        · rw [if_pos h2]; exact step 0 (by rw [ex] at h1; rw [if_neg h1])
        · rw [if_neg h2]
          refine Or.inr ⟨j, by omega, ex, by rw [← ex]; exact h1, h2, fun _ _ => rfl, fun c h3 h4 => absurd h3 (by omega), fun _ _ => rfl⟩
theorem m_turn_all {wh : Int32 → Int32} {u0 p1 : Int32} {w : Nat → Int32} (hc0 : ¬ u0 < 0) (hc : u0 ≤ 8) (hOK : m_wayOK wh u0.toNatClampNeg p1 w) (h : ¬ (m_mturn wh u0 p1 w).1 = 0) : m_wayOK wh u0.toNatClampNeg p1 (m_mturn wh u0 p1 w).2 ∧ vl p1.toNatClampNeg w u0.toNatClampNeg < vl p1.toNatClampNeg (m_mturn wh u0 p1 w).2 u0.toNatClampNeg := by
  obtain ⟨nc, hnc, rfl⟩ := nI_of hc0
  have hn8 := (nI_leI hnc (by decide)).mp (show nI nc ≤ nI 8 from hc)
  rw [nI_clamp hnc] at hOK ⊢
  have e0 : (nI nc - 1).toInt = (nc : Int) - 1 := by
    rw [Int32.toInt_sub, nI_toInt hnc, show (1 : Int32).toInt = 1 from rfl]
    apply Int.bmod_eq_of_le <;> omega
  have hp := m_turnL_p wh p1 (((nI nc - 1).toInt + 1).toNat + 1) nc (nI nc - 1) w hn8 (by rw [e0]; omega) e0
  unfold m_mturn at h ⊢
  generalize m_turnL wh p1 (((nI nc - 1).toInt + 1).toNat + 1) (nI nc - 1) w = T at hp h ⊢
  obtain ⟨x, w1⟩ := T
  dsimp only at hp h ⊢
  by_cases hx : x < 0
  · rw [if_pos hx] at h; exact absurd rfl h
  · rw [if_neg hx]
    rcases hp with ⟨q, -⟩ | ⟨m, b1, b2, b3, b4, b5, b6, -⟩
    · exact absurd q hx
    · dsimp only
      subst b2
      rw [nI_clamp (by omega)]
      have hm := hOK m b1
      have h1 : (w m).toInt < p1.toInt := by
        have a1 := hm.2.1
        rw [Int32.le_iff_toInt_le] at a1
        have a2 : (w m).toInt ≠ p1.toInt := fun q => b4 (Int32.toInt_inj.mp q)
        omega
      have ei : (w m + 1).toInt = (w m).toInt + 1 := md_inc h1
      have h0 := hm.1
      rw [Int32.lt_iff_toInt_lt, Int32.toInt_zero] at h0
      have em : w1 m = w m := b5 m (Nat.le_refl _)
      rw [em]
      have hp1 : ¬ p1 < 0 := by rw [Int32.lt_iff_toInt_lt, Int32.toInt_zero]; omega
      have hOK2 : m_wayOK wh nc p1 (upd w1 m (w m + 1)) := by
        intro c hcn
        by_cases hcm : c = m
        · subst hcm
          rw [pk_us]
          refine ⟨?_, ?_, fun q => absurd q b3⟩
          · rw [Int32.lt_iff_toInt_lt, ei, Int32.toInt_zero]; omega
          · rw [Int32.le_iff_toInt_le, ei]; omega
        · rw [pk_un hcm]
          rcases Nat.lt_or_ge c m with q | q
          · rw [b5 c (by omega)]; exact hOK c hcn
          · rw [b6 c (by omega) hcn]
            by_cases hw : wh (nI c) = 0
            · rw [if_pos hw]; exact ⟨hp1, Int32.le_refl _, fun _ => rfl⟩
            · rw [if_neg hw]; exact ⟨by decide, Int32.not_lt.mp hp1, fun z => absurd z hw⟩
      refine ⟨hOK2, ?_⟩
      obtain ⟨r, rfl⟩ : ∃ r, nc = (m + 1) + r := ⟨nc - (m + 1), by omega⟩
      have l1 := vl_lt (P := p1.toNatClampNeg) (w := w) (m := m + 1) (r := r) (fun c hcn => m_clle (hOK c hcn).1 (hOK c hcn).2.1)
      have l2 := vl_ge (P := p1.toNatClampNeg) (w := upd w1 m (w m + 1)) (m := m + 1) (r := r)
      have l3 : vl p1.toNatClampNeg (upd w1 m (w m + 1)) (m + 1) = vl p1.toNatClampNeg w (m + 1) + 1 := by
        rw [vl, vl, pk_us, vl_congr (w' := w) (fun c hcm => by rw [pk_un (by omega), b5 c (by omega)])]
        have : (w m + 1).toNatClampNeg = (w m).toNatClampNeg + 1 := by unfold Int32.toNatClampNeg; omega
        omega
      rw [l3] at l2
      omega
theorem m_mu_pos {wh : Int32 → Int32} {u0 p1 : Int32} {w : Nat → Int32} (hOK : m_wayOK wh u0.toNatClampNeg p1 w) : vl p1.toNatClampNeg w u0.toNatClampNeg < (p1.toNatClampNeg + 1) ^ u0.toNatClampNeg := by
  have := vl_lt (P := p1.toNatClampNeg) (w := w) (m := 0) (r := u0.toNatClampNeg) (fun c hcn => by rw [Nat.zero_add] at hcn; exact m_clle (hOK c hcn).1 (hOK c hcn).2.1)
  rw [Nat.zero_add, vl, Nat.zero_add, Nat.one_mul] at this
  exact this
theorem m_mm_up {wh : Int32 → Int32} {u0 p1 mr : Int32} {w : Nat → Int32} {n : Nat} (hc0 : ¬ u0 < 0) (hc : u0 ≤ 8) (hOK : m_wayOK wh u0.toNatClampNeg p1 w) (hn : m_mm mr u0 p1 w < n + 1) (hmr : ¬ mr = 0) : m_mm (m_mturn wh u0 p1 w).1 u0 p1 (m_mturn wh u0 p1 w).2 < n := by
  unfold m_mm m_mu at hn ⊢
  rw [if_neg hmr] at hn
  have h1 := m_mu_pos hOK
  by_cases h : (m_mturn wh u0 p1 w).1 = 0
  · rw [if_pos h]; omega
  · rw [if_neg h]
    obtain ⟨a, b⟩ := m_turn_all hc0 hc hOK h
    have h2 := m_mu_pos a
    omega
theorem m_mturn_ok {wh : Int32 → Int32} {u0 p1 : Int32} {w : Nat → Int32} (hc0 : ¬ u0 < 0) (hc : u0 ≤ 8) (hOK : m_wayOK wh u0.toNatClampNeg p1 w) : m_wayOK wh u0.toNatClampNeg p1 (m_mturn wh u0 p1 w).2 := by
  by_cases h : (m_mturn wh u0 p1 w).1 = 0
  · obtain ⟨nc, hnc, rfl⟩ := nI_of hc0
    have hn8 := (nI_leI hnc (by decide)).mp (show nI nc ≤ nI 8 from hc)
    rw [nI_clamp hnc] at hOK ⊢
    have e0 : (nI nc - 1).toInt = (nc : Int) - 1 := by
      rw [Int32.toInt_sub, nI_toInt hnc, show (1 : Int32).toInt = 1 from rfl]
      apply Int.bmod_eq_of_le <;> omega
    have hp := m_turnL_p wh p1 (((nI nc - 1).toInt + 1).toNat + 1) nc (nI nc - 1) w hn8 (by rw [e0]; omega) e0
    unfold m_mturn at h ⊢
    generalize m_turnL wh p1 (((nI nc - 1).toInt + 1).toNat + 1) (nI nc - 1) w = T at hp h ⊢
    obtain ⟨x, w1⟩ := T
    dsimp only at hp h ⊢
    by_cases hx : x < 0
    · rw [if_pos hx]
      rcases hp with ⟨-, q, -⟩ | ⟨m, b1, b2, -⟩
      · intro c hcn
        have hw := hOK c hcn
        have hp1 : ¬ p1 < 0 := by
          have a1 := hw.1
          have a2 := hw.2.1
          rw [Int32.lt_iff_toInt_lt, Int32.toInt_zero] at a1 ⊢
          rw [Int32.le_iff_toInt_le] at a2
          omega
        show ¬ w1 c < 0 ∧ w1 c ≤ p1 ∧ (wh (nI c) = 0 → w1 c = p1)
        rw [q c hcn]
        by_cases hw : wh (nI c) = 0
        · rw [if_pos hw]; exact ⟨hp1, Int32.le_refl _, fun _ => rfl⟩
        · rw [if_neg hw]; exact ⟨by decide, Int32.not_lt.mp hp1, fun z => absurd z hw⟩
      · exact absurd hx (by rw [b2]; exact nI_pos (by omega))
    · rw [if_neg hx] at h; exact absurd h (show ¬ (1 : Int32) = 0 by decide)
  · exact (m_turn_all hc0 hc hOK h).1
theorem m_p1nn {p1 : Int32} (h : ¬ m_in p1.toInt64 1 4 = 0) : ¬ p1 < 0 := by
  intro q
  apply h
  unfold m_in
  rw [if_pos]
  rw [Int64.lt_iff_toInt_lt, Int32.toInt_toInt64, show (1 : Int64).toInt = 1 from rfl]
  rw [Int32.lt_iff_toInt_lt, Int32.toInt_zero] at q
  omega
def m_pinit (wh : Int32 → Int32) (u0 p1 : Int32) : Nat → Nat → Int32 → (Nat → Int32) → Int32 × (Nat → Int32)
  | 0, _, wc, w => (wc, w)
  | n + 1, i, wc, w => if u0 ≤ nI i then (wc, w) else m_pinit wh u0 p1 n (i + 1) (wc + (if wh (nI i) = 0 then 0 else 1)) (upd w (nI i).toNatClampNeg (if wh (nI i) = 0 then p1 else 0))
theorem m_pinit_p {wh : Int32 → Int32} {nc : Nat} {p1 : Int32} (hnc : nc ≤ 8) (hp : ¬ p1 < 0) : ∀ (n i : Nat) (wc : Int32) (w : Nat → Int32), i ≤ nc → nc < i + n → m_wayOK wh i p1 w → m_wayOK wh nc p1 (m_pinit wh (nI nc) p1 n i wc w).2 := by
  intro n
  induction n with
  | zero => intro i wc w h1 h2; exact absurd h2 (by omega)
  | succ n ih =>
    intro i wc w h1 h2 hok
    rw [m_pinit]
    by_cases h : nI nc ≤ nI i
    · rw [if_pos h]
      have := (nI_leI (by omega) (by omega)).mp h
      rw [show nc = i by omega]; exact hok
    · rw [if_neg h]
      have hlt : i < nc := ix_nge h (by omega) (by omega)
      refine ih (i + 1) _ _ hlt (by omega) ?_
      rw [nI_clamp (by omega)]
      intro c hc
      by_cases hci : c = i
      · subst hci
        rw [pk_us]
        by_cases hw : wh (nI c) = 0
        · rw [if_pos hw]; exact ⟨hp, Int32.le_refl _, fun _ => rfl⟩
        · rw [if_neg hw]; exact ⟨by decide, Int32.not_lt.mp hp, fun z => absurd z hw⟩
      · rw [pk_un hci]; exact hok c (by omega)
theorem m_pinit_ok {wh : Int32 → Int32} {u0 p1 wc : Int32} {c23 w : Nat → Int32} (hc0 : ¬ u0 < 0) (hc : u0 ≤ 8) (hp : ¬ p1 < 0) (hz : m_pinit wh u0 p1 (u0.toNatClampNeg + 1) 0 0 c23 = (wc, w)) : m_wayOK wh u0.toNatClampNeg p1 w := by
  obtain ⟨nc, hnc, rfl⟩ := nI_of hc0
  have hn8 := (nI_leI hnc (by decide)).mp (show nI nc ≤ nI 8 from hc)
  have := m_pinit_p (wh := wh) hn8 hp (nc + 1) 0 0 c23 (Nat.zero_le _) (by omega) (fun c q => absurd q (Nat.not_lt_zero _))
  rw [nI_clamp hnc] at hz ⊢
  rw [hz] at this
  exact this
def m_packsW (w : Nat → Int32) (u0 p1 : Int32) : Nat → Nat → (Nat → Int32) → Nat → Int32
  | 0, _, pk => pk
  | n + 1, c, pk => if 8 ≤ nI c then pk else m_packsW w u0 p1 n (c + 1) (upd pk (nI c).toNatClampNeg (if u0 ≤ nI c ∨ p1 ≤ w (nI c).toNatClampNeg then (-1) else w (nI c).toNatClampNeg))
def m_own (u0 : Int32) (c4 c5 c6 : Nat → Int32) (p0 p1 : Int32) (w : Nat → Int32) : Int64 := if m_mayBe w u0 p0 p1 = 0 then (-1) else m_spr u0 c4 c5 c6 w p0 p1 (p1.toNatClampNeg + 1) 0 0 (-1)
def m_ploop (wh : Int32 → Int32) (u0 : Int32) (c4 c5 c6 : Nat → Int32) (p0 p1 : Int32) : Nat → Int64 → Int32 → (Nat → Int32) → (Nat → Int32) → Int64 × (Nat → Int32) × (Nat → Int32)
  | 0, b, _, w, pk => (b, w, pk)
  | n + 1, b, mr, w, pk => if mr = 0 then (b, w, pk)
      else if m_own u0 c4 c5 c6 p0 p1 w < 0 ∨ (¬ b < 0 ∧ b ≤ m_own u0 c4 c5 c6 p0 p1 w) then m_ploop wh u0 c4 c5 c6 p0 p1 n b (m_mturn wh u0 p1 w).1 (m_mturn wh u0 p1 w).2 pk
      else m_ploop wh u0 c4 c5 c6 p0 p1 n (m_own u0 c4 c5 c6 p0 p1 w) (m_mturn wh u0 p1 w).1 (m_mturn wh u0 p1 w).2 (m_packsW w u0 p1 9 0 pk)
def m_mpack (wh : Int32 → Int32) (u0 : Int32) (c4 c5 c6 c22 c23 : Nat → Int32) (p0 p1 : Int32) : Int64 × (Nat → Int32) × (Nat → Int32) :=
  if m_in p0.toInt64 1 4 = 0 ∨ m_in p1.toInt64 1 4 = 0 then (-1, c22, c23)
  else match m_pinit wh u0 p1 (u0.toNatClampNeg + 1) 0 0 c23 with
    | (wc, w) => if p0 * p1 ≤ wc then (match m_ploop wh u0 c4 c5 c6 p0 p1 (m_mu u0 p1 w + 1) (-1) 1 w c22 with | (b, w', pk) => (b, pk, w')) else (-1, c22, w)
set_option maxHeartbeats 4000000 in
set_option maxRecDepth 100000 in
theorem c_Md_pack (l : Launch) (D : va_G)  (h0 : Nat) (u0 : Int32) (a1 : Nat) (u2 : Int32) (u3 : Int32) (a4 : Nat) (a5 : Nat) (a6 : Nat) (a7 : Nat) (a8 : Nat) (a9 : Nat) (a10 : Nat) (a11 : Nat) (u12 : Int32) (u13 : Int32) (a14 : Nat) (a15 : Nat) (a16 : Nat) (u17 : Int32) (a18 : Nat) (a19 : Nat) (a20 : Nat) (u21 : Int32) (a22 : Nat) (a23 : Nat) (u24 : Int32) (a25 : Nat) (a26 : Nat) (u27 : Int32) (u28 : Int32) (u29 : Int32) (u30 : Int32) (k4 : ClassId) (k5 : ClassId) (k6 : ClassId) (k7 : ClassId) (k8 : ClassId) (k10 : ClassId) (k22 : ClassId) (k23 : ClassId) (c4 : Nat → Int32) (c5 : Nat → Int32) (c6 : Nat → Int32) (c7 : Nat → Int32) (c8 : Nat → Int32) (c10 : Nat → Int32) (c22 : Nat → Int32) (c23 : Nat → Int32) (p0 : Int32) (p1 : Int32) (sz : Nat) (hc : u0 ≤ 8) (hst : ∀ i, i < 8 → ¬ c4 i < 0 ∧ c4 i ≤ 30) (hrc : ∀ i, i < 8 → ¬ c8 i < 0 ∧ c8 i ≤ 10) (hc0 : ¬ u0 < 0) : Met l y_Md_pack ws_Md_pack ({ frames := 4, cells := 0, slots := 0, locals := 87 }) (va_Pc [.ref h0, .int p0, .int p1] (cx_pre D [(k4, .int), (k5, .int), (k6, .int), (k7, .int), (k8, .int), (k10, .int), (k22, .int), (k23, .int)] ([(h0, .inr (6, [.int u0, .ref a1, .int u2, .int u3, .ref a4, .ref a5, .ref a6, .ref a7, .ref a8, .ref a9, .ref a10, .ref a11, .int u12, .int u13, .ref a14, .ref a15, .ref a16, .int u17, .ref a18, .ref a19, .ref a20, .int u21, .ref a22, .ref a23, .int u24, .ref a25, .ref a26, .int u27, .int u28, .int u29, .int u30])), (a4, .inl (k4, 8, .inl c4)), (a5, .inl (k5, 240, .inl c5)), (a6, .inl (k6, 240, .inl c6)), (a7, .inl (k7, 240, .inl c7)), (a8, .inl (k8, 8, .inl c8)), (a10, .inl (k10, 80, .inl c10)), (a22, .inl (k22, 8, .inl c22)), (a23, .inl (k23, 8, .inl c23))]) sz)) (va_Ql (fun r9 _ => r9 = (m_mpack (m_mwhole u0 c4 c7 c8 c10) u0 c4 c5 c6 c22 c23 p0 p1).1) (fun (_ : Unit) t => cx_end D [(k4, .int), (k5, .int), (k6, .int), (k7, .int), (k8, .int), (k10, .int), (k22, .int), (k23, .int)] (va_A ([(h0, .inr (6, [.int u0, .ref a1, .int u2, .int u3, .ref a4, .ref a5, .ref a6, .ref a7, .ref a8, .ref a9, .ref a10, .ref a11, .int u12, .int u13, .ref a14, .ref a15, .ref a16, .int u17, .ref a18, .ref a19, .ref a20, .int u21, .ref a22, .ref a23, .int u24, .ref a25, .ref a26, .int u27, .int u28, .int u29, .int u30])), (a4, .inl (k4, 8, .inl c4)), (a5, .inl (k5, 240, .inl c5)), (a6, .inl (k6, 240, .inl c6)), (a7, .inl (k7, 240, .inl c7)), (a8, .inl (k8, 8, .inl c8)), (a10, .inl (k10, 80, .inl c10)), (a22, .inl (k22, 8, .inl c22)), (a23, .inl (k23, 8, .inl c23))]) sz) ([(h0, .inr (6, [.int u0, .ref a1, .int u2, .int u3, .ref a4, .ref a5, .ref a6, .ref a7, .ref a8, .ref a9, .ref a10, .ref a11, .int u12, .int u13, .ref a14, .ref a15, .ref a16, .int u17, .ref a18, .ref a19, .ref a20, .int u21, .ref a22, .ref a23, .int u24, .ref a25, .ref a26, .int u27, .int u28, .int u29, .int u30])), (a4, .inl (k4, 8, .inl c4)), (a5, .inl (k5, 240, .inl c5)), (a6, .inl (k6, 240, .inl c6)), (a7, .inl (k7, 240, .inl c7)), (a8, .inl (k8, 8, .inl c8)), (a10, .inl (k10, 80, .inl c10)), (a22, .inl (k22, 8, .inl ((m_mpack (m_mwhole u0 c4 c7 c8 c10) u0 c4 c5 c6 c22 c23 p0 p1).2.1))), (a23, .inl (k23, 8, .inl ((m_mpack (m_mwhole u0 c4 c7 c8 c10) u0 c4 c5 c6 c22 c23 p0 p1).2.2)))]) t) (va_A ([(h0, .inr (6, [.int u0, .ref a1, .int u2, .int u3, .ref a4, .ref a5, .ref a6, .ref a7, .ref a8, .ref a9, .ref a10, .ref a11, .int u12, .int u13, .ref a14, .ref a15, .ref a16, .int u17, .ref a18, .ref a19, .ref a20, .int u21, .ref a22, .ref a23, .int u24, .ref a25, .ref a26, .int u27, .int u28, .int u29, .int u30])), (a4, .inl (k4, 8, .inl c4)), (a5, .inl (k5, 240, .inl c5)), (a6, .inl (k6, 240, .inl c6)), (a7, .inl (k7, 240, .inl c7)), (a8, .inl (k8, 8, .inl c8)), (a10, .inl (k10, 80, .inl c10)), (a22, .inl (k22, 8, .inl c22)), (a23, .inl (k23, 8, .inl c23))]) sz)) 0 0 (va_A ([(h0, .inr (6, [.int u0, .ref a1, .int u2, .int u3, .ref a4, .ref a5, .ref a6, .ref a7, .ref a8, .ref a9, .ref a10, .ref a11, .int u12, .int u13, .ref a14, .ref a15, .ref a16, .int u17, .ref a18, .ref a19, .ref a20, .int u21, .ref a22, .ref a23, .int u24, .ref a25, .ref a26, .int u27, .int u28, .int u29, .int u30])), (a4, .inl (k4, 8, .inl c4)), (a5, .inl (k5, 240, .inl c5)), (a6, .inl (k6, 240, .inl c6)), (a7, .inl (k7, 240, .inl c7)), (a8, .inl (k8, 8, .inl c8)), (a10, .inl (k10, 80, .inl c10)), (a22, .inl (k22, 8, .inl c22)), (a23, .inl (k23, 8, .inl c23))]) sz) := by
  refine Met.ofW (cc := b_Md_pack) (maxL := 10) (ret := (some .long)) (by decide) rfl ?_
  intro p e s m args below meth c s₁ B hml hv
  obtain ⟨rfl, hsz, hP, hK, hD0, hN, hO⟩ := hv
  have hx := B.exec
  have hb := B.bytes
  have hr := B.returns
  have hts := fun (w : Cond) (h : w ∈ cx_tbl) => atoms_spec (ws := ws_Md_pack) B.pre w (List.mem_cons_of_mem _ h)
  have hown : s.vm.findClass R_Md = some m.cls := findClass_of_methodNamed B.named
  have hlocks := B.notSynchronized
  subst hsz
  have hD := hD0.self (sz := s.heap.size)
  generalize hAe : va_A ([(h0, .inr (6, [.int u0, .ref a1, .int u2, .int u3, .ref a4, .ref a5, .ref a6, .ref a7, .ref a8, .ref a9, .ref a10, .ref a11, .int u12, .int u13, .ref a14, .ref a15, .ref a16, .int u17, .ref a18, .ref a19, .ref a20, .int u21, .ref a22, .ref a23, .int u24, .ref a25, .ref a26, .int u27, .int u28, .int u29, .int u30])), (a4, .inl (k4, 8, .inl c4)), (a5, .inl (k5, 240, .inl c5)), (a6, .inl (k6, 240, .inl c6)), (a7, .inl (k7, 240, .inl c7)), (a8, .inl (k8, 8, .inl c8)), (a10, .inl (k10, 80, .inl c10)), (a22, .inl (k22, 8, .inl c22)), (a23, .inl (k23, 8, .inl c23))]) s.heap.size = A at hD hO ⊢
  have hA : ∀ q : Nat, s.heap.size ≤ q → A q := fun q h => by rw [← hAe]; exact Or.inr h
  have hS : va_S A s.heap s.heap [] := va_S.rf
  have hl := lv_entry ([.ref h0, .int p0, .int p1]) (n := 10) (Nat.le_of_ble_eq_true rfl)
  rw [lg_entry_eq]
  generalize (lg_sl ([.ref h0, .int p0, .int p1]) ++ List.replicate (10 - (lg_sl ([.ref h0, .int p0, .int p1])).length) Slot.unset).toArray = ls at hl ⊢
  have hl : lv_has ls 10 [(0, .ref h0), (1, .int p0), (2, .int p1)] := hl
  refine cx_q (fun Q hQ => ?_)
  refine lv_iload_n hx hb d_Md_pack_0 rfl (lv_at hl 1 rfl) ?_
  refine lv_i2l hx hb d_Md_pack_1 rfl ?_
  refine lv_lconst (v := 1) hx hb d_Md_pack_2 (by decide) ?_
  refine lv_ldc2 (v := 4) hx hb hown (hts _ cw_950) d_Md_pack_3 ?_
  have hPc := hP.sub (ws' := []) [] rfl
  have hDc := hD.sub (ws' := []) [] (by decide) rfl
  have hKc := hK.sub (tys' := []) [] rfl
  have hFc := va_free (wc := []) hD hS hA [] rfl
  refine vp_callSi (va_Run.run (va_runS (As := [.long p0.toInt64, .long 1, .long 4]) (rest := [])  ⟨hx, hb, hml, hown, hts⟩ (c_Md_isIn l D p0.toInt64 1 4 s.heap.size ) ⟨callB_of 3 hts cg_Md_isIn rfl rfl rfl (hts _ cw_10) (hts _ cw_837) (by decide +kernel) ⟨Nat.le_of_ble_eq_true rfl, Nat.le_of_ble_eq_true rfl⟩, hts _ cw_838⟩ (cx_preS [.long p0.toInt64, .long 1, .long 4] hPc hKc hDc hN hO hS hFc) rfl rfl hl.1 rfl (lv_room (Nat.le_of_ble_eq_true rfl)) d_Md_pack_6 ⟨Nat.le_of_ble_eq_true rfl, Nat.le_of_ble_eq_true rfl⟩)) (fun r z_1 => ?_)
  subst z_1
  refine lv_if_eq (tgt := 24) hx hb d_Md_pack_9 (by decide) (fun c_2 => ?_) (fun c_2 => ?_)
  · refine lv_ldc2 (v := (-1)) hx hb hown (hts _ cw_956) d_Md_pack_24 ?_
    subst hQ
    have hm : m_mpack (m_mwhole u0 c4 c7 c8 c10) u0 c4 c5 c6 c22 c23 p0 p1 = ((-1), c22, c23) := by simp [m_mpack, eq_true c_2]
    rw [hm]
    have hP9 := hP.sub (ws' := [(h0, .inr (6, [.int u0, .ref a1, .int u2, .int u3, .ref a4, .ref a5, .ref a6, .ref a7, .ref a8, .ref a9, .ref a10, .ref a11, .int u12, .int u13, .ref a14, .ref a15, .ref a16, .int u17, .ref a18, .ref a19, .ref a20, .int u21, .ref a22, .ref a23, .int u24, .ref a25, .ref a26, .int u27, .int u28, .int u29, .int u30])), (a4, .inl (k4, 8, .inl c4)), (a5, .inl (k5, 240, .inl c5)), (a6, .inl (k6, 240, .inl c6)), (a7, .inl (k7, 240, .inl c7)), (a8, .inl (k8, 8, .inl c8)), (a10, .inl (k10, 80, .inl c10)), (a22, .inl (k22, 8, .inl c22)), (a23, .inl (k23, 8, .inl c23))]) [0, 1, 2, 3, 4, 5, 6, 7, 8] rfl
    have hD9 := hD.sub (ws' := [(h0, .inr (6, [.int u0, .ref a1, .int u2, .int u3, .ref a4, .ref a5, .ref a6, .ref a7, .ref a8, .ref a9, .ref a10, .ref a11, .int u12, .int u13, .ref a14, .ref a15, .ref a16, .int u17, .ref a18, .ref a19, .ref a20, .int u21, .ref a22, .ref a23, .int u24, .ref a25, .ref a26, .int u27, .int u28, .int u29, .int u30])), (a4, .inl (k4, 8, .inl c4)), (a5, .inl (k5, 240, .inl c5)), (a6, .inl (k6, 240, .inl c6)), (a7, .inl (k7, 240, .inl c7)), (a8, .inl (k8, 8, .inl c8)), (a10, .inl (k10, 80, .inl c10)), (a22, .inl (k22, 8, .inl c22)), (a23, .inl (k23, 8, .inl c23))]) [0, 1, 2, 3, 4, 5, 6, 7, 8] (by decide) rfl
    have hK9 := hK.sub (tys' := [(k4, .int), (k5, .int), (k6, .int), (k7, .int), (k8, .int), (k10, .int), (k22, .int), (k23, .int)]) [0, 1, 2, 3, 4, 5, 6, 7] rfl
    exact W.lret (v := (-1)) hx hb hr (fun t ht hW => ⟨⟨_, (), rfl, rfl, by rw [ht]; exact hP9, va_K.moved hW.alike hK9, hD9⟩, hS.F ht⟩) hS.2.2 d_Md_pack_27
  · refine lv_iload_n hx hb d_Md_pack_12 rfl (lv_at hl 2 rfl) ?_
    refine lv_i2l hx hb d_Md_pack_13 rfl ?_
    refine lv_lconst (v := 1) hx hb d_Md_pack_14 (by decide) ?_
    refine lv_ldc2 (v := 4) hx hb hown (hts _ cw_950) d_Md_pack_15 ?_
    have hPc := hP.sub (ws' := []) [] rfl
    have hDc := hD.sub (ws' := []) [] (by decide) rfl
    have hKc := hK.sub (tys' := []) [] rfl
    have hFc := va_free (wc := []) hD hS hA [] rfl
    refine vp_callSi (va_Run.run (va_runS (As := [.long p1.toInt64, .long 1, .long 4]) (rest := [])  ⟨hx, hb, hml, hown, hts⟩ (c_Md_isIn l D p1.toInt64 1 4 s.heap.size ) ⟨callB_of 3 hts cg_Md_isIn rfl rfl rfl (hts _ cw_10) (hts _ cw_837) (by decide +kernel) ⟨Nat.le_of_ble_eq_true rfl, Nat.le_of_ble_eq_true rfl⟩, hts _ cw_838⟩ (cx_preS [.long p1.toInt64, .long 1, .long 4] hPc hKc hDc hN hO hS hFc) rfl rfl hl.1 rfl (lv_room (Nat.le_of_ble_eq_true rfl)) d_Md_pack_18 ⟨Nat.le_of_ble_eq_true rfl, Nat.le_of_ble_eq_true rfl⟩)) (fun r z_3 => ?_)
    subst z_3
    refine lv_if_ne (tgt := 28) hx hb d_Md_pack_21 (by decide) (fun c_4 => ?_) (fun c_4 => ?_)
    · refine lv_iconst (v := 0) hx hb d_Md_pack_28 (by decide) ?_
      refine lv_istore_n (lv' := [(3, .int 0), (0, .ref h0), (1, .int p0), (2, .int p1)]) hx hb d_Md_pack_29 rfl hl (by decide) rfl (fun ls hl => ?_)
      refine lv_iconst (v := 0) hx hb d_Md_pack_30 (by decide) ?_
      refine lv_istore (lv' := [(4, .int 0), (3, .int 0), (0, .ref h0), (1, .int p0), (2, .int p1)]) hx hb d_Md_pack_31 hl (by decide) rfl (fun ls hl => ?_)
      have loop_5 : ∀ (n : Nat) (i : Nat) (wc : Int32) (yw : Nat → Int32) (hi : i ≤ u0.toNatClampNeg) (hn : i + n = u0.toNatClampNeg + 1) (hg : m_pinit (m_mwhole u0 c4 c7 c8 c10) u0 p1 (u0.toNatClampNeg + 1) 0 0 c23 = m_pinit (m_mwhole u0 c4 c7 c8 c10) u0 p1 n i wc yw) (H : Heap) (locs : List Loc) (hP : va_P D classes ([(h0, .inr (6, [.int u0, .ref a1, .int u2, .int u3, .ref a4, .ref a5, .ref a6, .ref a7, .ref a8, .ref a9, .ref a10, .ref a11, .int u12, .int u13, .ref a14, .ref a15, .ref a16, .int u17, .ref a18, .ref a19, .ref a20, .int u21, .ref a22, .ref a23, .int u24, .ref a25, .ref a26, .int u27, .int u28, .int u29, .int u30])), (a4, .inl (k4, 8, .inl c4)), (a5, .inl (k5, 240, .inl c5)), (a6, .inl (k6, 240, .inl c6)), (a7, .inl (k7, 240, .inl c7)), (a8, .inl (k8, 8, .inl c8)), (a10, .inl (k10, 80, .inl c10)), (a22, .inl (k22, 8, .inl c22)), (a23, .inl (k23, 8, .inl yw))]) H) (hD : va_D A ([(h0, .inr (6, [.int u0, .ref a1, .int u2, .int u3, .ref a4, .ref a5, .ref a6, .ref a7, .ref a8, .ref a9, .ref a10, .ref a11, .int u12, .int u13, .ref a14, .ref a15, .ref a16, .int u17, .ref a18, .ref a19, .ref a20, .int u21, .ref a22, .ref a23, .int u24, .ref a25, .ref a26, .int u27, .int u28, .int u29, .int u30])), (a4, .inl (k4, 8, .inl c4)), (a5, .inl (k5, 240, .inl c5)), (a6, .inl (k6, 240, .inl c6)), (a7, .inl (k7, 240, .inl c7)), (a8, .inl (k8, 8, .inl c8)), (a10, .inl (k10, 80, .inl c10)), (a22, .inl (k22, 8, .inl c22)), (a23, .inl (k23, 8, .inl yw))])) (hS : va_S A s.heap H locs) (ls : Array Slot) (hl : lv_has ls 10 [(0, .ref h0), (1, .int p0), (2, .int p1), (3, .int wc), (4, .int (nI i))]), W p l e ({ frames := 4, cells := 0, slots := 0, locals := 87 }) s m [.ref h0, .int p0, .int p1].toArray below meth c H locs 0 0 Q (F0 m 33 ls []) := by
        intro n
        induction n with
        | zero =>
          intro i wc yw hi hn hg H locs hP hD hS ls hl
          exact absurd hn (by omega)
        | succ n ih_33 =>
          intro i wc yw hi hn hg H locs hP hD hS ls hl
          refine lv_iload hx hb d_Md_pack_33 (lv_at hl 4 rfl) ?_
          refine lv_aload_n hx hb d_Md_pack_35 rfl (lv_at hl 0 rfl) ?_
          refine va_get (D := D) (ci := 6) (v := .int u0) (C := R_Md) (T := T_Md) (N := 31) hx hb hts in_Md hown hK hP 0 rfl rfl 0 (by decide) (hts _ cw_734) (fun _ h9 => h9) rfl d_Md_pack_36 ?_
          refine lv_icmp_ge (tgt := 86) hx hb d_Md_pack_39 (by decide) (fun c_6 => ?_) (fun c_6 => ?_)
          · have hz0 : m_pinit (m_mwhole u0 c4 c7 c8 c10) u0 p1 (u0.toNatClampNeg + 1) 0 0 c23 = (wc, yw) := hg.trans (by rw [m_pinit, if_pos c_6])
            refine lv_iload_n hx hb d_Md_pack_86 rfl (lv_at hl 3 rfl) ?_
            refine lv_iload_n hx hb d_Md_pack_87 rfl (lv_at hl 1 rfl) ?_
            refine lv_iload_n hx hb d_Md_pack_88 rfl (lv_at hl 2 rfl) ?_
            refine lv_imul hx hb d_Md_pack_89 ?_
            refine lv_icmp_ge (tgt := 97) hx hb d_Md_pack_90 (by decide) (fun c_7 => ?_) (fun c_7 => ?_)
            · refine lv_ldc2 (v := (-1)) hx hb hown (hts _ cw_956) d_Md_pack_97 ?_
              refine lv_lstore (lv' := [(4, .long (-1)), (0, .ref h0), (1, .int p0), (2, .int p1), (3, .int wc)]) hx hb d_Md_pack_100 hl (by decide) rfl (fun ls hl => ?_)
              refine lv_iconst (v := 1) hx hb d_Md_pack_102 (by decide) ?_
              refine lv_istore (lv' := [(6, .int 1), (4, .long (-1)), (0, .ref h0), (1, .int p0), (2, .int p1), (3, .int wc)]) hx hb d_Md_pack_103 hl (by decide) rfl (fun ls hl => ?_)
              have loop_8 : ∀ (n : Nat) (bs : Int64) (mr : Int32) (yv : Nat → Int32) (yp : Nat → Int32) (hn2 : m_mm mr u0 p1 yv < n) (hg2 : m_ploop (m_mwhole u0 c4 c7 c8 c10) u0 c4 c5 c6 p0 p1 (m_mu u0 p1 yw + 1) (-1) 1 yw c22 = m_ploop (m_mwhole u0 c4 c7 c8 c10) u0 c4 c5 c6 p0 p1 n bs mr yv yp) (hOK : m_wayOK (m_mwhole u0 c4 c7 c8 c10) u0.toNatClampNeg p1 yv) (H : Heap) (locs : List Loc) (hP : va_P D classes ([(h0, .inr (6, [.int u0, .ref a1, .int u2, .int u3, .ref a4, .ref a5, .ref a6, .ref a7, .ref a8, .ref a9, .ref a10, .ref a11, .int u12, .int u13, .ref a14, .ref a15, .ref a16, .int u17, .ref a18, .ref a19, .ref a20, .int u21, .ref a22, .ref a23, .int u24, .ref a25, .ref a26, .int u27, .int u28, .int u29, .int u30])), (a4, .inl (k4, 8, .inl c4)), (a5, .inl (k5, 240, .inl c5)), (a6, .inl (k6, 240, .inl c6)), (a7, .inl (k7, 240, .inl c7)), (a8, .inl (k8, 8, .inl c8)), (a10, .inl (k10, 80, .inl c10)), (a22, .inl (k22, 8, .inl yp)), (a23, .inl (k23, 8, .inl yv))]) H) (hD : va_D A ([(h0, .inr (6, [.int u0, .ref a1, .int u2, .int u3, .ref a4, .ref a5, .ref a6, .ref a7, .ref a8, .ref a9, .ref a10, .ref a11, .int u12, .int u13, .ref a14, .ref a15, .ref a16, .int u17, .ref a18, .ref a19, .ref a20, .int u21, .ref a22, .ref a23, .int u24, .ref a25, .ref a26, .int u27, .int u28, .int u29, .int u30])), (a4, .inl (k4, 8, .inl c4)), (a5, .inl (k5, 240, .inl c5)), (a6, .inl (k6, 240, .inl c6)), (a7, .inl (k7, 240, .inl c7)), (a8, .inl (k8, 8, .inl c8)), (a10, .inl (k10, 80, .inl c10)), (a22, .inl (k22, 8, .inl yp)), (a23, .inl (k23, 8, .inl yv))])) (hS : va_S A s.heap H locs) (ls : Array Slot) (hl : lv_has ls 10 [(0, .ref h0), (1, .int p0), (2, .int p1), (4, .long bs), (6, .int mr)]), W p l e ({ frames := 4, cells := 0, slots := 0, locals := 87 }) s m [.ref h0, .int p0, .int p1].toArray below meth c H locs 0 0 Q (F0 m 105 ls []) := by
                intro n
                induction n with
                | zero =>
                  intro bs mr yv yp hn2 hg2 hOK H locs hP hD hS ls hl
                  exact absurd hn2 (Nat.not_lt_zero _)
                | succ n ih_105 =>
                  intro bs mr yv yp hn2 hg2 hOK H locs hP hD hS ls hl
                  refine lv_iload hx hb d_Md_pack_105 (lv_at hl 4 rfl) ?_
                  refine lv_if_eq (tgt := 223) hx hb d_Md_pack_107 (by decide) (fun c_9 => ?_) (fun c_9 => ?_)
                  · refine lv_lload hx hb d_Md_pack_223 (lv_at hl 3 rfl) ?_
                    subst hQ
                    have hz2 : m_ploop (m_mwhole u0 c4 c7 c8 c10) u0 c4 c5 c6 p0 p1 (m_mu u0 p1 yw + 1) (-1) 1 yw c22 = (bs, yv, yp) := hg2.trans (by rw [m_ploop, if_pos c_9])
                    have hm : m_mpack (m_mwhole u0 c4 c7 c8 c10) u0 c4 c5 c6 c22 c23 p0 p1 = (bs, yp, yv) := by unfold m_mpack; rw [hz0]; simp [hz2, eq_false c_2, eq_false c_4, eq_true c_6, eq_true c_7, eq_true c_9]
                    rw [hm]
                    have hP9 := hP.sub (ws' := [(h0, .inr (6, [.int u0, .ref a1, .int u2, .int u3, .ref a4, .ref a5, .ref a6, .ref a7, .ref a8, .ref a9, .ref a10, .ref a11, .int u12, .int u13, .ref a14, .ref a15, .ref a16, .int u17, .ref a18, .ref a19, .ref a20, .int u21, .ref a22, .ref a23, .int u24, .ref a25, .ref a26, .int u27, .int u28, .int u29, .int u30])), (a4, .inl (k4, 8, .inl c4)), (a5, .inl (k5, 240, .inl c5)), (a6, .inl (k6, 240, .inl c6)), (a7, .inl (k7, 240, .inl c7)), (a8, .inl (k8, 8, .inl c8)), (a10, .inl (k10, 80, .inl c10)), (a22, .inl (k22, 8, .inl yp)), (a23, .inl (k23, 8, .inl yv))]) [0, 1, 2, 3, 4, 5, 6, 7, 8] rfl
                    have hD9 := hD.sub (ws' := [(h0, .inr (6, [.int u0, .ref a1, .int u2, .int u3, .ref a4, .ref a5, .ref a6, .ref a7, .ref a8, .ref a9, .ref a10, .ref a11, .int u12, .int u13, .ref a14, .ref a15, .ref a16, .int u17, .ref a18, .ref a19, .ref a20, .int u21, .ref a22, .ref a23, .int u24, .ref a25, .ref a26, .int u27, .int u28, .int u29, .int u30])), (a4, .inl (k4, 8, .inl c4)), (a5, .inl (k5, 240, .inl c5)), (a6, .inl (k6, 240, .inl c6)), (a7, .inl (k7, 240, .inl c7)), (a8, .inl (k8, 8, .inl c8)), (a10, .inl (k10, 80, .inl c10)), (a22, .inl (k22, 8, .inl yp)), (a23, .inl (k23, 8, .inl yv))]) [0, 1, 2, 3, 4, 5, 6, 7, 8] (by decide) rfl
                    have hK9 := hK.sub (tys' := [(k4, .int), (k5, .int), (k6, .int), (k7, .int), (k8, .int), (k10, .int), (k22, .int), (k23, .int)]) [0, 1, 2, 3, 4, 5, 6, 7] rfl
                    exact W.lret (v := bs) hx hb hr (fun t ht hW => ⟨⟨_, (), rfl, rfl, by rw [ht]; exact hP9, va_K.moved hW.alike hK9, hD9⟩, hS.F ht⟩) hS.2.2 d_Md_pack_225
                  · refine lv_aload_n hx hb d_Md_pack_110 rfl (lv_at hl 0 rfl) ?_
                    refine lv_iload_n hx hb d_Md_pack_111 rfl (lv_at hl 1 rfl) ?_
                    refine lv_iload_n hx hb d_Md_pack_112 rfl (lv_at hl 2 rfl) ?_
                    have hPc := hP.sub (ws' := [(h0, .inr (6, [.int u0, .ref a1, .int u2, .int u3, .ref a4, .ref a5, .ref a6, .ref a7, .ref a8, .ref a9, .ref a10, .ref a11, .int u12, .int u13, .ref a14, .ref a15, .ref a16, .int u17, .ref a18, .ref a19, .ref a20, .int u21, .ref a22, .ref a23, .int u24, .ref a25, .ref a26, .int u27, .int u28, .int u29, .int u30])), (a23, .inl (k23, 8, .inl yv))]) [0, 8] rfl
                    have hDc := hD.sub (ws' := [(h0, .inr (6, [.int u0, .ref a1, .int u2, .int u3, .ref a4, .ref a5, .ref a6, .ref a7, .ref a8, .ref a9, .ref a10, .ref a11, .int u12, .int u13, .ref a14, .ref a15, .ref a16, .int u17, .ref a18, .ref a19, .ref a20, .int u21, .ref a22, .ref a23, .int u24, .ref a25, .ref a26, .int u27, .int u28, .int u29, .int u30])), (a23, .inl (k23, 8, .inl yv))]) [0, 8] (by decide) rfl
                    have hKc := hK.sub (tys' := [(k23, .int)]) [7] rfl
                    have hFc := va_free (wc := [(h0, .inr (6, [.int u0, .ref a1, .int u2, .int u3, .ref a4, .ref a5, .ref a6, .ref a7, .ref a8, .ref a9, .ref a10, .ref a11, .int u12, .int u13, .ref a14, .ref a15, .ref a16, .int u17, .ref a18, .ref a19, .ref a20, .int u21, .ref a22, .ref a23, .int u24, .ref a25, .ref a26, .int u27, .int u28, .int u29, .int u30])), (a23, .inl (k23, 8, .inl yv))]) hD hS hA [0, 8] rfl
                    refine vp_callSi (va_Run.run (va_runV (As := [.int p0, .int p1]) (rest := [])  ⟨hx, hb, hml, hown, hts⟩ (c_Md_mayBe l D h0 u0 a1 u2 u3 a4 a5 a6 a7 a8 a9 a10 a11 u12 u13 a14 a15 a16 u17 a18 a19 a20 u21 a22 a23 u24 a25 a26 u27 u28 u29 u30 k23 yv p0 p1 H.size (by assumption)) ⟨callB_of 2 hts cg_Md_mayBe rfl rfl rfl (hts _ cw_10) (hts _ cw_961) (by decide +kernel) ⟨Nat.le_of_ble_eq_true rfl, Nat.le_of_ble_eq_true rfl⟩, hts _ cw_963, hts _ cs_28⟩ (cx_preV (C := R_Md) [.int p0, .int p1] hPc hKc hDc hN hO hS hFc (ci := 6) (q0 := 0) rfl rfl rfl) rfl rfl hl.1 rfl (lv_room (Nat.le_of_ble_eq_true rfl)) d_Md_pack_113 ⟨Nat.le_of_ble_eq_true rfl, Nat.le_of_ble_eq_true rfl⟩)) (fun r z_10 => ?_)
                    subst z_10
                    refine lv_if_eq (tgt := 128) hx hb d_Md_pack_116 (by decide) (fun c_11 => ?_) (fun c_11 => ?_)
                    · refine lv_ldc2 (v := (-1)) hx hb hown (hts _ cw_956) d_Md_pack_128 ?_
                      refine lv_lstore (lv' := [(7, .long (-1)), (0, .ref h0), (1, .int p0), (2, .int p1), (4, .long bs), (6, .int mr)]) hx hb d_Md_pack_131 hl (by decide) rfl (fun ls hl => ?_)
                      refine lv_lload hx hb d_Md_pack_133 (lv_at hl 0 rfl) ?_
                      refine lv_lconst (v := 0) hx hb d_Md_pack_135 (by decide) ?_
                      refine W.lcmp hx hb d_Md_pack_136 ?_
                      refine lv_if_lt (tgt := 213) hx hb d_Md_pack_137 (by decide) (fun c_12 => ?_) (fun c_12 => ?_)
                      · have c_12 := (lg_cmp_lt (-1) 0).mp c_12
                        refine lv_aload_n hx hb d_Md_pack_213 rfl (lv_at hl 1 rfl) ?_
                        refine lv_iload_n hx hb d_Md_pack_214 rfl (lv_at hl 3 rfl) ?_
                        have hPc := hP.sub (ws' := [(h0, .inr (6, [.int u0, .ref a1, .int u2, .int u3, .ref a4, .ref a5, .ref a6, .ref a7, .ref a8, .ref a9, .ref a10, .ref a11, .int u12, .int u13, .ref a14, .ref a15, .ref a16, .int u17, .ref a18, .ref a19, .ref a20, .int u21, .ref a22, .ref a23, .int u24, .ref a25, .ref a26, .int u27, .int u28, .int u29, .int u30])), (a4, .inl (k4, 8, .inl c4)), (a7, .inl (k7, 240, .inl c7)), (a8, .inl (k8, 8, .inl c8)), (a10, .inl (k10, 80, .inl c10)), (a23, .inl (k23, 8, .inl yv))]) [0, 1, 4, 5, 6, 8] rfl
                        have hDc := hD.sub (ws' := [(h0, .inr (6, [.int u0, .ref a1, .int u2, .int u3, .ref a4, .ref a5, .ref a6, .ref a7, .ref a8, .ref a9, .ref a10, .ref a11, .int u12, .int u13, .ref a14, .ref a15, .ref a16, .int u17, .ref a18, .ref a19, .ref a20, .int u21, .ref a22, .ref a23, .int u24, .ref a25, .ref a26, .int u27, .int u28, .int u29, .int u30])), (a4, .inl (k4, 8, .inl c4)), (a7, .inl (k7, 240, .inl c7)), (a8, .inl (k8, 8, .inl c8)), (a10, .inl (k10, 80, .inl c10)), (a23, .inl (k23, 8, .inl yv))]) [0, 1, 4, 5, 6, 8] (by decide) rfl
                        have hKc := hK.sub (tys' := [(k4, .int), (k7, .int), (k8, .int), (k10, .int), (k23, .int)]) [0, 3, 4, 5, 7] rfl
                        have hFc := va_free (wc := [(h0, .inr (6, [.int u0, .ref a1, .int u2, .int u3, .ref a4, .ref a5, .ref a6, .ref a7, .ref a8, .ref a9, .ref a10, .ref a11, .int u12, .int u13, .ref a14, .ref a15, .ref a16, .int u17, .ref a18, .ref a19, .ref a20, .int u21, .ref a22, .ref a23, .int u24, .ref a25, .ref a26, .int u27, .int u28, .int u29, .int u30])), (a4, .inl (k4, 8, .inl c4)), (a7, .inl (k7, 240, .inl c7)), (a8, .inl (k8, 8, .inl c8)), (a10, .inl (k10, 80, .inl c10)), (a23, .inl (k23, 8, .inl yv))]) hD hS hA [0, 1, 4, 5, 6, 8] rfl
                        refine cx_joini (wc := [(h0, .inr (6, [.int u0, .ref a1, .int u2, .int u3, .ref a4, .ref a5, .ref a6, .ref a7, .ref a8, .ref a9, .ref a10, .ref a11, .int u12, .int u13, .ref a14, .ref a15, .ref a16, .int u17, .ref a18, .ref a19, .ref a20, .int u21, .ref a22, .ref a23, .int u24, .ref a25, .ref a26, .int u27, .int u28, .int u29, .int u30])), (a4, .inl (k4, 8, .inl c4)), (a7, .inl (k7, 240, .inl c7)), (a8, .inl (k8, 8, .inl c8)), (a10, .inl (k10, 80, .inl c10)), (a23, .inl (k23, 8, .inl yv))]) (wr := [(a5, .inl (k5, 240, .inl c5)), (a6, .inl (k6, 240, .inl c6)), (a22, .inl (k22, 8, .inl yp))]) hP hD hS hA [0, 1, 4, 5, 6, 8] [2, 3, 7] rfl rfl (by decide) (by decide) (va_runV (As := [.int p1]) (rest := [])  ⟨hx, hb, hml, hown, hts⟩ (c_Md_turn l D h0 u0 a1 u2 u3 a4 a5 a6 a7 a8 a9 a10 a11 u12 u13 a14 a15 a16 u17 a18 a19 a20 u21 a22 a23 u24 a25 a26 u27 u28 u29 u30 k4 k7 k8 k10 k23 c4 c7 c8 c10 yv p1 H.size (by assumption) (by assumption) (by assumption) (by assumption)) ⟨callB_of 1 hts cg_Md_turn rfl rfl rfl (hts _ cw_10) (hts _ cw_969) (by decide +kernel) ⟨Nat.le_of_ble_eq_true rfl, Nat.le_of_ble_eq_true rfl⟩, hts _ cw_971, hts _ cs_30⟩ (cx_preV (C := R_Md) [.int p1] hPc hKc hDc hN hO hS hFc (ci := 6) (q0 := 0) rfl rfl rfl) rfl rfl hl.1 rfl (lv_room (Nat.le_of_ble_eq_true rfl)) d_Md_pack_215 ⟨Nat.le_of_ble_eq_true rfl, Nat.le_of_ble_eq_true rfl⟩) (fun r _ H locs z_13 hK1 hP hD hS => ?_)
                        subst z_13
                        have hP : va_P D classes ([(a5, .inl (k5, 240, .inl c5)), (a6, .inl (k6, 240, .inl c6)), (a22, .inl (k22, 8, .inl yp)), (h0, .inr (6, [.int u0, .ref a1, .int u2, .int u3, .ref a4, .ref a5, .ref a6, .ref a7, .ref a8, .ref a9, .ref a10, .ref a11, .int u12, .int u13, .ref a14, .ref a15, .ref a16, .int u17, .ref a18, .ref a19, .ref a20, .int u21, .ref a22, .ref a23, .int u24, .ref a25, .ref a26, .int u27, .int u28, .int u29, .int u30])), (a4, .inl (k4, 8, .inl c4)), (a7, .inl (k7, 240, .inl c7)), (a8, .inl (k8, 8, .inl c8)), (a10, .inl (k10, 80, .inl c10)), (a23, .inl (k23, 8, .inl ((m_mturn (m_mwhole u0 c4 c7 c8 c10) u0 p1 yv).2)))]) H := hP
                        have hD : va_D A ([(a5, .inl (k5, 240, .inl c5)), (a6, .inl (k6, 240, .inl c6)), (a22, .inl (k22, 8, .inl yp)), (h0, .inr (6, [.int u0, .ref a1, .int u2, .int u3, .ref a4, .ref a5, .ref a6, .ref a7, .ref a8, .ref a9, .ref a10, .ref a11, .int u12, .int u13, .ref a14, .ref a15, .ref a16, .int u17, .ref a18, .ref a19, .ref a20, .int u21, .ref a22, .ref a23, .int u24, .ref a25, .ref a26, .int u27, .int u28, .int u29, .int u30])), (a4, .inl (k4, 8, .inl c4)), (a7, .inl (k7, 240, .inl c7)), (a8, .inl (k8, 8, .inl c8)), (a10, .inl (k10, 80, .inl c10)), (a23, .inl (k23, 8, .inl ((m_mturn (m_mwhole u0 c4 c7 c8 c10) u0 p1 yv).2)))]) := hD
                        refine lv_istore (lv' := [(6, .int ((m_mturn (m_mwhole u0 c4 c7 c8 c10) u0 p1 yv).1)), (7, .long (-1)), (0, .ref h0), (1, .int p0), (2, .int p1), (4, .long bs)]) hx hb d_Md_pack_218 hl (by decide) rfl (fun ls hl => ?_)
                        refine lv_goto (tgt := 105) hx hb d_Md_pack_220 (by decide) ?_
                        exact ih_105 bs ((m_mturn (m_mwhole u0 c4 c7 c8 c10) u0 p1 yv).1) ((m_mturn (m_mwhole u0 c4 c7 c8 c10) u0 p1 yv).2) yp (m_mm_up hc0 hc hOK hn2 c_9) (hg2.trans (by rw [m_ploop]; simp [m_own, eq_false c_2, eq_false c_4, eq_true c_6, eq_true c_7, eq_false c_9, eq_true c_11])) (m_mturn_ok hc0 hc hOK) _ _ (hP.sub [3, 4, 0, 1, 5, 6, 7, 2, 8] rfl) (hD.sub [3, 4, 0, 1, 5, 6, 7, 2, 8] (by decide) rfl) hS ls (lv_sub hl [2, 3, 4, 5, 0] rfl)
                      · exact absurd ((not_congr (lg_cmp_lt (-1) 0)).mp c_12) (by decide)
                    · refine lv_aload_n hx hb d_Md_pack_119 rfl (lv_at hl 0 rfl) ?_
                      refine lv_iload_n hx hb d_Md_pack_120 rfl (lv_at hl 1 rfl) ?_
                      refine lv_iload_n hx hb d_Md_pack_121 rfl (lv_at hl 2 rfl) ?_
                      have hPc := hP.sub (ws' := [(h0, .inr (6, [.int u0, .ref a1, .int u2, .int u3, .ref a4, .ref a5, .ref a6, .ref a7, .ref a8, .ref a9, .ref a10, .ref a11, .int u12, .int u13, .ref a14, .ref a15, .ref a16, .int u17, .ref a18, .ref a19, .ref a20, .int u21, .ref a22, .ref a23, .int u24, .ref a25, .ref a26, .int u27, .int u28, .int u29, .int u30])), (a4, .inl (k4, 8, .inl c4)), (a5, .inl (k5, 240, .inl c5)), (a6, .inl (k6, 240, .inl c6)), (a23, .inl (k23, 8, .inl yv))]) [0, 1, 2, 3, 8] rfl
                      have hDc := hD.sub (ws' := [(h0, .inr (6, [.int u0, .ref a1, .int u2, .int u3, .ref a4, .ref a5, .ref a6, .ref a7, .ref a8, .ref a9, .ref a10, .ref a11, .int u12, .int u13, .ref a14, .ref a15, .ref a16, .int u17, .ref a18, .ref a19, .ref a20, .int u21, .ref a22, .ref a23, .int u24, .ref a25, .ref a26, .int u27, .int u28, .int u29, .int u30])), (a4, .inl (k4, 8, .inl c4)), (a5, .inl (k5, 240, .inl c5)), (a6, .inl (k6, 240, .inl c6)), (a23, .inl (k23, 8, .inl yv))]) [0, 1, 2, 3, 8] (by decide) rfl
                      have hKc := hK.sub (tys' := [(k4, .int), (k5, .int), (k6, .int), (k23, .int)]) [0, 1, 2, 7] rfl
                      have hFc := va_free (wc := [(h0, .inr (6, [.int u0, .ref a1, .int u2, .int u3, .ref a4, .ref a5, .ref a6, .ref a7, .ref a8, .ref a9, .ref a10, .ref a11, .int u12, .int u13, .ref a14, .ref a15, .ref a16, .int u17, .ref a18, .ref a19, .ref a20, .int u21, .ref a22, .ref a23, .int u24, .ref a25, .ref a26, .int u27, .int u28, .int u29, .int u30])), (a4, .inl (k4, 8, .inl c4)), (a5, .inl (k5, 240, .inl c5)), (a6, .inl (k6, 240, .inl c6)), (a23, .inl (k23, 8, .inl yv))]) hD hS hA [0, 1, 2, 3, 8] rfl
                      refine vp_callSl (va_Run.run (va_runV (As := [.int p0, .int p1]) (rest := [])  ⟨hx, hb, hml, hown, hts⟩ (c_Md_spread l D h0 u0 a1 u2 u3 a4 a5 a6 a7 a8 a9 a10 a11 u12 u13 a14 a15 a16 u17 a18 a19 a20 u21 a22 a23 u24 a25 a26 u27 u28 u29 u30 k4 k5 k6 k23 c4 c5 c6 yv p0 p1 H.size (by assumption) (by assumption)) ⟨callB_of 2 hts cg_Md_spread rfl rfl rfl (hts _ cw_10) (hts _ cw_965) (by decide +kernel) ⟨Nat.le_of_ble_eq_true rfl, Nat.le_of_ble_eq_true rfl⟩, hts _ cw_967, hts _ cs_29⟩ (cx_preV (C := R_Md) [.int p0, .int p1] hPc hKc hDc hN hO hS hFc (ci := 6) (q0 := 0) rfl rfl rfl) rfl rfl hl.1 rfl (lv_room (Nat.le_of_ble_eq_true rfl)) d_Md_pack_122 ⟨Nat.le_of_ble_eq_true rfl, Nat.le_of_ble_eq_true rfl⟩)) (fun r z_14 => ?_)
                      subst z_14
                      refine lv_goto (tgt := 131) hx hb d_Md_pack_125 (by decide) ?_
                      refine lv_lstore (lv' := [(7, .long (m_spr u0 c4 c5 c6 yv p0 p1 (p1.toNatClampNeg + 1) 0 0 (-1))), (0, .ref h0), (1, .int p0), (2, .int p1), (4, .long bs), (6, .int mr)]) hx hb d_Md_pack_131 hl (by decide) rfl (fun ls hl => ?_)
                      refine lv_lload hx hb d_Md_pack_133 (lv_at hl 0 rfl) ?_
                      refine lv_lconst (v := 0) hx hb d_Md_pack_135 (by decide) ?_
                      refine W.lcmp hx hb d_Md_pack_136 ?_
                      refine lv_if_lt (tgt := 213) hx hb d_Md_pack_137 (by decide) (fun c_15 => ?_) (fun c_15 => ?_)
                      · have c_15 := (lg_cmp_lt (m_spr u0 c4 c5 c6 yv p0 p1 (p1.toNatClampNeg + 1) 0 0 (-1)) 0).mp c_15
                        refine lv_aload_n hx hb d_Md_pack_213 rfl (lv_at hl 1 rfl) ?_
                        refine lv_iload_n hx hb d_Md_pack_214 rfl (lv_at hl 3 rfl) ?_
                        have hPc := hP.sub (ws' := [(h0, .inr (6, [.int u0, .ref a1, .int u2, .int u3, .ref a4, .ref a5, .ref a6, .ref a7, .ref a8, .ref a9, .ref a10, .ref a11, .int u12, .int u13, .ref a14, .ref a15, .ref a16, .int u17, .ref a18, .ref a19, .ref a20, .int u21, .ref a22, .ref a23, .int u24, .ref a25, .ref a26, .int u27, .int u28, .int u29, .int u30])), (a4, .inl (k4, 8, .inl c4)), (a7, .inl (k7, 240, .inl c7)), (a8, .inl (k8, 8, .inl c8)), (a10, .inl (k10, 80, .inl c10)), (a23, .inl (k23, 8, .inl yv))]) [0, 1, 4, 5, 6, 8] rfl
                        have hDc := hD.sub (ws' := [(h0, .inr (6, [.int u0, .ref a1, .int u2, .int u3, .ref a4, .ref a5, .ref a6, .ref a7, .ref a8, .ref a9, .ref a10, .ref a11, .int u12, .int u13, .ref a14, .ref a15, .ref a16, .int u17, .ref a18, .ref a19, .ref a20, .int u21, .ref a22, .ref a23, .int u24, .ref a25, .ref a26, .int u27, .int u28, .int u29, .int u30])), (a4, .inl (k4, 8, .inl c4)), (a7, .inl (k7, 240, .inl c7)), (a8, .inl (k8, 8, .inl c8)), (a10, .inl (k10, 80, .inl c10)), (a23, .inl (k23, 8, .inl yv))]) [0, 1, 4, 5, 6, 8] (by decide) rfl
                        have hKc := hK.sub (tys' := [(k4, .int), (k7, .int), (k8, .int), (k10, .int), (k23, .int)]) [0, 3, 4, 5, 7] rfl
                        have hFc := va_free (wc := [(h0, .inr (6, [.int u0, .ref a1, .int u2, .int u3, .ref a4, .ref a5, .ref a6, .ref a7, .ref a8, .ref a9, .ref a10, .ref a11, .int u12, .int u13, .ref a14, .ref a15, .ref a16, .int u17, .ref a18, .ref a19, .ref a20, .int u21, .ref a22, .ref a23, .int u24, .ref a25, .ref a26, .int u27, .int u28, .int u29, .int u30])), (a4, .inl (k4, 8, .inl c4)), (a7, .inl (k7, 240, .inl c7)), (a8, .inl (k8, 8, .inl c8)), (a10, .inl (k10, 80, .inl c10)), (a23, .inl (k23, 8, .inl yv))]) hD hS hA [0, 1, 4, 5, 6, 8] rfl
                        refine cx_joini (wc := [(h0, .inr (6, [.int u0, .ref a1, .int u2, .int u3, .ref a4, .ref a5, .ref a6, .ref a7, .ref a8, .ref a9, .ref a10, .ref a11, .int u12, .int u13, .ref a14, .ref a15, .ref a16, .int u17, .ref a18, .ref a19, .ref a20, .int u21, .ref a22, .ref a23, .int u24, .ref a25, .ref a26, .int u27, .int u28, .int u29, .int u30])), (a4, .inl (k4, 8, .inl c4)), (a7, .inl (k7, 240, .inl c7)), (a8, .inl (k8, 8, .inl c8)), (a10, .inl (k10, 80, .inl c10)), (a23, .inl (k23, 8, .inl yv))]) (wr := [(a5, .inl (k5, 240, .inl c5)), (a6, .inl (k6, 240, .inl c6)), (a22, .inl (k22, 8, .inl yp))]) hP hD hS hA [0, 1, 4, 5, 6, 8] [2, 3, 7] rfl rfl (by decide) (by decide) (va_runV (As := [.int p1]) (rest := [])  ⟨hx, hb, hml, hown, hts⟩ (c_Md_turn l D h0 u0 a1 u2 u3 a4 a5 a6 a7 a8 a9 a10 a11 u12 u13 a14 a15 a16 u17 a18 a19 a20 u21 a22 a23 u24 a25 a26 u27 u28 u29 u30 k4 k7 k8 k10 k23 c4 c7 c8 c10 yv p1 H.size (by assumption) (by assumption) (by assumption) (by assumption)) ⟨callB_of 1 hts cg_Md_turn rfl rfl rfl (hts _ cw_10) (hts _ cw_969) (by decide +kernel) ⟨Nat.le_of_ble_eq_true rfl, Nat.le_of_ble_eq_true rfl⟩, hts _ cw_971, hts _ cs_30⟩ (cx_preV (C := R_Md) [.int p1] hPc hKc hDc hN hO hS hFc (ci := 6) (q0 := 0) rfl rfl rfl) rfl rfl hl.1 rfl (lv_room (Nat.le_of_ble_eq_true rfl)) d_Md_pack_215 ⟨Nat.le_of_ble_eq_true rfl, Nat.le_of_ble_eq_true rfl⟩) (fun r _ H locs z_16 hK1 hP hD hS => ?_)
                        subst z_16
                        have hP : va_P D classes ([(a5, .inl (k5, 240, .inl c5)), (a6, .inl (k6, 240, .inl c6)), (a22, .inl (k22, 8, .inl yp)), (h0, .inr (6, [.int u0, .ref a1, .int u2, .int u3, .ref a4, .ref a5, .ref a6, .ref a7, .ref a8, .ref a9, .ref a10, .ref a11, .int u12, .int u13, .ref a14, .ref a15, .ref a16, .int u17, .ref a18, .ref a19, .ref a20, .int u21, .ref a22, .ref a23, .int u24, .ref a25, .ref a26, .int u27, .int u28, .int u29, .int u30])), (a4, .inl (k4, 8, .inl c4)), (a7, .inl (k7, 240, .inl c7)), (a8, .inl (k8, 8, .inl c8)), (a10, .inl (k10, 80, .inl c10)), (a23, .inl (k23, 8, .inl ((m_mturn (m_mwhole u0 c4 c7 c8 c10) u0 p1 yv).2)))]) H := hP
                        have hD : va_D A ([(a5, .inl (k5, 240, .inl c5)), (a6, .inl (k6, 240, .inl c6)), (a22, .inl (k22, 8, .inl yp)), (h0, .inr (6, [.int u0, .ref a1, .int u2, .int u3, .ref a4, .ref a5, .ref a6, .ref a7, .ref a8, .ref a9, .ref a10, .ref a11, .int u12, .int u13, .ref a14, .ref a15, .ref a16, .int u17, .ref a18, .ref a19, .ref a20, .int u21, .ref a22, .ref a23, .int u24, .ref a25, .ref a26, .int u27, .int u28, .int u29, .int u30])), (a4, .inl (k4, 8, .inl c4)), (a7, .inl (k7, 240, .inl c7)), (a8, .inl (k8, 8, .inl c8)), (a10, .inl (k10, 80, .inl c10)), (a23, .inl (k23, 8, .inl ((m_mturn (m_mwhole u0 c4 c7 c8 c10) u0 p1 yv).2)))]) := hD
                        refine lv_istore (lv' := [(6, .int ((m_mturn (m_mwhole u0 c4 c7 c8 c10) u0 p1 yv).1)), (7, .long (m_spr u0 c4 c5 c6 yv p0 p1 (p1.toNatClampNeg + 1) 0 0 (-1))), (0, .ref h0), (1, .int p0), (2, .int p1), (4, .long bs)]) hx hb d_Md_pack_218 hl (by decide) rfl (fun ls hl => ?_)
                        refine lv_goto (tgt := 105) hx hb d_Md_pack_220 (by decide) ?_
                        exact ih_105 bs ((m_mturn (m_mwhole u0 c4 c7 c8 c10) u0 p1 yv).1) ((m_mturn (m_mwhole u0 c4 c7 c8 c10) u0 p1 yv).2) yp (m_mm_up hc0 hc hOK hn2 c_9) (hg2.trans (by rw [m_ploop]; simp [m_own, eq_false c_2, eq_false c_4, eq_true c_6, eq_true c_7, eq_false c_9, eq_false c_11, eq_true c_15])) (m_mturn_ok hc0 hc hOK) _ _ (hP.sub [3, 4, 0, 1, 5, 6, 7, 2, 8] rfl) (hD.sub [3, 4, 0, 1, 5, 6, 7, 2, 8] (by decide) rfl) hS ls (lv_sub hl [2, 3, 4, 5, 0] rfl)
                      · have c_15 := (not_congr (lg_cmp_lt (m_spr u0 c4 c5 c6 yv p0 p1 (p1.toNatClampNeg + 1) 0 0 (-1)) 0)).mp c_15
                        refine lv_lload hx hb d_Md_pack_140 (lv_at hl 4 rfl) ?_
                        refine lv_lconst (v := 0) hx hb d_Md_pack_142 (by decide) ?_
                        refine W.lcmp hx hb d_Md_pack_143 ?_
                        refine lv_if_lt (tgt := 155) hx hb d_Md_pack_144 (by decide) (fun c_17 => ?_) (fun c_17 => ?_)
                        · have c_17 := (lg_cmp_lt bs 0).mp c_17
                          refine lv_lload hx hb d_Md_pack_155 (lv_at hl 0 rfl) ?_
                          refine lv_lstore (lv' := [(4, .long (m_spr u0 c4 c5 c6 yv p0 p1 (p1.toNatClampNeg + 1) 0 0 (-1))), (7, .long (m_spr u0 c4 c5 c6 yv p0 p1 (p1.toNatClampNeg + 1) 0 0 (-1))), (0, .ref h0), (1, .int p0), (2, .int p1), (6, .int mr)]) hx hb d_Md_pack_157 hl (by decide) rfl (fun ls hl => ?_)
                          refine lv_iconst (v := 0) hx hb d_Md_pack_159 (by decide) ?_
                          refine lv_istore (lv' := [(9, .int 0), (4, .long (m_spr u0 c4 c5 c6 yv p0 p1 (p1.toNatClampNeg + 1) 0 0 (-1))), (7, .long (m_spr u0 c4 c5 c6 yv p0 p1 (p1.toNatClampNeg + 1) 0 0 (-1))), (0, .ref h0), (1, .int p0), (2, .int p1), (6, .int mr)]) hx hb d_Md_pack_160 hl (by decide) rfl (fun ls hl => ?_)
                          have loop_18 : ∀ (n : Nat) (c9 : Nat) (yq : Nat → Int32) (hi3 : c9 ≤ 8) (hn3 : c9 + n = 8 + 1) (hg3 : m_packsW yv u0 p1 9 0 yp = m_packsW yv u0 p1 n c9 yq) (H : Heap) (locs : List Loc) (hP : va_P D classes ([(h0, .inr (6, [.int u0, .ref a1, .int u2, .int u3, .ref a4, .ref a5, .ref a6, .ref a7, .ref a8, .ref a9, .ref a10, .ref a11, .int u12, .int u13, .ref a14, .ref a15, .ref a16, .int u17, .ref a18, .ref a19, .ref a20, .int u21, .ref a22, .ref a23, .int u24, .ref a25, .ref a26, .int u27, .int u28, .int u29, .int u30])), (a4, .inl (k4, 8, .inl c4)), (a5, .inl (k5, 240, .inl c5)), (a6, .inl (k6, 240, .inl c6)), (a7, .inl (k7, 240, .inl c7)), (a8, .inl (k8, 8, .inl c8)), (a10, .inl (k10, 80, .inl c10)), (a22, .inl (k22, 8, .inl yq)), (a23, .inl (k23, 8, .inl yv))]) H) (hD : va_D A ([(h0, .inr (6, [.int u0, .ref a1, .int u2, .int u3, .ref a4, .ref a5, .ref a6, .ref a7, .ref a8, .ref a9, .ref a10, .ref a11, .int u12, .int u13, .ref a14, .ref a15, .ref a16, .int u17, .ref a18, .ref a19, .ref a20, .int u21, .ref a22, .ref a23, .int u24, .ref a25, .ref a26, .int u27, .int u28, .int u29, .int u30])), (a4, .inl (k4, 8, .inl c4)), (a5, .inl (k5, 240, .inl c5)), (a6, .inl (k6, 240, .inl c6)), (a7, .inl (k7, 240, .inl c7)), (a8, .inl (k8, 8, .inl c8)), (a10, .inl (k10, 80, .inl c10)), (a22, .inl (k22, 8, .inl yq)), (a23, .inl (k23, 8, .inl yv))])) (hS : va_S A s.heap H locs) (ls : Array Slot) (hl : lv_has ls 10 [(0, .ref h0), (1, .int p0), (2, .int p1), (4, .long (m_spr u0 c4 c5 c6 yv p0 p1 (p1.toNatClampNeg + 1) 0 0 (-1))), (7, .long (m_spr u0 c4 c5 c6 yv p0 p1 (p1.toNatClampNeg + 1) 0 0 (-1))), (9, .int (nI c9))]), W p l e ({ frames := 4, cells := 0, slots := 0, locals := 87 }) s m [.ref h0, .int p0, .int p1].toArray below meth c H locs 0 0 Q (F0 m 162 ls []) := by
                            intro n
                            induction n with
                            | zero =>
                              intro c9 yq hi3 hn3 hg3 H locs hP hD hS ls hl
                              exact absurd hn3 (by omega)
                            | succ n ih_162 =>
                              intro c9 yq hi3 hn3 hg3 H locs hP hD hS ls hl
                              refine lv_iload hx hb d_Md_pack_162 (lv_at hl 5 rfl) ?_
                              refine lv_bipush (v := 8) hx hb d_Md_pack_164 (by decide) ?_
                              refine lv_icmp_ge (tgt := 213) hx hb d_Md_pack_166 (by decide) (fun c_19 => ?_) (fun c_19 => ?_)
                              · have hz9 : m_packsW yv u0 p1 9 0 yp = yq := hg3.trans (by rw [m_packsW, if_pos c_19])
                                refine lv_aload_n hx hb d_Md_pack_213 rfl (lv_at hl 0 rfl) ?_
                                refine lv_iload_n hx hb d_Md_pack_214 rfl (lv_at hl 2 rfl) ?_
                                have hPc := hP.sub (ws' := [(h0, .inr (6, [.int u0, .ref a1, .int u2, .int u3, .ref a4, .ref a5, .ref a6, .ref a7, .ref a8, .ref a9, .ref a10, .ref a11, .int u12, .int u13, .ref a14, .ref a15, .ref a16, .int u17, .ref a18, .ref a19, .ref a20, .int u21, .ref a22, .ref a23, .int u24, .ref a25, .ref a26, .int u27, .int u28, .int u29, .int u30])), (a4, .inl (k4, 8, .inl c4)), (a7, .inl (k7, 240, .inl c7)), (a8, .inl (k8, 8, .inl c8)), (a10, .inl (k10, 80, .inl c10)), (a23, .inl (k23, 8, .inl yv))]) [0, 1, 4, 5, 6, 8] rfl
                                have hDc := hD.sub (ws' := [(h0, .inr (6, [.int u0, .ref a1, .int u2, .int u3, .ref a4, .ref a5, .ref a6, .ref a7, .ref a8, .ref a9, .ref a10, .ref a11, .int u12, .int u13, .ref a14, .ref a15, .ref a16, .int u17, .ref a18, .ref a19, .ref a20, .int u21, .ref a22, .ref a23, .int u24, .ref a25, .ref a26, .int u27, .int u28, .int u29, .int u30])), (a4, .inl (k4, 8, .inl c4)), (a7, .inl (k7, 240, .inl c7)), (a8, .inl (k8, 8, .inl c8)), (a10, .inl (k10, 80, .inl c10)), (a23, .inl (k23, 8, .inl yv))]) [0, 1, 4, 5, 6, 8] (by decide) rfl
                                have hKc := hK.sub (tys' := [(k4, .int), (k7, .int), (k8, .int), (k10, .int), (k23, .int)]) [0, 3, 4, 5, 7] rfl
                                have hFc := va_free (wc := [(h0, .inr (6, [.int u0, .ref a1, .int u2, .int u3, .ref a4, .ref a5, .ref a6, .ref a7, .ref a8, .ref a9, .ref a10, .ref a11, .int u12, .int u13, .ref a14, .ref a15, .ref a16, .int u17, .ref a18, .ref a19, .ref a20, .int u21, .ref a22, .ref a23, .int u24, .ref a25, .ref a26, .int u27, .int u28, .int u29, .int u30])), (a4, .inl (k4, 8, .inl c4)), (a7, .inl (k7, 240, .inl c7)), (a8, .inl (k8, 8, .inl c8)), (a10, .inl (k10, 80, .inl c10)), (a23, .inl (k23, 8, .inl yv))]) hD hS hA [0, 1, 4, 5, 6, 8] rfl
                                refine cx_joini (wc := [(h0, .inr (6, [.int u0, .ref a1, .int u2, .int u3, .ref a4, .ref a5, .ref a6, .ref a7, .ref a8, .ref a9, .ref a10, .ref a11, .int u12, .int u13, .ref a14, .ref a15, .ref a16, .int u17, .ref a18, .ref a19, .ref a20, .int u21, .ref a22, .ref a23, .int u24, .ref a25, .ref a26, .int u27, .int u28, .int u29, .int u30])), (a4, .inl (k4, 8, .inl c4)), (a7, .inl (k7, 240, .inl c7)), (a8, .inl (k8, 8, .inl c8)), (a10, .inl (k10, 80, .inl c10)), (a23, .inl (k23, 8, .inl yv))]) (wr := [(a5, .inl (k5, 240, .inl c5)), (a6, .inl (k6, 240, .inl c6)), (a22, .inl (k22, 8, .inl yq))]) hP hD hS hA [0, 1, 4, 5, 6, 8] [2, 3, 7] rfl rfl (by decide) (by decide) (va_runV (As := [.int p1]) (rest := [])  ⟨hx, hb, hml, hown, hts⟩ (c_Md_turn l D h0 u0 a1 u2 u3 a4 a5 a6 a7 a8 a9 a10 a11 u12 u13 a14 a15 a16 u17 a18 a19 a20 u21 a22 a23 u24 a25 a26 u27 u28 u29 u30 k4 k7 k8 k10 k23 c4 c7 c8 c10 yv p1 H.size (by assumption) (by assumption) (by assumption) (by assumption)) ⟨callB_of 1 hts cg_Md_turn rfl rfl rfl (hts _ cw_10) (hts _ cw_969) (by decide +kernel) ⟨Nat.le_of_ble_eq_true rfl, Nat.le_of_ble_eq_true rfl⟩, hts _ cw_971, hts _ cs_30⟩ (cx_preV (C := R_Md) [.int p1] hPc hKc hDc hN hO hS hFc (ci := 6) (q0 := 0) rfl rfl rfl) rfl rfl hl.1 rfl (lv_room (Nat.le_of_ble_eq_true rfl)) d_Md_pack_215 ⟨Nat.le_of_ble_eq_true rfl, Nat.le_of_ble_eq_true rfl⟩) (fun r _ H locs z_20 hK1 hP hD hS => ?_)
                                subst z_20
                                have hP : va_P D classes ([(a5, .inl (k5, 240, .inl c5)), (a6, .inl (k6, 240, .inl c6)), (a22, .inl (k22, 8, .inl yq)), (h0, .inr (6, [.int u0, .ref a1, .int u2, .int u3, .ref a4, .ref a5, .ref a6, .ref a7, .ref a8, .ref a9, .ref a10, .ref a11, .int u12, .int u13, .ref a14, .ref a15, .ref a16, .int u17, .ref a18, .ref a19, .ref a20, .int u21, .ref a22, .ref a23, .int u24, .ref a25, .ref a26, .int u27, .int u28, .int u29, .int u30])), (a4, .inl (k4, 8, .inl c4)), (a7, .inl (k7, 240, .inl c7)), (a8, .inl (k8, 8, .inl c8)), (a10, .inl (k10, 80, .inl c10)), (a23, .inl (k23, 8, .inl ((m_mturn (m_mwhole u0 c4 c7 c8 c10) u0 p1 yv).2)))]) H := hP
                                have hD : va_D A ([(a5, .inl (k5, 240, .inl c5)), (a6, .inl (k6, 240, .inl c6)), (a22, .inl (k22, 8, .inl yq)), (h0, .inr (6, [.int u0, .ref a1, .int u2, .int u3, .ref a4, .ref a5, .ref a6, .ref a7, .ref a8, .ref a9, .ref a10, .ref a11, .int u12, .int u13, .ref a14, .ref a15, .ref a16, .int u17, .ref a18, .ref a19, .ref a20, .int u21, .ref a22, .ref a23, .int u24, .ref a25, .ref a26, .int u27, .int u28, .int u29, .int u30])), (a4, .inl (k4, 8, .inl c4)), (a7, .inl (k7, 240, .inl c7)), (a8, .inl (k8, 8, .inl c8)), (a10, .inl (k10, 80, .inl c10)), (a23, .inl (k23, 8, .inl ((m_mturn (m_mwhole u0 c4 c7 c8 c10) u0 p1 yv).2)))]) := hD
                                refine lv_istore (lv' := [(6, .int ((m_mturn (m_mwhole u0 c4 c7 c8 c10) u0 p1 yv).1)), (0, .ref h0), (1, .int p0), (2, .int p1), (4, .long (m_spr u0 c4 c5 c6 yv p0 p1 (p1.toNatClampNeg + 1) 0 0 (-1))), (7, .long (m_spr u0 c4 c5 c6 yv p0 p1 (p1.toNatClampNeg + 1) 0 0 (-1))), (9, .int (nI c9))]) hx hb d_Md_pack_218 hl (by decide) rfl (fun ls hl => ?_)
                                refine lv_goto (tgt := 105) hx hb d_Md_pack_220 (by decide) ?_
                                exact ih_105 (m_spr u0 c4 c5 c6 yv p0 p1 (p1.toNatClampNeg + 1) 0 0 (-1)) ((m_mturn (m_mwhole u0 c4 c7 c8 c10) u0 p1 yv).1) ((m_mturn (m_mwhole u0 c4 c7 c8 c10) u0 p1 yv).2) yq (m_mm_up hc0 hc hOK hn2 c_9) (hg2.trans (by rw [m_ploop]; simp [m_own, hz9, eq_false c_2, eq_false c_4, eq_true c_6, eq_true c_7, eq_false c_9, eq_false c_11, eq_false c_15, eq_true c_17, eq_true c_19])) (m_mturn_ok hc0 hc hOK) _ _ (hP.sub [3, 4, 0, 1, 5, 6, 7, 2, 8] rfl) (hD.sub [3, 4, 0, 1, 5, 6, 7, 2, 8] (by decide) rfl) hS ls (lv_sub hl [1, 2, 3, 4, 0] rfl)
                              · refine lv_aload_n hx hb d_Md_pack_169 rfl (lv_at hl 0 rfl) ?_
                                refine va_get (D := D) (ci := 6) (v := .ref a22) (C := R_Md) (T := T_Md) (N := 31) hx hb hts in_Md hown hK hP 0 rfl rfl 22 (by decide) (hts _ cw_756) (fun _ h9 => h9) rfl d_Md_pack_170 ?_
                                refine lv_iload hx hb d_Md_pack_173 (lv_at hl 5 rfl) ?_
                                refine lv_iload hx hb d_Md_pack_175 (lv_at hl 5 rfl) ?_
                                refine lv_aload_n hx hb d_Md_pack_177 rfl (lv_at hl 0 rfl) ?_
                                refine va_get (D := D) (ci := 6) (v := .int u0) (C := R_Md) (T := T_Md) (N := 31) hx hb hts in_Md hown hK hP 0 rfl rfl 0 (by decide) (hts _ cw_734) (fun _ h9 => h9) rfl d_Md_pack_178 ?_
                                refine lv_icmp_ge (tgt := 205) hx hb d_Md_pack_181 (by decide) (fun c_21 => ?_) (fun c_21 => ?_)
                                · refine lv_iconst (v := (-1)) hx hb d_Md_pack_205 (by decide) ?_
                                  refine va_iast hx hb hK hP hD hS 7 6 rfl rfl (vp_in_nI (ix_nge (k := 8) c_19) (by decide)) d_Md_pack_206 (fun H locs hP hD hS => ?_)
                                  have hP : va_P D classes ([(h0, .inr (6, [.int u0, .ref a1, .int u2, .int u3, .ref a4, .ref a5, .ref a6, .ref a7, .ref a8, .ref a9, .ref a10, .ref a11, .int u12, .int u13, .ref a14, .ref a15, .ref a16, .int u17, .ref a18, .ref a19, .ref a20, .int u21, .ref a22, .ref a23, .int u24, .ref a25, .ref a26, .int u27, .int u28, .int u29, .int u30])), (a4, .inl (k4, 8, .inl c4)), (a5, .inl (k5, 240, .inl c5)), (a6, .inl (k6, 240, .inl c6)), (a7, .inl (k7, 240, .inl c7)), (a8, .inl (k8, 8, .inl c8)), (a10, .inl (k10, 80, .inl c10)), (a22, .inl (k22, 8, .inl (upd yq ((nI c9).toNatClampNeg) (-1)))), (a23, .inl (k23, 8, .inl yv))]) H := hP
                                  have hD : va_D A ([(h0, .inr (6, [.int u0, .ref a1, .int u2, .int u3, .ref a4, .ref a5, .ref a6, .ref a7, .ref a8, .ref a9, .ref a10, .ref a11, .int u12, .int u13, .ref a14, .ref a15, .ref a16, .int u17, .ref a18, .ref a19, .ref a20, .int u21, .ref a22, .ref a23, .int u24, .ref a25, .ref a26, .int u27, .int u28, .int u29, .int u30])), (a4, .inl (k4, 8, .inl c4)), (a5, .inl (k5, 240, .inl c5)), (a6, .inl (k6, 240, .inl c6)), (a7, .inl (k7, 240, .inl c7)), (a8, .inl (k8, 8, .inl c8)), (a10, .inl (k10, 80, .inl c10)), (a22, .inl (k22, 8, .inl (upd yq ((nI c9).toNatClampNeg) (-1)))), (a23, .inl (k23, 8, .inl yv))]) := hD
                                  refine lv_iinc (v := nI (c9 + 1)) (lv' := [(9, .int (nI (c9 + 1))), (0, .ref h0), (1, .int p0), (2, .int p1), (4, .long (m_spr u0 c4 c5 c6 yv p0 p1 (p1.toNatClampNeg + 1) 0 0 (-1))), (7, .long (m_spr u0 c4 c5 c6 yv p0 p1 (p1.toNatClampNeg + 1) 0 0 (-1)))]) hx hb d_Md_pack_207 hl (k := 5) rfl (nI_1 c9) (by decide) rfl (fun ls hl => ?_)
                                  refine lv_goto (tgt := 162) hx hb d_Md_pack_210 (by decide) ?_
                                  exact ih_162 (c9 + 1) (upd yq ((nI c9).toNatClampNeg) (-1)) (ix_nge (k := 8) c_19) (by omega) (hg3.trans (by rw [m_packsW]; simp [eq_false c_2, eq_false c_4, eq_true c_6, eq_true c_7, eq_false c_9, eq_false c_11, eq_false c_15, eq_true c_17, eq_false c_19, eq_true c_21])) _ _ (hP.sub [0, 1, 2, 3, 4, 5, 6, 7, 8] rfl) (hD.sub [0, 1, 2, 3, 4, 5, 6, 7, 8] (by decide) rfl) hS ls (lv_sub hl [1, 2, 3, 4, 5, 0] rfl)
                                · refine lv_aload_n hx hb d_Md_pack_184 rfl (lv_at hl 0 rfl) ?_
                                  refine va_get (D := D) (ci := 6) (v := .ref a23) (C := R_Md) (T := T_Md) (N := 31) hx hb hts in_Md hown hK hP 0 rfl rfl 23 (by decide) (hts _ cw_757) (fun _ h9 => h9) rfl d_Md_pack_185 ?_
                                  refine lv_iload hx hb d_Md_pack_188 (lv_at hl 5 rfl) ?_
                                  refine va_iald hx hb hK hP 8 7 rfl rfl (vp_in_nI (ix_nge (k := 8) c_19) (by decide)) d_Md_pack_190 ?_
                                  refine lv_iload_n hx hb d_Md_pack_191 rfl (lv_at hl 2 rfl) ?_
                                  refine lv_icmp_ge (tgt := 205) hx hb d_Md_pack_192 (by decide) (fun c_22 => ?_) (fun c_22 => ?_)
                                  · refine lv_iconst (v := (-1)) hx hb d_Md_pack_205 (by decide) ?_
                                    refine va_iast hx hb hK hP hD hS 7 6 rfl rfl (vp_in_nI (ix_nge (k := 8) c_19) (by decide)) d_Md_pack_206 (fun H locs hP hD hS => ?_)
                                    have hP : va_P D classes ([(h0, .inr (6, [.int u0, .ref a1, .int u2, .int u3, .ref a4, .ref a5, .ref a6, .ref a7, .ref a8, .ref a9, .ref a10, .ref a11, .int u12, .int u13, .ref a14, .ref a15, .ref a16, .int u17, .ref a18, .ref a19, .ref a20, .int u21, .ref a22, .ref a23, .int u24, .ref a25, .ref a26, .int u27, .int u28, .int u29, .int u30])), (a4, .inl (k4, 8, .inl c4)), (a5, .inl (k5, 240, .inl c5)), (a6, .inl (k6, 240, .inl c6)), (a7, .inl (k7, 240, .inl c7)), (a8, .inl (k8, 8, .inl c8)), (a10, .inl (k10, 80, .inl c10)), (a22, .inl (k22, 8, .inl (upd yq ((nI c9).toNatClampNeg) (-1)))), (a23, .inl (k23, 8, .inl yv))]) H := hP
                                    have hD : va_D A ([(h0, .inr (6, [.int u0, .ref a1, .int u2, .int u3, .ref a4, .ref a5, .ref a6, .ref a7, .ref a8, .ref a9, .ref a10, .ref a11, .int u12, .int u13, .ref a14, .ref a15, .ref a16, .int u17, .ref a18, .ref a19, .ref a20, .int u21, .ref a22, .ref a23, .int u24, .ref a25, .ref a26, .int u27, .int u28, .int u29, .int u30])), (a4, .inl (k4, 8, .inl c4)), (a5, .inl (k5, 240, .inl c5)), (a6, .inl (k6, 240, .inl c6)), (a7, .inl (k7, 240, .inl c7)), (a8, .inl (k8, 8, .inl c8)), (a10, .inl (k10, 80, .inl c10)), (a22, .inl (k22, 8, .inl (upd yq ((nI c9).toNatClampNeg) (-1)))), (a23, .inl (k23, 8, .inl yv))]) := hD
                                    refine lv_iinc (v := nI (c9 + 1)) (lv' := [(9, .int (nI (c9 + 1))), (0, .ref h0), (1, .int p0), (2, .int p1), (4, .long (m_spr u0 c4 c5 c6 yv p0 p1 (p1.toNatClampNeg + 1) 0 0 (-1))), (7, .long (m_spr u0 c4 c5 c6 yv p0 p1 (p1.toNatClampNeg + 1) 0 0 (-1)))]) hx hb d_Md_pack_207 hl (k := 5) rfl (nI_1 c9) (by decide) rfl (fun ls hl => ?_)
                                    refine lv_goto (tgt := 162) hx hb d_Md_pack_210 (by decide) ?_
                                    exact ih_162 (c9 + 1) (upd yq ((nI c9).toNatClampNeg) (-1)) (ix_nge (k := 8) c_19) (by omega) (hg3.trans (by rw [m_packsW]; simp [eq_false c_2, eq_false c_4, eq_true c_6, eq_true c_7, eq_false c_9, eq_false c_11, eq_false c_15, eq_true c_17, eq_false c_19, eq_false c_21, eq_true c_22])) _ _ (hP.sub [0, 1, 2, 3, 4, 5, 6, 7, 8] rfl) (hD.sub [0, 1, 2, 3, 4, 5, 6, 7, 8] (by decide) rfl) hS ls (lv_sub hl [1, 2, 3, 4, 5, 0] rfl)
                                  · refine lv_aload_n hx hb d_Md_pack_195 rfl (lv_at hl 0 rfl) ?_
                                    refine va_get (D := D) (ci := 6) (v := .ref a23) (C := R_Md) (T := T_Md) (N := 31) hx hb hts in_Md hown hK hP 0 rfl rfl 23 (by decide) (hts _ cw_757) (fun _ h9 => h9) rfl d_Md_pack_196 ?_
                                    refine lv_iload hx hb d_Md_pack_199 (lv_at hl 5 rfl) ?_
                                    refine va_iald hx hb hK hP 8 7 rfl rfl (vp_in_nI (ix_nge (k := 8) c_19) (by decide)) d_Md_pack_201 ?_
                                    refine lv_goto (tgt := 206) hx hb d_Md_pack_202 (by decide) ?_
                                    refine va_iast hx hb hK hP hD hS 7 6 rfl rfl (vp_in_nI (ix_nge (k := 8) c_19) (by decide)) d_Md_pack_206 (fun H locs hP hD hS => ?_)
                                    have hP : va_P D classes ([(h0, .inr (6, [.int u0, .ref a1, .int u2, .int u3, .ref a4, .ref a5, .ref a6, .ref a7, .ref a8, .ref a9, .ref a10, .ref a11, .int u12, .int u13, .ref a14, .ref a15, .ref a16, .int u17, .ref a18, .ref a19, .ref a20, .int u21, .ref a22, .ref a23, .int u24, .ref a25, .ref a26, .int u27, .int u28, .int u29, .int u30])), (a4, .inl (k4, 8, .inl c4)), (a5, .inl (k5, 240, .inl c5)), (a6, .inl (k6, 240, .inl c6)), (a7, .inl (k7, 240, .inl c7)), (a8, .inl (k8, 8, .inl c8)), (a10, .inl (k10, 80, .inl c10)), (a22, .inl (k22, 8, .inl (upd yq ((nI c9).toNatClampNeg) (yv ((nI c9).toNatClampNeg))))), (a23, .inl (k23, 8, .inl yv))]) H := hP
                                    have hD : va_D A ([(h0, .inr (6, [.int u0, .ref a1, .int u2, .int u3, .ref a4, .ref a5, .ref a6, .ref a7, .ref a8, .ref a9, .ref a10, .ref a11, .int u12, .int u13, .ref a14, .ref a15, .ref a16, .int u17, .ref a18, .ref a19, .ref a20, .int u21, .ref a22, .ref a23, .int u24, .ref a25, .ref a26, .int u27, .int u28, .int u29, .int u30])), (a4, .inl (k4, 8, .inl c4)), (a5, .inl (k5, 240, .inl c5)), (a6, .inl (k6, 240, .inl c6)), (a7, .inl (k7, 240, .inl c7)), (a8, .inl (k8, 8, .inl c8)), (a10, .inl (k10, 80, .inl c10)), (a22, .inl (k22, 8, .inl (upd yq ((nI c9).toNatClampNeg) (yv ((nI c9).toNatClampNeg))))), (a23, .inl (k23, 8, .inl yv))]) := hD
                                    refine lv_iinc (v := nI (c9 + 1)) (lv' := [(9, .int (nI (c9 + 1))), (0, .ref h0), (1, .int p0), (2, .int p1), (4, .long (m_spr u0 c4 c5 c6 yv p0 p1 (p1.toNatClampNeg + 1) 0 0 (-1))), (7, .long (m_spr u0 c4 c5 c6 yv p0 p1 (p1.toNatClampNeg + 1) 0 0 (-1)))]) hx hb d_Md_pack_207 hl (k := 5) rfl (nI_1 c9) (by decide) rfl (fun ls hl => ?_)
                                    refine lv_goto (tgt := 162) hx hb d_Md_pack_210 (by decide) ?_
                                    exact ih_162 (c9 + 1) (upd yq ((nI c9).toNatClampNeg) (yv ((nI c9).toNatClampNeg))) (ix_nge (k := 8) c_19) (by omega) (hg3.trans (by rw [m_packsW]; simp [eq_false c_2, eq_false c_4, eq_true c_6, eq_true c_7, eq_false c_9, eq_false c_11, eq_false c_15, eq_true c_17, eq_false c_19, eq_false c_21, eq_false c_22])) _ _ (hP.sub [0, 1, 2, 3, 4, 5, 6, 7, 8] rfl) (hD.sub [0, 1, 2, 3, 4, 5, 6, 7, 8] (by decide) rfl) hS ls (lv_sub hl [1, 2, 3, 4, 5, 0] rfl)
                          exact loop_18 (8 + 1) 0 yp (by omega) (by omega) (rfl) _ _ (hP.sub [0, 1, 2, 3, 4, 5, 6, 7, 8] rfl) (hD.sub [0, 1, 2, 3, 4, 5, 6, 7, 8] (by decide) rfl) hS ls (lv_sub hl [3, 4, 5, 1, 2, 0] rfl)
                        · have c_17 := (not_congr (lg_cmp_lt bs 0)).mp c_17
                          refine lv_lload hx hb d_Md_pack_147 (lv_at hl 0 rfl) ?_
                          refine lv_lload hx hb d_Md_pack_149 (lv_at hl 4 rfl) ?_
                          refine W.lcmp hx hb d_Md_pack_151 ?_
                          refine lv_if_ge (tgt := 213) hx hb d_Md_pack_152 (by decide) (fun c_23 => ?_) (fun c_23 => ?_)
                          · have c_23 := (lg_cmp_ge (m_spr u0 c4 c5 c6 yv p0 p1 (p1.toNatClampNeg + 1) 0 0 (-1)) bs).mp c_23
                            refine lv_aload_n hx hb d_Md_pack_213 rfl (lv_at hl 1 rfl) ?_
                            refine lv_iload_n hx hb d_Md_pack_214 rfl (lv_at hl 3 rfl) ?_
                            have hPc := hP.sub (ws' := [(h0, .inr (6, [.int u0, .ref a1, .int u2, .int u3, .ref a4, .ref a5, .ref a6, .ref a7, .ref a8, .ref a9, .ref a10, .ref a11, .int u12, .int u13, .ref a14, .ref a15, .ref a16, .int u17, .ref a18, .ref a19, .ref a20, .int u21, .ref a22, .ref a23, .int u24, .ref a25, .ref a26, .int u27, .int u28, .int u29, .int u30])), (a4, .inl (k4, 8, .inl c4)), (a7, .inl (k7, 240, .inl c7)), (a8, .inl (k8, 8, .inl c8)), (a10, .inl (k10, 80, .inl c10)), (a23, .inl (k23, 8, .inl yv))]) [0, 1, 4, 5, 6, 8] rfl
                            have hDc := hD.sub (ws' := [(h0, .inr (6, [.int u0, .ref a1, .int u2, .int u3, .ref a4, .ref a5, .ref a6, .ref a7, .ref a8, .ref a9, .ref a10, .ref a11, .int u12, .int u13, .ref a14, .ref a15, .ref a16, .int u17, .ref a18, .ref a19, .ref a20, .int u21, .ref a22, .ref a23, .int u24, .ref a25, .ref a26, .int u27, .int u28, .int u29, .int u30])), (a4, .inl (k4, 8, .inl c4)), (a7, .inl (k7, 240, .inl c7)), (a8, .inl (k8, 8, .inl c8)), (a10, .inl (k10, 80, .inl c10)), (a23, .inl (k23, 8, .inl yv))]) [0, 1, 4, 5, 6, 8] (by decide) rfl
                            have hKc := hK.sub (tys' := [(k4, .int), (k7, .int), (k8, .int), (k10, .int), (k23, .int)]) [0, 3, 4, 5, 7] rfl
                            have hFc := va_free (wc := [(h0, .inr (6, [.int u0, .ref a1, .int u2, .int u3, .ref a4, .ref a5, .ref a6, .ref a7, .ref a8, .ref a9, .ref a10, .ref a11, .int u12, .int u13, .ref a14, .ref a15, .ref a16, .int u17, .ref a18, .ref a19, .ref a20, .int u21, .ref a22, .ref a23, .int u24, .ref a25, .ref a26, .int u27, .int u28, .int u29, .int u30])), (a4, .inl (k4, 8, .inl c4)), (a7, .inl (k7, 240, .inl c7)), (a8, .inl (k8, 8, .inl c8)), (a10, .inl (k10, 80, .inl c10)), (a23, .inl (k23, 8, .inl yv))]) hD hS hA [0, 1, 4, 5, 6, 8] rfl
                            refine cx_joini (wc := [(h0, .inr (6, [.int u0, .ref a1, .int u2, .int u3, .ref a4, .ref a5, .ref a6, .ref a7, .ref a8, .ref a9, .ref a10, .ref a11, .int u12, .int u13, .ref a14, .ref a15, .ref a16, .int u17, .ref a18, .ref a19, .ref a20, .int u21, .ref a22, .ref a23, .int u24, .ref a25, .ref a26, .int u27, .int u28, .int u29, .int u30])), (a4, .inl (k4, 8, .inl c4)), (a7, .inl (k7, 240, .inl c7)), (a8, .inl (k8, 8, .inl c8)), (a10, .inl (k10, 80, .inl c10)), (a23, .inl (k23, 8, .inl yv))]) (wr := [(a5, .inl (k5, 240, .inl c5)), (a6, .inl (k6, 240, .inl c6)), (a22, .inl (k22, 8, .inl yp))]) hP hD hS hA [0, 1, 4, 5, 6, 8] [2, 3, 7] rfl rfl (by decide) (by decide) (va_runV (As := [.int p1]) (rest := [])  ⟨hx, hb, hml, hown, hts⟩ (c_Md_turn l D h0 u0 a1 u2 u3 a4 a5 a6 a7 a8 a9 a10 a11 u12 u13 a14 a15 a16 u17 a18 a19 a20 u21 a22 a23 u24 a25 a26 u27 u28 u29 u30 k4 k7 k8 k10 k23 c4 c7 c8 c10 yv p1 H.size (by assumption) (by assumption) (by assumption) (by assumption)) ⟨callB_of 1 hts cg_Md_turn rfl rfl rfl (hts _ cw_10) (hts _ cw_969) (by decide +kernel) ⟨Nat.le_of_ble_eq_true rfl, Nat.le_of_ble_eq_true rfl⟩, hts _ cw_971, hts _ cs_30⟩ (cx_preV (C := R_Md) [.int p1] hPc hKc hDc hN hO hS hFc (ci := 6) (q0 := 0) rfl rfl rfl) rfl rfl hl.1 rfl (lv_room (Nat.le_of_ble_eq_true rfl)) d_Md_pack_215 ⟨Nat.le_of_ble_eq_true rfl, Nat.le_of_ble_eq_true rfl⟩) (fun r _ H locs z_24 hK1 hP hD hS => ?_)
                            subst z_24
                            have hP : va_P D classes ([(a5, .inl (k5, 240, .inl c5)), (a6, .inl (k6, 240, .inl c6)), (a22, .inl (k22, 8, .inl yp)), (h0, .inr (6, [.int u0, .ref a1, .int u2, .int u3, .ref a4, .ref a5, .ref a6, .ref a7, .ref a8, .ref a9, .ref a10, .ref a11, .int u12, .int u13, .ref a14, .ref a15, .ref a16, .int u17, .ref a18, .ref a19, .ref a20, .int u21, .ref a22, .ref a23, .int u24, .ref a25, .ref a26, .int u27, .int u28, .int u29, .int u30])), (a4, .inl (k4, 8, .inl c4)), (a7, .inl (k7, 240, .inl c7)), (a8, .inl (k8, 8, .inl c8)), (a10, .inl (k10, 80, .inl c10)), (a23, .inl (k23, 8, .inl ((m_mturn (m_mwhole u0 c4 c7 c8 c10) u0 p1 yv).2)))]) H := hP
                            have hD : va_D A ([(a5, .inl (k5, 240, .inl c5)), (a6, .inl (k6, 240, .inl c6)), (a22, .inl (k22, 8, .inl yp)), (h0, .inr (6, [.int u0, .ref a1, .int u2, .int u3, .ref a4, .ref a5, .ref a6, .ref a7, .ref a8, .ref a9, .ref a10, .ref a11, .int u12, .int u13, .ref a14, .ref a15, .ref a16, .int u17, .ref a18, .ref a19, .ref a20, .int u21, .ref a22, .ref a23, .int u24, .ref a25, .ref a26, .int u27, .int u28, .int u29, .int u30])), (a4, .inl (k4, 8, .inl c4)), (a7, .inl (k7, 240, .inl c7)), (a8, .inl (k8, 8, .inl c8)), (a10, .inl (k10, 80, .inl c10)), (a23, .inl (k23, 8, .inl ((m_mturn (m_mwhole u0 c4 c7 c8 c10) u0 p1 yv).2)))]) := hD
                            refine lv_istore (lv' := [(6, .int ((m_mturn (m_mwhole u0 c4 c7 c8 c10) u0 p1 yv).1)), (7, .long (m_spr u0 c4 c5 c6 yv p0 p1 (p1.toNatClampNeg + 1) 0 0 (-1))), (0, .ref h0), (1, .int p0), (2, .int p1), (4, .long bs)]) hx hb d_Md_pack_218 hl (by decide) rfl (fun ls hl => ?_)
                            refine lv_goto (tgt := 105) hx hb d_Md_pack_220 (by decide) ?_
                            exact ih_105 bs ((m_mturn (m_mwhole u0 c4 c7 c8 c10) u0 p1 yv).1) ((m_mturn (m_mwhole u0 c4 c7 c8 c10) u0 p1 yv).2) yp (m_mm_up hc0 hc hOK hn2 c_9) (hg2.trans (by rw [m_ploop]; simp [m_own, eq_false c_2, eq_false c_4, eq_true c_6, eq_true c_7, eq_false c_9, eq_false c_11, eq_false c_15, eq_false c_17, eq_true c_23])) (m_mturn_ok hc0 hc hOK) _ _ (hP.sub [3, 4, 0, 1, 5, 6, 7, 2, 8] rfl) (hD.sub [3, 4, 0, 1, 5, 6, 7, 2, 8] (by decide) rfl) hS ls (lv_sub hl [2, 3, 4, 5, 0] rfl)
                          · have c_23 := (not_congr (lg_cmp_ge (m_spr u0 c4 c5 c6 yv p0 p1 (p1.toNatClampNeg + 1) 0 0 (-1)) bs)).mp c_23
                            refine lv_lload hx hb d_Md_pack_155 (lv_at hl 0 rfl) ?_
                            refine lv_lstore (lv' := [(4, .long (m_spr u0 c4 c5 c6 yv p0 p1 (p1.toNatClampNeg + 1) 0 0 (-1))), (7, .long (m_spr u0 c4 c5 c6 yv p0 p1 (p1.toNatClampNeg + 1) 0 0 (-1))), (0, .ref h0), (1, .int p0), (2, .int p1), (6, .int mr)]) hx hb d_Md_pack_157 hl (by decide) rfl (fun ls hl => ?_)
                            refine lv_iconst (v := 0) hx hb d_Md_pack_159 (by decide) ?_
                            refine lv_istore (lv' := [(9, .int 0), (4, .long (m_spr u0 c4 c5 c6 yv p0 p1 (p1.toNatClampNeg + 1) 0 0 (-1))), (7, .long (m_spr u0 c4 c5 c6 yv p0 p1 (p1.toNatClampNeg + 1) 0 0 (-1))), (0, .ref h0), (1, .int p0), (2, .int p1), (6, .int mr)]) hx hb d_Md_pack_160 hl (by decide) rfl (fun ls hl => ?_)
                            have loop_25 : ∀ (n : Nat) (c9 : Nat) (yq : Nat → Int32) (hi3 : c9 ≤ 8) (hn3 : c9 + n = 8 + 1) (hg3 : m_packsW yv u0 p1 9 0 yp = m_packsW yv u0 p1 n c9 yq) (H : Heap) (locs : List Loc) (hP : va_P D classes ([(h0, .inr (6, [.int u0, .ref a1, .int u2, .int u3, .ref a4, .ref a5, .ref a6, .ref a7, .ref a8, .ref a9, .ref a10, .ref a11, .int u12, .int u13, .ref a14, .ref a15, .ref a16, .int u17, .ref a18, .ref a19, .ref a20, .int u21, .ref a22, .ref a23, .int u24, .ref a25, .ref a26, .int u27, .int u28, .int u29, .int u30])), (a4, .inl (k4, 8, .inl c4)), (a5, .inl (k5, 240, .inl c5)), (a6, .inl (k6, 240, .inl c6)), (a7, .inl (k7, 240, .inl c7)), (a8, .inl (k8, 8, .inl c8)), (a10, .inl (k10, 80, .inl c10)), (a22, .inl (k22, 8, .inl yq)), (a23, .inl (k23, 8, .inl yv))]) H) (hD : va_D A ([(h0, .inr (6, [.int u0, .ref a1, .int u2, .int u3, .ref a4, .ref a5, .ref a6, .ref a7, .ref a8, .ref a9, .ref a10, .ref a11, .int u12, .int u13, .ref a14, .ref a15, .ref a16, .int u17, .ref a18, .ref a19, .ref a20, .int u21, .ref a22, .ref a23, .int u24, .ref a25, .ref a26, .int u27, .int u28, .int u29, .int u30])), (a4, .inl (k4, 8, .inl c4)), (a5, .inl (k5, 240, .inl c5)), (a6, .inl (k6, 240, .inl c6)), (a7, .inl (k7, 240, .inl c7)), (a8, .inl (k8, 8, .inl c8)), (a10, .inl (k10, 80, .inl c10)), (a22, .inl (k22, 8, .inl yq)), (a23, .inl (k23, 8, .inl yv))])) (hS : va_S A s.heap H locs) (ls : Array Slot) (hl : lv_has ls 10 [(0, .ref h0), (1, .int p0), (2, .int p1), (4, .long (m_spr u0 c4 c5 c6 yv p0 p1 (p1.toNatClampNeg + 1) 0 0 (-1))), (7, .long (m_spr u0 c4 c5 c6 yv p0 p1 (p1.toNatClampNeg + 1) 0 0 (-1))), (9, .int (nI c9))]), W p l e ({ frames := 4, cells := 0, slots := 0, locals := 87 }) s m [.ref h0, .int p0, .int p1].toArray below meth c H locs 0 0 Q (F0 m 162 ls []) := by
                              intro n
                              induction n with
                              | zero =>
                                intro c9 yq hi3 hn3 hg3 H locs hP hD hS ls hl
                                exact absurd hn3 (by omega)
                              | succ n ih_162 =>
                                intro c9 yq hi3 hn3 hg3 H locs hP hD hS ls hl
                                refine lv_iload hx hb d_Md_pack_162 (lv_at hl 5 rfl) ?_
                                refine lv_bipush (v := 8) hx hb d_Md_pack_164 (by decide) ?_
                                refine lv_icmp_ge (tgt := 213) hx hb d_Md_pack_166 (by decide) (fun c_26 => ?_) (fun c_26 => ?_)
                                · have hz9 : m_packsW yv u0 p1 9 0 yp = yq := hg3.trans (by rw [m_packsW, if_pos c_26])
                                  refine lv_aload_n hx hb d_Md_pack_213 rfl (lv_at hl 0 rfl) ?_
                                  refine lv_iload_n hx hb d_Md_pack_214 rfl (lv_at hl 2 rfl) ?_
                                  have hPc := hP.sub (ws' := [(h0, .inr (6, [.int u0, .ref a1, .int u2, .int u3, .ref a4, .ref a5, .ref a6, .ref a7, .ref a8, .ref a9, .ref a10, .ref a11, .int u12, .int u13, .ref a14, .ref a15, .ref a16, .int u17, .ref a18, .ref a19, .ref a20, .int u21, .ref a22, .ref a23, .int u24, .ref a25, .ref a26, .int u27, .int u28, .int u29, .int u30])), (a4, .inl (k4, 8, .inl c4)), (a7, .inl (k7, 240, .inl c7)), (a8, .inl (k8, 8, .inl c8)), (a10, .inl (k10, 80, .inl c10)), (a23, .inl (k23, 8, .inl yv))]) [0, 1, 4, 5, 6, 8] rfl
                                  have hDc := hD.sub (ws' := [(h0, .inr (6, [.int u0, .ref a1, .int u2, .int u3, .ref a4, .ref a5, .ref a6, .ref a7, .ref a8, .ref a9, .ref a10, .ref a11, .int u12, .int u13, .ref a14, .ref a15, .ref a16, .int u17, .ref a18, .ref a19, .ref a20, .int u21, .ref a22, .ref a23, .int u24, .ref a25, .ref a26, .int u27, .int u28, .int u29, .int u30])), (a4, .inl (k4, 8, .inl c4)), (a7, .inl (k7, 240, .inl c7)), (a8, .inl (k8, 8, .inl c8)), (a10, .inl (k10, 80, .inl c10)), (a23, .inl (k23, 8, .inl yv))]) [0, 1, 4, 5, 6, 8] (by decide) rfl
                                  have hKc := hK.sub (tys' := [(k4, .int), (k7, .int), (k8, .int), (k10, .int), (k23, .int)]) [0, 3, 4, 5, 7] rfl
                                  have hFc := va_free (wc := [(h0, .inr (6, [.int u0, .ref a1, .int u2, .int u3, .ref a4, .ref a5, .ref a6, .ref a7, .ref a8, .ref a9, .ref a10, .ref a11, .int u12, .int u13, .ref a14, .ref a15, .ref a16, .int u17, .ref a18, .ref a19, .ref a20, .int u21, .ref a22, .ref a23, .int u24, .ref a25, .ref a26, .int u27, .int u28, .int u29, .int u30])), (a4, .inl (k4, 8, .inl c4)), (a7, .inl (k7, 240, .inl c7)), (a8, .inl (k8, 8, .inl c8)), (a10, .inl (k10, 80, .inl c10)), (a23, .inl (k23, 8, .inl yv))]) hD hS hA [0, 1, 4, 5, 6, 8] rfl
                                  refine cx_joini (wc := [(h0, .inr (6, [.int u0, .ref a1, .int u2, .int u3, .ref a4, .ref a5, .ref a6, .ref a7, .ref a8, .ref a9, .ref a10, .ref a11, .int u12, .int u13, .ref a14, .ref a15, .ref a16, .int u17, .ref a18, .ref a19, .ref a20, .int u21, .ref a22, .ref a23, .int u24, .ref a25, .ref a26, .int u27, .int u28, .int u29, .int u30])), (a4, .inl (k4, 8, .inl c4)), (a7, .inl (k7, 240, .inl c7)), (a8, .inl (k8, 8, .inl c8)), (a10, .inl (k10, 80, .inl c10)), (a23, .inl (k23, 8, .inl yv))]) (wr := [(a5, .inl (k5, 240, .inl c5)), (a6, .inl (k6, 240, .inl c6)), (a22, .inl (k22, 8, .inl yq))]) hP hD hS hA [0, 1, 4, 5, 6, 8] [2, 3, 7] rfl rfl (by decide) (by decide) (va_runV (As := [.int p1]) (rest := [])  ⟨hx, hb, hml, hown, hts⟩ (c_Md_turn l D h0 u0 a1 u2 u3 a4 a5 a6 a7 a8 a9 a10 a11 u12 u13 a14 a15 a16 u17 a18 a19 a20 u21 a22 a23 u24 a25 a26 u27 u28 u29 u30 k4 k7 k8 k10 k23 c4 c7 c8 c10 yv p1 H.size (by assumption) (by assumption) (by assumption) (by assumption)) ⟨callB_of 1 hts cg_Md_turn rfl rfl rfl (hts _ cw_10) (hts _ cw_969) (by decide +kernel) ⟨Nat.le_of_ble_eq_true rfl, Nat.le_of_ble_eq_true rfl⟩, hts _ cw_971, hts _ cs_30⟩ (cx_preV (C := R_Md) [.int p1] hPc hKc hDc hN hO hS hFc (ci := 6) (q0 := 0) rfl rfl rfl) rfl rfl hl.1 rfl (lv_room (Nat.le_of_ble_eq_true rfl)) d_Md_pack_215 ⟨Nat.le_of_ble_eq_true rfl, Nat.le_of_ble_eq_true rfl⟩) (fun r _ H locs z_27 hK1 hP hD hS => ?_)
                                  subst z_27
                                  have hP : va_P D classes ([(a5, .inl (k5, 240, .inl c5)), (a6, .inl (k6, 240, .inl c6)), (a22, .inl (k22, 8, .inl yq)), (h0, .inr (6, [.int u0, .ref a1, .int u2, .int u3, .ref a4, .ref a5, .ref a6, .ref a7, .ref a8, .ref a9, .ref a10, .ref a11, .int u12, .int u13, .ref a14, .ref a15, .ref a16, .int u17, .ref a18, .ref a19, .ref a20, .int u21, .ref a22, .ref a23, .int u24, .ref a25, .ref a26, .int u27, .int u28, .int u29, .int u30])), (a4, .inl (k4, 8, .inl c4)), (a7, .inl (k7, 240, .inl c7)), (a8, .inl (k8, 8, .inl c8)), (a10, .inl (k10, 80, .inl c10)), (a23, .inl (k23, 8, .inl ((m_mturn (m_mwhole u0 c4 c7 c8 c10) u0 p1 yv).2)))]) H := hP
                                  have hD : va_D A ([(a5, .inl (k5, 240, .inl c5)), (a6, .inl (k6, 240, .inl c6)), (a22, .inl (k22, 8, .inl yq)), (h0, .inr (6, [.int u0, .ref a1, .int u2, .int u3, .ref a4, .ref a5, .ref a6, .ref a7, .ref a8, .ref a9, .ref a10, .ref a11, .int u12, .int u13, .ref a14, .ref a15, .ref a16, .int u17, .ref a18, .ref a19, .ref a20, .int u21, .ref a22, .ref a23, .int u24, .ref a25, .ref a26, .int u27, .int u28, .int u29, .int u30])), (a4, .inl (k4, 8, .inl c4)), (a7, .inl (k7, 240, .inl c7)), (a8, .inl (k8, 8, .inl c8)), (a10, .inl (k10, 80, .inl c10)), (a23, .inl (k23, 8, .inl ((m_mturn (m_mwhole u0 c4 c7 c8 c10) u0 p1 yv).2)))]) := hD
                                  refine lv_istore (lv' := [(6, .int ((m_mturn (m_mwhole u0 c4 c7 c8 c10) u0 p1 yv).1)), (0, .ref h0), (1, .int p0), (2, .int p1), (4, .long (m_spr u0 c4 c5 c6 yv p0 p1 (p1.toNatClampNeg + 1) 0 0 (-1))), (7, .long (m_spr u0 c4 c5 c6 yv p0 p1 (p1.toNatClampNeg + 1) 0 0 (-1))), (9, .int (nI c9))]) hx hb d_Md_pack_218 hl (by decide) rfl (fun ls hl => ?_)
                                  refine lv_goto (tgt := 105) hx hb d_Md_pack_220 (by decide) ?_
                                  exact ih_105 (m_spr u0 c4 c5 c6 yv p0 p1 (p1.toNatClampNeg + 1) 0 0 (-1)) ((m_mturn (m_mwhole u0 c4 c7 c8 c10) u0 p1 yv).1) ((m_mturn (m_mwhole u0 c4 c7 c8 c10) u0 p1 yv).2) yq (m_mm_up hc0 hc hOK hn2 c_9) (hg2.trans (by rw [m_ploop]; simp [m_own, hz9, eq_false c_2, eq_false c_4, eq_true c_6, eq_true c_7, eq_false c_9, eq_false c_11, eq_false c_15, eq_false c_17, eq_false c_23, eq_true c_26])) (m_mturn_ok hc0 hc hOK) _ _ (hP.sub [3, 4, 0, 1, 5, 6, 7, 2, 8] rfl) (hD.sub [3, 4, 0, 1, 5, 6, 7, 2, 8] (by decide) rfl) hS ls (lv_sub hl [1, 2, 3, 4, 0] rfl)
                                · refine lv_aload_n hx hb d_Md_pack_169 rfl (lv_at hl 0 rfl) ?_
                                  refine va_get (D := D) (ci := 6) (v := .ref a22) (C := R_Md) (T := T_Md) (N := 31) hx hb hts in_Md hown hK hP 0 rfl rfl 22 (by decide) (hts _ cw_756) (fun _ h9 => h9) rfl d_Md_pack_170 ?_
                                  refine lv_iload hx hb d_Md_pack_173 (lv_at hl 5 rfl) ?_
                                  refine lv_iload hx hb d_Md_pack_175 (lv_at hl 5 rfl) ?_
                                  refine lv_aload_n hx hb d_Md_pack_177 rfl (lv_at hl 0 rfl) ?_
                                  refine va_get (D := D) (ci := 6) (v := .int u0) (C := R_Md) (T := T_Md) (N := 31) hx hb hts in_Md hown hK hP 0 rfl rfl 0 (by decide) (hts _ cw_734) (fun _ h9 => h9) rfl d_Md_pack_178 ?_
                                  refine lv_icmp_ge (tgt := 205) hx hb d_Md_pack_181 (by decide) (fun c_28 => ?_) (fun c_28 => ?_)
                                  · refine lv_iconst (v := (-1)) hx hb d_Md_pack_205 (by decide) ?_
                                    refine va_iast hx hb hK hP hD hS 7 6 rfl rfl (vp_in_nI (ix_nge (k := 8) c_26) (by decide)) d_Md_pack_206 (fun H locs hP hD hS => ?_)
                                    have hP : va_P D classes ([(h0, .inr (6, [.int u0, .ref a1, .int u2, .int u3, .ref a4, .ref a5, .ref a6, .ref a7, .ref a8, .ref a9, .ref a10, .ref a11, .int u12, .int u13, .ref a14, .ref a15, .ref a16, .int u17, .ref a18, .ref a19, .ref a20, .int u21, .ref a22, .ref a23, .int u24, .ref a25, .ref a26, .int u27, .int u28, .int u29, .int u30])), (a4, .inl (k4, 8, .inl c4)), (a5, .inl (k5, 240, .inl c5)), (a6, .inl (k6, 240, .inl c6)), (a7, .inl (k7, 240, .inl c7)), (a8, .inl (k8, 8, .inl c8)), (a10, .inl (k10, 80, .inl c10)), (a22, .inl (k22, 8, .inl (upd yq ((nI c9).toNatClampNeg) (-1)))), (a23, .inl (k23, 8, .inl yv))]) H := hP
                                    have hD : va_D A ([(h0, .inr (6, [.int u0, .ref a1, .int u2, .int u3, .ref a4, .ref a5, .ref a6, .ref a7, .ref a8, .ref a9, .ref a10, .ref a11, .int u12, .int u13, .ref a14, .ref a15, .ref a16, .int u17, .ref a18, .ref a19, .ref a20, .int u21, .ref a22, .ref a23, .int u24, .ref a25, .ref a26, .int u27, .int u28, .int u29, .int u30])), (a4, .inl (k4, 8, .inl c4)), (a5, .inl (k5, 240, .inl c5)), (a6, .inl (k6, 240, .inl c6)), (a7, .inl (k7, 240, .inl c7)), (a8, .inl (k8, 8, .inl c8)), (a10, .inl (k10, 80, .inl c10)), (a22, .inl (k22, 8, .inl (upd yq ((nI c9).toNatClampNeg) (-1)))), (a23, .inl (k23, 8, .inl yv))]) := hD
                                    refine lv_iinc (v := nI (c9 + 1)) (lv' := [(9, .int (nI (c9 + 1))), (0, .ref h0), (1, .int p0), (2, .int p1), (4, .long (m_spr u0 c4 c5 c6 yv p0 p1 (p1.toNatClampNeg + 1) 0 0 (-1))), (7, .long (m_spr u0 c4 c5 c6 yv p0 p1 (p1.toNatClampNeg + 1) 0 0 (-1)))]) hx hb d_Md_pack_207 hl (k := 5) rfl (nI_1 c9) (by decide) rfl (fun ls hl => ?_)
                                    refine lv_goto (tgt := 162) hx hb d_Md_pack_210 (by decide) ?_
                                    exact ih_162 (c9 + 1) (upd yq ((nI c9).toNatClampNeg) (-1)) (ix_nge (k := 8) c_26) (by omega) (hg3.trans (by rw [m_packsW]; simp [eq_false c_2, eq_false c_4, eq_true c_6, eq_true c_7, eq_false c_9, eq_false c_11, eq_false c_15, eq_false c_17, eq_false c_23, eq_false c_26, eq_true c_28])) _ _ (hP.sub [0, 1, 2, 3, 4, 5, 6, 7, 8] rfl) (hD.sub [0, 1, 2, 3, 4, 5, 6, 7, 8] (by decide) rfl) hS ls (lv_sub hl [1, 2, 3, 4, 5, 0] rfl)
                                  · refine lv_aload_n hx hb d_Md_pack_184 rfl (lv_at hl 0 rfl) ?_
                                    refine va_get (D := D) (ci := 6) (v := .ref a23) (C := R_Md) (T := T_Md) (N := 31) hx hb hts in_Md hown hK hP 0 rfl rfl 23 (by decide) (hts _ cw_757) (fun _ h9 => h9) rfl d_Md_pack_185 ?_
                                    refine lv_iload hx hb d_Md_pack_188 (lv_at hl 5 rfl) ?_
                                    refine va_iald hx hb hK hP 8 7 rfl rfl (vp_in_nI (ix_nge (k := 8) c_26) (by decide)) d_Md_pack_190 ?_
                                    refine lv_iload_n hx hb d_Md_pack_191 rfl (lv_at hl 2 rfl) ?_
                                    refine lv_icmp_ge (tgt := 205) hx hb d_Md_pack_192 (by decide) (fun c_29 => ?_) (fun c_29 => ?_)
                                    · refine lv_iconst (v := (-1)) hx hb d_Md_pack_205 (by decide) ?_
                                      refine va_iast hx hb hK hP hD hS 7 6 rfl rfl (vp_in_nI (ix_nge (k := 8) c_26) (by decide)) d_Md_pack_206 (fun H locs hP hD hS => ?_)
                                      have hP : va_P D classes ([(h0, .inr (6, [.int u0, .ref a1, .int u2, .int u3, .ref a4, .ref a5, .ref a6, .ref a7, .ref a8, .ref a9, .ref a10, .ref a11, .int u12, .int u13, .ref a14, .ref a15, .ref a16, .int u17, .ref a18, .ref a19, .ref a20, .int u21, .ref a22, .ref a23, .int u24, .ref a25, .ref a26, .int u27, .int u28, .int u29, .int u30])), (a4, .inl (k4, 8, .inl c4)), (a5, .inl (k5, 240, .inl c5)), (a6, .inl (k6, 240, .inl c6)), (a7, .inl (k7, 240, .inl c7)), (a8, .inl (k8, 8, .inl c8)), (a10, .inl (k10, 80, .inl c10)), (a22, .inl (k22, 8, .inl (upd yq ((nI c9).toNatClampNeg) (-1)))), (a23, .inl (k23, 8, .inl yv))]) H := hP
                                      have hD : va_D A ([(h0, .inr (6, [.int u0, .ref a1, .int u2, .int u3, .ref a4, .ref a5, .ref a6, .ref a7, .ref a8, .ref a9, .ref a10, .ref a11, .int u12, .int u13, .ref a14, .ref a15, .ref a16, .int u17, .ref a18, .ref a19, .ref a20, .int u21, .ref a22, .ref a23, .int u24, .ref a25, .ref a26, .int u27, .int u28, .int u29, .int u30])), (a4, .inl (k4, 8, .inl c4)), (a5, .inl (k5, 240, .inl c5)), (a6, .inl (k6, 240, .inl c6)), (a7, .inl (k7, 240, .inl c7)), (a8, .inl (k8, 8, .inl c8)), (a10, .inl (k10, 80, .inl c10)), (a22, .inl (k22, 8, .inl (upd yq ((nI c9).toNatClampNeg) (-1)))), (a23, .inl (k23, 8, .inl yv))]) := hD
                                      refine lv_iinc (v := nI (c9 + 1)) (lv' := [(9, .int (nI (c9 + 1))), (0, .ref h0), (1, .int p0), (2, .int p1), (4, .long (m_spr u0 c4 c5 c6 yv p0 p1 (p1.toNatClampNeg + 1) 0 0 (-1))), (7, .long (m_spr u0 c4 c5 c6 yv p0 p1 (p1.toNatClampNeg + 1) 0 0 (-1)))]) hx hb d_Md_pack_207 hl (k := 5) rfl (nI_1 c9) (by decide) rfl (fun ls hl => ?_)
                                      refine lv_goto (tgt := 162) hx hb d_Md_pack_210 (by decide) ?_
                                      exact ih_162 (c9 + 1) (upd yq ((nI c9).toNatClampNeg) (-1)) (ix_nge (k := 8) c_26) (by omega) (hg3.trans (by rw [m_packsW]; simp [eq_false c_2, eq_false c_4, eq_true c_6, eq_true c_7, eq_false c_9, eq_false c_11, eq_false c_15, eq_false c_17, eq_false c_23, eq_false c_26, eq_false c_28, eq_true c_29])) _ _ (hP.sub [0, 1, 2, 3, 4, 5, 6, 7, 8] rfl) (hD.sub [0, 1, 2, 3, 4, 5, 6, 7, 8] (by decide) rfl) hS ls (lv_sub hl [1, 2, 3, 4, 5, 0] rfl)
                                    · refine lv_aload_n hx hb d_Md_pack_195 rfl (lv_at hl 0 rfl) ?_
                                      refine va_get (D := D) (ci := 6) (v := .ref a23) (C := R_Md) (T := T_Md) (N := 31) hx hb hts in_Md hown hK hP 0 rfl rfl 23 (by decide) (hts _ cw_757) (fun _ h9 => h9) rfl d_Md_pack_196 ?_
                                      refine lv_iload hx hb d_Md_pack_199 (lv_at hl 5 rfl) ?_
                                      refine va_iald hx hb hK hP 8 7 rfl rfl (vp_in_nI (ix_nge (k := 8) c_26) (by decide)) d_Md_pack_201 ?_
                                      refine lv_goto (tgt := 206) hx hb d_Md_pack_202 (by decide) ?_
                                      refine va_iast hx hb hK hP hD hS 7 6 rfl rfl (vp_in_nI (ix_nge (k := 8) c_26) (by decide)) d_Md_pack_206 (fun H locs hP hD hS => ?_)
                                      have hP : va_P D classes ([(h0, .inr (6, [.int u0, .ref a1, .int u2, .int u3, .ref a4, .ref a5, .ref a6, .ref a7, .ref a8, .ref a9, .ref a10, .ref a11, .int u12, .int u13, .ref a14, .ref a15, .ref a16, .int u17, .ref a18, .ref a19, .ref a20, .int u21, .ref a22, .ref a23, .int u24, .ref a25, .ref a26, .int u27, .int u28, .int u29, .int u30])), (a4, .inl (k4, 8, .inl c4)), (a5, .inl (k5, 240, .inl c5)), (a6, .inl (k6, 240, .inl c6)), (a7, .inl (k7, 240, .inl c7)), (a8, .inl (k8, 8, .inl c8)), (a10, .inl (k10, 80, .inl c10)), (a22, .inl (k22, 8, .inl (upd yq ((nI c9).toNatClampNeg) (yv ((nI c9).toNatClampNeg))))), (a23, .inl (k23, 8, .inl yv))]) H := hP
                                      have hD : va_D A ([(h0, .inr (6, [.int u0, .ref a1, .int u2, .int u3, .ref a4, .ref a5, .ref a6, .ref a7, .ref a8, .ref a9, .ref a10, .ref a11, .int u12, .int u13, .ref a14, .ref a15, .ref a16, .int u17, .ref a18, .ref a19, .ref a20, .int u21, .ref a22, .ref a23, .int u24, .ref a25, .ref a26, .int u27, .int u28, .int u29, .int u30])), (a4, .inl (k4, 8, .inl c4)), (a5, .inl (k5, 240, .inl c5)), (a6, .inl (k6, 240, .inl c6)), (a7, .inl (k7, 240, .inl c7)), (a8, .inl (k8, 8, .inl c8)), (a10, .inl (k10, 80, .inl c10)), (a22, .inl (k22, 8, .inl (upd yq ((nI c9).toNatClampNeg) (yv ((nI c9).toNatClampNeg))))), (a23, .inl (k23, 8, .inl yv))]) := hD
                                      refine lv_iinc (v := nI (c9 + 1)) (lv' := [(9, .int (nI (c9 + 1))), (0, .ref h0), (1, .int p0), (2, .int p1), (4, .long (m_spr u0 c4 c5 c6 yv p0 p1 (p1.toNatClampNeg + 1) 0 0 (-1))), (7, .long (m_spr u0 c4 c5 c6 yv p0 p1 (p1.toNatClampNeg + 1) 0 0 (-1)))]) hx hb d_Md_pack_207 hl (k := 5) rfl (nI_1 c9) (by decide) rfl (fun ls hl => ?_)
                                      refine lv_goto (tgt := 162) hx hb d_Md_pack_210 (by decide) ?_
                                      exact ih_162 (c9 + 1) (upd yq ((nI c9).toNatClampNeg) (yv ((nI c9).toNatClampNeg))) (ix_nge (k := 8) c_26) (by omega) (hg3.trans (by rw [m_packsW]; simp [eq_false c_2, eq_false c_4, eq_true c_6, eq_true c_7, eq_false c_9, eq_false c_11, eq_false c_15, eq_false c_17, eq_false c_23, eq_false c_26, eq_false c_28, eq_false c_29])) _ _ (hP.sub [0, 1, 2, 3, 4, 5, 6, 7, 8] rfl) (hD.sub [0, 1, 2, 3, 4, 5, 6, 7, 8] (by decide) rfl) hS ls (lv_sub hl [1, 2, 3, 4, 5, 0] rfl)
                            exact loop_25 (8 + 1) 0 yp (by omega) (by omega) (rfl) _ _ (hP.sub [0, 1, 2, 3, 4, 5, 6, 7, 8] rfl) (hD.sub [0, 1, 2, 3, 4, 5, 6, 7, 8] (by decide) rfl) hS ls (lv_sub hl [3, 4, 5, 1, 2, 0] rfl)
              exact loop_8 (m_mu u0 p1 yw + 1) (-1) 1 yw c22 (m_mm_0) (rfl) (m_pinit_ok hc0 hc (m_p1nn c_4) hz0) _ _ (hP.sub [0, 1, 2, 3, 4, 5, 6, 7, 8] rfl) (hD.sub [0, 1, 2, 3, 4, 5, 6, 7, 8] (by decide) rfl) hS ls (lv_sub hl [2, 3, 4, 1, 0] rfl)
            · refine lv_ldc2 (v := (-1)) hx hb hown (hts _ cw_956) d_Md_pack_93 ?_
              subst hQ
              have hm : m_mpack (m_mwhole u0 c4 c7 c8 c10) u0 c4 c5 c6 c22 c23 p0 p1 = ((-1), c22, yw) := by unfold m_mpack; rw [hz0]; simp [eq_false c_2, eq_false c_4, eq_true c_6, eq_false c_7]
              rw [hm]
              have hP9 := hP.sub (ws' := [(h0, .inr (6, [.int u0, .ref a1, .int u2, .int u3, .ref a4, .ref a5, .ref a6, .ref a7, .ref a8, .ref a9, .ref a10, .ref a11, .int u12, .int u13, .ref a14, .ref a15, .ref a16, .int u17, .ref a18, .ref a19, .ref a20, .int u21, .ref a22, .ref a23, .int u24, .ref a25, .ref a26, .int u27, .int u28, .int u29, .int u30])), (a4, .inl (k4, 8, .inl c4)), (a5, .inl (k5, 240, .inl c5)), (a6, .inl (k6, 240, .inl c6)), (a7, .inl (k7, 240, .inl c7)), (a8, .inl (k8, 8, .inl c8)), (a10, .inl (k10, 80, .inl c10)), (a22, .inl (k22, 8, .inl c22)), (a23, .inl (k23, 8, .inl yw))]) [0, 1, 2, 3, 4, 5, 6, 7, 8] rfl
              have hD9 := hD.sub (ws' := [(h0, .inr (6, [.int u0, .ref a1, .int u2, .int u3, .ref a4, .ref a5, .ref a6, .ref a7, .ref a8, .ref a9, .ref a10, .ref a11, .int u12, .int u13, .ref a14, .ref a15, .ref a16, .int u17, .ref a18, .ref a19, .ref a20, .int u21, .ref a22, .ref a23, .int u24, .ref a25, .ref a26, .int u27, .int u28, .int u29, .int u30])), (a4, .inl (k4, 8, .inl c4)), (a5, .inl (k5, 240, .inl c5)), (a6, .inl (k6, 240, .inl c6)), (a7, .inl (k7, 240, .inl c7)), (a8, .inl (k8, 8, .inl c8)), (a10, .inl (k10, 80, .inl c10)), (a22, .inl (k22, 8, .inl c22)), (a23, .inl (k23, 8, .inl yw))]) [0, 1, 2, 3, 4, 5, 6, 7, 8] (by decide) rfl
              have hK9 := hK.sub (tys' := [(k4, .int), (k5, .int), (k6, .int), (k7, .int), (k8, .int), (k10, .int), (k22, .int), (k23, .int)]) [0, 1, 2, 3, 4, 5, 6, 7] rfl
              exact W.lret (v := (-1)) hx hb hr (fun t ht hW => ⟨⟨_, (), rfl, rfl, by rw [ht]; exact hP9, va_K.moved hW.alike hK9, hD9⟩, hS.F ht⟩) hS.2.2 d_Md_pack_96
          · refine lv_iload_n hx hb d_Md_pack_42 rfl (lv_at hl 3 rfl) ?_
            refine lv_aload_n hx hb d_Md_pack_43 rfl (lv_at hl 0 rfl) ?_
            refine lv_iload hx hb d_Md_pack_44 (lv_at hl 4 rfl) ?_
            have hPc := hP.sub (ws' := [(h0, .inr (6, [.int u0, .ref a1, .int u2, .int u3, .ref a4, .ref a5, .ref a6, .ref a7, .ref a8, .ref a9, .ref a10, .ref a11, .int u12, .int u13, .ref a14, .ref a15, .ref a16, .int u17, .ref a18, .ref a19, .ref a20, .int u21, .ref a22, .ref a23, .int u24, .ref a25, .ref a26, .int u27, .int u28, .int u29, .int u30])), (a4, .inl (k4, 8, .inl c4)), (a7, .inl (k7, 240, .inl c7)), (a8, .inl (k8, 8, .inl c8)), (a10, .inl (k10, 80, .inl c10))]) [0, 1, 4, 5, 6] rfl
            have hDc := hD.sub (ws' := [(h0, .inr (6, [.int u0, .ref a1, .int u2, .int u3, .ref a4, .ref a5, .ref a6, .ref a7, .ref a8, .ref a9, .ref a10, .ref a11, .int u12, .int u13, .ref a14, .ref a15, .ref a16, .int u17, .ref a18, .ref a19, .ref a20, .int u21, .ref a22, .ref a23, .int u24, .ref a25, .ref a26, .int u27, .int u28, .int u29, .int u30])), (a4, .inl (k4, 8, .inl c4)), (a7, .inl (k7, 240, .inl c7)), (a8, .inl (k8, 8, .inl c8)), (a10, .inl (k10, 80, .inl c10))]) [0, 1, 4, 5, 6] (by decide) rfl
            have hKc := hK.sub (tys' := [(k4, .int), (k7, .int), (k8, .int), (k10, .int)]) [0, 3, 4, 5] rfl
            have hFc := va_free (wc := [(h0, .inr (6, [.int u0, .ref a1, .int u2, .int u3, .ref a4, .ref a5, .ref a6, .ref a7, .ref a8, .ref a9, .ref a10, .ref a11, .int u12, .int u13, .ref a14, .ref a15, .ref a16, .int u17, .ref a18, .ref a19, .ref a20, .int u21, .ref a22, .ref a23, .int u24, .ref a25, .ref a26, .int u27, .int u28, .int u29, .int u30])), (a4, .inl (k4, 8, .inl c4)), (a7, .inl (k7, 240, .inl c7)), (a8, .inl (k8, 8, .inl c8)), (a10, .inl (k10, 80, .inl c10))]) hD hS hA [0, 1, 4, 5, 6] rfl
            refine vp_callSi (va_Run.run (va_runV (As := [.int (nI i)]) (rest := [.int wc])  ⟨hx, hb, hml, hown, hts⟩ (c_Md_isWhole l D h0 u0 a1 u2 u3 a4 a5 a6 a7 a8 a9 a10 a11 u12 u13 a14 a15 a16 u17 a18 a19 a20 u21 a22 a23 u24 a25 a26 u27 u28 u29 u30 k4 k7 k8 k10 c4 c7 c8 c10 (nI i) H.size (by assumption) (by assumption) (by assumption) (ix_via (n := 8) (by decide) c_6 hc (Nat.lt_of_le_of_lt hi (Int32.toNatClampNeg_lt _)))) ⟨callB_of 1 hts cg_Md_isWhole rfl rfl rfl (hts _ cw_10) (hts _ cw_957) (by decide +kernel) ⟨Nat.le_of_ble_eq_true rfl, Nat.le_of_ble_eq_true rfl⟩, hts _ cw_959, hts _ cs_27⟩ (cx_preV (C := R_Md) [.int (nI i)] hPc hKc hDc hN hO hS hFc (ci := 6) (q0 := 0) rfl rfl rfl) rfl rfl hl.1 rfl (lv_room (Nat.le_of_ble_eq_true rfl)) d_Md_pack_46 ⟨Nat.le_of_ble_eq_true rfl, Nat.le_of_ble_eq_true rfl⟩)) (fun r z_30 => ?_)
            subst z_30
            refine lv_if_eq (tgt := 56) hx hb d_Md_pack_49 (by decide) (fun c_31 => ?_) (fun c_31 => ?_)
            · refine lv_iconst (v := 0) hx hb d_Md_pack_56 (by decide) ?_
              refine lv_iadd hx hb d_Md_pack_57 ?_
              refine lv_istore_n (lv' := [(3, .int (wc + 0)), (0, .ref h0), (1, .int p0), (2, .int p1), (4, .int (nI i))]) hx hb d_Md_pack_58 rfl hl (by decide) rfl (fun ls hl => ?_)
              refine lv_aload_n hx hb d_Md_pack_59 rfl (lv_at hl 1 rfl) ?_
              refine va_get (D := D) (ci := 6) (v := .ref a23) (C := R_Md) (T := T_Md) (N := 31) hx hb hts in_Md hown hK hP 0 rfl rfl 23 (by decide) (hts _ cw_757) (fun _ h9 => h9) rfl d_Md_pack_60 ?_
              refine lv_iload hx hb d_Md_pack_63 (lv_at hl 4 rfl) ?_
              refine lv_aload_n hx hb d_Md_pack_65 rfl (lv_at hl 1 rfl) ?_
              refine lv_iload hx hb d_Md_pack_66 (lv_at hl 4 rfl) ?_
              have hPc := hP.sub (ws' := [(h0, .inr (6, [.int u0, .ref a1, .int u2, .int u3, .ref a4, .ref a5, .ref a6, .ref a7, .ref a8, .ref a9, .ref a10, .ref a11, .int u12, .int u13, .ref a14, .ref a15, .ref a16, .int u17, .ref a18, .ref a19, .ref a20, .int u21, .ref a22, .ref a23, .int u24, .ref a25, .ref a26, .int u27, .int u28, .int u29, .int u30])), (a4, .inl (k4, 8, .inl c4)), (a7, .inl (k7, 240, .inl c7)), (a8, .inl (k8, 8, .inl c8)), (a10, .inl (k10, 80, .inl c10))]) [0, 1, 4, 5, 6] rfl
              have hDc := hD.sub (ws' := [(h0, .inr (6, [.int u0, .ref a1, .int u2, .int u3, .ref a4, .ref a5, .ref a6, .ref a7, .ref a8, .ref a9, .ref a10, .ref a11, .int u12, .int u13, .ref a14, .ref a15, .ref a16, .int u17, .ref a18, .ref a19, .ref a20, .int u21, .ref a22, .ref a23, .int u24, .ref a25, .ref a26, .int u27, .int u28, .int u29, .int u30])), (a4, .inl (k4, 8, .inl c4)), (a7, .inl (k7, 240, .inl c7)), (a8, .inl (k8, 8, .inl c8)), (a10, .inl (k10, 80, .inl c10))]) [0, 1, 4, 5, 6] (by decide) rfl
              have hKc := hK.sub (tys' := [(k4, .int), (k7, .int), (k8, .int), (k10, .int)]) [0, 3, 4, 5] rfl
              have hFc := va_free (wc := [(h0, .inr (6, [.int u0, .ref a1, .int u2, .int u3, .ref a4, .ref a5, .ref a6, .ref a7, .ref a8, .ref a9, .ref a10, .ref a11, .int u12, .int u13, .ref a14, .ref a15, .ref a16, .int u17, .ref a18, .ref a19, .ref a20, .int u21, .ref a22, .ref a23, .int u24, .ref a25, .ref a26, .int u27, .int u28, .int u29, .int u30])), (a4, .inl (k4, 8, .inl c4)), (a7, .inl (k7, 240, .inl c7)), (a8, .inl (k8, 8, .inl c8)), (a10, .inl (k10, 80, .inl c10))]) hD hS hA [0, 1, 4, 5, 6] rfl
              refine vp_callSi (va_Run.run (va_runV (As := [.int (nI i)]) (rest := [.int (nI i), .ref a23])  ⟨hx, hb, hml, hown, hts⟩ (c_Md_isWhole l D h0 u0 a1 u2 u3 a4 a5 a6 a7 a8 a9 a10 a11 u12 u13 a14 a15 a16 u17 a18 a19 a20 u21 a22 a23 u24 a25 a26 u27 u28 u29 u30 k4 k7 k8 k10 c4 c7 c8 c10 (nI i) H.size (by assumption) (by assumption) (by assumption) (ix_via (n := 8) (by decide) c_6 hc (Nat.lt_of_le_of_lt hi (Int32.toNatClampNeg_lt _)))) ⟨callB_of 1 hts cg_Md_isWhole rfl rfl rfl (hts _ cw_10) (hts _ cw_957) (by decide +kernel) ⟨Nat.le_of_ble_eq_true rfl, Nat.le_of_ble_eq_true rfl⟩, hts _ cw_959, hts _ cs_27⟩ (cx_preV (C := R_Md) [.int (nI i)] hPc hKc hDc hN hO hS hFc (ci := 6) (q0 := 0) rfl rfl rfl) rfl rfl hl.1 rfl (lv_room (Nat.le_of_ble_eq_true rfl)) d_Md_pack_68 ⟨Nat.le_of_ble_eq_true rfl, Nat.le_of_ble_eq_true rfl⟩)) (fun r z_32 => ?_)
              subst z_32
              refine lv_if_eq (tgt := 78) hx hb d_Md_pack_71 (by decide) (fun c_33 => ?_) (fun c_33 => ?_)
              · refine lv_iload_n hx hb d_Md_pack_78 rfl (lv_at hl 3 rfl) ?_
                refine va_iast hx hb hK hP hD hS 8 7 rfl rfl (ix_via (n := 8) (by decide) c_6 hc (Nat.lt_of_le_of_lt hi (Int32.toNatClampNeg_lt _))) d_Md_pack_79 (fun H locs hP hD hS => ?_)
                have hP : va_P D classes ([(h0, .inr (6, [.int u0, .ref a1, .int u2, .int u3, .ref a4, .ref a5, .ref a6, .ref a7, .ref a8, .ref a9, .ref a10, .ref a11, .int u12, .int u13, .ref a14, .ref a15, .ref a16, .int u17, .ref a18, .ref a19, .ref a20, .int u21, .ref a22, .ref a23, .int u24, .ref a25, .ref a26, .int u27, .int u28, .int u29, .int u30])), (a4, .inl (k4, 8, .inl c4)), (a5, .inl (k5, 240, .inl c5)), (a6, .inl (k6, 240, .inl c6)), (a7, .inl (k7, 240, .inl c7)), (a8, .inl (k8, 8, .inl c8)), (a10, .inl (k10, 80, .inl c10)), (a22, .inl (k22, 8, .inl c22)), (a23, .inl (k23, 8, .inl (upd yw ((nI i).toNatClampNeg) p1)))]) H := hP
                have hD : va_D A ([(h0, .inr (6, [.int u0, .ref a1, .int u2, .int u3, .ref a4, .ref a5, .ref a6, .ref a7, .ref a8, .ref a9, .ref a10, .ref a11, .int u12, .int u13, .ref a14, .ref a15, .ref a16, .int u17, .ref a18, .ref a19, .ref a20, .int u21, .ref a22, .ref a23, .int u24, .ref a25, .ref a26, .int u27, .int u28, .int u29, .int u30])), (a4, .inl (k4, 8, .inl c4)), (a5, .inl (k5, 240, .inl c5)), (a6, .inl (k6, 240, .inl c6)), (a7, .inl (k7, 240, .inl c7)), (a8, .inl (k8, 8, .inl c8)), (a10, .inl (k10, 80, .inl c10)), (a22, .inl (k22, 8, .inl c22)), (a23, .inl (k23, 8, .inl (upd yw ((nI i).toNatClampNeg) p1)))]) := hD
                refine lv_iinc (v := nI (i + 1)) (lv' := [(4, .int (nI (i + 1))), (3, .int (wc + 0)), (0, .ref h0), (1, .int p0), (2, .int p1)]) hx hb d_Md_pack_80 hl (k := 4) rfl (nI_1 i) (by decide) rfl (fun ls hl => ?_)
                refine lv_goto (tgt := 33) hx hb d_Md_pack_83 (by decide) ?_
                exact ih_33 (i + 1) (wc + 0) (upd yw ((nI i).toNatClampNeg) p1) (ix_clamp c_6 (Nat.lt_of_le_of_lt hi (Int32.toNatClampNeg_lt _))) (by omega) (hg.trans (by rw [m_pinit]; simp [eq_false c_2, eq_false c_4, eq_false c_6, eq_true c_31, eq_true c_33])) _ _ (hP.sub [0, 1, 2, 3, 4, 5, 6, 7, 8] rfl) (hD.sub [0, 1, 2, 3, 4, 5, 6, 7, 8] (by decide) rfl) hS ls (lv_sub hl [2, 3, 4, 1, 0] rfl)
              · exact absurd c_31 c_33
            · refine lv_iconst (v := 1) hx hb d_Md_pack_52 (by decide) ?_
              refine lv_goto (tgt := 57) hx hb d_Md_pack_53 (by decide) ?_
              refine lv_iadd hx hb d_Md_pack_57 ?_
              refine lv_istore_n (lv' := [(3, .int (wc + 1)), (0, .ref h0), (1, .int p0), (2, .int p1), (4, .int (nI i))]) hx hb d_Md_pack_58 rfl hl (by decide) rfl (fun ls hl => ?_)
              refine lv_aload_n hx hb d_Md_pack_59 rfl (lv_at hl 1 rfl) ?_
              refine va_get (D := D) (ci := 6) (v := .ref a23) (C := R_Md) (T := T_Md) (N := 31) hx hb hts in_Md hown hK hP 0 rfl rfl 23 (by decide) (hts _ cw_757) (fun _ h9 => h9) rfl d_Md_pack_60 ?_
              refine lv_iload hx hb d_Md_pack_63 (lv_at hl 4 rfl) ?_
              refine lv_aload_n hx hb d_Md_pack_65 rfl (lv_at hl 1 rfl) ?_
              refine lv_iload hx hb d_Md_pack_66 (lv_at hl 4 rfl) ?_
              have hPc := hP.sub (ws' := [(h0, .inr (6, [.int u0, .ref a1, .int u2, .int u3, .ref a4, .ref a5, .ref a6, .ref a7, .ref a8, .ref a9, .ref a10, .ref a11, .int u12, .int u13, .ref a14, .ref a15, .ref a16, .int u17, .ref a18, .ref a19, .ref a20, .int u21, .ref a22, .ref a23, .int u24, .ref a25, .ref a26, .int u27, .int u28, .int u29, .int u30])), (a4, .inl (k4, 8, .inl c4)), (a7, .inl (k7, 240, .inl c7)), (a8, .inl (k8, 8, .inl c8)), (a10, .inl (k10, 80, .inl c10))]) [0, 1, 4, 5, 6] rfl
              have hDc := hD.sub (ws' := [(h0, .inr (6, [.int u0, .ref a1, .int u2, .int u3, .ref a4, .ref a5, .ref a6, .ref a7, .ref a8, .ref a9, .ref a10, .ref a11, .int u12, .int u13, .ref a14, .ref a15, .ref a16, .int u17, .ref a18, .ref a19, .ref a20, .int u21, .ref a22, .ref a23, .int u24, .ref a25, .ref a26, .int u27, .int u28, .int u29, .int u30])), (a4, .inl (k4, 8, .inl c4)), (a7, .inl (k7, 240, .inl c7)), (a8, .inl (k8, 8, .inl c8)), (a10, .inl (k10, 80, .inl c10))]) [0, 1, 4, 5, 6] (by decide) rfl
              have hKc := hK.sub (tys' := [(k4, .int), (k7, .int), (k8, .int), (k10, .int)]) [0, 3, 4, 5] rfl
              have hFc := va_free (wc := [(h0, .inr (6, [.int u0, .ref a1, .int u2, .int u3, .ref a4, .ref a5, .ref a6, .ref a7, .ref a8, .ref a9, .ref a10, .ref a11, .int u12, .int u13, .ref a14, .ref a15, .ref a16, .int u17, .ref a18, .ref a19, .ref a20, .int u21, .ref a22, .ref a23, .int u24, .ref a25, .ref a26, .int u27, .int u28, .int u29, .int u30])), (a4, .inl (k4, 8, .inl c4)), (a7, .inl (k7, 240, .inl c7)), (a8, .inl (k8, 8, .inl c8)), (a10, .inl (k10, 80, .inl c10))]) hD hS hA [0, 1, 4, 5, 6] rfl
              refine vp_callSi (va_Run.run (va_runV (As := [.int (nI i)]) (rest := [.int (nI i), .ref a23])  ⟨hx, hb, hml, hown, hts⟩ (c_Md_isWhole l D h0 u0 a1 u2 u3 a4 a5 a6 a7 a8 a9 a10 a11 u12 u13 a14 a15 a16 u17 a18 a19 a20 u21 a22 a23 u24 a25 a26 u27 u28 u29 u30 k4 k7 k8 k10 c4 c7 c8 c10 (nI i) H.size (by assumption) (by assumption) (by assumption) (ix_via (n := 8) (by decide) c_6 hc (Nat.lt_of_le_of_lt hi (Int32.toNatClampNeg_lt _)))) ⟨callB_of 1 hts cg_Md_isWhole rfl rfl rfl (hts _ cw_10) (hts _ cw_957) (by decide +kernel) ⟨Nat.le_of_ble_eq_true rfl, Nat.le_of_ble_eq_true rfl⟩, hts _ cw_959, hts _ cs_27⟩ (cx_preV (C := R_Md) [.int (nI i)] hPc hKc hDc hN hO hS hFc (ci := 6) (q0 := 0) rfl rfl rfl) rfl rfl hl.1 rfl (lv_room (Nat.le_of_ble_eq_true rfl)) d_Md_pack_68 ⟨Nat.le_of_ble_eq_true rfl, Nat.le_of_ble_eq_true rfl⟩)) (fun r z_34 => ?_)
              subst z_34
              refine lv_if_eq (tgt := 78) hx hb d_Md_pack_71 (by decide) (fun c_35 => ?_) (fun c_35 => ?_)
              · exact absurd c_35 c_31
              · refine lv_iconst (v := 0) hx hb d_Md_pack_74 (by decide) ?_
                refine lv_goto (tgt := 79) hx hb d_Md_pack_75 (by decide) ?_
                refine va_iast hx hb hK hP hD hS 8 7 rfl rfl (ix_via (n := 8) (by decide) c_6 hc (Nat.lt_of_le_of_lt hi (Int32.toNatClampNeg_lt _))) d_Md_pack_79 (fun H locs hP hD hS => ?_)
                have hP : va_P D classes ([(h0, .inr (6, [.int u0, .ref a1, .int u2, .int u3, .ref a4, .ref a5, .ref a6, .ref a7, .ref a8, .ref a9, .ref a10, .ref a11, .int u12, .int u13, .ref a14, .ref a15, .ref a16, .int u17, .ref a18, .ref a19, .ref a20, .int u21, .ref a22, .ref a23, .int u24, .ref a25, .ref a26, .int u27, .int u28, .int u29, .int u30])), (a4, .inl (k4, 8, .inl c4)), (a5, .inl (k5, 240, .inl c5)), (a6, .inl (k6, 240, .inl c6)), (a7, .inl (k7, 240, .inl c7)), (a8, .inl (k8, 8, .inl c8)), (a10, .inl (k10, 80, .inl c10)), (a22, .inl (k22, 8, .inl c22)), (a23, .inl (k23, 8, .inl (upd yw ((nI i).toNatClampNeg) 0)))]) H := hP
                have hD : va_D A ([(h0, .inr (6, [.int u0, .ref a1, .int u2, .int u3, .ref a4, .ref a5, .ref a6, .ref a7, .ref a8, .ref a9, .ref a10, .ref a11, .int u12, .int u13, .ref a14, .ref a15, .ref a16, .int u17, .ref a18, .ref a19, .ref a20, .int u21, .ref a22, .ref a23, .int u24, .ref a25, .ref a26, .int u27, .int u28, .int u29, .int u30])), (a4, .inl (k4, 8, .inl c4)), (a5, .inl (k5, 240, .inl c5)), (a6, .inl (k6, 240, .inl c6)), (a7, .inl (k7, 240, .inl c7)), (a8, .inl (k8, 8, .inl c8)), (a10, .inl (k10, 80, .inl c10)), (a22, .inl (k22, 8, .inl c22)), (a23, .inl (k23, 8, .inl (upd yw ((nI i).toNatClampNeg) 0)))]) := hD
                refine lv_iinc (v := nI (i + 1)) (lv' := [(4, .int (nI (i + 1))), (3, .int (wc + 1)), (0, .ref h0), (1, .int p0), (2, .int p1)]) hx hb d_Md_pack_80 hl (k := 4) rfl (nI_1 i) (by decide) rfl (fun ls hl => ?_)
                refine lv_goto (tgt := 33) hx hb d_Md_pack_83 (by decide) ?_
                exact ih_33 (i + 1) (wc + 1) (upd yw ((nI i).toNatClampNeg) 0) (ix_clamp c_6 (Nat.lt_of_le_of_lt hi (Int32.toNatClampNeg_lt _))) (by omega) (hg.trans (by rw [m_pinit]; simp [eq_false c_2, eq_false c_4, eq_false c_6, eq_false c_31, eq_false c_35])) _ _ (hP.sub [0, 1, 2, 3, 4, 5, 6, 7, 8] rfl) (hD.sub [0, 1, 2, 3, 4, 5, 6, 7, 8] (by decide) rfl) hS ls (lv_sub hl [2, 3, 4, 1, 0] rfl)
      exact loop_5 (u0.toNatClampNeg + 1) 0 0 c23 (by omega) (by omega) (rfl) _ _ (hP.sub [0, 1, 2, 3, 4, 5, 6, 7, 8] rfl) (hD.sub [0, 1, 2, 3, 4, 5, 6, 7, 8] (by decide) rfl) hS ls (lv_sub hl [2, 3, 4, 1, 0] rfl)
    · refine lv_ldc2 (v := (-1)) hx hb hown (hts _ cw_956) d_Md_pack_24 ?_
      subst hQ
      have hm : m_mpack (m_mwhole u0 c4 c7 c8 c10) u0 c4 c5 c6 c22 c23 p0 p1 = ((-1), c22, c23) := by simp [m_mpack, eq_false c_2, eq_true c_4]
      rw [hm]
      have hP9 := hP.sub (ws' := [(h0, .inr (6, [.int u0, .ref a1, .int u2, .int u3, .ref a4, .ref a5, .ref a6, .ref a7, .ref a8, .ref a9, .ref a10, .ref a11, .int u12, .int u13, .ref a14, .ref a15, .ref a16, .int u17, .ref a18, .ref a19, .ref a20, .int u21, .ref a22, .ref a23, .int u24, .ref a25, .ref a26, .int u27, .int u28, .int u29, .int u30])), (a4, .inl (k4, 8, .inl c4)), (a5, .inl (k5, 240, .inl c5)), (a6, .inl (k6, 240, .inl c6)), (a7, .inl (k7, 240, .inl c7)), (a8, .inl (k8, 8, .inl c8)), (a10, .inl (k10, 80, .inl c10)), (a22, .inl (k22, 8, .inl c22)), (a23, .inl (k23, 8, .inl c23))]) [0, 1, 2, 3, 4, 5, 6, 7, 8] rfl
      have hD9 := hD.sub (ws' := [(h0, .inr (6, [.int u0, .ref a1, .int u2, .int u3, .ref a4, .ref a5, .ref a6, .ref a7, .ref a8, .ref a9, .ref a10, .ref a11, .int u12, .int u13, .ref a14, .ref a15, .ref a16, .int u17, .ref a18, .ref a19, .ref a20, .int u21, .ref a22, .ref a23, .int u24, .ref a25, .ref a26, .int u27, .int u28, .int u29, .int u30])), (a4, .inl (k4, 8, .inl c4)), (a5, .inl (k5, 240, .inl c5)), (a6, .inl (k6, 240, .inl c6)), (a7, .inl (k7, 240, .inl c7)), (a8, .inl (k8, 8, .inl c8)), (a10, .inl (k10, 80, .inl c10)), (a22, .inl (k22, 8, .inl c22)), (a23, .inl (k23, 8, .inl c23))]) [0, 1, 2, 3, 4, 5, 6, 7, 8] (by decide) rfl
      have hK9 := hK.sub (tys' := [(k4, .int), (k5, .int), (k6, .int), (k7, .int), (k8, .int), (k10, .int), (k22, .int), (k23, .int)]) [0, 1, 2, 3, 4, 5, 6, 7] rfl
      exact W.lret (v := (-1)) hx hb hr (fun t ht hW => ⟨⟨_, (), rfl, rfl, by rw [ht]; exact hP9, va_K.moved hW.alike hK9, hD9⟩, hS.F ht⟩) hS.2.2 d_Md_pack_27
