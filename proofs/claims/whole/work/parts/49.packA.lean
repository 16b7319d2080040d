-- pack(): ways as digits, what a way's packs are, the first best way
def q_lv (P : Nat) (δ : Nat → Nat) : Nat → Nat
  | 0 => 0
  | n + 1 => q_lv P δ n * (P + 1) + δ n
def q_S (ch : Nat → Int64) (δ : Nat → Nat) (k : Nat) : Nat → Nat × Int64 × Int64
  | 0 => (0, 0, 0)
  | n + 1 => if δ n = k then ((q_S ch δ k n).1 + 1, if (q_S ch δ k n).1 = 0 then ch n else m_minL (q_S ch δ k n).2.1 (ch n), if (q_S ch δ k n).1 = 0 then ch n else m_maxL (q_S ch δ k n).2.2 (ch n)) else q_S ch δ k n
def q_V (ch : Nat → Int64) (δ : Nat → Nat) (n k : Nat) : Int := if (q_S ch δ k n).1 = 0 then 0 else (q_S ch δ k n).2.2.toInt - (q_S ch δ k n).2.1.toInt
def q_sg (ch : Nat → Int64) (δ : Nat → Nat) (n : Nat) : Nat → Int
  | 0 => 0
  | K + 1 => q_sg ch δ n K + q_V ch δ n K
def q_cs (ch : Nat → Int64) (δ : Nat → Nat) (n : Nat) : Nat → Nat
  | 0 => 0
  | K + 1 => q_cs ch δ n K + (q_S ch δ K n).1
section PKA
variable {ch : Nat → Int64} {δ δ' : Nat → Nat} {P n m k p : Nat}
theorem q_cong (k : Nat) : ∀ {n : Nat}, (∀ j, j < n → δ j = δ' j) → q_S ch δ k n = q_S ch δ' k n := by
  intro n
  induction n with
  | zero => intro _; rfl
  | succ n ih => intro h; rw [q_S, q_S, ih (fun j hj => h j (by omega)), h n (by omega)]
theorem q_lv_cong : ∀ {n : Nat}, (∀ j, j < n → δ j = δ' j) → q_lv P δ n = q_lv P δ' n := by
  intro n
  induction n with
  | zero => intro _; rfl
  | succ n ih => intro h; rw [q_lv, q_lv, ih (fun j hj => h j (by omega)), h n (by omega)]
theorem q_sg_cong (h : ∀ j, j < n → δ j = δ' j) : ∀ K, q_sg ch δ n K = q_sg ch δ' n K := by
  intro K
  induction K with
  | zero => rfl
  | succ K ih => rw [q_sg, q_sg, ih, q_V, q_V, q_cong K h]
theorem q_lex {a a' x x' P : Nat} (hx : x ≤ P) (hx' : x' ≤ P) : a * (P + 1) + x < a' * (P + 1) + x' ↔ a < a' ∨ (a = a' ∧ x < x') := by
  rcases Nat.lt_trichotomy a a' with h | h | h
  · have : (a + 1) * (P + 1) ≤ a' * (P + 1) := Nat.mul_le_mul_right _ h
    rw [Nat.add_mul] at this
    exact ⟨fun _ => Or.inl h, fun _ => by omega⟩
  · subst h; exact ⟨fun q => Or.inr ⟨rfl, by omega⟩, fun q => by rcases q with q | q <;> omega⟩
  · have : (a' + 1) * (P + 1) ≤ a * (P + 1) := Nat.mul_le_mul_right _ h
    rw [Nat.add_mul] at this
    exact ⟨fun _ => by omega, fun q => by rcases q with q | q <;> omega⟩
theorem q_lv_mono (h : ∀ j, j < m → δ j ≤ P) (h' : ∀ j, j < m → δ' j ≤ P) : ∀ (d n : Nat), n + d = m → q_lv P δ n < q_lv P δ' n → q_lv P δ m < q_lv P δ' m := by
  intro d
  induction d with
  | zero => intro n h1 h2; rw [← h1]; exact h2
  | succ d ih =>
    intro n h1 h2
    refine ih (n + 1) (by omega) ?_
    rw [q_lv, q_lv, q_lex (h n (by omega)) (h' n (by omega))]
    exact Or.inl h2
theorem q_lv_inj (h : ∀ j, j < m → δ j ≤ P) (h' : ∀ j, j < m → δ' j ≤ P) : ∀ (n : Nat), n ≤ m → q_lv P δ n = q_lv P δ' n → ∀ j, j < n → δ j = δ' j := by
  intro n
  induction n with
  | zero => intro _ _ j hj; exact absurd hj (Nat.not_lt_zero _)
  | succ n ih =>
    intro hn he j hj
    rw [q_lv, q_lv] at he
    have a1 := q_lex (a := q_lv P δ n) (a' := q_lv P δ' n) (h n (by omega)) (h' n (by omega))
    have a2 := q_lex (a := q_lv P δ' n) (a' := q_lv P δ n) (h' n (by omega)) (h n (by omega))
    have e1 : q_lv P δ n = q_lv P δ' n := by
      rcases Nat.lt_trichotomy (q_lv P δ n) (q_lv P δ' n) with q | q | q
      · have := a1.mpr (Or.inl q); omega
      · exact q
      · have := a2.mpr (Or.inl q); omega
    rw [e1] at he
    by_cases q : j = n
    · subst q; omega
    · exact ih (by omega) e1 j (by omega)
theorem q_at (h : δ n = k) : q_S ch δ k (n + 1) = ((q_S ch δ k n).1 + 1, if (q_S ch δ k n).1 = 0 then ch n else m_minL (q_S ch δ k n).2.1 (ch n), if (q_S ch δ k n).1 = 0 then ch n else m_maxL (q_S ch δ k n).2.2 (ch n)) := by rw [q_S, if_pos h]
theorem q_no (h : ¬ δ n = k) : q_S ch δ k (n + 1) = q_S ch δ k n := by rw [q_S, if_neg h]
theorem q_up : (q_S ch δ k n).1 ≤ (q_S ch δ k (n + 1)).1 := by
  by_cases h : δ n = k
  · rw [q_at h]; exact Nat.le_succ _
  · rw [q_no h]; exact Nat.le_refl _
theorem q_ups : ∀ (d n : Nat), (q_S ch δ k n).1 ≤ (q_S ch δ k (n + d)).1 := by
  intro d
  induction d with
  | zero => intro n; exact Nat.le_refl _
  | succ d ih => intro n; exact Nat.le_trans (ih n) (q_up (n := n + d))
theorem q_le (h : n ≤ m) : (q_S ch δ k n).1 ≤ (q_S ch δ k m).1 := by
  obtain ⟨d, rfl⟩ : ∃ d, m = n + d := ⟨m - n, by omega⟩
  exact q_ups d n
theorem q_min (x y : Int64) : (m_minL x y).toInt = min x.toInt y.toInt := by
  unfold m_minL
  split
  · rename_i h; rw [Int64.lt_iff_toInt_lt] at h; omega
  · rename_i h; rw [Int64.lt_iff_toInt_lt] at h; omega
theorem q_max (x y : Int64) : (m_maxL x y).toInt = max x.toInt y.toInt := by
  unfold m_maxL
  split
  · rename_i h; rw [Int64.lt_iff_toInt_lt] at h; omega
  · rename_i h; rw [Int64.lt_iff_toInt_lt] at h; omega
theorem q_rng (hc : ∀ j, j < n → -1000000000 ≤ (ch j).toInt ∧ (ch j).toInt ≤ 1000000000) (k : Nat) : ¬ (q_S ch δ k n).1 = 0 → -1000000000 ≤ (q_S ch δ k n).2.1.toInt ∧ (q_S ch δ k n).2.1.toInt ≤ (q_S ch δ k n).2.2.toInt ∧ (q_S ch δ k n).2.2.toInt ≤ 1000000000 := by
  induction n with
  | zero => intro h; exact absurd rfl h
  | succ n ih =>
    have ih := ih (fun j hj => hc j (by omega))
    have hn := hc n (by omega)
    by_cases h : δ n = k
    · rw [q_at h]
      intro _
      dsimp only
      by_cases q : (q_S ch δ k n).1 = 0
      · rw [if_pos q, if_pos q]; omega
      · rw [if_neg q, if_neg q, q_min, q_max]
        have := ih q
        omega
    · rw [q_no h]; exact ih
theorem q_V0 (hc : ∀ j, j < n → -1000000000 ≤ (ch j).toInt ∧ (ch j).toInt ≤ 1000000000) (k : Nat) : 0 ≤ q_V ch δ n k ∧ q_V ch δ n k ≤ 2000000000 := by
  unfold q_V
  by_cases q : (q_S ch δ k n).1 = 0
  · rw [if_pos q]; omega
  · rw [if_neg q]
    have := q_rng hc k q
    omega
theorem q_Vup (hc : ∀ j, j < n + 1 → -1000000000 ≤ (ch j).toInt ∧ (ch j).toInt ≤ 1000000000) (k : Nat) : q_V ch δ n k ≤ q_V ch δ (n + 1) k := by
  by_cases h : δ n = k
  · have h2 := q_V0 (δ := δ) hc k
    unfold q_V at h2 ⊢
    rw [q_at h] at h2 ⊢
    dsimp only at h2 ⊢
    by_cases q : (q_S ch δ k n).1 = 0
    · rw [if_pos q]; exact h2.1
    · rw [if_neg q, if_neg (by omega), if_neg q, if_neg q, q_min, q_max]; omega
  · unfold q_V; rw [q_no h]; exact Int.le_refl _
theorem q_sg_up (hc : ∀ j, j < n + 1 → -1000000000 ≤ (ch j).toInt ∧ (ch j).toInt ≤ 1000000000) : ∀ K, q_sg ch δ n K ≤ q_sg ch δ (n + 1) K := by
  intro K
  induction K with
  | zero => exact Int.le_refl _
  | succ K ih =>
    rw [q_sg, q_sg]
    have := q_Vup (δ := δ) hc K
    omega
theorem q_sg_le (hc : ∀ j, j < m → -1000000000 ≤ (ch j).toInt ∧ (ch j).toInt ≤ 1000000000) (K : Nat) : ∀ (d n : Nat), n + d = m → q_sg ch δ n K ≤ q_sg ch δ m K := by
  intro d
  induction d with
  | zero => intro n h; rw [← h]; exact Int.le_refl _
  | succ d ih => intro n h; exact Int.le_trans (q_sg_up (fun j hj => hc j (by omega)) K) (ih (n + 1) (by omega))
theorem q_sg_rng (hc : ∀ j, j < n → -1000000000 ≤ (ch j).toInt ∧ (ch j).toInt ≤ 1000000000) : ∀ K, 0 ≤ q_sg ch δ n K ∧ q_sg ch δ n K ≤ 2000000000 * K := by
  intro K
  induction K with
  | zero => exact ⟨Int.le_refl _, Int.le_refl _⟩
  | succ K ih =>
    rw [q_sg]
    have := q_V0 (δ := δ) hc K
    omega
theorem q_sg_at : ∀ K, q_sg ch δ (n + 1) K = q_sg ch δ n K + (if δ n < K then q_V ch δ (n + 1) (δ n) - q_V ch δ n (δ n) else 0) := by
  intro K
  induction K with
  | zero => rw [q_sg, q_sg, if_neg (Nat.not_lt_zero _)]; omega
  | succ K ih =>
    rw [q_sg, q_sg, ih]
    by_cases h : δ n = K
    · rw [if_neg (by omega), if_pos (by omega), h]; omega
    · have e : q_V ch δ (n + 1) K = q_V ch δ n K := by unfold q_V; rw [q_no h]
      rw [e]
      by_cases q : δ n < K
      · rw [if_pos q, if_pos (by omega)]; omega
      · rw [if_neg q, if_neg (by omega)]; omega
theorem q_cs_at : ∀ K, q_cs ch δ (n + 1) K = q_cs ch δ n K + (if δ n < K then 1 else 0) := by
  intro K
  induction K with
  | zero => rfl
  | succ K ih =>
    rw [q_cs, q_cs, ih]
    by_cases h : δ n = K
    · rw [if_neg (by omega), if_pos (by omega), q_at h]; omega
    · rw [q_no h]
      by_cases q : δ n < K
      · rw [if_pos q, if_pos (by omega)]; omega
      · rw [if_neg q, if_neg (by omega)]; omega
theorem q_cs_le (K : Nat) : ∀ (d n : Nat), q_cs ch δ (n + d) K ≤ q_cs ch δ n K + d := by
  intro d
  induction d with
  | zero => intro n; exact Nat.le_refl _
  | succ d ih =>
    intro n
    rw [← Nat.add_assoc, q_cs_at]
    have := ih n
    by_cases q : δ (n + d) < K
    · rw [if_pos q]; omega
    · rw [if_neg q]; omega
theorem q_cs_eq (h : ∀ k, k < P → (q_S ch δ k n).1 = p) : q_cs ch δ n P = p * P := by
  induction P with
  | zero => rfl
  | succ K ih => rw [q_cs, ih (fun k hk => h k (by omega)), h K (by omega), Nat.mul_succ]
theorem q_cs_max (h : ∀ k, k < P → (q_S ch δ k n).1 ≤ p) : q_cs ch δ n P ≤ p * P ∧ (q_cs ch δ n P = p * P → ∀ k, k < P → (q_S ch δ k n).1 = p) := by
  induction P with
  | zero => exact ⟨Nat.le_refl _, fun _ k hk => absurd hk (Nat.not_lt_zero _)⟩
  | succ K ih =>
    obtain ⟨a, b⟩ := ih (fun k hk => h k (by omega))
    have hK := h K (by omega)
    rw [q_cs, Nat.mul_succ]
    refine ⟨by omega, fun e k hk => ?_⟩
    by_cases q : k = K
    · subst q; omega
    · exact b (by omega) k (by omega)
/-- a way whose packs are due -/
def q_W (p P : Nat) (ch : Nat → Int64) (m : Nat) (δ : Nat → Nat) : Prop := ∀ k, k < P → (q_S ch δ k m).1 = p ∧ (0 < k → ∀ n, n ≤ m → 0 < (q_S ch δ k n).1 → 0 < (q_S ch δ (k - 1) n).1)
/-- the first best of the ways whose first n digits are below v -/
def q_B (p P : Nat) (ch : Nat → Int64) (m n v : Nat) : Option (Nat → Nat) → Prop
  | none => ∀ δ, (∀ j, j < m → δ j ≤ P) → q_W p P ch m δ → ¬ q_lv P δ n < v
  | some δ0 => (∀ j, j < m → δ0 j ≤ P) ∧ q_W p P ch m δ0 ∧ q_lv P δ0 n < v ∧ ∀ δ, (∀ j, j < m → δ j ≤ P) → q_W p P ch m δ → q_lv P δ n < v → q_sg ch δ0 m P < q_sg ch δ m P ∨ (q_sg ch δ0 m P = q_sg ch δ m P ∧ q_lv P δ0 m ≤ q_lv P δ m)
theorem q_Bnone {v v' : Nat} {acc : Option (Nat → Nat)} (h : q_B p P ch m n v acc) (hv : v ≤ v') (hno : ∀ δ, (∀ j, j < m → δ j ≤ P) → q_W p P ch m δ → v ≤ q_lv P δ n → ¬ q_lv P δ n < v') : q_B p P ch m n v' acc := by
  cases acc with
  | none =>
    intro δ h1 h2 h3
    by_cases q : q_lv P δ n < v
    · exact h δ h1 h2 q
    · exact hno δ h1 h2 (by omega) h3
  | some δ0 =>
    obtain ⟨a1, a2, a3, a4⟩ := h
    refine ⟨a1, a2, by omega, fun δ h1 h2 h3 => ?_⟩
    by_cases q : q_lv P δ n < v
    · exact a4 δ h1 h2 q
    · exact absurd h3 (hno δ h1 h2 (by omega))
/-- ways that are no better -/
theorem q_Bworse {v v' : Nat} {δ0 : Nat → Nat} (hn : n ≤ m) (h : q_B p P ch m n v (some δ0)) (hv : v ≤ v') (hno : ∀ δ, (∀ j, j < m → δ j ≤ P) → q_W p P ch m δ → v ≤ q_lv P δ n → q_lv P δ n < v' → q_sg ch δ0 m P ≤ q_sg ch δ m P) : q_B p P ch m n v' (some δ0) := by
  obtain ⟨a1, a2, a3, a4⟩ := h
  refine ⟨a1, a2, by omega, fun δ h1 h2 h3 => ?_⟩
  by_cases q : q_lv P δ n < v
  · exact a4 δ h1 h2 q
  · have := hno δ h1 h2 (by omega) h3
    have hl := q_lv_mono a1 h1 (m - n) n (by omega) (show q_lv P δ0 n < q_lv P δ n by omega)
    omega
theorem q_Bdn {v : Nat} {acc : Option (Nat → Nat)} (hn : n < m) : q_B p P ch m n v acc ↔ q_B p P ch m (n + 1) (v * (P + 1)) acc := by
  have key : ∀ δ : Nat → Nat, (∀ j, j < m → δ j ≤ P) → (q_lv P δ (n + 1) < v * (P + 1) ↔ q_lv P δ n < v) := fun δ h => by
    have := q_lex (a := q_lv P δ n) (a' := v) (x := δ n) (x' := 0) (P := P) (h n hn) (Nat.zero_le _)
    rw [q_lv]
    exact ⟨fun q => (this.mp (by omega)).elim id (fun z => absurd z.2 (Nat.not_lt_zero _)), fun q => by have := this.mpr (Or.inl q); omega⟩
  cases acc with
  | none =>
    constructor
    · intro h δ h1 h2 h3; exact h δ h1 h2 ((key δ h1).mp h3)
    · intro h δ h1 h2 h3; exact h δ h1 h2 ((key δ h1).mpr h3)
  | some δ0 =>
    constructor
    · rintro ⟨a1, a2, a3, a4⟩; exact ⟨a1, a2, (key δ0 a1).mpr a3, fun δ h1 h2 h3 => a4 δ h1 h2 ((key δ h1).mp h3)⟩
    · rintro ⟨a1, a2, a3, a4⟩; exact ⟨a1, a2, (key δ0 a1).mp a3, fun δ h1 h2 h3 => a4 δ h1 h2 ((key δ h1).mpr h3)⟩
/-- one way more, all its digits told: it is due and better -/
theorem q_Bnew {acc : Option (Nat → Nat)} (h : q_B p P ch m m (q_lv P δ m) acc) (h1 : ∀ j, j < m → δ j ≤ P) (h2 : q_W p P ch m δ) (hb : ∀ δ0, acc = some δ0 → q_sg ch δ m P < q_sg ch δ0 m P) : q_B p P ch m m (q_lv P δ m + 1) (some δ) := by
  refine ⟨h1, h2, by omega, fun δ1 q1 q2 q3 => ?_⟩
  by_cases q : q_lv P δ1 m < q_lv P δ m
  · cases acc with
    | none => exact absurd q (h δ1 q1 q2)
    | some δ0 =>
      have a := h.2.2.2 δ1 q1 q2 q
      have b := hb δ0 rfl
      omega
  · have e : q_lv P δ m = q_lv P δ1 m := by omega
    exact Or.inr ⟨q_sg_cong (q_lv_inj h1 q1 m (Nat.le_refl _) e) P, by omega⟩
theorem q_Buni {v : Nat} {a b : Option (Nat → Nat)} (hm : n ≤ m) (ha : q_B p P ch m n v a) (hb : q_B p P ch m n v b) : (a = none ∧ b = none) ∨ ∃ δ0 δ1, a = some δ0 ∧ b = some δ1 ∧ (∀ j, j < m → δ0 j = δ1 j) := by
  cases a with
  | none =>
    cases b with
    | none => exact Or.inl ⟨rfl, rfl⟩
    | some δ1 => exact absurd hb.2.2.1 (ha δ1 hb.1 hb.2.1)
  | some δ0 =>
    cases b with
    | none => exact absurd ha.2.2.1 (hb δ0 ha.1 ha.2.1)
    | some δ1 =>
      have h1 := ha.2.2.2 δ1 hb.1 hb.2.1 hb.2.2.1
      have h2 := hb.2.2.2 δ0 ha.1 ha.2.1 ha.2.2.1
      exact Or.inr ⟨δ0, δ1, rfl, rfl, q_lv_inj ha.1 hb.1 m (Nat.le_refl _) (by omega)⟩
end PKA
