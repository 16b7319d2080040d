-- pack(): the reference's loop over all ways; both sides' packs
section PKD
variable {wh : Int32 → Int32} {nc : Nat} {chg ch : Nat → Int64} {nu : Nat → Int32} {P p m n : Nat}
theorem q_lvle {δ ε : Nat → Nat} : ∀ n, (∀ j, j < n → ε j ≤ δ j) → q_lv P ε n ≤ q_lv P δ n := by
  intro n
  induction n with
  | zero => intro _; exact Nat.le_refl _
  | succ n ih =>
    intro h
    rw [q_lv, q_lv]
    have h1 := ih (fun j hj => h j (by omega))
    have h2 := h n (by omega)
    have := Nat.mul_le_mul_right (P + 1) h1
    omega
theorem q_inc {δ δ' : Nat → Nat} {j0 : Nat} (h1 : ∀ j, j < j0 → δ' j = δ j) (h2 : δ' j0 = δ j0 + 1) : ∀ r, (∀ j, j0 < j → j < j0 + 1 + r → δ' j = 0 ∧ δ j = P) → q_lv P δ' (j0 + 1 + r) = q_lv P δ (j0 + 1 + r) + 1 := by
  intro r
  induction r with
  | zero => intro _; rw [Nat.add_zero, q_lv, q_lv, q_lv_cong h1, h2]; omega
  | succ r ih =>
    intro h
    obtain ⟨e1, e2⟩ := h (j0 + 1 + r) (by omega) (by omega)
    rw [← Nat.add_assoc, q_lv, q_lv, ih (fun j a b => h j a (by omega)), e1, e2, Nat.add_mul]
    omega
theorem q_Ball {v : Nat} {acc : Option (Nat → Nat)} (h : q_B p P ch m m v acc) (hv : ∀ δ : Nat → Nat, (∀ j, j < m → δ j ≤ P) → q_lv P δ m < v) : q_B p P ch m 0 1 acc := by
  cases acc with
  | none => intro δ h1 h2 _; exact h δ h1 h2 (hv δ h1)
  | some δ0 =>
    obtain ⟨a1, a2, a3, a4⟩ := h
    exact ⟨a1, a2, Nat.lt_succ_self _, fun δ h1 h2 _ => a4 δ h1 h2 (hv δ h1)⟩
theorem q_turnL (wh : Int32 → Int32) (p1 : Int32) : ∀ (n k : Nat) (x : Int32) (w : Nat → Int32), k ≤ 8 → k < n → x.toInt = (k : Int) - 1 →
    ((m_turnL wh p1 n x w).1 < 0 → ∀ c, c < k → ¬ wh (nI c) = 0 → w c = p1) ∧ ∀ m, m < k → (m_turnL wh p1 n x w).1 = nI m → ∀ c, m < c → c < k → ¬ wh (nI c) = 0 → w c = p1 := by
  intro n
  induction n with
  | zero => intro k x w _ h; exact absurd h (Nat.not_lt_zero _)
  | succ n ih =>
    intro k x w hk hn hx
    rw [m_turnL]
    by_cases h0 : x < 0
    · rw [if_pos h0]
      rw [Int32.lt_iff_toInt_lt, Int32.toInt_zero] at h0
      exact ⟨fun _ c hc => by omega, fun m hm => by omega⟩
    · rw [if_neg h0]
      have h0' := h0
      rw [Int32.lt_iff_toInt_lt, Int32.toInt_zero] at h0'
      obtain ⟨j, rfl⟩ : ∃ j, k = j + 1 := ⟨k - 1, by omega⟩
      have ex : x = nI j := Int32.toInt_inj.mp (by rw [nI_toInt (by omega), hx]; omega)
      have ed : (x + (-1)).toInt = (j : Int) - 1 := by rw [m_dec h0, hx]; omega
      have ec : x.toNatClampNeg = j := by rw [ex, nI_clamp (by omega)]
      rw [ec]
      have step : ∀ v : Int32, (¬ wh (nI j) = 0 → w j = p1) → ((m_turnL wh p1 n (x + (-1)) (upd w j v)).1 < 0 → ∀ c, c < j + 1 → ¬ wh (nI c) = 0 → w c = p1) ∧ ∀ m, m < j + 1 → (m_turnL wh p1 n (x + (-1)) (upd w j v)).1 = nI m → ∀ c, m < c → c < j + 1 → ¬ wh (nI c) = 0 → w c = p1 := by
        intro v hv
        obtain ⟨a, b⟩ := ih j (x + (-1)) (upd w j v) (by omega) (by omega) ed
        refine ⟨fun z c hc hw => ?_, fun m hm z c h1 h2 hw => ?_⟩
        · by_cases e : c = j
          · rw [e]; rw [e] at hw; exact hv hw
          · have := a z c (by omega) hw
            rw [pk_un e] at this; exact this
        · by_cases e : c = j
          · rw [e]; rw [e] at hw; exact hv hw
          · have := b m (by omega) z c h1 (by omega) hw
            rw [pk_un e] at this; exact this
      by_cases h1 : wh x = 0
      · rw [if_pos h1]; exact step p1 (fun z => absurd (by rw [← ex]; exact h1) z)
      · rw [if_neg h1]
        by_cases h2 : w j = p1
        · rw [if_pos h2]; exact step 0 (fun _ => h2)
        · rw [if_neg h2]
          refine ⟨fun z => absurd z h0, fun m hm z c h3 h4 => ?_⟩
          have := (nI_eq (by omega) (by omega)).mp (ex.symm.trans z)
          omega
theorem q_turn (hn : nc ≤ 8) (hL : q_L wh nc chg nu ch) (hP : P ≤ 4) {w : Nat → Int32} (hw : m_wayOK wh nc (nI P) w) :
    ((m_mturn wh (nI nc) (nI P) w).1 = 0 ∧ ∀ j, j < q_k wh nc → q_w nu w j = P) ∨ (¬ (m_mturn wh (nI nc) (nI P) w).1 = 0 ∧ q_lv P (q_w nu (m_mturn wh (nI nc) (nI P) w).2) (q_k wh nc) = q_lv P (q_w nu w) (q_k wh nc) + 1) := by
  have e0 : (nI nc - 1).toInt = (nc : Int) - 1 := by
    rw [Int32.toInt_sub, nI_toInt (by omega), show (1 : Int32).toInt = 1 from rfl]
    apply Int.bmod_eq_of_le <;> omega
  have hp := m_turnL_p wh (nI P) (((nI nc - 1).toInt + 1).toNat + 1) nc (nI nc - 1) w hn (by rw [e0]; omega) e0
  have hq := q_turnL wh (nI P) (((nI nc - 1).toInt + 1).toNat + 1) nc (nI nc - 1) w hn (by rw [e0]; omega) e0
  unfold m_mturn
  generalize m_turnL wh (nI P) (((nI nc - 1).toInt + 1).toNat + 1) (nI nc - 1) w = T at hp hq ⊢
  obtain ⟨x, w1⟩ := T
  dsimp only at hp hq ⊢
  by_cases hx : x < 0
  · rw [if_pos hx]
    refine Or.inl ⟨rfl, fun j hj => ?_⟩
    obtain ⟨c, h1, h2, rfl⟩ := q_kex hj
    rw [q_w, q_ic hn hL h1 h2, hq.1 hx c h1 h2, x_c (by omega)]
  · rw [if_neg hx]
    rcases hp with ⟨q, -⟩ | ⟨m0, b1, b2, b3, b4, b5, b6, -⟩
    · exact absurd q hx
    · refine Or.inr ⟨show ¬ (1 : Int32) = 0 by decide, ?_⟩
      dsimp only
      subst b2
      rw [x_c (by omega), b5 m0 (Nat.le_refl _)]
      have hlt := q_klt b1 b3
      obtain ⟨⟨x0, hx0, ex0⟩, -, -⟩ := q_wc hn hL hP hw b1
      have hx1 : x0 < P := by
        have : x0 ≠ P := fun z => b4 (by rw [ex0, z])
        omega
      obtain ⟨r, er⟩ : ∃ r, q_k wh nc = q_k wh m0 + 1 + r := ⟨q_k wh nc - (q_k wh m0 + 1), by omega⟩
      rw [er]
      refine q_inc (fun j hj => ?_) ?_ r (fun j hj1 hj2 => ?_)
      · obtain ⟨c, h1, h2, rfl⟩ := q_kex (show j < q_k wh nc by omega)
        have hcm : c < m0 := by
          rcases Nat.lt_or_ge c m0 with z | z
          · exact z
          · have := q_kmo (wh := wh) z; omega
        rw [q_w, q_w, q_ic hn hL h1 h2, pk_un (by omega), b5 c (by omega)]
      · rw [q_w, q_w, q_ic hn hL b1 b3, pk_us, ex0, nI_1, x_c (by omega), x_c (by omega)]
      · obtain ⟨c, h1, h2, rfl⟩ := q_kex (show j < q_k wh nc by omega)
        have hcm : m0 < c := by
          rcases Nat.lt_or_ge m0 c with z | z
          · exact z
          · have := q_kmo (wh := wh) z; omega
        rw [q_w, q_w, q_ic hn hL h1 h2, pk_un (by omega), b6 c hcm h1, if_neg h2, hq.2 m0 b1 rfl c hcm h1 h2, x_c (by omega)]
        exact ⟨rfl, rfl⟩
/-- the packs that a way gives -/
theorem q_packsW {w : Nat → Int32} {u0 p1 : Int32} : ∀ (n i : Nat) (f : Nat → Int32), 8 < i + n → i ≤ 8 → ∀ c, m_packsW w u0 p1 n i f c = if i ≤ c ∧ c < 8 then (if u0 ≤ nI c ∨ p1 ≤ w c then (-1) else w c) else f c := by
  intro n
  induction n with
  | zero => intro i f h h2; omega
  | succ n ih =>
    intro i f h h2 c
    rw [m_packsW]
    by_cases q : (8 : Int32) ≤ nI i
    · have : 8 ≤ i := (nI_leI (a := 8) (by decide) (by omega)).mp q
      rw [if_pos q, if_neg (show ¬ (i ≤ c ∧ c < 8) by omega)]
    · have hlt : i < 8 := ix_nge (k := 8) q (by decide) (by omega)
      rw [if_neg q, ih (i + 1) _ (by omega) (by omega) c, x_c (by omega)]
      by_cases e : c = i
      · rw [e, if_neg (show ¬ (i + 1 ≤ i ∧ i < 8) by omega), pk_us, if_pos (show i ≤ i ∧ i < 8 by omega)]
      · rw [pk_un e]
        by_cases y : i + 1 ≤ c ∧ c < 8
        · rw [if_pos y, if_pos (show i ≤ c ∧ c < 8 by omega)]
        · rw [if_neg y, if_neg (show ¬ (i ≤ c ∧ c < 8) by omega)]
theorem q_FW (hn : nc ≤ 8) (hL : q_L wh nc chg nu ch) (hP : P ≤ 4) {w pk : Nat → Int32} (hw : m_wayOK wh nc (nI P) w) : q_F P (q_k wh nc) (q_i nu) (q_w nu w) (m_packsW w (nI nc) (nI P) 9 0 pk) := by
  refine ⟨fun j hj => ?_, fun c hc h => ?_⟩
  · have hl := q_wle hn hL hP hw j hj
    obtain ⟨c, h1, h2, rfl⟩ := q_kex hj
    rw [q_ic hn hL h1 h2, q_packsW 9 0 pk (by omega) (by omega) c, if_pos ⟨Nat.zero_le _, by omega⟩, (q_wc hn hL hP hw h1).2.1 h2, q_d]
    by_cases e : q_w nu w (q_k wh c) = P
    · rw [if_pos e, if_pos (Or.inr (by rw [e]; exact Int32.le_refl _))]
    · rw [if_neg e, if_neg (by rintro (z | z); exact nI_ge h1 (by omega) z; exact nI_ge (show q_w nu w (q_k wh c) < P by omega) (by omega) z)]
  · rw [q_packsW 9 0 pk (by omega) (by omega) c, if_pos ⟨Nat.zero_le _, hc⟩]
    by_cases q : nc ≤ c
    · rw [if_pos (Or.inl (nI_le q (by omega)))]
    · by_cases hw0 : wh (nI c) = 0
      · rw [(q_wc hn hL hP hw (show c < nc by omega)).2.2 hw0, if_pos (Or.inr (Int32.le_refl _))]
      · exact absurd (q_ic hn hL (show c < nc by omega) hw0) (h (q_k wh c) (q_klt (by omega) hw0))
def q_X (P m : Nat) (idx : Nat → Nat) (ch : Nat → Int64) (b : Int64) (pk : Nat → Int32) : Option (Nat → Nat) → Prop
  | none => b = -1
  | some δ0 => b.toInt = q_sg ch δ0 m P ∧ q_F P m idx δ0 pk
theorem q_ploop {c4 c5 c6 : Nat → Int32} (hn : nc ≤ 8) (hchg : ∀ c, chg c = m_mcharge (nI nc) c4 c5 c6 (nI c)) (hL : q_L wh nc chg nu ch) (hc : ∀ j, j < q_k wh nc → -1000000000 ≤ (ch j).toInt ∧ (ch j).toInt ≤ 1000000000) (hp1 : 1 ≤ p) (hp : p ≤ 4) (hP : P ≤ 4) :
    ∀ (n : Nat) (b : Int64) (mr : Int32) (w pk : Nat → Int32) (acc : Option (Nat → Nat)), m_wayOK wh nc (nI P) w → m_mm mr (nI nc) (nI P) w < n → (¬ mr = 0 → q_B p P ch (q_k wh nc) (q_k wh nc) (q_lv P (q_w nu w) (q_k wh nc)) acc) → (mr = 0 → q_B p P ch (q_k wh nc) 0 1 acc) → q_X P (q_k wh nc) (q_i nu) ch b pk acc →
    ∀ R, m_ploop wh (nI nc) c4 c5 c6 (nI p) (nI P) n b mr w pk = R → ∃ acc', q_B p P ch (q_k wh nc) 0 1 acc' ∧ q_X P (q_k wh nc) (q_i nu) ch R.1 R.2.2 acc' := by
  have hc0 : ¬ nI nc < 0 := nI_pos (by omega)
  have hc8 : nI nc ≤ 8 := nI_le (b := 8) hn (by decide)
  have hcl : (nI nc).toNatClampNeg = nc := x_c (by omega)
  intro n
  induction n with
  | zero => intro b mr w pk acc _ h; exact absurd h (Nat.not_lt_zero _)
  | succ n ih =>
    intro b mr w pk acc hw hmm h1 h2 hX R hR
    rw [m_ploop] at hR
    by_cases q : mr = 0
    · rw [if_pos q] at hR
      subst hR
      exact ⟨acc, h2 q, hX⟩
    · rw [if_neg q] at hR
      have hB := h1 q
      have hw' := m_mturn_ok (wh := wh) (w := w) (p1 := nI P) hc0 hc8 (by rw [hcl]; exact hw)
      rw [hcl] at hw'
      have hmm' := m_mm_up (wh := wh) (w := w) (p1 := nI P) hc0 hc8 (by rw [hcl]; exact hw) hmm q
      have go : ∀ (b' : Int64) (pk' : Nat → Int32) (acc' : Option (Nat → Nat)), q_B p P ch (q_k wh nc) (q_k wh nc) (q_lv P (q_w nu w) (q_k wh nc) + 1) acc' → q_X P (q_k wh nc) (q_i nu) ch b' pk' acc' → m_ploop wh (nI nc) c4 c5 c6 (nI p) (nI P) n b' (m_mturn wh (nI nc) (nI P) w).1 (m_mturn wh (nI nc) (nI P) w).2 pk' = R → ∃ acc', q_B p P ch (q_k wh nc) 0 1 acc' ∧ q_X P (q_k wh nc) (q_i nu) ch R.1 R.2.2 acc' := by
        intro b' pk' acc' hB' hX' hR'
        refine ih b' _ _ pk' acc' hw' hmm' ?_ ?_ hX' R hR'
        · intro z
          rcases q_turn hn hL hP hw with ⟨t1, -⟩ | ⟨-, t2⟩
          · exact absurd t1 z
          · rw [t2]; exact hB'
        · intro z
          rcases q_turn hn hL hP hw with ⟨-, t2⟩ | ⟨t1, -⟩
          · refine q_Ball hB' (fun δ hδ => ?_)
            have := q_lvle (P := P) (δ := q_w nu w) (ε := δ) (q_k wh nc) (fun j hj => by rw [t2 j hj]; exact hδ j hj)
            omega
          · exact absurd z t1
      have hwl := q_wle hn hL hP hw
      rcases q_own hn hchg hL hc hp1 hp hP hw with ⟨o1, o2⟩ | ⟨o1, o2⟩
      · have hs := q_sg_rng (ch := ch) (δ := q_w nu w) (n := q_k wh nc) hc P
        have hno : ¬ m_own (nI nc) c4 c5 c6 (nI p) (nI P) w < 0 := by rw [Int64.lt_iff_toInt_lt, Int64.toInt_zero]; omega
        by_cases z : ¬ b < 0 ∧ b ≤ m_own (nI nc) c4 c5 c6 (nI p) (nI P) w
        · rw [if_pos (Or.inr z)] at hR
          refine go b pk acc ?_ hX hR
          cases acc with
          | none =>
            have : b = -1 := hX
            exact absurd (by rw [this]; decide) z.1
          | some δ0 =>
            have hb : b.toInt = q_sg ch δ0 (q_k wh nc) P := hX.1
            refine q_Bworse (Nat.le_refl _) hB (by omega) (fun ε e1 e2 e3 e4 => ?_)
            have ea := q_agree hwl e1 (Nat.le_refl _) rfl e3 e4
            rw [q_sg_cong ea]
            have z2 := z.2
            rw [Int64.le_iff_toInt_le] at z2
            omega
        · rw [if_neg (fun y => y.elim hno z)] at hR
          refine go _ _ (some (q_w nu w)) (q_Bnew hB hwl o1 (fun δ0 e0 => ?_)) ⟨o2, q_FW hn hL hP hw⟩ hR
          subst e0
          have hb : b.toInt = q_sg ch δ0 (q_k wh nc) P := hX.1
          have hs0 := q_sg_rng (ch := ch) (δ := δ0) (n := q_k wh nc) hc P
          have hnb : ¬ b < 0 := by rw [Int64.lt_iff_toInt_lt, Int64.toInt_zero]; omega
          have : ¬ b ≤ m_own (nI nc) c4 c5 c6 (nI p) (nI P) w := fun y => z ⟨hnb, y⟩
          rw [Int64.le_iff_toInt_le] at this
          omega
      · rw [if_pos (Or.inl (by rw [o2]; decide))] at hR
        refine go b pk acc (q_Bnone hB (by omega) (fun ε e1 e2 e3 e4 => ?_)) hX hR
        have ea := q_agree hwl e1 (Nat.le_refl _) rfl e3 e4
        apply o1
        intro k hk
        obtain ⟨a1, a2⟩ := e2 k hk
        refine ⟨by rw [← q_cong k ea]; exact a1, fun h0 n hn' hpos => ?_⟩
        have ea' : ∀ j, j < n → ε j = q_w nu w j := fun j hj => ea j (by omega)
        rw [← q_cong _ ea'] at hpos ⊢
        exact a2 h0 n hn' hpos
/-- there is a way, where the cells are enough -/
theorem q_some (hp1 : 1 ≤ p) (hm : p * P ≤ m) : ∃ δ : Nat → Nat, (∀ j, j < m → δ j ≤ P) ∧ q_W p P ch m δ := by
  refine ⟨fun j => if j < p * P then j / p else P, fun j hj => ?_, ?_⟩
  · dsimp only
    by_cases h : j < p * P
    · rw [if_pos h]
      have := (Nat.div_lt_iff_lt_mul (show 0 < p by omega)).mpr (show j < P * p by rw [Nat.mul_comm]; exact h)
      omega
    · rw [if_neg h]; exact Nat.le_refl _
  · have key : ∀ k, k < P → ∀ n, (q_S ch (fun j => if j < p * P then j / p else P) k n).1 = min p (n - k * p) := by
      intro k hk n
      have hkP : k * p + p ≤ p * P := by
        have : (k + 1) * p ≤ P * p := Nat.mul_le_mul_right p hk
        rw [Nat.add_mul, Nat.one_mul, Nat.mul_comm P p] at this
        exact this
      induction n with
      | zero => rw [q_S, Nat.zero_sub]; exact (Nat.min_zero p).symm
      | succ n ih =>
        have hd : ((fun j => if j < p * P then j / p else P) n = k) ↔ (k * p ≤ n ∧ n < k * p + p) := by
          dsimp only
          by_cases h : n < p * P
          · rw [if_pos h]
            have a1 := Nat.le_div_iff_mul_le (x := k) (y := n) (show 0 < p by omega)
            have a2 := Nat.div_lt_iff_lt_mul (x := n) (y := k + 1) (show 0 < p by omega)
            rw [Nat.add_mul, Nat.one_mul] at a2
            omega
          · rw [if_neg h]; omega
        by_cases z : (fun j => if j < p * P then j / p else P) n = k
        · rw [q_at (δ := fun j => if j < p * P then j / p else P) (n := n) z, ih]
          have := hd.mp z
          dsimp only
          omega
        · rw [q_no (δ := fun j => if j < p * P then j / p else P) (n := n) z, ih]
          have : ¬ (k * p ≤ n ∧ n < k * p + p) := fun y => z (hd.mpr y)
          omega
    intro k hk
    refine ⟨?_, fun h0 n hn hpos => ?_⟩
    · rw [key k hk m]
      have : (k + 1) * p ≤ P * p := Nat.mul_le_mul_right p hk
      rw [Nat.add_mul, Nat.one_mul, Nat.mul_comm P p] at this
      omega
    · rw [key k hk n] at hpos
      rw [key (k - 1) (by omega) n]
      have : (k - 1) * p ≤ k * p := Nat.mul_le_mul_right p (by omega)
      omega
theorem q_pinit (hn : nc ≤ 8) {p1 : Int32} : ∀ (n i : Nat) (wc : Int32) (w : Nat → Int32), i ≤ nc → nc < i + n → wc = nI (q_k wh i) → (∀ c, c < i → ¬ wh (nI c) = 0 → w c = 0) → (m_pinit wh (nI nc) p1 n i wc w).1 = nI (q_k wh nc) ∧ ∀ c, c < nc → ¬ wh (nI c) = 0 → (m_pinit wh (nI nc) p1 n i wc w).2 c = 0 := by
  intro n
  induction n with
  | zero => intro i wc w h1 h2; omega
  | succ n ih =>
    intro i wc w h1 h2 hwc hz
    rw [m_pinit]
    by_cases q : nI nc ≤ nI i
    · have := (nI_leI (by omega) (by omega)).mp q
      obtain rfl : i = nc := by omega
      rw [if_pos q]; exact ⟨hwc, hz⟩
    · have hlt := ix_nge q (by omega) (by omega)
      rw [if_neg q, x_c (by omega)]
      refine ih (i + 1) _ _ (by omega) (by omega) ?_ ?_
      · rw [hwc]
        by_cases y : wh (nI i) = 0
        · rw [if_pos y, q_k0 y]; exact Int32.add_zero _
        · rw [if_neg y, q_k1 y, nI_1]
      · intro c hc hw
        by_cases e : c = i
        · rw [e] at hw ⊢; rw [pk_us, if_neg hw]
        · rw [pk_un e]; exact hz c (by omega) hw
end PKD
