-- pack(): what the reference's loop finds
def q_k (wh : Int32 → Int32) : Nat → Nat
  | 0 => 0
  | c + 1 => q_k wh c + (if wh (nI c) = 0 then 0 else 1)
section PKC
variable {wh : Int32 → Int32} {nc : Nat}
theorem q_k1 {c : Nat} (h : ¬ wh (nI c) = 0) : q_k wh (c + 1) = q_k wh c + 1 := by rw [q_k, if_neg h]
theorem q_k0 {c : Nat} (h : wh (nI c) = 0) : q_k wh (c + 1) = q_k wh c := by rw [q_k, if_pos h, Nat.add_zero]
theorem q_kle (c : Nat) : q_k wh c ≤ c := by
  induction c with
  | zero => exact Nat.le_refl _
  | succ c ih =>
    by_cases h : wh (nI c) = 0
    · rw [q_k0 h]; omega
    · rw [q_k1 h]; omega
theorem q_kup : ∀ (d c : Nat), q_k wh c ≤ q_k wh (c + d) := by
  intro d
  induction d with
  | zero => intro c; exact Nat.le_refl _
  | succ d ih =>
    intro c
    have := ih c
    rw [← Nat.add_assoc]
    by_cases h : wh (nI (c + d)) = 0
    · rw [q_k0 h]; exact this
    · rw [q_k1 h]; omega
theorem q_kmo {a b : Nat} (h : a ≤ b) : q_k wh a ≤ q_k wh b := by
  obtain ⟨d, rfl⟩ : ∃ d, b = a + d := ⟨b - a, by omega⟩
  exact q_kup d a
theorem q_klt {a b : Nat} (h : a < b) (hw : ¬ wh (nI a) = 0) : q_k wh a < q_k wh b := by
  have := q_kmo (wh := wh) (show a + 1 ≤ b from h)
  rw [q_k1 hw] at this
  omega
theorem q_kex : ∀ {nc j : Nat}, j < q_k wh nc → ∃ c, c < nc ∧ ¬ wh (nI c) = 0 ∧ q_k wh c = j := by
  intro nc
  induction nc with
  | zero => intro j h; exact absurd h (Nat.not_lt_zero _)
  | succ c ih =>
    intro j h
    by_cases hw : wh (nI c) = 0
    · rw [q_k0 hw] at h
      obtain ⟨c', h1, h2⟩ := ih h
      exact ⟨c', by omega, h2⟩
    · rw [q_k1 hw] at h
      by_cases e : j = q_k wh c
      · exact ⟨c, by omega, hw, e.symm⟩
      · obtain ⟨c', h1, h2⟩ := ih (show j < q_k wh c by omega)
        exact ⟨c', by omega, h2⟩
/-- the list of the whole cells -/
def q_L (wh : Int32 → Int32) (nc : Nat) (chg : Nat → Int64) (nu : Nat → Int32) (ch : Nat → Int64) : Prop := ∀ c, c < nc → ¬ wh (nI c) = 0 → nu (q_k wh c) = nI c ∧ ch (q_k wh c) = chg c
def q_i (nu : Nat → Int32) (j : Nat) : Nat := (nu j).toNatClampNeg
section PKL
variable {chg ch : Nat → Int64} {nu : Nat → Int32}
theorem q_ic (hn : nc ≤ 8) (hL : q_L wh nc chg nu ch) {c : Nat} (hc : c < nc) (hw : ¬ wh (nI c) = 0) : q_i nu (q_k wh c) = c := by
  rw [q_i, (hL c hc hw).1, x_c (by omega)]
theorem q_in8 (hn : nc ≤ 8) (hL : q_L wh nc chg nu ch) : ∀ j, j < q_k wh nc → nu j = nI (q_i nu j) ∧ q_i nu j < 8 := by
  intro j hj
  obtain ⟨c, h1, h2, rfl⟩ := q_kex hj
  rw [q_ic hn hL h1 h2]
  exact ⟨(hL c h1 h2).1, by omega⟩
theorem q_iord (hn : nc ≤ 8) (hL : q_L wh nc chg nu ch) {i j : Nat} (hi : i < q_k wh nc) (hj : j < q_k wh nc) : q_i nu i ≤ q_i nu j ↔ i ≤ j := by
  obtain ⟨c, h1, h2, rfl⟩ := q_kex hi
  obtain ⟨c', h3, h4, rfl⟩ := q_kex hj
  rw [q_ic hn hL h1 h2, q_ic hn hL h3 h4]
  constructor
  · intro h; exact q_kmo h
  · intro h
    rcases Nat.lt_or_ge c' c with q | q
    · have := q_klt q h4; omega
    · exact q
theorem q_iinj (hn : nc ≤ 8) (hL : q_L wh nc chg nu ch) : ∀ i j, i < q_k wh nc → j < q_k wh nc → q_i nu i = q_i nu j → i = j := by
  intro i j hi hj he
  have a := (q_iord hn hL hi hj).mp (by omega)
  have b := (q_iord hn hL hj hi).mp (by omega)
  omega
/-- a way's digits -/
def q_w (nu w : Nat → Int32) (j : Nat) : Nat := (w (q_i nu j)).toNatClampNeg
theorem q_wc (hn : nc ≤ 8) (hL : q_L wh nc chg nu ch) {w : Nat → Int32} {P : Nat} (hP : P ≤ 4) (hw : m_wayOK wh nc (nI P) w) {c : Nat} (hc : c < nc) : (∃ x, x ≤ P ∧ w c = nI x) ∧ (¬ wh (nI c) = 0 → w c = nI (q_w nu w (q_k wh c))) ∧ (wh (nI c) = 0 → w c = nI P) := by
  obtain ⟨h1, h2, h3⟩ := hw c hc
  obtain ⟨x, hx, e⟩ := nI_of h1
  rw [e] at h2
  have h4 := (nI_leI hx (by omega)).mp h2
  refine ⟨⟨x, h4, e⟩, fun z => ?_, h3⟩
  rw [q_w, q_ic hn hL hc z, e, x_c (by omega)]
theorem q_wle (hn : nc ≤ 8) (hL : q_L wh nc chg nu ch) {w : Nat → Int32} {P : Nat} (hP : P ≤ 4) (hw : m_wayOK wh nc (nI P) w) : ∀ j, j < q_k wh nc → q_w nu w j ≤ P := by
  intro j hj
  obtain ⟨c, h1, h2, rfl⟩ := q_kex hj
  obtain ⟨⟨x, h3, h4⟩, -, -⟩ := q_wc hn hL hP hw h1
  rw [q_w, q_ic hn hL h1 h2, h4, x_c (by omega)]
  exact h3
section PKR
variable {c4 c5 c6 w : Nat → Int32} {P p : Nat}
/-- one pack of a way, as the reference looks at it -/
theorem q_spr (hn : nc ≤ 8) (hchg : ∀ c, chg c = m_mcharge (nI nc) c4 c5 c6 (nI c)) (hL : q_L wh nc chg nu ch) (hP : P ≤ 4) (hw : m_wayOK wh nc (nI P) w) {k : Nat} (hk : k < P) : ∀ (n c : Nat) (ct fi : Int32) (le mo : Int64), c ≤ nc → nc < c + n →
    (ct = nI (q_S ch (q_w nu w) k (q_k wh c)).1 ∧ le = (q_S ch (q_w nu w) k (q_k wh c)).2.1 ∧ mo = (q_S ch (q_w nu w) k (q_k wh c)).2.2 ∧ (0 < (q_S ch (q_w nu w) k (q_k wh c)).1 → ∃ f, f < q_k wh c ∧ fi = nI (q_i nu f) ∧ ∀ n, n ≤ q_k wh c → (0 < (q_S ch (q_w nu w) k n).1 ↔ f < n))) →
    ∀ R, m_sprI (nI nc) c4 c5 c6 w k n c ct fi le mo = R →
    (R.1 = nI (q_S ch (q_w nu w) k (q_k wh nc)).1 ∧ R.2.2.1 = (q_S ch (q_w nu w) k (q_k wh nc)).2.1 ∧ R.2.2.2 = (q_S ch (q_w nu w) k (q_k wh nc)).2.2 ∧ (0 < (q_S ch (q_w nu w) k (q_k wh nc)).1 → ∃ f, f < q_k wh nc ∧ R.2.1 = nI (q_i nu f) ∧ ∀ n, n ≤ q_k wh nc → (0 < (q_S ch (q_w nu w) k n).1 ↔ f < n))) := by
  intro n
  induction n with
  | zero => intro c ct fi le mo h1 h2; omega
  | succ n ih =>
    intro c ct fi le mo h1 h2 hI R hR
    rw [m_sprI] at hR
    by_cases q : nI nc ≤ nI c
    · have := (nI_leI (by omega) (by omega)).mp q
      obtain rfl : c = nc := by omega
      rw [if_pos q] at hR
      subst hR
      obtain ⟨i1, i2, i3, i4⟩ := hI
      exact ⟨i1, i2, i3, i4⟩
    · have hlt := ix_nge q (by omega) (by omega)
      rw [if_neg q, x_c (by omega)] at hR
      obtain ⟨i1, i2, i3, i4⟩ := hI
      obtain ⟨⟨x, hx, ex⟩, hwh, hnw⟩ := q_wc hn hL hP hw hlt
      have hle : (q_S ch (q_w nu w) k (q_k wh c)).1 ≤ q_k wh c := by
        have : ∀ n, (q_S ch (q_w nu w) k n).1 ≤ n := fun n => by
          induction n with
          | zero => exact Nat.le_refl _
          | succ n ih =>
            by_cases z : q_w nu w n = k
            · rw [q_at z]; dsimp only; omega
            · rw [q_no z]; omega
        exact this _
      have hkc := q_kle (wh := wh) c
      by_cases q2 : w c = nI k
      · have hwc : ¬ wh (nI c) = 0 := fun z => by
          have := (nI_eq (by omega) (by omega)).mp ((hnw z).symm.trans q2)
          omega
        have hd : q_w nu w (q_k wh c) = k := by
          have := (nI_eq (a := q_w nu w (q_k wh c)) (b := k) ?_ (by omega)).mp ((hwh hwc).symm.trans q2)
          · exact this
          · have := q_wle hn hL hP hw (q_k wh c) (q_klt hlt hwc); omega
        rw [if_pos q2] at hR
        refine ih (c + 1) _ _ _ _ (by omega) (by omega) ?_ R hR
        rw [q_k1 hwc, q_at hd, (hL c hlt hwc).2, hchg c]
        dsimp only
        have e0 : ct = 0 ↔ (q_S ch (q_w nu w) k (q_k wh c)).1 = 0 := by
          rw [i1]
          exact ⟨fun z => (nI_eq (b := 0) (by omega) (by decide)).mp z, fun z => by rw [z]; rfl⟩
        refine ⟨by rw [i1, nI_1], ?_, ?_, fun _ => ?_⟩
        · by_cases z : (q_S ch (q_w nu w) k (q_k wh c)).1 = 0
          · rw [if_pos (Or.inl (e0.mpr z)), if_pos z]
          · rw [if_neg z, m_minL, ← i2]
            by_cases y : le ≤ m_mcharge (nI nc) c4 c5 c6 (nI c)
            · rw [if_neg (by rintro (t | t); exact z (e0.mp t); exact t y), if_neg (by rw [Int64.lt_iff_toInt_lt]; rw [Int64.le_iff_toInt_le] at y; omega)]
            · rw [if_pos (Or.inr y), if_pos (by rw [Int64.lt_iff_toInt_lt]; rw [Int64.le_iff_toInt_le] at y; omega)]
        · by_cases z : (q_S ch (q_w nu w) k (q_k wh c)).1 = 0
          · rw [if_pos (Or.inl (e0.mpr z)), if_pos z]
          · rw [if_neg z, m_maxL, ← i3]
            by_cases y : m_mcharge (nI nc) c4 c5 c6 (nI c) ≤ mo
            · rw [if_neg (by rintro (t | t); exact z (e0.mp t); exact t y)]
              by_cases t : m_mcharge (nI nc) c4 c5 c6 (nI c) < mo
              · rw [if_pos t]
              · rw [if_neg t]
                rw [Int64.lt_iff_toInt_lt] at t
                rw [Int64.le_iff_toInt_le] at y
                exact Int64.toInt_inj.mp (by omega)
            · rw [if_pos (Or.inr y), if_neg (by rw [Int64.lt_iff_toInt_lt]; rw [Int64.le_iff_toInt_le] at y; omega)]
        · by_cases z : (q_S ch (q_w nu w) k (q_k wh c)).1 = 0
          · rw [if_pos (e0.mpr z)]
            refine ⟨q_k wh c, by omega, by rw [q_ic hn hL hlt hwc], fun n hn' => ?_⟩
            by_cases y : n = q_k wh c + 1
            · rw [y, q_at hd]; dsimp only; omega
            · have := q_le (ch := ch) (δ := q_w nu w) (k := k) (show n ≤ q_k wh c by omega)
              omega
          · rw [if_neg (fun t => z (e0.mp t))]
            obtain ⟨f, f1, f2, f3⟩ := i4 (Nat.pos_of_ne_zero z)
            refine ⟨f, by omega, f2, fun n hn' => ?_⟩
            by_cases y : n = q_k wh c + 1
            · rw [y, q_at hd]; dsimp only; omega
            · exact f3 n (by omega)
      · rw [if_neg q2] at hR
        refine ih (c + 1) _ _ _ _ (by omega) (by omega) ?_ R hR
        by_cases hwc : wh (nI c) = 0
        · rw [q_k0 hwc]; exact ⟨i1, i2, i3, i4⟩
        · have hd : ¬ q_w nu w (q_k wh c) = k := fun z => q2 (by rw [hwh hwc, z])
          rw [q_k1 hwc, q_no hd]
          refine ⟨i1, i2, i3, fun z => ?_⟩
          obtain ⟨f, f1, f2, f3⟩ := i4 z
          refine ⟨f, by omega, f2, fun n hn' => ?_⟩
          by_cases y : n = q_k wh c + 1
          · rw [y, q_no hd]; exact ⟨fun _ => by omega, fun _ => z⟩
          · exact f3 n (by omega)
theorem q_sp (hn : nc ≤ 8) (hchg : ∀ c, chg c = m_mcharge (nI nc) c4 c5 c6 (nI c)) (hL : q_L wh nc chg nu ch) (hc : ∀ j, j < q_k wh nc → -1000000000 ≤ (ch j).toInt ∧ (ch j).toInt ≤ 1000000000) (hp1 : 1 ≤ p) (hp : p ≤ 4) (hP : P ≤ 4) (hw : m_wayOK wh nc (nI P) w) : ∀ (n k : Nat) (s : Int64) (bf : Int32), k ≤ P → P < k + n → s.toInt = q_sg ch (q_w nu w) (q_k wh nc) k →
    (∀ k', k' < k → (q_S ch (q_w nu w) k' (q_k wh nc)).1 = p ∧ (0 < k' → ∀ n, n ≤ q_k wh nc → 0 < (q_S ch (q_w nu w) k' n).1 → 0 < (q_S ch (q_w nu w) (k' - 1) n).1)) → (k = 0 → bf = -1) → (0 < k → ∃ f, f < q_k wh nc ∧ bf = nI (q_i nu f) ∧ ∀ n, n ≤ q_k wh nc → (0 < (q_S ch (q_w nu w) (k - 1) n).1 ↔ f < n)) →
    (q_W p P ch (q_k wh nc) (q_w nu w) ∧ (m_spr (nI nc) c4 c5 c6 w (nI p) (nI P) n k s bf).toInt = q_sg ch (q_w nu w) (q_k wh nc) P) ∨ (¬ q_W p P ch (q_k wh nc) (q_w nu w) ∧ m_spr (nI nc) c4 c5 c6 w (nI p) (nI P) n k s bf = -1) := by
  intro n
  induction n with
  | zero => intro k s bf h1 h2; omega
  | succ n ih =>
    intro k s bf h1 h2 hs hv hb0 hb1
    rw [m_spr]
    by_cases q : nI P ≤ nI k
    · have := (nI_leI (by omega) (by omega)).mp q
      obtain rfl : k = P := by omega
      rw [if_pos q]
      exact Or.inl ⟨hv, hs⟩
    · have hk := ix_nge q (by omega) (by omega)
      rw [if_neg q, x_c (show nc < 1000 by omega)]
      have hm8 := q_kle (wh := wh) nc
      obtain ⟨r1, r2, r3, r4⟩ := q_spr hn hchg hL hP hw hk (nc + 1) 0 0 (-1) 0 0 (Nat.zero_le _) (by omega) ⟨rfl, rfl, rfl, fun z => absurd z (Nat.lt_irrefl _)⟩ _ rfl
      generalize m_sprI (nI nc) c4 c5 c6 w k (nc + 1) 0 0 (-1) 0 0 = R at r1 r2 r3 r4 ⊢
      have hle : (q_S ch (q_w nu w) k (q_k wh nc)).1 ≤ q_k wh nc := by
        have : ∀ n, (q_S ch (q_w nu w) k n).1 ≤ n := fun n => by
          induction n with
          | zero => exact Nat.le_refl _
          | succ n ih =>
            by_cases z : q_w nu w n = k
            · rw [q_at z]; dsimp only; omega
            · rw [q_no z]; omega
        exact this _
      by_cases q2 : (q_S ch (q_w nu w) k (q_k wh nc)).1 = p
      · rw [if_pos (show R.1 = nI p by rw [r1, q2])]
        obtain ⟨f, f1, f2, f3⟩ := r4 (by omega)
        have hord : bf ≤ R.2.1 ↔ (0 < k → ∀ n, n ≤ q_k wh nc → 0 < (q_S ch (q_w nu w) k n).1 → 0 < (q_S ch (q_w nu w) (k - 1) n).1) := by
          by_cases k0 : k = 0
          · rw [hb0 k0, f2]
            refine ⟨fun _ z => absurd z (by omega), fun _ => ?_⟩
            have := (q_in8 hn hL f f1).2
            rw [Int32.le_iff_toInt_le, nI_toInt (by omega), show (-1 : Int32).toInt = -1 from rfl]; omega
          · obtain ⟨g, g1, g2, g3⟩ := hb1 (by omega)
            have a1 := (q_in8 hn hL f f1).2
            have a2 := (q_in8 hn hL g g1).2
            rw [g2, f2, nI_leI (by omega) (by omega), q_iord hn hL g1 f1]
            constructor
            · intro z _ n hn' y
              rw [g3 n hn']; have := (f3 n hn').mp y; omega
            · intro z
              have := z (by omega) (f + 1) (by omega) ((f3 (f + 1) (by omega)).mpr (by omega))
              have := (g3 (f + 1) (by omega)).mp this
              omega
        by_cases q3 : bf ≤ R.2.1
        · rw [if_pos q3]
          refine ih (k + 1) _ _ (by omega) (by omega) ?_ ?_ (fun z => absurd z (by omega)) (fun _ => ⟨f, f1, f2, f3⟩)
          · have h3 := q_sg_rng (ch := ch) (δ := q_w nu w) (n := q_k wh nc) hc k
            have h4 := q_rng (ch := ch) (δ := q_w nu w) (n := q_k wh nc) hc k (by omega)
            rw [r2, r3, q_sg, q_V, if_neg (by omega)]
            have t1 : ((q_S ch (q_w nu w) k (q_k wh nc)).2.2 - (q_S ch (q_w nu w) k (q_k wh nc)).2.1).toInt = _ := q_subL (by omega) (by omega)
            rw [q_addL (by omega) (by omega), t1, hs]
          · intro k' hk'
            by_cases e : k' = k
            · rw [e]; exact ⟨q2, hord.mp q3⟩
            · exact hv k' (by omega)
        · rw [if_neg q3]
          exact Or.inr ⟨fun z => q3 (hord.mpr (z k hk).2), rfl⟩
      · rw [if_neg (show ¬ R.1 = nI p by rw [r1]; exact fun z => q2 ((nI_eq (by omega) (by omega)).mp z))]
        exact Or.inr ⟨fun z => q2 (z k hk).1, rfl⟩
theorem q_ins (hn : nc ≤ 8) (hL : q_L wh nc chg nu ch) (hP : P ≤ 4) (hw : m_wayOK wh nc (nI P) w) : ∀ (n c : Nat) (s : Int32), c ≤ nc → nc < c + n → s = nI (q_cs ch (q_w nu w) (q_k wh c) P) → m_inSome w (nI nc) (nI P) n c s = nI (q_cs ch (q_w nu w) (q_k wh nc) P) := by
  intro n
  induction n with
  | zero => intro c s h1 h2; omega
  | succ n ih =>
    intro c s h1 h2 hs
    rw [m_inSome]
    by_cases q : nI nc ≤ nI c
    · have := (nI_leI (by omega) (by omega)).mp q
      obtain rfl : c = nc := by omega
      rw [if_pos q, hs]
    · have hlt := ix_nge q (by omega) (by omega)
      rw [if_neg q, x_c (by omega)]
      obtain ⟨⟨x, hx, ex⟩, hwh, hnw⟩ := q_wc hn hL hP hw hlt
      refine ih (c + 1) _ (by omega) (by omega) ?_
      by_cases hwc : wh (nI c) = 0
      · rw [q_k0 hwc, hnw hwc, if_pos (Int32.le_refl _), hs]; exact Int32.add_zero _
      · have hl := q_wle hn hL hP hw (q_k wh c) (q_klt hlt hwc)
        rw [q_k1 hwc, q_cs_at, hwh hwc, hs]
        by_cases z : q_w nu w (q_k wh c) < P
        · rw [if_pos z, if_neg (nI_ge z (by omega)), nI_1]
        · rw [if_neg z, if_pos (nI_le (by omega) (by omega))]; exact Int32.add_zero _
theorem q_own (hn : nc ≤ 8) (hchg : ∀ c, chg c = m_mcharge (nI nc) c4 c5 c6 (nI c)) (hL : q_L wh nc chg nu ch) (hc : ∀ j, j < q_k wh nc → -1000000000 ≤ (ch j).toInt ∧ (ch j).toInt ≤ 1000000000) (hp1 : 1 ≤ p) (hp : p ≤ 4) (hP : P ≤ 4) (hw : m_wayOK wh nc (nI P) w) :
    (q_W p P ch (q_k wh nc) (q_w nu w) ∧ (m_own (nI nc) c4 c5 c6 (nI p) (nI P) w).toInt = q_sg ch (q_w nu w) (q_k wh nc) P) ∨ (¬ q_W p P ch (q_k wh nc) (q_w nu w) ∧ m_own (nI nc) c4 c5 c6 (nI p) (nI P) w = -1) := by
  have hm8 := q_kle (wh := wh) nc
  have hpp : p * P ≤ 4 * 4 := Nat.mul_le_mul hp hP
  have hcs := q_cs_le (ch := ch) (δ := q_w nu w) P (q_k wh nc) 0
  rw [Nat.zero_add] at hcs
  have hc0 : ∀ K, q_cs ch (q_w nu w) 0 K = 0 := fun K => by
    induction K with
    | zero => rfl
    | succ K ih => rw [q_cs, ih]; rfl
  rw [hc0] at hcs
  rw [m_own, m_mayBe, x_c (show nc < 1000 by omega), q_ins hn hL hP hw (nc + 1) 0 0 (Nat.zero_le _) (by omega) (by rw [show q_k wh 0 = 0 from rfl, hc0]; rfl), pk_mul]
  by_cases q : q_cs ch (q_w nu w) (q_k wh nc) P = p * P
  · rw [if_pos (show nI (q_cs ch (q_w nu w) (q_k wh nc) P) = nI (p * P) by rw [q]), if_neg (show ¬ (1 : Int32) = 0 by decide), x_c (show P < 1000 by omega)]
    exact q_sp hn hchg hL hc hp1 hp hP hw (P + 1) 0 0 (-1) (Nat.zero_le _) (by omega) rfl (fun k' h => absurd h (Nat.not_lt_zero _)) (fun _ => rfl) (fun h => absurd h (Nat.lt_irrefl _))
  · rw [if_neg (show ¬ nI (q_cs ch (q_w nu w) (q_k wh nc) P) = nI (p * P) from fun z => q ((nI_eq (by omega) (by omega)).mp z)), if_pos rfl]
    exact Or.inr ⟨fun z => q (q_cs_eq (fun k hk => (z k hk).1)), rfl⟩
end PKR
end PKL
end PKC
