-- pack(): the same answer, the same packs
theorem n_rsum {c5 c6 c7 c10 : Nat → Int32} (h : r_rng c5 c6 c7 c10) {i : Nat} (hi : i < 8) : ∀ k : Nat, k ≤ 30 → -(10000000000 * (k : Int)) ≤ (r_sum c5 c6 i k).toInt ∧ (r_sum c5 c6 i k).toInt ≤ 10000000000 * (k : Int) := by
  intro k
  induction k with
  | zero => intro _; rw [r_sum, Int64.toInt_zero]; omega
  | succ k ih =>
    intro hk
    have h0 := ih (by omega)
    have a := h.1 (30 * i + k) (by omega)
    have b := h.2.1 (30 * i + k) (by omega)
    rw [r_sum]
    generalize r_sum c5 c6 i k = s at h0
    generalize c5 (30 * i + k) = x at a
    generalize c6 (30 * i + k) = y at b
    rw [Int32.lt_iff_toInt_lt, Int32.toInt_zero, Int32.le_iff_toInt_le, show (100000 : Int32).toInt = 100000 from rfl] at a
    rw [Int32.lt_iff_toInt_lt, show (-100000 : Int32).toInt = -100000 from rfl, Int32.le_iff_toInt_le, show (100000 : Int32).toInt = 100000 from rfl] at b
    have p1 : x.toInt * y.toInt ≤ x.toInt * 100000 := Int.mul_le_mul_of_nonneg_left (by omega) (by omega)
    have p2 : x.toInt * (-100000) ≤ x.toInt * y.toInt := Int.mul_le_mul_of_nonneg_left (by omega) (by omega)
    have e1 : (x.toInt64 * y.toInt64).toInt = x.toInt * y.toInt := by
      rw [Int64.toInt_mul, Int32.toInt_toInt64, Int32.toInt_toInt64]
      apply Int.bmod_eq_of_le <;> omega
    have e2 : (s + x.toInt64 * y.toInt64).toInt = s.toInt + x.toInt * y.toInt := by
      rw [Int64.toInt_add, e1]
      apply Int.bmod_eq_of_le <;> omega
    rw [e2]
    omega
theorem n_flb {s : Int64} (h : -300000000000 ≤ s.toInt ∧ s.toInt ≤ 300000000000) : -83333334 ≤ (m_fl s).toInt ∧ (m_fl s).toInt ≤ 83333334 := by
  have e : (s / 3600).toInt = s.toInt.tdiv 3600 ∧ -83333334 < s.toInt.tdiv 3600 ∧ s.toInt.tdiv 3600 < 83333334 := by
    have hb : -83333334 < s.toInt.tdiv 3600 ∧ s.toInt.tdiv 3600 < 83333334 := by
      by_cases hneg : s.toInt < 0
      · have a2 : (-s.toInt).tdiv 3600 = -s.toInt / 3600 := Int.tdiv_eq_ediv_of_nonneg (by omega)
        rw [Int.neg_tdiv] at a2
        omega
      · rw [Int.tdiv_eq_ediv_of_nonneg (by omega)]; omega
    refine ⟨?_, hb⟩
    rw [Int64.toInt_div, show (3600 : Int64).toInt = 3600 from rfl]
    apply Int.bmod_eq_of_le <;> omega
  unfold m_fl
  split
  · rw [e.1]; omega
  · rw [Int64.toInt_sub, e.1, show (1 : Int64).toInt = 1 from rfl, Int.bmod_eq_of_le (by omega) (by omega)]; omega
section PKE
variable {nc : Nat} {cnt u0 : Int32} {fc : Nat → Option Nat} {LP : List Nat} {ce : Nat → CeT} {c1 c4 c5 c6 c7 c8 c9 c10 : Nat → Int32} {p0 p1 : Int32}
/-- a cell's charge is small -/
theorem r_chb {i k : Nat} {t : CeT} (hi : i < nc) (h : r_cells nc cnt u0 fc LP ce c1 c4 c5 c6 c7 c8 c9 c10) (hk : k ≤ 30) (hs : r_stp i k t c5 c6 c7) : -83333334 ≤ (m_floorDiv t.2.2.1 3600).toInt ∧ (m_floorDiv t.2.2.1 3600).toInt ≤ 83333334 := by
  have h8 := h.1
  have := n_rsum h.2.2.2.2.2.2.2.1 (show i < 8 by omega) k hk
  rw [n_floor, hs.2.1]
  exact n_flb (by omega)
theorem r_cpL (h : r_cells nc cnt u0 fc LP ce c1 c4 c5 c6 c7 c8 c9 c10) : ∀ (n i : Nat) (nu : Nat → Int32) (ch : Nat → Int64) (pc : Int32), i ≤ nc → nc < i + n → pc = nI (q_k (m_mwhole u0 c4 c7 c8 c10) i) → q_L (m_mwhole u0 c4 c7 c8 c10) i (fun c => m_mcharge (nI nc) c4 c5 c6 (nI c)) nu ch →
    ∀ R, m_cpL cnt fc ce n i nu ch pc = R → R.2.2 = nI (q_k (m_mwhole u0 c4 c7 c8 c10) nc) ∧ q_L (m_mwhole u0 c4 c7 c8 c10) nc (fun c => m_mcharge (nI nc) c4 c5 c6 (nI c)) R.1 R.2.1 := by
  have h8 := h.1
  have ecnt := h.2.1
  have eu0 := h.2.2.1
  intro n
  induction n with
  | zero => intro i nu ch pc h1 h2; omega
  | succ n ih =>
    intro i nu ch pc h1 h2 hpc hL R hR
    rw [m_cpL] at hR
    by_cases q : cnt ≤ nI i
    · rw [if_pos q] at hR
      rw [ecnt] at q
      have := (nI_leI (by omega) (by omega)).mp q
      obtain rfl : i = nc := by omega
      subst hR
      exact ⟨hpc, hL⟩
    · rw [if_neg q] at hR
      rw [ecnt] at q
      have hlt := ix_nge q (by omega) (by omega)
      have hkc := q_kle (wh := m_mwhole u0 c4 c7 c8 c10) i
      rcases r_of h (nI i) with ⟨z, -⟩ | ⟨i', a, hi', ei, -, ec, -, -, hcell⟩
      · rw [m_isCell, eu0, if_neg (by rintro (y | y); exact nI_pos (by omega) y; exact nI_ge hlt (by omega) y)] at z
        exact absurd z (by decide)
      · have := (nI_eq (by omega) (by omega)).mp ei
        subst this
        rw [ec] at hR
        dsimp only at hR
        obtain ⟨g0, ⟨k, hk, e4, hs⟩, ⟨r, hr, e8, hs2⟩⟩ := hcell
        have ew := r_whole hlt h hk hr e4 e8 hs hs2
        by_cases y : m_open (ce a).2.1 (ce a).2.2.2.2.2.2.2.1 = 0 ∧ m_uns (ce a).2.1 (ce a).2.2.2.2.1 (ce a).2.2.2.2.2.2.2.1 (ce a).2.2.2.2.2.2.2.2.2.2.2 = 0
        · rw [if_pos y] at hR ew
          have hw : ¬ m_mwhole u0 c4 c7 c8 c10 (nI i) = 0 := by rw [ew]; decide
          rw [m_packAdd, if_neg (show ¬ (pc < 0 ∨ 8 ≤ pc) by rw [hpc]; rintro (z | z); exact nI_pos (by omega) z; exact nI_ge (b := 8) (by omega) (by decide) z)] at hR
          dsimp only at hR
          refine ih (i + 1) _ _ _ (by omega) (by omega) (by rw [hpc, q_k1 hw, nI_1]) (fun c hc hcw => ?_) R hR
          rw [hpc, x_c (by omega)]
          by_cases e : c = i
          · subst e
            rw [pk_us, q_us, ← r_charge hlt h hk e4 hs, eu0]
            exact ⟨rfl, rfl⟩
          · have hne : q_k (m_mwhole u0 c4 c7 c8 c10) c ≠ q_k (m_mwhole u0 c4 c7 c8 c10) i := by
              have := q_klt (wh := m_mwhole u0 c4 c7 c8 c10) (show c < i by omega) hcw
              omega
            rw [pk_un hne, q_un hne]
            exact hL c (by omega) hcw
        · rw [if_neg y] at hR ew
          refine ih (i + 1) _ _ _ (by omega) (by omega) (by rw [hpc, q_k0 ew]) (fun c hc hcw => ?_) R hR
          by_cases e : c = i
          · subst e; exact absurd ew hcw
          · exact hL c (by omega) hcw
theorem n_14 {x : Int32} (h : ¬ m_in x.toInt64 1 4 = 0) : ∃ k, 1 ≤ k ∧ k ≤ 4 ∧ x = nI k := by
  have r1 : ¬ (x.toInt < 1 ∨ 4 < x.toInt) := fun z => h (n_inR.mpr z)
  obtain ⟨j, hj, rfl⟩ := nI_of (x := x) (by rw [Int32.lt_iff_toInt_lt, Int32.toInt_zero]; omega)
  rw [nI_toInt hj] at r1
  exact ⟨j, by omega, by omega, rfl⟩
theorem q_zero4 : ∀ (n i : Nat) (f : Nat → Int32), 4 < i + n → i ≤ 4 → ∀ c, c < 4 → i ≤ c → m_zero4 n i f c = 0 := by
  have keep : ∀ (n i : Nat) (f : Nat → Int32) (c : Nat), c < i → i ≤ 4 → m_zero4 n i f c = f c := by
    intro n
    induction n with
    | zero => intro i f c _ _; rfl
    | succ n ih =>
      intro i f c hc hi
      rw [m_zero4]
      by_cases q : (4 : Int32) ≤ nI i
      · rw [if_pos q]
      · have hlt : i < 4 := ix_nge (k := 4) q (by decide) (by omega)
        rw [if_neg q, ih (i + 1) _ c (by omega) (by omega), x_c (by omega), pk_un (by omega)]
  intro n
  induction n with
  | zero => intro i f h h2; omega
  | succ n ih =>
    intro i f h h2 c hc hic
    rw [m_zero4]
    have q : ¬ (4 : Int32) ≤ nI i := nI_ge (b := 4) (by omega) (by decide)
    rw [if_neg q, x_c (by omega)]
    by_cases e : c = i
    · rw [e, keep n (i + 1) _ i (by omega) (by omega), pk_us]
    · exact ih (i + 1) _ (by omega) (by omega) c hc (by omega)
theorem k_pack (h : r_cells nc cnt u0 fc LP ce c1 c4 c5 c6 c7 c8 c9 c10) {fo c22 : Nat → Int32} (hF : r_packs nc fo c22) (nu : Nat → Int32) (ch : Nat → Int64) (pcn : Int32) (co zi : Nat → Int32) (le gr : Nat → Int64) (ip pk : Int32) (bst : Int64) (c23 : Nat → Int32) (p0 p1 : Int32) :
    (m_cpack cnt fc ce p0 p1 nu ch pcn fo co zi le gr ip pk bst).1 = (m_mpack (m_mwhole u0 c4 c7 c8 c10) u0 c4 c5 c6 c22 c23 p0 p1).1 ∧ r_packs nc (m_cpack cnt fc ce p0 p1 nu ch pcn fo co zi le gr ip pk bst).2.2.2.2.1 (m_mpack (m_mwhole u0 c4 c7 c8 c10) u0 c4 c5 c6 c22 c23 p0 p1).2.1 := by
  have h8 := h.1
  have ecnt := h.2.1
  have eu0 := h.2.2.1
  rw [m_cpack, m_mpack]
  by_cases q : m_in p0.toInt64 1 4 = 0 ∨ m_in p1.toInt64 1 4 = 0
  · rw [if_pos q, if_pos q]; exact ⟨rfl, hF⟩
  · rw [if_neg q, if_neg q]
    obtain ⟨p, hp1, hp, rfl⟩ := n_14 (fun z => q (Or.inl z))
    obtain ⟨P, hP1, hP, rfl⟩ := n_14 (fun z => q (Or.inr z))
    have hpp : p * P ≤ 4 * 4 := Nat.mul_le_mul hp hP
    have hcl : cnt.toNatClampNeg = nc := by rw [ecnt, x_c (by omega)]
    have hul : u0.toNatClampNeg = nc := by rw [eu0, x_c (by omega)]
    obtain ⟨eR, hL⟩ := r_cpL h (nc + 1) 0 nu ch 0 (Nat.zero_le _) (by omega) rfl (fun c hc => absurd hc (Nat.not_lt_zero _)) _ rfl
    rw [hcl, hul]
    generalize m_cpL cnt fc ce (nc + 1) 0 nu ch 0 = R at eR hL ⊢
    obtain ⟨nu, ch, pc⟩ := R
    dsimp only at eR hL
    have hI0 : m_pinit (m_mwhole u0 c4 c7 c8 c10) u0 (nI P) (nc + 1) 0 0 c23 = m_pinit (m_mwhole u0 c4 c7 c8 c10) (nI nc) (nI P) (nc + 1) 0 0 c23 := by rw [← eu0]
    have hI1 := q_pinit (wh := m_mwhole u0 c4 c7 c8 c10) (nc := nc) (p1 := nI P) h8 (nc + 1) 0 0 c23 (Nat.zero_le _) (by omega) rfl (fun c hc => absurd hc (Nat.not_lt_zero _))
    have hI2 := m_pinit_p (wh := m_mwhole u0 c4 c7 c8 c10) (nc := nc) (p1 := nI P) h8 (nI_pos (by omega)) (nc + 1) 0 0 c23 (Nat.zero_le _) (by omega) (fun c hc => absurd hc (Nat.not_lt_zero _))
    rw [hI0]
    generalize m_pinit (m_mwhole u0 c4 c7 c8 c10) (nI nc) (nI P) (nc + 1) 0 0 c23 = I at hI1 hI2 ⊢
    obtain ⟨wc, w⟩ := I
    dsimp only at hI1 hI2 ⊢
    obtain ⟨e1, e2⟩ := hI1
    have hkn := q_kle (wh := m_mwhole u0 c4 c7 c8 c10) nc
    rw [m_cpR, m_search]
    dsimp only
    rw [pk_mul, eR, e1]
    by_cases z : p * P ≤ q_k (m_mwhole u0 c4 c7 c8 c10) nc
    · rw [if_neg (show ¬ ((4 : Int32) < nI P ∨ ¬ nI (p * P) ≤ nI (q_k (m_mwhole u0 c4 c7 c8 c10) nc)) by rintro (y | y); exact nI_nlt (a := 4) hP (by decide) y; exact y (nI_le z (by omega))), if_pos (nI_le z (by omega))]
      have hc : ∀ j, j < q_k (m_mwhole u0 c4 c7 c8 c10) nc → -1000000000 ≤ (ch j).toInt ∧ (ch j).toInt ≤ 1000000000 := by
        intro j hj
        obtain ⟨c, g1, g2, rfl⟩ := q_kex hj
        rw [(hL c g1 g2).2]
        obtain ⟨a, -, -, -, ⟨k, hk, e4, hs⟩, -⟩ := h.2.2.2.2.1 c g1
        have := r_chb g1 h hk hs
        rw [← r_charge g1 h hk e4 hs, eu0] at this
        dsimp only
        omega
      have hnu := q_in8 h8 hL
      have hij := q_iinj h8 hL
      have hq : q_P p P (q_k (m_mwhole u0 c4 c7 c8 c10) nc) ch 0 0 (fun _ => 0) 0 (nI (p * P)) 0 co (m_zero4 5 0 zi) le gr := by
        refine ⟨Nat.zero_le _, fun j hj => absurd hj (Nat.not_lt_zero _), fun j hj => absurd hj (Nat.not_lt_zero _), fun k hk => ⟨?_, Nat.zero_le _, fun y => absurd rfl y⟩, Nat.zero_le _, rfl, fun k hk => ⟨fun y => absurd y (Nat.lt_irrefl _), fun y => absurd y (Nat.not_lt_zero _)⟩, fun k hk h0 n hn hpos => ?_, ?_, ?_⟩
        · rw [q_zero4 5 0 zi (by omega) (by omega) k (by omega) (Nat.zero_le _)]; rfl
        · obtain rfl : n = 0 := by omega
          exact absurd hpos (Nat.lt_irrefl _)
        · rw [nI_toInt (by omega)]
          have : ∀ K, q_cs ch (fun _ => 0) 0 K = 0 := fun K => by
            induction K with
            | zero => rfl
            | succ K ih => rw [q_cs, ih]; rfl
          rw [this]; omega
        · have : ∀ K, q_sg ch (fun _ => 0) 0 K = 0 := fun K => by
            induction K with
            | zero => rfl
            | succ K ih => rw [q_sg, ih]; rfl
          rw [this]; rfl
      obtain ⟨fo', co', bst', acc', r1, r2, r3, r4⟩ := q_place hc hp1 hp hP (by omega) hnu hij 9 0 (by omega) 0 (fun _ => 0) 0 (nI (p * P)) 0 fo co (m_zero4 5 0 zi) le gr 9223372036854775807 none hq (fun δ _ _ => Nat.not_lt_zero _) rfl
      rw [show m_place nu ch (nI (q_k (m_mwhole u0 c4 c7 c8 c10) nc)) (nI p) (nI P) 9 0 0 (nI (p * P)) 0 (fo, co, m_zero4 5 0 zi, le, gr, 9223372036854775807) = (fo', co', m_zero4 5 0 zi, le, gr, bst') from r1]
      dsimp only
      have hlv0 : q_lv P (q_w nu w) (q_k (m_mwhole u0 c4 c7 c8 c10) nc) = 0 := by
        have g : ∀ n, n ≤ q_k (m_mwhole u0 c4 c7 c8 c10) nc → q_lv P (q_w nu w) n = 0 := by
          intro n
          induction n with
          | zero => intro _; rfl
          | succ n ih =>
            intro hn
            obtain ⟨c, g1, g2, g3⟩ := q_kex (show n < q_k (m_mwhole u0 c4 c7 c8 c10) nc by omega)
            rw [q_lv, ih (by omega), q_w, ← g3, q_ic h8 hL g1 g2, e2 c g1 g2]; simp
        exact g _ (Nat.le_refl _)
      have hPL := q_ploop (p := p) (P := P) (c4 := c4) (c5 := c5) (c6 := c6) h8 (fun c => rfl) hL hc hp1 hp hP (m_mu u0 (nI P) w + 1) (-1) 1 w c22 none hI2 (by rw [eu0]; exact m_mm_0) (fun _ => by rw [hlv0]; exact fun δ _ _ => Nat.not_lt_zero _) (fun y => absurd y (by decide)) rfl _ rfl
      rw [show m_ploop (m_mwhole u0 c4 c7 c8 c10) u0 c4 c5 c6 (nI p) (nI P) (m_mu u0 (nI P) w + 1) (-1) 1 w c22 = m_ploop (m_mwhole u0 c4 c7 c8 c10) (nI nc) c4 c5 c6 (nI p) (nI P) (m_mu u0 (nI P) w + 1) (-1) 1 w c22 by rw [← eu0]]
      generalize m_ploop (m_mwhole u0 c4 c7 c8 c10) (nI nc) c4 c5 c6 (nI p) (nI P) (m_mu u0 (nI P) w + 1) (-1) 1 w c22 = L at hPL ⊢
      obtain ⟨b, w', pk'⟩ := L
      dsimp only at hPL ⊢
      obtain ⟨acc2, s1, s2⟩ := hPL
      have hex := q_some (ch := ch) hp1 z
      rcases q_Buni (Nat.zero_le _) r3 s1 with ⟨n1, -⟩ | ⟨δ0, δ1, n1, n2, n3⟩
      · subst n1
        obtain ⟨δ, d1, d2⟩ := hex
        exact absurd (Nat.lt_succ_self 0) (r3 δ d1 d2)
      · subst n1; subst n2
        obtain ⟨c1', c2'⟩ := r4
        obtain ⟨x1, x2⟩ := s2
        refine ⟨Int64.toInt_inj.mp (by rw [c1', x1, q_sg_cong n3]), fun c hc8 => ?_⟩
        by_cases g : ∃ j, j < q_k (m_mwhole u0 c4 c7 c8 c10) nc ∧ q_i nu j = c
        · obtain ⟨j, g1, rfl⟩ := g
          refine ⟨by rw [c2'.1 j g1, x2.1 j g1, n3 j g1], fun y => ?_⟩
          obtain ⟨c, f1, f2, rfl⟩ := q_kex g1
          rw [q_ic h8 hL f1 f2] at y; omega
        · have g' : ∀ j, j < q_k (m_mwhole u0 c4 c7 c8 c10) nc → q_i nu j ≠ c := fun j hj e => g ⟨j, hj, e⟩
          exact ⟨by rw [c2'.2 c hc8 g', x2.2 c hc8 g'], fun _ => x2.2 c hc8 g'⟩
    · rw [if_pos (show (4 : Int32) < nI P ∨ ¬ nI (p * P) ≤ nI (q_k (m_mwhole u0 c4 c7 c8 c10) nc) from Or.inr (nI_ge (by omega) (by omega))), if_neg (nI_ge (by omega) (by omega))]
      exact ⟨rfl, hF⟩
end PKE
