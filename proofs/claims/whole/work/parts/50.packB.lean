-- pack(): what the \x63lass's search finds
def q_d (P x : Nat) : Int32 := if x = P then -1 else nI x
def q_F (P m : Nat) (idx δ : Nat → Nat) (fo : Nat → Int32) : Prop := (∀ j, j < m → fo (idx j) = q_d P (δ j)) ∧ ∀ c, c < 8 → (∀ j, j < m → idx j ≠ c) → fo c = -1
def q_C (P m : Nat) (idx : Nat → Nat) (ch : Nat → Int64) (bst : Int64) (fo : Nat → Int32) : Option (Nat → Nat) → Prop
  | none => bst = 9223372036854775807
  | some δ0 => bst.toInt = q_sg ch δ0 m P ∧ q_F P m idx δ0 fo
section PKB
variable {ch : Nat → Int64} {δ ε : Nat → Nat} {P n m p at' : Nat} {nu : Nat → Int32} {idx : Nat → Nat}
theorem q_fill : ∀ (n i : Nat) (f : Nat → Int32), 8 < i + n → i ≤ 8 → ∀ c, m_fill8 n i f c = if i ≤ c ∧ c < 8 then -1 else f c := by
  intro n
  induction n with
  | zero => intro i f h h2; omega
  | succ n ih =>
    intro i f h h2 c
    rw [m_fill8]
    by_cases q : (8 : Int32) ≤ nI i
    · have : 8 ≤ i := (nI_leI (a := 8) (by decide) (by omega)).mp q
      rw [if_pos q, if_neg (by omega)]
    · have hlt : i < 8 := ix_nge (k := 8) q (by decide) (by omega)
      rw [if_neg q, ih (i + 1) _ (by omega) (by omega) c, x_c (by omega)]
      by_cases e : c = i
      · rw [e, if_neg (by omega), pk_us, if_pos (by omega)]
      · rw [pk_un e]
        by_cases y : i + 1 ≤ c ∧ c < 8
        · rw [if_pos y, if_pos (by omega)]
        · rw [if_neg y, if_neg (by omega)]
theorem q_keepL (hm : m ≤ 8) (hnu : ∀ j, j < m → nu j = nI (idx j) ∧ idx j < 8) (hij : ∀ i j, i < m → j < m → idx i = idx j → i = j) (co : Nat → Int32) : ∀ (n i : Nat) (f : Nat → Int32), i ≤ m → m < i + n →
    (∀ j, i ≤ j → j < m → m_keepL nu co (nI m) n i f (idx j) = co j) ∧ ∀ c, (∀ j, i ≤ j → j < m → idx j ≠ c) → m_keepL nu co (nI m) n i f c = f c := by
  intro n
  induction n with
  | zero => intro i f h1 h2; omega
  | succ n ih =>
    intro i f h1 h2
    rw [m_keepL]
    by_cases q : nI m ≤ nI i
    · have := (nI_leI (by omega) (by omega)).mp q
      rw [if_pos (Or.inl q)]
      exact ⟨fun j h3 h4 => by omega, fun c _ => rfl⟩
    · have hlt := ix_nge q (by omega) (by omega)
      obtain ⟨e1, e2⟩ := hnu i hlt
      rw [if_neg (show ¬ (nI m ≤ nI i ∨ 8 ≤ nI i) from fun z => z.elim q (nI_ge (b := 8) (by omega) (by decide))), x_c (by omega), e1, if_neg (show ¬ (nI (idx i) < 0 ∨ 8 ≤ nI (idx i)) from fun z => z.elim (nI_pos (by omega)) (nI_ge (b := 8) e2 (by decide))), x_c (by omega)]
      obtain ⟨a, b⟩ := ih (i + 1) (upd f (idx i) (co i)) (by omega) (by omega)
      refine ⟨fun j h3 h4 => ?_, fun c h3 => ?_⟩
      · by_cases e : j = i
        · rw [e, b (idx i) (fun j' h5 h6 h7 => by have := hij j' i h6 hlt h7; omega), pk_us]
        · exact a j (by omega) h4
      · rw [b c (fun j h5 h6 => h3 j (by omega) h6), pk_un (fun z => h3 i (by omega) hlt z.symm)]
theorem q_keep (hm : m ≤ 8) (hnu : ∀ j, j < m → nu j = nI (idx j) ∧ idx j < 8) (hij : ∀ i j, i < m → j < m → idx i = idx j → i = j) {co fo : Nat → Int32} (hco : ∀ j, j < m → co j = q_d P (δ j)) : q_F P m idx δ (m_keepL nu co (nI m) 9 0 (m_fill8 9 0 fo)) := by
  obtain ⟨a, b⟩ := q_keepL hm hnu hij co 9 0 (m_fill8 9 0 fo) (Nat.zero_le _) (by omega)
  refine ⟨fun j hj => by rw [a j (Nat.zero_le _) hj, hco j hj], fun c hc h => ?_⟩
  rw [b c (fun j _ hj => h j hj), q_fill 9 0 fo (by omega) (by omega) c, if_pos ⟨Nat.zero_le _, hc⟩]
theorem q_csc (h : ∀ j, j < n → δ j = ε j) : ∀ K, q_cs ch δ n K = q_cs ch ε n K := by
  intro K
  induction K with
  | zero => rfl
  | succ K ih => rw [q_cs, q_cs, ih, q_cong K h]
theorem q_near {a x v k P : Nat} (hx : x ≤ P) (h1 : v * (P + 1) + k ≤ a * (P + 1) + x) (h2 : a * (P + 1) + x < v * (P + 1) + (P + 1)) : a = v ∧ k ≤ x := by
  have e : a = v := by
    rcases Nat.lt_trichotomy a v with h | h | h
    · have : (a + 1) * (P + 1) ≤ v * (P + 1) := Nat.mul_le_mul_right _ h
      rw [Nat.add_mul] at this; omega
    · exact h
    · have : (v + 1) * (P + 1) ≤ a * (P + 1) := Nat.mul_le_mul_right _ h
      rw [Nat.add_mul] at this; omega
  subst e
  exact ⟨rfl, by omega⟩
/-- what stands while a cell is placed -/
def q_P (p P m : Nat) (ch : Nat → Int64) (at' o : Nat) (δ : Nat → Nat) (op mi : Int32) (sum : Int64) (co zi : Nat → Int32) (le gr : Nat → Int64) : Prop :=
  at' ≤ m ∧ (∀ j, j < at' → δ j ≤ P) ∧ (∀ j, j < at' → co j = q_d P (δ j)) ∧ (∀ k, k < P → zi k = nI (q_S ch δ k at').1 ∧ (q_S ch δ k at').1 ≤ p ∧ (¬ (q_S ch δ k at').1 = 0 → le k = (q_S ch δ k at').2.1 ∧ gr k = (q_S ch δ k at').2.2)) ∧
  o ≤ P ∧ op = nI o ∧ (∀ k, k < P → (0 < (q_S ch δ k at').1 ↔ k < o)) ∧ (∀ k, k < P → 0 < k → ∀ n, n ≤ at' → 0 < (q_S ch δ k n).1 → 0 < (q_S ch δ (k - 1) n).1) ∧
  mi.toInt = (p * P : Nat) - (q_cs ch δ at' P : Nat) ∧ sum.toInt = q_sg ch δ at' P
/-- the step to the next cell, its digit told -/
theorem q_step (hc : ∀ j, j < m → -1000000000 ≤ (ch j).toInt ∧ (ch j).toInt ≤ 1000000000) (hp : p ≤ 4) (hP : P ≤ 4) (hat : at' < m) {o o' k : Nat} {op op' mi mi' : Int32} {sum sum' : Int64} {co co' zi zi' : Nat → Int32} {le le' gr gr' : Nat → Int64} (h : q_P p P m ch at' o δ op mi sum co zi le gr)
    (hk : k ≤ P) (hko : k < P → k ≤ o ∧ ¬ (q_S ch δ k at').1 = p) (ho' : o' = if k < P ∧ k = o then o + 1 else o) (eop : op' = nI o') (emi : mi'.toInt = mi.toInt - (if k < P then 1 else 0)) (hco : ∀ j, j < at' → co' j = co j) (hcn : co' at' = q_d P k)
    (hz : ∀ k', k' < P → k' ≠ k → zi' k' = zi k' ∧ le' k' = le k' ∧ gr' k' = gr k') (hzk : k < P → zi' k = nI ((q_S ch δ k at').1 + 1) ∧ le' k = (if (q_S ch δ k at').1 = 0 then ch at' else m_minL (q_S ch δ k at').2.1 (ch at')) ∧ gr' k = (if (q_S ch δ k at').1 = 0 then ch at' else m_maxL (q_S ch δ k at').2.2 (ch at')))
    (hs : sum'.toInt = sum.toInt + (if k < P then q_V ch (x_upd δ at' k) (at' + 1) k - q_V ch δ at' k else 0)) : q_P p P m ch (at' + 1) o' (x_upd δ at' k) op' mi' sum' co' zi' le' gr' := by
  obtain ⟨h1, h2, h3, h4, h5, h6, h7, h8, h9, h10⟩ := h
  have ec : ∀ j, j < at' → x_upd δ at' k j = δ j := fun j hj => if_neg (by omega)
  have ea : x_upd δ at' k at' = k := if_pos rfl
  have eS : ∀ k' n, n ≤ at' → q_S ch (x_upd δ at' k) k' n = q_S ch δ k' n := fun k' n hn => q_cong k' (fun j hj => ec j (by omega))
  have eN : ∀ k', k' ≠ k → q_S ch (x_upd δ at' k) k' (at' + 1) = q_S ch δ k' at' := fun k' hne => by rw [q_no (by rw [ea]; exact fun z => hne z.symm), eS k' at' (Nat.le_refl _)]
  have eK : q_S ch (x_upd δ at' k) k (at' + 1) = ((q_S ch δ k at').1 + 1, if (q_S ch δ k at').1 = 0 then ch at' else m_minL (q_S ch δ k at').2.1 (ch at'), if (q_S ch δ k at').1 = 0 then ch at' else m_maxL (q_S ch δ k at').2.2 (ch at')) := by rw [q_at ea, eS k at' (Nat.le_refl _)]
  have hop : ∀ k', k' < P → (0 < (q_S ch (x_upd δ at' k) k' (at' + 1)).1 ↔ k' < o') := by
    intro k' hk'
    by_cases e : k' = k
    · subst e
      rw [eK]
      dsimp only
      have := (hko hk').1
      by_cases q : k' = o
      · rw [ho', if_pos ⟨hk', q⟩]; omega
      · rw [ho', if_neg (fun z => q z.2)]; omega
    · rw [eN k' e, h7 k' hk', ho']
      by_cases q : k < P ∧ k = o
      · rw [if_pos q]; omega
      · rw [if_neg q]
  refine ⟨by omega, ?_, ?_, ?_, ?_, eop, hop, ?_, ?_, ?_⟩
  · intro j hj
    by_cases e : j = at'
    · rw [e, ea]; exact hk
    · rw [ec j (by omega)]; exact h2 j (by omega)
  · intro j hj
    by_cases e : j = at'
    · rw [e, ea, hcn]
    · rw [ec j (by omega), hco j (by omega)]; exact h3 j (by omega)
  · intro k' hk'
    by_cases e : k' = k
    · subst e
      rw [eK]
      obtain ⟨z1, z2, z3⟩ := hzk hk'
      have := (h4 k' hk').2.1
      have := (hko hk').2
      exact ⟨z1, by dsimp only; omega, fun _ => ⟨z2, z3⟩⟩
    · rw [eN k' e]
      obtain ⟨z1, z2, z3⟩ := hz k' hk' e
      rw [z1, z2, z3]
      exact h4 k' hk'
  · rw [ho']
    by_cases q : k < P ∧ k = o
    · rw [if_pos q]; omega
    · rw [if_neg q]; exact h5
  · intro k' hk' h0 n hn hpos
    by_cases e : n ≤ at'
    · rw [eS _ n e] at hpos ⊢; exact h8 k' hk' h0 n e hpos
    · obtain rfl : n = at' + 1 := by omega
      rw [hop k' hk'] at hpos
      exact (hop (k' - 1) (by omega)).mpr (by omega)
  · rw [emi, h9, q_cs_at, ea, q_csc (ε := δ) ec]
    by_cases q : k < P
    · rw [if_pos q, if_pos q]; omega
    · rw [if_neg q, if_neg q]; omega
  · rw [hs, h10, q_sg_at, ea, q_sg_cong (δ' := δ) ec]
    by_cases q : k < P
    · rw [if_pos q, if_pos q]
      have : q_V ch (x_upd δ at' k) at' k = q_V ch δ at' k := by unfold q_V; rw [eS k at' (Nat.le_refl _)]
      rw [this]
    · rw [if_neg q, if_neg q]
theorem q_agree {v : Nat} (hδ : ∀ j, j < n → δ j ≤ P) (hε : ∀ j, j < m → ε j ≤ P) (hn : n ≤ m) (hv : q_lv P δ n = v) (h1 : v ≤ q_lv P ε n) (h2 : q_lv P ε n < v + 1) : ∀ j, j < n → ε j = δ j := q_lv_inj (m := n) (fun j hj => hε j (by omega)) hδ n (Nat.le_refl _) (by omega)
theorem q_uu {f : Nat → Int32} {k : Nat} {x y : Int32} (h : y = f k) : upd (upd f k x) k y = f := by
  funext j
  by_cases e : j = k
  · rw [e, pk_us, h]
  · rw [pk_un e, pk_un e]
theorem q_uL {f : Nat → Int64} {k : Nat} {x y : Int64} (h : y = f k) : vp_updL (vp_updL f k x) k y = f := by
  funext j
  unfold vp_updL
  by_cases e : j = k
  · rw [if_pos e, h, e]
  · rw [if_neg e, if_neg e]
theorem q_us {f : Nat → Int64} {k : Nat} {x : Int64} : vp_updL f k x k = x := if_pos rfl
theorem q_un {f : Nat → Int64} {k j : Nat} {x : Int64} (h : j ≠ k) : vp_updL f k x j = f j := if_neg h
theorem q_subL {x y : Int64} (hx : -10000000000 ≤ x.toInt ∧ x.toInt ≤ 10000000000) (hy : -10000000000 ≤ y.toInt ∧ y.toInt ≤ 10000000000) : (x - y).toInt = x.toInt - y.toInt := by
  rw [Int64.toInt_sub]; apply Int.bmod_eq_of_le <;> omega
theorem q_addL {x y : Int64} (hx : -10000000000 ≤ x.toInt ∧ x.toInt ≤ 10000000000) (hy : -10000000000 ≤ y.toInt ∧ y.toInt ≤ 10000000000) : (x + y).toInt = x.toInt + y.toInt := by
  rw [Int64.toInt_add]; apply Int.bmod_eq_of_le <;> omega
/-- what a search from the next cell on gives -/
def q_R (p P m : Nat) (ch : Nat → Int64) (idx : Nat → Nat) (at' : Nat) (rc : Int32 → Int32 → Int32 → Int64 → PsT → PsT) : Prop :=
  ∀ (o : Nat) (δ : Nat → Nat) (op mi : Int32) (sum : Int64) (fo co zi : Nat → Int32) (le gr : Nat → Int64) (bst : Int64) (acc : Option (Nat → Nat)), q_P p P m ch at' o δ op mi sum co zi le gr → q_B p P ch m at' (q_lv P δ at') acc → q_C P m idx ch bst fo acc →
  ∃ fo' co' bst' acc', rc (nI at') op mi sum (fo, co, zi, le, gr, bst) = (fo', co', zi, le, gr, bst') ∧ (∀ j, j < at' → co' j = co j) ∧ q_B p P ch m at' (q_lv P δ at' + 1) acc' ∧ q_C P m idx ch bst' fo' acc'
theorem q_pi {rc : Int32 → Int32 → Int32 → Int64 → PsT → PsT} (hrc : q_R p P m ch idx (at' + 1) rc) (hat : at' < m) (hm : m ≤ 8) {o' k : Nat} (hk : k < 4) {op' mi : Int32} {sum leN grN sp bst : Int64} {fo co zi : Nat → Int32} {le gr : Nat → Int64} {acc : Option (Nat → Nat)}
    (hq : q_P p P m ch (at' + 1) o' (x_upd δ at' k) op' (mi - 1) (sum + ((grN - leN) - sp)) (upd co at' (nI k)) (upd zi k (zi k + 1)) (vp_updL le k leN) (vp_updL gr k grN))
    (hB : q_B p P ch m (at' + 1) (q_lv P δ at' * (P + 1) + k) acc) (hC : q_C P m idx ch bst fo acc) :
    ∃ fo' co' bst' acc', m_piStep rc (nI k) (nI at') op' mi sum fo co zi le gr bst leN grN sp = (fo', co', zi, le, gr, bst') ∧ (∀ j, j < at' → co' j = co j) ∧ q_B p P ch m (at' + 1) (q_lv P δ at' * (P + 1) + (k + 1)) acc' ∧ q_C P m idx ch bst' fo' acc' := by
  have el : q_lv P (x_upd δ at' k) (at' + 1) = q_lv P δ at' * (P + 1) + k := by
    rw [q_lv, q_lv_cong (δ := x_upd δ at' k) (δ' := δ) (n := at') (fun j hj => if_neg (by omega)), show x_upd δ at' k at' = k from if_pos rfl]
  rw [← el] at hB
  obtain ⟨fo', co', bst', acc', r1, r2, r3, r4⟩ := hrc o' _ _ _ _ fo _ _ _ _ bst acc hq hB hC
  rw [m_piStep, x_c (by omega), x_c (by omega), q_us, q_us, nI_1, r1]
  refine ⟨fo', co', bst', acc', ?_, fun j hj => by rw [r2 j (by omega), pk_un (by omega)], by rw [el] at r3; exact r3, r4⟩
  dsimp only
  rw [q_uu (by rw [pk_us]; exact Int32.add_sub_cancel _ _), q_uL rfl, q_uL rfl]
theorem q_in (hc : ∀ j, j < m → -1000000000 ≤ (ch j).toInt ∧ (ch j).toInt ≤ 1000000000) (hp1 : 1 ≤ p) (hp : p ≤ 4) (hP : P ≤ 4) (hm : m ≤ 8) {rc : Int32 → Int32 → Int32 → Int64 → PsT → PsT} (hrc : q_R p P m ch idx (at' + 1) rc) (hat : at' < m) {o k : Nat} {op mi : Int32} {sum bst : Int64} {fo co zi : Nat → Int32} {le gr : Nat → Int64} {acc : Option (Nat → Nat)}
    (h : q_P p P m ch at' o δ op mi sum co zi le gr) (hk : k < P) (hko : k ≤ o) (hB : q_B p P ch m (at' + 1) (q_lv P δ at' * (P + 1) + k) acc) (hC : q_C P m idx ch bst fo acc) :
    ∃ fo' co' bst' acc', m_placeIn rc ch (nI p) (nI k) (nI at') op mi sum fo co zi le gr bst = (fo', co', zi, le, gr, bst') ∧ (∀ j, j < at' → co' j = co j) ∧ q_B p P ch m (at' + 1) (q_lv P δ at' * (P + 1) + (k + 1)) acc' ∧ q_C P m idx ch bst' fo' acc' := by
  have h' := h
  obtain ⟨h1, h2, h3, h4, h5, h6, h7, h8, h9, h10⟩ := h
  obtain ⟨z1, z2, z3⟩ := h4 k hk
  rw [m_placeIn, x_c (show k < 1000 by omega), x_c (show at' < 1000 by omega), z1]
  by_cases ef : (q_S ch δ k at').1 = p
  · rw [if_pos (Or.inr (Or.inr (Or.inr (Or.inr (by rw [ef]; exact nI_nlt (Nat.le_refl _) (by omega))))))]
    refine ⟨fo, co, bst, acc, rfl, fun _ _ => rfl, ?_, hC⟩
    refine q_Bnone hB (by omega) (fun ε e1 e2 e3 e4 => ?_)
    rw [q_lv] at e3 e4
    have en := q_near (e1 at' hat) e3 (by omega)
    have ek : ε at' = k := by
      have := en.2
      rw [en.1] at e4
      omega
    have ea := q_agree h2 e1 h1 rfl (by omega) (show q_lv P ε at' < q_lv P δ at' + 1 by omega)
    have s1 : (q_S ch ε k (at' + 1)).1 = p + 1 := by rw [q_at ek, q_cong k ea]; dsimp only; omega
    have s2 := q_le (ch := ch) (δ := ε) (k := k) (show at' + 1 ≤ m by omega)
    have s3 := (e2 k hk).1
    omega
  · rw [if_neg (by
      rintro (q | q | q | q | q)
      · exact nI_pos (by omega) q
      · exact nI_ge (b := 4) (by omega) (by decide) q
      · exact nI_pos (by omega) q
      · exact nI_ge (b := 8) (by omega) (by decide) q
      · exact q (nI_lt (by omega) (by omega)))]
    have hmi : 1 ≤ mi.toInt ∧ mi.toInt ≤ 16 := by
      obtain ⟨c1, c2⟩ := q_cs_max (ch := ch) (δ := δ) (n := at') (p := p) (P := P) (fun k hk => (h4 k hk).2.1)
      have c3 : ¬ q_cs ch δ at' P = p * P := fun z => ef (c2 z k hk)
      have c4 : p * P ≤ 4 * 4 := Nat.mul_le_mul hp hP
      omega
    have emi : (mi - 1).toInt = mi.toInt - (if k < P then 1 else 0) := by
      rw [if_pos hk, Int32.toInt_sub, show (1 : Int32).toInt = 1 from rfl]
      apply Int.bmod_eq_of_le <;> omega
    have hzz : ∀ (leN grN : Int64) (k' : Nat), k' < P → k' ≠ k → upd zi k (zi k + 1) k' = zi k' ∧ vp_updL le k leN k' = le k' ∧ vp_updL gr k grN k' = gr k' := fun leN grN k' _ hne => ⟨pk_un hne, q_un hne, q_un hne⟩
    have hsr := q_sg_rng (ch := ch) (δ := δ) (n := at') (fun j hj => hc j (by omega)) P
    have hsr2 : (2000000000 : Int) * P ≤ 8000000000 := by omega
    have hV := q_V0 (ch := ch) (δ := x_upd δ at' k) (n := at' + 1) (fun j hj => hc j (by omega)) k
    have hV0 := q_V0 (ch := ch) (δ := δ) (n := at') (fun j hj => hc j (by omega)) k
    have hR := q_rng (ch := ch) (δ := x_upd δ at' k) (n := at' + 1) (fun j hj => hc j (by omega)) k
    have ea : x_upd δ at' k at' = k := if_pos rfl
    have eS : q_S ch (x_upd δ at' k) k at' = q_S ch δ k at' := q_cong k (fun j hj => if_neg (by omega))
    have hcn : upd co at' (nI k) at' = q_d P k := by rw [pk_us, q_d, if_neg (by omega)]
    by_cases q : (q_S ch δ k at').1 = 0
    · rw [if_pos (show nI (q_S ch δ k at').1 = 0 by rw [q]; rfl)]
      have eo : k = o := by
        have := h7 k hk
        omega
      refine q_pi hrc hat hm (by omega) (o' := o + 1) ?_ hB hC
      refine q_step hc hp hP hat h' (k := k) (by omega) (fun _ => ⟨hko, ef⟩) (by rw [if_pos ⟨hk, eo⟩]) (by rw [h6, nI_1]) emi (fun j hj => pk_un (by omega)) hcn (hzz _ _) (fun _ => ⟨by rw [pk_us, z1, nI_1], by rw [q_us, if_pos q], by rw [q_us, if_pos q]⟩) ?_
      rw [if_pos hk]
      unfold q_V
      rw [if_pos q, q_at ea, eS]
      dsimp only
      rw [if_neg (show ¬ (q_S ch δ k at').1 + 1 = 0 by omega), if_pos q, if_pos q]
      have hca := hc at' hat
      have t1 : (ch at' - ch at').toInt = 0 := by rw [q_subL (by omega) (by omega)]; omega
      have t2 : (ch at' - ch at' - 0).toInt = 0 := by rw [q_subL (by omega) (by rw [Int64.toInt_zero]; omega), t1, Int64.toInt_zero]; omega
      rw [q_addL (by omega) (by omega), t2]; omega
    · rw [if_neg (nI_ne0 (Nat.pos_of_ne_zero q) (by omega))]
      have hlt : k < o := (h7 k hk).mp (Nat.pos_of_ne_zero q)
      obtain ⟨l1, l2⟩ := z3 q
      refine q_pi hrc hat hm (by omega) (o' := o) ?_ hB hC
      refine q_step hc hp hP hat h' (k := k) (by omega) (fun _ => ⟨hko, ef⟩) (by rw [if_neg (by omega)]) h6 emi (fun j hj => pk_un (by omega)) hcn (hzz _ _) (fun _ => ⟨by rw [pk_us, z1, nI_1], by rw [q_us, if_neg q, l1], by rw [q_us, if_neg q, l2]⟩) ?_
      rw [if_pos hk]
      rw [q_at ea, eS] at hR
      dsimp only at hR
      rw [if_neg q, if_neg q] at hR
      have hR := hR (by omega)
      have hR0 := q_rng (ch := ch) (δ := δ) (n := at') (fun j hj => hc j (by omega)) k q
      unfold q_V
      rw [if_neg q, q_at ea, eS]
      dsimp only
      rw [if_neg (show ¬ (q_S ch δ k at').1 + 1 = 0 by omega), if_neg q, if_neg q, l1, l2]
      have t1 : (m_maxL (q_S ch δ k at').2.2 (ch at') - m_minL (q_S ch δ k at').2.1 (ch at')).toInt = _ := q_subL (by omega) (by omega)
      have t2 : ((q_S ch δ k at').2.2 - (q_S ch δ k at').2.1).toInt = _ := q_subL (by omega) (by omega)
      have t3 := q_subL (x := m_maxL (q_S ch δ k at').2.2 (ch at') - m_minL (q_S ch δ k at').2.1 (ch at')) (y := (q_S ch δ k at').2.2 - (q_S ch δ k at').2.1) (by omega) (by omega)
      rw [q_addL (by omega) (by omega), t3, t1, t2]
theorem q_kloop (hc : ∀ j, j < m → -1000000000 ≤ (ch j).toInt ∧ (ch j).toInt ≤ 1000000000) (hp1 : 1 ≤ p) (hp : p ≤ 4) (hP : P ≤ 4) (hm : m ≤ 8) {rc : Int32 → Int32 → Int32 → Int64 → PsT → PsT} (hrc : q_R p P m ch idx (at' + 1) rc) (hat : at' < m) {o : Nat} {op mi : Int32} {sum : Int64} {zi : Nat → Int32} {le gr : Nat → Int64} :
    ∀ (n k : Nat) (fo co : Nat → Int32) (bst : Int64) (acc : Option (Nat → Nat)), q_P p P m ch at' o δ op mi sum co zi le gr → k ≤ P → P < k + n → k ≤ o + 1 → q_B p P ch m (at' + 1) (q_lv P δ at' * (P + 1) + k) acc → q_C P m idx ch bst fo acc →
    ∃ fo' co' bst' acc', m_kloop rc ch (nI p) (nI P) (nI at') op mi sum n k (fo, co, zi, le, gr, bst) = (fo', co', zi, le, gr, bst') ∧ (∀ j, j < at' → co' j = co j) ∧ q_B p P ch m (at' + 1) (q_lv P δ at' * (P + 1) + P) acc' ∧ q_C P m idx ch bst' fo' acc' := by
  intro n
  induction n with
  | zero => intro k fo co bst acc h h1 h2; omega
  | succ n ih =>
    intro k fo co bst acc h h1 h2 h3 hB hC
    have h' := h
    obtain ⟨g1, g2, g3, g4, g5, g6, g7, g8, -⟩ := h'
    rw [m_kloop]
    by_cases q1 : nI P ≤ nI k
    · have := (nI_leI (by omega) (by omega)).mp q1
      rw [if_pos (Or.inr q1)]
      obtain rfl : k = P := by omega
      exact ⟨fo, co, bst, acc, rfl, fun _ _ => rfl, hB, hC⟩
    · have hk := ix_nge q1 (by omega) (by omega)
      by_cases q2 : o < k
      · rw [if_pos (Or.inl (by rw [g6]; exact nI_lt q2 (by omega)))]
        refine ⟨fo, co, bst, acc, rfl, fun _ _ => rfl, ?_, hC⟩
        refine q_Bnone hB (by omega) (fun ε e1 e2 e3 e4 => ?_)
        rw [q_lv] at e3 e4
        have en := q_near (e1 at' hat) e3 (by omega)
        have e5 := en.2
        have e6 : ε at' < P := by rw [en.1] at e4; omega
        have ea := q_agree g2 e1 g1 rfl (by omega) (show q_lv P ε at' < q_lv P δ at' + 1 by omega)
        have s1 : 0 < (q_S ch ε (ε at') (at' + 1)).1 := by rw [q_at rfl]; dsimp only; omega
        have s2 := (e2 (ε at') e6).2 (by omega) (at' + 1) (by omega) s1
        rw [q_no (by omega), q_cong _ ea] at s2
        have s3 := (g7 (ε at' - 1) (by omega)).mp s2
        omega
      · rw [if_neg (by rintro (z | z); exact nI_nlt (a := o) (b := k) (by omega) (by omega) (by rw [← g6]; exact z); exact q1 z)]
        dsimp only
        obtain ⟨fo', co', bst', acc', r1, r2, r3, r4⟩ := q_in hc hp1 hp hP hm hrc hat h hk (by omega) hB hC
        rw [r1]
        have h2' : q_P p P m ch at' o δ op mi sum co' zi le gr := by
          obtain ⟨a1, a2, a3, a4⟩ := h
          exact ⟨a1, a2, fun j hj => by rw [r2 j hj]; exact a3 j hj, a4⟩
        obtain ⟨fo2, co2, bst2, acc2, t1, t2, t3, t4⟩ := ih (k + 1) fo' co' bst' acc' h2' (by omega) (by omega) (by omega) r3 r4
        exact ⟨fo2, co2, bst2, acc2, t1, fun j hj => by rw [t2 j hj, r2 j hj], t3, t4⟩
theorem q_place (hc : ∀ j, j < m → -1000000000 ≤ (ch j).toInt ∧ (ch j).toInt ≤ 1000000000) (hp1 : 1 ≤ p) (hp : p ≤ 4) (hP : P ≤ 4) (hm : m ≤ 8) (hnu : ∀ j, j < m → nu j = nI (idx j) ∧ idx j < 8) (hij : ∀ i j, i < m → j < m → idx i = idx j → i = j) :
    ∀ (d at' : Nat), m - at' < d → q_R p P m ch idx at' (m_place nu ch (nI m) (nI p) (nI P) d) := by
  intro d
  induction d with
  | zero => intro at' h; omega
  | succ d ih =>
    intro at' hd o δ op mi sum fo co zi le gr bst acc h hB hC
    have h' := h
    obtain ⟨h1, h2, h3, h4, h5, h6, h7, h8, h9, h10⟩ := h'
    have hpp : p * P ≤ 4 * 4 := Nat.mul_le_mul hp hP
    have hcs := q_cs_max (ch := ch) (δ := δ) (n := at') (p := p) (P := P) (fun k hk => (h4 k hk).2.1)
    have hsr := q_sg_rng (ch := ch) (δ := δ) (n := at') (fun j hj => hc j (by omega)) P
    rw [m_place]
    dsimp only
    by_cases q1 : nI m - nI at' < mi
    · rw [if_pos (Or.inr (Or.inl q1))]
      refine ⟨fo, co, bst, acc, rfl, fun _ _ => rfl, ?_, hC⟩
      refine q_Bnone hB (by omega) (fun ε e1 e2 e3 e4 => ?_)
      rw [pk_sub h1, Int32.lt_iff_toInt_lt, nI_toInt (by omega), h9] at q1
      have ea := q_agree h2 e1 h1 rfl e3 e4
      have c1 := q_cs_le (ch := ch) (δ := ε) P (m - at') at'
      rw [show at' + (m - at') = m by omega, q_csc ea, q_cs_eq (p := p) (fun k hk => (e2 k hk).1)] at c1
      omega
    · by_cases q2 : ¬ sum < bst
      · rw [if_pos (Or.inr (Or.inr q2))]
        refine ⟨fo, co, bst, acc, rfl, fun _ _ => rfl, ?_, hC⟩
        cases acc with
        | none =>
          have hb : bst = 9223372036854775807 := hC
          exact absurd (by rw [hb, Int64.lt_iff_toInt_lt, show (9223372036854775807 : Int64).toInt = 9223372036854775807 from rfl]; omega) q2
        | some δ0 =>
          have hb : bst.toInt = q_sg ch δ0 m P := hC.1
          refine q_Bworse h1 hB (by omega) (fun ε e1 e2 e3 e4 => ?_)
          have ea := q_agree h2 e1 h1 rfl e3 e4
          have s1 := q_sg_le (ch := ch) (δ := ε) hc P (m - at') at' (by omega)
          rw [q_sg_cong ea] at s1
          rw [Int64.lt_iff_toInt_lt] at q2
          omega
      · rw [if_neg (by rintro (z | z | z); exact nI_pos (by omega) z; exact q1 z; exact q2 z)]
        by_cases q3 : nI m ≤ nI at'
        · have e3 := (nI_leI (by omega) (by omega)).mp q3
          obtain rfl : at' = m := by omega
          rw [if_pos (Or.inl q3)]
          have hmi : mi.toInt ≤ 0 := by
            rw [pk_sub (Nat.le_refl _), Int32.lt_iff_toInt_lt, nI_toInt (by omega)] at q1
            omega
          have hall := hcs.2 (by omega)
          have hW : q_W p P ch at' δ := fun k hk => ⟨hall k hk, fun h0 => h8 k hk h0⟩
          refine ⟨_, co, sum, some δ, rfl, fun _ _ => rfl, q_Bnew hB h2 hW (fun δ0 e0 => ?_), h10, q_keep hm hnu hij h3⟩
          subst e0
          have hb : bst.toInt = q_sg ch δ0 at' P := hC.1
          have q2' : sum < bst := Decidable.not_not.mp q2
          rw [Int64.lt_iff_toInt_lt] at q2'
          omega
        · have hat := ix_nge q3 (by omega) (by omega)
          rw [if_neg (by rintro (z | z); exact q3 z; exact z (nI_lt (b := 8) (by omega) (by decide)))]
          have hrc := ih (at' + 1) (by omega)
          have hB0 := (q_Bdn hat).mp hB
          rw [x_c (show P < 1000 by omega)]
          obtain ⟨fo', co', bst', acc', r1, r2, r3, r4⟩ := q_kloop hc hp1 hp hP hm hrc hat (P + 1) 0 fo co bst acc h (Nat.zero_le _) (by omega) (Nat.zero_le _) hB0 hC
          rw [r1]
          dsimp only
          have hq : q_P p P m ch (at' + 1) o (x_upd δ at' P) op mi sum (upd co' (nI at').toNatClampNeg (-1)) zi le gr := by
            rw [x_c (by omega)]
            refine q_step hc hp hP hat h (k := P) (Nat.le_refl _) (fun z => absurd z (Nat.lt_irrefl _)) (by rw [if_neg (fun z => absurd z.1 (Nat.lt_irrefl _))]) h6 (by rw [if_neg (Nat.lt_irrefl _)]; omega) (fun j hj => by rw [pk_un (by omega), r2 j hj]) (by rw [pk_us, q_d, if_pos rfl]) (fun k' _ _ => ⟨rfl, rfl, rfl⟩) (fun z => absurd z (Nat.lt_irrefl _)) (by rw [if_neg (Nat.lt_irrefl _)]; omega)
          have el : q_lv P (x_upd δ at' P) (at' + 1) = q_lv P δ at' * (P + 1) + P := by
            rw [q_lv, q_lv_cong (δ := x_upd δ at' P) (δ' := δ) (n := at') (fun j hj => if_neg (by omega)), show x_upd δ at' P at' = P from if_pos rfl]
          rw [← el] at r3
          obtain ⟨fo2, co2, bst2, acc2, t1, t2, t3, t4⟩ := hrc o (x_upd δ at' P) op mi sum fo' _ zi le gr bst' acc' hq r3 r4
          rw [nI_1, t1]
          refine ⟨fo2, co2, bst2, acc2, rfl, fun j hj => by rw [t2 j (by omega), x_c (by omega), pk_un (by omega), r2 j hj], ?_, t4⟩
          rw [q_Bdn hat, Nat.add_mul, Nat.one_mul]
          rw [el, Nat.add_assoc] at t3
          exact t3
end PKB
