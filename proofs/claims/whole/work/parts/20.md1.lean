-- the reference's functions: cell, span, warm, step, rest, unit, row, packOf
def m_isCell (u0 c : Int32) : Int32 := if c < 0 ∨ u0 ≤ c then 0 else 1
theorem md_ix {u0 c : Int32} (h : ¬ m_isCell u0 c = 0) (hc : u0 ≤ 8) : vp_in c 8 := by
  unfold m_isCell at h
  split at h
  · exact absurd rfl h
  · rename_i q
    refine cx_ix (by decide) (fun z => q (Or.inl z)) (fun z => q (Or.inr ?_))
    exact Int32.le_trans hc z
theorem md_cl {c : Int32} {n : Nat} (h : vp_in c n) : c.toNatClampNeg < n := Nat.not_le.mp fun q => h (Or.inr q)
theorem md_flat {u0 c x : Int32} {k m : Nat} (h : ¬ m_isCell u0 c = 0) (hc : u0 ≤ 8) (hk : k ≤ 100) (h0 : ¬ x < 0) (h1 : x ≤ nI k) (hm : m < k) (hx : x = nI m) : vp_in (nI k * c + x) (8 * k) := by
  obtain ⟨j, hj, e⟩ := vp_in_of (md_ix h hc) (by decide)
  rw [e, hx, pk_mul, nI_add]
  refine vp_in_nI ?_ (by omega)
  have : k * j ≤ k * 7 := Nat.mul_le_mul_left k (by omega)
  omega
theorem md_lt {x : Int32} {k : Nat} (hk : k < 2 ^ 31) (h0 : ¬ x < 0) (h1 : x ≤ nI k) (hne : ¬ x = nI k) : ∃ m, m < k ∧ x = nI m := by
  obtain ⟨j, hj, e⟩ := nI_of h0
  subst e
  have h2 := (nI_leI hj hk).mp h1
  have h3 : j ≠ k := fun q => hne (by rw [q])
  exact ⟨j, by omega, rfl⟩
theorem md_ix30 {u0 c : Int32} {c4 : Nat → Int32} (h : ¬ m_isCell u0 c = 0) (hc : u0 ≤ 8) (hst : ∀ i, i < 8 → ¬ c4 i < 0 ∧ c4 i ≤ 30) (hne : ¬ c4 c.toNatClampNeg = 30) : vp_in (30 * c + c4 c.toNatClampNeg) 240 := by
  obtain ⟨h0, h1⟩ := hst _ (md_cl (md_ix h hc))
  obtain ⟨m, hm, e⟩ := md_lt (k := 30) (by decide) h0 h1 hne
  exact md_flat (k := 30) h hc (by decide) h0 h1 hm e
theorem md_ix10 {u0 c : Int32} {c8 : Nat → Int32} (h : ¬ m_isCell u0 c = 0) (hc : u0 ≤ 8) (hrc : ∀ i, i < 8 → ¬ c8 i < 0 ∧ c8 i ≤ 10) (hne : ¬ c8 c.toNatClampNeg = 10) : vp_in (10 * c + c8 c.toNatClampNeg) 80 := by
  obtain ⟨h0, h1⟩ := hrc _ (md_cl (md_ix h hc))
  obtain ⟨m, hm, e⟩ := md_lt (k := 10) (by decide) h0 h1 hne
  exact md_flat (k := 10) h hc (by decide) h0 h1 hm e
theorem md_ix10p {u0 c : Int32} {c8 : Nat → Int32} (h : ¬ m_isCell u0 c = 0) (hc : u0 ≤ 8) (hrc : ∀ i, i < 8 → ¬ c8 i < 0 ∧ c8 i ≤ 10) (hp : ¬ c8 c.toNatClampNeg ≤ 0) : vp_in (10 * c + c8 c.toNatClampNeg - 1) 80 := by
  obtain ⟨h0, h1⟩ := hrc _ (md_cl (md_ix h hc))
  obtain ⟨j, hj, e⟩ := vp_in_of (md_ix h hc) (by decide)
  obtain ⟨i, hi, e2⟩ := nI_of h0
  rw [e2] at h1 hp
  have h2 := (nI_leI hi (by decide)).mp (show nI i ≤ nI 10 from h1)
  rw [e2, e, show (10 : Int32) = nI 10 from rfl, pk_mul, nI_add]
  cases i with
  | zero => exact absurd (show nI 0 ≤ 0 from Int32.le_refl 0) hp
  | succ i => rw [show 10 * j + (i + 1) = (10 * j + i) + 1 by omega, nI_pred]; exact vp_in_nI (by omega) (by decide)
theorem md_ixn {x : Int32} {n : Nat} (hn : n < 2 ^ 31) (h0 : ¬ x < 0) (h1 : x ≤ nI n) (hne : ¬ x = nI n) : vp_in x n := by
  obtain ⟨m, hm, e⟩ := md_lt hn h0 h1 hne
  rw [e]; exact vp_in_nI hm hn
theorem md_n1 {x : Int32} (h : ¬ x ≤ 0) : ¬ x < 1 := by
  rw [Int32.lt_iff_toInt_lt, show (1 : Int32).toInt = 1 from rfl]
  rw [Int32.le_iff_toInt_le, Int32.toInt_zero] at h
  omega
def m_mcell (u0 : Int32) : Int32 × Int32 := if u0 = 8 then (-1, u0) else (u0 + 1 - 1, u0 + 1)
def m_mspan (u2 u3 p0 p1 : Int32) : Int32 × Int32 × Int32 := if m_in p0.toInt64 0 1000000 = 0 ∨ m_in p1.toInt64 0 1000000 = 0 ∨ ¬ p0 ≤ p1 then (0, u2, u3) else (1, p0, p1)
def m_inSpan (u2 u3 : Int32) (c1 : Nat → Int32) (p0 : Int32) : Int32 := if c1 p0.toNatClampNeg < u2 ∨ u3 < c1 p0.toNatClampNeg then 0 else 1
theorem m_inSpan_z {u2 u3 : Int32} {c1 : Nat → Int32} {p0 : Int32} : m_inSpan u2 u3 c1 p0 = 0 ∨ m_inSpan u2 u3 c1 p0 = 1 := by
  unfold m_inSpan; split <;> simp
def m_mwarm (u0 u2 u3 : Int32) (c1 : Nat → Int32) (p0 p1 : Int32) : Int32 × (Nat → Int32) := if m_isCell u0 p0 = 0 ∨ m_in p1.toInt64 0 1000000 = 0 then (0, c1) else (m_inSpan u2 u3 (upd c1 p0.toNatClampNeg p1) p0, upd c1 p0.toNatClampNeg p1)
def m_mstep (u0 u2 u3 : Int32) (c1 c4 c5 c6 c7 : Nat → Int32) (p0 p1 p2 p3 : Int32) : Int32 × (Nat → Int32) × (Nat → Int32) × (Nat → Int32) × (Nat → Int32) :=
  if m_isCell u0 p0 = 0 ∨ c4 p0.toNatClampNeg = 30 ∨ m_in p1.toInt64 1 100000 = 0 ∨ m_in p2.toInt64 (-100000) 100000 = 0 ∨ m_in p3.toInt64 0 10000 = 0 ∨ m_inSpan u2 u3 c1 p0 = 0 then (0, c4, c5, c6, c7)
  else (1, upd c4 p0.toNatClampNeg (c4 p0.toNatClampNeg + 1), upd c5 (30 * p0 + c4 p0.toNatClampNeg).toNatClampNeg p1, upd c6 (30 * p0 + c4 p0.toNatClampNeg).toNatClampNeg p2, upd c7 (30 * p0 + c4 p0.toNatClampNeg).toNatClampNeg p3)
def m_mrest (u0 : Int32) (c8 c9 c10 : Nat → Int32) (p0 p1 p2 : Int32) : Int32 × (Nat → Int32) × (Nat → Int32) × (Nat → Int32) :=
  if m_isCell u0 p0 = 0 ∨ c8 p0.toNatClampNeg = 10 ∨ m_in p1.toInt64 0 100000 = 0 ∨ m_in p2.toInt64 0 10000 = 0 ∨ (¬ c8 p0.toNatClampNeg ≤ 0 ∧ ¬ c9 (10 * p0 + c8 p0.toNatClampNeg - 1).toNatClampNeg < p1) then (0, c8, c9, c10)
  else (1, upd c8 p0.toNatClampNeg (c8 p0.toNatClampNeg + 1), upd c9 (10 * p0 + c8 p0.toNatClampNeg).toNatClampNeg p1, upd c10 (10 * p0 + c8 p0.toNatClampNeg).toNatClampNeg p2)
def m_munit (u12 : Int32) (c11 : Nat → Int32) (p0 : Int32) : Int32 × Int32 × (Nat → Int32) := if m_in p0.toInt64 0 255 = 0 ∨ u12 = 600 then (0, u12, c11) else (1, u12 + 1, upd c11 u12.toNatClampNeg p0)
def m_mrow (u24 : Int32) (c25 c26 : Nat → Int32) (p0 p1 : Int32) : Int32 × Int32 × (Nat → Int32) × (Nat → Int32) :=
  if u24 = 6 ∨ m_in p0.toInt64 0 10000 = 0 ∨ m_in p1.toInt64 0 1000 = 0 ∨ (¬ u24 ≤ 0 ∧ ¬ c25 (u24 - 1).toNatClampNeg < p0) then (0, u24, c25, c26)
  else (1, u24 + 1, upd c25 u24.toNatClampNeg p0, upd c26 u24.toNatClampNeg p1)
def m_mpackOf (u0 : Int32) (c22 : Nat → Int32) (p0 : Int32) : Int32 := if m_isCell u0 p0 = 0 then -1 else c22 p0.toNatClampNeg
set_option maxHeartbeats 4000000 in
set_option maxRecDepth 100000 in
theorem c_Md_isIn (l : Launch) (D : va_G)  (v : Int64) (lo : Int64) (hi : Int64) (sz : Nat)  : Met l y_Md_isIn ws_Md_isIn ({ frames := 0, cells := 0, slots := 0, locals := 0 }) (va_Pc [.long v, .long lo, .long hi] (cx_pre D [] ([]) sz)) (vp_Si (fun r9 => r9 = m_in v lo hi)) 0 0 (fun _ => False) := by
  refine Met.ofW (cc := b_Md_isIn) (maxL := 6) (ret := (some .boolean)) (by decide) rfl ?_
  intro p e s m args below meth c s₁ B hml hv
  obtain ⟨rfl, hsz, hP, hK, hD0, hN, hO⟩ := hv
  have hx := B.exec
  have hb := B.bytes
  have hr := B.returns
  have hts := fun (w : Cond) (h : w ∈ cx_tbl) => atoms_spec (ws := ws_Md_isIn) B.pre w (List.mem_cons_of_mem _ h)
  have hown : s.vm.findClass R_Md = some m.cls := findClass_of_methodNamed B.named
  have hlocks := B.notSynchronized
  subst hsz
  have hD := hD0.self (sz := s.heap.size)
  generalize hAe : va_A ([]) s.heap.size = A at hD hO
  have hA : ∀ q : Nat, s.heap.size ≤ q → A q := fun q h => by rw [← hAe]; exact Or.inr h
  have hS : va_S A s.heap s.heap [] := va_S.rf
  have hl := lv_entry ([.long v, .long lo, .long hi]) (n := 6) (Nat.le_of_ble_eq_true rfl)
  rw [lg_entry_eq]
  generalize (lg_sl ([.long v, .long lo, .long hi]) ++ List.replicate (6 - (lg_sl ([.long v, .long lo, .long hi])).length) Slot.unset).toArray = ls at hl ⊢
  have hl : lv_has ls 6 [(0, .long v), (2, .long lo), (4, .long hi)] := hl
  refine lv_lload_n hx hb d_Md_isIn_0 rfl (lv_at hl 0 rfl) ?_
  refine lv_lload_n hx hb d_Md_isIn_1 rfl (lv_at hl 1 rfl) ?_
  refine W.lcmp hx hb d_Md_isIn_2 ?_
  refine lv_if_lt (tgt := 17) hx hb d_Md_isIn_3 (by decide) (fun c_1 => ?_) (fun c_1 => ?_)
  · have c_1 := (lg_cmp_lt v lo).mp c_1
    refine lv_iconst (v := 0) hx hb d_Md_isIn_17 (by decide) ?_
    exact W.zret (v := 0) hx hb hr (rfl) (fun t ht hW => ⟨_, rfl, by simp [m_in, eq_true c_1], ht⟩) (fun q h => by cases h) d_Md_isIn_18
  · have c_1 := (not_congr (lg_cmp_lt v lo)).mp c_1
    refine lv_lload_n hx hb d_Md_isIn_6 rfl (lv_at hl 0 rfl) ?_
    refine lv_lload hx hb d_Md_isIn_7 (lv_at hl 2 rfl) ?_
    refine W.lcmp hx hb d_Md_isIn_9 ?_
    refine lv_if_gt (tgt := 17) hx hb d_Md_isIn_10 (by decide) (fun c_2 => ?_) (fun c_2 => ?_)
    · have c_2 := (lg_cmp_gt v hi).mp c_2
      refine lv_iconst (v := 0) hx hb d_Md_isIn_17 (by decide) ?_
      exact W.zret (v := 0) hx hb hr (rfl) (fun t ht hW => ⟨_, rfl, by simp [m_in, eq_false c_1, eq_true c_2], ht⟩) (fun q h => by cases h) d_Md_isIn_18
    · have c_2 := (not_congr (lg_cmp_gt v hi)).mp c_2
      refine lv_iconst (v := 1) hx hb d_Md_isIn_13 (by decide) ?_
      refine lv_goto (tgt := 18) hx hb d_Md_isIn_14 (by decide) ?_
      exact W.zret (v := 1) hx hb hr (rfl) (fun t ht hW => ⟨_, rfl, by simp [m_in, eq_false c_1, eq_false c_2], ht⟩) (fun q h => by cases h) d_Md_isIn_18

set_option maxHeartbeats 4000000 in
set_option maxRecDepth 100000 in
theorem c_Md_isCell (l : Launch) (D : va_G)  (h0 : Nat) (u0 : Int32) (a1 : Nat) (u2 : Int32) (u3 : Int32) (a4 : Nat) (a5 : Nat) (a6 : Nat) (a7 : Nat) (a8 : Nat) (a9 : Nat) (a10 : Nat) (a11 : Nat) (u12 : Int32) (u13 : Int32) (a14 : Nat) (a15 : Nat) (a16 : Nat) (u17 : Int32) (a18 : Nat) (a19 : Nat) (a20 : Nat) (u21 : Int32) (a22 : Nat) (a23 : Nat) (u24 : Int32) (a25 : Nat) (a26 : Nat) (u27 : Int32) (u28 : Int32) (u29 : Int32) (u30 : Int32) (p0 : Int32) (sz : Nat)  : Met l y_Md_isCell ws_Md_isCell ({ frames := 0, cells := 0, slots := 0, locals := 0 }) (va_Pc [.ref h0, .int p0] (cx_pre D [] ([(h0, .inr (6, [.int u0, .ref a1, .int u2, .int u3, .ref a4, .ref a5, .ref a6, .ref a7, .ref a8, .ref a9, .ref a10, .ref a11, .int u12, .int u13, .ref a14, .ref a15, .ref a16, .int u17, .ref a18, .ref a19, .ref a20, .int u21, .ref a22, .ref a23, .int u24, .ref a25, .ref a26, .int u27, .int u28, .int u29, .int u30]))]) sz)) (vp_Si (fun r9 => r9 = m_isCell u0 p0)) 0 0 (fun _ => False) := by
  refine Met.ofW (cc := b_Md_isCell) (maxL := 2) (ret := (some .boolean)) (by decide) rfl ?_
  intro p e s m args below meth c s₁ B hml hv
  obtain ⟨rfl, hsz, hP, hK, hD0, hN, hO⟩ := hv
  have hx := B.exec
  have hb := B.bytes
  have hr := B.returns
  have hts := fun (w : Cond) (h : w ∈ cx_tbl) => atoms_spec (ws := ws_Md_isCell) B.pre w (List.mem_cons_of_mem _ h)
  have hown : s.vm.findClass R_Md = some m.cls := findClass_of_methodNamed B.named
  have hlocks := B.notSynchronized
  subst hsz
  have hD := hD0.self (sz := s.heap.size)
  generalize hAe : va_A ([(h0, .inr (6, [.int u0, .ref a1, .int u2, .int u3, .ref a4, .ref a5, .ref a6, .ref a7, .ref a8, .ref a9, .ref a10, .ref a11, .int u12, .int u13, .ref a14, .ref a15, .ref a16, .int u17, .ref a18, .ref a19, .ref a20, .int u21, .ref a22, .ref a23, .int u24, .ref a25, .ref a26, .int u27, .int u28, .int u29, .int u30]))]) s.heap.size = A at hD hO
  have hA : ∀ q : Nat, s.heap.size ≤ q → A q := fun q h => by rw [← hAe]; exact Or.inr h
  have hS : va_S A s.heap s.heap [] := va_S.rf
  have hl := lv_entry ([.ref h0, .int p0]) (n := 2) (Nat.le_of_ble_eq_true rfl)
  rw [lg_entry_eq]
  generalize (lg_sl ([.ref h0, .int p0]) ++ List.replicate (2 - (lg_sl ([.ref h0, .int p0])).length) Slot.unset).toArray = ls at hl ⊢
  have hl : lv_has ls 2 [(0, .ref h0), (1, .int p0)] := hl
  refine lv_iload_n hx hb d_Md_isCell_0 rfl (lv_at hl 1 rfl) ?_
  refine lv_if_lt (tgt := 16) hx hb d_Md_isCell_1 (by decide) (fun c_1 => ?_) (fun c_1 => ?_)
  · refine lv_iconst (v := 0) hx hb d_Md_isCell_16 (by decide) ?_
    exact W.zret (v := 0) hx hb hr (rfl) (fun t ht hW => ⟨_, rfl, by simp [m_isCell, eq_true c_1], ht⟩) (fun q h => by cases h) d_Md_isCell_17
  · refine lv_iload_n hx hb d_Md_isCell_4 rfl (lv_at hl 1 rfl) ?_
    refine lv_aload_n hx hb d_Md_isCell_5 rfl (lv_at hl 0 rfl) ?_
    refine va_get (D := D) (ci := 6) (v := .int u0) (C := R_Md) (T := T_Md) (N := 31) hx hb hts in_Md hown hK hP 0 rfl rfl 0 (by decide) (hts _ cw_734) (fun _ h9 => h9) rfl d_Md_isCell_6 ?_
    refine lv_icmp_ge (tgt := 16) hx hb d_Md_isCell_9 (by decide) (fun c_2 => ?_) (fun c_2 => ?_)
    · refine lv_iconst (v := 0) hx hb d_Md_isCell_16 (by decide) ?_
      exact W.zret (v := 0) hx hb hr (rfl) (fun t ht hW => ⟨_, rfl, by simp [m_isCell, eq_false c_1, eq_true c_2], ht⟩) (fun q h => by cases h) d_Md_isCell_17
    · refine lv_iconst (v := 1) hx hb d_Md_isCell_12 (by decide) ?_
      refine lv_goto (tgt := 17) hx hb d_Md_isCell_13 (by decide) ?_
      exact W.zret (v := 1) hx hb hr (rfl) (fun t ht hW => ⟨_, rfl, by simp [m_isCell, eq_false c_1, eq_false c_2], ht⟩) (fun q h => by cases h) d_Md_isCell_17

set_option maxHeartbeats 4000000 in
set_option maxRecDepth 100000 in
theorem c_Md_cell (l : Launch) (D : va_G)  (h0 : Nat) (u0 : Int32) (a1 : Nat) (u2 : Int32) (u3 : Int32) (a4 : Nat) (a5 : Nat) (a6 : Nat) (a7 : Nat) (a8 : Nat) (a9 : Nat) (a10 : Nat) (a11 : Nat) (u12 : Int32) (u13 : Int32) (a14 : Nat) (a15 : Nat) (a16 : Nat) (u17 : Int32) (a18 : Nat) (a19 : Nat) (a20 : Nat) (u21 : Int32) (a22 : Nat) (a23 : Nat) (u24 : Int32) (a25 : Nat) (a26 : Nat) (u27 : Int32) (u28 : Int32) (u29 : Int32) (u30 : Int32) (sz : Nat)  : Met l y_Md_cell ws_Md_cell ({ frames := 0, cells := 0, slots := 0, locals := 0 }) (va_Pc [.ref h0] (cx_pre D [] ([(h0, .inr (6, [.int u0, .ref a1, .int u2, .int u3, .ref a4, .ref a5, .ref a6, .ref a7, .ref a8, .ref a9, .ref a10, .ref a11, .int u12, .int u13, .ref a14, .ref a15, .ref a16, .int u17, .ref a18, .ref a19, .ref a20, .int u21, .ref a22, .ref a23, .int u24, .ref a25, .ref a26, .int u27, .int u28, .int u29, .int u30]))]) sz)) (va_Qi (fun r9 _ => r9 = (m_mcell u0).1) (fun (_ : Unit) t => cx_end D [] (va_A ([(h0, .inr (6, [.int u0, .ref a1, .int u2, .int u3, .ref a4, .ref a5, .ref a6, .ref a7, .ref a8, .ref a9, .ref a10, .ref a11, .int u12, .int u13, .ref a14, .ref a15, .ref a16, .int u17, .ref a18, .ref a19, .ref a20, .int u21, .ref a22, .ref a23, .int u24, .ref a25, .ref a26, .int u27, .int u28, .int u29, .int u30]))]) sz) ([(h0, .inr (6, [.int ((m_mcell u0).2), .ref a1, .int u2, .int u3, .ref a4, .ref a5, .ref a6, .ref a7, .ref a8, .ref a9, .ref a10, .ref a11, .int u12, .int u13, .ref a14, .ref a15, .ref a16, .int u17, .ref a18, .ref a19, .ref a20, .int u21, .ref a22, .ref a23, .int u24, .ref a25, .ref a26, .int u27, .int u28, .int u29, .int u30]))]) t) (va_A ([(h0, .inr (6, [.int u0, .ref a1, .int u2, .int u3, .ref a4, .ref a5, .ref a6, .ref a7, .ref a8, .ref a9, .ref a10, .ref a11, .int u12, .int u13, .ref a14, .ref a15, .ref a16, .int u17, .ref a18, .ref a19, .ref a20, .int u21, .ref a22, .ref a23, .int u24, .ref a25, .ref a26, .int u27, .int u28, .int u29, .int u30]))]) sz)) 0 0 (va_A ([(h0, .inr (6, [.int u0, .ref a1, .int u2, .int u3, .ref a4, .ref a5, .ref a6, .ref a7, .ref a8, .ref a9, .ref a10, .ref a11, .int u12, .int u13, .ref a14, .ref a15, .ref a16, .int u17, .ref a18, .ref a19, .ref a20, .int u21, .ref a22, .ref a23, .int u24, .ref a25, .ref a26, .int u27, .int u28, .int u29, .int u30]))]) sz) := by
  refine Met.ofW (cc := b_Md_cell) (maxL := 1) (ret := (some .int)) (by decide) rfl ?_
  intro p e s m args below meth c s₁ B hml hv
  obtain ⟨rfl, hsz, hP, hK, hD0, hN, hO⟩ := hv
  have hx := B.exec
  have hb := B.bytes
  have hr := B.returns
  have hts := fun (w : Cond) (h : w ∈ cx_tbl) => atoms_spec (ws := ws_Md_cell) B.pre w (List.mem_cons_of_mem _ h)
  have hown : s.vm.findClass R_Md = some m.cls := findClass_of_methodNamed B.named
  have hlocks := B.notSynchronized
  subst hsz
  have hD := hD0.self (sz := s.heap.size)
  generalize hAe : va_A ([(h0, .inr (6, [.int u0, .ref a1, .int u2, .int u3, .ref a4, .ref a5, .ref a6, .ref a7, .ref a8, .ref a9, .ref a10, .ref a11, .int u12, .int u13, .ref a14, .ref a15, .ref a16, .int u17, .ref a18, .ref a19, .ref a20, .int u21, .ref a22, .ref a23, .int u24, .ref a25, .ref a26, .int u27, .int u28, .int u29, .int u30]))]) s.heap.size = A at hD hO ⊢
  have hA : ∀ q : Nat, s.heap.size ≤ q → A q := fun q h => by rw [← hAe]; exact Or.inr h
  have hS : va_S A s.heap s.heap [] := va_S.rf
  have hl := lv_entry ([.ref h0]) (n := 1) (Nat.le_of_ble_eq_true rfl)
  rw [lg_entry_eq]
  generalize (lg_sl ([.ref h0]) ++ List.replicate (1 - (lg_sl ([.ref h0])).length) Slot.unset).toArray = ls at hl ⊢
  have hl : lv_has ls 1 [(0, .ref h0)] := hl
  refine lv_aload_n hx hb d_Md_cell_0 rfl (lv_at hl 0 rfl) ?_
  refine va_get (D := D) (ci := 6) (v := .int u0) (C := R_Md) (T := T_Md) (N := 31) hx hb hts in_Md hown hK hP 0 rfl rfl 0 (by decide) (hts _ cw_734) (fun _ h9 => h9) rfl d_Md_cell_1 ?_
  refine lv_bipush (v := 8) hx hb d_Md_cell_4 (by decide) ?_
  refine lv_icmp_ne (tgt := 11) hx hb d_Md_cell_6 (by decide) (fun c_1 => ?_) (fun c_1 => ?_)
  · refine lv_aload_n hx hb d_Md_cell_11 rfl (lv_at hl 0 rfl) ?_
    refine lv_dup hx hb d_Md_cell_12 rfl ?_
    refine va_get (D := D) (ci := 6) (v := .int u0) (C := R_Md) (T := T_Md) (N := 31) hx hb hts in_Md hown hK hP 0 rfl rfl 0 (by decide) (hts _ cw_734) (fun _ h9 => h9) rfl d_Md_cell_13 ?_
    refine lv_iconst (v := 1) hx hb d_Md_cell_16 (by decide) ?_
    refine lv_iadd hx hb d_Md_cell_17 ?_
    refine va_put (D := D) (ci := 6) (v := .int (u0 + 1)) (ty := .int) (C := R_Md) (T := T_Md) (N := 31) hx hb hts in_Md ty_Md tyok_Md nm_Md hown hK hP hD hS 0 rfl rfl 0 (by decide) (hts _ cw_734) (fun _ h9 => h9) rfl (by decide +kernel) rfl rfl (Nat.le_of_ble_eq_true rfl) d_Md_cell_18 (fun H locs hP hD hS => ?_)
    have hP : va_P D classes ([(h0, .inr (6, [.int (u0 + 1), .ref a1, .int u2, .int u3, .ref a4, .ref a5, .ref a6, .ref a7, .ref a8, .ref a9, .ref a10, .ref a11, .int u12, .int u13, .ref a14, .ref a15, .ref a16, .int u17, .ref a18, .ref a19, .ref a20, .int u21, .ref a22, .ref a23, .int u24, .ref a25, .ref a26, .int u27, .int u28, .int u29, .int u30]))]) H := hP
    have hD : va_D A ([(h0, .inr (6, [.int (u0 + 1), .ref a1, .int u2, .int u3, .ref a4, .ref a5, .ref a6, .ref a7, .ref a8, .ref a9, .ref a10, .ref a11, .int u12, .int u13, .ref a14, .ref a15, .ref a16, .int u17, .ref a18, .ref a19, .ref a20, .int u21, .ref a22, .ref a23, .int u24, .ref a25, .ref a26, .int u27, .int u28, .int u29, .int u30]))]) := hD
    refine lv_aload_n hx hb d_Md_cell_21 rfl (lv_at hl 0 rfl) ?_
    refine va_get (D := D) (ci := 6) (v := .int (u0 + 1)) (C := R_Md) (T := T_Md) (N := 31) hx hb hts in_Md hown hK hP 0 rfl rfl 0 (by decide) (hts _ cw_734) (fun _ h9 => h9) rfl d_Md_cell_22 ?_
    refine lv_iconst (v := 1) hx hb d_Md_cell_25 (by decide) ?_
    refine lv_isub hx hb d_Md_cell_26 ?_
    have hm : m_mcell u0 = ((u0 + 1) - 1, u0 + 1) := by simp [m_mcell, eq_false c_1]
    rw [hm]
    have hP9 := hP.sub (ws' := [(h0, .inr (6, [.int (u0 + 1), .ref a1, .int u2, .int u3, .ref a4, .ref a5, .ref a6, .ref a7, .ref a8, .ref a9, .ref a10, .ref a11, .int u12, .int u13, .ref a14, .ref a15, .ref a16, .int u17, .ref a18, .ref a19, .ref a20, .int u21, .ref a22, .ref a23, .int u24, .ref a25, .ref a26, .int u27, .int u28, .int u29, .int u30]))]) [0] rfl
    have hD9 := hD.sub (ws' := [(h0, .inr (6, [.int (u0 + 1), .ref a1, .int u2, .int u3, .ref a4, .ref a5, .ref a6, .ref a7, .ref a8, .ref a9, .ref a10, .ref a11, .int u12, .int u13, .ref a14, .ref a15, .ref a16, .int u17, .ref a18, .ref a19, .ref a20, .int u21, .ref a22, .ref a23, .int u24, .ref a25, .ref a26, .int u27, .int u28, .int u29, .int u30]))]) [0] (by decide) rfl
    have hK9 := hK.sub (tys' := []) [] rfl
    exact W.iret (v := (u0 + 1) - 1) hx hb hr (fun t ht hW => ⟨⟨_, (), rfl, rfl, by rw [ht]; exact hP9, va_K.moved hW.alike hK9, hD9⟩, hS.F ht⟩) hS.2.2 d_Md_cell_27
  · refine lv_iconst (v := (-1)) hx hb d_Md_cell_9 (by decide) ?_
    have hm : m_mcell u0 = ((-1), u0) := by simp [m_mcell, eq_true c_1]
    rw [hm]
    have hP9 := hP.sub (ws' := [(h0, .inr (6, [.int u0, .ref a1, .int u2, .int u3, .ref a4, .ref a5, .ref a6, .ref a7, .ref a8, .ref a9, .ref a10, .ref a11, .int u12, .int u13, .ref a14, .ref a15, .ref a16, .int u17, .ref a18, .ref a19, .ref a20, .int u21, .ref a22, .ref a23, .int u24, .ref a25, .ref a26, .int u27, .int u28, .int u29, .int u30]))]) [0] rfl
    have hD9 := hD.sub (ws' := [(h0, .inr (6, [.int u0, .ref a1, .int u2, .int u3, .ref a4, .ref a5, .ref a6, .ref a7, .ref a8, .ref a9, .ref a10, .ref a11, .int u12, .int u13, .ref a14, .ref a15, .ref a16, .int u17, .ref a18, .ref a19, .ref a20, .int u21, .ref a22, .ref a23, .int u24, .ref a25, .ref a26, .int u27, .int u28, .int u29, .int u30]))]) [0] (by decide) rfl
    have hK9 := hK.sub (tys' := []) [] rfl
    exact W.iret (v := (-1)) hx hb hr (fun t ht hW => ⟨⟨_, (), rfl, rfl, by rw [ht]; exact hP9, va_K.moved hW.alike hK9, hD9⟩, hS.F ht⟩) hS.2.2 d_Md_cell_10

set_option maxHeartbeats 4000000 in
set_option maxRecDepth 100000 in
theorem c_Md_span (l : Launch) (D : va_G)  (h0 : Nat) (u0 : Int32) (a1 : Nat) (u2 : Int32) (u3 : Int32) (a4 : Nat) (a5 : Nat) (a6 : Nat) (a7 : Nat) (a8 : Nat) (a9 : Nat) (a10 : Nat) (a11 : Nat) (u12 : Int32) (u13 : Int32) (a14 : Nat) (a15 : Nat) (a16 : Nat) (u17 : Int32) (a18 : Nat) (a19 : Nat) (a20 : Nat) (u21 : Int32) (a22 : Nat) (a23 : Nat) (u24 : Int32) (a25 : Nat) (a26 : Nat) (u27 : Int32) (u28 : Int32) (u29 : Int32) (u30 : Int32) (p0 : Int32) (p1 : Int32) (sz : Nat)  : Met l y_Md_span ws_Md_span ({ frames := 1, cells := 0, slots := 0, locals := 25 }) (va_Pc [.ref h0, .int p0, .int p1] (cx_pre D [] ([(h0, .inr (6, [.int u0, .ref a1, .int u2, .int u3, .ref a4, .ref a5, .ref a6, .ref a7, .ref a8, .ref a9, .ref a10, .ref a11, .int u12, .int u13, .ref a14, .ref a15, .ref a16, .int u17, .ref a18, .ref a19, .ref a20, .int u21, .ref a22, .ref a23, .int u24, .ref a25, .ref a26, .int u27, .int u28, .int u29, .int u30]))]) sz)) (va_Qi (fun r9 _ => r9 = (m_mspan u2 u3 p0 p1).1) (fun (_ : Unit) t => cx_end D [] (va_A ([(h0, .inr (6, [.int u0, .ref a1, .int u2, .int u3, .ref a4, .ref a5, .ref a6, .ref a7, .ref a8, .ref a9, .ref a10, .ref a11, .int u12, .int u13, .ref a14, .ref a15, .ref a16, .int u17, .ref a18, .ref a19, .ref a20, .int u21, .ref a22, .ref a23, .int u24, .ref a25, .ref a26, .int u27, .int u28, .int u29, .int u30]))]) sz) ([(h0, .inr (6, [.int u0, .ref a1, .int ((m_mspan u2 u3 p0 p1).2.1), .int ((m_mspan u2 u3 p0 p1).2.2), .ref a4, .ref a5, .ref a6, .ref a7, .ref a8, .ref a9, .ref a10, .ref a11, .int u12, .int u13, .ref a14, .ref a15, .ref a16, .int u17, .ref a18, .ref a19, .ref a20, .int u21, .ref a22, .ref a23, .int u24, .ref a25, .ref a26, .int u27, .int u28, .int u29, .int u30]))]) t) (va_A ([(h0, .inr (6, [.int u0, .ref a1, .int u2, .int u3, .ref a4, .ref a5, .ref a6, .ref a7, .ref a8, .ref a9, .ref a10, .ref a11, .int u12, .int u13, .ref a14, .ref a15, .ref a16, .int u17, .ref a18, .ref a19, .ref a20, .int u21, .ref a22, .ref a23, .int u24, .ref a25, .ref a26, .int u27, .int u28, .int u29, .int u30]))]) sz)) 0 0 (va_A ([(h0, .inr (6, [.int u0, .ref a1, .int u2, .int u3, .ref a4, .ref a5, .ref a6, .ref a7, .ref a8, .ref a9, .ref a10, .ref a11, .int u12, .int u13, .ref a14, .ref a15, .ref a16, .int u17, .ref a18, .ref a19, .ref a20, .int u21, .ref a22, .ref a23, .int u24, .ref a25, .ref a26, .int u27, .int u28, .int u29, .int u30]))]) sz) := by
  refine Met.ofW (cc := b_Md_span) (maxL := 3) (ret := (some .boolean)) (by decide) rfl ?_
  intro p e s m args below meth c s₁ B hml hv
  obtain ⟨rfl, hsz, hP, hK, hD0, hN, hO⟩ := hv
  have hx := B.exec
  have hb := B.bytes
  have hr := B.returns
  have hts := fun (w : Cond) (h : w ∈ cx_tbl) => atoms_spec (ws := ws_Md_span) B.pre w (List.mem_cons_of_mem _ h)
  have hown : s.vm.findClass R_Md = some m.cls := findClass_of_methodNamed B.named
  have hlocks := B.notSynchronized
  subst hsz
  have hD := hD0.self (sz := s.heap.size)
  generalize hAe : va_A ([(h0, .inr (6, [.int u0, .ref a1, .int u2, .int u3, .ref a4, .ref a5, .ref a6, .ref a7, .ref a8, .ref a9, .ref a10, .ref a11, .int u12, .int u13, .ref a14, .ref a15, .ref a16, .int u17, .ref a18, .ref a19, .ref a20, .int u21, .ref a22, .ref a23, .int u24, .ref a25, .ref a26, .int u27, .int u28, .int u29, .int u30]))]) s.heap.size = A at hD hO ⊢
  have hA : ∀ q : Nat, s.heap.size ≤ q → A q := fun q h => by rw [← hAe]; exact Or.inr h
  have hS : va_S A s.heap s.heap [] := va_S.rf
  have hl := lv_entry ([.ref h0, .int p0, .int p1]) (n := 3) (Nat.le_of_ble_eq_true rfl)
  rw [lg_entry_eq]
  generalize (lg_sl ([.ref h0, .int p0, .int p1]) ++ List.replicate (3 - (lg_sl ([.ref h0, .int p0, .int p1])).length) Slot.unset).toArray = ls at hl ⊢
  have hl : lv_has ls 3 [(0, .ref h0), (1, .int p0), (2, .int p1)] := hl
  refine lv_iload_n hx hb d_Md_span_0 rfl (lv_at hl 1 rfl) ?_
  refine lv_i2l hx hb d_Md_span_1 rfl ?_
  refine lv_lconst (v := 0) hx hb d_Md_span_2 (by decide) ?_
  refine lv_ldc2 (v := 1000000) hx hb hown (hts _ cw_836) d_Md_span_3 ?_
  have hPc := hP.sub (ws' := []) [] rfl
  have hDc := hD.sub (ws' := []) [] (by decide) rfl
  have hKc := hK.sub (tys' := []) [] rfl
  have hFc := va_free (wc := []) hD hS hA [] rfl
  refine vp_callSi (va_Run.run (va_runS (As := [.long p0.toInt64, .long 0, .long 1000000]) (rest := [])  ⟨hx, hb, hml, hown, hts⟩ (c_Md_isIn l D p0.toInt64 0 1000000 s.heap.size ) ⟨callB_of 3 hts cg_Md_isIn rfl rfl rfl (hts _ cw_10) (hts _ cw_837) (by decide +kernel) ⟨Nat.le_of_ble_eq_true rfl, Nat.le_of_ble_eq_true rfl⟩, hts _ cw_838⟩ (cx_preS [.long p0.toInt64, .long 0, .long 1000000] hPc hKc hDc hN hO hS hFc) rfl rfl hl.1 rfl (lv_room (Nat.le_of_ble_eq_true rfl)) d_Md_span_6 ⟨Nat.le_of_ble_eq_true rfl, Nat.le_of_ble_eq_true rfl⟩)) (fun r z_1 => ?_)
  subst z_1
  refine lv_if_eq (tgt := 29) hx hb d_Md_span_9 (by decide) (fun c_2 => ?_) (fun c_2 => ?_)
  · refine lv_iconst (v := 0) hx hb d_Md_span_29 (by decide) ?_
    have hm : m_mspan u2 u3 p0 p1 = (0, u2, u3) := by simp [m_mspan, eq_true c_2]
    rw [hm]
    have hP9 := hP.sub (ws' := [(h0, .inr (6, [.int u0, .ref a1, .int u2, .int u3, .ref a4, .ref a5, .ref a6, .ref a7, .ref a8, .ref a9, .ref a10, .ref a11, .int u12, .int u13, .ref a14, .ref a15, .ref a16, .int u17, .ref a18, .ref a19, .ref a20, .int u21, .ref a22, .ref a23, .int u24, .ref a25, .ref a26, .int u27, .int u28, .int u29, .int u30]))]) [0] rfl
    have hD9 := hD.sub (ws' := [(h0, .inr (6, [.int u0, .ref a1, .int u2, .int u3, .ref a4, .ref a5, .ref a6, .ref a7, .ref a8, .ref a9, .ref a10, .ref a11, .int u12, .int u13, .ref a14, .ref a15, .ref a16, .int u17, .ref a18, .ref a19, .ref a20, .int u21, .ref a22, .ref a23, .int u24, .ref a25, .ref a26, .int u27, .int u28, .int u29, .int u30]))]) [0] (by decide) rfl
    have hK9 := hK.sub (tys' := []) [] rfl
    exact W.zret (v := 0) hx hb hr (rfl) (fun t ht hW => ⟨⟨_, (), rfl, rfl, by rw [ht]; exact hP9, va_K.moved hW.alike hK9, hD9⟩, hS.F ht⟩) hS.2.2 d_Md_span_30
  · refine lv_iload_n hx hb d_Md_span_12 rfl (lv_at hl 2 rfl) ?_
    refine lv_i2l hx hb d_Md_span_13 rfl ?_
    refine lv_lconst (v := 0) hx hb d_Md_span_14 (by decide) ?_
    refine lv_ldc2 (v := 1000000) hx hb hown (hts _ cw_836) d_Md_span_15 ?_
    have hPc := hP.sub (ws' := []) [] rfl
    have hDc := hD.sub (ws' := []) [] (by decide) rfl
    have hKc := hK.sub (tys' := []) [] rfl
    have hFc := va_free (wc := []) hD hS hA [] rfl
    refine vp_callSi (va_Run.run (va_runS (As := [.long p1.toInt64, .long 0, .long 1000000]) (rest := [])  ⟨hx, hb, hml, hown, hts⟩ (c_Md_isIn l D p1.toInt64 0 1000000 s.heap.size ) ⟨callB_of 3 hts cg_Md_isIn rfl rfl rfl (hts _ cw_10) (hts _ cw_837) (by decide +kernel) ⟨Nat.le_of_ble_eq_true rfl, Nat.le_of_ble_eq_true rfl⟩, hts _ cw_838⟩ (cx_preS [.long p1.toInt64, .long 0, .long 1000000] hPc hKc hDc hN hO hS hFc) rfl rfl hl.1 rfl (lv_room (Nat.le_of_ble_eq_true rfl)) d_Md_span_18 ⟨Nat.le_of_ble_eq_true rfl, Nat.le_of_ble_eq_true rfl⟩)) (fun r z_3 => ?_)
    subst z_3
    refine lv_if_eq (tgt := 29) hx hb d_Md_span_21 (by decide) (fun c_4 => ?_) (fun c_4 => ?_)
    · refine lv_iconst (v := 0) hx hb d_Md_span_29 (by decide) ?_
      have hm : m_mspan u2 u3 p0 p1 = (0, u2, u3) := by simp [m_mspan, eq_false c_2, eq_true c_4]
      rw [hm]
      have hP9 := hP.sub (ws' := [(h0, .inr (6, [.int u0, .ref a1, .int u2, .int u3, .ref a4, .ref a5, .ref a6, .ref a7, .ref a8, .ref a9, .ref a10, .ref a11, .int u12, .int u13, .ref a14, .ref a15, .ref a16, .int u17, .ref a18, .ref a19, .ref a20, .int u21, .ref a22, .ref a23, .int u24, .ref a25, .ref a26, .int u27, .int u28, .int u29, .int u30]))]) [0] rfl
      have hD9 := hD.sub (ws' := [(h0, .inr (6, [.int u0, .ref a1, .int u2, .int u3, .ref a4, .ref a5, .ref a6, .ref a7, .ref a8, .ref a9, .ref a10, .ref a11, .int u12, .int u13, .ref a14, .ref a15, .ref a16, .int u17, .ref a18, .ref a19, .ref a20, .int u21, .ref a22, .ref a23, .int u24, .ref a25, .ref a26, .int u27, .int u28, .int u29, .int u30]))]) [0] (by decide) rfl
      have hK9 := hK.sub (tys' := []) [] rfl
      exact W.zret (v := 0) hx hb hr (rfl) (fun t ht hW => ⟨⟨_, (), rfl, rfl, by rw [ht]; exact hP9, va_K.moved hW.alike hK9, hD9⟩, hS.F ht⟩) hS.2.2 d_Md_span_30
    · refine lv_iload_n hx hb d_Md_span_24 rfl (lv_at hl 1 rfl) ?_
      refine lv_iload_n hx hb d_Md_span_25 rfl (lv_at hl 2 rfl) ?_
      refine lv_icmp_le (tgt := 31) hx hb d_Md_span_26 (by decide) (fun c_5 => ?_) (fun c_5 => ?_)
      · refine lv_aload_n hx hb d_Md_span_31 rfl (lv_at hl 0 rfl) ?_
        refine lv_iload_n hx hb d_Md_span_32 rfl (lv_at hl 1 rfl) ?_
        refine va_put (D := D) (ci := 6) (v := .int p0) (ty := .int) (C := R_Md) (T := T_Md) (N := 31) hx hb hts in_Md ty_Md tyok_Md nm_Md hown hK hP hD hS 0 rfl rfl 2 (by decide) (hts _ cw_736) (fun _ h9 => h9) rfl (by decide +kernel) rfl rfl (Nat.le_of_ble_eq_true rfl) d_Md_span_33 (fun H locs hP hD hS => ?_)
        have hP : va_P D classes ([(h0, .inr (6, [.int u0, .ref a1, .int p0, .int u3, .ref a4, .ref a5, .ref a6, .ref a7, .ref a8, .ref a9, .ref a10, .ref a11, .int u12, .int u13, .ref a14, .ref a15, .ref a16, .int u17, .ref a18, .ref a19, .ref a20, .int u21, .ref a22, .ref a23, .int u24, .ref a25, .ref a26, .int u27, .int u28, .int u29, .int u30]))]) H := hP
        have hD : va_D A ([(h0, .inr (6, [.int u0, .ref a1, .int p0, .int u3, .ref a4, .ref a5, .ref a6, .ref a7, .ref a8, .ref a9, .ref a10, .ref a11, .int u12, .int u13, .ref a14, .ref a15, .ref a16, .int u17, .ref a18, .ref a19, .ref a20, .int u21, .ref a22, .ref a23, .int u24, .ref a25, .ref a26, .int u27, .int u28, .int u29, .int u30]))]) := hD
        refine lv_aload_n hx hb d_Md_span_36 rfl (lv_at hl 0 rfl) ?_
        refine lv_iload_n hx hb d_Md_span_37 rfl (lv_at hl 2 rfl) ?_
        refine va_put (D := D) (ci := 6) (v := .int p1) (ty := .int) (C := R_Md) (T := T_Md) (N := 31) hx hb hts in_Md ty_Md tyok_Md nm_Md hown hK hP hD hS 0 rfl rfl 3 (by decide) (hts _ cw_737) (fun _ h9 => h9) rfl (by decide +kernel) rfl rfl (Nat.le_of_ble_eq_true rfl) d_Md_span_38 (fun H locs hP hD hS => ?_)
        have hP : va_P D classes ([(h0, .inr (6, [.int u0, .ref a1, .int p0, .int p1, .ref a4, .ref a5, .ref a6, .ref a7, .ref a8, .ref a9, .ref a10, .ref a11, .int u12, .int u13, .ref a14, .ref a15, .ref a16, .int u17, .ref a18, .ref a19, .ref a20, .int u21, .ref a22, .ref a23, .int u24, .ref a25, .ref a26, .int u27, .int u28, .int u29, .int u30]))]) H := hP
        have hD : va_D A ([(h0, .inr (6, [.int u0, .ref a1, .int p0, .int p1, .ref a4, .ref a5, .ref a6, .ref a7, .ref a8, .ref a9, .ref a10, .ref a11, .int u12, .int u13, .ref a14, .ref a15, .ref a16, .int u17, .ref a18, .ref a19, .ref a20, .int u21, .ref a22, .ref a23, .int u24, .ref a25, .ref a26, .int u27, .int u28, .int u29, .int u30]))]) := hD
        refine lv_iconst (v := 1) hx hb d_Md_span_41 (by decide) ?_
        have hm : m_mspan u2 u3 p0 p1 = (1, p0, p1) := by simp [m_mspan, eq_false c_2, eq_false c_4, eq_true c_5]
        rw [hm]
        have hP9 := hP.sub (ws' := [(h0, .inr (6, [.int u0, .ref a1, .int p0, .int p1, .ref a4, .ref a5, .ref a6, .ref a7, .ref a8, .ref a9, .ref a10, .ref a11, .int u12, .int u13, .ref a14, .ref a15, .ref a16, .int u17, .ref a18, .ref a19, .ref a20, .int u21, .ref a22, .ref a23, .int u24, .ref a25, .ref a26, .int u27, .int u28, .int u29, .int u30]))]) [0] rfl
        have hD9 := hD.sub (ws' := [(h0, .inr (6, [.int u0, .ref a1, .int p0, .int p1, .ref a4, .ref a5, .ref a6, .ref a7, .ref a8, .ref a9, .ref a10, .ref a11, .int u12, .int u13, .ref a14, .ref a15, .ref a16, .int u17, .ref a18, .ref a19, .ref a20, .int u21, .ref a22, .ref a23, .int u24, .ref a25, .ref a26, .int u27, .int u28, .int u29, .int u30]))]) [0] (by decide) rfl
        have hK9 := hK.sub (tys' := []) [] rfl
        exact W.zret (v := 1) hx hb hr (rfl) (fun t ht hW => ⟨⟨_, (), rfl, rfl, by rw [ht]; exact hP9, va_K.moved hW.alike hK9, hD9⟩, hS.F ht⟩) hS.2.2 d_Md_span_42
      · refine lv_iconst (v := 0) hx hb d_Md_span_29 (by decide) ?_
        have hm : m_mspan u2 u3 p0 p1 = (0, u2, u3) := by simp [m_mspan, eq_false c_2, eq_false c_4, eq_false c_5]
        rw [hm]
        have hP9 := hP.sub (ws' := [(h0, .inr (6, [.int u0, .ref a1, .int u2, .int u3, .ref a4, .ref a5, .ref a6, .ref a7, .ref a8, .ref a9, .ref a10, .ref a11, .int u12, .int u13, .ref a14, .ref a15, .ref a16, .int u17, .ref a18, .ref a19, .ref a20, .int u21, .ref a22, .ref a23, .int u24, .ref a25, .ref a26, .int u27, .int u28, .int u29, .int u30]))]) [0] rfl
        have hD9 := hD.sub (ws' := [(h0, .inr (6, [.int u0, .ref a1, .int u2, .int u3, .ref a4, .ref a5, .ref a6, .ref a7, .ref a8, .ref a9, .ref a10, .ref a11, .int u12, .int u13, .ref a14, .ref a15, .ref a16, .int u17, .ref a18, .ref a19, .ref a20, .int u21, .ref a22, .ref a23, .int u24, .ref a25, .ref a26, .int u27, .int u28, .int u29, .int u30]))]) [0] (by decide) rfl
        have hK9 := hK.sub (tys' := []) [] rfl
        exact W.zret (v := 0) hx hb hr (rfl) (fun t ht hW => ⟨⟨_, (), rfl, rfl, by rw [ht]; exact hP9, va_K.moved hW.alike hK9, hD9⟩, hS.F ht⟩) hS.2.2 d_Md_span_30

set_option maxHeartbeats 4000000 in
set_option maxRecDepth 100000 in
theorem c_Md_isInSpan (l : Launch) (D : va_G)  (h0 : Nat) (u0 : Int32) (a1 : Nat) (u2 : Int32) (u3 : Int32) (a4 : Nat) (a5 : Nat) (a6 : Nat) (a7 : Nat) (a8 : Nat) (a9 : Nat) (a10 : Nat) (a11 : Nat) (u12 : Int32) (u13 : Int32) (a14 : Nat) (a15 : Nat) (a16 : Nat) (u17 : Int32) (a18 : Nat) (a19 : Nat) (a20 : Nat) (u21 : Int32) (a22 : Nat) (a23 : Nat) (u24 : Int32) (a25 : Nat) (a26 : Nat) (u27 : Int32) (u28 : Int32) (u29 : Int32) (u30 : Int32) (k1 : ClassId) (c1 : Nat → Int32) (p0 : Int32) (sz : Nat) (hx8 : vp_in p0 8) : Met l y_Md_isInSpan ws_Md_isInSpan ({ frames := 0, cells := 0, slots := 0, locals := 0 }) (va_Pc [.ref h0, .int p0] (cx_pre D [(k1, .int)] ([(h0, .inr (6, [.int u0, .ref a1, .int u2, .int u3, .ref a4, .ref a5, .ref a6, .ref a7, .ref a8, .ref a9, .ref a10, .ref a11, .int u12, .int u13, .ref a14, .ref a15, .ref a16, .int u17, .ref a18, .ref a19, .ref a20, .int u21, .ref a22, .ref a23, .int u24, .ref a25, .ref a26, .int u27, .int u28, .int u29, .int u30])), (a1, .inl (k1, 8, .inl c1))]) sz)) (vp_Si (fun r9 => r9 = m_inSpan u2 u3 c1 p0)) 0 0 (fun _ => False) := by
  refine Met.ofW (cc := b_Md_isInSpan) (maxL := 2) (ret := (some .boolean)) (by decide) rfl ?_
  intro p e s m args below meth c s₁ B hml hv
  obtain ⟨rfl, hsz, hP, hK, hD0, hN, hO⟩ := hv
  have hx := B.exec
  have hb := B.bytes
  have hr := B.returns
  have hts := fun (w : Cond) (h : w ∈ cx_tbl) => atoms_spec (ws := ws_Md_isInSpan) B.pre w (List.mem_cons_of_mem _ h)
  have hown : s.vm.findClass R_Md = some m.cls := findClass_of_methodNamed B.named
  have hlocks := B.notSynchronized
  subst hsz
  have hD := hD0.self (sz := s.heap.size)
  generalize hAe : va_A ([(h0, .inr (6, [.int u0, .ref a1, .int u2, .int u3, .ref a4, .ref a5, .ref a6, .ref a7, .ref a8, .ref a9, .ref a10, .ref a11, .int u12, .int u13, .ref a14, .ref a15, .ref a16, .int u17, .ref a18, .ref a19, .ref a20, .int u21, .ref a22, .ref a23, .int u24, .ref a25, .ref a26, .int u27, .int u28, .int u29, .int u30])), (a1, .inl (k1, 8, .inl c1))]) s.heap.size = A at hD hO
  have hA : ∀ q : Nat, s.heap.size ≤ q → A q := fun q h => by rw [← hAe]; exact Or.inr h
  have hS : va_S A s.heap s.heap [] := va_S.rf
  have hl := lv_entry ([.ref h0, .int p0]) (n := 2) (Nat.le_of_ble_eq_true rfl)
  rw [lg_entry_eq]
  generalize (lg_sl ([.ref h0, .int p0]) ++ List.replicate (2 - (lg_sl ([.ref h0, .int p0])).length) Slot.unset).toArray = ls at hl ⊢
  have hl : lv_has ls 2 [(0, .ref h0), (1, .int p0)] := hl
  refine lv_aload_n hx hb d_Md_isInSpan_0 rfl (lv_at hl 0 rfl) ?_
  refine va_get (D := D) (ci := 6) (v := .ref a1) (C := R_Md) (T := T_Md) (N := 31) hx hb hts in_Md hown hK hP 0 rfl rfl 1 (by decide) (hts _ cw_735) (fun _ h9 => h9) rfl d_Md_isInSpan_1 ?_
  refine lv_iload_n hx hb d_Md_isInSpan_4 rfl (lv_at hl 1 rfl) ?_
  refine va_iald hx hb hK hP 1 0 rfl rfl (hx8) d_Md_isInSpan_5 ?_
  refine lv_aload_n hx hb d_Md_isInSpan_6 rfl (lv_at hl 0 rfl) ?_
  refine va_get (D := D) (ci := 6) (v := .int u2) (C := R_Md) (T := T_Md) (N := 31) hx hb hts in_Md hown hK hP 0 rfl rfl 2 (by decide) (hts _ cw_736) (fun _ h9 => h9) rfl d_Md_isInSpan_7 ?_
  refine lv_icmp_lt (tgt := 30) hx hb d_Md_isInSpan_10 (by decide) (fun c_1 => ?_) (fun c_1 => ?_)
  · refine lv_iconst (v := 0) hx hb d_Md_isInSpan_30 (by decide) ?_
    exact W.zret (v := 0) hx hb hr (rfl) (fun t ht hW => ⟨_, rfl, by simp [m_inSpan, eq_true c_1], ht⟩) (fun q h => by cases h) d_Md_isInSpan_31
  · refine lv_aload_n hx hb d_Md_isInSpan_13 rfl (lv_at hl 0 rfl) ?_
    refine va_get (D := D) (ci := 6) (v := .ref a1) (C := R_Md) (T := T_Md) (N := 31) hx hb hts in_Md hown hK hP 0 rfl rfl 1 (by decide) (hts _ cw_735) (fun _ h9 => h9) rfl d_Md_isInSpan_14 ?_
    refine lv_iload_n hx hb d_Md_isInSpan_17 rfl (lv_at hl 1 rfl) ?_
    refine va_iald hx hb hK hP 1 0 rfl rfl (hx8) d_Md_isInSpan_18 ?_
    refine lv_aload_n hx hb d_Md_isInSpan_19 rfl (lv_at hl 0 rfl) ?_
    refine va_get (D := D) (ci := 6) (v := .int u3) (C := R_Md) (T := T_Md) (N := 31) hx hb hts in_Md hown hK hP 0 rfl rfl 3 (by decide) (hts _ cw_737) (fun _ h9 => h9) rfl d_Md_isInSpan_20 ?_
    refine lv_icmp_gt (tgt := 30) hx hb d_Md_isInSpan_23 (by decide) (fun c_2 => ?_) (fun c_2 => ?_)
    · refine lv_iconst (v := 0) hx hb d_Md_isInSpan_30 (by decide) ?_
      exact W.zret (v := 0) hx hb hr (rfl) (fun t ht hW => ⟨_, rfl, by simp [m_inSpan, eq_false c_1, eq_true c_2], ht⟩) (fun q h => by cases h) d_Md_isInSpan_31
    · refine lv_iconst (v := 1) hx hb d_Md_isInSpan_26 (by decide) ?_
      refine lv_goto (tgt := 31) hx hb d_Md_isInSpan_27 (by decide) ?_
      exact W.zret (v := 1) hx hb hr (rfl) (fun t ht hW => ⟨_, rfl, by simp [m_inSpan, eq_false c_1, eq_false c_2], ht⟩) (fun q h => by cases h) d_Md_isInSpan_31

set_option maxHeartbeats 4000000 in
set_option maxRecDepth 100000 in
theorem c_Md_warm (l : Launch) (D : va_G)  (h0 : Nat) (u0 : Int32) (a1 : Nat) (u2 : Int32) (u3 : Int32) (a4 : Nat) (a5 : Nat) (a6 : Nat) (a7 : Nat) (a8 : Nat) (a9 : Nat) (a10 : Nat) (a11 : Nat) (u12 : Int32) (u13 : Int32) (a14 : Nat) (a15 : Nat) (a16 : Nat) (u17 : Int32) (a18 : Nat) (a19 : Nat) (a20 : Nat) (u21 : Int32) (a22 : Nat) (a23 : Nat) (u24 : Int32) (a25 : Nat) (a26 : Nat) (u27 : Int32) (u28 : Int32) (u29 : Int32) (u30 : Int32) (k1 : ClassId) (c1 : Nat → Int32) (p0 : Int32) (p1 : Int32) (sz : Nat) (hc : u0 ≤ 8) : Met l y_Md_warm ws_Md_warm ({ frames := 1, cells := 0, slots := 0, locals := 25 }) (va_Pc [.ref h0, .int p0, .int p1] (cx_pre D [(k1, .int)] ([(h0, .inr (6, [.int u0, .ref a1, .int u2, .int u3, .ref a4, .ref a5, .ref a6, .ref a7, .ref a8, .ref a9, .ref a10, .ref a11, .int u12, .int u13, .ref a14, .ref a15, .ref a16, .int u17, .ref a18, .ref a19, .ref a20, .int u21, .ref a22, .ref a23, .int u24, .ref a25, .ref a26, .int u27, .int u28, .int u29, .int u30])), (a1, .inl (k1, 8, .inl c1))]) sz)) (va_Qi (fun r9 _ => r9 = (m_mwarm u0 u2 u3 c1 p0 p1).1) (fun (_ : Unit) t => cx_end D [(k1, .int)] (va_A ([(h0, .inr (6, [.int u0, .ref a1, .int u2, .int u3, .ref a4, .ref a5, .ref a6, .ref a7, .ref a8, .ref a9, .ref a10, .ref a11, .int u12, .int u13, .ref a14, .ref a15, .ref a16, .int u17, .ref a18, .ref a19, .ref a20, .int u21, .ref a22, .ref a23, .int u24, .ref a25, .ref a26, .int u27, .int u28, .int u29, .int u30])), (a1, .inl (k1, 8, .inl c1))]) sz) ([(h0, .inr (6, [.int u0, .ref a1, .int u2, .int u3, .ref a4, .ref a5, .ref a6, .ref a7, .ref a8, .ref a9, .ref a10, .ref a11, .int u12, .int u13, .ref a14, .ref a15, .ref a16, .int u17, .ref a18, .ref a19, .ref a20, .int u21, .ref a22, .ref a23, .int u24, .ref a25, .ref a26, .int u27, .int u28, .int u29, .int u30])), (a1, .inl (k1, 8, .inl ((m_mwarm u0 u2 u3 c1 p0 p1).2)))]) t) (va_A ([(h0, .inr (6, [.int u0, .ref a1, .int u2, .int u3, .ref a4, .ref a5, .ref a6, .ref a7, .ref a8, .ref a9, .ref a10, .ref a11, .int u12, .int u13, .ref a14, .ref a15, .ref a16, .int u17, .ref a18, .ref a19, .ref a20, .int u21, .ref a22, .ref a23, .int u24, .ref a25, .ref a26, .int u27, .int u28, .int u29, .int u30])), (a1, .inl (k1, 8, .inl c1))]) sz)) 0 0 (va_A ([(h0, .inr (6, [.int u0, .ref a1, .int u2, .int u3, .ref a4, .ref a5, .ref a6, .ref a7, .ref a8, .ref a9, .ref a10, .ref a11, .int u12, .int u13, .ref a14, .ref a15, .ref a16, .int u17, .ref a18, .ref a19, .ref a20, .int u21, .ref a22, .ref a23, .int u24, .ref a25, .ref a26, .int u27, .int u28, .int u29, .int u30])), (a1, .inl (k1, 8, .inl c1))]) sz) := by
  refine Met.ofW (cc := b_Md_warm) (maxL := 3) (ret := (some .boolean)) (by decide) rfl ?_
  intro p e s m args below meth c s₁ B hml hv
  obtain ⟨rfl, hsz, hP, hK, hD0, hN, hO⟩ := hv
  have hx := B.exec
  have hb := B.bytes
  have hr := B.returns
  have hts := fun (w : Cond) (h : w ∈ cx_tbl) => atoms_spec (ws := ws_Md_warm) B.pre w (List.mem_cons_of_mem _ h)
  have hown : s.vm.findClass R_Md = some m.cls := findClass_of_methodNamed B.named
  have hlocks := B.notSynchronized
  subst hsz
  have hD := hD0.self (sz := s.heap.size)
  generalize hAe : va_A ([(h0, .inr (6, [.int u0, .ref a1, .int u2, .int u3, .ref a4, .ref a5, .ref a6, .ref a7, .ref a8, .ref a9, .ref a10, .ref a11, .int u12, .int u13, .ref a14, .ref a15, .ref a16, .int u17, .ref a18, .ref a19, .ref a20, .int u21, .ref a22, .ref a23, .int u24, .ref a25, .ref a26, .int u27, .int u28, .int u29, .int u30])), (a1, .inl (k1, 8, .inl c1))]) s.heap.size = A at hD hO ⊢
  have hA : ∀ q : Nat, s.heap.size ≤ q → A q := fun q h => by rw [← hAe]; exact Or.inr h
  have hS : va_S A s.heap s.heap [] := va_S.rf
  have hl := lv_entry ([.ref h0, .int p0, .int p1]) (n := 3) (Nat.le_of_ble_eq_true rfl)
  rw [lg_entry_eq]
  generalize (lg_sl ([.ref h0, .int p0, .int p1]) ++ List.replicate (3 - (lg_sl ([.ref h0, .int p0, .int p1])).length) Slot.unset).toArray = ls at hl ⊢
  have hl : lv_has ls 3 [(0, .ref h0), (1, .int p0), (2, .int p1)] := hl
  refine lv_aload_n hx hb d_Md_warm_0 rfl (lv_at hl 0 rfl) ?_
  refine lv_iload_n hx hb d_Md_warm_1 rfl (lv_at hl 1 rfl) ?_
  have hPc := hP.sub (ws' := [(h0, .inr (6, [.int u0, .ref a1, .int u2, .int u3, .ref a4, .ref a5, .ref a6, .ref a7, .ref a8, .ref a9, .ref a10, .ref a11, .int u12, .int u13, .ref a14, .ref a15, .ref a16, .int u17, .ref a18, .ref a19, .ref a20, .int u21, .ref a22, .ref a23, .int u24, .ref a25, .ref a26, .int u27, .int u28, .int u29, .int u30]))]) [0] rfl
  have hDc := hD.sub (ws' := [(h0, .inr (6, [.int u0, .ref a1, .int u2, .int u3, .ref a4, .ref a5, .ref a6, .ref a7, .ref a8, .ref a9, .ref a10, .ref a11, .int u12, .int u13, .ref a14, .ref a15, .ref a16, .int u17, .ref a18, .ref a19, .ref a20, .int u21, .ref a22, .ref a23, .int u24, .ref a25, .ref a26, .int u27, .int u28, .int u29, .int u30]))]) [0] (by decide) rfl
  have hKc := hK.sub (tys' := []) [] rfl
  have hFc := va_free (wc := [(h0, .inr (6, [.int u0, .ref a1, .int u2, .int u3, .ref a4, .ref a5, .ref a6, .ref a7, .ref a8, .ref a9, .ref a10, .ref a11, .int u12, .int u13, .ref a14, .ref a15, .ref a16, .int u17, .ref a18, .ref a19, .ref a20, .int u21, .ref a22, .ref a23, .int u24, .ref a25, .ref a26, .int u27, .int u28, .int u29, .int u30]))]) hD hS hA [0] rfl
  refine vp_callSi (va_Run.run (va_runV (As := [.int p0]) (rest := [])  ⟨hx, hb, hml, hown, hts⟩ (c_Md_isCell l D h0 u0 a1 u2 u3 a4 a5 a6 a7 a8 a9 a10 a11 u12 u13 a14 a15 a16 u17 a18 a19 a20 u21 a22 a23 u24 a25 a26 u27 u28 u29 u30 p0 s.heap.size ) ⟨callB_of 1 hts cg_Md_isCell rfl rfl rfl (hts _ cw_10) (hts _ cw_844) (by decide +kernel) ⟨Nat.le_of_ble_eq_true rfl, Nat.le_of_ble_eq_true rfl⟩, hts _ cw_846, hts _ cs_16⟩ (cx_preV (C := R_Md) [.int p0] hPc hKc hDc hN hO hS hFc (ci := 6) (q0 := 0) rfl rfl rfl) rfl rfl hl.1 rfl (lv_room (Nat.le_of_ble_eq_true rfl)) d_Md_warm_2 ⟨Nat.le_of_ble_eq_true rfl, Nat.le_of_ble_eq_true rfl⟩)) (fun r z_1 => ?_)
  subst z_1
  refine lv_if_eq (tgt := 20) hx hb d_Md_warm_5 (by decide) (fun c_2 => ?_) (fun c_2 => ?_)
  · refine lv_iconst (v := 0) hx hb d_Md_warm_20 (by decide) ?_
    have hm : m_mwarm u0 u2 u3 c1 p0 p1 = (0, c1) := by simp [m_mwarm, eq_true c_2]
    rw [hm]
    have hP9 := hP.sub (ws' := [(h0, .inr (6, [.int u0, .ref a1, .int u2, .int u3, .ref a4, .ref a5, .ref a6, .ref a7, .ref a8, .ref a9, .ref a10, .ref a11, .int u12, .int u13, .ref a14, .ref a15, .ref a16, .int u17, .ref a18, .ref a19, .ref a20, .int u21, .ref a22, .ref a23, .int u24, .ref a25, .ref a26, .int u27, .int u28, .int u29, .int u30])), (a1, .inl (k1, 8, .inl c1))]) [0, 1] rfl
    have hD9 := hD.sub (ws' := [(h0, .inr (6, [.int u0, .ref a1, .int u2, .int u3, .ref a4, .ref a5, .ref a6, .ref a7, .ref a8, .ref a9, .ref a10, .ref a11, .int u12, .int u13, .ref a14, .ref a15, .ref a16, .int u17, .ref a18, .ref a19, .ref a20, .int u21, .ref a22, .ref a23, .int u24, .ref a25, .ref a26, .int u27, .int u28, .int u29, .int u30])), (a1, .inl (k1, 8, .inl c1))]) [0, 1] (by decide) rfl
    have hK9 := hK.sub (tys' := [(k1, .int)]) [0] rfl
    exact W.zret (v := 0) hx hb hr (rfl) (fun t ht hW => ⟨⟨_, (), rfl, rfl, by rw [ht]; exact hP9, va_K.moved hW.alike hK9, hD9⟩, hS.F ht⟩) hS.2.2 d_Md_warm_21
  · refine lv_iload_n hx hb d_Md_warm_8 rfl (lv_at hl 2 rfl) ?_
    refine lv_i2l hx hb d_Md_warm_9 rfl ?_
    refine lv_lconst (v := 0) hx hb d_Md_warm_10 (by decide) ?_
    refine lv_ldc2 (v := 1000000) hx hb hown (hts _ cw_836) d_Md_warm_11 ?_
    have hPc := hP.sub (ws' := []) [] rfl
    have hDc := hD.sub (ws' := []) [] (by decide) rfl
    have hKc := hK.sub (tys' := []) [] rfl
    have hFc := va_free (wc := []) hD hS hA [] rfl
    refine vp_callSi (va_Run.run (va_runS (As := [.long p1.toInt64, .long 0, .long 1000000]) (rest := [])  ⟨hx, hb, hml, hown, hts⟩ (c_Md_isIn l D p1.toInt64 0 1000000 s.heap.size ) ⟨callB_of 3 hts cg_Md_isIn rfl rfl rfl (hts _ cw_10) (hts _ cw_837) (by decide +kernel) ⟨Nat.le_of_ble_eq_true rfl, Nat.le_of_ble_eq_true rfl⟩, hts _ cw_838⟩ (cx_preS [.long p1.toInt64, .long 0, .long 1000000] hPc hKc hDc hN hO hS hFc) rfl rfl hl.1 rfl (lv_room (Nat.le_of_ble_eq_true rfl)) d_Md_warm_14 ⟨Nat.le_of_ble_eq_true rfl, Nat.le_of_ble_eq_true rfl⟩)) (fun r z_3 => ?_)
    subst z_3
    refine lv_if_ne (tgt := 22) hx hb d_Md_warm_17 (by decide) (fun c_4 => ?_) (fun c_4 => ?_)
    · refine lv_aload_n hx hb d_Md_warm_22 rfl (lv_at hl 0 rfl) ?_
      refine va_get (D := D) (ci := 6) (v := .ref a1) (C := R_Md) (T := T_Md) (N := 31) hx hb hts in_Md hown hK hP 0 rfl rfl 1 (by decide) (hts _ cw_735) (fun _ h9 => h9) rfl d_Md_warm_23 ?_
      refine lv_iload_n hx hb d_Md_warm_26 rfl (lv_at hl 1 rfl) ?_
      refine lv_iload_n hx hb d_Md_warm_27 rfl (lv_at hl 2 rfl) ?_
      refine va_iast hx hb hK hP hD hS 1 0 rfl rfl (md_ix c_2 hc) d_Md_warm_28 (fun H locs hP hD hS => ?_)
      have hP : va_P D classes ([(h0, .inr (6, [.int u0, .ref a1, .int u2, .int u3, .ref a4, .ref a5, .ref a6, .ref a7, .ref a8, .ref a9, .ref a10, .ref a11, .int u12, .int u13, .ref a14, .ref a15, .ref a16, .int u17, .ref a18, .ref a19, .ref a20, .int u21, .ref a22, .ref a23, .int u24, .ref a25, .ref a26, .int u27, .int u28, .int u29, .int u30])), (a1, .inl (k1, 8, .inl (upd c1 p0.toNatClampNeg p1)))]) H := hP
      have hD : va_D A ([(h0, .inr (6, [.int u0, .ref a1, .int u2, .int u3, .ref a4, .ref a5, .ref a6, .ref a7, .ref a8, .ref a9, .ref a10, .ref a11, .int u12, .int u13, .ref a14, .ref a15, .ref a16, .int u17, .ref a18, .ref a19, .ref a20, .int u21, .ref a22, .ref a23, .int u24, .ref a25, .ref a26, .int u27, .int u28, .int u29, .int u30])), (a1, .inl (k1, 8, .inl (upd c1 p0.toNatClampNeg p1)))]) := hD
      refine lv_aload_n hx hb d_Md_warm_29 rfl (lv_at hl 0 rfl) ?_
      refine lv_iload_n hx hb d_Md_warm_30 rfl (lv_at hl 1 rfl) ?_
      have hPc := hP.sub (ws' := [(h0, .inr (6, [.int u0, .ref a1, .int u2, .int u3, .ref a4, .ref a5, .ref a6, .ref a7, .ref a8, .ref a9, .ref a10, .ref a11, .int u12, .int u13, .ref a14, .ref a15, .ref a16, .int u17, .ref a18, .ref a19, .ref a20, .int u21, .ref a22, .ref a23, .int u24, .ref a25, .ref a26, .int u27, .int u28, .int u29, .int u30])), (a1, .inl (k1, 8, .inl (upd c1 p0.toNatClampNeg p1)))]) [0, 1] rfl
      have hDc := hD.sub (ws' := [(h0, .inr (6, [.int u0, .ref a1, .int u2, .int u3, .ref a4, .ref a5, .ref a6, .ref a7, .ref a8, .ref a9, .ref a10, .ref a11, .int u12, .int u13, .ref a14, .ref a15, .ref a16, .int u17, .ref a18, .ref a19, .ref a20, .int u21, .ref a22, .ref a23, .int u24, .ref a25, .ref a26, .int u27, .int u28, .int u29, .int u30])), (a1, .inl (k1, 8, .inl (upd c1 p0.toNatClampNeg p1)))]) [0, 1] (by decide) rfl
      have hKc := hK.sub (tys' := [(k1, .int)]) [0] rfl
      have hFc := va_free (wc := [(h0, .inr (6, [.int u0, .ref a1, .int u2, .int u3, .ref a4, .ref a5, .ref a6, .ref a7, .ref a8, .ref a9, .ref a10, .ref a11, .int u12, .int u13, .ref a14, .ref a15, .ref a16, .int u17, .ref a18, .ref a19, .ref a20, .int u21, .ref a22, .ref a23, .int u24, .ref a25, .ref a26, .int u27, .int u28, .int u29, .int u30])), (a1, .inl (k1, 8, .inl (upd c1 p0.toNatClampNeg p1)))]) hD hS hA [0, 1] rfl
      refine vp_callSi (va_Run.run (va_runV (As := [.int p0]) (rest := [])  ⟨hx, hb, hml, hown, hts⟩ (c_Md_isInSpan l D h0 u0 a1 u2 u3 a4 a5 a6 a7 a8 a9 a10 a11 u12 u13 a14 a15 a16 u17 a18 a19 a20 u21 a22 a23 u24 a25 a26 u27 u28 u29 u30 k1 (upd c1 p0.toNatClampNeg p1) p0 H.size (md_ix c_2 hc)) ⟨callB_of 1 hts cg_Md_isInSpan rfl rfl rfl (hts _ cw_10) (hts _ cw_848) (by decide +kernel) ⟨Nat.le_of_ble_eq_true rfl, Nat.le_of_ble_eq_true rfl⟩, hts _ cw_850, hts _ cs_17⟩ (cx_preV (C := R_Md) [.int p0] hPc hKc hDc hN hO hS hFc (ci := 6) (q0 := 0) rfl rfl rfl) rfl rfl hl.1 rfl (lv_room (Nat.le_of_ble_eq_true rfl)) d_Md_warm_31 ⟨Nat.le_of_ble_eq_true rfl, Nat.le_of_ble_eq_true rfl⟩)) (fun r z_5 => ?_)
      subst z_5
      have hm : m_mwarm u0 u2 u3 c1 p0 p1 = (m_inSpan u2 u3 (upd c1 p0.toNatClampNeg p1) p0, upd c1 p0.toNatClampNeg p1) := by simp [m_mwarm, eq_false c_2, eq_false c_4]
      rw [hm]
      have hP9 := hP.sub (ws' := [(h0, .inr (6, [.int u0, .ref a1, .int u2, .int u3, .ref a4, .ref a5, .ref a6, .ref a7, .ref a8, .ref a9, .ref a10, .ref a11, .int u12, .int u13, .ref a14, .ref a15, .ref a16, .int u17, .ref a18, .ref a19, .ref a20, .int u21, .ref a22, .ref a23, .int u24, .ref a25, .ref a26, .int u27, .int u28, .int u29, .int u30])), (a1, .inl (k1, 8, .inl (upd c1 p0.toNatClampNeg p1)))]) [0, 1] rfl
      have hD9 := hD.sub (ws' := [(h0, .inr (6, [.int u0, .ref a1, .int u2, .int u3, .ref a4, .ref a5, .ref a6, .ref a7, .ref a8, .ref a9, .ref a10, .ref a11, .int u12, .int u13, .ref a14, .ref a15, .ref a16, .int u17, .ref a18, .ref a19, .ref a20, .int u21, .ref a22, .ref a23, .int u24, .ref a25, .ref a26, .int u27, .int u28, .int u29, .int u30])), (a1, .inl (k1, 8, .inl (upd c1 p0.toNatClampNeg p1)))]) [0, 1] (by decide) rfl
      have hK9 := hK.sub (tys' := [(k1, .int)]) [0] rfl
      exact W.zret (v := m_inSpan u2 u3 (upd c1 p0.toNatClampNeg p1) p0) hx hb hr (cx_z m_inSpan_z) (fun t ht hW => ⟨⟨_, (), rfl, rfl, by rw [ht]; exact hP9, va_K.moved hW.alike hK9, hD9⟩, hS.F ht⟩) hS.2.2 d_Md_warm_34
    · refine lv_iconst (v := 0) hx hb d_Md_warm_20 (by decide) ?_
      have hm : m_mwarm u0 u2 u3 c1 p0 p1 = (0, c1) := by simp [m_mwarm, eq_false c_2, eq_true c_4]
      rw [hm]
      have hP9 := hP.sub (ws' := [(h0, .inr (6, [.int u0, .ref a1, .int u2, .int u3, .ref a4, .ref a5, .ref a6, .ref a7, .ref a8, .ref a9, .ref a10, .ref a11, .int u12, .int u13, .ref a14, .ref a15, .ref a16, .int u17, .ref a18, .ref a19, .ref a20, .int u21, .ref a22, .ref a23, .int u24, .ref a25, .ref a26, .int u27, .int u28, .int u29, .int u30])), (a1, .inl (k1, 8, .inl c1))]) [0, 1] rfl
      have hD9 := hD.sub (ws' := [(h0, .inr (6, [.int u0, .ref a1, .int u2, .int u3, .ref a4, .ref a5, .ref a6, .ref a7, .ref a8, .ref a9, .ref a10, .ref a11, .int u12, .int u13, .ref a14, .ref a15, .ref a16, .int u17, .ref a18, .ref a19, .ref a20, .int u21, .ref a22, .ref a23, .int u24, .ref a25, .ref a26, .int u27, .int u28, .int u29, .int u30])), (a1, .inl (k1, 8, .inl c1))]) [0, 1] (by decide) rfl
      have hK9 := hK.sub (tys' := [(k1, .int)]) [0] rfl
      exact W.zret (v := 0) hx hb hr (rfl) (fun t ht hW => ⟨⟨_, (), rfl, rfl, by rw [ht]; exact hP9, va_K.moved hW.alike hK9, hD9⟩, hS.F ht⟩) hS.2.2 d_Md_warm_21

set_option maxHeartbeats 4000000 in
set_option maxRecDepth 100000 in
theorem c_Md_step (l : Launch) (D : va_G)  (h0 : Nat) (u0 : Int32) (a1 : Nat) (u2 : Int32) (u3 : Int32) (a4 : Nat) (a5 : Nat) (a6 : Nat) (a7 : Nat) (a8 : Nat) (a9 : Nat) (a10 : Nat) (a11 : Nat) (u12 : Int32) (u13 : Int32) (a14 : Nat) (a15 : Nat) (a16 : Nat) (u17 : Int32) (a18 : Nat) (a19 : Nat) (a20 : Nat) (u21 : Int32) (a22 : Nat) (a23 : Nat) (u24 : Int32) (a25 : Nat) (a26 : Nat) (u27 : Int32) (u28 : Int32) (u29 : Int32) (u30 : Int32) (k1 : ClassId) (k4 : ClassId) (k5 : ClassId) (k6 : ClassId) (k7 : ClassId) (c1 : Nat → Int32) (c4 : Nat → Int32) (c5 : Nat → Int32) (c6 : Nat → Int32) (c7 : Nat → Int32) (p0 : Int32) (p1 : Int32) (p2 : Int32) (p3 : Int32) (sz : Nat) (hc : u0 ≤ 8) (hst : ∀ i, i < 8 → ¬ c4 i < 0 ∧ c4 i ≤ 30) : Met l y_Md_step ws_Md_step ({ frames := 1, cells := 0, slots := 0, locals := 25 }) (va_Pc [.ref h0, .int p0, .int p1, .int p2, .int p3] (cx_pre D [(k1, .int), (k4, .int), (k5, .int), (k6, .int), (k7, .int)] ([(h0, .inr (6, [.int u0, .ref a1, .int u2, .int u3, .ref a4, .ref a5, .ref a6, .ref a7, .ref a8, .ref a9, .ref a10, .ref a11, .int u12, .int u13, .ref a14, .ref a15, .ref a16, .int u17, .ref a18, .ref a19, .ref a20, .int u21, .ref a22, .ref a23, .int u24, .ref a25, .ref a26, .int u27, .int u28, .int u29, .int u30])), (a1, .inl (k1, 8, .inl c1)), (a4, .inl (k4, 8, .inl c4)), (a5, .inl (k5, 240, .inl c5)), (a6, .inl (k6, 240, .inl c6)), (a7, .inl (k7, 240, .inl c7))]) sz)) (va_Qi (fun r9 _ => r9 = (m_mstep u0 u2 u3 c1 c4 c5 c6 c7 p0 p1 p2 p3).1) (fun (_ : Unit) t => cx_end D [(k1, .int), (k4, .int), (k5, .int), (k6, .int), (k7, .int)] (va_A ([(h0, .inr (6, [.int u0, .ref a1, .int u2, .int u3, .ref a4, .ref a5, .ref a6, .ref a7, .ref a8, .ref a9, .ref a10, .ref a11, .int u12, .int u13, .ref a14, .ref a15, .ref a16, .int u17, .ref a18, .ref a19, .ref a20, .int u21, .ref a22, .ref a23, .int u24, .ref a25, .ref a26, .int u27, .int u28, .int u29, .int u30])), (a1, .inl (k1, 8, .inl c1)), (a4, .inl (k4, 8, .inl c4)), (a5, .inl (k5, 240, .inl c5)), (a6, .inl (k6, 240, .inl c6)), (a7, .inl (k7, 240, .inl c7))]) sz) ([(h0, .inr (6, [.int u0, .ref a1, .int u2, .int u3, .ref a4, .ref a5, .ref a6, .ref a7, .ref a8, .ref a9, .ref a10, .ref a11, .int u12, .int u13, .ref a14, .ref a15, .ref a16, .int u17, .ref a18, .ref a19, .ref a20, .int u21, .ref a22, .ref a23, .int u24, .ref a25, .ref a26, .int u27, .int u28, .int u29, .int u30])), (a1, .inl (k1, 8, .inl c1)), (a4, .inl (k4, 8, .inl ((m_mstep u0 u2 u3 c1 c4 c5 c6 c7 p0 p1 p2 p3).2.1))), (a5, .inl (k5, 240, .inl ((m_mstep u0 u2 u3 c1 c4 c5 c6 c7 p0 p1 p2 p3).2.2.1))), (a6, .inl (k6, 240, .inl ((m_mstep u0 u2 u3 c1 c4 c5 c6 c7 p0 p1 p2 p3).2.2.2.1))), (a7, .inl (k7, 240, .inl ((m_mstep u0 u2 u3 c1 c4 c5 c6 c7 p0 p1 p2 p3).2.2.2.2)))]) t) (va_A ([(h0, .inr (6, [.int u0, .ref a1, .int u2, .int u3, .ref a4, .ref a5, .ref a6, .ref a7, .ref a8, .ref a9, .ref a10, .ref a11, .int u12, .int u13, .ref a14, .ref a15, .ref a16, .int u17, .ref a18, .ref a19, .ref a20, .int u21, .ref a22, .ref a23, .int u24, .ref a25, .ref a26, .int u27, .int u28, .int u29, .int u30])), (a1, .inl (k1, 8, .inl c1)), (a4, .inl (k4, 8, .inl c4)), (a5, .inl (k5, 240, .inl c5)), (a6, .inl (k6, 240, .inl c6)), (a7, .inl (k7, 240, .inl c7))]) sz)) 0 0 (va_A ([(h0, .inr (6, [.int u0, .ref a1, .int u2, .int u3, .ref a4, .ref a5, .ref a6, .ref a7, .ref a8, .ref a9, .ref a10, .ref a11, .int u12, .int u13, .ref a14, .ref a15, .ref a16, .int u17, .ref a18, .ref a19, .ref a20, .int u21, .ref a22, .ref a23, .int u24, .ref a25, .ref a26, .int u27, .int u28, .int u29, .int u30])), (a1, .inl (k1, 8, .inl c1)), (a4, .inl (k4, 8, .inl c4)), (a5, .inl (k5, 240, .inl c5)), (a6, .inl (k6, 240, .inl c6)), (a7, .inl (k7, 240, .inl c7))]) sz) := by
  refine Met.ofW (cc := b_Md_step) (maxL := 6) (ret := (some .boolean)) (by decide) rfl ?_
  intro p e s m args below meth c s₁ B hml hv
  obtain ⟨rfl, hsz, hP, hK, hD0, hN, hO⟩ := hv
  have hx := B.exec
  have hb := B.bytes
  have hr := B.returns
  have hts := fun (w : Cond) (h : w ∈ cx_tbl) => atoms_spec (ws := ws_Md_step) B.pre w (List.mem_cons_of_mem _ h)
  have hown : s.vm.findClass R_Md = some m.cls := findClass_of_methodNamed B.named
  have hlocks := B.notSynchronized
  subst hsz
  have hD := hD0.self (sz := s.heap.size)
  generalize hAe : va_A ([(h0, .inr (6, [.int u0, .ref a1, .int u2, .int u3, .ref a4, .ref a5, .ref a6, .ref a7, .ref a8, .ref a9, .ref a10, .ref a11, .int u12, .int u13, .ref a14, .ref a15, .ref a16, .int u17, .ref a18, .ref a19, .ref a20, .int u21, .ref a22, .ref a23, .int u24, .ref a25, .ref a26, .int u27, .int u28, .int u29, .int u30])), (a1, .inl (k1, 8, .inl c1)), (a4, .inl (k4, 8, .inl c4)), (a5, .inl (k5, 240, .inl c5)), (a6, .inl (k6, 240, .inl c6)), (a7, .inl (k7, 240, .inl c7))]) s.heap.size = A at hD hO ⊢
  have hA : ∀ q : Nat, s.heap.size ≤ q → A q := fun q h => by rw [← hAe]; exact Or.inr h
  have hS : va_S A s.heap s.heap [] := va_S.rf
  have hl := lv_entry ([.ref h0, .int p0, .int p1, .int p2, .int p3]) (n := 6) (Nat.le_of_ble_eq_true rfl)
  rw [lg_entry_eq]
  generalize (lg_sl ([.ref h0, .int p0, .int p1, .int p2, .int p3]) ++ List.replicate (6 - (lg_sl ([.ref h0, .int p0, .int p1, .int p2, .int p3])).length) Slot.unset).toArray = ls at hl ⊢
  have hl : lv_has ls 6 [(0, .ref h0), (1, .int p0), (2, .int p1), (3, .int p2), (4, .int p3)] := hl
  refine lv_aload_n hx hb d_Md_step_0 rfl (lv_at hl 0 rfl) ?_
  refine lv_iload_n hx hb d_Md_step_1 rfl (lv_at hl 1 rfl) ?_
  have hPc := hP.sub (ws' := [(h0, .inr (6, [.int u0, .ref a1, .int u2, .int u3, .ref a4, .ref a5, .ref a6, .ref a7, .ref a8, .ref a9, .ref a10, .ref a11, .int u12, .int u13, .ref a14, .ref a15, .ref a16, .int u17, .ref a18, .ref a19, .ref a20, .int u21, .ref a22, .ref a23, .int u24, .ref a25, .ref a26, .int u27, .int u28, .int u29, .int u30]))]) [0] rfl
  have hDc := hD.sub (ws' := [(h0, .inr (6, [.int u0, .ref a1, .int u2, .int u3, .ref a4, .ref a5, .ref a6, .ref a7, .ref a8, .ref a9, .ref a10, .ref a11, .int u12, .int u13, .ref a14, .ref a15, .ref a16, .int u17, .ref a18, .ref a19, .ref a20, .int u21, .ref a22, .ref a23, .int u24, .ref a25, .ref a26, .int u27, .int u28, .int u29, .int u30]))]) [0] (by decide) rfl
  have hKc := hK.sub (tys' := []) [] rfl
  have hFc := va_free (wc := [(h0, .inr (6, [.int u0, .ref a1, .int u2, .int u3, .ref a4, .ref a5, .ref a6, .ref a7, .ref a8, .ref a9, .ref a10, .ref a11, .int u12, .int u13, .ref a14, .ref a15, .ref a16, .int u17, .ref a18, .ref a19, .ref a20, .int u21, .ref a22, .ref a23, .int u24, .ref a25, .ref a26, .int u27, .int u28, .int u29, .int u30]))]) hD hS hA [0] rfl
  refine vp_callSi (va_Run.run (va_runV (As := [.int p0]) (rest := [])  ⟨hx, hb, hml, hown, hts⟩ (c_Md_isCell l D h0 u0 a1 u2 u3 a4 a5 a6 a7 a8 a9 a10 a11 u12 u13 a14 a15 a16 u17 a18 a19 a20 u21 a22 a23 u24 a25 a26 u27 u28 u29 u30 p0 s.heap.size ) ⟨callB_of 1 hts cg_Md_isCell rfl rfl rfl (hts _ cw_10) (hts _ cw_844) (by decide +kernel) ⟨Nat.le_of_ble_eq_true rfl, Nat.le_of_ble_eq_true rfl⟩, hts _ cw_846, hts _ cs_16⟩ (cx_preV (C := R_Md) [.int p0] hPc hKc hDc hN hO hS hFc (ci := 6) (q0 := 0) rfl rfl rfl) rfl rfl hl.1 rfl (lv_room (Nat.le_of_ble_eq_true rfl)) d_Md_step_2 ⟨Nat.le_of_ble_eq_true rfl, Nat.le_of_ble_eq_true rfl⟩)) (fun r z_1 => ?_)
  subst z_1
  refine lv_if_eq (tgt := 66) hx hb d_Md_step_5 (by decide) (fun c_2 => ?_) (fun c_2 => ?_)
  · refine lv_iconst (v := 0) hx hb d_Md_step_66 (by decide) ?_
    have hm : m_mstep u0 u2 u3 c1 c4 c5 c6 c7 p0 p1 p2 p3 = (0, c4, c5, c6, c7) := by simp [m_mstep, eq_true c_2]
    rw [hm]
    have hP9 := hP.sub (ws' := [(h0, .inr (6, [.int u0, .ref a1, .int u2, .int u3, .ref a4, .ref a5, .ref a6, .ref a7, .ref a8, .ref a9, .ref a10, .ref a11, .int u12, .int u13, .ref a14, .ref a15, .ref a16, .int u17, .ref a18, .ref a19, .ref a20, .int u21, .ref a22, .ref a23, .int u24, .ref a25, .ref a26, .int u27, .int u28, .int u29, .int u30])), (a1, .inl (k1, 8, .inl c1)), (a4, .inl (k4, 8, .inl c4)), (a5, .inl (k5, 240, .inl c5)), (a6, .inl (k6, 240, .inl c6)), (a7, .inl (k7, 240, .inl c7))]) [0, 1, 2, 3, 4, 5] rfl
    have hD9 := hD.sub (ws' := [(h0, .inr (6, [.int u0, .ref a1, .int u2, .int u3, .ref a4, .ref a5, .ref a6, .ref a7, .ref a8, .ref a9, .ref a10, .ref a11, .int u12, .int u13, .ref a14, .ref a15, .ref a16, .int u17, .ref a18, .ref a19, .ref a20, .int u21, .ref a22, .ref a23, .int u24, .ref a25, .ref a26, .int u27, .int u28, .int u29, .int u30])), (a1, .inl (k1, 8, .inl c1)), (a4, .inl (k4, 8, .inl c4)), (a5, .inl (k5, 240, .inl c5)), (a6, .inl (k6, 240, .inl c6)), (a7, .inl (k7, 240, .inl c7))]) [0, 1, 2, 3, 4, 5] (by decide) rfl
    have hK9 := hK.sub (tys' := [(k1, .int), (k4, .int), (k5, .int), (k6, .int), (k7, .int)]) [0, 1, 2, 3, 4] rfl
    exact W.zret (v := 0) hx hb hr (rfl) (fun t ht hW => ⟨⟨_, (), rfl, rfl, by rw [ht]; exact hP9, va_K.moved hW.alike hK9, hD9⟩, hS.F ht⟩) hS.2.2 d_Md_step_67
  · refine lv_aload_n hx hb d_Md_step_8 rfl (lv_at hl 0 rfl) ?_
    refine va_get (D := D) (ci := 6) (v := .ref a4) (C := R_Md) (T := T_Md) (N := 31) hx hb hts in_Md hown hK hP 0 rfl rfl 4 (by decide) (hts _ cw_738) (fun _ h9 => h9) rfl d_Md_step_9 ?_
    refine lv_iload_n hx hb d_Md_step_12 rfl (lv_at hl 1 rfl) ?_
    refine va_iald hx hb hK hP 2 1 rfl rfl (md_ix c_2 hc) d_Md_step_13 ?_
    refine lv_bipush (v := 30) hx hb d_Md_step_14 (by decide) ?_
    refine lv_icmp_eq (tgt := 66) hx hb d_Md_step_16 (by decide) (fun c_3 => ?_) (fun c_3 => ?_)
    · refine lv_iconst (v := 0) hx hb d_Md_step_66 (by decide) ?_
      have hm : m_mstep u0 u2 u3 c1 c4 c5 c6 c7 p0 p1 p2 p3 = (0, c4, c5, c6, c7) := by simp [m_mstep, eq_false c_2, eq_true c_3]
      rw [hm]
      have hP9 := hP.sub (ws' := [(h0, .inr (6, [.int u0, .ref a1, .int u2, .int u3, .ref a4, .ref a5, .ref a6, .ref a7, .ref a8, .ref a9, .ref a10, .ref a11, .int u12, .int u13, .ref a14, .ref a15, .ref a16, .int u17, .ref a18, .ref a19, .ref a20, .int u21, .ref a22, .ref a23, .int u24, .ref a25, .ref a26, .int u27, .int u28, .int u29, .int u30])), (a1, .inl (k1, 8, .inl c1)), (a4, .inl (k4, 8, .inl c4)), (a5, .inl (k5, 240, .inl c5)), (a6, .inl (k6, 240, .inl c6)), (a7, .inl (k7, 240, .inl c7))]) [0, 1, 2, 3, 4, 5] rfl
      have hD9 := hD.sub (ws' := [(h0, .inr (6, [.int u0, .ref a1, .int u2, .int u3, .ref a4, .ref a5, .ref a6, .ref a7, .ref a8, .ref a9, .ref a10, .ref a11, .int u12, .int u13, .ref a14, .ref a15, .ref a16, .int u17, .ref a18, .ref a19, .ref a20, .int u21, .ref a22, .ref a23, .int u24, .ref a25, .ref a26, .int u27, .int u28, .int u29, .int u30])), (a1, .inl (k1, 8, .inl c1)), (a4, .inl (k4, 8, .inl c4)), (a5, .inl (k5, 240, .inl c5)), (a6, .inl (k6, 240, .inl c6)), (a7, .inl (k7, 240, .inl c7))]) [0, 1, 2, 3, 4, 5] (by decide) rfl
      have hK9 := hK.sub (tys' := [(k1, .int), (k4, .int), (k5, .int), (k6, .int), (k7, .int)]) [0, 1, 2, 3, 4] rfl
      exact W.zret (v := 0) hx hb hr (rfl) (fun t ht hW => ⟨⟨_, (), rfl, rfl, by rw [ht]; exact hP9, va_K.moved hW.alike hK9, hD9⟩, hS.F ht⟩) hS.2.2 d_Md_step_67
    · refine lv_iload_n hx hb d_Md_step_19 rfl (lv_at hl 2 rfl) ?_
      refine lv_i2l hx hb d_Md_step_20 rfl ?_
      refine lv_lconst (v := 1) hx hb d_Md_step_21 (by decide) ?_
      refine lv_ldc2 (v := 100000) hx hb hown (hts _ cw_856) d_Md_step_22 ?_
      have hPc := hP.sub (ws' := []) [] rfl
      have hDc := hD.sub (ws' := []) [] (by decide) rfl
      have hKc := hK.sub (tys' := []) [] rfl
      have hFc := va_free (wc := []) hD hS hA [] rfl
      refine vp_callSi (va_Run.run (va_runS (As := [.long p1.toInt64, .long 1, .long 100000]) (rest := [])  ⟨hx, hb, hml, hown, hts⟩ (c_Md_isIn l D p1.toInt64 1 100000 s.heap.size ) ⟨callB_of 3 hts cg_Md_isIn rfl rfl rfl (hts _ cw_10) (hts _ cw_837) (by decide +kernel) ⟨Nat.le_of_ble_eq_true rfl, Nat.le_of_ble_eq_true rfl⟩, hts _ cw_838⟩ (cx_preS [.long p1.toInt64, .long 1, .long 100000] hPc hKc hDc hN hO hS hFc) rfl rfl hl.1 rfl (lv_room (Nat.le_of_ble_eq_true rfl)) d_Md_step_25 ⟨Nat.le_of_ble_eq_true rfl, Nat.le_of_ble_eq_true rfl⟩)) (fun r z_4 => ?_)
      subst z_4
      refine lv_if_eq (tgt := 66) hx hb d_Md_step_28 (by decide) (fun c_5 => ?_) (fun c_5 => ?_)
      · refine lv_iconst (v := 0) hx hb d_Md_step_66 (by decide) ?_
        have hm : m_mstep u0 u2 u3 c1 c4 c5 c6 c7 p0 p1 p2 p3 = (0, c4, c5, c6, c7) := by simp [m_mstep, eq_false c_2, eq_false c_3, eq_true c_5]
        rw [hm]
        have hP9 := hP.sub (ws' := [(h0, .inr (6, [.int u0, .ref a1, .int u2, .int u3, .ref a4, .ref a5, .ref a6, .ref a7, .ref a8, .ref a9, .ref a10, .ref a11, .int u12, .int u13, .ref a14, .ref a15, .ref a16, .int u17, .ref a18, .ref a19, .ref a20, .int u21, .ref a22, .ref a23, .int u24, .ref a25, .ref a26, .int u27, .int u28, .int u29, .int u30])), (a1, .inl (k1, 8, .inl c1)), (a4, .inl (k4, 8, .inl c4)), (a5, .inl (k5, 240, .inl c5)), (a6, .inl (k6, 240, .inl c6)), (a7, .inl (k7, 240, .inl c7))]) [0, 1, 2, 3, 4, 5] rfl
        have hD9 := hD.sub (ws' := [(h0, .inr (6, [.int u0, .ref a1, .int u2, .int u3, .ref a4, .ref a5, .ref a6, .ref a7, .ref a8, .ref a9, .ref a10, .ref a11, .int u12, .int u13, .ref a14, .ref a15, .ref a16, .int u17, .ref a18, .ref a19, .ref a20, .int u21, .ref a22, .ref a23, .int u24, .ref a25, .ref a26, .int u27, .int u28, .int u29, .int u30])), (a1, .inl (k1, 8, .inl c1)), (a4, .inl (k4, 8, .inl c4)), (a5, .inl (k5, 240, .inl c5)), (a6, .inl (k6, 240, .inl c6)), (a7, .inl (k7, 240, .inl c7))]) [0, 1, 2, 3, 4, 5] (by decide) rfl
        have hK9 := hK.sub (tys' := [(k1, .int), (k4, .int), (k5, .int), (k6, .int), (k7, .int)]) [0, 1, 2, 3, 4] rfl
        exact W.zret (v := 0) hx hb hr (rfl) (fun t ht hW => ⟨⟨_, (), rfl, rfl, by rw [ht]; exact hP9, va_K.moved hW.alike hK9, hD9⟩, hS.F ht⟩) hS.2.2 d_Md_step_67
      · refine lv_iload_n hx hb d_Md_step_31 rfl (lv_at hl 3 rfl) ?_
        refine lv_i2l hx hb d_Md_step_32 rfl ?_
        refine lv_ldc2 (v := (-100000)) hx hb hown (hts _ cw_857) d_Md_step_33 ?_
        refine lv_ldc2 (v := 100000) hx hb hown (hts _ cw_856) d_Md_step_36 ?_
        have hPc := hP.sub (ws' := []) [] rfl
        have hDc := hD.sub (ws' := []) [] (by decide) rfl
        have hKc := hK.sub (tys' := []) [] rfl
        have hFc := va_free (wc := []) hD hS hA [] rfl
        refine vp_callSi (va_Run.run (va_runS (As := [.long p2.toInt64, .long (-100000), .long 100000]) (rest := [])  ⟨hx, hb, hml, hown, hts⟩ (c_Md_isIn l D p2.toInt64 (-100000) 100000 s.heap.size ) ⟨callB_of 3 hts cg_Md_isIn rfl rfl rfl (hts _ cw_10) (hts _ cw_837) (by decide +kernel) ⟨Nat.le_of_ble_eq_true rfl, Nat.le_of_ble_eq_true rfl⟩, hts _ cw_838⟩ (cx_preS [.long p2.toInt64, .long (-100000), .long 100000] hPc hKc hDc hN hO hS hFc) rfl rfl hl.1 rfl (lv_room (Nat.le_of_ble_eq_true rfl)) d_Md_step_39 ⟨Nat.le_of_ble_eq_true rfl, Nat.le_of_ble_eq_true rfl⟩)) (fun r z_6 => ?_)
        subst z_6
        refine lv_if_eq (tgt := 66) hx hb d_Md_step_42 (by decide) (fun c_7 => ?_) (fun c_7 => ?_)
        · refine lv_iconst (v := 0) hx hb d_Md_step_66 (by decide) ?_
          have hm : m_mstep u0 u2 u3 c1 c4 c5 c6 c7 p0 p1 p2 p3 = (0, c4, c5, c6, c7) := by simp [m_mstep, eq_false c_2, eq_false c_3, eq_false c_5, eq_true c_7]
          rw [hm]
          have hP9 := hP.sub (ws' := [(h0, .inr (6, [.int u0, .ref a1, .int u2, .int u3, .ref a4, .ref a5, .ref a6, .ref a7, .ref a8, .ref a9, .ref a10, .ref a11, .int u12, .int u13, .ref a14, .ref a15, .ref a16, .int u17, .ref a18, .ref a19, .ref a20, .int u21, .ref a22, .ref a23, .int u24, .ref a25, .ref a26, .int u27, .int u28, .int u29, .int u30])), (a1, .inl (k1, 8, .inl c1)), (a4, .inl (k4, 8, .inl c4)), (a5, .inl (k5, 240, .inl c5)), (a6, .inl (k6, 240, .inl c6)), (a7, .inl (k7, 240, .inl c7))]) [0, 1, 2, 3, 4, 5] rfl
          have hD9 := hD.sub (ws' := [(h0, .inr (6, [.int u0, .ref a1, .int u2, .int u3, .ref a4, .ref a5, .ref a6, .ref a7, .ref a8, .ref a9, .ref a10, .ref a11, .int u12, .int u13, .ref a14, .ref a15, .ref a16, .int u17, .ref a18, .ref a19, .ref a20, .int u21, .ref a22, .ref a23, .int u24, .ref a25, .ref a26, .int u27, .int u28, .int u29, .int u30])), (a1, .inl (k1, 8, .inl c1)), (a4, .inl (k4, 8, .inl c4)), (a5, .inl (k5, 240, .inl c5)), (a6, .inl (k6, 240, .inl c6)), (a7, .inl (k7, 240, .inl c7))]) [0, 1, 2, 3, 4, 5] (by decide) rfl
          have hK9 := hK.sub (tys' := [(k1, .int), (k4, .int), (k5, .int), (k6, .int), (k7, .int)]) [0, 1, 2, 3, 4] rfl
          exact W.zret (v := 0) hx hb hr (rfl) (fun t ht hW => ⟨⟨_, (), rfl, rfl, by rw [ht]; exact hP9, va_K.moved hW.alike hK9, hD9⟩, hS.F ht⟩) hS.2.2 d_Md_step_67
        · refine lv_iload hx hb d_Md_step_45 (lv_at hl 4 rfl) ?_
          refine lv_i2l hx hb d_Md_step_47 rfl ?_
          refine lv_lconst (v := 0) hx hb d_Md_step_48 (by decide) ?_
          refine lv_ldc2 (v := 10000) hx hb hown (hts _ cw_858) d_Md_step_49 ?_
          have hPc := hP.sub (ws' := []) [] rfl
          have hDc := hD.sub (ws' := []) [] (by decide) rfl
          have hKc := hK.sub (tys' := []) [] rfl
          have hFc := va_free (wc := []) hD hS hA [] rfl
          refine vp_callSi (va_Run.run (va_runS (As := [.long p3.toInt64, .long 0, .long 10000]) (rest := [])  ⟨hx, hb, hml, hown, hts⟩ (c_Md_isIn l D p3.toInt64 0 10000 s.heap.size ) ⟨callB_of 3 hts cg_Md_isIn rfl rfl rfl (hts _ cw_10) (hts _ cw_837) (by decide +kernel) ⟨Nat.le_of_ble_eq_true rfl, Nat.le_of_ble_eq_true rfl⟩, hts _ cw_838⟩ (cx_preS [.long p3.toInt64, .long 0, .long 10000] hPc hKc hDc hN hO hS hFc) rfl rfl hl.1 rfl (lv_room (Nat.le_of_ble_eq_true rfl)) d_Md_step_52 ⟨Nat.le_of_ble_eq_true rfl, Nat.le_of_ble_eq_true rfl⟩)) (fun r z_8 => ?_)
          subst z_8
          refine lv_if_eq (tgt := 66) hx hb d_Md_step_55 (by decide) (fun c_9 => ?_) (fun c_9 => ?_)
          · refine lv_iconst (v := 0) hx hb d_Md_step_66 (by decide) ?_
            have hm : m_mstep u0 u2 u3 c1 c4 c5 c6 c7 p0 p1 p2 p3 = (0, c4, c5, c6, c7) := by simp [m_mstep, eq_false c_2, eq_false c_3, eq_false c_5, eq_false c_7, eq_true c_9]
            rw [hm]
            have hP9 := hP.sub (ws' := [(h0, .inr (6, [.int u0, .ref a1, .int u2, .int u3, .ref a4, .ref a5, .ref a6, .ref a7, .ref a8, .ref a9, .ref a10, .ref a11, .int u12, .int u13, .ref a14, .ref a15, .ref a16, .int u17, .ref a18, .ref a19, .ref a20, .int u21, .ref a22, .ref a23, .int u24, .ref a25, .ref a26, .int u27, .int u28, .int u29, .int u30])), (a1, .inl (k1, 8, .inl c1)), (a4, .inl (k4, 8, .inl c4)), (a5, .inl (k5, 240, .inl c5)), (a6, .inl (k6, 240, .inl c6)), (a7, .inl (k7, 240, .inl c7))]) [0, 1, 2, 3, 4, 5] rfl
            have hD9 := hD.sub (ws' := [(h0, .inr (6, [.int u0, .ref a1, .int u2, .int u3, .ref a4, .ref a5, .ref a6, .ref a7, .ref a8, .ref a9, .ref a10, .ref a11, .int u12, .int u13, .ref a14, .ref a15, .ref a16, .int u17, .ref a18, .ref a19, .ref a20, .int u21, .ref a22, .ref a23, .int u24, .ref a25, .ref a26, .int u27, .int u28, .int u29, .int u30])), (a1, .inl (k1, 8, .inl c1)), (a4, .inl (k4, 8, .inl c4)), (a5, .inl (k5, 240, .inl c5)), (a6, .inl (k6, 240, .inl c6)), (a7, .inl (k7, 240, .inl c7))]) [0, 1, 2, 3, 4, 5] (by decide) rfl
            have hK9 := hK.sub (tys' := [(k1, .int), (k4, .int), (k5, .int), (k6, .int), (k7, .int)]) [0, 1, 2, 3, 4] rfl
            exact W.zret (v := 0) hx hb hr (rfl) (fun t ht hW => ⟨⟨_, (), rfl, rfl, by rw [ht]; exact hP9, va_K.moved hW.alike hK9, hD9⟩, hS.F ht⟩) hS.2.2 d_Md_step_67
          · refine lv_aload_n hx hb d_Md_step_58 rfl (lv_at hl 0 rfl) ?_
            refine lv_iload_n hx hb d_Md_step_59 rfl (lv_at hl 1 rfl) ?_
            have hPc := hP.sub (ws' := [(h0, .inr (6, [.int u0, .ref a1, .int u2, .int u3, .ref a4, .ref a5, .ref a6, .ref a7, .ref a8, .ref a9, .ref a10, .ref a11, .int u12, .int u13, .ref a14, .ref a15, .ref a16, .int u17, .ref a18, .ref a19, .ref a20, .int u21, .ref a22, .ref a23, .int u24, .ref a25, .ref a26, .int u27, .int u28, .int u29, .int u30])), (a1, .inl (k1, 8, .inl c1))]) [0, 1] rfl
            have hDc := hD.sub (ws' := [(h0, .inr (6, [.int u0, .ref a1, .int u2, .int u3, .ref a4, .ref a5, .ref a6, .ref a7, .ref a8, .ref a9, .ref a10, .ref a11, .int u12, .int u13, .ref a14, .ref a15, .ref a16, .int u17, .ref a18, .ref a19, .ref a20, .int u21, .ref a22, .ref a23, .int u24, .ref a25, .ref a26, .int u27, .int u28, .int u29, .int u30])), (a1, .inl (k1, 8, .inl c1))]) [0, 1] (by decide) rfl
            have hKc := hK.sub (tys' := [(k1, .int)]) [0] rfl
            have hFc := va_free (wc := [(h0, .inr (6, [.int u0, .ref a1, .int u2, .int u3, .ref a4, .ref a5, .ref a6, .ref a7, .ref a8, .ref a9, .ref a10, .ref a11, .int u12, .int u13, .ref a14, .ref a15, .ref a16, .int u17, .ref a18, .ref a19, .ref a20, .int u21, .ref a22, .ref a23, .int u24, .ref a25, .ref a26, .int u27, .int u28, .int u29, .int u30])), (a1, .inl (k1, 8, .inl c1))]) hD hS hA [0, 1] rfl
            refine vp_callSi (va_Run.run (va_runV (As := [.int p0]) (rest := [])  ⟨hx, hb, hml, hown, hts⟩ (c_Md_isInSpan l D h0 u0 a1 u2 u3 a4 a5 a6 a7 a8 a9 a10 a11 u12 u13 a14 a15 a16 u17 a18 a19 a20 u21 a22 a23 u24 a25 a26 u27 u28 u29 u30 k1 c1 p0 s.heap.size (md_ix c_2 hc)) ⟨callB_of 1 hts cg_Md_isInSpan rfl rfl rfl (hts _ cw_10) (hts _ cw_848) (by decide +kernel) ⟨Nat.le_of_ble_eq_true rfl, Nat.le_of_ble_eq_true rfl⟩, hts _ cw_850, hts _ cs_17⟩ (cx_preV (C := R_Md) [.int p0] hPc hKc hDc hN hO hS hFc (ci := 6) (q0 := 0) rfl rfl rfl) rfl rfl hl.1 rfl (lv_room (Nat.le_of_ble_eq_true rfl)) d_Md_step_60 ⟨Nat.le_of_ble_eq_true rfl, Nat.le_of_ble_eq_true rfl⟩)) (fun r z_10 => ?_)
            subst z_10
            refine lv_if_ne (tgt := 68) hx hb d_Md_step_63 (by decide) (fun c_11 => ?_) (fun c_11 => ?_)
            · refine lv_bipush (v := 30) hx hb d_Md_step_68 (by decide) ?_
              refine lv_iload_n hx hb d_Md_step_70 rfl (lv_at hl 1 rfl) ?_
              refine lv_imul hx hb d_Md_step_71 ?_
              refine lv_aload_n hx hb d_Md_step_72 rfl (lv_at hl 0 rfl) ?_
              refine va_get (D := D) (ci := 6) (v := .ref a4) (C := R_Md) (T := T_Md) (N := 31) hx hb hts in_Md hown hK hP 0 rfl rfl 4 (by decide) (hts _ cw_738) (fun _ h9 => h9) rfl d_Md_step_73 ?_
              refine lv_iload_n hx hb d_Md_step_76 rfl (lv_at hl 1 rfl) ?_
              refine va_iald hx hb hK hP 2 1 rfl rfl (md_ix c_2 hc) d_Md_step_77 ?_
              refine lv_iadd hx hb d_Md_step_78 ?_
              refine lv_istore (lv' := [(5, .int ((30 * p0) + (c4 p0.toNatClampNeg))), (0, .ref h0), (1, .int p0), (2, .int p1), (3, .int p2), (4, .int p3)]) hx hb d_Md_step_79 hl (by decide) rfl (fun ls hl => ?_)
              refine lv_aload_n hx hb d_Md_step_81 rfl (lv_at hl 1 rfl) ?_
              refine va_get (D := D) (ci := 6) (v := .ref a5) (C := R_Md) (T := T_Md) (N := 31) hx hb hts in_Md hown hK hP 0 rfl rfl 5 (by decide) (hts _ cw_739) (fun _ h9 => h9) rfl d_Md_step_82 ?_
              refine lv_iload hx hb d_Md_step_85 (lv_at hl 0 rfl) ?_
              refine lv_iload_n hx hb d_Md_step_87 rfl (lv_at hl 3 rfl) ?_
              refine va_iast hx hb hK hP hD hS 3 2 rfl rfl (md_ix30 c_2 hc hst c_3) d_Md_step_88 (fun H locs hP hD hS => ?_)
              have hP : va_P D classes ([(h0, .inr (6, [.int u0, .ref a1, .int u2, .int u3, .ref a4, .ref a5, .ref a6, .ref a7, .ref a8, .ref a9, .ref a10, .ref a11, .int u12, .int u13, .ref a14, .ref a15, .ref a16, .int u17, .ref a18, .ref a19, .ref a20, .int u21, .ref a22, .ref a23, .int u24, .ref a25, .ref a26, .int u27, .int u28, .int u29, .int u30])), (a1, .inl (k1, 8, .inl c1)), (a4, .inl (k4, 8, .inl c4)), (a5, .inl (k5, 240, .inl (upd c5 (((30 * p0) + (c4 p0.toNatClampNeg)).toNatClampNeg) p1))), (a6, .inl (k6, 240, .inl c6)), (a7, .inl (k7, 240, .inl c7))]) H := hP
              have hD : va_D A ([(h0, .inr (6, [.int u0, .ref a1, .int u2, .int u3, .ref a4, .ref a5, .ref a6, .ref a7, .ref a8, .ref a9, .ref a10, .ref a11, .int u12, .int u13, .ref a14, .ref a15, .ref a16, .int u17, .ref a18, .ref a19, .ref a20, .int u21, .ref a22, .ref a23, .int u24, .ref a25, .ref a26, .int u27, .int u28, .int u29, .int u30])), (a1, .inl (k1, 8, .inl c1)), (a4, .inl (k4, 8, .inl c4)), (a5, .inl (k5, 240, .inl (upd c5 (((30 * p0) + (c4 p0.toNatClampNeg)).toNatClampNeg) p1))), (a6, .inl (k6, 240, .inl c6)), (a7, .inl (k7, 240, .inl c7))]) := hD
              refine lv_aload_n hx hb d_Md_step_89 rfl (lv_at hl 1 rfl) ?_
              refine va_get (D := D) (ci := 6) (v := .ref a6) (C := R_Md) (T := T_Md) (N := 31) hx hb hts in_Md hown hK hP 0 rfl rfl 6 (by decide) (hts _ cw_740) (fun _ h9 => h9) rfl d_Md_step_90 ?_
              refine lv_iload hx hb d_Md_step_93 (lv_at hl 0 rfl) ?_
              refine lv_iload_n hx hb d_Md_step_95 rfl (lv_at hl 4 rfl) ?_
              refine va_iast hx hb hK hP hD hS 4 3 rfl rfl (md_ix30 c_2 hc hst c_3) d_Md_step_96 (fun H locs hP hD hS => ?_)
              have hP : va_P D classes ([(h0, .inr (6, [.int u0, .ref a1, .int u2, .int u3, .ref a4, .ref a5, .ref a6, .ref a7, .ref a8, .ref a9, .ref a10, .ref a11, .int u12, .int u13, .ref a14, .ref a15, .ref a16, .int u17, .ref a18, .ref a19, .ref a20, .int u21, .ref a22, .ref a23, .int u24, .ref a25, .ref a26, .int u27, .int u28, .int u29, .int u30])), (a1, .inl (k1, 8, .inl c1)), (a4, .inl (k4, 8, .inl c4)), (a5, .inl (k5, 240, .inl (upd c5 (((30 * p0) + (c4 p0.toNatClampNeg)).toNatClampNeg) p1))), (a6, .inl (k6, 240, .inl (upd c6 (((30 * p0) + (c4 p0.toNatClampNeg)).toNatClampNeg) p2))), (a7, .inl (k7, 240, .inl c7))]) H := hP
              have hD : va_D A ([(h0, .inr (6, [.int u0, .ref a1, .int u2, .int u3, .ref a4, .ref a5, .ref a6, .ref a7, .ref a8, .ref a9, .ref a10, .ref a11, .int u12, .int u13, .ref a14, .ref a15, .ref a16, .int u17, .ref a18, .ref a19, .ref a20, .int u21, .ref a22, .ref a23, .int u24, .ref a25, .ref a26, .int u27, .int u28, .int u29, .int u30])), (a1, .inl (k1, 8, .inl c1)), (a4, .inl (k4, 8, .inl c4)), (a5, .inl (k5, 240, .inl (upd c5 (((30 * p0) + (c4 p0.toNatClampNeg)).toNatClampNeg) p1))), (a6, .inl (k6, 240, .inl (upd c6 (((30 * p0) + (c4 p0.toNatClampNeg)).toNatClampNeg) p2))), (a7, .inl (k7, 240, .inl c7))]) := hD
              refine lv_aload_n hx hb d_Md_step_97 rfl (lv_at hl 1 rfl) ?_
              refine va_get (D := D) (ci := 6) (v := .ref a7) (C := R_Md) (T := T_Md) (N := 31) hx hb hts in_Md hown hK hP 0 rfl rfl 7 (by decide) (hts _ cw_741) (fun _ h9 => h9) rfl d_Md_step_98 ?_
              refine lv_iload hx hb d_Md_step_101 (lv_at hl 0 rfl) ?_
              refine lv_iload hx hb d_Md_step_103 (lv_at hl 5 rfl) ?_
              refine va_iast hx hb hK hP hD hS 5 4 rfl rfl (md_ix30 c_2 hc hst c_3) d_Md_step_105 (fun H locs hP hD hS => ?_)
              have hP : va_P D classes ([(h0, .inr (6, [.int u0, .ref a1, .int u2, .int u3, .ref a4, .ref a5, .ref a6, .ref a7, .ref a8, .ref a9, .ref a10, .ref a11, .int u12, .int u13, .ref a14, .ref a15, .ref a16, .int u17, .ref a18, .ref a19, .ref a20, .int u21, .ref a22, .ref a23, .int u24, .ref a25, .ref a26, .int u27, .int u28, .int u29, .int u30])), (a1, .inl (k1, 8, .inl c1)), (a4, .inl (k4, 8, .inl c4)), (a5, .inl (k5, 240, .inl (upd c5 (((30 * p0) + (c4 p0.toNatClampNeg)).toNatClampNeg) p1))), (a6, .inl (k6, 240, .inl (upd c6 (((30 * p0) + (c4 p0.toNatClampNeg)).toNatClampNeg) p2))), (a7, .inl (k7, 240, .inl (upd c7 (((30 * p0) + (c4 p0.toNatClampNeg)).toNatClampNeg) p3)))]) H := hP
              have hD : va_D A ([(h0, .inr (6, [.int u0, .ref a1, .int u2, .int u3, .ref a4, .ref a5, .ref a6, .ref a7, .ref a8, .ref a9, .ref a10, .ref a11, .int u12, .int u13, .ref a14, .ref a15, .ref a16, .int u17, .ref a18, .ref a19, .ref a20, .int u21, .ref a22, .ref a23, .int u24, .ref a25, .ref a26, .int u27, .int u28, .int u29, .int u30])), (a1, .inl (k1, 8, .inl c1)), (a4, .inl (k4, 8, .inl c4)), (a5, .inl (k5, 240, .inl (upd c5 (((30 * p0) + (c4 p0.toNatClampNeg)).toNatClampNeg) p1))), (a6, .inl (k6, 240, .inl (upd c6 (((30 * p0) + (c4 p0.toNatClampNeg)).toNatClampNeg) p2))), (a7, .inl (k7, 240, .inl (upd c7 (((30 * p0) + (c4 p0.toNatClampNeg)).toNatClampNeg) p3)))]) := hD
              refine lv_aload_n hx hb d_Md_step_106 rfl (lv_at hl 1 rfl) ?_
              refine va_get (D := D) (ci := 6) (v := .ref a4) (C := R_Md) (T := T_Md) (N := 31) hx hb hts in_Md hown hK hP 0 rfl rfl 4 (by decide) (hts _ cw_738) (fun _ h9 => h9) rfl d_Md_step_107 ?_
              refine lv_iload_n hx hb d_Md_step_110 rfl (lv_at hl 2 rfl) ?_
              refine lv_dup2_11 hx hb d_Md_step_111 rfl rfl ?_
              refine va_iald hx hb hK hP 2 1 rfl rfl (md_ix c_2 hc) d_Md_step_112 ?_
              refine lv_iconst (v := 1) hx hb d_Md_step_113 (by decide) ?_
              refine lv_iadd hx hb d_Md_step_114 ?_
              refine va_iast hx hb hK hP hD hS 2 1 rfl rfl (md_ix c_2 hc) d_Md_step_115 (fun H locs hP hD hS => ?_)
              have hP : va_P D classes ([(h0, .inr (6, [.int u0, .ref a1, .int u2, .int u3, .ref a4, .ref a5, .ref a6, .ref a7, .ref a8, .ref a9, .ref a10, .ref a11, .int u12, .int u13, .ref a14, .ref a15, .ref a16, .int u17, .ref a18, .ref a19, .ref a20, .int u21, .ref a22, .ref a23, .int u24, .ref a25, .ref a26, .int u27, .int u28, .int u29, .int u30])), (a1, .inl (k1, 8, .inl c1)), (a4, .inl (k4, 8, .inl (upd c4 p0.toNatClampNeg ((c4 p0.toNatClampNeg) + 1)))), (a5, .inl (k5, 240, .inl (upd c5 (((30 * p0) + (c4 p0.toNatClampNeg)).toNatClampNeg) p1))), (a6, .inl (k6, 240, .inl (upd c6 (((30 * p0) + (c4 p0.toNatClampNeg)).toNatClampNeg) p2))), (a7, .inl (k7, 240, .inl (upd c7 (((30 * p0) + (c4 p0.toNatClampNeg)).toNatClampNeg) p3)))]) H := hP
              have hD : va_D A ([(h0, .inr (6, [.int u0, .ref a1, .int u2, .int u3, .ref a4, .ref a5, .ref a6, .ref a7, .ref a8, .ref a9, .ref a10, .ref a11, .int u12, .int u13, .ref a14, .ref a15, .ref a16, .int u17, .ref a18, .ref a19, .ref a20, .int u21, .ref a22, .ref a23, .int u24, .ref a25, .ref a26, .int u27, .int u28, .int u29, .int u30])), (a1, .inl (k1, 8, .inl c1)), (a4, .inl (k4, 8, .inl (upd c4 p0.toNatClampNeg ((c4 p0.toNatClampNeg) + 1)))), (a5, .inl (k5, 240, .inl (upd c5 (((30 * p0) + (c4 p0.toNatClampNeg)).toNatClampNeg) p1))), (a6, .inl (k6, 240, .inl (upd c6 (((30 * p0) + (c4 p0.toNatClampNeg)).toNatClampNeg) p2))), (a7, .inl (k7, 240, .inl (upd c7 (((30 * p0) + (c4 p0.toNatClampNeg)).toNatClampNeg) p3)))]) := hD
              refine lv_iconst (v := 1) hx hb d_Md_step_116 (by decide) ?_
              have hm : m_mstep u0 u2 u3 c1 c4 c5 c6 c7 p0 p1 p2 p3 = (1, upd c4 p0.toNatClampNeg ((c4 p0.toNatClampNeg) + 1), upd c5 (((30 * p0) + (c4 p0.toNatClampNeg)).toNatClampNeg) p1, upd c6 (((30 * p0) + (c4 p0.toNatClampNeg)).toNatClampNeg) p2, upd c7 (((30 * p0) + (c4 p0.toNatClampNeg)).toNatClampNeg) p3) := by simp [m_mstep, eq_false c_2, eq_false c_3, eq_false c_5, eq_false c_7, eq_false c_9, eq_false c_11]
              rw [hm]
              have hP9 := hP.sub (ws' := [(h0, .inr (6, [.int u0, .ref a1, .int u2, .int u3, .ref a4, .ref a5, .ref a6, .ref a7, .ref a8, .ref a9, .ref a10, .ref a11, .int u12, .int u13, .ref a14, .ref a15, .ref a16, .int u17, .ref a18, .ref a19, .ref a20, .int u21, .ref a22, .ref a23, .int u24, .ref a25, .ref a26, .int u27, .int u28, .int u29, .int u30])), (a1, .inl (k1, 8, .inl c1)), (a4, .inl (k4, 8, .inl (upd c4 p0.toNatClampNeg ((c4 p0.toNatClampNeg) + 1)))), (a5, .inl (k5, 240, .inl (upd c5 (((30 * p0) + (c4 p0.toNatClampNeg)).toNatClampNeg) p1))), (a6, .inl (k6, 240, .inl (upd c6 (((30 * p0) + (c4 p0.toNatClampNeg)).toNatClampNeg) p2))), (a7, .inl (k7, 240, .inl (upd c7 (((30 * p0) + (c4 p0.toNatClampNeg)).toNatClampNeg) p3)))]) [0, 1, 2, 3, 4, 5] rfl
              have hD9 := hD.sub (ws' := [(h0, .inr (6, [.int u0, .ref a1, .int u2, .int u3, .ref a4, .ref a5, .ref a6, .ref a7, .ref a8, .ref a9, .ref a10, .ref a11, .int u12, .int u13, .ref a14, .ref a15, .ref a16, .int u17, .ref a18, .ref a19, .ref a20, .int u21, .ref a22, .ref a23, .int u24, .ref a25, .ref a26, .int u27, .int u28, .int u29, .int u30])), (a1, .inl (k1, 8, .inl c1)), (a4, .inl (k4, 8, .inl (upd c4 p0.toNatClampNeg ((c4 p0.toNatClampNeg) + 1)))), (a5, .inl (k5, 240, .inl (upd c5 (((30 * p0) + (c4 p0.toNatClampNeg)).toNatClampNeg) p1))), (a6, .inl (k6, 240, .inl (upd c6 (((30 * p0) + (c4 p0.toNatClampNeg)).toNatClampNeg) p2))), (a7, .inl (k7, 240, .inl (upd c7 (((30 * p0) + (c4 p0.toNatClampNeg)).toNatClampNeg) p3)))]) [0, 1, 2, 3, 4, 5] (by decide) rfl
              have hK9 := hK.sub (tys' := [(k1, .int), (k4, .int), (k5, .int), (k6, .int), (k7, .int)]) [0, 1, 2, 3, 4] rfl
              exact W.zret (v := 1) hx hb hr (rfl) (fun t ht hW => ⟨⟨_, (), rfl, rfl, by rw [ht]; exact hP9, va_K.moved hW.alike hK9, hD9⟩, hS.F ht⟩) hS.2.2 d_Md_step_117
            · refine lv_iconst (v := 0) hx hb d_Md_step_66 (by decide) ?_
              have hm : m_mstep u0 u2 u3 c1 c4 c5 c6 c7 p0 p1 p2 p3 = (0, c4, c5, c6, c7) := by simp [m_mstep, eq_false c_2, eq_false c_3, eq_false c_5, eq_false c_7, eq_false c_9, eq_true c_11]
              rw [hm]
              have hP9 := hP.sub (ws' := [(h0, .inr (6, [.int u0, .ref a1, .int u2, .int u3, .ref a4, .ref a5, .ref a6, .ref a7, .ref a8, .ref a9, .ref a10, .ref a11, .int u12, .int u13, .ref a14, .ref a15, .ref a16, .int u17, .ref a18, .ref a19, .ref a20, .int u21, .ref a22, .ref a23, .int u24, .ref a25, .ref a26, .int u27, .int u28, .int u29, .int u30])), (a1, .inl (k1, 8, .inl c1)), (a4, .inl (k4, 8, .inl c4)), (a5, .inl (k5, 240, .inl c5)), (a6, .inl (k6, 240, .inl c6)), (a7, .inl (k7, 240, .inl c7))]) [0, 1, 2, 3, 4, 5] rfl
              have hD9 := hD.sub (ws' := [(h0, .inr (6, [.int u0, .ref a1, .int u2, .int u3, .ref a4, .ref a5, .ref a6, .ref a7, .ref a8, .ref a9, .ref a10, .ref a11, .int u12, .int u13, .ref a14, .ref a15, .ref a16, .int u17, .ref a18, .ref a19, .ref a20, .int u21, .ref a22, .ref a23, .int u24, .ref a25, .ref a26, .int u27, .int u28, .int u29, .int u30])), (a1, .inl (k1, 8, .inl c1)), (a4, .inl (k4, 8, .inl c4)), (a5, .inl (k5, 240, .inl c5)), (a6, .inl (k6, 240, .inl c6)), (a7, .inl (k7, 240, .inl c7))]) [0, 1, 2, 3, 4, 5] (by decide) rfl
              have hK9 := hK.sub (tys' := [(k1, .int), (k4, .int), (k5, .int), (k6, .int), (k7, .int)]) [0, 1, 2, 3, 4] rfl
              exact W.zret (v := 0) hx hb hr (rfl) (fun t ht hW => ⟨⟨_, (), rfl, rfl, by rw [ht]; exact hP9, va_K.moved hW.alike hK9, hD9⟩, hS.F ht⟩) hS.2.2 d_Md_step_67

set_option maxHeartbeats 4000000 in
set_option maxRecDepth 100000 in
theorem c_Md_rest (l : Launch) (D : va_G)  (h0 : Nat) (u0 : Int32) (a1 : Nat) (u2 : Int32) (u3 : Int32) (a4 : Nat) (a5 : Nat) (a6 : Nat) (a7 : Nat) (a8 : Nat) (a9 : Nat) (a10 : Nat) (a11 : Nat) (u12 : Int32) (u13 : Int32) (a14 : Nat) (a15 : Nat) (a16 : Nat) (u17 : Int32) (a18 : Nat) (a19 : Nat) (a20 : Nat) (u21 : Int32) (a22 : Nat) (a23 : Nat) (u24 : Int32) (a25 : Nat) (a26 : Nat) (u27 : Int32) (u28 : Int32) (u29 : Int32) (u30 : Int32) (k8 : ClassId) (k9 : ClassId) (k10 : ClassId) (c8 : Nat → Int32) (c9 : Nat → Int32) (c10 : Nat → Int32) (p0 : Int32) (p1 : Int32) (p2 : Int32) (sz : Nat) (hc : u0 ≤ 8) (hrc : ∀ i, i < 8 → ¬ c8 i < 0 ∧ c8 i ≤ 10) : Met l y_Md_rest ws_Md_rest ({ frames := 1, cells := 0, slots := 0, locals := 25 }) (va_Pc [.ref h0, .int p0, .int p1, .int p2] (cx_pre D [(k8, .int), (k9, .int), (k10, .int)] ([(h0, .inr (6, [.int u0, .ref a1, .int u2, .int u3, .ref a4, .ref a5, .ref a6, .ref a7, .ref a8, .ref a9, .ref a10, .ref a11, .int u12, .int u13, .ref a14, .ref a15, .ref a16, .int u17, .ref a18, .ref a19, .ref a20, .int u21, .ref a22, .ref a23, .int u24, .ref a25, .ref a26, .int u27, .int u28, .int u29, .int u30])), (a8, .inl (k8, 8, .inl c8)), (a9, .inl (k9, 80, .inl c9)), (a10, .inl (k10, 80, .inl c10))]) sz)) (va_Qi (fun r9 _ => r9 = (m_mrest u0 c8 c9 c10 p0 p1 p2).1) (fun (_ : Unit) t => cx_end D [(k8, .int), (k9, .int), (k10, .int)] (va_A ([(h0, .inr (6, [.int u0, .ref a1, .int u2, .int u3, .ref a4, .ref a5, .ref a6, .ref a7, .ref a8, .ref a9, .ref a10, .ref a11, .int u12, .int u13, .ref a14, .ref a15, .ref a16, .int u17, .ref a18, .ref a19, .ref a20, .int u21, .ref a22, .ref a23, .int u24, .ref a25, .ref a26, .int u27, .int u28, .int u29, .int u30])), (a8, .inl (k8, 8, .inl c8)), (a9, .inl (k9, 80, .inl c9)), (a10, .inl (k10, 80, .inl c10))]) sz) ([(h0, .inr (6, [.int u0, .ref a1, .int u2, .int u3, .ref a4, .ref a5, .ref a6, .ref a7, .ref a8, .ref a9, .ref a10, .ref a11, .int u12, .int u13, .ref a14, .ref a15, .ref a16, .int u17, .ref a18, .ref a19, .ref a20, .int u21, .ref a22, .ref a23, .int u24, .ref a25, .ref a26, .int u27, .int u28, .int u29, .int u30])), (a8, .inl (k8, 8, .inl ((m_mrest u0 c8 c9 c10 p0 p1 p2).2.1))), (a9, .inl (k9, 80, .inl ((m_mrest u0 c8 c9 c10 p0 p1 p2).2.2.1))), (a10, .inl (k10, 80, .inl ((m_mrest u0 c8 c9 c10 p0 p1 p2).2.2.2)))]) t) (va_A ([(h0, .inr (6, [.int u0, .ref a1, .int u2, .int u3, .ref a4, .ref a5, .ref a6, .ref a7, .ref a8, .ref a9, .ref a10, .ref a11, .int u12, .int u13, .ref a14, .ref a15, .ref a16, .int u17, .ref a18, .ref a19, .ref a20, .int u21, .ref a22, .ref a23, .int u24, .ref a25, .ref a26, .int u27, .int u28, .int u29, .int u30])), (a8, .inl (k8, 8, .inl c8)), (a9, .inl (k9, 80, .inl c9)), (a10, .inl (k10, 80, .inl c10))]) sz)) 0 0 (va_A ([(h0, .inr (6, [.int u0, .ref a1, .int u2, .int u3, .ref a4, .ref a5, .ref a6, .ref a7, .ref a8, .ref a9, .ref a10, .ref a11, .int u12, .int u13, .ref a14, .ref a15, .ref a16, .int u17, .ref a18, .ref a19, .ref a20, .int u21, .ref a22, .ref a23, .int u24, .ref a25, .ref a26, .int u27, .int u28, .int u29, .int u30])), (a8, .inl (k8, 8, .inl c8)), (a9, .inl (k9, 80, .inl c9)), (a10, .inl (k10, 80, .inl c10))]) sz) := by
  refine Met.ofW (cc := b_Md_rest) (maxL := 5) (ret := (some .boolean)) (by decide) rfl ?_
  intro p e s m args below meth c s₁ B hml hv
  obtain ⟨rfl, hsz, hP, hK, hD0, hN, hO⟩ := hv
  have hx := B.exec
  have hb := B.bytes
  have hr := B.returns
  have hts := fun (w : Cond) (h : w ∈ cx_tbl) => atoms_spec (ws := ws_Md_rest) B.pre w (List.mem_cons_of_mem _ h)
  have hown : s.vm.findClass R_Md = some m.cls := findClass_of_methodNamed B.named
  have hlocks := B.notSynchronized
  subst hsz
  have hD := hD0.self (sz := s.heap.size)
  generalize hAe : va_A ([(h0, .inr (6, [.int u0, .ref a1, .int u2, .int u3, .ref a4, .ref a5, .ref a6, .ref a7, .ref a8, .ref a9, .ref a10, .ref a11, .int u12, .int u13, .ref a14, .ref a15, .ref a16, .int u17, .ref a18, .ref a19, .ref a20, .int u21, .ref a22, .ref a23, .int u24, .ref a25, .ref a26, .int u27, .int u28, .int u29, .int u30])), (a8, .inl (k8, 8, .inl c8)), (a9, .inl (k9, 80, .inl c9)), (a10, .inl (k10, 80, .inl c10))]) s.heap.size = A at hD hO ⊢
  have hA : ∀ q : Nat, s.heap.size ≤ q → A q := fun q h => by rw [← hAe]; exact Or.inr h
  have hS : va_S A s.heap s.heap [] := va_S.rf
  have hl := lv_entry ([.ref h0, .int p0, .int p1, .int p2]) (n := 5) (Nat.le_of_ble_eq_true rfl)
  rw [lg_entry_eq]
  generalize (lg_sl ([.ref h0, .int p0, .int p1, .int p2]) ++ List.replicate (5 - (lg_sl ([.ref h0, .int p0, .int p1, .int p2])).length) Slot.unset).toArray = ls at hl ⊢
  have hl : lv_has ls 5 [(0, .ref h0), (1, .int p0), (2, .int p1), (3, .int p2)] := hl
  refine lv_aload_n hx hb d_Md_rest_0 rfl (lv_at hl 0 rfl) ?_
  refine lv_iload_n hx hb d_Md_rest_1 rfl (lv_at hl 1 rfl) ?_
  have hPc := hP.sub (ws' := [(h0, .inr (6, [.int u0, .ref a1, .int u2, .int u3, .ref a4, .ref a5, .ref a6, .ref a7, .ref a8, .ref a9, .ref a10, .ref a11, .int u12, .int u13, .ref a14, .ref a15, .ref a16, .int u17, .ref a18, .ref a19, .ref a20, .int u21, .ref a22, .ref a23, .int u24, .ref a25, .ref a26, .int u27, .int u28, .int u29, .int u30]))]) [0] rfl
  have hDc := hD.sub (ws' := [(h0, .inr (6, [.int u0, .ref a1, .int u2, .int u3, .ref a4, .ref a5, .ref a6, .ref a7, .ref a8, .ref a9, .ref a10, .ref a11, .int u12, .int u13, .ref a14, .ref a15, .ref a16, .int u17, .ref a18, .ref a19, .ref a20, .int u21, .ref a22, .ref a23, .int u24, .ref a25, .ref a26, .int u27, .int u28, .int u29, .int u30]))]) [0] (by decide) rfl
  have hKc := hK.sub (tys' := []) [] rfl
  have hFc := va_free (wc := [(h0, .inr (6, [.int u0, .ref a1, .int u2, .int u3, .ref a4, .ref a5, .ref a6, .ref a7, .ref a8, .ref a9, .ref a10, .ref a11, .int u12, .int u13, .ref a14, .ref a15, .ref a16, .int u17, .ref a18, .ref a19, .ref a20, .int u21, .ref a22, .ref a23, .int u24, .ref a25, .ref a26, .int u27, .int u28, .int u29, .int u30]))]) hD hS hA [0] rfl
  refine vp_callSi (va_Run.run (va_runV (As := [.int p0]) (rest := [])  ⟨hx, hb, hml, hown, hts⟩ (c_Md_isCell l D h0 u0 a1 u2 u3 a4 a5 a6 a7 a8 a9 a10 a11 u12 u13 a14 a15 a16 u17 a18 a19 a20 u21 a22 a23 u24 a25 a26 u27 u28 u29 u30 p0 s.heap.size ) ⟨callB_of 1 hts cg_Md_isCell rfl rfl rfl (hts _ cw_10) (hts _ cw_844) (by decide +kernel) ⟨Nat.le_of_ble_eq_true rfl, Nat.le_of_ble_eq_true rfl⟩, hts _ cw_846, hts _ cs_16⟩ (cx_preV (C := R_Md) [.int p0] hPc hKc hDc hN hO hS hFc (ci := 6) (q0 := 0) rfl rfl rfl) rfl rfl hl.1 rfl (lv_room (Nat.le_of_ble_eq_true rfl)) d_Md_rest_2 ⟨Nat.le_of_ble_eq_true rfl, Nat.le_of_ble_eq_true rfl⟩)) (fun r z_1 => ?_)
  subst z_1
  refine lv_if_eq (tgt := 43) hx hb d_Md_rest_5 (by decide) (fun c_2 => ?_) (fun c_2 => ?_)
  · refine lv_iconst (v := 0) hx hb d_Md_rest_43 (by decide) ?_
    have hm : m_mrest u0 c8 c9 c10 p0 p1 p2 = (0, c8, c9, c10) := by simp [m_mrest, eq_true c_2]
    rw [hm]
    have hP9 := hP.sub (ws' := [(h0, .inr (6, [.int u0, .ref a1, .int u2, .int u3, .ref a4, .ref a5, .ref a6, .ref a7, .ref a8, .ref a9, .ref a10, .ref a11, .int u12, .int u13, .ref a14, .ref a15, .ref a16, .int u17, .ref a18, .ref a19, .ref a20, .int u21, .ref a22, .ref a23, .int u24, .ref a25, .ref a26, .int u27, .int u28, .int u29, .int u30])), (a8, .inl (k8, 8, .inl c8)), (a9, .inl (k9, 80, .inl c9)), (a10, .inl (k10, 80, .inl c10))]) [0, 1, 2, 3] rfl
    have hD9 := hD.sub (ws' := [(h0, .inr (6, [.int u0, .ref a1, .int u2, .int u3, .ref a4, .ref a5, .ref a6, .ref a7, .ref a8, .ref a9, .ref a10, .ref a11, .int u12, .int u13, .ref a14, .ref a15, .ref a16, .int u17, .ref a18, .ref a19, .ref a20, .int u21, .ref a22, .ref a23, .int u24, .ref a25, .ref a26, .int u27, .int u28, .int u29, .int u30])), (a8, .inl (k8, 8, .inl c8)), (a9, .inl (k9, 80, .inl c9)), (a10, .inl (k10, 80, .inl c10))]) [0, 1, 2, 3] (by decide) rfl
    have hK9 := hK.sub (tys' := [(k8, .int), (k9, .int), (k10, .int)]) [0, 1, 2] rfl
    exact W.zret (v := 0) hx hb hr (rfl) (fun t ht hW => ⟨⟨_, (), rfl, rfl, by rw [ht]; exact hP9, va_K.moved hW.alike hK9, hD9⟩, hS.F ht⟩) hS.2.2 d_Md_rest_44
  · refine lv_aload_n hx hb d_Md_rest_8 rfl (lv_at hl 0 rfl) ?_
    refine va_get (D := D) (ci := 6) (v := .ref a8) (C := R_Md) (T := T_Md) (N := 31) hx hb hts in_Md hown hK hP 0 rfl rfl 8 (by decide) (hts _ cw_742) (fun _ h9 => h9) rfl d_Md_rest_9 ?_
    refine lv_iload_n hx hb d_Md_rest_12 rfl (lv_at hl 1 rfl) ?_
    refine va_iald hx hb hK hP 1 0 rfl rfl (md_ix c_2 hc) d_Md_rest_13 ?_
    refine lv_bipush (v := 10) hx hb d_Md_rest_14 (by decide) ?_
    refine lv_icmp_eq (tgt := 43) hx hb d_Md_rest_16 (by decide) (fun c_3 => ?_) (fun c_3 => ?_)
    · refine lv_iconst (v := 0) hx hb d_Md_rest_43 (by decide) ?_
      have hm : m_mrest u0 c8 c9 c10 p0 p1 p2 = (0, c8, c9, c10) := by simp [m_mrest, eq_false c_2, eq_true c_3]
      rw [hm]
      have hP9 := hP.sub (ws' := [(h0, .inr (6, [.int u0, .ref a1, .int u2, .int u3, .ref a4, .ref a5, .ref a6, .ref a7, .ref a8, .ref a9, .ref a10, .ref a11, .int u12, .int u13, .ref a14, .ref a15, .ref a16, .int u17, .ref a18, .ref a19, .ref a20, .int u21, .ref a22, .ref a23, .int u24, .ref a25, .ref a26, .int u27, .int u28, .int u29, .int u30])), (a8, .inl (k8, 8, .inl c8)), (a9, .inl (k9, 80, .inl c9)), (a10, .inl (k10, 80, .inl c10))]) [0, 1, 2, 3] rfl
      have hD9 := hD.sub (ws' := [(h0, .inr (6, [.int u0, .ref a1, .int u2, .int u3, .ref a4, .ref a5, .ref a6, .ref a7, .ref a8, .ref a9, .ref a10, .ref a11, .int u12, .int u13, .ref a14, .ref a15, .ref a16, .int u17, .ref a18, .ref a19, .ref a20, .int u21, .ref a22, .ref a23, .int u24, .ref a25, .ref a26, .int u27, .int u28, .int u29, .int u30])), (a8, .inl (k8, 8, .inl c8)), (a9, .inl (k9, 80, .inl c9)), (a10, .inl (k10, 80, .inl c10))]) [0, 1, 2, 3] (by decide) rfl
      have hK9 := hK.sub (tys' := [(k8, .int), (k9, .int), (k10, .int)]) [0, 1, 2] rfl
      exact W.zret (v := 0) hx hb hr (rfl) (fun t ht hW => ⟨⟨_, (), rfl, rfl, by rw [ht]; exact hP9, va_K.moved hW.alike hK9, hD9⟩, hS.F ht⟩) hS.2.2 d_Md_rest_44
    · refine lv_iload_n hx hb d_Md_rest_19 rfl (lv_at hl 2 rfl) ?_
      refine lv_i2l hx hb d_Md_rest_20 rfl ?_
      refine lv_lconst (v := 0) hx hb d_Md_rest_21 (by decide) ?_
      refine lv_ldc2 (v := 100000) hx hb hown (hts _ cw_856) d_Md_rest_22 ?_
      have hPc := hP.sub (ws' := []) [] rfl
      have hDc := hD.sub (ws' := []) [] (by decide) rfl
      have hKc := hK.sub (tys' := []) [] rfl
      have hFc := va_free (wc := []) hD hS hA [] rfl
      refine vp_callSi (va_Run.run (va_runS (As := [.long p1.toInt64, .long 0, .long 100000]) (rest := [])  ⟨hx, hb, hml, hown, hts⟩ (c_Md_isIn l D p1.toInt64 0 100000 s.heap.size ) ⟨callB_of 3 hts cg_Md_isIn rfl rfl rfl (hts _ cw_10) (hts _ cw_837) (by decide +kernel) ⟨Nat.le_of_ble_eq_true rfl, Nat.le_of_ble_eq_true rfl⟩, hts _ cw_838⟩ (cx_preS [.long p1.toInt64, .long 0, .long 100000] hPc hKc hDc hN hO hS hFc) rfl rfl hl.1 rfl (lv_room (Nat.le_of_ble_eq_true rfl)) d_Md_rest_25 ⟨Nat.le_of_ble_eq_true rfl, Nat.le_of_ble_eq_true rfl⟩)) (fun r z_4 => ?_)
      subst z_4
      refine lv_if_eq (tgt := 43) hx hb d_Md_rest_28 (by decide) (fun c_5 => ?_) (fun c_5 => ?_)
      · refine lv_iconst (v := 0) hx hb d_Md_rest_43 (by decide) ?_
        have hm : m_mrest u0 c8 c9 c10 p0 p1 p2 = (0, c8, c9, c10) := by simp [m_mrest, eq_false c_2, eq_false c_3, eq_true c_5]
        rw [hm]
        have hP9 := hP.sub (ws' := [(h0, .inr (6, [.int u0, .ref a1, .int u2, .int u3, .ref a4, .ref a5, .ref a6, .ref a7, .ref a8, .ref a9, .ref a10, .ref a11, .int u12, .int u13, .ref a14, .ref a15, .ref a16, .int u17, .ref a18, .ref a19, .ref a20, .int u21, .ref a22, .ref a23, .int u24, .ref a25, .ref a26, .int u27, .int u28, .int u29, .int u30])), (a8, .inl (k8, 8, .inl c8)), (a9, .inl (k9, 80, .inl c9)), (a10, .inl (k10, 80, .inl c10))]) [0, 1, 2, 3] rfl
        have hD9 := hD.sub (ws' := [(h0, .inr (6, [.int u0, .ref a1, .int u2, .int u3, .ref a4, .ref a5, .ref a6, .ref a7, .ref a8, .ref a9, .ref a10, .ref a11, .int u12, .int u13, .ref a14, .ref a15, .ref a16, .int u17, .ref a18, .ref a19, .ref a20, .int u21, .ref a22, .ref a23, .int u24, .ref a25, .ref a26, .int u27, .int u28, .int u29, .int u30])), (a8, .inl (k8, 8, .inl c8)), (a9, .inl (k9, 80, .inl c9)), (a10, .inl (k10, 80, .inl c10))]) [0, 1, 2, 3] (by decide) rfl
        have hK9 := hK.sub (tys' := [(k8, .int), (k9, .int), (k10, .int)]) [0, 1, 2] rfl
        exact W.zret (v := 0) hx hb hr (rfl) (fun t ht hW => ⟨⟨_, (), rfl, rfl, by rw [ht]; exact hP9, va_K.moved hW.alike hK9, hD9⟩, hS.F ht⟩) hS.2.2 d_Md_rest_44
      · refine lv_iload_n hx hb d_Md_rest_31 rfl (lv_at hl 3 rfl) ?_
        refine lv_i2l hx hb d_Md_rest_32 rfl ?_
        refine lv_lconst (v := 0) hx hb d_Md_rest_33 (by decide) ?_
        refine lv_ldc2 (v := 10000) hx hb hown (hts _ cw_858) d_Md_rest_34 ?_
        have hPc := hP.sub (ws' := []) [] rfl
        have hDc := hD.sub (ws' := []) [] (by decide) rfl
        have hKc := hK.sub (tys' := []) [] rfl
        have hFc := va_free (wc := []) hD hS hA [] rfl
        refine vp_callSi (va_Run.run (va_runS (As := [.long p2.toInt64, .long 0, .long 10000]) (rest := [])  ⟨hx, hb, hml, hown, hts⟩ (c_Md_isIn l D p2.toInt64 0 10000 s.heap.size ) ⟨callB_of 3 hts cg_Md_isIn rfl rfl rfl (hts _ cw_10) (hts _ cw_837) (by decide +kernel) ⟨Nat.le_of_ble_eq_true rfl, Nat.le_of_ble_eq_true rfl⟩, hts _ cw_838⟩ (cx_preS [.long p2.toInt64, .long 0, .long 10000] hPc hKc hDc hN hO hS hFc) rfl rfl hl.1 rfl (lv_room (Nat.le_of_ble_eq_true rfl)) d_Md_rest_37 ⟨Nat.le_of_ble_eq_true rfl, Nat.le_of_ble_eq_true rfl⟩)) (fun r z_6 => ?_)
        subst z_6
        refine lv_if_ne (tgt := 45) hx hb d_Md_rest_40 (by decide) (fun c_7 => ?_) (fun c_7 => ?_)
        · refine lv_bipush (v := 10) hx hb d_Md_rest_45 (by decide) ?_
          refine lv_iload_n hx hb d_Md_rest_47 rfl (lv_at hl 1 rfl) ?_
          refine lv_imul hx hb d_Md_rest_48 ?_
          refine lv_aload_n hx hb d_Md_rest_49 rfl (lv_at hl 0 rfl) ?_
          refine va_get (D := D) (ci := 6) (v := .ref a8) (C := R_Md) (T := T_Md) (N := 31) hx hb hts in_Md hown hK hP 0 rfl rfl 8 (by decide) (hts _ cw_742) (fun _ h9 => h9) rfl d_Md_rest_50 ?_
          refine lv_iload_n hx hb d_Md_rest_53 rfl (lv_at hl 1 rfl) ?_
          refine va_iald hx hb hK hP 1 0 rfl rfl (md_ix c_2 hc) d_Md_rest_54 ?_
          refine lv_iadd hx hb d_Md_rest_55 ?_
          refine lv_istore (lv' := [(4, .int ((10 * p0) + (c8 p0.toNatClampNeg))), (0, .ref h0), (1, .int p0), (2, .int p1), (3, .int p2)]) hx hb d_Md_rest_56 hl (by decide) rfl (fun ls hl => ?_)
          refine lv_aload_n hx hb d_Md_rest_58 rfl (lv_at hl 1 rfl) ?_
          refine va_get (D := D) (ci := 6) (v := .ref a8) (C := R_Md) (T := T_Md) (N := 31) hx hb hts in_Md hown hK hP 0 rfl rfl 8 (by decide) (hts _ cw_742) (fun _ h9 => h9) rfl d_Md_rest_59 ?_
          refine lv_iload_n hx hb d_Md_rest_62 rfl (lv_at hl 2 rfl) ?_
          refine va_iald hx hb hK hP 1 0 rfl rfl (md_ix c_2 hc) d_Md_rest_63 ?_
          refine lv_if_le (tgt := 82) hx hb d_Md_rest_64 (by decide) (fun c_8 => ?_) (fun c_8 => ?_)
          · refine lv_aload_n hx hb d_Md_rest_82 rfl (lv_at hl 1 rfl) ?_
            refine va_get (D := D) (ci := 6) (v := .ref a9) (C := R_Md) (T := T_Md) (N := 31) hx hb hts in_Md hown hK hP 0 rfl rfl 9 (by decide) (hts _ cw_743) (fun _ h9 => h9) rfl d_Md_rest_83 ?_
            refine lv_iload hx hb d_Md_rest_86 (lv_at hl 0 rfl) ?_
            refine lv_iload_n hx hb d_Md_rest_88 rfl (lv_at hl 3 rfl) ?_
            refine va_iast hx hb hK hP hD hS 2 1 rfl rfl (md_ix10 c_2 hc hrc c_3) d_Md_rest_89 (fun H locs hP hD hS => ?_)
            have hP : va_P D classes ([(h0, .inr (6, [.int u0, .ref a1, .int u2, .int u3, .ref a4, .ref a5, .ref a6, .ref a7, .ref a8, .ref a9, .ref a10, .ref a11, .int u12, .int u13, .ref a14, .ref a15, .ref a16, .int u17, .ref a18, .ref a19, .ref a20, .int u21, .ref a22, .ref a23, .int u24, .ref a25, .ref a26, .int u27, .int u28, .int u29, .int u30])), (a8, .inl (k8, 8, .inl c8)), (a9, .inl (k9, 80, .inl (upd c9 (((10 * p0) + (c8 p0.toNatClampNeg)).toNatClampNeg) p1))), (a10, .inl (k10, 80, .inl c10))]) H := hP
            have hD : va_D A ([(h0, .inr (6, [.int u0, .ref a1, .int u2, .int u3, .ref a4, .ref a5, .ref a6, .ref a7, .ref a8, .ref a9, .ref a10, .ref a11, .int u12, .int u13, .ref a14, .ref a15, .ref a16, .int u17, .ref a18, .ref a19, .ref a20, .int u21, .ref a22, .ref a23, .int u24, .ref a25, .ref a26, .int u27, .int u28, .int u29, .int u30])), (a8, .inl (k8, 8, .inl c8)), (a9, .inl (k9, 80, .inl (upd c9 (((10 * p0) + (c8 p0.toNatClampNeg)).toNatClampNeg) p1))), (a10, .inl (k10, 80, .inl c10))]) := hD
            refine lv_aload_n hx hb d_Md_rest_90 rfl (lv_at hl 1 rfl) ?_
            refine va_get (D := D) (ci := 6) (v := .ref a10) (C := R_Md) (T := T_Md) (N := 31) hx hb hts in_Md hown hK hP 0 rfl rfl 10 (by decide) (hts _ cw_744) (fun _ h9 => h9) rfl d_Md_rest_91 ?_
            refine lv_iload hx hb d_Md_rest_94 (lv_at hl 0 rfl) ?_
            refine lv_iload_n hx hb d_Md_rest_96 rfl (lv_at hl 4 rfl) ?_
            refine va_iast hx hb hK hP hD hS 3 2 rfl rfl (md_ix10 c_2 hc hrc c_3) d_Md_rest_97 (fun H locs hP hD hS => ?_)
            have hP : va_P D classes ([(h0, .inr (6, [.int u0, .ref a1, .int u2, .int u3, .ref a4, .ref a5, .ref a6, .ref a7, .ref a8, .ref a9, .ref a10, .ref a11, .int u12, .int u13, .ref a14, .ref a15, .ref a16, .int u17, .ref a18, .ref a19, .ref a20, .int u21, .ref a22, .ref a23, .int u24, .ref a25, .ref a26, .int u27, .int u28, .int u29, .int u30])), (a8, .inl (k8, 8, .inl c8)), (a9, .inl (k9, 80, .inl (upd c9 (((10 * p0) + (c8 p0.toNatClampNeg)).toNatClampNeg) p1))), (a10, .inl (k10, 80, .inl (upd c10 (((10 * p0) + (c8 p0.toNatClampNeg)).toNatClampNeg) p2)))]) H := hP
            have hD : va_D A ([(h0, .inr (6, [.int u0, .ref a1, .int u2, .int u3, .ref a4, .ref a5, .ref a6, .ref a7, .ref a8, .ref a9, .ref a10, .ref a11, .int u12, .int u13, .ref a14, .ref a15, .ref a16, .int u17, .ref a18, .ref a19, .ref a20, .int u21, .ref a22, .ref a23, .int u24, .ref a25, .ref a26, .int u27, .int u28, .int u29, .int u30])), (a8, .inl (k8, 8, .inl c8)), (a9, .inl (k9, 80, .inl (upd c9 (((10 * p0) + (c8 p0.toNatClampNeg)).toNatClampNeg) p1))), (a10, .inl (k10, 80, .inl (upd c10 (((10 * p0) + (c8 p0.toNatClampNeg)).toNatClampNeg) p2)))]) := hD
            refine lv_aload_n hx hb d_Md_rest_98 rfl (lv_at hl 1 rfl) ?_
            refine va_get (D := D) (ci := 6) (v := .ref a8) (C := R_Md) (T := T_Md) (N := 31) hx hb hts in_Md hown hK hP 0 rfl rfl 8 (by decide) (hts _ cw_742) (fun _ h9 => h9) rfl d_Md_rest_99 ?_
            refine lv_iload_n hx hb d_Md_rest_102 rfl (lv_at hl 2 rfl) ?_
            refine lv_dup2_11 hx hb d_Md_rest_103 rfl rfl ?_
            refine va_iald hx hb hK hP 1 0 rfl rfl (md_ix c_2 hc) d_Md_rest_104 ?_
            refine lv_iconst (v := 1) hx hb d_Md_rest_105 (by decide) ?_
            refine lv_iadd hx hb d_Md_rest_106 ?_
            refine va_iast hx hb hK hP hD hS 1 0 rfl rfl (md_ix c_2 hc) d_Md_rest_107 (fun H locs hP hD hS => ?_)
            have hP : va_P D classes ([(h0, .inr (6, [.int u0, .ref a1, .int u2, .int u3, .ref a4, .ref a5, .ref a6, .ref a7, .ref a8, .ref a9, .ref a10, .ref a11, .int u12, .int u13, .ref a14, .ref a15, .ref a16, .int u17, .ref a18, .ref a19, .ref a20, .int u21, .ref a22, .ref a23, .int u24, .ref a25, .ref a26, .int u27, .int u28, .int u29, .int u30])), (a8, .inl (k8, 8, .inl (upd c8 p0.toNatClampNeg ((c8 p0.toNatClampNeg) + 1)))), (a9, .inl (k9, 80, .inl (upd c9 (((10 * p0) + (c8 p0.toNatClampNeg)).toNatClampNeg) p1))), (a10, .inl (k10, 80, .inl (upd c10 (((10 * p0) + (c8 p0.toNatClampNeg)).toNatClampNeg) p2)))]) H := hP
            have hD : va_D A ([(h0, .inr (6, [.int u0, .ref a1, .int u2, .int u3, .ref a4, .ref a5, .ref a6, .ref a7, .ref a8, .ref a9, .ref a10, .ref a11, .int u12, .int u13, .ref a14, .ref a15, .ref a16, .int u17, .ref a18, .ref a19, .ref a20, .int u21, .ref a22, .ref a23, .int u24, .ref a25, .ref a26, .int u27, .int u28, .int u29, .int u30])), (a8, .inl (k8, 8, .inl (upd c8 p0.toNatClampNeg ((c8 p0.toNatClampNeg) + 1)))), (a9, .inl (k9, 80, .inl (upd c9 (((10 * p0) + (c8 p0.toNatClampNeg)).toNatClampNeg) p1))), (a10, .inl (k10, 80, .inl (upd c10 (((10 * p0) + (c8 p0.toNatClampNeg)).toNatClampNeg) p2)))]) := hD
            refine lv_iconst (v := 1) hx hb d_Md_rest_108 (by decide) ?_
            have hm : m_mrest u0 c8 c9 c10 p0 p1 p2 = (1, upd c8 p0.toNatClampNeg ((c8 p0.toNatClampNeg) + 1), upd c9 (((10 * p0) + (c8 p0.toNatClampNeg)).toNatClampNeg) p1, upd c10 (((10 * p0) + (c8 p0.toNatClampNeg)).toNatClampNeg) p2) := by simp [m_mrest, eq_false c_2, eq_false c_3, eq_false c_5, eq_false c_7, eq_true c_8]
            rw [hm]
            have hP9 := hP.sub (ws' := [(h0, .inr (6, [.int u0, .ref a1, .int u2, .int u3, .ref a4, .ref a5, .ref a6, .ref a7, .ref a8, .ref a9, .ref a10, .ref a11, .int u12, .int u13, .ref a14, .ref a15, .ref a16, .int u17, .ref a18, .ref a19, .ref a20, .int u21, .ref a22, .ref a23, .int u24, .ref a25, .ref a26, .int u27, .int u28, .int u29, .int u30])), (a8, .inl (k8, 8, .inl (upd c8 p0.toNatClampNeg ((c8 p0.toNatClampNeg) + 1)))), (a9, .inl (k9, 80, .inl (upd c9 (((10 * p0) + (c8 p0.toNatClampNeg)).toNatClampNeg) p1))), (a10, .inl (k10, 80, .inl (upd c10 (((10 * p0) + (c8 p0.toNatClampNeg)).toNatClampNeg) p2)))]) [0, 1, 2, 3] rfl
            have hD9 := hD.sub (ws' := [(h0, .inr (6, [.int u0, .ref a1, .int u2, .int u3, .ref a4, .ref a5, .ref a6, .ref a7, .ref a8, .ref a9, .ref a10, .ref a11, .int u12, .int u13, .ref a14, .ref a15, .ref a16, .int u17, .ref a18, .ref a19, .ref a20, .int u21, .ref a22, .ref a23, .int u24, .ref a25, .ref a26, .int u27, .int u28, .int u29, .int u30])), (a8, .inl (k8, 8, .inl (upd c8 p0.toNatClampNeg ((c8 p0.toNatClampNeg) + 1)))), (a9, .inl (k9, 80, .inl (upd c9 (((10 * p0) + (c8 p0.toNatClampNeg)).toNatClampNeg) p1))), (a10, .inl (k10, 80, .inl (upd c10 (((10 * p0) + (c8 p0.toNatClampNeg)).toNatClampNeg) p2)))]) [0, 1, 2, 3] (by decide) rfl
            have hK9 := hK.sub (tys' := [(k8, .int), (k9, .int), (k10, .int)]) [0, 1, 2] rfl
            exact W.zret (v := 1) hx hb hr (rfl) (fun t ht hW => ⟨⟨_, (), rfl, rfl, by rw [ht]; exact hP9, va_K.moved hW.alike hK9, hD9⟩, hS.F ht⟩) hS.2.2 d_Md_rest_109
          · refine lv_iload_n hx hb d_Md_rest_67 rfl (lv_at hl 3 rfl) ?_
            refine lv_aload_n hx hb d_Md_rest_68 rfl (lv_at hl 1 rfl) ?_
            refine va_get (D := D) (ci := 6) (v := .ref a9) (C := R_Md) (T := T_Md) (N := 31) hx hb hts in_Md hown hK hP 0 rfl rfl 9 (by decide) (hts _ cw_743) (fun _ h9 => h9) rfl d_Md_rest_69 ?_
            refine lv_iload hx hb d_Md_rest_72 (lv_at hl 0 rfl) ?_
            refine lv_iconst (v := 1) hx hb d_Md_rest_74 (by decide) ?_
            refine lv_isub hx hb d_Md_rest_75 ?_
            refine va_iald hx hb hK hP 2 1 rfl rfl (md_ix10p c_2 hc hrc c_8) d_Md_rest_76 ?_
            refine lv_icmp_gt (tgt := 82) hx hb d_Md_rest_77 (by decide) (fun c_9 => ?_) (fun c_9 => ?_)
            · refine lv_aload_n hx hb d_Md_rest_82 rfl (lv_at hl 1 rfl) ?_
              refine va_get (D := D) (ci := 6) (v := .ref a9) (C := R_Md) (T := T_Md) (N := 31) hx hb hts in_Md hown hK hP 0 rfl rfl 9 (by decide) (hts _ cw_743) (fun _ h9 => h9) rfl d_Md_rest_83 ?_
              refine lv_iload hx hb d_Md_rest_86 (lv_at hl 0 rfl) ?_
              refine lv_iload_n hx hb d_Md_rest_88 rfl (lv_at hl 3 rfl) ?_
              refine va_iast hx hb hK hP hD hS 2 1 rfl rfl (md_ix10 c_2 hc hrc c_3) d_Md_rest_89 (fun H locs hP hD hS => ?_)
              have hP : va_P D classes ([(h0, .inr (6, [.int u0, .ref a1, .int u2, .int u3, .ref a4, .ref a5, .ref a6, .ref a7, .ref a8, .ref a9, .ref a10, .ref a11, .int u12, .int u13, .ref a14, .ref a15, .ref a16, .int u17, .ref a18, .ref a19, .ref a20, .int u21, .ref a22, .ref a23, .int u24, .ref a25, .ref a26, .int u27, .int u28, .int u29, .int u30])), (a8, .inl (k8, 8, .inl c8)), (a9, .inl (k9, 80, .inl (upd c9 (((10 * p0) + (c8 p0.toNatClampNeg)).toNatClampNeg) p1))), (a10, .inl (k10, 80, .inl c10))]) H := hP
              have hD : va_D A ([(h0, .inr (6, [.int u0, .ref a1, .int u2, .int u3, .ref a4, .ref a5, .ref a6, .ref a7, .ref a8, .ref a9, .ref a10, .ref a11, .int u12, .int u13, .ref a14, .ref a15, .ref a16, .int u17, .ref a18, .ref a19, .ref a20, .int u21, .ref a22, .ref a23, .int u24, .ref a25, .ref a26, .int u27, .int u28, .int u29, .int u30])), (a8, .inl (k8, 8, .inl c8)), (a9, .inl (k9, 80, .inl (upd c9 (((10 * p0) + (c8 p0.toNatClampNeg)).toNatClampNeg) p1))), (a10, .inl (k10, 80, .inl c10))]) := hD
              refine lv_aload_n hx hb d_Md_rest_90 rfl (lv_at hl 1 rfl) ?_
              refine va_get (D := D) (ci := 6) (v := .ref a10) (C := R_Md) (T := T_Md) (N := 31) hx hb hts in_Md hown hK hP 0 rfl rfl 10 (by decide) (hts _ cw_744) (fun _ h9 => h9) rfl d_Md_rest_91 ?_
              refine lv_iload hx hb d_Md_rest_94 (lv_at hl 0 rfl) ?_
              refine lv_iload_n hx hb d_Md_rest_96 rfl (lv_at hl 4 rfl) ?_
              refine va_iast hx hb hK hP hD hS 3 2 rfl rfl (md_ix10 c_2 hc hrc c_3) d_Md_rest_97 (fun H locs hP hD hS => ?_)
              have hP : va_P D classes ([(h0, .inr (6, [.int u0, .ref a1, .int u2, .int u3, .ref a4, .ref a5, .ref a6, .ref a7, .ref a8, .ref a9, .ref a10, .ref a11, .int u12, .int u13, .ref a14, .ref a15, .ref a16, .int u17, .ref a18, .ref a19, .ref a20, .int u21, .ref a22, .ref a23, .int u24, .ref a25, .ref a26, .int u27, .int u28, .int u29, .int u30])), (a8, .inl (k8, 8, .inl c8)), (a9, .inl (k9, 80, .inl (upd c9 (((10 * p0) + (c8 p0.toNatClampNeg)).toNatClampNeg) p1))), (a10, .inl (k10, 80, .inl (upd c10 (((10 * p0) + (c8 p0.toNatClampNeg)).toNatClampNeg) p2)))]) H := hP
              have hD : va_D A ([(h0, .inr (6, [.int u0, .ref a1, .int u2, .int u3, .ref a4, .ref a5, .ref a6, .ref a7, .ref a8, .ref a9, .ref a10, .ref a11, .int u12, .int u13, .ref a14, .ref a15, .ref a16, .int u17, .ref a18, .ref a19, .ref a20, .int u21, .ref a22, .ref a23, .int u24, .ref a25, .ref a26, .int u27, .int u28, .int u29, .int u30])), (a8, .inl (k8, 8, .inl c8)), (a9, .inl (k9, 80, .inl (upd c9 (((10 * p0) + (c8 p0.toNatClampNeg)).toNatClampNeg) p1))), (a10, .inl (k10, 80, .inl (upd c10 (((10 * p0) + (c8 p0.toNatClampNeg)).toNatClampNeg) p2)))]) := hD
              refine lv_aload_n hx hb d_Md_rest_98 rfl (lv_at hl 1 rfl) ?_
              refine va_get (D := D) (ci := 6) (v := .ref a8) (C := R_Md) (T := T_Md) (N := 31) hx hb hts in_Md hown hK hP 0 rfl rfl 8 (by decide) (hts _ cw_742) (fun _ h9 => h9) rfl d_Md_rest_99 ?_
              refine lv_iload_n hx hb d_Md_rest_102 rfl (lv_at hl 2 rfl) ?_
              refine lv_dup2_11 hx hb d_Md_rest_103 rfl rfl ?_
              refine va_iald hx hb hK hP 1 0 rfl rfl (md_ix c_2 hc) d_Md_rest_104 ?_
              refine lv_iconst (v := 1) hx hb d_Md_rest_105 (by decide) ?_
              refine lv_iadd hx hb d_Md_rest_106 ?_
              refine va_iast hx hb hK hP hD hS 1 0 rfl rfl (md_ix c_2 hc) d_Md_rest_107 (fun H locs hP hD hS => ?_)
              have hP : va_P D classes ([(h0, .inr (6, [.int u0, .ref a1, .int u2, .int u3, .ref a4, .ref a5, .ref a6, .ref a7, .ref a8, .ref a9, .ref a10, .ref a11, .int u12, .int u13, .ref a14, .ref a15, .ref a16, .int u17, .ref a18, .ref a19, .ref a20, .int u21, .ref a22, .ref a23, .int u24, .ref a25, .ref a26, .int u27, .int u28, .int u29, .int u30])), (a8, .inl (k8, 8, .inl (upd c8 p0.toNatClampNeg ((c8 p0.toNatClampNeg) + 1)))), (a9, .inl (k9, 80, .inl (upd c9 (((10 * p0) + (c8 p0.toNatClampNeg)).toNatClampNeg) p1))), (a10, .inl (k10, 80, .inl (upd c10 (((10 * p0) + (c8 p0.toNatClampNeg)).toNatClampNeg) p2)))]) H := hP
              have hD : va_D A ([(h0, .inr (6, [.int u0, .ref a1, .int u2, .int u3, .ref a4, .ref a5, .ref a6, .ref a7, .ref a8, .ref a9, .ref a10, .ref a11, .int u12, .int u13, .ref a14, .ref a15, .ref a16, .int u17, .ref a18, .ref a19, .ref a20, .int u21, .ref a22, .ref a23, .int u24, .ref a25, .ref a26, .int u27, .int u28, .int u29, .int u30])), (a8, .inl (k8, 8, .inl (upd c8 p0.toNatClampNeg ((c8 p0.toNatClampNeg) + 1)))), (a9, .inl (k9, 80, .inl (upd c9 (((10 * p0) + (c8 p0.toNatClampNeg)).toNatClampNeg) p1))), (a10, .inl (k10, 80, .inl (upd c10 (((10 * p0) + (c8 p0.toNatClampNeg)).toNatClampNeg) p2)))]) := hD
              refine lv_iconst (v := 1) hx hb d_Md_rest_108 (by decide) ?_
              have hm : m_mrest u0 c8 c9 c10 p0 p1 p2 = (1, upd c8 p0.toNatClampNeg ((c8 p0.toNatClampNeg) + 1), upd c9 (((10 * p0) + (c8 p0.toNatClampNeg)).toNatClampNeg) p1, upd c10 (((10 * p0) + (c8 p0.toNatClampNeg)).toNatClampNeg) p2) := by simp [m_mrest, eq_false c_2, eq_false c_3, eq_false c_5, eq_false c_7, eq_false c_8, eq_true c_9]
              rw [hm]
              have hP9 := hP.sub (ws' := [(h0, .inr (6, [.int u0, .ref a1, .int u2, .int u3, .ref a4, .ref a5, .ref a6, .ref a7, .ref a8, .ref a9, .ref a10, .ref a11, .int u12, .int u13, .ref a14, .ref a15, .ref a16, .int u17, .ref a18, .ref a19, .ref a20, .int u21, .ref a22, .ref a23, .int u24, .ref a25, .ref a26, .int u27, .int u28, .int u29, .int u30])), (a8, .inl (k8, 8, .inl (upd c8 p0.toNatClampNeg ((c8 p0.toNatClampNeg) + 1)))), (a9, .inl (k9, 80, .inl (upd c9 (((10 * p0) + (c8 p0.toNatClampNeg)).toNatClampNeg) p1))), (a10, .inl (k10, 80, .inl (upd c10 (((10 * p0) + (c8 p0.toNatClampNeg)).toNatClampNeg) p2)))]) [0, 1, 2, 3] rfl
              have hD9 := hD.sub (ws' := [(h0, .inr (6, [.int u0, .ref a1, .int u2, .int u3, .ref a4, .ref a5, .ref a6, .ref a7, .ref a8, .ref a9, .ref a10, .ref a11, .int u12, .int u13, .ref a14, .ref a15, .ref a16, .int u17, .ref a18, .ref a19, .ref a20, .int u21, .ref a22, .ref a23, .int u24, .ref a25, .ref a26, .int u27, .int u28, .int u29, .int u30])), (a8, .inl (k8, 8, .inl (upd c8 p0.toNatClampNeg ((c8 p0.toNatClampNeg) + 1)))), (a9, .inl (k9, 80, .inl (upd c9 (((10 * p0) + (c8 p0.toNatClampNeg)).toNatClampNeg) p1))), (a10, .inl (k10, 80, .inl (upd c10 (((10 * p0) + (c8 p0.toNatClampNeg)).toNatClampNeg) p2)))]) [0, 1, 2, 3] (by decide) rfl
              have hK9 := hK.sub (tys' := [(k8, .int), (k9, .int), (k10, .int)]) [0, 1, 2] rfl
              exact W.zret (v := 1) hx hb hr (rfl) (fun t ht hW => ⟨⟨_, (), rfl, rfl, by rw [ht]; exact hP9, va_K.moved hW.alike hK9, hD9⟩, hS.F ht⟩) hS.2.2 d_Md_rest_109
            · refine lv_iconst (v := 0) hx hb d_Md_rest_80 (by decide) ?_
              have hm : m_mrest u0 c8 c9 c10 p0 p1 p2 = (0, c8, c9, c10) := by simp [m_mrest, eq_false c_2, eq_false c_3, eq_false c_5, eq_false c_7, eq_false c_8, eq_false c_9]
              rw [hm]
              have hP9 := hP.sub (ws' := [(h0, .inr (6, [.int u0, .ref a1, .int u2, .int u3, .ref a4, .ref a5, .ref a6, .ref a7, .ref a8, .ref a9, .ref a10, .ref a11, .int u12, .int u13, .ref a14, .ref a15, .ref a16, .int u17, .ref a18, .ref a19, .ref a20, .int u21, .ref a22, .ref a23, .int u24, .ref a25, .ref a26, .int u27, .int u28, .int u29, .int u30])), (a8, .inl (k8, 8, .inl c8)), (a9, .inl (k9, 80, .inl c9)), (a10, .inl (k10, 80, .inl c10))]) [0, 1, 2, 3] rfl
              have hD9 := hD.sub (ws' := [(h0, .inr (6, [.int u0, .ref a1, .int u2, .int u3, .ref a4, .ref a5, .ref a6, .ref a7, .ref a8, .ref a9, .ref a10, .ref a11, .int u12, .int u13, .ref a14, .ref a15, .ref a16, .int u17, .ref a18, .ref a19, .ref a20, .int u21, .ref a22, .ref a23, .int u24, .ref a25, .ref a26, .int u27, .int u28, .int u29, .int u30])), (a8, .inl (k8, 8, .inl c8)), (a9, .inl (k9, 80, .inl c9)), (a10, .inl (k10, 80, .inl c10))]) [0, 1, 2, 3] (by decide) rfl
              have hK9 := hK.sub (tys' := [(k8, .int), (k9, .int), (k10, .int)]) [0, 1, 2] rfl
              exact W.zret (v := 0) hx hb hr (rfl) (fun t ht hW => ⟨⟨_, (), rfl, rfl, by rw [ht]; exact hP9, va_K.moved hW.alike hK9, hD9⟩, hS.F ht⟩) hS.2.2 d_Md_rest_81
        · refine lv_iconst (v := 0) hx hb d_Md_rest_43 (by decide) ?_
          have hm : m_mrest u0 c8 c9 c10 p0 p1 p2 = (0, c8, c9, c10) := by simp [m_mrest, eq_false c_2, eq_false c_3, eq_false c_5, eq_true c_7]
          rw [hm]
          have hP9 := hP.sub (ws' := [(h0, .inr (6, [.int u0, .ref a1, .int u2, .int u3, .ref a4, .ref a5, .ref a6, .ref a7, .ref a8, .ref a9, .ref a10, .ref a11, .int u12, .int u13, .ref a14, .ref a15, .ref a16, .int u17, .ref a18, .ref a19, .ref a20, .int u21, .ref a22, .ref a23, .int u24, .ref a25, .ref a26, .int u27, .int u28, .int u29, .int u30])), (a8, .inl (k8, 8, .inl c8)), (a9, .inl (k9, 80, .inl c9)), (a10, .inl (k10, 80, .inl c10))]) [0, 1, 2, 3] rfl
          have hD9 := hD.sub (ws' := [(h0, .inr (6, [.int u0, .ref a1, .int u2, .int u3, .ref a4, .ref a5, .ref a6, .ref a7, .ref a8, .ref a9, .ref a10, .ref a11, .int u12, .int u13, .ref a14, .ref a15, .ref a16, .int u17, .ref a18, .ref a19, .ref a20, .int u21, .ref a22, .ref a23, .int u24, .ref a25, .ref a26, .int u27, .int u28, .int u29, .int u30])), (a8, .inl (k8, 8, .inl c8)), (a9, .inl (k9, 80, .inl c9)), (a10, .inl (k10, 80, .inl c10))]) [0, 1, 2, 3] (by decide) rfl
          have hK9 := hK.sub (tys' := [(k8, .int), (k9, .int), (k10, .int)]) [0, 1, 2] rfl
          exact W.zret (v := 0) hx hb hr (rfl) (fun t ht hW => ⟨⟨_, (), rfl, rfl, by rw [ht]; exact hP9, va_K.moved hW.alike hK9, hD9⟩, hS.F ht⟩) hS.2.2 d_Md_rest_44

set_option maxHeartbeats 4000000 in
set_option maxRecDepth 100000 in
theorem c_Md_unit (l : Launch) (D : va_G)  (h0 : Nat) (u0 : Int32) (a1 : Nat) (u2 : Int32) (u3 : Int32) (a4 : Nat) (a5 : Nat) (a6 : Nat) (a7 : Nat) (a8 : Nat) (a9 : Nat) (a10 : Nat) (a11 : Nat) (u12 : Int32) (u13 : Int32) (a14 : Nat) (a15 : Nat) (a16 : Nat) (u17 : Int32) (a18 : Nat) (a19 : Nat) (a20 : Nat) (u21 : Int32) (a22 : Nat) (a23 : Nat) (u24 : Int32) (a25 : Nat) (a26 : Nat) (u27 : Int32) (u28 : Int32) (u29 : Int32) (u30 : Int32) (k11 : ClassId) (c11 : Nat → Int32) (p0 : Int32) (sz : Nat) (hz0 : ¬ u12 < 0) (hz1 : u12 ≤ 600) : Met l y_Md_unit ws_Md_unit ({ frames := 1, cells := 0, slots := 0, locals := 25 }) (va_Pc [.ref h0, .int p0] (cx_pre D [(k11, .int)] ([(h0, .inr (6, [.int u0, .ref a1, .int u2, .int u3, .ref a4, .ref a5, .ref a6, .ref a7, .ref a8, .ref a9, .ref a10, .ref a11, .int u12, .int u13, .ref a14, .ref a15, .ref a16, .int u17, .ref a18, .ref a19, .ref a20, .int u21, .ref a22, .ref a23, .int u24, .ref a25, .ref a26, .int u27, .int u28, .int u29, .int u30])), (a11, .inl (k11, 600, .inl c11))]) sz)) (va_Qi (fun r9 _ => r9 = (m_munit u12 c11 p0).1) (fun (_ : Unit) t => cx_end D [(k11, .int)] (va_A ([(h0, .inr (6, [.int u0, .ref a1, .int u2, .int u3, .ref a4, .ref a5, .ref a6, .ref a7, .ref a8, .ref a9, .ref a10, .ref a11, .int u12, .int u13, .ref a14, .ref a15, .ref a16, .int u17, .ref a18, .ref a19, .ref a20, .int u21, .ref a22, .ref a23, .int u24, .ref a25, .ref a26, .int u27, .int u28, .int u29, .int u30])), (a11, .inl (k11, 600, .inl c11))]) sz) ([(h0, .inr (6, [.int u0, .ref a1, .int u2, .int u3, .ref a4, .ref a5, .ref a6, .ref a7, .ref a8, .ref a9, .ref a10, .ref a11, .int ((m_munit u12 c11 p0).2.1), .int u13, .ref a14, .ref a15, .ref a16, .int u17, .ref a18, .ref a19, .ref a20, .int u21, .ref a22, .ref a23, .int u24, .ref a25, .ref a26, .int u27, .int u28, .int u29, .int u30])), (a11, .inl (k11, 600, .inl ((m_munit u12 c11 p0).2.2)))]) t) (va_A ([(h0, .inr (6, [.int u0, .ref a1, .int u2, .int u3, .ref a4, .ref a5, .ref a6, .ref a7, .ref a8, .ref a9, .ref a10, .ref a11, .int u12, .int u13, .ref a14, .ref a15, .ref a16, .int u17, .ref a18, .ref a19, .ref a20, .int u21, .ref a22, .ref a23, .int u24, .ref a25, .ref a26, .int u27, .int u28, .int u29, .int u30])), (a11, .inl (k11, 600, .inl c11))]) sz)) 0 0 (va_A ([(h0, .inr (6, [.int u0, .ref a1, .int u2, .int u3, .ref a4, .ref a5, .ref a6, .ref a7, .ref a8, .ref a9, .ref a10, .ref a11, .int u12, .int u13, .ref a14, .ref a15, .ref a16, .int u17, .ref a18, .ref a19, .ref a20, .int u21, .ref a22, .ref a23, .int u24, .ref a25, .ref a26, .int u27, .int u28, .int u29, .int u30])), (a11, .inl (k11, 600, .inl c11))]) sz) := by
  refine Met.ofW (cc := b_Md_unit) (maxL := 2) (ret := (some .boolean)) (by decide) rfl ?_
  intro p e s m args below meth c s₁ B hml hv
  obtain ⟨rfl, hsz, hP, hK, hD0, hN, hO⟩ := hv
  have hx := B.exec
  have hb := B.bytes
  have hr := B.returns
  have hts := fun (w : Cond) (h : w ∈ cx_tbl) => atoms_spec (ws := ws_Md_unit) B.pre w (List.mem_cons_of_mem _ h)
  have hown : s.vm.findClass R_Md = some m.cls := findClass_of_methodNamed B.named
  have hlocks := B.notSynchronized
  subst hsz
  have hD := hD0.self (sz := s.heap.size)
  generalize hAe : va_A ([(h0, .inr (6, [.int u0, .ref a1, .int u2, .int u3, .ref a4, .ref a5, .ref a6, .ref a7, .ref a8, .ref a9, .ref a10, .ref a11, .int u12, .int u13, .ref a14, .ref a15, .ref a16, .int u17, .ref a18, .ref a19, .ref a20, .int u21, .ref a22, .ref a23, .int u24, .ref a25, .ref a26, .int u27, .int u28, .int u29, .int u30])), (a11, .inl (k11, 600, .inl c11))]) s.heap.size = A at hD hO ⊢
  have hA : ∀ q : Nat, s.heap.size ≤ q → A q := fun q h => by rw [← hAe]; exact Or.inr h
  have hS : va_S A s.heap s.heap [] := va_S.rf
  have hl := lv_entry ([.ref h0, .int p0]) (n := 2) (Nat.le_of_ble_eq_true rfl)
  rw [lg_entry_eq]
  generalize (lg_sl ([.ref h0, .int p0]) ++ List.replicate (2 - (lg_sl ([.ref h0, .int p0])).length) Slot.unset).toArray = ls at hl ⊢
  have hl : lv_has ls 2 [(0, .ref h0), (1, .int p0)] := hl
  refine lv_iload_n hx hb d_Md_unit_0 rfl (lv_at hl 1 rfl) ?_
  refine lv_i2l hx hb d_Md_unit_1 rfl ?_
  refine lv_lconst (v := 0) hx hb d_Md_unit_2 (by decide) ?_
  refine lv_ldc2 (v := 255) hx hb hown (hts _ cw_902) d_Md_unit_3 ?_
  have hPc := hP.sub (ws' := []) [] rfl
  have hDc := hD.sub (ws' := []) [] (by decide) rfl
  have hKc := hK.sub (tys' := []) [] rfl
  have hFc := va_free (wc := []) hD hS hA [] rfl
  refine vp_callSi (va_Run.run (va_runS (As := [.long p0.toInt64, .long 0, .long 255]) (rest := [])  ⟨hx, hb, hml, hown, hts⟩ (c_Md_isIn l D p0.toInt64 0 255 s.heap.size ) ⟨callB_of 3 hts cg_Md_isIn rfl rfl rfl (hts _ cw_10) (hts _ cw_837) (by decide +kernel) ⟨Nat.le_of_ble_eq_true rfl, Nat.le_of_ble_eq_true rfl⟩, hts _ cw_838⟩ (cx_preS [.long p0.toInt64, .long 0, .long 255] hPc hKc hDc hN hO hS hFc) rfl rfl hl.1 rfl (lv_room (Nat.le_of_ble_eq_true rfl)) d_Md_unit_6 ⟨Nat.le_of_ble_eq_true rfl, Nat.le_of_ble_eq_true rfl⟩)) (fun r z_1 => ?_)
  subst z_1
  refine lv_if_eq (tgt := 22) hx hb d_Md_unit_9 (by decide) (fun c_2 => ?_) (fun c_2 => ?_)
  · refine lv_iconst (v := 0) hx hb d_Md_unit_22 (by decide) ?_
    have hm : m_munit u12 c11 p0 = (0, u12, c11) := by simp [m_munit, eq_true c_2]
    rw [hm]
    have hP9 := hP.sub (ws' := [(h0, .inr (6, [.int u0, .ref a1, .int u2, .int u3, .ref a4, .ref a5, .ref a6, .ref a7, .ref a8, .ref a9, .ref a10, .ref a11, .int u12, .int u13, .ref a14, .ref a15, .ref a16, .int u17, .ref a18, .ref a19, .ref a20, .int u21, .ref a22, .ref a23, .int u24, .ref a25, .ref a26, .int u27, .int u28, .int u29, .int u30])), (a11, .inl (k11, 600, .inl c11))]) [0, 1] rfl
    have hD9 := hD.sub (ws' := [(h0, .inr (6, [.int u0, .ref a1, .int u2, .int u3, .ref a4, .ref a5, .ref a6, .ref a7, .ref a8, .ref a9, .ref a10, .ref a11, .int u12, .int u13, .ref a14, .ref a15, .ref a16, .int u17, .ref a18, .ref a19, .ref a20, .int u21, .ref a22, .ref a23, .int u24, .ref a25, .ref a26, .int u27, .int u28, .int u29, .int u30])), (a11, .inl (k11, 600, .inl c11))]) [0, 1] (by decide) rfl
    have hK9 := hK.sub (tys' := [(k11, .int)]) [0] rfl
    exact W.zret (v := 0) hx hb hr (rfl) (fun t ht hW => ⟨⟨_, (), rfl, rfl, by rw [ht]; exact hP9, va_K.moved hW.alike hK9, hD9⟩, hS.F ht⟩) hS.2.2 d_Md_unit_23
  · refine lv_aload_n hx hb d_Md_unit_12 rfl (lv_at hl 0 rfl) ?_
    refine va_get (D := D) (ci := 6) (v := .int u12) (C := R_Md) (T := T_Md) (N := 31) hx hb hts in_Md hown hK hP 0 rfl rfl 12 (by decide) (hts _ cw_746) (fun _ h9 => h9) rfl d_Md_unit_13 ?_
    refine lv_sipush (v := 600) hx hb d_Md_unit_16 (by decide) ?_
    refine lv_icmp_ne (tgt := 24) hx hb d_Md_unit_19 (by decide) (fun c_3 => ?_) (fun c_3 => ?_)
    · refine lv_aload_n hx hb d_Md_unit_24 rfl (lv_at hl 0 rfl) ?_
      refine va_get (D := D) (ci := 6) (v := .ref a11) (C := R_Md) (T := T_Md) (N := 31) hx hb hts in_Md hown hK hP 0 rfl rfl 11 (by decide) (hts _ cw_745) (fun _ h9 => h9) rfl d_Md_unit_25 ?_
      refine lv_aload_n hx hb d_Md_unit_28 rfl (lv_at hl 0 rfl) ?_
      refine va_get (D := D) (ci := 6) (v := .int u12) (C := R_Md) (T := T_Md) (N := 31) hx hb hts in_Md hown hK hP 0 rfl rfl 12 (by decide) (hts _ cw_746) (fun _ h9 => h9) rfl d_Md_unit_29 ?_
      refine lv_iload_n hx hb d_Md_unit_32 rfl (lv_at hl 1 rfl) ?_
      refine va_iast hx hb hK hP hD hS 1 0 rfl rfl (md_ixn (n := 600) (by decide) hz0 hz1 c_3) d_Md_unit_33 (fun H locs hP hD hS => ?_)
      have hP : va_P D classes ([(h0, .inr (6, [.int u0, .ref a1, .int u2, .int u3, .ref a4, .ref a5, .ref a6, .ref a7, .ref a8, .ref a9, .ref a10, .ref a11, .int u12, .int u13, .ref a14, .ref a15, .ref a16, .int u17, .ref a18, .ref a19, .ref a20, .int u21, .ref a22, .ref a23, .int u24, .ref a25, .ref a26, .int u27, .int u28, .int u29, .int u30])), (a11, .inl (k11, 600, .inl (upd c11 u12.toNatClampNeg p0)))]) H := hP
      have hD : va_D A ([(h0, .inr (6, [.int u0, .ref a1, .int u2, .int u3, .ref a4, .ref a5, .ref a6, .ref a7, .ref a8, .ref a9, .ref a10, .ref a11, .int u12, .int u13, .ref a14, .ref a15, .ref a16, .int u17, .ref a18, .ref a19, .ref a20, .int u21, .ref a22, .ref a23, .int u24, .ref a25, .ref a26, .int u27, .int u28, .int u29, .int u30])), (a11, .inl (k11, 600, .inl (upd c11 u12.toNatClampNeg p0)))]) := hD
      refine lv_aload_n hx hb d_Md_unit_34 rfl (lv_at hl 0 rfl) ?_
      refine lv_dup hx hb d_Md_unit_35 rfl ?_
      refine va_get (D := D) (ci := 6) (v := .int u12) (C := R_Md) (T := T_Md) (N := 31) hx hb hts in_Md hown hK hP 0 rfl rfl 12 (by decide) (hts _ cw_746) (fun _ h9 => h9) rfl d_Md_unit_36 ?_
      refine lv_iconst (v := 1) hx hb d_Md_unit_39 (by decide) ?_
      refine lv_iadd hx hb d_Md_unit_40 ?_
      refine va_put (D := D) (ci := 6) (v := .int (u12 + 1)) (ty := .int) (C := R_Md) (T := T_Md) (N := 31) hx hb hts in_Md ty_Md tyok_Md nm_Md hown hK hP hD hS 0 rfl rfl 12 (by decide) (hts _ cw_746) (fun _ h9 => h9) rfl (by decide +kernel) rfl rfl (Nat.le_of_ble_eq_true rfl) d_Md_unit_41 (fun H locs hP hD hS => ?_)
      have hP : va_P D classes ([(h0, .inr (6, [.int u0, .ref a1, .int u2, .int u3, .ref a4, .ref a5, .ref a6, .ref a7, .ref a8, .ref a9, .ref a10, .ref a11, .int (u12 + 1), .int u13, .ref a14, .ref a15, .ref a16, .int u17, .ref a18, .ref a19, .ref a20, .int u21, .ref a22, .ref a23, .int u24, .ref a25, .ref a26, .int u27, .int u28, .int u29, .int u30])), (a11, .inl (k11, 600, .inl (upd c11 u12.toNatClampNeg p0)))]) H := hP
      have hD : va_D A ([(h0, .inr (6, [.int u0, .ref a1, .int u2, .int u3, .ref a4, .ref a5, .ref a6, .ref a7, .ref a8, .ref a9, .ref a10, .ref a11, .int (u12 + 1), .int u13, .ref a14, .ref a15, .ref a16, .int u17, .ref a18, .ref a19, .ref a20, .int u21, .ref a22, .ref a23, .int u24, .ref a25, .ref a26, .int u27, .int u28, .int u29, .int u30])), (a11, .inl (k11, 600, .inl (upd c11 u12.toNatClampNeg p0)))]) := hD
      refine lv_iconst (v := 1) hx hb d_Md_unit_44 (by decide) ?_
      have hm : m_munit u12 c11 p0 = (1, u12 + 1, upd c11 u12.toNatClampNeg p0) := by simp [m_munit, eq_false c_2, eq_false c_3]
      rw [hm]
      have hP9 := hP.sub (ws' := [(h0, .inr (6, [.int u0, .ref a1, .int u2, .int u3, .ref a4, .ref a5, .ref a6, .ref a7, .ref a8, .ref a9, .ref a10, .ref a11, .int (u12 + 1), .int u13, .ref a14, .ref a15, .ref a16, .int u17, .ref a18, .ref a19, .ref a20, .int u21, .ref a22, .ref a23, .int u24, .ref a25, .ref a26, .int u27, .int u28, .int u29, .int u30])), (a11, .inl (k11, 600, .inl (upd c11 u12.toNatClampNeg p0)))]) [0, 1] rfl
      have hD9 := hD.sub (ws' := [(h0, .inr (6, [.int u0, .ref a1, .int u2, .int u3, .ref a4, .ref a5, .ref a6, .ref a7, .ref a8, .ref a9, .ref a10, .ref a11, .int (u12 + 1), .int u13, .ref a14, .ref a15, .ref a16, .int u17, .ref a18, .ref a19, .ref a20, .int u21, .ref a22, .ref a23, .int u24, .ref a25, .ref a26, .int u27, .int u28, .int u29, .int u30])), (a11, .inl (k11, 600, .inl (upd c11 u12.toNatClampNeg p0)))]) [0, 1] (by decide) rfl
      have hK9 := hK.sub (tys' := [(k11, .int)]) [0] rfl
      exact W.zret (v := 1) hx hb hr (rfl) (fun t ht hW => ⟨⟨_, (), rfl, rfl, by rw [ht]; exact hP9, va_K.moved hW.alike hK9, hD9⟩, hS.F ht⟩) hS.2.2 d_Md_unit_45
    · refine lv_iconst (v := 0) hx hb d_Md_unit_22 (by decide) ?_
      have hm : m_munit u12 c11 p0 = (0, u12, c11) := by simp [m_munit, eq_false c_2, eq_true c_3]
      rw [hm]
      have hP9 := hP.sub (ws' := [(h0, .inr (6, [.int u0, .ref a1, .int u2, .int u3, .ref a4, .ref a5, .ref a6, .ref a7, .ref a8, .ref a9, .ref a10, .ref a11, .int u12, .int u13, .ref a14, .ref a15, .ref a16, .int u17, .ref a18, .ref a19, .ref a20, .int u21, .ref a22, .ref a23, .int u24, .ref a25, .ref a26, .int u27, .int u28, .int u29, .int u30])), (a11, .inl (k11, 600, .inl c11))]) [0, 1] rfl
      have hD9 := hD.sub (ws' := [(h0, .inr (6, [.int u0, .ref a1, .int u2, .int u3, .ref a4, .ref a5, .ref a6, .ref a7, .ref a8, .ref a9, .ref a10, .ref a11, .int u12, .int u13, .ref a14, .ref a15, .ref a16, .int u17, .ref a18, .ref a19, .ref a20, .int u21, .ref a22, .ref a23, .int u24, .ref a25, .ref a26, .int u27, .int u28, .int u29, .int u30])), (a11, .inl (k11, 600, .inl c11))]) [0, 1] (by decide) rfl
      have hK9 := hK.sub (tys' := [(k11, .int)]) [0] rfl
      exact W.zret (v := 0) hx hb hr (rfl) (fun t ht hW => ⟨⟨_, (), rfl, rfl, by rw [ht]; exact hP9, va_K.moved hW.alike hK9, hD9⟩, hS.F ht⟩) hS.2.2 d_Md_unit_23

set_option maxHeartbeats 4000000 in
set_option maxRecDepth 100000 in
theorem c_Md_row (l : Launch) (D : va_G)  (h0 : Nat) (u0 : Int32) (a1 : Nat) (u2 : Int32) (u3 : Int32) (a4 : Nat) (a5 : Nat) (a6 : Nat) (a7 : Nat) (a8 : Nat) (a9 : Nat) (a10 : Nat) (a11 : Nat) (u12 : Int32) (u13 : Int32) (a14 : Nat) (a15 : Nat) (a16 : Nat) (u17 : Int32) (a18 : Nat) (a19 : Nat) (a20 : Nat) (u21 : Int32) (a22 : Nat) (a23 : Nat) (u24 : Int32) (a25 : Nat) (a26 : Nat) (u27 : Int32) (u28 : Int32) (u29 : Int32) (u30 : Int32) (k25 : ClassId) (k26 : ClassId) (c25 : Nat → Int32) (c26 : Nat → Int32) (p0 : Int32) (p1 : Int32) (sz : Nat) (hz0 : ¬ u24 < 0) (hz1 : u24 ≤ 6) : Met l y_Md_row ws_Md_row ({ frames := 1, cells := 0, slots := 0, locals := 25 }) (va_Pc [.ref h0, .int p0, .int p1] (cx_pre D [(k25, .int), (k26, .int)] ([(h0, .inr (6, [.int u0, .ref a1, .int u2, .int u3, .ref a4, .ref a5, .ref a6, .ref a7, .ref a8, .ref a9, .ref a10, .ref a11, .int u12, .int u13, .ref a14, .ref a15, .ref a16, .int u17, .ref a18, .ref a19, .ref a20, .int u21, .ref a22, .ref a23, .int u24, .ref a25, .ref a26, .int u27, .int u28, .int u29, .int u30])), (a25, .inl (k25, 6, .inl c25)), (a26, .inl (k26, 6, .inl c26))]) sz)) (va_Qi (fun r9 _ => r9 = (m_mrow u24 c25 c26 p0 p1).1) (fun (_ : Unit) t => cx_end D [(k25, .int), (k26, .int)] (va_A ([(h0, .inr (6, [.int u0, .ref a1, .int u2, .int u3, .ref a4, .ref a5, .ref a6, .ref a7, .ref a8, .ref a9, .ref a10, .ref a11, .int u12, .int u13, .ref a14, .ref a15, .ref a16, .int u17, .ref a18, .ref a19, .ref a20, .int u21, .ref a22, .ref a23, .int u24, .ref a25, .ref a26, .int u27, .int u28, .int u29, .int u30])), (a25, .inl (k25, 6, .inl c25)), (a26, .inl (k26, 6, .inl c26))]) sz) ([(h0, .inr (6, [.int u0, .ref a1, .int u2, .int u3, .ref a4, .ref a5, .ref a6, .ref a7, .ref a8, .ref a9, .ref a10, .ref a11, .int u12, .int u13, .ref a14, .ref a15, .ref a16, .int u17, .ref a18, .ref a19, .ref a20, .int u21, .ref a22, .ref a23, .int ((m_mrow u24 c25 c26 p0 p1).2.1), .ref a25, .ref a26, .int u27, .int u28, .int u29, .int u30])), (a25, .inl (k25, 6, .inl ((m_mrow u24 c25 c26 p0 p1).2.2.1))), (a26, .inl (k26, 6, .inl ((m_mrow u24 c25 c26 p0 p1).2.2.2)))]) t) (va_A ([(h0, .inr (6, [.int u0, .ref a1, .int u2, .int u3, .ref a4, .ref a5, .ref a6, .ref a7, .ref a8, .ref a9, .ref a10, .ref a11, .int u12, .int u13, .ref a14, .ref a15, .ref a16, .int u17, .ref a18, .ref a19, .ref a20, .int u21, .ref a22, .ref a23, .int u24, .ref a25, .ref a26, .int u27, .int u28, .int u29, .int u30])), (a25, .inl (k25, 6, .inl c25)), (a26, .inl (k26, 6, .inl c26))]) sz)) 0 0 (va_A ([(h0, .inr (6, [.int u0, .ref a1, .int u2, .int u3, .ref a4, .ref a5, .ref a6, .ref a7, .ref a8, .ref a9, .ref a10, .ref a11, .int u12, .int u13, .ref a14, .ref a15, .ref a16, .int u17, .ref a18, .ref a19, .ref a20, .int u21, .ref a22, .ref a23, .int u24, .ref a25, .ref a26, .int u27, .int u28, .int u29, .int u30])), (a25, .inl (k25, 6, .inl c25)), (a26, .inl (k26, 6, .inl c26))]) sz) := by
  refine Met.ofW (cc := b_Md_row) (maxL := 3) (ret := (some .boolean)) (by decide) rfl ?_
  intro p e s m args below meth c s₁ B hml hv
  obtain ⟨rfl, hsz, hP, hK, hD0, hN, hO⟩ := hv
  have hx := B.exec
  have hb := B.bytes
  have hr := B.returns
  have hts := fun (w : Cond) (h : w ∈ cx_tbl) => atoms_spec (ws := ws_Md_row) B.pre w (List.mem_cons_of_mem _ h)
  have hown : s.vm.findClass R_Md = some m.cls := findClass_of_methodNamed B.named
  have hlocks := B.notSynchronized
  subst hsz
  have hD := hD0.self (sz := s.heap.size)
  generalize hAe : va_A ([(h0, .inr (6, [.int u0, .ref a1, .int u2, .int u3, .ref a4, .ref a5, .ref a6, .ref a7, .ref a8, .ref a9, .ref a10, .ref a11, .int u12, .int u13, .ref a14, .ref a15, .ref a16, .int u17, .ref a18, .ref a19, .ref a20, .int u21, .ref a22, .ref a23, .int u24, .ref a25, .ref a26, .int u27, .int u28, .int u29, .int u30])), (a25, .inl (k25, 6, .inl c25)), (a26, .inl (k26, 6, .inl c26))]) s.heap.size = A at hD hO ⊢
  have hA : ∀ q : Nat, s.heap.size ≤ q → A q := fun q h => by rw [← hAe]; exact Or.inr h
  have hS : va_S A s.heap s.heap [] := va_S.rf
  have hl := lv_entry ([.ref h0, .int p0, .int p1]) (n := 3) (Nat.le_of_ble_eq_true rfl)
  rw [lg_entry_eq]
  generalize (lg_sl ([.ref h0, .int p0, .int p1]) ++ List.replicate (3 - (lg_sl ([.ref h0, .int p0, .int p1])).length) Slot.unset).toArray = ls at hl ⊢
  have hl : lv_has ls 3 [(0, .ref h0), (1, .int p0), (2, .int p1)] := hl
  refine lv_aload_n hx hb d_Md_row_0 rfl (lv_at hl 0 rfl) ?_
  refine va_get (D := D) (ci := 6) (v := .int u24) (C := R_Md) (T := T_Md) (N := 31) hx hb hts in_Md hown hK hP 0 rfl rfl 24 (by decide) (hts _ cw_758) (fun _ h9 => h9) rfl d_Md_row_1 ?_
  refine lv_bipush (v := 6) hx hb d_Md_row_4 (by decide) ?_
  refine lv_icmp_eq (tgt := 55) hx hb d_Md_row_6 (by decide) (fun c_1 => ?_) (fun c_1 => ?_)
  · refine lv_iconst (v := 0) hx hb d_Md_row_55 (by decide) ?_
    have hm : m_mrow u24 c25 c26 p0 p1 = (0, u24, c25, c26) := by simp [m_mrow, eq_true c_1]
    rw [hm]
    have hP9 := hP.sub (ws' := [(h0, .inr (6, [.int u0, .ref a1, .int u2, .int u3, .ref a4, .ref a5, .ref a6, .ref a7, .ref a8, .ref a9, .ref a10, .ref a11, .int u12, .int u13, .ref a14, .ref a15, .ref a16, .int u17, .ref a18, .ref a19, .ref a20, .int u21, .ref a22, .ref a23, .int u24, .ref a25, .ref a26, .int u27, .int u28, .int u29, .int u30])), (a25, .inl (k25, 6, .inl c25)), (a26, .inl (k26, 6, .inl c26))]) [0, 1, 2] rfl
    have hD9 := hD.sub (ws' := [(h0, .inr (6, [.int u0, .ref a1, .int u2, .int u3, .ref a4, .ref a5, .ref a6, .ref a7, .ref a8, .ref a9, .ref a10, .ref a11, .int u12, .int u13, .ref a14, .ref a15, .ref a16, .int u17, .ref a18, .ref a19, .ref a20, .int u21, .ref a22, .ref a23, .int u24, .ref a25, .ref a26, .int u27, .int u28, .int u29, .int u30])), (a25, .inl (k25, 6, .inl c25)), (a26, .inl (k26, 6, .inl c26))]) [0, 1, 2] (by decide) rfl
    have hK9 := hK.sub (tys' := [(k25, .int), (k26, .int)]) [0, 1] rfl
    exact W.zret (v := 0) hx hb hr (rfl) (fun t ht hW => ⟨⟨_, (), rfl, rfl, by rw [ht]; exact hP9, va_K.moved hW.alike hK9, hD9⟩, hS.F ht⟩) hS.2.2 d_Md_row_56
  · refine lv_iload_n hx hb d_Md_row_9 rfl (lv_at hl 1 rfl) ?_
    refine lv_i2l hx hb d_Md_row_10 rfl ?_
    refine lv_lconst (v := 0) hx hb d_Md_row_11 (by decide) ?_
    refine lv_ldc2 (v := 10000) hx hb hown (hts _ cw_858) d_Md_row_12 ?_
    have hPc := hP.sub (ws' := []) [] rfl
    have hDc := hD.sub (ws' := []) [] (by decide) rfl
    have hKc := hK.sub (tys' := []) [] rfl
    have hFc := va_free (wc := []) hD hS hA [] rfl
    refine vp_callSi (va_Run.run (va_runS (As := [.long p0.toInt64, .long 0, .long 10000]) (rest := [])  ⟨hx, hb, hml, hown, hts⟩ (c_Md_isIn l D p0.toInt64 0 10000 s.heap.size ) ⟨callB_of 3 hts cg_Md_isIn rfl rfl rfl (hts _ cw_10) (hts _ cw_837) (by decide +kernel) ⟨Nat.le_of_ble_eq_true rfl, Nat.le_of_ble_eq_true rfl⟩, hts _ cw_838⟩ (cx_preS [.long p0.toInt64, .long 0, .long 10000] hPc hKc hDc hN hO hS hFc) rfl rfl hl.1 rfl (lv_room (Nat.le_of_ble_eq_true rfl)) d_Md_row_15 ⟨Nat.le_of_ble_eq_true rfl, Nat.le_of_ble_eq_true rfl⟩)) (fun r z_2 => ?_)
    subst z_2
    refine lv_if_eq (tgt := 55) hx hb d_Md_row_18 (by decide) (fun c_3 => ?_) (fun c_3 => ?_)
    · refine lv_iconst (v := 0) hx hb d_Md_row_55 (by decide) ?_
      have hm : m_mrow u24 c25 c26 p0 p1 = (0, u24, c25, c26) := by simp [m_mrow, eq_false c_1, eq_true c_3]
      rw [hm]
      have hP9 := hP.sub (ws' := [(h0, .inr (6, [.int u0, .ref a1, .int u2, .int u3, .ref a4, .ref a5, .ref a6, .ref a7, .ref a8, .ref a9, .ref a10, .ref a11, .int u12, .int u13, .ref a14, .ref a15, .ref a16, .int u17, .ref a18, .ref a19, .ref a20, .int u21, .ref a22, .ref a23, .int u24, .ref a25, .ref a26, .int u27, .int u28, .int u29, .int u30])), (a25, .inl (k25, 6, .inl c25)), (a26, .inl (k26, 6, .inl c26))]) [0, 1, 2] rfl
      have hD9 := hD.sub (ws' := [(h0, .inr (6, [.int u0, .ref a1, .int u2, .int u3, .ref a4, .ref a5, .ref a6, .ref a7, .ref a8, .ref a9, .ref a10, .ref a11, .int u12, .int u13, .ref a14, .ref a15, .ref a16, .int u17, .ref a18, .ref a19, .ref a20, .int u21, .ref a22, .ref a23, .int u24, .ref a25, .ref a26, .int u27, .int u28, .int u29, .int u30])), (a25, .inl (k25, 6, .inl c25)), (a26, .inl (k26, 6, .inl c26))]) [0, 1, 2] (by decide) rfl
      have hK9 := hK.sub (tys' := [(k25, .int), (k26, .int)]) [0, 1] rfl
      exact W.zret (v := 0) hx hb hr (rfl) (fun t ht hW => ⟨⟨_, (), rfl, rfl, by rw [ht]; exact hP9, va_K.moved hW.alike hK9, hD9⟩, hS.F ht⟩) hS.2.2 d_Md_row_56
    · refine lv_iload_n hx hb d_Md_row_21 rfl (lv_at hl 2 rfl) ?_
      refine lv_i2l hx hb d_Md_row_22 rfl ?_
      refine lv_lconst (v := 0) hx hb d_Md_row_23 (by decide) ?_
      refine lv_ldc2 (v := 1000) hx hb hown (hts _ cw_981) d_Md_row_24 ?_
      have hPc := hP.sub (ws' := []) [] rfl
      have hDc := hD.sub (ws' := []) [] (by decide) rfl
      have hKc := hK.sub (tys' := []) [] rfl
      have hFc := va_free (wc := []) hD hS hA [] rfl
      refine vp_callSi (va_Run.run (va_runS (As := [.long p1.toInt64, .long 0, .long 1000]) (rest := [])  ⟨hx, hb, hml, hown, hts⟩ (c_Md_isIn l D p1.toInt64 0 1000 s.heap.size ) ⟨callB_of 3 hts cg_Md_isIn rfl rfl rfl (hts _ cw_10) (hts _ cw_837) (by decide +kernel) ⟨Nat.le_of_ble_eq_true rfl, Nat.le_of_ble_eq_true rfl⟩, hts _ cw_838⟩ (cx_preS [.long p1.toInt64, .long 0, .long 1000] hPc hKc hDc hN hO hS hFc) rfl rfl hl.1 rfl (lv_room (Nat.le_of_ble_eq_true rfl)) d_Md_row_27 ⟨Nat.le_of_ble_eq_true rfl, Nat.le_of_ble_eq_true rfl⟩)) (fun r z_4 => ?_)
      subst z_4
      refine lv_if_eq (tgt := 55) hx hb d_Md_row_30 (by decide) (fun c_5 => ?_) (fun c_5 => ?_)
      · refine lv_iconst (v := 0) hx hb d_Md_row_55 (by decide) ?_
        have hm : m_mrow u24 c25 c26 p0 p1 = (0, u24, c25, c26) := by simp [m_mrow, eq_false c_1, eq_false c_3, eq_true c_5]
        rw [hm]
        have hP9 := hP.sub (ws' := [(h0, .inr (6, [.int u0, .ref a1, .int u2, .int u3, .ref a4, .ref a5, .ref a6, .ref a7, .ref a8, .ref a9, .ref a10, .ref a11, .int u12, .int u13, .ref a14, .ref a15, .ref a16, .int u17, .ref a18, .ref a19, .ref a20, .int u21, .ref a22, .ref a23, .int u24, .ref a25, .ref a26, .int u27, .int u28, .int u29, .int u30])), (a25, .inl (k25, 6, .inl c25)), (a26, .inl (k26, 6, .inl c26))]) [0, 1, 2] rfl
        have hD9 := hD.sub (ws' := [(h0, .inr (6, [.int u0, .ref a1, .int u2, .int u3, .ref a4, .ref a5, .ref a6, .ref a7, .ref a8, .ref a9, .ref a10, .ref a11, .int u12, .int u13, .ref a14, .ref a15, .ref a16, .int u17, .ref a18, .ref a19, .ref a20, .int u21, .ref a22, .ref a23, .int u24, .ref a25, .ref a26, .int u27, .int u28, .int u29, .int u30])), (a25, .inl (k25, 6, .inl c25)), (a26, .inl (k26, 6, .inl c26))]) [0, 1, 2] (by decide) rfl
        have hK9 := hK.sub (tys' := [(k25, .int), (k26, .int)]) [0, 1] rfl
        exact W.zret (v := 0) hx hb hr (rfl) (fun t ht hW => ⟨⟨_, (), rfl, rfl, by rw [ht]; exact hP9, va_K.moved hW.alike hK9, hD9⟩, hS.F ht⟩) hS.2.2 d_Md_row_56
      · refine lv_aload_n hx hb d_Md_row_33 rfl (lv_at hl 0 rfl) ?_
        refine va_get (D := D) (ci := 6) (v := .int u24) (C := R_Md) (T := T_Md) (N := 31) hx hb hts in_Md hown hK hP 0 rfl rfl 24 (by decide) (hts _ cw_758) (fun _ h9 => h9) rfl d_Md_row_34 ?_
        refine lv_if_le (tgt := 57) hx hb d_Md_row_37 (by decide) (fun c_6 => ?_) (fun c_6 => ?_)
        · refine lv_aload_n hx hb d_Md_row_57 rfl (lv_at hl 0 rfl) ?_
          refine va_get (D := D) (ci := 6) (v := .ref a25) (C := R_Md) (T := T_Md) (N := 31) hx hb hts in_Md hown hK hP 0 rfl rfl 25 (by decide) (hts _ cw_759) (fun _ h9 => h9) rfl d_Md_row_58 ?_
          refine lv_aload_n hx hb d_Md_row_61 rfl (lv_at hl 0 rfl) ?_
          refine va_get (D := D) (ci := 6) (v := .int u24) (C := R_Md) (T := T_Md) (N := 31) hx hb hts in_Md hown hK hP 0 rfl rfl 24 (by decide) (hts _ cw_758) (fun _ h9 => h9) rfl d_Md_row_62 ?_
          refine lv_iload_n hx hb d_Md_row_65 rfl (lv_at hl 1 rfl) ?_
          refine va_iast hx hb hK hP hD hS 1 0 rfl rfl (md_ixn (n := 6) (by decide) hz0 hz1 c_1) d_Md_row_66 (fun H locs hP hD hS => ?_)
          have hP : va_P D classes ([(h0, .inr (6, [.int u0, .ref a1, .int u2, .int u3, .ref a4, .ref a5, .ref a6, .ref a7, .ref a8, .ref a9, .ref a10, .ref a11, .int u12, .int u13, .ref a14, .ref a15, .ref a16, .int u17, .ref a18, .ref a19, .ref a20, .int u21, .ref a22, .ref a23, .int u24, .ref a25, .ref a26, .int u27, .int u28, .int u29, .int u30])), (a25, .inl (k25, 6, .inl (upd c25 u24.toNatClampNeg p0))), (a26, .inl (k26, 6, .inl c26))]) H := hP
          have hD : va_D A ([(h0, .inr (6, [.int u0, .ref a1, .int u2, .int u3, .ref a4, .ref a5, .ref a6, .ref a7, .ref a8, .ref a9, .ref a10, .ref a11, .int u12, .int u13, .ref a14, .ref a15, .ref a16, .int u17, .ref a18, .ref a19, .ref a20, .int u21, .ref a22, .ref a23, .int u24, .ref a25, .ref a26, .int u27, .int u28, .int u29, .int u30])), (a25, .inl (k25, 6, .inl (upd c25 u24.toNatClampNeg p0))), (a26, .inl (k26, 6, .inl c26))]) := hD
          refine lv_aload_n hx hb d_Md_row_67 rfl (lv_at hl 0 rfl) ?_
          refine va_get (D := D) (ci := 6) (v := .ref a26) (C := R_Md) (T := T_Md) (N := 31) hx hb hts in_Md hown hK hP 0 rfl rfl 26 (by decide) (hts _ cw_760) (fun _ h9 => h9) rfl d_Md_row_68 ?_
          refine lv_aload_n hx hb d_Md_row_71 rfl (lv_at hl 0 rfl) ?_
          refine va_get (D := D) (ci := 6) (v := .int u24) (C := R_Md) (T := T_Md) (N := 31) hx hb hts in_Md hown hK hP 0 rfl rfl 24 (by decide) (hts _ cw_758) (fun _ h9 => h9) rfl d_Md_row_72 ?_
          refine lv_iload_n hx hb d_Md_row_75 rfl (lv_at hl 2 rfl) ?_
          refine va_iast hx hb hK hP hD hS 2 1 rfl rfl (md_ixn (n := 6) (by decide) hz0 hz1 c_1) d_Md_row_76 (fun H locs hP hD hS => ?_)
          have hP : va_P D classes ([(h0, .inr (6, [.int u0, .ref a1, .int u2, .int u3, .ref a4, .ref a5, .ref a6, .ref a7, .ref a8, .ref a9, .ref a10, .ref a11, .int u12, .int u13, .ref a14, .ref a15, .ref a16, .int u17, .ref a18, .ref a19, .ref a20, .int u21, .ref a22, .ref a23, .int u24, .ref a25, .ref a26, .int u27, .int u28, .int u29, .int u30])), (a25, .inl (k25, 6, .inl (upd c25 u24.toNatClampNeg p0))), (a26, .inl (k26, 6, .inl (upd c26 u24.toNatClampNeg p1)))]) H := hP
          have hD : va_D A ([(h0, .inr (6, [.int u0, .ref a1, .int u2, .int u3, .ref a4, .ref a5, .ref a6, .ref a7, .ref a8, .ref a9, .ref a10, .ref a11, .int u12, .int u13, .ref a14, .ref a15, .ref a16, .int u17, .ref a18, .ref a19, .ref a20, .int u21, .ref a22, .ref a23, .int u24, .ref a25, .ref a26, .int u27, .int u28, .int u29, .int u30])), (a25, .inl (k25, 6, .inl (upd c25 u24.toNatClampNeg p0))), (a26, .inl (k26, 6, .inl (upd c26 u24.toNatClampNeg p1)))]) := hD
          refine lv_aload_n hx hb d_Md_row_77 rfl (lv_at hl 0 rfl) ?_
          refine lv_dup hx hb d_Md_row_78 rfl ?_
          refine va_get (D := D) (ci := 6) (v := .int u24) (C := R_Md) (T := T_Md) (N := 31) hx hb hts in_Md hown hK hP 0 rfl rfl 24 (by decide) (hts _ cw_758) (fun _ h9 => h9) rfl d_Md_row_79 ?_
          refine lv_iconst (v := 1) hx hb d_Md_row_82 (by decide) ?_
          refine lv_iadd hx hb d_Md_row_83 ?_
          refine va_put (D := D) (ci := 6) (v := .int (u24 + 1)) (ty := .int) (C := R_Md) (T := T_Md) (N := 31) hx hb hts in_Md ty_Md tyok_Md nm_Md hown hK hP hD hS 0 rfl rfl 24 (by decide) (hts _ cw_758) (fun _ h9 => h9) rfl (by decide +kernel) rfl rfl (Nat.le_of_ble_eq_true rfl) d_Md_row_84 (fun H locs hP hD hS => ?_)
          have hP : va_P D classes ([(h0, .inr (6, [.int u0, .ref a1, .int u2, .int u3, .ref a4, .ref a5, .ref a6, .ref a7, .ref a8, .ref a9, .ref a10, .ref a11, .int u12, .int u13, .ref a14, .ref a15, .ref a16, .int u17, .ref a18, .ref a19, .ref a20, .int u21, .ref a22, .ref a23, .int (u24 + 1), .ref a25, .ref a26, .int u27, .int u28, .int u29, .int u30])), (a25, .inl (k25, 6, .inl (upd c25 u24.toNatClampNeg p0))), (a26, .inl (k26, 6, .inl (upd c26 u24.toNatClampNeg p1)))]) H := hP
          have hD : va_D A ([(h0, .inr (6, [.int u0, .ref a1, .int u2, .int u3, .ref a4, .ref a5, .ref a6, .ref a7, .ref a8, .ref a9, .ref a10, .ref a11, .int u12, .int u13, .ref a14, .ref a15, .ref a16, .int u17, .ref a18, .ref a19, .ref a20, .int u21, .ref a22, .ref a23, .int (u24 + 1), .ref a25, .ref a26, .int u27, .int u28, .int u29, .int u30])), (a25, .inl (k25, 6, .inl (upd c25 u24.toNatClampNeg p0))), (a26, .inl (k26, 6, .inl (upd c26 u24.toNatClampNeg p1)))]) := hD
          refine lv_iconst (v := 1) hx hb d_Md_row_87 (by decide) ?_
          have hm : m_mrow u24 c25 c26 p0 p1 = (1, u24 + 1, upd c25 u24.toNatClampNeg p0, upd c26 u24.toNatClampNeg p1) := by simp [m_mrow, eq_false c_1, eq_false c_3, eq_false c_5, eq_true c_6]
          rw [hm]
          have hP9 := hP.sub (ws' := [(h0, .inr (6, [.int u0, .ref a1, .int u2, .int u3, .ref a4, .ref a5, .ref a6, .ref a7, .ref a8, .ref a9, .ref a10, .ref a11, .int u12, .int u13, .ref a14, .ref a15, .ref a16, .int u17, .ref a18, .ref a19, .ref a20, .int u21, .ref a22, .ref a23, .int (u24 + 1), .ref a25, .ref a26, .int u27, .int u28, .int u29, .int u30])), (a25, .inl (k25, 6, .inl (upd c25 u24.toNatClampNeg p0))), (a26, .inl (k26, 6, .inl (upd c26 u24.toNatClampNeg p1)))]) [0, 1, 2] rfl
          have hD9 := hD.sub (ws' := [(h0, .inr (6, [.int u0, .ref a1, .int u2, .int u3, .ref a4, .ref a5, .ref a6, .ref a7, .ref a8, .ref a9, .ref a10, .ref a11, .int u12, .int u13, .ref a14, .ref a15, .ref a16, .int u17, .ref a18, .ref a19, .ref a20, .int u21, .ref a22, .ref a23, .int (u24 + 1), .ref a25, .ref a26, .int u27, .int u28, .int u29, .int u30])), (a25, .inl (k25, 6, .inl (upd c25 u24.toNatClampNeg p0))), (a26, .inl (k26, 6, .inl (upd c26 u24.toNatClampNeg p1)))]) [0, 1, 2] (by decide) rfl
          have hK9 := hK.sub (tys' := [(k25, .int), (k26, .int)]) [0, 1] rfl
          exact W.zret (v := 1) hx hb hr (rfl) (fun t ht hW => ⟨⟨_, (), rfl, rfl, by rw [ht]; exact hP9, va_K.moved hW.alike hK9, hD9⟩, hS.F ht⟩) hS.2.2 d_Md_row_88
        · refine lv_iload_n hx hb d_Md_row_40 rfl (lv_at hl 1 rfl) ?_
          refine lv_aload_n hx hb d_Md_row_41 rfl (lv_at hl 0 rfl) ?_
          refine va_get (D := D) (ci := 6) (v := .ref a25) (C := R_Md) (T := T_Md) (N := 31) hx hb hts in_Md hown hK hP 0 rfl rfl 25 (by decide) (hts _ cw_759) (fun _ h9 => h9) rfl d_Md_row_42 ?_
          refine lv_aload_n hx hb d_Md_row_45 rfl (lv_at hl 0 rfl) ?_
          refine va_get (D := D) (ci := 6) (v := .int u24) (C := R_Md) (T := T_Md) (N := 31) hx hb hts in_Md hown hK hP 0 rfl rfl 24 (by decide) (hts _ cw_758) (fun _ h9 => h9) rfl d_Md_row_46 ?_
          refine lv_iconst (v := 1) hx hb d_Md_row_49 (by decide) ?_
          refine lv_isub hx hb d_Md_row_50 ?_
          refine va_iald hx hb hK hP 1 0 rfl rfl (ix_pred2 (n := 6) (by decide) (md_n1 c_6) (Int32.not_lt.mpr hz1)) d_Md_row_51 ?_
          refine lv_icmp_gt (tgt := 57) hx hb d_Md_row_52 (by decide) (fun c_7 => ?_) (fun c_7 => ?_)
          · refine lv_aload_n hx hb d_Md_row_57 rfl (lv_at hl 0 rfl) ?_
            refine va_get (D := D) (ci := 6) (v := .ref a25) (C := R_Md) (T := T_Md) (N := 31) hx hb hts in_Md hown hK hP 0 rfl rfl 25 (by decide) (hts _ cw_759) (fun _ h9 => h9) rfl d_Md_row_58 ?_
            refine lv_aload_n hx hb d_Md_row_61 rfl (lv_at hl 0 rfl) ?_
            refine va_get (D := D) (ci := 6) (v := .int u24) (C := R_Md) (T := T_Md) (N := 31) hx hb hts in_Md hown hK hP 0 rfl rfl 24 (by decide) (hts _ cw_758) (fun _ h9 => h9) rfl d_Md_row_62 ?_
            refine lv_iload_n hx hb d_Md_row_65 rfl (lv_at hl 1 rfl) ?_
            refine va_iast hx hb hK hP hD hS 1 0 rfl rfl (md_ixn (n := 6) (by decide) hz0 hz1 c_1) d_Md_row_66 (fun H locs hP hD hS => ?_)
            have hP : va_P D classes ([(h0, .inr (6, [.int u0, .ref a1, .int u2, .int u3, .ref a4, .ref a5, .ref a6, .ref a7, .ref a8, .ref a9, .ref a10, .ref a11, .int u12, .int u13, .ref a14, .ref a15, .ref a16, .int u17, .ref a18, .ref a19, .ref a20, .int u21, .ref a22, .ref a23, .int u24, .ref a25, .ref a26, .int u27, .int u28, .int u29, .int u30])), (a25, .inl (k25, 6, .inl (upd c25 u24.toNatClampNeg p0))), (a26, .inl (k26, 6, .inl c26))]) H := hP
            have hD : va_D A ([(h0, .inr (6, [.int u0, .ref a1, .int u2, .int u3, .ref a4, .ref a5, .ref a6, .ref a7, .ref a8, .ref a9, .ref a10, .ref a11, .int u12, .int u13, .ref a14, .ref a15, .ref a16, .int u17, .ref a18, .ref a19, .ref a20, .int u21, .ref a22, .ref a23, .int u24, .ref a25, .ref a26, .int u27, .int u28, .int u29, .int u30])), (a25, .inl (k25, 6, .inl (upd c25 u24.toNatClampNeg p0))), (a26, .inl (k26, 6, .inl c26))]) := hD
            refine lv_aload_n hx hb d_Md_row_67 rfl (lv_at hl 0 rfl) ?_
            refine va_get (D := D) (ci := 6) (v := .ref a26) (C := R_Md) (T := T_Md) (N := 31) hx hb hts in_Md hown hK hP 0 rfl rfl 26 (by decide) (hts _ cw_760) (fun _ h9 => h9) rfl d_Md_row_68 ?_
            refine lv_aload_n hx hb d_Md_row_71 rfl (lv_at hl 0 rfl) ?_
            refine va_get (D := D) (ci := 6) (v := .int u24) (C := R_Md) (T := T_Md) (N := 31) hx hb hts in_Md hown hK hP 0 rfl rfl 24 (by decide) (hts _ cw_758) (fun _ h9 => h9) rfl d_Md_row_72 ?_
            refine lv_iload_n hx hb d_Md_row_75 rfl (lv_at hl 2 rfl) ?_
            refine va_iast hx hb hK hP hD hS 2 1 rfl rfl (md_ixn (n := 6) (by decide) hz0 hz1 c_1) d_Md_row_76 (fun H locs hP hD hS => ?_)
            have hP : va_P D classes ([(h0, .inr (6, [.int u0, .ref a1, .int u2, .int u3, .ref a4, .ref a5, .ref a6, .ref a7, .ref a8, .ref a9, .ref a10, .ref a11, .int u12, .int u13, .ref a14, .ref a15, .ref a16, .int u17, .ref a18, .ref a19, .ref a20, .int u21, .ref a22, .ref a23, .int u24, .ref a25, .ref a26, .int u27, .int u28, .int u29, .int u30])), (a25, .inl (k25, 6, .inl (upd c25 u24.toNatClampNeg p0))), (a26, .inl (k26, 6, .inl (upd c26 u24.toNatClampNeg p1)))]) H := hP
            have hD : va_D A ([(h0, .inr (6, [.int u0, .ref a1, .int u2, .int u3, .ref a4, .ref a5, .ref a6, .ref a7, .ref a8, .ref a9, .ref a10, .ref a11, .int u12, .int u13, .ref a14, .ref a15, .ref a16, .int u17, .ref a18, .ref a19, .ref a20, .int u21, .ref a22, .ref a23, .int u24, .ref a25, .ref a26, .int u27, .int u28, .int u29, .int u30])), (a25, .inl (k25, 6, .inl (upd c25 u24.toNatClampNeg p0))), (a26, .inl (k26, 6, .inl (upd c26 u24.toNatClampNeg p1)))]) := hD
            refine lv_aload_n hx hb d_Md_row_77 rfl (lv_at hl 0 rfl) ?_
            refine lv_dup hx hb d_Md_row_78 rfl ?_
            refine va_get (D := D) (ci := 6) (v := .int u24) (C := R_Md) (T := T_Md) (N := 31) hx hb hts in_Md hown hK hP 0 rfl rfl 24 (by decide) (hts _ cw_758) (fun _ h9 => h9) rfl d_Md_row_79 ?_
            refine lv_iconst (v := 1) hx hb d_Md_row_82 (by decide) ?_
            refine lv_iadd hx hb d_Md_row_83 ?_
            refine va_put (D := D) (ci := 6) (v := .int (u24 + 1)) (ty := .int) (C := R_Md) (T := T_Md) (N := 31) hx hb hts in_Md ty_Md tyok_Md nm_Md hown hK hP hD hS 0 rfl rfl 24 (by decide) (hts _ cw_758) (fun _ h9 => h9) rfl (by decide +kernel) rfl rfl (Nat.le_of_ble_eq_true rfl) d_Md_row_84 (fun H locs hP hD hS => ?_)
            have hP : va_P D classes ([(h0, .inr (6, [.int u0, .ref a1, .int u2, .int u3, .ref a4, .ref a5, .ref a6, .ref a7, .ref a8, .ref a9, .ref a10, .ref a11, .int u12, .int u13, .ref a14, .ref a15, .ref a16, .int u17, .ref a18, .ref a19, .ref a20, .int u21, .ref a22, .ref a23, .int (u24 + 1), .ref a25, .ref a26, .int u27, .int u28, .int u29, .int u30])), (a25, .inl (k25, 6, .inl (upd c25 u24.toNatClampNeg p0))), (a26, .inl (k26, 6, .inl (upd c26 u24.toNatClampNeg p1)))]) H := hP
            have hD : va_D A ([(h0, .inr (6, [.int u0, .ref a1, .int u2, .int u3, .ref a4, .ref a5, .ref a6, .ref a7, .ref a8, .ref a9, .ref a10, .ref a11, .int u12, .int u13, .ref a14, .ref a15, .ref a16, .int u17, .ref a18, .ref a19, .ref a20, .int u21, .ref a22, .ref a23, .int (u24 + 1), .ref a25, .ref a26, .int u27, .int u28, .int u29, .int u30])), (a25, .inl (k25, 6, .inl (upd c25 u24.toNatClampNeg p0))), (a26, .inl (k26, 6, .inl (upd c26 u24.toNatClampNeg p1)))]) := hD
            refine lv_iconst (v := 1) hx hb d_Md_row_87 (by decide) ?_
            have hm : m_mrow u24 c25 c26 p0 p1 = (1, u24 + 1, upd c25 u24.toNatClampNeg p0, upd c26 u24.toNatClampNeg p1) := by simp [m_mrow, eq_false c_1, eq_false c_3, eq_false c_5, eq_false c_6, eq_true c_7]
            rw [hm]
            have hP9 := hP.sub (ws' := [(h0, .inr (6, [.int u0, .ref a1, .int u2, .int u3, .ref a4, .ref a5, .ref a6, .ref a7, .ref a8, .ref a9, .ref a10, .ref a11, .int u12, .int u13, .ref a14, .ref a15, .ref a16, .int u17, .ref a18, .ref a19, .ref a20, .int u21, .ref a22, .ref a23, .int (u24 + 1), .ref a25, .ref a26, .int u27, .int u28, .int u29, .int u30])), (a25, .inl (k25, 6, .inl (upd c25 u24.toNatClampNeg p0))), (a26, .inl (k26, 6, .inl (upd c26 u24.toNatClampNeg p1)))]) [0, 1, 2] rfl
            have hD9 := hD.sub (ws' := [(h0, .inr (6, [.int u0, .ref a1, .int u2, .int u3, .ref a4, .ref a5, .ref a6, .ref a7, .ref a8, .ref a9, .ref a10, .ref a11, .int u12, .int u13, .ref a14, .ref a15, .ref a16, .int u17, .ref a18, .ref a19, .ref a20, .int u21, .ref a22, .ref a23, .int (u24 + 1), .ref a25, .ref a26, .int u27, .int u28, .int u29, .int u30])), (a25, .inl (k25, 6, .inl (upd c25 u24.toNatClampNeg p0))), (a26, .inl (k26, 6, .inl (upd c26 u24.toNatClampNeg p1)))]) [0, 1, 2] (by decide) rfl
            have hK9 := hK.sub (tys' := [(k25, .int), (k26, .int)]) [0, 1] rfl
            exact W.zret (v := 1) hx hb hr (rfl) (fun t ht hW => ⟨⟨_, (), rfl, rfl, by rw [ht]; exact hP9, va_K.moved hW.alike hK9, hD9⟩, hS.F ht⟩) hS.2.2 d_Md_row_88
          · refine lv_iconst (v := 0) hx hb d_Md_row_55 (by decide) ?_
            have hm : m_mrow u24 c25 c26 p0 p1 = (0, u24, c25, c26) := by simp [m_mrow, eq_false c_1, eq_false c_3, eq_false c_5, eq_false c_6, eq_false c_7]
            rw [hm]
            have hP9 := hP.sub (ws' := [(h0, .inr (6, [.int u0, .ref a1, .int u2, .int u3, .ref a4, .ref a5, .ref a6, .ref a7, .ref a8, .ref a9, .ref a10, .ref a11, .int u12, .int u13, .ref a14, .ref a15, .ref a16, .int u17, .ref a18, .ref a19, .ref a20, .int u21, .ref a22, .ref a23, .int u24, .ref a25, .ref a26, .int u27, .int u28, .int u29, .int u30])), (a25, .inl (k25, 6, .inl c25)), (a26, .inl (k26, 6, .inl c26))]) [0, 1, 2] rfl
            have hD9 := hD.sub (ws' := [(h0, .inr (6, [.int u0, .ref a1, .int u2, .int u3, .ref a4, .ref a5, .ref a6, .ref a7, .ref a8, .ref a9, .ref a10, .ref a11, .int u12, .int u13, .ref a14, .ref a15, .ref a16, .int u17, .ref a18, .ref a19, .ref a20, .int u21, .ref a22, .ref a23, .int u24, .ref a25, .ref a26, .int u27, .int u28, .int u29, .int u30])), (a25, .inl (k25, 6, .inl c25)), (a26, .inl (k26, 6, .inl c26))]) [0, 1, 2] (by decide) rfl
            have hK9 := hK.sub (tys' := [(k25, .int), (k26, .int)]) [0, 1] rfl
            exact W.zret (v := 0) hx hb hr (rfl) (fun t ht hW => ⟨⟨_, (), rfl, rfl, by rw [ht]; exact hP9, va_K.moved hW.alike hK9, hD9⟩, hS.F ht⟩) hS.2.2 d_Md_row_56

set_option maxHeartbeats 4000000 in
set_option maxRecDepth 100000 in
theorem c_Md_packOf (l : Launch) (D : va_G)  (h0 : Nat) (u0 : Int32) (a1 : Nat) (u2 : Int32) (u3 : Int32) (a4 : Nat) (a5 : Nat) (a6 : Nat) (a7 : Nat) (a8 : Nat) (a9 : Nat) (a10 : Nat) (a11 : Nat) (u12 : Int32) (u13 : Int32) (a14 : Nat) (a15 : Nat) (a16 : Nat) (u17 : Int32) (a18 : Nat) (a19 : Nat) (a20 : Nat) (u21 : Int32) (a22 : Nat) (a23 : Nat) (u24 : Int32) (a25 : Nat) (a26 : Nat) (u27 : Int32) (u28 : Int32) (u29 : Int32) (u30 : Int32) (k22 : ClassId) (c22 : Nat → Int32) (p0 : Int32) (sz : Nat) (hc : u0 ≤ 8) : Met l y_Md_packOf ws_Md_packOf ({ frames := 1, cells := 0, slots := 0, locals := 21 }) (va_Pc [.ref h0, .int p0] (cx_pre D [(k22, .int)] ([(h0, .inr (6, [.int u0, .ref a1, .int u2, .int u3, .ref a4, .ref a5, .ref a6, .ref a7, .ref a8, .ref a9, .ref a10, .ref a11, .int u12, .int u13, .ref a14, .ref a15, .ref a16, .int u17, .ref a18, .ref a19, .ref a20, .int u21, .ref a22, .ref a23, .int u24, .ref a25, .ref a26, .int u27, .int u28, .int u29, .int u30])), (a22, .inl (k22, 8, .inl c22))]) sz)) (vp_Si (fun r9 => r9 = m_mpackOf u0 c22 p0)) 0 0 (fun _ => False) := by
  refine Met.ofW (cc := b_Md_packOf) (maxL := 2) (ret := (some .int)) (by decide) rfl ?_
  intro p e s m args below meth c s₁ B hml hv
  obtain ⟨rfl, hsz, hP, hK, hD0, hN, hO⟩ := hv
  have hx := B.exec
  have hb := B.bytes
  have hr := B.returns
  have hts := fun (w : Cond) (h : w ∈ cx_tbl) => atoms_spec (ws := ws_Md_packOf) B.pre w (List.mem_cons_of_mem _ h)
  have hown : s.vm.findClass R_Md = some m.cls := findClass_of_methodNamed B.named
  have hlocks := B.notSynchronized
  subst hsz
  have hD := hD0.self (sz := s.heap.size)
  generalize hAe : va_A ([(h0, .inr (6, [.int u0, .ref a1, .int u2, .int u3, .ref a4, .ref a5, .ref a6, .ref a7, .ref a8, .ref a9, .ref a10, .ref a11, .int u12, .int u13, .ref a14, .ref a15, .ref a16, .int u17, .ref a18, .ref a19, .ref a20, .int u21, .ref a22, .ref a23, .int u24, .ref a25, .ref a26, .int u27, .int u28, .int u29, .int u30])), (a22, .inl (k22, 8, .inl c22))]) s.heap.size = A at hD hO
  have hA : ∀ q : Nat, s.heap.size ≤ q → A q := fun q h => by rw [← hAe]; exact Or.inr h
  have hS : va_S A s.heap s.heap [] := va_S.rf
  have hl := lv_entry ([.ref h0, .int p0]) (n := 2) (Nat.le_of_ble_eq_true rfl)
  rw [lg_entry_eq]
  generalize (lg_sl ([.ref h0, .int p0]) ++ List.replicate (2 - (lg_sl ([.ref h0, .int p0])).length) Slot.unset).toArray = ls at hl ⊢
  have hl : lv_has ls 2 [(0, .ref h0), (1, .int p0)] := hl
  refine lv_aload_n hx hb d_Md_packOf_0 rfl (lv_at hl 0 rfl) ?_
  refine lv_iload_n hx hb d_Md_packOf_1 rfl (lv_at hl 1 rfl) ?_
  have hPc := hP.sub (ws' := [(h0, .inr (6, [.int u0, .ref a1, .int u2, .int u3, .ref a4, .ref a5, .ref a6, .ref a7, .ref a8, .ref a9, .ref a10, .ref a11, .int u12, .int u13, .ref a14, .ref a15, .ref a16, .int u17, .ref a18, .ref a19, .ref a20, .int u21, .ref a22, .ref a23, .int u24, .ref a25, .ref a26, .int u27, .int u28, .int u29, .int u30]))]) [0] rfl
  have hDc := hD.sub (ws' := [(h0, .inr (6, [.int u0, .ref a1, .int u2, .int u3, .ref a4, .ref a5, .ref a6, .ref a7, .ref a8, .ref a9, .ref a10, .ref a11, .int u12, .int u13, .ref a14, .ref a15, .ref a16, .int u17, .ref a18, .ref a19, .ref a20, .int u21, .ref a22, .ref a23, .int u24, .ref a25, .ref a26, .int u27, .int u28, .int u29, .int u30]))]) [0] (by decide) rfl
  have hKc := hK.sub (tys' := []) [] rfl
  have hFc := va_free (wc := [(h0, .inr (6, [.int u0, .ref a1, .int u2, .int u3, .ref a4, .ref a5, .ref a6, .ref a7, .ref a8, .ref a9, .ref a10, .ref a11, .int u12, .int u13, .ref a14, .ref a15, .ref a16, .int u17, .ref a18, .ref a19, .ref a20, .int u21, .ref a22, .ref a23, .int u24, .ref a25, .ref a26, .int u27, .int u28, .int u29, .int u30]))]) hD hS hA [0] rfl
  refine vp_callSi (va_Run.run (va_runV (As := [.int p0]) (rest := [])  ⟨hx, hb, hml, hown, hts⟩ (c_Md_isCell l D h0 u0 a1 u2 u3 a4 a5 a6 a7 a8 a9 a10 a11 u12 u13 a14 a15 a16 u17 a18 a19 a20 u21 a22 a23 u24 a25 a26 u27 u28 u29 u30 p0 s.heap.size ) ⟨callB_of 1 hts cg_Md_isCell rfl rfl rfl (hts _ cw_10) (hts _ cw_844) (by decide +kernel) ⟨Nat.le_of_ble_eq_true rfl, Nat.le_of_ble_eq_true rfl⟩, hts _ cw_846, hts _ cs_16⟩ (cx_preV (C := R_Md) [.int p0] hPc hKc hDc hN hO hS hFc (ci := 6) (q0 := 0) rfl rfl rfl) rfl rfl hl.1 rfl (lv_room (Nat.le_of_ble_eq_true rfl)) d_Md_packOf_2 ⟨Nat.le_of_ble_eq_true rfl, Nat.le_of_ble_eq_true rfl⟩)) (fun r z_1 => ?_)
  subst z_1
  refine lv_if_eq (tgt := 17) hx hb d_Md_packOf_5 (by decide) (fun c_2 => ?_) (fun c_2 => ?_)
  · refine lv_iconst (v := (-1)) hx hb d_Md_packOf_17 (by decide) ?_
    exact W.iret (v := (-1)) hx hb hr (fun t ht hW => ⟨_, rfl, by simp [m_mpackOf, eq_true c_2], ht⟩) (fun q h => by cases h) d_Md_packOf_18
  · refine lv_aload_n hx hb d_Md_packOf_8 rfl (lv_at hl 0 rfl) ?_
    refine va_get (D := D) (ci := 6) (v := .ref a22) (C := R_Md) (T := T_Md) (N := 31) hx hb hts in_Md hown hK hP 0 rfl rfl 22 (by decide) (hts _ cw_756) (fun _ h9 => h9) rfl d_Md_packOf_9 ?_
    refine lv_iload_n hx hb d_Md_packOf_12 rfl (lv_at hl 1 rfl) ?_
    refine va_iald hx hb hK hP 1 0 rfl rfl (md_ix c_2 hc) d_Md_packOf_13 ?_
    refine lv_goto (tgt := 18) hx hb d_Md_packOf_14 (by decide) ?_
    exact W.iret (v := c22 p0.toNatClampNeg) hx hb hr (fun t ht hW => ⟨_, rfl, by simp [m_mpackOf, eq_false c_2], ht⟩) (fun q h => by cases h) d_Md_packOf_18
