-- the reference's functions: words, numbers, what a word does
def m_skip (c11 : Nat → Int32) (u12 : Int32) : Nat → Int32 → Int32
  | 0, x => x
  | n + 1, x => if u12 ≤ x then x else if m_blank (c11 x.toNatClampNeg) = 0 then x else m_skip c11 u12 n (x + 1)
def m_wend (c11 : Nat → Int32) (u12 : Int32) : Nat → Int32 → Int32
  | 0, x => x
  | n + 1, x => if u12 ≤ x then x else if m_blank (c11 x.toNatClampNeg) = 0 then m_wend c11 u12 n (x + 1) else x
def m_next (c11 : Nat → Int32) (u12 u28 : Int32) : Int32 × Int32 × Int32 :=
  (if u12 ≤ m_skip c11 u12 ((u12.toInt - u28.toInt).toNat + 1) u28 then 0 else 1, m_skip c11 u12 ((u12.toInt - u28.toInt).toNat + 1) u28,
   m_wend c11 u12 ((u12.toInt - (m_skip c11 u12 ((u12.toInt - u28.toInt).toNat + 1) u28).toInt).toNat + 1) (m_skip c11 u12 ((u12.toInt - u28.toInt).toNat + 1) u28))
def m_mcls (c11 : Nat → Int32) (u27 u28 : Int32) : Int32 := if u28 - u27 = 5 ∧ c11 u27.toNatClampNeg = 99 ∧ c11 (u27 + 1).toNatClampNeg = 108 ∧ c11 (u27 + 2).toNatClampNeg = 97 ∧ c11 (u27 + 3).toNatClampNeg = 115 ∧ c11 (u27 + 4).toNatClampNeg = 115 then 1 else 0
def m_mlet (c11 : Nat → Int32) (u27 u28 : Int32) : Int32 := if u28 - u27 = 1 ∧ (c11 u27.toNatClampNeg = 113 ∨ c11 u27.toNatClampNeg = 118 ∨ c11 u27.toNatClampNeg = 114) then 1 else 0
def m_numR (c11 : Nat → Int32) (u28 : Int32) : Nat → Int32 → Int32 → Int32
  | 0, _, v => v
  | n + 1, x, v => if u28 ≤ x ∨ v < 0 then v else m_numR c11 u28 n (x + 1) (if c11 x.toNatClampNeg < 48 ∨ 57 < c11 x.toNatClampNeg then (-10000000) else 10 * v + c11 x.toNatClampNeg - 48)
def m_numberAt (c11 : Nat → Int32) (u27 u28 : Int32) : Int32 :=
  if c11 u27.toNatClampNeg = 45 then
    (if u28 - (u27 + 1) < 1 ∨ 6 < u28 - (u27 + 1) then (if m_numR c11 u28 ((u28.toInt - (u27 + 1).toInt).toNat + 1) (u27 + 1) (-10000000) < 0 then m_numR c11 u28 ((u28.toInt - (u27 + 1).toInt).toNat + 1) (u27 + 1) (-10000000) else -m_numR c11 u28 ((u28.toInt - (u27 + 1).toInt).toNat + 1) (u27 + 1) (-10000000))
     else (if m_numR c11 u28 ((u28.toInt - (u27 + 1).toInt).toNat + 1) (u27 + 1) 0 < 0 then m_numR c11 u28 ((u28.toInt - (u27 + 1).toInt).toNat + 1) (u27 + 1) 0 else -m_numR c11 u28 ((u28.toInt - (u27 + 1).toInt).toNat + 1) (u27 + 1) 0))
  else (if u28 - u27 < 1 ∨ 6 < u28 - u27 then m_numR c11 u28 ((u28.toInt - u27.toInt).toNat + 1) u27 (-10000000) else m_numR c11 u28 ((u28.toInt - u27.toInt).toNat + 1) u27 0)
theorem ix_mono {x : Int32} {n m : Nat} (h : n ≤ m) (hx : vp_in x n) : vp_in x m := fun q => hx (q.imp id (fun z => Nat.le_trans h z))
theorem md_3 {u : Int32} (h : vp_in u 200) {k : Nat} (hk : k < 3) : vp_in (3 * u + nI k) 600 := by
  obtain ⟨j, hj, e⟩ := vp_in_of h (by decide)
  rw [e, show (3 : Int32) = nI 3 from rfl, pk_mul, nI_add]
  exact vp_in_nI (by omega) (by decide)
theorem md_30 {u : Int32} (h : vp_in u 200) : vp_in (3 * u) 600 := by
  obtain ⟨j, hj, e⟩ := vp_in_of h (by decide)
  rw [e, show (3 : Int32) = nI 3 from rfl, pk_mul]
  exact vp_in_nI (by omega) (by decide)
def m_take (c11 c18 c19 c20 : Nat → Int32) (u17 u21 u27 u28 p0 p1 : Int32) : Int32 × Int32 × Int32 × (Nat → Int32) × (Nat → Int32) × (Nat → Int32) :=
  if p0 = 1 then (2, u17 + 1, u21, upd c18 u17.toNatClampNeg p1, upd c19 u17.toNatClampNeg u21, c20)
  else if p0 = 3 then (4, u17, u21, c18, c19, upd c20 (3 * u21 + 1).toNatClampNeg p1)
  else if p0 = 4 then (2, u17, u21 + 1, c18, c19, upd c20 (3 * u21 + 2).toNatClampNeg p1)
  else if m_mcls c11 u27 u28 = 0 then (3, u17, u21, c18, c19, upd c20 (3 * u21).toNatClampNeg (c11 u27.toNatClampNeg)) else (1, u17, u21, c18, c19, c20)
set_option maxHeartbeats 4000000 in
set_option maxRecDepth 100000 in
theorem c_Md_isBlank (l : Launch) (D : va_G)  (p0 : Int32) (sz : Nat)  : Met l y_Md_isBlank ws_Md_isBlank ({ frames := 0, cells := 0, slots := 0, locals := 0 }) (va_Pc [.int p0] (cx_pre D [] ([]) sz)) (vp_Si (fun r9 => r9 = m_blank p0)) 0 0 (fun _ => False) := by
  refine Met.ofW (cc := b_Md_isBlank) (maxL := 1) (ret := (some .boolean)) (by decide) rfl ?_
  intro p e s m args below meth c s₁ B hml hv
  obtain ⟨rfl, hsz, hP, hK, hD0, hN, hO⟩ := hv
  have hx := B.exec
  have hb := B.bytes
  have hr := B.returns
  have hts := fun (w : Cond) (h : w ∈ cx_tbl) => atoms_spec (ws := ws_Md_isBlank) B.pre w (List.mem_cons_of_mem _ h)
  have hown : s.vm.findClass R_Md = some m.cls := findClass_of_methodNamed B.named
  have hlocks := B.notSynchronized
  subst hsz
  have hD := hD0.self (sz := s.heap.size)
  generalize hAe : va_A ([]) s.heap.size = A at hD hO
  have hA : ∀ q : Nat, s.heap.size ≤ q → A q := fun q h => by rw [← hAe]; exact Or.inr h
  have hS : va_S A s.heap s.heap [] := va_S.rf
  have hl := lv_entry ([.int p0]) (n := 1) (Nat.le_of_ble_eq_true rfl)
  rw [lg_entry_eq]
  generalize (lg_sl ([.int p0]) ++ List.replicate (1 - (lg_sl ([.int p0])).length) Slot.unset).toArray = ls at hl ⊢
  have hl : lv_has ls 1 [(0, .int p0)] := hl
  refine lv_iload_n hx hb d_Md_isBlank_0 rfl (lv_at hl 0 rfl) ?_
  refine lv_bipush (v := 32) hx hb d_Md_isBlank_1 (by decide) ?_
  refine lv_icmp_eq (tgt := 12) hx hb d_Md_isBlank_3 (by decide) (fun c_1 => ?_) (fun c_1 => ?_)
  · refine lv_iconst (v := 1) hx hb d_Md_isBlank_12 (by decide) ?_
    refine lv_goto (tgt := 17) hx hb d_Md_isBlank_13 (by decide) ?_
    exact W.zret (v := 1) hx hb hr (rfl) (fun t ht hW => ⟨_, rfl, by simp [m_blank, eq_true c_1], ht⟩) (fun q h => by cases h) d_Md_isBlank_17
  · refine lv_iload_n hx hb d_Md_isBlank_6 rfl (lv_at hl 0 rfl) ?_
    refine lv_bipush (v := 10) hx hb d_Md_isBlank_7 (by decide) ?_
    refine lv_icmp_ne (tgt := 16) hx hb d_Md_isBlank_9 (by decide) (fun c_2 => ?_) (fun c_2 => ?_)
    · refine lv_iconst (v := 0) hx hb d_Md_isBlank_16 (by decide) ?_
      exact W.zret (v := 0) hx hb hr (rfl) (fun t ht hW => ⟨_, rfl, by simp [m_blank, eq_false c_1, eq_false c_2], ht⟩) (fun q h => by cases h) d_Md_isBlank_17
    · refine lv_iconst (v := 1) hx hb d_Md_isBlank_12 (by decide) ?_
      refine lv_goto (tgt := 17) hx hb d_Md_isBlank_13 (by decide) ?_
      exact W.zret (v := 1) hx hb hr (rfl) (fun t ht hW => ⟨_, rfl, by simp [m_blank, eq_false c_1, eq_true c_2], ht⟩) (fun q h => by cases h) d_Md_isBlank_17

set_option maxHeartbeats 4000000 in
set_option maxRecDepth 100000 in
theorem c_Md_next (l : Launch) (D : va_G)  (h0 : Nat) (u0 : Int32) (a1 : Nat) (u2 : Int32) (u3 : Int32) (a4 : Nat) (a5 : Nat) (a6 : Nat) (a7 : Nat) (a8 : Nat) (a9 : Nat) (a10 : Nat) (a11 : Nat) (u12 : Int32) (u13 : Int32) (a14 : Nat) (a15 : Nat) (a16 : Nat) (u17 : Int32) (a18 : Nat) (a19 : Nat) (a20 : Nat) (u21 : Int32) (a22 : Nat) (a23 : Nat) (u24 : Int32) (a25 : Nat) (a26 : Nat) (u27 : Int32) (u28 : Int32) (u29 : Int32) (u30 : Int32) (k11 : ClassId) (c11 : Nat → Int32) (sz : Nat) (he0 : ¬ u28 < 0) (hz6 : u12 ≤ 600) : Met l y_Md_next ws_Md_next ({ frames := 1, cells := 0, slots := 0, locals := 20 }) (va_Pc [.ref h0] (cx_pre D [(k11, .int)] ([(h0, .inr (6, [.int u0, .ref a1, .int u2, .int u3, .ref a4, .ref a5, .ref a6, .ref a7, .ref a8, .ref a9, .ref a10, .ref a11, .int u12, .int u13, .ref a14, .ref a15, .ref a16, .int u17, .ref a18, .ref a19, .ref a20, .int u21, .ref a22, .ref a23, .int u24, .ref a25, .ref a26, .int u27, .int u28, .int u29, .int u30])), (a11, .inl (k11, 600, .inl c11))]) sz)) (va_Qi (fun r9 _ => r9 = (m_next c11 u12 u28).1) (fun (_ : Unit) t => cx_end D [(k11, .int)] (va_A ([(h0, .inr (6, [.int u0, .ref a1, .int u2, .int u3, .ref a4, .ref a5, .ref a6, .ref a7, .ref a8, .ref a9, .ref a10, .ref a11, .int u12, .int u13, .ref a14, .ref a15, .ref a16, .int u17, .ref a18, .ref a19, .ref a20, .int u21, .ref a22, .ref a23, .int u24, .ref a25, .ref a26, .int u27, .int u28, .int u29, .int u30])), (a11, .inl (k11, 600, .inl c11))]) sz) ([(h0, .inr (6, [.int u0, .ref a1, .int u2, .int u3, .ref a4, .ref a5, .ref a6, .ref a7, .ref a8, .ref a9, .ref a10, .ref a11, .int u12, .int u13, .ref a14, .ref a15, .ref a16, .int u17, .ref a18, .ref a19, .ref a20, .int u21, .ref a22, .ref a23, .int u24, .ref a25, .ref a26, .int ((m_next c11 u12 u28).2.1), .int ((m_next c11 u12 u28).2.2), .int u29, .int u30])), (a11, .inl (k11, 600, .inl c11))]) t) (va_A ([(h0, .inr (6, [.int u0, .ref a1, .int u2, .int u3, .ref a4, .ref a5, .ref a6, .ref a7, .ref a8, .ref a9, .ref a10, .ref a11, .int u12, .int u13, .ref a14, .ref a15, .ref a16, .int u17, .ref a18, .ref a19, .ref a20, .int u21, .ref a22, .ref a23, .int u24, .ref a25, .ref a26, .int u27, .int u28, .int u29, .int u30])), (a11, .inl (k11, 600, .inl c11))]) sz)) 0 0 (va_A ([(h0, .inr (6, [.int u0, .ref a1, .int u2, .int u3, .ref a4, .ref a5, .ref a6, .ref a7, .ref a8, .ref a9, .ref a10, .ref a11, .int u12, .int u13, .ref a14, .ref a15, .ref a16, .int u17, .ref a18, .ref a19, .ref a20, .int u21, .ref a22, .ref a23, .int u24, .ref a25, .ref a26, .int u27, .int u28, .int u29, .int u30])), (a11, .inl (k11, 600, .inl c11))]) sz) := by
  refine Met.ofW (cc := b_Md_next) (maxL := 1) (ret := (some .boolean)) (by decide) rfl ?_
  intro p e s m args below meth c s₁ B hml hv
  obtain ⟨rfl, hsz, hP, hK, hD0, hN, hO⟩ := hv
  have hx := B.exec
  have hb := B.bytes
  have hr := B.returns
  have hts := fun (w : Cond) (h : w ∈ cx_tbl) => atoms_spec (ws := ws_Md_next) B.pre w (List.mem_cons_of_mem _ h)
  have hown : s.vm.findClass R_Md = some m.cls := findClass_of_methodNamed B.named
  have hlocks := B.notSynchronized
  subst hsz
  have hD := hD0.self (sz := s.heap.size)
  generalize hAe : va_A ([(h0, .inr (6, [.int u0, .ref a1, .int u2, .int u3, .ref a4, .ref a5, .ref a6, .ref a7, .ref a8, .ref a9, .ref a10, .ref a11, .int u12, .int u13, .ref a14, .ref a15, .ref a16, .int u17, .ref a18, .ref a19, .ref a20, .int u21, .ref a22, .ref a23, .int u24, .ref a25, .ref a26, .int u27, .int u28, .int u29, .int u30])), (a11, .inl (k11, 600, .inl c11))]) s.heap.size = A at hD hO ⊢
  have hA : ∀ q : Nat, s.heap.size ≤ q → A q := fun q h => by rw [← hAe]; exact Or.inr h
  have hS : va_S A s.heap s.heap [] := va_S.rf
  have hl := lv_entry ([.ref h0]) (n := 1) (Nat.le_of_ble_eq_true rfl)
  rw [lg_entry_eq]
  generalize (lg_sl ([.ref h0]) ++ List.replicate (1 - (lg_sl ([.ref h0])).length) Slot.unset).toArray = ls at hl ⊢
  have hl : lv_has ls 1 [(0, .ref h0)] := hl
  refine cx_q (fun Q hQ => ?_)
  refine lv_aload_n hx hb d_Md_next_0 rfl (lv_at hl 0 rfl) ?_
  refine lv_aload_n hx hb d_Md_next_1 rfl (lv_at hl 0 rfl) ?_
  refine va_get (D := D) (ci := 6) (v := .int u28) (C := R_Md) (T := T_Md) (N := 31) hx hb hts in_Md hown hK hP 0 rfl rfl 28 (by decide) (hts _ cw_762) (fun _ h9 => h9) rfl d_Md_next_2 ?_
  refine va_put (D := D) (ci := 6) (v := .int u28) (ty := .int) (C := R_Md) (T := T_Md) (N := 31) hx hb hts in_Md ty_Md tyok_Md nm_Md hown hK hP hD hS 0 rfl rfl 27 (by decide) (hts _ cw_761) (fun _ h9 => h9) rfl (by decide +kernel) rfl rfl (Nat.le_of_ble_eq_true rfl) d_Md_next_5 (fun H locs hP hD hS => ?_)
  have hP : va_P D classes ([(h0, .inr (6, [.int u0, .ref a1, .int u2, .int u3, .ref a4, .ref a5, .ref a6, .ref a7, .ref a8, .ref a9, .ref a10, .ref a11, .int u12, .int u13, .ref a14, .ref a15, .ref a16, .int u17, .ref a18, .ref a19, .ref a20, .int u21, .ref a22, .ref a23, .int u24, .ref a25, .ref a26, .int u28, .int u28, .int u29, .int u30])), (a11, .inl (k11, 600, .inl c11))]) H := hP
  have hD : va_D A ([(h0, .inr (6, [.int u0, .ref a1, .int u2, .int u3, .ref a4, .ref a5, .ref a6, .ref a7, .ref a8, .ref a9, .ref a10, .ref a11, .int u12, .int u13, .ref a14, .ref a15, .ref a16, .int u17, .ref a18, .ref a19, .ref a20, .int u21, .ref a22, .ref a23, .int u24, .ref a25, .ref a26, .int u28, .int u28, .int u29, .int u30])), (a11, .inl (k11, 600, .inl c11))]) := hD
  have loop_1 : ∀ (n : Nat) (x : Int32) (hn : (u12.toInt - x.toInt).toNat < n) (hg : m_skip c11 u12 ((u12.toInt - u28.toInt).toNat + 1) u28 = m_skip c11 u12 n x) (hx0 : ¬ x < 0) (H : Heap) (locs : List Loc) (hP : va_P D classes ([(h0, .inr (6, [.int u0, .ref a1, .int u2, .int u3, .ref a4, .ref a5, .ref a6, .ref a7, .ref a8, .ref a9, .ref a10, .ref a11, .int u12, .int u13, .ref a14, .ref a15, .ref a16, .int u17, .ref a18, .ref a19, .ref a20, .int u21, .ref a22, .ref a23, .int u24, .ref a25, .ref a26, .int x, .int u28, .int u29, .int u30])), (a11, .inl (k11, 600, .inl c11))]) H) (hD : va_D A ([(h0, .inr (6, [.int u0, .ref a1, .int u2, .int u3, .ref a4, .ref a5, .ref a6, .ref a7, .ref a8, .ref a9, .ref a10, .ref a11, .int u12, .int u13, .ref a14, .ref a15, .ref a16, .int u17, .ref a18, .ref a19, .ref a20, .int u21, .ref a22, .ref a23, .int u24, .ref a25, .ref a26, .int x, .int u28, .int u29, .int u30])), (a11, .inl (k11, 600, .inl c11))])) (hS : va_S A s.heap H locs) (ls : Array Slot) (hl : lv_has ls 1 [(0, .ref h0)]), W p l e ({ frames := 1, cells := 0, slots := 0, locals := 20 }) s m [.ref h0].toArray below meth c H locs 0 0 Q (F0 m 8 ls []) := by
    intro n
    induction n with
    | zero =>
      intro x hn hg hx0 H locs hP hD hS ls hl
      exact absurd hn (Nat.not_lt_zero _)
    | succ n ih_8 =>
      intro x hn hg hx0 H locs hP hD hS ls hl
      refine lv_aload_n hx hb d_Md_next_8 rfl (lv_at hl 0 rfl) ?_
      refine va_get (D := D) (ci := 6) (v := .int x) (C := R_Md) (T := T_Md) (N := 31) hx hb hts in_Md hown hK hP 0 rfl rfl 27 (by decide) (hts _ cw_761) (fun _ h9 => h9) rfl d_Md_next_9 ?_
      refine lv_aload_n hx hb d_Md_next_12 rfl (lv_at hl 0 rfl) ?_
      refine va_get (D := D) (ci := 6) (v := .int u12) (C := R_Md) (T := T_Md) (N := 31) hx hb hts in_Md hown hK hP 0 rfl rfl 12 (by decide) (hts _ cw_746) (fun _ h9 => h9) rfl d_Md_next_13 ?_
      refine lv_icmp_ge (tgt := 47) hx hb d_Md_next_16 (by decide) (fun c_2 => ?_) (fun c_2 => ?_)
      · have hsk : m_skip c11 u12 ((u12.toInt - u28.toInt).toNat + 1) u28 = x := hg.trans (by rw [m_skip]; simp [eq_true c_2])
        refine lv_aload_n hx hb d_Md_next_47 rfl (lv_at hl 0 rfl) ?_
        refine lv_aload_n hx hb d_Md_next_48 rfl (lv_at hl 0 rfl) ?_
        refine va_get (D := D) (ci := 6) (v := .int x) (C := R_Md) (T := T_Md) (N := 31) hx hb hts in_Md hown hK hP 0 rfl rfl 27 (by decide) (hts _ cw_761) (fun _ h9 => h9) rfl d_Md_next_49 ?_
        refine va_put (D := D) (ci := 6) (v := .int x) (ty := .int) (C := R_Md) (T := T_Md) (N := 31) hx hb hts in_Md ty_Md tyok_Md nm_Md hown hK hP hD hS 0 rfl rfl 28 (by decide) (hts _ cw_762) (fun _ h9 => h9) rfl (by decide +kernel) rfl rfl (Nat.le_of_ble_eq_true rfl) d_Md_next_52 (fun H locs hP hD hS => ?_)
        have hP : va_P D classes ([(h0, .inr (6, [.int u0, .ref a1, .int u2, .int u3, .ref a4, .ref a5, .ref a6, .ref a7, .ref a8, .ref a9, .ref a10, .ref a11, .int u12, .int u13, .ref a14, .ref a15, .ref a16, .int u17, .ref a18, .ref a19, .ref a20, .int u21, .ref a22, .ref a23, .int u24, .ref a25, .ref a26, .int x, .int x, .int u29, .int u30])), (a11, .inl (k11, 600, .inl c11))]) H := hP
        have hD : va_D A ([(h0, .inr (6, [.int u0, .ref a1, .int u2, .int u3, .ref a4, .ref a5, .ref a6, .ref a7, .ref a8, .ref a9, .ref a10, .ref a11, .int u12, .int u13, .ref a14, .ref a15, .ref a16, .int u17, .ref a18, .ref a19, .ref a20, .int u21, .ref a22, .ref a23, .int u24, .ref a25, .ref a26, .int x, .int x, .int u29, .int u30])), (a11, .inl (k11, 600, .inl c11))]) := hD
        have loop_3 : ∀ (n : Nat) (y : Int32) (hn2 : (u12.toInt - y.toInt).toNat < n) (hg2 : m_wend c11 u12 ((u12.toInt - (m_skip c11 u12 ((u12.toInt - u28.toInt).toNat + 1) u28).toInt).toNat + 1) (m_skip c11 u12 ((u12.toInt - u28.toInt).toNat + 1) u28) = m_wend c11 u12 n y) (hy0 : ¬ y < 0) (H : Heap) (locs : List Loc) (hP : va_P D classes ([(h0, .inr (6, [.int u0, .ref a1, .int u2, .int u3, .ref a4, .ref a5, .ref a6, .ref a7, .ref a8, .ref a9, .ref a10, .ref a11, .int u12, .int u13, .ref a14, .ref a15, .ref a16, .int u17, .ref a18, .ref a19, .ref a20, .int u21, .ref a22, .ref a23, .int u24, .ref a25, .ref a26, .int x, .int y, .int u29, .int u30])), (a11, .inl (k11, 600, .inl c11))]) H) (hD : va_D A ([(h0, .inr (6, [.int u0, .ref a1, .int u2, .int u3, .ref a4, .ref a5, .ref a6, .ref a7, .ref a8, .ref a9, .ref a10, .ref a11, .int u12, .int u13, .ref a14, .ref a15, .ref a16, .int u17, .ref a18, .ref a19, .ref a20, .int u21, .ref a22, .ref a23, .int u24, .ref a25, .ref a26, .int x, .int y, .int u29, .int u30])), (a11, .inl (k11, 600, .inl c11))])) (hS : va_S A s.heap H locs) (ls : Array Slot) (hl : lv_has ls 1 [(0, .ref h0)]), W p l e ({ frames := 1, cells := 0, slots := 0, locals := 20 }) s m [.ref h0].toArray below meth c H locs 0 0 Q (F0 m 55 ls []) := by
          intro n
          induction n with
          | zero =>
            intro y hn2 hg2 hy0 H locs hP hD hS ls hl
            exact absurd hn2 (Nat.not_lt_zero _)
          | succ n ih_55 =>
            intro y hn2 hg2 hy0 H locs hP hD hS ls hl
            refine lv_aload_n hx hb d_Md_next_55 rfl (lv_at hl 0 rfl) ?_
            refine va_get (D := D) (ci := 6) (v := .int y) (C := R_Md) (T := T_Md) (N := 31) hx hb hts in_Md hown hK hP 0 rfl rfl 28 (by decide) (hts _ cw_762) (fun _ h9 => h9) rfl d_Md_next_56 ?_
            refine lv_aload_n hx hb d_Md_next_59 rfl (lv_at hl 0 rfl) ?_
            refine va_get (D := D) (ci := 6) (v := .int u12) (C := R_Md) (T := T_Md) (N := 31) hx hb hts in_Md hown hK hP 0 rfl rfl 12 (by decide) (hts _ cw_746) (fun _ h9 => h9) rfl d_Md_next_60 ?_
            refine lv_icmp_ge (tgt := 94) hx hb d_Md_next_63 (by decide) (fun c_4 => ?_) (fun c_4 => ?_)
            · have hwe : m_wend c11 u12 ((u12.toInt - (m_skip c11 u12 ((u12.toInt - u28.toInt).toNat + 1) u28).toInt).toNat + 1) (m_skip c11 u12 ((u12.toInt - u28.toInt).toNat + 1) u28) = y := hg2.trans (by rw [m_wend]; simp [eq_true c_2, eq_true c_4])
              refine lv_aload_n hx hb d_Md_next_94 rfl (lv_at hl 0 rfl) ?_
              refine va_get (D := D) (ci := 6) (v := .int x) (C := R_Md) (T := T_Md) (N := 31) hx hb hts in_Md hown hK hP 0 rfl rfl 27 (by decide) (hts _ cw_761) (fun _ h9 => h9) rfl d_Md_next_95 ?_
              refine lv_aload_n hx hb d_Md_next_98 rfl (lv_at hl 0 rfl) ?_
              refine va_get (D := D) (ci := 6) (v := .int u12) (C := R_Md) (T := T_Md) (N := 31) hx hb hts in_Md hown hK hP 0 rfl rfl 12 (by decide) (hts _ cw_746) (fun _ h9 => h9) rfl d_Md_next_99 ?_
              refine lv_icmp_ge (tgt := 109) hx hb d_Md_next_102 (by decide) (fun c_5 => ?_) (fun c_5 => ?_)
              · refine lv_iconst (v := 0) hx hb d_Md_next_109 (by decide) ?_
                subst hQ
                have hm : m_next c11 u12 u28 = (0, x, y) := by unfold m_next; rw [hwe, hsk]; simp [eq_true c_2, eq_true c_4, eq_true c_5]
                rw [hm]
                have hP9 := hP.sub (ws' := [(h0, .inr (6, [.int u0, .ref a1, .int u2, .int u3, .ref a4, .ref a5, .ref a6, .ref a7, .ref a8, .ref a9, .ref a10, .ref a11, .int u12, .int u13, .ref a14, .ref a15, .ref a16, .int u17, .ref a18, .ref a19, .ref a20, .int u21, .ref a22, .ref a23, .int u24, .ref a25, .ref a26, .int x, .int y, .int u29, .int u30])), (a11, .inl (k11, 600, .inl c11))]) [0, 1] rfl
                have hD9 := hD.sub (ws' := [(h0, .inr (6, [.int u0, .ref a1, .int u2, .int u3, .ref a4, .ref a5, .ref a6, .ref a7, .ref a8, .ref a9, .ref a10, .ref a11, .int u12, .int u13, .ref a14, .ref a15, .ref a16, .int u17, .ref a18, .ref a19, .ref a20, .int u21, .ref a22, .ref a23, .int u24, .ref a25, .ref a26, .int x, .int y, .int u29, .int u30])), (a11, .inl (k11, 600, .inl c11))]) [0, 1] (by decide) rfl
                have hK9 := hK.sub (tys' := [(k11, .int)]) [0] rfl
                exact W.zret (v := 0) hx hb hr (rfl) (fun t ht hW => ⟨⟨_, (), rfl, rfl, by rw [ht]; exact hP9, va_K.moved hW.alike hK9, hD9⟩, hS.F ht⟩) hS.2.2 d_Md_next_110
              · exact absurd c_2 c_5
            · refine lv_aload_n hx hb d_Md_next_66 rfl (lv_at hl 0 rfl) ?_
              refine va_get (D := D) (ci := 6) (v := .ref a11) (C := R_Md) (T := T_Md) (N := 31) hx hb hts in_Md hown hK hP 0 rfl rfl 11 (by decide) (hts _ cw_745) (fun _ h9 => h9) rfl d_Md_next_67 ?_
              refine lv_aload_n hx hb d_Md_next_70 rfl (lv_at hl 0 rfl) ?_
              refine va_get (D := D) (ci := 6) (v := .int y) (C := R_Md) (T := T_Md) (N := 31) hx hb hts in_Md hown hK hP 0 rfl rfl 28 (by decide) (hts _ cw_762) (fun _ h9 => h9) rfl d_Md_next_71 ?_
              refine va_iald hx hb hK hP 1 0 rfl rfl (ix_mid (n := 600) (by decide) hy0 c_4 hz6) d_Md_next_74 ?_
              have hPc := hP.sub (ws' := []) [] rfl
              have hDc := hD.sub (ws' := []) [] (by decide) rfl
              have hKc := hK.sub (tys' := []) [] rfl
              have hFc := va_free (wc := []) hD hS hA [] rfl
              refine vp_callSi (va_Run.run (va_runS (As := [.int (c11 y.toNatClampNeg)]) (rest := [])  ⟨hx, hb, hml, hown, hts⟩ (c_Md_isBlank l D (c11 y.toNatClampNeg) H.size ) ⟨callB_of 1 hts cg_Md_isBlank rfl rfl rfl (hts _ cw_10) (hts _ cw_911) (by decide +kernel) ⟨Nat.le_of_ble_eq_true rfl, Nat.le_of_ble_eq_true rfl⟩, hts _ cw_912⟩ (cx_preS [.int (c11 y.toNatClampNeg)] hPc hKc hDc hN hO hS hFc) rfl rfl hl.1 rfl (lv_room (Nat.le_of_ble_eq_true rfl)) d_Md_next_75 ⟨Nat.le_of_ble_eq_true rfl, Nat.le_of_ble_eq_true rfl⟩)) (fun r z_6 => ?_)
              subst z_6
              refine lv_if_ne (tgt := 94) hx hb d_Md_next_78 (by decide) (fun c_7 => ?_) (fun c_7 => ?_)
              · have hwe : m_wend c11 u12 ((u12.toInt - (m_skip c11 u12 ((u12.toInt - u28.toInt).toNat + 1) u28).toInt).toNat + 1) (m_skip c11 u12 ((u12.toInt - u28.toInt).toNat + 1) u28) = y := hg2.trans (by rw [m_wend]; simp [eq_true c_2, eq_false c_4, eq_false c_7])
                refine lv_aload_n hx hb d_Md_next_94 rfl (lv_at hl 0 rfl) ?_
                refine va_get (D := D) (ci := 6) (v := .int x) (C := R_Md) (T := T_Md) (N := 31) hx hb hts in_Md hown hK hP 0 rfl rfl 27 (by decide) (hts _ cw_761) (fun _ h9 => h9) rfl d_Md_next_95 ?_
                refine lv_aload_n hx hb d_Md_next_98 rfl (lv_at hl 0 rfl) ?_
                refine va_get (D := D) (ci := 6) (v := .int u12) (C := R_Md) (T := T_Md) (N := 31) hx hb hts in_Md hown hK hP 0 rfl rfl 12 (by decide) (hts _ cw_746) (fun _ h9 => h9) rfl d_Md_next_99 ?_
                refine lv_icmp_ge (tgt := 109) hx hb d_Md_next_102 (by decide) (fun c_8 => ?_) (fun c_8 => ?_)
                · refine lv_iconst (v := 0) hx hb d_Md_next_109 (by decide) ?_
                  subst hQ
                  have hm : m_next c11 u12 u28 = (0, x, y) := by unfold m_next; rw [hwe, hsk]; simp [eq_true c_2, eq_false c_4, eq_false c_7, eq_true c_8]
                  rw [hm]
                  have hP9 := hP.sub (ws' := [(h0, .inr (6, [.int u0, .ref a1, .int u2, .int u3, .ref a4, .ref a5, .ref a6, .ref a7, .ref a8, .ref a9, .ref a10, .ref a11, .int u12, .int u13, .ref a14, .ref a15, .ref a16, .int u17, .ref a18, .ref a19, .ref a20, .int u21, .ref a22, .ref a23, .int u24, .ref a25, .ref a26, .int x, .int y, .int u29, .int u30])), (a11, .inl (k11, 600, .inl c11))]) [0, 1] rfl
                  have hD9 := hD.sub (ws' := [(h0, .inr (6, [.int u0, .ref a1, .int u2, .int u3, .ref a4, .ref a5, .ref a6, .ref a7, .ref a8, .ref a9, .ref a10, .ref a11, .int u12, .int u13, .ref a14, .ref a15, .ref a16, .int u17, .ref a18, .ref a19, .ref a20, .int u21, .ref a22, .ref a23, .int u24, .ref a25, .ref a26, .int x, .int y, .int u29, .int u30])), (a11, .inl (k11, 600, .inl c11))]) [0, 1] (by decide) rfl
                  have hK9 := hK.sub (tys' := [(k11, .int)]) [0] rfl
                  exact W.zret (v := 0) hx hb hr (rfl) (fun t ht hW => ⟨⟨_, (), rfl, rfl, by rw [ht]; exact hP9, va_K.moved hW.alike hK9, hD9⟩, hS.F ht⟩) hS.2.2 d_Md_next_110
                · exact absurd c_2 c_8
              · refine lv_aload_n hx hb d_Md_next_81 rfl (lv_at hl 0 rfl) ?_
                refine lv_dup hx hb d_Md_next_82 rfl ?_
                refine va_get (D := D) (ci := 6) (v := .int y) (C := R_Md) (T := T_Md) (N := 31) hx hb hts in_Md hown hK hP 0 rfl rfl 28 (by decide) (hts _ cw_762) (fun _ h9 => h9) rfl d_Md_next_83 ?_
                refine lv_iconst (v := 1) hx hb d_Md_next_86 (by decide) ?_
                refine lv_iadd hx hb d_Md_next_87 ?_
                refine va_put (D := D) (ci := 6) (v := .int (y + 1)) (ty := .int) (C := R_Md) (T := T_Md) (N := 31) hx hb hts in_Md ty_Md tyok_Md nm_Md hown hK hP hD hS 0 rfl rfl 28 (by decide) (hts _ cw_762) (fun _ h9 => h9) rfl (by decide +kernel) rfl rfl (Nat.le_of_ble_eq_true rfl) d_Md_next_88 (fun H locs hP hD hS => ?_)
                have hP : va_P D classes ([(h0, .inr (6, [.int u0, .ref a1, .int u2, .int u3, .ref a4, .ref a5, .ref a6, .ref a7, .ref a8, .ref a9, .ref a10, .ref a11, .int u12, .int u13, .ref a14, .ref a15, .ref a16, .int u17, .ref a18, .ref a19, .ref a20, .int u21, .ref a22, .ref a23, .int u24, .ref a25, .ref a26, .int x, .int (y + 1), .int u29, .int u30])), (a11, .inl (k11, 600, .inl c11))]) H := hP
                have hD : va_D A ([(h0, .inr (6, [.int u0, .ref a1, .int u2, .int u3, .ref a4, .ref a5, .ref a6, .ref a7, .ref a8, .ref a9, .ref a10, .ref a11, .int u12, .int u13, .ref a14, .ref a15, .ref a16, .int u17, .ref a18, .ref a19, .ref a20, .int u21, .ref a22, .ref a23, .int u24, .ref a25, .ref a26, .int x, .int (y + 1), .int u29, .int u30])), (a11, .inl (k11, 600, .inl c11))]) := hD
                refine lv_goto (tgt := 55) hx hb d_Md_next_91 (by decide) ?_
                exact ih_55 (y + 1) (ix_up hn2 c_4) (hg2.trans (by rw [m_wend]; simp [eq_true c_2, eq_false c_4, eq_true c_7])) (ix_up0 hy0 c_4) _ _ (hP.sub [0, 1] rfl) (hD.sub [0, 1] (by decide) rfl) hS ls (lv_sub hl [0] rfl)
        exact loop_3 ((u12.toInt - x.toInt).toNat + 1) x (Nat.lt_succ_self _) (by rw [hsk]) (hx0) _ _ (hP.sub [0, 1] rfl) (hD.sub [0, 1] (by decide) rfl) hS ls (lv_sub hl [0] rfl)
      · refine lv_aload_n hx hb d_Md_next_19 rfl (lv_at hl 0 rfl) ?_
        refine va_get (D := D) (ci := 6) (v := .ref a11) (C := R_Md) (T := T_Md) (N := 31) hx hb hts in_Md hown hK hP 0 rfl rfl 11 (by decide) (hts _ cw_745) (fun _ h9 => h9) rfl d_Md_next_20 ?_
        refine lv_aload_n hx hb d_Md_next_23 rfl (lv_at hl 0 rfl) ?_
        refine va_get (D := D) (ci := 6) (v := .int x) (C := R_Md) (T := T_Md) (N := 31) hx hb hts in_Md hown hK hP 0 rfl rfl 27 (by decide) (hts _ cw_761) (fun _ h9 => h9) rfl d_Md_next_24 ?_
        refine va_iald hx hb hK hP 1 0 rfl rfl (ix_mid (n := 600) (by decide) hx0 c_2 hz6) d_Md_next_27 ?_
        have hPc := hP.sub (ws' := []) [] rfl
        have hDc := hD.sub (ws' := []) [] (by decide) rfl
        have hKc := hK.sub (tys' := []) [] rfl
        have hFc := va_free (wc := []) hD hS hA [] rfl
        refine vp_callSi (va_Run.run (va_runS (As := [.int (c11 x.toNatClampNeg)]) (rest := [])  ⟨hx, hb, hml, hown, hts⟩ (c_Md_isBlank l D (c11 x.toNatClampNeg) H.size ) ⟨callB_of 1 hts cg_Md_isBlank rfl rfl rfl (hts _ cw_10) (hts _ cw_911) (by decide +kernel) ⟨Nat.le_of_ble_eq_true rfl, Nat.le_of_ble_eq_true rfl⟩, hts _ cw_912⟩ (cx_preS [.int (c11 x.toNatClampNeg)] hPc hKc hDc hN hO hS hFc) rfl rfl hl.1 rfl (lv_room (Nat.le_of_ble_eq_true rfl)) d_Md_next_28 ⟨Nat.le_of_ble_eq_true rfl, Nat.le_of_ble_eq_true rfl⟩)) (fun r z_9 => ?_)
        subst z_9
        refine lv_if_eq (tgt := 47) hx hb d_Md_next_31 (by decide) (fun c_10 => ?_) (fun c_10 => ?_)
        · have hsk : m_skip c11 u12 ((u12.toInt - u28.toInt).toNat + 1) u28 = x := hg.trans (by rw [m_skip]; simp [eq_false c_2, eq_true c_10])
          refine lv_aload_n hx hb d_Md_next_47 rfl (lv_at hl 0 rfl) ?_
          refine lv_aload_n hx hb d_Md_next_48 rfl (lv_at hl 0 rfl) ?_
          refine va_get (D := D) (ci := 6) (v := .int x) (C := R_Md) (T := T_Md) (N := 31) hx hb hts in_Md hown hK hP 0 rfl rfl 27 (by decide) (hts _ cw_761) (fun _ h9 => h9) rfl d_Md_next_49 ?_
          refine va_put (D := D) (ci := 6) (v := .int x) (ty := .int) (C := R_Md) (T := T_Md) (N := 31) hx hb hts in_Md ty_Md tyok_Md nm_Md hown hK hP hD hS 0 rfl rfl 28 (by decide) (hts _ cw_762) (fun _ h9 => h9) rfl (by decide +kernel) rfl rfl (Nat.le_of_ble_eq_true rfl) d_Md_next_52 (fun H locs hP hD hS => ?_)
          have hP : va_P D classes ([(h0, .inr (6, [.int u0, .ref a1, .int u2, .int u3, .ref a4, .ref a5, .ref a6, .ref a7, .ref a8, .ref a9, .ref a10, .ref a11, .int u12, .int u13, .ref a14, .ref a15, .ref a16, .int u17, .ref a18, .ref a19, .ref a20, .int u21, .ref a22, .ref a23, .int u24, .ref a25, .ref a26, .int x, .int x, .int u29, .int u30])), (a11, .inl (k11, 600, .inl c11))]) H := hP
          have hD : va_D A ([(h0, .inr (6, [.int u0, .ref a1, .int u2, .int u3, .ref a4, .ref a5, .ref a6, .ref a7, .ref a8, .ref a9, .ref a10, .ref a11, .int u12, .int u13, .ref a14, .ref a15, .ref a16, .int u17, .ref a18, .ref a19, .ref a20, .int u21, .ref a22, .ref a23, .int u24, .ref a25, .ref a26, .int x, .int x, .int u29, .int u30])), (a11, .inl (k11, 600, .inl c11))]) := hD
          have loop_11 : ∀ (n : Nat) (y : Int32) (hn2 : (u12.toInt - y.toInt).toNat < n) (hg2 : m_wend c11 u12 ((u12.toInt - (m_skip c11 u12 ((u12.toInt - u28.toInt).toNat + 1) u28).toInt).toNat + 1) (m_skip c11 u12 ((u12.toInt - u28.toInt).toNat + 1) u28) = m_wend c11 u12 n y) (hy0 : ¬ y < 0) (H : Heap) (locs : List Loc) (hP : va_P D classes ([(h0, .inr (6, [.int u0, .ref a1, .int u2, .int u3, .ref a4, .ref a5, .ref a6, .ref a7, .ref a8, .ref a9, .ref a10, .ref a11, .int u12, .int u13, .ref a14, .ref a15, .ref a16, .int u17, .ref a18, .ref a19, .ref a20, .int u21, .ref a22, .ref a23, .int u24, .ref a25, .ref a26, .int x, .int y, .int u29, .int u30])), (a11, .inl (k11, 600, .inl c11))]) H) (hD : va_D A ([(h0, .inr (6, [.int u0, .ref a1, .int u2, .int u3, .ref a4, .ref a5, .ref a6, .ref a7, .ref a8, .ref a9, .ref a10, .ref a11, .int u12, .int u13, .ref a14, .ref a15, .ref a16, .int u17, .ref a18, .ref a19, .ref a20, .int u21, .ref a22, .ref a23, .int u24, .ref a25, .ref a26, .int x, .int y, .int u29, .int u30])), (a11, .inl (k11, 600, .inl c11))])) (hS : va_S A s.heap H locs) (ls : Array Slot) (hl : lv_has ls 1 [(0, .ref h0)]), W p l e ({ frames := 1, cells := 0, slots := 0, locals := 20 }) s m [.ref h0].toArray below meth c H locs 0 0 Q (F0 m 55 ls []) := by
            intro n
            induction n with
            | zero =>
              intro y hn2 hg2 hy0 H locs hP hD hS ls hl
              exact absurd hn2 (Nat.not_lt_zero _)
            | succ n ih_55 =>
              intro y hn2 hg2 hy0 H locs hP hD hS ls hl
              refine lv_aload_n hx hb d_Md_next_55 rfl (lv_at hl 0 rfl) ?_
              refine va_get (D := D) (ci := 6) (v := .int y) (C := R_Md) (T := T_Md) (N := 31) hx hb hts in_Md hown hK hP 0 rfl rfl 28 (by decide) (hts _ cw_762) (fun _ h9 => h9) rfl d_Md_next_56 ?_
              refine lv_aload_n hx hb d_Md_next_59 rfl (lv_at hl 0 rfl) ?_
              refine va_get (D := D) (ci := 6) (v := .int u12) (C := R_Md) (T := T_Md) (N := 31) hx hb hts in_Md hown hK hP 0 rfl rfl 12 (by decide) (hts _ cw_746) (fun _ h9 => h9) rfl d_Md_next_60 ?_
              refine lv_icmp_ge (tgt := 94) hx hb d_Md_next_63 (by decide) (fun c_12 => ?_) (fun c_12 => ?_)
              · have hwe : m_wend c11 u12 ((u12.toInt - (m_skip c11 u12 ((u12.toInt - u28.toInt).toNat + 1) u28).toInt).toNat + 1) (m_skip c11 u12 ((u12.toInt - u28.toInt).toNat + 1) u28) = y := hg2.trans (by rw [m_wend]; simp [eq_false c_2, eq_true c_10, eq_true c_12])
                refine lv_aload_n hx hb d_Md_next_94 rfl (lv_at hl 0 rfl) ?_
                refine va_get (D := D) (ci := 6) (v := .int x) (C := R_Md) (T := T_Md) (N := 31) hx hb hts in_Md hown hK hP 0 rfl rfl 27 (by decide) (hts _ cw_761) (fun _ h9 => h9) rfl d_Md_next_95 ?_
                refine lv_aload_n hx hb d_Md_next_98 rfl (lv_at hl 0 rfl) ?_
                refine va_get (D := D) (ci := 6) (v := .int u12) (C := R_Md) (T := T_Md) (N := 31) hx hb hts in_Md hown hK hP 0 rfl rfl 12 (by decide) (hts _ cw_746) (fun _ h9 => h9) rfl d_Md_next_99 ?_
                refine lv_icmp_ge (tgt := 109) hx hb d_Md_next_102 (by decide) (fun c_13 => ?_) (fun c_13 => ?_)
                · exact absurd c_13 c_2
                · refine lv_iconst (v := 1) hx hb d_Md_next_105 (by decide) ?_
                  refine lv_goto (tgt := 110) hx hb d_Md_next_106 (by decide) ?_
                  subst hQ
                  have hm : m_next c11 u12 u28 = (1, x, y) := by unfold m_next; rw [hwe, hsk]; simp [eq_false c_2, eq_true c_10, eq_true c_12, eq_false c_13]
                  rw [hm]
                  have hP9 := hP.sub (ws' := [(h0, .inr (6, [.int u0, .ref a1, .int u2, .int u3, .ref a4, .ref a5, .ref a6, .ref a7, .ref a8, .ref a9, .ref a10, .ref a11, .int u12, .int u13, .ref a14, .ref a15, .ref a16, .int u17, .ref a18, .ref a19, .ref a20, .int u21, .ref a22, .ref a23, .int u24, .ref a25, .ref a26, .int x, .int y, .int u29, .int u30])), (a11, .inl (k11, 600, .inl c11))]) [0, 1] rfl
                  have hD9 := hD.sub (ws' := [(h0, .inr (6, [.int u0, .ref a1, .int u2, .int u3, .ref a4, .ref a5, .ref a6, .ref a7, .ref a8, .ref a9, .ref a10, .ref a11, .int u12, .int u13, .ref a14, .ref a15, .ref a16, .int u17, .ref a18, .ref a19, .ref a20, .int u21, .ref a22, .ref a23, .int u24, .ref a25, .ref a26, .int x, .int y, .int u29, .int u30])), (a11, .inl (k11, 600, .inl c11))]) [0, 1] (by decide) rfl
                  have hK9 := hK.sub (tys' := [(k11, .int)]) [0] rfl
                  exact W.zret (v := 1) hx hb hr (rfl) (fun t ht hW => ⟨⟨_, (), rfl, rfl, by rw [ht]; exact hP9, va_K.moved hW.alike hK9, hD9⟩, hS.F ht⟩) hS.2.2 d_Md_next_110
              · refine lv_aload_n hx hb d_Md_next_66 rfl (lv_at hl 0 rfl) ?_
                refine va_get (D := D) (ci := 6) (v := .ref a11) (C := R_Md) (T := T_Md) (N := 31) hx hb hts in_Md hown hK hP 0 rfl rfl 11 (by decide) (hts _ cw_745) (fun _ h9 => h9) rfl d_Md_next_67 ?_
                refine lv_aload_n hx hb d_Md_next_70 rfl (lv_at hl 0 rfl) ?_
                refine va_get (D := D) (ci := 6) (v := .int y) (C := R_Md) (T := T_Md) (N := 31) hx hb hts in_Md hown hK hP 0 rfl rfl 28 (by decide) (hts _ cw_762) (fun _ h9 => h9) rfl d_Md_next_71 ?_
                refine va_iald hx hb hK hP 1 0 rfl rfl (ix_mid (n := 600) (by decide) hy0 c_12 hz6) d_Md_next_74 ?_
                have hPc := hP.sub (ws' := []) [] rfl
                have hDc := hD.sub (ws' := []) [] (by decide) rfl
                have hKc := hK.sub (tys' := []) [] rfl
                have hFc := va_free (wc := []) hD hS hA [] rfl
                refine vp_callSi (va_Run.run (va_runS (As := [.int (c11 y.toNatClampNeg)]) (rest := [])  ⟨hx, hb, hml, hown, hts⟩ (c_Md_isBlank l D (c11 y.toNatClampNeg) H.size ) ⟨callB_of 1 hts cg_Md_isBlank rfl rfl rfl (hts _ cw_10) (hts _ cw_911) (by decide +kernel) ⟨Nat.le_of_ble_eq_true rfl, Nat.le_of_ble_eq_true rfl⟩, hts _ cw_912⟩ (cx_preS [.int (c11 y.toNatClampNeg)] hPc hKc hDc hN hO hS hFc) rfl rfl hl.1 rfl (lv_room (Nat.le_of_ble_eq_true rfl)) d_Md_next_75 ⟨Nat.le_of_ble_eq_true rfl, Nat.le_of_ble_eq_true rfl⟩)) (fun r z_14 => ?_)
                subst z_14
                refine lv_if_ne (tgt := 94) hx hb d_Md_next_78 (by decide) (fun c_15 => ?_) (fun c_15 => ?_)
                · have hwe : m_wend c11 u12 ((u12.toInt - (m_skip c11 u12 ((u12.toInt - u28.toInt).toNat + 1) u28).toInt).toNat + 1) (m_skip c11 u12 ((u12.toInt - u28.toInt).toNat + 1) u28) = y := hg2.trans (by rw [m_wend]; simp [eq_false c_2, eq_true c_10, eq_false c_12, eq_false c_15])
                  refine lv_aload_n hx hb d_Md_next_94 rfl (lv_at hl 0 rfl) ?_
                  refine va_get (D := D) (ci := 6) (v := .int x) (C := R_Md) (T := T_Md) (N := 31) hx hb hts in_Md hown hK hP 0 rfl rfl 27 (by decide) (hts _ cw_761) (fun _ h9 => h9) rfl d_Md_next_95 ?_
                  refine lv_aload_n hx hb d_Md_next_98 rfl (lv_at hl 0 rfl) ?_
                  refine va_get (D := D) (ci := 6) (v := .int u12) (C := R_Md) (T := T_Md) (N := 31) hx hb hts in_Md hown hK hP 0 rfl rfl 12 (by decide) (hts _ cw_746) (fun _ h9 => h9) rfl d_Md_next_99 ?_
                  refine lv_icmp_ge (tgt := 109) hx hb d_Md_next_102 (by decide) (fun c_16 => ?_) (fun c_16 => ?_)
                  · exact absurd c_16 c_2
                  · refine lv_iconst (v := 1) hx hb d_Md_next_105 (by decide) ?_
                    refine lv_goto (tgt := 110) hx hb d_Md_next_106 (by decide) ?_
                    subst hQ
                    have hm : m_next c11 u12 u28 = (1, x, y) := by unfold m_next; rw [hwe, hsk]; simp [eq_false c_2, eq_true c_10, eq_false c_12, eq_false c_15, eq_false c_16]
                    rw [hm]
                    have hP9 := hP.sub (ws' := [(h0, .inr (6, [.int u0, .ref a1, .int u2, .int u3, .ref a4, .ref a5, .ref a6, .ref a7, .ref a8, .ref a9, .ref a10, .ref a11, .int u12, .int u13, .ref a14, .ref a15, .ref a16, .int u17, .ref a18, .ref a19, .ref a20, .int u21, .ref a22, .ref a23, .int u24, .ref a25, .ref a26, .int x, .int y, .int u29, .int u30])), (a11, .inl (k11, 600, .inl c11))]) [0, 1] rfl
                    have hD9 := hD.sub (ws' := [(h0, .inr (6, [.int u0, .ref a1, .int u2, .int u3, .ref a4, .ref a5, .ref a6, .ref a7, .ref a8, .ref a9, .ref a10, .ref a11, .int u12, .int u13, .ref a14, .ref a15, .ref a16, .int u17, .ref a18, .ref a19, .ref a20, .int u21, .ref a22, .ref a23, .int u24, .ref a25, .ref a26, .int x, .int y, .int u29, .int u30])), (a11, .inl (k11, 600, .inl c11))]) [0, 1] (by decide) rfl
                    have hK9 := hK.sub (tys' := [(k11, .int)]) [0] rfl
                    exact W.zret (v := 1) hx hb hr (rfl) (fun t ht hW => ⟨⟨_, (), rfl, rfl, by rw [ht]; exact hP9, va_K.moved hW.alike hK9, hD9⟩, hS.F ht⟩) hS.2.2 d_Md_next_110
                · refine lv_aload_n hx hb d_Md_next_81 rfl (lv_at hl 0 rfl) ?_
                  refine lv_dup hx hb d_Md_next_82 rfl ?_
                  refine va_get (D := D) (ci := 6) (v := .int y) (C := R_Md) (T := T_Md) (N := 31) hx hb hts in_Md hown hK hP 0 rfl rfl 28 (by decide) (hts _ cw_762) (fun _ h9 => h9) rfl d_Md_next_83 ?_
                  refine lv_iconst (v := 1) hx hb d_Md_next_86 (by decide) ?_
                  refine lv_iadd hx hb d_Md_next_87 ?_
                  refine va_put (D := D) (ci := 6) (v := .int (y + 1)) (ty := .int) (C := R_Md) (T := T_Md) (N := 31) hx hb hts in_Md ty_Md tyok_Md nm_Md hown hK hP hD hS 0 rfl rfl 28 (by decide) (hts _ cw_762) (fun _ h9 => h9) rfl (by decide +kernel) rfl rfl (Nat.le_of_ble_eq_true rfl) d_Md_next_88 (fun H locs hP hD hS => ?_)
                  have hP : va_P D classes ([(h0, .inr (6, [.int u0, .ref a1, .int u2, .int u3, .ref a4, .ref a5, .ref a6, .ref a7, .ref a8, .ref a9, .ref a10, .ref a11, .int u12, .int u13, .ref a14, .ref a15, .ref a16, .int u17, .ref a18, .ref a19, .ref a20, .int u21, .ref a22, .ref a23, .int u24, .ref a25, .ref a26, .int x, .int (y + 1), .int u29, .int u30])), (a11, .inl (k11, 600, .inl c11))]) H := hP
                  have hD : va_D A ([(h0, .inr (6, [.int u0, .ref a1, .int u2, .int u3, .ref a4, .ref a5, .ref a6, .ref a7, .ref a8, .ref a9, .ref a10, .ref a11, .int u12, .int u13, .ref a14, .ref a15, .ref a16, .int u17, .ref a18, .ref a19, .ref a20, .int u21, .ref a22, .ref a23, .int u24, .ref a25, .ref a26, .int x, .int (y + 1), .int u29, .int u30])), (a11, .inl (k11, 600, .inl c11))]) := hD
                  refine lv_goto (tgt := 55) hx hb d_Md_next_91 (by decide) ?_
                  exact ih_55 (y + 1) (ix_up hn2 c_12) (hg2.trans (by rw [m_wend]; simp [eq_false c_2, eq_true c_10, eq_false c_12, eq_true c_15])) (ix_up0 hy0 c_12) _ _ (hP.sub [0, 1] rfl) (hD.sub [0, 1] (by decide) rfl) hS ls (lv_sub hl [0] rfl)
          exact loop_11 ((u12.toInt - x.toInt).toNat + 1) x (Nat.lt_succ_self _) (by rw [hsk]) (hx0) _ _ (hP.sub [0, 1] rfl) (hD.sub [0, 1] (by decide) rfl) hS ls (lv_sub hl [0] rfl)
        · refine lv_aload_n hx hb d_Md_next_34 rfl (lv_at hl 0 rfl) ?_
          refine lv_dup hx hb d_Md_next_35 rfl ?_
          refine va_get (D := D) (ci := 6) (v := .int x) (C := R_Md) (T := T_Md) (N := 31) hx hb hts in_Md hown hK hP 0 rfl rfl 27 (by decide) (hts _ cw_761) (fun _ h9 => h9) rfl d_Md_next_36 ?_
          refine lv_iconst (v := 1) hx hb d_Md_next_39 (by decide) ?_
          refine lv_iadd hx hb d_Md_next_40 ?_
          refine va_put (D := D) (ci := 6) (v := .int (x + 1)) (ty := .int) (C := R_Md) (T := T_Md) (N := 31) hx hb hts in_Md ty_Md tyok_Md nm_Md hown hK hP hD hS 0 rfl rfl 27 (by decide) (hts _ cw_761) (fun _ h9 => h9) rfl (by decide +kernel) rfl rfl (Nat.le_of_ble_eq_true rfl) d_Md_next_41 (fun H locs hP hD hS => ?_)
          have hP : va_P D classes ([(h0, .inr (6, [.int u0, .ref a1, .int u2, .int u3, .ref a4, .ref a5, .ref a6, .ref a7, .ref a8, .ref a9, .ref a10, .ref a11, .int u12, .int u13, .ref a14, .ref a15, .ref a16, .int u17, .ref a18, .ref a19, .ref a20, .int u21, .ref a22, .ref a23, .int u24, .ref a25, .ref a26, .int (x + 1), .int u28, .int u29, .int u30])), (a11, .inl (k11, 600, .inl c11))]) H := hP
          have hD : va_D A ([(h0, .inr (6, [.int u0, .ref a1, .int u2, .int u3, .ref a4, .ref a5, .ref a6, .ref a7, .ref a8, .ref a9, .ref a10, .ref a11, .int u12, .int u13, .ref a14, .ref a15, .ref a16, .int u17, .ref a18, .ref a19, .ref a20, .int u21, .ref a22, .ref a23, .int u24, .ref a25, .ref a26, .int (x + 1), .int u28, .int u29, .int u30])), (a11, .inl (k11, 600, .inl c11))]) := hD
          refine lv_goto (tgt := 8) hx hb d_Md_next_44 (by decide) ?_
          exact ih_8 (x + 1) (ix_up hn c_2) (hg.trans (by rw [m_skip]; simp [eq_false c_2, eq_false c_10])) (ix_up0 hx0 c_2) _ _ (hP.sub [0, 1] rfl) (hD.sub [0, 1] (by decide) rfl) hS ls (lv_sub hl [0] rfl)
  exact loop_1 ((u12.toInt - u28.toInt).toNat + 1) u28 (Nat.lt_succ_self _) (rfl) (he0) _ _ (hP.sub [0, 1] rfl) (hD.sub [0, 1] (by decide) rfl) hS ls (lv_sub hl [0] rfl)

set_option maxHeartbeats 4000000 in
set_option maxRecDepth 100000 in
theorem c_Md_isClass (l : Launch) (D : va_G)  (h0 : Nat) (u0 : Int32) (a1 : Nat) (u2 : Int32) (u3 : Int32) (a4 : Nat) (a5 : Nat) (a6 : Nat) (a7 : Nat) (a8 : Nat) (a9 : Nat) (a10 : Nat) (a11 : Nat) (u12 : Int32) (u13 : Int32) (a14 : Nat) (a15 : Nat) (a16 : Nat) (u17 : Int32) (a18 : Nat) (a19 : Nat) (a20 : Nat) (u21 : Int32) (a22 : Nat) (a23 : Nat) (u24 : Int32) (a25 : Nat) (a26 : Nat) (u27 : Int32) (u28 : Int32) (u29 : Int32) (u30 : Int32) (k11 : ClassId) (c11 : Nat → Int32) (sz : Nat) (hf0 : ¬ u27 < 0) (hf6 : u27 < 600) (he6 : u28 ≤ 600) : Met l y_Md_isClass ws_Md_isClass ({ frames := 0, cells := 0, slots := 0, locals := 0 }) (va_Pc [.ref h0] (cx_pre D [(k11, .int)] ([(h0, .inr (6, [.int u0, .ref a1, .int u2, .int u3, .ref a4, .ref a5, .ref a6, .ref a7, .ref a8, .ref a9, .ref a10, .ref a11, .int u12, .int u13, .ref a14, .ref a15, .ref a16, .int u17, .ref a18, .ref a19, .ref a20, .int u21, .ref a22, .ref a23, .int u24, .ref a25, .ref a26, .int u27, .int u28, .int u29, .int u30])), (a11, .inl (k11, 600, .inl c11))]) sz)) (vp_Si (fun r9 => r9 = m_mcls c11 u27 u28)) 0 0 (fun _ => False) := by
  refine Met.ofW (cc := b_Md_isClass) (maxL := 1) (ret := (some .boolean)) (by decide) rfl ?_
  intro p e s m args below meth c s₁ B hml hv
  obtain ⟨rfl, hsz, hP, hK, hD0, hN, hO⟩ := hv
  have hx := B.exec
  have hb := B.bytes
  have hr := B.returns
  have hts := fun (w : Cond) (h : w ∈ cx_tbl) => atoms_spec (ws := ws_Md_isClass) B.pre w (List.mem_cons_of_mem _ h)
  have hown : s.vm.findClass R_Md = some m.cls := findClass_of_methodNamed B.named
  have hlocks := B.notSynchronized
  subst hsz
  have hD := hD0.self (sz := s.heap.size)
  generalize hAe : va_A ([(h0, .inr (6, [.int u0, .ref a1, .int u2, .int u3, .ref a4, .ref a5, .ref a6, .ref a7, .ref a8, .ref a9, .ref a10, .ref a11, .int u12, .int u13, .ref a14, .ref a15, .ref a16, .int u17, .ref a18, .ref a19, .ref a20, .int u21, .ref a22, .ref a23, .int u24, .ref a25, .ref a26, .int u27, .int u28, .int u29, .int u30])), (a11, .inl (k11, 600, .inl c11))]) s.heap.size = A at hD hO
  have hA : ∀ q : Nat, s.heap.size ≤ q → A q := fun q h => by rw [← hAe]; exact Or.inr h
  have hS : va_S A s.heap s.heap [] := va_S.rf
  have hl := lv_entry ([.ref h0]) (n := 1) (Nat.le_of_ble_eq_true rfl)
  rw [lg_entry_eq]
  generalize (lg_sl ([.ref h0]) ++ List.replicate (1 - (lg_sl ([.ref h0])).length) Slot.unset).toArray = ls at hl ⊢
  have hl : lv_has ls 1 [(0, .ref h0)] := hl
  refine lv_aload_n hx hb d_Md_isClass_0 rfl (lv_at hl 0 rfl) ?_
  refine va_get (D := D) (ci := 6) (v := .int u28) (C := R_Md) (T := T_Md) (N := 31) hx hb hts in_Md hown hK hP 0 rfl rfl 28 (by decide) (hts _ cw_762) (fun _ h9 => h9) rfl d_Md_isClass_1 ?_
  refine lv_aload_n hx hb d_Md_isClass_4 rfl (lv_at hl 0 rfl) ?_
  refine va_get (D := D) (ci := 6) (v := .int u27) (C := R_Md) (T := T_Md) (N := 31) hx hb hts in_Md hown hK hP 0 rfl rfl 27 (by decide) (hts _ cw_761) (fun _ h9 => h9) rfl d_Md_isClass_5 ?_
  refine lv_isub hx hb d_Md_isClass_8 ?_
  refine lv_iconst (v := 5) hx hb d_Md_isClass_9 (by decide) ?_
  refine lv_icmp_ne (tgt := 95) hx hb d_Md_isClass_10 (by decide) (fun c_1 => ?_) (fun c_1 => ?_)
  · refine lv_iconst (v := 0) hx hb d_Md_isClass_95 (by decide) ?_
    exact W.zret (v := 0) hx hb hr (rfl) (fun t ht hW => ⟨_, rfl, by simp [m_mcls, eq_false c_1], ht⟩) (fun q h => by cases h) d_Md_isClass_96
  · refine lv_aload_n hx hb d_Md_isClass_13 rfl (lv_at hl 0 rfl) ?_
    refine va_get (D := D) (ci := 6) (v := .ref a11) (C := R_Md) (T := T_Md) (N := 31) hx hb hts in_Md hown hK hP 0 rfl rfl 11 (by decide) (hts _ cw_745) (fun _ h9 => h9) rfl d_Md_isClass_14 ?_
    refine lv_aload_n hx hb d_Md_isClass_17 rfl (lv_at hl 0 rfl) ?_
    refine va_get (D := D) (ci := 6) (v := .int u27) (C := R_Md) (T := T_Md) (N := 31) hx hb hts in_Md hown hK hP 0 rfl rfl 27 (by decide) (hts _ cw_761) (fun _ h9 => h9) rfl d_Md_isClass_18 ?_
    refine va_iald hx hb hK hP 1 0 rfl rfl (cx_ixl (n := 600) (by decide) hf0 hf6) d_Md_isClass_21 ?_
    refine lv_bipush (v := 99) hx hb d_Md_isClass_22 (by decide) ?_
    refine lv_icmp_ne (tgt := 95) hx hb d_Md_isClass_24 (by decide) (fun c_2 => ?_) (fun c_2 => ?_)
    · refine lv_iconst (v := 0) hx hb d_Md_isClass_95 (by decide) ?_
      exact W.zret (v := 0) hx hb hr (rfl) (fun t ht hW => ⟨_, rfl, by simp [m_mcls, eq_true c_1, eq_false c_2], ht⟩) (fun q h => by cases h) d_Md_isClass_96
    · refine lv_aload_n hx hb d_Md_isClass_27 rfl (lv_at hl 0 rfl) ?_
      refine va_get (D := D) (ci := 6) (v := .ref a11) (C := R_Md) (T := T_Md) (N := 31) hx hb hts in_Md hown hK hP 0 rfl rfl 11 (by decide) (hts _ cw_745) (fun _ h9 => h9) rfl d_Md_isClass_28 ?_
      refine lv_aload_n hx hb d_Md_isClass_31 rfl (lv_at hl 0 rfl) ?_
      refine va_get (D := D) (ci := 6) (v := .int u27) (C := R_Md) (T := T_Md) (N := 31) hx hb hts in_Md hown hK hP 0 rfl rfl 27 (by decide) (hts _ cw_761) (fun _ h9 => h9) rfl d_Md_isClass_32 ?_
      refine lv_iconst (v := 1) hx hb d_Md_isClass_35 (by decide) ?_
      refine lv_iadd hx hb d_Md_isClass_36 ?_
      refine va_iald hx hb hK hP 1 0 rfl rfl (ix_off (i := 1) (by decide) hf0 hf6 c_1 he6) d_Md_isClass_37 ?_
      refine lv_bipush (v := 108) hx hb d_Md_isClass_38 (by decide) ?_
      refine lv_icmp_ne (tgt := 95) hx hb d_Md_isClass_40 (by decide) (fun c_3 => ?_) (fun c_3 => ?_)
      · refine lv_iconst (v := 0) hx hb d_Md_isClass_95 (by decide) ?_
        exact W.zret (v := 0) hx hb hr (rfl) (fun t ht hW => ⟨_, rfl, by simp [m_mcls, eq_true c_1, eq_true c_2, eq_false c_3], ht⟩) (fun q h => by cases h) d_Md_isClass_96
      · refine lv_aload_n hx hb d_Md_isClass_43 rfl (lv_at hl 0 rfl) ?_
        refine va_get (D := D) (ci := 6) (v := .ref a11) (C := R_Md) (T := T_Md) (N := 31) hx hb hts in_Md hown hK hP 0 rfl rfl 11 (by decide) (hts _ cw_745) (fun _ h9 => h9) rfl d_Md_isClass_44 ?_
        refine lv_aload_n hx hb d_Md_isClass_47 rfl (lv_at hl 0 rfl) ?_
        refine va_get (D := D) (ci := 6) (v := .int u27) (C := R_Md) (T := T_Md) (N := 31) hx hb hts in_Md hown hK hP 0 rfl rfl 27 (by decide) (hts _ cw_761) (fun _ h9 => h9) rfl d_Md_isClass_48 ?_
        refine lv_iconst (v := 2) hx hb d_Md_isClass_51 (by decide) ?_
        refine lv_iadd hx hb d_Md_isClass_52 ?_
        refine va_iald hx hb hK hP 1 0 rfl rfl (ix_off (i := 2) (by decide) hf0 hf6 c_1 he6) d_Md_isClass_53 ?_
        refine lv_bipush (v := 97) hx hb d_Md_isClass_54 (by decide) ?_
        refine lv_icmp_ne (tgt := 95) hx hb d_Md_isClass_56 (by decide) (fun c_4 => ?_) (fun c_4 => ?_)
        · refine lv_iconst (v := 0) hx hb d_Md_isClass_95 (by decide) ?_
          exact W.zret (v := 0) hx hb hr (rfl) (fun t ht hW => ⟨_, rfl, by simp [m_mcls, eq_true c_1, eq_true c_2, eq_true c_3, eq_false c_4], ht⟩) (fun q h => by cases h) d_Md_isClass_96
        · refine lv_aload_n hx hb d_Md_isClass_59 rfl (lv_at hl 0 rfl) ?_
          refine va_get (D := D) (ci := 6) (v := .ref a11) (C := R_Md) (T := T_Md) (N := 31) hx hb hts in_Md hown hK hP 0 rfl rfl 11 (by decide) (hts _ cw_745) (fun _ h9 => h9) rfl d_Md_isClass_60 ?_
          refine lv_aload_n hx hb d_Md_isClass_63 rfl (lv_at hl 0 rfl) ?_
          refine va_get (D := D) (ci := 6) (v := .int u27) (C := R_Md) (T := T_Md) (N := 31) hx hb hts in_Md hown hK hP 0 rfl rfl 27 (by decide) (hts _ cw_761) (fun _ h9 => h9) rfl d_Md_isClass_64 ?_
          refine lv_iconst (v := 3) hx hb d_Md_isClass_67 (by decide) ?_
          refine lv_iadd hx hb d_Md_isClass_68 ?_
          refine va_iald hx hb hK hP 1 0 rfl rfl (ix_off (i := 3) (by decide) hf0 hf6 c_1 he6) d_Md_isClass_69 ?_
          refine lv_bipush (v := 115) hx hb d_Md_isClass_70 (by decide) ?_
          refine lv_icmp_ne (tgt := 95) hx hb d_Md_isClass_72 (by decide) (fun c_5 => ?_) (fun c_5 => ?_)
          · refine lv_iconst (v := 0) hx hb d_Md_isClass_95 (by decide) ?_
            exact W.zret (v := 0) hx hb hr (rfl) (fun t ht hW => ⟨_, rfl, by simp [m_mcls, eq_true c_1, eq_true c_2, eq_true c_3, eq_true c_4, eq_false c_5], ht⟩) (fun q h => by cases h) d_Md_isClass_96
          · refine lv_aload_n hx hb d_Md_isClass_75 rfl (lv_at hl 0 rfl) ?_
            refine va_get (D := D) (ci := 6) (v := .ref a11) (C := R_Md) (T := T_Md) (N := 31) hx hb hts in_Md hown hK hP 0 rfl rfl 11 (by decide) (hts _ cw_745) (fun _ h9 => h9) rfl d_Md_isClass_76 ?_
            refine lv_aload_n hx hb d_Md_isClass_79 rfl (lv_at hl 0 rfl) ?_
            refine va_get (D := D) (ci := 6) (v := .int u27) (C := R_Md) (T := T_Md) (N := 31) hx hb hts in_Md hown hK hP 0 rfl rfl 27 (by decide) (hts _ cw_761) (fun _ h9 => h9) rfl d_Md_isClass_80 ?_
            refine lv_iconst (v := 4) hx hb d_Md_isClass_83 (by decide) ?_
            refine lv_iadd hx hb d_Md_isClass_84 ?_
            refine va_iald hx hb hK hP 1 0 rfl rfl (ix_off (i := 4) (by decide) hf0 hf6 c_1 he6) d_Md_isClass_85 ?_
            refine lv_bipush (v := 115) hx hb d_Md_isClass_86 (by decide) ?_
            refine lv_icmp_ne (tgt := 95) hx hb d_Md_isClass_88 (by decide) (fun c_6 => ?_) (fun c_6 => ?_)
            · refine lv_iconst (v := 0) hx hb d_Md_isClass_95 (by decide) ?_
              exact W.zret (v := 0) hx hb hr (rfl) (fun t ht hW => ⟨_, rfl, by simp [m_mcls, eq_true c_1, eq_true c_2, eq_true c_3, eq_true c_4, eq_true c_5, eq_false c_6], ht⟩) (fun q h => by cases h) d_Md_isClass_96
            · refine lv_iconst (v := 1) hx hb d_Md_isClass_91 (by decide) ?_
              refine lv_goto (tgt := 96) hx hb d_Md_isClass_92 (by decide) ?_
              exact W.zret (v := 1) hx hb hr (rfl) (fun t ht hW => ⟨_, rfl, by simp [m_mcls, eq_true c_1, eq_true c_2, eq_true c_3, eq_true c_4, eq_true c_5, eq_true c_6], ht⟩) (fun q h => by cases h) d_Md_isClass_96

set_option maxHeartbeats 4000000 in
set_option maxRecDepth 100000 in
theorem c_Md_isLetter (l : Launch) (D : va_G)  (h0 : Nat) (u0 : Int32) (a1 : Nat) (u2 : Int32) (u3 : Int32) (a4 : Nat) (a5 : Nat) (a6 : Nat) (a7 : Nat) (a8 : Nat) (a9 : Nat) (a10 : Nat) (a11 : Nat) (u12 : Int32) (u13 : Int32) (a14 : Nat) (a15 : Nat) (a16 : Nat) (u17 : Int32) (a18 : Nat) (a19 : Nat) (a20 : Nat) (u21 : Int32) (a22 : Nat) (a23 : Nat) (u24 : Int32) (a25 : Nat) (a26 : Nat) (u27 : Int32) (u28 : Int32) (u29 : Int32) (u30 : Int32) (k11 : ClassId) (c11 : Nat → Int32) (sz : Nat) (hf0 : ¬ u27 < 0) (hf6 : u27 < 600) (he6 : u28 ≤ 600) : Met l y_Md_isLetter ws_Md_isLetter ({ frames := 0, cells := 0, slots := 0, locals := 0 }) (va_Pc [.ref h0] (cx_pre D [(k11, .int)] ([(h0, .inr (6, [.int u0, .ref a1, .int u2, .int u3, .ref a4, .ref a5, .ref a6, .ref a7, .ref a8, .ref a9, .ref a10, .ref a11, .int u12, .int u13, .ref a14, .ref a15, .ref a16, .int u17, .ref a18, .ref a19, .ref a20, .int u21, .ref a22, .ref a23, .int u24, .ref a25, .ref a26, .int u27, .int u28, .int u29, .int u30])), (a11, .inl (k11, 600, .inl c11))]) sz)) (vp_Si (fun r9 => r9 = m_mlet c11 u27 u28)) 0 0 (fun _ => False) := by
  refine Met.ofW (cc := b_Md_isLetter) (maxL := 1) (ret := (some .boolean)) (by decide) rfl ?_
  intro p e s m args below meth c s₁ B hml hv
  obtain ⟨rfl, hsz, hP, hK, hD0, hN, hO⟩ := hv
  have hx := B.exec
  have hb := B.bytes
  have hr := B.returns
  have hts := fun (w : Cond) (h : w ∈ cx_tbl) => atoms_spec (ws := ws_Md_isLetter) B.pre w (List.mem_cons_of_mem _ h)
  have hown : s.vm.findClass R_Md = some m.cls := findClass_of_methodNamed B.named
  have hlocks := B.notSynchronized
  subst hsz
  have hD := hD0.self (sz := s.heap.size)
  generalize hAe : va_A ([(h0, .inr (6, [.int u0, .ref a1, .int u2, .int u3, .ref a4, .ref a5, .ref a6, .ref a7, .ref a8, .ref a9, .ref a10, .ref a11, .int u12, .int u13, .ref a14, .ref a15, .ref a16, .int u17, .ref a18, .ref a19, .ref a20, .int u21, .ref a22, .ref a23, .int u24, .ref a25, .ref a26, .int u27, .int u28, .int u29, .int u30])), (a11, .inl (k11, 600, .inl c11))]) s.heap.size = A at hD hO
  have hA : ∀ q : Nat, s.heap.size ≤ q → A q := fun q h => by rw [← hAe]; exact Or.inr h
  have hS : va_S A s.heap s.heap [] := va_S.rf
  have hl := lv_entry ([.ref h0]) (n := 1) (Nat.le_of_ble_eq_true rfl)
  rw [lg_entry_eq]
  generalize (lg_sl ([.ref h0]) ++ List.replicate (1 - (lg_sl ([.ref h0])).length) Slot.unset).toArray = ls at hl ⊢
  have hl : lv_has ls 1 [(0, .ref h0)] := hl
  refine lv_aload_n hx hb d_Md_isLetter_0 rfl (lv_at hl 0 rfl) ?_
  refine va_get (D := D) (ci := 6) (v := .int u28) (C := R_Md) (T := T_Md) (N := 31) hx hb hts in_Md hown hK hP 0 rfl rfl 28 (by decide) (hts _ cw_762) (fun _ h9 => h9) rfl d_Md_isLetter_1 ?_
  refine lv_aload_n hx hb d_Md_isLetter_4 rfl (lv_at hl 0 rfl) ?_
  refine va_get (D := D) (ci := 6) (v := .int u27) (C := R_Md) (T := T_Md) (N := 31) hx hb hts in_Md hown hK hP 0 rfl rfl 27 (by decide) (hts _ cw_761) (fun _ h9 => h9) rfl d_Md_isLetter_5 ?_
  refine lv_isub hx hb d_Md_isLetter_8 ?_
  refine lv_iconst (v := 1) hx hb d_Md_isLetter_9 (by decide) ?_
  refine lv_icmp_ne (tgt := 59) hx hb d_Md_isLetter_10 (by decide) (fun c_1 => ?_) (fun c_1 => ?_)
  · refine lv_iconst (v := 0) hx hb d_Md_isLetter_59 (by decide) ?_
    exact W.zret (v := 0) hx hb hr (rfl) (fun t ht hW => ⟨_, rfl, by simp [m_mlet, eq_false c_1], ht⟩) (fun q h => by cases h) d_Md_isLetter_60
  · refine lv_aload_n hx hb d_Md_isLetter_13 rfl (lv_at hl 0 rfl) ?_
    refine va_get (D := D) (ci := 6) (v := .ref a11) (C := R_Md) (T := T_Md) (N := 31) hx hb hts in_Md hown hK hP 0 rfl rfl 11 (by decide) (hts _ cw_745) (fun _ h9 => h9) rfl d_Md_isLetter_14 ?_
    refine lv_aload_n hx hb d_Md_isLetter_17 rfl (lv_at hl 0 rfl) ?_
    refine va_get (D := D) (ci := 6) (v := .int u27) (C := R_Md) (T := T_Md) (N := 31) hx hb hts in_Md hown hK hP 0 rfl rfl 27 (by decide) (hts _ cw_761) (fun _ h9 => h9) rfl d_Md_isLetter_18 ?_
    refine va_iald hx hb hK hP 1 0 rfl rfl (cx_ixl (n := 600) (by decide) hf0 hf6) d_Md_isLetter_21 ?_
    refine lv_bipush (v := 113) hx hb d_Md_isLetter_22 (by decide) ?_
    refine lv_icmp_eq (tgt := 55) hx hb d_Md_isLetter_24 (by decide) (fun c_2 => ?_) (fun c_2 => ?_)
    · refine lv_iconst (v := 1) hx hb d_Md_isLetter_55 (by decide) ?_
      refine lv_goto (tgt := 60) hx hb d_Md_isLetter_56 (by decide) ?_
      exact W.zret (v := 1) hx hb hr (rfl) (fun t ht hW => ⟨_, rfl, by simp [m_mlet, eq_true c_1, eq_true c_2], ht⟩) (fun q h => by cases h) d_Md_isLetter_60
    · refine lv_aload_n hx hb d_Md_isLetter_27 rfl (lv_at hl 0 rfl) ?_
      refine va_get (D := D) (ci := 6) (v := .ref a11) (C := R_Md) (T := T_Md) (N := 31) hx hb hts in_Md hown hK hP 0 rfl rfl 11 (by decide) (hts _ cw_745) (fun _ h9 => h9) rfl d_Md_isLetter_28 ?_
      refine lv_aload_n hx hb d_Md_isLetter_31 rfl (lv_at hl 0 rfl) ?_
      refine va_get (D := D) (ci := 6) (v := .int u27) (C := R_Md) (T := T_Md) (N := 31) hx hb hts in_Md hown hK hP 0 rfl rfl 27 (by decide) (hts _ cw_761) (fun _ h9 => h9) rfl d_Md_isLetter_32 ?_
      refine va_iald hx hb hK hP 1 0 rfl rfl (cx_ixl (n := 600) (by decide) hf0 hf6) d_Md_isLetter_35 ?_
      refine lv_bipush (v := 118) hx hb d_Md_isLetter_36 (by decide) ?_
      refine lv_icmp_eq (tgt := 55) hx hb d_Md_isLetter_38 (by decide) (fun c_3 => ?_) (fun c_3 => ?_)
      · refine lv_iconst (v := 1) hx hb d_Md_isLetter_55 (by decide) ?_
        refine lv_goto (tgt := 60) hx hb d_Md_isLetter_56 (by decide) ?_
        exact W.zret (v := 1) hx hb hr (rfl) (fun t ht hW => ⟨_, rfl, by simp [m_mlet, eq_true c_1, eq_false c_2, eq_true c_3], ht⟩) (fun q h => by cases h) d_Md_isLetter_60
      · refine lv_aload_n hx hb d_Md_isLetter_41 rfl (lv_at hl 0 rfl) ?_
        refine va_get (D := D) (ci := 6) (v := .ref a11) (C := R_Md) (T := T_Md) (N := 31) hx hb hts in_Md hown hK hP 0 rfl rfl 11 (by decide) (hts _ cw_745) (fun _ h9 => h9) rfl d_Md_isLetter_42 ?_
        refine lv_aload_n hx hb d_Md_isLetter_45 rfl (lv_at hl 0 rfl) ?_
        refine va_get (D := D) (ci := 6) (v := .int u27) (C := R_Md) (T := T_Md) (N := 31) hx hb hts in_Md hown hK hP 0 rfl rfl 27 (by decide) (hts _ cw_761) (fun _ h9 => h9) rfl d_Md_isLetter_46 ?_
        refine va_iald hx hb hK hP 1 0 rfl rfl (cx_ixl (n := 600) (by decide) hf0 hf6) d_Md_isLetter_49 ?_
        refine lv_bipush (v := 114) hx hb d_Md_isLetter_50 (by decide) ?_
        refine lv_icmp_ne (tgt := 59) hx hb d_Md_isLetter_52 (by decide) (fun c_4 => ?_) (fun c_4 => ?_)
        · refine lv_iconst (v := 0) hx hb d_Md_isLetter_59 (by decide) ?_
          exact W.zret (v := 0) hx hb hr (rfl) (fun t ht hW => ⟨_, rfl, by simp [m_mlet, eq_true c_1, eq_false c_2, eq_false c_3, eq_false c_4], ht⟩) (fun q h => by cases h) d_Md_isLetter_60
        · refine lv_iconst (v := 1) hx hb d_Md_isLetter_55 (by decide) ?_
          refine lv_goto (tgt := 60) hx hb d_Md_isLetter_56 (by decide) ?_
          exact W.zret (v := 1) hx hb hr (rfl) (fun t ht hW => ⟨_, rfl, by simp [m_mlet, eq_true c_1, eq_false c_2, eq_false c_3, eq_true c_4], ht⟩) (fun q h => by cases h) d_Md_isLetter_60

set_option maxHeartbeats 4000000 in
set_option maxRecDepth 100000 in
theorem c_Md_numberAt (l : Launch) (D : va_G)  (h0 : Nat) (u0 : Int32) (a1 : Nat) (u2 : Int32) (u3 : Int32) (a4 : Nat) (a5 : Nat) (a6 : Nat) (a7 : Nat) (a8 : Nat) (a9 : Nat) (a10 : Nat) (a11 : Nat) (u12 : Int32) (u13 : Int32) (a14 : Nat) (a15 : Nat) (a16 : Nat) (u17 : Int32) (a18 : Nat) (a19 : Nat) (a20 : Nat) (u21 : Int32) (a22 : Nat) (a23 : Nat) (u24 : Int32) (a25 : Nat) (a26 : Nat) (u27 : Int32) (u28 : Int32) (u29 : Int32) (u30 : Int32) (k11 : ClassId) (c11 : Nat → Int32) (sz : Nat) (hf0 : ¬ u27 < 0) (hf6 : u27 < 600) (he6 : u28 ≤ 600) : Met l y_Md_numberAt ws_Md_numberAt ({ frames := 0, cells := 0, slots := 0, locals := 0 }) (va_Pc [.ref h0] (cx_pre D [(k11, .int)] ([(h0, .inr (6, [.int u0, .ref a1, .int u2, .int u3, .ref a4, .ref a5, .ref a6, .ref a7, .ref a8, .ref a9, .ref a10, .ref a11, .int u12, .int u13, .ref a14, .ref a15, .ref a16, .int u17, .ref a18, .ref a19, .ref a20, .int u21, .ref a22, .ref a23, .int u24, .ref a25, .ref a26, .int u27, .int u28, .int u29, .int u30])), (a11, .inl (k11, 600, .inl c11))]) sz)) (vp_Si (fun r9 => r9 = m_numberAt c11 u27 u28)) 0 0 (fun _ => False) := by
  refine Met.ofW (cc := b_Md_numberAt) (maxL := 5) (ret := (some .int)) (by decide) rfl ?_
  intro p e s m args below meth c s₁ B hml hv
  obtain ⟨rfl, hsz, hP, hK, hD0, hN, hO⟩ := hv
  have hx := B.exec
  have hb := B.bytes
  have hr := B.returns
  have hts := fun (w : Cond) (h : w ∈ cx_tbl) => atoms_spec (ws := ws_Md_numberAt) B.pre w (List.mem_cons_of_mem _ h)
  have hown : s.vm.findClass R_Md = some m.cls := findClass_of_methodNamed B.named
  have hlocks := B.notSynchronized
  subst hsz
  have hD := hD0.self (sz := s.heap.size)
  generalize hAe : va_A ([(h0, .inr (6, [.int u0, .ref a1, .int u2, .int u3, .ref a4, .ref a5, .ref a6, .ref a7, .ref a8, .ref a9, .ref a10, .ref a11, .int u12, .int u13, .ref a14, .ref a15, .ref a16, .int u17, .ref a18, .ref a19, .ref a20, .int u21, .ref a22, .ref a23, .int u24, .ref a25, .ref a26, .int u27, .int u28, .int u29, .int u30])), (a11, .inl (k11, 600, .inl c11))]) s.heap.size = A at hD hO
  have hA : ∀ q : Nat, s.heap.size ≤ q → A q := fun q h => by rw [← hAe]; exact Or.inr h
  have hS : va_S A s.heap s.heap [] := va_S.rf
  have hl := lv_entry ([.ref h0]) (n := 5) (Nat.le_of_ble_eq_true rfl)
  rw [lg_entry_eq]
  generalize (lg_sl ([.ref h0]) ++ List.replicate (5 - (lg_sl ([.ref h0])).length) Slot.unset).toArray = ls at hl ⊢
  have hl : lv_has ls 5 [(0, .ref h0)] := hl
  refine cx_q (fun Q hQ => ?_)
  refine lv_aload_n hx hb d_Md_numberAt_0 rfl (lv_at hl 0 rfl) ?_
  refine va_get (D := D) (ci := 6) (v := .ref a11) (C := R_Md) (T := T_Md) (N := 31) hx hb hts in_Md hown hK hP 0 rfl rfl 11 (by decide) (hts _ cw_745) (fun _ h9 => h9) rfl d_Md_numberAt_1 ?_
  refine lv_aload_n hx hb d_Md_numberAt_4 rfl (lv_at hl 0 rfl) ?_
  refine va_get (D := D) (ci := 6) (v := .int u27) (C := R_Md) (T := T_Md) (N := 31) hx hb hts in_Md hown hK hP 0 rfl rfl 27 (by decide) (hts _ cw_761) (fun _ h9 => h9) rfl d_Md_numberAt_5 ?_
  refine va_iald hx hb hK hP 1 0 rfl rfl (cx_ixl (n := 600) (by decide) hf0 hf6) d_Md_numberAt_8 ?_
  refine lv_bipush (v := 45) hx hb d_Md_numberAt_9 (by decide) ?_
  refine lv_icmp_ne (tgt := 18) hx hb d_Md_numberAt_11 (by decide) (fun c_1 => ?_) (fun c_1 => ?_)
  · refine lv_iconst (v := 0) hx hb d_Md_numberAt_18 (by decide) ?_
    refine lv_istore_n (lv' := [(1, .int 0), (0, .ref h0)]) hx hb d_Md_numberAt_19 rfl hl (by decide) rfl (fun ls hl => ?_)
    refine lv_iload_n hx hb d_Md_numberAt_20 rfl (lv_at hl 0 rfl) ?_
    refine lv_if_eq (tgt := 33) hx hb d_Md_numberAt_21 (by decide) (fun c_2 => ?_) (fun c_2 => ?_)
    · refine lv_aload_n hx hb d_Md_numberAt_33 rfl (lv_at hl 1 rfl) ?_
      refine va_get (D := D) (ci := 6) (v := .int u27) (C := R_Md) (T := T_Md) (N := 31) hx hb hts in_Md hown hK hP 0 rfl rfl 27 (by decide) (hts _ cw_761) (fun _ h9 => h9) rfl d_Md_numberAt_34 ?_
      refine lv_istore_n (lv' := [(2, .int u27), (1, .int 0), (0, .ref h0)]) hx hb d_Md_numberAt_37 rfl hl (by decide) rfl (fun ls hl => ?_)
      refine lv_aload_n hx hb d_Md_numberAt_38 rfl (lv_at hl 2 rfl) ?_
      refine va_get (D := D) (ci := 6) (v := .int u28) (C := R_Md) (T := T_Md) (N := 31) hx hb hts in_Md hown hK hP 0 rfl rfl 28 (by decide) (hts _ cw_762) (fun _ h9 => h9) rfl d_Md_numberAt_39 ?_
      refine lv_iload_n hx hb d_Md_numberAt_42 rfl (lv_at hl 0 rfl) ?_
      refine lv_isub hx hb d_Md_numberAt_43 ?_
      refine lv_iconst (v := 1) hx hb d_Md_numberAt_44 (by decide) ?_
      refine lv_icmp_lt (tgt := 63) hx hb d_Md_numberAt_45 (by decide) (fun c_3 => ?_) (fun c_3 => ?_)
      · refine lv_ldc (v := (-10000000)) hx hb hown (hts _ cw_918) d_Md_numberAt_63 ?_
        refine lv_istore_n (lv' := [(3, .int (-10000000)), (2, .int u27), (1, .int 0), (0, .ref h0)]) hx hb d_Md_numberAt_65 rfl hl (by decide) rfl (fun ls hl => ?_)
        refine lv_iload_n hx hb d_Md_numberAt_66 rfl (lv_at hl 1 rfl) ?_
        refine lv_istore (lv' := [(4, .int u27), (3, .int (-10000000)), (2, .int u27), (1, .int 0), (0, .ref h0)]) hx hb d_Md_numberAt_67 hl (by decide) rfl (fun ls hl => ?_)
        have loop_4 : ∀ (n : Nat) (x : Int32) (val : Int32) (hn : (u28.toInt - x.toInt).toNat < n) (hg : m_numR c11 u28 ((u28.toInt - u27.toInt).toNat + 1) u27 (-10000000) = m_numR c11 u28 n x val) (hx0 : ¬ x < 0) (ls : Array Slot) (hl : lv_has ls 5 [(0, .ref h0), (1, .int 0), (2, .int u27), (3, .int val), (4, .int x)]), W p l e ({ frames := 0, cells := 0, slots := 0, locals := 0 }) s m [.ref h0].toArray below meth c s.heap [] 0 0 Q (F0 m 69 ls []) := by
          intro n
          induction n with
          | zero =>
            intro x val hn hg hx0 ls hl
            exact absurd hn (Nat.not_lt_zero _)
          | succ n ih_69 =>
            intro x val hn hg hx0 ls hl
            refine lv_iload hx hb d_Md_numberAt_69 (lv_at hl 4 rfl) ?_
            refine lv_aload_n hx hb d_Md_numberAt_71 rfl (lv_at hl 0 rfl) ?_
            refine va_get (D := D) (ci := 6) (v := .int u28) (C := R_Md) (T := T_Md) (N := 31) hx hb hts in_Md hown hK hP 0 rfl rfl 28 (by decide) (hts _ cw_762) (fun _ h9 => h9) rfl d_Md_numberAt_72 ?_
            refine lv_icmp_ge (tgt := 133) hx hb d_Md_numberAt_75 (by decide) (fun c_5 => ?_) (fun c_5 => ?_)
            · refine lv_iload_n hx hb d_Md_numberAt_133 rfl (lv_at hl 3 rfl) ?_
              refine lv_if_lt (tgt := 146) hx hb d_Md_numberAt_134 (by decide) (fun c_6 => ?_) (fun c_6 => ?_)
              · refine lv_iload_n hx hb d_Md_numberAt_146 rfl (lv_at hl 3 rfl) ?_
                subst hQ
                exact W.iret (v := val) hx hb hr (fun t ht hW => ⟨_, rfl, (by have hz : m_numR c11 u28 ((u28.toInt - u27.toInt).toNat + 1) u27 (-10000000) = val := hg.trans (by rw [m_numR]; simp [eq_false c_1, eq_true c_3, eq_true c_5, eq_true c_6]); unfold m_numberAt; rw [hz]; simp [eq_false c_1, eq_true c_3, eq_true c_5, eq_true c_6]), ht⟩) (fun q h => by cases h) d_Md_numberAt_147
              · refine lv_iload_n hx hb d_Md_numberAt_137 rfl (lv_at hl 1 rfl) ?_
                refine lv_if_eq (tgt := 146) hx hb d_Md_numberAt_138 (by decide) (fun c_7 => ?_) (fun c_7 => ?_)
                · refine lv_iload_n hx hb d_Md_numberAt_146 rfl (lv_at hl 3 rfl) ?_
                  subst hQ
                  exact W.iret (v := val) hx hb hr (fun t ht hW => ⟨_, rfl, (by have hz : m_numR c11 u28 ((u28.toInt - u27.toInt).toNat + 1) u27 (-10000000) = val := hg.trans (by rw [m_numR]; simp [eq_false c_1, eq_true c_3, eq_true c_5, eq_false c_6]); unfold m_numberAt; rw [hz]; simp [eq_false c_1, eq_true c_3, eq_true c_5, eq_false c_6]), ht⟩) (fun q h => by cases h) d_Md_numberAt_147
                · exact absurd c_7 (by decide)
            · refine lv_iload_n hx hb d_Md_numberAt_78 rfl (lv_at hl 3 rfl) ?_
              refine lv_if_lt (tgt := 133) hx hb d_Md_numberAt_79 (by decide) (fun c_8 => ?_) (fun c_8 => ?_)
              · refine lv_iload_n hx hb d_Md_numberAt_133 rfl (lv_at hl 3 rfl) ?_
                refine lv_if_lt (tgt := 146) hx hb d_Md_numberAt_134 (by decide) (fun c_9 => ?_) (fun c_9 => ?_)
                · refine lv_iload_n hx hb d_Md_numberAt_146 rfl (lv_at hl 3 rfl) ?_
                  subst hQ
                  exact W.iret (v := val) hx hb hr (fun t ht hW => ⟨_, rfl, (by have hz : m_numR c11 u28 ((u28.toInt - u27.toInt).toNat + 1) u27 (-10000000) = val := hg.trans (by rw [m_numR]; simp [eq_false c_1, eq_true c_3, eq_false c_5, eq_true c_8, eq_true c_9]); unfold m_numberAt; rw [hz]; simp [eq_false c_1, eq_true c_3, eq_false c_5, eq_true c_8, eq_true c_9]), ht⟩) (fun q h => by cases h) d_Md_numberAt_147
                · exact absurd c_8 c_9
              · refine lv_aload_n hx hb d_Md_numberAt_82 rfl (lv_at hl 0 rfl) ?_
                refine va_get (D := D) (ci := 6) (v := .ref a11) (C := R_Md) (T := T_Md) (N := 31) hx hb hts in_Md hown hK hP 0 rfl rfl 11 (by decide) (hts _ cw_745) (fun _ h9 => h9) rfl d_Md_numberAt_83 ?_
                refine lv_iload hx hb d_Md_numberAt_86 (lv_at hl 4 rfl) ?_
                refine va_iald hx hb hK hP 1 0 rfl rfl (ix_mid (n := 600) (by decide) hx0 c_5 he6) d_Md_numberAt_88 ?_
                refine lv_bipush (v := 48) hx hb d_Md_numberAt_89 (by decide) ?_
                refine lv_icmp_lt (tgt := 124) hx hb d_Md_numberAt_91 (by decide) (fun c_10 => ?_) (fun c_10 => ?_)
                · refine lv_ldc (v := (-10000000)) hx hb hown (hts _ cw_918) d_Md_numberAt_124 ?_
                  refine lv_istore_n (lv' := [(3, .int (-10000000)), (0, .ref h0), (1, .int 0), (2, .int u27), (4, .int x)]) hx hb d_Md_numberAt_126 rfl hl (by decide) rfl (fun ls hl => ?_)
                  refine lv_iinc (v := x + 1) (lv' := [(4, .int (x + 1)), (3, .int (-10000000)), (0, .ref h0), (1, .int 0), (2, .int u27)]) hx hb d_Md_numberAt_127 hl (k := 4) rfl (rfl) (by decide) rfl (fun ls hl => ?_)
                  refine lv_goto (tgt := 69) hx hb d_Md_numberAt_130 (by decide) ?_
                  exact ih_69 (x + 1) (-10000000) (ix_up hn c_5) (hg.trans (by rw [m_numR]; simp [eq_false c_1, eq_true c_3, eq_false c_5, eq_false c_8, eq_true c_10])) (ix_up0 hx0 c_5) ls (lv_sub hl [2, 3, 4, 1, 0] rfl)
                · refine lv_aload_n hx hb d_Md_numberAt_94 rfl (lv_at hl 0 rfl) ?_
                  refine va_get (D := D) (ci := 6) (v := .ref a11) (C := R_Md) (T := T_Md) (N := 31) hx hb hts in_Md hown hK hP 0 rfl rfl 11 (by decide) (hts _ cw_745) (fun _ h9 => h9) rfl d_Md_numberAt_95 ?_
                  refine lv_iload hx hb d_Md_numberAt_98 (lv_at hl 4 rfl) ?_
                  refine va_iald hx hb hK hP 1 0 rfl rfl (ix_mid (n := 600) (by decide) hx0 c_5 he6) d_Md_numberAt_100 ?_
                  refine lv_bipush (v := 57) hx hb d_Md_numberAt_101 (by decide) ?_
                  refine lv_icmp_gt (tgt := 124) hx hb d_Md_numberAt_103 (by decide) (fun c_11 => ?_) (fun c_11 => ?_)
                  · refine lv_ldc (v := (-10000000)) hx hb hown (hts _ cw_918) d_Md_numberAt_124 ?_
                    refine lv_istore_n (lv' := [(3, .int (-10000000)), (0, .ref h0), (1, .int 0), (2, .int u27), (4, .int x)]) hx hb d_Md_numberAt_126 rfl hl (by decide) rfl (fun ls hl => ?_)
                    refine lv_iinc (v := x + 1) (lv' := [(4, .int (x + 1)), (3, .int (-10000000)), (0, .ref h0), (1, .int 0), (2, .int u27)]) hx hb d_Md_numberAt_127 hl (k := 4) rfl (rfl) (by decide) rfl (fun ls hl => ?_)
                    refine lv_goto (tgt := 69) hx hb d_Md_numberAt_130 (by decide) ?_
                    exact ih_69 (x + 1) (-10000000) (ix_up hn c_5) (hg.trans (by rw [m_numR]; simp [eq_false c_1, eq_true c_3, eq_false c_5, eq_false c_8, eq_false c_10, eq_true c_11])) (ix_up0 hx0 c_5) ls (lv_sub hl [2, 3, 4, 1, 0] rfl)
                  · refine lv_bipush (v := 10) hx hb d_Md_numberAt_106 (by decide) ?_
                    refine lv_iload_n hx hb d_Md_numberAt_108 rfl (lv_at hl 3 rfl) ?_
                    refine lv_imul hx hb d_Md_numberAt_109 ?_
                    refine lv_aload_n hx hb d_Md_numberAt_110 rfl (lv_at hl 0 rfl) ?_
                    refine va_get (D := D) (ci := 6) (v := .ref a11) (C := R_Md) (T := T_Md) (N := 31) hx hb hts in_Md hown hK hP 0 rfl rfl 11 (by decide) (hts _ cw_745) (fun _ h9 => h9) rfl d_Md_numberAt_111 ?_
                    refine lv_iload hx hb d_Md_numberAt_114 (lv_at hl 4 rfl) ?_
                    refine va_iald hx hb hK hP 1 0 rfl rfl (ix_mid (n := 600) (by decide) hx0 c_5 he6) d_Md_numberAt_116 ?_
                    refine lv_iadd hx hb d_Md_numberAt_117 ?_
                    refine lv_bipush (v := 48) hx hb d_Md_numberAt_118 (by decide) ?_
                    refine lv_isub hx hb d_Md_numberAt_120 ?_
                    refine lv_goto (tgt := 126) hx hb d_Md_numberAt_121 (by decide) ?_
                    refine lv_istore_n (lv' := [(3, .int (((10 * val) + (c11 x.toNatClampNeg)) - 48)), (0, .ref h0), (1, .int 0), (2, .int u27), (4, .int x)]) hx hb d_Md_numberAt_126 rfl hl (by decide) rfl (fun ls hl => ?_)
                    refine lv_iinc (v := x + 1) (lv' := [(4, .int (x + 1)), (3, .int (((10 * val) + (c11 x.toNatClampNeg)) - 48)), (0, .ref h0), (1, .int 0), (2, .int u27)]) hx hb d_Md_numberAt_127 hl (k := 4) rfl (rfl) (by decide) rfl (fun ls hl => ?_)
                    refine lv_goto (tgt := 69) hx hb d_Md_numberAt_130 (by decide) ?_
                    exact ih_69 (x + 1) (((10 * val) + (c11 x.toNatClampNeg)) - 48) (ix_up hn c_5) (hg.trans (by rw [m_numR]; simp [eq_false c_1, eq_true c_3, eq_false c_5, eq_false c_8, eq_false c_10, eq_false c_11])) (ix_up0 hx0 c_5) ls (lv_sub hl [2, 3, 4, 1, 0] rfl)
        exact loop_4 ((u28.toInt - u27.toInt).toNat + 1) u27 (-10000000) (Nat.lt_succ_self _) (rfl) (hf0) ls (lv_sub hl [4, 3, 2, 1, 0] rfl)
      · refine lv_aload_n hx hb d_Md_numberAt_48 rfl (lv_at hl 2 rfl) ?_
        refine va_get (D := D) (ci := 6) (v := .int u28) (C := R_Md) (T := T_Md) (N := 31) hx hb hts in_Md hown hK hP 0 rfl rfl 28 (by decide) (hts _ cw_762) (fun _ h9 => h9) rfl d_Md_numberAt_49 ?_
        refine lv_iload_n hx hb d_Md_numberAt_52 rfl (lv_at hl 0 rfl) ?_
        refine lv_isub hx hb d_Md_numberAt_53 ?_
        refine lv_bipush (v := 6) hx hb d_Md_numberAt_54 (by decide) ?_
        refine lv_icmp_gt (tgt := 63) hx hb d_Md_numberAt_56 (by decide) (fun c_12 => ?_) (fun c_12 => ?_)
        · refine lv_ldc (v := (-10000000)) hx hb hown (hts _ cw_918) d_Md_numberAt_63 ?_
          refine lv_istore_n (lv' := [(3, .int (-10000000)), (2, .int u27), (1, .int 0), (0, .ref h0)]) hx hb d_Md_numberAt_65 rfl hl (by decide) rfl (fun ls hl => ?_)
          refine lv_iload_n hx hb d_Md_numberAt_66 rfl (lv_at hl 1 rfl) ?_
          refine lv_istore (lv' := [(4, .int u27), (3, .int (-10000000)), (2, .int u27), (1, .int 0), (0, .ref h0)]) hx hb d_Md_numberAt_67 hl (by decide) rfl (fun ls hl => ?_)
          have loop_13 : ∀ (n : Nat) (x : Int32) (val : Int32) (hn : (u28.toInt - x.toInt).toNat < n) (hg : m_numR c11 u28 ((u28.toInt - u27.toInt).toNat + 1) u27 (-10000000) = m_numR c11 u28 n x val) (hx0 : ¬ x < 0) (ls : Array Slot) (hl : lv_has ls 5 [(0, .ref h0), (1, .int 0), (2, .int u27), (3, .int val), (4, .int x)]), W p l e ({ frames := 0, cells := 0, slots := 0, locals := 0 }) s m [.ref h0].toArray below meth c s.heap [] 0 0 Q (F0 m 69 ls []) := by
            intro n
            induction n with
            | zero =>
              intro x val hn hg hx0 ls hl
              exact absurd hn (Nat.not_lt_zero _)
            | succ n ih_69 =>
              intro x val hn hg hx0 ls hl
              refine lv_iload hx hb d_Md_numberAt_69 (lv_at hl 4 rfl) ?_
              refine lv_aload_n hx hb d_Md_numberAt_71 rfl (lv_at hl 0 rfl) ?_
              refine va_get (D := D) (ci := 6) (v := .int u28) (C := R_Md) (T := T_Md) (N := 31) hx hb hts in_Md hown hK hP 0 rfl rfl 28 (by decide) (hts _ cw_762) (fun _ h9 => h9) rfl d_Md_numberAt_72 ?_
              refine lv_icmp_ge (tgt := 133) hx hb d_Md_numberAt_75 (by decide) (fun c_14 => ?_) (fun c_14 => ?_)
              · refine lv_iload_n hx hb d_Md_numberAt_133 rfl (lv_at hl 3 rfl) ?_
                refine lv_if_lt (tgt := 146) hx hb d_Md_numberAt_134 (by decide) (fun c_15 => ?_) (fun c_15 => ?_)
                · refine lv_iload_n hx hb d_Md_numberAt_146 rfl (lv_at hl 3 rfl) ?_
                  subst hQ
                  exact W.iret (v := val) hx hb hr (fun t ht hW => ⟨_, rfl, (by have hz : m_numR c11 u28 ((u28.toInt - u27.toInt).toNat + 1) u27 (-10000000) = val := hg.trans (by rw [m_numR]; simp [eq_false c_1, eq_false c_3, eq_true c_12, eq_true c_14, eq_true c_15]); unfold m_numberAt; rw [hz]; simp [eq_false c_1, eq_false c_3, eq_true c_12, eq_true c_14, eq_true c_15]), ht⟩) (fun q h => by cases h) d_Md_numberAt_147
                · refine lv_iload_n hx hb d_Md_numberAt_137 rfl (lv_at hl 1 rfl) ?_
                  refine lv_if_eq (tgt := 146) hx hb d_Md_numberAt_138 (by decide) (fun c_16 => ?_) (fun c_16 => ?_)
                  · refine lv_iload_n hx hb d_Md_numberAt_146 rfl (lv_at hl 3 rfl) ?_
                    subst hQ
                    exact W.iret (v := val) hx hb hr (fun t ht hW => ⟨_, rfl, (by have hz : m_numR c11 u28 ((u28.toInt - u27.toInt).toNat + 1) u27 (-10000000) = val := hg.trans (by rw [m_numR]; simp [eq_false c_1, eq_false c_3, eq_true c_12, eq_true c_14, eq_false c_15]); unfold m_numberAt; rw [hz]; simp [eq_false c_1, eq_false c_3, eq_true c_12, eq_true c_14, eq_false c_15]), ht⟩) (fun q h => by cases h) d_Md_numberAt_147
                  · exact absurd c_16 (by decide)
              · refine lv_iload_n hx hb d_Md_numberAt_78 rfl (lv_at hl 3 rfl) ?_
                refine lv_if_lt (tgt := 133) hx hb d_Md_numberAt_79 (by decide) (fun c_17 => ?_) (fun c_17 => ?_)
                · refine lv_iload_n hx hb d_Md_numberAt_133 rfl (lv_at hl 3 rfl) ?_
                  refine lv_if_lt (tgt := 146) hx hb d_Md_numberAt_134 (by decide) (fun c_18 => ?_) (fun c_18 => ?_)
                  · refine lv_iload_n hx hb d_Md_numberAt_146 rfl (lv_at hl 3 rfl) ?_
                    subst hQ
                    exact W.iret (v := val) hx hb hr (fun t ht hW => ⟨_, rfl, (by have hz : m_numR c11 u28 ((u28.toInt - u27.toInt).toNat + 1) u27 (-10000000) = val := hg.trans (by rw [m_numR]; simp [eq_false c_1, eq_false c_3, eq_true c_12, eq_false c_14, eq_true c_17, eq_true c_18]); unfold m_numberAt; rw [hz]; simp [eq_false c_1, eq_false c_3, eq_true c_12, eq_false c_14, eq_true c_17, eq_true c_18]), ht⟩) (fun q h => by cases h) d_Md_numberAt_147
                  · exact absurd c_17 c_18
                · refine lv_aload_n hx hb d_Md_numberAt_82 rfl (lv_at hl 0 rfl) ?_
                  refine va_get (D := D) (ci := 6) (v := .ref a11) (C := R_Md) (T := T_Md) (N := 31) hx hb hts in_Md hown hK hP 0 rfl rfl 11 (by decide) (hts _ cw_745) (fun _ h9 => h9) rfl d_Md_numberAt_83 ?_
                  refine lv_iload hx hb d_Md_numberAt_86 (lv_at hl 4 rfl) ?_
                  refine va_iald hx hb hK hP 1 0 rfl rfl (ix_mid (n := 600) (by decide) hx0 c_14 he6) d_Md_numberAt_88 ?_
                  refine lv_bipush (v := 48) hx hb d_Md_numberAt_89 (by decide) ?_
                  refine lv_icmp_lt (tgt := 124) hx hb d_Md_numberAt_91 (by decide) (fun c_19 => ?_) (fun c_19 => ?_)
                  · refine lv_ldc (v := (-10000000)) hx hb hown (hts _ cw_918) d_Md_numberAt_124 ?_
                    refine lv_istore_n (lv' := [(3, .int (-10000000)), (0, .ref h0), (1, .int 0), (2, .int u27), (4, .int x)]) hx hb d_Md_numberAt_126 rfl hl (by decide) rfl (fun ls hl => ?_)
                    refine lv_iinc (v := x + 1) (lv' := [(4, .int (x + 1)), (3, .int (-10000000)), (0, .ref h0), (1, .int 0), (2, .int u27)]) hx hb d_Md_numberAt_127 hl (k := 4) rfl (rfl) (by decide) rfl (fun ls hl => ?_)
                    refine lv_goto (tgt := 69) hx hb d_Md_numberAt_130 (by decide) ?_
                    exact ih_69 (x + 1) (-10000000) (ix_up hn c_14) (hg.trans (by rw [m_numR]; simp [eq_false c_1, eq_false c_3, eq_true c_12, eq_false c_14, eq_false c_17, eq_true c_19])) (ix_up0 hx0 c_14) ls (lv_sub hl [2, 3, 4, 1, 0] rfl)
                  · refine lv_aload_n hx hb d_Md_numberAt_94 rfl (lv_at hl 0 rfl) ?_
                    refine va_get (D := D) (ci := 6) (v := .ref a11) (C := R_Md) (T := T_Md) (N := 31) hx hb hts in_Md hown hK hP 0 rfl rfl 11 (by decide) (hts _ cw_745) (fun _ h9 => h9) rfl d_Md_numberAt_95 ?_
                    refine lv_iload hx hb d_Md_numberAt_98 (lv_at hl 4 rfl) ?_
                    refine va_iald hx hb hK hP 1 0 rfl rfl (ix_mid (n := 600) (by decide) hx0 c_14 he6) d_Md_numberAt_100 ?_
                    refine lv_bipush (v := 57) hx hb d_Md_numberAt_101 (by decide) ?_
                    refine lv_icmp_gt (tgt := 124) hx hb d_Md_numberAt_103 (by decide) (fun c_20 => ?_) (fun c_20 => ?_)
                    · refine lv_ldc (v := (-10000000)) hx hb hown (hts _ cw_918) d_Md_numberAt_124 ?_
                      refine lv_istore_n (lv' := [(3, .int (-10000000)), (0, .ref h0), (1, .int 0), (2, .int u27), (4, .int x)]) hx hb d_Md_numberAt_126 rfl hl (by decide) rfl (fun ls hl => ?_)
                      refine lv_iinc (v := x + 1) (lv' := [(4, .int (x + 1)), (3, .int (-10000000)), (0, .ref h0), (1, .int 0), (2, .int u27)]) hx hb d_Md_numberAt_127 hl (k := 4) rfl (rfl) (by decide) rfl (fun ls hl => ?_)
                      refine lv_goto (tgt := 69) hx hb d_Md_numberAt_130 (by decide) ?_
                      exact ih_69 (x + 1) (-10000000) (ix_up hn c_14) (hg.trans (by rw [m_numR]; simp [eq_false c_1, eq_false c_3, eq_true c_12, eq_false c_14, eq_false c_17, eq_false c_19, eq_true c_20])) (ix_up0 hx0 c_14) ls (lv_sub hl [2, 3, 4, 1, 0] rfl)
                    · refine lv_bipush (v := 10) hx hb d_Md_numberAt_106 (by decide) ?_
                      refine lv_iload_n hx hb d_Md_numberAt_108 rfl (lv_at hl 3 rfl) ?_
                      refine lv_imul hx hb d_Md_numberAt_109 ?_
                      refine lv_aload_n hx hb d_Md_numberAt_110 rfl (lv_at hl 0 rfl) ?_
                      refine va_get (D := D) (ci := 6) (v := .ref a11) (C := R_Md) (T := T_Md) (N := 31) hx hb hts in_Md hown hK hP 0 rfl rfl 11 (by decide) (hts _ cw_745) (fun _ h9 => h9) rfl d_Md_numberAt_111 ?_
                      refine lv_iload hx hb d_Md_numberAt_114 (lv_at hl 4 rfl) ?_
                      refine va_iald hx hb hK hP 1 0 rfl rfl (ix_mid (n := 600) (by decide) hx0 c_14 he6) d_Md_numberAt_116 ?_
                      refine lv_iadd hx hb d_Md_numberAt_117 ?_
                      refine lv_bipush (v := 48) hx hb d_Md_numberAt_118 (by decide) ?_
                      refine lv_isub hx hb d_Md_numberAt_120 ?_
                      refine lv_goto (tgt := 126) hx hb d_Md_numberAt_121 (by decide) ?_
                      refine lv_istore_n (lv' := [(3, .int (((10 * val) + (c11 x.toNatClampNeg)) - 48)), (0, .ref h0), (1, .int 0), (2, .int u27), (4, .int x)]) hx hb d_Md_numberAt_126 rfl hl (by decide) rfl (fun ls hl => ?_)
                      refine lv_iinc (v := x + 1) (lv' := [(4, .int (x + 1)), (3, .int (((10 * val) + (c11 x.toNatClampNeg)) - 48)), (0, .ref h0), (1, .int 0), (2, .int u27)]) hx hb d_Md_numberAt_127 hl (k := 4) rfl (rfl) (by decide) rfl (fun ls hl => ?_)
                      refine lv_goto (tgt := 69) hx hb d_Md_numberAt_130 (by decide) ?_
                      exact ih_69 (x + 1) (((10 * val) + (c11 x.toNatClampNeg)) - 48) (ix_up hn c_14) (hg.trans (by rw [m_numR]; simp [eq_false c_1, eq_false c_3, eq_true c_12, eq_false c_14, eq_false c_17, eq_false c_19, eq_false c_20])) (ix_up0 hx0 c_14) ls (lv_sub hl [2, 3, 4, 1, 0] rfl)
          exact loop_13 ((u28.toInt - u27.toInt).toNat + 1) u27 (-10000000) (Nat.lt_succ_self _) (rfl) (hf0) ls (lv_sub hl [4, 3, 2, 1, 0] rfl)
        · refine lv_iconst (v := 0) hx hb d_Md_numberAt_59 (by decide) ?_
          refine lv_goto (tgt := 65) hx hb d_Md_numberAt_60 (by decide) ?_
          refine lv_istore_n (lv' := [(3, .int 0), (2, .int u27), (1, .int 0), (0, .ref h0)]) hx hb d_Md_numberAt_65 rfl hl (by decide) rfl (fun ls hl => ?_)
          refine lv_iload_n hx hb d_Md_numberAt_66 rfl (lv_at hl 1 rfl) ?_
          refine lv_istore (lv' := [(4, .int u27), (3, .int 0), (2, .int u27), (1, .int 0), (0, .ref h0)]) hx hb d_Md_numberAt_67 hl (by decide) rfl (fun ls hl => ?_)
          have loop_21 : ∀ (n : Nat) (x : Int32) (val : Int32) (hn : (u28.toInt - x.toInt).toNat < n) (hg : m_numR c11 u28 ((u28.toInt - u27.toInt).toNat + 1) u27 0 = m_numR c11 u28 n x val) (hx0 : ¬ x < 0) (ls : Array Slot) (hl : lv_has ls 5 [(0, .ref h0), (1, .int 0), (2, .int u27), (3, .int val), (4, .int x)]), W p l e ({ frames := 0, cells := 0, slots := 0, locals := 0 }) s m [.ref h0].toArray below meth c s.heap [] 0 0 Q (F0 m 69 ls []) := by
            intro n
            induction n with
            | zero =>
              intro x val hn hg hx0 ls hl
              exact absurd hn (Nat.not_lt_zero _)
            | succ n ih_69 =>
              intro x val hn hg hx0 ls hl
              refine lv_iload hx hb d_Md_numberAt_69 (lv_at hl 4 rfl) ?_
              refine lv_aload_n hx hb d_Md_numberAt_71 rfl (lv_at hl 0 rfl) ?_
              refine va_get (D := D) (ci := 6) (v := .int u28) (C := R_Md) (T := T_Md) (N := 31) hx hb hts in_Md hown hK hP 0 rfl rfl 28 (by decide) (hts _ cw_762) (fun _ h9 => h9) rfl d_Md_numberAt_72 ?_
              refine lv_icmp_ge (tgt := 133) hx hb d_Md_numberAt_75 (by decide) (fun c_22 => ?_) (fun c_22 => ?_)
              · refine lv_iload_n hx hb d_Md_numberAt_133 rfl (lv_at hl 3 rfl) ?_
                refine lv_if_lt (tgt := 146) hx hb d_Md_numberAt_134 (by decide) (fun c_23 => ?_) (fun c_23 => ?_)
                · refine lv_iload_n hx hb d_Md_numberAt_146 rfl (lv_at hl 3 rfl) ?_
                  subst hQ
                  exact W.iret (v := val) hx hb hr (fun t ht hW => ⟨_, rfl, (by have hz : m_numR c11 u28 ((u28.toInt - u27.toInt).toNat + 1) u27 0 = val := hg.trans (by rw [m_numR]; simp [eq_false c_1, eq_false c_3, eq_false c_12, eq_true c_22, eq_true c_23]); unfold m_numberAt; rw [hz]; simp [eq_false c_1, eq_false c_3, eq_false c_12, eq_true c_22, eq_true c_23]), ht⟩) (fun q h => by cases h) d_Md_numberAt_147
                · refine lv_iload_n hx hb d_Md_numberAt_137 rfl (lv_at hl 1 rfl) ?_
                  refine lv_if_eq (tgt := 146) hx hb d_Md_numberAt_138 (by decide) (fun c_24 => ?_) (fun c_24 => ?_)
                  · refine lv_iload_n hx hb d_Md_numberAt_146 rfl (lv_at hl 3 rfl) ?_
                    subst hQ
                    exact W.iret (v := val) hx hb hr (fun t ht hW => ⟨_, rfl, (by have hz : m_numR c11 u28 ((u28.toInt - u27.toInt).toNat + 1) u27 0 = val := hg.trans (by rw [m_numR]; simp [eq_false c_1, eq_false c_3, eq_false c_12, eq_true c_22, eq_false c_23]); unfold m_numberAt; rw [hz]; simp [eq_false c_1, eq_false c_3, eq_false c_12, eq_true c_22, eq_false c_23]), ht⟩) (fun q h => by cases h) d_Md_numberAt_147
                  · exact absurd c_24 (by decide)
              · refine lv_iload_n hx hb d_Md_numberAt_78 rfl (lv_at hl 3 rfl) ?_
                refine lv_if_lt (tgt := 133) hx hb d_Md_numberAt_79 (by decide) (fun c_25 => ?_) (fun c_25 => ?_)
                · refine lv_iload_n hx hb d_Md_numberAt_133 rfl (lv_at hl 3 rfl) ?_
                  refine lv_if_lt (tgt := 146) hx hb d_Md_numberAt_134 (by decide) (fun c_26 => ?_) (fun c_26 => ?_)
                  · refine lv_iload_n hx hb d_Md_numberAt_146 rfl (lv_at hl 3 rfl) ?_
                    subst hQ
                    exact W.iret (v := val) hx hb hr (fun t ht hW => ⟨_, rfl, (by have hz : m_numR c11 u28 ((u28.toInt - u27.toInt).toNat + 1) u27 0 = val := hg.trans (by rw [m_numR]; simp [eq_false c_1, eq_false c_3, eq_false c_12, eq_false c_22, eq_true c_25, eq_true c_26]); unfold m_numberAt; rw [hz]; simp [eq_false c_1, eq_false c_3, eq_false c_12, eq_false c_22, eq_true c_25, eq_true c_26]), ht⟩) (fun q h => by cases h) d_Md_numberAt_147
                  · exact absurd c_25 c_26
                · refine lv_aload_n hx hb d_Md_numberAt_82 rfl (lv_at hl 0 rfl) ?_
                  refine va_get (D := D) (ci := 6) (v := .ref a11) (C := R_Md) (T := T_Md) (N := 31) hx hb hts in_Md hown hK hP 0 rfl rfl 11 (by decide) (hts _ cw_745) (fun _ h9 => h9) rfl d_Md_numberAt_83 ?_
                  refine lv_iload hx hb d_Md_numberAt_86 (lv_at hl 4 rfl) ?_
                  refine va_iald hx hb hK hP 1 0 rfl rfl (ix_mid (n := 600) (by decide) hx0 c_22 he6) d_Md_numberAt_88 ?_
                  refine lv_bipush (v := 48) hx hb d_Md_numberAt_89 (by decide) ?_
                  refine lv_icmp_lt (tgt := 124) hx hb d_Md_numberAt_91 (by decide) (fun c_27 => ?_) (fun c_27 => ?_)
                  · refine lv_ldc (v := (-10000000)) hx hb hown (hts _ cw_918) d_Md_numberAt_124 ?_
                    refine lv_istore_n (lv' := [(3, .int (-10000000)), (0, .ref h0), (1, .int 0), (2, .int u27), (4, .int x)]) hx hb d_Md_numberAt_126 rfl hl (by decide) rfl (fun ls hl => ?_)
                    refine lv_iinc (v := x + 1) (lv' := [(4, .int (x + 1)), (3, .int (-10000000)), (0, .ref h0), (1, .int 0), (2, .int u27)]) hx hb d_Md_numberAt_127 hl (k := 4) rfl (rfl) (by decide) rfl (fun ls hl => ?_)
                    refine lv_goto (tgt := 69) hx hb d_Md_numberAt_130 (by decide) ?_
                    exact ih_69 (x + 1) (-10000000) (ix_up hn c_22) (hg.trans (by rw [m_numR]; simp [eq_false c_1, eq_false c_3, eq_false c_12, eq_false c_22, eq_false c_25, eq_true c_27])) (ix_up0 hx0 c_22) ls (lv_sub hl [2, 3, 4, 1, 0] rfl)
                  · refine lv_aload_n hx hb d_Md_numberAt_94 rfl (lv_at hl 0 rfl) ?_
                    refine va_get (D := D) (ci := 6) (v := .ref a11) (C := R_Md) (T := T_Md) (N := 31) hx hb hts in_Md hown hK hP 0 rfl rfl 11 (by decide) (hts _ cw_745) (fun _ h9 => h9) rfl d_Md_numberAt_95 ?_
                    refine lv_iload hx hb d_Md_numberAt_98 (lv_at hl 4 rfl) ?_
                    refine va_iald hx hb hK hP 1 0 rfl rfl (ix_mid (n := 600) (by decide) hx0 c_22 he6) d_Md_numberAt_100 ?_
                    refine lv_bipush (v := 57) hx hb d_Md_numberAt_101 (by decide) ?_
                    refine lv_icmp_gt (tgt := 124) hx hb d_Md_numberAt_103 (by decide) (fun c_28 => ?_) (fun c_28 => ?_)
                    · refine lv_ldc (v := (-10000000)) hx hb hown (hts _ cw_918) d_Md_numberAt_124 ?_
                      refine lv_istore_n (lv' := [(3, .int (-10000000)), (0, .ref h0), (1, .int 0), (2, .int u27), (4, .int x)]) hx hb d_Md_numberAt_126 rfl hl (by decide) rfl (fun ls hl => ?_)
                      refine lv_iinc (v := x + 1) (lv' := [(4, .int (x + 1)), (3, .int (-10000000)), (0, .ref h0), (1, .int 0), (2, .int u27)]) hx hb d_Md_numberAt_127 hl (k := 4) rfl (rfl) (by decide) rfl (fun ls hl => ?_)
                      refine lv_goto (tgt := 69) hx hb d_Md_numberAt_130 (by decide) ?_
                      exact ih_69 (x + 1) (-10000000) (ix_up hn c_22) (hg.trans (by rw [m_numR]; simp [eq_false c_1, eq_false c_3, eq_false c_12, eq_false c_22, eq_false c_25, eq_false c_27, eq_true c_28])) (ix_up0 hx0 c_22) ls (lv_sub hl [2, 3, 4, 1, 0] rfl)
                    · refine lv_bipush (v := 10) hx hb d_Md_numberAt_106 (by decide) ?_
                      refine lv_iload_n hx hb d_Md_numberAt_108 rfl (lv_at hl 3 rfl) ?_
                      refine lv_imul hx hb d_Md_numberAt_109 ?_
                      refine lv_aload_n hx hb d_Md_numberAt_110 rfl (lv_at hl 0 rfl) ?_
                      refine va_get (D := D) (ci := 6) (v := .ref a11) (C := R_Md) (T := T_Md) (N := 31) hx hb hts in_Md hown hK hP 0 rfl rfl 11 (by decide) (hts _ cw_745) (fun _ h9 => h9) rfl d_Md_numberAt_111 ?_
                      refine lv_iload hx hb d_Md_numberAt_114 (lv_at hl 4 rfl) ?_
                      refine va_iald hx hb hK hP 1 0 rfl rfl (ix_mid (n := 600) (by decide) hx0 c_22 he6) d_Md_numberAt_116 ?_
                      refine lv_iadd hx hb d_Md_numberAt_117 ?_
                      refine lv_bipush (v := 48) hx hb d_Md_numberAt_118 (by decide) ?_
                      refine lv_isub hx hb d_Md_numberAt_120 ?_
                      refine lv_goto (tgt := 126) hx hb d_Md_numberAt_121 (by decide) ?_
                      refine lv_istore_n (lv' := [(3, .int (((10 * val) + (c11 x.toNatClampNeg)) - 48)), (0, .ref h0), (1, .int 0), (2, .int u27), (4, .int x)]) hx hb d_Md_numberAt_126 rfl hl (by decide) rfl (fun ls hl => ?_)
                      refine lv_iinc (v := x + 1) (lv' := [(4, .int (x + 1)), (3, .int (((10 * val) + (c11 x.toNatClampNeg)) - 48)), (0, .ref h0), (1, .int 0), (2, .int u27)]) hx hb d_Md_numberAt_127 hl (k := 4) rfl (rfl) (by decide) rfl (fun ls hl => ?_)
                      refine lv_goto (tgt := 69) hx hb d_Md_numberAt_130 (by decide) ?_
                      exact ih_69 (x + 1) (((10 * val) + (c11 x.toNatClampNeg)) - 48) (ix_up hn c_22) (hg.trans (by rw [m_numR]; simp [eq_false c_1, eq_false c_3, eq_false c_12, eq_false c_22, eq_false c_25, eq_false c_27, eq_false c_28])) (ix_up0 hx0 c_22) ls (lv_sub hl [2, 3, 4, 1, 0] rfl)
          exact loop_21 ((u28.toInt - u27.toInt).toNat + 1) u27 0 (Nat.lt_succ_self _) (rfl) (hf0) ls (lv_sub hl [4, 3, 2, 1, 0] rfl)
    · exact absurd c_2 (by decide)
  · refine lv_iconst (v := 1) hx hb d_Md_numberAt_14 (by decide) ?_
    refine lv_goto (tgt := 19) hx hb d_Md_numberAt_15 (by decide) ?_
    refine lv_istore_n (lv' := [(1, .int 1), (0, .ref h0)]) hx hb d_Md_numberAt_19 rfl hl (by decide) rfl (fun ls hl => ?_)
    refine lv_iload_n hx hb d_Md_numberAt_20 rfl (lv_at hl 0 rfl) ?_
    refine lv_if_eq (tgt := 33) hx hb d_Md_numberAt_21 (by decide) (fun c_29 => ?_) (fun c_29 => ?_)
    · exact absurd c_29 (by decide)
    · refine lv_aload_n hx hb d_Md_numberAt_24 rfl (lv_at hl 1 rfl) ?_
      refine va_get (D := D) (ci := 6) (v := .int u27) (C := R_Md) (T := T_Md) (N := 31) hx hb hts in_Md hown hK hP 0 rfl rfl 27 (by decide) (hts _ cw_761) (fun _ h9 => h9) rfl d_Md_numberAt_25 ?_
      refine lv_iconst (v := 1) hx hb d_Md_numberAt_28 (by decide) ?_
      refine lv_iadd hx hb d_Md_numberAt_29 ?_
      refine lv_goto (tgt := 37) hx hb d_Md_numberAt_30 (by decide) ?_
      refine lv_istore_n (lv' := [(2, .int (u27 + 1)), (1, .int 1), (0, .ref h0)]) hx hb d_Md_numberAt_37 rfl hl (by decide) rfl (fun ls hl => ?_)
      refine lv_aload_n hx hb d_Md_numberAt_38 rfl (lv_at hl 2 rfl) ?_
      refine va_get (D := D) (ci := 6) (v := .int u28) (C := R_Md) (T := T_Md) (N := 31) hx hb hts in_Md hown hK hP 0 rfl rfl 28 (by decide) (hts _ cw_762) (fun _ h9 => h9) rfl d_Md_numberAt_39 ?_
      refine lv_iload_n hx hb d_Md_numberAt_42 rfl (lv_at hl 0 rfl) ?_
      refine lv_isub hx hb d_Md_numberAt_43 ?_
      refine lv_iconst (v := 1) hx hb d_Md_numberAt_44 (by decide) ?_
      refine lv_icmp_lt (tgt := 63) hx hb d_Md_numberAt_45 (by decide) (fun c_30 => ?_) (fun c_30 => ?_)
      · refine lv_ldc (v := (-10000000)) hx hb hown (hts _ cw_918) d_Md_numberAt_63 ?_
        refine lv_istore_n (lv' := [(3, .int (-10000000)), (2, .int (u27 + 1)), (1, .int 1), (0, .ref h0)]) hx hb d_Md_numberAt_65 rfl hl (by decide) rfl (fun ls hl => ?_)
        refine lv_iload_n hx hb d_Md_numberAt_66 rfl (lv_at hl 1 rfl) ?_
        refine lv_istore (lv' := [(4, .int (u27 + 1)), (3, .int (-10000000)), (2, .int (u27 + 1)), (1, .int 1), (0, .ref h0)]) hx hb d_Md_numberAt_67 hl (by decide) rfl (fun ls hl => ?_)
        have loop_31 : ∀ (n : Nat) (x : Int32) (val : Int32) (hn : (u28.toInt - x.toInt).toNat < n) (hg : m_numR c11 u28 ((u28.toInt - (u27 + 1).toInt).toNat + 1) (u27 + 1) (-10000000) = m_numR c11 u28 n x val) (hx0 : ¬ x < 0) (ls : Array Slot) (hl : lv_has ls 5 [(0, .ref h0), (1, .int 1), (2, .int (u27 + 1)), (3, .int val), (4, .int x)]), W p l e ({ frames := 0, cells := 0, slots := 0, locals := 0 }) s m [.ref h0].toArray below meth c s.heap [] 0 0 Q (F0 m 69 ls []) := by
          intro n
          induction n with
          | zero =>
            intro x val hn hg hx0 ls hl
            exact absurd hn (Nat.not_lt_zero _)
          | succ n ih_69 =>
            intro x val hn hg hx0 ls hl
            refine lv_iload hx hb d_Md_numberAt_69 (lv_at hl 4 rfl) ?_
            refine lv_aload_n hx hb d_Md_numberAt_71 rfl (lv_at hl 0 rfl) ?_
            refine va_get (D := D) (ci := 6) (v := .int u28) (C := R_Md) (T := T_Md) (N := 31) hx hb hts in_Md hown hK hP 0 rfl rfl 28 (by decide) (hts _ cw_762) (fun _ h9 => h9) rfl d_Md_numberAt_72 ?_
            refine lv_icmp_ge (tgt := 133) hx hb d_Md_numberAt_75 (by decide) (fun c_32 => ?_) (fun c_32 => ?_)
            · refine lv_iload_n hx hb d_Md_numberAt_133 rfl (lv_at hl 3 rfl) ?_
              refine lv_if_lt (tgt := 146) hx hb d_Md_numberAt_134 (by decide) (fun c_33 => ?_) (fun c_33 => ?_)
              · refine lv_iload_n hx hb d_Md_numberAt_146 rfl (lv_at hl 3 rfl) ?_
                subst hQ
                exact W.iret (v := val) hx hb hr (fun t ht hW => ⟨_, rfl, (by have hz : m_numR c11 u28 ((u28.toInt - (u27 + 1).toInt).toNat + 1) (u27 + 1) (-10000000) = val := hg.trans (by rw [m_numR]; simp [eq_true c_1, eq_true c_30, eq_true c_32, eq_true c_33]); unfold m_numberAt; rw [hz]; simp [eq_true c_1, eq_true c_30, eq_true c_32, eq_true c_33]), ht⟩) (fun q h => by cases h) d_Md_numberAt_147
              · refine lv_iload_n hx hb d_Md_numberAt_137 rfl (lv_at hl 1 rfl) ?_
                refine lv_if_eq (tgt := 146) hx hb d_Md_numberAt_138 (by decide) (fun c_34 => ?_) (fun c_34 => ?_)
                · exact absurd c_34 (by decide)
                · refine lv_iload_n hx hb d_Md_numberAt_141 rfl (lv_at hl 3 rfl) ?_
                  refine lv_ineg hx hb d_Md_numberAt_142 ?_
                  refine lv_goto (tgt := 147) hx hb d_Md_numberAt_143 (by decide) ?_
                  subst hQ
                  exact W.iret (v := -val) hx hb hr (fun t ht hW => ⟨_, rfl, (by have hz : m_numR c11 u28 ((u28.toInt - (u27 + 1).toInt).toNat + 1) (u27 + 1) (-10000000) = val := hg.trans (by rw [m_numR]; simp [eq_true c_1, eq_true c_30, eq_true c_32, eq_false c_33]); unfold m_numberAt; rw [hz]; simp [eq_true c_1, eq_true c_30, eq_true c_32, eq_false c_33]), ht⟩) (fun q h => by cases h) d_Md_numberAt_147
            · refine lv_iload_n hx hb d_Md_numberAt_78 rfl (lv_at hl 3 rfl) ?_
              refine lv_if_lt (tgt := 133) hx hb d_Md_numberAt_79 (by decide) (fun c_35 => ?_) (fun c_35 => ?_)
              · refine lv_iload_n hx hb d_Md_numberAt_133 rfl (lv_at hl 3 rfl) ?_
                refine lv_if_lt (tgt := 146) hx hb d_Md_numberAt_134 (by decide) (fun c_36 => ?_) (fun c_36 => ?_)
                · refine lv_iload_n hx hb d_Md_numberAt_146 rfl (lv_at hl 3 rfl) ?_
                  subst hQ
                  exact W.iret (v := val) hx hb hr (fun t ht hW => ⟨_, rfl, (by have hz : m_numR c11 u28 ((u28.toInt - (u27 + 1).toInt).toNat + 1) (u27 + 1) (-10000000) = val := hg.trans (by rw [m_numR]; simp [eq_true c_1, eq_true c_30, eq_false c_32, eq_true c_35, eq_true c_36]); unfold m_numberAt; rw [hz]; simp [eq_true c_1, eq_true c_30, eq_false c_32, eq_true c_35, eq_true c_36]), ht⟩) (fun q h => by cases h) d_Md_numberAt_147
                · exact absurd c_35 c_36
              · refine lv_aload_n hx hb d_Md_numberAt_82 rfl (lv_at hl 0 rfl) ?_
                refine va_get (D := D) (ci := 6) (v := .ref a11) (C := R_Md) (T := T_Md) (N := 31) hx hb hts in_Md hown hK hP 0 rfl rfl 11 (by decide) (hts _ cw_745) (fun _ h9 => h9) rfl d_Md_numberAt_83 ?_
                refine lv_iload hx hb d_Md_numberAt_86 (lv_at hl 4 rfl) ?_
                refine va_iald hx hb hK hP 1 0 rfl rfl (ix_mid (n := 600) (by decide) hx0 c_32 he6) d_Md_numberAt_88 ?_
                refine lv_bipush (v := 48) hx hb d_Md_numberAt_89 (by decide) ?_
                refine lv_icmp_lt (tgt := 124) hx hb d_Md_numberAt_91 (by decide) (fun c_37 => ?_) (fun c_37 => ?_)
                · refine lv_ldc (v := (-10000000)) hx hb hown (hts _ cw_918) d_Md_numberAt_124 ?_
                  refine lv_istore_n (lv' := [(3, .int (-10000000)), (0, .ref h0), (1, .int 1), (2, .int (u27 + 1)), (4, .int x)]) hx hb d_Md_numberAt_126 rfl hl (by decide) rfl (fun ls hl => ?_)
                  refine lv_iinc (v := x + 1) (lv' := [(4, .int (x + 1)), (3, .int (-10000000)), (0, .ref h0), (1, .int 1), (2, .int (u27 + 1))]) hx hb d_Md_numberAt_127 hl (k := 4) rfl (rfl) (by decide) rfl (fun ls hl => ?_)
                  refine lv_goto (tgt := 69) hx hb d_Md_numberAt_130 (by decide) ?_
                  exact ih_69 (x + 1) (-10000000) (ix_up hn c_32) (hg.trans (by rw [m_numR]; simp [eq_true c_1, eq_true c_30, eq_false c_32, eq_false c_35, eq_true c_37])) (ix_up0 hx0 c_32) ls (lv_sub hl [2, 3, 4, 1, 0] rfl)
                · refine lv_aload_n hx hb d_Md_numberAt_94 rfl (lv_at hl 0 rfl) ?_
                  refine va_get (D := D) (ci := 6) (v := .ref a11) (C := R_Md) (T := T_Md) (N := 31) hx hb hts in_Md hown hK hP 0 rfl rfl 11 (by decide) (hts _ cw_745) (fun _ h9 => h9) rfl d_Md_numberAt_95 ?_
                  refine lv_iload hx hb d_Md_numberAt_98 (lv_at hl 4 rfl) ?_
                  refine va_iald hx hb hK hP 1 0 rfl rfl (ix_mid (n := 600) (by decide) hx0 c_32 he6) d_Md_numberAt_100 ?_
                  refine lv_bipush (v := 57) hx hb d_Md_numberAt_101 (by decide) ?_
                  refine lv_icmp_gt (tgt := 124) hx hb d_Md_numberAt_103 (by decide) (fun c_38 => ?_) (fun c_38 => ?_)
                  · refine lv_ldc (v := (-10000000)) hx hb hown (hts _ cw_918) d_Md_numberAt_124 ?_
                    refine lv_istore_n (lv' := [(3, .int (-10000000)), (0, .ref h0), (1, .int 1), (2, .int (u27 + 1)), (4, .int x)]) hx hb d_Md_numberAt_126 rfl hl (by decide) rfl (fun ls hl => ?_)
                    refine lv_iinc (v := x + 1) (lv' := [(4, .int (x + 1)), (3, .int (-10000000)), (0, .ref h0), (1, .int 1), (2, .int (u27 + 1))]) hx hb d_Md_numberAt_127 hl (k := 4) rfl (rfl) (by decide) rfl (fun ls hl => ?_)
                    refine lv_goto (tgt := 69) hx hb d_Md_numberAt_130 (by decide) ?_
                    exact ih_69 (x + 1) (-10000000) (ix_up hn c_32) (hg.trans (by rw [m_numR]; simp [eq_true c_1, eq_true c_30, eq_false c_32, eq_false c_35, eq_false c_37, eq_true c_38])) (ix_up0 hx0 c_32) ls (lv_sub hl [2, 3, 4, 1, 0] rfl)
                  · refine lv_bipush (v := 10) hx hb d_Md_numberAt_106 (by decide) ?_
                    refine lv_iload_n hx hb d_Md_numberAt_108 rfl (lv_at hl 3 rfl) ?_
                    refine lv_imul hx hb d_Md_numberAt_109 ?_
                    refine lv_aload_n hx hb d_Md_numberAt_110 rfl (lv_at hl 0 rfl) ?_
                    refine va_get (D := D) (ci := 6) (v := .ref a11) (C := R_Md) (T := T_Md) (N := 31) hx hb hts in_Md hown hK hP 0 rfl rfl 11 (by decide) (hts _ cw_745) (fun _ h9 => h9) rfl d_Md_numberAt_111 ?_
                    refine lv_iload hx hb d_Md_numberAt_114 (lv_at hl 4 rfl) ?_
                    refine va_iald hx hb hK hP 1 0 rfl rfl (ix_mid (n := 600) (by decide) hx0 c_32 he6) d_Md_numberAt_116 ?_
                    refine lv_iadd hx hb d_Md_numberAt_117 ?_
                    refine lv_bipush (v := 48) hx hb d_Md_numberAt_118 (by decide) ?_
                    refine lv_isub hx hb d_Md_numberAt_120 ?_
                    refine lv_goto (tgt := 126) hx hb d_Md_numberAt_121 (by decide) ?_
                    refine lv_istore_n (lv' := [(3, .int (((10 * val) + (c11 x.toNatClampNeg)) - 48)), (0, .ref h0), (1, .int 1), (2, .int (u27 + 1)), (4, .int x)]) hx hb d_Md_numberAt_126 rfl hl (by decide) rfl (fun ls hl => ?_)
                    refine lv_iinc (v := x + 1) (lv' := [(4, .int (x + 1)), (3, .int (((10 * val) + (c11 x.toNatClampNeg)) - 48)), (0, .ref h0), (1, .int 1), (2, .int (u27 + 1))]) hx hb d_Md_numberAt_127 hl (k := 4) rfl (rfl) (by decide) rfl (fun ls hl => ?_)
                    refine lv_goto (tgt := 69) hx hb d_Md_numberAt_130 (by decide) ?_
                    exact ih_69 (x + 1) (((10 * val) + (c11 x.toNatClampNeg)) - 48) (ix_up hn c_32) (hg.trans (by rw [m_numR]; simp [eq_true c_1, eq_true c_30, eq_false c_32, eq_false c_35, eq_false c_37, eq_false c_38])) (ix_up0 hx0 c_32) ls (lv_sub hl [2, 3, 4, 1, 0] rfl)
        exact loop_31 ((u28.toInt - (u27 + 1).toInt).toNat + 1) (u27 + 1) (-10000000) (Nat.lt_succ_self _) (rfl) (ix_up0 hf0 (p := 600) (Int32.not_le.mpr hf6)) ls (lv_sub hl [4, 3, 2, 1, 0] rfl)
      · refine lv_aload_n hx hb d_Md_numberAt_48 rfl (lv_at hl 2 rfl) ?_
        refine va_get (D := D) (ci := 6) (v := .int u28) (C := R_Md) (T := T_Md) (N := 31) hx hb hts in_Md hown hK hP 0 rfl rfl 28 (by decide) (hts _ cw_762) (fun _ h9 => h9) rfl d_Md_numberAt_49 ?_
        refine lv_iload_n hx hb d_Md_numberAt_52 rfl (lv_at hl 0 rfl) ?_
        refine lv_isub hx hb d_Md_numberAt_53 ?_
        refine lv_bipush (v := 6) hx hb d_Md_numberAt_54 (by decide) ?_
        refine lv_icmp_gt (tgt := 63) hx hb d_Md_numberAt_56 (by decide) (fun c_39 => ?_) (fun c_39 => ?_)
        · refine lv_ldc (v := (-10000000)) hx hb hown (hts _ cw_918) d_Md_numberAt_63 ?_
          refine lv_istore_n (lv' := [(3, .int (-10000000)), (2, .int (u27 + 1)), (1, .int 1), (0, .ref h0)]) hx hb d_Md_numberAt_65 rfl hl (by decide) rfl (fun ls hl => ?_)
          refine lv_iload_n hx hb d_Md_numberAt_66 rfl (lv_at hl 1 rfl) ?_
          refine lv_istore (lv' := [(4, .int (u27 + 1)), (3, .int (-10000000)), (2, .int (u27 + 1)), (1, .int 1), (0, .ref h0)]) hx hb d_Md_numberAt_67 hl (by decide) rfl (fun ls hl => ?_)
          have loop_40 : ∀ (n : Nat) (x : Int32) (val : Int32) (hn : (u28.toInt - x.toInt).toNat < n) (hg : m_numR c11 u28 ((u28.toInt - (u27 + 1).toInt).toNat + 1) (u27 + 1) (-10000000) = m_numR c11 u28 n x val) (hx0 : ¬ x < 0) (ls : Array Slot) (hl : lv_has ls 5 [(0, .ref h0), (1, .int 1), (2, .int (u27 + 1)), (3, .int val), (4, .int x)]), W p l e ({ frames := 0, cells := 0, slots := 0, locals := 0 }) s m [.ref h0].toArray below meth c s.heap [] 0 0 Q (F0 m 69 ls []) := by
            intro n
            induction n with
            | zero =>
              intro x val hn hg hx0 ls hl
              exact absurd hn (Nat.not_lt_zero _)
            | succ n ih_69 =>
              intro x val hn hg hx0 ls hl
              refine lv_iload hx hb d_Md_numberAt_69 (lv_at hl 4 rfl) ?_
              refine lv_aload_n hx hb d_Md_numberAt_71 rfl (lv_at hl 0 rfl) ?_
              refine va_get (D := D) (ci := 6) (v := .int u28) (C := R_Md) (T := T_Md) (N := 31) hx hb hts in_Md hown hK hP 0 rfl rfl 28 (by decide) (hts _ cw_762) (fun _ h9 => h9) rfl d_Md_numberAt_72 ?_
              refine lv_icmp_ge (tgt := 133) hx hb d_Md_numberAt_75 (by decide) (fun c_41 => ?_) (fun c_41 => ?_)
              · refine lv_iload_n hx hb d_Md_numberAt_133 rfl (lv_at hl 3 rfl) ?_
                refine lv_if_lt (tgt := 146) hx hb d_Md_numberAt_134 (by decide) (fun c_42 => ?_) (fun c_42 => ?_)
                · refine lv_iload_n hx hb d_Md_numberAt_146 rfl (lv_at hl 3 rfl) ?_
                  subst hQ
                  exact W.iret (v := val) hx hb hr (fun t ht hW => ⟨_, rfl, (by have hz : m_numR c11 u28 ((u28.toInt - (u27 + 1).toInt).toNat + 1) (u27 + 1) (-10000000) = val := hg.trans (by rw [m_numR]; simp [eq_true c_1, eq_false c_30, eq_true c_39, eq_true c_41, eq_true c_42]); unfold m_numberAt; rw [hz]; simp [eq_true c_1, eq_false c_30, eq_true c_39, eq_true c_41, eq_true c_42]), ht⟩) (fun q h => by cases h) d_Md_numberAt_147
                · refine lv_iload_n hx hb d_Md_numberAt_137 rfl (lv_at hl 1 rfl) ?_
                  refine lv_if_eq (tgt := 146) hx hb d_Md_numberAt_138 (by decide) (fun c_43 => ?_) (fun c_43 => ?_)
                  · exact absurd c_43 (by decide)
                  · refine lv_iload_n hx hb d_Md_numberAt_141 rfl (lv_at hl 3 rfl) ?_
                    refine lv_ineg hx hb d_Md_numberAt_142 ?_
                    refine lv_goto (tgt := 147) hx hb d_Md_numberAt_143 (by decide) ?_
                    subst hQ
                    exact W.iret (v := -val) hx hb hr (fun t ht hW => ⟨_, rfl, (by have hz : m_numR c11 u28 ((u28.toInt - (u27 + 1).toInt).toNat + 1) (u27 + 1) (-10000000) = val := hg.trans (by rw [m_numR]; simp [eq_true c_1, eq_false c_30, eq_true c_39, eq_true c_41, eq_false c_42]); unfold m_numberAt; rw [hz]; simp [eq_true c_1, eq_false c_30, eq_true c_39, eq_true c_41, eq_false c_42]), ht⟩) (fun q h => by cases h) d_Md_numberAt_147
              · refine lv_iload_n hx hb d_Md_numberAt_78 rfl (lv_at hl 3 rfl) ?_
                refine lv_if_lt (tgt := 133) hx hb d_Md_numberAt_79 (by decide) (fun c_44 => ?_) (fun c_44 => ?_)
                · refine lv_iload_n hx hb d_Md_numberAt_133 rfl (lv_at hl 3 rfl) ?_
                  refine lv_if_lt (tgt := 146) hx hb d_Md_numberAt_134 (by decide) (fun c_45 => ?_) (fun c_45 => ?_)
                  · refine lv_iload_n hx hb d_Md_numberAt_146 rfl (lv_at hl 3 rfl) ?_
                    subst hQ
                    exact W.iret (v := val) hx hb hr (fun t ht hW => ⟨_, rfl, (by have hz : m_numR c11 u28 ((u28.toInt - (u27 + 1).toInt).toNat + 1) (u27 + 1) (-10000000) = val := hg.trans (by rw [m_numR]; simp [eq_true c_1, eq_false c_30, eq_true c_39, eq_false c_41, eq_true c_44, eq_true c_45]); unfold m_numberAt; rw [hz]; simp [eq_true c_1, eq_false c_30, eq_true c_39, eq_false c_41, eq_true c_44, eq_true c_45]), ht⟩) (fun q h => by cases h) d_Md_numberAt_147
                  · exact absurd c_44 c_45
                · refine lv_aload_n hx hb d_Md_numberAt_82 rfl (lv_at hl 0 rfl) ?_
                  refine va_get (D := D) (ci := 6) (v := .ref a11) (C := R_Md) (T := T_Md) (N := 31) hx hb hts in_Md hown hK hP 0 rfl rfl 11 (by decide) (hts _ cw_745) (fun _ h9 => h9) rfl d_Md_numberAt_83 ?_
                  refine lv_iload hx hb d_Md_numberAt_86 (lv_at hl 4 rfl) ?_
                  refine va_iald hx hb hK hP 1 0 rfl rfl (ix_mid (n := 600) (by decide) hx0 c_41 he6) d_Md_numberAt_88 ?_
                  refine lv_bipush (v := 48) hx hb d_Md_numberAt_89 (by decide) ?_
                  refine lv_icmp_lt (tgt := 124) hx hb d_Md_numberAt_91 (by decide) (fun c_46 => ?_) (fun c_46 => ?_)
                  · refine lv_ldc (v := (-10000000)) hx hb hown (hts _ cw_918) d_Md_numberAt_124 ?_
                    refine lv_istore_n (lv' := [(3, .int (-10000000)), (0, .ref h0), (1, .int 1), (2, .int (u27 + 1)), (4, .int x)]) hx hb d_Md_numberAt_126 rfl hl (by decide) rfl (fun ls hl => ?_)
                    refine lv_iinc (v := x + 1) (lv' := [(4, .int (x + 1)), (3, .int (-10000000)), (0, .ref h0), (1, .int 1), (2, .int (u27 + 1))]) hx hb d_Md_numberAt_127 hl (k := 4) rfl (rfl) (by decide) rfl (fun ls hl => ?_)
                    refine lv_goto (tgt := 69) hx hb d_Md_numberAt_130 (by decide) ?_
                    exact ih_69 (x + 1) (-10000000) (ix_up hn c_41) (hg.trans (by rw [m_numR]; simp [eq_true c_1, eq_false c_30, eq_true c_39, eq_false c_41, eq_false c_44, eq_true c_46])) (ix_up0 hx0 c_41) ls (lv_sub hl [2, 3, 4, 1, 0] rfl)
                  · refine lv_aload_n hx hb d_Md_numberAt_94 rfl (lv_at hl 0 rfl) ?_
                    refine va_get (D := D) (ci := 6) (v := .ref a11) (C := R_Md) (T := T_Md) (N := 31) hx hb hts in_Md hown hK hP 0 rfl rfl 11 (by decide) (hts _ cw_745) (fun _ h9 => h9) rfl d_Md_numberAt_95 ?_
                    refine lv_iload hx hb d_Md_numberAt_98 (lv_at hl 4 rfl) ?_
                    refine va_iald hx hb hK hP 1 0 rfl rfl (ix_mid (n := 600) (by decide) hx0 c_41 he6) d_Md_numberAt_100 ?_
                    refine lv_bipush (v := 57) hx hb d_Md_numberAt_101 (by decide) ?_
                    refine lv_icmp_gt (tgt := 124) hx hb d_Md_numberAt_103 (by decide) (fun c_47 => ?_) (fun c_47 => ?_)
                    · refine lv_ldc (v := (-10000000)) hx hb hown (hts _ cw_918) d_Md_numberAt_124 ?_
                      refine lv_istore_n (lv' := [(3, .int (-10000000)), (0, .ref h0), (1, .int 1), (2, .int (u27 + 1)), (4, .int x)]) hx hb d_Md_numberAt_126 rfl hl (by decide) rfl (fun ls hl => ?_)
                      refine lv_iinc (v := x + 1) (lv' := [(4, .int (x + 1)), (3, .int (-10000000)), (0, .ref h0), (1, .int 1), (2, .int (u27 + 1))]) hx hb d_Md_numberAt_127 hl (k := 4) rfl (rfl) (by decide) rfl (fun ls hl => ?_)
                      refine lv_goto (tgt := 69) hx hb d_Md_numberAt_130 (by decide) ?_
                      exact ih_69 (x + 1) (-10000000) (ix_up hn c_41) (hg.trans (by rw [m_numR]; simp [eq_true c_1, eq_false c_30, eq_true c_39, eq_false c_41, eq_false c_44, eq_false c_46, eq_true c_47])) (ix_up0 hx0 c_41) ls (lv_sub hl [2, 3, 4, 1, 0] rfl)
                    · refine lv_bipush (v := 10) hx hb d_Md_numberAt_106 (by decide) ?_
                      refine lv_iload_n hx hb d_Md_numberAt_108 rfl (lv_at hl 3 rfl) ?_
                      refine lv_imul hx hb d_Md_numberAt_109 ?_
                      refine lv_aload_n hx hb d_Md_numberAt_110 rfl (lv_at hl 0 rfl) ?_
                      refine va_get (D := D) (ci := 6) (v := .ref a11) (C := R_Md) (T := T_Md) (N := 31) hx hb hts in_Md hown hK hP 0 rfl rfl 11 (by decide) (hts _ cw_745) (fun _ h9 => h9) rfl d_Md_numberAt_111 ?_
                      refine lv_iload hx hb d_Md_numberAt_114 (lv_at hl 4 rfl) ?_
                      refine va_iald hx hb hK hP 1 0 rfl rfl (ix_mid (n := 600) (by decide) hx0 c_41 he6) d_Md_numberAt_116 ?_
                      refine lv_iadd hx hb d_Md_numberAt_117 ?_
                      refine lv_bipush (v := 48) hx hb d_Md_numberAt_118 (by decide) ?_
                      refine lv_isub hx hb d_Md_numberAt_120 ?_
                      refine lv_goto (tgt := 126) hx hb d_Md_numberAt_121 (by decide) ?_
                      refine lv_istore_n (lv' := [(3, .int (((10 * val) + (c11 x.toNatClampNeg)) - 48)), (0, .ref h0), (1, .int 1), (2, .int (u27 + 1)), (4, .int x)]) hx hb d_Md_numberAt_126 rfl hl (by decide) rfl (fun ls hl => ?_)
                      refine lv_iinc (v := x + 1) (lv' := [(4, .int (x + 1)), (3, .int (((10 * val) + (c11 x.toNatClampNeg)) - 48)), (0, .ref h0), (1, .int 1), (2, .int (u27 + 1))]) hx hb d_Md_numberAt_127 hl (k := 4) rfl (rfl) (by decide) rfl (fun ls hl => ?_)
                      refine lv_goto (tgt := 69) hx hb d_Md_numberAt_130 (by decide) ?_
                      exact ih_69 (x + 1) (((10 * val) + (c11 x.toNatClampNeg)) - 48) (ix_up hn c_41) (hg.trans (by rw [m_numR]; simp [eq_true c_1, eq_false c_30, eq_true c_39, eq_false c_41, eq_false c_44, eq_false c_46, eq_false c_47])) (ix_up0 hx0 c_41) ls (lv_sub hl [2, 3, 4, 1, 0] rfl)
          exact loop_40 ((u28.toInt - (u27 + 1).toInt).toNat + 1) (u27 + 1) (-10000000) (Nat.lt_succ_self _) (rfl) (ix_up0 hf0 (p := 600) (Int32.not_le.mpr hf6)) ls (lv_sub hl [4, 3, 2, 1, 0] rfl)
        · refine lv_iconst (v := 0) hx hb d_Md_numberAt_59 (by decide) ?_
          refine lv_goto (tgt := 65) hx hb d_Md_numberAt_60 (by decide) ?_
          refine lv_istore_n (lv' := [(3, .int 0), (2, .int (u27 + 1)), (1, .int 1), (0, .ref h0)]) hx hb d_Md_numberAt_65 rfl hl (by decide) rfl (fun ls hl => ?_)
          refine lv_iload_n hx hb d_Md_numberAt_66 rfl (lv_at hl 1 rfl) ?_
          refine lv_istore (lv' := [(4, .int (u27 + 1)), (3, .int 0), (2, .int (u27 + 1)), (1, .int 1), (0, .ref h0)]) hx hb d_Md_numberAt_67 hl (by decide) rfl (fun ls hl => ?_)
          have loop_48 : ∀ (n : Nat) (x : Int32) (val : Int32) (hn : (u28.toInt - x.toInt).toNat < n) (hg : m_numR c11 u28 ((u28.toInt - (u27 + 1).toInt).toNat + 1) (u27 + 1) 0 = m_numR c11 u28 n x val) (hx0 : ¬ x < 0) (ls : Array Slot) (hl : lv_has ls 5 [(0, .ref h0), (1, .int 1), (2, .int (u27 + 1)), (3, .int val), (4, .int x)]), W p l e ({ frames := 0, cells := 0, slots := 0, locals := 0 }) s m [.ref h0].toArray below meth c s.heap [] 0 0 Q (F0 m 69 ls []) := by
            intro n
            induction n with
            | zero =>
              intro x val hn hg hx0 ls hl
              exact absurd hn (Nat.not_lt_zero _)
            | succ n ih_69 =>
              intro x val hn hg hx0 ls hl
              refine lv_iload hx hb d_Md_numberAt_69 (lv_at hl 4 rfl) ?_
              refine lv_aload_n hx hb d_Md_numberAt_71 rfl (lv_at hl 0 rfl) ?_
              refine va_get (D := D) (ci := 6) (v := .int u28) (C := R_Md) (T := T_Md) (N := 31) hx hb hts in_Md hown hK hP 0 rfl rfl 28 (by decide) (hts _ cw_762) (fun _ h9 => h9) rfl d_Md_numberAt_72 ?_
              refine lv_icmp_ge (tgt := 133) hx hb d_Md_numberAt_75 (by decide) (fun c_49 => ?_) (fun c_49 => ?_)
              · refine lv_iload_n hx hb d_Md_numberAt_133 rfl (lv_at hl 3 rfl) ?_
                refine lv_if_lt (tgt := 146) hx hb d_Md_numberAt_134 (by decide) (fun c_50 => ?_) (fun c_50 => ?_)
                · refine lv_iload_n hx hb d_Md_numberAt_146 rfl (lv_at hl 3 rfl) ?_
                  subst hQ
                  exact W.iret (v := val) hx hb hr (fun t ht hW => ⟨_, rfl, (by have hz : m_numR c11 u28 ((u28.toInt - (u27 + 1).toInt).toNat + 1) (u27 + 1) 0 = val := hg.trans (by rw [m_numR]; simp [eq_true c_1, eq_false c_30, eq_false c_39, eq_true c_49, eq_true c_50]); unfold m_numberAt; rw [hz]; simp [eq_true c_1, eq_false c_30, eq_false c_39, eq_true c_49, eq_true c_50]), ht⟩) (fun q h => by cases h) d_Md_numberAt_147
                · refine lv_iload_n hx hb d_Md_numberAt_137 rfl (lv_at hl 1 rfl) ?_
                  refine lv_if_eq (tgt := 146) hx hb d_Md_numberAt_138 (by decide) (fun c_51 => ?_) (fun c_51 => ?_)
                  · exact absurd c_51 (by decide)
                  · refine lv_iload_n hx hb d_Md_numberAt_141 rfl (lv_at hl 3 rfl) ?_
                    refine lv_ineg hx hb d_Md_numberAt_142 ?_
                    refine lv_goto (tgt := 147) hx hb d_Md_numberAt_143 (by decide) ?_
                    subst hQ
                    exact W.iret (v := -val) hx hb hr (fun t ht hW => ⟨_, rfl, (by have hz : m_numR c11 u28 ((u28.toInt - (u27 + 1).toInt).toNat + 1) (u27 + 1) 0 = val := hg.trans (by rw [m_numR]; simp [eq_true c_1, eq_false c_30, eq_false c_39, eq_true c_49, eq_false c_50]); unfold m_numberAt; rw [hz]; simp [eq_true c_1, eq_false c_30, eq_false c_39, eq_true c_49, eq_false c_50]), ht⟩) (fun q h => by cases h) d_Md_numberAt_147
              · refine lv_iload_n hx hb d_Md_numberAt_78 rfl (lv_at hl 3 rfl) ?_
                refine lv_if_lt (tgt := 133) hx hb d_Md_numberAt_79 (by decide) (fun c_52 => ?_) (fun c_52 => ?_)
                · refine lv_iload_n hx hb d_Md_numberAt_133 rfl (lv_at hl 3 rfl) ?_
                  refine lv_if_lt (tgt := 146) hx hb d_Md_numberAt_134 (by decide) (fun c_53 => ?_) (fun c_53 => ?_)
                  · refine lv_iload_n hx hb d_Md_numberAt_146 rfl (lv_at hl 3 rfl) ?_
                    subst hQ
                    exact W.iret (v := val) hx hb hr (fun t ht hW => ⟨_, rfl, (by have hz : m_numR c11 u28 ((u28.toInt - (u27 + 1).toInt).toNat + 1) (u27 + 1) 0 = val := hg.trans (by rw [m_numR]; simp [eq_true c_1, eq_false c_30, eq_false c_39, eq_false c_49, eq_true c_52, eq_true c_53]); unfold m_numberAt; rw [hz]; simp [eq_true c_1, eq_false c_30, eq_false c_39, eq_false c_49, eq_true c_52, eq_true c_53]), ht⟩) (fun q h => by cases h) d_Md_numberAt_147
                  · exact absurd c_52 c_53
                · refine lv_aload_n hx hb d_Md_numberAt_82 rfl (lv_at hl 0 rfl) ?_
                  refine va_get (D := D) (ci := 6) (v := .ref a11) (C := R_Md) (T := T_Md) (N := 31) hx hb hts in_Md hown hK hP 0 rfl rfl 11 (by decide) (hts _ cw_745) (fun _ h9 => h9) rfl d_Md_numberAt_83 ?_
                  refine lv_iload hx hb d_Md_numberAt_86 (lv_at hl 4 rfl) ?_
                  refine va_iald hx hb hK hP 1 0 rfl rfl (ix_mid (n := 600) (by decide) hx0 c_49 he6) d_Md_numberAt_88 ?_
                  refine lv_bipush (v := 48) hx hb d_Md_numberAt_89 (by decide) ?_
                  refine lv_icmp_lt (tgt := 124) hx hb d_Md_numberAt_91 (by decide) (fun c_54 => ?_) (fun c_54 => ?_)
                  · refine lv_ldc (v := (-10000000)) hx hb hown (hts _ cw_918) d_Md_numberAt_124 ?_
                    refine lv_istore_n (lv' := [(3, .int (-10000000)), (0, .ref h0), (1, .int 1), (2, .int (u27 + 1)), (4, .int x)]) hx hb d_Md_numberAt_126 rfl hl (by decide) rfl (fun ls hl => ?_)
                    refine lv_iinc (v := x + 1) (lv' := [(4, .int (x + 1)), (3, .int (-10000000)), (0, .ref h0), (1, .int 1), (2, .int (u27 + 1))]) hx hb d_Md_numberAt_127 hl (k := 4) rfl (rfl) (by decide) rfl (fun ls hl => ?_)
                    refine lv_goto (tgt := 69) hx hb d_Md_numberAt_130 (by decide) ?_
                    exact ih_69 (x + 1) (-10000000) (ix_up hn c_49) (hg.trans (by rw [m_numR]; simp [eq_true c_1, eq_false c_30, eq_false c_39, eq_false c_49, eq_false c_52, eq_true c_54])) (ix_up0 hx0 c_49) ls (lv_sub hl [2, 3, 4, 1, 0] rfl)
                  · refine lv_aload_n hx hb d_Md_numberAt_94 rfl (lv_at hl 0 rfl) ?_
                    refine va_get (D := D) (ci := 6) (v := .ref a11) (C := R_Md) (T := T_Md) (N := 31) hx hb hts in_Md hown hK hP 0 rfl rfl 11 (by decide) (hts _ cw_745) (fun _ h9 => h9) rfl d_Md_numberAt_95 ?_
                    refine lv_iload hx hb d_Md_numberAt_98 (lv_at hl 4 rfl) ?_
                    refine va_iald hx hb hK hP 1 0 rfl rfl (ix_mid (n := 600) (by decide) hx0 c_49 he6) d_Md_numberAt_100 ?_
                    refine lv_bipush (v := 57) hx hb d_Md_numberAt_101 (by decide) ?_
                    refine lv_icmp_gt (tgt := 124) hx hb d_Md_numberAt_103 (by decide) (fun c_55 => ?_) (fun c_55 => ?_)
                    · refine lv_ldc (v := (-10000000)) hx hb hown (hts _ cw_918) d_Md_numberAt_124 ?_
                      refine lv_istore_n (lv' := [(3, .int (-10000000)), (0, .ref h0), (1, .int 1), (2, .int (u27 + 1)), (4, .int x)]) hx hb d_Md_numberAt_126 rfl hl (by decide) rfl (fun ls hl => ?_)
                      refine lv_iinc (v := x + 1) (lv' := [(4, .int (x + 1)), (3, .int (-10000000)), (0, .ref h0), (1, .int 1), (2, .int (u27 + 1))]) hx hb d_Md_numberAt_127 hl (k := 4) rfl (rfl) (by decide) rfl (fun ls hl => ?_)
                      refine lv_goto (tgt := 69) hx hb d_Md_numberAt_130 (by decide) ?_
                      exact ih_69 (x + 1) (-10000000) (ix_up hn c_49) (hg.trans (by rw [m_numR]; simp [eq_true c_1, eq_false c_30, eq_false c_39, eq_false c_49, eq_false c_52, eq_false c_54, eq_true c_55])) (ix_up0 hx0 c_49) ls (lv_sub hl [2, 3, 4, 1, 0] rfl)
                    · refine lv_bipush (v := 10) hx hb d_Md_numberAt_106 (by decide) ?_
                      refine lv_iload_n hx hb d_Md_numberAt_108 rfl (lv_at hl 3 rfl) ?_
                      refine lv_imul hx hb d_Md_numberAt_109 ?_
                      refine lv_aload_n hx hb d_Md_numberAt_110 rfl (lv_at hl 0 rfl) ?_
                      refine va_get (D := D) (ci := 6) (v := .ref a11) (C := R_Md) (T := T_Md) (N := 31) hx hb hts in_Md hown hK hP 0 rfl rfl 11 (by decide) (hts _ cw_745) (fun _ h9 => h9) rfl d_Md_numberAt_111 ?_
                      refine lv_iload hx hb d_Md_numberAt_114 (lv_at hl 4 rfl) ?_
                      refine va_iald hx hb hK hP 1 0 rfl rfl (ix_mid (n := 600) (by decide) hx0 c_49 he6) d_Md_numberAt_116 ?_
                      refine lv_iadd hx hb d_Md_numberAt_117 ?_
                      refine lv_bipush (v := 48) hx hb d_Md_numberAt_118 (by decide) ?_
                      refine lv_isub hx hb d_Md_numberAt_120 ?_
                      refine lv_goto (tgt := 126) hx hb d_Md_numberAt_121 (by decide) ?_
                      refine lv_istore_n (lv' := [(3, .int (((10 * val) + (c11 x.toNatClampNeg)) - 48)), (0, .ref h0), (1, .int 1), (2, .int (u27 + 1)), (4, .int x)]) hx hb d_Md_numberAt_126 rfl hl (by decide) rfl (fun ls hl => ?_)
                      refine lv_iinc (v := x + 1) (lv' := [(4, .int (x + 1)), (3, .int (((10 * val) + (c11 x.toNatClampNeg)) - 48)), (0, .ref h0), (1, .int 1), (2, .int (u27 + 1))]) hx hb d_Md_numberAt_127 hl (k := 4) rfl (rfl) (by decide) rfl (fun ls hl => ?_)
                      refine lv_goto (tgt := 69) hx hb d_Md_numberAt_130 (by decide) ?_
                      exact ih_69 (x + 1) (((10 * val) + (c11 x.toNatClampNeg)) - 48) (ix_up hn c_49) (hg.trans (by rw [m_numR]; simp [eq_true c_1, eq_false c_30, eq_false c_39, eq_false c_49, eq_false c_52, eq_false c_54, eq_false c_55])) (ix_up0 hx0 c_49) ls (lv_sub hl [2, 3, 4, 1, 0] rfl)
          exact loop_48 ((u28.toInt - (u27 + 1).toInt).toNat + 1) (u27 + 1) 0 (Nat.lt_succ_self _) (rfl) (ix_up0 hf0 (p := 600) (Int32.not_le.mpr hf6)) ls (lv_sub hl [4, 3, 2, 1, 0] rfl)

set_option maxHeartbeats 4000000 in
set_option maxRecDepth 100000 in
theorem c_Md_take (l : Launch) (D : va_G)  (h0 : Nat) (u0 : Int32) (a1 : Nat) (u2 : Int32) (u3 : Int32) (a4 : Nat) (a5 : Nat) (a6 : Nat) (a7 : Nat) (a8 : Nat) (a9 : Nat) (a10 : Nat) (a11 : Nat) (u12 : Int32) (u13 : Int32) (a14 : Nat) (a15 : Nat) (a16 : Nat) (u17 : Int32) (a18 : Nat) (a19 : Nat) (a20 : Nat) (u21 : Int32) (a22 : Nat) (a23 : Nat) (u24 : Int32) (a25 : Nat) (a26 : Nat) (u27 : Int32) (u28 : Int32) (u29 : Int32) (u30 : Int32) (k11 : ClassId) (k18 : ClassId) (k19 : ClassId) (k20 : ClassId) (c11 : Nat → Int32) (c18 : Nat → Int32) (c19 : Nat → Int32) (c20 : Nat → Int32) (p0 : Int32) (p1 : Int32) (sz : Nat) (hf0 : ¬ u27 < 0) (hf6 : u27 < 600) (he6 : u28 ≤ 600) (ht1 : p0 = 1 → vp_in u17 20) (hnc : vp_in u21 200) : Met l y_Md_take ws_Md_take ({ frames := 1, cells := 0, slots := 0, locals := 20 }) (va_Pc [.ref h0, .int p0, .int p1] (cx_pre D [(k11, .int), (k18, .int), (k19, .int), (k20, .int)] ([(h0, .inr (6, [.int u0, .ref a1, .int u2, .int u3, .ref a4, .ref a5, .ref a6, .ref a7, .ref a8, .ref a9, .ref a10, .ref a11, .int u12, .int u13, .ref a14, .ref a15, .ref a16, .int u17, .ref a18, .ref a19, .ref a20, .int u21, .ref a22, .ref a23, .int u24, .ref a25, .ref a26, .int u27, .int u28, .int u29, .int u30])), (a11, .inl (k11, 600, .inl c11)), (a18, .inl (k18, 20, .inl c18)), (a19, .inl (k19, 21, .inl c19)), (a20, .inl (k20, 600, .inl c20))]) sz)) (va_Qi (fun r9 _ => r9 = (m_take c11 c18 c19 c20 u17 u21 u27 u28 p0 p1).1) (fun (_ : Unit) t => cx_end D [(k11, .int), (k18, .int), (k19, .int), (k20, .int)] (va_A ([(h0, .inr (6, [.int u0, .ref a1, .int u2, .int u3, .ref a4, .ref a5, .ref a6, .ref a7, .ref a8, .ref a9, .ref a10, .ref a11, .int u12, .int u13, .ref a14, .ref a15, .ref a16, .int u17, .ref a18, .ref a19, .ref a20, .int u21, .ref a22, .ref a23, .int u24, .ref a25, .ref a26, .int u27, .int u28, .int u29, .int u30])), (a11, .inl (k11, 600, .inl c11)), (a18, .inl (k18, 20, .inl c18)), (a19, .inl (k19, 21, .inl c19)), (a20, .inl (k20, 600, .inl c20))]) sz) ([(h0, .inr (6, [.int u0, .ref a1, .int u2, .int u3, .ref a4, .ref a5, .ref a6, .ref a7, .ref a8, .ref a9, .ref a10, .ref a11, .int u12, .int u13, .ref a14, .ref a15, .ref a16, .int ((m_take c11 c18 c19 c20 u17 u21 u27 u28 p0 p1).2.1), .ref a18, .ref a19, .ref a20, .int ((m_take c11 c18 c19 c20 u17 u21 u27 u28 p0 p1).2.2.1), .ref a22, .ref a23, .int u24, .ref a25, .ref a26, .int u27, .int u28, .int u29, .int u30])), (a11, .inl (k11, 600, .inl c11)), (a18, .inl (k18, 20, .inl ((m_take c11 c18 c19 c20 u17 u21 u27 u28 p0 p1).2.2.2.1))), (a19, .inl (k19, 21, .inl ((m_take c11 c18 c19 c20 u17 u21 u27 u28 p0 p1).2.2.2.2.1))), (a20, .inl (k20, 600, .inl ((m_take c11 c18 c19 c20 u17 u21 u27 u28 p0 p1).2.2.2.2.2)))]) t) (va_A ([(h0, .inr (6, [.int u0, .ref a1, .int u2, .int u3, .ref a4, .ref a5, .ref a6, .ref a7, .ref a8, .ref a9, .ref a10, .ref a11, .int u12, .int u13, .ref a14, .ref a15, .ref a16, .int u17, .ref a18, .ref a19, .ref a20, .int u21, .ref a22, .ref a23, .int u24, .ref a25, .ref a26, .int u27, .int u28, .int u29, .int u30])), (a11, .inl (k11, 600, .inl c11)), (a18, .inl (k18, 20, .inl c18)), (a19, .inl (k19, 21, .inl c19)), (a20, .inl (k20, 600, .inl c20))]) sz)) 0 0 (va_A ([(h0, .inr (6, [.int u0, .ref a1, .int u2, .int u3, .ref a4, .ref a5, .ref a6, .ref a7, .ref a8, .ref a9, .ref a10, .ref a11, .int u12, .int u13, .ref a14, .ref a15, .ref a16, .int u17, .ref a18, .ref a19, .ref a20, .int u21, .ref a22, .ref a23, .int u24, .ref a25, .ref a26, .int u27, .int u28, .int u29, .int u30])), (a11, .inl (k11, 600, .inl c11)), (a18, .inl (k18, 20, .inl c18)), (a19, .inl (k19, 21, .inl c19)), (a20, .inl (k20, 600, .inl c20))]) sz) := by
  refine Met.ofW (cc := b_Md_take) (maxL := 3) (ret := (some .int)) (by decide) rfl ?_
  intro p e s m args below meth c s₁ B hml hv
  obtain ⟨rfl, hsz, hP, hK, hD0, hN, hO⟩ := hv
  have hx := B.exec
  have hb := B.bytes
  have hr := B.returns
  have hts := fun (w : Cond) (h : w ∈ cx_tbl) => atoms_spec (ws := ws_Md_take) B.pre w (List.mem_cons_of_mem _ h)
  have hown : s.vm.findClass R_Md = some m.cls := findClass_of_methodNamed B.named
  have hlocks := B.notSynchronized
  subst hsz
  have hD := hD0.self (sz := s.heap.size)
  generalize hAe : va_A ([(h0, .inr (6, [.int u0, .ref a1, .int u2, .int u3, .ref a4, .ref a5, .ref a6, .ref a7, .ref a8, .ref a9, .ref a10, .ref a11, .int u12, .int u13, .ref a14, .ref a15, .ref a16, .int u17, .ref a18, .ref a19, .ref a20, .int u21, .ref a22, .ref a23, .int u24, .ref a25, .ref a26, .int u27, .int u28, .int u29, .int u30])), (a11, .inl (k11, 600, .inl c11)), (a18, .inl (k18, 20, .inl c18)), (a19, .inl (k19, 21, .inl c19)), (a20, .inl (k20, 600, .inl c20))]) s.heap.size = A at hD hO ⊢
  have hA : ∀ q : Nat, s.heap.size ≤ q → A q := fun q h => by rw [← hAe]; exact Or.inr h
  have hS : va_S A s.heap s.heap [] := va_S.rf
  have hl := lv_entry ([.ref h0, .int p0, .int p1]) (n := 3) (Nat.le_of_ble_eq_true rfl)
  rw [lg_entry_eq]
  generalize (lg_sl ([.ref h0, .int p0, .int p1]) ++ List.replicate (3 - (lg_sl ([.ref h0, .int p0, .int p1])).length) Slot.unset).toArray = ls at hl ⊢
  have hl : lv_has ls 3 [(0, .ref h0), (1, .int p0), (2, .int p1)] := hl
  refine lv_iload_n hx hb d_Md_take_0 rfl (lv_at hl 1 rfl) ?_
  refine lv_iconst (v := 1) hx hb d_Md_take_1 (by decide) ?_
  refine lv_icmp_ne (tgt := 40) hx hb d_Md_take_2 (by decide) (fun c_1 => ?_) (fun c_1 => ?_)
  · refine lv_iload_n hx hb d_Md_take_40 rfl (lv_at hl 1 rfl) ?_
    refine lv_iconst (v := 3) hx hb d_Md_take_41 (by decide) ?_
    refine lv_icmp_ne (tgt := 61) hx hb d_Md_take_42 (by decide) (fun c_2 => ?_) (fun c_2 => ?_)
    · refine lv_iload_n hx hb d_Md_take_61 rfl (lv_at hl 1 rfl) ?_
      refine lv_iconst (v := 4) hx hb d_Md_take_62 (by decide) ?_
      refine lv_icmp_ne (tgt := 92) hx hb d_Md_take_63 (by decide) (fun c_3 => ?_) (fun c_3 => ?_)
      · refine lv_aload_n hx hb d_Md_take_92 rfl (lv_at hl 0 rfl) ?_
        have hPc := hP.sub (ws' := [(h0, .inr (6, [.int u0, .ref a1, .int u2, .int u3, .ref a4, .ref a5, .ref a6, .ref a7, .ref a8, .ref a9, .ref a10, .ref a11, .int u12, .int u13, .ref a14, .ref a15, .ref a16, .int u17, .ref a18, .ref a19, .ref a20, .int u21, .ref a22, .ref a23, .int u24, .ref a25, .ref a26, .int u27, .int u28, .int u29, .int u30])), (a11, .inl (k11, 600, .inl c11))]) [0, 1] rfl
        have hDc := hD.sub (ws' := [(h0, .inr (6, [.int u0, .ref a1, .int u2, .int u3, .ref a4, .ref a5, .ref a6, .ref a7, .ref a8, .ref a9, .ref a10, .ref a11, .int u12, .int u13, .ref a14, .ref a15, .ref a16, .int u17, .ref a18, .ref a19, .ref a20, .int u21, .ref a22, .ref a23, .int u24, .ref a25, .ref a26, .int u27, .int u28, .int u29, .int u30])), (a11, .inl (k11, 600, .inl c11))]) [0, 1] (by decide) rfl
        have hKc := hK.sub (tys' := [(k11, .int)]) [0] rfl
        have hFc := va_free (wc := [(h0, .inr (6, [.int u0, .ref a1, .int u2, .int u3, .ref a4, .ref a5, .ref a6, .ref a7, .ref a8, .ref a9, .ref a10, .ref a11, .int u12, .int u13, .ref a14, .ref a15, .ref a16, .int u17, .ref a18, .ref a19, .ref a20, .int u21, .ref a22, .ref a23, .int u24, .ref a25, .ref a26, .int u27, .int u28, .int u29, .int u30])), (a11, .inl (k11, 600, .inl c11))]) hD hS hA [0, 1] rfl
        refine vp_callSi (va_Run.run (va_runV (As := []) (rest := [])  ⟨hx, hb, hml, hown, hts⟩ (c_Md_isClass l D h0 u0 a1 u2 u3 a4 a5 a6 a7 a8 a9 a10 a11 u12 u13 a14 a15 a16 u17 a18 a19 a20 u21 a22 a23 u24 a25 a26 u27 u28 u29 u30 k11 c11 s.heap.size (hf0) (hf6) (he6)) ⟨callB_of 0 hts cg_Md_isClass rfl rfl rfl (hts _ cw_10) (hts _ cw_920) (by decide +kernel) ⟨Nat.le_of_ble_eq_true rfl, Nat.le_of_ble_eq_true rfl⟩, hts _ cw_922, hts _ cs_22⟩ (cx_preV (C := R_Md) [] hPc hKc hDc hN hO hS hFc (ci := 6) (q0 := 0) rfl rfl rfl) rfl rfl hl.1 rfl (lv_room (Nat.le_of_ble_eq_true rfl)) d_Md_take_93 ⟨Nat.le_of_ble_eq_true rfl, Nat.le_of_ble_eq_true rfl⟩)) (fun r z_4 => ?_)
        subst z_4
        refine lv_if_eq (tgt := 101) hx hb d_Md_take_96 (by decide) (fun c_5 => ?_) (fun c_5 => ?_)
        · refine lv_aload_n hx hb d_Md_take_101 rfl (lv_at hl 0 rfl) ?_
          refine va_get (D := D) (ci := 6) (v := .ref a20) (C := R_Md) (T := T_Md) (N := 31) hx hb hts in_Md hown hK hP 0 rfl rfl 20 (by decide) (hts _ cw_754) (fun _ h9 => h9) rfl d_Md_take_102 ?_
          refine lv_iconst (v := 3) hx hb d_Md_take_105 (by decide) ?_
          refine lv_aload_n hx hb d_Md_take_106 rfl (lv_at hl 0 rfl) ?_
          refine va_get (D := D) (ci := 6) (v := .int u21) (C := R_Md) (T := T_Md) (N := 31) hx hb hts in_Md hown hK hP 0 rfl rfl 21 (by decide) (hts _ cw_755) (fun _ h9 => h9) rfl d_Md_take_107 ?_
          refine lv_imul hx hb d_Md_take_110 ?_
          refine lv_aload_n hx hb d_Md_take_111 rfl (lv_at hl 0 rfl) ?_
          refine va_get (D := D) (ci := 6) (v := .ref a11) (C := R_Md) (T := T_Md) (N := 31) hx hb hts in_Md hown hK hP 0 rfl rfl 11 (by decide) (hts _ cw_745) (fun _ h9 => h9) rfl d_Md_take_112 ?_
          refine lv_aload_n hx hb d_Md_take_115 rfl (lv_at hl 0 rfl) ?_
          refine va_get (D := D) (ci := 6) (v := .int u27) (C := R_Md) (T := T_Md) (N := 31) hx hb hts in_Md hown hK hP 0 rfl rfl 27 (by decide) (hts _ cw_761) (fun _ h9 => h9) rfl d_Md_take_116 ?_
          refine va_iald hx hb hK hP 1 0 rfl rfl (cx_ixl (n := 600) (by decide) hf0 hf6) d_Md_take_119 ?_
          refine va_iast hx hb hK hP hD hS 4 3 rfl rfl (md_30 hnc) d_Md_take_120 (fun H locs hP hD hS => ?_)
          have hP : va_P D classes ([(h0, .inr (6, [.int u0, .ref a1, .int u2, .int u3, .ref a4, .ref a5, .ref a6, .ref a7, .ref a8, .ref a9, .ref a10, .ref a11, .int u12, .int u13, .ref a14, .ref a15, .ref a16, .int u17, .ref a18, .ref a19, .ref a20, .int u21, .ref a22, .ref a23, .int u24, .ref a25, .ref a26, .int u27, .int u28, .int u29, .int u30])), (a11, .inl (k11, 600, .inl c11)), (a18, .inl (k18, 20, .inl c18)), (a19, .inl (k19, 21, .inl c19)), (a20, .inl (k20, 600, .inl (upd c20 ((3 * u21).toNatClampNeg) (c11 u27.toNatClampNeg))))]) H := hP
          have hD : va_D A ([(h0, .inr (6, [.int u0, .ref a1, .int u2, .int u3, .ref a4, .ref a5, .ref a6, .ref a7, .ref a8, .ref a9, .ref a10, .ref a11, .int u12, .int u13, .ref a14, .ref a15, .ref a16, .int u17, .ref a18, .ref a19, .ref a20, .int u21, .ref a22, .ref a23, .int u24, .ref a25, .ref a26, .int u27, .int u28, .int u29, .int u30])), (a11, .inl (k11, 600, .inl c11)), (a18, .inl (k18, 20, .inl c18)), (a19, .inl (k19, 21, .inl c19)), (a20, .inl (k20, 600, .inl (upd c20 ((3 * u21).toNatClampNeg) (c11 u27.toNatClampNeg))))]) := hD
          refine lv_iconst (v := 3) hx hb d_Md_take_121 (by decide) ?_
          have hm : m_take c11 c18 c19 c20 u17 u21 u27 u28 p0 p1 = (3, u17, u21, c18, c19, upd c20 ((3 * u21).toNatClampNeg) (c11 u27.toNatClampNeg)) := by simp [m_take, eq_false c_1, eq_false c_2, eq_false c_3, eq_true c_5]
          rw [hm]
          have hP9 := hP.sub (ws' := [(h0, .inr (6, [.int u0, .ref a1, .int u2, .int u3, .ref a4, .ref a5, .ref a6, .ref a7, .ref a8, .ref a9, .ref a10, .ref a11, .int u12, .int u13, .ref a14, .ref a15, .ref a16, .int u17, .ref a18, .ref a19, .ref a20, .int u21, .ref a22, .ref a23, .int u24, .ref a25, .ref a26, .int u27, .int u28, .int u29, .int u30])), (a11, .inl (k11, 600, .inl c11)), (a18, .inl (k18, 20, .inl c18)), (a19, .inl (k19, 21, .inl c19)), (a20, .inl (k20, 600, .inl (upd c20 ((3 * u21).toNatClampNeg) (c11 u27.toNatClampNeg))))]) [0, 1, 2, 3, 4] rfl
          have hD9 := hD.sub (ws' := [(h0, .inr (6, [.int u0, .ref a1, .int u2, .int u3, .ref a4, .ref a5, .ref a6, .ref a7, .ref a8, .ref a9, .ref a10, .ref a11, .int u12, .int u13, .ref a14, .ref a15, .ref a16, .int u17, .ref a18, .ref a19, .ref a20, .int u21, .ref a22, .ref a23, .int u24, .ref a25, .ref a26, .int u27, .int u28, .int u29, .int u30])), (a11, .inl (k11, 600, .inl c11)), (a18, .inl (k18, 20, .inl c18)), (a19, .inl (k19, 21, .inl c19)), (a20, .inl (k20, 600, .inl (upd c20 ((3 * u21).toNatClampNeg) (c11 u27.toNatClampNeg))))]) [0, 1, 2, 3, 4] (by decide) rfl
          have hK9 := hK.sub (tys' := [(k11, .int), (k18, .int), (k19, .int), (k20, .int)]) [0, 1, 2, 3] rfl
          exact W.iret (v := 3) hx hb hr (fun t ht hW => ⟨⟨_, (), rfl, rfl, by rw [ht]; exact hP9, va_K.moved hW.alike hK9, hD9⟩, hS.F ht⟩) hS.2.2 d_Md_take_122
        · refine lv_iconst (v := 1) hx hb d_Md_take_99 (by decide) ?_
          have hm : m_take c11 c18 c19 c20 u17 u21 u27 u28 p0 p1 = (1, u17, u21, c18, c19, c20) := by simp [m_take, eq_false c_1, eq_false c_2, eq_false c_3, eq_false c_5]
          rw [hm]
          have hP9 := hP.sub (ws' := [(h0, .inr (6, [.int u0, .ref a1, .int u2, .int u3, .ref a4, .ref a5, .ref a6, .ref a7, .ref a8, .ref a9, .ref a10, .ref a11, .int u12, .int u13, .ref a14, .ref a15, .ref a16, .int u17, .ref a18, .ref a19, .ref a20, .int u21, .ref a22, .ref a23, .int u24, .ref a25, .ref a26, .int u27, .int u28, .int u29, .int u30])), (a11, .inl (k11, 600, .inl c11)), (a18, .inl (k18, 20, .inl c18)), (a19, .inl (k19, 21, .inl c19)), (a20, .inl (k20, 600, .inl c20))]) [0, 1, 2, 3, 4] rfl
          have hD9 := hD.sub (ws' := [(h0, .inr (6, [.int u0, .ref a1, .int u2, .int u3, .ref a4, .ref a5, .ref a6, .ref a7, .ref a8, .ref a9, .ref a10, .ref a11, .int u12, .int u13, .ref a14, .ref a15, .ref a16, .int u17, .ref a18, .ref a19, .ref a20, .int u21, .ref a22, .ref a23, .int u24, .ref a25, .ref a26, .int u27, .int u28, .int u29, .int u30])), (a11, .inl (k11, 600, .inl c11)), (a18, .inl (k18, 20, .inl c18)), (a19, .inl (k19, 21, .inl c19)), (a20, .inl (k20, 600, .inl c20))]) [0, 1, 2, 3, 4] (by decide) rfl
          have hK9 := hK.sub (tys' := [(k11, .int), (k18, .int), (k19, .int), (k20, .int)]) [0, 1, 2, 3] rfl
          exact W.iret (v := 1) hx hb hr (fun t ht hW => ⟨⟨_, (), rfl, rfl, by rw [ht]; exact hP9, va_K.moved hW.alike hK9, hD9⟩, hS.F ht⟩) hS.2.2 d_Md_take_100
      · refine lv_aload_n hx hb d_Md_take_66 rfl (lv_at hl 0 rfl) ?_
        refine va_get (D := D) (ci := 6) (v := .ref a20) (C := R_Md) (T := T_Md) (N := 31) hx hb hts in_Md hown hK hP 0 rfl rfl 20 (by decide) (hts _ cw_754) (fun _ h9 => h9) rfl d_Md_take_67 ?_
        refine lv_iconst (v := 3) hx hb d_Md_take_70 (by decide) ?_
        refine lv_aload_n hx hb d_Md_take_71 rfl (lv_at hl 0 rfl) ?_
        refine va_get (D := D) (ci := 6) (v := .int u21) (C := R_Md) (T := T_Md) (N := 31) hx hb hts in_Md hown hK hP 0 rfl rfl 21 (by decide) (hts _ cw_755) (fun _ h9 => h9) rfl d_Md_take_72 ?_
        refine lv_imul hx hb d_Md_take_75 ?_
        refine lv_iconst (v := 2) hx hb d_Md_take_76 (by decide) ?_
        refine lv_iadd hx hb d_Md_take_77 ?_
        refine lv_iload_n hx hb d_Md_take_78 rfl (lv_at hl 2 rfl) ?_
        refine va_iast hx hb hK hP hD hS 4 3 rfl rfl (md_3 hnc (k := 2) (by decide)) d_Md_take_79 (fun H locs hP hD hS => ?_)
        have hP : va_P D classes ([(h0, .inr (6, [.int u0, .ref a1, .int u2, .int u3, .ref a4, .ref a5, .ref a6, .ref a7, .ref a8, .ref a9, .ref a10, .ref a11, .int u12, .int u13, .ref a14, .ref a15, .ref a16, .int u17, .ref a18, .ref a19, .ref a20, .int u21, .ref a22, .ref a23, .int u24, .ref a25, .ref a26, .int u27, .int u28, .int u29, .int u30])), (a11, .inl (k11, 600, .inl c11)), (a18, .inl (k18, 20, .inl c18)), (a19, .inl (k19, 21, .inl c19)), (a20, .inl (k20, 600, .inl (upd c20 (((3 * u21) + 2).toNatClampNeg) p1)))]) H := hP
        have hD : va_D A ([(h0, .inr (6, [.int u0, .ref a1, .int u2, .int u3, .ref a4, .ref a5, .ref a6, .ref a7, .ref a8, .ref a9, .ref a10, .ref a11, .int u12, .int u13, .ref a14, .ref a15, .ref a16, .int u17, .ref a18, .ref a19, .ref a20, .int u21, .ref a22, .ref a23, .int u24, .ref a25, .ref a26, .int u27, .int u28, .int u29, .int u30])), (a11, .inl (k11, 600, .inl c11)), (a18, .inl (k18, 20, .inl c18)), (a19, .inl (k19, 21, .inl c19)), (a20, .inl (k20, 600, .inl (upd c20 (((3 * u21) + 2).toNatClampNeg) p1)))]) := hD
        refine lv_aload_n hx hb d_Md_take_80 rfl (lv_at hl 0 rfl) ?_
        refine lv_dup hx hb d_Md_take_81 rfl ?_
        refine va_get (D := D) (ci := 6) (v := .int u21) (C := R_Md) (T := T_Md) (N := 31) hx hb hts in_Md hown hK hP 0 rfl rfl 21 (by decide) (hts _ cw_755) (fun _ h9 => h9) rfl d_Md_take_82 ?_
        refine lv_iconst (v := 1) hx hb d_Md_take_85 (by decide) ?_
        refine lv_iadd hx hb d_Md_take_86 ?_
        refine va_put (D := D) (ci := 6) (v := .int (u21 + 1)) (ty := .int) (C := R_Md) (T := T_Md) (N := 31) hx hb hts in_Md ty_Md tyok_Md nm_Md hown hK hP hD hS 0 rfl rfl 21 (by decide) (hts _ cw_755) (fun _ h9 => h9) rfl (by decide +kernel) rfl rfl (Nat.le_of_ble_eq_true rfl) d_Md_take_87 (fun H locs hP hD hS => ?_)
        have hP : va_P D classes ([(h0, .inr (6, [.int u0, .ref a1, .int u2, .int u3, .ref a4, .ref a5, .ref a6, .ref a7, .ref a8, .ref a9, .ref a10, .ref a11, .int u12, .int u13, .ref a14, .ref a15, .ref a16, .int u17, .ref a18, .ref a19, .ref a20, .int (u21 + 1), .ref a22, .ref a23, .int u24, .ref a25, .ref a26, .int u27, .int u28, .int u29, .int u30])), (a11, .inl (k11, 600, .inl c11)), (a18, .inl (k18, 20, .inl c18)), (a19, .inl (k19, 21, .inl c19)), (a20, .inl (k20, 600, .inl (upd c20 (((3 * u21) + 2).toNatClampNeg) p1)))]) H := hP
        have hD : va_D A ([(h0, .inr (6, [.int u0, .ref a1, .int u2, .int u3, .ref a4, .ref a5, .ref a6, .ref a7, .ref a8, .ref a9, .ref a10, .ref a11, .int u12, .int u13, .ref a14, .ref a15, .ref a16, .int u17, .ref a18, .ref a19, .ref a20, .int (u21 + 1), .ref a22, .ref a23, .int u24, .ref a25, .ref a26, .int u27, .int u28, .int u29, .int u30])), (a11, .inl (k11, 600, .inl c11)), (a18, .inl (k18, 20, .inl c18)), (a19, .inl (k19, 21, .inl c19)), (a20, .inl (k20, 600, .inl (upd c20 (((3 * u21) + 2).toNatClampNeg) p1)))]) := hD
        refine lv_iconst (v := 2) hx hb d_Md_take_90 (by decide) ?_
        have hm : m_take c11 c18 c19 c20 u17 u21 u27 u28 p0 p1 = (2, u17, u21 + 1, c18, c19, upd c20 (((3 * u21) + 2).toNatClampNeg) p1) := by simp [m_take, eq_false c_1, eq_false c_2, eq_true c_3]
        rw [hm]
        have hP9 := hP.sub (ws' := [(h0, .inr (6, [.int u0, .ref a1, .int u2, .int u3, .ref a4, .ref a5, .ref a6, .ref a7, .ref a8, .ref a9, .ref a10, .ref a11, .int u12, .int u13, .ref a14, .ref a15, .ref a16, .int u17, .ref a18, .ref a19, .ref a20, .int (u21 + 1), .ref a22, .ref a23, .int u24, .ref a25, .ref a26, .int u27, .int u28, .int u29, .int u30])), (a11, .inl (k11, 600, .inl c11)), (a18, .inl (k18, 20, .inl c18)), (a19, .inl (k19, 21, .inl c19)), (a20, .inl (k20, 600, .inl (upd c20 (((3 * u21) + 2).toNatClampNeg) p1)))]) [0, 1, 2, 3, 4] rfl
        have hD9 := hD.sub (ws' := [(h0, .inr (6, [.int u0, .ref a1, .int u2, .int u3, .ref a4, .ref a5, .ref a6, .ref a7, .ref a8, .ref a9, .ref a10, .ref a11, .int u12, .int u13, .ref a14, .ref a15, .ref a16, .int u17, .ref a18, .ref a19, .ref a20, .int (u21 + 1), .ref a22, .ref a23, .int u24, .ref a25, .ref a26, .int u27, .int u28, .int u29, .int u30])), (a11, .inl (k11, 600, .inl c11)), (a18, .inl (k18, 20, .inl c18)), (a19, .inl (k19, 21, .inl c19)), (a20, .inl (k20, 600, .inl (upd c20 (((3 * u21) + 2).toNatClampNeg) p1)))]) [0, 1, 2, 3, 4] (by decide) rfl
        have hK9 := hK.sub (tys' := [(k11, .int), (k18, .int), (k19, .int), (k20, .int)]) [0, 1, 2, 3] rfl
        exact W.iret (v := 2) hx hb hr (fun t ht hW => ⟨⟨_, (), rfl, rfl, by rw [ht]; exact hP9, va_K.moved hW.alike hK9, hD9⟩, hS.F ht⟩) hS.2.2 d_Md_take_91
    · refine lv_aload_n hx hb d_Md_take_45 rfl (lv_at hl 0 rfl) ?_
      refine va_get (D := D) (ci := 6) (v := .ref a20) (C := R_Md) (T := T_Md) (N := 31) hx hb hts in_Md hown hK hP 0 rfl rfl 20 (by decide) (hts _ cw_754) (fun _ h9 => h9) rfl d_Md_take_46 ?_
      refine lv_iconst (v := 3) hx hb d_Md_take_49 (by decide) ?_
      refine lv_aload_n hx hb d_Md_take_50 rfl (lv_at hl 0 rfl) ?_
      refine va_get (D := D) (ci := 6) (v := .int u21) (C := R_Md) (T := T_Md) (N := 31) hx hb hts in_Md hown hK hP 0 rfl rfl 21 (by decide) (hts _ cw_755) (fun _ h9 => h9) rfl d_Md_take_51 ?_
      refine lv_imul hx hb d_Md_take_54 ?_
      refine lv_iconst (v := 1) hx hb d_Md_take_55 (by decide) ?_
      refine lv_iadd hx hb d_Md_take_56 ?_
      refine lv_iload_n hx hb d_Md_take_57 rfl (lv_at hl 2 rfl) ?_
      refine va_iast hx hb hK hP hD hS 4 3 rfl rfl (md_3 hnc (k := 1) (by decide)) d_Md_take_58 (fun H locs hP hD hS => ?_)
      have hP : va_P D classes ([(h0, .inr (6, [.int u0, .ref a1, .int u2, .int u3, .ref a4, .ref a5, .ref a6, .ref a7, .ref a8, .ref a9, .ref a10, .ref a11, .int u12, .int u13, .ref a14, .ref a15, .ref a16, .int u17, .ref a18, .ref a19, .ref a20, .int u21, .ref a22, .ref a23, .int u24, .ref a25, .ref a26, .int u27, .int u28, .int u29, .int u30])), (a11, .inl (k11, 600, .inl c11)), (a18, .inl (k18, 20, .inl c18)), (a19, .inl (k19, 21, .inl c19)), (a20, .inl (k20, 600, .inl (upd c20 (((3 * u21) + 1).toNatClampNeg) p1)))]) H := hP
      have hD : va_D A ([(h0, .inr (6, [.int u0, .ref a1, .int u2, .int u3, .ref a4, .ref a5, .ref a6, .ref a7, .ref a8, .ref a9, .ref a10, .ref a11, .int u12, .int u13, .ref a14, .ref a15, .ref a16, .int u17, .ref a18, .ref a19, .ref a20, .int u21, .ref a22, .ref a23, .int u24, .ref a25, .ref a26, .int u27, .int u28, .int u29, .int u30])), (a11, .inl (k11, 600, .inl c11)), (a18, .inl (k18, 20, .inl c18)), (a19, .inl (k19, 21, .inl c19)), (a20, .inl (k20, 600, .inl (upd c20 (((3 * u21) + 1).toNatClampNeg) p1)))]) := hD
      refine lv_iconst (v := 4) hx hb d_Md_take_59 (by decide) ?_
      have hm : m_take c11 c18 c19 c20 u17 u21 u27 u28 p0 p1 = (4, u17, u21, c18, c19, upd c20 (((3 * u21) + 1).toNatClampNeg) p1) := by simp [m_take, eq_false c_1, eq_true c_2]
      rw [hm]
      have hP9 := hP.sub (ws' := [(h0, .inr (6, [.int u0, .ref a1, .int u2, .int u3, .ref a4, .ref a5, .ref a6, .ref a7, .ref a8, .ref a9, .ref a10, .ref a11, .int u12, .int u13, .ref a14, .ref a15, .ref a16, .int u17, .ref a18, .ref a19, .ref a20, .int u21, .ref a22, .ref a23, .int u24, .ref a25, .ref a26, .int u27, .int u28, .int u29, .int u30])), (a11, .inl (k11, 600, .inl c11)), (a18, .inl (k18, 20, .inl c18)), (a19, .inl (k19, 21, .inl c19)), (a20, .inl (k20, 600, .inl (upd c20 (((3 * u21) + 1).toNatClampNeg) p1)))]) [0, 1, 2, 3, 4] rfl
      have hD9 := hD.sub (ws' := [(h0, .inr (6, [.int u0, .ref a1, .int u2, .int u3, .ref a4, .ref a5, .ref a6, .ref a7, .ref a8, .ref a9, .ref a10, .ref a11, .int u12, .int u13, .ref a14, .ref a15, .ref a16, .int u17, .ref a18, .ref a19, .ref a20, .int u21, .ref a22, .ref a23, .int u24, .ref a25, .ref a26, .int u27, .int u28, .int u29, .int u30])), (a11, .inl (k11, 600, .inl c11)), (a18, .inl (k18, 20, .inl c18)), (a19, .inl (k19, 21, .inl c19)), (a20, .inl (k20, 600, .inl (upd c20 (((3 * u21) + 1).toNatClampNeg) p1)))]) [0, 1, 2, 3, 4] (by decide) rfl
      have hK9 := hK.sub (tys' := [(k11, .int), (k18, .int), (k19, .int), (k20, .int)]) [0, 1, 2, 3] rfl
      exact W.iret (v := 4) hx hb hr (fun t ht hW => ⟨⟨_, (), rfl, rfl, by rw [ht]; exact hP9, va_K.moved hW.alike hK9, hD9⟩, hS.F ht⟩) hS.2.2 d_Md_take_60
  · refine lv_aload_n hx hb d_Md_take_5 rfl (lv_at hl 0 rfl) ?_
    refine va_get (D := D) (ci := 6) (v := .ref a18) (C := R_Md) (T := T_Md) (N := 31) hx hb hts in_Md hown hK hP 0 rfl rfl 18 (by decide) (hts _ cw_752) (fun _ h9 => h9) rfl d_Md_take_6 ?_
    refine lv_aload_n hx hb d_Md_take_9 rfl (lv_at hl 0 rfl) ?_
    refine va_get (D := D) (ci := 6) (v := .int u17) (C := R_Md) (T := T_Md) (N := 31) hx hb hts in_Md hown hK hP 0 rfl rfl 17 (by decide) (hts _ cw_751) (fun _ h9 => h9) rfl d_Md_take_10 ?_
    refine lv_iload_n hx hb d_Md_take_13 rfl (lv_at hl 2 rfl) ?_
    refine va_iast hx hb hK hP hD hS 2 1 rfl rfl (ht1 c_1) d_Md_take_14 (fun H locs hP hD hS => ?_)
    have hP : va_P D classes ([(h0, .inr (6, [.int u0, .ref a1, .int u2, .int u3, .ref a4, .ref a5, .ref a6, .ref a7, .ref a8, .ref a9, .ref a10, .ref a11, .int u12, .int u13, .ref a14, .ref a15, .ref a16, .int u17, .ref a18, .ref a19, .ref a20, .int u21, .ref a22, .ref a23, .int u24, .ref a25, .ref a26, .int u27, .int u28, .int u29, .int u30])), (a11, .inl (k11, 600, .inl c11)), (a18, .inl (k18, 20, .inl (upd c18 u17.toNatClampNeg p1))), (a19, .inl (k19, 21, .inl c19)), (a20, .inl (k20, 600, .inl c20))]) H := hP
    have hD : va_D A ([(h0, .inr (6, [.int u0, .ref a1, .int u2, .int u3, .ref a4, .ref a5, .ref a6, .ref a7, .ref a8, .ref a9, .ref a10, .ref a11, .int u12, .int u13, .ref a14, .ref a15, .ref a16, .int u17, .ref a18, .ref a19, .ref a20, .int u21, .ref a22, .ref a23, .int u24, .ref a25, .ref a26, .int u27, .int u28, .int u29, .int u30])), (a11, .inl (k11, 600, .inl c11)), (a18, .inl (k18, 20, .inl (upd c18 u17.toNatClampNeg p1))), (a19, .inl (k19, 21, .inl c19)), (a20, .inl (k20, 600, .inl c20))]) := hD
    refine lv_aload_n hx hb d_Md_take_15 rfl (lv_at hl 0 rfl) ?_
    refine va_get (D := D) (ci := 6) (v := .ref a19) (C := R_Md) (T := T_Md) (N := 31) hx hb hts in_Md hown hK hP 0 rfl rfl 19 (by decide) (hts _ cw_753) (fun _ h9 => h9) rfl d_Md_take_16 ?_
    refine lv_aload_n hx hb d_Md_take_19 rfl (lv_at hl 0 rfl) ?_
    refine va_get (D := D) (ci := 6) (v := .int u17) (C := R_Md) (T := T_Md) (N := 31) hx hb hts in_Md hown hK hP 0 rfl rfl 17 (by decide) (hts _ cw_751) (fun _ h9 => h9) rfl d_Md_take_20 ?_
    refine lv_aload_n hx hb d_Md_take_23 rfl (lv_at hl 0 rfl) ?_
    refine va_get (D := D) (ci := 6) (v := .int u21) (C := R_Md) (T := T_Md) (N := 31) hx hb hts in_Md hown hK hP 0 rfl rfl 21 (by decide) (hts _ cw_755) (fun _ h9 => h9) rfl d_Md_take_24 ?_
    refine va_iast hx hb hK hP hD hS 3 2 rfl rfl (ix_mono (by decide) (ht1 c_1)) d_Md_take_27 (fun H locs hP hD hS => ?_)
    have hP : va_P D classes ([(h0, .inr (6, [.int u0, .ref a1, .int u2, .int u3, .ref a4, .ref a5, .ref a6, .ref a7, .ref a8, .ref a9, .ref a10, .ref a11, .int u12, .int u13, .ref a14, .ref a15, .ref a16, .int u17, .ref a18, .ref a19, .ref a20, .int u21, .ref a22, .ref a23, .int u24, .ref a25, .ref a26, .int u27, .int u28, .int u29, .int u30])), (a11, .inl (k11, 600, .inl c11)), (a18, .inl (k18, 20, .inl (upd c18 u17.toNatClampNeg p1))), (a19, .inl (k19, 21, .inl (upd c19 u17.toNatClampNeg u21))), (a20, .inl (k20, 600, .inl c20))]) H := hP
    have hD : va_D A ([(h0, .inr (6, [.int u0, .ref a1, .int u2, .int u3, .ref a4, .ref a5, .ref a6, .ref a7, .ref a8, .ref a9, .ref a10, .ref a11, .int u12, .int u13, .ref a14, .ref a15, .ref a16, .int u17, .ref a18, .ref a19, .ref a20, .int u21, .ref a22, .ref a23, .int u24, .ref a25, .ref a26, .int u27, .int u28, .int u29, .int u30])), (a11, .inl (k11, 600, .inl c11)), (a18, .inl (k18, 20, .inl (upd c18 u17.toNatClampNeg p1))), (a19, .inl (k19, 21, .inl (upd c19 u17.toNatClampNeg u21))), (a20, .inl (k20, 600, .inl c20))]) := hD
    refine lv_aload_n hx hb d_Md_take_28 rfl (lv_at hl 0 rfl) ?_
    refine lv_dup hx hb d_Md_take_29 rfl ?_
    refine va_get (D := D) (ci := 6) (v := .int u17) (C := R_Md) (T := T_Md) (N := 31) hx hb hts in_Md hown hK hP 0 rfl rfl 17 (by decide) (hts _ cw_751) (fun _ h9 => h9) rfl d_Md_take_30 ?_
    refine lv_iconst (v := 1) hx hb d_Md_take_33 (by decide) ?_
    refine lv_iadd hx hb d_Md_take_34 ?_
    refine va_put (D := D) (ci := 6) (v := .int (u17 + 1)) (ty := .int) (C := R_Md) (T := T_Md) (N := 31) hx hb hts in_Md ty_Md tyok_Md nm_Md hown hK hP hD hS 0 rfl rfl 17 (by decide) (hts _ cw_751) (fun _ h9 => h9) rfl (by decide +kernel) rfl rfl (Nat.le_of_ble_eq_true rfl) d_Md_take_35 (fun H locs hP hD hS => ?_)
    have hP : va_P D classes ([(h0, .inr (6, [.int u0, .ref a1, .int u2, .int u3, .ref a4, .ref a5, .ref a6, .ref a7, .ref a8, .ref a9, .ref a10, .ref a11, .int u12, .int u13, .ref a14, .ref a15, .ref a16, .int (u17 + 1), .ref a18, .ref a19, .ref a20, .int u21, .ref a22, .ref a23, .int u24, .ref a25, .ref a26, .int u27, .int u28, .int u29, .int u30])), (a11, .inl (k11, 600, .inl c11)), (a18, .inl (k18, 20, .inl (upd c18 u17.toNatClampNeg p1))), (a19, .inl (k19, 21, .inl (upd c19 u17.toNatClampNeg u21))), (a20, .inl (k20, 600, .inl c20))]) H := hP
    have hD : va_D A ([(h0, .inr (6, [.int u0, .ref a1, .int u2, .int u3, .ref a4, .ref a5, .ref a6, .ref a7, .ref a8, .ref a9, .ref a10, .ref a11, .int u12, .int u13, .ref a14, .ref a15, .ref a16, .int (u17 + 1), .ref a18, .ref a19, .ref a20, .int u21, .ref a22, .ref a23, .int u24, .ref a25, .ref a26, .int u27, .int u28, .int u29, .int u30])), (a11, .inl (k11, 600, .inl c11)), (a18, .inl (k18, 20, .inl (upd c18 u17.toNatClampNeg p1))), (a19, .inl (k19, 21, .inl (upd c19 u17.toNatClampNeg u21))), (a20, .inl (k20, 600, .inl c20))]) := hD
    refine lv_iconst (v := 2) hx hb d_Md_take_38 (by decide) ?_
    have hm : m_take c11 c18 c19 c20 u17 u21 u27 u28 p0 p1 = (2, u17 + 1, u21, upd c18 u17.toNatClampNeg p1, upd c19 u17.toNatClampNeg u21, c20) := by simp [m_take, eq_true c_1]
    rw [hm]
    have hP9 := hP.sub (ws' := [(h0, .inr (6, [.int u0, .ref a1, .int u2, .int u3, .ref a4, .ref a5, .ref a6, .ref a7, .ref a8, .ref a9, .ref a10, .ref a11, .int u12, .int u13, .ref a14, .ref a15, .ref a16, .int (u17 + 1), .ref a18, .ref a19, .ref a20, .int u21, .ref a22, .ref a23, .int u24, .ref a25, .ref a26, .int u27, .int u28, .int u29, .int u30])), (a11, .inl (k11, 600, .inl c11)), (a18, .inl (k18, 20, .inl (upd c18 u17.toNatClampNeg p1))), (a19, .inl (k19, 21, .inl (upd c19 u17.toNatClampNeg u21))), (a20, .inl (k20, 600, .inl c20))]) [0, 1, 2, 3, 4] rfl
    have hD9 := hD.sub (ws' := [(h0, .inr (6, [.int u0, .ref a1, .int u2, .int u3, .ref a4, .ref a5, .ref a6, .ref a7, .ref a8, .ref a9, .ref a10, .ref a11, .int u12, .int u13, .ref a14, .ref a15, .ref a16, .int (u17 + 1), .ref a18, .ref a19, .ref a20, .int u21, .ref a22, .ref a23, .int u24, .ref a25, .ref a26, .int u27, .int u28, .int u29, .int u30])), (a11, .inl (k11, 600, .inl c11)), (a18, .inl (k18, 20, .inl (upd c18 u17.toNatClampNeg p1))), (a19, .inl (k19, 21, .inl (upd c19 u17.toNatClampNeg u21))), (a20, .inl (k20, 600, .inl c20))]) [0, 1, 2, 3, 4] (by decide) rfl
    have hK9 := hK.sub (tys' := [(k11, .int), (k18, .int), (k19, .int), (k20, .int)]) [0, 1, 2, 3] rfl
    exact W.iret (v := 2) hx hb hr (fun t ht hW => ⟨⟨_, (), rfl, rfl, by rw [ht]; exact hP9, va_K.moved hW.alike hK9, hD9⟩, hS.F ht⟩) hS.2.2 d_Md_take_39
