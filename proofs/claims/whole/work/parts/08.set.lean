-- RuleSet: its functions
theorem m_in_nar (v lo hi : Int64) : narrow .boolean (.int (m_in v lo hi)) = .int (m_in v lo hi) := by
  unfold m_in; split
  · rfl
  · split <;> rfl
theorem cx_ixl {x : Int32} {n : Nat} (hn : n < 2 ^ 31) (h0 : ¬ x < 0) (h1 : x < nI n) : vp_in x n := by
  rcases pk_ix x hn with h | h | ⟨j, hj, e⟩
  · exact absurd h h0
  · exact absurd h1 (Int32.not_lt.mpr h)
  · rw [e]; exact vp_in_nI hj hn
theorem ix_pred2 {x : Int32} {n : Nat} (hn : n < 2 ^ 31 - 1) (h0 : ¬ x < 1) (h1 : ¬ nI n < x) : vp_in (x - 1) n := by
  rcases pk_ix x (n := n + 1) (by omega) with h | h | ⟨j, hj, e⟩
  · exact absurd (Int32.lt_trans h (by decide)) h0
  · refine absurd ?_ h1
    rw [Int32.lt_iff_toInt_lt, nI_toInt (by omega)]
    rw [Int32.le_iff_toInt_le, nI_toInt (by omega)] at h
    omega
  · cases j with
    | zero => exact absurd (by rw [e]; decide) h0
    | succ j => rw [e, nI_pred]; exact vp_in_nI (by omega) (by omega)
theorem ne_of_nle {x : Int32} (h : ¬ x ≤ 0) : ¬ x = 0 := fun q => h (by rw [q]; exact Int32.le_refl 0)
theorem ix_up {x p : Int32} {n : Nat} (hn : (p.toInt - x.toInt).toNat < n + 1) (h : ¬ p ≤ x) : (p.toInt - (x + 1).toInt).toNat < n := by
  have h1 : x.toInt < p.toInt := by rw [Int32.le_iff_toInt_le] at h; omega
  have h2 := Int32.toInt_lt p
  have h3 := Int32.le_toInt x
  have e : (x + 1).toInt = x.toInt + 1 := by
    rw [Int32.toInt_add, show (1 : Int32).toInt = 1 from rfl]
    apply Int.bmod_eq_of_le <;> omega
  rw [e]; omega
def m_isFull (sn : Int32) : Int32 := if sn < 20 then 0 else 1
def m_addSent (g0 g1 : Nat → Int32) (sn cl p0 : Int32) : Int32 × (Nat → Int32) × (Nat → Int32) × Int32 :=
  if sn < 0 ∨ ¬ sn < 20 then (0, g0, g1, sn) else (1, upd g0 sn.toNatClampNeg p0, upd g1 sn.toNatClampNeg cl, sn + 1)
def m_addClause (g1 g2 g3 g4 : Nat → Int32) (sn cl p0 p1 p2 : Int32) : Int32 × (Nat → Int32) × (Nat → Int32) × (Nat → Int32) × (Nat → Int32) × Int32 :=
  if sn < 1 ∨ 20 < sn ∨ cl < 0 ∨ ¬ cl < 100 then (0, g1, g2, g3, g4, cl)
  else (1, upd g1 (sn - 1).toNatClampNeg (cl + 1), upd g2 cl.toNatClampNeg (vp_nar .char p0), upd g3 cl.toNatClampNeg p1, upd g4 cl.toNatClampNeg p2, cl + 1)
def m_holds (f2 : Int64) (f5 f6 f11 : Int32) (g2 g3 g4 : Nat → Int32) (i : Int32) : Int32 :=
  if i < 0 ∨ ¬ i < 100 then 0
  else if g2 i.toNatClampNeg = 113 then m_in (m_floorDiv f2 3600) (g3 i.toNatClampNeg).toInt64 (g4 i.toNatClampNeg).toInt64
  else if g2 i.toNatClampNeg = 118 then m_in f11.toInt64 (g3 i.toNatClampNeg).toInt64 (g4 i.toNatClampNeg).toInt64
  else if f6 ≤ 0 then 0 else if m_in (f5 / f6).toInt64 (g3 i.toNatClampNeg).toInt64 (g4 i.toNatClampNeg).toInt64 = 0 then 0 else 1
def m_allHold (f2 : Int64) (f5 f6 f11 : Int32) (g2 g3 g4 : Nat → Int32) (to : Int32) : Nat → Int32 → Int32
  | 0, _ => 1
  | n + 1, x => if to ≤ x then 1 else if m_holds f2 f5 f6 f11 g2 g3 g4 x = 0 then 0 else m_allHold f2 f5 f6 f11 g2 g3 g4 to n (x + 1)
def m_first (f2 : Int64) (f5 f6 f11 : Int32) (g0 g1 g2 g3 g4 : Nat → Int32) (sn : Int32) : Nat → Nat → Int32 → Int32
  | 0, _, _ => 99
  | n + 1, i, frm => if sn ≤ nI i ∨ 20 ≤ nI i then 99 else
      if m_allHold f2 f5 f6 f11 g2 g3 g4 (g1 (nI i).toNatClampNeg) (((g1 (nI i).toNatClampNeg).toInt - frm.toInt).toNat + 1) frm = 0 then m_first f2 f5 f6 f11 g0 g1 g2 g3 g4 sn n (i + 1) (g1 (nI i).toNatClampNeg)
      else g0 (nI i).toNatClampNeg
set_option maxHeartbeats 4000000 in
set_option maxRecDepth 100000 in
/-- RuleSet.clear -/
theorem c_Set_clear (l : Launch) (D : va_G)  (h0 : Nat) (a0 : Nat) (a1 : Nat) (a2 : Nat) (a3 : Nat) (a4 : Nat) (k0 : ClassId) (k1 : ClassId) (k2 : ClassId) (k3 : ClassId) (k4 : ClassId) (g0 : Nat → Int32) (g1 : Nat → Int32) (g2 : Nat → Int32) (g3 : Nat → Int32) (g4 : Nat → Int32) (sn : Int32) (cl : Int32) (sz : Nat)  : Met l y_Set_clear ws_Set_clear ({ frames := 0, cells := 0, slots := 0, locals := 0 }) (va_Pc [.ref h0] (cx_pre D [(k0, .int), (k1, .int), (k2, .char), (k3, .int), (k4, .int)] ([(h0, .inr (3, [.ref a0, .ref a1, .int sn, .ref a2, .ref a3, .ref a4, .int cl])), (a0, .inl (k0, 20, .inl g0)), (a1, .inl (k1, 20, .inl g1)), (a2, .inl (k2, 100, .inl g2)), (a3, .inl (k3, 100, .inl g3)), (a4, .inl (k4, 100, .inl g4))]) sz)) (va_Qv (fun _ => True) (fun (_ : Unit) t => cx_end D [(k0, .int), (k1, .int), (k2, .char), (k3, .int), (k4, .int)] (va_A ([(h0, .inr (3, [.ref a0, .ref a1, .int sn, .ref a2, .ref a3, .ref a4, .int cl])), (a0, .inl (k0, 20, .inl g0)), (a1, .inl (k1, 20, .inl g1)), (a2, .inl (k2, 100, .inl g2)), (a3, .inl (k3, 100, .inl g3)), (a4, .inl (k4, 100, .inl g4))]) sz) ([(h0, .inr (3, [.ref a0, .ref a1, .int 0, .ref a2, .ref a3, .ref a4, .int 0])), (a0, .inl (k0, 20, .inl g0)), (a1, .inl (k1, 20, .inl g1)), (a2, .inl (k2, 100, .inl g2)), (a3, .inl (k3, 100, .inl g3)), (a4, .inl (k4, 100, .inl g4))]) t) (va_A ([(h0, .inr (3, [.ref a0, .ref a1, .int sn, .ref a2, .ref a3, .ref a4, .int cl])), (a0, .inl (k0, 20, .inl g0)), (a1, .inl (k1, 20, .inl g1)), (a2, .inl (k2, 100, .inl g2)), (a3, .inl (k3, 100, .inl g3)), (a4, .inl (k4, 100, .inl g4))]) sz)) 0 0 (va_A ([(h0, .inr (3, [.ref a0, .ref a1, .int sn, .ref a2, .ref a3, .ref a4, .int cl])), (a0, .inl (k0, 20, .inl g0)), (a1, .inl (k1, 20, .inl g1)), (a2, .inl (k2, 100, .inl g2)), (a3, .inl (k3, 100, .inl g3)), (a4, .inl (k4, 100, .inl g4))]) sz) := by
  refine Met.ofW (cc := b_Set_clear) (maxL := 1) (ret := none) (by decide) rfl ?_
  intro p e s m args below meth c s₁ B hml hv
  obtain ⟨rfl, hsz, hP, hK, hD0, hN, hO⟩ := hv
  have hx := B.exec
  have hb := B.bytes
  have hr := B.returns
  have hts := fun (w : Cond) (h : w ∈ cx_tbl) => atoms_spec (ws := ws_Set_clear) B.pre w (List.mem_cons_of_mem _ h)
  have hown : s.vm.findClass R_Set = some m.cls := findClass_of_methodNamed B.named
  have hlocks := B.notSynchronized
  subst hsz
  have hD := hD0.self (sz := s.heap.size)
  generalize hAe : va_A ([(h0, .inr (3, [.ref a0, .ref a1, .int sn, .ref a2, .ref a3, .ref a4, .int cl])), (a0, .inl (k0, 20, .inl g0)), (a1, .inl (k1, 20, .inl g1)), (a2, .inl (k2, 100, .inl g2)), (a3, .inl (k3, 100, .inl g3)), (a4, .inl (k4, 100, .inl g4))]) s.heap.size = A at hD hO ⊢
  have hA : ∀ q : Nat, s.heap.size ≤ q → A q := fun q h => by rw [← hAe]; exact Or.inr h
  have hS : va_S A s.heap s.heap [] := va_S.rf
  have hl := lv_entry ([.ref h0]) (n := 1) (Nat.le_of_ble_eq_true rfl)
  rw [lg_entry_eq]
  generalize (lg_sl ([.ref h0]) ++ List.replicate (1 - (lg_sl ([.ref h0])).length) Slot.unset).toArray = ls at hl ⊢
  have hl : lv_has ls 1 [(0, .ref h0)] := hl
  refine lv_aload_n hx hb d_Set_clear_0 rfl (lv_at hl 0 rfl) ?_
  refine lv_iconst (v := 0) hx hb d_Set_clear_1 (by decide) ?_
  refine va_put (D := D) (ci := 3) (v := .int 0) (ty := .int) (C := R_Set) (T := T_Set) (N := 7) hx hb hts in_Set ty_Set tyok_Set nm_Set hown hK hP hD hS 0 rfl rfl 2 (by decide) (hts _ cw_61) (fun _ h9 => h9) rfl (by decide +kernel) rfl rfl (Nat.le_of_ble_eq_true rfl) d_Set_clear_2 (fun H locs hP hD hS => ?_)
  have hP : va_P D classes ([(h0, .inr (3, [.ref a0, .ref a1, .int 0, .ref a2, .ref a3, .ref a4, .int cl])), (a0, .inl (k0, 20, .inl g0)), (a1, .inl (k1, 20, .inl g1)), (a2, .inl (k2, 100, .inl g2)), (a3, .inl (k3, 100, .inl g3)), (a4, .inl (k4, 100, .inl g4))]) H := hP
  have hD : va_D A ([(h0, .inr (3, [.ref a0, .ref a1, .int 0, .ref a2, .ref a3, .ref a4, .int cl])), (a0, .inl (k0, 20, .inl g0)), (a1, .inl (k1, 20, .inl g1)), (a2, .inl (k2, 100, .inl g2)), (a3, .inl (k3, 100, .inl g3)), (a4, .inl (k4, 100, .inl g4))]) := hD
  refine lv_aload_n hx hb d_Set_clear_5 rfl (lv_at hl 0 rfl) ?_
  refine lv_iconst (v := 0) hx hb d_Set_clear_6 (by decide) ?_
  refine va_put (D := D) (ci := 3) (v := .int 0) (ty := .int) (C := R_Set) (T := T_Set) (N := 7) hx hb hts in_Set ty_Set tyok_Set nm_Set hown hK hP hD hS 0 rfl rfl 6 (by decide) (hts _ cw_66) (fun _ h9 => h9) rfl (by decide +kernel) rfl rfl (Nat.le_of_ble_eq_true rfl) d_Set_clear_7 (fun H locs hP hD hS => ?_)
  have hP : va_P D classes ([(h0, .inr (3, [.ref a0, .ref a1, .int 0, .ref a2, .ref a3, .ref a4, .int 0])), (a0, .inl (k0, 20, .inl g0)), (a1, .inl (k1, 20, .inl g1)), (a2, .inl (k2, 100, .inl g2)), (a3, .inl (k3, 100, .inl g3)), (a4, .inl (k4, 100, .inl g4))]) H := hP
  have hD : va_D A ([(h0, .inr (3, [.ref a0, .ref a1, .int 0, .ref a2, .ref a3, .ref a4, .int 0])), (a0, .inl (k0, 20, .inl g0)), (a1, .inl (k1, 20, .inl g1)), (a2, .inl (k2, 100, .inl g2)), (a3, .inl (k3, 100, .inl g3)), (a4, .inl (k4, 100, .inl g4))]) := hD
  have hP9 := hP.sub (ws' := [(h0, .inr (3, [.ref a0, .ref a1, .int 0, .ref a2, .ref a3, .ref a4, .int 0])), (a0, .inl (k0, 20, .inl g0)), (a1, .inl (k1, 20, .inl g1)), (a2, .inl (k2, 100, .inl g2)), (a3, .inl (k3, 100, .inl g3)), (a4, .inl (k4, 100, .inl g4))]) [0, 1, 2, 3, 4, 5] rfl
  have hD9 := hD.sub (ws' := [(h0, .inr (3, [.ref a0, .ref a1, .int 0, .ref a2, .ref a3, .ref a4, .int 0])), (a0, .inl (k0, 20, .inl g0)), (a1, .inl (k1, 20, .inl g1)), (a2, .inl (k2, 100, .inl g2)), (a3, .inl (k3, 100, .inl g3)), (a4, .inl (k4, 100, .inl g4))]) [0, 1, 2, 3, 4, 5] (by decide) rfl
  have hK9 := hK.sub (tys' := [(k0, .int), (k1, .int), (k2, .char), (k3, .int), (k4, .int)]) [0, 1, 2, 3, 4] rfl
  exact W.vret hx hb hr (fun t ht hW => ⟨⟨(), rfl, trivial, by rw [ht]; exact hP9, va_K.moved hW.alike hK9, hD9⟩, hS.F ht⟩) hS.2.2 d_Set_clear_10

set_option maxHeartbeats 4000000 in
set_option maxRecDepth 100000 in
/-- RuleSet.isFull -/
theorem c_Set_isFull (l : Launch) (D : va_G)  (h0 : Nat) (a0 : Nat) (a1 : Nat) (a2 : Nat) (a3 : Nat) (a4 : Nat) (k0 : ClassId) (k1 : ClassId) (k2 : ClassId) (k3 : ClassId) (k4 : ClassId) (g0 : Nat → Int32) (g1 : Nat → Int32) (g2 : Nat → Int32) (g3 : Nat → Int32) (g4 : Nat → Int32) (sn : Int32) (cl : Int32) (sz : Nat)  : Met l y_Set_isFull ws_Set_isFull ({ frames := 0, cells := 0, slots := 0, locals := 0 }) (va_Pc [.ref h0] (cx_pre D [(k0, .int), (k1, .int), (k2, .char), (k3, .int), (k4, .int)] ([(h0, .inr (3, [.ref a0, .ref a1, .int sn, .ref a2, .ref a3, .ref a4, .int cl])), (a0, .inl (k0, 20, .inl g0)), (a1, .inl (k1, 20, .inl g1)), (a2, .inl (k2, 100, .inl g2)), (a3, .inl (k3, 100, .inl g3)), (a4, .inl (k4, 100, .inl g4))]) sz)) (vp_Si (fun r9 => r9 = m_isFull sn)) 0 0 (fun _ => False) := by
  refine Met.ofW (cc := b_Set_isFull) (maxL := 1) (ret := (some .boolean)) (by decide) rfl ?_
  intro p e s m args below meth c s₁ B hml hv
  obtain ⟨rfl, hsz, hP, hK, hD0, hN, hO⟩ := hv
  have hx := B.exec
  have hb := B.bytes
  have hr := B.returns
  have hts := fun (w : Cond) (h : w ∈ cx_tbl) => atoms_spec (ws := ws_Set_isFull) B.pre w (List.mem_cons_of_mem _ h)
  have hown : s.vm.findClass R_Set = some m.cls := findClass_of_methodNamed B.named
  have hlocks := B.notSynchronized
  subst hsz
  have hD := hD0.self (sz := s.heap.size)
  generalize hAe : va_A ([(h0, .inr (3, [.ref a0, .ref a1, .int sn, .ref a2, .ref a3, .ref a4, .int cl])), (a0, .inl (k0, 20, .inl g0)), (a1, .inl (k1, 20, .inl g1)), (a2, .inl (k2, 100, .inl g2)), (a3, .inl (k3, 100, .inl g3)), (a4, .inl (k4, 100, .inl g4))]) s.heap.size = A at hD hO
  have hA : ∀ q : Nat, s.heap.size ≤ q → A q := fun q h => by rw [← hAe]; exact Or.inr h
  have hS : va_S A s.heap s.heap [] := va_S.rf
  have hl := lv_entry ([.ref h0]) (n := 1) (Nat.le_of_ble_eq_true rfl)
  rw [lg_entry_eq]
  generalize (lg_sl ([.ref h0]) ++ List.replicate (1 - (lg_sl ([.ref h0])).length) Slot.unset).toArray = ls at hl ⊢
  have hl : lv_has ls 1 [(0, .ref h0)] := hl
  refine lv_aload_n hx hb d_Set_isFull_0 rfl (lv_at hl 0 rfl) ?_
  refine va_get (D := D) (ci := 3) (v := .int sn) (C := R_Set) (T := T_Set) (N := 7) hx hb hts in_Set hown hK hP 0 rfl rfl 2 (by decide) (hts _ cw_61) (fun _ h9 => h9) rfl d_Set_isFull_1 ?_
  refine lv_bipush (v := 20) hx hb d_Set_isFull_4 (by decide) ?_
  refine lv_icmp_lt (tgt := 13) hx hb d_Set_isFull_6 (by decide) (fun c_1 => ?_) (fun c_1 => ?_)
  · refine lv_iconst (v := 0) hx hb d_Set_isFull_13 (by decide) ?_
    exact W.zret (v := 0) hx hb hr (rfl) (fun t ht hW => ⟨_, rfl, by simp [m_isFull, eq_true c_1], ht⟩) (fun q h => by cases h) d_Set_isFull_14
  · refine lv_iconst (v := 1) hx hb d_Set_isFull_9 (by decide) ?_
    refine lv_goto (tgt := 14) hx hb d_Set_isFull_10 (by decide) ?_
    exact W.zret (v := 1) hx hb hr (rfl) (fun t ht hW => ⟨_, rfl, by simp [m_isFull, eq_false c_1], ht⟩) (fun q h => by cases h) d_Set_isFull_14

set_option maxHeartbeats 4000000 in
set_option maxRecDepth 100000 in
/-- RuleSet.addSentence -/
theorem c_Set_addSentence (l : Launch) (D : va_G)  (h0 : Nat) (a0 : Nat) (a1 : Nat) (a2 : Nat) (a3 : Nat) (a4 : Nat) (k0 : ClassId) (k1 : ClassId) (k2 : ClassId) (k3 : ClassId) (k4 : ClassId) (g0 : Nat → Int32) (g1 : Nat → Int32) (g2 : Nat → Int32) (g3 : Nat → Int32) (g4 : Nat → Int32) (sn : Int32) (cl : Int32) (p0 : Int32) (sz : Nat)  : Met l y_Set_addSentence ws_Set_addSentence ({ frames := 0, cells := 0, slots := 0, locals := 0 }) (va_Pc [.ref h0, .int p0] (cx_pre D [(k0, .int), (k1, .int), (k2, .char), (k3, .int), (k4, .int)] ([(h0, .inr (3, [.ref a0, .ref a1, .int sn, .ref a2, .ref a3, .ref a4, .int cl])), (a0, .inl (k0, 20, .inl g0)), (a1, .inl (k1, 20, .inl g1)), (a2, .inl (k2, 100, .inl g2)), (a3, .inl (k3, 100, .inl g3)), (a4, .inl (k4, 100, .inl g4))]) sz)) (va_Qi (fun r9 _ => r9 = (m_addSent g0 g1 sn cl p0).1) (fun (_ : Unit) t => cx_end D [(k0, .int), (k1, .int), (k2, .char), (k3, .int), (k4, .int)] (va_A ([(h0, .inr (3, [.ref a0, .ref a1, .int sn, .ref a2, .ref a3, .ref a4, .int cl])), (a0, .inl (k0, 20, .inl g0)), (a1, .inl (k1, 20, .inl g1)), (a2, .inl (k2, 100, .inl g2)), (a3, .inl (k3, 100, .inl g3)), (a4, .inl (k4, 100, .inl g4))]) sz) ([(h0, .inr (3, [.ref a0, .ref a1, .int ((m_addSent g0 g1 sn cl p0).2.2.2), .ref a2, .ref a3, .ref a4, .int cl])), (a0, .inl (k0, 20, .inl ((m_addSent g0 g1 sn cl p0).2.1))), (a1, .inl (k1, 20, .inl ((m_addSent g0 g1 sn cl p0).2.2.1))), (a2, .inl (k2, 100, .inl g2)), (a3, .inl (k3, 100, .inl g3)), (a4, .inl (k4, 100, .inl g4))]) t) (va_A ([(h0, .inr (3, [.ref a0, .ref a1, .int sn, .ref a2, .ref a3, .ref a4, .int cl])), (a0, .inl (k0, 20, .inl g0)), (a1, .inl (k1, 20, .inl g1)), (a2, .inl (k2, 100, .inl g2)), (a3, .inl (k3, 100, .inl g3)), (a4, .inl (k4, 100, .inl g4))]) sz)) 0 0 (va_A ([(h0, .inr (3, [.ref a0, .ref a1, .int sn, .ref a2, .ref a3, .ref a4, .int cl])), (a0, .inl (k0, 20, .inl g0)), (a1, .inl (k1, 20, .inl g1)), (a2, .inl (k2, 100, .inl g2)), (a3, .inl (k3, 100, .inl g3)), (a4, .inl (k4, 100, .inl g4))]) sz) := by
  refine Met.ofW (cc := b_Set_addSentence) (maxL := 2) (ret := (some .boolean)) (by decide) rfl ?_
  intro p e s m args below meth c s₁ B hml hv
  obtain ⟨rfl, hsz, hP, hK, hD0, hN, hO⟩ := hv
  have hx := B.exec
  have hb := B.bytes
  have hr := B.returns
  have hts := fun (w : Cond) (h : w ∈ cx_tbl) => atoms_spec (ws := ws_Set_addSentence) B.pre w (List.mem_cons_of_mem _ h)
  have hown : s.vm.findClass R_Set = some m.cls := findClass_of_methodNamed B.named
  have hlocks := B.notSynchronized
  subst hsz
  have hD := hD0.self (sz := s.heap.size)
  generalize hAe : va_A ([(h0, .inr (3, [.ref a0, .ref a1, .int sn, .ref a2, .ref a3, .ref a4, .int cl])), (a0, .inl (k0, 20, .inl g0)), (a1, .inl (k1, 20, .inl g1)), (a2, .inl (k2, 100, .inl g2)), (a3, .inl (k3, 100, .inl g3)), (a4, .inl (k4, 100, .inl g4))]) s.heap.size = A at hD hO ⊢
  have hA : ∀ q : Nat, s.heap.size ≤ q → A q := fun q h => by rw [← hAe]; exact Or.inr h
  have hS : va_S A s.heap s.heap [] := va_S.rf
  have hl := lv_entry ([.ref h0, .int p0]) (n := 2) (Nat.le_of_ble_eq_true rfl)
  rw [lg_entry_eq]
  generalize (lg_sl ([.ref h0, .int p0]) ++ List.replicate (2 - (lg_sl ([.ref h0, .int p0])).length) Slot.unset).toArray = ls at hl ⊢
  have hl : lv_has ls 2 [(0, .ref h0), (1, .int p0)] := hl
  refine lv_aload_n hx hb d_Set_addSentence_0 rfl (lv_at hl 0 rfl) ?_
  refine va_get (D := D) (ci := 3) (v := .int sn) (C := R_Set) (T := T_Set) (N := 7) hx hb hts in_Set hown hK hP 0 rfl rfl 2 (by decide) (hts _ cw_61) (fun _ h9 => h9) rfl d_Set_addSentence_1 ?_
  refine lv_if_lt (tgt := 19) hx hb d_Set_addSentence_4 (by decide) (fun c_1 => ?_) (fun c_1 => ?_)
  · refine lv_iconst (v := 0) hx hb d_Set_addSentence_19 (by decide) ?_
    have hm : m_addSent g0 g1 sn cl p0 = (0, g0, g1, sn) := by simp [m_addSent, eq_true c_1]
    rw [hm]
    have hP9 := hP.sub (ws' := [(h0, .inr (3, [.ref a0, .ref a1, .int sn, .ref a2, .ref a3, .ref a4, .int cl])), (a0, .inl (k0, 20, .inl g0)), (a1, .inl (k1, 20, .inl g1)), (a2, .inl (k2, 100, .inl g2)), (a3, .inl (k3, 100, .inl g3)), (a4, .inl (k4, 100, .inl g4))]) [0, 1, 2, 3, 4, 5] rfl
    have hD9 := hD.sub (ws' := [(h0, .inr (3, [.ref a0, .ref a1, .int sn, .ref a2, .ref a3, .ref a4, .int cl])), (a0, .inl (k0, 20, .inl g0)), (a1, .inl (k1, 20, .inl g1)), (a2, .inl (k2, 100, .inl g2)), (a3, .inl (k3, 100, .inl g3)), (a4, .inl (k4, 100, .inl g4))]) [0, 1, 2, 3, 4, 5] (by decide) rfl
    have hK9 := hK.sub (tys' := [(k0, .int), (k1, .int), (k2, .char), (k3, .int), (k4, .int)]) [0, 1, 2, 3, 4] rfl
    exact W.zret (v := 0) hx hb hr (rfl) (fun t ht hW => ⟨⟨_, (), rfl, rfl, by rw [ht]; exact hP9, va_K.moved hW.alike hK9, hD9⟩, hS.F ht⟩) hS.2.2 d_Set_addSentence_20
  · refine lv_aload_n hx hb d_Set_addSentence_7 rfl (lv_at hl 0 rfl) ?_
    refine va_get (D := D) (ci := 3) (v := .int sn) (C := R_Set) (T := T_Set) (N := 7) hx hb hts in_Set hown hK hP 0 rfl rfl 2 (by decide) (hts _ cw_61) (fun _ h9 => h9) rfl d_Set_addSentence_8 ?_
    refine lv_aload_n hx hb d_Set_addSentence_11 rfl (lv_at hl 0 rfl) ?_
    refine va_get (D := D) (ci := 3) (v := .ref a0) (C := R_Set) (T := T_Set) (N := 7) hx hb hts in_Set hown hK hP 0 rfl rfl 0 (by decide) (hts _ cw_59) (fun _ h9 => h9) rfl d_Set_addSentence_12 ?_
    refine va_alen (v := 20) hx hb hK hP 1 0 rfl rfl rfl d_Set_addSentence_15 ?_
    refine lv_icmp_lt (tgt := 21) hx hb d_Set_addSentence_16 (by decide) (fun c_2 => ?_) (fun c_2 => ?_)
    · refine lv_aload_n hx hb d_Set_addSentence_21 rfl (lv_at hl 0 rfl) ?_
      refine va_get (D := D) (ci := 3) (v := .ref a0) (C := R_Set) (T := T_Set) (N := 7) hx hb hts in_Set hown hK hP 0 rfl rfl 0 (by decide) (hts _ cw_59) (fun _ h9 => h9) rfl d_Set_addSentence_22 ?_
      refine lv_aload_n hx hb d_Set_addSentence_25 rfl (lv_at hl 0 rfl) ?_
      refine va_get (D := D) (ci := 3) (v := .int sn) (C := R_Set) (T := T_Set) (N := 7) hx hb hts in_Set hown hK hP 0 rfl rfl 2 (by decide) (hts _ cw_61) (fun _ h9 => h9) rfl d_Set_addSentence_26 ?_
      refine lv_iload_n hx hb d_Set_addSentence_29 rfl (lv_at hl 1 rfl) ?_
      refine va_iast hx hb hK hP hD hS 1 0 rfl rfl (cx_ixl (n := 20) (by decide) c_1 c_2) d_Set_addSentence_30 (fun H locs hP hD hS => ?_)
      have hP : va_P D classes ([(h0, .inr (3, [.ref a0, .ref a1, .int sn, .ref a2, .ref a3, .ref a4, .int cl])), (a0, .inl (k0, 20, .inl (upd g0 sn.toNatClampNeg p0))), (a1, .inl (k1, 20, .inl g1)), (a2, .inl (k2, 100, .inl g2)), (a3, .inl (k3, 100, .inl g3)), (a4, .inl (k4, 100, .inl g4))]) H := hP
      have hD : va_D A ([(h0, .inr (3, [.ref a0, .ref a1, .int sn, .ref a2, .ref a3, .ref a4, .int cl])), (a0, .inl (k0, 20, .inl (upd g0 sn.toNatClampNeg p0))), (a1, .inl (k1, 20, .inl g1)), (a2, .inl (k2, 100, .inl g2)), (a3, .inl (k3, 100, .inl g3)), (a4, .inl (k4, 100, .inl g4))]) := hD
      refine lv_aload_n hx hb d_Set_addSentence_31 rfl (lv_at hl 0 rfl) ?_
      refine va_get (D := D) (ci := 3) (v := .ref a1) (C := R_Set) (T := T_Set) (N := 7) hx hb hts in_Set hown hK hP 0 rfl rfl 1 (by decide) (hts _ cw_60) (fun _ h9 => h9) rfl d_Set_addSentence_32 ?_
      refine lv_aload_n hx hb d_Set_addSentence_35 rfl (lv_at hl 0 rfl) ?_
      refine va_get (D := D) (ci := 3) (v := .int sn) (C := R_Set) (T := T_Set) (N := 7) hx hb hts in_Set hown hK hP 0 rfl rfl 2 (by decide) (hts _ cw_61) (fun _ h9 => h9) rfl d_Set_addSentence_36 ?_
      refine lv_aload_n hx hb d_Set_addSentence_39 rfl (lv_at hl 0 rfl) ?_
      refine va_get (D := D) (ci := 3) (v := .int cl) (C := R_Set) (T := T_Set) (N := 7) hx hb hts in_Set hown hK hP 0 rfl rfl 6 (by decide) (hts _ cw_66) (fun _ h9 => h9) rfl d_Set_addSentence_40 ?_
      refine va_iast hx hb hK hP hD hS 2 1 rfl rfl (cx_ixl (n := 20) (by decide) c_1 c_2) d_Set_addSentence_43 (fun H locs hP hD hS => ?_)
      have hP : va_P D classes ([(h0, .inr (3, [.ref a0, .ref a1, .int sn, .ref a2, .ref a3, .ref a4, .int cl])), (a0, .inl (k0, 20, .inl (upd g0 sn.toNatClampNeg p0))), (a1, .inl (k1, 20, .inl (upd g1 sn.toNatClampNeg cl))), (a2, .inl (k2, 100, .inl g2)), (a3, .inl (k3, 100, .inl g3)), (a4, .inl (k4, 100, .inl g4))]) H := hP
      have hD : va_D A ([(h0, .inr (3, [.ref a0, .ref a1, .int sn, .ref a2, .ref a3, .ref a4, .int cl])), (a0, .inl (k0, 20, .inl (upd g0 sn.toNatClampNeg p0))), (a1, .inl (k1, 20, .inl (upd g1 sn.toNatClampNeg cl))), (a2, .inl (k2, 100, .inl g2)), (a3, .inl (k3, 100, .inl g3)), (a4, .inl (k4, 100, .inl g4))]) := hD
      refine lv_aload_n hx hb d_Set_addSentence_44 rfl (lv_at hl 0 rfl) ?_
      refine lv_dup hx hb d_Set_addSentence_45 rfl ?_
      refine va_get (D := D) (ci := 3) (v := .int sn) (C := R_Set) (T := T_Set) (N := 7) hx hb hts in_Set hown hK hP 0 rfl rfl 2 (by decide) (hts _ cw_61) (fun _ h9 => h9) rfl d_Set_addSentence_46 ?_
      refine lv_iconst (v := 1) hx hb d_Set_addSentence_49 (by decide) ?_
      refine lv_iadd hx hb d_Set_addSentence_50 ?_
      refine va_put (D := D) (ci := 3) (v := .int (sn + 1)) (ty := .int) (C := R_Set) (T := T_Set) (N := 7) hx hb hts in_Set ty_Set tyok_Set nm_Set hown hK hP hD hS 0 rfl rfl 2 (by decide) (hts _ cw_61) (fun _ h9 => h9) rfl (by decide +kernel) rfl rfl (Nat.le_of_ble_eq_true rfl) d_Set_addSentence_51 (fun H locs hP hD hS => ?_)
      have hP : va_P D classes ([(h0, .inr (3, [.ref a0, .ref a1, .int (sn + 1), .ref a2, .ref a3, .ref a4, .int cl])), (a0, .inl (k0, 20, .inl (upd g0 sn.toNatClampNeg p0))), (a1, .inl (k1, 20, .inl (upd g1 sn.toNatClampNeg cl))), (a2, .inl (k2, 100, .inl g2)), (a3, .inl (k3, 100, .inl g3)), (a4, .inl (k4, 100, .inl g4))]) H := hP
      have hD : va_D A ([(h0, .inr (3, [.ref a0, .ref a1, .int (sn + 1), .ref a2, .ref a3, .ref a4, .int cl])), (a0, .inl (k0, 20, .inl (upd g0 sn.toNatClampNeg p0))), (a1, .inl (k1, 20, .inl (upd g1 sn.toNatClampNeg cl))), (a2, .inl (k2, 100, .inl g2)), (a3, .inl (k3, 100, .inl g3)), (a4, .inl (k4, 100, .inl g4))]) := hD
      refine lv_iconst (v := 1) hx hb d_Set_addSentence_54 (by decide) ?_
      have hm : m_addSent g0 g1 sn cl p0 = (1, upd g0 sn.toNatClampNeg p0, upd g1 sn.toNatClampNeg cl, sn + 1) := by simp [m_addSent, eq_false c_1, eq_true c_2]
      rw [hm]
      have hP9 := hP.sub (ws' := [(h0, .inr (3, [.ref a0, .ref a1, .int (sn + 1), .ref a2, .ref a3, .ref a4, .int cl])), (a0, .inl (k0, 20, .inl (upd g0 sn.toNatClampNeg p0))), (a1, .inl (k1, 20, .inl (upd g1 sn.toNatClampNeg cl))), (a2, .inl (k2, 100, .inl g2)), (a3, .inl (k3, 100, .inl g3)), (a4, .inl (k4, 100, .inl g4))]) [0, 1, 2, 3, 4, 5] rfl
      have hD9 := hD.sub (ws' := [(h0, .inr (3, [.ref a0, .ref a1, .int (sn + 1), .ref a2, .ref a3, .ref a4, .int cl])), (a0, .inl (k0, 20, .inl (upd g0 sn.toNatClampNeg p0))), (a1, .inl (k1, 20, .inl (upd g1 sn.toNatClampNeg cl))), (a2, .inl (k2, 100, .inl g2)), (a3, .inl (k3, 100, .inl g3)), (a4, .inl (k4, 100, .inl g4))]) [0, 1, 2, 3, 4, 5] (by decide) rfl
      have hK9 := hK.sub (tys' := [(k0, .int), (k1, .int), (k2, .char), (k3, .int), (k4, .int)]) [0, 1, 2, 3, 4] rfl
      exact W.zret (v := 1) hx hb hr (rfl) (fun t ht hW => ⟨⟨_, (), rfl, rfl, by rw [ht]; exact hP9, va_K.moved hW.alike hK9, hD9⟩, hS.F ht⟩) hS.2.2 d_Set_addSentence_55
    · refine lv_iconst (v := 0) hx hb d_Set_addSentence_19 (by decide) ?_
      have hm : m_addSent g0 g1 sn cl p0 = (0, g0, g1, sn) := by simp [m_addSent, eq_false c_1, eq_false c_2]
      rw [hm]
      have hP9 := hP.sub (ws' := [(h0, .inr (3, [.ref a0, .ref a1, .int sn, .ref a2, .ref a3, .ref a4, .int cl])), (a0, .inl (k0, 20, .inl g0)), (a1, .inl (k1, 20, .inl g1)), (a2, .inl (k2, 100, .inl g2)), (a3, .inl (k3, 100, .inl g3)), (a4, .inl (k4, 100, .inl g4))]) [0, 1, 2, 3, 4, 5] rfl
      have hD9 := hD.sub (ws' := [(h0, .inr (3, [.ref a0, .ref a1, .int sn, .ref a2, .ref a3, .ref a4, .int cl])), (a0, .inl (k0, 20, .inl g0)), (a1, .inl (k1, 20, .inl g1)), (a2, .inl (k2, 100, .inl g2)), (a3, .inl (k3, 100, .inl g3)), (a4, .inl (k4, 100, .inl g4))]) [0, 1, 2, 3, 4, 5] (by decide) rfl
      have hK9 := hK.sub (tys' := [(k0, .int), (k1, .int), (k2, .char), (k3, .int), (k4, .int)]) [0, 1, 2, 3, 4] rfl
      exact W.zret (v := 0) hx hb hr (rfl) (fun t ht hW => ⟨⟨_, (), rfl, rfl, by rw [ht]; exact hP9, va_K.moved hW.alike hK9, hD9⟩, hS.F ht⟩) hS.2.2 d_Set_addSentence_20

set_option maxHeartbeats 4000000 in
set_option maxRecDepth 100000 in
/-- RuleSet.addClause -/
theorem c_Set_addClause (l : Launch) (D : va_G)  (h0 : Nat) (a0 : Nat) (a1 : Nat) (a2 : Nat) (a3 : Nat) (a4 : Nat) (k0 : ClassId) (k1 : ClassId) (k2 : ClassId) (k3 : ClassId) (k4 : ClassId) (g0 : Nat → Int32) (g1 : Nat → Int32) (g2 : Nat → Int32) (g3 : Nat → Int32) (g4 : Nat → Int32) (sn : Int32) (cl : Int32) (p0 : Int32) (p1 : Int32) (p2 : Int32) (sz : Nat)  : Met l y_Set_addClause ws_Set_addClause ({ frames := 0, cells := 0, slots := 0, locals := 0 }) (va_Pc [.ref h0, .int p0, .int p1, .int p2] (cx_pre D [(k0, .int), (k1, .int), (k2, .char), (k3, .int), (k4, .int)] ([(h0, .inr (3, [.ref a0, .ref a1, .int sn, .ref a2, .ref a3, .ref a4, .int cl])), (a0, .inl (k0, 20, .inl g0)), (a1, .inl (k1, 20, .inl g1)), (a2, .inl (k2, 100, .inl g2)), (a3, .inl (k3, 100, .inl g3)), (a4, .inl (k4, 100, .inl g4))]) sz)) (va_Qi (fun r9 _ => r9 = (m_addClause g1 g2 g3 g4 sn cl p0 p1 p2).1) (fun (_ : Unit) t => cx_end D [(k0, .int), (k1, .int), (k2, .char), (k3, .int), (k4, .int)] (va_A ([(h0, .inr (3, [.ref a0, .ref a1, .int sn, .ref a2, .ref a3, .ref a4, .int cl])), (a0, .inl (k0, 20, .inl g0)), (a1, .inl (k1, 20, .inl g1)), (a2, .inl (k2, 100, .inl g2)), (a3, .inl (k3, 100, .inl g3)), (a4, .inl (k4, 100, .inl g4))]) sz) ([(h0, .inr (3, [.ref a0, .ref a1, .int sn, .ref a2, .ref a3, .ref a4, .int ((m_addClause g1 g2 g3 g4 sn cl p0 p1 p2).2.2.2.2.2)])), (a0, .inl (k0, 20, .inl g0)), (a1, .inl (k1, 20, .inl ((m_addClause g1 g2 g3 g4 sn cl p0 p1 p2).2.1))), (a2, .inl (k2, 100, .inl ((m_addClause g1 g2 g3 g4 sn cl p0 p1 p2).2.2.1))), (a3, .inl (k3, 100, .inl ((m_addClause g1 g2 g3 g4 sn cl p0 p1 p2).2.2.2.1))), (a4, .inl (k4, 100, .inl ((m_addClause g1 g2 g3 g4 sn cl p0 p1 p2).2.2.2.2.1)))]) t) (va_A ([(h0, .inr (3, [.ref a0, .ref a1, .int sn, .ref a2, .ref a3, .ref a4, .int cl])), (a0, .inl (k0, 20, .inl g0)), (a1, .inl (k1, 20, .inl g1)), (a2, .inl (k2, 100, .inl g2)), (a3, .inl (k3, 100, .inl g3)), (a4, .inl (k4, 100, .inl g4))]) sz)) 0 0 (va_A ([(h0, .inr (3, [.ref a0, .ref a1, .int sn, .ref a2, .ref a3, .ref a4, .int cl])), (a0, .inl (k0, 20, .inl g0)), (a1, .inl (k1, 20, .inl g1)), (a2, .inl (k2, 100, .inl g2)), (a3, .inl (k3, 100, .inl g3)), (a4, .inl (k4, 100, .inl g4))]) sz) := by
  refine Met.ofW (cc := b_Set_addClause) (maxL := 4) (ret := (some .boolean)) (by decide) rfl ?_
  intro p e s m args below meth c s₁ B hml hv
  obtain ⟨rfl, hsz, hP, hK, hD0, hN, hO⟩ := hv
  have hx := B.exec
  have hb := B.bytes
  have hr := B.returns
  have hts := fun (w : Cond) (h : w ∈ cx_tbl) => atoms_spec (ws := ws_Set_addClause) B.pre w (List.mem_cons_of_mem _ h)
  have hown : s.vm.findClass R_Set = some m.cls := findClass_of_methodNamed B.named
  have hlocks := B.notSynchronized
  subst hsz
  have hD := hD0.self (sz := s.heap.size)
  generalize hAe : va_A ([(h0, .inr (3, [.ref a0, .ref a1, .int sn, .ref a2, .ref a3, .ref a4, .int cl])), (a0, .inl (k0, 20, .inl g0)), (a1, .inl (k1, 20, .inl g1)), (a2, .inl (k2, 100, .inl g2)), (a3, .inl (k3, 100, .inl g3)), (a4, .inl (k4, 100, .inl g4))]) s.heap.size = A at hD hO ⊢
  have hA : ∀ q : Nat, s.heap.size ≤ q → A q := fun q h => by rw [← hAe]; exact Or.inr h
  have hS : va_S A s.heap s.heap [] := va_S.rf
  have hl := lv_entry ([.ref h0, .int p0, .int p1, .int p2]) (n := 4) (Nat.le_of_ble_eq_true rfl)
  rw [lg_entry_eq]
  generalize (lg_sl ([.ref h0, .int p0, .int p1, .int p2]) ++ List.replicate (4 - (lg_sl ([.ref h0, .int p0, .int p1, .int p2])).length) Slot.unset).toArray = ls at hl ⊢
  have hl : lv_has ls 4 [(0, .ref h0), (1, .int p0), (2, .int p1), (3, .int p2)] := hl
  refine lv_aload_n hx hb d_Set_addClause_0 rfl (lv_at hl 0 rfl) ?_
  refine va_get (D := D) (ci := 3) (v := .int sn) (C := R_Set) (T := T_Set) (N := 7) hx hb hts in_Set hown hK hP 0 rfl rfl 2 (by decide) (hts _ cw_61) (fun _ h9 => h9) rfl d_Set_addClause_1 ?_
  refine lv_iconst (v := 1) hx hb d_Set_addClause_4 (by decide) ?_
  refine lv_icmp_lt (tgt := 39) hx hb d_Set_addClause_5 (by decide) (fun c_1 => ?_) (fun c_1 => ?_)
  · refine lv_iconst (v := 0) hx hb d_Set_addClause_39 (by decide) ?_
    have hm : m_addClause g1 g2 g3 g4 sn cl p0 p1 p2 = (0, g1, g2, g3, g4, cl) := by simp [m_addClause, eq_true c_1]
    rw [hm]
    have hP9 := hP.sub (ws' := [(h0, .inr (3, [.ref a0, .ref a1, .int sn, .ref a2, .ref a3, .ref a4, .int cl])), (a0, .inl (k0, 20, .inl g0)), (a1, .inl (k1, 20, .inl g1)), (a2, .inl (k2, 100, .inl g2)), (a3, .inl (k3, 100, .inl g3)), (a4, .inl (k4, 100, .inl g4))]) [0, 1, 2, 3, 4, 5] rfl
    have hD9 := hD.sub (ws' := [(h0, .inr (3, [.ref a0, .ref a1, .int sn, .ref a2, .ref a3, .ref a4, .int cl])), (a0, .inl (k0, 20, .inl g0)), (a1, .inl (k1, 20, .inl g1)), (a2, .inl (k2, 100, .inl g2)), (a3, .inl (k3, 100, .inl g3)), (a4, .inl (k4, 100, .inl g4))]) [0, 1, 2, 3, 4, 5] (by decide) rfl
    have hK9 := hK.sub (tys' := [(k0, .int), (k1, .int), (k2, .char), (k3, .int), (k4, .int)]) [0, 1, 2, 3, 4] rfl
    exact W.zret (v := 0) hx hb hr (rfl) (fun t ht hW => ⟨⟨_, (), rfl, rfl, by rw [ht]; exact hP9, va_K.moved hW.alike hK9, hD9⟩, hS.F ht⟩) hS.2.2 d_Set_addClause_40
  · refine lv_aload_n hx hb d_Set_addClause_8 rfl (lv_at hl 0 rfl) ?_
    refine va_get (D := D) (ci := 3) (v := .int sn) (C := R_Set) (T := T_Set) (N := 7) hx hb hts in_Set hown hK hP 0 rfl rfl 2 (by decide) (hts _ cw_61) (fun _ h9 => h9) rfl d_Set_addClause_9 ?_
    refine lv_aload_n hx hb d_Set_addClause_12 rfl (lv_at hl 0 rfl) ?_
    refine va_get (D := D) (ci := 3) (v := .ref a1) (C := R_Set) (T := T_Set) (N := 7) hx hb hts in_Set hown hK hP 0 rfl rfl 1 (by decide) (hts _ cw_60) (fun _ h9 => h9) rfl d_Set_addClause_13 ?_
    refine va_alen (v := 20) hx hb hK hP 2 1 rfl rfl rfl d_Set_addClause_16 ?_
    refine lv_icmp_gt (tgt := 39) hx hb d_Set_addClause_17 (by decide) (fun c_2 => ?_) (fun c_2 => ?_)
    · refine lv_iconst (v := 0) hx hb d_Set_addClause_39 (by decide) ?_
      have hm : m_addClause g1 g2 g3 g4 sn cl p0 p1 p2 = (0, g1, g2, g3, g4, cl) := by simp [m_addClause, eq_false c_1, eq_true c_2]
      rw [hm]
      have hP9 := hP.sub (ws' := [(h0, .inr (3, [.ref a0, .ref a1, .int sn, .ref a2, .ref a3, .ref a4, .int cl])), (a0, .inl (k0, 20, .inl g0)), (a1, .inl (k1, 20, .inl g1)), (a2, .inl (k2, 100, .inl g2)), (a3, .inl (k3, 100, .inl g3)), (a4, .inl (k4, 100, .inl g4))]) [0, 1, 2, 3, 4, 5] rfl
      have hD9 := hD.sub (ws' := [(h0, .inr (3, [.ref a0, .ref a1, .int sn, .ref a2, .ref a3, .ref a4, .int cl])), (a0, .inl (k0, 20, .inl g0)), (a1, .inl (k1, 20, .inl g1)), (a2, .inl (k2, 100, .inl g2)), (a3, .inl (k3, 100, .inl g3)), (a4, .inl (k4, 100, .inl g4))]) [0, 1, 2, 3, 4, 5] (by decide) rfl
      have hK9 := hK.sub (tys' := [(k0, .int), (k1, .int), (k2, .char), (k3, .int), (k4, .int)]) [0, 1, 2, 3, 4] rfl
      exact W.zret (v := 0) hx hb hr (rfl) (fun t ht hW => ⟨⟨_, (), rfl, rfl, by rw [ht]; exact hP9, va_K.moved hW.alike hK9, hD9⟩, hS.F ht⟩) hS.2.2 d_Set_addClause_40
    · refine lv_aload_n hx hb d_Set_addClause_20 rfl (lv_at hl 0 rfl) ?_
      refine va_get (D := D) (ci := 3) (v := .int cl) (C := R_Set) (T := T_Set) (N := 7) hx hb hts in_Set hown hK hP 0 rfl rfl 6 (by decide) (hts _ cw_66) (fun _ h9 => h9) rfl d_Set_addClause_21 ?_
      refine lv_if_lt (tgt := 39) hx hb d_Set_addClause_24 (by decide) (fun c_3 => ?_) (fun c_3 => ?_)
      · refine lv_iconst (v := 0) hx hb d_Set_addClause_39 (by decide) ?_
        have hm : m_addClause g1 g2 g3 g4 sn cl p0 p1 p2 = (0, g1, g2, g3, g4, cl) := by simp [m_addClause, eq_false c_1, eq_false c_2, eq_true c_3]
        rw [hm]
        have hP9 := hP.sub (ws' := [(h0, .inr (3, [.ref a0, .ref a1, .int sn, .ref a2, .ref a3, .ref a4, .int cl])), (a0, .inl (k0, 20, .inl g0)), (a1, .inl (k1, 20, .inl g1)), (a2, .inl (k2, 100, .inl g2)), (a3, .inl (k3, 100, .inl g3)), (a4, .inl (k4, 100, .inl g4))]) [0, 1, 2, 3, 4, 5] rfl
        have hD9 := hD.sub (ws' := [(h0, .inr (3, [.ref a0, .ref a1, .int sn, .ref a2, .ref a3, .ref a4, .int cl])), (a0, .inl (k0, 20, .inl g0)), (a1, .inl (k1, 20, .inl g1)), (a2, .inl (k2, 100, .inl g2)), (a3, .inl (k3, 100, .inl g3)), (a4, .inl (k4, 100, .inl g4))]) [0, 1, 2, 3, 4, 5] (by decide) rfl
        have hK9 := hK.sub (tys' := [(k0, .int), (k1, .int), (k2, .char), (k3, .int), (k4, .int)]) [0, 1, 2, 3, 4] rfl
        exact W.zret (v := 0) hx hb hr (rfl) (fun t ht hW => ⟨⟨_, (), rfl, rfl, by rw [ht]; exact hP9, va_K.moved hW.alike hK9, hD9⟩, hS.F ht⟩) hS.2.2 d_Set_addClause_40
      · refine lv_aload_n hx hb d_Set_addClause_27 rfl (lv_at hl 0 rfl) ?_
        refine va_get (D := D) (ci := 3) (v := .int cl) (C := R_Set) (T := T_Set) (N := 7) hx hb hts in_Set hown hK hP 0 rfl rfl 6 (by decide) (hts _ cw_66) (fun _ h9 => h9) rfl d_Set_addClause_28 ?_
        refine lv_aload_n hx hb d_Set_addClause_31 rfl (lv_at hl 0 rfl) ?_
        refine va_get (D := D) (ci := 3) (v := .ref a2) (C := R_Set) (T := T_Set) (N := 7) hx hb hts in_Set hown hK hP 0 rfl rfl 3 (by decide) (hts _ cw_63) (fun _ h9 => h9) rfl d_Set_addClause_32 ?_
        refine va_alen (v := 100) hx hb hK hP 3 2 rfl rfl rfl d_Set_addClause_35 ?_
        refine lv_icmp_lt (tgt := 41) hx hb d_Set_addClause_36 (by decide) (fun c_4 => ?_) (fun c_4 => ?_)
        · refine lv_aload_n hx hb d_Set_addClause_41 rfl (lv_at hl 0 rfl) ?_
          refine va_get (D := D) (ci := 3) (v := .ref a2) (C := R_Set) (T := T_Set) (N := 7) hx hb hts in_Set hown hK hP 0 rfl rfl 3 (by decide) (hts _ cw_63) (fun _ h9 => h9) rfl d_Set_addClause_42 ?_
          refine lv_aload_n hx hb d_Set_addClause_45 rfl (lv_at hl 0 rfl) ?_
          refine va_get (D := D) (ci := 3) (v := .int cl) (C := R_Set) (T := T_Set) (N := 7) hx hb hts in_Set hown hK hP 0 rfl rfl 6 (by decide) (hts _ cw_66) (fun _ h9 => h9) rfl d_Set_addClause_46 ?_
          refine lv_iload_n hx hb d_Set_addClause_49 rfl (lv_at hl 1 rfl) ?_
          refine va_cast hx hb hK hP hD hS 3 2 rfl rfl (cx_ixl (n := 100) (by decide) c_3 c_4) d_Set_addClause_50 (fun H locs hP hD hS => ?_)
          have hP : va_P D classes ([(h0, .inr (3, [.ref a0, .ref a1, .int sn, .ref a2, .ref a3, .ref a4, .int cl])), (a0, .inl (k0, 20, .inl g0)), (a1, .inl (k1, 20, .inl g1)), (a2, .inl (k2, 100, .inl (upd g2 cl.toNatClampNeg (vp_nar .char p0)))), (a3, .inl (k3, 100, .inl g3)), (a4, .inl (k4, 100, .inl g4))]) H := hP
          have hD : va_D A ([(h0, .inr (3, [.ref a0, .ref a1, .int sn, .ref a2, .ref a3, .ref a4, .int cl])), (a0, .inl (k0, 20, .inl g0)), (a1, .inl (k1, 20, .inl g1)), (a2, .inl (k2, 100, .inl (upd g2 cl.toNatClampNeg (vp_nar .char p0)))), (a3, .inl (k3, 100, .inl g3)), (a4, .inl (k4, 100, .inl g4))]) := hD
          refine lv_aload_n hx hb d_Set_addClause_51 rfl (lv_at hl 0 rfl) ?_
          refine va_get (D := D) (ci := 3) (v := .ref a3) (C := R_Set) (T := T_Set) (N := 7) hx hb hts in_Set hown hK hP 0 rfl rfl 4 (by decide) (hts _ cw_64) (fun _ h9 => h9) rfl d_Set_addClause_52 ?_
          refine lv_aload_n hx hb d_Set_addClause_55 rfl (lv_at hl 0 rfl) ?_
          refine va_get (D := D) (ci := 3) (v := .int cl) (C := R_Set) (T := T_Set) (N := 7) hx hb hts in_Set hown hK hP 0 rfl rfl 6 (by decide) (hts _ cw_66) (fun _ h9 => h9) rfl d_Set_addClause_56 ?_
          refine lv_iload_n hx hb d_Set_addClause_59 rfl (lv_at hl 2 rfl) ?_
          refine va_iast hx hb hK hP hD hS 4 3 rfl rfl (cx_ixl (n := 100) (by decide) c_3 c_4) d_Set_addClause_60 (fun H locs hP hD hS => ?_)
          have hP : va_P D classes ([(h0, .inr (3, [.ref a0, .ref a1, .int sn, .ref a2, .ref a3, .ref a4, .int cl])), (a0, .inl (k0, 20, .inl g0)), (a1, .inl (k1, 20, .inl g1)), (a2, .inl (k2, 100, .inl (upd g2 cl.toNatClampNeg (vp_nar .char p0)))), (a3, .inl (k3, 100, .inl (upd g3 cl.toNatClampNeg p1))), (a4, .inl (k4, 100, .inl g4))]) H := hP
          have hD : va_D A ([(h0, .inr (3, [.ref a0, .ref a1, .int sn, .ref a2, .ref a3, .ref a4, .int cl])), (a0, .inl (k0, 20, .inl g0)), (a1, .inl (k1, 20, .inl g1)), (a2, .inl (k2, 100, .inl (upd g2 cl.toNatClampNeg (vp_nar .char p0)))), (a3, .inl (k3, 100, .inl (upd g3 cl.toNatClampNeg p1))), (a4, .inl (k4, 100, .inl g4))]) := hD
          refine lv_aload_n hx hb d_Set_addClause_61 rfl (lv_at hl 0 rfl) ?_
          refine va_get (D := D) (ci := 3) (v := .ref a4) (C := R_Set) (T := T_Set) (N := 7) hx hb hts in_Set hown hK hP 0 rfl rfl 5 (by decide) (hts _ cw_65) (fun _ h9 => h9) rfl d_Set_addClause_62 ?_
          refine lv_aload_n hx hb d_Set_addClause_65 rfl (lv_at hl 0 rfl) ?_
          refine va_get (D := D) (ci := 3) (v := .int cl) (C := R_Set) (T := T_Set) (N := 7) hx hb hts in_Set hown hK hP 0 rfl rfl 6 (by decide) (hts _ cw_66) (fun _ h9 => h9) rfl d_Set_addClause_66 ?_
          refine lv_iload_n hx hb d_Set_addClause_69 rfl (lv_at hl 3 rfl) ?_
          refine va_iast hx hb hK hP hD hS 5 4 rfl rfl (cx_ixl (n := 100) (by decide) c_3 c_4) d_Set_addClause_70 (fun H locs hP hD hS => ?_)
          have hP : va_P D classes ([(h0, .inr (3, [.ref a0, .ref a1, .int sn, .ref a2, .ref a3, .ref a4, .int cl])), (a0, .inl (k0, 20, .inl g0)), (a1, .inl (k1, 20, .inl g1)), (a2, .inl (k2, 100, .inl (upd g2 cl.toNatClampNeg (vp_nar .char p0)))), (a3, .inl (k3, 100, .inl (upd g3 cl.toNatClampNeg p1))), (a4, .inl (k4, 100, .inl (upd g4 cl.toNatClampNeg p2)))]) H := hP
          have hD : va_D A ([(h0, .inr (3, [.ref a0, .ref a1, .int sn, .ref a2, .ref a3, .ref a4, .int cl])), (a0, .inl (k0, 20, .inl g0)), (a1, .inl (k1, 20, .inl g1)), (a2, .inl (k2, 100, .inl (upd g2 cl.toNatClampNeg (vp_nar .char p0)))), (a3, .inl (k3, 100, .inl (upd g3 cl.toNatClampNeg p1))), (a4, .inl (k4, 100, .inl (upd g4 cl.toNatClampNeg p2)))]) := hD
          refine lv_aload_n hx hb d_Set_addClause_71 rfl (lv_at hl 0 rfl) ?_
          refine lv_dup hx hb d_Set_addClause_72 rfl ?_
          refine va_get (D := D) (ci := 3) (v := .int cl) (C := R_Set) (T := T_Set) (N := 7) hx hb hts in_Set hown hK hP 0 rfl rfl 6 (by decide) (hts _ cw_66) (fun _ h9 => h9) rfl d_Set_addClause_73 ?_
          refine lv_iconst (v := 1) hx hb d_Set_addClause_76 (by decide) ?_
          refine lv_iadd hx hb d_Set_addClause_77 ?_
          refine va_put (D := D) (ci := 3) (v := .int (cl + 1)) (ty := .int) (C := R_Set) (T := T_Set) (N := 7) hx hb hts in_Set ty_Set tyok_Set nm_Set hown hK hP hD hS 0 rfl rfl 6 (by decide) (hts _ cw_66) (fun _ h9 => h9) rfl (by decide +kernel) rfl rfl (Nat.le_of_ble_eq_true rfl) d_Set_addClause_78 (fun H locs hP hD hS => ?_)
          have hP : va_P D classes ([(h0, .inr (3, [.ref a0, .ref a1, .int sn, .ref a2, .ref a3, .ref a4, .int (cl + 1)])), (a0, .inl (k0, 20, .inl g0)), (a1, .inl (k1, 20, .inl g1)), (a2, .inl (k2, 100, .inl (upd g2 cl.toNatClampNeg (vp_nar .char p0)))), (a3, .inl (k3, 100, .inl (upd g3 cl.toNatClampNeg p1))), (a4, .inl (k4, 100, .inl (upd g4 cl.toNatClampNeg p2)))]) H := hP
          have hD : va_D A ([(h0, .inr (3, [.ref a0, .ref a1, .int sn, .ref a2, .ref a3, .ref a4, .int (cl + 1)])), (a0, .inl (k0, 20, .inl g0)), (a1, .inl (k1, 20, .inl g1)), (a2, .inl (k2, 100, .inl (upd g2 cl.toNatClampNeg (vp_nar .char p0)))), (a3, .inl (k3, 100, .inl (upd g3 cl.toNatClampNeg p1))), (a4, .inl (k4, 100, .inl (upd g4 cl.toNatClampNeg p2)))]) := hD
          refine lv_aload_n hx hb d_Set_addClause_81 rfl (lv_at hl 0 rfl) ?_
          refine va_get (D := D) (ci := 3) (v := .ref a1) (C := R_Set) (T := T_Set) (N := 7) hx hb hts in_Set hown hK hP 0 rfl rfl 1 (by decide) (hts _ cw_60) (fun _ h9 => h9) rfl d_Set_addClause_82 ?_
          refine lv_aload_n hx hb d_Set_addClause_85 rfl (lv_at hl 0 rfl) ?_
          refine va_get (D := D) (ci := 3) (v := .int sn) (C := R_Set) (T := T_Set) (N := 7) hx hb hts in_Set hown hK hP 0 rfl rfl 2 (by decide) (hts _ cw_61) (fun _ h9 => h9) rfl d_Set_addClause_86 ?_
          refine lv_iconst (v := 1) hx hb d_Set_addClause_89 (by decide) ?_
          refine lv_isub hx hb d_Set_addClause_90 ?_
          refine lv_aload_n hx hb d_Set_addClause_91 rfl (lv_at hl 0 rfl) ?_
          refine va_get (D := D) (ci := 3) (v := .int (cl + 1)) (C := R_Set) (T := T_Set) (N := 7) hx hb hts in_Set hown hK hP 0 rfl rfl 6 (by decide) (hts _ cw_66) (fun _ h9 => h9) rfl d_Set_addClause_92 ?_
          refine va_iast hx hb hK hP hD hS 2 1 rfl rfl (ix_pred2 (n := 20) (by decide) c_1 c_2) d_Set_addClause_95 (fun H locs hP hD hS => ?_)
          have hP : va_P D classes ([(h0, .inr (3, [.ref a0, .ref a1, .int sn, .ref a2, .ref a3, .ref a4, .int (cl + 1)])), (a0, .inl (k0, 20, .inl g0)), (a1, .inl (k1, 20, .inl (upd g1 ((sn - 1).toNatClampNeg) (cl + 1)))), (a2, .inl (k2, 100, .inl (upd g2 cl.toNatClampNeg (vp_nar .char p0)))), (a3, .inl (k3, 100, .inl (upd g3 cl.toNatClampNeg p1))), (a4, .inl (k4, 100, .inl (upd g4 cl.toNatClampNeg p2)))]) H := hP
          have hD : va_D A ([(h0, .inr (3, [.ref a0, .ref a1, .int sn, .ref a2, .ref a3, .ref a4, .int (cl + 1)])), (a0, .inl (k0, 20, .inl g0)), (a1, .inl (k1, 20, .inl (upd g1 ((sn - 1).toNatClampNeg) (cl + 1)))), (a2, .inl (k2, 100, .inl (upd g2 cl.toNatClampNeg (vp_nar .char p0)))), (a3, .inl (k3, 100, .inl (upd g3 cl.toNatClampNeg p1))), (a4, .inl (k4, 100, .inl (upd g4 cl.toNatClampNeg p2)))]) := hD
          refine lv_iconst (v := 1) hx hb d_Set_addClause_96 (by decide) ?_
          have hm : m_addClause g1 g2 g3 g4 sn cl p0 p1 p2 = (1, upd g1 ((sn - 1).toNatClampNeg) (cl + 1), upd g2 cl.toNatClampNeg (vp_nar .char p0), upd g3 cl.toNatClampNeg p1, upd g4 cl.toNatClampNeg p2, cl + 1) := by simp [m_addClause, eq_false c_1, eq_false c_2, eq_false c_3, eq_true c_4]
          rw [hm]
          have hP9 := hP.sub (ws' := [(h0, .inr (3, [.ref a0, .ref a1, .int sn, .ref a2, .ref a3, .ref a4, .int (cl + 1)])), (a0, .inl (k0, 20, .inl g0)), (a1, .inl (k1, 20, .inl (upd g1 ((sn - 1).toNatClampNeg) (cl + 1)))), (a2, .inl (k2, 100, .inl (upd g2 cl.toNatClampNeg (vp_nar .char p0)))), (a3, .inl (k3, 100, .inl (upd g3 cl.toNatClampNeg p1))), (a4, .inl (k4, 100, .inl (upd g4 cl.toNatClampNeg p2)))]) [0, 1, 2, 3, 4, 5] rfl
          have hD9 := hD.sub (ws' := [(h0, .inr (3, [.ref a0, .ref a1, .int sn, .ref a2, .ref a3, .ref a4, .int (cl + 1)])), (a0, .inl (k0, 20, .inl g0)), (a1, .inl (k1, 20, .inl (upd g1 ((sn - 1).toNatClampNeg) (cl + 1)))), (a2, .inl (k2, 100, .inl (upd g2 cl.toNatClampNeg (vp_nar .char p0)))), (a3, .inl (k3, 100, .inl (upd g3 cl.toNatClampNeg p1))), (a4, .inl (k4, 100, .inl (upd g4 cl.toNatClampNeg p2)))]) [0, 1, 2, 3, 4, 5] (by decide) rfl
          have hK9 := hK.sub (tys' := [(k0, .int), (k1, .int), (k2, .char), (k3, .int), (k4, .int)]) [0, 1, 2, 3, 4] rfl
          exact W.zret (v := 1) hx hb hr (rfl) (fun t ht hW => ⟨⟨_, (), rfl, rfl, by rw [ht]; exact hP9, va_K.moved hW.alike hK9, hD9⟩, hS.F ht⟩) hS.2.2 d_Set_addClause_97
        · refine lv_iconst (v := 0) hx hb d_Set_addClause_39 (by decide) ?_
          have hm : m_addClause g1 g2 g3 g4 sn cl p0 p1 p2 = (0, g1, g2, g3, g4, cl) := by simp [m_addClause, eq_false c_1, eq_false c_2, eq_false c_3, eq_false c_4]
          rw [hm]
          have hP9 := hP.sub (ws' := [(h0, .inr (3, [.ref a0, .ref a1, .int sn, .ref a2, .ref a3, .ref a4, .int cl])), (a0, .inl (k0, 20, .inl g0)), (a1, .inl (k1, 20, .inl g1)), (a2, .inl (k2, 100, .inl g2)), (a3, .inl (k3, 100, .inl g3)), (a4, .inl (k4, 100, .inl g4))]) [0, 1, 2, 3, 4, 5] rfl
          have hD9 := hD.sub (ws' := [(h0, .inr (3, [.ref a0, .ref a1, .int sn, .ref a2, .ref a3, .ref a4, .int cl])), (a0, .inl (k0, 20, .inl g0)), (a1, .inl (k1, 20, .inl g1)), (a2, .inl (k2, 100, .inl g2)), (a3, .inl (k3, 100, .inl g3)), (a4, .inl (k4, 100, .inl g4))]) [0, 1, 2, 3, 4, 5] (by decide) rfl
          have hK9 := hK.sub (tys' := [(k0, .int), (k1, .int), (k2, .char), (k3, .int), (k4, .int)]) [0, 1, 2, 3, 4] rfl
          exact W.zret (v := 0) hx hb hr (rfl) (fun t ht hW => ⟨⟨_, (), rfl, rfl, by rw [ht]; exact hP9, va_K.moved hW.alike hK9, hD9⟩, hS.F ht⟩) hS.2.2 d_Set_addClause_40

set_option maxHeartbeats 4000000 in
set_option maxRecDepth 100000 in
/-- RuleSet.holds -/
theorem c_Set_holds (l : Launch) (D : va_G)  (h0 : Nat) (a0 : Nat) (a1 : Nat) (a2 : Nat) (a3 : Nat) (a4 : Nat) (k0 : ClassId) (k1 : ClassId) (k2 : ClassId) (k3 : ClassId) (k4 : ClassId) (g0 : Nat → Int32) (g1 : Nat → Int32) (g2 : Nat → Int32) (g3 : Nat → Int32) (g4 : Nat → Int32) (sn : Int32) (cl : Int32) (h1 : Nat) (f0 : Int32) (f1 : Int32) (f2 : Int64) (f3 : Int32) (f4 : Int32) (f5 : Int32) (f6 : Int32) (f7 : Int32) (f8 : Int32) (f9 : Int32) (f10 : Int32) (f11 : Int32) (p0 : Int32) (sz : Nat)  : Met l y_Set_holds ws_Set_holds ({ frames := 2, cells := 0, slots := 0, locals := 45 }) (va_Pc [.ref h0, .ref h1, .int p0] (cx_pre D [(k0, .int), (k1, .int), (k2, .char), (k3, .int), (k4, .int)] ([(h0, .inr (3, [.ref a0, .ref a1, .int sn, .ref a2, .ref a3, .ref a4, .int cl])), (a0, .inl (k0, 20, .inl g0)), (a1, .inl (k1, 20, .inl g1)), (a2, .inl (k2, 100, .inl g2)), (a3, .inl (k3, 100, .inl g3)), (a4, .inl (k4, 100, .inl g4)), (h1, .inr (0, [.int f0, .int f1, .long f2, .int f3, .int f4, .int f5, .int f6, .int f7, .int f8, .int f9, .int f10, .int f11]))]) sz)) (vp_Si (fun r9 => r9 = m_holds f2 f5 f6 f11 g2 g3 g4 p0)) 0 0 (fun _ => False) := by
  refine Met.ofW (cc := b_Set_holds) (maxL := 3) (ret := (some .boolean)) (by decide) rfl ?_
  intro p e s m args below meth c s₁ B hml hv
  obtain ⟨rfl, hsz, hP, hK, hD0, hN, hO⟩ := hv
  have hx := B.exec
  have hb := B.bytes
  have hr := B.returns
  have hts := fun (w : Cond) (h : w ∈ cx_tbl) => atoms_spec (ws := ws_Set_holds) B.pre w (List.mem_cons_of_mem _ h)
  have hown : s.vm.findClass R_Set = some m.cls := findClass_of_methodNamed B.named
  have hlocks := B.notSynchronized
  subst hsz
  have hD := hD0.self (sz := s.heap.size)
  generalize hAe : va_A ([(h0, .inr (3, [.ref a0, .ref a1, .int sn, .ref a2, .ref a3, .ref a4, .int cl])), (a0, .inl (k0, 20, .inl g0)), (a1, .inl (k1, 20, .inl g1)), (a2, .inl (k2, 100, .inl g2)), (a3, .inl (k3, 100, .inl g3)), (a4, .inl (k4, 100, .inl g4)), (h1, .inr (0, [.int f0, .int f1, .long f2, .int f3, .int f4, .int f5, .int f6, .int f7, .int f8, .int f9, .int f10, .int f11]))]) s.heap.size = A at hD hO
  have hA : ∀ q : Nat, s.heap.size ≤ q → A q := fun q h => by rw [← hAe]; exact Or.inr h
  have hS : va_S A s.heap s.heap [] := va_S.rf
  have hl := lv_entry ([.ref h0, .ref h1, .int p0]) (n := 3) (Nat.le_of_ble_eq_true rfl)
  rw [lg_entry_eq]
  generalize (lg_sl ([.ref h0, .ref h1, .int p0]) ++ List.replicate (3 - (lg_sl ([.ref h0, .ref h1, .int p0])).length) Slot.unset).toArray = ls at hl ⊢
  have hl : lv_has ls 3 [(0, .ref h0), (1, .ref h1), (2, .int p0)] := hl
  refine lv_iload_n hx hb d_Set_holds_0 rfl (lv_at hl 2 rfl) ?_
  refine lv_if_lt (tgt := 13) hx hb d_Set_holds_1 (by decide) (fun c_1 => ?_) (fun c_1 => ?_)
  · refine lv_iconst (v := 0) hx hb d_Set_holds_13 (by decide) ?_
    exact W.zret (v := 0) hx hb hr (rfl) (fun t ht hW => ⟨_, rfl, by simp [m_holds, eq_true c_1], ht⟩) (fun q h => by cases h) d_Set_holds_14
  · refine lv_iload_n hx hb d_Set_holds_4 rfl (lv_at hl 2 rfl) ?_
    refine lv_aload_n hx hb d_Set_holds_5 rfl (lv_at hl 0 rfl) ?_
    refine va_get (D := D) (ci := 3) (v := .ref a2) (C := R_Set) (T := T_Set) (N := 7) hx hb hts in_Set hown hK hP 0 rfl rfl 3 (by decide) (hts _ cw_63) (fun _ h9 => h9) rfl d_Set_holds_6 ?_
    refine va_alen (v := 100) hx hb hK hP 3 2 rfl rfl rfl d_Set_holds_9 ?_
    refine lv_icmp_lt (tgt := 15) hx hb d_Set_holds_10 (by decide) (fun c_2 => ?_) (fun c_2 => ?_)
    · refine lv_aload_n hx hb d_Set_holds_15 rfl (lv_at hl 0 rfl) ?_
      refine va_get (D := D) (ci := 3) (v := .ref a2) (C := R_Set) (T := T_Set) (N := 7) hx hb hts in_Set hown hK hP 0 rfl rfl 3 (by decide) (hts _ cw_63) (fun _ h9 => h9) rfl d_Set_holds_16 ?_
      refine lv_iload_n hx hb d_Set_holds_19 rfl (lv_at hl 2 rfl) ?_
      refine va_cald hx hb hK hP 3 2 rfl rfl (cx_ixl (n := 100) (by decide) c_1 c_2) d_Set_holds_20 ?_
      refine lv_bipush (v := 113) hx hb d_Set_holds_21 (by decide) ?_
      refine lv_icmp_ne (tgt := 48) hx hb d_Set_holds_23 (by decide) (fun c_3 => ?_) (fun c_3 => ?_)
      · refine lv_aload_n hx hb d_Set_holds_48 rfl (lv_at hl 0 rfl) ?_
        refine va_get (D := D) (ci := 3) (v := .ref a2) (C := R_Set) (T := T_Set) (N := 7) hx hb hts in_Set hown hK hP 0 rfl rfl 3 (by decide) (hts _ cw_63) (fun _ h9 => h9) rfl d_Set_holds_49 ?_
        refine lv_iload_n hx hb d_Set_holds_52 rfl (lv_at hl 2 rfl) ?_
        refine va_cald hx hb hK hP 3 2 rfl rfl (cx_ixl (n := 100) (by decide) c_1 c_2) d_Set_holds_53 ?_
        refine lv_bipush (v := 118) hx hb d_Set_holds_54 (by decide) ?_
        refine lv_icmp_ne (tgt := 82) hx hb d_Set_holds_56 (by decide) (fun c_4 => ?_) (fun c_4 => ?_)
        · refine lv_aload_n hx hb d_Set_holds_82 rfl (lv_at hl 1 rfl) ?_
          refine va_getN (D := D) (ci := 0) (v := .int f6) (C := R_Cell) (T := T_Cell) (N := 12) hx hb hts in_Cell hown hK hP 6 rfl rfl 6 (by decide) (va_Nw.use rfl (hN _ cn_222)) (fun _ h9 => h9) rfl d_Set_holds_83 ?_
          refine lv_if_le (tgt := 123) hx hb d_Set_holds_86 (by decide) (fun c_5 => ?_) (fun c_5 => ?_)
          · refine lv_iconst (v := 0) hx hb d_Set_holds_123 (by decide) ?_
            exact W.zret (v := 0) hx hb hr (rfl) (fun t ht hW => ⟨_, rfl, by simp [m_holds, eq_false c_1, eq_true c_2, eq_false c_3, eq_false c_4, eq_true c_5], ht⟩) (fun q h => by cases h) d_Set_holds_124
          · refine lv_aload_n hx hb d_Set_holds_89 rfl (lv_at hl 1 rfl) ?_
            refine va_getN (D := D) (ci := 0) (v := .int f5) (C := R_Cell) (T := T_Cell) (N := 12) hx hb hts in_Cell hown hK hP 6 rfl rfl 5 (by decide) (va_Nw.use rfl (hN _ cn_219)) (fun _ h9 => h9) rfl d_Set_holds_90 ?_
            refine lv_aload_n hx hb d_Set_holds_93 rfl (lv_at hl 1 rfl) ?_
            refine va_getN (D := D) (ci := 0) (v := .int f6) (C := R_Cell) (T := T_Cell) (N := 12) hx hb hts in_Cell hown hK hP 6 rfl rfl 6 (by decide) (va_Nw.use rfl (hN _ cn_222)) (fun _ h9 => h9) rfl d_Set_holds_94 ?_
            refine lv_idiv hx hb d_Set_holds_97 (ne_of_nle c_5) ?_
            refine lv_i2l hx hb d_Set_holds_98 rfl ?_
            refine lv_aload_n hx hb d_Set_holds_99 rfl (lv_at hl 0 rfl) ?_
            refine va_get (D := D) (ci := 3) (v := .ref a3) (C := R_Set) (T := T_Set) (N := 7) hx hb hts in_Set hown hK hP 0 rfl rfl 4 (by decide) (hts _ cw_64) (fun _ h9 => h9) rfl d_Set_holds_100 ?_
            refine lv_iload_n hx hb d_Set_holds_103 rfl (lv_at hl 2 rfl) ?_
            refine va_iald hx hb hK hP 4 3 rfl rfl (cx_ixl (n := 100) (by decide) c_1 c_2) d_Set_holds_104 ?_
            refine lv_i2l hx hb d_Set_holds_105 rfl ?_
            refine lv_aload_n hx hb d_Set_holds_106 rfl (lv_at hl 0 rfl) ?_
            refine va_get (D := D) (ci := 3) (v := .ref a4) (C := R_Set) (T := T_Set) (N := 7) hx hb hts in_Set hown hK hP 0 rfl rfl 5 (by decide) (hts _ cw_65) (fun _ h9 => h9) rfl d_Set_holds_107 ?_
            refine lv_iload_n hx hb d_Set_holds_110 rfl (lv_at hl 2 rfl) ?_
            refine va_iald hx hb hK hP 5 4 rfl rfl (cx_ixl (n := 100) (by decide) c_1 c_2) d_Set_holds_111 ?_
            refine lv_i2l hx hb d_Set_holds_112 rfl ?_
            have hPc := hP.sub (ws' := []) [] rfl
            have hDc := hD.sub (ws' := []) [] (by decide) rfl
            have hKc := hK.sub (tys' := []) [] rfl
            have hFc := va_free (wc := []) hD hS hA [] rfl
            refine vp_callSi (va_Run.run (va_runSN (As := [.long ((f5 / f6).toInt64), .long ((g3 p0.toNatClampNeg).toInt64), .long ((g4 p0.toNatClampNeg).toInt64)]) (rest := [])  ⟨hx, hb, hml, hown, hts⟩ (c_Ct_isWithin l D ((f5 / f6).toInt64) ((g3 p0.toNatClampNeg).toInt64) ((g4 p0.toNatClampNeg).toInt64) s.heap.size ) ⟨va_cnB 3 hts cg_Ct_isWithin rfl rfl rfl (hN _ cn_494) (hts _ cw_1) (by decide +kernel) ⟨Nat.le_of_ble_eq_true rfl, Nat.le_of_ble_eq_true rfl⟩, hts _ cw_268, trivial⟩ (cx_preS [.long ((f5 / f6).toInt64), .long ((g3 p0.toNatClampNeg).toInt64), .long ((g4 p0.toNatClampNeg).toInt64)] hPc hKc hDc hN hO hS hFc) rfl rfl hl.1 rfl (lv_room (Nat.le_of_ble_eq_true rfl)) d_Set_holds_113 ⟨Nat.le_of_ble_eq_true rfl, Nat.le_of_ble_eq_true rfl⟩)) (fun r z_6 => ?_)
            subst z_6
            refine lv_if_eq (tgt := 123) hx hb d_Set_holds_116 (by decide) (fun c_7 => ?_) (fun c_7 => ?_)
            · refine lv_iconst (v := 0) hx hb d_Set_holds_123 (by decide) ?_
              exact W.zret (v := 0) hx hb hr (rfl) (fun t ht hW => ⟨_, rfl, by simp [m_holds, eq_false c_1, eq_true c_2, eq_false c_3, eq_false c_4, eq_false c_5, eq_true c_7], ht⟩) (fun q h => by cases h) d_Set_holds_124
            · refine lv_iconst (v := 1) hx hb d_Set_holds_119 (by decide) ?_
              refine lv_goto (tgt := 124) hx hb d_Set_holds_120 (by decide) ?_
              exact W.zret (v := 1) hx hb hr (rfl) (fun t ht hW => ⟨_, rfl, by simp [m_holds, eq_false c_1, eq_true c_2, eq_false c_3, eq_false c_4, eq_false c_5, eq_false c_7], ht⟩) (fun q h => by cases h) d_Set_holds_124
        · refine lv_aload_n hx hb d_Set_holds_59 rfl (lv_at hl 1 rfl) ?_
          refine va_getN (D := D) (ci := 0) (v := .int f11) (C := R_Cell) (T := T_Cell) (N := 12) hx hb hts in_Cell hown hK hP 6 rfl rfl 11 (by decide) (va_Nw.use rfl (hN _ cn_228)) (fun _ h9 => h9) rfl d_Set_holds_60 ?_
          refine lv_i2l hx hb d_Set_holds_63 rfl ?_
          refine lv_aload_n hx hb d_Set_holds_64 rfl (lv_at hl 0 rfl) ?_
          refine va_get (D := D) (ci := 3) (v := .ref a3) (C := R_Set) (T := T_Set) (N := 7) hx hb hts in_Set hown hK hP 0 rfl rfl 4 (by decide) (hts _ cw_64) (fun _ h9 => h9) rfl d_Set_holds_65 ?_
          refine lv_iload_n hx hb d_Set_holds_68 rfl (lv_at hl 2 rfl) ?_
          refine va_iald hx hb hK hP 4 3 rfl rfl (cx_ixl (n := 100) (by decide) c_1 c_2) d_Set_holds_69 ?_
          refine lv_i2l hx hb d_Set_holds_70 rfl ?_
          refine lv_aload_n hx hb d_Set_holds_71 rfl (lv_at hl 0 rfl) ?_
          refine va_get (D := D) (ci := 3) (v := .ref a4) (C := R_Set) (T := T_Set) (N := 7) hx hb hts in_Set hown hK hP 0 rfl rfl 5 (by decide) (hts _ cw_65) (fun _ h9 => h9) rfl d_Set_holds_72 ?_
          refine lv_iload_n hx hb d_Set_holds_75 rfl (lv_at hl 2 rfl) ?_
          refine va_iald hx hb hK hP 5 4 rfl rfl (cx_ixl (n := 100) (by decide) c_1 c_2) d_Set_holds_76 ?_
          refine lv_i2l hx hb d_Set_holds_77 rfl ?_
          have hPc := hP.sub (ws' := []) [] rfl
          have hDc := hD.sub (ws' := []) [] (by decide) rfl
          have hKc := hK.sub (tys' := []) [] rfl
          have hFc := va_free (wc := []) hD hS hA [] rfl
          refine vp_callSi (va_Run.run (va_runSN (As := [.long f11.toInt64, .long ((g3 p0.toNatClampNeg).toInt64), .long ((g4 p0.toNatClampNeg).toInt64)]) (rest := [])  ⟨hx, hb, hml, hown, hts⟩ (c_Ct_isWithin l D f11.toInt64 ((g3 p0.toNatClampNeg).toInt64) ((g4 p0.toNatClampNeg).toInt64) s.heap.size ) ⟨va_cnB 3 hts cg_Ct_isWithin rfl rfl rfl (hN _ cn_494) (hts _ cw_1) (by decide +kernel) ⟨Nat.le_of_ble_eq_true rfl, Nat.le_of_ble_eq_true rfl⟩, hts _ cw_268, trivial⟩ (cx_preS [.long f11.toInt64, .long ((g3 p0.toNatClampNeg).toInt64), .long ((g4 p0.toNatClampNeg).toInt64)] hPc hKc hDc hN hO hS hFc) rfl rfl hl.1 rfl (lv_room (Nat.le_of_ble_eq_true rfl)) d_Set_holds_78 ⟨Nat.le_of_ble_eq_true rfl, Nat.le_of_ble_eq_true rfl⟩)) (fun r z_8 => ?_)
          subst z_8
          exact W.zret (v := m_in f11.toInt64 ((g3 p0.toNatClampNeg).toInt64) ((g4 p0.toNatClampNeg).toInt64)) hx hb hr (m_in_nar _ _ _) (fun t ht hW => ⟨_, rfl, by simp [m_holds, eq_false c_1, eq_true c_2, eq_false c_3, eq_true c_4], ht⟩) (fun q h => by cases h) d_Set_holds_81
      · refine lv_aload_n hx hb d_Set_holds_26 rfl (lv_at hl 1 rfl) ?_
        have hPc := hP.sub (ws' := [(h1, .inr (0, [.int f0, .int f1, .long f2, .int f3, .int f4, .int f5, .int f6, .int f7, .int f8, .int f9, .int f10, .int f11]))]) [6] rfl
        have hDc := hD.sub (ws' := [(h1, .inr (0, [.int f0, .int f1, .long f2, .int f3, .int f4, .int f5, .int f6, .int f7, .int f8, .int f9, .int f10, .int f11]))]) [6] (by decide) rfl
        have hKc := hK.sub (tys' := []) [] rfl
        have hFc := va_free (wc := [(h1, .inr (0, [.int f0, .int f1, .long f2, .int f3, .int f4, .int f5, .int f6, .int f7, .int f8, .int f9, .int f10, .int f11]))]) hD hS hA [6] rfl
        refine vp_callSl (va_Run.run (va_runV (As := []) (rest := [])  ⟨hx, hb, hml, hown, hts⟩ (c_Cell_chargeNow l D h1 f0 f1 f2 f3 f4 f5 f6 f7 f8 f9 f10 f11 s.heap.size ) ⟨callB_of 0 hts cg_Cell_chargeNow rfl rfl rfl (hts _ cw_11) (hts _ cw_493) (by decide +kernel) ⟨Nat.le_of_ble_eq_true rfl, Nat.le_of_ble_eq_true rfl⟩, hts _ cw_303, hts _ cw_304⟩ (cx_preV (C := R_Cell) [] hPc hKc hDc hN hO hS hFc (ci := 0) (q0 := 0) rfl rfl rfl) rfl rfl hl.1 rfl (lv_room (Nat.le_of_ble_eq_true rfl)) d_Set_holds_27 ⟨Nat.le_of_ble_eq_true rfl, Nat.le_of_ble_eq_true rfl⟩)) (fun r z_9 => ?_)
        subst z_9
        refine lv_aload_n hx hb d_Set_holds_30 rfl (lv_at hl 0 rfl) ?_
        refine va_get (D := D) (ci := 3) (v := .ref a3) (C := R_Set) (T := T_Set) (N := 7) hx hb hts in_Set hown hK hP 0 rfl rfl 4 (by decide) (hts _ cw_64) (fun _ h9 => h9) rfl d_Set_holds_31 ?_
        refine lv_iload_n hx hb d_Set_holds_34 rfl (lv_at hl 2 rfl) ?_
        refine va_iald hx hb hK hP 4 3 rfl rfl (cx_ixl (n := 100) (by decide) c_1 c_2) d_Set_holds_35 ?_
        refine lv_i2l hx hb d_Set_holds_36 rfl ?_
        refine lv_aload_n hx hb d_Set_holds_37 rfl (lv_at hl 0 rfl) ?_
        refine va_get (D := D) (ci := 3) (v := .ref a4) (C := R_Set) (T := T_Set) (N := 7) hx hb hts in_Set hown hK hP 0 rfl rfl 5 (by decide) (hts _ cw_65) (fun _ h9 => h9) rfl d_Set_holds_38 ?_
        refine lv_iload_n hx hb d_Set_holds_41 rfl (lv_at hl 2 rfl) ?_
        refine va_iald hx hb hK hP 5 4 rfl rfl (cx_ixl (n := 100) (by decide) c_1 c_2) d_Set_holds_42 ?_
        refine lv_i2l hx hb d_Set_holds_43 rfl ?_
        have hPc := hP.sub (ws' := []) [] rfl
        have hDc := hD.sub (ws' := []) [] (by decide) rfl
        have hKc := hK.sub (tys' := []) [] rfl
        have hFc := va_free (wc := []) hD hS hA [] rfl
        refine vp_callSi (va_Run.run (va_runSN (As := [.long (m_floorDiv f2 3600), .long ((g3 p0.toNatClampNeg).toInt64), .long ((g4 p0.toNatClampNeg).toInt64)]) (rest := [])  ⟨hx, hb, hml, hown, hts⟩ (c_Ct_isWithin l D (m_floorDiv f2 3600) ((g3 p0.toNatClampNeg).toInt64) ((g4 p0.toNatClampNeg).toInt64) s.heap.size ) ⟨va_cnB 3 hts cg_Ct_isWithin rfl rfl rfl (hN _ cn_494) (hts _ cw_1) (by decide +kernel) ⟨Nat.le_of_ble_eq_true rfl, Nat.le_of_ble_eq_true rfl⟩, hts _ cw_268, trivial⟩ (cx_preS [.long (m_floorDiv f2 3600), .long ((g3 p0.toNatClampNeg).toInt64), .long ((g4 p0.toNatClampNeg).toInt64)] hPc hKc hDc hN hO hS hFc) rfl rfl hl.1 rfl (lv_room (Nat.le_of_ble_eq_true rfl)) d_Set_holds_44 ⟨Nat.le_of_ble_eq_true rfl, Nat.le_of_ble_eq_true rfl⟩)) (fun r z_10 => ?_)
        subst z_10
        exact W.zret (v := m_in (m_floorDiv f2 3600) ((g3 p0.toNatClampNeg).toInt64) ((g4 p0.toNatClampNeg).toInt64)) hx hb hr (m_in_nar _ _ _) (fun t ht hW => ⟨_, rfl, by simp [m_holds, eq_false c_1, eq_true c_2, eq_true c_3], ht⟩) (fun q h => by cases h) d_Set_holds_47
    · refine lv_iconst (v := 0) hx hb d_Set_holds_13 (by decide) ?_
      exact W.zret (v := 0) hx hb hr (rfl) (fun t ht hW => ⟨_, rfl, by simp [m_holds, eq_false c_1, eq_false c_2], ht⟩) (fun q h => by cases h) d_Set_holds_14

set_option maxHeartbeats 4000000 in
set_option maxRecDepth 100000 in
/-- RuleSet.allHold -/
theorem c_Set_allHold (l : Launch) (D : va_G)  (h0 : Nat) (a0 : Nat) (a1 : Nat) (a2 : Nat) (a3 : Nat) (a4 : Nat) (k0 : ClassId) (k1 : ClassId) (k2 : ClassId) (k3 : ClassId) (k4 : ClassId) (g0 : Nat → Int32) (g1 : Nat → Int32) (g2 : Nat → Int32) (g3 : Nat → Int32) (g4 : Nat → Int32) (sn : Int32) (cl : Int32) (h1 : Nat) (f0 : Int32) (f1 : Int32) (f2 : Int64) (f3 : Int32) (f4 : Int32) (f5 : Int32) (f6 : Int32) (f7 : Int32) (f8 : Int32) (f9 : Int32) (f10 : Int32) (f11 : Int32) (p0 : Int32) (p1 : Int32) (sz : Nat)  : Met l y_Set_allHold ws_Set_allHold ({ frames := 3, cells := 0, slots := 0, locals := 67 }) (va_Pc [.ref h0, .ref h1, .int p0, .int p1] (cx_pre D [(k0, .int), (k1, .int), (k2, .char), (k3, .int), (k4, .int)] ([(h0, .inr (3, [.ref a0, .ref a1, .int sn, .ref a2, .ref a3, .ref a4, .int cl])), (a0, .inl (k0, 20, .inl g0)), (a1, .inl (k1, 20, .inl g1)), (a2, .inl (k2, 100, .inl g2)), (a3, .inl (k3, 100, .inl g3)), (a4, .inl (k4, 100, .inl g4)), (h1, .inr (0, [.int f0, .int f1, .long f2, .int f3, .int f4, .int f5, .int f6, .int f7, .int f8, .int f9, .int f10, .int f11]))]) sz)) (vp_Si (fun r9 => r9 = m_allHold f2 f5 f6 f11 g2 g3 g4 p1 ((p1.toInt - p0.toInt).toNat + 1) p0)) 0 0 (fun _ => False) := by
  refine Met.ofW (cc := b_Set_allHold) (maxL := 5) (ret := (some .boolean)) (by decide) rfl ?_
  intro p e s m args below meth c s₁ B hml hv
  obtain ⟨rfl, hsz, hP, hK, hD0, hN, hO⟩ := hv
  have hx := B.exec
  have hb := B.bytes
  have hr := B.returns
  have hts := fun (w : Cond) (h : w ∈ cx_tbl) => atoms_spec (ws := ws_Set_allHold) B.pre w (List.mem_cons_of_mem _ h)
  have hown : s.vm.findClass R_Set = some m.cls := findClass_of_methodNamed B.named
  have hlocks := B.notSynchronized
  subst hsz
  have hD := hD0.self (sz := s.heap.size)
  generalize hAe : va_A ([(h0, .inr (3, [.ref a0, .ref a1, .int sn, .ref a2, .ref a3, .ref a4, .int cl])), (a0, .inl (k0, 20, .inl g0)), (a1, .inl (k1, 20, .inl g1)), (a2, .inl (k2, 100, .inl g2)), (a3, .inl (k3, 100, .inl g3)), (a4, .inl (k4, 100, .inl g4)), (h1, .inr (0, [.int f0, .int f1, .long f2, .int f3, .int f4, .int f5, .int f6, .int f7, .int f8, .int f9, .int f10, .int f11]))]) s.heap.size = A at hD hO
  have hA : ∀ q : Nat, s.heap.size ≤ q → A q := fun q h => by rw [← hAe]; exact Or.inr h
  have hS : va_S A s.heap s.heap [] := va_S.rf
  have hl := lv_entry ([.ref h0, .ref h1, .int p0, .int p1]) (n := 5) (Nat.le_of_ble_eq_true rfl)
  rw [lg_entry_eq]
  generalize (lg_sl ([.ref h0, .ref h1, .int p0, .int p1]) ++ List.replicate (5 - (lg_sl ([.ref h0, .ref h1, .int p0, .int p1])).length) Slot.unset).toArray = ls at hl ⊢
  have hl : lv_has ls 5 [(0, .ref h0), (1, .ref h1), (2, .int p0), (3, .int p1)] := hl
  refine cx_q (fun Q hQ => ?_)
  refine lv_iload_n hx hb d_Set_allHold_0 rfl (lv_at hl 2 rfl) ?_
  refine lv_istore (lv' := [(4, .int p0), (0, .ref h0), (1, .ref h1), (2, .int p0), (3, .int p1)]) hx hb d_Set_allHold_1 hl (by decide) rfl (fun ls hl => ?_)
  have loop_1 : ∀ (n : Nat) (x : Int32) (hn : (p1.toInt - x.toInt).toNat < n) (hg : m_allHold f2 f5 f6 f11 g2 g3 g4 p1 ((p1.toInt - p0.toInt).toNat + 1) p0 = m_allHold f2 f5 f6 f11 g2 g3 g4 p1 n x) (ls : Array Slot) (hl : lv_has ls 5 [(0, .ref h0), (1, .ref h1), (2, .int p0), (3, .int p1), (4, .int x)]), W p l e ({ frames := 3, cells := 0, slots := 0, locals := 67 }) s m [.ref h0, .ref h1, .int p0, .int p1].toArray below meth c s.heap [] 0 0 Q (F0 m 3 ls []) := by
    intro n
    induction n with
    | zero =>
      intro x hn hg ls hl
      exact absurd hn (Nat.not_lt_zero _)
    | succ n ih_3 =>
      intro x hn hg ls hl
      refine lv_iload hx hb d_Set_allHold_3 (lv_at hl 4 rfl) ?_
      refine lv_iload_n hx hb d_Set_allHold_5 rfl (lv_at hl 3 rfl) ?_
      refine lv_icmp_ge (tgt := 27) hx hb d_Set_allHold_6 (by decide) (fun c_2 => ?_) (fun c_2 => ?_)
      · refine lv_iconst (v := 1) hx hb d_Set_allHold_27 (by decide) ?_
        subst hQ
        exact W.zret (v := 1) hx hb hr (rfl) (fun t ht hW => ⟨_, rfl, (hg.trans (by rw [m_allHold]; simp [eq_true c_2])).symm, ht⟩) (fun q h => by cases h) d_Set_allHold_28
      · refine lv_aload_n hx hb d_Set_allHold_9 rfl (lv_at hl 0 rfl) ?_
        refine lv_aload_n hx hb d_Set_allHold_10 rfl (lv_at hl 1 rfl) ?_
        refine lv_iload hx hb d_Set_allHold_11 (lv_at hl 4 rfl) ?_
        have hPc := hP.sub (ws' := [(h0, .inr (3, [.ref a0, .ref a1, .int sn, .ref a2, .ref a3, .ref a4, .int cl])), (a0, .inl (k0, 20, .inl g0)), (a1, .inl (k1, 20, .inl g1)), (a2, .inl (k2, 100, .inl g2)), (a3, .inl (k3, 100, .inl g3)), (a4, .inl (k4, 100, .inl g4)), (h1, .inr (0, [.int f0, .int f1, .long f2, .int f3, .int f4, .int f5, .int f6, .int f7, .int f8, .int f9, .int f10, .int f11]))]) [0, 1, 2, 3, 4, 5, 6] rfl
        have hDc := hD.sub (ws' := [(h0, .inr (3, [.ref a0, .ref a1, .int sn, .ref a2, .ref a3, .ref a4, .int cl])), (a0, .inl (k0, 20, .inl g0)), (a1, .inl (k1, 20, .inl g1)), (a2, .inl (k2, 100, .inl g2)), (a3, .inl (k3, 100, .inl g3)), (a4, .inl (k4, 100, .inl g4)), (h1, .inr (0, [.int f0, .int f1, .long f2, .int f3, .int f4, .int f5, .int f6, .int f7, .int f8, .int f9, .int f10, .int f11]))]) [0, 1, 2, 3, 4, 5, 6] (by decide) rfl
        have hKc := hK.sub (tys' := [(k0, .int), (k1, .int), (k2, .char), (k3, .int), (k4, .int)]) [0, 1, 2, 3, 4] rfl
        have hFc := va_free (wc := [(h0, .inr (3, [.ref a0, .ref a1, .int sn, .ref a2, .ref a3, .ref a4, .int cl])), (a0, .inl (k0, 20, .inl g0)), (a1, .inl (k1, 20, .inl g1)), (a2, .inl (k2, 100, .inl g2)), (a3, .inl (k3, 100, .inl g3)), (a4, .inl (k4, 100, .inl g4)), (h1, .inr (0, [.int f0, .int f1, .long f2, .int f3, .int f4, .int f5, .int f6, .int f7, .int f8, .int f9, .int f10, .int f11]))]) hD hS hA [0, 1, 2, 3, 4, 5, 6] rfl
        refine vp_callSi (va_Run.run (va_runV (As := [.ref h1, .int x]) (rest := [])  ⟨hx, hb, hml, hown, hts⟩ (c_Set_holds l D h0 a0 a1 a2 a3 a4 k0 k1 k2 k3 k4 g0 g1 g2 g3 g4 sn cl h1 f0 f1 f2 f3 f4 f5 f6 f7 f8 f9 f10 f11 x s.heap.size ) ⟨callB_of 2 hts cg_Set_holds rfl rfl rfl (hts _ cw_3) (hts _ cw_489) (by decide +kernel) ⟨Nat.le_of_ble_eq_true rfl, Nat.le_of_ble_eq_true rfl⟩, hts _ cw_491, hts _ cs_12⟩ (cx_preV (C := R_Set) [.ref h1, .int x] hPc hKc hDc hN hO hS hFc (ci := 3) (q0 := 0) rfl rfl rfl) rfl rfl hl.1 rfl (lv_room (Nat.le_of_ble_eq_true rfl)) d_Set_allHold_13 ⟨Nat.le_of_ble_eq_true rfl, Nat.le_of_ble_eq_true rfl⟩)) (fun r z_3 => ?_)
        subst z_3
        refine lv_if_ne (tgt := 21) hx hb d_Set_allHold_16 (by decide) (fun c_4 => ?_) (fun c_4 => ?_)
        · refine lv_iinc (v := x + 1) (lv' := [(4, .int (x + 1)), (0, .ref h0), (1, .ref h1), (2, .int p0), (3, .int p1)]) hx hb d_Set_allHold_21 hl (k := 4) rfl (rfl) (by decide) rfl (fun ls hl => ?_)
          refine lv_goto (tgt := 3) hx hb d_Set_allHold_24 (by decide) ?_
          exact ih_3 (x + 1) (ix_up hn c_2) (hg.trans (by rw [m_allHold]; simp [eq_false c_2, eq_false c_4])) ls (lv_sub hl [1, 2, 3, 4, 0] rfl)
        · refine lv_iconst (v := 0) hx hb d_Set_allHold_19 (by decide) ?_
          subst hQ
          exact W.zret (v := 0) hx hb hr (rfl) (fun t ht hW => ⟨_, rfl, (hg.trans (by rw [m_allHold]; simp [eq_false c_2, eq_true c_4])).symm, ht⟩) (fun q h => by cases h) d_Set_allHold_20
  exact loop_1 ((p1.toInt - p0.toInt).toNat + 1) p0 (by omega) (rfl) ls (lv_sub hl [1, 2, 3, 4, 0] rfl)

set_option maxHeartbeats 4000000 in
set_option maxRecDepth 100000 in
/-- RuleSet.firstThatHolds -/
theorem c_Set_firstThatHolds (l : Launch) (D : va_G)  (h0 : Nat) (a0 : Nat) (a1 : Nat) (a2 : Nat) (a3 : Nat) (a4 : Nat) (k0 : ClassId) (k1 : ClassId) (k2 : ClassId) (k3 : ClassId) (k4 : ClassId) (g0 : Nat → Int32) (g1 : Nat → Int32) (g2 : Nat → Int32) (g3 : Nat → Int32) (g4 : Nat → Int32) (sn : Int32) (cl : Int32) (h1 : Nat) (f0 : Int32) (f1 : Int32) (f2 : Int64) (f3 : Int32) (f4 : Int32) (f5 : Int32) (f6 : Int32) (f7 : Int32) (f8 : Int32) (f9 : Int32) (f10 : Int32) (f11 : Int32) (sz : Nat)  : Met l y_Set_firstThatHolds ws_Set_firstThatHolds ({ frames := 4, cells := 0, slots := 0, locals := 91 }) (va_Pc [.ref h0, .ref h1] (cx_pre D [(k0, .int), (k1, .int), (k2, .char), (k3, .int), (k4, .int)] ([(h0, .inr (3, [.ref a0, .ref a1, .int sn, .ref a2, .ref a3, .ref a4, .int cl])), (a0, .inl (k0, 20, .inl g0)), (a1, .inl (k1, 20, .inl g1)), (a2, .inl (k2, 100, .inl g2)), (a3, .inl (k3, 100, .inl g3)), (a4, .inl (k4, 100, .inl g4)), (h1, .inr (0, [.int f0, .int f1, .long f2, .int f3, .int f4, .int f5, .int f6, .int f7, .int f8, .int f9, .int f10, .int f11]))]) sz)) (vp_Si (fun r9 => r9 = m_first f2 f5 f6 f11 g0 g1 g2 g3 g4 sn 21 0 0)) 0 0 (fun _ => False) := by
  refine Met.ofW (cc := b_Set_firstThatHolds) (maxL := 5) (ret := (some .int)) (by decide) rfl ?_
  intro p e s m args below meth c s₁ B hml hv
  obtain ⟨rfl, hsz, hP, hK, hD0, hN, hO⟩ := hv
  have hx := B.exec
  have hb := B.bytes
  have hr := B.returns
  have hts := fun (w : Cond) (h : w ∈ cx_tbl) => atoms_spec (ws := ws_Set_firstThatHolds) B.pre w (List.mem_cons_of_mem _ h)
  have hown : s.vm.findClass R_Set = some m.cls := findClass_of_methodNamed B.named
  have hlocks := B.notSynchronized
  subst hsz
  have hD := hD0.self (sz := s.heap.size)
  generalize hAe : va_A ([(h0, .inr (3, [.ref a0, .ref a1, .int sn, .ref a2, .ref a3, .ref a4, .int cl])), (a0, .inl (k0, 20, .inl g0)), (a1, .inl (k1, 20, .inl g1)), (a2, .inl (k2, 100, .inl g2)), (a3, .inl (k3, 100, .inl g3)), (a4, .inl (k4, 100, .inl g4)), (h1, .inr (0, [.int f0, .int f1, .long f2, .int f3, .int f4, .int f5, .int f6, .int f7, .int f8, .int f9, .int f10, .int f11]))]) s.heap.size = A at hD hO
  have hA : ∀ q : Nat, s.heap.size ≤ q → A q := fun q h => by rw [← hAe]; exact Or.inr h
  have hS : va_S A s.heap s.heap [] := va_S.rf
  have hl := lv_entry ([.ref h0, .ref h1]) (n := 5) (Nat.le_of_ble_eq_true rfl)
  rw [lg_entry_eq]
  generalize (lg_sl ([.ref h0, .ref h1]) ++ List.replicate (5 - (lg_sl ([.ref h0, .ref h1])).length) Slot.unset).toArray = ls at hl ⊢
  have hl : lv_has ls 5 [(0, .ref h0), (1, .ref h1)] := hl
  refine cx_q (fun Q hQ => ?_)
  refine lv_iconst (v := 0) hx hb d_Set_firstThatHolds_0 (by decide) ?_
  refine lv_istore_n (lv' := [(2, .int 0), (0, .ref h0), (1, .ref h1)]) hx hb d_Set_firstThatHolds_1 rfl hl (by decide) rfl (fun ls hl => ?_)
  refine lv_iconst (v := 0) hx hb d_Set_firstThatHolds_2 (by decide) ?_
  refine lv_istore_n (lv' := [(3, .int 0), (2, .int 0), (0, .ref h0), (1, .ref h1)]) hx hb d_Set_firstThatHolds_3 rfl hl (by decide) rfl (fun ls hl => ?_)
  have loop_1 : ∀ (n : Nat) (i : Nat) (frm : Int32) (hi : i ≤ 20) (hn : i + n = 20 + 1) (hg : m_first f2 f5 f6 f11 g0 g1 g2 g3 g4 sn 21 0 0 = m_first f2 f5 f6 f11 g0 g1 g2 g3 g4 sn n i frm) (ls : Array Slot) (hl : lv_has ls 5 [(0, .ref h0), (1, .ref h1), (2, .int frm), (3, .int (nI i))]), W p l e ({ frames := 4, cells := 0, slots := 0, locals := 91 }) s m [.ref h0, .ref h1].toArray below meth c s.heap [] 0 0 Q (F0 m 4 ls []) := by
    intro n
    induction n with
    | zero =>
      intro i frm hi hn hg ls hl
      exact absurd hn (by omega)
    | succ n ih_4 =>
      intro i frm hi hn hg ls hl
      refine lv_iload_n hx hb d_Set_firstThatHolds_4 rfl (lv_at hl 3 rfl) ?_
      refine lv_aload_n hx hb d_Set_firstThatHolds_5 rfl (lv_at hl 0 rfl) ?_
      refine va_get (D := D) (ci := 3) (v := .int sn) (C := R_Set) (T := T_Set) (N := 7) hx hb hts in_Set hown hK hP 0 rfl rfl 2 (by decide) (hts _ cw_61) (fun _ h9 => h9) rfl d_Set_firstThatHolds_6 ?_
      refine lv_icmp_ge (tgt := 56) hx hb d_Set_firstThatHolds_9 (by decide) (fun c_2 => ?_) (fun c_2 => ?_)
      · refine lv_bipush (v := 99) hx hb d_Set_firstThatHolds_56 (by decide) ?_
        subst hQ
        exact W.iret (v := 99) hx hb hr (fun t ht hW => ⟨_, rfl, (hg.trans (by rw [m_first]; simp [eq_true c_2])).symm, ht⟩) (fun q h => by cases h) d_Set_firstThatHolds_58
      · refine lv_iload_n hx hb d_Set_firstThatHolds_12 rfl (lv_at hl 3 rfl) ?_
        refine lv_aload_n hx hb d_Set_firstThatHolds_13 rfl (lv_at hl 0 rfl) ?_
        refine va_get (D := D) (ci := 3) (v := .ref a0) (C := R_Set) (T := T_Set) (N := 7) hx hb hts in_Set hown hK hP 0 rfl rfl 0 (by decide) (hts _ cw_59) (fun _ h9 => h9) rfl d_Set_firstThatHolds_14 ?_
        refine va_alen (v := 20) hx hb hK hP 1 0 rfl rfl rfl d_Set_firstThatHolds_17 ?_
        refine lv_icmp_ge (tgt := 56) hx hb d_Set_firstThatHolds_18 (by decide) (fun c_3 => ?_) (fun c_3 => ?_)
        · refine lv_bipush (v := 99) hx hb d_Set_firstThatHolds_56 (by decide) ?_
          subst hQ
          exact W.iret (v := 99) hx hb hr (fun t ht hW => ⟨_, rfl, (hg.trans (by rw [m_first]; simp [eq_false c_2, eq_true c_3])).symm, ht⟩) (fun q h => by cases h) d_Set_firstThatHolds_58
        · refine lv_aload_n hx hb d_Set_firstThatHolds_21 rfl (lv_at hl 0 rfl) ?_
          refine va_get (D := D) (ci := 3) (v := .ref a1) (C := R_Set) (T := T_Set) (N := 7) hx hb hts in_Set hown hK hP 0 rfl rfl 1 (by decide) (hts _ cw_60) (fun _ h9 => h9) rfl d_Set_firstThatHolds_22 ?_
          refine lv_iload_n hx hb d_Set_firstThatHolds_25 rfl (lv_at hl 3 rfl) ?_
          refine va_iald hx hb hK hP 2 1 rfl rfl (vp_in_nI (ix_nge (k := 20) c_3) (by decide)) d_Set_firstThatHolds_26 ?_
          refine lv_istore (lv' := [(4, .int (g1 ((nI i).toNatClampNeg))), (0, .ref h0), (1, .ref h1), (2, .int frm), (3, .int (nI i))]) hx hb d_Set_firstThatHolds_27 hl (by decide) rfl (fun ls hl => ?_)
          refine lv_aload_n hx hb d_Set_firstThatHolds_29 rfl (lv_at hl 1 rfl) ?_
          refine lv_aload_n hx hb d_Set_firstThatHolds_30 rfl (lv_at hl 2 rfl) ?_
          refine lv_iload_n hx hb d_Set_firstThatHolds_31 rfl (lv_at hl 3 rfl) ?_
          refine lv_iload hx hb d_Set_firstThatHolds_32 (lv_at hl 0 rfl) ?_
          have hPc := hP.sub (ws' := [(h0, .inr (3, [.ref a0, .ref a1, .int sn, .ref a2, .ref a3, .ref a4, .int cl])), (a0, .inl (k0, 20, .inl g0)), (a1, .inl (k1, 20, .inl g1)), (a2, .inl (k2, 100, .inl g2)), (a3, .inl (k3, 100, .inl g3)), (a4, .inl (k4, 100, .inl g4)), (h1, .inr (0, [.int f0, .int f1, .long f2, .int f3, .int f4, .int f5, .int f6, .int f7, .int f8, .int f9, .int f10, .int f11]))]) [0, 1, 2, 3, 4, 5, 6] rfl
          have hDc := hD.sub (ws' := [(h0, .inr (3, [.ref a0, .ref a1, .int sn, .ref a2, .ref a3, .ref a4, .int cl])), (a0, .inl (k0, 20, .inl g0)), (a1, .inl (k1, 20, .inl g1)), (a2, .inl (k2, 100, .inl g2)), (a3, .inl (k3, 100, .inl g3)), (a4, .inl (k4, 100, .inl g4)), (h1, .inr (0, [.int f0, .int f1, .long f2, .int f3, .int f4, .int f5, .int f6, .int f7, .int f8, .int f9, .int f10, .int f11]))]) [0, 1, 2, 3, 4, 5, 6] (by decide) rfl
          have hKc := hK.sub (tys' := [(k0, .int), (k1, .int), (k2, .char), (k3, .int), (k4, .int)]) [0, 1, 2, 3, 4] rfl
          have hFc := va_free (wc := [(h0, .inr (3, [.ref a0, .ref a1, .int sn, .ref a2, .ref a3, .ref a4, .int cl])), (a0, .inl (k0, 20, .inl g0)), (a1, .inl (k1, 20, .inl g1)), (a2, .inl (k2, 100, .inl g2)), (a3, .inl (k3, 100, .inl g3)), (a4, .inl (k4, 100, .inl g4)), (h1, .inr (0, [.int f0, .int f1, .long f2, .int f3, .int f4, .int f5, .int f6, .int f7, .int f8, .int f9, .int f10, .int f11]))]) hD hS hA [0, 1, 2, 3, 4, 5, 6] rfl
          refine vp_callSi (va_Run.run (va_runV (As := [.ref h1, .int frm, .int (g1 ((nI i).toNatClampNeg))]) (rest := [])  ⟨hx, hb, hml, hown, hts⟩ (c_Set_allHold l D h0 a0 a1 a2 a3 a4 k0 k1 k2 k3 k4 g0 g1 g2 g3 g4 sn cl h1 f0 f1 f2 f3 f4 f5 f6 f7 f8 f9 f10 f11 frm (g1 ((nI i).toNatClampNeg)) s.heap.size ) ⟨callB_of 3 hts cg_Set_allHold rfl rfl rfl (hts _ cw_3) (hts _ cw_485) (by decide +kernel) ⟨Nat.le_of_ble_eq_true rfl, Nat.le_of_ble_eq_true rfl⟩, hts _ cw_487, hts _ cs_11⟩ (cx_preV (C := R_Set) [.ref h1, .int frm, .int (g1 ((nI i).toNatClampNeg))] hPc hKc hDc hN hO hS hFc (ci := 3) (q0 := 0) rfl rfl rfl) rfl rfl hl.1 rfl (lv_room (Nat.le_of_ble_eq_true rfl)) d_Set_firstThatHolds_34 ⟨Nat.le_of_ble_eq_true rfl, Nat.le_of_ble_eq_true rfl⟩)) (fun r z_4 => ?_)
          subst z_4
          refine lv_if_eq (tgt := 47) hx hb d_Set_firstThatHolds_37 (by decide) (fun c_5 => ?_) (fun c_5 => ?_)
          · refine lv_iload hx hb d_Set_firstThatHolds_47 (lv_at hl 0 rfl) ?_
            refine lv_istore_n (lv' := [(2, .int (g1 ((nI i).toNatClampNeg))), (4, .int (g1 ((nI i).toNatClampNeg))), (0, .ref h0), (1, .ref h1), (3, .int (nI i))]) hx hb d_Set_firstThatHolds_49 rfl hl (by decide) rfl (fun ls hl => ?_)
            refine lv_iinc (v := nI (i + 1)) (lv' := [(3, .int (nI (i + 1))), (2, .int (g1 ((nI i).toNatClampNeg))), (4, .int (g1 ((nI i).toNatClampNeg))), (0, .ref h0), (1, .ref h1)]) hx hb d_Set_firstThatHolds_50 hl (k := 4) rfl (nI_1 i) (by decide) rfl (fun ls hl => ?_)
            refine lv_goto (tgt := 4) hx hb d_Set_firstThatHolds_53 (by decide) ?_
            exact ih_4 (i + 1) (g1 ((nI i).toNatClampNeg)) (ix_nge (k := 20) c_3) (by omega) (hg.trans (by rw [m_first]; simp [eq_false c_2, eq_false c_3, eq_true c_5])) ls (lv_sub hl [3, 4, 1, 0] rfl)
          · refine lv_aload_n hx hb d_Set_firstThatHolds_40 rfl (lv_at hl 1 rfl) ?_
            refine va_get (D := D) (ci := 3) (v := .ref a0) (C := R_Set) (T := T_Set) (N := 7) hx hb hts in_Set hown hK hP 0 rfl rfl 0 (by decide) (hts _ cw_59) (fun _ h9 => h9) rfl d_Set_firstThatHolds_41 ?_
            refine lv_iload_n hx hb d_Set_firstThatHolds_44 rfl (lv_at hl 4 rfl) ?_
            refine va_iald hx hb hK hP 1 0 rfl rfl (vp_in_nI (ix_nge (k := 20) c_3) (by decide)) d_Set_firstThatHolds_45 ?_
            subst hQ
            exact W.iret (v := g0 ((nI i).toNatClampNeg)) hx hb hr (fun t ht hW => ⟨_, rfl, (hg.trans (by rw [m_first]; simp [eq_false c_2, eq_false c_3, eq_false c_5])).symm, ht⟩) (fun q h => by cases h) d_Set_firstThatHolds_46
  exact loop_1 (20 + 1) 0 0 (by omega) (by omega) (rfl) ls (lv_sub hl [2, 3, 1, 0] rfl)
