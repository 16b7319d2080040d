-- the class's face, as functions
def m_cellOf (cnt : Int32) (fc : Nat → Option Nat) (p0 : Int32) : Option Nat := if p0 < 0 ∨ cnt ≤ p0 ∨ ¬ p0 < 8 then none else fc p0.toNatClampNeg
def m_span (slo shi p0 p1 : Int32) : Int32 × Int32 × Int32 := if p0 < 0 ∨ 1000000 < p1 ∨ ¬ p0 ≤ p1 then (0, slo, shi) else (1, p0, p1)
def m_warm (slo shi f0 p1 : Int32) : Int32 × Int32 := if m_in p1.toInt64 0 1000000 = 0 then (0, f0) else (m_in p1.toInt64 slo.toInt64 shi.toInt64, p1)
def m_step (f0 f1 : Int32) (f2 : Int64) (f3 f4 f5 f6 f7 f8 f9 f10 f11 slo shi p1 p2 p3 : Int32) : Int32 × CeT :=
  if m_in f0.toInt64 slo.toInt64 shi.toInt64 = 0 then (0, f0, f1, f2, f3, f4, f5, f6, f7, f8, f9, f10, f11)
  else (if (m_addStep f0 f1 f2 f3 f4 f5 f6 f7 f8 f9 f10 f11 p1 p2 p3).1 = 0 then 0 else 1, (m_addStep f0 f1 f2 f3 f4 f5 f6 f7 f8 f9 f10 f11 p1 p2 p3).2)
def m_rest (f0 f1 : Int32) (f2 : Int64) (f3 f4 f5 f6 f7 f8 f9 f10 f11 p1 p2 : Int32) : Int32 × CeT :=
  (if (m_addRest f0 f1 f2 f3 f4 f5 f6 f7 f8 f9 f10 f11 p1 p2).1 = 0 then 0 else 1, (m_addRest f0 f1 f2 f3 f4 f5 f6 f7 f8 f9 f10 f11 p1 p2).2)
def m_cres (f5 f6 p1 : Int32) : Int32 := if m_hasRes f6 = 0 then -1 else m_partOf f5 f6 p1
def m_closs (f7 f8 f9 f10 f11 p1 : Int32) : Int32 := if m_hasLoss f7 = 0 then -1 else m_partOf (m_max 0 (f9 - f11)) (f10 - f8) p1
def m_cuns (f1 f4 f7 f11 : Int32) : Int32 := if m_uns f1 f4 f7 f11 = 0 then 0 else 1
def m_cmay (f1 f4 f7 f11 p1 : Int32) : Int32 := if m_in p1.toInt64 0 4 = 0 then 0 else if m_uns f1 f4 f7 f11 = 0 then (if m_open f1 f7 = 0 then (if p1 = 4 then 0 else 1) else (if p1 = 0 ∨ p1 = 4 then 1 else 0)) else (if p1 = 3 ∨ p1 = 4 then 1 else 0)
def m_class (f1 f7 : Int32) (f2 : Int64) (f5 f6 f11 : Int32) (g0 g1 g2 g3 g4 : Nat → Int32) (sn : Int32) : Int32 := if m_open f1 f7 = 0 then m_first f2 f5 f6 f11 g0 g1 g2 g3 g4 sn 21 0 0 else -1
def m_cfade (f2 : Int64) (g0 g1 : Nat → Int32) (fcn p1 : Int32) : Int64 := if m_in p1.toInt64 0 10000 = 0 then (-9223372036854775808) else m_leftOf g0 g1 fcn p1 7 0 (m_floorDiv f2 3600)
def m_unit (bt : Nat → Int32) (len p0 : Int32) : Int32 × (Nat → Int32) × Int32 := if m_in p0.toInt64 0 255 = 0 then (0, bt, len) else (if (m_textAdd bt len (p0.toUInt32 % 65536).toInt32).1 = 0 then 0 else 1, (m_textAdd bt len (p0.toUInt32 % 65536).toInt32).2)
theorem m_fadeAdd_z {g0 g1 : Nat → Int32} {cnt p0 p1 : Int32} : (m_fadeAdd g0 g1 cnt p0 p1).1 = 0 ∨ (m_fadeAdd g0 g1 cnt p0 p1).1 = 1 := by
  unfold m_fadeAdd; split <;> simp
set_option maxHeartbeats 4000000 in
set_option maxRecDepth 100000 in
theorem c_Ct_cellOf (l : Launch) (D : va_G)  (h0 : Nat) (qa : Nat) (cnt : Int32) (slo : Int32) (shi : Int32) (qt : Nat) (qs : Nat) (qp : Nat) (qk : Nat) (qf : Nat) (ql : Nat) (kq : ClassId) (fc : Nat → Option Nat) (p0 : Int32) (sz : Nat)  : Met l y_Ct_cellOf ws_Ct_cellOf ({ frames := 0, cells := 0, slots := 0, locals := 0 }) (va_Pc [.ref h0, .int p0] (cx_pre D [(kq, .object "CellTests$Cell")] ([(h0, .inr (5, [.ref qa, .int cnt, .int slo, .int shi, .ref qt, .ref qs, .ref qp, .ref qk, .ref qf, .ref ql])), (qa, .inl (kq, 8, .inr (.inr (.inr (.inr fc)))))]) sz)) (va_Sq (fun r9 => r9 = m_cellOf cnt fc p0)) 0 0 (fun _ => False) := by
  refine Met.ofW (cc := b_Ct_cellOf) (maxL := 2) (ret := (some (.object "CellTests$Cell"))) (by decide) rfl ?_
  intro p e s m args below meth c s₁ B hml hv
  obtain ⟨rfl, hsz, hP, hK, hD0, hN, hO⟩ := hv
  have hx := B.exec
  have hb := B.bytes
  have hr := B.returns
  have hts := fun (w : Cond) (h : w ∈ cx_tbl) => atoms_spec (ws := ws_Ct_cellOf) B.pre w (List.mem_cons_of_mem _ h)
  have hown : s.vm.findClass R_Ct = some m.cls := findClass_of_methodNamed B.named
  have hlocks := B.notSynchronized
  subst hsz
  have hD := hD0.self (sz := s.heap.size)
  generalize hAe : va_A ([(h0, .inr (5, [.ref qa, .int cnt, .int slo, .int shi, .ref qt, .ref qs, .ref qp, .ref qk, .ref qf, .ref ql])), (qa, .inl (kq, 8, .inr (.inr (.inr (.inr fc)))))]) s.heap.size = A at hD hO
  have hA : ∀ q : Nat, s.heap.size ≤ q → A q := fun q h => by rw [← hAe]; exact Or.inr h
  have hS : va_S A s.heap s.heap [] := va_S.rf
  have hl := lv_entry ([.ref h0, .int p0]) (n := 2) (Nat.le_of_ble_eq_true rfl)
  rw [lg_entry_eq]
  generalize (lg_sl ([.ref h0, .int p0]) ++ List.replicate (2 - (lg_sl ([.ref h0, .int p0])).length) Slot.unset).toArray = ls at hl ⊢
  have hl : lv_has ls 2 [(0, .ref h0), (1, .int p0)] := hl
  refine lv_iload_n hx hb d_Ct_cellOf_0 rfl (lv_at hl 1 rfl) ?_
  refine lv_if_lt (tgt := 21) hx hb d_Ct_cellOf_1 (by decide) (fun c_1 => ?_) (fun c_1 => ?_)
  · refine lv_null hx hb d_Ct_cellOf_21 ?_
    exact W.aret (v := .null) hx hb hr (Or.inl ⟨_, rfl⟩) (Or.inl rfl) (fun t ht hW => ⟨none, rfl, by simp [m_cellOf, eq_true c_1], ht⟩) (fun q h => by cases h) d_Ct_cellOf_22
  · refine lv_iload_n hx hb d_Ct_cellOf_4 rfl (lv_at hl 1 rfl) ?_
    refine lv_aload_n hx hb d_Ct_cellOf_5 rfl (lv_at hl 0 rfl) ?_
    refine va_get (D := D) (ci := 5) (v := .int cnt) (C := R_Ct) (T := T_Ct) (N := 10) hx hb hts in_Ct hown hK hP 0 rfl rfl 1 (by decide) (hts _ cw_173) (fun _ h9 => h9) rfl d_Ct_cellOf_6 ?_
    refine lv_icmp_ge (tgt := 21) hx hb d_Ct_cellOf_9 (by decide) (fun c_2 => ?_) (fun c_2 => ?_)
    · refine lv_null hx hb d_Ct_cellOf_21 ?_
      exact W.aret (v := .null) hx hb hr (Or.inl ⟨_, rfl⟩) (Or.inl rfl) (fun t ht hW => ⟨none, rfl, by simp [m_cellOf, eq_false c_1, eq_true c_2], ht⟩) (fun q h => by cases h) d_Ct_cellOf_22
    · refine lv_iload_n hx hb d_Ct_cellOf_12 rfl (lv_at hl 1 rfl) ?_
      refine lv_aload_n hx hb d_Ct_cellOf_13 rfl (lv_at hl 0 rfl) ?_
      refine va_get (D := D) (ci := 5) (v := .ref qa) (C := R_Ct) (T := T_Ct) (N := 10) hx hb hts in_Ct hown hK hP 0 rfl rfl 0 (by decide) (hts _ cw_172) (fun _ h9 => h9) rfl d_Ct_cellOf_14 ?_
      refine va_alen (v := 8) hx hb hK hP 1 0 rfl rfl rfl d_Ct_cellOf_17 ?_
      refine lv_icmp_lt (tgt := 23) hx hb d_Ct_cellOf_18 (by decide) (fun c_3 => ?_) (fun c_3 => ?_)
      · refine lv_aload_n hx hb d_Ct_cellOf_23 rfl (lv_at hl 0 rfl) ?_
        refine va_get (D := D) (ci := 5) (v := .ref qa) (C := R_Ct) (T := T_Ct) (N := 10) hx hb hts in_Ct hown hK hP 0 rfl rfl 0 (by decide) (hts _ cw_172) (fun _ h9 => h9) rfl d_Ct_cellOf_24 ?_
        refine lv_iload_n hx hb d_Ct_cellOf_27 rfl (lv_at hl 1 rfl) ?_
        refine va_aldq hx hb hK hP 1 0 rfl rfl (cx_ixl (n := 8) (by decide) c_1 c_3) d_Ct_cellOf_28 ?_
        exact W.aret (v := va_rf (fc p0.toNatClampNeg)) hx hb hr (Or.inl ⟨_, rfl⟩) (va_rf_or _) (fun t ht hW => ⟨fc p0.toNatClampNeg, rfl, by simp [m_cellOf, eq_false c_1, eq_false c_2, eq_true c_3], ht⟩) (fun q h => by cases h) d_Ct_cellOf_29
      · refine lv_null hx hb d_Ct_cellOf_21 ?_
        exact W.aret (v := .null) hx hb hr (Or.inl ⟨_, rfl⟩) (Or.inl rfl) (fun t ht hW => ⟨none, rfl, by simp [m_cellOf, eq_false c_1, eq_false c_2, eq_false c_3], ht⟩) (fun q h => by cases h) d_Ct_cellOf_22

set_option maxHeartbeats 4000000 in
set_option maxRecDepth 100000 in
theorem c_Ct_isInSpan (l : Launch) (D : va_G)  (h0 : Nat) (qa : Nat) (cnt : Int32) (slo : Int32) (shi : Int32) (qt : Nat) (qs : Nat) (qp : Nat) (qk : Nat) (qf : Nat) (ql : Nat) (h1 : Nat) (f0 : Int32) (f1 : Int32) (f2 : Int64) (f3 : Int32) (f4 : Int32) (f5 : Int32) (f6 : Int32) (f7 : Int32) (f8 : Int32) (f9 : Int32) (f10 : Int32) (f11 : Int32) (sz : Nat)  : Met l y_Ct_isInSpan ws_Ct_isInSpan ({ frames := 1, cells := 0, slots := 0, locals := 25 }) (va_Pc [.ref h0, .ref h1] (cx_pre D [] ([(h0, .inr (5, [.ref qa, .int cnt, .int slo, .int shi, .ref qt, .ref qs, .ref qp, .ref qk, .ref qf, .ref ql])), (h1, .inr (0, [.int f0, .int f1, .long f2, .int f3, .int f4, .int f5, .int f6, .int f7, .int f8, .int f9, .int f10, .int f11]))]) sz)) (vp_Si (fun r9 => r9 = m_in f0.toInt64 slo.toInt64 shi.toInt64)) 0 0 (fun _ => False) := by
  refine Met.ofW (cc := b_Ct_isInSpan) (maxL := 2) (ret := (some .boolean)) (by decide) rfl ?_
  intro p e s m args below meth c s₁ B hml hv
  obtain ⟨rfl, hsz, hP, hK, hD0, hN, hO⟩ := hv
  have hx := B.exec
  have hb := B.bytes
  have hr := B.returns
  have hts := fun (w : Cond) (h : w ∈ cx_tbl) => atoms_spec (ws := ws_Ct_isInSpan) B.pre w (List.mem_cons_of_mem _ h)
  have hown : s.vm.findClass R_Ct = some m.cls := findClass_of_methodNamed B.named
  have hlocks := B.notSynchronized
  subst hsz
  have hD := hD0.self (sz := s.heap.size)
  generalize hAe : va_A ([(h0, .inr (5, [.ref qa, .int cnt, .int slo, .int shi, .ref qt, .ref qs, .ref qp, .ref qk, .ref qf, .ref ql])), (h1, .inr (0, [.int f0, .int f1, .long f2, .int f3, .int f4, .int f5, .int f6, .int f7, .int f8, .int f9, .int f10, .int f11]))]) s.heap.size = A at hD hO
  have hA : ∀ q : Nat, s.heap.size ≤ q → A q := fun q h => by rw [← hAe]; exact Or.inr h
  have hS : va_S A s.heap s.heap [] := va_S.rf
  have hl := lv_entry ([.ref h0, .ref h1]) (n := 2) (Nat.le_of_ble_eq_true rfl)
  rw [lg_entry_eq]
  generalize (lg_sl ([.ref h0, .ref h1]) ++ List.replicate (2 - (lg_sl ([.ref h0, .ref h1])).length) Slot.unset).toArray = ls at hl ⊢
  have hl : lv_has ls 2 [(0, .ref h0), (1, .ref h1)] := hl
  refine lv_aload_n hx hb d_Ct_isInSpan_0 rfl (lv_at hl 1 rfl) ?_
  refine va_getN (D := D) (ci := 0) (v := .int f0) (C := R_Cell) (T := T_Cell) (N := 12) hx hb hts in_Cell hown hK hP 1 rfl rfl 0 (by decide) (va_Nw.use rfl (hN _ cn_212)) (fun _ h9 => h9) rfl d_Ct_isInSpan_1 ?_
  refine lv_i2l hx hb d_Ct_isInSpan_4 rfl ?_
  refine lv_aload_n hx hb d_Ct_isInSpan_5 rfl (lv_at hl 0 rfl) ?_
  refine va_get (D := D) (ci := 5) (v := .int slo) (C := R_Ct) (T := T_Ct) (N := 10) hx hb hts in_Ct hown hK hP 0 rfl rfl 2 (by decide) (hts _ cw_174) (fun _ h9 => h9) rfl d_Ct_isInSpan_6 ?_
  refine lv_i2l hx hb d_Ct_isInSpan_9 rfl ?_
  refine lv_aload_n hx hb d_Ct_isInSpan_10 rfl (lv_at hl 0 rfl) ?_
  refine va_get (D := D) (ci := 5) (v := .int shi) (C := R_Ct) (T := T_Ct) (N := 10) hx hb hts in_Ct hown hK hP 0 rfl rfl 3 (by decide) (hts _ cw_175) (fun _ h9 => h9) rfl d_Ct_isInSpan_11 ?_
  refine lv_i2l hx hb d_Ct_isInSpan_14 rfl ?_
  have hPc := hP.sub (ws' := []) [] rfl
  have hDc := hD.sub (ws' := []) [] (by decide) rfl
  have hKc := hK.sub (tys' := []) [] rfl
  have hFc := va_free (wc := []) hD hS hA [] rfl
  refine vp_callSi (va_Run.run (va_runS (As := [.long f0.toInt64, .long slo.toInt64, .long shi.toInt64]) (rest := [])  ⟨hx, hb, hml, hown, hts⟩ (c_Ct_isWithin l D f0.toInt64 slo.toInt64 shi.toInt64 s.heap.size ) ⟨callB_of 3 hts cg_Ct_isWithin rfl rfl rfl (hts _ cw_1) (hts _ cw_267) (by decide +kernel) ⟨Nat.le_of_ble_eq_true rfl, Nat.le_of_ble_eq_true rfl⟩, hts _ cw_268⟩ (cx_preS [.long f0.toInt64, .long slo.toInt64, .long shi.toInt64] hPc hKc hDc hN hO hS hFc) rfl rfl hl.1 rfl (lv_room (Nat.le_of_ble_eq_true rfl)) d_Ct_isInSpan_15 ⟨Nat.le_of_ble_eq_true rfl, Nat.le_of_ble_eq_true rfl⟩)) (fun r z_1 => ?_)
  subst z_1
  exact W.zret (v := m_in f0.toInt64 slo.toInt64 shi.toInt64) hx hb hr (m_in_nar _ _ _) (fun t ht hW => ⟨_, rfl, rfl, ht⟩) (fun q h => by cases h) d_Ct_isInSpan_18

set_option maxHeartbeats 4000000 in
set_option maxRecDepth 100000 in
theorem c_Ct_span (l : Launch) (D : va_G)  (h0 : Nat) (qa : Nat) (cnt : Int32) (slo : Int32) (shi : Int32) (qt : Nat) (qs : Nat) (qp : Nat) (qk : Nat) (qf : Nat) (ql : Nat) (p0 : Int32) (p1 : Int32) (sz : Nat)  : Met l y_Ct_span ws_Ct_span ({ frames := 0, cells := 0, slots := 0, locals := 0 }) (va_Pc [.ref h0, .int p0, .int p1] (cx_pre D [] ([(h0, .inr (5, [.ref qa, .int cnt, .int slo, .int shi, .ref qt, .ref qs, .ref qp, .ref qk, .ref qf, .ref ql]))]) sz)) (va_Qi (fun r9 _ => r9 = (m_span slo shi p0 p1).1) (fun (_ : Unit) t => cx_end D [] (va_A ([(h0, .inr (5, [.ref qa, .int cnt, .int slo, .int shi, .ref qt, .ref qs, .ref qp, .ref qk, .ref qf, .ref ql]))]) sz) ([(h0, .inr (5, [.ref qa, .int cnt, .int ((m_span slo shi p0 p1).2.1), .int ((m_span slo shi p0 p1).2.2), .ref qt, .ref qs, .ref qp, .ref qk, .ref qf, .ref ql]))]) t) (va_A ([(h0, .inr (5, [.ref qa, .int cnt, .int slo, .int shi, .ref qt, .ref qs, .ref qp, .ref qk, .ref qf, .ref ql]))]) sz)) 0 0 (va_A ([(h0, .inr (5, [.ref qa, .int cnt, .int slo, .int shi, .ref qt, .ref qs, .ref qp, .ref qk, .ref qf, .ref ql]))]) sz) := by
  refine Met.ofW (cc := b_Ct_span) (maxL := 3) (ret := (some .boolean)) (by decide) rfl ?_
  intro p e s m args below meth c s₁ B hml hv
  obtain ⟨rfl, hsz, hP, hK, hD0, hN, hO⟩ := hv
  have hx := B.exec
  have hb := B.bytes
  have hr := B.returns
  have hts := fun (w : Cond) (h : w ∈ cx_tbl) => atoms_spec (ws := ws_Ct_span) B.pre w (List.mem_cons_of_mem _ h)
  have hown : s.vm.findClass R_Ct = some m.cls := findClass_of_methodNamed B.named
  have hlocks := B.notSynchronized
  subst hsz
  have hD := hD0.self (sz := s.heap.size)
  generalize hAe : va_A ([(h0, .inr (5, [.ref qa, .int cnt, .int slo, .int shi, .ref qt, .ref qs, .ref qp, .ref qk, .ref qf, .ref ql]))]) s.heap.size = A at hD hO ⊢
  have hA : ∀ q : Nat, s.heap.size ≤ q → A q := fun q h => by rw [← hAe]; exact Or.inr h
  have hS : va_S A s.heap s.heap [] := va_S.rf
  have hl := lv_entry ([.ref h0, .int p0, .int p1]) (n := 3) (Nat.le_of_ble_eq_true rfl)
  rw [lg_entry_eq]
  generalize (lg_sl ([.ref h0, .int p0, .int p1]) ++ List.replicate (3 - (lg_sl ([.ref h0, .int p0, .int p1])).length) Slot.unset).toArray = ls at hl ⊢
  have hl : lv_has ls 3 [(0, .ref h0), (1, .int p0), (2, .int p1)] := hl
  refine lv_iload_n hx hb d_Ct_span_0 rfl (lv_at hl 1 rfl) ?_
  refine lv_if_lt (tgt := 15) hx hb d_Ct_span_1 (by decide) (fun c_1 => ?_) (fun c_1 => ?_)
  · refine lv_iconst (v := 0) hx hb d_Ct_span_15 (by decide) ?_
    have hm : m_span slo shi p0 p1 = (0, slo, shi) := by simp [m_span, eq_true c_1]
    rw [hm]
    have hP9 := hP.sub (ws' := [(h0, .inr (5, [.ref qa, .int cnt, .int slo, .int shi, .ref qt, .ref qs, .ref qp, .ref qk, .ref qf, .ref ql]))]) [0] rfl
    have hD9 := hD.sub (ws' := [(h0, .inr (5, [.ref qa, .int cnt, .int slo, .int shi, .ref qt, .ref qs, .ref qp, .ref qk, .ref qf, .ref ql]))]) [0] (by decide) rfl
    have hK9 := hK.sub (tys' := []) [] rfl
    exact W.zret (v := 0) hx hb hr (rfl) (fun t ht hW => ⟨⟨_, (), rfl, rfl, by rw [ht]; exact hP9, va_K.moved hW.alike hK9, hD9⟩, hS.F ht⟩) hS.2.2 d_Ct_span_16
  · refine lv_iload_n hx hb d_Ct_span_4 rfl (lv_at hl 2 rfl) ?_
    refine lv_ldc (v := 1000000) hx hb hown (hts _ cw_29) d_Ct_span_5 ?_
    refine lv_icmp_gt (tgt := 15) hx hb d_Ct_span_7 (by decide) (fun c_2 => ?_) (fun c_2 => ?_)
    · refine lv_iconst (v := 0) hx hb d_Ct_span_15 (by decide) ?_
      have hm : m_span slo shi p0 p1 = (0, slo, shi) := by simp [m_span, eq_false c_1, eq_true c_2]
      rw [hm]
      have hP9 := hP.sub (ws' := [(h0, .inr (5, [.ref qa, .int cnt, .int slo, .int shi, .ref qt, .ref qs, .ref qp, .ref qk, .ref qf, .ref ql]))]) [0] rfl
      have hD9 := hD.sub (ws' := [(h0, .inr (5, [.ref qa, .int cnt, .int slo, .int shi, .ref qt, .ref qs, .ref qp, .ref qk, .ref qf, .ref ql]))]) [0] (by decide) rfl
      have hK9 := hK.sub (tys' := []) [] rfl
      exact W.zret (v := 0) hx hb hr (rfl) (fun t ht hW => ⟨⟨_, (), rfl, rfl, by rw [ht]; exact hP9, va_K.moved hW.alike hK9, hD9⟩, hS.F ht⟩) hS.2.2 d_Ct_span_16
    · refine lv_iload_n hx hb d_Ct_span_10 rfl (lv_at hl 1 rfl) ?_
      refine lv_iload_n hx hb d_Ct_span_11 rfl (lv_at hl 2 rfl) ?_
      refine lv_icmp_le (tgt := 17) hx hb d_Ct_span_12 (by decide) (fun c_3 => ?_) (fun c_3 => ?_)
      · refine lv_aload_n hx hb d_Ct_span_17 rfl (lv_at hl 0 rfl) ?_
        refine lv_iload_n hx hb d_Ct_span_18 rfl (lv_at hl 1 rfl) ?_
        refine va_put (D := D) (ci := 5) (v := .int p0) (ty := .int) (C := R_Ct) (T := T_Ct) (N := 10) hx hb hts in_Ct ty_Ct tyok_Ct nm_Ct hown hK hP hD hS 0 rfl rfl 2 (by decide) (hts _ cw_174) (fun _ h9 => h9) rfl (by decide +kernel) rfl rfl (Nat.le_of_ble_eq_true rfl) d_Ct_span_19 (fun H locs hP hD hS => ?_)
        have hP : va_P D classes ([(h0, .inr (5, [.ref qa, .int cnt, .int p0, .int shi, .ref qt, .ref qs, .ref qp, .ref qk, .ref qf, .ref ql]))]) H := hP
        have hD : va_D A ([(h0, .inr (5, [.ref qa, .int cnt, .int p0, .int shi, .ref qt, .ref qs, .ref qp, .ref qk, .ref qf, .ref ql]))]) := hD
        refine lv_aload_n hx hb d_Ct_span_22 rfl (lv_at hl 0 rfl) ?_
        refine lv_iload_n hx hb d_Ct_span_23 rfl (lv_at hl 2 rfl) ?_
        refine va_put (D := D) (ci := 5) (v := .int p1) (ty := .int) (C := R_Ct) (T := T_Ct) (N := 10) hx hb hts in_Ct ty_Ct tyok_Ct nm_Ct hown hK hP hD hS 0 rfl rfl 3 (by decide) (hts _ cw_175) (fun _ h9 => h9) rfl (by decide +kernel) rfl rfl (Nat.le_of_ble_eq_true rfl) d_Ct_span_24 (fun H locs hP hD hS => ?_)
        have hP : va_P D classes ([(h0, .inr (5, [.ref qa, .int cnt, .int p0, .int p1, .ref qt, .ref qs, .ref qp, .ref qk, .ref qf, .ref ql]))]) H := hP
        have hD : va_D A ([(h0, .inr (5, [.ref qa, .int cnt, .int p0, .int p1, .ref qt, .ref qs, .ref qp, .ref qk, .ref qf, .ref ql]))]) := hD
        refine lv_iconst (v := 1) hx hb d_Ct_span_27 (by decide) ?_
        have hm : m_span slo shi p0 p1 = (1, p0, p1) := by simp [m_span, eq_false c_1, eq_false c_2, eq_true c_3]
        rw [hm]
        have hP9 := hP.sub (ws' := [(h0, .inr (5, [.ref qa, .int cnt, .int p0, .int p1, .ref qt, .ref qs, .ref qp, .ref qk, .ref qf, .ref ql]))]) [0] rfl
        have hD9 := hD.sub (ws' := [(h0, .inr (5, [.ref qa, .int cnt, .int p0, .int p1, .ref qt, .ref qs, .ref qp, .ref qk, .ref qf, .ref ql]))]) [0] (by decide) rfl
        have hK9 := hK.sub (tys' := []) [] rfl
        exact W.zret (v := 1) hx hb hr (rfl) (fun t ht hW => ⟨⟨_, (), rfl, rfl, by rw [ht]; exact hP9, va_K.moved hW.alike hK9, hD9⟩, hS.F ht⟩) hS.2.2 d_Ct_span_28
      · refine lv_iconst (v := 0) hx hb d_Ct_span_15 (by decide) ?_
        have hm : m_span slo shi p0 p1 = (0, slo, shi) := by simp [m_span, eq_false c_1, eq_false c_2, eq_false c_3]
        rw [hm]
        have hP9 := hP.sub (ws' := [(h0, .inr (5, [.ref qa, .int cnt, .int slo, .int shi, .ref qt, .ref qs, .ref qp, .ref qk, .ref qf, .ref ql]))]) [0] rfl
        have hD9 := hD.sub (ws' := [(h0, .inr (5, [.ref qa, .int cnt, .int slo, .int shi, .ref qt, .ref qs, .ref qp, .ref qk, .ref qf, .ref ql]))]) [0] (by decide) rfl
        have hK9 := hK.sub (tys' := []) [] rfl
        exact W.zret (v := 0) hx hb hr (rfl) (fun t ht hW => ⟨⟨_, (), rfl, rfl, by rw [ht]; exact hP9, va_K.moved hW.alike hK9, hD9⟩, hS.F ht⟩) hS.2.2 d_Ct_span_16

set_option maxHeartbeats 4000000 in
set_option maxRecDepth 100000 in
theorem c_Ct_warm_n (l : Launch) (D : va_G)  (h0 : Nat) (qa : Nat) (cnt : Int32) (slo : Int32) (shi : Int32) (qt : Nat) (qs : Nat) (qp : Nat) (qk : Nat) (qf : Nat) (ql : Nat) (kq : ClassId) (fc : Nat → Option Nat) (p0 : Int32) (p1 : Int32) (sz : Nat) (hcell : m_cellOf cnt fc p0 = none) : Met l y_Ct_warm ws_Ct_warm ({ frames := 2, cells := 0, slots := 0, locals := 46 }) (va_Pc [.ref h0, .int p0, .int p1] (cx_pre D [(kq, .object "CellTests$Cell")] ([(h0, .inr (5, [.ref qa, .int cnt, .int slo, .int shi, .ref qt, .ref qs, .ref qp, .ref qk, .ref qf, .ref ql])), (qa, .inl (kq, 8, .inr (.inr (.inr (.inr fc)))))]) sz)) (vp_Si (fun r9 => r9 = 0)) 0 0 (fun _ => False) := by
  refine Met.ofW (cc := b_Ct_warm) (maxL := 4) (ret := (some .boolean)) (by decide) rfl ?_
  intro p e s m args below meth c s₁ B hml hv
  obtain ⟨rfl, hsz, hP, hK, hD0, hN, hO⟩ := hv
  have hx := B.exec
  have hb := B.bytes
  have hr := B.returns
  have hts := fun (w : Cond) (h : w ∈ cx_tbl) => atoms_spec (ws := ws_Ct_warm) B.pre w (List.mem_cons_of_mem _ h)
  have hown : s.vm.findClass R_Ct = some m.cls := findClass_of_methodNamed B.named
  have hlocks := B.notSynchronized
  subst hsz
  have hD := hD0.self (sz := s.heap.size)
  generalize hAe : va_A ([(h0, .inr (5, [.ref qa, .int cnt, .int slo, .int shi, .ref qt, .ref qs, .ref qp, .ref qk, .ref qf, .ref ql])), (qa, .inl (kq, 8, .inr (.inr (.inr (.inr fc)))))]) s.heap.size = A at hD hO
  have hA : ∀ q : Nat, s.heap.size ≤ q → A q := fun q h => by rw [← hAe]; exact Or.inr h
  have hS : va_S A s.heap s.heap [] := va_S.rf
  have hl := lv_entry ([.ref h0, .int p0, .int p1]) (n := 4) (Nat.le_of_ble_eq_true rfl)
  rw [lg_entry_eq]
  generalize (lg_sl ([.ref h0, .int p0, .int p1]) ++ List.replicate (4 - (lg_sl ([.ref h0, .int p0, .int p1])).length) Slot.unset).toArray = ls at hl ⊢
  have hl : lv_has ls 4 [(0, .ref h0), (1, .int p0), (2, .int p1)] := hl
  refine lv_aload_n hx hb d_Ct_warm_0 rfl (lv_at hl 0 rfl) ?_
  refine lv_iload_n hx hb d_Ct_warm_1 rfl (lv_at hl 1 rfl) ?_
  have hPc := hP.sub (ws' := [(h0, .inr (5, [.ref qa, .int cnt, .int slo, .int shi, .ref qt, .ref qs, .ref qp, .ref qk, .ref qf, .ref ql])), (qa, .inl (kq, 8, .inr (.inr (.inr (.inr fc)))))]) [0, 1] rfl
  have hDc := hD.sub (ws' := [(h0, .inr (5, [.ref qa, .int cnt, .int slo, .int shi, .ref qt, .ref qs, .ref qp, .ref qk, .ref qf, .ref ql])), (qa, .inl (kq, 8, .inr (.inr (.inr (.inr fc)))))]) [0, 1] (by decide) rfl
  have hKc := hK.sub (tys' := [(kq, .object "CellTests$Cell")]) [0] rfl
  have hFc := va_free (wc := [(h0, .inr (5, [.ref qa, .int cnt, .int slo, .int shi, .ref qt, .ref qs, .ref qp, .ref qk, .ref qf, .ref ql])), (qa, .inl (kq, 8, .inr (.inr (.inr (.inr fc)))))]) hD hS hA [0, 1] rfl
  refine va_csq (va_Run.run (va_runV (As := [.int p0]) (rest := [])  ⟨hx, hb, hml, hown, hts⟩ (c_Ct_cellOf l D h0 qa cnt slo shi qt qs qp qk qf ql kq fc p0 s.heap.size ) ⟨callB_of 1 hts cg_Ct_cellOf rfl rfl rfl (hts _ cw_1) (hts _ cw_262) (by decide +kernel) ⟨Nat.le_of_ble_eq_true rfl, Nat.le_of_ble_eq_true rfl⟩, hts _ cw_264, hts _ cs_0⟩ (cx_preV (C := R_Ct) [.int p0] hPc hKc hDc hN hO hS hFc (ci := 5) (q0 := 0) rfl rfl rfl) rfl rfl hl.1 rfl (lv_room (Nat.le_of_ble_eq_true rfl)) d_Ct_warm_2 ⟨Nat.le_of_ble_eq_true rfl, Nat.le_of_ble_eq_true rfl⟩)) (fun r z_1 => ?_)
  subst z_1
  rw [hcell]
  refine W.eq (g2 := F0 m 5 ls [.null]) rfl ?_
  refine lv_astore_nN (lv' := [(3, .null), (0, .ref h0), (1, .int p0), (2, .int p1)]) hx hb d_Ct_warm_5 rfl hl (by decide) rfl (fun ls hl => ?_)
  refine lv_aload_nN hx hb d_Ct_warm_6 rfl (lv_at hl 0 rfl) ?_
  refine lv_ifnullN (tgt := 22) hx hb d_Ct_warm_7 (by decide) ?_
  refine lv_iconst (v := 0) hx hb d_Ct_warm_22 (by decide) ?_
  exact W.zret (v := 0) hx hb hr (rfl) (fun t ht hW => ⟨_, rfl, rfl, ht⟩) (fun q h => by cases h) d_Ct_warm_23

set_option maxHeartbeats 4000000 in
set_option maxRecDepth 100000 in
theorem c_Ct_warm (l : Launch) (D : va_G)  (h0 : Nat) (qa : Nat) (cnt : Int32) (slo : Int32) (shi : Int32) (qt : Nat) (qs : Nat) (qp : Nat) (qk : Nat) (qf : Nat) (ql : Nat) (kq : ClassId) (fc : Nat → Option Nat) (h1 : Nat) (f0 : Int32) (f1 : Int32) (f2 : Int64) (f3 : Int32) (f4 : Int32) (f5 : Int32) (f6 : Int32) (f7 : Int32) (f8 : Int32) (f9 : Int32) (f10 : Int32) (f11 : Int32) (p0 : Int32) (p1 : Int32) (sz : Nat) (hcell : m_cellOf cnt fc p0 = some h1) : Met l y_Ct_warm ws_Ct_warm ({ frames := 2, cells := 0, slots := 0, locals := 46 }) (va_Pc [.ref h0, .int p0, .int p1] (cx_pre D [(kq, .object "CellTests$Cell")] ([(h0, .inr (5, [.ref qa, .int cnt, .int slo, .int shi, .ref qt, .ref qs, .ref qp, .ref qk, .ref qf, .ref ql])), (qa, .inl (kq, 8, .inr (.inr (.inr (.inr fc))))), (h1, .inr (0, [.int f0, .int f1, .long f2, .int f3, .int f4, .int f5, .int f6, .int f7, .int f8, .int f9, .int f10, .int f11]))]) sz)) (va_Qi (fun r9 _ => r9 = (m_warm slo shi f0 p1).1) (fun (_ : Unit) t => cx_end D [(kq, .object "CellTests$Cell")] (va_A ([(h0, .inr (5, [.ref qa, .int cnt, .int slo, .int shi, .ref qt, .ref qs, .ref qp, .ref qk, .ref qf, .ref ql])), (qa, .inl (kq, 8, .inr (.inr (.inr (.inr fc))))), (h1, .inr (0, [.int f0, .int f1, .long f2, .int f3, .int f4, .int f5, .int f6, .int f7, .int f8, .int f9, .int f10, .int f11]))]) sz) ([(h0, .inr (5, [.ref qa, .int cnt, .int slo, .int shi, .ref qt, .ref qs, .ref qp, .ref qk, .ref qf, .ref ql])), (qa, .inl (kq, 8, .inr (.inr (.inr (.inr fc))))), (h1, .inr (0, [.int ((m_warm slo shi f0 p1).2), .int f1, .long f2, .int f3, .int f4, .int f5, .int f6, .int f7, .int f8, .int f9, .int f10, .int f11]))]) t) (va_A ([(h0, .inr (5, [.ref qa, .int cnt, .int slo, .int shi, .ref qt, .ref qs, .ref qp, .ref qk, .ref qf, .ref ql])), (qa, .inl (kq, 8, .inr (.inr (.inr (.inr fc))))), (h1, .inr (0, [.int f0, .int f1, .long f2, .int f3, .int f4, .int f5, .int f6, .int f7, .int f8, .int f9, .int f10, .int f11]))]) sz)) 0 0 (va_A ([(h0, .inr (5, [.ref qa, .int cnt, .int slo, .int shi, .ref qt, .ref qs, .ref qp, .ref qk, .ref qf, .ref ql])), (qa, .inl (kq, 8, .inr (.inr (.inr (.inr fc))))), (h1, .inr (0, [.int f0, .int f1, .long f2, .int f3, .int f4, .int f5, .int f6, .int f7, .int f8, .int f9, .int f10, .int f11]))]) sz) := by
  refine Met.ofW (cc := b_Ct_warm) (maxL := 4) (ret := (some .boolean)) (by decide) rfl ?_
  intro p e s m args below meth c s₁ B hml hv
  obtain ⟨rfl, hsz, hP, hK, hD0, hN, hO⟩ := hv
  have hx := B.exec
  have hb := B.bytes
  have hr := B.returns
  have hts := fun (w : Cond) (h : w ∈ cx_tbl) => atoms_spec (ws := ws_Ct_warm) B.pre w (List.mem_cons_of_mem _ h)
  have hown : s.vm.findClass R_Ct = some m.cls := findClass_of_methodNamed B.named
  have hlocks := B.notSynchronized
  subst hsz
  have hD := hD0.self (sz := s.heap.size)
  generalize hAe : va_A ([(h0, .inr (5, [.ref qa, .int cnt, .int slo, .int shi, .ref qt, .ref qs, .ref qp, .ref qk, .ref qf, .ref ql])), (qa, .inl (kq, 8, .inr (.inr (.inr (.inr fc))))), (h1, .inr (0, [.int f0, .int f1, .long f2, .int f3, .int f4, .int f5, .int f6, .int f7, .int f8, .int f9, .int f10, .int f11]))]) s.heap.size = A at hD hO ⊢
  have hA : ∀ q : Nat, s.heap.size ≤ q → A q := fun q h => by rw [← hAe]; exact Or.inr h
  have hS : va_S A s.heap s.heap [] := va_S.rf
  have hl := lv_entry ([.ref h0, .int p0, .int p1]) (n := 4) (Nat.le_of_ble_eq_true rfl)
  rw [lg_entry_eq]
  generalize (lg_sl ([.ref h0, .int p0, .int p1]) ++ List.replicate (4 - (lg_sl ([.ref h0, .int p0, .int p1])).length) Slot.unset).toArray = ls at hl ⊢
  have hl : lv_has ls 4 [(0, .ref h0), (1, .int p0), (2, .int p1)] := hl
  refine lv_aload_n hx hb d_Ct_warm_0 rfl (lv_at hl 0 rfl) ?_
  refine lv_iload_n hx hb d_Ct_warm_1 rfl (lv_at hl 1 rfl) ?_
  have hPc := hP.sub (ws' := [(h0, .inr (5, [.ref qa, .int cnt, .int slo, .int shi, .ref qt, .ref qs, .ref qp, .ref qk, .ref qf, .ref ql])), (qa, .inl (kq, 8, .inr (.inr (.inr (.inr fc)))))]) [0, 1] rfl
  have hDc := hD.sub (ws' := [(h0, .inr (5, [.ref qa, .int cnt, .int slo, .int shi, .ref qt, .ref qs, .ref qp, .ref qk, .ref qf, .ref ql])), (qa, .inl (kq, 8, .inr (.inr (.inr (.inr fc)))))]) [0, 1] (by decide) rfl
  have hKc := hK.sub (tys' := [(kq, .object "CellTests$Cell")]) [0] rfl
  have hFc := va_free (wc := [(h0, .inr (5, [.ref qa, .int cnt, .int slo, .int shi, .ref qt, .ref qs, .ref qp, .ref qk, .ref qf, .ref ql])), (qa, .inl (kq, 8, .inr (.inr (.inr (.inr fc)))))]) hD hS hA [0, 1] rfl
  refine va_csq (va_Run.run (va_runV (As := [.int p0]) (rest := [])  ⟨hx, hb, hml, hown, hts⟩ (c_Ct_cellOf l D h0 qa cnt slo shi qt qs qp qk qf ql kq fc p0 s.heap.size ) ⟨callB_of 1 hts cg_Ct_cellOf rfl rfl rfl (hts _ cw_1) (hts _ cw_262) (by decide +kernel) ⟨Nat.le_of_ble_eq_true rfl, Nat.le_of_ble_eq_true rfl⟩, hts _ cw_264, hts _ cs_0⟩ (cx_preV (C := R_Ct) [.int p0] hPc hKc hDc hN hO hS hFc (ci := 5) (q0 := 0) rfl rfl rfl) rfl rfl hl.1 rfl (lv_room (Nat.le_of_ble_eq_true rfl)) d_Ct_warm_2 ⟨Nat.le_of_ble_eq_true rfl, Nat.le_of_ble_eq_true rfl⟩)) (fun r z_1 => ?_)
  subst z_1
  rw [hcell]
  refine W.eq (g2 := F0 m 5 ls [.ref h1]) rfl ?_
  refine lv_astore_n (lv' := [(3, .ref h1), (0, .ref h0), (1, .int p0), (2, .int p1)]) hx hb d_Ct_warm_5 rfl hl (by decide) rfl (fun ls hl => ?_)
  refine lv_aload_n hx hb d_Ct_warm_6 rfl (lv_at hl 0 rfl) ?_
  refine lv_ifnull hx hb d_Ct_warm_7 ?_
  refine lv_iload_n hx hb d_Ct_warm_10 rfl (lv_at hl 3 rfl) ?_
  refine lv_i2l hx hb d_Ct_warm_11 rfl ?_
  refine lv_lconst (v := 0) hx hb d_Ct_warm_12 (by decide) ?_
  refine lv_ldc2 (v := 1000000) hx hb hown (hts _ cw_266) d_Ct_warm_13 ?_
  have hPc := hP.sub (ws' := []) [] rfl
  have hDc := hD.sub (ws' := []) [] (by decide) rfl
  have hKc := hK.sub (tys' := []) [] rfl
  have hFc := va_free (wc := []) hD hS hA [] rfl
  refine vp_callSi (va_Run.run (va_runS (As := [.long p1.toInt64, .long 0, .long 1000000]) (rest := [])  ⟨hx, hb, hml, hown, hts⟩ (c_Ct_isWithin l D p1.toInt64 0 1000000 s.heap.size ) ⟨callB_of 3 hts cg_Ct_isWithin rfl rfl rfl (hts _ cw_1) (hts _ cw_267) (by decide +kernel) ⟨Nat.le_of_ble_eq_true rfl, Nat.le_of_ble_eq_true rfl⟩, hts _ cw_268⟩ (cx_preS [.long p1.toInt64, .long 0, .long 1000000] hPc hKc hDc hN hO hS hFc) rfl rfl hl.1 rfl (lv_room (Nat.le_of_ble_eq_true rfl)) d_Ct_warm_16 ⟨Nat.le_of_ble_eq_true rfl, Nat.le_of_ble_eq_true rfl⟩)) (fun r z_2 => ?_)
  subst z_2
  refine lv_if_ne (tgt := 24) hx hb d_Ct_warm_19 (by decide) (fun c_3 => ?_) (fun c_3 => ?_)
  · refine lv_aload_n hx hb d_Ct_warm_24 rfl (lv_at hl 0 rfl) ?_
    refine lv_iload_n hx hb d_Ct_warm_25 rfl (lv_at hl 3 rfl) ?_
    refine va_putN (D := D) (ci := 0) (v := .int p1) (ty := .int) (C := R_Cell) (T := T_Cell) (N := 12) hx hb hts in_Cell ty_Cell tyok_Cell nm_Cell hown hK hP hD hS 2 rfl rfl 0 (by decide) (va_Nw.use rfl (hN _ cn_212)) (fun _ h9 => h9) rfl (by decide +kernel) rfl rfl (Nat.le_of_ble_eq_true rfl) d_Ct_warm_26 (fun H locs hP hD hS => ?_)
    have hP : va_P D classes ([(h0, .inr (5, [.ref qa, .int cnt, .int slo, .int shi, .ref qt, .ref qs, .ref qp, .ref qk, .ref qf, .ref ql])), (qa, .inl (kq, 8, .inr (.inr (.inr (.inr fc))))), (h1, .inr (0, [.int p1, .int f1, .long f2, .int f3, .int f4, .int f5, .int f6, .int f7, .int f8, .int f9, .int f10, .int f11]))]) H := hP
    have hD : va_D A ([(h0, .inr (5, [.ref qa, .int cnt, .int slo, .int shi, .ref qt, .ref qs, .ref qp, .ref qk, .ref qf, .ref ql])), (qa, .inl (kq, 8, .inr (.inr (.inr (.inr fc))))), (h1, .inr (0, [.int p1, .int f1, .long f2, .int f3, .int f4, .int f5, .int f6, .int f7, .int f8, .int f9, .int f10, .int f11]))]) := hD
    refine lv_aload_n hx hb d_Ct_warm_29 rfl (lv_at hl 1 rfl) ?_
    refine lv_aload_n hx hb d_Ct_warm_30 rfl (lv_at hl 0 rfl) ?_
    have hPc := hP.sub (ws' := [(h0, .inr (5, [.ref qa, .int cnt, .int slo, .int shi, .ref qt, .ref qs, .ref qp, .ref qk, .ref qf, .ref ql])), (h1, .inr (0, [.int p1, .int f1, .long f2, .int f3, .int f4, .int f5, .int f6, .int f7, .int f8, .int f9, .int f10, .int f11]))]) [0, 2] rfl
    have hDc := hD.sub (ws' := [(h0, .inr (5, [.ref qa, .int cnt, .int slo, .int shi, .ref qt, .ref qs, .ref qp, .ref qk, .ref qf, .ref ql])), (h1, .inr (0, [.int p1, .int f1, .long f2, .int f3, .int f4, .int f5, .int f6, .int f7, .int f8, .int f9, .int f10, .int f11]))]) [0, 2] (by decide) rfl
    have hKc := hK.sub (tys' := []) [] rfl
    have hFc := va_free (wc := [(h0, .inr (5, [.ref qa, .int cnt, .int slo, .int shi, .ref qt, .ref qs, .ref qp, .ref qk, .ref qf, .ref ql])), (h1, .inr (0, [.int p1, .int f1, .long f2, .int f3, .int f4, .int f5, .int f6, .int f7, .int f8, .int f9, .int f10, .int f11]))]) hD hS hA [0, 2] rfl
    refine vp_callSi (va_Run.run (va_runV (As := [.ref h1]) (rest := [])  ⟨hx, hb, hml, hown, hts⟩ (c_Ct_isInSpan l D h0 qa cnt slo shi qt qs qp qk qf ql h1 p1 f1 f2 f3 f4 f5 f6 f7 f8 f9 f10 f11 H.size ) ⟨callB_of 1 hts cg_Ct_isInSpan rfl rfl rfl (hts _ cw_1) (hts _ cw_270) (by decide +kernel) ⟨Nat.le_of_ble_eq_true rfl, Nat.le_of_ble_eq_true rfl⟩, hts _ cw_272, hts _ cs_1⟩ (cx_preV (C := R_Ct) [.ref h1] hPc hKc hDc hN hO hS hFc (ci := 5) (q0 := 0) rfl rfl rfl) rfl rfl hl.1 rfl (lv_room (Nat.le_of_ble_eq_true rfl)) d_Ct_warm_31 ⟨Nat.le_of_ble_eq_true rfl, Nat.le_of_ble_eq_true rfl⟩)) (fun r z_4 => ?_)
    subst z_4
    have hm : m_warm slo shi f0 p1 = (m_in p1.toInt64 slo.toInt64 shi.toInt64, p1) := by simp [m_warm, eq_false c_3]
    rw [hm]
    have hP9 := hP.sub (ws' := [(h0, .inr (5, [.ref qa, .int cnt, .int slo, .int shi, .ref qt, .ref qs, .ref qp, .ref qk, .ref qf, .ref ql])), (qa, .inl (kq, 8, .inr (.inr (.inr (.inr fc))))), (h1, .inr (0, [.int p1, .int f1, .long f2, .int f3, .int f4, .int f5, .int f6, .int f7, .int f8, .int f9, .int f10, .int f11]))]) [0, 1, 2] rfl
    have hD9 := hD.sub (ws' := [(h0, .inr (5, [.ref qa, .int cnt, .int slo, .int shi, .ref qt, .ref qs, .ref qp, .ref qk, .ref qf, .ref ql])), (qa, .inl (kq, 8, .inr (.inr (.inr (.inr fc))))), (h1, .inr (0, [.int p1, .int f1, .long f2, .int f3, .int f4, .int f5, .int f6, .int f7, .int f8, .int f9, .int f10, .int f11]))]) [0, 1, 2] (by decide) rfl
    have hK9 := hK.sub (tys' := [(kq, .object "CellTests$Cell")]) [0] rfl
    exact W.zret (v := m_in p1.toInt64 slo.toInt64 shi.toInt64) hx hb hr (m_in_nar _ _ _) (fun t ht hW => ⟨⟨_, (), rfl, rfl, by rw [ht]; exact hP9, va_K.moved hW.alike hK9, hD9⟩, hS.F ht⟩) hS.2.2 d_Ct_warm_34
  · refine lv_iconst (v := 0) hx hb d_Ct_warm_22 (by decide) ?_
    have hm : m_warm slo shi f0 p1 = (0, f0) := by simp [m_warm, eq_true c_3]
    rw [hm]
    have hP9 := hP.sub (ws' := [(h0, .inr (5, [.ref qa, .int cnt, .int slo, .int shi, .ref qt, .ref qs, .ref qp, .ref qk, .ref qf, .ref ql])), (qa, .inl (kq, 8, .inr (.inr (.inr (.inr fc))))), (h1, .inr (0, [.int f0, .int f1, .long f2, .int f3, .int f4, .int f5, .int f6, .int f7, .int f8, .int f9, .int f10, .int f11]))]) [0, 1, 2] rfl
    have hD9 := hD.sub (ws' := [(h0, .inr (5, [.ref qa, .int cnt, .int slo, .int shi, .ref qt, .ref qs, .ref qp, .ref qk, .ref qf, .ref ql])), (qa, .inl (kq, 8, .inr (.inr (.inr (.inr fc))))), (h1, .inr (0, [.int f0, .int f1, .long f2, .int f3, .int f4, .int f5, .int f6, .int f7, .int f8, .int f9, .int f10, .int f11]))]) [0, 1, 2] (by decide) rfl
    have hK9 := hK.sub (tys' := [(kq, .object "CellTests$Cell")]) [0] rfl
    exact W.zret (v := 0) hx hb hr (rfl) (fun t ht hW => ⟨⟨_, (), rfl, rfl, by rw [ht]; exact hP9, va_K.moved hW.alike hK9, hD9⟩, hS.F ht⟩) hS.2.2 d_Ct_warm_23

set_option maxHeartbeats 4000000 in
set_option maxRecDepth 100000 in
theorem c_Ct_step_n (l : Launch) (D : va_G)  (h0 : Nat) (qa : Nat) (cnt : Int32) (slo : Int32) (shi : Int32) (qt : Nat) (qs : Nat) (qp : Nat) (qk : Nat) (qf : Nat) (ql : Nat) (kq : ClassId) (fc : Nat → Option Nat) (p0 : Int32) (p1 : Int32) (p2 : Int32) (p3 : Int32) (sz : Nat) (hcell : m_cellOf cnt fc p0 = none) : Met l y_Ct_step ws_Ct_step ({ frames := 2, cells := 0, slots := 0, locals := 48 }) (va_Pc [.ref h0, .int p0, .int p1, .int p2, .int p3] (cx_pre D [(kq, .object "CellTests$Cell")] ([(h0, .inr (5, [.ref qa, .int cnt, .int slo, .int shi, .ref qt, .ref qs, .ref qp, .ref qk, .ref qf, .ref ql])), (qa, .inl (kq, 8, .inr (.inr (.inr (.inr fc)))))]) sz)) (vp_Si (fun r9 => r9 = 0)) 0 0 (fun _ => False) := by
  refine Met.ofW (cc := b_Ct_step) (maxL := 6) (ret := (some .boolean)) (by decide) rfl ?_
  intro p e s m args below meth c s₁ B hml hv
  obtain ⟨rfl, hsz, hP, hK, hD0, hN, hO⟩ := hv
  have hx := B.exec
  have hb := B.bytes
  have hr := B.returns
  have hts := fun (w : Cond) (h : w ∈ cx_tbl) => atoms_spec (ws := ws_Ct_step) B.pre w (List.mem_cons_of_mem _ h)
  have hown : s.vm.findClass R_Ct = some m.cls := findClass_of_methodNamed B.named
  have hlocks := B.notSynchronized
  subst hsz
  have hD := hD0.self (sz := s.heap.size)
  generalize hAe : va_A ([(h0, .inr (5, [.ref qa, .int cnt, .int slo, .int shi, .ref qt, .ref qs, .ref qp, .ref qk, .ref qf, .ref ql])), (qa, .inl (kq, 8, .inr (.inr (.inr (.inr fc)))))]) s.heap.size = A at hD hO
  have hA : ∀ q : Nat, s.heap.size ≤ q → A q := fun q h => by rw [← hAe]; exact Or.inr h
  have hS : va_S A s.heap s.heap [] := va_S.rf
  have hl := lv_entry ([.ref h0, .int p0, .int p1, .int p2, .int p3]) (n := 6) (Nat.le_of_ble_eq_true rfl)
  rw [lg_entry_eq]
  generalize (lg_sl ([.ref h0, .int p0, .int p1, .int p2, .int p3]) ++ List.replicate (6 - (lg_sl ([.ref h0, .int p0, .int p1, .int p2, .int p3])).length) Slot.unset).toArray = ls at hl ⊢
  have hl : lv_has ls 6 [(0, .ref h0), (1, .int p0), (2, .int p1), (3, .int p2), (4, .int p3)] := hl
  refine lv_aload_n hx hb d_Ct_step_0 rfl (lv_at hl 0 rfl) ?_
  refine lv_iload_n hx hb d_Ct_step_1 rfl (lv_at hl 1 rfl) ?_
  have hPc := hP.sub (ws' := [(h0, .inr (5, [.ref qa, .int cnt, .int slo, .int shi, .ref qt, .ref qs, .ref qp, .ref qk, .ref qf, .ref ql])), (qa, .inl (kq, 8, .inr (.inr (.inr (.inr fc)))))]) [0, 1] rfl
  have hDc := hD.sub (ws' := [(h0, .inr (5, [.ref qa, .int cnt, .int slo, .int shi, .ref qt, .ref qs, .ref qp, .ref qk, .ref qf, .ref ql])), (qa, .inl (kq, 8, .inr (.inr (.inr (.inr fc)))))]) [0, 1] (by decide) rfl
  have hKc := hK.sub (tys' := [(kq, .object "CellTests$Cell")]) [0] rfl
  have hFc := va_free (wc := [(h0, .inr (5, [.ref qa, .int cnt, .int slo, .int shi, .ref qt, .ref qs, .ref qp, .ref qk, .ref qf, .ref ql])), (qa, .inl (kq, 8, .inr (.inr (.inr (.inr fc)))))]) hD hS hA [0, 1] rfl
  refine va_csq (va_Run.run (va_runV (As := [.int p0]) (rest := [])  ⟨hx, hb, hml, hown, hts⟩ (c_Ct_cellOf l D h0 qa cnt slo shi qt qs qp qk qf ql kq fc p0 s.heap.size ) ⟨callB_of 1 hts cg_Ct_cellOf rfl rfl rfl (hts _ cw_1) (hts _ cw_262) (by decide +kernel) ⟨Nat.le_of_ble_eq_true rfl, Nat.le_of_ble_eq_true rfl⟩, hts _ cw_264, hts _ cs_0⟩ (cx_preV (C := R_Ct) [.int p0] hPc hKc hDc hN hO hS hFc (ci := 5) (q0 := 0) rfl rfl rfl) rfl rfl hl.1 rfl (lv_room (Nat.le_of_ble_eq_true rfl)) d_Ct_step_2 ⟨Nat.le_of_ble_eq_true rfl, Nat.le_of_ble_eq_true rfl⟩)) (fun r z_1 => ?_)
  subst z_1
  rw [hcell]
  refine W.eq (g2 := F0 m 5 ls [.null]) rfl ?_
  refine lv_astoreN (lv' := [(5, .null), (0, .ref h0), (1, .int p0), (2, .int p1), (3, .int p2), (4, .int p3)]) hx hb d_Ct_step_5 hl (by decide) rfl (fun ls hl => ?_)
  refine lv_aloadN hx hb d_Ct_step_7 (lv_at hl 0 rfl) ?_
  refine lv_ifnullN (tgt := 37) hx hb d_Ct_step_9 (by decide) ?_
  refine lv_iconst (v := 0) hx hb d_Ct_step_37 (by decide) ?_
  exact W.zret (v := 0) hx hb hr (rfl) (fun t ht hW => ⟨_, rfl, rfl, ht⟩) (fun q h => by cases h) d_Ct_step_38

set_option maxHeartbeats 4000000 in
set_option maxRecDepth 100000 in
theorem c_Ct_step (l : Launch) (D : va_G)  (h0 : Nat) (qa : Nat) (cnt : Int32) (slo : Int32) (shi : Int32) (qt : Nat) (qs : Nat) (qp : Nat) (qk : Nat) (qf : Nat) (ql : Nat) (kq : ClassId) (fc : Nat → Option Nat) (h1 : Nat) (f0 : Int32) (f1 : Int32) (f2 : Int64) (f3 : Int32) (f4 : Int32) (f5 : Int32) (f6 : Int32) (f7 : Int32) (f8 : Int32) (f9 : Int32) (f10 : Int32) (f11 : Int32) (p0 : Int32) (p1 : Int32) (p2 : Int32) (p3 : Int32) (sz : Nat) (hcell : m_cellOf cnt fc p0 = some h1) : Met l y_Ct_step ws_Ct_step ({ frames := 2, cells := 0, slots := 0, locals := 48 }) (va_Pc [.ref h0, .int p0, .int p1, .int p2, .int p3] (cx_pre D [(kq, .object "CellTests$Cell")] ([(h0, .inr (5, [.ref qa, .int cnt, .int slo, .int shi, .ref qt, .ref qs, .ref qp, .ref qk, .ref qf, .ref ql])), (qa, .inl (kq, 8, .inr (.inr (.inr (.inr fc))))), (h1, .inr (0, [.int f0, .int f1, .long f2, .int f3, .int f4, .int f5, .int f6, .int f7, .int f8, .int f9, .int f10, .int f11]))]) sz)) (va_Qi (fun r9 _ => r9 = (m_step f0 f1 f2 f3 f4 f5 f6 f7 f8 f9 f10 f11 slo shi p1 p2 p3).1) (fun (_ : Unit) t => cx_end D [(kq, .object "CellTests$Cell")] (va_A ([(h0, .inr (5, [.ref qa, .int cnt, .int slo, .int shi, .ref qt, .ref qs, .ref qp, .ref qk, .ref qf, .ref ql])), (qa, .inl (kq, 8, .inr (.inr (.inr (.inr fc))))), (h1, .inr (0, [.int f0, .int f1, .long f2, .int f3, .int f4, .int f5, .int f6, .int f7, .int f8, .int f9, .int f10, .int f11]))]) sz) ([(h0, .inr (5, [.ref qa, .int cnt, .int slo, .int shi, .ref qt, .ref qs, .ref qp, .ref qk, .ref qf, .ref ql])), (qa, .inl (kq, 8, .inr (.inr (.inr (.inr fc))))), (h1, .inr (0, [.int ((m_step f0 f1 f2 f3 f4 f5 f6 f7 f8 f9 f10 f11 slo shi p1 p2 p3).2.1), .int ((m_step f0 f1 f2 f3 f4 f5 f6 f7 f8 f9 f10 f11 slo shi p1 p2 p3).2.2.1), .long ((m_step f0 f1 f2 f3 f4 f5 f6 f7 f8 f9 f10 f11 slo shi p1 p2 p3).2.2.2.1), .int ((m_step f0 f1 f2 f3 f4 f5 f6 f7 f8 f9 f10 f11 slo shi p1 p2 p3).2.2.2.2.1), .int ((m_step f0 f1 f2 f3 f4 f5 f6 f7 f8 f9 f10 f11 slo shi p1 p2 p3).2.2.2.2.2.1), .int ((m_step f0 f1 f2 f3 f4 f5 f6 f7 f8 f9 f10 f11 slo shi p1 p2 p3).2.2.2.2.2.2.1), .int ((m_step f0 f1 f2 f3 f4 f5 f6 f7 f8 f9 f10 f11 slo shi p1 p2 p3).2.2.2.2.2.2.2.1), .int ((m_step f0 f1 f2 f3 f4 f5 f6 f7 f8 f9 f10 f11 slo shi p1 p2 p3).2.2.2.2.2.2.2.2.1), .int ((m_step f0 f1 f2 f3 f4 f5 f6 f7 f8 f9 f10 f11 slo shi p1 p2 p3).2.2.2.2.2.2.2.2.2.1), .int ((m_step f0 f1 f2 f3 f4 f5 f6 f7 f8 f9 f10 f11 slo shi p1 p2 p3).2.2.2.2.2.2.2.2.2.2.1), .int ((m_step f0 f1 f2 f3 f4 f5 f6 f7 f8 f9 f10 f11 slo shi p1 p2 p3).2.2.2.2.2.2.2.2.2.2.2.1), .int ((m_step f0 f1 f2 f3 f4 f5 f6 f7 f8 f9 f10 f11 slo shi p1 p2 p3).2.2.2.2.2.2.2.2.2.2.2.2)]))]) t) (va_A ([(h0, .inr (5, [.ref qa, .int cnt, .int slo, .int shi, .ref qt, .ref qs, .ref qp, .ref qk, .ref qf, .ref ql])), (qa, .inl (kq, 8, .inr (.inr (.inr (.inr fc))))), (h1, .inr (0, [.int f0, .int f1, .long f2, .int f3, .int f4, .int f5, .int f6, .int f7, .int f8, .int f9, .int f10, .int f11]))]) sz)) 0 0 (va_A ([(h0, .inr (5, [.ref qa, .int cnt, .int slo, .int shi, .ref qt, .ref qs, .ref qp, .ref qk, .ref qf, .ref ql])), (qa, .inl (kq, 8, .inr (.inr (.inr (.inr fc))))), (h1, .inr (0, [.int f0, .int f1, .long f2, .int f3, .int f4, .int f5, .int f6, .int f7, .int f8, .int f9, .int f10, .int f11]))]) sz) := by
  refine Met.ofW (cc := b_Ct_step) (maxL := 6) (ret := (some .boolean)) (by decide) rfl ?_
  intro p e s m args below meth c s₁ B hml hv
  obtain ⟨rfl, hsz, hP, hK, hD0, hN, hO⟩ := hv
  have hx := B.exec
  have hb := B.bytes
  have hr := B.returns
  have hts := fun (w : Cond) (h : w ∈ cx_tbl) => atoms_spec (ws := ws_Ct_step) B.pre w (List.mem_cons_of_mem _ h)
  have hown : s.vm.findClass R_Ct = some m.cls := findClass_of_methodNamed B.named
  have hlocks := B.notSynchronized
  subst hsz
  have hD := hD0.self (sz := s.heap.size)
  generalize hAe : va_A ([(h0, .inr (5, [.ref qa, .int cnt, .int slo, .int shi, .ref qt, .ref qs, .ref qp, .ref qk, .ref qf, .ref ql])), (qa, .inl (kq, 8, .inr (.inr (.inr (.inr fc))))), (h1, .inr (0, [.int f0, .int f1, .long f2, .int f3, .int f4, .int f5, .int f6, .int f7, .int f8, .int f9, .int f10, .int f11]))]) s.heap.size = A at hD hO ⊢
  have hA : ∀ q : Nat, s.heap.size ≤ q → A q := fun q h => by rw [← hAe]; exact Or.inr h
  have hS : va_S A s.heap s.heap [] := va_S.rf
  have hl := lv_entry ([.ref h0, .int p0, .int p1, .int p2, .int p3]) (n := 6) (Nat.le_of_ble_eq_true rfl)
  rw [lg_entry_eq]
  generalize (lg_sl ([.ref h0, .int p0, .int p1, .int p2, .int p3]) ++ List.replicate (6 - (lg_sl ([.ref h0, .int p0, .int p1, .int p2, .int p3])).length) Slot.unset).toArray = ls at hl ⊢
  have hl : lv_has ls 6 [(0, .ref h0), (1, .int p0), (2, .int p1), (3, .int p2), (4, .int p3)] := hl
  refine lv_aload_n hx hb d_Ct_step_0 rfl (lv_at hl 0 rfl) ?_
  refine lv_iload_n hx hb d_Ct_step_1 rfl (lv_at hl 1 rfl) ?_
  have hPc := hP.sub (ws' := [(h0, .inr (5, [.ref qa, .int cnt, .int slo, .int shi, .ref qt, .ref qs, .ref qp, .ref qk, .ref qf, .ref ql])), (qa, .inl (kq, 8, .inr (.inr (.inr (.inr fc)))))]) [0, 1] rfl
  have hDc := hD.sub (ws' := [(h0, .inr (5, [.ref qa, .int cnt, .int slo, .int shi, .ref qt, .ref qs, .ref qp, .ref qk, .ref qf, .ref ql])), (qa, .inl (kq, 8, .inr (.inr (.inr (.inr fc)))))]) [0, 1] (by decide) rfl
  have hKc := hK.sub (tys' := [(kq, .object "CellTests$Cell")]) [0] rfl
  have hFc := va_free (wc := [(h0, .inr (5, [.ref qa, .int cnt, .int slo, .int shi, .ref qt, .ref qs, .ref qp, .ref qk, .ref qf, .ref ql])), (qa, .inl (kq, 8, .inr (.inr (.inr (.inr fc)))))]) hD hS hA [0, 1] rfl
  refine va_csq (va_Run.run (va_runV (As := [.int p0]) (rest := [])  ⟨hx, hb, hml, hown, hts⟩ (c_Ct_cellOf l D h0 qa cnt slo shi qt qs qp qk qf ql kq fc p0 s.heap.size ) ⟨callB_of 1 hts cg_Ct_cellOf rfl rfl rfl (hts _ cw_1) (hts _ cw_262) (by decide +kernel) ⟨Nat.le_of_ble_eq_true rfl, Nat.le_of_ble_eq_true rfl⟩, hts _ cw_264, hts _ cs_0⟩ (cx_preV (C := R_Ct) [.int p0] hPc hKc hDc hN hO hS hFc (ci := 5) (q0 := 0) rfl rfl rfl) rfl rfl hl.1 rfl (lv_room (Nat.le_of_ble_eq_true rfl)) d_Ct_step_2 ⟨Nat.le_of_ble_eq_true rfl, Nat.le_of_ble_eq_true rfl⟩)) (fun r z_1 => ?_)
  subst z_1
  rw [hcell]
  refine W.eq (g2 := F0 m 5 ls [.ref h1]) rfl ?_
  refine lv_astore (lv' := [(5, .ref h1), (0, .ref h0), (1, .int p0), (2, .int p1), (3, .int p2), (4, .int p3)]) hx hb d_Ct_step_5 hl (by decide) rfl (fun ls hl => ?_)
  refine lv_aload hx hb d_Ct_step_7 (lv_at hl 0 rfl) ?_
  refine lv_ifnull hx hb d_Ct_step_9 ?_
  refine lv_aload_n hx hb d_Ct_step_12 rfl (lv_at hl 1 rfl) ?_
  refine lv_aload hx hb d_Ct_step_13 (lv_at hl 0 rfl) ?_
  have hPc := hP.sub (ws' := [(h0, .inr (5, [.ref qa, .int cnt, .int slo, .int shi, .ref qt, .ref qs, .ref qp, .ref qk, .ref qf, .ref ql])), (h1, .inr (0, [.int f0, .int f1, .long f2, .int f3, .int f4, .int f5, .int f6, .int f7, .int f8, .int f9, .int f10, .int f11]))]) [0, 2] rfl
  have hDc := hD.sub (ws' := [(h0, .inr (5, [.ref qa, .int cnt, .int slo, .int shi, .ref qt, .ref qs, .ref qp, .ref qk, .ref qf, .ref ql])), (h1, .inr (0, [.int f0, .int f1, .long f2, .int f3, .int f4, .int f5, .int f6, .int f7, .int f8, .int f9, .int f10, .int f11]))]) [0, 2] (by decide) rfl
  have hKc := hK.sub (tys' := []) [] rfl
  have hFc := va_free (wc := [(h0, .inr (5, [.ref qa, .int cnt, .int slo, .int shi, .ref qt, .ref qs, .ref qp, .ref qk, .ref qf, .ref ql])), (h1, .inr (0, [.int f0, .int f1, .long f2, .int f3, .int f4, .int f5, .int f6, .int f7, .int f8, .int f9, .int f10, .int f11]))]) hD hS hA [0, 2] rfl
  refine vp_callSi (va_Run.run (va_runV (As := [.ref h1]) (rest := [])  ⟨hx, hb, hml, hown, hts⟩ (c_Ct_isInSpan l D h0 qa cnt slo shi qt qs qp qk qf ql h1 f0 f1 f2 f3 f4 f5 f6 f7 f8 f9 f10 f11 s.heap.size ) ⟨callB_of 1 hts cg_Ct_isInSpan rfl rfl rfl (hts _ cw_1) (hts _ cw_270) (by decide +kernel) ⟨Nat.le_of_ble_eq_true rfl, Nat.le_of_ble_eq_true rfl⟩, hts _ cw_272, hts _ cs_1⟩ (cx_preV (C := R_Ct) [.ref h1] hPc hKc hDc hN hO hS hFc (ci := 5) (q0 := 0) rfl rfl rfl) rfl rfl hl.1 rfl (lv_room (Nat.le_of_ble_eq_true rfl)) d_Ct_step_15 ⟨Nat.le_of_ble_eq_true rfl, Nat.le_of_ble_eq_true rfl⟩)) (fun r z_2 => ?_)
  subst z_2
  refine lv_if_eq (tgt := 37) hx hb d_Ct_step_18 (by decide) (fun c_3 => ?_) (fun c_3 => ?_)
  · refine lv_iconst (v := 0) hx hb d_Ct_step_37 (by decide) ?_
    have hm : m_step f0 f1 f2 f3 f4 f5 f6 f7 f8 f9 f10 f11 slo shi p1 p2 p3 = (0, f0, f1, f2, f3, f4, f5, f6, f7, f8, f9, f10, f11) := by simp [m_step, eq_true c_3]
    rw [hm]
    have hP9 := hP.sub (ws' := [(h0, .inr (5, [.ref qa, .int cnt, .int slo, .int shi, .ref qt, .ref qs, .ref qp, .ref qk, .ref qf, .ref ql])), (qa, .inl (kq, 8, .inr (.inr (.inr (.inr fc))))), (h1, .inr (0, [.int f0, .int f1, .long f2, .int f3, .int f4, .int f5, .int f6, .int f7, .int f8, .int f9, .int f10, .int f11]))]) [0, 1, 2] rfl
    have hD9 := hD.sub (ws' := [(h0, .inr (5, [.ref qa, .int cnt, .int slo, .int shi, .ref qt, .ref qs, .ref qp, .ref qk, .ref qf, .ref ql])), (qa, .inl (kq, 8, .inr (.inr (.inr (.inr fc))))), (h1, .inr (0, [.int f0, .int f1, .long f2, .int f3, .int f4, .int f5, .int f6, .int f7, .int f8, .int f9, .int f10, .int f11]))]) [0, 1, 2] (by decide) rfl
    have hK9 := hK.sub (tys' := [(kq, .object "CellTests$Cell")]) [0] rfl
    exact W.zret (v := 0) hx hb hr (rfl) (fun t ht hW => ⟨⟨_, (), rfl, rfl, by rw [ht]; exact hP9, va_K.moved hW.alike hK9, hD9⟩, hS.F ht⟩) hS.2.2 d_Ct_step_38
  · refine lv_aload hx hb d_Ct_step_21 (lv_at hl 0 rfl) ?_
    refine lv_iload_n hx hb d_Ct_step_23 rfl (lv_at hl 3 rfl) ?_
    refine lv_iload_n hx hb d_Ct_step_24 rfl (lv_at hl 4 rfl) ?_
    refine lv_iload hx hb d_Ct_step_25 (lv_at hl 5 rfl) ?_
    have hPc := hP.sub (ws' := [(h1, .inr (0, [.int f0, .int f1, .long f2, .int f3, .int f4, .int f5, .int f6, .int f7, .int f8, .int f9, .int f10, .int f11]))]) [2] rfl
    have hDc := hD.sub (ws' := [(h1, .inr (0, [.int f0, .int f1, .long f2, .int f3, .int f4, .int f5, .int f6, .int f7, .int f8, .int f9, .int f10, .int f11]))]) [2] (by decide) rfl
    have hKc := hK.sub (tys' := []) [] rfl
    have hFc := va_free (wc := [(h1, .inr (0, [.int f0, .int f1, .long f2, .int f3, .int f4, .int f5, .int f6, .int f7, .int f8, .int f9, .int f10, .int f11]))]) hD hS hA [2] rfl
    refine cx_joini (wc := [(h1, .inr (0, [.int f0, .int f1, .long f2, .int f3, .int f4, .int f5, .int f6, .int f7, .int f8, .int f9, .int f10, .int f11]))]) (wr := [(h0, .inr (5, [.ref qa, .int cnt, .int slo, .int shi, .ref qt, .ref qs, .ref qp, .ref qk, .ref qf, .ref ql])), (qa, .inl (kq, 8, .inr (.inr (.inr (.inr fc)))))]) hP hD hS hA [2] [0, 1] rfl rfl (by decide) (by decide) (va_runV (As := [.int p1, .int p2, .int p3]) (rest := [])  ⟨hx, hb, hml, hown, hts⟩ (c_Cell_addStep l D h1 f0 f1 f2 f3 f4 f5 f6 f7 f8 f9 f10 f11 p1 p2 p3 s.heap.size ) ⟨callB_of 3 hts cg_Cell_addStep rfl rfl rfl (hts _ cw_11) (hts _ cw_278) (by decide +kernel) ⟨Nat.le_of_ble_eq_true rfl, Nat.le_of_ble_eq_true rfl⟩, hts _ cw_279, hts _ cw_280⟩ (cx_preV (C := R_Cell) [.int p1, .int p2, .int p3] hPc hKc hDc hN hO hS hFc (ci := 0) (q0 := 0) rfl rfl rfl) rfl rfl hl.1 rfl (lv_room (Nat.le_of_ble_eq_true rfl)) d_Ct_step_27 ⟨Nat.le_of_ble_eq_true rfl, Nat.le_of_ble_eq_true rfl⟩) (fun r _ H locs z_4 hK1 hP hD hS => ?_)
    subst z_4
    have hP : va_P D classes ([(h0, .inr (5, [.ref qa, .int cnt, .int slo, .int shi, .ref qt, .ref qs, .ref qp, .ref qk, .ref qf, .ref ql])), (qa, .inl (kq, 8, .inr (.inr (.inr (.inr fc))))), (h1, .inr (0, [.int ((m_addStep f0 f1 f2 f3 f4 f5 f6 f7 f8 f9 f10 f11 p1 p2 p3).2.1), .int ((m_addStep f0 f1 f2 f3 f4 f5 f6 f7 f8 f9 f10 f11 p1 p2 p3).2.2.1), .long ((m_addStep f0 f1 f2 f3 f4 f5 f6 f7 f8 f9 f10 f11 p1 p2 p3).2.2.2.1), .int ((m_addStep f0 f1 f2 f3 f4 f5 f6 f7 f8 f9 f10 f11 p1 p2 p3).2.2.2.2.1), .int ((m_addStep f0 f1 f2 f3 f4 f5 f6 f7 f8 f9 f10 f11 p1 p2 p3).2.2.2.2.2.1), .int ((m_addStep f0 f1 f2 f3 f4 f5 f6 f7 f8 f9 f10 f11 p1 p2 p3).2.2.2.2.2.2.1), .int ((m_addStep f0 f1 f2 f3 f4 f5 f6 f7 f8 f9 f10 f11 p1 p2 p3).2.2.2.2.2.2.2.1), .int ((m_addStep f0 f1 f2 f3 f4 f5 f6 f7 f8 f9 f10 f11 p1 p2 p3).2.2.2.2.2.2.2.2.1), .int ((m_addStep f0 f1 f2 f3 f4 f5 f6 f7 f8 f9 f10 f11 p1 p2 p3).2.2.2.2.2.2.2.2.2.1), .int ((m_addStep f0 f1 f2 f3 f4 f5 f6 f7 f8 f9 f10 f11 p1 p2 p3).2.2.2.2.2.2.2.2.2.2.1), .int ((m_addStep f0 f1 f2 f3 f4 f5 f6 f7 f8 f9 f10 f11 p1 p2 p3).2.2.2.2.2.2.2.2.2.2.2.1), .int ((m_addStep f0 f1 f2 f3 f4 f5 f6 f7 f8 f9 f10 f11 p1 p2 p3).2.2.2.2.2.2.2.2.2.2.2.2)]))]) H := hP
    have hD : va_D A ([(h0, .inr (5, [.ref qa, .int cnt, .int slo, .int shi, .ref qt, .ref qs, .ref qp, .ref qk, .ref qf, .ref ql])), (qa, .inl (kq, 8, .inr (.inr (.inr (.inr fc))))), (h1, .inr (0, [.int ((m_addStep f0 f1 f2 f3 f4 f5 f6 f7 f8 f9 f10 f11 p1 p2 p3).2.1), .int ((m_addStep f0 f1 f2 f3 f4 f5 f6 f7 f8 f9 f10 f11 p1 p2 p3).2.2.1), .long ((m_addStep f0 f1 f2 f3 f4 f5 f6 f7 f8 f9 f10 f11 p1 p2 p3).2.2.2.1), .int ((m_addStep f0 f1 f2 f3 f4 f5 f6 f7 f8 f9 f10 f11 p1 p2 p3).2.2.2.2.1), .int ((m_addStep f0 f1 f2 f3 f4 f5 f6 f7 f8 f9 f10 f11 p1 p2 p3).2.2.2.2.2.1), .int ((m_addStep f0 f1 f2 f3 f4 f5 f6 f7 f8 f9 f10 f11 p1 p2 p3).2.2.2.2.2.2.1), .int ((m_addStep f0 f1 f2 f3 f4 f5 f6 f7 f8 f9 f10 f11 p1 p2 p3).2.2.2.2.2.2.2.1), .int ((m_addStep f0 f1 f2 f3 f4 f5 f6 f7 f8 f9 f10 f11 p1 p2 p3).2.2.2.2.2.2.2.2.1), .int ((m_addStep f0 f1 f2 f3 f4 f5 f6 f7 f8 f9 f10 f11 p1 p2 p3).2.2.2.2.2.2.2.2.2.1), .int ((m_addStep f0 f1 f2 f3 f4 f5 f6 f7 f8 f9 f10 f11 p1 p2 p3).2.2.2.2.2.2.2.2.2.2.1), .int ((m_addStep f0 f1 f2 f3 f4 f5 f6 f7 f8 f9 f10 f11 p1 p2 p3).2.2.2.2.2.2.2.2.2.2.2.1), .int ((m_addStep f0 f1 f2 f3 f4 f5 f6 f7 f8 f9 f10 f11 p1 p2 p3).2.2.2.2.2.2.2.2.2.2.2.2)]))]) := hD
    refine lv_if_eq (tgt := 37) hx hb d_Ct_step_30 (by decide) (fun c_5 => ?_) (fun c_5 => ?_)
    · refine lv_iconst (v := 0) hx hb d_Ct_step_37 (by decide) ?_
      have hm : m_step f0 f1 f2 f3 f4 f5 f6 f7 f8 f9 f10 f11 slo shi p1 p2 p3 = (0, (m_addStep f0 f1 f2 f3 f4 f5 f6 f7 f8 f9 f10 f11 p1 p2 p3).2.1, (m_addStep f0 f1 f2 f3 f4 f5 f6 f7 f8 f9 f10 f11 p1 p2 p3).2.2.1, (m_addStep f0 f1 f2 f3 f4 f5 f6 f7 f8 f9 f10 f11 p1 p2 p3).2.2.2.1, (m_addStep f0 f1 f2 f3 f4 f5 f6 f7 f8 f9 f10 f11 p1 p2 p3).2.2.2.2.1, (m_addStep f0 f1 f2 f3 f4 f5 f6 f7 f8 f9 f10 f11 p1 p2 p3).2.2.2.2.2.1, (m_addStep f0 f1 f2 f3 f4 f5 f6 f7 f8 f9 f10 f11 p1 p2 p3).2.2.2.2.2.2.1, (m_addStep f0 f1 f2 f3 f4 f5 f6 f7 f8 f9 f10 f11 p1 p2 p3).2.2.2.2.2.2.2.1, (m_addStep f0 f1 f2 f3 f4 f5 f6 f7 f8 f9 f10 f11 p1 p2 p3).2.2.2.2.2.2.2.2.1, (m_addStep f0 f1 f2 f3 f4 f5 f6 f7 f8 f9 f10 f11 p1 p2 p3).2.2.2.2.2.2.2.2.2.1, (m_addStep f0 f1 f2 f3 f4 f5 f6 f7 f8 f9 f10 f11 p1 p2 p3).2.2.2.2.2.2.2.2.2.2.1, (m_addStep f0 f1 f2 f3 f4 f5 f6 f7 f8 f9 f10 f11 p1 p2 p3).2.2.2.2.2.2.2.2.2.2.2.1, (m_addStep f0 f1 f2 f3 f4 f5 f6 f7 f8 f9 f10 f11 p1 p2 p3).2.2.2.2.2.2.2.2.2.2.2.2) := by simp [m_step, eq_false c_3, eq_true c_5]
      rw [hm]
      have hP9 := hP.sub (ws' := [(h0, .inr (5, [.ref qa, .int cnt, .int slo, .int shi, .ref qt, .ref qs, .ref qp, .ref qk, .ref qf, .ref ql])), (qa, .inl (kq, 8, .inr (.inr (.inr (.inr fc))))), (h1, .inr (0, [.int ((m_addStep f0 f1 f2 f3 f4 f5 f6 f7 f8 f9 f10 f11 p1 p2 p3).2.1), .int ((m_addStep f0 f1 f2 f3 f4 f5 f6 f7 f8 f9 f10 f11 p1 p2 p3).2.2.1), .long ((m_addStep f0 f1 f2 f3 f4 f5 f6 f7 f8 f9 f10 f11 p1 p2 p3).2.2.2.1), .int ((m_addStep f0 f1 f2 f3 f4 f5 f6 f7 f8 f9 f10 f11 p1 p2 p3).2.2.2.2.1), .int ((m_addStep f0 f1 f2 f3 f4 f5 f6 f7 f8 f9 f10 f11 p1 p2 p3).2.2.2.2.2.1), .int ((m_addStep f0 f1 f2 f3 f4 f5 f6 f7 f8 f9 f10 f11 p1 p2 p3).2.2.2.2.2.2.1), .int ((m_addStep f0 f1 f2 f3 f4 f5 f6 f7 f8 f9 f10 f11 p1 p2 p3).2.2.2.2.2.2.2.1), .int ((m_addStep f0 f1 f2 f3 f4 f5 f6 f7 f8 f9 f10 f11 p1 p2 p3).2.2.2.2.2.2.2.2.1), .int ((m_addStep f0 f1 f2 f3 f4 f5 f6 f7 f8 f9 f10 f11 p1 p2 p3).2.2.2.2.2.2.2.2.2.1), .int ((m_addStep f0 f1 f2 f3 f4 f5 f6 f7 f8 f9 f10 f11 p1 p2 p3).2.2.2.2.2.2.2.2.2.2.1), .int ((m_addStep f0 f1 f2 f3 f4 f5 f6 f7 f8 f9 f10 f11 p1 p2 p3).2.2.2.2.2.2.2.2.2.2.2.1), .int ((m_addStep f0 f1 f2 f3 f4 f5 f6 f7 f8 f9 f10 f11 p1 p2 p3).2.2.2.2.2.2.2.2.2.2.2.2)]))]) [0, 1, 2] rfl
      have hD9 := hD.sub (ws' := [(h0, .inr (5, [.ref qa, .int cnt, .int slo, .int shi, .ref qt, .ref qs, .ref qp, .ref qk, .ref qf, .ref ql])), (qa, .inl (kq, 8, .inr (.inr (.inr (.inr fc))))), (h1, .inr (0, [.int ((m_addStep f0 f1 f2 f3 f4 f5 f6 f7 f8 f9 f10 f11 p1 p2 p3).2.1), .int ((m_addStep f0 f1 f2 f3 f4 f5 f6 f7 f8 f9 f10 f11 p1 p2 p3).2.2.1), .long ((m_addStep f0 f1 f2 f3 f4 f5 f6 f7 f8 f9 f10 f11 p1 p2 p3).2.2.2.1), .int ((m_addStep f0 f1 f2 f3 f4 f5 f6 f7 f8 f9 f10 f11 p1 p2 p3).2.2.2.2.1), .int ((m_addStep f0 f1 f2 f3 f4 f5 f6 f7 f8 f9 f10 f11 p1 p2 p3).2.2.2.2.2.1), .int ((m_addStep f0 f1 f2 f3 f4 f5 f6 f7 f8 f9 f10 f11 p1 p2 p3).2.2.2.2.2.2.1), .int ((m_addStep f0 f1 f2 f3 f4 f5 f6 f7 f8 f9 f10 f11 p1 p2 p3).2.2.2.2.2.2.2.1), .int ((m_addStep f0 f1 f2 f3 f4 f5 f6 f7 f8 f9 f10 f11 p1 p2 p3).2.2.2.2.2.2.2.2.1), .int ((m_addStep f0 f1 f2 f3 f4 f5 f6 f7 f8 f9 f10 f11 p1 p2 p3).2.2.2.2.2.2.2.2.2.1), .int ((m_addStep f0 f1 f2 f3 f4 f5 f6 f7 f8 f9 f10 f11 p1 p2 p3).2.2.2.2.2.2.2.2.2.2.1), .int ((m_addStep f0 f1 f2 f3 f4 f5 f6 f7 f8 f9 f10 f11 p1 p2 p3).2.2.2.2.2.2.2.2.2.2.2.1), .int ((m_addStep f0 f1 f2 f3 f4 f5 f6 f7 f8 f9 f10 f11 p1 p2 p3).2.2.2.2.2.2.2.2.2.2.2.2)]))]) [0, 1, 2] (by decide) rfl
      have hK9 := hK.sub (tys' := [(kq, .object "CellTests$Cell")]) [0] rfl
      exact W.zret (v := 0) hx hb hr (rfl) (fun t ht hW => ⟨⟨_, (), rfl, rfl, by rw [ht]; exact hP9, va_K.moved hW.alike hK9, hD9⟩, hS.F ht⟩) hS.2.2 d_Ct_step_38
    · refine lv_iconst (v := 1) hx hb d_Ct_step_33 (by decide) ?_
      refine lv_goto (tgt := 38) hx hb d_Ct_step_34 (by decide) ?_
      have hm : m_step f0 f1 f2 f3 f4 f5 f6 f7 f8 f9 f10 f11 slo shi p1 p2 p3 = (1, (m_addStep f0 f1 f2 f3 f4 f5 f6 f7 f8 f9 f10 f11 p1 p2 p3).2.1, (m_addStep f0 f1 f2 f3 f4 f5 f6 f7 f8 f9 f10 f11 p1 p2 p3).2.2.1, (m_addStep f0 f1 f2 f3 f4 f5 f6 f7 f8 f9 f10 f11 p1 p2 p3).2.2.2.1, (m_addStep f0 f1 f2 f3 f4 f5 f6 f7 f8 f9 f10 f11 p1 p2 p3).2.2.2.2.1, (m_addStep f0 f1 f2 f3 f4 f5 f6 f7 f8 f9 f10 f11 p1 p2 p3).2.2.2.2.2.1, (m_addStep f0 f1 f2 f3 f4 f5 f6 f7 f8 f9 f10 f11 p1 p2 p3).2.2.2.2.2.2.1, (m_addStep f0 f1 f2 f3 f4 f5 f6 f7 f8 f9 f10 f11 p1 p2 p3).2.2.2.2.2.2.2.1, (m_addStep f0 f1 f2 f3 f4 f5 f6 f7 f8 f9 f10 f11 p1 p2 p3).2.2.2.2.2.2.2.2.1, (m_addStep f0 f1 f2 f3 f4 f5 f6 f7 f8 f9 f10 f11 p1 p2 p3).2.2.2.2.2.2.2.2.2.1, (m_addStep f0 f1 f2 f3 f4 f5 f6 f7 f8 f9 f10 f11 p1 p2 p3).2.2.2.2.2.2.2.2.2.2.1, (m_addStep f0 f1 f2 f3 f4 f5 f6 f7 f8 f9 f10 f11 p1 p2 p3).2.2.2.2.2.2.2.2.2.2.2.1, (m_addStep f0 f1 f2 f3 f4 f5 f6 f7 f8 f9 f10 f11 p1 p2 p3).2.2.2.2.2.2.2.2.2.2.2.2) := by simp [m_step, eq_false c_3, eq_false c_5]
      rw [hm]
      have hP9 := hP.sub (ws' := [(h0, .inr (5, [.ref qa, .int cnt, .int slo, .int shi, .ref qt, .ref qs, .ref qp, .ref qk, .ref qf, .ref ql])), (qa, .inl (kq, 8, .inr (.inr (.inr (.inr fc))))), (h1, .inr (0, [.int ((m_addStep f0 f1 f2 f3 f4 f5 f6 f7 f8 f9 f10 f11 p1 p2 p3).2.1), .int ((m_addStep f0 f1 f2 f3 f4 f5 f6 f7 f8 f9 f10 f11 p1 p2 p3).2.2.1), .long ((m_addStep f0 f1 f2 f3 f4 f5 f6 f7 f8 f9 f10 f11 p1 p2 p3).2.2.2.1), .int ((m_addStep f0 f1 f2 f3 f4 f5 f6 f7 f8 f9 f10 f11 p1 p2 p3).2.2.2.2.1), .int ((m_addStep f0 f1 f2 f3 f4 f5 f6 f7 f8 f9 f10 f11 p1 p2 p3).2.2.2.2.2.1), .int ((m_addStep f0 f1 f2 f3 f4 f5 f6 f7 f8 f9 f10 f11 p1 p2 p3).2.2.2.2.2.2.1), .int ((m_addStep f0 f1 f2 f3 f4 f5 f6 f7 f8 f9 f10 f11 p1 p2 p3).2.2.2.2.2.2.2.1), .int ((m_addStep f0 f1 f2 f3 f4 f5 f6 f7 f8 f9 f10 f11 p1 p2 p3).2.2.2.2.2.2.2.2.1), .int ((m_addStep f0 f1 f2 f3 f4 f5 f6 f7 f8 f9 f10 f11 p1 p2 p3).2.2.2.2.2.2.2.2.2.1), .int ((m_addStep f0 f1 f2 f3 f4 f5 f6 f7 f8 f9 f10 f11 p1 p2 p3).2.2.2.2.2.2.2.2.2.2.1), .int ((m_addStep f0 f1 f2 f3 f4 f5 f6 f7 f8 f9 f10 f11 p1 p2 p3).2.2.2.2.2.2.2.2.2.2.2.1), .int ((m_addStep f0 f1 f2 f3 f4 f5 f6 f7 f8 f9 f10 f11 p1 p2 p3).2.2.2.2.2.2.2.2.2.2.2.2)]))]) [0, 1, 2] rfl
      have hD9 := hD.sub (ws' := [(h0, .inr (5, [.ref qa, .int cnt, .int slo, .int shi, .ref qt, .ref qs, .ref qp, .ref qk, .ref qf, .ref ql])), (qa, .inl (kq, 8, .inr (.inr (.inr (.inr fc))))), (h1, .inr (0, [.int ((m_addStep f0 f1 f2 f3 f4 f5 f6 f7 f8 f9 f10 f11 p1 p2 p3).2.1), .int ((m_addStep f0 f1 f2 f3 f4 f5 f6 f7 f8 f9 f10 f11 p1 p2 p3).2.2.1), .long ((m_addStep f0 f1 f2 f3 f4 f5 f6 f7 f8 f9 f10 f11 p1 p2 p3).2.2.2.1), .int ((m_addStep f0 f1 f2 f3 f4 f5 f6 f7 f8 f9 f10 f11 p1 p2 p3).2.2.2.2.1), .int ((m_addStep f0 f1 f2 f3 f4 f5 f6 f7 f8 f9 f10 f11 p1 p2 p3).2.2.2.2.2.1), .int ((m_addStep f0 f1 f2 f3 f4 f5 f6 f7 f8 f9 f10 f11 p1 p2 p3).2.2.2.2.2.2.1), .int ((m_addStep f0 f1 f2 f3 f4 f5 f6 f7 f8 f9 f10 f11 p1 p2 p3).2.2.2.2.2.2.2.1), .int ((m_addStep f0 f1 f2 f3 f4 f5 f6 f7 f8 f9 f10 f11 p1 p2 p3).2.2.2.2.2.2.2.2.1), .int ((m_addStep f0 f1 f2 f3 f4 f5 f6 f7 f8 f9 f10 f11 p1 p2 p3).2.2.2.2.2.2.2.2.2.1), .int ((m_addStep f0 f1 f2 f3 f4 f5 f6 f7 f8 f9 f10 f11 p1 p2 p3).2.2.2.2.2.2.2.2.2.2.1), .int ((m_addStep f0 f1 f2 f3 f4 f5 f6 f7 f8 f9 f10 f11 p1 p2 p3).2.2.2.2.2.2.2.2.2.2.2.1), .int ((m_addStep f0 f1 f2 f3 f4 f5 f6 f7 f8 f9 f10 f11 p1 p2 p3).2.2.2.2.2.2.2.2.2.2.2.2)]))]) [0, 1, 2] (by decide) rfl
      have hK9 := hK.sub (tys' := [(kq, .object "CellTests$Cell")]) [0] rfl
      exact W.zret (v := 1) hx hb hr (rfl) (fun t ht hW => ⟨⟨_, (), rfl, rfl, by rw [ht]; exact hP9, va_K.moved hW.alike hK9, hD9⟩, hS.F ht⟩) hS.2.2 d_Ct_step_38

set_option maxHeartbeats 4000000 in
set_option maxRecDepth 100000 in
theorem c_Ct_rest_n (l : Launch) (D : va_G)  (h0 : Nat) (qa : Nat) (cnt : Int32) (slo : Int32) (shi : Int32) (qt : Nat) (qs : Nat) (qp : Nat) (qk : Nat) (qf : Nat) (ql : Nat) (kq : ClassId) (fc : Nat → Option Nat) (p0 : Int32) (p1 : Int32) (p2 : Int32) (sz : Nat) (hcell : m_cellOf cnt fc p0 = none) : Met l y_Ct_rest ws_Ct_rest ({ frames := 2, cells := 0, slots := 0, locals := 47 }) (va_Pc [.ref h0, .int p0, .int p1, .int p2] (cx_pre D [(kq, .object "CellTests$Cell")] ([(h0, .inr (5, [.ref qa, .int cnt, .int slo, .int shi, .ref qt, .ref qs, .ref qp, .ref qk, .ref qf, .ref ql])), (qa, .inl (kq, 8, .inr (.inr (.inr (.inr fc)))))]) sz)) (vp_Si (fun r9 => r9 = 0)) 0 0 (fun _ => False) := by
  refine Met.ofW (cc := b_Ct_rest) (maxL := 5) (ret := (some .boolean)) (by decide) rfl ?_
  intro p e s m args below meth c s₁ B hml hv
  obtain ⟨rfl, hsz, hP, hK, hD0, hN, hO⟩ := hv
  have hx := B.exec
  have hb := B.bytes
  have hr := B.returns
  have hts := fun (w : Cond) (h : w ∈ cx_tbl) => atoms_spec (ws := ws_Ct_rest) B.pre w (List.mem_cons_of_mem _ h)
  have hown : s.vm.findClass R_Ct = some m.cls := findClass_of_methodNamed B.named
  have hlocks := B.notSynchronized
  subst hsz
  have hD := hD0.self (sz := s.heap.size)
  generalize hAe : va_A ([(h0, .inr (5, [.ref qa, .int cnt, .int slo, .int shi, .ref qt, .ref qs, .ref qp, .ref qk, .ref qf, .ref ql])), (qa, .inl (kq, 8, .inr (.inr (.inr (.inr fc)))))]) s.heap.size = A at hD hO
  have hA : ∀ q : Nat, s.heap.size ≤ q → A q := fun q h => by rw [← hAe]; exact Or.inr h
  have hS : va_S A s.heap s.heap [] := va_S.rf
  have hl := lv_entry ([.ref h0, .int p0, .int p1, .int p2]) (n := 5) (Nat.le_of_ble_eq_true rfl)
  rw [lg_entry_eq]
  generalize (lg_sl ([.ref h0, .int p0, .int p1, .int p2]) ++ List.replicate (5 - (lg_sl ([.ref h0, .int p0, .int p1, .int p2])).length) Slot.unset).toArray = ls at hl ⊢
  have hl : lv_has ls 5 [(0, .ref h0), (1, .int p0), (2, .int p1), (3, .int p2)] := hl
  refine lv_aload_n hx hb d_Ct_rest_0 rfl (lv_at hl 0 rfl) ?_
  refine lv_iload_n hx hb d_Ct_rest_1 rfl (lv_at hl 1 rfl) ?_
  have hPc := hP.sub (ws' := [(h0, .inr (5, [.ref qa, .int cnt, .int slo, .int shi, .ref qt, .ref qs, .ref qp, .ref qk, .ref qf, .ref ql])), (qa, .inl (kq, 8, .inr (.inr (.inr (.inr fc)))))]) [0, 1] rfl
  have hDc := hD.sub (ws' := [(h0, .inr (5, [.ref qa, .int cnt, .int slo, .int shi, .ref qt, .ref qs, .ref qp, .ref qk, .ref qf, .ref ql])), (qa, .inl (kq, 8, .inr (.inr (.inr (.inr fc)))))]) [0, 1] (by decide) rfl
  have hKc := hK.sub (tys' := [(kq, .object "CellTests$Cell")]) [0] rfl
  have hFc := va_free (wc := [(h0, .inr (5, [.ref qa, .int cnt, .int slo, .int shi, .ref qt, .ref qs, .ref qp, .ref qk, .ref qf, .ref ql])), (qa, .inl (kq, 8, .inr (.inr (.inr (.inr fc)))))]) hD hS hA [0, 1] rfl
  refine va_csq (va_Run.run (va_runV (As := [.int p0]) (rest := [])  ⟨hx, hb, hml, hown, hts⟩ (c_Ct_cellOf l D h0 qa cnt slo shi qt qs qp qk qf ql kq fc p0 s.heap.size ) ⟨callB_of 1 hts cg_Ct_cellOf rfl rfl rfl (hts _ cw_1) (hts _ cw_262) (by decide +kernel) ⟨Nat.le_of_ble_eq_true rfl, Nat.le_of_ble_eq_true rfl⟩, hts _ cw_264, hts _ cs_0⟩ (cx_preV (C := R_Ct) [.int p0] hPc hKc hDc hN hO hS hFc (ci := 5) (q0 := 0) rfl rfl rfl) rfl rfl hl.1 rfl (lv_room (Nat.le_of_ble_eq_true rfl)) d_Ct_rest_2 ⟨Nat.le_of_ble_eq_true rfl, Nat.le_of_ble_eq_true rfl⟩)) (fun r z_1 => ?_)
  subst z_1
  rw [hcell]
  refine W.eq (g2 := F0 m 5 ls [.null]) rfl ?_
  refine lv_astoreN (lv' := [(4, .null), (0, .ref h0), (1, .int p0), (2, .int p1), (3, .int p2)]) hx hb d_Ct_rest_5 hl (by decide) rfl (fun ls hl => ?_)
  refine lv_aloadN hx hb d_Ct_rest_7 (lv_at hl 0 rfl) ?_
  refine lv_ifnullN (tgt := 26) hx hb d_Ct_rest_9 (by decide) ?_
  refine lv_iconst (v := 0) hx hb d_Ct_rest_26 (by decide) ?_
  exact W.zret (v := 0) hx hb hr (rfl) (fun t ht hW => ⟨_, rfl, rfl, ht⟩) (fun q h => by cases h) d_Ct_rest_27

set_option maxHeartbeats 4000000 in
set_option maxRecDepth 100000 in
theorem c_Ct_rest (l : Launch) (D : va_G)  (h0 : Nat) (qa : Nat) (cnt : Int32) (slo : Int32) (shi : Int32) (qt : Nat) (qs : Nat) (qp : Nat) (qk : Nat) (qf : Nat) (ql : Nat) (kq : ClassId) (fc : Nat → Option Nat) (h1 : Nat) (f0 : Int32) (f1 : Int32) (f2 : Int64) (f3 : Int32) (f4 : Int32) (f5 : Int32) (f6 : Int32) (f7 : Int32) (f8 : Int32) (f9 : Int32) (f10 : Int32) (f11 : Int32) (p0 : Int32) (p1 : Int32) (p2 : Int32) (sz : Nat) (hcell : m_cellOf cnt fc p0 = some h1) : Met l y_Ct_rest ws_Ct_rest ({ frames := 2, cells := 0, slots := 0, locals := 47 }) (va_Pc [.ref h0, .int p0, .int p1, .int p2] (cx_pre D [(kq, .object "CellTests$Cell")] ([(h0, .inr (5, [.ref qa, .int cnt, .int slo, .int shi, .ref qt, .ref qs, .ref qp, .ref qk, .ref qf, .ref ql])), (qa, .inl (kq, 8, .inr (.inr (.inr (.inr fc))))), (h1, .inr (0, [.int f0, .int f1, .long f2, .int f3, .int f4, .int f5, .int f6, .int f7, .int f8, .int f9, .int f10, .int f11]))]) sz)) (va_Qi (fun r9 _ => r9 = (m_rest f0 f1 f2 f3 f4 f5 f6 f7 f8 f9 f10 f11 p1 p2).1) (fun (_ : Unit) t => cx_end D [(kq, .object "CellTests$Cell")] (va_A ([(h0, .inr (5, [.ref qa, .int cnt, .int slo, .int shi, .ref qt, .ref qs, .ref qp, .ref qk, .ref qf, .ref ql])), (qa, .inl (kq, 8, .inr (.inr (.inr (.inr fc))))), (h1, .inr (0, [.int f0, .int f1, .long f2, .int f3, .int f4, .int f5, .int f6, .int f7, .int f8, .int f9, .int f10, .int f11]))]) sz) ([(h0, .inr (5, [.ref qa, .int cnt, .int slo, .int shi, .ref qt, .ref qs, .ref qp, .ref qk, .ref qf, .ref ql])), (qa, .inl (kq, 8, .inr (.inr (.inr (.inr fc))))), (h1, .inr (0, [.int ((m_rest f0 f1 f2 f3 f4 f5 f6 f7 f8 f9 f10 f11 p1 p2).2.1), .int ((m_rest f0 f1 f2 f3 f4 f5 f6 f7 f8 f9 f10 f11 p1 p2).2.2.1), .long ((m_rest f0 f1 f2 f3 f4 f5 f6 f7 f8 f9 f10 f11 p1 p2).2.2.2.1), .int ((m_rest f0 f1 f2 f3 f4 f5 f6 f7 f8 f9 f10 f11 p1 p2).2.2.2.2.1), .int ((m_rest f0 f1 f2 f3 f4 f5 f6 f7 f8 f9 f10 f11 p1 p2).2.2.2.2.2.1), .int ((m_rest f0 f1 f2 f3 f4 f5 f6 f7 f8 f9 f10 f11 p1 p2).2.2.2.2.2.2.1), .int ((m_rest f0 f1 f2 f3 f4 f5 f6 f7 f8 f9 f10 f11 p1 p2).2.2.2.2.2.2.2.1), .int ((m_rest f0 f1 f2 f3 f4 f5 f6 f7 f8 f9 f10 f11 p1 p2).2.2.2.2.2.2.2.2.1), .int ((m_rest f0 f1 f2 f3 f4 f5 f6 f7 f8 f9 f10 f11 p1 p2).2.2.2.2.2.2.2.2.2.1), .int ((m_rest f0 f1 f2 f3 f4 f5 f6 f7 f8 f9 f10 f11 p1 p2).2.2.2.2.2.2.2.2.2.2.1), .int ((m_rest f0 f1 f2 f3 f4 f5 f6 f7 f8 f9 f10 f11 p1 p2).2.2.2.2.2.2.2.2.2.2.2.1), .int ((m_rest f0 f1 f2 f3 f4 f5 f6 f7 f8 f9 f10 f11 p1 p2).2.2.2.2.2.2.2.2.2.2.2.2)]))]) t) (va_A ([(h0, .inr (5, [.ref qa, .int cnt, .int slo, .int shi, .ref qt, .ref qs, .ref qp, .ref qk, .ref qf, .ref ql])), (qa, .inl (kq, 8, .inr (.inr (.inr (.inr fc))))), (h1, .inr (0, [.int f0, .int f1, .long f2, .int f3, .int f4, .int f5, .int f6, .int f7, .int f8, .int f9, .int f10, .int f11]))]) sz)) 0 0 (va_A ([(h0, .inr (5, [.ref qa, .int cnt, .int slo, .int shi, .ref qt, .ref qs, .ref qp, .ref qk, .ref qf, .ref ql])), (qa, .inl (kq, 8, .inr (.inr (.inr (.inr fc))))), (h1, .inr (0, [.int f0, .int f1, .long f2, .int f3, .int f4, .int f5, .int f6, .int f7, .int f8, .int f9, .int f10, .int f11]))]) sz) := by
  refine Met.ofW (cc := b_Ct_rest) (maxL := 5) (ret := (some .boolean)) (by decide) rfl ?_
  intro p e s m args below meth c s₁ B hml hv
  obtain ⟨rfl, hsz, hP, hK, hD0, hN, hO⟩ := hv
  have hx := B.exec
  have hb := B.bytes
  have hr := B.returns
  have hts := fun (w : Cond) (h : w ∈ cx_tbl) => atoms_spec (ws := ws_Ct_rest) B.pre w (List.mem_cons_of_mem _ h)
  have hown : s.vm.findClass R_Ct = some m.cls := findClass_of_methodNamed B.named
  have hlocks := B.notSynchronized
  subst hsz
  have hD := hD0.self (sz := s.heap.size)
  generalize hAe : va_A ([(h0, .inr (5, [.ref qa, .int cnt, .int slo, .int shi, .ref qt, .ref qs, .ref qp, .ref qk, .ref qf, .ref ql])), (qa, .inl (kq, 8, .inr (.inr (.inr (.inr fc))))), (h1, .inr (0, [.int f0, .int f1, .long f2, .int f3, .int f4, .int f5, .int f6, .int f7, .int f8, .int f9, .int f10, .int f11]))]) s.heap.size = A at hD hO ⊢
  have hA : ∀ q : Nat, s.heap.size ≤ q → A q := fun q h => by rw [← hAe]; exact Or.inr h
  have hS : va_S A s.heap s.heap [] := va_S.rf
  have hl := lv_entry ([.ref h0, .int p0, .int p1, .int p2]) (n := 5) (Nat.le_of_ble_eq_true rfl)
  rw [lg_entry_eq]
  generalize (lg_sl ([.ref h0, .int p0, .int p1, .int p2]) ++ List.replicate (5 - (lg_sl ([.ref h0, .int p0, .int p1, .int p2])).length) Slot.unset).toArray = ls at hl ⊢
  have hl : lv_has ls 5 [(0, .ref h0), (1, .int p0), (2, .int p1), (3, .int p2)] := hl
  refine lv_aload_n hx hb d_Ct_rest_0 rfl (lv_at hl 0 rfl) ?_
  refine lv_iload_n hx hb d_Ct_rest_1 rfl (lv_at hl 1 rfl) ?_
  have hPc := hP.sub (ws' := [(h0, .inr (5, [.ref qa, .int cnt, .int slo, .int shi, .ref qt, .ref qs, .ref qp, .ref qk, .ref qf, .ref ql])), (qa, .inl (kq, 8, .inr (.inr (.inr (.inr fc)))))]) [0, 1] rfl
  have hDc := hD.sub (ws' := [(h0, .inr (5, [.ref qa, .int cnt, .int slo, .int shi, .ref qt, .ref qs, .ref qp, .ref qk, .ref qf, .ref ql])), (qa, .inl (kq, 8, .inr (.inr (.inr (.inr fc)))))]) [0, 1] (by decide) rfl
  have hKc := hK.sub (tys' := [(kq, .object "CellTests$Cell")]) [0] rfl
  have hFc := va_free (wc := [(h0, .inr (5, [.ref qa, .int cnt, .int slo, .int shi, .ref qt, .ref qs, .ref qp, .ref qk, .ref qf, .ref ql])), (qa, .inl (kq, 8, .inr (.inr (.inr (.inr fc)))))]) hD hS hA [0, 1] rfl
  refine va_csq (va_Run.run (va_runV (As := [.int p0]) (rest := [])  ⟨hx, hb, hml, hown, hts⟩ (c_Ct_cellOf l D h0 qa cnt slo shi qt qs qp qk qf ql kq fc p0 s.heap.size ) ⟨callB_of 1 hts cg_Ct_cellOf rfl rfl rfl (hts _ cw_1) (hts _ cw_262) (by decide +kernel) ⟨Nat.le_of_ble_eq_true rfl, Nat.le_of_ble_eq_true rfl⟩, hts _ cw_264, hts _ cs_0⟩ (cx_preV (C := R_Ct) [.int p0] hPc hKc hDc hN hO hS hFc (ci := 5) (q0 := 0) rfl rfl rfl) rfl rfl hl.1 rfl (lv_room (Nat.le_of_ble_eq_true rfl)) d_Ct_rest_2 ⟨Nat.le_of_ble_eq_true rfl, Nat.le_of_ble_eq_true rfl⟩)) (fun r z_1 => ?_)
  subst z_1
  rw [hcell]
  refine W.eq (g2 := F0 m 5 ls [.ref h1]) rfl ?_
  refine lv_astore (lv' := [(4, .ref h1), (0, .ref h0), (1, .int p0), (2, .int p1), (3, .int p2)]) hx hb d_Ct_rest_5 hl (by decide) rfl (fun ls hl => ?_)
  refine lv_aload hx hb d_Ct_rest_7 (lv_at hl 0 rfl) ?_
  refine lv_ifnull hx hb d_Ct_rest_9 ?_
  refine lv_aload hx hb d_Ct_rest_12 (lv_at hl 0 rfl) ?_
  refine lv_iload_n hx hb d_Ct_rest_14 rfl (lv_at hl 3 rfl) ?_
  refine lv_iload_n hx hb d_Ct_rest_15 rfl (lv_at hl 4 rfl) ?_
  have hPc := hP.sub (ws' := [(h1, .inr (0, [.int f0, .int f1, .long f2, .int f3, .int f4, .int f5, .int f6, .int f7, .int f8, .int f9, .int f10, .int f11]))]) [2] rfl
  have hDc := hD.sub (ws' := [(h1, .inr (0, [.int f0, .int f1, .long f2, .int f3, .int f4, .int f5, .int f6, .int f7, .int f8, .int f9, .int f10, .int f11]))]) [2] (by decide) rfl
  have hKc := hK.sub (tys' := []) [] rfl
  have hFc := va_free (wc := [(h1, .inr (0, [.int f0, .int f1, .long f2, .int f3, .int f4, .int f5, .int f6, .int f7, .int f8, .int f9, .int f10, .int f11]))]) hD hS hA [2] rfl
  refine cx_joini (wc := [(h1, .inr (0, [.int f0, .int f1, .long f2, .int f3, .int f4, .int f5, .int f6, .int f7, .int f8, .int f9, .int f10, .int f11]))]) (wr := [(h0, .inr (5, [.ref qa, .int cnt, .int slo, .int shi, .ref qt, .ref qs, .ref qp, .ref qk, .ref qf, .ref ql])), (qa, .inl (kq, 8, .inr (.inr (.inr (.inr fc)))))]) hP hD hS hA [2] [0, 1] rfl rfl (by decide) (by decide) (va_runV (As := [.int p1, .int p2]) (rest := [])  ⟨hx, hb, hml, hown, hts⟩ (c_Cell_addRest l D h1 f0 f1 f2 f3 f4 f5 f6 f7 f8 f9 f10 f11 p1 p2 s.heap.size ) ⟨callB_of 2 hts cg_Cell_addRest rfl rfl rfl (hts _ cw_11) (hts _ cw_293) (by decide +kernel) ⟨Nat.le_of_ble_eq_true rfl, Nat.le_of_ble_eq_true rfl⟩, hts _ cw_294, hts _ cw_295⟩ (cx_preV (C := R_Cell) [.int p1, .int p2] hPc hKc hDc hN hO hS hFc (ci := 0) (q0 := 0) rfl rfl rfl) rfl rfl hl.1 rfl (lv_room (Nat.le_of_ble_eq_true rfl)) d_Ct_rest_16 ⟨Nat.le_of_ble_eq_true rfl, Nat.le_of_ble_eq_true rfl⟩) (fun r _ H locs z_2 hK1 hP hD hS => ?_)
  subst z_2
  have hP : va_P D classes ([(h0, .inr (5, [.ref qa, .int cnt, .int slo, .int shi, .ref qt, .ref qs, .ref qp, .ref qk, .ref qf, .ref ql])), (qa, .inl (kq, 8, .inr (.inr (.inr (.inr fc))))), (h1, .inr (0, [.int ((m_addRest f0 f1 f2 f3 f4 f5 f6 f7 f8 f9 f10 f11 p1 p2).2.1), .int ((m_addRest f0 f1 f2 f3 f4 f5 f6 f7 f8 f9 f10 f11 p1 p2).2.2.1), .long ((m_addRest f0 f1 f2 f3 f4 f5 f6 f7 f8 f9 f10 f11 p1 p2).2.2.2.1), .int ((m_addRest f0 f1 f2 f3 f4 f5 f6 f7 f8 f9 f10 f11 p1 p2).2.2.2.2.1), .int ((m_addRest f0 f1 f2 f3 f4 f5 f6 f7 f8 f9 f10 f11 p1 p2).2.2.2.2.2.1), .int ((m_addRest f0 f1 f2 f3 f4 f5 f6 f7 f8 f9 f10 f11 p1 p2).2.2.2.2.2.2.1), .int ((m_addRest f0 f1 f2 f3 f4 f5 f6 f7 f8 f9 f10 f11 p1 p2).2.2.2.2.2.2.2.1), .int ((m_addRest f0 f1 f2 f3 f4 f5 f6 f7 f8 f9 f10 f11 p1 p2).2.2.2.2.2.2.2.2.1), .int ((m_addRest f0 f1 f2 f3 f4 f5 f6 f7 f8 f9 f10 f11 p1 p2).2.2.2.2.2.2.2.2.2.1), .int ((m_addRest f0 f1 f2 f3 f4 f5 f6 f7 f8 f9 f10 f11 p1 p2).2.2.2.2.2.2.2.2.2.2.1), .int ((m_addRest f0 f1 f2 f3 f4 f5 f6 f7 f8 f9 f10 f11 p1 p2).2.2.2.2.2.2.2.2.2.2.2.1), .int ((m_addRest f0 f1 f2 f3 f4 f5 f6 f7 f8 f9 f10 f11 p1 p2).2.2.2.2.2.2.2.2.2.2.2.2)]))]) H := hP
  have hD : va_D A ([(h0, .inr (5, [.ref qa, .int cnt, .int slo, .int shi, .ref qt, .ref qs, .ref qp, .ref qk, .ref qf, .ref ql])), (qa, .inl (kq, 8, .inr (.inr (.inr (.inr fc))))), (h1, .inr (0, [.int ((m_addRest f0 f1 f2 f3 f4 f5 f6 f7 f8 f9 f10 f11 p1 p2).2.1), .int ((m_addRest f0 f1 f2 f3 f4 f5 f6 f7 f8 f9 f10 f11 p1 p2).2.2.1), .long ((m_addRest f0 f1 f2 f3 f4 f5 f6 f7 f8 f9 f10 f11 p1 p2).2.2.2.1), .int ((m_addRest f0 f1 f2 f3 f4 f5 f6 f7 f8 f9 f10 f11 p1 p2).2.2.2.2.1), .int ((m_addRest f0 f1 f2 f3 f4 f5 f6 f7 f8 f9 f10 f11 p1 p2).2.2.2.2.2.1), .int ((m_addRest f0 f1 f2 f3 f4 f5 f6 f7 f8 f9 f10 f11 p1 p2).2.2.2.2.2.2.1), .int ((m_addRest f0 f1 f2 f3 f4 f5 f6 f7 f8 f9 f10 f11 p1 p2).2.2.2.2.2.2.2.1), .int ((m_addRest f0 f1 f2 f3 f4 f5 f6 f7 f8 f9 f10 f11 p1 p2).2.2.2.2.2.2.2.2.1), .int ((m_addRest f0 f1 f2 f3 f4 f5 f6 f7 f8 f9 f10 f11 p1 p2).2.2.2.2.2.2.2.2.2.1), .int ((m_addRest f0 f1 f2 f3 f4 f5 f6 f7 f8 f9 f10 f11 p1 p2).2.2.2.2.2.2.2.2.2.2.1), .int ((m_addRest f0 f1 f2 f3 f4 f5 f6 f7 f8 f9 f10 f11 p1 p2).2.2.2.2.2.2.2.2.2.2.2.1), .int ((m_addRest f0 f1 f2 f3 f4 f5 f6 f7 f8 f9 f10 f11 p1 p2).2.2.2.2.2.2.2.2.2.2.2.2)]))]) := hD
  refine lv_if_eq (tgt := 26) hx hb d_Ct_rest_19 (by decide) (fun c_3 => ?_) (fun c_3 => ?_)
  · refine lv_iconst (v := 0) hx hb d_Ct_rest_26 (by decide) ?_
    have hm : m_rest f0 f1 f2 f3 f4 f5 f6 f7 f8 f9 f10 f11 p1 p2 = (0, (m_addRest f0 f1 f2 f3 f4 f5 f6 f7 f8 f9 f10 f11 p1 p2).2.1, (m_addRest f0 f1 f2 f3 f4 f5 f6 f7 f8 f9 f10 f11 p1 p2).2.2.1, (m_addRest f0 f1 f2 f3 f4 f5 f6 f7 f8 f9 f10 f11 p1 p2).2.2.2.1, (m_addRest f0 f1 f2 f3 f4 f5 f6 f7 f8 f9 f10 f11 p1 p2).2.2.2.2.1, (m_addRest f0 f1 f2 f3 f4 f5 f6 f7 f8 f9 f10 f11 p1 p2).2.2.2.2.2.1, (m_addRest f0 f1 f2 f3 f4 f5 f6 f7 f8 f9 f10 f11 p1 p2).2.2.2.2.2.2.1, (m_addRest f0 f1 f2 f3 f4 f5 f6 f7 f8 f9 f10 f11 p1 p2).2.2.2.2.2.2.2.1, (m_addRest f0 f1 f2 f3 f4 f5 f6 f7 f8 f9 f10 f11 p1 p2).2.2.2.2.2.2.2.2.1, (m_addRest f0 f1 f2 f3 f4 f5 f6 f7 f8 f9 f10 f11 p1 p2).2.2.2.2.2.2.2.2.2.1, (m_addRest f0 f1 f2 f3 f4 f5 f6 f7 f8 f9 f10 f11 p1 p2).2.2.2.2.2.2.2.2.2.2.1, (m_addRest f0 f1 f2 f3 f4 f5 f6 f7 f8 f9 f10 f11 p1 p2).2.2.2.2.2.2.2.2.2.2.2.1, (m_addRest f0 f1 f2 f3 f4 f5 f6 f7 f8 f9 f10 f11 p1 p2).2.2.2.2.2.2.2.2.2.2.2.2) := by simp [m_rest, eq_true c_3]
    rw [hm]
    have hP9 := hP.sub (ws' := [(h0, .inr (5, [.ref qa, .int cnt, .int slo, .int shi, .ref qt, .ref qs, .ref qp, .ref qk, .ref qf, .ref ql])), (qa, .inl (kq, 8, .inr (.inr (.inr (.inr fc))))), (h1, .inr (0, [.int ((m_addRest f0 f1 f2 f3 f4 f5 f6 f7 f8 f9 f10 f11 p1 p2).2.1), .int ((m_addRest f0 f1 f2 f3 f4 f5 f6 f7 f8 f9 f10 f11 p1 p2).2.2.1), .long ((m_addRest f0 f1 f2 f3 f4 f5 f6 f7 f8 f9 f10 f11 p1 p2).2.2.2.1), .int ((m_addRest f0 f1 f2 f3 f4 f5 f6 f7 f8 f9 f10 f11 p1 p2).2.2.2.2.1), .int ((m_addRest f0 f1 f2 f3 f4 f5 f6 f7 f8 f9 f10 f11 p1 p2).2.2.2.2.2.1), .int ((m_addRest f0 f1 f2 f3 f4 f5 f6 f7 f8 f9 f10 f11 p1 p2).2.2.2.2.2.2.1), .int ((m_addRest f0 f1 f2 f3 f4 f5 f6 f7 f8 f9 f10 f11 p1 p2).2.2.2.2.2.2.2.1), .int ((m_addRest f0 f1 f2 f3 f4 f5 f6 f7 f8 f9 f10 f11 p1 p2).2.2.2.2.2.2.2.2.1), .int ((m_addRest f0 f1 f2 f3 f4 f5 f6 f7 f8 f9 f10 f11 p1 p2).2.2.2.2.2.2.2.2.2.1), .int ((m_addRest f0 f1 f2 f3 f4 f5 f6 f7 f8 f9 f10 f11 p1 p2).2.2.2.2.2.2.2.2.2.2.1), .int ((m_addRest f0 f1 f2 f3 f4 f5 f6 f7 f8 f9 f10 f11 p1 p2).2.2.2.2.2.2.2.2.2.2.2.1), .int ((m_addRest f0 f1 f2 f3 f4 f5 f6 f7 f8 f9 f10 f11 p1 p2).2.2.2.2.2.2.2.2.2.2.2.2)]))]) [0, 1, 2] rfl
    have hD9 := hD.sub (ws' := [(h0, .inr (5, [.ref qa, .int cnt, .int slo, .int shi, .ref qt, .ref qs, .ref qp, .ref qk, .ref qf, .ref ql])), (qa, .inl (kq, 8, .inr (.inr (.inr (.inr fc))))), (h1, .inr (0, [.int ((m_addRest f0 f1 f2 f3 f4 f5 f6 f7 f8 f9 f10 f11 p1 p2).2.1), .int ((m_addRest f0 f1 f2 f3 f4 f5 f6 f7 f8 f9 f10 f11 p1 p2).2.2.1), .long ((m_addRest f0 f1 f2 f3 f4 f5 f6 f7 f8 f9 f10 f11 p1 p2).2.2.2.1), .int ((m_addRest f0 f1 f2 f3 f4 f5 f6 f7 f8 f9 f10 f11 p1 p2).2.2.2.2.1), .int ((m_addRest f0 f1 f2 f3 f4 f5 f6 f7 f8 f9 f10 f11 p1 p2).2.2.2.2.2.1), .int ((m_addRest f0 f1 f2 f3 f4 f5 f6 f7 f8 f9 f10 f11 p1 p2).2.2.2.2.2.2.1), .int ((m_addRest f0 f1 f2 f3 f4 f5 f6 f7 f8 f9 f10 f11 p1 p2).2.2.2.2.2.2.2.1), .int ((m_addRest f0 f1 f2 f3 f4 f5 f6 f7 f8 f9 f10 f11 p1 p2).2.2.2.2.2.2.2.2.1), .int ((m_addRest f0 f1 f2 f3 f4 f5 f6 f7 f8 f9 f10 f11 p1 p2).2.2.2.2.2.2.2.2.2.1), .int ((m_addRest f0 f1 f2 f3 f4 f5 f6 f7 f8 f9 f10 f11 p1 p2).2.2.2.2.2.2.2.2.2.2.1), .int ((m_addRest f0 f1 f2 f3 f4 f5 f6 f7 f8 f9 f10 f11 p1 p2).2.2.2.2.2.2.2.2.2.2.2.1), .int ((m_addRest f0 f1 f2 f3 f4 f5 f6 f7 f8 f9 f10 f11 p1 p2).2.2.2.2.2.2.2.2.2.2.2.2)]))]) [0, 1, 2] (by decide) rfl
    have hK9 := hK.sub (tys' := [(kq, .object "CellTests$Cell")]) [0] rfl
    exact W.zret (v := 0) hx hb hr (rfl) (fun t ht hW => ⟨⟨_, (), rfl, rfl, by rw [ht]; exact hP9, va_K.moved hW.alike hK9, hD9⟩, hS.F ht⟩) hS.2.2 d_Ct_rest_27
  · refine lv_iconst (v := 1) hx hb d_Ct_rest_22 (by decide) ?_
    refine lv_goto (tgt := 27) hx hb d_Ct_rest_23 (by decide) ?_
    have hm : m_rest f0 f1 f2 f3 f4 f5 f6 f7 f8 f9 f10 f11 p1 p2 = (1, (m_addRest f0 f1 f2 f3 f4 f5 f6 f7 f8 f9 f10 f11 p1 p2).2.1, (m_addRest f0 f1 f2 f3 f4 f5 f6 f7 f8 f9 f10 f11 p1 p2).2.2.1, (m_addRest f0 f1 f2 f3 f4 f5 f6 f7 f8 f9 f10 f11 p1 p2).2.2.2.1, (m_addRest f0 f1 f2 f3 f4 f5 f6 f7 f8 f9 f10 f11 p1 p2).2.2.2.2.1, (m_addRest f0 f1 f2 f3 f4 f5 f6 f7 f8 f9 f10 f11 p1 p2).2.2.2.2.2.1, (m_addRest f0 f1 f2 f3 f4 f5 f6 f7 f8 f9 f10 f11 p1 p2).2.2.2.2.2.2.1, (m_addRest f0 f1 f2 f3 f4 f5 f6 f7 f8 f9 f10 f11 p1 p2).2.2.2.2.2.2.2.1, (m_addRest f0 f1 f2 f3 f4 f5 f6 f7 f8 f9 f10 f11 p1 p2).2.2.2.2.2.2.2.2.1, (m_addRest f0 f1 f2 f3 f4 f5 f6 f7 f8 f9 f10 f11 p1 p2).2.2.2.2.2.2.2.2.2.1, (m_addRest f0 f1 f2 f3 f4 f5 f6 f7 f8 f9 f10 f11 p1 p2).2.2.2.2.2.2.2.2.2.2.1, (m_addRest f0 f1 f2 f3 f4 f5 f6 f7 f8 f9 f10 f11 p1 p2).2.2.2.2.2.2.2.2.2.2.2.1, (m_addRest f0 f1 f2 f3 f4 f5 f6 f7 f8 f9 f10 f11 p1 p2).2.2.2.2.2.2.2.2.2.2.2.2) := by simp [m_rest, eq_false c_3]
    rw [hm]
    have hP9 := hP.sub (ws' := [(h0, .inr (5, [.ref qa, .int cnt, .int slo, .int shi, .ref qt, .ref qs, .ref qp, .ref qk, .ref qf, .ref ql])), (qa, .inl (kq, 8, .inr (.inr (.inr (.inr fc))))), (h1, .inr (0, [.int ((m_addRest f0 f1 f2 f3 f4 f5 f6 f7 f8 f9 f10 f11 p1 p2).2.1), .int ((m_addRest f0 f1 f2 f3 f4 f5 f6 f7 f8 f9 f10 f11 p1 p2).2.2.1), .long ((m_addRest f0 f1 f2 f3 f4 f5 f6 f7 f8 f9 f10 f11 p1 p2).2.2.2.1), .int ((m_addRest f0 f1 f2 f3 f4 f5 f6 f7 f8 f9 f10 f11 p1 p2).2.2.2.2.1), .int ((m_addRest f0 f1 f2 f3 f4 f5 f6 f7 f8 f9 f10 f11 p1 p2).2.2.2.2.2.1), .int ((m_addRest f0 f1 f2 f3 f4 f5 f6 f7 f8 f9 f10 f11 p1 p2).2.2.2.2.2.2.1), .int ((m_addRest f0 f1 f2 f3 f4 f5 f6 f7 f8 f9 f10 f11 p1 p2).2.2.2.2.2.2.2.1), .int ((m_addRest f0 f1 f2 f3 f4 f5 f6 f7 f8 f9 f10 f11 p1 p2).2.2.2.2.2.2.2.2.1), .int ((m_addRest f0 f1 f2 f3 f4 f5 f6 f7 f8 f9 f10 f11 p1 p2).2.2.2.2.2.2.2.2.2.1), .int ((m_addRest f0 f1 f2 f3 f4 f5 f6 f7 f8 f9 f10 f11 p1 p2).2.2.2.2.2.2.2.2.2.2.1), .int ((m_addRest f0 f1 f2 f3 f4 f5 f6 f7 f8 f9 f10 f11 p1 p2).2.2.2.2.2.2.2.2.2.2.2.1), .int ((m_addRest f0 f1 f2 f3 f4 f5 f6 f7 f8 f9 f10 f11 p1 p2).2.2.2.2.2.2.2.2.2.2.2.2)]))]) [0, 1, 2] rfl
    have hD9 := hD.sub (ws' := [(h0, .inr (5, [.ref qa, .int cnt, .int slo, .int shi, .ref qt, .ref qs, .ref qp, .ref qk, .ref qf, .ref ql])), (qa, .inl (kq, 8, .inr (.inr (.inr (.inr fc))))), (h1, .inr (0, [.int ((m_addRest f0 f1 f2 f3 f4 f5 f6 f7 f8 f9 f10 f11 p1 p2).2.1), .int ((m_addRest f0 f1 f2 f3 f4 f5 f6 f7 f8 f9 f10 f11 p1 p2).2.2.1), .long ((m_addRest f0 f1 f2 f3 f4 f5 f6 f7 f8 f9 f10 f11 p1 p2).2.2.2.1), .int ((m_addRest f0 f1 f2 f3 f4 f5 f6 f7 f8 f9 f10 f11 p1 p2).2.2.2.2.1), .int ((m_addRest f0 f1 f2 f3 f4 f5 f6 f7 f8 f9 f10 f11 p1 p2).2.2.2.2.2.1), .int ((m_addRest f0 f1 f2 f3 f4 f5 f6 f7 f8 f9 f10 f11 p1 p2).2.2.2.2.2.2.1), .int ((m_addRest f0 f1 f2 f3 f4 f5 f6 f7 f8 f9 f10 f11 p1 p2).2.2.2.2.2.2.2.1), .int ((m_addRest f0 f1 f2 f3 f4 f5 f6 f7 f8 f9 f10 f11 p1 p2).2.2.2.2.2.2.2.2.1), .int ((m_addRest f0 f1 f2 f3 f4 f5 f6 f7 f8 f9 f10 f11 p1 p2).2.2.2.2.2.2.2.2.2.1), .int ((m_addRest f0 f1 f2 f3 f4 f5 f6 f7 f8 f9 f10 f11 p1 p2).2.2.2.2.2.2.2.2.2.2.1), .int ((m_addRest f0 f1 f2 f3 f4 f5 f6 f7 f8 f9 f10 f11 p1 p2).2.2.2.2.2.2.2.2.2.2.2.1), .int ((m_addRest f0 f1 f2 f3 f4 f5 f6 f7 f8 f9 f10 f11 p1 p2).2.2.2.2.2.2.2.2.2.2.2.2)]))]) [0, 1, 2] (by decide) rfl
    have hK9 := hK.sub (tys' := [(kq, .object "CellTests$Cell")]) [0] rfl
    exact W.zret (v := 1) hx hb hr (rfl) (fun t ht hW => ⟨⟨_, (), rfl, rfl, by rw [ht]; exact hP9, va_K.moved hW.alike hK9, hD9⟩, hS.F ht⟩) hS.2.2 d_Ct_rest_27

set_option maxHeartbeats 4000000 in
set_option maxRecDepth 100000 in
theorem c_Ct_charge_n (l : Launch) (D : va_G)  (h0 : Nat) (qa : Nat) (cnt : Int32) (slo : Int32) (shi : Int32) (qt : Nat) (qs : Nat) (qp : Nat) (qk : Nat) (qf : Nat) (ql : Nat) (kq : ClassId) (fc : Nat → Option Nat) (p0 : Int32) (sz : Nat) (hcell : m_cellOf cnt fc p0 = none) : Met l y_Ct_charge ws_Ct_charge ({ frames := 2, cells := 0, slots := 0, locals := 45 }) (va_Pc [.ref h0, .int p0] (cx_pre D [(kq, .object "CellTests$Cell")] ([(h0, .inr (5, [.ref qa, .int cnt, .int slo, .int shi, .ref qt, .ref qs, .ref qp, .ref qk, .ref qf, .ref ql])), (qa, .inl (kq, 8, .inr (.inr (.inr (.inr fc)))))]) sz)) (vp_Sl (fun r9 => r9 = (-9223372036854775808))) 0 0 (fun _ => False) := by
  refine Met.ofW (cc := b_Ct_charge) (maxL := 3) (ret := (some .long)) (by decide) rfl ?_
  intro p e s m args below meth c s₁ B hml hv
  obtain ⟨rfl, hsz, hP, hK, hD0, hN, hO⟩ := hv
  have hx := B.exec
  have hb := B.bytes
  have hr := B.returns
  have hts := fun (w : Cond) (h : w ∈ cx_tbl) => atoms_spec (ws := ws_Ct_charge) B.pre w (List.mem_cons_of_mem _ h)
  have hown : s.vm.findClass R_Ct = some m.cls := findClass_of_methodNamed B.named
  have hlocks := B.notSynchronized
  subst hsz
  have hD := hD0.self (sz := s.heap.size)
  generalize hAe : va_A ([(h0, .inr (5, [.ref qa, .int cnt, .int slo, .int shi, .ref qt, .ref qs, .ref qp, .ref qk, .ref qf, .ref ql])), (qa, .inl (kq, 8, .inr (.inr (.inr (.inr fc)))))]) s.heap.size = A at hD hO
  have hA : ∀ q : Nat, s.heap.size ≤ q → A q := fun q h => by rw [← hAe]; exact Or.inr h
  have hS : va_S A s.heap s.heap [] := va_S.rf
  have hl := lv_entry ([.ref h0, .int p0]) (n := 3) (Nat.le_of_ble_eq_true rfl)
  rw [lg_entry_eq]
  generalize (lg_sl ([.ref h0, .int p0]) ++ List.replicate (3 - (lg_sl ([.ref h0, .int p0])).length) Slot.unset).toArray = ls at hl ⊢
  have hl : lv_has ls 3 [(0, .ref h0), (1, .int p0)] := hl
  refine lv_aload_n hx hb d_Ct_charge_0 rfl (lv_at hl 0 rfl) ?_
  refine lv_iload_n hx hb d_Ct_charge_1 rfl (lv_at hl 1 rfl) ?_
  have hPc := hP.sub (ws' := [(h0, .inr (5, [.ref qa, .int cnt, .int slo, .int shi, .ref qt, .ref qs, .ref qp, .ref qk, .ref qf, .ref ql])), (qa, .inl (kq, 8, .inr (.inr (.inr (.inr fc)))))]) [0, 1] rfl
  have hDc := hD.sub (ws' := [(h0, .inr (5, [.ref qa, .int cnt, .int slo, .int shi, .ref qt, .ref qs, .ref qp, .ref qk, .ref qf, .ref ql])), (qa, .inl (kq, 8, .inr (.inr (.inr (.inr fc)))))]) [0, 1] (by decide) rfl
  have hKc := hK.sub (tys' := [(kq, .object "CellTests$Cell")]) [0] rfl
  have hFc := va_free (wc := [(h0, .inr (5, [.ref qa, .int cnt, .int slo, .int shi, .ref qt, .ref qs, .ref qp, .ref qk, .ref qf, .ref ql])), (qa, .inl (kq, 8, .inr (.inr (.inr (.inr fc)))))]) hD hS hA [0, 1] rfl
  refine va_csq (va_Run.run (va_runV (As := [.int p0]) (rest := [])  ⟨hx, hb, hml, hown, hts⟩ (c_Ct_cellOf l D h0 qa cnt slo shi qt qs qp qk qf ql kq fc p0 s.heap.size ) ⟨callB_of 1 hts cg_Ct_cellOf rfl rfl rfl (hts _ cw_1) (hts _ cw_262) (by decide +kernel) ⟨Nat.le_of_ble_eq_true rfl, Nat.le_of_ble_eq_true rfl⟩, hts _ cw_264, hts _ cs_0⟩ (cx_preV (C := R_Ct) [.int p0] hPc hKc hDc hN hO hS hFc (ci := 5) (q0 := 0) rfl rfl rfl) rfl rfl hl.1 rfl (lv_room (Nat.le_of_ble_eq_true rfl)) d_Ct_charge_2 ⟨Nat.le_of_ble_eq_true rfl, Nat.le_of_ble_eq_true rfl⟩)) (fun r z_1 => ?_)
  subst z_1
  rw [hcell]
  refine W.eq (g2 := F0 m 5 ls [.null]) rfl ?_
  refine lv_astore_nN (lv' := [(2, .null), (0, .ref h0), (1, .int p0)]) hx hb d_Ct_charge_5 rfl hl (by decide) rfl (fun ls hl => ?_)
  refine lv_aload_nN hx hb d_Ct_charge_6 rfl (lv_at hl 0 rfl) ?_
  refine lv_ifnonnullN hx hb d_Ct_charge_7 ?_
  refine lv_ldc2 (v := (-9223372036854775808)) hx hb hown (hts _ cw_301) d_Ct_charge_10 ?_
  refine lv_goto (tgt := 20) hx hb d_Ct_charge_13 (by decide) ?_
  exact W.lret (v := (-9223372036854775808)) hx hb hr (fun t ht hW => ⟨_, rfl, rfl, ht⟩) (fun q h => by cases h) d_Ct_charge_20

set_option maxHeartbeats 4000000 in
set_option maxRecDepth 100000 in
theorem c_Ct_charge (l : Launch) (D : va_G)  (h0 : Nat) (qa : Nat) (cnt : Int32) (slo : Int32) (shi : Int32) (qt : Nat) (qs : Nat) (qp : Nat) (qk : Nat) (qf : Nat) (ql : Nat) (kq : ClassId) (fc : Nat → Option Nat) (h1 : Nat) (f0 : Int32) (f1 : Int32) (f2 : Int64) (f3 : Int32) (f4 : Int32) (f5 : Int32) (f6 : Int32) (f7 : Int32) (f8 : Int32) (f9 : Int32) (f10 : Int32) (f11 : Int32) (p0 : Int32) (sz : Nat) (hcell : m_cellOf cnt fc p0 = some h1) : Met l y_Ct_charge ws_Ct_charge ({ frames := 2, cells := 0, slots := 0, locals := 45 }) (va_Pc [.ref h0, .int p0] (cx_pre D [(kq, .object "CellTests$Cell")] ([(h0, .inr (5, [.ref qa, .int cnt, .int slo, .int shi, .ref qt, .ref qs, .ref qp, .ref qk, .ref qf, .ref ql])), (qa, .inl (kq, 8, .inr (.inr (.inr (.inr fc))))), (h1, .inr (0, [.int f0, .int f1, .long f2, .int f3, .int f4, .int f5, .int f6, .int f7, .int f8, .int f9, .int f10, .int f11]))]) sz)) (vp_Sl (fun r9 => r9 = m_floorDiv f2 3600)) 0 0 (fun _ => False) := by
  refine Met.ofW (cc := b_Ct_charge) (maxL := 3) (ret := (some .long)) (by decide) rfl ?_
  intro p e s m args below meth c s₁ B hml hv
  obtain ⟨rfl, hsz, hP, hK, hD0, hN, hO⟩ := hv
  have hx := B.exec
  have hb := B.bytes
  have hr := B.returns
  have hts := fun (w : Cond) (h : w ∈ cx_tbl) => atoms_spec (ws := ws_Ct_charge) B.pre w (List.mem_cons_of_mem _ h)
  have hown : s.vm.findClass R_Ct = some m.cls := findClass_of_methodNamed B.named
  have hlocks := B.notSynchronized
  subst hsz
  have hD := hD0.self (sz := s.heap.size)
  generalize hAe : va_A ([(h0, .inr (5, [.ref qa, .int cnt, .int slo, .int shi, .ref qt, .ref qs, .ref qp, .ref qk, .ref qf, .ref ql])), (qa, .inl (kq, 8, .inr (.inr (.inr (.inr fc))))), (h1, .inr (0, [.int f0, .int f1, .long f2, .int f3, .int f4, .int f5, .int f6, .int f7, .int f8, .int f9, .int f10, .int f11]))]) s.heap.size = A at hD hO
  have hA : ∀ q : Nat, s.heap.size ≤ q → A q := fun q h => by rw [← hAe]; exact Or.inr h
  have hS : va_S A s.heap s.heap [] := va_S.rf
  have hl := lv_entry ([.ref h0, .int p0]) (n := 3) (Nat.le_of_ble_eq_true rfl)
  rw [lg_entry_eq]
  generalize (lg_sl ([.ref h0, .int p0]) ++ List.replicate (3 - (lg_sl ([.ref h0, .int p0])).length) Slot.unset).toArray = ls at hl ⊢
  have hl : lv_has ls 3 [(0, .ref h0), (1, .int p0)] := hl
  refine lv_aload_n hx hb d_Ct_charge_0 rfl (lv_at hl 0 rfl) ?_
  refine lv_iload_n hx hb d_Ct_charge_1 rfl (lv_at hl 1 rfl) ?_
  have hPc := hP.sub (ws' := [(h0, .inr (5, [.ref qa, .int cnt, .int slo, .int shi, .ref qt, .ref qs, .ref qp, .ref qk, .ref qf, .ref ql])), (qa, .inl (kq, 8, .inr (.inr (.inr (.inr fc)))))]) [0, 1] rfl
  have hDc := hD.sub (ws' := [(h0, .inr (5, [.ref qa, .int cnt, .int slo, .int shi, .ref qt, .ref qs, .ref qp, .ref qk, .ref qf, .ref ql])), (qa, .inl (kq, 8, .inr (.inr (.inr (.inr fc)))))]) [0, 1] (by decide) rfl
  have hKc := hK.sub (tys' := [(kq, .object "CellTests$Cell")]) [0] rfl
  have hFc := va_free (wc := [(h0, .inr (5, [.ref qa, .int cnt, .int slo, .int shi, .ref qt, .ref qs, .ref qp, .ref qk, .ref qf, .ref ql])), (qa, .inl (kq, 8, .inr (.inr (.inr (.inr fc)))))]) hD hS hA [0, 1] rfl
  refine va_csq (va_Run.run (va_runV (As := [.int p0]) (rest := [])  ⟨hx, hb, hml, hown, hts⟩ (c_Ct_cellOf l D h0 qa cnt slo shi qt qs qp qk qf ql kq fc p0 s.heap.size ) ⟨callB_of 1 hts cg_Ct_cellOf rfl rfl rfl (hts _ cw_1) (hts _ cw_262) (by decide +kernel) ⟨Nat.le_of_ble_eq_true rfl, Nat.le_of_ble_eq_true rfl⟩, hts _ cw_264, hts _ cs_0⟩ (cx_preV (C := R_Ct) [.int p0] hPc hKc hDc hN hO hS hFc (ci := 5) (q0 := 0) rfl rfl rfl) rfl rfl hl.1 rfl (lv_room (Nat.le_of_ble_eq_true rfl)) d_Ct_charge_2 ⟨Nat.le_of_ble_eq_true rfl, Nat.le_of_ble_eq_true rfl⟩)) (fun r z_1 => ?_)
  subst z_1
  rw [hcell]
  refine W.eq (g2 := F0 m 5 ls [.ref h1]) rfl ?_
  refine lv_astore_n (lv' := [(2, .ref h1), (0, .ref h0), (1, .int p0)]) hx hb d_Ct_charge_5 rfl hl (by decide) rfl (fun ls hl => ?_)
  refine lv_aload_n hx hb d_Ct_charge_6 rfl (lv_at hl 0 rfl) ?_
  refine lv_ifnonnull (tgt := 16) hx hb d_Ct_charge_7 (by decide) ?_
  refine lv_aload_n hx hb d_Ct_charge_16 rfl (lv_at hl 0 rfl) ?_
  have hPc := hP.sub (ws' := [(h1, .inr (0, [.int f0, .int f1, .long f2, .int f3, .int f4, .int f5, .int f6, .int f7, .int f8, .int f9, .int f10, .int f11]))]) [2] rfl
  have hDc := hD.sub (ws' := [(h1, .inr (0, [.int f0, .int f1, .long f2, .int f3, .int f4, .int f5, .int f6, .int f7, .int f8, .int f9, .int f10, .int f11]))]) [2] (by decide) rfl
  have hKc := hK.sub (tys' := []) [] rfl
  have hFc := va_free (wc := [(h1, .inr (0, [.int f0, .int f1, .long f2, .int f3, .int f4, .int f5, .int f6, .int f7, .int f8, .int f9, .int f10, .int f11]))]) hD hS hA [2] rfl
  refine vp_callSl (va_Run.run (va_runV (As := []) (rest := [])  ⟨hx, hb, hml, hown, hts⟩ (c_Cell_chargeNow l D h1 f0 f1 f2 f3 f4 f5 f6 f7 f8 f9 f10 f11 s.heap.size ) ⟨callB_of 0 hts cg_Cell_chargeNow rfl rfl rfl (hts _ cw_11) (hts _ cw_302) (by decide +kernel) ⟨Nat.le_of_ble_eq_true rfl, Nat.le_of_ble_eq_true rfl⟩, hts _ cw_303, hts _ cw_304⟩ (cx_preV (C := R_Cell) [] hPc hKc hDc hN hO hS hFc (ci := 0) (q0 := 0) rfl rfl rfl) rfl rfl hl.1 rfl (lv_room (Nat.le_of_ble_eq_true rfl)) d_Ct_charge_17 ⟨Nat.le_of_ble_eq_true rfl, Nat.le_of_ble_eq_true rfl⟩)) (fun r z_2 => ?_)
  subst z_2
  exact W.lret (v := m_floorDiv f2 3600) hx hb hr (fun t ht hW => ⟨_, rfl, by simp [m_floorDiv], ht⟩) (fun q h => by cases h) d_Ct_charge_20

set_option maxHeartbeats 4000000 in
set_option maxRecDepth 100000 in
theorem c_Ct_resistance_n (l : Launch) (D : va_G)  (h0 : Nat) (qa : Nat) (cnt : Int32) (slo : Int32) (shi : Int32) (qt : Nat) (qs : Nat) (qp : Nat) (qk : Nat) (qf : Nat) (ql : Nat) (kq : ClassId) (fc : Nat → Option Nat) (p0 : Int32) (p1 : Int32) (sz : Nat) (hcell : m_cellOf cnt fc p0 = none) : Met l y_Ct_resistance ws_Ct_resistance ({ frames := 2, cells := 0, slots := 0, locals := 48 }) (va_Pc [.ref h0, .int p0, .int p1] (cx_pre D [(kq, .object "CellTests$Cell")] ([(h0, .inr (5, [.ref qa, .int cnt, .int slo, .int shi, .ref qt, .ref qs, .ref qp, .ref qk, .ref qf, .ref ql])), (qa, .inl (kq, 8, .inr (.inr (.inr (.inr fc)))))]) sz)) (vp_Si (fun r9 => r9 = (-1))) 0 0 (fun _ => False) := by
  refine Met.ofW (cc := b_Ct_resistance) (maxL := 4) (ret := (some .int)) (by decide) rfl ?_
  intro p e s m args below meth c s₁ B hml hv
  obtain ⟨rfl, hsz, hP, hK, hD0, hN, hO⟩ := hv
  have hx := B.exec
  have hb := B.bytes
  have hr := B.returns
  have hts := fun (w : Cond) (h : w ∈ cx_tbl) => atoms_spec (ws := ws_Ct_resistance) B.pre w (List.mem_cons_of_mem _ h)
  have hown : s.vm.findClass R_Ct = some m.cls := findClass_of_methodNamed B.named
  have hlocks := B.notSynchronized
  subst hsz
  have hD := hD0.self (sz := s.heap.size)
  generalize hAe : va_A ([(h0, .inr (5, [.ref qa, .int cnt, .int slo, .int shi, .ref qt, .ref qs, .ref qp, .ref qk, .ref qf, .ref ql])), (qa, .inl (kq, 8, .inr (.inr (.inr (.inr fc)))))]) s.heap.size = A at hD hO
  have hA : ∀ q : Nat, s.heap.size ≤ q → A q := fun q h => by rw [← hAe]; exact Or.inr h
  have hS : va_S A s.heap s.heap [] := va_S.rf
  have hl := lv_entry ([.ref h0, .int p0, .int p1]) (n := 4) (Nat.le_of_ble_eq_true rfl)
  rw [lg_entry_eq]
  generalize (lg_sl ([.ref h0, .int p0, .int p1]) ++ List.replicate (4 - (lg_sl ([.ref h0, .int p0, .int p1])).length) Slot.unset).toArray = ls at hl ⊢
  have hl : lv_has ls 4 [(0, .ref h0), (1, .int p0), (2, .int p1)] := hl
  refine lv_aload_n hx hb d_Ct_resistance_0 rfl (lv_at hl 0 rfl) ?_
  refine lv_iload_n hx hb d_Ct_resistance_1 rfl (lv_at hl 1 rfl) ?_
  have hPc := hP.sub (ws' := [(h0, .inr (5, [.ref qa, .int cnt, .int slo, .int shi, .ref qt, .ref qs, .ref qp, .ref qk, .ref qf, .ref ql])), (qa, .inl (kq, 8, .inr (.inr (.inr (.inr fc)))))]) [0, 1] rfl
  have hDc := hD.sub (ws' := [(h0, .inr (5, [.ref qa, .int cnt, .int slo, .int shi, .ref qt, .ref qs, .ref qp, .ref qk, .ref qf, .ref ql])), (qa, .inl (kq, 8, .inr (.inr (.inr (.inr fc)))))]) [0, 1] (by decide) rfl
  have hKc := hK.sub (tys' := [(kq, .object "CellTests$Cell")]) [0] rfl
  have hFc := va_free (wc := [(h0, .inr (5, [.ref qa, .int cnt, .int slo, .int shi, .ref qt, .ref qs, .ref qp, .ref qk, .ref qf, .ref ql])), (qa, .inl (kq, 8, .inr (.inr (.inr (.inr fc)))))]) hD hS hA [0, 1] rfl
  refine va_csq (va_Run.run (va_runV (As := [.int p0]) (rest := [])  ⟨hx, hb, hml, hown, hts⟩ (c_Ct_cellOf l D h0 qa cnt slo shi qt qs qp qk qf ql kq fc p0 s.heap.size ) ⟨callB_of 1 hts cg_Ct_cellOf rfl rfl rfl (hts _ cw_1) (hts _ cw_262) (by decide +kernel) ⟨Nat.le_of_ble_eq_true rfl, Nat.le_of_ble_eq_true rfl⟩, hts _ cw_264, hts _ cs_0⟩ (cx_preV (C := R_Ct) [.int p0] hPc hKc hDc hN hO hS hFc (ci := 5) (q0 := 0) rfl rfl rfl) rfl rfl hl.1 rfl (lv_room (Nat.le_of_ble_eq_true rfl)) d_Ct_resistance_2 ⟨Nat.le_of_ble_eq_true rfl, Nat.le_of_ble_eq_true rfl⟩)) (fun r z_1 => ?_)
  subst z_1
  rw [hcell]
  refine W.eq (g2 := F0 m 5 ls [.null]) rfl ?_
  refine lv_astore_nN (lv' := [(3, .null), (0, .ref h0), (1, .int p0), (2, .int p1)]) hx hb d_Ct_resistance_5 rfl hl (by decide) rfl (fun ls hl => ?_)
  refine lv_aload_nN hx hb d_Ct_resistance_6 rfl (lv_at hl 0 rfl) ?_
  refine lv_ifnullN (tgt := 17) hx hb d_Ct_resistance_7 (by decide) ?_
  refine lv_iconst (v := (-1)) hx hb d_Ct_resistance_17 (by decide) ?_
  exact W.iret (v := (-1)) hx hb hr (fun t ht hW => ⟨_, rfl, rfl, ht⟩) (fun q h => by cases h) d_Ct_resistance_18

set_option maxHeartbeats 4000000 in
set_option maxRecDepth 100000 in
theorem c_Ct_resistance (l : Launch) (D : va_G)  (h0 : Nat) (qa : Nat) (cnt : Int32) (slo : Int32) (shi : Int32) (qt : Nat) (qs : Nat) (qp : Nat) (qk : Nat) (qf : Nat) (ql : Nat) (kq : ClassId) (fc : Nat → Option Nat) (h1 : Nat) (f0 : Int32) (f1 : Int32) (f2 : Int64) (f3 : Int32) (f4 : Int32) (f5 : Int32) (f6 : Int32) (f7 : Int32) (f8 : Int32) (f9 : Int32) (f10 : Int32) (f11 : Int32) (p0 : Int32) (p1 : Int32) (sz : Nat) (hcell : m_cellOf cnt fc p0 = some h1) : Met l y_Ct_resistance ws_Ct_resistance ({ frames := 2, cells := 0, slots := 0, locals := 48 }) (va_Pc [.ref h0, .int p0, .int p1] (cx_pre D [(kq, .object "CellTests$Cell")] ([(h0, .inr (5, [.ref qa, .int cnt, .int slo, .int shi, .ref qt, .ref qs, .ref qp, .ref qk, .ref qf, .ref ql])), (qa, .inl (kq, 8, .inr (.inr (.inr (.inr fc))))), (h1, .inr (0, [.int f0, .int f1, .long f2, .int f3, .int f4, .int f5, .int f6, .int f7, .int f8, .int f9, .int f10, .int f11]))]) sz)) (vp_Si (fun r9 => r9 = m_cres f5 f6 p1)) 0 0 (fun _ => False) := by
  refine Met.ofW (cc := b_Ct_resistance) (maxL := 4) (ret := (some .int)) (by decide) rfl ?_
  intro p e s m args below meth c s₁ B hml hv
  obtain ⟨rfl, hsz, hP, hK, hD0, hN, hO⟩ := hv
  have hx := B.exec
  have hb := B.bytes
  have hr := B.returns
  have hts := fun (w : Cond) (h : w ∈ cx_tbl) => atoms_spec (ws := ws_Ct_resistance) B.pre w (List.mem_cons_of_mem _ h)
  have hown : s.vm.findClass R_Ct = some m.cls := findClass_of_methodNamed B.named
  have hlocks := B.notSynchronized
  subst hsz
  have hD := hD0.self (sz := s.heap.size)
  generalize hAe : va_A ([(h0, .inr (5, [.ref qa, .int cnt, .int slo, .int shi, .ref qt, .ref qs, .ref qp, .ref qk, .ref qf, .ref ql])), (qa, .inl (kq, 8, .inr (.inr (.inr (.inr fc))))), (h1, .inr (0, [.int f0, .int f1, .long f2, .int f3, .int f4, .int f5, .int f6, .int f7, .int f8, .int f9, .int f10, .int f11]))]) s.heap.size = A at hD hO
  have hA : ∀ q : Nat, s.heap.size ≤ q → A q := fun q h => by rw [← hAe]; exact Or.inr h
  have hS : va_S A s.heap s.heap [] := va_S.rf
  have hl := lv_entry ([.ref h0, .int p0, .int p1]) (n := 4) (Nat.le_of_ble_eq_true rfl)
  rw [lg_entry_eq]
  generalize (lg_sl ([.ref h0, .int p0, .int p1]) ++ List.replicate (4 - (lg_sl ([.ref h0, .int p0, .int p1])).length) Slot.unset).toArray = ls at hl ⊢
  have hl : lv_has ls 4 [(0, .ref h0), (1, .int p0), (2, .int p1)] := hl
  refine lv_aload_n hx hb d_Ct_resistance_0 rfl (lv_at hl 0 rfl) ?_
  refine lv_iload_n hx hb d_Ct_resistance_1 rfl (lv_at hl 1 rfl) ?_
  have hPc := hP.sub (ws' := [(h0, .inr (5, [.ref qa, .int cnt, .int slo, .int shi, .ref qt, .ref qs, .ref qp, .ref qk, .ref qf, .ref ql])), (qa, .inl (kq, 8, .inr (.inr (.inr (.inr fc)))))]) [0, 1] rfl
  have hDc := hD.sub (ws' := [(h0, .inr (5, [.ref qa, .int cnt, .int slo, .int shi, .ref qt, .ref qs, .ref qp, .ref qk, .ref qf, .ref ql])), (qa, .inl (kq, 8, .inr (.inr (.inr (.inr fc)))))]) [0, 1] (by decide) rfl
  have hKc := hK.sub (tys' := [(kq, .object "CellTests$Cell")]) [0] rfl
  have hFc := va_free (wc := [(h0, .inr (5, [.ref qa, .int cnt, .int slo, .int shi, .ref qt, .ref qs, .ref qp, .ref qk, .ref qf, .ref ql])), (qa, .inl (kq, 8, .inr (.inr (.inr (.inr fc)))))]) hD hS hA [0, 1] rfl
  refine va_csq (va_Run.run (va_runV (As := [.int p0]) (rest := [])  ⟨hx, hb, hml, hown, hts⟩ (c_Ct_cellOf l D h0 qa cnt slo shi qt qs qp qk qf ql kq fc p0 s.heap.size ) ⟨callB_of 1 hts cg_Ct_cellOf rfl rfl rfl (hts _ cw_1) (hts _ cw_262) (by decide +kernel) ⟨Nat.le_of_ble_eq_true rfl, Nat.le_of_ble_eq_true rfl⟩, hts _ cw_264, hts _ cs_0⟩ (cx_preV (C := R_Ct) [.int p0] hPc hKc hDc hN hO hS hFc (ci := 5) (q0 := 0) rfl rfl rfl) rfl rfl hl.1 rfl (lv_room (Nat.le_of_ble_eq_true rfl)) d_Ct_resistance_2 ⟨Nat.le_of_ble_eq_true rfl, Nat.le_of_ble_eq_true rfl⟩)) (fun r z_1 => ?_)
  subst z_1
  rw [hcell]
  refine W.eq (g2 := F0 m 5 ls [.ref h1]) rfl ?_
  refine lv_astore_n (lv' := [(3, .ref h1), (0, .ref h0), (1, .int p0), (2, .int p1)]) hx hb d_Ct_resistance_5 rfl hl (by decide) rfl (fun ls hl => ?_)
  refine lv_aload_n hx hb d_Ct_resistance_6 rfl (lv_at hl 0 rfl) ?_
  refine lv_ifnull hx hb d_Ct_resistance_7 ?_
  refine lv_aload_n hx hb d_Ct_resistance_10 rfl (lv_at hl 0 rfl) ?_
  have hPc := hP.sub (ws' := [(h1, .inr (0, [.int f0, .int f1, .long f2, .int f3, .int f4, .int f5, .int f6, .int f7, .int f8, .int f9, .int f10, .int f11]))]) [2] rfl
  have hDc := hD.sub (ws' := [(h1, .inr (0, [.int f0, .int f1, .long f2, .int f3, .int f4, .int f5, .int f6, .int f7, .int f8, .int f9, .int f10, .int f11]))]) [2] (by decide) rfl
  have hKc := hK.sub (tys' := []) [] rfl
  have hFc := va_free (wc := [(h1, .inr (0, [.int f0, .int f1, .long f2, .int f3, .int f4, .int f5, .int f6, .int f7, .int f8, .int f9, .int f10, .int f11]))]) hD hS hA [2] rfl
  refine vp_callSi (va_Run.run (va_runV (As := []) (rest := [])  ⟨hx, hb, hml, hown, hts⟩ (c_Cell_hasResistance l D h1 f0 f1 f2 f3 f4 f5 f6 f7 f8 f9 f10 f11 s.heap.size ) ⟨callB_of 0 hts cg_Cell_hasResistance rfl rfl rfl (hts _ cw_11) (hts _ cw_314) (by decide +kernel) ⟨Nat.le_of_ble_eq_true rfl, Nat.le_of_ble_eq_true rfl⟩, hts _ cw_315, hts _ cw_316⟩ (cx_preV (C := R_Cell) [] hPc hKc hDc hN hO hS hFc (ci := 0) (q0 := 0) rfl rfl rfl) rfl rfl hl.1 rfl (lv_room (Nat.le_of_ble_eq_true rfl)) d_Ct_resistance_11 ⟨Nat.le_of_ble_eq_true rfl, Nat.le_of_ble_eq_true rfl⟩)) (fun r z_2 => ?_)
  subst z_2
  refine lv_if_ne (tgt := 19) hx hb d_Ct_resistance_14 (by decide) (fun c_3 => ?_) (fun c_3 => ?_)
  · refine lv_aload_n hx hb d_Ct_resistance_19 rfl (lv_at hl 0 rfl) ?_
    refine va_getN (D := D) (ci := 0) (v := .int f5) (C := R_Cell) (T := T_Cell) (N := 12) hx hb hts in_Cell hown hK hP 2 rfl rfl 5 (by decide) (va_Nw.use rfl (hN _ cn_218)) (fun _ h9 => h9) rfl d_Ct_resistance_20 ?_
    refine lv_aload_n hx hb d_Ct_resistance_23 rfl (lv_at hl 0 rfl) ?_
    refine va_getN (D := D) (ci := 0) (v := .int f6) (C := R_Cell) (T := T_Cell) (N := 12) hx hb hts in_Cell hown hK hP 2 rfl rfl 6 (by decide) (va_Nw.use rfl (hN _ cn_221)) (fun _ h9 => h9) rfl d_Ct_resistance_24 ?_
    refine lv_iload_n hx hb d_Ct_resistance_27 rfl (lv_at hl 3 rfl) ?_
    have hPc := hP.sub (ws' := []) [] rfl
    have hDc := hD.sub (ws' := []) [] (by decide) rfl
    have hKc := hK.sub (tys' := []) [] rfl
    have hFc := va_free (wc := []) hD hS hA [] rfl
    refine vp_callSi (va_Run.run (va_runS (As := [.int f5, .int f6, .int p1]) (rest := [])  ⟨hx, hb, hml, hown, hts⟩ (c_Ct_partOf l D f5 f6 p1 s.heap.size ) ⟨callB_of 3 hts cg_Ct_partOf rfl rfl rfl (hts _ cw_1) (hts _ cw_318) (by decide +kernel) ⟨Nat.le_of_ble_eq_true rfl, Nat.le_of_ble_eq_true rfl⟩, hts _ cw_319⟩ (cx_preS [.int f5, .int f6, .int p1] hPc hKc hDc hN hO hS hFc) rfl rfl hl.1 rfl (lv_room (Nat.le_of_ble_eq_true rfl)) d_Ct_resistance_28 ⟨Nat.le_of_ble_eq_true rfl, Nat.le_of_ble_eq_true rfl⟩)) (fun r z_4 => ?_)
    subst z_4
    exact W.iret (v := m_partOf f5 f6 p1) hx hb hr (fun t ht hW => ⟨_, rfl, by simp [m_cres, eq_false c_3], ht⟩) (fun q h => by cases h) d_Ct_resistance_31
  · refine lv_iconst (v := (-1)) hx hb d_Ct_resistance_17 (by decide) ?_
    exact W.iret (v := (-1)) hx hb hr (fun t ht hW => ⟨_, rfl, by simp [m_cres, eq_true c_3], ht⟩) (fun q h => by cases h) d_Ct_resistance_18

set_option maxHeartbeats 4000000 in
set_option maxRecDepth 100000 in
theorem c_Ct_loss_n (l : Launch) (D : va_G)  (h0 : Nat) (qa : Nat) (cnt : Int32) (slo : Int32) (shi : Int32) (qt : Nat) (qs : Nat) (qp : Nat) (qk : Nat) (qf : Nat) (ql : Nat) (kq : ClassId) (fc : Nat → Option Nat) (p0 : Int32) (p1 : Int32) (sz : Nat) (hcell : m_cellOf cnt fc p0 = none) : Met l y_Ct_loss ws_Ct_loss ({ frames := 2, cells := 0, slots := 0, locals := 48 }) (va_Pc [.ref h0, .int p0, .int p1] (cx_pre D [(kq, .object "CellTests$Cell")] ([(h0, .inr (5, [.ref qa, .int cnt, .int slo, .int shi, .ref qt, .ref qs, .ref qp, .ref qk, .ref qf, .ref ql])), (qa, .inl (kq, 8, .inr (.inr (.inr (.inr fc)))))]) sz)) (vp_Si (fun r9 => r9 = (-1))) 0 0 (fun _ => False) := by
  refine Met.ofW (cc := b_Ct_loss) (maxL := 4) (ret := (some .int)) (by decide) rfl ?_
  intro p e s m args below meth c s₁ B hml hv
  obtain ⟨rfl, hsz, hP, hK, hD0, hN, hO⟩ := hv
  have hx := B.exec
  have hb := B.bytes
  have hr := B.returns
  have hts := fun (w : Cond) (h : w ∈ cx_tbl) => atoms_spec (ws := ws_Ct_loss) B.pre w (List.mem_cons_of_mem _ h)
  have hown : s.vm.findClass R_Ct = some m.cls := findClass_of_methodNamed B.named
  have hlocks := B.notSynchronized
  subst hsz
  have hD := hD0.self (sz := s.heap.size)
  generalize hAe : va_A ([(h0, .inr (5, [.ref qa, .int cnt, .int slo, .int shi, .ref qt, .ref qs, .ref qp, .ref qk, .ref qf, .ref ql])), (qa, .inl (kq, 8, .inr (.inr (.inr (.inr fc)))))]) s.heap.size = A at hD hO
  have hA : ∀ q : Nat, s.heap.size ≤ q → A q := fun q h => by rw [← hAe]; exact Or.inr h
  have hS : va_S A s.heap s.heap [] := va_S.rf
  have hl := lv_entry ([.ref h0, .int p0, .int p1]) (n := 4) (Nat.le_of_ble_eq_true rfl)
  rw [lg_entry_eq]
  generalize (lg_sl ([.ref h0, .int p0, .int p1]) ++ List.replicate (4 - (lg_sl ([.ref h0, .int p0, .int p1])).length) Slot.unset).toArray = ls at hl ⊢
  have hl : lv_has ls 4 [(0, .ref h0), (1, .int p0), (2, .int p1)] := hl
  refine lv_aload_n hx hb d_Ct_loss_0 rfl (lv_at hl 0 rfl) ?_
  refine lv_iload_n hx hb d_Ct_loss_1 rfl (lv_at hl 1 rfl) ?_
  have hPc := hP.sub (ws' := [(h0, .inr (5, [.ref qa, .int cnt, .int slo, .int shi, .ref qt, .ref qs, .ref qp, .ref qk, .ref qf, .ref ql])), (qa, .inl (kq, 8, .inr (.inr (.inr (.inr fc)))))]) [0, 1] rfl
  have hDc := hD.sub (ws' := [(h0, .inr (5, [.ref qa, .int cnt, .int slo, .int shi, .ref qt, .ref qs, .ref qp, .ref qk, .ref qf, .ref ql])), (qa, .inl (kq, 8, .inr (.inr (.inr (.inr fc)))))]) [0, 1] (by decide) rfl
  have hKc := hK.sub (tys' := [(kq, .object "CellTests$Cell")]) [0] rfl
  have hFc := va_free (wc := [(h0, .inr (5, [.ref qa, .int cnt, .int slo, .int shi, .ref qt, .ref qs, .ref qp, .ref qk, .ref qf, .ref ql])), (qa, .inl (kq, 8, .inr (.inr (.inr (.inr fc)))))]) hD hS hA [0, 1] rfl
  refine va_csq (va_Run.run (va_runV (As := [.int p0]) (rest := [])  ⟨hx, hb, hml, hown, hts⟩ (c_Ct_cellOf l D h0 qa cnt slo shi qt qs qp qk qf ql kq fc p0 s.heap.size ) ⟨callB_of 1 hts cg_Ct_cellOf rfl rfl rfl (hts _ cw_1) (hts _ cw_262) (by decide +kernel) ⟨Nat.le_of_ble_eq_true rfl, Nat.le_of_ble_eq_true rfl⟩, hts _ cw_264, hts _ cs_0⟩ (cx_preV (C := R_Ct) [.int p0] hPc hKc hDc hN hO hS hFc (ci := 5) (q0 := 0) rfl rfl rfl) rfl rfl hl.1 rfl (lv_room (Nat.le_of_ble_eq_true rfl)) d_Ct_loss_2 ⟨Nat.le_of_ble_eq_true rfl, Nat.le_of_ble_eq_true rfl⟩)) (fun r z_1 => ?_)
  subst z_1
  rw [hcell]
  refine W.eq (g2 := F0 m 5 ls [.null]) rfl ?_
  refine lv_astore_nN (lv' := [(3, .null), (0, .ref h0), (1, .int p0), (2, .int p1)]) hx hb d_Ct_loss_5 rfl hl (by decide) rfl (fun ls hl => ?_)
  refine lv_aload_nN hx hb d_Ct_loss_6 rfl (lv_at hl 0 rfl) ?_
  refine lv_ifnullN (tgt := 17) hx hb d_Ct_loss_7 (by decide) ?_
  refine lv_iconst (v := (-1)) hx hb d_Ct_loss_17 (by decide) ?_
  exact W.iret (v := (-1)) hx hb hr (fun t ht hW => ⟨_, rfl, rfl, ht⟩) (fun q h => by cases h) d_Ct_loss_18

set_option maxHeartbeats 4000000 in
set_option maxRecDepth 100000 in
theorem c_Ct_loss (l : Launch) (D : va_G)  (h0 : Nat) (qa : Nat) (cnt : Int32) (slo : Int32) (shi : Int32) (qt : Nat) (qs : Nat) (qp : Nat) (qk : Nat) (qf : Nat) (ql : Nat) (kq : ClassId) (fc : Nat → Option Nat) (h1 : Nat) (f0 : Int32) (f1 : Int32) (f2 : Int64) (f3 : Int32) (f4 : Int32) (f5 : Int32) (f6 : Int32) (f7 : Int32) (f8 : Int32) (f9 : Int32) (f10 : Int32) (f11 : Int32) (p0 : Int32) (p1 : Int32) (sz : Nat) (hcell : m_cellOf cnt fc p0 = some h1) : Met l y_Ct_loss ws_Ct_loss ({ frames := 2, cells := 0, slots := 0, locals := 48 }) (va_Pc [.ref h0, .int p0, .int p1] (cx_pre D [(kq, .object "CellTests$Cell")] ([(h0, .inr (5, [.ref qa, .int cnt, .int slo, .int shi, .ref qt, .ref qs, .ref qp, .ref qk, .ref qf, .ref ql])), (qa, .inl (kq, 8, .inr (.inr (.inr (.inr fc))))), (h1, .inr (0, [.int f0, .int f1, .long f2, .int f3, .int f4, .int f5, .int f6, .int f7, .int f8, .int f9, .int f10, .int f11]))]) sz)) (vp_Si (fun r9 => r9 = m_closs f7 f8 f9 f10 f11 p1)) 0 0 (fun _ => False) := by
  refine Met.ofW (cc := b_Ct_loss) (maxL := 4) (ret := (some .int)) (by decide) rfl ?_
  intro p e s m args below meth c s₁ B hml hv
  obtain ⟨rfl, hsz, hP, hK, hD0, hN, hO⟩ := hv
  have hx := B.exec
  have hb := B.bytes
  have hr := B.returns
  have hts := fun (w : Cond) (h : w ∈ cx_tbl) => atoms_spec (ws := ws_Ct_loss) B.pre w (List.mem_cons_of_mem _ h)
  have hown : s.vm.findClass R_Ct = some m.cls := findClass_of_methodNamed B.named
  have hlocks := B.notSynchronized
  subst hsz
  have hD := hD0.self (sz := s.heap.size)
  generalize hAe : va_A ([(h0, .inr (5, [.ref qa, .int cnt, .int slo, .int shi, .ref qt, .ref qs, .ref qp, .ref qk, .ref qf, .ref ql])), (qa, .inl (kq, 8, .inr (.inr (.inr (.inr fc))))), (h1, .inr (0, [.int f0, .int f1, .long f2, .int f3, .int f4, .int f5, .int f6, .int f7, .int f8, .int f9, .int f10, .int f11]))]) s.heap.size = A at hD hO
  have hA : ∀ q : Nat, s.heap.size ≤ q → A q := fun q h => by rw [← hAe]; exact Or.inr h
  have hS : va_S A s.heap s.heap [] := va_S.rf
  have hl := lv_entry ([.ref h0, .int p0, .int p1]) (n := 4) (Nat.le_of_ble_eq_true rfl)
  rw [lg_entry_eq]
  generalize (lg_sl ([.ref h0, .int p0, .int p1]) ++ List.replicate (4 - (lg_sl ([.ref h0, .int p0, .int p1])).length) Slot.unset).toArray = ls at hl ⊢
  have hl : lv_has ls 4 [(0, .ref h0), (1, .int p0), (2, .int p1)] := hl
  refine lv_aload_n hx hb d_Ct_loss_0 rfl (lv_at hl 0 rfl) ?_
  refine lv_iload_n hx hb d_Ct_loss_1 rfl (lv_at hl 1 rfl) ?_
  have hPc := hP.sub (ws' := [(h0, .inr (5, [.ref qa, .int cnt, .int slo, .int shi, .ref qt, .ref qs, .ref qp, .ref qk, .ref qf, .ref ql])), (qa, .inl (kq, 8, .inr (.inr (.inr (.inr fc)))))]) [0, 1] rfl
  have hDc := hD.sub (ws' := [(h0, .inr (5, [.ref qa, .int cnt, .int slo, .int shi, .ref qt, .ref qs, .ref qp, .ref qk, .ref qf, .ref ql])), (qa, .inl (kq, 8, .inr (.inr (.inr (.inr fc)))))]) [0, 1] (by decide) rfl
  have hKc := hK.sub (tys' := [(kq, .object "CellTests$Cell")]) [0] rfl
  have hFc := va_free (wc := [(h0, .inr (5, [.ref qa, .int cnt, .int slo, .int shi, .ref qt, .ref qs, .ref qp, .ref qk, .ref qf, .ref ql])), (qa, .inl (kq, 8, .inr (.inr (.inr (.inr fc)))))]) hD hS hA [0, 1] rfl
  refine va_csq (va_Run.run (va_runV (As := [.int p0]) (rest := [])  ⟨hx, hb, hml, hown, hts⟩ (c_Ct_cellOf l D h0 qa cnt slo shi qt qs qp qk qf ql kq fc p0 s.heap.size ) ⟨callB_of 1 hts cg_Ct_cellOf rfl rfl rfl (hts _ cw_1) (hts _ cw_262) (by decide +kernel) ⟨Nat.le_of_ble_eq_true rfl, Nat.le_of_ble_eq_true rfl⟩, hts _ cw_264, hts _ cs_0⟩ (cx_preV (C := R_Ct) [.int p0] hPc hKc hDc hN hO hS hFc (ci := 5) (q0 := 0) rfl rfl rfl) rfl rfl hl.1 rfl (lv_room (Nat.le_of_ble_eq_true rfl)) d_Ct_loss_2 ⟨Nat.le_of_ble_eq_true rfl, Nat.le_of_ble_eq_true rfl⟩)) (fun r z_1 => ?_)
  subst z_1
  rw [hcell]
  refine W.eq (g2 := F0 m 5 ls [.ref h1]) rfl ?_
  refine lv_astore_n (lv' := [(3, .ref h1), (0, .ref h0), (1, .int p0), (2, .int p1)]) hx hb d_Ct_loss_5 rfl hl (by decide) rfl (fun ls hl => ?_)
  refine lv_aload_n hx hb d_Ct_loss_6 rfl (lv_at hl 0 rfl) ?_
  refine lv_ifnull hx hb d_Ct_loss_7 ?_
  refine lv_aload_n hx hb d_Ct_loss_10 rfl (lv_at hl 0 rfl) ?_
  have hPc := hP.sub (ws' := [(h1, .inr (0, [.int f0, .int f1, .long f2, .int f3, .int f4, .int f5, .int f6, .int f7, .int f8, .int f9, .int f10, .int f11]))]) [2] rfl
  have hDc := hD.sub (ws' := [(h1, .inr (0, [.int f0, .int f1, .long f2, .int f3, .int f4, .int f5, .int f6, .int f7, .int f8, .int f9, .int f10, .int f11]))]) [2] (by decide) rfl
  have hKc := hK.sub (tys' := []) [] rfl
  have hFc := va_free (wc := [(h1, .inr (0, [.int f0, .int f1, .long f2, .int f3, .int f4, .int f5, .int f6, .int f7, .int f8, .int f9, .int f10, .int f11]))]) hD hS hA [2] rfl
  refine vp_callSi (va_Run.run (va_runV (As := []) (rest := [])  ⟨hx, hb, hml, hown, hts⟩ (c_Cell_hasLoss l D h1 f0 f1 f2 f3 f4 f5 f6 f7 f8 f9 f10 f11 s.heap.size ) ⟨callB_of 0 hts cg_Cell_hasLoss rfl rfl rfl (hts _ cw_11) (hts _ cw_328) (by decide +kernel) ⟨Nat.le_of_ble_eq_true rfl, Nat.le_of_ble_eq_true rfl⟩, hts _ cw_329, hts _ cw_330⟩ (cx_preV (C := R_Cell) [] hPc hKc hDc hN hO hS hFc (ci := 0) (q0 := 0) rfl rfl rfl) rfl rfl hl.1 rfl (lv_room (Nat.le_of_ble_eq_true rfl)) d_Ct_loss_11 ⟨Nat.le_of_ble_eq_true rfl, Nat.le_of_ble_eq_true rfl⟩)) (fun r z_2 => ?_)
  subst z_2
  refine lv_if_ne (tgt := 19) hx hb d_Ct_loss_14 (by decide) (fun c_3 => ?_) (fun c_3 => ?_)
  · refine lv_aload_n hx hb d_Ct_loss_19 rfl (lv_at hl 0 rfl) ?_
    have hPc := hP.sub (ws' := [(h1, .inr (0, [.int f0, .int f1, .long f2, .int f3, .int f4, .int f5, .int f6, .int f7, .int f8, .int f9, .int f10, .int f11]))]) [2] rfl
    have hDc := hD.sub (ws' := [(h1, .inr (0, [.int f0, .int f1, .long f2, .int f3, .int f4, .int f5, .int f6, .int f7, .int f8, .int f9, .int f10, .int f11]))]) [2] (by decide) rfl
    have hKc := hK.sub (tys' := []) [] rfl
    have hFc := va_free (wc := [(h1, .inr (0, [.int f0, .int f1, .long f2, .int f3, .int f4, .int f5, .int f6, .int f7, .int f8, .int f9, .int f10, .int f11]))]) hD hS hA [2] rfl
    refine vp_callSi (va_Run.run (va_runV (As := []) (rest := [])  ⟨hx, hb, hml, hown, hts⟩ (c_Cell_voltLost l D h1 f0 f1 f2 f3 f4 f5 f6 f7 f8 f9 f10 f11 s.heap.size ) ⟨callB_of 0 hts cg_Cell_voltLost rfl rfl rfl (hts _ cw_11) (hts _ cw_332) (by decide +kernel) ⟨Nat.le_of_ble_eq_true rfl, Nat.le_of_ble_eq_true rfl⟩, hts _ cw_333, hts _ cw_334⟩ (cx_preV (C := R_Cell) [] hPc hKc hDc hN hO hS hFc (ci := 0) (q0 := 0) rfl rfl rfl) rfl rfl hl.1 rfl (lv_room (Nat.le_of_ble_eq_true rfl)) d_Ct_loss_20 ⟨Nat.le_of_ble_eq_true rfl, Nat.le_of_ble_eq_true rfl⟩)) (fun r z_4 => ?_)
    subst z_4
    refine lv_aload_n hx hb d_Ct_loss_23 rfl (lv_at hl 0 rfl) ?_
    have hPc := hP.sub (ws' := [(h1, .inr (0, [.int f0, .int f1, .long f2, .int f3, .int f4, .int f5, .int f6, .int f7, .int f8, .int f9, .int f10, .int f11]))]) [2] rfl
    have hDc := hD.sub (ws' := [(h1, .inr (0, [.int f0, .int f1, .long f2, .int f3, .int f4, .int f5, .int f6, .int f7, .int f8, .int f9, .int f10, .int f11]))]) [2] (by decide) rfl
    have hKc := hK.sub (tys' := []) [] rfl
    have hFc := va_free (wc := [(h1, .inr (0, [.int f0, .int f1, .long f2, .int f3, .int f4, .int f5, .int f6, .int f7, .int f8, .int f9, .int f10, .int f11]))]) hD hS hA [2] rfl
    refine vp_callSi (va_Run.run (va_runV (As := []) (rest := [.int (m_max 0 (f9 - f11))])  ⟨hx, hb, hml, hown, hts⟩ (c_Cell_daysBetween l D h1 f0 f1 f2 f3 f4 f5 f6 f7 f8 f9 f10 f11 s.heap.size ) ⟨callB_of 0 hts cg_Cell_daysBetween rfl rfl rfl (hts _ cw_11) (hts _ cw_339) (by decide +kernel) ⟨Nat.le_of_ble_eq_true rfl, Nat.le_of_ble_eq_true rfl⟩, hts _ cw_340, hts _ cw_341⟩ (cx_preV (C := R_Cell) [] hPc hKc hDc hN hO hS hFc (ci := 0) (q0 := 0) rfl rfl rfl) rfl rfl hl.1 rfl (lv_room (Nat.le_of_ble_eq_true rfl)) d_Ct_loss_24 ⟨Nat.le_of_ble_eq_true rfl, Nat.le_of_ble_eq_true rfl⟩)) (fun r z_5 => ?_)
    subst z_5
    refine lv_iload_n hx hb d_Ct_loss_27 rfl (lv_at hl 3 rfl) ?_
    have hPc := hP.sub (ws' := []) [] rfl
    have hDc := hD.sub (ws' := []) [] (by decide) rfl
    have hKc := hK.sub (tys' := []) [] rfl
    have hFc := va_free (wc := []) hD hS hA [] rfl
    refine vp_callSi (va_Run.run (va_runS (As := [.int (m_max 0 (f9 - f11)), .int (f10 - f8), .int p1]) (rest := [])  ⟨hx, hb, hml, hown, hts⟩ (c_Ct_partOf l D (m_max 0 (f9 - f11)) (f10 - f8) p1 s.heap.size ) ⟨callB_of 3 hts cg_Ct_partOf rfl rfl rfl (hts _ cw_1) (hts _ cw_318) (by decide +kernel) ⟨Nat.le_of_ble_eq_true rfl, Nat.le_of_ble_eq_true rfl⟩, hts _ cw_319⟩ (cx_preS [.int (m_max 0 (f9 - f11)), .int (f10 - f8), .int p1] hPc hKc hDc hN hO hS hFc) rfl rfl hl.1 rfl (lv_room (Nat.le_of_ble_eq_true rfl)) d_Ct_loss_28 ⟨Nat.le_of_ble_eq_true rfl, Nat.le_of_ble_eq_true rfl⟩)) (fun r z_6 => ?_)
    subst z_6
    exact W.iret (v := m_partOf (m_max 0 (f9 - f11)) (f10 - f8) p1) hx hb hr (fun t ht hW => ⟨_, rfl, by simp [m_closs, eq_false c_3], ht⟩) (fun q h => by cases h) d_Ct_loss_31
  · refine lv_iconst (v := (-1)) hx hb d_Ct_loss_17 (by decide) ?_
    exact W.iret (v := (-1)) hx hb hr (fun t ht hW => ⟨_, rfl, by simp [m_closs, eq_true c_3], ht⟩) (fun q h => by cases h) d_Ct_loss_18

set_option maxHeartbeats 4000000 in
set_option maxRecDepth 100000 in
theorem c_Ct_uns_n (l : Launch) (D : va_G)  (h0 : Nat) (qa : Nat) (cnt : Int32) (slo : Int32) (shi : Int32) (qt : Nat) (qs : Nat) (qp : Nat) (qk : Nat) (qf : Nat) (ql : Nat) (kq : ClassId) (fc : Nat → Option Nat) (p0 : Int32) (sz : Nat) (hcell : m_cellOf cnt fc p0 = none) : Met l y_Ct_uns ws_Ct_uns ({ frames := 2, cells := 0, slots := 0, locals := 47 }) (va_Pc [.ref h0, .int p0] (cx_pre D [(kq, .object "CellTests$Cell")] ([(h0, .inr (5, [.ref qa, .int cnt, .int slo, .int shi, .ref qt, .ref qs, .ref qp, .ref qk, .ref qf, .ref ql])), (qa, .inl (kq, 8, .inr (.inr (.inr (.inr fc)))))]) sz)) (vp_Si (fun r9 => r9 = 0)) 0 0 (fun _ => False) := by
  refine Met.ofW (cc := b_Ct_uns) (maxL := 3) (ret := (some .boolean)) (by decide) rfl ?_
  intro p e s m args below meth c s₁ B hml hv
  obtain ⟨rfl, hsz, hP, hK, hD0, hN, hO⟩ := hv
  have hx := B.exec
  have hb := B.bytes
  have hr := B.returns
  have hts := fun (w : Cond) (h : w ∈ cx_tbl) => atoms_spec (ws := ws_Ct_uns) B.pre w (List.mem_cons_of_mem _ h)
  have hown : s.vm.findClass R_Ct = some m.cls := findClass_of_methodNamed B.named
  have hlocks := B.notSynchronized
  subst hsz
  have hD := hD0.self (sz := s.heap.size)
  generalize hAe : va_A ([(h0, .inr (5, [.ref qa, .int cnt, .int slo, .int shi, .ref qt, .ref qs, .ref qp, .ref qk, .ref qf, .ref ql])), (qa, .inl (kq, 8, .inr (.inr (.inr (.inr fc)))))]) s.heap.size = A at hD hO
  have hA : ∀ q : Nat, s.heap.size ≤ q → A q := fun q h => by rw [← hAe]; exact Or.inr h
  have hS : va_S A s.heap s.heap [] := va_S.rf
  have hl := lv_entry ([.ref h0, .int p0]) (n := 3) (Nat.le_of_ble_eq_true rfl)
  rw [lg_entry_eq]
  generalize (lg_sl ([.ref h0, .int p0]) ++ List.replicate (3 - (lg_sl ([.ref h0, .int p0])).length) Slot.unset).toArray = ls at hl ⊢
  have hl : lv_has ls 3 [(0, .ref h0), (1, .int p0)] := hl
  refine lv_aload_n hx hb d_Ct_uns_0 rfl (lv_at hl 0 rfl) ?_
  refine lv_iload_n hx hb d_Ct_uns_1 rfl (lv_at hl 1 rfl) ?_
  have hPc := hP.sub (ws' := [(h0, .inr (5, [.ref qa, .int cnt, .int slo, .int shi, .ref qt, .ref qs, .ref qp, .ref qk, .ref qf, .ref ql])), (qa, .inl (kq, 8, .inr (.inr (.inr (.inr fc)))))]) [0, 1] rfl
  have hDc := hD.sub (ws' := [(h0, .inr (5, [.ref qa, .int cnt, .int slo, .int shi, .ref qt, .ref qs, .ref qp, .ref qk, .ref qf, .ref ql])), (qa, .inl (kq, 8, .inr (.inr (.inr (.inr fc)))))]) [0, 1] (by decide) rfl
  have hKc := hK.sub (tys' := [(kq, .object "CellTests$Cell")]) [0] rfl
  have hFc := va_free (wc := [(h0, .inr (5, [.ref qa, .int cnt, .int slo, .int shi, .ref qt, .ref qs, .ref qp, .ref qk, .ref qf, .ref ql])), (qa, .inl (kq, 8, .inr (.inr (.inr (.inr fc)))))]) hD hS hA [0, 1] rfl
  refine va_csq (va_Run.run (va_runV (As := [.int p0]) (rest := [])  ⟨hx, hb, hml, hown, hts⟩ (c_Ct_cellOf l D h0 qa cnt slo shi qt qs qp qk qf ql kq fc p0 s.heap.size ) ⟨callB_of 1 hts cg_Ct_cellOf rfl rfl rfl (hts _ cw_1) (hts _ cw_262) (by decide +kernel) ⟨Nat.le_of_ble_eq_true rfl, Nat.le_of_ble_eq_true rfl⟩, hts _ cw_264, hts _ cs_0⟩ (cx_preV (C := R_Ct) [.int p0] hPc hKc hDc hN hO hS hFc (ci := 5) (q0 := 0) rfl rfl rfl) rfl rfl hl.1 rfl (lv_room (Nat.le_of_ble_eq_true rfl)) d_Ct_uns_2 ⟨Nat.le_of_ble_eq_true rfl, Nat.le_of_ble_eq_true rfl⟩)) (fun r z_1 => ?_)
  subst z_1
  rw [hcell]
  refine W.eq (g2 := F0 m 5 ls [.null]) rfl ?_
  refine lv_astore_nN (lv' := [(2, .null), (0, .ref h0), (1, .int p0)]) hx hb d_Ct_uns_5 rfl hl (by decide) rfl (fun ls hl => ?_)
  refine lv_aload_nN hx hb d_Ct_uns_6 rfl (lv_at hl 0 rfl) ?_
  refine lv_ifnullN (tgt := 21) hx hb d_Ct_uns_7 (by decide) ?_
  refine lv_iconst (v := 0) hx hb d_Ct_uns_21 (by decide) ?_
  exact W.zret (v := 0) hx hb hr (rfl) (fun t ht hW => ⟨_, rfl, rfl, ht⟩) (fun q h => by cases h) d_Ct_uns_22

set_option maxHeartbeats 4000000 in
set_option maxRecDepth 100000 in
theorem c_Ct_uns (l : Launch) (D : va_G)  (h0 : Nat) (qa : Nat) (cnt : Int32) (slo : Int32) (shi : Int32) (qt : Nat) (qs : Nat) (qp : Nat) (qk : Nat) (qf : Nat) (ql : Nat) (kq : ClassId) (fc : Nat → Option Nat) (h1 : Nat) (f0 : Int32) (f1 : Int32) (f2 : Int64) (f3 : Int32) (f4 : Int32) (f5 : Int32) (f6 : Int32) (f7 : Int32) (f8 : Int32) (f9 : Int32) (f10 : Int32) (f11 : Int32) (p0 : Int32) (sz : Nat) (hcell : m_cellOf cnt fc p0 = some h1) : Met l y_Ct_uns ws_Ct_uns ({ frames := 2, cells := 0, slots := 0, locals := 47 }) (va_Pc [.ref h0, .int p0] (cx_pre D [(kq, .object "CellTests$Cell")] ([(h0, .inr (5, [.ref qa, .int cnt, .int slo, .int shi, .ref qt, .ref qs, .ref qp, .ref qk, .ref qf, .ref ql])), (qa, .inl (kq, 8, .inr (.inr (.inr (.inr fc))))), (h1, .inr (0, [.int f0, .int f1, .long f2, .int f3, .int f4, .int f5, .int f6, .int f7, .int f8, .int f9, .int f10, .int f11]))]) sz)) (vp_Si (fun r9 => r9 = m_cuns f1 f4 f7 f11)) 0 0 (fun _ => False) := by
  refine Met.ofW (cc := b_Ct_uns) (maxL := 3) (ret := (some .boolean)) (by decide) rfl ?_
  intro p e s m args below meth c s₁ B hml hv
  obtain ⟨rfl, hsz, hP, hK, hD0, hN, hO⟩ := hv
  have hx := B.exec
  have hb := B.bytes
  have hr := B.returns
  have hts := fun (w : Cond) (h : w ∈ cx_tbl) => atoms_spec (ws := ws_Ct_uns) B.pre w (List.mem_cons_of_mem _ h)
  have hown : s.vm.findClass R_Ct = some m.cls := findClass_of_methodNamed B.named
  have hlocks := B.notSynchronized
  subst hsz
  have hD := hD0.self (sz := s.heap.size)
  generalize hAe : va_A ([(h0, .inr (5, [.ref qa, .int cnt, .int slo, .int shi, .ref qt, .ref qs, .ref qp, .ref qk, .ref qf, .ref ql])), (qa, .inl (kq, 8, .inr (.inr (.inr (.inr fc))))), (h1, .inr (0, [.int f0, .int f1, .long f2, .int f3, .int f4, .int f5, .int f6, .int f7, .int f8, .int f9, .int f10, .int f11]))]) s.heap.size = A at hD hO
  have hA : ∀ q : Nat, s.heap.size ≤ q → A q := fun q h => by rw [← hAe]; exact Or.inr h
  have hS : va_S A s.heap s.heap [] := va_S.rf
  have hl := lv_entry ([.ref h0, .int p0]) (n := 3) (Nat.le_of_ble_eq_true rfl)
  rw [lg_entry_eq]
  generalize (lg_sl ([.ref h0, .int p0]) ++ List.replicate (3 - (lg_sl ([.ref h0, .int p0])).length) Slot.unset).toArray = ls at hl ⊢
  have hl : lv_has ls 3 [(0, .ref h0), (1, .int p0)] := hl
  refine lv_aload_n hx hb d_Ct_uns_0 rfl (lv_at hl 0 rfl) ?_
  refine lv_iload_n hx hb d_Ct_uns_1 rfl (lv_at hl 1 rfl) ?_
  have hPc := hP.sub (ws' := [(h0, .inr (5, [.ref qa, .int cnt, .int slo, .int shi, .ref qt, .ref qs, .ref qp, .ref qk, .ref qf, .ref ql])), (qa, .inl (kq, 8, .inr (.inr (.inr (.inr fc)))))]) [0, 1] rfl
  have hDc := hD.sub (ws' := [(h0, .inr (5, [.ref qa, .int cnt, .int slo, .int shi, .ref qt, .ref qs, .ref qp, .ref qk, .ref qf, .ref ql])), (qa, .inl (kq, 8, .inr (.inr (.inr (.inr fc)))))]) [0, 1] (by decide) rfl
  have hKc := hK.sub (tys' := [(kq, .object "CellTests$Cell")]) [0] rfl
  have hFc := va_free (wc := [(h0, .inr (5, [.ref qa, .int cnt, .int slo, .int shi, .ref qt, .ref qs, .ref qp, .ref qk, .ref qf, .ref ql])), (qa, .inl (kq, 8, .inr (.inr (.inr (.inr fc)))))]) hD hS hA [0, 1] rfl
  refine va_csq (va_Run.run (va_runV (As := [.int p0]) (rest := [])  ⟨hx, hb, hml, hown, hts⟩ (c_Ct_cellOf l D h0 qa cnt slo shi qt qs qp qk qf ql kq fc p0 s.heap.size ) ⟨callB_of 1 hts cg_Ct_cellOf rfl rfl rfl (hts _ cw_1) (hts _ cw_262) (by decide +kernel) ⟨Nat.le_of_ble_eq_true rfl, Nat.le_of_ble_eq_true rfl⟩, hts _ cw_264, hts _ cs_0⟩ (cx_preV (C := R_Ct) [.int p0] hPc hKc hDc hN hO hS hFc (ci := 5) (q0 := 0) rfl rfl rfl) rfl rfl hl.1 rfl (lv_room (Nat.le_of_ble_eq_true rfl)) d_Ct_uns_2 ⟨Nat.le_of_ble_eq_true rfl, Nat.le_of_ble_eq_true rfl⟩)) (fun r z_1 => ?_)
  subst z_1
  rw [hcell]
  refine W.eq (g2 := F0 m 5 ls [.ref h1]) rfl ?_
  refine lv_astore_n (lv' := [(2, .ref h1), (0, .ref h0), (1, .int p0)]) hx hb d_Ct_uns_5 rfl hl (by decide) rfl (fun ls hl => ?_)
  refine lv_aload_n hx hb d_Ct_uns_6 rfl (lv_at hl 0 rfl) ?_
  refine lv_ifnull hx hb d_Ct_uns_7 ?_
  refine lv_aload_n hx hb d_Ct_uns_10 rfl (lv_at hl 0 rfl) ?_
  have hPc := hP.sub (ws' := [(h1, .inr (0, [.int f0, .int f1, .long f2, .int f3, .int f4, .int f5, .int f6, .int f7, .int f8, .int f9, .int f10, .int f11]))]) [2] rfl
  have hDc := hD.sub (ws' := [(h1, .inr (0, [.int f0, .int f1, .long f2, .int f3, .int f4, .int f5, .int f6, .int f7, .int f8, .int f9, .int f10, .int f11]))]) [2] (by decide) rfl
  have hKc := hK.sub (tys' := []) [] rfl
  have hFc := va_free (wc := [(h1, .inr (0, [.int f0, .int f1, .long f2, .int f3, .int f4, .int f5, .int f6, .int f7, .int f8, .int f9, .int f10, .int f11]))]) hD hS hA [2] rfl
  refine vp_callSi (va_Run.run (va_runV (As := []) (rest := [])  ⟨hx, hb, hml, hown, hts⟩ (c_Cell_isUnsafe l D h1 f0 f1 f2 f3 f4 f5 f6 f7 f8 f9 f10 f11 s.heap.size ) ⟨callB_of 0 hts cg_Cell_isUnsafe rfl rfl rfl (hts _ cw_11) (hts _ cw_499) (by decide +kernel) ⟨Nat.le_of_ble_eq_true rfl, Nat.le_of_ble_eq_true rfl⟩, hts _ cw_500, hts _ cw_501⟩ (cx_preV (C := R_Cell) [] hPc hKc hDc hN hO hS hFc (ci := 0) (q0 := 0) rfl rfl rfl) rfl rfl hl.1 rfl (lv_room (Nat.le_of_ble_eq_true rfl)) d_Ct_uns_11 ⟨Nat.le_of_ble_eq_true rfl, Nat.le_of_ble_eq_true rfl⟩)) (fun r z_2 => ?_)
  subst z_2
  refine lv_if_eq (tgt := 21) hx hb d_Ct_uns_14 (by decide) (fun c_3 => ?_) (fun c_3 => ?_)
  · refine lv_iconst (v := 0) hx hb d_Ct_uns_21 (by decide) ?_
    exact W.zret (v := 0) hx hb hr (rfl) (fun t ht hW => ⟨_, rfl, by simp [m_cuns, eq_true c_3], ht⟩) (fun q h => by cases h) d_Ct_uns_22
  · refine lv_iconst (v := 1) hx hb d_Ct_uns_17 (by decide) ?_
    refine lv_goto (tgt := 22) hx hb d_Ct_uns_18 (by decide) ?_
    exact W.zret (v := 1) hx hb hr (rfl) (fun t ht hW => ⟨_, rfl, by simp [m_cuns, eq_false c_3], ht⟩) (fun q h => by cases h) d_Ct_uns_22

set_option maxHeartbeats 4000000 in
set_option maxRecDepth 100000 in
theorem c_Ct_may_n (l : Launch) (D : va_G)  (h0 : Nat) (qa : Nat) (cnt : Int32) (slo : Int32) (shi : Int32) (qt : Nat) (qs : Nat) (qp : Nat) (qk : Nat) (qf : Nat) (ql : Nat) (kq : ClassId) (fc : Nat → Option Nat) (p0 : Int32) (p1 : Int32) (sz : Nat) (hcell : m_cellOf cnt fc p0 = none) : Met l y_Ct_may ws_Ct_may ({ frames := 2, cells := 0, slots := 0, locals := 47 }) (va_Pc [.ref h0, .int p0, .int p1] (cx_pre D [(kq, .object "CellTests$Cell")] ([(h0, .inr (5, [.ref qa, .int cnt, .int slo, .int shi, .ref qt, .ref qs, .ref qp, .ref qk, .ref qf, .ref ql])), (qa, .inl (kq, 8, .inr (.inr (.inr (.inr fc)))))]) sz)) (vp_Si (fun r9 => r9 = 0)) 0 0 (fun _ => False) := by
  refine Met.ofW (cc := b_Ct_may) (maxL := 4) (ret := (some .boolean)) (by decide) rfl ?_
  intro p e s m args below meth c s₁ B hml hv
  obtain ⟨rfl, hsz, hP, hK, hD0, hN, hO⟩ := hv
  have hx := B.exec
  have hb := B.bytes
  have hr := B.returns
  have hts := fun (w : Cond) (h : w ∈ cx_tbl) => atoms_spec (ws := ws_Ct_may) B.pre w (List.mem_cons_of_mem _ h)
  have hown : s.vm.findClass R_Ct = some m.cls := findClass_of_methodNamed B.named
  have hlocks := B.notSynchronized
  subst hsz
  have hD := hD0.self (sz := s.heap.size)
  generalize hAe : va_A ([(h0, .inr (5, [.ref qa, .int cnt, .int slo, .int shi, .ref qt, .ref qs, .ref qp, .ref qk, .ref qf, .ref ql])), (qa, .inl (kq, 8, .inr (.inr (.inr (.inr fc)))))]) s.heap.size = A at hD hO
  have hA : ∀ q : Nat, s.heap.size ≤ q → A q := fun q h => by rw [← hAe]; exact Or.inr h
  have hS : va_S A s.heap s.heap [] := va_S.rf
  have hl := lv_entry ([.ref h0, .int p0, .int p1]) (n := 4) (Nat.le_of_ble_eq_true rfl)
  rw [lg_entry_eq]
  generalize (lg_sl ([.ref h0, .int p0, .int p1]) ++ List.replicate (4 - (lg_sl ([.ref h0, .int p0, .int p1])).length) Slot.unset).toArray = ls at hl ⊢
  have hl : lv_has ls 4 [(0, .ref h0), (1, .int p0), (2, .int p1)] := hl
  refine lv_aload_n hx hb d_Ct_may_0 rfl (lv_at hl 0 rfl) ?_
  refine lv_iload_n hx hb d_Ct_may_1 rfl (lv_at hl 1 rfl) ?_
  have hPc := hP.sub (ws' := [(h0, .inr (5, [.ref qa, .int cnt, .int slo, .int shi, .ref qt, .ref qs, .ref qp, .ref qk, .ref qf, .ref ql])), (qa, .inl (kq, 8, .inr (.inr (.inr (.inr fc)))))]) [0, 1] rfl
  have hDc := hD.sub (ws' := [(h0, .inr (5, [.ref qa, .int cnt, .int slo, .int shi, .ref qt, .ref qs, .ref qp, .ref qk, .ref qf, .ref ql])), (qa, .inl (kq, 8, .inr (.inr (.inr (.inr fc)))))]) [0, 1] (by decide) rfl
  have hKc := hK.sub (tys' := [(kq, .object "CellTests$Cell")]) [0] rfl
  have hFc := va_free (wc := [(h0, .inr (5, [.ref qa, .int cnt, .int slo, .int shi, .ref qt, .ref qs, .ref qp, .ref qk, .ref qf, .ref ql])), (qa, .inl (kq, 8, .inr (.inr (.inr (.inr fc)))))]) hD hS hA [0, 1] rfl
  refine va_csq (va_Run.run (va_runV (As := [.int p0]) (rest := [])  ⟨hx, hb, hml, hown, hts⟩ (c_Ct_cellOf l D h0 qa cnt slo shi qt qs qp qk qf ql kq fc p0 s.heap.size ) ⟨callB_of 1 hts cg_Ct_cellOf rfl rfl rfl (hts _ cw_1) (hts _ cw_262) (by decide +kernel) ⟨Nat.le_of_ble_eq_true rfl, Nat.le_of_ble_eq_true rfl⟩, hts _ cw_264, hts _ cs_0⟩ (cx_preV (C := R_Ct) [.int p0] hPc hKc hDc hN hO hS hFc (ci := 5) (q0 := 0) rfl rfl rfl) rfl rfl hl.1 rfl (lv_room (Nat.le_of_ble_eq_true rfl)) d_Ct_may_2 ⟨Nat.le_of_ble_eq_true rfl, Nat.le_of_ble_eq_true rfl⟩)) (fun r z_1 => ?_)
  subst z_1
  rw [hcell]
  refine W.eq (g2 := F0 m 5 ls [.null]) rfl ?_
  refine lv_astore_nN (lv' := [(3, .null), (0, .ref h0), (1, .int p0), (2, .int p1)]) hx hb d_Ct_may_5 rfl hl (by decide) rfl (fun ls hl => ?_)
  refine lv_aload_nN hx hb d_Ct_may_6 rfl (lv_at hl 0 rfl) ?_
  refine lv_ifnullN (tgt := 22) hx hb d_Ct_may_7 (by decide) ?_
  refine lv_iconst (v := 0) hx hb d_Ct_may_22 (by decide) ?_
  exact W.zret (v := 0) hx hb hr (rfl) (fun t ht hW => ⟨_, rfl, rfl, ht⟩) (fun q h => by cases h) d_Ct_may_23

set_option maxHeartbeats 4000000 in
set_option maxRecDepth 100000 in
theorem c_Ct_may (l : Launch) (D : va_G)  (h0 : Nat) (qa : Nat) (cnt : Int32) (slo : Int32) (shi : Int32) (qt : Nat) (qs : Nat) (qp : Nat) (qk : Nat) (qf : Nat) (ql : Nat) (kq : ClassId) (fc : Nat → Option Nat) (h1 : Nat) (f0 : Int32) (f1 : Int32) (f2 : Int64) (f3 : Int32) (f4 : Int32) (f5 : Int32) (f6 : Int32) (f7 : Int32) (f8 : Int32) (f9 : Int32) (f10 : Int32) (f11 : Int32) (p0 : Int32) (p1 : Int32) (sz : Nat) (hcell : m_cellOf cnt fc p0 = some h1) : Met l y_Ct_may ws_Ct_may ({ frames := 2, cells := 0, slots := 0, locals := 47 }) (va_Pc [.ref h0, .int p0, .int p1] (cx_pre D [(kq, .object "CellTests$Cell")] ([(h0, .inr (5, [.ref qa, .int cnt, .int slo, .int shi, .ref qt, .ref qs, .ref qp, .ref qk, .ref qf, .ref ql])), (qa, .inl (kq, 8, .inr (.inr (.inr (.inr fc))))), (h1, .inr (0, [.int f0, .int f1, .long f2, .int f3, .int f4, .int f5, .int f6, .int f7, .int f8, .int f9, .int f10, .int f11]))]) sz)) (vp_Si (fun r9 => r9 = m_cmay f1 f4 f7 f11 p1)) 0 0 (fun _ => False) := by
  refine Met.ofW (cc := b_Ct_may) (maxL := 4) (ret := (some .boolean)) (by decide) rfl ?_
  intro p e s m args below meth c s₁ B hml hv
  obtain ⟨rfl, hsz, hP, hK, hD0, hN, hO⟩ := hv
  have hx := B.exec
  have hb := B.bytes
  have hr := B.returns
  have hts := fun (w : Cond) (h : w ∈ cx_tbl) => atoms_spec (ws := ws_Ct_may) B.pre w (List.mem_cons_of_mem _ h)
  have hown : s.vm.findClass R_Ct = some m.cls := findClass_of_methodNamed B.named
  have hlocks := B.notSynchronized
  subst hsz
  have hD := hD0.self (sz := s.heap.size)
  generalize hAe : va_A ([(h0, .inr (5, [.ref qa, .int cnt, .int slo, .int shi, .ref qt, .ref qs, .ref qp, .ref qk, .ref qf, .ref ql])), (qa, .inl (kq, 8, .inr (.inr (.inr (.inr fc))))), (h1, .inr (0, [.int f0, .int f1, .long f2, .int f3, .int f4, .int f5, .int f6, .int f7, .int f8, .int f9, .int f10, .int f11]))]) s.heap.size = A at hD hO
  have hA : ∀ q : Nat, s.heap.size ≤ q → A q := fun q h => by rw [← hAe]; exact Or.inr h
  have hS : va_S A s.heap s.heap [] := va_S.rf
  have hl := lv_entry ([.ref h0, .int p0, .int p1]) (n := 4) (Nat.le_of_ble_eq_true rfl)
  rw [lg_entry_eq]
  generalize (lg_sl ([.ref h0, .int p0, .int p1]) ++ List.replicate (4 - (lg_sl ([.ref h0, .int p0, .int p1])).length) Slot.unset).toArray = ls at hl ⊢
  have hl : lv_has ls 4 [(0, .ref h0), (1, .int p0), (2, .int p1)] := hl
  refine lv_aload_n hx hb d_Ct_may_0 rfl (lv_at hl 0 rfl) ?_
  refine lv_iload_n hx hb d_Ct_may_1 rfl (lv_at hl 1 rfl) ?_
  have hPc := hP.sub (ws' := [(h0, .inr (5, [.ref qa, .int cnt, .int slo, .int shi, .ref qt, .ref qs, .ref qp, .ref qk, .ref qf, .ref ql])), (qa, .inl (kq, 8, .inr (.inr (.inr (.inr fc)))))]) [0, 1] rfl
  have hDc := hD.sub (ws' := [(h0, .inr (5, [.ref qa, .int cnt, .int slo, .int shi, .ref qt, .ref qs, .ref qp, .ref qk, .ref qf, .ref ql])), (qa, .inl (kq, 8, .inr (.inr (.inr (.inr fc)))))]) [0, 1] (by decide) rfl
  have hKc := hK.sub (tys' := [(kq, .object "CellTests$Cell")]) [0] rfl
  have hFc := va_free (wc := [(h0, .inr (5, [.ref qa, .int cnt, .int slo, .int shi, .ref qt, .ref qs, .ref qp, .ref qk, .ref qf, .ref ql])), (qa, .inl (kq, 8, .inr (.inr (.inr (.inr fc)))))]) hD hS hA [0, 1] rfl
  refine va_csq (va_Run.run (va_runV (As := [.int p0]) (rest := [])  ⟨hx, hb, hml, hown, hts⟩ (c_Ct_cellOf l D h0 qa cnt slo shi qt qs qp qk qf ql kq fc p0 s.heap.size ) ⟨callB_of 1 hts cg_Ct_cellOf rfl rfl rfl (hts _ cw_1) (hts _ cw_262) (by decide +kernel) ⟨Nat.le_of_ble_eq_true rfl, Nat.le_of_ble_eq_true rfl⟩, hts _ cw_264, hts _ cs_0⟩ (cx_preV (C := R_Ct) [.int p0] hPc hKc hDc hN hO hS hFc (ci := 5) (q0 := 0) rfl rfl rfl) rfl rfl hl.1 rfl (lv_room (Nat.le_of_ble_eq_true rfl)) d_Ct_may_2 ⟨Nat.le_of_ble_eq_true rfl, Nat.le_of_ble_eq_true rfl⟩)) (fun r z_1 => ?_)
  subst z_1
  rw [hcell]
  refine W.eq (g2 := F0 m 5 ls [.ref h1]) rfl ?_
  refine lv_astore_n (lv' := [(3, .ref h1), (0, .ref h0), (1, .int p0), (2, .int p1)]) hx hb d_Ct_may_5 rfl hl (by decide) rfl (fun ls hl => ?_)
  refine lv_aload_n hx hb d_Ct_may_6 rfl (lv_at hl 0 rfl) ?_
  refine lv_ifnull hx hb d_Ct_may_7 ?_
  refine lv_iload_n hx hb d_Ct_may_10 rfl (lv_at hl 3 rfl) ?_
  refine lv_i2l hx hb d_Ct_may_11 rfl ?_
  refine lv_lconst (v := 0) hx hb d_Ct_may_12 (by decide) ?_
  refine lv_ldc2 (v := 4) hx hb hown (hts _ cw_509) d_Ct_may_13 ?_
  have hPc := hP.sub (ws' := []) [] rfl
  have hDc := hD.sub (ws' := []) [] (by decide) rfl
  have hKc := hK.sub (tys' := []) [] rfl
  have hFc := va_free (wc := []) hD hS hA [] rfl
  refine vp_callSi (va_Run.run (va_runS (As := [.long p1.toInt64, .long 0, .long 4]) (rest := [])  ⟨hx, hb, hml, hown, hts⟩ (c_Ct_isWithin l D p1.toInt64 0 4 s.heap.size ) ⟨callB_of 3 hts cg_Ct_isWithin rfl rfl rfl (hts _ cw_1) (hts _ cw_267) (by decide +kernel) ⟨Nat.le_of_ble_eq_true rfl, Nat.le_of_ble_eq_true rfl⟩, hts _ cw_268⟩ (cx_preS [.long p1.toInt64, .long 0, .long 4] hPc hKc hDc hN hO hS hFc) rfl rfl hl.1 rfl (lv_room (Nat.le_of_ble_eq_true rfl)) d_Ct_may_16 ⟨Nat.le_of_ble_eq_true rfl, Nat.le_of_ble_eq_true rfl⟩)) (fun r z_2 => ?_)
  subst z_2
  refine lv_if_ne (tgt := 24) hx hb d_Ct_may_19 (by decide) (fun c_3 => ?_) (fun c_3 => ?_)
  · refine lv_aload_n hx hb d_Ct_may_24 rfl (lv_at hl 0 rfl) ?_
    have hPc := hP.sub (ws' := [(h1, .inr (0, [.int f0, .int f1, .long f2, .int f3, .int f4, .int f5, .int f6, .int f7, .int f8, .int f9, .int f10, .int f11]))]) [2] rfl
    have hDc := hD.sub (ws' := [(h1, .inr (0, [.int f0, .int f1, .long f2, .int f3, .int f4, .int f5, .int f6, .int f7, .int f8, .int f9, .int f10, .int f11]))]) [2] (by decide) rfl
    have hKc := hK.sub (tys' := []) [] rfl
    have hFc := va_free (wc := [(h1, .inr (0, [.int f0, .int f1, .long f2, .int f3, .int f4, .int f5, .int f6, .int f7, .int f8, .int f9, .int f10, .int f11]))]) hD hS hA [2] rfl
    refine vp_callSi (va_Run.run (va_runV (As := []) (rest := [])  ⟨hx, hb, hml, hown, hts⟩ (c_Cell_isUnsafe l D h1 f0 f1 f2 f3 f4 f5 f6 f7 f8 f9 f10 f11 s.heap.size ) ⟨callB_of 0 hts cg_Cell_isUnsafe rfl rfl rfl (hts _ cw_11) (hts _ cw_499) (by decide +kernel) ⟨Nat.le_of_ble_eq_true rfl, Nat.le_of_ble_eq_true rfl⟩, hts _ cw_500, hts _ cw_501⟩ (cx_preV (C := R_Cell) [] hPc hKc hDc hN hO hS hFc (ci := 0) (q0 := 0) rfl rfl rfl) rfl rfl hl.1 rfl (lv_room (Nat.le_of_ble_eq_true rfl)) d_Ct_may_25 ⟨Nat.le_of_ble_eq_true rfl, Nat.le_of_ble_eq_true rfl⟩)) (fun r z_4 => ?_)
    subst z_4
    refine lv_if_eq (tgt := 47) hx hb d_Ct_may_28 (by decide) (fun c_5 => ?_) (fun c_5 => ?_)
    · refine lv_aload_n hx hb d_Ct_may_47 rfl (lv_at hl 0 rfl) ?_
      have hPc := hP.sub (ws' := [(h1, .inr (0, [.int f0, .int f1, .long f2, .int f3, .int f4, .int f5, .int f6, .int f7, .int f8, .int f9, .int f10, .int f11]))]) [2] rfl
      have hDc := hD.sub (ws' := [(h1, .inr (0, [.int f0, .int f1, .long f2, .int f3, .int f4, .int f5, .int f6, .int f7, .int f8, .int f9, .int f10, .int f11]))]) [2] (by decide) rfl
      have hKc := hK.sub (tys' := []) [] rfl
      have hFc := va_free (wc := [(h1, .inr (0, [.int f0, .int f1, .long f2, .int f3, .int f4, .int f5, .int f6, .int f7, .int f8, .int f9, .int f10, .int f11]))]) hD hS hA [2] rfl
      refine vp_callSi (va_Run.run (va_runV (As := []) (rest := [])  ⟨hx, hb, hml, hown, hts⟩ (c_Cell_isOpen l D h1 f0 f1 f2 f3 f4 f5 f6 f7 f8 f9 f10 f11 s.heap.size ) ⟨callB_of 0 hts cg_Cell_isOpen rfl rfl rfl (hts _ cw_11) (hts _ cw_477) (by decide +kernel) ⟨Nat.le_of_ble_eq_true rfl, Nat.le_of_ble_eq_true rfl⟩, hts _ cw_478, hts _ cw_479⟩ (cx_preV (C := R_Cell) [] hPc hKc hDc hN hO hS hFc (ci := 0) (q0 := 0) rfl rfl rfl) rfl rfl hl.1 rfl (lv_room (Nat.le_of_ble_eq_true rfl)) d_Ct_may_48 ⟨Nat.le_of_ble_eq_true rfl, Nat.le_of_ble_eq_true rfl⟩)) (fun r z_6 => ?_)
      subst z_6
      refine lv_if_eq (tgt := 69) hx hb d_Ct_may_51 (by decide) (fun c_7 => ?_) (fun c_7 => ?_)
      · refine lv_iload_n hx hb d_Ct_may_69 rfl (lv_at hl 3 rfl) ?_
        refine lv_iconst (v := 4) hx hb d_Ct_may_70 (by decide) ?_
        refine lv_icmp_eq (tgt := 78) hx hb d_Ct_may_71 (by decide) (fun c_8 => ?_) (fun c_8 => ?_)
        · refine lv_iconst (v := 0) hx hb d_Ct_may_78 (by decide) ?_
          exact W.zret (v := 0) hx hb hr (rfl) (fun t ht hW => ⟨_, rfl, by simp [m_cmay, eq_false c_3, eq_true c_5, eq_true c_7, eq_true c_8], ht⟩) (fun q h => by cases h) d_Ct_may_79
        · refine lv_iconst (v := 1) hx hb d_Ct_may_74 (by decide) ?_
          refine lv_goto (tgt := 79) hx hb d_Ct_may_75 (by decide) ?_
          exact W.zret (v := 1) hx hb hr (rfl) (fun t ht hW => ⟨_, rfl, by simp [m_cmay, eq_false c_3, eq_true c_5, eq_true c_7, eq_false c_8], ht⟩) (fun q h => by cases h) d_Ct_may_79
      · refine lv_iload_n hx hb d_Ct_may_54 rfl (lv_at hl 3 rfl) ?_
        refine lv_if_eq (tgt := 63) hx hb d_Ct_may_55 (by decide) (fun c_9 => ?_) (fun c_9 => ?_)
        · refine lv_iconst (v := 1) hx hb d_Ct_may_63 (by decide) ?_
          refine lv_goto (tgt := 68) hx hb d_Ct_may_64 (by decide) ?_
          exact W.zret (v := 1) hx hb hr (rfl) (fun t ht hW => ⟨_, rfl, by simp [m_cmay, eq_false c_3, eq_true c_5, eq_false c_7, eq_true c_9], ht⟩) (fun q h => by cases h) d_Ct_may_68
        · refine lv_iload_n hx hb d_Ct_may_58 rfl (lv_at hl 3 rfl) ?_
          refine lv_iconst (v := 4) hx hb d_Ct_may_59 (by decide) ?_
          refine lv_icmp_ne (tgt := 67) hx hb d_Ct_may_60 (by decide) (fun c_10 => ?_) (fun c_10 => ?_)
          · refine lv_iconst (v := 0) hx hb d_Ct_may_67 (by decide) ?_
            exact W.zret (v := 0) hx hb hr (rfl) (fun t ht hW => ⟨_, rfl, by simp [m_cmay, eq_false c_3, eq_true c_5, eq_false c_7, eq_false c_9, eq_false c_10], ht⟩) (fun q h => by cases h) d_Ct_may_68
          · refine lv_iconst (v := 1) hx hb d_Ct_may_63 (by decide) ?_
            refine lv_goto (tgt := 68) hx hb d_Ct_may_64 (by decide) ?_
            exact W.zret (v := 1) hx hb hr (rfl) (fun t ht hW => ⟨_, rfl, by simp [m_cmay, eq_false c_3, eq_true c_5, eq_false c_7, eq_false c_9, eq_true c_10], ht⟩) (fun q h => by cases h) d_Ct_may_68
    · refine lv_iload_n hx hb d_Ct_may_31 rfl (lv_at hl 3 rfl) ?_
      refine lv_iconst (v := 3) hx hb d_Ct_may_32 (by decide) ?_
      refine lv_icmp_eq (tgt := 41) hx hb d_Ct_may_33 (by decide) (fun c_11 => ?_) (fun c_11 => ?_)
      · refine lv_iconst (v := 1) hx hb d_Ct_may_41 (by decide) ?_
        refine lv_goto (tgt := 46) hx hb d_Ct_may_42 (by decide) ?_
        exact W.zret (v := 1) hx hb hr (rfl) (fun t ht hW => ⟨_, rfl, by simp [m_cmay, eq_false c_3, eq_false c_5, eq_true c_11], ht⟩) (fun q h => by cases h) d_Ct_may_46
      · refine lv_iload_n hx hb d_Ct_may_36 rfl (lv_at hl 3 rfl) ?_
        refine lv_iconst (v := 4) hx hb d_Ct_may_37 (by decide) ?_
        refine lv_icmp_ne (tgt := 45) hx hb d_Ct_may_38 (by decide) (fun c_12 => ?_) (fun c_12 => ?_)
        · refine lv_iconst (v := 0) hx hb d_Ct_may_45 (by decide) ?_
          exact W.zret (v := 0) hx hb hr (rfl) (fun t ht hW => ⟨_, rfl, by simp [m_cmay, eq_false c_3, eq_false c_5, eq_false c_11, eq_false c_12], ht⟩) (fun q h => by cases h) d_Ct_may_46
        · refine lv_iconst (v := 1) hx hb d_Ct_may_41 (by decide) ?_
          refine lv_goto (tgt := 46) hx hb d_Ct_may_42 (by decide) ?_
          exact W.zret (v := 1) hx hb hr (rfl) (fun t ht hW => ⟨_, rfl, by simp [m_cmay, eq_false c_3, eq_false c_5, eq_false c_11, eq_true c_12], ht⟩) (fun q h => by cases h) d_Ct_may_46
  · refine lv_iconst (v := 0) hx hb d_Ct_may_22 (by decide) ?_
    exact W.zret (v := 0) hx hb hr (rfl) (fun t ht hW => ⟨_, rfl, by simp [m_cmay, eq_true c_3], ht⟩) (fun q h => by cases h) d_Ct_may_23

set_option maxHeartbeats 4000000 in
set_option maxRecDepth 100000 in
theorem c_Ct_classOf_n (l : Launch) (D : va_G)  (h0 : Nat) (qa : Nat) (cnt : Int32) (slo : Int32) (shi : Int32) (qt : Nat) (qs : Nat) (qp : Nat) (qk : Nat) (qf : Nat) (ql : Nat) (sz : Nat)  : Met l y_Ct_classOf ws_Ct_classOf ({ frames := 5, cells := 0, slots := 0, locals := 115 }) (va_Pc [.ref h0, .null] (cx_pre D [] ([(h0, .inr (5, [.ref qa, .int cnt, .int slo, .int shi, .ref qt, .ref qs, .ref qp, .ref qk, .ref qf, .ref ql]))]) sz)) (vp_Si (fun r9 => r9 = (-1))) 0 0 (fun _ => False) := by
  refine Met.ofW (cc := b_Ct_classOf) (maxL := 2) (ret := (some .int)) (by decide) rfl ?_
  intro p e s m args below meth c s₁ B hml hv
  obtain ⟨rfl, hsz, hP, hK, hD0, hN, hO⟩ := hv
  have hx := B.exec
  have hb := B.bytes
  have hr := B.returns
  have hts := fun (w : Cond) (h : w ∈ cx_tbl) => atoms_spec (ws := ws_Ct_classOf) B.pre w (List.mem_cons_of_mem _ h)
  have hown : s.vm.findClass R_Ct = some m.cls := findClass_of_methodNamed B.named
  have hlocks := B.notSynchronized
  subst hsz
  have hD := hD0.self (sz := s.heap.size)
  generalize hAe : va_A ([(h0, .inr (5, [.ref qa, .int cnt, .int slo, .int shi, .ref qt, .ref qs, .ref qp, .ref qk, .ref qf, .ref ql]))]) s.heap.size = A at hD hO
  have hA : ∀ q : Nat, s.heap.size ≤ q → A q := fun q h => by rw [← hAe]; exact Or.inr h
  have hS : va_S A s.heap s.heap [] := va_S.rf
  have hl := lv_entry ([.ref h0, .null]) (n := 2) (Nat.le_of_ble_eq_true rfl)
  rw [lg_entry_eq]
  generalize (lg_sl ([.ref h0, .null]) ++ List.replicate (2 - (lg_sl ([.ref h0, .null])).length) Slot.unset).toArray = ls at hl ⊢
  have hl : lv_has ls 2 [(0, .ref h0), (1, .null)] := hl
  refine lv_aload_nN hx hb d_Ct_classOf_0 rfl (lv_at hl 1 rfl) ?_
  refine lv_ifnullN (tgt := 11) hx hb d_Ct_classOf_1 (by decide) ?_
  refine lv_iconst (v := (-1)) hx hb d_Ct_classOf_11 (by decide) ?_
  refine lv_goto (tgt := 23) hx hb d_Ct_classOf_12 (by decide) ?_
  exact W.iret (v := (-1)) hx hb hr (fun t ht hW => ⟨_, rfl, rfl, ht⟩) (fun q h => by cases h) d_Ct_classOf_23

set_option maxHeartbeats 4000000 in
set_option maxRecDepth 100000 in
theorem c_Ct_classOf (l : Launch) (D : va_G)  (h0 : Nat) (qa : Nat) (cnt : Int32) (slo : Int32) (shi : Int32) (qt : Nat) (qs : Nat) (qp : Nat) (qk : Nat) (qf : Nat) (ql : Nat) (a0 : Nat) (a1 : Nat) (a2 : Nat) (a3 : Nat) (a4 : Nat) (k0 : ClassId) (k1 : ClassId) (k2 : ClassId) (k3 : ClassId) (k4 : ClassId) (g0 : Nat → Int32) (g1 : Nat → Int32) (g2 : Nat → Int32) (g3 : Nat → Int32) (g4 : Nat → Int32) (sn : Int32) (cl : Int32) (h1 : Nat) (f0 : Int32) (f1 : Int32) (f2 : Int64) (f3 : Int32) (f4 : Int32) (f5 : Int32) (f6 : Int32) (f7 : Int32) (f8 : Int32) (f9 : Int32) (f10 : Int32) (f11 : Int32) (sz : Nat)  : Met l y_Ct_classOf ws_Ct_classOf ({ frames := 5, cells := 0, slots := 0, locals := 115 }) (va_Pc [.ref h0, .ref h1] (cx_pre D [(k0, .int), (k1, .int), (k2, .char), (k3, .int), (k4, .int)] ([(h0, .inr (5, [.ref qa, .int cnt, .int slo, .int shi, .ref qt, .ref qs, .ref qp, .ref qk, .ref qf, .ref ql])), (qs, .inr (3, [.ref a0, .ref a1, .int sn, .ref a2, .ref a3, .ref a4, .int cl])), (a0, .inl (k0, 20, .inl g0)), (a1, .inl (k1, 20, .inl g1)), (a2, .inl (k2, 100, .inl g2)), (a3, .inl (k3, 100, .inl g3)), (a4, .inl (k4, 100, .inl g4)), (h1, .inr (0, [.int f0, .int f1, .long f2, .int f3, .int f4, .int f5, .int f6, .int f7, .int f8, .int f9, .int f10, .int f11]))]) sz)) (vp_Si (fun r9 => r9 = m_class f1 f7 f2 f5 f6 f11 g0 g1 g2 g3 g4 sn)) 0 0 (fun _ => False) := by
  refine Met.ofW (cc := b_Ct_classOf) (maxL := 2) (ret := (some .int)) (by decide) rfl ?_
  intro p e s m args below meth c s₁ B hml hv
  obtain ⟨rfl, hsz, hP, hK, hD0, hN, hO⟩ := hv
  have hx := B.exec
  have hb := B.bytes
  have hr := B.returns
  have hts := fun (w : Cond) (h : w ∈ cx_tbl) => atoms_spec (ws := ws_Ct_classOf) B.pre w (List.mem_cons_of_mem _ h)
  have hown : s.vm.findClass R_Ct = some m.cls := findClass_of_methodNamed B.named
  have hlocks := B.notSynchronized
  subst hsz
  have hD := hD0.self (sz := s.heap.size)
  generalize hAe : va_A ([(h0, .inr (5, [.ref qa, .int cnt, .int slo, .int shi, .ref qt, .ref qs, .ref qp, .ref qk, .ref qf, .ref ql])), (qs, .inr (3, [.ref a0, .ref a1, .int sn, .ref a2, .ref a3, .ref a4, .int cl])), (a0, .inl (k0, 20, .inl g0)), (a1, .inl (k1, 20, .inl g1)), (a2, .inl (k2, 100, .inl g2)), (a3, .inl (k3, 100, .inl g3)), (a4, .inl (k4, 100, .inl g4)), (h1, .inr (0, [.int f0, .int f1, .long f2, .int f3, .int f4, .int f5, .int f6, .int f7, .int f8, .int f9, .int f10, .int f11]))]) s.heap.size = A at hD hO
  have hA : ∀ q : Nat, s.heap.size ≤ q → A q := fun q h => by rw [← hAe]; exact Or.inr h
  have hS : va_S A s.heap s.heap [] := va_S.rf
  have hl := lv_entry ([.ref h0, .ref h1]) (n := 2) (Nat.le_of_ble_eq_true rfl)
  rw [lg_entry_eq]
  generalize (lg_sl ([.ref h0, .ref h1]) ++ List.replicate (2 - (lg_sl ([.ref h0, .ref h1])).length) Slot.unset).toArray = ls at hl ⊢
  have hl : lv_has ls 2 [(0, .ref h0), (1, .ref h1)] := hl
  refine lv_aload_n hx hb d_Ct_classOf_0 rfl (lv_at hl 1 rfl) ?_
  refine lv_ifnull hx hb d_Ct_classOf_1 ?_
  refine lv_aload_n hx hb d_Ct_classOf_4 rfl (lv_at hl 1 rfl) ?_
  have hPc := hP.sub (ws' := [(h1, .inr (0, [.int f0, .int f1, .long f2, .int f3, .int f4, .int f5, .int f6, .int f7, .int f8, .int f9, .int f10, .int f11]))]) [7] rfl
  have hDc := hD.sub (ws' := [(h1, .inr (0, [.int f0, .int f1, .long f2, .int f3, .int f4, .int f5, .int f6, .int f7, .int f8, .int f9, .int f10, .int f11]))]) [7] (by decide) rfl
  have hKc := hK.sub (tys' := []) [] rfl
  have hFc := va_free (wc := [(h1, .inr (0, [.int f0, .int f1, .long f2, .int f3, .int f4, .int f5, .int f6, .int f7, .int f8, .int f9, .int f10, .int f11]))]) hD hS hA [7] rfl
  refine vp_callSi (va_Run.run (va_runV (As := []) (rest := [])  ⟨hx, hb, hml, hown, hts⟩ (c_Cell_isOpen l D h1 f0 f1 f2 f3 f4 f5 f6 f7 f8 f9 f10 f11 s.heap.size ) ⟨callB_of 0 hts cg_Cell_isOpen rfl rfl rfl (hts _ cw_11) (hts _ cw_477) (by decide +kernel) ⟨Nat.le_of_ble_eq_true rfl, Nat.le_of_ble_eq_true rfl⟩, hts _ cw_478, hts _ cw_479⟩ (cx_preV (C := R_Cell) [] hPc hKc hDc hN hO hS hFc (ci := 0) (q0 := 0) rfl rfl rfl) rfl rfl hl.1 rfl (lv_room (Nat.le_of_ble_eq_true rfl)) d_Ct_classOf_5 ⟨Nat.le_of_ble_eq_true rfl, Nat.le_of_ble_eq_true rfl⟩)) (fun r z_1 => ?_)
  subst z_1
  refine lv_if_eq (tgt := 15) hx hb d_Ct_classOf_8 (by decide) (fun c_2 => ?_) (fun c_2 => ?_)
  · refine lv_aload_n hx hb d_Ct_classOf_15 rfl (lv_at hl 0 rfl) ?_
    refine va_get (D := D) (ci := 5) (v := .ref qs) (C := R_Ct) (T := T_Ct) (N := 10) hx hb hts in_Ct hown hK hP 0 rfl rfl 5 (by decide) (hts _ cw_177) (fun _ h9 => h9) rfl d_Ct_classOf_16 ?_
    refine lv_aload_n hx hb d_Ct_classOf_19 rfl (lv_at hl 1 rfl) ?_
    have hPc := hP.sub (ws' := [(qs, .inr (3, [.ref a0, .ref a1, .int sn, .ref a2, .ref a3, .ref a4, .int cl])), (a0, .inl (k0, 20, .inl g0)), (a1, .inl (k1, 20, .inl g1)), (a2, .inl (k2, 100, .inl g2)), (a3, .inl (k3, 100, .inl g3)), (a4, .inl (k4, 100, .inl g4)), (h1, .inr (0, [.int f0, .int f1, .long f2, .int f3, .int f4, .int f5, .int f6, .int f7, .int f8, .int f9, .int f10, .int f11]))]) [1, 2, 3, 4, 5, 6, 7] rfl
    have hDc := hD.sub (ws' := [(qs, .inr (3, [.ref a0, .ref a1, .int sn, .ref a2, .ref a3, .ref a4, .int cl])), (a0, .inl (k0, 20, .inl g0)), (a1, .inl (k1, 20, .inl g1)), (a2, .inl (k2, 100, .inl g2)), (a3, .inl (k3, 100, .inl g3)), (a4, .inl (k4, 100, .inl g4)), (h1, .inr (0, [.int f0, .int f1, .long f2, .int f3, .int f4, .int f5, .int f6, .int f7, .int f8, .int f9, .int f10, .int f11]))]) [1, 2, 3, 4, 5, 6, 7] (by decide) rfl
    have hKc := hK.sub (tys' := [(k0, .int), (k1, .int), (k2, .char), (k3, .int), (k4, .int)]) [0, 1, 2, 3, 4] rfl
    have hFc := va_free (wc := [(qs, .inr (3, [.ref a0, .ref a1, .int sn, .ref a2, .ref a3, .ref a4, .int cl])), (a0, .inl (k0, 20, .inl g0)), (a1, .inl (k1, 20, .inl g1)), (a2, .inl (k2, 100, .inl g2)), (a3, .inl (k3, 100, .inl g3)), (a4, .inl (k4, 100, .inl g4)), (h1, .inr (0, [.int f0, .int f1, .long f2, .int f3, .int f4, .int f5, .int f6, .int f7, .int f8, .int f9, .int f10, .int f11]))]) hD hS hA [1, 2, 3, 4, 5, 6, 7] rfl
    refine vp_callSi (va_Run.run (va_runV (As := [.ref h1]) (rest := [])  ⟨hx, hb, hml, hown, hts⟩ (c_Set_firstThatHolds l D qs a0 a1 a2 a3 a4 k0 k1 k2 k3 k4 g0 g1 g2 g3 g4 sn cl h1 f0 f1 f2 f3 f4 f5 f6 f7 f8 f9 f10 f11 s.heap.size ) ⟨callB_of 1 hts cg_Set_firstThatHolds rfl rfl rfl (hts _ cw_3) (hts _ cw_481) (by decide +kernel) ⟨Nat.le_of_ble_eq_true rfl, Nat.le_of_ble_eq_true rfl⟩, hts _ cw_482, hts _ cw_483⟩ (cx_preV (C := R_Set) [.ref h1] hPc hKc hDc hN hO hS hFc (ci := 3) (q0 := 0) rfl rfl rfl) rfl rfl hl.1 rfl (lv_room (Nat.le_of_ble_eq_true rfl)) d_Ct_classOf_20 ⟨Nat.le_of_ble_eq_true rfl, Nat.le_of_ble_eq_true rfl⟩)) (fun r z_3 => ?_)
    subst z_3
    exact W.iret (v := m_first f2 f5 f6 f11 g0 g1 g2 g3 g4 sn 21 0 0) hx hb hr (fun t ht hW => ⟨_, rfl, by simp [m_class, eq_true c_2], ht⟩) (fun q h => by cases h) d_Ct_classOf_23
  · refine lv_iconst (v := (-1)) hx hb d_Ct_classOf_11 (by decide) ?_
    refine lv_goto (tgt := 23) hx hb d_Ct_classOf_12 (by decide) ?_
    exact W.iret (v := (-1)) hx hb hr (fun t ht hW => ⟨_, rfl, by simp [m_class, eq_false c_2], ht⟩) (fun q h => by cases h) d_Ct_classOf_23

set_option maxHeartbeats 4000000 in
set_option maxRecDepth 100000 in
theorem c_Ct_cls_n (l : Launch) (D : va_G)  (h0 : Nat) (qa : Nat) (cnt : Int32) (slo : Int32) (shi : Int32) (qt : Nat) (qs : Nat) (qp : Nat) (qk : Nat) (qf : Nat) (ql : Nat) (kq : ClassId) (fc : Nat → Option Nat) (p0 : Int32) (sz : Nat) (hcell : m_cellOf cnt fc p0 = none) : Met l y_Ct_cls ws_Ct_cls ({ frames := 6, cells := 0, slots := 0, locals := 136 }) (va_Pc [.ref h0, .int p0] (cx_pre D [(kq, .object "CellTests$Cell")] ([(h0, .inr (5, [.ref qa, .int cnt, .int slo, .int shi, .ref qt, .ref qs, .ref qp, .ref qk, .ref qf, .ref ql])), (qa, .inl (kq, 8, .inr (.inr (.inr (.inr fc)))))]) sz)) (vp_Si (fun r9 => r9 = (-1))) 0 0 (fun _ => False) := by
  refine Met.ofW (cc := b_Ct_cls) (maxL := 2) (ret := (some .int)) (by decide) rfl ?_
  intro p e s m args below meth c s₁ B hml hv
  obtain ⟨rfl, hsz, hP, hK, hD0, hN, hO⟩ := hv
  have hx := B.exec
  have hb := B.bytes
  have hr := B.returns
  have hts := fun (w : Cond) (h : w ∈ cx_tbl) => atoms_spec (ws := ws_Ct_cls) B.pre w (List.mem_cons_of_mem _ h)
  have hown : s.vm.findClass R_Ct = some m.cls := findClass_of_methodNamed B.named
  have hlocks := B.notSynchronized
  subst hsz
  have hD := hD0.self (sz := s.heap.size)
  generalize hAe : va_A ([(h0, .inr (5, [.ref qa, .int cnt, .int slo, .int shi, .ref qt, .ref qs, .ref qp, .ref qk, .ref qf, .ref ql])), (qa, .inl (kq, 8, .inr (.inr (.inr (.inr fc)))))]) s.heap.size = A at hD hO
  have hA : ∀ q : Nat, s.heap.size ≤ q → A q := fun q h => by rw [← hAe]; exact Or.inr h
  have hS : va_S A s.heap s.heap [] := va_S.rf
  have hl := lv_entry ([.ref h0, .int p0]) (n := 2) (Nat.le_of_ble_eq_true rfl)
  rw [lg_entry_eq]
  generalize (lg_sl ([.ref h0, .int p0]) ++ List.replicate (2 - (lg_sl ([.ref h0, .int p0])).length) Slot.unset).toArray = ls at hl ⊢
  have hl : lv_has ls 2 [(0, .ref h0), (1, .int p0)] := hl
  refine lv_aload_n hx hb d_Ct_cls_0 rfl (lv_at hl 0 rfl) ?_
  refine lv_aload_n hx hb d_Ct_cls_1 rfl (lv_at hl 0 rfl) ?_
  refine lv_iload_n hx hb d_Ct_cls_2 rfl (lv_at hl 1 rfl) ?_
  have hPc := hP.sub (ws' := [(h0, .inr (5, [.ref qa, .int cnt, .int slo, .int shi, .ref qt, .ref qs, .ref qp, .ref qk, .ref qf, .ref ql])), (qa, .inl (kq, 8, .inr (.inr (.inr (.inr fc)))))]) [0, 1] rfl
  have hDc := hD.sub (ws' := [(h0, .inr (5, [.ref qa, .int cnt, .int slo, .int shi, .ref qt, .ref qs, .ref qp, .ref qk, .ref qf, .ref ql])), (qa, .inl (kq, 8, .inr (.inr (.inr (.inr fc)))))]) [0, 1] (by decide) rfl
  have hKc := hK.sub (tys' := [(kq, .object "CellTests$Cell")]) [0] rfl
  have hFc := va_free (wc := [(h0, .inr (5, [.ref qa, .int cnt, .int slo, .int shi, .ref qt, .ref qs, .ref qp, .ref qk, .ref qf, .ref ql])), (qa, .inl (kq, 8, .inr (.inr (.inr (.inr fc)))))]) hD hS hA [0, 1] rfl
  refine va_csq (va_Run.run (va_runV (As := [.int p0]) (rest := [.ref h0])  ⟨hx, hb, hml, hown, hts⟩ (c_Ct_cellOf l D h0 qa cnt slo shi qt qs qp qk qf ql kq fc p0 s.heap.size ) ⟨callB_of 1 hts cg_Ct_cellOf rfl rfl rfl (hts _ cw_1) (hts _ cw_262) (by decide +kernel) ⟨Nat.le_of_ble_eq_true rfl, Nat.le_of_ble_eq_true rfl⟩, hts _ cw_264, hts _ cs_0⟩ (cx_preV (C := R_Ct) [.int p0] hPc hKc hDc hN hO hS hFc (ci := 5) (q0 := 0) rfl rfl rfl) rfl rfl hl.1 rfl (lv_room (Nat.le_of_ble_eq_true rfl)) d_Ct_cls_3 ⟨Nat.le_of_ble_eq_true rfl, Nat.le_of_ble_eq_true rfl⟩)) (fun r z_1 => ?_)
  subst z_1
  rw [hcell]
  refine W.eq (g2 := F0 m 6 ls [.null, .ref h0]) rfl ?_
  have hPc := hP.sub (ws' := [(h0, .inr (5, [.ref qa, .int cnt, .int slo, .int shi, .ref qt, .ref qs, .ref qp, .ref qk, .ref qf, .ref ql]))]) [0] rfl
  have hDc := hD.sub (ws' := [(h0, .inr (5, [.ref qa, .int cnt, .int slo, .int shi, .ref qt, .ref qs, .ref qp, .ref qk, .ref qf, .ref ql]))]) [0] (by decide) rfl
  have hKc := hK.sub (tys' := []) [] rfl
  have hFc := va_free (wc := [(h0, .inr (5, [.ref qa, .int cnt, .int slo, .int shi, .ref qt, .ref qs, .ref qp, .ref qk, .ref qf, .ref ql]))]) hD hS hA [0] rfl
  refine vp_callSi (va_Run.run (va_runV (As := [.null]) (rest := [])  ⟨hx, hb, hml, hown, hts⟩ (c_Ct_classOf_n l D h0 qa cnt slo shi qt qs qp qk qf ql s.heap.size ) ⟨callB_of 1 hts cg_Ct_classOf rfl rfl rfl (hts _ cw_1) (hts _ cw_473) (by decide +kernel) ⟨Nat.le_of_ble_eq_true rfl, Nat.le_of_ble_eq_true rfl⟩, hts _ cw_475, hts _ cs_10⟩ (cx_preV (C := R_Ct) [.null] hPc hKc hDc hN hO hS hFc (ci := 5) (q0 := 0) rfl rfl rfl) rfl rfl hl.1 rfl (lv_room (Nat.le_of_ble_eq_true rfl)) d_Ct_cls_6 ⟨Nat.le_of_ble_eq_true rfl, Nat.le_of_ble_eq_true rfl⟩)) (fun r z_2 => ?_)
  subst z_2
  exact W.iret (v := (-1)) hx hb hr (fun t ht hW => ⟨_, rfl, rfl, ht⟩) (fun q h => by cases h) d_Ct_cls_9

set_option maxHeartbeats 4000000 in
set_option maxRecDepth 100000 in
theorem c_Ct_cls (l : Launch) (D : va_G)  (h0 : Nat) (qa : Nat) (cnt : Int32) (slo : Int32) (shi : Int32) (qt : Nat) (qs : Nat) (qp : Nat) (qk : Nat) (qf : Nat) (ql : Nat) (kq : ClassId) (fc : Nat → Option Nat) (h1 : Nat) (f0 : Int32) (f1 : Int32) (f2 : Int64) (f3 : Int32) (f4 : Int32) (f5 : Int32) (f6 : Int32) (f7 : Int32) (f8 : Int32) (f9 : Int32) (f10 : Int32) (f11 : Int32) (a0 : Nat) (a1 : Nat) (a2 : Nat) (a3 : Nat) (a4 : Nat) (k0 : ClassId) (k1 : ClassId) (k2 : ClassId) (k3 : ClassId) (k4 : ClassId) (g0 : Nat → Int32) (g1 : Nat → Int32) (g2 : Nat → Int32) (g3 : Nat → Int32) (g4 : Nat → Int32) (sn : Int32) (cl : Int32) (p0 : Int32) (sz : Nat) (hcell : m_cellOf cnt fc p0 = some h1) : Met l y_Ct_cls ws_Ct_cls ({ frames := 6, cells := 0, slots := 0, locals := 136 }) (va_Pc [.ref h0, .int p0] (cx_pre D [(kq, .object "CellTests$Cell"), (k0, .int), (k1, .int), (k2, .char), (k3, .int), (k4, .int)] ([(h0, .inr (5, [.ref qa, .int cnt, .int slo, .int shi, .ref qt, .ref qs, .ref qp, .ref qk, .ref qf, .ref ql])), (qa, .inl (kq, 8, .inr (.inr (.inr (.inr fc))))), (h1, .inr (0, [.int f0, .int f1, .long f2, .int f3, .int f4, .int f5, .int f6, .int f7, .int f8, .int f9, .int f10, .int f11])), (qs, .inr (3, [.ref a0, .ref a1, .int sn, .ref a2, .ref a3, .ref a4, .int cl])), (a0, .inl (k0, 20, .inl g0)), (a1, .inl (k1, 20, .inl g1)), (a2, .inl (k2, 100, .inl g2)), (a3, .inl (k3, 100, .inl g3)), (a4, .inl (k4, 100, .inl g4))]) sz)) (vp_Si (fun r9 => r9 = m_class f1 f7 f2 f5 f6 f11 g0 g1 g2 g3 g4 sn)) 0 0 (fun _ => False) := by
  refine Met.ofW (cc := b_Ct_cls) (maxL := 2) (ret := (some .int)) (by decide) rfl ?_
  intro p e s m args below meth c s₁ B hml hv
  obtain ⟨rfl, hsz, hP, hK, hD0, hN, hO⟩ := hv
  have hx := B.exec
  have hb := B.bytes
  have hr := B.returns
  have hts := fun (w : Cond) (h : w ∈ cx_tbl) => atoms_spec (ws := ws_Ct_cls) B.pre w (List.mem_cons_of_mem _ h)
  have hown : s.vm.findClass R_Ct = some m.cls := findClass_of_methodNamed B.named
  have hlocks := B.notSynchronized
  subst hsz
  have hD := hD0.self (sz := s.heap.size)
  generalize hAe : va_A ([(h0, .inr (5, [.ref qa, .int cnt, .int slo, .int shi, .ref qt, .ref qs, .ref qp, .ref qk, .ref qf, .ref ql])), (qa, .inl (kq, 8, .inr (.inr (.inr (.inr fc))))), (h1, .inr (0, [.int f0, .int f1, .long f2, .int f3, .int f4, .int f5, .int f6, .int f7, .int f8, .int f9, .int f10, .int f11])), (qs, .inr (3, [.ref a0, .ref a1, .int sn, .ref a2, .ref a3, .ref a4, .int cl])), (a0, .inl (k0, 20, .inl g0)), (a1, .inl (k1, 20, .inl g1)), (a2, .inl (k2, 100, .inl g2)), (a3, .inl (k3, 100, .inl g3)), (a4, .inl (k4, 100, .inl g4))]) s.heap.size = A at hD hO
  have hA : ∀ q : Nat, s.heap.size ≤ q → A q := fun q h => by rw [← hAe]; exact Or.inr h
  have hS : va_S A s.heap s.heap [] := va_S.rf
  have hl := lv_entry ([.ref h0, .int p0]) (n := 2) (Nat.le_of_ble_eq_true rfl)
  rw [lg_entry_eq]
  generalize (lg_sl ([.ref h0, .int p0]) ++ List.replicate (2 - (lg_sl ([.ref h0, .int p0])).length) Slot.unset).toArray = ls at hl ⊢
  have hl : lv_has ls 2 [(0, .ref h0), (1, .int p0)] := hl
  refine lv_aload_n hx hb d_Ct_cls_0 rfl (lv_at hl 0 rfl) ?_
  refine lv_aload_n hx hb d_Ct_cls_1 rfl (lv_at hl 0 rfl) ?_
  refine lv_iload_n hx hb d_Ct_cls_2 rfl (lv_at hl 1 rfl) ?_
  have hPc := hP.sub (ws' := [(h0, .inr (5, [.ref qa, .int cnt, .int slo, .int shi, .ref qt, .ref qs, .ref qp, .ref qk, .ref qf, .ref ql])), (qa, .inl (kq, 8, .inr (.inr (.inr (.inr fc)))))]) [0, 1] rfl
  have hDc := hD.sub (ws' := [(h0, .inr (5, [.ref qa, .int cnt, .int slo, .int shi, .ref qt, .ref qs, .ref qp, .ref qk, .ref qf, .ref ql])), (qa, .inl (kq, 8, .inr (.inr (.inr (.inr fc)))))]) [0, 1] (by decide) rfl
  have hKc := hK.sub (tys' := [(kq, .object "CellTests$Cell")]) [0] rfl
  have hFc := va_free (wc := [(h0, .inr (5, [.ref qa, .int cnt, .int slo, .int shi, .ref qt, .ref qs, .ref qp, .ref qk, .ref qf, .ref ql])), (qa, .inl (kq, 8, .inr (.inr (.inr (.inr fc)))))]) hD hS hA [0, 1] rfl
  refine va_csq (va_Run.run (va_runV (As := [.int p0]) (rest := [.ref h0])  ⟨hx, hb, hml, hown, hts⟩ (c_Ct_cellOf l D h0 qa cnt slo shi qt qs qp qk qf ql kq fc p0 s.heap.size ) ⟨callB_of 1 hts cg_Ct_cellOf rfl rfl rfl (hts _ cw_1) (hts _ cw_262) (by decide +kernel) ⟨Nat.le_of_ble_eq_true rfl, Nat.le_of_ble_eq_true rfl⟩, hts _ cw_264, hts _ cs_0⟩ (cx_preV (C := R_Ct) [.int p0] hPc hKc hDc hN hO hS hFc (ci := 5) (q0 := 0) rfl rfl rfl) rfl rfl hl.1 rfl (lv_room (Nat.le_of_ble_eq_true rfl)) d_Ct_cls_3 ⟨Nat.le_of_ble_eq_true rfl, Nat.le_of_ble_eq_true rfl⟩)) (fun r z_1 => ?_)
  subst z_1
  rw [hcell]
  refine W.eq (g2 := F0 m 6 ls [.ref h1, .ref h0]) rfl ?_
  have hPc := hP.sub (ws' := [(h0, .inr (5, [.ref qa, .int cnt, .int slo, .int shi, .ref qt, .ref qs, .ref qp, .ref qk, .ref qf, .ref ql])), (qs, .inr (3, [.ref a0, .ref a1, .int sn, .ref a2, .ref a3, .ref a4, .int cl])), (a0, .inl (k0, 20, .inl g0)), (a1, .inl (k1, 20, .inl g1)), (a2, .inl (k2, 100, .inl g2)), (a3, .inl (k3, 100, .inl g3)), (a4, .inl (k4, 100, .inl g4)), (h1, .inr (0, [.int f0, .int f1, .long f2, .int f3, .int f4, .int f5, .int f6, .int f7, .int f8, .int f9, .int f10, .int f11]))]) [0, 3, 4, 5, 6, 7, 8, 2] rfl
  have hDc := hD.sub (ws' := [(h0, .inr (5, [.ref qa, .int cnt, .int slo, .int shi, .ref qt, .ref qs, .ref qp, .ref qk, .ref qf, .ref ql])), (qs, .inr (3, [.ref a0, .ref a1, .int sn, .ref a2, .ref a3, .ref a4, .int cl])), (a0, .inl (k0, 20, .inl g0)), (a1, .inl (k1, 20, .inl g1)), (a2, .inl (k2, 100, .inl g2)), (a3, .inl (k3, 100, .inl g3)), (a4, .inl (k4, 100, .inl g4)), (h1, .inr (0, [.int f0, .int f1, .long f2, .int f3, .int f4, .int f5, .int f6, .int f7, .int f8, .int f9, .int f10, .int f11]))]) [0, 3, 4, 5, 6, 7, 8, 2] (by decide) rfl
  have hKc := hK.sub (tys' := [(k0, .int), (k1, .int), (k2, .char), (k3, .int), (k4, .int)]) [1, 2, 3, 4, 5] rfl
  have hFc := va_free (wc := [(h0, .inr (5, [.ref qa, .int cnt, .int slo, .int shi, .ref qt, .ref qs, .ref qp, .ref qk, .ref qf, .ref ql])), (qs, .inr (3, [.ref a0, .ref a1, .int sn, .ref a2, .ref a3, .ref a4, .int cl])), (a0, .inl (k0, 20, .inl g0)), (a1, .inl (k1, 20, .inl g1)), (a2, .inl (k2, 100, .inl g2)), (a3, .inl (k3, 100, .inl g3)), (a4, .inl (k4, 100, .inl g4)), (h1, .inr (0, [.int f0, .int f1, .long f2, .int f3, .int f4, .int f5, .int f6, .int f7, .int f8, .int f9, .int f10, .int f11]))]) hD hS hA [0, 3, 4, 5, 6, 7, 8, 2] rfl
  refine vp_callSi (va_Run.run (va_runV (As := [.ref h1]) (rest := [])  ⟨hx, hb, hml, hown, hts⟩ (c_Ct_classOf l D h0 qa cnt slo shi qt qs qp qk qf ql a0 a1 a2 a3 a4 k0 k1 k2 k3 k4 g0 g1 g2 g3 g4 sn cl h1 f0 f1 f2 f3 f4 f5 f6 f7 f8 f9 f10 f11 s.heap.size ) ⟨callB_of 1 hts cg_Ct_classOf rfl rfl rfl (hts _ cw_1) (hts _ cw_473) (by decide +kernel) ⟨Nat.le_of_ble_eq_true rfl, Nat.le_of_ble_eq_true rfl⟩, hts _ cw_475, hts _ cs_10⟩ (cx_preV (C := R_Ct) [.ref h1] hPc hKc hDc hN hO hS hFc (ci := 5) (q0 := 0) rfl rfl rfl) rfl rfl hl.1 rfl (lv_room (Nat.le_of_ble_eq_true rfl)) d_Ct_cls_6 ⟨Nat.le_of_ble_eq_true rfl, Nat.le_of_ble_eq_true rfl⟩)) (fun r z_2 => ?_)
  subst z_2
  exact W.iret (v := m_class f1 f7 f2 f5 f6 f11 g0 g1 g2 g3 g4 sn) hx hb hr (fun t ht hW => ⟨_, rfl, by simp [], ht⟩) (fun q h => by cases h) d_Ct_cls_9

set_option maxHeartbeats 4000000 in
set_option maxRecDepth 100000 in
theorem c_Ct_fade_n (l : Launch) (D : va_G)  (h0 : Nat) (qa : Nat) (cnt : Int32) (slo : Int32) (shi : Int32) (qt : Nat) (qs : Nat) (qp : Nat) (qk : Nat) (qf : Nat) (ql : Nat) (kq : ClassId) (fc : Nat → Option Nat) (p0 : Int32) (p1 : Int32) (sz : Nat) (hcell : m_cellOf cnt fc p0 = none) : Met l y_Ct_fade ws_Ct_fade ({ frames := 2, cells := 0, slots := 0, locals := 55 }) (va_Pc [.ref h0, .int p0, .int p1] (cx_pre D [(kq, .object "CellTests$Cell")] ([(h0, .inr (5, [.ref qa, .int cnt, .int slo, .int shi, .ref qt, .ref qs, .ref qp, .ref qk, .ref qf, .ref ql])), (qa, .inl (kq, 8, .inr (.inr (.inr (.inr fc)))))]) sz)) (vp_Sl (fun r9 => r9 = (-9223372036854775808))) 0 0 (fun _ => False) := by
  refine Met.ofW (cc := b_Ct_fade) (maxL := 4) (ret := (some .long)) (by decide) rfl ?_
  intro p e s m args below meth c s₁ B hml hv
  obtain ⟨rfl, hsz, hP, hK, hD0, hN, hO⟩ := hv
  have hx := B.exec
  have hb := B.bytes
  have hr := B.returns
  have hts := fun (w : Cond) (h : w ∈ cx_tbl) => atoms_spec (ws := ws_Ct_fade) B.pre w (List.mem_cons_of_mem _ h)
  have hown : s.vm.findClass R_Ct = some m.cls := findClass_of_methodNamed B.named
  have hlocks := B.notSynchronized
  subst hsz
  have hD := hD0.self (sz := s.heap.size)
  generalize hAe : va_A ([(h0, .inr (5, [.ref qa, .int cnt, .int slo, .int shi, .ref qt, .ref qs, .ref qp, .ref qk, .ref qf, .ref ql])), (qa, .inl (kq, 8, .inr (.inr (.inr (.inr fc)))))]) s.heap.size = A at hD hO
  have hA : ∀ q : Nat, s.heap.size ≤ q → A q := fun q h => by rw [← hAe]; exact Or.inr h
  have hS : va_S A s.heap s.heap [] := va_S.rf
  have hl := lv_entry ([.ref h0, .int p0, .int p1]) (n := 4) (Nat.le_of_ble_eq_true rfl)
  rw [lg_entry_eq]
  generalize (lg_sl ([.ref h0, .int p0, .int p1]) ++ List.replicate (4 - (lg_sl ([.ref h0, .int p0, .int p1])).length) Slot.unset).toArray = ls at hl ⊢
  have hl : lv_has ls 4 [(0, .ref h0), (1, .int p0), (2, .int p1)] := hl
  refine lv_aload_n hx hb d_Ct_fade_0 rfl (lv_at hl 0 rfl) ?_
  refine lv_iload_n hx hb d_Ct_fade_1 rfl (lv_at hl 1 rfl) ?_
  have hPc := hP.sub (ws' := [(h0, .inr (5, [.ref qa, .int cnt, .int slo, .int shi, .ref qt, .ref qs, .ref qp, .ref qk, .ref qf, .ref ql])), (qa, .inl (kq, 8, .inr (.inr (.inr (.inr fc)))))]) [0, 1] rfl
  have hDc := hD.sub (ws' := [(h0, .inr (5, [.ref qa, .int cnt, .int slo, .int shi, .ref qt, .ref qs, .ref qp, .ref qk, .ref qf, .ref ql])), (qa, .inl (kq, 8, .inr (.inr (.inr (.inr fc)))))]) [0, 1] (by decide) rfl
  have hKc := hK.sub (tys' := [(kq, .object "CellTests$Cell")]) [0] rfl
  have hFc := va_free (wc := [(h0, .inr (5, [.ref qa, .int cnt, .int slo, .int shi, .ref qt, .ref qs, .ref qp, .ref qk, .ref qf, .ref ql])), (qa, .inl (kq, 8, .inr (.inr (.inr (.inr fc)))))]) hD hS hA [0, 1] rfl
  refine va_csq (va_Run.run (va_runV (As := [.int p0]) (rest := [])  ⟨hx, hb, hml, hown, hts⟩ (c_Ct_cellOf l D h0 qa cnt slo shi qt qs qp qk qf ql kq fc p0 s.heap.size ) ⟨callB_of 1 hts cg_Ct_cellOf rfl rfl rfl (hts _ cw_1) (hts _ cw_262) (by decide +kernel) ⟨Nat.le_of_ble_eq_true rfl, Nat.le_of_ble_eq_true rfl⟩, hts _ cw_264, hts _ cs_0⟩ (cx_preV (C := R_Ct) [.int p0] hPc hKc hDc hN hO hS hFc (ci := 5) (q0 := 0) rfl rfl rfl) rfl rfl hl.1 rfl (lv_room (Nat.le_of_ble_eq_true rfl)) d_Ct_fade_2 ⟨Nat.le_of_ble_eq_true rfl, Nat.le_of_ble_eq_true rfl⟩)) (fun r z_1 => ?_)
  subst z_1
  rw [hcell]
  refine W.eq (g2 := F0 m 5 ls [.null]) rfl ?_
  refine lv_astore_nN (lv' := [(3, .null), (0, .ref h0), (1, .int p0), (2, .int p1)]) hx hb d_Ct_fade_5 rfl hl (by decide) rfl (fun ls hl => ?_)
  refine lv_aload_nN hx hb d_Ct_fade_6 rfl (lv_at hl 0 rfl) ?_
  refine lv_ifnullN (tgt := 22) hx hb d_Ct_fade_7 (by decide) ?_
  refine lv_ldc2 (v := (-9223372036854775808)) hx hb hown (hts _ cw_301) d_Ct_fade_22 ?_
  exact W.lret (v := (-9223372036854775808)) hx hb hr (fun t ht hW => ⟨_, rfl, rfl, ht⟩) (fun q h => by cases h) d_Ct_fade_25

set_option maxHeartbeats 4000000 in
set_option maxRecDepth 100000 in
theorem c_Ct_fade (l : Launch) (D : va_G)  (h0 : Nat) (qa : Nat) (cnt : Int32) (slo : Int32) (shi : Int32) (qt : Nat) (qs : Nat) (qp : Nat) (qk : Nat) (qf : Nat) (ql : Nat) (kq : ClassId) (fc : Nat → Option Nat) (h1 : Nat) (f0 : Int32) (f1 : Int32) (f2 : Int64) (f3 : Int32) (f4 : Int32) (f5 : Int32) (f6 : Int32) (f7 : Int32) (f8 : Int32) (f9 : Int32) (f10 : Int32) (f11 : Int32) (a0 : Nat) (a1 : Nat) (k0 : ClassId) (k1 : ClassId) (g0 : Nat → Int32) (g1 : Nat → Int32) (fcn : Int32) (p0 : Int32) (p1 : Int32) (sz : Nat) (hcell : m_cellOf cnt fc p0 = some h1) : Met l y_Ct_fade ws_Ct_fade ({ frames := 2, cells := 0, slots := 0, locals := 55 }) (va_Pc [.ref h0, .int p0, .int p1] (cx_pre D [(kq, .object "CellTests$Cell"), (k0, .int), (k1, .int)] ([(h0, .inr (5, [.ref qa, .int cnt, .int slo, .int shi, .ref qt, .ref qs, .ref qp, .ref qk, .ref qf, .ref ql])), (qa, .inl (kq, 8, .inr (.inr (.inr (.inr fc))))), (h1, .inr (0, [.int f0, .int f1, .long f2, .int f3, .int f4, .int f5, .int f6, .int f7, .int f8, .int f9, .int f10, .int f11])), (qf, .inr (1, [.ref a0, .ref a1, .int fcn])), (a0, .inl (k0, 6, .inl g0)), (a1, .inl (k1, 6, .inl g1))]) sz)) (vp_Sl (fun r9 => r9 = m_cfade f2 g0 g1 fcn p1)) 0 0 (fun _ => False) := by
  refine Met.ofW (cc := b_Ct_fade) (maxL := 4) (ret := (some .long)) (by decide) rfl ?_
  intro p e s m args below meth c s₁ B hml hv
  obtain ⟨rfl, hsz, hP, hK, hD0, hN, hO⟩ := hv
  have hx := B.exec
  have hb := B.bytes
  have hr := B.returns
  have hts := fun (w : Cond) (h : w ∈ cx_tbl) => atoms_spec (ws := ws_Ct_fade) B.pre w (List.mem_cons_of_mem _ h)
  have hown : s.vm.findClass R_Ct = some m.cls := findClass_of_methodNamed B.named
  have hlocks := B.notSynchronized
  subst hsz
  have hD := hD0.self (sz := s.heap.size)
  generalize hAe : va_A ([(h0, .inr (5, [.ref qa, .int cnt, .int slo, .int shi, .ref qt, .ref qs, .ref qp, .ref qk, .ref qf, .ref ql])), (qa, .inl (kq, 8, .inr (.inr (.inr (.inr fc))))), (h1, .inr (0, [.int f0, .int f1, .long f2, .int f3, .int f4, .int f5, .int f6, .int f7, .int f8, .int f9, .int f10, .int f11])), (qf, .inr (1, [.ref a0, .ref a1, .int fcn])), (a0, .inl (k0, 6, .inl g0)), (a1, .inl (k1, 6, .inl g1))]) s.heap.size = A at hD hO
  have hA : ∀ q : Nat, s.heap.size ≤ q → A q := fun q h => by rw [← hAe]; exact Or.inr h
  have hS : va_S A s.heap s.heap [] := va_S.rf
  have hl := lv_entry ([.ref h0, .int p0, .int p1]) (n := 4) (Nat.le_of_ble_eq_true rfl)
  rw [lg_entry_eq]
  generalize (lg_sl ([.ref h0, .int p0, .int p1]) ++ List.replicate (4 - (lg_sl ([.ref h0, .int p0, .int p1])).length) Slot.unset).toArray = ls at hl ⊢
  have hl : lv_has ls 4 [(0, .ref h0), (1, .int p0), (2, .int p1)] := hl
  refine lv_aload_n hx hb d_Ct_fade_0 rfl (lv_at hl 0 rfl) ?_
  refine lv_iload_n hx hb d_Ct_fade_1 rfl (lv_at hl 1 rfl) ?_
  have hPc := hP.sub (ws' := [(h0, .inr (5, [.ref qa, .int cnt, .int slo, .int shi, .ref qt, .ref qs, .ref qp, .ref qk, .ref qf, .ref ql])), (qa, .inl (kq, 8, .inr (.inr (.inr (.inr fc)))))]) [0, 1] rfl
  have hDc := hD.sub (ws' := [(h0, .inr (5, [.ref qa, .int cnt, .int slo, .int shi, .ref qt, .ref qs, .ref qp, .ref qk, .ref qf, .ref ql])), (qa, .inl (kq, 8, .inr (.inr (.inr (.inr fc)))))]) [0, 1] (by decide) rfl
  have hKc := hK.sub (tys' := [(kq, .object "CellTests$Cell")]) [0] rfl
  have hFc := va_free (wc := [(h0, .inr (5, [.ref qa, .int cnt, .int slo, .int shi, .ref qt, .ref qs, .ref qp, .ref qk, .ref qf, .ref ql])), (qa, .inl (kq, 8, .inr (.inr (.inr (.inr fc)))))]) hD hS hA [0, 1] rfl
  refine va_csq (va_Run.run (va_runV (As := [.int p0]) (rest := [])  ⟨hx, hb, hml, hown, hts⟩ (c_Ct_cellOf l D h0 qa cnt slo shi qt qs qp qk qf ql kq fc p0 s.heap.size ) ⟨callB_of 1 hts cg_Ct_cellOf rfl rfl rfl (hts _ cw_1) (hts _ cw_262) (by decide +kernel) ⟨Nat.le_of_ble_eq_true rfl, Nat.le_of_ble_eq_true rfl⟩, hts _ cw_264, hts _ cs_0⟩ (cx_preV (C := R_Ct) [.int p0] hPc hKc hDc hN hO hS hFc (ci := 5) (q0 := 0) rfl rfl rfl) rfl rfl hl.1 rfl (lv_room (Nat.le_of_ble_eq_true rfl)) d_Ct_fade_2 ⟨Nat.le_of_ble_eq_true rfl, Nat.le_of_ble_eq_true rfl⟩)) (fun r z_1 => ?_)
  subst z_1
  rw [hcell]
  refine W.eq (g2 := F0 m 5 ls [.ref h1]) rfl ?_
  refine lv_astore_n (lv' := [(3, .ref h1), (0, .ref h0), (1, .int p0), (2, .int p1)]) hx hb d_Ct_fade_5 rfl hl (by decide) rfl (fun ls hl => ?_)
  refine lv_aload_n hx hb d_Ct_fade_6 rfl (lv_at hl 0 rfl) ?_
  refine lv_ifnull hx hb d_Ct_fade_7 ?_
  refine lv_iload_n hx hb d_Ct_fade_10 rfl (lv_at hl 3 rfl) ?_
  refine lv_i2l hx hb d_Ct_fade_11 rfl ?_
  refine lv_lconst (v := 0) hx hb d_Ct_fade_12 (by decide) ?_
  refine lv_ldc2 (v := 10000) hx hb hown (hts _ cw_570) d_Ct_fade_13 ?_
  have hPc := hP.sub (ws' := []) [] rfl
  have hDc := hD.sub (ws' := []) [] (by decide) rfl
  have hKc := hK.sub (tys' := []) [] rfl
  have hFc := va_free (wc := []) hD hS hA [] rfl
  refine vp_callSi (va_Run.run (va_runS (As := [.long p1.toInt64, .long 0, .long 10000]) (rest := [])  ⟨hx, hb, hml, hown, hts⟩ (c_Ct_isWithin l D p1.toInt64 0 10000 s.heap.size ) ⟨callB_of 3 hts cg_Ct_isWithin rfl rfl rfl (hts _ cw_1) (hts _ cw_267) (by decide +kernel) ⟨Nat.le_of_ble_eq_true rfl, Nat.le_of_ble_eq_true rfl⟩, hts _ cw_268⟩ (cx_preS [.long p1.toInt64, .long 0, .long 10000] hPc hKc hDc hN hO hS hFc) rfl rfl hl.1 rfl (lv_room (Nat.le_of_ble_eq_true rfl)) d_Ct_fade_16 ⟨Nat.le_of_ble_eq_true rfl, Nat.le_of_ble_eq_true rfl⟩)) (fun r z_2 => ?_)
  subst z_2
  refine lv_if_ne (tgt := 26) hx hb d_Ct_fade_19 (by decide) (fun c_3 => ?_) (fun c_3 => ?_)
  · refine lv_aload_n hx hb d_Ct_fade_26 rfl (lv_at hl 1 rfl) ?_
    refine va_get (D := D) (ci := 5) (v := .ref qf) (C := R_Ct) (T := T_Ct) (N := 10) hx hb hts in_Ct hown hK hP 0 rfl rfl 8 (by decide) (hts _ cw_180) (fun _ h9 => h9) rfl d_Ct_fade_27 ?_
    refine lv_aload_n hx hb d_Ct_fade_30 rfl (lv_at hl 0 rfl) ?_
    have hPc := hP.sub (ws' := [(h1, .inr (0, [.int f0, .int f1, .long f2, .int f3, .int f4, .int f5, .int f6, .int f7, .int f8, .int f9, .int f10, .int f11]))]) [2] rfl
    have hDc := hD.sub (ws' := [(h1, .inr (0, [.int f0, .int f1, .long f2, .int f3, .int f4, .int f5, .int f6, .int f7, .int f8, .int f9, .int f10, .int f11]))]) [2] (by decide) rfl
    have hKc := hK.sub (tys' := []) [] rfl
    have hFc := va_free (wc := [(h1, .inr (0, [.int f0, .int f1, .long f2, .int f3, .int f4, .int f5, .int f6, .int f7, .int f8, .int f9, .int f10, .int f11]))]) hD hS hA [2] rfl
    refine vp_callSl (va_Run.run (va_runV (As := []) (rest := [.ref qf])  ⟨hx, hb, hml, hown, hts⟩ (c_Cell_chargeNow l D h1 f0 f1 f2 f3 f4 f5 f6 f7 f8 f9 f10 f11 s.heap.size ) ⟨callB_of 0 hts cg_Cell_chargeNow rfl rfl rfl (hts _ cw_11) (hts _ cw_302) (by decide +kernel) ⟨Nat.le_of_ble_eq_true rfl, Nat.le_of_ble_eq_true rfl⟩, hts _ cw_303, hts _ cw_304⟩ (cx_preV (C := R_Cell) [] hPc hKc hDc hN hO hS hFc (ci := 0) (q0 := 0) rfl rfl rfl) rfl rfl hl.1 rfl (lv_room (Nat.le_of_ble_eq_true rfl)) d_Ct_fade_31 ⟨Nat.le_of_ble_eq_true rfl, Nat.le_of_ble_eq_true rfl⟩)) (fun r z_4 => ?_)
    subst z_4
    refine lv_iload_n hx hb d_Ct_fade_34 rfl (lv_at hl 3 rfl) ?_
    have hPc := hP.sub (ws' := [(qf, .inr (1, [.ref a0, .ref a1, .int fcn])), (a0, .inl (k0, 6, .inl g0)), (a1, .inl (k1, 6, .inl g1))]) [3, 4, 5] rfl
    have hDc := hD.sub (ws' := [(qf, .inr (1, [.ref a0, .ref a1, .int fcn])), (a0, .inl (k0, 6, .inl g0)), (a1, .inl (k1, 6, .inl g1))]) [3, 4, 5] (by decide) rfl
    have hKc := hK.sub (tys' := [(k0, .int), (k1, .int)]) [1, 2] rfl
    have hFc := va_free (wc := [(qf, .inr (1, [.ref a0, .ref a1, .int fcn])), (a0, .inl (k0, 6, .inl g0)), (a1, .inl (k1, 6, .inl g1))]) hD hS hA [3, 4, 5] rfl
    refine vp_callSl (va_Run.run (va_runV (As := [.long (m_floorDiv f2 3600), .int p1]) (rest := [])  ⟨hx, hb, hml, hown, hts⟩ (c_Fade_leftOf l D qf a0 a1 k0 k1 g0 g1 fcn (m_floorDiv f2 3600) p1 s.heap.size ) ⟨callB_of 2 hts cg_Fade_leftOf rfl rfl rfl (hts _ cw_5) (hts _ cw_571) (by decide +kernel) ⟨Nat.le_of_ble_eq_true rfl, Nat.le_of_ble_eq_true rfl⟩, hts _ cw_572, hts _ cw_573⟩ (cx_preV (C := R_Fade) [.long (m_floorDiv f2 3600), .int p1] hPc hKc hDc hN hO hS hFc (ci := 1) (q0 := 0) rfl rfl rfl) rfl rfl hl.1 rfl (lv_room (Nat.le_of_ble_eq_true rfl)) d_Ct_fade_35 ⟨Nat.le_of_ble_eq_true rfl, Nat.le_of_ble_eq_true rfl⟩)) (fun r z_5 => ?_)
    subst z_5
    exact W.lret (v := m_leftOf g0 g1 fcn p1 7 0 (m_floorDiv f2 3600)) hx hb hr (fun t ht hW => ⟨_, rfl, by simp [m_cfade, eq_false c_3], ht⟩) (fun q h => by cases h) d_Ct_fade_38
  · refine lv_ldc2 (v := (-9223372036854775808)) hx hb hown (hts _ cw_301) d_Ct_fade_22 ?_
    exact W.lret (v := (-9223372036854775808)) hx hb hr (fun t ht hW => ⟨_, rfl, by simp [m_cfade, eq_true c_3], ht⟩) (fun q h => by cases h) d_Ct_fade_25

set_option maxHeartbeats 4000000 in
set_option maxRecDepth 100000 in
theorem c_Ct_row (l : Launch) (D : va_G)  (h0 : Nat) (qa : Nat) (cnt : Int32) (slo : Int32) (shi : Int32) (qt : Nat) (qs : Nat) (qp : Nat) (qk : Nat) (qf : Nat) (ql : Nat) (a0 : Nat) (a1 : Nat) (k0 : ClassId) (k1 : ClassId) (g0 : Nat → Int32) (g1 : Nat → Int32) (fcn : Int32) (p0 : Int32) (p1 : Int32) (sz : Nat)  : Met l y_Ct_row ws_Ct_row ({ frames := 2, cells := 0, slots := 0, locals := 47 }) (va_Pc [.ref h0, .int p0, .int p1] (cx_pre D [(k0, .int), (k1, .int)] ([(h0, .inr (5, [.ref qa, .int cnt, .int slo, .int shi, .ref qt, .ref qs, .ref qp, .ref qk, .ref qf, .ref ql])), (qf, .inr (1, [.ref a0, .ref a1, .int fcn])), (a0, .inl (k0, 6, .inl g0)), (a1, .inl (k1, 6, .inl g1))]) sz)) (va_Qi (fun r9 _ => r9 = (m_fadeAdd g0 g1 fcn p0 p1).1) (fun (_ : Unit) t => cx_end D [(k0, .int), (k1, .int)] (va_A ([(h0, .inr (5, [.ref qa, .int cnt, .int slo, .int shi, .ref qt, .ref qs, .ref qp, .ref qk, .ref qf, .ref ql])), (qf, .inr (1, [.ref a0, .ref a1, .int fcn])), (a0, .inl (k0, 6, .inl g0)), (a1, .inl (k1, 6, .inl g1))]) sz) ([(h0, .inr (5, [.ref qa, .int cnt, .int slo, .int shi, .ref qt, .ref qs, .ref qp, .ref qk, .ref qf, .ref ql])), (qf, .inr (1, [.ref a0, .ref a1, .int ((m_fadeAdd g0 g1 fcn p0 p1).2.2.2)])), (a0, .inl (k0, 6, .inl ((m_fadeAdd g0 g1 fcn p0 p1).2.1))), (a1, .inl (k1, 6, .inl ((m_fadeAdd g0 g1 fcn p0 p1).2.2.1)))]) t) (va_A ([(h0, .inr (5, [.ref qa, .int cnt, .int slo, .int shi, .ref qt, .ref qs, .ref qp, .ref qk, .ref qf, .ref ql])), (qf, .inr (1, [.ref a0, .ref a1, .int fcn])), (a0, .inl (k0, 6, .inl g0)), (a1, .inl (k1, 6, .inl g1))]) sz)) 0 0 (va_A ([(h0, .inr (5, [.ref qa, .int cnt, .int slo, .int shi, .ref qt, .ref qs, .ref qp, .ref qk, .ref qf, .ref ql])), (qf, .inr (1, [.ref a0, .ref a1, .int fcn])), (a0, .inl (k0, 6, .inl g0)), (a1, .inl (k1, 6, .inl g1))]) sz) := by
  refine Met.ofW (cc := b_Ct_row) (maxL := 3) (ret := (some .boolean)) (by decide) rfl ?_
  intro p e s m args below meth c s₁ B hml hv
  obtain ⟨rfl, hsz, hP, hK, hD0, hN, hO⟩ := hv
  have hx := B.exec
  have hb := B.bytes
  have hr := B.returns
  have hts := fun (w : Cond) (h : w ∈ cx_tbl) => atoms_spec (ws := ws_Ct_row) B.pre w (List.mem_cons_of_mem _ h)
  have hown : s.vm.findClass R_Ct = some m.cls := findClass_of_methodNamed B.named
  have hlocks := B.notSynchronized
  subst hsz
  have hD := hD0.self (sz := s.heap.size)
  generalize hAe : va_A ([(h0, .inr (5, [.ref qa, .int cnt, .int slo, .int shi, .ref qt, .ref qs, .ref qp, .ref qk, .ref qf, .ref ql])), (qf, .inr (1, [.ref a0, .ref a1, .int fcn])), (a0, .inl (k0, 6, .inl g0)), (a1, .inl (k1, 6, .inl g1))]) s.heap.size = A at hD hO ⊢
  have hA : ∀ q : Nat, s.heap.size ≤ q → A q := fun q h => by rw [← hAe]; exact Or.inr h
  have hS : va_S A s.heap s.heap [] := va_S.rf
  have hl := lv_entry ([.ref h0, .int p0, .int p1]) (n := 3) (Nat.le_of_ble_eq_true rfl)
  rw [lg_entry_eq]
  generalize (lg_sl ([.ref h0, .int p0, .int p1]) ++ List.replicate (3 - (lg_sl ([.ref h0, .int p0, .int p1])).length) Slot.unset).toArray = ls at hl ⊢
  have hl : lv_has ls 3 [(0, .ref h0), (1, .int p0), (2, .int p1)] := hl
  refine lv_aload_n hx hb d_Ct_row_0 rfl (lv_at hl 0 rfl) ?_
  refine va_get (D := D) (ci := 5) (v := .ref qf) (C := R_Ct) (T := T_Ct) (N := 10) hx hb hts in_Ct hown hK hP 0 rfl rfl 8 (by decide) (hts _ cw_180) (fun _ h9 => h9) rfl d_Ct_row_1 ?_
  refine lv_iload_n hx hb d_Ct_row_4 rfl (lv_at hl 1 rfl) ?_
  refine lv_iload_n hx hb d_Ct_row_5 rfl (lv_at hl 2 rfl) ?_
  have hPc := hP.sub (ws' := [(qf, .inr (1, [.ref a0, .ref a1, .int fcn])), (a0, .inl (k0, 6, .inl g0)), (a1, .inl (k1, 6, .inl g1))]) [1, 2, 3] rfl
  have hDc := hD.sub (ws' := [(qf, .inr (1, [.ref a0, .ref a1, .int fcn])), (a0, .inl (k0, 6, .inl g0)), (a1, .inl (k1, 6, .inl g1))]) [1, 2, 3] (by decide) rfl
  have hKc := hK.sub (tys' := [(k0, .int), (k1, .int)]) [0, 1] rfl
  have hFc := va_free (wc := [(qf, .inr (1, [.ref a0, .ref a1, .int fcn])), (a0, .inl (k0, 6, .inl g0)), (a1, .inl (k1, 6, .inl g1))]) hD hS hA [1, 2, 3] rfl
  refine cx_joini (wc := [(qf, .inr (1, [.ref a0, .ref a1, .int fcn])), (a0, .inl (k0, 6, .inl g0)), (a1, .inl (k1, 6, .inl g1))]) (wr := [(h0, .inr (5, [.ref qa, .int cnt, .int slo, .int shi, .ref qt, .ref qs, .ref qp, .ref qk, .ref qf, .ref ql]))]) hP hD hS hA [1, 2, 3] [0] rfl rfl (by decide) (by decide) (va_runV (As := [.int p0, .int p1]) (rest := [])  ⟨hx, hb, hml, hown, hts⟩ (c_Fade_add l D qf a0 a1 k0 k1 g0 g1 fcn p0 p1 s.heap.size ) ⟨callB_of 2 hts cg_Fade_add rfl rfl rfl (hts _ cw_5) (hts _ cw_559) (by decide +kernel) ⟨Nat.le_of_ble_eq_true rfl, Nat.le_of_ble_eq_true rfl⟩, hts _ cw_560, hts _ cw_561⟩ (cx_preV (C := R_Fade) [.int p0, .int p1] hPc hKc hDc hN hO hS hFc (ci := 1) (q0 := 0) rfl rfl rfl) rfl rfl hl.1 rfl (lv_room (Nat.le_of_ble_eq_true rfl)) d_Ct_row_6 ⟨Nat.le_of_ble_eq_true rfl, Nat.le_of_ble_eq_true rfl⟩) (fun r _ H locs z_1 hK1 hP hD hS => ?_)
  subst z_1
  have hP : va_P D classes ([(h0, .inr (5, [.ref qa, .int cnt, .int slo, .int shi, .ref qt, .ref qs, .ref qp, .ref qk, .ref qf, .ref ql])), (qf, .inr (1, [.ref a0, .ref a1, .int ((m_fadeAdd g0 g1 fcn p0 p1).2.2.2)])), (a0, .inl (k0, 6, .inl ((m_fadeAdd g0 g1 fcn p0 p1).2.1))), (a1, .inl (k1, 6, .inl ((m_fadeAdd g0 g1 fcn p0 p1).2.2.1)))]) H := hP
  have hD : va_D A ([(h0, .inr (5, [.ref qa, .int cnt, .int slo, .int shi, .ref qt, .ref qs, .ref qp, .ref qk, .ref qf, .ref ql])), (qf, .inr (1, [.ref a0, .ref a1, .int ((m_fadeAdd g0 g1 fcn p0 p1).2.2.2)])), (a0, .inl (k0, 6, .inl ((m_fadeAdd g0 g1 fcn p0 p1).2.1))), (a1, .inl (k1, 6, .inl ((m_fadeAdd g0 g1 fcn p0 p1).2.2.1)))]) := hD
  have hP9 := hP.sub (ws' := [(h0, .inr (5, [.ref qa, .int cnt, .int slo, .int shi, .ref qt, .ref qs, .ref qp, .ref qk, .ref qf, .ref ql])), (qf, .inr (1, [.ref a0, .ref a1, .int ((m_fadeAdd g0 g1 fcn p0 p1).2.2.2)])), (a0, .inl (k0, 6, .inl ((m_fadeAdd g0 g1 fcn p0 p1).2.1))), (a1, .inl (k1, 6, .inl ((m_fadeAdd g0 g1 fcn p0 p1).2.2.1)))]) [0, 1, 2, 3] rfl
  have hD9 := hD.sub (ws' := [(h0, .inr (5, [.ref qa, .int cnt, .int slo, .int shi, .ref qt, .ref qs, .ref qp, .ref qk, .ref qf, .ref ql])), (qf, .inr (1, [.ref a0, .ref a1, .int ((m_fadeAdd g0 g1 fcn p0 p1).2.2.2)])), (a0, .inl (k0, 6, .inl ((m_fadeAdd g0 g1 fcn p0 p1).2.1))), (a1, .inl (k1, 6, .inl ((m_fadeAdd g0 g1 fcn p0 p1).2.2.1)))]) [0, 1, 2, 3] (by decide) rfl
  have hK9 := hK.sub (tys' := [(k0, .int), (k1, .int)]) [0, 1] rfl
  exact W.zret (v := (m_fadeAdd g0 g1 fcn p0 p1).1) hx hb hr (cx_z m_fadeAdd_z) (fun t ht hW => ⟨⟨_, (), rfl, rfl, by rw [ht]; exact hP9, va_K.moved hW.alike hK9, hD9⟩, hS.F ht⟩) hS.2.2 d_Ct_row_9

set_option maxHeartbeats 4000000 in
set_option maxRecDepth 100000 in
theorem c_Ct_unit (l : Launch) (D : va_G)  (h0 : Nat) (qa : Nat) (cnt : Int32) (slo : Int32) (shi : Int32) (qt : Nat) (qs : Nat) (qp : Nat) (qk : Nat) (qf : Nat) (ql : Nat) (b0 : Nat) (kb : ClassId) (bt : Nat → Int32) (len : Int32) (due : Int32) (ltr : Int32) (low : Int32) (p0 : Int32) (sz : Nat)  : Met l y_Ct_unit ws_Ct_unit ({ frames := 1, cells := 0, slots := 0, locals := 25 }) (va_Pc [.ref h0, .int p0] (cx_pre D [(kb, .char)] ([(h0, .inr (5, [.ref qa, .int cnt, .int slo, .int shi, .ref qt, .ref qs, .ref qp, .ref qk, .ref qf, .ref ql])), (qt, .inr (4, [.ref b0, .int len, .int due, .int ltr, .int low])), (b0, .inl (kb, 600, .inl bt))]) sz)) (va_Qi (fun r9 _ => r9 = (m_unit bt len p0).1) (fun (_ : Unit) t => cx_end D [(kb, .char)] (va_A ([(h0, .inr (5, [.ref qa, .int cnt, .int slo, .int shi, .ref qt, .ref qs, .ref qp, .ref qk, .ref qf, .ref ql])), (qt, .inr (4, [.ref b0, .int len, .int due, .int ltr, .int low])), (b0, .inl (kb, 600, .inl bt))]) sz) ([(h0, .inr (5, [.ref qa, .int cnt, .int slo, .int shi, .ref qt, .ref qs, .ref qp, .ref qk, .ref qf, .ref ql])), (qt, .inr (4, [.ref b0, .int ((m_unit bt len p0).2.2), .int due, .int ltr, .int low])), (b0, .inl (kb, 600, .inl ((m_unit bt len p0).2.1)))]) t) (va_A ([(h0, .inr (5, [.ref qa, .int cnt, .int slo, .int shi, .ref qt, .ref qs, .ref qp, .ref qk, .ref qf, .ref ql])), (qt, .inr (4, [.ref b0, .int len, .int due, .int ltr, .int low])), (b0, .inl (kb, 600, .inl bt))]) sz)) 0 0 (va_A ([(h0, .inr (5, [.ref qa, .int cnt, .int slo, .int shi, .ref qt, .ref qs, .ref qp, .ref qk, .ref qf, .ref ql])), (qt, .inr (4, [.ref b0, .int len, .int due, .int ltr, .int low])), (b0, .inl (kb, 600, .inl bt))]) sz) := by
  refine Met.ofW (cc := b_Ct_unit) (maxL := 2) (ret := (some .boolean)) (by decide) rfl ?_
  intro p e s m args below meth c s₁ B hml hv
  obtain ⟨rfl, hsz, hP, hK, hD0, hN, hO⟩ := hv
  have hx := B.exec
  have hb := B.bytes
  have hr := B.returns
  have hts := fun (w : Cond) (h : w ∈ cx_tbl) => atoms_spec (ws := ws_Ct_unit) B.pre w (List.mem_cons_of_mem _ h)
  have hown : s.vm.findClass R_Ct = some m.cls := findClass_of_methodNamed B.named
  have hlocks := B.notSynchronized
  subst hsz
  have hD := hD0.self (sz := s.heap.size)
  generalize hAe : va_A ([(h0, .inr (5, [.ref qa, .int cnt, .int slo, .int shi, .ref qt, .ref qs, .ref qp, .ref qk, .ref qf, .ref ql])), (qt, .inr (4, [.ref b0, .int len, .int due, .int ltr, .int low])), (b0, .inl (kb, 600, .inl bt))]) s.heap.size = A at hD hO ⊢
  have hA : ∀ q : Nat, s.heap.size ≤ q → A q := fun q h => by rw [← hAe]; exact Or.inr h
  have hS : va_S A s.heap s.heap [] := va_S.rf
  have hl := lv_entry ([.ref h0, .int p0]) (n := 2) (Nat.le_of_ble_eq_true rfl)
  rw [lg_entry_eq]
  generalize (lg_sl ([.ref h0, .int p0]) ++ List.replicate (2 - (lg_sl ([.ref h0, .int p0])).length) Slot.unset).toArray = ls at hl ⊢
  have hl : lv_has ls 2 [(0, .ref h0), (1, .int p0)] := hl
  refine lv_iload_n hx hb d_Ct_unit_0 rfl (lv_at hl 1 rfl) ?_
  refine lv_i2l hx hb d_Ct_unit_1 rfl ?_
  refine lv_lconst (v := 0) hx hb d_Ct_unit_2 (by decide) ?_
  refine lv_ldc2 (v := 255) hx hb hown (hts _ cw_347) d_Ct_unit_3 ?_
  have hPc := hP.sub (ws' := []) [] rfl
  have hDc := hD.sub (ws' := []) [] (by decide) rfl
  have hKc := hK.sub (tys' := []) [] rfl
  have hFc := va_free (wc := []) hD hS hA [] rfl
  refine vp_callSi (va_Run.run (va_runS (As := [.long p0.toInt64, .long 0, .long 255]) (rest := [])  ⟨hx, hb, hml, hown, hts⟩ (c_Ct_isWithin l D p0.toInt64 0 255 s.heap.size ) ⟨callB_of 3 hts cg_Ct_isWithin rfl rfl rfl (hts _ cw_1) (hts _ cw_267) (by decide +kernel) ⟨Nat.le_of_ble_eq_true rfl, Nat.le_of_ble_eq_true rfl⟩, hts _ cw_268⟩ (cx_preS [.long p0.toInt64, .long 0, .long 255] hPc hKc hDc hN hO hS hFc) rfl rfl hl.1 rfl (lv_room (Nat.le_of_ble_eq_true rfl)) d_Ct_unit_6 ⟨Nat.le_of_ble_eq_true rfl, Nat.le_of_ble_eq_true rfl⟩)) (fun r z_1 => ?_)
  subst z_1
  refine lv_if_eq (tgt := 28) hx hb d_Ct_unit_9 (by decide) (fun c_2 => ?_) (fun c_2 => ?_)
  · refine lv_iconst (v := 0) hx hb d_Ct_unit_28 (by decide) ?_
    have hm : m_unit bt len p0 = (0, bt, len) := by simp [m_unit, eq_true c_2]
    rw [hm]
    have hP9 := hP.sub (ws' := [(h0, .inr (5, [.ref qa, .int cnt, .int slo, .int shi, .ref qt, .ref qs, .ref qp, .ref qk, .ref qf, .ref ql])), (qt, .inr (4, [.ref b0, .int len, .int due, .int ltr, .int low])), (b0, .inl (kb, 600, .inl bt))]) [0, 1, 2] rfl
    have hD9 := hD.sub (ws' := [(h0, .inr (5, [.ref qa, .int cnt, .int slo, .int shi, .ref qt, .ref qs, .ref qp, .ref qk, .ref qf, .ref ql])), (qt, .inr (4, [.ref b0, .int len, .int due, .int ltr, .int low])), (b0, .inl (kb, 600, .inl bt))]) [0, 1, 2] (by decide) rfl
    have hK9 := hK.sub (tys' := [(kb, .char)]) [0] rfl
    exact W.zret (v := 0) hx hb hr (rfl) (fun t ht hW => ⟨⟨_, (), rfl, rfl, by rw [ht]; exact hP9, va_K.moved hW.alike hK9, hD9⟩, hS.F ht⟩) hS.2.2 d_Ct_unit_29
  · refine lv_aload_n hx hb d_Ct_unit_12 rfl (lv_at hl 0 rfl) ?_
    refine va_get (D := D) (ci := 5) (v := .ref qt) (C := R_Ct) (T := T_Ct) (N := 10) hx hb hts in_Ct hown hK hP 0 rfl rfl 4 (by decide) (hts _ cw_176) (fun _ h9 => h9) rfl d_Ct_unit_13 ?_
    refine lv_iload_n hx hb d_Ct_unit_16 rfl (lv_at hl 1 rfl) ?_
    refine lv_i2c hx hb d_Ct_unit_17 rfl ?_
    have hPc := hP.sub (ws' := [(qt, .inr (4, [.ref b0, .int len, .int due, .int ltr, .int low])), (b0, .inl (kb, 600, .inl bt))]) [1, 2] rfl
    have hDc := hD.sub (ws' := [(qt, .inr (4, [.ref b0, .int len, .int due, .int ltr, .int low])), (b0, .inl (kb, 600, .inl bt))]) [1, 2] (by decide) rfl
    have hKc := hK.sub (tys' := [(kb, .char)]) [0] rfl
    have hFc := va_free (wc := [(qt, .inr (4, [.ref b0, .int len, .int due, .int ltr, .int low])), (b0, .inl (kb, 600, .inl bt))]) hD hS hA [1, 2] rfl
    refine cx_joini (wc := [(qt, .inr (4, [.ref b0, .int len, .int due, .int ltr, .int low])), (b0, .inl (kb, 600, .inl bt))]) (wr := [(h0, .inr (5, [.ref qa, .int cnt, .int slo, .int shi, .ref qt, .ref qs, .ref qp, .ref qk, .ref qf, .ref ql]))]) hP hD hS hA [1, 2] [0] rfl rfl (by decide) (by decide) (va_runV (As := [.int ((p0.toUInt32 % 65536).toInt32)]) (rest := [])  ⟨hx, hb, hml, hown, hts⟩ (c_Text_add l D qt b0 kb bt len due ltr low ((p0.toUInt32 % 65536).toInt32) s.heap.size ) ⟨callB_of 1 hts cg_Text_add rfl rfl rfl (hts _ cw_2) (hts _ cw_348) (by decide +kernel) ⟨Nat.le_of_ble_eq_true rfl, Nat.le_of_ble_eq_true rfl⟩, hts _ cw_349, hts _ cw_350⟩ (cx_preV (C := R_Text) [.int ((p0.toUInt32 % 65536).toInt32)] hPc hKc hDc hN hO hS hFc (ci := 4) (q0 := 0) rfl rfl rfl) rfl rfl hl.1 rfl (lv_room (Nat.le_of_ble_eq_true rfl)) d_Ct_unit_18 ⟨Nat.le_of_ble_eq_true rfl, Nat.le_of_ble_eq_true rfl⟩) (fun r _ H locs z_3 hK1 hP hD hS => ?_)
    subst z_3
    have hP : va_P D classes ([(h0, .inr (5, [.ref qa, .int cnt, .int slo, .int shi, .ref qt, .ref qs, .ref qp, .ref qk, .ref qf, .ref ql])), (qt, .inr (4, [.ref b0, .int ((m_textAdd bt len ((p0.toUInt32 % 65536).toInt32)).2.2), .int due, .int ltr, .int low])), (b0, .inl (kb, 600, .inl ((m_textAdd bt len ((p0.toUInt32 % 65536).toInt32)).2.1)))]) H := hP
    have hD : va_D A ([(h0, .inr (5, [.ref qa, .int cnt, .int slo, .int shi, .ref qt, .ref qs, .ref qp, .ref qk, .ref qf, .ref ql])), (qt, .inr (4, [.ref b0, .int ((m_textAdd bt len ((p0.toUInt32 % 65536).toInt32)).2.2), .int due, .int ltr, .int low])), (b0, .inl (kb, 600, .inl ((m_textAdd bt len ((p0.toUInt32 % 65536).toInt32)).2.1)))]) := hD
    refine lv_if_eq (tgt := 28) hx hb d_Ct_unit_21 (by decide) (fun c_4 => ?_) (fun c_4 => ?_)
    · refine lv_iconst (v := 0) hx hb d_Ct_unit_28 (by decide) ?_
      have hm : m_unit bt len p0 = (0, (m_textAdd bt len ((p0.toUInt32 % 65536).toInt32)).2.1, (m_textAdd bt len ((p0.toUInt32 % 65536).toInt32)).2.2) := by simp [m_unit, eq_false c_2, eq_true c_4]
      rw [hm]
      have hP9 := hP.sub (ws' := [(h0, .inr (5, [.ref qa, .int cnt, .int slo, .int shi, .ref qt, .ref qs, .ref qp, .ref qk, .ref qf, .ref ql])), (qt, .inr (4, [.ref b0, .int ((m_textAdd bt len ((p0.toUInt32 % 65536).toInt32)).2.2), .int due, .int ltr, .int low])), (b0, .inl (kb, 600, .inl ((m_textAdd bt len ((p0.toUInt32 % 65536).toInt32)).2.1)))]) [0, 1, 2] rfl
      have hD9 := hD.sub (ws' := [(h0, .inr (5, [.ref qa, .int cnt, .int slo, .int shi, .ref qt, .ref qs, .ref qp, .ref qk, .ref qf, .ref ql])), (qt, .inr (4, [.ref b0, .int ((m_textAdd bt len ((p0.toUInt32 % 65536).toInt32)).2.2), .int due, .int ltr, .int low])), (b0, .inl (kb, 600, .inl ((m_textAdd bt len ((p0.toUInt32 % 65536).toInt32)).2.1)))]) [0, 1, 2] (by decide) rfl
      have hK9 := hK.sub (tys' := [(kb, .char)]) [0] rfl
      exact W.zret (v := 0) hx hb hr (rfl) (fun t ht hW => ⟨⟨_, (), rfl, rfl, by rw [ht]; exact hP9, va_K.moved hW.alike hK9, hD9⟩, hS.F ht⟩) hS.2.2 d_Ct_unit_29
    · refine lv_iconst (v := 1) hx hb d_Ct_unit_24 (by decide) ?_
      refine lv_goto (tgt := 29) hx hb d_Ct_unit_25 (by decide) ?_
      have hm : m_unit bt len p0 = (1, (m_textAdd bt len ((p0.toUInt32 % 65536).toInt32)).2.1, (m_textAdd bt len ((p0.toUInt32 % 65536).toInt32)).2.2) := by simp [m_unit, eq_false c_2, eq_false c_4]
      rw [hm]
      have hP9 := hP.sub (ws' := [(h0, .inr (5, [.ref qa, .int cnt, .int slo, .int shi, .ref qt, .ref qs, .ref qp, .ref qk, .ref qf, .ref ql])), (qt, .inr (4, [.ref b0, .int ((m_textAdd bt len ((p0.toUInt32 % 65536).toInt32)).2.2), .int due, .int ltr, .int low])), (b0, .inl (kb, 600, .inl ((m_textAdd bt len ((p0.toUInt32 % 65536).toInt32)).2.1)))]) [0, 1, 2] rfl
      have hD9 := hD.sub (ws' := [(h0, .inr (5, [.ref qa, .int cnt, .int slo, .int shi, .ref qt, .ref qs, .ref qp, .ref qk, .ref qf, .ref ql])), (qt, .inr (4, [.ref b0, .int ((m_textAdd bt len ((p0.toUInt32 % 65536).toInt32)).2.2), .int due, .int ltr, .int low])), (b0, .inl (kb, 600, .inl ((m_textAdd bt len ((p0.toUInt32 % 65536).toInt32)).2.1)))]) [0, 1, 2] (by decide) rfl
      have hK9 := hK.sub (tys' := [(kb, .char)]) [0] rfl
      exact W.zret (v := 1) hx hb hr (rfl) (fun t ht hW => ⟨⟨_, (), rfl, rfl, by rw [ht]; exact hP9, va_K.moved hW.alike hK9, hD9⟩, hS.F ht⟩) hS.2.2 d_Ct_unit_29

set_option maxHeartbeats 4000000 in
set_option maxRecDepth 100000 in
theorem c_Ct_packOf (l : Launch) (D : va_G)  (h0 : Nat) (qa : Nat) (cnt : Int32) (slo : Int32) (shi : Int32) (qt : Nat) (qs : Nat) (qp : Nat) (qk : Nat) (qf : Nat) (ql : Nat) (a0 : Nat) (a1 : Nat) (a2 : Nat) (a3 : Nat) (a4 : Nat) (a5 : Nat) (a6 : Nat) (k0 : ClassId) (k1 : ClassId) (k2 : ClassId) (k3 : ClassId) (k4 : ClassId) (k5 : ClassId) (k6 : ClassId) (fo : Nat → Int32) (nu : Nat → Int32) (ch : Nat → Int64) (co : Nat → Int32) (zi : Nat → Int32) (le : Nat → Int64) (gr : Nat → Int64) (pcn : Int32) (ip : Int32) (pk : Int32) (bst : Int64) (p0 : Int32) (sz : Nat)  : Met l y_Ct_packOf ws_Ct_packOf ({ frames := 1, cells := 0, slots := 0, locals := 21 }) (va_Pc [.ref h0, .int p0] (cx_pre D [(k0, .int), (k1, .int), (k2, .long), (k3, .int), (k4, .int), (k5, .long), (k6, .long)] ([(h0, .inr (5, [.ref qa, .int cnt, .int slo, .int shi, .ref qt, .ref qs, .ref qp, .ref qk, .ref qf, .ref ql])), (qk, .inr (2, [.ref a0, .ref a1, .ref a2, .ref a3, .int pcn, .int ip, .int pk, .ref a4, .ref a5, .ref a6, .long bst])), (a0, .inl (k0, 8, .inl fo)), (a1, .inl (k1, 8, .inl nu)), (a2, .inl (k2, 8, .inr (.inl ch))), (a3, .inl (k3, 8, .inl co)), (a4, .inl (k4, 4, .inl zi)), (a5, .inl (k5, 4, .inr (.inl le))), (a6, .inl (k6, 4, .inr (.inl gr)))]) sz)) (vp_Si (fun r9 => r9 = m_foundFor fo p0)) 0 0 (fun _ => False) := by
  refine Met.ofW (cc := b_Ct_packOf) (maxL := 2) (ret := (some .int)) (by decide) rfl ?_
  intro p e s m args below meth c s₁ B hml hv
  obtain ⟨rfl, hsz, hP, hK, hD0, hN, hO⟩ := hv
  have hx := B.exec
  have hb := B.bytes
  have hr := B.returns
  have hts := fun (w : Cond) (h : w ∈ cx_tbl) => atoms_spec (ws := ws_Ct_packOf) B.pre w (List.mem_cons_of_mem _ h)
  have hown : s.vm.findClass R_Ct = some m.cls := findClass_of_methodNamed B.named
  have hlocks := B.notSynchronized
  subst hsz
  have hD := hD0.self (sz := s.heap.size)
  generalize hAe : va_A ([(h0, .inr (5, [.ref qa, .int cnt, .int slo, .int shi, .ref qt, .ref qs, .ref qp, .ref qk, .ref qf, .ref ql])), (qk, .inr (2, [.ref a0, .ref a1, .ref a2, .ref a3, .int pcn, .int ip, .int pk, .ref a4, .ref a5, .ref a6, .long bst])), (a0, .inl (k0, 8, .inl fo)), (a1, .inl (k1, 8, .inl nu)), (a2, .inl (k2, 8, .inr (.inl ch))), (a3, .inl (k3, 8, .inl co)), (a4, .inl (k4, 4, .inl zi)), (a5, .inl (k5, 4, .inr (.inl le))), (a6, .inl (k6, 4, .inr (.inl gr)))]) s.heap.size = A at hD hO
  have hA : ∀ q : Nat, s.heap.size ≤ q → A q := fun q h => by rw [← hAe]; exact Or.inr h
  have hS : va_S A s.heap s.heap [] := va_S.rf
  have hl := lv_entry ([.ref h0, .int p0]) (n := 2) (Nat.le_of_ble_eq_true rfl)
  rw [lg_entry_eq]
  generalize (lg_sl ([.ref h0, .int p0]) ++ List.replicate (2 - (lg_sl ([.ref h0, .int p0])).length) Slot.unset).toArray = ls at hl ⊢
  have hl : lv_has ls 2 [(0, .ref h0), (1, .int p0)] := hl
  refine lv_aload_n hx hb d_Ct_packOf_0 rfl (lv_at hl 0 rfl) ?_
  refine va_get (D := D) (ci := 5) (v := .ref qk) (C := R_Ct) (T := T_Ct) (N := 10) hx hb hts in_Ct hown hK hP 0 rfl rfl 7 (by decide) (hts _ cw_179) (fun _ h9 => h9) rfl d_Ct_packOf_1 ?_
  refine lv_iload_n hx hb d_Ct_packOf_4 rfl (lv_at hl 1 rfl) ?_
  have hPc := hP.sub (ws' := [(qk, .inr (2, [.ref a0, .ref a1, .ref a2, .ref a3, .int pcn, .int ip, .int pk, .ref a4, .ref a5, .ref a6, .long bst])), (a0, .inl (k0, 8, .inl fo)), (a1, .inl (k1, 8, .inl nu)), (a2, .inl (k2, 8, .inr (.inl ch))), (a3, .inl (k3, 8, .inl co)), (a4, .inl (k4, 4, .inl zi)), (a5, .inl (k5, 4, .inr (.inl le))), (a6, .inl (k6, 4, .inr (.inl gr)))]) [1, 2, 3, 4, 5, 6, 7, 8] rfl
  have hDc := hD.sub (ws' := [(qk, .inr (2, [.ref a0, .ref a1, .ref a2, .ref a3, .int pcn, .int ip, .int pk, .ref a4, .ref a5, .ref a6, .long bst])), (a0, .inl (k0, 8, .inl fo)), (a1, .inl (k1, 8, .inl nu)), (a2, .inl (k2, 8, .inr (.inl ch))), (a3, .inl (k3, 8, .inl co)), (a4, .inl (k4, 4, .inl zi)), (a5, .inl (k5, 4, .inr (.inl le))), (a6, .inl (k6, 4, .inr (.inl gr)))]) [1, 2, 3, 4, 5, 6, 7, 8] (by decide) rfl
  have hKc := hK.sub (tys' := [(k0, .int), (k1, .int), (k2, .long), (k3, .int), (k4, .int), (k5, .long), (k6, .long)]) [0, 1, 2, 3, 4, 5, 6] rfl
  have hFc := va_free (wc := [(qk, .inr (2, [.ref a0, .ref a1, .ref a2, .ref a3, .int pcn, .int ip, .int pk, .ref a4, .ref a5, .ref a6, .long bst])), (a0, .inl (k0, 8, .inl fo)), (a1, .inl (k1, 8, .inl nu)), (a2, .inl (k2, 8, .inr (.inl ch))), (a3, .inl (k3, 8, .inl co)), (a4, .inl (k4, 4, .inl zi)), (a5, .inl (k5, 4, .inr (.inl le))), (a6, .inl (k6, 4, .inr (.inl gr)))]) hD hS hA [1, 2, 3, 4, 5, 6, 7, 8] rfl
  refine vp_callSi (va_Run.run (va_runV (As := [.int p0]) (rest := [])  ⟨hx, hb, hml, hown, hts⟩ (c_Pack_foundFor l D qk a0 a1 a2 a3 a4 a5 a6 k0 k1 k2 k3 k4 k5 k6 fo nu ch co zi le gr pcn ip pk bst p0 s.heap.size ) ⟨callB_of 1 hts cg_Pack_foundFor rfl rfl rfl (hts _ cw_4) (hts _ cw_551) (by decide +kernel) ⟨Nat.le_of_ble_eq_true rfl, Nat.le_of_ble_eq_true rfl⟩, hts _ cw_552, hts _ cw_553⟩ (cx_preV (C := R_Pack) [.int p0] hPc hKc hDc hN hO hS hFc (ci := 2) (q0 := 0) rfl rfl rfl) rfl rfl hl.1 rfl (lv_room (Nat.le_of_ble_eq_true rfl)) d_Ct_packOf_5 ⟨Nat.le_of_ble_eq_true rfl, Nat.le_of_ble_eq_true rfl⟩)) (fun r z_1 => ?_)
  subst z_1
  exact W.iret (v := m_foundFor fo p0) hx hb hr (fun t ht hW => ⟨_, rfl, rfl, ht⟩) (fun q h => by cases h) d_Ct_packOf_8

set_option maxHeartbeats 4000000 in
set_option maxRecDepth 100000 in
theorem c_Ct_rules (l : Launch) (D : va_G)  (h0 : Nat) (qa : Nat) (cnt : Int32) (slo : Int32) (shi : Int32) (qt : Nat) (qs : Nat) (qp : Nat) (qk : Nat) (qf : Nat) (ql : Nat) (b0 : Nat) (kb : ClassId) (bt : Nat → Int32) (len : Int32) (due : Int32) (ltr : Int32) (low : Int32) (a0 : Nat) (a1 : Nat) (a2 : Nat) (a3 : Nat) (a4 : Nat) (k0 : ClassId) (k1 : ClassId) (k2 : ClassId) (k3 : ClassId) (k4 : ClassId) (g0 : Nat → Int32) (g1 : Nat → Int32) (g2 : Nat → Int32) (g3 : Nat → Int32) (g4 : Nat → Int32) (sn : Int32) (cl : Int32) (sz : Nat) (hln : len ≤ 600) : Met l y_Ct_rules ws_Ct_rules ({ frames := 8, cells := 0, slots := 0, locals := 178 }) (va_Pc [.ref h0] (cx_pre D [(kb, .char), (k0, .int), (k1, .int), (k2, .char), (k3, .int), (k4, .int)] ([(h0, .inr (5, [.ref qa, .int cnt, .int slo, .int shi, .ref qt, .ref qs, .ref qp, .ref qk, .ref qf, .ref ql])), (qt, .inr (4, [.ref b0, .int len, .int due, .int ltr, .int low])), (b0, .inl (kb, 600, .inl bt)), (qp, .inr (3, [.ref a0, .ref a1, .int sn, .ref a2, .ref a3, .ref a4, .int cl])), (a0, .inl (k0, 20, .inl g0)), (a1, .inl (k1, 20, .inl g1)), (a2, .inl (k2, 100, .inl g2)), (a3, .inl (k3, 100, .inl g3)), (a4, .inl (k4, 100, .inl g4))]) sz)) (va_Qi (fun r9 _ => r9 = (m_rd bt len 602 0 0 0 0 ltr low g0 g1 g2 g3 g4 0 0).1) (fun (_ : Unit) t => cx_end D [(kb, .char), (k0, .int), (k1, .int), (k2, .char), (k3, .int), (k4, .int)] (va_A ([(h0, .inr (5, [.ref qa, .int cnt, .int slo, .int shi, .ref qt, .ref qs, .ref qp, .ref qk, .ref qf, .ref ql])), (qt, .inr (4, [.ref b0, .int len, .int due, .int ltr, .int low])), (b0, .inl (kb, 600, .inl bt)), (qp, .inr (3, [.ref a0, .ref a1, .int sn, .ref a2, .ref a3, .ref a4, .int cl])), (a0, .inl (k0, 20, .inl g0)), (a1, .inl (k1, 20, .inl g1)), (a2, .inl (k2, 100, .inl g2)), (a3, .inl (k3, 100, .inl g3)), (a4, .inl (k4, 100, .inl g4))]) sz) ([(h0, .inr (5, [.ref qa, .int cnt, .int slo, .int shi, .ref qt, .ref (if (m_rd bt len 602 0 0 0 0 ltr low g0 g1 g2 g3 g4 0 0).1 < 0 then qs else qp), .ref (if (m_rd bt len 602 0 0 0 0 ltr low g0 g1 g2 g3 g4 0 0).1 < 0 then qp else qs), .ref qk, .ref qf, .ref ql])), (qt, .inr (4, [.ref b0, .int 0, .int ((m_rd bt len 602 0 0 0 0 ltr low g0 g1 g2 g3 g4 0 0).2.1), .int ((m_rd bt len 602 0 0 0 0 ltr low g0 g1 g2 g3 g4 0 0).2.2.1), .int ((m_rd bt len 602 0 0 0 0 ltr low g0 g1 g2 g3 g4 0 0).2.2.2.1)])), (b0, .inl (kb, 600, .inl bt)), (qp, .inr (3, [.ref a0, .ref a1, .int ((m_rd bt len 602 0 0 0 0 ltr low g0 g1 g2 g3 g4 0 0).2.2.2.2.2.2.2.2.2.1), .ref a2, .ref a3, .ref a4, .int ((m_rd bt len 602 0 0 0 0 ltr low g0 g1 g2 g3 g4 0 0).2.2.2.2.2.2.2.2.2.2)])), (a0, .inl (k0, 20, .inl ((m_rd bt len 602 0 0 0 0 ltr low g0 g1 g2 g3 g4 0 0).2.2.2.2.1))), (a1, .inl (k1, 20, .inl ((m_rd bt len 602 0 0 0 0 ltr low g0 g1 g2 g3 g4 0 0).2.2.2.2.2.1))), (a2, .inl (k2, 100, .inl ((m_rd bt len 602 0 0 0 0 ltr low g0 g1 g2 g3 g4 0 0).2.2.2.2.2.2.1))), (a3, .inl (k3, 100, .inl ((m_rd bt len 602 0 0 0 0 ltr low g0 g1 g2 g3 g4 0 0).2.2.2.2.2.2.2.1))), (a4, .inl (k4, 100, .inl ((m_rd bt len 602 0 0 0 0 ltr low g0 g1 g2 g3 g4 0 0).2.2.2.2.2.2.2.2.1)))]) t) (va_A ([(h0, .inr (5, [.ref qa, .int cnt, .int slo, .int shi, .ref qt, .ref qs, .ref qp, .ref qk, .ref qf, .ref ql])), (qt, .inr (4, [.ref b0, .int len, .int due, .int ltr, .int low])), (b0, .inl (kb, 600, .inl bt)), (qp, .inr (3, [.ref a0, .ref a1, .int sn, .ref a2, .ref a3, .ref a4, .int cl])), (a0, .inl (k0, 20, .inl g0)), (a1, .inl (k1, 20, .inl g1)), (a2, .inl (k2, 100, .inl g2)), (a3, .inl (k3, 100, .inl g3)), (a4, .inl (k4, 100, .inl g4))]) sz)) 0 0 (va_A ([(h0, .inr (5, [.ref qa, .int cnt, .int slo, .int shi, .ref qt, .ref qs, .ref qp, .ref qk, .ref qf, .ref ql])), (qt, .inr (4, [.ref b0, .int len, .int due, .int ltr, .int low])), (b0, .inl (kb, 600, .inl bt)), (qp, .inr (3, [.ref a0, .ref a1, .int sn, .ref a2, .ref a3, .ref a4, .int cl])), (a0, .inl (k0, 20, .inl g0)), (a1, .inl (k1, 20, .inl g1)), (a2, .inl (k2, 100, .inl g2)), (a3, .inl (k3, 100, .inl g3)), (a4, .inl (k4, 100, .inl g4))]) sz) := by
  refine Met.ofW (cc := b_Ct_rules) (maxL := 3) (ret := (some .int)) (by decide) rfl ?_
  intro p e s m args below meth c s₁ B hml hv
  obtain ⟨rfl, hsz, hP, hK, hD0, hN, hO⟩ := hv
  have hx := B.exec
  have hb := B.bytes
  have hr := B.returns
  have hts := fun (w : Cond) (h : w ∈ cx_tbl) => atoms_spec (ws := ws_Ct_rules) B.pre w (List.mem_cons_of_mem _ h)
  have hown : s.vm.findClass R_Ct = some m.cls := findClass_of_methodNamed B.named
  have hlocks := B.notSynchronized
  subst hsz
  have hD := hD0.self (sz := s.heap.size)
  generalize hAe : va_A ([(h0, .inr (5, [.ref qa, .int cnt, .int slo, .int shi, .ref qt, .ref qs, .ref qp, .ref qk, .ref qf, .ref ql])), (qt, .inr (4, [.ref b0, .int len, .int due, .int ltr, .int low])), (b0, .inl (kb, 600, .inl bt)), (qp, .inr (3, [.ref a0, .ref a1, .int sn, .ref a2, .ref a3, .ref a4, .int cl])), (a0, .inl (k0, 20, .inl g0)), (a1, .inl (k1, 20, .inl g1)), (a2, .inl (k2, 100, .inl g2)), (a3, .inl (k3, 100, .inl g3)), (a4, .inl (k4, 100, .inl g4))]) s.heap.size = A at hD hO ⊢
  have hA : ∀ q : Nat, s.heap.size ≤ q → A q := fun q h => by rw [← hAe]; exact Or.inr h
  have hS : va_S A s.heap s.heap [] := va_S.rf
  have hl := lv_entry ([.ref h0]) (n := 3) (Nat.le_of_ble_eq_true rfl)
  rw [lg_entry_eq]
  generalize (lg_sl ([.ref h0]) ++ List.replicate (3 - (lg_sl ([.ref h0])).length) Slot.unset).toArray = ls at hl ⊢
  have hl : lv_has ls 3 [(0, .ref h0)] := hl
  refine lv_aload_n hx hb d_Ct_rules_0 rfl (lv_at hl 0 rfl) ?_
  refine va_get (D := D) (ci := 5) (v := .ref qt) (C := R_Ct) (T := T_Ct) (N := 10) hx hb hts in_Ct hown hK hP 0 rfl rfl 4 (by decide) (hts _ cw_176) (fun _ h9 => h9) rfl d_Ct_rules_1 ?_
  refine lv_aload_n hx hb d_Ct_rules_4 rfl (lv_at hl 0 rfl) ?_
  refine va_get (D := D) (ci := 5) (v := .ref qp) (C := R_Ct) (T := T_Ct) (N := 10) hx hb hts in_Ct hown hK hP 0 rfl rfl 6 (by decide) (hts _ cw_178) (fun _ h9 => h9) rfl d_Ct_rules_5 ?_
  have hPc := hP.sub (ws' := [(qt, .inr (4, [.ref b0, .int len, .int due, .int ltr, .int low])), (b0, .inl (kb, 600, .inl bt)), (qp, .inr (3, [.ref a0, .ref a1, .int sn, .ref a2, .ref a3, .ref a4, .int cl])), (a0, .inl (k0, 20, .inl g0)), (a1, .inl (k1, 20, .inl g1)), (a2, .inl (k2, 100, .inl g2)), (a3, .inl (k3, 100, .inl g3)), (a4, .inl (k4, 100, .inl g4))]) [1, 2, 3, 4, 5, 6, 7, 8] rfl
  have hDc := hD.sub (ws' := [(qt, .inr (4, [.ref b0, .int len, .int due, .int ltr, .int low])), (b0, .inl (kb, 600, .inl bt)), (qp, .inr (3, [.ref a0, .ref a1, .int sn, .ref a2, .ref a3, .ref a4, .int cl])), (a0, .inl (k0, 20, .inl g0)), (a1, .inl (k1, 20, .inl g1)), (a2, .inl (k2, 100, .inl g2)), (a3, .inl (k3, 100, .inl g3)), (a4, .inl (k4, 100, .inl g4))]) [1, 2, 3, 4, 5, 6, 7, 8] (by decide) rfl
  have hKc := hK.sub (tys' := [(kb, .char), (k0, .int), (k1, .int), (k2, .char), (k3, .int), (k4, .int)]) [0, 1, 2, 3, 4, 5] rfl
  have hFc := va_free (wc := [(qt, .inr (4, [.ref b0, .int len, .int due, .int ltr, .int low])), (b0, .inl (kb, 600, .inl bt)), (qp, .inr (3, [.ref a0, .ref a1, .int sn, .ref a2, .ref a3, .ref a4, .int cl])), (a0, .inl (k0, 20, .inl g0)), (a1, .inl (k1, 20, .inl g1)), (a2, .inl (k2, 100, .inl g2)), (a3, .inl (k3, 100, .inl g3)), (a4, .inl (k4, 100, .inl g4))]) hD hS hA [1, 2, 3, 4, 5, 6, 7, 8] rfl
  refine cx_joini (wc := [(qt, .inr (4, [.ref b0, .int len, .int due, .int ltr, .int low])), (b0, .inl (kb, 600, .inl bt)), (qp, .inr (3, [.ref a0, .ref a1, .int sn, .ref a2, .ref a3, .ref a4, .int cl])), (a0, .inl (k0, 20, .inl g0)), (a1, .inl (k1, 20, .inl g1)), (a2, .inl (k2, 100, .inl g2)), (a3, .inl (k3, 100, .inl g3)), (a4, .inl (k4, 100, .inl g4))]) (wr := [(h0, .inr (5, [.ref qa, .int cnt, .int slo, .int shi, .ref qt, .ref qs, .ref qp, .ref qk, .ref qf, .ref ql]))]) hP hD hS hA [1, 2, 3, 4, 5, 6, 7, 8] [0] rfl rfl (by decide) (by decide) (va_runV (As := [.ref qp]) (rest := [])  ⟨hx, hb, hml, hown, hts⟩ (c_Text_readInto l D qt b0 kb bt len due ltr low qp a0 a1 a2 a3 a4 k0 k1 k2 k3 k4 g0 g1 g2 g3 g4 sn cl s.heap.size (hln)) ⟨callB_of 1 hts cg_Text_readInto rfl rfl rfl (hts _ cw_2) (hts _ cw_356) (by decide +kernel) ⟨Nat.le_of_ble_eq_true rfl, Nat.le_of_ble_eq_true rfl⟩, hts _ cw_357, hts _ cw_358⟩ (cx_preV (C := R_Text) [.ref qp] hPc hKc hDc hN hO hS hFc (ci := 4) (q0 := 0) rfl rfl rfl) rfl rfl hl.1 rfl (lv_room (Nat.le_of_ble_eq_true rfl)) d_Ct_rules_8 ⟨Nat.le_of_ble_eq_true rfl, Nat.le_of_ble_eq_true rfl⟩) (fun r _ H locs z_1 hK1 hP hD hS => ?_)
  subst z_1
  have hP : va_P D classes ([(h0, .inr (5, [.ref qa, .int cnt, .int slo, .int shi, .ref qt, .ref qs, .ref qp, .ref qk, .ref qf, .ref ql])), (qt, .inr (4, [.ref b0, .int len, .int ((m_rd bt len 602 0 0 0 0 ltr low g0 g1 g2 g3 g4 0 0).2.1), .int ((m_rd bt len 602 0 0 0 0 ltr low g0 g1 g2 g3 g4 0 0).2.2.1), .int ((m_rd bt len 602 0 0 0 0 ltr low g0 g1 g2 g3 g4 0 0).2.2.2.1)])), (b0, .inl (kb, 600, .inl bt)), (qp, .inr (3, [.ref a0, .ref a1, .int ((m_rd bt len 602 0 0 0 0 ltr low g0 g1 g2 g3 g4 0 0).2.2.2.2.2.2.2.2.2.1), .ref a2, .ref a3, .ref a4, .int ((m_rd bt len 602 0 0 0 0 ltr low g0 g1 g2 g3 g4 0 0).2.2.2.2.2.2.2.2.2.2)])), (a0, .inl (k0, 20, .inl ((m_rd bt len 602 0 0 0 0 ltr low g0 g1 g2 g3 g4 0 0).2.2.2.2.1))), (a1, .inl (k1, 20, .inl ((m_rd bt len 602 0 0 0 0 ltr low g0 g1 g2 g3 g4 0 0).2.2.2.2.2.1))), (a2, .inl (k2, 100, .inl ((m_rd bt len 602 0 0 0 0 ltr low g0 g1 g2 g3 g4 0 0).2.2.2.2.2.2.1))), (a3, .inl (k3, 100, .inl ((m_rd bt len 602 0 0 0 0 ltr low g0 g1 g2 g3 g4 0 0).2.2.2.2.2.2.2.1))), (a4, .inl (k4, 100, .inl ((m_rd bt len 602 0 0 0 0 ltr low g0 g1 g2 g3 g4 0 0).2.2.2.2.2.2.2.2.1)))]) H := hP
  have hD : va_D A ([(h0, .inr (5, [.ref qa, .int cnt, .int slo, .int shi, .ref qt, .ref qs, .ref qp, .ref qk, .ref qf, .ref ql])), (qt, .inr (4, [.ref b0, .int len, .int ((m_rd bt len 602 0 0 0 0 ltr low g0 g1 g2 g3 g4 0 0).2.1), .int ((m_rd bt len 602 0 0 0 0 ltr low g0 g1 g2 g3 g4 0 0).2.2.1), .int ((m_rd bt len 602 0 0 0 0 ltr low g0 g1 g2 g3 g4 0 0).2.2.2.1)])), (b0, .inl (kb, 600, .inl bt)), (qp, .inr (3, [.ref a0, .ref a1, .int ((m_rd bt len 602 0 0 0 0 ltr low g0 g1 g2 g3 g4 0 0).2.2.2.2.2.2.2.2.2.1), .ref a2, .ref a3, .ref a4, .int ((m_rd bt len 602 0 0 0 0 ltr low g0 g1 g2 g3 g4 0 0).2.2.2.2.2.2.2.2.2.2)])), (a0, .inl (k0, 20, .inl ((m_rd bt len 602 0 0 0 0 ltr low g0 g1 g2 g3 g4 0 0).2.2.2.2.1))), (a1, .inl (k1, 20, .inl ((m_rd bt len 602 0 0 0 0 ltr low g0 g1 g2 g3 g4 0 0).2.2.2.2.2.1))), (a2, .inl (k2, 100, .inl ((m_rd bt len 602 0 0 0 0 ltr low g0 g1 g2 g3 g4 0 0).2.2.2.2.2.2.1))), (a3, .inl (k3, 100, .inl ((m_rd bt len 602 0 0 0 0 ltr low g0 g1 g2 g3 g4 0 0).2.2.2.2.2.2.2.1))), (a4, .inl (k4, 100, .inl ((m_rd bt len 602 0 0 0 0 ltr low g0 g1 g2 g3 g4 0 0).2.2.2.2.2.2.2.2.1)))]) := hD
  refine lv_istore_n (lv' := [(1, .int ((m_rd bt len 602 0 0 0 0 ltr low g0 g1 g2 g3 g4 0 0).1)), (0, .ref h0)]) hx hb d_Ct_rules_11 rfl hl (by decide) rfl (fun ls hl => ?_)
  refine lv_aload_n hx hb d_Ct_rules_12 rfl (lv_at hl 1 rfl) ?_
  refine va_get (D := D) (ci := 5) (v := .ref qt) (C := R_Ct) (T := T_Ct) (N := 10) hx hb hts in_Ct hown hK hP 0 rfl rfl 4 (by decide) (hts _ cw_176) (fun _ h9 => h9) rfl d_Ct_rules_13 ?_
  have hPc := hP.sub (ws' := [(qt, .inr (4, [.ref b0, .int len, .int ((m_rd bt len 602 0 0 0 0 ltr low g0 g1 g2 g3 g4 0 0).2.1), .int ((m_rd bt len 602 0 0 0 0 ltr low g0 g1 g2 g3 g4 0 0).2.2.1), .int ((m_rd bt len 602 0 0 0 0 ltr low g0 g1 g2 g3 g4 0 0).2.2.2.1)])), (b0, .inl (kb, 600, .inl bt))]) [1, 2] rfl
  have hDc := hD.sub (ws' := [(qt, .inr (4, [.ref b0, .int len, .int ((m_rd bt len 602 0 0 0 0 ltr low g0 g1 g2 g3 g4 0 0).2.1), .int ((m_rd bt len 602 0 0 0 0 ltr low g0 g1 g2 g3 g4 0 0).2.2.1), .int ((m_rd bt len 602 0 0 0 0 ltr low g0 g1 g2 g3 g4 0 0).2.2.2.1)])), (b0, .inl (kb, 600, .inl bt))]) [1, 2] (by decide) rfl
  have hKc := hK.sub (tys' := [(kb, .char)]) [0] rfl
  have hFc := va_free (wc := [(qt, .inr (4, [.ref b0, .int len, .int ((m_rd bt len 602 0 0 0 0 ltr low g0 g1 g2 g3 g4 0 0).2.1), .int ((m_rd bt len 602 0 0 0 0 ltr low g0 g1 g2 g3 g4 0 0).2.2.1), .int ((m_rd bt len 602 0 0 0 0 ltr low g0 g1 g2 g3 g4 0 0).2.2.2.1)])), (b0, .inl (kb, 600, .inl bt))]) hD hS hA [1, 2] rfl
  refine cx_joinv (wc := [(qt, .inr (4, [.ref b0, .int len, .int ((m_rd bt len 602 0 0 0 0 ltr low g0 g1 g2 g3 g4 0 0).2.1), .int ((m_rd bt len 602 0 0 0 0 ltr low g0 g1 g2 g3 g4 0 0).2.2.1), .int ((m_rd bt len 602 0 0 0 0 ltr low g0 g1 g2 g3 g4 0 0).2.2.2.1)])), (b0, .inl (kb, 600, .inl bt))]) (wr := [(h0, .inr (5, [.ref qa, .int cnt, .int slo, .int shi, .ref qt, .ref qs, .ref qp, .ref qk, .ref qf, .ref ql])), (qp, .inr (3, [.ref a0, .ref a1, .int ((m_rd bt len 602 0 0 0 0 ltr low g0 g1 g2 g3 g4 0 0).2.2.2.2.2.2.2.2.2.1), .ref a2, .ref a3, .ref a4, .int ((m_rd bt len 602 0 0 0 0 ltr low g0 g1 g2 g3 g4 0 0).2.2.2.2.2.2.2.2.2.2)])), (a0, .inl (k0, 20, .inl ((m_rd bt len 602 0 0 0 0 ltr low g0 g1 g2 g3 g4 0 0).2.2.2.2.1))), (a1, .inl (k1, 20, .inl ((m_rd bt len 602 0 0 0 0 ltr low g0 g1 g2 g3 g4 0 0).2.2.2.2.2.1))), (a2, .inl (k2, 100, .inl ((m_rd bt len 602 0 0 0 0 ltr low g0 g1 g2 g3 g4 0 0).2.2.2.2.2.2.1))), (a3, .inl (k3, 100, .inl ((m_rd bt len 602 0 0 0 0 ltr low g0 g1 g2 g3 g4 0 0).2.2.2.2.2.2.2.1))), (a4, .inl (k4, 100, .inl ((m_rd bt len 602 0 0 0 0 ltr low g0 g1 g2 g3 g4 0 0).2.2.2.2.2.2.2.2.1)))]) hP hD hS hA [1, 2] [0, 3, 4, 5, 6, 7, 8] rfl rfl (by decide) (by decide) (va_runV (As := []) (rest := [])  ⟨hx, hb, hml, hown, hts⟩ (c_Text_clear l D qt b0 kb bt len ((m_rd bt len 602 0 0 0 0 ltr low g0 g1 g2 g3 g4 0 0).2.1) ((m_rd bt len 602 0 0 0 0 ltr low g0 g1 g2 g3 g4 0 0).2.2.1) ((m_rd bt len 602 0 0 0 0 ltr low g0 g1 g2 g3 g4 0 0).2.2.2.1) H.size ) ⟨callB_of 0 hts cg_Text_clear rfl rfl rfl (hts _ cw_2) (hts _ cw_465) (by decide +kernel) ⟨Nat.le_of_ble_eq_true rfl, Nat.le_of_ble_eq_true rfl⟩, hts _ cw_466, hts _ cw_467⟩ (cx_preV (C := R_Text) [] hPc hKc hDc hN hO hS hFc (ci := 4) (q0 := 0) rfl rfl rfl) rfl rfl hl.1 rfl (lv_room (Nat.le_of_ble_eq_true rfl)) d_Ct_rules_16 ⟨Nat.le_of_ble_eq_true rfl, Nat.le_of_ble_eq_true rfl⟩) (fun _ H locs z_2 hK1 hP hD hS => ?_)
  have hP : va_P D classes ([(h0, .inr (5, [.ref qa, .int cnt, .int slo, .int shi, .ref qt, .ref qs, .ref qp, .ref qk, .ref qf, .ref ql])), (qp, .inr (3, [.ref a0, .ref a1, .int ((m_rd bt len 602 0 0 0 0 ltr low g0 g1 g2 g3 g4 0 0).2.2.2.2.2.2.2.2.2.1), .ref a2, .ref a3, .ref a4, .int ((m_rd bt len 602 0 0 0 0 ltr low g0 g1 g2 g3 g4 0 0).2.2.2.2.2.2.2.2.2.2)])), (a0, .inl (k0, 20, .inl ((m_rd bt len 602 0 0 0 0 ltr low g0 g1 g2 g3 g4 0 0).2.2.2.2.1))), (a1, .inl (k1, 20, .inl ((m_rd bt len 602 0 0 0 0 ltr low g0 g1 g2 g3 g4 0 0).2.2.2.2.2.1))), (a2, .inl (k2, 100, .inl ((m_rd bt len 602 0 0 0 0 ltr low g0 g1 g2 g3 g4 0 0).2.2.2.2.2.2.1))), (a3, .inl (k3, 100, .inl ((m_rd bt len 602 0 0 0 0 ltr low g0 g1 g2 g3 g4 0 0).2.2.2.2.2.2.2.1))), (a4, .inl (k4, 100, .inl ((m_rd bt len 602 0 0 0 0 ltr low g0 g1 g2 g3 g4 0 0).2.2.2.2.2.2.2.2.1))), (qt, .inr (4, [.ref b0, .int 0, .int ((m_rd bt len 602 0 0 0 0 ltr low g0 g1 g2 g3 g4 0 0).2.1), .int ((m_rd bt len 602 0 0 0 0 ltr low g0 g1 g2 g3 g4 0 0).2.2.1), .int ((m_rd bt len 602 0 0 0 0 ltr low g0 g1 g2 g3 g4 0 0).2.2.2.1)])), (b0, .inl (kb, 600, .inl bt))]) H := hP
  have hD : va_D A ([(h0, .inr (5, [.ref qa, .int cnt, .int slo, .int shi, .ref qt, .ref qs, .ref qp, .ref qk, .ref qf, .ref ql])), (qp, .inr (3, [.ref a0, .ref a1, .int ((m_rd bt len 602 0 0 0 0 ltr low g0 g1 g2 g3 g4 0 0).2.2.2.2.2.2.2.2.2.1), .ref a2, .ref a3, .ref a4, .int ((m_rd bt len 602 0 0 0 0 ltr low g0 g1 g2 g3 g4 0 0).2.2.2.2.2.2.2.2.2.2)])), (a0, .inl (k0, 20, .inl ((m_rd bt len 602 0 0 0 0 ltr low g0 g1 g2 g3 g4 0 0).2.2.2.2.1))), (a1, .inl (k1, 20, .inl ((m_rd bt len 602 0 0 0 0 ltr low g0 g1 g2 g3 g4 0 0).2.2.2.2.2.1))), (a2, .inl (k2, 100, .inl ((m_rd bt len 602 0 0 0 0 ltr low g0 g1 g2 g3 g4 0 0).2.2.2.2.2.2.1))), (a3, .inl (k3, 100, .inl ((m_rd bt len 602 0 0 0 0 ltr low g0 g1 g2 g3 g4 0 0).2.2.2.2.2.2.2.1))), (a4, .inl (k4, 100, .inl ((m_rd bt len 602 0 0 0 0 ltr low g0 g1 g2 g3 g4 0 0).2.2.2.2.2.2.2.2.1))), (qt, .inr (4, [.ref b0, .int 0, .int ((m_rd bt len 602 0 0 0 0 ltr low g0 g1 g2 g3 g4 0 0).2.1), .int ((m_rd bt len 602 0 0 0 0 ltr low g0 g1 g2 g3 g4 0 0).2.2.1), .int ((m_rd bt len 602 0 0 0 0 ltr low g0 g1 g2 g3 g4 0 0).2.2.2.1)])), (b0, .inl (kb, 600, .inl bt))]) := hD
  refine lv_iload_n hx hb d_Ct_rules_19 rfl (lv_at hl 0 rfl) ?_
  refine lv_if_lt (tgt := 41) hx hb d_Ct_rules_20 (by decide) (fun c_3 => ?_) (fun c_3 => ?_)
  · refine lv_iload_n hx hb d_Ct_rules_41 rfl (lv_at hl 0 rfl) ?_
    rw [if_pos c_3, if_pos c_3]
    have hP9 := hP.sub (ws' := [(h0, .inr (5, [.ref qa, .int cnt, .int slo, .int shi, .ref qt, .ref qs, .ref qp, .ref qk, .ref qf, .ref ql])), (qt, .inr (4, [.ref b0, .int 0, .int ((m_rd bt len 602 0 0 0 0 ltr low g0 g1 g2 g3 g4 0 0).2.1), .int ((m_rd bt len 602 0 0 0 0 ltr low g0 g1 g2 g3 g4 0 0).2.2.1), .int ((m_rd bt len 602 0 0 0 0 ltr low g0 g1 g2 g3 g4 0 0).2.2.2.1)])), (b0, .inl (kb, 600, .inl bt)), (qp, .inr (3, [.ref a0, .ref a1, .int ((m_rd bt len 602 0 0 0 0 ltr low g0 g1 g2 g3 g4 0 0).2.2.2.2.2.2.2.2.2.1), .ref a2, .ref a3, .ref a4, .int ((m_rd bt len 602 0 0 0 0 ltr low g0 g1 g2 g3 g4 0 0).2.2.2.2.2.2.2.2.2.2)])), (a0, .inl (k0, 20, .inl ((m_rd bt len 602 0 0 0 0 ltr low g0 g1 g2 g3 g4 0 0).2.2.2.2.1))), (a1, .inl (k1, 20, .inl ((m_rd bt len 602 0 0 0 0 ltr low g0 g1 g2 g3 g4 0 0).2.2.2.2.2.1))), (a2, .inl (k2, 100, .inl ((m_rd bt len 602 0 0 0 0 ltr low g0 g1 g2 g3 g4 0 0).2.2.2.2.2.2.1))), (a3, .inl (k3, 100, .inl ((m_rd bt len 602 0 0 0 0 ltr low g0 g1 g2 g3 g4 0 0).2.2.2.2.2.2.2.1))), (a4, .inl (k4, 100, .inl ((m_rd bt len 602 0 0 0 0 ltr low g0 g1 g2 g3 g4 0 0).2.2.2.2.2.2.2.2.1)))]) [0, 7, 8, 1, 2, 3, 4, 5, 6] rfl
    have hD9 := hD.sub (ws' := [(h0, .inr (5, [.ref qa, .int cnt, .int slo, .int shi, .ref qt, .ref qs, .ref qp, .ref qk, .ref qf, .ref ql])), (qt, .inr (4, [.ref b0, .int 0, .int ((m_rd bt len 602 0 0 0 0 ltr low g0 g1 g2 g3 g4 0 0).2.1), .int ((m_rd bt len 602 0 0 0 0 ltr low g0 g1 g2 g3 g4 0 0).2.2.1), .int ((m_rd bt len 602 0 0 0 0 ltr low g0 g1 g2 g3 g4 0 0).2.2.2.1)])), (b0, .inl (kb, 600, .inl bt)), (qp, .inr (3, [.ref a0, .ref a1, .int ((m_rd bt len 602 0 0 0 0 ltr low g0 g1 g2 g3 g4 0 0).2.2.2.2.2.2.2.2.2.1), .ref a2, .ref a3, .ref a4, .int ((m_rd bt len 602 0 0 0 0 ltr low g0 g1 g2 g3 g4 0 0).2.2.2.2.2.2.2.2.2.2)])), (a0, .inl (k0, 20, .inl ((m_rd bt len 602 0 0 0 0 ltr low g0 g1 g2 g3 g4 0 0).2.2.2.2.1))), (a1, .inl (k1, 20, .inl ((m_rd bt len 602 0 0 0 0 ltr low g0 g1 g2 g3 g4 0 0).2.2.2.2.2.1))), (a2, .inl (k2, 100, .inl ((m_rd bt len 602 0 0 0 0 ltr low g0 g1 g2 g3 g4 0 0).2.2.2.2.2.2.1))), (a3, .inl (k3, 100, .inl ((m_rd bt len 602 0 0 0 0 ltr low g0 g1 g2 g3 g4 0 0).2.2.2.2.2.2.2.1))), (a4, .inl (k4, 100, .inl ((m_rd bt len 602 0 0 0 0 ltr low g0 g1 g2 g3 g4 0 0).2.2.2.2.2.2.2.2.1)))]) [0, 7, 8, 1, 2, 3, 4, 5, 6] (by decide) rfl
    have hK9 := hK.sub (tys' := [(kb, .char), (k0, .int), (k1, .int), (k2, .char), (k3, .int), (k4, .int)]) [0, 1, 2, 3, 4, 5] rfl
    exact W.iret (v := (m_rd bt len 602 0 0 0 0 ltr low g0 g1 g2 g3 g4 0 0).1) hx hb hr (fun t ht hW => ⟨⟨_, (), rfl, rfl, by rw [ht]; exact hP9, va_K.moved hW.alike hK9, hD9⟩, hS.F ht⟩) hS.2.2 d_Ct_rules_42
  · refine lv_aload_n hx hb d_Ct_rules_23 rfl (lv_at hl 1 rfl) ?_
    refine va_get (D := D) (ci := 5) (v := .ref qs) (C := R_Ct) (T := T_Ct) (N := 10) hx hb hts in_Ct hown hK hP 0 rfl rfl 5 (by decide) (hts _ cw_177) (fun _ h9 => h9) rfl d_Ct_rules_24 ?_
    refine lv_astore_n (lv' := [(2, .ref qs), (1, .int ((m_rd bt len 602 0 0 0 0 ltr low g0 g1 g2 g3 g4 0 0).1)), (0, .ref h0)]) hx hb d_Ct_rules_27 rfl hl (by decide) rfl (fun ls hl => ?_)
    refine lv_aload_n hx hb d_Ct_rules_28 rfl (lv_at hl 2 rfl) ?_
    refine lv_aload_n hx hb d_Ct_rules_29 rfl (lv_at hl 2 rfl) ?_
    refine va_get (D := D) (ci := 5) (v := .ref qp) (C := R_Ct) (T := T_Ct) (N := 10) hx hb hts in_Ct hown hK hP 0 rfl rfl 6 (by decide) (hts _ cw_178) (fun _ h9 => h9) rfl d_Ct_rules_30 ?_
    refine va_put (D := D) (ci := 5) (v := .ref qp) (ty := (.object "CellTests$RuleSet")) (C := R_Ct) (T := T_Ct) (N := 10) hx hb hts in_Ct ty_Ct tyok_Ct nm_Ct hown hK hP hD hS 0 rfl rfl 5 (by decide) (hts _ cw_177) (fun _ h9 => h9) rfl (by decide +kernel) rfl rfl (Nat.le_of_ble_eq_true rfl) d_Ct_rules_33 (fun H locs hP hD hS => ?_)
    have hP : va_P D classes ([(h0, .inr (5, [.ref qa, .int cnt, .int slo, .int shi, .ref qt, .ref qp, .ref qp, .ref qk, .ref qf, .ref ql])), (qp, .inr (3, [.ref a0, .ref a1, .int ((m_rd bt len 602 0 0 0 0 ltr low g0 g1 g2 g3 g4 0 0).2.2.2.2.2.2.2.2.2.1), .ref a2, .ref a3, .ref a4, .int ((m_rd bt len 602 0 0 0 0 ltr low g0 g1 g2 g3 g4 0 0).2.2.2.2.2.2.2.2.2.2)])), (a0, .inl (k0, 20, .inl ((m_rd bt len 602 0 0 0 0 ltr low g0 g1 g2 g3 g4 0 0).2.2.2.2.1))), (a1, .inl (k1, 20, .inl ((m_rd bt len 602 0 0 0 0 ltr low g0 g1 g2 g3 g4 0 0).2.2.2.2.2.1))), (a2, .inl (k2, 100, .inl ((m_rd bt len 602 0 0 0 0 ltr low g0 g1 g2 g3 g4 0 0).2.2.2.2.2.2.1))), (a3, .inl (k3, 100, .inl ((m_rd bt len 602 0 0 0 0 ltr low g0 g1 g2 g3 g4 0 0).2.2.2.2.2.2.2.1))), (a4, .inl (k4, 100, .inl ((m_rd bt len 602 0 0 0 0 ltr low g0 g1 g2 g3 g4 0 0).2.2.2.2.2.2.2.2.1))), (qt, .inr (4, [.ref b0, .int 0, .int ((m_rd bt len 602 0 0 0 0 ltr low g0 g1 g2 g3 g4 0 0).2.1), .int ((m_rd bt len 602 0 0 0 0 ltr low g0 g1 g2 g3 g4 0 0).2.2.1), .int ((m_rd bt len 602 0 0 0 0 ltr low g0 g1 g2 g3 g4 0 0).2.2.2.1)])), (b0, .inl (kb, 600, .inl bt))]) H := hP
    have hD : va_D A ([(h0, .inr (5, [.ref qa, .int cnt, .int slo, .int shi, .ref qt, .ref qp, .ref qp, .ref qk, .ref qf, .ref ql])), (qp, .inr (3, [.ref a0, .ref a1, .int ((m_rd bt len 602 0 0 0 0 ltr low g0 g1 g2 g3 g4 0 0).2.2.2.2.2.2.2.2.2.1), .ref a2, .ref a3, .ref a4, .int ((m_rd bt len 602 0 0 0 0 ltr low g0 g1 g2 g3 g4 0 0).2.2.2.2.2.2.2.2.2.2)])), (a0, .inl (k0, 20, .inl ((m_rd bt len 602 0 0 0 0 ltr low g0 g1 g2 g3 g4 0 0).2.2.2.2.1))), (a1, .inl (k1, 20, .inl ((m_rd bt len 602 0 0 0 0 ltr low g0 g1 g2 g3 g4 0 0).2.2.2.2.2.1))), (a2, .inl (k2, 100, .inl ((m_rd bt len 602 0 0 0 0 ltr low g0 g1 g2 g3 g4 0 0).2.2.2.2.2.2.1))), (a3, .inl (k3, 100, .inl ((m_rd bt len 602 0 0 0 0 ltr low g0 g1 g2 g3 g4 0 0).2.2.2.2.2.2.2.1))), (a4, .inl (k4, 100, .inl ((m_rd bt len 602 0 0 0 0 ltr low g0 g1 g2 g3 g4 0 0).2.2.2.2.2.2.2.2.1))), (qt, .inr (4, [.ref b0, .int 0, .int ((m_rd bt len 602 0 0 0 0 ltr low g0 g1 g2 g3 g4 0 0).2.1), .int ((m_rd bt len 602 0 0 0 0 ltr low g0 g1 g2 g3 g4 0 0).2.2.1), .int ((m_rd bt len 602 0 0 0 0 ltr low g0 g1 g2 g3 g4 0 0).2.2.2.1)])), (b0, .inl (kb, 600, .inl bt))]) := hD
    refine lv_aload_n hx hb d_Ct_rules_36 rfl (lv_at hl 2 rfl) ?_
    refine lv_aload_n hx hb d_Ct_rules_37 rfl (lv_at hl 0 rfl) ?_
    refine va_put (D := D) (ci := 5) (v := .ref qs) (ty := (.object "CellTests$RuleSet")) (C := R_Ct) (T := T_Ct) (N := 10) hx hb hts in_Ct ty_Ct tyok_Ct nm_Ct hown hK hP hD hS 0 rfl rfl 6 (by decide) (hts _ cw_178) (fun _ h9 => h9) rfl (by decide +kernel) rfl rfl (Nat.le_of_ble_eq_true rfl) d_Ct_rules_38 (fun H locs hP hD hS => ?_)
    have hP : va_P D classes ([(h0, .inr (5, [.ref qa, .int cnt, .int slo, .int shi, .ref qt, .ref qp, .ref qs, .ref qk, .ref qf, .ref ql])), (qp, .inr (3, [.ref a0, .ref a1, .int ((m_rd bt len 602 0 0 0 0 ltr low g0 g1 g2 g3 g4 0 0).2.2.2.2.2.2.2.2.2.1), .ref a2, .ref a3, .ref a4, .int ((m_rd bt len 602 0 0 0 0 ltr low g0 g1 g2 g3 g4 0 0).2.2.2.2.2.2.2.2.2.2)])), (a0, .inl (k0, 20, .inl ((m_rd bt len 602 0 0 0 0 ltr low g0 g1 g2 g3 g4 0 0).2.2.2.2.1))), (a1, .inl (k1, 20, .inl ((m_rd bt len 602 0 0 0 0 ltr low g0 g1 g2 g3 g4 0 0).2.2.2.2.2.1))), (a2, .inl (k2, 100, .inl ((m_rd bt len 602 0 0 0 0 ltr low g0 g1 g2 g3 g4 0 0).2.2.2.2.2.2.1))), (a3, .inl (k3, 100, .inl ((m_rd bt len 602 0 0 0 0 ltr low g0 g1 g2 g3 g4 0 0).2.2.2.2.2.2.2.1))), (a4, .inl (k4, 100, .inl ((m_rd bt len 602 0 0 0 0 ltr low g0 g1 g2 g3 g4 0 0).2.2.2.2.2.2.2.2.1))), (qt, .inr (4, [.ref b0, .int 0, .int ((m_rd bt len 602 0 0 0 0 ltr low g0 g1 g2 g3 g4 0 0).2.1), .int ((m_rd bt len 602 0 0 0 0 ltr low g0 g1 g2 g3 g4 0 0).2.2.1), .int ((m_rd bt len 602 0 0 0 0 ltr low g0 g1 g2 g3 g4 0 0).2.2.2.1)])), (b0, .inl (kb, 600, .inl bt))]) H := hP
    have hD : va_D A ([(h0, .inr (5, [.ref qa, .int cnt, .int slo, .int shi, .ref qt, .ref qp, .ref qs, .ref qk, .ref qf, .ref ql])), (qp, .inr (3, [.ref a0, .ref a1, .int ((m_rd bt len 602 0 0 0 0 ltr low g0 g1 g2 g3 g4 0 0).2.2.2.2.2.2.2.2.2.1), .ref a2, .ref a3, .ref a4, .int ((m_rd bt len 602 0 0 0 0 ltr low g0 g1 g2 g3 g4 0 0).2.2.2.2.2.2.2.2.2.2)])), (a0, .inl (k0, 20, .inl ((m_rd bt len 602 0 0 0 0 ltr low g0 g1 g2 g3 g4 0 0).2.2.2.2.1))), (a1, .inl (k1, 20, .inl ((m_rd bt len 602 0 0 0 0 ltr low g0 g1 g2 g3 g4 0 0).2.2.2.2.2.1))), (a2, .inl (k2, 100, .inl ((m_rd bt len 602 0 0 0 0 ltr low g0 g1 g2 g3 g4 0 0).2.2.2.2.2.2.1))), (a3, .inl (k3, 100, .inl ((m_rd bt len 602 0 0 0 0 ltr low g0 g1 g2 g3 g4 0 0).2.2.2.2.2.2.2.1))), (a4, .inl (k4, 100, .inl ((m_rd bt len 602 0 0 0 0 ltr low g0 g1 g2 g3 g4 0 0).2.2.2.2.2.2.2.2.1))), (qt, .inr (4, [.ref b0, .int 0, .int ((m_rd bt len 602 0 0 0 0 ltr low g0 g1 g2 g3 g4 0 0).2.1), .int ((m_rd bt len 602 0 0 0 0 ltr low g0 g1 g2 g3 g4 0 0).2.2.1), .int ((m_rd bt len 602 0 0 0 0 ltr low g0 g1 g2 g3 g4 0 0).2.2.2.1)])), (b0, .inl (kb, 600, .inl bt))]) := hD
    refine lv_iload_n hx hb d_Ct_rules_41 rfl (lv_at hl 1 rfl) ?_
    rw [if_neg c_3, if_neg c_3]
    have hP9 := hP.sub (ws' := [(h0, .inr (5, [.ref qa, .int cnt, .int slo, .int shi, .ref qt, .ref qp, .ref qs, .ref qk, .ref qf, .ref ql])), (qt, .inr (4, [.ref b0, .int 0, .int ((m_rd bt len 602 0 0 0 0 ltr low g0 g1 g2 g3 g4 0 0).2.1), .int ((m_rd bt len 602 0 0 0 0 ltr low g0 g1 g2 g3 g4 0 0).2.2.1), .int ((m_rd bt len 602 0 0 0 0 ltr low g0 g1 g2 g3 g4 0 0).2.2.2.1)])), (b0, .inl (kb, 600, .inl bt)), (qp, .inr (3, [.ref a0, .ref a1, .int ((m_rd bt len 602 0 0 0 0 ltr low g0 g1 g2 g3 g4 0 0).2.2.2.2.2.2.2.2.2.1), .ref a2, .ref a3, .ref a4, .int ((m_rd bt len 602 0 0 0 0 ltr low g0 g1 g2 g3 g4 0 0).2.2.2.2.2.2.2.2.2.2)])), (a0, .inl (k0, 20, .inl ((m_rd bt len 602 0 0 0 0 ltr low g0 g1 g2 g3 g4 0 0).2.2.2.2.1))), (a1, .inl (k1, 20, .inl ((m_rd bt len 602 0 0 0 0 ltr low g0 g1 g2 g3 g4 0 0).2.2.2.2.2.1))), (a2, .inl (k2, 100, .inl ((m_rd bt len 602 0 0 0 0 ltr low g0 g1 g2 g3 g4 0 0).2.2.2.2.2.2.1))), (a3, .inl (k3, 100, .inl ((m_rd bt len 602 0 0 0 0 ltr low g0 g1 g2 g3 g4 0 0).2.2.2.2.2.2.2.1))), (a4, .inl (k4, 100, .inl ((m_rd bt len 602 0 0 0 0 ltr low g0 g1 g2 g3 g4 0 0).2.2.2.2.2.2.2.2.1)))]) [0, 7, 8, 1, 2, 3, 4, 5, 6] rfl
    have hD9 := hD.sub (ws' := [(h0, .inr (5, [.ref qa, .int cnt, .int slo, .int shi, .ref qt, .ref qp, .ref qs, .ref qk, .ref qf, .ref ql])), (qt, .inr (4, [.ref b0, .int 0, .int ((m_rd bt len 602 0 0 0 0 ltr low g0 g1 g2 g3 g4 0 0).2.1), .int ((m_rd bt len 602 0 0 0 0 ltr low g0 g1 g2 g3 g4 0 0).2.2.1), .int ((m_rd bt len 602 0 0 0 0 ltr low g0 g1 g2 g3 g4 0 0).2.2.2.1)])), (b0, .inl (kb, 600, .inl bt)), (qp, .inr (3, [.ref a0, .ref a1, .int ((m_rd bt len 602 0 0 0 0 ltr low g0 g1 g2 g3 g4 0 0).2.2.2.2.2.2.2.2.2.1), .ref a2, .ref a3, .ref a4, .int ((m_rd bt len 602 0 0 0 0 ltr low g0 g1 g2 g3 g4 0 0).2.2.2.2.2.2.2.2.2.2)])), (a0, .inl (k0, 20, .inl ((m_rd bt len 602 0 0 0 0 ltr low g0 g1 g2 g3 g4 0 0).2.2.2.2.1))), (a1, .inl (k1, 20, .inl ((m_rd bt len 602 0 0 0 0 ltr low g0 g1 g2 g3 g4 0 0).2.2.2.2.2.1))), (a2, .inl (k2, 100, .inl ((m_rd bt len 602 0 0 0 0 ltr low g0 g1 g2 g3 g4 0 0).2.2.2.2.2.2.1))), (a3, .inl (k3, 100, .inl ((m_rd bt len 602 0 0 0 0 ltr low g0 g1 g2 g3 g4 0 0).2.2.2.2.2.2.2.1))), (a4, .inl (k4, 100, .inl ((m_rd bt len 602 0 0 0 0 ltr low g0 g1 g2 g3 g4 0 0).2.2.2.2.2.2.2.2.1)))]) [0, 7, 8, 1, 2, 3, 4, 5, 6] (by decide) rfl
    have hK9 := hK.sub (tys' := [(kb, .char), (k0, .int), (k1, .int), (k2, .char), (k3, .int), (k4, .int)]) [0, 1, 2, 3, 4, 5] rfl
    exact W.iret (v := (m_rd bt len 602 0 0 0 0 ltr low g0 g1 g2 g3 g4 0 0).1) hx hb hr (fun t ht hW => ⟨⟨_, (), rfl, rfl, by rw [ht]; exact hP9, va_K.moved hW.alike hK9, hD9⟩, hS.F ht⟩) hS.2.2 d_Ct_rules_42
