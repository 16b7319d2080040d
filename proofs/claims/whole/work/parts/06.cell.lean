set_option maxHeartbeats 4000000 in
set_option maxRecDepth 100000 in
/-- isWithin -/
theorem c_Ct_isWithin (l : Launch) (D : va_G)  (v : Int64) (lo : Int64) (hi : Int64) (sz : Nat)  : Met l y_Ct_isWithin ws_Ct_isWithin ({ frames := 0, cells := 0, slots := 0, locals := 0 }) (va_Pc [.long v, .long lo, .long hi] (cx_pre D [] ([]) sz)) (vp_Si (fun r9 => r9 = m_in v lo hi)) 0 0 (fun _ => False) := by
  refine Met.ofW (cc := b_Ct_isWithin) (maxL := 6) (ret := (some .boolean)) (by decide) rfl ?_
  intro p e s m args below meth c s₁ B hml hv
  obtain ⟨rfl, hsz, hP, hK, hD0, hN, hO⟩ := hv
  have hx := B.exec
  have hb := B.bytes
  have hr := B.returns
  have hts := fun (w : Cond) (h : w ∈ cx_tbl) => atoms_spec (ws := ws_Ct_isWithin) B.pre w (List.mem_cons_of_mem _ h)
  have hown : s.vm.findClass R_Ct = some m.cls := findClass_of_methodNamed B.named
  have hlocks := B.notSynchronized
  subst hsz
  have hD := hD0.self (sz := s.heap.size)
  generalize hAe : va_A ([]) s.heap.size = A at hD hO
  have hA : ∀ q : Nat, s.heap.size ≤ q → A q := fun q h => by rw [← hAe]; exact Or.inr h
  have hS : va_S A s.heap s.heap [] := va_S.rf
  have hl := lv_entry ([.long v, .long lo, .long hi]) (n := 6) (Nat.le_of_ble_eq_true rfl)
  rw [lg_entry_eq]
  generalize (lg_sl ([.long v, .long lo, .long hi]) ++ List.replicate (6 - (lg_sl ([.long v, .long lo, .long hi])).length) Slot.unset).toArray = ls at hl ⊢
  have hl : lv_has ls 6 [(0, .long v), (2, .long lo), (4, .long hi)] := hl
  refine lv_lload_n hx hb d_Ct_isWithin_0 rfl (lv_at hl 0 rfl) ?_
  refine lv_lload_n hx hb d_Ct_isWithin_1 rfl (lv_at hl 1 rfl) ?_
  refine W.lcmp hx hb d_Ct_isWithin_2 ?_
  refine lv_if_lt (tgt := 17) hx hb d_Ct_isWithin_3 (by decide) (fun c_1 => ?_) (fun c_1 => ?_)
  · have c_1 := (lg_cmp_lt v lo).mp c_1
    refine lv_iconst (v := 0) hx hb d_Ct_isWithin_17 (by decide) ?_
    exact W.zret (v := 0) hx hb hr (rfl) (fun t ht hW => ⟨_, rfl, by simp [m_in, eq_true c_1], ht⟩) (fun q h => by cases h) d_Ct_isWithin_18
  · have c_1 := (not_congr (lg_cmp_lt v lo)).mp c_1
    refine lv_lload_n hx hb d_Ct_isWithin_6 rfl (lv_at hl 0 rfl) ?_
    refine lv_lload hx hb d_Ct_isWithin_7 (lv_at hl 2 rfl) ?_
    refine W.lcmp hx hb d_Ct_isWithin_9 ?_
    refine lv_if_gt (tgt := 17) hx hb d_Ct_isWithin_10 (by decide) (fun c_2 => ?_) (fun c_2 => ?_)
    · have c_2 := (lg_cmp_gt v hi).mp c_2
      refine lv_iconst (v := 0) hx hb d_Ct_isWithin_17 (by decide) ?_
      exact W.zret (v := 0) hx hb hr (rfl) (fun t ht hW => ⟨_, rfl, by simp [m_in, eq_false c_1, eq_true c_2], ht⟩) (fun q h => by cases h) d_Ct_isWithin_18
    · have c_2 := (not_congr (lg_cmp_gt v hi)).mp c_2
      refine lv_iconst (v := 1) hx hb d_Ct_isWithin_13 (by decide) ?_
      refine lv_goto (tgt := 18) hx hb d_Ct_isWithin_14 (by decide) ?_
      exact W.zret (v := 1) hx hb hr (rfl) (fun t ht hW => ⟨_, rfl, by simp [m_in, eq_false c_1, eq_false c_2], ht⟩) (fun q h => by cases h) d_Ct_isWithin_18

set_option maxHeartbeats 4000000 in
set_option maxRecDepth 100000 in
/-- Math.floorDiv -/
theorem c_floorDiv (l : Launch) (D : va_G)  (x : Int64) (y : Int64) (sz : Nat) (hy : ¬ y = 0) : Met l y_JMath_floorDiv ws_JMath_floorDiv ({ frames := 0, cells := 0, slots := 0, locals := 0 }) (va_Pc [.long x, .long y] (cx_pre D [] ([]) sz)) (vp_Sl (fun r9 => r9 = m_floorDiv x y)) 0 0 (fun _ => False) := by
  refine cx_ofW (cc := b_JMath_floorDiv) (maxL := 6) (ret := (some .long)) (by decide +kernel) rfl ?_
  intro p e s m args below meth c s₁ B hml hv
  obtain ⟨rfl, hsz, hP, hK, hD0, hN, hO⟩ := hv
  have hx := B.exec
  have hb := B.bytes
  have hr := B.returns
  have hts := fun (w : Cond) (h : w ∈ cx_tbl) => atoms_spec (ws := ws_JMath_floorDiv) B.pre w (List.mem_cons_of_mem _ h)
  have hown : s.vm.findClass R_JMath = some m.cls := findClass_of_methodNamed B.named
  have hlocks := B.notSynchronized
  subst hsz
  have hD := hD0.self (sz := s.heap.size)
  generalize hAe : va_A ([]) s.heap.size = A at hD hO
  have hA : ∀ q : Nat, s.heap.size ≤ q → A q := fun q h => by rw [← hAe]; exact Or.inr h
  have hS : va_S A s.heap s.heap [] := va_S.rf
  have hl := lv_entry ([.long x, .long y]) (n := 6) (Nat.le_of_ble_eq_true rfl)
  rw [lg_entry_eq]
  generalize (lg_sl ([.long x, .long y]) ++ List.replicate (6 - (lg_sl ([.long x, .long y])).length) Slot.unset).toArray = ls at hl ⊢
  have hl : lv_has ls 6 [(0, .long x), (2, .long y)] := hl
  refine lv_lload_n hx hb d_JMath_floorDiv_0 rfl (lv_at hl 0 rfl) ?_
  refine lv_lload_n hx hb d_JMath_floorDiv_1 rfl (lv_at hl 1 rfl) ?_
  refine lv_ldiv hx hb d_JMath_floorDiv_2 (hy) ?_
  refine lv_lstore (lv' := [(4, .long (x / y)), (0, .long x), (2, .long y)]) hx hb d_JMath_floorDiv_3 hl (by decide) rfl (fun ls hl => ?_)
  refine lv_lload_n hx hb d_JMath_floorDiv_5 rfl (lv_at hl 1 rfl) ?_
  refine lv_lload_n hx hb d_JMath_floorDiv_6 rfl (lv_at hl 2 rfl) ?_
  refine lv_lxor hx hb d_JMath_floorDiv_7 ?_
  refine lv_lconst (v := 0) hx hb d_JMath_floorDiv_8 (by decide) ?_
  refine W.lcmp hx hb d_JMath_floorDiv_9 ?_
  refine lv_if_ge (tgt := 27) hx hb d_JMath_floorDiv_10 (by decide) (fun c_1 => ?_) (fun c_1 => ?_)
  · have c_1 := (lg_cmp_ge (x ^^^ y) 0).mp c_1
    refine lv_lload hx hb d_JMath_floorDiv_27 (lv_at hl 0 rfl) ?_
    exact W.lret (v := x / y) hx hb hr (fun t ht hW => ⟨_, rfl, by simp [m_floorDiv, eq_true c_1], ht⟩) (fun q h => by cases h) d_JMath_floorDiv_29
  · have c_1 := (not_congr (lg_cmp_ge (x ^^^ y) 0)).mp c_1
    refine lv_lload hx hb d_JMath_floorDiv_13 (lv_at hl 0 rfl) ?_
    refine lv_lload_n hx hb d_JMath_floorDiv_15 rfl (lv_at hl 2 rfl) ?_
    refine lv_lmul hx hb d_JMath_floorDiv_16 ?_
    refine lv_lload_n hx hb d_JMath_floorDiv_17 rfl (lv_at hl 1 rfl) ?_
    refine W.lcmp hx hb d_JMath_floorDiv_18 ?_
    refine lv_if_eq (tgt := 27) hx hb d_JMath_floorDiv_19 (by decide) (fun c_2 => ?_) (fun c_2 => ?_)
    · have c_2 := (lg_cmp_eq ((x / y) * y) x).mp c_2
      refine lv_lload hx hb d_JMath_floorDiv_27 (lv_at hl 0 rfl) ?_
      exact W.lret (v := x / y) hx hb hr (fun t ht hW => ⟨_, rfl, by simp [m_floorDiv, eq_false c_1, eq_true c_2], ht⟩) (fun q h => by cases h) d_JMath_floorDiv_29
    · have c_2 := (not_congr (lg_cmp_eq ((x / y) * y) x)).mp c_2
      refine lv_lload hx hb d_JMath_floorDiv_22 (lv_at hl 0 rfl) ?_
      refine lv_lconst (v := 1) hx hb d_JMath_floorDiv_24 (by decide) ?_
      refine lv_lsub hx hb d_JMath_floorDiv_25 ?_
      exact W.lret (v := (x / y) - 1) hx hb hr (fun t ht hW => ⟨_, rfl, by simp [m_floorDiv, eq_false c_1, eq_false c_2], ht⟩) (fun q h => by cases h) d_JMath_floorDiv_26

set_option maxHeartbeats 4000000 in
set_option maxRecDepth 100000 in
/-- commonDivisor -/
theorem c_Ct_commonDivisor (l : Launch) (D : va_G)  (x : Int32) (y : Int32) (sz : Nat)  : Met l y_Ct_commonDivisor ws_Ct_commonDivisor ({ frames := 0, cells := 0, slots := 0, locals := 0 }) (va_Pc [.int x, .int y] (cx_pre D [] ([]) sz)) (vp_Si (fun r9 => r9 = m_gcd 64 x y)) 0 0 (fun _ => False) := by
  refine Met.ofW (cc := b_Ct_commonDivisor) (maxL := 6) (ret := (some .int)) (by decide) rfl ?_
  intro p e s m args below meth c s₁ B hml hv
  obtain ⟨rfl, hsz, hP, hK, hD0, hN, hO⟩ := hv
  have hx := B.exec
  have hb := B.bytes
  have hr := B.returns
  have hts := fun (w : Cond) (h : w ∈ cx_tbl) => atoms_spec (ws := ws_Ct_commonDivisor) B.pre w (List.mem_cons_of_mem _ h)
  have hown : s.vm.findClass R_Ct = some m.cls := findClass_of_methodNamed B.named
  have hlocks := B.notSynchronized
  subst hsz
  have hD := hD0.self (sz := s.heap.size)
  generalize hAe : va_A ([]) s.heap.size = A at hD hO
  have hA : ∀ q : Nat, s.heap.size ≤ q → A q := fun q h => by rw [← hAe]; exact Or.inr h
  have hS : va_S A s.heap s.heap [] := va_S.rf
  have hl := lv_entry ([.int x, .int y]) (n := 6) (Nat.le_of_ble_eq_true rfl)
  rw [lg_entry_eq]
  generalize (lg_sl ([.int x, .int y]) ++ List.replicate (6 - (lg_sl ([.int x, .int y])).length) Slot.unset).toArray = ls at hl ⊢
  have hl : lv_has ls 6 [(0, .int x), (1, .int y)] := hl
  refine cx_q (fun Q hQ => ?_)
  refine lv_iload_n hx hb d_Ct_commonDivisor_0 rfl (lv_at hl 0 rfl) ?_
  refine lv_istore_n (lv' := [(2, .int x), (0, .int x), (1, .int y)]) hx hb d_Ct_commonDivisor_1 rfl hl (by decide) rfl (fun ls hl => ?_)
  refine lv_iload_n hx hb d_Ct_commonDivisor_2 rfl (lv_at hl 2 rfl) ?_
  refine lv_istore_n (lv' := [(3, .int y), (2, .int x), (0, .int x), (1, .int y)]) hx hb d_Ct_commonDivisor_3 rfl hl (by decide) rfl (fun ls hl => ?_)
  refine lv_iconst (v := 0) hx hb d_Ct_commonDivisor_4 (by decide) ?_
  refine lv_istore (lv' := [(4, .int 0), (3, .int y), (2, .int x), (0, .int x), (1, .int y)]) hx hb d_Ct_commonDivisor_5 hl (by decide) rfl (fun ls hl => ?_)
  have loop_1 : ∀ (n : Nat) (i : Nat) (g : Int32) (b : Int32) (hi : i ≤ 64) (hn : 65 ≤ i + n) (hg : m_gcd 64 x y = m_gcd (64 - i) g b) (ls : Array Slot) (hl : lv_has ls 6 [(0, .int x), (1, .int y), (2, .int g), (3, .int b), (4, .int (nI i))]), W p l e ({ frames := 0, cells := 0, slots := 0, locals := 0 }) s m [.int x, .int y].toArray below meth c s.heap [] 0 0 Q (F0 m 7 ls []) := by
    intro n
    induction n with
    | zero =>
      intro i g b hi hn hg ls hl
      exact absurd hn (by omega)
    | succ n ih_7 =>
      intro i g b hi hn hg ls hl
      refine lv_iload hx hb d_Ct_commonDivisor_7 (lv_at hl 4 rfl) ?_
      refine lv_bipush (v := 64) hx hb d_Ct_commonDivisor_9 (by decide) ?_
      refine lv_icmp_ge (tgt := 34) hx hb d_Ct_commonDivisor_11 (by decide) (fun c_2 => ?_) (fun c_2 => ?_)
      · refine lv_iload_n hx hb d_Ct_commonDivisor_34 rfl (lv_at hl 2 rfl) ?_
        subst hQ
        exact W.iret (v := g) hx hb hr (fun t ht hW => ⟨_, rfl, (hg.trans (m_gcd_end (Nat.sub_eq_zero_of_le ((nI_leI (by decide) (by omega)).mp (show nI 64 ≤ nI i from c_2))))).symm, ht⟩) (fun q h => by cases h) d_Ct_commonDivisor_35
      · refine lv_iload_n hx hb d_Ct_commonDivisor_14 rfl (lv_at hl 3 rfl) ?_
        refine lv_if_eq (tgt := 34) hx hb d_Ct_commonDivisor_15 (by decide) (fun c_3 => ?_) (fun c_3 => ?_)
        · refine lv_iload_n hx hb d_Ct_commonDivisor_34 rfl (lv_at hl 2 rfl) ?_
          subst hQ
          exact W.iret (v := g) hx hb hr (fun t ht hW => ⟨_, rfl, (hg.trans (m_gcd_z c_3)).symm, ht⟩) (fun q h => by cases h) d_Ct_commonDivisor_35
        · refine lv_iload_n hx hb d_Ct_commonDivisor_18 rfl (lv_at hl 2 rfl) ?_
          refine lv_iload_n hx hb d_Ct_commonDivisor_19 rfl (lv_at hl 3 rfl) ?_
          refine lv_irem hx hb d_Ct_commonDivisor_20 (by assumption) ?_
          refine lv_istore (lv' := [(5, .int (g - g / b * b)), (0, .int x), (1, .int y), (2, .int g), (3, .int b), (4, .int (nI i))]) hx hb d_Ct_commonDivisor_21 hl (by decide) rfl (fun ls hl => ?_)
          refine lv_iload_n hx hb d_Ct_commonDivisor_23 rfl (lv_at hl 4 rfl) ?_
          refine lv_istore_n (lv' := [(2, .int b), (5, .int (g - g / b * b)), (0, .int x), (1, .int y), (3, .int b), (4, .int (nI i))]) hx hb d_Ct_commonDivisor_24 rfl hl (by decide) rfl (fun ls hl => ?_)
          refine lv_iload hx hb d_Ct_commonDivisor_25 (lv_at hl 1 rfl) ?_
          refine lv_istore_n (lv' := [(3, .int (g - g / b * b)), (2, .int b), (5, .int (g - g / b * b)), (0, .int x), (1, .int y), (4, .int (nI i))]) hx hb d_Ct_commonDivisor_27 rfl hl (by decide) rfl (fun ls hl => ?_)
          refine lv_iinc (v := nI (i + 1)) (lv' := [(4, .int (nI (i + 1))), (3, .int (g - g / b * b)), (2, .int b), (5, .int (g - g / b * b)), (0, .int x), (1, .int y)]) hx hb d_Ct_commonDivisor_28 hl (k := 5) rfl (nI_1 i) (by decide) rfl (fun ls hl => ?_)
          refine lv_goto (tgt := 7) hx hb d_Ct_commonDivisor_31 (by decide) ?_
          exact ih_7 (i + 1) b (g - g / b * b) (by have := ix_nge (k := 64) c_2; omega) (by omega) (hg.trans (m_gcd_s (ix_nge (k := 64) c_2) c_3)) ls (lv_sub hl [4, 5, 2, 1, 0] rfl)
  exact loop_1 65 0 x y (by omega) (by omega) (rfl) ls (lv_sub hl [3, 4, 2, 1, 0] rfl)

set_option maxHeartbeats 4000000 in
set_option maxRecDepth 100000 in
/-- partOf -/
theorem c_Ct_partOf (l : Launch) (D : va_G)  (x : Int32) (y : Int32) (k : Int32) (sz : Nat)  : Met l y_Ct_partOf ws_Ct_partOf ({ frames := 1, cells := 0, slots := 0, locals := 25 }) (va_Pc [.int x, .int y, .int k] (cx_pre D [] ([]) sz)) (vp_Si (fun r9 => r9 = m_partOf x y k)) 0 0 (fun _ => False) := by
  refine Met.ofW (cc := b_Ct_partOf) (maxL := 4) (ret := (some .int)) (by decide) rfl ?_
  intro p e s m args below meth c s₁ B hml hv
  obtain ⟨rfl, hsz, hP, hK, hD0, hN, hO⟩ := hv
  have hx := B.exec
  have hb := B.bytes
  have hr := B.returns
  have hts := fun (w : Cond) (h : w ∈ cx_tbl) => atoms_spec (ws := ws_Ct_partOf) B.pre w (List.mem_cons_of_mem _ h)
  have hown : s.vm.findClass R_Ct = some m.cls := findClass_of_methodNamed B.named
  have hlocks := B.notSynchronized
  subst hsz
  have hD := hD0.self (sz := s.heap.size)
  generalize hAe : va_A ([]) s.heap.size = A at hD hO
  have hA : ∀ q : Nat, s.heap.size ≤ q → A q := fun q h => by rw [← hAe]; exact Or.inr h
  have hS : va_S A s.heap s.heap [] := va_S.rf
  have hl := lv_entry ([.int x, .int y, .int k]) (n := 4) (Nat.le_of_ble_eq_true rfl)
  rw [lg_entry_eq]
  generalize (lg_sl ([.int x, .int y, .int k]) ++ List.replicate (4 - (lg_sl ([.int x, .int y, .int k])).length) Slot.unset).toArray = ls at hl ⊢
  have hl : lv_has ls 4 [(0, .int x), (1, .int y), (2, .int k)] := hl
  refine lv_iload_n hx hb d_Ct_partOf_0 rfl (lv_at hl 0 rfl) ?_
  refine lv_iload_n hx hb d_Ct_partOf_1 rfl (lv_at hl 1 rfl) ?_
  have hPc := hP.sub (ws' := []) [] rfl
  have hDc := hD.sub (ws' := []) [] (by decide) rfl
  have hKc := hK.sub (tys' := []) [] rfl
  have hFc := va_free (wc := []) hD hS hA [] rfl
  refine vp_callSi (va_Run.run (va_runS (As := [.int x, .int y]) (rest := [])  ⟨hx, hb, hml, hown, hts⟩ (c_Ct_commonDivisor l D x y s.heap.size ) ⟨callB_of 2 hts cg_Ct_commonDivisor rfl rfl rfl (hts _ cw_1) (hts _ cw_321) (by decide +kernel) ⟨Nat.le_of_ble_eq_true rfl, Nat.le_of_ble_eq_true rfl⟩, hts _ cw_322⟩ (cx_preS [.int x, .int y] hPc hKc hDc hN hO hS hFc) rfl rfl hl.1 rfl (lv_room (Nat.le_of_ble_eq_true rfl)) d_Ct_partOf_2 ⟨Nat.le_of_ble_eq_true rfl, Nat.le_of_ble_eq_true rfl⟩)) (fun r z_1 => ?_)
  subst z_1
  refine lv_istore_n (lv' := [(3, .int (m_gcd 64 x y)), (0, .int x), (1, .int y), (2, .int k)]) hx hb d_Ct_partOf_5 rfl hl (by decide) rfl (fun ls hl => ?_)
  refine lv_iload_n hx hb d_Ct_partOf_6 rfl (lv_at hl 0 rfl) ?_
  refine lv_if_eq (tgt := 20) hx hb d_Ct_partOf_7 (by decide) (fun c_2 => ?_) (fun c_2 => ?_)
  · refine lv_iconst (v := (-1)) hx hb d_Ct_partOf_20 (by decide) ?_
    exact W.iret (v := (-1)) hx hb hr (fun t ht hW => ⟨_, rfl, by simp [m_partOf, eq_true c_2], ht⟩) (fun q h => by cases h) d_Ct_partOf_21
  · refine lv_iload_n hx hb d_Ct_partOf_10 rfl (lv_at hl 3 rfl) ?_
    refine lv_i2l hx hb d_Ct_partOf_11 rfl ?_
    refine lv_lconst (v := 0) hx hb d_Ct_partOf_12 (by decide) ?_
    refine lv_lconst (v := 1) hx hb d_Ct_partOf_13 (by decide) ?_
    have hPc := hP.sub (ws' := []) [] rfl
    have hDc := hD.sub (ws' := []) [] (by decide) rfl
    have hKc := hK.sub (tys' := []) [] rfl
    have hFc := va_free (wc := []) hD hS hA [] rfl
    refine vp_callSi (va_Run.run (va_runS (As := [.long k.toInt64, .long 0, .long 1]) (rest := [])  ⟨hx, hb, hml, hown, hts⟩ (c_Ct_isWithin l D k.toInt64 0 1 s.heap.size ) ⟨callB_of 3 hts cg_Ct_isWithin rfl rfl rfl (hts _ cw_1) (hts _ cw_267) (by decide +kernel) ⟨Nat.le_of_ble_eq_true rfl, Nat.le_of_ble_eq_true rfl⟩, hts _ cw_268⟩ (cx_preS [.long k.toInt64, .long 0, .long 1] hPc hKc hDc hN hO hS hFc) rfl rfl hl.1 rfl (lv_room (Nat.le_of_ble_eq_true rfl)) d_Ct_partOf_14 ⟨Nat.le_of_ble_eq_true rfl, Nat.le_of_ble_eq_true rfl⟩)) (fun r z_3 => ?_)
    subst z_3
    refine lv_if_ne (tgt := 22) hx hb d_Ct_partOf_17 (by decide) (fun c_4 => ?_) (fun c_4 => ?_)
    · refine lv_iload_n hx hb d_Ct_partOf_22 rfl (lv_at hl 3 rfl) ?_
      refine lv_if_ne (tgt := 32) hx hb d_Ct_partOf_23 (by decide) (fun c_5 => ?_) (fun c_5 => ?_)
      · refine lv_iload_n hx hb d_Ct_partOf_32 rfl (lv_at hl 2 rfl) ?_
        refine lv_iload_n hx hb d_Ct_partOf_33 rfl (lv_at hl 0 rfl) ?_
        refine lv_idiv hx hb d_Ct_partOf_34 (c_2) ?_
        exact W.iret (v := y / (m_gcd 64 x y)) hx hb hr (fun t ht hW => ⟨_, rfl, by simp [m_partOf, eq_false c_2, eq_false c_4, eq_false c_5], ht⟩) (fun q h => by cases h) d_Ct_partOf_35
      · refine lv_iload_n hx hb d_Ct_partOf_26 rfl (lv_at hl 1 rfl) ?_
        refine lv_iload_n hx hb d_Ct_partOf_27 rfl (lv_at hl 0 rfl) ?_
        refine lv_idiv hx hb d_Ct_partOf_28 (c_2) ?_
        refine lv_goto (tgt := 35) hx hb d_Ct_partOf_29 (by decide) ?_
        exact W.iret (v := x / (m_gcd 64 x y)) hx hb hr (fun t ht hW => ⟨_, rfl, by simp [m_partOf, eq_false c_2, eq_false c_4, eq_true c_5], ht⟩) (fun q h => by cases h) d_Ct_partOf_35
    · refine lv_iconst (v := (-1)) hx hb d_Ct_partOf_20 (by decide) ?_
      exact W.iret (v := (-1)) hx hb hr (fun t ht hW => ⟨_, rfl, by simp [m_partOf, eq_false c_2, eq_true c_4], ht⟩) (fun q h => by cases h) d_Ct_partOf_21

set_option maxHeartbeats 4000000 in
set_option maxRecDepth 100000 in
/-- isOpen -/
theorem c_Cell_isOpen (l : Launch) (D : va_G)  (h0 : Nat) (f0 : Int32) (f1 : Int32) (f2 : Int64) (f3 : Int32) (f4 : Int32) (f5 : Int32) (f6 : Int32) (f7 : Int32) (f8 : Int32) (f9 : Int32) (f10 : Int32) (f11 : Int32) (sz : Nat)  : Met l y_Cell_isOpen ws_Cell_isOpen ({ frames := 0, cells := 0, slots := 0, locals := 0 }) (va_Pc [.ref h0] (cx_pre D [] ([(h0, .inr (0, [.int f0, .int f1, .long f2, .int f3, .int f4, .int f5, .int f6, .int f7, .int f8, .int f9, .int f10, .int f11]))]) sz)) (vp_Si (fun r9 => r9 = m_open f1 f7)) 0 0 (fun _ => False) := by
  refine Met.ofW (cc := b_Cell_isOpen) (maxL := 1) (ret := (some .boolean)) (by decide) rfl ?_
  intro p e s m args below meth c s₁ B hml hv
  obtain ⟨rfl, hsz, hP, hK, hD0, hN, hO⟩ := hv
  have hx := B.exec
  have hb := B.bytes
  have hr := B.returns
  have hts := fun (w : Cond) (h : w ∈ cx_tbl) => atoms_spec (ws := ws_Cell_isOpen) B.pre w (List.mem_cons_of_mem _ h)
  have hown : s.vm.findClass R_Cell = some m.cls := findClass_of_methodNamed B.named
  have hlocks := B.notSynchronized
  subst hsz
  have hD := hD0.self (sz := s.heap.size)
  generalize hAe : va_A ([(h0, .inr (0, [.int f0, .int f1, .long f2, .int f3, .int f4, .int f5, .int f6, .int f7, .int f8, .int f9, .int f10, .int f11]))]) s.heap.size = A at hD hO
  have hA : ∀ q : Nat, s.heap.size ≤ q → A q := fun q h => by rw [← hAe]; exact Or.inr h
  have hS : va_S A s.heap s.heap [] := va_S.rf
  have hl := lv_entry ([.ref h0]) (n := 1) (Nat.le_of_ble_eq_true rfl)
  rw [lg_entry_eq]
  generalize (lg_sl ([.ref h0]) ++ List.replicate (1 - (lg_sl ([.ref h0])).length) Slot.unset).toArray = ls at hl ⊢
  have hl : lv_has ls 1 [(0, .ref h0)] := hl
  refine lv_aload_n hx hb d_Cell_isOpen_0 rfl (lv_at hl 0 rfl) ?_
  refine va_get (D := D) (ci := 0) (v := .int f1) (C := R_Cell) (T := T_Cell) (N := 12) hx hb hts in_Cell hown hK hP 0 rfl rfl 1 (by decide) (hts _ cw_213) (fun _ h9 => h9) rfl d_Cell_isOpen_1 ?_
  refine lv_if_eq (tgt := 14) hx hb d_Cell_isOpen_4 (by decide) (fun c_1 => ?_) (fun c_1 => ?_)
  · refine lv_iconst (v := 1) hx hb d_Cell_isOpen_14 (by decide) ?_
    refine lv_goto (tgt := 19) hx hb d_Cell_isOpen_15 (by decide) ?_
    exact W.zret (v := 1) hx hb hr (rfl) (fun t ht hW => ⟨_, rfl, by simp [m_open, eq_true c_1], ht⟩) (fun q h => by cases h) d_Cell_isOpen_19
  · refine lv_aload_n hx hb d_Cell_isOpen_7 rfl (lv_at hl 0 rfl) ?_
    refine va_get (D := D) (ci := 0) (v := .int f7) (C := R_Cell) (T := T_Cell) (N := 12) hx hb hts in_Cell hown hK hP 0 rfl rfl 7 (by decide) (hts _ cw_223) (fun _ h9 => h9) rfl d_Cell_isOpen_8 ?_
    refine lv_if_ne (tgt := 18) hx hb d_Cell_isOpen_11 (by decide) (fun c_2 => ?_) (fun c_2 => ?_)
    · refine lv_iconst (v := 0) hx hb d_Cell_isOpen_18 (by decide) ?_
      exact W.zret (v := 0) hx hb hr (rfl) (fun t ht hW => ⟨_, rfl, by simp [m_open, eq_false c_1, eq_false c_2], ht⟩) (fun q h => by cases h) d_Cell_isOpen_19
    · refine lv_iconst (v := 1) hx hb d_Cell_isOpen_14 (by decide) ?_
      refine lv_goto (tgt := 19) hx hb d_Cell_isOpen_15 (by decide) ?_
      exact W.zret (v := 1) hx hb hr (rfl) (fun t ht hW => ⟨_, rfl, by simp [m_open, eq_false c_1, eq_true c_2], ht⟩) (fun q h => by cases h) d_Cell_isOpen_19

set_option maxHeartbeats 4000000 in
set_option maxRecDepth 100000 in
/-- hasLoss -/
theorem c_Cell_hasLoss (l : Launch) (D : va_G)  (h0 : Nat) (f0 : Int32) (f1 : Int32) (f2 : Int64) (f3 : Int32) (f4 : Int32) (f5 : Int32) (f6 : Int32) (f7 : Int32) (f8 : Int32) (f9 : Int32) (f10 : Int32) (f11 : Int32) (sz : Nat)  : Met l y_Cell_hasLoss ws_Cell_hasLoss ({ frames := 0, cells := 0, slots := 0, locals := 0 }) (va_Pc [.ref h0] (cx_pre D [] ([(h0, .inr (0, [.int f0, .int f1, .long f2, .int f3, .int f4, .int f5, .int f6, .int f7, .int f8, .int f9, .int f10, .int f11]))]) sz)) (vp_Si (fun r9 => r9 = m_hasLoss f7)) 0 0 (fun _ => False) := by
  refine Met.ofW (cc := b_Cell_hasLoss) (maxL := 1) (ret := (some .boolean)) (by decide) rfl ?_
  intro p e s m args below meth c s₁ B hml hv
  obtain ⟨rfl, hsz, hP, hK, hD0, hN, hO⟩ := hv
  have hx := B.exec
  have hb := B.bytes
  have hr := B.returns
  have hts := fun (w : Cond) (h : w ∈ cx_tbl) => atoms_spec (ws := ws_Cell_hasLoss) B.pre w (List.mem_cons_of_mem _ h)
  have hown : s.vm.findClass R_Cell = some m.cls := findClass_of_methodNamed B.named
  have hlocks := B.notSynchronized
  subst hsz
  have hD := hD0.self (sz := s.heap.size)
  generalize hAe : va_A ([(h0, .inr (0, [.int f0, .int f1, .long f2, .int f3, .int f4, .int f5, .int f6, .int f7, .int f8, .int f9, .int f10, .int f11]))]) s.heap.size = A at hD hO
  have hA : ∀ q : Nat, s.heap.size ≤ q → A q := fun q h => by rw [← hAe]; exact Or.inr h
  have hS : va_S A s.heap s.heap [] := va_S.rf
  have hl := lv_entry ([.ref h0]) (n := 1) (Nat.le_of_ble_eq_true rfl)
  rw [lg_entry_eq]
  generalize (lg_sl ([.ref h0]) ++ List.replicate (1 - (lg_sl ([.ref h0])).length) Slot.unset).toArray = ls at hl ⊢
  have hl : lv_has ls 1 [(0, .ref h0)] := hl
  refine lv_aload_n hx hb d_Cell_hasLoss_0 rfl (lv_at hl 0 rfl) ?_
  refine va_get (D := D) (ci := 0) (v := .int f7) (C := R_Cell) (T := T_Cell) (N := 12) hx hb hts in_Cell hown hK hP 0 rfl rfl 7 (by decide) (hts _ cw_223) (fun _ h9 => h9) rfl d_Cell_hasLoss_1 ?_
  refine lv_iconst (v := 1) hx hb d_Cell_hasLoss_4 (by decide) ?_
  refine lv_icmp_le (tgt := 12) hx hb d_Cell_hasLoss_5 (by decide) (fun c_1 => ?_) (fun c_1 => ?_)
  · refine lv_iconst (v := 0) hx hb d_Cell_hasLoss_12 (by decide) ?_
    exact W.zret (v := 0) hx hb hr (rfl) (fun t ht hW => ⟨_, rfl, by simp [m_hasLoss, eq_true c_1], ht⟩) (fun q h => by cases h) d_Cell_hasLoss_13
  · refine lv_iconst (v := 1) hx hb d_Cell_hasLoss_8 (by decide) ?_
    refine lv_goto (tgt := 13) hx hb d_Cell_hasLoss_9 (by decide) ?_
    exact W.zret (v := 1) hx hb hr (rfl) (fun t ht hW => ⟨_, rfl, by simp [m_hasLoss, eq_false c_1], ht⟩) (fun q h => by cases h) d_Cell_hasLoss_13

set_option maxHeartbeats 4000000 in
set_option maxRecDepth 100000 in
/-- hasResistance -/
theorem c_Cell_hasResistance (l : Launch) (D : va_G)  (h0 : Nat) (f0 : Int32) (f1 : Int32) (f2 : Int64) (f3 : Int32) (f4 : Int32) (f5 : Int32) (f6 : Int32) (f7 : Int32) (f8 : Int32) (f9 : Int32) (f10 : Int32) (f11 : Int32) (sz : Nat)  : Met l y_Cell_hasResistance ws_Cell_hasResistance ({ frames := 0, cells := 0, slots := 0, locals := 0 }) (va_Pc [.ref h0] (cx_pre D [] ([(h0, .inr (0, [.int f0, .int f1, .long f2, .int f3, .int f4, .int f5, .int f6, .int f7, .int f8, .int f9, .int f10, .int f11]))]) sz)) (vp_Si (fun r9 => r9 = m_hasRes f6)) 0 0 (fun _ => False) := by
  refine Met.ofW (cc := b_Cell_hasResistance) (maxL := 1) (ret := (some .boolean)) (by decide) rfl ?_
  intro p e s m args below meth c s₁ B hml hv
  obtain ⟨rfl, hsz, hP, hK, hD0, hN, hO⟩ := hv
  have hx := B.exec
  have hb := B.bytes
  have hr := B.returns
  have hts := fun (w : Cond) (h : w ∈ cx_tbl) => atoms_spec (ws := ws_Cell_hasResistance) B.pre w (List.mem_cons_of_mem _ h)
  have hown : s.vm.findClass R_Cell = some m.cls := findClass_of_methodNamed B.named
  have hlocks := B.notSynchronized
  subst hsz
  have hD := hD0.self (sz := s.heap.size)
  generalize hAe : va_A ([(h0, .inr (0, [.int f0, .int f1, .long f2, .int f3, .int f4, .int f5, .int f6, .int f7, .int f8, .int f9, .int f10, .int f11]))]) s.heap.size = A at hD hO
  have hA : ∀ q : Nat, s.heap.size ≤ q → A q := fun q h => by rw [← hAe]; exact Or.inr h
  have hS : va_S A s.heap s.heap [] := va_S.rf
  have hl := lv_entry ([.ref h0]) (n := 1) (Nat.le_of_ble_eq_true rfl)
  rw [lg_entry_eq]
  generalize (lg_sl ([.ref h0]) ++ List.replicate (1 - (lg_sl ([.ref h0])).length) Slot.unset).toArray = ls at hl ⊢
  have hl : lv_has ls 1 [(0, .ref h0)] := hl
  refine lv_aload_n hx hb d_Cell_hasResistance_0 rfl (lv_at hl 0 rfl) ?_
  refine va_get (D := D) (ci := 0) (v := .int f6) (C := R_Cell) (T := T_Cell) (N := 12) hx hb hts in_Cell hown hK hP 0 rfl rfl 6 (by decide) (hts _ cw_220) (fun _ h9 => h9) rfl d_Cell_hasResistance_1 ?_
  refine lv_if_le (tgt := 11) hx hb d_Cell_hasResistance_4 (by decide) (fun c_1 => ?_) (fun c_1 => ?_)
  · refine lv_iconst (v := 0) hx hb d_Cell_hasResistance_11 (by decide) ?_
    exact W.zret (v := 0) hx hb hr (rfl) (fun t ht hW => ⟨_, rfl, by simp [m_hasRes, eq_true c_1], ht⟩) (fun q h => by cases h) d_Cell_hasResistance_12
  · refine lv_iconst (v := 1) hx hb d_Cell_hasResistance_7 (by decide) ?_
    refine lv_goto (tgt := 12) hx hb d_Cell_hasResistance_8 (by decide) ?_
    exact W.zret (v := 1) hx hb hr (rfl) (fun t ht hW => ⟨_, rfl, by simp [m_hasRes, eq_false c_1], ht⟩) (fun q h => by cases h) d_Cell_hasResistance_12

set_option maxHeartbeats 4000000 in
set_option maxRecDepth 100000 in
/-- voltLost -/
theorem c_Cell_voltLost (l : Launch) (D : va_G)  (h0 : Nat) (f0 : Int32) (f1 : Int32) (f2 : Int64) (f3 : Int32) (f4 : Int32) (f5 : Int32) (f6 : Int32) (f7 : Int32) (f8 : Int32) (f9 : Int32) (f10 : Int32) (f11 : Int32) (sz : Nat)  : Met l y_Cell_voltLost ws_Cell_voltLost ({ frames := 1, cells := 0, slots := 0, locals := 25 }) (va_Pc [.ref h0] (cx_pre D [] ([(h0, .inr (0, [.int f0, .int f1, .long f2, .int f3, .int f4, .int f5, .int f6, .int f7, .int f8, .int f9, .int f10, .int f11]))]) sz)) (vp_Si (fun r9 => r9 = m_max 0 (f9 - f11))) 0 0 (fun _ => False) := by
  refine Met.ofW (cc := b_Cell_voltLost) (maxL := 1) (ret := (some .int)) (by decide) rfl ?_
  intro p e s m args below meth c s₁ B hml hv
  obtain ⟨rfl, hsz, hP, hK, hD0, hN, hO⟩ := hv
  have hx := B.exec
  have hb := B.bytes
  have hr := B.returns
  have hts := fun (w : Cond) (h : w ∈ cx_tbl) => atoms_spec (ws := ws_Cell_voltLost) B.pre w (List.mem_cons_of_mem _ h)
  have hown : s.vm.findClass R_Cell = some m.cls := findClass_of_methodNamed B.named
  have hlocks := B.notSynchronized
  subst hsz
  have hD := hD0.self (sz := s.heap.size)
  generalize hAe : va_A ([(h0, .inr (0, [.int f0, .int f1, .long f2, .int f3, .int f4, .int f5, .int f6, .int f7, .int f8, .int f9, .int f10, .int f11]))]) s.heap.size = A at hD hO
  have hA : ∀ q : Nat, s.heap.size ≤ q → A q := fun q h => by rw [← hAe]; exact Or.inr h
  have hS : va_S A s.heap s.heap [] := va_S.rf
  have hl := lv_entry ([.ref h0]) (n := 1) (Nat.le_of_ble_eq_true rfl)
  rw [lg_entry_eq]
  generalize (lg_sl ([.ref h0]) ++ List.replicate (1 - (lg_sl ([.ref h0])).length) Slot.unset).toArray = ls at hl ⊢
  have hl : lv_has ls 1 [(0, .ref h0)] := hl
  refine lv_iconst (v := 0) hx hb d_Cell_voltLost_0 (by decide) ?_
  refine lv_aload_n hx hb d_Cell_voltLost_1 rfl (lv_at hl 0 rfl) ?_
  refine va_get (D := D) (ci := 0) (v := .int f9) (C := R_Cell) (T := T_Cell) (N := 12) hx hb hts in_Cell hown hK hP 0 rfl rfl 9 (by decide) (hts _ cw_225) (fun _ h9 => h9) rfl d_Cell_voltLost_2 ?_
  refine lv_aload_n hx hb d_Cell_voltLost_5 rfl (lv_at hl 0 rfl) ?_
  refine va_get (D := D) (ci := 0) (v := .int f11) (C := R_Cell) (T := T_Cell) (N := 12) hx hb hts in_Cell hown hK hP 0 rfl rfl 11 (by decide) (hts _ cw_227) (fun _ h9 => h9) rfl d_Cell_voltLost_6 ?_
  refine lv_isub hx hb d_Cell_voltLost_9 ?_
  refine va_mmax hx hb (by rw [hml]; exact hl.1.symm) hown (hts _ cw_336) (hts _ cw_337) (hts _ cw_12) (hts _ cw_338) (Nat.le_of_ble_eq_true rfl) (Nat.le_of_ble_eq_true rfl) (Nat.le_of_ble_eq_true rfl) (Nat.le_of_ble_eq_true rfl) d_Cell_voltLost_10 ?_
  exact W.iret (v := m_max 0 (f9 - f11)) hx hb hr (fun t ht hW => ⟨_, rfl, rfl, ht⟩) (fun q h => by cases h) d_Cell_voltLost_13

set_option maxHeartbeats 4000000 in
set_option maxRecDepth 100000 in
/-- daysBetween -/
theorem c_Cell_daysBetween (l : Launch) (D : va_G)  (h0 : Nat) (f0 : Int32) (f1 : Int32) (f2 : Int64) (f3 : Int32) (f4 : Int32) (f5 : Int32) (f6 : Int32) (f7 : Int32) (f8 : Int32) (f9 : Int32) (f10 : Int32) (f11 : Int32) (sz : Nat)  : Met l y_Cell_daysBetween ws_Cell_daysBetween ({ frames := 0, cells := 0, slots := 0, locals := 0 }) (va_Pc [.ref h0] (cx_pre D [] ([(h0, .inr (0, [.int f0, .int f1, .long f2, .int f3, .int f4, .int f5, .int f6, .int f7, .int f8, .int f9, .int f10, .int f11]))]) sz)) (vp_Si (fun r9 => r9 = f10 - f8)) 0 0 (fun _ => False) := by
  refine Met.ofW (cc := b_Cell_daysBetween) (maxL := 1) (ret := (some .int)) (by decide) rfl ?_
  intro p e s m args below meth c s₁ B hml hv
  obtain ⟨rfl, hsz, hP, hK, hD0, hN, hO⟩ := hv
  have hx := B.exec
  have hb := B.bytes
  have hr := B.returns
  have hts := fun (w : Cond) (h : w ∈ cx_tbl) => atoms_spec (ws := ws_Cell_daysBetween) B.pre w (List.mem_cons_of_mem _ h)
  have hown : s.vm.findClass R_Cell = some m.cls := findClass_of_methodNamed B.named
  have hlocks := B.notSynchronized
  subst hsz
  have hD := hD0.self (sz := s.heap.size)
  generalize hAe : va_A ([(h0, .inr (0, [.int f0, .int f1, .long f2, .int f3, .int f4, .int f5, .int f6, .int f7, .int f8, .int f9, .int f10, .int f11]))]) s.heap.size = A at hD hO
  have hA : ∀ q : Nat, s.heap.size ≤ q → A q := fun q h => by rw [← hAe]; exact Or.inr h
  have hS : va_S A s.heap s.heap [] := va_S.rf
  have hl := lv_entry ([.ref h0]) (n := 1) (Nat.le_of_ble_eq_true rfl)
  rw [lg_entry_eq]
  generalize (lg_sl ([.ref h0]) ++ List.replicate (1 - (lg_sl ([.ref h0])).length) Slot.unset).toArray = ls at hl ⊢
  have hl : lv_has ls 1 [(0, .ref h0)] := hl
  refine lv_aload_n hx hb d_Cell_daysBetween_0 rfl (lv_at hl 0 rfl) ?_
  refine va_get (D := D) (ci := 0) (v := .int f10) (C := R_Cell) (T := T_Cell) (N := 12) hx hb hts in_Cell hown hK hP 0 rfl rfl 10 (by decide) (hts _ cw_226) (fun _ h9 => h9) rfl d_Cell_daysBetween_1 ?_
  refine lv_aload_n hx hb d_Cell_daysBetween_4 rfl (lv_at hl 0 rfl) ?_
  refine va_get (D := D) (ci := 0) (v := .int f8) (C := R_Cell) (T := T_Cell) (N := 12) hx hb hts in_Cell hown hK hP 0 rfl rfl 8 (by decide) (hts _ cw_224) (fun _ h9 => h9) rfl d_Cell_daysBetween_5 ?_
  refine lv_isub hx hb d_Cell_daysBetween_8 ?_
  exact W.iret (v := f10 - f8) hx hb hr (fun t ht hW => ⟨_, rfl, rfl, ht⟩) (fun q h => by cases h) d_Cell_daysBetween_9

set_option maxHeartbeats 4000000 in
set_option maxRecDepth 100000 in
/-- chargeNow -/
theorem c_Cell_chargeNow (l : Launch) (D : va_G)  (h0 : Nat) (f0 : Int32) (f1 : Int32) (f2 : Int64) (f3 : Int32) (f4 : Int32) (f5 : Int32) (f6 : Int32) (f7 : Int32) (f8 : Int32) (f9 : Int32) (f10 : Int32) (f11 : Int32) (sz : Nat)  : Met l y_Cell_chargeNow ws_Cell_chargeNow ({ frames := 1, cells := 0, slots := 0, locals := 25 }) (va_Pc [.ref h0] (cx_pre D [] ([(h0, .inr (0, [.int f0, .int f1, .long f2, .int f3, .int f4, .int f5, .int f6, .int f7, .int f8, .int f9, .int f10, .int f11]))]) sz)) (vp_Sl (fun r9 => r9 = m_floorDiv f2 3600)) 0 0 (fun _ => False) := by
  refine Met.ofW (cc := b_Cell_chargeNow) (maxL := 1) (ret := (some .long)) (by decide) rfl ?_
  intro p e s m args below meth c s₁ B hml hv
  obtain ⟨rfl, hsz, hP, hK, hD0, hN, hO⟩ := hv
  have hx := B.exec
  have hb := B.bytes
  have hr := B.returns
  have hts := fun (w : Cond) (h : w ∈ cx_tbl) => atoms_spec (ws := ws_Cell_chargeNow) B.pre w (List.mem_cons_of_mem _ h)
  have hown : s.vm.findClass R_Cell = some m.cls := findClass_of_methodNamed B.named
  have hlocks := B.notSynchronized
  subst hsz
  have hD := hD0.self (sz := s.heap.size)
  generalize hAe : va_A ([(h0, .inr (0, [.int f0, .int f1, .long f2, .int f3, .int f4, .int f5, .int f6, .int f7, .int f8, .int f9, .int f10, .int f11]))]) s.heap.size = A at hD hO
  have hA : ∀ q : Nat, s.heap.size ≤ q → A q := fun q h => by rw [← hAe]; exact Or.inr h
  have hS : va_S A s.heap s.heap [] := va_S.rf
  have hl := lv_entry ([.ref h0]) (n := 1) (Nat.le_of_ble_eq_true rfl)
  rw [lg_entry_eq]
  generalize (lg_sl ([.ref h0]) ++ List.replicate (1 - (lg_sl ([.ref h0])).length) Slot.unset).toArray = ls at hl ⊢
  have hl : lv_has ls 1 [(0, .ref h0)] := hl
  refine lv_aload_n hx hb d_Cell_chargeNow_0 rfl (lv_at hl 0 rfl) ?_
  refine va_get (D := D) (ci := 0) (v := .long f2) (C := R_Cell) (T := T_Cell) (N := 12) hx hb hts in_Cell hown hK hP 0 rfl rfl 2 (by decide) (hts _ cw_214) (fun _ h9 => h9) rfl d_Cell_chargeNow_1 ?_
  refine lv_ldc2 (v := 3600) hx hb hown (hts _ cw_306) d_Cell_chargeNow_4 ?_
  have hPc := hP.sub (ws' := []) [] rfl
  have hDc := hD.sub (ws' := []) [] (by decide) rfl
  have hKc := hK.sub (tys' := []) [] rfl
  have hFc := va_free (wc := []) hD hS hA [] rfl
  refine vp_callSl (va_Run.run (va_runS (As := [.long f2, .long 3600]) (rest := [])  ⟨hx, hb, hml, hown, hts⟩ (c_floorDiv l D f2 3600 s.heap.size (by decide)) ⟨callB_of 2 hts cg_JMath_floorDiv rfl rfl rfl (hts _ cw_12) (hts _ cw_307) (by decide +kernel) ⟨Nat.le_of_ble_eq_true rfl, Nat.le_of_ble_eq_true rfl⟩, hts _ cw_308⟩ (cx_preS [.long f2, .long 3600] hPc hKc hDc hN hO hS hFc) rfl rfl hl.1 rfl (lv_room (Nat.le_of_ble_eq_true rfl)) d_Cell_chargeNow_7 ⟨Nat.le_of_ble_eq_true rfl, Nat.le_of_ble_eq_true rfl⟩)) (fun r z_1 => ?_)
  subst z_1
  exact W.lret (v := m_floorDiv f2 3600) hx hb hr (fun t ht hW => ⟨_, rfl, rfl, ht⟩) (fun q h => by cases h) d_Cell_chargeNow_10

set_option maxHeartbeats 4000000 in
set_option maxRecDepth 100000 in
/-- isUnsafe -/
theorem c_Cell_isUnsafe (l : Launch) (D : va_G)  (h0 : Nat) (f0 : Int32) (f1 : Int32) (f2 : Int64) (f3 : Int32) (f4 : Int32) (f5 : Int32) (f6 : Int32) (f7 : Int32) (f8 : Int32) (f9 : Int32) (f10 : Int32) (f11 : Int32) (sz : Nat)  : Met l y_Cell_isUnsafe ws_Cell_isUnsafe ({ frames := 1, cells := 0, slots := 0, locals := 25 }) (va_Pc [.ref h0] (cx_pre D [] ([(h0, .inr (0, [.int f0, .int f1, .long f2, .int f3, .int f4, .int f5, .int f6, .int f7, .int f8, .int f9, .int f10, .int f11]))]) sz)) (vp_Si (fun r9 => r9 = m_uns f1 f4 f7 f11)) 0 0 (fun _ => False) := by
  refine Met.ofW (cc := b_Cell_isUnsafe) (maxL := 3) (ret := (some .boolean)) (by decide) rfl ?_
  intro p e s m args below meth c s₁ B hml hv
  obtain ⟨rfl, hsz, hP, hK, hD0, hN, hO⟩ := hv
  have hx := B.exec
  have hb := B.bytes
  have hr := B.returns
  have hts := fun (w : Cond) (h : w ∈ cx_tbl) => atoms_spec (ws := ws_Cell_isUnsafe) B.pre w (List.mem_cons_of_mem _ h)
  have hown : s.vm.findClass R_Cell = some m.cls := findClass_of_methodNamed B.named
  have hlocks := B.notSynchronized
  subst hsz
  have hD := hD0.self (sz := s.heap.size)
  generalize hAe : va_A ([(h0, .inr (0, [.int f0, .int f1, .long f2, .int f3, .int f4, .int f5, .int f6, .int f7, .int f8, .int f9, .int f10, .int f11]))]) s.heap.size = A at hD hO
  have hA : ∀ q : Nat, s.heap.size ≤ q → A q := fun q h => by rw [← hAe]; exact Or.inr h
  have hS : va_S A s.heap s.heap [] := va_S.rf
  have hl := lv_entry ([.ref h0]) (n := 3) (Nat.le_of_ble_eq_true rfl)
  rw [lg_entry_eq]
  generalize (lg_sl ([.ref h0]) ++ List.replicate (3 - (lg_sl ([.ref h0])).length) Slot.unset).toArray = ls at hl ⊢
  have hl : lv_has ls 3 [(0, .ref h0)] := hl
  refine lv_aload_n hx hb d_Cell_isUnsafe_0 rfl (lv_at hl 0 rfl) ?_
  refine va_get (D := D) (ci := 0) (v := .int f7) (C := R_Cell) (T := T_Cell) (N := 12) hx hb hts in_Cell hown hK hP 0 rfl rfl 7 (by decide) (hts _ cw_223) (fun _ h9 => h9) rfl d_Cell_isUnsafe_1 ?_
  refine lv_if_le (tgt := 28) hx hb d_Cell_isUnsafe_4 (by decide) (fun c_1 => ?_) (fun c_1 => ?_)
  · refine lv_iconst (v := 0) hx hb d_Cell_isUnsafe_28 (by decide) ?_
    refine lv_istore_n (lv' := [(1, .int 0), (0, .ref h0)]) hx hb d_Cell_isUnsafe_29 rfl hl (by decide) rfl (fun ls hl => ?_)
    refine lv_aload_n hx hb d_Cell_isUnsafe_30 rfl (lv_at hl 1 rfl) ?_
    refine va_get (D := D) (ci := 0) (v := .int f1) (C := R_Cell) (T := T_Cell) (N := 12) hx hb hts in_Cell hown hK hP 0 rfl rfl 1 (by decide) (hts _ cw_213) (fun _ h9 => h9) rfl d_Cell_isUnsafe_31 ?_
    refine lv_if_le (tgt := 51) hx hb d_Cell_isUnsafe_34 (by decide) (fun c_2 => ?_) (fun c_2 => ?_)
    · refine lv_iconst (v := 0) hx hb d_Cell_isUnsafe_51 (by decide) ?_
      refine lv_istore_n (lv' := [(2, .int 0), (1, .int 0), (0, .ref h0)]) hx hb d_Cell_isUnsafe_52 rfl hl (by decide) rfl (fun ls hl => ?_)
      refine lv_iload_n hx hb d_Cell_isUnsafe_53 rfl (lv_at hl 1 rfl) ?_
      refine lv_if_ne (tgt := 61) hx hb d_Cell_isUnsafe_54 (by decide) (fun c_3 => ?_) (fun c_3 => ?_)
      · exact absurd c_3 (by decide)
      · refine lv_iload_n hx hb d_Cell_isUnsafe_57 rfl (lv_at hl 0 rfl) ?_
        refine lv_if_eq (tgt := 65) hx hb d_Cell_isUnsafe_58 (by decide) (fun c_4 => ?_) (fun c_4 => ?_)
        · refine lv_iconst (v := 0) hx hb d_Cell_isUnsafe_65 (by decide) ?_
          exact W.zret (v := 0) hx hb hr (rfl) (fun t ht hW => ⟨_, rfl, by simp [m_uns, eq_true c_1, eq_true c_2], ht⟩) (fun q h => by cases h) d_Cell_isUnsafe_66
        · exact absurd c_4 (by decide)
    · refine lv_aload_n hx hb d_Cell_isUnsafe_37 rfl (lv_at hl 1 rfl) ?_
      refine va_get (D := D) (ci := 0) (v := .int f4) (C := R_Cell) (T := T_Cell) (N := 12) hx hb hts in_Cell hown hK hP 0 rfl rfl 4 (by decide) (hts _ cw_216) (fun _ h9 => h9) rfl d_Cell_isUnsafe_38 ?_
      refine lv_sipush (v := 5000) hx hb d_Cell_isUnsafe_41 (by decide) ?_
      refine lv_icmp_le (tgt := 51) hx hb d_Cell_isUnsafe_44 (by decide) (fun c_5 => ?_) (fun c_5 => ?_)
      · refine lv_iconst (v := 0) hx hb d_Cell_isUnsafe_51 (by decide) ?_
        refine lv_istore_n (lv' := [(2, .int 0), (1, .int 0), (0, .ref h0)]) hx hb d_Cell_isUnsafe_52 rfl hl (by decide) rfl (fun ls hl => ?_)
        refine lv_iload_n hx hb d_Cell_isUnsafe_53 rfl (lv_at hl 1 rfl) ?_
        refine lv_if_ne (tgt := 61) hx hb d_Cell_isUnsafe_54 (by decide) (fun c_6 => ?_) (fun c_6 => ?_)
        · exact absurd c_6 (by decide)
        · refine lv_iload_n hx hb d_Cell_isUnsafe_57 rfl (lv_at hl 0 rfl) ?_
          refine lv_if_eq (tgt := 65) hx hb d_Cell_isUnsafe_58 (by decide) (fun c_7 => ?_) (fun c_7 => ?_)
          · refine lv_iconst (v := 0) hx hb d_Cell_isUnsafe_65 (by decide) ?_
            exact W.zret (v := 0) hx hb hr (rfl) (fun t ht hW => ⟨_, rfl, by simp [m_uns, eq_true c_1, eq_false c_2, eq_true c_5], ht⟩) (fun q h => by cases h) d_Cell_isUnsafe_66
          · exact absurd c_7 (by decide)
      · refine lv_iconst (v := 1) hx hb d_Cell_isUnsafe_47 (by decide) ?_
        refine lv_goto (tgt := 52) hx hb d_Cell_isUnsafe_48 (by decide) ?_
        refine lv_istore_n (lv' := [(2, .int 1), (1, .int 0), (0, .ref h0)]) hx hb d_Cell_isUnsafe_52 rfl hl (by decide) rfl (fun ls hl => ?_)
        refine lv_iload_n hx hb d_Cell_isUnsafe_53 rfl (lv_at hl 1 rfl) ?_
        refine lv_if_ne (tgt := 61) hx hb d_Cell_isUnsafe_54 (by decide) (fun c_8 => ?_) (fun c_8 => ?_)
        · exact absurd c_8 (by decide)
        · refine lv_iload_n hx hb d_Cell_isUnsafe_57 rfl (lv_at hl 0 rfl) ?_
          refine lv_if_eq (tgt := 65) hx hb d_Cell_isUnsafe_58 (by decide) (fun c_9 => ?_) (fun c_9 => ?_)
          · exact absurd c_9 (by decide)
          · refine lv_iconst (v := 1) hx hb d_Cell_isUnsafe_61 (by decide) ?_
            refine lv_goto (tgt := 66) hx hb d_Cell_isUnsafe_62 (by decide) ?_
            exact W.zret (v := 1) hx hb hr (rfl) (fun t ht hW => ⟨_, rfl, by simp [m_uns, eq_true c_1, eq_false c_2, eq_false c_5], ht⟩) (fun q h => by cases h) d_Cell_isUnsafe_66
  · refine lv_aload_n hx hb d_Cell_isUnsafe_7 rfl (lv_at hl 0 rfl) ?_
    refine va_get (D := D) (ci := 0) (v := .int f11) (C := R_Cell) (T := T_Cell) (N := 12) hx hb hts in_Cell hown hK hP 0 rfl rfl 11 (by decide) (hts _ cw_227) (fun _ h9 => h9) rfl d_Cell_isUnsafe_8 ?_
    refine lv_i2l hx hb d_Cell_isUnsafe_11 rfl ?_
    refine lv_ldc2 (v := 1000) hx hb hown (hts _ cw_503) d_Cell_isUnsafe_12 ?_
    refine lv_ldc2 (v := 4500) hx hb hown (hts _ cw_504) d_Cell_isUnsafe_15 ?_
    have hPc := hP.sub (ws' := []) [] rfl
    have hDc := hD.sub (ws' := []) [] (by decide) rfl
    have hKc := hK.sub (tys' := []) [] rfl
    have hFc := va_free (wc := []) hD hS hA [] rfl
    refine vp_callSi (va_Run.run (va_runSN (As := [.long f11.toInt64, .long 1000, .long 4500]) (rest := [])  ⟨hx, hb, hml, hown, hts⟩ (c_Ct_isWithin l D f11.toInt64 1000 4500 s.heap.size ) ⟨va_cnB 3 hts cg_Ct_isWithin rfl rfl rfl (hN _ cn_283) (hts _ cw_1) (by decide +kernel) ⟨Nat.le_of_ble_eq_true rfl, Nat.le_of_ble_eq_true rfl⟩, hts _ cw_268, trivial⟩ (cx_preS [.long f11.toInt64, .long 1000, .long 4500] hPc hKc hDc hN hO hS hFc) rfl rfl hl.1 rfl (lv_room (Nat.le_of_ble_eq_true rfl)) d_Cell_isUnsafe_18 ⟨Nat.le_of_ble_eq_true rfl, Nat.le_of_ble_eq_true rfl⟩)) (fun r z_10 => ?_)
    subst z_10
    refine lv_if_ne (tgt := 28) hx hb d_Cell_isUnsafe_21 (by decide) (fun c_11 => ?_) (fun c_11 => ?_)
    · refine lv_iconst (v := 0) hx hb d_Cell_isUnsafe_28 (by decide) ?_
      refine lv_istore_n (lv' := [(1, .int 0), (0, .ref h0)]) hx hb d_Cell_isUnsafe_29 rfl hl (by decide) rfl (fun ls hl => ?_)
      refine lv_aload_n hx hb d_Cell_isUnsafe_30 rfl (lv_at hl 1 rfl) ?_
      refine va_get (D := D) (ci := 0) (v := .int f1) (C := R_Cell) (T := T_Cell) (N := 12) hx hb hts in_Cell hown hK hP 0 rfl rfl 1 (by decide) (hts _ cw_213) (fun _ h9 => h9) rfl d_Cell_isUnsafe_31 ?_
      refine lv_if_le (tgt := 51) hx hb d_Cell_isUnsafe_34 (by decide) (fun c_12 => ?_) (fun c_12 => ?_)
      · refine lv_iconst (v := 0) hx hb d_Cell_isUnsafe_51 (by decide) ?_
        refine lv_istore_n (lv' := [(2, .int 0), (1, .int 0), (0, .ref h0)]) hx hb d_Cell_isUnsafe_52 rfl hl (by decide) rfl (fun ls hl => ?_)
        refine lv_iload_n hx hb d_Cell_isUnsafe_53 rfl (lv_at hl 1 rfl) ?_
        refine lv_if_ne (tgt := 61) hx hb d_Cell_isUnsafe_54 (by decide) (fun c_13 => ?_) (fun c_13 => ?_)
        · exact absurd c_13 (by decide)
        · refine lv_iload_n hx hb d_Cell_isUnsafe_57 rfl (lv_at hl 0 rfl) ?_
          refine lv_if_eq (tgt := 65) hx hb d_Cell_isUnsafe_58 (by decide) (fun c_14 => ?_) (fun c_14 => ?_)
          · refine lv_iconst (v := 0) hx hb d_Cell_isUnsafe_65 (by decide) ?_
            exact W.zret (v := 0) hx hb hr (rfl) (fun t ht hW => ⟨_, rfl, by simp [m_uns, eq_false c_1, eq_false c_11, eq_true c_12], ht⟩) (fun q h => by cases h) d_Cell_isUnsafe_66
          · exact absurd c_14 (by decide)
      · refine lv_aload_n hx hb d_Cell_isUnsafe_37 rfl (lv_at hl 1 rfl) ?_
        refine va_get (D := D) (ci := 0) (v := .int f4) (C := R_Cell) (T := T_Cell) (N := 12) hx hb hts in_Cell hown hK hP 0 rfl rfl 4 (by decide) (hts _ cw_216) (fun _ h9 => h9) rfl d_Cell_isUnsafe_38 ?_
        refine lv_sipush (v := 5000) hx hb d_Cell_isUnsafe_41 (by decide) ?_
        refine lv_icmp_le (tgt := 51) hx hb d_Cell_isUnsafe_44 (by decide) (fun c_15 => ?_) (fun c_15 => ?_)
        · refine lv_iconst (v := 0) hx hb d_Cell_isUnsafe_51 (by decide) ?_
          refine lv_istore_n (lv' := [(2, .int 0), (1, .int 0), (0, .ref h0)]) hx hb d_Cell_isUnsafe_52 rfl hl (by decide) rfl (fun ls hl => ?_)
          refine lv_iload_n hx hb d_Cell_isUnsafe_53 rfl (lv_at hl 1 rfl) ?_
          refine lv_if_ne (tgt := 61) hx hb d_Cell_isUnsafe_54 (by decide) (fun c_16 => ?_) (fun c_16 => ?_)
          · exact absurd c_16 (by decide)
          · refine lv_iload_n hx hb d_Cell_isUnsafe_57 rfl (lv_at hl 0 rfl) ?_
            refine lv_if_eq (tgt := 65) hx hb d_Cell_isUnsafe_58 (by decide) (fun c_17 => ?_) (fun c_17 => ?_)
            · refine lv_iconst (v := 0) hx hb d_Cell_isUnsafe_65 (by decide) ?_
              exact W.zret (v := 0) hx hb hr (rfl) (fun t ht hW => ⟨_, rfl, by simp [m_uns, eq_false c_1, eq_false c_11, eq_false c_12, eq_true c_15], ht⟩) (fun q h => by cases h) d_Cell_isUnsafe_66
            · exact absurd c_17 (by decide)
        · refine lv_iconst (v := 1) hx hb d_Cell_isUnsafe_47 (by decide) ?_
          refine lv_goto (tgt := 52) hx hb d_Cell_isUnsafe_48 (by decide) ?_
          refine lv_istore_n (lv' := [(2, .int 1), (1, .int 0), (0, .ref h0)]) hx hb d_Cell_isUnsafe_52 rfl hl (by decide) rfl (fun ls hl => ?_)
          refine lv_iload_n hx hb d_Cell_isUnsafe_53 rfl (lv_at hl 1 rfl) ?_
          refine lv_if_ne (tgt := 61) hx hb d_Cell_isUnsafe_54 (by decide) (fun c_18 => ?_) (fun c_18 => ?_)
          · exact absurd c_18 (by decide)
          · refine lv_iload_n hx hb d_Cell_isUnsafe_57 rfl (lv_at hl 0 rfl) ?_
            refine lv_if_eq (tgt := 65) hx hb d_Cell_isUnsafe_58 (by decide) (fun c_19 => ?_) (fun c_19 => ?_)
            · exact absurd c_19 (by decide)
            · refine lv_iconst (v := 1) hx hb d_Cell_isUnsafe_61 (by decide) ?_
              refine lv_goto (tgt := 66) hx hb d_Cell_isUnsafe_62 (by decide) ?_
              exact W.zret (v := 1) hx hb hr (rfl) (fun t ht hW => ⟨_, rfl, by simp [m_uns, eq_false c_1, eq_false c_11, eq_false c_12, eq_false c_15], ht⟩) (fun q h => by cases h) d_Cell_isUnsafe_66
    · refine lv_iconst (v := 1) hx hb d_Cell_isUnsafe_24 (by decide) ?_
      refine lv_goto (tgt := 29) hx hb d_Cell_isUnsafe_25 (by decide) ?_
      refine lv_istore_n (lv' := [(1, .int 1), (0, .ref h0)]) hx hb d_Cell_isUnsafe_29 rfl hl (by decide) rfl (fun ls hl => ?_)
      refine lv_aload_n hx hb d_Cell_isUnsafe_30 rfl (lv_at hl 1 rfl) ?_
      refine va_get (D := D) (ci := 0) (v := .int f1) (C := R_Cell) (T := T_Cell) (N := 12) hx hb hts in_Cell hown hK hP 0 rfl rfl 1 (by decide) (hts _ cw_213) (fun _ h9 => h9) rfl d_Cell_isUnsafe_31 ?_
      refine lv_if_le (tgt := 51) hx hb d_Cell_isUnsafe_34 (by decide) (fun c_20 => ?_) (fun c_20 => ?_)
      · refine lv_iconst (v := 0) hx hb d_Cell_isUnsafe_51 (by decide) ?_
        refine lv_istore_n (lv' := [(2, .int 0), (1, .int 1), (0, .ref h0)]) hx hb d_Cell_isUnsafe_52 rfl hl (by decide) rfl (fun ls hl => ?_)
        refine lv_iload_n hx hb d_Cell_isUnsafe_53 rfl (lv_at hl 1 rfl) ?_
        refine lv_if_ne (tgt := 61) hx hb d_Cell_isUnsafe_54 (by decide) (fun c_21 => ?_) (fun c_21 => ?_)
        · refine lv_iconst (v := 1) hx hb d_Cell_isUnsafe_61 (by decide) ?_
          refine lv_goto (tgt := 66) hx hb d_Cell_isUnsafe_62 (by decide) ?_
          exact W.zret (v := 1) hx hb hr (rfl) (fun t ht hW => ⟨_, rfl, by simp [m_uns, eq_false c_1, eq_true c_11, eq_true c_20], ht⟩) (fun q h => by cases h) d_Cell_isUnsafe_66
        · exact absurd c_21 (by decide)
      · refine lv_aload_n hx hb d_Cell_isUnsafe_37 rfl (lv_at hl 1 rfl) ?_
        refine va_get (D := D) (ci := 0) (v := .int f4) (C := R_Cell) (T := T_Cell) (N := 12) hx hb hts in_Cell hown hK hP 0 rfl rfl 4 (by decide) (hts _ cw_216) (fun _ h9 => h9) rfl d_Cell_isUnsafe_38 ?_
        refine lv_sipush (v := 5000) hx hb d_Cell_isUnsafe_41 (by decide) ?_
        refine lv_icmp_le (tgt := 51) hx hb d_Cell_isUnsafe_44 (by decide) (fun c_22 => ?_) (fun c_22 => ?_)
        · refine lv_iconst (v := 0) hx hb d_Cell_isUnsafe_51 (by decide) ?_
          refine lv_istore_n (lv' := [(2, .int 0), (1, .int 1), (0, .ref h0)]) hx hb d_Cell_isUnsafe_52 rfl hl (by decide) rfl (fun ls hl => ?_)
          refine lv_iload_n hx hb d_Cell_isUnsafe_53 rfl (lv_at hl 1 rfl) ?_
          refine lv_if_ne (tgt := 61) hx hb d_Cell_isUnsafe_54 (by decide) (fun c_23 => ?_) (fun c_23 => ?_)
          · refine lv_iconst (v := 1) hx hb d_Cell_isUnsafe_61 (by decide) ?_
            refine lv_goto (tgt := 66) hx hb d_Cell_isUnsafe_62 (by decide) ?_
            exact W.zret (v := 1) hx hb hr (rfl) (fun t ht hW => ⟨_, rfl, by simp [m_uns, eq_false c_1, eq_true c_11, eq_false c_20, eq_true c_22], ht⟩) (fun q h => by cases h) d_Cell_isUnsafe_66
          · exact absurd c_23 (by decide)
        · refine lv_iconst (v := 1) hx hb d_Cell_isUnsafe_47 (by decide) ?_
          refine lv_goto (tgt := 52) hx hb d_Cell_isUnsafe_48 (by decide) ?_
          refine lv_istore_n (lv' := [(2, .int 1), (1, .int 1), (0, .ref h0)]) hx hb d_Cell_isUnsafe_52 rfl hl (by decide) rfl (fun ls hl => ?_)
          refine lv_iload_n hx hb d_Cell_isUnsafe_53 rfl (lv_at hl 1 rfl) ?_
          refine lv_if_ne (tgt := 61) hx hb d_Cell_isUnsafe_54 (by decide) (fun c_24 => ?_) (fun c_24 => ?_)
          · refine lv_iconst (v := 1) hx hb d_Cell_isUnsafe_61 (by decide) ?_
            refine lv_goto (tgt := 66) hx hb d_Cell_isUnsafe_62 (by decide) ?_
            exact W.zret (v := 1) hx hb hr (rfl) (fun t ht hW => ⟨_, rfl, by simp [m_uns, eq_false c_1, eq_true c_11, eq_false c_20, eq_false c_22], ht⟩) (fun q h => by cases h) d_Cell_isUnsafe_66
          · exact absurd c_24 (by decide)

set_option maxHeartbeats 4000000 in
set_option maxRecDepth 100000 in
/-- addStep -/
theorem c_Cell_addStep (l : Launch) (D : va_G)  (h0 : Nat) (f0 : Int32) (f1 : Int32) (f2 : Int64) (f3 : Int32) (f4 : Int32) (f5 : Int32) (f6 : Int32) (f7 : Int32) (f8 : Int32) (f9 : Int32) (f10 : Int32) (f11 : Int32) (p0 : Int32) (p1 : Int32) (p2 : Int32) (sz : Nat)  : Met l y_Cell_addStep ws_Cell_addStep ({ frames := 1, cells := 0, slots := 0, locals := 25 }) (va_Pc [.ref h0, .int p0, .int p1, .int p2] (cx_pre D [] ([(h0, .inr (0, [.int f0, .int f1, .long f2, .int f3, .int f4, .int f5, .int f6, .int f7, .int f8, .int f9, .int f10, .int f11]))]) sz)) (va_Qi (fun r9 _ => r9 = (m_addStep f0 f1 f2 f3 f4 f5 f6 f7 f8 f9 f10 f11 p0 p1 p2).1) (fun (_ : Unit) t => cx_end D [] (va_A ([(h0, .inr (0, [.int f0, .int f1, .long f2, .int f3, .int f4, .int f5, .int f6, .int f7, .int f8, .int f9, .int f10, .int f11]))]) sz) ([(h0, .inr (0, [.int ((m_addStep f0 f1 f2 f3 f4 f5 f6 f7 f8 f9 f10 f11 p0 p1 p2).2.1), .int ((m_addStep f0 f1 f2 f3 f4 f5 f6 f7 f8 f9 f10 f11 p0 p1 p2).2.2.1), .long ((m_addStep f0 f1 f2 f3 f4 f5 f6 f7 f8 f9 f10 f11 p0 p1 p2).2.2.2.1), .int ((m_addStep f0 f1 f2 f3 f4 f5 f6 f7 f8 f9 f10 f11 p0 p1 p2).2.2.2.2.1), .int ((m_addStep f0 f1 f2 f3 f4 f5 f6 f7 f8 f9 f10 f11 p0 p1 p2).2.2.2.2.2.1), .int ((m_addStep f0 f1 f2 f3 f4 f5 f6 f7 f8 f9 f10 f11 p0 p1 p2).2.2.2.2.2.2.1), .int ((m_addStep f0 f1 f2 f3 f4 f5 f6 f7 f8 f9 f10 f11 p0 p1 p2).2.2.2.2.2.2.2.1), .int ((m_addStep f0 f1 f2 f3 f4 f5 f6 f7 f8 f9 f10 f11 p0 p1 p2).2.2.2.2.2.2.2.2.1), .int ((m_addStep f0 f1 f2 f3 f4 f5 f6 f7 f8 f9 f10 f11 p0 p1 p2).2.2.2.2.2.2.2.2.2.1), .int ((m_addStep f0 f1 f2 f3 f4 f5 f6 f7 f8 f9 f10 f11 p0 p1 p2).2.2.2.2.2.2.2.2.2.2.1), .int ((m_addStep f0 f1 f2 f3 f4 f5 f6 f7 f8 f9 f10 f11 p0 p1 p2).2.2.2.2.2.2.2.2.2.2.2.1), .int ((m_addStep f0 f1 f2 f3 f4 f5 f6 f7 f8 f9 f10 f11 p0 p1 p2).2.2.2.2.2.2.2.2.2.2.2.2)]))]) t) (va_A ([(h0, .inr (0, [.int f0, .int f1, .long f2, .int f3, .int f4, .int f5, .int f6, .int f7, .int f8, .int f9, .int f10, .int f11]))]) sz)) 0 0 (va_A ([(h0, .inr (0, [.int f0, .int f1, .long f2, .int f3, .int f4, .int f5, .int f6, .int f7, .int f8, .int f9, .int f10, .int f11]))]) sz) := by
  refine Met.ofW (cc := b_Cell_addStep) (maxL := 4) (ret := (some .boolean)) (by decide) rfl ?_
  intro p e s m args below meth c s₁ B hml hv
  obtain ⟨rfl, hsz, hP, hK, hD0, hN, hO⟩ := hv
  have hx := B.exec
  have hb := B.bytes
  have hr := B.returns
  have hts := fun (w : Cond) (h : w ∈ cx_tbl) => atoms_spec (ws := ws_Cell_addStep) B.pre w (List.mem_cons_of_mem _ h)
  have hown : s.vm.findClass R_Cell = some m.cls := findClass_of_methodNamed B.named
  have hlocks := B.notSynchronized
  subst hsz
  have hD := hD0.self (sz := s.heap.size)
  generalize hAe : va_A ([(h0, .inr (0, [.int f0, .int f1, .long f2, .int f3, .int f4, .int f5, .int f6, .int f7, .int f8, .int f9, .int f10, .int f11]))]) s.heap.size = A at hD hO ⊢
  have hA : ∀ q : Nat, s.heap.size ≤ q → A q := fun q h => by rw [← hAe]; exact Or.inr h
  have hS : va_S A s.heap s.heap [] := va_S.rf
  have hl := lv_entry ([.ref h0, .int p0, .int p1, .int p2]) (n := 4) (Nat.le_of_ble_eq_true rfl)
  rw [lg_entry_eq]
  generalize (lg_sl ([.ref h0, .int p0, .int p1, .int p2]) ++ List.replicate (4 - (lg_sl ([.ref h0, .int p0, .int p1, .int p2])).length) Slot.unset).toArray = ls at hl ⊢
  have hl : lv_has ls 4 [(0, .ref h0), (1, .int p0), (2, .int p1), (3, .int p2)] := hl
  refine lv_aload_n hx hb d_Cell_addStep_0 rfl (lv_at hl 0 rfl) ?_
  refine va_get (D := D) (ci := 0) (v := .int f1) (C := R_Cell) (T := T_Cell) (N := 12) hx hb hts in_Cell hown hK hP 0 rfl rfl 1 (by decide) (hts _ cw_213) (fun _ h9 => h9) rfl d_Cell_addStep_1 ?_
  refine lv_bipush (v := 30) hx hb d_Cell_addStep_4 (by decide) ?_
  refine lv_icmp_ge (tgt := 47) hx hb d_Cell_addStep_6 (by decide) (fun c_1 => ?_) (fun c_1 => ?_)
  · refine lv_iconst (v := 0) hx hb d_Cell_addStep_47 (by decide) ?_
    have hm : m_addStep f0 f1 f2 f3 f4 f5 f6 f7 f8 f9 f10 f11 p0 p1 p2 = (0, f0, f1, f2, f3, f4, f5, f6, f7, f8, f9, f10, f11) := by simp [m_addStep, eq_true c_1]
    rw [hm]
    have hP9 := hP.sub (ws' := [(h0, .inr (0, [.int f0, .int f1, .long f2, .int f3, .int f4, .int f5, .int f6, .int f7, .int f8, .int f9, .int f10, .int f11]))]) [0] rfl
    have hD9 := hD.sub (ws' := [(h0, .inr (0, [.int f0, .int f1, .long f2, .int f3, .int f4, .int f5, .int f6, .int f7, .int f8, .int f9, .int f10, .int f11]))]) [0] (by decide) rfl
    have hK9 := hK.sub (tys' := []) [] rfl
    exact W.zret (v := 0) hx hb hr (rfl) (fun t ht hW => ⟨⟨_, (), rfl, rfl, by rw [ht]; exact hP9, va_K.moved hW.alike hK9, hD9⟩, hS.F ht⟩) hS.2.2 d_Cell_addStep_48
  · refine lv_iload_n hx hb d_Cell_addStep_9 rfl (lv_at hl 1 rfl) ?_
    refine lv_i2l hx hb d_Cell_addStep_10 rfl ?_
    refine lv_lconst (v := 1) hx hb d_Cell_addStep_11 (by decide) ?_
    refine lv_ldc2 (v := 100000) hx hb hown (hts _ cw_282) d_Cell_addStep_12 ?_
    have hPc := hP.sub (ws' := []) [] rfl
    have hDc := hD.sub (ws' := []) [] (by decide) rfl
    have hKc := hK.sub (tys' := []) [] rfl
    have hFc := va_free (wc := []) hD hS hA [] rfl
    refine vp_callSi (va_Run.run (va_runSN (As := [.long p0.toInt64, .long 1, .long 100000]) (rest := [])  ⟨hx, hb, hml, hown, hts⟩ (c_Ct_isWithin l D p0.toInt64 1 100000 s.heap.size ) ⟨va_cnB 3 hts cg_Ct_isWithin rfl rfl rfl (hN _ cn_283) (hts _ cw_1) (by decide +kernel) ⟨Nat.le_of_ble_eq_true rfl, Nat.le_of_ble_eq_true rfl⟩, hts _ cw_268, trivial⟩ (cx_preS [.long p0.toInt64, .long 1, .long 100000] hPc hKc hDc hN hO hS hFc) rfl rfl hl.1 rfl (lv_room (Nat.le_of_ble_eq_true rfl)) d_Cell_addStep_15 ⟨Nat.le_of_ble_eq_true rfl, Nat.le_of_ble_eq_true rfl⟩)) (fun r z_2 => ?_)
    subst z_2
    refine lv_if_eq (tgt := 47) hx hb d_Cell_addStep_18 (by decide) (fun c_3 => ?_) (fun c_3 => ?_)
    · refine lv_iconst (v := 0) hx hb d_Cell_addStep_47 (by decide) ?_
      have hm : m_addStep f0 f1 f2 f3 f4 f5 f6 f7 f8 f9 f10 f11 p0 p1 p2 = (0, f0, f1, f2, f3, f4, f5, f6, f7, f8, f9, f10, f11) := by simp [m_addStep, eq_false c_1, eq_true c_3]
      rw [hm]
      have hP9 := hP.sub (ws' := [(h0, .inr (0, [.int f0, .int f1, .long f2, .int f3, .int f4, .int f5, .int f6, .int f7, .int f8, .int f9, .int f10, .int f11]))]) [0] rfl
      have hD9 := hD.sub (ws' := [(h0, .inr (0, [.int f0, .int f1, .long f2, .int f3, .int f4, .int f5, .int f6, .int f7, .int f8, .int f9, .int f10, .int f11]))]) [0] (by decide) rfl
      have hK9 := hK.sub (tys' := []) [] rfl
      exact W.zret (v := 0) hx hb hr (rfl) (fun t ht hW => ⟨⟨_, (), rfl, rfl, by rw [ht]; exact hP9, va_K.moved hW.alike hK9, hD9⟩, hS.F ht⟩) hS.2.2 d_Cell_addStep_48
    · refine lv_iload_n hx hb d_Cell_addStep_21 rfl (lv_at hl 2 rfl) ?_
      refine lv_i2l hx hb d_Cell_addStep_22 rfl ?_
      refine lv_ldc2 (v := (-100000)) hx hb hown (hts _ cw_284) d_Cell_addStep_23 ?_
      refine lv_ldc2 (v := 100000) hx hb hown (hts _ cw_282) d_Cell_addStep_26 ?_
      have hPc := hP.sub (ws' := []) [] rfl
      have hDc := hD.sub (ws' := []) [] (by decide) rfl
      have hKc := hK.sub (tys' := []) [] rfl
      have hFc := va_free (wc := []) hD hS hA [] rfl
      refine vp_callSi (va_Run.run (va_runSN (As := [.long p1.toInt64, .long (-100000), .long 100000]) (rest := [])  ⟨hx, hb, hml, hown, hts⟩ (c_Ct_isWithin l D p1.toInt64 (-100000) 100000 s.heap.size ) ⟨va_cnB 3 hts cg_Ct_isWithin rfl rfl rfl (hN _ cn_283) (hts _ cw_1) (by decide +kernel) ⟨Nat.le_of_ble_eq_true rfl, Nat.le_of_ble_eq_true rfl⟩, hts _ cw_268, trivial⟩ (cx_preS [.long p1.toInt64, .long (-100000), .long 100000] hPc hKc hDc hN hO hS hFc) rfl rfl hl.1 rfl (lv_room (Nat.le_of_ble_eq_true rfl)) d_Cell_addStep_29 ⟨Nat.le_of_ble_eq_true rfl, Nat.le_of_ble_eq_true rfl⟩)) (fun r z_4 => ?_)
      subst z_4
      refine lv_if_eq (tgt := 47) hx hb d_Cell_addStep_32 (by decide) (fun c_5 => ?_) (fun c_5 => ?_)
      · refine lv_iconst (v := 0) hx hb d_Cell_addStep_47 (by decide) ?_
        have hm : m_addStep f0 f1 f2 f3 f4 f5 f6 f7 f8 f9 f10 f11 p0 p1 p2 = (0, f0, f1, f2, f3, f4, f5, f6, f7, f8, f9, f10, f11) := by simp [m_addStep, eq_false c_1, eq_false c_3, eq_true c_5]
        rw [hm]
        have hP9 := hP.sub (ws' := [(h0, .inr (0, [.int f0, .int f1, .long f2, .int f3, .int f4, .int f5, .int f6, .int f7, .int f8, .int f9, .int f10, .int f11]))]) [0] rfl
        have hD9 := hD.sub (ws' := [(h0, .inr (0, [.int f0, .int f1, .long f2, .int f3, .int f4, .int f5, .int f6, .int f7, .int f8, .int f9, .int f10, .int f11]))]) [0] (by decide) rfl
        have hK9 := hK.sub (tys' := []) [] rfl
        exact W.zret (v := 0) hx hb hr (rfl) (fun t ht hW => ⟨⟨_, (), rfl, rfl, by rw [ht]; exact hP9, va_K.moved hW.alike hK9, hD9⟩, hS.F ht⟩) hS.2.2 d_Cell_addStep_48
      · refine lv_iload_n hx hb d_Cell_addStep_35 rfl (lv_at hl 3 rfl) ?_
        refine lv_i2l hx hb d_Cell_addStep_36 rfl ?_
        refine lv_lconst (v := 0) hx hb d_Cell_addStep_37 (by decide) ?_
        refine lv_ldc2 (v := 10000) hx hb hown (hts _ cw_285) d_Cell_addStep_38 ?_
        have hPc := hP.sub (ws' := []) [] rfl
        have hDc := hD.sub (ws' := []) [] (by decide) rfl
        have hKc := hK.sub (tys' := []) [] rfl
        have hFc := va_free (wc := []) hD hS hA [] rfl
        refine vp_callSi (va_Run.run (va_runSN (As := [.long p2.toInt64, .long 0, .long 10000]) (rest := [])  ⟨hx, hb, hml, hown, hts⟩ (c_Ct_isWithin l D p2.toInt64 0 10000 s.heap.size ) ⟨va_cnB 3 hts cg_Ct_isWithin rfl rfl rfl (hN _ cn_283) (hts _ cw_1) (by decide +kernel) ⟨Nat.le_of_ble_eq_true rfl, Nat.le_of_ble_eq_true rfl⟩, hts _ cw_268, trivial⟩ (cx_preS [.long p2.toInt64, .long 0, .long 10000] hPc hKc hDc hN hO hS hFc) rfl rfl hl.1 rfl (lv_room (Nat.le_of_ble_eq_true rfl)) d_Cell_addStep_41 ⟨Nat.le_of_ble_eq_true rfl, Nat.le_of_ble_eq_true rfl⟩)) (fun r z_6 => ?_)
        subst z_6
        refine lv_if_ne (tgt := 49) hx hb d_Cell_addStep_44 (by decide) (fun c_7 => ?_) (fun c_7 => ?_)
        · refine lv_aload_n hx hb d_Cell_addStep_49 rfl (lv_at hl 0 rfl) ?_
          refine va_get (D := D) (ci := 0) (v := .int f1) (C := R_Cell) (T := T_Cell) (N := 12) hx hb hts in_Cell hown hK hP 0 rfl rfl 1 (by decide) (hts _ cw_213) (fun _ h9 => h9) rfl d_Cell_addStep_50 ?_
          refine lv_if_le (tgt := 90) hx hb d_Cell_addStep_53 (by decide) (fun c_8 => ?_) (fun c_8 => ?_)
          · refine lv_aload_n hx hb d_Cell_addStep_90 rfl (lv_at hl 0 rfl) ?_
            refine lv_dup hx hb d_Cell_addStep_91 rfl ?_
            refine va_get (D := D) (ci := 0) (v := .long f2) (C := R_Cell) (T := T_Cell) (N := 12) hx hb hts in_Cell hown hK hP 0 rfl rfl 2 (by decide) (hts _ cw_214) (fun _ h9 => h9) rfl d_Cell_addStep_92 ?_
            refine lv_iload_n hx hb d_Cell_addStep_95 rfl (lv_at hl 1 rfl) ?_
            refine lv_i2l hx hb d_Cell_addStep_96 rfl ?_
            refine lv_iload_n hx hb d_Cell_addStep_97 rfl (lv_at hl 2 rfl) ?_
            refine lv_i2l hx hb d_Cell_addStep_98 rfl ?_
            refine lv_lmul hx hb d_Cell_addStep_99 ?_
            refine lv_ladd hx hb d_Cell_addStep_100 ?_
            refine va_put (D := D) (ci := 0) (v := .long (f2 + (p0.toInt64 * p1.toInt64))) (ty := .long) (C := R_Cell) (T := T_Cell) (N := 12) hx hb hts in_Cell ty_Cell tyok_Cell nm_Cell hown hK hP hD hS 0 rfl rfl 2 (by decide) (hts _ cw_214) (fun _ h9 => h9) rfl (by decide +kernel) rfl rfl (Nat.le_of_ble_eq_true rfl) d_Cell_addStep_101 (fun H locs hP hD hS => ?_)
            have hP : va_P D classes ([(h0, .inr (0, [.int f0, .int f1, .long (f2 + (p0.toInt64 * p1.toInt64)), .int f3, .int f4, .int f5, .int f6, .int f7, .int f8, .int f9, .int f10, .int f11]))]) H := hP
            have hD : va_D A ([(h0, .inr (0, [.int f0, .int f1, .long (f2 + (p0.toInt64 * p1.toInt64)), .int f3, .int f4, .int f5, .int f6, .int f7, .int f8, .int f9, .int f10, .int f11]))]) := hD
            refine lv_aload_n hx hb d_Cell_addStep_104 rfl (lv_at hl 0 rfl) ?_
            refine lv_iload_n hx hb d_Cell_addStep_105 rfl (lv_at hl 2 rfl) ?_
            refine va_put (D := D) (ci := 0) (v := .int p1) (ty := .int) (C := R_Cell) (T := T_Cell) (N := 12) hx hb hts in_Cell ty_Cell tyok_Cell nm_Cell hown hK hP hD hS 0 rfl rfl 3 (by decide) (hts _ cw_215) (fun _ h9 => h9) rfl (by decide +kernel) rfl rfl (Nat.le_of_ble_eq_true rfl) d_Cell_addStep_106 (fun H locs hP hD hS => ?_)
            have hP : va_P D classes ([(h0, .inr (0, [.int f0, .int f1, .long (f2 + (p0.toInt64 * p1.toInt64)), .int p1, .int f4, .int f5, .int f6, .int f7, .int f8, .int f9, .int f10, .int f11]))]) H := hP
            have hD : va_D A ([(h0, .inr (0, [.int f0, .int f1, .long (f2 + (p0.toInt64 * p1.toInt64)), .int p1, .int f4, .int f5, .int f6, .int f7, .int f8, .int f9, .int f10, .int f11]))]) := hD
            refine lv_aload_n hx hb d_Cell_addStep_109 rfl (lv_at hl 0 rfl) ?_
            refine lv_iload_n hx hb d_Cell_addStep_110 rfl (lv_at hl 3 rfl) ?_
            refine va_put (D := D) (ci := 0) (v := .int p2) (ty := .int) (C := R_Cell) (T := T_Cell) (N := 12) hx hb hts in_Cell ty_Cell tyok_Cell nm_Cell hown hK hP hD hS 0 rfl rfl 4 (by decide) (hts _ cw_216) (fun _ h9 => h9) rfl (by decide +kernel) rfl rfl (Nat.le_of_ble_eq_true rfl) d_Cell_addStep_111 (fun H locs hP hD hS => ?_)
            have hP : va_P D classes ([(h0, .inr (0, [.int f0, .int f1, .long (f2 + (p0.toInt64 * p1.toInt64)), .int p1, .int p2, .int f5, .int f6, .int f7, .int f8, .int f9, .int f10, .int f11]))]) H := hP
            have hD : va_D A ([(h0, .inr (0, [.int f0, .int f1, .long (f2 + (p0.toInt64 * p1.toInt64)), .int p1, .int p2, .int f5, .int f6, .int f7, .int f8, .int f9, .int f10, .int f11]))]) := hD
            refine lv_aload_n hx hb d_Cell_addStep_114 rfl (lv_at hl 0 rfl) ?_
            refine lv_dup hx hb d_Cell_addStep_115 rfl ?_
            refine va_get (D := D) (ci := 0) (v := .int f1) (C := R_Cell) (T := T_Cell) (N := 12) hx hb hts in_Cell hown hK hP 0 rfl rfl 1 (by decide) (hts _ cw_213) (fun _ h9 => h9) rfl d_Cell_addStep_116 ?_
            refine lv_iconst (v := 1) hx hb d_Cell_addStep_119 (by decide) ?_
            refine lv_iadd hx hb d_Cell_addStep_120 ?_
            refine va_put (D := D) (ci := 0) (v := .int (f1 + 1)) (ty := .int) (C := R_Cell) (T := T_Cell) (N := 12) hx hb hts in_Cell ty_Cell tyok_Cell nm_Cell hown hK hP hD hS 0 rfl rfl 1 (by decide) (hts _ cw_213) (fun _ h9 => h9) rfl (by decide +kernel) rfl rfl (Nat.le_of_ble_eq_true rfl) d_Cell_addStep_121 (fun H locs hP hD hS => ?_)
            have hP : va_P D classes ([(h0, .inr (0, [.int f0, .int (f1 + 1), .long (f2 + (p0.toInt64 * p1.toInt64)), .int p1, .int p2, .int f5, .int f6, .int f7, .int f8, .int f9, .int f10, .int f11]))]) H := hP
            have hD : va_D A ([(h0, .inr (0, [.int f0, .int (f1 + 1), .long (f2 + (p0.toInt64 * p1.toInt64)), .int p1, .int p2, .int f5, .int f6, .int f7, .int f8, .int f9, .int f10, .int f11]))]) := hD
            refine lv_iconst (v := 1) hx hb d_Cell_addStep_124 (by decide) ?_
            have hm : m_addStep f0 f1 f2 f3 f4 f5 f6 f7 f8 f9 f10 f11 p0 p1 p2 = (1, f0, f1 + 1, f2 + (p0.toInt64 * p1.toInt64), p1, p2, f5, f6, f7, f8, f9, f10, f11) := by simp [m_addStep, eq_false c_1, eq_false c_3, eq_false c_5, eq_false c_7, eq_true c_8]
            rw [hm]
            have hP9 := hP.sub (ws' := [(h0, .inr (0, [.int f0, .int (f1 + 1), .long (f2 + (p0.toInt64 * p1.toInt64)), .int p1, .int p2, .int f5, .int f6, .int f7, .int f8, .int f9, .int f10, .int f11]))]) [0] rfl
            have hD9 := hD.sub (ws' := [(h0, .inr (0, [.int f0, .int (f1 + 1), .long (f2 + (p0.toInt64 * p1.toInt64)), .int p1, .int p2, .int f5, .int f6, .int f7, .int f8, .int f9, .int f10, .int f11]))]) [0] (by decide) rfl
            have hK9 := hK.sub (tys' := []) [] rfl
            exact W.zret (v := 1) hx hb hr (rfl) (fun t ht hW => ⟨⟨_, (), rfl, rfl, by rw [ht]; exact hP9, va_K.moved hW.alike hK9, hD9⟩, hS.F ht⟩) hS.2.2 d_Cell_addStep_125
          · refine lv_iload_n hx hb d_Cell_addStep_56 rfl (lv_at hl 2 rfl) ?_
            refine lv_aload_n hx hb d_Cell_addStep_57 rfl (lv_at hl 0 rfl) ?_
            refine va_get (D := D) (ci := 0) (v := .int f3) (C := R_Cell) (T := T_Cell) (N := 12) hx hb hts in_Cell hown hK hP 0 rfl rfl 3 (by decide) (hts _ cw_215) (fun _ h9 => h9) rfl d_Cell_addStep_58 ?_
            refine lv_icmp_eq (tgt := 90) hx hb d_Cell_addStep_61 (by decide) (fun c_9 => ?_) (fun c_9 => ?_)
            · refine lv_aload_n hx hb d_Cell_addStep_90 rfl (lv_at hl 0 rfl) ?_
              refine lv_dup hx hb d_Cell_addStep_91 rfl ?_
              refine va_get (D := D) (ci := 0) (v := .long f2) (C := R_Cell) (T := T_Cell) (N := 12) hx hb hts in_Cell hown hK hP 0 rfl rfl 2 (by decide) (hts _ cw_214) (fun _ h9 => h9) rfl d_Cell_addStep_92 ?_
              refine lv_iload_n hx hb d_Cell_addStep_95 rfl (lv_at hl 1 rfl) ?_
              refine lv_i2l hx hb d_Cell_addStep_96 rfl ?_
              refine lv_iload_n hx hb d_Cell_addStep_97 rfl (lv_at hl 2 rfl) ?_
              refine lv_i2l hx hb d_Cell_addStep_98 rfl ?_
              refine lv_lmul hx hb d_Cell_addStep_99 ?_
              refine lv_ladd hx hb d_Cell_addStep_100 ?_
              refine va_put (D := D) (ci := 0) (v := .long (f2 + (p0.toInt64 * p1.toInt64))) (ty := .long) (C := R_Cell) (T := T_Cell) (N := 12) hx hb hts in_Cell ty_Cell tyok_Cell nm_Cell hown hK hP hD hS 0 rfl rfl 2 (by decide) (hts _ cw_214) (fun _ h9 => h9) rfl (by decide +kernel) rfl rfl (Nat.le_of_ble_eq_true rfl) d_Cell_addStep_101 (fun H locs hP hD hS => ?_)
              have hP : va_P D classes ([(h0, .inr (0, [.int f0, .int f1, .long (f2 + (p0.toInt64 * p1.toInt64)), .int f3, .int f4, .int f5, .int f6, .int f7, .int f8, .int f9, .int f10, .int f11]))]) H := hP
              have hD : va_D A ([(h0, .inr (0, [.int f0, .int f1, .long (f2 + (p0.toInt64 * p1.toInt64)), .int f3, .int f4, .int f5, .int f6, .int f7, .int f8, .int f9, .int f10, .int f11]))]) := hD
              refine lv_aload_n hx hb d_Cell_addStep_104 rfl (lv_at hl 0 rfl) ?_
              refine lv_iload_n hx hb d_Cell_addStep_105 rfl (lv_at hl 2 rfl) ?_
              refine va_put (D := D) (ci := 0) (v := .int p1) (ty := .int) (C := R_Cell) (T := T_Cell) (N := 12) hx hb hts in_Cell ty_Cell tyok_Cell nm_Cell hown hK hP hD hS 0 rfl rfl 3 (by decide) (hts _ cw_215) (fun _ h9 => h9) rfl (by decide +kernel) rfl rfl (Nat.le_of_ble_eq_true rfl) d_Cell_addStep_106 (fun H locs hP hD hS => ?_)
              have hP : va_P D classes ([(h0, .inr (0, [.int f0, .int f1, .long (f2 + (p0.toInt64 * p1.toInt64)), .int p1, .int f4, .int f5, .int f6, .int f7, .int f8, .int f9, .int f10, .int f11]))]) H := hP
              have hD : va_D A ([(h0, .inr (0, [.int f0, .int f1, .long (f2 + (p0.toInt64 * p1.toInt64)), .int p1, .int f4, .int f5, .int f6, .int f7, .int f8, .int f9, .int f10, .int f11]))]) := hD
              refine lv_aload_n hx hb d_Cell_addStep_109 rfl (lv_at hl 0 rfl) ?_
              refine lv_iload_n hx hb d_Cell_addStep_110 rfl (lv_at hl 3 rfl) ?_
              refine va_put (D := D) (ci := 0) (v := .int p2) (ty := .int) (C := R_Cell) (T := T_Cell) (N := 12) hx hb hts in_Cell ty_Cell tyok_Cell nm_Cell hown hK hP hD hS 0 rfl rfl 4 (by decide) (hts _ cw_216) (fun _ h9 => h9) rfl (by decide +kernel) rfl rfl (Nat.le_of_ble_eq_true rfl) d_Cell_addStep_111 (fun H locs hP hD hS => ?_)
              have hP : va_P D classes ([(h0, .inr (0, [.int f0, .int f1, .long (f2 + (p0.toInt64 * p1.toInt64)), .int p1, .int p2, .int f5, .int f6, .int f7, .int f8, .int f9, .int f10, .int f11]))]) H := hP
              have hD : va_D A ([(h0, .inr (0, [.int f0, .int f1, .long (f2 + (p0.toInt64 * p1.toInt64)), .int p1, .int p2, .int f5, .int f6, .int f7, .int f8, .int f9, .int f10, .int f11]))]) := hD
              refine lv_aload_n hx hb d_Cell_addStep_114 rfl (lv_at hl 0 rfl) ?_
              refine lv_dup hx hb d_Cell_addStep_115 rfl ?_
              refine va_get (D := D) (ci := 0) (v := .int f1) (C := R_Cell) (T := T_Cell) (N := 12) hx hb hts in_Cell hown hK hP 0 rfl rfl 1 (by decide) (hts _ cw_213) (fun _ h9 => h9) rfl d_Cell_addStep_116 ?_
              refine lv_iconst (v := 1) hx hb d_Cell_addStep_119 (by decide) ?_
              refine lv_iadd hx hb d_Cell_addStep_120 ?_
              refine va_put (D := D) (ci := 0) (v := .int (f1 + 1)) (ty := .int) (C := R_Cell) (T := T_Cell) (N := 12) hx hb hts in_Cell ty_Cell tyok_Cell nm_Cell hown hK hP hD hS 0 rfl rfl 1 (by decide) (hts _ cw_213) (fun _ h9 => h9) rfl (by decide +kernel) rfl rfl (Nat.le_of_ble_eq_true rfl) d_Cell_addStep_121 (fun H locs hP hD hS => ?_)
              have hP : va_P D classes ([(h0, .inr (0, [.int f0, .int (f1 + 1), .long (f2 + (p0.toInt64 * p1.toInt64)), .int p1, .int p2, .int f5, .int f6, .int f7, .int f8, .int f9, .int f10, .int f11]))]) H := hP
              have hD : va_D A ([(h0, .inr (0, [.int f0, .int (f1 + 1), .long (f2 + (p0.toInt64 * p1.toInt64)), .int p1, .int p2, .int f5, .int f6, .int f7, .int f8, .int f9, .int f10, .int f11]))]) := hD
              refine lv_iconst (v := 1) hx hb d_Cell_addStep_124 (by decide) ?_
              have hm : m_addStep f0 f1 f2 f3 f4 f5 f6 f7 f8 f9 f10 f11 p0 p1 p2 = (1, f0, f1 + 1, f2 + (p0.toInt64 * p1.toInt64), p1, p2, f5, f6, f7, f8, f9, f10, f11) := by simp [m_addStep, eq_false c_1, eq_false c_3, eq_false c_5, eq_false c_7, eq_false c_8, eq_true c_9]
              rw [hm]
              have hP9 := hP.sub (ws' := [(h0, .inr (0, [.int f0, .int (f1 + 1), .long (f2 + (p0.toInt64 * p1.toInt64)), .int p1, .int p2, .int f5, .int f6, .int f7, .int f8, .int f9, .int f10, .int f11]))]) [0] rfl
              have hD9 := hD.sub (ws' := [(h0, .inr (0, [.int f0, .int (f1 + 1), .long (f2 + (p0.toInt64 * p1.toInt64)), .int p1, .int p2, .int f5, .int f6, .int f7, .int f8, .int f9, .int f10, .int f11]))]) [0] (by decide) rfl
              have hK9 := hK.sub (tys' := []) [] rfl
              exact W.zret (v := 1) hx hb hr (rfl) (fun t ht hW => ⟨⟨_, (), rfl, rfl, by rw [ht]; exact hP9, va_K.moved hW.alike hK9, hD9⟩, hS.F ht⟩) hS.2.2 d_Cell_addStep_125
            · refine lv_aload_n hx hb d_Cell_addStep_64 rfl (lv_at hl 0 rfl) ?_
              refine lv_iload_n hx hb d_Cell_addStep_65 rfl (lv_at hl 3 rfl) ?_
              refine lv_aload_n hx hb d_Cell_addStep_66 rfl (lv_at hl 0 rfl) ?_
              refine va_get (D := D) (ci := 0) (v := .int f4) (C := R_Cell) (T := T_Cell) (N := 12) hx hb hts in_Cell hown hK hP 0 rfl rfl 4 (by decide) (hts _ cw_216) (fun _ h9 => h9) rfl d_Cell_addStep_67 ?_
              refine lv_isub hx hb d_Cell_addStep_70 ?_
              refine va_mabs hx hb (by rw [hml]; exact hl.1.symm) hown (hts _ cw_286) (hts _ cw_287) (hts _ cw_12) (hts _ cw_288) (Nat.le_of_ble_eq_true rfl) (Nat.le_of_ble_eq_true rfl) (Nat.le_of_ble_eq_true rfl) (Nat.le_of_ble_eq_true rfl) d_Cell_addStep_71 ?_
              refine va_put (D := D) (ci := 0) (v := .int (m_abs (p2 - f4))) (ty := .int) (C := R_Cell) (T := T_Cell) (N := 12) hx hb hts in_Cell ty_Cell tyok_Cell nm_Cell hown hK hP hD hS 0 rfl rfl 5 (by decide) (hts _ cw_217) (fun _ h9 => h9) rfl (by decide +kernel) rfl rfl (Nat.le_of_ble_eq_true rfl) d_Cell_addStep_74 (fun H locs hP hD hS => ?_)
              have hP : va_P D classes ([(h0, .inr (0, [.int f0, .int f1, .long f2, .int f3, .int f4, .int (m_abs (p2 - f4)), .int f6, .int f7, .int f8, .int f9, .int f10, .int f11]))]) H := hP
              have hD : va_D A ([(h0, .inr (0, [.int f0, .int f1, .long f2, .int f3, .int f4, .int (m_abs (p2 - f4)), .int f6, .int f7, .int f8, .int f9, .int f10, .int f11]))]) := hD
              refine lv_aload_n hx hb d_Cell_addStep_77 rfl (lv_at hl 0 rfl) ?_
              refine lv_iload_n hx hb d_Cell_addStep_78 rfl (lv_at hl 2 rfl) ?_
              refine lv_aload_n hx hb d_Cell_addStep_79 rfl (lv_at hl 0 rfl) ?_
              refine va_get (D := D) (ci := 0) (v := .int f3) (C := R_Cell) (T := T_Cell) (N := 12) hx hb hts in_Cell hown hK hP 0 rfl rfl 3 (by decide) (hts _ cw_215) (fun _ h9 => h9) rfl d_Cell_addStep_80 ?_
              refine lv_isub hx hb d_Cell_addStep_83 ?_
              refine va_mabs hx hb (by rw [hml]; exact hl.1.symm) hown (hts _ cw_286) (hts _ cw_287) (hts _ cw_12) (hts _ cw_288) (Nat.le_of_ble_eq_true rfl) (Nat.le_of_ble_eq_true rfl) (Nat.le_of_ble_eq_true rfl) (Nat.le_of_ble_eq_true rfl) d_Cell_addStep_84 ?_
              refine va_put (D := D) (ci := 0) (v := .int (m_abs (p1 - f3))) (ty := .int) (C := R_Cell) (T := T_Cell) (N := 12) hx hb hts in_Cell ty_Cell tyok_Cell nm_Cell hown hK hP hD hS 0 rfl rfl 6 (by decide) (hts _ cw_220) (fun _ h9 => h9) rfl (by decide +kernel) rfl rfl (Nat.le_of_ble_eq_true rfl) d_Cell_addStep_87 (fun H locs hP hD hS => ?_)
              have hP : va_P D classes ([(h0, .inr (0, [.int f0, .int f1, .long f2, .int f3, .int f4, .int (m_abs (p2 - f4)), .int (m_abs (p1 - f3)), .int f7, .int f8, .int f9, .int f10, .int f11]))]) H := hP
              have hD : va_D A ([(h0, .inr (0, [.int f0, .int f1, .long f2, .int f3, .int f4, .int (m_abs (p2 - f4)), .int (m_abs (p1 - f3)), .int f7, .int f8, .int f9, .int f10, .int f11]))]) := hD
              refine lv_aload_n hx hb d_Cell_addStep_90 rfl (lv_at hl 0 rfl) ?_
              refine lv_dup hx hb d_Cell_addStep_91 rfl ?_
              refine va_get (D := D) (ci := 0) (v := .long f2) (C := R_Cell) (T := T_Cell) (N := 12) hx hb hts in_Cell hown hK hP 0 rfl rfl 2 (by decide) (hts _ cw_214) (fun _ h9 => h9) rfl d_Cell_addStep_92 ?_
              refine lv_iload_n hx hb d_Cell_addStep_95 rfl (lv_at hl 1 rfl) ?_
              refine lv_i2l hx hb d_Cell_addStep_96 rfl ?_
              refine lv_iload_n hx hb d_Cell_addStep_97 rfl (lv_at hl 2 rfl) ?_
              refine lv_i2l hx hb d_Cell_addStep_98 rfl ?_
              refine lv_lmul hx hb d_Cell_addStep_99 ?_
              refine lv_ladd hx hb d_Cell_addStep_100 ?_
              refine va_put (D := D) (ci := 0) (v := .long (f2 + (p0.toInt64 * p1.toInt64))) (ty := .long) (C := R_Cell) (T := T_Cell) (N := 12) hx hb hts in_Cell ty_Cell tyok_Cell nm_Cell hown hK hP hD hS 0 rfl rfl 2 (by decide) (hts _ cw_214) (fun _ h9 => h9) rfl (by decide +kernel) rfl rfl (Nat.le_of_ble_eq_true rfl) d_Cell_addStep_101 (fun H locs hP hD hS => ?_)
              have hP : va_P D classes ([(h0, .inr (0, [.int f0, .int f1, .long (f2 + (p0.toInt64 * p1.toInt64)), .int f3, .int f4, .int (m_abs (p2 - f4)), .int (m_abs (p1 - f3)), .int f7, .int f8, .int f9, .int f10, .int f11]))]) H := hP
              have hD : va_D A ([(h0, .inr (0, [.int f0, .int f1, .long (f2 + (p0.toInt64 * p1.toInt64)), .int f3, .int f4, .int (m_abs (p2 - f4)), .int (m_abs (p1 - f3)), .int f7, .int f8, .int f9, .int f10, .int f11]))]) := hD
              refine lv_aload_n hx hb d_Cell_addStep_104 rfl (lv_at hl 0 rfl) ?_
              refine lv_iload_n hx hb d_Cell_addStep_105 rfl (lv_at hl 2 rfl) ?_
              refine va_put (D := D) (ci := 0) (v := .int p1) (ty := .int) (C := R_Cell) (T := T_Cell) (N := 12) hx hb hts in_Cell ty_Cell tyok_Cell nm_Cell hown hK hP hD hS 0 rfl rfl 3 (by decide) (hts _ cw_215) (fun _ h9 => h9) rfl (by decide +kernel) rfl rfl (Nat.le_of_ble_eq_true rfl) d_Cell_addStep_106 (fun H locs hP hD hS => ?_)
              have hP : va_P D classes ([(h0, .inr (0, [.int f0, .int f1, .long (f2 + (p0.toInt64 * p1.toInt64)), .int p1, .int f4, .int (m_abs (p2 - f4)), .int (m_abs (p1 - f3)), .int f7, .int f8, .int f9, .int f10, .int f11]))]) H := hP
              have hD : va_D A ([(h0, .inr (0, [.int f0, .int f1, .long (f2 + (p0.toInt64 * p1.toInt64)), .int p1, .int f4, .int (m_abs (p2 - f4)), .int (m_abs (p1 - f3)), .int f7, .int f8, .int f9, .int f10, .int f11]))]) := hD
              refine lv_aload_n hx hb d_Cell_addStep_109 rfl (lv_at hl 0 rfl) ?_
              refine lv_iload_n hx hb d_Cell_addStep_110 rfl (lv_at hl 3 rfl) ?_
              refine va_put (D := D) (ci := 0) (v := .int p2) (ty := .int) (C := R_Cell) (T := T_Cell) (N := 12) hx hb hts in_Cell ty_Cell tyok_Cell nm_Cell hown hK hP hD hS 0 rfl rfl 4 (by decide) (hts _ cw_216) (fun _ h9 => h9) rfl (by decide +kernel) rfl rfl (Nat.le_of_ble_eq_true rfl) d_Cell_addStep_111 (fun H locs hP hD hS => ?_)
              have hP : va_P D classes ([(h0, .inr (0, [.int f0, .int f1, .long (f2 + (p0.toInt64 * p1.toInt64)), .int p1, .int p2, .int (m_abs (p2 - f4)), .int (m_abs (p1 - f3)), .int f7, .int f8, .int f9, .int f10, .int f11]))]) H := hP
              have hD : va_D A ([(h0, .inr (0, [.int f0, .int f1, .long (f2 + (p0.toInt64 * p1.toInt64)), .int p1, .int p2, .int (m_abs (p2 - f4)), .int (m_abs (p1 - f3)), .int f7, .int f8, .int f9, .int f10, .int f11]))]) := hD
              refine lv_aload_n hx hb d_Cell_addStep_114 rfl (lv_at hl 0 rfl) ?_
              refine lv_dup hx hb d_Cell_addStep_115 rfl ?_
              refine va_get (D := D) (ci := 0) (v := .int f1) (C := R_Cell) (T := T_Cell) (N := 12) hx hb hts in_Cell hown hK hP 0 rfl rfl 1 (by decide) (hts _ cw_213) (fun _ h9 => h9) rfl d_Cell_addStep_116 ?_
              refine lv_iconst (v := 1) hx hb d_Cell_addStep_119 (by decide) ?_
              refine lv_iadd hx hb d_Cell_addStep_120 ?_
              refine va_put (D := D) (ci := 0) (v := .int (f1 + 1)) (ty := .int) (C := R_Cell) (T := T_Cell) (N := 12) hx hb hts in_Cell ty_Cell tyok_Cell nm_Cell hown hK hP hD hS 0 rfl rfl 1 (by decide) (hts _ cw_213) (fun _ h9 => h9) rfl (by decide +kernel) rfl rfl (Nat.le_of_ble_eq_true rfl) d_Cell_addStep_121 (fun H locs hP hD hS => ?_)
              have hP : va_P D classes ([(h0, .inr (0, [.int f0, .int (f1 + 1), .long (f2 + (p0.toInt64 * p1.toInt64)), .int p1, .int p2, .int (m_abs (p2 - f4)), .int (m_abs (p1 - f3)), .int f7, .int f8, .int f9, .int f10, .int f11]))]) H := hP
              have hD : va_D A ([(h0, .inr (0, [.int f0, .int (f1 + 1), .long (f2 + (p0.toInt64 * p1.toInt64)), .int p1, .int p2, .int (m_abs (p2 - f4)), .int (m_abs (p1 - f3)), .int f7, .int f8, .int f9, .int f10, .int f11]))]) := hD
              refine lv_iconst (v := 1) hx hb d_Cell_addStep_124 (by decide) ?_
              have hm : m_addStep f0 f1 f2 f3 f4 f5 f6 f7 f8 f9 f10 f11 p0 p1 p2 = (1, f0, f1 + 1, f2 + (p0.toInt64 * p1.toInt64), p1, p2, m_abs (p2 - f4), m_abs (p1 - f3), f7, f8, f9, f10, f11) := by simp [m_addStep, eq_false c_1, eq_false c_3, eq_false c_5, eq_false c_7, eq_false c_8, eq_false c_9]
              rw [hm]
              have hP9 := hP.sub (ws' := [(h0, .inr (0, [.int f0, .int (f1 + 1), .long (f2 + (p0.toInt64 * p1.toInt64)), .int p1, .int p2, .int (m_abs (p2 - f4)), .int (m_abs (p1 - f3)), .int f7, .int f8, .int f9, .int f10, .int f11]))]) [0] rfl
              have hD9 := hD.sub (ws' := [(h0, .inr (0, [.int f0, .int (f1 + 1), .long (f2 + (p0.toInt64 * p1.toInt64)), .int p1, .int p2, .int (m_abs (p2 - f4)), .int (m_abs (p1 - f3)), .int f7, .int f8, .int f9, .int f10, .int f11]))]) [0] (by decide) rfl
              have hK9 := hK.sub (tys' := []) [] rfl
              exact W.zret (v := 1) hx hb hr (rfl) (fun t ht hW => ⟨⟨_, (), rfl, rfl, by rw [ht]; exact hP9, va_K.moved hW.alike hK9, hD9⟩, hS.F ht⟩) hS.2.2 d_Cell_addStep_125
        · refine lv_iconst (v := 0) hx hb d_Cell_addStep_47 (by decide) ?_
          have hm : m_addStep f0 f1 f2 f3 f4 f5 f6 f7 f8 f9 f10 f11 p0 p1 p2 = (0, f0, f1, f2, f3, f4, f5, f6, f7, f8, f9, f10, f11) := by simp [m_addStep, eq_false c_1, eq_false c_3, eq_false c_5, eq_true c_7]
          rw [hm]
          have hP9 := hP.sub (ws' := [(h0, .inr (0, [.int f0, .int f1, .long f2, .int f3, .int f4, .int f5, .int f6, .int f7, .int f8, .int f9, .int f10, .int f11]))]) [0] rfl
          have hD9 := hD.sub (ws' := [(h0, .inr (0, [.int f0, .int f1, .long f2, .int f3, .int f4, .int f5, .int f6, .int f7, .int f8, .int f9, .int f10, .int f11]))]) [0] (by decide) rfl
          have hK9 := hK.sub (tys' := []) [] rfl
          exact W.zret (v := 0) hx hb hr (rfl) (fun t ht hW => ⟨⟨_, (), rfl, rfl, by rw [ht]; exact hP9, va_K.moved hW.alike hK9, hD9⟩, hS.F ht⟩) hS.2.2 d_Cell_addStep_48

set_option maxHeartbeats 4000000 in
set_option maxRecDepth 100000 in
/-- addRest -/
theorem c_Cell_addRest (l : Launch) (D : va_G)  (h0 : Nat) (f0 : Int32) (f1 : Int32) (f2 : Int64) (f3 : Int32) (f4 : Int32) (f5 : Int32) (f6 : Int32) (f7 : Int32) (f8 : Int32) (f9 : Int32) (f10 : Int32) (f11 : Int32) (p0 : Int32) (p1 : Int32) (sz : Nat)  : Met l y_Cell_addRest ws_Cell_addRest ({ frames := 1, cells := 0, slots := 0, locals := 25 }) (va_Pc [.ref h0, .int p0, .int p1] (cx_pre D [] ([(h0, .inr (0, [.int f0, .int f1, .long f2, .int f3, .int f4, .int f5, .int f6, .int f7, .int f8, .int f9, .int f10, .int f11]))]) sz)) (va_Qi (fun r9 _ => r9 = (m_addRest f0 f1 f2 f3 f4 f5 f6 f7 f8 f9 f10 f11 p0 p1).1) (fun (_ : Unit) t => cx_end D [] (va_A ([(h0, .inr (0, [.int f0, .int f1, .long f2, .int f3, .int f4, .int f5, .int f6, .int f7, .int f8, .int f9, .int f10, .int f11]))]) sz) ([(h0, .inr (0, [.int ((m_addRest f0 f1 f2 f3 f4 f5 f6 f7 f8 f9 f10 f11 p0 p1).2.1), .int ((m_addRest f0 f1 f2 f3 f4 f5 f6 f7 f8 f9 f10 f11 p0 p1).2.2.1), .long ((m_addRest f0 f1 f2 f3 f4 f5 f6 f7 f8 f9 f10 f11 p0 p1).2.2.2.1), .int ((m_addRest f0 f1 f2 f3 f4 f5 f6 f7 f8 f9 f10 f11 p0 p1).2.2.2.2.1), .int ((m_addRest f0 f1 f2 f3 f4 f5 f6 f7 f8 f9 f10 f11 p0 p1).2.2.2.2.2.1), .int ((m_addRest f0 f1 f2 f3 f4 f5 f6 f7 f8 f9 f10 f11 p0 p1).2.2.2.2.2.2.1), .int ((m_addRest f0 f1 f2 f3 f4 f5 f6 f7 f8 f9 f10 f11 p0 p1).2.2.2.2.2.2.2.1), .int ((m_addRest f0 f1 f2 f3 f4 f5 f6 f7 f8 f9 f10 f11 p0 p1).2.2.2.2.2.2.2.2.1), .int ((m_addRest f0 f1 f2 f3 f4 f5 f6 f7 f8 f9 f10 f11 p0 p1).2.2.2.2.2.2.2.2.2.1), .int ((m_addRest f0 f1 f2 f3 f4 f5 f6 f7 f8 f9 f10 f11 p0 p1).2.2.2.2.2.2.2.2.2.2.1), .int ((m_addRest f0 f1 f2 f3 f4 f5 f6 f7 f8 f9 f10 f11 p0 p1).2.2.2.2.2.2.2.2.2.2.2.1), .int ((m_addRest f0 f1 f2 f3 f4 f5 f6 f7 f8 f9 f10 f11 p0 p1).2.2.2.2.2.2.2.2.2.2.2.2)]))]) t) (va_A ([(h0, .inr (0, [.int f0, .int f1, .long f2, .int f3, .int f4, .int f5, .int f6, .int f7, .int f8, .int f9, .int f10, .int f11]))]) sz)) 0 0 (va_A ([(h0, .inr (0, [.int f0, .int f1, .long f2, .int f3, .int f4, .int f5, .int f6, .int f7, .int f8, .int f9, .int f10, .int f11]))]) sz) := by
  refine Met.ofW (cc := b_Cell_addRest) (maxL := 3) (ret := (some .boolean)) (by decide) rfl ?_
  intro p e s m args below meth c s₁ B hml hv
  obtain ⟨rfl, hsz, hP, hK, hD0, hN, hO⟩ := hv
  have hx := B.exec
  have hb := B.bytes
  have hr := B.returns
  have hts := fun (w : Cond) (h : w ∈ cx_tbl) => atoms_spec (ws := ws_Cell_addRest) B.pre w (List.mem_cons_of_mem _ h)
  have hown : s.vm.findClass R_Cell = some m.cls := findClass_of_methodNamed B.named
  have hlocks := B.notSynchronized
  subst hsz
  have hD := hD0.self (sz := s.heap.size)
  generalize hAe : va_A ([(h0, .inr (0, [.int f0, .int f1, .long f2, .int f3, .int f4, .int f5, .int f6, .int f7, .int f8, .int f9, .int f10, .int f11]))]) s.heap.size = A at hD hO ⊢
  have hA : ∀ q : Nat, s.heap.size ≤ q → A q := fun q h => by rw [← hAe]; exact Or.inr h
  have hS : va_S A s.heap s.heap [] := va_S.rf
  have hl := lv_entry ([.ref h0, .int p0, .int p1]) (n := 3) (Nat.le_of_ble_eq_true rfl)
  rw [lg_entry_eq]
  generalize (lg_sl ([.ref h0, .int p0, .int p1]) ++ List.replicate (3 - (lg_sl ([.ref h0, .int p0, .int p1])).length) Slot.unset).toArray = ls at hl ⊢
  have hl : lv_has ls 3 [(0, .ref h0), (1, .int p0), (2, .int p1)] := hl
  refine lv_aload_n hx hb d_Cell_addRest_0 rfl (lv_at hl 0 rfl) ?_
  refine va_get (D := D) (ci := 0) (v := .int f7) (C := R_Cell) (T := T_Cell) (N := 12) hx hb hts in_Cell hown hK hP 0 rfl rfl 7 (by decide) (hts _ cw_223) (fun _ h9 => h9) rfl d_Cell_addRest_1 ?_
  refine lv_bipush (v := 10) hx hb d_Cell_addRest_4 (by decide) ?_
  refine lv_icmp_ge (tgt := 48) hx hb d_Cell_addRest_6 (by decide) (fun c_1 => ?_) (fun c_1 => ?_)
  · refine lv_iconst (v := 0) hx hb d_Cell_addRest_48 (by decide) ?_
    have hm : m_addRest f0 f1 f2 f3 f4 f5 f6 f7 f8 f9 f10 f11 p0 p1 = (0, f0, f1, f2, f3, f4, f5, f6, f7, f8, f9, f10, f11) := by simp [m_addRest, eq_true c_1]
    rw [hm]
    have hP9 := hP.sub (ws' := [(h0, .inr (0, [.int f0, .int f1, .long f2, .int f3, .int f4, .int f5, .int f6, .int f7, .int f8, .int f9, .int f10, .int f11]))]) [0] rfl
    have hD9 := hD.sub (ws' := [(h0, .inr (0, [.int f0, .int f1, .long f2, .int f3, .int f4, .int f5, .int f6, .int f7, .int f8, .int f9, .int f10, .int f11]))]) [0] (by decide) rfl
    have hK9 := hK.sub (tys' := []) [] rfl
    exact W.zret (v := 0) hx hb hr (rfl) (fun t ht hW => ⟨⟨_, (), rfl, rfl, by rw [ht]; exact hP9, va_K.moved hW.alike hK9, hD9⟩, hS.F ht⟩) hS.2.2 d_Cell_addRest_49
  · refine lv_iload_n hx hb d_Cell_addRest_9 rfl (lv_at hl 1 rfl) ?_
    refine lv_i2l hx hb d_Cell_addRest_10 rfl ?_
    refine lv_lconst (v := 0) hx hb d_Cell_addRest_11 (by decide) ?_
    refine lv_ldc2 (v := 100000) hx hb hown (hts _ cw_282) d_Cell_addRest_12 ?_
    have hPc := hP.sub (ws' := []) [] rfl
    have hDc := hD.sub (ws' := []) [] (by decide) rfl
    have hKc := hK.sub (tys' := []) [] rfl
    have hFc := va_free (wc := []) hD hS hA [] rfl
    refine vp_callSi (va_Run.run (va_runSN (As := [.long p0.toInt64, .long 0, .long 100000]) (rest := [])  ⟨hx, hb, hml, hown, hts⟩ (c_Ct_isWithin l D p0.toInt64 0 100000 s.heap.size ) ⟨va_cnB 3 hts cg_Ct_isWithin rfl rfl rfl (hN _ cn_283) (hts _ cw_1) (by decide +kernel) ⟨Nat.le_of_ble_eq_true rfl, Nat.le_of_ble_eq_true rfl⟩, hts _ cw_268, trivial⟩ (cx_preS [.long p0.toInt64, .long 0, .long 100000] hPc hKc hDc hN hO hS hFc) rfl rfl hl.1 rfl (lv_room (Nat.le_of_ble_eq_true rfl)) d_Cell_addRest_15 ⟨Nat.le_of_ble_eq_true rfl, Nat.le_of_ble_eq_true rfl⟩)) (fun r z_2 => ?_)
    subst z_2
    refine lv_if_eq (tgt := 48) hx hb d_Cell_addRest_18 (by decide) (fun c_3 => ?_) (fun c_3 => ?_)
    · refine lv_iconst (v := 0) hx hb d_Cell_addRest_48 (by decide) ?_
      have hm : m_addRest f0 f1 f2 f3 f4 f5 f6 f7 f8 f9 f10 f11 p0 p1 = (0, f0, f1, f2, f3, f4, f5, f6, f7, f8, f9, f10, f11) := by simp [m_addRest, eq_false c_1, eq_true c_3]
      rw [hm]
      have hP9 := hP.sub (ws' := [(h0, .inr (0, [.int f0, .int f1, .long f2, .int f3, .int f4, .int f5, .int f6, .int f7, .int f8, .int f9, .int f10, .int f11]))]) [0] rfl
      have hD9 := hD.sub (ws' := [(h0, .inr (0, [.int f0, .int f1, .long f2, .int f3, .int f4, .int f5, .int f6, .int f7, .int f8, .int f9, .int f10, .int f11]))]) [0] (by decide) rfl
      have hK9 := hK.sub (tys' := []) [] rfl
      exact W.zret (v := 0) hx hb hr (rfl) (fun t ht hW => ⟨⟨_, (), rfl, rfl, by rw [ht]; exact hP9, va_K.moved hW.alike hK9, hD9⟩, hS.F ht⟩) hS.2.2 d_Cell_addRest_49
    · refine lv_iload_n hx hb d_Cell_addRest_21 rfl (lv_at hl 2 rfl) ?_
      refine lv_i2l hx hb d_Cell_addRest_22 rfl ?_
      refine lv_lconst (v := 0) hx hb d_Cell_addRest_23 (by decide) ?_
      refine lv_ldc2 (v := 10000) hx hb hown (hts _ cw_285) d_Cell_addRest_24 ?_
      have hPc := hP.sub (ws' := []) [] rfl
      have hDc := hD.sub (ws' := []) [] (by decide) rfl
      have hKc := hK.sub (tys' := []) [] rfl
      have hFc := va_free (wc := []) hD hS hA [] rfl
      refine vp_callSi (va_Run.run (va_runSN (As := [.long p1.toInt64, .long 0, .long 10000]) (rest := [])  ⟨hx, hb, hml, hown, hts⟩ (c_Ct_isWithin l D p1.toInt64 0 10000 s.heap.size ) ⟨va_cnB 3 hts cg_Ct_isWithin rfl rfl rfl (hN _ cn_283) (hts _ cw_1) (by decide +kernel) ⟨Nat.le_of_ble_eq_true rfl, Nat.le_of_ble_eq_true rfl⟩, hts _ cw_268, trivial⟩ (cx_preS [.long p1.toInt64, .long 0, .long 10000] hPc hKc hDc hN hO hS hFc) rfl rfl hl.1 rfl (lv_room (Nat.le_of_ble_eq_true rfl)) d_Cell_addRest_27 ⟨Nat.le_of_ble_eq_true rfl, Nat.le_of_ble_eq_true rfl⟩)) (fun r z_4 => ?_)
      subst z_4
      refine lv_if_eq (tgt := 48) hx hb d_Cell_addRest_30 (by decide) (fun c_5 => ?_) (fun c_5 => ?_)
      · refine lv_iconst (v := 0) hx hb d_Cell_addRest_48 (by decide) ?_
        have hm : m_addRest f0 f1 f2 f3 f4 f5 f6 f7 f8 f9 f10 f11 p0 p1 = (0, f0, f1, f2, f3, f4, f5, f6, f7, f8, f9, f10, f11) := by simp [m_addRest, eq_false c_1, eq_false c_3, eq_true c_5]
        rw [hm]
        have hP9 := hP.sub (ws' := [(h0, .inr (0, [.int f0, .int f1, .long f2, .int f3, .int f4, .int f5, .int f6, .int f7, .int f8, .int f9, .int f10, .int f11]))]) [0] rfl
        have hD9 := hD.sub (ws' := [(h0, .inr (0, [.int f0, .int f1, .long f2, .int f3, .int f4, .int f5, .int f6, .int f7, .int f8, .int f9, .int f10, .int f11]))]) [0] (by decide) rfl
        have hK9 := hK.sub (tys' := []) [] rfl
        exact W.zret (v := 0) hx hb hr (rfl) (fun t ht hW => ⟨⟨_, (), rfl, rfl, by rw [ht]; exact hP9, va_K.moved hW.alike hK9, hD9⟩, hS.F ht⟩) hS.2.2 d_Cell_addRest_49
      · refine lv_aload_n hx hb d_Cell_addRest_33 rfl (lv_at hl 0 rfl) ?_
        refine va_get (D := D) (ci := 0) (v := .int f7) (C := R_Cell) (T := T_Cell) (N := 12) hx hb hts in_Cell hown hK hP 0 rfl rfl 7 (by decide) (hts _ cw_223) (fun _ h9 => h9) rfl d_Cell_addRest_34 ?_
        refine lv_if_le (tgt := 50) hx hb d_Cell_addRest_37 (by decide) (fun c_6 => ?_) (fun c_6 => ?_)
        · refine lv_aload_n hx hb d_Cell_addRest_50 rfl (lv_at hl 0 rfl) ?_
          refine va_get (D := D) (ci := 0) (v := .int f7) (C := R_Cell) (T := T_Cell) (N := 12) hx hb hts in_Cell hown hK hP 0 rfl rfl 7 (by decide) (hts _ cw_223) (fun _ h9 => h9) rfl d_Cell_addRest_51 ?_
          refine lv_if_ne (tgt := 67) hx hb d_Cell_addRest_54 (by decide) (fun c_7 => ?_) (fun c_7 => ?_)
          · refine lv_aload_n hx hb d_Cell_addRest_67 rfl (lv_at hl 0 rfl) ?_
            refine lv_iload_n hx hb d_Cell_addRest_68 rfl (lv_at hl 1 rfl) ?_
            refine va_put (D := D) (ci := 0) (v := .int p0) (ty := .int) (C := R_Cell) (T := T_Cell) (N := 12) hx hb hts in_Cell ty_Cell tyok_Cell nm_Cell hown hK hP hD hS 0 rfl rfl 10 (by decide) (hts _ cw_226) (fun _ h9 => h9) rfl (by decide +kernel) rfl rfl (Nat.le_of_ble_eq_true rfl) d_Cell_addRest_69 (fun H locs hP hD hS => ?_)
            have hP : va_P D classes ([(h0, .inr (0, [.int f0, .int f1, .long f2, .int f3, .int f4, .int f5, .int f6, .int f7, .int f8, .int f9, .int p0, .int f11]))]) H := hP
            have hD : va_D A ([(h0, .inr (0, [.int f0, .int f1, .long f2, .int f3, .int f4, .int f5, .int f6, .int f7, .int f8, .int f9, .int p0, .int f11]))]) := hD
            refine lv_aload_n hx hb d_Cell_addRest_72 rfl (lv_at hl 0 rfl) ?_
            refine lv_iload_n hx hb d_Cell_addRest_73 rfl (lv_at hl 2 rfl) ?_
            refine va_put (D := D) (ci := 0) (v := .int p1) (ty := .int) (C := R_Cell) (T := T_Cell) (N := 12) hx hb hts in_Cell ty_Cell tyok_Cell nm_Cell hown hK hP hD hS 0 rfl rfl 11 (by decide) (hts _ cw_227) (fun _ h9 => h9) rfl (by decide +kernel) rfl rfl (Nat.le_of_ble_eq_true rfl) d_Cell_addRest_74 (fun H locs hP hD hS => ?_)
            have hP : va_P D classes ([(h0, .inr (0, [.int f0, .int f1, .long f2, .int f3, .int f4, .int f5, .int f6, .int f7, .int f8, .int f9, .int p0, .int p1]))]) H := hP
            have hD : va_D A ([(h0, .inr (0, [.int f0, .int f1, .long f2, .int f3, .int f4, .int f5, .int f6, .int f7, .int f8, .int f9, .int p0, .int p1]))]) := hD
            refine lv_aload_n hx hb d_Cell_addRest_77 rfl (lv_at hl 0 rfl) ?_
            refine lv_dup hx hb d_Cell_addRest_78 rfl ?_
            refine va_get (D := D) (ci := 0) (v := .int f7) (C := R_Cell) (T := T_Cell) (N := 12) hx hb hts in_Cell hown hK hP 0 rfl rfl 7 (by decide) (hts _ cw_223) (fun _ h9 => h9) rfl d_Cell_addRest_79 ?_
            refine lv_iconst (v := 1) hx hb d_Cell_addRest_82 (by decide) ?_
            refine lv_iadd hx hb d_Cell_addRest_83 ?_
            refine va_put (D := D) (ci := 0) (v := .int (f7 + 1)) (ty := .int) (C := R_Cell) (T := T_Cell) (N := 12) hx hb hts in_Cell ty_Cell tyok_Cell nm_Cell hown hK hP hD hS 0 rfl rfl 7 (by decide) (hts _ cw_223) (fun _ h9 => h9) rfl (by decide +kernel) rfl rfl (Nat.le_of_ble_eq_true rfl) d_Cell_addRest_84 (fun H locs hP hD hS => ?_)
            have hP : va_P D classes ([(h0, .inr (0, [.int f0, .int f1, .long f2, .int f3, .int f4, .int f5, .int f6, .int (f7 + 1), .int f8, .int f9, .int p0, .int p1]))]) H := hP
            have hD : va_D A ([(h0, .inr (0, [.int f0, .int f1, .long f2, .int f3, .int f4, .int f5, .int f6, .int (f7 + 1), .int f8, .int f9, .int p0, .int p1]))]) := hD
            refine lv_iconst (v := 1) hx hb d_Cell_addRest_87 (by decide) ?_
            have hm : m_addRest f0 f1 f2 f3 f4 f5 f6 f7 f8 f9 f10 f11 p0 p1 = (1, f0, f1, f2, f3, f4, f5, f6, f7 + 1, f8, f9, p0, p1) := by simp [m_addRest, eq_false c_1, eq_false c_3, eq_false c_5, eq_true c_6, eq_false c_7]
            rw [hm]
            have hP9 := hP.sub (ws' := [(h0, .inr (0, [.int f0, .int f1, .long f2, .int f3, .int f4, .int f5, .int f6, .int (f7 + 1), .int f8, .int f9, .int p0, .int p1]))]) [0] rfl
            have hD9 := hD.sub (ws' := [(h0, .inr (0, [.int f0, .int f1, .long f2, .int f3, .int f4, .int f5, .int f6, .int (f7 + 1), .int f8, .int f9, .int p0, .int p1]))]) [0] (by decide) rfl
            have hK9 := hK.sub (tys' := []) [] rfl
            exact W.zret (v := 1) hx hb hr (rfl) (fun t ht hW => ⟨⟨_, (), rfl, rfl, by rw [ht]; exact hP9, va_K.moved hW.alike hK9, hD9⟩, hS.F ht⟩) hS.2.2 d_Cell_addRest_88
          · refine lv_aload_n hx hb d_Cell_addRest_57 rfl (lv_at hl 0 rfl) ?_
            refine lv_iload_n hx hb d_Cell_addRest_58 rfl (lv_at hl 1 rfl) ?_
            refine va_put (D := D) (ci := 0) (v := .int p0) (ty := .int) (C := R_Cell) (T := T_Cell) (N := 12) hx hb hts in_Cell ty_Cell tyok_Cell nm_Cell hown hK hP hD hS 0 rfl rfl 8 (by decide) (hts _ cw_224) (fun _ h9 => h9) rfl (by decide +kernel) rfl rfl (Nat.le_of_ble_eq_true rfl) d_Cell_addRest_59 (fun H locs hP hD hS => ?_)
            have hP : va_P D classes ([(h0, .inr (0, [.int f0, .int f1, .long f2, .int f3, .int f4, .int f5, .int f6, .int f7, .int p0, .int f9, .int f10, .int f11]))]) H := hP
            have hD : va_D A ([(h0, .inr (0, [.int f0, .int f1, .long f2, .int f3, .int f4, .int f5, .int f6, .int f7, .int p0, .int f9, .int f10, .int f11]))]) := hD
            refine lv_aload_n hx hb d_Cell_addRest_62 rfl (lv_at hl 0 rfl) ?_
            refine lv_iload_n hx hb d_Cell_addRest_63 rfl (lv_at hl 2 rfl) ?_
            refine va_put (D := D) (ci := 0) (v := .int p1) (ty := .int) (C := R_Cell) (T := T_Cell) (N := 12) hx hb hts in_Cell ty_Cell tyok_Cell nm_Cell hown hK hP hD hS 0 rfl rfl 9 (by decide) (hts _ cw_225) (fun _ h9 => h9) rfl (by decide +kernel) rfl rfl (Nat.le_of_ble_eq_true rfl) d_Cell_addRest_64 (fun H locs hP hD hS => ?_)
            have hP : va_P D classes ([(h0, .inr (0, [.int f0, .int f1, .long f2, .int f3, .int f4, .int f5, .int f6, .int f7, .int p0, .int p1, .int f10, .int f11]))]) H := hP
            have hD : va_D A ([(h0, .inr (0, [.int f0, .int f1, .long f2, .int f3, .int f4, .int f5, .int f6, .int f7, .int p0, .int p1, .int f10, .int f11]))]) := hD
            refine lv_aload_n hx hb d_Cell_addRest_67 rfl (lv_at hl 0 rfl) ?_
            refine lv_iload_n hx hb d_Cell_addRest_68 rfl (lv_at hl 1 rfl) ?_
            refine va_put (D := D) (ci := 0) (v := .int p0) (ty := .int) (C := R_Cell) (T := T_Cell) (N := 12) hx hb hts in_Cell ty_Cell tyok_Cell nm_Cell hown hK hP hD hS 0 rfl rfl 10 (by decide) (hts _ cw_226) (fun _ h9 => h9) rfl (by decide +kernel) rfl rfl (Nat.le_of_ble_eq_true rfl) d_Cell_addRest_69 (fun H locs hP hD hS => ?_)
            have hP : va_P D classes ([(h0, .inr (0, [.int f0, .int f1, .long f2, .int f3, .int f4, .int f5, .int f6, .int f7, .int p0, .int p1, .int p0, .int f11]))]) H := hP
            have hD : va_D A ([(h0, .inr (0, [.int f0, .int f1, .long f2, .int f3, .int f4, .int f5, .int f6, .int f7, .int p0, .int p1, .int p0, .int f11]))]) := hD
            refine lv_aload_n hx hb d_Cell_addRest_72 rfl (lv_at hl 0 rfl) ?_
            refine lv_iload_n hx hb d_Cell_addRest_73 rfl (lv_at hl 2 rfl) ?_
            refine va_put (D := D) (ci := 0) (v := .int p1) (ty := .int) (C := R_Cell) (T := T_Cell) (N := 12) hx hb hts in_Cell ty_Cell tyok_Cell nm_Cell hown hK hP hD hS 0 rfl rfl 11 (by decide) (hts _ cw_227) (fun _ h9 => h9) rfl (by decide +kernel) rfl rfl (Nat.le_of_ble_eq_true rfl) d_Cell_addRest_74 (fun H locs hP hD hS => ?_)
            have hP : va_P D classes ([(h0, .inr (0, [.int f0, .int f1, .long f2, .int f3, .int f4, .int f5, .int f6, .int f7, .int p0, .int p1, .int p0, .int p1]))]) H := hP
            have hD : va_D A ([(h0, .inr (0, [.int f0, .int f1, .long f2, .int f3, .int f4, .int f5, .int f6, .int f7, .int p0, .int p1, .int p0, .int p1]))]) := hD
            refine lv_aload_n hx hb d_Cell_addRest_77 rfl (lv_at hl 0 rfl) ?_
            refine lv_dup hx hb d_Cell_addRest_78 rfl ?_
            refine va_get (D := D) (ci := 0) (v := .int f7) (C := R_Cell) (T := T_Cell) (N := 12) hx hb hts in_Cell hown hK hP 0 rfl rfl 7 (by decide) (hts _ cw_223) (fun _ h9 => h9) rfl d_Cell_addRest_79 ?_
            refine lv_iconst (v := 1) hx hb d_Cell_addRest_82 (by decide) ?_
            refine lv_iadd hx hb d_Cell_addRest_83 ?_
            refine va_put (D := D) (ci := 0) (v := .int (f7 + 1)) (ty := .int) (C := R_Cell) (T := T_Cell) (N := 12) hx hb hts in_Cell ty_Cell tyok_Cell nm_Cell hown hK hP hD hS 0 rfl rfl 7 (by decide) (hts _ cw_223) (fun _ h9 => h9) rfl (by decide +kernel) rfl rfl (Nat.le_of_ble_eq_true rfl) d_Cell_addRest_84 (fun H locs hP hD hS => ?_)
            have hP : va_P D classes ([(h0, .inr (0, [.int f0, .int f1, .long f2, .int f3, .int f4, .int f5, .int f6, .int (f7 + 1), .int p0, .int p1, .int p0, .int p1]))]) H := hP
            have hD : va_D A ([(h0, .inr (0, [.int f0, .int f1, .long f2, .int f3, .int f4, .int f5, .int f6, .int (f7 + 1), .int p0, .int p1, .int p0, .int p1]))]) := hD
            refine lv_iconst (v := 1) hx hb d_Cell_addRest_87 (by decide) ?_
            have hm : m_addRest f0 f1 f2 f3 f4 f5 f6 f7 f8 f9 f10 f11 p0 p1 = (1, f0, f1, f2, f3, f4, f5, f6, f7 + 1, p0, p1, p0, p1) := by simp [m_addRest, eq_false c_1, eq_false c_3, eq_false c_5, eq_true c_6, eq_true c_7]
            rw [hm]
            have hP9 := hP.sub (ws' := [(h0, .inr (0, [.int f0, .int f1, .long f2, .int f3, .int f4, .int f5, .int f6, .int (f7 + 1), .int p0, .int p1, .int p0, .int p1]))]) [0] rfl
            have hD9 := hD.sub (ws' := [(h0, .inr (0, [.int f0, .int f1, .long f2, .int f3, .int f4, .int f5, .int f6, .int (f7 + 1), .int p0, .int p1, .int p0, .int p1]))]) [0] (by decide) rfl
            have hK9 := hK.sub (tys' := []) [] rfl
            exact W.zret (v := 1) hx hb hr (rfl) (fun t ht hW => ⟨⟨_, (), rfl, rfl, by rw [ht]; exact hP9, va_K.moved hW.alike hK9, hD9⟩, hS.F ht⟩) hS.2.2 d_Cell_addRest_88
        · refine lv_iload_n hx hb d_Cell_addRest_40 rfl (lv_at hl 1 rfl) ?_
          refine lv_aload_n hx hb d_Cell_addRest_41 rfl (lv_at hl 0 rfl) ?_
          refine va_get (D := D) (ci := 0) (v := .int f10) (C := R_Cell) (T := T_Cell) (N := 12) hx hb hts in_Cell hown hK hP 0 rfl rfl 10 (by decide) (hts _ cw_226) (fun _ h9 => h9) rfl d_Cell_addRest_42 ?_
          refine lv_icmp_gt (tgt := 50) hx hb d_Cell_addRest_45 (by decide) (fun c_8 => ?_) (fun c_8 => ?_)
          · refine lv_aload_n hx hb d_Cell_addRest_50 rfl (lv_at hl 0 rfl) ?_
            refine va_get (D := D) (ci := 0) (v := .int f7) (C := R_Cell) (T := T_Cell) (N := 12) hx hb hts in_Cell hown hK hP 0 rfl rfl 7 (by decide) (hts _ cw_223) (fun _ h9 => h9) rfl d_Cell_addRest_51 ?_
            refine lv_if_ne (tgt := 67) hx hb d_Cell_addRest_54 (by decide) (fun c_9 => ?_) (fun c_9 => ?_)
            · refine lv_aload_n hx hb d_Cell_addRest_67 rfl (lv_at hl 0 rfl) ?_
              refine lv_iload_n hx hb d_Cell_addRest_68 rfl (lv_at hl 1 rfl) ?_
              refine va_put (D := D) (ci := 0) (v := .int p0) (ty := .int) (C := R_Cell) (T := T_Cell) (N := 12) hx hb hts in_Cell ty_Cell tyok_Cell nm_Cell hown hK hP hD hS 0 rfl rfl 10 (by decide) (hts _ cw_226) (fun _ h9 => h9) rfl (by decide +kernel) rfl rfl (Nat.le_of_ble_eq_true rfl) d_Cell_addRest_69 (fun H locs hP hD hS => ?_)
              have hP : va_P D classes ([(h0, .inr (0, [.int f0, .int f1, .long f2, .int f3, .int f4, .int f5, .int f6, .int f7, .int f8, .int f9, .int p0, .int f11]))]) H := hP
              have hD : va_D A ([(h0, .inr (0, [.int f0, .int f1, .long f2, .int f3, .int f4, .int f5, .int f6, .int f7, .int f8, .int f9, .int p0, .int f11]))]) := hD
              refine lv_aload_n hx hb d_Cell_addRest_72 rfl (lv_at hl 0 rfl) ?_
              refine lv_iload_n hx hb d_Cell_addRest_73 rfl (lv_at hl 2 rfl) ?_
              refine va_put (D := D) (ci := 0) (v := .int p1) (ty := .int) (C := R_Cell) (T := T_Cell) (N := 12) hx hb hts in_Cell ty_Cell tyok_Cell nm_Cell hown hK hP hD hS 0 rfl rfl 11 (by decide) (hts _ cw_227) (fun _ h9 => h9) rfl (by decide +kernel) rfl rfl (Nat.le_of_ble_eq_true rfl) d_Cell_addRest_74 (fun H locs hP hD hS => ?_)
              have hP : va_P D classes ([(h0, .inr (0, [.int f0, .int f1, .long f2, .int f3, .int f4, .int f5, .int f6, .int f7, .int f8, .int f9, .int p0, .int p1]))]) H := hP
              have hD : va_D A ([(h0, .inr (0, [.int f0, .int f1, .long f2, .int f3, .int f4, .int f5, .int f6, .int f7, .int f8, .int f9, .int p0, .int p1]))]) := hD
              refine lv_aload_n hx hb d_Cell_addRest_77 rfl (lv_at hl 0 rfl) ?_
              refine lv_dup hx hb d_Cell_addRest_78 rfl ?_
              refine va_get (D := D) (ci := 0) (v := .int f7) (C := R_Cell) (T := T_Cell) (N := 12) hx hb hts in_Cell hown hK hP 0 rfl rfl 7 (by decide) (hts _ cw_223) (fun _ h9 => h9) rfl d_Cell_addRest_79 ?_
              refine lv_iconst (v := 1) hx hb d_Cell_addRest_82 (by decide) ?_
              refine lv_iadd hx hb d_Cell_addRest_83 ?_
              refine va_put (D := D) (ci := 0) (v := .int (f7 + 1)) (ty := .int) (C := R_Cell) (T := T_Cell) (N := 12) hx hb hts in_Cell ty_Cell tyok_Cell nm_Cell hown hK hP hD hS 0 rfl rfl 7 (by decide) (hts _ cw_223) (fun _ h9 => h9) rfl (by decide +kernel) rfl rfl (Nat.le_of_ble_eq_true rfl) d_Cell_addRest_84 (fun H locs hP hD hS => ?_)
              have hP : va_P D classes ([(h0, .inr (0, [.int f0, .int f1, .long f2, .int f3, .int f4, .int f5, .int f6, .int (f7 + 1), .int f8, .int f9, .int p0, .int p1]))]) H := hP
              have hD : va_D A ([(h0, .inr (0, [.int f0, .int f1, .long f2, .int f3, .int f4, .int f5, .int f6, .int (f7 + 1), .int f8, .int f9, .int p0, .int p1]))]) := hD
              refine lv_iconst (v := 1) hx hb d_Cell_addRest_87 (by decide) ?_
              have hm : m_addRest f0 f1 f2 f3 f4 f5 f6 f7 f8 f9 f10 f11 p0 p1 = (1, f0, f1, f2, f3, f4, f5, f6, f7 + 1, f8, f9, p0, p1) := by simp [m_addRest, eq_false c_1, eq_false c_3, eq_false c_5, eq_false c_6, eq_true c_8, eq_false c_9]
              rw [hm]
              have hP9 := hP.sub (ws' := [(h0, .inr (0, [.int f0, .int f1, .long f2, .int f3, .int f4, .int f5, .int f6, .int (f7 + 1), .int f8, .int f9, .int p0, .int p1]))]) [0] rfl
              have hD9 := hD.sub (ws' := [(h0, .inr (0, [.int f0, .int f1, .long f2, .int f3, .int f4, .int f5, .int f6, .int (f7 + 1), .int f8, .int f9, .int p0, .int p1]))]) [0] (by decide) rfl
              have hK9 := hK.sub (tys' := []) [] rfl
              exact W.zret (v := 1) hx hb hr (rfl) (fun t ht hW => ⟨⟨_, (), rfl, rfl, by rw [ht]; exact hP9, va_K.moved hW.alike hK9, hD9⟩, hS.F ht⟩) hS.2.2 d_Cell_addRest_88
            · refine lv_aload_n hx hb d_Cell_addRest_57 rfl (lv_at hl 0 rfl) ?_
              refine lv_iload_n hx hb d_Cell_addRest_58 rfl (lv_at hl 1 rfl) ?_
              refine va_put (D := D) (ci := 0) (v := .int p0) (ty := .int) (C := R_Cell) (T := T_Cell) (N := 12) hx hb hts in_Cell ty_Cell tyok_Cell nm_Cell hown hK hP hD hS 0 rfl rfl 8 (by decide) (hts _ cw_224) (fun _ h9 => h9) rfl (by decide +kernel) rfl rfl (Nat.le_of_ble_eq_true rfl) d_Cell_addRest_59 (fun H locs hP hD hS => ?_)
              have hP : va_P D classes ([(h0, .inr (0, [.int f0, .int f1, .long f2, .int f3, .int f4, .int f5, .int f6, .int f7, .int p0, .int f9, .int f10, .int f11]))]) H := hP
              have hD : va_D A ([(h0, .inr (0, [.int f0, .int f1, .long f2, .int f3, .int f4, .int f5, .int f6, .int f7, .int p0, .int f9, .int f10, .int f11]))]) := hD
              refine lv_aload_n hx hb d_Cell_addRest_62 rfl (lv_at hl 0 rfl) ?_
              refine lv_iload_n hx hb d_Cell_addRest_63 rfl (lv_at hl 2 rfl) ?_
              refine va_put (D := D) (ci := 0) (v := .int p1) (ty := .int) (C := R_Cell) (T := T_Cell) (N := 12) hx hb hts in_Cell ty_Cell tyok_Cell nm_Cell hown hK hP hD hS 0 rfl rfl 9 (by decide) (hts _ cw_225) (fun _ h9 => h9) rfl (by decide +kernel) rfl rfl (Nat.le_of_ble_eq_true rfl) d_Cell_addRest_64 (fun H locs hP hD hS => ?_)
              have hP : va_P D classes ([(h0, .inr (0, [.int f0, .int f1, .long f2, .int f3, .int f4, .int f5, .int f6, .int f7, .int p0, .int p1, .int f10, .int f11]))]) H := hP
              have hD : va_D A ([(h0, .inr (0, [.int f0, .int f1, .long f2, .int f3, .int f4, .int f5, .int f6, .int f7, .int p0, .int p1, .int f10, .int f11]))]) := hD
              refine lv_aload_n hx hb d_Cell_addRest_67 rfl (lv_at hl 0 rfl) ?_
              refine lv_iload_n hx hb d_Cell_addRest_68 rfl (lv_at hl 1 rfl) ?_
              refine va_put (D := D) (ci := 0) (v := .int p0) (ty := .int) (C := R_Cell) (T := T_Cell) (N := 12) hx hb hts in_Cell ty_Cell tyok_Cell nm_Cell hown hK hP hD hS 0 rfl rfl 10 (by decide) (hts _ cw_226) (fun _ h9 => h9) rfl (by decide +kernel) rfl rfl (Nat.le_of_ble_eq_true rfl) d_Cell_addRest_69 (fun H locs hP hD hS => ?_)
              have hP : va_P D classes ([(h0, .inr (0, [.int f0, .int f1, .long f2, .int f3, .int f4, .int f5, .int f6, .int f7, .int p0, .int p1, .int p0, .int f11]))]) H := hP
              have hD : va_D A ([(h0, .inr (0, [.int f0, .int f1, .long f2, .int f3, .int f4, .int f5, .int f6, .int f7, .int p0, .int p1, .int p0, .int f11]))]) := hD
              refine lv_aload_n hx hb d_Cell_addRest_72 rfl (lv_at hl 0 rfl) ?_
              refine lv_iload_n hx hb d_Cell_addRest_73 rfl (lv_at hl 2 rfl) ?_
              refine va_put (D := D) (ci := 0) (v := .int p1) (ty := .int) (C := R_Cell) (T := T_Cell) (N := 12) hx hb hts in_Cell ty_Cell tyok_Cell nm_Cell hown hK hP hD hS 0 rfl rfl 11 (by decide) (hts _ cw_227) (fun _ h9 => h9) rfl (by decide +kernel) rfl rfl (Nat.le_of_ble_eq_true rfl) d_Cell_addRest_74 (fun H locs hP hD hS => ?_)
              have hP : va_P D classes ([(h0, .inr (0, [.int f0, .int f1, .long f2, .int f3, .int f4, .int f5, .int f6, .int f7, .int p0, .int p1, .int p0, .int p1]))]) H := hP
              have hD : va_D A ([(h0, .inr (0, [.int f0, .int f1, .long f2, .int f3, .int f4, .int f5, .int f6, .int f7, .int p0, .int p1, .int p0, .int p1]))]) := hD
              refine lv_aload_n hx hb d_Cell_addRest_77 rfl (lv_at hl 0 rfl) ?_
              refine lv_dup hx hb d_Cell_addRest_78 rfl ?_
              refine va_get (D := D) (ci := 0) (v := .int f7) (C := R_Cell) (T := T_Cell) (N := 12) hx hb hts in_Cell hown hK hP 0 rfl rfl 7 (by decide) (hts _ cw_223) (fun _ h9 => h9) rfl d_Cell_addRest_79 ?_
              refine lv_iconst (v := 1) hx hb d_Cell_addRest_82 (by decide) ?_
              refine lv_iadd hx hb d_Cell_addRest_83 ?_
              refine va_put (D := D) (ci := 0) (v := .int (f7 + 1)) (ty := .int) (C := R_Cell) (T := T_Cell) (N := 12) hx hb hts in_Cell ty_Cell tyok_Cell nm_Cell hown hK hP hD hS 0 rfl rfl 7 (by decide) (hts _ cw_223) (fun _ h9 => h9) rfl (by decide +kernel) rfl rfl (Nat.le_of_ble_eq_true rfl) d_Cell_addRest_84 (fun H locs hP hD hS => ?_)
              have hP : va_P D classes ([(h0, .inr (0, [.int f0, .int f1, .long f2, .int f3, .int f4, .int f5, .int f6, .int (f7 + 1), .int p0, .int p1, .int p0, .int p1]))]) H := hP
              have hD : va_D A ([(h0, .inr (0, [.int f0, .int f1, .long f2, .int f3, .int f4, .int f5, .int f6, .int (f7 + 1), .int p0, .int p1, .int p0, .int p1]))]) := hD
              refine lv_iconst (v := 1) hx hb d_Cell_addRest_87 (by decide) ?_
              have hm : m_addRest f0 f1 f2 f3 f4 f5 f6 f7 f8 f9 f10 f11 p0 p1 = (1, f0, f1, f2, f3, f4, f5, f6, f7 + 1, p0, p1, p0, p1) := by simp [m_addRest, eq_false c_1, eq_false c_3, eq_false c_5, eq_false c_6, eq_true c_8, eq_true c_9]
              rw [hm]
              have hP9 := hP.sub (ws' := [(h0, .inr (0, [.int f0, .int f1, .long f2, .int f3, .int f4, .int f5, .int f6, .int (f7 + 1), .int p0, .int p1, .int p0, .int p1]))]) [0] rfl
              have hD9 := hD.sub (ws' := [(h0, .inr (0, [.int f0, .int f1, .long f2, .int f3, .int f4, .int f5, .int f6, .int (f7 + 1), .int p0, .int p1, .int p0, .int p1]))]) [0] (by decide) rfl
              have hK9 := hK.sub (tys' := []) [] rfl
              exact W.zret (v := 1) hx hb hr (rfl) (fun t ht hW => ⟨⟨_, (), rfl, rfl, by rw [ht]; exact hP9, va_K.moved hW.alike hK9, hD9⟩, hS.F ht⟩) hS.2.2 d_Cell_addRest_88
          · refine lv_iconst (v := 0) hx hb d_Cell_addRest_48 (by decide) ?_
            have hm : m_addRest f0 f1 f2 f3 f4 f5 f6 f7 f8 f9 f10 f11 p0 p1 = (0, f0, f1, f2, f3, f4, f5, f6, f7, f8, f9, f10, f11) := by simp [m_addRest, eq_false c_1, eq_false c_3, eq_false c_5, eq_false c_6, eq_false c_8]
            rw [hm]
            have hP9 := hP.sub (ws' := [(h0, .inr (0, [.int f0, .int f1, .long f2, .int f3, .int f4, .int f5, .int f6, .int f7, .int f8, .int f9, .int f10, .int f11]))]) [0] rfl
            have hD9 := hD.sub (ws' := [(h0, .inr (0, [.int f0, .int f1, .long f2, .int f3, .int f4, .int f5, .int f6, .int f7, .int f8, .int f9, .int f10, .int f11]))]) [0] (by decide) rfl
            have hK9 := hK.sub (tys' := []) [] rfl
            exact W.zret (v := 0) hx hb hr (rfl) (fun t ht hW => ⟨⟨_, (), rfl, rfl, by rw [ht]; exact hP9, va_K.moved hW.alike hK9, hD9⟩, hS.F ht⟩) hS.2.2 d_Cell_addRest_49

set_option maxHeartbeats 4000000 in
set_option maxRecDepth 100000 in
/-- Cell() -/
theorem c_Cell_init (l : Launch) (D : va_G)  (h0 : Nat) (f0 : Int32) (f1 : Int32) (f2 : Int64) (f3 : Int32) (f4 : Int32) (f5 : Int32) (f6 : Int32) (f7 : Int32) (f8 : Int32) (f9 : Int32) (f10 : Int32) (f11 : Int32) (sz : Nat)  : Met l y_Cell_init ws_Cell_init ({ frames := 1, cells := 0, slots := 0, locals := 12 }) (va_Pc [.ref h0] (cx_pre D [] ([(h0, .inr (0, [.int f0, .int f1, .long f2, .int f3, .int f4, .int f5, .int f6, .int f7, .int f8, .int f9, .int f10, .int f11]))]) sz)) (va_Qv (fun _ => True) (fun (_ : Unit) t => cx_end D [] (va_A ([(h0, .inr (0, [.int f0, .int f1, .long f2, .int f3, .int f4, .int f5, .int f6, .int f7, .int f8, .int f9, .int f10, .int f11]))]) sz) ([(h0, .inr (0, [.int f0, .int f1, .long f2, .int f3, .int f4, .int f5, .int f6, .int f7, .int f8, .int f9, .int f10, .int f11]))]) t) (va_A ([(h0, .inr (0, [.int f0, .int f1, .long f2, .int f3, .int f4, .int f5, .int f6, .int f7, .int f8, .int f9, .int f10, .int f11]))]) sz)) 0 0 (va_A ([(h0, .inr (0, [.int f0, .int f1, .long f2, .int f3, .int f4, .int f5, .int f6, .int f7, .int f8, .int f9, .int f10, .int f11]))]) sz) := by
  refine Met.ofW (cc := b_Cell_init) (maxL := 1) (ret := none) (by decide) rfl ?_
  intro p e s m args below meth c s₁ B hml hv
  obtain ⟨rfl, hsz, hP, hK, hD0, hN, hO⟩ := hv
  have hx := B.exec
  have hb := B.bytes
  have hr := B.returns
  have hts := fun (w : Cond) (h : w ∈ cx_tbl) => atoms_spec (ws := ws_Cell_init) B.pre w (List.mem_cons_of_mem _ h)
  have hown : s.vm.findClass R_Cell = some m.cls := findClass_of_methodNamed B.named
  have hlocks := B.notSynchronized
  have hin : meth.name = "<init>" := (name_of_methodNamed B.named B.method).1
  subst hsz
  have hD := hD0.self (sz := s.heap.size)
  generalize hAe : va_A ([(h0, .inr (0, [.int f0, .int f1, .long f2, .int f3, .int f4, .int f5, .int f6, .int f7, .int f8, .int f9, .int f10, .int f11]))]) s.heap.size = A at hD hO ⊢
  have hA : ∀ q : Nat, s.heap.size ≤ q → A q := fun q h => by rw [← hAe]; exact Or.inr h
  have hS : va_S A s.heap s.heap [] := va_S.rf
  have hl := lv_entry ([.ref h0]) (n := 1) (Nat.le_of_ble_eq_true rfl)
  rw [lg_entry_eq]
  generalize (lg_sl ([.ref h0]) ++ List.replicate (1 - (lg_sl ([.ref h0])).length) Slot.unset).toArray = ls at hl ⊢
  have hl : lv_has ls 1 [(0, .ref h0)] := hl
  refine lv_aload_n hx hb d_Cell_init_0 rfl (lv_at hl 0 rfl) ?_
  refine W.objInit hx hb hown (hts (.methodLink R_Cell 1 objectInit) cw_211) (hts _ cw_oi) (hts _ cw_oc) rfl (by rw [hml]; exact hl.1) rfl d_Cell_init_1 (Nat.le_of_ble_eq_true rfl) (Nat.le_of_ble_eq_true rfl) ?_
  refine W.eq (g2 := F0 m 4 ls []) rfl ?_
  have hP9 := hP.sub (ws' := [(h0, .inr (0, [.int f0, .int f1, .long f2, .int f3, .int f4, .int f5, .int f6, .int f7, .int f8, .int f9, .int f10, .int f11]))]) [0] rfl
  have hD9 := hD.sub (ws' := [(h0, .inr (0, [.int f0, .int f1, .long f2, .int f3, .int f4, .int f5, .int f6, .int f7, .int f8, .int f9, .int f10, .int f11]))]) [0] (by decide) rfl
  have hK9 := hK.sub (tys' := []) [] rfl
  exact W.vret hx hb hr (fun t ht hW => ⟨⟨(), rfl, trivial, by rw [ht]; exact hP9, va_K.moved hW.alike hK9, hD9⟩, hS.F ht⟩) hS.2.2 d_Cell_init_4
