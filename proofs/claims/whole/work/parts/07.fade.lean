-- FadeRows: its functions
theorem ix_pred {x : Int32} {n : Nat} (hn : n < 2 ^ 31) (h0 : ¬ x ≤ 0) (h1 : ¬ nI n ≤ x) : vp_in (x - 1) n := by
  rcases pk_ix x hn with h | h | ⟨j, hj, e⟩
  · exact absurd (Int32.le_of_lt h) h0
  · exact absurd h h1
  · cases j with
    | zero => exact absurd (by rw [e]; exact (Int32.le_refl 0)) h0
    | succ j => rw [e, nI_pred]; exact vp_in_nI (by omega) hn
theorem ix_clamp {x : Int32} {i : Nat} (h : ¬ x ≤ nI i) (hi : i < 2 ^ 31) : i + 1 ≤ x.toNatClampNeg := by
  rcases pk_ix x (n := 2 ^ 31 - 1) (by decide) with q | q | ⟨j, hj, e⟩
  · exact absurd (Int32.le_trans (Int32.le_of_lt q) (nI_pos' hi)) h
  · have : x.toNatClampNeg ≥ 2 ^ 31 - 1 := by
      have h2 := Int32.le_iff_toInt_le.mp q
      rw [nI_toInt (by decide)] at h2
      rw [Int32.toNatClampNeg]
      omega
    have h3 : ¬ x.toInt ≤ i := fun w => h (Int32.le_iff_toInt_le.mpr (by rw [nI_toInt hi]; exact w))
    rw [Int32.toNatClampNeg] at this ⊢
    omega
  · rw [e, nI_clamp (by omega)]
    rw [e] at h
    have := ix_nge h (by omega) hi
    omega
theorem ix_in1 {i n : Nat} (hn : n < 2 ^ 31) (hi : i + 1 < 2 ^ 31) (h : ¬ nI n ≤ nI i + 1) : vp_in (nI i + 1) n := by
  rw [nI_1] at h ⊢
  exact vp_in_nI (ix_nge h hn hi) hn
def m_fadeAdd (g0 g1 : Nat → Int32) (cnt p0 p1 : Int32) : Int32 × (Nat → Int32) × (Nat → Int32) × Int32 :=
  if cnt < 0 ∨ 6 ≤ cnt ∨ m_in p0.toInt64 0 10000 = 0 ∨ m_in p1.toInt64 0 1000 = 0 ∨ (¬ cnt ≤ 0 ∧ ¬ g0 (cnt - 1).toNatClampNeg < p0) then (0, g0, g1, cnt)
  else (1, upd g0 cnt.toNatClampNeg p0, upd g1 cnt.toNatClampNeg p1, cnt + 1)
def m_fadeBy (lost times : Int32) : Nat → Nat → Int64 → Int64
  | 0, _, left => left
  | n + 1, i, left => if times ≤ nI i then left else if left * lost.toInt64 / 1000 = 0 then left else m_fadeBy lost times n (i + 1) (left - left * lost.toInt64 / 1000)
def m_leftOf (g0 g1 : Nat → Int32) (cnt cyc : Int32) : Nat → Nat → Int64 → Int64
  | 0, _, left => left
  | n + 1, i, left => if cnt ≤ nI i ∨ 6 ≤ nI i then left else
      m_leftOf g0 g1 cnt cyc n (i + 1) (let t := m_min (if cnt ≤ nI i + 1 ∨ 6 ≤ nI i + 1 then cyc else g0 (nI i + 1).toNatClampNeg) cyc - g0 (nI i).toNatClampNeg
        m_fadeBy (g1 (nI i).toNatClampNeg) t (t.toNatClampNeg + 1) 0 left)
set_option maxHeartbeats 4000000 in
set_option maxRecDepth 100000 in
/-- FadeRows.add -/
theorem c_Fade_add (l : Launch) (D : va_G)  (h0 : Nat) (a0 : Nat) (a1 : Nat) (k0 : ClassId) (k1 : ClassId) (g0 : Nat → Int32) (g1 : Nat → Int32) (cnt : Int32) (p0 : Int32) (p1 : Int32) (sz : Nat)  : Met l y_Fade_add ws_Fade_add ({ frames := 1, cells := 0, slots := 0, locals := 25 }) (va_Pc [.ref h0, .int p0, .int p1] (cx_pre D [(k0, .int), (k1, .int)] ([(h0, .inr (1, [.ref a0, .ref a1, .int cnt])), (a0, .inl (k0, 6, .inl g0)), (a1, .inl (k1, 6, .inl g1))]) sz)) (va_Qi (fun r9 _ => r9 = (m_fadeAdd g0 g1 cnt p0 p1).1) (fun (_ : Unit) t => cx_end D [(k0, .int), (k1, .int)] (va_A ([(h0, .inr (1, [.ref a0, .ref a1, .int cnt])), (a0, .inl (k0, 6, .inl g0)), (a1, .inl (k1, 6, .inl g1))]) sz) ([(h0, .inr (1, [.ref a0, .ref a1, .int ((m_fadeAdd g0 g1 cnt p0 p1).2.2.2)])), (a0, .inl (k0, 6, .inl ((m_fadeAdd g0 g1 cnt p0 p1).2.1))), (a1, .inl (k1, 6, .inl ((m_fadeAdd g0 g1 cnt p0 p1).2.2.1)))]) t) (va_A ([(h0, .inr (1, [.ref a0, .ref a1, .int cnt])), (a0, .inl (k0, 6, .inl g0)), (a1, .inl (k1, 6, .inl g1))]) sz)) 0 0 (va_A ([(h0, .inr (1, [.ref a0, .ref a1, .int cnt])), (a0, .inl (k0, 6, .inl g0)), (a1, .inl (k1, 6, .inl g1))]) sz) := by
  refine Met.ofW (cc := b_Fade_add) (maxL := 3) (ret := (some .boolean)) (by decide) rfl ?_
  intro p e s m args below meth c s₁ B hml hv
  obtain ⟨rfl, hsz, hP, hK, hD0, hN, hO⟩ := hv
  have hx := B.exec
  have hb := B.bytes
  have hr := B.returns
  have hts := fun (w : Cond) (h : w ∈ cx_tbl) => atoms_spec (ws := ws_Fade_add) B.pre w (List.mem_cons_of_mem _ h)
  have hown : s.vm.findClass R_Fade = some m.cls := findClass_of_methodNamed B.named
  have hlocks := B.notSynchronized
  subst hsz
  have hD := hD0.self (sz := s.heap.size)
  generalize hAe : va_A ([(h0, .inr (1, [.ref a0, .ref a1, .int cnt])), (a0, .inl (k0, 6, .inl g0)), (a1, .inl (k1, 6, .inl g1))]) s.heap.size = A at hD hO ⊢
  have hA : ∀ q : Nat, s.heap.size ≤ q → A q := fun q h => by rw [← hAe]; exact Or.inr h
  have hS : va_S A s.heap s.heap [] := va_S.rf
  have hl := lv_entry ([.ref h0, .int p0, .int p1]) (n := 3) (Nat.le_of_ble_eq_true rfl)
  rw [lg_entry_eq]
  generalize (lg_sl ([.ref h0, .int p0, .int p1]) ++ List.replicate (3 - (lg_sl ([.ref h0, .int p0, .int p1])).length) Slot.unset).toArray = ls at hl ⊢
  have hl : lv_has ls 3 [(0, .ref h0), (1, .int p0), (2, .int p1)] := hl
  refine lv_aload_n hx hb d_Fade_add_0 rfl (lv_at hl 0 rfl) ?_
  refine va_get (D := D) (ci := 1) (v := .int cnt) (C := R_Fade) (T := T_Fade) (N := 3) hx hb hts in_Fade hown hK hP 0 rfl rfl 2 (by decide) (hts _ cw_132) (fun _ h9 => h9) rfl d_Fade_add_1 ?_
  refine lv_if_lt (tgt := 65) hx hb d_Fade_add_4 (by decide) (fun c_1 => ?_) (fun c_1 => ?_)
  · refine lv_iconst (v := 0) hx hb d_Fade_add_65 (by decide) ?_
    have hm : m_fadeAdd g0 g1 cnt p0 p1 = (0, g0, g1, cnt) := by simp [m_fadeAdd, eq_true c_1]
    rw [hm]
    have hP9 := hP.sub (ws' := [(h0, .inr (1, [.ref a0, .ref a1, .int cnt])), (a0, .inl (k0, 6, .inl g0)), (a1, .inl (k1, 6, .inl g1))]) [0, 1, 2] rfl
    have hD9 := hD.sub (ws' := [(h0, .inr (1, [.ref a0, .ref a1, .int cnt])), (a0, .inl (k0, 6, .inl g0)), (a1, .inl (k1, 6, .inl g1))]) [0, 1, 2] (by decide) rfl
    have hK9 := hK.sub (tys' := [(k0, .int), (k1, .int)]) [0, 1] rfl
    exact W.zret (v := 0) hx hb hr (rfl) (fun t ht hW => ⟨⟨_, (), rfl, rfl, by rw [ht]; exact hP9, va_K.moved hW.alike hK9, hD9⟩, hS.F ht⟩) hS.2.2 d_Fade_add_66
  · refine lv_aload_n hx hb d_Fade_add_7 rfl (lv_at hl 0 rfl) ?_
    refine va_get (D := D) (ci := 1) (v := .int cnt) (C := R_Fade) (T := T_Fade) (N := 3) hx hb hts in_Fade hown hK hP 0 rfl rfl 2 (by decide) (hts _ cw_132) (fun _ h9 => h9) rfl d_Fade_add_8 ?_
    refine lv_aload_n hx hb d_Fade_add_11 rfl (lv_at hl 0 rfl) ?_
    refine va_get (D := D) (ci := 1) (v := .ref a0) (C := R_Fade) (T := T_Fade) (N := 3) hx hb hts in_Fade hown hK hP 0 rfl rfl 0 (by decide) (hts _ cw_130) (fun _ h9 => h9) rfl d_Fade_add_12 ?_
    refine va_alen (v := 6) hx hb hK hP 1 0 rfl rfl rfl d_Fade_add_15 ?_
    refine lv_icmp_ge (tgt := 65) hx hb d_Fade_add_16 (by decide) (fun c_2 => ?_) (fun c_2 => ?_)
    · refine lv_iconst (v := 0) hx hb d_Fade_add_65 (by decide) ?_
      have hm : m_fadeAdd g0 g1 cnt p0 p1 = (0, g0, g1, cnt) := by simp [m_fadeAdd, eq_false c_1, eq_true c_2]
      rw [hm]
      have hP9 := hP.sub (ws' := [(h0, .inr (1, [.ref a0, .ref a1, .int cnt])), (a0, .inl (k0, 6, .inl g0)), (a1, .inl (k1, 6, .inl g1))]) [0, 1, 2] rfl
      have hD9 := hD.sub (ws' := [(h0, .inr (1, [.ref a0, .ref a1, .int cnt])), (a0, .inl (k0, 6, .inl g0)), (a1, .inl (k1, 6, .inl g1))]) [0, 1, 2] (by decide) rfl
      have hK9 := hK.sub (tys' := [(k0, .int), (k1, .int)]) [0, 1] rfl
      exact W.zret (v := 0) hx hb hr (rfl) (fun t ht hW => ⟨⟨_, (), rfl, rfl, by rw [ht]; exact hP9, va_K.moved hW.alike hK9, hD9⟩, hS.F ht⟩) hS.2.2 d_Fade_add_66
    · refine lv_iload_n hx hb d_Fade_add_19 rfl (lv_at hl 1 rfl) ?_
      refine lv_i2l hx hb d_Fade_add_20 rfl ?_
      refine lv_lconst (v := 0) hx hb d_Fade_add_21 (by decide) ?_
      refine lv_ldc2 (v := 10000) hx hb hown (hts _ cw_563) d_Fade_add_22 ?_
      have hPc := hP.sub (ws' := []) [] rfl
      have hDc := hD.sub (ws' := []) [] (by decide) rfl
      have hKc := hK.sub (tys' := []) [] rfl
      have hFc := va_free (wc := []) hD hS hA [] rfl
      refine vp_callSi (va_Run.run (va_runSN (As := [.long p0.toInt64, .long 0, .long 10000]) (rest := [])  ⟨hx, hb, hml, hown, hts⟩ (c_Ct_isWithin l D p0.toInt64 0 10000 s.heap.size ) ⟨va_cnB 3 hts cg_Ct_isWithin rfl rfl rfl (hN _ cn_564) (hts _ cw_1) (by decide +kernel) ⟨Nat.le_of_ble_eq_true rfl, Nat.le_of_ble_eq_true rfl⟩, hts _ cw_268, trivial⟩ (cx_preS [.long p0.toInt64, .long 0, .long 10000] hPc hKc hDc hN hO hS hFc) rfl rfl hl.1 rfl (lv_room (Nat.le_of_ble_eq_true rfl)) d_Fade_add_25 ⟨Nat.le_of_ble_eq_true rfl, Nat.le_of_ble_eq_true rfl⟩)) (fun r z_3 => ?_)
      subst z_3
      refine lv_if_eq (tgt := 65) hx hb d_Fade_add_28 (by decide) (fun c_4 => ?_) (fun c_4 => ?_)
      · refine lv_iconst (v := 0) hx hb d_Fade_add_65 (by decide) ?_
        have hm : m_fadeAdd g0 g1 cnt p0 p1 = (0, g0, g1, cnt) := by simp [m_fadeAdd, eq_false c_1, eq_false c_2, eq_true c_4]
        rw [hm]
        have hP9 := hP.sub (ws' := [(h0, .inr (1, [.ref a0, .ref a1, .int cnt])), (a0, .inl (k0, 6, .inl g0)), (a1, .inl (k1, 6, .inl g1))]) [0, 1, 2] rfl
        have hD9 := hD.sub (ws' := [(h0, .inr (1, [.ref a0, .ref a1, .int cnt])), (a0, .inl (k0, 6, .inl g0)), (a1, .inl (k1, 6, .inl g1))]) [0, 1, 2] (by decide) rfl
        have hK9 := hK.sub (tys' := [(k0, .int), (k1, .int)]) [0, 1] rfl
        exact W.zret (v := 0) hx hb hr (rfl) (fun t ht hW => ⟨⟨_, (), rfl, rfl, by rw [ht]; exact hP9, va_K.moved hW.alike hK9, hD9⟩, hS.F ht⟩) hS.2.2 d_Fade_add_66
      · refine lv_iload_n hx hb d_Fade_add_31 rfl (lv_at hl 2 rfl) ?_
        refine lv_i2l hx hb d_Fade_add_32 rfl ?_
        refine lv_lconst (v := 0) hx hb d_Fade_add_33 (by decide) ?_
        refine lv_ldc2 (v := 1000) hx hb hown (hts _ cw_565) d_Fade_add_34 ?_
        have hPc := hP.sub (ws' := []) [] rfl
        have hDc := hD.sub (ws' := []) [] (by decide) rfl
        have hKc := hK.sub (tys' := []) [] rfl
        have hFc := va_free (wc := []) hD hS hA [] rfl
        refine vp_callSi (va_Run.run (va_runSN (As := [.long p1.toInt64, .long 0, .long 1000]) (rest := [])  ⟨hx, hb, hml, hown, hts⟩ (c_Ct_isWithin l D p1.toInt64 0 1000 s.heap.size ) ⟨va_cnB 3 hts cg_Ct_isWithin rfl rfl rfl (hN _ cn_564) (hts _ cw_1) (by decide +kernel) ⟨Nat.le_of_ble_eq_true rfl, Nat.le_of_ble_eq_true rfl⟩, hts _ cw_268, trivial⟩ (cx_preS [.long p1.toInt64, .long 0, .long 1000] hPc hKc hDc hN hO hS hFc) rfl rfl hl.1 rfl (lv_room (Nat.le_of_ble_eq_true rfl)) d_Fade_add_37 ⟨Nat.le_of_ble_eq_true rfl, Nat.le_of_ble_eq_true rfl⟩)) (fun r z_5 => ?_)
        subst z_5
        refine lv_if_eq (tgt := 65) hx hb d_Fade_add_40 (by decide) (fun c_6 => ?_) (fun c_6 => ?_)
        · refine lv_iconst (v := 0) hx hb d_Fade_add_65 (by decide) ?_
          have hm : m_fadeAdd g0 g1 cnt p0 p1 = (0, g0, g1, cnt) := by simp [m_fadeAdd, eq_false c_1, eq_false c_2, eq_false c_4, eq_true c_6]
          rw [hm]
          have hP9 := hP.sub (ws' := [(h0, .inr (1, [.ref a0, .ref a1, .int cnt])), (a0, .inl (k0, 6, .inl g0)), (a1, .inl (k1, 6, .inl g1))]) [0, 1, 2] rfl
          have hD9 := hD.sub (ws' := [(h0, .inr (1, [.ref a0, .ref a1, .int cnt])), (a0, .inl (k0, 6, .inl g0)), (a1, .inl (k1, 6, .inl g1))]) [0, 1, 2] (by decide) rfl
          have hK9 := hK.sub (tys' := [(k0, .int), (k1, .int)]) [0, 1] rfl
          exact W.zret (v := 0) hx hb hr (rfl) (fun t ht hW => ⟨⟨_, (), rfl, rfl, by rw [ht]; exact hP9, va_K.moved hW.alike hK9, hD9⟩, hS.F ht⟩) hS.2.2 d_Fade_add_66
        · refine lv_aload_n hx hb d_Fade_add_43 rfl (lv_at hl 0 rfl) ?_
          refine va_get (D := D) (ci := 1) (v := .int cnt) (C := R_Fade) (T := T_Fade) (N := 3) hx hb hts in_Fade hown hK hP 0 rfl rfl 2 (by decide) (hts _ cw_132) (fun _ h9 => h9) rfl d_Fade_add_44 ?_
          refine lv_if_le (tgt := 67) hx hb d_Fade_add_47 (by decide) (fun c_7 => ?_) (fun c_7 => ?_)
          · refine lv_aload_n hx hb d_Fade_add_67 rfl (lv_at hl 0 rfl) ?_
            refine va_get (D := D) (ci := 1) (v := .ref a0) (C := R_Fade) (T := T_Fade) (N := 3) hx hb hts in_Fade hown hK hP 0 rfl rfl 0 (by decide) (hts _ cw_130) (fun _ h9 => h9) rfl d_Fade_add_68 ?_
            refine lv_aload_n hx hb d_Fade_add_71 rfl (lv_at hl 0 rfl) ?_
            refine va_get (D := D) (ci := 1) (v := .int cnt) (C := R_Fade) (T := T_Fade) (N := 3) hx hb hts in_Fade hown hK hP 0 rfl rfl 2 (by decide) (hts _ cw_132) (fun _ h9 => h9) rfl d_Fade_add_72 ?_
            refine lv_iload_n hx hb d_Fade_add_75 rfl (lv_at hl 1 rfl) ?_
            refine va_iast hx hb hK hP hD hS 1 0 rfl rfl (cx_ix (n := 6) (by decide) c_1 c_2) d_Fade_add_76 (fun H locs hP hD hS => ?_)
            have hP : va_P D classes ([(h0, .inr (1, [.ref a0, .ref a1, .int cnt])), (a0, .inl (k0, 6, .inl (upd g0 cnt.toNatClampNeg p0))), (a1, .inl (k1, 6, .inl g1))]) H := hP
            have hD : va_D A ([(h0, .inr (1, [.ref a0, .ref a1, .int cnt])), (a0, .inl (k0, 6, .inl (upd g0 cnt.toNatClampNeg p0))), (a1, .inl (k1, 6, .inl g1))]) := hD
            refine lv_aload_n hx hb d_Fade_add_77 rfl (lv_at hl 0 rfl) ?_
            refine va_get (D := D) (ci := 1) (v := .ref a1) (C := R_Fade) (T := T_Fade) (N := 3) hx hb hts in_Fade hown hK hP 0 rfl rfl 1 (by decide) (hts _ cw_131) (fun _ h9 => h9) rfl d_Fade_add_78 ?_
            refine lv_aload_n hx hb d_Fade_add_81 rfl (lv_at hl 0 rfl) ?_
            refine va_get (D := D) (ci := 1) (v := .int cnt) (C := R_Fade) (T := T_Fade) (N := 3) hx hb hts in_Fade hown hK hP 0 rfl rfl 2 (by decide) (hts _ cw_132) (fun _ h9 => h9) rfl d_Fade_add_82 ?_
            refine lv_iload_n hx hb d_Fade_add_85 rfl (lv_at hl 2 rfl) ?_
            refine va_iast hx hb hK hP hD hS 2 1 rfl rfl (cx_ix (n := 6) (by decide) c_1 c_2) d_Fade_add_86 (fun H locs hP hD hS => ?_)
            have hP : va_P D classes ([(h0, .inr (1, [.ref a0, .ref a1, .int cnt])), (a0, .inl (k0, 6, .inl (upd g0 cnt.toNatClampNeg p0))), (a1, .inl (k1, 6, .inl (upd g1 cnt.toNatClampNeg p1)))]) H := hP
            have hD : va_D A ([(h0, .inr (1, [.ref a0, .ref a1, .int cnt])), (a0, .inl (k0, 6, .inl (upd g0 cnt.toNatClampNeg p0))), (a1, .inl (k1, 6, .inl (upd g1 cnt.toNatClampNeg p1)))]) := hD
            refine lv_aload_n hx hb d_Fade_add_87 rfl (lv_at hl 0 rfl) ?_
            refine lv_dup hx hb d_Fade_add_88 rfl ?_
            refine va_get (D := D) (ci := 1) (v := .int cnt) (C := R_Fade) (T := T_Fade) (N := 3) hx hb hts in_Fade hown hK hP 0 rfl rfl 2 (by decide) (hts _ cw_132) (fun _ h9 => h9) rfl d_Fade_add_89 ?_
            refine lv_iconst (v := 1) hx hb d_Fade_add_92 (by decide) ?_
            refine lv_iadd hx hb d_Fade_add_93 ?_
            refine va_put (D := D) (ci := 1) (v := .int (cnt + 1)) (ty := .int) (C := R_Fade) (T := T_Fade) (N := 3) hx hb hts in_Fade ty_Fade tyok_Fade nm_Fade hown hK hP hD hS 0 rfl rfl 2 (by decide) (hts _ cw_132) (fun _ h9 => h9) rfl (by decide +kernel) rfl rfl (Nat.le_of_ble_eq_true rfl) d_Fade_add_94 (fun H locs hP hD hS => ?_)
            have hP : va_P D classes ([(h0, .inr (1, [.ref a0, .ref a1, .int (cnt + 1)])), (a0, .inl (k0, 6, .inl (upd g0 cnt.toNatClampNeg p0))), (a1, .inl (k1, 6, .inl (upd g1 cnt.toNatClampNeg p1)))]) H := hP
            have hD : va_D A ([(h0, .inr (1, [.ref a0, .ref a1, .int (cnt + 1)])), (a0, .inl (k0, 6, .inl (upd g0 cnt.toNatClampNeg p0))), (a1, .inl (k1, 6, .inl (upd g1 cnt.toNatClampNeg p1)))]) := hD
            refine lv_iconst (v := 1) hx hb d_Fade_add_97 (by decide) ?_
            have hm : m_fadeAdd g0 g1 cnt p0 p1 = (1, upd g0 cnt.toNatClampNeg p0, upd g1 cnt.toNatClampNeg p1, cnt + 1) := by simp [m_fadeAdd, eq_false c_1, eq_false c_2, eq_false c_4, eq_false c_6, eq_true c_7]
            rw [hm]
            have hP9 := hP.sub (ws' := [(h0, .inr (1, [.ref a0, .ref a1, .int (cnt + 1)])), (a0, .inl (k0, 6, .inl (upd g0 cnt.toNatClampNeg p0))), (a1, .inl (k1, 6, .inl (upd g1 cnt.toNatClampNeg p1)))]) [0, 1, 2] rfl
            have hD9 := hD.sub (ws' := [(h0, .inr (1, [.ref a0, .ref a1, .int (cnt + 1)])), (a0, .inl (k0, 6, .inl (upd g0 cnt.toNatClampNeg p0))), (a1, .inl (k1, 6, .inl (upd g1 cnt.toNatClampNeg p1)))]) [0, 1, 2] (by decide) rfl
            have hK9 := hK.sub (tys' := [(k0, .int), (k1, .int)]) [0, 1] rfl
            exact W.zret (v := 1) hx hb hr (rfl) (fun t ht hW => ⟨⟨_, (), rfl, rfl, by rw [ht]; exact hP9, va_K.moved hW.alike hK9, hD9⟩, hS.F ht⟩) hS.2.2 d_Fade_add_98
          · refine lv_iload_n hx hb d_Fade_add_50 rfl (lv_at hl 1 rfl) ?_
            refine lv_aload_n hx hb d_Fade_add_51 rfl (lv_at hl 0 rfl) ?_
            refine va_get (D := D) (ci := 1) (v := .ref a0) (C := R_Fade) (T := T_Fade) (N := 3) hx hb hts in_Fade hown hK hP 0 rfl rfl 0 (by decide) (hts _ cw_130) (fun _ h9 => h9) rfl d_Fade_add_52 ?_
            refine lv_aload_n hx hb d_Fade_add_55 rfl (lv_at hl 0 rfl) ?_
            refine va_get (D := D) (ci := 1) (v := .int cnt) (C := R_Fade) (T := T_Fade) (N := 3) hx hb hts in_Fade hown hK hP 0 rfl rfl 2 (by decide) (hts _ cw_132) (fun _ h9 => h9) rfl d_Fade_add_56 ?_
            refine lv_iconst (v := 1) hx hb d_Fade_add_59 (by decide) ?_
            refine lv_isub hx hb d_Fade_add_60 ?_
            refine va_iald hx hb hK hP 1 0 rfl rfl (ix_pred (n := 6) (by decide) c_7 c_2) d_Fade_add_61 ?_
            refine lv_icmp_gt (tgt := 67) hx hb d_Fade_add_62 (by decide) (fun c_8 => ?_) (fun c_8 => ?_)
            · refine lv_aload_n hx hb d_Fade_add_67 rfl (lv_at hl 0 rfl) ?_
              refine va_get (D := D) (ci := 1) (v := .ref a0) (C := R_Fade) (T := T_Fade) (N := 3) hx hb hts in_Fade hown hK hP 0 rfl rfl 0 (by decide) (hts _ cw_130) (fun _ h9 => h9) rfl d_Fade_add_68 ?_
              refine lv_aload_n hx hb d_Fade_add_71 rfl (lv_at hl 0 rfl) ?_
              refine va_get (D := D) (ci := 1) (v := .int cnt) (C := R_Fade) (T := T_Fade) (N := 3) hx hb hts in_Fade hown hK hP 0 rfl rfl 2 (by decide) (hts _ cw_132) (fun _ h9 => h9) rfl d_Fade_add_72 ?_
              refine lv_iload_n hx hb d_Fade_add_75 rfl (lv_at hl 1 rfl) ?_
              refine va_iast hx hb hK hP hD hS 1 0 rfl rfl (cx_ix (n := 6) (by decide) c_1 c_2) d_Fade_add_76 (fun H locs hP hD hS => ?_)
              have hP : va_P D classes ([(h0, .inr (1, [.ref a0, .ref a1, .int cnt])), (a0, .inl (k0, 6, .inl (upd g0 cnt.toNatClampNeg p0))), (a1, .inl (k1, 6, .inl g1))]) H := hP
              have hD : va_D A ([(h0, .inr (1, [.ref a0, .ref a1, .int cnt])), (a0, .inl (k0, 6, .inl (upd g0 cnt.toNatClampNeg p0))), (a1, .inl (k1, 6, .inl g1))]) := hD
              refine lv_aload_n hx hb d_Fade_add_77 rfl (lv_at hl 0 rfl) ?_
              refine va_get (D := D) (ci := 1) (v := .ref a1) (C := R_Fade) (T := T_Fade) (N := 3) hx hb hts in_Fade hown hK hP 0 rfl rfl 1 (by decide) (hts _ cw_131) (fun _ h9 => h9) rfl d_Fade_add_78 ?_
              refine lv_aload_n hx hb d_Fade_add_81 rfl (lv_at hl 0 rfl) ?_
              refine va_get (D := D) (ci := 1) (v := .int cnt) (C := R_Fade) (T := T_Fade) (N := 3) hx hb hts in_Fade hown hK hP 0 rfl rfl 2 (by decide) (hts _ cw_132) (fun _ h9 => h9) rfl d_Fade_add_82 ?_
              refine lv_iload_n hx hb d_Fade_add_85 rfl (lv_at hl 2 rfl) ?_
              refine va_iast hx hb hK hP hD hS 2 1 rfl rfl (cx_ix (n := 6) (by decide) c_1 c_2) d_Fade_add_86 (fun H locs hP hD hS => ?_)
              have hP : va_P D classes ([(h0, .inr (1, [.ref a0, .ref a1, .int cnt])), (a0, .inl (k0, 6, .inl (upd g0 cnt.toNatClampNeg p0))), (a1, .inl (k1, 6, .inl (upd g1 cnt.toNatClampNeg p1)))]) H := hP
              have hD : va_D A ([(h0, .inr (1, [.ref a0, .ref a1, .int cnt])), (a0, .inl (k0, 6, .inl (upd g0 cnt.toNatClampNeg p0))), (a1, .inl (k1, 6, .inl (upd g1 cnt.toNatClampNeg p1)))]) := hD
              refine lv_aload_n hx hb d_Fade_add_87 rfl (lv_at hl 0 rfl) ?_
              refine lv_dup hx hb d_Fade_add_88 rfl ?_
              refine va_get (D := D) (ci := 1) (v := .int cnt) (C := R_Fade) (T := T_Fade) (N := 3) hx hb hts in_Fade hown hK hP 0 rfl rfl 2 (by decide) (hts _ cw_132) (fun _ h9 => h9) rfl d_Fade_add_89 ?_
              refine lv_iconst (v := 1) hx hb d_Fade_add_92 (by decide) ?_
              refine lv_iadd hx hb d_Fade_add_93 ?_
              refine va_put (D := D) (ci := 1) (v := .int (cnt + 1)) (ty := .int) (C := R_Fade) (T := T_Fade) (N := 3) hx hb hts in_Fade ty_Fade tyok_Fade nm_Fade hown hK hP hD hS 0 rfl rfl 2 (by decide) (hts _ cw_132) (fun _ h9 => h9) rfl (by decide +kernel) rfl rfl (Nat.le_of_ble_eq_true rfl) d_Fade_add_94 (fun H locs hP hD hS => ?_)
              have hP : va_P D classes ([(h0, .inr (1, [.ref a0, .ref a1, .int (cnt + 1)])), (a0, .inl (k0, 6, .inl (upd g0 cnt.toNatClampNeg p0))), (a1, .inl (k1, 6, .inl (upd g1 cnt.toNatClampNeg p1)))]) H := hP
              have hD : va_D A ([(h0, .inr (1, [.ref a0, .ref a1, .int (cnt + 1)])), (a0, .inl (k0, 6, .inl (upd g0 cnt.toNatClampNeg p0))), (a1, .inl (k1, 6, .inl (upd g1 cnt.toNatClampNeg p1)))]) := hD
              refine lv_iconst (v := 1) hx hb d_Fade_add_97 (by decide) ?_
              have hm : m_fadeAdd g0 g1 cnt p0 p1 = (1, upd g0 cnt.toNatClampNeg p0, upd g1 cnt.toNatClampNeg p1, cnt + 1) := by simp [m_fadeAdd, eq_false c_1, eq_false c_2, eq_false c_4, eq_false c_6, eq_false c_7, eq_true c_8]
              rw [hm]
              have hP9 := hP.sub (ws' := [(h0, .inr (1, [.ref a0, .ref a1, .int (cnt + 1)])), (a0, .inl (k0, 6, .inl (upd g0 cnt.toNatClampNeg p0))), (a1, .inl (k1, 6, .inl (upd g1 cnt.toNatClampNeg p1)))]) [0, 1, 2] rfl
              have hD9 := hD.sub (ws' := [(h0, .inr (1, [.ref a0, .ref a1, .int (cnt + 1)])), (a0, .inl (k0, 6, .inl (upd g0 cnt.toNatClampNeg p0))), (a1, .inl (k1, 6, .inl (upd g1 cnt.toNatClampNeg p1)))]) [0, 1, 2] (by decide) rfl
              have hK9 := hK.sub (tys' := [(k0, .int), (k1, .int)]) [0, 1] rfl
              exact W.zret (v := 1) hx hb hr (rfl) (fun t ht hW => ⟨⟨_, (), rfl, rfl, by rw [ht]; exact hP9, va_K.moved hW.alike hK9, hD9⟩, hS.F ht⟩) hS.2.2 d_Fade_add_98
            · refine lv_iconst (v := 0) hx hb d_Fade_add_65 (by decide) ?_
              have hm : m_fadeAdd g0 g1 cnt p0 p1 = (0, g0, g1, cnt) := by simp [m_fadeAdd, eq_false c_1, eq_false c_2, eq_false c_4, eq_false c_6, eq_false c_7, eq_false c_8]
              rw [hm]
              have hP9 := hP.sub (ws' := [(h0, .inr (1, [.ref a0, .ref a1, .int cnt])), (a0, .inl (k0, 6, .inl g0)), (a1, .inl (k1, 6, .inl g1))]) [0, 1, 2] rfl
              have hD9 := hD.sub (ws' := [(h0, .inr (1, [.ref a0, .ref a1, .int cnt])), (a0, .inl (k0, 6, .inl g0)), (a1, .inl (k1, 6, .inl g1))]) [0, 1, 2] (by decide) rfl
              have hK9 := hK.sub (tys' := [(k0, .int), (k1, .int)]) [0, 1] rfl
              exact W.zret (v := 0) hx hb hr (rfl) (fun t ht hW => ⟨⟨_, (), rfl, rfl, by rw [ht]; exact hP9, va_K.moved hW.alike hK9, hD9⟩, hS.F ht⟩) hS.2.2 d_Fade_add_66

set_option maxHeartbeats 4000000 in
set_option maxRecDepth 100000 in
/-- FadeRows.fadeBy -/
theorem c_Fade_fadeBy (l : Launch) (D : va_G)  (p0 : Int64) (p1 : Int32) (p2 : Int32) (sz : Nat)  : Met l y_Fade_fadeBy ws_Fade_fadeBy ({ frames := 0, cells := 0, slots := 0, locals := 0 }) (va_Pc [.long p0, .int p1, .int p2] (cx_pre D [] ([]) sz)) (vp_Sl (fun r9 => r9 = m_fadeBy p1 p2 (p2.toNatClampNeg + 1) 0 p0)) 0 0 (fun _ => False) := by
  refine Met.ofW (cc := b_Fade_fadeBy) (maxL := 9) (ret := (some .long)) (by decide) rfl ?_
  intro p e s m args below meth c s₁ B hml hv
  obtain ⟨rfl, hsz, hP, hK, hD0, hN, hO⟩ := hv
  have hx := B.exec
  have hb := B.bytes
  have hr := B.returns
  have hts := fun (w : Cond) (h : w ∈ cx_tbl) => atoms_spec (ws := ws_Fade_fadeBy) B.pre w (List.mem_cons_of_mem _ h)
  have hown : s.vm.findClass R_Fade = some m.cls := findClass_of_methodNamed B.named
  have hlocks := B.notSynchronized
  subst hsz
  have hD := hD0.self (sz := s.heap.size)
  generalize hAe : va_A ([]) s.heap.size = A at hD hO
  have hA : ∀ q : Nat, s.heap.size ≤ q → A q := fun q h => by rw [← hAe]; exact Or.inr h
  have hS : va_S A s.heap s.heap [] := va_S.rf
  have hl := lv_entry ([.long p0, .int p1, .int p2]) (n := 9) (Nat.le_of_ble_eq_true rfl)
  rw [lg_entry_eq]
  generalize (lg_sl ([.long p0, .int p1, .int p2]) ++ List.replicate (9 - (lg_sl ([.long p0, .int p1, .int p2])).length) Slot.unset).toArray = ls at hl ⊢
  have hl : lv_has ls 9 [(0, .long p0), (2, .int p1), (3, .int p2)] := hl
  refine cx_q (fun Q hQ => ?_)
  refine lv_lload_n hx hb d_Fade_fadeBy_0 rfl (lv_at hl 0 rfl) ?_
  refine lv_lstore (lv' := [(4, .long p0), (0, .long p0), (2, .int p1), (3, .int p2)]) hx hb d_Fade_fadeBy_1 hl (by decide) rfl (fun ls hl => ?_)
  refine lv_iconst (v := 0) hx hb d_Fade_fadeBy_3 (by decide) ?_
  refine lv_istore (lv' := [(6, .int 0), (4, .long p0), (0, .long p0), (2, .int p1), (3, .int p2)]) hx hb d_Fade_fadeBy_4 hl (by decide) rfl (fun ls hl => ?_)
  have loop_1 : ∀ (n : Nat) (i : Nat) (left : Int64) (hi : i ≤ p2.toNatClampNeg) (hn : i + n = p2.toNatClampNeg + 1) (hg : m_fadeBy p1 p2 (p2.toNatClampNeg + 1) 0 p0 = m_fadeBy p1 p2 n i left) (ls : Array Slot) (hl : lv_has ls 9 [(0, .long p0), (2, .int p1), (3, .int p2), (4, .long left), (6, .int (nI i))]), W p l e ({ frames := 0, cells := 0, slots := 0, locals := 0 }) s m [.long p0, .int p1, .int p2].toArray below meth c s.heap [] 0 0 Q (F0 m 6 ls []) := by
    intro n
    induction n with
    | zero =>
      intro i left hi hn hg ls hl
      exact absurd hn (by omega)
    | succ n ih_6 =>
      intro i left hi hn hg ls hl
      refine lv_iload hx hb d_Fade_fadeBy_6 (lv_at hl 4 rfl) ?_
      refine lv_iload_n hx hb d_Fade_fadeBy_8 rfl (lv_at hl 2 rfl) ?_
      refine lv_icmp_ge (tgt := 46) hx hb d_Fade_fadeBy_9 (by decide) (fun c_2 => ?_) (fun c_2 => ?_)
      · refine lv_lload hx hb d_Fade_fadeBy_46 (lv_at hl 3 rfl) ?_
        subst hQ
        exact W.lret (v := left) hx hb hr (fun t ht hW => ⟨_, rfl, (hg.trans (by rw [m_fadeBy]; simp [eq_true c_2])).symm, ht⟩) (fun q h => by cases h) d_Fade_fadeBy_48
      · refine lv_lload hx hb d_Fade_fadeBy_12 (lv_at hl 3 rfl) ?_
        refine lv_iload_n hx hb d_Fade_fadeBy_14 rfl (lv_at hl 1 rfl) ?_
        refine lv_i2l hx hb d_Fade_fadeBy_15 rfl ?_
        refine lv_lmul hx hb d_Fade_fadeBy_16 ?_
        refine lv_ldc2 (v := 1000) hx hb hown (hts _ cw_565) d_Fade_fadeBy_17 ?_
        refine lv_ldiv hx hb d_Fade_fadeBy_20 (by decide) ?_
        refine lv_lstore (lv' := [(7, .long ((left * p1.toInt64) / 1000)), (0, .long p0), (2, .int p1), (3, .int p2), (4, .long left), (6, .int (nI i))]) hx hb d_Fade_fadeBy_21 hl (by decide) rfl (fun ls hl => ?_)
        refine lv_lload hx hb d_Fade_fadeBy_23 (lv_at hl 0 rfl) ?_
        refine lv_lconst (v := 0) hx hb d_Fade_fadeBy_25 (by decide) ?_
        refine W.lcmp hx hb d_Fade_fadeBy_26 ?_
        refine lv_if_ne (tgt := 33) hx hb d_Fade_fadeBy_27 (by decide) (fun c_3 => ?_) (fun c_3 => ?_)
        · have c_3 := (not_congr (lg_cmp_eq ((left * p1.toInt64) / 1000) 0)).mp c_3
          refine lv_lload hx hb d_Fade_fadeBy_33 (lv_at hl 4 rfl) ?_
          refine lv_lload hx hb d_Fade_fadeBy_35 (lv_at hl 0 rfl) ?_
          refine lv_lsub hx hb d_Fade_fadeBy_37 ?_
          refine lv_lstore (lv' := [(4, .long (left - ((left * p1.toInt64) / 1000))), (7, .long ((left * p1.toInt64) / 1000)), (0, .long p0), (2, .int p1), (3, .int p2), (6, .int (nI i))]) hx hb d_Fade_fadeBy_38 hl (by decide) rfl (fun ls hl => ?_)
          refine lv_iinc (v := nI (i + 1)) (lv' := [(6, .int (nI (i + 1))), (4, .long (left - ((left * p1.toInt64) / 1000))), (7, .long ((left * p1.toInt64) / 1000)), (0, .long p0), (2, .int p1), (3, .int p2)]) hx hb d_Fade_fadeBy_40 hl (k := 5) rfl (nI_1 i) (by decide) rfl (fun ls hl => ?_)
          refine lv_goto (tgt := 6) hx hb d_Fade_fadeBy_43 (by decide) ?_
          exact ih_6 (i + 1) (left - ((left * p1.toInt64) / 1000)) (ix_clamp c_2 (Nat.lt_of_le_of_lt hi (Int32.toNatClampNeg_lt p2))) (by omega) (hg.trans (by rw [m_fadeBy]; simp [eq_false c_2, eq_false c_3])) ls (lv_sub hl [3, 4, 5, 1, 0] rfl)
        · have c_3 := (lg_cmp_eq ((left * p1.toInt64) / 1000) 0).mp c_3
          refine lv_lload hx hb d_Fade_fadeBy_30 (lv_at hl 4 rfl) ?_
          subst hQ
          exact W.lret (v := left) hx hb hr (fun t ht hW => ⟨_, rfl, (hg.trans (by rw [m_fadeBy]; simp [eq_false c_2, eq_true c_3])).symm, ht⟩) (fun q h => by cases h) d_Fade_fadeBy_32
  exact loop_1 (p2.toNatClampNeg + 1) 0 p0 (by omega) (by omega) (rfl) ls (lv_sub hl [2, 3, 4, 1, 0] rfl)

set_option maxHeartbeats 4000000 in
set_option maxRecDepth 100000 in
/-- FadeRows.leftOf -/
theorem c_Fade_leftOf (l : Launch) (D : va_G)  (h0 : Nat) (a0 : Nat) (a1 : Nat) (k0 : ClassId) (k1 : ClassId) (g0 : Nat → Int32) (g1 : Nat → Int32) (cnt : Int32) (p0 : Int64) (p1 : Int32) (sz : Nat)  : Met l y_Fade_leftOf ws_Fade_leftOf ({ frames := 1, cells := 0, slots := 0, locals := 28 }) (va_Pc [.ref h0, .long p0, .int p1] (cx_pre D [(k0, .int), (k1, .int)] ([(h0, .inr (1, [.ref a0, .ref a1, .int cnt])), (a0, .inl (k0, 6, .inl g0)), (a1, .inl (k1, 6, .inl g1))]) sz)) (vp_Sl (fun r9 => r9 = m_leftOf g0 g1 cnt p1 7 0 p0)) 0 0 (fun _ => False) := by
  refine Met.ofW (cc := b_Fade_leftOf) (maxL := 8) (ret := (some .long)) (by decide) rfl ?_
  intro p e s m args below meth c s₁ B hml hv
  obtain ⟨rfl, hsz, hP, hK, hD0, hN, hO⟩ := hv
  have hx := B.exec
  have hb := B.bytes
  have hr := B.returns
  have hts := fun (w : Cond) (h : w ∈ cx_tbl) => atoms_spec (ws := ws_Fade_leftOf) B.pre w (List.mem_cons_of_mem _ h)
  have hown : s.vm.findClass R_Fade = some m.cls := findClass_of_methodNamed B.named
  have hlocks := B.notSynchronized
  subst hsz
  have hD := hD0.self (sz := s.heap.size)
  generalize hAe : va_A ([(h0, .inr (1, [.ref a0, .ref a1, .int cnt])), (a0, .inl (k0, 6, .inl g0)), (a1, .inl (k1, 6, .inl g1))]) s.heap.size = A at hD hO
  have hA : ∀ q : Nat, s.heap.size ≤ q → A q := fun q h => by rw [← hAe]; exact Or.inr h
  have hS : va_S A s.heap s.heap [] := va_S.rf
  have hl := lv_entry ([.ref h0, .long p0, .int p1]) (n := 8) (Nat.le_of_ble_eq_true rfl)
  rw [lg_entry_eq]
  generalize (lg_sl ([.ref h0, .long p0, .int p1]) ++ List.replicate (8 - (lg_sl ([.ref h0, .long p0, .int p1])).length) Slot.unset).toArray = ls at hl ⊢
  have hl : lv_has ls 8 [(0, .ref h0), (1, .long p0), (3, .int p1)] := hl
  refine cx_q (fun Q hQ => ?_)
  refine lv_lload_n hx hb d_Fade_leftOf_0 rfl (lv_at hl 1 rfl) ?_
  refine lv_lstore (lv' := [(4, .long p0), (0, .ref h0), (1, .long p0), (3, .int p1)]) hx hb d_Fade_leftOf_1 hl (by decide) rfl (fun ls hl => ?_)
  refine lv_iconst (v := 0) hx hb d_Fade_leftOf_3 (by decide) ?_
  refine lv_istore (lv' := [(6, .int 0), (4, .long p0), (0, .ref h0), (1, .long p0), (3, .int p1)]) hx hb d_Fade_leftOf_4 hl (by decide) rfl (fun ls hl => ?_)
  have loop_1 : ∀ (n : Nat) (i : Nat) (left : Int64) (hi : i ≤ 6) (hn : i + n = 6 + 1) (hg : m_leftOf g0 g1 cnt p1 7 0 p0 = m_leftOf g0 g1 cnt p1 n i left) (ls : Array Slot) (hl : lv_has ls 8 [(0, .ref h0), (1, .long p0), (3, .int p1), (4, .long left), (6, .int (nI i))]), W p l e ({ frames := 1, cells := 0, slots := 0, locals := 28 }) s m [.ref h0, .long p0, .int p1].toArray below meth c s.heap [] 0 0 Q (F0 m 6 ls []) := by
    intro n
    induction n with
    | zero =>
      intro i left hi hn hg ls hl
      exact absurd hn (by omega)
    | succ n ih_6 =>
      intro i left hi hn hg ls hl
      refine lv_iload hx hb d_Fade_leftOf_6 (lv_at hl 4 rfl) ?_
      refine lv_aload_n hx hb d_Fade_leftOf_8 rfl (lv_at hl 0 rfl) ?_
      refine va_get (D := D) (ci := 1) (v := .int cnt) (C := R_Fade) (T := T_Fade) (N := 3) hx hb hts in_Fade hown hK hP 0 rfl rfl 2 (by decide) (hts _ cw_132) (fun _ h9 => h9) rfl d_Fade_leftOf_9 ?_
      refine lv_icmp_ge (tgt := 97) hx hb d_Fade_leftOf_12 (by decide) (fun c_2 => ?_) (fun c_2 => ?_)
      · refine lv_lload hx hb d_Fade_leftOf_97 (lv_at hl 3 rfl) ?_
        subst hQ
        exact W.lret (v := left) hx hb hr (fun t ht hW => ⟨_, rfl, (hg.trans (by rw [m_leftOf]; simp [eq_true c_2])).symm, ht⟩) (fun q h => by cases h) d_Fade_leftOf_99
      · refine lv_iload hx hb d_Fade_leftOf_15 (lv_at hl 4 rfl) ?_
        refine lv_aload_n hx hb d_Fade_leftOf_17 rfl (lv_at hl 0 rfl) ?_
        refine va_get (D := D) (ci := 1) (v := .ref a0) (C := R_Fade) (T := T_Fade) (N := 3) hx hb hts in_Fade hown hK hP 0 rfl rfl 0 (by decide) (hts _ cw_130) (fun _ h9 => h9) rfl d_Fade_leftOf_18 ?_
        refine va_alen (v := 6) hx hb hK hP 1 0 rfl rfl rfl d_Fade_leftOf_21 ?_
        refine lv_icmp_ge (tgt := 97) hx hb d_Fade_leftOf_22 (by decide) (fun c_3 => ?_) (fun c_3 => ?_)
        · refine lv_lload hx hb d_Fade_leftOf_97 (lv_at hl 3 rfl) ?_
          subst hQ
          exact W.lret (v := left) hx hb hr (fun t ht hW => ⟨_, rfl, (hg.trans (by rw [m_leftOf]; simp [eq_false c_2, eq_true c_3])).symm, ht⟩) (fun q h => by cases h) d_Fade_leftOf_99
        · refine lv_iload hx hb d_Fade_leftOf_25 (lv_at hl 4 rfl) ?_
          refine lv_iconst (v := 1) hx hb d_Fade_leftOf_27 (by decide) ?_
          refine lv_iadd hx hb d_Fade_leftOf_28 ?_
          refine lv_aload_n hx hb d_Fade_leftOf_29 rfl (lv_at hl 0 rfl) ?_
          refine va_get (D := D) (ci := 1) (v := .int cnt) (C := R_Fade) (T := T_Fade) (N := 3) hx hb hts in_Fade hown hK hP 0 rfl rfl 2 (by decide) (hts _ cw_132) (fun _ h9 => h9) rfl d_Fade_leftOf_30 ?_
          refine lv_icmp_ge (tgt := 60) hx hb d_Fade_leftOf_33 (by decide) (fun c_4 => ?_) (fun c_4 => ?_)
          · refine lv_iload_n hx hb d_Fade_leftOf_60 rfl (lv_at hl 2 rfl) ?_
            refine lv_istore (lv' := [(7, .int p1), (0, .ref h0), (1, .long p0), (3, .int p1), (4, .long left), (6, .int (nI i))]) hx hb d_Fade_leftOf_61 hl (by decide) rfl (fun ls hl => ?_)
            refine lv_lload hx hb d_Fade_leftOf_63 (lv_at hl 4 rfl) ?_
            refine lv_aload_n hx hb d_Fade_leftOf_65 rfl (lv_at hl 1 rfl) ?_
            refine va_get (D := D) (ci := 1) (v := .ref a1) (C := R_Fade) (T := T_Fade) (N := 3) hx hb hts in_Fade hown hK hP 0 rfl rfl 1 (by decide) (hts _ cw_131) (fun _ h9 => h9) rfl d_Fade_leftOf_66 ?_
            refine lv_iload hx hb d_Fade_leftOf_69 (lv_at hl 5 rfl) ?_
            refine va_iald hx hb hK hP 2 1 rfl rfl (vp_in_nI (ix_nge (k := 6) c_3) (by decide)) d_Fade_leftOf_71 ?_
            refine lv_iload hx hb d_Fade_leftOf_72 (lv_at hl 0 rfl) ?_
            refine lv_iload_n hx hb d_Fade_leftOf_74 rfl (lv_at hl 3 rfl) ?_
            refine va_mmin hx hb (by rw [hml]; exact hl.1.symm) hown (hts _ cw_575) (hts _ cw_576) (hts _ cw_12) (hts _ cw_577) (Nat.le_of_ble_eq_true rfl) (Nat.le_of_ble_eq_true rfl) (Nat.le_of_ble_eq_true rfl) (Nat.le_of_ble_eq_true rfl) d_Fade_leftOf_75 ?_
            refine lv_aload_n hx hb d_Fade_leftOf_78 rfl (lv_at hl 1 rfl) ?_
            refine va_get (D := D) (ci := 1) (v := .ref a0) (C := R_Fade) (T := T_Fade) (N := 3) hx hb hts in_Fade hown hK hP 0 rfl rfl 0 (by decide) (hts _ cw_130) (fun _ h9 => h9) rfl d_Fade_leftOf_79 ?_
            refine lv_iload hx hb d_Fade_leftOf_82 (lv_at hl 5 rfl) ?_
            refine va_iald hx hb hK hP 1 0 rfl rfl (vp_in_nI (ix_nge (k := 6) c_3) (by decide)) d_Fade_leftOf_84 ?_
            refine lv_isub hx hb d_Fade_leftOf_85 ?_
            have hPc := hP.sub (ws' := []) [] rfl
            have hDc := hD.sub (ws' := []) [] (by decide) rfl
            have hKc := hK.sub (tys' := []) [] rfl
            have hFc := va_free (wc := []) hD hS hA [] rfl
            refine vp_callSl (va_Run.run (va_runS (As := [.long left, .int (g1 ((nI i).toNatClampNeg)), .int ((m_min p1 p1) - (g0 ((nI i).toNatClampNeg)))]) (rest := [])  ⟨hx, hb, hml, hown, hts⟩ (c_Fade_fadeBy l D left (g1 ((nI i).toNatClampNeg)) ((m_min p1 p1) - (g0 ((nI i).toNatClampNeg))) s.heap.size ) ⟨callB_of 3 hts cg_Fade_fadeBy rfl rfl rfl (hts _ cw_5) (hts _ cw_578) (by decide +kernel) ⟨Nat.le_of_ble_eq_true rfl, Nat.le_of_ble_eq_true rfl⟩, hts _ cw_579⟩ (cx_preS [.long left, .int (g1 ((nI i).toNatClampNeg)), .int ((m_min p1 p1) - (g0 ((nI i).toNatClampNeg)))] hPc hKc hDc hN hO hS hFc) rfl rfl hl.1 rfl (lv_room (Nat.le_of_ble_eq_true rfl)) d_Fade_leftOf_86 ⟨Nat.le_of_ble_eq_true rfl, Nat.le_of_ble_eq_true rfl⟩)) (fun r z_5 => ?_)
            subst z_5
            refine lv_lstore (lv' := [(4, .long (m_fadeBy (g1 ((nI i).toNatClampNeg)) ((m_min p1 p1) - (g0 ((nI i).toNatClampNeg))) (((m_min p1 p1) - (g0 ((nI i).toNatClampNeg))).toNatClampNeg + 1) 0 left)), (7, .int p1), (0, .ref h0), (1, .long p0), (3, .int p1), (6, .int (nI i))]) hx hb d_Fade_leftOf_89 hl (by decide) rfl (fun ls hl => ?_)
            refine lv_iinc (v := nI (i + 1)) (lv' := [(6, .int (nI (i + 1))), (4, .long (m_fadeBy (g1 ((nI i).toNatClampNeg)) ((m_min p1 p1) - (g0 ((nI i).toNatClampNeg))) (((m_min p1 p1) - (g0 ((nI i).toNatClampNeg))).toNatClampNeg + 1) 0 left)), (7, .int p1), (0, .ref h0), (1, .long p0), (3, .int p1)]) hx hb d_Fade_leftOf_91 hl (k := 5) rfl (nI_1 i) (by decide) rfl (fun ls hl => ?_)
            refine lv_goto (tgt := 6) hx hb d_Fade_leftOf_94 (by decide) ?_
            exact ih_6 (i + 1) (m_fadeBy (g1 ((nI i).toNatClampNeg)) ((m_min p1 p1) - (g0 ((nI i).toNatClampNeg))) (((m_min p1 p1) - (g0 ((nI i).toNatClampNeg))).toNatClampNeg + 1) 0 left) (ix_nge (k := 6) c_3) (by omega) (hg.trans (by rw [m_leftOf]; simp [eq_false c_2, eq_false c_3, eq_true c_4])) ls (lv_sub hl [3, 4, 5, 1, 0] rfl)
          · refine lv_iload hx hb d_Fade_leftOf_36 (lv_at hl 4 rfl) ?_
            refine lv_iconst (v := 1) hx hb d_Fade_leftOf_38 (by decide) ?_
            refine lv_iadd hx hb d_Fade_leftOf_39 ?_
            refine lv_aload_n hx hb d_Fade_leftOf_40 rfl (lv_at hl 0 rfl) ?_
            refine va_get (D := D) (ci := 1) (v := .ref a0) (C := R_Fade) (T := T_Fade) (N := 3) hx hb hts in_Fade hown hK hP 0 rfl rfl 0 (by decide) (hts _ cw_130) (fun _ h9 => h9) rfl d_Fade_leftOf_41 ?_
            refine va_alen (v := 6) hx hb hK hP 1 0 rfl rfl rfl d_Fade_leftOf_44 ?_
            refine lv_icmp_ge (tgt := 60) hx hb d_Fade_leftOf_45 (by decide) (fun c_6 => ?_) (fun c_6 => ?_)
            · refine lv_iload_n hx hb d_Fade_leftOf_60 rfl (lv_at hl 2 rfl) ?_
              refine lv_istore (lv' := [(7, .int p1), (0, .ref h0), (1, .long p0), (3, .int p1), (4, .long left), (6, .int (nI i))]) hx hb d_Fade_leftOf_61 hl (by decide) rfl (fun ls hl => ?_)
              refine lv_lload hx hb d_Fade_leftOf_63 (lv_at hl 4 rfl) ?_
              refine lv_aload_n hx hb d_Fade_leftOf_65 rfl (lv_at hl 1 rfl) ?_
              refine va_get (D := D) (ci := 1) (v := .ref a1) (C := R_Fade) (T := T_Fade) (N := 3) hx hb hts in_Fade hown hK hP 0 rfl rfl 1 (by decide) (hts _ cw_131) (fun _ h9 => h9) rfl d_Fade_leftOf_66 ?_
              refine lv_iload hx hb d_Fade_leftOf_69 (lv_at hl 5 rfl) ?_
              refine va_iald hx hb hK hP 2 1 rfl rfl (vp_in_nI (ix_nge (k := 6) c_3) (by decide)) d_Fade_leftOf_71 ?_
              refine lv_iload hx hb d_Fade_leftOf_72 (lv_at hl 0 rfl) ?_
              refine lv_iload_n hx hb d_Fade_leftOf_74 rfl (lv_at hl 3 rfl) ?_
              refine va_mmin hx hb (by rw [hml]; exact hl.1.symm) hown (hts _ cw_575) (hts _ cw_576) (hts _ cw_12) (hts _ cw_577) (Nat.le_of_ble_eq_true rfl) (Nat.le_of_ble_eq_true rfl) (Nat.le_of_ble_eq_true rfl) (Nat.le_of_ble_eq_true rfl) d_Fade_leftOf_75 ?_
              refine lv_aload_n hx hb d_Fade_leftOf_78 rfl (lv_at hl 1 rfl) ?_
              refine va_get (D := D) (ci := 1) (v := .ref a0) (C := R_Fade) (T := T_Fade) (N := 3) hx hb hts in_Fade hown hK hP 0 rfl rfl 0 (by decide) (hts _ cw_130) (fun _ h9 => h9) rfl d_Fade_leftOf_79 ?_
              refine lv_iload hx hb d_Fade_leftOf_82 (lv_at hl 5 rfl) ?_
              refine va_iald hx hb hK hP 1 0 rfl rfl (vp_in_nI (ix_nge (k := 6) c_3) (by decide)) d_Fade_leftOf_84 ?_
              refine lv_isub hx hb d_Fade_leftOf_85 ?_
              have hPc := hP.sub (ws' := []) [] rfl
              have hDc := hD.sub (ws' := []) [] (by decide) rfl
              have hKc := hK.sub (tys' := []) [] rfl
              have hFc := va_free (wc := []) hD hS hA [] rfl
              refine vp_callSl (va_Run.run (va_runS (As := [.long left, .int (g1 ((nI i).toNatClampNeg)), .int ((m_min p1 p1) - (g0 ((nI i).toNatClampNeg)))]) (rest := [])  ⟨hx, hb, hml, hown, hts⟩ (c_Fade_fadeBy l D left (g1 ((nI i).toNatClampNeg)) ((m_min p1 p1) - (g0 ((nI i).toNatClampNeg))) s.heap.size ) ⟨callB_of 3 hts cg_Fade_fadeBy rfl rfl rfl (hts _ cw_5) (hts _ cw_578) (by decide +kernel) ⟨Nat.le_of_ble_eq_true rfl, Nat.le_of_ble_eq_true rfl⟩, hts _ cw_579⟩ (cx_preS [.long left, .int (g1 ((nI i).toNatClampNeg)), .int ((m_min p1 p1) - (g0 ((nI i).toNatClampNeg)))] hPc hKc hDc hN hO hS hFc) rfl rfl hl.1 rfl (lv_room (Nat.le_of_ble_eq_true rfl)) d_Fade_leftOf_86 ⟨Nat.le_of_ble_eq_true rfl, Nat.le_of_ble_eq_true rfl⟩)) (fun r z_7 => ?_)
              subst z_7
              refine lv_lstore (lv' := [(4, .long (m_fadeBy (g1 ((nI i).toNatClampNeg)) ((m_min p1 p1) - (g0 ((nI i).toNatClampNeg))) (((m_min p1 p1) - (g0 ((nI i).toNatClampNeg))).toNatClampNeg + 1) 0 left)), (7, .int p1), (0, .ref h0), (1, .long p0), (3, .int p1), (6, .int (nI i))]) hx hb d_Fade_leftOf_89 hl (by decide) rfl (fun ls hl => ?_)
              refine lv_iinc (v := nI (i + 1)) (lv' := [(6, .int (nI (i + 1))), (4, .long (m_fadeBy (g1 ((nI i).toNatClampNeg)) ((m_min p1 p1) - (g0 ((nI i).toNatClampNeg))) (((m_min p1 p1) - (g0 ((nI i).toNatClampNeg))).toNatClampNeg + 1) 0 left)), (7, .int p1), (0, .ref h0), (1, .long p0), (3, .int p1)]) hx hb d_Fade_leftOf_91 hl (k := 5) rfl (nI_1 i) (by decide) rfl (fun ls hl => ?_)
              refine lv_goto (tgt := 6) hx hb d_Fade_leftOf_94 (by decide) ?_
              exact ih_6 (i + 1) (m_fadeBy (g1 ((nI i).toNatClampNeg)) ((m_min p1 p1) - (g0 ((nI i).toNatClampNeg))) (((m_min p1 p1) - (g0 ((nI i).toNatClampNeg))).toNatClampNeg + 1) 0 left) (ix_nge (k := 6) c_3) (by omega) (hg.trans (by rw [m_leftOf]; simp [eq_false c_2, eq_false c_3, eq_false c_4, eq_true c_6])) ls (lv_sub hl [3, 4, 5, 1, 0] rfl)
            · refine lv_aload_n hx hb d_Fade_leftOf_48 rfl (lv_at hl 0 rfl) ?_
              refine va_get (D := D) (ci := 1) (v := .ref a0) (C := R_Fade) (T := T_Fade) (N := 3) hx hb hts in_Fade hown hK hP 0 rfl rfl 0 (by decide) (hts _ cw_130) (fun _ h9 => h9) rfl d_Fade_leftOf_49 ?_
              refine lv_iload hx hb d_Fade_leftOf_52 (lv_at hl 4 rfl) ?_
              refine lv_iconst (v := 1) hx hb d_Fade_leftOf_54 (by decide) ?_
              refine lv_iadd hx hb d_Fade_leftOf_55 ?_
              refine va_iald hx hb hK hP 1 0 rfl rfl (ix_in1 (n := 6) (by decide) (by omega) c_6) d_Fade_leftOf_56 ?_
              refine lv_goto (tgt := 61) hx hb d_Fade_leftOf_57 (by decide) ?_
              refine lv_istore (lv' := [(7, .int (g0 (((nI i) + 1).toNatClampNeg))), (0, .ref h0), (1, .long p0), (3, .int p1), (4, .long left), (6, .int (nI i))]) hx hb d_Fade_leftOf_61 hl (by decide) rfl (fun ls hl => ?_)
              refine lv_lload hx hb d_Fade_leftOf_63 (lv_at hl 4 rfl) ?_
              refine lv_aload_n hx hb d_Fade_leftOf_65 rfl (lv_at hl 1 rfl) ?_
              refine va_get (D := D) (ci := 1) (v := .ref a1) (C := R_Fade) (T := T_Fade) (N := 3) hx hb hts in_Fade hown hK hP 0 rfl rfl 1 (by decide) (hts _ cw_131) (fun _ h9 => h9) rfl d_Fade_leftOf_66 ?_
              refine lv_iload hx hb d_Fade_leftOf_69 (lv_at hl 5 rfl) ?_
              refine va_iald hx hb hK hP 2 1 rfl rfl (vp_in_nI (ix_nge (k := 6) c_3) (by decide)) d_Fade_leftOf_71 ?_
              refine lv_iload hx hb d_Fade_leftOf_72 (lv_at hl 0 rfl) ?_
              refine lv_iload_n hx hb d_Fade_leftOf_74 rfl (lv_at hl 3 rfl) ?_
              refine va_mmin hx hb (by rw [hml]; exact hl.1.symm) hown (hts _ cw_575) (hts _ cw_576) (hts _ cw_12) (hts _ cw_577) (Nat.le_of_ble_eq_true rfl) (Nat.le_of_ble_eq_true rfl) (Nat.le_of_ble_eq_true rfl) (Nat.le_of_ble_eq_true rfl) d_Fade_leftOf_75 ?_
              refine lv_aload_n hx hb d_Fade_leftOf_78 rfl (lv_at hl 1 rfl) ?_
              refine va_get (D := D) (ci := 1) (v := .ref a0) (C := R_Fade) (T := T_Fade) (N := 3) hx hb hts in_Fade hown hK hP 0 rfl rfl 0 (by decide) (hts _ cw_130) (fun _ h9 => h9) rfl d_Fade_leftOf_79 ?_
              refine lv_iload hx hb d_Fade_leftOf_82 (lv_at hl 5 rfl) ?_
              refine va_iald hx hb hK hP 1 0 rfl rfl (vp_in_nI (ix_nge (k := 6) c_3) (by decide)) d_Fade_leftOf_84 ?_
              refine lv_isub hx hb d_Fade_leftOf_85 ?_
              have hPc := hP.sub (ws' := []) [] rfl
              have hDc := hD.sub (ws' := []) [] (by decide) rfl
              have hKc := hK.sub (tys' := []) [] rfl
              have hFc := va_free (wc := []) hD hS hA [] rfl
              refine vp_callSl (va_Run.run (va_runS (As := [.long left, .int (g1 ((nI i).toNatClampNeg)), .int ((m_min (g0 (((nI i) + 1).toNatClampNeg)) p1) - (g0 ((nI i).toNatClampNeg)))]) (rest := [])  ⟨hx, hb, hml, hown, hts⟩ (c_Fade_fadeBy l D left (g1 ((nI i).toNatClampNeg)) ((m_min (g0 (((nI i) + 1).toNatClampNeg)) p1) - (g0 ((nI i).toNatClampNeg))) s.heap.size ) ⟨callB_of 3 hts cg_Fade_fadeBy rfl rfl rfl (hts _ cw_5) (hts _ cw_578) (by decide +kernel) ⟨Nat.le_of_ble_eq_true rfl, Nat.le_of_ble_eq_true rfl⟩, hts _ cw_579⟩ (cx_preS [.long left, .int (g1 ((nI i).toNatClampNeg)), .int ((m_min (g0 (((nI i) + 1).toNatClampNeg)) p1) - (g0 ((nI i).toNatClampNeg)))] hPc hKc hDc hN hO hS hFc) rfl rfl hl.1 rfl (lv_room (Nat.le_of_ble_eq_true rfl)) d_Fade_leftOf_86 ⟨Nat.le_of_ble_eq_true rfl, Nat.le_of_ble_eq_true rfl⟩)) (fun r z_8 => ?_)
              subst z_8
              refine lv_lstore (lv' := [(4, .long (m_fadeBy (g1 ((nI i).toNatClampNeg)) ((m_min (g0 (((nI i) + 1).toNatClampNeg)) p1) - (g0 ((nI i).toNatClampNeg))) (((m_min (g0 (((nI i) + 1).toNatClampNeg)) p1) - (g0 ((nI i).toNatClampNeg))).toNatClampNeg + 1) 0 left)), (7, .int (g0 (((nI i) + 1).toNatClampNeg))), (0, .ref h0), (1, .long p0), (3, .int p1), (6, .int (nI i))]) hx hb d_Fade_leftOf_89 hl (by decide) rfl (fun ls hl => ?_)
              refine lv_iinc (v := nI (i + 1)) (lv' := [(6, .int (nI (i + 1))), (4, .long (m_fadeBy (g1 ((nI i).toNatClampNeg)) ((m_min (g0 (((nI i) + 1).toNatClampNeg)) p1) - (g0 ((nI i).toNatClampNeg))) (((m_min (g0 (((nI i) + 1).toNatClampNeg)) p1) - (g0 ((nI i).toNatClampNeg))).toNatClampNeg + 1) 0 left)), (7, .int (g0 (((nI i) + 1).toNatClampNeg))), (0, .ref h0), (1, .long p0), (3, .int p1)]) hx hb d_Fade_leftOf_91 hl (k := 5) rfl (nI_1 i) (by decide) rfl (fun ls hl => ?_)
              refine lv_goto (tgt := 6) hx hb d_Fade_leftOf_94 (by decide) ?_
              exact ih_6 (i + 1) (m_fadeBy (g1 ((nI i).toNatClampNeg)) ((m_min (g0 (((nI i) + 1).toNatClampNeg)) p1) - (g0 ((nI i).toNatClampNeg))) (((m_min (g0 (((nI i) + 1).toNatClampNeg)) p1) - (g0 ((nI i).toNatClampNeg))).toNatClampNeg + 1) 0 left) (ix_nge (k := 6) c_3) (by omega) (hg.trans (by rw [m_leftOf]; simp [eq_false c_2, eq_false c_3, eq_false c_4, eq_false c_6])) ls (lv_sub hl [3, 4, 5, 1, 0] rfl)
  exact loop_1 (6 + 1) 0 p0 (by omega) (by omega) (rfl) ls (lv_sub hl [2, 3, 4, 1, 0] rfl)
