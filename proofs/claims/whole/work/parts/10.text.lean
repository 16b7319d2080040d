-- RuleText: its functions (first half)
theorem ix_up0 {x p : Int32} (h0 : ¬ x < 0) (h : ¬ p ≤ x) : ¬ x + 1 < 0 := by
  have h1 : x.toInt < p.toInt := by rw [Int32.le_iff_toInt_le] at h; omega
  have h2 := Int32.toInt_lt p
  have h3 : 0 ≤ x.toInt := by rw [Int32.lt_iff_toInt_lt, Int32.toInt_zero] at h0; omega
  have e : (x + 1).toInt = x.toInt + 1 := by
    rw [Int32.toInt_add, show (1 : Int32).toInt = 1 from rfl]
    apply Int.bmod_eq_of_le <;> omega
  rw [Int32.lt_iff_toInt_lt, e, Int32.toInt_zero]; omega
theorem ix_mid {x p : Int32} {n : Nat} (hn : n < 2 ^ 31) (h0 : ¬ x < 0) (h1 : ¬ p ≤ x) (h2 : p ≤ nI n) : vp_in x n := by
  refine cx_ixl hn h0 ?_
  rw [Int32.lt_iff_toInt_lt]
  rw [Int32.le_iff_toInt_le] at h1 h2
  omega
theorem ix_off {p0 p1 : Int32} {i : Nat} (hi : i < 5) (h0 : ¬ p0 < 0) (hs : p0 < 600) (hd : p1 - p0 = 5) (hp : p1 ≤ 600) : vp_in (p0 + nI i) 600 := by
  obtain ⟨j, hj, e⟩ := nI_of h0
  subst e
  have h1 := (nI_ltI hj (by decide)).mp (show nI j < nI 600 from hs)
  have e1 : p1 = nI (j + 5) := by
    have : p1 = (p1 - nI j) + nI j := (Int32.sub_add_cancel p1 (nI j)).symm
    rw [this, hd, show (5 : Int32) = nI 5 from rfl, nI_add, Nat.add_comm]
  rw [e1] at hp
  have h2 := (nI_leI (by omega) (by decide)).mp (show nI (j + 5) ≤ nI 600 from hp)
  rw [nI_add]
  exact vp_in_nI (by omega) (by decide)
def m_textAdd (bt : Nat → Int32) (len p0 : Int32) : Int32 × (Nat → Int32) × Int32 := if len < 0 ∨ ¬ len < 600 then (0, bt, len) else (1, upd bt len.toNatClampNeg (vp_nar .char p0), len + 1)
def m_blank (b : Int32) : Int32 := if b = 32 ∨ b = 10 then 1 else 0
def m_wordEnd (bt : Nat → Int32) (len : Int32) : Nat → Int32 → Int32
  | 0, x => x
  | n + 1, x => if len ≤ x ∨ 600 ≤ x then x else if m_blank (bt x.toNatClampNeg) = 0 then m_wordEnd bt len n (x + 1) else x
def m_cwFrom (bt : Nat → Int32) (p0 : Int32) : Nat → Nat → Int32
  | 0, _ => 1
  | n + 1, i => if 5 ≤ nI i then 1 else if bt (p0 + nI i).toNatClampNeg = m_ch (m_cw (nI i).toNatClampNeg) then m_cwFrom bt p0 n (i + 1) else 0
def m_isCW (bt : Nat → Int32) (p0 p1 : Int32) : Int32 := if p1 - p0 = 5 then (if p0 < 0 ∨ ¬ p1 ≤ 600 then 0 else m_cwFrom bt p0 6 0) else 0
def m_num (neg : Bool) (bt : Nat → Int32) (p1 : Int32) : Nat → Int32 → Int32 → Int32
  | 0, _, _ => 0
  | n + 1, x, val => if p1 ≤ x then (if neg then -val else val) else if m_in (bt x.toNatClampNeg).toInt64 48 57 = 0 then (-2147483648) else m_num neg bt p1 n (x + 1) (val * 10 + (bt x.toNatClampNeg - 48))
def m_numberIn (bt : Nat → Int32) (p0 p1 : Int32) : Int32 :=
  if p0 < 0 ∨ p1 ≤ p0 ∨ ¬ p1 ≤ 600 then (-2147483648)
  else if bt p0.toNatClampNeg = 45 then (if m_in (p1 - (p0 + 1)).toInt64 1 6 = 0 then (-2147483648) else m_num true bt p1 ((p1.toInt - (p0 + 1).toInt).toNat + 1) (p0 + 1) 0)
  else (if m_in (p1 - p0).toInt64 1 6 = 0 then (-2147483648) else m_num false bt p1 ((p1.toInt - p0.toInt).toNat + 1) p0 0)
set_option maxHeartbeats 4000000 in
set_option maxRecDepth 100000 in
/-- RuleText.add -/
theorem c_Text_add (l : Launch) (D : va_G)  (h0 : Nat) (b0 : Nat) (kb : ClassId) (bt : Nat → Int32) (len : Int32) (due : Int32) (ltr : Int32) (low : Int32) (p0 : Int32) (sz : Nat)  : Met l y_Text_add ws_Text_add ({ frames := 0, cells := 0, slots := 0, locals := 0 }) (va_Pc [.ref h0, .int p0] (cx_pre D [(kb, .char)] ([(h0, .inr (4, [.ref b0, .int len, .int due, .int ltr, .int low])), (b0, .inl (kb, 600, .inl bt))]) sz)) (va_Qi (fun r9 _ => r9 = (m_textAdd bt len p0).1) (fun (_ : Unit) t => cx_end D [(kb, .char)] (va_A ([(h0, .inr (4, [.ref b0, .int len, .int due, .int ltr, .int low])), (b0, .inl (kb, 600, .inl bt))]) sz) ([(h0, .inr (4, [.ref b0, .int ((m_textAdd bt len p0).2.2), .int due, .int ltr, .int low])), (b0, .inl (kb, 600, .inl ((m_textAdd bt len p0).2.1)))]) t) (va_A ([(h0, .inr (4, [.ref b0, .int len, .int due, .int ltr, .int low])), (b0, .inl (kb, 600, .inl bt))]) sz)) 0 0 (va_A ([(h0, .inr (4, [.ref b0, .int len, .int due, .int ltr, .int low])), (b0, .inl (kb, 600, .inl bt))]) sz) := by
  refine Met.ofW (cc := b_Text_add) (maxL := 2) (ret := (some .boolean)) (by decide) rfl ?_
  intro p e s m args below meth c s₁ B hml hv
  obtain ⟨rfl, hsz, hP, hK, hD0, hN, hO⟩ := hv
  have hx := B.exec
  have hb := B.bytes
  have hr := B.returns
  have hts := fun (w : Cond) (h : w ∈ cx_tbl) => atoms_spec (ws := ws_Text_add) B.pre w (List.mem_cons_of_mem _ h)
  have hown : s.vm.findClass R_Text = some m.cls := findClass_of_methodNamed B.named
  have hlocks := B.notSynchronized
  subst hsz
  have hD := hD0.self (sz := s.heap.size)
  generalize hAe : va_A ([(h0, .inr (4, [.ref b0, .int len, .int due, .int ltr, .int low])), (b0, .inl (kb, 600, .inl bt))]) s.heap.size = A at hD hO ⊢
  have hA : ∀ q : Nat, s.heap.size ≤ q → A q := fun q h => by rw [← hAe]; exact Or.inr h
  have hS : va_S A s.heap s.heap [] := va_S.rf
  have hl := lv_entry ([.ref h0, .int p0]) (n := 2) (Nat.le_of_ble_eq_true rfl)
  rw [lg_entry_eq]
  generalize (lg_sl ([.ref h0, .int p0]) ++ List.replicate (2 - (lg_sl ([.ref h0, .int p0])).length) Slot.unset).toArray = ls at hl ⊢
  have hl : lv_has ls 2 [(0, .ref h0), (1, .int p0)] := hl
  refine lv_aload_n hx hb d_Text_add_0 rfl (lv_at hl 0 rfl) ?_
  refine va_get (D := D) (ci := 4) (v := .int len) (C := R_Text) (T := T_Text) (N := 5) hx hb hts in_Text hown hK hP 0 rfl rfl 1 (by decide) (hts _ cw_37) (fun _ h9 => h9) rfl d_Text_add_1 ?_
  refine lv_if_lt (tgt := 19) hx hb d_Text_add_4 (by decide) (fun c_1 => ?_) (fun c_1 => ?_)
  · refine lv_iconst (v := 0) hx hb d_Text_add_19 (by decide) ?_
    have hm : m_textAdd bt len p0 = (0, bt, len) := by simp [m_textAdd, eq_true c_1]
    rw [hm]
    have hP9 := hP.sub (ws' := [(h0, .inr (4, [.ref b0, .int len, .int due, .int ltr, .int low])), (b0, .inl (kb, 600, .inl bt))]) [0, 1] rfl
    have hD9 := hD.sub (ws' := [(h0, .inr (4, [.ref b0, .int len, .int due, .int ltr, .int low])), (b0, .inl (kb, 600, .inl bt))]) [0, 1] (by decide) rfl
    have hK9 := hK.sub (tys' := [(kb, .char)]) [0] rfl
    exact W.zret (v := 0) hx hb hr (rfl) (fun t ht hW => ⟨⟨_, (), rfl, rfl, by rw [ht]; exact hP9, va_K.moved hW.alike hK9, hD9⟩, hS.F ht⟩) hS.2.2 d_Text_add_20
  · refine lv_aload_n hx hb d_Text_add_7 rfl (lv_at hl 0 rfl) ?_
    refine va_get (D := D) (ci := 4) (v := .int len) (C := R_Text) (T := T_Text) (N := 5) hx hb hts in_Text hown hK hP 0 rfl rfl 1 (by decide) (hts _ cw_37) (fun _ h9 => h9) rfl d_Text_add_8 ?_
    refine lv_aload_n hx hb d_Text_add_11 rfl (lv_at hl 0 rfl) ?_
    refine va_get (D := D) (ci := 4) (v := .ref b0) (C := R_Text) (T := T_Text) (N := 5) hx hb hts in_Text hown hK hP 0 rfl rfl 0 (by decide) (hts _ cw_36) (fun _ h9 => h9) rfl d_Text_add_12 ?_
    refine va_alen (v := 600) hx hb hK hP 1 0 rfl rfl rfl d_Text_add_15 ?_
    refine lv_icmp_lt (tgt := 21) hx hb d_Text_add_16 (by decide) (fun c_2 => ?_) (fun c_2 => ?_)
    · refine lv_aload_n hx hb d_Text_add_21 rfl (lv_at hl 0 rfl) ?_
      refine va_get (D := D) (ci := 4) (v := .ref b0) (C := R_Text) (T := T_Text) (N := 5) hx hb hts in_Text hown hK hP 0 rfl rfl 0 (by decide) (hts _ cw_36) (fun _ h9 => h9) rfl d_Text_add_22 ?_
      refine lv_aload_n hx hb d_Text_add_25 rfl (lv_at hl 0 rfl) ?_
      refine va_get (D := D) (ci := 4) (v := .int len) (C := R_Text) (T := T_Text) (N := 5) hx hb hts in_Text hown hK hP 0 rfl rfl 1 (by decide) (hts _ cw_37) (fun _ h9 => h9) rfl d_Text_add_26 ?_
      refine lv_iload_n hx hb d_Text_add_29 rfl (lv_at hl 1 rfl) ?_
      refine va_cast hx hb hK hP hD hS 1 0 rfl rfl (cx_ixl (n := 600) (by decide) c_1 c_2) d_Text_add_30 (fun H locs hP hD hS => ?_)
      have hP : va_P D classes ([(h0, .inr (4, [.ref b0, .int len, .int due, .int ltr, .int low])), (b0, .inl (kb, 600, .inl (upd bt len.toNatClampNeg (vp_nar .char p0))))]) H := hP
      have hD : va_D A ([(h0, .inr (4, [.ref b0, .int len, .int due, .int ltr, .int low])), (b0, .inl (kb, 600, .inl (upd bt len.toNatClampNeg (vp_nar .char p0))))]) := hD
      refine lv_aload_n hx hb d_Text_add_31 rfl (lv_at hl 0 rfl) ?_
      refine lv_dup hx hb d_Text_add_32 rfl ?_
      refine va_get (D := D) (ci := 4) (v := .int len) (C := R_Text) (T := T_Text) (N := 5) hx hb hts in_Text hown hK hP 0 rfl rfl 1 (by decide) (hts _ cw_37) (fun _ h9 => h9) rfl d_Text_add_33 ?_
      refine lv_iconst (v := 1) hx hb d_Text_add_36 (by decide) ?_
      refine lv_iadd hx hb d_Text_add_37 ?_
      refine va_put (D := D) (ci := 4) (v := .int (len + 1)) (ty := .int) (C := R_Text) (T := T_Text) (N := 5) hx hb hts in_Text ty_Text tyok_Text nm_Text hown hK hP hD hS 0 rfl rfl 1 (by decide) (hts _ cw_37) (fun _ h9 => h9) rfl (by decide +kernel) rfl rfl (Nat.le_of_ble_eq_true rfl) d_Text_add_38 (fun H locs hP hD hS => ?_)
      have hP : va_P D classes ([(h0, .inr (4, [.ref b0, .int (len + 1), .int due, .int ltr, .int low])), (b0, .inl (kb, 600, .inl (upd bt len.toNatClampNeg (vp_nar .char p0))))]) H := hP
      have hD : va_D A ([(h0, .inr (4, [.ref b0, .int (len + 1), .int due, .int ltr, .int low])), (b0, .inl (kb, 600, .inl (upd bt len.toNatClampNeg (vp_nar .char p0))))]) := hD
      refine lv_iconst (v := 1) hx hb d_Text_add_41 (by decide) ?_
      have hm : m_textAdd bt len p0 = (1, upd bt len.toNatClampNeg (vp_nar .char p0), len + 1) := by simp [m_textAdd, eq_false c_1, eq_true c_2]
      rw [hm]
      have hP9 := hP.sub (ws' := [(h0, .inr (4, [.ref b0, .int (len + 1), .int due, .int ltr, .int low])), (b0, .inl (kb, 600, .inl (upd bt len.toNatClampNeg (vp_nar .char p0))))]) [0, 1] rfl
      have hD9 := hD.sub (ws' := [(h0, .inr (4, [.ref b0, .int (len + 1), .int due, .int ltr, .int low])), (b0, .inl (kb, 600, .inl (upd bt len.toNatClampNeg (vp_nar .char p0))))]) [0, 1] (by decide) rfl
      have hK9 := hK.sub (tys' := [(kb, .char)]) [0] rfl
      exact W.zret (v := 1) hx hb hr (rfl) (fun t ht hW => ⟨⟨_, (), rfl, rfl, by rw [ht]; exact hP9, va_K.moved hW.alike hK9, hD9⟩, hS.F ht⟩) hS.2.2 d_Text_add_42
    · refine lv_iconst (v := 0) hx hb d_Text_add_19 (by decide) ?_
      have hm : m_textAdd bt len p0 = (0, bt, len) := by simp [m_textAdd, eq_false c_1, eq_false c_2]
      rw [hm]
      have hP9 := hP.sub (ws' := [(h0, .inr (4, [.ref b0, .int len, .int due, .int ltr, .int low])), (b0, .inl (kb, 600, .inl bt))]) [0, 1] rfl
      have hD9 := hD.sub (ws' := [(h0, .inr (4, [.ref b0, .int len, .int due, .int ltr, .int low])), (b0, .inl (kb, 600, .inl bt))]) [0, 1] (by decide) rfl
      have hK9 := hK.sub (tys' := [(kb, .char)]) [0] rfl
      exact W.zret (v := 0) hx hb hr (rfl) (fun t ht hW => ⟨⟨_, (), rfl, rfl, by rw [ht]; exact hP9, va_K.moved hW.alike hK9, hD9⟩, hS.F ht⟩) hS.2.2 d_Text_add_20

set_option maxHeartbeats 4000000 in
set_option maxRecDepth 100000 in
/-- RuleText.clear -/
theorem c_Text_clear (l : Launch) (D : va_G)  (h0 : Nat) (b0 : Nat) (kb : ClassId) (bt : Nat → Int32) (len : Int32) (due : Int32) (ltr : Int32) (low : Int32) (sz : Nat)  : Met l y_Text_clear ws_Text_clear ({ frames := 0, cells := 0, slots := 0, locals := 0 }) (va_Pc [.ref h0] (cx_pre D [(kb, .char)] ([(h0, .inr (4, [.ref b0, .int len, .int due, .int ltr, .int low])), (b0, .inl (kb, 600, .inl bt))]) sz)) (va_Qv (fun _ => True) (fun (_ : Unit) t => cx_end D [(kb, .char)] (va_A ([(h0, .inr (4, [.ref b0, .int len, .int due, .int ltr, .int low])), (b0, .inl (kb, 600, .inl bt))]) sz) ([(h0, .inr (4, [.ref b0, .int 0, .int due, .int ltr, .int low])), (b0, .inl (kb, 600, .inl bt))]) t) (va_A ([(h0, .inr (4, [.ref b0, .int len, .int due, .int ltr, .int low])), (b0, .inl (kb, 600, .inl bt))]) sz)) 0 0 (va_A ([(h0, .inr (4, [.ref b0, .int len, .int due, .int ltr, .int low])), (b0, .inl (kb, 600, .inl bt))]) sz) := by
  refine Met.ofW (cc := b_Text_clear) (maxL := 1) (ret := none) (by decide) rfl ?_
  intro p e s m args below meth c s₁ B hml hv
  obtain ⟨rfl, hsz, hP, hK, hD0, hN, hO⟩ := hv
  have hx := B.exec
  have hb := B.bytes
  have hr := B.returns
  have hts := fun (w : Cond) (h : w ∈ cx_tbl) => atoms_spec (ws := ws_Text_clear) B.pre w (List.mem_cons_of_mem _ h)
  have hown : s.vm.findClass R_Text = some m.cls := findClass_of_methodNamed B.named
  have hlocks := B.notSynchronized
  subst hsz
  have hD := hD0.self (sz := s.heap.size)
  generalize hAe : va_A ([(h0, .inr (4, [.ref b0, .int len, .int due, .int ltr, .int low])), (b0, .inl (kb, 600, .inl bt))]) s.heap.size = A at hD hO ⊢
  have hA : ∀ q : Nat, s.heap.size ≤ q → A q := fun q h => by rw [← hAe]; exact Or.inr h
  have hS : va_S A s.heap s.heap [] := va_S.rf
  have hl := lv_entry ([.ref h0]) (n := 1) (Nat.le_of_ble_eq_true rfl)
  rw [lg_entry_eq]
  generalize (lg_sl ([.ref h0]) ++ List.replicate (1 - (lg_sl ([.ref h0])).length) Slot.unset).toArray = ls at hl ⊢
  have hl : lv_has ls 1 [(0, .ref h0)] := hl
  refine lv_aload_n hx hb d_Text_clear_0 rfl (lv_at hl 0 rfl) ?_
  refine lv_iconst (v := 0) hx hb d_Text_clear_1 (by decide) ?_
  refine va_put (D := D) (ci := 4) (v := .int 0) (ty := .int) (C := R_Text) (T := T_Text) (N := 5) hx hb hts in_Text ty_Text tyok_Text nm_Text hown hK hP hD hS 0 rfl rfl 1 (by decide) (hts _ cw_37) (fun _ h9 => h9) rfl (by decide +kernel) rfl rfl (Nat.le_of_ble_eq_true rfl) d_Text_clear_2 (fun H locs hP hD hS => ?_)
  have hP : va_P D classes ([(h0, .inr (4, [.ref b0, .int 0, .int due, .int ltr, .int low])), (b0, .inl (kb, 600, .inl bt))]) H := hP
  have hD : va_D A ([(h0, .inr (4, [.ref b0, .int 0, .int due, .int ltr, .int low])), (b0, .inl (kb, 600, .inl bt))]) := hD
  have hP9 := hP.sub (ws' := [(h0, .inr (4, [.ref b0, .int 0, .int due, .int ltr, .int low])), (b0, .inl (kb, 600, .inl bt))]) [0, 1] rfl
  have hD9 := hD.sub (ws' := [(h0, .inr (4, [.ref b0, .int 0, .int due, .int ltr, .int low])), (b0, .inl (kb, 600, .inl bt))]) [0, 1] (by decide) rfl
  have hK9 := hK.sub (tys' := [(kb, .char)]) [0] rfl
  exact W.vret hx hb hr (fun t ht hW => ⟨⟨(), rfl, trivial, by rw [ht]; exact hP9, va_K.moved hW.alike hK9, hD9⟩, hS.F ht⟩) hS.2.2 d_Text_clear_5

set_option maxHeartbeats 4000000 in
set_option maxRecDepth 100000 in
/-- isBlank -/
theorem c_Text_isBlank (l : Launch) (D : va_G)  (p0 : Int32) (sz : Nat)  : Met l y_Text_isBlank ws_Text_isBlank ({ frames := 0, cells := 0, slots := 0, locals := 0 }) (va_Pc [.int p0] (cx_pre D [] ([]) sz)) (vp_Si (fun r9 => r9 = m_blank p0)) 0 0 (fun _ => False) := by
  refine Met.ofW (cc := b_Text_isBlank) (maxL := 1) (ret := (some .boolean)) (by decide) rfl ?_
  intro p e s m args below meth c s₁ B hml hv
  obtain ⟨rfl, hsz, hP, hK, hD0, hN, hO⟩ := hv
  have hx := B.exec
  have hb := B.bytes
  have hr := B.returns
  have hts := fun (w : Cond) (h : w ∈ cx_tbl) => atoms_spec (ws := ws_Text_isBlank) B.pre w (List.mem_cons_of_mem _ h)
  have hown : s.vm.findClass R_Text = some m.cls := findClass_of_methodNamed B.named
  have hlocks := B.notSynchronized
  subst hsz
  have hD := hD0.self (sz := s.heap.size)
  generalize hAe : va_A ([]) s.heap.size = A at hD hO
  have hA : ∀ q : Nat, s.heap.size ≤ q → A q := fun q h => by rw [← hAe]; exact Or.inr h
  have hS : va_S A s.heap s.heap [] := va_S.rf
  have hl := lv_entry ([.int p0]) (n := 1) (Nat.le_of_ble_eq_true rfl)
  rw [lg_entry_eq]
  generalize (lg_sl ([.int p0]) ++ List.replicate (1 - (lg_sl ([.int p0])).length) Slot.unset).toArray = ls at hl ⊢
  have hl : lv_has ls 1 [(0, .int p0)] := hl
  refine lv_iload_n hx hb d_Text_isBlank_0 rfl (lv_at hl 0 rfl) ?_
  refine lv_bipush (v := 32) hx hb d_Text_isBlank_1 (by decide) ?_
  refine lv_icmp_eq (tgt := 12) hx hb d_Text_isBlank_3 (by decide) (fun c_1 => ?_) (fun c_1 => ?_)
  · refine lv_iconst (v := 1) hx hb d_Text_isBlank_12 (by decide) ?_
    refine lv_goto (tgt := 17) hx hb d_Text_isBlank_13 (by decide) ?_
    exact W.zret (v := 1) hx hb hr (rfl) (fun t ht hW => ⟨_, rfl, by simp [m_blank, eq_true c_1], ht⟩) (fun q h => by cases h) d_Text_isBlank_17
  · refine lv_iload_n hx hb d_Text_isBlank_6 rfl (lv_at hl 0 rfl) ?_
    refine lv_bipush (v := 10) hx hb d_Text_isBlank_7 (by decide) ?_
    refine lv_icmp_ne (tgt := 16) hx hb d_Text_isBlank_9 (by decide) (fun c_2 => ?_) (fun c_2 => ?_)
    · refine lv_iconst (v := 0) hx hb d_Text_isBlank_16 (by decide) ?_
      exact W.zret (v := 0) hx hb hr (rfl) (fun t ht hW => ⟨_, rfl, by simp [m_blank, eq_false c_1, eq_false c_2], ht⟩) (fun q h => by cases h) d_Text_isBlank_17
    · refine lv_iconst (v := 1) hx hb d_Text_isBlank_12 (by decide) ?_
      refine lv_goto (tgt := 17) hx hb d_Text_isBlank_13 (by decide) ?_
      exact W.zret (v := 1) hx hb hr (rfl) (fun t ht hW => ⟨_, rfl, by simp [m_blank, eq_false c_1, eq_true c_2], ht⟩) (fun q h => by cases h) d_Text_isBlank_17

set_option maxHeartbeats 4000000 in
set_option maxRecDepth 100000 in
/-- isClassWord -/
theorem c_Text_isClassWord (l : Launch) (D : va_G)  (h0 : Nat) (b0 : Nat) (kb : ClassId) (bt : Nat → Int32) (len : Int32) (due : Int32) (ltr : Int32) (low : Int32) (p0 : Int32) (p1 : Int32) (sz : Nat) (hs : p0 < 600) : Met l y_Text_isClassWord ws_Text_isClassWord ({ frames := 4, cells := 0, slots := 0, locals := 85 }) (va_Pc [.ref h0, .int p0, .int p1] (cx_pre D [(kb, .char)] ([(h0, .inr (4, [.ref b0, .int len, .int due, .int ltr, .int low])), (b0, .inl (kb, 600, .inl bt))]) sz)) (vp_Si (fun r9 => r9 = m_isCW bt p0 p1)) 0 0 (fun _ => False) := by
  refine Met.ofW (cc := b_Text_isClassWord) (maxL := 4) (ret := (some .boolean)) (by decide) rfl ?_
  intro p e s m args below meth c s₁ B hml hv
  obtain ⟨rfl, hsz, hP, hK, hD0, hN, hO⟩ := hv
  have hx := B.exec
  have hb := B.bytes
  have hr := B.returns
  have hts := fun (w : Cond) (h : w ∈ cx_tbl) => atoms_spec (ws := ws_Text_isClassWord) B.pre w (List.mem_cons_of_mem _ h)
  have hown : s.vm.findClass R_Text = some m.cls := findClass_of_methodNamed B.named
  have hlocks := B.notSynchronized
  subst hsz
  have hD := hD0.self (sz := s.heap.size)
  generalize hAe : va_A ([(h0, .inr (4, [.ref b0, .int len, .int due, .int ltr, .int low])), (b0, .inl (kb, 600, .inl bt))]) s.heap.size = A at hD hO
  have hA : ∀ q : Nat, s.heap.size ≤ q → A q := fun q h => by rw [← hAe]; exact Or.inr h
  have hS : va_S A s.heap s.heap [] := va_S.rf
  have hl := lv_entry ([.ref h0, .int p0, .int p1]) (n := 4) (Nat.le_of_ble_eq_true rfl)
  rw [lg_entry_eq]
  generalize (lg_sl ([.ref h0, .int p0, .int p1]) ++ List.replicate (4 - (lg_sl ([.ref h0, .int p0, .int p1])).length) Slot.unset).toArray = ls at hl ⊢
  have hl : lv_has ls 4 [(0, .ref h0), (1, .int p0), (2, .int p1)] := hl
  refine cx_q (fun Q hQ => ?_)
  refine lv_iload_n hx hb d_Text_isClassWord_0 rfl (lv_at hl 2 rfl) ?_
  refine lv_iload_n hx hb d_Text_isClassWord_1 rfl (lv_at hl 1 rfl) ?_
  refine lv_isub hx hb d_Text_isClassWord_2 ?_
  refine va_ldcS hx hb hown hO.2.2.2.1 d_Text_isClassWord_3 ?_
  have hPc := hP.sub (ws' := []) [] rfl
  have hDc := hD.sub (ws' := []) [] (by decide) rfl
  have hKc := hK.sub (tys' := []) [] rfl
  have hFc := va_free (wc := []) hD hS hA [] rfl
  refine vp_callSi (va_Run.run (va_runV (As := []) (rest := [.int (p1 - p0)])  ⟨hx, hb, hml, hown, hts⟩ (c_Str_length l D  s.heap.size ) ⟨callB_of 0 hts cg_JString_length rfl rfl rfl (hts _ cw_8) (hts _ cw_384) (by decide +kernel) ⟨Nat.le_of_ble_eq_true rfl, Nat.le_of_ble_eq_true rfl⟩, hts _ cw_385, hts _ cw_386⟩ (cx_preO [] hPc hKc hDc hN hO hS hFc) rfl rfl hl.1 rfl (lv_room (Nat.le_of_ble_eq_true rfl)) d_Text_isClassWord_5 ⟨Nat.le_of_ble_eq_true rfl, Nat.le_of_ble_eq_true rfl⟩)) (fun r z_1 => ?_)
  subst z_1
  refine lv_icmp_ne (tgt := 24) hx hb d_Text_isClassWord_8 (by decide) (fun c_2 => ?_) (fun c_2 => ?_)
  · refine lv_iconst (v := 0) hx hb d_Text_isClassWord_24 (by decide) ?_
    subst hQ
    exact W.zret (v := 0) hx hb hr (rfl) (fun t ht hW => ⟨_, rfl, by simp [m_isCW, eq_false c_2], ht⟩) (fun q h => by cases h) d_Text_isClassWord_25
  · refine lv_iload_n hx hb d_Text_isClassWord_11 rfl (lv_at hl 1 rfl) ?_
    refine lv_if_lt (tgt := 24) hx hb d_Text_isClassWord_12 (by decide) (fun c_3 => ?_) (fun c_3 => ?_)
    · refine lv_iconst (v := 0) hx hb d_Text_isClassWord_24 (by decide) ?_
      subst hQ
      exact W.zret (v := 0) hx hb hr (rfl) (fun t ht hW => ⟨_, rfl, by simp [m_isCW, eq_true c_2, eq_true c_3], ht⟩) (fun q h => by cases h) d_Text_isClassWord_25
    · refine lv_iload_n hx hb d_Text_isClassWord_15 rfl (lv_at hl 2 rfl) ?_
      refine lv_aload_n hx hb d_Text_isClassWord_16 rfl (lv_at hl 0 rfl) ?_
      refine va_get (D := D) (ci := 4) (v := .ref b0) (C := R_Text) (T := T_Text) (N := 5) hx hb hts in_Text hown hK hP 0 rfl rfl 0 (by decide) (hts _ cw_36) (fun _ h9 => h9) rfl d_Text_isClassWord_17 ?_
      refine va_alen (v := 600) hx hb hK hP 1 0 rfl rfl rfl d_Text_isClassWord_20 ?_
      refine lv_icmp_le (tgt := 26) hx hb d_Text_isClassWord_21 (by decide) (fun c_4 => ?_) (fun c_4 => ?_)
      · refine lv_iconst (v := 0) hx hb d_Text_isClassWord_26 (by decide) ?_
        refine lv_istore_n (lv' := [(3, .int 0), (0, .ref h0), (1, .int p0), (2, .int p1)]) hx hb d_Text_isClassWord_27 rfl hl (by decide) rfl (fun ls hl => ?_)
        have loop_5 : ∀ (n : Nat) (i : Nat) (hi : i ≤ 5) (hn : i + n = 5 + 1) (hg : m_isCW bt p0 p1 = m_cwFrom bt p0 n i) (ls : Array Slot) (hl : lv_has ls 4 [(0, .ref h0), (1, .int p0), (2, .int p1), (3, .int (nI i))]), W p l e ({ frames := 4, cells := 0, slots := 0, locals := 85 }) s m [.ref h0, .int p0, .int p1].toArray below meth c s.heap [] 0 0 Q (F0 m 28 ls []) := by
          intro n
          induction n with
          | zero =>
            intro i hi hn hg ls hl
            exact absurd hn (by omega)
          | succ n ih_28 =>
            intro i hi hn hg ls hl
            refine lv_iload_n hx hb d_Text_isClassWord_28 rfl (lv_at hl 3 rfl) ?_
            refine va_ldcS hx hb hown hO.2.2.2.1 d_Text_isClassWord_29 ?_
            have hPc := hP.sub (ws' := []) [] rfl
            have hDc := hD.sub (ws' := []) [] (by decide) rfl
            have hKc := hK.sub (tys' := []) [] rfl
            have hFc := va_free (wc := []) hD hS hA [] rfl
            refine vp_callSi (va_Run.run (va_runV (As := []) (rest := [.int (nI i)])  ⟨hx, hb, hml, hown, hts⟩ (c_Str_length l D  s.heap.size ) ⟨callB_of 0 hts cg_JString_length rfl rfl rfl (hts _ cw_8) (hts _ cw_384) (by decide +kernel) ⟨Nat.le_of_ble_eq_true rfl, Nat.le_of_ble_eq_true rfl⟩, hts _ cw_385, hts _ cw_386⟩ (cx_preO [] hPc hKc hDc hN hO hS hFc) rfl rfl hl.1 rfl (lv_room (Nat.le_of_ble_eq_true rfl)) d_Text_isClassWord_31 ⟨Nat.le_of_ble_eq_true rfl, Nat.le_of_ble_eq_true rfl⟩)) (fun r z_6 => ?_)
            subst z_6
            refine lv_icmp_ge (tgt := 62) hx hb d_Text_isClassWord_34 (by decide) (fun c_7 => ?_) (fun c_7 => ?_)
            · refine lv_iconst (v := 1) hx hb d_Text_isClassWord_62 (by decide) ?_
              subst hQ
              exact W.zret (v := 1) hx hb hr (rfl) (fun t ht hW => ⟨_, rfl, (hg.trans (by rw [m_cwFrom]; simp [eq_true c_2, eq_false c_3, eq_true c_4, eq_true c_7])).symm, ht⟩) (fun q h => by cases h) d_Text_isClassWord_63
            · refine lv_aload_n hx hb d_Text_isClassWord_37 rfl (lv_at hl 0 rfl) ?_
              refine va_get (D := D) (ci := 4) (v := .ref b0) (C := R_Text) (T := T_Text) (N := 5) hx hb hts in_Text hown hK hP 0 rfl rfl 0 (by decide) (hts _ cw_36) (fun _ h9 => h9) rfl d_Text_isClassWord_38 ?_
              refine lv_iload_n hx hb d_Text_isClassWord_41 rfl (lv_at hl 1 rfl) ?_
              refine lv_iload_n hx hb d_Text_isClassWord_42 rfl (lv_at hl 3 rfl) ?_
              refine lv_iadd hx hb d_Text_isClassWord_43 ?_
              refine va_cald hx hb hK hP 1 0 rfl rfl (ix_off (ix_nge (k := 5) c_7) c_3 hs c_2 c_4) d_Text_isClassWord_44 ?_
              refine va_ldcS hx hb hown hO.2.2.2.1 d_Text_isClassWord_45 ?_
              refine lv_iload_n hx hb d_Text_isClassWord_47 rfl (lv_at hl 3 rfl) ?_
              have hPc := hP.sub (ws' := []) [] rfl
              have hDc := hD.sub (ws' := []) [] (by decide) rfl
              have hKc := hK.sub (tys' := []) [] rfl
              have hFc := va_free (wc := []) hD hS hA [] rfl
              refine vp_callSi (va_Run.run (va_runV (As := [.int (nI i)]) (rest := [.int (bt ((p0 + (nI i)).toNatClampNeg))])  ⟨hx, hb, hml, hown, hts⟩ (c_Str_charAt l D (nI i) s.heap.size (nI_pos (by omega)) (nI_lt (ix_nge (k := 5) c_7) (by decide))) ⟨callB_of 1 hts cg_JString_charAt rfl rfl rfl (hts _ cw_8) (hts _ cw_393) (by decide +kernel) ⟨Nat.le_of_ble_eq_true rfl, Nat.le_of_ble_eq_true rfl⟩, hts _ cw_394, hts _ cw_395⟩ (cx_preO [.int (nI i)] hPc hKc hDc hN hO hS hFc) rfl rfl hl.1 rfl (lv_room (Nat.le_of_ble_eq_true rfl)) d_Text_isClassWord_48 ⟨Nat.le_of_ble_eq_true rfl, Nat.le_of_ble_eq_true rfl⟩)) (fun r z_8 => ?_)
              subst z_8
              refine lv_icmp_eq (tgt := 56) hx hb d_Text_isClassWord_51 (by decide) (fun c_9 => ?_) (fun c_9 => ?_)
              · refine lv_iinc (v := nI (i + 1)) (lv' := [(3, .int (nI (i + 1))), (0, .ref h0), (1, .int p0), (2, .int p1)]) hx hb d_Text_isClassWord_56 hl (k := 3) rfl (nI_1 i) (by decide) rfl (fun ls hl => ?_)
                refine lv_goto (tgt := 28) hx hb d_Text_isClassWord_59 (by decide) ?_
                exact ih_28 (i + 1) (ix_nge (k := 5) c_7) (by omega) (hg.trans (by rw [m_cwFrom]; simp [eq_true c_2, eq_false c_3, eq_true c_4, eq_false c_7, eq_true c_9])) ls (lv_sub hl [1, 2, 3, 0] rfl)
              · refine lv_iconst (v := 0) hx hb d_Text_isClassWord_54 (by decide) ?_
                subst hQ
                exact W.zret (v := 0) hx hb hr (rfl) (fun t ht hW => ⟨_, rfl, (hg.trans (by rw [m_cwFrom]; simp [eq_true c_2, eq_false c_3, eq_true c_4, eq_false c_7, eq_false c_9])).symm, ht⟩) (fun q h => by cases h) d_Text_isClassWord_55
        exact loop_5 (5 + 1) 0 (by omega) (by omega) (by simp [m_isCW, eq_true c_2, eq_false c_3, eq_true c_4]) ls (lv_sub hl [1, 2, 3, 0] rfl)
      · refine lv_iconst (v := 0) hx hb d_Text_isClassWord_24 (by decide) ?_
        subst hQ
        exact W.zret (v := 0) hx hb hr (rfl) (fun t ht hW => ⟨_, rfl, by simp [m_isCW, eq_true c_2, eq_false c_3, eq_false c_4], ht⟩) (fun q h => by cases h) d_Text_isClassWord_25

set_option maxHeartbeats 4000000 in
set_option maxRecDepth 100000 in
/-- numberIn -/
theorem c_Text_numberIn (l : Launch) (D : va_G)  (h0 : Nat) (b0 : Nat) (kb : ClassId) (bt : Nat → Int32) (len : Int32) (due : Int32) (ltr : Int32) (low : Int32) (p0 : Int32) (p1 : Int32) (sz : Nat)  : Met l y_Text_numberIn ws_Text_numberIn ({ frames := 1, cells := 0, slots := 0, locals := 25 }) (va_Pc [.ref h0, .int p0, .int p1] (cx_pre D [(kb, .char)] ([(h0, .inr (4, [.ref b0, .int len, .int due, .int ltr, .int low])), (b0, .inl (kb, 600, .inl bt))]) sz)) (vp_Si (fun r9 => r9 = m_numberIn bt p0 p1)) 0 0 (fun _ => False) := by
  refine Met.ofW (cc := b_Text_numberIn) (maxL := 7) (ret := (some .int)) (by decide) rfl ?_
  intro p e s m args below meth c s₁ B hml hv
  obtain ⟨rfl, hsz, hP, hK, hD0, hN, hO⟩ := hv
  have hx := B.exec
  have hb := B.bytes
  have hr := B.returns
  have hts := fun (w : Cond) (h : w ∈ cx_tbl) => atoms_spec (ws := ws_Text_numberIn) B.pre w (List.mem_cons_of_mem _ h)
  have hown : s.vm.findClass R_Text = some m.cls := findClass_of_methodNamed B.named
  have hlocks := B.notSynchronized
  subst hsz
  have hD := hD0.self (sz := s.heap.size)
  generalize hAe : va_A ([(h0, .inr (4, [.ref b0, .int len, .int due, .int ltr, .int low])), (b0, .inl (kb, 600, .inl bt))]) s.heap.size = A at hD hO
  have hA : ∀ q : Nat, s.heap.size ≤ q → A q := fun q h => by rw [← hAe]; exact Or.inr h
  have hS : va_S A s.heap s.heap [] := va_S.rf
  have hl := lv_entry ([.ref h0, .int p0, .int p1]) (n := 7) (Nat.le_of_ble_eq_true rfl)
  rw [lg_entry_eq]
  generalize (lg_sl ([.ref h0, .int p0, .int p1]) ++ List.replicate (7 - (lg_sl ([.ref h0, .int p0, .int p1])).length) Slot.unset).toArray = ls at hl ⊢
  have hl : lv_has ls 7 [(0, .ref h0), (1, .int p0), (2, .int p1)] := hl
  refine cx_q (fun Q hQ => ?_)
  refine lv_iload_n hx hb d_Text_numberIn_0 rfl (lv_at hl 1 rfl) ?_
  refine lv_if_lt (tgt := 18) hx hb d_Text_numberIn_1 (by decide) (fun c_1 => ?_) (fun c_1 => ?_)
  · refine lv_ldc (v := (-2147483648)) hx hb hown (hts _ cw_435) d_Text_numberIn_18 ?_
    subst hQ
    exact W.iret (v := (-2147483648)) hx hb hr (fun t ht hW => ⟨_, rfl, by simp [m_numberIn, eq_true c_1], ht⟩) (fun q h => by cases h) d_Text_numberIn_20
  · refine lv_iload_n hx hb d_Text_numberIn_4 rfl (lv_at hl 1 rfl) ?_
    refine lv_iload_n hx hb d_Text_numberIn_5 rfl (lv_at hl 2 rfl) ?_
    refine lv_icmp_ge (tgt := 18) hx hb d_Text_numberIn_6 (by decide) (fun c_2 => ?_) (fun c_2 => ?_)
    · refine lv_ldc (v := (-2147483648)) hx hb hown (hts _ cw_435) d_Text_numberIn_18 ?_
      subst hQ
      exact W.iret (v := (-2147483648)) hx hb hr (fun t ht hW => ⟨_, rfl, by simp [m_numberIn, eq_false c_1, eq_true c_2], ht⟩) (fun q h => by cases h) d_Text_numberIn_20
    · refine lv_iload_n hx hb d_Text_numberIn_9 rfl (lv_at hl 2 rfl) ?_
      refine lv_aload_n hx hb d_Text_numberIn_10 rfl (lv_at hl 0 rfl) ?_
      refine va_get (D := D) (ci := 4) (v := .ref b0) (C := R_Text) (T := T_Text) (N := 5) hx hb hts in_Text hown hK hP 0 rfl rfl 0 (by decide) (hts _ cw_36) (fun _ h9 => h9) rfl d_Text_numberIn_11 ?_
      refine va_alen (v := 600) hx hb hK hP 1 0 rfl rfl rfl d_Text_numberIn_14 ?_
      refine lv_icmp_le (tgt := 21) hx hb d_Text_numberIn_15 (by decide) (fun c_3 => ?_) (fun c_3 => ?_)
      · refine lv_aload_n hx hb d_Text_numberIn_21 rfl (lv_at hl 0 rfl) ?_
        refine va_get (D := D) (ci := 4) (v := .ref b0) (C := R_Text) (T := T_Text) (N := 5) hx hb hts in_Text hown hK hP 0 rfl rfl 0 (by decide) (hts _ cw_36) (fun _ h9 => h9) rfl d_Text_numberIn_22 ?_
        refine lv_iload_n hx hb d_Text_numberIn_25 rfl (lv_at hl 1 rfl) ?_
        refine va_cald hx hb hK hP 1 0 rfl rfl (ix_mid (n := 600) (by decide) c_1 c_2 c_3) d_Text_numberIn_26 ?_
        refine lv_bipush (v := 45) hx hb d_Text_numberIn_27 (by decide) ?_
        refine lv_icmp_ne (tgt := 36) hx hb d_Text_numberIn_29 (by decide) (fun c_4 => ?_) (fun c_4 => ?_)
        · refine lv_iconst (v := 0) hx hb d_Text_numberIn_36 (by decide) ?_
          refine lv_istore_n (lv' := [(3, .int 0), (0, .ref h0), (1, .int p0), (2, .int p1)]) hx hb d_Text_numberIn_37 rfl hl (by decide) rfl (fun ls hl => ?_)
          refine lv_iload_n hx hb d_Text_numberIn_38 rfl (lv_at hl 0 rfl) ?_
          refine lv_if_eq (tgt := 48) hx hb d_Text_numberIn_39 (by decide) (fun c_5 => ?_) (fun c_5 => ?_)
          · refine lv_iload_n hx hb d_Text_numberIn_48 rfl (lv_at hl 2 rfl) ?_
            refine lv_istore (lv' := [(4, .int p0), (3, .int 0), (0, .ref h0), (1, .int p0), (2, .int p1)]) hx hb d_Text_numberIn_49 hl (by decide) rfl (fun ls hl => ?_)
            refine lv_iload_n hx hb d_Text_numberIn_51 rfl (lv_at hl 4 rfl) ?_
            refine lv_iload hx hb d_Text_numberIn_52 (lv_at hl 0 rfl) ?_
            refine lv_isub hx hb d_Text_numberIn_54 ?_
            refine lv_i2l hx hb d_Text_numberIn_55 rfl ?_
            refine lv_lconst (v := 1) hx hb d_Text_numberIn_56 (by decide) ?_
            refine lv_ldc2 (v := 6) hx hb hown (hts _ cw_436) d_Text_numberIn_57 ?_
            have hPc := hP.sub (ws' := []) [] rfl
            have hDc := hD.sub (ws' := []) [] (by decide) rfl
            have hKc := hK.sub (tys' := []) [] rfl
            have hFc := va_free (wc := []) hD hS hA [] rfl
            refine vp_callSi (va_Run.run (va_runSN (As := [.long ((p1 - p0).toInt64), .long 1, .long 6]) (rest := [])  ⟨hx, hb, hml, hown, hts⟩ (c_Ct_isWithin l D ((p1 - p0).toInt64) 1 6 s.heap.size ) ⟨va_cnB 3 hts cg_Ct_isWithin rfl rfl rfl (hN _ cn_437) (hts _ cw_1) (by decide +kernel) ⟨Nat.le_of_ble_eq_true rfl, Nat.le_of_ble_eq_true rfl⟩, hts _ cw_268, trivial⟩ (cx_preS [.long ((p1 - p0).toInt64), .long 1, .long 6] hPc hKc hDc hN hO hS hFc) rfl rfl hl.1 rfl (lv_room (Nat.le_of_ble_eq_true rfl)) d_Text_numberIn_60 ⟨Nat.le_of_ble_eq_true rfl, Nat.le_of_ble_eq_true rfl⟩)) (fun r z_6 => ?_)
            subst z_6
            refine lv_if_ne (tgt := 69) hx hb d_Text_numberIn_63 (by decide) (fun c_7 => ?_) (fun c_7 => ?_)
            · refine lv_iconst (v := 0) hx hb d_Text_numberIn_69 (by decide) ?_
              refine lv_istore (lv' := [(5, .int 0), (4, .int p0), (3, .int 0), (0, .ref h0), (1, .int p0), (2, .int p1)]) hx hb d_Text_numberIn_70 hl (by decide) rfl (fun ls hl => ?_)
              refine lv_iload hx hb d_Text_numberIn_72 (lv_at hl 1 rfl) ?_
              refine lv_istore (lv' := [(6, .int p0), (5, .int 0), (4, .int p0), (3, .int 0), (0, .ref h0), (1, .int p0), (2, .int p1)]) hx hb d_Text_numberIn_74 hl (by decide) rfl (fun ls hl => ?_)
              have loop_8 : ∀ (n : Nat) (x : Int32) (val : Int32) (hn : (p1.toInt - x.toInt).toNat < n) (hg : m_numberIn bt p0 p1 = m_num false bt p1 n x val) (hx0 : ¬ x < 0) (ls : Array Slot) (hl : lv_has ls 7 [(0, .ref h0), (1, .int p0), (2, .int p1), (3, .int 0), (4, .int p0), (5, .int val), (6, .int x)]), W p l e ({ frames := 1, cells := 0, slots := 0, locals := 25 }) s m [.ref h0, .int p0, .int p1].toArray below meth c s.heap [] 0 0 Q (F0 m 76 ls []) := by
                intro n
                induction n with
                | zero =>
                  intro x val hn hg hx0 ls hl
                  exact absurd hn (Nat.not_lt_zero _)
                | succ n ih_76 =>
                  intro x val hn hg hx0 ls hl
                  refine lv_iload hx hb d_Text_numberIn_76 (lv_at hl 6 rfl) ?_
                  refine lv_iload_n hx hb d_Text_numberIn_78 rfl (lv_at hl 2 rfl) ?_
                  refine lv_icmp_ge (tgt := 129) hx hb d_Text_numberIn_79 (by decide) (fun c_9 => ?_) (fun c_9 => ?_)
                  · refine lv_iload_n hx hb d_Text_numberIn_129 rfl (lv_at hl 3 rfl) ?_
                    refine lv_if_eq (tgt := 139) hx hb d_Text_numberIn_130 (by decide) (fun c_10 => ?_) (fun c_10 => ?_)
                    · refine lv_iload hx hb d_Text_numberIn_139 (lv_at hl 5 rfl) ?_
                      subst hQ
                      exact W.iret (v := val) hx hb hr (fun t ht hW => ⟨_, rfl, (hg.trans (by rw [m_num]; simp [eq_false c_1, eq_false c_2, eq_true c_3, eq_false c_4, eq_false c_7, eq_true c_9])).symm, ht⟩) (fun q h => by cases h) d_Text_numberIn_141
                    · exact absurd c_10 (by decide)
                  · refine lv_aload_n hx hb d_Text_numberIn_82 rfl (lv_at hl 0 rfl) ?_
                    refine va_get (D := D) (ci := 4) (v := .ref b0) (C := R_Text) (T := T_Text) (N := 5) hx hb hts in_Text hown hK hP 0 rfl rfl 0 (by decide) (hts _ cw_36) (fun _ h9 => h9) rfl d_Text_numberIn_83 ?_
                    refine lv_iload hx hb d_Text_numberIn_86 (lv_at hl 6 rfl) ?_
                    refine va_cald hx hb hK hP 1 0 rfl rfl (ix_mid (n := 600) (by decide) hx0 c_9 c_3) d_Text_numberIn_88 ?_
                    refine lv_i2l hx hb d_Text_numberIn_89 rfl ?_
                    refine lv_ldc2 (v := 48) hx hb hown (hts _ cw_438) d_Text_numberIn_90 ?_
                    refine lv_ldc2 (v := 57) hx hb hown (hts _ cw_439) d_Text_numberIn_93 ?_
                    have hPc := hP.sub (ws' := []) [] rfl
                    have hDc := hD.sub (ws' := []) [] (by decide) rfl
                    have hKc := hK.sub (tys' := []) [] rfl
                    have hFc := va_free (wc := []) hD hS hA [] rfl
                    refine vp_callSi (va_Run.run (va_runSN (As := [.long ((bt x.toNatClampNeg).toInt64), .long 48, .long 57]) (rest := [])  ⟨hx, hb, hml, hown, hts⟩ (c_Ct_isWithin l D ((bt x.toNatClampNeg).toInt64) 48 57 s.heap.size ) ⟨va_cnB 3 hts cg_Ct_isWithin rfl rfl rfl (hN _ cn_437) (hts _ cw_1) (by decide +kernel) ⟨Nat.le_of_ble_eq_true rfl, Nat.le_of_ble_eq_true rfl⟩, hts _ cw_268, trivial⟩ (cx_preS [.long ((bt x.toNatClampNeg).toInt64), .long 48, .long 57] hPc hKc hDc hN hO hS hFc) rfl rfl hl.1 rfl (lv_room (Nat.le_of_ble_eq_true rfl)) d_Text_numberIn_96 ⟨Nat.le_of_ble_eq_true rfl, Nat.le_of_ble_eq_true rfl⟩)) (fun r z_11 => ?_)
                    subst z_11
                    refine lv_if_ne (tgt := 105) hx hb d_Text_numberIn_99 (by decide) (fun c_12 => ?_) (fun c_12 => ?_)
                    · refine lv_iload hx hb d_Text_numberIn_105 (lv_at hl 5 rfl) ?_
                      refine lv_bipush (v := 10) hx hb d_Text_numberIn_107 (by decide) ?_
                      refine lv_imul hx hb d_Text_numberIn_109 ?_
                      refine lv_aload_n hx hb d_Text_numberIn_110 rfl (lv_at hl 0 rfl) ?_
                      refine va_get (D := D) (ci := 4) (v := .ref b0) (C := R_Text) (T := T_Text) (N := 5) hx hb hts in_Text hown hK hP 0 rfl rfl 0 (by decide) (hts _ cw_36) (fun _ h9 => h9) rfl d_Text_numberIn_111 ?_
                      refine lv_iload hx hb d_Text_numberIn_114 (lv_at hl 6 rfl) ?_
                      refine va_cald hx hb hK hP 1 0 rfl rfl (ix_mid (n := 600) (by decide) hx0 c_9 c_3) d_Text_numberIn_116 ?_
                      refine lv_bipush (v := 48) hx hb d_Text_numberIn_117 (by decide) ?_
                      refine lv_isub hx hb d_Text_numberIn_119 ?_
                      refine lv_iadd hx hb d_Text_numberIn_120 ?_
                      refine lv_istore (lv' := [(5, .int ((val * 10) + ((bt x.toNatClampNeg) - 48))), (0, .ref h0), (1, .int p0), (2, .int p1), (3, .int 0), (4, .int p0), (6, .int x)]) hx hb d_Text_numberIn_121 hl (by decide) rfl (fun ls hl => ?_)
                      refine lv_iinc (v := x + 1) (lv' := [(6, .int (x + 1)), (5, .int ((val * 10) + ((bt x.toNatClampNeg) - 48))), (0, .ref h0), (1, .int p0), (2, .int p1), (3, .int 0), (4, .int p0)]) hx hb d_Text_numberIn_123 hl (k := 6) rfl (rfl) (by decide) rfl (fun ls hl => ?_)
                      refine lv_goto (tgt := 76) hx hb d_Text_numberIn_126 (by decide) ?_
                      exact ih_76 (x + 1) ((val * 10) + ((bt x.toNatClampNeg) - 48)) (ix_up hn c_9) (hg.trans (by rw [m_num]; simp [eq_false c_1, eq_false c_2, eq_true c_3, eq_false c_4, eq_false c_7, eq_false c_9, eq_false c_12])) (ix_up0 hx0 c_9) ls (lv_sub hl [2, 3, 4, 5, 6, 1, 0] rfl)
                    · refine lv_ldc (v := (-2147483648)) hx hb hown (hts _ cw_435) d_Text_numberIn_102 ?_
                      subst hQ
                      exact W.iret (v := (-2147483648)) hx hb hr (fun t ht hW => ⟨_, rfl, (hg.trans (by rw [m_num]; simp [eq_false c_1, eq_false c_2, eq_true c_3, eq_false c_4, eq_false c_7, eq_false c_9, eq_true c_12])).symm, ht⟩) (fun q h => by cases h) d_Text_numberIn_104
              exact loop_8 ((p1.toInt - p0.toInt).toNat + 1) p0 0 (by omega) (by simp [m_numberIn, eq_false c_1, eq_false c_2, eq_true c_3, eq_false c_4, eq_false c_7]) (c_1) ls (lv_sub hl [4, 5, 6, 3, 2, 1, 0] rfl)
            · refine lv_ldc (v := (-2147483648)) hx hb hown (hts _ cw_435) d_Text_numberIn_66 ?_
              subst hQ
              exact W.iret (v := (-2147483648)) hx hb hr (fun t ht hW => ⟨_, rfl, by simp [m_numberIn, eq_false c_1, eq_false c_2, eq_true c_3, eq_false c_4, eq_true c_7], ht⟩) (fun q h => by cases h) d_Text_numberIn_68
          · exact absurd c_5 (by decide)
        · refine lv_iconst (v := 1) hx hb d_Text_numberIn_32 (by decide) ?_
          refine lv_goto (tgt := 37) hx hb d_Text_numberIn_33 (by decide) ?_
          refine lv_istore_n (lv' := [(3, .int 1), (0, .ref h0), (1, .int p0), (2, .int p1)]) hx hb d_Text_numberIn_37 rfl hl (by decide) rfl (fun ls hl => ?_)
          refine lv_iload_n hx hb d_Text_numberIn_38 rfl (lv_at hl 0 rfl) ?_
          refine lv_if_eq (tgt := 48) hx hb d_Text_numberIn_39 (by decide) (fun c_13 => ?_) (fun c_13 => ?_)
          · exact absurd c_13 (by decide)
          · refine lv_iload_n hx hb d_Text_numberIn_42 rfl (lv_at hl 2 rfl) ?_
            refine lv_iconst (v := 1) hx hb d_Text_numberIn_43 (by decide) ?_
            refine lv_iadd hx hb d_Text_numberIn_44 ?_
            refine lv_goto (tgt := 49) hx hb d_Text_numberIn_45 (by decide) ?_
            refine lv_istore (lv' := [(4, .int (p0 + 1)), (3, .int 1), (0, .ref h0), (1, .int p0), (2, .int p1)]) hx hb d_Text_numberIn_49 hl (by decide) rfl (fun ls hl => ?_)
            refine lv_iload_n hx hb d_Text_numberIn_51 rfl (lv_at hl 4 rfl) ?_
            refine lv_iload hx hb d_Text_numberIn_52 (lv_at hl 0 rfl) ?_
            refine lv_isub hx hb d_Text_numberIn_54 ?_
            refine lv_i2l hx hb d_Text_numberIn_55 rfl ?_
            refine lv_lconst (v := 1) hx hb d_Text_numberIn_56 (by decide) ?_
            refine lv_ldc2 (v := 6) hx hb hown (hts _ cw_436) d_Text_numberIn_57 ?_
            have hPc := hP.sub (ws' := []) [] rfl
            have hDc := hD.sub (ws' := []) [] (by decide) rfl
            have hKc := hK.sub (tys' := []) [] rfl
            have hFc := va_free (wc := []) hD hS hA [] rfl
            refine vp_callSi (va_Run.run (va_runSN (As := [.long ((p1 - (p0 + 1)).toInt64), .long 1, .long 6]) (rest := [])  ⟨hx, hb, hml, hown, hts⟩ (c_Ct_isWithin l D ((p1 - (p0 + 1)).toInt64) 1 6 s.heap.size ) ⟨va_cnB 3 hts cg_Ct_isWithin rfl rfl rfl (hN _ cn_437) (hts _ cw_1) (by decide +kernel) ⟨Nat.le_of_ble_eq_true rfl, Nat.le_of_ble_eq_true rfl⟩, hts _ cw_268, trivial⟩ (cx_preS [.long ((p1 - (p0 + 1)).toInt64), .long 1, .long 6] hPc hKc hDc hN hO hS hFc) rfl rfl hl.1 rfl (lv_room (Nat.le_of_ble_eq_true rfl)) d_Text_numberIn_60 ⟨Nat.le_of_ble_eq_true rfl, Nat.le_of_ble_eq_true rfl⟩)) (fun r z_14 => ?_)
            subst z_14
            refine lv_if_ne (tgt := 69) hx hb d_Text_numberIn_63 (by decide) (fun c_15 => ?_) (fun c_15 => ?_)
            · refine lv_iconst (v := 0) hx hb d_Text_numberIn_69 (by decide) ?_
              refine lv_istore (lv' := [(5, .int 0), (4, .int (p0 + 1)), (3, .int 1), (0, .ref h0), (1, .int p0), (2, .int p1)]) hx hb d_Text_numberIn_70 hl (by decide) rfl (fun ls hl => ?_)
              refine lv_iload hx hb d_Text_numberIn_72 (lv_at hl 1 rfl) ?_
              refine lv_istore (lv' := [(6, .int (p0 + 1)), (5, .int 0), (4, .int (p0 + 1)), (3, .int 1), (0, .ref h0), (1, .int p0), (2, .int p1)]) hx hb d_Text_numberIn_74 hl (by decide) rfl (fun ls hl => ?_)
              have loop_16 : ∀ (n : Nat) (x : Int32) (val : Int32) (hn : (p1.toInt - x.toInt).toNat < n) (hg : m_numberIn bt p0 p1 = m_num true bt p1 n x val) (hx0 : ¬ x < 0) (ls : Array Slot) (hl : lv_has ls 7 [(0, .ref h0), (1, .int p0), (2, .int p1), (3, .int 1), (4, .int (p0 + 1)), (5, .int val), (6, .int x)]), W p l e ({ frames := 1, cells := 0, slots := 0, locals := 25 }) s m [.ref h0, .int p0, .int p1].toArray below meth c s.heap [] 0 0 Q (F0 m 76 ls []) := by
                intro n
                induction n with
                | zero =>
                  intro x val hn hg hx0 ls hl
                  exact absurd hn (Nat.not_lt_zero _)
                | succ n ih_76 =>
                  intro x val hn hg hx0 ls hl
                  refine lv_iload hx hb d_Text_numberIn_76 (lv_at hl 6 rfl) ?_
                  refine lv_iload_n hx hb d_Text_numberIn_78 rfl (lv_at hl 2 rfl) ?_
                  refine lv_icmp_ge (tgt := 129) hx hb d_Text_numberIn_79 (by decide) (fun c_17 => ?_) (fun c_17 => ?_)
                  · refine lv_iload_n hx hb d_Text_numberIn_129 rfl (lv_at hl 3 rfl) ?_
                    refine lv_if_eq (tgt := 139) hx hb d_Text_numberIn_130 (by decide) (fun c_18 => ?_) (fun c_18 => ?_)
                    · exact absurd c_18 (by decide)
                    · refine lv_iload hx hb d_Text_numberIn_133 (lv_at hl 5 rfl) ?_
                      refine lv_ineg hx hb d_Text_numberIn_135 ?_
                      refine lv_goto (tgt := 141) hx hb d_Text_numberIn_136 (by decide) ?_
                      subst hQ
                      exact W.iret (v := -val) hx hb hr (fun t ht hW => ⟨_, rfl, (hg.trans (by rw [m_num]; simp [eq_false c_1, eq_false c_2, eq_true c_3, eq_true c_4, eq_false c_15, eq_true c_17])).symm, ht⟩) (fun q h => by cases h) d_Text_numberIn_141
                  · refine lv_aload_n hx hb d_Text_numberIn_82 rfl (lv_at hl 0 rfl) ?_
                    refine va_get (D := D) (ci := 4) (v := .ref b0) (C := R_Text) (T := T_Text) (N := 5) hx hb hts in_Text hown hK hP 0 rfl rfl 0 (by decide) (hts _ cw_36) (fun _ h9 => h9) rfl d_Text_numberIn_83 ?_
                    refine lv_iload hx hb d_Text_numberIn_86 (lv_at hl 6 rfl) ?_
                    refine va_cald hx hb hK hP 1 0 rfl rfl (ix_mid (n := 600) (by decide) hx0 c_17 c_3) d_Text_numberIn_88 ?_
                    refine lv_i2l hx hb d_Text_numberIn_89 rfl ?_
                    refine lv_ldc2 (v := 48) hx hb hown (hts _ cw_438) d_Text_numberIn_90 ?_
                    refine lv_ldc2 (v := 57) hx hb hown (hts _ cw_439) d_Text_numberIn_93 ?_
                    have hPc := hP.sub (ws' := []) [] rfl
                    have hDc := hD.sub (ws' := []) [] (by decide) rfl
                    have hKc := hK.sub (tys' := []) [] rfl
                    have hFc := va_free (wc := []) hD hS hA [] rfl
                    refine vp_callSi (va_Run.run (va_runSN (As := [.long ((bt x.toNatClampNeg).toInt64), .long 48, .long 57]) (rest := [])  ⟨hx, hb, hml, hown, hts⟩ (c_Ct_isWithin l D ((bt x.toNatClampNeg).toInt64) 48 57 s.heap.size ) ⟨va_cnB 3 hts cg_Ct_isWithin rfl rfl rfl (hN _ cn_437) (hts _ cw_1) (by decide +kernel) ⟨Nat.le_of_ble_eq_true rfl, Nat.le_of_ble_eq_true rfl⟩, hts _ cw_268, trivial⟩ (cx_preS [.long ((bt x.toNatClampNeg).toInt64), .long 48, .long 57] hPc hKc hDc hN hO hS hFc) rfl rfl hl.1 rfl (lv_room (Nat.le_of_ble_eq_true rfl)) d_Text_numberIn_96 ⟨Nat.le_of_ble_eq_true rfl, Nat.le_of_ble_eq_true rfl⟩)) (fun r z_19 => ?_)
                    subst z_19
                    refine lv_if_ne (tgt := 105) hx hb d_Text_numberIn_99 (by decide) (fun c_20 => ?_) (fun c_20 => ?_)
                    · refine lv_iload hx hb d_Text_numberIn_105 (lv_at hl 5 rfl) ?_
                      refine lv_bipush (v := 10) hx hb d_Text_numberIn_107 (by decide) ?_
                      refine lv_imul hx hb d_Text_numberIn_109 ?_
                      refine lv_aload_n hx hb d_Text_numberIn_110 rfl (lv_at hl 0 rfl) ?_
                      refine va_get (D := D) (ci := 4) (v := .ref b0) (C := R_Text) (T := T_Text) (N := 5) hx hb hts in_Text hown hK hP 0 rfl rfl 0 (by decide) (hts _ cw_36) (fun _ h9 => h9) rfl d_Text_numberIn_111 ?_
                      refine lv_iload hx hb d_Text_numberIn_114 (lv_at hl 6 rfl) ?_
                      refine va_cald hx hb hK hP 1 0 rfl rfl (ix_mid (n := 600) (by decide) hx0 c_17 c_3) d_Text_numberIn_116 ?_
                      refine lv_bipush (v := 48) hx hb d_Text_numberIn_117 (by decide) ?_
                      refine lv_isub hx hb d_Text_numberIn_119 ?_
                      refine lv_iadd hx hb d_Text_numberIn_120 ?_
                      refine lv_istore (lv' := [(5, .int ((val * 10) + ((bt x.toNatClampNeg) - 48))), (0, .ref h0), (1, .int p0), (2, .int p1), (3, .int 1), (4, .int (p0 + 1)), (6, .int x)]) hx hb d_Text_numberIn_121 hl (by decide) rfl (fun ls hl => ?_)
                      refine lv_iinc (v := x + 1) (lv' := [(6, .int (x + 1)), (5, .int ((val * 10) + ((bt x.toNatClampNeg) - 48))), (0, .ref h0), (1, .int p0), (2, .int p1), (3, .int 1), (4, .int (p0 + 1))]) hx hb d_Text_numberIn_123 hl (k := 6) rfl (rfl) (by decide) rfl (fun ls hl => ?_)
                      refine lv_goto (tgt := 76) hx hb d_Text_numberIn_126 (by decide) ?_
                      exact ih_76 (x + 1) ((val * 10) + ((bt x.toNatClampNeg) - 48)) (ix_up hn c_17) (hg.trans (by rw [m_num]; simp [eq_false c_1, eq_false c_2, eq_true c_3, eq_true c_4, eq_false c_15, eq_false c_17, eq_false c_20])) (ix_up0 hx0 c_17) ls (lv_sub hl [2, 3, 4, 5, 6, 1, 0] rfl)
                    · refine lv_ldc (v := (-2147483648)) hx hb hown (hts _ cw_435) d_Text_numberIn_102 ?_
                      subst hQ
                      exact W.iret (v := (-2147483648)) hx hb hr (fun t ht hW => ⟨_, rfl, (hg.trans (by rw [m_num]; simp [eq_false c_1, eq_false c_2, eq_true c_3, eq_true c_4, eq_false c_15, eq_false c_17, eq_true c_20])).symm, ht⟩) (fun q h => by cases h) d_Text_numberIn_104
              exact loop_16 ((p1.toInt - (p0 + 1).toInt).toNat + 1) (p0 + 1) 0 (by omega) (by simp [m_numberIn, eq_false c_1, eq_false c_2, eq_true c_3, eq_true c_4, eq_false c_15]) (ix_up0 c_1 c_2) ls (lv_sub hl [4, 5, 6, 3, 2, 1, 0] rfl)
            · refine lv_ldc (v := (-2147483648)) hx hb hown (hts _ cw_435) d_Text_numberIn_66 ?_
              subst hQ
              exact W.iret (v := (-2147483648)) hx hb hr (fun t ht hW => ⟨_, rfl, by simp [m_numberIn, eq_false c_1, eq_false c_2, eq_true c_3, eq_true c_4, eq_true c_15], ht⟩) (fun q h => by cases h) d_Text_numberIn_68
      · refine lv_ldc (v := (-2147483648)) hx hb hown (hts _ cw_435) d_Text_numberIn_18 ?_
        subst hQ
        exact W.iret (v := (-2147483648)) hx hb hr (fun t ht hW => ⟨_, rfl, by simp [m_numberIn, eq_false c_1, eq_false c_2, eq_false c_3], ht⟩) (fun q h => by cases h) d_Text_numberIn_20
