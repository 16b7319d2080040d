-- the String constant's letters, and a byte as a char
def m_cw (j : Nat) : Int32 := ([99, 108, 97, 115, 115] : List Int32).getD j 0
def m_ch (b : Int32) : Int32 := ((b &&& 255).toUInt32 % 65536).toInt32
theorem m_ch_nar (b : Int32) : narrow .char (.int (m_ch b)) = .int (m_ch b) := pk_nc _
set_option maxHeartbeats 4000000 in
set_option maxRecDepth 100000 in
theorem c_Str_coder (l : Launch) (D : va_G)   (sz : Nat)  : Met l y_JString_coder ws_JString_coder ({ frames := 0, cells := 0, slots := 0, locals := 0 }) (va_Pc [.ref (D.2 100 0)] (cx_pre D [] ([]) sz)) (vp_Si (fun r9 => r9 = 0)) 0 0 (fun _ => False) := by
  refine Met.ofW (cc := b_JString_coder) (maxL := 1) (ret := (some .byte)) (by decide) rfl ?_
  intro p e s m args below meth c s₁ B hml hv
  obtain ⟨rfl, hsz, hP, hK, hD0, hN, hO⟩ := hv
  have hx := B.exec
  have hb := B.bytes
  have hr := B.returns
  have hts := fun (w : Cond) (h : w ∈ cx_tbl) => atoms_spec (ws := ws_JString_coder) B.pre w (List.mem_cons_of_mem _ h)
  have hown : s.vm.findClass R_JString = some m.cls := findClass_of_methodNamed B.named
  have hlocks := B.notSynchronized
  subst hsz
  have hD := hD0.self (sz := s.heap.size)
  generalize hAe : va_A ([]) s.heap.size = A at hD hO
  have hA : ∀ q : Nat, s.heap.size ≤ q → A q := fun q h => by rw [← hAe]; exact Or.inr h
  have hS : va_S A s.heap s.heap [] := va_S.rf
  have hl := lv_entry ([.ref (D.2 100 0)]) (n := 1) (Nat.le_of_ble_eq_true rfl)
  rw [lg_entry_eq]
  generalize (lg_sl ([.ref (D.2 100 0)]) ++ List.replicate (1 - (lg_sl ([.ref (D.2 100 0)])).length) Slot.unset).toArray = ls at hl ⊢
  have hl : lv_has ls 1 [(0, .ref (D.2 100 0))] := hl
  refine va_gets hx hb hO.1 hS hown (hts _ cw_392) (fun _ h9 => h9) d_JString_coder_0 ?_
  refine lv_if_eq (tgt := 13) hx hb d_JString_coder_3 (by decide) (fun c_1 => ?_) (fun c_1 => ?_)
  · exact absurd c_1 (by decide)
  · refine lv_aload_n hx hb d_JString_coder_6 rfl (lv_at hl 0 rfl) ?_
    refine vk_getf hx hb (hO.2.2.1.1 0 (by decide)).2.1 hS hown (hts _ cw_1011) (fun _ h9 => h9) d_JString_coder_7 ?_
    refine lv_goto (tgt := 14) hx hb d_JString_coder_10 (by decide) ?_
    exact W.zret (v := 0) hx hb hr (rfl) (fun t ht hW => ⟨_, rfl, rfl, ht⟩) (fun q h => by cases h) d_JString_coder_14

set_option maxHeartbeats 4000000 in
set_option maxRecDepth 100000 in
theorem c_Str_length (l : Launch) (D : va_G)   (sz : Nat)  : Met l y_JString_length ws_JString_length ({ frames := 1, cells := 0, slots := 0, locals := 20 }) (va_Pc [.ref (D.2 100 0)] (cx_pre D [] ([]) sz)) (vp_Si (fun r9 => r9 = 5)) 0 0 (fun _ => False) := by
  refine Met.ofW (cc := b_JString_length) (maxL := 1) (ret := (some .int)) (by decide) rfl ?_
  intro p e s m args below meth c s₁ B hml hv
  obtain ⟨rfl, hsz, hP, hK, hD0, hN, hO⟩ := hv
  have hx := B.exec
  have hb := B.bytes
  have hr := B.returns
  have hts := fun (w : Cond) (h : w ∈ cx_tbl) => atoms_spec (ws := ws_JString_length) B.pre w (List.mem_cons_of_mem _ h)
  have hown : s.vm.findClass R_JString = some m.cls := findClass_of_methodNamed B.named
  have hlocks := B.notSynchronized
  subst hsz
  have hD := hD0.self (sz := s.heap.size)
  generalize hAe : va_A ([]) s.heap.size = A at hD hO
  have hA : ∀ q : Nat, s.heap.size ≤ q → A q := fun q h => by rw [← hAe]; exact Or.inr h
  have hS : va_S A s.heap s.heap [] := va_S.rf
  have hl := lv_entry ([.ref (D.2 100 0)]) (n := 1) (Nat.le_of_ble_eq_true rfl)
  rw [lg_entry_eq]
  generalize (lg_sl ([.ref (D.2 100 0)]) ++ List.replicate (1 - (lg_sl ([.ref (D.2 100 0)])).length) Slot.unset).toArray = ls at hl ⊢
  have hl : lv_has ls 1 [(0, .ref (D.2 100 0))] := hl
  refine lv_aload_n hx hb d_JString_length_0 rfl (lv_at hl 0 rfl) ?_
  refine vk_getf hx hb (hO.2.2.1.1 0 (by decide)).2.2.1 hS hown (hts _ cw_1010) (fun _ h9 => h9) d_JString_length_1 ?_
  refine va_tlen (v := 5) hx hb (hO.2.2.1.1 0 (by decide)).2.2.2 hS rfl d_JString_length_4 ?_
  refine lv_aload_n hx hb d_JString_length_5 rfl (lv_at hl 0 rfl) ?_
  have hPc := hP.sub (ws' := []) [] rfl
  have hDc := hD.sub (ws' := []) [] (by decide) rfl
  have hKc := hK.sub (tys' := []) [] rfl
  have hFc := va_free (wc := []) hD hS hA [] rfl
  refine vp_callSi (va_Run.run (va_runV (As := []) (rest := [.int 5])  ⟨hx, hb, hml, hown, hts⟩ (c_Str_coder l D  s.heap.size ) ⟨callB_of 0 hts cg_JString_coder rfl rfl rfl (hts _ cw_8) (hts _ cw_388) (by decide +kernel) ⟨Nat.le_of_ble_eq_true rfl, Nat.le_of_ble_eq_true rfl⟩, hts _ cw_389, hts _ cw_390⟩ (cx_preO [] hPc hKc hDc hN hO hS hFc) rfl rfl hl.1 rfl (lv_room (Nat.le_of_ble_eq_true rfl)) d_JString_length_6 ⟨Nat.le_of_ble_eq_true rfl, Nat.le_of_ble_eq_true rfl⟩)) (fun r z_1 => ?_)
  subst z_1
  refine lv_ishr hx hb d_JString_length_9 ?_
  exact W.iret (v := (5 : Int32) >>> ((0 : Int32) &&& 31)) hx hb hr (fun t ht hW => ⟨_, rfl, by decide, ht⟩) (fun q h => by cases h) d_JString_length_10

set_option maxHeartbeats 4000000 in
set_option maxRecDepth 100000 in
theorem c_Str_isLatin1 (l : Launch) (D : va_G)   (sz : Nat)  : Met l y_JString_isLatin1 ws_JString_isLatin1 ({ frames := 0, cells := 0, slots := 0, locals := 0 }) (va_Pc [.ref (D.2 100 0)] (cx_pre D [] ([]) sz)) (vp_Si (fun r9 => r9 = 1)) 0 0 (fun _ => False) := by
  refine Met.ofW (cc := b_JString_isLatin1) (maxL := 1) (ret := (some .boolean)) (by decide) rfl ?_
  intro p e s m args below meth c s₁ B hml hv
  obtain ⟨rfl, hsz, hP, hK, hD0, hN, hO⟩ := hv
  have hx := B.exec
  have hb := B.bytes
  have hr := B.returns
  have hts := fun (w : Cond) (h : w ∈ cx_tbl) => atoms_spec (ws := ws_JString_isLatin1) B.pre w (List.mem_cons_of_mem _ h)
  have hown : s.vm.findClass R_JString = some m.cls := findClass_of_methodNamed B.named
  have hlocks := B.notSynchronized
  subst hsz
  have hD := hD0.self (sz := s.heap.size)
  generalize hAe : va_A ([]) s.heap.size = A at hD hO
  have hA : ∀ q : Nat, s.heap.size ≤ q → A q := fun q h => by rw [← hAe]; exact Or.inr h
  have hS : va_S A s.heap s.heap [] := va_S.rf
  have hl := lv_entry ([.ref (D.2 100 0)]) (n := 1) (Nat.le_of_ble_eq_true rfl)
  rw [lg_entry_eq]
  generalize (lg_sl ([.ref (D.2 100 0)]) ++ List.replicate (1 - (lg_sl ([.ref (D.2 100 0)])).length) Slot.unset).toArray = ls at hl ⊢
  have hl : lv_has ls 1 [(0, .ref (D.2 100 0))] := hl
  refine va_gets hx hb hO.1 hS hown (hts _ cw_392) (fun _ h9 => h9) d_JString_isLatin1_0 ?_
  refine lv_if_eq (tgt := 17) hx hb d_JString_isLatin1_3 (by decide) (fun c_1 => ?_) (fun c_1 => ?_)
  · exact absurd c_1 (by decide)
  · refine lv_aload_n hx hb d_JString_isLatin1_6 rfl (lv_at hl 0 rfl) ?_
    refine vk_getf hx hb (hO.2.2.1.1 0 (by decide)).2.1 hS hown (hts _ cw_1011) (fun _ h9 => h9) d_JString_isLatin1_7 ?_
    refine lv_if_ne (tgt := 17) hx hb d_JString_isLatin1_10 (by decide) (fun c_2 => ?_) (fun c_2 => ?_)
    · exact absurd c_2 (by decide)
    · refine lv_iconst (v := 1) hx hb d_JString_isLatin1_13 (by decide) ?_
      refine lv_goto (tgt := 18) hx hb d_JString_isLatin1_14 (by decide) ?_
      exact W.zret (v := 1) hx hb hr (rfl) (fun t ht hW => ⟨_, rfl, rfl, ht⟩) (fun q h => by cases h) d_JString_isLatin1_18

set_option maxHeartbeats 4000000 in
set_option maxRecDepth 100000 in
theorem c_Pre_checkIndexN (l : Launch) (D : va_G)  (p0 : Int32) (p1 : Int32) (sz : Nat) (h0 : ¬ p0 < 0) (h1 : p0 < p1) : Met l y_JPreconditions_checkIndex ws_JPreconditions_checkIndex ({ frames := 0, cells := 0, slots := 0, locals := 0 }) (va_Pc [.int p0, .int p1, .null] (cx_pre D [] ([]) sz)) (vp_Si (fun r9 => r9 = p0)) 0 0 (fun _ => False) := by
  refine Met.ofW (cc := b_JPreconditions_checkIndex) (maxL := 3) (ret := (some .int)) (by decide) rfl ?_
  intro p e s m args below meth c s₁ B hml hv
  obtain ⟨rfl, hsz, hP, hK, hD0, hN, hO⟩ := hv
  have hx := B.exec
  have hb := B.bytes
  have hr := B.returns
  have hts := fun (w : Cond) (h : w ∈ cx_tbl) => atoms_spec (ws := ws_JPreconditions_checkIndex) B.pre w (List.mem_cons_of_mem _ h)
  have hown : s.vm.findClass R_JPreconditions = some m.cls := findClass_of_methodNamed B.named
  have hlocks := B.notSynchronized
  subst hsz
  have hD := hD0.self (sz := s.heap.size)
  generalize hAe : va_A ([]) s.heap.size = A at hD hO
  have hA : ∀ q : Nat, s.heap.size ≤ q → A q := fun q h => by rw [← hAe]; exact Or.inr h
  have hS : va_S A s.heap s.heap [] := va_S.rf
  have hl := lv_entry ([.int p0, .int p1, .null]) (n := 3) (Nat.le_of_ble_eq_true rfl)
  rw [lg_entry_eq]
  generalize (lg_sl ([.int p0, .int p1, .null]) ++ List.replicate (3 - (lg_sl ([.int p0, .int p1, .null])).length) Slot.unset).toArray = ls at hl ⊢
  have hl : lv_has ls 3 [(0, .int p0), (1, .int p1), (2, .null)] := hl
  refine lv_iload_n hx hb d_JPreconditions_checkIndex_0 rfl (lv_at hl 0 rfl) ?_
  refine lv_if_lt (tgt := 9) hx hb d_JPreconditions_checkIndex_1 (by decide) (fun c_1 => ?_) (fun c_1 => ?_)
  · exact absurd c_1 h0
  · refine lv_iload_n hx hb d_JPreconditions_checkIndex_4 rfl (lv_at hl 0 rfl) ?_
    refine lv_iload_n hx hb d_JPreconditions_checkIndex_5 rfl (lv_at hl 1 rfl) ?_
    refine lv_icmp_lt (tgt := 16) hx hb d_JPreconditions_checkIndex_6 (by decide) (fun c_2 => ?_) (fun c_2 => ?_)
    · refine lv_iload_n hx hb d_JPreconditions_checkIndex_16 rfl (lv_at hl 0 rfl) ?_
      exact W.iret (v := p0) hx hb hr (fun t ht hW => ⟨_, rfl, rfl, ht⟩) (fun q h => by cases h) d_JPreconditions_checkIndex_17
    · exact absurd h1 c_2

set_option maxHeartbeats 4000000 in
set_option maxRecDepth 100000 in
theorem c_Pre_checkIndexR (l : Launch) (D : va_G)  (p0 : Int32) (p1 : Int32) (t0 : Nat) (sz : Nat) (h0 : ¬ p0 < 0) (h1 : p0 < p1) : Met l y_JPreconditions_checkIndex ws_JPreconditions_checkIndex ({ frames := 0, cells := 0, slots := 0, locals := 0 }) (va_Pc [.int p0, .int p1, .ref t0] (cx_pre D [] ([]) sz)) (vp_Si (fun r9 => r9 = p0)) 0 0 (fun _ => False) := by
  refine Met.ofW (cc := b_JPreconditions_checkIndex) (maxL := 3) (ret := (some .int)) (by decide) rfl ?_
  intro p e s m args below meth c s₁ B hml hv
  obtain ⟨rfl, hsz, hP, hK, hD0, hN, hO⟩ := hv
  have hx := B.exec
  have hb := B.bytes
  have hr := B.returns
  have hts := fun (w : Cond) (h : w ∈ cx_tbl) => atoms_spec (ws := ws_JPreconditions_checkIndex) B.pre w (List.mem_cons_of_mem _ h)
  have hown : s.vm.findClass R_JPreconditions = some m.cls := findClass_of_methodNamed B.named
  have hlocks := B.notSynchronized
  subst hsz
  have hD := hD0.self (sz := s.heap.size)
  generalize hAe : va_A ([]) s.heap.size = A at hD hO
  have hA : ∀ q : Nat, s.heap.size ≤ q → A q := fun q h => by rw [← hAe]; exact Or.inr h
  have hS : va_S A s.heap s.heap [] := va_S.rf
  have hl := lv_entry ([.int p0, .int p1, .ref t0]) (n := 3) (Nat.le_of_ble_eq_true rfl)
  rw [lg_entry_eq]
  generalize (lg_sl ([.int p0, .int p1, .ref t0]) ++ List.replicate (3 - (lg_sl ([.int p0, .int p1, .ref t0])).length) Slot.unset).toArray = ls at hl ⊢
  have hl : lv_has ls 3 [(0, .int p0), (1, .int p1), (2, .ref t0)] := hl
  refine lv_iload_n hx hb d_JPreconditions_checkIndex_0 rfl (lv_at hl 0 rfl) ?_
  refine lv_if_lt (tgt := 9) hx hb d_JPreconditions_checkIndex_1 (by decide) (fun c_1 => ?_) (fun c_1 => ?_)
  · exact absurd c_1 h0
  · refine lv_iload_n hx hb d_JPreconditions_checkIndex_4 rfl (lv_at hl 0 rfl) ?_
    refine lv_iload_n hx hb d_JPreconditions_checkIndex_5 rfl (lv_at hl 1 rfl) ?_
    refine lv_icmp_lt (tgt := 16) hx hb d_JPreconditions_checkIndex_6 (by decide) (fun c_2 => ?_) (fun c_2 => ?_)
    · refine lv_iload_n hx hb d_JPreconditions_checkIndex_16 rfl (lv_at hl 0 rfl) ?_
      exact W.iret (v := p0) hx hb hr (fun t ht hW => ⟨_, rfl, rfl, ht⟩) (fun q h => by cases h) d_JPreconditions_checkIndex_17
    · exact absurd h1 c_2

set_option maxHeartbeats 4000000 in
set_option maxRecDepth 100000 in
theorem c_Str_checkIndex (l : Launch) (D : va_G)  (p0 : Int32) (p1 : Int32) (sz : Nat) (h0 : ¬ p0 < 0) (h1 : p0 < p1) : Met l y_JString_checkIndex ws_JString_checkIndex ({ frames := 1, cells := 0, slots := 0, locals := 22 }) (va_Pc [.int p0, .int p1] (cx_pre D [] ([]) sz)) (va_Sv (fun _ => True)) 0 0 (fun _ => False) := by
  refine Met.ofW (cc := b_JString_checkIndex) (maxL := 2) (ret := none) (by decide) rfl ?_
  intro p e s m args below meth c s₁ B hml hv
  obtain ⟨rfl, hsz, hP, hK, hD0, hN, hO⟩ := hv
  have hx := B.exec
  have hb := B.bytes
  have hr := B.returns
  have hts := fun (w : Cond) (h : w ∈ cx_tbl) => atoms_spec (ws := ws_JString_checkIndex) B.pre w (List.mem_cons_of_mem _ h)
  have hown : s.vm.findClass R_JString = some m.cls := findClass_of_methodNamed B.named
  have hlocks := B.notSynchronized
  subst hsz
  have hD := hD0.self (sz := s.heap.size)
  generalize hAe : va_A ([]) s.heap.size = A at hD hO
  have hA : ∀ q : Nat, s.heap.size ≤ q → A q := fun q h => by rw [← hAe]; exact Or.inr h
  have hS : va_S A s.heap s.heap [] := va_S.rf
  have hl := lv_entry ([.int p0, .int p1]) (n := 2) (Nat.le_of_ble_eq_true rfl)
  rw [lg_entry_eq]
  generalize (lg_sl ([.int p0, .int p1]) ++ List.replicate (2 - (lg_sl ([.int p0, .int p1])).length) Slot.unset).toArray = ls at hl ⊢
  have hl : lv_has ls 2 [(0, .int p0), (1, .int p1)] := hl
  refine lv_iload_n hx hb d_JString_checkIndex_0 rfl (lv_at hl 0 rfl) ?_
  refine lv_iload_n hx hb d_JString_checkIndex_1 rfl (lv_at hl 1 rfl) ?_
  rcases hO.2.1 with hz | ⟨t9, hz⟩
  · refine va_gets hx hb hz hS hown (hts _ cw_407) (fun _ h9 => h9) d_JString_checkIndex_2 ?_
    have hPc := hP.sub (ws' := []) [] rfl
    have hDc := hD.sub (ws' := []) [] (by decide) rfl
    have hKc := hK.sub (tys' := []) [] rfl
    have hFc := va_free (wc := []) hD hS hA [] rfl
    refine vp_callSi (va_Run.run (va_runS (As := [.int p0, .int p1, .null]) (rest := [])  ⟨hx, hb, hml, hown, hts⟩ (c_Pre_checkIndexN l D p0 p1 s.heap.size (h0) (h1)) ⟨callB_of 3 hts cg_JPreconditions_checkIndex rfl rfl rfl (hts _ cw_14) (hts _ cw_409) (by decide +kernel) ⟨Nat.le_of_ble_eq_true rfl, Nat.le_of_ble_eq_true rfl⟩, hts _ cw_410⟩ (cx_preS [.int p0, .int p1, .null] hPc hKc hDc hN hO hS hFc) rfl rfl hl.1 rfl (lv_room (Nat.le_of_ble_eq_true rfl)) d_JString_checkIndex_5 ⟨Nat.le_of_ble_eq_true rfl, Nat.le_of_ble_eq_true rfl⟩)) (fun r z_1 => ?_)
    subst z_1
    refine lv_pop hx hb d_JString_checkIndex_8 rfl ?_
    exact W.vret hx hb hr (fun t ht hW => ⟨rfl, trivial, ht⟩) (fun q h => by cases h) d_JString_checkIndex_9
  · refine va_gets hx hb hz hS hown (hts _ cw_407) (fun _ h9 => h9) d_JString_checkIndex_2 ?_
    have hPc := hP.sub (ws' := []) [] rfl
    have hDc := hD.sub (ws' := []) [] (by decide) rfl
    have hKc := hK.sub (tys' := []) [] rfl
    have hFc := va_free (wc := []) hD hS hA [] rfl
    refine vp_callSi (va_Run.run (va_runS (As := [.int p0, .int p1, .ref t9]) (rest := [])  ⟨hx, hb, hml, hown, hts⟩ (c_Pre_checkIndexR l D p0 p1 t9 s.heap.size (h0) (h1)) ⟨callB_of 3 hts cg_JPreconditions_checkIndex rfl rfl rfl (hts _ cw_14) (hts _ cw_409) (by decide +kernel) ⟨Nat.le_of_ble_eq_true rfl, Nat.le_of_ble_eq_true rfl⟩, hts _ cw_410⟩ (cx_preS [.int p0, .int p1, .ref t9] hPc hKc hDc hN hO hS hFc) rfl rfl hl.1 rfl (lv_room (Nat.le_of_ble_eq_true rfl)) d_JString_checkIndex_5 ⟨Nat.le_of_ble_eq_true rfl, Nat.le_of_ble_eq_true rfl⟩)) (fun r z_2 => ?_)
    subst z_2
    refine lv_pop hx hb d_JString_checkIndex_8 rfl ?_
    exact W.vret hx hb hr (fun t ht hW => ⟨rfl, trivial, ht⟩) (fun q h => by cases h) d_JString_checkIndex_9

set_option maxHeartbeats 4000000 in
set_option maxRecDepth 100000 in
theorem c_Lat_charAt (l : Launch) (D : va_G)  (p0 : Int32) (sz : Nat) (h0 : ¬ p0 < 0) (h1 : p0 < 5) : Met l y_JStringLatin1_charAt ws_JStringLatin1_charAt ({ frames := 2, cells := 0, slots := 0, locals := 43 }) (va_Pc [.ref (D.2 100 1), .int p0] (cx_pre D [] ([]) sz)) (vp_Si (fun r9 => r9 = m_ch (m_cw p0.toNatClampNeg))) 0 0 (fun _ => False) := by
  refine Met.ofW (cc := b_JStringLatin1_charAt) (maxL := 2) (ret := (some .char)) (by decide) rfl ?_
  intro p e s m args below meth c s₁ B hml hv
  obtain ⟨rfl, hsz, hP, hK, hD0, hN, hO⟩ := hv
  have hx := B.exec
  have hb := B.bytes
  have hr := B.returns
  have hts := fun (w : Cond) (h : w ∈ cx_tbl) => atoms_spec (ws := ws_JStringLatin1_charAt) B.pre w (List.mem_cons_of_mem _ h)
  have hown : s.vm.findClass R_JStringLatin1 = some m.cls := findClass_of_methodNamed B.named
  have hlocks := B.notSynchronized
  subst hsz
  have hD := hD0.self (sz := s.heap.size)
  generalize hAe : va_A ([]) s.heap.size = A at hD hO
  have hA : ∀ q : Nat, s.heap.size ≤ q → A q := fun q h => by rw [← hAe]; exact Or.inr h
  have hS : va_S A s.heap s.heap [] := va_S.rf
  have hl := lv_entry ([.ref (D.2 100 1), .int p0]) (n := 2) (Nat.le_of_ble_eq_true rfl)
  rw [lg_entry_eq]
  generalize (lg_sl ([.ref (D.2 100 1), .int p0]) ++ List.replicate (2 - (lg_sl ([.ref (D.2 100 1), .int p0])).length) Slot.unset).toArray = ls at hl ⊢
  have hl : lv_has ls 2 [(0, .ref (D.2 100 1)), (1, .int p0)] := hl
  refine lv_iload_n hx hb d_JStringLatin1_charAt_0 rfl (lv_at hl 1 rfl) ?_
  refine lv_aload_n hx hb d_JStringLatin1_charAt_1 rfl (lv_at hl 0 rfl) ?_
  refine va_tlen (v := 5) hx hb (hO.2.2.1.1 0 (by decide)).2.2.2 hS rfl d_JStringLatin1_charAt_2 ?_
  have hPc := hP.sub (ws' := []) [] rfl
  have hDc := hD.sub (ws' := []) [] (by decide) rfl
  have hKc := hK.sub (tys' := []) [] rfl
  have hFc := va_free (wc := []) hD hS hA [] rfl
  refine va_csv (va_Run.run (va_runS (As := [.int p0, .int 5]) (rest := [])  ⟨hx, hb, hml, hown, hts⟩ (c_Str_checkIndex l D p0 5 s.heap.size (h0) (h1)) ⟨callB_of 2 hts cg_JString_checkIndex rfl rfl rfl (hts _ cw_8) (hts _ cw_404) (by decide +kernel) ⟨Nat.le_of_ble_eq_true rfl, Nat.le_of_ble_eq_true rfl⟩, hts _ cw_405⟩ (cx_preS [.int p0, .int 5] hPc hKc hDc hN hO hS hFc) rfl rfl hl.1 rfl (lv_room (Nat.le_of_ble_eq_true rfl)) d_JStringLatin1_charAt_3 ⟨Nat.le_of_ble_eq_true rfl, Nat.le_of_ble_eq_true rfl⟩)) (fun _ => ?_)
  refine lv_aload_n hx hb d_JStringLatin1_charAt_6 rfl (lv_at hl 0 rfl) ?_
  refine lv_iload_n hx hb d_JStringLatin1_charAt_7 rfl (lv_at hl 1 rfl) ?_
  refine va_tb (v := .int (m_cw p0.toNatClampNeg)) hx hb (hO.2.2.1.1 0 (by decide)).2.2.2 hS (cx_ixl (n := 5) (by decide) h0 h1) rfl d_JStringLatin1_charAt_8 ?_
  refine lv_sipush (v := 255) hx hb d_JStringLatin1_charAt_9 (by decide) ?_
  refine lv_iand hx hb d_JStringLatin1_charAt_12 ?_
  refine lv_i2c hx hb d_JStringLatin1_charAt_13 rfl ?_
  exact W.zret (v := (((m_cw p0.toNatClampNeg) &&& 255).toUInt32 % 65536).toInt32) hx hb hr (pk_nc _) (fun t ht hW => ⟨_, rfl, rfl, ht⟩) (fun q h => by cases h) d_JStringLatin1_charAt_14

set_option maxHeartbeats 4000000 in
set_option maxRecDepth 100000 in
theorem c_Str_charAt (l : Launch) (D : va_G)  (p0 : Int32) (sz : Nat) (h0 : ¬ p0 < 0) (h1 : p0 < 5) : Met l y_JString_charAt ws_JString_charAt ({ frames := 3, cells := 0, slots := 0, locals := 64 }) (va_Pc [.ref (D.2 100 0), .int p0] (cx_pre D [] ([]) sz)) (vp_Si (fun r9 => r9 = m_ch (m_cw p0.toNatClampNeg))) 0 0 (fun _ => False) := by
  refine Met.ofW (cc := b_JString_charAt) (maxL := 2) (ret := (some .char)) (by decide) rfl ?_
  intro p e s m args below meth c s₁ B hml hv
  obtain ⟨rfl, hsz, hP, hK, hD0, hN, hO⟩ := hv
  have hx := B.exec
  have hb := B.bytes
  have hr := B.returns
  have hts := fun (w : Cond) (h : w ∈ cx_tbl) => atoms_spec (ws := ws_JString_charAt) B.pre w (List.mem_cons_of_mem _ h)
  have hown : s.vm.findClass R_JString = some m.cls := findClass_of_methodNamed B.named
  have hlocks := B.notSynchronized
  subst hsz
  have hD := hD0.self (sz := s.heap.size)
  generalize hAe : va_A ([]) s.heap.size = A at hD hO
  have hA : ∀ q : Nat, s.heap.size ≤ q → A q := fun q h => by rw [← hAe]; exact Or.inr h
  have hS : va_S A s.heap s.heap [] := va_S.rf
  have hl := lv_entry ([.ref (D.2 100 0), .int p0]) (n := 2) (Nat.le_of_ble_eq_true rfl)
  rw [lg_entry_eq]
  generalize (lg_sl ([.ref (D.2 100 0), .int p0]) ++ List.replicate (2 - (lg_sl ([.ref (D.2 100 0), .int p0])).length) Slot.unset).toArray = ls at hl ⊢
  have hl : lv_has ls 2 [(0, .ref (D.2 100 0)), (1, .int p0)] := hl
  refine lv_aload_n hx hb d_JString_charAt_0 rfl (lv_at hl 0 rfl) ?_
  have hPc := hP.sub (ws' := []) [] rfl
  have hDc := hD.sub (ws' := []) [] (by decide) rfl
  have hKc := hK.sub (tys' := []) [] rfl
  have hFc := va_free (wc := []) hD hS hA [] rfl
  refine vp_callSi (va_Run.run (va_runV (As := []) (rest := [])  ⟨hx, hb, hml, hown, hts⟩ (c_Str_isLatin1 l D  s.heap.size ) ⟨callB_of 0 hts cg_JString_isLatin1 rfl rfl rfl (hts _ cw_8) (hts _ cw_397) (by decide +kernel) ⟨Nat.le_of_ble_eq_true rfl, Nat.le_of_ble_eq_true rfl⟩, hts _ cw_398, hts _ cw_399⟩ (cx_preO [] hPc hKc hDc hN hO hS hFc) rfl rfl hl.1 rfl (lv_room (Nat.le_of_ble_eq_true rfl)) d_JString_charAt_1 ⟨Nat.le_of_ble_eq_true rfl, Nat.le_of_ble_eq_true rfl⟩)) (fun r z_1 => ?_)
  subst z_1
  refine lv_if_eq (tgt := 16) hx hb d_JString_charAt_4 (by decide) (fun c_2 => ?_) (fun c_2 => ?_)
  · exact absurd c_2 (by decide)
  · refine lv_aload_n hx hb d_JString_charAt_7 rfl (lv_at hl 0 rfl) ?_
    refine vk_getf hx hb (hO.2.2.1.1 0 (by decide)).2.2.1 hS hown (hts _ cw_1010) (fun _ h9 => h9) d_JString_charAt_8 ?_
    refine lv_iload_n hx hb d_JString_charAt_11 rfl (lv_at hl 1 rfl) ?_
    have hPc := hP.sub (ws' := []) [] rfl
    have hDc := hD.sub (ws' := []) [] (by decide) rfl
    have hKc := hK.sub (tys' := []) [] rfl
    have hFc := va_free (wc := []) hD hS hA [] rfl
    refine vp_callSi (va_Run.run (va_runS (As := [.ref (D.2 100 1), .int p0]) (rest := [])  ⟨hx, hb, hml, hown, hts⟩ (c_Lat_charAt l D p0 s.heap.size (h0) (h1)) ⟨callB_of 2 hts cg_JStringLatin1_charAt rfl rfl rfl (hts _ cw_13) (hts _ cw_401) (by decide +kernel) ⟨Nat.le_of_ble_eq_true rfl, Nat.le_of_ble_eq_true rfl⟩, hts _ cw_402⟩ (cx_preS [.ref (D.2 100 1), .int p0] hPc hKc hDc hN hO hS hFc) rfl rfl hl.1 rfl (lv_room (Nat.le_of_ble_eq_true rfl)) d_JString_charAt_12 ⟨Nat.le_of_ble_eq_true rfl, Nat.le_of_ble_eq_true rfl⟩)) (fun r z_3 => ?_)
    subst z_3
    exact W.zret (v := m_ch (m_cw p0.toNatClampNeg)) hx hb hr (m_ch_nar _) (fun t ht hW => ⟨_, rfl, rfl, ht⟩) (fun q h => by cases h) d_JString_charAt_15
