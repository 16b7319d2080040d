-- the reference's functions: spread, turn
def m_sprI (u0 : Int32) (c4 c5 c6 c23 : Nat → Int32) (k : Nat) : Nat → Nat → Int32 → Int32 → Int64 → Int64 → Int32 × Int32 × Int64 × Int64
  | 0, _, ct, fi, le, mo => (ct, fi, le, mo)
  | n + 1, j, ct, fi, le, mo => if u0 ≤ nI j then (ct, fi, le, mo)
      else if c23 (nI j).toNatClampNeg = nI k then m_sprI u0 c4 c5 c6 c23 k n (j + 1) (ct + 1) (if ct = 0 then nI j else fi) (if ct = 0 ∨ ¬ le ≤ m_mcharge u0 c4 c5 c6 (nI j) then m_mcharge u0 c4 c5 c6 (nI j) else le) (if ct = 0 ∨ ¬ m_mcharge u0 c4 c5 c6 (nI j) ≤ mo then m_mcharge u0 c4 c5 c6 (nI j) else mo)
      else m_sprI u0 c4 c5 c6 c23 k n (j + 1) ct fi le mo
def m_spr (u0 : Int32) (c4 c5 c6 c23 : Nat → Int32) (p0 p1 : Int32) : Nat → Nat → Int64 → Int32 → Int64
  | 0, _, s, _ => s
  | n + 1, k, s, bf => if p1 ≤ nI k then s
      else if (m_sprI u0 c4 c5 c6 c23 k (u0.toNatClampNeg + 1) 0 0 (-1) 0 0).1 = p0 then
        (if bf ≤ (m_sprI u0 c4 c5 c6 c23 k (u0.toNatClampNeg + 1) 0 0 (-1) 0 0).2.1 then m_spr u0 c4 c5 c6 c23 p0 p1 n (k + 1) (s + ((m_sprI u0 c4 c5 c6 c23 k (u0.toNatClampNeg + 1) 0 0 (-1) 0 0).2.2.2 - (m_sprI u0 c4 c5 c6 c23 k (u0.toNatClampNeg + 1) 0 0 (-1) 0 0).2.2.1)) (m_sprI u0 c4 c5 c6 c23 k (u0.toNatClampNeg + 1) 0 0 (-1) 0 0).2.1 else (-1))
      else (-1)
def m_turnL (wh : Int32 → Int32) (p0 : Int32) : Nat → Int32 → (Nat → Int32) → Int32 × (Nat → Int32)
  | 0, x, w => (x, w)
  | n + 1, x, w => if x < 0 then (x, w) else if wh x = 0 then m_turnL wh p0 n (x + (-1)) (upd w x.toNatClampNeg p0) else if w x.toNatClampNeg = p0 then m_turnL wh p0 n (x + (-1)) (upd w x.toNatClampNeg 0) else (x, w)
def m_mturn (wh : Int32 → Int32) (u0 p0 : Int32) (c23 : Nat → Int32) : Int32 × (Nat → Int32) :=
  match m_turnL wh p0 (((u0 - 1).toInt + 1).toNat + 1) (u0 - 1) c23 with
  | (x, w) => if x < 0 then (0, w) else (1, upd w x.toNatClampNeg (w x.toNatClampNeg + 1))
theorem m_dec {x : Int32} (h : ¬ x < 0) : (x + (-1)).toInt = x.toInt - 1 := by
  rw [Int32.lt_iff_toInt_lt, Int32.toInt_zero] at h
  have := Int32.toInt_lt x
  rw [Int32.toInt_add, show (-1 : Int32).toInt = -1 from rfl]
  rw [Int.bmod_eq_of_le (by omega) (by omega)]; omega
theorem m_dn {x : Int32} {n : Nat} (hn : (x.toInt + 1).toNat < n + 1) (h : ¬ x < 0) : ((x + (-1)).toInt + 1).toNat < n := by
  have e := m_dec h
  rw [Int32.lt_iff_toInt_lt, Int32.toInt_zero] at h
  rw [e]; omega
theorem m_dn8 {x : Int32} (h8 : x < 8) (h : ¬ x < 0) : x + (-1) < 8 := by
  have e := m_dec h
  rw [Int32.lt_iff_toInt_lt] at h8 ⊢
  rw [e]; omega
theorem m_u7 {u0 : Int32} (h0 : ¬ u0 < 0) (h : u0 ≤ 8) : u0 - 1 < 8 := by
  rw [Int32.lt_iff_toInt_lt, Int32.toInt_zero] at h0
  rw [Int32.le_iff_toInt_le, show (8 : Int32).toInt = 8 from rfl] at h
  have e : (u0 - 1).toInt = u0.toInt - 1 := by
    rw [Int32.toInt_sub, show (1 : Int32).toInt = 1 from rfl]
    apply Int.bmod_eq_of_le <;> omega
  rw [Int32.lt_iff_toInt_lt, e, show (8 : Int32).toInt = 8 from rfl]; omega
set_option maxHeartbeats 4000000 in
set_option maxRecDepth 100000 in
theorem c_Md_spread (l : Launch) (D : va_G)  (h0 : Nat) (u0 : Int32) (a1 : Nat) (u2 : Int32) (u3 : Int32) (a4 : Nat) (a5 : Nat) (a6 : Nat) (a7 : Nat) (a8 : Nat) (a9 : Nat) (a10 : Nat) (a11 : Nat) (u12 : Int32) (u13 : Int32) (a14 : Nat) (a15 : Nat) (a16 : Nat) (u17 : Int32) (a18 : Nat) (a19 : Nat) (a20 : Nat) (u21 : Int32) (a22 : Nat) (a23 : Nat) (u24 : Int32) (a25 : Nat) (a26 : Nat) (u27 : Int32) (u28 : Int32) (u29 : Int32) (u30 : Int32) (k4 : ClassId) (k5 : ClassId) (k6 : ClassId) (k23 : ClassId) (c4 : Nat → Int32) (c5 : Nat → Int32) (c6 : Nat → Int32) (c23 : Nat → Int32) (p0 : Int32) (p1 : Int32) (sz : Nat) (hc : u0 ≤ 8) (hst : ∀ i, i < 8 → ¬ c4 i < 0 ∧ c4 i ≤ 30) : Met l y_Md_spread ws_Md_spread ({ frames := 2, cells := 0, slots := 0, locals := 46 }) (va_Pc [.ref h0, .int p0, .int p1] (cx_pre D [(k4, .int), (k5, .int), (k6, .int), (k23, .int)] ([(h0, .inr (6, [.int u0, .ref a1, .int u2, .int u3, .ref a4, .ref a5, .ref a6, .ref a7, .ref a8, .ref a9, .ref a10, .ref a11, .int u12, .int u13, .ref a14, .ref a15, .ref a16, .int u17, .ref a18, .ref a19, .ref a20, .int u21, .ref a22, .ref a23, .int u24, .ref a25, .ref a26, .int u27, .int u28, .int u29, .int u30])), (a4, .inl (k4, 8, .inl c4)), (a5, .inl (k5, 240, .inl c5)), (a6, .inl (k6, 240, .inl c6)), (a23, .inl (k23, 8, .inl c23))]) sz)) (vp_Sl (fun r9 => r9 = m_spr u0 c4 c5 c6 c23 p0 p1 (p1.toNatClampNeg + 1) 0 0 (-1))) 0 0 (fun _ => False) := by
  refine Met.ofW (cc := b_Md_spread) (maxL := 16) (ret := (some .long)) (by decide) rfl ?_
  intro p e s m args below meth c s₁ B hml hv
  obtain ⟨rfl, hsz, hP, hK, hD0, hN, hO⟩ := hv
  have hx := B.exec
  have hb := B.bytes
  have hr := B.returns
  have hts := fun (w : Cond) (h : w ∈ cx_tbl) => atoms_spec (ws := ws_Md_spread) B.pre w (List.mem_cons_of_mem _ h)
  have hown : s.vm.findClass R_Md = some m.cls := findClass_of_methodNamed B.named
  have hlocks := B.notSynchronized
  subst hsz
  have hD := hD0.self (sz := s.heap.size)
  generalize hAe : va_A ([(h0, .inr (6, [.int u0, .ref a1, .int u2, .int u3, .ref a4, .ref a5, .ref a6, .ref a7, .ref a8, .ref a9, .ref a10, .ref a11, .int u12, .int u13, .ref a14, .ref a15, .ref a16, .int u17, .ref a18, .ref a19, .ref a20, .int u21, .ref a22, .ref a23, .int u24, .ref a25, .ref a26, .int u27, .int u28, .int u29, .int u30])), (a4, .inl (k4, 8, .inl c4)), (a5, .inl (k5, 240, .inl c5)), (a6, .inl (k6, 240, .inl c6)), (a23, .inl (k23, 8, .inl c23))]) s.heap.size = A at hD hO
  have hA : ∀ q : Nat, s.heap.size ≤ q → A q := fun q h => by rw [← hAe]; exact Or.inr h
  have hS : va_S A s.heap s.heap [] := va_S.rf
  have hl := lv_entry ([.ref h0, .int p0, .int p1]) (n := 16) (Nat.le_of_ble_eq_true rfl)
  rw [lg_entry_eq]
  generalize (lg_sl ([.ref h0, .int p0, .int p1]) ++ List.replicate (16 - (lg_sl ([.ref h0, .int p0, .int p1])).length) Slot.unset).toArray = ls at hl ⊢
  have hl : lv_has ls 16 [(0, .ref h0), (1, .int p0), (2, .int p1)] := hl
  refine cx_q (fun Q hQ => ?_)
  refine lv_lconst (v := 0) hx hb d_Md_spread_0 (by decide) ?_
  refine lv_lstore_n (lv' := [(3, .long 0), (0, .ref h0), (1, .int p0), (2, .int p1)]) hx hb d_Md_spread_1 rfl hl (by decide) rfl (fun ls hl => ?_)
  refine lv_iconst (v := (-1)) hx hb d_Md_spread_2 (by decide) ?_
  refine lv_istore (lv' := [(5, .int (-1)), (3, .long 0), (0, .ref h0), (1, .int p0), (2, .int p1)]) hx hb d_Md_spread_3 hl (by decide) rfl (fun ls hl => ?_)
  refine lv_iconst (v := 0) hx hb d_Md_spread_5 (by decide) ?_
  refine lv_istore (lv' := [(6, .int 0), (5, .int (-1)), (3, .long 0), (0, .ref h0), (1, .int p0), (2, .int p1)]) hx hb d_Md_spread_6 hl (by decide) rfl (fun ls hl => ?_)
  have loop_1 : ∀ (n : Nat) (k : Nat) (sm : Int64) (bf : Int32) (hi : k ≤ p1.toNatClampNeg) (hn : k + n = p1.toNatClampNeg + 1) (hg : m_spr u0 c4 c5 c6 c23 p0 p1 (p1.toNatClampNeg + 1) 0 0 (-1) = m_spr u0 c4 c5 c6 c23 p0 p1 n k sm bf) (ls : Array Slot) (hl : lv_has ls 16 [(0, .ref h0), (1, .int p0), (2, .int p1), (3, .long sm), (5, .int bf), (6, .int (nI k))]), W p l e ({ frames := 2, cells := 0, slots := 0, locals := 46 }) s m [.ref h0, .int p0, .int p1].toArray below meth c s.heap [] 0 0 Q (F0 m 8 ls []) := by
    intro n
    induction n with
    | zero =>
      intro k sm bf hi hn hg ls hl
      exact absurd hn (by omega)
    | succ n ih_8 =>
      intro k sm bf hi hn hg ls hl
      refine lv_iload hx hb d_Md_spread_8 (lv_at hl 5 rfl) ?_
      refine lv_iload_n hx hb d_Md_spread_10 rfl (lv_at hl 2 rfl) ?_
      refine lv_icmp_ge (tgt := 160) hx hb d_Md_spread_11 (by decide) (fun c_2 => ?_) (fun c_2 => ?_)
      · refine lv_lload_n hx hb d_Md_spread_160 rfl (lv_at hl 3 rfl) ?_
        subst hQ
        exact W.lret (v := sm) hx hb hr (fun t ht hW => ⟨_, rfl, (hg.trans (by rw [m_spr]; simp [eq_true c_2])).symm, ht⟩) (fun q h => by cases h) d_Md_spread_161
      · refine lv_iconst (v := 0) hx hb d_Md_spread_14 (by decide) ?_
        refine lv_istore (lv' := [(7, .int 0), (0, .ref h0), (1, .int p0), (2, .int p1), (3, .long sm), (5, .int bf), (6, .int (nI k))]) hx hb d_Md_spread_15 hl (by decide) rfl (fun ls hl => ?_)
        refine lv_iconst (v := (-1)) hx hb d_Md_spread_17 (by decide) ?_
        refine lv_istore (lv' := [(8, .int (-1)), (7, .int 0), (0, .ref h0), (1, .int p0), (2, .int p1), (3, .long sm), (5, .int bf), (6, .int (nI k))]) hx hb d_Md_spread_18 hl (by decide) rfl (fun ls hl => ?_)
        refine lv_lconst (v := 0) hx hb d_Md_spread_20 (by decide) ?_
        refine lv_lstore (lv' := [(9, .long 0), (8, .int (-1)), (7, .int 0), (0, .ref h0), (1, .int p0), (2, .int p1), (3, .long sm), (5, .int bf), (6, .int (nI k))]) hx hb d_Md_spread_21 hl (by decide) rfl (fun ls hl => ?_)
        refine lv_lconst (v := 0) hx hb d_Md_spread_23 (by decide) ?_
        refine lv_lstore (lv' := [(11, .long 0), (9, .long 0), (8, .int (-1)), (7, .int 0), (0, .ref h0), (1, .int p0), (2, .int p1), (3, .long sm), (5, .int bf), (6, .int (nI k))]) hx hb d_Md_spread_24 hl (by decide) rfl (fun ls hl => ?_)
        refine lv_iconst (v := 0) hx hb d_Md_spread_26 (by decide) ?_
        refine lv_istore (lv' := [(13, .int 0), (11, .long 0), (9, .long 0), (8, .int (-1)), (7, .int 0), (0, .ref h0), (1, .int p0), (2, .int p1), (3, .long sm), (5, .int bf), (6, .int (nI k))]) hx hb d_Md_spread_27 hl (by decide) rfl (fun ls hl => ?_)
        have loop_3 : ∀ (n : Nat) (j : Nat) (ct : Int32) (fi : Int32) (ll : Int64) (mo : Int64) (hi2 : j ≤ u0.toNatClampNeg) (hn2 : j + n = u0.toNatClampNeg + 1) (hg2 : m_sprI u0 c4 c5 c6 c23 k (u0.toNatClampNeg + 1) 0 0 (-1) 0 0 = m_sprI u0 c4 c5 c6 c23 k n j ct fi ll mo) (ls : Array Slot) (hl : lv_has ls 16 [(0, .ref h0), (1, .int p0), (2, .int p1), (3, .long sm), (5, .int bf), (6, .int (nI k)), (7, .int ct), (8, .int fi), (9, .long ll), (11, .long mo), (13, .int (nI j))]), W p l e ({ frames := 2, cells := 0, slots := 0, locals := 46 }) s m [.ref h0, .int p0, .int p1].toArray below meth c s.heap [] 0 0 Q (F0 m 29 ls []) := by
          intro n
          induction n with
          | zero =>
            intro j ct fi ll mo hi2 hn2 hg2 ls hl
            exact absurd hn2 (by omega)
          | succ n ih_29 =>
            intro j ct fi ll mo hi2 hn2 hg2 ls hl
            refine lv_iload hx hb d_Md_spread_29 (lv_at hl 10 rfl) ?_
            refine lv_aload_n hx hb d_Md_spread_31 rfl (lv_at hl 0 rfl) ?_
            refine va_get (D := D) (ci := 6) (v := .int u0) (C := R_Md) (T := T_Md) (N := 31) hx hb hts in_Md hown hK hP 0 rfl rfl 0 (by decide) (hts _ cw_734) (fun _ h9 => h9) rfl d_Md_spread_32 ?_
            refine lv_icmp_ge (tgt := 125) hx hb d_Md_spread_35 (by decide) (fun c_4 => ?_) (fun c_4 => ?_)
            · have hz : m_sprI u0 c4 c5 c6 c23 k (u0.toNatClampNeg + 1) 0 0 (-1) 0 0 = (ct, fi, ll, mo) := hg2.trans (by rw [m_sprI, if_pos c_4])
              refine lv_iload hx hb d_Md_spread_125 (lv_at hl 6 rfl) ?_
              refine lv_iload_n hx hb d_Md_spread_127 rfl (lv_at hl 1 rfl) ?_
              refine lv_icmp_ne (tgt := 138) hx hb d_Md_spread_128 (by decide) (fun c_5 => ?_) (fun c_5 => ?_)
              · refine lv_ldc2 (v := (-1)) hx hb hown (hts _ cw_956) d_Md_spread_138 ?_
                subst hQ
                exact W.lret (v := (-1)) hx hb hr (fun t ht hW => ⟨_, rfl, (hg.trans (by rw [m_spr]; simp [hz, eq_false c_2, eq_true c_4, eq_false c_5])).symm, ht⟩) (fun q h => by cases h) d_Md_spread_141
              · refine lv_iload hx hb d_Md_spread_131 (lv_at hl 7 rfl) ?_
                refine lv_iload hx hb d_Md_spread_133 (lv_at hl 4 rfl) ?_
                refine lv_icmp_ge (tgt := 142) hx hb d_Md_spread_135 (by decide) (fun c_6 => ?_) (fun c_6 => ?_)
                · refine lv_iload hx hb d_Md_spread_142 (lv_at hl 7 rfl) ?_
                  refine lv_istore (lv' := [(5, .int fi), (0, .ref h0), (1, .int p0), (2, .int p1), (3, .long sm), (6, .int (nI k)), (7, .int ct), (8, .int fi), (9, .long ll), (11, .long mo), (13, .int (nI j))]) hx hb d_Md_spread_144 hl (by decide) rfl (fun ls hl => ?_)
                  refine lv_lload_n hx hb d_Md_spread_146 rfl (lv_at hl 4 rfl) ?_
                  refine lv_lload hx hb d_Md_spread_147 (lv_at hl 9 rfl) ?_
                  refine lv_lload hx hb d_Md_spread_149 (lv_at hl 8 rfl) ?_
                  refine lv_lsub hx hb d_Md_spread_151 ?_
                  refine lv_ladd hx hb d_Md_spread_152 ?_
                  refine lv_lstore_n (lv' := [(3, .long (sm + (mo - ll))), (5, .int fi), (0, .ref h0), (1, .int p0), (2, .int p1), (6, .int (nI k)), (7, .int ct), (8, .int fi), (9, .long ll), (11, .long mo), (13, .int (nI j))]) hx hb d_Md_spread_153 rfl hl (by decide) rfl (fun ls hl => ?_)
                  refine lv_iinc (v := nI (k + 1)) (lv' := [(6, .int (nI (k + 1))), (3, .long (sm + (mo - ll))), (5, .int fi), (0, .ref h0), (1, .int p0), (2, .int p1), (7, .int ct), (8, .int fi), (9, .long ll), (11, .long mo), (13, .int (nI j))]) hx hb d_Md_spread_154 hl (k := 5) rfl (nI_1 k) (by decide) rfl (fun ls hl => ?_)
                  refine lv_goto (tgt := 8) hx hb d_Md_spread_157 (by decide) ?_
                  exact ih_8 (k + 1) (sm + (mo - ll)) fi (ix_clamp c_2 (Nat.lt_of_le_of_lt hi (Int32.toNatClampNeg_lt _))) (by omega) (hg.trans (by rw [m_spr]; simp [hz, eq_false c_2, eq_true c_4, eq_true c_5, eq_true c_6])) ls (lv_sub hl [3, 4, 5, 1, 2, 0] rfl)
                · refine lv_ldc2 (v := (-1)) hx hb hown (hts _ cw_956) d_Md_spread_138 ?_
                  subst hQ
                  exact W.lret (v := (-1)) hx hb hr (fun t ht hW => ⟨_, rfl, (hg.trans (by rw [m_spr]; simp [hz, eq_false c_2, eq_true c_4, eq_true c_5, eq_false c_6])).symm, ht⟩) (fun q h => by cases h) d_Md_spread_141
            · refine lv_aload_n hx hb d_Md_spread_38 rfl (lv_at hl 0 rfl) ?_
              refine va_get (D := D) (ci := 6) (v := .ref a23) (C := R_Md) (T := T_Md) (N := 31) hx hb hts in_Md hown hK hP 0 rfl rfl 23 (by decide) (hts _ cw_757) (fun _ h9 => h9) rfl d_Md_spread_39 ?_
              refine lv_iload hx hb d_Md_spread_42 (lv_at hl 10 rfl) ?_
              refine va_iald hx hb hK hP 4 3 rfl rfl (ix_via (n := 8) (by decide) c_4 hc (Nat.lt_of_le_of_lt hi2 (Int32.toNatClampNeg_lt _))) d_Md_spread_44 ?_
              refine lv_iload hx hb d_Md_spread_45 (lv_at hl 5 rfl) ?_
              refine lv_icmp_ne (tgt := 119) hx hb d_Md_spread_47 (by decide) (fun c_7 => ?_) (fun c_7 => ?_)
              · refine lv_iinc (v := nI (j + 1)) (lv' := [(13, .int (nI (j + 1))), (0, .ref h0), (1, .int p0), (2, .int p1), (3, .long sm), (5, .int bf), (6, .int (nI k)), (7, .int ct), (8, .int fi), (9, .long ll), (11, .long mo)]) hx hb d_Md_spread_119 hl (k := 10) rfl (nI_1 j) (by decide) rfl (fun ls hl => ?_)
                refine lv_goto (tgt := 29) hx hb d_Md_spread_122 (by decide) ?_
                exact ih_29 (j + 1) ct fi ll mo (ix_clamp c_4 (Nat.lt_of_le_of_lt hi2 (Int32.toNatClampNeg_lt _))) (by omega) (hg2.trans (by rw [m_sprI]; simp [eq_false c_2, eq_false c_4, eq_false c_7])) ls (lv_sub hl [1, 2, 3, 4, 5, 6, 7, 8, 9, 10, 0] rfl)
              · refine lv_aload_n hx hb d_Md_spread_50 rfl (lv_at hl 0 rfl) ?_
                refine lv_iload hx hb d_Md_spread_51 (lv_at hl 10 rfl) ?_
                have hPc := hP.sub (ws' := [(h0, .inr (6, [.int u0, .ref a1, .int u2, .int u3, .ref a4, .ref a5, .ref a6, .ref a7, .ref a8, .ref a9, .ref a10, .ref a11, .int u12, .int u13, .ref a14, .ref a15, .ref a16, .int u17, .ref a18, .ref a19, .ref a20, .int u21, .ref a22, .ref a23, .int u24, .ref a25, .ref a26, .int u27, .int u28, .int u29, .int u30])), (a4, .inl (k4, 8, .inl c4)), (a5, .inl (k5, 240, .inl c5)), (a6, .inl (k6, 240, .inl c6))]) [0, 1, 2, 3] rfl
                have hDc := hD.sub (ws' := [(h0, .inr (6, [.int u0, .ref a1, .int u2, .int u3, .ref a4, .ref a5, .ref a6, .ref a7, .ref a8, .ref a9, .ref a10, .ref a11, .int u12, .int u13, .ref a14, .ref a15, .ref a16, .int u17, .ref a18, .ref a19, .ref a20, .int u21, .ref a22, .ref a23, .int u24, .ref a25, .ref a26, .int u27, .int u28, .int u29, .int u30])), (a4, .inl (k4, 8, .inl c4)), (a5, .inl (k5, 240, .inl c5)), (a6, .inl (k6, 240, .inl c6))]) [0, 1, 2, 3] (by decide) rfl
                have hKc := hK.sub (tys' := [(k4, .int), (k5, .int), (k6, .int)]) [0, 1, 2] rfl
                have hFc := va_free (wc := [(h0, .inr (6, [.int u0, .ref a1, .int u2, .int u3, .ref a4, .ref a5, .ref a6, .ref a7, .ref a8, .ref a9, .ref a10, .ref a11, .int u12, .int u13, .ref a14, .ref a15, .ref a16, .int u17, .ref a18, .ref a19, .ref a20, .int u21, .ref a22, .ref a23, .int u24, .ref a25, .ref a26, .int u27, .int u28, .int u29, .int u30])), (a4, .inl (k4, 8, .inl c4)), (a5, .inl (k5, 240, .inl c5)), (a6, .inl (k6, 240, .inl c6))]) hD hS hA [0, 1, 2, 3] rfl
                refine vp_callSl (va_Run.run (va_runV (As := [.int (nI j)]) (rest := [])  ⟨hx, hb, hml, hown, hts⟩ (c_Md_charge l D h0 u0 a1 u2 u3 a4 a5 a6 a7 a8 a9 a10 a11 u12 u13 a14 a15 a16 u17 a18 a19 a20 u21 a22 a23 u24 a25 a26 u27 u28 u29 u30 k4 k5 k6 c4 c5 c6 (nI j) s.heap.size (by assumption) (by assumption)) ⟨callB_of 1 hts cg_Md_charge rfl rfl rfl (hts _ cw_10) (hts _ cw_944) (by decide +kernel) ⟨Nat.le_of_ble_eq_true rfl, Nat.le_of_ble_eq_true rfl⟩, hts _ cw_864, hts _ cw_865⟩ (cx_preV (C := R_Md) [.int (nI j)] hPc hKc hDc hN hO hS hFc (ci := 6) (q0 := 0) rfl rfl rfl) rfl rfl hl.1 rfl (lv_room (Nat.le_of_ble_eq_true rfl)) d_Md_spread_53 ⟨Nat.le_of_ble_eq_true rfl, Nat.le_of_ble_eq_true rfl⟩)) (fun r z_8 => ?_)
                subst z_8
                refine lv_lstore (lv' := [(14, .long (m_mcharge u0 c4 c5 c6 (nI j))), (0, .ref h0), (1, .int p0), (2, .int p1), (3, .long sm), (5, .int bf), (6, .int (nI k)), (7, .int ct), (8, .int fi), (9, .long ll), (11, .long mo), (13, .int (nI j))]) hx hb d_Md_spread_56 hl (by decide) rfl (fun ls hl => ?_)
                refine lv_iload hx hb d_Md_spread_58 (lv_at hl 7 rfl) ?_
                refine lv_if_eq (tgt := 71) hx hb d_Md_spread_60 (by decide) (fun c_9 => ?_) (fun c_9 => ?_)
                · refine lv_lload hx hb d_Md_spread_71 (lv_at hl 0 rfl) ?_
                  refine lv_goto (tgt := 78) hx hb d_Md_spread_73 (by decide) ?_
                  refine lv_lstore (lv' := [(9, .long (m_mcharge u0 c4 c5 c6 (nI j))), (14, .long (m_mcharge u0 c4 c5 c6 (nI j))), (0, .ref h0), (1, .int p0), (2, .int p1), (3, .long sm), (5, .int bf), (6, .int (nI k)), (7, .int ct), (8, .int fi), (11, .long mo), (13, .int (nI j))]) hx hb d_Md_spread_78 hl (by decide) rfl (fun ls hl => ?_)
                  refine lv_iload hx hb d_Md_spread_80 (lv_at hl 8 rfl) ?_
                  refine lv_if_eq (tgt := 93) hx hb d_Md_spread_82 (by decide) (fun c_10 => ?_) (fun c_10 => ?_)
                  · refine lv_lload hx hb d_Md_spread_93 (lv_at hl 1 rfl) ?_
                    refine lv_goto (tgt := 100) hx hb d_Md_spread_95 (by decide) ?_
                    refine lv_lstore (lv' := [(11, .long (m_mcharge u0 c4 c5 c6 (nI j))), (9, .long (m_mcharge u0 c4 c5 c6 (nI j))), (14, .long (m_mcharge u0 c4 c5 c6 (nI j))), (0, .ref h0), (1, .int p0), (2, .int p1), (3, .long sm), (5, .int bf), (6, .int (nI k)), (7, .int ct), (8, .int fi), (13, .int (nI j))]) hx hb d_Md_spread_100 hl (by decide) rfl (fun ls hl => ?_)
                    refine lv_iload hx hb d_Md_spread_102 (lv_at hl 9 rfl) ?_
                    refine lv_if_ne (tgt := 112) hx hb d_Md_spread_104 (by decide) (fun c_11 => ?_) (fun c_11 => ?_)
                    · exact absurd c_10 c_11
                    · refine lv_iload hx hb d_Md_spread_107 (lv_at hl 11 rfl) ?_
                      refine lv_goto (tgt := 114) hx hb d_Md_spread_109 (by decide) ?_
                      refine lv_istore (lv' := [(8, .int (nI j)), (11, .long (m_mcharge u0 c4 c5 c6 (nI j))), (9, .long (m_mcharge u0 c4 c5 c6 (nI j))), (14, .long (m_mcharge u0 c4 c5 c6 (nI j))), (0, .ref h0), (1, .int p0), (2, .int p1), (3, .long sm), (5, .int bf), (6, .int (nI k)), (7, .int ct), (13, .int (nI j))]) hx hb d_Md_spread_114 hl (by decide) rfl (fun ls hl => ?_)
                      refine lv_iinc (v := ct + 1) (lv' := [(7, .int (ct + 1)), (8, .int (nI j)), (11, .long (m_mcharge u0 c4 c5 c6 (nI j))), (9, .long (m_mcharge u0 c4 c5 c6 (nI j))), (14, .long (m_mcharge u0 c4 c5 c6 (nI j))), (0, .ref h0), (1, .int p0), (2, .int p1), (3, .long sm), (5, .int bf), (6, .int (nI k)), (13, .int (nI j))]) hx hb d_Md_spread_116 hl (k := 10) rfl (rfl) (by decide) rfl (fun ls hl => ?_)
                      refine lv_iinc (v := nI (j + 1)) (lv' := [(13, .int (nI (j + 1))), (7, .int (ct + 1)), (8, .int (nI j)), (11, .long (m_mcharge u0 c4 c5 c6 (nI j))), (9, .long (m_mcharge u0 c4 c5 c6 (nI j))), (14, .long (m_mcharge u0 c4 c5 c6 (nI j))), (0, .ref h0), (1, .int p0), (2, .int p1), (3, .long sm), (5, .int bf), (6, .int (nI k))]) hx hb d_Md_spread_119 hl (k := 11) rfl (nI_1 j) (by decide) rfl (fun ls hl => ?_)
                      refine lv_goto (tgt := 29) hx hb d_Md_spread_122 (by decide) ?_
                      exact ih_29 (j + 1) (ct + 1) (nI j) (m_mcharge u0 c4 c5 c6 (nI j)) (m_mcharge u0 c4 c5 c6 (nI j)) (ix_clamp c_4 (Nat.lt_of_le_of_lt hi2 (Int32.toNatClampNeg_lt _))) (by omega) (hg2.trans (by rw [m_sprI]; simp [eq_false c_2, eq_false c_4, eq_true c_7, eq_true c_9, eq_true c_10, eq_true c_11])) ls (lv_sub hl [6, 7, 8, 9, 10, 11, 1, 2, 4, 3, 0] rfl)
                  · exact absurd c_9 c_10
                · refine lv_lload hx hb d_Md_spread_63 (lv_at hl 0 rfl) ?_
                  refine lv_lload hx hb d_Md_spread_65 (lv_at hl 9 rfl) ?_
                  refine W.lcmp hx hb d_Md_spread_67 ?_
                  refine lv_if_ge (tgt := 76) hx hb d_Md_spread_68 (by decide) (fun c_12 => ?_) (fun c_12 => ?_)
                  · have c_12 := (lg_cmp_ge (m_mcharge u0 c4 c5 c6 (nI j)) ll).mp c_12
                    refine lv_lload hx hb d_Md_spread_76 (lv_at hl 9 rfl) ?_
                    refine lv_lstore (lv' := [(9, .long ll), (14, .long (m_mcharge u0 c4 c5 c6 (nI j))), (0, .ref h0), (1, .int p0), (2, .int p1), (3, .long sm), (5, .int bf), (6, .int (nI k)), (7, .int ct), (8, .int fi), (11, .long mo), (13, .int (nI j))]) hx hb d_Md_spread_78 hl (by decide) rfl (fun ls hl => ?_)
                    refine lv_iload hx hb d_Md_spread_80 (lv_at hl 8 rfl) ?_
                    refine lv_if_eq (tgt := 93) hx hb d_Md_spread_82 (by decide) (fun c_13 => ?_) (fun c_13 => ?_)
                    · exact absurd c_13 c_9
                    · refine lv_lload hx hb d_Md_spread_85 (lv_at hl 1 rfl) ?_
                      refine lv_lload hx hb d_Md_spread_87 (lv_at hl 10 rfl) ?_
                      refine W.lcmp hx hb d_Md_spread_89 ?_
                      refine lv_if_le (tgt := 98) hx hb d_Md_spread_90 (by decide) (fun c_14 => ?_) (fun c_14 => ?_)
                      · have c_14 := (lg_cmp_le (m_mcharge u0 c4 c5 c6 (nI j)) mo).mp c_14
                        refine lv_lload hx hb d_Md_spread_98 (lv_at hl 10 rfl) ?_
                        refine lv_lstore (lv' := [(11, .long mo), (9, .long ll), (14, .long (m_mcharge u0 c4 c5 c6 (nI j))), (0, .ref h0), (1, .int p0), (2, .int p1), (3, .long sm), (5, .int bf), (6, .int (nI k)), (7, .int ct), (8, .int fi), (13, .int (nI j))]) hx hb d_Md_spread_100 hl (by decide) rfl (fun ls hl => ?_)
                        refine lv_iload hx hb d_Md_spread_102 (lv_at hl 9 rfl) ?_
                        refine lv_if_ne (tgt := 112) hx hb d_Md_spread_104 (by decide) (fun c_15 => ?_) (fun c_15 => ?_)
                        · refine lv_iload hx hb d_Md_spread_112 (lv_at hl 10 rfl) ?_
                          refine lv_istore (lv' := [(8, .int fi), (11, .long mo), (9, .long ll), (14, .long (m_mcharge u0 c4 c5 c6 (nI j))), (0, .ref h0), (1, .int p0), (2, .int p1), (3, .long sm), (5, .int bf), (6, .int (nI k)), (7, .int ct), (13, .int (nI j))]) hx hb d_Md_spread_114 hl (by decide) rfl (fun ls hl => ?_)
                          refine lv_iinc (v := ct + 1) (lv' := [(7, .int (ct + 1)), (8, .int fi), (11, .long mo), (9, .long ll), (14, .long (m_mcharge u0 c4 c5 c6 (nI j))), (0, .ref h0), (1, .int p0), (2, .int p1), (3, .long sm), (5, .int bf), (6, .int (nI k)), (13, .int (nI j))]) hx hb d_Md_spread_116 hl (k := 10) rfl (rfl) (by decide) rfl (fun ls hl => ?_)
                          refine lv_iinc (v := nI (j + 1)) (lv' := [(13, .int (nI (j + 1))), (7, .int (ct + 1)), (8, .int fi), (11, .long mo), (9, .long ll), (14, .long (m_mcharge u0 c4 c5 c6 (nI j))), (0, .ref h0), (1, .int p0), (2, .int p1), (3, .long sm), (5, .int bf), (6, .int (nI k))]) hx hb d_Md_spread_119 hl (k := 11) rfl (nI_1 j) (by decide) rfl (fun ls hl => ?_)
                          refine lv_goto (tgt := 29) hx hb d_Md_spread_122 (by decide) ?_
                          exact ih_29 (j + 1) (ct + 1) fi ll mo (ix_clamp c_4 (Nat.lt_of_le_of_lt hi2 (Int32.toNatClampNeg_lt _))) (by omega) (hg2.trans (by rw [m_sprI]; simp [eq_false c_2, eq_false c_4, eq_true c_7, eq_false c_9, eq_true c_12, eq_false c_13, eq_true c_14, eq_false c_15])) ls (lv_sub hl [6, 7, 8, 9, 10, 11, 1, 2, 4, 3, 0] rfl)
                        · exact absurd c_15 c_13
                      · have c_14 := (not_congr (lg_cmp_le (m_mcharge u0 c4 c5 c6 (nI j)) mo)).mp c_14
                        refine lv_lload hx hb d_Md_spread_93 (lv_at hl 1 rfl) ?_
                        refine lv_goto (tgt := 100) hx hb d_Md_spread_95 (by decide) ?_
                        refine lv_lstore (lv' := [(11, .long (m_mcharge u0 c4 c5 c6 (nI j))), (9, .long ll), (14, .long (m_mcharge u0 c4 c5 c6 (nI j))), (0, .ref h0), (1, .int p0), (2, .int p1), (3, .long sm), (5, .int bf), (6, .int (nI k)), (7, .int ct), (8, .int fi), (13, .int (nI j))]) hx hb d_Md_spread_100 hl (by decide) rfl (fun ls hl => ?_)
                        refine lv_iload hx hb d_Md_spread_102 (lv_at hl 9 rfl) ?_
                        refine lv_if_ne (tgt := 112) hx hb d_Md_spread_104 (by decide) (fun c_16 => ?_) (fun c_16 => ?_)
                        · refine lv_iload hx hb d_Md_spread_112 (lv_at hl 10 rfl) ?_
                          refine lv_istore (lv' := [(8, .int fi), (11, .long (m_mcharge u0 c4 c5 c6 (nI j))), (9, .long ll), (14, .long (m_mcharge u0 c4 c5 c6 (nI j))), (0, .ref h0), (1, .int p0), (2, .int p1), (3, .long sm), (5, .int bf), (6, .int (nI k)), (7, .int ct), (13, .int (nI j))]) hx hb d_Md_spread_114 hl (by decide) rfl (fun ls hl => ?_)
                          refine lv_iinc (v := ct + 1) (lv' := [(7, .int (ct + 1)), (8, .int fi), (11, .long (m_mcharge u0 c4 c5 c6 (nI j))), (9, .long ll), (14, .long (m_mcharge u0 c4 c5 c6 (nI j))), (0, .ref h0), (1, .int p0), (2, .int p1), (3, .long sm), (5, .int bf), (6, .int (nI k)), (13, .int (nI j))]) hx hb d_Md_spread_116 hl (k := 10) rfl (rfl) (by decide) rfl (fun ls hl => ?_)
                          refine lv_iinc (v := nI (j + 1)) (lv' := [(13, .int (nI (j + 1))), (7, .int (ct + 1)), (8, .int fi), (11, .long (m_mcharge u0 c4 c5 c6 (nI j))), (9, .long ll), (14, .long (m_mcharge u0 c4 c5 c6 (nI j))), (0, .ref h0), (1, .int p0), (2, .int p1), (3, .long sm), (5, .int bf), (6, .int (nI k))]) hx hb d_Md_spread_119 hl (k := 11) rfl (nI_1 j) (by decide) rfl (fun ls hl => ?_)
                          refine lv_goto (tgt := 29) hx hb d_Md_spread_122 (by decide) ?_
                          exact ih_29 (j + 1) (ct + 1) fi ll (m_mcharge u0 c4 c5 c6 (nI j)) (ix_clamp c_4 (Nat.lt_of_le_of_lt hi2 (Int32.toNatClampNeg_lt _))) (by omega) (hg2.trans (by rw [m_sprI]; simp [eq_false c_2, eq_false c_4, eq_true c_7, eq_false c_9, eq_true c_12, eq_false c_13, eq_false c_14, eq_false c_16])) ls (lv_sub hl [6, 7, 8, 9, 10, 11, 1, 2, 4, 3, 0] rfl)
                        · exact absurd c_16 c_13
                  · have c_12 := (not_congr (lg_cmp_ge (m_mcharge u0 c4 c5 c6 (nI j)) ll)).mp c_12
                    refine lv_lload hx hb d_Md_spread_71 (lv_at hl 0 rfl) ?_
                    refine lv_goto (tgt := 78) hx hb d_Md_spread_73 (by decide) ?_
                    refine lv_lstore (lv' := [(9, .long (m_mcharge u0 c4 c5 c6 (nI j))), (14, .long (m_mcharge u0 c4 c5 c6 (nI j))), (0, .ref h0), (1, .int p0), (2, .int p1), (3, .long sm), (5, .int bf), (6, .int (nI k)), (7, .int ct), (8, .int fi), (11, .long mo), (13, .int (nI j))]) hx hb d_Md_spread_78 hl (by decide) rfl (fun ls hl => ?_)
                    refine lv_iload hx hb d_Md_spread_80 (lv_at hl 8 rfl) ?_
                    refine lv_if_eq (tgt := 93) hx hb d_Md_spread_82 (by decide) (fun c_17 => ?_) (fun c_17 => ?_)
                    · exact absurd c_17 c_9
                    · refine lv_lload hx hb d_Md_spread_85 (lv_at hl 1 rfl) ?_
                      refine lv_lload hx hb d_Md_spread_87 (lv_at hl 10 rfl) ?_
                      refine W.lcmp hx hb d_Md_spread_89 ?_
                      refine lv_if_le (tgt := 98) hx hb d_Md_spread_90 (by decide) (fun c_18 => ?_) (fun c_18 => ?_)
                      · have c_18 := (lg_cmp_le (m_mcharge u0 c4 c5 c6 (nI j)) mo).mp c_18
                        refine lv_lload hx hb d_Md_spread_98 (lv_at hl 10 rfl) ?_
                        refine lv_lstore (lv' := [(11, .long mo), (9, .long (m_mcharge u0 c4 c5 c6 (nI j))), (14, .long (m_mcharge u0 c4 c5 c6 (nI j))), (0, .ref h0), (1, .int p0), (2, .int p1), (3, .long sm), (5, .int bf), (6, .int (nI k)), (7, .int ct), (8, .int fi), (13, .int (nI j))]) hx hb d_Md_spread_100 hl (by decide) rfl (fun ls hl => ?_)
                        refine lv_iload hx hb d_Md_spread_102 (lv_at hl 9 rfl) ?_
                        refine lv_if_ne (tgt := 112) hx hb d_Md_spread_104 (by decide) (fun c_19 => ?_) (fun c_19 => ?_)
                        · refine lv_iload hx hb d_Md_spread_112 (lv_at hl 10 rfl) ?_
                          refine lv_istore (lv' := [(8, .int fi), (11, .long mo), (9, .long (m_mcharge u0 c4 c5 c6 (nI j))), (14, .long (m_mcharge u0 c4 c5 c6 (nI j))), (0, .ref h0), (1, .int p0), (2, .int p1), (3, .long sm), (5, .int bf), (6, .int (nI k)), (7, .int ct), (13, .int (nI j))]) hx hb d_Md_spread_114 hl (by decide) rfl (fun ls hl => ?_)
                          refine lv_iinc (v := ct + 1) (lv' := [(7, .int (ct + 1)), (8, .int fi), (11, .long mo), (9, .long (m_mcharge u0 c4 c5 c6 (nI j))), (14, .long (m_mcharge u0 c4 c5 c6 (nI j))), (0, .ref h0), (1, .int p0), (2, .int p1), (3, .long sm), (5, .int bf), (6, .int (nI k)), (13, .int (nI j))]) hx hb d_Md_spread_116 hl (k := 10) rfl (rfl) (by decide) rfl (fun ls hl => ?_)
                          refine lv_iinc (v := nI (j + 1)) (lv' := [(13, .int (nI (j + 1))), (7, .int (ct + 1)), (8, .int fi), (11, .long mo), (9, .long (m_mcharge u0 c4 c5 c6 (nI j))), (14, .long (m_mcharge u0 c4 c5 c6 (nI j))), (0, .ref h0), (1, .int p0), (2, .int p1), (3, .long sm), (5, .int bf), (6, .int (nI k))]) hx hb d_Md_spread_119 hl (k := 11) rfl (nI_1 j) (by decide) rfl (fun ls hl => ?_)
                          refine lv_goto (tgt := 29) hx hb d_Md_spread_122 (by decide) ?_
                          exact ih_29 (j + 1) (ct + 1) fi (m_mcharge u0 c4 c5 c6 (nI j)) mo (ix_clamp c_4 (Nat.lt_of_le_of_lt hi2 (Int32.toNatClampNeg_lt _))) (by omega) (hg2.trans (by rw [m_sprI]; simp [eq_false c_2, eq_false c_4, eq_true c_7, eq_false c_9, eq_false c_12, eq_false c_17, eq_true c_18, eq_false c_19])) ls (lv_sub hl [6, 7, 8, 9, 10, 11, 1, 2, 4, 3, 0] rfl)
                        · exact absurd c_19 c_17
                      · have c_18 := (not_congr (lg_cmp_le (m_mcharge u0 c4 c5 c6 (nI j)) mo)).mp c_18
                        refine lv_lload hx hb d_Md_spread_93 (lv_at hl 1 rfl) ?_
                        refine lv_goto (tgt := 100) hx hb d_Md_spread_95 (by decide) ?_
                        refine lv_lstore (lv' := [(11, .long (m_mcharge u0 c4 c5 c6 (nI j))), (9, .long (m_mcharge u0 c4 c5 c6 (nI j))), (14, .long (m_mcharge u0 c4 c5 c6 (nI j))), (0, .ref h0), (1, .int p0), (2, .int p1), (3, .long sm), (5, .int bf), (6, .int (nI k)), (7, .int ct), (8, .int fi), (13, .int (nI j))]) hx hb d_Md_spread_100 hl (by decide) rfl (fun ls hl => ?_)
                        refine lv_iload hx hb d_Md_spread_102 (lv_at hl 9 rfl) ?_
                        refine lv_if_ne (tgt := 112) hx hb d_Md_spread_104 (by decide) (fun c_20 => ?_) (fun c_20 => ?_)
                        · refine lv_iload hx hb d_Md_spread_112 (lv_at hl 10 rfl) ?_
                          refine lv_istore (lv' := [(8, .int fi), (11, .long (m_mcharge u0 c4 c5 c6 (nI j))), (9, .long (m_mcharge u0 c4 c5 c6 (nI j))), (14, .long (m_mcharge u0 c4 c5 c6 (nI j))), (0, .ref h0), (1, .int p0), (2, .int p1), (3, .long sm), (5, .int bf), (6, .int (nI k)), (7, .int ct), (13, .int (nI j))]) hx hb d_Md_spread_114 hl (by decide) rfl (fun ls hl => ?_)
                          refine lv_iinc (v := ct + 1) (lv' := [(7, .int (ct + 1)), (8, .int fi), (11, .long (m_mcharge u0 c4 c5 c6 (nI j))), (9, .long (m_mcharge u0 c4 c5 c6 (nI j))), (14, .long (m_mcharge u0 c4 c5 c6 (nI j))), (0, .ref h0), (1, .int p0), (2, .int p1), (3, .long sm), (5, .int bf), (6, .int (nI k)), (13, .int (nI j))]) hx hb d_Md_spread_116 hl (k := 10) rfl (rfl) (by decide) rfl (fun ls hl => ?_)
                          refine lv_iinc (v := nI (j + 1)) (lv' := [(13, .int (nI (j + 1))), (7, .int (ct + 1)), (8, .int fi), (11, .long (m_mcharge u0 c4 c5 c6 (nI j))), (9, .long (m_mcharge u0 c4 c5 c6 (nI j))), (14, .long (m_mcharge u0 c4 c5 c6 (nI j))), (0, .ref h0), (1, .int p0), (2, .int p1), (3, .long sm), (5, .int bf), (6, .int (nI k))]) hx hb d_Md_spread_119 hl (k := 11) rfl (nI_1 j) (by decide) rfl (fun ls hl => ?_)
                          refine lv_goto (tgt := 29) hx hb d_Md_spread_122 (by decide) ?_
                          exact ih_29 (j + 1) (ct + 1) fi (m_mcharge u0 c4 c5 c6 (nI j)) (m_mcharge u0 c4 c5 c6 (nI j)) (ix_clamp c_4 (Nat.lt_of_le_of_lt hi2 (Int32.toNatClampNeg_lt _))) (by omega) (hg2.trans (by rw [m_sprI]; simp [eq_false c_2, eq_false c_4, eq_true c_7, eq_false c_9, eq_false c_12, eq_false c_17, eq_false c_18, eq_false c_20])) ls (lv_sub hl [6, 7, 8, 9, 10, 11, 1, 2, 4, 3, 0] rfl)
                        · exact absurd c_20 c_17
        exact loop_3 (u0.toNatClampNeg + 1) 0 0 (-1) 0 0 (by omega) (by omega) (rfl) ls (lv_sub hl [5, 6, 7, 8, 9, 10, 4, 3, 2, 1, 0] rfl)
  exact loop_1 (p1.toNatClampNeg + 1) 0 0 (-1) (by omega) (by omega) (rfl) ls (lv_sub hl [3, 4, 5, 2, 1, 0] rfl)

set_option maxHeartbeats 4000000 in
set_option maxRecDepth 100000 in
theorem c_Md_turn (l : Launch) (D : va_G)  (h0 : Nat) (u0 : Int32) (a1 : Nat) (u2 : Int32) (u3 : Int32) (a4 : Nat) (a5 : Nat) (a6 : Nat) (a7 : Nat) (a8 : Nat) (a9 : Nat) (a10 : Nat) (a11 : Nat) (u12 : Int32) (u13 : Int32) (a14 : Nat) (a15 : Nat) (a16 : Nat) (u17 : Int32) (a18 : Nat) (a19 : Nat) (a20 : Nat) (u21 : Int32) (a22 : Nat) (a23 : Nat) (u24 : Int32) (a25 : Nat) (a26 : Nat) (u27 : Int32) (u28 : Int32) (u29 : Int32) (u30 : Int32) (k4 : ClassId) (k7 : ClassId) (k8 : ClassId) (k10 : ClassId) (k23 : ClassId) (c4 : Nat → Int32) (c7 : Nat → Int32) (c8 : Nat → Int32) (c10 : Nat → Int32) (c23 : Nat → Int32) (p0 : Int32) (sz : Nat) (hc : u0 ≤ 8) (hst : ∀ i, i < 8 → ¬ c4 i < 0 ∧ c4 i ≤ 30) (hrc : ∀ i, i < 8 → ¬ c8 i < 0 ∧ c8 i ≤ 10) (hc0 : ¬ u0 < 0) : Met l y_Md_turn ws_Md_turn ({ frames := 3, cells := 0, slots := 0, locals := 65 }) (va_Pc [.ref h0, .int p0] (cx_pre D [(k4, .int), (k7, .int), (k8, .int), (k10, .int), (k23, .int)] ([(h0, .inr (6, [.int u0, .ref a1, .int u2, .int u3, .ref a4, .ref a5, .ref a6, .ref a7, .ref a8, .ref a9, .ref a10, .ref a11, .int u12, .int u13, .ref a14, .ref a15, .ref a16, .int u17, .ref a18, .ref a19, .ref a20, .int u21, .ref a22, .ref a23, .int u24, .ref a25, .ref a26, .int u27, .int u28, .int u29, .int u30])), (a4, .inl (k4, 8, .inl c4)), (a7, .inl (k7, 240, .inl c7)), (a8, .inl (k8, 8, .inl c8)), (a10, .inl (k10, 80, .inl c10)), (a23, .inl (k23, 8, .inl c23))]) sz)) (va_Qi (fun r9 _ => r9 = (m_mturn (m_mwhole u0 c4 c7 c8 c10) u0 p0 c23).1) (fun (_ : Unit) t => cx_end D [(k4, .int), (k7, .int), (k8, .int), (k10, .int), (k23, .int)] (va_A ([(h0, .inr (6, [.int u0, .ref a1, .int u2, .int u3, .ref a4, .ref a5, .ref a6, .ref a7, .ref a8, .ref a9, .ref a10, .ref a11, .int u12, .int u13, .ref a14, .ref a15, .ref a16, .int u17, .ref a18, .ref a19, .ref a20, .int u21, .ref a22, .ref a23, .int u24, .ref a25, .ref a26, .int u27, .int u28, .int u29, .int u30])), (a4, .inl (k4, 8, .inl c4)), (a7, .inl (k7, 240, .inl c7)), (a8, .inl (k8, 8, .inl c8)), (a10, .inl (k10, 80, .inl c10)), (a23, .inl (k23, 8, .inl c23))]) sz) ([(h0, .inr (6, [.int u0, .ref a1, .int u2, .int u3, .ref a4, .ref a5, .ref a6, .ref a7, .ref a8, .ref a9, .ref a10, .ref a11, .int u12, .int u13, .ref a14, .ref a15, .ref a16, .int u17, .ref a18, .ref a19, .ref a20, .int u21, .ref a22, .ref a23, .int u24, .ref a25, .ref a26, .int u27, .int u28, .int u29, .int u30])), (a4, .inl (k4, 8, .inl c4)), (a7, .inl (k7, 240, .inl c7)), (a8, .inl (k8, 8, .inl c8)), (a10, .inl (k10, 80, .inl c10)), (a23, .inl (k23, 8, .inl ((m_mturn (m_mwhole u0 c4 c7 c8 c10) u0 p0 c23).2)))]) t) (va_A ([(h0, .inr (6, [.int u0, .ref a1, .int u2, .int u3, .ref a4, .ref a5, .ref a6, .ref a7, .ref a8, .ref a9, .ref a10, .ref a11, .int u12, .int u13, .ref a14, .ref a15, .ref a16, .int u17, .ref a18, .ref a19, .ref a20, .int u21, .ref a22, .ref a23, .int u24, .ref a25, .ref a26, .int u27, .int u28, .int u29, .int u30])), (a4, .inl (k4, 8, .inl c4)), (a7, .inl (k7, 240, .inl c7)), (a8, .inl (k8, 8, .inl c8)), (a10, .inl (k10, 80, .inl c10)), (a23, .inl (k23, 8, .inl c23))]) sz)) 0 0 (va_A ([(h0, .inr (6, [.int u0, .ref a1, .int u2, .int u3, .ref a4, .ref a5, .ref a6, .ref a7, .ref a8, .ref a9, .ref a10, .ref a11, .int u12, .int u13, .ref a14, .ref a15, .ref a16, .int u17, .ref a18, .ref a19, .ref a20, .int u21, .ref a22, .ref a23, .int u24, .ref a25, .ref a26, .int u27, .int u28, .int u29, .int u30])), (a4, .inl (k4, 8, .inl c4)), (a7, .inl (k7, 240, .inl c7)), (a8, .inl (k8, 8, .inl c8)), (a10, .inl (k10, 80, .inl c10)), (a23, .inl (k23, 8, .inl c23))]) sz) := by
  refine Met.ofW (cc := b_Md_turn) (maxL := 3) (ret := (some .boolean)) (by decide) rfl ?_
  intro p e s m args below meth c s₁ B hml hv
  obtain ⟨rfl, hsz, hP, hK, hD0, hN, hO⟩ := hv
  have hx := B.exec
  have hb := B.bytes
  have hr := B.returns
  have hts := fun (w : Cond) (h : w ∈ cx_tbl) => atoms_spec (ws := ws_Md_turn) B.pre w (List.mem_cons_of_mem _ h)
  have hown : s.vm.findClass R_Md = some m.cls := findClass_of_methodNamed B.named
  have hlocks := B.notSynchronized
  subst hsz
  have hD := hD0.self (sz := s.heap.size)
  generalize hAe : va_A ([(h0, .inr (6, [.int u0, .ref a1, .int u2, .int u3, .ref a4, .ref a5, .ref a6, .ref a7, .ref a8, .ref a9, .ref a10, .ref a11, .int u12, .int u13, .ref a14, .ref a15, .ref a16, .int u17, .ref a18, .ref a19, .ref a20, .int u21, .ref a22, .ref a23, .int u24, .ref a25, .ref a26, .int u27, .int u28, .int u29, .int u30])), (a4, .inl (k4, 8, .inl c4)), (a7, .inl (k7, 240, .inl c7)), (a8, .inl (k8, 8, .inl c8)), (a10, .inl (k10, 80, .inl c10)), (a23, .inl (k23, 8, .inl c23))]) s.heap.size = A at hD hO ⊢
  have hA : ∀ q : Nat, s.heap.size ≤ q → A q := fun q h => by rw [← hAe]; exact Or.inr h
  have hS : va_S A s.heap s.heap [] := va_S.rf
  have hl := lv_entry ([.ref h0, .int p0]) (n := 3) (Nat.le_of_ble_eq_true rfl)
  rw [lg_entry_eq]
  generalize (lg_sl ([.ref h0, .int p0]) ++ List.replicate (3 - (lg_sl ([.ref h0, .int p0])).length) Slot.unset).toArray = ls at hl ⊢
  have hl : lv_has ls 3 [(0, .ref h0), (1, .int p0)] := hl
  refine cx_q (fun Q hQ => ?_)
  refine lv_aload_n hx hb d_Md_turn_0 rfl (lv_at hl 0 rfl) ?_
  refine va_get (D := D) (ci := 6) (v := .int u0) (C := R_Md) (T := T_Md) (N := 31) hx hb hts in_Md hown hK hP 0 rfl rfl 0 (by decide) (hts _ cw_734) (fun _ h9 => h9) rfl d_Md_turn_1 ?_
  refine lv_iconst (v := 1) hx hb d_Md_turn_4 (by decide) ?_
  refine lv_isub hx hb d_Md_turn_5 ?_
  refine lv_istore_n (lv' := [(2, .int (u0 - 1)), (0, .ref h0), (1, .int p0)]) hx hb d_Md_turn_6 rfl hl (by decide) rfl (fun ls hl => ?_)
  have loop_1 : ∀ (n : Nat) (x : Int32) (yw : Nat → Int32) (hn : (x.toInt + 1).toNat < n) (hg : m_turnL (m_mwhole u0 c4 c7 c8 c10) p0 (((u0 - 1).toInt + 1).toNat + 1) (u0 - 1) c23 = m_turnL (m_mwhole u0 c4 c7 c8 c10) p0 n x yw) (hx7 : x < 8) (H : Heap) (locs : List Loc) (hP : va_P D classes ([(h0, .inr (6, [.int u0, .ref a1, .int u2, .int u3, .ref a4, .ref a5, .ref a6, .ref a7, .ref a8, .ref a9, .ref a10, .ref a11, .int u12, .int u13, .ref a14, .ref a15, .ref a16, .int u17, .ref a18, .ref a19, .ref a20, .int u21, .ref a22, .ref a23, .int u24, .ref a25, .ref a26, .int u27, .int u28, .int u29, .int u30])), (a4, .inl (k4, 8, .inl c4)), (a7, .inl (k7, 240, .inl c7)), (a8, .inl (k8, 8, .inl c8)), (a10, .inl (k10, 80, .inl c10)), (a23, .inl (k23, 8, .inl yw))]) H) (hD : va_D A ([(h0, .inr (6, [.int u0, .ref a1, .int u2, .int u3, .ref a4, .ref a5, .ref a6, .ref a7, .ref a8, .ref a9, .ref a10, .ref a11, .int u12, .int u13, .ref a14, .ref a15, .ref a16, .int u17, .ref a18, .ref a19, .ref a20, .int u21, .ref a22, .ref a23, .int u24, .ref a25, .ref a26, .int u27, .int u28, .int u29, .int u30])), (a4, .inl (k4, 8, .inl c4)), (a7, .inl (k7, 240, .inl c7)), (a8, .inl (k8, 8, .inl c8)), (a10, .inl (k10, 80, .inl c10)), (a23, .inl (k23, 8, .inl yw))])) (hS : va_S A s.heap H locs) (ls : Array Slot) (hl : lv_has ls 3 [(0, .ref h0), (1, .int p0), (2, .int x)]), W p l e ({ frames := 3, cells := 0, slots := 0, locals := 65 }) s m [.ref h0, .int p0].toArray below meth c H locs 0 0 Q (F0 m 7 ls []) := by
    intro n
    induction n with
    | zero =>
      intro x yw hn hg hx7 H locs hP hD hS ls hl
      exact absurd hn (Nat.not_lt_zero _)
    | succ n ih_7 =>
      intro x yw hn hg hx7 H locs hP hD hS ls hl
      refine lv_iload_n hx hb d_Md_turn_7 rfl (lv_at hl 2 rfl) ?_
      refine lv_if_lt (tgt := 54) hx hb d_Md_turn_8 (by decide) (fun c_2 => ?_) (fun c_2 => ?_)
      · have hz : m_turnL (m_mwhole u0 c4 c7 c8 c10) p0 (((u0 - 1).toInt + 1).toNat + 1) (u0 - 1) c23 = (x, yw) := hg.trans (by rw [m_turnL]; simp [eq_true c_2])
        refine lv_iload_n hx hb d_Md_turn_54 rfl (lv_at hl 2 rfl) ?_
        refine lv_if_lt (tgt := 68) hx hb d_Md_turn_55 (by decide) (fun c_3 => ?_) (fun c_3 => ?_)
        · refine lv_iload_n hx hb d_Md_turn_68 rfl (lv_at hl 2 rfl) ?_
          refine lv_if_lt (tgt := 76) hx hb d_Md_turn_69 (by decide) (fun c_4 => ?_) (fun c_4 => ?_)
          · refine lv_iconst (v := 0) hx hb d_Md_turn_76 (by decide) ?_
            subst hQ
            have hm : m_mturn (m_mwhole u0 c4 c7 c8 c10) u0 p0 c23 = (0, yw) := by unfold m_mturn; rw [hz]; simp [eq_true c_2, eq_true c_3, eq_true c_4]
            rw [hm]
            have hP9 := hP.sub (ws' := [(h0, .inr (6, [.int u0, .ref a1, .int u2, .int u3, .ref a4, .ref a5, .ref a6, .ref a7, .ref a8, .ref a9, .ref a10, .ref a11, .int u12, .int u13, .ref a14, .ref a15, .ref a16, .int u17, .ref a18, .ref a19, .ref a20, .int u21, .ref a22, .ref a23, .int u24, .ref a25, .ref a26, .int u27, .int u28, .int u29, .int u30])), (a4, .inl (k4, 8, .inl c4)), (a7, .inl (k7, 240, .inl c7)), (a8, .inl (k8, 8, .inl c8)), (a10, .inl (k10, 80, .inl c10)), (a23, .inl (k23, 8, .inl yw))]) [0, 1, 2, 3, 4, 5] rfl
            have hD9 := hD.sub (ws' := [(h0, .inr (6, [.int u0, .ref a1, .int u2, .int u3, .ref a4, .ref a5, .ref a6, .ref a7, .ref a8, .ref a9, .ref a10, .ref a11, .int u12, .int u13, .ref a14, .ref a15, .ref a16, .int u17, .ref a18, .ref a19, .ref a20, .int u21, .ref a22, .ref a23, .int u24, .ref a25, .ref a26, .int u27, .int u28, .int u29, .int u30])), (a4, .inl (k4, 8, .inl c4)), (a7, .inl (k7, 240, .inl c7)), (a8, .inl (k8, 8, .inl c8)), (a10, .inl (k10, 80, .inl c10)), (a23, .inl (k23, 8, .inl yw))]) [0, 1, 2, 3, 4, 5] (by decide) rfl
            have hK9 := hK.sub (tys' := [(k4, .int), (k7, .int), (k8, .int), (k10, .int), (k23, .int)]) [0, 1, 2, 3, 4] rfl
            exact W.zret (v := 0) hx hb hr (rfl) (fun t ht hW => ⟨⟨_, (), rfl, rfl, by rw [ht]; exact hP9, va_K.moved hW.alike hK9, hD9⟩, hS.F ht⟩) hS.2.2 d_Md_turn_77
          · exact absurd c_3 c_4
        · exact absurd c_2 c_3
      · refine lv_aload_n hx hb d_Md_turn_11 rfl (lv_at hl 0 rfl) ?_
        refine lv_iload_n hx hb d_Md_turn_12 rfl (lv_at hl 2 rfl) ?_
        have hPc := hP.sub (ws' := [(h0, .inr (6, [.int u0, .ref a1, .int u2, .int u3, .ref a4, .ref a5, .ref a6, .ref a7, .ref a8, .ref a9, .ref a10, .ref a11, .int u12, .int u13, .ref a14, .ref a15, .ref a16, .int u17, .ref a18, .ref a19, .ref a20, .int u21, .ref a22, .ref a23, .int u24, .ref a25, .ref a26, .int u27, .int u28, .int u29, .int u30])), (a4, .inl (k4, 8, .inl c4)), (a7, .inl (k7, 240, .inl c7)), (a8, .inl (k8, 8, .inl c8)), (a10, .inl (k10, 80, .inl c10))]) [0, 1, 2, 3, 4] rfl
        have hDc := hD.sub (ws' := [(h0, .inr (6, [.int u0, .ref a1, .int u2, .int u3, .ref a4, .ref a5, .ref a6, .ref a7, .ref a8, .ref a9, .ref a10, .ref a11, .int u12, .int u13, .ref a14, .ref a15, .ref a16, .int u17, .ref a18, .ref a19, .ref a20, .int u21, .ref a22, .ref a23, .int u24, .ref a25, .ref a26, .int u27, .int u28, .int u29, .int u30])), (a4, .inl (k4, 8, .inl c4)), (a7, .inl (k7, 240, .inl c7)), (a8, .inl (k8, 8, .inl c8)), (a10, .inl (k10, 80, .inl c10))]) [0, 1, 2, 3, 4] (by decide) rfl
        have hKc := hK.sub (tys' := [(k4, .int), (k7, .int), (k8, .int), (k10, .int)]) [0, 1, 2, 3] rfl
        have hFc := va_free (wc := [(h0, .inr (6, [.int u0, .ref a1, .int u2, .int u3, .ref a4, .ref a5, .ref a6, .ref a7, .ref a8, .ref a9, .ref a10, .ref a11, .int u12, .int u13, .ref a14, .ref a15, .ref a16, .int u17, .ref a18, .ref a19, .ref a20, .int u21, .ref a22, .ref a23, .int u24, .ref a25, .ref a26, .int u27, .int u28, .int u29, .int u30])), (a4, .inl (k4, 8, .inl c4)), (a7, .inl (k7, 240, .inl c7)), (a8, .inl (k8, 8, .inl c8)), (a10, .inl (k10, 80, .inl c10))]) hD hS hA [0, 1, 2, 3, 4] rfl
        refine vp_callSi (va_Run.run (va_runV (As := [.int x]) (rest := [])  ⟨hx, hb, hml, hown, hts⟩ (c_Md_isWhole l D h0 u0 a1 u2 u3 a4 a5 a6 a7 a8 a9 a10 a11 u12 u13 a14 a15 a16 u17 a18 a19 a20 u21 a22 a23 u24 a25 a26 u27 u28 u29 u30 k4 k7 k8 k10 c4 c7 c8 c10 x H.size (by assumption) (by assumption) (by assumption) (cx_ixl (n := 8) (by decide) c_2 hx7)) ⟨callB_of 1 hts cg_Md_isWhole rfl rfl rfl (hts _ cw_10) (hts _ cw_957) (by decide +kernel) ⟨Nat.le_of_ble_eq_true rfl, Nat.le_of_ble_eq_true rfl⟩, hts _ cw_959, hts _ cs_27⟩ (cx_preV (C := R_Md) [.int x] hPc hKc hDc hN hO hS hFc (ci := 6) (q0 := 0) rfl rfl rfl) rfl rfl hl.1 rfl (lv_room (Nat.le_of_ble_eq_true rfl)) d_Md_turn_13 ⟨Nat.le_of_ble_eq_true rfl, Nat.le_of_ble_eq_true rfl⟩)) (fun r z_5 => ?_)
        subst z_5
        refine lv_if_eq (tgt := 29) hx hb d_Md_turn_16 (by decide) (fun c_6 => ?_) (fun c_6 => ?_)
        · refine lv_aload_n hx hb d_Md_turn_29 rfl (lv_at hl 0 rfl) ?_
          refine va_get (D := D) (ci := 6) (v := .ref a23) (C := R_Md) (T := T_Md) (N := 31) hx hb hts in_Md hown hK hP 0 rfl rfl 23 (by decide) (hts _ cw_757) (fun _ h9 => h9) rfl d_Md_turn_30 ?_
          refine lv_iload_n hx hb d_Md_turn_33 rfl (lv_at hl 2 rfl) ?_
          refine lv_aload_n hx hb d_Md_turn_34 rfl (lv_at hl 0 rfl) ?_
          refine lv_iload_n hx hb d_Md_turn_35 rfl (lv_at hl 2 rfl) ?_
          have hPc := hP.sub (ws' := [(h0, .inr (6, [.int u0, .ref a1, .int u2, .int u3, .ref a4, .ref a5, .ref a6, .ref a7, .ref a8, .ref a9, .ref a10, .ref a11, .int u12, .int u13, .ref a14, .ref a15, .ref a16, .int u17, .ref a18, .ref a19, .ref a20, .int u21, .ref a22, .ref a23, .int u24, .ref a25, .ref a26, .int u27, .int u28, .int u29, .int u30])), (a4, .inl (k4, 8, .inl c4)), (a7, .inl (k7, 240, .inl c7)), (a8, .inl (k8, 8, .inl c8)), (a10, .inl (k10, 80, .inl c10))]) [0, 1, 2, 3, 4] rfl
          have hDc := hD.sub (ws' := [(h0, .inr (6, [.int u0, .ref a1, .int u2, .int u3, .ref a4, .ref a5, .ref a6, .ref a7, .ref a8, .ref a9, .ref a10, .ref a11, .int u12, .int u13, .ref a14, .ref a15, .ref a16, .int u17, .ref a18, .ref a19, .ref a20, .int u21, .ref a22, .ref a23, .int u24, .ref a25, .ref a26, .int u27, .int u28, .int u29, .int u30])), (a4, .inl (k4, 8, .inl c4)), (a7, .inl (k7, 240, .inl c7)), (a8, .inl (k8, 8, .inl c8)), (a10, .inl (k10, 80, .inl c10))]) [0, 1, 2, 3, 4] (by decide) rfl
          have hKc := hK.sub (tys' := [(k4, .int), (k7, .int), (k8, .int), (k10, .int)]) [0, 1, 2, 3] rfl
          have hFc := va_free (wc := [(h0, .inr (6, [.int u0, .ref a1, .int u2, .int u3, .ref a4, .ref a5, .ref a6, .ref a7, .ref a8, .ref a9, .ref a10, .ref a11, .int u12, .int u13, .ref a14, .ref a15, .ref a16, .int u17, .ref a18, .ref a19, .ref a20, .int u21, .ref a22, .ref a23, .int u24, .ref a25, .ref a26, .int u27, .int u28, .int u29, .int u30])), (a4, .inl (k4, 8, .inl c4)), (a7, .inl (k7, 240, .inl c7)), (a8, .inl (k8, 8, .inl c8)), (a10, .inl (k10, 80, .inl c10))]) hD hS hA [0, 1, 2, 3, 4] rfl
          refine vp_callSi (va_Run.run (va_runV (As := [.int x]) (rest := [.int x, .ref a23])  ⟨hx, hb, hml, hown, hts⟩ (c_Md_isWhole l D h0 u0 a1 u2 u3 a4 a5 a6 a7 a8 a9 a10 a11 u12 u13 a14 a15 a16 u17 a18 a19 a20 u21 a22 a23 u24 a25 a26 u27 u28 u29 u30 k4 k7 k8 k10 c4 c7 c8 c10 x H.size (by assumption) (by assumption) (by assumption) (cx_ixl (n := 8) (by decide) c_2 hx7)) ⟨callB_of 1 hts cg_Md_isWhole rfl rfl rfl (hts _ cw_10) (hts _ cw_957) (by decide +kernel) ⟨Nat.le_of_ble_eq_true rfl, Nat.le_of_ble_eq_true rfl⟩, hts _ cw_959, hts _ cs_27⟩ (cx_preV (C := R_Md) [.int x] hPc hKc hDc hN hO hS hFc (ci := 6) (q0 := 0) rfl rfl rfl) rfl rfl hl.1 rfl (lv_room (Nat.le_of_ble_eq_true rfl)) d_Md_turn_36 ⟨Nat.le_of_ble_eq_true rfl, Nat.le_of_ble_eq_true rfl⟩)) (fun r z_7 => ?_)
          subst z_7
          refine lv_if_eq (tgt := 46) hx hb d_Md_turn_39 (by decide) (fun c_8 => ?_) (fun c_8 => ?_)
          · refine lv_iload_n hx hb d_Md_turn_46 rfl (lv_at hl 1 rfl) ?_
            refine va_iast hx hb hK hP hD hS 5 4 rfl rfl (cx_ixl (n := 8) (by decide) c_2 hx7) d_Md_turn_47 (fun H locs hP hD hS => ?_)
            have hP : va_P D classes ([(h0, .inr (6, [.int u0, .ref a1, .int u2, .int u3, .ref a4, .ref a5, .ref a6, .ref a7, .ref a8, .ref a9, .ref a10, .ref a11, .int u12, .int u13, .ref a14, .ref a15, .ref a16, .int u17, .ref a18, .ref a19, .ref a20, .int u21, .ref a22, .ref a23, .int u24, .ref a25, .ref a26, .int u27, .int u28, .int u29, .int u30])), (a4, .inl (k4, 8, .inl c4)), (a7, .inl (k7, 240, .inl c7)), (a8, .inl (k8, 8, .inl c8)), (a10, .inl (k10, 80, .inl c10)), (a23, .inl (k23, 8, .inl (upd yw x.toNatClampNeg p0)))]) H := hP
            have hD : va_D A ([(h0, .inr (6, [.int u0, .ref a1, .int u2, .int u3, .ref a4, .ref a5, .ref a6, .ref a7, .ref a8, .ref a9, .ref a10, .ref a11, .int u12, .int u13, .ref a14, .ref a15, .ref a16, .int u17, .ref a18, .ref a19, .ref a20, .int u21, .ref a22, .ref a23, .int u24, .ref a25, .ref a26, .int u27, .int u28, .int u29, .int u30])), (a4, .inl (k4, 8, .inl c4)), (a7, .inl (k7, 240, .inl c7)), (a8, .inl (k8, 8, .inl c8)), (a10, .inl (k10, 80, .inl c10)), (a23, .inl (k23, 8, .inl (upd yw x.toNatClampNeg p0)))]) := hD
            refine lv_iinc (v := x + (-1)) (lv' := [(2, .int (x + (-1))), (0, .ref h0), (1, .int p0)]) hx hb d_Md_turn_48 hl (k := 2) rfl (rfl) (by decide) rfl (fun ls hl => ?_)
            refine lv_goto (tgt := 7) hx hb d_Md_turn_51 (by decide) ?_
            exact ih_7 (x + (-1)) (upd yw x.toNatClampNeg p0) (m_dn hn c_2) (hg.trans (by rw [m_turnL]; simp [eq_false c_2, eq_true c_6, eq_true c_8])) (m_dn8 hx7 c_2) _ _ (hP.sub [0, 1, 2, 3, 4, 5] rfl) (hD.sub [0, 1, 2, 3, 4, 5] (by decide) rfl) hS ls (lv_sub hl [1, 2, 0] rfl)
          · exact absurd c_6 c_8
        · refine lv_aload_n hx hb d_Md_turn_19 rfl (lv_at hl 0 rfl) ?_
          refine va_get (D := D) (ci := 6) (v := .ref a23) (C := R_Md) (T := T_Md) (N := 31) hx hb hts in_Md hown hK hP 0 rfl rfl 23 (by decide) (hts _ cw_757) (fun _ h9 => h9) rfl d_Md_turn_20 ?_
          refine lv_iload_n hx hb d_Md_turn_23 rfl (lv_at hl 2 rfl) ?_
          refine va_iald hx hb hK hP 5 4 rfl rfl (cx_ixl (n := 8) (by decide) c_2 hx7) d_Md_turn_24 ?_
          refine lv_iload_n hx hb d_Md_turn_25 rfl (lv_at hl 1 rfl) ?_
          refine lv_icmp_ne (tgt := 54) hx hb d_Md_turn_26 (by decide) (fun c_9 => ?_) (fun c_9 => ?_)
          · have hz : m_turnL (m_mwhole u0 c4 c7 c8 c10) p0 (((u0 - 1).toInt + 1).toNat + 1) (u0 - 1) c23 = (x, yw) := hg.trans (by rw [m_turnL]; simp [eq_false c_2, eq_false c_6, eq_false c_9])
            refine lv_iload_n hx hb d_Md_turn_54 rfl (lv_at hl 2 rfl) ?_
            refine lv_if_lt (tgt := 68) hx hb d_Md_turn_55 (by decide) (fun c_10 => ?_) (fun c_10 => ?_)
            · exact absurd c_10 c_2
            · refine lv_aload_n hx hb d_Md_turn_58 rfl (lv_at hl 0 rfl) ?_
              refine va_get (D := D) (ci := 6) (v := .ref a23) (C := R_Md) (T := T_Md) (N := 31) hx hb hts in_Md hown hK hP 0 rfl rfl 23 (by decide) (hts _ cw_757) (fun _ h9 => h9) rfl d_Md_turn_59 ?_
              refine lv_iload_n hx hb d_Md_turn_62 rfl (lv_at hl 2 rfl) ?_
              refine lv_dup2_11 hx hb d_Md_turn_63 rfl rfl ?_
              refine va_iald hx hb hK hP 5 4 rfl rfl (cx_ixl (n := 8) (by decide) c_2 hx7) d_Md_turn_64 ?_
              refine lv_iconst (v := 1) hx hb d_Md_turn_65 (by decide) ?_
              refine lv_iadd hx hb d_Md_turn_66 ?_
              refine va_iast hx hb hK hP hD hS 5 4 rfl rfl (cx_ixl (n := 8) (by decide) c_2 hx7) d_Md_turn_67 (fun H locs hP hD hS => ?_)
              have hP : va_P D classes ([(h0, .inr (6, [.int u0, .ref a1, .int u2, .int u3, .ref a4, .ref a5, .ref a6, .ref a7, .ref a8, .ref a9, .ref a10, .ref a11, .int u12, .int u13, .ref a14, .ref a15, .ref a16, .int u17, .ref a18, .ref a19, .ref a20, .int u21, .ref a22, .ref a23, .int u24, .ref a25, .ref a26, .int u27, .int u28, .int u29, .int u30])), (a4, .inl (k4, 8, .inl c4)), (a7, .inl (k7, 240, .inl c7)), (a8, .inl (k8, 8, .inl c8)), (a10, .inl (k10, 80, .inl c10)), (a23, .inl (k23, 8, .inl (upd yw x.toNatClampNeg ((yw x.toNatClampNeg) + 1))))]) H := hP
              have hD : va_D A ([(h0, .inr (6, [.int u0, .ref a1, .int u2, .int u3, .ref a4, .ref a5, .ref a6, .ref a7, .ref a8, .ref a9, .ref a10, .ref a11, .int u12, .int u13, .ref a14, .ref a15, .ref a16, .int u17, .ref a18, .ref a19, .ref a20, .int u21, .ref a22, .ref a23, .int u24, .ref a25, .ref a26, .int u27, .int u28, .int u29, .int u30])), (a4, .inl (k4, 8, .inl c4)), (a7, .inl (k7, 240, .inl c7)), (a8, .inl (k8, 8, .inl c8)), (a10, .inl (k10, 80, .inl c10)), (a23, .inl (k23, 8, .inl (upd yw x.toNatClampNeg ((yw x.toNatClampNeg) + 1))))]) := hD
              refine lv_iload_n hx hb d_Md_turn_68 rfl (lv_at hl 2 rfl) ?_
              refine lv_if_lt (tgt := 76) hx hb d_Md_turn_69 (by decide) (fun c_11 => ?_) (fun c_11 => ?_)
              · exact absurd c_11 c_10
              · refine lv_iconst (v := 1) hx hb d_Md_turn_72 (by decide) ?_
                refine lv_goto (tgt := 77) hx hb d_Md_turn_73 (by decide) ?_
                subst hQ
                have hm : m_mturn (m_mwhole u0 c4 c7 c8 c10) u0 p0 c23 = (1, upd yw x.toNatClampNeg ((yw x.toNatClampNeg) + 1)) := by unfold m_mturn; rw [hz]; simp [eq_false c_2, eq_false c_6, eq_false c_9, eq_false c_10, eq_false c_11]
                rw [hm]
                have hP9 := hP.sub (ws' := [(h0, .inr (6, [.int u0, .ref a1, .int u2, .int u3, .ref a4, .ref a5, .ref a6, .ref a7, .ref a8, .ref a9, .ref a10, .ref a11, .int u12, .int u13, .ref a14, .ref a15, .ref a16, .int u17, .ref a18, .ref a19, .ref a20, .int u21, .ref a22, .ref a23, .int u24, .ref a25, .ref a26, .int u27, .int u28, .int u29, .int u30])), (a4, .inl (k4, 8, .inl c4)), (a7, .inl (k7, 240, .inl c7)), (a8, .inl (k8, 8, .inl c8)), (a10, .inl (k10, 80, .inl c10)), (a23, .inl (k23, 8, .inl (upd yw x.toNatClampNeg ((yw x.toNatClampNeg) + 1))))]) [0, 1, 2, 3, 4, 5] rfl
                have hD9 := hD.sub (ws' := [(h0, .inr (6, [.int u0, .ref a1, .int u2, .int u3, .ref a4, .ref a5, .ref a6, .ref a7, .ref a8, .ref a9, .ref a10, .ref a11, .int u12, .int u13, .ref a14, .ref a15, .ref a16, .int u17, .ref a18, .ref a19, .ref a20, .int u21, .ref a22, .ref a23, .int u24, .ref a25, .ref a26, .int u27, .int u28, .int u29, .int u30])), (a4, .inl (k4, 8, .inl c4)), (a7, .inl (k7, 240, .inl c7)), (a8, .inl (k8, 8, .inl c8)), (a10, .inl (k10, 80, .inl c10)), (a23, .inl (k23, 8, .inl (upd yw x.toNatClampNeg ((yw x.toNatClampNeg) + 1))))]) [0, 1, 2, 3, 4, 5] (by decide) rfl
                have hK9 := hK.sub (tys' := [(k4, .int), (k7, .int), (k8, .int), (k10, .int), (k23, .int)]) [0, 1, 2, 3, 4] rfl
                exact W.zret (v := 1) hx hb hr (rfl) (fun t ht hW => ⟨⟨_, (), rfl, rfl, by rw [ht]; exact hP9, va_K.moved hW.alike hK9, hD9⟩, hS.F ht⟩) hS.2.2 d_Md_turn_77
          · refine lv_aload_n hx hb d_Md_turn_29 rfl (lv_at hl 0 rfl) ?_
            refine va_get (D := D) (ci := 6) (v := .ref a23) (C := R_Md) (T := T_Md) (N := 31) hx hb hts in_Md hown hK hP 0 rfl rfl 23 (by decide) (hts _ cw_757) (fun _ h9 => h9) rfl d_Md_turn_30 ?_
            refine lv_iload_n hx hb d_Md_turn_33 rfl (lv_at hl 2 rfl) ?_
            refine lv_aload_n hx hb d_Md_turn_34 rfl (lv_at hl 0 rfl) ?_
            refine lv_iload_n hx hb d_Md_turn_35 rfl (lv_at hl 2 rfl) ?_
            have hPc := hP.sub (ws' := [(h0, .inr (6, [.int u0, .ref a1, .int u2, .int u3, .ref a4, .ref a5, .ref a6, .ref a7, .ref a8, .ref a9, .ref a10, .ref a11, .int u12, .int u13, .ref a14, .ref a15, .ref a16, .int u17, .ref a18, .ref a19, .ref a20, .int u21, .ref a22, .ref a23, .int u24, .ref a25, .ref a26, .int u27, .int u28, .int u29, .int u30])), (a4, .inl (k4, 8, .inl c4)), (a7, .inl (k7, 240, .inl c7)), (a8, .inl (k8, 8, .inl c8)), (a10, .inl (k10, 80, .inl c10))]) [0, 1, 2, 3, 4] rfl
            have hDc := hD.sub (ws' := [(h0, .inr (6, [.int u0, .ref a1, .int u2, .int u3, .ref a4, .ref a5, .ref a6, .ref a7, .ref a8, .ref a9, .ref a10, .ref a11, .int u12, .int u13, .ref a14, .ref a15, .ref a16, .int u17, .ref a18, .ref a19, .ref a20, .int u21, .ref a22, .ref a23, .int u24, .ref a25, .ref a26, .int u27, .int u28, .int u29, .int u30])), (a4, .inl (k4, 8, .inl c4)), (a7, .inl (k7, 240, .inl c7)), (a8, .inl (k8, 8, .inl c8)), (a10, .inl (k10, 80, .inl c10))]) [0, 1, 2, 3, 4] (by decide) rfl
            have hKc := hK.sub (tys' := [(k4, .int), (k7, .int), (k8, .int), (k10, .int)]) [0, 1, 2, 3] rfl
            have hFc := va_free (wc := [(h0, .inr (6, [.int u0, .ref a1, .int u2, .int u3, .ref a4, .ref a5, .ref a6, .ref a7, .ref a8, .ref a9, .ref a10, .ref a11, .int u12, .int u13, .ref a14, .ref a15, .ref a16, .int u17, .ref a18, .ref a19, .ref a20, .int u21, .ref a22, .ref a23, .int u24, .ref a25, .ref a26, .int u27, .int u28, .int u29, .int u30])), (a4, .inl (k4, 8, .inl c4)), (a7, .inl (k7, 240, .inl c7)), (a8, .inl (k8, 8, .inl c8)), (a10, .inl (k10, 80, .inl c10))]) hD hS hA [0, 1, 2, 3, 4] rfl
            refine vp_callSi (va_Run.run (va_runV (As := [.int x]) (rest := [.int x, .ref a23])  ⟨hx, hb, hml, hown, hts⟩ (c_Md_isWhole l D h0 u0 a1 u2 u3 a4 a5 a6 a7 a8 a9 a10 a11 u12 u13 a14 a15 a16 u17 a18 a19 a20 u21 a22 a23 u24 a25 a26 u27 u28 u29 u30 k4 k7 k8 k10 c4 c7 c8 c10 x H.size (by assumption) (by assumption) (by assumption) (cx_ixl (n := 8) (by decide) c_2 hx7)) ⟨callB_of 1 hts cg_Md_isWhole rfl rfl rfl (hts _ cw_10) (hts _ cw_957) (by decide +kernel) ⟨Nat.le_of_ble_eq_true rfl, Nat.le_of_ble_eq_true rfl⟩, hts _ cw_959, hts _ cs_27⟩ (cx_preV (C := R_Md) [.int x] hPc hKc hDc hN hO hS hFc (ci := 6) (q0 := 0) rfl rfl rfl) rfl rfl hl.1 rfl (lv_room (Nat.le_of_ble_eq_true rfl)) d_Md_turn_36 ⟨Nat.le_of_ble_eq_true rfl, Nat.le_of_ble_eq_true rfl⟩)) (fun r z_12 => ?_)
            subst z_12
            refine lv_if_eq (tgt := 46) hx hb d_Md_turn_39 (by decide) (fun c_13 => ?_) (fun c_13 => ?_)
            · exact absurd c_13 c_6
            · refine lv_iconst (v := 0) hx hb d_Md_turn_42 (by decide) ?_
              refine lv_goto (tgt := 47) hx hb d_Md_turn_43 (by decide) ?_
              refine va_iast hx hb hK hP hD hS 5 4 rfl rfl (cx_ixl (n := 8) (by decide) c_2 hx7) d_Md_turn_47 (fun H locs hP hD hS => ?_)
              have hP : va_P D classes ([(h0, .inr (6, [.int u0, .ref a1, .int u2, .int u3, .ref a4, .ref a5, .ref a6, .ref a7, .ref a8, .ref a9, .ref a10, .ref a11, .int u12, .int u13, .ref a14, .ref a15, .ref a16, .int u17, .ref a18, .ref a19, .ref a20, .int u21, .ref a22, .ref a23, .int u24, .ref a25, .ref a26, .int u27, .int u28, .int u29, .int u30])), (a4, .inl (k4, 8, .inl c4)), (a7, .inl (k7, 240, .inl c7)), (a8, .inl (k8, 8, .inl c8)), (a10, .inl (k10, 80, .inl c10)), (a23, .inl (k23, 8, .inl (upd yw x.toNatClampNeg 0)))]) H := hP
              have hD : va_D A ([(h0, .inr (6, [.int u0, .ref a1, .int u2, .int u3, .ref a4, .ref a5, .ref a6, .ref a7, .ref a8, .ref a9, .ref a10, .ref a11, .int u12, .int u13, .ref a14, .ref a15, .ref a16, .int u17, .ref a18, .ref a19, .ref a20, .int u21, .ref a22, .ref a23, .int u24, .ref a25, .ref a26, .int u27, .int u28, .int u29, .int u30])), (a4, .inl (k4, 8, .inl c4)), (a7, .inl (k7, 240, .inl c7)), (a8, .inl (k8, 8, .inl c8)), (a10, .inl (k10, 80, .inl c10)), (a23, .inl (k23, 8, .inl (upd yw x.toNatClampNeg 0)))]) := hD
              refine lv_iinc (v := x + (-1)) (lv' := [(2, .int (x + (-1))), (0, .ref h0), (1, .int p0)]) hx hb d_Md_turn_48 hl (k := 2) rfl (rfl) (by decide) rfl (fun ls hl => ?_)
              refine lv_goto (tgt := 7) hx hb d_Md_turn_51 (by decide) ?_
              exact ih_7 (x + (-1)) (upd yw x.toNatClampNeg 0) (m_dn hn c_2) (hg.trans (by rw [m_turnL]; simp [eq_false c_2, eq_false c_6, eq_true c_9, eq_false c_13])) (m_dn8 hx7 c_2) _ _ (hP.sub [0, 1, 2, 3, 4, 5] rfl) (hD.sub [0, 1, 2, 3, 4, 5] (by decide) rfl) hS ls (lv_sub hl [1, 2, 0] rfl)
  exact loop_1 (((u0 - 1).toInt + 1).toNat + 1) (u0 - 1) c23 (Nat.lt_succ_self _) (rfl) (m_u7 hc0 hc) _ _ (hP.sub [0, 1, 2, 3, 4, 5] rfl) (hD.sub [0, 1, 2, 3, 4, 5] (by decide) rfl) hS ls (lv_sub hl [1, 2, 0] rfl)
