-- RuleText: its functions (second half)
theorem cx_z {x : Int32} (h : x = 0 ∨ x = 1) : narrow .boolean (.int x) = .int x := by
  rcases h with h | h <;> subst h <;> rfl
theorem m_rd_h {len x : Int32} (hl : len ≤ 600) (h : ¬ len < x) : ¬ (601 : Int32) ≤ x := by
  rw [Int32.le_iff_toInt_le, show (600 : Int32).toInt = 600 from rfl] at hl
  rw [Int32.lt_iff_toInt_lt] at h
  rw [Int32.le_iff_toInt_le, show (601 : Int32).toInt = 601 from rfl]
  omega
theorem m_rd_s {len x bg : Int32} (hl : len ≤ 600) (h : ¬ len < x) (hb : ¬ x ≤ bg) : bg < 600 := by
  rw [Int32.le_iff_toInt_le, show (600 : Int32).toInt = 600 from rfl] at hl
  rw [Int32.lt_iff_toInt_lt] at h
  rw [Int32.le_iff_toInt_le] at hb
  rw [Int32.lt_iff_toInt_lt, show (600 : Int32).toInt = 600 from rfl]
  omega
def m_tcw (bt : Nat → Int32) (due sn p0 p1 : Int32) : Int32 × Int32 := if ¬ m_isFull sn = 0 ∨ m_isCW bt p0 p1 = 0 then (0, due) else (1, 1)
def m_tcn (due : Int32) (g0 g1 : Nat → Int32) (sn cl p0 : Int32) : Int32 × Int32 × (Nat → Int32) × (Nat → Int32) × Int32 :=
  if m_in p0.toInt64 0 98 = 0 then (0, due, g0, g1, sn) else (if (m_addSent g0 g1 sn cl p0).1 = 0 then 0 else 1, if (m_addSent g0 g1 sn cl p0).1 = 0 then due else 2, (m_addSent g0 g1 sn cl p0).2.1, (m_addSent g0 g1 sn cl p0).2.2.1, (m_addSent g0 g1 sn cl p0).2.2.2)
def m_tl (bt : Nat → Int32) (due ltr p0 p1 : Int32) : Int32 × Int32 × Int32 :=
  if p1 - p0 = 1 then (if p0 < 0 ∨ ¬ p0 < 600 then (0, due, ltr) else if bt p0.toNatClampNeg = 113 ∨ bt p0.toNatClampNeg = 118 ∨ bt p0.toNatClampNeg = 114 then (1, 3, bt p0.toNatClampNeg) else (0, due, ltr)) else (0, due, ltr)
def m_tlow (due low p0 : Int32) : Int32 × Int32 × Int32 := if p0 = (-2147483648) then (0, due, low) else (1, 4, p0)
def m_th (due ltr low : Int32) (g1 g2 g3 g4 : Nat → Int32) (sn cl p0 : Int32) : Int32 × Int32 × (Nat → Int32) × (Nat → Int32) × (Nat → Int32) × (Nat → Int32) × Int32 :=
  if p0 < low then (0, due, g1, g2, g3, g4, cl) else (if (m_addClause g1 g2 g3 g4 sn cl ltr low p0).1 = 0 then 0 else 1, if (m_addClause g1 g2 g3 g4 sn cl ltr low p0).1 = 0 then due else 2, (m_addClause g1 g2 g3 g4 sn cl ltr low p0).2.1, (m_addClause g1 g2 g3 g4 sn cl ltr low p0).2.2.1, (m_addClause g1 g2 g3 g4 sn cl ltr low p0).2.2.2.1, (m_addClause g1 g2 g3 g4 sn cl ltr low p0).2.2.2.2.1, (m_addClause g1 g2 g3 g4 sn cl ltr low p0).2.2.2.2.2)
theorem m_tcw_z {bt : Nat → Int32} {due sn p0 p1 : Int32} : (m_tcw bt due sn p0 p1).1 = 0 ∨ (m_tcw bt due sn p0 p1).1 = 1 := by
  unfold m_tcw; split <;> simp
theorem m_tcn_z {due : Int32} {g0 g1 : Nat → Int32} {sn cl p0 : Int32} : (m_tcn due g0 g1 sn cl p0).1 = 0 ∨ (m_tcn due g0 g1 sn cl p0).1 = 1 := by
  unfold m_tcn; split
  · simp
  · simp only []; split <;> simp
theorem m_tlow_z {due low p0 : Int32} : (m_tlow due low p0).1 = 0 ∨ (m_tlow due low p0).1 = 1 := by
  unfold m_tlow; split <;> simp
theorem m_th_z {due ltr low : Int32} {g1 g2 g3 g4 : Nat → Int32} {sn cl p0 : Int32} : (m_th due ltr low g1 g2 g3 g4 sn cl p0).1 = 0 ∨ (m_th due ltr low g1 g2 g3 g4 sn cl p0).1 = 1 := by
  unfold m_th; split
  · simp
  · simp only []; split <;> simp
abbrev RdT : Type := Int32 × Int32 × Int32 × (Nat → Int32) × (Nat → Int32) × (Nat → Int32) × (Nat → Int32) × (Nat → Int32) × Int32 × Int32
def m_tw (bt : Nat → Int32) (due ltr low : Int32) (g0 g1 g2 g3 g4 : Nat → Int32) (sn cl p0 p1 : Int32) : Int32 × RdT :=
  if due = 0 then ((m_tcw bt due sn p0 p1).1, (m_tcw bt due sn p0 p1).2, ltr, low, g0, g1, g2, g3, g4, sn, cl)
  else if due = 1 then ((m_tcn due g0 g1 sn cl (m_numberIn bt p0 p1)).1, (m_tcn due g0 g1 sn cl (m_numberIn bt p0 p1)).2.1, ltr, low, (m_tcn due g0 g1 sn cl (m_numberIn bt p0 p1)).2.2.1, (m_tcn due g0 g1 sn cl (m_numberIn bt p0 p1)).2.2.2.1, g2, g3, g4, (m_tcn due g0 g1 sn cl (m_numberIn bt p0 p1)).2.2.2.2, cl)
  else if due = 2 then (if (m_tl bt due ltr p0 p1).1 = 0 then (if (m_tcw bt (m_tl bt due ltr p0 p1).2.1 sn p0 p1).1 = 0 then 0 else 1, (m_tcw bt (m_tl bt due ltr p0 p1).2.1 sn p0 p1).2, (m_tl bt due ltr p0 p1).2.2, low, g0, g1, g2, g3, g4, sn, cl) else (1, (m_tl bt due ltr p0 p1).2.1, (m_tl bt due ltr p0 p1).2.2, low, g0, g1, g2, g3, g4, sn, cl))
  else if due = 3 then ((m_tlow due low (m_numberIn bt p0 p1)).1, (m_tlow due low (m_numberIn bt p0 p1)).2.1, ltr, (m_tlow due low (m_numberIn bt p0 p1)).2.2, g0, g1, g2, g3, g4, sn, cl)
  else ((m_th due ltr low g1 g2 g3 g4 sn cl (m_numberIn bt p0 p1)).1, (m_th due ltr low g1 g2 g3 g4 sn cl (m_numberIn bt p0 p1)).2.1, ltr, low, g0, (m_th due ltr low g1 g2 g3 g4 sn cl (m_numberIn bt p0 p1)).2.2.1, (m_th due ltr low g1 g2 g3 g4 sn cl (m_numberIn bt p0 p1)).2.2.2.1, (m_th due ltr low g1 g2 g3 g4 sn cl (m_numberIn bt p0 p1)).2.2.2.2.1, (m_th due ltr low g1 g2 g3 g4 sn cl (m_numberIn bt p0 p1)).2.2.2.2.2.1, sn, (m_th due ltr low g1 g2 g3 g4 sn cl (m_numberIn bt p0 p1)).2.2.2.2.2.2)
def m_read (bt : Nat → Int32) (len : Int32) : Nat → Int32 → Int32 → Int32 → Int32 → Int32 → (Nat → Int32) → (Nat → Int32) → (Nat → Int32) → (Nat → Int32) → (Nat → Int32) → Int32 → Int32 → Int32 × RdT
  | 0, _, _, due, ltr, low, g0, g1, g2, g3, g4, sn, cl => (0, due, ltr, low, g0, g1, g2, g3, g4, sn, cl)
  | n + 1, x, wd, due, ltr, low, g0, g1, g2, g3, g4, sn, cl =>
    if len ≤ x ∨ 600 ≤ x then (if due = 0 ∨ due = 2 then sn else (-1) - wd, due, ltr, low, g0, g1, g2, g3, g4, sn, cl)
    else if m_blank (bt x.toNatClampNeg) = 0 then
      (if (m_tw bt due ltr low g0 g1 g2 g3 g4 sn cl x (m_wordEnd bt len ((600 - x.toInt).toNat + 1) x)).1 = 0 then ((-1) - wd, (m_tw bt due ltr low g0 g1 g2 g3 g4 sn cl x (m_wordEnd bt len ((600 - x.toInt).toNat + 1) x)).2)
       else m_read bt len n (m_wordEnd bt len ((600 - x.toInt).toNat + 1) x + 1) (wd + 1)
        (m_tw bt due ltr low g0 g1 g2 g3 g4 sn cl x (m_wordEnd bt len ((600 - x.toInt).toNat + 1) x)).2.1 (m_tw bt due ltr low g0 g1 g2 g3 g4 sn cl x (m_wordEnd bt len ((600 - x.toInt).toNat + 1) x)).2.2.1 (m_tw bt due ltr low g0 g1 g2 g3 g4 sn cl x (m_wordEnd bt len ((600 - x.toInt).toNat + 1) x)).2.2.2.1
        (m_tw bt due ltr low g0 g1 g2 g3 g4 sn cl x (m_wordEnd bt len ((600 - x.toInt).toNat + 1) x)).2.2.2.2.1 (m_tw bt due ltr low g0 g1 g2 g3 g4 sn cl x (m_wordEnd bt len ((600 - x.toInt).toNat + 1) x)).2.2.2.2.2.1 (m_tw bt due ltr low g0 g1 g2 g3 g4 sn cl x (m_wordEnd bt len ((600 - x.toInt).toNat + 1) x)).2.2.2.2.2.2.1 (m_tw bt due ltr low g0 g1 g2 g3 g4 sn cl x (m_wordEnd bt len ((600 - x.toInt).toNat + 1) x)).2.2.2.2.2.2.2.1 (m_tw bt due ltr low g0 g1 g2 g3 g4 sn cl x (m_wordEnd bt len ((600 - x.toInt).toNat + 1) x)).2.2.2.2.2.2.2.2.1
        (m_tw bt due ltr low g0 g1 g2 g3 g4 sn cl x (m_wordEnd bt len ((600 - x.toInt).toNat + 1) x)).2.2.2.2.2.2.2.2.2.1 (m_tw bt due ltr low g0 g1 g2 g3 g4 sn cl x (m_wordEnd bt len ((600 - x.toInt).toNat + 1) x)).2.2.2.2.2.2.2.2.2.2)
    else m_read bt len n (x + 1) wd due ltr low g0 g1 g2 g3 g4 sn cl
/-- what the code's loop does: x the place that is looked at, bg where the word under way began -/
def m_rd (bt : Nat → Int32) (len : Int32) : Nat → Int32 → Int32 → Int32 → Int32 → Int32 → Int32 → (Nat → Int32) → (Nat → Int32) → (Nat → Int32) → (Nat → Int32) → (Nat → Int32) → Int32 → Int32 → Int32 × RdT
  | 0, _, _, _, due, ltr, low, g0, g1, g2, g3, g4, sn, cl => (0, due, ltr, low, g0, g1, g2, g3, g4, sn, cl)
  | n + 1, x, bg, wd, due, ltr, low, g0, g1, g2, g3, g4, sn, cl =>
    if len < x then (if due = 0 ∨ due = 2 then sn else (-1) - wd, due, ltr, low, g0, g1, g2, g3, g4, sn, cl)
    else if len ≤ x ∨ 600 ≤ x ∨ ¬ m_blank (bt x.toNatClampNeg) = 0 then
      (if x ≤ bg then m_rd bt len n (x + 1) (x + 1) wd due ltr low g0 g1 g2 g3 g4 sn cl
       else if (m_tw bt due ltr low g0 g1 g2 g3 g4 sn cl bg x).1 = 0 then ((-1) - wd, (m_tw bt due ltr low g0 g1 g2 g3 g4 sn cl bg x).2)
       else m_rd bt len n (x + 1) (x + 1) (wd + 1) (m_tw bt due ltr low g0 g1 g2 g3 g4 sn cl bg x).2.1 (m_tw bt due ltr low g0 g1 g2 g3 g4 sn cl bg x).2.2.1 (m_tw bt due ltr low g0 g1 g2 g3 g4 sn cl bg x).2.2.2.1 (m_tw bt due ltr low g0 g1 g2 g3 g4 sn cl bg x).2.2.2.2.1 (m_tw bt due ltr low g0 g1 g2 g3 g4 sn cl bg x).2.2.2.2.2.1 (m_tw bt due ltr low g0 g1 g2 g3 g4 sn cl bg x).2.2.2.2.2.2.1 (m_tw bt due ltr low g0 g1 g2 g3 g4 sn cl bg x).2.2.2.2.2.2.2.1 (m_tw bt due ltr low g0 g1 g2 g3 g4 sn cl bg x).2.2.2.2.2.2.2.2.1 (m_tw bt due ltr low g0 g1 g2 g3 g4 sn cl bg x).2.2.2.2.2.2.2.2.2.1 (m_tw bt due ltr low g0 g1 g2 g3 g4 sn cl bg x).2.2.2.2.2.2.2.2.2.2)
    else m_rd bt len n (x + 1) bg wd due ltr low g0 g1 g2 g3 g4 sn cl
set_option maxHeartbeats 4000000 in
set_option maxRecDepth 100000 in
/-- takeClassWord -/
theorem c_Text_takeClassWord (l : Launch) (D : va_G)  (h0 : Nat) (b0 : Nat) (kb : ClassId) (bt : Nat → Int32) (len : Int32) (due : Int32) (ltr : Int32) (low : Int32) (h1 : Nat) (a0 : Nat) (a1 : Nat) (a2 : Nat) (a3 : Nat) (a4 : Nat) (k0 : ClassId) (k1 : ClassId) (k2 : ClassId) (k3 : ClassId) (k4 : ClassId) (g0 : Nat → Int32) (g1 : Nat → Int32) (g2 : Nat → Int32) (g3 : Nat → Int32) (g4 : Nat → Int32) (sn : Int32) (cl : Int32) (p0 : Int32) (p1 : Int32) (sz : Nat) (hs : p0 < 600) : Met l y_Text_takeClassWord ws_Text_takeClassWord ({ frames := 5, cells := 0, slots := 0, locals := 108 }) (va_Pc [.ref h0, .ref h1, .int p0, .int p1] (cx_pre D [(kb, .char), (k0, .int), (k1, .int), (k2, .char), (k3, .int), (k4, .int)] ([(h0, .inr (4, [.ref b0, .int len, .int due, .int ltr, .int low])), (b0, .inl (kb, 600, .inl bt)), (h1, .inr (3, [.ref a0, .ref a1, .int sn, .ref a2, .ref a3, .ref a4, .int cl])), (a0, .inl (k0, 20, .inl g0)), (a1, .inl (k1, 20, .inl g1)), (a2, .inl (k2, 100, .inl g2)), (a3, .inl (k3, 100, .inl g3)), (a4, .inl (k4, 100, .inl g4))]) sz)) (va_Qi (fun r9 _ => r9 = (m_tcw bt due sn p0 p1).1) (fun (_ : Unit) t => cx_end D [(kb, .char), (k0, .int), (k1, .int), (k2, .char), (k3, .int), (k4, .int)] (va_A ([(h0, .inr (4, [.ref b0, .int len, .int due, .int ltr, .int low])), (b0, .inl (kb, 600, .inl bt)), (h1, .inr (3, [.ref a0, .ref a1, .int sn, .ref a2, .ref a3, .ref a4, .int cl])), (a0, .inl (k0, 20, .inl g0)), (a1, .inl (k1, 20, .inl g1)), (a2, .inl (k2, 100, .inl g2)), (a3, .inl (k3, 100, .inl g3)), (a4, .inl (k4, 100, .inl g4))]) sz) ([(h0, .inr (4, [.ref b0, .int len, .int ((m_tcw bt due sn p0 p1).2), .int ltr, .int low])), (b0, .inl (kb, 600, .inl bt)), (h1, .inr (3, [.ref a0, .ref a1, .int sn, .ref a2, .ref a3, .ref a4, .int cl])), (a0, .inl (k0, 20, .inl g0)), (a1, .inl (k1, 20, .inl g1)), (a2, .inl (k2, 100, .inl g2)), (a3, .inl (k3, 100, .inl g3)), (a4, .inl (k4, 100, .inl g4))]) t) (va_A ([(h0, .inr (4, [.ref b0, .int len, .int due, .int ltr, .int low])), (b0, .inl (kb, 600, .inl bt)), (h1, .inr (3, [.ref a0, .ref a1, .int sn, .ref a2, .ref a3, .ref a4, .int cl])), (a0, .inl (k0, 20, .inl g0)), (a1, .inl (k1, 20, .inl g1)), (a2, .inl (k2, 100, .inl g2)), (a3, .inl (k3, 100, .inl g3)), (a4, .inl (k4, 100, .inl g4))]) sz)) 0 0 (va_A ([(h0, .inr (4, [.ref b0, .int len, .int due, .int ltr, .int low])), (b0, .inl (kb, 600, .inl bt)), (h1, .inr (3, [.ref a0, .ref a1, .int sn, .ref a2, .ref a3, .ref a4, .int cl])), (a0, .inl (k0, 20, .inl g0)), (a1, .inl (k1, 20, .inl g1)), (a2, .inl (k2, 100, .inl g2)), (a3, .inl (k3, 100, .inl g3)), (a4, .inl (k4, 100, .inl g4))]) sz) := by
  refine Met.ofW (cc := b_Text_takeClassWord) (maxL := 4) (ret := (some .boolean)) (by decide) rfl ?_
  intro p e s m args below meth c s₁ B hml hv
  obtain ⟨rfl, hsz, hP, hK, hD0, hN, hO⟩ := hv
  have hx := B.exec
  have hb := B.bytes
  have hr := B.returns
  have hts := fun (w : Cond) (h : w ∈ cx_tbl) => atoms_spec (ws := ws_Text_takeClassWord) B.pre w (List.mem_cons_of_mem _ h)
  have hown : s.vm.findClass R_Text = some m.cls := findClass_of_methodNamed B.named
  have hlocks := B.notSynchronized
  subst hsz
  have hD := hD0.self (sz := s.heap.size)
  generalize hAe : va_A ([(h0, .inr (4, [.ref b0, .int len, .int due, .int ltr, .int low])), (b0, .inl (kb, 600, .inl bt)), (h1, .inr (3, [.ref a0, .ref a1, .int sn, .ref a2, .ref a3, .ref a4, .int cl])), (a0, .inl (k0, 20, .inl g0)), (a1, .inl (k1, 20, .inl g1)), (a2, .inl (k2, 100, .inl g2)), (a3, .inl (k3, 100, .inl g3)), (a4, .inl (k4, 100, .inl g4))]) s.heap.size = A at hD hO ⊢
  have hA : ∀ q : Nat, s.heap.size ≤ q → A q := fun q h => by rw [← hAe]; exact Or.inr h
  have hS : va_S A s.heap s.heap [] := va_S.rf
  have hl := lv_entry ([.ref h0, .ref h1, .int p0, .int p1]) (n := 4) (Nat.le_of_ble_eq_true rfl)
  rw [lg_entry_eq]
  generalize (lg_sl ([.ref h0, .ref h1, .int p0, .int p1]) ++ List.replicate (4 - (lg_sl ([.ref h0, .ref h1, .int p0, .int p1])).length) Slot.unset).toArray = ls at hl ⊢
  have hl : lv_has ls 4 [(0, .ref h0), (1, .ref h1), (2, .int p0), (3, .int p1)] := hl
  refine lv_aload_n hx hb d_Text_takeClassWord_0 rfl (lv_at hl 1 rfl) ?_
  have hPc := hP.sub (ws' := [(h1, .inr (3, [.ref a0, .ref a1, .int sn, .ref a2, .ref a3, .ref a4, .int cl])), (a0, .inl (k0, 20, .inl g0)), (a1, .inl (k1, 20, .inl g1)), (a2, .inl (k2, 100, .inl g2)), (a3, .inl (k3, 100, .inl g3)), (a4, .inl (k4, 100, .inl g4))]) [2, 3, 4, 5, 6, 7] rfl
  have hDc := hD.sub (ws' := [(h1, .inr (3, [.ref a0, .ref a1, .int sn, .ref a2, .ref a3, .ref a4, .int cl])), (a0, .inl (k0, 20, .inl g0)), (a1, .inl (k1, 20, .inl g1)), (a2, .inl (k2, 100, .inl g2)), (a3, .inl (k3, 100, .inl g3)), (a4, .inl (k4, 100, .inl g4))]) [2, 3, 4, 5, 6, 7] (by decide) rfl
  have hKc := hK.sub (tys' := [(k0, .int), (k1, .int), (k2, .char), (k3, .int), (k4, .int)]) [1, 2, 3, 4, 5] rfl
  have hFc := va_free (wc := [(h1, .inr (3, [.ref a0, .ref a1, .int sn, .ref a2, .ref a3, .ref a4, .int cl])), (a0, .inl (k0, 20, .inl g0)), (a1, .inl (k1, 20, .inl g1)), (a2, .inl (k2, 100, .inl g2)), (a3, .inl (k3, 100, .inl g3)), (a4, .inl (k4, 100, .inl g4))]) hD hS hA [2, 3, 4, 5, 6, 7] rfl
  refine vp_callSi (va_Run.run (va_runV (As := []) (rest := [])  ⟨hx, hb, hml, hown, hts⟩ (c_Set_isFull l D h1 a0 a1 a2 a3 a4 k0 k1 k2 k3 k4 g0 g1 g2 g3 g4 sn cl s.heap.size ) ⟨callB_of 0 hts cg_Set_isFull rfl rfl rfl (hts _ cw_3) (hts _ cw_375) (by decide +kernel) ⟨Nat.le_of_ble_eq_true rfl, Nat.le_of_ble_eq_true rfl⟩, hts _ cw_376, hts _ cw_377⟩ (cx_preV (C := R_Set) [] hPc hKc hDc hN hO hS hFc (ci := 3) (q0 := 0) rfl rfl rfl) rfl rfl hl.1 rfl (lv_room (Nat.le_of_ble_eq_true rfl)) d_Text_takeClassWord_1 ⟨Nat.le_of_ble_eq_true rfl, Nat.le_of_ble_eq_true rfl⟩)) (fun r z_1 => ?_)
  subst z_1
  refine lv_if_ne (tgt := 16) hx hb d_Text_takeClassWord_4 (by decide) (fun c_2 => ?_) (fun c_2 => ?_)
  · refine lv_iconst (v := 0) hx hb d_Text_takeClassWord_16 (by decide) ?_
    have hm : m_tcw bt due sn p0 p1 = (0, due) := by simp [m_tcw, eq_false c_2]
    rw [hm]
    have hP9 := hP.sub (ws' := [(h0, .inr (4, [.ref b0, .int len, .int due, .int ltr, .int low])), (b0, .inl (kb, 600, .inl bt)), (h1, .inr (3, [.ref a0, .ref a1, .int sn, .ref a2, .ref a3, .ref a4, .int cl])), (a0, .inl (k0, 20, .inl g0)), (a1, .inl (k1, 20, .inl g1)), (a2, .inl (k2, 100, .inl g2)), (a3, .inl (k3, 100, .inl g3)), (a4, .inl (k4, 100, .inl g4))]) [0, 1, 2, 3, 4, 5, 6, 7] rfl
    have hD9 := hD.sub (ws' := [(h0, .inr (4, [.ref b0, .int len, .int due, .int ltr, .int low])), (b0, .inl (kb, 600, .inl bt)), (h1, .inr (3, [.ref a0, .ref a1, .int sn, .ref a2, .ref a3, .ref a4, .int cl])), (a0, .inl (k0, 20, .inl g0)), (a1, .inl (k1, 20, .inl g1)), (a2, .inl (k2, 100, .inl g2)), (a3, .inl (k3, 100, .inl g3)), (a4, .inl (k4, 100, .inl g4))]) [0, 1, 2, 3, 4, 5, 6, 7] (by decide) rfl
    have hK9 := hK.sub (tys' := [(kb, .char), (k0, .int), (k1, .int), (k2, .char), (k3, .int), (k4, .int)]) [0, 1, 2, 3, 4, 5] rfl
    exact W.zret (v := 0) hx hb hr (rfl) (fun t ht hW => ⟨⟨_, (), rfl, rfl, by rw [ht]; exact hP9, va_K.moved hW.alike hK9, hD9⟩, hS.F ht⟩) hS.2.2 d_Text_takeClassWord_17
  · refine lv_aload_n hx hb d_Text_takeClassWord_7 rfl (lv_at hl 0 rfl) ?_
    refine lv_iload_n hx hb d_Text_takeClassWord_8 rfl (lv_at hl 2 rfl) ?_
    refine lv_iload_n hx hb d_Text_takeClassWord_9 rfl (lv_at hl 3 rfl) ?_
    have hPc := hP.sub (ws' := [(h0, .inr (4, [.ref b0, .int len, .int due, .int ltr, .int low])), (b0, .inl (kb, 600, .inl bt))]) [0, 1] rfl
    have hDc := hD.sub (ws' := [(h0, .inr (4, [.ref b0, .int len, .int due, .int ltr, .int low])), (b0, .inl (kb, 600, .inl bt))]) [0, 1] (by decide) rfl
    have hKc := hK.sub (tys' := [(kb, .char)]) [0] rfl
    have hFc := va_free (wc := [(h0, .inr (4, [.ref b0, .int len, .int due, .int ltr, .int low])), (b0, .inl (kb, 600, .inl bt))]) hD hS hA [0, 1] rfl
    refine vp_callSi (va_Run.run (va_runV (As := [.int p0, .int p1]) (rest := [])  ⟨hx, hb, hml, hown, hts⟩ (c_Text_isClassWord l D h0 b0 kb bt len due ltr low p0 p1 s.heap.size (hs)) ⟨callB_of 2 hts cg_Text_isClassWord rfl rfl rfl (hts _ cw_2) (hts _ cw_379) (by decide +kernel) ⟨Nat.le_of_ble_eq_true rfl, Nat.le_of_ble_eq_true rfl⟩, hts _ cw_381, hts _ cs_4⟩ (cx_preV (C := R_Text) [.int p0, .int p1] hPc hKc hDc hN hO hS hFc (ci := 4) (q0 := 0) rfl rfl rfl) rfl rfl hl.1 rfl (lv_room (Nat.le_of_ble_eq_true rfl)) d_Text_takeClassWord_10 ⟨Nat.le_of_ble_eq_true rfl, Nat.le_of_ble_eq_true rfl⟩)) (fun r z_3 => ?_)
    subst z_3
    refine lv_if_ne (tgt := 18) hx hb d_Text_takeClassWord_13 (by decide) (fun c_4 => ?_) (fun c_4 => ?_)
    · refine lv_aload_n hx hb d_Text_takeClassWord_18 rfl (lv_at hl 0 rfl) ?_
      refine lv_iconst (v := 1) hx hb d_Text_takeClassWord_19 (by decide) ?_
      refine va_put (D := D) (ci := 4) (v := .int 1) (ty := .int) (C := R_Text) (T := T_Text) (N := 5) hx hb hts in_Text ty_Text tyok_Text nm_Text hown hK hP hD hS 0 rfl rfl 2 (by decide) (hts _ cw_38) (fun _ h9 => h9) rfl (by decide +kernel) rfl rfl (Nat.le_of_ble_eq_true rfl) d_Text_takeClassWord_20 (fun H locs hP hD hS => ?_)
      have hP : va_P D classes ([(h0, .inr (4, [.ref b0, .int len, .int 1, .int ltr, .int low])), (b0, .inl (kb, 600, .inl bt)), (h1, .inr (3, [.ref a0, .ref a1, .int sn, .ref a2, .ref a3, .ref a4, .int cl])), (a0, .inl (k0, 20, .inl g0)), (a1, .inl (k1, 20, .inl g1)), (a2, .inl (k2, 100, .inl g2)), (a3, .inl (k3, 100, .inl g3)), (a4, .inl (k4, 100, .inl g4))]) H := hP
      have hD : va_D A ([(h0, .inr (4, [.ref b0, .int len, .int 1, .int ltr, .int low])), (b0, .inl (kb, 600, .inl bt)), (h1, .inr (3, [.ref a0, .ref a1, .int sn, .ref a2, .ref a3, .ref a4, .int cl])), (a0, .inl (k0, 20, .inl g0)), (a1, .inl (k1, 20, .inl g1)), (a2, .inl (k2, 100, .inl g2)), (a3, .inl (k3, 100, .inl g3)), (a4, .inl (k4, 100, .inl g4))]) := hD
      refine lv_iconst (v := 1) hx hb d_Text_takeClassWord_23 (by decide) ?_
      have hm : m_tcw bt due sn p0 p1 = (1, 1) := by simp [m_tcw, eq_true c_2, eq_false c_4]
      rw [hm]
      have hP9 := hP.sub (ws' := [(h0, .inr (4, [.ref b0, .int len, .int 1, .int ltr, .int low])), (b0, .inl (kb, 600, .inl bt)), (h1, .inr (3, [.ref a0, .ref a1, .int sn, .ref a2, .ref a3, .ref a4, .int cl])), (a0, .inl (k0, 20, .inl g0)), (a1, .inl (k1, 20, .inl g1)), (a2, .inl (k2, 100, .inl g2)), (a3, .inl (k3, 100, .inl g3)), (a4, .inl (k4, 100, .inl g4))]) [0, 1, 2, 3, 4, 5, 6, 7] rfl
      have hD9 := hD.sub (ws' := [(h0, .inr (4, [.ref b0, .int len, .int 1, .int ltr, .int low])), (b0, .inl (kb, 600, .inl bt)), (h1, .inr (3, [.ref a0, .ref a1, .int sn, .ref a2, .ref a3, .ref a4, .int cl])), (a0, .inl (k0, 20, .inl g0)), (a1, .inl (k1, 20, .inl g1)), (a2, .inl (k2, 100, .inl g2)), (a3, .inl (k3, 100, .inl g3)), (a4, .inl (k4, 100, .inl g4))]) [0, 1, 2, 3, 4, 5, 6, 7] (by decide) rfl
      have hK9 := hK.sub (tys' := [(kb, .char), (k0, .int), (k1, .int), (k2, .char), (k3, .int), (k4, .int)]) [0, 1, 2, 3, 4, 5] rfl
      exact W.zret (v := 1) hx hb hr (rfl) (fun t ht hW => ⟨⟨_, (), rfl, rfl, by rw [ht]; exact hP9, va_K.moved hW.alike hK9, hD9⟩, hS.F ht⟩) hS.2.2 d_Text_takeClassWord_24
    · refine lv_iconst (v := 0) hx hb d_Text_takeClassWord_16 (by decide) ?_
      have hm : m_tcw bt due sn p0 p1 = (0, due) := by simp [m_tcw, eq_true c_2, eq_true c_4]
      rw [hm]
      have hP9 := hP.sub (ws' := [(h0, .inr (4, [.ref b0, .int len, .int due, .int ltr, .int low])), (b0, .inl (kb, 600, .inl bt)), (h1, .inr (3, [.ref a0, .ref a1, .int sn, .ref a2, .ref a3, .ref a4, .int cl])), (a0, .inl (k0, 20, .inl g0)), (a1, .inl (k1, 20, .inl g1)), (a2, .inl (k2, 100, .inl g2)), (a3, .inl (k3, 100, .inl g3)), (a4, .inl (k4, 100, .inl g4))]) [0, 1, 2, 3, 4, 5, 6, 7] rfl
      have hD9 := hD.sub (ws' := [(h0, .inr (4, [.ref b0, .int len, .int due, .int ltr, .int low])), (b0, .inl (kb, 600, .inl bt)), (h1, .inr (3, [.ref a0, .ref a1, .int sn, .ref a2, .ref a3, .ref a4, .int cl])), (a0, .inl (k0, 20, .inl g0)), (a1, .inl (k1, 20, .inl g1)), (a2, .inl (k2, 100, .inl g2)), (a3, .inl (k3, 100, .inl g3)), (a4, .inl (k4, 100, .inl g4))]) [0, 1, 2, 3, 4, 5, 6, 7] (by decide) rfl
      have hK9 := hK.sub (tys' := [(kb, .char), (k0, .int), (k1, .int), (k2, .char), (k3, .int), (k4, .int)]) [0, 1, 2, 3, 4, 5] rfl
      exact W.zret (v := 0) hx hb hr (rfl) (fun t ht hW => ⟨⟨_, (), rfl, rfl, by rw [ht]; exact hP9, va_K.moved hW.alike hK9, hD9⟩, hS.F ht⟩) hS.2.2 d_Text_takeClassWord_17

set_option maxHeartbeats 4000000 in
set_option maxRecDepth 100000 in
/-- takeClassNumber -/
theorem c_Text_takeClassNumber (l : Launch) (D : va_G)  (h0 : Nat) (b0 : Nat) (kb : ClassId) (bt : Nat → Int32) (len : Int32) (due : Int32) (ltr : Int32) (low : Int32) (h1 : Nat) (a0 : Nat) (a1 : Nat) (a2 : Nat) (a3 : Nat) (a4 : Nat) (k0 : ClassId) (k1 : ClassId) (k2 : ClassId) (k3 : ClassId) (k4 : ClassId) (g0 : Nat → Int32) (g1 : Nat → Int32) (g2 : Nat → Int32) (g3 : Nat → Int32) (g4 : Nat → Int32) (sn : Int32) (cl : Int32) (p0 : Int32) (sz : Nat)  : Met l y_Text_takeClassNumber ws_Text_takeClassNumber ({ frames := 1, cells := 0, slots := 0, locals := 25 }) (va_Pc [.ref h0, .ref h1, .int p0] (cx_pre D [(kb, .char), (k0, .int), (k1, .int), (k2, .char), (k3, .int), (k4, .int)] ([(h0, .inr (4, [.ref b0, .int len, .int due, .int ltr, .int low])), (b0, .inl (kb, 600, .inl bt)), (h1, .inr (3, [.ref a0, .ref a1, .int sn, .ref a2, .ref a3, .ref a4, .int cl])), (a0, .inl (k0, 20, .inl g0)), (a1, .inl (k1, 20, .inl g1)), (a2, .inl (k2, 100, .inl g2)), (a3, .inl (k3, 100, .inl g3)), (a4, .inl (k4, 100, .inl g4))]) sz)) (va_Qi (fun r9 _ => r9 = (m_tcn due g0 g1 sn cl p0).1) (fun (_ : Unit) t => cx_end D [(kb, .char), (k0, .int), (k1, .int), (k2, .char), (k3, .int), (k4, .int)] (va_A ([(h0, .inr (4, [.ref b0, .int len, .int due, .int ltr, .int low])), (b0, .inl (kb, 600, .inl bt)), (h1, .inr (3, [.ref a0, .ref a1, .int sn, .ref a2, .ref a3, .ref a4, .int cl])), (a0, .inl (k0, 20, .inl g0)), (a1, .inl (k1, 20, .inl g1)), (a2, .inl (k2, 100, .inl g2)), (a3, .inl (k3, 100, .inl g3)), (a4, .inl (k4, 100, .inl g4))]) sz) ([(h0, .inr (4, [.ref b0, .int len, .int ((m_tcn due g0 g1 sn cl p0).2.1), .int ltr, .int low])), (b0, .inl (kb, 600, .inl bt)), (h1, .inr (3, [.ref a0, .ref a1, .int ((m_tcn due g0 g1 sn cl p0).2.2.2.2), .ref a2, .ref a3, .ref a4, .int cl])), (a0, .inl (k0, 20, .inl ((m_tcn due g0 g1 sn cl p0).2.2.1))), (a1, .inl (k1, 20, .inl ((m_tcn due g0 g1 sn cl p0).2.2.2.1))), (a2, .inl (k2, 100, .inl g2)), (a3, .inl (k3, 100, .inl g3)), (a4, .inl (k4, 100, .inl g4))]) t) (va_A ([(h0, .inr (4, [.ref b0, .int len, .int due, .int ltr, .int low])), (b0, .inl (kb, 600, .inl bt)), (h1, .inr (3, [.ref a0, .ref a1, .int sn, .ref a2, .ref a3, .ref a4, .int cl])), (a0, .inl (k0, 20, .inl g0)), (a1, .inl (k1, 20, .inl g1)), (a2, .inl (k2, 100, .inl g2)), (a3, .inl (k3, 100, .inl g3)), (a4, .inl (k4, 100, .inl g4))]) sz)) 0 0 (va_A ([(h0, .inr (4, [.ref b0, .int len, .int due, .int ltr, .int low])), (b0, .inl (kb, 600, .inl bt)), (h1, .inr (3, [.ref a0, .ref a1, .int sn, .ref a2, .ref a3, .ref a4, .int cl])), (a0, .inl (k0, 20, .inl g0)), (a1, .inl (k1, 20, .inl g1)), (a2, .inl (k2, 100, .inl g2)), (a3, .inl (k3, 100, .inl g3)), (a4, .inl (k4, 100, .inl g4))]) sz) := by
  refine Met.ofW (cc := b_Text_takeClassNumber) (maxL := 3) (ret := (some .boolean)) (by decide) rfl ?_
  intro p e s m args below meth c s₁ B hml hv
  obtain ⟨rfl, hsz, hP, hK, hD0, hN, hO⟩ := hv
  have hx := B.exec
  have hb := B.bytes
  have hr := B.returns
  have hts := fun (w : Cond) (h : w ∈ cx_tbl) => atoms_spec (ws := ws_Text_takeClassNumber) B.pre w (List.mem_cons_of_mem _ h)
  have hown : s.vm.findClass R_Text = some m.cls := findClass_of_methodNamed B.named
  have hlocks := B.notSynchronized
  subst hsz
  have hD := hD0.self (sz := s.heap.size)
  generalize hAe : va_A ([(h0, .inr (4, [.ref b0, .int len, .int due, .int ltr, .int low])), (b0, .inl (kb, 600, .inl bt)), (h1, .inr (3, [.ref a0, .ref a1, .int sn, .ref a2, .ref a3, .ref a4, .int cl])), (a0, .inl (k0, 20, .inl g0)), (a1, .inl (k1, 20, .inl g1)), (a2, .inl (k2, 100, .inl g2)), (a3, .inl (k3, 100, .inl g3)), (a4, .inl (k4, 100, .inl g4))]) s.heap.size = A at hD hO ⊢
  have hA : ∀ q : Nat, s.heap.size ≤ q → A q := fun q h => by rw [← hAe]; exact Or.inr h
  have hS : va_S A s.heap s.heap [] := va_S.rf
  have hl := lv_entry ([.ref h0, .ref h1, .int p0]) (n := 3) (Nat.le_of_ble_eq_true rfl)
  rw [lg_entry_eq]
  generalize (lg_sl ([.ref h0, .ref h1, .int p0]) ++ List.replicate (3 - (lg_sl ([.ref h0, .ref h1, .int p0])).length) Slot.unset).toArray = ls at hl ⊢
  have hl : lv_has ls 3 [(0, .ref h0), (1, .ref h1), (2, .int p0)] := hl
  refine lv_iload_n hx hb d_Text_takeClassNumber_0 rfl (lv_at hl 2 rfl) ?_
  refine lv_i2l hx hb d_Text_takeClassNumber_1 rfl ?_
  refine lv_lconst (v := 0) hx hb d_Text_takeClassNumber_2 (by decide) ?_
  refine lv_ldc2 (v := 98) hx hb hown (hts _ cw_444) d_Text_takeClassNumber_3 ?_
  have hPc := hP.sub (ws' := []) [] rfl
  have hDc := hD.sub (ws' := []) [] (by decide) rfl
  have hKc := hK.sub (tys' := []) [] rfl
  have hFc := va_free (wc := []) hD hS hA [] rfl
  refine vp_callSi (va_Run.run (va_runSN (As := [.long p0.toInt64, .long 0, .long 98]) (rest := [])  ⟨hx, hb, hml, hown, hts⟩ (c_Ct_isWithin l D p0.toInt64 0 98 s.heap.size ) ⟨va_cnB 3 hts cg_Ct_isWithin rfl rfl rfl (hN _ cn_437) (hts _ cw_1) (by decide +kernel) ⟨Nat.le_of_ble_eq_true rfl, Nat.le_of_ble_eq_true rfl⟩, hts _ cw_268, trivial⟩ (cx_preS [.long p0.toInt64, .long 0, .long 98] hPc hKc hDc hN hO hS hFc) rfl rfl hl.1 rfl (lv_room (Nat.le_of_ble_eq_true rfl)) d_Text_takeClassNumber_6 ⟨Nat.le_of_ble_eq_true rfl, Nat.le_of_ble_eq_true rfl⟩)) (fun r z_1 => ?_)
  subst z_1
  refine lv_if_eq (tgt := 20) hx hb d_Text_takeClassNumber_9 (by decide) (fun c_2 => ?_) (fun c_2 => ?_)
  · refine lv_iconst (v := 0) hx hb d_Text_takeClassNumber_20 (by decide) ?_
    have hm : m_tcn due g0 g1 sn cl p0 = (0, due, g0, g1, sn) := by simp [m_tcn, eq_true c_2]
    rw [hm]
    have hP9 := hP.sub (ws' := [(h0, .inr (4, [.ref b0, .int len, .int due, .int ltr, .int low])), (b0, .inl (kb, 600, .inl bt)), (h1, .inr (3, [.ref a0, .ref a1, .int sn, .ref a2, .ref a3, .ref a4, .int cl])), (a0, .inl (k0, 20, .inl g0)), (a1, .inl (k1, 20, .inl g1)), (a2, .inl (k2, 100, .inl g2)), (a3, .inl (k3, 100, .inl g3)), (a4, .inl (k4, 100, .inl g4))]) [0, 1, 2, 3, 4, 5, 6, 7] rfl
    have hD9 := hD.sub (ws' := [(h0, .inr (4, [.ref b0, .int len, .int due, .int ltr, .int low])), (b0, .inl (kb, 600, .inl bt)), (h1, .inr (3, [.ref a0, .ref a1, .int sn, .ref a2, .ref a3, .ref a4, .int cl])), (a0, .inl (k0, 20, .inl g0)), (a1, .inl (k1, 20, .inl g1)), (a2, .inl (k2, 100, .inl g2)), (a3, .inl (k3, 100, .inl g3)), (a4, .inl (k4, 100, .inl g4))]) [0, 1, 2, 3, 4, 5, 6, 7] (by decide) rfl
    have hK9 := hK.sub (tys' := [(kb, .char), (k0, .int), (k1, .int), (k2, .char), (k3, .int), (k4, .int)]) [0, 1, 2, 3, 4, 5] rfl
    exact W.zret (v := 0) hx hb hr (rfl) (fun t ht hW => ⟨⟨_, (), rfl, rfl, by rw [ht]; exact hP9, va_K.moved hW.alike hK9, hD9⟩, hS.F ht⟩) hS.2.2 d_Text_takeClassNumber_21
  · refine lv_aload_n hx hb d_Text_takeClassNumber_12 rfl (lv_at hl 1 rfl) ?_
    refine lv_iload_n hx hb d_Text_takeClassNumber_13 rfl (lv_at hl 2 rfl) ?_
    have hPc := hP.sub (ws' := [(h1, .inr (3, [.ref a0, .ref a1, .int sn, .ref a2, .ref a3, .ref a4, .int cl])), (a0, .inl (k0, 20, .inl g0)), (a1, .inl (k1, 20, .inl g1)), (a2, .inl (k2, 100, .inl g2)), (a3, .inl (k3, 100, .inl g3)), (a4, .inl (k4, 100, .inl g4))]) [2, 3, 4, 5, 6, 7] rfl
    have hDc := hD.sub (ws' := [(h1, .inr (3, [.ref a0, .ref a1, .int sn, .ref a2, .ref a3, .ref a4, .int cl])), (a0, .inl (k0, 20, .inl g0)), (a1, .inl (k1, 20, .inl g1)), (a2, .inl (k2, 100, .inl g2)), (a3, .inl (k3, 100, .inl g3)), (a4, .inl (k4, 100, .inl g4))]) [2, 3, 4, 5, 6, 7] (by decide) rfl
    have hKc := hK.sub (tys' := [(k0, .int), (k1, .int), (k2, .char), (k3, .int), (k4, .int)]) [1, 2, 3, 4, 5] rfl
    have hFc := va_free (wc := [(h1, .inr (3, [.ref a0, .ref a1, .int sn, .ref a2, .ref a3, .ref a4, .int cl])), (a0, .inl (k0, 20, .inl g0)), (a1, .inl (k1, 20, .inl g1)), (a2, .inl (k2, 100, .inl g2)), (a3, .inl (k3, 100, .inl g3)), (a4, .inl (k4, 100, .inl g4))]) hD hS hA [2, 3, 4, 5, 6, 7] rfl
    refine cx_joini (wc := [(h1, .inr (3, [.ref a0, .ref a1, .int sn, .ref a2, .ref a3, .ref a4, .int cl])), (a0, .inl (k0, 20, .inl g0)), (a1, .inl (k1, 20, .inl g1)), (a2, .inl (k2, 100, .inl g2)), (a3, .inl (k3, 100, .inl g3)), (a4, .inl (k4, 100, .inl g4))]) (wr := [(h0, .inr (4, [.ref b0, .int len, .int due, .int ltr, .int low])), (b0, .inl (kb, 600, .inl bt))]) hP hD hS hA [2, 3, 4, 5, 6, 7] [0, 1] rfl rfl (by decide) (by decide) (va_runV (As := [.int p0]) (rest := [])  ⟨hx, hb, hml, hown, hts⟩ (c_Set_addSentence l D h1 a0 a1 a2 a3 a4 k0 k1 k2 k3 k4 g0 g1 g2 g3 g4 sn cl p0 s.heap.size ) ⟨callB_of 1 hts cg_Set_addSentence rfl rfl rfl (hts _ cw_3) (hts _ cw_445) (by decide +kernel) ⟨Nat.le_of_ble_eq_true rfl, Nat.le_of_ble_eq_true rfl⟩, hts _ cw_446, hts _ cw_447⟩ (cx_preV (C := R_Set) [.int p0] hPc hKc hDc hN hO hS hFc (ci := 3) (q0 := 0) rfl rfl rfl) rfl rfl hl.1 rfl (lv_room (Nat.le_of_ble_eq_true rfl)) d_Text_takeClassNumber_14 ⟨Nat.le_of_ble_eq_true rfl, Nat.le_of_ble_eq_true rfl⟩) (fun r _ H locs z_3 hK1 hP hD hS => ?_)
    subst z_3
    have hP : va_P D classes ([(h0, .inr (4, [.ref b0, .int len, .int due, .int ltr, .int low])), (b0, .inl (kb, 600, .inl bt)), (h1, .inr (3, [.ref a0, .ref a1, .int ((m_addSent g0 g1 sn cl p0).2.2.2), .ref a2, .ref a3, .ref a4, .int cl])), (a0, .inl (k0, 20, .inl ((m_addSent g0 g1 sn cl p0).2.1))), (a1, .inl (k1, 20, .inl ((m_addSent g0 g1 sn cl p0).2.2.1))), (a2, .inl (k2, 100, .inl g2)), (a3, .inl (k3, 100, .inl g3)), (a4, .inl (k4, 100, .inl g4))]) H := hP
    have hD : va_D A ([(h0, .inr (4, [.ref b0, .int len, .int due, .int ltr, .int low])), (b0, .inl (kb, 600, .inl bt)), (h1, .inr (3, [.ref a0, .ref a1, .int ((m_addSent g0 g1 sn cl p0).2.2.2), .ref a2, .ref a3, .ref a4, .int cl])), (a0, .inl (k0, 20, .inl ((m_addSent g0 g1 sn cl p0).2.1))), (a1, .inl (k1, 20, .inl ((m_addSent g0 g1 sn cl p0).2.2.1))), (a2, .inl (k2, 100, .inl g2)), (a3, .inl (k3, 100, .inl g3)), (a4, .inl (k4, 100, .inl g4))]) := hD
    refine lv_if_ne (tgt := 22) hx hb d_Text_takeClassNumber_17 (by decide) (fun c_4 => ?_) (fun c_4 => ?_)
    · refine lv_aload_n hx hb d_Text_takeClassNumber_22 rfl (lv_at hl 0 rfl) ?_
      refine lv_iconst (v := 2) hx hb d_Text_takeClassNumber_23 (by decide) ?_
      refine va_put (D := D) (ci := 4) (v := .int 2) (ty := .int) (C := R_Text) (T := T_Text) (N := 5) hx hb hts in_Text ty_Text tyok_Text nm_Text hown hK hP hD hS 0 rfl rfl 2 (by decide) (hts _ cw_38) (fun _ h9 => h9) rfl (by decide +kernel) rfl rfl (Nat.le_of_ble_eq_true rfl) d_Text_takeClassNumber_24 (fun H locs hP hD hS => ?_)
      have hP : va_P D classes ([(h0, .inr (4, [.ref b0, .int len, .int 2, .int ltr, .int low])), (b0, .inl (kb, 600, .inl bt)), (h1, .inr (3, [.ref a0, .ref a1, .int ((m_addSent g0 g1 sn cl p0).2.2.2), .ref a2, .ref a3, .ref a4, .int cl])), (a0, .inl (k0, 20, .inl ((m_addSent g0 g1 sn cl p0).2.1))), (a1, .inl (k1, 20, .inl ((m_addSent g0 g1 sn cl p0).2.2.1))), (a2, .inl (k2, 100, .inl g2)), (a3, .inl (k3, 100, .inl g3)), (a4, .inl (k4, 100, .inl g4))]) H := hP
      have hD : va_D A ([(h0, .inr (4, [.ref b0, .int len, .int 2, .int ltr, .int low])), (b0, .inl (kb, 600, .inl bt)), (h1, .inr (3, [.ref a0, .ref a1, .int ((m_addSent g0 g1 sn cl p0).2.2.2), .ref a2, .ref a3, .ref a4, .int cl])), (a0, .inl (k0, 20, .inl ((m_addSent g0 g1 sn cl p0).2.1))), (a1, .inl (k1, 20, .inl ((m_addSent g0 g1 sn cl p0).2.2.1))), (a2, .inl (k2, 100, .inl g2)), (a3, .inl (k3, 100, .inl g3)), (a4, .inl (k4, 100, .inl g4))]) := hD
      refine lv_iconst (v := 1) hx hb d_Text_takeClassNumber_27 (by decide) ?_
      have hm : m_tcn due g0 g1 sn cl p0 = (1, 2, (m_addSent g0 g1 sn cl p0).2.1, (m_addSent g0 g1 sn cl p0).2.2.1, (m_addSent g0 g1 sn cl p0).2.2.2) := by simp [m_tcn, eq_false c_2, eq_false c_4]
      rw [hm]
      have hP9 := hP.sub (ws' := [(h0, .inr (4, [.ref b0, .int len, .int 2, .int ltr, .int low])), (b0, .inl (kb, 600, .inl bt)), (h1, .inr (3, [.ref a0, .ref a1, .int ((m_addSent g0 g1 sn cl p0).2.2.2), .ref a2, .ref a3, .ref a4, .int cl])), (a0, .inl (k0, 20, .inl ((m_addSent g0 g1 sn cl p0).2.1))), (a1, .inl (k1, 20, .inl ((m_addSent g0 g1 sn cl p0).2.2.1))), (a2, .inl (k2, 100, .inl g2)), (a3, .inl (k3, 100, .inl g3)), (a4, .inl (k4, 100, .inl g4))]) [0, 1, 2, 3, 4, 5, 6, 7] rfl
      have hD9 := hD.sub (ws' := [(h0, .inr (4, [.ref b0, .int len, .int 2, .int ltr, .int low])), (b0, .inl (kb, 600, .inl bt)), (h1, .inr (3, [.ref a0, .ref a1, .int ((m_addSent g0 g1 sn cl p0).2.2.2), .ref a2, .ref a3, .ref a4, .int cl])), (a0, .inl (k0, 20, .inl ((m_addSent g0 g1 sn cl p0).2.1))), (a1, .inl (k1, 20, .inl ((m_addSent g0 g1 sn cl p0).2.2.1))), (a2, .inl (k2, 100, .inl g2)), (a3, .inl (k3, 100, .inl g3)), (a4, .inl (k4, 100, .inl g4))]) [0, 1, 2, 3, 4, 5, 6, 7] (by decide) rfl
      have hK9 := hK.sub (tys' := [(kb, .char), (k0, .int), (k1, .int), (k2, .char), (k3, .int), (k4, .int)]) [0, 1, 2, 3, 4, 5] rfl
      exact W.zret (v := 1) hx hb hr (rfl) (fun t ht hW => ⟨⟨_, (), rfl, rfl, by rw [ht]; exact hP9, va_K.moved hW.alike hK9, hD9⟩, hS.F ht⟩) hS.2.2 d_Text_takeClassNumber_28
    · refine lv_iconst (v := 0) hx hb d_Text_takeClassNumber_20 (by decide) ?_
      have hm : m_tcn due g0 g1 sn cl p0 = (0, due, (m_addSent g0 g1 sn cl p0).2.1, (m_addSent g0 g1 sn cl p0).2.2.1, (m_addSent g0 g1 sn cl p0).2.2.2) := by simp [m_tcn, eq_false c_2, eq_true c_4]
      rw [hm]
      have hP9 := hP.sub (ws' := [(h0, .inr (4, [.ref b0, .int len, .int due, .int ltr, .int low])), (b0, .inl (kb, 600, .inl bt)), (h1, .inr (3, [.ref a0, .ref a1, .int ((m_addSent g0 g1 sn cl p0).2.2.2), .ref a2, .ref a3, .ref a4, .int cl])), (a0, .inl (k0, 20, .inl ((m_addSent g0 g1 sn cl p0).2.1))), (a1, .inl (k1, 20, .inl ((m_addSent g0 g1 sn cl p0).2.2.1))), (a2, .inl (k2, 100, .inl g2)), (a3, .inl (k3, 100, .inl g3)), (a4, .inl (k4, 100, .inl g4))]) [0, 1, 2, 3, 4, 5, 6, 7] rfl
      have hD9 := hD.sub (ws' := [(h0, .inr (4, [.ref b0, .int len, .int due, .int ltr, .int low])), (b0, .inl (kb, 600, .inl bt)), (h1, .inr (3, [.ref a0, .ref a1, .int ((m_addSent g0 g1 sn cl p0).2.2.2), .ref a2, .ref a3, .ref a4, .int cl])), (a0, .inl (k0, 20, .inl ((m_addSent g0 g1 sn cl p0).2.1))), (a1, .inl (k1, 20, .inl ((m_addSent g0 g1 sn cl p0).2.2.1))), (a2, .inl (k2, 100, .inl g2)), (a3, .inl (k3, 100, .inl g3)), (a4, .inl (k4, 100, .inl g4))]) [0, 1, 2, 3, 4, 5, 6, 7] (by decide) rfl
      have hK9 := hK.sub (tys' := [(kb, .char), (k0, .int), (k1, .int), (k2, .char), (k3, .int), (k4, .int)]) [0, 1, 2, 3, 4, 5] rfl
      exact W.zret (v := 0) hx hb hr (rfl) (fun t ht hW => ⟨⟨_, (), rfl, rfl, by rw [ht]; exact hP9, va_K.moved hW.alike hK9, hD9⟩, hS.F ht⟩) hS.2.2 d_Text_takeClassNumber_21

set_option maxHeartbeats 4000000 in
set_option maxRecDepth 100000 in
/-- takeLetter -/
theorem c_Text_takeLetter (l : Launch) (D : va_G)  (h0 : Nat) (b0 : Nat) (kb : ClassId) (bt : Nat → Int32) (len : Int32) (due : Int32) (ltr : Int32) (low : Int32) (p0 : Int32) (p1 : Int32) (sz : Nat)  : Met l y_Text_takeLetter ws_Text_takeLetter ({ frames := 0, cells := 0, slots := 0, locals := 0 }) (va_Pc [.ref h0, .int p0, .int p1] (cx_pre D [(kb, .char)] ([(h0, .inr (4, [.ref b0, .int len, .int due, .int ltr, .int low])), (b0, .inl (kb, 600, .inl bt))]) sz)) (va_Qi (fun r9 _ => r9 = (m_tl bt due ltr p0 p1).1) (fun (_ : Unit) t => cx_end D [(kb, .char)] (va_A ([(h0, .inr (4, [.ref b0, .int len, .int due, .int ltr, .int low])), (b0, .inl (kb, 600, .inl bt))]) sz) ([(h0, .inr (4, [.ref b0, .int len, .int ((m_tl bt due ltr p0 p1).2.1), .int ((m_tl bt due ltr p0 p1).2.2), .int low])), (b0, .inl (kb, 600, .inl bt))]) t) (va_A ([(h0, .inr (4, [.ref b0, .int len, .int due, .int ltr, .int low])), (b0, .inl (kb, 600, .inl bt))]) sz)) 0 0 (va_A ([(h0, .inr (4, [.ref b0, .int len, .int due, .int ltr, .int low])), (b0, .inl (kb, 600, .inl bt))]) sz) := by
  refine Met.ofW (cc := b_Text_takeLetter) (maxL := 4) (ret := (some .boolean)) (by decide) rfl ?_
  intro p e s m args below meth c s₁ B hml hv
  obtain ⟨rfl, hsz, hP, hK, hD0, hN, hO⟩ := hv
  have hx := B.exec
  have hb := B.bytes
  have hr := B.returns
  have hts := fun (w : Cond) (h : w ∈ cx_tbl) => atoms_spec (ws := ws_Text_takeLetter) B.pre w (List.mem_cons_of_mem _ h)
  have hown : s.vm.findClass R_Text = some m.cls := findClass_of_methodNamed B.named
  have hlocks := B.notSynchronized
  subst hsz
  have hD := hD0.self (sz := s.heap.size)
  generalize hAe : va_A ([(h0, .inr (4, [.ref b0, .int len, .int due, .int ltr, .int low])), (b0, .inl (kb, 600, .inl bt))]) s.heap.size = A at hD hO ⊢
  have hA : ∀ q : Nat, s.heap.size ≤ q → A q := fun q h => by rw [← hAe]; exact Or.inr h
  have hS : va_S A s.heap s.heap [] := va_S.rf
  have hl := lv_entry ([.ref h0, .int p0, .int p1]) (n := 4) (Nat.le_of_ble_eq_true rfl)
  rw [lg_entry_eq]
  generalize (lg_sl ([.ref h0, .int p0, .int p1]) ++ List.replicate (4 - (lg_sl ([.ref h0, .int p0, .int p1])).length) Slot.unset).toArray = ls at hl ⊢
  have hl : lv_has ls 4 [(0, .ref h0), (1, .int p0), (2, .int p1)] := hl
  refine lv_iload_n hx hb d_Text_takeLetter_0 rfl (lv_at hl 2 rfl) ?_
  refine lv_iload_n hx hb d_Text_takeLetter_1 rfl (lv_at hl 1 rfl) ?_
  refine lv_isub hx hb d_Text_takeLetter_2 ?_
  refine lv_iconst (v := 1) hx hb d_Text_takeLetter_3 (by decide) ?_
  refine lv_icmp_ne (tgt := 20) hx hb d_Text_takeLetter_4 (by decide) (fun c_1 => ?_) (fun c_1 => ?_)
  · refine lv_iconst (v := 0) hx hb d_Text_takeLetter_20 (by decide) ?_
    have hm : m_tl bt due ltr p0 p1 = (0, due, ltr) := by simp [m_tl, eq_false c_1]
    rw [hm]
    have hP9 := hP.sub (ws' := [(h0, .inr (4, [.ref b0, .int len, .int due, .int ltr, .int low])), (b0, .inl (kb, 600, .inl bt))]) [0, 1] rfl
    have hD9 := hD.sub (ws' := [(h0, .inr (4, [.ref b0, .int len, .int due, .int ltr, .int low])), (b0, .inl (kb, 600, .inl bt))]) [0, 1] (by decide) rfl
    have hK9 := hK.sub (tys' := [(kb, .char)]) [0] rfl
    exact W.zret (v := 0) hx hb hr (rfl) (fun t ht hW => ⟨⟨_, (), rfl, rfl, by rw [ht]; exact hP9, va_K.moved hW.alike hK9, hD9⟩, hS.F ht⟩) hS.2.2 d_Text_takeLetter_21
  · refine lv_iload_n hx hb d_Text_takeLetter_7 rfl (lv_at hl 1 rfl) ?_
    refine lv_if_lt (tgt := 20) hx hb d_Text_takeLetter_8 (by decide) (fun c_2 => ?_) (fun c_2 => ?_)
    · refine lv_iconst (v := 0) hx hb d_Text_takeLetter_20 (by decide) ?_
      have hm : m_tl bt due ltr p0 p1 = (0, due, ltr) := by simp [m_tl, eq_true c_1, eq_true c_2]
      rw [hm]
      have hP9 := hP.sub (ws' := [(h0, .inr (4, [.ref b0, .int len, .int due, .int ltr, .int low])), (b0, .inl (kb, 600, .inl bt))]) [0, 1] rfl
      have hD9 := hD.sub (ws' := [(h0, .inr (4, [.ref b0, .int len, .int due, .int ltr, .int low])), (b0, .inl (kb, 600, .inl bt))]) [0, 1] (by decide) rfl
      have hK9 := hK.sub (tys' := [(kb, .char)]) [0] rfl
      exact W.zret (v := 0) hx hb hr (rfl) (fun t ht hW => ⟨⟨_, (), rfl, rfl, by rw [ht]; exact hP9, va_K.moved hW.alike hK9, hD9⟩, hS.F ht⟩) hS.2.2 d_Text_takeLetter_21
    · refine lv_iload_n hx hb d_Text_takeLetter_11 rfl (lv_at hl 1 rfl) ?_
      refine lv_aload_n hx hb d_Text_takeLetter_12 rfl (lv_at hl 0 rfl) ?_
      refine va_get (D := D) (ci := 4) (v := .ref b0) (C := R_Text) (T := T_Text) (N := 5) hx hb hts in_Text hown hK hP 0 rfl rfl 0 (by decide) (hts _ cw_36) (fun _ h9 => h9) rfl d_Text_takeLetter_13 ?_
      refine va_alen (v := 600) hx hb hK hP 1 0 rfl rfl rfl d_Text_takeLetter_16 ?_
      refine lv_icmp_lt (tgt := 22) hx hb d_Text_takeLetter_17 (by decide) (fun c_3 => ?_) (fun c_3 => ?_)
      · refine lv_aload_n hx hb d_Text_takeLetter_22 rfl (lv_at hl 0 rfl) ?_
        refine va_get (D := D) (ci := 4) (v := .ref b0) (C := R_Text) (T := T_Text) (N := 5) hx hb hts in_Text hown hK hP 0 rfl rfl 0 (by decide) (hts _ cw_36) (fun _ h9 => h9) rfl d_Text_takeLetter_23 ?_
        refine lv_iload_n hx hb d_Text_takeLetter_26 rfl (lv_at hl 1 rfl) ?_
        refine va_cald hx hb hK hP 1 0 rfl rfl (cx_ixl (n := 600) (by decide) c_2 c_3) d_Text_takeLetter_27 ?_
        refine lv_istore_n (lv' := [(3, .int (bt p0.toNatClampNeg)), (0, .ref h0), (1, .int p0), (2, .int p1)]) hx hb d_Text_takeLetter_28 rfl hl (by decide) rfl (fun ls hl => ?_)
        refine lv_iload_n hx hb d_Text_takeLetter_29 rfl (lv_at hl 0 rfl) ?_
        refine lv_bipush (v := 113) hx hb d_Text_takeLetter_30 (by decide) ?_
        refine lv_icmp_eq (tgt := 49) hx hb d_Text_takeLetter_32 (by decide) (fun c_4 => ?_) (fun c_4 => ?_)
        · refine lv_aload_n hx hb d_Text_takeLetter_49 rfl (lv_at hl 1 rfl) ?_
          refine lv_iload_n hx hb d_Text_takeLetter_50 rfl (lv_at hl 0 rfl) ?_
          refine va_put (D := D) (ci := 4) (v := .int (bt p0.toNatClampNeg)) (ty := .char) (C := R_Text) (T := T_Text) (N := 5) hx hb hts in_Text ty_Text tyok_Text nm_Text hown hK hP hD hS 0 rfl rfl 3 (by decide) (hts _ cw_39) (fun _ h9 => h9) rfl (by decide +kernel) (by rw [c_4]; rfl) (by rw [c_4]; rfl) (Nat.le_of_ble_eq_true rfl) d_Text_takeLetter_51 (fun H locs hP hD hS => ?_)
          have hP : va_P D classes ([(h0, .inr (4, [.ref b0, .int len, .int due, .int (bt p0.toNatClampNeg), .int low])), (b0, .inl (kb, 600, .inl bt))]) H := hP
          have hD : va_D A ([(h0, .inr (4, [.ref b0, .int len, .int due, .int (bt p0.toNatClampNeg), .int low])), (b0, .inl (kb, 600, .inl bt))]) := hD
          refine lv_aload_n hx hb d_Text_takeLetter_54 rfl (lv_at hl 1 rfl) ?_
          refine lv_iconst (v := 3) hx hb d_Text_takeLetter_55 (by decide) ?_
          refine va_put (D := D) (ci := 4) (v := .int 3) (ty := .int) (C := R_Text) (T := T_Text) (N := 5) hx hb hts in_Text ty_Text tyok_Text nm_Text hown hK hP hD hS 0 rfl rfl 2 (by decide) (hts _ cw_38) (fun _ h9 => h9) rfl (by decide +kernel) rfl rfl (Nat.le_of_ble_eq_true rfl) d_Text_takeLetter_56 (fun H locs hP hD hS => ?_)
          have hP : va_P D classes ([(h0, .inr (4, [.ref b0, .int len, .int 3, .int (bt p0.toNatClampNeg), .int low])), (b0, .inl (kb, 600, .inl bt))]) H := hP
          have hD : va_D A ([(h0, .inr (4, [.ref b0, .int len, .int 3, .int (bt p0.toNatClampNeg), .int low])), (b0, .inl (kb, 600, .inl bt))]) := hD
          refine lv_iconst (v := 1) hx hb d_Text_takeLetter_59 (by decide) ?_
          have hm : m_tl bt due ltr p0 p1 = (1, 3, bt p0.toNatClampNeg) := by simp [m_tl, eq_true c_1, eq_false c_2, eq_true c_3, eq_true c_4]
          rw [hm]
          have hP9 := hP.sub (ws' := [(h0, .inr (4, [.ref b0, .int len, .int 3, .int (bt p0.toNatClampNeg), .int low])), (b0, .inl (kb, 600, .inl bt))]) [0, 1] rfl
          have hD9 := hD.sub (ws' := [(h0, .inr (4, [.ref b0, .int len, .int 3, .int (bt p0.toNatClampNeg), .int low])), (b0, .inl (kb, 600, .inl bt))]) [0, 1] (by decide) rfl
          have hK9 := hK.sub (tys' := [(kb, .char)]) [0] rfl
          exact W.zret (v := 1) hx hb hr (rfl) (fun t ht hW => ⟨⟨_, (), rfl, rfl, by rw [ht]; exact hP9, va_K.moved hW.alike hK9, hD9⟩, hS.F ht⟩) hS.2.2 d_Text_takeLetter_60
        · refine lv_iload_n hx hb d_Text_takeLetter_35 rfl (lv_at hl 0 rfl) ?_
          refine lv_bipush (v := 118) hx hb d_Text_takeLetter_36 (by decide) ?_
          refine lv_icmp_eq (tgt := 49) hx hb d_Text_takeLetter_38 (by decide) (fun c_5 => ?_) (fun c_5 => ?_)
          · refine lv_aload_n hx hb d_Text_takeLetter_49 rfl (lv_at hl 1 rfl) ?_
            refine lv_iload_n hx hb d_Text_takeLetter_50 rfl (lv_at hl 0 rfl) ?_
            refine va_put (D := D) (ci := 4) (v := .int (bt p0.toNatClampNeg)) (ty := .char) (C := R_Text) (T := T_Text) (N := 5) hx hb hts in_Text ty_Text tyok_Text nm_Text hown hK hP hD hS 0 rfl rfl 3 (by decide) (hts _ cw_39) (fun _ h9 => h9) rfl (by decide +kernel) (by rw [c_5]; rfl) (by rw [c_5]; rfl) (Nat.le_of_ble_eq_true rfl) d_Text_takeLetter_51 (fun H locs hP hD hS => ?_)
            have hP : va_P D classes ([(h0, .inr (4, [.ref b0, .int len, .int due, .int (bt p0.toNatClampNeg), .int low])), (b0, .inl (kb, 600, .inl bt))]) H := hP
            have hD : va_D A ([(h0, .inr (4, [.ref b0, .int len, .int due, .int (bt p0.toNatClampNeg), .int low])), (b0, .inl (kb, 600, .inl bt))]) := hD
            refine lv_aload_n hx hb d_Text_takeLetter_54 rfl (lv_at hl 1 rfl) ?_
            refine lv_iconst (v := 3) hx hb d_Text_takeLetter_55 (by decide) ?_
            refine va_put (D := D) (ci := 4) (v := .int 3) (ty := .int) (C := R_Text) (T := T_Text) (N := 5) hx hb hts in_Text ty_Text tyok_Text nm_Text hown hK hP hD hS 0 rfl rfl 2 (by decide) (hts _ cw_38) (fun _ h9 => h9) rfl (by decide +kernel) rfl rfl (Nat.le_of_ble_eq_true rfl) d_Text_takeLetter_56 (fun H locs hP hD hS => ?_)
            have hP : va_P D classes ([(h0, .inr (4, [.ref b0, .int len, .int 3, .int (bt p0.toNatClampNeg), .int low])), (b0, .inl (kb, 600, .inl bt))]) H := hP
            have hD : va_D A ([(h0, .inr (4, [.ref b0, .int len, .int 3, .int (bt p0.toNatClampNeg), .int low])), (b0, .inl (kb, 600, .inl bt))]) := hD
            refine lv_iconst (v := 1) hx hb d_Text_takeLetter_59 (by decide) ?_
            have hm : m_tl bt due ltr p0 p1 = (1, 3, bt p0.toNatClampNeg) := by simp [m_tl, eq_true c_1, eq_false c_2, eq_true c_3, eq_false c_4, eq_true c_5]
            rw [hm]
            have hP9 := hP.sub (ws' := [(h0, .inr (4, [.ref b0, .int len, .int 3, .int (bt p0.toNatClampNeg), .int low])), (b0, .inl (kb, 600, .inl bt))]) [0, 1] rfl
            have hD9 := hD.sub (ws' := [(h0, .inr (4, [.ref b0, .int len, .int 3, .int (bt p0.toNatClampNeg), .int low])), (b0, .inl (kb, 600, .inl bt))]) [0, 1] (by decide) rfl
            have hK9 := hK.sub (tys' := [(kb, .char)]) [0] rfl
            exact W.zret (v := 1) hx hb hr (rfl) (fun t ht hW => ⟨⟨_, (), rfl, rfl, by rw [ht]; exact hP9, va_K.moved hW.alike hK9, hD9⟩, hS.F ht⟩) hS.2.2 d_Text_takeLetter_60
          · refine lv_iload_n hx hb d_Text_takeLetter_41 rfl (lv_at hl 0 rfl) ?_
            refine lv_bipush (v := 114) hx hb d_Text_takeLetter_42 (by decide) ?_
            refine lv_icmp_eq (tgt := 49) hx hb d_Text_takeLetter_44 (by decide) (fun c_6 => ?_) (fun c_6 => ?_)
            · refine lv_aload_n hx hb d_Text_takeLetter_49 rfl (lv_at hl 1 rfl) ?_
              refine lv_iload_n hx hb d_Text_takeLetter_50 rfl (lv_at hl 0 rfl) ?_
              refine va_put (D := D) (ci := 4) (v := .int (bt p0.toNatClampNeg)) (ty := .char) (C := R_Text) (T := T_Text) (N := 5) hx hb hts in_Text ty_Text tyok_Text nm_Text hown hK hP hD hS 0 rfl rfl 3 (by decide) (hts _ cw_39) (fun _ h9 => h9) rfl (by decide +kernel) (by rw [c_6]; rfl) (by rw [c_6]; rfl) (Nat.le_of_ble_eq_true rfl) d_Text_takeLetter_51 (fun H locs hP hD hS => ?_)
              have hP : va_P D classes ([(h0, .inr (4, [.ref b0, .int len, .int due, .int (bt p0.toNatClampNeg), .int low])), (b0, .inl (kb, 600, .inl bt))]) H := hP
              have hD : va_D A ([(h0, .inr (4, [.ref b0, .int len, .int due, .int (bt p0.toNatClampNeg), .int low])), (b0, .inl (kb, 600, .inl bt))]) := hD
              refine lv_aload_n hx hb d_Text_takeLetter_54 rfl (lv_at hl 1 rfl) ?_
              refine lv_iconst (v := 3) hx hb d_Text_takeLetter_55 (by decide) ?_
              refine va_put (D := D) (ci := 4) (v := .int 3) (ty := .int) (C := R_Text) (T := T_Text) (N := 5) hx hb hts in_Text ty_Text tyok_Text nm_Text hown hK hP hD hS 0 rfl rfl 2 (by decide) (hts _ cw_38) (fun _ h9 => h9) rfl (by decide +kernel) rfl rfl (Nat.le_of_ble_eq_true rfl) d_Text_takeLetter_56 (fun H locs hP hD hS => ?_)
              have hP : va_P D classes ([(h0, .inr (4, [.ref b0, .int len, .int 3, .int (bt p0.toNatClampNeg), .int low])), (b0, .inl (kb, 600, .inl bt))]) H := hP
              have hD : va_D A ([(h0, .inr (4, [.ref b0, .int len, .int 3, .int (bt p0.toNatClampNeg), .int low])), (b0, .inl (kb, 600, .inl bt))]) := hD
              refine lv_iconst (v := 1) hx hb d_Text_takeLetter_59 (by decide) ?_
              have hm : m_tl bt due ltr p0 p1 = (1, 3, bt p0.toNatClampNeg) := by simp [m_tl, eq_true c_1, eq_false c_2, eq_true c_3, eq_false c_4, eq_false c_5, eq_true c_6]
              rw [hm]
              have hP9 := hP.sub (ws' := [(h0, .inr (4, [.ref b0, .int len, .int 3, .int (bt p0.toNatClampNeg), .int low])), (b0, .inl (kb, 600, .inl bt))]) [0, 1] rfl
              have hD9 := hD.sub (ws' := [(h0, .inr (4, [.ref b0, .int len, .int 3, .int (bt p0.toNatClampNeg), .int low])), (b0, .inl (kb, 600, .inl bt))]) [0, 1] (by decide) rfl
              have hK9 := hK.sub (tys' := [(kb, .char)]) [0] rfl
              exact W.zret (v := 1) hx hb hr (rfl) (fun t ht hW => ⟨⟨_, (), rfl, rfl, by rw [ht]; exact hP9, va_K.moved hW.alike hK9, hD9⟩, hS.F ht⟩) hS.2.2 d_Text_takeLetter_60
            · refine lv_iconst (v := 0) hx hb d_Text_takeLetter_47 (by decide) ?_
              have hm : m_tl bt due ltr p0 p1 = (0, due, ltr) := by simp [m_tl, eq_true c_1, eq_false c_2, eq_true c_3, eq_false c_4, eq_false c_5, eq_false c_6]
              rw [hm]
              have hP9 := hP.sub (ws' := [(h0, .inr (4, [.ref b0, .int len, .int due, .int ltr, .int low])), (b0, .inl (kb, 600, .inl bt))]) [0, 1] rfl
              have hD9 := hD.sub (ws' := [(h0, .inr (4, [.ref b0, .int len, .int due, .int ltr, .int low])), (b0, .inl (kb, 600, .inl bt))]) [0, 1] (by decide) rfl
              have hK9 := hK.sub (tys' := [(kb, .char)]) [0] rfl
              exact W.zret (v := 0) hx hb hr (rfl) (fun t ht hW => ⟨⟨_, (), rfl, rfl, by rw [ht]; exact hP9, va_K.moved hW.alike hK9, hD9⟩, hS.F ht⟩) hS.2.2 d_Text_takeLetter_48
      · refine lv_iconst (v := 0) hx hb d_Text_takeLetter_20 (by decide) ?_
        have hm : m_tl bt due ltr p0 p1 = (0, due, ltr) := by simp [m_tl, eq_true c_1, eq_false c_2, eq_false c_3]
        rw [hm]
        have hP9 := hP.sub (ws' := [(h0, .inr (4, [.ref b0, .int len, .int due, .int ltr, .int low])), (b0, .inl (kb, 600, .inl bt))]) [0, 1] rfl
        have hD9 := hD.sub (ws' := [(h0, .inr (4, [.ref b0, .int len, .int due, .int ltr, .int low])), (b0, .inl (kb, 600, .inl bt))]) [0, 1] (by decide) rfl
        have hK9 := hK.sub (tys' := [(kb, .char)]) [0] rfl
        exact W.zret (v := 0) hx hb hr (rfl) (fun t ht hW => ⟨⟨_, (), rfl, rfl, by rw [ht]; exact hP9, va_K.moved hW.alike hK9, hD9⟩, hS.F ht⟩) hS.2.2 d_Text_takeLetter_21

set_option maxHeartbeats 4000000 in
set_option maxRecDepth 100000 in
/-- takeLow -/
theorem c_Text_takeLow (l : Launch) (D : va_G)  (h0 : Nat) (b0 : Nat) (kb : ClassId) (bt : Nat → Int32) (len : Int32) (due : Int32) (ltr : Int32) (low : Int32) (p0 : Int32) (sz : Nat)  : Met l y_Text_takeLow ws_Text_takeLow ({ frames := 0, cells := 0, slots := 0, locals := 0 }) (va_Pc [.ref h0, .int p0] (cx_pre D [(kb, .char)] ([(h0, .inr (4, [.ref b0, .int len, .int due, .int ltr, .int low])), (b0, .inl (kb, 600, .inl bt))]) sz)) (va_Qi (fun r9 _ => r9 = (m_tlow due low p0).1) (fun (_ : Unit) t => cx_end D [(kb, .char)] (va_A ([(h0, .inr (4, [.ref b0, .int len, .int due, .int ltr, .int low])), (b0, .inl (kb, 600, .inl bt))]) sz) ([(h0, .inr (4, [.ref b0, .int len, .int ((m_tlow due low p0).2.1), .int ltr, .int ((m_tlow due low p0).2.2)])), (b0, .inl (kb, 600, .inl bt))]) t) (va_A ([(h0, .inr (4, [.ref b0, .int len, .int due, .int ltr, .int low])), (b0, .inl (kb, 600, .inl bt))]) sz)) 0 0 (va_A ([(h0, .inr (4, [.ref b0, .int len, .int due, .int ltr, .int low])), (b0, .inl (kb, 600, .inl bt))]) sz) := by
  refine Met.ofW (cc := b_Text_takeLow) (maxL := 2) (ret := (some .boolean)) (by decide) rfl ?_
  intro p e s m args below meth c s₁ B hml hv
  obtain ⟨rfl, hsz, hP, hK, hD0, hN, hO⟩ := hv
  have hx := B.exec
  have hb := B.bytes
  have hr := B.returns
  have hts := fun (w : Cond) (h : w ∈ cx_tbl) => atoms_spec (ws := ws_Text_takeLow) B.pre w (List.mem_cons_of_mem _ h)
  have hown : s.vm.findClass R_Text = some m.cls := findClass_of_methodNamed B.named
  have hlocks := B.notSynchronized
  subst hsz
  have hD := hD0.self (sz := s.heap.size)
  generalize hAe : va_A ([(h0, .inr (4, [.ref b0, .int len, .int due, .int ltr, .int low])), (b0, .inl (kb, 600, .inl bt))]) s.heap.size = A at hD hO ⊢
  have hA : ∀ q : Nat, s.heap.size ≤ q → A q := fun q h => by rw [← hAe]; exact Or.inr h
  have hS : va_S A s.heap s.heap [] := va_S.rf
  have hl := lv_entry ([.ref h0, .int p0]) (n := 2) (Nat.le_of_ble_eq_true rfl)
  rw [lg_entry_eq]
  generalize (lg_sl ([.ref h0, .int p0]) ++ List.replicate (2 - (lg_sl ([.ref h0, .int p0])).length) Slot.unset).toArray = ls at hl ⊢
  have hl : lv_has ls 2 [(0, .ref h0), (1, .int p0)] := hl
  refine lv_iload_n hx hb d_Text_takeLow_0 rfl (lv_at hl 1 rfl) ?_
  refine lv_ldc (v := (-2147483648)) hx hb hown (hts _ cw_435) d_Text_takeLow_1 ?_
  refine lv_icmp_ne (tgt := 8) hx hb d_Text_takeLow_3 (by decide) (fun c_1 => ?_) (fun c_1 => ?_)
  · refine lv_aload_n hx hb d_Text_takeLow_8 rfl (lv_at hl 0 rfl) ?_
    refine lv_iload_n hx hb d_Text_takeLow_9 rfl (lv_at hl 1 rfl) ?_
    refine va_put (D := D) (ci := 4) (v := .int p0) (ty := .int) (C := R_Text) (T := T_Text) (N := 5) hx hb hts in_Text ty_Text tyok_Text nm_Text hown hK hP hD hS 0 rfl rfl 4 (by decide) (hts _ cw_40) (fun _ h9 => h9) rfl (by decide +kernel) rfl rfl (Nat.le_of_ble_eq_true rfl) d_Text_takeLow_10 (fun H locs hP hD hS => ?_)
    have hP : va_P D classes ([(h0, .inr (4, [.ref b0, .int len, .int due, .int ltr, .int p0])), (b0, .inl (kb, 600, .inl bt))]) H := hP
    have hD : va_D A ([(h0, .inr (4, [.ref b0, .int len, .int due, .int ltr, .int p0])), (b0, .inl (kb, 600, .inl bt))]) := hD
    refine lv_aload_n hx hb d_Text_takeLow_13 rfl (lv_at hl 0 rfl) ?_
    refine lv_iconst (v := 4) hx hb d_Text_takeLow_14 (by decide) ?_
    refine va_put (D := D) (ci := 4) (v := .int 4) (ty := .int) (C := R_Text) (T := T_Text) (N := 5) hx hb hts in_Text ty_Text tyok_Text nm_Text hown hK hP hD hS 0 rfl rfl 2 (by decide) (hts _ cw_38) (fun _ h9 => h9) rfl (by decide +kernel) rfl rfl (Nat.le_of_ble_eq_true rfl) d_Text_takeLow_15 (fun H locs hP hD hS => ?_)
    have hP : va_P D classes ([(h0, .inr (4, [.ref b0, .int len, .int 4, .int ltr, .int p0])), (b0, .inl (kb, 600, .inl bt))]) H := hP
    have hD : va_D A ([(h0, .inr (4, [.ref b0, .int len, .int 4, .int ltr, .int p0])), (b0, .inl (kb, 600, .inl bt))]) := hD
    refine lv_iconst (v := 1) hx hb d_Text_takeLow_18 (by decide) ?_
    have hm : m_tlow due low p0 = (1, 4, p0) := by simp [m_tlow, eq_false c_1]
    rw [hm]
    have hP9 := hP.sub (ws' := [(h0, .inr (4, [.ref b0, .int len, .int 4, .int ltr, .int p0])), (b0, .inl (kb, 600, .inl bt))]) [0, 1] rfl
    have hD9 := hD.sub (ws' := [(h0, .inr (4, [.ref b0, .int len, .int 4, .int ltr, .int p0])), (b0, .inl (kb, 600, .inl bt))]) [0, 1] (by decide) rfl
    have hK9 := hK.sub (tys' := [(kb, .char)]) [0] rfl
    exact W.zret (v := 1) hx hb hr (rfl) (fun t ht hW => ⟨⟨_, (), rfl, rfl, by rw [ht]; exact hP9, va_K.moved hW.alike hK9, hD9⟩, hS.F ht⟩) hS.2.2 d_Text_takeLow_19
  · refine lv_iconst (v := 0) hx hb d_Text_takeLow_6 (by decide) ?_
    have hm : m_tlow due low p0 = (0, due, low) := by simp [m_tlow, eq_true c_1]
    rw [hm]
    have hP9 := hP.sub (ws' := [(h0, .inr (4, [.ref b0, .int len, .int due, .int ltr, .int low])), (b0, .inl (kb, 600, .inl bt))]) [0, 1] rfl
    have hD9 := hD.sub (ws' := [(h0, .inr (4, [.ref b0, .int len, .int due, .int ltr, .int low])), (b0, .inl (kb, 600, .inl bt))]) [0, 1] (by decide) rfl
    have hK9 := hK.sub (tys' := [(kb, .char)]) [0] rfl
    exact W.zret (v := 0) hx hb hr (rfl) (fun t ht hW => ⟨⟨_, (), rfl, rfl, by rw [ht]; exact hP9, va_K.moved hW.alike hK9, hD9⟩, hS.F ht⟩) hS.2.2 d_Text_takeLow_7

set_option maxHeartbeats 4000000 in
set_option maxRecDepth 100000 in
/-- takeHigh -/
theorem c_Text_takeHigh (l : Launch) (D : va_G)  (h0 : Nat) (b0 : Nat) (kb : ClassId) (bt : Nat → Int32) (len : Int32) (due : Int32) (ltr : Int32) (low : Int32) (h1 : Nat) (a0 : Nat) (a1 : Nat) (a2 : Nat) (a3 : Nat) (a4 : Nat) (k0 : ClassId) (k1 : ClassId) (k2 : ClassId) (k3 : ClassId) (k4 : ClassId) (g0 : Nat → Int32) (g1 : Nat → Int32) (g2 : Nat → Int32) (g3 : Nat → Int32) (g4 : Nat → Int32) (sn : Int32) (cl : Int32) (p0 : Int32) (sz : Nat)  : Met l y_Text_takeHigh ws_Text_takeHigh ({ frames := 1, cells := 0, slots := 0, locals := 23 }) (va_Pc [.ref h0, .ref h1, .int p0] (cx_pre D [(kb, .char), (k0, .int), (k1, .int), (k2, .char), (k3, .int), (k4, .int)] ([(h0, .inr (4, [.ref b0, .int len, .int due, .int ltr, .int low])), (b0, .inl (kb, 600, .inl bt)), (h1, .inr (3, [.ref a0, .ref a1, .int sn, .ref a2, .ref a3, .ref a4, .int cl])), (a0, .inl (k0, 20, .inl g0)), (a1, .inl (k1, 20, .inl g1)), (a2, .inl (k2, 100, .inl g2)), (a3, .inl (k3, 100, .inl g3)), (a4, .inl (k4, 100, .inl g4))]) sz)) (va_Qi (fun r9 _ => r9 = (m_th due ltr low g1 g2 g3 g4 sn cl p0).1) (fun (_ : Unit) t => cx_end D [(kb, .char), (k0, .int), (k1, .int), (k2, .char), (k3, .int), (k4, .int)] (va_A ([(h0, .inr (4, [.ref b0, .int len, .int due, .int ltr, .int low])), (b0, .inl (kb, 600, .inl bt)), (h1, .inr (3, [.ref a0, .ref a1, .int sn, .ref a2, .ref a3, .ref a4, .int cl])), (a0, .inl (k0, 20, .inl g0)), (a1, .inl (k1, 20, .inl g1)), (a2, .inl (k2, 100, .inl g2)), (a3, .inl (k3, 100, .inl g3)), (a4, .inl (k4, 100, .inl g4))]) sz) ([(h0, .inr (4, [.ref b0, .int len, .int ((m_th due ltr low g1 g2 g3 g4 sn cl p0).2.1), .int ltr, .int low])), (b0, .inl (kb, 600, .inl bt)), (h1, .inr (3, [.ref a0, .ref a1, .int sn, .ref a2, .ref a3, .ref a4, .int ((m_th due ltr low g1 g2 g3 g4 sn cl p0).2.2.2.2.2.2)])), (a0, .inl (k0, 20, .inl g0)), (a1, .inl (k1, 20, .inl ((m_th due ltr low g1 g2 g3 g4 sn cl p0).2.2.1))), (a2, .inl (k2, 100, .inl ((m_th due ltr low g1 g2 g3 g4 sn cl p0).2.2.2.1))), (a3, .inl (k3, 100, .inl ((m_th due ltr low g1 g2 g3 g4 sn cl p0).2.2.2.2.1))), (a4, .inl (k4, 100, .inl ((m_th due ltr low g1 g2 g3 g4 sn cl p0).2.2.2.2.2.1)))]) t) (va_A ([(h0, .inr (4, [.ref b0, .int len, .int due, .int ltr, .int low])), (b0, .inl (kb, 600, .inl bt)), (h1, .inr (3, [.ref a0, .ref a1, .int sn, .ref a2, .ref a3, .ref a4, .int cl])), (a0, .inl (k0, 20, .inl g0)), (a1, .inl (k1, 20, .inl g1)), (a2, .inl (k2, 100, .inl g2)), (a3, .inl (k3, 100, .inl g3)), (a4, .inl (k4, 100, .inl g4))]) sz)) 0 0 (va_A ([(h0, .inr (4, [.ref b0, .int len, .int due, .int ltr, .int low])), (b0, .inl (kb, 600, .inl bt)), (h1, .inr (3, [.ref a0, .ref a1, .int sn, .ref a2, .ref a3, .ref a4, .int cl])), (a0, .inl (k0, 20, .inl g0)), (a1, .inl (k1, 20, .inl g1)), (a2, .inl (k2, 100, .inl g2)), (a3, .inl (k3, 100, .inl g3)), (a4, .inl (k4, 100, .inl g4))]) sz) := by
  refine Met.ofW (cc := b_Text_takeHigh) (maxL := 3) (ret := (some .boolean)) (by decide) rfl ?_
  intro p e s m args below meth c s₁ B hml hv
  obtain ⟨rfl, hsz, hP, hK, hD0, hN, hO⟩ := hv
  have hx := B.exec
  have hb := B.bytes
  have hr := B.returns
  have hts := fun (w : Cond) (h : w ∈ cx_tbl) => atoms_spec (ws := ws_Text_takeHigh) B.pre w (List.mem_cons_of_mem _ h)
  have hown : s.vm.findClass R_Text = some m.cls := findClass_of_methodNamed B.named
  have hlocks := B.notSynchronized
  subst hsz
  have hD := hD0.self (sz := s.heap.size)
  generalize hAe : va_A ([(h0, .inr (4, [.ref b0, .int len, .int due, .int ltr, .int low])), (b0, .inl (kb, 600, .inl bt)), (h1, .inr (3, [.ref a0, .ref a1, .int sn, .ref a2, .ref a3, .ref a4, .int cl])), (a0, .inl (k0, 20, .inl g0)), (a1, .inl (k1, 20, .inl g1)), (a2, .inl (k2, 100, .inl g2)), (a3, .inl (k3, 100, .inl g3)), (a4, .inl (k4, 100, .inl g4))]) s.heap.size = A at hD hO ⊢
  have hA : ∀ q : Nat, s.heap.size ≤ q → A q := fun q h => by rw [← hAe]; exact Or.inr h
  have hS : va_S A s.heap s.heap [] := va_S.rf
  have hl := lv_entry ([.ref h0, .ref h1, .int p0]) (n := 3) (Nat.le_of_ble_eq_true rfl)
  rw [lg_entry_eq]
  generalize (lg_sl ([.ref h0, .ref h1, .int p0]) ++ List.replicate (3 - (lg_sl ([.ref h0, .ref h1, .int p0])).length) Slot.unset).toArray = ls at hl ⊢
  have hl : lv_has ls 3 [(0, .ref h0), (1, .ref h1), (2, .int p0)] := hl
  refine lv_iload_n hx hb d_Text_takeHigh_0 rfl (lv_at hl 2 rfl) ?_
  refine lv_aload_n hx hb d_Text_takeHigh_1 rfl (lv_at hl 0 rfl) ?_
  refine va_get (D := D) (ci := 4) (v := .int low) (C := R_Text) (T := T_Text) (N := 5) hx hb hts in_Text hown hK hP 0 rfl rfl 4 (by decide) (hts _ cw_40) (fun _ h9 => h9) rfl d_Text_takeHigh_2 ?_
  refine lv_icmp_lt (tgt := 24) hx hb d_Text_takeHigh_5 (by decide) (fun c_1 => ?_) (fun c_1 => ?_)
  · refine lv_iconst (v := 0) hx hb d_Text_takeHigh_24 (by decide) ?_
    have hm : m_th due ltr low g1 g2 g3 g4 sn cl p0 = (0, due, g1, g2, g3, g4, cl) := by simp [m_th, eq_true c_1]
    rw [hm]
    have hP9 := hP.sub (ws' := [(h0, .inr (4, [.ref b0, .int len, .int due, .int ltr, .int low])), (b0, .inl (kb, 600, .inl bt)), (h1, .inr (3, [.ref a0, .ref a1, .int sn, .ref a2, .ref a3, .ref a4, .int cl])), (a0, .inl (k0, 20, .inl g0)), (a1, .inl (k1, 20, .inl g1)), (a2, .inl (k2, 100, .inl g2)), (a3, .inl (k3, 100, .inl g3)), (a4, .inl (k4, 100, .inl g4))]) [0, 1, 2, 3, 4, 5, 6, 7] rfl
    have hD9 := hD.sub (ws' := [(h0, .inr (4, [.ref b0, .int len, .int due, .int ltr, .int low])), (b0, .inl (kb, 600, .inl bt)), (h1, .inr (3, [.ref a0, .ref a1, .int sn, .ref a2, .ref a3, .ref a4, .int cl])), (a0, .inl (k0, 20, .inl g0)), (a1, .inl (k1, 20, .inl g1)), (a2, .inl (k2, 100, .inl g2)), (a3, .inl (k3, 100, .inl g3)), (a4, .inl (k4, 100, .inl g4))]) [0, 1, 2, 3, 4, 5, 6, 7] (by decide) rfl
    have hK9 := hK.sub (tys' := [(kb, .char), (k0, .int), (k1, .int), (k2, .char), (k3, .int), (k4, .int)]) [0, 1, 2, 3, 4, 5] rfl
    exact W.zret (v := 0) hx hb hr (rfl) (fun t ht hW => ⟨⟨_, (), rfl, rfl, by rw [ht]; exact hP9, va_K.moved hW.alike hK9, hD9⟩, hS.F ht⟩) hS.2.2 d_Text_takeHigh_25
  · refine lv_aload_n hx hb d_Text_takeHigh_8 rfl (lv_at hl 1 rfl) ?_
    refine lv_aload_n hx hb d_Text_takeHigh_9 rfl (lv_at hl 0 rfl) ?_
    refine va_get (D := D) (ci := 4) (v := .int ltr) (C := R_Text) (T := T_Text) (N := 5) hx hb hts in_Text hown hK hP 0 rfl rfl 3 (by decide) (hts _ cw_39) (fun _ h9 => h9) rfl d_Text_takeHigh_10 ?_
    refine lv_aload_n hx hb d_Text_takeHigh_13 rfl (lv_at hl 0 rfl) ?_
    refine va_get (D := D) (ci := 4) (v := .int low) (C := R_Text) (T := T_Text) (N := 5) hx hb hts in_Text hown hK hP 0 rfl rfl 4 (by decide) (hts _ cw_40) (fun _ h9 => h9) rfl d_Text_takeHigh_14 ?_
    refine lv_iload_n hx hb d_Text_takeHigh_17 rfl (lv_at hl 2 rfl) ?_
    have hPc := hP.sub (ws' := [(h1, .inr (3, [.ref a0, .ref a1, .int sn, .ref a2, .ref a3, .ref a4, .int cl])), (a0, .inl (k0, 20, .inl g0)), (a1, .inl (k1, 20, .inl g1)), (a2, .inl (k2, 100, .inl g2)), (a3, .inl (k3, 100, .inl g3)), (a4, .inl (k4, 100, .inl g4))]) [2, 3, 4, 5, 6, 7] rfl
    have hDc := hD.sub (ws' := [(h1, .inr (3, [.ref a0, .ref a1, .int sn, .ref a2, .ref a3, .ref a4, .int cl])), (a0, .inl (k0, 20, .inl g0)), (a1, .inl (k1, 20, .inl g1)), (a2, .inl (k2, 100, .inl g2)), (a3, .inl (k3, 100, .inl g3)), (a4, .inl (k4, 100, .inl g4))]) [2, 3, 4, 5, 6, 7] (by decide) rfl
    have hKc := hK.sub (tys' := [(k0, .int), (k1, .int), (k2, .char), (k3, .int), (k4, .int)]) [1, 2, 3, 4, 5] rfl
    have hFc := va_free (wc := [(h1, .inr (3, [.ref a0, .ref a1, .int sn, .ref a2, .ref a3, .ref a4, .int cl])), (a0, .inl (k0, 20, .inl g0)), (a1, .inl (k1, 20, .inl g1)), (a2, .inl (k2, 100, .inl g2)), (a3, .inl (k3, 100, .inl g3)), (a4, .inl (k4, 100, .inl g4))]) hD hS hA [2, 3, 4, 5, 6, 7] rfl
    refine cx_joini (wc := [(h1, .inr (3, [.ref a0, .ref a1, .int sn, .ref a2, .ref a3, .ref a4, .int cl])), (a0, .inl (k0, 20, .inl g0)), (a1, .inl (k1, 20, .inl g1)), (a2, .inl (k2, 100, .inl g2)), (a3, .inl (k3, 100, .inl g3)), (a4, .inl (k4, 100, .inl g4))]) (wr := [(h0, .inr (4, [.ref b0, .int len, .int due, .int ltr, .int low])), (b0, .inl (kb, 600, .inl bt))]) hP hD hS hA [2, 3, 4, 5, 6, 7] [0, 1] rfl rfl (by decide) (by decide) (va_runV (As := [.int ltr, .int low, .int p0]) (rest := [])  ⟨hx, hb, hml, hown, hts⟩ (c_Set_addClause l D h1 a0 a1 a2 a3 a4 k0 k1 k2 k3 k4 g0 g1 g2 g3 g4 sn cl ltr low p0 s.heap.size ) ⟨callB_of 3 hts cg_Set_addClause rfl rfl rfl (hts _ cw_3) (hts _ cw_461) (by decide +kernel) ⟨Nat.le_of_ble_eq_true rfl, Nat.le_of_ble_eq_true rfl⟩, hts _ cw_462, hts _ cw_463⟩ (cx_preV (C := R_Set) [.int ltr, .int low, .int p0] hPc hKc hDc hN hO hS hFc (ci := 3) (q0 := 0) rfl rfl rfl) rfl rfl hl.1 rfl (lv_room (Nat.le_of_ble_eq_true rfl)) d_Text_takeHigh_18 ⟨Nat.le_of_ble_eq_true rfl, Nat.le_of_ble_eq_true rfl⟩) (fun r _ H locs z_2 hK1 hP hD hS => ?_)
    subst z_2
    have hP : va_P D classes ([(h0, .inr (4, [.ref b0, .int len, .int due, .int ltr, .int low])), (b0, .inl (kb, 600, .inl bt)), (h1, .inr (3, [.ref a0, .ref a1, .int sn, .ref a2, .ref a3, .ref a4, .int ((m_addClause g1 g2 g3 g4 sn cl ltr low p0).2.2.2.2.2)])), (a0, .inl (k0, 20, .inl g0)), (a1, .inl (k1, 20, .inl ((m_addClause g1 g2 g3 g4 sn cl ltr low p0).2.1))), (a2, .inl (k2, 100, .inl ((m_addClause g1 g2 g3 g4 sn cl ltr low p0).2.2.1))), (a3, .inl (k3, 100, .inl ((m_addClause g1 g2 g3 g4 sn cl ltr low p0).2.2.2.1))), (a4, .inl (k4, 100, .inl ((m_addClause g1 g2 g3 g4 sn cl ltr low p0).2.2.2.2.1)))]) H := hP
    have hD : va_D A ([(h0, .inr (4, [.ref b0, .int len, .int due, .int ltr, .int low])), (b0, .inl (kb, 600, .inl bt)), (h1, .inr (3, [.ref a0, .ref a1, .int sn, .ref a2, .ref a3, .ref a4, .int ((m_addClause g1 g2 g3 g4 sn cl ltr low p0).2.2.2.2.2)])), (a0, .inl (k0, 20, .inl g0)), (a1, .inl (k1, 20, .inl ((m_addClause g1 g2 g3 g4 sn cl ltr low p0).2.1))), (a2, .inl (k2, 100, .inl ((m_addClause g1 g2 g3 g4 sn cl ltr low p0).2.2.1))), (a3, .inl (k3, 100, .inl ((m_addClause g1 g2 g3 g4 sn cl ltr low p0).2.2.2.1))), (a4, .inl (k4, 100, .inl ((m_addClause g1 g2 g3 g4 sn cl ltr low p0).2.2.2.2.1)))]) := hD
    refine lv_if_ne (tgt := 26) hx hb d_Text_takeHigh_21 (by decide) (fun c_3 => ?_) (fun c_3 => ?_)
    · refine lv_aload_n hx hb d_Text_takeHigh_26 rfl (lv_at hl 0 rfl) ?_
      refine lv_iconst (v := 2) hx hb d_Text_takeHigh_27 (by decide) ?_
      refine va_put (D := D) (ci := 4) (v := .int 2) (ty := .int) (C := R_Text) (T := T_Text) (N := 5) hx hb hts in_Text ty_Text tyok_Text nm_Text hown hK hP hD hS 0 rfl rfl 2 (by decide) (hts _ cw_38) (fun _ h9 => h9) rfl (by decide +kernel) rfl rfl (Nat.le_of_ble_eq_true rfl) d_Text_takeHigh_28 (fun H locs hP hD hS => ?_)
      have hP : va_P D classes ([(h0, .inr (4, [.ref b0, .int len, .int 2, .int ltr, .int low])), (b0, .inl (kb, 600, .inl bt)), (h1, .inr (3, [.ref a0, .ref a1, .int sn, .ref a2, .ref a3, .ref a4, .int ((m_addClause g1 g2 g3 g4 sn cl ltr low p0).2.2.2.2.2)])), (a0, .inl (k0, 20, .inl g0)), (a1, .inl (k1, 20, .inl ((m_addClause g1 g2 g3 g4 sn cl ltr low p0).2.1))), (a2, .inl (k2, 100, .inl ((m_addClause g1 g2 g3 g4 sn cl ltr low p0).2.2.1))), (a3, .inl (k3, 100, .inl ((m_addClause g1 g2 g3 g4 sn cl ltr low p0).2.2.2.1))), (a4, .inl (k4, 100, .inl ((m_addClause g1 g2 g3 g4 sn cl ltr low p0).2.2.2.2.1)))]) H := hP
      have hD : va_D A ([(h0, .inr (4, [.ref b0, .int len, .int 2, .int ltr, .int low])), (b0, .inl (kb, 600, .inl bt)), (h1, .inr (3, [.ref a0, .ref a1, .int sn, .ref a2, .ref a3, .ref a4, .int ((m_addClause g1 g2 g3 g4 sn cl ltr low p0).2.2.2.2.2)])), (a0, .inl (k0, 20, .inl g0)), (a1, .inl (k1, 20, .inl ((m_addClause g1 g2 g3 g4 sn cl ltr low p0).2.1))), (a2, .inl (k2, 100, .inl ((m_addClause g1 g2 g3 g4 sn cl ltr low p0).2.2.1))), (a3, .inl (k3, 100, .inl ((m_addClause g1 g2 g3 g4 sn cl ltr low p0).2.2.2.1))), (a4, .inl (k4, 100, .inl ((m_addClause g1 g2 g3 g4 sn cl ltr low p0).2.2.2.2.1)))]) := hD
      refine lv_iconst (v := 1) hx hb d_Text_takeHigh_31 (by decide) ?_
      have hm : m_th due ltr low g1 g2 g3 g4 sn cl p0 = (1, 2, (m_addClause g1 g2 g3 g4 sn cl ltr low p0).2.1, (m_addClause g1 g2 g3 g4 sn cl ltr low p0).2.2.1, (m_addClause g1 g2 g3 g4 sn cl ltr low p0).2.2.2.1, (m_addClause g1 g2 g3 g4 sn cl ltr low p0).2.2.2.2.1, (m_addClause g1 g2 g3 g4 sn cl ltr low p0).2.2.2.2.2) := by simp [m_th, eq_false c_1, eq_false c_3]
      rw [hm]
      have hP9 := hP.sub (ws' := [(h0, .inr (4, [.ref b0, .int len, .int 2, .int ltr, .int low])), (b0, .inl (kb, 600, .inl bt)), (h1, .inr (3, [.ref a0, .ref a1, .int sn, .ref a2, .ref a3, .ref a4, .int ((m_addClause g1 g2 g3 g4 sn cl ltr low p0).2.2.2.2.2)])), (a0, .inl (k0, 20, .inl g0)), (a1, .inl (k1, 20, .inl ((m_addClause g1 g2 g3 g4 sn cl ltr low p0).2.1))), (a2, .inl (k2, 100, .inl ((m_addClause g1 g2 g3 g4 sn cl ltr low p0).2.2.1))), (a3, .inl (k3, 100, .inl ((m_addClause g1 g2 g3 g4 sn cl ltr low p0).2.2.2.1))), (a4, .inl (k4, 100, .inl ((m_addClause g1 g2 g3 g4 sn cl ltr low p0).2.2.2.2.1)))]) [0, 1, 2, 3, 4, 5, 6, 7] rfl
      have hD9 := hD.sub (ws' := [(h0, .inr (4, [.ref b0, .int len, .int 2, .int ltr, .int low])), (b0, .inl (kb, 600, .inl bt)), (h1, .inr (3, [.ref a0, .ref a1, .int sn, .ref a2, .ref a3, .ref a4, .int ((m_addClause g1 g2 g3 g4 sn cl ltr low p0).2.2.2.2.2)])), (a0, .inl (k0, 20, .inl g0)), (a1, .inl (k1, 20, .inl ((m_addClause g1 g2 g3 g4 sn cl ltr low p0).2.1))), (a2, .inl (k2, 100, .inl ((m_addClause g1 g2 g3 g4 sn cl ltr low p0).2.2.1))), (a3, .inl (k3, 100, .inl ((m_addClause g1 g2 g3 g4 sn cl ltr low p0).2.2.2.1))), (a4, .inl (k4, 100, .inl ((m_addClause g1 g2 g3 g4 sn cl ltr low p0).2.2.2.2.1)))]) [0, 1, 2, 3, 4, 5, 6, 7] (by decide) rfl
      have hK9 := hK.sub (tys' := [(kb, .char), (k0, .int), (k1, .int), (k2, .char), (k3, .int), (k4, .int)]) [0, 1, 2, 3, 4, 5] rfl
      exact W.zret (v := 1) hx hb hr (rfl) (fun t ht hW => ⟨⟨_, (), rfl, rfl, by rw [ht]; exact hP9, va_K.moved hW.alike hK9, hD9⟩, hS.F ht⟩) hS.2.2 d_Text_takeHigh_32
    · refine lv_iconst (v := 0) hx hb d_Text_takeHigh_24 (by decide) ?_
      have hm : m_th due ltr low g1 g2 g3 g4 sn cl p0 = (0, due, (m_addClause g1 g2 g3 g4 sn cl ltr low p0).2.1, (m_addClause g1 g2 g3 g4 sn cl ltr low p0).2.2.1, (m_addClause g1 g2 g3 g4 sn cl ltr low p0).2.2.2.1, (m_addClause g1 g2 g3 g4 sn cl ltr low p0).2.2.2.2.1, (m_addClause g1 g2 g3 g4 sn cl ltr low p0).2.2.2.2.2) := by simp [m_th, eq_false c_1, eq_true c_3]
      rw [hm]
      have hP9 := hP.sub (ws' := [(h0, .inr (4, [.ref b0, .int len, .int due, .int ltr, .int low])), (b0, .inl (kb, 600, .inl bt)), (h1, .inr (3, [.ref a0, .ref a1, .int sn, .ref a2, .ref a3, .ref a4, .int ((m_addClause g1 g2 g3 g4 sn cl ltr low p0).2.2.2.2.2)])), (a0, .inl (k0, 20, .inl g0)), (a1, .inl (k1, 20, .inl ((m_addClause g1 g2 g3 g4 sn cl ltr low p0).2.1))), (a2, .inl (k2, 100, .inl ((m_addClause g1 g2 g3 g4 sn cl ltr low p0).2.2.1))), (a3, .inl (k3, 100, .inl ((m_addClause g1 g2 g3 g4 sn cl ltr low p0).2.2.2.1))), (a4, .inl (k4, 100, .inl ((m_addClause g1 g2 g3 g4 sn cl ltr low p0).2.2.2.2.1)))]) [0, 1, 2, 3, 4, 5, 6, 7] rfl
      have hD9 := hD.sub (ws' := [(h0, .inr (4, [.ref b0, .int len, .int due, .int ltr, .int low])), (b0, .inl (kb, 600, .inl bt)), (h1, .inr (3, [.ref a0, .ref a1, .int sn, .ref a2, .ref a3, .ref a4, .int ((m_addClause g1 g2 g3 g4 sn cl ltr low p0).2.2.2.2.2)])), (a0, .inl (k0, 20, .inl g0)), (a1, .inl (k1, 20, .inl ((m_addClause g1 g2 g3 g4 sn cl ltr low p0).2.1))), (a2, .inl (k2, 100, .inl ((m_addClause g1 g2 g3 g4 sn cl ltr low p0).2.2.1))), (a3, .inl (k3, 100, .inl ((m_addClause g1 g2 g3 g4 sn cl ltr low p0).2.2.2.1))), (a4, .inl (k4, 100, .inl ((m_addClause g1 g2 g3 g4 sn cl ltr low p0).2.2.2.2.1)))]) [0, 1, 2, 3, 4, 5, 6, 7] (by decide) rfl
      have hK9 := hK.sub (tys' := [(kb, .char), (k0, .int), (k1, .int), (k2, .char), (k3, .int), (k4, .int)]) [0, 1, 2, 3, 4, 5] rfl
      exact W.zret (v := 0) hx hb hr (rfl) (fun t ht hW => ⟨⟨_, (), rfl, rfl, by rw [ht]; exact hP9, va_K.moved hW.alike hK9, hD9⟩, hS.F ht⟩) hS.2.2 d_Text_takeHigh_25

set_option maxHeartbeats 4000000 in
set_option maxRecDepth 100000 in
/-- takeWord -/
theorem c_Text_takeWord (l : Launch) (D : va_G)  (h0 : Nat) (b0 : Nat) (kb : ClassId) (bt : Nat → Int32) (len : Int32) (due : Int32) (ltr : Int32) (low : Int32) (h1 : Nat) (a0 : Nat) (a1 : Nat) (a2 : Nat) (a3 : Nat) (a4 : Nat) (k0 : ClassId) (k1 : ClassId) (k2 : ClassId) (k3 : ClassId) (k4 : ClassId) (g0 : Nat → Int32) (g1 : Nat → Int32) (g2 : Nat → Int32) (g3 : Nat → Int32) (g4 : Nat → Int32) (sn : Int32) (cl : Int32) (p0 : Int32) (p1 : Int32) (sz : Nat) (hs : p0 < 600) : Met l y_Text_takeWord ws_Text_takeWord ({ frames := 6, cells := 0, slots := 0, locals := 131 }) (va_Pc [.ref h0, .ref h1, .int p0, .int p1] (cx_pre D [(kb, .char), (k0, .int), (k1, .int), (k2, .char), (k3, .int), (k4, .int)] ([(h0, .inr (4, [.ref b0, .int len, .int due, .int ltr, .int low])), (b0, .inl (kb, 600, .inl bt)), (h1, .inr (3, [.ref a0, .ref a1, .int sn, .ref a2, .ref a3, .ref a4, .int cl])), (a0, .inl (k0, 20, .inl g0)), (a1, .inl (k1, 20, .inl g1)), (a2, .inl (k2, 100, .inl g2)), (a3, .inl (k3, 100, .inl g3)), (a4, .inl (k4, 100, .inl g4))]) sz)) (va_Qi (fun r9 _ => r9 = (m_tw bt due ltr low g0 g1 g2 g3 g4 sn cl p0 p1).1) (fun (_ : Unit) t => cx_end D [(kb, .char), (k0, .int), (k1, .int), (k2, .char), (k3, .int), (k4, .int)] (va_A ([(h0, .inr (4, [.ref b0, .int len, .int due, .int ltr, .int low])), (b0, .inl (kb, 600, .inl bt)), (h1, .inr (3, [.ref a0, .ref a1, .int sn, .ref a2, .ref a3, .ref a4, .int cl])), (a0, .inl (k0, 20, .inl g0)), (a1, .inl (k1, 20, .inl g1)), (a2, .inl (k2, 100, .inl g2)), (a3, .inl (k3, 100, .inl g3)), (a4, .inl (k4, 100, .inl g4))]) sz) ([(h0, .inr (4, [.ref b0, .int len, .int ((m_tw bt due ltr low g0 g1 g2 g3 g4 sn cl p0 p1).2.1), .int ((m_tw bt due ltr low g0 g1 g2 g3 g4 sn cl p0 p1).2.2.1), .int ((m_tw bt due ltr low g0 g1 g2 g3 g4 sn cl p0 p1).2.2.2.1)])), (b0, .inl (kb, 600, .inl bt)), (h1, .inr (3, [.ref a0, .ref a1, .int ((m_tw bt due ltr low g0 g1 g2 g3 g4 sn cl p0 p1).2.2.2.2.2.2.2.2.2.1), .ref a2, .ref a3, .ref a4, .int ((m_tw bt due ltr low g0 g1 g2 g3 g4 sn cl p0 p1).2.2.2.2.2.2.2.2.2.2)])), (a0, .inl (k0, 20, .inl ((m_tw bt due ltr low g0 g1 g2 g3 g4 sn cl p0 p1).2.2.2.2.1))), (a1, .inl (k1, 20, .inl ((m_tw bt due ltr low g0 g1 g2 g3 g4 sn cl p0 p1).2.2.2.2.2.1))), (a2, .inl (k2, 100, .inl ((m_tw bt due ltr low g0 g1 g2 g3 g4 sn cl p0 p1).2.2.2.2.2.2.1))), (a3, .inl (k3, 100, .inl ((m_tw bt due ltr low g0 g1 g2 g3 g4 sn cl p0 p1).2.2.2.2.2.2.2.1))), (a4, .inl (k4, 100, .inl ((m_tw bt due ltr low g0 g1 g2 g3 g4 sn cl p0 p1).2.2.2.2.2.2.2.2.1)))]) t) (va_A ([(h0, .inr (4, [.ref b0, .int len, .int due, .int ltr, .int low])), (b0, .inl (kb, 600, .inl bt)), (h1, .inr (3, [.ref a0, .ref a1, .int sn, .ref a2, .ref a3, .ref a4, .int cl])), (a0, .inl (k0, 20, .inl g0)), (a1, .inl (k1, 20, .inl g1)), (a2, .inl (k2, 100, .inl g2)), (a3, .inl (k3, 100, .inl g3)), (a4, .inl (k4, 100, .inl g4))]) sz)) 0 0 (va_A ([(h0, .inr (4, [.ref b0, .int len, .int due, .int ltr, .int low])), (b0, .inl (kb, 600, .inl bt)), (h1, .inr (3, [.ref a0, .ref a1, .int sn, .ref a2, .ref a3, .ref a4, .int cl])), (a0, .inl (k0, 20, .inl g0)), (a1, .inl (k1, 20, .inl g1)), (a2, .inl (k2, 100, .inl g2)), (a3, .inl (k3, 100, .inl g3)), (a4, .inl (k4, 100, .inl g4))]) sz) := by
  refine Met.ofW (cc := b_Text_takeWord) (maxL := 4) (ret := (some .boolean)) (by decide) rfl ?_
  intro p e s m args below meth c s₁ B hml hv
  obtain ⟨rfl, hsz, hP, hK, hD0, hN, hO⟩ := hv
  have hx := B.exec
  have hb := B.bytes
  have hr := B.returns
  have hts := fun (w : Cond) (h : w ∈ cx_tbl) => atoms_spec (ws := ws_Text_takeWord) B.pre w (List.mem_cons_of_mem _ h)
  have hown : s.vm.findClass R_Text = some m.cls := findClass_of_methodNamed B.named
  have hlocks := B.notSynchronized
  subst hsz
  have hD := hD0.self (sz := s.heap.size)
  generalize hAe : va_A ([(h0, .inr (4, [.ref b0, .int len, .int due, .int ltr, .int low])), (b0, .inl (kb, 600, .inl bt)), (h1, .inr (3, [.ref a0, .ref a1, .int sn, .ref a2, .ref a3, .ref a4, .int cl])), (a0, .inl (k0, 20, .inl g0)), (a1, .inl (k1, 20, .inl g1)), (a2, .inl (k2, 100, .inl g2)), (a3, .inl (k3, 100, .inl g3)), (a4, .inl (k4, 100, .inl g4))]) s.heap.size = A at hD hO ⊢
  have hA : ∀ q : Nat, s.heap.size ≤ q → A q := fun q h => by rw [← hAe]; exact Or.inr h
  have hS : va_S A s.heap s.heap [] := va_S.rf
  have hl := lv_entry ([.ref h0, .ref h1, .int p0, .int p1]) (n := 4) (Nat.le_of_ble_eq_true rfl)
  rw [lg_entry_eq]
  generalize (lg_sl ([.ref h0, .ref h1, .int p0, .int p1]) ++ List.replicate (4 - (lg_sl ([.ref h0, .ref h1, .int p0, .int p1])).length) Slot.unset).toArray = ls at hl ⊢
  have hl : lv_has ls 4 [(0, .ref h0), (1, .ref h1), (2, .int p0), (3, .int p1)] := hl
  refine lv_aload_n hx hb d_Text_takeWord_0 rfl (lv_at hl 0 rfl) ?_
  refine va_get (D := D) (ci := 4) (v := .int due) (C := R_Text) (T := T_Text) (N := 5) hx hb hts in_Text hown hK hP 0 rfl rfl 2 (by decide) (hts _ cw_38) (fun _ h9 => h9) rfl d_Text_takeWord_1 ?_
  by_cases e_1 : due = 0
  · refine lv_tableIn (off := 32) (tgt := 36) hx hb d_Text_takeWord_4 (by rw [e_1]; decide) (by rw [e_1]; decide) (by rw [e_1]; rfl) (by decide) ?_
    refine lv_aload_n hx hb d_Text_takeWord_36 rfl (lv_at hl 0 rfl) ?_
    refine lv_aload_n hx hb d_Text_takeWord_37 rfl (lv_at hl 1 rfl) ?_
    refine lv_iload_n hx hb d_Text_takeWord_38 rfl (lv_at hl 2 rfl) ?_
    refine lv_iload_n hx hb d_Text_takeWord_39 rfl (lv_at hl 3 rfl) ?_
    have hPc := hP.sub (ws' := [(h0, .inr (4, [.ref b0, .int len, .int due, .int ltr, .int low])), (b0, .inl (kb, 600, .inl bt)), (h1, .inr (3, [.ref a0, .ref a1, .int sn, .ref a2, .ref a3, .ref a4, .int cl])), (a0, .inl (k0, 20, .inl g0)), (a1, .inl (k1, 20, .inl g1)), (a2, .inl (k2, 100, .inl g2)), (a3, .inl (k3, 100, .inl g3)), (a4, .inl (k4, 100, .inl g4))]) [0, 1, 2, 3, 4, 5, 6, 7] rfl
    have hDc := hD.sub (ws' := [(h0, .inr (4, [.ref b0, .int len, .int due, .int ltr, .int low])), (b0, .inl (kb, 600, .inl bt)), (h1, .inr (3, [.ref a0, .ref a1, .int sn, .ref a2, .ref a3, .ref a4, .int cl])), (a0, .inl (k0, 20, .inl g0)), (a1, .inl (k1, 20, .inl g1)), (a2, .inl (k2, 100, .inl g2)), (a3, .inl (k3, 100, .inl g3)), (a4, .inl (k4, 100, .inl g4))]) [0, 1, 2, 3, 4, 5, 6, 7] (by decide) rfl
    have hKc := hK.sub (tys' := [(kb, .char), (k0, .int), (k1, .int), (k2, .char), (k3, .int), (k4, .int)]) [0, 1, 2, 3, 4, 5] rfl
    have hFc := va_free (wc := [(h0, .inr (4, [.ref b0, .int len, .int due, .int ltr, .int low])), (b0, .inl (kb, 600, .inl bt)), (h1, .inr (3, [.ref a0, .ref a1, .int sn, .ref a2, .ref a3, .ref a4, .int cl])), (a0, .inl (k0, 20, .inl g0)), (a1, .inl (k1, 20, .inl g1)), (a2, .inl (k2, 100, .inl g2)), (a3, .inl (k3, 100, .inl g3)), (a4, .inl (k4, 100, .inl g4))]) hD hS hA [0, 1, 2, 3, 4, 5, 6, 7] rfl
    refine cx_joini (wc := [(h0, .inr (4, [.ref b0, .int len, .int due, .int ltr, .int low])), (b0, .inl (kb, 600, .inl bt)), (h1, .inr (3, [.ref a0, .ref a1, .int sn, .ref a2, .ref a3, .ref a4, .int cl])), (a0, .inl (k0, 20, .inl g0)), (a1, .inl (k1, 20, .inl g1)), (a2, .inl (k2, 100, .inl g2)), (a3, .inl (k3, 100, .inl g3)), (a4, .inl (k4, 100, .inl g4))]) (wr := []) hP hD hS hA [0, 1, 2, 3, 4, 5, 6, 7] [] rfl rfl (by decide) (by decide) (va_runV (As := [.ref h1, .int p0, .int p1]) (rest := [])  ⟨hx, hb, hml, hown, hts⟩ (c_Text_takeClassWord l D h0 b0 kb bt len due ltr low h1 a0 a1 a2 a3 a4 k0 k1 k2 k3 k4 g0 g1 g2 g3 g4 sn cl p0 p1 s.heap.size (hs)) ⟨callB_of 3 hts cg_Text_takeClassWord rfl rfl rfl (hts _ cw_2) (hts _ cw_371) (by decide +kernel) ⟨Nat.le_of_ble_eq_true rfl, Nat.le_of_ble_eq_true rfl⟩, hts _ cw_373, hts _ cs_3⟩ (cx_preV (C := R_Text) [.ref h1, .int p0, .int p1] hPc hKc hDc hN hO hS hFc (ci := 4) (q0 := 0) rfl rfl rfl) rfl rfl hl.1 rfl (lv_room (Nat.le_of_ble_eq_true rfl)) d_Text_takeWord_40 ⟨Nat.le_of_ble_eq_true rfl, Nat.le_of_ble_eq_true rfl⟩) (fun r _ H locs z_2 hK1 hP hD hS => ?_)
    subst z_2
    have hP : va_P D classes ([(h0, .inr (4, [.ref b0, .int len, .int ((m_tcw bt due sn p0 p1).2), .int ltr, .int low])), (b0, .inl (kb, 600, .inl bt)), (h1, .inr (3, [.ref a0, .ref a1, .int sn, .ref a2, .ref a3, .ref a4, .int cl])), (a0, .inl (k0, 20, .inl g0)), (a1, .inl (k1, 20, .inl g1)), (a2, .inl (k2, 100, .inl g2)), (a3, .inl (k3, 100, .inl g3)), (a4, .inl (k4, 100, .inl g4))]) H := hP
    have hD : va_D A ([(h0, .inr (4, [.ref b0, .int len, .int ((m_tcw bt due sn p0 p1).2), .int ltr, .int low])), (b0, .inl (kb, 600, .inl bt)), (h1, .inr (3, [.ref a0, .ref a1, .int sn, .ref a2, .ref a3, .ref a4, .int cl])), (a0, .inl (k0, 20, .inl g0)), (a1, .inl (k1, 20, .inl g1)), (a2, .inl (k2, 100, .inl g2)), (a3, .inl (k3, 100, .inl g3)), (a4, .inl (k4, 100, .inl g4))]) := hD
    have hm : m_tw bt due ltr low g0 g1 g2 g3 g4 sn cl p0 p1 = ((m_tcw bt due sn p0 p1).1, (m_tcw bt due sn p0 p1).2, ltr, low, g0, g1, g2, g3, g4, sn, cl) := by simp [m_tw, eq_true e_1]
    rw [hm]
    have hP9 := hP.sub (ws' := [(h0, .inr (4, [.ref b0, .int len, .int ((m_tcw bt due sn p0 p1).2), .int ltr, .int low])), (b0, .inl (kb, 600, .inl bt)), (h1, .inr (3, [.ref a0, .ref a1, .int sn, .ref a2, .ref a3, .ref a4, .int cl])), (a0, .inl (k0, 20, .inl g0)), (a1, .inl (k1, 20, .inl g1)), (a2, .inl (k2, 100, .inl g2)), (a3, .inl (k3, 100, .inl g3)), (a4, .inl (k4, 100, .inl g4))]) [0, 1, 2, 3, 4, 5, 6, 7] rfl
    have hD9 := hD.sub (ws' := [(h0, .inr (4, [.ref b0, .int len, .int ((m_tcw bt due sn p0 p1).2), .int ltr, .int low])), (b0, .inl (kb, 600, .inl bt)), (h1, .inr (3, [.ref a0, .ref a1, .int sn, .ref a2, .ref a3, .ref a4, .int cl])), (a0, .inl (k0, 20, .inl g0)), (a1, .inl (k1, 20, .inl g1)), (a2, .inl (k2, 100, .inl g2)), (a3, .inl (k3, 100, .inl g3)), (a4, .inl (k4, 100, .inl g4))]) [0, 1, 2, 3, 4, 5, 6, 7] (by decide) rfl
    have hK9 := hK.sub (tys' := [(kb, .char), (k0, .int), (k1, .int), (k2, .char), (k3, .int), (k4, .int)]) [0, 1, 2, 3, 4, 5] rfl
    exact W.zret (v := (m_tcw bt due sn p0 p1).1) hx hb hr (cx_z m_tcw_z) (fun t ht hW => ⟨⟨_, (), rfl, rfl, by rw [ht]; exact hP9, va_K.moved hW.alike hK9, hD9⟩, hS.F ht⟩) hS.2.2 d_Text_takeWord_43
  by_cases e_3 : due = 1
  · refine lv_tableIn (off := 40) (tgt := 44) hx hb d_Text_takeWord_4 (by rw [e_3]; decide) (by rw [e_3]; decide) (by rw [e_3]; rfl) (by decide) ?_
    refine lv_aload_n hx hb d_Text_takeWord_44 rfl (lv_at hl 0 rfl) ?_
    refine lv_aload_n hx hb d_Text_takeWord_45 rfl (lv_at hl 1 rfl) ?_
    refine lv_aload_n hx hb d_Text_takeWord_46 rfl (lv_at hl 0 rfl) ?_
    refine lv_iload_n hx hb d_Text_takeWord_47 rfl (lv_at hl 2 rfl) ?_
    refine lv_iload_n hx hb d_Text_takeWord_48 rfl (lv_at hl 3 rfl) ?_
    have hPc := hP.sub (ws' := [(h0, .inr (4, [.ref b0, .int len, .int due, .int ltr, .int low])), (b0, .inl (kb, 600, .inl bt))]) [0, 1] rfl
    have hDc := hD.sub (ws' := [(h0, .inr (4, [.ref b0, .int len, .int due, .int ltr, .int low])), (b0, .inl (kb, 600, .inl bt))]) [0, 1] (by decide) rfl
    have hKc := hK.sub (tys' := [(kb, .char)]) [0] rfl
    have hFc := va_free (wc := [(h0, .inr (4, [.ref b0, .int len, .int due, .int ltr, .int low])), (b0, .inl (kb, 600, .inl bt))]) hD hS hA [0, 1] rfl
    refine vp_callSi (va_Run.run (va_runV (As := [.int p0, .int p1]) (rest := [.ref h1, .ref h0])  ⟨hx, hb, hml, hown, hts⟩ (c_Text_numberIn l D h0 b0 kb bt len due ltr low p0 p1 s.heap.size ) ⟨callB_of 2 hts cg_Text_numberIn rfl rfl rfl (hts _ cw_2) (hts _ cw_431) (by decide +kernel) ⟨Nat.le_of_ble_eq_true rfl, Nat.le_of_ble_eq_true rfl⟩, hts _ cw_433, hts _ cs_5⟩ (cx_preV (C := R_Text) [.int p0, .int p1] hPc hKc hDc hN hO hS hFc (ci := 4) (q0 := 0) rfl rfl rfl) rfl rfl hl.1 rfl (lv_room (Nat.le_of_ble_eq_true rfl)) d_Text_takeWord_49 ⟨Nat.le_of_ble_eq_true rfl, Nat.le_of_ble_eq_true rfl⟩)) (fun r z_4 => ?_)
    subst z_4
    have hPc := hP.sub (ws' := [(h0, .inr (4, [.ref b0, .int len, .int due, .int ltr, .int low])), (b0, .inl (kb, 600, .inl bt)), (h1, .inr (3, [.ref a0, .ref a1, .int sn, .ref a2, .ref a3, .ref a4, .int cl])), (a0, .inl (k0, 20, .inl g0)), (a1, .inl (k1, 20, .inl g1)), (a2, .inl (k2, 100, .inl g2)), (a3, .inl (k3, 100, .inl g3)), (a4, .inl (k4, 100, .inl g4))]) [0, 1, 2, 3, 4, 5, 6, 7] rfl
    have hDc := hD.sub (ws' := [(h0, .inr (4, [.ref b0, .int len, .int due, .int ltr, .int low])), (b0, .inl (kb, 600, .inl bt)), (h1, .inr (3, [.ref a0, .ref a1, .int sn, .ref a2, .ref a3, .ref a4, .int cl])), (a0, .inl (k0, 20, .inl g0)), (a1, .inl (k1, 20, .inl g1)), (a2, .inl (k2, 100, .inl g2)), (a3, .inl (k3, 100, .inl g3)), (a4, .inl (k4, 100, .inl g4))]) [0, 1, 2, 3, 4, 5, 6, 7] (by decide) rfl
    have hKc := hK.sub (tys' := [(kb, .char), (k0, .int), (k1, .int), (k2, .char), (k3, .int), (k4, .int)]) [0, 1, 2, 3, 4, 5] rfl
    have hFc := va_free (wc := [(h0, .inr (4, [.ref b0, .int len, .int due, .int ltr, .int low])), (b0, .inl (kb, 600, .inl bt)), (h1, .inr (3, [.ref a0, .ref a1, .int sn, .ref a2, .ref a3, .ref a4, .int cl])), (a0, .inl (k0, 20, .inl g0)), (a1, .inl (k1, 20, .inl g1)), (a2, .inl (k2, 100, .inl g2)), (a3, .inl (k3, 100, .inl g3)), (a4, .inl (k4, 100, .inl g4))]) hD hS hA [0, 1, 2, 3, 4, 5, 6, 7] rfl
    refine cx_joini (wc := [(h0, .inr (4, [.ref b0, .int len, .int due, .int ltr, .int low])), (b0, .inl (kb, 600, .inl bt)), (h1, .inr (3, [.ref a0, .ref a1, .int sn, .ref a2, .ref a3, .ref a4, .int cl])), (a0, .inl (k0, 20, .inl g0)), (a1, .inl (k1, 20, .inl g1)), (a2, .inl (k2, 100, .inl g2)), (a3, .inl (k3, 100, .inl g3)), (a4, .inl (k4, 100, .inl g4))]) (wr := []) hP hD hS hA [0, 1, 2, 3, 4, 5, 6, 7] [] rfl rfl (by decide) (by decide) (va_runV (As := [.ref h1, .int (m_numberIn bt p0 p1)]) (rest := [])  ⟨hx, hb, hml, hown, hts⟩ (c_Text_takeClassNumber l D h0 b0 kb bt len due ltr low h1 a0 a1 a2 a3 a4 k0 k1 k2 k3 k4 g0 g1 g2 g3 g4 sn cl (m_numberIn bt p0 p1) s.heap.size ) ⟨callB_of 2 hts cg_Text_takeClassNumber rfl rfl rfl (hts _ cw_2) (hts _ cw_440) (by decide +kernel) ⟨Nat.le_of_ble_eq_true rfl, Nat.le_of_ble_eq_true rfl⟩, hts _ cw_442, hts _ cs_6⟩ (cx_preV (C := R_Text) [.ref h1, .int (m_numberIn bt p0 p1)] hPc hKc hDc hN hO hS hFc (ci := 4) (q0 := 0) rfl rfl rfl) rfl rfl hl.1 rfl (lv_room (Nat.le_of_ble_eq_true rfl)) d_Text_takeWord_52 ⟨Nat.le_of_ble_eq_true rfl, Nat.le_of_ble_eq_true rfl⟩) (fun r _ H locs z_5 hK1 hP hD hS => ?_)
    subst z_5
    have hP : va_P D classes ([(h0, .inr (4, [.ref b0, .int len, .int ((m_tcn due g0 g1 sn cl (m_numberIn bt p0 p1)).2.1), .int ltr, .int low])), (b0, .inl (kb, 600, .inl bt)), (h1, .inr (3, [.ref a0, .ref a1, .int ((m_tcn due g0 g1 sn cl (m_numberIn bt p0 p1)).2.2.2.2), .ref a2, .ref a3, .ref a4, .int cl])), (a0, .inl (k0, 20, .inl ((m_tcn due g0 g1 sn cl (m_numberIn bt p0 p1)).2.2.1))), (a1, .inl (k1, 20, .inl ((m_tcn due g0 g1 sn cl (m_numberIn bt p0 p1)).2.2.2.1))), (a2, .inl (k2, 100, .inl g2)), (a3, .inl (k3, 100, .inl g3)), (a4, .inl (k4, 100, .inl g4))]) H := hP
    have hD : va_D A ([(h0, .inr (4, [.ref b0, .int len, .int ((m_tcn due g0 g1 sn cl (m_numberIn bt p0 p1)).2.1), .int ltr, .int low])), (b0, .inl (kb, 600, .inl bt)), (h1, .inr (3, [.ref a0, .ref a1, .int ((m_tcn due g0 g1 sn cl (m_numberIn bt p0 p1)).2.2.2.2), .ref a2, .ref a3, .ref a4, .int cl])), (a0, .inl (k0, 20, .inl ((m_tcn due g0 g1 sn cl (m_numberIn bt p0 p1)).2.2.1))), (a1, .inl (k1, 20, .inl ((m_tcn due g0 g1 sn cl (m_numberIn bt p0 p1)).2.2.2.1))), (a2, .inl (k2, 100, .inl g2)), (a3, .inl (k3, 100, .inl g3)), (a4, .inl (k4, 100, .inl g4))]) := hD
    have hm : m_tw bt due ltr low g0 g1 g2 g3 g4 sn cl p0 p1 = ((m_tcn due g0 g1 sn cl (m_numberIn bt p0 p1)).1, (m_tcn due g0 g1 sn cl (m_numberIn bt p0 p1)).2.1, ltr, low, (m_tcn due g0 g1 sn cl (m_numberIn bt p0 p1)).2.2.1, (m_tcn due g0 g1 sn cl (m_numberIn bt p0 p1)).2.2.2.1, g2, g3, g4, (m_tcn due g0 g1 sn cl (m_numberIn bt p0 p1)).2.2.2.2, cl) := by simp [m_tw, eq_false e_1, eq_true e_3]
    rw [hm]
    have hP9 := hP.sub (ws' := [(h0, .inr (4, [.ref b0, .int len, .int ((m_tcn due g0 g1 sn cl (m_numberIn bt p0 p1)).2.1), .int ltr, .int low])), (b0, .inl (kb, 600, .inl bt)), (h1, .inr (3, [.ref a0, .ref a1, .int ((m_tcn due g0 g1 sn cl (m_numberIn bt p0 p1)).2.2.2.2), .ref a2, .ref a3, .ref a4, .int cl])), (a0, .inl (k0, 20, .inl ((m_tcn due g0 g1 sn cl (m_numberIn bt p0 p1)).2.2.1))), (a1, .inl (k1, 20, .inl ((m_tcn due g0 g1 sn cl (m_numberIn bt p0 p1)).2.2.2.1))), (a2, .inl (k2, 100, .inl g2)), (a3, .inl (k3, 100, .inl g3)), (a4, .inl (k4, 100, .inl g4))]) [0, 1, 2, 3, 4, 5, 6, 7] rfl
    have hD9 := hD.sub (ws' := [(h0, .inr (4, [.ref b0, .int len, .int ((m_tcn due g0 g1 sn cl (m_numberIn bt p0 p1)).2.1), .int ltr, .int low])), (b0, .inl (kb, 600, .inl bt)), (h1, .inr (3, [.ref a0, .ref a1, .int ((m_tcn due g0 g1 sn cl (m_numberIn bt p0 p1)).2.2.2.2), .ref a2, .ref a3, .ref a4, .int cl])), (a0, .inl (k0, 20, .inl ((m_tcn due g0 g1 sn cl (m_numberIn bt p0 p1)).2.2.1))), (a1, .inl (k1, 20, .inl ((m_tcn due g0 g1 sn cl (m_numberIn bt p0 p1)).2.2.2.1))), (a2, .inl (k2, 100, .inl g2)), (a3, .inl (k3, 100, .inl g3)), (a4, .inl (k4, 100, .inl g4))]) [0, 1, 2, 3, 4, 5, 6, 7] (by decide) rfl
    have hK9 := hK.sub (tys' := [(kb, .char), (k0, .int), (k1, .int), (k2, .char), (k3, .int), (k4, .int)]) [0, 1, 2, 3, 4, 5] rfl
    exact W.zret (v := (m_tcn due g0 g1 sn cl (m_numberIn bt p0 p1)).1) hx hb hr (cx_z m_tcn_z) (fun t ht hW => ⟨⟨_, (), rfl, rfl, by rw [ht]; exact hP9, va_K.moved hW.alike hK9, hD9⟩, hS.F ht⟩) hS.2.2 d_Text_takeWord_55
  by_cases e_6 : due = 2
  · refine lv_tableIn (off := 52) (tgt := 56) hx hb d_Text_takeWord_4 (by rw [e_6]; decide) (by rw [e_6]; decide) (by rw [e_6]; rfl) (by decide) ?_
    refine lv_aload_n hx hb d_Text_takeWord_56 rfl (lv_at hl 0 rfl) ?_
    refine lv_iload_n hx hb d_Text_takeWord_57 rfl (lv_at hl 2 rfl) ?_
    refine lv_iload_n hx hb d_Text_takeWord_58 rfl (lv_at hl 3 rfl) ?_
    have hPc := hP.sub (ws' := [(h0, .inr (4, [.ref b0, .int len, .int due, .int ltr, .int low])), (b0, .inl (kb, 600, .inl bt))]) [0, 1] rfl
    have hDc := hD.sub (ws' := [(h0, .inr (4, [.ref b0, .int len, .int due, .int ltr, .int low])), (b0, .inl (kb, 600, .inl bt))]) [0, 1] (by decide) rfl
    have hKc := hK.sub (tys' := [(kb, .char)]) [0] rfl
    have hFc := va_free (wc := [(h0, .inr (4, [.ref b0, .int len, .int due, .int ltr, .int low])), (b0, .inl (kb, 600, .inl bt))]) hD hS hA [0, 1] rfl
    refine cx_joini (wc := [(h0, .inr (4, [.ref b0, .int len, .int due, .int ltr, .int low])), (b0, .inl (kb, 600, .inl bt))]) (wr := [(h1, .inr (3, [.ref a0, .ref a1, .int sn, .ref a2, .ref a3, .ref a4, .int cl])), (a0, .inl (k0, 20, .inl g0)), (a1, .inl (k1, 20, .inl g1)), (a2, .inl (k2, 100, .inl g2)), (a3, .inl (k3, 100, .inl g3)), (a4, .inl (k4, 100, .inl g4))]) hP hD hS hA [0, 1] [2, 3, 4, 5, 6, 7] rfl rfl (by decide) (by decide) (va_runV (As := [.int p0, .int p1]) (rest := [])  ⟨hx, hb, hml, hown, hts⟩ (c_Text_takeLetter l D h0 b0 kb bt len due ltr low p0 p1 s.heap.size ) ⟨callB_of 2 hts cg_Text_takeLetter rfl rfl rfl (hts _ cw_2) (hts _ cw_449) (by decide +kernel) ⟨Nat.le_of_ble_eq_true rfl, Nat.le_of_ble_eq_true rfl⟩, hts _ cw_451, hts _ cs_7⟩ (cx_preV (C := R_Text) [.int p0, .int p1] hPc hKc hDc hN hO hS hFc (ci := 4) (q0 := 0) rfl rfl rfl) rfl rfl hl.1 rfl (lv_room (Nat.le_of_ble_eq_true rfl)) d_Text_takeWord_59 ⟨Nat.le_of_ble_eq_true rfl, Nat.le_of_ble_eq_true rfl⟩) (fun r _ H locs z_7 hK1 hP hD hS => ?_)
    subst z_7
    have hP : va_P D classes ([(h1, .inr (3, [.ref a0, .ref a1, .int sn, .ref a2, .ref a3, .ref a4, .int cl])), (a0, .inl (k0, 20, .inl g0)), (a1, .inl (k1, 20, .inl g1)), (a2, .inl (k2, 100, .inl g2)), (a3, .inl (k3, 100, .inl g3)), (a4, .inl (k4, 100, .inl g4)), (h0, .inr (4, [.ref b0, .int len, .int ((m_tl bt due ltr p0 p1).2.1), .int ((m_tl bt due ltr p0 p1).2.2), .int low])), (b0, .inl (kb, 600, .inl bt))]) H := hP
    have hD : va_D A ([(h1, .inr (3, [.ref a0, .ref a1, .int sn, .ref a2, .ref a3, .ref a4, .int cl])), (a0, .inl (k0, 20, .inl g0)), (a1, .inl (k1, 20, .inl g1)), (a2, .inl (k2, 100, .inl g2)), (a3, .inl (k3, 100, .inl g3)), (a4, .inl (k4, 100, .inl g4)), (h0, .inr (4, [.ref b0, .int len, .int ((m_tl bt due ltr p0 p1).2.1), .int ((m_tl bt due ltr p0 p1).2.2), .int low])), (b0, .inl (kb, 600, .inl bt))]) := hD
    refine lv_if_ne (tgt := 75) hx hb d_Text_takeWord_62 (by decide) (fun c_8 => ?_) (fun c_8 => ?_)
    · refine lv_iconst (v := 1) hx hb d_Text_takeWord_75 (by decide) ?_
      refine lv_goto (tgt := 80) hx hb d_Text_takeWord_76 (by decide) ?_
      have hm : m_tw bt due ltr low g0 g1 g2 g3 g4 sn cl p0 p1 = (1, (m_tl bt due ltr p0 p1).2.1, (m_tl bt due ltr p0 p1).2.2, low, g0, g1, g2, g3, g4, sn, cl) := by simp [m_tw, eq_false e_1, eq_false e_3, eq_true e_6, eq_false c_8]
      rw [hm]
      have hP9 := hP.sub (ws' := [(h0, .inr (4, [.ref b0, .int len, .int ((m_tl bt due ltr p0 p1).2.1), .int ((m_tl bt due ltr p0 p1).2.2), .int low])), (b0, .inl (kb, 600, .inl bt)), (h1, .inr (3, [.ref a0, .ref a1, .int sn, .ref a2, .ref a3, .ref a4, .int cl])), (a0, .inl (k0, 20, .inl g0)), (a1, .inl (k1, 20, .inl g1)), (a2, .inl (k2, 100, .inl g2)), (a3, .inl (k3, 100, .inl g3)), (a4, .inl (k4, 100, .inl g4))]) [6, 7, 0, 1, 2, 3, 4, 5] rfl
      have hD9 := hD.sub (ws' := [(h0, .inr (4, [.ref b0, .int len, .int ((m_tl bt due ltr p0 p1).2.1), .int ((m_tl bt due ltr p0 p1).2.2), .int low])), (b0, .inl (kb, 600, .inl bt)), (h1, .inr (3, [.ref a0, .ref a1, .int sn, .ref a2, .ref a3, .ref a4, .int cl])), (a0, .inl (k0, 20, .inl g0)), (a1, .inl (k1, 20, .inl g1)), (a2, .inl (k2, 100, .inl g2)), (a3, .inl (k3, 100, .inl g3)), (a4, .inl (k4, 100, .inl g4))]) [6, 7, 0, 1, 2, 3, 4, 5] (by decide) rfl
      have hK9 := hK.sub (tys' := [(kb, .char), (k0, .int), (k1, .int), (k2, .char), (k3, .int), (k4, .int)]) [0, 1, 2, 3, 4, 5] rfl
      exact W.zret (v := 1) hx hb hr (rfl) (fun t ht hW => ⟨⟨_, (), rfl, rfl, by rw [ht]; exact hP9, va_K.moved hW.alike hK9, hD9⟩, hS.F ht⟩) hS.2.2 d_Text_takeWord_80
    · refine lv_aload_n hx hb d_Text_takeWord_65 rfl (lv_at hl 0 rfl) ?_
      refine lv_aload_n hx hb d_Text_takeWord_66 rfl (lv_at hl 1 rfl) ?_
      refine lv_iload_n hx hb d_Text_takeWord_67 rfl (lv_at hl 2 rfl) ?_
      refine lv_iload_n hx hb d_Text_takeWord_68 rfl (lv_at hl 3 rfl) ?_
      have hPc := hP.sub (ws' := [(h0, .inr (4, [.ref b0, .int len, .int ((m_tl bt due ltr p0 p1).2.1), .int ((m_tl bt due ltr p0 p1).2.2), .int low])), (b0, .inl (kb, 600, .inl bt)), (h1, .inr (3, [.ref a0, .ref a1, .int sn, .ref a2, .ref a3, .ref a4, .int cl])), (a0, .inl (k0, 20, .inl g0)), (a1, .inl (k1, 20, .inl g1)), (a2, .inl (k2, 100, .inl g2)), (a3, .inl (k3, 100, .inl g3)), (a4, .inl (k4, 100, .inl g4))]) [6, 7, 0, 1, 2, 3, 4, 5] rfl
      have hDc := hD.sub (ws' := [(h0, .inr (4, [.ref b0, .int len, .int ((m_tl bt due ltr p0 p1).2.1), .int ((m_tl bt due ltr p0 p1).2.2), .int low])), (b0, .inl (kb, 600, .inl bt)), (h1, .inr (3, [.ref a0, .ref a1, .int sn, .ref a2, .ref a3, .ref a4, .int cl])), (a0, .inl (k0, 20, .inl g0)), (a1, .inl (k1, 20, .inl g1)), (a2, .inl (k2, 100, .inl g2)), (a3, .inl (k3, 100, .inl g3)), (a4, .inl (k4, 100, .inl g4))]) [6, 7, 0, 1, 2, 3, 4, 5] (by decide) rfl
      have hKc := hK.sub (tys' := [(kb, .char), (k0, .int), (k1, .int), (k2, .char), (k3, .int), (k4, .int)]) [0, 1, 2, 3, 4, 5] rfl
      have hFc := va_free (wc := [(h0, .inr (4, [.ref b0, .int len, .int ((m_tl bt due ltr p0 p1).2.1), .int ((m_tl bt due ltr p0 p1).2.2), .int low])), (b0, .inl (kb, 600, .inl bt)), (h1, .inr (3, [.ref a0, .ref a1, .int sn, .ref a2, .ref a3, .ref a4, .int cl])), (a0, .inl (k0, 20, .inl g0)), (a1, .inl (k1, 20, .inl g1)), (a2, .inl (k2, 100, .inl g2)), (a3, .inl (k3, 100, .inl g3)), (a4, .inl (k4, 100, .inl g4))]) hD hS hA [6, 7, 0, 1, 2, 3, 4, 5] rfl
      refine cx_joini (wc := [(h0, .inr (4, [.ref b0, .int len, .int ((m_tl bt due ltr p0 p1).2.1), .int ((m_tl bt due ltr p0 p1).2.2), .int low])), (b0, .inl (kb, 600, .inl bt)), (h1, .inr (3, [.ref a0, .ref a1, .int sn, .ref a2, .ref a3, .ref a4, .int cl])), (a0, .inl (k0, 20, .inl g0)), (a1, .inl (k1, 20, .inl g1)), (a2, .inl (k2, 100, .inl g2)), (a3, .inl (k3, 100, .inl g3)), (a4, .inl (k4, 100, .inl g4))]) (wr := []) hP hD hS hA [6, 7, 0, 1, 2, 3, 4, 5] [] rfl rfl (by decide) (by decide) (va_runV (As := [.ref h1, .int p0, .int p1]) (rest := [])  ⟨hx, hb, hml, hown, hts⟩ (c_Text_takeClassWord l D h0 b0 kb bt len ((m_tl bt due ltr p0 p1).2.1) ((m_tl bt due ltr p0 p1).2.2) low h1 a0 a1 a2 a3 a4 k0 k1 k2 k3 k4 g0 g1 g2 g3 g4 sn cl p0 p1 H.size (hs)) ⟨callB_of 3 hts cg_Text_takeClassWord rfl rfl rfl (hts _ cw_2) (hts _ cw_371) (by decide +kernel) ⟨Nat.le_of_ble_eq_true rfl, Nat.le_of_ble_eq_true rfl⟩, hts _ cw_373, hts _ cs_3⟩ (cx_preV (C := R_Text) [.ref h1, .int p0, .int p1] hPc hKc hDc hN hO hS hFc (ci := 4) (q0 := 0) rfl rfl rfl) rfl rfl hl.1 rfl (lv_room (Nat.le_of_ble_eq_true rfl)) d_Text_takeWord_69 ⟨Nat.le_of_ble_eq_true rfl, Nat.le_of_ble_eq_true rfl⟩) (fun r _ H locs z_9 hK1 hP hD hS => ?_)
      subst z_9
      have hP : va_P D classes ([(h0, .inr (4, [.ref b0, .int len, .int ((m_tcw bt ((m_tl bt due ltr p0 p1).2.1) sn p0 p1).2), .int ((m_tl bt due ltr p0 p1).2.2), .int low])), (b0, .inl (kb, 600, .inl bt)), (h1, .inr (3, [.ref a0, .ref a1, .int sn, .ref a2, .ref a3, .ref a4, .int cl])), (a0, .inl (k0, 20, .inl g0)), (a1, .inl (k1, 20, .inl g1)), (a2, .inl (k2, 100, .inl g2)), (a3, .inl (k3, 100, .inl g3)), (a4, .inl (k4, 100, .inl g4))]) H := hP
      have hD : va_D A ([(h0, .inr (4, [.ref b0, .int len, .int ((m_tcw bt ((m_tl bt due ltr p0 p1).2.1) sn p0 p1).2), .int ((m_tl bt due ltr p0 p1).2.2), .int low])), (b0, .inl (kb, 600, .inl bt)), (h1, .inr (3, [.ref a0, .ref a1, .int sn, .ref a2, .ref a3, .ref a4, .int cl])), (a0, .inl (k0, 20, .inl g0)), (a1, .inl (k1, 20, .inl g1)), (a2, .inl (k2, 100, .inl g2)), (a3, .inl (k3, 100, .inl g3)), (a4, .inl (k4, 100, .inl g4))]) := hD
      refine lv_if_eq (tgt := 79) hx hb d_Text_takeWord_72 (by decide) (fun c_10 => ?_) (fun c_10 => ?_)
      · refine lv_iconst (v := 0) hx hb d_Text_takeWord_79 (by decide) ?_
        have hm : m_tw bt due ltr low g0 g1 g2 g3 g4 sn cl p0 p1 = (0, (m_tcw bt ((m_tl bt due ltr p0 p1).2.1) sn p0 p1).2, ((m_tl bt due ltr p0 p1).2.2), low, g0, g1, g2, g3, g4, sn, cl) := by simp [m_tw, eq_false e_1, eq_false e_3, eq_true e_6, eq_true c_8, eq_true c_10]
        rw [hm]
        have hP9 := hP.sub (ws' := [(h0, .inr (4, [.ref b0, .int len, .int ((m_tcw bt ((m_tl bt due ltr p0 p1).2.1) sn p0 p1).2), .int ((m_tl bt due ltr p0 p1).2.2), .int low])), (b0, .inl (kb, 600, .inl bt)), (h1, .inr (3, [.ref a0, .ref a1, .int sn, .ref a2, .ref a3, .ref a4, .int cl])), (a0, .inl (k0, 20, .inl g0)), (a1, .inl (k1, 20, .inl g1)), (a2, .inl (k2, 100, .inl g2)), (a3, .inl (k3, 100, .inl g3)), (a4, .inl (k4, 100, .inl g4))]) [0, 1, 2, 3, 4, 5, 6, 7] rfl
        have hD9 := hD.sub (ws' := [(h0, .inr (4, [.ref b0, .int len, .int ((m_tcw bt ((m_tl bt due ltr p0 p1).2.1) sn p0 p1).2), .int ((m_tl bt due ltr p0 p1).2.2), .int low])), (b0, .inl (kb, 600, .inl bt)), (h1, .inr (3, [.ref a0, .ref a1, .int sn, .ref a2, .ref a3, .ref a4, .int cl])), (a0, .inl (k0, 20, .inl g0)), (a1, .inl (k1, 20, .inl g1)), (a2, .inl (k2, 100, .inl g2)), (a3, .inl (k3, 100, .inl g3)), (a4, .inl (k4, 100, .inl g4))]) [0, 1, 2, 3, 4, 5, 6, 7] (by decide) rfl
        have hK9 := hK.sub (tys' := [(kb, .char), (k0, .int), (k1, .int), (k2, .char), (k3, .int), (k4, .int)]) [0, 1, 2, 3, 4, 5] rfl
        exact W.zret (v := 0) hx hb hr (rfl) (fun t ht hW => ⟨⟨_, (), rfl, rfl, by rw [ht]; exact hP9, va_K.moved hW.alike hK9, hD9⟩, hS.F ht⟩) hS.2.2 d_Text_takeWord_80
      · refine lv_iconst (v := 1) hx hb d_Text_takeWord_75 (by decide) ?_
        refine lv_goto (tgt := 80) hx hb d_Text_takeWord_76 (by decide) ?_
        have hm : m_tw bt due ltr low g0 g1 g2 g3 g4 sn cl p0 p1 = (1, (m_tcw bt ((m_tl bt due ltr p0 p1).2.1) sn p0 p1).2, ((m_tl bt due ltr p0 p1).2.2), low, g0, g1, g2, g3, g4, sn, cl) := by simp [m_tw, eq_false e_1, eq_false e_3, eq_true e_6, eq_true c_8, eq_false c_10]
        rw [hm]
        have hP9 := hP.sub (ws' := [(h0, .inr (4, [.ref b0, .int len, .int ((m_tcw bt ((m_tl bt due ltr p0 p1).2.1) sn p0 p1).2), .int ((m_tl bt due ltr p0 p1).2.2), .int low])), (b0, .inl (kb, 600, .inl bt)), (h1, .inr (3, [.ref a0, .ref a1, .int sn, .ref a2, .ref a3, .ref a4, .int cl])), (a0, .inl (k0, 20, .inl g0)), (a1, .inl (k1, 20, .inl g1)), (a2, .inl (k2, 100, .inl g2)), (a3, .inl (k3, 100, .inl g3)), (a4, .inl (k4, 100, .inl g4))]) [0, 1, 2, 3, 4, 5, 6, 7] rfl
        have hD9 := hD.sub (ws' := [(h0, .inr (4, [.ref b0, .int len, .int ((m_tcw bt ((m_tl bt due ltr p0 p1).2.1) sn p0 p1).2), .int ((m_tl bt due ltr p0 p1).2.2), .int low])), (b0, .inl (kb, 600, .inl bt)), (h1, .inr (3, [.ref a0, .ref a1, .int sn, .ref a2, .ref a3, .ref a4, .int cl])), (a0, .inl (k0, 20, .inl g0)), (a1, .inl (k1, 20, .inl g1)), (a2, .inl (k2, 100, .inl g2)), (a3, .inl (k3, 100, .inl g3)), (a4, .inl (k4, 100, .inl g4))]) [0, 1, 2, 3, 4, 5, 6, 7] (by decide) rfl
        have hK9 := hK.sub (tys' := [(kb, .char), (k0, .int), (k1, .int), (k2, .char), (k3, .int), (k4, .int)]) [0, 1, 2, 3, 4, 5] rfl
        exact W.zret (v := 1) hx hb hr (rfl) (fun t ht hW => ⟨⟨_, (), rfl, rfl, by rw [ht]; exact hP9, va_K.moved hW.alike hK9, hD9⟩, hS.F ht⟩) hS.2.2 d_Text_takeWord_80
  by_cases e_11 : due = 3
  · refine lv_tableIn (off := 77) (tgt := 81) hx hb d_Text_takeWord_4 (by rw [e_11]; decide) (by rw [e_11]; decide) (by rw [e_11]; rfl) (by decide) ?_
    refine lv_aload_n hx hb d_Text_takeWord_81 rfl (lv_at hl 0 rfl) ?_
    refine lv_aload_n hx hb d_Text_takeWord_82 rfl (lv_at hl 0 rfl) ?_
    refine lv_iload_n hx hb d_Text_takeWord_83 rfl (lv_at hl 2 rfl) ?_
    refine lv_iload_n hx hb d_Text_takeWord_84 rfl (lv_at hl 3 rfl) ?_
    have hPc := hP.sub (ws' := [(h0, .inr (4, [.ref b0, .int len, .int due, .int ltr, .int low])), (b0, .inl (kb, 600, .inl bt))]) [0, 1] rfl
    have hDc := hD.sub (ws' := [(h0, .inr (4, [.ref b0, .int len, .int due, .int ltr, .int low])), (b0, .inl (kb, 600, .inl bt))]) [0, 1] (by decide) rfl
    have hKc := hK.sub (tys' := [(kb, .char)]) [0] rfl
    have hFc := va_free (wc := [(h0, .inr (4, [.ref b0, .int len, .int due, .int ltr, .int low])), (b0, .inl (kb, 600, .inl bt))]) hD hS hA [0, 1] rfl
    refine vp_callSi (va_Run.run (va_runV (As := [.int p0, .int p1]) (rest := [.ref h0])  ⟨hx, hb, hml, hown, hts⟩ (c_Text_numberIn l D h0 b0 kb bt len due ltr low p0 p1 s.heap.size ) ⟨callB_of 2 hts cg_Text_numberIn rfl rfl rfl (hts _ cw_2) (hts _ cw_431) (by decide +kernel) ⟨Nat.le_of_ble_eq_true rfl, Nat.le_of_ble_eq_true rfl⟩, hts _ cw_433, hts _ cs_5⟩ (cx_preV (C := R_Text) [.int p0, .int p1] hPc hKc hDc hN hO hS hFc (ci := 4) (q0 := 0) rfl rfl rfl) rfl rfl hl.1 rfl (lv_room (Nat.le_of_ble_eq_true rfl)) d_Text_takeWord_85 ⟨Nat.le_of_ble_eq_true rfl, Nat.le_of_ble_eq_true rfl⟩)) (fun r z_12 => ?_)
    subst z_12
    have hPc := hP.sub (ws' := [(h0, .inr (4, [.ref b0, .int len, .int due, .int ltr, .int low])), (b0, .inl (kb, 600, .inl bt))]) [0, 1] rfl
    have hDc := hD.sub (ws' := [(h0, .inr (4, [.ref b0, .int len, .int due, .int ltr, .int low])), (b0, .inl (kb, 600, .inl bt))]) [0, 1] (by decide) rfl
    have hKc := hK.sub (tys' := [(kb, .char)]) [0] rfl
    have hFc := va_free (wc := [(h0, .inr (4, [.ref b0, .int len, .int due, .int ltr, .int low])), (b0, .inl (kb, 600, .inl bt))]) hD hS hA [0, 1] rfl
    refine cx_joini (wc := [(h0, .inr (4, [.ref b0, .int len, .int due, .int ltr, .int low])), (b0, .inl (kb, 600, .inl bt))]) (wr := [(h1, .inr (3, [.ref a0, .ref a1, .int sn, .ref a2, .ref a3, .ref a4, .int cl])), (a0, .inl (k0, 20, .inl g0)), (a1, .inl (k1, 20, .inl g1)), (a2, .inl (k2, 100, .inl g2)), (a3, .inl (k3, 100, .inl g3)), (a4, .inl (k4, 100, .inl g4))]) hP hD hS hA [0, 1] [2, 3, 4, 5, 6, 7] rfl rfl (by decide) (by decide) (va_runV (As := [.int (m_numberIn bt p0 p1)]) (rest := [])  ⟨hx, hb, hml, hown, hts⟩ (c_Text_takeLow l D h0 b0 kb bt len due ltr low (m_numberIn bt p0 p1) s.heap.size ) ⟨callB_of 1 hts cg_Text_takeLow rfl rfl rfl (hts _ cw_2) (hts _ cw_453) (by decide +kernel) ⟨Nat.le_of_ble_eq_true rfl, Nat.le_of_ble_eq_true rfl⟩, hts _ cw_455, hts _ cs_8⟩ (cx_preV (C := R_Text) [.int (m_numberIn bt p0 p1)] hPc hKc hDc hN hO hS hFc (ci := 4) (q0 := 0) rfl rfl rfl) rfl rfl hl.1 rfl (lv_room (Nat.le_of_ble_eq_true rfl)) d_Text_takeWord_88 ⟨Nat.le_of_ble_eq_true rfl, Nat.le_of_ble_eq_true rfl⟩) (fun r _ H locs z_13 hK1 hP hD hS => ?_)
    subst z_13
    have hP : va_P D classes ([(h1, .inr (3, [.ref a0, .ref a1, .int sn, .ref a2, .ref a3, .ref a4, .int cl])), (a0, .inl (k0, 20, .inl g0)), (a1, .inl (k1, 20, .inl g1)), (a2, .inl (k2, 100, .inl g2)), (a3, .inl (k3, 100, .inl g3)), (a4, .inl (k4, 100, .inl g4)), (h0, .inr (4, [.ref b0, .int len, .int ((m_tlow due low (m_numberIn bt p0 p1)).2.1), .int ltr, .int ((m_tlow due low (m_numberIn bt p0 p1)).2.2)])), (b0, .inl (kb, 600, .inl bt))]) H := hP
    have hD : va_D A ([(h1, .inr (3, [.ref a0, .ref a1, .int sn, .ref a2, .ref a3, .ref a4, .int cl])), (a0, .inl (k0, 20, .inl g0)), (a1, .inl (k1, 20, .inl g1)), (a2, .inl (k2, 100, .inl g2)), (a3, .inl (k3, 100, .inl g3)), (a4, .inl (k4, 100, .inl g4)), (h0, .inr (4, [.ref b0, .int len, .int ((m_tlow due low (m_numberIn bt p0 p1)).2.1), .int ltr, .int ((m_tlow due low (m_numberIn bt p0 p1)).2.2)])), (b0, .inl (kb, 600, .inl bt))]) := hD
    have hm : m_tw bt due ltr low g0 g1 g2 g3 g4 sn cl p0 p1 = ((m_tlow due low (m_numberIn bt p0 p1)).1, (m_tlow due low (m_numberIn bt p0 p1)).2.1, ltr, (m_tlow due low (m_numberIn bt p0 p1)).2.2, g0, g1, g2, g3, g4, sn, cl) := by simp [m_tw, eq_false e_1, eq_false e_3, eq_false e_6, eq_true e_11]
    rw [hm]
    have hP9 := hP.sub (ws' := [(h0, .inr (4, [.ref b0, .int len, .int ((m_tlow due low (m_numberIn bt p0 p1)).2.1), .int ltr, .int ((m_tlow due low (m_numberIn bt p0 p1)).2.2)])), (b0, .inl (kb, 600, .inl bt)), (h1, .inr (3, [.ref a0, .ref a1, .int sn, .ref a2, .ref a3, .ref a4, .int cl])), (a0, .inl (k0, 20, .inl g0)), (a1, .inl (k1, 20, .inl g1)), (a2, .inl (k2, 100, .inl g2)), (a3, .inl (k3, 100, .inl g3)), (a4, .inl (k4, 100, .inl g4))]) [6, 7, 0, 1, 2, 3, 4, 5] rfl
    have hD9 := hD.sub (ws' := [(h0, .inr (4, [.ref b0, .int len, .int ((m_tlow due low (m_numberIn bt p0 p1)).2.1), .int ltr, .int ((m_tlow due low (m_numberIn bt p0 p1)).2.2)])), (b0, .inl (kb, 600, .inl bt)), (h1, .inr (3, [.ref a0, .ref a1, .int sn, .ref a2, .ref a3, .ref a4, .int cl])), (a0, .inl (k0, 20, .inl g0)), (a1, .inl (k1, 20, .inl g1)), (a2, .inl (k2, 100, .inl g2)), (a3, .inl (k3, 100, .inl g3)), (a4, .inl (k4, 100, .inl g4))]) [6, 7, 0, 1, 2, 3, 4, 5] (by decide) rfl
    have hK9 := hK.sub (tys' := [(kb, .char), (k0, .int), (k1, .int), (k2, .char), (k3, .int), (k4, .int)]) [0, 1, 2, 3, 4, 5] rfl
    exact W.zret (v := (m_tlow due low (m_numberIn bt p0 p1)).1) hx hb hr (cx_z m_tlow_z) (fun t ht hW => ⟨⟨_, (), rfl, rfl, by rw [ht]; exact hP9, va_K.moved hW.alike hK9, hD9⟩, hS.F ht⟩) hS.2.2 d_Text_takeWord_91
  refine lv_tableOut (tgt := 92) hx hb d_Text_takeWord_4 (by have := lv_neT (a := 0) e_1 rfl; have := lv_neT (a := 1) e_3 rfl; have := lv_neT (a := 2) e_6 rfl; have := lv_neT (a := 3) e_11 rfl; omega) (by decide) ?_
  refine lv_aload_n hx hb d_Text_takeWord_92 rfl (lv_at hl 0 rfl) ?_
  refine lv_aload_n hx hb d_Text_takeWord_93 rfl (lv_at hl 1 rfl) ?_
  refine lv_aload_n hx hb d_Text_takeWord_94 rfl (lv_at hl 0 rfl) ?_
  refine lv_iload_n hx hb d_Text_takeWord_95 rfl (lv_at hl 2 rfl) ?_
  refine lv_iload_n hx hb d_Text_takeWord_96 rfl (lv_at hl 3 rfl) ?_
  have hPc := hP.sub (ws' := [(h0, .inr (4, [.ref b0, .int len, .int due, .int ltr, .int low])), (b0, .inl (kb, 600, .inl bt))]) [0, 1] rfl
  have hDc := hD.sub (ws' := [(h0, .inr (4, [.ref b0, .int len, .int due, .int ltr, .int low])), (b0, .inl (kb, 600, .inl bt))]) [0, 1] (by decide) rfl
  have hKc := hK.sub (tys' := [(kb, .char)]) [0] rfl
  have hFc := va_free (wc := [(h0, .inr (4, [.ref b0, .int len, .int due, .int ltr, .int low])), (b0, .inl (kb, 600, .inl bt))]) hD hS hA [0, 1] rfl
  refine vp_callSi (va_Run.run (va_runV (As := [.int p0, .int p1]) (rest := [.ref h1, .ref h0])  ⟨hx, hb, hml, hown, hts⟩ (c_Text_numberIn l D h0 b0 kb bt len due ltr low p0 p1 s.heap.size ) ⟨callB_of 2 hts cg_Text_numberIn rfl rfl rfl (hts _ cw_2) (hts _ cw_431) (by decide +kernel) ⟨Nat.le_of_ble_eq_true rfl, Nat.le_of_ble_eq_true rfl⟩, hts _ cw_433, hts _ cs_5⟩ (cx_preV (C := R_Text) [.int p0, .int p1] hPc hKc hDc hN hO hS hFc (ci := 4) (q0 := 0) rfl rfl rfl) rfl rfl hl.1 rfl (lv_room (Nat.le_of_ble_eq_true rfl)) d_Text_takeWord_97 ⟨Nat.le_of_ble_eq_true rfl, Nat.le_of_ble_eq_true rfl⟩)) (fun r z_14 => ?_)
  subst z_14
  have hPc := hP.sub (ws' := [(h0, .inr (4, [.ref b0, .int len, .int due, .int ltr, .int low])), (b0, .inl (kb, 600, .inl bt)), (h1, .inr (3, [.ref a0, .ref a1, .int sn, .ref a2, .ref a3, .ref a4, .int cl])), (a0, .inl (k0, 20, .inl g0)), (a1, .inl (k1, 20, .inl g1)), (a2, .inl (k2, 100, .inl g2)), (a3, .inl (k3, 100, .inl g3)), (a4, .inl (k4, 100, .inl g4))]) [0, 1, 2, 3, 4, 5, 6, 7] rfl
  have hDc := hD.sub (ws' := [(h0, .inr (4, [.ref b0, .int len, .int due, .int ltr, .int low])), (b0, .inl (kb, 600, .inl bt)), (h1, .inr (3, [.ref a0, .ref a1, .int sn, .ref a2, .ref a3, .ref a4, .int cl])), (a0, .inl (k0, 20, .inl g0)), (a1, .inl (k1, 20, .inl g1)), (a2, .inl (k2, 100, .inl g2)), (a3, .inl (k3, 100, .inl g3)), (a4, .inl (k4, 100, .inl g4))]) [0, 1, 2, 3, 4, 5, 6, 7] (by decide) rfl
  have hKc := hK.sub (tys' := [(kb, .char), (k0, .int), (k1, .int), (k2, .char), (k3, .int), (k4, .int)]) [0, 1, 2, 3, 4, 5] rfl
  have hFc := va_free (wc := [(h0, .inr (4, [.ref b0, .int len, .int due, .int ltr, .int low])), (b0, .inl (kb, 600, .inl bt)), (h1, .inr (3, [.ref a0, .ref a1, .int sn, .ref a2, .ref a3, .ref a4, .int cl])), (a0, .inl (k0, 20, .inl g0)), (a1, .inl (k1, 20, .inl g1)), (a2, .inl (k2, 100, .inl g2)), (a3, .inl (k3, 100, .inl g3)), (a4, .inl (k4, 100, .inl g4))]) hD hS hA [0, 1, 2, 3, 4, 5, 6, 7] rfl
  refine cx_joini (wc := [(h0, .inr (4, [.ref b0, .int len, .int due, .int ltr, .int low])), (b0, .inl (kb, 600, .inl bt)), (h1, .inr (3, [.ref a0, .ref a1, .int sn, .ref a2, .ref a3, .ref a4, .int cl])), (a0, .inl (k0, 20, .inl g0)), (a1, .inl (k1, 20, .inl g1)), (a2, .inl (k2, 100, .inl g2)), (a3, .inl (k3, 100, .inl g3)), (a4, .inl (k4, 100, .inl g4))]) (wr := []) hP hD hS hA [0, 1, 2, 3, 4, 5, 6, 7] [] rfl rfl (by decide) (by decide) (va_runV (As := [.ref h1, .int (m_numberIn bt p0 p1)]) (rest := [])  ⟨hx, hb, hml, hown, hts⟩ (c_Text_takeHigh l D h0 b0 kb bt len due ltr low h1 a0 a1 a2 a3 a4 k0 k1 k2 k3 k4 g0 g1 g2 g3 g4 sn cl (m_numberIn bt p0 p1) s.heap.size ) ⟨callB_of 2 hts cg_Text_takeHigh rfl rfl rfl (hts _ cw_2) (hts _ cw_457) (by decide +kernel) ⟨Nat.le_of_ble_eq_true rfl, Nat.le_of_ble_eq_true rfl⟩, hts _ cw_459, hts _ cs_9⟩ (cx_preV (C := R_Text) [.ref h1, .int (m_numberIn bt p0 p1)] hPc hKc hDc hN hO hS hFc (ci := 4) (q0 := 0) rfl rfl rfl) rfl rfl hl.1 rfl (lv_room (Nat.le_of_ble_eq_true rfl)) d_Text_takeWord_100 ⟨Nat.le_of_ble_eq_true rfl, Nat.le_of_ble_eq_true rfl⟩) (fun r _ H locs z_15 hK1 hP hD hS => ?_)
  subst z_15
  have hP : va_P D classes ([(h0, .inr (4, [.ref b0, .int len, .int ((m_th due ltr low g1 g2 g3 g4 sn cl (m_numberIn bt p0 p1)).2.1), .int ltr, .int low])), (b0, .inl (kb, 600, .inl bt)), (h1, .inr (3, [.ref a0, .ref a1, .int sn, .ref a2, .ref a3, .ref a4, .int ((m_th due ltr low g1 g2 g3 g4 sn cl (m_numberIn bt p0 p1)).2.2.2.2.2.2)])), (a0, .inl (k0, 20, .inl g0)), (a1, .inl (k1, 20, .inl ((m_th due ltr low g1 g2 g3 g4 sn cl (m_numberIn bt p0 p1)).2.2.1))), (a2, .inl (k2, 100, .inl ((m_th due ltr low g1 g2 g3 g4 sn cl (m_numberIn bt p0 p1)).2.2.2.1))), (a3, .inl (k3, 100, .inl ((m_th due ltr low g1 g2 g3 g4 sn cl (m_numberIn bt p0 p1)).2.2.2.2.1))), (a4, .inl (k4, 100, .inl ((m_th due ltr low g1 g2 g3 g4 sn cl (m_numberIn bt p0 p1)).2.2.2.2.2.1)))]) H := hP
  have hD : va_D A ([(h0, .inr (4, [.ref b0, .int len, .int ((m_th due ltr low g1 g2 g3 g4 sn cl (m_numberIn bt p0 p1)).2.1), .int ltr, .int low])), (b0, .inl (kb, 600, .inl bt)), (h1, .inr (3, [.ref a0, .ref a1, .int sn, .ref a2, .ref a3, .ref a4, .int ((m_th due ltr low g1 g2 g3 g4 sn cl (m_numberIn bt p0 p1)).2.2.2.2.2.2)])), (a0, .inl (k0, 20, .inl g0)), (a1, .inl (k1, 20, .inl ((m_th due ltr low g1 g2 g3 g4 sn cl (m_numberIn bt p0 p1)).2.2.1))), (a2, .inl (k2, 100, .inl ((m_th due ltr low g1 g2 g3 g4 sn cl (m_numberIn bt p0 p1)).2.2.2.1))), (a3, .inl (k3, 100, .inl ((m_th due ltr low g1 g2 g3 g4 sn cl (m_numberIn bt p0 p1)).2.2.2.2.1))), (a4, .inl (k4, 100, .inl ((m_th due ltr low g1 g2 g3 g4 sn cl (m_numberIn bt p0 p1)).2.2.2.2.2.1)))]) := hD
  have hm : m_tw bt due ltr low g0 g1 g2 g3 g4 sn cl p0 p1 = ((m_th due ltr low g1 g2 g3 g4 sn cl (m_numberIn bt p0 p1)).1, (m_th due ltr low g1 g2 g3 g4 sn cl (m_numberIn bt p0 p1)).2.1, ltr, low, g0, (m_th due ltr low g1 g2 g3 g4 sn cl (m_numberIn bt p0 p1)).2.2.1, (m_th due ltr low g1 g2 g3 g4 sn cl (m_numberIn bt p0 p1)).2.2.2.1, (m_th due ltr low g1 g2 g3 g4 sn cl (m_numberIn bt p0 p1)).2.2.2.2.1, (m_th due ltr low g1 g2 g3 g4 sn cl (m_numberIn bt p0 p1)).2.2.2.2.2.1, sn, (m_th due ltr low g1 g2 g3 g4 sn cl (m_numberIn bt p0 p1)).2.2.2.2.2.2) := by simp [m_tw, eq_false e_1, eq_false e_3, eq_false e_6, eq_false e_11]
  rw [hm]
  have hP9 := hP.sub (ws' := [(h0, .inr (4, [.ref b0, .int len, .int ((m_th due ltr low g1 g2 g3 g4 sn cl (m_numberIn bt p0 p1)).2.1), .int ltr, .int low])), (b0, .inl (kb, 600, .inl bt)), (h1, .inr (3, [.ref a0, .ref a1, .int sn, .ref a2, .ref a3, .ref a4, .int ((m_th due ltr low g1 g2 g3 g4 sn cl (m_numberIn bt p0 p1)).2.2.2.2.2.2)])), (a0, .inl (k0, 20, .inl g0)), (a1, .inl (k1, 20, .inl ((m_th due ltr low g1 g2 g3 g4 sn cl (m_numberIn bt p0 p1)).2.2.1))), (a2, .inl (k2, 100, .inl ((m_th due ltr low g1 g2 g3 g4 sn cl (m_numberIn bt p0 p1)).2.2.2.1))), (a3, .inl (k3, 100, .inl ((m_th due ltr low g1 g2 g3 g4 sn cl (m_numberIn bt p0 p1)).2.2.2.2.1))), (a4, .inl (k4, 100, .inl ((m_th due ltr low g1 g2 g3 g4 sn cl (m_numberIn bt p0 p1)).2.2.2.2.2.1)))]) [0, 1, 2, 3, 4, 5, 6, 7] rfl
  have hD9 := hD.sub (ws' := [(h0, .inr (4, [.ref b0, .int len, .int ((m_th due ltr low g1 g2 g3 g4 sn cl (m_numberIn bt p0 p1)).2.1), .int ltr, .int low])), (b0, .inl (kb, 600, .inl bt)), (h1, .inr (3, [.ref a0, .ref a1, .int sn, .ref a2, .ref a3, .ref a4, .int ((m_th due ltr low g1 g2 g3 g4 sn cl (m_numberIn bt p0 p1)).2.2.2.2.2.2)])), (a0, .inl (k0, 20, .inl g0)), (a1, .inl (k1, 20, .inl ((m_th due ltr low g1 g2 g3 g4 sn cl (m_numberIn bt p0 p1)).2.2.1))), (a2, .inl (k2, 100, .inl ((m_th due ltr low g1 g2 g3 g4 sn cl (m_numberIn bt p0 p1)).2.2.2.1))), (a3, .inl (k3, 100, .inl ((m_th due ltr low g1 g2 g3 g4 sn cl (m_numberIn bt p0 p1)).2.2.2.2.1))), (a4, .inl (k4, 100, .inl ((m_th due ltr low g1 g2 g3 g4 sn cl (m_numberIn bt p0 p1)).2.2.2.2.2.1)))]) [0, 1, 2, 3, 4, 5, 6, 7] (by decide) rfl
  have hK9 := hK.sub (tys' := [(kb, .char), (k0, .int), (k1, .int), (k2, .char), (k3, .int), (k4, .int)]) [0, 1, 2, 3, 4, 5] rfl
  exact W.zret (v := (m_th due ltr low g1 g2 g3 g4 sn cl (m_numberIn bt p0 p1)).1) hx hb hr (cx_z m_th_z) (fun t ht hW => ⟨⟨_, (), rfl, rfl, by rw [ht]; exact hP9, va_K.moved hW.alike hK9, hD9⟩, hS.F ht⟩) hS.2.2 d_Text_takeWord_103

set_option maxHeartbeats 4000000 in
set_option maxRecDepth 100000 in
/-- readInto -/
theorem c_Text_readInto (l : Launch) (D : va_G)  (h0 : Nat) (b0 : Nat) (kb : ClassId) (bt : Nat → Int32) (len : Int32) (due : Int32) (ltr : Int32) (low : Int32) (h1 : Nat) (a0 : Nat) (a1 : Nat) (a2 : Nat) (a3 : Nat) (a4 : Nat) (k0 : ClassId) (k1 : ClassId) (k2 : ClassId) (k3 : ClassId) (k4 : ClassId) (g0 : Nat → Int32) (g1 : Nat → Int32) (g2 : Nat → Int32) (g3 : Nat → Int32) (g4 : Nat → Int32) (sn : Int32) (cl : Int32) (sz : Nat) (hln : len ≤ 600) : Met l y_Text_readInto ws_Text_readInto ({ frames := 7, cells := 0, slots := 0, locals := 154 }) (va_Pc [.ref h0, .ref h1] (cx_pre D [(kb, .char), (k0, .int), (k1, .int), (k2, .char), (k3, .int), (k4, .int)] ([(h0, .inr (4, [.ref b0, .int len, .int due, .int ltr, .int low])), (b0, .inl (kb, 600, .inl bt)), (h1, .inr (3, [.ref a0, .ref a1, .int sn, .ref a2, .ref a3, .ref a4, .int cl])), (a0, .inl (k0, 20, .inl g0)), (a1, .inl (k1, 20, .inl g1)), (a2, .inl (k2, 100, .inl g2)), (a3, .inl (k3, 100, .inl g3)), (a4, .inl (k4, 100, .inl g4))]) sz)) (va_Qi (fun r9 _ => r9 = (m_rd bt len 602 0 0 0 0 ltr low g0 g1 g2 g3 g4 0 0).1) (fun (_ : Unit) t => cx_end D [(kb, .char), (k0, .int), (k1, .int), (k2, .char), (k3, .int), (k4, .int)] (va_A ([(h0, .inr (4, [.ref b0, .int len, .int due, .int ltr, .int low])), (b0, .inl (kb, 600, .inl bt)), (h1, .inr (3, [.ref a0, .ref a1, .int sn, .ref a2, .ref a3, .ref a4, .int cl])), (a0, .inl (k0, 20, .inl g0)), (a1, .inl (k1, 20, .inl g1)), (a2, .inl (k2, 100, .inl g2)), (a3, .inl (k3, 100, .inl g3)), (a4, .inl (k4, 100, .inl g4))]) sz) ([(h0, .inr (4, [.ref b0, .int len, .int ((m_rd bt len 602 0 0 0 0 ltr low g0 g1 g2 g3 g4 0 0).2.1), .int ((m_rd bt len 602 0 0 0 0 ltr low g0 g1 g2 g3 g4 0 0).2.2.1), .int ((m_rd bt len 602 0 0 0 0 ltr low g0 g1 g2 g3 g4 0 0).2.2.2.1)])), (b0, .inl (kb, 600, .inl bt)), (h1, .inr (3, [.ref a0, .ref a1, .int ((m_rd bt len 602 0 0 0 0 ltr low g0 g1 g2 g3 g4 0 0).2.2.2.2.2.2.2.2.2.1), .ref a2, .ref a3, .ref a4, .int ((m_rd bt len 602 0 0 0 0 ltr low g0 g1 g2 g3 g4 0 0).2.2.2.2.2.2.2.2.2.2)])), (a0, .inl (k0, 20, .inl ((m_rd bt len 602 0 0 0 0 ltr low g0 g1 g2 g3 g4 0 0).2.2.2.2.1))), (a1, .inl (k1, 20, .inl ((m_rd bt len 602 0 0 0 0 ltr low g0 g1 g2 g3 g4 0 0).2.2.2.2.2.1))), (a2, .inl (k2, 100, .inl ((m_rd bt len 602 0 0 0 0 ltr low g0 g1 g2 g3 g4 0 0).2.2.2.2.2.2.1))), (a3, .inl (k3, 100, .inl ((m_rd bt len 602 0 0 0 0 ltr low g0 g1 g2 g3 g4 0 0).2.2.2.2.2.2.2.1))), (a4, .inl (k4, 100, .inl ((m_rd bt len 602 0 0 0 0 ltr low g0 g1 g2 g3 g4 0 0).2.2.2.2.2.2.2.2.1)))]) t) (va_A ([(h0, .inr (4, [.ref b0, .int len, .int due, .int ltr, .int low])), (b0, .inl (kb, 600, .inl bt)), (h1, .inr (3, [.ref a0, .ref a1, .int sn, .ref a2, .ref a3, .ref a4, .int cl])), (a0, .inl (k0, 20, .inl g0)), (a1, .inl (k1, 20, .inl g1)), (a2, .inl (k2, 100, .inl g2)), (a3, .inl (k3, 100, .inl g3)), (a4, .inl (k4, 100, .inl g4))]) sz)) 0 0 (va_A ([(h0, .inr (4, [.ref b0, .int len, .int due, .int ltr, .int low])), (b0, .inl (kb, 600, .inl bt)), (h1, .inr (3, [.ref a0, .ref a1, .int sn, .ref a2, .ref a3, .ref a4, .int cl])), (a0, .inl (k0, 20, .inl g0)), (a1, .inl (k1, 20, .inl g1)), (a2, .inl (k2, 100, .inl g2)), (a3, .inl (k3, 100, .inl g3)), (a4, .inl (k4, 100, .inl g4))]) sz) := by
  refine Met.ofW (cc := b_Text_readInto) (maxL := 5) (ret := (some .int)) (by decide) rfl ?_
  intro p e s m args below meth c s₁ B hml hv
  obtain ⟨rfl, hsz, hP, hK, hD0, hN, hO⟩ := hv
  have hx := B.exec
  have hb := B.bytes
  have hr := B.returns
  have hts := fun (w : Cond) (h : w ∈ cx_tbl) => atoms_spec (ws := ws_Text_readInto) B.pre w (List.mem_cons_of_mem _ h)
  have hown : s.vm.findClass R_Text = some m.cls := findClass_of_methodNamed B.named
  have hlocks := B.notSynchronized
  subst hsz
  have hD := hD0.self (sz := s.heap.size)
  generalize hAe : va_A ([(h0, .inr (4, [.ref b0, .int len, .int due, .int ltr, .int low])), (b0, .inl (kb, 600, .inl bt)), (h1, .inr (3, [.ref a0, .ref a1, .int sn, .ref a2, .ref a3, .ref a4, .int cl])), (a0, .inl (k0, 20, .inl g0)), (a1, .inl (k1, 20, .inl g1)), (a2, .inl (k2, 100, .inl g2)), (a3, .inl (k3, 100, .inl g3)), (a4, .inl (k4, 100, .inl g4))]) s.heap.size = A at hD hO ⊢
  have hA : ∀ q : Nat, s.heap.size ≤ q → A q := fun q h => by rw [← hAe]; exact Or.inr h
  have hS : va_S A s.heap s.heap [] := va_S.rf
  have hl := lv_entry ([.ref h0, .ref h1]) (n := 5) (Nat.le_of_ble_eq_true rfl)
  rw [lg_entry_eq]
  generalize (lg_sl ([.ref h0, .ref h1]) ++ List.replicate (5 - (lg_sl ([.ref h0, .ref h1])).length) Slot.unset).toArray = ls at hl ⊢
  have hl : lv_has ls 5 [(0, .ref h0), (1, .ref h1)] := hl
  refine cx_q (fun Q hQ => ?_)
  refine lv_aload_n hx hb d_Text_readInto_0 rfl (lv_at hl 1 rfl) ?_
  have hPc := hP.sub (ws' := [(h1, .inr (3, [.ref a0, .ref a1, .int sn, .ref a2, .ref a3, .ref a4, .int cl])), (a0, .inl (k0, 20, .inl g0)), (a1, .inl (k1, 20, .inl g1)), (a2, .inl (k2, 100, .inl g2)), (a3, .inl (k3, 100, .inl g3)), (a4, .inl (k4, 100, .inl g4))]) [2, 3, 4, 5, 6, 7] rfl
  have hDc := hD.sub (ws' := [(h1, .inr (3, [.ref a0, .ref a1, .int sn, .ref a2, .ref a3, .ref a4, .int cl])), (a0, .inl (k0, 20, .inl g0)), (a1, .inl (k1, 20, .inl g1)), (a2, .inl (k2, 100, .inl g2)), (a3, .inl (k3, 100, .inl g3)), (a4, .inl (k4, 100, .inl g4))]) [2, 3, 4, 5, 6, 7] (by decide) rfl
  have hKc := hK.sub (tys' := [(k0, .int), (k1, .int), (k2, .char), (k3, .int), (k4, .int)]) [1, 2, 3, 4, 5] rfl
  have hFc := va_free (wc := [(h1, .inr (3, [.ref a0, .ref a1, .int sn, .ref a2, .ref a3, .ref a4, .int cl])), (a0, .inl (k0, 20, .inl g0)), (a1, .inl (k1, 20, .inl g1)), (a2, .inl (k2, 100, .inl g2)), (a3, .inl (k3, 100, .inl g3)), (a4, .inl (k4, 100, .inl g4))]) hD hS hA [2, 3, 4, 5, 6, 7] rfl
  refine cx_joinv (wc := [(h1, .inr (3, [.ref a0, .ref a1, .int sn, .ref a2, .ref a3, .ref a4, .int cl])), (a0, .inl (k0, 20, .inl g0)), (a1, .inl (k1, 20, .inl g1)), (a2, .inl (k2, 100, .inl g2)), (a3, .inl (k3, 100, .inl g3)), (a4, .inl (k4, 100, .inl g4))]) (wr := [(h0, .inr (4, [.ref b0, .int len, .int due, .int ltr, .int low])), (b0, .inl (kb, 600, .inl bt))]) hP hD hS hA [2, 3, 4, 5, 6, 7] [0, 1] rfl rfl (by decide) (by decide) (va_runV (As := []) (rest := [])  ⟨hx, hb, hml, hown, hts⟩ (c_Set_clear l D h1 a0 a1 a2 a3 a4 k0 k1 k2 k3 k4 g0 g1 g2 g3 g4 sn cl s.heap.size ) ⟨callB_of 0 hts cg_Set_clear rfl rfl rfl (hts _ cw_3) (hts _ cw_360) (by decide +kernel) ⟨Nat.le_of_ble_eq_true rfl, Nat.le_of_ble_eq_true rfl⟩, hts _ cw_361, hts _ cw_362⟩ (cx_preV (C := R_Set) [] hPc hKc hDc hN hO hS hFc (ci := 3) (q0 := 0) rfl rfl rfl) rfl rfl hl.1 rfl (lv_room (Nat.le_of_ble_eq_true rfl)) d_Text_readInto_1 ⟨Nat.le_of_ble_eq_true rfl, Nat.le_of_ble_eq_true rfl⟩) (fun _ H locs z_1 hK1 hP hD hS => ?_)
  have hP : va_P D classes ([(h0, .inr (4, [.ref b0, .int len, .int due, .int ltr, .int low])), (b0, .inl (kb, 600, .inl bt)), (h1, .inr (3, [.ref a0, .ref a1, .int 0, .ref a2, .ref a3, .ref a4, .int 0])), (a0, .inl (k0, 20, .inl g0)), (a1, .inl (k1, 20, .inl g1)), (a2, .inl (k2, 100, .inl g2)), (a3, .inl (k3, 100, .inl g3)), (a4, .inl (k4, 100, .inl g4))]) H := hP
  have hD : va_D A ([(h0, .inr (4, [.ref b0, .int len, .int due, .int ltr, .int low])), (b0, .inl (kb, 600, .inl bt)), (h1, .inr (3, [.ref a0, .ref a1, .int 0, .ref a2, .ref a3, .ref a4, .int 0])), (a0, .inl (k0, 20, .inl g0)), (a1, .inl (k1, 20, .inl g1)), (a2, .inl (k2, 100, .inl g2)), (a3, .inl (k3, 100, .inl g3)), (a4, .inl (k4, 100, .inl g4))]) := hD
  refine lv_aload_n hx hb d_Text_readInto_4 rfl (lv_at hl 0 rfl) ?_
  refine lv_iconst (v := 0) hx hb d_Text_readInto_5 (by decide) ?_
  refine va_put (D := D) (ci := 4) (v := .int 0) (ty := .int) (C := R_Text) (T := T_Text) (N := 5) hx hb hts in_Text ty_Text tyok_Text nm_Text hown hK hP hD hS 0 rfl rfl 2 (by decide) (hts _ cw_38) (fun _ h9 => h9) rfl (by decide +kernel) rfl rfl (Nat.le_of_ble_eq_true rfl) d_Text_readInto_6 (fun H locs hP hD hS => ?_)
  have hP : va_P D classes ([(h0, .inr (4, [.ref b0, .int len, .int 0, .int ltr, .int low])), (b0, .inl (kb, 600, .inl bt)), (h1, .inr (3, [.ref a0, .ref a1, .int 0, .ref a2, .ref a3, .ref a4, .int 0])), (a0, .inl (k0, 20, .inl g0)), (a1, .inl (k1, 20, .inl g1)), (a2, .inl (k2, 100, .inl g2)), (a3, .inl (k3, 100, .inl g3)), (a4, .inl (k4, 100, .inl g4))]) H := hP
  have hD : va_D A ([(h0, .inr (4, [.ref b0, .int len, .int 0, .int ltr, .int low])), (b0, .inl (kb, 600, .inl bt)), (h1, .inr (3, [.ref a0, .ref a1, .int 0, .ref a2, .ref a3, .ref a4, .int 0])), (a0, .inl (k0, 20, .inl g0)), (a1, .inl (k1, 20, .inl g1)), (a2, .inl (k2, 100, .inl g2)), (a3, .inl (k3, 100, .inl g3)), (a4, .inl (k4, 100, .inl g4))]) := hD
  refine lv_iconst (v := 0) hx hb d_Text_readInto_9 (by decide) ?_
  refine lv_istore_n (lv' := [(2, .int 0), (0, .ref h0), (1, .ref h1)]) hx hb d_Text_readInto_10 rfl hl (by decide) rfl (fun ls hl => ?_)
  refine lv_iconst (v := 0) hx hb d_Text_readInto_11 (by decide) ?_
  refine lv_istore_n (lv' := [(3, .int 0), (2, .int 0), (0, .ref h0), (1, .ref h1)]) hx hb d_Text_readInto_12 rfl hl (by decide) rfl (fun ls hl => ?_)
  refine lv_iconst (v := 0) hx hb d_Text_readInto_13 (by decide) ?_
  refine lv_istore (lv' := [(4, .int 0), (3, .int 0), (2, .int 0), (0, .ref h0), (1, .ref h1)]) hx hb d_Text_readInto_14 hl (by decide) rfl (fun ls hl => ?_)
  have loop_2 : ∀ (n : Nat) (x : Int32) (bg : Int32) (wd : Int32) (xd : Int32) (xl : Int32) (xw : Int32) (y0 : Nat → Int32) (y1 : Nat → Int32) (y2 : Nat → Int32) (y3 : Nat → Int32) (y4 : Nat → Int32) (ys : Int32) (yc : Int32) (hn : (601 - x.toInt).toNat < n) (hg : m_rd bt len 602 0 0 0 0 ltr low g0 g1 g2 g3 g4 0 0 = m_rd bt len n x bg wd xd xl xw y0 y1 y2 y3 y4 ys yc) (hx0 : ¬ x < 0) (H : Heap) (locs : List Loc) (hP : va_P D classes ([(h0, .inr (4, [.ref b0, .int len, .int xd, .int xl, .int xw])), (b0, .inl (kb, 600, .inl bt)), (h1, .inr (3, [.ref a0, .ref a1, .int ys, .ref a2, .ref a3, .ref a4, .int yc])), (a0, .inl (k0, 20, .inl y0)), (a1, .inl (k1, 20, .inl y1)), (a2, .inl (k2, 100, .inl y2)), (a3, .inl (k3, 100, .inl y3)), (a4, .inl (k4, 100, .inl y4))]) H) (hD : va_D A ([(h0, .inr (4, [.ref b0, .int len, .int xd, .int xl, .int xw])), (b0, .inl (kb, 600, .inl bt)), (h1, .inr (3, [.ref a0, .ref a1, .int ys, .ref a2, .ref a3, .ref a4, .int yc])), (a0, .inl (k0, 20, .inl y0)), (a1, .inl (k1, 20, .inl y1)), (a2, .inl (k2, 100, .inl y2)), (a3, .inl (k3, 100, .inl y3)), (a4, .inl (k4, 100, .inl y4))])) (hS : va_S A s.heap H locs) (ls : Array Slot) (hl : lv_has ls 5 [(0, .ref h0), (1, .ref h1), (2, .int wd), (3, .int bg), (4, .int x)]), W p l e ({ frames := 7, cells := 0, slots := 0, locals := 154 }) s m [.ref h0, .ref h1].toArray below meth c H locs 0 0 Q (F0 m 16 ls []) := by
    intro n
    induction n with
    | zero =>
      intro x bg wd xd xl xw y0 y1 y2 y3 y4 ys yc hn hg hx0 H locs hP hD hS ls hl
      exact absurd hn (Nat.not_lt_zero _)
    | succ n ih_16 =>
      intro x bg wd xd xl xw y0 y1 y2 y3 y4 ys yc hn hg hx0 H locs hP hD hS ls hl
      refine lv_iload hx hb d_Text_readInto_16 (lv_at hl 4 rfl) ?_
      refine lv_aload_n hx hb d_Text_readInto_18 rfl (lv_at hl 0 rfl) ?_
      refine va_get (D := D) (ci := 4) (v := .int len) (C := R_Text) (T := T_Text) (N := 5) hx hb hts in_Text hown hK hP 0 rfl rfl 1 (by decide) (hts _ cw_37) (fun _ h9 => h9) rfl d_Text_readInto_19 ?_
      refine lv_icmp_gt (tgt := 95) hx hb d_Text_readInto_22 (by decide) (fun c_3 => ?_) (fun c_3 => ?_)
      · refine lv_aload_n hx hb d_Text_readInto_95 rfl (lv_at hl 0 rfl) ?_
        refine va_get (D := D) (ci := 4) (v := .int xd) (C := R_Text) (T := T_Text) (N := 5) hx hb hts in_Text hown hK hP 0 rfl rfl 2 (by decide) (hts _ cw_38) (fun _ h9 => h9) rfl d_Text_readInto_96 ?_
        refine lv_if_eq (tgt := 110) hx hb d_Text_readInto_99 (by decide) (fun c_4 => ?_) (fun c_4 => ?_)
        · refine lv_iconst (v := 1) hx hb d_Text_readInto_110 (by decide) ?_
          refine lv_goto (tgt := 115) hx hb d_Text_readInto_111 (by decide) ?_
          refine lv_istore (lv' := [(4, .int 1), (0, .ref h0), (1, .ref h1), (2, .int wd), (3, .int bg)]) hx hb d_Text_readInto_115 hl (by decide) rfl (fun ls hl => ?_)
          refine lv_iload hx hb d_Text_readInto_117 (lv_at hl 0 rfl) ?_
          refine lv_if_eq (tgt := 129) hx hb d_Text_readInto_119 (by decide) (fun c_5 => ?_) (fun c_5 => ?_)
          · exact absurd c_5 (by decide)
          · refine lv_aload_n hx hb d_Text_readInto_122 rfl (lv_at hl 2 rfl) ?_
            refine va_getN (D := D) (ci := 3) (v := .int ys) (C := R_Set) (T := T_Set) (N := 7) hx hb hts in_Set hown hK hP 2 rfl rfl 2 (by decide) (va_Nw.use rfl (hN _ cn_62)) (fun _ h9 => h9) rfl d_Text_readInto_123 ?_
            refine lv_goto (tgt := 132) hx hb d_Text_readInto_126 (by decide) ?_
            subst hQ
            have hm : m_rd bt len 602 0 0 0 0 ltr low g0 g1 g2 g3 g4 0 0 = (ys, xd, xl, xw, y0, y1, y2, y3, y4, ys, yc) := hg.trans (by rw [m_rd]; simp [eq_true c_3, eq_true c_4])
            rw [hm]
            have hP9 := hP.sub (ws' := [(h0, .inr (4, [.ref b0, .int len, .int xd, .int xl, .int xw])), (b0, .inl (kb, 600, .inl bt)), (h1, .inr (3, [.ref a0, .ref a1, .int ys, .ref a2, .ref a3, .ref a4, .int yc])), (a0, .inl (k0, 20, .inl y0)), (a1, .inl (k1, 20, .inl y1)), (a2, .inl (k2, 100, .inl y2)), (a3, .inl (k3, 100, .inl y3)), (a4, .inl (k4, 100, .inl y4))]) [0, 1, 2, 3, 4, 5, 6, 7] rfl
            have hD9 := hD.sub (ws' := [(h0, .inr (4, [.ref b0, .int len, .int xd, .int xl, .int xw])), (b0, .inl (kb, 600, .inl bt)), (h1, .inr (3, [.ref a0, .ref a1, .int ys, .ref a2, .ref a3, .ref a4, .int yc])), (a0, .inl (k0, 20, .inl y0)), (a1, .inl (k1, 20, .inl y1)), (a2, .inl (k2, 100, .inl y2)), (a3, .inl (k3, 100, .inl y3)), (a4, .inl (k4, 100, .inl y4))]) [0, 1, 2, 3, 4, 5, 6, 7] (by decide) rfl
            have hK9 := hK.sub (tys' := [(kb, .char), (k0, .int), (k1, .int), (k2, .char), (k3, .int), (k4, .int)]) [0, 1, 2, 3, 4, 5] rfl
            exact W.iret (v := ys) hx hb hr (fun t ht hW => ⟨⟨_, (), rfl, rfl, by rw [ht]; exact hP9, va_K.moved hW.alike hK9, hD9⟩, hS.F ht⟩) hS.2.2 d_Text_readInto_132
        · refine lv_aload_n hx hb d_Text_readInto_102 rfl (lv_at hl 0 rfl) ?_
          refine va_get (D := D) (ci := 4) (v := .int xd) (C := R_Text) (T := T_Text) (N := 5) hx hb hts in_Text hown hK hP 0 rfl rfl 2 (by decide) (hts _ cw_38) (fun _ h9 => h9) rfl d_Text_readInto_103 ?_
          refine lv_iconst (v := 2) hx hb d_Text_readInto_106 (by decide) ?_
          refine lv_icmp_ne (tgt := 114) hx hb d_Text_readInto_107 (by decide) (fun c_6 => ?_) (fun c_6 => ?_)
          · refine lv_iconst (v := 0) hx hb d_Text_readInto_114 (by decide) ?_
            refine lv_istore (lv' := [(4, .int 0), (0, .ref h0), (1, .ref h1), (2, .int wd), (3, .int bg)]) hx hb d_Text_readInto_115 hl (by decide) rfl (fun ls hl => ?_)
            refine lv_iload hx hb d_Text_readInto_117 (lv_at hl 0 rfl) ?_
            refine lv_if_eq (tgt := 129) hx hb d_Text_readInto_119 (by decide) (fun c_7 => ?_) (fun c_7 => ?_)
            · refine lv_iconst (v := (-1)) hx hb d_Text_readInto_129 (by decide) ?_
              refine lv_iload_n hx hb d_Text_readInto_130 rfl (lv_at hl 3 rfl) ?_
              refine lv_isub hx hb d_Text_readInto_131 ?_
              subst hQ
              have hm : m_rd bt len 602 0 0 0 0 ltr low g0 g1 g2 g3 g4 0 0 = ((-1) - wd, xd, xl, xw, y0, y1, y2, y3, y4, ys, yc) := hg.trans (by rw [m_rd]; simp [eq_true c_3, eq_false c_4, eq_false c_6])
              rw [hm]
              have hP9 := hP.sub (ws' := [(h0, .inr (4, [.ref b0, .int len, .int xd, .int xl, .int xw])), (b0, .inl (kb, 600, .inl bt)), (h1, .inr (3, [.ref a0, .ref a1, .int ys, .ref a2, .ref a3, .ref a4, .int yc])), (a0, .inl (k0, 20, .inl y0)), (a1, .inl (k1, 20, .inl y1)), (a2, .inl (k2, 100, .inl y2)), (a3, .inl (k3, 100, .inl y3)), (a4, .inl (k4, 100, .inl y4))]) [0, 1, 2, 3, 4, 5, 6, 7] rfl
              have hD9 := hD.sub (ws' := [(h0, .inr (4, [.ref b0, .int len, .int xd, .int xl, .int xw])), (b0, .inl (kb, 600, .inl bt)), (h1, .inr (3, [.ref a0, .ref a1, .int ys, .ref a2, .ref a3, .ref a4, .int yc])), (a0, .inl (k0, 20, .inl y0)), (a1, .inl (k1, 20, .inl y1)), (a2, .inl (k2, 100, .inl y2)), (a3, .inl (k3, 100, .inl y3)), (a4, .inl (k4, 100, .inl y4))]) [0, 1, 2, 3, 4, 5, 6, 7] (by decide) rfl
              have hK9 := hK.sub (tys' := [(kb, .char), (k0, .int), (k1, .int), (k2, .char), (k3, .int), (k4, .int)]) [0, 1, 2, 3, 4, 5] rfl
              exact W.iret (v := (-1) - wd) hx hb hr (fun t ht hW => ⟨⟨_, (), rfl, rfl, by rw [ht]; exact hP9, va_K.moved hW.alike hK9, hD9⟩, hS.F ht⟩) hS.2.2 d_Text_readInto_132
            · exact absurd c_7 (by decide)
          · refine lv_iconst (v := 1) hx hb d_Text_readInto_110 (by decide) ?_
            refine lv_goto (tgt := 115) hx hb d_Text_readInto_111 (by decide) ?_
            refine lv_istore (lv' := [(4, .int 1), (0, .ref h0), (1, .ref h1), (2, .int wd), (3, .int bg)]) hx hb d_Text_readInto_115 hl (by decide) rfl (fun ls hl => ?_)
            refine lv_iload hx hb d_Text_readInto_117 (lv_at hl 0 rfl) ?_
            refine lv_if_eq (tgt := 129) hx hb d_Text_readInto_119 (by decide) (fun c_8 => ?_) (fun c_8 => ?_)
            · exact absurd c_8 (by decide)
            · refine lv_aload_n hx hb d_Text_readInto_122 rfl (lv_at hl 2 rfl) ?_
              refine va_getN (D := D) (ci := 3) (v := .int ys) (C := R_Set) (T := T_Set) (N := 7) hx hb hts in_Set hown hK hP 2 rfl rfl 2 (by decide) (va_Nw.use rfl (hN _ cn_62)) (fun _ h9 => h9) rfl d_Text_readInto_123 ?_
              refine lv_goto (tgt := 132) hx hb d_Text_readInto_126 (by decide) ?_
              subst hQ
              have hm : m_rd bt len 602 0 0 0 0 ltr low g0 g1 g2 g3 g4 0 0 = (ys, xd, xl, xw, y0, y1, y2, y3, y4, ys, yc) := hg.trans (by rw [m_rd]; simp [eq_true c_3, eq_false c_4, eq_true c_6])
              rw [hm]
              have hP9 := hP.sub (ws' := [(h0, .inr (4, [.ref b0, .int len, .int xd, .int xl, .int xw])), (b0, .inl (kb, 600, .inl bt)), (h1, .inr (3, [.ref a0, .ref a1, .int ys, .ref a2, .ref a3, .ref a4, .int yc])), (a0, .inl (k0, 20, .inl y0)), (a1, .inl (k1, 20, .inl y1)), (a2, .inl (k2, 100, .inl y2)), (a3, .inl (k3, 100, .inl y3)), (a4, .inl (k4, 100, .inl y4))]) [0, 1, 2, 3, 4, 5, 6, 7] rfl
              have hD9 := hD.sub (ws' := [(h0, .inr (4, [.ref b0, .int len, .int xd, .int xl, .int xw])), (b0, .inl (kb, 600, .inl bt)), (h1, .inr (3, [.ref a0, .ref a1, .int ys, .ref a2, .ref a3, .ref a4, .int yc])), (a0, .inl (k0, 20, .inl y0)), (a1, .inl (k1, 20, .inl y1)), (a2, .inl (k2, 100, .inl y2)), (a3, .inl (k3, 100, .inl y3)), (a4, .inl (k4, 100, .inl y4))]) [0, 1, 2, 3, 4, 5, 6, 7] (by decide) rfl
              have hK9 := hK.sub (tys' := [(kb, .char), (k0, .int), (k1, .int), (k2, .char), (k3, .int), (k4, .int)]) [0, 1, 2, 3, 4, 5] rfl
              exact W.iret (v := ys) hx hb hr (fun t ht hW => ⟨⟨_, (), rfl, rfl, by rw [ht]; exact hP9, va_K.moved hW.alike hK9, hD9⟩, hS.F ht⟩) hS.2.2 d_Text_readInto_132
      · refine lv_iload hx hb d_Text_readInto_25 (lv_at hl 4 rfl) ?_
        refine lv_aload_n hx hb d_Text_readInto_27 rfl (lv_at hl 0 rfl) ?_
        refine va_get (D := D) (ci := 4) (v := .int len) (C := R_Text) (T := T_Text) (N := 5) hx hb hts in_Text hown hK hP 0 rfl rfl 1 (by decide) (hts _ cw_37) (fun _ h9 => h9) rfl d_Text_readInto_28 ?_
        refine lv_icmp_ge (tgt := 60) hx hb d_Text_readInto_31 (by decide) (fun c_9 => ?_) (fun c_9 => ?_)
        · refine lv_iload_n hx hb d_Text_readInto_60 rfl (lv_at hl 3 rfl) ?_
          refine lv_iload hx hb d_Text_readInto_61 (lv_at hl 4 rfl) ?_
          refine lv_icmp_ge (tgt := 84) hx hb d_Text_readInto_63 (by decide) (fun c_10 => ?_) (fun c_10 => ?_)
          · refine lv_iload hx hb d_Text_readInto_84 (lv_at hl 4 rfl) ?_
            refine lv_iconst (v := 1) hx hb d_Text_readInto_86 (by decide) ?_
            refine lv_iadd hx hb d_Text_readInto_87 ?_
            refine lv_istore_n (lv' := [(3, .int (x + 1)), (0, .ref h0), (1, .ref h1), (2, .int wd), (4, .int x)]) hx hb d_Text_readInto_88 rfl hl (by decide) rfl (fun ls hl => ?_)
            refine lv_iinc (v := x + 1) (lv' := [(4, .int (x + 1)), (3, .int (x + 1)), (0, .ref h0), (1, .ref h1), (2, .int wd)]) hx hb d_Text_readInto_89 hl (k := 4) rfl (rfl) (by decide) rfl (fun ls hl => ?_)
            refine lv_goto (tgt := 16) hx hb d_Text_readInto_92 (by decide) ?_
            exact ih_16 (x + 1) (x + 1) wd xd xl xw y0 y1 y2 y3 y4 ys yc (ix_up (p := 601) hn (m_rd_h hln c_3)) (hg.trans (by rw [m_rd]; simp [eq_false c_3, eq_true c_9, eq_true c_10])) (ix_up0 hx0 (p := 601) (m_rd_h hln c_3)) _ _ (hP.sub [0, 1, 2, 3, 4, 5, 6, 7] rfl) (hD.sub [0, 1, 2, 3, 4, 5, 6, 7] (by decide) rfl) hS ls (lv_sub hl [2, 3, 4, 1, 0] rfl)
          · refine lv_aload_n hx hb d_Text_readInto_66 rfl (lv_at hl 0 rfl) ?_
            refine lv_aload_n hx hb d_Text_readInto_67 rfl (lv_at hl 1 rfl) ?_
            refine lv_iload_n hx hb d_Text_readInto_68 rfl (lv_at hl 3 rfl) ?_
            refine lv_iload hx hb d_Text_readInto_69 (lv_at hl 4 rfl) ?_
            have hPc := hP.sub (ws' := [(h0, .inr (4, [.ref b0, .int len, .int xd, .int xl, .int xw])), (b0, .inl (kb, 600, .inl bt)), (h1, .inr (3, [.ref a0, .ref a1, .int ys, .ref a2, .ref a3, .ref a4, .int yc])), (a0, .inl (k0, 20, .inl y0)), (a1, .inl (k1, 20, .inl y1)), (a2, .inl (k2, 100, .inl y2)), (a3, .inl (k3, 100, .inl y3)), (a4, .inl (k4, 100, .inl y4))]) [0, 1, 2, 3, 4, 5, 6, 7] rfl
            have hDc := hD.sub (ws' := [(h0, .inr (4, [.ref b0, .int len, .int xd, .int xl, .int xw])), (b0, .inl (kb, 600, .inl bt)), (h1, .inr (3, [.ref a0, .ref a1, .int ys, .ref a2, .ref a3, .ref a4, .int yc])), (a0, .inl (k0, 20, .inl y0)), (a1, .inl (k1, 20, .inl y1)), (a2, .inl (k2, 100, .inl y2)), (a3, .inl (k3, 100, .inl y3)), (a4, .inl (k4, 100, .inl y4))]) [0, 1, 2, 3, 4, 5, 6, 7] (by decide) rfl
            have hKc := hK.sub (tys' := [(kb, .char), (k0, .int), (k1, .int), (k2, .char), (k3, .int), (k4, .int)]) [0, 1, 2, 3, 4, 5] rfl
            have hFc := va_free (wc := [(h0, .inr (4, [.ref b0, .int len, .int xd, .int xl, .int xw])), (b0, .inl (kb, 600, .inl bt)), (h1, .inr (3, [.ref a0, .ref a1, .int ys, .ref a2, .ref a3, .ref a4, .int yc])), (a0, .inl (k0, 20, .inl y0)), (a1, .inl (k1, 20, .inl y1)), (a2, .inl (k2, 100, .inl y2)), (a3, .inl (k3, 100, .inl y3)), (a4, .inl (k4, 100, .inl y4))]) hD hS hA [0, 1, 2, 3, 4, 5, 6, 7] rfl
            refine cx_joini (wc := [(h0, .inr (4, [.ref b0, .int len, .int xd, .int xl, .int xw])), (b0, .inl (kb, 600, .inl bt)), (h1, .inr (3, [.ref a0, .ref a1, .int ys, .ref a2, .ref a3, .ref a4, .int yc])), (a0, .inl (k0, 20, .inl y0)), (a1, .inl (k1, 20, .inl y1)), (a2, .inl (k2, 100, .inl y2)), (a3, .inl (k3, 100, .inl y3)), (a4, .inl (k4, 100, .inl y4))]) (wr := []) hP hD hS hA [0, 1, 2, 3, 4, 5, 6, 7] [] rfl rfl (by decide) (by decide) (va_runV (As := [.ref h1, .int bg, .int x]) (rest := [])  ⟨hx, hb, hml, hown, hts⟩ (c_Text_takeWord l D h0 b0 kb bt len xd xl xw h1 a0 a1 a2 a3 a4 k0 k1 k2 k3 k4 y0 y1 y2 y3 y4 ys yc bg x H.size (m_rd_s hln c_3 c_10)) ⟨callB_of 3 hts cg_Text_takeWord rfl rfl rfl (hts _ cw_2) (hts _ cw_367) (by decide +kernel) ⟨Nat.le_of_ble_eq_true rfl, Nat.le_of_ble_eq_true rfl⟩, hts _ cw_369, hts _ cs_2⟩ (cx_preV (C := R_Text) [.ref h1, .int bg, .int x] hPc hKc hDc hN hO hS hFc (ci := 4) (q0 := 0) rfl rfl rfl) rfl rfl hl.1 rfl (lv_room (Nat.le_of_ble_eq_true rfl)) d_Text_readInto_71 ⟨Nat.le_of_ble_eq_true rfl, Nat.le_of_ble_eq_true rfl⟩) (fun r _ H locs z_11 hK1 hP hD hS => ?_)
            subst z_11
            have hP : va_P D classes ([(h0, .inr (4, [.ref b0, .int len, .int ((m_tw bt xd xl xw y0 y1 y2 y3 y4 ys yc bg x).2.1), .int ((m_tw bt xd xl xw y0 y1 y2 y3 y4 ys yc bg x).2.2.1), .int ((m_tw bt xd xl xw y0 y1 y2 y3 y4 ys yc bg x).2.2.2.1)])), (b0, .inl (kb, 600, .inl bt)), (h1, .inr (3, [.ref a0, .ref a1, .int ((m_tw bt xd xl xw y0 y1 y2 y3 y4 ys yc bg x).2.2.2.2.2.2.2.2.2.1), .ref a2, .ref a3, .ref a4, .int ((m_tw bt xd xl xw y0 y1 y2 y3 y4 ys yc bg x).2.2.2.2.2.2.2.2.2.2)])), (a0, .inl (k0, 20, .inl ((m_tw bt xd xl xw y0 y1 y2 y3 y4 ys yc bg x).2.2.2.2.1))), (a1, .inl (k1, 20, .inl ((m_tw bt xd xl xw y0 y1 y2 y3 y4 ys yc bg x).2.2.2.2.2.1))), (a2, .inl (k2, 100, .inl ((m_tw bt xd xl xw y0 y1 y2 y3 y4 ys yc bg x).2.2.2.2.2.2.1))), (a3, .inl (k3, 100, .inl ((m_tw bt xd xl xw y0 y1 y2 y3 y4 ys yc bg x).2.2.2.2.2.2.2.1))), (a4, .inl (k4, 100, .inl ((m_tw bt xd xl xw y0 y1 y2 y3 y4 ys yc bg x).2.2.2.2.2.2.2.2.1)))]) H := hP
            have hD : va_D A ([(h0, .inr (4, [.ref b0, .int len, .int ((m_tw bt xd xl xw y0 y1 y2 y3 y4 ys yc bg x).2.1), .int ((m_tw bt xd xl xw y0 y1 y2 y3 y4 ys yc bg x).2.2.1), .int ((m_tw bt xd xl xw y0 y1 y2 y3 y4 ys yc bg x).2.2.2.1)])), (b0, .inl (kb, 600, .inl bt)), (h1, .inr (3, [.ref a0, .ref a1, .int ((m_tw bt xd xl xw y0 y1 y2 y3 y4 ys yc bg x).2.2.2.2.2.2.2.2.2.1), .ref a2, .ref a3, .ref a4, .int ((m_tw bt xd xl xw y0 y1 y2 y3 y4 ys yc bg x).2.2.2.2.2.2.2.2.2.2)])), (a0, .inl (k0, 20, .inl ((m_tw bt xd xl xw y0 y1 y2 y3 y4 ys yc bg x).2.2.2.2.1))), (a1, .inl (k1, 20, .inl ((m_tw bt xd xl xw y0 y1 y2 y3 y4 ys yc bg x).2.2.2.2.2.1))), (a2, .inl (k2, 100, .inl ((m_tw bt xd xl xw y0 y1 y2 y3 y4 ys yc bg x).2.2.2.2.2.2.1))), (a3, .inl (k3, 100, .inl ((m_tw bt xd xl xw y0 y1 y2 y3 y4 ys yc bg x).2.2.2.2.2.2.2.1))), (a4, .inl (k4, 100, .inl ((m_tw bt xd xl xw y0 y1 y2 y3 y4 ys yc bg x).2.2.2.2.2.2.2.2.1)))]) := hD
            refine lv_if_ne (tgt := 81) hx hb d_Text_readInto_74 (by decide) (fun c_12 => ?_) (fun c_12 => ?_)
            · refine lv_iinc (v := wd + 1) (lv' := [(2, .int (wd + 1)), (0, .ref h0), (1, .ref h1), (3, .int bg), (4, .int x)]) hx hb d_Text_readInto_81 hl (k := 2) rfl (rfl) (by decide) rfl (fun ls hl => ?_)
              refine lv_iload hx hb d_Text_readInto_84 (lv_at hl 4 rfl) ?_
              refine lv_iconst (v := 1) hx hb d_Text_readInto_86 (by decide) ?_
              refine lv_iadd hx hb d_Text_readInto_87 ?_
              refine lv_istore_n (lv' := [(3, .int (x + 1)), (2, .int (wd + 1)), (0, .ref h0), (1, .ref h1), (4, .int x)]) hx hb d_Text_readInto_88 rfl hl (by decide) rfl (fun ls hl => ?_)
              refine lv_iinc (v := x + 1) (lv' := [(4, .int (x + 1)), (3, .int (x + 1)), (2, .int (wd + 1)), (0, .ref h0), (1, .ref h1)]) hx hb d_Text_readInto_89 hl (k := 4) rfl (rfl) (by decide) rfl (fun ls hl => ?_)
              refine lv_goto (tgt := 16) hx hb d_Text_readInto_92 (by decide) ?_
              exact ih_16 (x + 1) (x + 1) (wd + 1) ((m_tw bt xd xl xw y0 y1 y2 y3 y4 ys yc bg x).2.1) ((m_tw bt xd xl xw y0 y1 y2 y3 y4 ys yc bg x).2.2.1) ((m_tw bt xd xl xw y0 y1 y2 y3 y4 ys yc bg x).2.2.2.1) ((m_tw bt xd xl xw y0 y1 y2 y3 y4 ys yc bg x).2.2.2.2.1) ((m_tw bt xd xl xw y0 y1 y2 y3 y4 ys yc bg x).2.2.2.2.2.1) ((m_tw bt xd xl xw y0 y1 y2 y3 y4 ys yc bg x).2.2.2.2.2.2.1) ((m_tw bt xd xl xw y0 y1 y2 y3 y4 ys yc bg x).2.2.2.2.2.2.2.1) ((m_tw bt xd xl xw y0 y1 y2 y3 y4 ys yc bg x).2.2.2.2.2.2.2.2.1) ((m_tw bt xd xl xw y0 y1 y2 y3 y4 ys yc bg x).2.2.2.2.2.2.2.2.2.1) ((m_tw bt xd xl xw y0 y1 y2 y3 y4 ys yc bg x).2.2.2.2.2.2.2.2.2.2) (ix_up (p := 601) hn (m_rd_h hln c_3)) (hg.trans (by rw [m_rd]; simp [eq_false c_3, eq_true c_9, eq_false c_10, eq_false c_12])) (ix_up0 hx0 (p := 601) (m_rd_h hln c_3)) _ _ (hP.sub [0, 1, 2, 3, 4, 5, 6, 7] rfl) (hD.sub [0, 1, 2, 3, 4, 5, 6, 7] (by decide) rfl) hS ls (lv_sub hl [3, 4, 2, 1, 0] rfl)
            · refine lv_iconst (v := (-1)) hx hb d_Text_readInto_77 (by decide) ?_
              refine lv_iload_n hx hb d_Text_readInto_78 rfl (lv_at hl 2 rfl) ?_
              refine lv_isub hx hb d_Text_readInto_79 ?_
              subst hQ
              have hm : m_rd bt len 602 0 0 0 0 ltr low g0 g1 g2 g3 g4 0 0 = ((-1) - wd, (m_tw bt xd xl xw y0 y1 y2 y3 y4 ys yc bg x).2.1, (m_tw bt xd xl xw y0 y1 y2 y3 y4 ys yc bg x).2.2.1, (m_tw bt xd xl xw y0 y1 y2 y3 y4 ys yc bg x).2.2.2.1, (m_tw bt xd xl xw y0 y1 y2 y3 y4 ys yc bg x).2.2.2.2.1, (m_tw bt xd xl xw y0 y1 y2 y3 y4 ys yc bg x).2.2.2.2.2.1, (m_tw bt xd xl xw y0 y1 y2 y3 y4 ys yc bg x).2.2.2.2.2.2.1, (m_tw bt xd xl xw y0 y1 y2 y3 y4 ys yc bg x).2.2.2.2.2.2.2.1, (m_tw bt xd xl xw y0 y1 y2 y3 y4 ys yc bg x).2.2.2.2.2.2.2.2.1, (m_tw bt xd xl xw y0 y1 y2 y3 y4 ys yc bg x).2.2.2.2.2.2.2.2.2.1, (m_tw bt xd xl xw y0 y1 y2 y3 y4 ys yc bg x).2.2.2.2.2.2.2.2.2.2) := hg.trans (by rw [m_rd]; simp [eq_false c_3, eq_true c_9, eq_false c_10, eq_true c_12])
              rw [hm]
              have hP9 := hP.sub (ws' := [(h0, .inr (4, [.ref b0, .int len, .int ((m_tw bt xd xl xw y0 y1 y2 y3 y4 ys yc bg x).2.1), .int ((m_tw bt xd xl xw y0 y1 y2 y3 y4 ys yc bg x).2.2.1), .int ((m_tw bt xd xl xw y0 y1 y2 y3 y4 ys yc bg x).2.2.2.1)])), (b0, .inl (kb, 600, .inl bt)), (h1, .inr (3, [.ref a0, .ref a1, .int ((m_tw bt xd xl xw y0 y1 y2 y3 y4 ys yc bg x).2.2.2.2.2.2.2.2.2.1), .ref a2, .ref a3, .ref a4, .int ((m_tw bt xd xl xw y0 y1 y2 y3 y4 ys yc bg x).2.2.2.2.2.2.2.2.2.2)])), (a0, .inl (k0, 20, .inl ((m_tw bt xd xl xw y0 y1 y2 y3 y4 ys yc bg x).2.2.2.2.1))), (a1, .inl (k1, 20, .inl ((m_tw bt xd xl xw y0 y1 y2 y3 y4 ys yc bg x).2.2.2.2.2.1))), (a2, .inl (k2, 100, .inl ((m_tw bt xd xl xw y0 y1 y2 y3 y4 ys yc bg x).2.2.2.2.2.2.1))), (a3, .inl (k3, 100, .inl ((m_tw bt xd xl xw y0 y1 y2 y3 y4 ys yc bg x).2.2.2.2.2.2.2.1))), (a4, .inl (k4, 100, .inl ((m_tw bt xd xl xw y0 y1 y2 y3 y4 ys yc bg x).2.2.2.2.2.2.2.2.1)))]) [0, 1, 2, 3, 4, 5, 6, 7] rfl
              have hD9 := hD.sub (ws' := [(h0, .inr (4, [.ref b0, .int len, .int ((m_tw bt xd xl xw y0 y1 y2 y3 y4 ys yc bg x).2.1), .int ((m_tw bt xd xl xw y0 y1 y2 y3 y4 ys yc bg x).2.2.1), .int ((m_tw bt xd xl xw y0 y1 y2 y3 y4 ys yc bg x).2.2.2.1)])), (b0, .inl (kb, 600, .inl bt)), (h1, .inr (3, [.ref a0, .ref a1, .int ((m_tw bt xd xl xw y0 y1 y2 y3 y4 ys yc bg x).2.2.2.2.2.2.2.2.2.1), .ref a2, .ref a3, .ref a4, .int ((m_tw bt xd xl xw y0 y1 y2 y3 y4 ys yc bg x).2.2.2.2.2.2.2.2.2.2)])), (a0, .inl (k0, 20, .inl ((m_tw bt xd xl xw y0 y1 y2 y3 y4 ys yc bg x).2.2.2.2.1))), (a1, .inl (k1, 20, .inl ((m_tw bt xd xl xw y0 y1 y2 y3 y4 ys yc bg x).2.2.2.2.2.1))), (a2, .inl (k2, 100, .inl ((m_tw bt xd xl xw y0 y1 y2 y3 y4 ys yc bg x).2.2.2.2.2.2.1))), (a3, .inl (k3, 100, .inl ((m_tw bt xd xl xw y0 y1 y2 y3 y4 ys yc bg x).2.2.2.2.2.2.2.1))), (a4, .inl (k4, 100, .inl ((m_tw bt xd xl xw y0 y1 y2 y3 y4 ys yc bg x).2.2.2.2.2.2.2.2.1)))]) [0, 1, 2, 3, 4, 5, 6, 7] (by decide) rfl
              have hK9 := hK.sub (tys' := [(kb, .char), (k0, .int), (k1, .int), (k2, .char), (k3, .int), (k4, .int)]) [0, 1, 2, 3, 4, 5] rfl
              exact W.iret (v := (-1) - wd) hx hb hr (fun t ht hW => ⟨⟨_, (), rfl, rfl, by rw [ht]; exact hP9, va_K.moved hW.alike hK9, hD9⟩, hS.F ht⟩) hS.2.2 d_Text_readInto_80
        · refine lv_iload hx hb d_Text_readInto_34 (lv_at hl 4 rfl) ?_
          refine lv_aload_n hx hb d_Text_readInto_36 rfl (lv_at hl 0 rfl) ?_
          refine va_get (D := D) (ci := 4) (v := .ref b0) (C := R_Text) (T := T_Text) (N := 5) hx hb hts in_Text hown hK hP 0 rfl rfl 0 (by decide) (hts _ cw_36) (fun _ h9 => h9) rfl d_Text_readInto_37 ?_
          refine va_alen (v := 600) hx hb hK hP 1 0 rfl rfl rfl d_Text_readInto_40 ?_
          refine lv_icmp_ge (tgt := 60) hx hb d_Text_readInto_41 (by decide) (fun c_13 => ?_) (fun c_13 => ?_)
          · refine lv_iload_n hx hb d_Text_readInto_60 rfl (lv_at hl 3 rfl) ?_
            refine lv_iload hx hb d_Text_readInto_61 (lv_at hl 4 rfl) ?_
            refine lv_icmp_ge (tgt := 84) hx hb d_Text_readInto_63 (by decide) (fun c_14 => ?_) (fun c_14 => ?_)
            · refine lv_iload hx hb d_Text_readInto_84 (lv_at hl 4 rfl) ?_
              refine lv_iconst (v := 1) hx hb d_Text_readInto_86 (by decide) ?_
              refine lv_iadd hx hb d_Text_readInto_87 ?_
              refine lv_istore_n (lv' := [(3, .int (x + 1)), (0, .ref h0), (1, .ref h1), (2, .int wd), (4, .int x)]) hx hb d_Text_readInto_88 rfl hl (by decide) rfl (fun ls hl => ?_)
              refine lv_iinc (v := x + 1) (lv' := [(4, .int (x + 1)), (3, .int (x + 1)), (0, .ref h0), (1, .ref h1), (2, .int wd)]) hx hb d_Text_readInto_89 hl (k := 4) rfl (rfl) (by decide) rfl (fun ls hl => ?_)
              refine lv_goto (tgt := 16) hx hb d_Text_readInto_92 (by decide) ?_
              exact ih_16 (x + 1) (x + 1) wd xd xl xw y0 y1 y2 y3 y4 ys yc (ix_up (p := 601) hn (m_rd_h hln c_3)) (hg.trans (by rw [m_rd]; simp [eq_false c_3, eq_false c_9, eq_true c_13, eq_true c_14])) (ix_up0 hx0 (p := 601) (m_rd_h hln c_3)) _ _ (hP.sub [0, 1, 2, 3, 4, 5, 6, 7] rfl) (hD.sub [0, 1, 2, 3, 4, 5, 6, 7] (by decide) rfl) hS ls (lv_sub hl [2, 3, 4, 1, 0] rfl)
            · refine lv_aload_n hx hb d_Text_readInto_66 rfl (lv_at hl 0 rfl) ?_
              refine lv_aload_n hx hb d_Text_readInto_67 rfl (lv_at hl 1 rfl) ?_
              refine lv_iload_n hx hb d_Text_readInto_68 rfl (lv_at hl 3 rfl) ?_
              refine lv_iload hx hb d_Text_readInto_69 (lv_at hl 4 rfl) ?_
              have hPc := hP.sub (ws' := [(h0, .inr (4, [.ref b0, .int len, .int xd, .int xl, .int xw])), (b0, .inl (kb, 600, .inl bt)), (h1, .inr (3, [.ref a0, .ref a1, .int ys, .ref a2, .ref a3, .ref a4, .int yc])), (a0, .inl (k0, 20, .inl y0)), (a1, .inl (k1, 20, .inl y1)), (a2, .inl (k2, 100, .inl y2)), (a3, .inl (k3, 100, .inl y3)), (a4, .inl (k4, 100, .inl y4))]) [0, 1, 2, 3, 4, 5, 6, 7] rfl
              have hDc := hD.sub (ws' := [(h0, .inr (4, [.ref b0, .int len, .int xd, .int xl, .int xw])), (b0, .inl (kb, 600, .inl bt)), (h1, .inr (3, [.ref a0, .ref a1, .int ys, .ref a2, .ref a3, .ref a4, .int yc])), (a0, .inl (k0, 20, .inl y0)), (a1, .inl (k1, 20, .inl y1)), (a2, .inl (k2, 100, .inl y2)), (a3, .inl (k3, 100, .inl y3)), (a4, .inl (k4, 100, .inl y4))]) [0, 1, 2, 3, 4, 5, 6, 7] (by decide) rfl
              have hKc := hK.sub (tys' := [(kb, .char), (k0, .int), (k1, .int), (k2, .char), (k3, .int), (k4, .int)]) [0, 1, 2, 3, 4, 5] rfl
              have hFc := va_free (wc := [(h0, .inr (4, [.ref b0, .int len, .int xd, .int xl, .int xw])), (b0, .inl (kb, 600, .inl bt)), (h1, .inr (3, [.ref a0, .ref a1, .int ys, .ref a2, .ref a3, .ref a4, .int yc])), (a0, .inl (k0, 20, .inl y0)), (a1, .inl (k1, 20, .inl y1)), (a2, .inl (k2, 100, .inl y2)), (a3, .inl (k3, 100, .inl y3)), (a4, .inl (k4, 100, .inl y4))]) hD hS hA [0, 1, 2, 3, 4, 5, 6, 7] rfl
              refine cx_joini (wc := [(h0, .inr (4, [.ref b0, .int len, .int xd, .int xl, .int xw])), (b0, .inl (kb, 600, .inl bt)), (h1, .inr (3, [.ref a0, .ref a1, .int ys, .ref a2, .ref a3, .ref a4, .int yc])), (a0, .inl (k0, 20, .inl y0)), (a1, .inl (k1, 20, .inl y1)), (a2, .inl (k2, 100, .inl y2)), (a3, .inl (k3, 100, .inl y3)), (a4, .inl (k4, 100, .inl y4))]) (wr := []) hP hD hS hA [0, 1, 2, 3, 4, 5, 6, 7] [] rfl rfl (by decide) (by decide) (va_runV (As := [.ref h1, .int bg, .int x]) (rest := [])  ⟨hx, hb, hml, hown, hts⟩ (c_Text_takeWord l D h0 b0 kb bt len xd xl xw h1 a0 a1 a2 a3 a4 k0 k1 k2 k3 k4 y0 y1 y2 y3 y4 ys yc bg x H.size (m_rd_s hln c_3 c_14)) ⟨callB_of 3 hts cg_Text_takeWord rfl rfl rfl (hts _ cw_2) (hts _ cw_367) (by decide +kernel) ⟨Nat.le_of_ble_eq_true rfl, Nat.le_of_ble_eq_true rfl⟩, hts _ cw_369, hts _ cs_2⟩ (cx_preV (C := R_Text) [.ref h1, .int bg, .int x] hPc hKc hDc hN hO hS hFc (ci := 4) (q0 := 0) rfl rfl rfl) rfl rfl hl.1 rfl (lv_room (Nat.le_of_ble_eq_true rfl)) d_Text_readInto_71 ⟨Nat.le_of_ble_eq_true rfl, Nat.le_of_ble_eq_true rfl⟩) (fun r _ H locs z_15 hK1 hP hD hS => ?_)
              subst z_15
              have hP : va_P D classes ([(h0, .inr (4, [.ref b0, .int len, .int ((m_tw bt xd xl xw y0 y1 y2 y3 y4 ys yc bg x).2.1), .int ((m_tw bt xd xl xw y0 y1 y2 y3 y4 ys yc bg x).2.2.1), .int ((m_tw bt xd xl xw y0 y1 y2 y3 y4 ys yc bg x).2.2.2.1)])), (b0, .inl (kb, 600, .inl bt)), (h1, .inr (3, [.ref a0, .ref a1, .int ((m_tw bt xd xl xw y0 y1 y2 y3 y4 ys yc bg x).2.2.2.2.2.2.2.2.2.1), .ref a2, .ref a3, .ref a4, .int ((m_tw bt xd xl xw y0 y1 y2 y3 y4 ys yc bg x).2.2.2.2.2.2.2.2.2.2)])), (a0, .inl (k0, 20, .inl ((m_tw bt xd xl xw y0 y1 y2 y3 y4 ys yc bg x).2.2.2.2.1))), (a1, .inl (k1, 20, .inl ((m_tw bt xd xl xw y0 y1 y2 y3 y4 ys yc bg x).2.2.2.2.2.1))), (a2, .inl (k2, 100, .inl ((m_tw bt xd xl xw y0 y1 y2 y3 y4 ys yc bg x).2.2.2.2.2.2.1))), (a3, .inl (k3, 100, .inl ((m_tw bt xd xl xw y0 y1 y2 y3 y4 ys yc bg x).2.2.2.2.2.2.2.1))), (a4, .inl (k4, 100, .inl ((m_tw bt xd xl xw y0 y1 y2 y3 y4 ys yc bg x).2.2.2.2.2.2.2.2.1)))]) H := hP
              have hD : va_D A ([(h0, .inr (4, [.ref b0, .int len, .int ((m_tw bt xd xl xw y0 y1 y2 y3 y4 ys yc bg x).2.1), .int ((m_tw bt xd xl xw y0 y1 y2 y3 y4 ys yc bg x).2.2.1), .int ((m_tw bt xd xl xw y0 y1 y2 y3 y4 ys yc bg x).2.2.2.1)])), (b0, .inl (kb, 600, .inl bt)), (h1, .inr (3, [.ref a0, .ref a1, .int ((m_tw bt xd xl xw y0 y1 y2 y3 y4 ys yc bg x).2.2.2.2.2.2.2.2.2.1), .ref a2, .ref a3, .ref a4, .int ((m_tw bt xd xl xw y0 y1 y2 y3 y4 ys yc bg x).2.2.2.2.2.2.2.2.2.2)])), (a0, .inl (k0, 20, .inl ((m_tw bt xd xl xw y0 y1 y2 y3 y4 ys yc bg x).2.2.2.2.1))), (a1, .inl (k1, 20, .inl ((m_tw bt xd xl xw y0 y1 y2 y3 y4 ys yc bg x).2.2.2.2.2.1))), (a2, .inl (k2, 100, .inl ((m_tw bt xd xl xw y0 y1 y2 y3 y4 ys yc bg x).2.2.2.2.2.2.1))), (a3, .inl (k3, 100, .inl ((m_tw bt xd xl xw y0 y1 y2 y3 y4 ys yc bg x).2.2.2.2.2.2.2.1))), (a4, .inl (k4, 100, .inl ((m_tw bt xd xl xw y0 y1 y2 y3 y4 ys yc bg x).2.2.2.2.2.2.2.2.1)))]) := hD
              refine lv_if_ne (tgt := 81) hx hb d_Text_readInto_74 (by decide) (fun c_16 => ?_) (fun c_16 => ?_)
              · refine lv_iinc (v := wd + 1) (lv' := [(2, .int (wd + 1)), (0, .ref h0), (1, .ref h1), (3, .int bg), (4, .int x)]) hx hb d_Text_readInto_81 hl (k := 2) rfl (rfl) (by decide) rfl (fun ls hl => ?_)
                refine lv_iload hx hb d_Text_readInto_84 (lv_at hl 4 rfl) ?_
                refine lv_iconst (v := 1) hx hb d_Text_readInto_86 (by decide) ?_
                refine lv_iadd hx hb d_Text_readInto_87 ?_
                refine lv_istore_n (lv' := [(3, .int (x + 1)), (2, .int (wd + 1)), (0, .ref h0), (1, .ref h1), (4, .int x)]) hx hb d_Text_readInto_88 rfl hl (by decide) rfl (fun ls hl => ?_)
                refine lv_iinc (v := x + 1) (lv' := [(4, .int (x + 1)), (3, .int (x + 1)), (2, .int (wd + 1)), (0, .ref h0), (1, .ref h1)]) hx hb d_Text_readInto_89 hl (k := 4) rfl (rfl) (by decide) rfl (fun ls hl => ?_)
                refine lv_goto (tgt := 16) hx hb d_Text_readInto_92 (by decide) ?_
                exact ih_16 (x + 1) (x + 1) (wd + 1) ((m_tw bt xd xl xw y0 y1 y2 y3 y4 ys yc bg x).2.1) ((m_tw bt xd xl xw y0 y1 y2 y3 y4 ys yc bg x).2.2.1) ((m_tw bt xd xl xw y0 y1 y2 y3 y4 ys yc bg x).2.2.2.1) ((m_tw bt xd xl xw y0 y1 y2 y3 y4 ys yc bg x).2.2.2.2.1) ((m_tw bt xd xl xw y0 y1 y2 y3 y4 ys yc bg x).2.2.2.2.2.1) ((m_tw bt xd xl xw y0 y1 y2 y3 y4 ys yc bg x).2.2.2.2.2.2.1) ((m_tw bt xd xl xw y0 y1 y2 y3 y4 ys yc bg x).2.2.2.2.2.2.2.1) ((m_tw bt xd xl xw y0 y1 y2 y3 y4 ys yc bg x).2.2.2.2.2.2.2.2.1) ((m_tw bt xd xl xw y0 y1 y2 y3 y4 ys yc bg x).2.2.2.2.2.2.2.2.2.1) ((m_tw bt xd xl xw y0 y1 y2 y3 y4 ys yc bg x).2.2.2.2.2.2.2.2.2.2) (ix_up (p := 601) hn (m_rd_h hln c_3)) (hg.trans (by rw [m_rd]; simp [eq_false c_3, eq_false c_9, eq_true c_13, eq_false c_14, eq_false c_16])) (ix_up0 hx0 (p := 601) (m_rd_h hln c_3)) _ _ (hP.sub [0, 1, 2, 3, 4, 5, 6, 7] rfl) (hD.sub [0, 1, 2, 3, 4, 5, 6, 7] (by decide) rfl) hS ls (lv_sub hl [3, 4, 2, 1, 0] rfl)
              · refine lv_iconst (v := (-1)) hx hb d_Text_readInto_77 (by decide) ?_
                refine lv_iload_n hx hb d_Text_readInto_78 rfl (lv_at hl 2 rfl) ?_
                refine lv_isub hx hb d_Text_readInto_79 ?_
                subst hQ
                have hm : m_rd bt len 602 0 0 0 0 ltr low g0 g1 g2 g3 g4 0 0 = ((-1) - wd, (m_tw bt xd xl xw y0 y1 y2 y3 y4 ys yc bg x).2.1, (m_tw bt xd xl xw y0 y1 y2 y3 y4 ys yc bg x).2.2.1, (m_tw bt xd xl xw y0 y1 y2 y3 y4 ys yc bg x).2.2.2.1, (m_tw bt xd xl xw y0 y1 y2 y3 y4 ys yc bg x).2.2.2.2.1, (m_tw bt xd xl xw y0 y1 y2 y3 y4 ys yc bg x).2.2.2.2.2.1, (m_tw bt xd xl xw y0 y1 y2 y3 y4 ys yc bg x).2.2.2.2.2.2.1, (m_tw bt xd xl xw y0 y1 y2 y3 y4 ys yc bg x).2.2.2.2.2.2.2.1, (m_tw bt xd xl xw y0 y1 y2 y3 y4 ys yc bg x).2.2.2.2.2.2.2.2.1, (m_tw bt xd xl xw y0 y1 y2 y3 y4 ys yc bg x).2.2.2.2.2.2.2.2.2.1, (m_tw bt xd xl xw y0 y1 y2 y3 y4 ys yc bg x).2.2.2.2.2.2.2.2.2.2) := hg.trans (by rw [m_rd]; simp [eq_false c_3, eq_false c_9, eq_true c_13, eq_false c_14, eq_true c_16])
                rw [hm]
                have hP9 := hP.sub (ws' := [(h0, .inr (4, [.ref b0, .int len, .int ((m_tw bt xd xl xw y0 y1 y2 y3 y4 ys yc bg x).2.1), .int ((m_tw bt xd xl xw y0 y1 y2 y3 y4 ys yc bg x).2.2.1), .int ((m_tw bt xd xl xw y0 y1 y2 y3 y4 ys yc bg x).2.2.2.1)])), (b0, .inl (kb, 600, .inl bt)), (h1, .inr (3, [.ref a0, .ref a1, .int ((m_tw bt xd xl xw y0 y1 y2 y3 y4 ys yc bg x).2.2.2.2.2.2.2.2.2.1), .ref a2, .ref a3, .ref a4, .int ((m_tw bt xd xl xw y0 y1 y2 y3 y4 ys yc bg x).2.2.2.2.2.2.2.2.2.2)])), (a0, .inl (k0, 20, .inl ((m_tw bt xd xl xw y0 y1 y2 y3 y4 ys yc bg x).2.2.2.2.1))), (a1, .inl (k1, 20, .inl ((m_tw bt xd xl xw y0 y1 y2 y3 y4 ys yc bg x).2.2.2.2.2.1))), (a2, .inl (k2, 100, .inl ((m_tw bt xd xl xw y0 y1 y2 y3 y4 ys yc bg x).2.2.2.2.2.2.1))), (a3, .inl (k3, 100, .inl ((m_tw bt xd xl xw y0 y1 y2 y3 y4 ys yc bg x).2.2.2.2.2.2.2.1))), (a4, .inl (k4, 100, .inl ((m_tw bt xd xl xw y0 y1 y2 y3 y4 ys yc bg x).2.2.2.2.2.2.2.2.1)))]) [0, 1, 2, 3, 4, 5, 6, 7] rfl
                have hD9 := hD.sub (ws' := [(h0, .inr (4, [.ref b0, .int len, .int ((m_tw bt xd xl xw y0 y1 y2 y3 y4 ys yc bg x).2.1), .int ((m_tw bt xd xl xw y0 y1 y2 y3 y4 ys yc bg x).2.2.1), .int ((m_tw bt xd xl xw y0 y1 y2 y3 y4 ys yc bg x).2.2.2.1)])), (b0, .inl (kb, 600, .inl bt)), (h1, .inr (3, [.ref a0, .ref a1, .int ((m_tw bt xd xl xw y0 y1 y2 y3 y4 ys yc bg x).2.2.2.2.2.2.2.2.2.1), .ref a2, .ref a3, .ref a4, .int ((m_tw bt xd xl xw y0 y1 y2 y3 y4 ys yc bg x).2.2.2.2.2.2.2.2.2.2)])), (a0, .inl (k0, 20, .inl ((m_tw bt xd xl xw y0 y1 y2 y3 y4 ys yc bg x).2.2.2.2.1))), (a1, .inl (k1, 20, .inl ((m_tw bt xd xl xw y0 y1 y2 y3 y4 ys yc bg x).2.2.2.2.2.1))), (a2, .inl (k2, 100, .inl ((m_tw bt xd xl xw y0 y1 y2 y3 y4 ys yc bg x).2.2.2.2.2.2.1))), (a3, .inl (k3, 100, .inl ((m_tw bt xd xl xw y0 y1 y2 y3 y4 ys yc bg x).2.2.2.2.2.2.2.1))), (a4, .inl (k4, 100, .inl ((m_tw bt xd xl xw y0 y1 y2 y3 y4 ys yc bg x).2.2.2.2.2.2.2.2.1)))]) [0, 1, 2, 3, 4, 5, 6, 7] (by decide) rfl
                have hK9 := hK.sub (tys' := [(kb, .char), (k0, .int), (k1, .int), (k2, .char), (k3, .int), (k4, .int)]) [0, 1, 2, 3, 4, 5] rfl
                exact W.iret (v := (-1) - wd) hx hb hr (fun t ht hW => ⟨⟨_, (), rfl, rfl, by rw [ht]; exact hP9, va_K.moved hW.alike hK9, hD9⟩, hS.F ht⟩) hS.2.2 d_Text_readInto_80
          · refine lv_aload_n hx hb d_Text_readInto_44 rfl (lv_at hl 0 rfl) ?_
            refine va_get (D := D) (ci := 4) (v := .ref b0) (C := R_Text) (T := T_Text) (N := 5) hx hb hts in_Text hown hK hP 0 rfl rfl 0 (by decide) (hts _ cw_36) (fun _ h9 => h9) rfl d_Text_readInto_45 ?_
            refine lv_iload hx hb d_Text_readInto_48 (lv_at hl 4 rfl) ?_
            refine va_cald hx hb hK hP 1 0 rfl rfl (cx_ix (n := 600) (by decide) hx0 c_13) d_Text_readInto_50 ?_
            have hPc := hP.sub (ws' := []) [] rfl
            have hDc := hD.sub (ws' := []) [] (by decide) rfl
            have hKc := hK.sub (tys' := []) [] rfl
            have hFc := va_free (wc := []) hD hS hA [] rfl
            refine vp_callSi (va_Run.run (va_runS (As := [.int (bt x.toNatClampNeg)]) (rest := [])  ⟨hx, hb, hml, hown, hts⟩ (c_Text_isBlank l D (bt x.toNatClampNeg) H.size ) ⟨callB_of 1 hts cg_Text_isBlank rfl rfl rfl (hts _ cw_2) (hts _ cw_364) (by decide +kernel) ⟨Nat.le_of_ble_eq_true rfl, Nat.le_of_ble_eq_true rfl⟩, hts _ cw_365⟩ (cx_preS [.int (bt x.toNatClampNeg)] hPc hKc hDc hN hO hS hFc) rfl rfl hl.1 rfl (lv_room (Nat.le_of_ble_eq_true rfl)) d_Text_readInto_51 ⟨Nat.le_of_ble_eq_true rfl, Nat.le_of_ble_eq_true rfl⟩)) (fun r z_17 => ?_)
            subst z_17
            refine lv_if_ne (tgt := 60) hx hb d_Text_readInto_54 (by decide) (fun c_18 => ?_) (fun c_18 => ?_)
            · refine lv_iload_n hx hb d_Text_readInto_60 rfl (lv_at hl 3 rfl) ?_
              refine lv_iload hx hb d_Text_readInto_61 (lv_at hl 4 rfl) ?_
              refine lv_icmp_ge (tgt := 84) hx hb d_Text_readInto_63 (by decide) (fun c_19 => ?_) (fun c_19 => ?_)
              · refine lv_iload hx hb d_Text_readInto_84 (lv_at hl 4 rfl) ?_
                refine lv_iconst (v := 1) hx hb d_Text_readInto_86 (by decide) ?_
                refine lv_iadd hx hb d_Text_readInto_87 ?_
                refine lv_istore_n (lv' := [(3, .int (x + 1)), (0, .ref h0), (1, .ref h1), (2, .int wd), (4, .int x)]) hx hb d_Text_readInto_88 rfl hl (by decide) rfl (fun ls hl => ?_)
                refine lv_iinc (v := x + 1) (lv' := [(4, .int (x + 1)), (3, .int (x + 1)), (0, .ref h0), (1, .ref h1), (2, .int wd)]) hx hb d_Text_readInto_89 hl (k := 4) rfl (rfl) (by decide) rfl (fun ls hl => ?_)
                refine lv_goto (tgt := 16) hx hb d_Text_readInto_92 (by decide) ?_
                exact ih_16 (x + 1) (x + 1) wd xd xl xw y0 y1 y2 y3 y4 ys yc (ix_up (p := 601) hn (m_rd_h hln c_3)) (hg.trans (by rw [m_rd]; simp [eq_false c_3, eq_false c_9, eq_false c_13, eq_false c_18, eq_true c_19])) (ix_up0 hx0 (p := 601) (m_rd_h hln c_3)) _ _ (hP.sub [0, 1, 2, 3, 4, 5, 6, 7] rfl) (hD.sub [0, 1, 2, 3, 4, 5, 6, 7] (by decide) rfl) hS ls (lv_sub hl [2, 3, 4, 1, 0] rfl)
              · refine lv_aload_n hx hb d_Text_readInto_66 rfl (lv_at hl 0 rfl) ?_
                refine lv_aload_n hx hb d_Text_readInto_67 rfl (lv_at hl 1 rfl) ?_
                refine lv_iload_n hx hb d_Text_readInto_68 rfl (lv_at hl 3 rfl) ?_
                refine lv_iload hx hb d_Text_readInto_69 (lv_at hl 4 rfl) ?_
                have hPc := hP.sub (ws' := [(h0, .inr (4, [.ref b0, .int len, .int xd, .int xl, .int xw])), (b0, .inl (kb, 600, .inl bt)), (h1, .inr (3, [.ref a0, .ref a1, .int ys, .ref a2, .ref a3, .ref a4, .int yc])), (a0, .inl (k0, 20, .inl y0)), (a1, .inl (k1, 20, .inl y1)), (a2, .inl (k2, 100, .inl y2)), (a3, .inl (k3, 100, .inl y3)), (a4, .inl (k4, 100, .inl y4))]) [0, 1, 2, 3, 4, 5, 6, 7] rfl
                have hDc := hD.sub (ws' := [(h0, .inr (4, [.ref b0, .int len, .int xd, .int xl, .int xw])), (b0, .inl (kb, 600, .inl bt)), (h1, .inr (3, [.ref a0, .ref a1, .int ys, .ref a2, .ref a3, .ref a4, .int yc])), (a0, .inl (k0, 20, .inl y0)), (a1, .inl (k1, 20, .inl y1)), (a2, .inl (k2, 100, .inl y2)), (a3, .inl (k3, 100, .inl y3)), (a4, .inl (k4, 100, .inl y4))]) [0, 1, 2, 3, 4, 5, 6, 7] (by decide) rfl
                have hKc := hK.sub (tys' := [(kb, .char), (k0, .int), (k1, .int), (k2, .char), (k3, .int), (k4, .int)]) [0, 1, 2, 3, 4, 5] rfl
                have hFc := va_free (wc := [(h0, .inr (4, [.ref b0, .int len, .int xd, .int xl, .int xw])), (b0, .inl (kb, 600, .inl bt)), (h1, .inr (3, [.ref a0, .ref a1, .int ys, .ref a2, .ref a3, .ref a4, .int yc])), (a0, .inl (k0, 20, .inl y0)), (a1, .inl (k1, 20, .inl y1)), (a2, .inl (k2, 100, .inl y2)), (a3, .inl (k3, 100, .inl y3)), (a4, .inl (k4, 100, .inl y4))]) hD hS hA [0, 1, 2, 3, 4, 5, 6, 7] rfl
                refine cx_joini (wc := [(h0, .inr (4, [.ref b0, .int len, .int xd, .int xl, .int xw])), (b0, .inl (kb, 600, .inl bt)), (h1, .inr (3, [.ref a0, .ref a1, .int ys, .ref a2, .ref a3, .ref a4, .int yc])), (a0, .inl (k0, 20, .inl y0)), (a1, .inl (k1, 20, .inl y1)), (a2, .inl (k2, 100, .inl y2)), (a3, .inl (k3, 100, .inl y3)), (a4, .inl (k4, 100, .inl y4))]) (wr := []) hP hD hS hA [0, 1, 2, 3, 4, 5, 6, 7] [] rfl rfl (by decide) (by decide) (va_runV (As := [.ref h1, .int bg, .int x]) (rest := [])  ⟨hx, hb, hml, hown, hts⟩ (c_Text_takeWord l D h0 b0 kb bt len xd xl xw h1 a0 a1 a2 a3 a4 k0 k1 k2 k3 k4 y0 y1 y2 y3 y4 ys yc bg x H.size (m_rd_s hln c_3 c_19)) ⟨callB_of 3 hts cg_Text_takeWord rfl rfl rfl (hts _ cw_2) (hts _ cw_367) (by decide +kernel) ⟨Nat.le_of_ble_eq_true rfl, Nat.le_of_ble_eq_true rfl⟩, hts _ cw_369, hts _ cs_2⟩ (cx_preV (C := R_Text) [.ref h1, .int bg, .int x] hPc hKc hDc hN hO hS hFc (ci := 4) (q0 := 0) rfl rfl rfl) rfl rfl hl.1 rfl (lv_room (Nat.le_of_ble_eq_true rfl)) d_Text_readInto_71 ⟨Nat.le_of_ble_eq_true rfl, Nat.le_of_ble_eq_true rfl⟩) (fun r _ H locs z_20 hK1 hP hD hS => ?_)
                subst z_20
                have hP : va_P D classes ([(h0, .inr (4, [.ref b0, .int len, .int ((m_tw bt xd xl xw y0 y1 y2 y3 y4 ys yc bg x).2.1), .int ((m_tw bt xd xl xw y0 y1 y2 y3 y4 ys yc bg x).2.2.1), .int ((m_tw bt xd xl xw y0 y1 y2 y3 y4 ys yc bg x).2.2.2.1)])), (b0, .inl (kb, 600, .inl bt)), (h1, .inr (3, [.ref a0, .ref a1, .int ((m_tw bt xd xl xw y0 y1 y2 y3 y4 ys yc bg x).2.2.2.2.2.2.2.2.2.1), .ref a2, .ref a3, .ref a4, .int ((m_tw bt xd xl xw y0 y1 y2 y3 y4 ys yc bg x).2.2.2.2.2.2.2.2.2.2)])), (a0, .inl (k0, 20, .inl ((m_tw bt xd xl xw y0 y1 y2 y3 y4 ys yc bg x).2.2.2.2.1))), (a1, .inl (k1, 20, .inl ((m_tw bt xd xl xw y0 y1 y2 y3 y4 ys yc bg x).2.2.2.2.2.1))), (a2, .inl (k2, 100, .inl ((m_tw bt xd xl xw y0 y1 y2 y3 y4 ys yc bg x).2.2.2.2.2.2.1))), (a3, .inl (k3, 100, .inl ((m_tw bt xd xl xw y0 y1 y2 y3 y4 ys yc bg x).2.2.2.2.2.2.2.1))), (a4, .inl (k4, 100, .inl ((m_tw bt xd xl xw y0 y1 y2 y3 y4 ys yc bg x).2.2.2.2.2.2.2.2.1)))]) H := hP
                have hD : va_D A ([(h0, .inr (4, [.ref b0, .int len, .int ((m_tw bt xd xl xw y0 y1 y2 y3 y4 ys yc bg x).2.1), .int ((m_tw bt xd xl xw y0 y1 y2 y3 y4 ys yc bg x).2.2.1), .int ((m_tw bt xd xl xw y0 y1 y2 y3 y4 ys yc bg x).2.2.2.1)])), (b0, .inl (kb, 600, .inl bt)), (h1, .inr (3, [.ref a0, .ref a1, .int ((m_tw bt xd xl xw y0 y1 y2 y3 y4 ys yc bg x).2.2.2.2.2.2.2.2.2.1), .ref a2, .ref a3, .ref a4, .int ((m_tw bt xd xl xw y0 y1 y2 y3 y4 ys yc bg x).2.2.2.2.2.2.2.2.2.2)])), (a0, .inl (k0, 20, .inl ((m_tw bt xd xl xw y0 y1 y2 y3 y4 ys yc bg x).2.2.2.2.1))), (a1, .inl (k1, 20, .inl ((m_tw bt xd xl xw y0 y1 y2 y3 y4 ys yc bg x).2.2.2.2.2.1))), (a2, .inl (k2, 100, .inl ((m_tw bt xd xl xw y0 y1 y2 y3 y4 ys yc bg x).2.2.2.2.2.2.1))), (a3, .inl (k3, 100, .inl ((m_tw bt xd xl xw y0 y1 y2 y3 y4 ys yc bg x).2.2.2.2.2.2.2.1))), (a4, .inl (k4, 100, .inl ((m_tw bt xd xl xw y0 y1 y2 y3 y4 ys yc bg x).2.2.2.2.2.2.2.2.1)))]) := hD
                refine lv_if_ne (tgt := 81) hx hb d_Text_readInto_74 (by decide) (fun c_21 => ?_) (fun c_21 => ?_)
                · refine lv_iinc (v := wd + 1) (lv' := [(2, .int (wd + 1)), (0, .ref h0), (1, .ref h1), (3, .int bg), (4, .int x)]) hx hb d_Text_readInto_81 hl (k := 2) rfl (rfl) (by decide) rfl (fun ls hl => ?_)
                  refine lv_iload hx hb d_Text_readInto_84 (lv_at hl 4 rfl) ?_
                  refine lv_iconst (v := 1) hx hb d_Text_readInto_86 (by decide) ?_
                  refine lv_iadd hx hb d_Text_readInto_87 ?_
                  refine lv_istore_n (lv' := [(3, .int (x + 1)), (2, .int (wd + 1)), (0, .ref h0), (1, .ref h1), (4, .int x)]) hx hb d_Text_readInto_88 rfl hl (by decide) rfl (fun ls hl => ?_)
                  refine lv_iinc (v := x + 1) (lv' := [(4, .int (x + 1)), (3, .int (x + 1)), (2, .int (wd + 1)), (0, .ref h0), (1, .ref h1)]) hx hb d_Text_readInto_89 hl (k := 4) rfl (rfl) (by decide) rfl (fun ls hl => ?_)
                  refine lv_goto (tgt := 16) hx hb d_Text_readInto_92 (by decide) ?_
                  exact ih_16 (x + 1) (x + 1) (wd + 1) ((m_tw bt xd xl xw y0 y1 y2 y3 y4 ys yc bg x).2.1) ((m_tw bt xd xl xw y0 y1 y2 y3 y4 ys yc bg x).2.2.1) ((m_tw bt xd xl xw y0 y1 y2 y3 y4 ys yc bg x).2.2.2.1) ((m_tw bt xd xl xw y0 y1 y2 y3 y4 ys yc bg x).2.2.2.2.1) ((m_tw bt xd xl xw y0 y1 y2 y3 y4 ys yc bg x).2.2.2.2.2.1) ((m_tw bt xd xl xw y0 y1 y2 y3 y4 ys yc bg x).2.2.2.2.2.2.1) ((m_tw bt xd xl xw y0 y1 y2 y3 y4 ys yc bg x).2.2.2.2.2.2.2.1) ((m_tw bt xd xl xw y0 y1 y2 y3 y4 ys yc bg x).2.2.2.2.2.2.2.2.1) ((m_tw bt xd xl xw y0 y1 y2 y3 y4 ys yc bg x).2.2.2.2.2.2.2.2.2.1) ((m_tw bt xd xl xw y0 y1 y2 y3 y4 ys yc bg x).2.2.2.2.2.2.2.2.2.2) (ix_up (p := 601) hn (m_rd_h hln c_3)) (hg.trans (by rw [m_rd]; simp [eq_false c_3, eq_false c_9, eq_false c_13, eq_false c_18, eq_false c_19, eq_false c_21])) (ix_up0 hx0 (p := 601) (m_rd_h hln c_3)) _ _ (hP.sub [0, 1, 2, 3, 4, 5, 6, 7] rfl) (hD.sub [0, 1, 2, 3, 4, 5, 6, 7] (by decide) rfl) hS ls (lv_sub hl [3, 4, 2, 1, 0] rfl)
                · refine lv_iconst (v := (-1)) hx hb d_Text_readInto_77 (by decide) ?_
                  refine lv_iload_n hx hb d_Text_readInto_78 rfl (lv_at hl 2 rfl) ?_
                  refine lv_isub hx hb d_Text_readInto_79 ?_
                  subst hQ
                  have hm : m_rd bt len 602 0 0 0 0 ltr low g0 g1 g2 g3 g4 0 0 = ((-1) - wd, (m_tw bt xd xl xw y0 y1 y2 y3 y4 ys yc bg x).2.1, (m_tw bt xd xl xw y0 y1 y2 y3 y4 ys yc bg x).2.2.1, (m_tw bt xd xl xw y0 y1 y2 y3 y4 ys yc bg x).2.2.2.1, (m_tw bt xd xl xw y0 y1 y2 y3 y4 ys yc bg x).2.2.2.2.1, (m_tw bt xd xl xw y0 y1 y2 y3 y4 ys yc bg x).2.2.2.2.2.1, (m_tw bt xd xl xw y0 y1 y2 y3 y4 ys yc bg x).2.2.2.2.2.2.1, (m_tw bt xd xl xw y0 y1 y2 y3 y4 ys yc bg x).2.2.2.2.2.2.2.1, (m_tw bt xd xl xw y0 y1 y2 y3 y4 ys yc bg x).2.2.2.2.2.2.2.2.1, (m_tw bt xd xl xw y0 y1 y2 y3 y4 ys yc bg x).2.2.2.2.2.2.2.2.2.1, (m_tw bt xd xl xw y0 y1 y2 y3 y4 ys yc bg x).2.2.2.2.2.2.2.2.2.2) := hg.trans (by rw [m_rd]; simp [eq_false c_3, eq_false c_9, eq_false c_13, eq_false c_18, eq_false c_19, eq_true c_21])
                  rw [hm]
                  have hP9 := hP.sub (ws' := [(h0, .inr (4, [.ref b0, .int len, .int ((m_tw bt xd xl xw y0 y1 y2 y3 y4 ys yc bg x).2.1), .int ((m_tw bt xd xl xw y0 y1 y2 y3 y4 ys yc bg x).2.2.1), .int ((m_tw bt xd xl xw y0 y1 y2 y3 y4 ys yc bg x).2.2.2.1)])), (b0, .inl (kb, 600, .inl bt)), (h1, .inr (3, [.ref a0, .ref a1, .int ((m_tw bt xd xl xw y0 y1 y2 y3 y4 ys yc bg x).2.2.2.2.2.2.2.2.2.1), .ref a2, .ref a3, .ref a4, .int ((m_tw bt xd xl xw y0 y1 y2 y3 y4 ys yc bg x).2.2.2.2.2.2.2.2.2.2)])), (a0, .inl (k0, 20, .inl ((m_tw bt xd xl xw y0 y1 y2 y3 y4 ys yc bg x).2.2.2.2.1))), (a1, .inl (k1, 20, .inl ((m_tw bt xd xl xw y0 y1 y2 y3 y4 ys yc bg x).2.2.2.2.2.1))), (a2, .inl (k2, 100, .inl ((m_tw bt xd xl xw y0 y1 y2 y3 y4 ys yc bg x).2.2.2.2.2.2.1))), (a3, .inl (k3, 100, .inl ((m_tw bt xd xl xw y0 y1 y2 y3 y4 ys yc bg x).2.2.2.2.2.2.2.1))), (a4, .inl (k4, 100, .inl ((m_tw bt xd xl xw y0 y1 y2 y3 y4 ys yc bg x).2.2.2.2.2.2.2.2.1)))]) [0, 1, 2, 3, 4, 5, 6, 7] rfl
                  have hD9 := hD.sub (ws' := [(h0, .inr (4, [.ref b0, .int len, .int ((m_tw bt xd xl xw y0 y1 y2 y3 y4 ys yc bg x).2.1), .int ((m_tw bt xd xl xw y0 y1 y2 y3 y4 ys yc bg x).2.2.1), .int ((m_tw bt xd xl xw y0 y1 y2 y3 y4 ys yc bg x).2.2.2.1)])), (b0, .inl (kb, 600, .inl bt)), (h1, .inr (3, [.ref a0, .ref a1, .int ((m_tw bt xd xl xw y0 y1 y2 y3 y4 ys yc bg x).2.2.2.2.2.2.2.2.2.1), .ref a2, .ref a3, .ref a4, .int ((m_tw bt xd xl xw y0 y1 y2 y3 y4 ys yc bg x).2.2.2.2.2.2.2.2.2.2)])), (a0, .inl (k0, 20, .inl ((m_tw bt xd xl xw y0 y1 y2 y3 y4 ys yc bg x).2.2.2.2.1))), (a1, .inl (k1, 20, .inl ((m_tw bt xd xl xw y0 y1 y2 y3 y4 ys yc bg x).2.2.2.2.2.1))), (a2, .inl (k2, 100, .inl ((m_tw bt xd xl xw y0 y1 y2 y3 y4 ys yc bg x).2.2.2.2.2.2.1))), (a3, .inl (k3, 100, .inl ((m_tw bt xd xl xw y0 y1 y2 y3 y4 ys yc bg x).2.2.2.2.2.2.2.1))), (a4, .inl (k4, 100, .inl ((m_tw bt xd xl xw y0 y1 y2 y3 y4 ys yc bg x).2.2.2.2.2.2.2.2.1)))]) [0, 1, 2, 3, 4, 5, 6, 7] (by decide) rfl
                  have hK9 := hK.sub (tys' := [(kb, .char), (k0, .int), (k1, .int), (k2, .char), (k3, .int), (k4, .int)]) [0, 1, 2, 3, 4, 5] rfl
                  exact W.iret (v := (-1) - wd) hx hb hr (fun t ht hW => ⟨⟨_, (), rfl, rfl, by rw [ht]; exact hP9, va_K.moved hW.alike hK9, hD9⟩, hS.F ht⟩) hS.2.2 d_Text_readInto_80
            · refine lv_goto (tgt := 89) hx hb d_Text_readInto_57 (by decide) ?_
              refine lv_iinc (v := x + 1) (lv' := [(4, .int (x + 1)), (0, .ref h0), (1, .ref h1), (2, .int wd), (3, .int bg)]) hx hb d_Text_readInto_89 hl (k := 4) rfl (rfl) (by decide) rfl (fun ls hl => ?_)
              refine lv_goto (tgt := 16) hx hb d_Text_readInto_92 (by decide) ?_
              exact ih_16 (x + 1) bg wd xd xl xw y0 y1 y2 y3 y4 ys yc (ix_up (p := 601) hn (m_rd_h hln c_3)) (hg.trans (by rw [m_rd]; simp [eq_false c_3, eq_false c_9, eq_false c_13, eq_true c_18])) (ix_up0 hx0 (p := 601) (m_rd_h hln c_3)) _ _ (hP.sub [0, 1, 2, 3, 4, 5, 6, 7] rfl) (hD.sub [0, 1, 2, 3, 4, 5, 6, 7] (by decide) rfl) hS ls (lv_sub hl [1, 2, 3, 4, 0] rfl)
  exact loop_2 602 0 0 0 0 ltr low g0 g1 g2 g3 g4 0 0 (by decide) (rfl) (by decide) _ _ (hP.sub [0, 1, 2, 3, 4, 5, 6, 7] rfl) (hD.sub [0, 1, 2, 3, 4, 5, 6, 7] (by decide) rfl) hS ls (lv_sub hl [3, 4, 2, 1, 0] rfl)
