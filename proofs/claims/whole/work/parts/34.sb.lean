-- StringBuilder as record() uses it: words that follow from the tables, digits as functions
theorem cw_sup : (.superclass "java/lang/StringBuilder" "java/lang/AbstractStringBuilder" : Cond) ∈ cx_tbl := cx_inw 203 (by decide +kernel) (by decide +kernel)
theorem cx_asbNi {args : Array Value} {s : State} (h : (Cond.selects "java/lang/StringBuilder" ⟨"java/lang/AbstractStringBuilder", "isLatin1", "()Z"⟩ ⟨"java/lang/AbstractStringBuilder", "isLatin1", "()Z"⟩).before args s = true) : ∃ (c : ClassId) (k : Class), s.vm.findClass "java/lang/AbstractStringBuilder" = some c ∧ s.vm.classes[c]? = some k ∧ k.isInterface = false := by
  obtain ⟨c, r, m, h1, h2, h3, h4, mk, h5, h6⟩ := Cond.selects_spec h
  exact ⟨m.cls, mk, findClass_of_methodNamed h3, h5, h6⟩
theorem cx_same {args : Array Value} {s : State} {y : MethodName} (hy : y.cls ≠ "java/lang/invoke/MethodHandle" ∧ y.cls ≠ "java/lang/invoke/VarHandle") (hinst : (Cond.instanceMethod y).before args s = true) (hni : ∃ (c : ClassId) (k : Class), s.vm.findClass y.cls = some c ∧ s.vm.classes[c]? = some k ∧ k.isInterface = false) : (Cond.sameMethod y.cls y.cls y.name y.desc).before args s = true := by
  obtain ⟨c, k, h1, h2, h3⟩ := hni
  obtain ⟨mk, methM, hnamed, hmethM, -, -⟩ := Cond.instanceMethod_spec hinst
  have hfound := State.methodFound?_of_named hnamed hy
  have hn : s.methodNamed? ⟨y.cls, y.name, y.desc⟩ = some mk := hnamed
  simp [Cond.before, Cond.holds, Cond.value, h1, h2, h3, hfound, hn]
theorem cx_selP {args : Array Value} {s : State} {y : MethodName} {C : String} {cC : ClassId} (hy : y.cls ≠ "java/lang/invoke/MethodHandle" ∧ y.cls ≠ "java/lang/invoke/VarHandle") (hat : ClassAt s C cC) (hpriv : (Cond.privateMethod y).before args s = true) (hinst : (Cond.instanceMethod y).before args s = true) (hni : ∃ (c : ClassId) (k : Class), s.vm.findClass y.cls = some c ∧ s.vm.classes[c]? = some k ∧ k.isInterface = false) : (Cond.selects C y y).before args s = true := by
  obtain ⟨c, k, h1, h2, h3⟩ := hni
  obtain ⟨mk, methM, hnamed, hmethM, -, -⟩ := Cond.instanceMethod_spec hinst
  have hfound := State.methodFound?_of_named hnamed hy
  have hcls : mk.cls = c := Option.some.inj ((findClass_of_methodNamed hnamed).symm.trans h1)
  have hsel : selectMethod {} s.vm cC mk = .method mk := selectMethod_private hmethM (Cond.privateMethod_at hpriv mk methM hnamed hmethM)
  simp [Cond.before, Cond.holds, Cond.value, hat.1, hfound, hnamed, hsel, hcls, h2, h3]
theorem cx_cwSU {R : Room} {args : Array Value} {s : State} {own : String} {index maxL mc ms : Nat} {y : MethodName} {bytes : ByteArray} {ret : Option FieldType} {Ts ws ws' : List Cond} {rm : Room} (n : Nat) (ht : ∀ w ∈ Ts, w.before args s = true) (hG : GoodIn Ts ws) (hw : ws = Cond.code y bytes maxL ret :: ws') (hrc : rm.cells = mc) (hrs : rm.slots = ms)
    (hlink : (Cond.methodLink own index y).before args s = true) (hsup : (Cond.superclass own y.cls).before args s = true) (hinst : (Cond.instanceMethod y).before args s = true) (hini : (Cond.initialized y.cls).before args s = true) (hni : ∃ (c : ClassId) (k : Class), s.vm.findClass y.cls = some c ∧ s.vm.classes[c]? = some k ∧ k.isInterface = false)
    (hy : y.cls ≠ "java/lang/invoke/MethodHandle" ∧ y.cls ≠ "java/lang/invoke/VarHandle") (hd : y.name ≠ "<init>" ∧ (parseMethodDescriptor y.desc).map (fun d => d.parameters.length) = some n) (hR : rm.frames + 1 ≤ R.frames ∧ 8 + (maxL + 11) + rm.locals ≤ R.locals) : va_CS R s args own index y bytes maxL ret ws rm mc ms n := by
  have hc : Cond.code y bytes maxL ret ∈ ws := by rw [hw]; exact List.mem_cons_self
  refine ⟨⟨hrc, hrs, hR.1, hR.2, pay_in ht hG, hc⟩, hlink, cx_same hy hinst hni, hsup, hinst, hini, ht _ (hG _ hc).1, hd.1, fun sig h => ?_⟩
  have h2 := hd.2
  rw [h] at h2
  exact (Option.some.inj h2).symm
theorem cx_cap {k : Nat} (h : k ≤ 16) : nI k - ((16 : Int32) >>> ((0 : Int32) &&& 31)) ≤ 0 := by
  rw [sb_shr0, Int32.le_iff_toInt_le, show (16 : Int32) = nI 16 from rfl, pk_sub_toInt (by omega) (by omega)]
  simp
  omega
theorem m_dgAt {i v : Nat} (h1 : 1 ≤ i) (h : i = 1 ∨ 10 ^ (i - 1) ≤ v) (h2 : i = 10 ∨ v < 10 ^ i) (h3 : i ≤ 10) : sb_dg v = i := by
  have : i = 1 ∨ i = 2 ∨ i = 3 ∨ i = 4 ∨ i = 5 ∨ i = 6 ∨ i = 7 ∨ i = 8 ∨ i = 9 ∨ i = 10 := by omega
  rcases this with rfl | rfl | rfl | rfl | rfl | rfl | rfl | rfl | rfl | rfl <;> simp at h h2 <;> unfold sb_dg <;> (repeat' split) <;> omega
theorem m_p10 (i : Nat) : (10 : Int32) * (-(nI (10 ^ i))) = -(nI (10 ^ (i + 1))) := by
  rw [Int32.mul_neg, Nat.pow_succ, Nat.mul_comm]
  congr 1
  show nI 10 * nI (10 ^ i) = _
  exact (Int32.ofNat_mul 10 (10 ^ i)).symm
theorem m_n100 {v : Nat} (hv : v < 2 ^ 31) (h : ¬ (-100 : Int32) < -(nI v)) : 100 ≤ v := by
  rcases Nat.lt_or_ge v 100 with q | q
  · exact absurd ((sb_nlt (a := 100) (by decide) hv).mpr q) h
  · exact q
theorem m_l100 {v : Nat} (hv : v < 2 ^ 31) (h : (-100 : Int32) < -(nI v)) : v < 100 := (sb_nlt (a := 100) (by decide) hv).mp h
theorem m_n9 {v : Nat} (hv : v < 2 ^ 31) (h : ¬ (-9 : Int32) ≤ -(nI v)) : 10 ≤ v := by
  rcases Nat.lt_or_ge v 10 with q | q
  · exact absurd ((sb_nle (a := 9) (by decide) hv).mpr (by omega)) h
  · exact q
theorem m_l9 {v : Nat} (hv : v < 2 ^ 31) (h : (-9 : Int32) ≤ -(nI v)) : v < 10 := by
  have := (sb_nle (a := 9) (by decide) hv).mp h
  omega
/-- w's decimal digits, laid from n on -/
def m_gc (a : Nat → Int32) (n w : Nat) : Nat → Int32 := fun j => if n ≤ j ∧ j < n + sb_dg w then sb_b (48 + w / 10 ^ (n + sb_dg w - 1 - j) % 10) else a j
theorem m_nb (c : Nat) : vp_nar .byte (nI c) = sb_b c := vp_nar_byte _
theorem m_gc1 {a : Nat → Int32} {n v : Nat} (h : v < 10) (hc : n + sb_dg v ≤ 16) : m_gc a n v = upd a (nI (n + sb_dg v - 1)).toNatClampNeg (vp_nar .byte (nI (48 + (nI v).toNatClampNeg % 10))) := by
  have hd : sb_dg v = 1 := if_pos h
  rw [nI_clamp (by omega), nI_clamp (by omega), m_nb]
  funext j
  unfold m_gc
  by_cases e : j = n
  · subst e
    rw [if_pos (by omega), show j + sb_dg v - 1 = j by omega, pk_us, show j - j = 0 by omega, Nat.pow_zero, Nat.div_one]
  · rw [if_neg (by omega), pk_un (by omega)]
theorem m_gc2 {a : Nat → Int32} {n v : Nat} (h : 10 ≤ v) (h2 : v < 100) (hc : n + sb_dg v ≤ 16) : m_gc a n v = upd (upd a (nI (n + sb_dg v - 1)).toNatClampNeg (vp_nar .byte (nI (48 + (nI v).toNatClampNeg % 10)))) (nI (n + sb_dg v - 1 - 1)).toNatClampNeg (vp_nar .byte (nI (48 + (nI v).toNatClampNeg / 10))) := by
  have hd : sb_dg v = 2 := by rw [sb_dg, if_neg (by omega), if_pos h2]
  rw [nI_clamp (by omega), nI_clamp (by omega), nI_clamp (by omega), m_nb, m_nb]
  funext j
  unfold m_gc
  by_cases e : j = n
  · subst e
    rw [if_pos (by omega), show j + sb_dg v - 1 - 1 = j by omega, pk_us, show j + sb_dg v - 1 - j = 1 by omega, Nat.pow_one, show v / 10 % 10 = v / 10 by omega]
  · by_cases e2 : j = n + 1
    · subst e2
      rw [if_pos (by omega), pk_un (by omega), show n + sb_dg v - 1 = n + 1 by omega, pk_us, Nat.sub_self, Nat.pow_zero, Nat.div_one]
    · rw [if_neg (by omega), pk_un (by omega), pk_un (by omega)]
theorem m_gcs {a : Nat → Int32} {n v : Nat} (h : 100 ≤ v) (hv : v < 2 ^ 31) (hc : n + sb_dg v ≤ 16) : m_gc a n v = m_gc (upd (upd a (nI (n + sb_dg v - 1)).toNatClampNeg (vp_nar .byte (nI (48 + (nI (v % 100)).toNatClampNeg % 10)))) (nI (n + sb_dg v - 1 - 1)).toNatClampNeg (vp_nar .byte (nI (48 + (nI (v % 100)).toNatClampNeg / 10)))) n (v / 100) := by
  have hd := sb_dg100 h hv
  have hd2 := (sb_dg_in (v / 100)).1
  rw [nI_clamp (by omega), nI_clamp (by omega), nI_clamp (by omega), m_nb, m_nb]
  funext j
  unfold m_gc
  by_cases e1 : j = n + sb_dg v - 1
  · rw [if_pos (by omega), if_neg (by omega), pk_un (by omega), e1, pk_us, Nat.sub_self, Nat.pow_zero, Nat.div_one, show v % 100 % 10 = v % 10 by omega]
  · by_cases e2 : j = n + sb_dg v - 1 - 1
    · rw [if_pos (by omega), if_neg (by omega), e2, pk_us, show n + sb_dg v - 1 - (n + sb_dg v - 1 - 1) = 1 by omega, Nat.pow_one, show v % 100 / 10 = v / 10 % 10 by omega]
    · by_cases e3 : n ≤ j ∧ j < n + sb_dg (v / 100)
      · rw [if_pos (by omega), if_pos e3, show n + sb_dg v - 1 - j = (n + sb_dg (v / 100) - 1 - j) + 2 by omega, Nat.div_div_eq_div_mul, Nat.pow_add, Nat.mul_comm (10 ^ _)]
      · rw [if_neg (by omega), if_neg e3, pk_un e2, pk_un e1]
/-- how many letters an int has, and its letters laid from k on -/
def m_wd (x : Int32) : Nat := x.toInt.natAbs
def m_len (x : Int32) : Nat := if x < 0 then sb_dg (m_wd x) + 1 else sb_dg (m_wd x)
def m_app (bt : Nat → Int32) (k : Nat) (x : Int32) : Nat → Int32 := if x < 0 then upd (m_gc bt (k + 1) (m_wd x)) k (vp_nar .byte 45) else m_gc bt k (m_wd x)
theorem m_of_neg {x : Int32} (h : x < 0) (hm : x ≠ -2147483648) : 0 < m_wd x ∧ m_wd x < 2 ^ 31 ∧ x = -(nI (m_wd x)) := by
  have h1 : x.toInt < 0 := by simpa [Int32.lt_iff_toInt_lt] using h
  have h2 := Int32.le_toInt x
  have h3 : x.toInt ≠ -2147483648 := fun e => hm (Int32.toInt_inj.mp (by rw [e]; decide))
  have h4 : m_wd x < 2 ^ 31 := by unfold m_wd; omega
  refine ⟨by unfold m_wd; omega, h4, Int32.toInt_inj.mp ?_⟩
  rw [sb_negT h4]
  unfold m_wd
  omega
theorem m_of_pos {x : Int32} (h : ¬ x < 0) : m_wd x < 2 ^ 31 ∧ x = nI (m_wd x) := by
  have h1 : ¬ x.toInt < 0 := by simpa [Int32.lt_iff_toInt_lt] using h
  have h2 := Int32.toInt_lt x
  have h4 : m_wd x < 2 ^ 31 := by unfold m_wd; omega
  refine ⟨h4, Int32.toInt_inj.mp ?_⟩
  rw [nI_toInt h4]
  unfold m_wd
  omega
theorem m_p10lt {i : Nat} (h : i < 10) : 10 ^ i < 2 ^ 31 := by
  have : i = 0 ∨ i = 1 ∨ i = 2 ∨ i = 3 ∨ i = 4 ∨ i = 5 ∨ i = 6 ∨ i = 7 ∨ i = 8 ∨ i = 9 := by omega
  rcases this with rfl | rfl | rfl | rfl | rfl | rfl | rfl | rfl | rfl | rfl <;> decide
theorem m_ltp {i v : Nat} (hi : i < 10) (hv : v < 2 ^ 31) (h : ¬ -(nI v) ≤ -(nI (10 ^ i))) : v < 10 ^ i := by
  rw [sb_nle hv (m_p10lt hi)] at h
  omega
theorem m_gep {i v : Nat} (hi : i < 10) (hv : v < 2 ^ 31) (h : -(nI v) ≤ -(nI (10 ^ i))) : 10 ^ i ≤ v := (sb_nle hv (m_p10lt hi)).mp h
theorem m_neg0 {v : Nat} (h0 : 0 < v) (hv : v < 2 ^ 31) : ¬ (0 : Int32) ≤ -(nI v) := by
  rw [Int32.le_iff_toInt_le, sb_negT hv]
  simp
  omega
theorem m_neg0' {v : Nat} (h0 : 0 < v) (hv : v < 2 ^ 31) : -(nI v) < (0 : Int32) := by
  rw [Int32.lt_iff_toInt_lt, sb_negT hv]
  simp
  omega
def m_ml (k : Nat) (ml : Int32) : Int32 := if nI k ≤ nI 0 then ml else 1
def m_sp (bt : Nat → Int32) (k : Nat) : Nat → Int32 := upd bt k (vp_nar .byte ((32 : Int32).toInt8.toInt32))
theorem m_minIx {k : Nat} {p0 : Int32} (hk : k ≤ 16) (h : p0 < nI k) : p0 < m_min (nI k) ((16 : Int32) >>> ((0 : Int32) &&& 31)) := by
  unfold m_min
  rw [sb_shr0, if_neg (show ¬ (16 : Int32) < nI k from nI_nlt (b := 16) (a := 16) (Nat.le_refl _) (by decide) |> fun _ => nI_nlt (a := 16) (b := k) hk (by decide))]
  exact h
theorem m_ixk {k : Nat} {p0 : Int32} (hk : k ≤ 16) (h0 : ¬ p0 < 0) (h : p0 < nI k) : vp_in p0 16 := by
  refine cx_ix (n := 16) (by decide) h0 (fun q => ?_)
  have h1 := nI_le (a := k) (b := 16) hk (by decide)
  rw [Int32.le_iff_toInt_le] at q h1
  rw [Int32.lt_iff_toInt_lt] at h
  omega
set_option maxHeartbeats 4000000 in
set_option maxRecDepth 100000 in
theorem c_Asb_isLatin1 (l : Launch) (D : va_G)  (h0 : Nat) (b0 : Nat) (kb : ClassId) (bt : Nat → Int32) (ml : Int32) (k : Nat) (sz : Nat)  : Met l y_Asb_isLatin1 ws_Asb_isLatin1 ({ frames := 0, cells := 0, slots := 0, locals := 0 }) (va_Pc [.ref h0] (cx_pre D [(kb, .byte)] ([(h0, .inr (7, [.ref b0, .int 0, .int ml, .int (nI k)])), (b0, .inl (kb, 16, .inl bt))]) sz)) (vp_Si (fun r9 => r9 = 1)) 0 0 (fun _ => False) := by
  refine Met.ofW (cc := b_Asb_isLatin1) (maxL := 1) (ret := (some .boolean)) (by decide) rfl ?_
  intro p e s m args below meth c s₁ B hml hv
  obtain ⟨rfl, hsz, hP, hK, hD0, hN, hO⟩ := hv
  have hx := B.exec
  have hb := B.bytes
  have hr := B.returns
  have hts := fun (w : Cond) (h : w ∈ cx_tbl) => atoms_spec (ws := ws_Asb_isLatin1) B.pre w (List.mem_cons_of_mem _ h)
  have hown : s.vm.findClass R_Asb = some m.cls := findClass_of_methodNamed B.named
  have hlocks := B.notSynchronized
  subst hsz
  have hD := hD0.self (sz := s.heap.size)
  generalize hAe : va_A ([(h0, .inr (7, [.ref b0, .int 0, .int ml, .int (nI k)])), (b0, .inl (kb, 16, .inl bt))]) s.heap.size = A at hD hO
  have hA : ∀ q : Nat, s.heap.size ≤ q → A q := fun q h => by rw [← hAe]; exact Or.inr h
  have hS : va_S A s.heap s.heap [] := va_S.rf
  have hl := lv_entry ([.ref h0]) (n := 1) (Nat.le_of_ble_eq_true rfl)
  rw [lg_entry_eq]
  generalize (lg_sl ([.ref h0]) ++ List.replicate (1 - (lg_sl ([.ref h0])).length) Slot.unset).toArray = ls at hl ⊢
  have hl : lv_has ls 1 [(0, .ref h0)] := hl
  refine va_gets hx hb hO.1 hS hown (hts _ cw_149) (fun _ h9 => h9) d_Asb_isLatin1_0 ?_
  refine lv_if_eq (tgt := 17) hx hb d_Asb_isLatin1_3 (by decide) (fun c_1 => ?_) (fun c_1 => ?_)
  · exact absurd c_1 (by decide)
  · refine lv_aload_n hx hb d_Asb_isLatin1_6 rfl (lv_at hl 0 rfl) ?_
    refine va_get (D := D) (ci := 7) (v := .int 0) (C := R_Sb) (T := T_Sb) (N := 4) hx hb hts in_Sb hown hK hP 0 rfl rfl 1 (by decide) (hts _ cw_159) (fun _ h9 => h9) rfl d_Asb_isLatin1_7 ?_
    refine lv_if_ne (tgt := 17) hx hb d_Asb_isLatin1_10 (by decide) (fun c_2 => ?_) (fun c_2 => ?_)
    · exact absurd c_2 (by decide)
    · refine lv_iconst (v := 1) hx hb d_Asb_isLatin1_13 (by decide) ?_
      refine lv_goto (tgt := 18) hx hb d_Asb_isLatin1_14 (by decide) ?_
      exact W.zret (v := 1) hx hb hr (rfl) (fun t ht hW => ⟨_, rfl, rfl, ht⟩) (fun q h => by cases h) d_Asb_isLatin1_18

set_option maxHeartbeats 4000000 in
set_option maxRecDepth 100000 in
theorem c_Lat_canEncode (l : Launch) (D : va_G)   (sz : Nat)  : Met l y_JStringLatin1_canEncode ws_JStringLatin1_canEncode ({ frames := 0, cells := 0, slots := 0, locals := 0 }) (va_Pc [.int 32] (cx_pre D [] ([]) sz)) (vp_Si (fun r9 => r9 = 1)) 0 0 (fun _ => False) := by
  refine Met.ofW (cc := b_JStringLatin1_canEncode) (maxL := 1) (ret := (some .boolean)) (by decide) rfl ?_
  intro p e s m args below meth c s₁ B hml hv
  obtain ⟨rfl, hsz, hP, hK, hD0, hN, hO⟩ := hv
  have hx := B.exec
  have hb := B.bytes
  have hr := B.returns
  have hts := fun (w : Cond) (h : w ∈ cx_tbl) => atoms_spec (ws := ws_JStringLatin1_canEncode) B.pre w (List.mem_cons_of_mem _ h)
  have hown : s.vm.findClass R_JStringLatin1 = some m.cls := findClass_of_methodNamed B.named
  have hlocks := B.notSynchronized
  subst hsz
  have hD := hD0.self (sz := s.heap.size)
  generalize hAe : va_A ([]) s.heap.size = A at hD hO
  have hA : ∀ q : Nat, s.heap.size ≤ q → A q := fun q h => by rw [← hAe]; exact Or.inr h
  have hS : va_S A s.heap s.heap [] := va_S.rf
  have hl := lv_entry ([.int 32]) (n := 1) (Nat.le_of_ble_eq_true rfl)
  rw [lg_entry_eq]
  generalize (lg_sl ([.int 32]) ++ List.replicate (1 - (lg_sl ([.int 32])).length) Slot.unset).toArray = ls at hl ⊢
  have hl : lv_has ls 1 [(0, .int 32)] := hl
  refine lv_iload_n hx hb d_JStringLatin1_canEncode_0 rfl (lv_at hl 0 rfl) ?_
  refine lv_sipush (v := 255) hx hb d_JStringLatin1_canEncode_1 (by decide) ?_
  refine lv_icmp_gt (tgt := 11) hx hb d_JStringLatin1_canEncode_4 (by decide) (fun c_1 => ?_) (fun c_1 => ?_)
  · exact absurd c_1 (by decide)
  · refine lv_iconst (v := 1) hx hb d_JStringLatin1_canEncode_7 (by decide) ?_
    refine lv_goto (tgt := 12) hx hb d_JStringLatin1_canEncode_8 (by decide) ?_
    exact W.zret (v := 1) hx hb hr (rfl) (fun t ht hW => ⟨_, rfl, rfl, ht⟩) (fun q h => by cases h) d_JStringLatin1_canEncode_12

set_option maxHeartbeats 4000000 in
set_option maxRecDepth 100000 in
theorem c_Asb_ensure (l : Launch) (D : va_G)  (h0 : Nat) (b0 : Nat) (kb : ClassId) (bt : Nat → Int32) (ml : Int32) (k : Nat) (pq : Nat) (sz : Nat) (hcap : pq ≤ 16) : Met l y_Asb_ensureCapacityInternal ws_Asb_ensureCapacityInternal ({ frames := 0, cells := 0, slots := 0, locals := 0 }) (va_Pc [.ref h0, .int (nI pq)] (cx_pre D [(kb, .byte)] ([(h0, .inr (7, [.ref b0, .int 0, .int ml, .int (nI k)])), (b0, .inl (kb, 16, .inl bt))]) sz)) (va_Sv (fun _ => True)) 0 0 (fun _ => False) := by
  refine Met.ofW (cc := b_Asb_ensureCapacityInternal) (maxL := 3) (ret := none) (by decide) rfl ?_
  intro p e s m args below meth c s₁ B hml hv
  obtain ⟨rfl, hsz, hP, hK, hD0, hN, hO⟩ := hv
  have hx := B.exec
  have hb := B.bytes
  have hr := B.returns
  have hts := fun (w : Cond) (h : w ∈ cx_tbl) => atoms_spec (ws := ws_Asb_ensureCapacityInternal) B.pre w (List.mem_cons_of_mem _ h)
  have hown : s.vm.findClass R_Asb = some m.cls := findClass_of_methodNamed B.named
  have hlocks := B.notSynchronized
  subst hsz
  have hD := hD0.self (sz := s.heap.size)
  generalize hAe : va_A ([(h0, .inr (7, [.ref b0, .int 0, .int ml, .int (nI k)])), (b0, .inl (kb, 16, .inl bt))]) s.heap.size = A at hD hO
  have hA : ∀ q : Nat, s.heap.size ≤ q → A q := fun q h => by rw [← hAe]; exact Or.inr h
  have hS : va_S A s.heap s.heap [] := va_S.rf
  have hl := lv_entry ([.ref h0, .int (nI pq)]) (n := 3) (Nat.le_of_ble_eq_true rfl)
  rw [lg_entry_eq]
  generalize (lg_sl ([.ref h0, .int (nI pq)]) ++ List.replicate (3 - (lg_sl ([.ref h0, .int (nI pq)])).length) Slot.unset).toArray = ls at hl ⊢
  have hl : lv_has ls 3 [(0, .ref h0), (1, .int (nI pq))] := hl
  refine lv_aload_n hx hb d_Asb_ensureCapacityInternal_0 rfl (lv_at hl 0 rfl) ?_
  refine va_get (D := D) (ci := 7) (v := .ref b0) (C := R_Sb) (T := T_Sb) (N := 4) hx hb hts in_Sb hown hK hP 0 rfl rfl 0 (by decide) (hts _ cw_158) (fun _ h9 => h9) rfl d_Asb_ensureCapacityInternal_1 ?_
  refine va_alen (v := 16) hx hb hK hP 1 0 rfl rfl rfl d_Asb_ensureCapacityInternal_4 ?_
  refine lv_aload_n hx hb d_Asb_ensureCapacityInternal_5 rfl (lv_at hl 0 rfl) ?_
  refine va_get (D := D) (ci := 7) (v := .int 0) (C := R_Sb) (T := T_Sb) (N := 4) hx hb hts in_Sb hown hK hP 0 rfl rfl 1 (by decide) (hts _ cw_159) (fun _ h9 => h9) rfl d_Asb_ensureCapacityInternal_6 ?_
  refine lv_ishr hx hb d_Asb_ensureCapacityInternal_9 ?_
  refine lv_istore_n (lv' := [(2, .int ((16 : Int32) >>> ((0 : Int32) &&& 31))), (0, .ref h0), (1, .int (nI pq))]) hx hb d_Asb_ensureCapacityInternal_10 rfl hl (by decide) rfl (fun ls hl => ?_)
  refine lv_iload_n hx hb d_Asb_ensureCapacityInternal_11 rfl (lv_at hl 2 rfl) ?_
  refine lv_iload_n hx hb d_Asb_ensureCapacityInternal_12 rfl (lv_at hl 0 rfl) ?_
  refine lv_isub hx hb d_Asb_ensureCapacityInternal_13 ?_
  refine lv_if_le (tgt := 38) hx hb d_Asb_ensureCapacityInternal_14 (by decide) (fun c_1 => ?_) (fun c_1 => ?_)
  · exact W.vret hx hb hr (fun t ht hW => ⟨rfl, trivial, ht⟩) (fun q h => by cases h) d_Asb_ensureCapacityInternal_38
  · exact absurd (cx_cap hcap) c_1

set_option maxHeartbeats 4000000 in
set_option maxRecDepth 100000 in
theorem c_Asb_setLength (l : Launch) (D : va_G)  (h0 : Nat) (b0 : Nat) (kb : ClassId) (bt : Nat → Int32) (ml : Int32) (k : Nat) (sz : Nat) (hk : k ≤ 16) : Met l y_Asb_setLength ws_Asb_setLength ({ frames := 1, cells := 0, slots := 0, locals := 22 }) (va_Pc [.ref h0, .int (nI 0)] (cx_pre D [(kb, .byte)] ([(h0, .inr (7, [.ref b0, .int 0, .int ml, .int (nI k)])), (b0, .inl (kb, 16, .inl bt))]) sz)) (va_Qv (fun _ => True) (fun (_ : Unit) t => cx_end D [(kb, .byte)] (va_A ([(h0, .inr (7, [.ref b0, .int 0, .int ml, .int (nI k)])), (b0, .inl (kb, 16, .inl bt))]) sz) ([(h0, .inr (7, [.ref b0, .int 0, .int (m_ml k ml), .int (nI 0)])), (b0, .inl (kb, 16, .inl bt))]) t) (va_A ([(h0, .inr (7, [.ref b0, .int 0, .int ml, .int (nI k)])), (b0, .inl (kb, 16, .inl bt))]) sz)) 0 0 (va_A ([(h0, .inr (7, [.ref b0, .int 0, .int ml, .int (nI k)])), (b0, .inl (kb, 16, .inl bt))]) sz) := by
  refine Met.ofW (cc := b_Asb_setLength) (maxL := 2) (ret := none) (by decide) rfl ?_
  intro p e s m args below meth c s₁ B hml hv
  obtain ⟨rfl, hsz, hP, hK, hD0, hN, hO⟩ := hv
  have hx := B.exec
  have hb := B.bytes
  have hr := B.returns
  have hts := fun (w : Cond) (h : w ∈ cx_tbl) => atoms_spec (ws := ws_Asb_setLength) B.pre w (List.mem_cons_of_mem _ h)
  have hown : s.vm.findClass R_Asb = some m.cls := findClass_of_methodNamed B.named
  have hlocks := B.notSynchronized
  subst hsz
  have hD := hD0.self (sz := s.heap.size)
  generalize hAe : va_A ([(h0, .inr (7, [.ref b0, .int 0, .int ml, .int (nI k)])), (b0, .inl (kb, 16, .inl bt))]) s.heap.size = A at hD hO ⊢
  have hA : ∀ q : Nat, s.heap.size ≤ q → A q := fun q h => by rw [← hAe]; exact Or.inr h
  have hS : va_S A s.heap s.heap [] := va_S.rf
  have hl := lv_entry ([.ref h0, .int (nI 0)]) (n := 2) (Nat.le_of_ble_eq_true rfl)
  rw [lg_entry_eq]
  generalize (lg_sl ([.ref h0, .int (nI 0)]) ++ List.replicate (2 - (lg_sl ([.ref h0, .int (nI 0)])).length) Slot.unset).toArray = ls at hl ⊢
  have hl : lv_has ls 2 [(0, .ref h0), (1, .int (nI 0))] := hl
  refine lv_iload_n hx hb d_Asb_setLength_0 rfl (lv_at hl 1 rfl) ?_
  refine lv_if_ge (tgt := 13) hx hb d_Asb_setLength_1 (by decide) (fun c_1 => ?_) (fun c_1 => ?_)
  · refine lv_aload_n hx hb d_Asb_setLength_13 rfl (lv_at hl 0 rfl) ?_
    refine lv_iload_n hx hb d_Asb_setLength_14 rfl (lv_at hl 1 rfl) ?_
    have hPc := hP.sub (ws' := [(h0, .inr (7, [.ref b0, .int 0, .int ml, .int (nI k)])), (b0, .inl (kb, 16, .inl bt))]) [0, 1] rfl
    have hDc := hD.sub (ws' := [(h0, .inr (7, [.ref b0, .int 0, .int ml, .int (nI k)])), (b0, .inl (kb, 16, .inl bt))]) [0, 1] (by decide) rfl
    have hKc := hK.sub (tys' := [(kb, .byte)]) [0] rfl
    have hFc := va_free (wc := [(h0, .inr (7, [.ref b0, .int 0, .int ml, .int (nI k)])), (b0, .inl (kb, 16, .inl bt))]) hD hS hA [0, 1] rfl
    refine va_csv (va_Run.run (va_runV (As := [.int (nI 0)]) (rest := [])  ⟨hx, hb, hml, hown, hts⟩ (c_Asb_ensure l D h0 b0 kb bt ml k 0 s.heap.size (Nat.zero_le _)) ⟨callB_of 1 hts cg_Asb_ensureCapacityInternal rfl rfl rfl (hts _ cw_6) (hts _ cw_592) (by decide +kernel) ⟨Nat.le_of_ble_eq_true rfl, Nat.le_of_ble_eq_true rfl⟩, hts _ cw_594, hts _ cw_sel⟩ (cx_preV (C := R_Sb) [.int (nI 0)] hPc hKc hDc hN hO hS hFc (ci := 7) (q0 := 0) rfl rfl rfl) rfl rfl hl.1 rfl (lv_room (Nat.le_of_ble_eq_true rfl)) d_Asb_setLength_15 ⟨Nat.le_of_ble_eq_true rfl, Nat.le_of_ble_eq_true rfl⟩)) (fun _ => ?_)
    refine lv_aload_n hx hb d_Asb_setLength_18 rfl (lv_at hl 0 rfl) ?_
    refine va_get (D := D) (ci := 7) (v := .int (nI k)) (C := R_Sb) (T := T_Sb) (N := 4) hx hb hts in_Sb hown hK hP 0 rfl rfl 3 (by decide) (hts _ cw_161) (fun _ h9 => h9) rfl d_Asb_setLength_19 ?_
    refine lv_iload_n hx hb d_Asb_setLength_22 rfl (lv_at hl 1 rfl) ?_
    refine lv_icmp_ge (tgt := 63) hx hb d_Asb_setLength_23 (by decide) (fun c_3 => ?_) (fun c_3 => ?_)
    · refine lv_aload_n hx hb d_Asb_setLength_63 rfl (lv_at hl 0 rfl) ?_
      refine va_get (D := D) (ci := 7) (v := .int (nI k)) (C := R_Sb) (T := T_Sb) (N := 4) hx hb hts in_Sb hown hK hP 0 rfl rfl 3 (by decide) (hts _ cw_161) (fun _ h9 => h9) rfl d_Asb_setLength_64 ?_
      refine lv_iload_n hx hb d_Asb_setLength_67 rfl (lv_at hl 1 rfl) ?_
      refine lv_icmp_le (tgt := 76) hx hb d_Asb_setLength_68 (by decide) (fun c_4 => ?_) (fun c_4 => ?_)
      · refine lv_aload_n hx hb d_Asb_setLength_76 rfl (lv_at hl 0 rfl) ?_
        refine lv_iload_n hx hb d_Asb_setLength_77 rfl (lv_at hl 1 rfl) ?_
        refine va_put (D := D) (ci := 7) (v := .int (nI 0)) (ty := .int) (C := R_Sb) (T := T_Sb) (N := 4) hx hb hts in_Sb ty_Sb tyok_Sb nm_Sb hown hK hP hD hS 0 rfl rfl 3 (by decide) (hts _ cw_161) (fun _ h9 => h9) rfl (by decide +kernel) rfl rfl (Nat.le_of_ble_eq_true rfl) d_Asb_setLength_78 (fun H locs hP hD hS => ?_)
        have hP : va_P D classes ([(h0, .inr (7, [.ref b0, .int 0, .int ml, .int (nI 0)])), (b0, .inl (kb, 16, .inl bt))]) H := hP
        have hD : va_D A ([(h0, .inr (7, [.ref b0, .int 0, .int ml, .int (nI 0)])), (b0, .inl (kb, 16, .inl bt))]) := hD
        have hm : m_ml k ml = ml := by simp [m_ml, eq_true c_1, eq_true c_3, eq_true c_4]
        rw [hm]
        have hP9 := hP.sub (ws' := [(h0, .inr (7, [.ref b0, .int 0, .int ml, .int (nI 0)])), (b0, .inl (kb, 16, .inl bt))]) [0, 1] rfl
        have hD9 := hD.sub (ws' := [(h0, .inr (7, [.ref b0, .int 0, .int ml, .int (nI 0)])), (b0, .inl (kb, 16, .inl bt))]) [0, 1] (by decide) rfl
        have hK9 := hK.sub (tys' := [(kb, .byte)]) [0] rfl
        exact W.vret hx hb hr (fun t ht hW => ⟨⟨(), rfl, trivial, by rw [ht]; exact hP9, va_K.moved hW.alike hK9, hD9⟩, hS.F ht⟩) hS.2.2 d_Asb_setLength_81
      · refine lv_aload_n hx hb d_Asb_setLength_71 rfl (lv_at hl 0 rfl) ?_
        refine lv_iconst (v := 1) hx hb d_Asb_setLength_72 (by decide) ?_
        refine va_put (D := D) (ci := 7) (v := .int 1) (ty := .boolean) (C := R_Sb) (T := T_Sb) (N := 4) hx hb hts in_Sb ty_Sb tyok_Sb nm_Sb hown hK hP hD hS 0 rfl rfl 2 (by decide) (hts _ cw_160) (fun _ h9 => h9) rfl (by decide +kernel) rfl rfl (Nat.le_of_ble_eq_true rfl) d_Asb_setLength_73 (fun H locs hP hD hS => ?_)
        have hP : va_P D classes ([(h0, .inr (7, [.ref b0, .int 0, .int 1, .int (nI k)])), (b0, .inl (kb, 16, .inl bt))]) H := hP
        have hD : va_D A ([(h0, .inr (7, [.ref b0, .int 0, .int 1, .int (nI k)])), (b0, .inl (kb, 16, .inl bt))]) := hD
        refine lv_aload_n hx hb d_Asb_setLength_76 rfl (lv_at hl 0 rfl) ?_
        refine lv_iload_n hx hb d_Asb_setLength_77 rfl (lv_at hl 1 rfl) ?_
        refine va_put (D := D) (ci := 7) (v := .int (nI 0)) (ty := .int) (C := R_Sb) (T := T_Sb) (N := 4) hx hb hts in_Sb ty_Sb tyok_Sb nm_Sb hown hK hP hD hS 0 rfl rfl 3 (by decide) (hts _ cw_161) (fun _ h9 => h9) rfl (by decide +kernel) rfl rfl (Nat.le_of_ble_eq_true rfl) d_Asb_setLength_78 (fun H locs hP hD hS => ?_)
        have hP : va_P D classes ([(h0, .inr (7, [.ref b0, .int 0, .int 1, .int (nI 0)])), (b0, .inl (kb, 16, .inl bt))]) H := hP
        have hD : va_D A ([(h0, .inr (7, [.ref b0, .int 0, .int 1, .int (nI 0)])), (b0, .inl (kb, 16, .inl bt))]) := hD
        have hm : m_ml k ml = 1 := by simp [m_ml, eq_true c_1, eq_true c_3, eq_false c_4]
        rw [hm]
        have hP9 := hP.sub (ws' := [(h0, .inr (7, [.ref b0, .int 0, .int 1, .int (nI 0)])), (b0, .inl (kb, 16, .inl bt))]) [0, 1] rfl
        have hD9 := hD.sub (ws' := [(h0, .inr (7, [.ref b0, .int 0, .int 1, .int (nI 0)])), (b0, .inl (kb, 16, .inl bt))]) [0, 1] (by decide) rfl
        have hK9 := hK.sub (tys' := [(kb, .byte)]) [0] rfl
        exact W.vret hx hb hr (fun t ht hW => ⟨⟨(), rfl, trivial, by rw [ht]; exact hP9, va_K.moved hW.alike hK9, hD9⟩, hS.F ht⟩) hS.2.2 d_Asb_setLength_81
    · exact absurd (nI_le (Nat.zero_le k) (by omega)) c_3
  · exact absurd (show (0 : Int32) ≤ nI 0 by decide) c_1

set_option maxHeartbeats 4000000 in
set_option maxRecDepth 100000 in
theorem c_Sb_setLength (l : Launch) (D : va_G)  (h0 : Nat) (b0 : Nat) (kb : ClassId) (bt : Nat → Int32) (ml : Int32) (k : Nat) (sz : Nat) (hk : k ≤ 16) : Met l y_Sb_setLength ws_Sb_setLength ({ frames := 2, cells := 0, slots := 0, locals := 43 }) (va_Pc [.ref h0, .int (nI 0)] (cx_pre D [(kb, .byte)] ([(h0, .inr (7, [.ref b0, .int 0, .int ml, .int (nI k)])), (b0, .inl (kb, 16, .inl bt))]) sz)) (va_Qv (fun _ => True) (fun (_ : Unit) t => cx_end D [(kb, .byte)] (va_A ([(h0, .inr (7, [.ref b0, .int 0, .int ml, .int (nI k)])), (b0, .inl (kb, 16, .inl bt))]) sz) ([(h0, .inr (7, [.ref b0, .int 0, .int (m_ml k ml), .int (nI 0)])), (b0, .inl (kb, 16, .inl bt))]) t) (va_A ([(h0, .inr (7, [.ref b0, .int 0, .int ml, .int (nI k)])), (b0, .inl (kb, 16, .inl bt))]) sz)) 0 0 (va_A ([(h0, .inr (7, [.ref b0, .int 0, .int ml, .int (nI k)])), (b0, .inl (kb, 16, .inl bt))]) sz) := by
  refine Met.ofW (cc := b_Sb_setLength) (maxL := 2) (ret := none) (by decide) rfl ?_
  intro p e s m args below meth c s₁ B hml hv
  obtain ⟨rfl, hsz, hP, hK, hD0, hN, hO⟩ := hv
  have hx := B.exec
  have hb := B.bytes
  have hr := B.returns
  have hts := fun (w : Cond) (h : w ∈ cx_tbl) => atoms_spec (ws := ws_Sb_setLength) B.pre w (List.mem_cons_of_mem _ h)
  have hown : s.vm.findClass R_Sb = some m.cls := findClass_of_methodNamed B.named
  have hlocks := B.notSynchronized
  subst hsz
  have hD := hD0.self (sz := s.heap.size)
  generalize hAe : va_A ([(h0, .inr (7, [.ref b0, .int 0, .int ml, .int (nI k)])), (b0, .inl (kb, 16, .inl bt))]) s.heap.size = A at hD hO ⊢
  have hA : ∀ q : Nat, s.heap.size ≤ q → A q := fun q h => by rw [← hAe]; exact Or.inr h
  have hS : va_S A s.heap s.heap [] := va_S.rf
  have hl := lv_entry ([.ref h0, .int (nI 0)]) (n := 2) (Nat.le_of_ble_eq_true rfl)
  rw [lg_entry_eq]
  generalize (lg_sl ([.ref h0, .int (nI 0)]) ++ List.replicate (2 - (lg_sl ([.ref h0, .int (nI 0)])).length) Slot.unset).toArray = ls at hl ⊢
  have hl : lv_has ls 2 [(0, .ref h0), (1, .int (nI 0))] := hl
  refine lv_aload_n hx hb d_Sb_setLength_0 rfl (lv_at hl 0 rfl) ?_
  refine lv_iload_n hx hb d_Sb_setLength_1 rfl (lv_at hl 1 rfl) ?_
  have hPc := hP.sub (ws' := [(h0, .inr (7, [.ref b0, .int 0, .int ml, .int (nI k)])), (b0, .inl (kb, 16, .inl bt))]) [0, 1] rfl
  have hDc := hD.sub (ws' := [(h0, .inr (7, [.ref b0, .int 0, .int ml, .int (nI k)])), (b0, .inl (kb, 16, .inl bt))]) [0, 1] (by decide) rfl
  have hKc := hK.sub (tys' := [(kb, .byte)]) [0] rfl
  have hFc := va_free (wc := [(h0, .inr (7, [.ref b0, .int 0, .int ml, .int (nI k)])), (b0, .inl (kb, 16, .inl bt))]) hD hS hA [0, 1] rfl
  refine cx_joinv (wc := [(h0, .inr (7, [.ref b0, .int 0, .int ml, .int (nI k)])), (b0, .inl (kb, 16, .inl bt))]) (wr := []) hP hD hS hA [0, 1] [] rfl rfl (by decide) (by decide) (va_runSU (As := [.int (nI 0)]) (rest := []) (hK.1 7 _ rfl).2 ⟨hx, hb, hml, hown, hts⟩ (c_Asb_setLength l D h0 b0 kb bt ml k s.heap.size (hk)) (cx_cwSU 1 hts cg_Asb_setLength rfl rfl rfl (hts _ cw_589) (hts _ cw_sup) (hts _ cw_590) (hts _ cw_6) (cx_asbNi (hts _ cw_626)) (by decide +kernel) (by decide +kernel) ⟨Nat.le_of_ble_eq_true rfl, Nat.le_of_ble_eq_true rfl⟩) (cx_preV (C := R_Sb) [.int (nI 0)] hPc hKc hDc hN hO hS hFc (ci := 7) (q0 := 0) rfl rfl rfl) rfl rfl hl.1 rfl (lv_room (Nat.le_of_ble_eq_true rfl)) d_Sb_setLength_2 ⟨Nat.le_of_ble_eq_true rfl, Nat.le_of_ble_eq_true rfl⟩) (fun _ H locs z_1 hK1 hP hD hS => ?_)
  have hP : va_P D classes ([(h0, .inr (7, [.ref b0, .int 0, .int (m_ml k ml), .int (nI 0)])), (b0, .inl (kb, 16, .inl bt))]) H := hP
  have hD : va_D A ([(h0, .inr (7, [.ref b0, .int 0, .int (m_ml k ml), .int (nI 0)])), (b0, .inl (kb, 16, .inl bt))]) := hD
  have hP9 := hP.sub (ws' := [(h0, .inr (7, [.ref b0, .int 0, .int (m_ml k ml), .int (nI 0)])), (b0, .inl (kb, 16, .inl bt))]) [0, 1] rfl
  have hD9 := hD.sub (ws' := [(h0, .inr (7, [.ref b0, .int 0, .int (m_ml k ml), .int (nI 0)])), (b0, .inl (kb, 16, .inl bt))]) [0, 1] (by decide) rfl
  have hK9 := hK.sub (tys' := [(kb, .byte)]) [0] rfl
  exact W.vret hx hb hr (fun t ht hW => ⟨⟨(), rfl, trivial, by rw [ht]; exact hP9, va_K.moved hW.alike hK9, hD9⟩, hS.F ht⟩) hS.2.2 d_Sb_setLength_5

set_option maxHeartbeats 4000000 in
set_option maxRecDepth 100000 in
theorem c_Asb_append2 (l : Launch) (D : va_G)  (h0 : Nat) (b0 : Nat) (kb : ClassId) (bt : Nat → Int32) (ml : Int32) (k : Nat) (sz : Nat) (hcap : k + 1 ≤ 16) : Met l y_Asb_append2 ws_Asb_append2 ({ frames := 1, cells := 0, slots := 0, locals := 22 }) (va_Pc [.ref h0, .int 32] (cx_pre D [(kb, .byte)] ([(h0, .inr (7, [.ref b0, .int 0, .int ml, .int (nI k)])), (b0, .inl (kb, 16, .inl bt))]) sz)) (va_Qq (fun r9 _ => r9 = some h0) (fun (_ : Unit) t => cx_end D [(kb, .byte)] (va_A ([(h0, .inr (7, [.ref b0, .int 0, .int ml, .int (nI k)])), (b0, .inl (kb, 16, .inl bt))]) sz) ([(h0, .inr (7, [.ref b0, .int 0, .int ml, .int (nI (k + 1))])), (b0, .inl (kb, 16, .inl (m_sp bt k)))]) t) (va_A ([(h0, .inr (7, [.ref b0, .int 0, .int ml, .int (nI k)])), (b0, .inl (kb, 16, .inl bt))]) sz)) 0 0 (va_A ([(h0, .inr (7, [.ref b0, .int 0, .int ml, .int (nI k)])), (b0, .inl (kb, 16, .inl bt))]) sz) := by
  refine Met.ofW (cc := b_Asb_append2) (maxL := 2) (ret := (some (.object "java/lang/AbstractStringBuilder"))) (by decide) rfl ?_
  intro p e s m args below meth c s₁ B hml hv
  obtain ⟨rfl, hsz, hP, hK, hD0, hN, hO⟩ := hv
  have hx := B.exec
  have hb := B.bytes
  have hr := B.returns
  have hts := fun (w : Cond) (h : w ∈ cx_tbl) => atoms_spec (ws := ws_Asb_append2) B.pre w (List.mem_cons_of_mem _ h)
  have hown : s.vm.findClass R_Asb = some m.cls := findClass_of_methodNamed B.named
  have hlocks := B.notSynchronized
  subst hsz
  have hD := hD0.self (sz := s.heap.size)
  generalize hAe : va_A ([(h0, .inr (7, [.ref b0, .int 0, .int ml, .int (nI k)])), (b0, .inl (kb, 16, .inl bt))]) s.heap.size = A at hD hO ⊢
  have hA : ∀ q : Nat, s.heap.size ≤ q → A q := fun q h => by rw [← hAe]; exact Or.inr h
  have hS : va_S A s.heap s.heap [] := va_S.rf
  have hl := lv_entry ([.ref h0, .int 32]) (n := 2) (Nat.le_of_ble_eq_true rfl)
  rw [lg_entry_eq]
  generalize (lg_sl ([.ref h0, .int 32]) ++ List.replicate (2 - (lg_sl ([.ref h0, .int 32])).length) Slot.unset).toArray = ls at hl ⊢
  have hl : lv_has ls 2 [(0, .ref h0), (1, .int 32)] := hl
  refine lv_aload_n hx hb d_Asb_append2_0 rfl (lv_at hl 0 rfl) ?_
  refine lv_aload_n hx hb d_Asb_append2_1 rfl (lv_at hl 0 rfl) ?_
  refine va_get (D := D) (ci := 7) (v := .int (nI k)) (C := R_Sb) (T := T_Sb) (N := 4) hx hb hts in_Sb hown hK hP 0 rfl rfl 3 (by decide) (hts _ cw_161) (fun _ h9 => h9) rfl d_Asb_append2_2 ?_
  refine lv_iconst (v := 1) hx hb d_Asb_append2_5 (by decide) ?_
  refine lv_iadd hx hb d_Asb_append2_6 ?_
  refine W.eq (g2 := F0 m 7 ls [.int (nI (k + 1)), .ref h0]) (by rw [nI_1]) ?_
  have hPc := hP.sub (ws' := [(h0, .inr (7, [.ref b0, .int 0, .int ml, .int (nI k)])), (b0, .inl (kb, 16, .inl bt))]) [0, 1] rfl
  have hDc := hD.sub (ws' := [(h0, .inr (7, [.ref b0, .int 0, .int ml, .int (nI k)])), (b0, .inl (kb, 16, .inl bt))]) [0, 1] (by decide) rfl
  have hKc := hK.sub (tys' := [(kb, .byte)]) [0] rfl
  have hFc := va_free (wc := [(h0, .inr (7, [.ref b0, .int 0, .int ml, .int (nI k)])), (b0, .inl (kb, 16, .inl bt))]) hD hS hA [0, 1] rfl
  refine va_csv (va_Run.run (va_runV (As := [.int (nI (k + 1))]) (rest := [])  ⟨hx, hb, hml, hown, hts⟩ (c_Asb_ensure l D h0 b0 kb bt ml k (k + 1) s.heap.size (hcap)) ⟨callB_of 1 hts cg_Asb_ensureCapacityInternal rfl rfl rfl (hts _ cw_6) (hts _ cw_592) (by decide +kernel) ⟨Nat.le_of_ble_eq_true rfl, Nat.le_of_ble_eq_true rfl⟩, hts _ cw_594, hts _ cw_sel⟩ (cx_preV (C := R_Sb) [.int (nI (k + 1))] hPc hKc hDc hN hO hS hFc (ci := 7) (q0 := 0) rfl rfl rfl) rfl rfl hl.1 rfl (lv_room (Nat.le_of_ble_eq_true rfl)) d_Asb_append2_7 ⟨Nat.le_of_ble_eq_true rfl, Nat.le_of_ble_eq_true rfl⟩)) (fun _ => ?_)
  refine lv_aload_n hx hb d_Asb_append2_10 rfl (lv_at hl 0 rfl) ?_
  have hPc := hP.sub (ws' := [(h0, .inr (7, [.ref b0, .int 0, .int ml, .int (nI k)])), (b0, .inl (kb, 16, .inl bt))]) [0, 1] rfl
  have hDc := hD.sub (ws' := [(h0, .inr (7, [.ref b0, .int 0, .int ml, .int (nI k)])), (b0, .inl (kb, 16, .inl bt))]) [0, 1] (by decide) rfl
  have hKc := hK.sub (tys' := [(kb, .byte)]) [0] rfl
  have hFc := va_free (wc := [(h0, .inr (7, [.ref b0, .int 0, .int ml, .int (nI k)])), (b0, .inl (kb, 16, .inl bt))]) hD hS hA [0, 1] rfl
  refine vp_callSi (va_Run.run (va_runV (As := []) (rest := [])  ⟨hx, hb, hml, hown, hts⟩ (c_Asb_isLatin1 l D h0 b0 kb bt ml k s.heap.size ) ⟨callB_of 0 hts cg_Asb_isLatin1 rfl rfl rfl (hts _ cw_6) (hts _ cw_623) (by decide +kernel) ⟨Nat.le_of_ble_eq_true rfl, Nat.le_of_ble_eq_true rfl⟩, hts _ cw_624, hts _ cw_626⟩ (cx_preV (C := R_Sb) [] hPc hKc hDc hN hO hS hFc (ci := 7) (q0 := 0) rfl rfl rfl) rfl rfl hl.1 rfl (lv_room (Nat.le_of_ble_eq_true rfl)) d_Asb_append2_11 ⟨Nat.le_of_ble_eq_true rfl, Nat.le_of_ble_eq_true rfl⟩)) (fun r z_2 => ?_)
  subst z_2
  refine lv_if_eq (tgt := 45) hx hb d_Asb_append2_14 (by decide) (fun c_3 => ?_) (fun c_3 => ?_)
  · exact absurd c_3 (by decide)
  · refine lv_iload_n hx hb d_Asb_append2_17 rfl (lv_at hl 1 rfl) ?_
    have hPc := hP.sub (ws' := []) [] rfl
    have hDc := hD.sub (ws' := []) [] (by decide) rfl
    have hKc := hK.sub (tys' := []) [] rfl
    have hFc := va_free (wc := []) hD hS hA [] rfl
    refine vp_callSi (va_Run.run (va_runS (As := [.int 32]) (rest := [])  ⟨hx, hb, hml, hown, hts⟩ (c_Lat_canEncode l D  s.heap.size ) ⟨callB_of 1 hts cg_JStringLatin1_canEncode rfl rfl rfl (hts _ cw_13) (hts _ cw_685) (by decide +kernel) ⟨Nat.le_of_ble_eq_true rfl, Nat.le_of_ble_eq_true rfl⟩, hts _ cw_686⟩ (cx_preS [.int 32] hPc hKc hDc hN hO hS hFc) rfl rfl hl.1 rfl (lv_room (Nat.le_of_ble_eq_true rfl)) d_Asb_append2_18 ⟨Nat.le_of_ble_eq_true rfl, Nat.le_of_ble_eq_true rfl⟩)) (fun r z_4 => ?_)
    subst z_4
    refine lv_if_eq (tgt := 45) hx hb d_Asb_append2_21 (by decide) (fun c_5 => ?_) (fun c_5 => ?_)
    · exact absurd c_5 (by decide)
    · refine lv_aload_n hx hb d_Asb_append2_24 rfl (lv_at hl 0 rfl) ?_
      refine va_get (D := D) (ci := 7) (v := .ref b0) (C := R_Sb) (T := T_Sb) (N := 4) hx hb hts in_Sb hown hK hP 0 rfl rfl 0 (by decide) (hts _ cw_158) (fun _ h9 => h9) rfl d_Asb_append2_25 ?_
      refine lv_aload_n hx hb d_Asb_append2_28 rfl (lv_at hl 0 rfl) ?_
      refine lv_dup hx hb d_Asb_append2_29 rfl ?_
      refine va_get (D := D) (ci := 7) (v := .int (nI k)) (C := R_Sb) (T := T_Sb) (N := 4) hx hb hts in_Sb hown hK hP 0 rfl rfl 3 (by decide) (hts _ cw_161) (fun _ h9 => h9) rfl d_Asb_append2_30 ?_
      refine lv_dup_x1 hx hb d_Asb_append2_33 rfl rfl ?_
      refine lv_iconst (v := 1) hx hb d_Asb_append2_34 (by decide) ?_
      refine lv_iadd hx hb d_Asb_append2_35 ?_
      refine W.eq (g2 := F0 m 36 ls [.int (nI (k + 1)), .ref h0, .int (nI k), .ref b0]) (by rw [nI_1]) ?_
      refine va_put (D := D) (ci := 7) (v := .int (nI (k + 1))) (ty := .int) (C := R_Sb) (T := T_Sb) (N := 4) hx hb hts in_Sb ty_Sb tyok_Sb nm_Sb hown hK hP hD hS 0 rfl rfl 3 (by decide) (hts _ cw_161) (fun _ h9 => h9) rfl (by decide +kernel) rfl rfl (Nat.le_of_ble_eq_true rfl) d_Asb_append2_36 (fun H locs hP hD hS => ?_)
      have hP : va_P D classes ([(h0, .inr (7, [.ref b0, .int 0, .int ml, .int (nI (k + 1))])), (b0, .inl (kb, 16, .inl bt))]) H := hP
      have hD : va_D A ([(h0, .inr (7, [.ref b0, .int 0, .int ml, .int (nI (k + 1))])), (b0, .inl (kb, 16, .inl bt))]) := hD
      refine lv_iload_n hx hb d_Asb_append2_39 rfl (lv_at hl 1 rfl) ?_
      refine lv_i2b hx hb d_Asb_append2_40 rfl ?_
      refine va_bast hx hb hK hP hD hS 1 0 rfl rfl (vp_in_nI (by omega) (by decide)) d_Asb_append2_41 (fun H locs hP hD hS => ?_)
      have hP : va_P D classes ([(h0, .inr (7, [.ref b0, .int 0, .int ml, .int (nI (k + 1))])), (b0, .inl (kb, 16, .inl (upd bt ((nI k).toNatClampNeg) (vp_nar .byte ((32 : Int32).toInt8.toInt32)))))]) H := hP
      have hD : va_D A ([(h0, .inr (7, [.ref b0, .int 0, .int ml, .int (nI (k + 1))])), (b0, .inl (kb, 16, .inl (upd bt ((nI k).toNatClampNeg) (vp_nar .byte ((32 : Int32).toInt8.toInt32)))))]) := hD
      refine lv_goto (tgt := 75) hx hb d_Asb_append2_42 (by decide) ?_
      refine lv_aload_n hx hb d_Asb_append2_75 rfl (lv_at hl 0 rfl) ?_
      have hm : m_sp bt k = upd bt ((nI k).toNatClampNeg) (vp_nar .byte ((32 : Int32).toInt8.toInt32)) := by rw [nI_clamp (by omega)]; rfl
      rw [hm]
      have hP9 := hP.sub (ws' := [(h0, .inr (7, [.ref b0, .int 0, .int ml, .int (nI (k + 1))])), (b0, .inl (kb, 16, .inl (upd bt ((nI k).toNatClampNeg) (vp_nar .byte ((32 : Int32).toInt8.toInt32)))))]) [0, 1] rfl
      have hD9 := hD.sub (ws' := [(h0, .inr (7, [.ref b0, .int 0, .int ml, .int (nI (k + 1))])), (b0, .inl (kb, 16, .inl (upd bt ((nI k).toNatClampNeg) (vp_nar .byte ((32 : Int32).toInt8.toInt32)))))]) [0, 1] (by decide) rfl
      have hK9 := hK.sub (tys' := [(kb, .byte)]) [0] rfl
      exact W.aret (v := .ref h0) hx hb hr (Or.inl ⟨_, rfl⟩) (Or.inr ⟨_, rfl⟩) (fun t ht hW => ⟨⟨some h0, (), rfl, rfl, by rw [ht]; exact hP9, va_K.moved hW.alike hK9, hD9⟩, hS.F ht⟩) hS.2.2 d_Asb_append2_76

set_option maxHeartbeats 4000000 in
set_option maxRecDepth 100000 in
theorem c_Sb_append2 (l : Launch) (D : va_G)  (h0 : Nat) (b0 : Nat) (kb : ClassId) (bt : Nat → Int32) (ml : Int32) (k : Nat) (sz : Nat) (hcap : k + 1 ≤ 16) : Met l y_Sb_append2 ws_Sb_append2 ({ frames := 2, cells := 0, slots := 0, locals := 43 }) (va_Pc [.ref h0, .int 32] (cx_pre D [(kb, .byte)] ([(h0, .inr (7, [.ref b0, .int 0, .int ml, .int (nI k)])), (b0, .inl (kb, 16, .inl bt))]) sz)) (va_Qq (fun r9 _ => r9 = some h0) (fun (_ : Unit) t => cx_end D [(kb, .byte)] (va_A ([(h0, .inr (7, [.ref b0, .int 0, .int ml, .int (nI k)])), (b0, .inl (kb, 16, .inl bt))]) sz) ([(h0, .inr (7, [.ref b0, .int 0, .int ml, .int (nI (k + 1))])), (b0, .inl (kb, 16, .inl (m_sp bt k)))]) t) (va_A ([(h0, .inr (7, [.ref b0, .int 0, .int ml, .int (nI k)])), (b0, .inl (kb, 16, .inl bt))]) sz)) 0 0 (va_A ([(h0, .inr (7, [.ref b0, .int 0, .int ml, .int (nI k)])), (b0, .inl (kb, 16, .inl bt))]) sz) := by
  refine Met.ofW (cc := b_Sb_append2) (maxL := 2) (ret := (some (.object "java/lang/StringBuilder"))) (by decide) rfl ?_
  intro p e s m args below meth c s₁ B hml hv
  obtain ⟨rfl, hsz, hP, hK, hD0, hN, hO⟩ := hv
  have hx := B.exec
  have hb := B.bytes
  have hr := B.returns
  have hts := fun (w : Cond) (h : w ∈ cx_tbl) => atoms_spec (ws := ws_Sb_append2) B.pre w (List.mem_cons_of_mem _ h)
  have hown : s.vm.findClass R_Sb = some m.cls := findClass_of_methodNamed B.named
  have hlocks := B.notSynchronized
  subst hsz
  have hD := hD0.self (sz := s.heap.size)
  generalize hAe : va_A ([(h0, .inr (7, [.ref b0, .int 0, .int ml, .int (nI k)])), (b0, .inl (kb, 16, .inl bt))]) s.heap.size = A at hD hO ⊢
  have hA : ∀ q : Nat, s.heap.size ≤ q → A q := fun q h => by rw [← hAe]; exact Or.inr h
  have hS : va_S A s.heap s.heap [] := va_S.rf
  have hl := lv_entry ([.ref h0, .int 32]) (n := 2) (Nat.le_of_ble_eq_true rfl)
  rw [lg_entry_eq]
  generalize (lg_sl ([.ref h0, .int 32]) ++ List.replicate (2 - (lg_sl ([.ref h0, .int 32])).length) Slot.unset).toArray = ls at hl ⊢
  have hl : lv_has ls 2 [(0, .ref h0), (1, .int 32)] := hl
  refine lv_aload_n hx hb d_Sb_append2_0 rfl (lv_at hl 0 rfl) ?_
  refine lv_iload_n hx hb d_Sb_append2_1 rfl (lv_at hl 1 rfl) ?_
  have hPc := hP.sub (ws' := [(h0, .inr (7, [.ref b0, .int 0, .int ml, .int (nI k)])), (b0, .inl (kb, 16, .inl bt))]) [0, 1] rfl
  have hDc := hD.sub (ws' := [(h0, .inr (7, [.ref b0, .int 0, .int ml, .int (nI k)])), (b0, .inl (kb, 16, .inl bt))]) [0, 1] (by decide) rfl
  have hKc := hK.sub (tys' := [(kb, .byte)]) [0] rfl
  have hFc := va_free (wc := [(h0, .inr (7, [.ref b0, .int 0, .int ml, .int (nI k)])), (b0, .inl (kb, 16, .inl bt))]) hD hS hA [0, 1] rfl
  refine cx_joinq (wc := [(h0, .inr (7, [.ref b0, .int 0, .int ml, .int (nI k)])), (b0, .inl (kb, 16, .inl bt))]) (wr := []) hP hD hS hA [0, 1] [] rfl rfl (by decide) (by decide) (va_runSU (As := [.int 32]) (rest := []) (hK.1 7 _ rfl).2 ⟨hx, hb, hml, hown, hts⟩ (c_Asb_append2 l D h0 b0 kb bt ml k s.heap.size (hcap)) (cx_cwSU 1 hts cg_Asb_append2 rfl rfl rfl (hts _ cw_682) (hts _ cw_sup) (hts _ cw_683) (hts _ cw_6) (cx_asbNi (hts _ cw_626)) (by decide +kernel) (by decide +kernel) ⟨Nat.le_of_ble_eq_true rfl, Nat.le_of_ble_eq_true rfl⟩) (cx_preV (C := R_Sb) [.int 32] hPc hKc hDc hN hO hS hFc (ci := 7) (q0 := 0) rfl rfl rfl) rfl rfl hl.1 rfl (lv_room (Nat.le_of_ble_eq_true rfl)) d_Sb_append2_2 ⟨Nat.le_of_ble_eq_true rfl, Nat.le_of_ble_eq_true rfl⟩) (fun r _ H locs z_1 hK1 hP hD hS => ?_)
  subst z_1
  have hP : va_P D classes ([(h0, .inr (7, [.ref b0, .int 0, .int ml, .int (nI (k + 1))])), (b0, .inl (kb, 16, .inl (m_sp bt k)))]) H := hP
  have hD : va_D A ([(h0, .inr (7, [.ref b0, .int 0, .int ml, .int (nI (k + 1))])), (b0, .inl (kb, 16, .inl (m_sp bt k)))]) := hD
  refine lv_pop hx hb d_Sb_append2_5 rfl ?_
  refine lv_aload_n hx hb d_Sb_append2_6 rfl (lv_at hl 0 rfl) ?_
  have hP9 := hP.sub (ws' := [(h0, .inr (7, [.ref b0, .int 0, .int ml, .int (nI (k + 1))])), (b0, .inl (kb, 16, .inl (m_sp bt k)))]) [0, 1] rfl
  have hD9 := hD.sub (ws' := [(h0, .inr (7, [.ref b0, .int 0, .int ml, .int (nI (k + 1))])), (b0, .inl (kb, 16, .inl (m_sp bt k)))]) [0, 1] (by decide) rfl
  have hK9 := hK.sub (tys' := [(kb, .byte)]) [0] rfl
  exact W.aret (v := .ref h0) hx hb hr (Or.inl ⟨_, rfl⟩) (Or.inr ⟨_, rfl⟩) (fun t ht hW => ⟨⟨some h0, (), rfl, rfl, by rw [ht]; exact hP9, va_K.moved hW.alike hK9, hD9⟩, hS.F ht⟩) hS.2.2 d_Sb_append2_7

set_option maxHeartbeats 4000000 in
set_option maxRecDepth 100000 in
theorem c_Int_stringSize_p (l : Launch) (D : va_G)  (w : Nat) (sz : Nat) (hw : w < 2 ^ 31) : Met l y_JInteger_stringSize ws_JInteger_stringSize ({ frames := 0, cells := 0, slots := 0, locals := 0 }) (va_Pc [.int (nI w)] (cx_pre D [] ([]) sz)) (vp_Si (fun r9 => r9 = nI (sb_dg w))) 0 0 (fun _ => False) := by
  refine Met.ofW (cc := b_JInteger_stringSize) (maxL := 4) (ret := (some .int)) (by decide) rfl ?_
  intro p e s m args below meth c s₁ B hml hv
  obtain ⟨rfl, hsz, hP, hK, hD0, hN, hO⟩ := hv
  have hx := B.exec
  have hb := B.bytes
  have hr := B.returns
  have hts := fun (w : Cond) (h : w ∈ cx_tbl) => atoms_spec (ws := ws_JInteger_stringSize) B.pre w (List.mem_cons_of_mem _ h)
  have hown : s.vm.findClass R_JInteger = some m.cls := findClass_of_methodNamed B.named
  have hlocks := B.notSynchronized
  subst hsz
  have hD := hD0.self (sz := s.heap.size)
  generalize hAe : va_A ([]) s.heap.size = A at hD hO
  have hA : ∀ q : Nat, s.heap.size ≤ q → A q := fun q h => by rw [← hAe]; exact Or.inr h
  have hS : va_S A s.heap s.heap [] := va_S.rf
  have hl := lv_entry ([.int (nI w)]) (n := 4) (Nat.le_of_ble_eq_true rfl)
  rw [lg_entry_eq]
  generalize (lg_sl ([.int (nI w)]) ++ List.replicate (4 - (lg_sl ([.int (nI w)])).length) Slot.unset).toArray = ls at hl ⊢
  have hl : lv_has ls 4 [(0, .int (nI w))] := hl
  refine cx_q (fun Q hQ => ?_)
  refine lv_iconst (v := 1) hx hb d_JInteger_stringSize_0 (by decide) ?_
  refine lv_istore_n (lv' := [(1, .int 1), (0, .int (nI w))]) hx hb d_JInteger_stringSize_1 rfl hl (by decide) rfl (fun ls hl => ?_)
  refine lv_iload_n hx hb d_JInteger_stringSize_2 rfl (lv_at hl 1 rfl) ?_
  refine lv_if_lt (tgt := 11) hx hb d_JInteger_stringSize_3 (by decide) (fun c_1 => ?_) (fun c_1 => ?_)
  · exact absurd c_1 (nI_pos hw)
  · refine lv_iconst (v := 0) hx hb d_JInteger_stringSize_6 (by decide) ?_
    refine lv_istore_n (lv' := [(1, .int 0), (0, .int (nI w))]) hx hb d_JInteger_stringSize_7 rfl hl (by decide) rfl (fun ls hl => ?_)
    refine lv_iload_n hx hb d_JInteger_stringSize_8 rfl (lv_at hl 1 rfl) ?_
    refine lv_ineg hx hb d_JInteger_stringSize_9 ?_
    refine lv_istore_n (lv' := [(0, .int (-(nI w))), (1, .int 0)]) hx hb d_JInteger_stringSize_10 rfl hl (by decide) rfl (fun ls hl => ?_)
    refine lv_bipush (v := (-10)) hx hb d_JInteger_stringSize_11 (by decide) ?_
    refine lv_istore_n (lv' := [(2, .int (-10)), (0, .int (-(nI w))), (1, .int 0)]) hx hb d_JInteger_stringSize_13 rfl hl (by decide) rfl (fun ls hl => ?_)
    refine lv_iconst (v := 1) hx hb d_JInteger_stringSize_14 (by decide) ?_
    refine lv_istore_n (lv' := [(3, .int 1), (2, .int (-10)), (0, .int (-(nI w))), (1, .int 0)]) hx hb d_JInteger_stringSize_15 rfl hl (by decide) rfl (fun ls hl => ?_)
    have e9 : (-10 : Int32) = -(nI (10 ^ 1)) := by decide
    rw [e9] at hl
    have loop_2 : ∀ (n : Nat) (i : Nat) (hi1 : 1 ≤ i) (hi : i ≤ 10) (hn : i + n = 11) (hv : i = 1 ∨ 10 ^ (i - 1) ≤ w) (ls : Array Slot) (hl : lv_has ls 4 [(0, .int (-(nI w))), (1, .int 0), (2, .int (-(nI (10 ^ i)))), (3, .int (nI i))]), W p l e ({ frames := 0, cells := 0, slots := 0, locals := 0 }) s m [.int (nI w)].toArray below meth c s.heap [] 0 0 Q (F0 m 16 ls []) := by
      intro n
      induction n with
      | zero =>
        intro i hi1 hi hn hv ls hl
        exact absurd hn (by omega)
      | succ n ih_16 =>
        intro i hi1 hi hn hv ls hl
        refine lv_iload_n hx hb d_JInteger_stringSize_16 rfl (lv_at hl 3 rfl) ?_
        refine lv_bipush (v := 10) hx hb d_JInteger_stringSize_17 (by decide) ?_
        refine lv_icmp_ge (tgt := 42) hx hb d_JInteger_stringSize_19 (by decide) (fun c_3 => ?_) (fun c_3 => ?_)
        · refine lv_bipush (v := 10) hx hb d_JInteger_stringSize_42 (by decide) ?_
          refine lv_iload_n hx hb d_JInteger_stringSize_44 rfl (lv_at hl 1 rfl) ?_
          refine lv_iadd hx hb d_JInteger_stringSize_45 ?_
          subst hQ
          exact W.iret (v := 10 + 0) hx hb hr (fun t ht hW => ⟨_, rfl, by have h9 : i = 10 := by { have := (nI_leI (a := 10) (by decide) (by omega)).mp c_3; omega }; subst h9; rw [m_dgAt (by omega) hv (Or.inl rfl) (by omega)]; rfl, ht⟩) (fun q h => by cases h) d_JInteger_stringSize_46
        · refine lv_iload_n hx hb d_JInteger_stringSize_22 rfl (lv_at hl 0 rfl) ?_
          refine lv_iload_n hx hb d_JInteger_stringSize_23 rfl (lv_at hl 2 rfl) ?_
          refine lv_icmp_le (tgt := 31) hx hb d_JInteger_stringSize_24 (by decide) (fun c_4 => ?_) (fun c_4 => ?_)
          · refine lv_bipush (v := 10) hx hb d_JInteger_stringSize_31 (by decide) ?_
            refine lv_iload_n hx hb d_JInteger_stringSize_33 rfl (lv_at hl 2 rfl) ?_
            refine lv_imul hx hb d_JInteger_stringSize_34 ?_
            refine W.eq (g2 := F0 m 35 ls [.int (-(nI (10 ^ (i + 1))))]) (by rw [m_p10]) ?_
            refine lv_istore_n (lv' := [(2, .int (-(nI (10 ^ (i + 1))))), (0, .int (-(nI w))), (1, .int 0), (3, .int (nI i))]) hx hb d_JInteger_stringSize_35 rfl hl (by decide) rfl (fun ls hl => ?_)
            refine lv_iinc (v := nI (i + 1)) (lv' := [(3, .int (nI (i + 1))), (2, .int (-(nI (10 ^ (i + 1))))), (0, .int (-(nI w))), (1, .int 0)]) hx hb d_JInteger_stringSize_36 hl (k := 3) rfl (nI_1 i) (by decide) rfl (fun ls hl => ?_)
            refine lv_goto (tgt := 16) hx hb d_JInteger_stringSize_39 (by decide) ?_
            exact ih_16 (i + 1) (by omega) (by have := ix_nge (k := 10) c_3; omega) (by omega) (Or.inr (m_gep (ix_nge (k := 10) c_3) hw c_4)) ls (lv_sub hl [2, 3, 1, 0] rfl)
          · refine lv_iload_n hx hb d_JInteger_stringSize_27 rfl (lv_at hl 3 rfl) ?_
            refine lv_iload_n hx hb d_JInteger_stringSize_28 rfl (lv_at hl 1 rfl) ?_
            refine lv_iadd hx hb d_JInteger_stringSize_29 ?_
            subst hQ
            exact W.iret (v := (nI i) + 0) hx hb hr (fun t ht hW => ⟨_, rfl, by rw [m_dgAt hi1 hv (Or.inr (m_ltp (ix_nge (k := 10) c_3) hw c_4)) hi, Int32.add_zero], ht⟩) (fun q h => by cases h) d_JInteger_stringSize_30
    exact loop_2 10 1 (by omega) (by omega) (by omega) (Or.inl rfl) ls (lv_sub hl [2, 3, 1, 0] rfl)

set_option maxHeartbeats 4000000 in
set_option maxRecDepth 100000 in
theorem c_Int_stringSize_m (l : Launch) (D : va_G)  (w : Nat) (sz : Nat) (hw : w < 2 ^ 31) (hw0 : 0 < w) : Met l y_JInteger_stringSize ws_JInteger_stringSize ({ frames := 0, cells := 0, slots := 0, locals := 0 }) (va_Pc [.int (-(nI w))] (cx_pre D [] ([]) sz)) (vp_Si (fun r9 => r9 = nI (sb_dg w + 1))) 0 0 (fun _ => False) := by
  refine Met.ofW (cc := b_JInteger_stringSize) (maxL := 4) (ret := (some .int)) (by decide) rfl ?_
  intro p e s m args below meth c s₁ B hml hv
  obtain ⟨rfl, hsz, hP, hK, hD0, hN, hO⟩ := hv
  have hx := B.exec
  have hb := B.bytes
  have hr := B.returns
  have hts := fun (w : Cond) (h : w ∈ cx_tbl) => atoms_spec (ws := ws_JInteger_stringSize) B.pre w (List.mem_cons_of_mem _ h)
  have hown : s.vm.findClass R_JInteger = some m.cls := findClass_of_methodNamed B.named
  have hlocks := B.notSynchronized
  subst hsz
  have hD := hD0.self (sz := s.heap.size)
  generalize hAe : va_A ([]) s.heap.size = A at hD hO
  have hA : ∀ q : Nat, s.heap.size ≤ q → A q := fun q h => by rw [← hAe]; exact Or.inr h
  have hS : va_S A s.heap s.heap [] := va_S.rf
  have hl := lv_entry ([.int (-(nI w))]) (n := 4) (Nat.le_of_ble_eq_true rfl)
  rw [lg_entry_eq]
  generalize (lg_sl ([.int (-(nI w))]) ++ List.replicate (4 - (lg_sl ([.int (-(nI w))])).length) Slot.unset).toArray = ls at hl ⊢
  have hl : lv_has ls 4 [(0, .int (-(nI w)))] := hl
  refine cx_q (fun Q hQ => ?_)
  refine lv_iconst (v := 1) hx hb d_JInteger_stringSize_0 (by decide) ?_
  refine lv_istore_n (lv' := [(1, .int 1), (0, .int (-(nI w)))]) hx hb d_JInteger_stringSize_1 rfl hl (by decide) rfl (fun ls hl => ?_)
  refine lv_iload_n hx hb d_JInteger_stringSize_2 rfl (lv_at hl 1 rfl) ?_
  refine lv_if_lt (tgt := 11) hx hb d_JInteger_stringSize_3 (by decide) (fun c_1 => ?_) (fun c_1 => ?_)
  · refine lv_bipush (v := (-10)) hx hb d_JInteger_stringSize_11 (by decide) ?_
    refine lv_istore_n (lv' := [(2, .int (-10)), (1, .int 1), (0, .int (-(nI w)))]) hx hb d_JInteger_stringSize_13 rfl hl (by decide) rfl (fun ls hl => ?_)
    refine lv_iconst (v := 1) hx hb d_JInteger_stringSize_14 (by decide) ?_
    refine lv_istore_n (lv' := [(3, .int 1), (2, .int (-10)), (1, .int 1), (0, .int (-(nI w)))]) hx hb d_JInteger_stringSize_15 rfl hl (by decide) rfl (fun ls hl => ?_)
    have e9 : (-10 : Int32) = -(nI (10 ^ 1)) := by decide
    rw [e9] at hl
    have loop_2 : ∀ (n : Nat) (i : Nat) (hi1 : 1 ≤ i) (hi : i ≤ 10) (hn : i + n = 11) (hv : i = 1 ∨ 10 ^ (i - 1) ≤ w) (ls : Array Slot) (hl : lv_has ls 4 [(0, .int (-(nI w))), (1, .int 1), (2, .int (-(nI (10 ^ i)))), (3, .int (nI i))]), W p l e ({ frames := 0, cells := 0, slots := 0, locals := 0 }) s m [.int (-(nI w))].toArray below meth c s.heap [] 0 0 Q (F0 m 16 ls []) := by
      intro n
      induction n with
      | zero =>
        intro i hi1 hi hn hv ls hl
        exact absurd hn (by omega)
      | succ n ih_16 =>
        intro i hi1 hi hn hv ls hl
        refine lv_iload_n hx hb d_JInteger_stringSize_16 rfl (lv_at hl 3 rfl) ?_
        refine lv_bipush (v := 10) hx hb d_JInteger_stringSize_17 (by decide) ?_
        refine lv_icmp_ge (tgt := 42) hx hb d_JInteger_stringSize_19 (by decide) (fun c_3 => ?_) (fun c_3 => ?_)
        · refine lv_bipush (v := 10) hx hb d_JInteger_stringSize_42 (by decide) ?_
          refine lv_iload_n hx hb d_JInteger_stringSize_44 rfl (lv_at hl 1 rfl) ?_
          refine lv_iadd hx hb d_JInteger_stringSize_45 ?_
          subst hQ
          exact W.iret (v := 10 + 1) hx hb hr (fun t ht hW => ⟨_, rfl, by have h9 : i = 10 := by { have := (nI_leI (a := 10) (by decide) (by omega)).mp c_3; omega }; subst h9; rw [m_dgAt (by omega) hv (Or.inl rfl) (by omega)]; rfl, ht⟩) (fun q h => by cases h) d_JInteger_stringSize_46
        · refine lv_iload_n hx hb d_JInteger_stringSize_22 rfl (lv_at hl 0 rfl) ?_
          refine lv_iload_n hx hb d_JInteger_stringSize_23 rfl (lv_at hl 2 rfl) ?_
          refine lv_icmp_le (tgt := 31) hx hb d_JInteger_stringSize_24 (by decide) (fun c_4 => ?_) (fun c_4 => ?_)
          · refine lv_bipush (v := 10) hx hb d_JInteger_stringSize_31 (by decide) ?_
            refine lv_iload_n hx hb d_JInteger_stringSize_33 rfl (lv_at hl 2 rfl) ?_
            refine lv_imul hx hb d_JInteger_stringSize_34 ?_
            refine W.eq (g2 := F0 m 35 ls [.int (-(nI (10 ^ (i + 1))))]) (by rw [m_p10]) ?_
            refine lv_istore_n (lv' := [(2, .int (-(nI (10 ^ (i + 1))))), (0, .int (-(nI w))), (1, .int 1), (3, .int (nI i))]) hx hb d_JInteger_stringSize_35 rfl hl (by decide) rfl (fun ls hl => ?_)
            refine lv_iinc (v := nI (i + 1)) (lv' := [(3, .int (nI (i + 1))), (2, .int (-(nI (10 ^ (i + 1))))), (0, .int (-(nI w))), (1, .int 1)]) hx hb d_JInteger_stringSize_36 hl (k := 3) rfl (nI_1 i) (by decide) rfl (fun ls hl => ?_)
            refine lv_goto (tgt := 16) hx hb d_JInteger_stringSize_39 (by decide) ?_
            exact ih_16 (i + 1) (by omega) (by have := ix_nge (k := 10) c_3; omega) (by omega) (Or.inr (m_gep (ix_nge (k := 10) c_3) hw c_4)) ls (lv_sub hl [2, 3, 1, 0] rfl)
          · refine lv_iload_n hx hb d_JInteger_stringSize_27 rfl (lv_at hl 3 rfl) ?_
            refine lv_iload_n hx hb d_JInteger_stringSize_28 rfl (lv_at hl 1 rfl) ?_
            refine lv_iadd hx hb d_JInteger_stringSize_29 ?_
            subst hQ
            exact W.iret (v := (nI i) + 1) hx hb hr (fun t ht hW => ⟨_, rfl, by rw [m_dgAt hi1 hv (Or.inr (m_ltp (ix_nge (k := 10) c_3) hw c_4)) hi, nI_1], ht⟩) (fun q h => by cases h) d_JInteger_stringSize_30
    exact loop_2 10 1 (by omega) (by omega) (by omega) (Or.inl rfl) ls (lv_sub hl [3, 2, 1, 0] rfl)
  · exact absurd (m_neg0' hw0 hw) c_1

set_option maxHeartbeats 4000000 in
set_option maxRecDepth 100000 in
theorem c_Int_getChars_p (l : Launch) (D : va_G)  (b0 : Nat) (kb : ClassId) (bt : Nat → Int32) (n0 : Nat) (w : Nat) (sz : Nat) (hw : w < 2 ^ 31) (hcap : n0 + sb_dg w ≤ 16) : Met l y_JInteger_getChars ws_JInteger_getChars ({ frames := 0, cells := 0, slots := 0, locals := 0 }) (va_Pc [.int (nI w), .int (nI (n0 + sb_dg w)), .ref b0] (cx_pre D [(kb, .byte)] ([(b0, .inl (kb, 16, .inl bt))]) sz)) (va_Qi (fun r9 _ => r9 = nI n0) (fun (_ : Unit) t => cx_end D [(kb, .byte)] (va_A ([(b0, .inl (kb, 16, .inl bt))]) sz) ([(b0, .inl (kb, 16, .inl (m_gc bt n0 w)))]) t) (va_A ([(b0, .inl (kb, 16, .inl bt))]) sz)) 0 0 (va_A ([(b0, .inl (kb, 16, .inl bt))]) sz) := by
  refine Met.ofW (cc := b_JInteger_getChars) (maxL := 7) (ret := (some .int)) (by decide) rfl ?_
  intro p e s m args below meth c s₁ B hml hv
  obtain ⟨rfl, hsz, hP, hK, hD0, hN, hO⟩ := hv
  have hx := B.exec
  have hb := B.bytes
  have hr := B.returns
  have hts := fun (w : Cond) (h : w ∈ cx_tbl) => atoms_spec (ws := ws_JInteger_getChars) B.pre w (List.mem_cons_of_mem _ h)
  have hown : s.vm.findClass R_JInteger = some m.cls := findClass_of_methodNamed B.named
  have hlocks := B.notSynchronized
  subst hsz
  have hD := hD0.self (sz := s.heap.size)
  generalize hAe : va_A ([(b0, .inl (kb, 16, .inl bt))]) s.heap.size = A at hD hO ⊢
  have hA : ∀ q : Nat, s.heap.size ≤ q → A q := fun q h => by rw [← hAe]; exact Or.inr h
  have hS : va_S A s.heap s.heap [] := va_S.rf
  have hl := lv_entry ([.int (nI w), .int (nI (n0 + sb_dg w)), .ref b0]) (n := 7) (Nat.le_of_ble_eq_true rfl)
  rw [lg_entry_eq]
  generalize (lg_sl ([.int (nI w), .int (nI (n0 + sb_dg w)), .ref b0]) ++ List.replicate (7 - (lg_sl ([.int (nI w), .int (nI (n0 + sb_dg w)), .ref b0])).length) Slot.unset).toArray = ls at hl ⊢
  have hl : lv_has ls 7 [(0, .int (nI w)), (1, .int (nI (n0 + sb_dg w))), (2, .ref b0)] := hl
  refine cx_q (fun Q hQ => ?_)
  refine lv_iload_n hx hb d_JInteger_getChars_0 rfl (lv_at hl 1 rfl) ?_
  refine lv_istore (lv' := [(5, .int (nI (n0 + sb_dg w))), (0, .int (nI w)), (1, .int (nI (n0 + sb_dg w))), (2, .ref b0)]) hx hb d_JInteger_getChars_1 hl (by decide) rfl (fun ls hl => ?_)
  refine lv_iload_n hx hb d_JInteger_getChars_3 rfl (lv_at hl 1 rfl) ?_
  refine lv_if_ge (tgt := 11) hx hb d_JInteger_getChars_4 (by decide) (fun c_1 => ?_) (fun c_1 => ?_)
  · refine lv_iconst (v := 0) hx hb d_JInteger_getChars_11 (by decide) ?_
    refine lv_istore (lv' := [(6, .int 0), (5, .int (nI (n0 + sb_dg w))), (0, .int (nI w)), (1, .int (nI (n0 + sb_dg w))), (2, .ref b0)]) hx hb d_JInteger_getChars_12 hl (by decide) rfl (fun ls hl => ?_)
    refine lv_iload hx hb d_JInteger_getChars_14 (lv_at hl 0 rfl) ?_
    refine lv_if_ne (tgt := 22) hx hb d_JInteger_getChars_16 (by decide) (fun c_2 => ?_) (fun c_2 => ?_)
    · exact absurd c_2 (by decide)
    · refine lv_iload_n hx hb d_JInteger_getChars_19 rfl (lv_at hl 2 rfl) ?_
      refine lv_ineg hx hb d_JInteger_getChars_20 ?_
      refine lv_istore_n (lv' := [(0, .int (-(nI w))), (6, .int 0), (5, .int (nI (n0 + sb_dg w))), (1, .int (nI (n0 + sb_dg w))), (2, .ref b0)]) hx hb d_JInteger_getChars_21 rfl hl (by decide) rfl (fun ls hl => ?_)
      have loop_3 : ∀ (n : Nat) (v : Nat) (ya : Nat → Int32) (hn : v < n) (hv : v < 2 ^ 31) (hc : n0 + sb_dg v ≤ 16) (hg : m_gc bt n0 w = m_gc ya n0 v) (H : Heap) (locs : List Loc) (hP : va_P D classes ([(b0, .inl (kb, 16, .inl ya))]) H) (hD : va_D A ([(b0, .inl (kb, 16, .inl ya))])) (hS : va_S A s.heap H locs) (ls : Array Slot) (hl : lv_has ls 7 [(0, .int (-(nI v))), (1, .int (nI (n0 + sb_dg w))), (2, .ref b0), (5, .int (nI (n0 + sb_dg v))), (6, .int 0)]), W p l e ({ frames := 0, cells := 0, slots := 0, locals := 0 }) s m [.int (nI w), .int (nI (n0 + sb_dg w)), .ref b0].toArray below meth c H locs 0 0 Q (F0 m 22 ls []) := by
        intro n
        induction n with
        | zero =>
          intro v ya hn hv hc hg H locs hP hD hS ls hl
          exact absurd hn (Nat.not_lt_zero _)
        | succ n ih_22 =>
          intro v ya hn hv hc hg H locs hP hD hS ls hl
          refine lv_iload_n hx hb d_JInteger_getChars_22 rfl (lv_at hl 0 rfl) ?_
          refine lv_bipush (v := (-100)) hx hb d_JInteger_getChars_23 (by decide) ?_
          refine lv_icmp_gt (tgt := 72) hx hb d_JInteger_getChars_25 (by decide) (fun c_4 => ?_) (fun c_4 => ?_)
          · have h100 : v < 100 := m_l100 hv c_4
            have hd1 := (sb_dg_in v).1
            refine lv_aload_n hx hb d_JInteger_getChars_72 rfl (lv_at hl 2 rfl) ?_
            refine lv_iinc (v := nI (n0 + sb_dg v - 1)) (lv' := [(5, .int (nI (n0 + sb_dg v - 1))), (0, .int (-(nI v))), (1, .int (nI (n0 + sb_dg w))), (2, .ref b0), (6, .int 0)]) hx hb d_JInteger_getChars_73 hl (k := 3) rfl (sb_m1 (by omega)) (by decide) rfl (fun ls hl => ?_)
            refine lv_iload hx hb d_JInteger_getChars_76 (lv_at hl 0 rfl) ?_
            refine va_gets hx hb hO.2.2.2.2.2.1.1 hS hown (hts _ cw_654) (fun _ h9 => h9) d_JInteger_getChars_78 ?_
            refine lv_iload_n hx hb d_JInteger_getChars_81 rfl (lv_at hl 1 rfl) ?_
            refine lv_ineg hx hb d_JInteger_getChars_82 ?_
            refine W.eq (g2 := F0 m 83 ls [.int (nI v), .ref (D.2 100 3), .int (nI (n0 + sb_dg v - 1)), .ref b0]) (by rw [Int32.neg_neg]) ?_
            refine va_tb (v := .int (nI (48 + (nI v).toNatClampNeg % 10))) hx hb hO.2.2.2.2.2.1.2 hS (vp_in_nI (by omega) (by decide)) rfl d_JInteger_getChars_83 ?_
            refine va_bast hx hb hK hP hD hS 0 0 rfl rfl (vp_in_nI (by omega) (by decide)) d_JInteger_getChars_84 (fun H locs hP hD hS => ?_)
            have hP : va_P D classes ([(b0, .inl (kb, 16, .inl (upd ya ((nI (n0 + sb_dg v - 1)).toNatClampNeg) (vp_nar .byte (nI (48 + (nI v).toNatClampNeg % 10))))))]) H := hP
            have hD : va_D A ([(b0, .inl (kb, 16, .inl (upd ya ((nI (n0 + sb_dg v - 1)).toNatClampNeg) (vp_nar .byte (nI (48 + (nI v).toNatClampNeg % 10))))))]) := hD
            refine lv_iload_n hx hb d_JInteger_getChars_85 rfl (lv_at hl 1 rfl) ?_
            refine lv_bipush (v := (-9)) hx hb d_JInteger_getChars_86 (by decide) ?_
            refine lv_icmp_ge (tgt := 104) hx hb d_JInteger_getChars_88 (by decide) (fun c_5 => ?_) (fun c_5 => ?_)
            · have h9 : v < 10 := m_l9 hv c_5
              have hd : sb_dg v = 1 := if_pos h9
              refine lv_iload hx hb d_JInteger_getChars_104 (lv_at hl 4 rfl) ?_
              refine lv_if_eq (tgt := 118) hx hb d_JInteger_getChars_106 (by decide) (fun c_6 => ?_) (fun c_6 => ?_)
              · refine lv_iload hx hb d_JInteger_getChars_118 (lv_at hl 0 rfl) ?_
                subst hQ
                have hm : m_gc bt n0 w = upd ya ((nI (n0 + sb_dg v - 1)).toNatClampNeg) (vp_nar .byte (nI (48 + (nI v).toNatClampNeg % 10))) := hg.trans (m_gc1 h9 hc)
                rw [hm]
                have hP9 := hP.sub (ws' := [(b0, .inl (kb, 16, .inl (upd ya ((nI (n0 + sb_dg v - 1)).toNatClampNeg) (vp_nar .byte (nI (48 + (nI v).toNatClampNeg % 10))))))]) [0] rfl
                have hD9 := hD.sub (ws' := [(b0, .inl (kb, 16, .inl (upd ya ((nI (n0 + sb_dg v - 1)).toNatClampNeg) (vp_nar .byte (nI (48 + (nI v).toNatClampNeg % 10))))))]) [0] (by decide) rfl
                have hK9 := hK.sub (tys' := [(kb, .byte)]) [0] rfl
                exact W.iret (v := nI (n0 + sb_dg v - 1)) hx hb hr (fun t ht hW => ⟨⟨_, (), rfl, congrArg nI (by omega), by rw [ht]; exact hP9, va_K.moved hW.alike hK9, hD9⟩, hS.F ht⟩) hS.2.2 d_JInteger_getChars_120
              · exact absurd c_6 (by decide)
            · have h9 : 10 ≤ v := m_n9 hv c_5
              have hd : sb_dg v = 2 := by rw [sb_dg, if_neg (by omega), if_pos h100]
              refine lv_aload_n hx hb d_JInteger_getChars_91 rfl (lv_at hl 3 rfl) ?_
              refine lv_iinc (v := nI (n0 + sb_dg v - 1 - 1)) (lv' := [(5, .int (nI (n0 + sb_dg v - 1 - 1))), (0, .int (-(nI v))), (1, .int (nI (n0 + sb_dg w))), (2, .ref b0), (6, .int 0)]) hx hb d_JInteger_getChars_92 hl (k := 0) rfl (sb_m1 (by omega)) (by decide) rfl (fun ls hl => ?_)
              refine lv_iload hx hb d_JInteger_getChars_95 (lv_at hl 0 rfl) ?_
              refine va_gets hx hb hO.2.2.2.2.1.1 hS hown (hts _ cw_656) (fun _ h9 => h9) d_JInteger_getChars_97 ?_
              refine lv_iload_n hx hb d_JInteger_getChars_100 rfl (lv_at hl 1 rfl) ?_
              refine lv_ineg hx hb d_JInteger_getChars_101 ?_
              refine W.eq (g2 := F0 m 102 ls [.int (nI v), .ref (D.2 100 2), .int (nI (n0 + sb_dg v - 1 - 1)), .ref b0]) (by rw [Int32.neg_neg]) ?_
              refine va_tb (v := .int (nI (48 + (nI v).toNatClampNeg / 10))) hx hb hO.2.2.2.2.1.2 hS (vp_in_nI (by omega) (by decide)) rfl d_JInteger_getChars_102 ?_
              refine va_bast hx hb hK hP hD hS 0 0 rfl rfl (vp_in_nI (by omega) (by decide)) d_JInteger_getChars_103 (fun H locs hP hD hS => ?_)
              have hP : va_P D classes ([(b0, .inl (kb, 16, .inl (upd (upd ya ((nI (n0 + sb_dg v - 1)).toNatClampNeg) (vp_nar .byte (nI (48 + (nI v).toNatClampNeg % 10)))) ((nI (n0 + sb_dg v - 1 - 1)).toNatClampNeg) (vp_nar .byte (nI (48 + (nI v).toNatClampNeg / 10))))))]) H := hP
              have hD : va_D A ([(b0, .inl (kb, 16, .inl (upd (upd ya ((nI (n0 + sb_dg v - 1)).toNatClampNeg) (vp_nar .byte (nI (48 + (nI v).toNatClampNeg % 10)))) ((nI (n0 + sb_dg v - 1 - 1)).toNatClampNeg) (vp_nar .byte (nI (48 + (nI v).toNatClampNeg / 10))))))]) := hD
              refine lv_iload hx hb d_JInteger_getChars_104 (lv_at hl 4 rfl) ?_
              refine lv_if_eq (tgt := 118) hx hb d_JInteger_getChars_106 (by decide) (fun c_7 => ?_) (fun c_7 => ?_)
              · refine lv_iload hx hb d_JInteger_getChars_118 (lv_at hl 0 rfl) ?_
                subst hQ
                have hm : m_gc bt n0 w = upd (upd ya ((nI (n0 + sb_dg v - 1)).toNatClampNeg) (vp_nar .byte (nI (48 + (nI v).toNatClampNeg % 10)))) ((nI (n0 + sb_dg v - 1 - 1)).toNatClampNeg) (vp_nar .byte (nI (48 + (nI v).toNatClampNeg / 10))) := hg.trans (m_gc2 h9 h100 hc)
                rw [hm]
                have hP9 := hP.sub (ws' := [(b0, .inl (kb, 16, .inl (upd (upd ya ((nI (n0 + sb_dg v - 1)).toNatClampNeg) (vp_nar .byte (nI (48 + (nI v).toNatClampNeg % 10)))) ((nI (n0 + sb_dg v - 1 - 1)).toNatClampNeg) (vp_nar .byte (nI (48 + (nI v).toNatClampNeg / 10))))))]) [0] rfl
                have hD9 := hD.sub (ws' := [(b0, .inl (kb, 16, .inl (upd (upd ya ((nI (n0 + sb_dg v - 1)).toNatClampNeg) (vp_nar .byte (nI (48 + (nI v).toNatClampNeg % 10)))) ((nI (n0 + sb_dg v - 1 - 1)).toNatClampNeg) (vp_nar .byte (nI (48 + (nI v).toNatClampNeg / 10))))))]) [0] (by decide) rfl
                have hK9 := hK.sub (tys' := [(kb, .byte)]) [0] rfl
                exact W.iret (v := nI (n0 + sb_dg v - 1 - 1)) hx hb hr (fun t ht hW => ⟨⟨_, (), rfl, congrArg nI (by omega), by rw [ht]; exact hP9, va_K.moved hW.alike hK9, hD9⟩, hS.F ht⟩) hS.2.2 d_JInteger_getChars_120
              · exact absurd c_7 (by decide)
          · have h100 : 100 ≤ v := m_n100 hv c_4
            have hd := sb_dg100 h100 hv
            have hd2 := (sb_dg_in (v / 100)).1
            refine lv_iload_n hx hb d_JInteger_getChars_28 rfl (lv_at hl 0 rfl) ?_
            refine lv_bipush (v := 100) hx hb d_JInteger_getChars_29 (by decide) ?_
            refine lv_idiv hx hb d_JInteger_getChars_31 (by decide) ?_
            refine W.eq (g2 := F0 m 32 ls [.int (-(nI (v / 100)))]) (by rw [sb_ndiv hv]) ?_
            refine lv_istore_n (lv' := [(3, .int (-(nI (v / 100)))), (0, .int (-(nI v))), (1, .int (nI (n0 + sb_dg w))), (2, .ref b0), (5, .int (nI (n0 + sb_dg v))), (6, .int 0)]) hx hb d_JInteger_getChars_32 rfl hl (by decide) rfl (fun ls hl => ?_)
            refine lv_iload_n hx hb d_JInteger_getChars_33 rfl (lv_at hl 0 rfl) ?_
            refine lv_bipush (v := 100) hx hb d_JInteger_getChars_34 (by decide) ?_
            refine lv_imul hx hb d_JInteger_getChars_36 ?_
            refine lv_iload_n hx hb d_JInteger_getChars_37 rfl (lv_at hl 1 rfl) ?_
            refine lv_isub hx hb d_JInteger_getChars_38 ?_
            refine W.eq (g2 := F0 m 39 ls [.int (nI (v % 100))]) (by rw [sb_nrem hv]) ?_
            refine lv_istore (lv' := [(4, .int (nI (v % 100))), (3, .int (-(nI (v / 100)))), (0, .int (-(nI v))), (1, .int (nI (n0 + sb_dg w))), (2, .ref b0), (5, .int (nI (n0 + sb_dg v))), (6, .int 0)]) hx hb d_JInteger_getChars_39 hl (by decide) rfl (fun ls hl => ?_)
            refine lv_iload_n hx hb d_JInteger_getChars_41 rfl (lv_at hl 1 rfl) ?_
            refine lv_istore_n (lv' := [(0, .int (-(nI (v / 100)))), (4, .int (nI (v % 100))), (3, .int (-(nI (v / 100)))), (1, .int (nI (n0 + sb_dg w))), (2, .ref b0), (5, .int (nI (n0 + sb_dg v))), (6, .int 0)]) hx hb d_JInteger_getChars_42 rfl hl (by decide) rfl (fun ls hl => ?_)
            refine lv_aload_n hx hb d_JInteger_getChars_43 rfl (lv_at hl 4 rfl) ?_
            refine lv_iinc (v := nI (n0 + sb_dg v - 1)) (lv' := [(5, .int (nI (n0 + sb_dg v - 1))), (0, .int (-(nI (v / 100)))), (4, .int (nI (v % 100))), (3, .int (-(nI (v / 100)))), (1, .int (nI (n0 + sb_dg w))), (2, .ref b0), (6, .int 0)]) hx hb d_JInteger_getChars_44 hl (k := 5) rfl (sb_m1 (by omega)) (by decide) rfl (fun ls hl => ?_)
            refine lv_iload hx hb d_JInteger_getChars_47 (lv_at hl 0 rfl) ?_
            refine va_gets hx hb hO.2.2.2.2.2.1.1 hS hown (hts _ cw_654) (fun _ h9 => h9) d_JInteger_getChars_49 ?_
            refine lv_iload hx hb d_JInteger_getChars_52 (lv_at hl 2 rfl) ?_
            refine va_tb (v := .int (nI (48 + (nI (v % 100)).toNatClampNeg % 10))) hx hb hO.2.2.2.2.2.1.2 hS (vp_in_nI (by omega) (by decide)) rfl d_JInteger_getChars_54 ?_
            refine va_bast hx hb hK hP hD hS 0 0 rfl rfl (vp_in_nI (by omega) (by decide)) d_JInteger_getChars_55 (fun H locs hP hD hS => ?_)
            have hP : va_P D classes ([(b0, .inl (kb, 16, .inl (upd ya ((nI (n0 + sb_dg v - 1)).toNatClampNeg) (vp_nar .byte (nI (48 + (nI (v % 100)).toNatClampNeg % 10))))))]) H := hP
            have hD : va_D A ([(b0, .inl (kb, 16, .inl (upd ya ((nI (n0 + sb_dg v - 1)).toNatClampNeg) (vp_nar .byte (nI (48 + (nI (v % 100)).toNatClampNeg % 10))))))]) := hD
            refine lv_aload_n hx hb d_JInteger_getChars_56 rfl (lv_at hl 5 rfl) ?_
            refine lv_iinc (v := nI (n0 + sb_dg v - 1 - 1)) (lv' := [(5, .int (nI (n0 + sb_dg v - 1 - 1))), (0, .int (-(nI (v / 100)))), (4, .int (nI (v % 100))), (3, .int (-(nI (v / 100)))), (1, .int (nI (n0 + sb_dg w))), (2, .ref b0), (6, .int 0)]) hx hb d_JInteger_getChars_57 hl (k := 0) rfl (sb_m1 (by omega)) (by decide) rfl (fun ls hl => ?_)
            refine lv_iload hx hb d_JInteger_getChars_60 (lv_at hl 0 rfl) ?_
            refine va_gets hx hb hO.2.2.2.2.1.1 hS hown (hts _ cw_656) (fun _ h9 => h9) d_JInteger_getChars_62 ?_
            refine lv_iload hx hb d_JInteger_getChars_65 (lv_at hl 2 rfl) ?_
            refine va_tb (v := .int (nI (48 + (nI (v % 100)).toNatClampNeg / 10))) hx hb hO.2.2.2.2.1.2 hS (vp_in_nI (by omega) (by decide)) rfl d_JInteger_getChars_67 ?_
            refine va_bast hx hb hK hP hD hS 0 0 rfl rfl (vp_in_nI (by omega) (by decide)) d_JInteger_getChars_68 (fun H locs hP hD hS => ?_)
            have hP : va_P D classes ([(b0, .inl (kb, 16, .inl (upd (upd ya ((nI (n0 + sb_dg v - 1)).toNatClampNeg) (vp_nar .byte (nI (48 + (nI (v % 100)).toNatClampNeg % 10)))) ((nI (n0 + sb_dg v - 1 - 1)).toNatClampNeg) (vp_nar .byte (nI (48 + (nI (v % 100)).toNatClampNeg / 10))))))]) H := hP
            have hD : va_D A ([(b0, .inl (kb, 16, .inl (upd (upd ya ((nI (n0 + sb_dg v - 1)).toNatClampNeg) (vp_nar .byte (nI (48 + (nI (v % 100)).toNatClampNeg % 10)))) ((nI (n0 + sb_dg v - 1 - 1)).toNatClampNeg) (vp_nar .byte (nI (48 + (nI (v % 100)).toNatClampNeg / 10))))))]) := hD
            have e9 : n0 + sb_dg v - 1 - 1 = n0 + sb_dg (v / 100) := by omega
            rw [e9] at hl
            refine lv_goto (tgt := 22) hx hb d_JInteger_getChars_69 (by decide) ?_
            exact ih_22 (v / 100) (upd (upd ya ((nI (n0 + sb_dg v - 1)).toNatClampNeg) (vp_nar .byte (nI (48 + (nI (v % 100)).toNatClampNeg % 10)))) ((nI (n0 + sb_dg v - 1 - 1)).toNatClampNeg) (vp_nar .byte (nI (48 + (nI (v % 100)).toNatClampNeg / 10)))) (by omega) (by omega) (by omega) (hg.trans (m_gcs h100 hv hc)) _ _ (hP.sub [0] rfl) (hD.sub [0] (by decide) rfl) hS ls (lv_sub hl [1, 4, 5, 0, 6] rfl)
      exact loop_3 (w + 1) w bt (by omega) (hw) (hcap) (rfl) _ _ (hP.sub [0] rfl) (hD.sub [0] (by decide) rfl) hS ls (lv_sub hl [0, 3, 4, 2, 1] rfl)
  · exact absurd (nI_pos' hw) c_1

set_option maxHeartbeats 4000000 in
set_option maxRecDepth 100000 in
theorem c_Int_getChars_m (l : Launch) (D : va_G)  (b0 : Nat) (kb : ClassId) (bt : Nat → Int32) (n0 : Nat) (w : Nat) (sz : Nat) (hw : w < 2 ^ 31) (hw0 : 0 < w) (hcap : n0 + 1 + sb_dg w ≤ 16) : Met l y_JInteger_getChars ws_JInteger_getChars ({ frames := 0, cells := 0, slots := 0, locals := 0 }) (va_Pc [.int (-(nI w)), .int (nI (n0 + 1 + sb_dg w)), .ref b0] (cx_pre D [(kb, .byte)] ([(b0, .inl (kb, 16, .inl bt))]) sz)) (va_Qi (fun r9 _ => r9 = nI n0) (fun (_ : Unit) t => cx_end D [(kb, .byte)] (va_A ([(b0, .inl (kb, 16, .inl bt))]) sz) ([(b0, .inl (kb, 16, .inl (upd (m_gc bt (n0 + 1) w) n0 (vp_nar .byte 45))))]) t) (va_A ([(b0, .inl (kb, 16, .inl bt))]) sz)) 0 0 (va_A ([(b0, .inl (kb, 16, .inl bt))]) sz) := by
  refine Met.ofW (cc := b_JInteger_getChars) (maxL := 7) (ret := (some .int)) (by decide) rfl ?_
  intro p e s m args below meth c s₁ B hml hv
  obtain ⟨rfl, hsz, hP, hK, hD0, hN, hO⟩ := hv
  have hx := B.exec
  have hb := B.bytes
  have hr := B.returns
  have hts := fun (w : Cond) (h : w ∈ cx_tbl) => atoms_spec (ws := ws_JInteger_getChars) B.pre w (List.mem_cons_of_mem _ h)
  have hown : s.vm.findClass R_JInteger = some m.cls := findClass_of_methodNamed B.named
  have hlocks := B.notSynchronized
  subst hsz
  have hD := hD0.self (sz := s.heap.size)
  generalize hAe : va_A ([(b0, .inl (kb, 16, .inl bt))]) s.heap.size = A at hD hO ⊢
  have hA : ∀ q : Nat, s.heap.size ≤ q → A q := fun q h => by rw [← hAe]; exact Or.inr h
  have hS : va_S A s.heap s.heap [] := va_S.rf
  have hl := lv_entry ([.int (-(nI w)), .int (nI (n0 + 1 + sb_dg w)), .ref b0]) (n := 7) (Nat.le_of_ble_eq_true rfl)
  rw [lg_entry_eq]
  generalize (lg_sl ([.int (-(nI w)), .int (nI (n0 + 1 + sb_dg w)), .ref b0]) ++ List.replicate (7 - (lg_sl ([.int (-(nI w)), .int (nI (n0 + 1 + sb_dg w)), .ref b0])).length) Slot.unset).toArray = ls at hl ⊢
  have hl : lv_has ls 7 [(0, .int (-(nI w))), (1, .int (nI (n0 + 1 + sb_dg w))), (2, .ref b0)] := hl
  refine cx_q (fun Q hQ => ?_)
  refine lv_iload_n hx hb d_JInteger_getChars_0 rfl (lv_at hl 1 rfl) ?_
  refine lv_istore (lv' := [(5, .int (nI (n0 + 1 + sb_dg w))), (0, .int (-(nI w))), (1, .int (nI (n0 + 1 + sb_dg w))), (2, .ref b0)]) hx hb d_JInteger_getChars_1 hl (by decide) rfl (fun ls hl => ?_)
  refine lv_iload_n hx hb d_JInteger_getChars_3 rfl (lv_at hl 1 rfl) ?_
  refine lv_if_ge (tgt := 11) hx hb d_JInteger_getChars_4 (by decide) (fun c_1 => ?_) (fun c_1 => ?_)
  · exact absurd c_1 (m_neg0 hw0 hw)
  · refine lv_iconst (v := 1) hx hb d_JInteger_getChars_7 (by decide) ?_
    refine lv_goto (tgt := 12) hx hb d_JInteger_getChars_8 (by decide) ?_
    refine lv_istore (lv' := [(6, .int 1), (5, .int (nI (n0 + 1 + sb_dg w))), (0, .int (-(nI w))), (1, .int (nI (n0 + 1 + sb_dg w))), (2, .ref b0)]) hx hb d_JInteger_getChars_12 hl (by decide) rfl (fun ls hl => ?_)
    refine lv_iload hx hb d_JInteger_getChars_14 (lv_at hl 0 rfl) ?_
    refine lv_if_ne (tgt := 22) hx hb d_JInteger_getChars_16 (by decide) (fun c_2 => ?_) (fun c_2 => ?_)
    · have loop_3 : ∀ (n : Nat) (v : Nat) (ya : Nat → Int32) (hn : v < n) (hv : v < 2 ^ 31) (hc : n0 + 1 + sb_dg v ≤ 16) (hg : m_gc bt (n0 + 1) w = m_gc ya (n0 + 1) v) (H : Heap) (locs : List Loc) (hP : va_P D classes ([(b0, .inl (kb, 16, .inl ya))]) H) (hD : va_D A ([(b0, .inl (kb, 16, .inl ya))])) (hS : va_S A s.heap H locs) (ls : Array Slot) (hl : lv_has ls 7 [(0, .int (-(nI v))), (1, .int (nI (n0 + 1 + sb_dg w))), (2, .ref b0), (5, .int (nI (n0 + 1 + sb_dg v))), (6, .int 1)]), W p l e ({ frames := 0, cells := 0, slots := 0, locals := 0 }) s m [.int (-(nI w)), .int (nI (n0 + 1 + sb_dg w)), .ref b0].toArray below meth c H locs 0 0 Q (F0 m 22 ls []) := by
        intro n
        induction n with
        | zero =>
          intro v ya hn hv hc hg H locs hP hD hS ls hl
          exact absurd hn (Nat.not_lt_zero _)
        | succ n ih_22 =>
          intro v ya hn hv hc hg H locs hP hD hS ls hl
          refine lv_iload_n hx hb d_JInteger_getChars_22 rfl (lv_at hl 0 rfl) ?_
          refine lv_bipush (v := (-100)) hx hb d_JInteger_getChars_23 (by decide) ?_
          refine lv_icmp_gt (tgt := 72) hx hb d_JInteger_getChars_25 (by decide) (fun c_4 => ?_) (fun c_4 => ?_)
          · have h100 : v < 100 := m_l100 hv c_4
            have hd1 := (sb_dg_in v).1
            refine lv_aload_n hx hb d_JInteger_getChars_72 rfl (lv_at hl 2 rfl) ?_
            refine lv_iinc (v := nI (n0 + 1 + sb_dg v - 1)) (lv' := [(5, .int (nI (n0 + 1 + sb_dg v - 1))), (0, .int (-(nI v))), (1, .int (nI (n0 + 1 + sb_dg w))), (2, .ref b0), (6, .int 1)]) hx hb d_JInteger_getChars_73 hl (k := 3) rfl (sb_m1 (by omega)) (by decide) rfl (fun ls hl => ?_)
            refine lv_iload hx hb d_JInteger_getChars_76 (lv_at hl 0 rfl) ?_
            refine va_gets hx hb hO.2.2.2.2.2.1.1 hS hown (hts _ cw_654) (fun _ h9 => h9) d_JInteger_getChars_78 ?_
            refine lv_iload_n hx hb d_JInteger_getChars_81 rfl (lv_at hl 1 rfl) ?_
            refine lv_ineg hx hb d_JInteger_getChars_82 ?_
            refine W.eq (g2 := F0 m 83 ls [.int (nI v), .ref (D.2 100 3), .int (nI (n0 + 1 + sb_dg v - 1)), .ref b0]) (by rw [Int32.neg_neg]) ?_
            refine va_tb (v := .int (nI (48 + (nI v).toNatClampNeg % 10))) hx hb hO.2.2.2.2.2.1.2 hS (vp_in_nI (by omega) (by decide)) rfl d_JInteger_getChars_83 ?_
            refine va_bast hx hb hK hP hD hS 0 0 rfl rfl (vp_in_nI (by omega) (by decide)) d_JInteger_getChars_84 (fun H locs hP hD hS => ?_)
            have hP : va_P D classes ([(b0, .inl (kb, 16, .inl (upd ya ((nI (n0 + 1 + sb_dg v - 1)).toNatClampNeg) (vp_nar .byte (nI (48 + (nI v).toNatClampNeg % 10))))))]) H := hP
            have hD : va_D A ([(b0, .inl (kb, 16, .inl (upd ya ((nI (n0 + 1 + sb_dg v - 1)).toNatClampNeg) (vp_nar .byte (nI (48 + (nI v).toNatClampNeg % 10))))))]) := hD
            refine lv_iload_n hx hb d_JInteger_getChars_85 rfl (lv_at hl 1 rfl) ?_
            refine lv_bipush (v := (-9)) hx hb d_JInteger_getChars_86 (by decide) ?_
            refine lv_icmp_ge (tgt := 104) hx hb d_JInteger_getChars_88 (by decide) (fun c_5 => ?_) (fun c_5 => ?_)
            · have h9 : v < 10 := m_l9 hv c_5
              have hd : sb_dg v = 1 := if_pos h9
              refine lv_iload hx hb d_JInteger_getChars_104 (lv_at hl 4 rfl) ?_
              refine lv_if_eq (tgt := 118) hx hb d_JInteger_getChars_106 (by decide) (fun c_6 => ?_) (fun c_6 => ?_)
              · exact absurd c_6 (by decide)
              · refine lv_aload_n hx hb d_JInteger_getChars_109 rfl (lv_at hl 3 rfl) ?_
                refine lv_iinc (v := nI (n0 + 1 + sb_dg v - 1 - 1)) (lv' := [(5, .int (nI (n0 + 1 + sb_dg v - 1 - 1))), (0, .int (-(nI v))), (1, .int (nI (n0 + 1 + sb_dg w))), (2, .ref b0), (6, .int 1)]) hx hb d_JInteger_getChars_110 hl (k := 0) rfl (sb_m1 (by omega)) (by decide) rfl (fun ls hl => ?_)
                refine lv_iload hx hb d_JInteger_getChars_113 (lv_at hl 0 rfl) ?_
                refine lv_bipush (v := 45) hx hb d_JInteger_getChars_115 (by decide) ?_
                refine va_bast hx hb hK hP hD hS 0 0 rfl rfl (vp_in_nI (by omega) (by decide)) d_JInteger_getChars_117 (fun H locs hP hD hS => ?_)
                have hP : va_P D classes ([(b0, .inl (kb, 16, .inl (upd (upd ya ((nI (n0 + 1 + sb_dg v - 1)).toNatClampNeg) (vp_nar .byte (nI (48 + (nI v).toNatClampNeg % 10)))) ((nI (n0 + 1 + sb_dg v - 1 - 1)).toNatClampNeg) (vp_nar .byte 45))))]) H := hP
                have hD : va_D A ([(b0, .inl (kb, 16, .inl (upd (upd ya ((nI (n0 + 1 + sb_dg v - 1)).toNatClampNeg) (vp_nar .byte (nI (48 + (nI v).toNatClampNeg % 10)))) ((nI (n0 + 1 + sb_dg v - 1 - 1)).toNatClampNeg) (vp_nar .byte 45))))]) := hD
                refine lv_iload hx hb d_JInteger_getChars_118 (lv_at hl 0 rfl) ?_
                subst hQ
                have hm : upd (m_gc bt (n0 + 1) w) n0 (vp_nar .byte 45) = upd (upd ya ((nI (n0 + 1 + sb_dg v - 1)).toNatClampNeg) (vp_nar .byte (nI (48 + (nI v).toNatClampNeg % 10)))) ((nI (n0 + 1 + sb_dg v - 1 - 1)).toNatClampNeg) (vp_nar .byte 45) := by rw [hg, m_gc1 h9 hc, nI_clamp (n := n0 + 1 + sb_dg v - 1 - 1) (by omega), show n0 + 1 + sb_dg v - 1 - 1 = n0 by omega]
                rw [hm]
                have hP9 := hP.sub (ws' := [(b0, .inl (kb, 16, .inl (upd (upd ya ((nI (n0 + 1 + sb_dg v - 1)).toNatClampNeg) (vp_nar .byte (nI (48 + (nI v).toNatClampNeg % 10)))) ((nI (n0 + 1 + sb_dg v - 1 - 1)).toNatClampNeg) (vp_nar .byte 45))))]) [0] rfl
                have hD9 := hD.sub (ws' := [(b0, .inl (kb, 16, .inl (upd (upd ya ((nI (n0 + 1 + sb_dg v - 1)).toNatClampNeg) (vp_nar .byte (nI (48 + (nI v).toNatClampNeg % 10)))) ((nI (n0 + 1 + sb_dg v - 1 - 1)).toNatClampNeg) (vp_nar .byte 45))))]) [0] (by decide) rfl
                have hK9 := hK.sub (tys' := [(kb, .byte)]) [0] rfl
                exact W.iret (v := nI (n0 + 1 + sb_dg v - 1 - 1)) hx hb hr (fun t ht hW => ⟨⟨_, (), rfl, congrArg nI (by omega), by rw [ht]; exact hP9, va_K.moved hW.alike hK9, hD9⟩, hS.F ht⟩) hS.2.2 d_JInteger_getChars_120
            · have h9 : 10 ≤ v := m_n9 hv c_5
              have hd : sb_dg v = 2 := by rw [sb_dg, if_neg (by omega), if_pos h100]
              refine lv_aload_n hx hb d_JInteger_getChars_91 rfl (lv_at hl 3 rfl) ?_
              refine lv_iinc (v := nI (n0 + 1 + sb_dg v - 1 - 1)) (lv' := [(5, .int (nI (n0 + 1 + sb_dg v - 1 - 1))), (0, .int (-(nI v))), (1, .int (nI (n0 + 1 + sb_dg w))), (2, .ref b0), (6, .int 1)]) hx hb d_JInteger_getChars_92 hl (k := 0) rfl (sb_m1 (by omega)) (by decide) rfl (fun ls hl => ?_)
              refine lv_iload hx hb d_JInteger_getChars_95 (lv_at hl 0 rfl) ?_
              refine va_gets hx hb hO.2.2.2.2.1.1 hS hown (hts _ cw_656) (fun _ h9 => h9) d_JInteger_getChars_97 ?_
              refine lv_iload_n hx hb d_JInteger_getChars_100 rfl (lv_at hl 1 rfl) ?_
              refine lv_ineg hx hb d_JInteger_getChars_101 ?_
              refine W.eq (g2 := F0 m 102 ls [.int (nI v), .ref (D.2 100 2), .int (nI (n0 + 1 + sb_dg v - 1 - 1)), .ref b0]) (by rw [Int32.neg_neg]) ?_
              refine va_tb (v := .int (nI (48 + (nI v).toNatClampNeg / 10))) hx hb hO.2.2.2.2.1.2 hS (vp_in_nI (by omega) (by decide)) rfl d_JInteger_getChars_102 ?_
              refine va_bast hx hb hK hP hD hS 0 0 rfl rfl (vp_in_nI (by omega) (by decide)) d_JInteger_getChars_103 (fun H locs hP hD hS => ?_)
              have hP : va_P D classes ([(b0, .inl (kb, 16, .inl (upd (upd ya ((nI (n0 + 1 + sb_dg v - 1)).toNatClampNeg) (vp_nar .byte (nI (48 + (nI v).toNatClampNeg % 10)))) ((nI (n0 + 1 + sb_dg v - 1 - 1)).toNatClampNeg) (vp_nar .byte (nI (48 + (nI v).toNatClampNeg / 10))))))]) H := hP
              have hD : va_D A ([(b0, .inl (kb, 16, .inl (upd (upd ya ((nI (n0 + 1 + sb_dg v - 1)).toNatClampNeg) (vp_nar .byte (nI (48 + (nI v).toNatClampNeg % 10)))) ((nI (n0 + 1 + sb_dg v - 1 - 1)).toNatClampNeg) (vp_nar .byte (nI (48 + (nI v).toNatClampNeg / 10))))))]) := hD
              refine lv_iload hx hb d_JInteger_getChars_104 (lv_at hl 4 rfl) ?_
              refine lv_if_eq (tgt := 118) hx hb d_JInteger_getChars_106 (by decide) (fun c_7 => ?_) (fun c_7 => ?_)
              · exact absurd c_7 (by decide)
              · refine lv_aload_n hx hb d_JInteger_getChars_109 rfl (lv_at hl 3 rfl) ?_
                refine lv_iinc (v := nI (n0 + 1 + sb_dg v - 1 - 1 - 1)) (lv' := [(5, .int (nI (n0 + 1 + sb_dg v - 1 - 1 - 1))), (0, .int (-(nI v))), (1, .int (nI (n0 + 1 + sb_dg w))), (2, .ref b0), (6, .int 1)]) hx hb d_JInteger_getChars_110 hl (k := 0) rfl (sb_m1 (by omega)) (by decide) rfl (fun ls hl => ?_)
                refine lv_iload hx hb d_JInteger_getChars_113 (lv_at hl 0 rfl) ?_
                refine lv_bipush (v := 45) hx hb d_JInteger_getChars_115 (by decide) ?_
                refine va_bast hx hb hK hP hD hS 0 0 rfl rfl (vp_in_nI (by omega) (by decide)) d_JInteger_getChars_117 (fun H locs hP hD hS => ?_)
                have hP : va_P D classes ([(b0, .inl (kb, 16, .inl (upd (upd (upd ya ((nI (n0 + 1 + sb_dg v - 1)).toNatClampNeg) (vp_nar .byte (nI (48 + (nI v).toNatClampNeg % 10)))) ((nI (n0 + 1 + sb_dg v - 1 - 1)).toNatClampNeg) (vp_nar .byte (nI (48 + (nI v).toNatClampNeg / 10)))) ((nI (n0 + 1 + sb_dg v - 1 - 1 - 1)).toNatClampNeg) (vp_nar .byte 45))))]) H := hP
                have hD : va_D A ([(b0, .inl (kb, 16, .inl (upd (upd (upd ya ((nI (n0 + 1 + sb_dg v - 1)).toNatClampNeg) (vp_nar .byte (nI (48 + (nI v).toNatClampNeg % 10)))) ((nI (n0 + 1 + sb_dg v - 1 - 1)).toNatClampNeg) (vp_nar .byte (nI (48 + (nI v).toNatClampNeg / 10)))) ((nI (n0 + 1 + sb_dg v - 1 - 1 - 1)).toNatClampNeg) (vp_nar .byte 45))))]) := hD
                refine lv_iload hx hb d_JInteger_getChars_118 (lv_at hl 0 rfl) ?_
                subst hQ
                have hm : upd (m_gc bt (n0 + 1) w) n0 (vp_nar .byte 45) = upd (upd (upd ya ((nI (n0 + 1 + sb_dg v - 1)).toNatClampNeg) (vp_nar .byte (nI (48 + (nI v).toNatClampNeg % 10)))) ((nI (n0 + 1 + sb_dg v - 1 - 1)).toNatClampNeg) (vp_nar .byte (nI (48 + (nI v).toNatClampNeg / 10)))) ((nI (n0 + 1 + sb_dg v - 1 - 1 - 1)).toNatClampNeg) (vp_nar .byte 45) := by rw [hg, m_gc2 h9 h100 hc, nI_clamp (n := n0 + 1 + sb_dg v - 1 - 1 - 1) (by omega), show n0 + 1 + sb_dg v - 1 - 1 - 1 = n0 by omega]
                rw [hm]
                have hP9 := hP.sub (ws' := [(b0, .inl (kb, 16, .inl (upd (upd (upd ya ((nI (n0 + 1 + sb_dg v - 1)).toNatClampNeg) (vp_nar .byte (nI (48 + (nI v).toNatClampNeg % 10)))) ((nI (n0 + 1 + sb_dg v - 1 - 1)).toNatClampNeg) (vp_nar .byte (nI (48 + (nI v).toNatClampNeg / 10)))) ((nI (n0 + 1 + sb_dg v - 1 - 1 - 1)).toNatClampNeg) (vp_nar .byte 45))))]) [0] rfl
                have hD9 := hD.sub (ws' := [(b0, .inl (kb, 16, .inl (upd (upd (upd ya ((nI (n0 + 1 + sb_dg v - 1)).toNatClampNeg) (vp_nar .byte (nI (48 + (nI v).toNatClampNeg % 10)))) ((nI (n0 + 1 + sb_dg v - 1 - 1)).toNatClampNeg) (vp_nar .byte (nI (48 + (nI v).toNatClampNeg / 10)))) ((nI (n0 + 1 + sb_dg v - 1 - 1 - 1)).toNatClampNeg) (vp_nar .byte 45))))]) [0] (by decide) rfl
                have hK9 := hK.sub (tys' := [(kb, .byte)]) [0] rfl
                exact W.iret (v := nI (n0 + 1 + sb_dg v - 1 - 1 - 1)) hx hb hr (fun t ht hW => ⟨⟨_, (), rfl, congrArg nI (by omega), by rw [ht]; exact hP9, va_K.moved hW.alike hK9, hD9⟩, hS.F ht⟩) hS.2.2 d_JInteger_getChars_120
          · have h100 : 100 ≤ v := m_n100 hv c_4
            have hd := sb_dg100 h100 hv
            have hd2 := (sb_dg_in (v / 100)).1
            refine lv_iload_n hx hb d_JInteger_getChars_28 rfl (lv_at hl 0 rfl) ?_
            refine lv_bipush (v := 100) hx hb d_JInteger_getChars_29 (by decide) ?_
            refine lv_idiv hx hb d_JInteger_getChars_31 (by decide) ?_
            refine W.eq (g2 := F0 m 32 ls [.int (-(nI (v / 100)))]) (by rw [sb_ndiv hv]) ?_
            refine lv_istore_n (lv' := [(3, .int (-(nI (v / 100)))), (0, .int (-(nI v))), (1, .int (nI (n0 + 1 + sb_dg w))), (2, .ref b0), (5, .int (nI (n0 + 1 + sb_dg v))), (6, .int 1)]) hx hb d_JInteger_getChars_32 rfl hl (by decide) rfl (fun ls hl => ?_)
            refine lv_iload_n hx hb d_JInteger_getChars_33 rfl (lv_at hl 0 rfl) ?_
            refine lv_bipush (v := 100) hx hb d_JInteger_getChars_34 (by decide) ?_
            refine lv_imul hx hb d_JInteger_getChars_36 ?_
            refine lv_iload_n hx hb d_JInteger_getChars_37 rfl (lv_at hl 1 rfl) ?_
            refine lv_isub hx hb d_JInteger_getChars_38 ?_
            refine W.eq (g2 := F0 m 39 ls [.int (nI (v % 100))]) (by rw [sb_nrem hv]) ?_
            refine lv_istore (lv' := [(4, .int (nI (v % 100))), (3, .int (-(nI (v / 100)))), (0, .int (-(nI v))), (1, .int (nI (n0 + 1 + sb_dg w))), (2, .ref b0), (5, .int (nI (n0 + 1 + sb_dg v))), (6, .int 1)]) hx hb d_JInteger_getChars_39 hl (by decide) rfl (fun ls hl => ?_)
            refine lv_iload_n hx hb d_JInteger_getChars_41 rfl (lv_at hl 1 rfl) ?_
            refine lv_istore_n (lv' := [(0, .int (-(nI (v / 100)))), (4, .int (nI (v % 100))), (3, .int (-(nI (v / 100)))), (1, .int (nI (n0 + 1 + sb_dg w))), (2, .ref b0), (5, .int (nI (n0 + 1 + sb_dg v))), (6, .int 1)]) hx hb d_JInteger_getChars_42 rfl hl (by decide) rfl (fun ls hl => ?_)
            refine lv_aload_n hx hb d_JInteger_getChars_43 rfl (lv_at hl 4 rfl) ?_
            refine lv_iinc (v := nI (n0 + 1 + sb_dg v - 1)) (lv' := [(5, .int (nI (n0 + 1 + sb_dg v - 1))), (0, .int (-(nI (v / 100)))), (4, .int (nI (v % 100))), (3, .int (-(nI (v / 100)))), (1, .int (nI (n0 + 1 + sb_dg w))), (2, .ref b0), (6, .int 1)]) hx hb d_JInteger_getChars_44 hl (k := 5) rfl (sb_m1 (by omega)) (by decide) rfl (fun ls hl => ?_)
            refine lv_iload hx hb d_JInteger_getChars_47 (lv_at hl 0 rfl) ?_
            refine va_gets hx hb hO.2.2.2.2.2.1.1 hS hown (hts _ cw_654) (fun _ h9 => h9) d_JInteger_getChars_49 ?_
            refine lv_iload hx hb d_JInteger_getChars_52 (lv_at hl 2 rfl) ?_
            refine va_tb (v := .int (nI (48 + (nI (v % 100)).toNatClampNeg % 10))) hx hb hO.2.2.2.2.2.1.2 hS (vp_in_nI (by omega) (by decide)) rfl d_JInteger_getChars_54 ?_
            refine va_bast hx hb hK hP hD hS 0 0 rfl rfl (vp_in_nI (by omega) (by decide)) d_JInteger_getChars_55 (fun H locs hP hD hS => ?_)
            have hP : va_P D classes ([(b0, .inl (kb, 16, .inl (upd ya ((nI (n0 + 1 + sb_dg v - 1)).toNatClampNeg) (vp_nar .byte (nI (48 + (nI (v % 100)).toNatClampNeg % 10))))))]) H := hP
            have hD : va_D A ([(b0, .inl (kb, 16, .inl (upd ya ((nI (n0 + 1 + sb_dg v - 1)).toNatClampNeg) (vp_nar .byte (nI (48 + (nI (v % 100)).toNatClampNeg % 10))))))]) := hD
            refine lv_aload_n hx hb d_JInteger_getChars_56 rfl (lv_at hl 5 rfl) ?_
            refine lv_iinc (v := nI (n0 + 1 + sb_dg v - 1 - 1)) (lv' := [(5, .int (nI (n0 + 1 + sb_dg v - 1 - 1))), (0, .int (-(nI (v / 100)))), (4, .int (nI (v % 100))), (3, .int (-(nI (v / 100)))), (1, .int (nI (n0 + 1 + sb_dg w))), (2, .ref b0), (6, .int 1)]) hx hb d_JInteger_getChars_57 hl (k := 0) rfl (sb_m1 (by omega)) (by decide) rfl (fun ls hl => ?_)
            refine lv_iload hx hb d_JInteger_getChars_60 (lv_at hl 0 rfl) ?_
            refine va_gets hx hb hO.2.2.2.2.1.1 hS hown (hts _ cw_656) (fun _ h9 => h9) d_JInteger_getChars_62 ?_
            refine lv_iload hx hb d_JInteger_getChars_65 (lv_at hl 2 rfl) ?_
            refine va_tb (v := .int (nI (48 + (nI (v % 100)).toNatClampNeg / 10))) hx hb hO.2.2.2.2.1.2 hS (vp_in_nI (by omega) (by decide)) rfl d_JInteger_getChars_67 ?_
            refine va_bast hx hb hK hP hD hS 0 0 rfl rfl (vp_in_nI (by omega) (by decide)) d_JInteger_getChars_68 (fun H locs hP hD hS => ?_)
            have hP : va_P D classes ([(b0, .inl (kb, 16, .inl (upd (upd ya ((nI (n0 + 1 + sb_dg v - 1)).toNatClampNeg) (vp_nar .byte (nI (48 + (nI (v % 100)).toNatClampNeg % 10)))) ((nI (n0 + 1 + sb_dg v - 1 - 1)).toNatClampNeg) (vp_nar .byte (nI (48 + (nI (v % 100)).toNatClampNeg / 10))))))]) H := hP
            have hD : va_D A ([(b0, .inl (kb, 16, .inl (upd (upd ya ((nI (n0 + 1 + sb_dg v - 1)).toNatClampNeg) (vp_nar .byte (nI (48 + (nI (v % 100)).toNatClampNeg % 10)))) ((nI (n0 + 1 + sb_dg v - 1 - 1)).toNatClampNeg) (vp_nar .byte (nI (48 + (nI (v % 100)).toNatClampNeg / 10))))))]) := hD
            have e9 : n0 + 1 + sb_dg v - 1 - 1 = n0 + 1 + sb_dg (v / 100) := by omega
            rw [e9] at hl
            refine lv_goto (tgt := 22) hx hb d_JInteger_getChars_69 (by decide) ?_
            exact ih_22 (v / 100) (upd (upd ya ((nI (n0 + 1 + sb_dg v - 1)).toNatClampNeg) (vp_nar .byte (nI (48 + (nI (v % 100)).toNatClampNeg % 10)))) ((nI (n0 + 1 + sb_dg v - 1 - 1)).toNatClampNeg) (vp_nar .byte (nI (48 + (nI (v % 100)).toNatClampNeg / 10)))) (by omega) (by omega) (by omega) (hg.trans (m_gcs h100 hv hc)) _ _ (hP.sub [0] rfl) (hD.sub [0] (by decide) rfl) hS ls (lv_sub hl [1, 4, 5, 0, 6] rfl)
      exact loop_3 (w + 1) w bt (by omega) (hw) (hcap) (rfl) _ _ (hP.sub [0] rfl) (hD.sub [0] (by decide) rfl) hS ls (lv_sub hl [2, 3, 4, 1, 0] rfl)
    · exact absurd c_2 (by decide)

set_option maxHeartbeats 4000000 in
set_option maxRecDepth 100000 in
theorem c_Asb_append1_p (l : Launch) (D : va_G)  (h0 : Nat) (b0 : Nat) (kb : ClassId) (bt : Nat → Int32) (ml : Int32) (k : Nat) (w : Nat) (sz : Nat) (hw : w < 2 ^ 31) (hcap : k + sb_dg w ≤ 16) : Met l y_Asb_append1 ws_Asb_append1 ({ frames := 1, cells := 0, slots := 0, locals := 26 }) (va_Pc [.ref h0, .int (nI w)] (cx_pre D [(kb, .byte)] ([(h0, .inr (7, [.ref b0, .int 0, .int ml, .int (nI k)])), (b0, .inl (kb, 16, .inl bt))]) sz)) (va_Qq (fun r9 _ => r9 = some h0) (fun (_ : Unit) t => cx_end D [(kb, .byte)] (va_A ([(h0, .inr (7, [.ref b0, .int 0, .int ml, .int (nI k)])), (b0, .inl (kb, 16, .inl bt))]) sz) ([(h0, .inr (7, [.ref b0, .int 0, .int ml, .int (nI (k + sb_dg w))])), (b0, .inl (kb, 16, .inl (m_gc bt k w)))]) t) (va_A ([(h0, .inr (7, [.ref b0, .int 0, .int ml, .int (nI k)])), (b0, .inl (kb, 16, .inl bt))]) sz)) 0 0 (va_A ([(h0, .inr (7, [.ref b0, .int 0, .int ml, .int (nI k)])), (b0, .inl (kb, 16, .inl bt))]) sz) := by
  refine Met.ofW (cc := b_Asb_append1) (maxL := 4) (ret := (some (.object "java/lang/AbstractStringBuilder"))) (by decide) rfl ?_
  intro p e s m args below meth c s₁ B hml hv
  obtain ⟨rfl, hsz, hP, hK, hD0, hN, hO⟩ := hv
  have hx := B.exec
  have hb := B.bytes
  have hr := B.returns
  have hts := fun (w : Cond) (h : w ∈ cx_tbl) => atoms_spec (ws := ws_Asb_append1) B.pre w (List.mem_cons_of_mem _ h)
  have hown : s.vm.findClass R_Asb = some m.cls := findClass_of_methodNamed B.named
  have hlocks := B.notSynchronized
  subst hsz
  have hD := hD0.self (sz := s.heap.size)
  generalize hAe : va_A ([(h0, .inr (7, [.ref b0, .int 0, .int ml, .int (nI k)])), (b0, .inl (kb, 16, .inl bt))]) s.heap.size = A at hD hO ⊢
  have hA : ∀ q : Nat, s.heap.size ≤ q → A q := fun q h => by rw [← hAe]; exact Or.inr h
  have hS : va_S A s.heap s.heap [] := va_S.rf
  have hl := lv_entry ([.ref h0, .int (nI w)]) (n := 4) (Nat.le_of_ble_eq_true rfl)
  rw [lg_entry_eq]
  generalize (lg_sl ([.ref h0, .int (nI w)]) ++ List.replicate (4 - (lg_sl ([.ref h0, .int (nI w)])).length) Slot.unset).toArray = ls at hl ⊢
  have hl : lv_has ls 4 [(0, .ref h0), (1, .int (nI w))] := hl
  refine lv_aload_n hx hb d_Asb_append1_0 rfl (lv_at hl 0 rfl) ?_
  refine va_get (D := D) (ci := 7) (v := .int (nI k)) (C := R_Sb) (T := T_Sb) (N := 4) hx hb hts in_Sb hown hK hP 0 rfl rfl 3 (by decide) (hts _ cw_161) (fun _ h9 => h9) rfl d_Asb_append1_1 ?_
  refine lv_istore_n (lv' := [(2, .int (nI k)), (0, .ref h0), (1, .int (nI w))]) hx hb d_Asb_append1_4 rfl hl (by decide) rfl (fun ls hl => ?_)
  refine lv_iload_n hx hb d_Asb_append1_5 rfl (lv_at hl 0 rfl) ?_
  refine lv_iload_n hx hb d_Asb_append1_6 rfl (lv_at hl 2 rfl) ?_
  have hPc := hP.sub (ws' := []) [] rfl
  have hDc := hD.sub (ws' := []) [] (by decide) rfl
  have hKc := hK.sub (tys' := []) [] rfl
  have hFc := va_free (wc := []) hD hS hA [] rfl
  refine vp_callSi (va_Run.run (va_runS (As := [.int (nI w)]) (rest := [.int (nI k)])  ⟨hx, hb, hml, hown, hts⟩ (c_Int_stringSize_p l D w s.heap.size (hw)) ⟨callB_of 1 hts cg_JInteger_stringSize rfl rfl rfl (hts _ cw_18) (hts _ cw_648) (by decide +kernel) ⟨Nat.le_of_ble_eq_true rfl, Nat.le_of_ble_eq_true rfl⟩, hts _ cw_649⟩ (cx_preS [.int (nI w)] hPc hKc hDc hN hO hS hFc) rfl rfl hl.1 rfl (lv_room (Nat.le_of_ble_eq_true rfl)) d_Asb_append1_7 ⟨Nat.le_of_ble_eq_true rfl, Nat.le_of_ble_eq_true rfl⟩)) (fun r z_1 => ?_)
  subst z_1
  refine lv_iadd hx hb d_Asb_append1_10 ?_
  refine W.eq (g2 := F0 m 11 ls [.int (nI (k + sb_dg w))]) (by rw [nI_add]) ?_
  refine lv_istore_n (lv' := [(3, .int (nI (k + sb_dg w))), (2, .int (nI k)), (0, .ref h0), (1, .int (nI w))]) hx hb d_Asb_append1_11 rfl hl (by decide) rfl (fun ls hl => ?_)
  refine lv_aload_n hx hb d_Asb_append1_12 rfl (lv_at hl 2 rfl) ?_
  refine lv_iload_n hx hb d_Asb_append1_13 rfl (lv_at hl 0 rfl) ?_
  have hPc := hP.sub (ws' := [(h0, .inr (7, [.ref b0, .int 0, .int ml, .int (nI k)])), (b0, .inl (kb, 16, .inl bt))]) [0, 1] rfl
  have hDc := hD.sub (ws' := [(h0, .inr (7, [.ref b0, .int 0, .int ml, .int (nI k)])), (b0, .inl (kb, 16, .inl bt))]) [0, 1] (by decide) rfl
  have hKc := hK.sub (tys' := [(kb, .byte)]) [0] rfl
  have hFc := va_free (wc := [(h0, .inr (7, [.ref b0, .int 0, .int ml, .int (nI k)])), (b0, .inl (kb, 16, .inl bt))]) hD hS hA [0, 1] rfl
  refine va_csv (va_Run.run (va_runV (As := [.int (nI (k + sb_dg w))]) (rest := [])  ⟨hx, hb, hml, hown, hts⟩ (c_Asb_ensure l D h0 b0 kb bt ml k (k + sb_dg w) s.heap.size (by omega)) ⟨callB_of 1 hts cg_Asb_ensureCapacityInternal rfl rfl rfl (hts _ cw_6) (hts _ cw_592) (by decide +kernel) ⟨Nat.le_of_ble_eq_true rfl, Nat.le_of_ble_eq_true rfl⟩, hts _ cw_594, hts _ cw_sel⟩ (cx_preV (C := R_Sb) [.int (nI (k + sb_dg w))] hPc hKc hDc hN hO hS hFc (ci := 7) (q0 := 0) rfl rfl rfl) rfl rfl hl.1 rfl (lv_room (Nat.le_of_ble_eq_true rfl)) d_Asb_append1_14 ⟨Nat.le_of_ble_eq_true rfl, Nat.le_of_ble_eq_true rfl⟩)) (fun _ => ?_)
  refine lv_aload_n hx hb d_Asb_append1_17 rfl (lv_at hl 2 rfl) ?_
  have hPc := hP.sub (ws' := [(h0, .inr (7, [.ref b0, .int 0, .int ml, .int (nI k)])), (b0, .inl (kb, 16, .inl bt))]) [0, 1] rfl
  have hDc := hD.sub (ws' := [(h0, .inr (7, [.ref b0, .int 0, .int ml, .int (nI k)])), (b0, .inl (kb, 16, .inl bt))]) [0, 1] (by decide) rfl
  have hKc := hK.sub (tys' := [(kb, .byte)]) [0] rfl
  have hFc := va_free (wc := [(h0, .inr (7, [.ref b0, .int 0, .int ml, .int (nI k)])), (b0, .inl (kb, 16, .inl bt))]) hD hS hA [0, 1] rfl
  refine vp_callSi (va_Run.run (va_runV (As := []) (rest := [])  ⟨hx, hb, hml, hown, hts⟩ (c_Asb_isLatin1 l D h0 b0 kb bt ml k s.heap.size ) ⟨callB_of 0 hts cg_Asb_isLatin1 rfl rfl rfl (hts _ cw_6) (hts _ cw_623) (by decide +kernel) ⟨Nat.le_of_ble_eq_true rfl, Nat.le_of_ble_eq_true rfl⟩, hts _ cw_624, hts _ cw_626⟩ (cx_preV (C := R_Sb) [] hPc hKc hDc hN hO hS hFc (ci := 7) (q0 := 0) rfl rfl rfl) rfl rfl hl.1 rfl (lv_room (Nat.le_of_ble_eq_true rfl)) d_Asb_append1_18 ⟨Nat.le_of_ble_eq_true rfl, Nat.le_of_ble_eq_true rfl⟩)) (fun r z_3 => ?_)
  subst z_3
  refine lv_if_eq (tgt := 37) hx hb d_Asb_append1_21 (by decide) (fun c_4 => ?_) (fun c_4 => ?_)
  · exact absurd c_4 (by decide)
  · refine lv_iload_n hx hb d_Asb_append1_24 rfl (lv_at hl 3 rfl) ?_
    refine lv_iload_n hx hb d_Asb_append1_25 rfl (lv_at hl 0 rfl) ?_
    refine lv_aload_n hx hb d_Asb_append1_26 rfl (lv_at hl 2 rfl) ?_
    refine va_get (D := D) (ci := 7) (v := .ref b0) (C := R_Sb) (T := T_Sb) (N := 4) hx hb hts in_Sb hown hK hP 0 rfl rfl 0 (by decide) (hts _ cw_158) (fun _ h9 => h9) rfl d_Asb_append1_27 ?_
    have hPc := hP.sub (ws' := [(b0, .inl (kb, 16, .inl bt))]) [1] rfl
    have hDc := hD.sub (ws' := [(b0, .inl (kb, 16, .inl bt))]) [1] (by decide) rfl
    have hKc := hK.sub (tys' := [(kb, .byte)]) [0] rfl
    have hFc := va_free (wc := [(b0, .inl (kb, 16, .inl bt))]) hD hS hA [1] rfl
    refine cx_joini (wc := [(b0, .inl (kb, 16, .inl bt))]) (wr := [(h0, .inr (7, [.ref b0, .int 0, .int ml, .int (nI k)]))]) hP hD hS hA [1] [0] rfl rfl (by decide) (by decide) (va_runS (As := [.int (nI w), .int (nI (k + sb_dg w)), .ref b0]) (rest := [])  ⟨hx, hb, hml, hown, hts⟩ (c_Int_getChars_p l D b0 kb bt k w s.heap.size (hw) (by omega)) ⟨callB_of 3 hts cg_JInteger_getChars rfl rfl rfl (hts _ cw_18) (hts _ cw_651) (by decide +kernel) ⟨Nat.le_of_ble_eq_true rfl, Nat.le_of_ble_eq_true rfl⟩, hts _ cw_652⟩ (cx_preS [.int (nI w), .int (nI (k + sb_dg w)), .ref b0] hPc hKc hDc hN hO hS hFc) rfl rfl hl.1 rfl (lv_room (Nat.le_of_ble_eq_true rfl)) d_Asb_append1_30 ⟨Nat.le_of_ble_eq_true rfl, Nat.le_of_ble_eq_true rfl⟩) (fun r _ H locs z_5 hK1 hP hD hS => ?_)
    subst z_5
    have hP : va_P D classes ([(h0, .inr (7, [.ref b0, .int 0, .int ml, .int (nI k)])), (b0, .inl (kb, 16, .inl (m_gc bt k w)))]) H := hP
    have hD : va_D A ([(h0, .inr (7, [.ref b0, .int 0, .int ml, .int (nI k)])), (b0, .inl (kb, 16, .inl (m_gc bt k w)))]) := hD
    refine lv_pop hx hb d_Asb_append1_33 rfl ?_
    refine lv_goto (tgt := 48) hx hb d_Asb_append1_34 (by decide) ?_
    refine lv_aload_n hx hb d_Asb_append1_48 rfl (lv_at hl 2 rfl) ?_
    refine lv_iload_n hx hb d_Asb_append1_49 rfl (lv_at hl 0 rfl) ?_
    refine va_put (D := D) (ci := 7) (v := .int (nI (k + sb_dg w))) (ty := .int) (C := R_Sb) (T := T_Sb) (N := 4) hx hb hts in_Sb ty_Sb tyok_Sb nm_Sb hown hK hP hD hS 0 rfl rfl 3 (by decide) (hts _ cw_161) (fun _ h9 => h9) rfl (by decide +kernel) rfl rfl (Nat.le_of_ble_eq_true rfl) d_Asb_append1_50 (fun H locs hP hD hS => ?_)
    have hP : va_P D classes ([(h0, .inr (7, [.ref b0, .int 0, .int ml, .int (nI (k + sb_dg w))])), (b0, .inl (kb, 16, .inl (m_gc bt k w)))]) H := hP
    have hD : va_D A ([(h0, .inr (7, [.ref b0, .int 0, .int ml, .int (nI (k + sb_dg w))])), (b0, .inl (kb, 16, .inl (m_gc bt k w)))]) := hD
    refine lv_aload_n hx hb d_Asb_append1_53 rfl (lv_at hl 2 rfl) ?_
    have hP9 := hP.sub (ws' := [(h0, .inr (7, [.ref b0, .int 0, .int ml, .int (nI (k + sb_dg w))])), (b0, .inl (kb, 16, .inl (m_gc bt k w)))]) [0, 1] rfl
    have hD9 := hD.sub (ws' := [(h0, .inr (7, [.ref b0, .int 0, .int ml, .int (nI (k + sb_dg w))])), (b0, .inl (kb, 16, .inl (m_gc bt k w)))]) [0, 1] (by decide) rfl
    have hK9 := hK.sub (tys' := [(kb, .byte)]) [0] rfl
    exact W.aret (v := .ref h0) hx hb hr (Or.inl ⟨_, rfl⟩) (Or.inr ⟨_, rfl⟩) (fun t ht hW => ⟨⟨some h0, (), rfl, rfl, by rw [ht]; exact hP9, va_K.moved hW.alike hK9, hD9⟩, hS.F ht⟩) hS.2.2 d_Asb_append1_54

set_option maxHeartbeats 4000000 in
set_option maxRecDepth 100000 in
theorem c_Asb_append1_m (l : Launch) (D : va_G)  (h0 : Nat) (b0 : Nat) (kb : ClassId) (bt : Nat → Int32) (ml : Int32) (k : Nat) (w : Nat) (sz : Nat) (hw : w < 2 ^ 31) (hw0 : 0 < w) (hcap : k + 1 + sb_dg w ≤ 16) : Met l y_Asb_append1 ws_Asb_append1 ({ frames := 1, cells := 0, slots := 0, locals := 26 }) (va_Pc [.ref h0, .int (-(nI w))] (cx_pre D [(kb, .byte)] ([(h0, .inr (7, [.ref b0, .int 0, .int ml, .int (nI k)])), (b0, .inl (kb, 16, .inl bt))]) sz)) (va_Qq (fun r9 _ => r9 = some h0) (fun (_ : Unit) t => cx_end D [(kb, .byte)] (va_A ([(h0, .inr (7, [.ref b0, .int 0, .int ml, .int (nI k)])), (b0, .inl (kb, 16, .inl bt))]) sz) ([(h0, .inr (7, [.ref b0, .int 0, .int ml, .int (nI (k + 1 + sb_dg w))])), (b0, .inl (kb, 16, .inl (upd (m_gc bt (k + 1) w) k (vp_nar .byte 45))))]) t) (va_A ([(h0, .inr (7, [.ref b0, .int 0, .int ml, .int (nI k)])), (b0, .inl (kb, 16, .inl bt))]) sz)) 0 0 (va_A ([(h0, .inr (7, [.ref b0, .int 0, .int ml, .int (nI k)])), (b0, .inl (kb, 16, .inl bt))]) sz) := by
  refine Met.ofW (cc := b_Asb_append1) (maxL := 4) (ret := (some (.object "java/lang/AbstractStringBuilder"))) (by decide) rfl ?_
  intro p e s m args below meth c s₁ B hml hv
  obtain ⟨rfl, hsz, hP, hK, hD0, hN, hO⟩ := hv
  have hx := B.exec
  have hb := B.bytes
  have hr := B.returns
  have hts := fun (w : Cond) (h : w ∈ cx_tbl) => atoms_spec (ws := ws_Asb_append1) B.pre w (List.mem_cons_of_mem _ h)
  have hown : s.vm.findClass R_Asb = some m.cls := findClass_of_methodNamed B.named
  have hlocks := B.notSynchronized
  subst hsz
  have hD := hD0.self (sz := s.heap.size)
  generalize hAe : va_A ([(h0, .inr (7, [.ref b0, .int 0, .int ml, .int (nI k)])), (b0, .inl (kb, 16, .inl bt))]) s.heap.size = A at hD hO ⊢
  have hA : ∀ q : Nat, s.heap.size ≤ q → A q := fun q h => by rw [← hAe]; exact Or.inr h
  have hS : va_S A s.heap s.heap [] := va_S.rf
  have hl := lv_entry ([.ref h0, .int (-(nI w))]) (n := 4) (Nat.le_of_ble_eq_true rfl)
  rw [lg_entry_eq]
  generalize (lg_sl ([.ref h0, .int (-(nI w))]) ++ List.replicate (4 - (lg_sl ([.ref h0, .int (-(nI w))])).length) Slot.unset).toArray = ls at hl ⊢
  have hl : lv_has ls 4 [(0, .ref h0), (1, .int (-(nI w)))] := hl
  refine lv_aload_n hx hb d_Asb_append1_0 rfl (lv_at hl 0 rfl) ?_
  refine va_get (D := D) (ci := 7) (v := .int (nI k)) (C := R_Sb) (T := T_Sb) (N := 4) hx hb hts in_Sb hown hK hP 0 rfl rfl 3 (by decide) (hts _ cw_161) (fun _ h9 => h9) rfl d_Asb_append1_1 ?_
  refine lv_istore_n (lv' := [(2, .int (nI k)), (0, .ref h0), (1, .int (-(nI w)))]) hx hb d_Asb_append1_4 rfl hl (by decide) rfl (fun ls hl => ?_)
  refine lv_iload_n hx hb d_Asb_append1_5 rfl (lv_at hl 0 rfl) ?_
  refine lv_iload_n hx hb d_Asb_append1_6 rfl (lv_at hl 2 rfl) ?_
  have hPc := hP.sub (ws' := []) [] rfl
  have hDc := hD.sub (ws' := []) [] (by decide) rfl
  have hKc := hK.sub (tys' := []) [] rfl
  have hFc := va_free (wc := []) hD hS hA [] rfl
  refine vp_callSi (va_Run.run (va_runS (As := [.int (-(nI w))]) (rest := [.int (nI k)])  ⟨hx, hb, hml, hown, hts⟩ (c_Int_stringSize_m l D w s.heap.size (hw) (hw0)) ⟨callB_of 1 hts cg_JInteger_stringSize rfl rfl rfl (hts _ cw_18) (hts _ cw_648) (by decide +kernel) ⟨Nat.le_of_ble_eq_true rfl, Nat.le_of_ble_eq_true rfl⟩, hts _ cw_649⟩ (cx_preS [.int (-(nI w))] hPc hKc hDc hN hO hS hFc) rfl rfl hl.1 rfl (lv_room (Nat.le_of_ble_eq_true rfl)) d_Asb_append1_7 ⟨Nat.le_of_ble_eq_true rfl, Nat.le_of_ble_eq_true rfl⟩)) (fun r z_1 => ?_)
  subst z_1
  refine lv_iadd hx hb d_Asb_append1_10 ?_
  refine W.eq (g2 := F0 m 11 ls [.int (nI (k + 1 + sb_dg w))]) (by rw [nI_add, show k + (sb_dg w + 1) = k + 1 + sb_dg w by omega]) ?_
  refine lv_istore_n (lv' := [(3, .int (nI (k + 1 + sb_dg w))), (2, .int (nI k)), (0, .ref h0), (1, .int (-(nI w)))]) hx hb d_Asb_append1_11 rfl hl (by decide) rfl (fun ls hl => ?_)
  refine lv_aload_n hx hb d_Asb_append1_12 rfl (lv_at hl 2 rfl) ?_
  refine lv_iload_n hx hb d_Asb_append1_13 rfl (lv_at hl 0 rfl) ?_
  have hPc := hP.sub (ws' := [(h0, .inr (7, [.ref b0, .int 0, .int ml, .int (nI k)])), (b0, .inl (kb, 16, .inl bt))]) [0, 1] rfl
  have hDc := hD.sub (ws' := [(h0, .inr (7, [.ref b0, .int 0, .int ml, .int (nI k)])), (b0, .inl (kb, 16, .inl bt))]) [0, 1] (by decide) rfl
  have hKc := hK.sub (tys' := [(kb, .byte)]) [0] rfl
  have hFc := va_free (wc := [(h0, .inr (7, [.ref b0, .int 0, .int ml, .int (nI k)])), (b0, .inl (kb, 16, .inl bt))]) hD hS hA [0, 1] rfl
  refine va_csv (va_Run.run (va_runV (As := [.int (nI (k + 1 + sb_dg w))]) (rest := [])  ⟨hx, hb, hml, hown, hts⟩ (c_Asb_ensure l D h0 b0 kb bt ml k (k + 1 + sb_dg w) s.heap.size (by omega)) ⟨callB_of 1 hts cg_Asb_ensureCapacityInternal rfl rfl rfl (hts _ cw_6) (hts _ cw_592) (by decide +kernel) ⟨Nat.le_of_ble_eq_true rfl, Nat.le_of_ble_eq_true rfl⟩, hts _ cw_594, hts _ cw_sel⟩ (cx_preV (C := R_Sb) [.int (nI (k + 1 + sb_dg w))] hPc hKc hDc hN hO hS hFc (ci := 7) (q0 := 0) rfl rfl rfl) rfl rfl hl.1 rfl (lv_room (Nat.le_of_ble_eq_true rfl)) d_Asb_append1_14 ⟨Nat.le_of_ble_eq_true rfl, Nat.le_of_ble_eq_true rfl⟩)) (fun _ => ?_)
  refine lv_aload_n hx hb d_Asb_append1_17 rfl (lv_at hl 2 rfl) ?_
  have hPc := hP.sub (ws' := [(h0, .inr (7, [.ref b0, .int 0, .int ml, .int (nI k)])), (b0, .inl (kb, 16, .inl bt))]) [0, 1] rfl
  have hDc := hD.sub (ws' := [(h0, .inr (7, [.ref b0, .int 0, .int ml, .int (nI k)])), (b0, .inl (kb, 16, .inl bt))]) [0, 1] (by decide) rfl
  have hKc := hK.sub (tys' := [(kb, .byte)]) [0] rfl
  have hFc := va_free (wc := [(h0, .inr (7, [.ref b0, .int 0, .int ml, .int (nI k)])), (b0, .inl (kb, 16, .inl bt))]) hD hS hA [0, 1] rfl
  refine vp_callSi (va_Run.run (va_runV (As := []) (rest := [])  ⟨hx, hb, hml, hown, hts⟩ (c_Asb_isLatin1 l D h0 b0 kb bt ml k s.heap.size ) ⟨callB_of 0 hts cg_Asb_isLatin1 rfl rfl rfl (hts _ cw_6) (hts _ cw_623) (by decide +kernel) ⟨Nat.le_of_ble_eq_true rfl, Nat.le_of_ble_eq_true rfl⟩, hts _ cw_624, hts _ cw_626⟩ (cx_preV (C := R_Sb) [] hPc hKc hDc hN hO hS hFc (ci := 7) (q0 := 0) rfl rfl rfl) rfl rfl hl.1 rfl (lv_room (Nat.le_of_ble_eq_true rfl)) d_Asb_append1_18 ⟨Nat.le_of_ble_eq_true rfl, Nat.le_of_ble_eq_true rfl⟩)) (fun r z_3 => ?_)
  subst z_3
  refine lv_if_eq (tgt := 37) hx hb d_Asb_append1_21 (by decide) (fun c_4 => ?_) (fun c_4 => ?_)
  · exact absurd c_4 (by decide)
  · refine lv_iload_n hx hb d_Asb_append1_24 rfl (lv_at hl 3 rfl) ?_
    refine lv_iload_n hx hb d_Asb_append1_25 rfl (lv_at hl 0 rfl) ?_
    refine lv_aload_n hx hb d_Asb_append1_26 rfl (lv_at hl 2 rfl) ?_
    refine va_get (D := D) (ci := 7) (v := .ref b0) (C := R_Sb) (T := T_Sb) (N := 4) hx hb hts in_Sb hown hK hP 0 rfl rfl 0 (by decide) (hts _ cw_158) (fun _ h9 => h9) rfl d_Asb_append1_27 ?_
    have hPc := hP.sub (ws' := [(b0, .inl (kb, 16, .inl bt))]) [1] rfl
    have hDc := hD.sub (ws' := [(b0, .inl (kb, 16, .inl bt))]) [1] (by decide) rfl
    have hKc := hK.sub (tys' := [(kb, .byte)]) [0] rfl
    have hFc := va_free (wc := [(b0, .inl (kb, 16, .inl bt))]) hD hS hA [1] rfl
    refine cx_joini (wc := [(b0, .inl (kb, 16, .inl bt))]) (wr := [(h0, .inr (7, [.ref b0, .int 0, .int ml, .int (nI k)]))]) hP hD hS hA [1] [0] rfl rfl (by decide) (by decide) (va_runS (As := [.int (-(nI w)), .int (nI (k + 1 + sb_dg w)), .ref b0]) (rest := [])  ⟨hx, hb, hml, hown, hts⟩ (c_Int_getChars_m l D b0 kb bt k w s.heap.size (hw) (hw0) (by omega)) ⟨callB_of 3 hts cg_JInteger_getChars rfl rfl rfl (hts _ cw_18) (hts _ cw_651) (by decide +kernel) ⟨Nat.le_of_ble_eq_true rfl, Nat.le_of_ble_eq_true rfl⟩, hts _ cw_652⟩ (cx_preS [.int (-(nI w)), .int (nI (k + 1 + sb_dg w)), .ref b0] hPc hKc hDc hN hO hS hFc) rfl rfl hl.1 rfl (lv_room (Nat.le_of_ble_eq_true rfl)) d_Asb_append1_30 ⟨Nat.le_of_ble_eq_true rfl, Nat.le_of_ble_eq_true rfl⟩) (fun r _ H locs z_5 hK1 hP hD hS => ?_)
    subst z_5
    have hP : va_P D classes ([(h0, .inr (7, [.ref b0, .int 0, .int ml, .int (nI k)])), (b0, .inl (kb, 16, .inl (upd (m_gc bt (k + 1) w) k (vp_nar .byte 45))))]) H := hP
    have hD : va_D A ([(h0, .inr (7, [.ref b0, .int 0, .int ml, .int (nI k)])), (b0, .inl (kb, 16, .inl (upd (m_gc bt (k + 1) w) k (vp_nar .byte 45))))]) := hD
    refine lv_pop hx hb d_Asb_append1_33 rfl ?_
    refine lv_goto (tgt := 48) hx hb d_Asb_append1_34 (by decide) ?_
    refine lv_aload_n hx hb d_Asb_append1_48 rfl (lv_at hl 2 rfl) ?_
    refine lv_iload_n hx hb d_Asb_append1_49 rfl (lv_at hl 0 rfl) ?_
    refine va_put (D := D) (ci := 7) (v := .int (nI (k + 1 + sb_dg w))) (ty := .int) (C := R_Sb) (T := T_Sb) (N := 4) hx hb hts in_Sb ty_Sb tyok_Sb nm_Sb hown hK hP hD hS 0 rfl rfl 3 (by decide) (hts _ cw_161) (fun _ h9 => h9) rfl (by decide +kernel) rfl rfl (Nat.le_of_ble_eq_true rfl) d_Asb_append1_50 (fun H locs hP hD hS => ?_)
    have hP : va_P D classes ([(h0, .inr (7, [.ref b0, .int 0, .int ml, .int (nI (k + 1 + sb_dg w))])), (b0, .inl (kb, 16, .inl (upd (m_gc bt (k + 1) w) k (vp_nar .byte 45))))]) H := hP
    have hD : va_D A ([(h0, .inr (7, [.ref b0, .int 0, .int ml, .int (nI (k + 1 + sb_dg w))])), (b0, .inl (kb, 16, .inl (upd (m_gc bt (k + 1) w) k (vp_nar .byte 45))))]) := hD
    refine lv_aload_n hx hb d_Asb_append1_53 rfl (lv_at hl 2 rfl) ?_
    have hP9 := hP.sub (ws' := [(h0, .inr (7, [.ref b0, .int 0, .int ml, .int (nI (k + 1 + sb_dg w))])), (b0, .inl (kb, 16, .inl (upd (m_gc bt (k + 1) w) k (vp_nar .byte 45))))]) [0, 1] rfl
    have hD9 := hD.sub (ws' := [(h0, .inr (7, [.ref b0, .int 0, .int ml, .int (nI (k + 1 + sb_dg w))])), (b0, .inl (kb, 16, .inl (upd (m_gc bt (k + 1) w) k (vp_nar .byte 45))))]) [0, 1] (by decide) rfl
    have hK9 := hK.sub (tys' := [(kb, .byte)]) [0] rfl
    exact W.aret (v := .ref h0) hx hb hr (Or.inl ⟨_, rfl⟩) (Or.inr ⟨_, rfl⟩) (fun t ht hW => ⟨⟨some h0, (), rfl, rfl, by rw [ht]; exact hP9, va_K.moved hW.alike hK9, hD9⟩, hS.F ht⟩) hS.2.2 d_Asb_append1_54

theorem c_Asb_append1 (l : Launch) (D : va_G)  (h0 : Nat) (b0 : Nat) (kb : ClassId) (bt : Nat → Int32) (ml : Int32) (k : Nat) (p0 : Int32) (sz : Nat) (hmin : p0 ≠ -2147483648) (hcap : k + m_len p0 ≤ 16) : Met l y_Asb_append1 ws_Asb_append1 ({ frames := 1, cells := 0, slots := 0, locals := 26 }) (va_Pc [.ref h0, .int p0] (cx_pre D [(kb, .byte)] ([(h0, .inr (7, [.ref b0, .int 0, .int ml, .int (nI k)])), (b0, .inl (kb, 16, .inl bt))]) sz)) (va_Qq (fun r9 _ => r9 = some h0) (fun (_ : Unit) t => cx_end D [(kb, .byte)] (va_A ([(h0, .inr (7, [.ref b0, .int 0, .int ml, .int (nI k)])), (b0, .inl (kb, 16, .inl bt))]) sz) ([(h0, .inr (7, [.ref b0, .int 0, .int ml, .int (nI (k + m_len p0))])), (b0, .inl (kb, 16, .inl (m_app bt k p0)))]) t) (va_A ([(h0, .inr (7, [.ref b0, .int 0, .int ml, .int (nI k)])), (b0, .inl (kb, 16, .inl bt))]) sz)) 0 0 (va_A ([(h0, .inr (7, [.ref b0, .int 0, .int ml, .int (nI k)])), (b0, .inl (kb, 16, .inl bt))]) sz) := by
  by_cases h : p0 < 0
  · obtain ⟨a1, a2, a3⟩ := m_of_neg h hmin
    have e1 : k + m_len p0 = k + 1 + sb_dg (m_wd p0) := by rw [m_len, if_pos h]; omega
    have e2 : m_app bt k p0 = upd (m_gc bt (k + 1) (m_wd p0)) k (vp_nar .byte 45) := if_pos h
    rw [e1] at hcap
    rw [e1, e2]
    have g := c_Asb_append1_m l D h0 b0 kb bt ml k (m_wd p0) sz a2 a1 hcap
    rw [← a3] at g
    exact g
  · obtain ⟨a2, a3⟩ := m_of_pos h
    have e1 : m_len p0 = sb_dg (m_wd p0) := if_neg h
    have e2 : m_app bt k p0 = m_gc bt k (m_wd p0) := if_neg h
    rw [e1] at hcap
    rw [e1, e2]
    have g := c_Asb_append1_p l D h0 b0 kb bt ml k (m_wd p0) sz a2 hcap
    rw [← a3] at g
    exact g

set_option maxHeartbeats 4000000 in
set_option maxRecDepth 100000 in
theorem c_Sb_append1 (l : Launch) (D : va_G)  (h0 : Nat) (b0 : Nat) (kb : ClassId) (bt : Nat → Int32) (ml : Int32) (k : Nat) (p0 : Int32) (sz : Nat) (hmin : p0 ≠ -2147483648) (hcap : k + m_len p0 ≤ 16) : Met l y_Sb_append1 ws_Sb_append1 ({ frames := 2, cells := 0, slots := 0, locals := 49 }) (va_Pc [.ref h0, .int p0] (cx_pre D [(kb, .byte)] ([(h0, .inr (7, [.ref b0, .int 0, .int ml, .int (nI k)])), (b0, .inl (kb, 16, .inl bt))]) sz)) (va_Qq (fun r9 _ => r9 = some h0) (fun (_ : Unit) t => cx_end D [(kb, .byte)] (va_A ([(h0, .inr (7, [.ref b0, .int 0, .int ml, .int (nI k)])), (b0, .inl (kb, 16, .inl bt))]) sz) ([(h0, .inr (7, [.ref b0, .int 0, .int ml, .int (nI (k + m_len p0))])), (b0, .inl (kb, 16, .inl (m_app bt k p0)))]) t) (va_A ([(h0, .inr (7, [.ref b0, .int 0, .int ml, .int (nI k)])), (b0, .inl (kb, 16, .inl bt))]) sz)) 0 0 (va_A ([(h0, .inr (7, [.ref b0, .int 0, .int ml, .int (nI k)])), (b0, .inl (kb, 16, .inl bt))]) sz) := by
  refine Met.ofW (cc := b_Sb_append1) (maxL := 2) (ret := (some (.object "java/lang/StringBuilder"))) (by decide) rfl ?_
  intro p e s m args below meth c s₁ B hml hv
  obtain ⟨rfl, hsz, hP, hK, hD0, hN, hO⟩ := hv
  have hx := B.exec
  have hb := B.bytes
  have hr := B.returns
  have hts := fun (w : Cond) (h : w ∈ cx_tbl) => atoms_spec (ws := ws_Sb_append1) B.pre w (List.mem_cons_of_mem _ h)
  have hown : s.vm.findClass R_Sb = some m.cls := findClass_of_methodNamed B.named
  have hlocks := B.notSynchronized
  subst hsz
  have hD := hD0.self (sz := s.heap.size)
  generalize hAe : va_A ([(h0, .inr (7, [.ref b0, .int 0, .int ml, .int (nI k)])), (b0, .inl (kb, 16, .inl bt))]) s.heap.size = A at hD hO ⊢
  have hA : ∀ q : Nat, s.heap.size ≤ q → A q := fun q h => by rw [← hAe]; exact Or.inr h
  have hS : va_S A s.heap s.heap [] := va_S.rf
  have hl := lv_entry ([.ref h0, .int p0]) (n := 2) (Nat.le_of_ble_eq_true rfl)
  rw [lg_entry_eq]
  generalize (lg_sl ([.ref h0, .int p0]) ++ List.replicate (2 - (lg_sl ([.ref h0, .int p0])).length) Slot.unset).toArray = ls at hl ⊢
  have hl : lv_has ls 2 [(0, .ref h0), (1, .int p0)] := hl
  refine lv_aload_n hx hb d_Sb_append1_0 rfl (lv_at hl 0 rfl) ?_
  refine lv_iload_n hx hb d_Sb_append1_1 rfl (lv_at hl 1 rfl) ?_
  have hPc := hP.sub (ws' := [(h0, .inr (7, [.ref b0, .int 0, .int ml, .int (nI k)])), (b0, .inl (kb, 16, .inl bt))]) [0, 1] rfl
  have hDc := hD.sub (ws' := [(h0, .inr (7, [.ref b0, .int 0, .int ml, .int (nI k)])), (b0, .inl (kb, 16, .inl bt))]) [0, 1] (by decide) rfl
  have hKc := hK.sub (tys' := [(kb, .byte)]) [0] rfl
  have hFc := va_free (wc := [(h0, .inr (7, [.ref b0, .int 0, .int ml, .int (nI k)])), (b0, .inl (kb, 16, .inl bt))]) hD hS hA [0, 1] rfl
  refine cx_joinq (wc := [(h0, .inr (7, [.ref b0, .int 0, .int ml, .int (nI k)])), (b0, .inl (kb, 16, .inl bt))]) (wr := []) hP hD hS hA [0, 1] [] rfl rfl (by decide) (by decide) (va_runSU (As := [.int p0]) (rest := []) (hK.1 7 _ rfl).2 ⟨hx, hb, hml, hown, hts⟩ (c_Asb_append1 l D h0 b0 kb bt ml k p0 s.heap.size (hmin) (hcap)) (cx_cwSU 1 hts cg_Asb_append1 rfl rfl rfl (hts _ cw_645) (hts _ cw_sup) (hts _ cw_646) (hts _ cw_6) (cx_asbNi (hts _ cw_626)) (by decide +kernel) (by decide +kernel) ⟨Nat.le_of_ble_eq_true rfl, Nat.le_of_ble_eq_true rfl⟩) (cx_preV (C := R_Sb) [.int p0] hPc hKc hDc hN hO hS hFc (ci := 7) (q0 := 0) rfl rfl rfl) rfl rfl hl.1 rfl (lv_room (Nat.le_of_ble_eq_true rfl)) d_Sb_append1_2 ⟨Nat.le_of_ble_eq_true rfl, Nat.le_of_ble_eq_true rfl⟩) (fun r _ H locs z_1 hK1 hP hD hS => ?_)
  subst z_1
  have hP : va_P D classes ([(h0, .inr (7, [.ref b0, .int 0, .int ml, .int (nI (k + m_len p0))])), (b0, .inl (kb, 16, .inl (m_app bt k p0)))]) H := hP
  have hD : va_D A ([(h0, .inr (7, [.ref b0, .int 0, .int ml, .int (nI (k + m_len p0))])), (b0, .inl (kb, 16, .inl (m_app bt k p0)))]) := hD
  refine lv_pop hx hb d_Sb_append1_5 rfl ?_
  refine lv_aload_n hx hb d_Sb_append1_6 rfl (lv_at hl 0 rfl) ?_
  have hP9 := hP.sub (ws' := [(h0, .inr (7, [.ref b0, .int 0, .int ml, .int (nI (k + m_len p0))])), (b0, .inl (kb, 16, .inl (m_app bt k p0)))]) [0, 1] rfl
  have hD9 := hD.sub (ws' := [(h0, .inr (7, [.ref b0, .int 0, .int ml, .int (nI (k + m_len p0))])), (b0, .inl (kb, 16, .inl (m_app bt k p0)))]) [0, 1] (by decide) rfl
  have hK9 := hK.sub (tys' := [(kb, .byte)]) [0] rfl
  exact W.aret (v := .ref h0) hx hb hr (Or.inl ⟨_, rfl⟩) (Or.inr ⟨_, rfl⟩) (fun t ht hW => ⟨⟨some h0, (), rfl, rfl, by rw [ht]; exact hP9, va_K.moved hW.alike hK9, hD9⟩, hS.F ht⟩) hS.2.2 d_Sb_append1_7

set_option maxHeartbeats 4000000 in
set_option maxRecDepth 100000 in
theorem c_Asb_length (l : Launch) (D : va_G)  (h0 : Nat) (b0 : Nat) (kb : ClassId) (bt : Nat → Int32) (ml : Int32) (k : Nat) (sz : Nat)  : Met l y_Asb_length ws_Asb_length ({ frames := 0, cells := 0, slots := 0, locals := 0 }) (va_Pc [.ref h0] (cx_pre D [(kb, .byte)] ([(h0, .inr (7, [.ref b0, .int 0, .int ml, .int (nI k)])), (b0, .inl (kb, 16, .inl bt))]) sz)) (vp_Si (fun r9 => r9 = nI k)) 0 0 (fun _ => False) := by
  refine Met.ofW (cc := b_Asb_length) (maxL := 1) (ret := (some .int)) (by decide) rfl ?_
  intro p e s m args below meth c s₁ B hml hv
  obtain ⟨rfl, hsz, hP, hK, hD0, hN, hO⟩ := hv
  have hx := B.exec
  have hb := B.bytes
  have hr := B.returns
  have hts := fun (w : Cond) (h : w ∈ cx_tbl) => atoms_spec (ws := ws_Asb_length) B.pre w (List.mem_cons_of_mem _ h)
  have hown : s.vm.findClass R_Asb = some m.cls := findClass_of_methodNamed B.named
  have hlocks := B.notSynchronized
  subst hsz
  have hD := hD0.self (sz := s.heap.size)
  generalize hAe : va_A ([(h0, .inr (7, [.ref b0, .int 0, .int ml, .int (nI k)])), (b0, .inl (kb, 16, .inl bt))]) s.heap.size = A at hD hO
  have hA : ∀ q : Nat, s.heap.size ≤ q → A q := fun q h => by rw [← hAe]; exact Or.inr h
  have hS : va_S A s.heap s.heap [] := va_S.rf
  have hl := lv_entry ([.ref h0]) (n := 1) (Nat.le_of_ble_eq_true rfl)
  rw [lg_entry_eq]
  generalize (lg_sl ([.ref h0]) ++ List.replicate (1 - (lg_sl ([.ref h0])).length) Slot.unset).toArray = ls at hl ⊢
  have hl : lv_has ls 1 [(0, .ref h0)] := hl
  refine lv_aload_n hx hb d_Asb_length_0 rfl (lv_at hl 0 rfl) ?_
  refine va_get (D := D) (ci := 7) (v := .int (nI k)) (C := R_Sb) (T := T_Sb) (N := 4) hx hb hts in_Sb hown hK hP 0 rfl rfl 3 (by decide) (hts _ cw_161) (fun _ h9 => h9) rfl d_Asb_length_1 ?_
  exact W.iret (v := nI k) hx hb hr (fun t ht hW => ⟨_, rfl, rfl, ht⟩) (fun q h => by cases h) d_Asb_length_4

set_option maxHeartbeats 4000000 in
set_option maxRecDepth 100000 in
theorem c_Sb_length (l : Launch) (D : va_G)  (h0 : Nat) (b0 : Nat) (kb : ClassId) (bt : Nat → Int32) (ml : Int32) (k : Nat) (sz : Nat)  : Met l y_Sb_length ws_Sb_length ({ frames := 1, cells := 0, slots := 0, locals := 20 }) (va_Pc [.ref h0] (cx_pre D [(kb, .byte)] ([(h0, .inr (7, [.ref b0, .int 0, .int ml, .int (nI k)])), (b0, .inl (kb, 16, .inl bt))]) sz)) (vp_Si (fun r9 => r9 = nI k)) 0 0 (fun _ => False) := by
  refine Met.ofW (cc := b_Sb_length) (maxL := 1) (ret := (some .int)) (by decide) rfl ?_
  intro p e s m args below meth c s₁ B hml hv
  obtain ⟨rfl, hsz, hP, hK, hD0, hN, hO⟩ := hv
  have hx := B.exec
  have hb := B.bytes
  have hr := B.returns
  have hts := fun (w : Cond) (h : w ∈ cx_tbl) => atoms_spec (ws := ws_Sb_length) B.pre w (List.mem_cons_of_mem _ h)
  have hown : s.vm.findClass R_Sb = some m.cls := findClass_of_methodNamed B.named
  have hlocks := B.notSynchronized
  subst hsz
  have hD := hD0.self (sz := s.heap.size)
  generalize hAe : va_A ([(h0, .inr (7, [.ref b0, .int 0, .int ml, .int (nI k)])), (b0, .inl (kb, 16, .inl bt))]) s.heap.size = A at hD hO
  have hA : ∀ q : Nat, s.heap.size ≤ q → A q := fun q h => by rw [← hAe]; exact Or.inr h
  have hS : va_S A s.heap s.heap [] := va_S.rf
  have hl := lv_entry ([.ref h0]) (n := 1) (Nat.le_of_ble_eq_true rfl)
  rw [lg_entry_eq]
  generalize (lg_sl ([.ref h0]) ++ List.replicate (1 - (lg_sl ([.ref h0])).length) Slot.unset).toArray = ls at hl ⊢
  have hl : lv_has ls 1 [(0, .ref h0)] := hl
  refine lv_aload_n hx hb d_Sb_length_0 rfl (lv_at hl 0 rfl) ?_
  have hPc := hP.sub (ws' := [(h0, .inr (7, [.ref b0, .int 0, .int ml, .int (nI k)])), (b0, .inl (kb, 16, .inl bt))]) [0, 1] rfl
  have hDc := hD.sub (ws' := [(h0, .inr (7, [.ref b0, .int 0, .int ml, .int (nI k)])), (b0, .inl (kb, 16, .inl bt))]) [0, 1] (by decide) rfl
  have hKc := hK.sub (tys' := [(kb, .byte)]) [0] rfl
  have hFc := va_free (wc := [(h0, .inr (7, [.ref b0, .int 0, .int ml, .int (nI k)])), (b0, .inl (kb, 16, .inl bt))]) hD hS hA [0, 1] rfl
  refine vp_callSi (va_Run.run (va_runSU (As := []) (rest := []) (hK.1 7 _ rfl).2 ⟨hx, hb, hml, hown, hts⟩ (c_Asb_length l D h0 b0 kb bt ml k s.heap.size ) (cx_cwSU 0 hts cg_Asb_length rfl rfl rfl (hts _ cw_714) (hts _ cw_sup) (hts _ cw_715) (hts _ cw_6) (cx_asbNi (hts _ cw_626)) (by decide +kernel) (by decide +kernel) ⟨Nat.le_of_ble_eq_true rfl, Nat.le_of_ble_eq_true rfl⟩) (cx_preV (C := R_Sb) [] hPc hKc hDc hN hO hS hFc (ci := 7) (q0 := 0) rfl rfl rfl) rfl rfl hl.1 rfl (lv_room (Nat.le_of_ble_eq_true rfl)) d_Sb_length_1 ⟨Nat.le_of_ble_eq_true rfl, Nat.le_of_ble_eq_true rfl⟩)) (fun r z_1 => ?_)
  subst z_1
  exact W.iret (v := nI k) hx hb hr (fun t ht hW => ⟨_, rfl, rfl, ht⟩) (fun q h => by cases h) d_Sb_length_4

set_option maxHeartbeats 4000000 in
set_option maxRecDepth 100000 in
theorem c_Asb_charAt (l : Launch) (D : va_G)  (h0 : Nat) (b0 : Nat) (kb : ClassId) (bt : Nat → Int32) (ml : Int32) (k : Nat) (p0 : Int32) (sz : Nat) (hk : k ≤ 16) (hi0 : ¬ p0 < 0) (hi1 : p0 < nI k) : Met l y_Asb_charAt ws_Asb_charAt ({ frames := 2, cells := 0, slots := 0, locals := 43 }) (va_Pc [.ref h0, .int p0] (cx_pre D [(kb, .byte)] ([(h0, .inr (7, [.ref b0, .int 0, .int ml, .int (nI k)])), (b0, .inl (kb, 16, .inl bt))]) sz)) (vp_Si (fun r9 => r9 = m_ch (bt p0.toNatClampNeg))) 0 0 (fun _ => False) := by
  refine Met.ofW (cc := b_Asb_charAt) (maxL := 5) (ret := (some .char)) (by decide) rfl ?_
  intro p e s m args below meth c s₁ B hml hv
  obtain ⟨rfl, hsz, hP, hK, hD0, hN, hO⟩ := hv
  have hx := B.exec
  have hb := B.bytes
  have hr := B.returns
  have hts := fun (w : Cond) (h : w ∈ cx_tbl) => atoms_spec (ws := ws_Asb_charAt) B.pre w (List.mem_cons_of_mem _ h)
  have hown : s.vm.findClass R_Asb = some m.cls := findClass_of_methodNamed B.named
  have hlocks := B.notSynchronized
  subst hsz
  have hD := hD0.self (sz := s.heap.size)
  generalize hAe : va_A ([(h0, .inr (7, [.ref b0, .int 0, .int ml, .int (nI k)])), (b0, .inl (kb, 16, .inl bt))]) s.heap.size = A at hD hO
  have hA : ∀ q : Nat, s.heap.size ≤ q → A q := fun q h => by rw [← hAe]; exact Or.inr h
  have hS : va_S A s.heap s.heap [] := va_S.rf
  have hl := lv_entry ([.ref h0, .int p0]) (n := 5) (Nat.le_of_ble_eq_true rfl)
  rw [lg_entry_eq]
  generalize (lg_sl ([.ref h0, .int p0]) ++ List.replicate (5 - (lg_sl ([.ref h0, .int p0])).length) Slot.unset).toArray = ls at hl ⊢
  have hl : lv_has ls 5 [(0, .ref h0), (1, .int p0)] := hl
  refine lv_aload_n hx hb d_Asb_charAt_0 rfl (lv_at hl 0 rfl) ?_
  refine va_get (D := D) (ci := 7) (v := .int 0) (C := R_Sb) (T := T_Sb) (N := 4) hx hb hts in_Sb hown hK hP 0 rfl rfl 1 (by decide) (hts _ cw_159) (fun _ h9 => h9) rfl d_Asb_charAt_1 ?_
  refine lv_istore_n (lv' := [(2, .int 0), (0, .ref h0), (1, .int p0)]) hx hb d_Asb_charAt_4 rfl hl (by decide) rfl (fun ls hl => ?_)
  refine lv_aload_n hx hb d_Asb_charAt_5 rfl (lv_at hl 1 rfl) ?_
  refine va_get (D := D) (ci := 7) (v := .ref b0) (C := R_Sb) (T := T_Sb) (N := 4) hx hb hts in_Sb hown hK hP 0 rfl rfl 0 (by decide) (hts _ cw_158) (fun _ h9 => h9) rfl d_Asb_charAt_6 ?_
  refine lv_astore_n (lv' := [(3, .ref b0), (2, .int 0), (0, .ref h0), (1, .int p0)]) hx hb d_Asb_charAt_9 rfl hl (by decide) rfl (fun ls hl => ?_)
  refine lv_aload_n hx hb d_Asb_charAt_10 rfl (lv_at hl 2 rfl) ?_
  refine va_get (D := D) (ci := 7) (v := .int (nI k)) (C := R_Sb) (T := T_Sb) (N := 4) hx hb hts in_Sb hown hK hP 0 rfl rfl 3 (by decide) (hts _ cw_161) (fun _ h9 => h9) rfl d_Asb_charAt_11 ?_
  refine lv_aload_n hx hb d_Asb_charAt_14 rfl (lv_at hl 0 rfl) ?_
  refine va_alen (v := 16) hx hb hK hP 1 0 rfl rfl rfl d_Asb_charAt_15 ?_
  refine lv_iload_n hx hb d_Asb_charAt_16 rfl (lv_at hl 1 rfl) ?_
  refine lv_ishr hx hb d_Asb_charAt_17 ?_
  refine va_mmin hx hb (by rw [hml]; exact hl.1.symm) hown (hts _ cw_724) (hts _ cw_576) (hts _ cw_12) (hts _ cw_577) (Nat.le_of_ble_eq_true rfl) (Nat.le_of_ble_eq_true rfl) (Nat.le_of_ble_eq_true rfl) (Nat.le_of_ble_eq_true rfl) d_Asb_charAt_18 ?_
  refine lv_istore (lv' := [(4, .int (m_min (nI k) ((16 : Int32) >>> ((0 : Int32) &&& 31)))), (3, .ref b0), (2, .int 0), (0, .ref h0), (1, .int p0)]) hx hb d_Asb_charAt_21 hl (by decide) rfl (fun ls hl => ?_)
  refine lv_iload_n hx hb d_Asb_charAt_23 rfl (lv_at hl 4 rfl) ?_
  refine lv_iload hx hb d_Asb_charAt_24 (lv_at hl 0 rfl) ?_
  have hPc := hP.sub (ws' := []) [] rfl
  have hDc := hD.sub (ws' := []) [] (by decide) rfl
  have hKc := hK.sub (tys' := []) [] rfl
  have hFc := va_free (wc := []) hD hS hA [] rfl
  refine va_csv (va_Run.run (va_runS (As := [.int p0, .int (m_min (nI k) ((16 : Int32) >>> ((0 : Int32) &&& 31)))]) (rest := [])  ⟨hx, hb, hml, hown, hts⟩ (c_Str_checkIndex l D p0 (m_min (nI k) ((16 : Int32) >>> ((0 : Int32) &&& 31))) s.heap.size (hi0) (m_minIx hk hi1)) ⟨callB_of 2 hts cg_JString_checkIndex rfl rfl rfl (hts _ cw_8) (hts _ cw_725) (by decide +kernel) ⟨Nat.le_of_ble_eq_true rfl, Nat.le_of_ble_eq_true rfl⟩, hts _ cw_405⟩ (cx_preS [.int p0, .int (m_min (nI k) ((16 : Int32) >>> ((0 : Int32) &&& 31)))] hPc hKc hDc hN hO hS hFc) rfl rfl hl.1 rfl (lv_room (Nat.le_of_ble_eq_true rfl)) d_Asb_charAt_26 ⟨Nat.le_of_ble_eq_true rfl, Nat.le_of_ble_eq_true rfl⟩)) (fun _ => ?_)
  refine lv_iload_n hx hb d_Asb_charAt_29 rfl (lv_at hl 2 rfl) ?_
  refine lv_if_ne (tgt := 42) hx hb d_Asb_charAt_30 (by decide) (fun c_2 => ?_) (fun c_2 => ?_)
  · exact absurd c_2 (by decide)
  · refine lv_aload_n hx hb d_Asb_charAt_33 rfl (lv_at hl 1 rfl) ?_
    refine lv_iload_n hx hb d_Asb_charAt_34 rfl (lv_at hl 4 rfl) ?_
    refine va_bald hx hb hK hP 1 0 rfl rfl (m_ixk hk hi0 hi1) d_Asb_charAt_35 ?_
    refine lv_sipush (v := 255) hx hb d_Asb_charAt_36 (by decide) ?_
    refine lv_iand hx hb d_Asb_charAt_39 ?_
    refine lv_i2c hx hb d_Asb_charAt_40 rfl ?_
    exact W.zret (v := (((bt p0.toNatClampNeg) &&& 255).toUInt32 % 65536).toInt32) hx hb hr (pk_nc _) (fun t ht hW => ⟨_, rfl, rfl, ht⟩) (fun q h => by cases h) d_Asb_charAt_41

set_option maxHeartbeats 4000000 in
set_option maxRecDepth 100000 in
theorem c_Sb_charAt (l : Launch) (D : va_G)  (h0 : Nat) (b0 : Nat) (kb : ClassId) (bt : Nat → Int32) (ml : Int32) (k : Nat) (p0 : Int32) (sz : Nat) (hk : k ≤ 16) (hi0 : ¬ p0 < 0) (hi1 : p0 < nI k) : Met l y_Sb_charAt ws_Sb_charAt ({ frames := 3, cells := 0, slots := 0, locals := 67 }) (va_Pc [.ref h0, .int p0] (cx_pre D [(kb, .byte)] ([(h0, .inr (7, [.ref b0, .int 0, .int ml, .int (nI k)])), (b0, .inl (kb, 16, .inl bt))]) sz)) (vp_Si (fun r9 => r9 = m_ch (bt p0.toNatClampNeg))) 0 0 (fun _ => False) := by
  refine Met.ofW (cc := b_Sb_charAt) (maxL := 2) (ret := (some .char)) (by decide) rfl ?_
  intro p e s m args below meth c s₁ B hml hv
  obtain ⟨rfl, hsz, hP, hK, hD0, hN, hO⟩ := hv
  have hx := B.exec
  have hb := B.bytes
  have hr := B.returns
  have hts := fun (w : Cond) (h : w ∈ cx_tbl) => atoms_spec (ws := ws_Sb_charAt) B.pre w (List.mem_cons_of_mem _ h)
  have hown : s.vm.findClass R_Sb = some m.cls := findClass_of_methodNamed B.named
  have hlocks := B.notSynchronized
  subst hsz
  have hD := hD0.self (sz := s.heap.size)
  generalize hAe : va_A ([(h0, .inr (7, [.ref b0, .int 0, .int ml, .int (nI k)])), (b0, .inl (kb, 16, .inl bt))]) s.heap.size = A at hD hO
  have hA : ∀ q : Nat, s.heap.size ≤ q → A q := fun q h => by rw [← hAe]; exact Or.inr h
  have hS : va_S A s.heap s.heap [] := va_S.rf
  have hl := lv_entry ([.ref h0, .int p0]) (n := 2) (Nat.le_of_ble_eq_true rfl)
  rw [lg_entry_eq]
  generalize (lg_sl ([.ref h0, .int p0]) ++ List.replicate (2 - (lg_sl ([.ref h0, .int p0])).length) Slot.unset).toArray = ls at hl ⊢
  have hl : lv_has ls 2 [(0, .ref h0), (1, .int p0)] := hl
  refine lv_aload_n hx hb d_Sb_charAt_0 rfl (lv_at hl 0 rfl) ?_
  refine lv_iload_n hx hb d_Sb_charAt_1 rfl (lv_at hl 1 rfl) ?_
  have hPc := hP.sub (ws' := [(h0, .inr (7, [.ref b0, .int 0, .int ml, .int (nI k)])), (b0, .inl (kb, 16, .inl bt))]) [0, 1] rfl
  have hDc := hD.sub (ws' := [(h0, .inr (7, [.ref b0, .int 0, .int ml, .int (nI k)])), (b0, .inl (kb, 16, .inl bt))]) [0, 1] (by decide) rfl
  have hKc := hK.sub (tys' := [(kb, .byte)]) [0] rfl
  have hFc := va_free (wc := [(h0, .inr (7, [.ref b0, .int 0, .int ml, .int (nI k)])), (b0, .inl (kb, 16, .inl bt))]) hD hS hA [0, 1] rfl
  refine vp_callSi (va_Run.run (va_runSU (As := [.int p0]) (rest := []) (hK.1 7 _ rfl).2 ⟨hx, hb, hml, hown, hts⟩ (c_Asb_charAt l D h0 b0 kb bt ml k p0 s.heap.size (hk) (hi0) (hi1)) (cx_cwSU 1 hts cg_Asb_charAt rfl rfl rfl (hts _ cw_721) (hts _ cw_sup) (hts _ cw_722) (hts _ cw_6) (cx_asbNi (hts _ cw_626)) (by decide +kernel) (by decide +kernel) ⟨Nat.le_of_ble_eq_true rfl, Nat.le_of_ble_eq_true rfl⟩) (cx_preV (C := R_Sb) [.int p0] hPc hKc hDc hN hO hS hFc (ci := 7) (q0 := 0) rfl rfl rfl) rfl rfl hl.1 rfl (lv_room (Nat.le_of_ble_eq_true rfl)) d_Sb_charAt_2 ⟨Nat.le_of_ble_eq_true rfl, Nat.le_of_ble_eq_true rfl⟩)) (fun r z_1 => ?_)
  subst z_1
  exact W.zret (v := m_ch (bt p0.toNatClampNeg)) hx hb hr (m_ch_nar _) (fun t ht hW => ⟨_, rfl, rfl, ht⟩) (fun q h => by cases h) d_Sb_charAt_5
