-- StringBuilder as record() uses it: words that follow from the tables, digits as functions
theorem cw_170 : (.superclass "java/lang/StringBuilder" "java/lang/AbstractStringBuilder" : Cond) ∈ cx_tbl := cx_inw 204 (by decide +kernel) (by decide +kernel)
theorem cx_asbNi {args : Array Value} {s : State} (h : (Cond.selects "java/lang/StringBuilder" ⟨"java/lang/AbstractStringBuilder", "isLatin1", "()Z"⟩ ⟨"java/lang/AbstractStringBuilder", "isLatin1", "()Z"⟩).before args s = true) : ∃ (c : ClassId) (k : Class), s.vm.findClass "java/lang/AbstractStringBuilder" = some c ∧ s.vm.classes[c]? = some k ∧ k.isInterface = false := by
  obtain ⟨c, r, m, h1, h2, h3, h4, mk, h5, h6⟩ := Cond.selects_spec h
  exact ⟨m.cls, mk, findClass_of_methodNamed h3, h5, h6⟩
theorem cx_same {args : Array Value} {s : State} {y : MethodName} (hy : y.cls ≠ "java/lang/invoke/MethodHandle" ∧ y.cls ≠ "java/lang/invoke/VarHandle") (hinst : (Cond.instanceMethod y).before args s = true) (hni : ∃ (c : ClassId) (k : Class), s.vm.findClass y.cls = some c ∧ s.vm.classes[c]? = some k ∧ k.isInterface = false) : (Cond.sameMethod y.cls y.cls y.name y.desc).before args s = true := by
  obtain ⟨c, k, h1, h2, h3⟩ := hni
  obtain ⟨mk, methM, hnamed, hmethM, -, -⟩ := Cond.instanceMethod_spec hinst
  have hfound := State.methodFound?_of_named hnamed hy
  have hn : s.methodNamed? ⟨y.cls, y.name, y.desc⟩ = some mk := hnamed
  simp [Cond.before, Cond.holds, Cond.value, h1, h2, h3, hfound, hn]
theorem cx_selP {args : Array Value} {s : State} {y : MethodName} {C : String} {cC : ClassId} (hy : y.cls ≠ "java/lang/invoke/MethodHandle" ∧ y.cls ≠ "java/lang/invoke/VarHandle") (hat : ClassAt s C cC) (hpriv : (Cond.privateMethod y).before args s = true) (hinst : (Cond.instanceMethod y).before args s = true) (hni : ∃ (c : ClassId) (k : Class), s.vm.findClass y.cls = some c ∧ s.vm.classes[c]? = some k ∧ k.isInterface = false) : (Cond.selects C y y).before args s = true := by
  obtain ⟨c, k, h1, h2, h3⟩ := hni
  obtain ⟨mk, methM, hnamed, hmethM, -, -⟩ := Cond.instanceMethod_spec hinst
  have hfound := State.methodFound?_of_named hnamed hy
  have hcls : mk.cls = c := Option.some.inj ((findClass_of_methodNamed hnamed).symm.trans h1)
  have hsel : selectMethod {} s.vm cC mk = .method mk := selectMethod_private hmethM (Cond.privateMethod_at hpriv mk methM hnamed hmethM)
  simp [Cond.before, Cond.holds, Cond.value, hat.1, hfound, hnamed, hsel, hcls, h2, h3]
theorem cx_cwSU {R : Room} {args : Array Value} {s : State} {own : String} {index maxL mc ms : Nat} {y : MethodName} {bytes : ByteArray} {ret : Option FieldType} {Ts ws ws' : List Cond} {rm : Room} (n : Nat) (ht : ∀ w ∈ Ts, w.before args s = true) (hG : GoodIn Ts ws) (hw : ws = Cond.code y bytes maxL ret :: ws') (hrc : rm.cells = mc) (hrs : rm.slots = ms)
    (hlink : (Cond.methodLink own index y).before args s = true) (hsup : (Cond.superclass own y.cls).before args s = true) (hinst : (Cond.instanceMethod y).before args s = true) (hini : (Cond.initialized y.cls).before args s = true) (hni : ∃ (c : ClassId) (k : Class), s.vm.findClass y.cls = some c ∧ s.vm.classes[c]? = some k ∧ k.isInterface = false)
    (hy : y.cls ≠ "java/lang/invoke/MethodHandle" ∧ y.cls ≠ "java/lang/invoke/VarHandle") (hd : y.name ≠ "<init>" ∧ (parseMethodDescriptor y.desc).map (fun d => d.parameters.length) = some n) (hR : rm.frames + 1 ≤ R.frames ∧ 8 + (maxL + 11) + rm.locals ≤ R.locals) : va_CS R s args own index y bytes maxL ret ws rm mc ms n := by
  have hc : Cond.code y bytes maxL ret ∈ ws := by rw [hw]; exact List.mem_cons_self
  refine ⟨⟨hrc, hrs, hR.1, hR.2, pay_in ht hG, hc⟩, hlink, cx_same hy hinst hni, hsup, hinst, hini, ht _ (hG _ hc).1, hd.1, fun sig h => ?_⟩
  have h2 := hd.2
  rw [h] at h2
  exact (Option.some.inj h2).symm
theorem cx_cap {k : Nat} (h : k ≤ 16) : nI k - ((16 : Int32) >>> ((0 : Int32) &&& 31)) ≤ 0 := by
  rw [sb_shr0, Int32.le_iff_toInt_le, show (16 : Int32) = nI 16 from rfl, pk_sub_toInt (by omega) (by omega)]
  simp
  omega
theorem m_dgAt {i v : Nat} (h1 : 1 ≤ i) (h : i = 1 ∨ 10 ^ (i - 1) ≤ v) (h2 : i = 10 ∨ v < 10 ^ i) (h3 : i ≤ 10) : sb_dg v = i := by
  have : i = 1 ∨ i = 2 ∨ i = 3 ∨ i = 4 ∨ i = 5 ∨ i = 6 ∨ i = 7 ∨ i = 8 ∨ i = 9 ∨ i = 10 := by omega
  rcases this with rfl | rfl | rfl | rfl | rfl | rfl | rfl | rfl | rfl | rfl <;> simp at h h2 <;> unfold sb_dg <;> (repeat' split) <;> omega
theorem m_p10 (i : Nat) : (10 : Int32) * (-(nI (10 ^ i))) = -(nI (10 ^ (i + 1))) := by
  rw [Int32.mul_neg, Nat.pow_succ, Nat.mul_comm]
  congr 1
  show nI 10 * nI (10 ^ i) = _
  exact (Int32.ofNat_mul 10 (10 ^ i)).symm
theorem m_n100 {v : Nat} (hv : v < 2 ^ 31) (h : ¬ (-100 : Int32) < -(nI v)) : 100 ≤ v := by
  rcases Nat.lt_or_ge v 100 with q | q
  · exact absurd ((sb_nlt (a := 100) (by decide) hv).mpr q) h
  · exact q
theorem m_l100 {v : Nat} (hv : v < 2 ^ 31) (h : (-100 : Int32) < -(nI v)) : v < 100 := (sb_nlt (a := 100) (by decide) hv).mp h
theorem m_n9 {v : Nat} (hv : v < 2 ^ 31) (h : ¬ (-9 : Int32) ≤ -(nI v)) : 10 ≤ v := by
  rcases Nat.lt_or_ge v 10 with q | q
  · exact absurd ((sb_nle (a := 9) (by decide) hv).mpr (by omega)) h
  · exact q
theorem m_l9 {v : Nat} (hv : v < 2 ^ 31) (h : (-9 : Int32) ≤ -(nI v)) : v < 10 := by
  have := (sb_nle (a := 9) (by decide) hv).mp h
  omega
/-- w's decimal digits, laid from n on -/
def m_gc (a : Nat → Int32) (n w : Nat) : Nat → Int32 := fun j => if n ≤ j ∧ j < n + sb_dg w then sb_b (48 + w / 10 ^ (n + sb_dg w - 1 - j) % 10) else a j
theorem m_nb (c : Nat) : vp_nar .byte (nI c) = sb_b c := vp_nar_byte _
theorem m_gc1 {a : Nat → Int32} {n v : Nat} (h : v < 10) (hc : n + sb_dg v ≤ 16) : m_gc a n v = upd a (nI (n + sb_dg v - 1)).toNatClampNeg (vp_nar .byte (nI (48 + (nI v).toNatClampNeg % 10))) := by
  have hd : sb_dg v = 1 := if_pos h
  rw [nI_clamp (by omega), nI_clamp (by omega), m_nb]
  funext j
  unfold m_gc
  by_cases e : j = n
  · subst e
    rw [if_pos (by omega), show j + sb_dg v - 1 = j by omega, pk_us, show j - j = 0 by omega, Nat.pow_zero, Nat.div_one]
  · rw [if_neg (by omega), pk_un (by omega)]
theorem m_gc2 {a : Nat → Int32} {n v : Nat} (h : 10 ≤ v) (h2 : v < 100) (hc : n + sb_dg v ≤ 16) : m_gc a n v = upd (upd a (nI (n + sb_dg v - 1)).toNatClampNeg (vp_nar .byte (nI (48 + (nI v).toNatClampNeg % 10)))) (nI (n + sb_dg v - 1 - 1)).toNatClampNeg (vp_nar .byte (nI (48 + (nI v).toNatClampNeg / 10))) := by
  have hd : sb_dg v = 2 := by rw [sb_dg, if_neg (by omega), if_pos h2]
  rw [nI_clamp (by omega), nI_clamp (by omega), nI_clamp (by omega), m_nb, m_nb]
  funext j
  unfold m_gc
  by_cases e : j = n
  · subst e
    rw [if_pos (by omega), show j + sb_dg v - 1 - 1 = j by omega, pk_us, show j + sb_dg v - 1 - j = 1 by omega, Nat.pow_one, show v / 10 % 10 = v / 10 by omega]
  · by_cases e2 : j = n + 1
    · subst e2
      rw [if_pos (by omega), pk_un (by omega), show n + sb_dg v - 1 = n + 1 by omega, pk_us, Nat.sub_self, Nat.pow_zero, Nat.div_one]
    · rw [if_neg (by omega), pk_un (by omega), pk_un (by omega)]
theorem m_gcs {a : Nat → Int32} {n v : Nat} (h : 100 ≤ v) (hv : v < 2 ^ 31) (hc : n + sb_dg v ≤ 16) : m_gc a n v = m_gc (upd (upd a (nI (n + sb_dg v - 1)).toNatClampNeg (vp_nar .byte (nI (48 + (nI (v % 100)).toNatClampNeg % 10)))) (nI (n + sb_dg v - 1 - 1)).toNatClampNeg (vp_nar .byte (nI (48 + (nI (v % 100)).toNatClampNeg / 10)))) n (v / 100) := by
  have hd := sb_dg100 h hv
  have hd2 := (sb_dg_in (v / 100)).1
  rw [nI_clamp (by omega), nI_clamp (by omega), nI_clamp (by omega), m_nb, m_nb]
  funext j
  unfold m_gc
  by_cases e1 : j = n + sb_dg v - 1
  · rw [if_pos (by omega), if_neg (by omega), pk_un (by omega), e1, pk_us, Nat.sub_self, Nat.pow_zero, Nat.div_one, show v % 100 % 10 = v % 10 by omega]
  · by_cases e2 : j = n + sb_dg v - 1 - 1
    · rw [if_pos (by omega), if_neg (by omega), e2, pk_us, show n + sb_dg v - 1 - (n + sb_dg v - 1 - 1) = 1 by omega, Nat.pow_one, show v % 100 / 10 = v / 10 % 10 by omega]
    · by_cases e3 : n ≤ j ∧ j < n + sb_dg (v / 100)
      · rw [if_pos (by omega), if_pos e3, show n + sb_dg v - 1 - j = (n + sb_dg (v / 100) - 1 - j) + 2 by omega, Nat.div_div_eq_div_mul, Nat.pow_add, Nat.mul_comm (10 ^ _)]
      · rw [if_neg (by omega), if_neg e3, pk_un e2, pk_un e1]
/-- how many letters an int has, and its letters laid from k on -/
def m_wd (x : Int32) : Nat := x.toInt.natAbs
def m_len (x : Int32) : Nat := if x < 0 then sb_dg (m_wd x) + 1 else sb_dg (m_wd x)
def m_app (bt : Nat → Int32) (k : Nat) (x : Int32) : Nat → Int32 := if x < 0 then upd (m_gc bt (k + 1) (m_wd x)) k (vp_nar .byte 45) else m_gc bt k (m_wd x)
theorem m_of_neg {x : Int32} (h : x < 0) (hm : x ≠ -2147483648) : 0 < m_wd x ∧ m_wd x < 2 ^ 31 ∧ x = -(nI (m_wd x)) := by
  have h1 : x.toInt < 0 := by simpa [Int32.lt_iff_toInt_lt] using h
  have h2 := Int32.le_toInt x
  have h3 : x.toInt ≠ -2147483648 := fun e => hm (Int32.toInt_inj.mp (by rw [e]; decide))
  have h4 : m_wd x < 2 ^ 31 := by unfold m_wd; omega
  refine ⟨by unfold m_wd; omega, h4, Int32.toInt_inj.mp ?_⟩
  rw [sb_negT h4]
  unfold m_wd
  omega
theorem m_of_pos {x : Int32} (h : ¬ x < 0) : m_wd x < 2 ^ 31 ∧ x = nI (m_wd x) := by
  have h1 : ¬ x.toInt < 0 := by simpa [Int32.lt_iff_toInt_lt] using h
  have h2 := Int32.toInt_lt x
  have h4 : m_wd x < 2 ^ 31 := by unfold m_wd; omega
  refine ⟨h4, Int32.toInt_inj.mp ?_⟩
  rw [nI_toInt h4]
  unfold m_wd
  omega
