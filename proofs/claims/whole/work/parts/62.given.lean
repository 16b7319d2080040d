-- both sides as they are made
def w_ce : Nat → CeT := fun _ => (0, 0, 0, 0, 0, 0, 0, 0, 0, 0, 0, 0)
theorem w_s1 : r_cells 0 0 0 (fun _ => none) [] w_ce (fun _ => 0) (fun _ => 0) (fun _ => 0) (fun _ => 0) (fun _ => 0) (fun _ => 0) (fun _ => 0) (fun _ => 0) :=
  ⟨Nat.zero_le _, rfl, rfl, List.nodup_nil, fun i h => absurd h (Nat.not_lt_zero _), fun i j h => absurd h (Nat.not_lt_zero _), fun i _ _ => ⟨rfl, rfl, rfl⟩,
   ⟨fun i _ => ⟨show ¬ (0 : Int32) < 0 by decide, show (0 : Int32) ≤ 100000 by decide⟩, fun i _ => ⟨show ¬ (0 : Int32) < (-100000) by decide, show (0 : Int32) ≤ 100000 by decide⟩, fun i _ => ⟨show ¬ (0 : Int32) < 0 by decide, show (0 : Int32) ≤ 10000 by decide⟩, fun i _ => ⟨show ¬ (0 : Int32) < 0 by decide, show (0 : Int32) ≤ 10000 by decide⟩⟩,
   fun c i j _ _ h => absurd h (show ¬ j < (0 : Int32).toNatClampNeg from Nat.not_lt_zero _), fun i _ => ⟨show ¬ (0 : Int32) < 0 by decide, show (0 : Int32) ≤ 100000 by decide⟩⟩
theorem w_s2 : r_text (fun _ => 0) 0 (fun _ => 0) 0 := w_text0 _ _
theorem w_s3 : r_rules (fun _ => 0) (fun _ => 0) (fun _ => 0) (fun _ => 0) (fun _ => 0) 0 0 (fun _ => 0) (fun _ => 0) (fun _ => 0) :=
  ⟨fun i _ => ⟨show ¬ (0 : Int32) < 0 by decide, show (0 : Int32) ≤ 200 by decide⟩, 0, fun _ => 0, Nat.zero_le _, rfl, rfl, rfl, fun i h => absurd h (Nat.not_lt_zero _), Nat.zero_le _, fun i _ => rfl, fun i h => absurd h (Nat.not_lt_zero _), fun j h => absurd h (Nat.not_lt_zero _)⟩
theorem w_s4 : r_packs 0 (m_fill8 9 0 (fun _ => 0)) (m_fill8 9 0 (fun _ => 0)) := fun j hj => ⟨rfl, fun _ => by rw [q_fill 9 0 _ (by omega) (by omega) j, if_pos ⟨Nat.zero_le _, hj⟩]⟩
theorem w_s5 : r_fade (fun _ => 0) (fun _ => 0) 0 0 (fun _ => 0) (fun _ => 0) := ⟨0, Nat.zero_le _, rfl, rfl, fun j h => absurd h (Nat.not_lt_zero _), fun i j _ h => absurd h (Nat.not_lt_zero _)⟩
theorem lw_inl {w : Cond} (h : w ∈ cx_tbl) : w ∈ lw_tbl ∨ w = cx_sel := (List.mem_append.mp (List.mem_filter.mp h).1).imp id List.mem_singleton.mp
theorem lw_sb : ∀ w ∈ u_ws R_Sb T_Sb 4, w ∈ lw_tbl := fun w hw => (lw_inl (in_Sb w hw)).elim id (fun h => absurd (h ▸ hw) (by decide +kernel))
theorem lw_ts {s : State} {args : Array Value} (hts : ∀ w ∈ lw_tbl, w.before args s = true) : ∀ w ∈ cx_tbl, w.before args s = true := by
  intro w hw
  rcases lw_inl hw with h | h
  · exact hts w h
  · rw [h]
    obtain ⟨cC, iS, hK⟩ := u_known (C := R_Sb) (T := T_Sb) (N := 4) (n := 4) hts lw_sb (hts _ (List.mem_of_getElem? (show lw_tbl[174]? = some (.instantiable "java/lang/StringBuilder" (4 : Nat)) by decide +kernel)))
    exact cx_selP (by decide) hK.2 (hts _ (List.mem_of_getElem? (show lw_tbl[626]? = some (.privateMethod ({ cls := "java/lang/AbstractStringBuilder", name := "ensureCapacityInternal", desc := "(I)V" } : MethodName)) by decide +kernel))) (hts _ (List.mem_of_getElem? (show lw_tbl[627]? = some (.instanceMethod ({ cls := "java/lang/AbstractStringBuilder", name := "ensureCapacityInternal", desc := "(I)V" } : MethodName)) by decide +kernel))) (cx_asbNi (hts _ (List.mem_of_getElem? (show lw_tbl[659]? = some (.selects "java/lang/StringBuilder" ({ cls := "java/lang/AbstractStringBuilder", name := "isLatin1", desc := "()Z" } : MethodName) ({ cls := "java/lang/AbstractStringBuilder", name := "isLatin1", desc := "()Z" } : MethodName)) by decide +kernel))))
theorem lw_lDigitTens : ((flatC (Jvm.Cond.and given_1 narrow_1)).drop 115).take 100 = (List.range 100).map (fun j => Cond.eq (.elem (.static "java/lang/Integer" "DigitTens" "[B") (.int (Int32.ofNat j))) (.int (nI (48 + j / 10)))) := by decide +kernel
theorem lw_DigitTens {b : Nat} {s : State} (hg : ∀ w ∈ flatC (Jvm.Cond.and given_1 narrow_1), w.before #[Value.ref b] s = true) : ∀ j : Nat, j < 100 → (Term.elem (.static "java/lang/Integer" "DigitTens" "[B") (.int (Int32.ofNat j))).eval #[Value.ref b] s none [] s = some (.int (nI (48 + j / 10))) := by
  intro j hj
  have hm : (Cond.eq (.elem (.static "java/lang/Integer" "DigitTens" "[B") (.int (Int32.ofNat j))) (.int (nI (48 + j / 10)))) ∈ (List.range 100).map (fun j => Cond.eq (.elem (.static "java/lang/Integer" "DigitTens" "[B") (.int (Int32.ofNat j))) (.int (nI (48 + j / 10)))) := List.mem_map.mpr ⟨j, List.mem_range.mpr hj, rfl⟩
  rw [← lw_lDigitTens] at hm
  exact va_eqv (hg _ (List.mem_of_mem_drop (List.mem_of_mem_take hm))) rfl
theorem lw_lDigitOnes : ((flatC (Jvm.Cond.and given_1 narrow_1)).drop 12).take 100 = (List.range 100).map (fun j => Cond.eq (.elem (.static "java/lang/Integer" "DigitOnes" "[B") (.int (Int32.ofNat j))) (.int (nI (48 + j % 10)))) := by decide +kernel
theorem lw_DigitOnes {b : Nat} {s : State} (hg : ∀ w ∈ flatC (Jvm.Cond.and given_1 narrow_1), w.before #[Value.ref b] s = true) : ∀ j : Nat, j < 100 → (Term.elem (.static "java/lang/Integer" "DigitOnes" "[B") (.int (Int32.ofNat j))).eval #[Value.ref b] s none [] s = some (.int (nI (48 + j % 10))) := by
  intro j hj
  have hm : (Cond.eq (.elem (.static "java/lang/Integer" "DigitOnes" "[B") (.int (Int32.ofNat j))) (.int (nI (48 + j % 10)))) ∈ (List.range 100).map (fun j => Cond.eq (.elem (.static "java/lang/Integer" "DigitOnes" "[B") (.int (Int32.ofNat j))) (.int (nI (48 + j % 10)))) := List.mem_map.mpr ⟨j, List.mem_range.mpr hj, rfl⟩
  rw [← lw_lDigitOnes] at hm
  exact va_eqv (hg _ (List.mem_of_mem_drop (List.mem_of_mem_take hm))) rfl
theorem lw_O {b : Nat} {s : State} {A : Nat → Prop} (hA9 : ∀ a : Nat, a < s.heap.size → ¬ A a) (hts0 : ∀ w ∈ lw_tbl, w.before #[Value.ref b] s = true) (hg : ∀ w ∈ flatC (Jvm.Cond.and given_1 narrow_1), w.before #[Value.ref b] s = true) :
    ∃ t0 t1 t2 t3 : Nat, ∀ D : va_G, D.2 100 0 = t0 → D.2 100 1 = t1 → D.2 100 2 = t2 → D.2 100 3 = t3 → cx_O D A s s.heap := by
  have hZ1 : va_Z "java/lang/String" "COMPACT_STRINGS" "Z" (.int 1) A s s.heap := va_Zof (hts0 _ (List.mem_of_getElem? (show lw_tbl[183]? = some (.laysStatic "java/lang/String" "COMPACT_STRINGS" "Z") by decide +kernel))) (hts0 _ (List.mem_of_getElem? (show lw_tbl[41]? = some (.initialized "java/lang/String") by decide +kernel))) (va_eqi (hg (Cond.eq (.static "java/lang/String" "COMPACT_STRINGS" "Z") (.int 1)) (List.mem_of_getElem? (i := 4) (by decide +kernel)))) hA9
  have hZ2 : va_Zq "jdk/internal/util/Preconditions" "SIOOBE_FORMATTER" "Ljava/util/function/BiFunction;" A s s.heap := va_Zqof (hts0 _ (List.mem_of_getElem? (show lw_tbl[441]? = some (.laysStatic "jdk/internal/util/Preconditions" "SIOOBE_FORMATTER" "Ljava/util/function/BiFunction;") by decide +kernel))) (hts0 _ (List.mem_of_getElem? (show lw_tbl[47]? = some (.initialized "jdk/internal/util/Preconditions") by decide +kernel))) (hg (Cond.isRef (.static "jdk/internal/util/Preconditions" "SIOOBE_FORMATTER" "Ljava/util/function/BiFunction;")) (List.mem_of_getElem? (i := 5) (by decide +kernel))) hA9
  obtain ⟨adK, adV, hSt, hEv⟩ := vk_Sof (args := #[Value.ref b]) (s := s) (A := A) (tm := fun _ => .string "CellTests$RuleText" 90) (len := [5]) (byt := [[99, 108, 97, 115, 115]]) (N := 1) (fun i hi => by revert i hi; decide) (fun i hi => hg (Cond.exactly (.string "CellTests$RuleText" 90) "java/lang/String") (List.mem_of_getElem? (i := 215) (by decide +kernel))) (fun i hi => hg (Cond.eq (.field (.string "CellTests$RuleText" 90) "java/lang/String" "coder" "B") (.int 0)) (List.mem_of_getElem? (i := 216) (by decide +kernel))) (fun i hi => hg (Cond.arrayOf (.field (.string "CellTests$RuleText" 90) "java/lang/String" "value" "[B") .byte) (List.mem_of_getElem? (i := 217) (by decide +kernel)))
    (fun i hi => by obtain rfl : i = 0 := by omega
                    exact hg (Cond.eq (.length (.field (.string "CellTests$RuleText" 90) "java/lang/String" "value" "[B")) (.int 5)) (List.mem_of_getElem? (i := 218) (by decide +kernel)))
    (fun i hi => by obtain rfl : i = 0 := by omega
                    exact fun j hj => match j, hj with
                      | 0, _ => hg (Cond.eq (.elem (.field (.string "CellTests$RuleText" 90) "java/lang/String" "value" "[B") (.int 0)) (.int 99)) (List.mem_of_getElem? (i := 219) (by decide +kernel))
                      | 1, _ => hg (Cond.eq (.elem (.field (.string "CellTests$RuleText" 90) "java/lang/String" "value" "[B") (.int 1)) (.int 108)) (List.mem_of_getElem? (i := 220) (by decide +kernel))
                      | 2, _ => hg (Cond.eq (.elem (.field (.string "CellTests$RuleText" 90) "java/lang/String" "value" "[B") (.int 2)) (.int 97)) (List.mem_of_getElem? (i := 221) (by decide +kernel))
                      | 3, _ => hg (Cond.eq (.elem (.field (.string "CellTests$RuleText" 90) "java/lang/String" "value" "[B") (.int 3)) (.int 115)) (List.mem_of_getElem? (i := 222) (by decide +kernel))
                      | 4, _ => hg (Cond.eq (.elem (.field (.string "CellTests$RuleText" 90) "java/lang/String" "value" "[B") (.int 4)) (.int 115)) (List.mem_of_getElem? (i := 223) (by decide +kernel))
                      | j + 5, hj => absurd hj (show ¬ j + 5 < 5 by omega))
    (fun i j hi hj hne => absurd (show i = j by omega) hne) hA9
  have hR : vk_R "CellTests$RuleText" 90 "\x63lass" (adK 0) s := vk_R.of (hts0 _ (List.mem_of_getElem? (show lw_tbl[416]? = some (.stringRef "CellTests$RuleText" (90 : Nat) "\x63lass") by decide +kernel))) (hEv 0 (by decide))
  obtain ⟨tT, hTe, hT⟩ := va_Tof (args := #[Value.ref b]) (s := s) (A := A) (tm := .static "java/lang/Integer" "DigitTens" "[B") (ty := .byte) (N := 100) (f := fun j => .int (nI (48 + j / 10))) (by decide) (hg (Cond.arrayOf (.static "java/lang/Integer" "DigitTens" "[B") .byte) (List.mem_of_getElem? (i := 113) (by decide +kernel))) (va_eqv (u := .int 100) (hg (Cond.eq (.length (.static "java/lang/Integer" "DigitTens" "[B")) (.int 100)) (List.mem_of_getElem? (i := 114) (by decide +kernel))) rfl) (lw_DigitTens hg) hA9
  obtain ⟨tO, hOe, hO⟩ := va_Tof (args := #[Value.ref b]) (s := s) (A := A) (tm := .static "java/lang/Integer" "DigitOnes" "[B") (ty := .byte) (N := 100) (f := fun j => .int (nI (48 + j % 10))) (by decide) (hg (Cond.arrayOf (.static "java/lang/Integer" "DigitOnes" "[B") .byte) (List.mem_of_getElem? (i := 10) (by decide +kernel))) (va_eqv (u := .int 100) (hg (Cond.eq (.length (.static "java/lang/Integer" "DigitOnes" "[B")) (.int 100)) (List.mem_of_getElem? (i := 11) (by decide +kernel))) rfl) (lw_DigitOnes hg) hA9
  have hZt := va_Zof (C := "java/lang/Integer") (n := "DigitTens") (d := "[B") (hts0 _ (List.mem_of_getElem? (show lw_tbl[690]? = some (.laysStatic "java/lang/Integer" "DigitTens" "[B") by decide +kernel))) (hts0 _ (List.mem_of_getElem? (show lw_tbl[51]? = some (.initialized "java/lang/Integer") by decide +kernel))) hTe hA9
  have hZo := va_Zof (C := "java/lang/Integer") (n := "DigitOnes") (d := "[B") (hts0 _ (List.mem_of_getElem? (show lw_tbl[688]? = some (.laysStatic "java/lang/Integer" "DigitOnes" "[B") by decide +kernel))) (hts0 _ (List.mem_of_getElem? (show lw_tbl[51]? = some (.initialized "java/lang/Integer") by decide +kernel))) hOe hA9
  refine ⟨adK 0, adV 0, tT, tO, fun D e0 e1 e2 e3 => ?_⟩
  unfold cx_O
  rw [e0, e1, e2, e3]
  exact ⟨hZ1, hZ2, ⟨fun i hi => by obtain rfl : i = 0 := by omega
                                   exact hSt.1 0 hi, fun i j hi hj _ => by omega⟩, hR, ⟨hZt, hT⟩, ⟨hZo, hO⟩, va_AO.of (hts0 _ (List.mem_of_getElem? (show lw_tbl[61]? = some (.arrayOver (.object "CellTests$Cell")) by decide +kernel)))⟩
