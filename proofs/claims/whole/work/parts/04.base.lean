-- what every module stands on: nest words, a method's start and end, calls with the frame rule, compares of longs, indices
theorem cw_oi : Cond.instanceMethod objectInit ∈ cx_tbl := cw_25
theorem cw_oc : Cond.code objectInit ⟨#[0xb1]⟩ 1 none ∈ cx_tbl := cw_26
/-- a contract out of a walk, of a method that no row of the machine's natives stands for (a class of the JDK that has such rows too) -/
theorem cx_ofW {l : Launch} {y : MethodName} {ws ws' : List Cond} {rm : Room} {Pc : Array Value → State → Prop} {Qc : Array Value → State → Outcome → State → Prop} {mc ms : Nat} {free : Addr → Prop} {cc : ByteArray} {maxL : Nat} {ret : Option FieldType}
    (hy : plainFor y = true) (hw : ws = Cond.code y cc maxL ret :: ws')
    (body : ∀ p e s m args below meth c s₁, BodyLoose p l y (headSpec ws rm) cc maxL ret e s m args below meth c s₁ → c.maxLocals = maxL → Pc args s →
      W p l e (headSpec ws rm).room s m args below meth c s.heap [] 0 0 (MQ below Qc args s mc ms free) (entryFrame m args maxL)) : Met l y ws rm Pc Qc mc ms free := by
  refine MetFree.of_bodySF (code := cc) (maxLocals := maxL) (ret := ret) hy ?_ ?_
  · intro args s m h hn
    obtain ⟨meth, c, h1, h2, h3, h4, h5, h6, -, -⟩ := Cond.code_spec hn (atoms_spec (ws := ws) h _ (by rw [hw]; exact List.mem_cons_self))
    exact ⟨meth, c, h1, h2, h3, h4, h5, h6⟩
  · intro p e s m args below meth c s₁ B hml hP _
    have hh0 : s₁.heap = s.heap := by rw [B.state]; rfl
    obtain ⟨t, a1, o, b1, b2, b3⟩ := body p e s m args below meth c s₁ B hml hP s₁ hh0 (Stand.of_body B)
    exact ⟨t, o, a1, b1, b2, ⟨b3.1, b3.2⟩⟩
theorem cx_nw1 {s U : State} (w : Cond) (hq : cx_nq w = true) (hW : s.WarmedH U.vm) (hZ : va_Nw w s) : va_Nw w U := by
  cases w
  case fieldLinkNest => exact va_Nw.warmF hW hZ
  case methodLinkNest => exact va_Nw.warmM hW hZ
  all_goals cases hq
/-- all nest words of the claim hold -/
def cx_N (U : State) : Prop := ∀ w ∈ cx_nws, va_Nw w U
theorem cx_nws_q : ∀ w ∈ cx_nws, cx_nq w = true := fun w h => (List.mem_filter.mp h).2
theorem cx_nq_t (w : Cond) (h : cx_nq w = true) : w.onTables = true := by
  cases w <;> first | rfl | cases h
theorem cx_nws_t : ∀ w ∈ cx_nws, w.onTables = true := fun w h => cx_nq_t w (cx_nws_q w h)
theorem cx_N.warm {s U : State} (hW : s.WarmedH U.vm) (h : cx_N s) : cx_N U := fun w hw => cx_nw1 w (cx_nws_q w hw) hW (h w hw)
theorem cx_N.same {s U : State} (hv : s.vm = U.vm) (h : cx_N s) : cx_N U := fun w hw => va_Nw.same (cx_nws_t w hw) hv (h w hw)
/-- what lies on the heap from the start and is never written: statics of the JDK's, the String constant, tables of digits -/
def cx_O (D : va_G) (A : Nat → Prop) (U : State) (H : Heap) : Prop :=
  va_Z "java/lang/String" "COMPACT_STRINGS" "Z" (.int 1) A U H ∧ va_Zq "jdk/internal/util/Preconditions" "SIOOBE_FORMATTER" "Ljava/util/function/BiFunction;" A U H ∧
  vk_S 1 [5] [[99, 108, 97, 115, 115]] (fun _ => D.2 100 0) (fun _ => D.2 100 1) A U H ∧ vk_R "CellTests$RuleText" 90 "\x63lass" (D.2 100 0) U ∧
  (va_Z "java/lang/Integer" "DigitTens" "[B" (.ref (D.2 100 2)) A U H ∧ va_T .byte (D.2 100 2) 100 (fun j => .int (nI (48 + j / 10))) A U H) ∧
  (va_Z "java/lang/Integer" "DigitOnes" "[B" (.ref (D.2 100 3)) A U H ∧ va_T .byte (D.2 100 3) 100 (fun j => .int (nI (48 + j % 10))) A U H) ∧ va_AO "CellTests$Cell" U
theorem cx_O.go {D : va_G} {A B : Nat → Prop} {s U : State} {H : Heap} {locs : List Loc} (h : cx_O D A s s.heap) (hS : va_S A s.heap H locs) (hF : ∀ q, B q → A q) (hW : s.WarmedH U.vm) : cx_O D B U H := by
  obtain ⟨h1, h2, h3, h4, ⟨h5, h6⟩, ⟨h7, h8⟩, h9⟩ := h
  have k := hS.2.1
  have v := hW.alike
  exact ⟨(va_Z.moved v (h1.kept k)).narrow hF, (va_Zq.moved v (h2.kept k)).narrow hF, (vk_S.moved v (h3.kept k)).narrow hF, h4.warm hW, ⟨(va_Z.moved v (h5.kept k)).narrow hF, (va_T.moved v (h6.kept k)).narrow hF⟩, ⟨(va_Z.moved v (h7.kept k)).narrow hF, (va_T.moved v (h8.kept k)).narrow hF⟩, h9.moved v⟩
theorem cx_O.same {D : va_G} {A : Nat → Prop} {s U : State} (h : cx_O D A s s.heap) (hv : U.vm = s.vm) (hh : U.heap = s.heap) : cx_O D A U U.heap := by
  obtain ⟨h1, h2, h3, h4, ⟨h5, h6⟩, ⟨h7, h8⟩, h9⟩ := h
  have v : s.vm.Alike U.vm := by rw [hv]; exact Vm.Alike.refl s.vm
  rw [hh]
  exact ⟨va_Z.moved v h1, va_Zq.moved v h2, vk_S.moved v h3, h4.same hv, ⟨va_Z.moved v h5, va_T.moved v h6⟩, ⟨va_Z.moved v h7, va_T.moved v h8⟩, h9.moved v⟩
/-- what a method finds: the cells ws, all apart, the heap of sz cells, classes and array classes as the tables have them -/
def cx_pre (D : va_G) (tys : List (ClassId × FieldType)) (ws : va_W) (sz : Nat) (U : State) : Prop :=
  U.heap.size = sz ∧ va_P D classes ws U.heap ∧ va_K D classes tys U ∧ va_D (fun _ => True) ws ∧ cx_N U ∧ cx_O D (va_A ws sz) U U.heap
/-- what it leaves -/
def cx_end (D : va_G) (tys : List (ClassId × FieldType)) (A : Nat → Prop) (ws : va_W) (t : State) : Prop :=
  va_P D classes ws t.heap ∧ va_K D classes tys t ∧ va_D A ws
/-- a truth as an int -/
def cx_b (P : Prop) [Decidable P] : Int32 := if P then 1 else 0
theorem cx_b_t {P : Prop} [Decidable P] (h : P) : cx_b P = 1 := if_pos h
theorem cx_b_f {P : Prop} [Decidable P] (h : ¬ P) : cx_b P = 0 := if_neg h
theorem cx_b_eq {P : Prop} [Decidable P] : cx_b P = 0 ↔ ¬ P := by
  unfold cx_b; split <;> simp_all
theorem cx_b_ne {P : Prop} [Decidable P] : ¬ cx_b P = 0 ↔ P := by
  unfold cx_b; split <;> simp_all
theorem cx_b_nar {P : Prop} [Decidable P] : narrow .boolean (.int (cx_b P)) = .int (cx_b P) := by
  unfold cx_b; split <;> rfl
theorem cx_ix {x : Int32} {n : Nat} (hn : n < 2 ^ 31) (h0 : ¬ x < 0) (h1 : ¬ nI n ≤ x) : vp_in x n := by
  rcases pk_ix x hn with h | h | ⟨j, hj, e⟩
  · exact absurd h h0
  · exact absurd h h1
  · rw [e]; exact vp_in_nI hj hn
section CXW
variable {p : Program} {l : Launch} {e : Env} {R : Room} {s : State} {m : MethodId} {args : Array Value} {below : List Frame} {meth : Method} {c : Code} {H : Heap} {locs : List Loc} {cells slots : Nat} {Q : State → Prop}
variable {cc : ByteArray} {pc : Nat} {ls : Array Slot} {rest st0 : List Value} {D : va_G} {ws wc wr : va_W} {tys : List (ClassId × FieldType)} {A0 A1 : Nat → Prop} {H0 : Heap} {mc ms : Nat} {a : Array Value}
theorem cx_q {g : JFrame} (k : ∀ Q' : State → Prop, Q' = Q → W p l e R s m args below meth c H locs cells slots Q' g) : W p l e R s m args below meth c H locs cells slots Q g := k Q rfl
theorem cx_blind {av : List Value} {sz : Nat} : FrameBlind (va_Pc av (cx_pre D tys ws sz)) := fun a U g mk q => by
  obtain ⟨q0, q1, qP, qK, qD, qN, qO⟩ := q
  exact ⟨q0, q1, qP, va_K.moved (u := U) (U := U.calling g mk a) (Vm.Alike.refl U.vm) qK, qD, cx_N.same (s := U) (U := U.calling g mk a) rfl qN, cx_O.same (s := U) (U := U.calling g mk a) qO rfl rfl⟩
theorem cx_preS (av : List Value) (hP : va_P D classes ws H) (hK : va_K D classes tys s) (hD : va_D A0 ws) (hN : cx_N s) (hO : cx_O D A1 s s.heap) (hS : va_S A1 s.heap H locs) (hF : ∀ q, va_A ws H.size q → A1 q) : PreS s H (va_Pc av (cx_pre D tys ws H.size)) av :=
  ⟨cx_blind, fun U hU hW => ⟨rfl, by rw [hU], by rw [hU]; exact hP, va_K.moved hW.alike hK, hD.weaken (fun _ _ _ _ => trivial), cx_N.warm hW hN, by rw [hU]; exact hO.go hS hF hW⟩⟩
theorem cx_preV {C : String} {b : Nat} (As : List Value) {q : vw_C} {ci q0 : Nat} {fs : List Value} (hP : va_P D classes ws H) (hK : va_K D classes tys s) (hD : va_D A0 ws) (hN : cx_N s) (hO : cx_O D A1 s s.heap) (hS : va_S A1 s.heap H locs) (hF : ∀ q, va_A ws H.size q → A1 q) (hc : classes[ci]? = some q) (he : ws[q0]? = some (b, .inr (ci, fs))) (hC : q.1 = C) : PreV s H C b (va_Pc (.ref b :: As) (cx_pre D tys ws H.size)) As :=
  ⟨cx_blind, by subst hC; exact va_recv hK hP hc he, fun U hU hW => ⟨rfl, by rw [hU], by rw [hU]; exact hP, va_K.moved hW.alike hK, hD.weaken (fun _ _ _ _ => trivial), cx_N.warm hW hN, by rw [hU]; exact hO.go hS hF hW⟩⟩
theorem cx_preO (As : List Value) (hP : va_P D classes ws H) (hK : va_K D classes tys s) (hD : va_D A0 ws) (hN : cx_N s) (hO : cx_O D A1 s s.heap) (hS : va_S A1 s.heap H locs) (hF : ∀ q, va_A ws H.size q → A1 q) : PreV s H "java/lang/String" (D.2 100 0) (va_Pc (.ref (D.2 100 0) :: As) (cx_pre D tys ws H.size)) As :=
  ⟨cx_blind, vk_recv (adK := fun _ => D.2 100 0) (adV := fun _ => D.2 100 1) (N := 1) (len := [5]) (byt := [[99, 108, 97, 115, 115]]) (i := 0) hO.2.2.1 (by decide) hS, fun U hU hW => ⟨rfl, by rw [hU], by rw [hU]; exact hP, va_K.moved hW.alike hK, hD.weaken (fun _ _ _ _ => trivial), cx_N.warm hW hN, by rw [hU]; exact hO.go hS hF hW⟩⟩
theorem cx_joini {S : Type} {post : Int32 → S → Prop} {wf : S → va_W} {tf : S → List (ClassId × FieldType)}
    (hP : va_P D classes ws H) (hD : va_D A0 ws) (hS : va_S A0 H0 H locs) (hA : ∀ q, H0.size ≤ q → A0 q) (isC isR : List Nat) (hC : isC.map (fun i => ws[i]?) = wc.map some) (hR : isR.map (fun i => ws[i]?) = wr.map some) (hn : va_nd isR = true) (hdis : ∀ i ∈ isR, i ∉ isC)
    (hr : va_Run p l e R s m args below meth c H locs cells slots mc ms (F0 m pc ls st0) rest (va_Qi post (fun u t => cx_end D (tf u) (va_A wc H.size) (wf u) t) (va_A wc H.size) a) (va_A wc H.size))
    (kk : ∀ (r : Int32) (u : S) (H1 : Heap) (locs1 : List Loc), post r u → va_K D classes (tf u) s → va_P D classes (wr ++ wf u) H1 → va_D A0 (wr ++ wf u) → va_S A0 H0 H1 locs1 → W p l e R s m args below meth c H1 locs1 (cells + mc) (slots + ms) Q (F0 m (pc + 3) ls (.int r :: rest))) :
    W p l e R s m args below meth c H locs cells slots Q (F0 m pc ls st0) := by
  have hF := va_free (wc := wc) hD hS hA isC hC
  refine va_calli hr hS (fun q _ h => hF q h) hF (fun r u t H1 locs1 ht hvm hw hB hz1 hk1 hS1 => ?_)
  obtain ⟨hP1, hK1, hD1⟩ := hB
  rw [ht] at hP1
  obtain ⟨hP2, hD2⟩ := va_join hP hD isC isR hC hR hn hdis hk1 hF hP1 hD1
  exact kk r u H1 locs1 hw (va_K.moved hvm.symm hK1) hP2 hD2 hS1
theorem cx_joinl {S : Type} {post : Int64 → S → Prop} {wf : S → va_W} {tf : S → List (ClassId × FieldType)}
    (hP : va_P D classes ws H) (hD : va_D A0 ws) (hS : va_S A0 H0 H locs) (hA : ∀ q, H0.size ≤ q → A0 q) (isC isR : List Nat) (hC : isC.map (fun i => ws[i]?) = wc.map some) (hR : isR.map (fun i => ws[i]?) = wr.map some) (hn : va_nd isR = true) (hdis : ∀ i ∈ isR, i ∉ isC)
    (hr : va_Run p l e R s m args below meth c H locs cells slots mc ms (F0 m pc ls st0) rest (va_Ql post (fun u t => cx_end D (tf u) (va_A wc H.size) (wf u) t) (va_A wc H.size) a) (va_A wc H.size))
    (kk : ∀ (r : Int64) (u : S) (H1 : Heap) (locs1 : List Loc), post r u → va_K D classes (tf u) s → va_P D classes (wr ++ wf u) H1 → va_D A0 (wr ++ wf u) → va_S A0 H0 H1 locs1 → W p l e R s m args below meth c H1 locs1 (cells + mc) (slots + ms) Q (F0 m (pc + 3) ls (.long r :: rest))) :
    W p l e R s m args below meth c H locs cells slots Q (F0 m pc ls st0) := by
  have hF := va_free (wc := wc) hD hS hA isC hC
  refine va_calll hr hS (fun q _ h => hF q h) hF (fun r u t H1 locs1 ht hvm hw hB hz1 hk1 hS1 => ?_)
  obtain ⟨hP1, hK1, hD1⟩ := hB
  rw [ht] at hP1
  obtain ⟨hP2, hD2⟩ := va_join hP hD isC isR hC hR hn hdis hk1 hF hP1 hD1
  exact kk r u H1 locs1 hw (va_K.moved hvm.symm hK1) hP2 hD2 hS1
theorem cx_joinv {S : Type} {post : S → Prop} {wf : S → va_W} {tf : S → List (ClassId × FieldType)}
    (hP : va_P D classes ws H) (hD : va_D A0 ws) (hS : va_S A0 H0 H locs) (hA : ∀ q, H0.size ≤ q → A0 q) (isC isR : List Nat) (hC : isC.map (fun i => ws[i]?) = wc.map some) (hR : isR.map (fun i => ws[i]?) = wr.map some) (hn : va_nd isR = true) (hdis : ∀ i ∈ isR, i ∉ isC)
    (hr : va_Run p l e R s m args below meth c H locs cells slots mc ms (F0 m pc ls st0) rest (va_Qv post (fun u t => cx_end D (tf u) (va_A wc H.size) (wf u) t) (va_A wc H.size) a) (va_A wc H.size))
    (kk : ∀ (u : S) (H1 : Heap) (locs1 : List Loc), post u → va_K D classes (tf u) s → va_P D classes (wr ++ wf u) H1 → va_D A0 (wr ++ wf u) → va_S A0 H0 H1 locs1 → W p l e R s m args below meth c H1 locs1 (cells + mc) (slots + ms) Q (F0 m (pc + 3) ls (rest))) :
    W p l e R s m args below meth c H locs cells slots Q (F0 m pc ls st0) := by
  have hF := va_free (wc := wc) hD hS hA isC hC
  refine va_callv hr hS (fun q _ h => hF q h) hF (fun u t H1 locs1 ht hvm hw hB hz1 hk1 hS1 => ?_)
  obtain ⟨hP1, hK1, hD1⟩ := hB
  rw [ht] at hP1
  obtain ⟨hP2, hD2⟩ := va_join hP hD isC isR hC hR hn hdis hk1 hF hP1 hD1
  exact kk u H1 locs1 hw (va_K.moved hvm.symm hK1) hP2 hD2 hS1
end CXW
