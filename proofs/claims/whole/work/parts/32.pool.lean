-- Cells in a pool at the world's end: calls that leave it alone, one that has it, one Cell taken out and put back
section CXP
variable {p : Program} {l : Launch} {e : Env} {R : Room} {s : State} {m : MethodId} {args : Array Value} {below : List Frame} {meth : Method} {c : Code} {H : Heap} {locs : List Loc} {cells slots : Nat} {Q : State → Prop}
variable {pc : Nat} {ls : Array Slot} {rest st0 : List Value} {D : va_G} {X wc wr pl : va_W} {A0 : Nat → Prop} {H0 : Heap} {mc ms : Nat} {a : Array Value}
theorem cx_freeQ (hD : va_D A0 (X ++ pl)) (hS : va_S A0 H0 H locs) (hA : ∀ q, H0.size ≤ q → A0 q) (isC : List Nat) (hC : isC.map (fun i => X[i]?) = wc.map some) : ∀ q, va_A wc H.size q → A0 q := by
  intro q h
  rcases h with ⟨k, e9, h⟩ | h
  · obtain ⟨i, h1, h2⟩ := va_in_of isC hC h
    exact hD.2 i (q, e9) (by rw [List.getElem?_append_left (List.getElem?_eq_some_iff.mp h2).1]; exact h2)
  · exact hA q (Nat.le_trans hS.1 h)
theorem cx_joiniQ {S : Type} {post : Int32 → S → Prop} {wf : S → va_W} {tf : S → List (ClassId × FieldType)}
    (hP : va_P D classes (X ++ pl) H) (hD : va_D A0 (X ++ pl)) (hS : va_S A0 H0 H locs) (hA : ∀ q, H0.size ≤ q → A0 q) (isC isR : List Nat) (hC : isC.map (fun i => X[i]?) = wc.map some) (hR : isR.map (fun i => X[i]?) = wr.map some) (hn : va_nd isR = true) (hdis : ∀ i ∈ isR, i ∉ isC)
    (hr : va_Run p l e R s m args below meth c H locs cells slots mc ms (F0 m pc ls st0) rest (va_Qi post (fun u t => cx_end D (tf u) (va_A wc H.size) (wf u) t) (va_A wc H.size) a) (va_A wc H.size))
    (kk : ∀ (r : Int32) (u : S) (H1 : Heap) (locs1 : List Loc), post r u → va_K D classes (tf u) s → va_P D classes ((wr ++ wf u) ++ pl) H1 → va_D A0 ((wr ++ wf u) ++ pl) → va_S A0 H0 H1 locs1 → W p l e R s m args below meth c H1 locs1 (cells + mc) (slots + ms) Q (F0 m (pc + 3) ls (.int r :: rest))) :
    W p l e R s m args below meth c H locs cells slots Q (F0 m pc ls st0) := by
  have hF := cx_freeQ (wc := wc) hD hS hA isC hC
  refine va_calli hr hS (fun q _ h => hF q h) hF (fun r u t H1 locs1 ht hvm hw hB hz1 hk1 hS1 => ?_)
  obtain ⟨hP1, hK1, hD1⟩ := hB
  rw [ht] at hP1
  obtain ⟨hP2, hD2⟩ := va_joinQ hP hD isC isR hC hR hn hdis hk1 hF hP1 hD1
  exact kk r u H1 locs1 hw (va_K.moved hvm.symm hK1) hP2 hD2 hS1
theorem cx_joinlQ {S : Type} {post : Int64 → S → Prop} {wf : S → va_W} {tf : S → List (ClassId × FieldType)}
    (hP : va_P D classes (X ++ pl) H) (hD : va_D A0 (X ++ pl)) (hS : va_S A0 H0 H locs) (hA : ∀ q, H0.size ≤ q → A0 q) (isC isR : List Nat) (hC : isC.map (fun i => X[i]?) = wc.map some) (hR : isR.map (fun i => X[i]?) = wr.map some) (hn : va_nd isR = true) (hdis : ∀ i ∈ isR, i ∉ isC)
    (hr : va_Run p l e R s m args below meth c H locs cells slots mc ms (F0 m pc ls st0) rest (va_Ql post (fun u t => cx_end D (tf u) (va_A wc H.size) (wf u) t) (va_A wc H.size) a) (va_A wc H.size))
    (kk : ∀ (r : Int64) (u : S) (H1 : Heap) (locs1 : List Loc), post r u → va_K D classes (tf u) s → va_P D classes ((wr ++ wf u) ++ pl) H1 → va_D A0 ((wr ++ wf u) ++ pl) → va_S A0 H0 H1 locs1 → W p l e R s m args below meth c H1 locs1 (cells + mc) (slots + ms) Q (F0 m (pc + 3) ls (.long r :: rest))) :
    W p l e R s m args below meth c H locs cells slots Q (F0 m pc ls st0) := by
  have hF := cx_freeQ (wc := wc) hD hS hA isC hC
  refine va_calll hr hS (fun q _ h => hF q h) hF (fun r u t H1 locs1 ht hvm hw hB hz1 hk1 hS1 => ?_)
  obtain ⟨hP1, hK1, hD1⟩ := hB
  rw [ht] at hP1
  obtain ⟨hP2, hD2⟩ := va_joinQ hP hD isC isR hC hR hn hdis hk1 hF hP1 hD1
  exact kk r u H1 locs1 hw (va_K.moved hvm.symm hK1) hP2 hD2 hS1
theorem cx_joinvQ {S : Type} {post : S → Prop} {wf : S → va_W} {tf : S → List (ClassId × FieldType)}
    (hP : va_P D classes (X ++ pl) H) (hD : va_D A0 (X ++ pl)) (hS : va_S A0 H0 H locs) (hA : ∀ q, H0.size ≤ q → A0 q) (isC isR : List Nat) (hC : isC.map (fun i => X[i]?) = wc.map some) (hR : isR.map (fun i => X[i]?) = wr.map some) (hn : va_nd isR = true) (hdis : ∀ i ∈ isR, i ∉ isC)
    (hr : va_Run p l e R s m args below meth c H locs cells slots mc ms (F0 m pc ls st0) rest (va_Qv post (fun u t => cx_end D (tf u) (va_A wc H.size) (wf u) t) (va_A wc H.size) a) (va_A wc H.size))
    (kk : ∀ (u : S) (H1 : Heap) (locs1 : List Loc), post u → va_K D classes (tf u) s → va_P D classes ((wr ++ wf u) ++ pl) H1 → va_D A0 ((wr ++ wf u) ++ pl) → va_S A0 H0 H1 locs1 → W p l e R s m args below meth c H1 locs1 (cells + mc) (slots + ms) Q (F0 m (pc + 3) ls (rest))) :
    W p l e R s m args below meth c H locs cells slots Q (F0 m pc ls st0) := by
  have hF := cx_freeQ (wc := wc) hD hS hA isC hC
  refine va_callv hr hS (fun q _ h => hF q h) hF (fun u t H1 locs1 ht hvm hw hB hz1 hk1 hS1 => ?_)
  obtain ⟨hP1, hK1, hD1⟩ := hB
  rw [ht] at hP1
  obtain ⟨hP2, hD2⟩ := va_joinQ hP hD isC isR hC hR hn hdis hk1 hF hP1 hD1
  exact kk u H1 locs1 hw (va_K.moved hvm.symm hK1) hP2 hD2 hS1
/-- a call that has the pool, and leaves a pool -/
theorem cx_joinlP {S : Type} {post : Int64 → S → Prop} {wf : S → va_W} {pl1 : va_W} {tf : S → List (ClassId × FieldType)}
    (hP : va_P D classes (X ++ pl) H) (hD : va_D A0 (X ++ pl)) (hS : va_S A0 H0 H locs) (hA : ∀ q, H0.size ≤ q → A0 q) (isC isR : List Nat) (hC : isC.map (fun i => X[i]?) = wc.map some) (hR : isR.map (fun i => X[i]?) = wr.map some) (hn : va_nd isR = true) (hdis : ∀ i ∈ isR, i ∉ isC)
    (hr : va_Run p l e R s m args below meth c H locs cells slots mc ms (F0 m pc ls st0) rest (va_Ql post (fun u t => cx_end D (tf u) (va_A (wc ++ pl) H.size) (wf u ++ pl1) t) (va_A (wc ++ pl) H.size) a) (va_A (wc ++ pl) H.size))
    (kk : ∀ (r : Int64) (u : S) (H1 : Heap) (locs1 : List Loc), post r u → va_K D classes (tf u) s → va_P D classes ((wr ++ wf u) ++ pl1) H1 → va_D A0 ((wr ++ wf u) ++ pl1) → va_S A0 H0 H1 locs1 → W p l e R s m args below meth c H1 locs1 (cells + mc) (slots + ms) Q (F0 m (pc + 3) ls (.long r :: rest))) :
    W p l e R s m args below meth c H locs cells slots Q (F0 m pc ls st0) := by
  have hF := va_freeP (cx := wc) hD hS hA isC hC
  refine va_calll hr hS (fun q _ h => hF q h) hF (fun r u t H1 locs1 ht hvm hw hB hz1 hk1 hS1 => ?_)
  obtain ⟨hP1, hK1, hD1⟩ := hB
  rw [ht] at hP1
  obtain ⟨hP2, hD2⟩ := va_joinP hP hD isC isR hC hR hn hdis hk1 hF hP1 hD1
  exact kk r u H1 locs1 hw (va_K.moved hvm.symm hK1) hP2 hD2 hS1
theorem cx_joinq {S : Type} {post : Option Nat → S → Prop} {wf : S → va_W} {tf : S → List (ClassId × FieldType)}
    (hP : va_P D classes X H) (hD : va_D A0 X) (hS : va_S A0 H0 H locs) (hA : ∀ q, H0.size ≤ q → A0 q) (isC isR : List Nat) (hC : isC.map (fun i => X[i]?) = wc.map some) (hR : isR.map (fun i => X[i]?) = wr.map some) (hn : va_nd isR = true) (hdis : ∀ i ∈ isR, i ∉ isC)
    (hr : va_Run p l e R s m args below meth c H locs cells slots mc ms (F0 m pc ls st0) rest (va_Qq post (fun u t => cx_end D (tf u) (va_A wc H.size) (wf u) t) (va_A wc H.size) a) (va_A wc H.size))
    (kk : ∀ (r : Option Nat) (u : S) (H1 : Heap) (locs1 : List Loc), post r u → va_K D classes (tf u) s → va_P D classes (wr ++ wf u) H1 → va_D A0 (wr ++ wf u) → va_S A0 H0 H1 locs1 → W p l e R s m args below meth c H1 locs1 (cells + mc) (slots + ms) Q (F0 m (pc + 3) ls (va_rf r :: rest))) :
    W p l e R s m args below meth c H locs cells slots Q (F0 m pc ls st0) := by
  have hF := va_free (wc := wc) hD hS hA isC hC
  refine va_callq hr hS (fun q _ h => hF q h) hF (fun r u t H1 locs1 ht hvm hw hB hz1 hk1 hS1 => ?_)
  obtain ⟨hP1, hK1, hD1⟩ := hB
  rw [ht] at hP1
  obtain ⟨hP2, hD2⟩ := va_join hP hD isC isR hC hR hn hdis hk1 hF hP1 hD1
  exact kk r u H1 locs1 hw (va_K.moved hvm.symm hK1) hP2 hD2 hS1
end CXP
/-- a Cell of the pool, taken out and put back -/
theorem cx_open {D : va_G} {X : va_W} {L : List Nat} {f : Nat → va_E} {H : Heap} {A : Nat → Prop} {a : Nat} (hP : va_P D classes (X ++ va_pl L f) H) (hD : va_D A (X ++ va_pl L f)) (hn : L.Nodup) (ha : a ∈ L) :
    ∃ pl : va_W, va_P D classes ((X ++ [(a, f a)]) ++ pl) H ∧ va_D A ((X ++ [(a, f a)]) ++ pl) ∧
      (∀ (X' : va_W) (e' : va_E) (H' : Heap), va_P D classes ((X' ++ [(a, e')]) ++ pl) H' → va_P D classes (X' ++ va_pl L (va_up f a e')) H') ∧
      (∀ (X' : va_W) (e' : va_E) (A' : Nat → Prop), va_D A' ((X' ++ [(a, e')]) ++ pl) → va_D A' (X' ++ va_pl L (va_up f a e'))) := by
  obtain ⟨L1, L2, rfl⟩ := List.append_of_mem ha
  have hnn := List.nodup_append.mp hn
  have h1 : a ∉ L1 := fun h => hnn.2.2 a h a (List.mem_cons_self) rfl
  have h2 : a ∉ L2 := (List.nodup_cons.mp hnn.2.1).1
  have e0 : ∀ X' : va_W, X' ++ va_pl (L1 ++ a :: L2) f = ((X' ++ va_pl L1 f) ++ [(a, f a)]) ++ va_pl L2 f := fun X' => by
    simp [va_pl]
  have e1 : ∀ (X' : va_W) (e' : va_E), X' ++ va_pl (L1 ++ a :: L2) (va_up f a e') = ((X' ++ va_pl L1 f) ++ [(a, e')]) ++ va_pl L2 f := fun X' e' => by
    have g1 : ∀ (L : List Nat), a ∉ L → va_pl L (va_up f a e') = va_pl L f := fun L hL => by
      apply List.map_congr_left
      intro b hb
      have : b ≠ a := fun h => hL (h ▸ hb)
      simp [va_up, this]
    have g2 : va_pl (L1 ++ a :: L2) (va_up f a e') = va_pl L1 (va_up f a e') ++ (a, va_up f a e' a) :: va_pl L2 (va_up f a e') := by simp [va_pl]
    rw [g2, g1 L1 h1, g1 L2 h2]
    simp [va_up]
  have e2 : ∀ (X' : va_W) (x : Nat × va_E), ((X' ++ va_pl L1 f) ++ va_pl L2 f) ++ [x] = (X' ++ (va_pl L1 f ++ va_pl L2 f)) ++ [x] := fun X' x => by simp
  refine ⟨va_pl L1 f ++ va_pl L2 f, ?_, ?_, fun X' e' H' h => ?_, fun X' e' A' h => ?_⟩
  · rw [e0] at hP
    have h := hP.swap
    rw [e2] at h
    exact h.swap
  · rw [e0] at hD
    have h := hD.swap
    rw [e2] at h
    exact h.swap
  · have g := h.swap
    rw [← e2] at g
    rw [e1]
    exact g.swap
  · have g := h.swap
    rw [← e2] at g
    rw [e1]
    exact g.swap
theorem cx_upself {L : List Nat} {f : Nat → va_E} {a : Nat} : va_pl L (va_up f a (f a)) = va_pl L f := by
  apply va_pl_congr
  intro b
  by_cases h : b = a
  · subst h; simp [va_up]
  · simp [va_up, h]
