/-! ===== contracts over a larger world, and in other words for the same cells ===== -/
theorem zA {w w0 : va_W} {is : List Nat} {sz : Nat} (hC : is.map (fun i => w[i]?) = w0.map some) : ∀ q, va_A w0 sz q → va_A w sz q := by
  intro q h
  rcases h with ⟨k, e, hk⟩ | h
  · obtain ⟨i, -, h2⟩ := xplace hC hk
    exact Or.inl ⟨i, e, h2⟩
  · exact Or.inr h
theorem zpre {D : va_G} {cs : Nat → ClassId} {tt : Nat → Nat} {av : List Value} {w w0 : va_W} {is : List Nat} {sz : Nat} (hnd : va_nd is = true) (hC : is.map (fun i => w[i]?) = w0.map some) {a : Array Value} {s : State} (h : xPc D cs tt av w sz a s) : xPc D cs tt av w0 sz a s := by
  obtain ⟨h0, h1, h2, h3, h4, h5⟩ := h
  exact ⟨h0, h1, fun j x hx => (xplace hC hx).elim (fun i hi => h2 i x hi.2), h3.sub is hnd hC, h4, h5.narrow (zA hC)⟩
theorem zend {D : va_G} {cs : Nat → ClassId} {tt : Nat → Nat} {av : List Value} {w w0 w0' w1 : va_W} {is : List Nat} {sz : Nat} {r : Option Value} (hC : is.map (fun i => w[i]?) = w0.map some) (ha : w0'.map (fun x => x.1) = w0.map (fun x => x.1)) (hw1 : xput w is w0' = w1) {a : Array Value} {s t : State} {o : Outcome} (hp : xPc D cs tt av w sz a s) (h : xE D (va_A w0 sz) r w0' a s o t) : xE D (va_A w sz) r w1 a s o t := by
  obtain ⟨-, h1, h2, h3, -, -⟩ := hp
  obtain ⟨g0, g1, g2, g3⟩ := h
  subst h1
  subst hw1
  obtain ⟨hP, hD⟩ := xjoin (H1 := t.heap) h2 (h3.self (sz := s.heap.size)) hC ha g3.2 g1
  exact ⟨g0, hP, hD, g3.1, fun q hq hn => g3.2 q hq (fun z => hn (zA hC q z))⟩
theorem xM.lift {l : Launch} {y : MethodName} {ws : List Cond} {rm rm' : Room} {D : va_G} {cs : Nat → ClassId} {tt : Nat → Nat} {av : List Value} {w0 w0' w w1 : va_W} {r : Option Value} (h : xM l y ws rm D cs tt av w0 r w0') (hr : rm.frames ≤ rm'.frames ∧ rm.locals ≤ rm'.locals ∧ rm.cells ≤ rm'.cells ∧ rm.slots ≤ rm'.slots) (is : List Nat) (hnd : va_nd is = true) (hC : is.map (fun i => w[i]?) = w0.map some) (ad9 : List Nat) (ha1 : w0.map (fun x => x.1) = ad9) (ha2 : w0'.map (fun x => x.1) = ad9) (hw1 : xput w is w0' = w1) : xM l y ws rm' D cs tt av w r w1 := by
  intro sz
  have h1 : MetFree l y (headSpec ws rm') _ _ _ := Jvm.Free.MetFree.respec (S' := headSpec ws rm') (h sz) (fun _ _ h => h) hr.1 hr.2.1 hr.2.2.1 hr.2.2.2
  refine Jvm.Free.MetFree.mono h1 (fun a s hp => zpre hnd hC hp) (fun _ _ _ _ _ hk => hk) (fun a s o t hp hq => ?_)
  exact ⟨zend hC (ha2.trans ha1.symm) hw1 hp hq.1, hq.2.elim fun L hL => ⟨L, hL.1, fun q hq => zA hC _ (hL.2 q hq)⟩⟩
theorem xL.lift {l : Launch} {y : MethodName} {ws : List Cond} {rm rm' : Room} {D : va_G} {cs : Nat → ClassId} {tt : Nat → Nat} {av : List Value} {w0 w0' w w1 : va_W} {k : Int32} (h : xL l y ws rm D cs tt av w0 k w0') (hr : rm.frames ≤ rm'.frames ∧ rm.locals ≤ rm'.locals ∧ rm.cells ≤ rm'.cells ∧ rm.slots ≤ rm'.slots) (is : List Nat) (hnd : va_nd is = true) (hC : is.map (fun i => w[i]?) = w0.map some) (ad9 : List Nat) (ha1 : w0.map (fun x => x.1) = ad9) (ha2 : w0'.map (fun x => x.1) = ad9) (hw1 : xput w is w0' = w1) : xL l y ws rm' D cs tt av w k w1 := by
  intro sz
  have h1 : MetFree l y (headSpec ws rm') _ _ _ := Jvm.Free.MetFree.respec (S' := headSpec ws rm') (h sz) (fun _ _ h => h) hr.1 hr.2.1 hr.2.2.1 hr.2.2.2
  refine Jvm.Free.MetFree.mono h1 (fun a s hp => ⟨zpre hnd hC hp.1, hp.2⟩) (fun _ _ _ _ _ hk => hk) (fun a s o t hp hq => ?_)
  rcases hq with hq | ⟨q, -, E, ce, L, hf, -⟩
  · exact Or.inl ⟨zend hC (ha2.trans ha1.symm) hw1 hp.1 hq.1, hq.2.elim fun L hL => ⟨L, hL.1, fun q hq => zA hC _ (hL.2 q hq)⟩⟩
  · exact hf.elim
/-! the same cells in other words -/
def zEq (w v : va_W) : Prop := v.map (fun x => x.1) = w.map (fun x => x.1) ∧ ∀ (D : va_G) (H : Heap), va_P D vwCl w H → va_P D vwCl v H
theorem zEq.rf (w : va_W) : zEq w w := ⟨rfl, fun _ _ h => h⟩
theorem zEq.tr {w v u : va_W} (h1 : zEq w v) (h2 : zEq v u) : zEq w u := ⟨h2.1.trans h1.1, fun D H h => h2.2 D H (h1.2 D H h)⟩
theorem zEq.at {w v : va_W} (h : zEq w v) {k : Nat} {q : Nat × va_E} (hq : v[k]? = some q) : ∃ z, w[k]? = some z ∧ z.1 = q.1 := by
  have h1 : (v.map (fun x => x.1))[k]? = some q.1 := by rw [List.getElem?_map, hq]; rfl
  rw [h.1, List.getElem?_map] at h1
  cases hw : w[k]? with
  | none => rw [hw] at h1; cases h1
  | some z => rw [hw] at h1; exact ⟨z, rfl, Option.some.inj h1⟩
theorem zEq.at2 {w v : va_W} (h : zEq w v) {k : Nat} {q : Nat × va_E} (hq : w[k]? = some q) : ∃ z, v[k]? = some z ∧ z.1 = q.1 := by
  have h1 : (w.map (fun x => x.1))[k]? = some q.1 := by rw [List.getElem?_map, hq]; rfl
  rw [← h.1, List.getElem?_map] at h1
  cases hw : v[k]? with
  | none => rw [hw] at h1; cases h1
  | some z => rw [hw] at h1; exact ⟨z, rfl, Option.some.inj h1⟩
theorem zEq.D {w v : va_W} (h : zEq w v) {A : Nat → Prop} (hD : va_D A w) : va_D A v := by
  refine ⟨fun i j p q hi hj e => ?_, fun k q hq => ?_⟩
  · obtain ⟨z1, a1, a2⟩ := h.at hi
    obtain ⟨z2, b1, b2⟩ := h.at hj
    exact hD.1 i j z1 z2 a1 b1 (a2.trans (e.trans b2.symm))
  · obtain ⟨z1, a1, a2⟩ := h.at hq
    rw [← a2]
    exact hD.2 k z1 a1
theorem zEq.A {w v : va_W} (h : zEq w v) {sz : Nat} : va_A v sz = va_A w sz := by
  funext q
  apply propext
  constructor
  · rintro (⟨k, e, hk⟩ | hq)
    · obtain ⟨z, a1, a2⟩ := h.at hk
      exact Or.inl ⟨k, z.2, by rw [a1]; exact congrArg some (Prod.ext a2 rfl)⟩
    · exact Or.inr hq
  · rintro (⟨k, e, hk⟩ | hq)
    · obtain ⟨z, a1, a2⟩ := h.at2 hk
      exact Or.inl ⟨k, z.2, by rw [a1]; exact congrArg some (Prod.ext a2 rfl)⟩
    · exact Or.inr hq
theorem zEq.pc {D : va_G} {cs : Nat → ClassId} {tt : Nat → Nat} {av : List Value} {w v : va_W} {sz : Nat} (hv : zEq v w) {a : Array Value} {s : State} (h : xPc D cs tt av v sz a s) : xPc D cs tt av w sz a s := by
  obtain ⟨h0, h1, h2, h3, h4, h5⟩ := h
  exact ⟨h0, h1, hv.2 _ _ h2, hv.D h3, h4, by rw [hv.A]; exact h5⟩
theorem zEq.en {D : va_G} {w v w' v' : va_W} {sz : Nat} {r : Option Value} (hv : zEq v w) (hw : zEq w' v') {a : Array Value} {s t : State} {o : Outcome} (h : xE D (va_A w sz) r w' a s o t) : xE D (va_A v sz) r v' a s o t := by
  obtain ⟨g0, g1, g2, g3⟩ := h
  rw [hv.A] at g2 g3
  exact ⟨g0, hw.2 _ _ g1, hw.D g2, g3⟩
theorem xM.conv {l : Launch} {y : MethodName} {ws : List Cond} {rm : Room} {D : va_G} {cs : Nat → ClassId} {tt : Nat → Nat} {av : List Value} {w w' v v' : va_W} {r : Option Value} (h : xM l y ws rm D cs tt av w r w') (hv : zEq v w) (hw : zEq w' v') : xM l y ws rm D cs tt av v r v' := by
  intro sz
  refine Jvm.Free.MetFree.mono (h sz) (fun a s hp => hv.pc hp) (fun _ _ _ _ _ hk => hk) (fun a s o t hp hq => ?_)
  exact ⟨hv.en hw hq.1, hq.2.elim fun L hL => ⟨L, hL.1, fun q hq => by have := hL.2 q hq; rw [hv.A] at this; exact this⟩⟩
theorem xL.conv {l : Launch} {y : MethodName} {ws : List Cond} {rm : Room} {D : va_G} {cs : Nat → ClassId} {tt : Nat → Nat} {av : List Value} {w w' v v' : va_W} {k : Int32} (h : xL l y ws rm D cs tt av w k w') (hv : zEq v w) (hw : zEq w' v') : xL l y ws rm D cs tt av v k v' := by
  intro sz
  refine Jvm.Free.MetFree.mono (h sz) (fun a s hp => ⟨hv.pc hp.1, hp.2⟩) (fun _ _ _ _ _ hk => hk) (fun a s o t hp hq => ?_)
  rcases hq with hq | ⟨q, -, E, ce, L, hf, -⟩
  · exact Or.inl ⟨hv.en hw hq.1, hq.2.elim fun L hL => ⟨L, hL.1, fun q hq => by have := hL.2 q hq; rw [hv.A] at this; exact this⟩⟩
  · exact hf.elim
/-- one array in other words -/
theorem zset {w v : va_W} {a n : Nat} {cA : ClassId} {f g : Nat → Int32} (q0 : Nat) (ha : w[q0]? = some (a, .inl (cA, n, .inl f))) (h : ∀ j, j < n → f j = g j) (hv : w.set q0 (a, .inl (cA, n, .inl g)) = v) : zEq w v := by
  subst hv
  have hlt : q0 < w.length := (List.getElem?_eq_some_iff.mp ha).1
  refine ⟨?_, fun D H hP k q hq => ?_⟩
  · apply List.ext_getElem?
    intro k
    rw [List.getElem?_map, List.getElem?_map, List.getElem?_set]
    by_cases hk : q0 = k
    · subst hk
      rw [if_pos rfl, if_pos hlt, ha]
      rfl
    · rw [if_neg hk]
  · rw [List.getElem?_set] at hq
    by_cases hk : q0 = k
    · subst hk
      rw [if_pos rfl, if_pos hlt] at hq
      cases hq
      have h1 := hP q0 _ ha
      show H[a]? = some (vp_cell cA (n, .inl g))
      rw [← xcellI h]
      exact h1
    · rw [if_neg hk] at hq
      exact hP k q hq
