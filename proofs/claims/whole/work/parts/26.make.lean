/-! ===== methods that make cells: an end with new addresses ===== -/
def yl (L : List Nat) (k : Nat) : Nat := L.getD k 0
def yE (D : va_G) (A : Nat → Prop) (r : Option Value) (w' : (Nat → Nat) → va_W) : Array Value → State → Outcome → State → Prop := fun _ st oc t => oc = .returned r ∧ (∃ f : Nat → Nat, va_P D vwCl (w' f) t.heap ∧ va_D A (w' f)) ∧ va_F A st t
def yM (l : Launch) (y : MethodName) (ws : List Cond) (rm : Room) (D : va_G) (cs : Nat → ClassId) (tt : Nat → Nat) (av : List Value) (w : va_W) (r : Option Value) (mc ms : Nat) (w' : (Nat → Nat) → va_W) : Prop :=
  ∀ sz : Nat, Met l y ws rm (xPc D cs tt av w sz) (yE D (va_A w sz) r w') mc ms (va_A w sz)
theorem yM.of {l : Launch} {y : MethodName} {ws ws' : List Cond} {rm : Room} {D : va_G} {cs : Nat → ClassId} {tt : Nat → Nat} {av : List Value} {w : va_W} {mc ms : Nat} {w' : (Nat → Nat) → va_W} {r : Option Value} {cc : ByteArray} {maxL : Nat} {ret : Option FieldType} (own : String) (hown : y.cls = own)
    (hy : plainName y.cls = true) (hw : ws = Cond.code y cc maxL ret :: ws') (hn : (lg_sl av).length ≤ maxL)
    (body : ∀ (p : Program) (e : Env) (s : State) (m : MethodId) (below : List Frame) (meth : Method) (c : Code) (A : Nat → Prop) (ls : Array Slot), CallFix p m c cc maxL s av.toArray ws own → meth.sig.returnType = ret → meth.locks = false → meth.name = y.name → xX D cs tt A s → va_P D vwCl w s.heap → va_D A w → va_S A s.heap s.heap [] → lv_has ls maxL (lv_args 0 av) →
      W p l e rm s m av.toArray below meth c s.heap [] 0 0 (MQ below (yE D A r w') av.toArray s mc ms A) (F0 m 0 ls [])) : yM l y ws rm D cs tt av w r mc ms w' := by
  intro sz
  refine Met.ofW (cc := cc) (maxL := maxL) (ret := ret) hy hw ?_
  intro p e s m args below meth c s₁ B hml hv
  obtain ⟨rfl, hsz, hP, hD0, hG, hS⟩ := hv
  subst hsz
  have hl := lv_entry av (n := maxL) hn
  rw [lg_entry_eq]
  exact body p e s m below meth c _ _ ⟨B.exec, B.bytes, hml, hown ▸ findClass_of_methodNamed B.named, atoms_spec (ws := ws) B.pre⟩ B.returns B.notSynchronized (name_of_methodNamed B.named B.method).1 ⟨hG, hS, fun q h => Or.inr h⟩ hP hD0.self va_S.rf hl
/-- behind a call of a maker -/
theorem yjoin {A : Nat → Prop} {D : va_G} {ws w w' : va_W} {H H1 : Heap} {is : List Nat} {n : Nat} (hP : va_P D vwCl ws H) (hD : va_D A ws) (hC : is.map (fun i => ws[i]?) = w.map some) (ha : (w'.take n).map (fun x => x.1) = w.map (fun x => x.1)) (hF : ∀ q, va_A w H.size q → A q)
    (hk : ∀ q : Nat, q < H.size → ¬ va_A w H.size q → H1[q]? = H[q]?) (hP1 : va_P D vwCl w' H1) (hD1 : va_D (va_A w H.size) w') : va_P D vwCl (xput ws is (w'.take n) ++ w'.drop n) H1 ∧ va_D A (xput ws is (w'.take n) ++ w'.drop n) := by
  have t1 : ∀ (k : Nat) (q : Nat × va_E), (w'.take n)[k]? = some q → w'[k]? = some q ∧ k < n := by
    intro k q h
    rw [List.getElem?_take] at h
    by_cases hkn : k < n
    · rw [if_pos hkn] at h; exact ⟨h, hkn⟩
    · rw [if_neg hkn] at h; cases h
  have t2 : ∀ (k : Nat) (q : Nat × va_E), (w'.drop n)[k]? = some q → w'[n + k]? = some q := by
    intro k q h
    rw [List.getElem?_drop] at h
    exact h
  obtain ⟨hP2, hD2⟩ := xjoin (w' := w'.take n) hP hD hC ha hk (fun k q hq => hP1 k q (t1 k q hq).1)
  have hlen : is.length = (w'.take n).length := by
    have h1 : (is.map (fun i => ws[i]?)).length = (w.map some).length := by rw [hC]
    have h2 : ((w'.take n).map (fun x => x.1)).length = (w.map (fun x => x.1)).length := by rw [ha]
    simp only [List.length_map] at h1 h2
    omega
  have hadr : ∀ (j i : Nat) (x : Nat × va_E), is[j]? = some i → (w'.take n)[j]? = some x → ∃ z, ws[i]? = some z ∧ z.1 = x.1 := by
    intro j i x hi hx
    have h1 : ((w'.take n).map (fun x => x.1))[j]? = some x.1 := by rw [List.getElem?_map, hx]; rfl
    rw [ha, List.getElem?_map] at h1
    cases hw : w[j]? with
    | none => rw [hw] at h1; cases h1
    | some z =>
      rw [hw] at h1
      obtain ⟨i', h2, h3⟩ := xplace hC hw
      rw [hi] at h2
      cases h2
      exact ⟨z, h3, Option.some.inj h1⟩
  refine ⟨hP2.app (fun k q hq => hP1 _ q (t2 k q hq)), va_D.app hD2 ⟨fun i j x y hi hj hxy => ?_, fun k q hq => hF _ (hD1.2 _ q (t2 k q hq))⟩ (fun i j x y hx hy hxy => ?_)⟩
  · have := hD1.1 _ _ x y (t2 i x hi) (t2 j y hj) hxy
    omega
  · obtain ⟨z, g1, g2⟩ := xput_adr is (w'.take n) ws hadr i x hx
    have hlt : z.1 < H.size := (hP i z g1).lt
    rcases hD1.2 _ y (t2 j y hy) with ⟨k, e, hk2⟩ | hge
    · have h1 : (w.map (fun x => x.1))[k]? = some y.1 := by rw [List.getElem?_map, hk2]; rfl
      rw [← ha, List.getElem?_map] at h1
      cases hw : (w'.take n)[k]? with
      | none => rw [hw] at h1; cases h1
      | some z2 =>
        rw [hw] at h1
        have e1 : z2.1 = y.1 := Option.some.inj h1
        have := hD1.1 _ _ z2 y (t1 k z2 hw).1 (t2 j y hy) e1
        have := (t1 k z2 hw).2
        omega
    · omega
theorem ycellR {cA : ClassId} {n : Nat} {f g : Nat → Option Nat} (h : ∀ j, j < n → f j = g j) : vp_cell cA (n, .inr (.inr (.inr (.inr f)))) = vp_cell cA (n, .inr (.inr (.inr (.inr g)))) := by
  rw [vp_cell_q, vp_cell_q]
  unfold arrV
  congr 1
  apply Array.ext
  · simp
  · intro i h1 h2
    simp at h1
    simp [h i h1]
theorem ycongP {D : va_G} {ws : va_W} {H : Heap} {A : Nat → Prop} {a n : Nat} {cA : ClassId} {f g : Nat → Option Nat} (hP : va_P D vwCl ws H) (q0 : Nat) (ha : ws[q0]? = some (a, .inl (cA, n, .inr (.inr (.inr (.inr f)))))) (hD : va_D A ws) (h : ∀ j, j < n → f j = g j) : va_P D vwCl (ws.set q0 (a, .inl (cA, n, .inr (.inr (.inr (.inr g)))))) H := by
  refine hP.set hD ha ?_ (fun _ _ => rfl)
  have h1 := hP q0 _ ha
  show H[a]? = some (vp_cell cA (n, .inr (.inr (.inr (.inr g)))))
  rw [← ycellR h]
  exact h1
theorem ycongD {ws : va_W} {A : Nat → Prop} {a n : Nat} {cA : ClassId} {f g : Nat → Option Nat} (q0 : Nat) (ha : ws[q0]? = some (a, .inl (cA, n, .inr (.inr (.inr (.inr f)))))) (hD : va_D A ws) : va_D A (ws.set q0 (a, .inl (cA, n, .inr (.inr (.inr (.inr g)))))) := hD.set ha
section YC
variable {p : Program} {l : Launch} {e : Env} {R : Room} {s : State} {m : MethodId} {args : Array Value} {below : List Frame} {meth : Method} {c : Code} {H : Heap} {locs : List Loc} {cells slots : Nat} {Q : State → Prop}
variable {cc : ByteArray} {pc : Nat} {ls : Array Slot} {rest st0 st1 : List Value} {D : va_G} {cs : Nat → ClassId} {tt : Nat → Nat} {A : Nat → Prop} {ws w : va_W} {w' ws1 : (Nat → Nat) → va_W} {mc ms : Nat}
variable {y : MethodName} {bytes : ByteArray} {maxL nL index n : Nat} {ret : Option FieldType} {wsc ws' Ts : List Cond} {rm : Room} {own C : String} {b : Nat} {As : List Value} {r : Option Value}
theorem ygo {As' : Array Value} (hrun : va_Run p l e R s m args below meth c H locs cells slots mc ms (F0 m pc ls st0) rest (yE D (va_A w H.size) r w' As') (va_A w H.size)) (hX : xX D cs tt A s) (hP : va_P D vwCl ws H) (hD : va_D A ws) (hS : va_S A s.heap H locs) {is : List Nat} (hC : is.map (fun i => ws[i]?) = w.map some) (k0 : Nat) (ha : ∀ f, ((w' f).take k0).map (fun x => x.1) = w.map (fun x => x.1)) (hws1 : ∀ f, xput ws is ((w' f).take k0) ++ (w' f).drop k0 = ws1 f) (hst1 : r.toList ++ rest = st1)
    (kk : ∀ (f : Nat → Nat) (H1 : Heap) (locs1 : List Loc), va_P D vwCl (ws1 f) H1 → va_D A (ws1 f) → va_S A s.heap H1 locs1 → W p l e R s m args below meth c H1 locs1 (cells + mc) (slots + ms) Q (F0 m (pc + 3) ls st1)) : W p l e R s m args below meth c H locs cells slots Q (F0 m pc ls st0) := by
  intro T hT X
  subst hst1
  have hFc := va_free (wc := w) hD hS hX.2.2 is hC
  obtain ⟨v, st₀, t, T', L, h0, X', hL, e1, e2, ⟨hv, ⟨f, hP1, hD1⟩, hF1⟩, st⟩ := hrun T hT X
  cases hv
  obtain ⟨hz, hk⟩ := hF1
  rw [h0] at hz hk
  obtain ⟨hP2, hD2⟩ := yjoin (H1 := t.heap) (n := k0) hP hD hC (ha f) hFc hk hP1 hD1
  rw [hws1 f] at hP2 hD2
  have hS2 : va_S A s.heap T'.heap (locs ++ L) := ⟨Nat.le_trans hS.1 (by rw [e1]; exact hz), fun q h1 h2 => by rw [e1, hk q (Nat.lt_of_lt_of_le h1 hS.1) (fun z => h2 (hFc q z))]; exact hS.2.1 q h1 h2, fun q hq => by
    rcases List.mem_append.mp hq with h | h
    · exact hS.2.2 q h
    · exact hFc _ (hL q h)⟩
  obtain ⟨t2, a1, b1⟩ := kk f T'.heap (locs ++ L) (by rw [e1]; exact hP2) hD2 hS2 T' rfl X'
  exact ⟨t2, st t2 a1, b1⟩
/-- a constructor's call -/
theorem yI (hF : CallFix p m c cc nL s args Ts own) (hM : yM l y wsc rm D cs tt (.ref b :: As) w none mc ms w') (hT : GoodIn Ts wsc) (hw : wsc = Cond.code y bytes maxL none :: ws') (hini : (Cond.initialized y.cls) ∈ Ts) (hln : (Cond.methodLink own index y) ∈ Ts) (hin : (Cond.instanceMethod y) ∈ Ts) (hy1 : y.name = "<init>")
    (hd : y.cls ≠ "java/lang/invoke/MethodHandle" ∧ y.cls ≠ "java/lang/invoke/VarHandle" ∧ (parseMethodDescriptor y.desc).map (fun d => d.parameters.length) = some n) (hn : As.length = n)
    (hR : (rm.cells = mc ∧ rm.slots = ms) ∧ rm.frames + 1 ≤ R.frames ∧ 8 + (maxL + 11) + rm.locals ≤ R.locals) (hf : cells + mc ≤ R.cells ∧ slots + ms ≤ R.slots)
    (hX : xX D cs tt A s) (hP : va_P D vwCl ws H) (hD : va_D A ws) (hS : va_S A s.heap H locs) (is : List Nat) (hnd : va_nd is = true) (hC : is.map (fun i => ws[i]?) = w.map some) (k0 : Nat) (ha : ∀ f, ((w' f).take k0).map (fun x => x.1) = w.map (fun x => x.1))
    (hl : ls.size = nL) (hst : st0 = As.reverse ++ .ref b :: rest) (hrest : (rest.map fun v => v.category).sum ≤ 8) (hdg : decode cc pc = .ok (.invokespecial index, 3)) (hws1 : ∀ f, xput ws is ((w' f).take k0) ++ (w' f).drop k0 = ws1 f)
    (kk : ∀ (f : Nat → Nat) (H1 : Heap) (locs1 : List Loc), va_P D vwCl (ws1 f) H1 → va_D A (ws1 f) → va_S A s.heap H1 locs1 → W p l e R s m args below meth c H1 locs1 (cells + mc) (slots + ms) Q (F0 m (pc + 3) ls rest)) : W p l e R s m args below meth c H locs cells slots Q (F0 m pc ls st0) := by
  subst hst
  exact ygo (va_runI (rest := rest) hF (hM H.size) (cwI n hF.2.2.2.2 hT hw hR.1.1 hR.1.2 (hF.2.2.2.2 _ hini) (hF.2.2.2.2 _ hln) (hF.2.2.2.2 _ hin) hy1 hd hR.2) ⟨xPc.blind, fun U hU hW => xpre hX hP hD hS hC hnd hU hW⟩ rfl hn hl rfl (lv_room hrest) hdg hf) hX hP hD hS hC k0 ha hws1 rfl kk
/-- a private constructor's call within the nest -/
theorem yIN {host : String} (hF : CallFix p m c cc nL s args Ts own) (hM : yM l y wsc rm D cs tt (.ref b :: As) w none mc ms w') (hT : GoodIn Ts wsc) (hw : wsc = Cond.code y bytes maxL none :: ws') (hini : (Cond.initialized y.cls) ∈ Ts) (hln : Cond.methodLinkNest own index y host ∈ xNests) (hin : (Cond.instanceMethod y) ∈ Ts) (hy1 : y.name = "<init>")
    (hd : y.cls ≠ "java/lang/invoke/MethodHandle" ∧ y.cls ≠ "java/lang/invoke/VarHandle" ∧ (parseMethodDescriptor y.desc).map (fun d => d.parameters.length) = some n) (hn : As.length = n)
    (hR : (rm.cells = mc ∧ rm.slots = ms) ∧ rm.frames + 1 ≤ R.frames ∧ 8 + (maxL + 11) + rm.locals ≤ R.locals) (hf : cells + mc ≤ R.cells ∧ slots + ms ≤ R.slots)
    (hX : xX D cs tt A s) (hP : va_P D vwCl ws H) (hD : va_D A ws) (hS : va_S A s.heap H locs) (is : List Nat) (hnd : va_nd is = true) (hC : is.map (fun i => ws[i]?) = w.map some) (k0 : Nat) (ha : ∀ f, ((w' f).take k0).map (fun x => x.1) = w.map (fun x => x.1))
    (hl : ls.size = nL) (hst : st0 = As.reverse ++ .ref b :: rest) (hrest : (rest.map fun v => v.category).sum ≤ 8) (hdg : decode cc pc = .ok (.invokespecial index, 3)) (hws1 : ∀ f, xput ws is ((w' f).take k0) ++ (w' f).drop k0 = ws1 f)
    (kk : ∀ (f : Nat → Nat) (H1 : Heap) (locs1 : List Loc), va_P D vwCl (ws1 f) H1 → va_D A (ws1 f) → va_S A s.heap H1 locs1 → W p l e R s m args below meth c H1 locs1 (cells + mc) (slots + ms) Q (F0 m (pc + 3) ls rest)) : W p l e R s m args below meth c H locs cells slots Q (F0 m pc ls st0) := by
  subst hst
  exact ygo (va_runIN (rest := rest) hF (hM H.size) ⟨va_cnB n hF.2.2.2.2 hT hw hR.1.1 hR.1.2 (hX.1.2.1 _ hln) (hF.2.2.2.2 _ hini) hd hR.2, hy1, hF.2.2.2.2 _ hin⟩ ⟨xPc.blind, fun U hU hW => xpre hX hP hD hS hC hnd hU hW⟩ rfl hn hl rfl (lv_room hrest) hdg hf) hX hP hD hS hC k0 ha hws1 rfl kk
theorem yobj (hF : CallFix p m c cc nL s args Ts own) (hl : ls.size = nL) (hlink : (Cond.methodLink own index objectInit) ∈ Ts) (hinst : (Cond.instanceMethod objectInit) ∈ Ts) (hcode : (Cond.code objectInit ⟨#[0xb1]⟩ 1 none) ∈ Ts) (hfr : 1 ≤ R.frames) (hlo : (rest.map fun v => v.category).sum + 12 ≤ R.locals) (hdg : decode cc pc = .ok (.invokespecial index, 3))
    (kk : W p l e R s m args below meth c H locs cells slots Q (F0 m (pc + 3) ls rest)) : W p l e R s m args below meth c H locs cells slots Q (F0 m pc ls (.ref b :: rest)) :=
  W.objInit hF.1 hF.2.1 hF.2.2.2.1 (hF.2.2.2.2 _ hlink) (hF.2.2.2.2 _ hinst) (hF.2.2.2.2 _ hcode) rfl (hl.trans hF.2.2.1.symm) rfl hdg hfr (by show 2 * 0 + _ + 12 ≤ _; omega) (W.eq rfl kk)
theorem yputF {T : u_T} {N ci : Nat} {ws1 : va_W} (hF : CallFix p m c cc nL s args Ts own) (hX : xX D cs tt A s) (hP : va_P D vwCl ws H) (hD : va_D A ws) (hS : va_S A s.heap H locs) (hin : ∀ w ∈ u_ws C T N, w ∈ Ts) (ty0 : Nat → FieldType) (hty : ∀ k, k < N → parseFieldDescriptor (T k).2.2.1 = some (ty0 k)) (hnm : ∀ a, a < N → ∀ b, b < N → a ≠ b → (T a).2.1 ≠ (T b).2.1) (q0 k : Nat) {a : Nat} {fs : List Value} {v : Value} (he : ws[q0]? = some (a, .inr (ci, fs))) (hc : vwCl[ci]? = some (C, T, N)) (hk : k < N) (hlink : (Cond.fieldLink own index (T k).1 (T k).2.1 (T k).2.2.1) ∈ Ts) (hfin : (T k).2.2.2 = true) (hin2 : meth.name = "<init>") (hdecl : (T k).1 = own) (hn : narrow (ty0 k) v = v) (hfit : fits (ty0 k) v = true) (hl : k < fs.length) (hdg : decode cc pc = .ok (.putfield index, 3)) (hws1 : ws.set q0 (a, .inr (ci, fs.set k v)) = ws1)
    (kk : ∀ (H1 : Heap) (locs1 : List Loc), va_P D vwCl ws1 H1 → va_D A ws1 → va_S A s.heap H1 locs1 → W p l e R s m args below meth c H1 locs1 cells slots Q (F0 m (pc + 3) ls rest)) : W p l e R s m args below meth c H locs cells slots Q (F0 m pc ls (v :: .ref a :: rest)) := by
  subst hws1
  exact va_putF (D := D) hF.1 hF.2.1 hF.2.2.2.2 hin ty0 hty hnm hF.2.2.2.1 hX.K hP hD hS q0 he hc k hk (hF.2.2.2.2 _ hlink) (fun _ h => h) hfin hin2 hdecl (hty k hk) hn hfit hl hdg kk
theorem ynew {T : u_T} {N ci : Nat} {ws1 : Nat → va_W} (hF : CallFix p m c cc nL s args Ts own) (hX : xX D cs tt A s) (hP : va_P D vwCl ws H) (hD : va_D A ws) (hS : va_S A s.heap H locs) (hin : ∀ w ∈ u_ws C T N, w ∈ Ts) (ty0 : Nat → FieldType) (hty : ∀ k, k < N → parseFieldDescriptor (T k).2.2.1 = some (ty0 k)) (hcl : (Cond.classLink own index C) ∈ Ts) (hinst : (Cond.instantiable C N) ∈ Ts) (hini : (Cond.initialized C) ∈ Ts) (hc : vwCl[ci]? = some (C, T, N)) (fs : List Value) (hfs : ∀ j, j < N → defaultValue (ty0 j) = vp_V fs j) (hcells : cells + 1 ≤ R.cells) (hslots : slots + N ≤ R.slots) (hdg : decode cc pc = .ok (.new index, 3)) (hws1 : ∀ q, ws ++ [(q, .inr (ci, fs))] = ws1 q)
    (kk : ∀ (q : Nat) (H1 : Heap), va_P D vwCl (ws1 q) H1 → va_D A (ws1 q) → va_S A s.heap H1 locs → W p l e R s m args below meth c H1 locs (cells + 1) (slots + N) Q (F0 m (pc + 3) ls (.ref q :: rest))) : W p l e R s m args below meth c H locs cells slots Q (F0 m pc ls rest) := by
  refine va_new (D := D) hF.1 hF.2.1 hF.2.2.2.2 hin ty0 hty hF.2.2.2.1 (hF.2.2.2.2 _ hcl) (hF.2.2.2.2 _ hinst) (hF.2.2.2.2 _ hini) hX.K hP hD hS hX.2.2 hc hfs hcells hslots hdg (fun q H1 h1 h2 h3 => ?_)
  rw [hws1 q] at h1 h2
  exact kk q H1 h1 h2 h3
theorem ynewi {n : Int32} {N' : Nat} {ws1 : Nat → va_W} (hF : CallFix p m c cc nL s args Ts own) (hX : xX D cs tt A s) (hP : va_P D vwCl ws H) (hD : va_D A ws) (hS : va_S A s.heap H locs) (harr : Cond.arrayClass .int ∈ Ts) (hn : ¬ n < 0) (hN : n.toNatClampNeg = N') (hbytes : N' * 4 ≤ 536870912) (hcells : cells + 1 ≤ R.cells) (hslots : slots + N' ≤ R.slots) (hdg : decode cc pc = .ok (.newarray .int, 2)) (hws1 : ∀ q, ws ++ [(q, .inl (cs 0, N', .inl (fun _ => 0)))] = ws1 q)
    (kk : ∀ (q : Nat) (H1 : Heap), va_P D vwCl (ws1 q) H1 → va_D A (ws1 q) → va_S A s.heap H1 locs → W p l e R s m args below meth c H1 locs (cells + 1) (slots + N') Q (F0 m (pc + 2) ls (.ref q :: rest))) : W p l e R s m args below meth c H locs cells slots Q (F0 m pc ls (.int n :: rest)) := by
  refine va_newa (a0 := (N', .inl (fun _ => 0))) hF.1 hF.2.1 (atype := .int) (hF.2.2.2.2 _ harr) rfl hX.K hP hD hS hX.2.2 (fun _ => rfl) hn hN hbytes hcells hslots hdg (fun q cA H1 hK h1 h2 h3 => ?_)
  have e1 : s.vm.findClass ("[" ++ FieldType.int.toString) = some cA := (hK.2 6 _ rfl).2
  have e0 : s.vm.findClass ("[" ++ FieldType.int.toString) = some (cs 0) := (hX.K.2 0 _ rfl).2
  have ec : cA = cs 0 := Option.some.inj (e1.symm.trans e0)
  subst ec
  rw [hws1 q] at h1 h2
  exact kk q H1 h1 h2 h3
theorem ynewz {n : Int32} {N' : Nat} {ws1 : Nat → va_W} (hF : CallFix p m c cc nL s args Ts own) (hX : xX D cs tt A s) (hP : va_P D vwCl ws H) (hD : va_D A ws) (hS : va_S A s.heap H locs) (harr : Cond.arrayClass .boolean ∈ Ts) (hn : ¬ n < 0) (hN : n.toNatClampNeg = N') (hbytes : N' * 1 ≤ 536870912) (hcells : cells + 1 ≤ R.cells) (hslots : slots + N' ≤ R.slots) (hdg : decode cc pc = .ok (.newarray .boolean, 2)) (hws1 : ∀ q, ws ++ [(q, .inl (cs 1, N', .inl (fun _ => 0)))] = ws1 q)
    (kk : ∀ (q : Nat) (H1 : Heap), va_P D vwCl (ws1 q) H1 → va_D A (ws1 q) → va_S A s.heap H1 locs → W p l e R s m args below meth c H1 locs (cells + 1) (slots + N') Q (F0 m (pc + 2) ls (.ref q :: rest))) : W p l e R s m args below meth c H locs cells slots Q (F0 m pc ls (.int n :: rest)) := by
  refine va_newa (a0 := (N', .inl (fun _ => 0))) hF.1 hF.2.1 (atype := .boolean) (hF.2.2.2.2 _ harr) rfl hX.K hP hD hS hX.2.2 (fun _ => rfl) hn hN hbytes hcells hslots hdg (fun q cA H1 hK h1 h2 h3 => ?_)
  have e1 : s.vm.findClass ("[" ++ FieldType.boolean.toString) = some cA := (hK.2 6 _ rfl).2
  have e0 : s.vm.findClass ("[" ++ FieldType.boolean.toString) = some (cs 1) := (hX.K.2 1 _ rfl).2
  have ec : cA = cs 1 := Option.some.inj (e1.symm.trans e0)
  subst ec
  rw [hws1 q] at h1 h2
  exact kk q H1 h1 h2 h3
theorem ynewJ {n : Int32} {N' : Nat} {ws1 : Nat → va_W} (hF : CallFix p m c cc nL s args Ts own) (hX : xX D cs tt A s) (hP : va_P D vwCl ws H) (hD : va_D A ws) (hS : va_S A s.heap H locs) (harr : Cond.arrayClass .long ∈ Ts) (hn : ¬ n < 0) (hN : n.toNatClampNeg = N') (hbytes : N' * 8 ≤ 536870912) (hcells : cells + 1 ≤ R.cells) (hslots : slots + N' ≤ R.slots) (hdg : decode cc pc = .ok (.newarray .long, 2)) (hws1 : ∀ q, ws ++ [(q, .inl (cs 4, N', .inr (.inl (fun _ => 0))))] = ws1 q)
    (kk : ∀ (q : Nat) (H1 : Heap), va_P D vwCl (ws1 q) H1 → va_D A (ws1 q) → va_S A s.heap H1 locs → W p l e R s m args below meth c H1 locs (cells + 1) (slots + N') Q (F0 m (pc + 2) ls (.ref q :: rest))) : W p l e R s m args below meth c H locs cells slots Q (F0 m pc ls (.int n :: rest)) := by
  refine va_newa (a0 := (N', .inr (.inl (fun _ => 0)))) hF.1 hF.2.1 (atype := .long) (hF.2.2.2.2 _ harr) rfl hX.K hP hD hS hX.2.2 (fun _ => rfl) hn hN hbytes hcells hslots hdg (fun q cA H1 hK h1 h2 h3 => ?_)
  have e1 : s.vm.findClass ("[" ++ FieldType.long.toString) = some cA := (hK.2 6 _ rfl).2
  have e0 : s.vm.findClass ("[" ++ FieldType.long.toString) = some (cs 4) := (hX.K.2 4 _ rfl).2
  have ec : cA = cs 4 := Option.some.inj (e1.symm.trans e0)
  subst ec
  rw [hws1 q] at h1 h2
  exact kk q H1 h1 h2 h3
theorem ynewD {n : Int32} {N' : Nat} {ws1 : Nat → va_W} (hF : CallFix p m c cc nL s args Ts own) (hX : xX D cs tt A s) (hP : va_P D vwCl ws H) (hD : va_D A ws) (hS : va_S A s.heap H locs) (harr : Cond.arrayClass .double ∈ Ts) (hn : ¬ n < 0) (hN : n.toNatClampNeg = N') (hbytes : N' * 8 ≤ 536870912) (hcells : cells + 1 ≤ R.cells) (hslots : slots + N' ≤ R.slots) (hdg : decode cc pc = .ok (.newarray .double, 2)) (hws1 : ∀ q, ws ++ [(q, .inl (cs 5, N', .inr (.inr (.inr (.inl (fun _ => 0))))))] = ws1 q)
    (kk : ∀ (q : Nat) (H1 : Heap), va_P D vwCl (ws1 q) H1 → va_D A (ws1 q) → va_S A s.heap H1 locs → W p l e R s m args below meth c H1 locs (cells + 1) (slots + N') Q (F0 m (pc + 2) ls (.ref q :: rest))) : W p l e R s m args below meth c H locs cells slots Q (F0 m pc ls (.int n :: rest)) := by
  refine va_newa (a0 := (N', .inr (.inr (.inr (.inl (fun _ => 0)))))) hF.1 hF.2.1 (atype := .double) (hF.2.2.2.2 _ harr) rfl hX.K hP hD hS hX.2.2 (fun _ => rfl) hn hN hbytes hcells hslots hdg (fun q cA H1 hK h1 h2 h3 => ?_)
  have e1 : s.vm.findClass ("[" ++ FieldType.double.toString) = some cA := (hK.2 6 _ rfl).2
  have e0 : s.vm.findClass ("[" ++ FieldType.double.toString) = some (cs 5) := (hX.K.2 5 _ rfl).2
  have ec : cA = cs 5 := Option.some.inj (e1.symm.trans e0)
  subst ec
  rw [hws1 q] at h1 h2
  exact kk q H1 h1 h2 h3
theorem ynewq {n : Int32} {N' : Nat} {ws1 : Nat → va_W} (hF : CallFix p m c cc nL s args Ts own) (hX : xX D cs tt A s) (hP : va_P D vwCl ws H) (hD : va_D A ws) (hS : va_S A s.heap H locs) (hcl : (Cond.classLink own index "PictureDeck$Plane") ∈ Ts) (hn : ¬ n < 0) (hN : n.toNatClampNeg = N') (hbytes : N' * 4 ≤ 536870912) (hcells : cells + 1 ≤ R.cells) (hslots : slots + N' ≤ R.slots) (hdg : decode cc pc = .ok (.anewarray index, 3)) (hws1 : ∀ q, ws ++ [(q, .inl (cs 2, N', .inr (.inr (.inr (.inr (fun _ => none))))))] = ws1 q)
    (kk : ∀ (q : Nat) (H1 : Heap), va_P D vwCl (ws1 q) H1 → va_D A (ws1 q) → va_S A s.heap H1 locs → W p l e R s m args below meth c H1 locs (cells + 1) (slots + N') Q (F0 m (pc + 3) ls (.ref q :: rest))) : W p l e R s m args below meth c H locs cells slots Q (F0 m pc ls (.int n :: rest)) := by
  refine va_newq (C := "PictureDeck$Plane") hF.1 hF.2.1 hF.2.2.2.1 (hF.2.2.2.2 _ hcl) hX.1.2.2.1.1 hX.K hP hD hS hX.2.2 hn hN hbytes hcells hslots hdg (fun q cA H1 hK h1 h2 h3 => ?_)
  obtain ⟨_, _, _, _, _, e1⟩ : va_RA s cA (.object "PictureDeck$Plane") := (hK.2 6 _ rfl).2
  obtain ⟨_, _, _, _, _, e0⟩ : va_RA s (cs 2) (.object "PictureDeck$Plane") := (hX.K.2 2 _ rfl).2
  have ec : cA = cs 2 := Option.some.inj (e1.symm.trans e0)
  subst ec
  rw [hws1 q] at h1 h2
  exact kk q H1 h1 h2 h3
theorem yastq {i : Int32} {k n v : Nat} {vs : List Value} {f : Nat → Option Nat} {a : Nat} {ws1 : va_W} (hF : CallFix p m c cc nL s args Ts own) (hX : xX D cs tt A s) (hP : va_P D vwCl ws H) (hD : va_D A ws) (hS : va_S A s.heap H locs) (q0 qk : Nat) (ha : ws[q0]? = some (a, .inl (cs 2, n, .inr (.inr (.inr (.inr f)))))) (hv : ws[qk]? = some (v, .inr (4, vs))) (hi : i.toNatClampNeg = k) (hin : vp_in i n) (hdg : decode cc pc = .ok (.aastore, 1)) (hws1 : ws.set q0 (a, .inl (cs 2, n, .inr (.inr (.inr (.inr (va_up f k (some v))))))) = ws1)
    (kk : ∀ (H1 : Heap) (locs1 : List Loc), va_P D vwCl ws1 H1 → va_D A ws1 → va_S A s.heap H1 locs1 → W p l e R s m args below meth c H1 locs1 cells slots Q (F0 m (pc + 1) ls rest)) : W p l e R s m args below meth c H locs cells slots Q (F0 m pc ls (.ref v :: .int i :: .ref a :: rest)) := by
  subst hi
  subst hws1
  exact va_astq (r := ("PictureDeck$Plane", TX4, 4)) hF.1 hF.2.1 hX.K hP hD hS q0 2 qk 4 ha rfl hv rfl hin hdg kk
def yduo (m0 m1 : Nat) : Nat → Option Nat := fun i => if i < 2 then some (yl [m0, m1] i) else none
theorem ymna {ws1 : Nat → Nat → Nat → va_W} (hF : CallFix p m c cc nL s args Ts own) (hX : xX D cs tt A s) (hP : va_P D vwCl ws H) (hD : va_D A ws) (hS : va_S A s.heap H locs) (hcl : (Cond.classLink own index "[[I") ∈ Ts) (harr : Cond.arrayClass .int ∈ Ts) (hcells : cells + (1 + 2) ≤ R.cells) (hslots : slots + (2 + 2 * 64) ≤ R.slots) (hdg : decode cc pc = .ok (.multianewarray index 2, 4)) (hws1 : ∀ q m0 m1, ws ++ [(q, .inl (cs 3, 2, .inr (.inr (.inr (.inr (yduo m0 m1)))))), (m0, .inl (cs 0, 64, .inl (fun _ => 0))), (m1, .inl (cs 0, 64, .inl (fun _ => 0)))] = ws1 q m0 m1)
    (kk : ∀ (q m0 m1 : Nat) (H1 : Heap), va_P D vwCl (ws1 q m0 m1) H1 → va_D A (ws1 q m0 m1) → va_S A s.heap H1 locs → W p l e R s m args below meth c H1 locs (cells + 1 + 2) (slots + 2 + 2 * 64) Q (F0 m (pc + 4) ls (.ref q :: rest))) : W p l e R s m args below meth c H locs cells slots Q (F0 m pc ls (.int 64 :: .int 2 :: rest)) := by
  have hcy : s.vm.findClass (FieldType.array .int).toString = some (cs 0) := (hX.K.2 0 _ rfl).2
  have e0 : s.vm.findClass ("[" ++ (FieldType.array .int).toString) = some (cs 3) := (hX.K.2 3 _ rfl).2
  have n0 : ws ++ va_pl [] (fun _ => (.inl (cs 0, 64, .inl (fun _ => 0)) : va_E)) = ws := List.append_nil _
  refine va_mna (X := ws) (L := []) (f := fun _ => (.inl (cs 0, 64, .inl (fun _ => 0)) : va_E)) (ty := .int) (z := (64, .inl (fun _ => 0))) hF.1 hF.2.1 hF.2.2.2.1 (hF.2.2.2.2 _ hcl) hX.1.2.2.1.2 (hF.2.2.2.2 _ harr) hcy hX.K (by rw [n0]; exact hP) (by rw [n0]; exact hD) hS hX.2.2 (N' := 2) (K' := 64) (by decide) (by decide) rfl rfl (by decide) (by decide) (by decide) rfl rfl hcells hslots ?_ hdg (fun q r cA H1 hinj hnL hK h1 h2 h3 => ?_)
  · intro c
    show ({ cls := c, slots := Array.replicate 64 (.int 0), vm := .none } : Cell) = _
    rw [arrV_new]
    rfl
  have e1 : s.vm.findClass ("[" ++ (FieldType.array .int).toString) = some cA := (hK.2 6 _ rfl).2
  have ec : cA = cs 3 := Option.some.inj (e1.symm.trans e0)
  subst ec
  have ef : (fun i => if i < 2 then some (r i) else none) = yduo (r 0) (r 1) := by
    funext i
    unfold yduo
    by_cases h : i < 2
    · rw [if_pos h, if_pos h]
      match i, h with
      | 0, _ => rfl
      | 1, _ => rfl
    · rw [if_neg h, if_neg h]
  have el : (ws ++ [(q, (.inl (cs 3, 2, .inr (.inr (.inr (.inr (fun i => if i < 2 then some (r i) else none))))) : va_E))]) ++ va_pl ([] ++ (List.range 2).map r) (vr_up (fun _ => (.inl (cs 0, 64, .inl (fun _ => 0)) : va_E)) ((List.range 2).map r) (.inl (cs 0, (64, .inl (fun _ => 0))))) = ws1 q (r 0) (r 1) := by
    rw [ef, ← hws1, List.append_assoc]
    congr 1
    have e5 : (List.range 2).map r = [r 0, r 1] := rfl
    rw [e5]
    show _ :: va_pl [r 0, r 1] _ = _
    unfold va_pl
    simp [vr_up]
  rw [el] at h1 h2
  exact kk q (r 0) (r 1) H1 h1 h2 h3
theorem yrv {w9 : (Nat → Nat) → va_W} (f : Nat → Nat) (hF : CallFix p m c cc nL s args Ts own) (hr : meth.sig.returnType = none) (hlk : meth.locks = false) (hP : va_P D vwCl (w9 f) H) (hD : va_D A (w9 f)) (hS : va_S A s.heap H locs) (hdg : decode cc pc = .ok (.return_, 1)) : W p l e R s m args below meth c H locs mc ms (MQ below (yE D A none w9) args s mc ms A) (F0 m pc ls []) :=
  W.vret hF.1 hF.2.1 hr (fun t ht _ => ⟨rfl, ⟨f, by rw [ht]; exact hP, hD⟩, hS.F ht⟩) hS.2.2 hdg hlk
end YC
