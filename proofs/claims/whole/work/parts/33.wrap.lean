/-! ===== the law's own static methods: a call of the class, and what it throws caught ===== -/
def xL (l : Launch) (y : MethodName) (ws : List Cond) (rm : Room) (D : va_G) (cs : Nat → ClassId) (tt : Nat → Nat) (av : List Value) (w : va_W) (k : Int32) (w' : va_W) : Prop :=
  ∀ sz : Nat, vx_Met l y ws rm (xPt D cs tt av w sz) (xE D (va_A w sz) (some (.int k)) w') (fun _ _ _ => False) 1 6 (va_A w sz)
theorem xL.of {l : Launch} {y : MethodName} {ws ws' : List Cond} {rm : Room} {D : va_G} {cs : Nat → ClassId} {tt : Nat → Nat} {av : List Value} {w w' : va_W} {k : Int32} {cc : ByteArray} {maxL : Nat} {ret : Option FieldType} {hh : List (Nat × Nat × Nat × Nat)} (own : String) (hown : y.cls = own)
    (hy : plainName y.cls = true) (hw : ws = Cond.codeWith y cc maxL ret hh :: ws') (hn : (lg_sl av).length ≤ maxL)
    (body : ∀ (p : Program) (e : Env) (s : State) (m : MethodId) (below : List Frame) (meth : Method) (c : Code) (A : Nat → Prop) (ls : Array Slot), CallFix p m c cc maxL s av.toArray ws own → c.exceptionTable.toList = tableOf hh → meth.sig.returnType = ret → meth.locks = false → xX D cs tt A s → xC s → va_P D vwCl w s.heap → va_D A w → va_S A s.heap s.heap [] → lv_has ls maxL (lv_args 0 av) →
      W p l e rm s m av.toArray below meth c s.heap [] 0 0 (vx_MQ below (xE D A (some (.int k)) w') (fun _ _ _ => False) av.toArray s 1 6 A) (F0 m 0 ls [])) : xL l y ws rm D cs tt av w k w' := by
  intro sz
  refine vx_ofWH (cc := cc) (maxL := maxL) (ret := ret) hy hw ?_
  intro p e s m args below meth c s₁ B hml hv
  obtain ⟨⟨rfl, hsz, hP, hD0, hG, hS⟩, hC⟩ := hv
  subst hsz
  have hl := lv_entry av (n := maxL) hn
  rw [lg_entry_eq]
  have hat := atoms_spec (ws := ws) B.pre
  exact body p e s m below meth c _ _ ⟨B.exec, B.bytes, hml, hown ▸ findClass_of_methodNamed B.named, hat⟩ (vx_table (x := y) B (hat _ (by rw [hw]; exact List.mem_cons_self))) B.returns B.notSynchronized ⟨hG, hS, fun q h => Or.inr h⟩ hC hP hD0.self va_S.rf hl
section XLr
variable {p : Program} {l : Launch} {e : Env} {R : Room} {s : State} {m : MethodId} {args : Array Value} {below : List Frame} {meth : Method} {c : Code} {H : Heap} {locs : List Loc} {cells slots : Nat} {Q : State → Prop}
variable {cc : ByteArray} {pc : Nat} {ls : Array Slot} {rest st0 : List Value} {D : va_G} {cs : Nat → ClassId} {tt : Nat → Nat} {A : Nat → Prop} {ws w w' : va_W}
variable {y : MethodName} {bytes : ByteArray} {maxL nL index n : Nat} {ret : Option FieldType} {wsc ws' Ts : List Cond} {rm : Room} {own C : String} {b : Nat} {As : List Value} {E : String}
/-- a call by invokevirtual of a method that throws -/
theorem xVT (hF : CallFix p m c cc nL s args Ts own) (hM : xT l y wsc rm D cs tt (.ref b :: As) w E) (hT : GoodIn Ts (wsV own index C y wsc)) (hw : wsc = Cond.code y bytes maxL ret :: ws')
    (hd : y.cls = C ∧ y.cls ≠ "java/lang/invoke/MethodHandle" ∧ y.cls ≠ "java/lang/invoke/VarHandle" ∧ (parseMethodDescriptor y.desc).map (fun d => d.parameters.length) = some n) (hn : As.length = n)
    (hR : (rm.cells = 1 ∧ rm.slots = 6) ∧ rm.frames + 1 ≤ R.frames ∧ 8 + (maxL + 11) + rm.locals ≤ R.locals) (hf : cells + 1 ≤ R.cells ∧ slots + 6 ≤ R.slots)
    (hX : xX D cs tt A s) (hXC : xC s) (hP : va_P D vwCl ws H) (hD : va_D A ws) (hS : va_S A s.heap H locs) (is : List Nat) (hnd : va_nd is = true) (hC : is.map (fun i => ws[i]?) = w.map some) (hws1 : xput ws is w = ws)
    {q0 ci : Nat} {cq : vw_C} {fs : List Value} (hb : ws[q0]? = some (b, .inr (ci, fs))) (hc : vwCl[ci]? = some cq) (hcq : cq.1 = C)
    (hl : ls.size = nL) (hst : st0 = As.reverse ++ .ref b :: rest) (hrest : (rest.map fun v => v.category).sum ≤ 8) (hdg : decode cc pc = .ok (.invokevirtual index, 3))
    (kk : ∀ (q : Addr) (ce : Cell) (H1 : Heap) (locs1 : List Loc), va_P D vwCl ws H1 → va_D A ws → va_S A s.heap H1 locs1 → H1[q]? = some ce → ce.vm = .none → s.vm.findClass E = some ce.cls → vx_W p l e R s m args below meth c H1 locs1 (cells + 1) (slots + 6) Q (F0 m pc ls rest) q) : W p l e R s m args below meth c H locs cells slots Q (F0 m pc ls st0) := by
  subst hst
  subst hcq
  intro T hT9 X
  have hFc := va_free (wc := w) hD hS hX.2.2 is hC
  rcases vx_runV (rest := rest) hF (hM H.size) (cwV n hF.2.2.2.2 hT hw hR.1.1 hR.1.2 hd hR.2) ⟨xPt.blind, va_recv hX.K hP hc hb, fun U hU hW => ⟨xpre hX hP hD hS hC hnd hU hW, xC.warm hW hXC⟩⟩ rfl hn hl rfl (lv_room hrest) hdg hf T hT9 X with ⟨v, st₀, t, T', L, h0, X', hL, e1, e2, hfalse, st⟩ | ⟨q, st₀, t, T', L, E', ce, h0, X', hL, e1, e2, ⟨hE, hP1, hD1, hF1⟩, hce, hcv, hcl, st⟩
  · exact hfalse.elim
  subst hE
  obtain ⟨hz, hk⟩ := hF1
  rw [h0] at hz hk
  obtain ⟨hP2, hD2⟩ := xjoin (H1 := t.heap) hP hD hC rfl hk hP1
  rw [hws1] at hP2 hD2
  have hS2 : va_S A s.heap T'.heap (locs ++ L) := ⟨Nat.le_trans hS.1 (by rw [e1]; exact hz), fun q h1 h2 => by rw [e1, hk q (Nat.lt_of_lt_of_le h1 hS.1) (fun z => h2 (hFc q z))]; exact hS.2.1 q h1 h2, fun q hq => by
    rcases List.mem_append.mp hq with h | h
    · exact hS.2.2 q h
    · exact hFc _ (hL q h)⟩
  obtain ⟨t2, a1, b1⟩ := kk q ce T'.heap (locs ++ L) (by rw [e1]; exact hP2) hD2 hS2 (by rw [e1]; exact hce) hcv hcl T' rfl X'
  exact ⟨t2, st.trans a1, b1⟩
theorem xcat1 {a1 a2 a3 a4 : Nat} {hh : List (Nat × Nat × Nat × Nat)} {ce : Cell} {q : Addr} (hto : c.exceptionTable.toList = tableOf ((a1, a2, a3, a4) :: hh)) (hF : CallFix p m c cc nL s args Ts own) (hXC : xC s) (hcov : covers ⟨a1, a2, a3, a4⟩ pc = true) (h0 : a4 ≠ 0) (hlink : Cond.classLink own a4 E ∈ Ts) (hE : E ∈ xEs) (hcell : H[q]? = some ce) (hv : ce.vm = .none) (hcl : s.vm.findClass E = some ce.cls)
    (kk : W p l e R s m args below meth c H locs cells slots Q (F0 m a3 ls [.ref q])) : vx_W p l e R s m args below meth c H locs cells slots Q (F0 m pc ls rest) q :=
  vx_catch hF.2.2.2.1 [] ⟨a1, a2, a3, a4⟩ (tableOf hh) hto (fun _ h => nomatch h) hcov h0 (hF.2.2.2.2 _ hlink) (va_Nw.use rfl (hXC.1 E hE)) hcell hv hcl kk
theorem xcat2 {E1 : String} {a1 a2 a3 a4 b1 b2 b3 b4 : Nat} {hh : List (Nat × Nat × Nat × Nat)} {ce : Cell} {q : Addr} (hto : c.exceptionTable.toList = tableOf ((b1, b2, b3, b4) :: (a1, a2, a3, a4) :: hh)) (hF : CallFix p m c cc nL s args Ts own) (hXC : xC s) (hb0 : b4 ≠ 0) (hblink : Cond.classLink own b4 E1 ∈ Ts) (hnc : va_Nc E E1 s) (hcov : covers ⟨a1, a2, a3, a4⟩ pc = true) (h0 : a4 ≠ 0) (hlink : Cond.classLink own a4 E ∈ Ts) (hE : E ∈ xEs) (hcell : H[q]? = some ce) (hv : ce.vm = .none) (hcl : s.vm.findClass E = some ce.cls)
    (kk : W p l e R s m args below meth c H locs cells slots Q (F0 m a3 ls [.ref q])) : vx_W p l e R s m args below meth c H locs cells slots Q (F0 m pc ls rest) q :=
  vx_catch hF.2.2.2.1 [⟨b1, b2, b3, b4⟩] ⟨a1, a2, a3, a4⟩ (tableOf hh) hto (fun z h => by
    cases List.mem_singleton.mp h
    exact Or.inr ⟨hb0, E1, hF.2.2.2.2 _ hblink, hnc⟩) hcov h0 (hF.2.2.2.2 _ hlink) (va_Nw.use rfl (hXC.1 E hE)) hcell hv hcl kk
theorem xrL {v : Int32} {XC : String → State → State → Prop} (h1 : cells ≤ 1) (h2 : slots ≤ 6) (hF : CallFix p m c cc nL s args Ts own) (hr : meth.sig.returnType = some .int) (hlk : meth.locks = false) (hP : va_P D vwCl w' H) (hD : va_D A w') (hS : va_S A s.heap H locs) (hdg : decode cc pc = .ok (.ireturn, 1)) : W p l e R s m args below meth c H locs cells slots (vx_MQ below (xE D A (some (.int v)) w') XC args s 1 6 A) (F0 m pc ls [.int v]) :=
  W.widen h1 h2 (vx_ret (W.iret hF.1 hF.2.1 hr (fun t ht _ => ⟨rfl, by rw [ht]; exact hP, hD, hS.F ht⟩) hS.2.2 hdg hlk))
theorem xcellL {cA : ClassId} {f : Nat → Int64} {x : Int64} : vp_cell cA (1, .inr (.inl (vp_updL f 0 x))) = vp_cell cA (1, .inr (.inl (fun _ => x))) := by
  rw [vp_cell_l, vp_cell_l]
  unfold arrV
  congr 1
theorem xcellD {cA : ClassId} {f : Nat → UInt64} {x : UInt64} : vp_cell cA (1, .inr (.inr (.inr (.inl (vf_upd f 0 x))))) = vp_cell cA (1, .inr (.inr (.inr (.inl (fun _ => x))))) := by
  rw [vp_cell_d, vp_cell_d]
  unfold arrV
  congr 1
theorem xlst {a : Nat} {f : Nat → Int64} {x : Int64} {ws1 : va_W} (hF : CallFix p m c cc nL s args Ts own) (hX : xX D cs tt A s) (hP : va_P D vwCl ws H) (hD : va_D A ws) (hS : va_S A s.heap H locs) (q0 : Nat) (ha : ws[q0]? = some (a, .inl (cs 4, 1, .inr (.inl f)))) (hdg : decode cc pc = .ok (.lastore, 1)) (hws1 : ws.set q0 (a, .inl (cs 4, 1, .inr (.inl (fun _ => x)))) = ws1)
    (kk : ∀ (H1 : Heap) (locs1 : List Loc), va_P D vwCl ws1 H1 → va_D A ws1 → va_S A s.heap H1 locs1 → W p l e R s m args below meth c H1 locs1 cells slots Q (F0 m (pc + 1) ls rest)) : W p l e R s m args below meth c H locs cells slots Q (F0 m pc ls (.long x :: .int 0 :: .ref a :: rest)) := by
  subst hws1
  refine va_last hF.1 hF.2.1 hX.K hP hD hS q0 4 ha rfl (vp_in_nI (n := 0) (by decide) (by decide)) hdg (fun H1 locs1 h1 h2 h3 => ?_)
  have e0 : (0 : Int32).toNatClampNeg = 0 := rfl
  rw [e0] at h1 h2
  have hlt : q0 < ws.length := (List.getElem?_eq_some_iff.mp ha).1
  have ha2 : (ws.set q0 (a, (.inl (cs 4, 1, .inr (.inl (vp_updL f 0 x))) : va_E)))[q0]? = some (a, .inl (cs 4, 1, .inr (.inl (vp_updL f 0 x)))) := by rw [List.getElem?_set_self hlt]
  have h4 := h1.set (e := (.inl (cs 4, 1, .inr (.inl (fun _ => x))) : va_E)) h2 ha2 (by
    show H1[a]? = some (vp_cell (cs 4) (1, .inr (.inl (fun _ => x))))
    rw [← xcellL (f := f)]
    exact h1 q0 _ ha2) (fun _ _ => rfl)
  have h5 := h2.set (e := (.inl (cs 4, 1, .inr (.inl (fun _ => x))) : va_E)) ha2
  rw [List.set_set] at h4 h5
  exact kk H1 locs1 h4 h5 h3
theorem xdst {a : Nat} {f : Nat → UInt64} {x : UInt64} {ws1 : va_W} (hF : CallFix p m c cc nL s args Ts own) (hX : xX D cs tt A s) (hP : va_P D vwCl ws H) (hD : va_D A ws) (hS : va_S A s.heap H locs) (q0 : Nat) (ha : ws[q0]? = some (a, .inl (cs 5, 1, .inr (.inr (.inr (.inl f)))))) (hdg : decode cc pc = .ok (.dastore, 1)) (hws1 : ws.set q0 (a, .inl (cs 5, 1, .inr (.inr (.inr (.inl (fun _ => x)))))) = ws1)
    (kk : ∀ (H1 : Heap) (locs1 : List Loc), va_P D vwCl ws1 H1 → va_D A ws1 → va_S A s.heap H1 locs1 → W p l e R s m args below meth c H1 locs1 cells slots Q (F0 m (pc + 1) ls rest)) : W p l e R s m args below meth c H locs cells slots Q (F0 m pc ls (.double x :: .int 0 :: .ref a :: rest)) := by
  subst hws1
  refine va_dast hF.1 hF.2.1 hX.K hP hD hS q0 5 ha rfl (vp_in_nI (n := 0) (by decide) (by decide)) hdg (fun H1 locs1 h1 h2 h3 => ?_)
  have e0 : (0 : Int32).toNatClampNeg = 0 := rfl
  rw [e0] at h1 h2
  have hlt : q0 < ws.length := (List.getElem?_eq_some_iff.mp ha).1
  have ha2 : (ws.set q0 (a, (.inl (cs 5, 1, .inr (.inr (.inr (.inl (vf_upd f 0 x))))) : va_E)))[q0]? = some (a, .inl (cs 5, 1, .inr (.inr (.inr (.inl (vf_upd f 0 x)))))) := by rw [List.getElem?_set_self hlt]
  have h4 := h1.set (e := (.inl (cs 5, 1, .inr (.inr (.inr (.inl (fun _ => x))))) : va_E)) h2 ha2 (by
    show H1[a]? = some (vp_cell (cs 5) (1, .inr (.inr (.inr (.inl (fun _ => x))))))
    rw [← xcellD (f := f)]
    exact h1 q0 _ ha2) (fun _ _ => rfl)
  have h5 := h2.set (e := (.inl (cs 5, 1, .inr (.inr (.inr (.inl (fun _ => x))))) : va_E)) ha2
  rw [List.set_set] at h4 h5
  exact kk H1 locs1 h4 h5 h3
end XLr
