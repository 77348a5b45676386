/-! ===== methods that throw: nothing is changed ===== -/
def xIAE : String := "java/lang/IllegalArgumentException"
def xISE : String := "java/lang/IllegalStateException"
def xIOO : String := "java/lang/IndexOutOfBoundsException"
def xEs : List String := [xIAE, xISE, xIOO]
def xSup : List String := ["java/lang/RuntimeException", "java/lang/Exception", Bundle.tN]
/-- what the tables say of the three exceptions -/
def xC (U : State) : Prop := (∀ E ∈ xEs, va_Nw (.castable E E) U) ∧ (∀ E ∈ xSup, va_Nw (.declares (Bundle.initS E)) U) ∧ va_Nc xISE xIAE U ∧ va_Nc xIOO xISE U
theorem xC.warm {s U : State} (hW : s.WarmedH U.vm) (h : xC s) : xC U := ⟨fun E hE => va_Nw.warmC hW (h.1 E hE), fun E hE => va_Nw.warmD hW (h.2.1 E hE), va_Nc.moved hW.alike h.2.2.1, va_Nc.moved hW.alike h.2.2.2⟩
theorem xC.same {u U : State} (hv : u.vm = U.vm) (h : xC u) : xC U := ⟨fun E hE => va_Nw.same rfl hv (h.1 E hE), fun E hE => va_Nw.same rfl hv (h.2.1 E hE), va_Nc.moved (hv ▸ Vm.Alike.refl u.vm) h.2.2.1, va_Nc.moved (hv ▸ Vm.Alike.refl u.vm) h.2.2.2⟩
def xPt (D : va_G) (cs : Nat → ClassId) (tt : Nat → Nat) (av : List Value) (w : va_W) (sz : Nat) : Array Value → State → Prop := fun v U => xPc D cs tt av w sz v U ∧ xC U
theorem xPt.blind {D : va_G} {cs : Nat → ClassId} {tt : Nat → Nat} {av : List Value} {w : va_W} {sz : Nat} : FrameBlind (xPt D cs tt av w sz) := fun a U g mk h => ⟨xPc.blind a U g mk h.1, xC.same (u := U) (U := U.calling g mk a) rfl h.2⟩
def xTx (D : va_G) (A : Nat → Prop) (E : String) (w : va_W) : String → State → State → Prop := fun E' st t => E' = E ∧ va_P D vwCl w t.heap ∧ va_D A w ∧ va_F A st t
def xT (l : Launch) (y : MethodName) (ws : List Cond) (rm : Room) (D : va_G) (cs : Nat → ClassId) (tt : Nat → Nat) (av : List Value) (w : va_W) (E : String) : Prop :=
  ∀ sz : Nat, vx_Met l y ws rm (xPt D cs tt av w sz) (fun _ _ _ _ => False) (xTx D (va_A w sz) E w) 1 6 (va_A w sz)
theorem xT.of {l : Launch} {y : MethodName} {ws ws' : List Cond} {rm : Room} {D : va_G} {cs : Nat → ClassId} {tt : Nat → Nat} {av : List Value} {w : va_W} {E : String} {cc : ByteArray} {maxL : Nat} {ret : Option FieldType} (own : String) (hown : y.cls = own)
    (hy : plainName y.cls = true) (hw : ws = Cond.code y cc maxL ret :: ws') (hn : (lg_sl av).length ≤ maxL)
    (body : ∀ (p : Program) (e : Env) (s : State) (m : MethodId) (below : List Frame) (meth : Method) (c : Code) (A : Nat → Prop) (ls : Array Slot), CallFix p m c cc maxL s av.toArray ws own → (∀ x ∈ c.exceptionTable.toList, False) → meth.locks = false → xX D cs tt A s → xC s → va_P D vwCl w s.heap → va_D A w → va_S A s.heap s.heap [] → lv_has ls maxL (lv_args 0 av) →
      W p l e rm s m av.toArray below meth c s.heap [] 0 0 (vx_MQ below (fun _ _ _ _ => False) (xTx D A E w) av.toArray s 1 6 A) (F0 m 0 ls [])) : xT l y ws rm D cs tt av w E := by
  intro sz
  refine vx_ofW (cc := cc) (maxL := maxL) (ret := ret) hy hw ?_
  intro p e s m args below meth c s₁ B hml hto hv
  obtain ⟨⟨rfl, hsz, hP, hD0, hG, hS⟩, hC⟩ := hv
  subst hsz
  have hl := lv_entry av (n := maxL) hn
  rw [lg_entry_eq]
  exact body p e s m below meth c _ _ ⟨B.exec, B.bytes, hml, hown ▸ findClass_of_methodNamed B.named, atoms_spec (ws := ws) B.pre⟩ hto B.notSynchronized ⟨hG, hS, fun q h => Or.inr h⟩ hC hP hD0.self va_S.rf hl
def xBs (E : String) : List Cond := [.castable E E, .declares (Bundle.initS "java/lang/RuntimeException"), .declares (Bundle.initS "java/lang/Exception"), .declares (Bundle.initS Bundle.tN)]
abbrev xNms : List String := ["java/lang/RuntimeException", "java/lang/Exception"]
theorem xot1 : ∀ w ∈ Cond.classLink RX6 45 xIAE :: Cond.initialized xIAE :: vx_atS RX6 49 xIAE xNms, vx_ot w = true := by decide +kernel
theorem xot2 : ∀ w ∈ Cond.classLink RX6 64 xISE :: Cond.initialized xISE :: vx_atS RX6 68 xISE xNms, vx_ot w = true := by decide +kernel
theorem xot3 : ∀ w ∈ Cond.classLink RX6 193 xIOO :: Cond.initialized xIOO :: vx_atS RX6 197 xIOO xNms, vx_ot w = true := by decide +kernel
theorem xng1 : ∀ w ∈ (vx_atS RX6 49 xIAE xNms).filter (fun w => !goodWord w), w ∈ xBs xIAE := by decide +kernel
theorem xng2 : ∀ w ∈ (vx_atS RX6 68 xISE xNms).filter (fun w => !goodWord w), w ∈ xBs xISE := by decide +kernel
theorem xng3 : ∀ w ∈ (vx_atS RX6 197 xIOO xNms).filter (fun w => !goodWord w), w ∈ xBs xIOO := by decide +kernel
section XTh
variable {p : Program} {l : Launch} {e : Env} {R : Room} {s : State} {m : MethodId} {args : Array Value} {below : List Frame} {meth : Method} {c : Code} {H : Heap} {locs : List Loc}
variable {cc : ByteArray} {pc : Nat} {ls : Array Slot} {D : va_G} {cs : Nat → ClassId} {tt : Nat → Nat} {A : Nat → Prop} {w : va_W} {nL : Nat} {Ts : List Cond} {cls text : String} {ik is ic : Nat}
theorem xthr (hF : CallFix p m c cc nL s args Ts RX6) (hto : ∀ x ∈ c.exceptionTable.toList, False) (hls : l.stackTraces = false) (hlk : meth.locks = false) (hX : xX D cs tt A s) (hC : xC s) (hP : va_P D vwCl w H) (hD : va_D A w) (hS : va_S A s.heap H locs) (hsz : ls.size = nL)
    (hfit : Bundle.fit cls = true) (hk : Cond.classLink RX6 ik cls ∈ Ts) (hini : Cond.initialized cls ∈ Ts) (htx : (is, text) ∈ xTexts) (hE : cls ∈ xEs)
    (hot : ∀ w ∈ Cond.classLink RX6 ik cls :: Cond.initialized cls :: vx_atS RX6 ic cls xNms, vx_ot w = true) (hng : ∀ w ∈ (vx_atS RX6 ic cls xNms).filter (fun w => !goodWord w), w ∈ xBs cls) (hgd : ∀ w ∈ (vx_atS RX6 ic cls xNms).filter goodWord, w ∈ Ts)
    (d0 : decode cc pc = .ok (.new ik, 3)) (d3 : decode cc (pc + 3) = .ok (.dup, 1)) (d4 : decode cc (pc + 4) = .ok (.ldc is, 2)) (d6 : decode cc (pc + 6) = .ok (.invokespecial ic, 3)) (d9 : decode cc (pc + 9) = .ok (.athrow, 1))
    (hfr : 5 < R.frames) (hlo : 82 ≤ R.locals) (hce : 1 ≤ R.cells) (hsl : 6 ≤ R.slots) :
    W p l e R s m args below meth c H locs 0 0 (vx_MQ below (fun _ _ _ _ => False) (xTx D A cls w) args s 1 6 A) (F0 m pc ls []) := by
  refine vx_throwS hF.1 hF.2.1 hls hF.2.2.2.1 hfit (by decide +kernel) (hF.2.2.2.2 _ hk) (hF.2.2.2.2 _ hini) (hX.1.2.2.2 (is, text) htx) (vx_hat (fun w h => hF.2.2.2.2 _ (hgd w h)) hng (vx_c (va_Nw.use rfl (hC.1 cls hE)) (vx_c (va_Nw.use rfl (hC.2.1 _ (by decide))) (vx_c (va_Nw.use rfl (hC.2.1 _ (by decide))) (vx_c (va_Nw.use rfl (hC.2.1 _ (by decide))) vx_n))))) hot hX.2.1.2.2.1 hX.2.1.2.2.2 hS (hsz.trans hF.2.2.1.symm) d0 d3 d4 d6 d9 (fun x hx => (hto x hx).elim) hfr (by show 0 + _ ≤ _; omega) (by omega) (by omega) hlk ?_ hS.2.2 (by decide) (by decide)
  intro t _ h1 h2
  exact ⟨rfl, fun k q hq => (hP k q hq).kept (h2 _ ((hP k q hq).lt)), hD, ⟨Nat.le_trans hS.1 h1, fun q h3 h4 => (h2 q (Nat.lt_of_lt_of_le h3 hS.1)).trans (hS.2.1 q h3 h4)⟩⟩
end XTh
