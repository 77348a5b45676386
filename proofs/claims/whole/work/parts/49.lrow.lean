/-! ===== the law: rows of its calls, over worlds of two blocks ===== -/
theorem zcut {A : Nat → Prop} {D : va_G} {w1 w2 : va_W} {H : Heap} (hP : va_P D vwCl (w1 ++ w2) H) (hD : va_D A (w1 ++ w2)) : (va_P D vwCl w1 H ∧ va_D A w1) ∧ (va_P D vwCl w2 H ∧ va_D A w2) ∧ ∀ (i j : Nat) (x y : Nat × va_E), w1[i]? = some x → w2[j]? = some y → x.1 ≠ y.1 := by
  have a1 : ∀ (i : Nat) (x : Nat × va_E), w1[i]? = some x → (w1 ++ w2)[i]? = some x ∧ i < w1.length := fun i x h => by
    have hl : i < w1.length := (List.getElem?_eq_some_iff.mp h).1
    exact ⟨by rw [List.getElem?_append_left hl]; exact h, hl⟩
  have a2 : ∀ (i : Nat) (x : Nat × va_E), w2[i]? = some x → (w1 ++ w2)[w1.length + i]? = some x := fun i x h => by
    rw [List.getElem?_append_right (by omega), Nat.add_sub_cancel_left]; exact h
  refine ⟨⟨fun k q hq => hP k q (a1 k q hq).1, fun i j p q hi hj e => hD.1 i j p q (a1 i p hi).1 (a1 j q hj).1 e, fun k q hq => hD.2 k q (a1 k q hq).1⟩, ⟨fun k q hq => hP _ q (a2 k q hq), fun i j p q hi hj e => ?_, fun k q hq => hD.2 _ q (a2 k q hq)⟩, fun i j x y hi hj e => ?_⟩
  · have := hD.1 _ _ p q (a2 i p hi) (a2 j q hj) e
    omega
  · have h1 := hD.1 _ _ x y (a1 i x hi).1 (a2 j y hj) e
    have h2 := (a1 i x hi).2
    omega
theorem zjL {A : Nat → Prop} {D : va_G} {w1 w2 w1' : va_W} {H H1 : Heap} (hP : va_P D vwCl (w1 ++ w2) H) (hD : va_D A (w1 ++ w2)) (hF : ∀ q, va_A w1 H.size q → A q) (hk : ∀ q : Nat, q < H.size → ¬ va_A w1 H.size q → H1[q]? = H[q]?) (hP1 : va_P D vwCl w1' H1) (hD1 : va_D (va_A w1 H.size) w1') : va_P D vwCl (w1' ++ w2) H1 ∧ va_D A (w1' ++ w2) := by
  obtain ⟨⟨p1, d1⟩, ⟨p2, d2⟩, hx⟩ := zcut hP hD
  have ap : ∀ (k : Nat) (q : Nat × va_E), w2[k]? = some q → ¬ va_A w1 H.size q.1 := fun k q hq h => by
    rcases h with ⟨j, e, hj⟩ | h
    · exact hx j k (q.1, e) q hj hq rfl
    · have := (p2 k q hq).lt
      omega
  refine ⟨hP1.app (fun k q hq => (p2 k q hq).kept (hk q.1 (p2 k q hq).lt (ap k q hq))), va_D.app (hD1.weaken (fun k q _ h => hF q.1 h)) d2 (fun i j x y hi hj e => ?_)⟩
  exact ap j y hj (by rw [← e]; exact hD1.2 i x hi)
theorem zjR {A : Nat → Prop} {D : va_G} {w1 w2 w2' : va_W} {H H1 : Heap} (hP : va_P D vwCl (w1 ++ w2) H) (hD : va_D A (w1 ++ w2)) (hF : ∀ q, va_A w2 H.size q → A q) (hk : ∀ q : Nat, q < H.size → ¬ va_A w2 H.size q → H1[q]? = H[q]?) (hP1 : va_P D vwCl w2' H1) (hD1 : va_D (va_A w2 H.size) w2') : va_P D vwCl (w1 ++ w2') H1 ∧ va_D A (w1 ++ w2') := by
  obtain ⟨⟨p1, d1⟩, ⟨p2, d2⟩, hx⟩ := zcut hP hD
  have ap : ∀ (k : Nat) (q : Nat × va_E), w1[k]? = some q → ¬ va_A w2 H.size q.1 := fun k q hq h => by
    rcases h with ⟨j, e, hj⟩ | h
    · exact hx k j q (q.1, e) hq hj rfl
    · have := (p1 k q hq).lt
      omega
  refine ⟨va_P.app (fun k q hq => (p1 k q hq).kept (hk q.1 (p1 k q hq).lt (ap k q hq))) hP1, va_D.app d1 (hD1.weaken (fun k q _ h => hF q.1 h)) (fun i j x y hi hj e => ?_)⟩
  exact ap i x hi (by rw [e]; exact hD1.2 j y hj)
theorem zfree {A : Nat → Prop} {w : va_W} {H0 H : Heap} {locs : List Loc} (hD : va_D A w) (hS : va_S A H0 H locs) (hA : ∀ q, H0.size ≤ q → A q) : ∀ q, va_A w H.size q → A q := by
  intro q h
  rcases h with ⟨k, e, hk⟩ | h
  · exact hD.2 k (q, e) hk
  · exact hA q (Nat.le_trans hS.1 h)
section ZR
variable {p : Program} {l : Launch} {e : Env} {R : Room} {s : State} {m : MethodId} {args : Array Value} {below : List Frame} {meth : Method} {c : Code} {H : Heap} {locs : List Loc} {cells slots : Nat} {Q : State → Prop}
variable {cc : ByteArray} {pc : Nat} {ls : Array Slot} {rest st0 : List Value} {D : va_G} {cs : Nat → ClassId} {tt : Nat → Nat} {A : Nat → Prop} {w1 w2 w1' w2' : va_W}
variable {y : MethodName} {bytes : ByteArray} {maxL nL index n : Nat} {ret : Option FieldType} {wsc ws' Ts : List Cond} {rm : Room} {own C : String} {b : Nat} {As : List Value} {r : Option Value} {k : Int32}
theorem zpc {w : va_W} (hX : xX D cs tt A s) (hP : va_P D vwCl w H) (hD : va_D A w) (hS : va_S A s.heap H locs) {av : List Value} {U : State} (hU : U.heap = H) (hW : s.WarmedH U.vm) : xPc D cs tt av w H.size av.toArray U := by
  have hXs : xS tt A s H := hX.2.1.kept (fun a h1 h2 => hS.2.1 a h1 h2)
  exact ⟨rfl, by rw [hU], by rw [hU]; exact hP, hD.weaken (fun _ _ _ _ => trivial), xG.warm hW hX.1, by rw [hU]; exact (hXs.narrow (zfree hD hS hX.2.2)).moved hW.alike⟩
/-- a call of one of the law's static methods: the first block of the world -/
theorem zS {hh : List (Nat × Nat × Nat × Nat)} (hF : CallFix p m c cc nL s args Ts own) (hM : xL l y wsc rm D cs tt As w1 k w1') (hT : GoodIn Ts (va_wsS own index y wsc)) (hw : wsc = Cond.codeWith y bytes maxL ret hh :: ws')
    (hd : y.cls ≠ "java/lang/invoke/MethodHandle" ∧ y.cls ≠ "java/lang/invoke/VarHandle" ∧ (parseMethodDescriptor y.desc).map (fun d => d.parameters.length) = some n) (hn : As.length = n)
    (hR : (rm.cells = 1 ∧ rm.slots = 6) ∧ rm.frames + 1 ≤ R.frames ∧ 8 + (maxL + 11) + rm.locals ≤ R.locals) (hf : cells + 1 ≤ R.cells ∧ slots + 6 ≤ R.slots)
    (hX : xX D cs tt A s) (hXC : xC s) (hP : va_P D vwCl (w1 ++ w2) H) (hD : va_D A (w1 ++ w2)) (hS : va_S A s.heap H locs)
    (hl : ls.size = nL) (hst : st0 = As.reverse ++ rest) (hrest : (rest.map fun v => v.category).sum ≤ 8) (hdg : decode cc pc = .ok (.invokestatic index, 3))
    (kk : ∀ (H1 : Heap) (locs1 : List Loc), va_P D vwCl (w1' ++ w2) H1 → va_D A (w1' ++ w2) → va_S A s.heap H1 locs1 → W p l e R s m args below meth c H1 locs1 (cells + 1) (slots + 6) Q (F0 m (pc + 3) ls (.int k :: rest))) : W p l e R s m args below meth c H locs cells slots Q (F0 m pc ls st0) := by
  subst hst
  intro T hT9 X
  obtain ⟨⟨p1, d1⟩, -, -⟩ := zcut hP hD
  have hFc := zfree d1 hS hX.2.2
  rcases vx_runSX (rest := rest) hF (hM H.size) (vx_cwSW n hF.2.2.2.2 hT hw hR.1.1 hR.1.2 hd hR.2) ⟨xPt.blind, fun U hU hW => ⟨zpc hX p1 d1 hS hU hW, xC.warm hW hXC⟩⟩ rfl hn hl rfl (lv_room hrest) hdg hf T hT9 X with ⟨v, st₀, t, T', L, h0, X', hL, e1, e2, ⟨hv, hP1, hD1, hF1⟩, st⟩ | ⟨q, st₀, t, T', L, E', ce, h0, X', hL, e1, e2, hfalse, hce, hcv, hcl, st⟩
  · cases hv
    obtain ⟨hz, hk⟩ := hF1
    rw [h0] at hz hk
    obtain ⟨hP2, hD2⟩ := zjL (H1 := t.heap) hP hD hFc hk hP1 hD1
    have hS2 : va_S A s.heap T'.heap (locs ++ L) := ⟨Nat.le_trans hS.1 (by rw [e1]; exact hz), fun q h1 h2 => by rw [e1, hk q (Nat.lt_of_lt_of_le h1 hS.1) (fun z => h2 (hFc q z))]; exact hS.2.1 q h1 h2, fun q hq => by
      rcases List.mem_append.mp hq with h | h
      · exact hS.2.2 q h
      · exact hFc _ (hL q h)⟩
    obtain ⟨t2, a1, b1⟩ := kk T'.heap (locs ++ L) (by rw [e1]; exact hP2) hD2 hS2 T' rfl X'
    exact ⟨t2, st t2 a1, b1⟩
  · exact hfalse.elim
/-- a call of the reference: the second block of the world -/
theorem zV {st1 : List Value} {cq : vw_C} (hF : CallFix p m c cc nL s args Ts own) (hM : xM l y wsc rm D cs tt (.ref b :: As) w2 r w2') (hT : GoodIn Ts (wsV own index C y wsc)) (hw : wsc = Cond.code y bytes maxL ret :: ws')
    (hd : y.cls = C ∧ y.cls ≠ "java/lang/invoke/MethodHandle" ∧ y.cls ≠ "java/lang/invoke/VarHandle" ∧ (parseMethodDescriptor y.desc).map (fun d => d.parameters.length) = some n) (hn : As.length = n)
    (hR : (rm.cells = 0 ∧ rm.slots = 0) ∧ rm.frames + 1 ≤ R.frames ∧ 8 + (maxL + 11) + rm.locals ≤ R.locals) (hf : cells ≤ R.cells ∧ slots ≤ R.slots)
    (hX : xX D cs tt A s) (hP : va_P D vwCl (w1 ++ w2) H) (hD : va_D A (w1 ++ w2)) (hS : va_S A s.heap H locs) (hb : ∃ fs, w2[0]? = some (b, .inr (7, fs))) (hc : vwCl[7]? = some cq) (hcq : cq.1 = C)
    (hl : ls.size = nL) (hst : st0 = As.reverse ++ .ref b :: rest) (hrest : (rest.map fun v => v.category).sum ≤ 8) (hdg : decode cc pc = .ok (.invokevirtual index, 3)) (hst1 : r.toList ++ rest = st1)
    (kk : ∀ (H1 : Heap) (locs1 : List Loc), va_P D vwCl (w1 ++ w2') H1 → va_D A (w1 ++ w2') → va_S A s.heap H1 locs1 → W p l e R s m args below meth c H1 locs1 cells slots Q (F0 m (pc + 3) ls st1)) : W p l e R s m args below meth c H locs cells slots Q (F0 m pc ls st0) := by
  subst hst
  subst hst1
  subst hcq
  obtain ⟨fs, hb⟩ := hb
  intro T hT9 X
  obtain ⟨-, ⟨p2, d2⟩, -⟩ := zcut hP hD
  have hFc := zfree d2 hS hX.2.2
  obtain ⟨v, st₀, t, T', L, h0, X', hL, e1, e2, ⟨hv, hP1, hD1, hF1⟩, st⟩ := va_runV (rest := rest) hF (hM H.size) (cwV n hF.2.2.2.2 hT hw hR.1.1 hR.1.2 hd hR.2) ⟨xPc.blind, va_recv hX.K p2 hc hb, fun U hU hW => zpc hX p2 d2 hS hU hW⟩ rfl hn hl rfl (lv_room hrest) hdg hf T hT9 X
  cases hv
  obtain ⟨hz, hk⟩ := hF1
  rw [h0] at hz hk
  obtain ⟨hP2, hD2⟩ := zjR (H1 := t.heap) hP hD hFc hk hP1 hD1
  have hS2 : va_S A s.heap T'.heap (locs ++ L) := ⟨Nat.le_trans hS.1 (by rw [e1]; exact hz), fun q h1 h2 => by rw [e1, hk q (Nat.lt_of_lt_of_le h1 hS.1) (fun z => h2 (hFc q z))]; exact hS.2.1 q h1 h2, fun q hq => by
    rcases List.mem_append.mp hq with h | h
    · exact hS.2.2 q h
    · exact hFc _ (hL q h)⟩
  obtain ⟨t2, a1, b1⟩ := kk T'.heap (locs ++ L) (by rw [e1]; exact hP2) hD2 hS2 T' rfl X'
  exact ⟨t2, st t2 a1, b1⟩
theorem zlo {a : Nat} {O : Int64} (hF : CallFix p m c cc nL s args Ts own) (hX : xX D cs tt A s) (hP : va_P D vwCl (w1 ++ w2) H) (ha : w1[0]? = some (a, .inl (cs 4, 1, .inr (.inl (fun _ => O))))) (hdg : decode cc pc = .ok (.laload, 1))
    (kk : W p l e R s m args below meth c H locs cells slots Q (F0 m (pc + 1) ls (.long O :: rest))) : W p l e R s m args below meth c H locs cells slots Q (F0 m pc ls (.int 0 :: .ref a :: rest)) := by
  have h2 : (w1 ++ w2)[0]? = some (a, .inl (cs 4, 1, .inr (.inl (fun _ => O)))) := by rw [List.getElem?_append_left (List.getElem?_eq_some_iff.mp ha).1]; exact ha
  exact va_lald hF.1 hF.2.1 hX.K hP 0 4 h2 rfl (vp_in_nI (n := 0) (by decide) (by decide)) hdg kk
theorem zdo {a : Nat} {O : UInt64} (hF : CallFix p m c cc nL s args Ts own) (hX : xX D cs tt A s) (hP : va_P D vwCl (w1 ++ w2) H) (ha : w1[1]? = some (a, .inl (cs 5, 1, .inr (.inr (.inr (.inl (fun _ => O))))))) (hdg : decode cc pc = .ok (.daload, 1))
    (kk : W p l e R s m args below meth c H locs cells slots Q (F0 m (pc + 1) ls (.double O :: rest))) : W p l e R s m args below meth c H locs cells slots Q (F0 m pc ls (.int 0 :: .ref a :: rest)) := by
  have h2 : (w1 ++ w2)[1]? = some (a, .inl (cs 5, 1, .inr (.inr (.inr (.inl (fun _ => O)))))) := by rw [List.getElem?_append_left (List.getElem?_eq_some_iff.mp ha).1]; exact ha
  exact va_dald hF.1 hF.2.1 hX.K hP 1 5 h2 rfl (vp_in_nI (n := 0) (by decide) (by decide)) hdg kk
theorem zsc {bs L j : Nat} {xs : Nat → Int32} {i : Int32} (hF : CallFix p m c cc nL s args Ts own) (hXs : va_X bs L xs s s.heap) (hbl : bs < s.heap.size) (hbA : ¬ A bs) (hS : va_S A s.heap H locs) (hi : i = nI j) (hj : j < L) (hL : L ≤ 2560) (hdg : decode cc pc = .ok (.iaload, 1))
    (kk : W p l e R s m args below meth c H locs cells slots Q (F0 m (pc + 1) ls (.int (xs j) :: rest))) : W p l e R s m args below meth c H locs cells slots Q (F0 m pc ls (.int i :: .ref bs :: rest)) := by
  subst hi
  refine va_sld hF.1 hF.2.1 hXs hbl hbA hS (vp_in_nI hj (by omega)) hdg ?_
  rw [nI_clamp (by omega)]
  exact kk
end ZR
theorem lcmp_self (x : Int64) : lg_cmp x x = 0 := by
  unfold lg_cmp
  simp
theorem dcmp_self {x : UInt64} (h : vf_n64 x) : Op.cmpValue (FP.dcmp x x) .l = 0 := by
  have h1 : FP.Core.val64 x ≠ .nan := by
    apply (FP.Core.ne_nan x).mpr
    unfold vf_n64 at h
    rw [UInt64.le_iff_toNat_le, UInt64.toNat_and] at h
    have e1 : (0x7fffffffffffffff : UInt64).toNat = 2 ^ 63 - 1 := by decide
    have e2 : (0x7ff0000000000000 : UInt64).toNat = 9218868437227405312 := by decide
    rw [e1, e2, Nat.and_two_pow_sub_one_eq_mod] at h
    exact h
  have h2 : FP.dcmp x x = some .eq := FP.Core.dcmp_self h1
  rw [h2]
  decide
/-- what the law stands on -/
def LC (l : Launch) (D : va_G) (cs : Nat → ClassId) (tt : Nat → Nat) (p : Program) (s : State) (m : MethodId) (meth : Method) (c : Code) (b L : Nat) (xs : Nat → Int32) : Prop :=
  CallFix p m c cL_law 8 s #[Value.ref b] wsL_law RL ∧ (meth.sig.returnType = ret ∧ meth.locks = false) ∧ (va_X b L xs s s.heap ∧ b < s.heap.size ∧ L ≤ 2560) ∧ xX D cs tt (fun q => s.heap.size ≤ q) s ∧ xC s ∧ l.stackTraces = false
abbrev lC0 : Nat := 70
abbrev lS0 : Nat := 60000
/-- where the law stands before a call: at pc, t calls behind it -/
def LW (l : Launch) (D : va_G) (cs : Nat → ClassId) (p : Program) (e : Env) (s : State) (m : MethodId) (below : List Frame) (meth : Method) (c : Code) (b dk mo ou od t u pc : Nat) (Q : State → Prop) : Prop :=
  ∀ (H : Heap) (locs : List Loc) (ls : Array Slot) (th : Int32) (O : Int64) (Od : UInt64) (w1 w2 : va_W), St u cs dk mo ou od th O Od w1 w2 → va_P D vwCl (w1 ++ w2) H → va_D (fun q => s.heap.size ≤ q) (w1 ++ w2) → va_S (fun q => s.heap.size ≤ q) s.heap H locs → lv_has ls 8 [(0, .ref b), (1, .ref dk), (2, .ref mo), (3, .ref ou), (4, .ref od), (5, .int (nI (5 * t)))] →
    W p l e room_1 s m #[Value.ref b] below meth c H locs (lC0 + u) (lS0 + 6 * u) Q (F0 m pc ls [])
