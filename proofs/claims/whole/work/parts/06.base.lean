/-! ===== what stands everywhere: the tables' facts, the tables of the class, and contracts with exact ends ===== -/
/-- the array classes by number: int, boolean, Plane, int[], long, double -/
abbrev xTy (cs : Nat → ClassId) : List (ClassId × FieldType) := [(cs 0, .int), (cs 1, .boolean), (cs 2, .object "PictureDeck$Plane"), (cs 3, .array .int), (cs 4, .long), (cs 5, .double)]
/-- links across the nest -/
def xNests : List Cond := [.methodLinkNest RX6 18 yX0_init RX6, .methodLinkNest RX6 25 yX2_init RX6, .methodLinkNest RX6 32 yX1_init RX6, .methodLinkNest RX6 9 yX5_init RX6, .methodLinkNest RX0 45 yX6_planeOf RX6, .methodLinkNest RX0 49 yX6_bounded RX6, .methodLinkNest RX2 29 yX6_isWithin RX6, .methodLinkNest RX3 17 yX6_squareSide RX6, .methodLinkNest RX3 46 yX6_bounded RX6, .methodLinkNest RX4 37 yX6_isWithin RX6, .methodLinkNest RX4 41 yX6_bounded RX6, .methodLinkNest RX5 27 yX6_squareSide RX6]
def xIsNest (w : Cond) : Prop := ∃ a i y h, w = .methodLinkNest a i y h
theorem xNests_ok : ∀ w ∈ xNests, xIsNest w := by
  intro w hw
  simp only [xNests, List.mem_cons, List.not_mem_nil, or_false] at hw
  rcases hw with rfl | rfl | rfl | rfl | rfl | rfl | rfl | rfl | rfl | rfl | rfl | rfl <;> exact ⟨_, _, _, _, rfl⟩
/-- the texts of the exceptions -/
def xTexts : List (Nat × String) := [(47, "no such size"), (52, "no such matrix, place or number"), (58, "no such kind or reach"), (66, "a picture is open"), (78, "no such scale"), (80, "no picture is open"), (92, "no square to come, or a vector was told for it"), (105, "no such direction, or out of reach"), (111, "no square to come that has such a vector"), (117, "no such block, place or level"), (119, "no square to come"), (129, "no square to come, or too little was told for it"), (143, "not so many squares are left"), (148, "no square may be left out here"), (159, "no picture is open, or squares are missing"), (176, "no picture was shown"), (195, "no such sample"), (209, "no such gain or offset"), (221, "no picture was shown, or none is kept"), (231, "nothing such is told")]
/-- the tables' facts -/
def xG (D : va_G) (cs : Nat → ClassId) (tt : Nat → Nat) (U : State) : Prop := va_K D vwCl (xTy cs) U ∧ (∀ w ∈ xNests, va_Nw w U) ∧ (va_AO "PictureDeck$Plane" U ∧ va_AOA .int U) ∧ ∀ q ∈ xTexts, vk_R RX6 q.1 q.2 (tt (q.1 + 10)) U
theorem xG.same {D : va_G} {cs : Nat → ClassId} {tt : Nat → Nat} {u U : State} (hv : u.vm = U.vm) (h : xG D cs tt u) : xG D cs tt U := by
  have hA : u.vm.Alike U.vm := hv ▸ Vm.Alike.refl u.vm
  refine ⟨va_K.moved hA h.1, fun w hw => ?_, ⟨va_AO.moved hA h.2.2.1.1, va_AOA.moved hA h.2.2.1.2⟩, fun q hq => vk_R.same hv.symm (h.2.2.2 q hq)⟩
  obtain ⟨a, i, y, b, rfl⟩ := xNests_ok w hw
  exact va_Nw.same rfl hv (h.2.1 _ hw)
theorem xG.warm {D : va_G} {cs : Nat → ClassId} {tt : Nat → Nat} {s U : State} (hW : s.WarmedH U.vm) (h : xG D cs tt s) : xG D cs tt U := by
  refine ⟨va_K.moved hW.alike h.1, fun w hw => ?_, ⟨va_AO.moved hW.alike h.2.2.1.1, va_AOA.moved hW.alike h.2.2.1.2⟩, fun q hq => vk_R.warm hW (h.2.2.2 q hq)⟩
  obtain ⟨a, i, y, b, rfl⟩ := xNests_ok w hw
  exact va_Nw.warmM hW (h.2.1 _ hw)
/-- the two tables of Blocks -/
def xZL : List Int32 := [0, 1, 8, 16, 9, 2, 3, 10, 17, 24, 32, 25, 18, 11, 4, 5, 12, 19, 26, 33, 40, 48, 41, 34, 27, 20, 13, 6, 7, 14, 21, 28, 35, 42, 49, 56, 57, 50, 43, 36, 29, 22, 15, 23, 30, 37, 44, 51, 58, 59, 52, 45, 38, 31, 39, 46, 53, 60, 61, 54, 47, 55, 62, 63]
def xzz (j : Nat) : Int32 := xZL.getD j 0
def xWL : List Int32 := [1024, 1004, 946, 851, 724, 569, 392, 200, 0, -200, -392, -569, -724, -851, -946, -1004, -1024, -1004, -946, -851, -724, -569, -392, -200, 0, 200, 392, 569, 724, 851, 946, 1004]
def xwv (j : Nat) : Int32 := xWL.getD j 0
def xS (tt : Nat → Nat) (A : Nat → Prop) (U : State) (H : Heap) : Prop := (va_Z RX0 "ZIGZAG" "[I" (.ref (tt 0)) A U H ∧ va_T .int (tt 0) 64 (fun j => .int (xzz j)) A U H) ∧ (va_Z RX0 "WAVE" "[I" (.ref (tt 1)) A U H ∧ va_T .int (tt 1) 32 (fun j => .int (xwv j)) A U H) ∧ vx_Zq Bundle.tN "UNASSIGNED_STACK" Bundle.steD A U H ∧ vx_Zq Bundle.tN "SUPPRESSED_SENTINEL" Bundle.listD A U H
theorem xS.moved {tt : Nat → Nat} {A : Nat → Prop} {u U : State} {H : Heap} (hv : u.vm.Alike U.vm) (h : xS tt A u H) : xS tt A U H := ⟨⟨h.1.1.moved hv, h.1.2.moved hv⟩, ⟨h.2.1.1.moved hv, h.2.1.2.moved hv⟩, h.2.2.1.moved hv, h.2.2.2.moved hv⟩
theorem xS.kept {tt : Nat → Nat} {A : Nat → Prop} {U : State} {H H1 : Heap} (h : xS tt A U H) (hq : ∀ a : Nat, a < H.size → ¬ A a → H1[a]? = H[a]?) : xS tt A U H1 := ⟨⟨h.1.1.kept hq, h.1.2.kept hq⟩, ⟨h.2.1.1.kept hq, h.2.1.2.kept hq⟩, h.2.2.1.kept hq, h.2.2.2.kept hq⟩
theorem xS.narrow {tt : Nat → Nat} {A B : Nat → Prop} {U : State} {H : Heap} (h : xS tt A U H) (hAB : ∀ q, B q → A q) : xS tt B U H := ⟨⟨h.1.1.narrow hAB, h.1.2.narrow hAB⟩, ⟨h.2.1.1.narrow hAB, h.2.1.2.narrow hAB⟩, h.2.2.1.narrow hAB, h.2.2.2.narrow hAB⟩
/-- a method's start: its world, apart, and the facts -/
def xPc (D : va_G) (cs : Nat → ClassId) (tt : Nat → Nat) (av : List Value) (w : va_W) (sz : Nat) : Array Value → State → Prop := va_Pc av (fun U => U.heap.size = sz ∧ va_P D vwCl w U.heap ∧ va_D (fun _ => True) w ∧ xG D cs tt U ∧ xS tt (va_A w sz) U U.heap)
theorem xPc.blind {D : va_G} {cs : Nat → ClassId} {tt : Nat → Nat} {av : List Value} {w : va_W} {sz : Nat} : FrameBlind (xPc D cs tt av w sz) := by
  intro a U g mk h
  obtain ⟨h0, h1, h2, h3, h4, h5⟩ := h
  exact ⟨h0, h1, h2, h3, xG.same (u := U) (U := U.calling g mk a) rfl h4, xS.moved (u := U) (U := U.calling g mk a) (Vm.Alike.refl U.vm) h5⟩
/-- a method's end: the answer, and the world behind it -/
def xE (D : va_G) (A : Nat → Prop) (r : Option Value) (w' : va_W) : Array Value → State → Outcome → State → Prop := fun _ st oc t => oc = .returned r ∧ va_P D vwCl w' t.heap ∧ va_D A w' ∧ va_F A st t
/-- a contract with an exact end; the method makes nothing -/
def xM (l : Launch) (y : MethodName) (ws : List Cond) (rm : Room) (D : va_G) (cs : Nat → ClassId) (tt : Nat → Nat) (av : List Value) (w : va_W) (r : Option Value) (w' : va_W) : Prop :=
  ∀ sz : Nat, Met l y ws rm (xPc D cs tt av w sz) (xE D (va_A w sz) r w') 0 0 (va_A w sz)
/-- what a walk stands on -/
def xX (D : va_G) (cs : Nat → ClassId) (tt : Nat → Nat) (A : Nat → Prop) (s : State) : Prop := xG D cs tt s ∧ xS tt A s s.heap ∧ ∀ q : Nat, s.heap.size ≤ q → A q
theorem xX.K {D : va_G} {cs : Nat → ClassId} {tt : Nat → Nat} {A : Nat → Prop} {s : State} (h : xX D cs tt A s) : va_K D vwCl (xTy cs) s := h.1.1
theorem xM.of {l : Launch} {y : MethodName} {ws ws' : List Cond} {rm : Room} {D : va_G} {cs : Nat → ClassId} {tt : Nat → Nat} {av : List Value} {w w' : va_W} {r : Option Value} {cc : ByteArray} {maxL : Nat} {ret : Option FieldType} (own : String) (hown : y.cls = own)
    (hy : plainName y.cls = true) (hw : ws = Cond.code y cc maxL ret :: ws') (hn : (lg_sl av).length ≤ maxL)
    (body : ∀ (p : Program) (e : Env) (s : State) (m : MethodId) (below : List Frame) (meth : Method) (c : Code) (A : Nat → Prop) (ls : Array Slot), CallFix p m c cc maxL s av.toArray ws own → meth.sig.returnType = ret → meth.locks = false → xX D cs tt A s → va_P D vwCl w s.heap → va_D A w → va_S A s.heap s.heap [] → lv_has ls maxL (lv_args 0 av) →
      W p l e rm s m av.toArray below meth c s.heap [] 0 0 (MQ below (xE D A r w') av.toArray s 0 0 A) (F0 m 0 ls [])) : xM l y ws rm D cs tt av w r w' := by
  intro sz
  refine Met.ofW (cc := cc) (maxL := maxL) (ret := ret) hy hw ?_
  intro p e s m args below meth c s₁ B hml hv
  obtain ⟨rfl, hsz, hP, hD0, hG, hS⟩ := hv
  subst hsz
  have hl := lv_entry av (n := maxL) hn
  rw [lg_entry_eq]
  exact body p e s m below meth c _ _ ⟨B.exec, B.bytes, hml, hown ▸ findClass_of_methodNamed B.named, atoms_spec (ws := ws) B.pre⟩ B.returns B.notSynchronized ⟨hG, hS, fun q h => Or.inr h⟩ hP hD0.self va_S.rf hl
/-! ===== cells put at their places ===== -/
def xput : va_W → List Nat → va_W → va_W
  | ws, i :: is, x :: xs => xput (ws.set i x) is xs
  | ws, _, _ => ws
theorem xput_get : ∀ (is : List Nat) (xs ws : va_W) (k : Nat) (q : Nat × va_E), is.length = xs.length → (xput ws is xs)[k]? = some q → (∃ j : Nat, is[j]? = some k ∧ xs[j]? = some q) ∨ (ws[k]? = some q ∧ k ∉ is)
  | [], [], ws, k, q, _, h => Or.inr ⟨h, by simp⟩
  | [], _ :: _, _, _, _, hl, _ => by simp at hl
  | _ :: _, [], _, _, _, hl, _ => by simp at hl
  | i :: is, x :: xs, ws, k, q, hl, h => by
    rcases xput_get is xs (ws.set i x) k q (by simpa using hl) h with ⟨j, h1, h2⟩ | ⟨h1, h2⟩
    · exact Or.inl ⟨j + 1, h1, h2⟩
    · by_cases hk : k = i
      · subst hk
        rw [List.getElem?_set_self' ] at h1
        cases hw : ws[k]? with
        | none => rw [hw] at h1; cases h1
        | some z =>
          rw [hw] at h1
          exact Or.inl ⟨0, rfl, by simpa using h1⟩
      · rw [List.getElem?_set_ne (fun z => hk z.symm)] at h1
        exact Or.inr ⟨h1, by simp [hk, h2]⟩
theorem xput_adr : ∀ (is : List Nat) (xs ws : va_W), (∀ (j i : Nat) (x : Nat × va_E), is[j]? = some i → xs[j]? = some x → ∃ z, ws[i]? = some z ∧ z.1 = x.1) → ∀ (k : Nat) (q : Nat × va_E), (xput ws is xs)[k]? = some q → ∃ z, ws[k]? = some z ∧ z.1 = q.1
  | [], [], ws, _, k, q, h => ⟨q, h, rfl⟩
  | [], _ :: _, ws, _, k, q, h => ⟨q, h, rfl⟩
  | _ :: _, [], ws, _, k, q, h => ⟨q, h, rfl⟩
  | i :: is, x :: xs, ws, ha, k, q, h => by
    obtain ⟨z0, hz0, e0⟩ := ha 0 i x rfl rfl
    have key : ∀ (k : Nat) (q : Nat × va_E), (ws.set i x)[k]? = some q → ∃ z, ws[k]? = some z ∧ z.1 = q.1 := by
      intro k q hq
      by_cases hk : k = i
      · subst hk
        rw [List.getElem?_set_self'] at hq
        rw [hz0] at hq
        have : x = q := by simpa using hq
        subst this
        exact ⟨z0, hz0, e0⟩
      · rw [List.getElem?_set_ne (fun z => hk z.symm)] at hq
        exact ⟨q, hq, rfl⟩
    have back : ∀ (k : Nat) (z : Nat × va_E), ws[k]? = some z → ∃ q, (ws.set i x)[k]? = some q ∧ q.1 = z.1 := by
      intro k z hz
      by_cases hk : k = i
      · subst hk
        refine ⟨x, ?_, ?_⟩
        · rw [List.getElem?_set_self', hz]; rfl
        · rw [hz0] at hz; cases hz; exact e0.symm
      · exact ⟨z, by rw [List.getElem?_set_ne (fun z => hk z.symm)]; exact hz, rfl⟩
    obtain ⟨z, h1, h2⟩ := xput_adr is xs (ws.set i x) (fun j i' x' hj hx => by
      obtain ⟨z, hz, e⟩ := ha (j + 1) i' x' hj hx
      obtain ⟨q', hq', e'⟩ := back i' z hz
      exact ⟨q', hq', e'.trans e⟩) k q h
    obtain ⟨z', h3, h4⟩ := key k z h1
    exact ⟨z', h3, h4.trans h2⟩
theorem xplace {ws w : va_W} {is : List Nat} (hC : is.map (fun i => ws[i]?) = w.map some) {j : Nat} {x : Nat × va_E} (hx : w[j]? = some x) : ∃ i, is[j]? = some i ∧ ws[i]? = some x := by
  have h1 : (is.map (fun i => ws[i]?))[j]? = some (some x) := by rw [hC, List.getElem?_map, hx]; rfl
  rw [List.getElem?_map] at h1
  cases hi : is[j]? with
  | none => rw [hi] at h1; cases h1
  | some i => rw [hi] at h1; exact ⟨i, rfl, Option.some.inj h1⟩
/-- behind a call of a method that makes nothing: its cells at their places, the rest unchanged -/
theorem xjoin {A : Nat → Prop} {D : va_G} {ws w w' : va_W} {H H1 : Heap} {is : List Nat} (hP : va_P D vwCl ws H) (hD : va_D A ws) (hC : is.map (fun i => ws[i]?) = w.map some) (ha : w'.map (fun x => x.1) = w.map (fun x => x.1))
    (hk : ∀ q : Nat, q < H.size → ¬ va_A w H.size q → H1[q]? = H[q]?) (hP1 : va_P D vwCl w' H1) : va_P D vwCl (xput ws is w') H1 ∧ va_D A (xput ws is w') := by
  have hlen : is.length = w'.length := by
    have h1 : (is.map (fun i => ws[i]?)).length = (w.map some).length := by rw [hC]
    have h2 : (w'.map (fun x => x.1)).length = (w.map (fun x => x.1)).length := by rw [ha]
    simp only [List.length_map] at h1 h2
    omega
  have hadr : ∀ (j i : Nat) (x : Nat × va_E), is[j]? = some i → w'[j]? = some x → ∃ z, ws[i]? = some z ∧ z.1 = x.1 := by
    intro j i x hi hx
    have h1 : (w'.map (fun x => x.1))[j]? = some x.1 := by rw [List.getElem?_map, hx]; rfl
    rw [ha, List.getElem?_map] at h1
    cases hw : w[j]? with
    | none => rw [hw] at h1; cases h1
    | some z =>
      rw [hw] at h1
      obtain ⟨i', h2, h3⟩ := xplace hC hw
      rw [hi] at h2
      cases h2
      exact ⟨z, h3, Option.some.inj h1⟩
  refine ⟨fun k q hq => ?_, ⟨fun i j x y hi hj hxy => ?_, fun k q hq => ?_⟩⟩
  · rcases xput_get is w' ws k q hlen hq with ⟨j, -, h2⟩ | ⟨h1, h2⟩
    · exact hP1 j q h2
    · have hlt := (hP k q h1).lt
      refine (hP k q h1).kept (hk q.1 hlt ?_)
      rintro (⟨j, e, hj⟩ | hge)
      · obtain ⟨i, h3, h4⟩ := xplace hC hj
        have hki := hD.1 k i q (q.1, e) h1 h4 rfl
        subst hki
        exact h2 (List.mem_of_getElem? h3)
      · omega
  · obtain ⟨z1, g1, g2⟩ := xput_adr is w' ws hadr i x hi
    obtain ⟨z2, g3, g4⟩ := xput_adr is w' ws hadr j y hj
    exact hD.1 i j z1 z2 g1 g3 (g2.trans (hxy.trans g4.symm))
  · obtain ⟨z1, g1, g2⟩ := xput_adr is w' ws hadr k q hq
    rw [← g2]
    exact hD.2 k z1 g1
section XC
variable {p : Program} {l : Launch} {e : Env} {R : Room} {s : State} {m : MethodId} {args : Array Value} {below : List Frame} {meth : Method} {c : Code} {H : Heap} {locs : List Loc} {cells slots : Nat} {Q : State → Prop}
variable {cc : ByteArray} {pc : Nat} {ls : Array Slot} {rest st0 st1 : List Value} {D : va_G} {cs : Nat → ClassId} {tt : Nat → Nat} {A : Nat → Prop} {ws w w' ws1 : va_W}
variable {y : MethodName} {bytes : ByteArray} {maxL nL index n : Nat} {ret : Option FieldType} {wsc ws' Ts : List Cond} {rm : Room} {own C : String} {b : Nat} {As : List Value} {r : Option Value}
theorem xpre (hX : xX D cs tt A s) (hP : va_P D vwCl ws H) (hD : va_D A ws) (hS : va_S A s.heap H locs) {is : List Nat} (hC : is.map (fun i => ws[i]?) = w.map some) (hnd : va_nd is = true) {av : List Value} {U : State} (hU : U.heap = H) (hW : s.WarmedH U.vm) : xPc D cs tt av w H.size av.toArray U := by
  have hFc := va_free (wc := w) hD hS hX.2.2 is hC
  have hPc : va_P D vwCl w H := fun j x hx => by
    obtain ⟨i, -, h⟩ := xplace hC hx
    exact hP i x h
  have hDc : va_D A w := hD.sub is hnd hC
  have hXs : xS tt A s H := hX.2.1.kept (fun a h1 h2 => hS.2.1 a h1 h2)
  exact ⟨rfl, by rw [hU], by rw [hU]; exact hPc, hDc.weaken (fun _ _ _ _ => trivial), xG.warm hW hX.1, by rw [hU]; exact (hXs.narrow hFc).moved hW.alike⟩
theorem xgo {As' : Array Value} (hrun : va_Run p l e R s m args below meth c H locs cells slots 0 0 (F0 m pc ls st0) rest (xE D (va_A w H.size) r w' As') (va_A w H.size)) (hX : xX D cs tt A s) (hP : va_P D vwCl ws H) (hD : va_D A ws) (hS : va_S A s.heap H locs) {is : List Nat} (hC : is.map (fun i => ws[i]?) = w.map some) (ha : w'.map (fun x => x.1) = w.map (fun x => x.1)) (hws1 : xput ws is w' = ws1) (hst1 : r.toList ++ rest = st1)
    (kk : ∀ (H1 : Heap) (locs1 : List Loc), va_P D vwCl ws1 H1 → va_D A ws1 → va_S A s.heap H1 locs1 → W p l e R s m args below meth c H1 locs1 cells slots Q (F0 m (pc + 3) ls st1)) : W p l e R s m args below meth c H locs cells slots Q (F0 m pc ls st0) := by
  intro T hT X
  subst hws1
  subst hst1
  have hFc := va_free (wc := w) hD hS hX.2.2 is hC
  obtain ⟨v, st₀, t, T', L, h0, X', hL, e1, e2, ⟨hv, hP1, hD1, hF1⟩, st⟩ := hrun T hT X
  cases hv
  obtain ⟨hz, hk⟩ := hF1
  rw [h0] at hz hk
  obtain ⟨hP2, hD2⟩ := xjoin (H1 := t.heap) hP hD hC ha hk hP1
  have hS2 : va_S A s.heap T'.heap (locs ++ L) := ⟨Nat.le_trans hS.1 (by rw [e1]; exact hz), fun q h1 h2 => by rw [e1, hk q (Nat.lt_of_lt_of_le h1 hS.1) (fun z => h2 (hFc q z))]; exact hS.2.1 q h1 h2, fun q hq => by
    rcases List.mem_append.mp hq with h | h
    · exact hS.2.2 q h
    · exact hFc _ (hL q h)⟩
  obtain ⟨t2, a1, b1⟩ := kk T'.heap (locs ++ L) (by rw [e1]; exact hP2) hD2 hS2 T' rfl X'
  exact ⟨t2, st t2 a1, b1⟩
/-- a call by invokevirtual -/
theorem xV (hF : CallFix p m c cc nL s args Ts own) (hM : xM l y wsc rm D cs tt (.ref b :: As) w r w') (hT : GoodIn Ts (wsV own index C y wsc)) (hw : wsc = Cond.code y bytes maxL ret :: ws')
    (hd : y.cls = C ∧ y.cls ≠ "java/lang/invoke/MethodHandle" ∧ y.cls ≠ "java/lang/invoke/VarHandle" ∧ (parseMethodDescriptor y.desc).map (fun d => d.parameters.length) = some n) (hn : As.length = n)
    (hR : (rm.cells = 0 ∧ rm.slots = 0) ∧ rm.frames + 1 ≤ R.frames ∧ 8 + (maxL + 11) + rm.locals ≤ R.locals) (hf : cells ≤ R.cells ∧ slots ≤ R.slots)
    (hX : xX D cs tt A s) (hP : va_P D vwCl ws H) (hD : va_D A ws) (hS : va_S A s.heap H locs) (is : List Nat) (hnd : va_nd is = true) (hC : is.map (fun i => ws[i]?) = w.map some) (ad9 : List Nat) (ha1 : w.map (fun x => x.1) = ad9) (ha2 : w'.map (fun x => x.1) = ad9)
    {q0 ci : Nat} {cq : vw_C} {fs : List Value} (hb : ws[q0]? = some (b, .inr (ci, fs))) (hc : vwCl[ci]? = some cq) (hcq : cq.1 = C)
    (hl : ls.size = nL) (hst : st0 = As.reverse ++ .ref b :: rest) (hrest : (rest.map fun v => v.category).sum ≤ 8) (hdg : decode cc pc = .ok (.invokevirtual index, 3)) (hws1 : xput ws is w' = ws1) (hst1 : r.toList ++ rest = st1)
    (kk : ∀ (H1 : Heap) (locs1 : List Loc), va_P D vwCl ws1 H1 → va_D A ws1 → va_S A s.heap H1 locs1 → W p l e R s m args below meth c H1 locs1 cells slots Q (F0 m (pc + 3) ls st1)) : W p l e R s m args below meth c H locs cells slots Q (F0 m pc ls st0) := by
  subst hst
  subst hcq
  exact xgo (va_runV (rest := rest) hF (hM H.size) (cwV n hF.2.2.2.2 hT hw hR.1.1 hR.1.2 hd hR.2) ⟨xPc.blind, va_recv hX.K hP hc hb, fun U hU hW => xpre hX hP hD hS hC hnd hU hW⟩ rfl hn hl rfl (lv_room hrest) hdg hf) hX hP hD hS hC (ha2.trans ha1.symm) hws1 hst1 kk
/-- a call by invokestatic -/
theorem xSt (hF : CallFix p m c cc nL s args Ts own) (hM : xM l y wsc rm D cs tt As w r w') (hT : GoodIn Ts (va_wsS own index y wsc)) (hw : wsc = Cond.code y bytes maxL ret :: ws')
    (hd : y.cls ≠ "java/lang/invoke/MethodHandle" ∧ y.cls ≠ "java/lang/invoke/VarHandle" ∧ (parseMethodDescriptor y.desc).map (fun d => d.parameters.length) = some n) (hn : As.length = n)
    (hR : (rm.cells = 0 ∧ rm.slots = 0) ∧ rm.frames + 1 ≤ R.frames ∧ 8 + (maxL + 11) + rm.locals ≤ R.locals) (hf : cells ≤ R.cells ∧ slots ≤ R.slots)
    (hX : xX D cs tt A s) (hP : va_P D vwCl ws H) (hD : va_D A ws) (hS : va_S A s.heap H locs) (is : List Nat) (hnd : va_nd is = true) (hC : is.map (fun i => ws[i]?) = w.map some) (ad9 : List Nat) (ha1 : w.map (fun x => x.1) = ad9) (ha2 : w'.map (fun x => x.1) = ad9)
    (hl : ls.size = nL) (hst : st0 = As.reverse ++ rest) (hrest : (rest.map fun v => v.category).sum ≤ 8) (hdg : decode cc pc = .ok (.invokestatic index, 3)) (hws1 : xput ws is w' = ws1) (hst1 : r.toList ++ rest = st1)
    (kk : ∀ (H1 : Heap) (locs1 : List Loc), va_P D vwCl ws1 H1 → va_D A ws1 → va_S A s.heap H1 locs1 → W p l e R s m args below meth c H1 locs1 cells slots Q (F0 m (pc + 3) ls st1)) : W p l e R s m args below meth c H locs cells slots Q (F0 m pc ls st0) := by
  subst hst
  exact xgo (va_runS (rest := rest) hF (hM H.size) (va_cwS n hF.2.2.2.2 hT hw hR.1.1 hR.1.2 hd hR.2) ⟨xPc.blind, fun U hU hW => xpre hX hP hD hS hC hnd hU hW⟩ rfl hn hl rfl (lv_room hrest) hdg hf) hX hP hD hS hC (ha2.trans ha1.symm) hws1 hst1 kk
/-- a call by invokestatic of a private method of the nest -/
theorem xSN {host : String} (hF : CallFix p m c cc nL s args Ts own) (hM : xM l y wsc rm D cs tt As w r w') (hT : GoodIn Ts wsc) (hw : wsc = Cond.code y bytes maxL ret :: ws') (hln : Cond.methodLinkNest own index y host ∈ xNests) (hini : (Cond.initialized y.cls) ∈ Ts) (hsta : (Cond.static y) ∈ Ts)
    (hd : y.cls ≠ "java/lang/invoke/MethodHandle" ∧ y.cls ≠ "java/lang/invoke/VarHandle" ∧ (parseMethodDescriptor y.desc).map (fun d => d.parameters.length) = some n) (hn : As.length = n)
    (hR : (rm.cells = 0 ∧ rm.slots = 0) ∧ rm.frames + 1 ≤ R.frames ∧ 8 + (maxL + 11) + rm.locals ≤ R.locals) (hf : cells ≤ R.cells ∧ slots ≤ R.slots)
    (hX : xX D cs tt A s) (hP : va_P D vwCl ws H) (hD : va_D A ws) (hS : va_S A s.heap H locs) (is : List Nat) (hnd : va_nd is = true) (hC : is.map (fun i => ws[i]?) = w.map some) (ad9 : List Nat) (ha1 : w.map (fun x => x.1) = ad9) (ha2 : w'.map (fun x => x.1) = ad9)
    (hl : ls.size = nL) (hst : st0 = As.reverse ++ rest) (hrest : (rest.map fun v => v.category).sum ≤ 8) (hdg : decode cc pc = .ok (.invokestatic index, 3)) (hws1 : xput ws is w' = ws1) (hst1 : r.toList ++ rest = st1)
    (kk : ∀ (H1 : Heap) (locs1 : List Loc), va_P D vwCl ws1 H1 → va_D A ws1 → va_S A s.heap H1 locs1 → W p l e R s m args below meth c H1 locs1 cells slots Q (F0 m (pc + 3) ls st1)) : W p l e R s m args below meth c H locs cells slots Q (F0 m pc ls st0) := by
  subst hst
  exact xgo (va_runSN (rest := rest) hF (hM H.size) ⟨va_cnB n hF.2.2.2.2 hT hw hR.1.1 hR.1.2 (hX.1.2.1 _ hln) (hF.2.2.2.2 _ hini) hd hR.2, hF.2.2.2.2 _ hsta, trivial⟩ ⟨xPc.blind, fun U hU hW => xpre hX hP hD hS hC hnd hU hW⟩ rfl hn hl rfl (lv_room hrest) hdg hf) hX hP hD hS hC (ha2.trans ha1.symm) hws1 hst1 kk
/-! the rows of fields and arrays, with the world behind them written out -/
theorem xget {T : u_T} {N ci : Nat} (hF : CallFix p m c cc nL s args Ts own) (hX : xX D cs tt A s) (hP : va_P D vwCl ws H) (hin : ∀ w ∈ u_ws C T N, w ∈ Ts) (q0 k : Nat) {a : Nat} {fs : List Value} {v : Value} (he : ws[q0]? = some (a, .inr (ci, fs))) (hc : vwCl[ci]? = some (C, T, N)) (hk : k < N) (hlink : (Cond.fieldLink own index (T k).1 (T k).2.1 (T k).2.2.1) ∈ Ts) (hv : fs[k]? = some v) (hdg : decode cc pc = .ok (.getfield index, 3))
    (kk : W p l e R s m args below meth c H locs cells slots Q (F0 m (pc + 3) ls (v :: rest))) : W p l e R s m args below meth c H locs cells slots Q (F0 m pc ls (.ref a :: rest)) :=
  va_get (D := D) hF.1 hF.2.1 hF.2.2.2.2 hin hF.2.2.2.1 hX.K hP q0 he hc k hk (hF.2.2.2.2 _ hlink) (fun _ h => h) hv hdg kk
theorem xputf {T : u_T} {N ci : Nat} (hF : CallFix p m c cc nL s args Ts own) (hX : xX D cs tt A s) (hP : va_P D vwCl ws H) (hD : va_D A ws) (hS : va_S A s.heap H locs) (hin : ∀ w ∈ u_ws C T N, w ∈ Ts) (ty0 : Nat → FieldType) (hty : ∀ k, k < N → parseFieldDescriptor (T k).2.2.1 = some (ty0 k)) (hnm : ∀ a, a < N → ∀ b, b < N → a ≠ b → (T a).2.1 ≠ (T b).2.1) (q0 k : Nat) {a : Nat} {fs : List Value} {v : Value} (he : ws[q0]? = some (a, .inr (ci, fs))) (hc : vwCl[ci]? = some (C, T, N)) (hk : k < N) (hlink : (Cond.fieldLink own index (T k).1 (T k).2.1 (T k).2.2.1) ∈ Ts) (hfin : (T k).2.2.2 = false) (hn : narrow (ty0 k) v = v) (hfit : fits (ty0 k) v = true) (hl : k < fs.length) (hdg : decode cc pc = .ok (.putfield index, 3)) (hws1 : ws.set q0 (a, .inr (ci, fs.set k v)) = ws1)
    (kk : ∀ (H1 : Heap) (locs1 : List Loc), va_P D vwCl ws1 H1 → va_D A ws1 → va_S A s.heap H1 locs1 → W p l e R s m args below meth c H1 locs1 cells slots Q (F0 m (pc + 3) ls rest)) : W p l e R s m args below meth c H locs cells slots Q (F0 m pc ls (v :: .ref a :: rest)) := by
  subst hws1
  exact va_put (D := D) hF.1 hF.2.1 hF.2.2.2.2 hin ty0 hty hnm hF.2.2.2.1 hX.K hP hD hS q0 he hc k hk (hF.2.2.2.2 _ hlink) (fun _ h => h) hfin (hty k hk) hn hfit hl hdg kk
theorem xald (hF : CallFix p m c cc nL s args Ts own) (hX : xX D cs tt A s) (hP : va_P D vwCl ws H) (q0 : Nat) {a n : Nat} {f : Nat → Int32} (ha : ws[q0]? = some (a, .inl (cs 0, n, .inl f))) {i : Int32} {k : Nat} (hi : i.toNatClampNeg = k) (hin : vp_in i n) (hdg : decode cc pc = .ok (.iaload, 1))
    (kk : W p l e R s m args below meth c H locs cells slots Q (F0 m (pc + 1) ls (.int (f k) :: rest))) : W p l e R s m args below meth c H locs cells slots Q (F0 m pc ls (.int i :: .ref a :: rest)) := by
  subst hi
  exact va_iald hF.1 hF.2.1 hX.K hP q0 0 ha rfl hin hdg kk
theorem xast (hF : CallFix p m c cc nL s args Ts own) (hX : xX D cs tt A s) (hP : va_P D vwCl ws H) (hD : va_D A ws) (hS : va_S A s.heap H locs) (q0 : Nat) {a n : Nat} {f : Nat → Int32} (ha : ws[q0]? = some (a, .inl (cs 0, n, .inl f))) {i x : Int32} {k : Nat} (hi : i.toNatClampNeg = k) (hin : vp_in i n) (hdg : decode cc pc = .ok (.iastore, 1)) (hws1 : ws.set q0 (a, .inl (cs 0, n, .inl (upd f k x))) = ws1)
    (kk : ∀ (H1 : Heap) (locs1 : List Loc), va_P D vwCl ws1 H1 → va_D A ws1 → va_S A s.heap H1 locs1 → W p l e R s m args below meth c H1 locs1 cells slots Q (F0 m (pc + 1) ls rest)) : W p l e R s m args below meth c H locs cells slots Q (F0 m pc ls (.int x :: .int i :: .ref a :: rest)) := by
  subst hi
  subst hws1
  exact va_iast hF.1 hF.2.1 hX.K hP hD hS q0 0 ha rfl hin hdg kk
theorem xzald (hF : CallFix p m c cc nL s args Ts own) (hX : xX D cs tt A s) (hP : va_P D vwCl ws H) (q0 : Nat) {a n : Nat} {f : Nat → Int32} (ha : ws[q0]? = some (a, .inl (cs 1, n, .inl f))) {i : Int32} {k : Nat} (hi : i.toNatClampNeg = k) (hin : vp_in i n) (hdg : decode cc pc = .ok (.baload, 1))
    (kk : W p l e R s m args below meth c H locs cells slots Q (F0 m (pc + 1) ls (.int (f k) :: rest))) : W p l e R s m args below meth c H locs cells slots Q (F0 m pc ls (.int i :: .ref a :: rest)) := by
  subst hi
  exact va_zald hF.1 hF.2.1 hX.K hP q0 1 ha rfl hin hdg kk
theorem xzast (hF : CallFix p m c cc nL s args Ts own) (hX : xX D cs tt A s) (hP : va_P D vwCl ws H) (hD : va_D A ws) (hS : va_S A s.heap H locs) (q0 : Nat) {a n : Nat} {f : Nat → Int32} (ha : ws[q0]? = some (a, .inl (cs 1, n, .inl f))) {i x x1 : Int32} {k : Nat} (hi : i.toNatClampNeg = k) (hin : vp_in i n) (hx1 : vp_nar .boolean x = x1) (hdg : decode cc pc = .ok (.bastore, 1)) (hws1 : ws.set q0 (a, .inl (cs 1, n, .inl (upd f k x1))) = ws1)
    (kk : ∀ (H1 : Heap) (locs1 : List Loc), va_P D vwCl ws1 H1 → va_D A ws1 → va_S A s.heap H1 locs1 → W p l e R s m args below meth c H1 locs1 cells slots Q (F0 m (pc + 1) ls rest)) : W p l e R s m args below meth c H locs cells slots Q (F0 m pc ls (.int x :: .int i :: .ref a :: rest)) := by
  subst hi
  subst hx1
  subst hws1
  exact va_zast hF.1 hF.2.1 hX.K hP hD hS q0 1 ha rfl hin hdg kk
theorem xaald (hF : CallFix p m c cc nL s args Ts own) (hX : xX D cs tt A s) (hP : va_P D vwCl ws H) (q0 : Nat) {a n : Nat} {f : Nat → Option Nat} (ha : ws[q0]? = some (a, .inl (cs 2, n, .inr (.inr (.inr (.inr f)))))) {i : Int32} {k v : Nat} (hi : i.toNatClampNeg = k) (hin : vp_in i n) (hv : f k = some v) (hdg : decode cc pc = .ok (.aaload, 1))
    (kk : W p l e R s m args below meth c H locs cells slots Q (F0 m (pc + 1) ls (.ref v :: rest))) : W p l e R s m args below meth c H locs cells slots Q (F0 m pc ls (.int i :: .ref a :: rest)) := by
  subst hi
  refine va_aldq hF.1 hF.2.1 hX.K hP q0 2 ha rfl hin hdg ?_
  rw [hv]
  exact kk
/-- another word for the number on top -/
theorem xrwi {x z : Int32} (h : x = z) (k : W p l e R s m args below meth c H locs cells slots Q (F0 m pc ls (.int z :: rest))) : W p l e R s m args below meth c H locs cells slots Q (F0 m pc ls (.int x :: rest)) := h ▸ k
/-- ends -/
theorem xri {Q9 : Array Value → State → Outcome → State → Prop} {v : Int32} (hF : CallFix p m c cc nL s args Ts own) (hr : meth.sig.returnType = some .int) (hlk : meth.locks = false) (hP : va_P D vwCl w' H) (hD : va_D A w') (hS : va_S A s.heap H locs) (hdg : decode cc pc = .ok (.ireturn, 1)) : W p l e R s m args below meth c H locs 0 0 (MQ below (xE D A (some (.int v)) w') args s 0 0 A) (F0 m pc ls [.int v]) :=
  W.iret hF.1 hF.2.1 hr (fun t ht _ => ⟨rfl, by rw [ht]; exact hP, hD, hS.F ht⟩) hS.2.2 hdg hlk
theorem xrz {v : Int32} (hF : CallFix p m c cc nL s args Ts own) (hr : meth.sig.returnType = some .boolean) (hlk : meth.locks = false) (hP : va_P D vwCl w' H) (hD : va_D A w') (hS : va_S A s.heap H locs) (hn : narrow .boolean (.int v) = .int v) (hdg : decode cc pc = .ok (.ireturn, 1)) : W p l e R s m args below meth c H locs 0 0 (MQ below (xE D A (some (.int v)) w') args s 0 0 A) (F0 m pc ls [.int v]) :=
  W.zret hF.1 hF.2.1 hr hn (fun t ht _ => ⟨rfl, by rw [ht]; exact hP, hD, hS.F ht⟩) hS.2.2 hdg hlk
theorem xrv (hF : CallFix p m c cc nL s args Ts own) (hr : meth.sig.returnType = none) (hlk : meth.locks = false) (hP : va_P D vwCl w' H) (hD : va_D A w') (hS : va_S A s.heap H locs) (hdg : decode cc pc = .ok (.return_, 1)) : W p l e R s m args below meth c H locs 0 0 (MQ below (xE D A none w') args s 0 0 A) (F0 m pc ls []) :=
  W.vret hF.1 hF.2.1 hr (fun t ht _ => ⟨rfl, by rw [ht]; exact hP, hD, hS.F ht⟩) hS.2.2 hdg hlk
theorem xrf {v : UInt32} (hF : CallFix p m c cc nL s args Ts own) (hr : meth.sig.returnType = some .float) (hlk : meth.locks = false) (hP : va_P D vwCl w' H) (hD : va_D A w') (hS : va_S A s.heap H locs) (hdg : decode cc pc = .ok (.freturn, 1)) : W p l e R s m args below meth c H locs 0 0 (MQ below (xE D A (some (.float v)) w') args s 0 0 A) (F0 m pc ls [.float v]) :=
  W.fret hF.1 hF.2.1 hr (fun t ht _ => ⟨rfl, by rw [ht]; exact hP, hD, hS.F ht⟩) hS.2.2 hdg hlk
end XC
/-! ===== the contents of an array count below its length alone ===== -/
theorem xcellI {cA : ClassId} {n : Nat} {f g : Nat → Int32} (h : ∀ j, j < n → f j = g j) : vp_cell cA (n, .inl f) = vp_cell cA (n, .inl g) := by
  rw [vp_cell_i, vp_cell_i]
  unfold arrV
  congr 1
  apply Array.ext
  · simp
  · intro i h1 h2
    simp at h1
    simp [h i h1]
theorem xcongP {D : va_G} {ws : va_W} {H : Heap} {A : Nat → Prop} {a n : Nat} {cA : ClassId} {f g : Nat → Int32} (hP : va_P D vwCl ws H) (q0 : Nat) (ha : ws[q0]? = some (a, .inl (cA, n, .inl f))) (hD : va_D A ws) (h : ∀ j, j < n → f j = g j) : va_P D vwCl (ws.set q0 (a, .inl (cA, n, .inl g))) H := by
  refine hP.set hD ha ?_ (fun _ _ => rfl)
  have h1 := hP q0 _ ha
  show H[a]? = some (vp_cell cA (n, .inl g))
  rw [← xcellI h]
  exact h1
theorem xcongD {ws : va_W} {A : Nat → Prop} {a n : Nat} {cA : ClassId} {f g : Nat → Int32} (q0 : Nat) (ha : ws[q0]? = some (a, .inl (cA, n, .inl f))) (hD : va_D A ws) : va_D A (ws.set q0 (a, .inl (cA, n, .inl g))) := hD.set ha
theorem xeqP {D : va_G} {w w1 : va_W} {H : Heap} (h : va_P D vwCl w H) (q : w = w1) : va_P D vwCl w1 H := q ▸ h
theorem xeqD {A : Nat → Prop} {w w1 : va_W} (h : va_D A w) (q : w = w1) : va_D A w1 := q ▸ h
section XC2
variable {p : Program} {l : Launch} {e : Env} {R : Room} {s : State} {m : MethodId} {args : Array Value} {below : List Frame} {meth : Method} {c : Code} {H : Heap} {locs : List Loc} {cells slots : Nat} {Q : State → Prop}
variable {cc : ByteArray} {pc : Nat} {ls : Array Slot} {rest : List Value} {D : va_G} {cs : Nat → ClassId} {tt : Nat → Nat} {A : Nat → Prop} {ws ws1 : va_W} {nL index : Nat} {Ts : List Cond} {own : String}
/-- System.arraycopy of the first K numbers -/
theorem xcopy (hF : CallFix p m c cc nL s args Ts own) (hX : xX D cs tt A s) (hP : va_P D vwCl ws H) (hD : va_D A ws) (hS : va_S A s.heap H locs) (hl : ls.size = nL) (hlink : Cond.methodLink own index arraycopyName ∈ Ts) (hnat : Cond.native arraycopyName ∈ Ts) (hstat : Cond.static arraycopyName ∈ Ts) (hini : Cond.initialized "java/lang/System" ∈ Ts) (q0 q1 : Nat) {a a0 n0 n1 K : Nat} {f g : Nat → Int32} (ha0 : ws[q0]? = some (a0, .inl (cs 0, n0, .inl f))) (ha1 : ws[q1]? = some (a, .inl (cs 0, n1, .inl g))) (h0 : K ≤ n0) (h1 : K ≤ n1) (hK : K < 2 ^ 31)
    (hfr : 1 ≤ R.frames) (hlo : (rest.map fun v => v.category).sum + (nativeFrameWords "java/lang/System" "arraycopy" 5 + 11) ≤ R.locals) (hdg : decode cc pc = .ok (.invokestatic index, 3)) (hws1 : ws.set q1 (a, .inl (cs 0, n1, .inl (va_cpy f g 0 0 K))) = ws1)
    (kk : ∀ (H1 : Heap) (locs1 : List Loc), va_P D vwCl ws1 H1 → va_D A ws1 → va_S A s.heap H1 locs1 → W p l e R s m args below meth c H1 locs1 cells slots Q (F0 m (pc + 3) ls rest)) : W p l e R s m args below meth c H locs cells slots Q (F0 m pc ls (.int (nI K) :: .int 0 :: .ref a :: .int 0 :: .ref a0 :: rest)) := by
  subst hws1
  have e0 : (0 : Int32).toNatClampNeg = 0 := rfl
  have eK : (nI K).toNatClampNeg = K := nI_clamp hK
  refine va_copyi hF.1 hF.2.1 (hF.2.2.1.trans hl.symm) hF.2.2.2.1 (hF.2.2.2.2 _ hlink) (hF.2.2.2.2 _ hnat) (hF.2.2.2.2 _ hstat) (hF.2.2.2.2 _ hini) hX.K hP hD hS q0 q1 0 0 ha0 ha1 rfl rfl rfl (by decide) (by decide) (nI_pos hK) (by rw [e0, eK]; omega) (by rw [e0, eK]; omega) (fun _ _ => rfl) hfr hlo hdg ?_
  rw [e0, eK]
  exact kk
end XC2
abbrev xW (p : Program) (l : Launch) (e : Env) (R : Room) (s : State) (m : MethodId) (args : Array Value) (below : List Frame) (meth : Method) (c : Code) (H : Heap) (locs : List Loc) (cells slots : Nat) (Q : State → Prop) (g : JFrame) : Prop := W p l e R s m args below meth c H locs cells slots Q g
section XC3
variable {p : Program} {l : Launch} {e : Env} {R : Room} {s : State} {m : MethodId} {args : Array Value} {below : List Frame} {meth : Method} {c : Code} {H : Heap} {locs : List Loc} {cells slots : Nat} {Q : State → Prop}
variable {cc : ByteArray} {pc : Nat} {ls : Array Slot} {rest : List Value} {D : va_G} {cs : Nat → ClassId} {tt : Nat → Nat} {A : Nat → Prop} {ws ws1 : va_W} {nL index : Nat} {Ts : List Cond} {own : String}
/-- a row of an array of arrays of numbers -/
theorem xaaldI (hF : CallFix p m c cc nL s args Ts own) (hX : xX D cs tt A s) (hP : va_P D vwCl ws H) (q0 : Nat) {a n : Nat} {f : Nat → Option Nat} (ha : ws[q0]? = some (a, .inl (cs 3, n, .inr (.inr (.inr (.inr f)))))) {i : Int32} {k v : Nat} (hi : i.toNatClampNeg = k) (hin : vp_in i n) (hv : f k = some v) (hdg : decode cc pc = .ok (.aaload, 1))
    (kk : W p l e R s m args below meth c H locs cells slots Q (F0 m (pc + 1) ls (.ref v :: rest))) : W p l e R s m args below meth c H locs cells slots Q (F0 m pc ls (.int i :: .ref a :: rest)) := by
  have hlt : i.toNatClampNeg < n := Nat.not_le.mp fun q => hin (Or.inr q)
  refine W.aald (v := va_rf (f i.toNatClampNeg)) (ty := .array .int) hF.1 hF.2.1 (hP q0 _ ha) ((hX.K.2 3 _ rfl).1 n (fun j => va_rf (f j))) rfl (fun q => by cases q) (by show ¬ (i < 0 ∨ (arrV _ _ _).slots.size ≤ _); rw [arrV_size]; exact hin) (by show (arrV _ _ _).slots[_]? = _; rw [arrV_read _ _ hlt]) rfl rfl hdg ?_
  subst hi
  rw [hv]
  exact kk
end XC3
