/-! ===== cells chosen by a mask: for large worlds ===== -/
def xsel : List Bool → va_W → va_W
  | true :: m, c :: ws => c :: xsel m ws
  | false :: m, _ :: ws => xsel m ws
  | _, _ => []
def xmrg : List Bool → va_W → va_W → va_W
  | true :: m, _ :: ws, x :: xs => x :: xmrg m ws xs
  | false :: m, c :: ws, xs => c :: xmrg m ws xs
  | _, ws, _ => ws
def xadr (ws : va_W) : List Nat := ws.map (fun x => x.1)
theorem xD_nd {A : Nat → Prop} {ws : va_W} (h : va_D A ws) : (xadr ws).Nodup := by
  show List.Pairwise (· ≠ ·) (xadr ws)
  rw [List.pairwise_iff_getElem]
  intro i j hi hj hij he
  have hi' : i < ws.length := by simpa [xadr] using hi
  have hj' : j < ws.length := by simpa [xadr] using hj
  have he' : ws[i].1 = ws[j].1 := by simpa [xadr] using he
  have := h.1 i j ws[i] ws[j] (List.getElem?_eq_getElem hi') (List.getElem?_eq_getElem hj') he'
  omega
theorem xD_of {A : Nat → Prop} {ws : va_W} (h : (xadr ws).Nodup) (hA : ∀ q ∈ ws, A q.1) : va_D A ws := by
  refine ⟨fun i j p q hi hj he => ?_, fun k q hk => hA q (List.mem_of_getElem? hk)⟩
  have h' : List.Pairwise (· ≠ ·) (xadr ws) := h
  rw [List.pairwise_iff_getElem] at h'
  obtain ⟨hil, hi1⟩ := List.getElem?_eq_some_iff.mp hi
  obtain ⟨hjl, hj1⟩ := List.getElem?_eq_some_iff.mp hj
  have hil' : i < (xadr ws).length := by simpa [xadr] using hil
  have hjl' : j < (xadr ws).length := by simpa [xadr] using hjl
  have e1 : (xadr ws)[i] = p.1 := by simp [xadr, hi1]
  have e2 : (xadr ws)[j] = q.1 := by simp [xadr, hj1]
  rcases Nat.lt_trichotomy i j with hl | hl | hl
  · exact absurd (by rw [e1, e2, he]) (h' i j hil' hjl' hl)
  · exact hl
  · exact absurd (by rw [e1, e2, he]) (h' j i hjl' hil' hl)
theorem xsel_mem : ∀ (m : List Bool) (ws : va_W) (q : Nat × va_E), q ∈ xsel m ws → q ∈ ws
  | [], _, q, h => by simp [xsel] at h
  | true :: m, [], q, h => by simp [xsel] at h
  | false :: m, [], q, h => by simp [xsel] at h
  | true :: m, c :: ws, q, h => by
    rcases List.mem_cons.mp h with h | h
    · exact List.mem_cons.mpr (Or.inl h)
    · exact List.mem_cons_of_mem _ (xsel_mem m ws q h)
  | false :: m, c :: ws, q, h => List.mem_cons_of_mem _ (xsel_mem m ws q h)
theorem xsel_sub : ∀ (m : List Bool) (ws : va_W), List.Sublist (xsel m ws) ws
  | [], ws => by simp [xsel]
  | true :: m, [] => by simp [xsel]
  | false :: m, [] => by simp [xsel]
  | true :: m, c :: ws => (xsel_sub m ws).cons₂ c
  | false :: m, c :: ws => (xsel_sub m ws).cons c
theorem xmrg_adr : ∀ (m : List Bool) (ws w : va_W), xadr w = xadr (xsel m ws) → xadr (xmrg m ws w) = xadr ws
  | [], ws, w, _ => by cases w <;> rfl
  | true :: m, [], w, _ => by cases w <;> rfl
  | false :: m, [], w, _ => by cases w <;> rfl
  | true :: m, c :: ws, [], h => by simp [xadr, xsel] at h
  | true :: m, c :: ws, x :: xs, h => by
    have h1 : x.1 :: xadr xs = c.1 :: xadr (xsel m ws) := h
    have h2 := List.cons.inj h1
    show x.1 :: xadr (xmrg m ws xs) = c.1 :: xadr ws
    rw [h2.1, xmrg_adr m ws xs h2.2]
  | false :: m, c :: ws, w, h => by
    show c.1 :: xadr (xmrg m ws w) = c.1 :: xadr ws
    rw [xmrg_adr m ws w h]
theorem xadr_mem {ws : va_W} {q : Nat × va_E} (h : q ∈ ws) : q.1 ∈ xadr ws := List.mem_map.mpr ⟨q, h, rfl⟩
theorem xmrg_mem : ∀ (m : List Bool) (ws w : va_W) (q : Nat × va_E), xadr w = xadr (xsel m ws) → (xadr ws).Nodup → q ∈ xmrg m ws w → q ∈ w ∨ (q ∈ ws ∧ q.1 ∉ xadr (xsel m ws))
  | [], ws, w, q, _, _, h => by
    have h' : q ∈ ws := by cases w <;> exact h
    exact Or.inr ⟨h', by simp [xsel, xadr]⟩
  | true :: m, [], w, q, _, _, h => by
    have h' : q ∈ ([] : va_W) := by cases w <;> exact h
    cases h'
  | false :: m, [], w, q, _, _, h => by
    have h' : q ∈ ([] : va_W) := by cases w <;> exact h
    cases h'
  | true :: m, c :: ws, [], q, h, _, _ => by simp [xadr, xsel] at h
  | true :: m, c :: ws, x :: xs, q, h, hn, hq => by
    have h1 : x.1 :: xadr xs = c.1 :: xadr (xsel m ws) := h
    have h2 := List.cons.inj h1
    have hn' : (c.1 :: xadr ws).Nodup := hn
    rw [List.nodup_cons] at hn'
    have hq' : q ∈ x :: xmrg m ws xs := hq
    rcases List.mem_cons.mp hq' with hq1 | hq1
    · exact Or.inl (List.mem_cons.mpr (Or.inl hq1))
    · rcases xmrg_mem m ws xs q h2.2 hn'.2 hq1 with h3 | ⟨h3, h4⟩
      · exact Or.inl (List.mem_cons_of_mem _ h3)
      · refine Or.inr ⟨List.mem_cons_of_mem _ h3, ?_⟩
        show q.1 ∉ c.1 :: xadr (xsel m ws)
        intro h5
        rcases List.mem_cons.mp h5 with h5 | h5
        · exact hn'.1 (h5 ▸ xadr_mem h3)
        · exact h4 h5
  | false :: m, c :: ws, w, q, h, hn, hq => by
    have hn' : (c.1 :: xadr ws).Nodup := hn
    rw [List.nodup_cons] at hn'
    have hq' : q ∈ c :: xmrg m ws w := hq
    rcases List.mem_cons.mp hq' with hq1 | hq1
    · refine Or.inr ⟨List.mem_cons.mpr (Or.inl hq1), fun h5 => ?_⟩
      obtain ⟨z, hz, hz1⟩ := List.mem_map.mp h5
      have hz2 : z.1 = q.1 := hz1
      exact hn'.1 (by rw [← hq1, ← hz2]; exact xadr_mem (xsel_mem m ws z hz))
    · rcases xmrg_mem m ws w q h hn'.2 hq1 with h3 | ⟨h3, h4⟩
      · exact Or.inl h3
      · exact Or.inr ⟨List.mem_cons_of_mem _ h3, h4⟩
theorem xP_mem {D : va_G} {ws : va_W} {H : Heap} (h : va_P D vwCl ws H) {q : Nat × va_E} (hq : q ∈ ws) : va_at D vwCl q H := by
  obtain ⟨k, hk⟩ := List.getElem?_of_mem hq
  exact h k q hk
theorem xP_of {D : va_G} {ws : va_W} {H : Heap} (h : ∀ q ∈ ws, va_at D vwCl q H) : va_P D vwCl ws H := fun _ q hk => h q (List.mem_of_getElem? hk)
theorem xA_mem {w : va_W} {sz q : Nat} (h : va_A w sz q) : q ∈ xadr w ∨ sz ≤ q := by
  rcases h with ⟨k, e, h⟩ | h
  · exact Or.inl (xadr_mem (List.mem_of_getElem? h))
  · exact Or.inr h
section XM
variable {p : Program} {l : Launch} {e : Env} {R : Room} {s : State} {m : MethodId} {args : Array Value} {below : List Frame} {meth : Method} {c : Code} {H : Heap} {locs : List Loc} {cells slots : Nat} {Q : State → Prop}
variable {cc : ByteArray} {pc : Nat} {ls : Array Slot} {rest st0 st1 : List Value} {D : va_G} {cs : Nat → ClassId} {tt : Nat → Nat} {A : Nat → Prop} {ws w w' ws1 : va_W}
variable {y : MethodName} {bytes : ByteArray} {maxL nL index n : Nat} {ret : Option FieldType} {wsc ws' Ts : List Cond} {rm : Room} {own C : String} {b : Nat} {As : List Value} {r : Option Value} {mk9 : List Bool}
theorem xfreeM (hX : xX D cs tt A s) (hD : va_D A ws) (hS : va_S A s.heap H locs) (hC : xsel mk9 ws = w) : ∀ q, va_A w H.size q → A q := by
  intro q hq
  subst hC
  rcases hq with ⟨k, e9, h⟩ | h
  · obtain ⟨j, hj⟩ := List.getElem?_of_mem (xsel_mem mk9 ws _ (List.mem_of_getElem? h))
    exact hD.2 j _ hj
  · exact hX.2.2 q (Nat.le_trans hS.1 h)
theorem xpreM (hX : xX D cs tt A s) (hP : va_P D vwCl ws H) (hD : va_D A ws) (hS : va_S A s.heap H locs) (hC : xsel mk9 ws = w) {av : List Value} {U : State} (hU : U.heap = H) (hW : s.WarmedH U.vm) : xPc D cs tt av w H.size av.toArray U := by
  have hFc := xfreeM hX hD hS hC
  subst hC
  have hPc : va_P D vwCl (xsel mk9 ws) H := xP_of (fun q hq => xP_mem hP (xsel_mem mk9 ws q hq))
  have hDc : va_D (fun _ => True) (xsel mk9 ws) := xD_of (List.Sublist.nodup ((xsel_sub mk9 ws).map _) (xD_nd hD)) (fun _ _ => trivial)
  have hXs : xS tt A s H := hX.2.1.kept (fun a h1 h2 => hS.2.1 a h1 h2)
  exact ⟨rfl, by rw [hU], by rw [hU]; exact hPc, hDc, xG.warm hW hX.1, by rw [hU]; exact (hXs.narrow hFc).moved hW.alike⟩
theorem xgoM {As' : Array Value} (hrun : va_Run p l e R s m args below meth c H locs cells slots 0 0 (F0 m pc ls st0) rest (xE D (va_A w H.size) r w' As') (va_A w H.size)) (hX : xX D cs tt A s) (hP : va_P D vwCl ws H) (hD : va_D A ws) (hS : va_S A s.heap H locs) (hC : xsel mk9 ws = w) (ha : xadr w' = xadr w) (hws1 : xmrg mk9 ws w' = ws1) (hst1 : r.toList ++ rest = st1)
    (kk : ∀ (H1 : Heap) (locs1 : List Loc), va_P D vwCl ws1 H1 → va_D A ws1 → va_S A s.heap H1 locs1 → W p l e R s m args below meth c H1 locs1 cells slots Q (F0 m (pc + 3) ls st1)) : W p l e R s m args below meth c H locs cells slots Q (F0 m pc ls st0) := by
  intro T hT X
  subst hws1
  subst hst1
  have hFc := xfreeM hX hD hS hC
  subst hC
  obtain ⟨v, st₀, t, T', L, h0, X', hL, e1, e2, ⟨hv, hP1, hD1, hF1⟩, st⟩ := hrun T hT X
  cases hv
  obtain ⟨hz, hk⟩ := hF1
  rw [h0] at hz hk
  have hnd := xD_nd hD
  have hP2 : va_P D vwCl (xmrg mk9 ws w') t.heap := xP_of (fun q hq => by
    rcases xmrg_mem mk9 ws w' q ha hnd hq with h | ⟨h, h2⟩
    · exact xP_mem hP1 h
    · have hat := xP_mem hP h
      refine hat.kept (hk q.1 hat.lt (fun h3 => ?_))
      rcases xA_mem h3 with h3 | h3
      · exact h2 h3
      · have := hat.lt
        omega)
  have hadr := xmrg_adr mk9 ws w' ha
  have hD2 : va_D A (xmrg mk9 ws w') := xD_of (by rw [hadr]; exact hnd) (fun q hq => by
    have h1 : q.1 ∈ xadr ws := by rw [← hadr]; exact xadr_mem hq
    obtain ⟨z, hz, hz1⟩ := List.mem_map.mp h1
    obtain ⟨j, hj⟩ := List.getElem?_of_mem hz
    have hz2 : z.1 = q.1 := hz1
    rw [← hz2]
    exact hD.2 j z hj)
  have hS2 : va_S A s.heap T'.heap (locs ++ L) := ⟨Nat.le_trans hS.1 (by rw [e1]; exact hz), fun q h1 h2 => by rw [e1, hk q (Nat.lt_of_lt_of_le h1 hS.1) (fun z => h2 (hFc q z))]; exact hS.2.1 q h1 h2, fun q hq => by
    rcases List.mem_append.mp hq with h | h
    · exact hS.2.2 q h
    · exact hFc _ (hL q h)⟩
  obtain ⟨t2, a1, b1⟩ := kk T'.heap (locs ++ L) (by rw [e1]; exact hP2) hD2 hS2 T' rfl X'
  exact ⟨t2, st t2 a1, b1⟩
theorem xVM (mk9 : List Bool) (hF : CallFix p m c cc nL s args Ts own) (hM : xM l y wsc rm D cs tt (.ref b :: As) w r w') (hT : GoodIn Ts (wsV own index C y wsc)) (hw : wsc = Cond.code y bytes maxL ret :: ws')
    (hd : y.cls = C ∧ y.cls ≠ "java/lang/invoke/MethodHandle" ∧ y.cls ≠ "java/lang/invoke/VarHandle" ∧ (parseMethodDescriptor y.desc).map (fun d => d.parameters.length) = some n) (hn : As.length = n)
    (hR : (rm.cells = 0 ∧ rm.slots = 0) ∧ rm.frames + 1 ≤ R.frames ∧ 8 + (maxL + 11) + rm.locals ≤ R.locals) (hf : cells ≤ R.cells ∧ slots ≤ R.slots)
    (hX : xX D cs tt A s) (hP : va_P D vwCl ws H) (hD : va_D A ws) (hS : va_S A s.heap H locs) (hC : xsel mk9 ws = w) (ad9 : List Nat) (ha1 : xadr w = ad9) (ha2 : xadr w' = ad9)
    {q0 ci : Nat} {cq : vw_C} {fs : List Value} (hb : ws[q0]? = some (b, .inr (ci, fs))) (hc : vwCl[ci]? = some cq) (hcq : cq.1 = C)
    (hl : ls.size = nL) (hst : st0 = As.reverse ++ .ref b :: rest) (hrest : (rest.map fun v => v.category).sum ≤ 8) (hdg : decode cc pc = .ok (.invokevirtual index, 3)) (hws1 : xmrg mk9 ws w' = ws1) (hst1 : r.toList ++ rest = st1)
    (kk : ∀ (H1 : Heap) (locs1 : List Loc), va_P D vwCl ws1 H1 → va_D A ws1 → va_S A s.heap H1 locs1 → W p l e R s m args below meth c H1 locs1 cells slots Q (F0 m (pc + 3) ls st1)) : W p l e R s m args below meth c H locs cells slots Q (F0 m pc ls st0) := by
  subst hst
  subst hcq
  exact xgoM (va_runV (rest := rest) hF (hM H.size) (cwV n hF.2.2.2.2 hT hw hR.1.1 hR.1.2 hd hR.2) ⟨xPc.blind, va_recv hX.K hP hc hb, fun U hU hW => xpreM hX hP hD hS hC hU hW⟩ rfl hn hl rfl (lv_room hrest) hdg hf) hX hP hD hS hC (ha2.trans ha1.symm) hws1 hst1 kk
end XM
