/-! ===== what stands at the law's entry ===== -/
abbrev gvF : List Cond := flatC (Jvm.Cond.and given_1 narrow_1)
set_option maxRecDepth 100000 in
theorem inZg : ∀ j, j < 64 → Cond.eq (.elem (.static RX0 "ZIGZAG" "[I") (.int (Int32.ofNat j))) (.int (xzz j)) ∈ gvF := by decide +kernel
set_option maxRecDepth 100000 in
theorem inWv : ∀ j, j < 32 → Cond.eq (.elem (.static RX0 "WAVE" "[I") (.int (Int32.ofNat j))) (.int (xwv j)) ∈ gvF := by decide +kernel
set_option maxRecDepth 100000 in
theorem inEx : ∀ q ∈ xTexts, Cond.exactly (.string RX6 q.1) "java/lang/String" ∈ gvF := by decide +kernel
set_option maxRecDepth 100000 in
theorem inSt : ∀ q ∈ xTexts, Cond.stringRef RX6 q.1 q.2 ∈ lw_tbl := by decide +kernel
set_option maxRecDepth 100000 in
theorem inNe : ∀ w ∈ xNests, w ∈ lw_tbl := by decide +kernel
set_option maxRecDepth 100000 in
theorem inCa : ∀ E ∈ xEs, Cond.castable E E ∈ lw_tbl ∨ Cond.castable E E ∈ gvF := by decide +kernel
set_option maxRecDepth 100000 in
theorem inDe : ∀ E ∈ xSup, Cond.declares (Bundle.initS E) ∈ lw_tbl := by decide +kernel
set_option maxRecDepth 100000 in
theorem inNc : Cond.not (.castable xISE xIAE) ∈ gvF ∧ Cond.not (.castable xIOO xISE) ∈ gvF := by decide +kernel
set_option maxRecDepth 100000 in
theorem inAr : Cond.arrayClass .int ∈ lw_tbl ∧ Cond.arrayClass .boolean ∈ lw_tbl ∧ Cond.arrayClass .long ∈ lw_tbl ∧ Cond.arrayClass .double ∈ lw_tbl ∧ Cond.arrayOver (.object "PictureDeck$Plane") ∈ lw_tbl ∧ Cond.arrayOver (.array .int) ∈ lw_tbl := by decide +kernel
set_option maxRecDepth 100000 in
theorem inGv : Cond.arrayOf (.static RX0 "ZIGZAG" "[I") .int ∈ gvF ∧ Cond.eq (.length (.static RX0 "ZIGZAG" "[I")) (.int 64) ∈ gvF ∧ Cond.arrayOf (.static RX0 "WAVE" "[I") .int ∈ gvF ∧ Cond.eq (.length (.static RX0 "WAVE" "[I")) (.int 32) ∈ gvF ∧ Cond.isRef (.static Bundle.tN "UNASSIGNED_STACK" Bundle.steD) ∈ gvF ∧ Cond.isRef (.static Bundle.tN "SUPPRESSED_SENTINEL" Bundle.listD) ∈ gvF := by decide +kernel
set_option maxRecDepth 100000 in
theorem inLs : Cond.laysStatic RX0 "ZIGZAG" "[I" ∈ lw_tbl ∧ Cond.laysStatic RX0 "WAVE" "[I" ∈ lw_tbl ∧ Cond.laysStatic Bundle.tN "UNASSIGNED_STACK" Bundle.steD ∈ lw_tbl ∧ Cond.laysStatic Bundle.tN "SUPPRESSED_SENTINEL" Bundle.listD ∈ lw_tbl ∧ Cond.initialized RX0 ∈ lw_tbl ∧ Cond.initialized Bundle.tN ∈ lw_tbl := by decide +kernel
set_option maxRecDepth 100000 in
theorem inIn : Cond.instantiable RX0 6 ∈ lw_tbl ∧ Cond.instantiable RX1 4 ∈ lw_tbl ∧ Cond.instantiable RX2 3 ∈ lw_tbl ∧ Cond.instantiable RX3 1 ∈ lw_tbl ∧ Cond.instantiable RX4 4 ∈ lw_tbl ∧ Cond.instantiable RX5 9 ∈ lw_tbl ∧ Cond.instantiable RX6 9 ∈ lw_tbl ∧ Cond.instantiable RX7 34 ∈ lw_tbl := by decide +kernel
set_option maxRecDepth 100000 in
theorem inTx : ∀ q ∈ xTexts, ∀ r ∈ xTexts, q.1 = r.1 → q = r := by decide +kernel
set_option maxRecDepth 100000 in
theorem inUw : (∀ w ∈ u_ws RX0 TX0 6, w ∈ lw_tbl) ∧ (∀ w ∈ u_ws RX1 TX1 4, w ∈ lw_tbl) ∧ (∀ w ∈ u_ws RX2 TX2 3, w ∈ lw_tbl) ∧ (∀ w ∈ u_ws RX3 TX3 1, w ∈ lw_tbl) ∧ (∀ w ∈ u_ws RX4 TX4 4, w ∈ lw_tbl) ∧ (∀ w ∈ u_ws RX5 TX5 9, w ∈ lw_tbl) ∧ (∀ w ∈ u_ws RX6 TX6 9, w ∈ lw_tbl) ∧ (∀ w ∈ u_ws RX7 TX7 34, w ∈ lw_tbl) := by decide +kernel
theorem arr_of {s : State} {a : Array Value} {ty : FieldType} (hp : ∀ C, ty ≠ .object C) (h : (Cond.arrayClass ty).before a s = true) : ∃ cA, ArrOfT s cA ty ∧ va_RA s cA ty := by
  obtain ⟨c, k, comp, h1, h2, h3⟩ := Cond.arrayClass_spec h
  refine ⟨c, fun n z => ⟨fun k h => (by cases h), k, h2, comp, h3⟩, ?_⟩
  cases ty with
  | object C => exact absurd rfl (hp C)
  | _ => exact h1
set_option maxHeartbeats 4000000 in
theorem law_facts {s : State} {b : Nat} (hts : ∀ w ∈ lw_tbl, w.before #[Value.ref b] s = true) (hgv : (Jvm.Cond.and given_1 narrow_1).before #[Value.ref b] s = true) : ∃ (D : va_G) (cs : Nat → ClassId) (tt : Nat → Nat), xX D cs tt (fun q => s.heap.size ≤ q) s ∧ xC s := by
  have hf := flat_of_before _ hgv
  have hA : ∀ a : Nat, a < s.heap.size → ¬ (fun q : Nat => s.heap.size ≤ q) a := fun a h => Nat.not_le.mpr h
  obtain ⟨i0, i1, i2, i3, i4, i5, i6, i7⟩ := inIn
  obtain ⟨u0, u1, u2, u3, u4, u5, u6, u7⟩ := inUw
  obtain ⟨c0, s0, k0⟩ := u_known (C := RX0) (T := TX0) (N := 6) (n := 6) hts u0 (hts _ i0)
  obtain ⟨c1, s1, k1⟩ := u_known (C := RX1) (T := TX1) (N := 4) (n := 4) hts u1 (hts _ i1)
  obtain ⟨c2, s2, k2⟩ := u_known (C := RX2) (T := TX2) (N := 3) (n := 3) hts u2 (hts _ i2)
  obtain ⟨c3, s3, k3⟩ := u_known (C := RX3) (T := TX3) (N := 1) (n := 1) hts u3 (hts _ i3)
  obtain ⟨c4, s4, k4⟩ := u_known (C := RX4) (T := TX4) (N := 4) (n := 4) hts u4 (hts _ i4)
  obtain ⟨c5, s5, k5⟩ := u_known (C := RX5) (T := TX5) (N := 9) (n := 9) hts u5 (hts _ i5)
  obtain ⟨c6, s6, k6⟩ := u_known (C := RX6) (T := TX6) (N := 9) (n := 9) hts u6 (hts _ i6)
  obtain ⟨c7, s7, k7⟩ := u_known (C := RX7) (T := TX7) (N := 34) (n := 34) hts u7 (hts _ i7)
  obtain ⟨a1, a2, a3, a4, a5, a6⟩ := inAr
  obtain ⟨g0, g0a, g0b⟩ := arr_of (ty := .int) (fun _ h => by cases h) (hts _ a1)
  obtain ⟨g1, g1a, g1b⟩ := arr_of (ty := .boolean) (fun _ h => by cases h) (hts _ a2)
  obtain ⟨g4, g4a, g4b⟩ := arr_of (ty := .long) (fun _ h => by cases h) (hts _ a3)
  obtain ⟨g5, g5a, g5b⟩ := arr_of (ty := .double) (fun _ h => by cases h) (hts _ a4)
  obtain ⟨q1, g2, q2, q3, -, q5, q6, q7⟩ := Cond.arrayOver_spec (hts _ a5)
  obtain ⟨r1, g3, r2, -, -, r5, r6, r7⟩ := arrayOverA_spec (hts _ a6)
  obtain ⟨z1, z2, z3, z4, z5, z6⟩ := inGv
  obtain ⟨l1, l2, l3, l4, l5, l6⟩ := inLs
  obtain ⟨tz, tz1, tz2⟩ := va_Tof (tm := .static RX0 "ZIGZAG" "[I") (ty := .int) (N := 64) (f := fun j => .int (xzz j)) (A := fun q => s.heap.size ≤ q) (by decide) (hf _ z1) (va_eqt (hf _ z2)) (fun j hj => va_eqt (hf _ (inZg j hj))) hA
  obtain ⟨tw, tw1, tw2⟩ := va_Tof (tm := .static RX0 "WAVE" "[I") (ty := .int) (N := 32) (f := fun j => .int (xwv j)) (A := fun q => s.heap.size ≤ q) (by decide) (hf _ z3) (va_eqt (hf _ z4)) (fun j hj => va_eqt (hf _ (inWv j hj))) hA
  have htx : ∀ k : Nat, ∃ a : Nat, ∀ q ∈ xTexts, q.1 = k → vk_R RX6 q.1 q.2 a s := by
    intro k
    by_cases h : ∃ q ∈ xTexts, q.1 = k
    · obtain ⟨q, hq, e⟩ := h
      obtain ⟨a, _, _, _, e1, _⟩ := Cond.exactly_spec (hf _ (inEx q hq))
      refine ⟨a, fun r hr er => ?_⟩
      have eqr := inTx r hr q hq (er.trans e.symm)
      subst eqr
      exact vk_R.of (hts _ (inSt r hr)) e1
    · exact ⟨0, fun r hr er => absurd ⟨r, hr, er⟩ h⟩
  obtain ⟨ad, had⟩ := Classical.axiomOfChoice htx
  refine ⟨(fun k => [c0, c1, c2, c3, c4, c5, c6, c7].getD k c0, fun k => [s0, s1, s2, s3, s4, s5, s6, s7].getD k s0), fun k => [g0, g1, g2, g3, g4, g5].getD k g0, fun n => if n = 0 then tz else if n = 1 then tw else ad (n - 10), ⟨⟨⟨?_, ?_⟩, ?_, ⟨va_AO.of (hts _ a5), va_AOA.of (hts _ a6)⟩, ?_⟩, ⟨⟨va_Zof (hts _ l1) (hts _ l5) tz1 hA, tz2⟩, ⟨va_Zof (hts _ l2) (hts _ l5) tw1 hA, tw2⟩, vx_Zqof (hts _ l3) (hts _ l6) (hf _ z5) hA, vx_Zqof (hts _ l4) (hts _ l6) (hf _ z6) hA⟩, fun q h => h⟩, ?_, ?_, ?_, ?_⟩
  · intro k q hq
    match k, hq with
    | 0, hq => cases hq; exact k0
    | 1, hq => cases hq; exact k1
    | 2, hq => cases hq; exact k2
    | 3, hq => cases hq; exact k3
    | 4, hq => cases hq; exact k4
    | 5, hq => cases hq; exact k5
    | 6, hq => cases hq; exact k6
    | 7, hq => cases hq; exact k7
    | k + 8, hq => simp at hq
  · intro k q hq
    match k, hq with
    | 0, hq => cases hq; exact ⟨g0a, g0b⟩
    | 1, hq => cases hq; exact ⟨g1a, g1b⟩
    | 2, hq => cases hq; exact ⟨fun n z => ⟨fun k h => (by cases h), q2, q5, q1, q6⟩, q2, q1, q5, q6, q3, q7⟩
    | 3, hq => cases hq; exact ⟨fun n z => ⟨fun k h => (by cases h), r2, r5, r1, r6⟩, r7⟩
    | 4, hq => cases hq; exact ⟨g4a, g4b⟩
    | 5, hq => cases hq; exact ⟨g5a, g5b⟩
    | k + 6, hq => simp at hq
  · intro w hw
    have hh := hts _ (inNe w hw)
    obtain ⟨a, i, y, h, rfl⟩ := xNests_ok w hw
    exact va_Nw.of rfl hh
  · intro q hq
    have h1 := had q.1 q hq rfl
    have e : (fun n => if n = 0 then tz else if n = 1 then tw else ad (n - 10)) (q.1 + 10) = ad q.1 := by
      show (if q.1 + 10 = 0 then tz else if q.1 + 10 = 1 then tw else ad (q.1 + 10 - 10)) = _
      rw [if_neg (by omega), if_neg (by omega), Nat.add_sub_cancel]
    rw [e]
    exact h1
  · intro E hE
    rcases inCa E hE with h | h
    · exact va_Nw.of rfl (hts _ h)
    · exact va_Nw.of rfl (hf _ h)
  · exact fun E hE => va_Nw.of rfl (hts _ (inDe E hE))
  · exact va_Nc.of (hf _ inNc.1)
  · exact va_Nc.of (hf _ inNc.2)
