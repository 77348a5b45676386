/-! ===== the law's loop ===== -/
theorem law_next (l : Launch) (D : va_G) (cs : Nat → ClassId) (tt : Nat → Nat) (p : Program) (e : Env) (s : State) (m : MethodId) (below : List Frame) (meth : Method) (c : Code) (b L : Nat) (xs : Nat → Int32) (dk mo ou od : Nat) (Q : State → Prop) (hC : LC l D cs tt p s m meth c b L xs) {t u : Nat} (h : LW l D cs p e s m below meth c b dk mo ou od (t + 1) u 28 Q) : LW l D cs p e s m below meth c b dk mo ou od t u 1070 Q := by
  intro H locs ls th O Od w1 w2 hSt hP hD hS hl
  obtain ⟨hF, -⟩ := hC
  have hx := hF.1
  have hb := hF.2.1
  refine lv_iinc (v := nI (5 * (t + 1))) (lv' := [(5, .int (nI (5 * (t + 1)))), (0, .ref b), (1, .ref dk), (2, .ref mo), (3, .ref ou), (4, .ref od)]) hx hb dL_law_1070 hl (k := 5) rfl (nI_add (5 * t) 5) (by decide) rfl (fun ls hl => ?_)
  refine lv_goto (tgt := 28) hx hb dL_law_1073 (by decide) ?_
  exact h _ _ _ _ _ _ _ _ hSt hP hD hS (lv_sub hl [1, 2, 3, 4, 5, 0] rfl)
theorem sub5 {L : Nat} (hL : L ≤ 2560) : (nI L - 5).toInt = (L : Int) - 5 := by
  rw [Int32.toInt_sub, nI_toInt (by omega)]
  have e : (5 : Int32).toInt = 5 := by decide
  rw [e]
  exact i32bm (by omega) (by omega)
set_option maxHeartbeats 4000000 in
set_option maxRecDepth 100000 in
theorem law_loop (l : Launch) (D : va_G) (cs : Nat → ClassId) (tt : Nat → Nat) (p : Program) (e : Env) (s : State) (m : MethodId) (below : List Frame) (meth : Method) (c : Code) (b L : Nat) (xs : Nat → Int32) (dk mo ou od : Nat) (hC : LC l D cs tt p s m meth c b L xs) : ∀ n t u : Nat, u ≤ t → L < n + 5 * t → 5 * t ≤ 2560 → LW l D cs p e s m below meth c b dk mo ou od t u 28 (lw_Z below #[Value.ref b] s) := by
  intro n
  induction n with
  | zero =>
    intro t u hu hn ht0 H locs ls th O Od w1 w2 hSt hP hD hS hl
    obtain ⟨hF, ⟨hr, hlk⟩, ⟨hXs, hbl, hL⟩, hX, hXC, hls⟩ := id hC
    have hx := hF.1
    have hb := hF.2.1
    have hbA : ¬ (fun q : Nat => s.heap.size ≤ q) b := Nat.not_le.mpr hbl
    refine lv_iload hx hb dL_law_28 (lv_at hl 5 rfl) ?_
    refine lv_aload_n hx hb dL_law_30 rfl (lv_at hl 0 rfl) ?_
    refine va_slen hx hb hXs hbl hbA hS dL_law_31 ?_
    refine lv_iconst (v := 5) hx hb dL_law_32 (by decide) ?_
    refine lv_isub hx hb dL_law_33 ?_
    refine lv_icmp_gt (tgt := 1076) hx hb dL_law_34 (by decide) (fun _ => ?_) (fun q => absurd (show nI L - 5 < nI (5 * t) by rw [Int32.lt_iff_toInt_lt, sub5 hL, nI_toInt (by omega)]; omega) q)
    refine lv_iconst (v := 1) hx hb dL_law_1076 (by decide) ?_
    refine va_forget (fun q hq => hS.2.2 q hq) ?_
    refine W.widen (k := 601024) (n := 7293033) (by show 70 + u ≤ _; omega) (by show 60000 + 6 * u ≤ _; omega) ?_
    exact lw_ret hx hb hr hlk dL_law_1077
  | succ n ih =>
    intro t u hu hn ht0 H locs ls th O Od w1 w2 hSt hP hD hS hl
    obtain ⟨hF, ⟨hr, hlk⟩, ⟨hXs, hbl, hL⟩, hX, hXC, hls⟩ := id hC
    have hx := hF.1
    have hb := hF.2.1
    have hbA : ¬ (fun q : Nat => s.heap.size ≤ q) b := Nat.not_le.mpr hbl
    refine lv_iload hx hb dL_law_28 (lv_at hl 5 rfl) ?_
    refine lv_aload_n hx hb dL_law_30 rfl (lv_at hl 0 rfl) ?_
    refine va_slen hx hb hXs hbl hbA hS dL_law_31 ?_
    refine lv_iconst (v := 5) hx hb dL_law_32 (by decide) ?_
    refine lv_isub hx hb dL_law_33 ?_
    refine lv_icmp_gt (tgt := 1076) hx hb dL_law_34 (by decide) (fun _ => ?_) (fun q => ?_)
    · refine lv_iconst (v := 1) hx hb dL_law_1076 (by decide) ?_
      refine va_forget (fun q hq => hS.2.2 q hq) ?_
      refine W.widen (k := 601024) (n := 7293033) (by show 70 + u ≤ _; omega) (by show 60000 + 6 * u ≤ _; omega) ?_
      exact lw_ret hx hb hr hlk dL_law_1077
    · have ht5 : 5 * t + 5 ≤ L := by
        have q2 : ¬ nI L - 5 < nI (5 * t) := q
        rw [Int32.lt_iff_toInt_lt, sub5 hL, nI_toInt (by omega)] at q2
        omega
      have hnx : ∀ v, v ≤ t + 1 → LW l D cs p e s m below meth c b dk mo ou od t v 1070 (lw_Z below #[Value.ref b] s) := fun v hv => law_next l D cs tt p e s m below meth c b L xs dk mo ou od _ hC (ih (t + 1) v hv (by omega) (by omega))
      refine lv_aload_n hx hb dL_law_37 rfl (lv_at hl 0 rfl) ?_
      refine lv_iload hx hb dL_law_38 (lv_at hl 5 rfl) ?_
      refine zsc (j := 5 * t) hF hXs hbl hbA hS rfl (by omega) hL dL_law_40 ?_
      refine lv_bipush (v := 31) hx hb dL_law_41 (by decide) ?_
      refine lv_iand hx hb dL_law_43 ?_
      obtain ⟨j, hj, ej⟩ := pk_andE (xs (5 * t)) (m := 31) 5 (by decide)
      refine xrwi (z := nI j) ej ?_
      by_cases h17 : j < 17
      · have hall : j = 0 ∨ j = 1 ∨ j = 2 ∨ j = 3 ∨ j = 4 ∨ j = 5 ∨ j = 6 ∨ j = 7 ∨ j = 8 ∨ j = 9 ∨ j = 10 ∨ j = 11 ∨ j = 12 ∨ j = 13 ∨ j = 14 ∨ j = 15 ∨ j = 16 := by omega
        rcases hall with rfl | rfl | rfl | rfl | rfl | rfl | rfl | rfl | rfl | rfl | rfl | rfl | rfl | rfl | rfl | rfl | rfl
        · refine lv_tableIn (off := 84) (tgt := 128) hx hb dL_law_44 (by decide) (by decide) (by decide +kernel) (by decide) ?_
          exact case_size l D cs tt p e s m below meth c b L xs dk mo ou od t u _ hC ht5 hu (hnx (u + 1) (by omega)) H locs ls th O Od w1 w2 hSt hP hD hS hl
        · refine lv_tableIn (off := 132) (tgt := 176) hx hb dL_law_44 (by decide) (by decide) (by decide +kernel) (by decide) ?_
          exact case_matrix l D cs tt p e s m below meth c b L xs dk mo ou od t u _ hC ht5 hu (hnx (u + 1) (by omega)) H locs ls th O Od w1 w2 hSt hP hD hS hl
        · refine lv_tableIn (off := 212) (tgt := 256) hx hb dL_law_44 (by decide) (by decide) (by decide +kernel) (by decide) ?_
          exact case_begin l D cs tt p e s m below meth c b L xs dk mo ou od t u _ hC ht5 hu (hnx (u + 1) (by omega)) H locs ls th O Od w1 w2 hSt hP hD hS hl
        · refine lv_tableIn (off := 300) (tgt := 344) hx hb dL_law_44 (by decide) (by decide) (by decide +kernel) (by decide) ?_
          exact case_scale l D cs tt p e s m below meth c b L xs dk mo ou od t u _ hC ht5 hu (hnx (u + 1) (by omega)) H locs ls th O Od w1 w2 hSt hP hD hS hl
        · refine lv_tableIn (off := 336) (tgt := 380) hx hb dL_law_44 (by decide) (by decide) (by decide +kernel) (by decide) ?_
          exact case_itself l D cs tt p e s m below meth c b L xs dk mo ou od t u _ hC ht5 hu (hnx (u + 1) (by omega)) H locs ls th O Od w1 w2 hSt hP hD hS hl
        · refine lv_tableIn (off := 360) (tgt := 404) hx hb dL_law_44 (by decide) (by decide) (by decide +kernel) (by decide) ?_
          exact case_vector l D cs tt p e s m below meth c b L xs dk mo ou od t u _ hC ht5 hu (hnx (u + 1) (by omega)) H locs ls th O Od w1 w2 hSt hP hD hS hl
        · refine lv_tableIn (off := 420) (tgt := 464) hx hb dL_law_44 (by decide) (by decide) (by decide +kernel) (by decide) ?_
          exact case_level l D cs tt p e s m below meth c b L xs dk mo ou od t u _ hC ht5 hu (hnx (u + 1) (by omega)) H locs ls th O Od w1 w2 hSt hP hD hS hl
        · refine lv_tableIn (off := 480) (tgt := 524) hx hb dL_law_44 (by decide) (by decide) (by decide +kernel) (by decide) ?_
          exact case_square l D cs tt p e s m below meth c b L xs dk mo ou od t u _ hC ht5 hu (hnx (u + 1) (by omega)) H locs ls th O Od w1 w2 hSt hP hD hS hl
        · refine lv_tableIn (off := 524) (tgt := 568) hx hb dL_law_44 (by decide) (by decide) (by decide +kernel) (by decide) ?_
          exact case_leave l D cs tt p e s m below meth c b L xs dk mo ou od t u _ hC ht5 hu (hnx (u + 1) (by omega)) H locs ls th O Od w1 w2 hSt hP hD hS hl
        · refine lv_tableIn (off := 580) (tgt := 624) hx hb dL_law_44 (by decide) (by decide) (by decide +kernel) (by decide) ?_
          exact case_done l D cs tt p e s m below meth c b L xs dk mo ou od t u _ hC ht5 hu (hnx (u + 1) (by omega)) H locs ls th O Od w1 w2 hSt hP hD hS hl
        · refine lv_tableIn (off := 624) (tgt := 668) hx hb dL_law_44 (by decide) (by decide) (by decide +kernel) (by decide) ?_
          exact case_last l D cs tt p e s m below meth c b L xs dk mo ou od t u _ hC ht5 hu (hnx (u + 1) (by omega)) H locs ls th O Od w1 w2 hSt hP hD hS hl
        · refine lv_tableIn (off := 668) (tgt := 712) hx hb dL_law_44 (by decide) (by decide) (by decide +kernel) (by decide) ?_
          exact case_sample l D cs tt p e s m below meth c b L xs dk mo ou od t u _ hC ht5 hu (hnx (u + 1) (by omega)) H locs ls th O Od w1 w2 hSt hP hD hS hl
        · refine lv_tableIn (off := 748) (tgt := 792) hx hb dL_law_44 (by decide) (by decide) (by decide +kernel) (by decide) ?_
          exact case_colour l D cs tt p e s m below meth c b L xs dk mo ou od t u _ hC ht5 hu (hnx (u + 1) (by omega)) H locs ls th O Od w1 w2 hSt hP hD hS hl
        · refine lv_tableIn (off := 816) (tgt := 860) hx hb dL_law_44 (by decide) (by decide) (by decide +kernel) (by decide) ?_
          exact case_light l D cs tt p e s m below meth c b L xs dk mo ou od t u _ hC ht5 hu (hnx (u + 1) (by omega)) H locs ls th O Od w1 w2 hSt hP hD hS hl
        · refine lv_tableIn (off := 880) (tgt := 924) hx hb dL_law_44 (by decide) (by decide) (by decide +kernel) (by decide) ?_
          exact case_keep l D cs tt p e s m below meth c b L xs dk mo ou od t u _ hC ht5 hu (hnx (u + 1) (by omega)) H locs ls th O Od w1 w2 hSt hP hD hS hl
        · refine lv_tableIn (off := 904) (tgt := 948) hx hb dL_law_44 (by decide) (by decide) (by decide +kernel) (by decide) ?_
          exact case_error l D cs tt p e s m below meth c b L xs dk mo ou od t u _ hC ht5 hu (hnx (u + 1) (by omega)) H locs ls th O Od w1 w2 hSt hP hD hS hl
        · refine lv_tableIn (off := 970) (tgt := 1014) hx hb dL_law_44 (by decide) (by decide) (by decide +kernel) (by decide) ?_
          exact case_told l D cs tt p e s m below meth c b L xs dk mo ou od t u _ hC ht5 hu (hnx (u + 1) (by omega)) H locs ls th O Od w1 w2 hSt hP hD hS hl
      · refine lv_tableOut (tgt := 1070) hx hb dL_law_44 (Or.inr (by rw [nI_toInt (by omega)]; omega)) (by decide) ?_
        exact hnx u (by omega) H locs ls th O Od w1 w2 hSt hP hD hS hl
