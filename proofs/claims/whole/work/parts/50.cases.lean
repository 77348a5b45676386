
/-! ===== the law: its seventeen calls ===== -/
theorem rc_cells : room_1.cells = 601024 := rfl
theorem rc_slots : room_1.slots = 7293033 := rfl
theorem f0125 : FP.Core.val32 1040187392 = .fin false 8388608 (-26) := by decide +kernel
theorem mul0125 (x : Int32) : vf_n32 (FP.fmul (FP.i2f x) 1040187392) := nn32 (mul_nn2 (i2f_nn x) f0125 (by decide))

set_option maxHeartbeats 4000000 in
set_option maxRecDepth 100000 in
theorem case_size (l : Launch) (D : va_G) (cs : Nat → ClassId) (tt : Nat → Nat) (p : Program) (e : Env) (s : State) (m : MethodId) (below : List Frame) (meth : Method) (c : Code) (b L : Nat) (xs : Nat → Int32) (dk mo ou od t u : Nat) (Q : State → Prop) (hC : LC l D cs tt p s m meth c b L xs) (ht : 5 * t + 5 ≤ L) (hu : u ≤ t) (hk : LW l D cs p e s m below meth c b dk mo ou od t (u + 1) 1070 Q) : LW l D cs p e s m below meth c b dk mo ou od t u 128 Q := by
  intro H locs ls th O Od w1 w2 hSt hP hD hS hl
  obtain ⟨hF, ⟨hr, hlk⟩, ⟨hXs, hbl, hL⟩, hX, hXC, hls⟩ := hC
  have hx := hF.1
  have hb := hF.2.1
  have hbA : ¬ (fun q : Nat => s.heap.size ≤ q) b := Nat.not_le.mpr hbl
  have hc1 : lC0 + u + 1 ≤ room_1.cells := by rw [rc_cells]; show 70 + u + 1 ≤ _; omega
  have hs1 : lS0 + 6 * u + 6 ≤ room_1.slots := by rw [rc_slots]; show 60000 + 6 * u + 6 ≤ _; omega
  refine lv_aload_n hx hb dL_law_128 rfl (lv_at hl 1 rfl) ?_
  refine lv_aload_n hx hb dL_law_129 rfl (lv_at hl 0 rfl) ?_
  refine lv_iload hx hb dL_law_130 (lv_at hl 5 rfl) ?_
  refine lv_iconst (v := 1) hx hb dL_law_132 (by decide) ?_
  refine lv_iadd hx hb dL_law_133 ?_
  refine zsc (j := 5 * t + 1) hF hXs hbl hbA hS (nI_add (5 * t) 1) (by omega) hL dL_law_134 ?_
  refine lv_aload_n hx hb dL_law_135 rfl (lv_at hl 0 rfl) ?_
  refine lv_iload hx hb dL_law_136 (lv_at hl 5 rfl) ?_
  refine lv_iconst (v := 2) hx hb dL_law_138 (by decide) ?_
  refine lv_iadd hx hb dL_law_139 ?_
  refine zsc (j := 5 * t + 2) hF hXs hbl hbA hS (nI_add (5 * t) 2) (by omega) hL dL_law_140 ?_
  obtain ⟨k9, r9, O9, Od9, w19, w29, hML, hMR, hSt9, hG9⟩ := pkS_size l D cs tt hls (by omega) hSt (xs (5 * t + 1)) (xs (5 * t + 2))
  have hG9 : r9 = none := hG9
  subst hG9
  refine zS (rest := []) (As := [.ref dk, .int (xs (5 * t + 1)), .int (xs (5 * t + 2))]) hF hML gL_law_L_size rfl (n := 3) (by decide +kernel) rfl ⟨⟨rfl, rfl⟩, Nat.le_of_ble_eq_true rfl, Nat.le_of_ble_eq_true rfl⟩ ⟨hc1, hs1⟩ hX hXC hP hD hS hl.1 rfl (Nat.le_of_ble_eq_true rfl) dL_law_141 (fun H locs hP hD hS => ?_)
  refine lv_istore (lv' := [(6, .int k9), (0, .ref b), (1, .ref dk), (2, .ref mo), (3, .ref ou), (4, .ref od), (5, .int (nI (5 * t)))]) hx hb dL_law_144 hl (by decide) rfl (fun ls hl => ?_)
  refine lv_aload_n hx hb dL_law_146 rfl (lv_at hl 3 rfl) ?_
  refine lv_aload_n hx hb dL_law_147 rfl (lv_at hl 1 rfl) ?_
  refine lv_iload hx hb dL_law_148 (lv_at hl 6 rfl) ?_
  refine lv_iconst (v := 1) hx hb dL_law_150 (by decide) ?_
  refine lv_iadd hx hb dL_law_151 ?_
  refine zsc (j := 5 * t + 1) hF hXs hbl hbA hS (nI_add (5 * t) 1) (by omega) hL dL_law_152 ?_
  refine lv_aload_n hx hb dL_law_153 rfl (lv_at hl 1 rfl) ?_
  refine lv_iload hx hb dL_law_154 (lv_at hl 6 rfl) ?_
  refine lv_iconst (v := 2) hx hb dL_law_156 (by decide) ?_
  refine lv_iadd hx hb dL_law_157 ?_
  refine zsc (j := 5 * t + 2) hF hXs hbl hbA hS (nI_add (5 * t) 2) (by omega) hL dL_law_158 ?_
  refine zV (rest := []) (As := [.int (xs (5 * t + 1)), .int (xs (5 * t + 2))]) (st1 := []) hF hMR gL_law_X7_size rfl (n := 2) (by decide +kernel) rfl ⟨⟨rfl, rfl⟩, Nat.le_of_ble_eq_true rfl, Nat.le_of_ble_eq_true rfl⟩ ⟨hc1, hs1⟩ hX hP hD hS hSt.ref rfl rfl hl.1 rfl (Nat.le_of_ble_eq_true rfl) dL_law_159 rfl (fun H locs hP hD hS => ?_)
  refine lv_aload_n hx hb dL_law_162 rfl (lv_at hl 3 rfl) ?_
  refine zV (rest := []) (As := []) (st1 := [.int k9]) hF (hSt9.thr l D tt) gL_law_X7_thrown rfl (n := 0) (by decide +kernel) rfl ⟨⟨rfl, rfl⟩, Nat.le_of_ble_eq_true rfl, Nat.le_of_ble_eq_true rfl⟩ ⟨hc1, hs1⟩ hX hP hD hS hSt9.ref rfl rfl hl.1 rfl (Nat.le_of_ble_eq_true rfl) dL_law_163 rfl (fun H locs hP hD hS => ?_)
  refine lv_iload hx hb dL_law_166 (lv_at hl 0 rfl) ?_
  refine lv_icmp_eq (tgt := 173) hx hb dL_law_168 (by decide) (fun _ => ?_) (fun q9 => absurd rfl q9)
  refine lv_goto (tgt := 1070) hx hb dL_law_173 (by decide) ?_
  refine W.widen (k := lC0 + (u + 1)) (n := lS0 + 6 * (u + 1)) (by omega) (by omega) ?_
  exact hk _ _ _ _ _ _ _ _ hSt9 hP hD hS (lv_sub hl [1, 2, 3, 4, 5, 6] rfl)

set_option maxHeartbeats 4000000 in
set_option maxRecDepth 100000 in
theorem case_matrix (l : Launch) (D : va_G) (cs : Nat → ClassId) (tt : Nat → Nat) (p : Program) (e : Env) (s : State) (m : MethodId) (below : List Frame) (meth : Method) (c : Code) (b L : Nat) (xs : Nat → Int32) (dk mo ou od t u : Nat) (Q : State → Prop) (hC : LC l D cs tt p s m meth c b L xs) (ht : 5 * t + 5 ≤ L) (hu : u ≤ t) (hk : LW l D cs p e s m below meth c b dk mo ou od t (u + 1) 1070 Q) : LW l D cs p e s m below meth c b dk mo ou od t u 176 Q := by
  intro H locs ls th O Od w1 w2 hSt hP hD hS hl
  obtain ⟨hF, ⟨hr, hlk⟩, ⟨hXs, hbl, hL⟩, hX, hXC, hls⟩ := hC
  have hx := hF.1
  have hb := hF.2.1
  have hbA : ¬ (fun q : Nat => s.heap.size ≤ q) b := Nat.not_le.mpr hbl
  have hc1 : lC0 + u + 1 ≤ room_1.cells := by rw [rc_cells]; show 70 + u + 1 ≤ _; omega
  have hs1 : lS0 + 6 * u + 6 ≤ room_1.slots := by rw [rc_slots]; show 60000 + 6 * u + 6 ≤ _; omega
  refine lv_aload_n hx hb dL_law_176 rfl (lv_at hl 1 rfl) ?_
  refine lv_aload_n hx hb dL_law_177 rfl (lv_at hl 0 rfl) ?_
  refine lv_iload hx hb dL_law_178 (lv_at hl 5 rfl) ?_
  refine lv_iconst (v := 1) hx hb dL_law_180 (by decide) ?_
  refine lv_iadd hx hb dL_law_181 ?_
  refine zsc (j := 5 * t + 1) hF hXs hbl hbA hS (nI_add (5 * t) 1) (by omega) hL dL_law_182 ?_
  refine lv_aload_n hx hb dL_law_183 rfl (lv_at hl 0 rfl) ?_
  refine lv_iload hx hb dL_law_184 (lv_at hl 5 rfl) ?_
  refine lv_iconst (v := 2) hx hb dL_law_186 (by decide) ?_
  refine lv_iadd hx hb dL_law_187 ?_
  refine zsc (j := 5 * t + 2) hF hXs hbl hbA hS (nI_add (5 * t) 2) (by omega) hL dL_law_188 ?_
  refine lv_aload_n hx hb dL_law_189 rfl (lv_at hl 0 rfl) ?_
  refine lv_iload hx hb dL_law_190 (lv_at hl 5 rfl) ?_
  refine lv_iconst (v := 3) hx hb dL_law_192 (by decide) ?_
  refine lv_iadd hx hb dL_law_193 ?_
  refine zsc (j := 5 * t + 3) hF hXs hbl hbA hS (nI_add (5 * t) 3) (by omega) hL dL_law_194 ?_
  refine lv_aload_n hx hb dL_law_195 rfl (lv_at hl 3 rfl) ?_
  obtain ⟨k9, r9, O9, Od9, w19, w29, hML, hMR, hSt9, hG9⟩ := pkS_matrix l D cs tt hls (by omega) hSt (xs (5 * t + 1)) (xs (5 * t + 2)) (xs (5 * t + 3))
  obtain ⟨b9, hr9, hb9⟩ := hG9
  subst hr9
  refine zS (rest := []) (As := [.ref dk, .int (xs (5 * t + 1)), .int (xs (5 * t + 2)), .int (xs (5 * t + 3)), .ref ou]) hF hML gL_law_L_matrix rfl (n := 5) (by decide +kernel) rfl ⟨⟨rfl, rfl⟩, Nat.le_of_ble_eq_true rfl, Nat.le_of_ble_eq_true rfl⟩ ⟨hc1, hs1⟩ hX hXC hP hD hS hl.1 rfl (Nat.le_of_ble_eq_true rfl) dL_law_196 (fun H locs hP hD hS => ?_)
  refine lv_istore (lv' := [(6, .int k9), (0, .ref b), (1, .ref dk), (2, .ref mo), (3, .ref ou), (4, .ref od), (5, .int (nI (5 * t)))]) hx hb dL_law_199 hl (by decide) rfl (fun ls hl => ?_)
  refine lv_aload_n hx hb dL_law_201 rfl (lv_at hl 3 rfl) ?_
  refine lv_aload_n hx hb dL_law_202 rfl (lv_at hl 1 rfl) ?_
  refine lv_iload hx hb dL_law_203 (lv_at hl 6 rfl) ?_
  refine lv_iconst (v := 1) hx hb dL_law_205 (by decide) ?_
  refine lv_iadd hx hb dL_law_206 ?_
  refine zsc (j := 5 * t + 1) hF hXs hbl hbA hS (nI_add (5 * t) 1) (by omega) hL dL_law_207 ?_
  refine lv_aload_n hx hb dL_law_208 rfl (lv_at hl 1 rfl) ?_
  refine lv_iload hx hb dL_law_209 (lv_at hl 6 rfl) ?_
  refine lv_iconst (v := 2) hx hb dL_law_211 (by decide) ?_
  refine lv_iadd hx hb dL_law_212 ?_
  refine zsc (j := 5 * t + 2) hF hXs hbl hbA hS (nI_add (5 * t) 2) (by omega) hL dL_law_213 ?_
  refine lv_aload_n hx hb dL_law_214 rfl (lv_at hl 1 rfl) ?_
  refine lv_iload hx hb dL_law_215 (lv_at hl 6 rfl) ?_
  refine lv_iconst (v := 3) hx hb dL_law_217 (by decide) ?_
  refine lv_iadd hx hb dL_law_218 ?_
  refine zsc (j := 5 * t + 3) hF hXs hbl hbA hS (nI_add (5 * t) 3) (by omega) hL dL_law_219 ?_
  refine zV (rest := []) (As := [.int (xs (5 * t + 1)), .int (xs (5 * t + 2)), .int (xs (5 * t + 3))]) (st1 := [.int b9]) hF hMR gL_law_X7_matrix rfl (n := 3) (by decide +kernel) rfl ⟨⟨rfl, rfl⟩, Nat.le_of_ble_eq_true rfl, Nat.le_of_ble_eq_true rfl⟩ ⟨hc1, hs1⟩ hX hP hD hS hSt.ref rfl rfl hl.1 rfl (Nat.le_of_ble_eq_true rfl) dL_law_220 rfl (fun H locs hP hD hS => ?_)
  refine lv_istore (lv' := [(7, .int b9), (6, .int k9), (0, .ref b), (1, .ref dk), (2, .ref mo), (3, .ref ou), (4, .ref od), (5, .int (nI (5 * t)))]) hx hb dL_law_223 hl (by decide) rfl (fun ls hl => ?_)
  refine lv_aload_n hx hb dL_law_225 rfl (lv_at hl 4 rfl) ?_
  refine zV (rest := []) (As := []) (st1 := [.int k9]) hF (hSt9.thr l D tt) gL_law_X7_thrown rfl (n := 0) (by decide +kernel) rfl ⟨⟨rfl, rfl⟩, Nat.le_of_ble_eq_true rfl, Nat.le_of_ble_eq_true rfl⟩ ⟨hc1, hs1⟩ hX hP hD hS hSt9.ref rfl rfl hl.1 rfl (Nat.le_of_ble_eq_true rfl) dL_law_226 rfl (fun H locs hP hD hS => ?_)
  refine lv_iload hx hb dL_law_229 (lv_at hl 1 rfl) ?_
  refine lv_icmp_eq (tgt := 236) hx hb dL_law_231 (by decide) (fun _ => ?_) (fun q9 => absurd rfl q9)
  refine lv_iload hx hb dL_law_236 (lv_at hl 1 rfl) ?_
  refine lv_if_ne (tgt := 253) hx hb dL_law_238 (by decide) (fun _ => ?_) (fun hk0 => ?_)
  · refine lv_goto (tgt := 1070) hx hb dL_law_253 (by decide) ?_
    refine W.widen (k := lC0 + (u + 1)) (n := lS0 + 6 * (u + 1)) (by omega) (by omega) ?_
    exact hk _ _ _ _ _ _ _ _ hSt9 hP hD hS (lv_sub hl [2, 3, 4, 5, 6, 7] rfl)
  · refine lv_aload_n hx hb dL_law_241 rfl (lv_at hl 5 rfl) ?_
    refine lv_iconst (v := 0) hx hb dL_law_242 (by decide) ?_
    refine zlo hF hX hP hSt9.out.1 dL_law_243 ?_
    refine lv_iload hx hb dL_law_244 (lv_at hl 0 rfl) ?_
    refine lv_i2l (v := Int32.toInt64 b9) hx hb dL_law_246 rfl ?_
    refine W.lcmp hx hb dL_law_247 ?_
    rw [hb9 hk0, lcmp_self]
    refine lv_if_eq (tgt := 253) hx hb dL_law_248 (by decide) (fun _ => ?_) (fun q9 => absurd rfl q9)
    refine lv_goto (tgt := 1070) hx hb dL_law_253 (by decide) ?_
    refine W.widen (k := lC0 + (u + 1)) (n := lS0 + 6 * (u + 1)) (by omega) (by omega) ?_
    exact hk _ _ _ _ _ _ _ _ hSt9 hP hD hS (lv_sub hl [2, 3, 4, 5, 6, 7] rfl)

set_option maxHeartbeats 4000000 in
set_option maxRecDepth 100000 in
theorem case_begin (l : Launch) (D : va_G) (cs : Nat → ClassId) (tt : Nat → Nat) (p : Program) (e : Env) (s : State) (m : MethodId) (below : List Frame) (meth : Method) (c : Code) (b L : Nat) (xs : Nat → Int32) (dk mo ou od t u : Nat) (Q : State → Prop) (hC : LC l D cs tt p s m meth c b L xs) (ht : 5 * t + 5 ≤ L) (hu : u ≤ t) (hk : LW l D cs p e s m below meth c b dk mo ou od t (u + 1) 1070 Q) : LW l D cs p e s m below meth c b dk mo ou od t u 256 Q := by
  intro H locs ls th O Od w1 w2 hSt hP hD hS hl
  obtain ⟨hF, ⟨hr, hlk⟩, ⟨hXs, hbl, hL⟩, hX, hXC, hls⟩ := hC
  have hx := hF.1
  have hb := hF.2.1
  have hbA : ¬ (fun q : Nat => s.heap.size ≤ q) b := Nat.not_le.mpr hbl
  have hc1 : lC0 + u + 1 ≤ room_1.cells := by rw [rc_cells]; show 70 + u + 1 ≤ _; omega
  have hs1 : lS0 + 6 * u + 6 ≤ room_1.slots := by rw [rc_slots]; show 60000 + 6 * u + 6 ≤ _; omega
  refine lv_aload_n hx hb dL_law_256 rfl (lv_at hl 1 rfl) ?_
  refine lv_aload_n hx hb dL_law_257 rfl (lv_at hl 0 rfl) ?_
  refine lv_iload hx hb dL_law_258 (lv_at hl 5 rfl) ?_
  refine lv_iconst (v := 1) hx hb dL_law_260 (by decide) ?_
  refine lv_iadd hx hb dL_law_261 ?_
  refine zsc (j := 5 * t + 1) hF hXs hbl hbA hS (nI_add (5 * t) 1) (by omega) hL dL_law_262 ?_
  refine lv_aload_n hx hb dL_law_263 rfl (lv_at hl 0 rfl) ?_
  refine lv_iload hx hb dL_law_264 (lv_at hl 5 rfl) ?_
  refine lv_iconst (v := 2) hx hb dL_law_266 (by decide) ?_
  refine lv_iadd hx hb dL_law_267 ?_
  refine zsc (j := 5 * t + 2) hF hXs hbl hbA hS (nI_add (5 * t) 2) (by omega) hL dL_law_268 ?_
  refine lv_aload_n hx hb dL_law_269 rfl (lv_at hl 0 rfl) ?_
  refine lv_iload hx hb dL_law_270 (lv_at hl 5 rfl) ?_
  refine lv_iconst (v := 3) hx hb dL_law_272 (by decide) ?_
  refine lv_iadd hx hb dL_law_273 ?_
  refine zsc (j := 5 * t + 3) hF hXs hbl hbA hS (nI_add (5 * t) 3) (by omega) hL dL_law_274 ?_
  refine lv_aload_n hx hb dL_law_275 rfl (lv_at hl 0 rfl) ?_
  refine lv_iload hx hb dL_law_276 (lv_at hl 5 rfl) ?_
  refine lv_iconst (v := 4) hx hb dL_law_278 (by decide) ?_
  refine lv_iadd hx hb dL_law_279 ?_
  refine zsc (j := 5 * t + 4) hF hXs hbl hbA hS (nI_add (5 * t) 4) (by omega) hL dL_law_280 ?_
  refine lv_if_eq (tgt := 288) hx hb dL_law_281 (by decide) (fun c281 => ?_) (fun c281 => ?_)
  · refine lv_iconst (v := 0) hx hb dL_law_288 (by decide) ?_
    obtain ⟨k9, r9, O9, Od9, w19, w29, hML, hMR, hSt9, hG9⟩ := pkS_begin l D cs tt hls (by omega) hSt (xs (5 * t + 1)) (xs (5 * t + 2)) (xs (5 * t + 3)) 0 (Or.inl rfl)
    have hG9 : r9 = none := hG9
    subst hG9
    refine zS (rest := []) (As := [.ref dk, .int (xs (5 * t + 1)), .int (xs (5 * t + 2)), .int (xs (5 * t + 3)), .int 0]) hF hML gL_law_L_begin rfl (n := 5) (by decide +kernel) rfl ⟨⟨rfl, rfl⟩, Nat.le_of_ble_eq_true rfl, Nat.le_of_ble_eq_true rfl⟩ ⟨hc1, hs1⟩ hX hXC hP hD hS hl.1 rfl (Nat.le_of_ble_eq_true rfl) dL_law_289 (fun H locs hP hD hS => ?_)
    refine lv_istore (lv' := [(6, .int k9), (0, .ref b), (1, .ref dk), (2, .ref mo), (3, .ref ou), (4, .ref od), (5, .int (nI (5 * t)))]) hx hb dL_law_292 hl (by decide) rfl (fun ls hl => ?_)
    refine lv_aload_n hx hb dL_law_294 rfl (lv_at hl 3 rfl) ?_
    refine lv_aload_n hx hb dL_law_295 rfl (lv_at hl 1 rfl) ?_
    refine lv_iload hx hb dL_law_296 (lv_at hl 6 rfl) ?_
    refine lv_iconst (v := 1) hx hb dL_law_298 (by decide) ?_
    refine lv_iadd hx hb dL_law_299 ?_
    refine zsc (j := 5 * t + 1) hF hXs hbl hbA hS (nI_add (5 * t) 1) (by omega) hL dL_law_300 ?_
    refine lv_aload_n hx hb dL_law_301 rfl (lv_at hl 1 rfl) ?_
    refine lv_iload hx hb dL_law_302 (lv_at hl 6 rfl) ?_
    refine lv_iconst (v := 2) hx hb dL_law_304 (by decide) ?_
    refine lv_iadd hx hb dL_law_305 ?_
    refine zsc (j := 5 * t + 2) hF hXs hbl hbA hS (nI_add (5 * t) 2) (by omega) hL dL_law_306 ?_
    refine lv_aload_n hx hb dL_law_307 rfl (lv_at hl 1 rfl) ?_
    refine lv_iload hx hb dL_law_308 (lv_at hl 6 rfl) ?_
    refine lv_iconst (v := 3) hx hb dL_law_310 (by decide) ?_
    refine lv_iadd hx hb dL_law_311 ?_
    refine zsc (j := 5 * t + 3) hF hXs hbl hbA hS (nI_add (5 * t) 3) (by omega) hL dL_law_312 ?_
    refine lv_aload_n hx hb dL_law_313 rfl (lv_at hl 1 rfl) ?_
    refine lv_iload hx hb dL_law_314 (lv_at hl 6 rfl) ?_
    refine lv_iconst (v := 4) hx hb dL_law_316 (by decide) ?_
    refine lv_iadd hx hb dL_law_317 ?_
    refine zsc (j := 5 * t + 4) hF hXs hbl hbA hS (nI_add (5 * t) 4) (by omega) hL dL_law_318 ?_
    refine lv_if_eq (tgt := 326) hx hb dL_law_319 (by decide) (fun _ => ?_) (fun q9 => absurd c281 q9)
    refine lv_iconst (v := 0) hx hb dL_law_326 (by decide) ?_
    refine zV (rest := []) (As := [.int (xs (5 * t + 1)), .int (xs (5 * t + 2)), .int (xs (5 * t + 3)), .int 0]) (st1 := []) hF hMR gL_law_X7_begin rfl (n := 4) (by decide +kernel) rfl ⟨⟨rfl, rfl⟩, Nat.le_of_ble_eq_true rfl, Nat.le_of_ble_eq_true rfl⟩ ⟨hc1, hs1⟩ hX hP hD hS hSt.ref rfl rfl hl.1 rfl (Nat.le_of_ble_eq_true rfl) dL_law_327 rfl (fun H locs hP hD hS => ?_)
    refine lv_aload_n hx hb dL_law_330 rfl (lv_at hl 3 rfl) ?_
    refine zV (rest := []) (As := []) (st1 := [.int k9]) hF (hSt9.thr l D tt) gL_law_X7_thrown rfl (n := 0) (by decide +kernel) rfl ⟨⟨rfl, rfl⟩, Nat.le_of_ble_eq_true rfl, Nat.le_of_ble_eq_true rfl⟩ ⟨hc1, hs1⟩ hX hP hD hS hSt9.ref rfl rfl hl.1 rfl (Nat.le_of_ble_eq_true rfl) dL_law_331 rfl (fun H locs hP hD hS => ?_)
    refine lv_iload hx hb dL_law_334 (lv_at hl 0 rfl) ?_
    refine lv_icmp_eq (tgt := 341) hx hb dL_law_336 (by decide) (fun _ => ?_) (fun q9 => absurd rfl q9)
    refine lv_goto (tgt := 1070) hx hb dL_law_341 (by decide) ?_
    refine W.widen (k := lC0 + (u + 1)) (n := lS0 + 6 * (u + 1)) (by omega) (by omega) ?_
    exact hk _ _ _ _ _ _ _ _ hSt9 hP hD hS (lv_sub hl [1, 2, 3, 4, 5, 6] rfl)
  · refine lv_iconst (v := 1) hx hb dL_law_284 (by decide) ?_
    refine lv_goto (tgt := 289) hx hb dL_law_285 (by decide) ?_
    obtain ⟨k9, r9, O9, Od9, w19, w29, hML, hMR, hSt9, hG9⟩ := pkS_begin l D cs tt hls (by omega) hSt (xs (5 * t + 1)) (xs (5 * t + 2)) (xs (5 * t + 3)) 1 (Or.inr rfl)
    have hG9 : r9 = none := hG9
    subst hG9
    refine zS (rest := []) (As := [.ref dk, .int (xs (5 * t + 1)), .int (xs (5 * t + 2)), .int (xs (5 * t + 3)), .int 1]) hF hML gL_law_L_begin rfl (n := 5) (by decide +kernel) rfl ⟨⟨rfl, rfl⟩, Nat.le_of_ble_eq_true rfl, Nat.le_of_ble_eq_true rfl⟩ ⟨hc1, hs1⟩ hX hXC hP hD hS hl.1 rfl (Nat.le_of_ble_eq_true rfl) dL_law_289 (fun H locs hP hD hS => ?_)
    refine lv_istore (lv' := [(6, .int k9), (0, .ref b), (1, .ref dk), (2, .ref mo), (3, .ref ou), (4, .ref od), (5, .int (nI (5 * t)))]) hx hb dL_law_292 hl (by decide) rfl (fun ls hl => ?_)
    refine lv_aload_n hx hb dL_law_294 rfl (lv_at hl 3 rfl) ?_
    refine lv_aload_n hx hb dL_law_295 rfl (lv_at hl 1 rfl) ?_
    refine lv_iload hx hb dL_law_296 (lv_at hl 6 rfl) ?_
    refine lv_iconst (v := 1) hx hb dL_law_298 (by decide) ?_
    refine lv_iadd hx hb dL_law_299 ?_
    refine zsc (j := 5 * t + 1) hF hXs hbl hbA hS (nI_add (5 * t) 1) (by omega) hL dL_law_300 ?_
    refine lv_aload_n hx hb dL_law_301 rfl (lv_at hl 1 rfl) ?_
    refine lv_iload hx hb dL_law_302 (lv_at hl 6 rfl) ?_
    refine lv_iconst (v := 2) hx hb dL_law_304 (by decide) ?_
    refine lv_iadd hx hb dL_law_305 ?_
    refine zsc (j := 5 * t + 2) hF hXs hbl hbA hS (nI_add (5 * t) 2) (by omega) hL dL_law_306 ?_
    refine lv_aload_n hx hb dL_law_307 rfl (lv_at hl 1 rfl) ?_
    refine lv_iload hx hb dL_law_308 (lv_at hl 6 rfl) ?_
    refine lv_iconst (v := 3) hx hb dL_law_310 (by decide) ?_
    refine lv_iadd hx hb dL_law_311 ?_
    refine zsc (j := 5 * t + 3) hF hXs hbl hbA hS (nI_add (5 * t) 3) (by omega) hL dL_law_312 ?_
    refine lv_aload_n hx hb dL_law_313 rfl (lv_at hl 1 rfl) ?_
    refine lv_iload hx hb dL_law_314 (lv_at hl 6 rfl) ?_
    refine lv_iconst (v := 4) hx hb dL_law_316 (by decide) ?_
    refine lv_iadd hx hb dL_law_317 ?_
    refine zsc (j := 5 * t + 4) hF hXs hbl hbA hS (nI_add (5 * t) 4) (by omega) hL dL_law_318 ?_
    refine lv_if_eq (tgt := 326) hx hb dL_law_319 (by decide) (fun q9 => absurd q9 c281) (fun _ => ?_)
    refine lv_iconst (v := 1) hx hb dL_law_322 (by decide) ?_
    refine lv_goto (tgt := 327) hx hb dL_law_323 (by decide) ?_
    refine zV (rest := []) (As := [.int (xs (5 * t + 1)), .int (xs (5 * t + 2)), .int (xs (5 * t + 3)), .int 1]) (st1 := []) hF hMR gL_law_X7_begin rfl (n := 4) (by decide +kernel) rfl ⟨⟨rfl, rfl⟩, Nat.le_of_ble_eq_true rfl, Nat.le_of_ble_eq_true rfl⟩ ⟨hc1, hs1⟩ hX hP hD hS hSt.ref rfl rfl hl.1 rfl (Nat.le_of_ble_eq_true rfl) dL_law_327 rfl (fun H locs hP hD hS => ?_)
    refine lv_aload_n hx hb dL_law_330 rfl (lv_at hl 3 rfl) ?_
    refine zV (rest := []) (As := []) (st1 := [.int k9]) hF (hSt9.thr l D tt) gL_law_X7_thrown rfl (n := 0) (by decide +kernel) rfl ⟨⟨rfl, rfl⟩, Nat.le_of_ble_eq_true rfl, Nat.le_of_ble_eq_true rfl⟩ ⟨hc1, hs1⟩ hX hP hD hS hSt9.ref rfl rfl hl.1 rfl (Nat.le_of_ble_eq_true rfl) dL_law_331 rfl (fun H locs hP hD hS => ?_)
    refine lv_iload hx hb dL_law_334 (lv_at hl 0 rfl) ?_
    refine lv_icmp_eq (tgt := 341) hx hb dL_law_336 (by decide) (fun _ => ?_) (fun q9 => absurd rfl q9)
    refine lv_goto (tgt := 1070) hx hb dL_law_341 (by decide) ?_
    refine W.widen (k := lC0 + (u + 1)) (n := lS0 + 6 * (u + 1)) (by omega) (by omega) ?_
    exact hk _ _ _ _ _ _ _ _ hSt9 hP hD hS (lv_sub hl [1, 2, 3, 4, 5, 6] rfl)

set_option maxHeartbeats 4000000 in
set_option maxRecDepth 100000 in
theorem case_scale (l : Launch) (D : va_G) (cs : Nat → ClassId) (tt : Nat → Nat) (p : Program) (e : Env) (s : State) (m : MethodId) (below : List Frame) (meth : Method) (c : Code) (b L : Nat) (xs : Nat → Int32) (dk mo ou od t u : Nat) (Q : State → Prop) (hC : LC l D cs tt p s m meth c b L xs) (ht : 5 * t + 5 ≤ L) (hu : u ≤ t) (hk : LW l D cs p e s m below meth c b dk mo ou od t (u + 1) 1070 Q) : LW l D cs p e s m below meth c b dk mo ou od t u 344 Q := by
  intro H locs ls th O Od w1 w2 hSt hP hD hS hl
  obtain ⟨hF, ⟨hr, hlk⟩, ⟨hXs, hbl, hL⟩, hX, hXC, hls⟩ := hC
  have hx := hF.1
  have hb := hF.2.1
  have hbA : ¬ (fun q : Nat => s.heap.size ≤ q) b := Nat.not_le.mpr hbl
  have hc1 : lC0 + u + 1 ≤ room_1.cells := by rw [rc_cells]; show 70 + u + 1 ≤ _; omega
  have hs1 : lS0 + 6 * u + 6 ≤ room_1.slots := by rw [rc_slots]; show 60000 + 6 * u + 6 ≤ _; omega
  refine lv_aload_n hx hb dL_law_344 rfl (lv_at hl 1 rfl) ?_
  refine lv_aload_n hx hb dL_law_345 rfl (lv_at hl 0 rfl) ?_
  refine lv_iload hx hb dL_law_346 (lv_at hl 5 rfl) ?_
  refine lv_iconst (v := 1) hx hb dL_law_348 (by decide) ?_
  refine lv_iadd hx hb dL_law_349 ?_
  refine zsc (j := 5 * t + 1) hF hXs hbl hbA hS (nI_add (5 * t) 1) (by omega) hL dL_law_350 ?_
  obtain ⟨k9, r9, O9, Od9, w19, w29, hML, hMR, hSt9, hG9⟩ := pkS_scale l D cs tt hls (by omega) hSt (xs (5 * t + 1))
  have hG9 : r9 = none := hG9
  subst hG9
  refine zS (rest := []) (As := [.ref dk, .int (xs (5 * t + 1))]) hF hML gL_law_L_scale rfl (n := 2) (by decide +kernel) rfl ⟨⟨rfl, rfl⟩, Nat.le_of_ble_eq_true rfl, Nat.le_of_ble_eq_true rfl⟩ ⟨hc1, hs1⟩ hX hXC hP hD hS hl.1 rfl (Nat.le_of_ble_eq_true rfl) dL_law_351 (fun H locs hP hD hS => ?_)
  refine lv_istore (lv' := [(6, .int k9), (0, .ref b), (1, .ref dk), (2, .ref mo), (3, .ref ou), (4, .ref od), (5, .int (nI (5 * t)))]) hx hb dL_law_354 hl (by decide) rfl (fun ls hl => ?_)
  refine lv_aload_n hx hb dL_law_356 rfl (lv_at hl 3 rfl) ?_
  refine lv_aload_n hx hb dL_law_357 rfl (lv_at hl 1 rfl) ?_
  refine lv_iload hx hb dL_law_358 (lv_at hl 6 rfl) ?_
  refine lv_iconst (v := 1) hx hb dL_law_360 (by decide) ?_
  refine lv_iadd hx hb dL_law_361 ?_
  refine zsc (j := 5 * t + 1) hF hXs hbl hbA hS (nI_add (5 * t) 1) (by omega) hL dL_law_362 ?_
  refine zV (rest := []) (As := [.int (xs (5 * t + 1))]) (st1 := []) hF hMR gL_law_X7_scale rfl (n := 1) (by decide +kernel) rfl ⟨⟨rfl, rfl⟩, Nat.le_of_ble_eq_true rfl, Nat.le_of_ble_eq_true rfl⟩ ⟨hc1, hs1⟩ hX hP hD hS hSt.ref rfl rfl hl.1 rfl (Nat.le_of_ble_eq_true rfl) dL_law_363 rfl (fun H locs hP hD hS => ?_)
  refine lv_aload_n hx hb dL_law_366 rfl (lv_at hl 3 rfl) ?_
  refine zV (rest := []) (As := []) (st1 := [.int k9]) hF (hSt9.thr l D tt) gL_law_X7_thrown rfl (n := 0) (by decide +kernel) rfl ⟨⟨rfl, rfl⟩, Nat.le_of_ble_eq_true rfl, Nat.le_of_ble_eq_true rfl⟩ ⟨hc1, hs1⟩ hX hP hD hS hSt9.ref rfl rfl hl.1 rfl (Nat.le_of_ble_eq_true rfl) dL_law_367 rfl (fun H locs hP hD hS => ?_)
  refine lv_iload hx hb dL_law_370 (lv_at hl 0 rfl) ?_
  refine lv_icmp_eq (tgt := 377) hx hb dL_law_372 (by decide) (fun _ => ?_) (fun q9 => absurd rfl q9)
  refine lv_goto (tgt := 1070) hx hb dL_law_377 (by decide) ?_
  refine W.widen (k := lC0 + (u + 1)) (n := lS0 + 6 * (u + 1)) (by omega) (by omega) ?_
  exact hk _ _ _ _ _ _ _ _ hSt9 hP hD hS (lv_sub hl [1, 2, 3, 4, 5, 6] rfl)

set_option maxHeartbeats 4000000 in
set_option maxRecDepth 100000 in
theorem case_itself (l : Launch) (D : va_G) (cs : Nat → ClassId) (tt : Nat → Nat) (p : Program) (e : Env) (s : State) (m : MethodId) (below : List Frame) (meth : Method) (c : Code) (b L : Nat) (xs : Nat → Int32) (dk mo ou od t u : Nat) (Q : State → Prop) (hC : LC l D cs tt p s m meth c b L xs) (ht : 5 * t + 5 ≤ L) (hu : u ≤ t) (hk : LW l D cs p e s m below meth c b dk mo ou od t (u + 1) 1070 Q) : LW l D cs p e s m below meth c b dk mo ou od t u 380 Q := by
  intro H locs ls th O Od w1 w2 hSt hP hD hS hl
  obtain ⟨hF, ⟨hr, hlk⟩, ⟨hXs, hbl, hL⟩, hX, hXC, hls⟩ := hC
  have hx := hF.1
  have hb := hF.2.1
  have hbA : ¬ (fun q : Nat => s.heap.size ≤ q) b := Nat.not_le.mpr hbl
  have hc1 : lC0 + u + 1 ≤ room_1.cells := by rw [rc_cells]; show 70 + u + 1 ≤ _; omega
  have hs1 : lS0 + 6 * u + 6 ≤ room_1.slots := by rw [rc_slots]; show 60000 + 6 * u + 6 ≤ _; omega
  refine lv_aload_n hx hb dL_law_380 rfl (lv_at hl 1 rfl) ?_
  obtain ⟨k9, r9, O9, Od9, w19, w29, hML, hMR, hSt9, hG9⟩ := pkS_itself l D cs tt hls (by omega) hSt 
  have hG9 : r9 = none := hG9
  subst hG9
  refine zS (rest := []) (As := [.ref dk]) hF hML gL_law_L_itself rfl (n := 1) (by decide +kernel) rfl ⟨⟨rfl, rfl⟩, Nat.le_of_ble_eq_true rfl, Nat.le_of_ble_eq_true rfl⟩ ⟨hc1, hs1⟩ hX hXC hP hD hS hl.1 rfl (Nat.le_of_ble_eq_true rfl) dL_law_381 (fun H locs hP hD hS => ?_)
  refine lv_istore (lv' := [(6, .int k9), (0, .ref b), (1, .ref dk), (2, .ref mo), (3, .ref ou), (4, .ref od), (5, .int (nI (5 * t)))]) hx hb dL_law_384 hl (by decide) rfl (fun ls hl => ?_)
  refine lv_aload_n hx hb dL_law_386 rfl (lv_at hl 3 rfl) ?_
  refine zV (rest := []) (As := []) (st1 := []) hF hMR gL_law_X7_itself rfl (n := 0) (by decide +kernel) rfl ⟨⟨rfl, rfl⟩, Nat.le_of_ble_eq_true rfl, Nat.le_of_ble_eq_true rfl⟩ ⟨hc1, hs1⟩ hX hP hD hS hSt.ref rfl rfl hl.1 rfl (Nat.le_of_ble_eq_true rfl) dL_law_387 rfl (fun H locs hP hD hS => ?_)
  refine lv_aload_n hx hb dL_law_390 rfl (lv_at hl 3 rfl) ?_
  refine zV (rest := []) (As := []) (st1 := [.int k9]) hF (hSt9.thr l D tt) gL_law_X7_thrown rfl (n := 0) (by decide +kernel) rfl ⟨⟨rfl, rfl⟩, Nat.le_of_ble_eq_true rfl, Nat.le_of_ble_eq_true rfl⟩ ⟨hc1, hs1⟩ hX hP hD hS hSt9.ref rfl rfl hl.1 rfl (Nat.le_of_ble_eq_true rfl) dL_law_391 rfl (fun H locs hP hD hS => ?_)
  refine lv_iload hx hb dL_law_394 (lv_at hl 0 rfl) ?_
  refine lv_icmp_eq (tgt := 401) hx hb dL_law_396 (by decide) (fun _ => ?_) (fun q9 => absurd rfl q9)
  refine lv_goto (tgt := 1070) hx hb dL_law_401 (by decide) ?_
  refine W.widen (k := lC0 + (u + 1)) (n := lS0 + 6 * (u + 1)) (by omega) (by omega) ?_
  exact hk _ _ _ _ _ _ _ _ hSt9 hP hD hS (lv_sub hl [1, 2, 3, 4, 5, 6] rfl)

set_option maxHeartbeats 4000000 in
set_option maxRecDepth 100000 in
theorem case_vector (l : Launch) (D : va_G) (cs : Nat → ClassId) (tt : Nat → Nat) (p : Program) (e : Env) (s : State) (m : MethodId) (below : List Frame) (meth : Method) (c : Code) (b L : Nat) (xs : Nat → Int32) (dk mo ou od t u : Nat) (Q : State → Prop) (hC : LC l D cs tt p s m meth c b L xs) (ht : 5 * t + 5 ≤ L) (hu : u ≤ t) (hk : LW l D cs p e s m below meth c b dk mo ou od t (u + 1) 1070 Q) : LW l D cs p e s m below meth c b dk mo ou od t u 404 Q := by
  intro H locs ls th O Od w1 w2 hSt hP hD hS hl
  obtain ⟨hF, ⟨hr, hlk⟩, ⟨hXs, hbl, hL⟩, hX, hXC, hls⟩ := hC
  have hx := hF.1
  have hb := hF.2.1
  have hbA : ¬ (fun q : Nat => s.heap.size ≤ q) b := Nat.not_le.mpr hbl
  have hc1 : lC0 + u + 1 ≤ room_1.cells := by rw [rc_cells]; show 70 + u + 1 ≤ _; omega
  have hs1 : lS0 + 6 * u + 6 ≤ room_1.slots := by rw [rc_slots]; show 60000 + 6 * u + 6 ≤ _; omega
  refine lv_aload_n hx hb dL_law_404 rfl (lv_at hl 1 rfl) ?_
  refine lv_aload_n hx hb dL_law_405 rfl (lv_at hl 0 rfl) ?_
  refine lv_iload hx hb dL_law_406 (lv_at hl 5 rfl) ?_
  refine lv_iconst (v := 1) hx hb dL_law_408 (by decide) ?_
  refine lv_iadd hx hb dL_law_409 ?_
  refine zsc (j := 5 * t + 1) hF hXs hbl hbA hS (nI_add (5 * t) 1) (by omega) hL dL_law_410 ?_
  refine lv_aload_n hx hb dL_law_411 rfl (lv_at hl 0 rfl) ?_
  refine lv_iload hx hb dL_law_412 (lv_at hl 5 rfl) ?_
  refine lv_iconst (v := 2) hx hb dL_law_414 (by decide) ?_
  refine lv_iadd hx hb dL_law_415 ?_
  refine zsc (j := 5 * t + 2) hF hXs hbl hbA hS (nI_add (5 * t) 2) (by omega) hL dL_law_416 ?_
  refine lv_aload_n hx hb dL_law_417 rfl (lv_at hl 0 rfl) ?_
  refine lv_iload hx hb dL_law_418 (lv_at hl 5 rfl) ?_
  refine lv_iconst (v := 3) hx hb dL_law_420 (by decide) ?_
  refine lv_iadd hx hb dL_law_421 ?_
  refine zsc (j := 5 * t + 3) hF hXs hbl hbA hS (nI_add (5 * t) 3) (by omega) hL dL_law_422 ?_
  obtain ⟨k9, r9, O9, Od9, w19, w29, hML, hMR, hSt9, hG9⟩ := pkS_vector l D cs tt hls (by omega) hSt (xs (5 * t + 1)) (xs (5 * t + 2)) (xs (5 * t + 3))
  have hG9 : r9 = none := hG9
  subst hG9
  refine zS (rest := []) (As := [.ref dk, .int (xs (5 * t + 1)), .int (xs (5 * t + 2)), .int (xs (5 * t + 3))]) hF hML gL_law_L_vector rfl (n := 4) (by decide +kernel) rfl ⟨⟨rfl, rfl⟩, Nat.le_of_ble_eq_true rfl, Nat.le_of_ble_eq_true rfl⟩ ⟨hc1, hs1⟩ hX hXC hP hD hS hl.1 rfl (Nat.le_of_ble_eq_true rfl) dL_law_423 (fun H locs hP hD hS => ?_)
  refine lv_istore (lv' := [(6, .int k9), (0, .ref b), (1, .ref dk), (2, .ref mo), (3, .ref ou), (4, .ref od), (5, .int (nI (5 * t)))]) hx hb dL_law_426 hl (by decide) rfl (fun ls hl => ?_)
  refine lv_aload_n hx hb dL_law_428 rfl (lv_at hl 3 rfl) ?_
  refine lv_aload_n hx hb dL_law_429 rfl (lv_at hl 1 rfl) ?_
  refine lv_iload hx hb dL_law_430 (lv_at hl 6 rfl) ?_
  refine lv_iconst (v := 1) hx hb dL_law_432 (by decide) ?_
  refine lv_iadd hx hb dL_law_433 ?_
  refine zsc (j := 5 * t + 1) hF hXs hbl hbA hS (nI_add (5 * t) 1) (by omega) hL dL_law_434 ?_
  refine lv_aload_n hx hb dL_law_435 rfl (lv_at hl 1 rfl) ?_
  refine lv_iload hx hb dL_law_436 (lv_at hl 6 rfl) ?_
  refine lv_iconst (v := 2) hx hb dL_law_438 (by decide) ?_
  refine lv_iadd hx hb dL_law_439 ?_
  refine zsc (j := 5 * t + 2) hF hXs hbl hbA hS (nI_add (5 * t) 2) (by omega) hL dL_law_440 ?_
  refine lv_aload_n hx hb dL_law_441 rfl (lv_at hl 1 rfl) ?_
  refine lv_iload hx hb dL_law_442 (lv_at hl 6 rfl) ?_
  refine lv_iconst (v := 3) hx hb dL_law_444 (by decide) ?_
  refine lv_iadd hx hb dL_law_445 ?_
  refine zsc (j := 5 * t + 3) hF hXs hbl hbA hS (nI_add (5 * t) 3) (by omega) hL dL_law_446 ?_
  refine zV (rest := []) (As := [.int (xs (5 * t + 1)), .int (xs (5 * t + 2)), .int (xs (5 * t + 3))]) (st1 := []) hF hMR gL_law_X7_vector rfl (n := 3) (by decide +kernel) rfl ⟨⟨rfl, rfl⟩, Nat.le_of_ble_eq_true rfl, Nat.le_of_ble_eq_true rfl⟩ ⟨hc1, hs1⟩ hX hP hD hS hSt.ref rfl rfl hl.1 rfl (Nat.le_of_ble_eq_true rfl) dL_law_447 rfl (fun H locs hP hD hS => ?_)
  refine lv_aload_n hx hb dL_law_450 rfl (lv_at hl 3 rfl) ?_
  refine zV (rest := []) (As := []) (st1 := [.int k9]) hF (hSt9.thr l D tt) gL_law_X7_thrown rfl (n := 0) (by decide +kernel) rfl ⟨⟨rfl, rfl⟩, Nat.le_of_ble_eq_true rfl, Nat.le_of_ble_eq_true rfl⟩ ⟨hc1, hs1⟩ hX hP hD hS hSt9.ref rfl rfl hl.1 rfl (Nat.le_of_ble_eq_true rfl) dL_law_451 rfl (fun H locs hP hD hS => ?_)
  refine lv_iload hx hb dL_law_454 (lv_at hl 0 rfl) ?_
  refine lv_icmp_eq (tgt := 461) hx hb dL_law_456 (by decide) (fun _ => ?_) (fun q9 => absurd rfl q9)
  refine lv_goto (tgt := 1070) hx hb dL_law_461 (by decide) ?_
  refine W.widen (k := lC0 + (u + 1)) (n := lS0 + 6 * (u + 1)) (by omega) (by omega) ?_
  exact hk _ _ _ _ _ _ _ _ hSt9 hP hD hS (lv_sub hl [1, 2, 3, 4, 5, 6] rfl)

set_option maxHeartbeats 4000000 in
set_option maxRecDepth 100000 in
theorem case_level (l : Launch) (D : va_G) (cs : Nat → ClassId) (tt : Nat → Nat) (p : Program) (e : Env) (s : State) (m : MethodId) (below : List Frame) (meth : Method) (c : Code) (b L : Nat) (xs : Nat → Int32) (dk mo ou od t u : Nat) (Q : State → Prop) (hC : LC l D cs tt p s m meth c b L xs) (ht : 5 * t + 5 ≤ L) (hu : u ≤ t) (hk : LW l D cs p e s m below meth c b dk mo ou od t (u + 1) 1070 Q) : LW l D cs p e s m below meth c b dk mo ou od t u 464 Q := by
  intro H locs ls th O Od w1 w2 hSt hP hD hS hl
  obtain ⟨hF, ⟨hr, hlk⟩, ⟨hXs, hbl, hL⟩, hX, hXC, hls⟩ := hC
  have hx := hF.1
  have hb := hF.2.1
  have hbA : ¬ (fun q : Nat => s.heap.size ≤ q) b := Nat.not_le.mpr hbl
  have hc1 : lC0 + u + 1 ≤ room_1.cells := by rw [rc_cells]; show 70 + u + 1 ≤ _; omega
  have hs1 : lS0 + 6 * u + 6 ≤ room_1.slots := by rw [rc_slots]; show 60000 + 6 * u + 6 ≤ _; omega
  refine lv_aload_n hx hb dL_law_464 rfl (lv_at hl 1 rfl) ?_
  refine lv_aload_n hx hb dL_law_465 rfl (lv_at hl 0 rfl) ?_
  refine lv_iload hx hb dL_law_466 (lv_at hl 5 rfl) ?_
  refine lv_iconst (v := 1) hx hb dL_law_468 (by decide) ?_
  refine lv_iadd hx hb dL_law_469 ?_
  refine zsc (j := 5 * t + 1) hF hXs hbl hbA hS (nI_add (5 * t) 1) (by omega) hL dL_law_470 ?_
  refine lv_aload_n hx hb dL_law_471 rfl (lv_at hl 0 rfl) ?_
  refine lv_iload hx hb dL_law_472 (lv_at hl 5 rfl) ?_
  refine lv_iconst (v := 2) hx hb dL_law_474 (by decide) ?_
  refine lv_iadd hx hb dL_law_475 ?_
  refine zsc (j := 5 * t + 2) hF hXs hbl hbA hS (nI_add (5 * t) 2) (by omega) hL dL_law_476 ?_
  refine lv_aload_n hx hb dL_law_477 rfl (lv_at hl 0 rfl) ?_
  refine lv_iload hx hb dL_law_478 (lv_at hl 5 rfl) ?_
  refine lv_iconst (v := 3) hx hb dL_law_480 (by decide) ?_
  refine lv_iadd hx hb dL_law_481 ?_
  refine zsc (j := 5 * t + 3) hF hXs hbl hbA hS (nI_add (5 * t) 3) (by omega) hL dL_law_482 ?_
  obtain ⟨k9, r9, O9, Od9, w19, w29, hML, hMR, hSt9, hG9⟩ := pkS_level l D cs tt hls (by omega) hSt (xs (5 * t + 1)) (xs (5 * t + 2)) (xs (5 * t + 3))
  have hG9 : r9 = none := hG9
  subst hG9
  refine zS (rest := []) (As := [.ref dk, .int (xs (5 * t + 1)), .int (xs (5 * t + 2)), .int (xs (5 * t + 3))]) hF hML gL_law_L_level rfl (n := 4) (by decide +kernel) rfl ⟨⟨rfl, rfl⟩, Nat.le_of_ble_eq_true rfl, Nat.le_of_ble_eq_true rfl⟩ ⟨hc1, hs1⟩ hX hXC hP hD hS hl.1 rfl (Nat.le_of_ble_eq_true rfl) dL_law_483 (fun H locs hP hD hS => ?_)
  refine lv_istore (lv' := [(6, .int k9), (0, .ref b), (1, .ref dk), (2, .ref mo), (3, .ref ou), (4, .ref od), (5, .int (nI (5 * t)))]) hx hb dL_law_486 hl (by decide) rfl (fun ls hl => ?_)
  refine lv_aload_n hx hb dL_law_488 rfl (lv_at hl 3 rfl) ?_
  refine lv_aload_n hx hb dL_law_489 rfl (lv_at hl 1 rfl) ?_
  refine lv_iload hx hb dL_law_490 (lv_at hl 6 rfl) ?_
  refine lv_iconst (v := 1) hx hb dL_law_492 (by decide) ?_
  refine lv_iadd hx hb dL_law_493 ?_
  refine zsc (j := 5 * t + 1) hF hXs hbl hbA hS (nI_add (5 * t) 1) (by omega) hL dL_law_494 ?_
  refine lv_aload_n hx hb dL_law_495 rfl (lv_at hl 1 rfl) ?_
  refine lv_iload hx hb dL_law_496 (lv_at hl 6 rfl) ?_
  refine lv_iconst (v := 2) hx hb dL_law_498 (by decide) ?_
  refine lv_iadd hx hb dL_law_499 ?_
  refine zsc (j := 5 * t + 2) hF hXs hbl hbA hS (nI_add (5 * t) 2) (by omega) hL dL_law_500 ?_
  refine lv_aload_n hx hb dL_law_501 rfl (lv_at hl 1 rfl) ?_
  refine lv_iload hx hb dL_law_502 (lv_at hl 6 rfl) ?_
  refine lv_iconst (v := 3) hx hb dL_law_504 (by decide) ?_
  refine lv_iadd hx hb dL_law_505 ?_
  refine zsc (j := 5 * t + 3) hF hXs hbl hbA hS (nI_add (5 * t) 3) (by omega) hL dL_law_506 ?_
  refine zV (rest := []) (As := [.int (xs (5 * t + 1)), .int (xs (5 * t + 2)), .int (xs (5 * t + 3))]) (st1 := []) hF hMR gL_law_X7_level rfl (n := 3) (by decide +kernel) rfl ⟨⟨rfl, rfl⟩, Nat.le_of_ble_eq_true rfl, Nat.le_of_ble_eq_true rfl⟩ ⟨hc1, hs1⟩ hX hP hD hS hSt.ref rfl rfl hl.1 rfl (Nat.le_of_ble_eq_true rfl) dL_law_507 rfl (fun H locs hP hD hS => ?_)
  refine lv_aload_n hx hb dL_law_510 rfl (lv_at hl 3 rfl) ?_
  refine zV (rest := []) (As := []) (st1 := [.int k9]) hF (hSt9.thr l D tt) gL_law_X7_thrown rfl (n := 0) (by decide +kernel) rfl ⟨⟨rfl, rfl⟩, Nat.le_of_ble_eq_true rfl, Nat.le_of_ble_eq_true rfl⟩ ⟨hc1, hs1⟩ hX hP hD hS hSt9.ref rfl rfl hl.1 rfl (Nat.le_of_ble_eq_true rfl) dL_law_511 rfl (fun H locs hP hD hS => ?_)
  refine lv_iload hx hb dL_law_514 (lv_at hl 0 rfl) ?_
  refine lv_icmp_eq (tgt := 521) hx hb dL_law_516 (by decide) (fun _ => ?_) (fun q9 => absurd rfl q9)
  refine lv_goto (tgt := 1070) hx hb dL_law_521 (by decide) ?_
  refine W.widen (k := lC0 + (u + 1)) (n := lS0 + 6 * (u + 1)) (by omega) (by omega) ?_
  exact hk _ _ _ _ _ _ _ _ hSt9 hP hD hS (lv_sub hl [1, 2, 3, 4, 5, 6] rfl)

set_option maxHeartbeats 4000000 in
set_option maxRecDepth 100000 in
theorem case_square (l : Launch) (D : va_G) (cs : Nat → ClassId) (tt : Nat → Nat) (p : Program) (e : Env) (s : State) (m : MethodId) (below : List Frame) (meth : Method) (c : Code) (b L : Nat) (xs : Nat → Int32) (dk mo ou od t u : Nat) (Q : State → Prop) (hC : LC l D cs tt p s m meth c b L xs) (ht : 5 * t + 5 ≤ L) (hu : u ≤ t) (hk : LW l D cs p e s m below meth c b dk mo ou od t (u + 1) 1070 Q) : LW l D cs p e s m below meth c b dk mo ou od t u 524 Q := by
  intro H locs ls th O Od w1 w2 hSt hP hD hS hl
  obtain ⟨hF, ⟨hr, hlk⟩, ⟨hXs, hbl, hL⟩, hX, hXC, hls⟩ := hC
  have hx := hF.1
  have hb := hF.2.1
  have hbA : ¬ (fun q : Nat => s.heap.size ≤ q) b := Nat.not_le.mpr hbl
  have hc1 : lC0 + u + 1 ≤ room_1.cells := by rw [rc_cells]; show 70 + u + 1 ≤ _; omega
  have hs1 : lS0 + 6 * u + 6 ≤ room_1.slots := by rw [rc_slots]; show 60000 + 6 * u + 6 ≤ _; omega
  refine lv_aload_n hx hb dL_law_524 rfl (lv_at hl 1 rfl) ?_
  refine lv_aload_n hx hb dL_law_525 rfl (lv_at hl 3 rfl) ?_
  obtain ⟨k9, r9, O9, Od9, w19, w29, hML, hMR, hSt9, hG9⟩ := pkS_square l D cs tt hls (by omega) hSt 
  obtain ⟨b9, hr9, hb9⟩ := hG9
  subst hr9
  refine zS (rest := []) (As := [.ref dk, .ref ou]) hF hML gL_law_L_square rfl (n := 2) (by decide +kernel) rfl ⟨⟨rfl, rfl⟩, Nat.le_of_ble_eq_true rfl, Nat.le_of_ble_eq_true rfl⟩ ⟨hc1, hs1⟩ hX hXC hP hD hS hl.1 rfl (Nat.le_of_ble_eq_true rfl) dL_law_526 (fun H locs hP hD hS => ?_)
  refine lv_istore (lv' := [(6, .int k9), (0, .ref b), (1, .ref dk), (2, .ref mo), (3, .ref ou), (4, .ref od), (5, .int (nI (5 * t)))]) hx hb dL_law_529 hl (by decide) rfl (fun ls hl => ?_)
  refine lv_aload_n hx hb dL_law_531 rfl (lv_at hl 3 rfl) ?_
  refine zV (rest := []) (As := []) (st1 := [.int b9]) hF hMR gL_law_X7_square rfl (n := 0) (by decide +kernel) rfl ⟨⟨rfl, rfl⟩, Nat.le_of_ble_eq_true rfl, Nat.le_of_ble_eq_true rfl⟩ ⟨hc1, hs1⟩ hX hP hD hS hSt.ref rfl rfl hl.1 rfl (Nat.le_of_ble_eq_true rfl) dL_law_532 rfl (fun H locs hP hD hS => ?_)
  refine lv_istore (lv' := [(7, .int b9), (6, .int k9), (0, .ref b), (1, .ref dk), (2, .ref mo), (3, .ref ou), (4, .ref od), (5, .int (nI (5 * t)))]) hx hb dL_law_535 hl (by decide) rfl (fun ls hl => ?_)
  refine lv_aload_n hx hb dL_law_537 rfl (lv_at hl 4 rfl) ?_
  refine zV (rest := []) (As := []) (st1 := [.int k9]) hF (hSt9.thr l D tt) gL_law_X7_thrown rfl (n := 0) (by decide +kernel) rfl ⟨⟨rfl, rfl⟩, Nat.le_of_ble_eq_true rfl, Nat.le_of_ble_eq_true rfl⟩ ⟨hc1, hs1⟩ hX hP hD hS hSt9.ref rfl rfl hl.1 rfl (Nat.le_of_ble_eq_true rfl) dL_law_538 rfl (fun H locs hP hD hS => ?_)
  refine lv_iload hx hb dL_law_541 (lv_at hl 1 rfl) ?_
  refine lv_icmp_eq (tgt := 548) hx hb dL_law_543 (by decide) (fun _ => ?_) (fun q9 => absurd rfl q9)
  refine lv_iload hx hb dL_law_548 (lv_at hl 1 rfl) ?_
  refine lv_if_ne (tgt := 565) hx hb dL_law_550 (by decide) (fun _ => ?_) (fun hk0 => ?_)
  · refine lv_goto (tgt := 1070) hx hb dL_law_565 (by decide) ?_
    refine W.widen (k := lC0 + (u + 1)) (n := lS0 + 6 * (u + 1)) (by omega) (by omega) ?_
    exact hk _ _ _ _ _ _ _ _ hSt9 hP hD hS (lv_sub hl [2, 3, 4, 5, 6, 7] rfl)
  · refine lv_aload_n hx hb dL_law_553 rfl (lv_at hl 5 rfl) ?_
    refine lv_iconst (v := 0) hx hb dL_law_554 (by decide) ?_
    refine zlo hF hX hP hSt9.out.1 dL_law_555 ?_
    refine lv_iload hx hb dL_law_556 (lv_at hl 0 rfl) ?_
    refine lv_i2l (v := Int32.toInt64 b9) hx hb dL_law_558 rfl ?_
    refine W.lcmp hx hb dL_law_559 ?_
    rw [hb9 hk0, lcmp_self]
    refine lv_if_eq (tgt := 565) hx hb dL_law_560 (by decide) (fun _ => ?_) (fun q9 => absurd rfl q9)
    refine lv_goto (tgt := 1070) hx hb dL_law_565 (by decide) ?_
    refine W.widen (k := lC0 + (u + 1)) (n := lS0 + 6 * (u + 1)) (by omega) (by omega) ?_
    exact hk _ _ _ _ _ _ _ _ hSt9 hP hD hS (lv_sub hl [2, 3, 4, 5, 6, 7] rfl)

set_option maxHeartbeats 4000000 in
set_option maxRecDepth 100000 in
theorem case_leave (l : Launch) (D : va_G) (cs : Nat → ClassId) (tt : Nat → Nat) (p : Program) (e : Env) (s : State) (m : MethodId) (below : List Frame) (meth : Method) (c : Code) (b L : Nat) (xs : Nat → Int32) (dk mo ou od t u : Nat) (Q : State → Prop) (hC : LC l D cs tt p s m meth c b L xs) (ht : 5 * t + 5 ≤ L) (hu : u ≤ t) (hk : LW l D cs p e s m below meth c b dk mo ou od t (u + 1) 1070 Q) : LW l D cs p e s m below meth c b dk mo ou od t u 568 Q := by
  intro H locs ls th O Od w1 w2 hSt hP hD hS hl
  obtain ⟨hF, ⟨hr, hlk⟩, ⟨hXs, hbl, hL⟩, hX, hXC, hls⟩ := hC
  have hx := hF.1
  have hb := hF.2.1
  have hbA : ¬ (fun q : Nat => s.heap.size ≤ q) b := Nat.not_le.mpr hbl
  have hc1 : lC0 + u + 1 ≤ room_1.cells := by rw [rc_cells]; show 70 + u + 1 ≤ _; omega
  have hs1 : lS0 + 6 * u + 6 ≤ room_1.slots := by rw [rc_slots]; show 60000 + 6 * u + 6 ≤ _; omega
  refine lv_aload_n hx hb dL_law_568 rfl (lv_at hl 1 rfl) ?_
  refine lv_aload_n hx hb dL_law_569 rfl (lv_at hl 0 rfl) ?_
  refine lv_iload hx hb dL_law_570 (lv_at hl 5 rfl) ?_
  refine lv_iconst (v := 1) hx hb dL_law_572 (by decide) ?_
  refine lv_iadd hx hb dL_law_573 ?_
  refine zsc (j := 5 * t + 1) hF hXs hbl hbA hS (nI_add (5 * t) 1) (by omega) hL dL_law_574 ?_
  refine lv_aload_n hx hb dL_law_575 rfl (lv_at hl 3 rfl) ?_
  obtain ⟨k9, r9, O9, Od9, w19, w29, hML, hMR, hSt9, hG9⟩ := pkS_leave l D cs tt hls (by omega) hSt (xs (5 * t + 1))
  obtain ⟨b9, hr9, hb9⟩ := hG9
  subst hr9
  refine zS (rest := []) (As := [.ref dk, .int (xs (5 * t + 1)), .ref ou]) hF hML gL_law_L_leave rfl (n := 3) (by decide +kernel) rfl ⟨⟨rfl, rfl⟩, Nat.le_of_ble_eq_true rfl, Nat.le_of_ble_eq_true rfl⟩ ⟨hc1, hs1⟩ hX hXC hP hD hS hl.1 rfl (Nat.le_of_ble_eq_true rfl) dL_law_576 (fun H locs hP hD hS => ?_)
  refine lv_istore (lv' := [(6, .int k9), (0, .ref b), (1, .ref dk), (2, .ref mo), (3, .ref ou), (4, .ref od), (5, .int (nI (5 * t)))]) hx hb dL_law_579 hl (by decide) rfl (fun ls hl => ?_)
  refine lv_aload_n hx hb dL_law_581 rfl (lv_at hl 3 rfl) ?_
  refine lv_aload_n hx hb dL_law_582 rfl (lv_at hl 1 rfl) ?_
  refine lv_iload hx hb dL_law_583 (lv_at hl 6 rfl) ?_
  refine lv_iconst (v := 1) hx hb dL_law_585 (by decide) ?_
  refine lv_iadd hx hb dL_law_586 ?_
  refine zsc (j := 5 * t + 1) hF hXs hbl hbA hS (nI_add (5 * t) 1) (by omega) hL dL_law_587 ?_
  refine zV (rest := []) (As := [.int (xs (5 * t + 1))]) (st1 := [.int b9]) hF hMR gL_law_X7_leave rfl (n := 1) (by decide +kernel) rfl ⟨⟨rfl, rfl⟩, Nat.le_of_ble_eq_true rfl, Nat.le_of_ble_eq_true rfl⟩ ⟨hc1, hs1⟩ hX hP hD hS hSt.ref rfl rfl hl.1 rfl (Nat.le_of_ble_eq_true rfl) dL_law_588 rfl (fun H locs hP hD hS => ?_)
  refine lv_istore (lv' := [(7, .int b9), (6, .int k9), (0, .ref b), (1, .ref dk), (2, .ref mo), (3, .ref ou), (4, .ref od), (5, .int (nI (5 * t)))]) hx hb dL_law_591 hl (by decide) rfl (fun ls hl => ?_)
  refine lv_aload_n hx hb dL_law_593 rfl (lv_at hl 4 rfl) ?_
  refine zV (rest := []) (As := []) (st1 := [.int k9]) hF (hSt9.thr l D tt) gL_law_X7_thrown rfl (n := 0) (by decide +kernel) rfl ⟨⟨rfl, rfl⟩, Nat.le_of_ble_eq_true rfl, Nat.le_of_ble_eq_true rfl⟩ ⟨hc1, hs1⟩ hX hP hD hS hSt9.ref rfl rfl hl.1 rfl (Nat.le_of_ble_eq_true rfl) dL_law_594 rfl (fun H locs hP hD hS => ?_)
  refine lv_iload hx hb dL_law_597 (lv_at hl 1 rfl) ?_
  refine lv_icmp_eq (tgt := 604) hx hb dL_law_599 (by decide) (fun _ => ?_) (fun q9 => absurd rfl q9)
  refine lv_iload hx hb dL_law_604 (lv_at hl 1 rfl) ?_
  refine lv_if_ne (tgt := 621) hx hb dL_law_606 (by decide) (fun _ => ?_) (fun hk0 => ?_)
  · refine lv_goto (tgt := 1070) hx hb dL_law_621 (by decide) ?_
    refine W.widen (k := lC0 + (u + 1)) (n := lS0 + 6 * (u + 1)) (by omega) (by omega) ?_
    exact hk _ _ _ _ _ _ _ _ hSt9 hP hD hS (lv_sub hl [2, 3, 4, 5, 6, 7] rfl)
  · refine lv_aload_n hx hb dL_law_609 rfl (lv_at hl 5 rfl) ?_
    refine lv_iconst (v := 0) hx hb dL_law_610 (by decide) ?_
    refine zlo hF hX hP hSt9.out.1 dL_law_611 ?_
    refine lv_iload hx hb dL_law_612 (lv_at hl 0 rfl) ?_
    refine lv_i2l (v := Int32.toInt64 b9) hx hb dL_law_614 rfl ?_
    refine W.lcmp hx hb dL_law_615 ?_
    rw [hb9 hk0, lcmp_self]
    refine lv_if_eq (tgt := 621) hx hb dL_law_616 (by decide) (fun _ => ?_) (fun q9 => absurd rfl q9)
    refine lv_goto (tgt := 1070) hx hb dL_law_621 (by decide) ?_
    refine W.widen (k := lC0 + (u + 1)) (n := lS0 + 6 * (u + 1)) (by omega) (by omega) ?_
    exact hk _ _ _ _ _ _ _ _ hSt9 hP hD hS (lv_sub hl [2, 3, 4, 5, 6, 7] rfl)

set_option maxHeartbeats 4000000 in
set_option maxRecDepth 100000 in
theorem case_done (l : Launch) (D : va_G) (cs : Nat → ClassId) (tt : Nat → Nat) (p : Program) (e : Env) (s : State) (m : MethodId) (below : List Frame) (meth : Method) (c : Code) (b L : Nat) (xs : Nat → Int32) (dk mo ou od t u : Nat) (Q : State → Prop) (hC : LC l D cs tt p s m meth c b L xs) (ht : 5 * t + 5 ≤ L) (hu : u ≤ t) (hk : LW l D cs p e s m below meth c b dk mo ou od t (u + 1) 1070 Q) : LW l D cs p e s m below meth c b dk mo ou od t u 624 Q := by
  intro H locs ls th O Od w1 w2 hSt hP hD hS hl
  obtain ⟨hF, ⟨hr, hlk⟩, ⟨hXs, hbl, hL⟩, hX, hXC, hls⟩ := hC
  have hx := hF.1
  have hb := hF.2.1
  have hbA : ¬ (fun q : Nat => s.heap.size ≤ q) b := Nat.not_le.mpr hbl
  have hc1 : lC0 + u + 1 ≤ room_1.cells := by rw [rc_cells]; show 70 + u + 1 ≤ _; omega
  have hs1 : lS0 + 6 * u + 6 ≤ room_1.slots := by rw [rc_slots]; show 60000 + 6 * u + 6 ≤ _; omega
  refine lv_aload_n hx hb dL_law_624 rfl (lv_at hl 1 rfl) ?_
  refine lv_aload_n hx hb dL_law_625 rfl (lv_at hl 3 rfl) ?_
  obtain ⟨k9, r9, O9, Od9, w19, w29, hML, hMR, hSt9, hG9⟩ := pkS_done l D cs tt hls (by omega) hSt 
  obtain ⟨b9, hr9, hb9⟩ := hG9
  subst hr9
  refine zS (rest := []) (As := [.ref dk, .ref ou]) hF hML gL_law_L_done rfl (n := 2) (by decide +kernel) rfl ⟨⟨rfl, rfl⟩, Nat.le_of_ble_eq_true rfl, Nat.le_of_ble_eq_true rfl⟩ ⟨hc1, hs1⟩ hX hXC hP hD hS hl.1 rfl (Nat.le_of_ble_eq_true rfl) dL_law_626 (fun H locs hP hD hS => ?_)
  refine lv_istore (lv' := [(6, .int k9), (0, .ref b), (1, .ref dk), (2, .ref mo), (3, .ref ou), (4, .ref od), (5, .int (nI (5 * t)))]) hx hb dL_law_629 hl (by decide) rfl (fun ls hl => ?_)
  refine lv_aload_n hx hb dL_law_631 rfl (lv_at hl 3 rfl) ?_
  refine zV (rest := []) (As := []) (st1 := [.int b9]) hF hMR gL_law_X7_done rfl (n := 0) (by decide +kernel) rfl ⟨⟨rfl, rfl⟩, Nat.le_of_ble_eq_true rfl, Nat.le_of_ble_eq_true rfl⟩ ⟨hc1, hs1⟩ hX hP hD hS hSt.ref rfl rfl hl.1 rfl (Nat.le_of_ble_eq_true rfl) dL_law_632 rfl (fun H locs hP hD hS => ?_)
  refine lv_istore (lv' := [(7, .int b9), (6, .int k9), (0, .ref b), (1, .ref dk), (2, .ref mo), (3, .ref ou), (4, .ref od), (5, .int (nI (5 * t)))]) hx hb dL_law_635 hl (by decide) rfl (fun ls hl => ?_)
  refine lv_aload_n hx hb dL_law_637 rfl (lv_at hl 4 rfl) ?_
  refine zV (rest := []) (As := []) (st1 := [.int k9]) hF (hSt9.thr l D tt) gL_law_X7_thrown rfl (n := 0) (by decide +kernel) rfl ⟨⟨rfl, rfl⟩, Nat.le_of_ble_eq_true rfl, Nat.le_of_ble_eq_true rfl⟩ ⟨hc1, hs1⟩ hX hP hD hS hSt9.ref rfl rfl hl.1 rfl (Nat.le_of_ble_eq_true rfl) dL_law_638 rfl (fun H locs hP hD hS => ?_)
  refine lv_iload hx hb dL_law_641 (lv_at hl 1 rfl) ?_
  refine lv_icmp_eq (tgt := 648) hx hb dL_law_643 (by decide) (fun _ => ?_) (fun q9 => absurd rfl q9)
  refine lv_iload hx hb dL_law_648 (lv_at hl 1 rfl) ?_
  refine lv_if_ne (tgt := 665) hx hb dL_law_650 (by decide) (fun _ => ?_) (fun hk0 => ?_)
  · refine lv_goto (tgt := 1070) hx hb dL_law_665 (by decide) ?_
    refine W.widen (k := lC0 + (u + 1)) (n := lS0 + 6 * (u + 1)) (by omega) (by omega) ?_
    exact hk _ _ _ _ _ _ _ _ hSt9 hP hD hS (lv_sub hl [2, 3, 4, 5, 6, 7] rfl)
  · refine lv_aload_n hx hb dL_law_653 rfl (lv_at hl 5 rfl) ?_
    refine lv_iconst (v := 0) hx hb dL_law_654 (by decide) ?_
    refine zlo hF hX hP hSt9.out.1 dL_law_655 ?_
    refine lv_iload hx hb dL_law_656 (lv_at hl 0 rfl) ?_
    refine lv_i2l (v := Int32.toInt64 b9) hx hb dL_law_658 rfl ?_
    refine W.lcmp hx hb dL_law_659 ?_
    rw [hb9 hk0, lcmp_self]
    refine lv_if_eq (tgt := 665) hx hb dL_law_660 (by decide) (fun _ => ?_) (fun q9 => absurd rfl q9)
    refine lv_goto (tgt := 1070) hx hb dL_law_665 (by decide) ?_
    refine W.widen (k := lC0 + (u + 1)) (n := lS0 + 6 * (u + 1)) (by omega) (by omega) ?_
    exact hk _ _ _ _ _ _ _ _ hSt9 hP hD hS (lv_sub hl [2, 3, 4, 5, 6, 7] rfl)

set_option maxHeartbeats 4000000 in
set_option maxRecDepth 100000 in
theorem case_last (l : Launch) (D : va_G) (cs : Nat → ClassId) (tt : Nat → Nat) (p : Program) (e : Env) (s : State) (m : MethodId) (below : List Frame) (meth : Method) (c : Code) (b L : Nat) (xs : Nat → Int32) (dk mo ou od t u : Nat) (Q : State → Prop) (hC : LC l D cs tt p s m meth c b L xs) (ht : 5 * t + 5 ≤ L) (hu : u ≤ t) (hk : LW l D cs p e s m below meth c b dk mo ou od t (u + 1) 1070 Q) : LW l D cs p e s m below meth c b dk mo ou od t u 668 Q := by
  intro H locs ls th O Od w1 w2 hSt hP hD hS hl
  obtain ⟨hF, ⟨hr, hlk⟩, ⟨hXs, hbl, hL⟩, hX, hXC, hls⟩ := hC
  have hx := hF.1
  have hb := hF.2.1
  have hbA : ¬ (fun q : Nat => s.heap.size ≤ q) b := Nat.not_le.mpr hbl
  have hc1 : lC0 + u + 1 ≤ room_1.cells := by rw [rc_cells]; show 70 + u + 1 ≤ _; omega
  have hs1 : lS0 + 6 * u + 6 ≤ room_1.slots := by rw [rc_slots]; show 60000 + 6 * u + 6 ≤ _; omega
  refine lv_aload_n hx hb dL_law_668 rfl (lv_at hl 1 rfl) ?_
  refine lv_aload_n hx hb dL_law_669 rfl (lv_at hl 3 rfl) ?_
  obtain ⟨k9, r9, O9, Od9, w19, w29, hML, hMR, hSt9, hG9⟩ := pkS_last l D cs tt hls (by omega) hSt 
  obtain ⟨b9, hr9, hb9⟩ := hG9
  subst hr9
  refine zS (rest := []) (As := [.ref dk, .ref ou]) hF hML gL_law_L_last rfl (n := 2) (by decide +kernel) rfl ⟨⟨rfl, rfl⟩, Nat.le_of_ble_eq_true rfl, Nat.le_of_ble_eq_true rfl⟩ ⟨hc1, hs1⟩ hX hXC hP hD hS hl.1 rfl (Nat.le_of_ble_eq_true rfl) dL_law_670 (fun H locs hP hD hS => ?_)
  refine lv_istore (lv' := [(6, .int k9), (0, .ref b), (1, .ref dk), (2, .ref mo), (3, .ref ou), (4, .ref od), (5, .int (nI (5 * t)))]) hx hb dL_law_673 hl (by decide) rfl (fun ls hl => ?_)
  refine lv_aload_n hx hb dL_law_675 rfl (lv_at hl 3 rfl) ?_
  refine zV (rest := []) (As := []) (st1 := [.int b9]) hF hMR gL_law_X7_last rfl (n := 0) (by decide +kernel) rfl ⟨⟨rfl, rfl⟩, Nat.le_of_ble_eq_true rfl, Nat.le_of_ble_eq_true rfl⟩ ⟨hc1, hs1⟩ hX hP hD hS hSt.ref rfl rfl hl.1 rfl (Nat.le_of_ble_eq_true rfl) dL_law_676 rfl (fun H locs hP hD hS => ?_)
  refine lv_istore (lv' := [(7, .int b9), (6, .int k9), (0, .ref b), (1, .ref dk), (2, .ref mo), (3, .ref ou), (4, .ref od), (5, .int (nI (5 * t)))]) hx hb dL_law_679 hl (by decide) rfl (fun ls hl => ?_)
  refine lv_aload_n hx hb dL_law_681 rfl (lv_at hl 4 rfl) ?_
  refine zV (rest := []) (As := []) (st1 := [.int k9]) hF (hSt9.thr l D tt) gL_law_X7_thrown rfl (n := 0) (by decide +kernel) rfl ⟨⟨rfl, rfl⟩, Nat.le_of_ble_eq_true rfl, Nat.le_of_ble_eq_true rfl⟩ ⟨hc1, hs1⟩ hX hP hD hS hSt9.ref rfl rfl hl.1 rfl (Nat.le_of_ble_eq_true rfl) dL_law_682 rfl (fun H locs hP hD hS => ?_)
  refine lv_iload hx hb dL_law_685 (lv_at hl 1 rfl) ?_
  refine lv_icmp_eq (tgt := 692) hx hb dL_law_687 (by decide) (fun _ => ?_) (fun q9 => absurd rfl q9)
  refine lv_iload hx hb dL_law_692 (lv_at hl 1 rfl) ?_
  refine lv_if_ne (tgt := 709) hx hb dL_law_694 (by decide) (fun _ => ?_) (fun hk0 => ?_)
  · refine lv_goto (tgt := 1070) hx hb dL_law_709 (by decide) ?_
    refine W.widen (k := lC0 + (u + 1)) (n := lS0 + 6 * (u + 1)) (by omega) (by omega) ?_
    exact hk _ _ _ _ _ _ _ _ hSt9 hP hD hS (lv_sub hl [2, 3, 4, 5, 6, 7] rfl)
  · refine lv_aload_n hx hb dL_law_697 rfl (lv_at hl 5 rfl) ?_
    refine lv_iconst (v := 0) hx hb dL_law_698 (by decide) ?_
    refine zlo hF hX hP hSt9.out.1 dL_law_699 ?_
    refine lv_iload hx hb dL_law_700 (lv_at hl 0 rfl) ?_
    refine lv_i2l (v := Int32.toInt64 b9) hx hb dL_law_702 rfl ?_
    refine W.lcmp hx hb dL_law_703 ?_
    rw [hb9 hk0, lcmp_self]
    refine lv_if_eq (tgt := 709) hx hb dL_law_704 (by decide) (fun _ => ?_) (fun q9 => absurd rfl q9)
    refine lv_goto (tgt := 1070) hx hb dL_law_709 (by decide) ?_
    refine W.widen (k := lC0 + (u + 1)) (n := lS0 + 6 * (u + 1)) (by omega) (by omega) ?_
    exact hk _ _ _ _ _ _ _ _ hSt9 hP hD hS (lv_sub hl [2, 3, 4, 5, 6, 7] rfl)

set_option maxHeartbeats 4000000 in
set_option maxRecDepth 100000 in
theorem case_sample (l : Launch) (D : va_G) (cs : Nat → ClassId) (tt : Nat → Nat) (p : Program) (e : Env) (s : State) (m : MethodId) (below : List Frame) (meth : Method) (c : Code) (b L : Nat) (xs : Nat → Int32) (dk mo ou od t u : Nat) (Q : State → Prop) (hC : LC l D cs tt p s m meth c b L xs) (ht : 5 * t + 5 ≤ L) (hu : u ≤ t) (hk : LW l D cs p e s m below meth c b dk mo ou od t (u + 1) 1070 Q) : LW l D cs p e s m below meth c b dk mo ou od t u 712 Q := by
  intro H locs ls th O Od w1 w2 hSt hP hD hS hl
  obtain ⟨hF, ⟨hr, hlk⟩, ⟨hXs, hbl, hL⟩, hX, hXC, hls⟩ := hC
  have hx := hF.1
  have hb := hF.2.1
  have hbA : ¬ (fun q : Nat => s.heap.size ≤ q) b := Nat.not_le.mpr hbl
  have hc1 : lC0 + u + 1 ≤ room_1.cells := by rw [rc_cells]; show 70 + u + 1 ≤ _; omega
  have hs1 : lS0 + 6 * u + 6 ≤ room_1.slots := by rw [rc_slots]; show 60000 + 6 * u + 6 ≤ _; omega
  refine lv_aload_n hx hb dL_law_712 rfl (lv_at hl 1 rfl) ?_
  refine lv_aload_n hx hb dL_law_713 rfl (lv_at hl 0 rfl) ?_
  refine lv_iload hx hb dL_law_714 (lv_at hl 5 rfl) ?_
  refine lv_iconst (v := 1) hx hb dL_law_716 (by decide) ?_
  refine lv_iadd hx hb dL_law_717 ?_
  refine zsc (j := 5 * t + 1) hF hXs hbl hbA hS (nI_add (5 * t) 1) (by omega) hL dL_law_718 ?_
  refine lv_aload_n hx hb dL_law_719 rfl (lv_at hl 0 rfl) ?_
  refine lv_iload hx hb dL_law_720 (lv_at hl 5 rfl) ?_
  refine lv_iconst (v := 2) hx hb dL_law_722 (by decide) ?_
  refine lv_iadd hx hb dL_law_723 ?_
  refine zsc (j := 5 * t + 2) hF hXs hbl hbA hS (nI_add (5 * t) 2) (by omega) hL dL_law_724 ?_
  refine lv_aload_n hx hb dL_law_725 rfl (lv_at hl 0 rfl) ?_
  refine lv_iload hx hb dL_law_726 (lv_at hl 5 rfl) ?_
  refine lv_iconst (v := 3) hx hb dL_law_728 (by decide) ?_
  refine lv_iadd hx hb dL_law_729 ?_
  refine zsc (j := 5 * t + 3) hF hXs hbl hbA hS (nI_add (5 * t) 3) (by omega) hL dL_law_730 ?_
  refine lv_aload_n hx hb dL_law_731 rfl (lv_at hl 3 rfl) ?_
  obtain ⟨k9, r9, O9, Od9, w19, w29, hML, hMR, hSt9, hG9⟩ := pkS_sample l D cs tt hls (by omega) hSt (xs (5 * t + 1)) (xs (5 * t + 2)) (xs (5 * t + 3))
  obtain ⟨b9, hr9, hb9⟩ := hG9
  subst hr9
  refine zS (rest := []) (As := [.ref dk, .int (xs (5 * t + 1)), .int (xs (5 * t + 2)), .int (xs (5 * t + 3)), .ref ou]) hF hML gL_law_L_sample rfl (n := 5) (by decide +kernel) rfl ⟨⟨rfl, rfl⟩, Nat.le_of_ble_eq_true rfl, Nat.le_of_ble_eq_true rfl⟩ ⟨hc1, hs1⟩ hX hXC hP hD hS hl.1 rfl (Nat.le_of_ble_eq_true rfl) dL_law_732 (fun H locs hP hD hS => ?_)
  refine lv_istore (lv' := [(6, .int k9), (0, .ref b), (1, .ref dk), (2, .ref mo), (3, .ref ou), (4, .ref od), (5, .int (nI (5 * t)))]) hx hb dL_law_735 hl (by decide) rfl (fun ls hl => ?_)
  refine lv_aload_n hx hb dL_law_737 rfl (lv_at hl 3 rfl) ?_
  refine lv_aload_n hx hb dL_law_738 rfl (lv_at hl 1 rfl) ?_
  refine lv_iload hx hb dL_law_739 (lv_at hl 6 rfl) ?_
  refine lv_iconst (v := 1) hx hb dL_law_741 (by decide) ?_
  refine lv_iadd hx hb dL_law_742 ?_
  refine zsc (j := 5 * t + 1) hF hXs hbl hbA hS (nI_add (5 * t) 1) (by omega) hL dL_law_743 ?_
  refine lv_aload_n hx hb dL_law_744 rfl (lv_at hl 1 rfl) ?_
  refine lv_iload hx hb dL_law_745 (lv_at hl 6 rfl) ?_
  refine lv_iconst (v := 2) hx hb dL_law_747 (by decide) ?_
  refine lv_iadd hx hb dL_law_748 ?_
  refine zsc (j := 5 * t + 2) hF hXs hbl hbA hS (nI_add (5 * t) 2) (by omega) hL dL_law_749 ?_
  refine lv_aload_n hx hb dL_law_750 rfl (lv_at hl 1 rfl) ?_
  refine lv_iload hx hb dL_law_751 (lv_at hl 6 rfl) ?_
  refine lv_iconst (v := 3) hx hb dL_law_753 (by decide) ?_
  refine lv_iadd hx hb dL_law_754 ?_
  refine zsc (j := 5 * t + 3) hF hXs hbl hbA hS (nI_add (5 * t) 3) (by omega) hL dL_law_755 ?_
  refine zV (rest := []) (As := [.int (xs (5 * t + 1)), .int (xs (5 * t + 2)), .int (xs (5 * t + 3))]) (st1 := [.int b9]) hF hMR gL_law_X7_sample rfl (n := 3) (by decide +kernel) rfl ⟨⟨rfl, rfl⟩, Nat.le_of_ble_eq_true rfl, Nat.le_of_ble_eq_true rfl⟩ ⟨hc1, hs1⟩ hX hP hD hS hSt.ref rfl rfl hl.1 rfl (Nat.le_of_ble_eq_true rfl) dL_law_756 rfl (fun H locs hP hD hS => ?_)
  refine lv_istore (lv' := [(7, .int b9), (6, .int k9), (0, .ref b), (1, .ref dk), (2, .ref mo), (3, .ref ou), (4, .ref od), (5, .int (nI (5 * t)))]) hx hb dL_law_759 hl (by decide) rfl (fun ls hl => ?_)
  refine lv_aload_n hx hb dL_law_761 rfl (lv_at hl 4 rfl) ?_
  refine zV (rest := []) (As := []) (st1 := [.int k9]) hF (hSt9.thr l D tt) gL_law_X7_thrown rfl (n := 0) (by decide +kernel) rfl ⟨⟨rfl, rfl⟩, Nat.le_of_ble_eq_true rfl, Nat.le_of_ble_eq_true rfl⟩ ⟨hc1, hs1⟩ hX hP hD hS hSt9.ref rfl rfl hl.1 rfl (Nat.le_of_ble_eq_true rfl) dL_law_762 rfl (fun H locs hP hD hS => ?_)
  refine lv_iload hx hb dL_law_765 (lv_at hl 1 rfl) ?_
  refine lv_icmp_eq (tgt := 772) hx hb dL_law_767 (by decide) (fun _ => ?_) (fun q9 => absurd rfl q9)
  refine lv_iload hx hb dL_law_772 (lv_at hl 1 rfl) ?_
  refine lv_if_ne (tgt := 789) hx hb dL_law_774 (by decide) (fun _ => ?_) (fun hk0 => ?_)
  · refine lv_goto (tgt := 1070) hx hb dL_law_789 (by decide) ?_
    refine W.widen (k := lC0 + (u + 1)) (n := lS0 + 6 * (u + 1)) (by omega) (by omega) ?_
    exact hk _ _ _ _ _ _ _ _ hSt9 hP hD hS (lv_sub hl [2, 3, 4, 5, 6, 7] rfl)
  · refine lv_aload_n hx hb dL_law_777 rfl (lv_at hl 5 rfl) ?_
    refine lv_iconst (v := 0) hx hb dL_law_778 (by decide) ?_
    refine zlo hF hX hP hSt9.out.1 dL_law_779 ?_
    refine lv_iload hx hb dL_law_780 (lv_at hl 0 rfl) ?_
    refine lv_i2l (v := Int32.toInt64 b9) hx hb dL_law_782 rfl ?_
    refine W.lcmp hx hb dL_law_783 ?_
    rw [hb9 hk0, lcmp_self]
    refine lv_if_eq (tgt := 789) hx hb dL_law_784 (by decide) (fun _ => ?_) (fun q9 => absurd rfl q9)
    refine lv_goto (tgt := 1070) hx hb dL_law_789 (by decide) ?_
    refine W.widen (k := lC0 + (u + 1)) (n := lS0 + 6 * (u + 1)) (by omega) (by omega) ?_
    exact hk _ _ _ _ _ _ _ _ hSt9 hP hD hS (lv_sub hl [2, 3, 4, 5, 6, 7] rfl)

set_option maxHeartbeats 4000000 in
set_option maxRecDepth 100000 in
theorem case_colour (l : Launch) (D : va_G) (cs : Nat → ClassId) (tt : Nat → Nat) (p : Program) (e : Env) (s : State) (m : MethodId) (below : List Frame) (meth : Method) (c : Code) (b L : Nat) (xs : Nat → Int32) (dk mo ou od t u : Nat) (Q : State → Prop) (hC : LC l D cs tt p s m meth c b L xs) (ht : 5 * t + 5 ≤ L) (hu : u ≤ t) (hk : LW l D cs p e s m below meth c b dk mo ou od t (u + 1) 1070 Q) : LW l D cs p e s m below meth c b dk mo ou od t u 792 Q := by
  intro H locs ls th O Od w1 w2 hSt hP hD hS hl
  obtain ⟨hF, ⟨hr, hlk⟩, ⟨hXs, hbl, hL⟩, hX, hXC, hls⟩ := hC
  have hx := hF.1
  have hb := hF.2.1
  have hbA : ¬ (fun q : Nat => s.heap.size ≤ q) b := Nat.not_le.mpr hbl
  have hc1 : lC0 + u + 1 ≤ room_1.cells := by rw [rc_cells]; show 70 + u + 1 ≤ _; omega
  have hs1 : lS0 + 6 * u + 6 ≤ room_1.slots := by rw [rc_slots]; show 60000 + 6 * u + 6 ≤ _; omega
  refine lv_aload_n hx hb dL_law_792 rfl (lv_at hl 1 rfl) ?_
  refine lv_aload_n hx hb dL_law_793 rfl (lv_at hl 0 rfl) ?_
  refine lv_iload hx hb dL_law_794 (lv_at hl 5 rfl) ?_
  refine lv_iconst (v := 1) hx hb dL_law_796 (by decide) ?_
  refine lv_iadd hx hb dL_law_797 ?_
  refine zsc (j := 5 * t + 1) hF hXs hbl hbA hS (nI_add (5 * t) 1) (by omega) hL dL_law_798 ?_
  refine lv_aload_n hx hb dL_law_799 rfl (lv_at hl 0 rfl) ?_
  refine lv_iload hx hb dL_law_800 (lv_at hl 5 rfl) ?_
  refine lv_iconst (v := 2) hx hb dL_law_802 (by decide) ?_
  refine lv_iadd hx hb dL_law_803 ?_
  refine zsc (j := 5 * t + 2) hF hXs hbl hbA hS (nI_add (5 * t) 2) (by omega) hL dL_law_804 ?_
  refine lv_aload_n hx hb dL_law_805 rfl (lv_at hl 3 rfl) ?_
  obtain ⟨k9, r9, O9, Od9, w19, w29, hML, hMR, hSt9, hG9⟩ := pkS_colour l D cs tt hls (by omega) hSt (xs (5 * t + 1)) (xs (5 * t + 2))
  obtain ⟨b9, hr9, hb9⟩ := hG9
  subst hr9
  refine zS (rest := []) (As := [.ref dk, .int (xs (5 * t + 1)), .int (xs (5 * t + 2)), .ref ou]) hF hML gL_law_L_colour rfl (n := 4) (by decide +kernel) rfl ⟨⟨rfl, rfl⟩, Nat.le_of_ble_eq_true rfl, Nat.le_of_ble_eq_true rfl⟩ ⟨hc1, hs1⟩ hX hXC hP hD hS hl.1 rfl (Nat.le_of_ble_eq_true rfl) dL_law_806 (fun H locs hP hD hS => ?_)
  refine lv_istore (lv' := [(6, .int k9), (0, .ref b), (1, .ref dk), (2, .ref mo), (3, .ref ou), (4, .ref od), (5, .int (nI (5 * t)))]) hx hb dL_law_809 hl (by decide) rfl (fun ls hl => ?_)
  refine lv_aload_n hx hb dL_law_811 rfl (lv_at hl 3 rfl) ?_
  refine lv_aload_n hx hb dL_law_812 rfl (lv_at hl 1 rfl) ?_
  refine lv_iload hx hb dL_law_813 (lv_at hl 6 rfl) ?_
  refine lv_iconst (v := 1) hx hb dL_law_815 (by decide) ?_
  refine lv_iadd hx hb dL_law_816 ?_
  refine zsc (j := 5 * t + 1) hF hXs hbl hbA hS (nI_add (5 * t) 1) (by omega) hL dL_law_817 ?_
  refine lv_aload_n hx hb dL_law_818 rfl (lv_at hl 1 rfl) ?_
  refine lv_iload hx hb dL_law_819 (lv_at hl 6 rfl) ?_
  refine lv_iconst (v := 2) hx hb dL_law_821 (by decide) ?_
  refine lv_iadd hx hb dL_law_822 ?_
  refine zsc (j := 5 * t + 2) hF hXs hbl hbA hS (nI_add (5 * t) 2) (by omega) hL dL_law_823 ?_
  refine zV (rest := []) (As := [.int (xs (5 * t + 1)), .int (xs (5 * t + 2))]) (st1 := [.int b9]) hF hMR gL_law_X7_colour rfl (n := 2) (by decide +kernel) rfl ⟨⟨rfl, rfl⟩, Nat.le_of_ble_eq_true rfl, Nat.le_of_ble_eq_true rfl⟩ ⟨hc1, hs1⟩ hX hP hD hS hSt.ref rfl rfl hl.1 rfl (Nat.le_of_ble_eq_true rfl) dL_law_824 rfl (fun H locs hP hD hS => ?_)
  refine lv_istore (lv' := [(7, .int b9), (6, .int k9), (0, .ref b), (1, .ref dk), (2, .ref mo), (3, .ref ou), (4, .ref od), (5, .int (nI (5 * t)))]) hx hb dL_law_827 hl (by decide) rfl (fun ls hl => ?_)
  refine lv_aload_n hx hb dL_law_829 rfl (lv_at hl 4 rfl) ?_
  refine zV (rest := []) (As := []) (st1 := [.int k9]) hF (hSt9.thr l D tt) gL_law_X7_thrown rfl (n := 0) (by decide +kernel) rfl ⟨⟨rfl, rfl⟩, Nat.le_of_ble_eq_true rfl, Nat.le_of_ble_eq_true rfl⟩ ⟨hc1, hs1⟩ hX hP hD hS hSt9.ref rfl rfl hl.1 rfl (Nat.le_of_ble_eq_true rfl) dL_law_830 rfl (fun H locs hP hD hS => ?_)
  refine lv_iload hx hb dL_law_833 (lv_at hl 1 rfl) ?_
  refine lv_icmp_eq (tgt := 840) hx hb dL_law_835 (by decide) (fun _ => ?_) (fun q9 => absurd rfl q9)
  refine lv_iload hx hb dL_law_840 (lv_at hl 1 rfl) ?_
  refine lv_if_ne (tgt := 857) hx hb dL_law_842 (by decide) (fun _ => ?_) (fun hk0 => ?_)
  · refine lv_goto (tgt := 1070) hx hb dL_law_857 (by decide) ?_
    refine W.widen (k := lC0 + (u + 1)) (n := lS0 + 6 * (u + 1)) (by omega) (by omega) ?_
    exact hk _ _ _ _ _ _ _ _ hSt9 hP hD hS (lv_sub hl [2, 3, 4, 5, 6, 7] rfl)
  · refine lv_aload_n hx hb dL_law_845 rfl (lv_at hl 5 rfl) ?_
    refine lv_iconst (v := 0) hx hb dL_law_846 (by decide) ?_
    refine zlo hF hX hP hSt9.out.1 dL_law_847 ?_
    refine lv_iload hx hb dL_law_848 (lv_at hl 0 rfl) ?_
    refine lv_i2l (v := Int32.toInt64 b9) hx hb dL_law_850 rfl ?_
    refine W.lcmp hx hb dL_law_851 ?_
    rw [hb9 hk0, lcmp_self]
    refine lv_if_eq (tgt := 857) hx hb dL_law_852 (by decide) (fun _ => ?_) (fun q9 => absurd rfl q9)
    refine lv_goto (tgt := 1070) hx hb dL_law_857 (by decide) ?_
    refine W.widen (k := lC0 + (u + 1)) (n := lS0 + 6 * (u + 1)) (by omega) (by omega) ?_
    exact hk _ _ _ _ _ _ _ _ hSt9 hP hD hS (lv_sub hl [2, 3, 4, 5, 6, 7] rfl)

set_option maxHeartbeats 4000000 in
set_option maxRecDepth 100000 in
theorem case_light (l : Launch) (D : va_G) (cs : Nat → ClassId) (tt : Nat → Nat) (p : Program) (e : Env) (s : State) (m : MethodId) (below : List Frame) (meth : Method) (c : Code) (b L : Nat) (xs : Nat → Int32) (dk mo ou od t u : Nat) (Q : State → Prop) (hC : LC l D cs tt p s m meth c b L xs) (ht : 5 * t + 5 ≤ L) (hu : u ≤ t) (hk : LW l D cs p e s m below meth c b dk mo ou od t (u + 1) 1070 Q) : LW l D cs p e s m below meth c b dk mo ou od t u 860 Q := by
  intro H locs ls th O Od w1 w2 hSt hP hD hS hl
  obtain ⟨hF, ⟨hr, hlk⟩, ⟨hXs, hbl, hL⟩, hX, hXC, hls⟩ := hC
  have hx := hF.1
  have hb := hF.2.1
  have hbA : ¬ (fun q : Nat => s.heap.size ≤ q) b := Nat.not_le.mpr hbl
  have hc1 : lC0 + u + 1 ≤ room_1.cells := by rw [rc_cells]; show 70 + u + 1 ≤ _; omega
  have hs1 : lS0 + 6 * u + 6 ≤ room_1.slots := by rw [rc_slots]; show 60000 + 6 * u + 6 ≤ _; omega
  refine lv_aload_n hx hb dL_law_860 rfl (lv_at hl 1 rfl) ?_
  refine lv_aload_n hx hb dL_law_861 rfl (lv_at hl 0 rfl) ?_
  refine lv_iload hx hb dL_law_862 (lv_at hl 5 rfl) ?_
  refine lv_iconst (v := 1) hx hb dL_law_864 (by decide) ?_
  refine lv_iadd hx hb dL_law_865 ?_
  refine zsc (j := 5 * t + 1) hF hXs hbl hbA hS (nI_add (5 * t) 1) (by omega) hL dL_law_866 ?_
  refine lv_i2f hx hb dL_law_867 ?_
  refine lv_ldcf (own := RL) (v := 1040187392) hx hb hF.2.2.2.1 (hF.2.2.2.2 _ (by decide +kernel)) dL_law_868 ?_
  refine lv_fmul hx hb dL_law_870 (mul0125 (xs (5 * t + 1))) ?_
  refine lv_aload_n hx hb dL_law_871 rfl (lv_at hl 0 rfl) ?_
  refine lv_iload hx hb dL_law_872 (lv_at hl 5 rfl) ?_
  refine lv_iconst (v := 2) hx hb dL_law_874 (by decide) ?_
  refine lv_iadd hx hb dL_law_875 ?_
  refine zsc (j := 5 * t + 2) hF hXs hbl hbA hS (nI_add (5 * t) 2) (by omega) hL dL_law_876 ?_
  refine lv_i2f hx hb dL_law_877 ?_
  refine lv_ldcf (own := RL) (v := 1040187392) hx hb hF.2.2.2.1 (hF.2.2.2.2 _ (by decide +kernel)) dL_law_878 ?_
  refine lv_fmul hx hb dL_law_880 (mul0125 (xs (5 * t + 2))) ?_
  obtain ⟨k9, r9, O9, Od9, w19, w29, hML, hMR, hSt9, hG9⟩ := pkS_light l D cs tt hls (by omega) hSt (FP.fmul (FP.i2f (xs (5 * t + 1))) 1040187392) (FP.fmul (FP.i2f (xs (5 * t + 2))) 1040187392)
  have hG9 : r9 = none := hG9
  subst hG9
  refine zS (rest := []) (As := [.ref dk, .float (FP.fmul (FP.i2f (xs (5 * t + 1))) 1040187392), .float (FP.fmul (FP.i2f (xs (5 * t + 2))) 1040187392)]) hF hML gL_law_L_light rfl (n := 3) (by decide +kernel) rfl ⟨⟨rfl, rfl⟩, Nat.le_of_ble_eq_true rfl, Nat.le_of_ble_eq_true rfl⟩ ⟨hc1, hs1⟩ hX hXC hP hD hS hl.1 rfl (Nat.le_of_ble_eq_true rfl) dL_law_881 (fun H locs hP hD hS => ?_)
  refine lv_istore (lv' := [(6, .int k9), (0, .ref b), (1, .ref dk), (2, .ref mo), (3, .ref ou), (4, .ref od), (5, .int (nI (5 * t)))]) hx hb dL_law_884 hl (by decide) rfl (fun ls hl => ?_)
  refine lv_aload_n hx hb dL_law_886 rfl (lv_at hl 3 rfl) ?_
  refine lv_aload_n hx hb dL_law_887 rfl (lv_at hl 1 rfl) ?_
  refine lv_iload hx hb dL_law_888 (lv_at hl 6 rfl) ?_
  refine lv_iconst (v := 1) hx hb dL_law_890 (by decide) ?_
  refine lv_iadd hx hb dL_law_891 ?_
  refine zsc (j := 5 * t + 1) hF hXs hbl hbA hS (nI_add (5 * t) 1) (by omega) hL dL_law_892 ?_
  refine lv_i2f hx hb dL_law_893 ?_
  refine lv_ldcf (own := RL) (v := 1040187392) hx hb hF.2.2.2.1 (hF.2.2.2.2 _ (by decide +kernel)) dL_law_894 ?_
  refine lv_fmul hx hb dL_law_896 (mul0125 (xs (5 * t + 1))) ?_
  refine lv_aload_n hx hb dL_law_897 rfl (lv_at hl 1 rfl) ?_
  refine lv_iload hx hb dL_law_898 (lv_at hl 6 rfl) ?_
  refine lv_iconst (v := 2) hx hb dL_law_900 (by decide) ?_
  refine lv_iadd hx hb dL_law_901 ?_
  refine zsc (j := 5 * t + 2) hF hXs hbl hbA hS (nI_add (5 * t) 2) (by omega) hL dL_law_902 ?_
  refine lv_i2f hx hb dL_law_903 ?_
  refine lv_ldcf (own := RL) (v := 1040187392) hx hb hF.2.2.2.1 (hF.2.2.2.2 _ (by decide +kernel)) dL_law_904 ?_
  refine lv_fmul hx hb dL_law_906 (mul0125 (xs (5 * t + 2))) ?_
  refine zV (rest := []) (As := [.float (FP.fmul (FP.i2f (xs (5 * t + 1))) 1040187392), .float (FP.fmul (FP.i2f (xs (5 * t + 2))) 1040187392)]) (st1 := []) hF hMR gL_law_X7_light rfl (n := 2) (by decide +kernel) rfl ⟨⟨rfl, rfl⟩, Nat.le_of_ble_eq_true rfl, Nat.le_of_ble_eq_true rfl⟩ ⟨hc1, hs1⟩ hX hP hD hS hSt.ref rfl rfl hl.1 rfl (Nat.le_of_ble_eq_true rfl) dL_law_907 rfl (fun H locs hP hD hS => ?_)
  refine lv_aload_n hx hb dL_law_910 rfl (lv_at hl 3 rfl) ?_
  refine zV (rest := []) (As := []) (st1 := [.int k9]) hF (hSt9.thr l D tt) gL_law_X7_thrown rfl (n := 0) (by decide +kernel) rfl ⟨⟨rfl, rfl⟩, Nat.le_of_ble_eq_true rfl, Nat.le_of_ble_eq_true rfl⟩ ⟨hc1, hs1⟩ hX hP hD hS hSt9.ref rfl rfl hl.1 rfl (Nat.le_of_ble_eq_true rfl) dL_law_911 rfl (fun H locs hP hD hS => ?_)
  refine lv_iload hx hb dL_law_914 (lv_at hl 0 rfl) ?_
  refine lv_icmp_eq (tgt := 921) hx hb dL_law_916 (by decide) (fun _ => ?_) (fun q9 => absurd rfl q9)
  refine lv_goto (tgt := 1070) hx hb dL_law_921 (by decide) ?_
  refine W.widen (k := lC0 + (u + 1)) (n := lS0 + 6 * (u + 1)) (by omega) (by omega) ?_
  exact hk _ _ _ _ _ _ _ _ hSt9 hP hD hS (lv_sub hl [1, 2, 3, 4, 5, 6] rfl)

set_option maxHeartbeats 4000000 in
set_option maxRecDepth 100000 in
theorem case_keep (l : Launch) (D : va_G) (cs : Nat → ClassId) (tt : Nat → Nat) (p : Program) (e : Env) (s : State) (m : MethodId) (below : List Frame) (meth : Method) (c : Code) (b L : Nat) (xs : Nat → Int32) (dk mo ou od t u : Nat) (Q : State → Prop) (hC : LC l D cs tt p s m meth c b L xs) (ht : 5 * t + 5 ≤ L) (hu : u ≤ t) (hk : LW l D cs p e s m below meth c b dk mo ou od t (u + 1) 1070 Q) : LW l D cs p e s m below meth c b dk mo ou od t u 924 Q := by
  intro H locs ls th O Od w1 w2 hSt hP hD hS hl
  obtain ⟨hF, ⟨hr, hlk⟩, ⟨hXs, hbl, hL⟩, hX, hXC, hls⟩ := hC
  have hx := hF.1
  have hb := hF.2.1
  have hbA : ¬ (fun q : Nat => s.heap.size ≤ q) b := Nat.not_le.mpr hbl
  have hc1 : lC0 + u + 1 ≤ room_1.cells := by rw [rc_cells]; show 70 + u + 1 ≤ _; omega
  have hs1 : lS0 + 6 * u + 6 ≤ room_1.slots := by rw [rc_slots]; show 60000 + 6 * u + 6 ≤ _; omega
  refine lv_aload_n hx hb dL_law_924 rfl (lv_at hl 1 rfl) ?_
  obtain ⟨k9, r9, O9, Od9, w19, w29, hML, hMR, hSt9, hG9⟩ := pkS_keep l D cs tt hls (by omega) hSt 
  have hG9 : r9 = none := hG9
  subst hG9
  refine zS (rest := []) (As := [.ref dk]) hF hML gL_law_L_keep rfl (n := 1) (by decide +kernel) rfl ⟨⟨rfl, rfl⟩, Nat.le_of_ble_eq_true rfl, Nat.le_of_ble_eq_true rfl⟩ ⟨hc1, hs1⟩ hX hXC hP hD hS hl.1 rfl (Nat.le_of_ble_eq_true rfl) dL_law_925 (fun H locs hP hD hS => ?_)
  refine lv_istore (lv' := [(6, .int k9), (0, .ref b), (1, .ref dk), (2, .ref mo), (3, .ref ou), (4, .ref od), (5, .int (nI (5 * t)))]) hx hb dL_law_928 hl (by decide) rfl (fun ls hl => ?_)
  refine lv_aload_n hx hb dL_law_930 rfl (lv_at hl 3 rfl) ?_
  refine zV (rest := []) (As := []) (st1 := []) hF hMR gL_law_X7_keep rfl (n := 0) (by decide +kernel) rfl ⟨⟨rfl, rfl⟩, Nat.le_of_ble_eq_true rfl, Nat.le_of_ble_eq_true rfl⟩ ⟨hc1, hs1⟩ hX hP hD hS hSt.ref rfl rfl hl.1 rfl (Nat.le_of_ble_eq_true rfl) dL_law_931 rfl (fun H locs hP hD hS => ?_)
  refine lv_aload_n hx hb dL_law_934 rfl (lv_at hl 3 rfl) ?_
  refine zV (rest := []) (As := []) (st1 := [.int k9]) hF (hSt9.thr l D tt) gL_law_X7_thrown rfl (n := 0) (by decide +kernel) rfl ⟨⟨rfl, rfl⟩, Nat.le_of_ble_eq_true rfl, Nat.le_of_ble_eq_true rfl⟩ ⟨hc1, hs1⟩ hX hP hD hS hSt9.ref rfl rfl hl.1 rfl (Nat.le_of_ble_eq_true rfl) dL_law_935 rfl (fun H locs hP hD hS => ?_)
  refine lv_iload hx hb dL_law_938 (lv_at hl 0 rfl) ?_
  refine lv_icmp_eq (tgt := 945) hx hb dL_law_940 (by decide) (fun _ => ?_) (fun q9 => absurd rfl q9)
  refine lv_goto (tgt := 1070) hx hb dL_law_945 (by decide) ?_
  refine W.widen (k := lC0 + (u + 1)) (n := lS0 + 6 * (u + 1)) (by omega) (by omega) ?_
  exact hk _ _ _ _ _ _ _ _ hSt9 hP hD hS (lv_sub hl [1, 2, 3, 4, 5, 6] rfl)

set_option maxHeartbeats 4000000 in
set_option maxRecDepth 100000 in
theorem case_error (l : Launch) (D : va_G) (cs : Nat → ClassId) (tt : Nat → Nat) (p : Program) (e : Env) (s : State) (m : MethodId) (below : List Frame) (meth : Method) (c : Code) (b L : Nat) (xs : Nat → Int32) (dk mo ou od t u : Nat) (Q : State → Prop) (hC : LC l D cs tt p s m meth c b L xs) (ht : 5 * t + 5 ≤ L) (hu : u ≤ t) (hk : LW l D cs p e s m below meth c b dk mo ou od t (u + 1) 1070 Q) : LW l D cs p e s m below meth c b dk mo ou od t u 948 Q := by
  intro H locs ls th O Od w1 w2 hSt hP hD hS hl
  obtain ⟨hF, ⟨hr, hlk⟩, ⟨hXs, hbl, hL⟩, hX, hXC, hls⟩ := hC
  have hx := hF.1
  have hb := hF.2.1
  have hbA : ¬ (fun q : Nat => s.heap.size ≤ q) b := Nat.not_le.mpr hbl
  have hc1 : lC0 + u + 1 ≤ room_1.cells := by rw [rc_cells]; show 70 + u + 1 ≤ _; omega
  have hs1 : lS0 + 6 * u + 6 ≤ room_1.slots := by rw [rc_slots]; show 60000 + 6 * u + 6 ≤ _; omega
  refine lv_aload_n hx hb dL_law_948 rfl (lv_at hl 1 rfl) ?_
  refine lv_aload hx hb dL_law_949 (lv_at hl 4 rfl) ?_
  obtain ⟨k9, r9, O9, Od9, w19, w29, hML, hMR, hSt9, hG9⟩ := pkS_error l D cs tt hls (by omega) hSt 
  obtain ⟨b9, hr9, hb9⟩ := hG9
  subst hr9
  refine zS (rest := []) (As := [.ref dk, .ref od]) hF hML gL_law_L_error rfl (n := 2) (by decide +kernel) rfl ⟨⟨rfl, rfl⟩, Nat.le_of_ble_eq_true rfl, Nat.le_of_ble_eq_true rfl⟩ ⟨hc1, hs1⟩ hX hXC hP hD hS hl.1 rfl (Nat.le_of_ble_eq_true rfl) dL_law_951 (fun H locs hP hD hS => ?_)
  refine lv_istore (lv' := [(6, .int k9), (0, .ref b), (1, .ref dk), (2, .ref mo), (3, .ref ou), (4, .ref od), (5, .int (nI (5 * t)))]) hx hb dL_law_954 hl (by decide) rfl (fun ls hl => ?_)
  refine lv_aload_n hx hb dL_law_956 rfl (lv_at hl 3 rfl) ?_
  refine zV (rest := []) (As := []) (st1 := [.float b9]) hF hMR gL_law_X7_error rfl (n := 0) (by decide +kernel) rfl ⟨⟨rfl, rfl⟩, Nat.le_of_ble_eq_true rfl, Nat.le_of_ble_eq_true rfl⟩ ⟨hc1, hs1⟩ hX hP hD hS hSt.ref rfl rfl hl.1 rfl (Nat.le_of_ble_eq_true rfl) dL_law_957 rfl (fun H locs hP hD hS => ?_)
  refine lv_fstore (lv' := [(7, .float b9), (6, .int k9), (0, .ref b), (1, .ref dk), (2, .ref mo), (3, .ref ou), (4, .ref od), (5, .int (nI (5 * t)))]) hx hb dL_law_960 hl (by decide) rfl (fun ls hl => ?_)
  refine lv_aload_n hx hb dL_law_962 rfl (lv_at hl 4 rfl) ?_
  refine zV (rest := []) (As := []) (st1 := [.int k9]) hF (hSt9.thr l D tt) gL_law_X7_thrown rfl (n := 0) (by decide +kernel) rfl ⟨⟨rfl, rfl⟩, Nat.le_of_ble_eq_true rfl, Nat.le_of_ble_eq_true rfl⟩ ⟨hc1, hs1⟩ hX hP hD hS hSt9.ref rfl rfl hl.1 rfl (Nat.le_of_ble_eq_true rfl) dL_law_963 rfl (fun H locs hP hD hS => ?_)
  refine lv_iload hx hb dL_law_966 (lv_at hl 1 rfl) ?_
  refine lv_icmp_eq (tgt := 973) hx hb dL_law_968 (by decide) (fun _ => ?_) (fun q9 => absurd rfl q9)
  refine lv_iload hx hb dL_law_973 (lv_at hl 1 rfl) ?_
  refine lv_if_ne (tgt := 1011) hx hb dL_law_975 (by decide) (fun _ => ?_) (fun hk0 => ?_)
  · refine lv_goto (tgt := 1070) hx hb dL_law_1011 (by decide) ?_
    refine W.widen (k := lC0 + (u + 1)) (n := lS0 + 6 * (u + 1)) (by omega) (by omega) ?_
    exact hk _ _ _ _ _ _ _ _ hSt9 hP hD hS (lv_sub hl [2, 3, 4, 5, 6, 7] rfl)
  · refine lv_aload hx hb dL_law_978 (lv_at hl 6 rfl) ?_
    refine lv_iconst (v := 0) hx hb dL_law_980 (by decide) ?_
    refine zdo hF hX hP hSt9.out.2 dL_law_981 ?_
    refine lv_fload hx hb dL_law_982 (lv_at hl 0 rfl) ?_
    refine lv_f2d hx hb dL_law_984 (hb9 hk0).2 ?_
    refine lv_dcmp hx hb dL_law_985 ?_
    rw [(hb9 hk0).1, dcmp_self (hb9 hk0).2]
    refine lv_if_eq (tgt := 1011) hx hb dL_law_986 (by decide) (fun _ => ?_) (fun q9 => absurd rfl q9)
    refine lv_goto (tgt := 1070) hx hb dL_law_1011 (by decide) ?_
    refine W.widen (k := lC0 + (u + 1)) (n := lS0 + 6 * (u + 1)) (by omega) (by omega) ?_
    exact hk _ _ _ _ _ _ _ _ hSt9 hP hD hS (lv_sub hl [2, 3, 4, 5, 6, 7] rfl)

set_option maxHeartbeats 4000000 in
set_option maxRecDepth 100000 in
theorem case_told (l : Launch) (D : va_G) (cs : Nat → ClassId) (tt : Nat → Nat) (p : Program) (e : Env) (s : State) (m : MethodId) (below : List Frame) (meth : Method) (c : Code) (b L : Nat) (xs : Nat → Int32) (dk mo ou od t u : Nat) (Q : State → Prop) (hC : LC l D cs tt p s m meth c b L xs) (ht : 5 * t + 5 ≤ L) (hu : u ≤ t) (hk : LW l D cs p e s m below meth c b dk mo ou od t (u + 1) 1070 Q) : LW l D cs p e s m below meth c b dk mo ou od t u 1014 Q := by
  intro H locs ls th O Od w1 w2 hSt hP hD hS hl
  obtain ⟨hF, ⟨hr, hlk⟩, ⟨hXs, hbl, hL⟩, hX, hXC, hls⟩ := hC
  have hx := hF.1
  have hb := hF.2.1
  have hbA : ¬ (fun q : Nat => s.heap.size ≤ q) b := Nat.not_le.mpr hbl
  have hc1 : lC0 + u + 1 ≤ room_1.cells := by rw [rc_cells]; show 70 + u + 1 ≤ _; omega
  have hs1 : lS0 + 6 * u + 6 ≤ room_1.slots := by rw [rc_slots]; show 60000 + 6 * u + 6 ≤ _; omega
  refine lv_aload_n hx hb dL_law_1014 rfl (lv_at hl 1 rfl) ?_
  refine lv_aload_n hx hb dL_law_1015 rfl (lv_at hl 0 rfl) ?_
  refine lv_iload hx hb dL_law_1016 (lv_at hl 5 rfl) ?_
  refine lv_iconst (v := 1) hx hb dL_law_1018 (by decide) ?_
  refine lv_iadd hx hb dL_law_1019 ?_
  refine zsc (j := 5 * t + 1) hF hXs hbl hbA hS (nI_add (5 * t) 1) (by omega) hL dL_law_1020 ?_
  refine lv_aload_n hx hb dL_law_1021 rfl (lv_at hl 3 rfl) ?_
  obtain ⟨k9, r9, O9, Od9, w19, w29, hML, hMR, hSt9, hG9⟩ := pkS_told l D cs tt hls (by omega) hSt (xs (5 * t + 1))
  obtain ⟨b9, hr9, hb9⟩ := hG9
  subst hr9
  refine zS (rest := []) (As := [.ref dk, .int (xs (5 * t + 1)), .ref ou]) hF hML gL_law_L_told rfl (n := 3) (by decide +kernel) rfl ⟨⟨rfl, rfl⟩, Nat.le_of_ble_eq_true rfl, Nat.le_of_ble_eq_true rfl⟩ ⟨hc1, hs1⟩ hX hXC hP hD hS hl.1 rfl (Nat.le_of_ble_eq_true rfl) dL_law_1022 (fun H locs hP hD hS => ?_)
  refine lv_istore (lv' := [(6, .int k9), (0, .ref b), (1, .ref dk), (2, .ref mo), (3, .ref ou), (4, .ref od), (5, .int (nI (5 * t)))]) hx hb dL_law_1025 hl (by decide) rfl (fun ls hl => ?_)
  refine lv_aload_n hx hb dL_law_1027 rfl (lv_at hl 3 rfl) ?_
  refine lv_aload_n hx hb dL_law_1028 rfl (lv_at hl 1 rfl) ?_
  refine lv_iload hx hb dL_law_1029 (lv_at hl 6 rfl) ?_
  refine lv_iconst (v := 1) hx hb dL_law_1031 (by decide) ?_
  refine lv_iadd hx hb dL_law_1032 ?_
  refine zsc (j := 5 * t + 1) hF hXs hbl hbA hS (nI_add (5 * t) 1) (by omega) hL dL_law_1033 ?_
  refine zV (rest := []) (As := [.int (xs (5 * t + 1))]) (st1 := [.int b9]) hF hMR gL_law_X7_told rfl (n := 1) (by decide +kernel) rfl ⟨⟨rfl, rfl⟩, Nat.le_of_ble_eq_true rfl, Nat.le_of_ble_eq_true rfl⟩ ⟨hc1, hs1⟩ hX hP hD hS hSt.ref rfl rfl hl.1 rfl (Nat.le_of_ble_eq_true rfl) dL_law_1034 rfl (fun H locs hP hD hS => ?_)
  refine lv_istore (lv' := [(7, .int b9), (6, .int k9), (0, .ref b), (1, .ref dk), (2, .ref mo), (3, .ref ou), (4, .ref od), (5, .int (nI (5 * t)))]) hx hb dL_law_1037 hl (by decide) rfl (fun ls hl => ?_)
  refine lv_aload_n hx hb dL_law_1039 rfl (lv_at hl 4 rfl) ?_
  refine zV (rest := []) (As := []) (st1 := [.int k9]) hF (hSt9.thr l D tt) gL_law_X7_thrown rfl (n := 0) (by decide +kernel) rfl ⟨⟨rfl, rfl⟩, Nat.le_of_ble_eq_true rfl, Nat.le_of_ble_eq_true rfl⟩ ⟨hc1, hs1⟩ hX hP hD hS hSt9.ref rfl rfl hl.1 rfl (Nat.le_of_ble_eq_true rfl) dL_law_1040 rfl (fun H locs hP hD hS => ?_)
  refine lv_iload hx hb dL_law_1043 (lv_at hl 1 rfl) ?_
  refine lv_icmp_eq (tgt := 1050) hx hb dL_law_1045 (by decide) (fun _ => ?_) (fun q9 => absurd rfl q9)
  refine lv_iload hx hb dL_law_1050 (lv_at hl 1 rfl) ?_
  refine lv_if_ne (tgt := 1067) hx hb dL_law_1052 (by decide) (fun _ => ?_) (fun hk0 => ?_)
  · refine lv_goto (tgt := 1070) hx hb dL_law_1067 (by decide) ?_
    refine W.widen (k := lC0 + (u + 1)) (n := lS0 + 6 * (u + 1)) (by omega) (by omega) ?_
    exact hk _ _ _ _ _ _ _ _ hSt9 hP hD hS (lv_sub hl [2, 3, 4, 5, 6, 7] rfl)
  · refine lv_aload_n hx hb dL_law_1055 rfl (lv_at hl 5 rfl) ?_
    refine lv_iconst (v := 0) hx hb dL_law_1056 (by decide) ?_
    refine zlo hF hX hP hSt9.out.1 dL_law_1057 ?_
    refine lv_iload hx hb dL_law_1058 (lv_at hl 0 rfl) ?_
    refine lv_i2l (v := Int32.toInt64 b9) hx hb dL_law_1060 rfl ?_
    refine W.lcmp hx hb dL_law_1061 ?_
    rw [hb9 hk0, lcmp_self]
    refine lv_if_eq (tgt := 1067) hx hb dL_law_1062 (by decide) (fun _ => ?_) (fun q9 => absurd rfl q9)
    refine lv_goto (tgt := 1070) hx hb dL_law_1067 (by decide) ?_
    refine W.widen (k := lC0 + (u + 1)) (n := lS0 + 6 * (u + 1)) (by omega) (by omega) ?_
    exact hk _ _ _ _ _ _ _ _ hSt9 hP hD hS (lv_sub hl [2, 3, 4, 5, 6, 7] rfl)
