
/-! ===== motion, what is coming, pictures ===== -/
theorem fitB {v : Int32} (h : v = 0 ∨ v = 1) : fits .boolean (.int v) = true := by
  rcases h with rfl | rfl <;> rfl
def du (a b : Int32) : Nat → Int32 := fun j => if j = 0 then a else b
def wrp (v m : Int32) : Int32 := if -m ≤ v then (if v < m then v else v - 2 * m) else v + 2 * m
def usd (wh v p : Int32) : Int32 := if p = 0 then (if wh = 0 then v else 2 * v) else (if wh = 0 then v else 2 * v) / 2
def tri (a b c : Nat) : Nat → Option Nat := fun i => if i = 0 then some a else if i = 1 then some b else if i = 2 then some c else none
def duo (a b : Nat) : Nat → Option Nat := fun i => if i = 0 then some a else if i = 1 then some b else none
theorem duI {M : Nat → Int32} {x y : Int32} : ∀ j, j < 2 → upd (upd M 0 x) 1 y j = du x y j := by
  intro j hj
  have : j = 0 ∨ j = 1 := by omega
  rcases this with rfl | rfl <;> simp [upd, du]
def mov (V : Nat → Int32) (k : Nat) (m dx dy : Int32) : Nat → Int32 := upd (upd V (2 * k) (wrp (V (2 * k) + dx) m)) (2 * k + 1) (wrp (V (2 * k + 1) + dy) m)

theorem dim16 {W H : Nat} (h1 : 1 ≤ W) (h2 : W ≤ 4) (h3 : 1 ≤ H) (h4 : H ≤ 3) : dim (16 * W) (16 * H) 3072 := by
  refine ⟨by omega, by omega, by omega, by omega, ?_, by decide⟩
  exact Nat.le_trans (Nat.mul_le_mul (show 16 * W ≤ 64 by omega) (show 16 * H ≤ 48 by omega)) (by decide)
theorem dim8 {W H : Nat} (h1 : 1 ≤ W) (h2 : W ≤ 4) (h3 : 1 ≤ H) (h4 : H ≤ 3) : dim (8 * W) (8 * H) 768 := by
  refine ⟨by omega, by omega, by omega, by omega, ?_, by decide⟩
  exact Nat.le_trans (Nat.mul_le_mul (show 8 * W ≤ 32 by omega) (show 8 * H ≤ 24 by omega)) (by decide)

set_option maxHeartbeats 4000000 in
set_option maxRecDepth 100000 in
theorem c_X2_rest (l : Launch) (D : va_G) (cs : Nat → ClassId) (tt : Nat → Nat) (o pa mo : Nat) (wh : Int32) (V M : Nat → Int32)  : xM l yX2_rest wsX2_rest ({ frames := 1, cells := 0, slots := 0, locals := 23 } : Room) D cs tt [.ref o] [(o, .inr (2, [.ref pa, .ref mo, .int wh])), (pa, .inl (cs 0, 4, .inl V))] none [(o, .inr (2, [.ref pa, .ref mo, .int wh])), (pa, .inl (cs 0, 4, .inl (fun _ => 0)))] := by
  refine xM.of RX2 rfl (by decide) rfl (Nat.le_of_ble_eq_true rfl) ?_
  intro p e s m below meth c A ls hF hr hlk hX hP hD hS hl
  have hx := hF.1
  have hb := hF.2.1
  have hl : lv_has ls 1 [(0, .ref o)] := hl
  refine lv_aload_n hx hb dX2_rest_0 rfl (lv_at hl 0 rfl) ?_
  refine xget (C := RX2) (T := TX2) (N := 3) hF hX hP (by decide +kernel) 0 0 rfl rfl (by decide) (by decide +kernel) rfl dX2_rest_1 ?_
  refine lv_iconst (v := 0) hx hb dX2_rest_4 (by decide) ?_
  refine xSt (rest := []) (As := [.ref pa, .int 0]) (ws1 := [(o, .inr (2, [.ref pa, .ref mo, .int wh])), (pa, .inl (cs 0, 4, .inl (fun _ => 0)))]) (st1 := []) hF (c_J7_fill_53178 l D cs tt pa 4 V 0 (by decide)) gX2_rest_J7_fill_53178 rfl (n := 2) (by decide +kernel) rfl ⟨⟨rfl, rfl⟩, Nat.le_of_ble_eq_true rfl, Nat.le_of_ble_eq_true rfl⟩ ⟨Nat.le_of_ble_eq_true rfl, Nat.le_of_ble_eq_true rfl⟩ hX hP hD hS [1] (by decide) rfl [pa] rfl rfl hl.1 rfl (Nat.le_of_ble_eq_true rfl) dX2_rest_5 rfl rfl (fun Hp locs hP hD hS => ?_)
  exact xrv hF hr hlk hP hD hS dX2_rest_8

set_option maxHeartbeats 4000000 in
set_option maxRecDepth 100000 in
theorem c_X2_prepare (l : Launch) (D : va_G) (cs : Nat → ClassId) (tt : Nat → Nat) (o pa mo : Nat) (wh : Int32) (V M : Nat → Int32) (f b w : Int32) (hw : w = 0 ∨ w = 1) : xM l yX2_prepare wsX2_prepare ({ frames := 2, cells := 0, slots := 0, locals := 43 } : Room) D cs tt [.ref o, .int f, .int b, .int w] [(o, .inr (2, [.ref pa, .ref mo, .int wh])), (pa, .inl (cs 0, 4, .inl V)), (mo, .inl (cs 0, 2, .inl M))] none [(o, .inr (2, [.ref pa, .ref mo, .int w])), (pa, .inl (cs 0, 4, .inl (fun _ => 0))), (mo, .inl (cs 0, 2, .inl (du (16 * f) (16 * b))))] := by
  refine xM.of RX2 rfl (by decide) rfl (Nat.le_of_ble_eq_true rfl) ?_
  intro p e s m below meth c A ls hF hr hlk hX hP hD hS hl
  have hx := hF.1
  have hb := hF.2.1
  have hl : lv_has ls 4 [(0, .ref o), (1, .int f), (2, .int b), (3, .int w)] := hl
  refine lv_aload_n hx hb dX2_prepare_0 rfl (lv_at hl 0 rfl) ?_
  refine xget (C := RX2) (T := TX2) (N := 3) hF hX hP (by decide +kernel) 0 1 rfl rfl (by decide) (by decide +kernel) rfl dX2_prepare_1 ?_
  refine lv_iconst (v := 0) hx hb dX2_prepare_4 (by decide) ?_
  refine lv_bipush (v := 16) hx hb dX2_prepare_5 (by decide) ?_
  refine lv_iload_n hx hb dX2_prepare_7 rfl (lv_at hl 1 rfl) ?_
  refine lv_imul hx hb dX2_prepare_8 ?_
  refine xast (k := 0) (ws1 := [(o, .inr (2, [.ref pa, .ref mo, .int wh])), (pa, .inl (cs 0, 4, .inl V)), (mo, .inl (cs 0, 2, .inl (upd M 0 (16 * f))))]) hF hX hP hD hS 2 rfl (rfl) (vp_in_nI (n := 0) (by decide) (by decide)) dX2_prepare_9 rfl (fun Hp locs hP hD hS => ?_)
  refine lv_aload_n hx hb dX2_prepare_10 rfl (lv_at hl 0 rfl) ?_
  refine xget (C := RX2) (T := TX2) (N := 3) hF hX hP (by decide +kernel) 0 1 rfl rfl (by decide) (by decide +kernel) rfl dX2_prepare_11 ?_
  refine lv_iconst (v := 1) hx hb dX2_prepare_14 (by decide) ?_
  refine lv_bipush (v := 16) hx hb dX2_prepare_15 (by decide) ?_
  refine lv_iload_n hx hb dX2_prepare_17 rfl (lv_at hl 2 rfl) ?_
  refine lv_imul hx hb dX2_prepare_18 ?_
  refine xast (k := 1) (ws1 := [(o, .inr (2, [.ref pa, .ref mo, .int wh])), (pa, .inl (cs 0, 4, .inl V)), (mo, .inl (cs 0, 2, .inl (upd (upd M 0 (16 * f)) 1 (16 * b))))]) hF hX hP hD hS 2 rfl (rfl) (vp_in_nI (n := 1) (by decide) (by decide)) dX2_prepare_19 rfl (fun Hp locs hP hD hS => ?_)
  have hP1 : va_P D vwCl [(o, .inr (2, [.ref pa, .ref mo, .int wh])), (pa, .inl (cs 0, 4, .inl V)), (mo, .inl (cs 0, 2, .inl (du (16 * f) (16 * b))))] Hp := xcongP (g := (du (16 * f) (16 * b))) hP 2 rfl hD (duI)
  have hD : va_D A [(o, .inr (2, [.ref pa, .ref mo, .int wh])), (pa, .inl (cs 0, 4, .inl V)), (mo, .inl (cs 0, 2, .inl (du (16 * f) (16 * b))))] := xcongD (g := (du (16 * f) (16 * b))) 2 rfl hD
  have hP := hP1
  refine lv_aload_n hx hb dX2_prepare_20 rfl (lv_at hl 0 rfl) ?_
  refine lv_iload_n hx hb dX2_prepare_21 rfl (lv_at hl 3 rfl) ?_
  refine xputf (C := RX2) (T := TX2) (N := 3) (ws1 := [(o, .inr (2, [.ref pa, .ref mo, .int w])), (pa, .inl (cs 0, 4, .inl V)), (mo, .inl (cs 0, 2, .inl (du (16 * f) (16 * b))))]) hF hX hP hD hS (by decide +kernel) tyX2 tyX2_ok nmX2 0 2 rfl rfl (by decide) (by decide +kernel) rfl (narB hw) (fitB hw) (Nat.le_of_ble_eq_true rfl) dX2_prepare_22 rfl (fun Hp locs hP hD hS => ?_)
  refine lv_aload_n hx hb dX2_prepare_25 rfl (lv_at hl 0 rfl) ?_
  refine xV (rest := []) (As := []) (ws1 := [(o, .inr (2, [.ref pa, .ref mo, .int w])), (pa, .inl (cs 0, 4, .inl (fun _ => 0))), (mo, .inl (cs 0, 2, .inl (du (16 * f) (16 * b))))]) (st1 := []) hF (c_X2_rest l D cs tt o pa mo w V M) gX2_prepare_X2_rest rfl (n := 0) (by decide +kernel) rfl ⟨⟨rfl, rfl⟩, Nat.le_of_ble_eq_true rfl, Nat.le_of_ble_eq_true rfl⟩ ⟨Nat.le_of_ble_eq_true rfl, Nat.le_of_ble_eq_true rfl⟩ hX hP hD hS [0, 1] (by decide) rfl [o, pa] rfl rfl (q0 := 0) (ci := 2) rfl rfl rfl hl.1 rfl (Nat.le_of_ble_eq_true rfl) dX2_prepare_26 rfl rfl (fun Hp locs hP hD hS => ?_)
  exact xrv hF hr hlk hP hD hS dX2_prepare_29

set_option maxHeartbeats 4000000 in
set_option maxRecDepth 100000 in
theorem c_X2_reaches (l : Launch) (D : va_G) (cs : Nat → ClassId) (tt : Nat → Nat) (o pa mo : Nat) (wh : Int32) (V M : Nat → Int32) (k : Nat) (d : Int32) (hk : k < 2) : xM l yX2_reaches wsX2_reaches ({ frames := 1, cells := 0, slots := 0, locals := 22 } : Room) D cs tt [.ref o, .int (nI k), .int d] [(o, .inr (2, [.ref pa, .ref mo, .int wh])), (mo, .inl (cs 0, 2, .inl M))] (some (.int (wi d (-(M k)) (M k)))) [(o, .inr (2, [.ref pa, .ref mo, .int wh])), (mo, .inl (cs 0, 2, .inl M))] := by
  refine xM.of RX2 rfl (by decide) rfl (Nat.le_of_ble_eq_true rfl) ?_
  intro p e s m below meth c A ls hF hr hlk hX hP hD hS hl
  have hx := hF.1
  have hb := hF.2.1
  have hl : lv_has ls 3 [(0, .ref o), (1, .int (nI k)), (2, .int d)] := hl
  refine lv_iload_n hx hb dX2_reaches_0 rfl (lv_at hl 2 rfl) ?_
  refine lv_aload_n hx hb dX2_reaches_1 rfl (lv_at hl 0 rfl) ?_
  refine xget (C := RX2) (T := TX2) (N := 3) hF hX hP (by decide +kernel) 0 1 rfl rfl (by decide) (by decide +kernel) rfl dX2_reaches_2 ?_
  refine lv_iload_n hx hb dX2_reaches_5 rfl (lv_at hl 1 rfl) ?_
  refine xald (k := k) hF hX hP 1 rfl (nI_clamp (by omega)) (vp_in_nI (by omega) (by omega)) dX2_reaches_6 ?_
  refine lv_ineg hx hb dX2_reaches_7 ?_
  refine lv_aload_n hx hb dX2_reaches_8 rfl (lv_at hl 0 rfl) ?_
  refine xget (C := RX2) (T := TX2) (N := 3) hF hX hP (by decide +kernel) 0 1 rfl rfl (by decide) (by decide +kernel) rfl dX2_reaches_9 ?_
  refine lv_iload_n hx hb dX2_reaches_12 rfl (lv_at hl 1 rfl) ?_
  refine xald (k := k) hF hX hP 1 rfl (nI_clamp (by omega)) (vp_in_nI (by omega) (by omega)) dX2_reaches_13 ?_
  refine xSN (host := RX6) (rest := []) (As := [.int d, .int (-(M k)), .int (M k)]) (ws1 := [(o, .inr (2, [.ref pa, .ref mo, .int wh])), (mo, .inl (cs 0, 2, .inl M))]) (st1 := [.int (wi d (-(M k)) (M k))]) hF (c_X6_isWithin l D cs tt d (-(M k)) (M k)) gX2_reaches_X6_isWithin_n29 rfl (by decide +kernel) (by decide +kernel) (by decide +kernel) (n := 3) (by decide +kernel) rfl ⟨⟨rfl, rfl⟩, Nat.le_of_ble_eq_true rfl, Nat.le_of_ble_eq_true rfl⟩ ⟨Nat.le_of_ble_eq_true rfl, Nat.le_of_ble_eq_true rfl⟩ hX hP hD hS [] (by decide) rfl [] rfl rfl hl.1 rfl (Nat.le_of_ble_eq_true rfl) dX2_reaches_14 rfl rfl (fun Hp locs hP hD hS => ?_)
  exact xrz hF hr hlk hP hD hS (narB (wi01 _ _ _)) dX2_reaches_17

set_option maxHeartbeats 4000000 in
set_option maxRecDepth 100000 in
theorem c_X2_wrapped (l : Launch) (D : va_G) (cs : Nat → ClassId) (tt : Nat → Nat) (v m9 : Int32)  : xM l yX2_wrapped wsX2_wrapped ({ frames := 0, cells := 0, slots := 0, locals := 0 } : Room) D cs tt [.int v, .int m9] [] (some (.int (wrp v m9))) [] := by
  refine xM.of RX2 rfl (by decide) rfl (Nat.le_of_ble_eq_true rfl) ?_
  intro p e s m below meth c A ls hF hr hlk hX hP hD hS hl
  have hx := hF.1
  have hb := hF.2.1
  have hl : lv_has ls 2 [(0, .int v), (1, .int m9)] := hl
  refine lv_iload_n hx hb dX2_wrapped_0 rfl (lv_at hl 0 rfl) ?_
  refine lv_iload_n hx hb dX2_wrapped_1 rfl (lv_at hl 1 rfl) ?_
  refine lv_ineg hx hb dX2_wrapped_2 ?_
  refine lv_icmp_ge (tgt := 12) hx hb dX2_wrapped_3 (by decide) (fun c_3 => ?_) (fun c_3 => ?_)
  · refine lv_iload_n hx hb dX2_wrapped_12 rfl (lv_at hl 0 rfl) ?_
    refine lv_iload_n hx hb dX2_wrapped_13 rfl (lv_at hl 1 rfl) ?_
    refine lv_icmp_lt (tgt := 25) hx hb dX2_wrapped_14 (by decide) (fun c_14 => ?_) (fun c_14 => ?_)
    · refine lv_iload_n hx hb dX2_wrapped_25 rfl (lv_at hl 0 rfl) ?_
      refine xrwi (z := (wrp v m9)) (by simp [wrp, c_3, c_14]) ?_
      exact xri (Q9 := fun _ _ _ _ => True) hF hr hlk hP hD hS dX2_wrapped_26
    · refine lv_iload_n hx hb dX2_wrapped_17 rfl (lv_at hl 0 rfl) ?_
      refine lv_iconst (v := 2) hx hb dX2_wrapped_18 (by decide) ?_
      refine lv_iload_n hx hb dX2_wrapped_19 rfl (lv_at hl 1 rfl) ?_
      refine lv_imul hx hb dX2_wrapped_20 ?_
      refine lv_isub hx hb dX2_wrapped_21 ?_
      refine lv_goto (tgt := 26) hx hb dX2_wrapped_22 (by decide) ?_
      refine xrwi (z := (wrp v m9)) (by simp [wrp, c_3, c_14]) ?_
      exact xri (Q9 := fun _ _ _ _ => True) hF hr hlk hP hD hS dX2_wrapped_26
  · refine lv_iload_n hx hb dX2_wrapped_6 rfl (lv_at hl 0 rfl) ?_
    refine lv_iconst (v := 2) hx hb dX2_wrapped_7 (by decide) ?_
    refine lv_iload_n hx hb dX2_wrapped_8 rfl (lv_at hl 1 rfl) ?_
    refine lv_imul hx hb dX2_wrapped_9 ?_
    refine lv_iadd hx hb dX2_wrapped_10 ?_
    refine xrwi (z := (wrp v m9)) (by simp [wrp, c_3]) ?_
    exact xri (Q9 := fun _ _ _ _ => True) hF hr hlk hP hD hS dX2_wrapped_11

set_option maxHeartbeats 4000000 in
set_option maxRecDepth 100000 in
theorem c_X2_move (l : Launch) (D : va_G) (cs : Nat → ClassId) (tt : Nat → Nat) (o pa mo : Nat) (wh : Int32) (V M : Nat → Int32) (k : Nat) (dx dy : Int32) (hk : k < 2) : xM l yX2_move wsX2_move ({ frames := 1, cells := 0, slots := 0, locals := 21 } : Room) D cs tt [.ref o, .int (nI k), .int dx, .int dy] [(o, .inr (2, [.ref pa, .ref mo, .int wh])), (pa, .inl (cs 0, 4, .inl V)), (mo, .inl (cs 0, 2, .inl M))] none [(o, .inr (2, [.ref pa, .ref mo, .int wh])), (pa, .inl (cs 0, 4, .inl (mov V k (M k) dx dy))), (mo, .inl (cs 0, 2, .inl M))] := by
  refine xM.of RX2 rfl (by decide) rfl (Nat.le_of_ble_eq_true rfl) ?_
  intro p e s m below meth c A ls hF hr hlk hX hP hD hS hl
  have hx := hF.1
  have hb := hF.2.1
  have hl : lv_has ls 5 [(0, .ref o), (1, .int (nI k)), (2, .int dx), (3, .int dy)] := hl
  refine lv_iconst (v := 2) hx hb dX2_move_0 (by decide) ?_
  refine lv_iload_n hx hb dX2_move_1 rfl (lv_at hl 1 rfl) ?_
  refine lv_imul hx hb dX2_move_2 ?_
  refine xrwi (z := nI (2 * k)) (pk_mul 2 k) ?_
  refine lv_istore (lv' := [(4, .int (nI (2 * k))), (0, .ref o), (1, .int (nI k)), (2, .int dx), (3, .int dy)]) hx hb dX2_move_3 hl (by decide) rfl (fun ls hl => ?_)
  refine lv_aload_n hx hb dX2_move_5 rfl (lv_at hl 1 rfl) ?_
  refine xget (C := RX2) (T := TX2) (N := 3) hF hX hP (by decide +kernel) 0 0 rfl rfl (by decide) (by decide +kernel) rfl dX2_move_6 ?_
  refine lv_iload hx hb dX2_move_9 (lv_at hl 0 rfl) ?_
  refine lv_aload_n hx hb dX2_move_11 rfl (lv_at hl 1 rfl) ?_
  refine xget (C := RX2) (T := TX2) (N := 3) hF hX hP (by decide +kernel) 0 0 rfl rfl (by decide) (by decide +kernel) rfl dX2_move_12 ?_
  refine lv_iload hx hb dX2_move_15 (lv_at hl 0 rfl) ?_
  refine xald (k := 2 * k) hF hX hP 1 rfl (nI_clamp (by omega)) (vp_in_nI (by omega) (by omega)) dX2_move_17 ?_
  refine lv_iload_n hx hb dX2_move_18 rfl (lv_at hl 3 rfl) ?_
  refine lv_iadd hx hb dX2_move_19 ?_
  refine lv_aload_n hx hb dX2_move_20 rfl (lv_at hl 1 rfl) ?_
  refine xget (C := RX2) (T := TX2) (N := 3) hF hX hP (by decide +kernel) 0 1 rfl rfl (by decide) (by decide +kernel) rfl dX2_move_21 ?_
  refine lv_iload_n hx hb dX2_move_24 rfl (lv_at hl 2 rfl) ?_
  refine xald (k := k) hF hX hP 2 rfl (nI_clamp (by omega)) (vp_in_nI (by omega) (by omega)) dX2_move_25 ?_
  refine xSt (rest := [.int (nI (2 * k)), .ref pa]) (As := [.int ((V (2 * k)) + dx), .int (M k)]) (ws1 := [(o, .inr (2, [.ref pa, .ref mo, .int wh])), (pa, .inl (cs 0, 4, .inl V)), (mo, .inl (cs 0, 2, .inl M))]) (st1 := [.int (wrp ((V (2 * k)) + dx) (M k)), .int (nI (2 * k)), .ref pa]) hF (c_X2_wrapped l D cs tt ((V (2 * k)) + dx) (M k)) gX2_move_X2_wrapped rfl (n := 2) (by decide +kernel) rfl ⟨⟨rfl, rfl⟩, Nat.le_of_ble_eq_true rfl, Nat.le_of_ble_eq_true rfl⟩ ⟨Nat.le_of_ble_eq_true rfl, Nat.le_of_ble_eq_true rfl⟩ hX hP hD hS [] (by decide) rfl [] rfl rfl hl.1 rfl (Nat.le_of_ble_eq_true rfl) dX2_move_26 rfl rfl (fun Hp locs hP hD hS => ?_)
  refine xast (k := 2 * k) (ws1 := [(o, .inr (2, [.ref pa, .ref mo, .int wh])), (pa, .inl (cs 0, 4, .inl (upd V (2 * k) (wrp ((V (2 * k)) + dx) (M k))))), (mo, .inl (cs 0, 2, .inl M))]) hF hX hP hD hS 1 rfl (nI_clamp (by omega)) (vp_in_nI (by omega) (by omega)) dX2_move_29 rfl (fun Hp locs hP hD hS => ?_)
  refine lv_aload_n hx hb dX2_move_30 rfl (lv_at hl 1 rfl) ?_
  refine xget (C := RX2) (T := TX2) (N := 3) hF hX hP (by decide +kernel) 0 0 rfl rfl (by decide) (by decide +kernel) rfl dX2_move_31 ?_
  refine lv_iload hx hb dX2_move_34 (lv_at hl 0 rfl) ?_
  refine lv_iconst (v := 1) hx hb dX2_move_36 (by decide) ?_
  refine lv_iadd hx hb dX2_move_37 ?_
  refine xrwi (z := nI (2 * k + 1)) (nI_1 _) ?_
  refine lv_aload_n hx hb dX2_move_38 rfl (lv_at hl 1 rfl) ?_
  refine xget (C := RX2) (T := TX2) (N := 3) hF hX hP (by decide +kernel) 0 0 rfl rfl (by decide) (by decide +kernel) rfl dX2_move_39 ?_
  refine lv_iload hx hb dX2_move_42 (lv_at hl 0 rfl) ?_
  refine lv_iconst (v := 1) hx hb dX2_move_44 (by decide) ?_
  refine lv_iadd hx hb dX2_move_45 ?_
  refine xrwi (z := nI (2 * k + 1)) (nI_1 _) ?_
  refine xald (k := 2 * k + 1) hF hX hP 1 rfl (nI_clamp (by omega)) (vp_in_nI (by omega) (by omega)) dX2_move_46 ?_
  refine xrwi (z := V (2 * k + 1)) (pk_un (by omega)) ?_
  refine lv_iload_n hx hb dX2_move_47 rfl (lv_at hl 4 rfl) ?_
  refine lv_iadd hx hb dX2_move_48 ?_
  refine lv_aload_n hx hb dX2_move_49 rfl (lv_at hl 1 rfl) ?_
  refine xget (C := RX2) (T := TX2) (N := 3) hF hX hP (by decide +kernel) 0 1 rfl rfl (by decide) (by decide +kernel) rfl dX2_move_50 ?_
  refine lv_iload_n hx hb dX2_move_53 rfl (lv_at hl 2 rfl) ?_
  refine xald (k := k) hF hX hP 2 rfl (nI_clamp (by omega)) (vp_in_nI (by omega) (by omega)) dX2_move_54 ?_
  refine xSt (rest := [.int (nI (2 * k + 1)), .ref pa]) (As := [.int (V (2 * k + 1) + dy), .int (M k)]) (ws1 := [(o, .inr (2, [.ref pa, .ref mo, .int wh])), (pa, .inl (cs 0, 4, .inl (upd V (2 * k) (wrp ((V (2 * k)) + dx) (M k))))), (mo, .inl (cs 0, 2, .inl M))]) (st1 := [.int (wrp (V (2 * k + 1) + dy) (M k)), .int (nI (2 * k + 1)), .ref pa]) hF (c_X2_wrapped l D cs tt (V (2 * k + 1) + dy) (M k)) gX2_move_X2_wrapped rfl (n := 2) (by decide +kernel) rfl ⟨⟨rfl, rfl⟩, Nat.le_of_ble_eq_true rfl, Nat.le_of_ble_eq_true rfl⟩ ⟨Nat.le_of_ble_eq_true rfl, Nat.le_of_ble_eq_true rfl⟩ hX hP hD hS [] (by decide) rfl [] rfl rfl hl.1 rfl (Nat.le_of_ble_eq_true rfl) dX2_move_55 rfl rfl (fun Hp locs hP hD hS => ?_)
  refine xast (k := 2 * k + 1) (ws1 := [(o, .inr (2, [.ref pa, .ref mo, .int wh])), (pa, .inl (cs 0, 4, .inl (upd (upd V (2 * k) (wrp ((V (2 * k)) + dx) (M k))) (2 * k + 1) (wrp (V (2 * k + 1) + dy) (M k))))), (mo, .inl (cs 0, 2, .inl M))]) hF hX hP hD hS 1 rfl (nI_clamp (by omega)) (vp_in_nI (by omega) (by omega)) dX2_move_58 rfl (fun Hp locs hP hD hS => ?_)
  exact xrv hF hr hlk hP hD hS dX2_move_59

set_option maxHeartbeats 4000000 in
set_option maxRecDepth 100000 in
theorem c_X2_used (l : Launch) (D : va_G) (cs : Nat → ClassId) (tt : Nat → Nat) (o pa mo : Nat) (wh : Int32) (V M : Nat → Int32) (q : Nat) (p9 : Int32) (hq : q < 4) : xM l yX2_used wsX2_used ({ frames := 0, cells := 0, slots := 0, locals := 0 } : Room) D cs tt [.ref o, .int p9, .int (nI q)] [(o, .inr (2, [.ref pa, .ref mo, .int wh])), (pa, .inl (cs 0, 4, .inl V))] (some (.int (usd wh (V q) p9))) [(o, .inr (2, [.ref pa, .ref mo, .int wh])), (pa, .inl (cs 0, 4, .inl V))] := by
  refine xM.of RX2 rfl (by decide) rfl (Nat.le_of_ble_eq_true rfl) ?_
  intro p e s m below meth c A ls hF hr hlk hX hP hD hS hl
  have hx := hF.1
  have hb := hF.2.1
  have hl : lv_has ls 4 [(0, .ref o), (1, .int p9), (2, .int (nI q))] := hl
  refine lv_aload_n hx hb dX2_used_0 rfl (lv_at hl 0 rfl) ?_
  refine xget (C := RX2) (T := TX2) (N := 3) hF hX hP (by decide +kernel) 0 2 rfl rfl (by decide) (by decide +kernel) rfl dX2_used_1 ?_
  refine lv_if_eq (tgt := 18) hx hb dX2_used_4 (by decide) (fun c_4 => ?_) (fun c_4 => ?_)
  · refine lv_aload_n hx hb dX2_used_18 rfl (lv_at hl 0 rfl) ?_
    refine xget (C := RX2) (T := TX2) (N := 3) hF hX hP (by decide +kernel) 0 0 rfl rfl (by decide) (by decide +kernel) rfl dX2_used_19 ?_
    refine lv_iload_n hx hb dX2_used_22 rfl (lv_at hl 2 rfl) ?_
    refine xald (k := q) hF hX hP 1 rfl (nI_clamp (by omega)) (vp_in_nI (by omega) (by omega)) dX2_used_23 ?_
    refine lv_istore_n (lv' := [(3, .int (V q)), (0, .ref o), (1, .int p9), (2, .int (nI q))]) hx hb dX2_used_24 rfl hl (by decide) rfl (fun ls hl => ?_)
    refine lv_iload_n hx hb dX2_used_25 rfl (lv_at hl 2 rfl) ?_
    refine lv_if_ne (tgt := 33) hx hb dX2_used_26 (by decide) (fun c_26 => ?_) (fun c_26 => ?_)
    · refine lv_iload_n hx hb dX2_used_33 rfl (lv_at hl 0 rfl) ?_
      refine lv_iconst (v := 2) hx hb dX2_used_34 (by decide) ?_
      refine lv_idiv hx hb dX2_used_35 (by decide) ?_
      refine xrwi (z := (usd wh (V q) p9)) (by simp [usd, c_4, c_26]) ?_
      exact xri (Q9 := fun _ _ _ _ => True) hF hr hlk hP hD hS dX2_used_36
    · refine lv_iload_n hx hb dX2_used_29 rfl (lv_at hl 0 rfl) ?_
      refine lv_goto (tgt := 36) hx hb dX2_used_30 (by decide) ?_
      refine xrwi (z := (usd wh (V q) p9)) (by simp [usd, c_4, c_26]) ?_
      exact xri (Q9 := fun _ _ _ _ => True) hF hr hlk hP hD hS dX2_used_36
  · refine lv_iconst (v := 2) hx hb dX2_used_7 (by decide) ?_
    refine lv_aload_n hx hb dX2_used_8 rfl (lv_at hl 0 rfl) ?_
    refine xget (C := RX2) (T := TX2) (N := 3) hF hX hP (by decide +kernel) 0 0 rfl rfl (by decide) (by decide +kernel) rfl dX2_used_9 ?_
    refine lv_iload_n hx hb dX2_used_12 rfl (lv_at hl 2 rfl) ?_
    refine xald (k := q) hF hX hP 1 rfl (nI_clamp (by omega)) (vp_in_nI (by omega) (by omega)) dX2_used_13 ?_
    refine lv_imul hx hb dX2_used_14 ?_
    refine lv_goto (tgt := 24) hx hb dX2_used_15 (by decide) ?_
    refine lv_istore_n (lv' := [(3, .int (2 * (V q))), (0, .ref o), (1, .int p9), (2, .int (nI q))]) hx hb dX2_used_24 rfl hl (by decide) rfl (fun ls hl => ?_)
    refine lv_iload_n hx hb dX2_used_25 rfl (lv_at hl 2 rfl) ?_
    refine lv_if_ne (tgt := 33) hx hb dX2_used_26 (by decide) (fun c_26 => ?_) (fun c_26 => ?_)
    · refine lv_iload_n hx hb dX2_used_33 rfl (lv_at hl 0 rfl) ?_
      refine lv_iconst (v := 2) hx hb dX2_used_34 (by decide) ?_
      refine lv_idiv hx hb dX2_used_35 (by decide) ?_
      refine xrwi (z := (usd wh (V q) p9)) (by simp [usd, c_4, c_26]) ?_
      exact xri (Q9 := fun _ _ _ _ => True) hF hr hlk hP hD hS dX2_used_36
    · refine lv_iload_n hx hb dX2_used_29 rfl (lv_at hl 0 rfl) ?_
      refine lv_goto (tgt := 36) hx hb dX2_used_30 (by decide) ?_
      refine xrwi (z := (usd wh (V q) p9)) (by simp [usd, c_4, c_26]) ?_
      exact xri (Q9 := fun _ _ _ _ => True) hF hr hlk hP hD hS dX2_used_36

set_option maxHeartbeats 4000000 in
set_option maxRecDepth 100000 in
theorem c_X1_clear (l : Launch) (D : va_G) (cs : Nat → ClassId) (tt : Nat → Nat) (o lv : Nat) (Lv : Nat → Int32) (fi di an : Int32)  : xM l yX1_clear wsX1_clear ({ frames := 1, cells := 0, slots := 0, locals := 23 } : Room) D cs tt [.ref o] [(o, .inr (1, [.ref lv, .int fi, .int di, .int an])), (lv, .inl (cs 0, 384, .inl Lv))] none [(o, .inr (1, [.ref lv, .int 0, .int 0, .int 0])), (lv, .inl (cs 0, 384, .inl (fun _ => 0)))] := by
  refine xM.of RX1 rfl (by decide) rfl (Nat.le_of_ble_eq_true rfl) ?_
  intro p e s m below meth c A ls hF hr hlk hX hP hD hS hl
  have hx := hF.1
  have hb := hF.2.1
  have hl : lv_has ls 1 [(0, .ref o)] := hl
  refine lv_aload_n hx hb dX1_clear_0 rfl (lv_at hl 0 rfl) ?_
  refine xget (C := RX1) (T := TX1) (N := 4) hF hX hP (by decide +kernel) 0 0 rfl rfl (by decide) (by decide +kernel) rfl dX1_clear_1 ?_
  refine lv_iconst (v := 0) hx hb dX1_clear_4 (by decide) ?_
  refine xSt (rest := []) (As := [.ref lv, .int 0]) (ws1 := [(o, .inr (1, [.ref lv, .int fi, .int di, .int an])), (lv, .inl (cs 0, 384, .inl (fun _ => 0)))]) (st1 := []) hF (c_J7_fill_53178 l D cs tt lv 384 Lv 0 (by decide)) gX1_clear_J7_fill_53178 rfl (n := 2) (by decide +kernel) rfl ⟨⟨rfl, rfl⟩, Nat.le_of_ble_eq_true rfl, Nat.le_of_ble_eq_true rfl⟩ ⟨Nat.le_of_ble_eq_true rfl, Nat.le_of_ble_eq_true rfl⟩ hX hP hD hS [1] (by decide) rfl [lv] rfl rfl hl.1 rfl (Nat.le_of_ble_eq_true rfl) dX1_clear_5 rfl rfl (fun Hp locs hP hD hS => ?_)
  refine lv_aload_n hx hb dX1_clear_8 rfl (lv_at hl 0 rfl) ?_
  refine lv_iconst (v := 0) hx hb dX1_clear_9 (by decide) ?_
  refine xputf (C := RX1) (T := TX1) (N := 4) (ws1 := [(o, .inr (1, [.ref lv, .int 0, .int di, .int an])), (lv, .inl (cs 0, 384, .inl (fun _ => 0)))]) hF hX hP hD hS (by decide +kernel) tyX1 tyX1_ok nmX1 0 1 rfl rfl (by decide) (by decide +kernel) rfl (rfl) (rfl) (Nat.le_of_ble_eq_true rfl) dX1_clear_10 rfl (fun Hp locs hP hD hS => ?_)
  refine lv_aload_n hx hb dX1_clear_13 rfl (lv_at hl 0 rfl) ?_
  refine lv_iconst (v := 0) hx hb dX1_clear_14 (by decide) ?_
  refine xputf (C := RX1) (T := TX1) (N := 4) (ws1 := [(o, .inr (1, [.ref lv, .int 0, .int 0, .int an])), (lv, .inl (cs 0, 384, .inl (fun _ => 0)))]) hF hX hP hD hS (by decide +kernel) tyX1 tyX1_ok nmX1 0 2 rfl rfl (by decide) (by decide +kernel) rfl (rfl) (rfl) (Nat.le_of_ble_eq_true rfl) dX1_clear_15 rfl (fun Hp locs hP hD hS => ?_)
  refine lv_aload_n hx hb dX1_clear_18 rfl (lv_at hl 0 rfl) ?_
  refine lv_iconst (v := 0) hx hb dX1_clear_19 (by decide) ?_
  refine xputf (C := RX1) (T := TX1) (N := 4) (ws1 := [(o, .inr (1, [.ref lv, .int 0, .int 0, .int 0])), (lv, .inl (cs 0, 384, .inl (fun _ => 0)))]) hF hX hP hD hS (by decide +kernel) tyX1 tyX1_ok nmX1 0 3 rfl rfl (by decide) (by decide +kernel) rfl (rfl) (rfl) (Nat.le_of_ble_eq_true rfl) dX1_clear_20 rfl (fun Hp locs hP hD hS => ?_)
  exact xrv hF hr hlk hP hD hS dX1_clear_23

set_option maxHeartbeats 4000000 in
set_option maxRecDepth 100000 in
theorem c_X3_clear (l : Launch) (D : va_G) (cs : Nat → ClassId) (tt : Nat → Nat) (o pa p0 p1 p2 a0 a1 a2 W H : Nat) (g0 g1 g2 : Nat → Int32) (w h : Nat)  : xM l yX3_clear wsX3_clear ({ frames := 2, cells := 0, slots := 0, locals := 45 } : Room) D cs tt [.ref o, .int (nI w), .int (nI h)] [(o, .inr (3, [.ref pa])), (pa, .inl (cs 2, 3, .inr (.inr (.inr (.inr (tri p0 p1 p2)))))), (p0, .inr (4, [.int (nI 16), .ref a0, .int (nI (16 * W)), .int (nI (16 * H))])), (a0, .inl (cs 0, 3072, .inl g0)), (p1, .inr (4, [.int (nI 8), .ref a1, .int (nI (8 * W)), .int (nI (8 * H))])), (a1, .inl (cs 0, 768, .inl g1)), (p2, .inr (4, [.int (nI 8), .ref a2, .int (nI (8 * W)), .int (nI (8 * H))])), (a2, .inl (cs 0, 768, .inl g2))] none [(o, .inr (3, [.ref pa])), (pa, .inl (cs 2, 3, .inr (.inr (.inr (.inr (tri p0 p1 p2)))))), (p0, .inr (4, [.int (nI 16), .ref a0, .int (nI (16 * w)), .int (nI (16 * h))])), (a0, .inl (cs 0, 3072, .inl (fun _ => 128))), (p1, .inr (4, [.int (nI 8), .ref a1, .int (nI (8 * w)), .int (nI (8 * h))])), (a1, .inl (cs 0, 768, .inl (fun _ => 128))), (p2, .inr (4, [.int (nI 8), .ref a2, .int (nI (8 * w)), .int (nI (8 * h))])), (a2, .inl (cs 0, 768, .inl (fun _ => 128)))] := by
  refine xM.of RX3 rfl (by decide) rfl (Nat.le_of_ble_eq_true rfl) ?_
  intro p e s m below meth c A ls hF hr hlk hX hP hD hS hl
  have hx := hF.1
  have hb := hF.2.1
  have hl : lv_has ls 4 [(0, .ref o), (1, .int (nI w)), (2, .int (nI h))] := hl
  refine lv_iconst (v := 0) hx hb dX3_clear_0 (by decide) ?_
  refine lv_istore_n (lv' := [(3, .int 0), (0, .ref o), (1, .int (nI w)), (2, .int (nI h))]) hx hb dX3_clear_1 rfl hl (by decide) rfl (fun ls hl => ?_)
  refine lv_iload_n hx hb dX3_clear_2 rfl (lv_at hl 0 rfl) ?_
  refine lv_iconst (v := 3) hx hb dX3_clear_3 (by decide) ?_
  refine lv_icmp_ge (tgt := 24) hx hb dX3_clear_4 (by decide) (fun c_4 => absurd c_4 (by decide)) (fun _ => ?_)
  refine lv_aload_n hx hb dX3_clear_7 rfl (lv_at hl 1 rfl) ?_
  refine xget (C := RX3) (T := TX3) (N := 1) hF hX hP (by decide +kernel) 0 0 rfl rfl (by decide) (by decide +kernel) rfl dX3_clear_8 ?_
  refine lv_iload_n hx hb dX3_clear_11 rfl (lv_at hl 0 rfl) ?_
  refine xaald (k := 0) (v := p0) hF hX hP 1 rfl (rfl) (vp_in_nI (n := 0) (by decide) (by decide)) (rfl) dX3_clear_12 ?_
  refine lv_iload_n hx hb dX3_clear_13 rfl (lv_at hl 2 rfl) ?_
  refine lv_iload_n hx hb dX3_clear_14 rfl (lv_at hl 3 rfl) ?_
  refine xVM [false, false, true, true, false, false, false, false] (rest := []) (As := [.int (nI w), .int (nI h)]) (ws1 := [(o, .inr (3, [.ref pa])), (pa, .inl (cs 2, 3, .inr (.inr (.inr (.inr (tri p0 p1 p2)))))), (p0, .inr (4, [.int (nI 16), .ref a0, .int (nI (16 * w)), .int (nI (16 * h))])), (a0, .inl (cs 0, 3072, .inl (fun _ => 128))), (p1, .inr (4, [.int (nI 8), .ref a1, .int (nI (8 * W)), .int (nI (8 * H))])), (a1, .inl (cs 0, 768, .inl g1)), (p2, .inr (4, [.int (nI 8), .ref a2, .int (nI (8 * W)), .int (nI (8 * H))])), (a2, .inl (cs 0, 768, .inl g2))]) (st1 := []) hF (c_X4_clear l D cs tt p0 a0 16 (16 * W) (16 * H) 3072 w h g0 (by decide)) gX3_clear_X4_clear rfl (n := 2) (by decide +kernel) rfl ⟨⟨rfl, rfl⟩, Nat.le_of_ble_eq_true rfl, Nat.le_of_ble_eq_true rfl⟩ ⟨Nat.le_of_ble_eq_true rfl, Nat.le_of_ble_eq_true rfl⟩ hX hP hD hS rfl [p0, a0] rfl rfl (q0 := 2) (ci := 4) rfl rfl rfl hl.1 rfl (Nat.le_of_ble_eq_true rfl) dX3_clear_15 rfl rfl (fun Hp locs hP hD hS => ?_)
  refine lv_iinc (v := 1) (lv' := [(3, .int 1), (0, .ref o), (1, .int (nI w)), (2, .int (nI h))]) hx hb dX3_clear_18 hl (k := 0) rfl (rfl) (by decide) rfl (fun ls hl => ?_)
  refine lv_goto (tgt := 2) hx hb dX3_clear_21 (by decide) ?_
  refine lv_iload_n hx hb dX3_clear_2 rfl (lv_at hl 0 rfl) ?_
  refine lv_iconst (v := 3) hx hb dX3_clear_3 (by decide) ?_
  refine lv_icmp_ge (tgt := 24) hx hb dX3_clear_4 (by decide) (fun c_4 => absurd c_4 (by decide)) (fun _ => ?_)
  refine lv_aload_n hx hb dX3_clear_7 rfl (lv_at hl 1 rfl) ?_
  refine xget (C := RX3) (T := TX3) (N := 1) hF hX hP (by decide +kernel) 0 0 rfl rfl (by decide) (by decide +kernel) rfl dX3_clear_8 ?_
  refine lv_iload_n hx hb dX3_clear_11 rfl (lv_at hl 0 rfl) ?_
  refine xaald (k := 1) (v := p1) hF hX hP 1 rfl (rfl) (vp_in_nI (n := 1) (by decide) (by decide)) (rfl) dX3_clear_12 ?_
  refine lv_iload_n hx hb dX3_clear_13 rfl (lv_at hl 2 rfl) ?_
  refine lv_iload_n hx hb dX3_clear_14 rfl (lv_at hl 3 rfl) ?_
  refine xVM [false, false, false, false, true, true, false, false] (rest := []) (As := [.int (nI w), .int (nI h)]) (ws1 := [(o, .inr (3, [.ref pa])), (pa, .inl (cs 2, 3, .inr (.inr (.inr (.inr (tri p0 p1 p2)))))), (p0, .inr (4, [.int (nI 16), .ref a0, .int (nI (16 * w)), .int (nI (16 * h))])), (a0, .inl (cs 0, 3072, .inl (fun _ => 128))), (p1, .inr (4, [.int (nI 8), .ref a1, .int (nI (8 * w)), .int (nI (8 * h))])), (a1, .inl (cs 0, 768, .inl (fun _ => 128))), (p2, .inr (4, [.int (nI 8), .ref a2, .int (nI (8 * W)), .int (nI (8 * H))])), (a2, .inl (cs 0, 768, .inl g2))]) (st1 := []) hF (c_X4_clear l D cs tt p1 a1 8 (8 * W) (8 * H) 768 w h g1 (by decide)) gX3_clear_X4_clear rfl (n := 2) (by decide +kernel) rfl ⟨⟨rfl, rfl⟩, Nat.le_of_ble_eq_true rfl, Nat.le_of_ble_eq_true rfl⟩ ⟨Nat.le_of_ble_eq_true rfl, Nat.le_of_ble_eq_true rfl⟩ hX hP hD hS rfl [p1, a1] rfl rfl (q0 := 4) (ci := 4) rfl rfl rfl hl.1 rfl (Nat.le_of_ble_eq_true rfl) dX3_clear_15 rfl rfl (fun Hp locs hP hD hS => ?_)
  refine lv_iinc (v := 2) (lv' := [(3, .int 2), (0, .ref o), (1, .int (nI w)), (2, .int (nI h))]) hx hb dX3_clear_18 hl (k := 0) rfl (rfl) (by decide) rfl (fun ls hl => ?_)
  refine lv_goto (tgt := 2) hx hb dX3_clear_21 (by decide) ?_
  refine lv_iload_n hx hb dX3_clear_2 rfl (lv_at hl 0 rfl) ?_
  refine lv_iconst (v := 3) hx hb dX3_clear_3 (by decide) ?_
  refine lv_icmp_ge (tgt := 24) hx hb dX3_clear_4 (by decide) (fun c_4 => absurd c_4 (by decide)) (fun _ => ?_)
  refine lv_aload_n hx hb dX3_clear_7 rfl (lv_at hl 1 rfl) ?_
  refine xget (C := RX3) (T := TX3) (N := 1) hF hX hP (by decide +kernel) 0 0 rfl rfl (by decide) (by decide +kernel) rfl dX3_clear_8 ?_
  refine lv_iload_n hx hb dX3_clear_11 rfl (lv_at hl 0 rfl) ?_
  refine xaald (k := 2) (v := p2) hF hX hP 1 rfl (rfl) (vp_in_nI (n := 2) (by decide) (by decide)) (rfl) dX3_clear_12 ?_
  refine lv_iload_n hx hb dX3_clear_13 rfl (lv_at hl 2 rfl) ?_
  refine lv_iload_n hx hb dX3_clear_14 rfl (lv_at hl 3 rfl) ?_
  refine xVM [false, false, false, false, false, false, true, true] (rest := []) (As := [.int (nI w), .int (nI h)]) (ws1 := [(o, .inr (3, [.ref pa])), (pa, .inl (cs 2, 3, .inr (.inr (.inr (.inr (tri p0 p1 p2)))))), (p0, .inr (4, [.int (nI 16), .ref a0, .int (nI (16 * w)), .int (nI (16 * h))])), (a0, .inl (cs 0, 3072, .inl (fun _ => 128))), (p1, .inr (4, [.int (nI 8), .ref a1, .int (nI (8 * w)), .int (nI (8 * h))])), (a1, .inl (cs 0, 768, .inl (fun _ => 128))), (p2, .inr (4, [.int (nI 8), .ref a2, .int (nI (8 * w)), .int (nI (8 * h))])), (a2, .inl (cs 0, 768, .inl (fun _ => 128)))]) (st1 := []) hF (c_X4_clear l D cs tt p2 a2 8 (8 * W) (8 * H) 768 w h g2 (by decide)) gX3_clear_X4_clear rfl (n := 2) (by decide +kernel) rfl ⟨⟨rfl, rfl⟩, Nat.le_of_ble_eq_true rfl, Nat.le_of_ble_eq_true rfl⟩ ⟨Nat.le_of_ble_eq_true rfl, Nat.le_of_ble_eq_true rfl⟩ hX hP hD hS rfl [p2, a2] rfl rfl (q0 := 6) (ci := 4) rfl rfl rfl hl.1 rfl (Nat.le_of_ble_eq_true rfl) dX3_clear_15 rfl rfl (fun Hp locs hP hD hS => ?_)
  refine lv_iinc (v := 3) (lv' := [(3, .int 3), (0, .ref o), (1, .int (nI w)), (2, .int (nI h))]) hx hb dX3_clear_18 hl (k := 0) rfl (rfl) (by decide) rfl (fun ls hl => ?_)
  refine lv_goto (tgt := 2) hx hb dX3_clear_21 (by decide) ?_
  refine lv_iload_n hx hb dX3_clear_2 rfl (lv_at hl 0 rfl) ?_
  refine lv_iconst (v := 3) hx hb dX3_clear_3 (by decide) ?_
  refine lv_icmp_ge (tgt := 24) hx hb dX3_clear_4 (by decide) (fun _ => ?_) (fun c_4 => absurd (by decide) c_4)
  exact xrv hF hr hlk hP hD hS dX3_clear_24

set_option maxHeartbeats 4000000 in
set_option maxRecDepth 100000 in
theorem c_X3_copyFrom (l : Launch) (D : va_G) (cs : Nat → ClassId) (tt : Nat → Nat) (o pa p0 p1 p2 a0 a1 a2 W H : Nat) (g0 g1 g2 : Nat → Int32) (q qa q0 q1 q2 b0 b1 b2 : Nat) (h0 h1 h2 : Nat → Int32) (hw : 1 ≤ W) (hw4 : W ≤ 4) (hh : 1 ≤ H) (hh3 : H ≤ 3) : xM l yX3_copyFrom wsX3_copyFrom ({ frames := 2, cells := 0, slots := 0, locals := 61 } : Room) D cs tt [.ref o, .ref q] [(o, .inr (3, [.ref pa])), (pa, .inl (cs 2, 3, .inr (.inr (.inr (.inr (tri p0 p1 p2)))))), (p0, .inr (4, [.int (nI 16), .ref a0, .int (nI (16 * W)), .int (nI (16 * H))])), (a0, .inl (cs 0, 3072, .inl g0)), (p1, .inr (4, [.int (nI 8), .ref a1, .int (nI (8 * W)), .int (nI (8 * H))])), (a1, .inl (cs 0, 768, .inl g1)), (p2, .inr (4, [.int (nI 8), .ref a2, .int (nI (8 * W)), .int (nI (8 * H))])), (a2, .inl (cs 0, 768, .inl g2)), (q, .inr (3, [.ref qa])), (qa, .inl (cs 2, 3, .inr (.inr (.inr (.inr (tri q0 q1 q2)))))), (q0, .inr (4, [.int (nI 16), .ref b0, .int (nI (16 * W)), .int (nI (16 * H))])), (b0, .inl (cs 0, 3072, .inl h0)), (q1, .inr (4, [.int (nI 8), .ref b1, .int (nI (8 * W)), .int (nI (8 * H))])), (b1, .inl (cs 0, 768, .inl h1)), (q2, .inr (4, [.int (nI 8), .ref b2, .int (nI (8 * W)), .int (nI (8 * H))])), (b2, .inl (cs 0, 768, .inl h2))] none [(o, .inr (3, [.ref pa])), (pa, .inl (cs 2, 3, .inr (.inr (.inr (.inr (tri p0 p1 p2)))))), (p0, .inr (4, [.int (nI 16), .ref a0, .int (nI (16 * W)), .int (nI (16 * H))])), (a0, .inl (cs 0, 3072, .inl (va_cpy h0 g0 0 0 (16 * W * (16 * H))))), (p1, .inr (4, [.int (nI 8), .ref a1, .int (nI (8 * W)), .int (nI (8 * H))])), (a1, .inl (cs 0, 768, .inl (va_cpy h1 g1 0 0 (8 * W * (8 * H))))), (p2, .inr (4, [.int (nI 8), .ref a2, .int (nI (8 * W)), .int (nI (8 * H))])), (a2, .inl (cs 0, 768, .inl (va_cpy h2 g2 0 0 (8 * W * (8 * H))))), (q, .inr (3, [.ref qa])), (qa, .inl (cs 2, 3, .inr (.inr (.inr (.inr (tri q0 q1 q2)))))), (q0, .inr (4, [.int (nI 16), .ref b0, .int (nI (16 * W)), .int (nI (16 * H))])), (b0, .inl (cs 0, 3072, .inl h0)), (q1, .inr (4, [.int (nI 8), .ref b1, .int (nI (8 * W)), .int (nI (8 * H))])), (b1, .inl (cs 0, 768, .inl h1)), (q2, .inr (4, [.int (nI 8), .ref b2, .int (nI (8 * W)), .int (nI (8 * H))])), (b2, .inl (cs 0, 768, .inl h2))] := by
  refine xM.of RX3 rfl (by decide) rfl (Nat.le_of_ble_eq_true rfl) ?_
  intro p e s m below meth c A ls hF hr hlk hX hP hD hS hl
  have hx := hF.1
  have hb := hF.2.1
  have hl : lv_has ls 3 [(0, .ref o), (1, .ref q)] := hl
  refine lv_iconst (v := 0) hx hb dX3_copyFrom_0 (by decide) ?_
  refine lv_istore_n (lv' := [(2, .int 0), (0, .ref o), (1, .ref q)]) hx hb dX3_copyFrom_1 rfl hl (by decide) rfl (fun ls hl => ?_)
  refine lv_iload_n hx hb dX3_copyFrom_2 rfl (lv_at hl 0 rfl) ?_
  refine lv_iconst (v := 3) hx hb dX3_copyFrom_3 (by decide) ?_
  refine lv_icmp_ge (tgt := 28) hx hb dX3_copyFrom_4 (by decide) (fun c_4 => absurd c_4 (by decide)) (fun _ => ?_)
  refine lv_aload_n hx hb dX3_copyFrom_7 rfl (lv_at hl 1 rfl) ?_
  refine xget (C := RX3) (T := TX3) (N := 1) hF hX hP (by decide +kernel) 0 0 rfl rfl (by decide) (by decide +kernel) rfl dX3_copyFrom_8 ?_
  refine lv_iload_n hx hb dX3_copyFrom_11 rfl (lv_at hl 0 rfl) ?_
  refine xaald (k := 0) (v := p0) hF hX hP 1 rfl (rfl) (vp_in_nI (n := 0) (by decide) (by decide)) (rfl) dX3_copyFrom_12 ?_
  refine lv_aload_n hx hb dX3_copyFrom_13 rfl (lv_at hl 2 rfl) ?_
  refine xget (C := RX3) (T := TX3) (N := 1) hF hX hP (by decide +kernel) 8 0 rfl rfl (by decide) (by decide +kernel) rfl dX3_copyFrom_14 ?_
  refine lv_iload_n hx hb dX3_copyFrom_17 rfl (lv_at hl 0 rfl) ?_
  refine xaald (k := 0) (v := q0) hF hX hP 9 rfl (rfl) (vp_in_nI (n := 0) (by decide) (by decide)) (rfl) dX3_copyFrom_18 ?_
  refine xVM [false, false, true, true, false, false, false, false, false, false, true, true, false, false, false, false] (rest := []) (As := [.ref q0]) (ws1 := [(o, .inr (3, [.ref pa])), (pa, .inl (cs 2, 3, .inr (.inr (.inr (.inr (tri p0 p1 p2)))))), (p0, .inr (4, [.int (nI 16), .ref a0, .int (nI (16 * W)), .int (nI (16 * H))])), (a0, .inl (cs 0, 3072, .inl (va_cpy h0 g0 0 0 ((16 * W) * (16 * H))))), (p1, .inr (4, [.int (nI 8), .ref a1, .int (nI (8 * W)), .int (nI (8 * H))])), (a1, .inl (cs 0, 768, .inl g1)), (p2, .inr (4, [.int (nI 8), .ref a2, .int (nI (8 * W)), .int (nI (8 * H))])), (a2, .inl (cs 0, 768, .inl g2)), (q, .inr (3, [.ref qa])), (qa, .inl (cs 2, 3, .inr (.inr (.inr (.inr (tri q0 q1 q2)))))), (q0, .inr (4, [.int (nI 16), .ref b0, .int (nI (16 * W)), .int (nI (16 * H))])), (b0, .inl (cs 0, 3072, .inl h0)), (q1, .inr (4, [.int (nI 8), .ref b1, .int (nI (8 * W)), .int (nI (8 * H))])), (b1, .inl (cs 0, 768, .inl h1)), (q2, .inr (4, [.int (nI 8), .ref b2, .int (nI (8 * W)), .int (nI (8 * H))])), (b2, .inl (cs 0, 768, .inl h2))]) (st1 := []) hF (c_X4_copyFrom l D cs tt p0 a0 16 (16 * W) (16 * H) 3072 q0 b0 16 (16 * W) (16 * H) 3072 g0 h0 (dim16 hw hw4 hh hh3) ((dim16 hw hw4 hh hh3).2.2.2.2.1)) gX3_copyFrom_X4_copyFrom rfl (n := 1) (by decide +kernel) rfl ⟨⟨rfl, rfl⟩, Nat.le_of_ble_eq_true rfl, Nat.le_of_ble_eq_true rfl⟩ ⟨Nat.le_of_ble_eq_true rfl, Nat.le_of_ble_eq_true rfl⟩ hX hP hD hS rfl [p0, a0, q0, b0] rfl rfl (q0 := 2) (ci := 4) rfl rfl rfl hl.1 rfl (Nat.le_of_ble_eq_true rfl) dX3_copyFrom_19 rfl rfl (fun Hp locs hP hD hS => ?_)
  refine lv_iinc (v := 1) (lv' := [(2, .int 1), (0, .ref o), (1, .ref q)]) hx hb dX3_copyFrom_22 hl (k := 0) rfl (rfl) (by decide) rfl (fun ls hl => ?_)
  refine lv_goto (tgt := 2) hx hb dX3_copyFrom_25 (by decide) ?_
  refine lv_iload_n hx hb dX3_copyFrom_2 rfl (lv_at hl 0 rfl) ?_
  refine lv_iconst (v := 3) hx hb dX3_copyFrom_3 (by decide) ?_
  refine lv_icmp_ge (tgt := 28) hx hb dX3_copyFrom_4 (by decide) (fun c_4 => absurd c_4 (by decide)) (fun _ => ?_)
  refine lv_aload_n hx hb dX3_copyFrom_7 rfl (lv_at hl 1 rfl) ?_
  refine xget (C := RX3) (T := TX3) (N := 1) hF hX hP (by decide +kernel) 0 0 rfl rfl (by decide) (by decide +kernel) rfl dX3_copyFrom_8 ?_
  refine lv_iload_n hx hb dX3_copyFrom_11 rfl (lv_at hl 0 rfl) ?_
  refine xaald (k := 1) (v := p1) hF hX hP 1 rfl (rfl) (vp_in_nI (n := 1) (by decide) (by decide)) (rfl) dX3_copyFrom_12 ?_
  refine lv_aload_n hx hb dX3_copyFrom_13 rfl (lv_at hl 2 rfl) ?_
  refine xget (C := RX3) (T := TX3) (N := 1) hF hX hP (by decide +kernel) 8 0 rfl rfl (by decide) (by decide +kernel) rfl dX3_copyFrom_14 ?_
  refine lv_iload_n hx hb dX3_copyFrom_17 rfl (lv_at hl 0 rfl) ?_
  refine xaald (k := 1) (v := q1) hF hX hP 9 rfl (rfl) (vp_in_nI (n := 1) (by decide) (by decide)) (rfl) dX3_copyFrom_18 ?_
  refine xVM [false, false, false, false, true, true, false, false, false, false, false, false, true, true, false, false] (rest := []) (As := [.ref q1]) (ws1 := [(o, .inr (3, [.ref pa])), (pa, .inl (cs 2, 3, .inr (.inr (.inr (.inr (tri p0 p1 p2)))))), (p0, .inr (4, [.int (nI 16), .ref a0, .int (nI (16 * W)), .int (nI (16 * H))])), (a0, .inl (cs 0, 3072, .inl (va_cpy h0 g0 0 0 ((16 * W) * (16 * H))))), (p1, .inr (4, [.int (nI 8), .ref a1, .int (nI (8 * W)), .int (nI (8 * H))])), (a1, .inl (cs 0, 768, .inl (va_cpy h1 g1 0 0 ((8 * W) * (8 * H))))), (p2, .inr (4, [.int (nI 8), .ref a2, .int (nI (8 * W)), .int (nI (8 * H))])), (a2, .inl (cs 0, 768, .inl g2)), (q, .inr (3, [.ref qa])), (qa, .inl (cs 2, 3, .inr (.inr (.inr (.inr (tri q0 q1 q2)))))), (q0, .inr (4, [.int (nI 16), .ref b0, .int (nI (16 * W)), .int (nI (16 * H))])), (b0, .inl (cs 0, 3072, .inl h0)), (q1, .inr (4, [.int (nI 8), .ref b1, .int (nI (8 * W)), .int (nI (8 * H))])), (b1, .inl (cs 0, 768, .inl h1)), (q2, .inr (4, [.int (nI 8), .ref b2, .int (nI (8 * W)), .int (nI (8 * H))])), (b2, .inl (cs 0, 768, .inl h2))]) (st1 := []) hF (c_X4_copyFrom l D cs tt p1 a1 8 (8 * W) (8 * H) 768 q1 b1 8 (8 * W) (8 * H) 768 g1 h1 (dim8 hw hw4 hh hh3) ((dim8 hw hw4 hh hh3).2.2.2.2.1)) gX3_copyFrom_X4_copyFrom rfl (n := 1) (by decide +kernel) rfl ⟨⟨rfl, rfl⟩, Nat.le_of_ble_eq_true rfl, Nat.le_of_ble_eq_true rfl⟩ ⟨Nat.le_of_ble_eq_true rfl, Nat.le_of_ble_eq_true rfl⟩ hX hP hD hS rfl [p1, a1, q1, b1] rfl rfl (q0 := 4) (ci := 4) rfl rfl rfl hl.1 rfl (Nat.le_of_ble_eq_true rfl) dX3_copyFrom_19 rfl rfl (fun Hp locs hP hD hS => ?_)
  refine lv_iinc (v := 2) (lv' := [(2, .int 2), (0, .ref o), (1, .ref q)]) hx hb dX3_copyFrom_22 hl (k := 0) rfl (rfl) (by decide) rfl (fun ls hl => ?_)
  refine lv_goto (tgt := 2) hx hb dX3_copyFrom_25 (by decide) ?_
  refine lv_iload_n hx hb dX3_copyFrom_2 rfl (lv_at hl 0 rfl) ?_
  refine lv_iconst (v := 3) hx hb dX3_copyFrom_3 (by decide) ?_
  refine lv_icmp_ge (tgt := 28) hx hb dX3_copyFrom_4 (by decide) (fun c_4 => absurd c_4 (by decide)) (fun _ => ?_)
  refine lv_aload_n hx hb dX3_copyFrom_7 rfl (lv_at hl 1 rfl) ?_
  refine xget (C := RX3) (T := TX3) (N := 1) hF hX hP (by decide +kernel) 0 0 rfl rfl (by decide) (by decide +kernel) rfl dX3_copyFrom_8 ?_
  refine lv_iload_n hx hb dX3_copyFrom_11 rfl (lv_at hl 0 rfl) ?_
  refine xaald (k := 2) (v := p2) hF hX hP 1 rfl (rfl) (vp_in_nI (n := 2) (by decide) (by decide)) (rfl) dX3_copyFrom_12 ?_
  refine lv_aload_n hx hb dX3_copyFrom_13 rfl (lv_at hl 2 rfl) ?_
  refine xget (C := RX3) (T := TX3) (N := 1) hF hX hP (by decide +kernel) 8 0 rfl rfl (by decide) (by decide +kernel) rfl dX3_copyFrom_14 ?_
  refine lv_iload_n hx hb dX3_copyFrom_17 rfl (lv_at hl 0 rfl) ?_
  refine xaald (k := 2) (v := q2) hF hX hP 9 rfl (rfl) (vp_in_nI (n := 2) (by decide) (by decide)) (rfl) dX3_copyFrom_18 ?_
  refine xVM [false, false, false, false, false, false, true, true, false, false, false, false, false, false, true, true] (rest := []) (As := [.ref q2]) (ws1 := [(o, .inr (3, [.ref pa])), (pa, .inl (cs 2, 3, .inr (.inr (.inr (.inr (tri p0 p1 p2)))))), (p0, .inr (4, [.int (nI 16), .ref a0, .int (nI (16 * W)), .int (nI (16 * H))])), (a0, .inl (cs 0, 3072, .inl (va_cpy h0 g0 0 0 ((16 * W) * (16 * H))))), (p1, .inr (4, [.int (nI 8), .ref a1, .int (nI (8 * W)), .int (nI (8 * H))])), (a1, .inl (cs 0, 768, .inl (va_cpy h1 g1 0 0 ((8 * W) * (8 * H))))), (p2, .inr (4, [.int (nI 8), .ref a2, .int (nI (8 * W)), .int (nI (8 * H))])), (a2, .inl (cs 0, 768, .inl (va_cpy h2 g2 0 0 ((8 * W) * (8 * H))))), (q, .inr (3, [.ref qa])), (qa, .inl (cs 2, 3, .inr (.inr (.inr (.inr (tri q0 q1 q2)))))), (q0, .inr (4, [.int (nI 16), .ref b0, .int (nI (16 * W)), .int (nI (16 * H))])), (b0, .inl (cs 0, 3072, .inl h0)), (q1, .inr (4, [.int (nI 8), .ref b1, .int (nI (8 * W)), .int (nI (8 * H))])), (b1, .inl (cs 0, 768, .inl h1)), (q2, .inr (4, [.int (nI 8), .ref b2, .int (nI (8 * W)), .int (nI (8 * H))])), (b2, .inl (cs 0, 768, .inl h2))]) (st1 := []) hF (c_X4_copyFrom l D cs tt p2 a2 8 (8 * W) (8 * H) 768 q2 b2 8 (8 * W) (8 * H) 768 g2 h2 (dim8 hw hw4 hh hh3) ((dim8 hw hw4 hh hh3).2.2.2.2.1)) gX3_copyFrom_X4_copyFrom rfl (n := 1) (by decide +kernel) rfl ⟨⟨rfl, rfl⟩, Nat.le_of_ble_eq_true rfl, Nat.le_of_ble_eq_true rfl⟩ ⟨Nat.le_of_ble_eq_true rfl, Nat.le_of_ble_eq_true rfl⟩ hX hP hD hS rfl [p2, a2, q2, b2] rfl rfl (q0 := 6) (ci := 4) rfl rfl rfl hl.1 rfl (Nat.le_of_ble_eq_true rfl) dX3_copyFrom_19 rfl rfl (fun Hp locs hP hD hS => ?_)
  refine lv_iinc (v := 3) (lv' := [(2, .int 3), (0, .ref o), (1, .ref q)]) hx hb dX3_copyFrom_22 hl (k := 0) rfl (rfl) (by decide) rfl (fun ls hl => ?_)
  refine lv_goto (tgt := 2) hx hb dX3_copyFrom_25 (by decide) ?_
  refine lv_iload_n hx hb dX3_copyFrom_2 rfl (lv_at hl 0 rfl) ?_
  refine lv_iconst (v := 3) hx hb dX3_copyFrom_3 (by decide) ?_
  refine lv_icmp_ge (tgt := 28) hx hb dX3_copyFrom_4 (by decide) (fun _ => ?_) (fun c_4 => absurd (by decide) c_4)
  exact xrv hF hr hlk hP hD hS dX3_copyFrom_28
