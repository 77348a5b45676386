
/-! ===== blocks ===== -/
/-- the numbers F 0 .. F (n - 1) together -/
def rsum (F : Nat → Int32) : Nat → Int32
  | 0 => 0
  | n + 1 => rsum F n + F n
/-- c(u, x) -/
def wvf (u x : Nat) : Int32 := if u = 0 then 724 else xwv ((2 * x + 1) * u % 32)
/-- t(v, x), f(y, x) by place -/
def half (C : Nat → Int32) : Nat → Int32 := fun i => (rsum (fun u => wvf u (i % 8) * C (i / 8 * 8 + u)) 8 + 128) >>> (8 &&& 31)
def full (T : Nat → Int32) : Nat → Int32 := fun i => (rsum (fun v => wvf v (i / 8) * T (v * 8 + i % 8)) 8 + 8192) >>> (14 &&& 31)
/-- the first i places have F -/
def ovr (f F : Nat → Int32) (i : Nat) : Nat → Int32 := fun j => if j < i then F j else f j
theorem ovr_s (f F : Nat → Int32) (i : Nat) {v : Int32} (hv : v = F i) : upd (ovr f F i) i v = ovr f F (i + 1) := by
  subst hv
  funext j
  unfold upd ovr
  by_cases h : j = i
  · subst h; simp
  · by_cases h2 : j < i
    · simp [h, h2, Nat.lt_succ_of_lt h2]
    · simp [h, h2, show ¬ j < i + 1 by omega]
theorem ovr_0 (f F : Nat → Int32) : ovr f F 0 = f := by funext j; simp [ovr]
/-- a coefficient: scaled, made odd, bounded -/
def scl (fa db nb : Int32) : Int32 := bnd (if (db * fa * nb / 16) &&& 1 = 0 then db * fa * nb / 16 - sgn (db * fa * nb / 16) else db * fa * nb / 16) (-2048) 2047
/-- the zigzag as numbers, and back -/
def zL : List Nat := [0, 1, 8, 16, 9, 2, 3, 10, 17, 24, 32, 25, 18, 11, 4, 5, 12, 19, 26, 33, 40, 48, 41, 34, 27, 20, 13, 6, 7, 14, 21, 28, 35, 42, 49, 56, 57, 50, 43, 36, 29, 22, 15, 23, 30, 37, 44, 51, 58, 59, 52, 45, 38, 31, 39, 46, 53, 60, 61, 54, 47, 55, 62, 63]
def zN (i : Nat) : Nat := zL.getD i 0
def zI (j : Nat) : Nat := zL.idxOf j
theorem zN_lt : ∀ i, i < 64 → zN i < 64 := by decide +kernel
theorem zI_zN : ∀ i, i < 64 → zI (zN i) = i := by decide +kernel
theorem zN_zI {i j : Nat} (hi : i < 64) (h : zI j = i) : j = zN i := by
  subst h
  have hl : zL.idxOf j < zL.length := hi
  have h1 : zL[zL.idxOf j] = j := List.getElem_idxOf hl
  show j = zL.getD (zL.idxOf j) 0
  rw [List.getD_eq_getElem?_getD, List.getElem?_eq_getElem hl]
  exact h1.symm
theorem xzz_zN : ∀ i, i < 64 → xzz i = nI (zN i) := by decide +kernel
/-- the first i places of the zigzag have F -/
def coTo (co F : Nat → Int32) (i : Nat) : Nat → Int32 := fun j => if zI j < i then F (zI j) else co j
theorem coTo_0 (co F : Nat → Int32) : coTo co F 0 = co := by funext j; simp [coTo]
theorem coTo_s (co F : Nat → Int32) {i : Nat} (hi : i < 64) {v : Int32} (hv : v = F i) : upd (coTo co F i) (zN i) v = coTo co F (i + 1) := by
  subst hv
  funext j
  unfold upd coTo
  by_cases h : j = zN i
  · subst h; simp [zI_zN i hi]
  · have h1 : zI j ≠ i := fun q => h (zN_zI hi q)
    by_cases h2 : zI j < i
    · simp [h, h2, Nat.lt_succ_of_lt h2]
    · simp [h, h2, show ¬ zI j < i + 1 by omega]
theorem zI_lt : ∀ j, j < 64 → zI j < 64 := by decide +kernel
/-- the coefficients of a block: of one for itself (past), of another -/
def pl (k : Nat) : Nat := if k < 4 then 0 else k - 3
theorem pl_lt {k : Nat} (h : k < 6) : pl k < 3 := by unfold pl; split <;> omega
theorem pln_pl {k : Nat} (h : k < 6) : pln (nI k) = nI (pl k) := by
  have : k = 0 ∨ k = 1 ∨ k = 2 ∨ k = 3 ∨ k = 4 ∨ k = 5 := by omega
  rcases this with rfl | rfl | rfl | rfl | rfl | rfl <;> rfl
def pst (P Lv : Nat → Int32) (k : Nat) : Int32 := bnd (P (pl k) + 8 * Lv (k * 64)) 0 2040
def fOwn (P Lv M : Nat → Int32) (fa : Int32) (k : Nat) : Nat → Int32 := fun i => if i = 0 then pst P Lv k else scl fa (2 * Lv (k * 64 + i)) (M (zN i))
def fDif (Lv M : Nat → Int32) (fa : Int32) (k : Nat) : Nat → Int32 := fun i => scl fa (2 * Lv (k * 64 + i) + sgn (Lv (k * 64 + i))) (M (zN i))
def cof (F : Nat → Int32) : Nat → Int32 := fun j => F (zI j)
theorem wv_ix {u x : Nat} (hu : u < 8) (hx : x < 8) : (2 * nI x + 1) * nI u &&& 31 = nI ((2 * x + 1) * u % 32) := by
  have h1 : (2 * nI x + 1) * nI u = nI ((2 * x + 1) * u) := by
    rw [show (2 : Int32) * nI x = nI (2 * x) from pk_mul 2 x, nI_1, pk_mul]
  have h2 : (2 * x + 1) * u < 2 ^ 32 := Nat.lt_of_le_of_lt (Nat.mul_le_mul (show 2 * x + 1 ≤ 15 by omega) (show u ≤ 7 by omega)) (by decide)
  rw [h1]
  exact pk_andN h2 5 rfl

set_option maxHeartbeats 4000000 in
set_option maxRecDepth 100000 in
theorem c_X0_wave (l : Launch) (D : va_G) (cs : Nat → ClassId) (tt : Nat → Nat) (u x : Nat) (hu : u < 8) (hx0 : x < 8) : xM l yX0_wave wsX0_wave ({ frames := 0, cells := 0, slots := 0, locals := 0 } : Room) D cs tt [.int (nI u), .int (nI x)] [] (some (.int (wvf u x))) [] := by
  refine xM.of RX0 rfl (by decide) rfl (Nat.le_of_ble_eq_true rfl) ?_
  intro p e s m below meth c A ls hF hr hlk hX hP hD hS hl
  have hx := hF.1
  have hb := hF.2.1
  have hl : lv_has ls 2 [(0, .int (nI u)), (1, .int (nI x))] := hl
  refine lv_iload_n hx hb dX0_wave_0 rfl (lv_at hl 0 rfl) ?_
  refine lv_if_ne (tgt := 10) hx hb dX0_wave_1 (by decide) (fun c_1 => ?_) (fun c_1 => ?_)
  · have hu0 : ¬ u = 0 := fun q => c_1 (by rw [q]; rfl)
    refine va_gets (C := RX0) (n := "WAVE") (d := "[I") (own := RX0) (ref := RX0) hx hb hX.2.1.2.1.1 hS hF.2.2.2.1 (hF.2.2.2.2 _ (by decide +kernel)) (fun _ h => h) dX0_wave_10 ?_
    refine lv_iconst (v := 2) hx hb dX0_wave_13 (by decide) ?_
    refine lv_iload_n hx hb dX0_wave_14 rfl (lv_at hl 1 rfl) ?_
    refine lv_imul hx hb dX0_wave_15 ?_
    refine lv_iconst (v := 1) hx hb dX0_wave_16 (by decide) ?_
    refine lv_iadd hx hb dX0_wave_17 ?_
    refine lv_iload_n hx hb dX0_wave_18 rfl (lv_at hl 0 rfl) ?_
    refine lv_imul hx hb dX0_wave_19 ?_
    refine lv_bipush (v := 31) hx hb dX0_wave_20 (by decide) ?_
    refine lv_iand hx hb dX0_wave_22 ?_
    refine xrwi (z := nI ((2 * x + 1) * u % 32)) (wv_ix hu hx0) ?_
    refine va_ti (v := .int (xwv ((2 * x + 1) * u % 32))) hx hb hX.2.1.2.1.2 hS (vp_in_nI (Nat.mod_lt _ (by decide)) (by decide)) (congrArg (fun z9 => Value.int (xwv z9)) (nI_clamp (by omega))) dX0_wave_23 ?_
    refine xrwi (z := (wvf u x)) (by unfold wvf; rw [if_neg hu0]) ?_
    exact xri (Q9 := fun _ _ _ _ => True) hF hr hlk hP hD hS dX0_wave_24
  · have hu0 : u = 0 := by
      rcases Nat.eq_zero_or_pos u with q | q
      · exact q
      · exact absurd c_1 (nI_ne0 q (by omega))
    refine lv_sipush (v := 724) hx hb dX0_wave_4 (by decide) ?_
    refine lv_goto (tgt := 24) hx hb dX0_wave_7 (by decide) ?_
    refine xrwi (z := (wvf u x)) (by unfold wvf; rw [if_pos hu0]) ?_
    exact xri (Q9 := fun _ _ _ _ => True) hF hr hlk hP hD hS dX0_wave_24

set_option maxHeartbeats 4000000 in
set_option maxRecDepth 100000 in
theorem c_X0_alongRow (l : Launch) (D : va_G) (cs : Nat → ClassId) (tt : Nat → Nat) (b mt ps tu co ha : Nat) (fa : Int32) (v x : Nat) (C : Nat → Int32) (hv : v < 8) (hx0 : x < 8) : xM l yX0_alongRow wsX0_alongRow ({ frames := 1, cells := 0, slots := 0, locals := 21 } : Room) D cs tt [.ref b, .int (nI v), .int (nI x)] [(b, .inr (0, [.ref mt, .ref ps, .ref tu, .int fa, .ref co, .ref ha])), (co, .inl (cs 0, 64, .inl C))] (some (.int (rsum (fun u9 => wvf u9 x * C (v * 8 + u9)) 8))) [(b, .inr (0, [.ref mt, .ref ps, .ref tu, .int fa, .ref co, .ref ha])), (co, .inl (cs 0, 64, .inl C))] := by
  refine xM.of RX0 rfl (by decide) rfl (Nat.le_of_ble_eq_true rfl) ?_
  intro p e s m below meth c A ls hF hr hlk hX hP hD hS hl
  have hx := hF.1
  have hb := hF.2.1
  have hl : lv_has ls 5 [(0, .ref b), (1, .int (nI v)), (2, .int (nI x))] := hl
  refine lv_iconst (v := 0) hx hb dX0_alongRow_0 (by decide) ?_
  refine lv_istore_n (lv' := [(3, .int 0), (0, .ref b), (1, .int (nI v)), (2, .int (nI x))]) hx hb dX0_alongRow_1 rfl hl (by decide) rfl (fun ls hl => ?_)
  refine lv_iconst (v := 0) hx hb dX0_alongRow_2 (by decide) ?_
  refine lv_istore (lv' := [(4, .int 0), (3, .int 0), (0, .ref b), (1, .int (nI v)), (2, .int (nI x))]) hx hb dX0_alongRow_3 hl (by decide) rfl (fun ls hl => ?_)
  have loop_5 : ∀ (k5 : Nat) (u : Nat), 8 - u < k5 → u ≤ 8 → ∀ (Hp : Heap) (locs : List Loc) (ls : Array Slot), va_P D vwCl [(b, .inr (0, [.ref mt, .ref ps, .ref tu, .int fa, .ref co, .ref ha])), (co, .inl (cs 0, 64, .inl C))] Hp → va_D A [(b, .inr (0, [.ref mt, .ref ps, .ref tu, .int fa, .ref co, .ref ha])), (co, .inl (cs 0, 64, .inl C))] → va_S A s.heap Hp locs → lv_has ls 5 [(0, .ref b), (1, .int (nI v)), (2, .int (nI x)), (3, .int (rsum (fun u9 => wvf u9 x * C (v * 8 + u9)) u)), (4, .int (nI u))] → xW p l e ({ frames := 1, cells := 0, slots := 0, locals := 21 } : Room) s m ([.ref b, .int (nI v), .int (nI x)] : List Value).toArray below meth c Hp locs 0 0 (MQ below (xE D A (some (.int (rsum (fun u9 => wvf u9 x * C (v * 8 + u9)) 8))) [(b, .inr (0, [.ref mt, .ref ps, .ref tu, .int fa, .ref co, .ref ha])), (co, .inl (cs 0, 64, .inl C))]) ([.ref b, .int (nI v), .int (nI x)] : List Value).toArray s 0 0 A) (F0 m 5 ls []) := by
    intro k5
    induction k5 with
    | zero => intro u h9; omega
    | succ k5 ih_5 =>
      intro u hk5 hu Hp locs ls hP hD hS hl
      refine lv_iload hx hb dX0_alongRow_5 (lv_at hl 4 rfl) ?_
      refine lv_bipush (v := 8) hx hb dX0_alongRow_7 (by decide) ?_
      refine lv_icmp_ge (tgt := 40) hx hb dX0_alongRow_9 (by decide) (fun c_9 => ?_) (fun c_9 => ?_)
      · have e9 : u = 8 := by have := nIle (a := 8) (b := u) rfl rfl (by decide) (by omega) c_9; omega
        subst e9
        refine lv_iload_n hx hb dX0_alongRow_40 rfl (lv_at hl 3 rfl) ?_
        exact xri (Q9 := fun _ _ _ _ => True) hF hr hlk hP hD hS dX0_alongRow_41
      · have hlt : u < 8 := nInle (a := 8) (b := u) rfl rfl (by decide) (by omega) c_9
        refine lv_iload_n hx hb dX0_alongRow_12 rfl (lv_at hl 3 rfl) ?_
        refine lv_iload hx hb dX0_alongRow_13 (lv_at hl 4 rfl) ?_
        refine lv_iload_n hx hb dX0_alongRow_15 rfl (lv_at hl 2 rfl) ?_
        refine xSt (rest := [.int (rsum (fun u9 => wvf u9 x * C (v * 8 + u9)) u)]) (As := [.int (nI u), .int (nI x)]) (ws1 := [(b, .inr (0, [.ref mt, .ref ps, .ref tu, .int fa, .ref co, .ref ha])), (co, .inl (cs 0, 64, .inl C))]) (st1 := [.int (wvf u x), .int (rsum (fun u9 => wvf u9 x * C (v * 8 + u9)) u)]) hF (c_X0_wave l D cs tt u x hlt hx0) gX0_alongRow_X0_wave rfl (n := 2) (by decide +kernel) rfl ⟨⟨rfl, rfl⟩, Nat.le_of_ble_eq_true rfl, Nat.le_of_ble_eq_true rfl⟩ ⟨Nat.le_of_ble_eq_true rfl, Nat.le_of_ble_eq_true rfl⟩ hX hP hD hS [] (by decide) rfl [] rfl rfl hl.1 rfl (Nat.le_of_ble_eq_true rfl) dX0_alongRow_16 rfl rfl (fun Hp locs hP hD hS => ?_)
        refine lv_aload_n hx hb dX0_alongRow_19 rfl (lv_at hl 0 rfl) ?_
        refine xget (C := RX0) (T := TX0) (N := 6) hF hX hP (by decide +kernel) 0 4 rfl rfl (by decide) (by decide +kernel) rfl dX0_alongRow_20 ?_
        refine lv_iload_n hx hb dX0_alongRow_23 rfl (lv_at hl 1 rfl) ?_
        refine lv_bipush (v := 8) hx hb dX0_alongRow_24 (by decide) ?_
        refine lv_imul hx hb dX0_alongRow_26 ?_
        refine lv_iload hx hb dX0_alongRow_27 (lv_at hl 4 rfl) ?_
        refine lv_iadd hx hb dX0_alongRow_29 ?_
        refine xrwi (z := nI (v * 8 + u)) (nIma v 8 u) ?_
        refine xald (k := v * 8 + u) hF hX hP 1 rfl (nI_clamp (by omega)) (vp_in_nI (by omega) (by omega)) dX0_alongRow_30 ?_
        refine lv_imul hx hb dX0_alongRow_31 ?_
        refine lv_iadd hx hb dX0_alongRow_32 ?_
        refine lv_istore_n (lv' := [(3, .int ((rsum (fun u9 => wvf u9 x * C (v * 8 + u9)) u) + ((wvf u x) * (C (v * 8 + u))))), (0, .ref b), (1, .int (nI v)), (2, .int (nI x)), (4, .int (nI u))]) hx hb dX0_alongRow_33 rfl hl (by decide) rfl (fun ls hl => ?_)
        refine lv_iinc (v := (nI (u + 1))) (lv' := [(4, .int (nI (u + 1))), (3, .int ((rsum (fun u9 => wvf u9 x * C (v * 8 + u9)) u) + ((wvf u x) * (C (v * 8 + u))))), (0, .ref b), (1, .int (nI v)), (2, .int (nI x))]) hx hb dX0_alongRow_34 hl (k := 4) rfl (nI_1 u) (by decide) rfl (fun ls hl => ?_)
        refine lv_goto (tgt := 5) hx hb dX0_alongRow_37 (by decide) ?_
        exact ih_5 (u + 1) (by omega) (by omega) _ _ _ hP hD hS (lv_sub hl [2, 3, 4, 1, 0] rfl)
  exact loop_5 (8 - 0 + 1) 0 (Nat.lt_succ_self _) (by decide) _ _ _ hP hD hS (lv_sub hl [2, 3, 4, 1, 0] rfl)

set_option maxHeartbeats 4000000 in
set_option maxRecDepth 100000 in
theorem c_X0_alongColumn (l : Launch) (D : va_G) (cs : Nat → ClassId) (tt : Nat → Nat) (b mt ps tu co ha : Nat) (fa : Int32) (y x : Nat) (C : Nat → Int32) (hy : y < 8) (hx0 : x < 8) : xM l yX0_alongColumn wsX0_alongColumn ({ frames := 1, cells := 0, slots := 0, locals := 21 } : Room) D cs tt [.ref b, .int (nI y), .int (nI x)] [(b, .inr (0, [.ref mt, .ref ps, .ref tu, .int fa, .ref co, .ref ha])), (ha, .inl (cs 0, 64, .inl C))] (some (.int (rsum (fun u9 => wvf u9 y * C (u9 * 8 + x)) 8))) [(b, .inr (0, [.ref mt, .ref ps, .ref tu, .int fa, .ref co, .ref ha])), (ha, .inl (cs 0, 64, .inl C))] := by
  refine xM.of RX0 rfl (by decide) rfl (Nat.le_of_ble_eq_true rfl) ?_
  intro p e s m below meth c A ls hF hr hlk hX hP hD hS hl
  have hx := hF.1
  have hb := hF.2.1
  have hl : lv_has ls 5 [(0, .ref b), (1, .int (nI y)), (2, .int (nI x))] := hl
  refine lv_iconst (v := 0) hx hb dX0_alongColumn_0 (by decide) ?_
  refine lv_istore_n (lv' := [(3, .int 0), (0, .ref b), (1, .int (nI y)), (2, .int (nI x))]) hx hb dX0_alongColumn_1 rfl hl (by decide) rfl (fun ls hl => ?_)
  refine lv_iconst (v := 0) hx hb dX0_alongColumn_2 (by decide) ?_
  refine lv_istore (lv' := [(4, .int 0), (3, .int 0), (0, .ref b), (1, .int (nI y)), (2, .int (nI x))]) hx hb dX0_alongColumn_3 hl (by decide) rfl (fun ls hl => ?_)
  have loop_5 : ∀ (k5 : Nat) (u : Nat), 8 - u < k5 → u ≤ 8 → ∀ (Hp : Heap) (locs : List Loc) (ls : Array Slot), va_P D vwCl [(b, .inr (0, [.ref mt, .ref ps, .ref tu, .int fa, .ref co, .ref ha])), (ha, .inl (cs 0, 64, .inl C))] Hp → va_D A [(b, .inr (0, [.ref mt, .ref ps, .ref tu, .int fa, .ref co, .ref ha])), (ha, .inl (cs 0, 64, .inl C))] → va_S A s.heap Hp locs → lv_has ls 5 [(0, .ref b), (1, .int (nI y)), (2, .int (nI x)), (3, .int (rsum (fun u9 => wvf u9 y * C (u9 * 8 + x)) u)), (4, .int (nI u))] → xW p l e ({ frames := 1, cells := 0, slots := 0, locals := 21 } : Room) s m ([.ref b, .int (nI y), .int (nI x)] : List Value).toArray below meth c Hp locs 0 0 (MQ below (xE D A (some (.int (rsum (fun u9 => wvf u9 y * C (u9 * 8 + x)) 8))) [(b, .inr (0, [.ref mt, .ref ps, .ref tu, .int fa, .ref co, .ref ha])), (ha, .inl (cs 0, 64, .inl C))]) ([.ref b, .int (nI y), .int (nI x)] : List Value).toArray s 0 0 A) (F0 m 5 ls []) := by
    intro k5
    induction k5 with
    | zero => intro u h9; omega
    | succ k5 ih_5 =>
      intro u hk5 hu Hp locs ls hP hD hS hl
      refine lv_iload hx hb dX0_alongColumn_5 (lv_at hl 4 rfl) ?_
      refine lv_bipush (v := 8) hx hb dX0_alongColumn_7 (by decide) ?_
      refine lv_icmp_ge (tgt := 40) hx hb dX0_alongColumn_9 (by decide) (fun c_9 => ?_) (fun c_9 => ?_)
      · have e9 : u = 8 := by have := nIle (a := 8) (b := u) rfl rfl (by decide) (by omega) c_9; omega
        subst e9
        refine lv_iload_n hx hb dX0_alongColumn_40 rfl (lv_at hl 3 rfl) ?_
        exact xri (Q9 := fun _ _ _ _ => True) hF hr hlk hP hD hS dX0_alongColumn_41
      · have hlt : u < 8 := nInle (a := 8) (b := u) rfl rfl (by decide) (by omega) c_9
        refine lv_iload_n hx hb dX0_alongColumn_12 rfl (lv_at hl 3 rfl) ?_
        refine lv_iload hx hb dX0_alongColumn_13 (lv_at hl 4 rfl) ?_
        refine lv_iload_n hx hb dX0_alongColumn_15 rfl (lv_at hl 1 rfl) ?_
        refine xSt (rest := [.int (rsum (fun u9 => wvf u9 y * C (u9 * 8 + x)) u)]) (As := [.int (nI u), .int (nI y)]) (ws1 := [(b, .inr (0, [.ref mt, .ref ps, .ref tu, .int fa, .ref co, .ref ha])), (ha, .inl (cs 0, 64, .inl C))]) (st1 := [.int (wvf u y), .int (rsum (fun u9 => wvf u9 y * C (u9 * 8 + x)) u)]) hF (c_X0_wave l D cs tt u y hlt hy) gX0_alongColumn_X0_wave rfl (n := 2) (by decide +kernel) rfl ⟨⟨rfl, rfl⟩, Nat.le_of_ble_eq_true rfl, Nat.le_of_ble_eq_true rfl⟩ ⟨Nat.le_of_ble_eq_true rfl, Nat.le_of_ble_eq_true rfl⟩ hX hP hD hS [] (by decide) rfl [] rfl rfl hl.1 rfl (Nat.le_of_ble_eq_true rfl) dX0_alongColumn_16 rfl rfl (fun Hp locs hP hD hS => ?_)
        refine lv_aload_n hx hb dX0_alongColumn_19 rfl (lv_at hl 0 rfl) ?_
        refine xget (C := RX0) (T := TX0) (N := 6) hF hX hP (by decide +kernel) 0 5 rfl rfl (by decide) (by decide +kernel) rfl dX0_alongColumn_20 ?_
        refine lv_iload hx hb dX0_alongColumn_23 (lv_at hl 4 rfl) ?_
        refine lv_bipush (v := 8) hx hb dX0_alongColumn_25 (by decide) ?_
        refine lv_imul hx hb dX0_alongColumn_27 ?_
        refine lv_iload_n hx hb dX0_alongColumn_28 rfl (lv_at hl 2 rfl) ?_
        refine lv_iadd hx hb dX0_alongColumn_29 ?_
        refine xrwi (z := nI (u * 8 + x)) (nIma u 8 x) ?_
        refine xald (k := u * 8 + x) hF hX hP 1 rfl (nI_clamp (by omega)) (vp_in_nI (by omega) (by omega)) dX0_alongColumn_30 ?_
        refine lv_imul hx hb dX0_alongColumn_31 ?_
        refine lv_iadd hx hb dX0_alongColumn_32 ?_
        refine lv_istore_n (lv' := [(3, .int ((rsum (fun u9 => wvf u9 y * C (u9 * 8 + x)) u) + ((wvf u y) * (C (u * 8 + x))))), (0, .ref b), (1, .int (nI y)), (2, .int (nI x)), (4, .int (nI u))]) hx hb dX0_alongColumn_33 rfl hl (by decide) rfl (fun ls hl => ?_)
        refine lv_iinc (v := (nI (u + 1))) (lv' := [(4, .int (nI (u + 1))), (3, .int ((rsum (fun u9 => wvf u9 y * C (u9 * 8 + x)) u) + ((wvf u y) * (C (u * 8 + x))))), (0, .ref b), (1, .int (nI y)), (2, .int (nI x))]) hx hb dX0_alongColumn_34 hl (k := 4) rfl (nI_1 u) (by decide) rfl (fun ls hl => ?_)
        refine lv_goto (tgt := 5) hx hb dX0_alongColumn_37 (by decide) ?_
        exact ih_5 (u + 1) (by omega) (by omega) _ _ _ hP hD hS (lv_sub hl [2, 3, 4, 1, 0] rfl)
  exact loop_5 (8 - 0 + 1) 0 (Nat.lt_succ_self _) (by decide) _ _ _ hP hD hS (lv_sub hl [2, 3, 4, 1, 0] rfl)

set_option maxHeartbeats 4000000 in
set_option maxRecDepth 100000 in
theorem c_X0_turn (l : Launch) (D : va_G) (cs : Nat → ClassId) (tt : Nat → Nat) (b mt ps tu co ha : Nat) (fa : Int32) (C tf hf : Nat → Int32)  : xM l yX0_turn wsX0_turn ({ frames := 2, cells := 0, slots := 0, locals := 45 } : Room) D cs tt [.ref b] [(b, .inr (0, [.ref mt, .ref ps, .ref tu, .int fa, .ref co, .ref ha])), (tu, .inl (cs 0, 64, .inl tf)), (co, .inl (cs 0, 64, .inl C)), (ha, .inl (cs 0, 64, .inl hf))] none [(b, .inr (0, [.ref mt, .ref ps, .ref tu, .int fa, .ref co, .ref ha])), (tu, .inl (cs 0, 64, .inl (full (half C)))), (co, .inl (cs 0, 64, .inl C)), (ha, .inl (cs 0, 64, .inl (half C)))] := by
  refine xM.of RX0 rfl (by decide) rfl (Nat.le_of_ble_eq_true rfl) ?_
  intro p e s m below meth c A ls hF hr hlk hX hP hD hS hl
  have hx := hF.1
  have hb := hF.2.1
  have hl : lv_has ls 2 [(0, .ref b)] := hl
  refine lv_iconst (v := 0) hx hb dX0_turn_0 (by decide) ?_
  refine lv_istore_n (lv' := [(1, .int 0), (0, .ref b)]) hx hb dX0_turn_1 rfl hl (by decide) rfl (fun ls hl => ?_)
  have loop_2 : ∀ (k2 : Nat) (i : Nat), 64 - i < k2 → i ≤ 64 → ∀ (Hp : Heap) (locs : List Loc) (ls : Array Slot), va_P D vwCl [(b, .inr (0, [.ref mt, .ref ps, .ref tu, .int fa, .ref co, .ref ha])), (tu, .inl (cs 0, 64, .inl tf)), (co, .inl (cs 0, 64, .inl C)), (ha, .inl (cs 0, 64, .inl (ovr hf (half C) i)))] Hp → va_D A [(b, .inr (0, [.ref mt, .ref ps, .ref tu, .int fa, .ref co, .ref ha])), (tu, .inl (cs 0, 64, .inl tf)), (co, .inl (cs 0, 64, .inl C)), (ha, .inl (cs 0, 64, .inl (ovr hf (half C) i)))] → va_S A s.heap Hp locs → lv_has ls 2 [(0, .ref b), (1, .int (nI i))] → xW p l e ({ frames := 2, cells := 0, slots := 0, locals := 45 } : Room) s m ([.ref b] : List Value).toArray below meth c Hp locs 0 0 (MQ below (xE D A none [(b, .inr (0, [.ref mt, .ref ps, .ref tu, .int fa, .ref co, .ref ha])), (tu, .inl (cs 0, 64, .inl (full (half C)))), (co, .inl (cs 0, 64, .inl C)), (ha, .inl (cs 0, 64, .inl (half C)))]) ([.ref b] : List Value).toArray s 0 0 A) (F0 m 2 ls []) := by
    intro k2
    induction k2 with
    | zero => intro i h9; omega
    | succ k2 ih_2 =>
      intro i hk2 hi Hp locs ls hP hD hS hl
      refine lv_iload_n hx hb dX0_turn_2 rfl (lv_at hl 1 rfl) ?_
      refine lv_bipush (v := 64) hx hb dX0_turn_3 (by decide) ?_
      refine lv_icmp_ge (tgt := 39) hx hb dX0_turn_5 (by decide) (fun c_5 => ?_) (fun c_5 => ?_)
      · have e9 : i = 64 := by have := nIle (a := 64) (b := i) rfl rfl (by decide) (by omega) c_5; omega
        have hP := xcongP (g := half C) hP 3 rfl hD (fun j hj => by simp [ovr, e9, hj])
        have hD := xcongD (g := half C) 3 rfl hD
        refine lv_iconst (v := 0) hx hb dX0_turn_39 (by decide) ?_
        refine lv_istore_n (lv' := [(1, .int 0), (0, .ref b)]) hx hb dX0_turn_40 rfl hl (by decide) rfl (fun ls hl => ?_)
        have loop_41 : ∀ (k41 : Nat) (i2 : Nat), 64 - i2 < k41 → i2 ≤ 64 → ∀ (Hp : Heap) (locs : List Loc) (ls : Array Slot), va_P D vwCl [(b, .inr (0, [.ref mt, .ref ps, .ref tu, .int fa, .ref co, .ref ha])), (tu, .inl (cs 0, 64, .inl (ovr tf (full (half C)) i2))), (co, .inl (cs 0, 64, .inl C)), (ha, .inl (cs 0, 64, .inl (half C)))] Hp → va_D A [(b, .inr (0, [.ref mt, .ref ps, .ref tu, .int fa, .ref co, .ref ha])), (tu, .inl (cs 0, 64, .inl (ovr tf (full (half C)) i2))), (co, .inl (cs 0, 64, .inl C)), (ha, .inl (cs 0, 64, .inl (half C)))] → va_S A s.heap Hp locs → lv_has ls 2 [(0, .ref b), (1, .int (nI i2))] → xW p l e ({ frames := 2, cells := 0, slots := 0, locals := 45 } : Room) s m ([.ref b] : List Value).toArray below meth c Hp locs 0 0 (MQ below (xE D A none [(b, .inr (0, [.ref mt, .ref ps, .ref tu, .int fa, .ref co, .ref ha])), (tu, .inl (cs 0, 64, .inl (full (half C)))), (co, .inl (cs 0, 64, .inl C)), (ha, .inl (cs 0, 64, .inl (half C)))]) ([.ref b] : List Value).toArray s 0 0 A) (F0 m 41 ls []) := by
          intro k41
          induction k41 with
          | zero => intro i2 h9; omega
          | succ k41 ih_41 =>
            intro i2 hk41 hi2 Hp locs ls hP hD hS hl
            refine lv_iload_n hx hb dX0_turn_41 rfl (lv_at hl 1 rfl) ?_
            refine lv_bipush (v := 64) hx hb dX0_turn_42 (by decide) ?_
            refine lv_icmp_ge (tgt := 78) hx hb dX0_turn_44 (by decide) (fun c_44 => ?_) (fun c_44 => ?_)
            · have e9 : i2 = 64 := by have := nIle (a := 64) (b := i2) rfl rfl (by decide) (by omega) c_44; omega
              have hP := xcongP (g := full (half C)) hP 1 rfl hD (fun j hj => by simp [ovr, e9, hj])
              have hD := xcongD (g := full (half C)) 1 rfl hD
              exact xrv hF hr hlk hP hD hS dX0_turn_78
            · have hlt : i2 < 64 := nInle (a := 64) (b := i2) rfl rfl (by decide) (by omega) c_44
              refine lv_aload_n hx hb dX0_turn_47 rfl (lv_at hl 0 rfl) ?_
              refine xget (C := RX0) (T := TX0) (N := 6) hF hX hP (by decide +kernel) 0 2 rfl rfl (by decide) (by decide +kernel) rfl dX0_turn_48 ?_
              refine lv_iload_n hx hb dX0_turn_51 rfl (lv_at hl 1 rfl) ?_
              refine lv_aload_n hx hb dX0_turn_52 rfl (lv_at hl 0 rfl) ?_
              refine lv_iload_n hx hb dX0_turn_53 rfl (lv_at hl 1 rfl) ?_
              refine lv_bipush (v := 8) hx hb dX0_turn_54 (by decide) ?_
              refine lv_idiv hx hb dX0_turn_56 (by decide) ?_
              refine xrwi (z := nI (i2 / 8)) (pk_div (a := i2) (d := 8) (by omega) (by omega) (by omega)) ?_
              refine lv_iload_n hx hb dX0_turn_57 rfl (lv_at hl 1 rfl) ?_
              refine lv_bipush (v := 8) hx hb dX0_turn_58 (by decide) ?_
              refine lv_irem hx hb dX0_turn_60 (by decide) ?_
              refine xrwi (z := nI (i2 % 8)) (pk_rem (a := i2) (d := 8) (by omega) (by omega) (by omega)) ?_
              refine xV (rest := [.int (nI i2), .ref tu]) (As := [.int (nI (i2 / 8)), .int (nI (i2 % 8))]) (ws1 := [(b, .inr (0, [.ref mt, .ref ps, .ref tu, .int fa, .ref co, .ref ha])), (tu, .inl (cs 0, 64, .inl (ovr tf (full (half C)) i2))), (co, .inl (cs 0, 64, .inl C)), (ha, .inl (cs 0, 64, .inl (half C)))]) (st1 := [.int (rsum (fun u9 => wvf u9 (i2 / 8) * (half C) (u9 * 8 + (i2 % 8))) 8), .int (nI i2), .ref tu]) hF (c_X0_alongColumn l D cs tt b mt ps tu co ha fa (i2 / 8) (i2 % 8) (half C) (by omega) (by omega)) gX0_turn_X0_alongColumn rfl (n := 2) (by decide +kernel) rfl ⟨⟨rfl, rfl⟩, Nat.le_of_ble_eq_true rfl, Nat.le_of_ble_eq_true rfl⟩ ⟨Nat.le_of_ble_eq_true rfl, Nat.le_of_ble_eq_true rfl⟩ hX hP hD hS [0, 3] (by decide) rfl [b, ha] rfl rfl (q0 := 0) (ci := 0) rfl rfl rfl hl.1 rfl (Nat.le_of_ble_eq_true rfl) dX0_turn_61 rfl rfl (fun Hp locs hP hD hS => ?_)
              refine lv_sipush (v := 8192) hx hb dX0_turn_64 (by decide) ?_
              refine lv_iadd hx hb dX0_turn_67 ?_
              refine lv_bipush (v := 14) hx hb dX0_turn_68 (by decide) ?_
              refine lv_ishr hx hb dX0_turn_70 ?_
              refine xast (k := i2) (ws1 := [(b, .inr (0, [.ref mt, .ref ps, .ref tu, .int fa, .ref co, .ref ha])), (tu, .inl (cs 0, 64, .inl (ovr tf (full (half C)) (i2 + 1)))), (co, .inl (cs 0, 64, .inl C)), (ha, .inl (cs 0, 64, .inl (half C)))]) hF hX hP hD hS 1 rfl (nI_clamp (by omega)) (vp_in_nI (by omega) (by omega)) dX0_turn_71 (congrArg (fun z9 => ([(b, .inr (0, [.ref mt, .ref ps, .ref tu, .int fa, .ref co, .ref ha])), (tu, .inl (cs 0, 64, .inl z9)), (co, .inl (cs 0, 64, .inl C)), (ha, .inl (cs 0, 64, .inl (half C)))] : va_W)) (ovr_s tf (full (half C)) i2 rfl)) (fun Hp locs hP hD hS => ?_)
              refine lv_iinc (v := (nI (i2 + 1))) (lv' := [(1, .int (nI (i2 + 1))), (0, .ref b)]) hx hb dX0_turn_72 hl (k := 1) rfl (nI_1 i2) (by decide) rfl (fun ls hl => ?_)
              refine lv_goto (tgt := 41) hx hb dX0_turn_75 (by decide) ?_
              exact ih_41 (i2 + 1) (by omega) (by omega) _ _ _ hP hD hS (lv_sub hl [1, 0] rfl)
        have hP := xeqP hP (congrArg (fun z9 => ([(b, .inr (0, [.ref mt, .ref ps, .ref tu, .int fa, .ref co, .ref ha])), (tu, .inl (cs 0, 64, .inl z9)), (co, .inl (cs 0, 64, .inl C)), (ha, .inl (cs 0, 64, .inl (half C)))] : va_W)) ((ovr_0 tf (full (half C))).symm))
        have hD := xeqD hD (congrArg (fun z9 => ([(b, .inr (0, [.ref mt, .ref ps, .ref tu, .int fa, .ref co, .ref ha])), (tu, .inl (cs 0, 64, .inl z9)), (co, .inl (cs 0, 64, .inl C)), (ha, .inl (cs 0, 64, .inl (half C)))] : va_W)) ((ovr_0 tf (full (half C))).symm))
        exact loop_41 (64 - 0 + 1) 0 (Nat.lt_succ_self _) (by decide) _ _ _ hP hD hS (lv_sub hl [1, 0] rfl)
      · have hlt : i < 64 := nInle (a := 64) (b := i) rfl rfl (by decide) (by omega) c_5
        refine lv_aload_n hx hb dX0_turn_8 rfl (lv_at hl 0 rfl) ?_
        refine xget (C := RX0) (T := TX0) (N := 6) hF hX hP (by decide +kernel) 0 5 rfl rfl (by decide) (by decide +kernel) rfl dX0_turn_9 ?_
        refine lv_iload_n hx hb dX0_turn_12 rfl (lv_at hl 1 rfl) ?_
        refine lv_aload_n hx hb dX0_turn_13 rfl (lv_at hl 0 rfl) ?_
        refine lv_iload_n hx hb dX0_turn_14 rfl (lv_at hl 1 rfl) ?_
        refine lv_bipush (v := 8) hx hb dX0_turn_15 (by decide) ?_
        refine lv_idiv hx hb dX0_turn_17 (by decide) ?_
        refine xrwi (z := nI (i / 8)) (pk_div (a := i) (d := 8) (by omega) (by omega) (by omega)) ?_
        refine lv_iload_n hx hb dX0_turn_18 rfl (lv_at hl 1 rfl) ?_
        refine lv_bipush (v := 8) hx hb dX0_turn_19 (by decide) ?_
        refine lv_irem hx hb dX0_turn_21 (by decide) ?_
        refine xrwi (z := nI (i % 8)) (pk_rem (a := i) (d := 8) (by omega) (by omega) (by omega)) ?_
        refine xV (rest := [.int (nI i), .ref ha]) (As := [.int (nI (i / 8)), .int (nI (i % 8))]) (ws1 := [(b, .inr (0, [.ref mt, .ref ps, .ref tu, .int fa, .ref co, .ref ha])), (tu, .inl (cs 0, 64, .inl tf)), (co, .inl (cs 0, 64, .inl C)), (ha, .inl (cs 0, 64, .inl (ovr hf (half C) i)))]) (st1 := [.int (rsum (fun u9 => wvf u9 (i % 8) * C ((i / 8) * 8 + u9)) 8), .int (nI i), .ref ha]) hF (c_X0_alongRow l D cs tt b mt ps tu co ha fa (i / 8) (i % 8) C (by omega) (by omega)) gX0_turn_X0_alongRow rfl (n := 2) (by decide +kernel) rfl ⟨⟨rfl, rfl⟩, Nat.le_of_ble_eq_true rfl, Nat.le_of_ble_eq_true rfl⟩ ⟨Nat.le_of_ble_eq_true rfl, Nat.le_of_ble_eq_true rfl⟩ hX hP hD hS [0, 2] (by decide) rfl [b, co] rfl rfl (q0 := 0) (ci := 0) rfl rfl rfl hl.1 rfl (Nat.le_of_ble_eq_true rfl) dX0_turn_22 rfl rfl (fun Hp locs hP hD hS => ?_)
        refine lv_sipush (v := 128) hx hb dX0_turn_25 (by decide) ?_
        refine lv_iadd hx hb dX0_turn_28 ?_
        refine lv_bipush (v := 8) hx hb dX0_turn_29 (by decide) ?_
        refine lv_ishr hx hb dX0_turn_31 ?_
        refine xast (k := i) (ws1 := [(b, .inr (0, [.ref mt, .ref ps, .ref tu, .int fa, .ref co, .ref ha])), (tu, .inl (cs 0, 64, .inl tf)), (co, .inl (cs 0, 64, .inl C)), (ha, .inl (cs 0, 64, .inl (ovr hf (half C) (i + 1))))]) hF hX hP hD hS 3 rfl (nI_clamp (by omega)) (vp_in_nI (by omega) (by omega)) dX0_turn_32 (congrArg (fun z9 => ([(b, .inr (0, [.ref mt, .ref ps, .ref tu, .int fa, .ref co, .ref ha])), (tu, .inl (cs 0, 64, .inl tf)), (co, .inl (cs 0, 64, .inl C)), (ha, .inl (cs 0, 64, .inl z9))] : va_W)) (ovr_s hf (half C) i rfl)) (fun Hp locs hP hD hS => ?_)
        refine lv_iinc (v := (nI (i + 1))) (lv' := [(1, .int (nI (i + 1))), (0, .ref b)]) hx hb dX0_turn_33 hl (k := 1) rfl (nI_1 i) (by decide) rfl (fun ls hl => ?_)
        refine lv_goto (tgt := 2) hx hb dX0_turn_36 (by decide) ?_
        exact ih_2 (i + 1) (by omega) (by omega) _ _ _ hP hD hS (lv_sub hl [1, 0] rfl)
  have hP := xeqP hP (congrArg (fun z9 => ([(b, .inr (0, [.ref mt, .ref ps, .ref tu, .int fa, .ref co, .ref ha])), (tu, .inl (cs 0, 64, .inl tf)), (co, .inl (cs 0, 64, .inl C)), (ha, .inl (cs 0, 64, .inl z9))] : va_W)) ((ovr_0 hf (half C)).symm))
  have hD := xeqD hD (congrArg (fun z9 => ([(b, .inr (0, [.ref mt, .ref ps, .ref tu, .int fa, .ref co, .ref ha])), (tu, .inl (cs 0, 64, .inl tf)), (co, .inl (cs 0, 64, .inl C)), (ha, .inl (cs 0, 64, .inl z9))] : va_W)) ((ovr_0 hf (half C)).symm))
  exact loop_2 (64 - 0 + 1) 0 (Nat.lt_succ_self _) (by decide) _ _ _ hP hD hS (lv_sub hl [1, 0] rfl)

set_option maxHeartbeats 4000000 in
set_option maxRecDepth 100000 in
theorem c_X0_scaled (l : Launch) (D : va_G) (cs : Nat → ClassId) (tt : Nat → Nat) (b mt ps tu co ha : Nat) (fa : Int32) (db nb : Int32)  : xM l yX0_scaled wsX0_scaled ({ frames := 1, cells := 0, slots := 0, locals := 22 } : Room) D cs tt [.ref b, .int db, .int nb] [(b, .inr (0, [.ref mt, .ref ps, .ref tu, .int fa, .ref co, .ref ha]))] (some (.int (scl fa db nb))) [(b, .inr (0, [.ref mt, .ref ps, .ref tu, .int fa, .ref co, .ref ha]))] := by
  refine xM.of RX0 rfl (by decide) rfl (Nat.le_of_ble_eq_true rfl) ?_
  intro p e s m below meth c A ls hF hr hlk hX hP hD hS hl
  have hx := hF.1
  have hb := hF.2.1
  have hl : lv_has ls 4 [(0, .ref b), (1, .int db), (2, .int nb)] := hl
  refine lv_iload_n hx hb dX0_scaled_0 rfl (lv_at hl 1 rfl) ?_
  refine lv_aload_n hx hb dX0_scaled_1 rfl (lv_at hl 0 rfl) ?_
  refine xget (C := RX0) (T := TX0) (N := 6) hF hX hP (by decide +kernel) 0 3 rfl rfl (by decide) (by decide +kernel) rfl dX0_scaled_2 ?_
  refine lv_imul hx hb dX0_scaled_5 ?_
  refine lv_iload_n hx hb dX0_scaled_6 rfl (lv_at hl 2 rfl) ?_
  refine lv_imul hx hb dX0_scaled_7 ?_
  refine lv_bipush (v := 16) hx hb dX0_scaled_8 (by decide) ?_
  refine lv_idiv hx hb dX0_scaled_10 (by decide) ?_
  refine lv_istore_n (lv' := [(3, .int (((db * fa) * nb) / 16)), (0, .ref b), (1, .int db), (2, .int nb)]) hx hb dX0_scaled_11 rfl hl (by decide) rfl (fun ls hl => ?_)
  refine lv_iload_n hx hb dX0_scaled_12 rfl (lv_at hl 0 rfl) ?_
  refine lv_iconst (v := 1) hx hb dX0_scaled_13 (by decide) ?_
  refine lv_iand hx hb dX0_scaled_14 ?_
  refine lv_if_ne (tgt := 25) hx hb dX0_scaled_15 (by decide) (fun c_15 => ?_) (fun c_15 => ?_)
  · refine lv_iload_n hx hb dX0_scaled_25 rfl (lv_at hl 0 rfl) ?_
    refine lv_sipush (v := (-2048)) hx hb dX0_scaled_26 (by decide) ?_
    refine lv_sipush (v := 2047) hx hb dX0_scaled_29 (by decide) ?_
    refine xSN (host := RX6) (rest := []) (As := [.int (((db * fa) * nb) / 16), .int (-2048), .int 2047]) (ws1 := [(b, .inr (0, [.ref mt, .ref ps, .ref tu, .int fa, .ref co, .ref ha]))]) (st1 := [.int (bnd (((db * fa) * nb) / 16) (-2048) 2047)]) hF (c_X6_bounded l D cs tt (((db * fa) * nb) / 16) (-2048) 2047) gX0_scaled_X6_bounded_n49 rfl (by decide +kernel) (by decide +kernel) (by decide +kernel) (n := 3) (by decide +kernel) rfl ⟨⟨rfl, rfl⟩, Nat.le_of_ble_eq_true rfl, Nat.le_of_ble_eq_true rfl⟩ ⟨Nat.le_of_ble_eq_true rfl, Nat.le_of_ble_eq_true rfl⟩ hX hP hD hS [] (by decide) rfl [] rfl rfl hl.1 rfl (Nat.le_of_ble_eq_true rfl) dX0_scaled_32 rfl rfl (fun Hp locs hP hD hS => ?_)
    refine xrwi (z := (scl fa db nb)) (by simp [scl, c_15]) ?_
    exact xri (Q9 := fun _ _ _ _ => True) hF hr hlk hP hD hS dX0_scaled_35
  · refine lv_iload_n hx hb dX0_scaled_18 rfl (lv_at hl 0 rfl) ?_
    refine lv_iload_n hx hb dX0_scaled_19 rfl (lv_at hl 0 rfl) ?_
    refine xSt (rest := [.int (((db * fa) * nb) / 16)]) (As := [.int (((db * fa) * nb) / 16)]) (ws1 := [(b, .inr (0, [.ref mt, .ref ps, .ref tu, .int fa, .ref co, .ref ha]))]) (st1 := [.int (sgn (((db * fa) * nb) / 16)), .int (((db * fa) * nb) / 16)]) hF (c_J6_signum_0f7a4 l D cs tt (((db * fa) * nb) / 16)) gX0_scaled_J6_signum_0f7a4 rfl (n := 1) (by decide +kernel) rfl ⟨⟨rfl, rfl⟩, Nat.le_of_ble_eq_true rfl, Nat.le_of_ble_eq_true rfl⟩ ⟨Nat.le_of_ble_eq_true rfl, Nat.le_of_ble_eq_true rfl⟩ hX hP hD hS [] (by decide) rfl [] rfl rfl hl.1 rfl (Nat.le_of_ble_eq_true rfl) dX0_scaled_20 rfl rfl (fun Hp locs hP hD hS => ?_)
    refine lv_isub hx hb dX0_scaled_23 ?_
    refine lv_istore_n (lv' := [(3, .int ((((db * fa) * nb) / 16) - (sgn (((db * fa) * nb) / 16)))), (0, .ref b), (1, .int db), (2, .int nb)]) hx hb dX0_scaled_24 rfl hl (by decide) rfl (fun ls hl => ?_)
    refine lv_iload_n hx hb dX0_scaled_25 rfl (lv_at hl 0 rfl) ?_
    refine lv_sipush (v := (-2048)) hx hb dX0_scaled_26 (by decide) ?_
    refine lv_sipush (v := 2047) hx hb dX0_scaled_29 (by decide) ?_
    refine xSN (host := RX6) (rest := []) (As := [.int ((((db * fa) * nb) / 16) - (sgn (((db * fa) * nb) / 16))), .int (-2048), .int 2047]) (ws1 := [(b, .inr (0, [.ref mt, .ref ps, .ref tu, .int fa, .ref co, .ref ha]))]) (st1 := [.int (bnd ((((db * fa) * nb) / 16) - (sgn (((db * fa) * nb) / 16))) (-2048) 2047)]) hF (c_X6_bounded l D cs tt ((((db * fa) * nb) / 16) - (sgn (((db * fa) * nb) / 16))) (-2048) 2047) gX0_scaled_X6_bounded_n49 rfl (by decide +kernel) (by decide +kernel) (by decide +kernel) (n := 3) (by decide +kernel) rfl ⟨⟨rfl, rfl⟩, Nat.le_of_ble_eq_true rfl, Nat.le_of_ble_eq_true rfl⟩ ⟨Nat.le_of_ble_eq_true rfl, Nat.le_of_ble_eq_true rfl⟩ hX hP hD hS [] (by decide) rfl [] rfl rfl hl.1 rfl (Nat.le_of_ble_eq_true rfl) dX0_scaled_32 rfl rfl (fun Hp locs hP hD hS => ?_)
    refine xrwi (z := (scl fa db nb)) (by simp [scl, c_15]) ?_
    exact xri (Q9 := fun _ _ _ _ => True) hF hr hlk hP hD hS dX0_scaled_35

set_option maxHeartbeats 4000000 in
set_option maxRecDepth 100000 in
theorem c_X0_forgetPasts (l : Launch) (D : va_G) (cs : Nat → ClassId) (tt : Nat → Nat) (b mt ps tu co ha : Nat) (fa : Int32) (P : Nat → Int32)  : xM l yX0_forgetPasts wsX0_forgetPasts ({ frames := 1, cells := 0, slots := 0, locals := 23 } : Room) D cs tt [.ref b] [(b, .inr (0, [.ref mt, .ref ps, .ref tu, .int fa, .ref co, .ref ha])), (ps, .inl (cs 0, 3, .inl P))] none [(b, .inr (0, [.ref mt, .ref ps, .ref tu, .int fa, .ref co, .ref ha])), (ps, .inl (cs 0, 3, .inl (fun _ => 1024)))] := by
  refine xM.of RX0 rfl (by decide) rfl (Nat.le_of_ble_eq_true rfl) ?_
  intro p e s m below meth c A ls hF hr hlk hX hP hD hS hl
  have hx := hF.1
  have hb := hF.2.1
  have hl : lv_has ls 1 [(0, .ref b)] := hl
  refine lv_aload_n hx hb dX0_forgetPasts_0 rfl (lv_at hl 0 rfl) ?_
  refine xget (C := RX0) (T := TX0) (N := 6) hF hX hP (by decide +kernel) 0 1 rfl rfl (by decide) (by decide +kernel) rfl dX0_forgetPasts_1 ?_
  refine lv_sipush (v := 1024) hx hb dX0_forgetPasts_4 (by decide) ?_
  refine xSt (rest := []) (As := [.ref ps, .int 1024]) (ws1 := [(b, .inr (0, [.ref mt, .ref ps, .ref tu, .int fa, .ref co, .ref ha])), (ps, .inl (cs 0, 3, .inl (fun _ => 1024)))]) (st1 := []) hF (c_J7_fill_53178 l D cs tt ps 3 P 1024 (by decide)) gX0_forgetPasts_J7_fill_53178 rfl (n := 2) (by decide +kernel) rfl ⟨⟨rfl, rfl⟩, Nat.le_of_ble_eq_true rfl, Nat.le_of_ble_eq_true rfl⟩ ⟨Nat.le_of_ble_eq_true rfl, Nat.le_of_ble_eq_true rfl⟩ hX hP hD hS [1] (by decide) rfl [ps] rfl rfl hl.1 rfl (Nat.le_of_ble_eq_true rfl) dX0_forgetPasts_7 rfl rfl (fun Hp locs hP hD hS => ?_)
  exact xrv hF hr hlk hP hD hS dX0_forgetPasts_10

set_option maxHeartbeats 4000000 in
set_option maxRecDepth 100000 in
theorem c_X0_prepare (l : Launch) (D : va_G) (cs : Nat → ClassId) (tt : Nat → Nat) (b mt ps tu co ha : Nat) (fa : Int32) (P : Nat → Int32)  : xM l yX0_prepare wsX0_prepare ({ frames := 2, cells := 0, slots := 0, locals := 43 } : Room) D cs tt [.ref b] [(b, .inr (0, [.ref mt, .ref ps, .ref tu, .int fa, .ref co, .ref ha])), (ps, .inl (cs 0, 3, .inl P))] none [(b, .inr (0, [.ref mt, .ref ps, .ref tu, .int 1, .ref co, .ref ha])), (ps, .inl (cs 0, 3, .inl (fun _ => 1024)))] := by
  refine xM.of RX0 rfl (by decide) rfl (Nat.le_of_ble_eq_true rfl) ?_
  intro p e s m below meth c A ls hF hr hlk hX hP hD hS hl
  have hx := hF.1
  have hb := hF.2.1
  have hl : lv_has ls 1 [(0, .ref b)] := hl
  refine lv_aload_n hx hb dX0_prepare_0 rfl (lv_at hl 0 rfl) ?_
  refine lv_iconst (v := 1) hx hb dX0_prepare_1 (by decide) ?_
  refine xputf (C := RX0) (T := TX0) (N := 6) (ws1 := [(b, .inr (0, [.ref mt, .ref ps, .ref tu, .int 1, .ref co, .ref ha])), (ps, .inl (cs 0, 3, .inl P))]) hF hX hP hD hS (by decide +kernel) tyX0 tyX0_ok nmX0 0 3 rfl rfl (by decide) (by decide +kernel) rfl (rfl) (rfl) (Nat.le_of_ble_eq_true rfl) dX0_prepare_2 rfl (fun Hp locs hP hD hS => ?_)
  refine lv_aload_n hx hb dX0_prepare_5 rfl (lv_at hl 0 rfl) ?_
  refine xV (rest := []) (As := []) (ws1 := [(b, .inr (0, [.ref mt, .ref ps, .ref tu, .int 1, .ref co, .ref ha])), (ps, .inl (cs 0, 3, .inl (fun _ => 1024)))]) (st1 := []) hF (c_X0_forgetPasts l D cs tt b mt ps tu co ha 1 P) gX0_prepare_X0_forgetPasts rfl (n := 0) (by decide +kernel) rfl ⟨⟨rfl, rfl⟩, Nat.le_of_ble_eq_true rfl, Nat.le_of_ble_eq_true rfl⟩ ⟨Nat.le_of_ble_eq_true rfl, Nat.le_of_ble_eq_true rfl⟩ hX hP hD hS [0, 1] (by decide) rfl [b, ps] rfl rfl (q0 := 0) (ci := 0) rfl rfl rfl hl.1 rfl (Nat.le_of_ble_eq_true rfl) dX0_prepare_6 rfl rfl (fun Hp locs hP hD hS => ?_)
  exact xrv hF hr hlk hP hD hS dX0_prepare_9

set_option maxHeartbeats 4000000 in
set_option maxRecDepth 100000 in
theorem c_X0_clear (l : Launch) (D : va_G) (cs : Nat → ClassId) (tt : Nat → Nat) (b mt ps tu co ha m0 m1 : Nat) (fa : Int32) (mf : Nat → Option Nat) (M0 M1 P : Nat → Int32) (hm0 : mf 0 = some m0) (hm1 : mf 1 = some m1) : xM l yX0_clear wsX0_clear ({ frames := 3, cells := 0, slots := 0, locals := 63 } : Room) D cs tt [.ref b] [(b, .inr (0, [.ref mt, .ref ps, .ref tu, .int fa, .ref co, .ref ha])), (mt, .inl (cs 3, 2, .inr (.inr (.inr (.inr mf))))), (m0, .inl (cs 0, 64, .inl M0)), (m1, .inl (cs 0, 64, .inl M1)), (ps, .inl (cs 0, 3, .inl P))] none [(b, .inr (0, [.ref mt, .ref ps, .ref tu, .int 1, .ref co, .ref ha])), (mt, .inl (cs 3, 2, .inr (.inr (.inr (.inr mf))))), (m0, .inl (cs 0, 64, .inl (upd (fun _ => 16) 0 8))), (m1, .inl (cs 0, 64, .inl (fun _ => 16))), (ps, .inl (cs 0, 3, .inl (fun _ => 1024)))] := by
  refine xM.of RX0 rfl (by decide) rfl (Nat.le_of_ble_eq_true rfl) ?_
  intro p e s m below meth c A ls hF hr hlk hX hP hD hS hl
  have hx := hF.1
  have hb := hF.2.1
  have hl : lv_has ls 1 [(0, .ref b)] := hl
  refine lv_aload_n hx hb dX0_clear_0 rfl (lv_at hl 0 rfl) ?_
  refine xget (C := RX0) (T := TX0) (N := 6) hF hX hP (by decide +kernel) 0 0 rfl rfl (by decide) (by decide +kernel) rfl dX0_clear_1 ?_
  refine lv_iconst (v := 0) hx hb dX0_clear_4 (by decide) ?_
  refine xaaldI (k := 0) (v := m0) hF hX hP 1 rfl (rfl) (vp_in_nI (n := 0) (by decide) (by decide)) (hm0) dX0_clear_5 ?_
  refine lv_bipush (v := 16) hx hb dX0_clear_6 (by decide) ?_
  refine xSt (rest := []) (As := [.ref m0, .int 16]) (ws1 := [(b, .inr (0, [.ref mt, .ref ps, .ref tu, .int fa, .ref co, .ref ha])), (mt, .inl (cs 3, 2, .inr (.inr (.inr (.inr mf))))), (m0, .inl (cs 0, 64, .inl (fun _ => 16))), (m1, .inl (cs 0, 64, .inl M1)), (ps, .inl (cs 0, 3, .inl P))]) (st1 := []) hF (c_J7_fill_53178 l D cs tt m0 64 M0 16 (by decide)) gX0_clear_J7_fill_53178 rfl (n := 2) (by decide +kernel) rfl ⟨⟨rfl, rfl⟩, Nat.le_of_ble_eq_true rfl, Nat.le_of_ble_eq_true rfl⟩ ⟨Nat.le_of_ble_eq_true rfl, Nat.le_of_ble_eq_true rfl⟩ hX hP hD hS [2] (by decide) rfl [m0] rfl rfl hl.1 rfl (Nat.le_of_ble_eq_true rfl) dX0_clear_8 rfl rfl (fun Hp locs hP hD hS => ?_)
  refine lv_aload_n hx hb dX0_clear_11 rfl (lv_at hl 0 rfl) ?_
  refine xget (C := RX0) (T := TX0) (N := 6) hF hX hP (by decide +kernel) 0 0 rfl rfl (by decide) (by decide +kernel) rfl dX0_clear_12 ?_
  refine lv_iconst (v := 1) hx hb dX0_clear_15 (by decide) ?_
  refine xaaldI (k := 1) (v := m1) hF hX hP 1 rfl (rfl) (vp_in_nI (n := 1) (by decide) (by decide)) (hm1) dX0_clear_16 ?_
  refine lv_bipush (v := 16) hx hb dX0_clear_17 (by decide) ?_
  refine xSt (rest := []) (As := [.ref m1, .int 16]) (ws1 := [(b, .inr (0, [.ref mt, .ref ps, .ref tu, .int fa, .ref co, .ref ha])), (mt, .inl (cs 3, 2, .inr (.inr (.inr (.inr mf))))), (m0, .inl (cs 0, 64, .inl (fun _ => 16))), (m1, .inl (cs 0, 64, .inl (fun _ => 16))), (ps, .inl (cs 0, 3, .inl P))]) (st1 := []) hF (c_J7_fill_53178 l D cs tt m1 64 M1 16 (by decide)) gX0_clear_J7_fill_53178 rfl (n := 2) (by decide +kernel) rfl ⟨⟨rfl, rfl⟩, Nat.le_of_ble_eq_true rfl, Nat.le_of_ble_eq_true rfl⟩ ⟨Nat.le_of_ble_eq_true rfl, Nat.le_of_ble_eq_true rfl⟩ hX hP hD hS [3] (by decide) rfl [m1] rfl rfl hl.1 rfl (Nat.le_of_ble_eq_true rfl) dX0_clear_19 rfl rfl (fun Hp locs hP hD hS => ?_)
  refine lv_aload_n hx hb dX0_clear_22 rfl (lv_at hl 0 rfl) ?_
  refine xget (C := RX0) (T := TX0) (N := 6) hF hX hP (by decide +kernel) 0 0 rfl rfl (by decide) (by decide +kernel) rfl dX0_clear_23 ?_
  refine lv_iconst (v := 0) hx hb dX0_clear_26 (by decide) ?_
  refine xaaldI (k := 0) (v := m0) hF hX hP 1 rfl (rfl) (vp_in_nI (n := 0) (by decide) (by decide)) (hm0) dX0_clear_27 ?_
  refine lv_iconst (v := 0) hx hb dX0_clear_28 (by decide) ?_
  refine lv_bipush (v := 8) hx hb dX0_clear_29 (by decide) ?_
  refine xast (k := 0) (ws1 := [(b, .inr (0, [.ref mt, .ref ps, .ref tu, .int fa, .ref co, .ref ha])), (mt, .inl (cs 3, 2, .inr (.inr (.inr (.inr mf))))), (m0, .inl (cs 0, 64, .inl (upd (fun _ => 16) 0 8))), (m1, .inl (cs 0, 64, .inl (fun _ => 16))), (ps, .inl (cs 0, 3, .inl P))]) hF hX hP hD hS 2 rfl (rfl) (vp_in_nI (n := 0) (by decide) (by decide)) dX0_clear_31 rfl (fun Hp locs hP hD hS => ?_)
  refine lv_aload_n hx hb dX0_clear_32 rfl (lv_at hl 0 rfl) ?_
  refine xV (rest := []) (As := []) (ws1 := [(b, .inr (0, [.ref mt, .ref ps, .ref tu, .int 1, .ref co, .ref ha])), (mt, .inl (cs 3, 2, .inr (.inr (.inr (.inr mf))))), (m0, .inl (cs 0, 64, .inl (upd (fun _ => 16) 0 8))), (m1, .inl (cs 0, 64, .inl (fun _ => 16))), (ps, .inl (cs 0, 3, .inl (fun _ => 1024)))]) (st1 := []) hF (c_X0_prepare l D cs tt b mt ps tu co ha fa P) gX0_clear_X0_prepare rfl (n := 0) (by decide +kernel) rfl ⟨⟨rfl, rfl⟩, Nat.le_of_ble_eq_true rfl, Nat.le_of_ble_eq_true rfl⟩ ⟨Nat.le_of_ble_eq_true rfl, Nat.le_of_ble_eq_true rfl⟩ hX hP hD hS [0, 4] (by decide) rfl [b, ps] rfl rfl (q0 := 0) (ci := 0) rfl rfl rfl hl.1 rfl (Nat.le_of_ble_eq_true rfl) dX0_clear_33 rfl rfl (fun Hp locs hP hD hS => ?_)
  exact xrv hF hr hlk hP hD hS dX0_clear_36

set_option maxHeartbeats 4000000 in
set_option maxRecDepth 100000 in
theorem c_X0_turnForItself (l : Launch) (D : va_G) (cs : Nat → ClassId) (tt : Nat → Nat) (b mt ps tu co ha m0 m1 lv k : Nat) (fa : Int32) (mf : Nat → Option Nat) (M0 M1 P Lv tf cf hf : Nat → Int32) (hm0 : mf 0 = some m0) (hm1 : mf 1 = some m1) (hk : k < 6) : xM l yX0_turnForItself wsX0_turnForItself ({ frames := 3, cells := 0, slots := 0, locals := 66 } : Room) D cs tt [.ref b, .ref lv, .int (nI k)] [(b, .inr (0, [.ref mt, .ref ps, .ref tu, .int fa, .ref co, .ref ha])), (mt, .inl (cs 3, 2, .inr (.inr (.inr (.inr mf))))), (m0, .inl (cs 0, 64, .inl M0)), (m1, .inl (cs 0, 64, .inl M1)), (ps, .inl (cs 0, 3, .inl P)), (tu, .inl (cs 0, 64, .inl tf)), (co, .inl (cs 0, 64, .inl cf)), (ha, .inl (cs 0, 64, .inl hf)), (lv, .inl (cs 0, 384, .inl Lv))] none [(b, .inr (0, [.ref mt, .ref ps, .ref tu, .int fa, .ref co, .ref ha])), (mt, .inl (cs 3, 2, .inr (.inr (.inr (.inr mf))))), (m0, .inl (cs 0, 64, .inl M0)), (m1, .inl (cs 0, 64, .inl M1)), (ps, .inl (cs 0, 3, .inl (upd P (pl k) (pst P Lv k)))), (tu, .inl (cs 0, 64, .inl (full (half (cof (fOwn P Lv M0 fa k)))))), (co, .inl (cs 0, 64, .inl (cof (fOwn P Lv M0 fa k)))), (ha, .inl (cs 0, 64, .inl (half (cof (fOwn P Lv M0 fa k))))), (lv, .inl (cs 0, 384, .inl Lv))] := by
  refine xM.of RX0 rfl (by decide) rfl (Nat.le_of_ble_eq_true rfl) ?_
  intro p e s m below meth c A ls hF hr hlk hX hP hD hS hl
  have hx := hF.1
  have hb := hF.2.1
  have hl : lv_has ls 6 [(0, .ref b), (1, .ref lv), (2, .int (nI k))] := hl
  have hpl := pl_lt hk
  refine lv_iload_n hx hb dX0_turnForItself_0 rfl (lv_at hl 2 rfl) ?_
  refine lv_bipush (v := 64) hx hb dX0_turnForItself_1 (by decide) ?_
  refine lv_imul hx hb dX0_turnForItself_3 ?_
  refine xrwi (z := nI (k * 64)) (pk_mul k 64) ?_
  refine lv_istore_n (lv' := [(3, .int (nI (k * 64))), (0, .ref b), (1, .ref lv), (2, .int (nI k))]) hx hb dX0_turnForItself_4 rfl hl (by decide) rfl (fun ls hl => ?_)
  refine lv_iload_n hx hb dX0_turnForItself_5 rfl (lv_at hl 3 rfl) ?_
  refine xSN (host := RX6) (rest := []) (As := [.int (nI k)]) (ws1 := [(b, .inr (0, [.ref mt, .ref ps, .ref tu, .int fa, .ref co, .ref ha])), (mt, .inl (cs 3, 2, .inr (.inr (.inr (.inr mf))))), (m0, .inl (cs 0, 64, .inl M0)), (m1, .inl (cs 0, 64, .inl M1)), (ps, .inl (cs 0, 3, .inl P)), (tu, .inl (cs 0, 64, .inl tf)), (co, .inl (cs 0, 64, .inl cf)), (ha, .inl (cs 0, 64, .inl hf)), (lv, .inl (cs 0, 384, .inl Lv))]) (st1 := [.int (pln (nI k))]) hF (c_X6_planeOf l D cs tt (nI k)) gX0_turnForItself_X6_planeOf_n45 rfl (by decide +kernel) (by decide +kernel) (by decide +kernel) (n := 1) (by decide +kernel) rfl ⟨⟨rfl, rfl⟩, Nat.le_of_ble_eq_true rfl, Nat.le_of_ble_eq_true rfl⟩ ⟨Nat.le_of_ble_eq_true rfl, Nat.le_of_ble_eq_true rfl⟩ hX hP hD hS [] (by decide) rfl [] rfl rfl hl.1 rfl (Nat.le_of_ble_eq_true rfl) dX0_turnForItself_6 rfl rfl (fun Hp locs hP hD hS => ?_)
  refine xrwi (z := nI (pl k)) (pln_pl hk) ?_
  refine lv_istore (lv' := [(4, .int (nI (pl k))), (3, .int (nI (k * 64))), (0, .ref b), (1, .ref lv), (2, .int (nI k))]) hx hb dX0_turnForItself_9 hl (by decide) rfl (fun ls hl => ?_)
  refine lv_aload_n hx hb dX0_turnForItself_11 rfl (lv_at hl 2 rfl) ?_
  refine xget (C := RX0) (T := TX0) (N := 6) hF hX hP (by decide +kernel) 0 1 rfl rfl (by decide) (by decide +kernel) rfl dX0_turnForItself_12 ?_
  refine lv_iload hx hb dX0_turnForItself_15 (lv_at hl 0 rfl) ?_
  refine lv_aload_n hx hb dX0_turnForItself_17 rfl (lv_at hl 2 rfl) ?_
  refine xget (C := RX0) (T := TX0) (N := 6) hF hX hP (by decide +kernel) 0 1 rfl rfl (by decide) (by decide +kernel) rfl dX0_turnForItself_18 ?_
  refine lv_iload hx hb dX0_turnForItself_21 (lv_at hl 0 rfl) ?_
  refine xald (k := pl k) hF hX hP 4 rfl (nI_clamp (by omega)) (vp_in_nI (by omega) (by omega)) dX0_turnForItself_23 ?_
  refine lv_bipush (v := 8) hx hb dX0_turnForItself_24 (by decide) ?_
  refine lv_aload_n hx hb dX0_turnForItself_26 rfl (lv_at hl 3 rfl) ?_
  refine lv_iload_n hx hb dX0_turnForItself_27 rfl (lv_at hl 1 rfl) ?_
  refine xald (k := k * 64) hF hX hP 8 rfl (nI_clamp (by omega)) (vp_in_nI (by omega) (by omega)) dX0_turnForItself_28 ?_
  refine lv_imul hx hb dX0_turnForItself_29 ?_
  refine lv_iadd hx hb dX0_turnForItself_30 ?_
  refine lv_iconst (v := 0) hx hb dX0_turnForItself_31 (by decide) ?_
  refine lv_sipush (v := 2040) hx hb dX0_turnForItself_32 (by decide) ?_
  refine xSN (host := RX6) (rest := [.int (nI (pl k)), .ref ps]) (As := [.int ((P (pl k)) + (8 * (Lv (k * 64)))), .int 0, .int 2040]) (ws1 := [(b, .inr (0, [.ref mt, .ref ps, .ref tu, .int fa, .ref co, .ref ha])), (mt, .inl (cs 3, 2, .inr (.inr (.inr (.inr mf))))), (m0, .inl (cs 0, 64, .inl M0)), (m1, .inl (cs 0, 64, .inl M1)), (ps, .inl (cs 0, 3, .inl P)), (tu, .inl (cs 0, 64, .inl tf)), (co, .inl (cs 0, 64, .inl cf)), (ha, .inl (cs 0, 64, .inl hf)), (lv, .inl (cs 0, 384, .inl Lv))]) (st1 := [.int (bnd ((P (pl k)) + (8 * (Lv (k * 64)))) 0 2040), .int (nI (pl k)), .ref ps]) hF (c_X6_bounded l D cs tt ((P (pl k)) + (8 * (Lv (k * 64)))) 0 2040) gX0_turnForItself_X6_bounded_n49 rfl (by decide +kernel) (by decide +kernel) (by decide +kernel) (n := 3) (by decide +kernel) rfl ⟨⟨rfl, rfl⟩, Nat.le_of_ble_eq_true rfl, Nat.le_of_ble_eq_true rfl⟩ ⟨Nat.le_of_ble_eq_true rfl, Nat.le_of_ble_eq_true rfl⟩ hX hP hD hS [] (by decide) rfl [] rfl rfl hl.1 rfl (Nat.le_of_ble_eq_true rfl) dX0_turnForItself_35 rfl rfl (fun Hp locs hP hD hS => ?_)
  refine xast (k := pl k) (ws1 := [(b, .inr (0, [.ref mt, .ref ps, .ref tu, .int fa, .ref co, .ref ha])), (mt, .inl (cs 3, 2, .inr (.inr (.inr (.inr mf))))), (m0, .inl (cs 0, 64, .inl M0)), (m1, .inl (cs 0, 64, .inl M1)), (ps, .inl (cs 0, 3, .inl (upd P (pl k) (bnd ((P (pl k)) + (8 * (Lv (k * 64)))) 0 2040)))), (tu, .inl (cs 0, 64, .inl tf)), (co, .inl (cs 0, 64, .inl cf)), (ha, .inl (cs 0, 64, .inl hf)), (lv, .inl (cs 0, 384, .inl Lv))]) hF hX hP hD hS 4 rfl (nI_clamp (by omega)) (vp_in_nI hpl (by decide)) dX0_turnForItself_38 rfl (fun Hp locs hP hD hS => ?_)
  refine lv_aload_n hx hb dX0_turnForItself_39 rfl (lv_at hl 2 rfl) ?_
  refine xget (C := RX0) (T := TX0) (N := 6) hF hX hP (by decide +kernel) 0 4 rfl rfl (by decide) (by decide +kernel) rfl dX0_turnForItself_40 ?_
  refine lv_iconst (v := 0) hx hb dX0_turnForItself_43 (by decide) ?_
  refine lv_aload_n hx hb dX0_turnForItself_44 rfl (lv_at hl 2 rfl) ?_
  refine xget (C := RX0) (T := TX0) (N := 6) hF hX hP (by decide +kernel) 0 1 rfl rfl (by decide) (by decide +kernel) rfl dX0_turnForItself_45 ?_
  refine lv_iload hx hb dX0_turnForItself_48 (lv_at hl 0 rfl) ?_
  refine xald (k := pl k) hF hX hP 4 rfl (nI_clamp (by omega)) (vp_in_nI (by omega) (by omega)) dX0_turnForItself_50 ?_
  refine xrwi (z := pst P Lv k) (pk_us) ?_
  refine xast (k := 0) (ws1 := [(b, .inr (0, [.ref mt, .ref ps, .ref tu, .int fa, .ref co, .ref ha])), (mt, .inl (cs 3, 2, .inr (.inr (.inr (.inr mf))))), (m0, .inl (cs 0, 64, .inl M0)), (m1, .inl (cs 0, 64, .inl M1)), (ps, .inl (cs 0, 3, .inl (upd P (pl k) (bnd ((P (pl k)) + (8 * (Lv (k * 64)))) 0 2040)))), (tu, .inl (cs 0, 64, .inl tf)), (co, .inl (cs 0, 64, .inl (coTo cf (fOwn P Lv M0 fa k) 1))), (ha, .inl (cs 0, 64, .inl hf)), (lv, .inl (cs 0, 384, .inl Lv))]) hF hX hP hD hS 6 rfl (rfl) (vp_in_nI (n := 0) (by decide) (by decide)) dX0_turnForItself_51 (congrArg (fun z9 => ([(b, .inr (0, [.ref mt, .ref ps, .ref tu, .int fa, .ref co, .ref ha])), (mt, .inl (cs 3, 2, .inr (.inr (.inr (.inr mf))))), (m0, .inl (cs 0, 64, .inl M0)), (m1, .inl (cs 0, 64, .inl M1)), (ps, .inl (cs 0, 3, .inl (upd P (pl k) (bnd ((P (pl k)) + (8 * (Lv (k * 64)))) 0 2040)))), (tu, .inl (cs 0, 64, .inl tf)), (co, .inl (cs 0, 64, .inl z9)), (ha, .inl (cs 0, 64, .inl hf)), (lv, .inl (cs 0, 384, .inl Lv))] : va_W)) ((by have h := coTo_s cf (fOwn P Lv M0 fa k) (i := 0) (by decide) (v := pst P Lv k) rfl; rw [coTo_0] at h; exact h))) (fun Hp locs hP hD hS => ?_)
  refine lv_iconst (v := 1) hx hb dX0_turnForItself_52 (by decide) ?_
  refine lv_istore (lv' := [(5, .int 1), (4, .int (nI (pl k))), (3, .int (nI (k * 64))), (0, .ref b), (1, .ref lv), (2, .int (nI k))]) hx hb dX0_turnForItself_53 hl (by decide) rfl (fun ls hl => ?_)
  have loop_55 : ∀ (k55 : Nat) (i : Nat), 64 - i < k55 → i ≤ 64 → 1 ≤ i → ∀ (Hp : Heap) (locs : List Loc) (ls : Array Slot), va_P D vwCl [(b, .inr (0, [.ref mt, .ref ps, .ref tu, .int fa, .ref co, .ref ha])), (mt, .inl (cs 3, 2, .inr (.inr (.inr (.inr mf))))), (m0, .inl (cs 0, 64, .inl M0)), (m1, .inl (cs 0, 64, .inl M1)), (ps, .inl (cs 0, 3, .inl (upd P (pl k) (pst P Lv k)))), (tu, .inl (cs 0, 64, .inl tf)), (co, .inl (cs 0, 64, .inl (coTo cf (fOwn P Lv M0 fa k) i))), (ha, .inl (cs 0, 64, .inl hf)), (lv, .inl (cs 0, 384, .inl Lv))] Hp → va_D A [(b, .inr (0, [.ref mt, .ref ps, .ref tu, .int fa, .ref co, .ref ha])), (mt, .inl (cs 3, 2, .inr (.inr (.inr (.inr mf))))), (m0, .inl (cs 0, 64, .inl M0)), (m1, .inl (cs 0, 64, .inl M1)), (ps, .inl (cs 0, 3, .inl (upd P (pl k) (pst P Lv k)))), (tu, .inl (cs 0, 64, .inl tf)), (co, .inl (cs 0, 64, .inl (coTo cf (fOwn P Lv M0 fa k) i))), (ha, .inl (cs 0, 64, .inl hf)), (lv, .inl (cs 0, 384, .inl Lv))] → va_S A s.heap Hp locs → lv_has ls 6 [(0, .ref b), (1, .ref lv), (3, .int (nI (k * 64))), (5, .int (nI i))] → xW p l e ({ frames := 3, cells := 0, slots := 0, locals := 66 } : Room) s m ([.ref b, .ref lv, .int (nI k)] : List Value).toArray below meth c Hp locs 0 0 (MQ below (xE D A none [(b, .inr (0, [.ref mt, .ref ps, .ref tu, .int fa, .ref co, .ref ha])), (mt, .inl (cs 3, 2, .inr (.inr (.inr (.inr mf))))), (m0, .inl (cs 0, 64, .inl M0)), (m1, .inl (cs 0, 64, .inl M1)), (ps, .inl (cs 0, 3, .inl (upd P (pl k) (pst P Lv k)))), (tu, .inl (cs 0, 64, .inl (full (half (cof (fOwn P Lv M0 fa k)))))), (co, .inl (cs 0, 64, .inl (cof (fOwn P Lv M0 fa k)))), (ha, .inl (cs 0, 64, .inl (half (cof (fOwn P Lv M0 fa k))))), (lv, .inl (cs 0, 384, .inl Lv))]) ([.ref b, .ref lv, .int (nI k)] : List Value).toArray s 0 0 A) (F0 m 55 ls []) := by
    intro k55
    induction k55 with
    | zero => intro i h9; omega
    | succ k55 ih_55 =>
      intro i hk55 hi hi1 Hp locs ls hP hD hS hl
      refine lv_iload hx hb dX0_turnForItself_55 (lv_at hl 3 rfl) ?_
      refine lv_bipush (v := 64) hx hb dX0_turnForItself_57 (by decide) ?_
      refine lv_icmp_ge (tgt := 104) hx hb dX0_turnForItself_59 (by decide) (fun c_59 => ?_) (fun c_59 => ?_)
      · have e9 : i = 64 := by have := nIle (a := 64) (b := i) rfl rfl (by decide) (by omega) c_59; omega
        have hP1 : va_P D vwCl [(b, .inr (0, [.ref mt, .ref ps, .ref tu, .int fa, .ref co, .ref ha])), (mt, .inl (cs 3, 2, .inr (.inr (.inr (.inr mf))))), (m0, .inl (cs 0, 64, .inl M0)), (m1, .inl (cs 0, 64, .inl M1)), (ps, .inl (cs 0, 3, .inl (upd P (pl k) (pst P Lv k)))), (tu, .inl (cs 0, 64, .inl tf)), (co, .inl (cs 0, 64, .inl (cof (fOwn P Lv M0 fa k)))), (ha, .inl (cs 0, 64, .inl hf)), (lv, .inl (cs 0, 384, .inl Lv))] Hp := xcongP (g := (cof (fOwn P Lv M0 fa k))) hP 6 rfl hD (fun j hj => by unfold coTo cof; rw [e9, if_pos (zI_lt j hj)])
        have hD : va_D A [(b, .inr (0, [.ref mt, .ref ps, .ref tu, .int fa, .ref co, .ref ha])), (mt, .inl (cs 3, 2, .inr (.inr (.inr (.inr mf))))), (m0, .inl (cs 0, 64, .inl M0)), (m1, .inl (cs 0, 64, .inl M1)), (ps, .inl (cs 0, 3, .inl (upd P (pl k) (pst P Lv k)))), (tu, .inl (cs 0, 64, .inl tf)), (co, .inl (cs 0, 64, .inl (cof (fOwn P Lv M0 fa k)))), (ha, .inl (cs 0, 64, .inl hf)), (lv, .inl (cs 0, 384, .inl Lv))] := xcongD (g := (cof (fOwn P Lv M0 fa k))) 6 rfl hD
        have hP := hP1
        refine lv_aload_n hx hb dX0_turnForItself_104 rfl (lv_at hl 0 rfl) ?_
        refine xVM [true, false, false, false, false, true, true, true, false] (rest := []) (As := []) (ws1 := [(b, .inr (0, [.ref mt, .ref ps, .ref tu, .int fa, .ref co, .ref ha])), (mt, .inl (cs 3, 2, .inr (.inr (.inr (.inr mf))))), (m0, .inl (cs 0, 64, .inl M0)), (m1, .inl (cs 0, 64, .inl M1)), (ps, .inl (cs 0, 3, .inl (upd P (pl k) (pst P Lv k)))), (tu, .inl (cs 0, 64, .inl (full (half (cof (fOwn P Lv M0 fa k)))))), (co, .inl (cs 0, 64, .inl (cof (fOwn P Lv M0 fa k)))), (ha, .inl (cs 0, 64, .inl (half (cof (fOwn P Lv M0 fa k))))), (lv, .inl (cs 0, 384, .inl Lv))]) (st1 := []) hF (c_X0_turn l D cs tt b mt ps tu co ha fa (cof (fOwn P Lv M0 fa k)) tf hf) gX0_turnForItself_X0_turn rfl (n := 0) (by decide +kernel) rfl ⟨⟨rfl, rfl⟩, Nat.le_of_ble_eq_true rfl, Nat.le_of_ble_eq_true rfl⟩ ⟨Nat.le_of_ble_eq_true rfl, Nat.le_of_ble_eq_true rfl⟩ hX hP hD hS rfl [b, tu, co, ha] rfl rfl (q0 := 0) (ci := 0) rfl rfl rfl hl.1 rfl (Nat.le_of_ble_eq_true rfl) dX0_turnForItself_105 rfl rfl (fun Hp locs hP hD hS => ?_)
        exact xrv hF hr hlk hP hD hS dX0_turnForItself_108
      · have hlt : i < 64 := nInle (a := 64) (b := i) rfl rfl (by decide) (by omega) c_59
        have hz := zN_lt i hlt
        refine lv_aload_n hx hb dX0_turnForItself_62 rfl (lv_at hl 0 rfl) ?_
        refine xget (C := RX0) (T := TX0) (N := 6) hF hX hP (by decide +kernel) 0 4 rfl rfl (by decide) (by decide +kernel) rfl dX0_turnForItself_63 ?_
        refine va_gets (C := RX0) (n := "ZIGZAG") (d := "[I") (own := RX0) (ref := RX0) hx hb hX.2.1.1.1 hS hF.2.2.2.1 (hF.2.2.2.2 _ (by decide +kernel)) (fun _ h => h) dX0_turnForItself_66 ?_
        refine lv_iload hx hb dX0_turnForItself_69 (lv_at hl 3 rfl) ?_
        refine va_ti (v := .int (xzz i)) hx hb hX.2.1.1.2 hS (vp_in_nI (by omega) (by omega)) (congrArg (fun z9 => Value.int (xzz z9)) (nI_clamp (by omega))) dX0_turnForItself_71 ?_
        refine xrwi (z := nI (zN i)) (xzz_zN i hlt) ?_
        refine lv_aload_n hx hb dX0_turnForItself_72 rfl (lv_at hl 0 rfl) ?_
        refine lv_iconst (v := 2) hx hb dX0_turnForItself_73 (by decide) ?_
        refine lv_aload_n hx hb dX0_turnForItself_74 rfl (lv_at hl 1 rfl) ?_
        refine lv_iload_n hx hb dX0_turnForItself_75 rfl (lv_at hl 2 rfl) ?_
        refine lv_iload hx hb dX0_turnForItself_76 (lv_at hl 3 rfl) ?_
        refine lv_iadd hx hb dX0_turnForItself_78 ?_
        refine xrwi (z := nI (k * 64 + i)) (nI_add _ _) ?_
        refine xald (k := k * 64 + i) hF hX hP 8 rfl (nI_clamp (by omega)) (vp_in_nI (by omega) (by omega)) dX0_turnForItself_79 ?_
        refine lv_imul hx hb dX0_turnForItself_80 ?_
        refine lv_aload_n hx hb dX0_turnForItself_81 rfl (lv_at hl 0 rfl) ?_
        refine xget (C := RX0) (T := TX0) (N := 6) hF hX hP (by decide +kernel) 0 0 rfl rfl (by decide) (by decide +kernel) rfl dX0_turnForItself_82 ?_
        refine lv_iconst (v := 0) hx hb dX0_turnForItself_85 (by decide) ?_
        refine xaaldI (k := 0) (v := m0) hF hX hP 1 rfl (rfl) (vp_in_nI (n := 0) (by decide) (by decide)) (hm0) dX0_turnForItself_86 ?_
        refine va_gets (C := RX0) (n := "ZIGZAG") (d := "[I") (own := RX0) (ref := RX0) hx hb hX.2.1.1.1 hS hF.2.2.2.1 (hF.2.2.2.2 _ (by decide +kernel)) (fun _ h => h) dX0_turnForItself_87 ?_
        refine lv_iload hx hb dX0_turnForItself_90 (lv_at hl 3 rfl) ?_
        refine va_ti (v := .int (xzz i)) hx hb hX.2.1.1.2 hS (vp_in_nI (by omega) (by omega)) (congrArg (fun z9 => Value.int (xzz z9)) (nI_clamp (by omega))) dX0_turnForItself_92 ?_
        refine xrwi (z := nI (zN i)) (xzz_zN i hlt) ?_
        refine xald (k := zN i) hF hX hP 2 rfl (nI_clamp (by omega)) (vp_in_nI (by omega) (by omega)) dX0_turnForItself_93 ?_
        refine xVM [true, false, false, false, false, false, false, false, false] (rest := [.int (nI (zN i)), .ref co]) (As := [.int (2 * (Lv (k * 64 + i))), .int (M0 (zN i))]) (ws1 := [(b, .inr (0, [.ref mt, .ref ps, .ref tu, .int fa, .ref co, .ref ha])), (mt, .inl (cs 3, 2, .inr (.inr (.inr (.inr mf))))), (m0, .inl (cs 0, 64, .inl M0)), (m1, .inl (cs 0, 64, .inl M1)), (ps, .inl (cs 0, 3, .inl (upd P (pl k) (pst P Lv k)))), (tu, .inl (cs 0, 64, .inl tf)), (co, .inl (cs 0, 64, .inl (coTo cf (fOwn P Lv M0 fa k) i))), (ha, .inl (cs 0, 64, .inl hf)), (lv, .inl (cs 0, 384, .inl Lv))]) (st1 := [.int (scl fa (2 * (Lv (k * 64 + i))) (M0 (zN i))), .int (nI (zN i)), .ref co]) hF (c_X0_scaled l D cs tt b mt ps tu co ha fa (2 * (Lv (k * 64 + i))) (M0 (zN i))) gX0_turnForItself_X0_scaled rfl (n := 2) (by decide +kernel) rfl ⟨⟨rfl, rfl⟩, Nat.le_of_ble_eq_true rfl, Nat.le_of_ble_eq_true rfl⟩ ⟨Nat.le_of_ble_eq_true rfl, Nat.le_of_ble_eq_true rfl⟩ hX hP hD hS rfl [b] rfl rfl (q0 := 0) (ci := 0) rfl rfl rfl hl.1 rfl (Nat.le_of_ble_eq_true rfl) dX0_turnForItself_94 rfl rfl (fun Hp locs hP hD hS => ?_)
        refine xast (k := zN i) (ws1 := [(b, .inr (0, [.ref mt, .ref ps, .ref tu, .int fa, .ref co, .ref ha])), (mt, .inl (cs 3, 2, .inr (.inr (.inr (.inr mf))))), (m0, .inl (cs 0, 64, .inl M0)), (m1, .inl (cs 0, 64, .inl M1)), (ps, .inl (cs 0, 3, .inl (upd P (pl k) (pst P Lv k)))), (tu, .inl (cs 0, 64, .inl tf)), (co, .inl (cs 0, 64, .inl (coTo cf (fOwn P Lv M0 fa k) (i + 1)))), (ha, .inl (cs 0, 64, .inl hf)), (lv, .inl (cs 0, 384, .inl Lv))]) hF hX hP hD hS 6 rfl (nI_clamp (by omega)) (vp_in_nI hz (by decide)) dX0_turnForItself_97 (congrArg (fun z9 => ([(b, .inr (0, [.ref mt, .ref ps, .ref tu, .int fa, .ref co, .ref ha])), (mt, .inl (cs 3, 2, .inr (.inr (.inr (.inr mf))))), (m0, .inl (cs 0, 64, .inl M0)), (m1, .inl (cs 0, 64, .inl M1)), (ps, .inl (cs 0, 3, .inl (upd P (pl k) (pst P Lv k)))), (tu, .inl (cs 0, 64, .inl tf)), (co, .inl (cs 0, 64, .inl z9)), (ha, .inl (cs 0, 64, .inl hf)), (lv, .inl (cs 0, 384, .inl Lv))] : va_W)) (coTo_s cf (fOwn P Lv M0 fa k) hlt (by simp only [fOwn]; rw [if_neg (by omega)]))) (fun Hp locs hP hD hS => ?_)
        refine lv_iinc (v := (nI (i + 1))) (lv' := [(5, .int (nI (i + 1))), (0, .ref b), (1, .ref lv), (3, .int (nI (k * 64)))]) hx hb dX0_turnForItself_98 hl (k := 3) rfl (nI_1 i) (by decide) rfl (fun ls hl => ?_)
        refine lv_goto (tgt := 55) hx hb dX0_turnForItself_101 (by decide) ?_
        exact ih_55 (i + 1) (by omega) (by omega) (by omega) _ _ _ hP hD hS (lv_sub hl [1, 2, 3, 0] rfl)
  exact loop_55 (64 - 1 + 1) 1 (Nat.lt_succ_self _) (by decide) (by decide) _ _ _ hP hD hS (lv_sub hl [3, 4, 2, 0] rfl)

set_option maxHeartbeats 4000000 in
set_option maxRecDepth 100000 in
theorem c_X0_turnDifference (l : Launch) (D : va_G) (cs : Nat → ClassId) (tt : Nat → Nat) (b mt ps tu co ha m0 m1 lv k : Nat) (fa : Int32) (mf : Nat → Option Nat) (M0 M1 P Lv tf cf hf : Nat → Int32) (hm0 : mf 0 = some m0) (hm1 : mf 1 = some m1) (hk : k < 6) : xM l yX0_turnDifference wsX0_turnDifference ({ frames := 3, cells := 0, slots := 0, locals := 66 } : Room) D cs tt [.ref b, .ref lv, .int (nI k)] [(b, .inr (0, [.ref mt, .ref ps, .ref tu, .int fa, .ref co, .ref ha])), (mt, .inl (cs 3, 2, .inr (.inr (.inr (.inr mf))))), (m0, .inl (cs 0, 64, .inl M0)), (m1, .inl (cs 0, 64, .inl M1)), (ps, .inl (cs 0, 3, .inl P)), (tu, .inl (cs 0, 64, .inl tf)), (co, .inl (cs 0, 64, .inl cf)), (ha, .inl (cs 0, 64, .inl hf)), (lv, .inl (cs 0, 384, .inl Lv))] none [(b, .inr (0, [.ref mt, .ref ps, .ref tu, .int fa, .ref co, .ref ha])), (mt, .inl (cs 3, 2, .inr (.inr (.inr (.inr mf))))), (m0, .inl (cs 0, 64, .inl M0)), (m1, .inl (cs 0, 64, .inl M1)), (ps, .inl (cs 0, 3, .inl P)), (tu, .inl (cs 0, 64, .inl (full (half (cof (fDif Lv M1 fa k)))))), (co, .inl (cs 0, 64, .inl (cof (fDif Lv M1 fa k)))), (ha, .inl (cs 0, 64, .inl (half (cof (fDif Lv M1 fa k))))), (lv, .inl (cs 0, 384, .inl Lv))] := by
  refine xM.of RX0 rfl (by decide) rfl (Nat.le_of_ble_eq_true rfl) ?_
  intro p e s m below meth c A ls hF hr hlk hX hP hD hS hl
  have hx := hF.1
  have hb := hF.2.1
  have hl : lv_has ls 6 [(0, .ref b), (1, .ref lv), (2, .int (nI k))] := hl
  refine lv_iload_n hx hb dX0_turnDifference_0 rfl (lv_at hl 2 rfl) ?_
  refine lv_bipush (v := 64) hx hb dX0_turnDifference_1 (by decide) ?_
  refine lv_imul hx hb dX0_turnDifference_3 ?_
  refine xrwi (z := nI (k * 64)) (pk_mul k 64) ?_
  refine lv_istore_n (lv' := [(3, .int (nI (k * 64))), (0, .ref b), (1, .ref lv), (2, .int (nI k))]) hx hb dX0_turnDifference_4 rfl hl (by decide) rfl (fun ls hl => ?_)
  refine lv_iconst (v := 0) hx hb dX0_turnDifference_5 (by decide) ?_
  refine lv_istore (lv' := [(4, .int 0), (3, .int (nI (k * 64))), (0, .ref b), (1, .ref lv), (2, .int (nI k))]) hx hb dX0_turnDifference_6 hl (by decide) rfl (fun ls hl => ?_)
  have loop_8 : ∀ (k8 : Nat) (i : Nat), 64 - i < k8 → i ≤ 64 → ∀ (Hp : Heap) (locs : List Loc) (ls : Array Slot), va_P D vwCl [(b, .inr (0, [.ref mt, .ref ps, .ref tu, .int fa, .ref co, .ref ha])), (mt, .inl (cs 3, 2, .inr (.inr (.inr (.inr mf))))), (m0, .inl (cs 0, 64, .inl M0)), (m1, .inl (cs 0, 64, .inl M1)), (ps, .inl (cs 0, 3, .inl P)), (tu, .inl (cs 0, 64, .inl tf)), (co, .inl (cs 0, 64, .inl (coTo cf (fDif Lv M1 fa k) i))), (ha, .inl (cs 0, 64, .inl hf)), (lv, .inl (cs 0, 384, .inl Lv))] Hp → va_D A [(b, .inr (0, [.ref mt, .ref ps, .ref tu, .int fa, .ref co, .ref ha])), (mt, .inl (cs 3, 2, .inr (.inr (.inr (.inr mf))))), (m0, .inl (cs 0, 64, .inl M0)), (m1, .inl (cs 0, 64, .inl M1)), (ps, .inl (cs 0, 3, .inl P)), (tu, .inl (cs 0, 64, .inl tf)), (co, .inl (cs 0, 64, .inl (coTo cf (fDif Lv M1 fa k) i))), (ha, .inl (cs 0, 64, .inl hf)), (lv, .inl (cs 0, 384, .inl Lv))] → va_S A s.heap Hp locs → lv_has ls 6 [(0, .ref b), (1, .ref lv), (3, .int (nI (k * 64))), (4, .int (nI i))] → xW p l e ({ frames := 3, cells := 0, slots := 0, locals := 66 } : Room) s m ([.ref b, .ref lv, .int (nI k)] : List Value).toArray below meth c Hp locs 0 0 (MQ below (xE D A none [(b, .inr (0, [.ref mt, .ref ps, .ref tu, .int fa, .ref co, .ref ha])), (mt, .inl (cs 3, 2, .inr (.inr (.inr (.inr mf))))), (m0, .inl (cs 0, 64, .inl M0)), (m1, .inl (cs 0, 64, .inl M1)), (ps, .inl (cs 0, 3, .inl P)), (tu, .inl (cs 0, 64, .inl (full (half (cof (fDif Lv M1 fa k)))))), (co, .inl (cs 0, 64, .inl (cof (fDif Lv M1 fa k)))), (ha, .inl (cs 0, 64, .inl (half (cof (fDif Lv M1 fa k))))), (lv, .inl (cs 0, 384, .inl Lv))]) ([.ref b, .ref lv, .int (nI k)] : List Value).toArray s 0 0 A) (F0 m 8 ls []) := by
    intro k8
    induction k8 with
    | zero => intro i h9; omega
    | succ k8 ih_8 =>
      intro i hk8 hi Hp locs ls hP hD hS hl
      refine lv_iload hx hb dX0_turnDifference_8 (lv_at hl 3 rfl) ?_
      refine lv_bipush (v := 64) hx hb dX0_turnDifference_10 (by decide) ?_
      refine lv_icmp_ge (tgt := 67) hx hb dX0_turnDifference_12 (by decide) (fun c_12 => ?_) (fun c_12 => ?_)
      · have e9 : i = 64 := by have := nIle (a := 64) (b := i) rfl rfl (by decide) (by omega) c_12; omega
        have hP1 : va_P D vwCl [(b, .inr (0, [.ref mt, .ref ps, .ref tu, .int fa, .ref co, .ref ha])), (mt, .inl (cs 3, 2, .inr (.inr (.inr (.inr mf))))), (m0, .inl (cs 0, 64, .inl M0)), (m1, .inl (cs 0, 64, .inl M1)), (ps, .inl (cs 0, 3, .inl P)), (tu, .inl (cs 0, 64, .inl tf)), (co, .inl (cs 0, 64, .inl (cof (fDif Lv M1 fa k)))), (ha, .inl (cs 0, 64, .inl hf)), (lv, .inl (cs 0, 384, .inl Lv))] Hp := xcongP (g := (cof (fDif Lv M1 fa k))) hP 6 rfl hD (fun j hj => by unfold coTo cof; rw [e9, if_pos (zI_lt j hj)])
        have hD : va_D A [(b, .inr (0, [.ref mt, .ref ps, .ref tu, .int fa, .ref co, .ref ha])), (mt, .inl (cs 3, 2, .inr (.inr (.inr (.inr mf))))), (m0, .inl (cs 0, 64, .inl M0)), (m1, .inl (cs 0, 64, .inl M1)), (ps, .inl (cs 0, 3, .inl P)), (tu, .inl (cs 0, 64, .inl tf)), (co, .inl (cs 0, 64, .inl (cof (fDif Lv M1 fa k)))), (ha, .inl (cs 0, 64, .inl hf)), (lv, .inl (cs 0, 384, .inl Lv))] := xcongD (g := (cof (fDif Lv M1 fa k))) 6 rfl hD
        have hP := hP1
        refine lv_aload_n hx hb dX0_turnDifference_67 rfl (lv_at hl 0 rfl) ?_
        refine xVM [true, false, false, false, false, true, true, true, false] (rest := []) (As := []) (ws1 := [(b, .inr (0, [.ref mt, .ref ps, .ref tu, .int fa, .ref co, .ref ha])), (mt, .inl (cs 3, 2, .inr (.inr (.inr (.inr mf))))), (m0, .inl (cs 0, 64, .inl M0)), (m1, .inl (cs 0, 64, .inl M1)), (ps, .inl (cs 0, 3, .inl P)), (tu, .inl (cs 0, 64, .inl (full (half (cof (fDif Lv M1 fa k)))))), (co, .inl (cs 0, 64, .inl (cof (fDif Lv M1 fa k)))), (ha, .inl (cs 0, 64, .inl (half (cof (fDif Lv M1 fa k))))), (lv, .inl (cs 0, 384, .inl Lv))]) (st1 := []) hF (c_X0_turn l D cs tt b mt ps tu co ha fa (cof (fDif Lv M1 fa k)) tf hf) gX0_turnDifference_X0_turn rfl (n := 0) (by decide +kernel) rfl ⟨⟨rfl, rfl⟩, Nat.le_of_ble_eq_true rfl, Nat.le_of_ble_eq_true rfl⟩ ⟨Nat.le_of_ble_eq_true rfl, Nat.le_of_ble_eq_true rfl⟩ hX hP hD hS rfl [b, tu, co, ha] rfl rfl (q0 := 0) (ci := 0) rfl rfl rfl hl.1 rfl (Nat.le_of_ble_eq_true rfl) dX0_turnDifference_68 rfl rfl (fun Hp locs hP hD hS => ?_)
        exact xrv hF hr hlk hP hD hS dX0_turnDifference_71
      · have hlt : i < 64 := nInle (a := 64) (b := i) rfl rfl (by decide) (by omega) c_12
        have hz := zN_lt i hlt
        refine lv_aload_n hx hb dX0_turnDifference_15 rfl (lv_at hl 1 rfl) ?_
        refine lv_iload_n hx hb dX0_turnDifference_16 rfl (lv_at hl 2 rfl) ?_
        refine lv_iload hx hb dX0_turnDifference_17 (lv_at hl 3 rfl) ?_
        refine lv_iadd hx hb dX0_turnDifference_19 ?_
        refine xrwi (z := nI (k * 64 + i)) (nI_add _ _) ?_
        refine xald (k := k * 64 + i) hF hX hP 8 rfl (nI_clamp (by omega)) (vp_in_nI (by omega) (by omega)) dX0_turnDifference_20 ?_
        refine lv_istore (lv' := [(5, .int (Lv (k * 64 + i))), (0, .ref b), (1, .ref lv), (3, .int (nI (k * 64))), (4, .int (nI i))]) hx hb dX0_turnDifference_21 hl (by decide) rfl (fun ls hl => ?_)
        refine lv_aload_n hx hb dX0_turnDifference_23 rfl (lv_at hl 1 rfl) ?_
        refine xget (C := RX0) (T := TX0) (N := 6) hF hX hP (by decide +kernel) 0 4 rfl rfl (by decide) (by decide +kernel) rfl dX0_turnDifference_24 ?_
        refine va_gets (C := RX0) (n := "ZIGZAG") (d := "[I") (own := RX0) (ref := RX0) hx hb hX.2.1.1.1 hS hF.2.2.2.1 (hF.2.2.2.2 _ (by decide +kernel)) (fun _ h => h) dX0_turnDifference_27 ?_
        refine lv_iload hx hb dX0_turnDifference_30 (lv_at hl 4 rfl) ?_
        refine va_ti (v := .int (xzz i)) hx hb hX.2.1.1.2 hS (vp_in_nI (by omega) (by omega)) (congrArg (fun z9 => Value.int (xzz z9)) (nI_clamp (by omega))) dX0_turnDifference_32 ?_
        refine xrwi (z := nI (zN i)) (xzz_zN i hlt) ?_
        refine lv_aload_n hx hb dX0_turnDifference_33 rfl (lv_at hl 1 rfl) ?_
        refine lv_iconst (v := 2) hx hb dX0_turnDifference_34 (by decide) ?_
        refine lv_iload hx hb dX0_turnDifference_35 (lv_at hl 0 rfl) ?_
        refine lv_imul hx hb dX0_turnDifference_37 ?_
        refine lv_iload hx hb dX0_turnDifference_38 (lv_at hl 0 rfl) ?_
        refine xSt (rest := [.int (2 * (Lv (k * 64 + i))), .ref b, .int (nI (zN i)), .ref co]) (As := [.int (Lv (k * 64 + i))]) (ws1 := [(b, .inr (0, [.ref mt, .ref ps, .ref tu, .int fa, .ref co, .ref ha])), (mt, .inl (cs 3, 2, .inr (.inr (.inr (.inr mf))))), (m0, .inl (cs 0, 64, .inl M0)), (m1, .inl (cs 0, 64, .inl M1)), (ps, .inl (cs 0, 3, .inl P)), (tu, .inl (cs 0, 64, .inl tf)), (co, .inl (cs 0, 64, .inl (coTo cf (fDif Lv M1 fa k) i))), (ha, .inl (cs 0, 64, .inl hf)), (lv, .inl (cs 0, 384, .inl Lv))]) (st1 := [.int (sgn (Lv (k * 64 + i))), .int (2 * (Lv (k * 64 + i))), .ref b, .int (nI (zN i)), .ref co]) hF (c_J6_signum_0f7a4 l D cs tt (Lv (k * 64 + i))) gX0_turnDifference_J6_signum_0f7a4 rfl (n := 1) (by decide +kernel) rfl ⟨⟨rfl, rfl⟩, Nat.le_of_ble_eq_true rfl, Nat.le_of_ble_eq_true rfl⟩ ⟨Nat.le_of_ble_eq_true rfl, Nat.le_of_ble_eq_true rfl⟩ hX hP hD hS [] (by decide) rfl [] rfl rfl hl.1 rfl (Nat.le_of_ble_eq_true rfl) dX0_turnDifference_40 rfl rfl (fun Hp locs hP hD hS => ?_)
        refine lv_iadd hx hb dX0_turnDifference_43 ?_
        refine lv_aload_n hx hb dX0_turnDifference_44 rfl (lv_at hl 1 rfl) ?_
        refine xget (C := RX0) (T := TX0) (N := 6) hF hX hP (by decide +kernel) 0 0 rfl rfl (by decide) (by decide +kernel) rfl dX0_turnDifference_45 ?_
        refine lv_iconst (v := 1) hx hb dX0_turnDifference_48 (by decide) ?_
        refine xaaldI (k := 1) (v := m1) hF hX hP 1 rfl (rfl) (vp_in_nI (n := 1) (by decide) (by decide)) (hm1) dX0_turnDifference_49 ?_
        refine va_gets (C := RX0) (n := "ZIGZAG") (d := "[I") (own := RX0) (ref := RX0) hx hb hX.2.1.1.1 hS hF.2.2.2.1 (hF.2.2.2.2 _ (by decide +kernel)) (fun _ h => h) dX0_turnDifference_50 ?_
        refine lv_iload hx hb dX0_turnDifference_53 (lv_at hl 4 rfl) ?_
        refine va_ti (v := .int (xzz i)) hx hb hX.2.1.1.2 hS (vp_in_nI (by omega) (by omega)) (congrArg (fun z9 => Value.int (xzz z9)) (nI_clamp (by omega))) dX0_turnDifference_55 ?_
        refine xrwi (z := nI (zN i)) (xzz_zN i hlt) ?_
        refine xald (k := zN i) hF hX hP 3 rfl (nI_clamp (by omega)) (vp_in_nI (by omega) (by omega)) dX0_turnDifference_56 ?_
        refine xVM [true, false, false, false, false, false, false, false, false] (rest := [.int (nI (zN i)), .ref co]) (As := [.int ((2 * (Lv (k * 64 + i))) + (sgn (Lv (k * 64 + i)))), .int (M1 (zN i))]) (ws1 := [(b, .inr (0, [.ref mt, .ref ps, .ref tu, .int fa, .ref co, .ref ha])), (mt, .inl (cs 3, 2, .inr (.inr (.inr (.inr mf))))), (m0, .inl (cs 0, 64, .inl M0)), (m1, .inl (cs 0, 64, .inl M1)), (ps, .inl (cs 0, 3, .inl P)), (tu, .inl (cs 0, 64, .inl tf)), (co, .inl (cs 0, 64, .inl (coTo cf (fDif Lv M1 fa k) i))), (ha, .inl (cs 0, 64, .inl hf)), (lv, .inl (cs 0, 384, .inl Lv))]) (st1 := [.int (scl fa ((2 * (Lv (k * 64 + i))) + (sgn (Lv (k * 64 + i)))) (M1 (zN i))), .int (nI (zN i)), .ref co]) hF (c_X0_scaled l D cs tt b mt ps tu co ha fa ((2 * (Lv (k * 64 + i))) + (sgn (Lv (k * 64 + i)))) (M1 (zN i))) gX0_turnDifference_X0_scaled rfl (n := 2) (by decide +kernel) rfl ⟨⟨rfl, rfl⟩, Nat.le_of_ble_eq_true rfl, Nat.le_of_ble_eq_true rfl⟩ ⟨Nat.le_of_ble_eq_true rfl, Nat.le_of_ble_eq_true rfl⟩ hX hP hD hS rfl [b] rfl rfl (q0 := 0) (ci := 0) rfl rfl rfl hl.1 rfl (Nat.le_of_ble_eq_true rfl) dX0_turnDifference_57 rfl rfl (fun Hp locs hP hD hS => ?_)
        refine xast (k := zN i) (ws1 := [(b, .inr (0, [.ref mt, .ref ps, .ref tu, .int fa, .ref co, .ref ha])), (mt, .inl (cs 3, 2, .inr (.inr (.inr (.inr mf))))), (m0, .inl (cs 0, 64, .inl M0)), (m1, .inl (cs 0, 64, .inl M1)), (ps, .inl (cs 0, 3, .inl P)), (tu, .inl (cs 0, 64, .inl tf)), (co, .inl (cs 0, 64, .inl (coTo cf (fDif Lv M1 fa k) (i + 1)))), (ha, .inl (cs 0, 64, .inl hf)), (lv, .inl (cs 0, 384, .inl Lv))]) hF hX hP hD hS 6 rfl (nI_clamp (by omega)) (vp_in_nI hz (by decide)) dX0_turnDifference_60 (congrArg (fun z9 => ([(b, .inr (0, [.ref mt, .ref ps, .ref tu, .int fa, .ref co, .ref ha])), (mt, .inl (cs 3, 2, .inr (.inr (.inr (.inr mf))))), (m0, .inl (cs 0, 64, .inl M0)), (m1, .inl (cs 0, 64, .inl M1)), (ps, .inl (cs 0, 3, .inl P)), (tu, .inl (cs 0, 64, .inl tf)), (co, .inl (cs 0, 64, .inl z9)), (ha, .inl (cs 0, 64, .inl hf)), (lv, .inl (cs 0, 384, .inl Lv))] : va_W)) (coTo_s cf (fDif Lv M1 fa k) hlt rfl)) (fun Hp locs hP hD hS => ?_)
        refine lv_iinc (v := (nI (i + 1))) (lv' := [(4, .int (nI (i + 1))), (5, .int (Lv (k * 64 + i))), (0, .ref b), (1, .ref lv), (3, .int (nI (k * 64)))]) hx hb dX0_turnDifference_61 hl (k := 4) rfl (nI_1 i) (by decide) rfl (fun ls hl => ?_)
        refine lv_goto (tgt := 8) hx hb dX0_turnDifference_64 (by decide) ?_
        exact ih_8 (i + 1) (by omega) (by omega) _ _ _ hP hD hS (lv_sub hl [2, 3, 4, 0] rfl)
  have hP := xeqP hP (congrArg (fun z9 => ([(b, .inr (0, [.ref mt, .ref ps, .ref tu, .int fa, .ref co, .ref ha])), (mt, .inl (cs 3, 2, .inr (.inr (.inr (.inr mf))))), (m0, .inl (cs 0, 64, .inl M0)), (m1, .inl (cs 0, 64, .inl M1)), (ps, .inl (cs 0, 3, .inl P)), (tu, .inl (cs 0, 64, .inl tf)), (co, .inl (cs 0, 64, .inl z9)), (ha, .inl (cs 0, 64, .inl hf)), (lv, .inl (cs 0, 384, .inl Lv))] : va_W)) ((coTo_0 cf (fDif Lv M1 fa k)).symm))
  have hD := xeqD hD (congrArg (fun z9 => ([(b, .inr (0, [.ref mt, .ref ps, .ref tu, .int fa, .ref co, .ref ha])), (mt, .inl (cs 3, 2, .inr (.inr (.inr (.inr mf))))), (m0, .inl (cs 0, 64, .inl M0)), (m1, .inl (cs 0, 64, .inl M1)), (ps, .inl (cs 0, 3, .inl P)), (tu, .inl (cs 0, 64, .inl tf)), (co, .inl (cs 0, 64, .inl z9)), (ha, .inl (cs 0, 64, .inl hf)), (lv, .inl (cs 0, 384, .inl Lv))] : va_W)) ((coTo_0 cf (fDif Lv M1 fa k)).symm))
  exact loop_8 (64 - 0 + 1) 0 (Nat.lt_succ_self _) (by decide) _ _ _ hP hD hS (lv_sub hl [2, 3, 1, 0] rfl)
