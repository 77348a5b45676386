
/-! ===== the numbers' words ===== -/
/-- v, but not below lo, nor above hi -/
def bnd (v lo hi : Int32) : Int32 := if lo ≤ v then (if v ≤ hi then v else hi) else lo
/-- 1 where lo ≤ v ≤ hi, else 0 -/
def wi (v lo hi : Int32) : Int32 := if v < lo then 0 else if hi < v then 0 else 1
theorem wi01 (v lo hi : Int32) : wi v lo hi = 0 ∨ wi v lo hi = 1 := by
  unfold wi
  split
  · exact Or.inl rfl
  · split
    · exact Or.inl rfl
    · exact Or.inr rfl
theorem narB {v : Int32} (h : v = 0 ∨ v = 1) : narrow .boolean (.int v) = .int v := by
  rcases h with rfl | rfl <;> rfl
def pln (b : Int32) : Int32 := if 4 ≤ b then b - 3 else 0
def sde (p : Int32) : Int32 := if p = 0 then 16 else 8
/-- the sign as Integer.signum reckons it -/
def sgn (v : Int32) : Int32 := (v >>> ((31 : Int32) &&& 31)) ||| ((-v).toUInt32 >>> ((31 : Int32).toUInt32 &&& Int32.toUInt32 31)).toInt32
/-- the first i places have v -/
def filTo (f : Nat → Int32) (v : Int32) (i : Nat) : Nat → Int32 := fun j => if j < i then v else f j
theorem filTo_s (f : Nat → Int32) (v : Int32) (i : Nat) : upd (filTo f v i) i v = filTo f v (i + 1) := by
  funext j
  unfold upd filTo
  by_cases h : j = i
  · subst h; simp
  · by_cases h2 : j < i
    · simp [h, h2, Nat.lt_succ_of_lt h2]
    · simp [h, h2, show ¬ j < i + 1 by omega]

set_option maxHeartbeats 4000000 in
set_option maxRecDepth 100000 in
theorem c_X6_bounded (l : Launch) (D : va_G) (cs : Nat → ClassId) (tt : Nat → Nat) (v lo hi : Int32)  : xM l yX6_bounded wsX6_bounded ({ frames := 0, cells := 0, slots := 0, locals := 0 } : Room) D cs tt [.int v, .int lo, .int hi] [] (some (.int (bnd v lo hi))) [] := by
  refine xM.of RX6 rfl (by decide) rfl (Nat.le_of_ble_eq_true rfl) ?_
  intro p e s m below meth c A ls hF hr hlk hX hP hD hS hl
  have hx := hF.1
  have hb := hF.2.1
  have hl : lv_has ls 3 [(0, .int v), (1, .int lo), (2, .int hi)] := hl
  refine lv_iload_n hx hb dX6_bounded_0 rfl (lv_at hl 0 rfl) ?_
  refine lv_iload_n hx hb dX6_bounded_1 rfl (lv_at hl 1 rfl) ?_
  refine lv_icmp_ge (tgt := 7) hx hb dX6_bounded_2 (by decide) (fun c_2 => ?_) (fun c_2 => ?_)
  · refine lv_iload_n hx hb dX6_bounded_7 rfl (lv_at hl 0 rfl) ?_
    refine lv_iload_n hx hb dX6_bounded_8 rfl (lv_at hl 2 rfl) ?_
    refine lv_icmp_le (tgt := 16) hx hb dX6_bounded_9 (by decide) (fun c_9 => ?_) (fun c_9 => ?_)
    · refine lv_iload_n hx hb dX6_bounded_16 rfl (lv_at hl 0 rfl) ?_
      refine xrwi (z := (bnd v lo hi)) (by simp [bnd, c_2, c_9]) ?_
      exact xri (Q9 := fun _ _ _ _ => True) hF hr hlk hP hD hS dX6_bounded_17
    · refine lv_iload_n hx hb dX6_bounded_12 rfl (lv_at hl 2 rfl) ?_
      refine lv_goto (tgt := 17) hx hb dX6_bounded_13 (by decide) ?_
      refine xrwi (z := (bnd v lo hi)) (by simp [bnd, c_2, c_9]) ?_
      exact xri (Q9 := fun _ _ _ _ => True) hF hr hlk hP hD hS dX6_bounded_17
  · refine lv_iload_n hx hb dX6_bounded_5 rfl (lv_at hl 1 rfl) ?_
    refine xrwi (z := (bnd v lo hi)) (by simp [bnd, c_2]) ?_
    exact xri (Q9 := fun _ _ _ _ => True) hF hr hlk hP hD hS dX6_bounded_6

set_option maxHeartbeats 4000000 in
set_option maxRecDepth 100000 in
theorem c_X6_isWithin (l : Launch) (D : va_G) (cs : Nat → ClassId) (tt : Nat → Nat) (v lo hi : Int32)  : xM l yX6_isWithin wsX6_isWithin ({ frames := 0, cells := 0, slots := 0, locals := 0 } : Room) D cs tt [.int v, .int lo, .int hi] [] (some (.int (wi v lo hi))) [] := by
  refine xM.of RX6 rfl (by decide) rfl (Nat.le_of_ble_eq_true rfl) ?_
  intro p e s m below meth c A ls hF hr hlk hX hP hD hS hl
  have hx := hF.1
  have hb := hF.2.1
  have hl : lv_has ls 3 [(0, .int v), (1, .int lo), (2, .int hi)] := hl
  refine lv_iload_n hx hb dX6_isWithin_0 rfl (lv_at hl 0 rfl) ?_
  refine lv_iload_n hx hb dX6_isWithin_1 rfl (lv_at hl 1 rfl) ?_
  refine lv_icmp_lt (tgt := 14) hx hb dX6_isWithin_2 (by decide) (fun c_2 => ?_) (fun c_2 => ?_)
  · refine lv_iconst (v := 0) hx hb dX6_isWithin_14 (by decide) ?_
    refine xrwi (z := (wi v lo hi)) (by simp [wi, c_2]) ?_
    exact xrz hF hr hlk hP hD hS (narB (wi01 v lo hi)) dX6_isWithin_15
  · refine lv_iload_n hx hb dX6_isWithin_5 rfl (lv_at hl 0 rfl) ?_
    refine lv_iload_n hx hb dX6_isWithin_6 rfl (lv_at hl 2 rfl) ?_
    refine lv_icmp_gt (tgt := 14) hx hb dX6_isWithin_7 (by decide) (fun c_7 => ?_) (fun c_7 => ?_)
    · refine lv_iconst (v := 0) hx hb dX6_isWithin_14 (by decide) ?_
      refine xrwi (z := (wi v lo hi)) (by simp [wi, c_2, c_7]) ?_
      exact xrz hF hr hlk hP hD hS (narB (wi01 v lo hi)) dX6_isWithin_15
    · refine lv_iconst (v := 1) hx hb dX6_isWithin_10 (by decide) ?_
      refine lv_goto (tgt := 15) hx hb dX6_isWithin_11 (by decide) ?_
      refine xrwi (z := (wi v lo hi)) (by simp [wi, c_2, c_7]) ?_
      exact xrz hF hr hlk hP hD hS (narB (wi01 v lo hi)) dX6_isWithin_15

set_option maxHeartbeats 4000000 in
set_option maxRecDepth 100000 in
theorem c_X6_planeOf (l : Launch) (D : va_G) (cs : Nat → ClassId) (tt : Nat → Nat) (b : Int32)  : xM l yX6_planeOf wsX6_planeOf ({ frames := 0, cells := 0, slots := 0, locals := 0 } : Room) D cs tt [.int b] [] (some (.int (pln b))) [] := by
  refine xM.of RX6 rfl (by decide) rfl (Nat.le_of_ble_eq_true rfl) ?_
  intro p e s m below meth c A ls hF hr hlk hX hP hD hS hl
  have hx := hF.1
  have hb := hF.2.1
  have hl : lv_has ls 1 [(0, .int b)] := hl
  refine lv_iload_n hx hb dX6_planeOf_0 rfl (lv_at hl 0 rfl) ?_
  refine lv_iconst (v := 4) hx hb dX6_planeOf_1 (by decide) ?_
  refine lv_icmp_ge (tgt := 9) hx hb dX6_planeOf_2 (by decide) (fun c_2 => ?_) (fun c_2 => ?_)
  · refine lv_iload_n hx hb dX6_planeOf_9 rfl (lv_at hl 0 rfl) ?_
    refine lv_iconst (v := 3) hx hb dX6_planeOf_10 (by decide) ?_
    refine lv_isub hx hb dX6_planeOf_11 ?_
    refine xrwi (z := (pln b)) (by simp [pln, c_2]) ?_
    exact xri (Q9 := fun _ _ _ _ => True) hF hr hlk hP hD hS dX6_planeOf_12
  · refine lv_iconst (v := 0) hx hb dX6_planeOf_5 (by decide) ?_
    refine lv_goto (tgt := 12) hx hb dX6_planeOf_6 (by decide) ?_
    refine xrwi (z := (pln b)) (by simp [pln, c_2]) ?_
    exact xri (Q9 := fun _ _ _ _ => True) hF hr hlk hP hD hS dX6_planeOf_12

set_option maxHeartbeats 4000000 in
set_option maxRecDepth 100000 in
theorem c_X6_squareSide (l : Launch) (D : va_G) (cs : Nat → ClassId) (tt : Nat → Nat) (b : Int32)  : xM l yX6_squareSide wsX6_squareSide ({ frames := 0, cells := 0, slots := 0, locals := 0 } : Room) D cs tt [.int b] [] (some (.int (sde b))) [] := by
  refine xM.of RX6 rfl (by decide) rfl (Nat.le_of_ble_eq_true rfl) ?_
  intro p e s m below meth c A ls hF hr hlk hX hP hD hS hl
  have hx := hF.1
  have hb := hF.2.1
  have hl : lv_has ls 1 [(0, .int b)] := hl
  refine lv_iload_n hx hb dX6_squareSide_0 rfl (lv_at hl 0 rfl) ?_
  refine lv_if_ne (tgt := 9) hx hb dX6_squareSide_1 (by decide) (fun c_1 => ?_) (fun c_1 => ?_)
  · refine lv_bipush (v := 8) hx hb dX6_squareSide_9 (by decide) ?_
    refine xrwi (z := (sde b)) (by simp [sde, c_1]) ?_
    exact xri (Q9 := fun _ _ _ _ => True) hF hr hlk hP hD hS dX6_squareSide_11
  · refine lv_bipush (v := 16) hx hb dX6_squareSide_4 (by decide) ?_
    refine lv_goto (tgt := 11) hx hb dX6_squareSide_6 (by decide) ?_
    refine xrwi (z := (sde b)) (by simp [sde, c_1]) ?_
    exact xri (Q9 := fun _ _ _ _ => True) hF hr hlk hP hD hS dX6_squareSide_11

set_option maxHeartbeats 4000000 in
set_option maxRecDepth 100000 in
theorem c_J6_signum_0f7a4 (l : Launch) (D : va_G) (cs : Nat → ClassId) (tt : Nat → Nat) (v : Int32)  : xM l yJ6_signum_0f7a4 wsJ6_signum_0f7a4 ({ frames := 0, cells := 0, slots := 0, locals := 0 } : Room) D cs tt [.int v] [] (some (.int (sgn v))) [] := by
  refine xM.of RJ6 rfl (by decide) rfl (Nat.le_of_ble_eq_true rfl) ?_
  intro p e s m below meth c A ls hF hr hlk hX hP hD hS hl
  have hx := hF.1
  have hb := hF.2.1
  have hl : lv_has ls 1 [(0, .int v)] := hl
  refine lv_iload_n hx hb dJ6_signum_0f7a4_0 rfl (lv_at hl 0 rfl) ?_
  refine lv_bipush (v := 31) hx hb dJ6_signum_0f7a4_1 (by decide) ?_
  refine lv_ishr hx hb dJ6_signum_0f7a4_3 ?_
  refine lv_iload_n hx hb dJ6_signum_0f7a4_4 rfl (lv_at hl 0 rfl) ?_
  refine lv_ineg hx hb dJ6_signum_0f7a4_5 ?_
  refine lv_bipush (v := 31) hx hb dJ6_signum_0f7a4_6 (by decide) ?_
  refine lv_iushr (v := ((-v).toUInt32 >>> ((31 : Int32).toUInt32 &&& Int32.toUInt32 31)).toInt32) hx hb dJ6_signum_0f7a4_8 rfl ?_
  refine lv_ior hx hb dJ6_signum_0f7a4_9 ?_
  exact xri (Q9 := fun _ _ _ _ => True) hF hr hlk hP hD hS dJ6_signum_0f7a4_10

set_option maxHeartbeats 4000000 in
set_option maxRecDepth 100000 in
theorem c_J7_fill_53178 (l : Launch) (D : va_G) (cs : Nat → ClassId) (tt : Nat → Nat) (a n : Nat) (f : Nat → Int32) (v : Int32) (hn : n < 2147483648) : xM l yJ7_fill_53178 wsJ7_fill_53178 ({ frames := 0, cells := 0, slots := 0, locals := 0 } : Room) D cs tt [.ref a, .int v] [(a, .inl (cs 0, n, .inl f))] none [(a, .inl (cs 0, n, .inl (fun _ => v)))] := by
  refine xM.of RJ7 rfl (by decide) rfl (Nat.le_of_ble_eq_true rfl) ?_
  intro p e s m below meth c A ls hF hr hlk hX hP hD hS hl
  have hx := hF.1
  have hb := hF.2.1
  have hl : lv_has ls 4 [(0, .ref a), (1, .int v)] := hl
  refine lv_iconst (v := 0) hx hb dJ7_fill_53178_0 (by decide) ?_
  refine lv_istore_n (lv' := [(2, .int 0), (0, .ref a), (1, .int v)]) hx hb dJ7_fill_53178_1 rfl hl (by decide) rfl (fun ls hl => ?_)
  refine lv_aload_n hx hb dJ7_fill_53178_2 rfl (lv_at hl 1 rfl) ?_
  refine va_alen (v := nI n) hx hb hX.K hP 0 0 rfl rfl rfl dJ7_fill_53178_3 ?_
  refine lv_istore_n (lv' := [(3, .int (nI n)), (2, .int 0), (0, .ref a), (1, .int v)]) hx hb dJ7_fill_53178_4 rfl hl (by decide) rfl (fun ls hl => ?_)
  have loop_5 : ∀ (k5 : Nat) (i : Nat), n - i < k5 → i ≤ n → ∀ (Hp : Heap) (locs : List Loc) (ls : Array Slot), va_P D vwCl [(a, .inl (cs 0, n, .inl (filTo f v i)))] Hp → va_D A [(a, .inl (cs 0, n, .inl (filTo f v i)))] → va_S A s.heap Hp locs → lv_has ls 4 [(0, .ref a), (1, .int v), (3, .int (nI n)), (2, .int (nI i))] → xW p l e ({ frames := 0, cells := 0, slots := 0, locals := 0 } : Room) s m ([.ref a, .int v] : List Value).toArray below meth c Hp locs 0 0 (MQ below (xE D A none [(a, .inl (cs 0, n, .inl (fun _ => v)))]) ([.ref a, .int v] : List Value).toArray s 0 0 A) (F0 m 5 ls []) := by
    intro k5
    induction k5 with
    | zero => intro i h9; omega
    | succ k5 ih_5 =>
      intro i hk5 hi Hp locs ls hP hD hS hl
      refine lv_iload_n hx hb dJ7_fill_53178_5 rfl (lv_at hl 3 rfl) ?_
      refine lv_iload_n hx hb dJ7_fill_53178_6 rfl (lv_at hl 2 rfl) ?_
      refine lv_icmp_ge (tgt := 20) hx hb dJ7_fill_53178_7 (by decide) (fun c_7 => ?_) (fun c_7 => ?_)
      · exact xrv hF hr hlk (xcongP (g := fun _ => v) hP 0 rfl hD (fun j hj => by simp [filTo, Nat.lt_of_lt_of_le hj ((nI_leI hn (by omega)).mp c_7)])) (xcongD (g := fun _ => v) 0 rfl hD) hS dJ7_fill_53178_20
      · have hlt : i < n := by
          rcases Nat.lt_or_ge i n with q | q
          · exact q
          · exact absurd ((nI_leI hn (by omega)).mpr q) c_7
        refine lv_aload_n hx hb dJ7_fill_53178_10 rfl (lv_at hl 0 rfl) ?_
        refine lv_iload_n hx hb dJ7_fill_53178_11 rfl (lv_at hl 3 rfl) ?_
        refine lv_iload_n hx hb dJ7_fill_53178_12 rfl (lv_at hl 1 rfl) ?_
        refine xast (k := i) (ws1 := [(a, .inl (cs 0, n, .inl (filTo f v (i + 1))))]) hF hX hP hD hS 0 rfl (nI_clamp (by omega)) (vp_in_nI hlt hn) dJ7_fill_53178_13 (congrArg (fun z9 => ([(a, .inl (cs 0, n, .inl z9))] : va_W)) (filTo_s f v i)) (fun Hp locs hP hD hS => ?_)
        refine lv_iinc (v := (nI (i + 1))) (lv' := [(2, .int (nI (i + 1))), (0, .ref a), (1, .int v), (3, .int (nI n))]) hx hb dJ7_fill_53178_14 hl (k := 3) rfl (nI_1 i) (by decide) rfl (fun ls hl => ?_)
        refine lv_goto (tgt := 5) hx hb dJ7_fill_53178_17 (by decide) ?_
        exact ih_5 (i + 1) (by omega) hlt _ _ _ hP hD hS (lv_sub hl [1, 2, 3, 0] rfl)
  have hP0 := xcongP (g := filTo f v 0) hP 0 rfl hD (fun j _ => by simp [filTo])
  have hD0 := xcongD (g := filTo f v 0) 0 rfl hD
  exact loop_5 (n - 0 + 1) 0 (Nat.lt_succ_self _) (Nat.zero_le n) _ _ _ hP0 hD0 hS (lv_sub hl [2, 3, 0, 1] rfl)
