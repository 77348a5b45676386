
/-! ===== the reference: refused squares, leave, keep, told, sample ===== -/
def vtl (a b : Int32) : Int32 := if a = 0 then (if b = 0 then 0 else 1) else 1
def tSq (fu kd ow vt : Int32) : Int32 := if fu = 0 then (if kd = 1 then (if ow = 0 then 1 else (if kd = 3 then (if ow = 0 then (if vt = 0 then 1 else 0) else 0) else 0)) else (if kd = 3 then (if ow = 0 then (if vt = 0 then 1 else 0) else 0) else 0)) else 1
def ntl (kd bf bo : Int32) : Int32 := if kd = 3 then (if bf = 0 then 1 else (if bo = 0 then 0 else 1)) else 0
def tLeave (n lf kd tl nt : Int32) : Int32 := if n < 1 then 1 else if n ≤ lf then (if kd = 0 then 2 else if kd = 1 then 2 else if tl = 0 then (if nt = 0 then 0 else 2) else 2) else 1
/-- the samples behind n squares left out -/
def lvF (gw : Nat → Int32) (W md : Nat) (F : Nat → Nat → Nat → Int32) : Nat → Nat → Int32
  | 0 => gw
  | i + 1 => mnF (lvF gw W md F i) W (md + i) (fun _ _ => 0) F 6
def tol (w kd : Int32) (md : Nat) (dc sc : Int32) (V P : Nat → Int32) : Int32 := if w = 0 then kd else if w = 1 then nI md else if w = 2 then dc else if w = 3 then sc else if 8 ≤ w then P (w - 8).toNatClampNeg else V (w - 4).toNatClampNeg

set_option maxHeartbeats 4000000 in
set_option maxRecDepth 100000 in
theorem c_X7_square_bad (l : Launch) (D : va_G) (cs : Nat → ClassId) (tt : Nat → Nat) (o mt qu zz nw ol ne se ke re ve ps di lv bd co bt ma W H md : Nat) (th nc ns is ik dc sc kd wh fa ow tl bf bo : Int32) (Di : Nat → Int32) (ht : (tSq (isf kd W H md) kd ow (vtl (Di 0) (Di 1))) = 1 ∨ (tSq (isf kd W H md) kd ow (vtl (Di 0) (Di 1))) = 2) : xM l yX7_square wsX7_square ({ frames := 1, cells := 0, slots := 0, locals := 20 } : Room) D cs tt [.ref o] [(o, .inr (7, mdF th W H mt qu zz nw ol ne se ke nc ns is ik dc sc kd md wh fa re ve ps ow tl di lv bf bo bd co bt ma)), (di, .inl (cs 1, 2, .inl Di))] (some (.int 0)) [(o, .inr (7, mdF (tSq (isf kd W H md) kd ow (vtl (Di 0) (Di 1))) W H mt qu zz nw ol ne se ke nc ns is ik dc sc kd md wh fa re ve ps ow tl di lv bf bo bd co bt ma)), (di, .inl (cs 1, 2, .inl Di))] := by
  refine xM.of RX7 rfl (by decide) rfl (Nat.le_of_ble_eq_true rfl) ?_
  intro p e s m below meth c A ls hF hr hlk hX hP hD hS hl
  have hx := hF.1
  have hb := hF.2.1
  have hl : lv_has ls 4 [(0, .ref o)] := hl
  have join_71 : ∀ (Hp : Heap) (locs : List Loc) (ls : Array Slot), va_P D vwCl [(o, .inr (7, mdF th W H mt qu zz nw ol ne se ke nc ns is ik dc sc kd md wh fa re ve ps ow tl di lv bf bo bd co bt ma)), (di, .inl (cs 1, 2, .inl Di))] Hp → va_D A [(o, .inr (7, mdF th W H mt qu zz nw ol ne se ke nc ns is ik dc sc kd md wh fa re ve ps ow tl di lv bf bo bd co bt ma)), (di, .inl (cs 1, 2, .inl Di))] → va_S A s.heap Hp locs → lv_has ls 4 [(1, .int (vtl (Di 0) (Di 1))), (0, .ref o)] → xW p l e ({ frames := 1, cells := 0, slots := 0, locals := 20 } : Room) s m ([.ref o] : List Value).toArray below meth c Hp locs 0 0 (MQ below (xE D A (some (.int 0)) [(o, .inr (7, mdF (tSq (isf kd W H md) kd ow (vtl (Di 0) (Di 1))) W H mt qu zz nw ol ne se ke nc ns is ik dc sc kd md wh fa re ve ps ow tl di lv bf bo bd co bt ma)), (di, .inl (cs 1, 2, .inl Di))]) ([.ref o] : List Value).toArray s 0 0 A) (F0 m 71 ls [.int (tSq (isf kd W H md) kd ow (vtl (Di 0) (Di 1))), .ref o]) := by
    intro Hp locs ls hP hD hS hl
    refine xputf (C := RX7) (T := TX7) (N := 34) (ws1 := [(o, .inr (7, mdF (tSq (isf kd W H md) kd ow (vtl (Di 0) (Di 1))) W H mt qu zz nw ol ne se ke nc ns is ik dc sc kd md wh fa re ve ps ow tl di lv bf bo bd co bt ma)), (di, .inl (cs 1, 2, .inl Di))]) hF hX hP hD hS (by decide +kernel) tyX7 tyX7_ok nmX7 0 0 rfl rfl (by decide) (by decide +kernel) rfl (rfl) (rfl) (Nat.le_of_ble_eq_true rfl) dX7_square_71 rfl (fun Hp locs hP hD hS => ?_)
    refine lv_aload_n hx hb dX7_square_74 rfl (lv_at hl 1 rfl) ?_
    refine xget (C := RX7) (T := TX7) (N := 34) hF hX hP (by decide +kernel) 0 0 rfl rfl (by decide) (by decide +kernel) rfl dX7_square_75 ?_
    refine lv_if_le (tgt := 83) hx hb dX7_square_78 (by decide) (fun c_78 => absurd c_78 (by rcases ht with h9 | h9 <;> rw [h9] <;> decide)) (fun _ => ?_)
    refine lv_iconst (v := 0) hx hb dX7_square_81 (by decide) ?_
    exact xri (Q9 := fun _ _ _ _ => True) hF hr hlk hP hD hS dX7_square_82
  have join_23 : ∀ (Hp : Heap) (locs : List Loc) (ls : Array Slot), va_P D vwCl [(o, .inr (7, mdF th W H mt qu zz nw ol ne se ke nc ns is ik dc sc kd md wh fa re ve ps ow tl di lv bf bo bd co bt ma)), (di, .inl (cs 1, 2, .inl Di))] Hp → va_D A [(o, .inr (7, mdF th W H mt qu zz nw ol ne se ke nc ns is ik dc sc kd md wh fa re ve ps ow tl di lv bf bo bd co bt ma)), (di, .inl (cs 1, 2, .inl Di))] → va_S A s.heap Hp locs → lv_has ls 4 [(0, .ref o)] → xW p l e ({ frames := 1, cells := 0, slots := 0, locals := 20 } : Room) s m ([.ref o] : List Value).toArray below meth c Hp locs 0 0 (MQ below (xE D A (some (.int 0)) [(o, .inr (7, mdF (tSq (isf kd W H md) kd ow (vtl (Di 0) (Di 1))) W H mt qu zz nw ol ne se ke nc ns is ik dc sc kd md wh fa re ve ps ow tl di lv bf bo bd co bt ma)), (di, .inl (cs 1, 2, .inl Di))]) ([.ref o] : List Value).toArray s 0 0 A) (F0 m 23 ls [.int (vtl (Di 0) (Di 1))]) := by
    intro Hp locs ls hP hD hS hl
    refine lv_istore_n (lv' := [(1, .int (vtl (Di 0) (Di 1))), (0, .ref o)]) hx hb dX7_square_23 rfl hl (by decide) rfl (fun ls hl => ?_)
    refine lv_aload_n hx hb dX7_square_24 rfl (lv_at hl 1 rfl) ?_
    refine lv_aload_n hx hb dX7_square_25 rfl (lv_at hl 1 rfl) ?_
    refine xV (rest := [.ref o]) (As := []) (ws1 := [(o, .inr (7, mdF th W H mt qu zz nw ol ne se ke nc ns is ik dc sc kd md wh fa re ve ps ow tl di lv bf bo bd co bt ma)), (di, .inl (cs 1, 2, .inl Di))]) (st1 := [.int (isf kd W H md), .ref o]) hF (c_X7_isFull l D cs tt o mt qu zz nw ol ne se ke re ve ps di lv bd co bt ma W H md th nc ns is ik dc sc kd wh fa ow tl bf bo) gX7_square_X7_isFull rfl (n := 0) (by decide +kernel) rfl ⟨⟨rfl, rfl⟩, Nat.le_of_ble_eq_true rfl, Nat.le_of_ble_eq_true rfl⟩ ⟨Nat.le_of_ble_eq_true rfl, Nat.le_of_ble_eq_true rfl⟩ hX hP hD hS [0] (by decide) rfl [o] rfl rfl (q0 := 0) (ci := 7) rfl rfl rfl hl.1 rfl (Nat.le_of_ble_eq_true rfl) dX7_square_26 rfl rfl (fun Hp locs hP hD hS => ?_)
    refine lv_if_ne (tgt := 66) hx hb dX7_square_29 (by decide) (fun c_29 => ?_) (fun c_29 => ?_)
    · refine lv_iconst (v := 1) hx hb dX7_square_66 (by decide) ?_
      refine lv_goto (tgt := 71) hx hb dX7_square_67 (by decide) ?_
      refine xrwi (z := (tSq (isf kd W H md) kd ow (vtl (Di 0) (Di 1)))) (by unfold tSq; rw [if_neg c_29]) ?_
      exact join_71   _ _ _ hP hD hS (lv_sub hl [0, 1] rfl)
    · refine lv_aload_n hx hb dX7_square_32 rfl (lv_at hl 1 rfl) ?_
      refine xget (C := RX7) (T := TX7) (N := 34) hF hX hP (by decide +kernel) 0 17 rfl rfl (by decide) (by decide +kernel) rfl dX7_square_33 ?_
      refine lv_iconst (v := 1) hx hb dX7_square_36 (by decide) ?_
      refine lv_icmp_ne (tgt := 47) hx hb dX7_square_37 (by decide) (fun c_37 => ?_) (fun c_37 => ?_)
      · refine lv_aload_n hx hb dX7_square_47 rfl (lv_at hl 1 rfl) ?_
        refine xget (C := RX7) (T := TX7) (N := 34) hF hX hP (by decide +kernel) 0 17 rfl rfl (by decide) (by decide +kernel) rfl dX7_square_48 ?_
        refine lv_iconst (v := 3) hx hb dX7_square_51 (by decide) ?_
        refine lv_icmp_ne (tgt := 70) hx hb dX7_square_52 (by decide) (fun c_52 => ?_) (fun c_52 => ?_)
        · refine lv_iconst (v := 0) hx hb dX7_square_70 (by decide) ?_
          refine xrwi (z := (tSq (isf kd W H md) kd ow (vtl (Di 0) (Di 1)))) (by unfold tSq; rw [if_pos c_29, if_neg c_37, if_neg c_52]) ?_
          exact join_71   _ _ _ hP hD hS (lv_sub hl [0, 1] rfl)
        · refine lv_aload_n hx hb dX7_square_55 rfl (lv_at hl 1 rfl) ?_
          refine xget (C := RX7) (T := TX7) (N := 34) hF hX hP (by decide +kernel) 0 24 rfl rfl (by decide) (by decide +kernel) rfl dX7_square_56 ?_
          refine lv_if_ne (tgt := 70) hx hb dX7_square_59 (by decide) (fun c_59 => ?_) (fun c_59 => ?_)
          · refine lv_iconst (v := 0) hx hb dX7_square_70 (by decide) ?_
            refine xrwi (z := (tSq (isf kd W H md) kd ow (vtl (Di 0) (Di 1)))) (by unfold tSq; rw [if_pos c_29, if_neg c_37, if_pos c_52, if_neg c_59]) ?_
            exact join_71   _ _ _ hP hD hS (lv_sub hl [0, 1] rfl)
          · refine lv_iload_n hx hb dX7_square_62 rfl (lv_at hl 0 rfl) ?_
            refine lv_if_ne (tgt := 70) hx hb dX7_square_63 (by decide) (fun c_63 => ?_) (fun c_63 => ?_)
            · refine lv_iconst (v := 0) hx hb dX7_square_70 (by decide) ?_
              refine xrwi (z := (tSq (isf kd W H md) kd ow (vtl (Di 0) (Di 1)))) (by unfold tSq; rw [if_pos c_29, if_neg c_37, if_pos c_52, if_pos c_59, if_neg c_63]) ?_
              exact join_71   _ _ _ hP hD hS (lv_sub hl [0, 1] rfl)
            · refine lv_iconst (v := 1) hx hb dX7_square_66 (by decide) ?_
              refine lv_goto (tgt := 71) hx hb dX7_square_67 (by decide) ?_
              refine xrwi (z := (tSq (isf kd W H md) kd ow (vtl (Di 0) (Di 1)))) (by unfold tSq; rw [if_pos c_29, if_neg c_37, if_pos c_52, if_pos c_59, if_pos c_63]) ?_
              exact join_71   _ _ _ hP hD hS (lv_sub hl [0, 1] rfl)
      · refine lv_aload_n hx hb dX7_square_40 rfl (lv_at hl 1 rfl) ?_
        refine xget (C := RX7) (T := TX7) (N := 34) hF hX hP (by decide +kernel) 0 24 rfl rfl (by decide) (by decide +kernel) rfl dX7_square_41 ?_
        refine lv_if_eq (tgt := 66) hx hb dX7_square_44 (by decide) (fun c_44 => ?_) (fun c_44 => ?_)
        · refine lv_iconst (v := 1) hx hb dX7_square_66 (by decide) ?_
          refine lv_goto (tgt := 71) hx hb dX7_square_67 (by decide) ?_
          refine xrwi (z := (tSq (isf kd W H md) kd ow (vtl (Di 0) (Di 1)))) (by unfold tSq; rw [if_pos c_29, if_pos c_37, if_pos c_44]) ?_
          exact join_71   _ _ _ hP hD hS (lv_sub hl [0, 1] rfl)
        · refine lv_aload_n hx hb dX7_square_47 rfl (lv_at hl 1 rfl) ?_
          refine xget (C := RX7) (T := TX7) (N := 34) hF hX hP (by decide +kernel) 0 17 rfl rfl (by decide) (by decide +kernel) rfl dX7_square_48 ?_
          refine lv_iconst (v := 3) hx hb dX7_square_51 (by decide) ?_
          refine lv_icmp_ne (tgt := 70) hx hb dX7_square_52 (by decide) (fun c_52 => ?_) (fun c_52 => ?_)
          · refine lv_iconst (v := 0) hx hb dX7_square_70 (by decide) ?_
            refine xrwi (z := (tSq (isf kd W H md) kd ow (vtl (Di 0) (Di 1)))) (by unfold tSq; rw [if_pos c_29, if_pos c_37, if_neg c_44, if_neg c_52]) ?_
            exact join_71   _ _ _ hP hD hS (lv_sub hl [0, 1] rfl)
          · refine lv_aload_n hx hb dX7_square_55 rfl (lv_at hl 1 rfl) ?_
            refine xget (C := RX7) (T := TX7) (N := 34) hF hX hP (by decide +kernel) 0 24 rfl rfl (by decide) (by decide +kernel) rfl dX7_square_56 ?_
            refine lv_if_ne (tgt := 70) hx hb dX7_square_59 (by decide) (fun c_59 => ?_) (fun c_59 => ?_)
            · refine lv_iconst (v := 0) hx hb dX7_square_70 (by decide) ?_
              refine xrwi (z := (tSq (isf kd W H md) kd ow (vtl (Di 0) (Di 1)))) (by unfold tSq; rw [if_pos c_29, if_pos c_37, if_neg c_44, if_pos c_52, if_neg c_59]) ?_
              exact join_71   _ _ _ hP hD hS (lv_sub hl [0, 1] rfl)
            · refine lv_iload_n hx hb dX7_square_62 rfl (lv_at hl 0 rfl) ?_
              refine lv_if_ne (tgt := 70) hx hb dX7_square_63 (by decide) (fun c_63 => ?_) (fun c_63 => ?_)
              · refine lv_iconst (v := 0) hx hb dX7_square_70 (by decide) ?_
                refine xrwi (z := (tSq (isf kd W H md) kd ow (vtl (Di 0) (Di 1)))) (by unfold tSq; rw [if_pos c_29, if_pos c_37, if_neg c_44, if_pos c_52, if_pos c_59, if_neg c_63]) ?_
                exact join_71   _ _ _ hP hD hS (lv_sub hl [0, 1] rfl)
              · refine lv_iconst (v := 1) hx hb dX7_square_66 (by decide) ?_
                refine lv_goto (tgt := 71) hx hb dX7_square_67 (by decide) ?_
                refine xrwi (z := (tSq (isf kd W H md) kd ow (vtl (Di 0) (Di 1)))) (by unfold tSq; rw [if_pos c_29, if_pos c_37, if_neg c_44, if_pos c_52, if_pos c_59, if_pos c_63]) ?_
                exact join_71   _ _ _ hP hD hS (lv_sub hl [0, 1] rfl)
  refine lv_aload_n hx hb dX7_square_0 rfl (lv_at hl 0 rfl) ?_
  refine xget (C := RX7) (T := TX7) (N := 34) hF hX hP (by decide +kernel) 0 26 rfl rfl (by decide) (by decide +kernel) rfl dX7_square_1 ?_
  refine lv_iconst (v := 0) hx hb dX7_square_4 (by decide) ?_
  refine xzald (k := 0) hF hX hP 1 rfl (rfl) (vp_in_nI (n := 0) (by decide) (by decide)) dX7_square_5 ?_
  refine lv_if_ne (tgt := 18) hx hb dX7_square_6 (by decide) (fun c_6 => ?_) (fun c_6 => ?_)
  · refine lv_iconst (v := 1) hx hb dX7_square_18 (by decide) ?_
    refine lv_goto (tgt := 23) hx hb dX7_square_19 (by decide) ?_
    refine xrwi (z := vtl (Di 0) (Di 1)) (by unfold vtl; rw [if_neg c_6]) ?_
    exact join_23   _ _ _ hP hD hS (lv_sub hl [0] rfl)
  · refine lv_aload_n hx hb dX7_square_9 rfl (lv_at hl 0 rfl) ?_
    refine xget (C := RX7) (T := TX7) (N := 34) hF hX hP (by decide +kernel) 0 26 rfl rfl (by decide) (by decide +kernel) rfl dX7_square_10 ?_
    refine lv_iconst (v := 1) hx hb dX7_square_13 (by decide) ?_
    refine xzald (k := 1) hF hX hP 1 rfl (rfl) (vp_in_nI (n := 1) (by decide) (by decide)) dX7_square_14 ?_
    refine lv_if_eq (tgt := 22) hx hb dX7_square_15 (by decide) (fun c_15 => ?_) (fun c_15 => ?_)
    · refine lv_iconst (v := 0) hx hb dX7_square_22 (by decide) ?_
      refine xrwi (z := vtl (Di 0) (Di 1)) (by unfold vtl; rw [if_pos c_6, if_pos c_15]) ?_
      exact join_23   _ _ _ hP hD hS (lv_sub hl [0] rfl)
    · refine lv_iconst (v := 1) hx hb dX7_square_18 (by decide) ?_
      refine lv_goto (tgt := 23) hx hb dX7_square_19 (by decide) ?_
      refine xrwi (z := vtl (Di 0) (Di 1)) (by unfold vtl; rw [if_pos c_6, if_neg c_15]) ?_
      exact join_23   _ _ _ hP hD hS (lv_sub hl [0] rfl)

set_option maxHeartbeats 4000000 in
set_option maxRecDepth 100000 in
theorem c_X7_leave_bad (l : Launch) (D : va_G) (cs : Nat → ClassId) (tt : Nat → Nat) (o mt qu zz nw ol ne se ke re ve ps di lv bd co bt ma W H md : Nat) (th nc ns is ik dc sc kd wh fa ow tl bf bo : Int32) (n9 : Int32) (ht : (tLeave n9 (sql kd W H md) kd tl (ntl kd bf bo)) = 1 ∨ (tLeave n9 (sql kd W H md) kd tl (ntl kd bf bo)) = 2) : xM l yX7_leave wsX7_leave ({ frames := 0, cells := 0, slots := 0, locals := 0 } : Room) D cs tt [.ref o, .int n9] [(o, .inr (7, mdF th W H mt qu zz nw ol ne se ke nc ns is ik dc sc kd md wh fa re ve ps ow tl di lv bf bo bd co bt ma))] (some (.int 0)) [(o, .inr (7, mdF (tLeave n9 (sql kd W H md) kd tl (ntl kd bf bo)) W H mt qu zz nw ol ne se ke nc ns is ik dc sc kd md wh fa re ve ps ow tl di lv bf bo bd co bt ma))] := by
  refine xM.of RX7 rfl (by decide) rfl (Nat.le_of_ble_eq_true rfl) ?_
  intro p e s m below meth c A ls hF hr hlk hX hP hD hS hl
  have hx := hF.1
  have hb := hF.2.1
  have hl : lv_has ls 6 [(0, .ref o), (1, .int n9)] := hl
  have join_100 : ∀ (Hp : Heap) (locs : List Loc) (ls : Array Slot), va_P D vwCl [(o, .inr (7, mdF th W H mt qu zz nw ol ne se ke nc ns is ik dc sc kd md wh fa re ve ps ow tl di lv bf bo bd co bt ma))] Hp → va_D A [(o, .inr (7, mdF th W H mt qu zz nw ol ne se ke nc ns is ik dc sc kd md wh fa re ve ps ow tl di lv bf bo bd co bt ma))] → va_S A s.heap Hp locs → lv_has ls 6 [(0, .ref o), (1, .int n9)] → xW p l e ({ frames := 0, cells := 0, slots := 0, locals := 0 } : Room) s m ([.ref o, .int n9] : List Value).toArray below meth c Hp locs 0 0 (MQ below (xE D A (some (.int 0)) [(o, .inr (7, mdF (tLeave n9 (sql kd W H md) kd tl (ntl kd bf bo)) W H mt qu zz nw ol ne se ke nc ns is ik dc sc kd md wh fa re ve ps ow tl di lv bf bo bd co bt ma))]) ([.ref o, .int n9] : List Value).toArray s 0 0 A) (F0 m 100 ls [.int (tLeave n9 (sql kd W H md) kd tl (ntl kd bf bo)), .ref o]) := by
    intro Hp locs ls hP hD hS hl
    refine xputf (C := RX7) (T := TX7) (N := 34) (ws1 := [(o, .inr (7, mdF (tLeave n9 (sql kd W H md) kd tl (ntl kd bf bo)) W H mt qu zz nw ol ne se ke nc ns is ik dc sc kd md wh fa re ve ps ow tl di lv bf bo bd co bt ma))]) hF hX hP hD hS (by decide +kernel) tyX7 tyX7_ok nmX7 0 0 rfl rfl (by decide) (by decide +kernel) rfl (rfl) (rfl) (Nat.le_of_ble_eq_true rfl) dX7_leave_100 rfl (fun Hp locs hP hD hS => ?_)
    refine lv_aload_n hx hb dX7_leave_103 rfl (lv_at hl 0 rfl) ?_
    refine xget (C := RX7) (T := TX7) (N := 34) hF hX hP (by decide +kernel) 0 0 rfl rfl (by decide) (by decide +kernel) rfl dX7_leave_104 ?_
    refine lv_if_le (tgt := 112) hx hb dX7_leave_107 (by decide) (fun c_107 => absurd c_107 (by rcases ht with h9 | h9 <;> rw [h9] <;> decide)) (fun _ => ?_)
    refine lv_iconst (v := 0) hx hb dX7_leave_110 (by decide) ?_
    exact xri (Q9 := fun _ _ _ _ => True) hF hr hlk hP hD hS dX7_leave_111
  have join_53 : ∀ (Hp : Heap) (locs : List Loc) (ls : Array Slot), va_P D vwCl [(o, .inr (7, mdF th W H mt qu zz nw ol ne se ke nc ns is ik dc sc kd md wh fa re ve ps ow tl di lv bf bo bd co bt ma))] Hp → va_D A [(o, .inr (7, mdF th W H mt qu zz nw ol ne se ke nc ns is ik dc sc kd md wh fa re ve ps ow tl di lv bf bo bd co bt ma))] → va_S A s.heap Hp locs → lv_has ls 6 [(0, .ref o), (1, .int n9), (2, .int (sql kd W H md))] → xW p l e ({ frames := 0, cells := 0, slots := 0, locals := 0 } : Room) s m ([.ref o, .int n9] : List Value).toArray below meth c Hp locs 0 0 (MQ below (xE D A (some (.int 0)) [(o, .inr (7, mdF (tLeave n9 (sql kd W H md) kd tl (ntl kd bf bo)) W H mt qu zz nw ol ne se ke nc ns is ik dc sc kd md wh fa re ve ps ow tl di lv bf bo bd co bt ma))]) ([.ref o, .int n9] : List Value).toArray s 0 0 A) (F0 m 53 ls [.int (ntl kd bf bo)]) := by
    intro Hp locs ls hP hD hS hl
    refine lv_istore_n (lv' := [(3, .int (ntl kd bf bo)), (0, .ref o), (1, .int n9), (2, .int (sql kd W H md))]) hx hb dX7_leave_53 rfl hl (by decide) rfl (fun ls hl => ?_)
    refine lv_aload_n hx hb dX7_leave_54 rfl (lv_at hl 1 rfl) ?_
    refine lv_iload_n hx hb dX7_leave_55 rfl (lv_at hl 2 rfl) ?_
    refine lv_iconst (v := 1) hx hb dX7_leave_56 (by decide) ?_
    refine lv_icmp_lt (tgt := 65) hx hb dX7_leave_57 (by decide) (fun c_57 => ?_) (fun c_57 => ?_)
    · refine lv_iconst (v := 1) hx hb dX7_leave_65 (by decide) ?_
      refine lv_goto (tgt := 100) hx hb dX7_leave_66 (by decide) ?_
      refine xrwi (z := (tLeave n9 (sql kd W H md) kd tl (ntl kd bf bo))) (by unfold tLeave; rw [if_pos c_57]) ?_
      exact join_100   _ _ _ hP hD hS (lv_sub hl [1, 2] rfl)
    · refine lv_iload_n hx hb dX7_leave_60 rfl (lv_at hl 2 rfl) ?_
      refine lv_iload_n hx hb dX7_leave_61 rfl (lv_at hl 3 rfl) ?_
      refine lv_icmp_le (tgt := 69) hx hb dX7_leave_62 (by decide) (fun c_62 => ?_) (fun c_62 => ?_)
      · refine lv_aload_n hx hb dX7_leave_69 rfl (lv_at hl 1 rfl) ?_
        refine xget (C := RX7) (T := TX7) (N := 34) hF hX hP (by decide +kernel) 0 17 rfl rfl (by decide) (by decide +kernel) rfl dX7_leave_70 ?_
        refine lv_if_eq (tgt := 95) hx hb dX7_leave_73 (by decide) (fun c_73 => ?_) (fun c_73 => ?_)
        · refine lv_iconst (v := 2) hx hb dX7_leave_95 (by decide) ?_
          refine lv_goto (tgt := 100) hx hb dX7_leave_96 (by decide) ?_
          refine xrwi (z := (tLeave n9 (sql kd W H md) kd tl (ntl kd bf bo))) (by unfold tLeave; rw [if_neg c_57, if_pos c_62, if_pos c_73]) ?_
          exact join_100   _ _ _ hP hD hS (lv_sub hl [1, 2] rfl)
        · refine lv_aload_n hx hb dX7_leave_76 rfl (lv_at hl 1 rfl) ?_
          refine xget (C := RX7) (T := TX7) (N := 34) hF hX hP (by decide +kernel) 0 17 rfl rfl (by decide) (by decide +kernel) rfl dX7_leave_77 ?_
          refine lv_iconst (v := 1) hx hb dX7_leave_80 (by decide) ?_
          refine lv_icmp_eq (tgt := 95) hx hb dX7_leave_81 (by decide) (fun c_81 => ?_) (fun c_81 => ?_)
          · refine lv_iconst (v := 2) hx hb dX7_leave_95 (by decide) ?_
            refine lv_goto (tgt := 100) hx hb dX7_leave_96 (by decide) ?_
            refine xrwi (z := (tLeave n9 (sql kd W H md) kd tl (ntl kd bf bo))) (by unfold tLeave; rw [if_neg c_57, if_pos c_62, if_neg c_73, if_pos c_81]) ?_
            exact join_100   _ _ _ hP hD hS (lv_sub hl [1, 2] rfl)
          · refine lv_aload_n hx hb dX7_leave_84 rfl (lv_at hl 1 rfl) ?_
            refine xget (C := RX7) (T := TX7) (N := 34) hF hX hP (by decide +kernel) 0 25 rfl rfl (by decide) (by decide +kernel) rfl dX7_leave_85 ?_
            refine lv_if_ne (tgt := 95) hx hb dX7_leave_88 (by decide) (fun c_88 => ?_) (fun c_88 => ?_)
            · refine lv_iconst (v := 2) hx hb dX7_leave_95 (by decide) ?_
              refine lv_goto (tgt := 100) hx hb dX7_leave_96 (by decide) ?_
              refine xrwi (z := (tLeave n9 (sql kd W H md) kd tl (ntl kd bf bo))) (by unfold tLeave; rw [if_neg c_57, if_pos c_62, if_neg c_73, if_neg c_81, if_neg c_88]) ?_
              exact join_100   _ _ _ hP hD hS (lv_sub hl [1, 2] rfl)
            · refine lv_iload_n hx hb dX7_leave_91 rfl (lv_at hl 0 rfl) ?_
              refine lv_if_eq (tgt := 99) hx hb dX7_leave_92 (by decide) (fun c_92 => ?_) (fun c_92 => ?_)
              · refine lv_iconst (v := 0) hx hb dX7_leave_99 (by decide) ?_
                refine xrwi (z := (tLeave n9 (sql kd W H md) kd tl (ntl kd bf bo))) (by unfold tLeave; rw [if_neg c_57, if_pos c_62, if_neg c_73, if_neg c_81, if_pos c_88, if_pos c_92]) ?_
                exact join_100   _ _ _ hP hD hS (lv_sub hl [1, 2] rfl)
              · refine lv_iconst (v := 2) hx hb dX7_leave_95 (by decide) ?_
                refine lv_goto (tgt := 100) hx hb dX7_leave_96 (by decide) ?_
                refine xrwi (z := (tLeave n9 (sql kd W H md) kd tl (ntl kd bf bo))) (by unfold tLeave; rw [if_neg c_57, if_pos c_62, if_neg c_73, if_neg c_81, if_pos c_88, if_neg c_92]) ?_
                exact join_100   _ _ _ hP hD hS (lv_sub hl [1, 2] rfl)
      · refine lv_iconst (v := 1) hx hb dX7_leave_65 (by decide) ?_
        refine lv_goto (tgt := 100) hx hb dX7_leave_66 (by decide) ?_
        refine xrwi (z := (tLeave n9 (sql kd W H md) kd tl (ntl kd bf bo))) (by unfold tLeave; rw [if_neg c_57, if_neg c_62]) ?_
        exact join_100   _ _ _ hP hD hS (lv_sub hl [1, 2] rfl)
  have join_25 : ∀ (Hp : Heap) (locs : List Loc) (ls : Array Slot), va_P D vwCl [(o, .inr (7, mdF th W H mt qu zz nw ol ne se ke nc ns is ik dc sc kd md wh fa re ve ps ow tl di lv bf bo bd co bt ma))] Hp → va_D A [(o, .inr (7, mdF th W H mt qu zz nw ol ne se ke nc ns is ik dc sc kd md wh fa re ve ps ow tl di lv bf bo bd co bt ma))] → va_S A s.heap Hp locs → lv_has ls 6 [(0, .ref o), (1, .int n9)] → xW p l e ({ frames := 0, cells := 0, slots := 0, locals := 0 } : Room) s m ([.ref o, .int n9] : List Value).toArray below meth c Hp locs 0 0 (MQ below (xE D A (some (.int 0)) [(o, .inr (7, mdF (tLeave n9 (sql kd W H md) kd tl (ntl kd bf bo)) W H mt qu zz nw ol ne se ke nc ns is ik dc sc kd md wh fa re ve ps ow tl di lv bf bo bd co bt ma))]) ([.ref o, .int n9] : List Value).toArray s 0 0 A) (F0 m 25 ls [.int (sql kd W H md)]) := by
    intro Hp locs ls hP hD hS hl
    refine lv_istore_n (lv' := [(2, .int (sql kd W H md)), (0, .ref o), (1, .int n9)]) hx hb dX7_leave_25 rfl hl (by decide) rfl (fun ls hl => ?_)
    refine lv_aload_n hx hb dX7_leave_26 rfl (lv_at hl 1 rfl) ?_
    refine xget (C := RX7) (T := TX7) (N := 34) hF hX hP (by decide +kernel) 0 17 rfl rfl (by decide) (by decide +kernel) rfl dX7_leave_27 ?_
    refine lv_iconst (v := 3) hx hb dX7_leave_30 (by decide) ?_
    refine lv_icmp_ne (tgt := 52) hx hb dX7_leave_31 (by decide) (fun c_31 => ?_) (fun c_31 => ?_)
    · refine lv_iconst (v := 0) hx hb dX7_leave_52 (by decide) ?_
      refine xrwi (z := ntl kd bf bo) (by unfold ntl; rw [if_neg c_31]) ?_
      exact join_53   _ _ _ hP hD hS (lv_sub hl [1, 2, 0] rfl)
    · refine lv_aload_n hx hb dX7_leave_34 rfl (lv_at hl 1 rfl) ?_
      refine xget (C := RX7) (T := TX7) (N := 34) hF hX hP (by decide +kernel) 0 28 rfl rfl (by decide) (by decide +kernel) rfl dX7_leave_35 ?_
      refine lv_if_eq (tgt := 48) hx hb dX7_leave_38 (by decide) (fun c_38 => ?_) (fun c_38 => ?_)
      · refine lv_iconst (v := 1) hx hb dX7_leave_48 (by decide) ?_
        refine lv_goto (tgt := 53) hx hb dX7_leave_49 (by decide) ?_
        refine xrwi (z := ntl kd bf bo) (by unfold ntl; rw [if_pos c_31, if_pos c_38]) ?_
        exact join_53   _ _ _ hP hD hS (lv_sub hl [1, 2, 0] rfl)
      · refine lv_aload_n hx hb dX7_leave_41 rfl (lv_at hl 1 rfl) ?_
        refine xget (C := RX7) (T := TX7) (N := 34) hF hX hP (by decide +kernel) 0 29 rfl rfl (by decide) (by decide +kernel) rfl dX7_leave_42 ?_
        refine lv_if_eq (tgt := 52) hx hb dX7_leave_45 (by decide) (fun c_45 => ?_) (fun c_45 => ?_)
        · refine lv_iconst (v := 0) hx hb dX7_leave_52 (by decide) ?_
          refine xrwi (z := ntl kd bf bo) (by unfold ntl; rw [if_pos c_31, if_neg c_38, if_pos c_45]) ?_
          exact join_53   _ _ _ hP hD hS (lv_sub hl [1, 2, 0] rfl)
        · refine lv_iconst (v := 1) hx hb dX7_leave_48 (by decide) ?_
          refine lv_goto (tgt := 53) hx hb dX7_leave_49 (by decide) ?_
          refine xrwi (z := ntl kd bf bo) (by unfold ntl; rw [if_pos c_31, if_neg c_38, if_neg c_45]) ?_
          exact join_53   _ _ _ hP hD hS (lv_sub hl [1, 2, 0] rfl)
  refine lv_aload_n hx hb dX7_leave_0 rfl (lv_at hl 0 rfl) ?_
  refine xget (C := RX7) (T := TX7) (N := 34) hF hX hP (by decide +kernel) 0 17 rfl rfl (by decide) (by decide +kernel) rfl dX7_leave_1 ?_
  refine lv_if_ne (tgt := 11) hx hb dX7_leave_4 (by decide) (fun c_4 => ?_) (fun c_4 => ?_)
  · refine lv_aload_n hx hb dX7_leave_11 rfl (lv_at hl 0 rfl) ?_
    refine xget (C := RX7) (T := TX7) (N := 34) hF hX hP (by decide +kernel) 0 1 rfl rfl (by decide) (by decide +kernel) rfl dX7_leave_12 ?_
    refine lv_aload_n hx hb dX7_leave_15 rfl (lv_at hl 0 rfl) ?_
    refine xget (C := RX7) (T := TX7) (N := 34) hF hX hP (by decide +kernel) 0 2 rfl rfl (by decide) (by decide +kernel) rfl dX7_leave_16 ?_
    refine lv_imul hx hb dX7_leave_19 ?_
    refine lv_aload_n hx hb dX7_leave_20 rfl (lv_at hl 0 rfl) ?_
    refine xget (C := RX7) (T := TX7) (N := 34) hF hX hP (by decide +kernel) 0 18 rfl rfl (by decide) (by decide +kernel) rfl dX7_leave_21 ?_
    refine lv_isub hx hb dX7_leave_24 ?_
    refine xrwi (z := sql kd W H md) (by unfold sql; rw [if_neg c_4]) ?_
    exact join_25   _ _ _ hP hD hS (lv_sub hl [0, 1] rfl)
  · refine lv_iconst (v := 0) hx hb dX7_leave_7 (by decide) ?_
    refine lv_goto (tgt := 25) hx hb dX7_leave_8 (by decide) ?_
    refine xrwi (z := sql kd W H md) (by unfold sql; rw [if_pos c_4]) ?_
    exact join_25   _ _ _ hP hD hS (lv_sub hl [0, 1] rfl)

set_option maxHeartbeats 4000000 in
set_option maxRecDepth 100000 in
theorem c_X7_leave_A (l : Launch) (D : va_G) (cs : Nat → ClassId) (tt : Nat → Nat) (o mt qu zz nw ol ne se ke re ve ps di lv bd co bt ma W H md : Nat) (th nc ns is ik dc sc wh fa bf bo : Int32) (n : Nat) (gw go gn V P mf Bd : Nat → Int32) (hw : 1 ≤ W) (hw4 : W ≤ 4) (hh : 1 ≤ H) (hh3 : H ≤ 3) (hn1 : 1 ≤ n) (hn2 : n ≤ W * H - md) (hm : md ≤ W * H) : xM l yX7_leave wsX7_leave ({ frames := 5, cells := 0, slots := 0, locals := 133 } : Room) D cs tt [.ref o, .int (nI n)] [(o, .inr (7, mdF th W H mt qu zz nw ol ne se ke nc ns is ik dc sc 2 md wh fa re ve ps 0 0 di lv bf bo bd co bt ma)), (nw, .inl (cs 0, 4608, .inl gw)), (ol, .inl (cs 0, 4608, .inl go)), (ne, .inl (cs 0, 4608, .inl gn)), (ve, .inl (cs 0, 4, .inl V)), (ps, .inl (cs 0, 3, .inl P)), (bd, .inl (cs 1, 2, .inl Bd)), (ma, .inl (cs 0, 64, .inl mf))] (some (.int (nI (md + n)))) [(o, .inr (7, mdF 0 W H mt qu zz nw ol ne se ke nc ns is ik dc sc 2 (md + n) wh fa re ve ps 0 0 di lv 1 0 bd co bt ma)), (nw, .inl (cs 0, 4608, .inl (lvF gw W md (fun p9 x9 y9 => mft (lokP gn p9) (wdt p9 W) (wdt p9 H) (nI x9) (nI y9) (mus wh ((fun _ => 0) 0) p9) (mus wh ((fun _ => 0) 1) p9)) n))), (ol, .inl (cs 0, 4608, .inl go)), (ne, .inl (cs 0, 4608, .inl gn)), (ve, .inl (cs 0, 4, .inl (fun _ => 0))), (ps, .inl (cs 0, 3, .inl (fun _ => 1024))), (bd, .inl (cs 1, 2, .inl (du 1 0))), (ma, .inl (cs 0, 64, .inl (fun _ => 0)))] := by
  refine xM.of RX7 rfl (by decide) rfl (Nat.le_of_ble_eq_true rfl) ?_
  intro p e s m below meth c A ls hF hr hlk hX hP hD hS hl
  have hx := hF.1
  have hb := hF.2.1
  have hl : lv_has ls 6 [(0, .ref o), (1, .int (nI n))] := hl
  have hWH : W * H ≤ 12 := Nat.mul_le_mul hw4 hh3
  refine lv_aload_n hx hb dX7_leave_0 rfl (lv_at hl 0 rfl) ?_
  refine xget (C := RX7) (T := TX7) (N := 34) hF hX hP (by decide +kernel) 0 17 rfl rfl (by decide) (by decide +kernel) rfl dX7_leave_1 ?_
  refine lv_if_ne (tgt := 11) hx hb dX7_leave_4 (by decide) (fun _ => ?_) (fun c_4 => absurd c_4 (by decide))
  refine lv_aload_n hx hb dX7_leave_11 rfl (lv_at hl 0 rfl) ?_
  refine xget (C := RX7) (T := TX7) (N := 34) hF hX hP (by decide +kernel) 0 1 rfl rfl (by decide) (by decide +kernel) rfl dX7_leave_12 ?_
  refine lv_aload_n hx hb dX7_leave_15 rfl (lv_at hl 0 rfl) ?_
  refine xget (C := RX7) (T := TX7) (N := 34) hF hX hP (by decide +kernel) 0 2 rfl rfl (by decide) (by decide +kernel) rfl dX7_leave_16 ?_
  refine lv_imul hx hb dX7_leave_19 ?_
  refine lv_aload_n hx hb dX7_leave_20 rfl (lv_at hl 0 rfl) ?_
  refine xget (C := RX7) (T := TX7) (N := 34) hF hX hP (by decide +kernel) 0 18 rfl rfl (by decide) (by decide +kernel) rfl dX7_leave_21 ?_
  refine lv_isub hx hb dX7_leave_24 ?_
  refine xrwi (z := nI (W * H - md)) (by rw [pk_mul, pk_sub (by omega)]) ?_
  refine lv_istore_n (lv' := [(2, .int (nI (W * H - md))), (0, .ref o), (1, .int (nI n))]) hx hb dX7_leave_25 rfl hl (by decide) rfl (fun ls hl => ?_)
  refine lv_aload_n hx hb dX7_leave_26 rfl (lv_at hl 1 rfl) ?_
  refine xget (C := RX7) (T := TX7) (N := 34) hF hX hP (by decide +kernel) 0 17 rfl rfl (by decide) (by decide +kernel) rfl dX7_leave_27 ?_
  refine lv_iconst (v := 3) hx hb dX7_leave_30 (by decide) ?_
  refine lv_icmp_ne (tgt := 52) hx hb dX7_leave_31 (by decide) (fun _ => ?_) (fun c_31 => absurd c_31 (by decide))
  refine lv_iconst (v := 0) hx hb dX7_leave_52 (by decide) ?_
  refine lv_istore_n (lv' := [(3, .int 0), (2, .int (nI (W * H - md))), (0, .ref o), (1, .int (nI n))]) hx hb dX7_leave_53 rfl hl (by decide) rfl (fun ls hl => ?_)
  refine lv_aload_n hx hb dX7_leave_54 rfl (lv_at hl 2 rfl) ?_
  refine lv_iload_n hx hb dX7_leave_55 rfl (lv_at hl 3 rfl) ?_
  refine lv_iconst (v := 1) hx hb dX7_leave_56 (by decide) ?_
  refine lv_icmp_lt (tgt := 65) hx hb dX7_leave_57 (by decide) (fun c_57 => absurd c_57 (nI_nlt (b := 1) hn1 (by omega))) (fun _ => ?_)
  refine lv_iload_n hx hb dX7_leave_60 rfl (lv_at hl 3 rfl) ?_
  refine lv_iload_n hx hb dX7_leave_61 rfl (lv_at hl 1 rfl) ?_
  refine lv_icmp_le (tgt := 69) hx hb dX7_leave_62 (by decide) (fun _ => ?_) (fun c_62 => absurd (nI_le hn2 (by omega)) c_62)
  refine lv_aload_n hx hb dX7_leave_69 rfl (lv_at hl 2 rfl) ?_
  refine xget (C := RX7) (T := TX7) (N := 34) hF hX hP (by decide +kernel) 0 17 rfl rfl (by decide) (by decide +kernel) rfl dX7_leave_70 ?_
  refine lv_if_eq (tgt := 95) hx hb dX7_leave_73 (by decide) (fun c_73 => absurd c_73 (by decide)) (fun _ => ?_)
  refine lv_aload_n hx hb dX7_leave_76 rfl (lv_at hl 2 rfl) ?_
  refine xget (C := RX7) (T := TX7) (N := 34) hF hX hP (by decide +kernel) 0 17 rfl rfl (by decide) (by decide +kernel) rfl dX7_leave_77 ?_
  refine lv_iconst (v := 1) hx hb dX7_leave_80 (by decide) ?_
  refine lv_icmp_eq (tgt := 95) hx hb dX7_leave_81 (by decide) (fun c_81 => absurd c_81 (by decide)) (fun _ => ?_)
  refine lv_aload_n hx hb dX7_leave_84 rfl (lv_at hl 2 rfl) ?_
  refine xget (C := RX7) (T := TX7) (N := 34) hF hX hP (by decide +kernel) 0 25 rfl rfl (by decide) (by decide +kernel) rfl dX7_leave_85 ?_
  refine lv_if_ne (tgt := 95) hx hb dX7_leave_88 (by decide) (fun c_88 => absurd (by decide) c_88) (fun _ => ?_)
  refine lv_iload_n hx hb dX7_leave_91 rfl (lv_at hl 0 rfl) ?_
  refine lv_if_eq (tgt := 99) hx hb dX7_leave_92 (by decide) (fun _ => ?_) (fun c_92 => absurd (by decide) c_92)
  refine lv_iconst (v := 0) hx hb dX7_leave_99 (by decide) ?_
  refine xputf (C := RX7) (T := TX7) (N := 34) (ws1 := [(o, .inr (7, mdF 0 W H mt qu zz nw ol ne se ke nc ns is ik dc sc 2 md wh fa re ve ps 0 0 di lv bf bo bd co bt ma)), (nw, .inl (cs 0, 4608, .inl gw)), (ol, .inl (cs 0, 4608, .inl go)), (ne, .inl (cs 0, 4608, .inl gn)), (ve, .inl (cs 0, 4, .inl V)), (ps, .inl (cs 0, 3, .inl P)), (bd, .inl (cs 1, 2, .inl Bd)), (ma, .inl (cs 0, 64, .inl mf))]) hF hX hP hD hS (by decide +kernel) tyX7 tyX7_ok nmX7 0 0 rfl rfl (by decide) (by decide +kernel) rfl (rfl) (rfl) (Nat.le_of_ble_eq_true rfl) dX7_leave_100 rfl (fun Hp locs hP hD hS => ?_)
  refine lv_aload_n hx hb dX7_leave_103 rfl (lv_at hl 2 rfl) ?_
  refine xget (C := RX7) (T := TX7) (N := 34) hF hX hP (by decide +kernel) 0 0 rfl rfl (by decide) (by decide +kernel) rfl dX7_leave_104 ?_
  refine lv_if_le (tgt := 112) hx hb dX7_leave_107 (by decide) (fun _ => ?_) (fun c_107 => absurd (by decide) c_107)
  refine lv_aload_n hx hb dX7_leave_112 rfl (lv_at hl 2 rfl) ?_
  refine xget (C := RX7) (T := TX7) (N := 34) hF hX hP (by decide +kernel) 0 17 rfl rfl (by decide) (by decide +kernel) rfl dX7_leave_113 ?_
  refine lv_iconst (v := 2) hx hb dX7_leave_116 (by decide) ?_
  refine lv_icmp_ne (tgt := 124) hx hb dX7_leave_117 (by decide) (fun c_117 => absurd (by decide) c_117) (fun _ => ?_)
  refine lv_aload_n hx hb dX7_leave_120 rfl (lv_at hl 2 rfl) ?_
  refine xVM [true, false, false, false, true, false, false, false] (rest := []) (As := []) (ws1 := [(o, .inr (7, mdF 0 W H mt qu zz nw ol ne se ke nc ns is ik dc sc 2 md wh fa re ve ps 0 0 di lv bf bo bd co bt ma)), (nw, .inl (cs 0, 4608, .inl gw)), (ol, .inl (cs 0, 4608, .inl go)), (ne, .inl (cs 0, 4608, .inl gn)), (ve, .inl (cs 0, 4, .inl (fun _ => 0))), (ps, .inl (cs 0, 3, .inl P)), (bd, .inl (cs 1, 2, .inl Bd)), (ma, .inl (cs 0, 64, .inl mf))]) (st1 := []) hF (c_X7_clearVectors l D cs tt o mt qu zz nw ol ne se ke re ve ps di lv bd co bt ma W H md 0 nc ns is ik dc sc 2 wh fa 0 0 bf bo V) gX7_leave_X7_clearVectors rfl (n := 0) (by decide +kernel) rfl ⟨⟨rfl, rfl⟩, Nat.le_of_ble_eq_true rfl, Nat.le_of_ble_eq_true rfl⟩ ⟨Nat.le_of_ble_eq_true rfl, Nat.le_of_ble_eq_true rfl⟩ hX hP hD hS rfl [o, ve] rfl rfl (q0 := 0) (ci := 7) rfl rfl rfl hl.1 rfl (Nat.le_of_ble_eq_true rfl) dX7_leave_121 rfl rfl (fun Hp locs hP hD hS => ?_)
  refine lv_aload_n hx hb dX7_leave_124 rfl (lv_at hl 2 rfl) ?_
  refine xVM [true, false, false, false, false, true, false, false] (rest := []) (As := []) (ws1 := [(o, .inr (7, mdF 0 W H mt qu zz nw ol ne se ke nc ns is ik dc sc 2 md wh fa re ve ps 0 0 di lv bf bo bd co bt ma)), (nw, .inl (cs 0, 4608, .inl gw)), (ol, .inl (cs 0, 4608, .inl go)), (ne, .inl (cs 0, 4608, .inl gn)), (ve, .inl (cs 0, 4, .inl (fun _ => 0))), (ps, .inl (cs 0, 3, .inl (fun _ => 1024))), (bd, .inl (cs 1, 2, .inl Bd)), (ma, .inl (cs 0, 64, .inl mf))]) (st1 := []) hF (c_X7_clearPasts l D cs tt o mt qu zz nw ol ne se ke re ve ps di lv bd co bt ma W H md 0 nc ns is ik dc sc 2 wh fa 0 0 bf bo P) gX7_leave_X7_clearPasts rfl (n := 0) (by decide +kernel) rfl ⟨⟨rfl, rfl⟩, Nat.le_of_ble_eq_true rfl, Nat.le_of_ble_eq_true rfl⟩ ⟨Nat.le_of_ble_eq_true rfl, Nat.le_of_ble_eq_true rfl⟩ hX hP hD hS rfl [o, ps] rfl rfl (q0 := 0) (ci := 7) rfl rfl rfl hl.1 rfl (Nat.le_of_ble_eq_true rfl) dX7_leave_125 rfl rfl (fun Hp locs hP hD hS => ?_)
  refine lv_iconst (v := 0) hx hb dX7_leave_128 (by decide) ?_
  refine lv_istore (lv' := [(4, .int 0), (3, .int 0), (2, .int (nI (W * H - md))), (0, .ref o), (1, .int (nI n))]) hx hb dX7_leave_129 hl (by decide) rfl (fun ls hl => ?_)
  have loop_131 : ∀ (k131 : Nat) (k4 : Nat), 64 - k4 < k131 → k4 ≤ 64 → ∀ (Hp : Heap) (locs : List Loc) (ls : Array Slot), va_P D vwCl [(o, .inr (7, mdF 0 W H mt qu zz nw ol ne se ke nc ns is ik dc sc 2 md wh fa re ve ps 0 0 di lv bf bo bd co bt ma)), (nw, .inl (cs 0, 4608, .inl gw)), (ol, .inl (cs 0, 4608, .inl go)), (ne, .inl (cs 0, 4608, .inl gn)), (ve, .inl (cs 0, 4, .inl (fun _ => 0))), (ps, .inl (cs 0, 3, .inl (fun _ => 1024))), (bd, .inl (cs 1, 2, .inl Bd)), (ma, .inl (cs 0, 64, .inl (filTo mf 0 k4)))] Hp → va_D A [(o, .inr (7, mdF 0 W H mt qu zz nw ol ne se ke nc ns is ik dc sc 2 md wh fa re ve ps 0 0 di lv bf bo bd co bt ma)), (nw, .inl (cs 0, 4608, .inl gw)), (ol, .inl (cs 0, 4608, .inl go)), (ne, .inl (cs 0, 4608, .inl gn)), (ve, .inl (cs 0, 4, .inl (fun _ => 0))), (ps, .inl (cs 0, 3, .inl (fun _ => 1024))), (bd, .inl (cs 1, 2, .inl Bd)), (ma, .inl (cs 0, 64, .inl (filTo mf 0 k4)))] → va_S A s.heap Hp locs → lv_has ls 6 [(0, .ref o), (1, .int (nI n)), (4, .int (nI k4))] → xW p l e ({ frames := 5, cells := 0, slots := 0, locals := 133 } : Room) s m ([.ref o, .int (nI n)] : List Value).toArray below meth c Hp locs 0 0 (MQ below (xE D A (some (.int (nI (md + n)))) [(o, .inr (7, mdF 0 W H mt qu zz nw ol ne se ke nc ns is ik dc sc 2 (md + n) wh fa re ve ps 0 0 di lv 1 0 bd co bt ma)), (nw, .inl (cs 0, 4608, .inl (lvF gw W md (fun p9 x9 y9 => mft (lokP gn p9) (wdt p9 W) (wdt p9 H) (nI x9) (nI y9) (mus wh ((fun _ => 0) 0) p9) (mus wh ((fun _ => 0) 1) p9)) n))), (ol, .inl (cs 0, 4608, .inl go)), (ne, .inl (cs 0, 4608, .inl gn)), (ve, .inl (cs 0, 4, .inl (fun _ => 0))), (ps, .inl (cs 0, 3, .inl (fun _ => 1024))), (bd, .inl (cs 1, 2, .inl (du 1 0))), (ma, .inl (cs 0, 64, .inl (fun _ => 0)))]) ([.ref o, .int (nI n)] : List Value).toArray s 0 0 A) (F0 m 131 ls []) := by
    intro k131
    induction k131 with
    | zero => intro k4 h9; omega
    | succ k131 ih_131 =>
      intro k4 hk131 hk4 Hp locs ls hP hD hS hl
      refine lv_iload hx hb dX7_leave_131 (lv_at hl 2 rfl) ?_
      refine lv_bipush (v := 64) hx hb dX7_leave_133 (by decide) ?_
      refine lv_icmp_ge (tgt := 152) hx hb dX7_leave_135 (by decide) (fun c_135 => ?_) (fun c_135 => ?_)
      · have e9 : 64 ≤ k4 := nIle (a := 64) (b := k4) rfl rfl (by decide) (by omega) c_135
        have hP1 : va_P D vwCl [(o, .inr (7, mdF 0 W H mt qu zz nw ol ne se ke nc ns is ik dc sc 2 md wh fa re ve ps 0 0 di lv bf bo bd co bt ma)), (nw, .inl (cs 0, 4608, .inl gw)), (ol, .inl (cs 0, 4608, .inl go)), (ne, .inl (cs 0, 4608, .inl gn)), (ve, .inl (cs 0, 4, .inl (fun _ => 0))), (ps, .inl (cs 0, 3, .inl (fun _ => 1024))), (bd, .inl (cs 1, 2, .inl Bd)), (ma, .inl (cs 0, 64, .inl (fun _ => 0)))] Hp := xcongP (g := (fun _ => 0)) hP 7 rfl hD (fun j hj => by simp [filTo, Nat.lt_of_lt_of_le hj e9])
        have hD : va_D A [(o, .inr (7, mdF 0 W H mt qu zz nw ol ne se ke nc ns is ik dc sc 2 md wh fa re ve ps 0 0 di lv bf bo bd co bt ma)), (nw, .inl (cs 0, 4608, .inl gw)), (ol, .inl (cs 0, 4608, .inl go)), (ne, .inl (cs 0, 4608, .inl gn)), (ve, .inl (cs 0, 4, .inl (fun _ => 0))), (ps, .inl (cs 0, 3, .inl (fun _ => 1024))), (bd, .inl (cs 1, 2, .inl Bd)), (ma, .inl (cs 0, 64, .inl (fun _ => 0)))] := xcongD (g := (fun _ => 0)) 7 rfl hD
        have hP := hP1
        refine lv_iconst (v := 0) hx hb dX7_leave_152 (by decide) ?_
        refine lv_istore (lv' := [(4, .int 0), (0, .ref o), (1, .int (nI n))]) hx hb dX7_leave_153 hl (by decide) rfl (fun ls hl => ?_)
        have loop_155 : ∀ (k155 : Nat) (i : Nat), n - i < k155 → i ≤ n → ∀ (Hp : Heap) (locs : List Loc) (ls : Array Slot), va_P D vwCl [(o, .inr (7, mdF 0 W H mt qu zz nw ol ne se ke nc ns is ik dc sc 2 (md + i) wh fa re ve ps 0 0 di lv bf bo bd co bt ma)), (nw, .inl (cs 0, 4608, .inl (lvF gw W md (fun p9 x9 y9 => mft (lokP gn p9) (wdt p9 W) (wdt p9 H) (nI x9) (nI y9) (mus wh ((fun _ => 0) 0) p9) (mus wh ((fun _ => 0) 1) p9)) i))), (ol, .inl (cs 0, 4608, .inl go)), (ne, .inl (cs 0, 4608, .inl gn)), (ve, .inl (cs 0, 4, .inl (fun _ => 0))), (ps, .inl (cs 0, 3, .inl (fun _ => 1024))), (bd, .inl (cs 1, 2, .inl Bd)), (ma, .inl (cs 0, 64, .inl (fun _ => 0)))] Hp → va_D A [(o, .inr (7, mdF 0 W H mt qu zz nw ol ne se ke nc ns is ik dc sc 2 (md + i) wh fa re ve ps 0 0 di lv bf bo bd co bt ma)), (nw, .inl (cs 0, 4608, .inl (lvF gw W md (fun p9 x9 y9 => mft (lokP gn p9) (wdt p9 W) (wdt p9 H) (nI x9) (nI y9) (mus wh ((fun _ => 0) 0) p9) (mus wh ((fun _ => 0) 1) p9)) i))), (ol, .inl (cs 0, 4608, .inl go)), (ne, .inl (cs 0, 4608, .inl gn)), (ve, .inl (cs 0, 4, .inl (fun _ => 0))), (ps, .inl (cs 0, 3, .inl (fun _ => 1024))), (bd, .inl (cs 1, 2, .inl Bd)), (ma, .inl (cs 0, 64, .inl (fun _ => 0)))] → va_S A s.heap Hp locs → lv_has ls 6 [(0, .ref o), (1, .int (nI n)), (4, .int (nI i))] → xW p l e ({ frames := 5, cells := 0, slots := 0, locals := 133 } : Room) s m ([.ref o, .int (nI n)] : List Value).toArray below meth c Hp locs 0 0 (MQ below (xE D A (some (.int (nI (md + n)))) [(o, .inr (7, mdF 0 W H mt qu zz nw ol ne se ke nc ns is ik dc sc 2 (md + n) wh fa re ve ps 0 0 di lv 1 0 bd co bt ma)), (nw, .inl (cs 0, 4608, .inl (lvF gw W md (fun p9 x9 y9 => mft (lokP gn p9) (wdt p9 W) (wdt p9 H) (nI x9) (nI y9) (mus wh ((fun _ => 0) 0) p9) (mus wh ((fun _ => 0) 1) p9)) n))), (ol, .inl (cs 0, 4608, .inl go)), (ne, .inl (cs 0, 4608, .inl gn)), (ve, .inl (cs 0, 4, .inl (fun _ => 0))), (ps, .inl (cs 0, 3, .inl (fun _ => 1024))), (bd, .inl (cs 1, 2, .inl (du 1 0))), (ma, .inl (cs 0, 64, .inl (fun _ => 0)))]) ([.ref o, .int (nI n)] : List Value).toArray s 0 0 A) (F0 m 155 ls []) := by
          intro k155
          induction k155 with
          | zero => intro i h9; omega
          | succ k155 ih_155 =>
            intro i hk155 hi Hp locs ls hP hD hS hl
            refine lv_iload hx hb dX7_leave_155 (lv_at hl 2 rfl) ?_
            refine lv_iload_n hx hb dX7_leave_157 rfl (lv_at hl 1 rfl) ?_
            refine lv_icmp_ge (tgt := 243) hx hb dX7_leave_158 (by decide) (fun c_158 => ?_) (fun c_158 => ?_)
            · have e8 : i = n := by have := nIle (a := n) (b := i) rfl rfl (by omega) (by omega) c_158; omega
              subst e8
              refine lv_aload_n hx hb dX7_leave_243 rfl (lv_at hl 0 rfl) ?_
              refine xget (C := RX7) (T := TX7) (N := 34) hF hX hP (by decide +kernel) 0 17 rfl rfl (by decide) (by decide +kernel) rfl dX7_leave_244 ?_
              refine lv_iconst (v := 2) hx hb dX7_leave_247 (by decide) ?_
              refine lv_icmp_ne (tgt := 275) hx hb dX7_leave_248 (by decide) (fun c_248 => absurd (by decide) c_248) (fun _ => ?_)
              refine lv_aload_n hx hb dX7_leave_251 rfl (lv_at hl 0 rfl) ?_
              refine lv_iconst (v := 1) hx hb dX7_leave_252 (by decide) ?_
              refine xputf (C := RX7) (T := TX7) (N := 34) (ws1 := [(o, .inr (7, mdF 0 W H mt qu zz nw ol ne se ke nc ns is ik dc sc 2 (md + i) wh fa re ve ps 0 0 di lv 1 bo bd co bt ma)), (nw, .inl (cs 0, 4608, .inl (lvF gw W md (fun p9 x9 y9 => mft (lokP gn p9) (wdt p9 W) (wdt p9 H) (nI x9) (nI y9) (mus wh ((fun _ => 0) 0) p9) (mus wh ((fun _ => 0) 1) p9)) i))), (ol, .inl (cs 0, 4608, .inl go)), (ne, .inl (cs 0, 4608, .inl gn)), (ve, .inl (cs 0, 4, .inl (fun _ => 0))), (ps, .inl (cs 0, 3, .inl (fun _ => 1024))), (bd, .inl (cs 1, 2, .inl Bd)), (ma, .inl (cs 0, 64, .inl (fun _ => 0)))]) hF hX hP hD hS (by decide +kernel) tyX7 tyX7_ok nmX7 0 28 rfl rfl (by decide) (by decide +kernel) rfl (rfl) (rfl) (Nat.le_of_ble_eq_true rfl) dX7_leave_253 rfl (fun Hp locs hP hD hS => ?_)
              refine lv_aload_n hx hb dX7_leave_256 rfl (lv_at hl 0 rfl) ?_
              refine lv_iconst (v := 0) hx hb dX7_leave_257 (by decide) ?_
              refine xputf (C := RX7) (T := TX7) (N := 34) (ws1 := [(o, .inr (7, mdF 0 W H mt qu zz nw ol ne se ke nc ns is ik dc sc 2 (md + i) wh fa re ve ps 0 0 di lv 1 0 bd co bt ma)), (nw, .inl (cs 0, 4608, .inl (lvF gw W md (fun p9 x9 y9 => mft (lokP gn p9) (wdt p9 W) (wdt p9 H) (nI x9) (nI y9) (mus wh ((fun _ => 0) 0) p9) (mus wh ((fun _ => 0) 1) p9)) i))), (ol, .inl (cs 0, 4608, .inl go)), (ne, .inl (cs 0, 4608, .inl gn)), (ve, .inl (cs 0, 4, .inl (fun _ => 0))), (ps, .inl (cs 0, 3, .inl (fun _ => 1024))), (bd, .inl (cs 1, 2, .inl Bd)), (ma, .inl (cs 0, 64, .inl (fun _ => 0)))]) hF hX hP hD hS (by decide +kernel) tyX7 tyX7_ok nmX7 0 29 rfl rfl (by decide) (by decide +kernel) rfl (rfl) (rfl) (Nat.le_of_ble_eq_true rfl) dX7_leave_258 rfl (fun Hp locs hP hD hS => ?_)
              refine lv_aload_n hx hb dX7_leave_261 rfl (lv_at hl 0 rfl) ?_
              refine xget (C := RX7) (T := TX7) (N := 34) hF hX hP (by decide +kernel) 0 30 rfl rfl (by decide) (by decide +kernel) rfl dX7_leave_262 ?_
              refine lv_iconst (v := 0) hx hb dX7_leave_265 (by decide) ?_
              refine lv_iconst (v := 1) hx hb dX7_leave_266 (by decide) ?_
              refine xzast (k := 0) (ws1 := [(o, .inr (7, mdF 0 W H mt qu zz nw ol ne se ke nc ns is ik dc sc 2 (md + i) wh fa re ve ps 0 0 di lv 1 0 bd co bt ma)), (nw, .inl (cs 0, 4608, .inl (lvF gw W md (fun p9 x9 y9 => mft (lokP gn p9) (wdt p9 W) (wdt p9 H) (nI x9) (nI y9) (mus wh ((fun _ => 0) 0) p9) (mus wh ((fun _ => 0) 1) p9)) i))), (ol, .inl (cs 0, 4608, .inl go)), (ne, .inl (cs 0, 4608, .inl gn)), (ve, .inl (cs 0, 4, .inl (fun _ => 0))), (ps, .inl (cs 0, 3, .inl (fun _ => 1024))), (bd, .inl (cs 1, 2, .inl (upd Bd 0 1))), (ma, .inl (cs 0, 64, .inl (fun _ => 0)))]) hF hX hP hD hS 6 rfl (rfl) (vp_in_nI (n := 0) (by decide) (by decide)) (rfl) dX7_leave_267 rfl (fun Hp locs hP hD hS => ?_)
              refine lv_aload_n hx hb dX7_leave_268 rfl (lv_at hl 0 rfl) ?_
              refine xget (C := RX7) (T := TX7) (N := 34) hF hX hP (by decide +kernel) 0 30 rfl rfl (by decide) (by decide +kernel) rfl dX7_leave_269 ?_
              refine lv_iconst (v := 1) hx hb dX7_leave_272 (by decide) ?_
              refine lv_iconst (v := 0) hx hb dX7_leave_273 (by decide) ?_
              refine xzast (k := 1) (ws1 := [(o, .inr (7, mdF 0 W H mt qu zz nw ol ne se ke nc ns is ik dc sc 2 (md + i) wh fa re ve ps 0 0 di lv 1 0 bd co bt ma)), (nw, .inl (cs 0, 4608, .inl (lvF gw W md (fun p9 x9 y9 => mft (lokP gn p9) (wdt p9 W) (wdt p9 H) (nI x9) (nI y9) (mus wh ((fun _ => 0) 0) p9) (mus wh ((fun _ => 0) 1) p9)) i))), (ol, .inl (cs 0, 4608, .inl go)), (ne, .inl (cs 0, 4608, .inl gn)), (ve, .inl (cs 0, 4, .inl (fun _ => 0))), (ps, .inl (cs 0, 3, .inl (fun _ => 1024))), (bd, .inl (cs 1, 2, .inl (upd (upd Bd 0 1) 1 0))), (ma, .inl (cs 0, 64, .inl (fun _ => 0)))]) hF hX hP hD hS 6 rfl (rfl) (vp_in_nI (n := 1) (by decide) (by decide)) (rfl) dX7_leave_274 rfl (fun Hp locs hP hD hS => ?_)
              have hP1 : va_P D vwCl [(o, .inr (7, mdF 0 W H mt qu zz nw ol ne se ke nc ns is ik dc sc 2 (md + i) wh fa re ve ps 0 0 di lv 1 0 bd co bt ma)), (nw, .inl (cs 0, 4608, .inl (lvF gw W md (fun p9 x9 y9 => mft (lokP gn p9) (wdt p9 W) (wdt p9 H) (nI x9) (nI y9) (mus wh ((fun _ => 0) 0) p9) (mus wh ((fun _ => 0) 1) p9)) i))), (ol, .inl (cs 0, 4608, .inl go)), (ne, .inl (cs 0, 4608, .inl gn)), (ve, .inl (cs 0, 4, .inl (fun _ => 0))), (ps, .inl (cs 0, 3, .inl (fun _ => 1024))), (bd, .inl (cs 1, 2, .inl (du 1 0))), (ma, .inl (cs 0, 64, .inl (fun _ => 0)))] Hp := xcongP (g := (du 1 0)) hP 6 rfl hD (duI)
              have hD : va_D A [(o, .inr (7, mdF 0 W H mt qu zz nw ol ne se ke nc ns is ik dc sc 2 (md + i) wh fa re ve ps 0 0 di lv 1 0 bd co bt ma)), (nw, .inl (cs 0, 4608, .inl (lvF gw W md (fun p9 x9 y9 => mft (lokP gn p9) (wdt p9 W) (wdt p9 H) (nI x9) (nI y9) (mus wh ((fun _ => 0) 0) p9) (mus wh ((fun _ => 0) 1) p9)) i))), (ol, .inl (cs 0, 4608, .inl go)), (ne, .inl (cs 0, 4608, .inl gn)), (ve, .inl (cs 0, 4, .inl (fun _ => 0))), (ps, .inl (cs 0, 3, .inl (fun _ => 1024))), (bd, .inl (cs 1, 2, .inl (du 1 0))), (ma, .inl (cs 0, 64, .inl (fun _ => 0)))] := xcongD (g := (du 1 0)) 6 rfl hD
              have hP := hP1
              refine lv_aload_n hx hb dX7_leave_275 rfl (lv_at hl 0 rfl) ?_
              refine xget (C := RX7) (T := TX7) (N := 34) hF hX hP (by decide +kernel) 0 18 rfl rfl (by decide) (by decide +kernel) rfl dX7_leave_276 ?_
              exact xri (Q9 := fun _ _ _ _ => True) hF hr hlk hP hD hS dX7_leave_279
            · have hin : i < n := nInle (a := n) (b := i) rfl rfl (by omega) (by omega) c_158
              have hmd : md + i < W * H := by omega
              refine lv_iconst (v := 0) hx hb dX7_leave_161 (by decide) ?_
              refine lv_istore (lv' := [(5, .int 0), (0, .ref o), (1, .int (nI n)), (4, .int (nI i))]) hx hb dX7_leave_162 hl (by decide) rfl (fun ls hl => ?_)
              have hP1 : va_P D vwCl [(o, .inr (7, mdF 0 W H mt qu zz nw ol ne se ke nc ns is ik dc sc 2 (md + i) wh fa re ve ps 0 0 di lv bf bo bd co bt ma)), (nw, .inl (cs 0, 4608, .inl (mnF (lvF gw W md (fun p9 x9 y9 => mft (lokP gn p9) (wdt p9 W) (wdt p9 H) (nI x9) (nI y9) (mus wh ((fun _ => 0) 0) p9) (mus wh ((fun _ => 0) 1) p9)) i) W (md + i) (fun _ _ => 0) (fun p9 x9 y9 => mft (lokP gn p9) (wdt p9 W) (wdt p9 H) (nI x9) (nI y9) (mus wh ((fun _ => 0) 0) p9) (mus wh ((fun _ => 0) 1) p9)) 0))), (ol, .inl (cs 0, 4608, .inl go)), (ne, .inl (cs 0, 4608, .inl gn)), (ve, .inl (cs 0, 4, .inl (fun _ => 0))), (ps, .inl (cs 0, 3, .inl (fun _ => 1024))), (bd, .inl (cs 1, 2, .inl Bd)), (ma, .inl (cs 0, 64, .inl (fun _ => 0)))] Hp := hP
              have hD : va_D A [(o, .inr (7, mdF 0 W H mt qu zz nw ol ne se ke nc ns is ik dc sc 2 (md + i) wh fa re ve ps 0 0 di lv bf bo bd co bt ma)), (nw, .inl (cs 0, 4608, .inl (mnF (lvF gw W md (fun p9 x9 y9 => mft (lokP gn p9) (wdt p9 W) (wdt p9 H) (nI x9) (nI y9) (mus wh ((fun _ => 0) 0) p9) (mus wh ((fun _ => 0) 1) p9)) i) W (md + i) (fun _ _ => 0) (fun p9 x9 y9 => mft (lokP gn p9) (wdt p9 W) (wdt p9 H) (nI x9) (nI y9) (mus wh ((fun _ => 0) 0) p9) (mus wh ((fun _ => 0) 1) p9)) 0))), (ol, .inl (cs 0, 4608, .inl go)), (ne, .inl (cs 0, 4608, .inl gn)), (ve, .inl (cs 0, 4, .inl (fun _ => 0))), (ps, .inl (cs 0, 3, .inl (fun _ => 1024))), (bd, .inl (cs 1, 2, .inl Bd)), (ma, .inl (cs 0, 64, .inl (fun _ => 0)))] := hD
              have hP := hP1
              refine lv_iload hx hb dX7_leave_164 (lv_at hl 0 rfl) ?_
              refine lv_bipush (v := 6) hx hb dX7_leave_166 (by decide) ?_
              refine lv_icmp_ge (tgt := 227) hx hb dX7_leave_168 (by decide) (fun c_168 => absurd c_168 (by decide)) (fun _ => ?_)
              refine lv_aload_n hx hb dX7_leave_171 rfl (lv_at hl 1 rfl) ?_
              refine lv_iload hx hb dX7_leave_172 (lv_at hl 0 rfl) ?_
              refine lv_aload_n hx hb dX7_leave_174 rfl (lv_at hl 1 rfl) ?_
              refine xget (C := RX7) (T := TX7) (N := 34) hF hX hP (by decide +kernel) 0 17 rfl rfl (by decide) (by decide +kernel) rfl dX7_leave_175 ?_
              refine lv_iconst (v := 2) hx hb dX7_leave_178 (by decide) ?_
              refine lv_icmp_eq (tgt := 191) hx hb dX7_leave_179 (by decide) (fun _ => ?_) (fun c_179 => absurd (by decide) c_179)
              refine lv_iconst (v := 1) hx hb dX7_leave_191 (by decide) ?_
              refine lv_goto (tgt := 196) hx hb dX7_leave_192 (by decide) ?_
              refine lv_aload_n hx hb dX7_leave_196 rfl (lv_at hl 1 rfl) ?_
              refine xget (C := RX7) (T := TX7) (N := 34) hF hX hP (by decide +kernel) 0 17 rfl rfl (by decide) (by decide +kernel) rfl dX7_leave_197 ?_
              refine lv_iconst (v := 3) hx hb dX7_leave_200 (by decide) ?_
              refine lv_icmp_ne (tgt := 217) hx hb dX7_leave_201 (by decide) (fun _ => ?_) (fun c_201 => absurd c_201 (by decide))
              refine lv_iconst (v := 0) hx hb dX7_leave_217 (by decide) ?_
              refine xVM [true, true, true, true, true, false, false, true] (rest := []) (As := [.int 0, .int 1, .int 0]) (ws1 := [(o, .inr (7, mdF 0 W H mt qu zz nw ol ne se ke nc ns is ik dc sc 2 (md + i) wh fa re ve ps 0 0 di lv bf bo bd co bt ma)), (nw, .inl (cs 0, 4608, .inl (mpB (mnF (lvF gw W md (fun p9 x9 y9 => mft (lokP gn p9) (wdt p9 W) (wdt p9 H) (nI x9) (nI y9) (mus wh ((fun _ => 0) 0) p9) (mus wh ((fun _ => 0) 1) p9)) i) W (md + i) (fun _ _ => 0) (fun p9 x9 y9 => mft (lokP gn p9) (wdt p9 W) (wdt p9 H) (nI x9) (nI y9) (mus wh ((fun _ => 0) 0) p9) (mus wh ((fun _ => 0) 1) p9)) 0) W (md + i) 0 (mlF W (md + i) 0 (fun _ => 0) (fun x9 y9 => (mft (lokP gn 0) (wdt 0 W) (wdt 0 H) (nI x9) (nI y9) (mus wh ((fun _ => 0) 0) 0) (mus wh ((fun _ => 0) 1) 0)))) (64)))), (ol, .inl (cs 0, 4608, .inl go)), (ne, .inl (cs 0, 4608, .inl gn)), (ve, .inl (cs 0, 4, .inl (fun _ => 0))), (ps, .inl (cs 0, 3, .inl (fun _ => 1024))), (bd, .inl (cs 1, 2, .inl Bd)), (ma, .inl (cs 0, 64, .inl (fun _ => 0)))]) (st1 := []) hF (c_X7_putBlock0A l D cs tt o mt qu zz nw ol ne se ke re ve ps di lv bd co bt ma W H (md + i) 0 nc ns is ik dc sc wh fa 0 bf bo (mnF (lvF gw W md (fun p9 x9 y9 => mft (lokP gn p9) (wdt p9 W) (wdt p9 H) (nI x9) (nI y9) (mus wh ((fun _ => 0) 0) p9) (mus wh ((fun _ => 0) 1) p9)) i) W (md + i) (fun _ _ => 0) (fun p9 x9 y9 => mft (lokP gn p9) (wdt p9 W) (wdt p9 H) (nI x9) (nI y9) (mus wh ((fun _ => 0) 0) p9) (mus wh ((fun _ => 0) 1) p9)) 0) (fun _ => 0) go gn (fun _ => 0) hw hw4 hh hh3 hmd) gX7_leave_X7_putBlock rfl (n := 3) (by decide +kernel) rfl ⟨⟨rfl, rfl⟩, Nat.le_of_ble_eq_true rfl, Nat.le_of_ble_eq_true rfl⟩ ⟨Nat.le_of_ble_eq_true rfl, Nat.le_of_ble_eq_true rfl⟩ hX hP hD hS rfl [o, nw, ol, ne, ve, ma] rfl rfl (q0 := 0) (ci := 7) rfl rfl rfl hl.1 rfl (Nat.le_of_ble_eq_true rfl) dX7_leave_218 rfl rfl (fun Hp locs hP hD hS => ?_)
              have hP1 : va_P D vwCl [(o, .inr (7, mdF 0 W H mt qu zz nw ol ne se ke nc ns is ik dc sc 2 (md + i) wh fa re ve ps 0 0 di lv bf bo bd co bt ma)), (nw, .inl (cs 0, 4608, .inl (mnF (lvF gw W md (fun p9 x9 y9 => mft (lokP gn p9) (wdt p9 W) (wdt p9 H) (nI x9) (nI y9) (mus wh ((fun _ => 0) 0) p9) (mus wh ((fun _ => 0) 1) p9)) i) W (md + i) (fun _ _ => 0) (fun p9 x9 y9 => mft (lokP gn p9) (wdt p9 W) (wdt p9 H) (nI x9) (nI y9) (mus wh ((fun _ => 0) 0) p9) (mus wh ((fun _ => 0) 1) p9)) 1))), (ol, .inl (cs 0, 4608, .inl go)), (ne, .inl (cs 0, 4608, .inl gn)), (ve, .inl (cs 0, 4, .inl (fun _ => 0))), (ps, .inl (cs 0, 3, .inl (fun _ => 1024))), (bd, .inl (cs 1, 2, .inl Bd)), (ma, .inl (cs 0, 64, .inl (fun _ => 0)))] Hp := hP
              have hD : va_D A [(o, .inr (7, mdF 0 W H mt qu zz nw ol ne se ke nc ns is ik dc sc 2 (md + i) wh fa re ve ps 0 0 di lv bf bo bd co bt ma)), (nw, .inl (cs 0, 4608, .inl (mnF (lvF gw W md (fun p9 x9 y9 => mft (lokP gn p9) (wdt p9 W) (wdt p9 H) (nI x9) (nI y9) (mus wh ((fun _ => 0) 0) p9) (mus wh ((fun _ => 0) 1) p9)) i) W (md + i) (fun _ _ => 0) (fun p9 x9 y9 => mft (lokP gn p9) (wdt p9 W) (wdt p9 H) (nI x9) (nI y9) (mus wh ((fun _ => 0) 0) p9) (mus wh ((fun _ => 0) 1) p9)) 1))), (ol, .inl (cs 0, 4608, .inl go)), (ne, .inl (cs 0, 4608, .inl gn)), (ve, .inl (cs 0, 4, .inl (fun _ => 0))), (ps, .inl (cs 0, 3, .inl (fun _ => 1024))), (bd, .inl (cs 1, 2, .inl Bd)), (ma, .inl (cs 0, 64, .inl (fun _ => 0)))] := hD
              have hP := hP1
              refine lv_iinc (v := 1) (lv' := [(5, .int 1), (0, .ref o), (1, .int (nI n)), (4, .int (nI i))]) hx hb dX7_leave_221 hl (k := 0) rfl (rfl) (by decide) rfl (fun ls hl => ?_)
              refine lv_goto (tgt := 164) hx hb dX7_leave_224 (by decide) ?_
              refine lv_iload hx hb dX7_leave_164 (lv_at hl 0 rfl) ?_
              refine lv_bipush (v := 6) hx hb dX7_leave_166 (by decide) ?_
              refine lv_icmp_ge (tgt := 227) hx hb dX7_leave_168 (by decide) (fun c_168 => absurd c_168 (by decide)) (fun _ => ?_)
              refine lv_aload_n hx hb dX7_leave_171 rfl (lv_at hl 1 rfl) ?_
              refine lv_iload hx hb dX7_leave_172 (lv_at hl 0 rfl) ?_
              refine lv_aload_n hx hb dX7_leave_174 rfl (lv_at hl 1 rfl) ?_
              refine xget (C := RX7) (T := TX7) (N := 34) hF hX hP (by decide +kernel) 0 17 rfl rfl (by decide) (by decide +kernel) rfl dX7_leave_175 ?_
              refine lv_iconst (v := 2) hx hb dX7_leave_178 (by decide) ?_
              refine lv_icmp_eq (tgt := 191) hx hb dX7_leave_179 (by decide) (fun _ => ?_) (fun c_179 => absurd (by decide) c_179)
              refine lv_iconst (v := 1) hx hb dX7_leave_191 (by decide) ?_
              refine lv_goto (tgt := 196) hx hb dX7_leave_192 (by decide) ?_
              refine lv_aload_n hx hb dX7_leave_196 rfl (lv_at hl 1 rfl) ?_
              refine xget (C := RX7) (T := TX7) (N := 34) hF hX hP (by decide +kernel) 0 17 rfl rfl (by decide) (by decide +kernel) rfl dX7_leave_197 ?_
              refine lv_iconst (v := 3) hx hb dX7_leave_200 (by decide) ?_
              refine lv_icmp_ne (tgt := 217) hx hb dX7_leave_201 (by decide) (fun _ => ?_) (fun c_201 => absurd c_201 (by decide))
              refine lv_iconst (v := 0) hx hb dX7_leave_217 (by decide) ?_
              refine xVM [true, true, true, true, true, false, false, true] (rest := []) (As := [.int 1, .int 1, .int 0]) (ws1 := [(o, .inr (7, mdF 0 W H mt qu zz nw ol ne se ke nc ns is ik dc sc 2 (md + i) wh fa re ve ps 0 0 di lv bf bo bd co bt ma)), (nw, .inl (cs 0, 4608, .inl (mpB (mnF (lvF gw W md (fun p9 x9 y9 => mft (lokP gn p9) (wdt p9 W) (wdt p9 H) (nI x9) (nI y9) (mus wh ((fun _ => 0) 0) p9) (mus wh ((fun _ => 0) 1) p9)) i) W (md + i) (fun _ _ => 0) (fun p9 x9 y9 => mft (lokP gn p9) (wdt p9 W) (wdt p9 H) (nI x9) (nI y9) (mus wh ((fun _ => 0) 0) p9) (mus wh ((fun _ => 0) 1) p9)) 1) W (md + i) 1 (mlF W (md + i) 1 (fun _ => 0) (fun x9 y9 => (mft (lokP gn 0) (wdt 0 W) (wdt 0 H) (nI x9) (nI y9) (mus wh ((fun _ => 0) 0) 0) (mus wh ((fun _ => 0) 1) 0)))) (64)))), (ol, .inl (cs 0, 4608, .inl go)), (ne, .inl (cs 0, 4608, .inl gn)), (ve, .inl (cs 0, 4, .inl (fun _ => 0))), (ps, .inl (cs 0, 3, .inl (fun _ => 1024))), (bd, .inl (cs 1, 2, .inl Bd)), (ma, .inl (cs 0, 64, .inl (fun _ => 0)))]) (st1 := []) hF (c_X7_putBlock1A l D cs tt o mt qu zz nw ol ne se ke re ve ps di lv bd co bt ma W H (md + i) 0 nc ns is ik dc sc wh fa 0 bf bo (mnF (lvF gw W md (fun p9 x9 y9 => mft (lokP gn p9) (wdt p9 W) (wdt p9 H) (nI x9) (nI y9) (mus wh ((fun _ => 0) 0) p9) (mus wh ((fun _ => 0) 1) p9)) i) W (md + i) (fun _ _ => 0) (fun p9 x9 y9 => mft (lokP gn p9) (wdt p9 W) (wdt p9 H) (nI x9) (nI y9) (mus wh ((fun _ => 0) 0) p9) (mus wh ((fun _ => 0) 1) p9)) 1) (fun _ => 0) go gn (fun _ => 0) hw hw4 hh hh3 hmd) gX7_leave_X7_putBlock rfl (n := 3) (by decide +kernel) rfl ⟨⟨rfl, rfl⟩, Nat.le_of_ble_eq_true rfl, Nat.le_of_ble_eq_true rfl⟩ ⟨Nat.le_of_ble_eq_true rfl, Nat.le_of_ble_eq_true rfl⟩ hX hP hD hS rfl [o, nw, ol, ne, ve, ma] rfl rfl (q0 := 0) (ci := 7) rfl rfl rfl hl.1 rfl (Nat.le_of_ble_eq_true rfl) dX7_leave_218 rfl rfl (fun Hp locs hP hD hS => ?_)
              have hP1 : va_P D vwCl [(o, .inr (7, mdF 0 W H mt qu zz nw ol ne se ke nc ns is ik dc sc 2 (md + i) wh fa re ve ps 0 0 di lv bf bo bd co bt ma)), (nw, .inl (cs 0, 4608, .inl (mnF (lvF gw W md (fun p9 x9 y9 => mft (lokP gn p9) (wdt p9 W) (wdt p9 H) (nI x9) (nI y9) (mus wh ((fun _ => 0) 0) p9) (mus wh ((fun _ => 0) 1) p9)) i) W (md + i) (fun _ _ => 0) (fun p9 x9 y9 => mft (lokP gn p9) (wdt p9 W) (wdt p9 H) (nI x9) (nI y9) (mus wh ((fun _ => 0) 0) p9) (mus wh ((fun _ => 0) 1) p9)) 2))), (ol, .inl (cs 0, 4608, .inl go)), (ne, .inl (cs 0, 4608, .inl gn)), (ve, .inl (cs 0, 4, .inl (fun _ => 0))), (ps, .inl (cs 0, 3, .inl (fun _ => 1024))), (bd, .inl (cs 1, 2, .inl Bd)), (ma, .inl (cs 0, 64, .inl (fun _ => 0)))] Hp := hP
              have hD : va_D A [(o, .inr (7, mdF 0 W H mt qu zz nw ol ne se ke nc ns is ik dc sc 2 (md + i) wh fa re ve ps 0 0 di lv bf bo bd co bt ma)), (nw, .inl (cs 0, 4608, .inl (mnF (lvF gw W md (fun p9 x9 y9 => mft (lokP gn p9) (wdt p9 W) (wdt p9 H) (nI x9) (nI y9) (mus wh ((fun _ => 0) 0) p9) (mus wh ((fun _ => 0) 1) p9)) i) W (md + i) (fun _ _ => 0) (fun p9 x9 y9 => mft (lokP gn p9) (wdt p9 W) (wdt p9 H) (nI x9) (nI y9) (mus wh ((fun _ => 0) 0) p9) (mus wh ((fun _ => 0) 1) p9)) 2))), (ol, .inl (cs 0, 4608, .inl go)), (ne, .inl (cs 0, 4608, .inl gn)), (ve, .inl (cs 0, 4, .inl (fun _ => 0))), (ps, .inl (cs 0, 3, .inl (fun _ => 1024))), (bd, .inl (cs 1, 2, .inl Bd)), (ma, .inl (cs 0, 64, .inl (fun _ => 0)))] := hD
              have hP := hP1
              refine lv_iinc (v := 2) (lv' := [(5, .int 2), (0, .ref o), (1, .int (nI n)), (4, .int (nI i))]) hx hb dX7_leave_221 hl (k := 0) rfl (rfl) (by decide) rfl (fun ls hl => ?_)
              refine lv_goto (tgt := 164) hx hb dX7_leave_224 (by decide) ?_
              refine lv_iload hx hb dX7_leave_164 (lv_at hl 0 rfl) ?_
              refine lv_bipush (v := 6) hx hb dX7_leave_166 (by decide) ?_
              refine lv_icmp_ge (tgt := 227) hx hb dX7_leave_168 (by decide) (fun c_168 => absurd c_168 (by decide)) (fun _ => ?_)
              refine lv_aload_n hx hb dX7_leave_171 rfl (lv_at hl 1 rfl) ?_
              refine lv_iload hx hb dX7_leave_172 (lv_at hl 0 rfl) ?_
              refine lv_aload_n hx hb dX7_leave_174 rfl (lv_at hl 1 rfl) ?_
              refine xget (C := RX7) (T := TX7) (N := 34) hF hX hP (by decide +kernel) 0 17 rfl rfl (by decide) (by decide +kernel) rfl dX7_leave_175 ?_
              refine lv_iconst (v := 2) hx hb dX7_leave_178 (by decide) ?_
              refine lv_icmp_eq (tgt := 191) hx hb dX7_leave_179 (by decide) (fun _ => ?_) (fun c_179 => absurd (by decide) c_179)
              refine lv_iconst (v := 1) hx hb dX7_leave_191 (by decide) ?_
              refine lv_goto (tgt := 196) hx hb dX7_leave_192 (by decide) ?_
              refine lv_aload_n hx hb dX7_leave_196 rfl (lv_at hl 1 rfl) ?_
              refine xget (C := RX7) (T := TX7) (N := 34) hF hX hP (by decide +kernel) 0 17 rfl rfl (by decide) (by decide +kernel) rfl dX7_leave_197 ?_
              refine lv_iconst (v := 3) hx hb dX7_leave_200 (by decide) ?_
              refine lv_icmp_ne (tgt := 217) hx hb dX7_leave_201 (by decide) (fun _ => ?_) (fun c_201 => absurd c_201 (by decide))
              refine lv_iconst (v := 0) hx hb dX7_leave_217 (by decide) ?_
              refine xVM [true, true, true, true, true, false, false, true] (rest := []) (As := [.int 2, .int 1, .int 0]) (ws1 := [(o, .inr (7, mdF 0 W H mt qu zz nw ol ne se ke nc ns is ik dc sc 2 (md + i) wh fa re ve ps 0 0 di lv bf bo bd co bt ma)), (nw, .inl (cs 0, 4608, .inl (mpB (mnF (lvF gw W md (fun p9 x9 y9 => mft (lokP gn p9) (wdt p9 W) (wdt p9 H) (nI x9) (nI y9) (mus wh ((fun _ => 0) 0) p9) (mus wh ((fun _ => 0) 1) p9)) i) W (md + i) (fun _ _ => 0) (fun p9 x9 y9 => mft (lokP gn p9) (wdt p9 W) (wdt p9 H) (nI x9) (nI y9) (mus wh ((fun _ => 0) 0) p9) (mus wh ((fun _ => 0) 1) p9)) 2) W (md + i) 2 (mlF W (md + i) 2 (fun _ => 0) (fun x9 y9 => (mft (lokP gn 0) (wdt 0 W) (wdt 0 H) (nI x9) (nI y9) (mus wh ((fun _ => 0) 0) 0) (mus wh ((fun _ => 0) 1) 0)))) (64)))), (ol, .inl (cs 0, 4608, .inl go)), (ne, .inl (cs 0, 4608, .inl gn)), (ve, .inl (cs 0, 4, .inl (fun _ => 0))), (ps, .inl (cs 0, 3, .inl (fun _ => 1024))), (bd, .inl (cs 1, 2, .inl Bd)), (ma, .inl (cs 0, 64, .inl (fun _ => 0)))]) (st1 := []) hF (c_X7_putBlock2A l D cs tt o mt qu zz nw ol ne se ke re ve ps di lv bd co bt ma W H (md + i) 0 nc ns is ik dc sc wh fa 0 bf bo (mnF (lvF gw W md (fun p9 x9 y9 => mft (lokP gn p9) (wdt p9 W) (wdt p9 H) (nI x9) (nI y9) (mus wh ((fun _ => 0) 0) p9) (mus wh ((fun _ => 0) 1) p9)) i) W (md + i) (fun _ _ => 0) (fun p9 x9 y9 => mft (lokP gn p9) (wdt p9 W) (wdt p9 H) (nI x9) (nI y9) (mus wh ((fun _ => 0) 0) p9) (mus wh ((fun _ => 0) 1) p9)) 2) (fun _ => 0) go gn (fun _ => 0) hw hw4 hh hh3 hmd) gX7_leave_X7_putBlock rfl (n := 3) (by decide +kernel) rfl ⟨⟨rfl, rfl⟩, Nat.le_of_ble_eq_true rfl, Nat.le_of_ble_eq_true rfl⟩ ⟨Nat.le_of_ble_eq_true rfl, Nat.le_of_ble_eq_true rfl⟩ hX hP hD hS rfl [o, nw, ol, ne, ve, ma] rfl rfl (q0 := 0) (ci := 7) rfl rfl rfl hl.1 rfl (Nat.le_of_ble_eq_true rfl) dX7_leave_218 rfl rfl (fun Hp locs hP hD hS => ?_)
              have hP1 : va_P D vwCl [(o, .inr (7, mdF 0 W H mt qu zz nw ol ne se ke nc ns is ik dc sc 2 (md + i) wh fa re ve ps 0 0 di lv bf bo bd co bt ma)), (nw, .inl (cs 0, 4608, .inl (mnF (lvF gw W md (fun p9 x9 y9 => mft (lokP gn p9) (wdt p9 W) (wdt p9 H) (nI x9) (nI y9) (mus wh ((fun _ => 0) 0) p9) (mus wh ((fun _ => 0) 1) p9)) i) W (md + i) (fun _ _ => 0) (fun p9 x9 y9 => mft (lokP gn p9) (wdt p9 W) (wdt p9 H) (nI x9) (nI y9) (mus wh ((fun _ => 0) 0) p9) (mus wh ((fun _ => 0) 1) p9)) 3))), (ol, .inl (cs 0, 4608, .inl go)), (ne, .inl (cs 0, 4608, .inl gn)), (ve, .inl (cs 0, 4, .inl (fun _ => 0))), (ps, .inl (cs 0, 3, .inl (fun _ => 1024))), (bd, .inl (cs 1, 2, .inl Bd)), (ma, .inl (cs 0, 64, .inl (fun _ => 0)))] Hp := hP
              have hD : va_D A [(o, .inr (7, mdF 0 W H mt qu zz nw ol ne se ke nc ns is ik dc sc 2 (md + i) wh fa re ve ps 0 0 di lv bf bo bd co bt ma)), (nw, .inl (cs 0, 4608, .inl (mnF (lvF gw W md (fun p9 x9 y9 => mft (lokP gn p9) (wdt p9 W) (wdt p9 H) (nI x9) (nI y9) (mus wh ((fun _ => 0) 0) p9) (mus wh ((fun _ => 0) 1) p9)) i) W (md + i) (fun _ _ => 0) (fun p9 x9 y9 => mft (lokP gn p9) (wdt p9 W) (wdt p9 H) (nI x9) (nI y9) (mus wh ((fun _ => 0) 0) p9) (mus wh ((fun _ => 0) 1) p9)) 3))), (ol, .inl (cs 0, 4608, .inl go)), (ne, .inl (cs 0, 4608, .inl gn)), (ve, .inl (cs 0, 4, .inl (fun _ => 0))), (ps, .inl (cs 0, 3, .inl (fun _ => 1024))), (bd, .inl (cs 1, 2, .inl Bd)), (ma, .inl (cs 0, 64, .inl (fun _ => 0)))] := hD
              have hP := hP1
              refine lv_iinc (v := 3) (lv' := [(5, .int 3), (0, .ref o), (1, .int (nI n)), (4, .int (nI i))]) hx hb dX7_leave_221 hl (k := 0) rfl (rfl) (by decide) rfl (fun ls hl => ?_)
              refine lv_goto (tgt := 164) hx hb dX7_leave_224 (by decide) ?_
              refine lv_iload hx hb dX7_leave_164 (lv_at hl 0 rfl) ?_
              refine lv_bipush (v := 6) hx hb dX7_leave_166 (by decide) ?_
              refine lv_icmp_ge (tgt := 227) hx hb dX7_leave_168 (by decide) (fun c_168 => absurd c_168 (by decide)) (fun _ => ?_)
              refine lv_aload_n hx hb dX7_leave_171 rfl (lv_at hl 1 rfl) ?_
              refine lv_iload hx hb dX7_leave_172 (lv_at hl 0 rfl) ?_
              refine lv_aload_n hx hb dX7_leave_174 rfl (lv_at hl 1 rfl) ?_
              refine xget (C := RX7) (T := TX7) (N := 34) hF hX hP (by decide +kernel) 0 17 rfl rfl (by decide) (by decide +kernel) rfl dX7_leave_175 ?_
              refine lv_iconst (v := 2) hx hb dX7_leave_178 (by decide) ?_
              refine lv_icmp_eq (tgt := 191) hx hb dX7_leave_179 (by decide) (fun _ => ?_) (fun c_179 => absurd (by decide) c_179)
              refine lv_iconst (v := 1) hx hb dX7_leave_191 (by decide) ?_
              refine lv_goto (tgt := 196) hx hb dX7_leave_192 (by decide) ?_
              refine lv_aload_n hx hb dX7_leave_196 rfl (lv_at hl 1 rfl) ?_
              refine xget (C := RX7) (T := TX7) (N := 34) hF hX hP (by decide +kernel) 0 17 rfl rfl (by decide) (by decide +kernel) rfl dX7_leave_197 ?_
              refine lv_iconst (v := 3) hx hb dX7_leave_200 (by decide) ?_
              refine lv_icmp_ne (tgt := 217) hx hb dX7_leave_201 (by decide) (fun _ => ?_) (fun c_201 => absurd c_201 (by decide))
              refine lv_iconst (v := 0) hx hb dX7_leave_217 (by decide) ?_
              refine xVM [true, true, true, true, true, false, false, true] (rest := []) (As := [.int 3, .int 1, .int 0]) (ws1 := [(o, .inr (7, mdF 0 W H mt qu zz nw ol ne se ke nc ns is ik dc sc 2 (md + i) wh fa re ve ps 0 0 di lv bf bo bd co bt ma)), (nw, .inl (cs 0, 4608, .inl (mpB (mnF (lvF gw W md (fun p9 x9 y9 => mft (lokP gn p9) (wdt p9 W) (wdt p9 H) (nI x9) (nI y9) (mus wh ((fun _ => 0) 0) p9) (mus wh ((fun _ => 0) 1) p9)) i) W (md + i) (fun _ _ => 0) (fun p9 x9 y9 => mft (lokP gn p9) (wdt p9 W) (wdt p9 H) (nI x9) (nI y9) (mus wh ((fun _ => 0) 0) p9) (mus wh ((fun _ => 0) 1) p9)) 3) W (md + i) 3 (mlF W (md + i) 3 (fun _ => 0) (fun x9 y9 => (mft (lokP gn 0) (wdt 0 W) (wdt 0 H) (nI x9) (nI y9) (mus wh ((fun _ => 0) 0) 0) (mus wh ((fun _ => 0) 1) 0)))) (64)))), (ol, .inl (cs 0, 4608, .inl go)), (ne, .inl (cs 0, 4608, .inl gn)), (ve, .inl (cs 0, 4, .inl (fun _ => 0))), (ps, .inl (cs 0, 3, .inl (fun _ => 1024))), (bd, .inl (cs 1, 2, .inl Bd)), (ma, .inl (cs 0, 64, .inl (fun _ => 0)))]) (st1 := []) hF (c_X7_putBlock3A l D cs tt o mt qu zz nw ol ne se ke re ve ps di lv bd co bt ma W H (md + i) 0 nc ns is ik dc sc wh fa 0 bf bo (mnF (lvF gw W md (fun p9 x9 y9 => mft (lokP gn p9) (wdt p9 W) (wdt p9 H) (nI x9) (nI y9) (mus wh ((fun _ => 0) 0) p9) (mus wh ((fun _ => 0) 1) p9)) i) W (md + i) (fun _ _ => 0) (fun p9 x9 y9 => mft (lokP gn p9) (wdt p9 W) (wdt p9 H) (nI x9) (nI y9) (mus wh ((fun _ => 0) 0) p9) (mus wh ((fun _ => 0) 1) p9)) 3) (fun _ => 0) go gn (fun _ => 0) hw hw4 hh hh3 hmd) gX7_leave_X7_putBlock rfl (n := 3) (by decide +kernel) rfl ⟨⟨rfl, rfl⟩, Nat.le_of_ble_eq_true rfl, Nat.le_of_ble_eq_true rfl⟩ ⟨Nat.le_of_ble_eq_true rfl, Nat.le_of_ble_eq_true rfl⟩ hX hP hD hS rfl [o, nw, ol, ne, ve, ma] rfl rfl (q0 := 0) (ci := 7) rfl rfl rfl hl.1 rfl (Nat.le_of_ble_eq_true rfl) dX7_leave_218 rfl rfl (fun Hp locs hP hD hS => ?_)
              have hP1 : va_P D vwCl [(o, .inr (7, mdF 0 W H mt qu zz nw ol ne se ke nc ns is ik dc sc 2 (md + i) wh fa re ve ps 0 0 di lv bf bo bd co bt ma)), (nw, .inl (cs 0, 4608, .inl (mnF (lvF gw W md (fun p9 x9 y9 => mft (lokP gn p9) (wdt p9 W) (wdt p9 H) (nI x9) (nI y9) (mus wh ((fun _ => 0) 0) p9) (mus wh ((fun _ => 0) 1) p9)) i) W (md + i) (fun _ _ => 0) (fun p9 x9 y9 => mft (lokP gn p9) (wdt p9 W) (wdt p9 H) (nI x9) (nI y9) (mus wh ((fun _ => 0) 0) p9) (mus wh ((fun _ => 0) 1) p9)) 4))), (ol, .inl (cs 0, 4608, .inl go)), (ne, .inl (cs 0, 4608, .inl gn)), (ve, .inl (cs 0, 4, .inl (fun _ => 0))), (ps, .inl (cs 0, 3, .inl (fun _ => 1024))), (bd, .inl (cs 1, 2, .inl Bd)), (ma, .inl (cs 0, 64, .inl (fun _ => 0)))] Hp := hP
              have hD : va_D A [(o, .inr (7, mdF 0 W H mt qu zz nw ol ne se ke nc ns is ik dc sc 2 (md + i) wh fa re ve ps 0 0 di lv bf bo bd co bt ma)), (nw, .inl (cs 0, 4608, .inl (mnF (lvF gw W md (fun p9 x9 y9 => mft (lokP gn p9) (wdt p9 W) (wdt p9 H) (nI x9) (nI y9) (mus wh ((fun _ => 0) 0) p9) (mus wh ((fun _ => 0) 1) p9)) i) W (md + i) (fun _ _ => 0) (fun p9 x9 y9 => mft (lokP gn p9) (wdt p9 W) (wdt p9 H) (nI x9) (nI y9) (mus wh ((fun _ => 0) 0) p9) (mus wh ((fun _ => 0) 1) p9)) 4))), (ol, .inl (cs 0, 4608, .inl go)), (ne, .inl (cs 0, 4608, .inl gn)), (ve, .inl (cs 0, 4, .inl (fun _ => 0))), (ps, .inl (cs 0, 3, .inl (fun _ => 1024))), (bd, .inl (cs 1, 2, .inl Bd)), (ma, .inl (cs 0, 64, .inl (fun _ => 0)))] := hD
              have hP := hP1
              refine lv_iinc (v := 4) (lv' := [(5, .int 4), (0, .ref o), (1, .int (nI n)), (4, .int (nI i))]) hx hb dX7_leave_221 hl (k := 0) rfl (rfl) (by decide) rfl (fun ls hl => ?_)
              refine lv_goto (tgt := 164) hx hb dX7_leave_224 (by decide) ?_
              refine lv_iload hx hb dX7_leave_164 (lv_at hl 0 rfl) ?_
              refine lv_bipush (v := 6) hx hb dX7_leave_166 (by decide) ?_
              refine lv_icmp_ge (tgt := 227) hx hb dX7_leave_168 (by decide) (fun c_168 => absurd c_168 (by decide)) (fun _ => ?_)
              refine lv_aload_n hx hb dX7_leave_171 rfl (lv_at hl 1 rfl) ?_
              refine lv_iload hx hb dX7_leave_172 (lv_at hl 0 rfl) ?_
              refine lv_aload_n hx hb dX7_leave_174 rfl (lv_at hl 1 rfl) ?_
              refine xget (C := RX7) (T := TX7) (N := 34) hF hX hP (by decide +kernel) 0 17 rfl rfl (by decide) (by decide +kernel) rfl dX7_leave_175 ?_
              refine lv_iconst (v := 2) hx hb dX7_leave_178 (by decide) ?_
              refine lv_icmp_eq (tgt := 191) hx hb dX7_leave_179 (by decide) (fun _ => ?_) (fun c_179 => absurd (by decide) c_179)
              refine lv_iconst (v := 1) hx hb dX7_leave_191 (by decide) ?_
              refine lv_goto (tgt := 196) hx hb dX7_leave_192 (by decide) ?_
              refine lv_aload_n hx hb dX7_leave_196 rfl (lv_at hl 1 rfl) ?_
              refine xget (C := RX7) (T := TX7) (N := 34) hF hX hP (by decide +kernel) 0 17 rfl rfl (by decide) (by decide +kernel) rfl dX7_leave_197 ?_
              refine lv_iconst (v := 3) hx hb dX7_leave_200 (by decide) ?_
              refine lv_icmp_ne (tgt := 217) hx hb dX7_leave_201 (by decide) (fun _ => ?_) (fun c_201 => absurd c_201 (by decide))
              refine lv_iconst (v := 0) hx hb dX7_leave_217 (by decide) ?_
              refine xVM [true, true, true, true, true, false, false, true] (rest := []) (As := [.int 4, .int 1, .int 0]) (ws1 := [(o, .inr (7, mdF 0 W H mt qu zz nw ol ne se ke nc ns is ik dc sc 2 (md + i) wh fa re ve ps 0 0 di lv bf bo bd co bt ma)), (nw, .inl (cs 0, 4608, .inl (mpB (mnF (lvF gw W md (fun p9 x9 y9 => mft (lokP gn p9) (wdt p9 W) (wdt p9 H) (nI x9) (nI y9) (mus wh ((fun _ => 0) 0) p9) (mus wh ((fun _ => 0) 1) p9)) i) W (md + i) (fun _ _ => 0) (fun p9 x9 y9 => mft (lokP gn p9) (wdt p9 W) (wdt p9 H) (nI x9) (nI y9) (mus wh ((fun _ => 0) 0) p9) (mus wh ((fun _ => 0) 1) p9)) 4) W (md + i) 4 (mlF W (md + i) 4 (fun _ => 0) (fun x9 y9 => (mft (lokP gn 1) (wdt 1 W) (wdt 1 H) (nI x9) (nI y9) (mus wh ((fun _ => 0) 0) 1) (mus wh ((fun _ => 0) 1) 1)))) (64)))), (ol, .inl (cs 0, 4608, .inl go)), (ne, .inl (cs 0, 4608, .inl gn)), (ve, .inl (cs 0, 4, .inl (fun _ => 0))), (ps, .inl (cs 0, 3, .inl (fun _ => 1024))), (bd, .inl (cs 1, 2, .inl Bd)), (ma, .inl (cs 0, 64, .inl (fun _ => 0)))]) (st1 := []) hF (c_X7_putBlock4A l D cs tt o mt qu zz nw ol ne se ke re ve ps di lv bd co bt ma W H (md + i) 0 nc ns is ik dc sc wh fa 0 bf bo (mnF (lvF gw W md (fun p9 x9 y9 => mft (lokP gn p9) (wdt p9 W) (wdt p9 H) (nI x9) (nI y9) (mus wh ((fun _ => 0) 0) p9) (mus wh ((fun _ => 0) 1) p9)) i) W (md + i) (fun _ _ => 0) (fun p9 x9 y9 => mft (lokP gn p9) (wdt p9 W) (wdt p9 H) (nI x9) (nI y9) (mus wh ((fun _ => 0) 0) p9) (mus wh ((fun _ => 0) 1) p9)) 4) (fun _ => 0) go gn (fun _ => 0) hw hw4 hh hh3 hmd) gX7_leave_X7_putBlock rfl (n := 3) (by decide +kernel) rfl ⟨⟨rfl, rfl⟩, Nat.le_of_ble_eq_true rfl, Nat.le_of_ble_eq_true rfl⟩ ⟨Nat.le_of_ble_eq_true rfl, Nat.le_of_ble_eq_true rfl⟩ hX hP hD hS rfl [o, nw, ol, ne, ve, ma] rfl rfl (q0 := 0) (ci := 7) rfl rfl rfl hl.1 rfl (Nat.le_of_ble_eq_true rfl) dX7_leave_218 rfl rfl (fun Hp locs hP hD hS => ?_)
              have hP1 : va_P D vwCl [(o, .inr (7, mdF 0 W H mt qu zz nw ol ne se ke nc ns is ik dc sc 2 (md + i) wh fa re ve ps 0 0 di lv bf bo bd co bt ma)), (nw, .inl (cs 0, 4608, .inl (mnF (lvF gw W md (fun p9 x9 y9 => mft (lokP gn p9) (wdt p9 W) (wdt p9 H) (nI x9) (nI y9) (mus wh ((fun _ => 0) 0) p9) (mus wh ((fun _ => 0) 1) p9)) i) W (md + i) (fun _ _ => 0) (fun p9 x9 y9 => mft (lokP gn p9) (wdt p9 W) (wdt p9 H) (nI x9) (nI y9) (mus wh ((fun _ => 0) 0) p9) (mus wh ((fun _ => 0) 1) p9)) 5))), (ol, .inl (cs 0, 4608, .inl go)), (ne, .inl (cs 0, 4608, .inl gn)), (ve, .inl (cs 0, 4, .inl (fun _ => 0))), (ps, .inl (cs 0, 3, .inl (fun _ => 1024))), (bd, .inl (cs 1, 2, .inl Bd)), (ma, .inl (cs 0, 64, .inl (fun _ => 0)))] Hp := hP
              have hD : va_D A [(o, .inr (7, mdF 0 W H mt qu zz nw ol ne se ke nc ns is ik dc sc 2 (md + i) wh fa re ve ps 0 0 di lv bf bo bd co bt ma)), (nw, .inl (cs 0, 4608, .inl (mnF (lvF gw W md (fun p9 x9 y9 => mft (lokP gn p9) (wdt p9 W) (wdt p9 H) (nI x9) (nI y9) (mus wh ((fun _ => 0) 0) p9) (mus wh ((fun _ => 0) 1) p9)) i) W (md + i) (fun _ _ => 0) (fun p9 x9 y9 => mft (lokP gn p9) (wdt p9 W) (wdt p9 H) (nI x9) (nI y9) (mus wh ((fun _ => 0) 0) p9) (mus wh ((fun _ => 0) 1) p9)) 5))), (ol, .inl (cs 0, 4608, .inl go)), (ne, .inl (cs 0, 4608, .inl gn)), (ve, .inl (cs 0, 4, .inl (fun _ => 0))), (ps, .inl (cs 0, 3, .inl (fun _ => 1024))), (bd, .inl (cs 1, 2, .inl Bd)), (ma, .inl (cs 0, 64, .inl (fun _ => 0)))] := hD
              have hP := hP1
              refine lv_iinc (v := 5) (lv' := [(5, .int 5), (0, .ref o), (1, .int (nI n)), (4, .int (nI i))]) hx hb dX7_leave_221 hl (k := 0) rfl (rfl) (by decide) rfl (fun ls hl => ?_)
              refine lv_goto (tgt := 164) hx hb dX7_leave_224 (by decide) ?_
              refine lv_iload hx hb dX7_leave_164 (lv_at hl 0 rfl) ?_
              refine lv_bipush (v := 6) hx hb dX7_leave_166 (by decide) ?_
              refine lv_icmp_ge (tgt := 227) hx hb dX7_leave_168 (by decide) (fun c_168 => absurd c_168 (by decide)) (fun _ => ?_)
              refine lv_aload_n hx hb dX7_leave_171 rfl (lv_at hl 1 rfl) ?_
              refine lv_iload hx hb dX7_leave_172 (lv_at hl 0 rfl) ?_
              refine lv_aload_n hx hb dX7_leave_174 rfl (lv_at hl 1 rfl) ?_
              refine xget (C := RX7) (T := TX7) (N := 34) hF hX hP (by decide +kernel) 0 17 rfl rfl (by decide) (by decide +kernel) rfl dX7_leave_175 ?_
              refine lv_iconst (v := 2) hx hb dX7_leave_178 (by decide) ?_
              refine lv_icmp_eq (tgt := 191) hx hb dX7_leave_179 (by decide) (fun _ => ?_) (fun c_179 => absurd (by decide) c_179)
              refine lv_iconst (v := 1) hx hb dX7_leave_191 (by decide) ?_
              refine lv_goto (tgt := 196) hx hb dX7_leave_192 (by decide) ?_
              refine lv_aload_n hx hb dX7_leave_196 rfl (lv_at hl 1 rfl) ?_
              refine xget (C := RX7) (T := TX7) (N := 34) hF hX hP (by decide +kernel) 0 17 rfl rfl (by decide) (by decide +kernel) rfl dX7_leave_197 ?_
              refine lv_iconst (v := 3) hx hb dX7_leave_200 (by decide) ?_
              refine lv_icmp_ne (tgt := 217) hx hb dX7_leave_201 (by decide) (fun _ => ?_) (fun c_201 => absurd c_201 (by decide))
              refine lv_iconst (v := 0) hx hb dX7_leave_217 (by decide) ?_
              refine xVM [true, true, true, true, true, false, false, true] (rest := []) (As := [.int 5, .int 1, .int 0]) (ws1 := [(o, .inr (7, mdF 0 W H mt qu zz nw ol ne se ke nc ns is ik dc sc 2 (md + i) wh fa re ve ps 0 0 di lv bf bo bd co bt ma)), (nw, .inl (cs 0, 4608, .inl (mpB (mnF (lvF gw W md (fun p9 x9 y9 => mft (lokP gn p9) (wdt p9 W) (wdt p9 H) (nI x9) (nI y9) (mus wh ((fun _ => 0) 0) p9) (mus wh ((fun _ => 0) 1) p9)) i) W (md + i) (fun _ _ => 0) (fun p9 x9 y9 => mft (lokP gn p9) (wdt p9 W) (wdt p9 H) (nI x9) (nI y9) (mus wh ((fun _ => 0) 0) p9) (mus wh ((fun _ => 0) 1) p9)) 5) W (md + i) 5 (mlF W (md + i) 5 (fun _ => 0) (fun x9 y9 => (mft (lokP gn 2) (wdt 2 W) (wdt 2 H) (nI x9) (nI y9) (mus wh ((fun _ => 0) 0) 2) (mus wh ((fun _ => 0) 1) 2)))) (64)))), (ol, .inl (cs 0, 4608, .inl go)), (ne, .inl (cs 0, 4608, .inl gn)), (ve, .inl (cs 0, 4, .inl (fun _ => 0))), (ps, .inl (cs 0, 3, .inl (fun _ => 1024))), (bd, .inl (cs 1, 2, .inl Bd)), (ma, .inl (cs 0, 64, .inl (fun _ => 0)))]) (st1 := []) hF (c_X7_putBlock5A l D cs tt o mt qu zz nw ol ne se ke re ve ps di lv bd co bt ma W H (md + i) 0 nc ns is ik dc sc wh fa 0 bf bo (mnF (lvF gw W md (fun p9 x9 y9 => mft (lokP gn p9) (wdt p9 W) (wdt p9 H) (nI x9) (nI y9) (mus wh ((fun _ => 0) 0) p9) (mus wh ((fun _ => 0) 1) p9)) i) W (md + i) (fun _ _ => 0) (fun p9 x9 y9 => mft (lokP gn p9) (wdt p9 W) (wdt p9 H) (nI x9) (nI y9) (mus wh ((fun _ => 0) 0) p9) (mus wh ((fun _ => 0) 1) p9)) 5) (fun _ => 0) go gn (fun _ => 0) hw hw4 hh hh3 hmd) gX7_leave_X7_putBlock rfl (n := 3) (by decide +kernel) rfl ⟨⟨rfl, rfl⟩, Nat.le_of_ble_eq_true rfl, Nat.le_of_ble_eq_true rfl⟩ ⟨Nat.le_of_ble_eq_true rfl, Nat.le_of_ble_eq_true rfl⟩ hX hP hD hS rfl [o, nw, ol, ne, ve, ma] rfl rfl (q0 := 0) (ci := 7) rfl rfl rfl hl.1 rfl (Nat.le_of_ble_eq_true rfl) dX7_leave_218 rfl rfl (fun Hp locs hP hD hS => ?_)
              have hP1 : va_P D vwCl [(o, .inr (7, mdF 0 W H mt qu zz nw ol ne se ke nc ns is ik dc sc 2 (md + i) wh fa re ve ps 0 0 di lv bf bo bd co bt ma)), (nw, .inl (cs 0, 4608, .inl (mnF (lvF gw W md (fun p9 x9 y9 => mft (lokP gn p9) (wdt p9 W) (wdt p9 H) (nI x9) (nI y9) (mus wh ((fun _ => 0) 0) p9) (mus wh ((fun _ => 0) 1) p9)) i) W (md + i) (fun _ _ => 0) (fun p9 x9 y9 => mft (lokP gn p9) (wdt p9 W) (wdt p9 H) (nI x9) (nI y9) (mus wh ((fun _ => 0) 0) p9) (mus wh ((fun _ => 0) 1) p9)) 6))), (ol, .inl (cs 0, 4608, .inl go)), (ne, .inl (cs 0, 4608, .inl gn)), (ve, .inl (cs 0, 4, .inl (fun _ => 0))), (ps, .inl (cs 0, 3, .inl (fun _ => 1024))), (bd, .inl (cs 1, 2, .inl Bd)), (ma, .inl (cs 0, 64, .inl (fun _ => 0)))] Hp := hP
              have hD : va_D A [(o, .inr (7, mdF 0 W H mt qu zz nw ol ne se ke nc ns is ik dc sc 2 (md + i) wh fa re ve ps 0 0 di lv bf bo bd co bt ma)), (nw, .inl (cs 0, 4608, .inl (mnF (lvF gw W md (fun p9 x9 y9 => mft (lokP gn p9) (wdt p9 W) (wdt p9 H) (nI x9) (nI y9) (mus wh ((fun _ => 0) 0) p9) (mus wh ((fun _ => 0) 1) p9)) i) W (md + i) (fun _ _ => 0) (fun p9 x9 y9 => mft (lokP gn p9) (wdt p9 W) (wdt p9 H) (nI x9) (nI y9) (mus wh ((fun _ => 0) 0) p9) (mus wh ((fun _ => 0) 1) p9)) 6))), (ol, .inl (cs 0, 4608, .inl go)), (ne, .inl (cs 0, 4608, .inl gn)), (ve, .inl (cs 0, 4, .inl (fun _ => 0))), (ps, .inl (cs 0, 3, .inl (fun _ => 1024))), (bd, .inl (cs 1, 2, .inl Bd)), (ma, .inl (cs 0, 64, .inl (fun _ => 0)))] := hD
              have hP := hP1
              refine lv_iinc (v := 6) (lv' := [(5, .int 6), (0, .ref o), (1, .int (nI n)), (4, .int (nI i))]) hx hb dX7_leave_221 hl (k := 0) rfl (rfl) (by decide) rfl (fun ls hl => ?_)
              refine lv_goto (tgt := 164) hx hb dX7_leave_224 (by decide) ?_
              refine lv_iload hx hb dX7_leave_164 (lv_at hl 0 rfl) ?_
              refine lv_bipush (v := 6) hx hb dX7_leave_166 (by decide) ?_
              refine lv_icmp_ge (tgt := 227) hx hb dX7_leave_168 (by decide) (fun _ => ?_) (fun c_168 => absurd (by decide) c_168)
              have hP1 : va_P D vwCl [(o, .inr (7, mdF 0 W H mt qu zz nw ol ne se ke nc ns is ik dc sc 2 (md + i) wh fa re ve ps 0 0 di lv bf bo bd co bt ma)), (nw, .inl (cs 0, 4608, .inl (lvF gw W md (fun p9 x9 y9 => mft (lokP gn p9) (wdt p9 W) (wdt p9 H) (nI x9) (nI y9) (mus wh ((fun _ => 0) 0) p9) (mus wh ((fun _ => 0) 1) p9)) (i + 1)))), (ol, .inl (cs 0, 4608, .inl go)), (ne, .inl (cs 0, 4608, .inl gn)), (ve, .inl (cs 0, 4, .inl (fun _ => 0))), (ps, .inl (cs 0, 3, .inl (fun _ => 1024))), (bd, .inl (cs 1, 2, .inl Bd)), (ma, .inl (cs 0, 64, .inl (fun _ => 0)))] Hp := hP
              have hD : va_D A [(o, .inr (7, mdF 0 W H mt qu zz nw ol ne se ke nc ns is ik dc sc 2 (md + i) wh fa re ve ps 0 0 di lv bf bo bd co bt ma)), (nw, .inl (cs 0, 4608, .inl (lvF gw W md (fun p9 x9 y9 => mft (lokP gn p9) (wdt p9 W) (wdt p9 H) (nI x9) (nI y9) (mus wh ((fun _ => 0) 0) p9) (mus wh ((fun _ => 0) 1) p9)) (i + 1)))), (ol, .inl (cs 0, 4608, .inl go)), (ne, .inl (cs 0, 4608, .inl gn)), (ve, .inl (cs 0, 4, .inl (fun _ => 0))), (ps, .inl (cs 0, 3, .inl (fun _ => 1024))), (bd, .inl (cs 1, 2, .inl Bd)), (ma, .inl (cs 0, 64, .inl (fun _ => 0)))] := hD
              have hP := hP1
              refine lv_aload_n hx hb dX7_leave_227 rfl (lv_at hl 1 rfl) ?_
              refine lv_dup hx hb dX7_leave_228 rfl ?_
              refine xget (C := RX7) (T := TX7) (N := 34) hF hX hP (by decide +kernel) 0 18 rfl rfl (by decide) (by decide +kernel) rfl dX7_leave_229 ?_
              refine lv_iconst (v := 1) hx hb dX7_leave_232 (by decide) ?_
              refine lv_iadd hx hb dX7_leave_233 ?_
              refine xrwi (z := nI (md + (i + 1))) (nI_1 (md + i)) ?_
              refine xputf (C := RX7) (T := TX7) (N := 34) (ws1 := [(o, .inr (7, mdF 0 W H mt qu zz nw ol ne se ke nc ns is ik dc sc 2 (md + (i + 1)) wh fa re ve ps 0 0 di lv bf bo bd co bt ma)), (nw, .inl (cs 0, 4608, .inl (lvF gw W md (fun p9 x9 y9 => mft (lokP gn p9) (wdt p9 W) (wdt p9 H) (nI x9) (nI y9) (mus wh ((fun _ => 0) 0) p9) (mus wh ((fun _ => 0) 1) p9)) (i + 1)))), (ol, .inl (cs 0, 4608, .inl go)), (ne, .inl (cs 0, 4608, .inl gn)), (ve, .inl (cs 0, 4, .inl (fun _ => 0))), (ps, .inl (cs 0, 3, .inl (fun _ => 1024))), (bd, .inl (cs 1, 2, .inl Bd)), (ma, .inl (cs 0, 64, .inl (fun _ => 0)))]) hF hX hP hD hS (by decide +kernel) tyX7 tyX7_ok nmX7 0 18 rfl rfl (by decide) (by decide +kernel) rfl (rfl) (rfl) (Nat.le_of_ble_eq_true rfl) dX7_leave_234 rfl (fun Hp locs hP hD hS => ?_)
              refine lv_iinc (v := (nI (i + 1))) (lv' := [(4, .int (nI (i + 1))), (5, .int 6), (0, .ref o), (1, .int (nI n))]) hx hb dX7_leave_237 hl (k := 3) rfl (nI_1 i) (by decide) rfl (fun ls hl => ?_)
              refine lv_goto (tgt := 155) hx hb dX7_leave_240 (by decide) ?_
              exact ih_155 (i + 1) (by omega) (by omega) _ _ _ hP hD hS (lv_sub hl [2, 3, 0] rfl)
        exact loop_155 (n - 0 + 1) 0 (Nat.lt_succ_self _) (by omega) _ _ _ hP hD hS (lv_sub hl [1, 2, 0] rfl)
      · have hlt : k4 < 64 := nInle (a := 64) (b := k4) rfl rfl (by decide) (by omega) c_135
        refine lv_aload_n hx hb dX7_leave_138 rfl (lv_at hl 0 rfl) ?_
        refine xget (C := RX7) (T := TX7) (N := 34) hF hX hP (by decide +kernel) 0 33 rfl rfl (by decide) (by decide +kernel) rfl dX7_leave_139 ?_
        refine lv_iload hx hb dX7_leave_142 (lv_at hl 2 rfl) ?_
        refine lv_iconst (v := 0) hx hb dX7_leave_144 (by decide) ?_
        refine xast (k := k4) (ws1 := [(o, .inr (7, mdF 0 W H mt qu zz nw ol ne se ke nc ns is ik dc sc 2 md wh fa re ve ps 0 0 di lv bf bo bd co bt ma)), (nw, .inl (cs 0, 4608, .inl gw)), (ol, .inl (cs 0, 4608, .inl go)), (ne, .inl (cs 0, 4608, .inl gn)), (ve, .inl (cs 0, 4, .inl (fun _ => 0))), (ps, .inl (cs 0, 3, .inl (fun _ => 1024))), (bd, .inl (cs 1, 2, .inl Bd)), (ma, .inl (cs 0, 64, .inl (filTo mf 0 (k4 + 1))))]) hF hX hP hD hS 7 rfl (nI_clamp (by omega)) (vp_in_nI (by omega) (by decide)) dX7_leave_145 (congrArg (fun z9 => ([(o, .inr (7, mdF 0 W H mt qu zz nw ol ne se ke nc ns is ik dc sc 2 md wh fa re ve ps 0 0 di lv bf bo bd co bt ma)), (nw, .inl (cs 0, 4608, .inl gw)), (ol, .inl (cs 0, 4608, .inl go)), (ne, .inl (cs 0, 4608, .inl gn)), (ve, .inl (cs 0, 4, .inl (fun _ => 0))), (ps, .inl (cs 0, 3, .inl (fun _ => 1024))), (bd, .inl (cs 1, 2, .inl Bd)), (ma, .inl (cs 0, 64, .inl z9))] : va_W)) (filTo_s mf 0 k4)) (fun Hp locs hP hD hS => ?_)
        refine lv_iinc (v := (nI (k4 + 1))) (lv' := [(4, .int (nI (k4 + 1))), (0, .ref o), (1, .int (nI n))]) hx hb dX7_leave_146 hl (k := 2) rfl (nI_1 k4) (by decide) rfl (fun ls hl => ?_)
        refine lv_goto (tgt := 131) hx hb dX7_leave_149 (by decide) ?_
        exact ih_131 (k4 + 1) (by omega) (by omega) _ _ _ hP hD hS (lv_sub hl [1, 2, 0] rfl)
  have hP := xeqP hP (congrArg (fun z9 => ([(o, .inr (7, mdF 0 W H mt qu zz nw ol ne se ke nc ns is ik dc sc 2 md wh fa re ve ps 0 0 di lv bf bo bd co bt ma)), (nw, .inl (cs 0, 4608, .inl gw)), (ol, .inl (cs 0, 4608, .inl go)), (ne, .inl (cs 0, 4608, .inl gn)), (ve, .inl (cs 0, 4, .inl (fun _ => 0))), (ps, .inl (cs 0, 3, .inl (fun _ => 1024))), (bd, .inl (cs 1, 2, .inl Bd)), (ma, .inl (cs 0, 64, .inl z9))] : va_W)) ((show mf = filTo mf 0 0 from funext (fun j => by simp [filTo]))))
  have hD := xeqD hD (congrArg (fun z9 => ([(o, .inr (7, mdF 0 W H mt qu zz nw ol ne se ke nc ns is ik dc sc 2 md wh fa re ve ps 0 0 di lv bf bo bd co bt ma)), (nw, .inl (cs 0, 4608, .inl gw)), (ol, .inl (cs 0, 4608, .inl go)), (ne, .inl (cs 0, 4608, .inl gn)), (ve, .inl (cs 0, 4, .inl (fun _ => 0))), (ps, .inl (cs 0, 3, .inl (fun _ => 1024))), (bd, .inl (cs 1, 2, .inl Bd)), (ma, .inl (cs 0, 64, .inl z9))] : va_W)) ((show mf = filTo mf 0 0 from funext (fun j => by simp [filTo]))))
  exact loop_131 (64 - 0 + 1) 0 (Nat.lt_succ_self _) (by decide) _ _ _ hP hD hS (lv_sub hl [3, 4, 0] rfl)

set_option maxHeartbeats 4000000 in
set_option maxRecDepth 100000 in
theorem c_X7_leave_B (l : Launch) (D : va_G) (cs : Nat → ClassId) (tt : Nat → Nat) (o mt qu zz nw ol ne se ke re ve ps di lv bd co bt ma W H md : Nat) (th nc ns is ik dc sc wh fa : Int32) (n : Nat) (gw go gn V P mf : Nat → Int32) (hw : 1 ≤ W) (hw4 : W ≤ 4) (hh : 1 ≤ H) (hh3 : H ≤ 3) (hn1 : 1 ≤ n) (hn2 : n ≤ W * H - md) (hm : md ≤ W * H) : xM l yX7_leave wsX7_leave ({ frames := 5, cells := 0, slots := 0, locals := 133 } : Room) D cs tt [.ref o, .int (nI n)] [(o, .inr (7, mdF th W H mt qu zz nw ol ne se ke nc ns is ik dc sc 3 md wh fa re ve ps 0 0 di lv 1 0 bd co bt ma)), (nw, .inl (cs 0, 4608, .inl gw)), (ol, .inl (cs 0, 4608, .inl go)), (ne, .inl (cs 0, 4608, .inl gn)), (ve, .inl (cs 0, 4, .inl V)), (ps, .inl (cs 0, 3, .inl P)), (bd, .inl (cs 1, 2, .inl (du 1 0))), (ma, .inl (cs 0, 64, .inl mf))] (some (.int (nI (md + n)))) [(o, .inr (7, mdF 0 W H mt qu zz nw ol ne se ke nc ns is ik dc sc 3 (md + n) wh fa re ve ps 0 0 di lv 1 0 bd co bt ma)), (nw, .inl (cs 0, 4608, .inl (lvF gw W md (fun p9 x9 y9 => mft (lokP go p9) (wdt p9 W) (wdt p9 H) (nI x9) (nI y9) (mus wh (V 0) p9) (mus wh (V 1) p9)) n))), (ol, .inl (cs 0, 4608, .inl go)), (ne, .inl (cs 0, 4608, .inl gn)), (ve, .inl (cs 0, 4, .inl V)), (ps, .inl (cs 0, 3, .inl (fun _ => 1024))), (bd, .inl (cs 1, 2, .inl (du 1 0))), (ma, .inl (cs 0, 64, .inl (fun _ => 0)))] := by
  refine xM.of RX7 rfl (by decide) rfl (Nat.le_of_ble_eq_true rfl) ?_
  intro p e s m below meth c A ls hF hr hlk hX hP hD hS hl
  have hx := hF.1
  have hb := hF.2.1
  have hl : lv_has ls 6 [(0, .ref o), (1, .int (nI n))] := hl
  have hWH : W * H ≤ 12 := Nat.mul_le_mul hw4 hh3
  refine lv_aload_n hx hb dX7_leave_0 rfl (lv_at hl 0 rfl) ?_
  refine xget (C := RX7) (T := TX7) (N := 34) hF hX hP (by decide +kernel) 0 17 rfl rfl (by decide) (by decide +kernel) rfl dX7_leave_1 ?_
  refine lv_if_ne (tgt := 11) hx hb dX7_leave_4 (by decide) (fun _ => ?_) (fun c_4 => absurd c_4 (by decide))
  refine lv_aload_n hx hb dX7_leave_11 rfl (lv_at hl 0 rfl) ?_
  refine xget (C := RX7) (T := TX7) (N := 34) hF hX hP (by decide +kernel) 0 1 rfl rfl (by decide) (by decide +kernel) rfl dX7_leave_12 ?_
  refine lv_aload_n hx hb dX7_leave_15 rfl (lv_at hl 0 rfl) ?_
  refine xget (C := RX7) (T := TX7) (N := 34) hF hX hP (by decide +kernel) 0 2 rfl rfl (by decide) (by decide +kernel) rfl dX7_leave_16 ?_
  refine lv_imul hx hb dX7_leave_19 ?_
  refine lv_aload_n hx hb dX7_leave_20 rfl (lv_at hl 0 rfl) ?_
  refine xget (C := RX7) (T := TX7) (N := 34) hF hX hP (by decide +kernel) 0 18 rfl rfl (by decide) (by decide +kernel) rfl dX7_leave_21 ?_
  refine lv_isub hx hb dX7_leave_24 ?_
  refine xrwi (z := nI (W * H - md)) (by rw [pk_mul, pk_sub (by omega)]) ?_
  refine lv_istore_n (lv' := [(2, .int (nI (W * H - md))), (0, .ref o), (1, .int (nI n))]) hx hb dX7_leave_25 rfl hl (by decide) rfl (fun ls hl => ?_)
  refine lv_aload_n hx hb dX7_leave_26 rfl (lv_at hl 1 rfl) ?_
  refine xget (C := RX7) (T := TX7) (N := 34) hF hX hP (by decide +kernel) 0 17 rfl rfl (by decide) (by decide +kernel) rfl dX7_leave_27 ?_
  refine lv_iconst (v := 3) hx hb dX7_leave_30 (by decide) ?_
  refine lv_icmp_ne (tgt := 52) hx hb dX7_leave_31 (by decide) (fun c_31 => absurd (by decide) c_31) (fun _ => ?_)
  refine lv_aload_n hx hb dX7_leave_34 rfl (lv_at hl 1 rfl) ?_
  refine xget (C := RX7) (T := TX7) (N := 34) hF hX hP (by decide +kernel) 0 28 rfl rfl (by decide) (by decide +kernel) rfl dX7_leave_35 ?_
  refine lv_if_eq (tgt := 48) hx hb dX7_leave_38 (by decide) (fun c_38 => absurd c_38 (by decide)) (fun _ => ?_)
  refine lv_aload_n hx hb dX7_leave_41 rfl (lv_at hl 1 rfl) ?_
  refine xget (C := RX7) (T := TX7) (N := 34) hF hX hP (by decide +kernel) 0 29 rfl rfl (by decide) (by decide +kernel) rfl dX7_leave_42 ?_
  refine lv_if_eq (tgt := 52) hx hb dX7_leave_45 (by decide) (fun _ => ?_) (fun c_45 => absurd (by decide) c_45)
  refine lv_iconst (v := 0) hx hb dX7_leave_52 (by decide) ?_
  refine lv_istore_n (lv' := [(3, .int 0), (2, .int (nI (W * H - md))), (0, .ref o), (1, .int (nI n))]) hx hb dX7_leave_53 rfl hl (by decide) rfl (fun ls hl => ?_)
  refine lv_aload_n hx hb dX7_leave_54 rfl (lv_at hl 2 rfl) ?_
  refine lv_iload_n hx hb dX7_leave_55 rfl (lv_at hl 3 rfl) ?_
  refine lv_iconst (v := 1) hx hb dX7_leave_56 (by decide) ?_
  refine lv_icmp_lt (tgt := 65) hx hb dX7_leave_57 (by decide) (fun c_57 => absurd c_57 (nI_nlt (b := 1) hn1 (by omega))) (fun _ => ?_)
  refine lv_iload_n hx hb dX7_leave_60 rfl (lv_at hl 3 rfl) ?_
  refine lv_iload_n hx hb dX7_leave_61 rfl (lv_at hl 1 rfl) ?_
  refine lv_icmp_le (tgt := 69) hx hb dX7_leave_62 (by decide) (fun _ => ?_) (fun c_62 => absurd (nI_le hn2 (by omega)) c_62)
  refine lv_aload_n hx hb dX7_leave_69 rfl (lv_at hl 2 rfl) ?_
  refine xget (C := RX7) (T := TX7) (N := 34) hF hX hP (by decide +kernel) 0 17 rfl rfl (by decide) (by decide +kernel) rfl dX7_leave_70 ?_
  refine lv_if_eq (tgt := 95) hx hb dX7_leave_73 (by decide) (fun c_73 => absurd c_73 (by decide)) (fun _ => ?_)
  refine lv_aload_n hx hb dX7_leave_76 rfl (lv_at hl 2 rfl) ?_
  refine xget (C := RX7) (T := TX7) (N := 34) hF hX hP (by decide +kernel) 0 17 rfl rfl (by decide) (by decide +kernel) rfl dX7_leave_77 ?_
  refine lv_iconst (v := 1) hx hb dX7_leave_80 (by decide) ?_
  refine lv_icmp_eq (tgt := 95) hx hb dX7_leave_81 (by decide) (fun c_81 => absurd c_81 (by decide)) (fun _ => ?_)
  refine lv_aload_n hx hb dX7_leave_84 rfl (lv_at hl 2 rfl) ?_
  refine xget (C := RX7) (T := TX7) (N := 34) hF hX hP (by decide +kernel) 0 25 rfl rfl (by decide) (by decide +kernel) rfl dX7_leave_85 ?_
  refine lv_if_ne (tgt := 95) hx hb dX7_leave_88 (by decide) (fun c_88 => absurd (by decide) c_88) (fun _ => ?_)
  refine lv_iload_n hx hb dX7_leave_91 rfl (lv_at hl 0 rfl) ?_
  refine lv_if_eq (tgt := 99) hx hb dX7_leave_92 (by decide) (fun _ => ?_) (fun c_92 => absurd (by decide) c_92)
  refine lv_iconst (v := 0) hx hb dX7_leave_99 (by decide) ?_
  refine xputf (C := RX7) (T := TX7) (N := 34) (ws1 := [(o, .inr (7, mdF 0 W H mt qu zz nw ol ne se ke nc ns is ik dc sc 3 md wh fa re ve ps 0 0 di lv 1 0 bd co bt ma)), (nw, .inl (cs 0, 4608, .inl gw)), (ol, .inl (cs 0, 4608, .inl go)), (ne, .inl (cs 0, 4608, .inl gn)), (ve, .inl (cs 0, 4, .inl V)), (ps, .inl (cs 0, 3, .inl P)), (bd, .inl (cs 1, 2, .inl (du 1 0))), (ma, .inl (cs 0, 64, .inl mf))]) hF hX hP hD hS (by decide +kernel) tyX7 tyX7_ok nmX7 0 0 rfl rfl (by decide) (by decide +kernel) rfl (rfl) (rfl) (Nat.le_of_ble_eq_true rfl) dX7_leave_100 rfl (fun Hp locs hP hD hS => ?_)
  refine lv_aload_n hx hb dX7_leave_103 rfl (lv_at hl 2 rfl) ?_
  refine xget (C := RX7) (T := TX7) (N := 34) hF hX hP (by decide +kernel) 0 0 rfl rfl (by decide) (by decide +kernel) rfl dX7_leave_104 ?_
  refine lv_if_le (tgt := 112) hx hb dX7_leave_107 (by decide) (fun _ => ?_) (fun c_107 => absurd (by decide) c_107)
  refine lv_aload_n hx hb dX7_leave_112 rfl (lv_at hl 2 rfl) ?_
  refine xget (C := RX7) (T := TX7) (N := 34) hF hX hP (by decide +kernel) 0 17 rfl rfl (by decide) (by decide +kernel) rfl dX7_leave_113 ?_
  refine lv_iconst (v := 2) hx hb dX7_leave_116 (by decide) ?_
  refine lv_icmp_ne (tgt := 124) hx hb dX7_leave_117 (by decide) (fun _ => ?_) (fun c_117 => absurd c_117 (by decide))
  refine lv_aload_n hx hb dX7_leave_124 rfl (lv_at hl 2 rfl) ?_
  refine xVM [true, false, false, false, false, true, false, false] (rest := []) (As := []) (ws1 := [(o, .inr (7, mdF 0 W H mt qu zz nw ol ne se ke nc ns is ik dc sc 3 md wh fa re ve ps 0 0 di lv 1 0 bd co bt ma)), (nw, .inl (cs 0, 4608, .inl gw)), (ol, .inl (cs 0, 4608, .inl go)), (ne, .inl (cs 0, 4608, .inl gn)), (ve, .inl (cs 0, 4, .inl V)), (ps, .inl (cs 0, 3, .inl (fun _ => 1024))), (bd, .inl (cs 1, 2, .inl (du 1 0))), (ma, .inl (cs 0, 64, .inl mf))]) (st1 := []) hF (c_X7_clearPasts l D cs tt o mt qu zz nw ol ne se ke re ve ps di lv bd co bt ma W H md 0 nc ns is ik dc sc 3 wh fa 0 0 1 0 P) gX7_leave_X7_clearPasts rfl (n := 0) (by decide +kernel) rfl ⟨⟨rfl, rfl⟩, Nat.le_of_ble_eq_true rfl, Nat.le_of_ble_eq_true rfl⟩ ⟨Nat.le_of_ble_eq_true rfl, Nat.le_of_ble_eq_true rfl⟩ hX hP hD hS rfl [o, ps] rfl rfl (q0 := 0) (ci := 7) rfl rfl rfl hl.1 rfl (Nat.le_of_ble_eq_true rfl) dX7_leave_125 rfl rfl (fun Hp locs hP hD hS => ?_)
  refine lv_iconst (v := 0) hx hb dX7_leave_128 (by decide) ?_
  refine lv_istore (lv' := [(4, .int 0), (3, .int 0), (2, .int (nI (W * H - md))), (0, .ref o), (1, .int (nI n))]) hx hb dX7_leave_129 hl (by decide) rfl (fun ls hl => ?_)
  have loop_131 : ∀ (k131 : Nat) (k4 : Nat), 64 - k4 < k131 → k4 ≤ 64 → ∀ (Hp : Heap) (locs : List Loc) (ls : Array Slot), va_P D vwCl [(o, .inr (7, mdF 0 W H mt qu zz nw ol ne se ke nc ns is ik dc sc 3 md wh fa re ve ps 0 0 di lv 1 0 bd co bt ma)), (nw, .inl (cs 0, 4608, .inl gw)), (ol, .inl (cs 0, 4608, .inl go)), (ne, .inl (cs 0, 4608, .inl gn)), (ve, .inl (cs 0, 4, .inl V)), (ps, .inl (cs 0, 3, .inl (fun _ => 1024))), (bd, .inl (cs 1, 2, .inl (du 1 0))), (ma, .inl (cs 0, 64, .inl (filTo mf 0 k4)))] Hp → va_D A [(o, .inr (7, mdF 0 W H mt qu zz nw ol ne se ke nc ns is ik dc sc 3 md wh fa re ve ps 0 0 di lv 1 0 bd co bt ma)), (nw, .inl (cs 0, 4608, .inl gw)), (ol, .inl (cs 0, 4608, .inl go)), (ne, .inl (cs 0, 4608, .inl gn)), (ve, .inl (cs 0, 4, .inl V)), (ps, .inl (cs 0, 3, .inl (fun _ => 1024))), (bd, .inl (cs 1, 2, .inl (du 1 0))), (ma, .inl (cs 0, 64, .inl (filTo mf 0 k4)))] → va_S A s.heap Hp locs → lv_has ls 6 [(0, .ref o), (1, .int (nI n)), (4, .int (nI k4))] → xW p l e ({ frames := 5, cells := 0, slots := 0, locals := 133 } : Room) s m ([.ref o, .int (nI n)] : List Value).toArray below meth c Hp locs 0 0 (MQ below (xE D A (some (.int (nI (md + n)))) [(o, .inr (7, mdF 0 W H mt qu zz nw ol ne se ke nc ns is ik dc sc 3 (md + n) wh fa re ve ps 0 0 di lv 1 0 bd co bt ma)), (nw, .inl (cs 0, 4608, .inl (lvF gw W md (fun p9 x9 y9 => mft (lokP go p9) (wdt p9 W) (wdt p9 H) (nI x9) (nI y9) (mus wh (V 0) p9) (mus wh (V 1) p9)) n))), (ol, .inl (cs 0, 4608, .inl go)), (ne, .inl (cs 0, 4608, .inl gn)), (ve, .inl (cs 0, 4, .inl V)), (ps, .inl (cs 0, 3, .inl (fun _ => 1024))), (bd, .inl (cs 1, 2, .inl (du 1 0))), (ma, .inl (cs 0, 64, .inl (fun _ => 0)))]) ([.ref o, .int (nI n)] : List Value).toArray s 0 0 A) (F0 m 131 ls []) := by
    intro k131
    induction k131 with
    | zero => intro k4 h9; omega
    | succ k131 ih_131 =>
      intro k4 hk131 hk4 Hp locs ls hP hD hS hl
      refine lv_iload hx hb dX7_leave_131 (lv_at hl 2 rfl) ?_
      refine lv_bipush (v := 64) hx hb dX7_leave_133 (by decide) ?_
      refine lv_icmp_ge (tgt := 152) hx hb dX7_leave_135 (by decide) (fun c_135 => ?_) (fun c_135 => ?_)
      · have e9 : 64 ≤ k4 := nIle (a := 64) (b := k4) rfl rfl (by decide) (by omega) c_135
        have hP1 : va_P D vwCl [(o, .inr (7, mdF 0 W H mt qu zz nw ol ne se ke nc ns is ik dc sc 3 md wh fa re ve ps 0 0 di lv 1 0 bd co bt ma)), (nw, .inl (cs 0, 4608, .inl gw)), (ol, .inl (cs 0, 4608, .inl go)), (ne, .inl (cs 0, 4608, .inl gn)), (ve, .inl (cs 0, 4, .inl V)), (ps, .inl (cs 0, 3, .inl (fun _ => 1024))), (bd, .inl (cs 1, 2, .inl (du 1 0))), (ma, .inl (cs 0, 64, .inl (fun _ => 0)))] Hp := xcongP (g := (fun _ => 0)) hP 7 rfl hD (fun j hj => by simp [filTo, Nat.lt_of_lt_of_le hj e9])
        have hD : va_D A [(o, .inr (7, mdF 0 W H mt qu zz nw ol ne se ke nc ns is ik dc sc 3 md wh fa re ve ps 0 0 di lv 1 0 bd co bt ma)), (nw, .inl (cs 0, 4608, .inl gw)), (ol, .inl (cs 0, 4608, .inl go)), (ne, .inl (cs 0, 4608, .inl gn)), (ve, .inl (cs 0, 4, .inl V)), (ps, .inl (cs 0, 3, .inl (fun _ => 1024))), (bd, .inl (cs 1, 2, .inl (du 1 0))), (ma, .inl (cs 0, 64, .inl (fun _ => 0)))] := xcongD (g := (fun _ => 0)) 7 rfl hD
        have hP := hP1
        refine lv_iconst (v := 0) hx hb dX7_leave_152 (by decide) ?_
        refine lv_istore (lv' := [(4, .int 0), (0, .ref o), (1, .int (nI n))]) hx hb dX7_leave_153 hl (by decide) rfl (fun ls hl => ?_)
        have loop_155 : ∀ (k155 : Nat) (i : Nat), n - i < k155 → i ≤ n → ∀ (Hp : Heap) (locs : List Loc) (ls : Array Slot), va_P D vwCl [(o, .inr (7, mdF 0 W H mt qu zz nw ol ne se ke nc ns is ik dc sc 3 (md + i) wh fa re ve ps 0 0 di lv 1 0 bd co bt ma)), (nw, .inl (cs 0, 4608, .inl (lvF gw W md (fun p9 x9 y9 => mft (lokP go p9) (wdt p9 W) (wdt p9 H) (nI x9) (nI y9) (mus wh (V 0) p9) (mus wh (V 1) p9)) i))), (ol, .inl (cs 0, 4608, .inl go)), (ne, .inl (cs 0, 4608, .inl gn)), (ve, .inl (cs 0, 4, .inl V)), (ps, .inl (cs 0, 3, .inl (fun _ => 1024))), (bd, .inl (cs 1, 2, .inl (du 1 0))), (ma, .inl (cs 0, 64, .inl (fun _ => 0)))] Hp → va_D A [(o, .inr (7, mdF 0 W H mt qu zz nw ol ne se ke nc ns is ik dc sc 3 (md + i) wh fa re ve ps 0 0 di lv 1 0 bd co bt ma)), (nw, .inl (cs 0, 4608, .inl (lvF gw W md (fun p9 x9 y9 => mft (lokP go p9) (wdt p9 W) (wdt p9 H) (nI x9) (nI y9) (mus wh (V 0) p9) (mus wh (V 1) p9)) i))), (ol, .inl (cs 0, 4608, .inl go)), (ne, .inl (cs 0, 4608, .inl gn)), (ve, .inl (cs 0, 4, .inl V)), (ps, .inl (cs 0, 3, .inl (fun _ => 1024))), (bd, .inl (cs 1, 2, .inl (du 1 0))), (ma, .inl (cs 0, 64, .inl (fun _ => 0)))] → va_S A s.heap Hp locs → lv_has ls 6 [(0, .ref o), (1, .int (nI n)), (4, .int (nI i))] → xW p l e ({ frames := 5, cells := 0, slots := 0, locals := 133 } : Room) s m ([.ref o, .int (nI n)] : List Value).toArray below meth c Hp locs 0 0 (MQ below (xE D A (some (.int (nI (md + n)))) [(o, .inr (7, mdF 0 W H mt qu zz nw ol ne se ke nc ns is ik dc sc 3 (md + n) wh fa re ve ps 0 0 di lv 1 0 bd co bt ma)), (nw, .inl (cs 0, 4608, .inl (lvF gw W md (fun p9 x9 y9 => mft (lokP go p9) (wdt p9 W) (wdt p9 H) (nI x9) (nI y9) (mus wh (V 0) p9) (mus wh (V 1) p9)) n))), (ol, .inl (cs 0, 4608, .inl go)), (ne, .inl (cs 0, 4608, .inl gn)), (ve, .inl (cs 0, 4, .inl V)), (ps, .inl (cs 0, 3, .inl (fun _ => 1024))), (bd, .inl (cs 1, 2, .inl (du 1 0))), (ma, .inl (cs 0, 64, .inl (fun _ => 0)))]) ([.ref o, .int (nI n)] : List Value).toArray s 0 0 A) (F0 m 155 ls []) := by
          intro k155
          induction k155 with
          | zero => intro i h9; omega
          | succ k155 ih_155 =>
            intro i hk155 hi Hp locs ls hP hD hS hl
            refine lv_iload hx hb dX7_leave_155 (lv_at hl 2 rfl) ?_
            refine lv_iload_n hx hb dX7_leave_157 rfl (lv_at hl 1 rfl) ?_
            refine lv_icmp_ge (tgt := 243) hx hb dX7_leave_158 (by decide) (fun c_158 => ?_) (fun c_158 => ?_)
            · have e8 : i = n := by have := nIle (a := n) (b := i) rfl rfl (by omega) (by omega) c_158; omega
              subst e8
              refine lv_aload_n hx hb dX7_leave_243 rfl (lv_at hl 0 rfl) ?_
              refine xget (C := RX7) (T := TX7) (N := 34) hF hX hP (by decide +kernel) 0 17 rfl rfl (by decide) (by decide +kernel) rfl dX7_leave_244 ?_
              refine lv_iconst (v := 2) hx hb dX7_leave_247 (by decide) ?_
              refine lv_icmp_ne (tgt := 275) hx hb dX7_leave_248 (by decide) (fun _ => ?_) (fun c_248 => absurd c_248 (by decide))
              refine lv_aload_n hx hb dX7_leave_275 rfl (lv_at hl 0 rfl) ?_
              refine xget (C := RX7) (T := TX7) (N := 34) hF hX hP (by decide +kernel) 0 18 rfl rfl (by decide) (by decide +kernel) rfl dX7_leave_276 ?_
              exact xri (Q9 := fun _ _ _ _ => True) hF hr hlk hP hD hS dX7_leave_279
            · have hin : i < n := nInle (a := n) (b := i) rfl rfl (by omega) (by omega) c_158
              have hmd : md + i < W * H := by omega
              refine lv_iconst (v := 0) hx hb dX7_leave_161 (by decide) ?_
              refine lv_istore (lv' := [(5, .int 0), (0, .ref o), (1, .int (nI n)), (4, .int (nI i))]) hx hb dX7_leave_162 hl (by decide) rfl (fun ls hl => ?_)
              have hP1 : va_P D vwCl [(o, .inr (7, mdF 0 W H mt qu zz nw ol ne se ke nc ns is ik dc sc 3 (md + i) wh fa re ve ps 0 0 di lv 1 0 bd co bt ma)), (nw, .inl (cs 0, 4608, .inl (mnF (lvF gw W md (fun p9 x9 y9 => mft (lokP go p9) (wdt p9 W) (wdt p9 H) (nI x9) (nI y9) (mus wh (V 0) p9) (mus wh (V 1) p9)) i) W (md + i) (fun _ _ => 0) (fun p9 x9 y9 => mft (lokP go p9) (wdt p9 W) (wdt p9 H) (nI x9) (nI y9) (mus wh (V 0) p9) (mus wh (V 1) p9)) 0))), (ol, .inl (cs 0, 4608, .inl go)), (ne, .inl (cs 0, 4608, .inl gn)), (ve, .inl (cs 0, 4, .inl V)), (ps, .inl (cs 0, 3, .inl (fun _ => 1024))), (bd, .inl (cs 1, 2, .inl (du 1 0))), (ma, .inl (cs 0, 64, .inl (fun _ => 0)))] Hp := hP
              have hD : va_D A [(o, .inr (7, mdF 0 W H mt qu zz nw ol ne se ke nc ns is ik dc sc 3 (md + i) wh fa re ve ps 0 0 di lv 1 0 bd co bt ma)), (nw, .inl (cs 0, 4608, .inl (mnF (lvF gw W md (fun p9 x9 y9 => mft (lokP go p9) (wdt p9 W) (wdt p9 H) (nI x9) (nI y9) (mus wh (V 0) p9) (mus wh (V 1) p9)) i) W (md + i) (fun _ _ => 0) (fun p9 x9 y9 => mft (lokP go p9) (wdt p9 W) (wdt p9 H) (nI x9) (nI y9) (mus wh (V 0) p9) (mus wh (V 1) p9)) 0))), (ol, .inl (cs 0, 4608, .inl go)), (ne, .inl (cs 0, 4608, .inl gn)), (ve, .inl (cs 0, 4, .inl V)), (ps, .inl (cs 0, 3, .inl (fun _ => 1024))), (bd, .inl (cs 1, 2, .inl (du 1 0))), (ma, .inl (cs 0, 64, .inl (fun _ => 0)))] := hD
              have hP := hP1
              refine lv_iload hx hb dX7_leave_164 (lv_at hl 0 rfl) ?_
              refine lv_bipush (v := 6) hx hb dX7_leave_166 (by decide) ?_
              refine lv_icmp_ge (tgt := 227) hx hb dX7_leave_168 (by decide) (fun c_168 => absurd c_168 (by decide)) (fun _ => ?_)
              refine lv_aload_n hx hb dX7_leave_171 rfl (lv_at hl 1 rfl) ?_
              refine lv_iload hx hb dX7_leave_172 (lv_at hl 0 rfl) ?_
              refine lv_aload_n hx hb dX7_leave_174 rfl (lv_at hl 1 rfl) ?_
              refine xget (C := RX7) (T := TX7) (N := 34) hF hX hP (by decide +kernel) 0 17 rfl rfl (by decide) (by decide +kernel) rfl dX7_leave_175 ?_
              refine lv_iconst (v := 2) hx hb dX7_leave_178 (by decide) ?_
              refine lv_icmp_eq (tgt := 191) hx hb dX7_leave_179 (by decide) (fun c_179 => absurd c_179 (by decide)) (fun _ => ?_)
              refine lv_aload_n hx hb dX7_leave_182 rfl (lv_at hl 1 rfl) ?_
              refine xget (C := RX7) (T := TX7) (N := 34) hF hX hP (by decide +kernel) 0 30 rfl rfl (by decide) (by decide +kernel) rfl dX7_leave_183 ?_
              refine lv_iconst (v := 0) hx hb dX7_leave_186 (by decide) ?_
              refine xzald (k := 0) hF hX hP 6 rfl (rfl) (vp_in_nI (n := 0) (by decide) (by decide)) dX7_leave_187 ?_
              refine lv_if_eq (tgt := 195) hx hb dX7_leave_188 (by decide) (fun c_188 => absurd c_188 (by decide)) (fun _ => ?_)
              refine lv_iconst (v := 1) hx hb dX7_leave_191 (by decide) ?_
              refine lv_goto (tgt := 196) hx hb dX7_leave_192 (by decide) ?_
              refine lv_aload_n hx hb dX7_leave_196 rfl (lv_at hl 1 rfl) ?_
              refine xget (C := RX7) (T := TX7) (N := 34) hF hX hP (by decide +kernel) 0 17 rfl rfl (by decide) (by decide +kernel) rfl dX7_leave_197 ?_
              refine lv_iconst (v := 3) hx hb dX7_leave_200 (by decide) ?_
              refine lv_icmp_ne (tgt := 217) hx hb dX7_leave_201 (by decide) (fun c_201 => absurd (by decide) c_201) (fun _ => ?_)
              refine lv_aload_n hx hb dX7_leave_204 rfl (lv_at hl 1 rfl) ?_
              refine xget (C := RX7) (T := TX7) (N := 34) hF hX hP (by decide +kernel) 0 30 rfl rfl (by decide) (by decide +kernel) rfl dX7_leave_205 ?_
              refine lv_iconst (v := 1) hx hb dX7_leave_208 (by decide) ?_
              refine xzald (k := 1) hF hX hP 6 rfl (rfl) (vp_in_nI (n := 1) (by decide) (by decide)) dX7_leave_209 ?_
              refine lv_if_eq (tgt := 217) hx hb dX7_leave_210 (by decide) (fun _ => ?_) (fun c_210 => absurd (by decide) c_210)
              refine lv_iconst (v := 0) hx hb dX7_leave_217 (by decide) ?_
              refine xVM [true, true, true, true, true, false, false, true] (rest := []) (As := [.int 0, .int 1, .int 0]) (ws1 := [(o, .inr (7, mdF 0 W H mt qu zz nw ol ne se ke nc ns is ik dc sc 3 (md + i) wh fa re ve ps 0 0 di lv 1 0 bd co bt ma)), (nw, .inl (cs 0, 4608, .inl (mpB (mnF (lvF gw W md (fun p9 x9 y9 => mft (lokP go p9) (wdt p9 W) (wdt p9 H) (nI x9) (nI y9) (mus wh (V 0) p9) (mus wh (V 1) p9)) i) W (md + i) (fun _ _ => 0) (fun p9 x9 y9 => mft (lokP go p9) (wdt p9 W) (wdt p9 H) (nI x9) (nI y9) (mus wh (V 0) p9) (mus wh (V 1) p9)) 0) W (md + i) 0 (mlF W (md + i) 0 (fun _ => 0) (fun x9 y9 => (mft (lokP go 0) (wdt 0 W) (wdt 0 H) (nI x9) (nI y9) (mus wh (V 0) 0) (mus wh (V 1) 0)))) (64)))), (ol, .inl (cs 0, 4608, .inl go)), (ne, .inl (cs 0, 4608, .inl gn)), (ve, .inl (cs 0, 4, .inl V)), (ps, .inl (cs 0, 3, .inl (fun _ => 1024))), (bd, .inl (cs 1, 2, .inl (du 1 0))), (ma, .inl (cs 0, 64, .inl (fun _ => 0)))]) (st1 := []) hF (c_X7_putBlock0B l D cs tt o mt qu zz nw ol ne se ke re ve ps di lv bd co bt ma W H (md + i) 0 nc ns is ik dc sc wh fa 0 1 0 (mnF (lvF gw W md (fun p9 x9 y9 => mft (lokP go p9) (wdt p9 W) (wdt p9 H) (nI x9) (nI y9) (mus wh (V 0) p9) (mus wh (V 1) p9)) i) W (md + i) (fun _ _ => 0) (fun p9 x9 y9 => mft (lokP go p9) (wdt p9 W) (wdt p9 H) (nI x9) (nI y9) (mus wh (V 0) p9) (mus wh (V 1) p9)) 0) (fun _ => 0) go gn V hw hw4 hh hh3 hmd) gX7_leave_X7_putBlock rfl (n := 3) (by decide +kernel) rfl ⟨⟨rfl, rfl⟩, Nat.le_of_ble_eq_true rfl, Nat.le_of_ble_eq_true rfl⟩ ⟨Nat.le_of_ble_eq_true rfl, Nat.le_of_ble_eq_true rfl⟩ hX hP hD hS rfl [o, nw, ol, ne, ve, ma] rfl rfl (q0 := 0) (ci := 7) rfl rfl rfl hl.1 rfl (Nat.le_of_ble_eq_true rfl) dX7_leave_218 rfl rfl (fun Hp locs hP hD hS => ?_)
              have hP1 : va_P D vwCl [(o, .inr (7, mdF 0 W H mt qu zz nw ol ne se ke nc ns is ik dc sc 3 (md + i) wh fa re ve ps 0 0 di lv 1 0 bd co bt ma)), (nw, .inl (cs 0, 4608, .inl (mnF (lvF gw W md (fun p9 x9 y9 => mft (lokP go p9) (wdt p9 W) (wdt p9 H) (nI x9) (nI y9) (mus wh (V 0) p9) (mus wh (V 1) p9)) i) W (md + i) (fun _ _ => 0) (fun p9 x9 y9 => mft (lokP go p9) (wdt p9 W) (wdt p9 H) (nI x9) (nI y9) (mus wh (V 0) p9) (mus wh (V 1) p9)) 1))), (ol, .inl (cs 0, 4608, .inl go)), (ne, .inl (cs 0, 4608, .inl gn)), (ve, .inl (cs 0, 4, .inl V)), (ps, .inl (cs 0, 3, .inl (fun _ => 1024))), (bd, .inl (cs 1, 2, .inl (du 1 0))), (ma, .inl (cs 0, 64, .inl (fun _ => 0)))] Hp := hP
              have hD : va_D A [(o, .inr (7, mdF 0 W H mt qu zz nw ol ne se ke nc ns is ik dc sc 3 (md + i) wh fa re ve ps 0 0 di lv 1 0 bd co bt ma)), (nw, .inl (cs 0, 4608, .inl (mnF (lvF gw W md (fun p9 x9 y9 => mft (lokP go p9) (wdt p9 W) (wdt p9 H) (nI x9) (nI y9) (mus wh (V 0) p9) (mus wh (V 1) p9)) i) W (md + i) (fun _ _ => 0) (fun p9 x9 y9 => mft (lokP go p9) (wdt p9 W) (wdt p9 H) (nI x9) (nI y9) (mus wh (V 0) p9) (mus wh (V 1) p9)) 1))), (ol, .inl (cs 0, 4608, .inl go)), (ne, .inl (cs 0, 4608, .inl gn)), (ve, .inl (cs 0, 4, .inl V)), (ps, .inl (cs 0, 3, .inl (fun _ => 1024))), (bd, .inl (cs 1, 2, .inl (du 1 0))), (ma, .inl (cs 0, 64, .inl (fun _ => 0)))] := hD
              have hP := hP1
              refine lv_iinc (v := 1) (lv' := [(5, .int 1), (0, .ref o), (1, .int (nI n)), (4, .int (nI i))]) hx hb dX7_leave_221 hl (k := 0) rfl (rfl) (by decide) rfl (fun ls hl => ?_)
              refine lv_goto (tgt := 164) hx hb dX7_leave_224 (by decide) ?_
              refine lv_iload hx hb dX7_leave_164 (lv_at hl 0 rfl) ?_
              refine lv_bipush (v := 6) hx hb dX7_leave_166 (by decide) ?_
              refine lv_icmp_ge (tgt := 227) hx hb dX7_leave_168 (by decide) (fun c_168 => absurd c_168 (by decide)) (fun _ => ?_)
              refine lv_aload_n hx hb dX7_leave_171 rfl (lv_at hl 1 rfl) ?_
              refine lv_iload hx hb dX7_leave_172 (lv_at hl 0 rfl) ?_
              refine lv_aload_n hx hb dX7_leave_174 rfl (lv_at hl 1 rfl) ?_
              refine xget (C := RX7) (T := TX7) (N := 34) hF hX hP (by decide +kernel) 0 17 rfl rfl (by decide) (by decide +kernel) rfl dX7_leave_175 ?_
              refine lv_iconst (v := 2) hx hb dX7_leave_178 (by decide) ?_
              refine lv_icmp_eq (tgt := 191) hx hb dX7_leave_179 (by decide) (fun c_179 => absurd c_179 (by decide)) (fun _ => ?_)
              refine lv_aload_n hx hb dX7_leave_182 rfl (lv_at hl 1 rfl) ?_
              refine xget (C := RX7) (T := TX7) (N := 34) hF hX hP (by decide +kernel) 0 30 rfl rfl (by decide) (by decide +kernel) rfl dX7_leave_183 ?_
              refine lv_iconst (v := 0) hx hb dX7_leave_186 (by decide) ?_
              refine xzald (k := 0) hF hX hP 6 rfl (rfl) (vp_in_nI (n := 0) (by decide) (by decide)) dX7_leave_187 ?_
              refine lv_if_eq (tgt := 195) hx hb dX7_leave_188 (by decide) (fun c_188 => absurd c_188 (by decide)) (fun _ => ?_)
              refine lv_iconst (v := 1) hx hb dX7_leave_191 (by decide) ?_
              refine lv_goto (tgt := 196) hx hb dX7_leave_192 (by decide) ?_
              refine lv_aload_n hx hb dX7_leave_196 rfl (lv_at hl 1 rfl) ?_
              refine xget (C := RX7) (T := TX7) (N := 34) hF hX hP (by decide +kernel) 0 17 rfl rfl (by decide) (by decide +kernel) rfl dX7_leave_197 ?_
              refine lv_iconst (v := 3) hx hb dX7_leave_200 (by decide) ?_
              refine lv_icmp_ne (tgt := 217) hx hb dX7_leave_201 (by decide) (fun c_201 => absurd (by decide) c_201) (fun _ => ?_)
              refine lv_aload_n hx hb dX7_leave_204 rfl (lv_at hl 1 rfl) ?_
              refine xget (C := RX7) (T := TX7) (N := 34) hF hX hP (by decide +kernel) 0 30 rfl rfl (by decide) (by decide +kernel) rfl dX7_leave_205 ?_
              refine lv_iconst (v := 1) hx hb dX7_leave_208 (by decide) ?_
              refine xzald (k := 1) hF hX hP 6 rfl (rfl) (vp_in_nI (n := 1) (by decide) (by decide)) dX7_leave_209 ?_
              refine lv_if_eq (tgt := 217) hx hb dX7_leave_210 (by decide) (fun _ => ?_) (fun c_210 => absurd (by decide) c_210)
              refine lv_iconst (v := 0) hx hb dX7_leave_217 (by decide) ?_
              refine xVM [true, true, true, true, true, false, false, true] (rest := []) (As := [.int 1, .int 1, .int 0]) (ws1 := [(o, .inr (7, mdF 0 W H mt qu zz nw ol ne se ke nc ns is ik dc sc 3 (md + i) wh fa re ve ps 0 0 di lv 1 0 bd co bt ma)), (nw, .inl (cs 0, 4608, .inl (mpB (mnF (lvF gw W md (fun p9 x9 y9 => mft (lokP go p9) (wdt p9 W) (wdt p9 H) (nI x9) (nI y9) (mus wh (V 0) p9) (mus wh (V 1) p9)) i) W (md + i) (fun _ _ => 0) (fun p9 x9 y9 => mft (lokP go p9) (wdt p9 W) (wdt p9 H) (nI x9) (nI y9) (mus wh (V 0) p9) (mus wh (V 1) p9)) 1) W (md + i) 1 (mlF W (md + i) 1 (fun _ => 0) (fun x9 y9 => (mft (lokP go 0) (wdt 0 W) (wdt 0 H) (nI x9) (nI y9) (mus wh (V 0) 0) (mus wh (V 1) 0)))) (64)))), (ol, .inl (cs 0, 4608, .inl go)), (ne, .inl (cs 0, 4608, .inl gn)), (ve, .inl (cs 0, 4, .inl V)), (ps, .inl (cs 0, 3, .inl (fun _ => 1024))), (bd, .inl (cs 1, 2, .inl (du 1 0))), (ma, .inl (cs 0, 64, .inl (fun _ => 0)))]) (st1 := []) hF (c_X7_putBlock1B l D cs tt o mt qu zz nw ol ne se ke re ve ps di lv bd co bt ma W H (md + i) 0 nc ns is ik dc sc wh fa 0 1 0 (mnF (lvF gw W md (fun p9 x9 y9 => mft (lokP go p9) (wdt p9 W) (wdt p9 H) (nI x9) (nI y9) (mus wh (V 0) p9) (mus wh (V 1) p9)) i) W (md + i) (fun _ _ => 0) (fun p9 x9 y9 => mft (lokP go p9) (wdt p9 W) (wdt p9 H) (nI x9) (nI y9) (mus wh (V 0) p9) (mus wh (V 1) p9)) 1) (fun _ => 0) go gn V hw hw4 hh hh3 hmd) gX7_leave_X7_putBlock rfl (n := 3) (by decide +kernel) rfl ⟨⟨rfl, rfl⟩, Nat.le_of_ble_eq_true rfl, Nat.le_of_ble_eq_true rfl⟩ ⟨Nat.le_of_ble_eq_true rfl, Nat.le_of_ble_eq_true rfl⟩ hX hP hD hS rfl [o, nw, ol, ne, ve, ma] rfl rfl (q0 := 0) (ci := 7) rfl rfl rfl hl.1 rfl (Nat.le_of_ble_eq_true rfl) dX7_leave_218 rfl rfl (fun Hp locs hP hD hS => ?_)
              have hP1 : va_P D vwCl [(o, .inr (7, mdF 0 W H mt qu zz nw ol ne se ke nc ns is ik dc sc 3 (md + i) wh fa re ve ps 0 0 di lv 1 0 bd co bt ma)), (nw, .inl (cs 0, 4608, .inl (mnF (lvF gw W md (fun p9 x9 y9 => mft (lokP go p9) (wdt p9 W) (wdt p9 H) (nI x9) (nI y9) (mus wh (V 0) p9) (mus wh (V 1) p9)) i) W (md + i) (fun _ _ => 0) (fun p9 x9 y9 => mft (lokP go p9) (wdt p9 W) (wdt p9 H) (nI x9) (nI y9) (mus wh (V 0) p9) (mus wh (V 1) p9)) 2))), (ol, .inl (cs 0, 4608, .inl go)), (ne, .inl (cs 0, 4608, .inl gn)), (ve, .inl (cs 0, 4, .inl V)), (ps, .inl (cs 0, 3, .inl (fun _ => 1024))), (bd, .inl (cs 1, 2, .inl (du 1 0))), (ma, .inl (cs 0, 64, .inl (fun _ => 0)))] Hp := hP
              have hD : va_D A [(o, .inr (7, mdF 0 W H mt qu zz nw ol ne se ke nc ns is ik dc sc 3 (md + i) wh fa re ve ps 0 0 di lv 1 0 bd co bt ma)), (nw, .inl (cs 0, 4608, .inl (mnF (lvF gw W md (fun p9 x9 y9 => mft (lokP go p9) (wdt p9 W) (wdt p9 H) (nI x9) (nI y9) (mus wh (V 0) p9) (mus wh (V 1) p9)) i) W (md + i) (fun _ _ => 0) (fun p9 x9 y9 => mft (lokP go p9) (wdt p9 W) (wdt p9 H) (nI x9) (nI y9) (mus wh (V 0) p9) (mus wh (V 1) p9)) 2))), (ol, .inl (cs 0, 4608, .inl go)), (ne, .inl (cs 0, 4608, .inl gn)), (ve, .inl (cs 0, 4, .inl V)), (ps, .inl (cs 0, 3, .inl (fun _ => 1024))), (bd, .inl (cs 1, 2, .inl (du 1 0))), (ma, .inl (cs 0, 64, .inl (fun _ => 0)))] := hD
              have hP := hP1
              refine lv_iinc (v := 2) (lv' := [(5, .int 2), (0, .ref o), (1, .int (nI n)), (4, .int (nI i))]) hx hb dX7_leave_221 hl (k := 0) rfl (rfl) (by decide) rfl (fun ls hl => ?_)
              refine lv_goto (tgt := 164) hx hb dX7_leave_224 (by decide) ?_
              refine lv_iload hx hb dX7_leave_164 (lv_at hl 0 rfl) ?_
              refine lv_bipush (v := 6) hx hb dX7_leave_166 (by decide) ?_
              refine lv_icmp_ge (tgt := 227) hx hb dX7_leave_168 (by decide) (fun c_168 => absurd c_168 (by decide)) (fun _ => ?_)
              refine lv_aload_n hx hb dX7_leave_171 rfl (lv_at hl 1 rfl) ?_
              refine lv_iload hx hb dX7_leave_172 (lv_at hl 0 rfl) ?_
              refine lv_aload_n hx hb dX7_leave_174 rfl (lv_at hl 1 rfl) ?_
              refine xget (C := RX7) (T := TX7) (N := 34) hF hX hP (by decide +kernel) 0 17 rfl rfl (by decide) (by decide +kernel) rfl dX7_leave_175 ?_
              refine lv_iconst (v := 2) hx hb dX7_leave_178 (by decide) ?_
              refine lv_icmp_eq (tgt := 191) hx hb dX7_leave_179 (by decide) (fun c_179 => absurd c_179 (by decide)) (fun _ => ?_)
              refine lv_aload_n hx hb dX7_leave_182 rfl (lv_at hl 1 rfl) ?_
              refine xget (C := RX7) (T := TX7) (N := 34) hF hX hP (by decide +kernel) 0 30 rfl rfl (by decide) (by decide +kernel) rfl dX7_leave_183 ?_
              refine lv_iconst (v := 0) hx hb dX7_leave_186 (by decide) ?_
              refine xzald (k := 0) hF hX hP 6 rfl (rfl) (vp_in_nI (n := 0) (by decide) (by decide)) dX7_leave_187 ?_
              refine lv_if_eq (tgt := 195) hx hb dX7_leave_188 (by decide) (fun c_188 => absurd c_188 (by decide)) (fun _ => ?_)
              refine lv_iconst (v := 1) hx hb dX7_leave_191 (by decide) ?_
              refine lv_goto (tgt := 196) hx hb dX7_leave_192 (by decide) ?_
              refine lv_aload_n hx hb dX7_leave_196 rfl (lv_at hl 1 rfl) ?_
              refine xget (C := RX7) (T := TX7) (N := 34) hF hX hP (by decide +kernel) 0 17 rfl rfl (by decide) (by decide +kernel) rfl dX7_leave_197 ?_
              refine lv_iconst (v := 3) hx hb dX7_leave_200 (by decide) ?_
              refine lv_icmp_ne (tgt := 217) hx hb dX7_leave_201 (by decide) (fun c_201 => absurd (by decide) c_201) (fun _ => ?_)
              refine lv_aload_n hx hb dX7_leave_204 rfl (lv_at hl 1 rfl) ?_
              refine xget (C := RX7) (T := TX7) (N := 34) hF hX hP (by decide +kernel) 0 30 rfl rfl (by decide) (by decide +kernel) rfl dX7_leave_205 ?_
              refine lv_iconst (v := 1) hx hb dX7_leave_208 (by decide) ?_
              refine xzald (k := 1) hF hX hP 6 rfl (rfl) (vp_in_nI (n := 1) (by decide) (by decide)) dX7_leave_209 ?_
              refine lv_if_eq (tgt := 217) hx hb dX7_leave_210 (by decide) (fun _ => ?_) (fun c_210 => absurd (by decide) c_210)
              refine lv_iconst (v := 0) hx hb dX7_leave_217 (by decide) ?_
              refine xVM [true, true, true, true, true, false, false, true] (rest := []) (As := [.int 2, .int 1, .int 0]) (ws1 := [(o, .inr (7, mdF 0 W H mt qu zz nw ol ne se ke nc ns is ik dc sc 3 (md + i) wh fa re ve ps 0 0 di lv 1 0 bd co bt ma)), (nw, .inl (cs 0, 4608, .inl (mpB (mnF (lvF gw W md (fun p9 x9 y9 => mft (lokP go p9) (wdt p9 W) (wdt p9 H) (nI x9) (nI y9) (mus wh (V 0) p9) (mus wh (V 1) p9)) i) W (md + i) (fun _ _ => 0) (fun p9 x9 y9 => mft (lokP go p9) (wdt p9 W) (wdt p9 H) (nI x9) (nI y9) (mus wh (V 0) p9) (mus wh (V 1) p9)) 2) W (md + i) 2 (mlF W (md + i) 2 (fun _ => 0) (fun x9 y9 => (mft (lokP go 0) (wdt 0 W) (wdt 0 H) (nI x9) (nI y9) (mus wh (V 0) 0) (mus wh (V 1) 0)))) (64)))), (ol, .inl (cs 0, 4608, .inl go)), (ne, .inl (cs 0, 4608, .inl gn)), (ve, .inl (cs 0, 4, .inl V)), (ps, .inl (cs 0, 3, .inl (fun _ => 1024))), (bd, .inl (cs 1, 2, .inl (du 1 0))), (ma, .inl (cs 0, 64, .inl (fun _ => 0)))]) (st1 := []) hF (c_X7_putBlock2B l D cs tt o mt qu zz nw ol ne se ke re ve ps di lv bd co bt ma W H (md + i) 0 nc ns is ik dc sc wh fa 0 1 0 (mnF (lvF gw W md (fun p9 x9 y9 => mft (lokP go p9) (wdt p9 W) (wdt p9 H) (nI x9) (nI y9) (mus wh (V 0) p9) (mus wh (V 1) p9)) i) W (md + i) (fun _ _ => 0) (fun p9 x9 y9 => mft (lokP go p9) (wdt p9 W) (wdt p9 H) (nI x9) (nI y9) (mus wh (V 0) p9) (mus wh (V 1) p9)) 2) (fun _ => 0) go gn V hw hw4 hh hh3 hmd) gX7_leave_X7_putBlock rfl (n := 3) (by decide +kernel) rfl ⟨⟨rfl, rfl⟩, Nat.le_of_ble_eq_true rfl, Nat.le_of_ble_eq_true rfl⟩ ⟨Nat.le_of_ble_eq_true rfl, Nat.le_of_ble_eq_true rfl⟩ hX hP hD hS rfl [o, nw, ol, ne, ve, ma] rfl rfl (q0 := 0) (ci := 7) rfl rfl rfl hl.1 rfl (Nat.le_of_ble_eq_true rfl) dX7_leave_218 rfl rfl (fun Hp locs hP hD hS => ?_)
              have hP1 : va_P D vwCl [(o, .inr (7, mdF 0 W H mt qu zz nw ol ne se ke nc ns is ik dc sc 3 (md + i) wh fa re ve ps 0 0 di lv 1 0 bd co bt ma)), (nw, .inl (cs 0, 4608, .inl (mnF (lvF gw W md (fun p9 x9 y9 => mft (lokP go p9) (wdt p9 W) (wdt p9 H) (nI x9) (nI y9) (mus wh (V 0) p9) (mus wh (V 1) p9)) i) W (md + i) (fun _ _ => 0) (fun p9 x9 y9 => mft (lokP go p9) (wdt p9 W) (wdt p9 H) (nI x9) (nI y9) (mus wh (V 0) p9) (mus wh (V 1) p9)) 3))), (ol, .inl (cs 0, 4608, .inl go)), (ne, .inl (cs 0, 4608, .inl gn)), (ve, .inl (cs 0, 4, .inl V)), (ps, .inl (cs 0, 3, .inl (fun _ => 1024))), (bd, .inl (cs 1, 2, .inl (du 1 0))), (ma, .inl (cs 0, 64, .inl (fun _ => 0)))] Hp := hP
              have hD : va_D A [(o, .inr (7, mdF 0 W H mt qu zz nw ol ne se ke nc ns is ik dc sc 3 (md + i) wh fa re ve ps 0 0 di lv 1 0 bd co bt ma)), (nw, .inl (cs 0, 4608, .inl (mnF (lvF gw W md (fun p9 x9 y9 => mft (lokP go p9) (wdt p9 W) (wdt p9 H) (nI x9) (nI y9) (mus wh (V 0) p9) (mus wh (V 1) p9)) i) W (md + i) (fun _ _ => 0) (fun p9 x9 y9 => mft (lokP go p9) (wdt p9 W) (wdt p9 H) (nI x9) (nI y9) (mus wh (V 0) p9) (mus wh (V 1) p9)) 3))), (ol, .inl (cs 0, 4608, .inl go)), (ne, .inl (cs 0, 4608, .inl gn)), (ve, .inl (cs 0, 4, .inl V)), (ps, .inl (cs 0, 3, .inl (fun _ => 1024))), (bd, .inl (cs 1, 2, .inl (du 1 0))), (ma, .inl (cs 0, 64, .inl (fun _ => 0)))] := hD
              have hP := hP1
              refine lv_iinc (v := 3) (lv' := [(5, .int 3), (0, .ref o), (1, .int (nI n)), (4, .int (nI i))]) hx hb dX7_leave_221 hl (k := 0) rfl (rfl) (by decide) rfl (fun ls hl => ?_)
              refine lv_goto (tgt := 164) hx hb dX7_leave_224 (by decide) ?_
              refine lv_iload hx hb dX7_leave_164 (lv_at hl 0 rfl) ?_
              refine lv_bipush (v := 6) hx hb dX7_leave_166 (by decide) ?_
              refine lv_icmp_ge (tgt := 227) hx hb dX7_leave_168 (by decide) (fun c_168 => absurd c_168 (by decide)) (fun _ => ?_)
              refine lv_aload_n hx hb dX7_leave_171 rfl (lv_at hl 1 rfl) ?_
              refine lv_iload hx hb dX7_leave_172 (lv_at hl 0 rfl) ?_
              refine lv_aload_n hx hb dX7_leave_174 rfl (lv_at hl 1 rfl) ?_
              refine xget (C := RX7) (T := TX7) (N := 34) hF hX hP (by decide +kernel) 0 17 rfl rfl (by decide) (by decide +kernel) rfl dX7_leave_175 ?_
              refine lv_iconst (v := 2) hx hb dX7_leave_178 (by decide) ?_
              refine lv_icmp_eq (tgt := 191) hx hb dX7_leave_179 (by decide) (fun c_179 => absurd c_179 (by decide)) (fun _ => ?_)
              refine lv_aload_n hx hb dX7_leave_182 rfl (lv_at hl 1 rfl) ?_
              refine xget (C := RX7) (T := TX7) (N := 34) hF hX hP (by decide +kernel) 0 30 rfl rfl (by decide) (by decide +kernel) rfl dX7_leave_183 ?_
              refine lv_iconst (v := 0) hx hb dX7_leave_186 (by decide) ?_
              refine xzald (k := 0) hF hX hP 6 rfl (rfl) (vp_in_nI (n := 0) (by decide) (by decide)) dX7_leave_187 ?_
              refine lv_if_eq (tgt := 195) hx hb dX7_leave_188 (by decide) (fun c_188 => absurd c_188 (by decide)) (fun _ => ?_)
              refine lv_iconst (v := 1) hx hb dX7_leave_191 (by decide) ?_
              refine lv_goto (tgt := 196) hx hb dX7_leave_192 (by decide) ?_
              refine lv_aload_n hx hb dX7_leave_196 rfl (lv_at hl 1 rfl) ?_
              refine xget (C := RX7) (T := TX7) (N := 34) hF hX hP (by decide +kernel) 0 17 rfl rfl (by decide) (by decide +kernel) rfl dX7_leave_197 ?_
              refine lv_iconst (v := 3) hx hb dX7_leave_200 (by decide) ?_
              refine lv_icmp_ne (tgt := 217) hx hb dX7_leave_201 (by decide) (fun c_201 => absurd (by decide) c_201) (fun _ => ?_)
              refine lv_aload_n hx hb dX7_leave_204 rfl (lv_at hl 1 rfl) ?_
              refine xget (C := RX7) (T := TX7) (N := 34) hF hX hP (by decide +kernel) 0 30 rfl rfl (by decide) (by decide +kernel) rfl dX7_leave_205 ?_
              refine lv_iconst (v := 1) hx hb dX7_leave_208 (by decide) ?_
              refine xzald (k := 1) hF hX hP 6 rfl (rfl) (vp_in_nI (n := 1) (by decide) (by decide)) dX7_leave_209 ?_
              refine lv_if_eq (tgt := 217) hx hb dX7_leave_210 (by decide) (fun _ => ?_) (fun c_210 => absurd (by decide) c_210)
              refine lv_iconst (v := 0) hx hb dX7_leave_217 (by decide) ?_
              refine xVM [true, true, true, true, true, false, false, true] (rest := []) (As := [.int 3, .int 1, .int 0]) (ws1 := [(o, .inr (7, mdF 0 W H mt qu zz nw ol ne se ke nc ns is ik dc sc 3 (md + i) wh fa re ve ps 0 0 di lv 1 0 bd co bt ma)), (nw, .inl (cs 0, 4608, .inl (mpB (mnF (lvF gw W md (fun p9 x9 y9 => mft (lokP go p9) (wdt p9 W) (wdt p9 H) (nI x9) (nI y9) (mus wh (V 0) p9) (mus wh (V 1) p9)) i) W (md + i) (fun _ _ => 0) (fun p9 x9 y9 => mft (lokP go p9) (wdt p9 W) (wdt p9 H) (nI x9) (nI y9) (mus wh (V 0) p9) (mus wh (V 1) p9)) 3) W (md + i) 3 (mlF W (md + i) 3 (fun _ => 0) (fun x9 y9 => (mft (lokP go 0) (wdt 0 W) (wdt 0 H) (nI x9) (nI y9) (mus wh (V 0) 0) (mus wh (V 1) 0)))) (64)))), (ol, .inl (cs 0, 4608, .inl go)), (ne, .inl (cs 0, 4608, .inl gn)), (ve, .inl (cs 0, 4, .inl V)), (ps, .inl (cs 0, 3, .inl (fun _ => 1024))), (bd, .inl (cs 1, 2, .inl (du 1 0))), (ma, .inl (cs 0, 64, .inl (fun _ => 0)))]) (st1 := []) hF (c_X7_putBlock3B l D cs tt o mt qu zz nw ol ne se ke re ve ps di lv bd co bt ma W H (md + i) 0 nc ns is ik dc sc wh fa 0 1 0 (mnF (lvF gw W md (fun p9 x9 y9 => mft (lokP go p9) (wdt p9 W) (wdt p9 H) (nI x9) (nI y9) (mus wh (V 0) p9) (mus wh (V 1) p9)) i) W (md + i) (fun _ _ => 0) (fun p9 x9 y9 => mft (lokP go p9) (wdt p9 W) (wdt p9 H) (nI x9) (nI y9) (mus wh (V 0) p9) (mus wh (V 1) p9)) 3) (fun _ => 0) go gn V hw hw4 hh hh3 hmd) gX7_leave_X7_putBlock rfl (n := 3) (by decide +kernel) rfl ⟨⟨rfl, rfl⟩, Nat.le_of_ble_eq_true rfl, Nat.le_of_ble_eq_true rfl⟩ ⟨Nat.le_of_ble_eq_true rfl, Nat.le_of_ble_eq_true rfl⟩ hX hP hD hS rfl [o, nw, ol, ne, ve, ma] rfl rfl (q0 := 0) (ci := 7) rfl rfl rfl hl.1 rfl (Nat.le_of_ble_eq_true rfl) dX7_leave_218 rfl rfl (fun Hp locs hP hD hS => ?_)
              have hP1 : va_P D vwCl [(o, .inr (7, mdF 0 W H mt qu zz nw ol ne se ke nc ns is ik dc sc 3 (md + i) wh fa re ve ps 0 0 di lv 1 0 bd co bt ma)), (nw, .inl (cs 0, 4608, .inl (mnF (lvF gw W md (fun p9 x9 y9 => mft (lokP go p9) (wdt p9 W) (wdt p9 H) (nI x9) (nI y9) (mus wh (V 0) p9) (mus wh (V 1) p9)) i) W (md + i) (fun _ _ => 0) (fun p9 x9 y9 => mft (lokP go p9) (wdt p9 W) (wdt p9 H) (nI x9) (nI y9) (mus wh (V 0) p9) (mus wh (V 1) p9)) 4))), (ol, .inl (cs 0, 4608, .inl go)), (ne, .inl (cs 0, 4608, .inl gn)), (ve, .inl (cs 0, 4, .inl V)), (ps, .inl (cs 0, 3, .inl (fun _ => 1024))), (bd, .inl (cs 1, 2, .inl (du 1 0))), (ma, .inl (cs 0, 64, .inl (fun _ => 0)))] Hp := hP
              have hD : va_D A [(o, .inr (7, mdF 0 W H mt qu zz nw ol ne se ke nc ns is ik dc sc 3 (md + i) wh fa re ve ps 0 0 di lv 1 0 bd co bt ma)), (nw, .inl (cs 0, 4608, .inl (mnF (lvF gw W md (fun p9 x9 y9 => mft (lokP go p9) (wdt p9 W) (wdt p9 H) (nI x9) (nI y9) (mus wh (V 0) p9) (mus wh (V 1) p9)) i) W (md + i) (fun _ _ => 0) (fun p9 x9 y9 => mft (lokP go p9) (wdt p9 W) (wdt p9 H) (nI x9) (nI y9) (mus wh (V 0) p9) (mus wh (V 1) p9)) 4))), (ol, .inl (cs 0, 4608, .inl go)), (ne, .inl (cs 0, 4608, .inl gn)), (ve, .inl (cs 0, 4, .inl V)), (ps, .inl (cs 0, 3, .inl (fun _ => 1024))), (bd, .inl (cs 1, 2, .inl (du 1 0))), (ma, .inl (cs 0, 64, .inl (fun _ => 0)))] := hD
              have hP := hP1
              refine lv_iinc (v := 4) (lv' := [(5, .int 4), (0, .ref o), (1, .int (nI n)), (4, .int (nI i))]) hx hb dX7_leave_221 hl (k := 0) rfl (rfl) (by decide) rfl (fun ls hl => ?_)
              refine lv_goto (tgt := 164) hx hb dX7_leave_224 (by decide) ?_
              refine lv_iload hx hb dX7_leave_164 (lv_at hl 0 rfl) ?_
              refine lv_bipush (v := 6) hx hb dX7_leave_166 (by decide) ?_
              refine lv_icmp_ge (tgt := 227) hx hb dX7_leave_168 (by decide) (fun c_168 => absurd c_168 (by decide)) (fun _ => ?_)
              refine lv_aload_n hx hb dX7_leave_171 rfl (lv_at hl 1 rfl) ?_
              refine lv_iload hx hb dX7_leave_172 (lv_at hl 0 rfl) ?_
              refine lv_aload_n hx hb dX7_leave_174 rfl (lv_at hl 1 rfl) ?_
              refine xget (C := RX7) (T := TX7) (N := 34) hF hX hP (by decide +kernel) 0 17 rfl rfl (by decide) (by decide +kernel) rfl dX7_leave_175 ?_
              refine lv_iconst (v := 2) hx hb dX7_leave_178 (by decide) ?_
              refine lv_icmp_eq (tgt := 191) hx hb dX7_leave_179 (by decide) (fun c_179 => absurd c_179 (by decide)) (fun _ => ?_)
              refine lv_aload_n hx hb dX7_leave_182 rfl (lv_at hl 1 rfl) ?_
              refine xget (C := RX7) (T := TX7) (N := 34) hF hX hP (by decide +kernel) 0 30 rfl rfl (by decide) (by decide +kernel) rfl dX7_leave_183 ?_
              refine lv_iconst (v := 0) hx hb dX7_leave_186 (by decide) ?_
              refine xzald (k := 0) hF hX hP 6 rfl (rfl) (vp_in_nI (n := 0) (by decide) (by decide)) dX7_leave_187 ?_
              refine lv_if_eq (tgt := 195) hx hb dX7_leave_188 (by decide) (fun c_188 => absurd c_188 (by decide)) (fun _ => ?_)
              refine lv_iconst (v := 1) hx hb dX7_leave_191 (by decide) ?_
              refine lv_goto (tgt := 196) hx hb dX7_leave_192 (by decide) ?_
              refine lv_aload_n hx hb dX7_leave_196 rfl (lv_at hl 1 rfl) ?_
              refine xget (C := RX7) (T := TX7) (N := 34) hF hX hP (by decide +kernel) 0 17 rfl rfl (by decide) (by decide +kernel) rfl dX7_leave_197 ?_
              refine lv_iconst (v := 3) hx hb dX7_leave_200 (by decide) ?_
              refine lv_icmp_ne (tgt := 217) hx hb dX7_leave_201 (by decide) (fun c_201 => absurd (by decide) c_201) (fun _ => ?_)
              refine lv_aload_n hx hb dX7_leave_204 rfl (lv_at hl 1 rfl) ?_
              refine xget (C := RX7) (T := TX7) (N := 34) hF hX hP (by decide +kernel) 0 30 rfl rfl (by decide) (by decide +kernel) rfl dX7_leave_205 ?_
              refine lv_iconst (v := 1) hx hb dX7_leave_208 (by decide) ?_
              refine xzald (k := 1) hF hX hP 6 rfl (rfl) (vp_in_nI (n := 1) (by decide) (by decide)) dX7_leave_209 ?_
              refine lv_if_eq (tgt := 217) hx hb dX7_leave_210 (by decide) (fun _ => ?_) (fun c_210 => absurd (by decide) c_210)
              refine lv_iconst (v := 0) hx hb dX7_leave_217 (by decide) ?_
              refine xVM [true, true, true, true, true, false, false, true] (rest := []) (As := [.int 4, .int 1, .int 0]) (ws1 := [(o, .inr (7, mdF 0 W H mt qu zz nw ol ne se ke nc ns is ik dc sc 3 (md + i) wh fa re ve ps 0 0 di lv 1 0 bd co bt ma)), (nw, .inl (cs 0, 4608, .inl (mpB (mnF (lvF gw W md (fun p9 x9 y9 => mft (lokP go p9) (wdt p9 W) (wdt p9 H) (nI x9) (nI y9) (mus wh (V 0) p9) (mus wh (V 1) p9)) i) W (md + i) (fun _ _ => 0) (fun p9 x9 y9 => mft (lokP go p9) (wdt p9 W) (wdt p9 H) (nI x9) (nI y9) (mus wh (V 0) p9) (mus wh (V 1) p9)) 4) W (md + i) 4 (mlF W (md + i) 4 (fun _ => 0) (fun x9 y9 => (mft (lokP go 1) (wdt 1 W) (wdt 1 H) (nI x9) (nI y9) (mus wh (V 0) 1) (mus wh (V 1) 1)))) (64)))), (ol, .inl (cs 0, 4608, .inl go)), (ne, .inl (cs 0, 4608, .inl gn)), (ve, .inl (cs 0, 4, .inl V)), (ps, .inl (cs 0, 3, .inl (fun _ => 1024))), (bd, .inl (cs 1, 2, .inl (du 1 0))), (ma, .inl (cs 0, 64, .inl (fun _ => 0)))]) (st1 := []) hF (c_X7_putBlock4B l D cs tt o mt qu zz nw ol ne se ke re ve ps di lv bd co bt ma W H (md + i) 0 nc ns is ik dc sc wh fa 0 1 0 (mnF (lvF gw W md (fun p9 x9 y9 => mft (lokP go p9) (wdt p9 W) (wdt p9 H) (nI x9) (nI y9) (mus wh (V 0) p9) (mus wh (V 1) p9)) i) W (md + i) (fun _ _ => 0) (fun p9 x9 y9 => mft (lokP go p9) (wdt p9 W) (wdt p9 H) (nI x9) (nI y9) (mus wh (V 0) p9) (mus wh (V 1) p9)) 4) (fun _ => 0) go gn V hw hw4 hh hh3 hmd) gX7_leave_X7_putBlock rfl (n := 3) (by decide +kernel) rfl ⟨⟨rfl, rfl⟩, Nat.le_of_ble_eq_true rfl, Nat.le_of_ble_eq_true rfl⟩ ⟨Nat.le_of_ble_eq_true rfl, Nat.le_of_ble_eq_true rfl⟩ hX hP hD hS rfl [o, nw, ol, ne, ve, ma] rfl rfl (q0 := 0) (ci := 7) rfl rfl rfl hl.1 rfl (Nat.le_of_ble_eq_true rfl) dX7_leave_218 rfl rfl (fun Hp locs hP hD hS => ?_)
              have hP1 : va_P D vwCl [(o, .inr (7, mdF 0 W H mt qu zz nw ol ne se ke nc ns is ik dc sc 3 (md + i) wh fa re ve ps 0 0 di lv 1 0 bd co bt ma)), (nw, .inl (cs 0, 4608, .inl (mnF (lvF gw W md (fun p9 x9 y9 => mft (lokP go p9) (wdt p9 W) (wdt p9 H) (nI x9) (nI y9) (mus wh (V 0) p9) (mus wh (V 1) p9)) i) W (md + i) (fun _ _ => 0) (fun p9 x9 y9 => mft (lokP go p9) (wdt p9 W) (wdt p9 H) (nI x9) (nI y9) (mus wh (V 0) p9) (mus wh (V 1) p9)) 5))), (ol, .inl (cs 0, 4608, .inl go)), (ne, .inl (cs 0, 4608, .inl gn)), (ve, .inl (cs 0, 4, .inl V)), (ps, .inl (cs 0, 3, .inl (fun _ => 1024))), (bd, .inl (cs 1, 2, .inl (du 1 0))), (ma, .inl (cs 0, 64, .inl (fun _ => 0)))] Hp := hP
              have hD : va_D A [(o, .inr (7, mdF 0 W H mt qu zz nw ol ne se ke nc ns is ik dc sc 3 (md + i) wh fa re ve ps 0 0 di lv 1 0 bd co bt ma)), (nw, .inl (cs 0, 4608, .inl (mnF (lvF gw W md (fun p9 x9 y9 => mft (lokP go p9) (wdt p9 W) (wdt p9 H) (nI x9) (nI y9) (mus wh (V 0) p9) (mus wh (V 1) p9)) i) W (md + i) (fun _ _ => 0) (fun p9 x9 y9 => mft (lokP go p9) (wdt p9 W) (wdt p9 H) (nI x9) (nI y9) (mus wh (V 0) p9) (mus wh (V 1) p9)) 5))), (ol, .inl (cs 0, 4608, .inl go)), (ne, .inl (cs 0, 4608, .inl gn)), (ve, .inl (cs 0, 4, .inl V)), (ps, .inl (cs 0, 3, .inl (fun _ => 1024))), (bd, .inl (cs 1, 2, .inl (du 1 0))), (ma, .inl (cs 0, 64, .inl (fun _ => 0)))] := hD
              have hP := hP1
              refine lv_iinc (v := 5) (lv' := [(5, .int 5), (0, .ref o), (1, .int (nI n)), (4, .int (nI i))]) hx hb dX7_leave_221 hl (k := 0) rfl (rfl) (by decide) rfl (fun ls hl => ?_)
              refine lv_goto (tgt := 164) hx hb dX7_leave_224 (by decide) ?_
              refine lv_iload hx hb dX7_leave_164 (lv_at hl 0 rfl) ?_
              refine lv_bipush (v := 6) hx hb dX7_leave_166 (by decide) ?_
              refine lv_icmp_ge (tgt := 227) hx hb dX7_leave_168 (by decide) (fun c_168 => absurd c_168 (by decide)) (fun _ => ?_)
              refine lv_aload_n hx hb dX7_leave_171 rfl (lv_at hl 1 rfl) ?_
              refine lv_iload hx hb dX7_leave_172 (lv_at hl 0 rfl) ?_
              refine lv_aload_n hx hb dX7_leave_174 rfl (lv_at hl 1 rfl) ?_
              refine xget (C := RX7) (T := TX7) (N := 34) hF hX hP (by decide +kernel) 0 17 rfl rfl (by decide) (by decide +kernel) rfl dX7_leave_175 ?_
              refine lv_iconst (v := 2) hx hb dX7_leave_178 (by decide) ?_
              refine lv_icmp_eq (tgt := 191) hx hb dX7_leave_179 (by decide) (fun c_179 => absurd c_179 (by decide)) (fun _ => ?_)
              refine lv_aload_n hx hb dX7_leave_182 rfl (lv_at hl 1 rfl) ?_
              refine xget (C := RX7) (T := TX7) (N := 34) hF hX hP (by decide +kernel) 0 30 rfl rfl (by decide) (by decide +kernel) rfl dX7_leave_183 ?_
              refine lv_iconst (v := 0) hx hb dX7_leave_186 (by decide) ?_
              refine xzald (k := 0) hF hX hP 6 rfl (rfl) (vp_in_nI (n := 0) (by decide) (by decide)) dX7_leave_187 ?_
              refine lv_if_eq (tgt := 195) hx hb dX7_leave_188 (by decide) (fun c_188 => absurd c_188 (by decide)) (fun _ => ?_)
              refine lv_iconst (v := 1) hx hb dX7_leave_191 (by decide) ?_
              refine lv_goto (tgt := 196) hx hb dX7_leave_192 (by decide) ?_
              refine lv_aload_n hx hb dX7_leave_196 rfl (lv_at hl 1 rfl) ?_
              refine xget (C := RX7) (T := TX7) (N := 34) hF hX hP (by decide +kernel) 0 17 rfl rfl (by decide) (by decide +kernel) rfl dX7_leave_197 ?_
              refine lv_iconst (v := 3) hx hb dX7_leave_200 (by decide) ?_
              refine lv_icmp_ne (tgt := 217) hx hb dX7_leave_201 (by decide) (fun c_201 => absurd (by decide) c_201) (fun _ => ?_)
              refine lv_aload_n hx hb dX7_leave_204 rfl (lv_at hl 1 rfl) ?_
              refine xget (C := RX7) (T := TX7) (N := 34) hF hX hP (by decide +kernel) 0 30 rfl rfl (by decide) (by decide +kernel) rfl dX7_leave_205 ?_
              refine lv_iconst (v := 1) hx hb dX7_leave_208 (by decide) ?_
              refine xzald (k := 1) hF hX hP 6 rfl (rfl) (vp_in_nI (n := 1) (by decide) (by decide)) dX7_leave_209 ?_
              refine lv_if_eq (tgt := 217) hx hb dX7_leave_210 (by decide) (fun _ => ?_) (fun c_210 => absurd (by decide) c_210)
              refine lv_iconst (v := 0) hx hb dX7_leave_217 (by decide) ?_
              refine xVM [true, true, true, true, true, false, false, true] (rest := []) (As := [.int 5, .int 1, .int 0]) (ws1 := [(o, .inr (7, mdF 0 W H mt qu zz nw ol ne se ke nc ns is ik dc sc 3 (md + i) wh fa re ve ps 0 0 di lv 1 0 bd co bt ma)), (nw, .inl (cs 0, 4608, .inl (mpB (mnF (lvF gw W md (fun p9 x9 y9 => mft (lokP go p9) (wdt p9 W) (wdt p9 H) (nI x9) (nI y9) (mus wh (V 0) p9) (mus wh (V 1) p9)) i) W (md + i) (fun _ _ => 0) (fun p9 x9 y9 => mft (lokP go p9) (wdt p9 W) (wdt p9 H) (nI x9) (nI y9) (mus wh (V 0) p9) (mus wh (V 1) p9)) 5) W (md + i) 5 (mlF W (md + i) 5 (fun _ => 0) (fun x9 y9 => (mft (lokP go 2) (wdt 2 W) (wdt 2 H) (nI x9) (nI y9) (mus wh (V 0) 2) (mus wh (V 1) 2)))) (64)))), (ol, .inl (cs 0, 4608, .inl go)), (ne, .inl (cs 0, 4608, .inl gn)), (ve, .inl (cs 0, 4, .inl V)), (ps, .inl (cs 0, 3, .inl (fun _ => 1024))), (bd, .inl (cs 1, 2, .inl (du 1 0))), (ma, .inl (cs 0, 64, .inl (fun _ => 0)))]) (st1 := []) hF (c_X7_putBlock5B l D cs tt o mt qu zz nw ol ne se ke re ve ps di lv bd co bt ma W H (md + i) 0 nc ns is ik dc sc wh fa 0 1 0 (mnF (lvF gw W md (fun p9 x9 y9 => mft (lokP go p9) (wdt p9 W) (wdt p9 H) (nI x9) (nI y9) (mus wh (V 0) p9) (mus wh (V 1) p9)) i) W (md + i) (fun _ _ => 0) (fun p9 x9 y9 => mft (lokP go p9) (wdt p9 W) (wdt p9 H) (nI x9) (nI y9) (mus wh (V 0) p9) (mus wh (V 1) p9)) 5) (fun _ => 0) go gn V hw hw4 hh hh3 hmd) gX7_leave_X7_putBlock rfl (n := 3) (by decide +kernel) rfl ⟨⟨rfl, rfl⟩, Nat.le_of_ble_eq_true rfl, Nat.le_of_ble_eq_true rfl⟩ ⟨Nat.le_of_ble_eq_true rfl, Nat.le_of_ble_eq_true rfl⟩ hX hP hD hS rfl [o, nw, ol, ne, ve, ma] rfl rfl (q0 := 0) (ci := 7) rfl rfl rfl hl.1 rfl (Nat.le_of_ble_eq_true rfl) dX7_leave_218 rfl rfl (fun Hp locs hP hD hS => ?_)
              have hP1 : va_P D vwCl [(o, .inr (7, mdF 0 W H mt qu zz nw ol ne se ke nc ns is ik dc sc 3 (md + i) wh fa re ve ps 0 0 di lv 1 0 bd co bt ma)), (nw, .inl (cs 0, 4608, .inl (mnF (lvF gw W md (fun p9 x9 y9 => mft (lokP go p9) (wdt p9 W) (wdt p9 H) (nI x9) (nI y9) (mus wh (V 0) p9) (mus wh (V 1) p9)) i) W (md + i) (fun _ _ => 0) (fun p9 x9 y9 => mft (lokP go p9) (wdt p9 W) (wdt p9 H) (nI x9) (nI y9) (mus wh (V 0) p9) (mus wh (V 1) p9)) 6))), (ol, .inl (cs 0, 4608, .inl go)), (ne, .inl (cs 0, 4608, .inl gn)), (ve, .inl (cs 0, 4, .inl V)), (ps, .inl (cs 0, 3, .inl (fun _ => 1024))), (bd, .inl (cs 1, 2, .inl (du 1 0))), (ma, .inl (cs 0, 64, .inl (fun _ => 0)))] Hp := hP
              have hD : va_D A [(o, .inr (7, mdF 0 W H mt qu zz nw ol ne se ke nc ns is ik dc sc 3 (md + i) wh fa re ve ps 0 0 di lv 1 0 bd co bt ma)), (nw, .inl (cs 0, 4608, .inl (mnF (lvF gw W md (fun p9 x9 y9 => mft (lokP go p9) (wdt p9 W) (wdt p9 H) (nI x9) (nI y9) (mus wh (V 0) p9) (mus wh (V 1) p9)) i) W (md + i) (fun _ _ => 0) (fun p9 x9 y9 => mft (lokP go p9) (wdt p9 W) (wdt p9 H) (nI x9) (nI y9) (mus wh (V 0) p9) (mus wh (V 1) p9)) 6))), (ol, .inl (cs 0, 4608, .inl go)), (ne, .inl (cs 0, 4608, .inl gn)), (ve, .inl (cs 0, 4, .inl V)), (ps, .inl (cs 0, 3, .inl (fun _ => 1024))), (bd, .inl (cs 1, 2, .inl (du 1 0))), (ma, .inl (cs 0, 64, .inl (fun _ => 0)))] := hD
              have hP := hP1
              refine lv_iinc (v := 6) (lv' := [(5, .int 6), (0, .ref o), (1, .int (nI n)), (4, .int (nI i))]) hx hb dX7_leave_221 hl (k := 0) rfl (rfl) (by decide) rfl (fun ls hl => ?_)
              refine lv_goto (tgt := 164) hx hb dX7_leave_224 (by decide) ?_
              refine lv_iload hx hb dX7_leave_164 (lv_at hl 0 rfl) ?_
              refine lv_bipush (v := 6) hx hb dX7_leave_166 (by decide) ?_
              refine lv_icmp_ge (tgt := 227) hx hb dX7_leave_168 (by decide) (fun _ => ?_) (fun c_168 => absurd (by decide) c_168)
              have hP1 : va_P D vwCl [(o, .inr (7, mdF 0 W H mt qu zz nw ol ne se ke nc ns is ik dc sc 3 (md + i) wh fa re ve ps 0 0 di lv 1 0 bd co bt ma)), (nw, .inl (cs 0, 4608, .inl (lvF gw W md (fun p9 x9 y9 => mft (lokP go p9) (wdt p9 W) (wdt p9 H) (nI x9) (nI y9) (mus wh (V 0) p9) (mus wh (V 1) p9)) (i + 1)))), (ol, .inl (cs 0, 4608, .inl go)), (ne, .inl (cs 0, 4608, .inl gn)), (ve, .inl (cs 0, 4, .inl V)), (ps, .inl (cs 0, 3, .inl (fun _ => 1024))), (bd, .inl (cs 1, 2, .inl (du 1 0))), (ma, .inl (cs 0, 64, .inl (fun _ => 0)))] Hp := hP
              have hD : va_D A [(o, .inr (7, mdF 0 W H mt qu zz nw ol ne se ke nc ns is ik dc sc 3 (md + i) wh fa re ve ps 0 0 di lv 1 0 bd co bt ma)), (nw, .inl (cs 0, 4608, .inl (lvF gw W md (fun p9 x9 y9 => mft (lokP go p9) (wdt p9 W) (wdt p9 H) (nI x9) (nI y9) (mus wh (V 0) p9) (mus wh (V 1) p9)) (i + 1)))), (ol, .inl (cs 0, 4608, .inl go)), (ne, .inl (cs 0, 4608, .inl gn)), (ve, .inl (cs 0, 4, .inl V)), (ps, .inl (cs 0, 3, .inl (fun _ => 1024))), (bd, .inl (cs 1, 2, .inl (du 1 0))), (ma, .inl (cs 0, 64, .inl (fun _ => 0)))] := hD
              have hP := hP1
              refine lv_aload_n hx hb dX7_leave_227 rfl (lv_at hl 1 rfl) ?_
              refine lv_dup hx hb dX7_leave_228 rfl ?_
              refine xget (C := RX7) (T := TX7) (N := 34) hF hX hP (by decide +kernel) 0 18 rfl rfl (by decide) (by decide +kernel) rfl dX7_leave_229 ?_
              refine lv_iconst (v := 1) hx hb dX7_leave_232 (by decide) ?_
              refine lv_iadd hx hb dX7_leave_233 ?_
              refine xrwi (z := nI (md + (i + 1))) (nI_1 (md + i)) ?_
              refine xputf (C := RX7) (T := TX7) (N := 34) (ws1 := [(o, .inr (7, mdF 0 W H mt qu zz nw ol ne se ke nc ns is ik dc sc 3 (md + (i + 1)) wh fa re ve ps 0 0 di lv 1 0 bd co bt ma)), (nw, .inl (cs 0, 4608, .inl (lvF gw W md (fun p9 x9 y9 => mft (lokP go p9) (wdt p9 W) (wdt p9 H) (nI x9) (nI y9) (mus wh (V 0) p9) (mus wh (V 1) p9)) (i + 1)))), (ol, .inl (cs 0, 4608, .inl go)), (ne, .inl (cs 0, 4608, .inl gn)), (ve, .inl (cs 0, 4, .inl V)), (ps, .inl (cs 0, 3, .inl (fun _ => 1024))), (bd, .inl (cs 1, 2, .inl (du 1 0))), (ma, .inl (cs 0, 64, .inl (fun _ => 0)))]) hF hX hP hD hS (by decide +kernel) tyX7 tyX7_ok nmX7 0 18 rfl rfl (by decide) (by decide +kernel) rfl (rfl) (rfl) (Nat.le_of_ble_eq_true rfl) dX7_leave_234 rfl (fun Hp locs hP hD hS => ?_)
              refine lv_iinc (v := (nI (i + 1))) (lv' := [(4, .int (nI (i + 1))), (5, .int 6), (0, .ref o), (1, .int (nI n))]) hx hb dX7_leave_237 hl (k := 3) rfl (nI_1 i) (by decide) rfl (fun ls hl => ?_)
              refine lv_goto (tgt := 155) hx hb dX7_leave_240 (by decide) ?_
              exact ih_155 (i + 1) (by omega) (by omega) _ _ _ hP hD hS (lv_sub hl [2, 3, 0] rfl)
        exact loop_155 (n - 0 + 1) 0 (Nat.lt_succ_self _) (by omega) _ _ _ hP hD hS (lv_sub hl [1, 2, 0] rfl)
      · have hlt : k4 < 64 := nInle (a := 64) (b := k4) rfl rfl (by decide) (by omega) c_135
        refine lv_aload_n hx hb dX7_leave_138 rfl (lv_at hl 0 rfl) ?_
        refine xget (C := RX7) (T := TX7) (N := 34) hF hX hP (by decide +kernel) 0 33 rfl rfl (by decide) (by decide +kernel) rfl dX7_leave_139 ?_
        refine lv_iload hx hb dX7_leave_142 (lv_at hl 2 rfl) ?_
        refine lv_iconst (v := 0) hx hb dX7_leave_144 (by decide) ?_
        refine xast (k := k4) (ws1 := [(o, .inr (7, mdF 0 W H mt qu zz nw ol ne se ke nc ns is ik dc sc 3 md wh fa re ve ps 0 0 di lv 1 0 bd co bt ma)), (nw, .inl (cs 0, 4608, .inl gw)), (ol, .inl (cs 0, 4608, .inl go)), (ne, .inl (cs 0, 4608, .inl gn)), (ve, .inl (cs 0, 4, .inl V)), (ps, .inl (cs 0, 3, .inl (fun _ => 1024))), (bd, .inl (cs 1, 2, .inl (du 1 0))), (ma, .inl (cs 0, 64, .inl (filTo mf 0 (k4 + 1))))]) hF hX hP hD hS 7 rfl (nI_clamp (by omega)) (vp_in_nI (by omega) (by decide)) dX7_leave_145 (congrArg (fun z9 => ([(o, .inr (7, mdF 0 W H mt qu zz nw ol ne se ke nc ns is ik dc sc 3 md wh fa re ve ps 0 0 di lv 1 0 bd co bt ma)), (nw, .inl (cs 0, 4608, .inl gw)), (ol, .inl (cs 0, 4608, .inl go)), (ne, .inl (cs 0, 4608, .inl gn)), (ve, .inl (cs 0, 4, .inl V)), (ps, .inl (cs 0, 3, .inl (fun _ => 1024))), (bd, .inl (cs 1, 2, .inl (du 1 0))), (ma, .inl (cs 0, 64, .inl z9))] : va_W)) (filTo_s mf 0 k4)) (fun Hp locs hP hD hS => ?_)
        refine lv_iinc (v := (nI (k4 + 1))) (lv' := [(4, .int (nI (k4 + 1))), (0, .ref o), (1, .int (nI n))]) hx hb dX7_leave_146 hl (k := 2) rfl (nI_1 k4) (by decide) rfl (fun ls hl => ?_)
        refine lv_goto (tgt := 131) hx hb dX7_leave_149 (by decide) ?_
        exact ih_131 (k4 + 1) (by omega) (by omega) _ _ _ hP hD hS (lv_sub hl [1, 2, 0] rfl)
  have hP := xeqP hP (congrArg (fun z9 => ([(o, .inr (7, mdF 0 W H mt qu zz nw ol ne se ke nc ns is ik dc sc 3 md wh fa re ve ps 0 0 di lv 1 0 bd co bt ma)), (nw, .inl (cs 0, 4608, .inl gw)), (ol, .inl (cs 0, 4608, .inl go)), (ne, .inl (cs 0, 4608, .inl gn)), (ve, .inl (cs 0, 4, .inl V)), (ps, .inl (cs 0, 3, .inl (fun _ => 1024))), (bd, .inl (cs 1, 2, .inl (du 1 0))), (ma, .inl (cs 0, 64, .inl z9))] : va_W)) ((show mf = filTo mf 0 0 from funext (fun j => by simp [filTo]))))
  have hD := xeqD hD (congrArg (fun z9 => ([(o, .inr (7, mdF 0 W H mt qu zz nw ol ne se ke nc ns is ik dc sc 3 md wh fa re ve ps 0 0 di lv 1 0 bd co bt ma)), (nw, .inl (cs 0, 4608, .inl gw)), (ol, .inl (cs 0, 4608, .inl go)), (ne, .inl (cs 0, 4608, .inl gn)), (ve, .inl (cs 0, 4, .inl V)), (ps, .inl (cs 0, 3, .inl (fun _ => 1024))), (bd, .inl (cs 1, 2, .inl (du 1 0))), (ma, .inl (cs 0, 64, .inl z9))] : va_W)) ((show mf = filTo mf 0 0 from funext (fun j => by simp [filTo]))))
  exact loop_131 (64 - 0 + 1) 0 (Nat.lt_succ_self _) (by decide) _ _ _ hP hD hS (lv_sub hl [3, 4, 0] rfl)

set_option maxHeartbeats 4000000 in
set_option maxRecDepth 100000 in
theorem c_X7_leave_C (l : Launch) (D : va_G) (cs : Nat → ClassId) (tt : Nat → Nat) (o mt qu zz nw ol ne se ke re ve ps di lv bd co bt ma W H md : Nat) (th nc ns is ik dc sc wh fa : Int32) (n : Nat) (gw go gn V P mf : Nat → Int32) (hw : 1 ≤ W) (hw4 : W ≤ 4) (hh : 1 ≤ H) (hh3 : H ≤ 3) (hn1 : 1 ≤ n) (hn2 : n ≤ W * H - md) (hm : md ≤ W * H) : xM l yX7_leave wsX7_leave ({ frames := 5, cells := 0, slots := 0, locals := 133 } : Room) D cs tt [.ref o, .int (nI n)] [(o, .inr (7, mdF th W H mt qu zz nw ol ne se ke nc ns is ik dc sc 3 md wh fa re ve ps 0 0 di lv 1 0 bd co bt ma)), (nw, .inl (cs 0, 4608, .inl gw)), (ol, .inl (cs 0, 4608, .inl go)), (ne, .inl (cs 0, 4608, .inl gn)), (ve, .inl (cs 0, 4, .inl V)), (ps, .inl (cs 0, 3, .inl P)), (bd, .inl (cs 1, 2, .inl (du 0 1))), (ma, .inl (cs 0, 64, .inl mf))] (some (.int (nI (md + n)))) [(o, .inr (7, mdF 0 W H mt qu zz nw ol ne se ke nc ns is ik dc sc 3 (md + n) wh fa re ve ps 0 0 di lv 1 0 bd co bt ma)), (nw, .inl (cs 0, 4608, .inl (lvF gw W md (fun p9 x9 y9 => mft (lokP gn p9) (wdt p9 W) (wdt p9 H) (nI x9) (nI y9) (mus wh (V 2) p9) (mus wh (V 3) p9)) n))), (ol, .inl (cs 0, 4608, .inl go)), (ne, .inl (cs 0, 4608, .inl gn)), (ve, .inl (cs 0, 4, .inl V)), (ps, .inl (cs 0, 3, .inl (fun _ => 1024))), (bd, .inl (cs 1, 2, .inl (du 0 1))), (ma, .inl (cs 0, 64, .inl (fun _ => 0)))] := by
  refine xM.of RX7 rfl (by decide) rfl (Nat.le_of_ble_eq_true rfl) ?_
  intro p e s m below meth c A ls hF hr hlk hX hP hD hS hl
  have hx := hF.1
  have hb := hF.2.1
  have hl : lv_has ls 6 [(0, .ref o), (1, .int (nI n))] := hl
  have hWH : W * H ≤ 12 := Nat.mul_le_mul hw4 hh3
  refine lv_aload_n hx hb dX7_leave_0 rfl (lv_at hl 0 rfl) ?_
  refine xget (C := RX7) (T := TX7) (N := 34) hF hX hP (by decide +kernel) 0 17 rfl rfl (by decide) (by decide +kernel) rfl dX7_leave_1 ?_
  refine lv_if_ne (tgt := 11) hx hb dX7_leave_4 (by decide) (fun _ => ?_) (fun c_4 => absurd c_4 (by decide))
  refine lv_aload_n hx hb dX7_leave_11 rfl (lv_at hl 0 rfl) ?_
  refine xget (C := RX7) (T := TX7) (N := 34) hF hX hP (by decide +kernel) 0 1 rfl rfl (by decide) (by decide +kernel) rfl dX7_leave_12 ?_
  refine lv_aload_n hx hb dX7_leave_15 rfl (lv_at hl 0 rfl) ?_
  refine xget (C := RX7) (T := TX7) (N := 34) hF hX hP (by decide +kernel) 0 2 rfl rfl (by decide) (by decide +kernel) rfl dX7_leave_16 ?_
  refine lv_imul hx hb dX7_leave_19 ?_
  refine lv_aload_n hx hb dX7_leave_20 rfl (lv_at hl 0 rfl) ?_
  refine xget (C := RX7) (T := TX7) (N := 34) hF hX hP (by decide +kernel) 0 18 rfl rfl (by decide) (by decide +kernel) rfl dX7_leave_21 ?_
  refine lv_isub hx hb dX7_leave_24 ?_
  refine xrwi (z := nI (W * H - md)) (by rw [pk_mul, pk_sub (by omega)]) ?_
  refine lv_istore_n (lv' := [(2, .int (nI (W * H - md))), (0, .ref o), (1, .int (nI n))]) hx hb dX7_leave_25 rfl hl (by decide) rfl (fun ls hl => ?_)
  refine lv_aload_n hx hb dX7_leave_26 rfl (lv_at hl 1 rfl) ?_
  refine xget (C := RX7) (T := TX7) (N := 34) hF hX hP (by decide +kernel) 0 17 rfl rfl (by decide) (by decide +kernel) rfl dX7_leave_27 ?_
  refine lv_iconst (v := 3) hx hb dX7_leave_30 (by decide) ?_
  refine lv_icmp_ne (tgt := 52) hx hb dX7_leave_31 (by decide) (fun c_31 => absurd (by decide) c_31) (fun _ => ?_)
  refine lv_aload_n hx hb dX7_leave_34 rfl (lv_at hl 1 rfl) ?_
  refine xget (C := RX7) (T := TX7) (N := 34) hF hX hP (by decide +kernel) 0 28 rfl rfl (by decide) (by decide +kernel) rfl dX7_leave_35 ?_
  refine lv_if_eq (tgt := 48) hx hb dX7_leave_38 (by decide) (fun c_38 => absurd c_38 (by decide)) (fun _ => ?_)
  refine lv_aload_n hx hb dX7_leave_41 rfl (lv_at hl 1 rfl) ?_
  refine xget (C := RX7) (T := TX7) (N := 34) hF hX hP (by decide +kernel) 0 29 rfl rfl (by decide) (by decide +kernel) rfl dX7_leave_42 ?_
  refine lv_if_eq (tgt := 52) hx hb dX7_leave_45 (by decide) (fun _ => ?_) (fun c_45 => absurd (by decide) c_45)
  refine lv_iconst (v := 0) hx hb dX7_leave_52 (by decide) ?_
  refine lv_istore_n (lv' := [(3, .int 0), (2, .int (nI (W * H - md))), (0, .ref o), (1, .int (nI n))]) hx hb dX7_leave_53 rfl hl (by decide) rfl (fun ls hl => ?_)
  refine lv_aload_n hx hb dX7_leave_54 rfl (lv_at hl 2 rfl) ?_
  refine lv_iload_n hx hb dX7_leave_55 rfl (lv_at hl 3 rfl) ?_
  refine lv_iconst (v := 1) hx hb dX7_leave_56 (by decide) ?_
  refine lv_icmp_lt (tgt := 65) hx hb dX7_leave_57 (by decide) (fun c_57 => absurd c_57 (nI_nlt (b := 1) hn1 (by omega))) (fun _ => ?_)
  refine lv_iload_n hx hb dX7_leave_60 rfl (lv_at hl 3 rfl) ?_
  refine lv_iload_n hx hb dX7_leave_61 rfl (lv_at hl 1 rfl) ?_
  refine lv_icmp_le (tgt := 69) hx hb dX7_leave_62 (by decide) (fun _ => ?_) (fun c_62 => absurd (nI_le hn2 (by omega)) c_62)
  refine lv_aload_n hx hb dX7_leave_69 rfl (lv_at hl 2 rfl) ?_
  refine xget (C := RX7) (T := TX7) (N := 34) hF hX hP (by decide +kernel) 0 17 rfl rfl (by decide) (by decide +kernel) rfl dX7_leave_70 ?_
  refine lv_if_eq (tgt := 95) hx hb dX7_leave_73 (by decide) (fun c_73 => absurd c_73 (by decide)) (fun _ => ?_)
  refine lv_aload_n hx hb dX7_leave_76 rfl (lv_at hl 2 rfl) ?_
  refine xget (C := RX7) (T := TX7) (N := 34) hF hX hP (by decide +kernel) 0 17 rfl rfl (by decide) (by decide +kernel) rfl dX7_leave_77 ?_
  refine lv_iconst (v := 1) hx hb dX7_leave_80 (by decide) ?_
  refine lv_icmp_eq (tgt := 95) hx hb dX7_leave_81 (by decide) (fun c_81 => absurd c_81 (by decide)) (fun _ => ?_)
  refine lv_aload_n hx hb dX7_leave_84 rfl (lv_at hl 2 rfl) ?_
  refine xget (C := RX7) (T := TX7) (N := 34) hF hX hP (by decide +kernel) 0 25 rfl rfl (by decide) (by decide +kernel) rfl dX7_leave_85 ?_
  refine lv_if_ne (tgt := 95) hx hb dX7_leave_88 (by decide) (fun c_88 => absurd (by decide) c_88) (fun _ => ?_)
  refine lv_iload_n hx hb dX7_leave_91 rfl (lv_at hl 0 rfl) ?_
  refine lv_if_eq (tgt := 99) hx hb dX7_leave_92 (by decide) (fun _ => ?_) (fun c_92 => absurd (by decide) c_92)
  refine lv_iconst (v := 0) hx hb dX7_leave_99 (by decide) ?_
  refine xputf (C := RX7) (T := TX7) (N := 34) (ws1 := [(o, .inr (7, mdF 0 W H mt qu zz nw ol ne se ke nc ns is ik dc sc 3 md wh fa re ve ps 0 0 di lv 1 0 bd co bt ma)), (nw, .inl (cs 0, 4608, .inl gw)), (ol, .inl (cs 0, 4608, .inl go)), (ne, .inl (cs 0, 4608, .inl gn)), (ve, .inl (cs 0, 4, .inl V)), (ps, .inl (cs 0, 3, .inl P)), (bd, .inl (cs 1, 2, .inl (du 0 1))), (ma, .inl (cs 0, 64, .inl mf))]) hF hX hP hD hS (by decide +kernel) tyX7 tyX7_ok nmX7 0 0 rfl rfl (by decide) (by decide +kernel) rfl (rfl) (rfl) (Nat.le_of_ble_eq_true rfl) dX7_leave_100 rfl (fun Hp locs hP hD hS => ?_)
  refine lv_aload_n hx hb dX7_leave_103 rfl (lv_at hl 2 rfl) ?_
  refine xget (C := RX7) (T := TX7) (N := 34) hF hX hP (by decide +kernel) 0 0 rfl rfl (by decide) (by decide +kernel) rfl dX7_leave_104 ?_
  refine lv_if_le (tgt := 112) hx hb dX7_leave_107 (by decide) (fun _ => ?_) (fun c_107 => absurd (by decide) c_107)
  refine lv_aload_n hx hb dX7_leave_112 rfl (lv_at hl 2 rfl) ?_
  refine xget (C := RX7) (T := TX7) (N := 34) hF hX hP (by decide +kernel) 0 17 rfl rfl (by decide) (by decide +kernel) rfl dX7_leave_113 ?_
  refine lv_iconst (v := 2) hx hb dX7_leave_116 (by decide) ?_
  refine lv_icmp_ne (tgt := 124) hx hb dX7_leave_117 (by decide) (fun _ => ?_) (fun c_117 => absurd c_117 (by decide))
  refine lv_aload_n hx hb dX7_leave_124 rfl (lv_at hl 2 rfl) ?_
  refine xVM [true, false, false, false, false, true, false, false] (rest := []) (As := []) (ws1 := [(o, .inr (7, mdF 0 W H mt qu zz nw ol ne se ke nc ns is ik dc sc 3 md wh fa re ve ps 0 0 di lv 1 0 bd co bt ma)), (nw, .inl (cs 0, 4608, .inl gw)), (ol, .inl (cs 0, 4608, .inl go)), (ne, .inl (cs 0, 4608, .inl gn)), (ve, .inl (cs 0, 4, .inl V)), (ps, .inl (cs 0, 3, .inl (fun _ => 1024))), (bd, .inl (cs 1, 2, .inl (du 0 1))), (ma, .inl (cs 0, 64, .inl mf))]) (st1 := []) hF (c_X7_clearPasts l D cs tt o mt qu zz nw ol ne se ke re ve ps di lv bd co bt ma W H md 0 nc ns is ik dc sc 3 wh fa 0 0 1 0 P) gX7_leave_X7_clearPasts rfl (n := 0) (by decide +kernel) rfl ⟨⟨rfl, rfl⟩, Nat.le_of_ble_eq_true rfl, Nat.le_of_ble_eq_true rfl⟩ ⟨Nat.le_of_ble_eq_true rfl, Nat.le_of_ble_eq_true rfl⟩ hX hP hD hS rfl [o, ps] rfl rfl (q0 := 0) (ci := 7) rfl rfl rfl hl.1 rfl (Nat.le_of_ble_eq_true rfl) dX7_leave_125 rfl rfl (fun Hp locs hP hD hS => ?_)
  refine lv_iconst (v := 0) hx hb dX7_leave_128 (by decide) ?_
  refine lv_istore (lv' := [(4, .int 0), (3, .int 0), (2, .int (nI (W * H - md))), (0, .ref o), (1, .int (nI n))]) hx hb dX7_leave_129 hl (by decide) rfl (fun ls hl => ?_)
  have loop_131 : ∀ (k131 : Nat) (k4 : Nat), 64 - k4 < k131 → k4 ≤ 64 → ∀ (Hp : Heap) (locs : List Loc) (ls : Array Slot), va_P D vwCl [(o, .inr (7, mdF 0 W H mt qu zz nw ol ne se ke nc ns is ik dc sc 3 md wh fa re ve ps 0 0 di lv 1 0 bd co bt ma)), (nw, .inl (cs 0, 4608, .inl gw)), (ol, .inl (cs 0, 4608, .inl go)), (ne, .inl (cs 0, 4608, .inl gn)), (ve, .inl (cs 0, 4, .inl V)), (ps, .inl (cs 0, 3, .inl (fun _ => 1024))), (bd, .inl (cs 1, 2, .inl (du 0 1))), (ma, .inl (cs 0, 64, .inl (filTo mf 0 k4)))] Hp → va_D A [(o, .inr (7, mdF 0 W H mt qu zz nw ol ne se ke nc ns is ik dc sc 3 md wh fa re ve ps 0 0 di lv 1 0 bd co bt ma)), (nw, .inl (cs 0, 4608, .inl gw)), (ol, .inl (cs 0, 4608, .inl go)), (ne, .inl (cs 0, 4608, .inl gn)), (ve, .inl (cs 0, 4, .inl V)), (ps, .inl (cs 0, 3, .inl (fun _ => 1024))), (bd, .inl (cs 1, 2, .inl (du 0 1))), (ma, .inl (cs 0, 64, .inl (filTo mf 0 k4)))] → va_S A s.heap Hp locs → lv_has ls 6 [(0, .ref o), (1, .int (nI n)), (4, .int (nI k4))] → xW p l e ({ frames := 5, cells := 0, slots := 0, locals := 133 } : Room) s m ([.ref o, .int (nI n)] : List Value).toArray below meth c Hp locs 0 0 (MQ below (xE D A (some (.int (nI (md + n)))) [(o, .inr (7, mdF 0 W H mt qu zz nw ol ne se ke nc ns is ik dc sc 3 (md + n) wh fa re ve ps 0 0 di lv 1 0 bd co bt ma)), (nw, .inl (cs 0, 4608, .inl (lvF gw W md (fun p9 x9 y9 => mft (lokP gn p9) (wdt p9 W) (wdt p9 H) (nI x9) (nI y9) (mus wh (V 2) p9) (mus wh (V 3) p9)) n))), (ol, .inl (cs 0, 4608, .inl go)), (ne, .inl (cs 0, 4608, .inl gn)), (ve, .inl (cs 0, 4, .inl V)), (ps, .inl (cs 0, 3, .inl (fun _ => 1024))), (bd, .inl (cs 1, 2, .inl (du 0 1))), (ma, .inl (cs 0, 64, .inl (fun _ => 0)))]) ([.ref o, .int (nI n)] : List Value).toArray s 0 0 A) (F0 m 131 ls []) := by
    intro k131
    induction k131 with
    | zero => intro k4 h9; omega
    | succ k131 ih_131 =>
      intro k4 hk131 hk4 Hp locs ls hP hD hS hl
      refine lv_iload hx hb dX7_leave_131 (lv_at hl 2 rfl) ?_
      refine lv_bipush (v := 64) hx hb dX7_leave_133 (by decide) ?_
      refine lv_icmp_ge (tgt := 152) hx hb dX7_leave_135 (by decide) (fun c_135 => ?_) (fun c_135 => ?_)
      · have e9 : 64 ≤ k4 := nIle (a := 64) (b := k4) rfl rfl (by decide) (by omega) c_135
        have hP1 : va_P D vwCl [(o, .inr (7, mdF 0 W H mt qu zz nw ol ne se ke nc ns is ik dc sc 3 md wh fa re ve ps 0 0 di lv 1 0 bd co bt ma)), (nw, .inl (cs 0, 4608, .inl gw)), (ol, .inl (cs 0, 4608, .inl go)), (ne, .inl (cs 0, 4608, .inl gn)), (ve, .inl (cs 0, 4, .inl V)), (ps, .inl (cs 0, 3, .inl (fun _ => 1024))), (bd, .inl (cs 1, 2, .inl (du 0 1))), (ma, .inl (cs 0, 64, .inl (fun _ => 0)))] Hp := xcongP (g := (fun _ => 0)) hP 7 rfl hD (fun j hj => by simp [filTo, Nat.lt_of_lt_of_le hj e9])
        have hD : va_D A [(o, .inr (7, mdF 0 W H mt qu zz nw ol ne se ke nc ns is ik dc sc 3 md wh fa re ve ps 0 0 di lv 1 0 bd co bt ma)), (nw, .inl (cs 0, 4608, .inl gw)), (ol, .inl (cs 0, 4608, .inl go)), (ne, .inl (cs 0, 4608, .inl gn)), (ve, .inl (cs 0, 4, .inl V)), (ps, .inl (cs 0, 3, .inl (fun _ => 1024))), (bd, .inl (cs 1, 2, .inl (du 0 1))), (ma, .inl (cs 0, 64, .inl (fun _ => 0)))] := xcongD (g := (fun _ => 0)) 7 rfl hD
        have hP := hP1
        refine lv_iconst (v := 0) hx hb dX7_leave_152 (by decide) ?_
        refine lv_istore (lv' := [(4, .int 0), (0, .ref o), (1, .int (nI n))]) hx hb dX7_leave_153 hl (by decide) rfl (fun ls hl => ?_)
        have loop_155 : ∀ (k155 : Nat) (i : Nat), n - i < k155 → i ≤ n → ∀ (Hp : Heap) (locs : List Loc) (ls : Array Slot), va_P D vwCl [(o, .inr (7, mdF 0 W H mt qu zz nw ol ne se ke nc ns is ik dc sc 3 (md + i) wh fa re ve ps 0 0 di lv 1 0 bd co bt ma)), (nw, .inl (cs 0, 4608, .inl (lvF gw W md (fun p9 x9 y9 => mft (lokP gn p9) (wdt p9 W) (wdt p9 H) (nI x9) (nI y9) (mus wh (V 2) p9) (mus wh (V 3) p9)) i))), (ol, .inl (cs 0, 4608, .inl go)), (ne, .inl (cs 0, 4608, .inl gn)), (ve, .inl (cs 0, 4, .inl V)), (ps, .inl (cs 0, 3, .inl (fun _ => 1024))), (bd, .inl (cs 1, 2, .inl (du 0 1))), (ma, .inl (cs 0, 64, .inl (fun _ => 0)))] Hp → va_D A [(o, .inr (7, mdF 0 W H mt qu zz nw ol ne se ke nc ns is ik dc sc 3 (md + i) wh fa re ve ps 0 0 di lv 1 0 bd co bt ma)), (nw, .inl (cs 0, 4608, .inl (lvF gw W md (fun p9 x9 y9 => mft (lokP gn p9) (wdt p9 W) (wdt p9 H) (nI x9) (nI y9) (mus wh (V 2) p9) (mus wh (V 3) p9)) i))), (ol, .inl (cs 0, 4608, .inl go)), (ne, .inl (cs 0, 4608, .inl gn)), (ve, .inl (cs 0, 4, .inl V)), (ps, .inl (cs 0, 3, .inl (fun _ => 1024))), (bd, .inl (cs 1, 2, .inl (du 0 1))), (ma, .inl (cs 0, 64, .inl (fun _ => 0)))] → va_S A s.heap Hp locs → lv_has ls 6 [(0, .ref o), (1, .int (nI n)), (4, .int (nI i))] → xW p l e ({ frames := 5, cells := 0, slots := 0, locals := 133 } : Room) s m ([.ref o, .int (nI n)] : List Value).toArray below meth c Hp locs 0 0 (MQ below (xE D A (some (.int (nI (md + n)))) [(o, .inr (7, mdF 0 W H mt qu zz nw ol ne se ke nc ns is ik dc sc 3 (md + n) wh fa re ve ps 0 0 di lv 1 0 bd co bt ma)), (nw, .inl (cs 0, 4608, .inl (lvF gw W md (fun p9 x9 y9 => mft (lokP gn p9) (wdt p9 W) (wdt p9 H) (nI x9) (nI y9) (mus wh (V 2) p9) (mus wh (V 3) p9)) n))), (ol, .inl (cs 0, 4608, .inl go)), (ne, .inl (cs 0, 4608, .inl gn)), (ve, .inl (cs 0, 4, .inl V)), (ps, .inl (cs 0, 3, .inl (fun _ => 1024))), (bd, .inl (cs 1, 2, .inl (du 0 1))), (ma, .inl (cs 0, 64, .inl (fun _ => 0)))]) ([.ref o, .int (nI n)] : List Value).toArray s 0 0 A) (F0 m 155 ls []) := by
          intro k155
          induction k155 with
          | zero => intro i h9; omega
          | succ k155 ih_155 =>
            intro i hk155 hi Hp locs ls hP hD hS hl
            refine lv_iload hx hb dX7_leave_155 (lv_at hl 2 rfl) ?_
            refine lv_iload_n hx hb dX7_leave_157 rfl (lv_at hl 1 rfl) ?_
            refine lv_icmp_ge (tgt := 243) hx hb dX7_leave_158 (by decide) (fun c_158 => ?_) (fun c_158 => ?_)
            · have e8 : i = n := by have := nIle (a := n) (b := i) rfl rfl (by omega) (by omega) c_158; omega
              subst e8
              refine lv_aload_n hx hb dX7_leave_243 rfl (lv_at hl 0 rfl) ?_
              refine xget (C := RX7) (T := TX7) (N := 34) hF hX hP (by decide +kernel) 0 17 rfl rfl (by decide) (by decide +kernel) rfl dX7_leave_244 ?_
              refine lv_iconst (v := 2) hx hb dX7_leave_247 (by decide) ?_
              refine lv_icmp_ne (tgt := 275) hx hb dX7_leave_248 (by decide) (fun _ => ?_) (fun c_248 => absurd c_248 (by decide))
              refine lv_aload_n hx hb dX7_leave_275 rfl (lv_at hl 0 rfl) ?_
              refine xget (C := RX7) (T := TX7) (N := 34) hF hX hP (by decide +kernel) 0 18 rfl rfl (by decide) (by decide +kernel) rfl dX7_leave_276 ?_
              exact xri (Q9 := fun _ _ _ _ => True) hF hr hlk hP hD hS dX7_leave_279
            · have hin : i < n := nInle (a := n) (b := i) rfl rfl (by omega) (by omega) c_158
              have hmd : md + i < W * H := by omega
              refine lv_iconst (v := 0) hx hb dX7_leave_161 (by decide) ?_
              refine lv_istore (lv' := [(5, .int 0), (0, .ref o), (1, .int (nI n)), (4, .int (nI i))]) hx hb dX7_leave_162 hl (by decide) rfl (fun ls hl => ?_)
              have hP1 : va_P D vwCl [(o, .inr (7, mdF 0 W H mt qu zz nw ol ne se ke nc ns is ik dc sc 3 (md + i) wh fa re ve ps 0 0 di lv 1 0 bd co bt ma)), (nw, .inl (cs 0, 4608, .inl (mnF (lvF gw W md (fun p9 x9 y9 => mft (lokP gn p9) (wdt p9 W) (wdt p9 H) (nI x9) (nI y9) (mus wh (V 2) p9) (mus wh (V 3) p9)) i) W (md + i) (fun _ _ => 0) (fun p9 x9 y9 => mft (lokP gn p9) (wdt p9 W) (wdt p9 H) (nI x9) (nI y9) (mus wh (V 2) p9) (mus wh (V 3) p9)) 0))), (ol, .inl (cs 0, 4608, .inl go)), (ne, .inl (cs 0, 4608, .inl gn)), (ve, .inl (cs 0, 4, .inl V)), (ps, .inl (cs 0, 3, .inl (fun _ => 1024))), (bd, .inl (cs 1, 2, .inl (du 0 1))), (ma, .inl (cs 0, 64, .inl (fun _ => 0)))] Hp := hP
              have hD : va_D A [(o, .inr (7, mdF 0 W H mt qu zz nw ol ne se ke nc ns is ik dc sc 3 (md + i) wh fa re ve ps 0 0 di lv 1 0 bd co bt ma)), (nw, .inl (cs 0, 4608, .inl (mnF (lvF gw W md (fun p9 x9 y9 => mft (lokP gn p9) (wdt p9 W) (wdt p9 H) (nI x9) (nI y9) (mus wh (V 2) p9) (mus wh (V 3) p9)) i) W (md + i) (fun _ _ => 0) (fun p9 x9 y9 => mft (lokP gn p9) (wdt p9 W) (wdt p9 H) (nI x9) (nI y9) (mus wh (V 2) p9) (mus wh (V 3) p9)) 0))), (ol, .inl (cs 0, 4608, .inl go)), (ne, .inl (cs 0, 4608, .inl gn)), (ve, .inl (cs 0, 4, .inl V)), (ps, .inl (cs 0, 3, .inl (fun _ => 1024))), (bd, .inl (cs 1, 2, .inl (du 0 1))), (ma, .inl (cs 0, 64, .inl (fun _ => 0)))] := hD
              have hP := hP1
              refine lv_iload hx hb dX7_leave_164 (lv_at hl 0 rfl) ?_
              refine lv_bipush (v := 6) hx hb dX7_leave_166 (by decide) ?_
              refine lv_icmp_ge (tgt := 227) hx hb dX7_leave_168 (by decide) (fun c_168 => absurd c_168 (by decide)) (fun _ => ?_)
              refine lv_aload_n hx hb dX7_leave_171 rfl (lv_at hl 1 rfl) ?_
              refine lv_iload hx hb dX7_leave_172 (lv_at hl 0 rfl) ?_
              refine lv_aload_n hx hb dX7_leave_174 rfl (lv_at hl 1 rfl) ?_
              refine xget (C := RX7) (T := TX7) (N := 34) hF hX hP (by decide +kernel) 0 17 rfl rfl (by decide) (by decide +kernel) rfl dX7_leave_175 ?_
              refine lv_iconst (v := 2) hx hb dX7_leave_178 (by decide) ?_
              refine lv_icmp_eq (tgt := 191) hx hb dX7_leave_179 (by decide) (fun c_179 => absurd c_179 (by decide)) (fun _ => ?_)
              refine lv_aload_n hx hb dX7_leave_182 rfl (lv_at hl 1 rfl) ?_
              refine xget (C := RX7) (T := TX7) (N := 34) hF hX hP (by decide +kernel) 0 30 rfl rfl (by decide) (by decide +kernel) rfl dX7_leave_183 ?_
              refine lv_iconst (v := 0) hx hb dX7_leave_186 (by decide) ?_
              refine xzald (k := 0) hF hX hP 6 rfl (rfl) (vp_in_nI (n := 0) (by decide) (by decide)) dX7_leave_187 ?_
              refine lv_if_eq (tgt := 195) hx hb dX7_leave_188 (by decide) (fun _ => ?_) (fun c_188 => absurd (by decide) c_188)
              refine lv_iconst (v := 0) hx hb dX7_leave_195 (by decide) ?_
              refine lv_aload_n hx hb dX7_leave_196 rfl (lv_at hl 1 rfl) ?_
              refine xget (C := RX7) (T := TX7) (N := 34) hF hX hP (by decide +kernel) 0 17 rfl rfl (by decide) (by decide +kernel) rfl dX7_leave_197 ?_
              refine lv_iconst (v := 3) hx hb dX7_leave_200 (by decide) ?_
              refine lv_icmp_ne (tgt := 217) hx hb dX7_leave_201 (by decide) (fun c_201 => absurd (by decide) c_201) (fun _ => ?_)
              refine lv_aload_n hx hb dX7_leave_204 rfl (lv_at hl 1 rfl) ?_
              refine xget (C := RX7) (T := TX7) (N := 34) hF hX hP (by decide +kernel) 0 30 rfl rfl (by decide) (by decide +kernel) rfl dX7_leave_205 ?_
              refine lv_iconst (v := 1) hx hb dX7_leave_208 (by decide) ?_
              refine xzald (k := 1) hF hX hP 6 rfl (rfl) (vp_in_nI (n := 1) (by decide) (by decide)) dX7_leave_209 ?_
              refine lv_if_eq (tgt := 217) hx hb dX7_leave_210 (by decide) (fun c_210 => absurd c_210 (by decide)) (fun _ => ?_)
              refine lv_iconst (v := 1) hx hb dX7_leave_213 (by decide) ?_
              refine lv_goto (tgt := 218) hx hb dX7_leave_214 (by decide) ?_
              refine xVM [true, true, true, true, true, false, false, true] (rest := []) (As := [.int 0, .int 0, .int 1]) (ws1 := [(o, .inr (7, mdF 0 W H mt qu zz nw ol ne se ke nc ns is ik dc sc 3 (md + i) wh fa re ve ps 0 0 di lv 1 0 bd co bt ma)), (nw, .inl (cs 0, 4608, .inl (mpB (mnF (lvF gw W md (fun p9 x9 y9 => mft (lokP gn p9) (wdt p9 W) (wdt p9 H) (nI x9) (nI y9) (mus wh (V 2) p9) (mus wh (V 3) p9)) i) W (md + i) (fun _ _ => 0) (fun p9 x9 y9 => mft (lokP gn p9) (wdt p9 W) (wdt p9 H) (nI x9) (nI y9) (mus wh (V 2) p9) (mus wh (V 3) p9)) 0) W (md + i) 0 (mlF W (md + i) 0 (fun _ => 0) (fun x9 y9 => (mft (lokP gn 0) (wdt 0 W) (wdt 0 H) (nI x9) (nI y9) (mus wh (V 2) 0) (mus wh (V 3) 0)))) (64)))), (ol, .inl (cs 0, 4608, .inl go)), (ne, .inl (cs 0, 4608, .inl gn)), (ve, .inl (cs 0, 4, .inl V)), (ps, .inl (cs 0, 3, .inl (fun _ => 1024))), (bd, .inl (cs 1, 2, .inl (du 0 1))), (ma, .inl (cs 0, 64, .inl (fun _ => 0)))]) (st1 := []) hF (c_X7_putBlock0C l D cs tt o mt qu zz nw ol ne se ke re ve ps di lv bd co bt ma W H (md + i) 0 nc ns is ik dc sc wh fa 0 1 0 (mnF (lvF gw W md (fun p9 x9 y9 => mft (lokP gn p9) (wdt p9 W) (wdt p9 H) (nI x9) (nI y9) (mus wh (V 2) p9) (mus wh (V 3) p9)) i) W (md + i) (fun _ _ => 0) (fun p9 x9 y9 => mft (lokP gn p9) (wdt p9 W) (wdt p9 H) (nI x9) (nI y9) (mus wh (V 2) p9) (mus wh (V 3) p9)) 0) (fun _ => 0) go gn V hw hw4 hh hh3 hmd) gX7_leave_X7_putBlock rfl (n := 3) (by decide +kernel) rfl ⟨⟨rfl, rfl⟩, Nat.le_of_ble_eq_true rfl, Nat.le_of_ble_eq_true rfl⟩ ⟨Nat.le_of_ble_eq_true rfl, Nat.le_of_ble_eq_true rfl⟩ hX hP hD hS rfl [o, nw, ol, ne, ve, ma] rfl rfl (q0 := 0) (ci := 7) rfl rfl rfl hl.1 rfl (Nat.le_of_ble_eq_true rfl) dX7_leave_218 rfl rfl (fun Hp locs hP hD hS => ?_)
              have hP1 : va_P D vwCl [(o, .inr (7, mdF 0 W H mt qu zz nw ol ne se ke nc ns is ik dc sc 3 (md + i) wh fa re ve ps 0 0 di lv 1 0 bd co bt ma)), (nw, .inl (cs 0, 4608, .inl (mnF (lvF gw W md (fun p9 x9 y9 => mft (lokP gn p9) (wdt p9 W) (wdt p9 H) (nI x9) (nI y9) (mus wh (V 2) p9) (mus wh (V 3) p9)) i) W (md + i) (fun _ _ => 0) (fun p9 x9 y9 => mft (lokP gn p9) (wdt p9 W) (wdt p9 H) (nI x9) (nI y9) (mus wh (V 2) p9) (mus wh (V 3) p9)) 1))), (ol, .inl (cs 0, 4608, .inl go)), (ne, .inl (cs 0, 4608, .inl gn)), (ve, .inl (cs 0, 4, .inl V)), (ps, .inl (cs 0, 3, .inl (fun _ => 1024))), (bd, .inl (cs 1, 2, .inl (du 0 1))), (ma, .inl (cs 0, 64, .inl (fun _ => 0)))] Hp := hP
              have hD : va_D A [(o, .inr (7, mdF 0 W H mt qu zz nw ol ne se ke nc ns is ik dc sc 3 (md + i) wh fa re ve ps 0 0 di lv 1 0 bd co bt ma)), (nw, .inl (cs 0, 4608, .inl (mnF (lvF gw W md (fun p9 x9 y9 => mft (lokP gn p9) (wdt p9 W) (wdt p9 H) (nI x9) (nI y9) (mus wh (V 2) p9) (mus wh (V 3) p9)) i) W (md + i) (fun _ _ => 0) (fun p9 x9 y9 => mft (lokP gn p9) (wdt p9 W) (wdt p9 H) (nI x9) (nI y9) (mus wh (V 2) p9) (mus wh (V 3) p9)) 1))), (ol, .inl (cs 0, 4608, .inl go)), (ne, .inl (cs 0, 4608, .inl gn)), (ve, .inl (cs 0, 4, .inl V)), (ps, .inl (cs 0, 3, .inl (fun _ => 1024))), (bd, .inl (cs 1, 2, .inl (du 0 1))), (ma, .inl (cs 0, 64, .inl (fun _ => 0)))] := hD
              have hP := hP1
              refine lv_iinc (v := 1) (lv' := [(5, .int 1), (0, .ref o), (1, .int (nI n)), (4, .int (nI i))]) hx hb dX7_leave_221 hl (k := 0) rfl (rfl) (by decide) rfl (fun ls hl => ?_)
              refine lv_goto (tgt := 164) hx hb dX7_leave_224 (by decide) ?_
              refine lv_iload hx hb dX7_leave_164 (lv_at hl 0 rfl) ?_
              refine lv_bipush (v := 6) hx hb dX7_leave_166 (by decide) ?_
              refine lv_icmp_ge (tgt := 227) hx hb dX7_leave_168 (by decide) (fun c_168 => absurd c_168 (by decide)) (fun _ => ?_)
              refine lv_aload_n hx hb dX7_leave_171 rfl (lv_at hl 1 rfl) ?_
              refine lv_iload hx hb dX7_leave_172 (lv_at hl 0 rfl) ?_
              refine lv_aload_n hx hb dX7_leave_174 rfl (lv_at hl 1 rfl) ?_
              refine xget (C := RX7) (T := TX7) (N := 34) hF hX hP (by decide +kernel) 0 17 rfl rfl (by decide) (by decide +kernel) rfl dX7_leave_175 ?_
              refine lv_iconst (v := 2) hx hb dX7_leave_178 (by decide) ?_
              refine lv_icmp_eq (tgt := 191) hx hb dX7_leave_179 (by decide) (fun c_179 => absurd c_179 (by decide)) (fun _ => ?_)
              refine lv_aload_n hx hb dX7_leave_182 rfl (lv_at hl 1 rfl) ?_
              refine xget (C := RX7) (T := TX7) (N := 34) hF hX hP (by decide +kernel) 0 30 rfl rfl (by decide) (by decide +kernel) rfl dX7_leave_183 ?_
              refine lv_iconst (v := 0) hx hb dX7_leave_186 (by decide) ?_
              refine xzald (k := 0) hF hX hP 6 rfl (rfl) (vp_in_nI (n := 0) (by decide) (by decide)) dX7_leave_187 ?_
              refine lv_if_eq (tgt := 195) hx hb dX7_leave_188 (by decide) (fun _ => ?_) (fun c_188 => absurd (by decide) c_188)
              refine lv_iconst (v := 0) hx hb dX7_leave_195 (by decide) ?_
              refine lv_aload_n hx hb dX7_leave_196 rfl (lv_at hl 1 rfl) ?_
              refine xget (C := RX7) (T := TX7) (N := 34) hF hX hP (by decide +kernel) 0 17 rfl rfl (by decide) (by decide +kernel) rfl dX7_leave_197 ?_
              refine lv_iconst (v := 3) hx hb dX7_leave_200 (by decide) ?_
              refine lv_icmp_ne (tgt := 217) hx hb dX7_leave_201 (by decide) (fun c_201 => absurd (by decide) c_201) (fun _ => ?_)
              refine lv_aload_n hx hb dX7_leave_204 rfl (lv_at hl 1 rfl) ?_
              refine xget (C := RX7) (T := TX7) (N := 34) hF hX hP (by decide +kernel) 0 30 rfl rfl (by decide) (by decide +kernel) rfl dX7_leave_205 ?_
              refine lv_iconst (v := 1) hx hb dX7_leave_208 (by decide) ?_
              refine xzald (k := 1) hF hX hP 6 rfl (rfl) (vp_in_nI (n := 1) (by decide) (by decide)) dX7_leave_209 ?_
              refine lv_if_eq (tgt := 217) hx hb dX7_leave_210 (by decide) (fun c_210 => absurd c_210 (by decide)) (fun _ => ?_)
              refine lv_iconst (v := 1) hx hb dX7_leave_213 (by decide) ?_
              refine lv_goto (tgt := 218) hx hb dX7_leave_214 (by decide) ?_
              refine xVM [true, true, true, true, true, false, false, true] (rest := []) (As := [.int 1, .int 0, .int 1]) (ws1 := [(o, .inr (7, mdF 0 W H mt qu zz nw ol ne se ke nc ns is ik dc sc 3 (md + i) wh fa re ve ps 0 0 di lv 1 0 bd co bt ma)), (nw, .inl (cs 0, 4608, .inl (mpB (mnF (lvF gw W md (fun p9 x9 y9 => mft (lokP gn p9) (wdt p9 W) (wdt p9 H) (nI x9) (nI y9) (mus wh (V 2) p9) (mus wh (V 3) p9)) i) W (md + i) (fun _ _ => 0) (fun p9 x9 y9 => mft (lokP gn p9) (wdt p9 W) (wdt p9 H) (nI x9) (nI y9) (mus wh (V 2) p9) (mus wh (V 3) p9)) 1) W (md + i) 1 (mlF W (md + i) 1 (fun _ => 0) (fun x9 y9 => (mft (lokP gn 0) (wdt 0 W) (wdt 0 H) (nI x9) (nI y9) (mus wh (V 2) 0) (mus wh (V 3) 0)))) (64)))), (ol, .inl (cs 0, 4608, .inl go)), (ne, .inl (cs 0, 4608, .inl gn)), (ve, .inl (cs 0, 4, .inl V)), (ps, .inl (cs 0, 3, .inl (fun _ => 1024))), (bd, .inl (cs 1, 2, .inl (du 0 1))), (ma, .inl (cs 0, 64, .inl (fun _ => 0)))]) (st1 := []) hF (c_X7_putBlock1C l D cs tt o mt qu zz nw ol ne se ke re ve ps di lv bd co bt ma W H (md + i) 0 nc ns is ik dc sc wh fa 0 1 0 (mnF (lvF gw W md (fun p9 x9 y9 => mft (lokP gn p9) (wdt p9 W) (wdt p9 H) (nI x9) (nI y9) (mus wh (V 2) p9) (mus wh (V 3) p9)) i) W (md + i) (fun _ _ => 0) (fun p9 x9 y9 => mft (lokP gn p9) (wdt p9 W) (wdt p9 H) (nI x9) (nI y9) (mus wh (V 2) p9) (mus wh (V 3) p9)) 1) (fun _ => 0) go gn V hw hw4 hh hh3 hmd) gX7_leave_X7_putBlock rfl (n := 3) (by decide +kernel) rfl ⟨⟨rfl, rfl⟩, Nat.le_of_ble_eq_true rfl, Nat.le_of_ble_eq_true rfl⟩ ⟨Nat.le_of_ble_eq_true rfl, Nat.le_of_ble_eq_true rfl⟩ hX hP hD hS rfl [o, nw, ol, ne, ve, ma] rfl rfl (q0 := 0) (ci := 7) rfl rfl rfl hl.1 rfl (Nat.le_of_ble_eq_true rfl) dX7_leave_218 rfl rfl (fun Hp locs hP hD hS => ?_)
              have hP1 : va_P D vwCl [(o, .inr (7, mdF 0 W H mt qu zz nw ol ne se ke nc ns is ik dc sc 3 (md + i) wh fa re ve ps 0 0 di lv 1 0 bd co bt ma)), (nw, .inl (cs 0, 4608, .inl (mnF (lvF gw W md (fun p9 x9 y9 => mft (lokP gn p9) (wdt p9 W) (wdt p9 H) (nI x9) (nI y9) (mus wh (V 2) p9) (mus wh (V 3) p9)) i) W (md + i) (fun _ _ => 0) (fun p9 x9 y9 => mft (lokP gn p9) (wdt p9 W) (wdt p9 H) (nI x9) (nI y9) (mus wh (V 2) p9) (mus wh (V 3) p9)) 2))), (ol, .inl (cs 0, 4608, .inl go)), (ne, .inl (cs 0, 4608, .inl gn)), (ve, .inl (cs 0, 4, .inl V)), (ps, .inl (cs 0, 3, .inl (fun _ => 1024))), (bd, .inl (cs 1, 2, .inl (du 0 1))), (ma, .inl (cs 0, 64, .inl (fun _ => 0)))] Hp := hP
              have hD : va_D A [(o, .inr (7, mdF 0 W H mt qu zz nw ol ne se ke nc ns is ik dc sc 3 (md + i) wh fa re ve ps 0 0 di lv 1 0 bd co bt ma)), (nw, .inl (cs 0, 4608, .inl (mnF (lvF gw W md (fun p9 x9 y9 => mft (lokP gn p9) (wdt p9 W) (wdt p9 H) (nI x9) (nI y9) (mus wh (V 2) p9) (mus wh (V 3) p9)) i) W (md + i) (fun _ _ => 0) (fun p9 x9 y9 => mft (lokP gn p9) (wdt p9 W) (wdt p9 H) (nI x9) (nI y9) (mus wh (V 2) p9) (mus wh (V 3) p9)) 2))), (ol, .inl (cs 0, 4608, .inl go)), (ne, .inl (cs 0, 4608, .inl gn)), (ve, .inl (cs 0, 4, .inl V)), (ps, .inl (cs 0, 3, .inl (fun _ => 1024))), (bd, .inl (cs 1, 2, .inl (du 0 1))), (ma, .inl (cs 0, 64, .inl (fun _ => 0)))] := hD
              have hP := hP1
              refine lv_iinc (v := 2) (lv' := [(5, .int 2), (0, .ref o), (1, .int (nI n)), (4, .int (nI i))]) hx hb dX7_leave_221 hl (k := 0) rfl (rfl) (by decide) rfl (fun ls hl => ?_)
              refine lv_goto (tgt := 164) hx hb dX7_leave_224 (by decide) ?_
              refine lv_iload hx hb dX7_leave_164 (lv_at hl 0 rfl) ?_
              refine lv_bipush (v := 6) hx hb dX7_leave_166 (by decide) ?_
              refine lv_icmp_ge (tgt := 227) hx hb dX7_leave_168 (by decide) (fun c_168 => absurd c_168 (by decide)) (fun _ => ?_)
              refine lv_aload_n hx hb dX7_leave_171 rfl (lv_at hl 1 rfl) ?_
              refine lv_iload hx hb dX7_leave_172 (lv_at hl 0 rfl) ?_
              refine lv_aload_n hx hb dX7_leave_174 rfl (lv_at hl 1 rfl) ?_
              refine xget (C := RX7) (T := TX7) (N := 34) hF hX hP (by decide +kernel) 0 17 rfl rfl (by decide) (by decide +kernel) rfl dX7_leave_175 ?_
              refine lv_iconst (v := 2) hx hb dX7_leave_178 (by decide) ?_
              refine lv_icmp_eq (tgt := 191) hx hb dX7_leave_179 (by decide) (fun c_179 => absurd c_179 (by decide)) (fun _ => ?_)
              refine lv_aload_n hx hb dX7_leave_182 rfl (lv_at hl 1 rfl) ?_
              refine xget (C := RX7) (T := TX7) (N := 34) hF hX hP (by decide +kernel) 0 30 rfl rfl (by decide) (by decide +kernel) rfl dX7_leave_183 ?_
              refine lv_iconst (v := 0) hx hb dX7_leave_186 (by decide) ?_
              refine xzald (k := 0) hF hX hP 6 rfl (rfl) (vp_in_nI (n := 0) (by decide) (by decide)) dX7_leave_187 ?_
              refine lv_if_eq (tgt := 195) hx hb dX7_leave_188 (by decide) (fun _ => ?_) (fun c_188 => absurd (by decide) c_188)
              refine lv_iconst (v := 0) hx hb dX7_leave_195 (by decide) ?_
              refine lv_aload_n hx hb dX7_leave_196 rfl (lv_at hl 1 rfl) ?_
              refine xget (C := RX7) (T := TX7) (N := 34) hF hX hP (by decide +kernel) 0 17 rfl rfl (by decide) (by decide +kernel) rfl dX7_leave_197 ?_
              refine lv_iconst (v := 3) hx hb dX7_leave_200 (by decide) ?_
              refine lv_icmp_ne (tgt := 217) hx hb dX7_leave_201 (by decide) (fun c_201 => absurd (by decide) c_201) (fun _ => ?_)
              refine lv_aload_n hx hb dX7_leave_204 rfl (lv_at hl 1 rfl) ?_
              refine xget (C := RX7) (T := TX7) (N := 34) hF hX hP (by decide +kernel) 0 30 rfl rfl (by decide) (by decide +kernel) rfl dX7_leave_205 ?_
              refine lv_iconst (v := 1) hx hb dX7_leave_208 (by decide) ?_
              refine xzald (k := 1) hF hX hP 6 rfl (rfl) (vp_in_nI (n := 1) (by decide) (by decide)) dX7_leave_209 ?_
              refine lv_if_eq (tgt := 217) hx hb dX7_leave_210 (by decide) (fun c_210 => absurd c_210 (by decide)) (fun _ => ?_)
              refine lv_iconst (v := 1) hx hb dX7_leave_213 (by decide) ?_
              refine lv_goto (tgt := 218) hx hb dX7_leave_214 (by decide) ?_
              refine xVM [true, true, true, true, true, false, false, true] (rest := []) (As := [.int 2, .int 0, .int 1]) (ws1 := [(o, .inr (7, mdF 0 W H mt qu zz nw ol ne se ke nc ns is ik dc sc 3 (md + i) wh fa re ve ps 0 0 di lv 1 0 bd co bt ma)), (nw, .inl (cs 0, 4608, .inl (mpB (mnF (lvF gw W md (fun p9 x9 y9 => mft (lokP gn p9) (wdt p9 W) (wdt p9 H) (nI x9) (nI y9) (mus wh (V 2) p9) (mus wh (V 3) p9)) i) W (md + i) (fun _ _ => 0) (fun p9 x9 y9 => mft (lokP gn p9) (wdt p9 W) (wdt p9 H) (nI x9) (nI y9) (mus wh (V 2) p9) (mus wh (V 3) p9)) 2) W (md + i) 2 (mlF W (md + i) 2 (fun _ => 0) (fun x9 y9 => (mft (lokP gn 0) (wdt 0 W) (wdt 0 H) (nI x9) (nI y9) (mus wh (V 2) 0) (mus wh (V 3) 0)))) (64)))), (ol, .inl (cs 0, 4608, .inl go)), (ne, .inl (cs 0, 4608, .inl gn)), (ve, .inl (cs 0, 4, .inl V)), (ps, .inl (cs 0, 3, .inl (fun _ => 1024))), (bd, .inl (cs 1, 2, .inl (du 0 1))), (ma, .inl (cs 0, 64, .inl (fun _ => 0)))]) (st1 := []) hF (c_X7_putBlock2C l D cs tt o mt qu zz nw ol ne se ke re ve ps di lv bd co bt ma W H (md + i) 0 nc ns is ik dc sc wh fa 0 1 0 (mnF (lvF gw W md (fun p9 x9 y9 => mft (lokP gn p9) (wdt p9 W) (wdt p9 H) (nI x9) (nI y9) (mus wh (V 2) p9) (mus wh (V 3) p9)) i) W (md + i) (fun _ _ => 0) (fun p9 x9 y9 => mft (lokP gn p9) (wdt p9 W) (wdt p9 H) (nI x9) (nI y9) (mus wh (V 2) p9) (mus wh (V 3) p9)) 2) (fun _ => 0) go gn V hw hw4 hh hh3 hmd) gX7_leave_X7_putBlock rfl (n := 3) (by decide +kernel) rfl ⟨⟨rfl, rfl⟩, Nat.le_of_ble_eq_true rfl, Nat.le_of_ble_eq_true rfl⟩ ⟨Nat.le_of_ble_eq_true rfl, Nat.le_of_ble_eq_true rfl⟩ hX hP hD hS rfl [o, nw, ol, ne, ve, ma] rfl rfl (q0 := 0) (ci := 7) rfl rfl rfl hl.1 rfl (Nat.le_of_ble_eq_true rfl) dX7_leave_218 rfl rfl (fun Hp locs hP hD hS => ?_)
              have hP1 : va_P D vwCl [(o, .inr (7, mdF 0 W H mt qu zz nw ol ne se ke nc ns is ik dc sc 3 (md + i) wh fa re ve ps 0 0 di lv 1 0 bd co bt ma)), (nw, .inl (cs 0, 4608, .inl (mnF (lvF gw W md (fun p9 x9 y9 => mft (lokP gn p9) (wdt p9 W) (wdt p9 H) (nI x9) (nI y9) (mus wh (V 2) p9) (mus wh (V 3) p9)) i) W (md + i) (fun _ _ => 0) (fun p9 x9 y9 => mft (lokP gn p9) (wdt p9 W) (wdt p9 H) (nI x9) (nI y9) (mus wh (V 2) p9) (mus wh (V 3) p9)) 3))), (ol, .inl (cs 0, 4608, .inl go)), (ne, .inl (cs 0, 4608, .inl gn)), (ve, .inl (cs 0, 4, .inl V)), (ps, .inl (cs 0, 3, .inl (fun _ => 1024))), (bd, .inl (cs 1, 2, .inl (du 0 1))), (ma, .inl (cs 0, 64, .inl (fun _ => 0)))] Hp := hP
              have hD : va_D A [(o, .inr (7, mdF 0 W H mt qu zz nw ol ne se ke nc ns is ik dc sc 3 (md + i) wh fa re ve ps 0 0 di lv 1 0 bd co bt ma)), (nw, .inl (cs 0, 4608, .inl (mnF (lvF gw W md (fun p9 x9 y9 => mft (lokP gn p9) (wdt p9 W) (wdt p9 H) (nI x9) (nI y9) (mus wh (V 2) p9) (mus wh (V 3) p9)) i) W (md + i) (fun _ _ => 0) (fun p9 x9 y9 => mft (lokP gn p9) (wdt p9 W) (wdt p9 H) (nI x9) (nI y9) (mus wh (V 2) p9) (mus wh (V 3) p9)) 3))), (ol, .inl (cs 0, 4608, .inl go)), (ne, .inl (cs 0, 4608, .inl gn)), (ve, .inl (cs 0, 4, .inl V)), (ps, .inl (cs 0, 3, .inl (fun _ => 1024))), (bd, .inl (cs 1, 2, .inl (du 0 1))), (ma, .inl (cs 0, 64, .inl (fun _ => 0)))] := hD
              have hP := hP1
              refine lv_iinc (v := 3) (lv' := [(5, .int 3), (0, .ref o), (1, .int (nI n)), (4, .int (nI i))]) hx hb dX7_leave_221 hl (k := 0) rfl (rfl) (by decide) rfl (fun ls hl => ?_)
              refine lv_goto (tgt := 164) hx hb dX7_leave_224 (by decide) ?_
              refine lv_iload hx hb dX7_leave_164 (lv_at hl 0 rfl) ?_
              refine lv_bipush (v := 6) hx hb dX7_leave_166 (by decide) ?_
              refine lv_icmp_ge (tgt := 227) hx hb dX7_leave_168 (by decide) (fun c_168 => absurd c_168 (by decide)) (fun _ => ?_)
              refine lv_aload_n hx hb dX7_leave_171 rfl (lv_at hl 1 rfl) ?_
              refine lv_iload hx hb dX7_leave_172 (lv_at hl 0 rfl) ?_
              refine lv_aload_n hx hb dX7_leave_174 rfl (lv_at hl 1 rfl) ?_
              refine xget (C := RX7) (T := TX7) (N := 34) hF hX hP (by decide +kernel) 0 17 rfl rfl (by decide) (by decide +kernel) rfl dX7_leave_175 ?_
              refine lv_iconst (v := 2) hx hb dX7_leave_178 (by decide) ?_
              refine lv_icmp_eq (tgt := 191) hx hb dX7_leave_179 (by decide) (fun c_179 => absurd c_179 (by decide)) (fun _ => ?_)
              refine lv_aload_n hx hb dX7_leave_182 rfl (lv_at hl 1 rfl) ?_
              refine xget (C := RX7) (T := TX7) (N := 34) hF hX hP (by decide +kernel) 0 30 rfl rfl (by decide) (by decide +kernel) rfl dX7_leave_183 ?_
              refine lv_iconst (v := 0) hx hb dX7_leave_186 (by decide) ?_
              refine xzald (k := 0) hF hX hP 6 rfl (rfl) (vp_in_nI (n := 0) (by decide) (by decide)) dX7_leave_187 ?_
              refine lv_if_eq (tgt := 195) hx hb dX7_leave_188 (by decide) (fun _ => ?_) (fun c_188 => absurd (by decide) c_188)
              refine lv_iconst (v := 0) hx hb dX7_leave_195 (by decide) ?_
              refine lv_aload_n hx hb dX7_leave_196 rfl (lv_at hl 1 rfl) ?_
              refine xget (C := RX7) (T := TX7) (N := 34) hF hX hP (by decide +kernel) 0 17 rfl rfl (by decide) (by decide +kernel) rfl dX7_leave_197 ?_
              refine lv_iconst (v := 3) hx hb dX7_leave_200 (by decide) ?_
              refine lv_icmp_ne (tgt := 217) hx hb dX7_leave_201 (by decide) (fun c_201 => absurd (by decide) c_201) (fun _ => ?_)
              refine lv_aload_n hx hb dX7_leave_204 rfl (lv_at hl 1 rfl) ?_
              refine xget (C := RX7) (T := TX7) (N := 34) hF hX hP (by decide +kernel) 0 30 rfl rfl (by decide) (by decide +kernel) rfl dX7_leave_205 ?_
              refine lv_iconst (v := 1) hx hb dX7_leave_208 (by decide) ?_
              refine xzald (k := 1) hF hX hP 6 rfl (rfl) (vp_in_nI (n := 1) (by decide) (by decide)) dX7_leave_209 ?_
              refine lv_if_eq (tgt := 217) hx hb dX7_leave_210 (by decide) (fun c_210 => absurd c_210 (by decide)) (fun _ => ?_)
              refine lv_iconst (v := 1) hx hb dX7_leave_213 (by decide) ?_
              refine lv_goto (tgt := 218) hx hb dX7_leave_214 (by decide) ?_
              refine xVM [true, true, true, true, true, false, false, true] (rest := []) (As := [.int 3, .int 0, .int 1]) (ws1 := [(o, .inr (7, mdF 0 W H mt qu zz nw ol ne se ke nc ns is ik dc sc 3 (md + i) wh fa re ve ps 0 0 di lv 1 0 bd co bt ma)), (nw, .inl (cs 0, 4608, .inl (mpB (mnF (lvF gw W md (fun p9 x9 y9 => mft (lokP gn p9) (wdt p9 W) (wdt p9 H) (nI x9) (nI y9) (mus wh (V 2) p9) (mus wh (V 3) p9)) i) W (md + i) (fun _ _ => 0) (fun p9 x9 y9 => mft (lokP gn p9) (wdt p9 W) (wdt p9 H) (nI x9) (nI y9) (mus wh (V 2) p9) (mus wh (V 3) p9)) 3) W (md + i) 3 (mlF W (md + i) 3 (fun _ => 0) (fun x9 y9 => (mft (lokP gn 0) (wdt 0 W) (wdt 0 H) (nI x9) (nI y9) (mus wh (V 2) 0) (mus wh (V 3) 0)))) (64)))), (ol, .inl (cs 0, 4608, .inl go)), (ne, .inl (cs 0, 4608, .inl gn)), (ve, .inl (cs 0, 4, .inl V)), (ps, .inl (cs 0, 3, .inl (fun _ => 1024))), (bd, .inl (cs 1, 2, .inl (du 0 1))), (ma, .inl (cs 0, 64, .inl (fun _ => 0)))]) (st1 := []) hF (c_X7_putBlock3C l D cs tt o mt qu zz nw ol ne se ke re ve ps di lv bd co bt ma W H (md + i) 0 nc ns is ik dc sc wh fa 0 1 0 (mnF (lvF gw W md (fun p9 x9 y9 => mft (lokP gn p9) (wdt p9 W) (wdt p9 H) (nI x9) (nI y9) (mus wh (V 2) p9) (mus wh (V 3) p9)) i) W (md + i) (fun _ _ => 0) (fun p9 x9 y9 => mft (lokP gn p9) (wdt p9 W) (wdt p9 H) (nI x9) (nI y9) (mus wh (V 2) p9) (mus wh (V 3) p9)) 3) (fun _ => 0) go gn V hw hw4 hh hh3 hmd) gX7_leave_X7_putBlock rfl (n := 3) (by decide +kernel) rfl ⟨⟨rfl, rfl⟩, Nat.le_of_ble_eq_true rfl, Nat.le_of_ble_eq_true rfl⟩ ⟨Nat.le_of_ble_eq_true rfl, Nat.le_of_ble_eq_true rfl⟩ hX hP hD hS rfl [o, nw, ol, ne, ve, ma] rfl rfl (q0 := 0) (ci := 7) rfl rfl rfl hl.1 rfl (Nat.le_of_ble_eq_true rfl) dX7_leave_218 rfl rfl (fun Hp locs hP hD hS => ?_)
              have hP1 : va_P D vwCl [(o, .inr (7, mdF 0 W H mt qu zz nw ol ne se ke nc ns is ik dc sc 3 (md + i) wh fa re ve ps 0 0 di lv 1 0 bd co bt ma)), (nw, .inl (cs 0, 4608, .inl (mnF (lvF gw W md (fun p9 x9 y9 => mft (lokP gn p9) (wdt p9 W) (wdt p9 H) (nI x9) (nI y9) (mus wh (V 2) p9) (mus wh (V 3) p9)) i) W (md + i) (fun _ _ => 0) (fun p9 x9 y9 => mft (lokP gn p9) (wdt p9 W) (wdt p9 H) (nI x9) (nI y9) (mus wh (V 2) p9) (mus wh (V 3) p9)) 4))), (ol, .inl (cs 0, 4608, .inl go)), (ne, .inl (cs 0, 4608, .inl gn)), (ve, .inl (cs 0, 4, .inl V)), (ps, .inl (cs 0, 3, .inl (fun _ => 1024))), (bd, .inl (cs 1, 2, .inl (du 0 1))), (ma, .inl (cs 0, 64, .inl (fun _ => 0)))] Hp := hP
              have hD : va_D A [(o, .inr (7, mdF 0 W H mt qu zz nw ol ne se ke nc ns is ik dc sc 3 (md + i) wh fa re ve ps 0 0 di lv 1 0 bd co bt ma)), (nw, .inl (cs 0, 4608, .inl (mnF (lvF gw W md (fun p9 x9 y9 => mft (lokP gn p9) (wdt p9 W) (wdt p9 H) (nI x9) (nI y9) (mus wh (V 2) p9) (mus wh (V 3) p9)) i) W (md + i) (fun _ _ => 0) (fun p9 x9 y9 => mft (lokP gn p9) (wdt p9 W) (wdt p9 H) (nI x9) (nI y9) (mus wh (V 2) p9) (mus wh (V 3) p9)) 4))), (ol, .inl (cs 0, 4608, .inl go)), (ne, .inl (cs 0, 4608, .inl gn)), (ve, .inl (cs 0, 4, .inl V)), (ps, .inl (cs 0, 3, .inl (fun _ => 1024))), (bd, .inl (cs 1, 2, .inl (du 0 1))), (ma, .inl (cs 0, 64, .inl (fun _ => 0)))] := hD
              have hP := hP1
              refine lv_iinc (v := 4) (lv' := [(5, .int 4), (0, .ref o), (1, .int (nI n)), (4, .int (nI i))]) hx hb dX7_leave_221 hl (k := 0) rfl (rfl) (by decide) rfl (fun ls hl => ?_)
              refine lv_goto (tgt := 164) hx hb dX7_leave_224 (by decide) ?_
              refine lv_iload hx hb dX7_leave_164 (lv_at hl 0 rfl) ?_
              refine lv_bipush (v := 6) hx hb dX7_leave_166 (by decide) ?_
              refine lv_icmp_ge (tgt := 227) hx hb dX7_leave_168 (by decide) (fun c_168 => absurd c_168 (by decide)) (fun _ => ?_)
              refine lv_aload_n hx hb dX7_leave_171 rfl (lv_at hl 1 rfl) ?_
              refine lv_iload hx hb dX7_leave_172 (lv_at hl 0 rfl) ?_
              refine lv_aload_n hx hb dX7_leave_174 rfl (lv_at hl 1 rfl) ?_
              refine xget (C := RX7) (T := TX7) (N := 34) hF hX hP (by decide +kernel) 0 17 rfl rfl (by decide) (by decide +kernel) rfl dX7_leave_175 ?_
              refine lv_iconst (v := 2) hx hb dX7_leave_178 (by decide) ?_
              refine lv_icmp_eq (tgt := 191) hx hb dX7_leave_179 (by decide) (fun c_179 => absurd c_179 (by decide)) (fun _ => ?_)
              refine lv_aload_n hx hb dX7_leave_182 rfl (lv_at hl 1 rfl) ?_
              refine xget (C := RX7) (T := TX7) (N := 34) hF hX hP (by decide +kernel) 0 30 rfl rfl (by decide) (by decide +kernel) rfl dX7_leave_183 ?_
              refine lv_iconst (v := 0) hx hb dX7_leave_186 (by decide) ?_
              refine xzald (k := 0) hF hX hP 6 rfl (rfl) (vp_in_nI (n := 0) (by decide) (by decide)) dX7_leave_187 ?_
              refine lv_if_eq (tgt := 195) hx hb dX7_leave_188 (by decide) (fun _ => ?_) (fun c_188 => absurd (by decide) c_188)
              refine lv_iconst (v := 0) hx hb dX7_leave_195 (by decide) ?_
              refine lv_aload_n hx hb dX7_leave_196 rfl (lv_at hl 1 rfl) ?_
              refine xget (C := RX7) (T := TX7) (N := 34) hF hX hP (by decide +kernel) 0 17 rfl rfl (by decide) (by decide +kernel) rfl dX7_leave_197 ?_
              refine lv_iconst (v := 3) hx hb dX7_leave_200 (by decide) ?_
              refine lv_icmp_ne (tgt := 217) hx hb dX7_leave_201 (by decide) (fun c_201 => absurd (by decide) c_201) (fun _ => ?_)
              refine lv_aload_n hx hb dX7_leave_204 rfl (lv_at hl 1 rfl) ?_
              refine xget (C := RX7) (T := TX7) (N := 34) hF hX hP (by decide +kernel) 0 30 rfl rfl (by decide) (by decide +kernel) rfl dX7_leave_205 ?_
              refine lv_iconst (v := 1) hx hb dX7_leave_208 (by decide) ?_
              refine xzald (k := 1) hF hX hP 6 rfl (rfl) (vp_in_nI (n := 1) (by decide) (by decide)) dX7_leave_209 ?_
              refine lv_if_eq (tgt := 217) hx hb dX7_leave_210 (by decide) (fun c_210 => absurd c_210 (by decide)) (fun _ => ?_)
              refine lv_iconst (v := 1) hx hb dX7_leave_213 (by decide) ?_
              refine lv_goto (tgt := 218) hx hb dX7_leave_214 (by decide) ?_
              refine xVM [true, true, true, true, true, false, false, true] (rest := []) (As := [.int 4, .int 0, .int 1]) (ws1 := [(o, .inr (7, mdF 0 W H mt qu zz nw ol ne se ke nc ns is ik dc sc 3 (md + i) wh fa re ve ps 0 0 di lv 1 0 bd co bt ma)), (nw, .inl (cs 0, 4608, .inl (mpB (mnF (lvF gw W md (fun p9 x9 y9 => mft (lokP gn p9) (wdt p9 W) (wdt p9 H) (nI x9) (nI y9) (mus wh (V 2) p9) (mus wh (V 3) p9)) i) W (md + i) (fun _ _ => 0) (fun p9 x9 y9 => mft (lokP gn p9) (wdt p9 W) (wdt p9 H) (nI x9) (nI y9) (mus wh (V 2) p9) (mus wh (V 3) p9)) 4) W (md + i) 4 (mlF W (md + i) 4 (fun _ => 0) (fun x9 y9 => (mft (lokP gn 1) (wdt 1 W) (wdt 1 H) (nI x9) (nI y9) (mus wh (V 2) 1) (mus wh (V 3) 1)))) (64)))), (ol, .inl (cs 0, 4608, .inl go)), (ne, .inl (cs 0, 4608, .inl gn)), (ve, .inl (cs 0, 4, .inl V)), (ps, .inl (cs 0, 3, .inl (fun _ => 1024))), (bd, .inl (cs 1, 2, .inl (du 0 1))), (ma, .inl (cs 0, 64, .inl (fun _ => 0)))]) (st1 := []) hF (c_X7_putBlock4C l D cs tt o mt qu zz nw ol ne se ke re ve ps di lv bd co bt ma W H (md + i) 0 nc ns is ik dc sc wh fa 0 1 0 (mnF (lvF gw W md (fun p9 x9 y9 => mft (lokP gn p9) (wdt p9 W) (wdt p9 H) (nI x9) (nI y9) (mus wh (V 2) p9) (mus wh (V 3) p9)) i) W (md + i) (fun _ _ => 0) (fun p9 x9 y9 => mft (lokP gn p9) (wdt p9 W) (wdt p9 H) (nI x9) (nI y9) (mus wh (V 2) p9) (mus wh (V 3) p9)) 4) (fun _ => 0) go gn V hw hw4 hh hh3 hmd) gX7_leave_X7_putBlock rfl (n := 3) (by decide +kernel) rfl ⟨⟨rfl, rfl⟩, Nat.le_of_ble_eq_true rfl, Nat.le_of_ble_eq_true rfl⟩ ⟨Nat.le_of_ble_eq_true rfl, Nat.le_of_ble_eq_true rfl⟩ hX hP hD hS rfl [o, nw, ol, ne, ve, ma] rfl rfl (q0 := 0) (ci := 7) rfl rfl rfl hl.1 rfl (Nat.le_of_ble_eq_true rfl) dX7_leave_218 rfl rfl (fun Hp locs hP hD hS => ?_)
              have hP1 : va_P D vwCl [(o, .inr (7, mdF 0 W H mt qu zz nw ol ne se ke nc ns is ik dc sc 3 (md + i) wh fa re ve ps 0 0 di lv 1 0 bd co bt ma)), (nw, .inl (cs 0, 4608, .inl (mnF (lvF gw W md (fun p9 x9 y9 => mft (lokP gn p9) (wdt p9 W) (wdt p9 H) (nI x9) (nI y9) (mus wh (V 2) p9) (mus wh (V 3) p9)) i) W (md + i) (fun _ _ => 0) (fun p9 x9 y9 => mft (lokP gn p9) (wdt p9 W) (wdt p9 H) (nI x9) (nI y9) (mus wh (V 2) p9) (mus wh (V 3) p9)) 5))), (ol, .inl (cs 0, 4608, .inl go)), (ne, .inl (cs 0, 4608, .inl gn)), (ve, .inl (cs 0, 4, .inl V)), (ps, .inl (cs 0, 3, .inl (fun _ => 1024))), (bd, .inl (cs 1, 2, .inl (du 0 1))), (ma, .inl (cs 0, 64, .inl (fun _ => 0)))] Hp := hP
              have hD : va_D A [(o, .inr (7, mdF 0 W H mt qu zz nw ol ne se ke nc ns is ik dc sc 3 (md + i) wh fa re ve ps 0 0 di lv 1 0 bd co bt ma)), (nw, .inl (cs 0, 4608, .inl (mnF (lvF gw W md (fun p9 x9 y9 => mft (lokP gn p9) (wdt p9 W) (wdt p9 H) (nI x9) (nI y9) (mus wh (V 2) p9) (mus wh (V 3) p9)) i) W (md + i) (fun _ _ => 0) (fun p9 x9 y9 => mft (lokP gn p9) (wdt p9 W) (wdt p9 H) (nI x9) (nI y9) (mus wh (V 2) p9) (mus wh (V 3) p9)) 5))), (ol, .inl (cs 0, 4608, .inl go)), (ne, .inl (cs 0, 4608, .inl gn)), (ve, .inl (cs 0, 4, .inl V)), (ps, .inl (cs 0, 3, .inl (fun _ => 1024))), (bd, .inl (cs 1, 2, .inl (du 0 1))), (ma, .inl (cs 0, 64, .inl (fun _ => 0)))] := hD
              have hP := hP1
              refine lv_iinc (v := 5) (lv' := [(5, .int 5), (0, .ref o), (1, .int (nI n)), (4, .int (nI i))]) hx hb dX7_leave_221 hl (k := 0) rfl (rfl) (by decide) rfl (fun ls hl => ?_)
              refine lv_goto (tgt := 164) hx hb dX7_leave_224 (by decide) ?_
              refine lv_iload hx hb dX7_leave_164 (lv_at hl 0 rfl) ?_
              refine lv_bipush (v := 6) hx hb dX7_leave_166 (by decide) ?_
              refine lv_icmp_ge (tgt := 227) hx hb dX7_leave_168 (by decide) (fun c_168 => absurd c_168 (by decide)) (fun _ => ?_)
              refine lv_aload_n hx hb dX7_leave_171 rfl (lv_at hl 1 rfl) ?_
              refine lv_iload hx hb dX7_leave_172 (lv_at hl 0 rfl) ?_
              refine lv_aload_n hx hb dX7_leave_174 rfl (lv_at hl 1 rfl) ?_
              refine xget (C := RX7) (T := TX7) (N := 34) hF hX hP (by decide +kernel) 0 17 rfl rfl (by decide) (by decide +kernel) rfl dX7_leave_175 ?_
              refine lv_iconst (v := 2) hx hb dX7_leave_178 (by decide) ?_
              refine lv_icmp_eq (tgt := 191) hx hb dX7_leave_179 (by decide) (fun c_179 => absurd c_179 (by decide)) (fun _ => ?_)
              refine lv_aload_n hx hb dX7_leave_182 rfl (lv_at hl 1 rfl) ?_
              refine xget (C := RX7) (T := TX7) (N := 34) hF hX hP (by decide +kernel) 0 30 rfl rfl (by decide) (by decide +kernel) rfl dX7_leave_183 ?_
              refine lv_iconst (v := 0) hx hb dX7_leave_186 (by decide) ?_
              refine xzald (k := 0) hF hX hP 6 rfl (rfl) (vp_in_nI (n := 0) (by decide) (by decide)) dX7_leave_187 ?_
              refine lv_if_eq (tgt := 195) hx hb dX7_leave_188 (by decide) (fun _ => ?_) (fun c_188 => absurd (by decide) c_188)
              refine lv_iconst (v := 0) hx hb dX7_leave_195 (by decide) ?_
              refine lv_aload_n hx hb dX7_leave_196 rfl (lv_at hl 1 rfl) ?_
              refine xget (C := RX7) (T := TX7) (N := 34) hF hX hP (by decide +kernel) 0 17 rfl rfl (by decide) (by decide +kernel) rfl dX7_leave_197 ?_
              refine lv_iconst (v := 3) hx hb dX7_leave_200 (by decide) ?_
              refine lv_icmp_ne (tgt := 217) hx hb dX7_leave_201 (by decide) (fun c_201 => absurd (by decide) c_201) (fun _ => ?_)
              refine lv_aload_n hx hb dX7_leave_204 rfl (lv_at hl 1 rfl) ?_
              refine xget (C := RX7) (T := TX7) (N := 34) hF hX hP (by decide +kernel) 0 30 rfl rfl (by decide) (by decide +kernel) rfl dX7_leave_205 ?_
              refine lv_iconst (v := 1) hx hb dX7_leave_208 (by decide) ?_
              refine xzald (k := 1) hF hX hP 6 rfl (rfl) (vp_in_nI (n := 1) (by decide) (by decide)) dX7_leave_209 ?_
              refine lv_if_eq (tgt := 217) hx hb dX7_leave_210 (by decide) (fun c_210 => absurd c_210 (by decide)) (fun _ => ?_)
              refine lv_iconst (v := 1) hx hb dX7_leave_213 (by decide) ?_
              refine lv_goto (tgt := 218) hx hb dX7_leave_214 (by decide) ?_
              refine xVM [true, true, true, true, true, false, false, true] (rest := []) (As := [.int 5, .int 0, .int 1]) (ws1 := [(o, .inr (7, mdF 0 W H mt qu zz nw ol ne se ke nc ns is ik dc sc 3 (md + i) wh fa re ve ps 0 0 di lv 1 0 bd co bt ma)), (nw, .inl (cs 0, 4608, .inl (mpB (mnF (lvF gw W md (fun p9 x9 y9 => mft (lokP gn p9) (wdt p9 W) (wdt p9 H) (nI x9) (nI y9) (mus wh (V 2) p9) (mus wh (V 3) p9)) i) W (md + i) (fun _ _ => 0) (fun p9 x9 y9 => mft (lokP gn p9) (wdt p9 W) (wdt p9 H) (nI x9) (nI y9) (mus wh (V 2) p9) (mus wh (V 3) p9)) 5) W (md + i) 5 (mlF W (md + i) 5 (fun _ => 0) (fun x9 y9 => (mft (lokP gn 2) (wdt 2 W) (wdt 2 H) (nI x9) (nI y9) (mus wh (V 2) 2) (mus wh (V 3) 2)))) (64)))), (ol, .inl (cs 0, 4608, .inl go)), (ne, .inl (cs 0, 4608, .inl gn)), (ve, .inl (cs 0, 4, .inl V)), (ps, .inl (cs 0, 3, .inl (fun _ => 1024))), (bd, .inl (cs 1, 2, .inl (du 0 1))), (ma, .inl (cs 0, 64, .inl (fun _ => 0)))]) (st1 := []) hF (c_X7_putBlock5C l D cs tt o mt qu zz nw ol ne se ke re ve ps di lv bd co bt ma W H (md + i) 0 nc ns is ik dc sc wh fa 0 1 0 (mnF (lvF gw W md (fun p9 x9 y9 => mft (lokP gn p9) (wdt p9 W) (wdt p9 H) (nI x9) (nI y9) (mus wh (V 2) p9) (mus wh (V 3) p9)) i) W (md + i) (fun _ _ => 0) (fun p9 x9 y9 => mft (lokP gn p9) (wdt p9 W) (wdt p9 H) (nI x9) (nI y9) (mus wh (V 2) p9) (mus wh (V 3) p9)) 5) (fun _ => 0) go gn V hw hw4 hh hh3 hmd) gX7_leave_X7_putBlock rfl (n := 3) (by decide +kernel) rfl ⟨⟨rfl, rfl⟩, Nat.le_of_ble_eq_true rfl, Nat.le_of_ble_eq_true rfl⟩ ⟨Nat.le_of_ble_eq_true rfl, Nat.le_of_ble_eq_true rfl⟩ hX hP hD hS rfl [o, nw, ol, ne, ve, ma] rfl rfl (q0 := 0) (ci := 7) rfl rfl rfl hl.1 rfl (Nat.le_of_ble_eq_true rfl) dX7_leave_218 rfl rfl (fun Hp locs hP hD hS => ?_)
              have hP1 : va_P D vwCl [(o, .inr (7, mdF 0 W H mt qu zz nw ol ne se ke nc ns is ik dc sc 3 (md + i) wh fa re ve ps 0 0 di lv 1 0 bd co bt ma)), (nw, .inl (cs 0, 4608, .inl (mnF (lvF gw W md (fun p9 x9 y9 => mft (lokP gn p9) (wdt p9 W) (wdt p9 H) (nI x9) (nI y9) (mus wh (V 2) p9) (mus wh (V 3) p9)) i) W (md + i) (fun _ _ => 0) (fun p9 x9 y9 => mft (lokP gn p9) (wdt p9 W) (wdt p9 H) (nI x9) (nI y9) (mus wh (V 2) p9) (mus wh (V 3) p9)) 6))), (ol, .inl (cs 0, 4608, .inl go)), (ne, .inl (cs 0, 4608, .inl gn)), (ve, .inl (cs 0, 4, .inl V)), (ps, .inl (cs 0, 3, .inl (fun _ => 1024))), (bd, .inl (cs 1, 2, .inl (du 0 1))), (ma, .inl (cs 0, 64, .inl (fun _ => 0)))] Hp := hP
              have hD : va_D A [(o, .inr (7, mdF 0 W H mt qu zz nw ol ne se ke nc ns is ik dc sc 3 (md + i) wh fa re ve ps 0 0 di lv 1 0 bd co bt ma)), (nw, .inl (cs 0, 4608, .inl (mnF (lvF gw W md (fun p9 x9 y9 => mft (lokP gn p9) (wdt p9 W) (wdt p9 H) (nI x9) (nI y9) (mus wh (V 2) p9) (mus wh (V 3) p9)) i) W (md + i) (fun _ _ => 0) (fun p9 x9 y9 => mft (lokP gn p9) (wdt p9 W) (wdt p9 H) (nI x9) (nI y9) (mus wh (V 2) p9) (mus wh (V 3) p9)) 6))), (ol, .inl (cs 0, 4608, .inl go)), (ne, .inl (cs 0, 4608, .inl gn)), (ve, .inl (cs 0, 4, .inl V)), (ps, .inl (cs 0, 3, .inl (fun _ => 1024))), (bd, .inl (cs 1, 2, .inl (du 0 1))), (ma, .inl (cs 0, 64, .inl (fun _ => 0)))] := hD
              have hP := hP1
              refine lv_iinc (v := 6) (lv' := [(5, .int 6), (0, .ref o), (1, .int (nI n)), (4, .int (nI i))]) hx hb dX7_leave_221 hl (k := 0) rfl (rfl) (by decide) rfl (fun ls hl => ?_)
              refine lv_goto (tgt := 164) hx hb dX7_leave_224 (by decide) ?_
              refine lv_iload hx hb dX7_leave_164 (lv_at hl 0 rfl) ?_
              refine lv_bipush (v := 6) hx hb dX7_leave_166 (by decide) ?_
              refine lv_icmp_ge (tgt := 227) hx hb dX7_leave_168 (by decide) (fun _ => ?_) (fun c_168 => absurd (by decide) c_168)
              have hP1 : va_P D vwCl [(o, .inr (7, mdF 0 W H mt qu zz nw ol ne se ke nc ns is ik dc sc 3 (md + i) wh fa re ve ps 0 0 di lv 1 0 bd co bt ma)), (nw, .inl (cs 0, 4608, .inl (lvF gw W md (fun p9 x9 y9 => mft (lokP gn p9) (wdt p9 W) (wdt p9 H) (nI x9) (nI y9) (mus wh (V 2) p9) (mus wh (V 3) p9)) (i + 1)))), (ol, .inl (cs 0, 4608, .inl go)), (ne, .inl (cs 0, 4608, .inl gn)), (ve, .inl (cs 0, 4, .inl V)), (ps, .inl (cs 0, 3, .inl (fun _ => 1024))), (bd, .inl (cs 1, 2, .inl (du 0 1))), (ma, .inl (cs 0, 64, .inl (fun _ => 0)))] Hp := hP
              have hD : va_D A [(o, .inr (7, mdF 0 W H mt qu zz nw ol ne se ke nc ns is ik dc sc 3 (md + i) wh fa re ve ps 0 0 di lv 1 0 bd co bt ma)), (nw, .inl (cs 0, 4608, .inl (lvF gw W md (fun p9 x9 y9 => mft (lokP gn p9) (wdt p9 W) (wdt p9 H) (nI x9) (nI y9) (mus wh (V 2) p9) (mus wh (V 3) p9)) (i + 1)))), (ol, .inl (cs 0, 4608, .inl go)), (ne, .inl (cs 0, 4608, .inl gn)), (ve, .inl (cs 0, 4, .inl V)), (ps, .inl (cs 0, 3, .inl (fun _ => 1024))), (bd, .inl (cs 1, 2, .inl (du 0 1))), (ma, .inl (cs 0, 64, .inl (fun _ => 0)))] := hD
              have hP := hP1
              refine lv_aload_n hx hb dX7_leave_227 rfl (lv_at hl 1 rfl) ?_
              refine lv_dup hx hb dX7_leave_228 rfl ?_
              refine xget (C := RX7) (T := TX7) (N := 34) hF hX hP (by decide +kernel) 0 18 rfl rfl (by decide) (by decide +kernel) rfl dX7_leave_229 ?_
              refine lv_iconst (v := 1) hx hb dX7_leave_232 (by decide) ?_
              refine lv_iadd hx hb dX7_leave_233 ?_
              refine xrwi (z := nI (md + (i + 1))) (nI_1 (md + i)) ?_
              refine xputf (C := RX7) (T := TX7) (N := 34) (ws1 := [(o, .inr (7, mdF 0 W H mt qu zz nw ol ne se ke nc ns is ik dc sc 3 (md + (i + 1)) wh fa re ve ps 0 0 di lv 1 0 bd co bt ma)), (nw, .inl (cs 0, 4608, .inl (lvF gw W md (fun p9 x9 y9 => mft (lokP gn p9) (wdt p9 W) (wdt p9 H) (nI x9) (nI y9) (mus wh (V 2) p9) (mus wh (V 3) p9)) (i + 1)))), (ol, .inl (cs 0, 4608, .inl go)), (ne, .inl (cs 0, 4608, .inl gn)), (ve, .inl (cs 0, 4, .inl V)), (ps, .inl (cs 0, 3, .inl (fun _ => 1024))), (bd, .inl (cs 1, 2, .inl (du 0 1))), (ma, .inl (cs 0, 64, .inl (fun _ => 0)))]) hF hX hP hD hS (by decide +kernel) tyX7 tyX7_ok nmX7 0 18 rfl rfl (by decide) (by decide +kernel) rfl (rfl) (rfl) (Nat.le_of_ble_eq_true rfl) dX7_leave_234 rfl (fun Hp locs hP hD hS => ?_)
              refine lv_iinc (v := (nI (i + 1))) (lv' := [(4, .int (nI (i + 1))), (5, .int 6), (0, .ref o), (1, .int (nI n))]) hx hb dX7_leave_237 hl (k := 3) rfl (nI_1 i) (by decide) rfl (fun ls hl => ?_)
              refine lv_goto (tgt := 155) hx hb dX7_leave_240 (by decide) ?_
              exact ih_155 (i + 1) (by omega) (by omega) _ _ _ hP hD hS (lv_sub hl [2, 3, 0] rfl)
        exact loop_155 (n - 0 + 1) 0 (Nat.lt_succ_self _) (by omega) _ _ _ hP hD hS (lv_sub hl [1, 2, 0] rfl)
      · have hlt : k4 < 64 := nInle (a := 64) (b := k4) rfl rfl (by decide) (by omega) c_135
        refine lv_aload_n hx hb dX7_leave_138 rfl (lv_at hl 0 rfl) ?_
        refine xget (C := RX7) (T := TX7) (N := 34) hF hX hP (by decide +kernel) 0 33 rfl rfl (by decide) (by decide +kernel) rfl dX7_leave_139 ?_
        refine lv_iload hx hb dX7_leave_142 (lv_at hl 2 rfl) ?_
        refine lv_iconst (v := 0) hx hb dX7_leave_144 (by decide) ?_
        refine xast (k := k4) (ws1 := [(o, .inr (7, mdF 0 W H mt qu zz nw ol ne se ke nc ns is ik dc sc 3 md wh fa re ve ps 0 0 di lv 1 0 bd co bt ma)), (nw, .inl (cs 0, 4608, .inl gw)), (ol, .inl (cs 0, 4608, .inl go)), (ne, .inl (cs 0, 4608, .inl gn)), (ve, .inl (cs 0, 4, .inl V)), (ps, .inl (cs 0, 3, .inl (fun _ => 1024))), (bd, .inl (cs 1, 2, .inl (du 0 1))), (ma, .inl (cs 0, 64, .inl (filTo mf 0 (k4 + 1))))]) hF hX hP hD hS 7 rfl (nI_clamp (by omega)) (vp_in_nI (by omega) (by decide)) dX7_leave_145 (congrArg (fun z9 => ([(o, .inr (7, mdF 0 W H mt qu zz nw ol ne se ke nc ns is ik dc sc 3 md wh fa re ve ps 0 0 di lv 1 0 bd co bt ma)), (nw, .inl (cs 0, 4608, .inl gw)), (ol, .inl (cs 0, 4608, .inl go)), (ne, .inl (cs 0, 4608, .inl gn)), (ve, .inl (cs 0, 4, .inl V)), (ps, .inl (cs 0, 3, .inl (fun _ => 1024))), (bd, .inl (cs 1, 2, .inl (du 0 1))), (ma, .inl (cs 0, 64, .inl z9))] : va_W)) (filTo_s mf 0 k4)) (fun Hp locs hP hD hS => ?_)
        refine lv_iinc (v := (nI (k4 + 1))) (lv' := [(4, .int (nI (k4 + 1))), (0, .ref o), (1, .int (nI n))]) hx hb dX7_leave_146 hl (k := 2) rfl (nI_1 k4) (by decide) rfl (fun ls hl => ?_)
        refine lv_goto (tgt := 131) hx hb dX7_leave_149 (by decide) ?_
        exact ih_131 (k4 + 1) (by omega) (by omega) _ _ _ hP hD hS (lv_sub hl [1, 2, 0] rfl)
  have hP := xeqP hP (congrArg (fun z9 => ([(o, .inr (7, mdF 0 W H mt qu zz nw ol ne se ke nc ns is ik dc sc 3 md wh fa re ve ps 0 0 di lv 1 0 bd co bt ma)), (nw, .inl (cs 0, 4608, .inl gw)), (ol, .inl (cs 0, 4608, .inl go)), (ne, .inl (cs 0, 4608, .inl gn)), (ve, .inl (cs 0, 4, .inl V)), (ps, .inl (cs 0, 3, .inl (fun _ => 1024))), (bd, .inl (cs 1, 2, .inl (du 0 1))), (ma, .inl (cs 0, 64, .inl z9))] : va_W)) ((show mf = filTo mf 0 0 from funext (fun j => by simp [filTo]))))
  have hD := xeqD hD (congrArg (fun z9 => ([(o, .inr (7, mdF 0 W H mt qu zz nw ol ne se ke nc ns is ik dc sc 3 md wh fa re ve ps 0 0 di lv 1 0 bd co bt ma)), (nw, .inl (cs 0, 4608, .inl gw)), (ol, .inl (cs 0, 4608, .inl go)), (ne, .inl (cs 0, 4608, .inl gn)), (ve, .inl (cs 0, 4, .inl V)), (ps, .inl (cs 0, 3, .inl (fun _ => 1024))), (bd, .inl (cs 1, 2, .inl (du 0 1))), (ma, .inl (cs 0, 64, .inl z9))] : va_W)) ((show mf = filTo mf 0 0 from funext (fun j => by simp [filTo]))))
  exact loop_131 (64 - 0 + 1) 0 (Nat.lt_succ_self _) (by decide) _ _ _ hP hD hS (lv_sub hl [3, 4, 0] rfl)

set_option maxHeartbeats 4000000 in
set_option maxRecDepth 100000 in
theorem c_X7_leave_D (l : Launch) (D : va_G) (cs : Nat → ClassId) (tt : Nat → Nat) (o mt qu zz nw ol ne se ke re ve ps di lv bd co bt ma W H md : Nat) (th nc ns is ik dc sc wh fa : Int32) (n : Nat) (gw go gn V P mf : Nat → Int32) (hw : 1 ≤ W) (hw4 : W ≤ 4) (hh : 1 ≤ H) (hh3 : H ≤ 3) (hn1 : 1 ≤ n) (hn2 : n ≤ W * H - md) (hm : md ≤ W * H) : xM l yX7_leave wsX7_leave ({ frames := 5, cells := 0, slots := 0, locals := 133 } : Room) D cs tt [.ref o, .int (nI n)] [(o, .inr (7, mdF th W H mt qu zz nw ol ne se ke nc ns is ik dc sc 3 md wh fa re ve ps 0 0 di lv 1 0 bd co bt ma)), (nw, .inl (cs 0, 4608, .inl gw)), (ol, .inl (cs 0, 4608, .inl go)), (ne, .inl (cs 0, 4608, .inl gn)), (ve, .inl (cs 0, 4, .inl V)), (ps, .inl (cs 0, 3, .inl P)), (bd, .inl (cs 1, 2, .inl (du 1 1))), (ma, .inl (cs 0, 64, .inl mf))] (some (.int (nI (md + n)))) [(o, .inr (7, mdF 0 W H mt qu zz nw ol ne se ke nc ns is ik dc sc 3 (md + n) wh fa re ve ps 0 0 di lv 1 0 bd co bt ma)), (nw, .inl (cs 0, 4608, .inl (lvF gw W md (fun p9 x9 y9 => (mft (lokP go p9) (wdt p9 W) (wdt p9 H) (nI x9) (nI y9) (mus wh (V 0) p9) (mus wh (V 1) p9) + mft (lokP gn p9) (wdt p9 W) (wdt p9 H) (nI x9) (nI y9) (mus wh (V 2) p9) (mus wh (V 3) p9) + 1) >>> (1 &&& 31)) n))), (ol, .inl (cs 0, 4608, .inl go)), (ne, .inl (cs 0, 4608, .inl gn)), (ve, .inl (cs 0, 4, .inl V)), (ps, .inl (cs 0, 3, .inl (fun _ => 1024))), (bd, .inl (cs 1, 2, .inl (du 1 1))), (ma, .inl (cs 0, 64, .inl (fun _ => 0)))] := by
  refine xM.of RX7 rfl (by decide) rfl (Nat.le_of_ble_eq_true rfl) ?_
  intro p e s m below meth c A ls hF hr hlk hX hP hD hS hl
  have hx := hF.1
  have hb := hF.2.1
  have hl : lv_has ls 6 [(0, .ref o), (1, .int (nI n))] := hl
  have hWH : W * H ≤ 12 := Nat.mul_le_mul hw4 hh3
  refine lv_aload_n hx hb dX7_leave_0 rfl (lv_at hl 0 rfl) ?_
  refine xget (C := RX7) (T := TX7) (N := 34) hF hX hP (by decide +kernel) 0 17 rfl rfl (by decide) (by decide +kernel) rfl dX7_leave_1 ?_
  refine lv_if_ne (tgt := 11) hx hb dX7_leave_4 (by decide) (fun _ => ?_) (fun c_4 => absurd c_4 (by decide))
  refine lv_aload_n hx hb dX7_leave_11 rfl (lv_at hl 0 rfl) ?_
  refine xget (C := RX7) (T := TX7) (N := 34) hF hX hP (by decide +kernel) 0 1 rfl rfl (by decide) (by decide +kernel) rfl dX7_leave_12 ?_
  refine lv_aload_n hx hb dX7_leave_15 rfl (lv_at hl 0 rfl) ?_
  refine xget (C := RX7) (T := TX7) (N := 34) hF hX hP (by decide +kernel) 0 2 rfl rfl (by decide) (by decide +kernel) rfl dX7_leave_16 ?_
  refine lv_imul hx hb dX7_leave_19 ?_
  refine lv_aload_n hx hb dX7_leave_20 rfl (lv_at hl 0 rfl) ?_
  refine xget (C := RX7) (T := TX7) (N := 34) hF hX hP (by decide +kernel) 0 18 rfl rfl (by decide) (by decide +kernel) rfl dX7_leave_21 ?_
  refine lv_isub hx hb dX7_leave_24 ?_
  refine xrwi (z := nI (W * H - md)) (by rw [pk_mul, pk_sub (by omega)]) ?_
  refine lv_istore_n (lv' := [(2, .int (nI (W * H - md))), (0, .ref o), (1, .int (nI n))]) hx hb dX7_leave_25 rfl hl (by decide) rfl (fun ls hl => ?_)
  refine lv_aload_n hx hb dX7_leave_26 rfl (lv_at hl 1 rfl) ?_
  refine xget (C := RX7) (T := TX7) (N := 34) hF hX hP (by decide +kernel) 0 17 rfl rfl (by decide) (by decide +kernel) rfl dX7_leave_27 ?_
  refine lv_iconst (v := 3) hx hb dX7_leave_30 (by decide) ?_
  refine lv_icmp_ne (tgt := 52) hx hb dX7_leave_31 (by decide) (fun c_31 => absurd (by decide) c_31) (fun _ => ?_)
  refine lv_aload_n hx hb dX7_leave_34 rfl (lv_at hl 1 rfl) ?_
  refine xget (C := RX7) (T := TX7) (N := 34) hF hX hP (by decide +kernel) 0 28 rfl rfl (by decide) (by decide +kernel) rfl dX7_leave_35 ?_
  refine lv_if_eq (tgt := 48) hx hb dX7_leave_38 (by decide) (fun c_38 => absurd c_38 (by decide)) (fun _ => ?_)
  refine lv_aload_n hx hb dX7_leave_41 rfl (lv_at hl 1 rfl) ?_
  refine xget (C := RX7) (T := TX7) (N := 34) hF hX hP (by decide +kernel) 0 29 rfl rfl (by decide) (by decide +kernel) rfl dX7_leave_42 ?_
  refine lv_if_eq (tgt := 52) hx hb dX7_leave_45 (by decide) (fun _ => ?_) (fun c_45 => absurd (by decide) c_45)
  refine lv_iconst (v := 0) hx hb dX7_leave_52 (by decide) ?_
  refine lv_istore_n (lv' := [(3, .int 0), (2, .int (nI (W * H - md))), (0, .ref o), (1, .int (nI n))]) hx hb dX7_leave_53 rfl hl (by decide) rfl (fun ls hl => ?_)
  refine lv_aload_n hx hb dX7_leave_54 rfl (lv_at hl 2 rfl) ?_
  refine lv_iload_n hx hb dX7_leave_55 rfl (lv_at hl 3 rfl) ?_
  refine lv_iconst (v := 1) hx hb dX7_leave_56 (by decide) ?_
  refine lv_icmp_lt (tgt := 65) hx hb dX7_leave_57 (by decide) (fun c_57 => absurd c_57 (nI_nlt (b := 1) hn1 (by omega))) (fun _ => ?_)
  refine lv_iload_n hx hb dX7_leave_60 rfl (lv_at hl 3 rfl) ?_
  refine lv_iload_n hx hb dX7_leave_61 rfl (lv_at hl 1 rfl) ?_
  refine lv_icmp_le (tgt := 69) hx hb dX7_leave_62 (by decide) (fun _ => ?_) (fun c_62 => absurd (nI_le hn2 (by omega)) c_62)
  refine lv_aload_n hx hb dX7_leave_69 rfl (lv_at hl 2 rfl) ?_
  refine xget (C := RX7) (T := TX7) (N := 34) hF hX hP (by decide +kernel) 0 17 rfl rfl (by decide) (by decide +kernel) rfl dX7_leave_70 ?_
  refine lv_if_eq (tgt := 95) hx hb dX7_leave_73 (by decide) (fun c_73 => absurd c_73 (by decide)) (fun _ => ?_)
  refine lv_aload_n hx hb dX7_leave_76 rfl (lv_at hl 2 rfl) ?_
  refine xget (C := RX7) (T := TX7) (N := 34) hF hX hP (by decide +kernel) 0 17 rfl rfl (by decide) (by decide +kernel) rfl dX7_leave_77 ?_
  refine lv_iconst (v := 1) hx hb dX7_leave_80 (by decide) ?_
  refine lv_icmp_eq (tgt := 95) hx hb dX7_leave_81 (by decide) (fun c_81 => absurd c_81 (by decide)) (fun _ => ?_)
  refine lv_aload_n hx hb dX7_leave_84 rfl (lv_at hl 2 rfl) ?_
  refine xget (C := RX7) (T := TX7) (N := 34) hF hX hP (by decide +kernel) 0 25 rfl rfl (by decide) (by decide +kernel) rfl dX7_leave_85 ?_
  refine lv_if_ne (tgt := 95) hx hb dX7_leave_88 (by decide) (fun c_88 => absurd (by decide) c_88) (fun _ => ?_)
  refine lv_iload_n hx hb dX7_leave_91 rfl (lv_at hl 0 rfl) ?_
  refine lv_if_eq (tgt := 99) hx hb dX7_leave_92 (by decide) (fun _ => ?_) (fun c_92 => absurd (by decide) c_92)
  refine lv_iconst (v := 0) hx hb dX7_leave_99 (by decide) ?_
  refine xputf (C := RX7) (T := TX7) (N := 34) (ws1 := [(o, .inr (7, mdF 0 W H mt qu zz nw ol ne se ke nc ns is ik dc sc 3 md wh fa re ve ps 0 0 di lv 1 0 bd co bt ma)), (nw, .inl (cs 0, 4608, .inl gw)), (ol, .inl (cs 0, 4608, .inl go)), (ne, .inl (cs 0, 4608, .inl gn)), (ve, .inl (cs 0, 4, .inl V)), (ps, .inl (cs 0, 3, .inl P)), (bd, .inl (cs 1, 2, .inl (du 1 1))), (ma, .inl (cs 0, 64, .inl mf))]) hF hX hP hD hS (by decide +kernel) tyX7 tyX7_ok nmX7 0 0 rfl rfl (by decide) (by decide +kernel) rfl (rfl) (rfl) (Nat.le_of_ble_eq_true rfl) dX7_leave_100 rfl (fun Hp locs hP hD hS => ?_)
  refine lv_aload_n hx hb dX7_leave_103 rfl (lv_at hl 2 rfl) ?_
  refine xget (C := RX7) (T := TX7) (N := 34) hF hX hP (by decide +kernel) 0 0 rfl rfl (by decide) (by decide +kernel) rfl dX7_leave_104 ?_
  refine lv_if_le (tgt := 112) hx hb dX7_leave_107 (by decide) (fun _ => ?_) (fun c_107 => absurd (by decide) c_107)
  refine lv_aload_n hx hb dX7_leave_112 rfl (lv_at hl 2 rfl) ?_
  refine xget (C := RX7) (T := TX7) (N := 34) hF hX hP (by decide +kernel) 0 17 rfl rfl (by decide) (by decide +kernel) rfl dX7_leave_113 ?_
  refine lv_iconst (v := 2) hx hb dX7_leave_116 (by decide) ?_
  refine lv_icmp_ne (tgt := 124) hx hb dX7_leave_117 (by decide) (fun _ => ?_) (fun c_117 => absurd c_117 (by decide))
  refine lv_aload_n hx hb dX7_leave_124 rfl (lv_at hl 2 rfl) ?_
  refine xVM [true, false, false, false, false, true, false, false] (rest := []) (As := []) (ws1 := [(o, .inr (7, mdF 0 W H mt qu zz nw ol ne se ke nc ns is ik dc sc 3 md wh fa re ve ps 0 0 di lv 1 0 bd co bt ma)), (nw, .inl (cs 0, 4608, .inl gw)), (ol, .inl (cs 0, 4608, .inl go)), (ne, .inl (cs 0, 4608, .inl gn)), (ve, .inl (cs 0, 4, .inl V)), (ps, .inl (cs 0, 3, .inl (fun _ => 1024))), (bd, .inl (cs 1, 2, .inl (du 1 1))), (ma, .inl (cs 0, 64, .inl mf))]) (st1 := []) hF (c_X7_clearPasts l D cs tt o mt qu zz nw ol ne se ke re ve ps di lv bd co bt ma W H md 0 nc ns is ik dc sc 3 wh fa 0 0 1 0 P) gX7_leave_X7_clearPasts rfl (n := 0) (by decide +kernel) rfl ⟨⟨rfl, rfl⟩, Nat.le_of_ble_eq_true rfl, Nat.le_of_ble_eq_true rfl⟩ ⟨Nat.le_of_ble_eq_true rfl, Nat.le_of_ble_eq_true rfl⟩ hX hP hD hS rfl [o, ps] rfl rfl (q0 := 0) (ci := 7) rfl rfl rfl hl.1 rfl (Nat.le_of_ble_eq_true rfl) dX7_leave_125 rfl rfl (fun Hp locs hP hD hS => ?_)
  refine lv_iconst (v := 0) hx hb dX7_leave_128 (by decide) ?_
  refine lv_istore (lv' := [(4, .int 0), (3, .int 0), (2, .int (nI (W * H - md))), (0, .ref o), (1, .int (nI n))]) hx hb dX7_leave_129 hl (by decide) rfl (fun ls hl => ?_)
  have loop_131 : ∀ (k131 : Nat) (k4 : Nat), 64 - k4 < k131 → k4 ≤ 64 → ∀ (Hp : Heap) (locs : List Loc) (ls : Array Slot), va_P D vwCl [(o, .inr (7, mdF 0 W H mt qu zz nw ol ne se ke nc ns is ik dc sc 3 md wh fa re ve ps 0 0 di lv 1 0 bd co bt ma)), (nw, .inl (cs 0, 4608, .inl gw)), (ol, .inl (cs 0, 4608, .inl go)), (ne, .inl (cs 0, 4608, .inl gn)), (ve, .inl (cs 0, 4, .inl V)), (ps, .inl (cs 0, 3, .inl (fun _ => 1024))), (bd, .inl (cs 1, 2, .inl (du 1 1))), (ma, .inl (cs 0, 64, .inl (filTo mf 0 k4)))] Hp → va_D A [(o, .inr (7, mdF 0 W H mt qu zz nw ol ne se ke nc ns is ik dc sc 3 md wh fa re ve ps 0 0 di lv 1 0 bd co bt ma)), (nw, .inl (cs 0, 4608, .inl gw)), (ol, .inl (cs 0, 4608, .inl go)), (ne, .inl (cs 0, 4608, .inl gn)), (ve, .inl (cs 0, 4, .inl V)), (ps, .inl (cs 0, 3, .inl (fun _ => 1024))), (bd, .inl (cs 1, 2, .inl (du 1 1))), (ma, .inl (cs 0, 64, .inl (filTo mf 0 k4)))] → va_S A s.heap Hp locs → lv_has ls 6 [(0, .ref o), (1, .int (nI n)), (4, .int (nI k4))] → xW p l e ({ frames := 5, cells := 0, slots := 0, locals := 133 } : Room) s m ([.ref o, .int (nI n)] : List Value).toArray below meth c Hp locs 0 0 (MQ below (xE D A (some (.int (nI (md + n)))) [(o, .inr (7, mdF 0 W H mt qu zz nw ol ne se ke nc ns is ik dc sc 3 (md + n) wh fa re ve ps 0 0 di lv 1 0 bd co bt ma)), (nw, .inl (cs 0, 4608, .inl (lvF gw W md (fun p9 x9 y9 => (mft (lokP go p9) (wdt p9 W) (wdt p9 H) (nI x9) (nI y9) (mus wh (V 0) p9) (mus wh (V 1) p9) + mft (lokP gn p9) (wdt p9 W) (wdt p9 H) (nI x9) (nI y9) (mus wh (V 2) p9) (mus wh (V 3) p9) + 1) >>> (1 &&& 31)) n))), (ol, .inl (cs 0, 4608, .inl go)), (ne, .inl (cs 0, 4608, .inl gn)), (ve, .inl (cs 0, 4, .inl V)), (ps, .inl (cs 0, 3, .inl (fun _ => 1024))), (bd, .inl (cs 1, 2, .inl (du 1 1))), (ma, .inl (cs 0, 64, .inl (fun _ => 0)))]) ([.ref o, .int (nI n)] : List Value).toArray s 0 0 A) (F0 m 131 ls []) := by
    intro k131
    induction k131 with
    | zero => intro k4 h9; omega
    | succ k131 ih_131 =>
      intro k4 hk131 hk4 Hp locs ls hP hD hS hl
      refine lv_iload hx hb dX7_leave_131 (lv_at hl 2 rfl) ?_
      refine lv_bipush (v := 64) hx hb dX7_leave_133 (by decide) ?_
      refine lv_icmp_ge (tgt := 152) hx hb dX7_leave_135 (by decide) (fun c_135 => ?_) (fun c_135 => ?_)
      · have e9 : 64 ≤ k4 := nIle (a := 64) (b := k4) rfl rfl (by decide) (by omega) c_135
        have hP1 : va_P D vwCl [(o, .inr (7, mdF 0 W H mt qu zz nw ol ne se ke nc ns is ik dc sc 3 md wh fa re ve ps 0 0 di lv 1 0 bd co bt ma)), (nw, .inl (cs 0, 4608, .inl gw)), (ol, .inl (cs 0, 4608, .inl go)), (ne, .inl (cs 0, 4608, .inl gn)), (ve, .inl (cs 0, 4, .inl V)), (ps, .inl (cs 0, 3, .inl (fun _ => 1024))), (bd, .inl (cs 1, 2, .inl (du 1 1))), (ma, .inl (cs 0, 64, .inl (fun _ => 0)))] Hp := xcongP (g := (fun _ => 0)) hP 7 rfl hD (fun j hj => by simp [filTo, Nat.lt_of_lt_of_le hj e9])
        have hD : va_D A [(o, .inr (7, mdF 0 W H mt qu zz nw ol ne se ke nc ns is ik dc sc 3 md wh fa re ve ps 0 0 di lv 1 0 bd co bt ma)), (nw, .inl (cs 0, 4608, .inl gw)), (ol, .inl (cs 0, 4608, .inl go)), (ne, .inl (cs 0, 4608, .inl gn)), (ve, .inl (cs 0, 4, .inl V)), (ps, .inl (cs 0, 3, .inl (fun _ => 1024))), (bd, .inl (cs 1, 2, .inl (du 1 1))), (ma, .inl (cs 0, 64, .inl (fun _ => 0)))] := xcongD (g := (fun _ => 0)) 7 rfl hD
        have hP := hP1
        refine lv_iconst (v := 0) hx hb dX7_leave_152 (by decide) ?_
        refine lv_istore (lv' := [(4, .int 0), (0, .ref o), (1, .int (nI n))]) hx hb dX7_leave_153 hl (by decide) rfl (fun ls hl => ?_)
        have loop_155 : ∀ (k155 : Nat) (i : Nat), n - i < k155 → i ≤ n → ∀ (Hp : Heap) (locs : List Loc) (ls : Array Slot), va_P D vwCl [(o, .inr (7, mdF 0 W H mt qu zz nw ol ne se ke nc ns is ik dc sc 3 (md + i) wh fa re ve ps 0 0 di lv 1 0 bd co bt ma)), (nw, .inl (cs 0, 4608, .inl (lvF gw W md (fun p9 x9 y9 => (mft (lokP go p9) (wdt p9 W) (wdt p9 H) (nI x9) (nI y9) (mus wh (V 0) p9) (mus wh (V 1) p9) + mft (lokP gn p9) (wdt p9 W) (wdt p9 H) (nI x9) (nI y9) (mus wh (V 2) p9) (mus wh (V 3) p9) + 1) >>> (1 &&& 31)) i))), (ol, .inl (cs 0, 4608, .inl go)), (ne, .inl (cs 0, 4608, .inl gn)), (ve, .inl (cs 0, 4, .inl V)), (ps, .inl (cs 0, 3, .inl (fun _ => 1024))), (bd, .inl (cs 1, 2, .inl (du 1 1))), (ma, .inl (cs 0, 64, .inl (fun _ => 0)))] Hp → va_D A [(o, .inr (7, mdF 0 W H mt qu zz nw ol ne se ke nc ns is ik dc sc 3 (md + i) wh fa re ve ps 0 0 di lv 1 0 bd co bt ma)), (nw, .inl (cs 0, 4608, .inl (lvF gw W md (fun p9 x9 y9 => (mft (lokP go p9) (wdt p9 W) (wdt p9 H) (nI x9) (nI y9) (mus wh (V 0) p9) (mus wh (V 1) p9) + mft (lokP gn p9) (wdt p9 W) (wdt p9 H) (nI x9) (nI y9) (mus wh (V 2) p9) (mus wh (V 3) p9) + 1) >>> (1 &&& 31)) i))), (ol, .inl (cs 0, 4608, .inl go)), (ne, .inl (cs 0, 4608, .inl gn)), (ve, .inl (cs 0, 4, .inl V)), (ps, .inl (cs 0, 3, .inl (fun _ => 1024))), (bd, .inl (cs 1, 2, .inl (du 1 1))), (ma, .inl (cs 0, 64, .inl (fun _ => 0)))] → va_S A s.heap Hp locs → lv_has ls 6 [(0, .ref o), (1, .int (nI n)), (4, .int (nI i))] → xW p l e ({ frames := 5, cells := 0, slots := 0, locals := 133 } : Room) s m ([.ref o, .int (nI n)] : List Value).toArray below meth c Hp locs 0 0 (MQ below (xE D A (some (.int (nI (md + n)))) [(o, .inr (7, mdF 0 W H mt qu zz nw ol ne se ke nc ns is ik dc sc 3 (md + n) wh fa re ve ps 0 0 di lv 1 0 bd co bt ma)), (nw, .inl (cs 0, 4608, .inl (lvF gw W md (fun p9 x9 y9 => (mft (lokP go p9) (wdt p9 W) (wdt p9 H) (nI x9) (nI y9) (mus wh (V 0) p9) (mus wh (V 1) p9) + mft (lokP gn p9) (wdt p9 W) (wdt p9 H) (nI x9) (nI y9) (mus wh (V 2) p9) (mus wh (V 3) p9) + 1) >>> (1 &&& 31)) n))), (ol, .inl (cs 0, 4608, .inl go)), (ne, .inl (cs 0, 4608, .inl gn)), (ve, .inl (cs 0, 4, .inl V)), (ps, .inl (cs 0, 3, .inl (fun _ => 1024))), (bd, .inl (cs 1, 2, .inl (du 1 1))), (ma, .inl (cs 0, 64, .inl (fun _ => 0)))]) ([.ref o, .int (nI n)] : List Value).toArray s 0 0 A) (F0 m 155 ls []) := by
          intro k155
          induction k155 with
          | zero => intro i h9; omega
          | succ k155 ih_155 =>
            intro i hk155 hi Hp locs ls hP hD hS hl
            refine lv_iload hx hb dX7_leave_155 (lv_at hl 2 rfl) ?_
            refine lv_iload_n hx hb dX7_leave_157 rfl (lv_at hl 1 rfl) ?_
            refine lv_icmp_ge (tgt := 243) hx hb dX7_leave_158 (by decide) (fun c_158 => ?_) (fun c_158 => ?_)
            · have e8 : i = n := by have := nIle (a := n) (b := i) rfl rfl (by omega) (by omega) c_158; omega
              subst e8
              refine lv_aload_n hx hb dX7_leave_243 rfl (lv_at hl 0 rfl) ?_
              refine xget (C := RX7) (T := TX7) (N := 34) hF hX hP (by decide +kernel) 0 17 rfl rfl (by decide) (by decide +kernel) rfl dX7_leave_244 ?_
              refine lv_iconst (v := 2) hx hb dX7_leave_247 (by decide) ?_
              refine lv_icmp_ne (tgt := 275) hx hb dX7_leave_248 (by decide) (fun _ => ?_) (fun c_248 => absurd c_248 (by decide))
              refine lv_aload_n hx hb dX7_leave_275 rfl (lv_at hl 0 rfl) ?_
              refine xget (C := RX7) (T := TX7) (N := 34) hF hX hP (by decide +kernel) 0 18 rfl rfl (by decide) (by decide +kernel) rfl dX7_leave_276 ?_
              exact xri (Q9 := fun _ _ _ _ => True) hF hr hlk hP hD hS dX7_leave_279
            · have hin : i < n := nInle (a := n) (b := i) rfl rfl (by omega) (by omega) c_158
              have hmd : md + i < W * H := by omega
              refine lv_iconst (v := 0) hx hb dX7_leave_161 (by decide) ?_
              refine lv_istore (lv' := [(5, .int 0), (0, .ref o), (1, .int (nI n)), (4, .int (nI i))]) hx hb dX7_leave_162 hl (by decide) rfl (fun ls hl => ?_)
              have hP1 : va_P D vwCl [(o, .inr (7, mdF 0 W H mt qu zz nw ol ne se ke nc ns is ik dc sc 3 (md + i) wh fa re ve ps 0 0 di lv 1 0 bd co bt ma)), (nw, .inl (cs 0, 4608, .inl (mnF (lvF gw W md (fun p9 x9 y9 => (mft (lokP go p9) (wdt p9 W) (wdt p9 H) (nI x9) (nI y9) (mus wh (V 0) p9) (mus wh (V 1) p9) + mft (lokP gn p9) (wdt p9 W) (wdt p9 H) (nI x9) (nI y9) (mus wh (V 2) p9) (mus wh (V 3) p9) + 1) >>> (1 &&& 31)) i) W (md + i) (fun _ _ => 0) (fun p9 x9 y9 => (mft (lokP go p9) (wdt p9 W) (wdt p9 H) (nI x9) (nI y9) (mus wh (V 0) p9) (mus wh (V 1) p9) + mft (lokP gn p9) (wdt p9 W) (wdt p9 H) (nI x9) (nI y9) (mus wh (V 2) p9) (mus wh (V 3) p9) + 1) >>> (1 &&& 31)) 0))), (ol, .inl (cs 0, 4608, .inl go)), (ne, .inl (cs 0, 4608, .inl gn)), (ve, .inl (cs 0, 4, .inl V)), (ps, .inl (cs 0, 3, .inl (fun _ => 1024))), (bd, .inl (cs 1, 2, .inl (du 1 1))), (ma, .inl (cs 0, 64, .inl (fun _ => 0)))] Hp := hP
              have hD : va_D A [(o, .inr (7, mdF 0 W H mt qu zz nw ol ne se ke nc ns is ik dc sc 3 (md + i) wh fa re ve ps 0 0 di lv 1 0 bd co bt ma)), (nw, .inl (cs 0, 4608, .inl (mnF (lvF gw W md (fun p9 x9 y9 => (mft (lokP go p9) (wdt p9 W) (wdt p9 H) (nI x9) (nI y9) (mus wh (V 0) p9) (mus wh (V 1) p9) + mft (lokP gn p9) (wdt p9 W) (wdt p9 H) (nI x9) (nI y9) (mus wh (V 2) p9) (mus wh (V 3) p9) + 1) >>> (1 &&& 31)) i) W (md + i) (fun _ _ => 0) (fun p9 x9 y9 => (mft (lokP go p9) (wdt p9 W) (wdt p9 H) (nI x9) (nI y9) (mus wh (V 0) p9) (mus wh (V 1) p9) + mft (lokP gn p9) (wdt p9 W) (wdt p9 H) (nI x9) (nI y9) (mus wh (V 2) p9) (mus wh (V 3) p9) + 1) >>> (1 &&& 31)) 0))), (ol, .inl (cs 0, 4608, .inl go)), (ne, .inl (cs 0, 4608, .inl gn)), (ve, .inl (cs 0, 4, .inl V)), (ps, .inl (cs 0, 3, .inl (fun _ => 1024))), (bd, .inl (cs 1, 2, .inl (du 1 1))), (ma, .inl (cs 0, 64, .inl (fun _ => 0)))] := hD
              have hP := hP1
              refine lv_iload hx hb dX7_leave_164 (lv_at hl 0 rfl) ?_
              refine lv_bipush (v := 6) hx hb dX7_leave_166 (by decide) ?_
              refine lv_icmp_ge (tgt := 227) hx hb dX7_leave_168 (by decide) (fun c_168 => absurd c_168 (by decide)) (fun _ => ?_)
              refine lv_aload_n hx hb dX7_leave_171 rfl (lv_at hl 1 rfl) ?_
              refine lv_iload hx hb dX7_leave_172 (lv_at hl 0 rfl) ?_
              refine lv_aload_n hx hb dX7_leave_174 rfl (lv_at hl 1 rfl) ?_
              refine xget (C := RX7) (T := TX7) (N := 34) hF hX hP (by decide +kernel) 0 17 rfl rfl (by decide) (by decide +kernel) rfl dX7_leave_175 ?_
              refine lv_iconst (v := 2) hx hb dX7_leave_178 (by decide) ?_
              refine lv_icmp_eq (tgt := 191) hx hb dX7_leave_179 (by decide) (fun c_179 => absurd c_179 (by decide)) (fun _ => ?_)
              refine lv_aload_n hx hb dX7_leave_182 rfl (lv_at hl 1 rfl) ?_
              refine xget (C := RX7) (T := TX7) (N := 34) hF hX hP (by decide +kernel) 0 30 rfl rfl (by decide) (by decide +kernel) rfl dX7_leave_183 ?_
              refine lv_iconst (v := 0) hx hb dX7_leave_186 (by decide) ?_
              refine xzald (k := 0) hF hX hP 6 rfl (rfl) (vp_in_nI (n := 0) (by decide) (by decide)) dX7_leave_187 ?_
              refine lv_if_eq (tgt := 195) hx hb dX7_leave_188 (by decide) (fun c_188 => absurd c_188 (by decide)) (fun _ => ?_)
              refine lv_iconst (v := 1) hx hb dX7_leave_191 (by decide) ?_
              refine lv_goto (tgt := 196) hx hb dX7_leave_192 (by decide) ?_
              refine lv_aload_n hx hb dX7_leave_196 rfl (lv_at hl 1 rfl) ?_
              refine xget (C := RX7) (T := TX7) (N := 34) hF hX hP (by decide +kernel) 0 17 rfl rfl (by decide) (by decide +kernel) rfl dX7_leave_197 ?_
              refine lv_iconst (v := 3) hx hb dX7_leave_200 (by decide) ?_
              refine lv_icmp_ne (tgt := 217) hx hb dX7_leave_201 (by decide) (fun c_201 => absurd (by decide) c_201) (fun _ => ?_)
              refine lv_aload_n hx hb dX7_leave_204 rfl (lv_at hl 1 rfl) ?_
              refine xget (C := RX7) (T := TX7) (N := 34) hF hX hP (by decide +kernel) 0 30 rfl rfl (by decide) (by decide +kernel) rfl dX7_leave_205 ?_
              refine lv_iconst (v := 1) hx hb dX7_leave_208 (by decide) ?_
              refine xzald (k := 1) hF hX hP 6 rfl (rfl) (vp_in_nI (n := 1) (by decide) (by decide)) dX7_leave_209 ?_
              refine lv_if_eq (tgt := 217) hx hb dX7_leave_210 (by decide) (fun c_210 => absurd c_210 (by decide)) (fun _ => ?_)
              refine lv_iconst (v := 1) hx hb dX7_leave_213 (by decide) ?_
              refine lv_goto (tgt := 218) hx hb dX7_leave_214 (by decide) ?_
              refine xVM [true, true, true, true, true, false, false, true] (rest := []) (As := [.int 0, .int 1, .int 1]) (ws1 := [(o, .inr (7, mdF 0 W H mt qu zz nw ol ne se ke nc ns is ik dc sc 3 (md + i) wh fa re ve ps 0 0 di lv 1 0 bd co bt ma)), (nw, .inl (cs 0, 4608, .inl (mpB (mnF (lvF gw W md (fun p9 x9 y9 => (mft (lokP go p9) (wdt p9 W) (wdt p9 H) (nI x9) (nI y9) (mus wh (V 0) p9) (mus wh (V 1) p9) + mft (lokP gn p9) (wdt p9 W) (wdt p9 H) (nI x9) (nI y9) (mus wh (V 2) p9) (mus wh (V 3) p9) + 1) >>> (1 &&& 31)) i) W (md + i) (fun _ _ => 0) (fun p9 x9 y9 => (mft (lokP go p9) (wdt p9 W) (wdt p9 H) (nI x9) (nI y9) (mus wh (V 0) p9) (mus wh (V 1) p9) + mft (lokP gn p9) (wdt p9 W) (wdt p9 H) (nI x9) (nI y9) (mus wh (V 2) p9) (mus wh (V 3) p9) + 1) >>> (1 &&& 31)) 0) W (md + i) 0 (mlF W (md + i) 0 (fun _ => 0) (fun x9 y9 => (((mft (lokP go 0) (wdt 0 W) (wdt 0 H) (nI x9) (nI y9) (mus wh (V 0) 0) (mus wh (V 1) 0)) + (mft (lokP gn 0) (wdt 0 W) (wdt 0 H) (nI x9) (nI y9) (mus wh (V 2) 0) (mus wh (V 3) 0)) + 1) >>> (1 &&& 31)))) (64)))), (ol, .inl (cs 0, 4608, .inl go)), (ne, .inl (cs 0, 4608, .inl gn)), (ve, .inl (cs 0, 4, .inl V)), (ps, .inl (cs 0, 3, .inl (fun _ => 1024))), (bd, .inl (cs 1, 2, .inl (du 1 1))), (ma, .inl (cs 0, 64, .inl (fun _ => 0)))]) (st1 := []) hF (c_X7_putBlock0D l D cs tt o mt qu zz nw ol ne se ke re ve ps di lv bd co bt ma W H (md + i) 0 nc ns is ik dc sc wh fa 0 1 0 (mnF (lvF gw W md (fun p9 x9 y9 => (mft (lokP go p9) (wdt p9 W) (wdt p9 H) (nI x9) (nI y9) (mus wh (V 0) p9) (mus wh (V 1) p9) + mft (lokP gn p9) (wdt p9 W) (wdt p9 H) (nI x9) (nI y9) (mus wh (V 2) p9) (mus wh (V 3) p9) + 1) >>> (1 &&& 31)) i) W (md + i) (fun _ _ => 0) (fun p9 x9 y9 => (mft (lokP go p9) (wdt p9 W) (wdt p9 H) (nI x9) (nI y9) (mus wh (V 0) p9) (mus wh (V 1) p9) + mft (lokP gn p9) (wdt p9 W) (wdt p9 H) (nI x9) (nI y9) (mus wh (V 2) p9) (mus wh (V 3) p9) + 1) >>> (1 &&& 31)) 0) (fun _ => 0) go gn V hw hw4 hh hh3 hmd) gX7_leave_X7_putBlock rfl (n := 3) (by decide +kernel) rfl ⟨⟨rfl, rfl⟩, Nat.le_of_ble_eq_true rfl, Nat.le_of_ble_eq_true rfl⟩ ⟨Nat.le_of_ble_eq_true rfl, Nat.le_of_ble_eq_true rfl⟩ hX hP hD hS rfl [o, nw, ol, ne, ve, ma] rfl rfl (q0 := 0) (ci := 7) rfl rfl rfl hl.1 rfl (Nat.le_of_ble_eq_true rfl) dX7_leave_218 rfl rfl (fun Hp locs hP hD hS => ?_)
              have hP1 : va_P D vwCl [(o, .inr (7, mdF 0 W H mt qu zz nw ol ne se ke nc ns is ik dc sc 3 (md + i) wh fa re ve ps 0 0 di lv 1 0 bd co bt ma)), (nw, .inl (cs 0, 4608, .inl (mnF (lvF gw W md (fun p9 x9 y9 => (mft (lokP go p9) (wdt p9 W) (wdt p9 H) (nI x9) (nI y9) (mus wh (V 0) p9) (mus wh (V 1) p9) + mft (lokP gn p9) (wdt p9 W) (wdt p9 H) (nI x9) (nI y9) (mus wh (V 2) p9) (mus wh (V 3) p9) + 1) >>> (1 &&& 31)) i) W (md + i) (fun _ _ => 0) (fun p9 x9 y9 => (mft (lokP go p9) (wdt p9 W) (wdt p9 H) (nI x9) (nI y9) (mus wh (V 0) p9) (mus wh (V 1) p9) + mft (lokP gn p9) (wdt p9 W) (wdt p9 H) (nI x9) (nI y9) (mus wh (V 2) p9) (mus wh (V 3) p9) + 1) >>> (1 &&& 31)) 1))), (ol, .inl (cs 0, 4608, .inl go)), (ne, .inl (cs 0, 4608, .inl gn)), (ve, .inl (cs 0, 4, .inl V)), (ps, .inl (cs 0, 3, .inl (fun _ => 1024))), (bd, .inl (cs 1, 2, .inl (du 1 1))), (ma, .inl (cs 0, 64, .inl (fun _ => 0)))] Hp := hP
              have hD : va_D A [(o, .inr (7, mdF 0 W H mt qu zz nw ol ne se ke nc ns is ik dc sc 3 (md + i) wh fa re ve ps 0 0 di lv 1 0 bd co bt ma)), (nw, .inl (cs 0, 4608, .inl (mnF (lvF gw W md (fun p9 x9 y9 => (mft (lokP go p9) (wdt p9 W) (wdt p9 H) (nI x9) (nI y9) (mus wh (V 0) p9) (mus wh (V 1) p9) + mft (lokP gn p9) (wdt p9 W) (wdt p9 H) (nI x9) (nI y9) (mus wh (V 2) p9) (mus wh (V 3) p9) + 1) >>> (1 &&& 31)) i) W (md + i) (fun _ _ => 0) (fun p9 x9 y9 => (mft (lokP go p9) (wdt p9 W) (wdt p9 H) (nI x9) (nI y9) (mus wh (V 0) p9) (mus wh (V 1) p9) + mft (lokP gn p9) (wdt p9 W) (wdt p9 H) (nI x9) (nI y9) (mus wh (V 2) p9) (mus wh (V 3) p9) + 1) >>> (1 &&& 31)) 1))), (ol, .inl (cs 0, 4608, .inl go)), (ne, .inl (cs 0, 4608, .inl gn)), (ve, .inl (cs 0, 4, .inl V)), (ps, .inl (cs 0, 3, .inl (fun _ => 1024))), (bd, .inl (cs 1, 2, .inl (du 1 1))), (ma, .inl (cs 0, 64, .inl (fun _ => 0)))] := hD
              have hP := hP1
              refine lv_iinc (v := 1) (lv' := [(5, .int 1), (0, .ref o), (1, .int (nI n)), (4, .int (nI i))]) hx hb dX7_leave_221 hl (k := 0) rfl (rfl) (by decide) rfl (fun ls hl => ?_)
              refine lv_goto (tgt := 164) hx hb dX7_leave_224 (by decide) ?_
              refine lv_iload hx hb dX7_leave_164 (lv_at hl 0 rfl) ?_
              refine lv_bipush (v := 6) hx hb dX7_leave_166 (by decide) ?_
              refine lv_icmp_ge (tgt := 227) hx hb dX7_leave_168 (by decide) (fun c_168 => absurd c_168 (by decide)) (fun _ => ?_)
              refine lv_aload_n hx hb dX7_leave_171 rfl (lv_at hl 1 rfl) ?_
              refine lv_iload hx hb dX7_leave_172 (lv_at hl 0 rfl) ?_
              refine lv_aload_n hx hb dX7_leave_174 rfl (lv_at hl 1 rfl) ?_
              refine xget (C := RX7) (T := TX7) (N := 34) hF hX hP (by decide +kernel) 0 17 rfl rfl (by decide) (by decide +kernel) rfl dX7_leave_175 ?_
              refine lv_iconst (v := 2) hx hb dX7_leave_178 (by decide) ?_
              refine lv_icmp_eq (tgt := 191) hx hb dX7_leave_179 (by decide) (fun c_179 => absurd c_179 (by decide)) (fun _ => ?_)
              refine lv_aload_n hx hb dX7_leave_182 rfl (lv_at hl 1 rfl) ?_
              refine xget (C := RX7) (T := TX7) (N := 34) hF hX hP (by decide +kernel) 0 30 rfl rfl (by decide) (by decide +kernel) rfl dX7_leave_183 ?_
              refine lv_iconst (v := 0) hx hb dX7_leave_186 (by decide) ?_
              refine xzald (k := 0) hF hX hP 6 rfl (rfl) (vp_in_nI (n := 0) (by decide) (by decide)) dX7_leave_187 ?_
              refine lv_if_eq (tgt := 195) hx hb dX7_leave_188 (by decide) (fun c_188 => absurd c_188 (by decide)) (fun _ => ?_)
              refine lv_iconst (v := 1) hx hb dX7_leave_191 (by decide) ?_
              refine lv_goto (tgt := 196) hx hb dX7_leave_192 (by decide) ?_
              refine lv_aload_n hx hb dX7_leave_196 rfl (lv_at hl 1 rfl) ?_
              refine xget (C := RX7) (T := TX7) (N := 34) hF hX hP (by decide +kernel) 0 17 rfl rfl (by decide) (by decide +kernel) rfl dX7_leave_197 ?_
              refine lv_iconst (v := 3) hx hb dX7_leave_200 (by decide) ?_
              refine lv_icmp_ne (tgt := 217) hx hb dX7_leave_201 (by decide) (fun c_201 => absurd (by decide) c_201) (fun _ => ?_)
              refine lv_aload_n hx hb dX7_leave_204 rfl (lv_at hl 1 rfl) ?_
              refine xget (C := RX7) (T := TX7) (N := 34) hF hX hP (by decide +kernel) 0 30 rfl rfl (by decide) (by decide +kernel) rfl dX7_leave_205 ?_
              refine lv_iconst (v := 1) hx hb dX7_leave_208 (by decide) ?_
              refine xzald (k := 1) hF hX hP 6 rfl (rfl) (vp_in_nI (n := 1) (by decide) (by decide)) dX7_leave_209 ?_
              refine lv_if_eq (tgt := 217) hx hb dX7_leave_210 (by decide) (fun c_210 => absurd c_210 (by decide)) (fun _ => ?_)
              refine lv_iconst (v := 1) hx hb dX7_leave_213 (by decide) ?_
              refine lv_goto (tgt := 218) hx hb dX7_leave_214 (by decide) ?_
              refine xVM [true, true, true, true, true, false, false, true] (rest := []) (As := [.int 1, .int 1, .int 1]) (ws1 := [(o, .inr (7, mdF 0 W H mt qu zz nw ol ne se ke nc ns is ik dc sc 3 (md + i) wh fa re ve ps 0 0 di lv 1 0 bd co bt ma)), (nw, .inl (cs 0, 4608, .inl (mpB (mnF (lvF gw W md (fun p9 x9 y9 => (mft (lokP go p9) (wdt p9 W) (wdt p9 H) (nI x9) (nI y9) (mus wh (V 0) p9) (mus wh (V 1) p9) + mft (lokP gn p9) (wdt p9 W) (wdt p9 H) (nI x9) (nI y9) (mus wh (V 2) p9) (mus wh (V 3) p9) + 1) >>> (1 &&& 31)) i) W (md + i) (fun _ _ => 0) (fun p9 x9 y9 => (mft (lokP go p9) (wdt p9 W) (wdt p9 H) (nI x9) (nI y9) (mus wh (V 0) p9) (mus wh (V 1) p9) + mft (lokP gn p9) (wdt p9 W) (wdt p9 H) (nI x9) (nI y9) (mus wh (V 2) p9) (mus wh (V 3) p9) + 1) >>> (1 &&& 31)) 1) W (md + i) 1 (mlF W (md + i) 1 (fun _ => 0) (fun x9 y9 => (((mft (lokP go 0) (wdt 0 W) (wdt 0 H) (nI x9) (nI y9) (mus wh (V 0) 0) (mus wh (V 1) 0)) + (mft (lokP gn 0) (wdt 0 W) (wdt 0 H) (nI x9) (nI y9) (mus wh (V 2) 0) (mus wh (V 3) 0)) + 1) >>> (1 &&& 31)))) (64)))), (ol, .inl (cs 0, 4608, .inl go)), (ne, .inl (cs 0, 4608, .inl gn)), (ve, .inl (cs 0, 4, .inl V)), (ps, .inl (cs 0, 3, .inl (fun _ => 1024))), (bd, .inl (cs 1, 2, .inl (du 1 1))), (ma, .inl (cs 0, 64, .inl (fun _ => 0)))]) (st1 := []) hF (c_X7_putBlock1D l D cs tt o mt qu zz nw ol ne se ke re ve ps di lv bd co bt ma W H (md + i) 0 nc ns is ik dc sc wh fa 0 1 0 (mnF (lvF gw W md (fun p9 x9 y9 => (mft (lokP go p9) (wdt p9 W) (wdt p9 H) (nI x9) (nI y9) (mus wh (V 0) p9) (mus wh (V 1) p9) + mft (lokP gn p9) (wdt p9 W) (wdt p9 H) (nI x9) (nI y9) (mus wh (V 2) p9) (mus wh (V 3) p9) + 1) >>> (1 &&& 31)) i) W (md + i) (fun _ _ => 0) (fun p9 x9 y9 => (mft (lokP go p9) (wdt p9 W) (wdt p9 H) (nI x9) (nI y9) (mus wh (V 0) p9) (mus wh (V 1) p9) + mft (lokP gn p9) (wdt p9 W) (wdt p9 H) (nI x9) (nI y9) (mus wh (V 2) p9) (mus wh (V 3) p9) + 1) >>> (1 &&& 31)) 1) (fun _ => 0) go gn V hw hw4 hh hh3 hmd) gX7_leave_X7_putBlock rfl (n := 3) (by decide +kernel) rfl ⟨⟨rfl, rfl⟩, Nat.le_of_ble_eq_true rfl, Nat.le_of_ble_eq_true rfl⟩ ⟨Nat.le_of_ble_eq_true rfl, Nat.le_of_ble_eq_true rfl⟩ hX hP hD hS rfl [o, nw, ol, ne, ve, ma] rfl rfl (q0 := 0) (ci := 7) rfl rfl rfl hl.1 rfl (Nat.le_of_ble_eq_true rfl) dX7_leave_218 rfl rfl (fun Hp locs hP hD hS => ?_)
              have hP1 : va_P D vwCl [(o, .inr (7, mdF 0 W H mt qu zz nw ol ne se ke nc ns is ik dc sc 3 (md + i) wh fa re ve ps 0 0 di lv 1 0 bd co bt ma)), (nw, .inl (cs 0, 4608, .inl (mnF (lvF gw W md (fun p9 x9 y9 => (mft (lokP go p9) (wdt p9 W) (wdt p9 H) (nI x9) (nI y9) (mus wh (V 0) p9) (mus wh (V 1) p9) + mft (lokP gn p9) (wdt p9 W) (wdt p9 H) (nI x9) (nI y9) (mus wh (V 2) p9) (mus wh (V 3) p9) + 1) >>> (1 &&& 31)) i) W (md + i) (fun _ _ => 0) (fun p9 x9 y9 => (mft (lokP go p9) (wdt p9 W) (wdt p9 H) (nI x9) (nI y9) (mus wh (V 0) p9) (mus wh (V 1) p9) + mft (lokP gn p9) (wdt p9 W) (wdt p9 H) (nI x9) (nI y9) (mus wh (V 2) p9) (mus wh (V 3) p9) + 1) >>> (1 &&& 31)) 2))), (ol, .inl (cs 0, 4608, .inl go)), (ne, .inl (cs 0, 4608, .inl gn)), (ve, .inl (cs 0, 4, .inl V)), (ps, .inl (cs 0, 3, .inl (fun _ => 1024))), (bd, .inl (cs 1, 2, .inl (du 1 1))), (ma, .inl (cs 0, 64, .inl (fun _ => 0)))] Hp := hP
              have hD : va_D A [(o, .inr (7, mdF 0 W H mt qu zz nw ol ne se ke nc ns is ik dc sc 3 (md + i) wh fa re ve ps 0 0 di lv 1 0 bd co bt ma)), (nw, .inl (cs 0, 4608, .inl (mnF (lvF gw W md (fun p9 x9 y9 => (mft (lokP go p9) (wdt p9 W) (wdt p9 H) (nI x9) (nI y9) (mus wh (V 0) p9) (mus wh (V 1) p9) + mft (lokP gn p9) (wdt p9 W) (wdt p9 H) (nI x9) (nI y9) (mus wh (V 2) p9) (mus wh (V 3) p9) + 1) >>> (1 &&& 31)) i) W (md + i) (fun _ _ => 0) (fun p9 x9 y9 => (mft (lokP go p9) (wdt p9 W) (wdt p9 H) (nI x9) (nI y9) (mus wh (V 0) p9) (mus wh (V 1) p9) + mft (lokP gn p9) (wdt p9 W) (wdt p9 H) (nI x9) (nI y9) (mus wh (V 2) p9) (mus wh (V 3) p9) + 1) >>> (1 &&& 31)) 2))), (ol, .inl (cs 0, 4608, .inl go)), (ne, .inl (cs 0, 4608, .inl gn)), (ve, .inl (cs 0, 4, .inl V)), (ps, .inl (cs 0, 3, .inl (fun _ => 1024))), (bd, .inl (cs 1, 2, .inl (du 1 1))), (ma, .inl (cs 0, 64, .inl (fun _ => 0)))] := hD
              have hP := hP1
              refine lv_iinc (v := 2) (lv' := [(5, .int 2), (0, .ref o), (1, .int (nI n)), (4, .int (nI i))]) hx hb dX7_leave_221 hl (k := 0) rfl (rfl) (by decide) rfl (fun ls hl => ?_)
              refine lv_goto (tgt := 164) hx hb dX7_leave_224 (by decide) ?_
              refine lv_iload hx hb dX7_leave_164 (lv_at hl 0 rfl) ?_
              refine lv_bipush (v := 6) hx hb dX7_leave_166 (by decide) ?_
              refine lv_icmp_ge (tgt := 227) hx hb dX7_leave_168 (by decide) (fun c_168 => absurd c_168 (by decide)) (fun _ => ?_)
              refine lv_aload_n hx hb dX7_leave_171 rfl (lv_at hl 1 rfl) ?_
              refine lv_iload hx hb dX7_leave_172 (lv_at hl 0 rfl) ?_
              refine lv_aload_n hx hb dX7_leave_174 rfl (lv_at hl 1 rfl) ?_
              refine xget (C := RX7) (T := TX7) (N := 34) hF hX hP (by decide +kernel) 0 17 rfl rfl (by decide) (by decide +kernel) rfl dX7_leave_175 ?_
              refine lv_iconst (v := 2) hx hb dX7_leave_178 (by decide) ?_
              refine lv_icmp_eq (tgt := 191) hx hb dX7_leave_179 (by decide) (fun c_179 => absurd c_179 (by decide)) (fun _ => ?_)
              refine lv_aload_n hx hb dX7_leave_182 rfl (lv_at hl 1 rfl) ?_
              refine xget (C := RX7) (T := TX7) (N := 34) hF hX hP (by decide +kernel) 0 30 rfl rfl (by decide) (by decide +kernel) rfl dX7_leave_183 ?_
              refine lv_iconst (v := 0) hx hb dX7_leave_186 (by decide) ?_
              refine xzald (k := 0) hF hX hP 6 rfl (rfl) (vp_in_nI (n := 0) (by decide) (by decide)) dX7_leave_187 ?_
              refine lv_if_eq (tgt := 195) hx hb dX7_leave_188 (by decide) (fun c_188 => absurd c_188 (by decide)) (fun _ => ?_)
              refine lv_iconst (v := 1) hx hb dX7_leave_191 (by decide) ?_
              refine lv_goto (tgt := 196) hx hb dX7_leave_192 (by decide) ?_
              refine lv_aload_n hx hb dX7_leave_196 rfl (lv_at hl 1 rfl) ?_
              refine xget (C := RX7) (T := TX7) (N := 34) hF hX hP (by decide +kernel) 0 17 rfl rfl (by decide) (by decide +kernel) rfl dX7_leave_197 ?_
              refine lv_iconst (v := 3) hx hb dX7_leave_200 (by decide) ?_
              refine lv_icmp_ne (tgt := 217) hx hb dX7_leave_201 (by decide) (fun c_201 => absurd (by decide) c_201) (fun _ => ?_)
              refine lv_aload_n hx hb dX7_leave_204 rfl (lv_at hl 1 rfl) ?_
              refine xget (C := RX7) (T := TX7) (N := 34) hF hX hP (by decide +kernel) 0 30 rfl rfl (by decide) (by decide +kernel) rfl dX7_leave_205 ?_
              refine lv_iconst (v := 1) hx hb dX7_leave_208 (by decide) ?_
              refine xzald (k := 1) hF hX hP 6 rfl (rfl) (vp_in_nI (n := 1) (by decide) (by decide)) dX7_leave_209 ?_
              refine lv_if_eq (tgt := 217) hx hb dX7_leave_210 (by decide) (fun c_210 => absurd c_210 (by decide)) (fun _ => ?_)
              refine lv_iconst (v := 1) hx hb dX7_leave_213 (by decide) ?_
              refine lv_goto (tgt := 218) hx hb dX7_leave_214 (by decide) ?_
              refine xVM [true, true, true, true, true, false, false, true] (rest := []) (As := [.int 2, .int 1, .int 1]) (ws1 := [(o, .inr (7, mdF 0 W H mt qu zz nw ol ne se ke nc ns is ik dc sc 3 (md + i) wh fa re ve ps 0 0 di lv 1 0 bd co bt ma)), (nw, .inl (cs 0, 4608, .inl (mpB (mnF (lvF gw W md (fun p9 x9 y9 => (mft (lokP go p9) (wdt p9 W) (wdt p9 H) (nI x9) (nI y9) (mus wh (V 0) p9) (mus wh (V 1) p9) + mft (lokP gn p9) (wdt p9 W) (wdt p9 H) (nI x9) (nI y9) (mus wh (V 2) p9) (mus wh (V 3) p9) + 1) >>> (1 &&& 31)) i) W (md + i) (fun _ _ => 0) (fun p9 x9 y9 => (mft (lokP go p9) (wdt p9 W) (wdt p9 H) (nI x9) (nI y9) (mus wh (V 0) p9) (mus wh (V 1) p9) + mft (lokP gn p9) (wdt p9 W) (wdt p9 H) (nI x9) (nI y9) (mus wh (V 2) p9) (mus wh (V 3) p9) + 1) >>> (1 &&& 31)) 2) W (md + i) 2 (mlF W (md + i) 2 (fun _ => 0) (fun x9 y9 => (((mft (lokP go 0) (wdt 0 W) (wdt 0 H) (nI x9) (nI y9) (mus wh (V 0) 0) (mus wh (V 1) 0)) + (mft (lokP gn 0) (wdt 0 W) (wdt 0 H) (nI x9) (nI y9) (mus wh (V 2) 0) (mus wh (V 3) 0)) + 1) >>> (1 &&& 31)))) (64)))), (ol, .inl (cs 0, 4608, .inl go)), (ne, .inl (cs 0, 4608, .inl gn)), (ve, .inl (cs 0, 4, .inl V)), (ps, .inl (cs 0, 3, .inl (fun _ => 1024))), (bd, .inl (cs 1, 2, .inl (du 1 1))), (ma, .inl (cs 0, 64, .inl (fun _ => 0)))]) (st1 := []) hF (c_X7_putBlock2D l D cs tt o mt qu zz nw ol ne se ke re ve ps di lv bd co bt ma W H (md + i) 0 nc ns is ik dc sc wh fa 0 1 0 (mnF (lvF gw W md (fun p9 x9 y9 => (mft (lokP go p9) (wdt p9 W) (wdt p9 H) (nI x9) (nI y9) (mus wh (V 0) p9) (mus wh (V 1) p9) + mft (lokP gn p9) (wdt p9 W) (wdt p9 H) (nI x9) (nI y9) (mus wh (V 2) p9) (mus wh (V 3) p9) + 1) >>> (1 &&& 31)) i) W (md + i) (fun _ _ => 0) (fun p9 x9 y9 => (mft (lokP go p9) (wdt p9 W) (wdt p9 H) (nI x9) (nI y9) (mus wh (V 0) p9) (mus wh (V 1) p9) + mft (lokP gn p9) (wdt p9 W) (wdt p9 H) (nI x9) (nI y9) (mus wh (V 2) p9) (mus wh (V 3) p9) + 1) >>> (1 &&& 31)) 2) (fun _ => 0) go gn V hw hw4 hh hh3 hmd) gX7_leave_X7_putBlock rfl (n := 3) (by decide +kernel) rfl ⟨⟨rfl, rfl⟩, Nat.le_of_ble_eq_true rfl, Nat.le_of_ble_eq_true rfl⟩ ⟨Nat.le_of_ble_eq_true rfl, Nat.le_of_ble_eq_true rfl⟩ hX hP hD hS rfl [o, nw, ol, ne, ve, ma] rfl rfl (q0 := 0) (ci := 7) rfl rfl rfl hl.1 rfl (Nat.le_of_ble_eq_true rfl) dX7_leave_218 rfl rfl (fun Hp locs hP hD hS => ?_)
              have hP1 : va_P D vwCl [(o, .inr (7, mdF 0 W H mt qu zz nw ol ne se ke nc ns is ik dc sc 3 (md + i) wh fa re ve ps 0 0 di lv 1 0 bd co bt ma)), (nw, .inl (cs 0, 4608, .inl (mnF (lvF gw W md (fun p9 x9 y9 => (mft (lokP go p9) (wdt p9 W) (wdt p9 H) (nI x9) (nI y9) (mus wh (V 0) p9) (mus wh (V 1) p9) + mft (lokP gn p9) (wdt p9 W) (wdt p9 H) (nI x9) (nI y9) (mus wh (V 2) p9) (mus wh (V 3) p9) + 1) >>> (1 &&& 31)) i) W (md + i) (fun _ _ => 0) (fun p9 x9 y9 => (mft (lokP go p9) (wdt p9 W) (wdt p9 H) (nI x9) (nI y9) (mus wh (V 0) p9) (mus wh (V 1) p9) + mft (lokP gn p9) (wdt p9 W) (wdt p9 H) (nI x9) (nI y9) (mus wh (V 2) p9) (mus wh (V 3) p9) + 1) >>> (1 &&& 31)) 3))), (ol, .inl (cs 0, 4608, .inl go)), (ne, .inl (cs 0, 4608, .inl gn)), (ve, .inl (cs 0, 4, .inl V)), (ps, .inl (cs 0, 3, .inl (fun _ => 1024))), (bd, .inl (cs 1, 2, .inl (du 1 1))), (ma, .inl (cs 0, 64, .inl (fun _ => 0)))] Hp := hP
              have hD : va_D A [(o, .inr (7, mdF 0 W H mt qu zz nw ol ne se ke nc ns is ik dc sc 3 (md + i) wh fa re ve ps 0 0 di lv 1 0 bd co bt ma)), (nw, .inl (cs 0, 4608, .inl (mnF (lvF gw W md (fun p9 x9 y9 => (mft (lokP go p9) (wdt p9 W) (wdt p9 H) (nI x9) (nI y9) (mus wh (V 0) p9) (mus wh (V 1) p9) + mft (lokP gn p9) (wdt p9 W) (wdt p9 H) (nI x9) (nI y9) (mus wh (V 2) p9) (mus wh (V 3) p9) + 1) >>> (1 &&& 31)) i) W (md + i) (fun _ _ => 0) (fun p9 x9 y9 => (mft (lokP go p9) (wdt p9 W) (wdt p9 H) (nI x9) (nI y9) (mus wh (V 0) p9) (mus wh (V 1) p9) + mft (lokP gn p9) (wdt p9 W) (wdt p9 H) (nI x9) (nI y9) (mus wh (V 2) p9) (mus wh (V 3) p9) + 1) >>> (1 &&& 31)) 3))), (ol, .inl (cs 0, 4608, .inl go)), (ne, .inl (cs 0, 4608, .inl gn)), (ve, .inl (cs 0, 4, .inl V)), (ps, .inl (cs 0, 3, .inl (fun _ => 1024))), (bd, .inl (cs 1, 2, .inl (du 1 1))), (ma, .inl (cs 0, 64, .inl (fun _ => 0)))] := hD
              have hP := hP1
              refine lv_iinc (v := 3) (lv' := [(5, .int 3), (0, .ref o), (1, .int (nI n)), (4, .int (nI i))]) hx hb dX7_leave_221 hl (k := 0) rfl (rfl) (by decide) rfl (fun ls hl => ?_)
              refine lv_goto (tgt := 164) hx hb dX7_leave_224 (by decide) ?_
              refine lv_iload hx hb dX7_leave_164 (lv_at hl 0 rfl) ?_
              refine lv_bipush (v := 6) hx hb dX7_leave_166 (by decide) ?_
              refine lv_icmp_ge (tgt := 227) hx hb dX7_leave_168 (by decide) (fun c_168 => absurd c_168 (by decide)) (fun _ => ?_)
              refine lv_aload_n hx hb dX7_leave_171 rfl (lv_at hl 1 rfl) ?_
              refine lv_iload hx hb dX7_leave_172 (lv_at hl 0 rfl) ?_
              refine lv_aload_n hx hb dX7_leave_174 rfl (lv_at hl 1 rfl) ?_
              refine xget (C := RX7) (T := TX7) (N := 34) hF hX hP (by decide +kernel) 0 17 rfl rfl (by decide) (by decide +kernel) rfl dX7_leave_175 ?_
              refine lv_iconst (v := 2) hx hb dX7_leave_178 (by decide) ?_
              refine lv_icmp_eq (tgt := 191) hx hb dX7_leave_179 (by decide) (fun c_179 => absurd c_179 (by decide)) (fun _ => ?_)
              refine lv_aload_n hx hb dX7_leave_182 rfl (lv_at hl 1 rfl) ?_
              refine xget (C := RX7) (T := TX7) (N := 34) hF hX hP (by decide +kernel) 0 30 rfl rfl (by decide) (by decide +kernel) rfl dX7_leave_183 ?_
              refine lv_iconst (v := 0) hx hb dX7_leave_186 (by decide) ?_
              refine xzald (k := 0) hF hX hP 6 rfl (rfl) (vp_in_nI (n := 0) (by decide) (by decide)) dX7_leave_187 ?_
              refine lv_if_eq (tgt := 195) hx hb dX7_leave_188 (by decide) (fun c_188 => absurd c_188 (by decide)) (fun _ => ?_)
              refine lv_iconst (v := 1) hx hb dX7_leave_191 (by decide) ?_
              refine lv_goto (tgt := 196) hx hb dX7_leave_192 (by decide) ?_
              refine lv_aload_n hx hb dX7_leave_196 rfl (lv_at hl 1 rfl) ?_
              refine xget (C := RX7) (T := TX7) (N := 34) hF hX hP (by decide +kernel) 0 17 rfl rfl (by decide) (by decide +kernel) rfl dX7_leave_197 ?_
              refine lv_iconst (v := 3) hx hb dX7_leave_200 (by decide) ?_
              refine lv_icmp_ne (tgt := 217) hx hb dX7_leave_201 (by decide) (fun c_201 => absurd (by decide) c_201) (fun _ => ?_)
              refine lv_aload_n hx hb dX7_leave_204 rfl (lv_at hl 1 rfl) ?_
              refine xget (C := RX7) (T := TX7) (N := 34) hF hX hP (by decide +kernel) 0 30 rfl rfl (by decide) (by decide +kernel) rfl dX7_leave_205 ?_
              refine lv_iconst (v := 1) hx hb dX7_leave_208 (by decide) ?_
              refine xzald (k := 1) hF hX hP 6 rfl (rfl) (vp_in_nI (n := 1) (by decide) (by decide)) dX7_leave_209 ?_
              refine lv_if_eq (tgt := 217) hx hb dX7_leave_210 (by decide) (fun c_210 => absurd c_210 (by decide)) (fun _ => ?_)
              refine lv_iconst (v := 1) hx hb dX7_leave_213 (by decide) ?_
              refine lv_goto (tgt := 218) hx hb dX7_leave_214 (by decide) ?_
              refine xVM [true, true, true, true, true, false, false, true] (rest := []) (As := [.int 3, .int 1, .int 1]) (ws1 := [(o, .inr (7, mdF 0 W H mt qu zz nw ol ne se ke nc ns is ik dc sc 3 (md + i) wh fa re ve ps 0 0 di lv 1 0 bd co bt ma)), (nw, .inl (cs 0, 4608, .inl (mpB (mnF (lvF gw W md (fun p9 x9 y9 => (mft (lokP go p9) (wdt p9 W) (wdt p9 H) (nI x9) (nI y9) (mus wh (V 0) p9) (mus wh (V 1) p9) + mft (lokP gn p9) (wdt p9 W) (wdt p9 H) (nI x9) (nI y9) (mus wh (V 2) p9) (mus wh (V 3) p9) + 1) >>> (1 &&& 31)) i) W (md + i) (fun _ _ => 0) (fun p9 x9 y9 => (mft (lokP go p9) (wdt p9 W) (wdt p9 H) (nI x9) (nI y9) (mus wh (V 0) p9) (mus wh (V 1) p9) + mft (lokP gn p9) (wdt p9 W) (wdt p9 H) (nI x9) (nI y9) (mus wh (V 2) p9) (mus wh (V 3) p9) + 1) >>> (1 &&& 31)) 3) W (md + i) 3 (mlF W (md + i) 3 (fun _ => 0) (fun x9 y9 => (((mft (lokP go 0) (wdt 0 W) (wdt 0 H) (nI x9) (nI y9) (mus wh (V 0) 0) (mus wh (V 1) 0)) + (mft (lokP gn 0) (wdt 0 W) (wdt 0 H) (nI x9) (nI y9) (mus wh (V 2) 0) (mus wh (V 3) 0)) + 1) >>> (1 &&& 31)))) (64)))), (ol, .inl (cs 0, 4608, .inl go)), (ne, .inl (cs 0, 4608, .inl gn)), (ve, .inl (cs 0, 4, .inl V)), (ps, .inl (cs 0, 3, .inl (fun _ => 1024))), (bd, .inl (cs 1, 2, .inl (du 1 1))), (ma, .inl (cs 0, 64, .inl (fun _ => 0)))]) (st1 := []) hF (c_X7_putBlock3D l D cs tt o mt qu zz nw ol ne se ke re ve ps di lv bd co bt ma W H (md + i) 0 nc ns is ik dc sc wh fa 0 1 0 (mnF (lvF gw W md (fun p9 x9 y9 => (mft (lokP go p9) (wdt p9 W) (wdt p9 H) (nI x9) (nI y9) (mus wh (V 0) p9) (mus wh (V 1) p9) + mft (lokP gn p9) (wdt p9 W) (wdt p9 H) (nI x9) (nI y9) (mus wh (V 2) p9) (mus wh (V 3) p9) + 1) >>> (1 &&& 31)) i) W (md + i) (fun _ _ => 0) (fun p9 x9 y9 => (mft (lokP go p9) (wdt p9 W) (wdt p9 H) (nI x9) (nI y9) (mus wh (V 0) p9) (mus wh (V 1) p9) + mft (lokP gn p9) (wdt p9 W) (wdt p9 H) (nI x9) (nI y9) (mus wh (V 2) p9) (mus wh (V 3) p9) + 1) >>> (1 &&& 31)) 3) (fun _ => 0) go gn V hw hw4 hh hh3 hmd) gX7_leave_X7_putBlock rfl (n := 3) (by decide +kernel) rfl ⟨⟨rfl, rfl⟩, Nat.le_of_ble_eq_true rfl, Nat.le_of_ble_eq_true rfl⟩ ⟨Nat.le_of_ble_eq_true rfl, Nat.le_of_ble_eq_true rfl⟩ hX hP hD hS rfl [o, nw, ol, ne, ve, ma] rfl rfl (q0 := 0) (ci := 7) rfl rfl rfl hl.1 rfl (Nat.le_of_ble_eq_true rfl) dX7_leave_218 rfl rfl (fun Hp locs hP hD hS => ?_)
              have hP1 : va_P D vwCl [(o, .inr (7, mdF 0 W H mt qu zz nw ol ne se ke nc ns is ik dc sc 3 (md + i) wh fa re ve ps 0 0 di lv 1 0 bd co bt ma)), (nw, .inl (cs 0, 4608, .inl (mnF (lvF gw W md (fun p9 x9 y9 => (mft (lokP go p9) (wdt p9 W) (wdt p9 H) (nI x9) (nI y9) (mus wh (V 0) p9) (mus wh (V 1) p9) + mft (lokP gn p9) (wdt p9 W) (wdt p9 H) (nI x9) (nI y9) (mus wh (V 2) p9) (mus wh (V 3) p9) + 1) >>> (1 &&& 31)) i) W (md + i) (fun _ _ => 0) (fun p9 x9 y9 => (mft (lokP go p9) (wdt p9 W) (wdt p9 H) (nI x9) (nI y9) (mus wh (V 0) p9) (mus wh (V 1) p9) + mft (lokP gn p9) (wdt p9 W) (wdt p9 H) (nI x9) (nI y9) (mus wh (V 2) p9) (mus wh (V 3) p9) + 1) >>> (1 &&& 31)) 4))), (ol, .inl (cs 0, 4608, .inl go)), (ne, .inl (cs 0, 4608, .inl gn)), (ve, .inl (cs 0, 4, .inl V)), (ps, .inl (cs 0, 3, .inl (fun _ => 1024))), (bd, .inl (cs 1, 2, .inl (du 1 1))), (ma, .inl (cs 0, 64, .inl (fun _ => 0)))] Hp := hP
              have hD : va_D A [(o, .inr (7, mdF 0 W H mt qu zz nw ol ne se ke nc ns is ik dc sc 3 (md + i) wh fa re ve ps 0 0 di lv 1 0 bd co bt ma)), (nw, .inl (cs 0, 4608, .inl (mnF (lvF gw W md (fun p9 x9 y9 => (mft (lokP go p9) (wdt p9 W) (wdt p9 H) (nI x9) (nI y9) (mus wh (V 0) p9) (mus wh (V 1) p9) + mft (lokP gn p9) (wdt p9 W) (wdt p9 H) (nI x9) (nI y9) (mus wh (V 2) p9) (mus wh (V 3) p9) + 1) >>> (1 &&& 31)) i) W (md + i) (fun _ _ => 0) (fun p9 x9 y9 => (mft (lokP go p9) (wdt p9 W) (wdt p9 H) (nI x9) (nI y9) (mus wh (V 0) p9) (mus wh (V 1) p9) + mft (lokP gn p9) (wdt p9 W) (wdt p9 H) (nI x9) (nI y9) (mus wh (V 2) p9) (mus wh (V 3) p9) + 1) >>> (1 &&& 31)) 4))), (ol, .inl (cs 0, 4608, .inl go)), (ne, .inl (cs 0, 4608, .inl gn)), (ve, .inl (cs 0, 4, .inl V)), (ps, .inl (cs 0, 3, .inl (fun _ => 1024))), (bd, .inl (cs 1, 2, .inl (du 1 1))), (ma, .inl (cs 0, 64, .inl (fun _ => 0)))] := hD
              have hP := hP1
              refine lv_iinc (v := 4) (lv' := [(5, .int 4), (0, .ref o), (1, .int (nI n)), (4, .int (nI i))]) hx hb dX7_leave_221 hl (k := 0) rfl (rfl) (by decide) rfl (fun ls hl => ?_)
              refine lv_goto (tgt := 164) hx hb dX7_leave_224 (by decide) ?_
              refine lv_iload hx hb dX7_leave_164 (lv_at hl 0 rfl) ?_
              refine lv_bipush (v := 6) hx hb dX7_leave_166 (by decide) ?_
              refine lv_icmp_ge (tgt := 227) hx hb dX7_leave_168 (by decide) (fun c_168 => absurd c_168 (by decide)) (fun _ => ?_)
              refine lv_aload_n hx hb dX7_leave_171 rfl (lv_at hl 1 rfl) ?_
              refine lv_iload hx hb dX7_leave_172 (lv_at hl 0 rfl) ?_
              refine lv_aload_n hx hb dX7_leave_174 rfl (lv_at hl 1 rfl) ?_
              refine xget (C := RX7) (T := TX7) (N := 34) hF hX hP (by decide +kernel) 0 17 rfl rfl (by decide) (by decide +kernel) rfl dX7_leave_175 ?_
              refine lv_iconst (v := 2) hx hb dX7_leave_178 (by decide) ?_
              refine lv_icmp_eq (tgt := 191) hx hb dX7_leave_179 (by decide) (fun c_179 => absurd c_179 (by decide)) (fun _ => ?_)
              refine lv_aload_n hx hb dX7_leave_182 rfl (lv_at hl 1 rfl) ?_
              refine xget (C := RX7) (T := TX7) (N := 34) hF hX hP (by decide +kernel) 0 30 rfl rfl (by decide) (by decide +kernel) rfl dX7_leave_183 ?_
              refine lv_iconst (v := 0) hx hb dX7_leave_186 (by decide) ?_
              refine xzald (k := 0) hF hX hP 6 rfl (rfl) (vp_in_nI (n := 0) (by decide) (by decide)) dX7_leave_187 ?_
              refine lv_if_eq (tgt := 195) hx hb dX7_leave_188 (by decide) (fun c_188 => absurd c_188 (by decide)) (fun _ => ?_)
              refine lv_iconst (v := 1) hx hb dX7_leave_191 (by decide) ?_
              refine lv_goto (tgt := 196) hx hb dX7_leave_192 (by decide) ?_
              refine lv_aload_n hx hb dX7_leave_196 rfl (lv_at hl 1 rfl) ?_
              refine xget (C := RX7) (T := TX7) (N := 34) hF hX hP (by decide +kernel) 0 17 rfl rfl (by decide) (by decide +kernel) rfl dX7_leave_197 ?_
              refine lv_iconst (v := 3) hx hb dX7_leave_200 (by decide) ?_
              refine lv_icmp_ne (tgt := 217) hx hb dX7_leave_201 (by decide) (fun c_201 => absurd (by decide) c_201) (fun _ => ?_)
              refine lv_aload_n hx hb dX7_leave_204 rfl (lv_at hl 1 rfl) ?_
              refine xget (C := RX7) (T := TX7) (N := 34) hF hX hP (by decide +kernel) 0 30 rfl rfl (by decide) (by decide +kernel) rfl dX7_leave_205 ?_
              refine lv_iconst (v := 1) hx hb dX7_leave_208 (by decide) ?_
              refine xzald (k := 1) hF hX hP 6 rfl (rfl) (vp_in_nI (n := 1) (by decide) (by decide)) dX7_leave_209 ?_
              refine lv_if_eq (tgt := 217) hx hb dX7_leave_210 (by decide) (fun c_210 => absurd c_210 (by decide)) (fun _ => ?_)
              refine lv_iconst (v := 1) hx hb dX7_leave_213 (by decide) ?_
              refine lv_goto (tgt := 218) hx hb dX7_leave_214 (by decide) ?_
              refine xVM [true, true, true, true, true, false, false, true] (rest := []) (As := [.int 4, .int 1, .int 1]) (ws1 := [(o, .inr (7, mdF 0 W H mt qu zz nw ol ne se ke nc ns is ik dc sc 3 (md + i) wh fa re ve ps 0 0 di lv 1 0 bd co bt ma)), (nw, .inl (cs 0, 4608, .inl (mpB (mnF (lvF gw W md (fun p9 x9 y9 => (mft (lokP go p9) (wdt p9 W) (wdt p9 H) (nI x9) (nI y9) (mus wh (V 0) p9) (mus wh (V 1) p9) + mft (lokP gn p9) (wdt p9 W) (wdt p9 H) (nI x9) (nI y9) (mus wh (V 2) p9) (mus wh (V 3) p9) + 1) >>> (1 &&& 31)) i) W (md + i) (fun _ _ => 0) (fun p9 x9 y9 => (mft (lokP go p9) (wdt p9 W) (wdt p9 H) (nI x9) (nI y9) (mus wh (V 0) p9) (mus wh (V 1) p9) + mft (lokP gn p9) (wdt p9 W) (wdt p9 H) (nI x9) (nI y9) (mus wh (V 2) p9) (mus wh (V 3) p9) + 1) >>> (1 &&& 31)) 4) W (md + i) 4 (mlF W (md + i) 4 (fun _ => 0) (fun x9 y9 => (((mft (lokP go 1) (wdt 1 W) (wdt 1 H) (nI x9) (nI y9) (mus wh (V 0) 1) (mus wh (V 1) 1)) + (mft (lokP gn 1) (wdt 1 W) (wdt 1 H) (nI x9) (nI y9) (mus wh (V 2) 1) (mus wh (V 3) 1)) + 1) >>> (1 &&& 31)))) (64)))), (ol, .inl (cs 0, 4608, .inl go)), (ne, .inl (cs 0, 4608, .inl gn)), (ve, .inl (cs 0, 4, .inl V)), (ps, .inl (cs 0, 3, .inl (fun _ => 1024))), (bd, .inl (cs 1, 2, .inl (du 1 1))), (ma, .inl (cs 0, 64, .inl (fun _ => 0)))]) (st1 := []) hF (c_X7_putBlock4D l D cs tt o mt qu zz nw ol ne se ke re ve ps di lv bd co bt ma W H (md + i) 0 nc ns is ik dc sc wh fa 0 1 0 (mnF (lvF gw W md (fun p9 x9 y9 => (mft (lokP go p9) (wdt p9 W) (wdt p9 H) (nI x9) (nI y9) (mus wh (V 0) p9) (mus wh (V 1) p9) + mft (lokP gn p9) (wdt p9 W) (wdt p9 H) (nI x9) (nI y9) (mus wh (V 2) p9) (mus wh (V 3) p9) + 1) >>> (1 &&& 31)) i) W (md + i) (fun _ _ => 0) (fun p9 x9 y9 => (mft (lokP go p9) (wdt p9 W) (wdt p9 H) (nI x9) (nI y9) (mus wh (V 0) p9) (mus wh (V 1) p9) + mft (lokP gn p9) (wdt p9 W) (wdt p9 H) (nI x9) (nI y9) (mus wh (V 2) p9) (mus wh (V 3) p9) + 1) >>> (1 &&& 31)) 4) (fun _ => 0) go gn V hw hw4 hh hh3 hmd) gX7_leave_X7_putBlock rfl (n := 3) (by decide +kernel) rfl ⟨⟨rfl, rfl⟩, Nat.le_of_ble_eq_true rfl, Nat.le_of_ble_eq_true rfl⟩ ⟨Nat.le_of_ble_eq_true rfl, Nat.le_of_ble_eq_true rfl⟩ hX hP hD hS rfl [o, nw, ol, ne, ve, ma] rfl rfl (q0 := 0) (ci := 7) rfl rfl rfl hl.1 rfl (Nat.le_of_ble_eq_true rfl) dX7_leave_218 rfl rfl (fun Hp locs hP hD hS => ?_)
              have hP1 : va_P D vwCl [(o, .inr (7, mdF 0 W H mt qu zz nw ol ne se ke nc ns is ik dc sc 3 (md + i) wh fa re ve ps 0 0 di lv 1 0 bd co bt ma)), (nw, .inl (cs 0, 4608, .inl (mnF (lvF gw W md (fun p9 x9 y9 => (mft (lokP go p9) (wdt p9 W) (wdt p9 H) (nI x9) (nI y9) (mus wh (V 0) p9) (mus wh (V 1) p9) + mft (lokP gn p9) (wdt p9 W) (wdt p9 H) (nI x9) (nI y9) (mus wh (V 2) p9) (mus wh (V 3) p9) + 1) >>> (1 &&& 31)) i) W (md + i) (fun _ _ => 0) (fun p9 x9 y9 => (mft (lokP go p9) (wdt p9 W) (wdt p9 H) (nI x9) (nI y9) (mus wh (V 0) p9) (mus wh (V 1) p9) + mft (lokP gn p9) (wdt p9 W) (wdt p9 H) (nI x9) (nI y9) (mus wh (V 2) p9) (mus wh (V 3) p9) + 1) >>> (1 &&& 31)) 5))), (ol, .inl (cs 0, 4608, .inl go)), (ne, .inl (cs 0, 4608, .inl gn)), (ve, .inl (cs 0, 4, .inl V)), (ps, .inl (cs 0, 3, .inl (fun _ => 1024))), (bd, .inl (cs 1, 2, .inl (du 1 1))), (ma, .inl (cs 0, 64, .inl (fun _ => 0)))] Hp := hP
              have hD : va_D A [(o, .inr (7, mdF 0 W H mt qu zz nw ol ne se ke nc ns is ik dc sc 3 (md + i) wh fa re ve ps 0 0 di lv 1 0 bd co bt ma)), (nw, .inl (cs 0, 4608, .inl (mnF (lvF gw W md (fun p9 x9 y9 => (mft (lokP go p9) (wdt p9 W) (wdt p9 H) (nI x9) (nI y9) (mus wh (V 0) p9) (mus wh (V 1) p9) + mft (lokP gn p9) (wdt p9 W) (wdt p9 H) (nI x9) (nI y9) (mus wh (V 2) p9) (mus wh (V 3) p9) + 1) >>> (1 &&& 31)) i) W (md + i) (fun _ _ => 0) (fun p9 x9 y9 => (mft (lokP go p9) (wdt p9 W) (wdt p9 H) (nI x9) (nI y9) (mus wh (V 0) p9) (mus wh (V 1) p9) + mft (lokP gn p9) (wdt p9 W) (wdt p9 H) (nI x9) (nI y9) (mus wh (V 2) p9) (mus wh (V 3) p9) + 1) >>> (1 &&& 31)) 5))), (ol, .inl (cs 0, 4608, .inl go)), (ne, .inl (cs 0, 4608, .inl gn)), (ve, .inl (cs 0, 4, .inl V)), (ps, .inl (cs 0, 3, .inl (fun _ => 1024))), (bd, .inl (cs 1, 2, .inl (du 1 1))), (ma, .inl (cs 0, 64, .inl (fun _ => 0)))] := hD
              have hP := hP1
              refine lv_iinc (v := 5) (lv' := [(5, .int 5), (0, .ref o), (1, .int (nI n)), (4, .int (nI i))]) hx hb dX7_leave_221 hl (k := 0) rfl (rfl) (by decide) rfl (fun ls hl => ?_)
              refine lv_goto (tgt := 164) hx hb dX7_leave_224 (by decide) ?_
              refine lv_iload hx hb dX7_leave_164 (lv_at hl 0 rfl) ?_
              refine lv_bipush (v := 6) hx hb dX7_leave_166 (by decide) ?_
              refine lv_icmp_ge (tgt := 227) hx hb dX7_leave_168 (by decide) (fun c_168 => absurd c_168 (by decide)) (fun _ => ?_)
              refine lv_aload_n hx hb dX7_leave_171 rfl (lv_at hl 1 rfl) ?_
              refine lv_iload hx hb dX7_leave_172 (lv_at hl 0 rfl) ?_
              refine lv_aload_n hx hb dX7_leave_174 rfl (lv_at hl 1 rfl) ?_
              refine xget (C := RX7) (T := TX7) (N := 34) hF hX hP (by decide +kernel) 0 17 rfl rfl (by decide) (by decide +kernel) rfl dX7_leave_175 ?_
              refine lv_iconst (v := 2) hx hb dX7_leave_178 (by decide) ?_
              refine lv_icmp_eq (tgt := 191) hx hb dX7_leave_179 (by decide) (fun c_179 => absurd c_179 (by decide)) (fun _ => ?_)
              refine lv_aload_n hx hb dX7_leave_182 rfl (lv_at hl 1 rfl) ?_
              refine xget (C := RX7) (T := TX7) (N := 34) hF hX hP (by decide +kernel) 0 30 rfl rfl (by decide) (by decide +kernel) rfl dX7_leave_183 ?_
              refine lv_iconst (v := 0) hx hb dX7_leave_186 (by decide) ?_
              refine xzald (k := 0) hF hX hP 6 rfl (rfl) (vp_in_nI (n := 0) (by decide) (by decide)) dX7_leave_187 ?_
              refine lv_if_eq (tgt := 195) hx hb dX7_leave_188 (by decide) (fun c_188 => absurd c_188 (by decide)) (fun _ => ?_)
              refine lv_iconst (v := 1) hx hb dX7_leave_191 (by decide) ?_
              refine lv_goto (tgt := 196) hx hb dX7_leave_192 (by decide) ?_
              refine lv_aload_n hx hb dX7_leave_196 rfl (lv_at hl 1 rfl) ?_
              refine xget (C := RX7) (T := TX7) (N := 34) hF hX hP (by decide +kernel) 0 17 rfl rfl (by decide) (by decide +kernel) rfl dX7_leave_197 ?_
              refine lv_iconst (v := 3) hx hb dX7_leave_200 (by decide) ?_
              refine lv_icmp_ne (tgt := 217) hx hb dX7_leave_201 (by decide) (fun c_201 => absurd (by decide) c_201) (fun _ => ?_)
              refine lv_aload_n hx hb dX7_leave_204 rfl (lv_at hl 1 rfl) ?_
              refine xget (C := RX7) (T := TX7) (N := 34) hF hX hP (by decide +kernel) 0 30 rfl rfl (by decide) (by decide +kernel) rfl dX7_leave_205 ?_
              refine lv_iconst (v := 1) hx hb dX7_leave_208 (by decide) ?_
              refine xzald (k := 1) hF hX hP 6 rfl (rfl) (vp_in_nI (n := 1) (by decide) (by decide)) dX7_leave_209 ?_
              refine lv_if_eq (tgt := 217) hx hb dX7_leave_210 (by decide) (fun c_210 => absurd c_210 (by decide)) (fun _ => ?_)
              refine lv_iconst (v := 1) hx hb dX7_leave_213 (by decide) ?_
              refine lv_goto (tgt := 218) hx hb dX7_leave_214 (by decide) ?_
              refine xVM [true, true, true, true, true, false, false, true] (rest := []) (As := [.int 5, .int 1, .int 1]) (ws1 := [(o, .inr (7, mdF 0 W H mt qu zz nw ol ne se ke nc ns is ik dc sc 3 (md + i) wh fa re ve ps 0 0 di lv 1 0 bd co bt ma)), (nw, .inl (cs 0, 4608, .inl (mpB (mnF (lvF gw W md (fun p9 x9 y9 => (mft (lokP go p9) (wdt p9 W) (wdt p9 H) (nI x9) (nI y9) (mus wh (V 0) p9) (mus wh (V 1) p9) + mft (lokP gn p9) (wdt p9 W) (wdt p9 H) (nI x9) (nI y9) (mus wh (V 2) p9) (mus wh (V 3) p9) + 1) >>> (1 &&& 31)) i) W (md + i) (fun _ _ => 0) (fun p9 x9 y9 => (mft (lokP go p9) (wdt p9 W) (wdt p9 H) (nI x9) (nI y9) (mus wh (V 0) p9) (mus wh (V 1) p9) + mft (lokP gn p9) (wdt p9 W) (wdt p9 H) (nI x9) (nI y9) (mus wh (V 2) p9) (mus wh (V 3) p9) + 1) >>> (1 &&& 31)) 5) W (md + i) 5 (mlF W (md + i) 5 (fun _ => 0) (fun x9 y9 => (((mft (lokP go 2) (wdt 2 W) (wdt 2 H) (nI x9) (nI y9) (mus wh (V 0) 2) (mus wh (V 1) 2)) + (mft (lokP gn 2) (wdt 2 W) (wdt 2 H) (nI x9) (nI y9) (mus wh (V 2) 2) (mus wh (V 3) 2)) + 1) >>> (1 &&& 31)))) (64)))), (ol, .inl (cs 0, 4608, .inl go)), (ne, .inl (cs 0, 4608, .inl gn)), (ve, .inl (cs 0, 4, .inl V)), (ps, .inl (cs 0, 3, .inl (fun _ => 1024))), (bd, .inl (cs 1, 2, .inl (du 1 1))), (ma, .inl (cs 0, 64, .inl (fun _ => 0)))]) (st1 := []) hF (c_X7_putBlock5D l D cs tt o mt qu zz nw ol ne se ke re ve ps di lv bd co bt ma W H (md + i) 0 nc ns is ik dc sc wh fa 0 1 0 (mnF (lvF gw W md (fun p9 x9 y9 => (mft (lokP go p9) (wdt p9 W) (wdt p9 H) (nI x9) (nI y9) (mus wh (V 0) p9) (mus wh (V 1) p9) + mft (lokP gn p9) (wdt p9 W) (wdt p9 H) (nI x9) (nI y9) (mus wh (V 2) p9) (mus wh (V 3) p9) + 1) >>> (1 &&& 31)) i) W (md + i) (fun _ _ => 0) (fun p9 x9 y9 => (mft (lokP go p9) (wdt p9 W) (wdt p9 H) (nI x9) (nI y9) (mus wh (V 0) p9) (mus wh (V 1) p9) + mft (lokP gn p9) (wdt p9 W) (wdt p9 H) (nI x9) (nI y9) (mus wh (V 2) p9) (mus wh (V 3) p9) + 1) >>> (1 &&& 31)) 5) (fun _ => 0) go gn V hw hw4 hh hh3 hmd) gX7_leave_X7_putBlock rfl (n := 3) (by decide +kernel) rfl ⟨⟨rfl, rfl⟩, Nat.le_of_ble_eq_true rfl, Nat.le_of_ble_eq_true rfl⟩ ⟨Nat.le_of_ble_eq_true rfl, Nat.le_of_ble_eq_true rfl⟩ hX hP hD hS rfl [o, nw, ol, ne, ve, ma] rfl rfl (q0 := 0) (ci := 7) rfl rfl rfl hl.1 rfl (Nat.le_of_ble_eq_true rfl) dX7_leave_218 rfl rfl (fun Hp locs hP hD hS => ?_)
              have hP1 : va_P D vwCl [(o, .inr (7, mdF 0 W H mt qu zz nw ol ne se ke nc ns is ik dc sc 3 (md + i) wh fa re ve ps 0 0 di lv 1 0 bd co bt ma)), (nw, .inl (cs 0, 4608, .inl (mnF (lvF gw W md (fun p9 x9 y9 => (mft (lokP go p9) (wdt p9 W) (wdt p9 H) (nI x9) (nI y9) (mus wh (V 0) p9) (mus wh (V 1) p9) + mft (lokP gn p9) (wdt p9 W) (wdt p9 H) (nI x9) (nI y9) (mus wh (V 2) p9) (mus wh (V 3) p9) + 1) >>> (1 &&& 31)) i) W (md + i) (fun _ _ => 0) (fun p9 x9 y9 => (mft (lokP go p9) (wdt p9 W) (wdt p9 H) (nI x9) (nI y9) (mus wh (V 0) p9) (mus wh (V 1) p9) + mft (lokP gn p9) (wdt p9 W) (wdt p9 H) (nI x9) (nI y9) (mus wh (V 2) p9) (mus wh (V 3) p9) + 1) >>> (1 &&& 31)) 6))), (ol, .inl (cs 0, 4608, .inl go)), (ne, .inl (cs 0, 4608, .inl gn)), (ve, .inl (cs 0, 4, .inl V)), (ps, .inl (cs 0, 3, .inl (fun _ => 1024))), (bd, .inl (cs 1, 2, .inl (du 1 1))), (ma, .inl (cs 0, 64, .inl (fun _ => 0)))] Hp := hP
              have hD : va_D A [(o, .inr (7, mdF 0 W H mt qu zz nw ol ne se ke nc ns is ik dc sc 3 (md + i) wh fa re ve ps 0 0 di lv 1 0 bd co bt ma)), (nw, .inl (cs 0, 4608, .inl (mnF (lvF gw W md (fun p9 x9 y9 => (mft (lokP go p9) (wdt p9 W) (wdt p9 H) (nI x9) (nI y9) (mus wh (V 0) p9) (mus wh (V 1) p9) + mft (lokP gn p9) (wdt p9 W) (wdt p9 H) (nI x9) (nI y9) (mus wh (V 2) p9) (mus wh (V 3) p9) + 1) >>> (1 &&& 31)) i) W (md + i) (fun _ _ => 0) (fun p9 x9 y9 => (mft (lokP go p9) (wdt p9 W) (wdt p9 H) (nI x9) (nI y9) (mus wh (V 0) p9) (mus wh (V 1) p9) + mft (lokP gn p9) (wdt p9 W) (wdt p9 H) (nI x9) (nI y9) (mus wh (V 2) p9) (mus wh (V 3) p9) + 1) >>> (1 &&& 31)) 6))), (ol, .inl (cs 0, 4608, .inl go)), (ne, .inl (cs 0, 4608, .inl gn)), (ve, .inl (cs 0, 4, .inl V)), (ps, .inl (cs 0, 3, .inl (fun _ => 1024))), (bd, .inl (cs 1, 2, .inl (du 1 1))), (ma, .inl (cs 0, 64, .inl (fun _ => 0)))] := hD
              have hP := hP1
              refine lv_iinc (v := 6) (lv' := [(5, .int 6), (0, .ref o), (1, .int (nI n)), (4, .int (nI i))]) hx hb dX7_leave_221 hl (k := 0) rfl (rfl) (by decide) rfl (fun ls hl => ?_)
              refine lv_goto (tgt := 164) hx hb dX7_leave_224 (by decide) ?_
              refine lv_iload hx hb dX7_leave_164 (lv_at hl 0 rfl) ?_
              refine lv_bipush (v := 6) hx hb dX7_leave_166 (by decide) ?_
              refine lv_icmp_ge (tgt := 227) hx hb dX7_leave_168 (by decide) (fun _ => ?_) (fun c_168 => absurd (by decide) c_168)
              have hP1 : va_P D vwCl [(o, .inr (7, mdF 0 W H mt qu zz nw ol ne se ke nc ns is ik dc sc 3 (md + i) wh fa re ve ps 0 0 di lv 1 0 bd co bt ma)), (nw, .inl (cs 0, 4608, .inl (lvF gw W md (fun p9 x9 y9 => (mft (lokP go p9) (wdt p9 W) (wdt p9 H) (nI x9) (nI y9) (mus wh (V 0) p9) (mus wh (V 1) p9) + mft (lokP gn p9) (wdt p9 W) (wdt p9 H) (nI x9) (nI y9) (mus wh (V 2) p9) (mus wh (V 3) p9) + 1) >>> (1 &&& 31)) (i + 1)))), (ol, .inl (cs 0, 4608, .inl go)), (ne, .inl (cs 0, 4608, .inl gn)), (ve, .inl (cs 0, 4, .inl V)), (ps, .inl (cs 0, 3, .inl (fun _ => 1024))), (bd, .inl (cs 1, 2, .inl (du 1 1))), (ma, .inl (cs 0, 64, .inl (fun _ => 0)))] Hp := hP
              have hD : va_D A [(o, .inr (7, mdF 0 W H mt qu zz nw ol ne se ke nc ns is ik dc sc 3 (md + i) wh fa re ve ps 0 0 di lv 1 0 bd co bt ma)), (nw, .inl (cs 0, 4608, .inl (lvF gw W md (fun p9 x9 y9 => (mft (lokP go p9) (wdt p9 W) (wdt p9 H) (nI x9) (nI y9) (mus wh (V 0) p9) (mus wh (V 1) p9) + mft (lokP gn p9) (wdt p9 W) (wdt p9 H) (nI x9) (nI y9) (mus wh (V 2) p9) (mus wh (V 3) p9) + 1) >>> (1 &&& 31)) (i + 1)))), (ol, .inl (cs 0, 4608, .inl go)), (ne, .inl (cs 0, 4608, .inl gn)), (ve, .inl (cs 0, 4, .inl V)), (ps, .inl (cs 0, 3, .inl (fun _ => 1024))), (bd, .inl (cs 1, 2, .inl (du 1 1))), (ma, .inl (cs 0, 64, .inl (fun _ => 0)))] := hD
              have hP := hP1
              refine lv_aload_n hx hb dX7_leave_227 rfl (lv_at hl 1 rfl) ?_
              refine lv_dup hx hb dX7_leave_228 rfl ?_
              refine xget (C := RX7) (T := TX7) (N := 34) hF hX hP (by decide +kernel) 0 18 rfl rfl (by decide) (by decide +kernel) rfl dX7_leave_229 ?_
              refine lv_iconst (v := 1) hx hb dX7_leave_232 (by decide) ?_
              refine lv_iadd hx hb dX7_leave_233 ?_
              refine xrwi (z := nI (md + (i + 1))) (nI_1 (md + i)) ?_
              refine xputf (C := RX7) (T := TX7) (N := 34) (ws1 := [(o, .inr (7, mdF 0 W H mt qu zz nw ol ne se ke nc ns is ik dc sc 3 (md + (i + 1)) wh fa re ve ps 0 0 di lv 1 0 bd co bt ma)), (nw, .inl (cs 0, 4608, .inl (lvF gw W md (fun p9 x9 y9 => (mft (lokP go p9) (wdt p9 W) (wdt p9 H) (nI x9) (nI y9) (mus wh (V 0) p9) (mus wh (V 1) p9) + mft (lokP gn p9) (wdt p9 W) (wdt p9 H) (nI x9) (nI y9) (mus wh (V 2) p9) (mus wh (V 3) p9) + 1) >>> (1 &&& 31)) (i + 1)))), (ol, .inl (cs 0, 4608, .inl go)), (ne, .inl (cs 0, 4608, .inl gn)), (ve, .inl (cs 0, 4, .inl V)), (ps, .inl (cs 0, 3, .inl (fun _ => 1024))), (bd, .inl (cs 1, 2, .inl (du 1 1))), (ma, .inl (cs 0, 64, .inl (fun _ => 0)))]) hF hX hP hD hS (by decide +kernel) tyX7 tyX7_ok nmX7 0 18 rfl rfl (by decide) (by decide +kernel) rfl (rfl) (rfl) (Nat.le_of_ble_eq_true rfl) dX7_leave_234 rfl (fun Hp locs hP hD hS => ?_)
              refine lv_iinc (v := (nI (i + 1))) (lv' := [(4, .int (nI (i + 1))), (5, .int 6), (0, .ref o), (1, .int (nI n))]) hx hb dX7_leave_237 hl (k := 3) rfl (nI_1 i) (by decide) rfl (fun ls hl => ?_)
              refine lv_goto (tgt := 155) hx hb dX7_leave_240 (by decide) ?_
              exact ih_155 (i + 1) (by omega) (by omega) _ _ _ hP hD hS (lv_sub hl [2, 3, 0] rfl)
        exact loop_155 (n - 0 + 1) 0 (Nat.lt_succ_self _) (by omega) _ _ _ hP hD hS (lv_sub hl [1, 2, 0] rfl)
      · have hlt : k4 < 64 := nInle (a := 64) (b := k4) rfl rfl (by decide) (by omega) c_135
        refine lv_aload_n hx hb dX7_leave_138 rfl (lv_at hl 0 rfl) ?_
        refine xget (C := RX7) (T := TX7) (N := 34) hF hX hP (by decide +kernel) 0 33 rfl rfl (by decide) (by decide +kernel) rfl dX7_leave_139 ?_
        refine lv_iload hx hb dX7_leave_142 (lv_at hl 2 rfl) ?_
        refine lv_iconst (v := 0) hx hb dX7_leave_144 (by decide) ?_
        refine xast (k := k4) (ws1 := [(o, .inr (7, mdF 0 W H mt qu zz nw ol ne se ke nc ns is ik dc sc 3 md wh fa re ve ps 0 0 di lv 1 0 bd co bt ma)), (nw, .inl (cs 0, 4608, .inl gw)), (ol, .inl (cs 0, 4608, .inl go)), (ne, .inl (cs 0, 4608, .inl gn)), (ve, .inl (cs 0, 4, .inl V)), (ps, .inl (cs 0, 3, .inl (fun _ => 1024))), (bd, .inl (cs 1, 2, .inl (du 1 1))), (ma, .inl (cs 0, 64, .inl (filTo mf 0 (k4 + 1))))]) hF hX hP hD hS 7 rfl (nI_clamp (by omega)) (vp_in_nI (by omega) (by decide)) dX7_leave_145 (congrArg (fun z9 => ([(o, .inr (7, mdF 0 W H mt qu zz nw ol ne se ke nc ns is ik dc sc 3 md wh fa re ve ps 0 0 di lv 1 0 bd co bt ma)), (nw, .inl (cs 0, 4608, .inl gw)), (ol, .inl (cs 0, 4608, .inl go)), (ne, .inl (cs 0, 4608, .inl gn)), (ve, .inl (cs 0, 4, .inl V)), (ps, .inl (cs 0, 3, .inl (fun _ => 1024))), (bd, .inl (cs 1, 2, .inl (du 1 1))), (ma, .inl (cs 0, 64, .inl z9))] : va_W)) (filTo_s mf 0 k4)) (fun Hp locs hP hD hS => ?_)
        refine lv_iinc (v := (nI (k4 + 1))) (lv' := [(4, .int (nI (k4 + 1))), (0, .ref o), (1, .int (nI n))]) hx hb dX7_leave_146 hl (k := 2) rfl (nI_1 k4) (by decide) rfl (fun ls hl => ?_)
        refine lv_goto (tgt := 131) hx hb dX7_leave_149 (by decide) ?_
        exact ih_131 (k4 + 1) (by omega) (by omega) _ _ _ hP hD hS (lv_sub hl [1, 2, 0] rfl)
  have hP := xeqP hP (congrArg (fun z9 => ([(o, .inr (7, mdF 0 W H mt qu zz nw ol ne se ke nc ns is ik dc sc 3 md wh fa re ve ps 0 0 di lv 1 0 bd co bt ma)), (nw, .inl (cs 0, 4608, .inl gw)), (ol, .inl (cs 0, 4608, .inl go)), (ne, .inl (cs 0, 4608, .inl gn)), (ve, .inl (cs 0, 4, .inl V)), (ps, .inl (cs 0, 3, .inl (fun _ => 1024))), (bd, .inl (cs 1, 2, .inl (du 1 1))), (ma, .inl (cs 0, 64, .inl z9))] : va_W)) ((show mf = filTo mf 0 0 from funext (fun j => by simp [filTo]))))
  have hD := xeqD hD (congrArg (fun z9 => ([(o, .inr (7, mdF 0 W H mt qu zz nw ol ne se ke nc ns is ik dc sc 3 md wh fa re ve ps 0 0 di lv 1 0 bd co bt ma)), (nw, .inl (cs 0, 4608, .inl gw)), (ol, .inl (cs 0, 4608, .inl go)), (ne, .inl (cs 0, 4608, .inl gn)), (ve, .inl (cs 0, 4, .inl V)), (ps, .inl (cs 0, 3, .inl (fun _ => 1024))), (bd, .inl (cs 1, 2, .inl (du 1 1))), (ma, .inl (cs 0, 64, .inl z9))] : va_W)) ((show mf = filTo mf 0 0 from funext (fun j => by simp [filTo]))))
  exact loop_131 (64 - 0 + 1) 0 (Nat.lt_succ_self _) (by decide) _ _ _ hP hD hS (lv_sub hl [3, 4, 0] rfl)
