
/-! ===== the reference: vector, square, done, last ===== -/
def tVec (kd fu ow Rk kk dx dy : Int32) : Int32 := if dx < -(16 * Rk) then 1 else if 16 * Rk < dx then 1 else if dy < -(16 * Rk) then 1 else if dy ≤ 16 * Rk then (if fu = 0 then (if ow = 0 then (if kd = 1 then 2 else if kd = 2 then (if kk = 1 then 2 else 0) else 0) else 2) else 2) else 1
def mmov (V : Nat → Int32) (k : Nat) (r dx dy : Int32) : Nat → Int32 := upd (upd V (2 * k) (mvd (V (2 * k)) dx r)) (2 * k + 1) (mvd (V (2 * k + 1)) dy r)
def mcO (P Lv M : Nat → Int32) (fa : Int32) (k : Nat) : Nat → Int32 := cof (mOwn (pasN P Lv k) Lv M fa k)
def mcD (Lv M : Nat → Int32) (fa : Int32) (k : Nat) : Nat → Int32 := cof (mDif Lv M fa k)
/-- the samples behind n blocks of a square -/
def mnO (gw : Nat → Int32) (W md : Nat) (B : Nat → Nat → Int32) : Nat → Nat → Int32
  | 0 => gw
  | b + 1 => mpB (mnO gw W md B b) W md b (mlO W md b (B b)) 64
def mnF (gw : Nat → Int32) (W md : Nat) (B : Nat → Nat → Int32) (F : Nat → Nat → Nat → Int32) : Nat → Nat → Int32
  | 0 => gw
  | b + 1 => mpB (mnF gw W md B F b) W md b (mlF W md b (B b) (F (pl b))) 64

set_option maxHeartbeats 4000000 in
set_option maxRecDepth 100000 in
theorem c_X7_vector_dir (l : Launch) (D : va_G) (cs : Nat → ClassId) (tt : Nat → Nat) (o mt qu zz nw ol ne se ke re ve ps di lv bd co bt ma W H md : Nat) (th nc ns is ik dc sc kd wh fa ow tl bf bo : Int32) (d9 dx dy : Int32) (hd : d9 < 0 ∨ 1 < d9) : xM l yX7_vector wsX7_vector ({ frames := 0, cells := 0, slots := 0, locals := 0 } : Room) D cs tt [.ref o, .int d9, .int dx, .int dy] [(o, .inr (7, mdF th W H mt qu zz nw ol ne se ke nc ns is ik dc sc kd md wh fa re ve ps ow tl di lv bf bo bd co bt ma))] none [(o, .inr (7, mdF 1 W H mt qu zz nw ol ne se ke nc ns is ik dc sc kd md wh fa re ve ps ow tl di lv bf bo bd co bt ma))] := by
  refine xM.of RX7 rfl (by decide) rfl (Nat.le_of_ble_eq_true rfl) ?_
  intro p e s m below meth c A ls hF hr hlk hX hP hD hS hl
  have hx := hF.1
  have hb := hF.2.1
  have hl : lv_has ls 6 [(0, .ref o), (1, .int d9), (2, .int dx), (3, .int dy)] := hl
  refine lv_iload_n hx hb dX7_vector_0 rfl (lv_at hl 1 rfl) ?_
  refine lv_if_lt (tgt := 9) hx hb dX7_vector_1 (by decide) (fun c_1 => ?_) (fun c_1 => ?_)
  · refine lv_iconst (v := 1) hx hb dX7_vector_9 (by decide) ?_
    refine lv_goto (tgt := 14) hx hb dX7_vector_10 (by decide) ?_
    refine lv_istore (lv' := [(4, .int 1), (0, .ref o), (1, .int d9), (2, .int dx), (3, .int dy)]) hx hb dX7_vector_14 hl (by decide) rfl (fun ls hl => ?_)
    refine lv_iload hx hb dX7_vector_16 (lv_at hl 0 rfl) ?_
    refine lv_if_eq (tgt := 25) hx hb dX7_vector_18 (by decide) (fun c_18 => absurd c_18 (by decide)) (fun _ => ?_)
    refine lv_iconst (v := 0) hx hb dX7_vector_21 (by decide) ?_
    refine lv_goto (tgt := 34) hx hb dX7_vector_22 (by decide) ?_
    refine lv_istore (lv' := [(5, .int 0), (4, .int 1), (0, .ref o), (1, .int d9), (2, .int dx), (3, .int dy)]) hx hb dX7_vector_34 hl (by decide) rfl (fun ls hl => ?_)
    refine lv_aload_n hx hb dX7_vector_36 rfl (lv_at hl 2 rfl) ?_
    refine lv_iload hx hb dX7_vector_37 (lv_at hl 1 rfl) ?_
    refine lv_if_ne (tgt := 68) hx hb dX7_vector_39 (by decide) (fun _ => ?_) (fun c_39 => absurd c_39 (by decide))
    refine lv_iconst (v := 1) hx hb dX7_vector_68 (by decide) ?_
    refine lv_goto (tgt := 112) hx hb dX7_vector_69 (by decide) ?_
    refine xputf (C := RX7) (T := TX7) (N := 34) (ws1 := [(o, .inr (7, mdF 1 W H mt qu zz nw ol ne se ke nc ns is ik dc sc kd md wh fa re ve ps ow tl di lv bf bo bd co bt ma))]) hF hX hP hD hS (by decide +kernel) tyX7 tyX7_ok nmX7 0 0 rfl rfl (by decide) (by decide +kernel) rfl (rfl) (rfl) (Nat.le_of_ble_eq_true rfl) dX7_vector_112 rfl (fun Hp locs hP hD hS => ?_)
    refine lv_aload_n hx hb dX7_vector_115 rfl (lv_at hl 2 rfl) ?_
    refine xget (C := RX7) (T := TX7) (N := 34) hF hX hP (by decide +kernel) 0 0 rfl rfl (by decide) (by decide +kernel) rfl dX7_vector_116 ?_
    refine lv_if_le (tgt := 123) hx hb dX7_vector_119 (by decide) (fun c_119 => absurd c_119 (by decide)) (fun _ => ?_)
    exact xrv hF hr hlk hP hD hS dX7_vector_122
  · refine lv_iload_n hx hb dX7_vector_4 rfl (lv_at hl 1 rfl) ?_
    refine lv_iconst (v := 1) hx hb dX7_vector_5 (by decide) ?_
    refine lv_icmp_le (tgt := 13) hx hb dX7_vector_6 (by decide) (fun c_6 => absurd c_6 (hd.elim (fun h => absurd h c_1) (fun h => Int32.not_le.mpr h))) (fun _ => ?_)
    refine lv_iconst (v := 1) hx hb dX7_vector_9 (by decide) ?_
    refine lv_goto (tgt := 14) hx hb dX7_vector_10 (by decide) ?_
    refine lv_istore (lv' := [(4, .int 1), (0, .ref o), (1, .int d9), (2, .int dx), (3, .int dy)]) hx hb dX7_vector_14 hl (by decide) rfl (fun ls hl => ?_)
    refine lv_iload hx hb dX7_vector_16 (lv_at hl 0 rfl) ?_
    refine lv_if_eq (tgt := 25) hx hb dX7_vector_18 (by decide) (fun c_18 => absurd c_18 (by decide)) (fun _ => ?_)
    refine lv_iconst (v := 0) hx hb dX7_vector_21 (by decide) ?_
    refine lv_goto (tgt := 34) hx hb dX7_vector_22 (by decide) ?_
    refine lv_istore (lv' := [(5, .int 0), (4, .int 1), (0, .ref o), (1, .int d9), (2, .int dx), (3, .int dy)]) hx hb dX7_vector_34 hl (by decide) rfl (fun ls hl => ?_)
    refine lv_aload_n hx hb dX7_vector_36 rfl (lv_at hl 2 rfl) ?_
    refine lv_iload hx hb dX7_vector_37 (lv_at hl 1 rfl) ?_
    refine lv_if_ne (tgt := 68) hx hb dX7_vector_39 (by decide) (fun _ => ?_) (fun c_39 => absurd c_39 (by decide))
    refine lv_iconst (v := 1) hx hb dX7_vector_68 (by decide) ?_
    refine lv_goto (tgt := 112) hx hb dX7_vector_69 (by decide) ?_
    refine xputf (C := RX7) (T := TX7) (N := 34) (ws1 := [(o, .inr (7, mdF 1 W H mt qu zz nw ol ne se ke nc ns is ik dc sc kd md wh fa re ve ps ow tl di lv bf bo bd co bt ma))]) hF hX hP hD hS (by decide +kernel) tyX7 tyX7_ok nmX7 0 0 rfl rfl (by decide) (by decide +kernel) rfl (rfl) (rfl) (Nat.le_of_ble_eq_true rfl) dX7_vector_112 rfl (fun Hp locs hP hD hS => ?_)
    refine lv_aload_n hx hb dX7_vector_115 rfl (lv_at hl 2 rfl) ?_
    refine xget (C := RX7) (T := TX7) (N := 34) hF hX hP (by decide +kernel) 0 0 rfl rfl (by decide) (by decide +kernel) rfl dX7_vector_116 ?_
    refine lv_if_le (tgt := 123) hx hb dX7_vector_119 (by decide) (fun c_119 => absurd c_119 (by decide)) (fun _ => ?_)
    exact xrv hF hr hlk hP hD hS dX7_vector_122

set_option maxHeartbeats 4000000 in
set_option maxRecDepth 100000 in
theorem c_X7_vector_bad (l : Launch) (D : va_G) (cs : Nat → ClassId) (tt : Nat → Nat) (o mt qu zz nw ol ne se ke re ve ps di lv bd co bt ma W H md : Nat) (th nc ns is ik dc sc kd wh fa ow tl bf bo : Int32) (k : Nat) (dx dy : Int32) (Re V Di : Nat → Int32) (ht : (tVec kd (isf kd W H md) ow (Re k) (nI k) dx dy) = 1 ∨ (tVec kd (isf kd W H md) ow (Re k) (nI k) dx dy) = 2) (hk : k < 2) : xM l yX7_vector wsX7_vector ({ frames := 1, cells := 0, slots := 0, locals := 20 } : Room) D cs tt [.ref o, .int (nI k), .int dx, .int dy] [(o, .inr (7, mdF th W H mt qu zz nw ol ne se ke nc ns is ik dc sc kd md wh fa re ve ps ow tl di lv bf bo bd co bt ma)), (re, .inl (cs 0, 2, .inl Re)), (ve, .inl (cs 0, 4, .inl V)), (di, .inl (cs 1, 2, .inl Di))] none [(o, .inr (7, mdF (tVec kd (isf kd W H md) ow (Re k) (nI k) dx dy) W H mt qu zz nw ol ne se ke nc ns is ik dc sc kd md wh fa re ve ps ow tl di lv bf bo bd co bt ma)), (re, .inl (cs 0, 2, .inl Re)), (ve, .inl (cs 0, 4, .inl V)), (di, .inl (cs 1, 2, .inl Di))] := by
  refine xM.of RX7 rfl (by decide) rfl (Nat.le_of_ble_eq_true rfl) ?_
  intro p e s m below meth c A ls hF hr hlk hX hP hD hS hl
  have hx := hF.1
  have hb := hF.2.1
  have hl : lv_has ls 6 [(0, .ref o), (1, .int (nI k)), (2, .int dx), (3, .int dy)] := hl
  have join_112 : ∀ (Hp : Heap) (locs : List Loc) (ls : Array Slot), va_P D vwCl [(o, .inr (7, mdF th W H mt qu zz nw ol ne se ke nc ns is ik dc sc kd md wh fa re ve ps ow tl di lv bf bo bd co bt ma)), (re, .inl (cs 0, 2, .inl Re)), (ve, .inl (cs 0, 4, .inl V)), (di, .inl (cs 1, 2, .inl Di))] Hp → va_D A [(o, .inr (7, mdF th W H mt qu zz nw ol ne se ke nc ns is ik dc sc kd md wh fa re ve ps ow tl di lv bf bo bd co bt ma)), (re, .inl (cs 0, 2, .inl Re)), (ve, .inl (cs 0, 4, .inl V)), (di, .inl (cs 1, 2, .inl Di))] → va_S A s.heap Hp locs → lv_has ls 6 [(0, .ref o), (1, .int (nI k)), (2, .int dx), (3, .int dy)] → xW p l e ({ frames := 1, cells := 0, slots := 0, locals := 20 } : Room) s m ([.ref o, .int (nI k), .int dx, .int dy] : List Value).toArray below meth c Hp locs 0 0 (MQ below (xE D A none [(o, .inr (7, mdF (tVec kd (isf kd W H md) ow (Re k) (nI k) dx dy) W H mt qu zz nw ol ne se ke nc ns is ik dc sc kd md wh fa re ve ps ow tl di lv bf bo bd co bt ma)), (re, .inl (cs 0, 2, .inl Re)), (ve, .inl (cs 0, 4, .inl V)), (di, .inl (cs 1, 2, .inl Di))]) ([.ref o, .int (nI k), .int dx, .int dy] : List Value).toArray s 0 0 A) (F0 m 112 ls [.int (tVec kd (isf kd W H md) ow (Re k) (nI k) dx dy), .ref o]) := by
    intro Hp locs ls hP hD hS hl
    refine xputf (C := RX7) (T := TX7) (N := 34) (ws1 := [(o, .inr (7, mdF (tVec kd (isf kd W H md) ow (Re k) (nI k) dx dy) W H mt qu zz nw ol ne se ke nc ns is ik dc sc kd md wh fa re ve ps ow tl di lv bf bo bd co bt ma)), (re, .inl (cs 0, 2, .inl Re)), (ve, .inl (cs 0, 4, .inl V)), (di, .inl (cs 1, 2, .inl Di))]) hF hX hP hD hS (by decide +kernel) tyX7 tyX7_ok nmX7 0 0 rfl rfl (by decide) (by decide +kernel) rfl (rfl) (rfl) (Nat.le_of_ble_eq_true rfl) dX7_vector_112 rfl (fun Hp locs hP hD hS => ?_)
    refine lv_aload_n hx hb dX7_vector_115 rfl (lv_at hl 0 rfl) ?_
    refine xget (C := RX7) (T := TX7) (N := 34) hF hX hP (by decide +kernel) 0 0 rfl rfl (by decide) (by decide +kernel) rfl dX7_vector_116 ?_
    refine lv_if_le (tgt := 123) hx hb dX7_vector_119 (by decide) (fun c_119 => absurd c_119 (by rcases ht with h9 | h9 <;> rw [h9] <;> decide)) (fun _ => ?_)
    exact xrv hF hr hlk hP hD hS dX7_vector_122
  refine lv_iload_n hx hb dX7_vector_0 rfl (lv_at hl 1 rfl) ?_
  refine lv_if_lt (tgt := 9) hx hb dX7_vector_1 (by decide) (fun c_1 => absurd c_1 (nI_pos (by omega))) (fun _ => ?_)
  refine lv_iload_n hx hb dX7_vector_4 rfl (lv_at hl 1 rfl) ?_
  refine lv_iconst (v := 1) hx hb dX7_vector_5 (by decide) ?_
  refine lv_icmp_le (tgt := 13) hx hb dX7_vector_6 (by decide) (fun _ => ?_) (fun c_6 => absurd ((nI_leI (b := 1) (by omega) (by decide)).mpr (by omega)) c_6)
  refine lv_iconst (v := 0) hx hb dX7_vector_13 (by decide) ?_
  refine lv_istore (lv' := [(4, .int 0), (0, .ref o), (1, .int (nI k)), (2, .int dx), (3, .int dy)]) hx hb dX7_vector_14 hl (by decide) rfl (fun ls hl => ?_)
  refine lv_iload hx hb dX7_vector_16 (lv_at hl 0 rfl) ?_
  refine lv_if_eq (tgt := 25) hx hb dX7_vector_18 (by decide) (fun _ => ?_) (fun c_18 => absurd (by decide) c_18)
  refine lv_bipush (v := 16) hx hb dX7_vector_25 (by decide) ?_
  refine lv_aload_n hx hb dX7_vector_27 rfl (lv_at hl 1 rfl) ?_
  refine xget (C := RX7) (T := TX7) (N := 34) hF hX hP (by decide +kernel) 0 21 rfl rfl (by decide) (by decide +kernel) rfl dX7_vector_28 ?_
  refine lv_iload_n hx hb dX7_vector_31 rfl (lv_at hl 2 rfl) ?_
  refine xald (k := k) hF hX hP 1 rfl (nI_clamp (by omega)) (vp_in_nI (hk) (by decide)) dX7_vector_32 ?_
  refine lv_imul hx hb dX7_vector_33 ?_
  refine lv_istore (lv' := [(5, .int (16 * (Re k))), (4, .int 0), (0, .ref o), (1, .int (nI k)), (2, .int dx), (3, .int dy)]) hx hb dX7_vector_34 hl (by decide) rfl (fun ls hl => ?_)
  refine lv_aload_n hx hb dX7_vector_36 rfl (lv_at hl 2 rfl) ?_
  refine lv_iload hx hb dX7_vector_37 (lv_at hl 1 rfl) ?_
  refine lv_if_ne (tgt := 68) hx hb dX7_vector_39 (by decide) (fun c_39 => absurd (by decide) c_39) (fun _ => ?_)
  refine lv_iload_n hx hb dX7_vector_42 rfl (lv_at hl 4 rfl) ?_
  refine lv_iload hx hb dX7_vector_43 (lv_at hl 0 rfl) ?_
  refine lv_ineg hx hb dX7_vector_45 ?_
  refine lv_icmp_lt (tgt := 68) hx hb dX7_vector_46 (by decide) (fun c_46 => ?_) (fun c_46 => ?_)
  · refine lv_iconst (v := 1) hx hb dX7_vector_68 (by decide) ?_
    refine lv_goto (tgt := 112) hx hb dX7_vector_69 (by decide) ?_
    refine xrwi (z := (tVec kd (isf kd W H md) ow (Re k) (nI k) dx dy)) (by unfold tVec; rw [if_pos c_46]) ?_
    exact join_112   _ _ _ hP hD hS (lv_sub hl [2, 3, 4, 5] rfl)
  · refine lv_iload_n hx hb dX7_vector_49 rfl (lv_at hl 4 rfl) ?_
    refine lv_iload hx hb dX7_vector_50 (lv_at hl 0 rfl) ?_
    refine lv_icmp_gt (tgt := 68) hx hb dX7_vector_52 (by decide) (fun c_52 => ?_) (fun c_52 => ?_)
    · refine lv_iconst (v := 1) hx hb dX7_vector_68 (by decide) ?_
      refine lv_goto (tgt := 112) hx hb dX7_vector_69 (by decide) ?_
      refine xrwi (z := (tVec kd (isf kd W H md) ow (Re k) (nI k) dx dy)) (by unfold tVec; rw [if_neg c_46, if_pos c_52]) ?_
      exact join_112   _ _ _ hP hD hS (lv_sub hl [2, 3, 4, 5] rfl)
    · refine lv_iload_n hx hb dX7_vector_55 rfl (lv_at hl 5 rfl) ?_
      refine lv_iload hx hb dX7_vector_56 (lv_at hl 0 rfl) ?_
      refine lv_ineg hx hb dX7_vector_58 ?_
      refine lv_icmp_lt (tgt := 68) hx hb dX7_vector_59 (by decide) (fun c_59 => ?_) (fun c_59 => ?_)
      · refine lv_iconst (v := 1) hx hb dX7_vector_68 (by decide) ?_
        refine lv_goto (tgt := 112) hx hb dX7_vector_69 (by decide) ?_
        refine xrwi (z := (tVec kd (isf kd W H md) ow (Re k) (nI k) dx dy)) (by unfold tVec; rw [if_neg c_46, if_neg c_52, if_pos c_59]) ?_
        exact join_112   _ _ _ hP hD hS (lv_sub hl [2, 3, 4, 5] rfl)
      · refine lv_iload_n hx hb dX7_vector_62 rfl (lv_at hl 5 rfl) ?_
        refine lv_iload hx hb dX7_vector_63 (lv_at hl 0 rfl) ?_
        refine lv_icmp_le (tgt := 72) hx hb dX7_vector_65 (by decide) (fun c_65 => ?_) (fun c_65 => ?_)
        · refine lv_aload_n hx hb dX7_vector_72 rfl (lv_at hl 2 rfl) ?_
          refine xV (rest := [.ref o]) (As := []) (ws1 := [(o, .inr (7, mdF th W H mt qu zz nw ol ne se ke nc ns is ik dc sc kd md wh fa re ve ps ow tl di lv bf bo bd co bt ma)), (re, .inl (cs 0, 2, .inl Re)), (ve, .inl (cs 0, 4, .inl V)), (di, .inl (cs 1, 2, .inl Di))]) (st1 := [.int (isf kd W H md), .ref o]) hF (c_X7_isFull l D cs tt o mt qu zz nw ol ne se ke re ve ps di lv bd co bt ma W H md th nc ns is ik dc sc kd wh fa ow tl bf bo) gX7_vector_X7_isFull rfl (n := 0) (by decide +kernel) rfl ⟨⟨rfl, rfl⟩, Nat.le_of_ble_eq_true rfl, Nat.le_of_ble_eq_true rfl⟩ ⟨Nat.le_of_ble_eq_true rfl, Nat.le_of_ble_eq_true rfl⟩ hX hP hD hS [0] (by decide) rfl [o] rfl rfl (q0 := 0) (ci := 7) rfl rfl rfl hl.1 rfl (Nat.le_of_ble_eq_true rfl) dX7_vector_73 rfl rfl (fun Hp locs hP hD hS => ?_)
          refine lv_if_ne (tgt := 107) hx hb dX7_vector_76 (by decide) (fun c_76 => ?_) (fun c_76 => ?_)
          · refine lv_iconst (v := 2) hx hb dX7_vector_107 (by decide) ?_
            refine lv_goto (tgt := 112) hx hb dX7_vector_108 (by decide) ?_
            refine xrwi (z := (tVec kd (isf kd W H md) ow (Re k) (nI k) dx dy)) (by unfold tVec; rw [if_neg c_46, if_neg c_52, if_neg c_59, if_pos c_65, if_neg c_76]) ?_
            exact join_112   _ _ _ hP hD hS (lv_sub hl [2, 3, 4, 5] rfl)
          · refine lv_aload_n hx hb dX7_vector_79 rfl (lv_at hl 2 rfl) ?_
            refine xget (C := RX7) (T := TX7) (N := 34) hF hX hP (by decide +kernel) 0 24 rfl rfl (by decide) (by decide +kernel) rfl dX7_vector_80 ?_
            refine lv_if_ne (tgt := 107) hx hb dX7_vector_83 (by decide) (fun c_83 => ?_) (fun c_83 => ?_)
            · refine lv_iconst (v := 2) hx hb dX7_vector_107 (by decide) ?_
              refine lv_goto (tgt := 112) hx hb dX7_vector_108 (by decide) ?_
              refine xrwi (z := (tVec kd (isf kd W H md) ow (Re k) (nI k) dx dy)) (by unfold tVec; rw [if_neg c_46, if_neg c_52, if_neg c_59, if_pos c_65, if_pos c_76, if_neg c_83]) ?_
              exact join_112   _ _ _ hP hD hS (lv_sub hl [2, 3, 4, 5] rfl)
            · refine lv_aload_n hx hb dX7_vector_86 rfl (lv_at hl 2 rfl) ?_
              refine xget (C := RX7) (T := TX7) (N := 34) hF hX hP (by decide +kernel) 0 17 rfl rfl (by decide) (by decide +kernel) rfl dX7_vector_87 ?_
              refine lv_iconst (v := 1) hx hb dX7_vector_90 (by decide) ?_
              refine lv_icmp_eq (tgt := 107) hx hb dX7_vector_91 (by decide) (fun c_91 => ?_) (fun c_91 => ?_)
              · refine lv_iconst (v := 2) hx hb dX7_vector_107 (by decide) ?_
                refine lv_goto (tgt := 112) hx hb dX7_vector_108 (by decide) ?_
                refine xrwi (z := (tVec kd (isf kd W H md) ow (Re k) (nI k) dx dy)) (by unfold tVec; rw [if_neg c_46, if_neg c_52, if_neg c_59, if_pos c_65, if_pos c_76, if_pos c_83, if_pos c_91]) ?_
                exact join_112   _ _ _ hP hD hS (lv_sub hl [2, 3, 4, 5] rfl)
              · refine lv_aload_n hx hb dX7_vector_94 rfl (lv_at hl 2 rfl) ?_
                refine xget (C := RX7) (T := TX7) (N := 34) hF hX hP (by decide +kernel) 0 17 rfl rfl (by decide) (by decide +kernel) rfl dX7_vector_95 ?_
                refine lv_iconst (v := 2) hx hb dX7_vector_98 (by decide) ?_
                refine lv_icmp_ne (tgt := 111) hx hb dX7_vector_99 (by decide) (fun c_99 => ?_) (fun c_99 => ?_)
                · refine lv_iconst (v := 0) hx hb dX7_vector_111 (by decide) ?_
                  refine xrwi (z := (tVec kd (isf kd W H md) ow (Re k) (nI k) dx dy)) (by unfold tVec; rw [if_neg c_46, if_neg c_52, if_neg c_59, if_pos c_65, if_pos c_76, if_pos c_83, if_neg c_91, if_neg c_99]) ?_
                  exact join_112   _ _ _ hP hD hS (lv_sub hl [2, 3, 4, 5] rfl)
                · refine lv_iload_n hx hb dX7_vector_102 rfl (lv_at hl 3 rfl) ?_
                  refine lv_iconst (v := 1) hx hb dX7_vector_103 (by decide) ?_
                  refine lv_icmp_ne (tgt := 111) hx hb dX7_vector_104 (by decide) (fun c_104 => ?_) (fun c_104 => ?_)
                  · refine lv_iconst (v := 0) hx hb dX7_vector_111 (by decide) ?_
                    refine xrwi (z := (tVec kd (isf kd W H md) ow (Re k) (nI k) dx dy)) (by unfold tVec; rw [if_neg c_46, if_neg c_52, if_neg c_59, if_pos c_65, if_pos c_76, if_pos c_83, if_neg c_91, if_pos c_99, if_neg c_104]) ?_
                    exact join_112   _ _ _ hP hD hS (lv_sub hl [2, 3, 4, 5] rfl)
                  · refine lv_iconst (v := 2) hx hb dX7_vector_107 (by decide) ?_
                    refine lv_goto (tgt := 112) hx hb dX7_vector_108 (by decide) ?_
                    refine xrwi (z := (tVec kd (isf kd W H md) ow (Re k) (nI k) dx dy)) (by unfold tVec; rw [if_neg c_46, if_neg c_52, if_neg c_59, if_pos c_65, if_pos c_76, if_pos c_83, if_neg c_91, if_pos c_99, if_pos c_104]) ?_
                    exact join_112   _ _ _ hP hD hS (lv_sub hl [2, 3, 4, 5] rfl)
        · refine lv_iconst (v := 1) hx hb dX7_vector_68 (by decide) ?_
          refine lv_goto (tgt := 112) hx hb dX7_vector_69 (by decide) ?_
          refine xrwi (z := (tVec kd (isf kd W H md) ow (Re k) (nI k) dx dy)) (by unfold tVec; rw [if_neg c_46, if_neg c_52, if_neg c_59, if_neg c_65]) ?_
          exact join_112   _ _ _ hP hD hS (lv_sub hl [2, 3, 4, 5] rfl)

set_option maxHeartbeats 4000000 in
set_option maxRecDepth 100000 in
theorem c_X7_vector_ok (l : Launch) (D : va_G) (cs : Nat → ClassId) (tt : Nat → Nat) (o mt qu zz nw ol ne se ke re ve ps di lv bd co bt ma W H md : Nat) (th nc ns is ik dc sc kd wh fa ow tl bf bo : Int32) (k : Nat) (dx dy : Int32) (Re V Di : Nat → Int32) (ht : (tVec kd (isf kd W H md) ow (Re k) (nI k) dx dy) = 0) (hk : k < 2) : xM l yX7_vector wsX7_vector ({ frames := 1, cells := 0, slots := 0, locals := 23 } : Room) D cs tt [.ref o, .int (nI k), .int dx, .int dy] [(o, .inr (7, mdF th W H mt qu zz nw ol ne se ke nc ns is ik dc sc kd md wh fa re ve ps ow tl di lv bf bo bd co bt ma)), (re, .inl (cs 0, 2, .inl Re)), (ve, .inl (cs 0, 4, .inl V)), (di, .inl (cs 1, 2, .inl Di))] none [(o, .inr (7, mdF (tVec kd (isf kd W H md) ow (Re k) (nI k) dx dy) W H mt qu zz nw ol ne se ke nc ns is ik dc sc kd md wh fa re ve ps ow 1 di lv bf bo bd co bt ma)), (re, .inl (cs 0, 2, .inl Re)), (ve, .inl (cs 0, 4, .inl (mmov V k (Re k) dx dy))), (di, .inl (cs 1, 2, .inl (upd Di k 1)))] := by
  refine xM.of RX7 rfl (by decide) rfl (Nat.le_of_ble_eq_true rfl) ?_
  intro p e s m below meth c A ls hF hr hlk hX hP hD hS hl
  have hx := hF.1
  have hb := hF.2.1
  have hl : lv_has ls 6 [(0, .ref o), (1, .int (nI k)), (2, .int dx), (3, .int dy)] := hl
  have join_112 : ∀ (Hp : Heap) (locs : List Loc) (ls : Array Slot), va_P D vwCl [(o, .inr (7, mdF th W H mt qu zz nw ol ne se ke nc ns is ik dc sc kd md wh fa re ve ps ow tl di lv bf bo bd co bt ma)), (re, .inl (cs 0, 2, .inl Re)), (ve, .inl (cs 0, 4, .inl V)), (di, .inl (cs 1, 2, .inl Di))] Hp → va_D A [(o, .inr (7, mdF th W H mt qu zz nw ol ne se ke nc ns is ik dc sc kd md wh fa re ve ps ow tl di lv bf bo bd co bt ma)), (re, .inl (cs 0, 2, .inl Re)), (ve, .inl (cs 0, 4, .inl V)), (di, .inl (cs 1, 2, .inl Di))] → va_S A s.heap Hp locs → lv_has ls 6 [(0, .ref o), (1, .int (nI k)), (2, .int dx), (3, .int dy)] → xW p l e ({ frames := 1, cells := 0, slots := 0, locals := 23 } : Room) s m ([.ref o, .int (nI k), .int dx, .int dy] : List Value).toArray below meth c Hp locs 0 0 (MQ below (xE D A none [(o, .inr (7, mdF (tVec kd (isf kd W H md) ow (Re k) (nI k) dx dy) W H mt qu zz nw ol ne se ke nc ns is ik dc sc kd md wh fa re ve ps ow 1 di lv bf bo bd co bt ma)), (re, .inl (cs 0, 2, .inl Re)), (ve, .inl (cs 0, 4, .inl (mmov V k (Re k) dx dy))), (di, .inl (cs 1, 2, .inl (upd Di k 1)))]) ([.ref o, .int (nI k), .int dx, .int dy] : List Value).toArray s 0 0 A) (F0 m 112 ls [.int (tVec kd (isf kd W H md) ow (Re k) (nI k) dx dy), .ref o]) := by
    intro Hp locs ls hP hD hS hl
    refine xputf (C := RX7) (T := TX7) (N := 34) (ws1 := [(o, .inr (7, mdF (tVec kd (isf kd W H md) ow (Re k) (nI k) dx dy) W H mt qu zz nw ol ne se ke nc ns is ik dc sc kd md wh fa re ve ps ow tl di lv bf bo bd co bt ma)), (re, .inl (cs 0, 2, .inl Re)), (ve, .inl (cs 0, 4, .inl V)), (di, .inl (cs 1, 2, .inl Di))]) hF hX hP hD hS (by decide +kernel) tyX7 tyX7_ok nmX7 0 0 rfl rfl (by decide) (by decide +kernel) rfl (rfl) (rfl) (Nat.le_of_ble_eq_true rfl) dX7_vector_112 rfl (fun Hp locs hP hD hS => ?_)
    refine lv_aload_n hx hb dX7_vector_115 rfl (lv_at hl 0 rfl) ?_
    refine xget (C := RX7) (T := TX7) (N := 34) hF hX hP (by decide +kernel) 0 0 rfl rfl (by decide) (by decide +kernel) rfl dX7_vector_116 ?_
    refine lv_if_le (tgt := 123) hx hb dX7_vector_119 (by decide) (fun _ => ?_) (fun c_119 => absurd (by rw [ht]; decide) c_119)
    refine lv_aload_n hx hb dX7_vector_123 rfl (lv_at hl 0 rfl) ?_
    refine xget (C := RX7) (T := TX7) (N := 34) hF hX hP (by decide +kernel) 0 22 rfl rfl (by decide) (by decide +kernel) rfl dX7_vector_124 ?_
    refine lv_iconst (v := 2) hx hb dX7_vector_127 (by decide) ?_
    refine lv_iload_n hx hb dX7_vector_128 rfl (lv_at hl 1 rfl) ?_
    refine lv_imul hx hb dX7_vector_129 ?_
    refine xrwi (z := nI (2 * k)) (pk_mul 2 k) ?_
    refine lv_aload_n hx hb dX7_vector_130 rfl (lv_at hl 0 rfl) ?_
    refine xget (C := RX7) (T := TX7) (N := 34) hF hX hP (by decide +kernel) 0 22 rfl rfl (by decide) (by decide +kernel) rfl dX7_vector_131 ?_
    refine lv_iconst (v := 2) hx hb dX7_vector_134 (by decide) ?_
    refine lv_iload_n hx hb dX7_vector_135 rfl (lv_at hl 1 rfl) ?_
    refine lv_imul hx hb dX7_vector_136 ?_
    refine xrwi (z := nI (2 * k)) (pk_mul 2 k) ?_
    refine xald (k := 2 * k) hF hX hP 2 rfl (nI_clamp (by omega)) (vp_in_nI (by omega) (by decide)) dX7_vector_137 ?_
    refine lv_iload_n hx hb dX7_vector_138 rfl (lv_at hl 2 rfl) ?_
    refine lv_aload_n hx hb dX7_vector_139 rfl (lv_at hl 0 rfl) ?_
    refine xget (C := RX7) (T := TX7) (N := 34) hF hX hP (by decide +kernel) 0 21 rfl rfl (by decide) (by decide +kernel) rfl dX7_vector_140 ?_
    refine lv_iload_n hx hb dX7_vector_143 rfl (lv_at hl 1 rfl) ?_
    refine xald (k := k) hF hX hP 1 rfl (nI_clamp (by omega)) (vp_in_nI (hk) (by decide)) dX7_vector_144 ?_
    refine xSt (rest := [.int (nI (2 * k)), .ref ve]) (As := [.int (V (2 * k)), .int dx, .int (Re k)]) (ws1 := [(o, .inr (7, mdF (tVec kd (isf kd W H md) ow (Re k) (nI k) dx dy) W H mt qu zz nw ol ne se ke nc ns is ik dc sc kd md wh fa re ve ps ow tl di lv bf bo bd co bt ma)), (re, .inl (cs 0, 2, .inl Re)), (ve, .inl (cs 0, 4, .inl V)), (di, .inl (cs 1, 2, .inl Di))]) (st1 := [.int (mvd (V (2 * k)) dx (Re k)), .int (nI (2 * k)), .ref ve]) hF (c_X7_moved l D cs tt (V (2 * k)) dx (Re k)) gX7_vector_X7_moved rfl (n := 3) (by decide +kernel) rfl ⟨⟨rfl, rfl⟩, Nat.le_of_ble_eq_true rfl, Nat.le_of_ble_eq_true rfl⟩ ⟨Nat.le_of_ble_eq_true rfl, Nat.le_of_ble_eq_true rfl⟩ hX hP hD hS [] (by decide) rfl [] rfl rfl hl.1 rfl (Nat.le_of_ble_eq_true rfl) dX7_vector_145 rfl rfl (fun Hp locs hP hD hS => ?_)
    refine xast (k := 2 * k) (ws1 := [(o, .inr (7, mdF (tVec kd (isf kd W H md) ow (Re k) (nI k) dx dy) W H mt qu zz nw ol ne se ke nc ns is ik dc sc kd md wh fa re ve ps ow tl di lv bf bo bd co bt ma)), (re, .inl (cs 0, 2, .inl Re)), (ve, .inl (cs 0, 4, .inl (upd V (2 * k) (mvd (V (2 * k)) dx (Re k))))), (di, .inl (cs 1, 2, .inl Di))]) hF hX hP hD hS 2 rfl (nI_clamp (by omega)) (vp_in_nI (by omega) (by decide)) dX7_vector_148 rfl (fun Hp locs hP hD hS => ?_)
    refine lv_aload_n hx hb dX7_vector_149 rfl (lv_at hl 0 rfl) ?_
    refine xget (C := RX7) (T := TX7) (N := 34) hF hX hP (by decide +kernel) 0 22 rfl rfl (by decide) (by decide +kernel) rfl dX7_vector_150 ?_
    refine lv_iconst (v := 2) hx hb dX7_vector_153 (by decide) ?_
    refine lv_iload_n hx hb dX7_vector_154 rfl (lv_at hl 1 rfl) ?_
    refine lv_imul hx hb dX7_vector_155 ?_
    refine xrwi (z := nI (2 * k)) (pk_mul 2 k) ?_
    refine lv_iconst (v := 1) hx hb dX7_vector_156 (by decide) ?_
    refine lv_iadd hx hb dX7_vector_157 ?_
    refine xrwi (z := nI (2 * k + 1)) (nI_1 _) ?_
    refine lv_aload_n hx hb dX7_vector_158 rfl (lv_at hl 0 rfl) ?_
    refine xget (C := RX7) (T := TX7) (N := 34) hF hX hP (by decide +kernel) 0 22 rfl rfl (by decide) (by decide +kernel) rfl dX7_vector_159 ?_
    refine lv_iconst (v := 2) hx hb dX7_vector_162 (by decide) ?_
    refine lv_iload_n hx hb dX7_vector_163 rfl (lv_at hl 1 rfl) ?_
    refine lv_imul hx hb dX7_vector_164 ?_
    refine xrwi (z := nI (2 * k)) (pk_mul 2 k) ?_
    refine lv_iconst (v := 1) hx hb dX7_vector_165 (by decide) ?_
    refine lv_iadd hx hb dX7_vector_166 ?_
    refine xrwi (z := nI (2 * k + 1)) (nI_1 _) ?_
    refine xald (k := 2 * k + 1) hF hX hP 2 rfl (nI_clamp (by omega)) (vp_in_nI (by omega) (by decide)) dX7_vector_167 ?_
    refine xrwi (z := V (2 * k + 1)) (pk_un (by omega)) ?_
    refine lv_iload_n hx hb dX7_vector_168 rfl (lv_at hl 3 rfl) ?_
    refine lv_aload_n hx hb dX7_vector_169 rfl (lv_at hl 0 rfl) ?_
    refine xget (C := RX7) (T := TX7) (N := 34) hF hX hP (by decide +kernel) 0 21 rfl rfl (by decide) (by decide +kernel) rfl dX7_vector_170 ?_
    refine lv_iload_n hx hb dX7_vector_173 rfl (lv_at hl 1 rfl) ?_
    refine xald (k := k) hF hX hP 1 rfl (nI_clamp (by omega)) (vp_in_nI (hk) (by decide)) dX7_vector_174 ?_
    refine xSt (rest := [.int (nI (2 * k + 1)), .ref ve]) (As := [.int (V (2 * k + 1)), .int dy, .int (Re k)]) (ws1 := [(o, .inr (7, mdF (tVec kd (isf kd W H md) ow (Re k) (nI k) dx dy) W H mt qu zz nw ol ne se ke nc ns is ik dc sc kd md wh fa re ve ps ow tl di lv bf bo bd co bt ma)), (re, .inl (cs 0, 2, .inl Re)), (ve, .inl (cs 0, 4, .inl (upd V (2 * k) (mvd (V (2 * k)) dx (Re k))))), (di, .inl (cs 1, 2, .inl Di))]) (st1 := [.int (mvd (V (2 * k + 1)) dy (Re k)), .int (nI (2 * k + 1)), .ref ve]) hF (c_X7_moved l D cs tt (V (2 * k + 1)) dy (Re k)) gX7_vector_X7_moved rfl (n := 3) (by decide +kernel) rfl ⟨⟨rfl, rfl⟩, Nat.le_of_ble_eq_true rfl, Nat.le_of_ble_eq_true rfl⟩ ⟨Nat.le_of_ble_eq_true rfl, Nat.le_of_ble_eq_true rfl⟩ hX hP hD hS [] (by decide) rfl [] rfl rfl hl.1 rfl (Nat.le_of_ble_eq_true rfl) dX7_vector_175 rfl rfl (fun Hp locs hP hD hS => ?_)
    refine xast (k := 2 * k + 1) (ws1 := [(o, .inr (7, mdF (tVec kd (isf kd W H md) ow (Re k) (nI k) dx dy) W H mt qu zz nw ol ne se ke nc ns is ik dc sc kd md wh fa re ve ps ow tl di lv bf bo bd co bt ma)), (re, .inl (cs 0, 2, .inl Re)), (ve, .inl (cs 0, 4, .inl (upd (upd V (2 * k) (mvd (V (2 * k)) dx (Re k))) (2 * k + 1) (mvd (V (2 * k + 1)) dy (Re k))))), (di, .inl (cs 1, 2, .inl Di))]) hF hX hP hD hS 2 rfl (nI_clamp (by omega)) (vp_in_nI (by omega) (by decide)) dX7_vector_178 rfl (fun Hp locs hP hD hS => ?_)
    refine lv_aload_n hx hb dX7_vector_179 rfl (lv_at hl 0 rfl) ?_
    refine xget (C := RX7) (T := TX7) (N := 34) hF hX hP (by decide +kernel) 0 26 rfl rfl (by decide) (by decide +kernel) rfl dX7_vector_180 ?_
    refine lv_iload_n hx hb dX7_vector_183 rfl (lv_at hl 1 rfl) ?_
    refine lv_iconst (v := 1) hx hb dX7_vector_184 (by decide) ?_
    refine xzast (k := k) (ws1 := [(o, .inr (7, mdF (tVec kd (isf kd W H md) ow (Re k) (nI k) dx dy) W H mt qu zz nw ol ne se ke nc ns is ik dc sc kd md wh fa re ve ps ow tl di lv bf bo bd co bt ma)), (re, .inl (cs 0, 2, .inl Re)), (ve, .inl (cs 0, 4, .inl (upd (upd V (2 * k) (mvd (V (2 * k)) dx (Re k))) (2 * k + 1) (mvd (V (2 * k + 1)) dy (Re k))))), (di, .inl (cs 1, 2, .inl (upd Di k 1)))]) hF hX hP hD hS 3 rfl (nI_clamp (by omega)) (vp_in_nI hk (by decide)) (rfl) dX7_vector_185 rfl (fun Hp locs hP hD hS => ?_)
    refine lv_aload_n hx hb dX7_vector_186 rfl (lv_at hl 0 rfl) ?_
    refine lv_iconst (v := 1) hx hb dX7_vector_187 (by decide) ?_
    refine xputf (C := RX7) (T := TX7) (N := 34) (ws1 := [(o, .inr (7, mdF (tVec kd (isf kd W H md) ow (Re k) (nI k) dx dy) W H mt qu zz nw ol ne se ke nc ns is ik dc sc kd md wh fa re ve ps ow 1 di lv bf bo bd co bt ma)), (re, .inl (cs 0, 2, .inl Re)), (ve, .inl (cs 0, 4, .inl (upd (upd V (2 * k) (mvd (V (2 * k)) dx (Re k))) (2 * k + 1) (mvd (V (2 * k + 1)) dy (Re k))))), (di, .inl (cs 1, 2, .inl (upd Di k 1)))]) hF hX hP hD hS (by decide +kernel) tyX7 tyX7_ok nmX7 0 25 rfl rfl (by decide) (by decide +kernel) rfl (rfl) (rfl) (Nat.le_of_ble_eq_true rfl) dX7_vector_188 rfl (fun Hp locs hP hD hS => ?_)
    exact xrv hF hr hlk hP hD hS dX7_vector_191
  refine lv_iload_n hx hb dX7_vector_0 rfl (lv_at hl 1 rfl) ?_
  refine lv_if_lt (tgt := 9) hx hb dX7_vector_1 (by decide) (fun c_1 => absurd c_1 (nI_pos (by omega))) (fun _ => ?_)
  refine lv_iload_n hx hb dX7_vector_4 rfl (lv_at hl 1 rfl) ?_
  refine lv_iconst (v := 1) hx hb dX7_vector_5 (by decide) ?_
  refine lv_icmp_le (tgt := 13) hx hb dX7_vector_6 (by decide) (fun _ => ?_) (fun c_6 => absurd ((nI_leI (b := 1) (by omega) (by decide)).mpr (by omega)) c_6)
  refine lv_iconst (v := 0) hx hb dX7_vector_13 (by decide) ?_
  refine lv_istore (lv' := [(4, .int 0), (0, .ref o), (1, .int (nI k)), (2, .int dx), (3, .int dy)]) hx hb dX7_vector_14 hl (by decide) rfl (fun ls hl => ?_)
  refine lv_iload hx hb dX7_vector_16 (lv_at hl 0 rfl) ?_
  refine lv_if_eq (tgt := 25) hx hb dX7_vector_18 (by decide) (fun _ => ?_) (fun c_18 => absurd (by decide) c_18)
  refine lv_bipush (v := 16) hx hb dX7_vector_25 (by decide) ?_
  refine lv_aload_n hx hb dX7_vector_27 rfl (lv_at hl 1 rfl) ?_
  refine xget (C := RX7) (T := TX7) (N := 34) hF hX hP (by decide +kernel) 0 21 rfl rfl (by decide) (by decide +kernel) rfl dX7_vector_28 ?_
  refine lv_iload_n hx hb dX7_vector_31 rfl (lv_at hl 2 rfl) ?_
  refine xald (k := k) hF hX hP 1 rfl (nI_clamp (by omega)) (vp_in_nI (hk) (by decide)) dX7_vector_32 ?_
  refine lv_imul hx hb dX7_vector_33 ?_
  refine lv_istore (lv' := [(5, .int (16 * (Re k))), (4, .int 0), (0, .ref o), (1, .int (nI k)), (2, .int dx), (3, .int dy)]) hx hb dX7_vector_34 hl (by decide) rfl (fun ls hl => ?_)
  refine lv_aload_n hx hb dX7_vector_36 rfl (lv_at hl 2 rfl) ?_
  refine lv_iload hx hb dX7_vector_37 (lv_at hl 1 rfl) ?_
  refine lv_if_ne (tgt := 68) hx hb dX7_vector_39 (by decide) (fun c_39 => absurd (by decide) c_39) (fun _ => ?_)
  refine lv_iload_n hx hb dX7_vector_42 rfl (lv_at hl 4 rfl) ?_
  refine lv_iload hx hb dX7_vector_43 (lv_at hl 0 rfl) ?_
  refine lv_ineg hx hb dX7_vector_45 ?_
  refine lv_icmp_lt (tgt := 68) hx hb dX7_vector_46 (by decide) (fun c_46 => ?_) (fun c_46 => ?_)
  · refine lv_iconst (v := 1) hx hb dX7_vector_68 (by decide) ?_
    refine lv_goto (tgt := 112) hx hb dX7_vector_69 (by decide) ?_
    refine xrwi (z := (tVec kd (isf kd W H md) ow (Re k) (nI k) dx dy)) (by unfold tVec; rw [if_pos c_46]) ?_
    exact join_112   _ _ _ hP hD hS (lv_sub hl [2, 3, 4, 5] rfl)
  · refine lv_iload_n hx hb dX7_vector_49 rfl (lv_at hl 4 rfl) ?_
    refine lv_iload hx hb dX7_vector_50 (lv_at hl 0 rfl) ?_
    refine lv_icmp_gt (tgt := 68) hx hb dX7_vector_52 (by decide) (fun c_52 => ?_) (fun c_52 => ?_)
    · refine lv_iconst (v := 1) hx hb dX7_vector_68 (by decide) ?_
      refine lv_goto (tgt := 112) hx hb dX7_vector_69 (by decide) ?_
      refine xrwi (z := (tVec kd (isf kd W H md) ow (Re k) (nI k) dx dy)) (by unfold tVec; rw [if_neg c_46, if_pos c_52]) ?_
      exact join_112   _ _ _ hP hD hS (lv_sub hl [2, 3, 4, 5] rfl)
    · refine lv_iload_n hx hb dX7_vector_55 rfl (lv_at hl 5 rfl) ?_
      refine lv_iload hx hb dX7_vector_56 (lv_at hl 0 rfl) ?_
      refine lv_ineg hx hb dX7_vector_58 ?_
      refine lv_icmp_lt (tgt := 68) hx hb dX7_vector_59 (by decide) (fun c_59 => ?_) (fun c_59 => ?_)
      · refine lv_iconst (v := 1) hx hb dX7_vector_68 (by decide) ?_
        refine lv_goto (tgt := 112) hx hb dX7_vector_69 (by decide) ?_
        refine xrwi (z := (tVec kd (isf kd W H md) ow (Re k) (nI k) dx dy)) (by unfold tVec; rw [if_neg c_46, if_neg c_52, if_pos c_59]) ?_
        exact join_112   _ _ _ hP hD hS (lv_sub hl [2, 3, 4, 5] rfl)
      · refine lv_iload_n hx hb dX7_vector_62 rfl (lv_at hl 5 rfl) ?_
        refine lv_iload hx hb dX7_vector_63 (lv_at hl 0 rfl) ?_
        refine lv_icmp_le (tgt := 72) hx hb dX7_vector_65 (by decide) (fun c_65 => ?_) (fun c_65 => ?_)
        · refine lv_aload_n hx hb dX7_vector_72 rfl (lv_at hl 2 rfl) ?_
          refine xV (rest := [.ref o]) (As := []) (ws1 := [(o, .inr (7, mdF th W H mt qu zz nw ol ne se ke nc ns is ik dc sc kd md wh fa re ve ps ow tl di lv bf bo bd co bt ma)), (re, .inl (cs 0, 2, .inl Re)), (ve, .inl (cs 0, 4, .inl V)), (di, .inl (cs 1, 2, .inl Di))]) (st1 := [.int (isf kd W H md), .ref o]) hF (c_X7_isFull l D cs tt o mt qu zz nw ol ne se ke re ve ps di lv bd co bt ma W H md th nc ns is ik dc sc kd wh fa ow tl bf bo) gX7_vector_X7_isFull rfl (n := 0) (by decide +kernel) rfl ⟨⟨rfl, rfl⟩, Nat.le_of_ble_eq_true rfl, Nat.le_of_ble_eq_true rfl⟩ ⟨Nat.le_of_ble_eq_true rfl, Nat.le_of_ble_eq_true rfl⟩ hX hP hD hS [0] (by decide) rfl [o] rfl rfl (q0 := 0) (ci := 7) rfl rfl rfl hl.1 rfl (Nat.le_of_ble_eq_true rfl) dX7_vector_73 rfl rfl (fun Hp locs hP hD hS => ?_)
          refine lv_if_ne (tgt := 107) hx hb dX7_vector_76 (by decide) (fun c_76 => ?_) (fun c_76 => ?_)
          · refine lv_iconst (v := 2) hx hb dX7_vector_107 (by decide) ?_
            refine lv_goto (tgt := 112) hx hb dX7_vector_108 (by decide) ?_
            refine xrwi (z := (tVec kd (isf kd W H md) ow (Re k) (nI k) dx dy)) (by unfold tVec; rw [if_neg c_46, if_neg c_52, if_neg c_59, if_pos c_65, if_neg c_76]) ?_
            exact join_112   _ _ _ hP hD hS (lv_sub hl [2, 3, 4, 5] rfl)
          · refine lv_aload_n hx hb dX7_vector_79 rfl (lv_at hl 2 rfl) ?_
            refine xget (C := RX7) (T := TX7) (N := 34) hF hX hP (by decide +kernel) 0 24 rfl rfl (by decide) (by decide +kernel) rfl dX7_vector_80 ?_
            refine lv_if_ne (tgt := 107) hx hb dX7_vector_83 (by decide) (fun c_83 => ?_) (fun c_83 => ?_)
            · refine lv_iconst (v := 2) hx hb dX7_vector_107 (by decide) ?_
              refine lv_goto (tgt := 112) hx hb dX7_vector_108 (by decide) ?_
              refine xrwi (z := (tVec kd (isf kd W H md) ow (Re k) (nI k) dx dy)) (by unfold tVec; rw [if_neg c_46, if_neg c_52, if_neg c_59, if_pos c_65, if_pos c_76, if_neg c_83]) ?_
              exact join_112   _ _ _ hP hD hS (lv_sub hl [2, 3, 4, 5] rfl)
            · refine lv_aload_n hx hb dX7_vector_86 rfl (lv_at hl 2 rfl) ?_
              refine xget (C := RX7) (T := TX7) (N := 34) hF hX hP (by decide +kernel) 0 17 rfl rfl (by decide) (by decide +kernel) rfl dX7_vector_87 ?_
              refine lv_iconst (v := 1) hx hb dX7_vector_90 (by decide) ?_
              refine lv_icmp_eq (tgt := 107) hx hb dX7_vector_91 (by decide) (fun c_91 => ?_) (fun c_91 => ?_)
              · refine lv_iconst (v := 2) hx hb dX7_vector_107 (by decide) ?_
                refine lv_goto (tgt := 112) hx hb dX7_vector_108 (by decide) ?_
                refine xrwi (z := (tVec kd (isf kd W H md) ow (Re k) (nI k) dx dy)) (by unfold tVec; rw [if_neg c_46, if_neg c_52, if_neg c_59, if_pos c_65, if_pos c_76, if_pos c_83, if_pos c_91]) ?_
                exact join_112   _ _ _ hP hD hS (lv_sub hl [2, 3, 4, 5] rfl)
              · refine lv_aload_n hx hb dX7_vector_94 rfl (lv_at hl 2 rfl) ?_
                refine xget (C := RX7) (T := TX7) (N := 34) hF hX hP (by decide +kernel) 0 17 rfl rfl (by decide) (by decide +kernel) rfl dX7_vector_95 ?_
                refine lv_iconst (v := 2) hx hb dX7_vector_98 (by decide) ?_
                refine lv_icmp_ne (tgt := 111) hx hb dX7_vector_99 (by decide) (fun c_99 => ?_) (fun c_99 => ?_)
                · refine lv_iconst (v := 0) hx hb dX7_vector_111 (by decide) ?_
                  refine xrwi (z := (tVec kd (isf kd W H md) ow (Re k) (nI k) dx dy)) (by unfold tVec; rw [if_neg c_46, if_neg c_52, if_neg c_59, if_pos c_65, if_pos c_76, if_pos c_83, if_neg c_91, if_neg c_99]) ?_
                  exact join_112   _ _ _ hP hD hS (lv_sub hl [2, 3, 4, 5] rfl)
                · refine lv_iload_n hx hb dX7_vector_102 rfl (lv_at hl 3 rfl) ?_
                  refine lv_iconst (v := 1) hx hb dX7_vector_103 (by decide) ?_
                  refine lv_icmp_ne (tgt := 111) hx hb dX7_vector_104 (by decide) (fun c_104 => ?_) (fun c_104 => ?_)
                  · refine lv_iconst (v := 0) hx hb dX7_vector_111 (by decide) ?_
                    refine xrwi (z := (tVec kd (isf kd W H md) ow (Re k) (nI k) dx dy)) (by unfold tVec; rw [if_neg c_46, if_neg c_52, if_neg c_59, if_pos c_65, if_pos c_76, if_pos c_83, if_neg c_91, if_pos c_99, if_neg c_104]) ?_
                    exact join_112   _ _ _ hP hD hS (lv_sub hl [2, 3, 4, 5] rfl)
                  · refine lv_iconst (v := 2) hx hb dX7_vector_107 (by decide) ?_
                    refine lv_goto (tgt := 112) hx hb dX7_vector_108 (by decide) ?_
                    refine xrwi (z := (tVec kd (isf kd W H md) ow (Re k) (nI k) dx dy)) (by unfold tVec; rw [if_neg c_46, if_neg c_52, if_neg c_59, if_pos c_65, if_pos c_76, if_pos c_83, if_neg c_91, if_pos c_99, if_pos c_104]) ?_
                    exact join_112   _ _ _ hP hD hS (lv_sub hl [2, 3, 4, 5] rfl)
        · refine lv_iconst (v := 1) hx hb dX7_vector_68 (by decide) ?_
          refine lv_goto (tgt := 112) hx hb dX7_vector_69 (by decide) ?_
          refine xrwi (z := (tVec kd (isf kd W H md) ow (Re k) (nI k) dx dy)) (by unfold tVec; rw [if_neg c_46, if_neg c_52, if_neg c_59, if_neg c_65]) ?_
          exact join_112   _ _ _ hP hD hS (lv_sub hl [2, 3, 4, 5] rfl)

set_option maxHeartbeats 4000000 in
set_option maxRecDepth 100000 in
theorem c_X7_done_bad (l : Launch) (D : va_G) (cs : Nat → ClassId) (tt : Nat → Nat) (o mt qu zz nw ol ne se ke re ve ps di lv bd co bt ma W H md : Nat) (th nc ns is ik dc sc kd wh fa ow tl bf bo : Int32) (ht : (tDone kd W H md) = 1 ∨ (tDone kd W H md) = 2) : xM l yX7_done wsX7_done ({ frames := 0, cells := 0, slots := 0, locals := 0 } : Room) D cs tt [.ref o] [(o, .inr (7, mdF th W H mt qu zz nw ol ne se ke nc ns is ik dc sc kd md wh fa re ve ps ow tl di lv bf bo bd co bt ma))] (some (.int 0)) [(o, .inr (7, mdF (tDone kd W H md) W H mt qu zz nw ol ne se ke nc ns is ik dc sc kd md wh fa re ve ps ow tl di lv bf bo bd co bt ma))] := by
  refine xM.of RX7 rfl (by decide) rfl (Nat.le_of_ble_eq_true rfl) ?_
  intro p e s m below meth c A ls hF hr hlk hX hP hD hS hl
  have hx := hF.1
  have hb := hF.2.1
  have hl : lv_has ls 2 [(0, .ref o)] := hl
  have join_29 : ∀ (Hp : Heap) (locs : List Loc) (ls : Array Slot), va_P D vwCl [(o, .inr (7, mdF th W H mt qu zz nw ol ne se ke nc ns is ik dc sc kd md wh fa re ve ps ow tl di lv bf bo bd co bt ma))] Hp → va_D A [(o, .inr (7, mdF th W H mt qu zz nw ol ne se ke nc ns is ik dc sc kd md wh fa re ve ps ow tl di lv bf bo bd co bt ma))] → va_S A s.heap Hp locs → lv_has ls 2 [(0, .ref o)] → xW p l e ({ frames := 0, cells := 0, slots := 0, locals := 0 } : Room) s m ([.ref o] : List Value).toArray below meth c Hp locs 0 0 (MQ below (xE D A (some (.int 0)) [(o, .inr (7, mdF (tDone kd W H md) W H mt qu zz nw ol ne se ke nc ns is ik dc sc kd md wh fa re ve ps ow tl di lv bf bo bd co bt ma))]) ([.ref o] : List Value).toArray s 0 0 A) (F0 m 29 ls [.int (tDone kd W H md), .ref o]) := by
    intro Hp locs ls hP hD hS hl
    refine xputf (C := RX7) (T := TX7) (N := 34) (ws1 := [(o, .inr (7, mdF (tDone kd W H md) W H mt qu zz nw ol ne se ke nc ns is ik dc sc kd md wh fa re ve ps ow tl di lv bf bo bd co bt ma))]) hF hX hP hD hS (by decide +kernel) tyX7 tyX7_ok nmX7 0 0 rfl rfl (by decide) (by decide +kernel) rfl (rfl) (rfl) (Nat.le_of_ble_eq_true rfl) dX7_done_29 rfl (fun Hp locs hP hD hS => ?_)
    refine lv_aload_n hx hb dX7_done_32 rfl (lv_at hl 0 rfl) ?_
    refine xget (C := RX7) (T := TX7) (N := 34) hF hX hP (by decide +kernel) 0 0 rfl rfl (by decide) (by decide +kernel) rfl dX7_done_33 ?_
    refine lv_if_le (tgt := 41) hx hb dX7_done_36 (by decide) (fun c_36 => absurd c_36 (by rcases ht with h9 | h9 <;> rw [h9] <;> decide)) (fun _ => ?_)
    refine lv_iconst (v := 0) hx hb dX7_done_39 (by decide) ?_
    exact xri (Q9 := fun _ _ _ _ => True) hF hr hlk hP hD hS dX7_done_40
  refine lv_aload_n hx hb dX7_done_0 rfl (lv_at hl 0 rfl) ?_
  refine lv_aload_n hx hb dX7_done_1 rfl (lv_at hl 0 rfl) ?_
  refine xget (C := RX7) (T := TX7) (N := 34) hF hX hP (by decide +kernel) 0 17 rfl rfl (by decide) (by decide +kernel) rfl dX7_done_2 ?_
  refine lv_if_eq (tgt := 24) hx hb dX7_done_5 (by decide) (fun c_5 => ?_) (fun c_5 => ?_)
  · refine lv_iconst (v := 1) hx hb dX7_done_24 (by decide) ?_
    refine lv_goto (tgt := 29) hx hb dX7_done_25 (by decide) ?_
    refine xrwi (z := (tDone kd W H md)) (by simp [tDone, c_5]) ?_
    exact join_29   _ _ _ hP hD hS (lv_sub hl [0] rfl)
  · refine lv_aload_n hx hb dX7_done_8 rfl (lv_at hl 0 rfl) ?_
    refine xget (C := RX7) (T := TX7) (N := 34) hF hX hP (by decide +kernel) 0 18 rfl rfl (by decide) (by decide +kernel) rfl dX7_done_9 ?_
    refine lv_aload_n hx hb dX7_done_12 rfl (lv_at hl 0 rfl) ?_
    refine xget (C := RX7) (T := TX7) (N := 34) hF hX hP (by decide +kernel) 0 1 rfl rfl (by decide) (by decide +kernel) rfl dX7_done_13 ?_
    refine lv_aload_n hx hb dX7_done_16 rfl (lv_at hl 0 rfl) ?_
    refine xget (C := RX7) (T := TX7) (N := 34) hF hX hP (by decide +kernel) 0 2 rfl rfl (by decide) (by decide +kernel) rfl dX7_done_17 ?_
    refine lv_imul hx hb dX7_done_20 ?_
    refine lv_icmp_ge (tgt := 28) hx hb dX7_done_21 (by decide) (fun c_21 => ?_) (fun c_21 => ?_)
    · refine lv_iconst (v := 0) hx hb dX7_done_28 (by decide) ?_
      refine xrwi (z := (tDone kd W H md)) (by simp [tDone, c_5, c_21]) ?_
      exact join_29   _ _ _ hP hD hS (lv_sub hl [0] rfl)
    · refine lv_iconst (v := 1) hx hb dX7_done_24 (by decide) ?_
      refine lv_goto (tgt := 29) hx hb dX7_done_25 (by decide) ?_
      refine xrwi (z := (tDone kd W H md)) (by simp [tDone, c_5, c_21]) ?_
      exact join_29   _ _ _ hP hD hS (lv_sub hl [0] rfl)

set_option maxHeartbeats 4000000 in
set_option maxRecDepth 100000 in
theorem c_X7_done_3 (l : Launch) (D : va_G) (cs : Nat → ClassId) (tt : Nat → Nat) (o mt qu zz nw ol ne se ke re ve ps di lv bd co bt ma W H md : Nat) (th nc ns is ik dc sc wh fa ow tl bf bo : Int32) (gw gs : Nat → Int32) (ht : (tDone 3 W H md) = 0) : xM l yX7_done wsX7_done ({ frames := 1, cells := 0, slots := 0, locals := 22 } : Room) D cs tt [.ref o] [(o, .inr (7, mdF th W H mt qu zz nw ol ne se ke nc ns is ik dc sc 3 md wh fa re ve ps ow tl di lv bf bo bd co bt ma)), (nw, .inl (cs 0, 4608, .inl gw)), (se, .inl (cs 0, 4608, .inl gs))] (some (.int (sc + 1))) [(o, .inr (7, mdF (tDone 3 W H md) W H mt qu zz nw ol ne se ke nc ns 1 ik (dc + 1) (sc + 1) 0 0 wh fa re ve ps ow tl di lv bf bo bd co bt ma)), (nw, .inl (cs 0, 4608, .inl gw)), (se, .inl (cs 0, 4608, .inl gw))] := by
  refine xM.of RX7 rfl (by decide) rfl (Nat.le_of_ble_eq_true rfl) ?_
  intro p e s m below meth c A ls hF hr hlk hX hP hD hS hl
  have hx := hF.1
  have hb := hF.2.1
  have hl : lv_has ls 2 [(0, .ref o)] := hl
  have join_29 : ∀ (Hp : Heap) (locs : List Loc) (ls : Array Slot), va_P D vwCl [(o, .inr (7, mdF th W H mt qu zz nw ol ne se ke nc ns is ik dc sc 3 md wh fa re ve ps ow tl di lv bf bo bd co bt ma)), (nw, .inl (cs 0, 4608, .inl gw)), (se, .inl (cs 0, 4608, .inl gs))] Hp → va_D A [(o, .inr (7, mdF th W H mt qu zz nw ol ne se ke nc ns is ik dc sc 3 md wh fa re ve ps ow tl di lv bf bo bd co bt ma)), (nw, .inl (cs 0, 4608, .inl gw)), (se, .inl (cs 0, 4608, .inl gs))] → va_S A s.heap Hp locs → lv_has ls 2 [(0, .ref o)] → xW p l e ({ frames := 1, cells := 0, slots := 0, locals := 22 } : Room) s m ([.ref o] : List Value).toArray below meth c Hp locs 0 0 (MQ below (xE D A (some (.int (sc + 1))) [(o, .inr (7, mdF (tDone 3 W H md) W H mt qu zz nw ol ne se ke nc ns 1 ik (dc + 1) (sc + 1) 0 0 wh fa re ve ps ow tl di lv bf bo bd co bt ma)), (nw, .inl (cs 0, 4608, .inl gw)), (se, .inl (cs 0, 4608, .inl gw))]) ([.ref o] : List Value).toArray s 0 0 A) (F0 m 29 ls [.int (tDone 3 W H md), .ref o]) := by
    intro Hp locs ls hP hD hS hl
    refine xputf (C := RX7) (T := TX7) (N := 34) (ws1 := [(o, .inr (7, mdF (tDone 3 W H md) W H mt qu zz nw ol ne se ke nc ns is ik dc sc 3 md wh fa re ve ps ow tl di lv bf bo bd co bt ma)), (nw, .inl (cs 0, 4608, .inl gw)), (se, .inl (cs 0, 4608, .inl gs))]) hF hX hP hD hS (by decide +kernel) tyX7 tyX7_ok nmX7 0 0 rfl rfl (by decide) (by decide +kernel) rfl (rfl) (rfl) (Nat.le_of_ble_eq_true rfl) dX7_done_29 rfl (fun Hp locs hP hD hS => ?_)
    refine lv_aload_n hx hb dX7_done_32 rfl (lv_at hl 0 rfl) ?_
    refine xget (C := RX7) (T := TX7) (N := 34) hF hX hP (by decide +kernel) 0 0 rfl rfl (by decide) (by decide +kernel) rfl dX7_done_33 ?_
    refine lv_if_le (tgt := 41) hx hb dX7_done_36 (by decide) (fun _ => ?_) (fun c_36 => absurd (by rw [ht]; decide) c_36)
    refine lv_aload_n hx hb dX7_done_41 rfl (lv_at hl 0 rfl) ?_
    refine xget (C := RX7) (T := TX7) (N := 34) hF hX hP (by decide +kernel) 0 17 rfl rfl (by decide) (by decide +kernel) rfl dX7_done_42 ?_
    refine lv_iconst (v := 3) hx hb dX7_done_45 (by decide) ?_
    refine lv_icmp_ne (tgt := 60) hx hb dX7_done_46 (by decide) (fun c_46 => absurd (by decide) c_46) (fun _ => ?_)
    refine lv_aload_n hx hb dX7_done_49 rfl (lv_at hl 0 rfl) ?_
    refine lv_aload_n hx hb dX7_done_50 rfl (lv_at hl 0 rfl) ?_
    refine xget (C := RX7) (T := TX7) (N := 34) hF hX hP (by decide +kernel) 0 6 rfl rfl (by decide) (by decide +kernel) rfl dX7_done_51 ?_
    refine xV (rest := []) (As := [.ref nw]) (ws1 := [(o, .inr (7, mdF (tDone 3 W H md) W H mt qu zz nw ol ne se ke nc ns 1 ik dc (sc + 1) 3 md wh fa re ve ps ow tl di lv bf bo bd co bt ma)), (nw, .inl (cs 0, 4608, .inl gw)), (se, .inl (cs 0, 4608, .inl gw))]) (st1 := []) hF (c_X7_show l D cs tt o mt qu zz nw ol ne se ke re ve ps di lv bd co bt ma W H md (tDone 3 W H md) nc ns is ik dc sc 3 wh fa ow tl bf bo nw gs gw) gX7_done_X7_show rfl (n := 1) (by decide +kernel) rfl ⟨⟨rfl, rfl⟩, Nat.le_of_ble_eq_true rfl, Nat.le_of_ble_eq_true rfl⟩ ⟨Nat.le_of_ble_eq_true rfl, Nat.le_of_ble_eq_true rfl⟩ hX hP hD hS [0, 2, 1] (by decide) rfl [o, se, nw] rfl rfl (q0 := 0) (ci := 7) rfl rfl rfl hl.1 rfl (Nat.le_of_ble_eq_true rfl) dX7_done_54 rfl rfl (fun Hp locs hP hD hS => ?_)
    refine lv_goto (tgt := 131) hx hb dX7_done_57 (by decide) ?_
    refine lv_aload_n hx hb dX7_done_131 rfl (lv_at hl 0 rfl) ?_
    refine lv_iconst (v := 0) hx hb dX7_done_132 (by decide) ?_
    refine xputf (C := RX7) (T := TX7) (N := 34) (ws1 := [(o, .inr (7, mdF (tDone 3 W H md) W H mt qu zz nw ol ne se ke nc ns 1 ik dc (sc + 1) 0 md wh fa re ve ps ow tl di lv bf bo bd co bt ma)), (nw, .inl (cs 0, 4608, .inl gw)), (se, .inl (cs 0, 4608, .inl gw))]) hF hX hP hD hS (by decide +kernel) tyX7 tyX7_ok nmX7 0 17 rfl rfl (by decide) (by decide +kernel) rfl (rfl) (rfl) (Nat.le_of_ble_eq_true rfl) dX7_done_133 rfl (fun Hp locs hP hD hS => ?_)
    refine lv_aload_n hx hb dX7_done_136 rfl (lv_at hl 0 rfl) ?_
    refine lv_iconst (v := 0) hx hb dX7_done_137 (by decide) ?_
    refine xputf (C := RX7) (T := TX7) (N := 34) (ws1 := [(o, .inr (7, mdF (tDone 3 W H md) W H mt qu zz nw ol ne se ke nc ns 1 ik dc (sc + 1) 0 0 wh fa re ve ps ow tl di lv bf bo bd co bt ma)), (nw, .inl (cs 0, 4608, .inl gw)), (se, .inl (cs 0, 4608, .inl gw))]) hF hX hP hD hS (by decide +kernel) tyX7 tyX7_ok nmX7 0 18 rfl rfl (by decide) (by decide +kernel) rfl (rfl) (rfl) (Nat.le_of_ble_eq_true rfl) dX7_done_138 rfl (fun Hp locs hP hD hS => ?_)
    refine lv_aload_n hx hb dX7_done_141 rfl (lv_at hl 0 rfl) ?_
    refine lv_dup hx hb dX7_done_142 rfl ?_
    refine xget (C := RX7) (T := TX7) (N := 34) hF hX hP (by decide +kernel) 0 15 rfl rfl (by decide) (by decide +kernel) rfl dX7_done_143 ?_
    refine lv_iconst (v := 1) hx hb dX7_done_146 (by decide) ?_
    refine lv_iadd hx hb dX7_done_147 ?_
    refine xputf (C := RX7) (T := TX7) (N := 34) (ws1 := [(o, .inr (7, mdF (tDone 3 W H md) W H mt qu zz nw ol ne se ke nc ns 1 ik (dc + 1) (sc + 1) 0 0 wh fa re ve ps ow tl di lv bf bo bd co bt ma)), (nw, .inl (cs 0, 4608, .inl gw)), (se, .inl (cs 0, 4608, .inl gw))]) hF hX hP hD hS (by decide +kernel) tyX7 tyX7_ok nmX7 0 15 rfl rfl (by decide) (by decide +kernel) rfl (rfl) (rfl) (Nat.le_of_ble_eq_true rfl) dX7_done_148 rfl (fun Hp locs hP hD hS => ?_)
    refine lv_aload_n hx hb dX7_done_151 rfl (lv_at hl 0 rfl) ?_
    refine xget (C := RX7) (T := TX7) (N := 34) hF hX hP (by decide +kernel) 0 16 rfl rfl (by decide) (by decide +kernel) rfl dX7_done_152 ?_
    exact xri (Q9 := fun _ _ _ _ => True) hF hr hlk hP hD hS dX7_done_155
  refine lv_aload_n hx hb dX7_done_0 rfl (lv_at hl 0 rfl) ?_
  refine lv_aload_n hx hb dX7_done_1 rfl (lv_at hl 0 rfl) ?_
  refine xget (C := RX7) (T := TX7) (N := 34) hF hX hP (by decide +kernel) 0 17 rfl rfl (by decide) (by decide +kernel) rfl dX7_done_2 ?_
  refine lv_if_eq (tgt := 24) hx hb dX7_done_5 (by decide) (fun c_5 => absurd c_5 (by decide)) (fun _ => ?_)
  refine lv_aload_n hx hb dX7_done_8 rfl (lv_at hl 0 rfl) ?_
  refine xget (C := RX7) (T := TX7) (N := 34) hF hX hP (by decide +kernel) 0 18 rfl rfl (by decide) (by decide +kernel) rfl dX7_done_9 ?_
  refine lv_aload_n hx hb dX7_done_12 rfl (lv_at hl 0 rfl) ?_
  refine xget (C := RX7) (T := TX7) (N := 34) hF hX hP (by decide +kernel) 0 1 rfl rfl (by decide) (by decide +kernel) rfl dX7_done_13 ?_
  refine lv_aload_n hx hb dX7_done_16 rfl (lv_at hl 0 rfl) ?_
  refine xget (C := RX7) (T := TX7) (N := 34) hF hX hP (by decide +kernel) 0 2 rfl rfl (by decide) (by decide +kernel) rfl dX7_done_17 ?_
  refine lv_imul hx hb dX7_done_20 ?_
  refine lv_icmp_ge (tgt := 28) hx hb dX7_done_21 (by decide) (fun c_21 => ?_) (fun c_21 => ?_)
  · refine lv_iconst (v := 0) hx hb dX7_done_28 (by decide) ?_
    refine xrwi (z := (tDone 3 W H md)) (by simp [tDone, c_21]) ?_
    exact join_29   _ _ _ hP hD hS (lv_sub hl [0] rfl)
  · refine lv_iconst (v := 1) hx hb dX7_done_24 (by decide) ?_
    refine lv_goto (tgt := 29) hx hb dX7_done_25 (by decide) ?_
    refine xrwi (z := (tDone 3 W H md)) (by simp [tDone, c_21]) ?_
    exact join_29   _ _ _ hP hD hS (lv_sub hl [0] rfl)

set_option maxHeartbeats 4000000 in
set_option maxRecDepth 100000 in
theorem c_X7_done_S (l : Launch) (D : va_G) (cs : Nat → ClassId) (tt : Nat → Nat) (o mt qu zz nw ol ne se ke re ve ps di lv bd co bt ma W H md : Nat) (th is ik dc sc kd wh fa ow tl bf bo : Int32) (gw go gn gs : Nat → Int32) (ht : (tDone kd W H md) = 0) (hk3 : ¬ kd = 3) : xM l yX7_done wsX7_done ({ frames := 1, cells := 0, slots := 0, locals := 22 } : Room) D cs tt [.ref o] [(o, .inr (7, mdF th W H mt qu zz nw ol ne se ke 1 0 is ik dc sc kd md wh fa re ve ps ow tl di lv bf bo bd co bt ma)), (nw, .inl (cs 0, 4608, .inl gw)), (ol, .inl (cs 0, 4608, .inl go)), (ne, .inl (cs 0, 4608, .inl gn)), (se, .inl (cs 0, 4608, .inl gs))] (some (.int (sc + 1))) [(o, .inr (7, mdF (tDone kd W H md) W H mt qu zz nw ol ne se ke 1 0 1 ik (dc + 1) (sc + 1) 0 0 wh fa re ve ps ow tl di lv bf bo bd co bt ma)), (nw, .inl (cs 0, 4608, .inl gw)), (ol, .inl (cs 0, 4608, .inl gn)), (ne, .inl (cs 0, 4608, .inl gw)), (se, .inl (cs 0, 4608, .inl gn))] := by
  refine xM.of RX7 rfl (by decide) rfl (Nat.le_of_ble_eq_true rfl) ?_
  intro p e s m below meth c A ls hF hr hlk hX hP hD hS hl
  have hx := hF.1
  have hb := hF.2.1
  have hl : lv_has ls 2 [(0, .ref o)] := hl
  have join_29 : ∀ (Hp : Heap) (locs : List Loc) (ls : Array Slot), va_P D vwCl [(o, .inr (7, mdF th W H mt qu zz nw ol ne se ke 1 0 is ik dc sc kd md wh fa re ve ps ow tl di lv bf bo bd co bt ma)), (nw, .inl (cs 0, 4608, .inl gw)), (ol, .inl (cs 0, 4608, .inl go)), (ne, .inl (cs 0, 4608, .inl gn)), (se, .inl (cs 0, 4608, .inl gs))] Hp → va_D A [(o, .inr (7, mdF th W H mt qu zz nw ol ne se ke 1 0 is ik dc sc kd md wh fa re ve ps ow tl di lv bf bo bd co bt ma)), (nw, .inl (cs 0, 4608, .inl gw)), (ol, .inl (cs 0, 4608, .inl go)), (ne, .inl (cs 0, 4608, .inl gn)), (se, .inl (cs 0, 4608, .inl gs))] → va_S A s.heap Hp locs → lv_has ls 2 [(0, .ref o)] → xW p l e ({ frames := 1, cells := 0, slots := 0, locals := 22 } : Room) s m ([.ref o] : List Value).toArray below meth c Hp locs 0 0 (MQ below (xE D A (some (.int (sc + 1))) [(o, .inr (7, mdF (tDone kd W H md) W H mt qu zz nw ol ne se ke 1 0 1 ik (dc + 1) (sc + 1) 0 0 wh fa re ve ps ow tl di lv bf bo bd co bt ma)), (nw, .inl (cs 0, 4608, .inl gw)), (ol, .inl (cs 0, 4608, .inl gn)), (ne, .inl (cs 0, 4608, .inl gw)), (se, .inl (cs 0, 4608, .inl gn))]) ([.ref o] : List Value).toArray s 0 0 A) (F0 m 29 ls [.int (tDone kd W H md), .ref o]) := by
    intro Hp locs ls hP hD hS hl
    refine xputf (C := RX7) (T := TX7) (N := 34) (ws1 := [(o, .inr (7, mdF (tDone kd W H md) W H mt qu zz nw ol ne se ke 1 0 is ik dc sc kd md wh fa re ve ps ow tl di lv bf bo bd co bt ma)), (nw, .inl (cs 0, 4608, .inl gw)), (ol, .inl (cs 0, 4608, .inl go)), (ne, .inl (cs 0, 4608, .inl gn)), (se, .inl (cs 0, 4608, .inl gs))]) hF hX hP hD hS (by decide +kernel) tyX7 tyX7_ok nmX7 0 0 rfl rfl (by decide) (by decide +kernel) rfl (rfl) (rfl) (Nat.le_of_ble_eq_true rfl) dX7_done_29 rfl (fun Hp locs hP hD hS => ?_)
    refine lv_aload_n hx hb dX7_done_32 rfl (lv_at hl 0 rfl) ?_
    refine xget (C := RX7) (T := TX7) (N := 34) hF hX hP (by decide +kernel) 0 0 rfl rfl (by decide) (by decide +kernel) rfl dX7_done_33 ?_
    refine lv_if_le (tgt := 41) hx hb dX7_done_36 (by decide) (fun _ => ?_) (fun c_36 => absurd (by rw [ht]; decide) c_36)
    refine lv_aload_n hx hb dX7_done_41 rfl (lv_at hl 0 rfl) ?_
    refine xget (C := RX7) (T := TX7) (N := 34) hF hX hP (by decide +kernel) 0 17 rfl rfl (by decide) (by decide +kernel) rfl dX7_done_42 ?_
    refine lv_iconst (v := 3) hx hb dX7_done_45 (by decide) ?_
    refine lv_icmp_ne (tgt := 60) hx hb dX7_done_46 (by decide) (fun _ => ?_) (fun c_46 => absurd c_46 (hk3))
    refine lv_aload_n hx hb dX7_done_60 rfl (lv_at hl 0 rfl) ?_
    refine xget (C := RX7) (T := TX7) (N := 34) hF hX hP (by decide +kernel) 0 11 rfl rfl (by decide) (by decide +kernel) rfl dX7_done_61 ?_
    refine lv_if_eq (tgt := 82) hx hb dX7_done_64 (by decide) (fun c_64 => absurd c_64 (by decide)) (fun _ => ?_)
    refine lv_aload_n hx hb dX7_done_67 rfl (lv_at hl 0 rfl) ?_
    refine xget (C := RX7) (T := TX7) (N := 34) hF hX hP (by decide +kernel) 0 12 rfl rfl (by decide) (by decide +kernel) rfl dX7_done_68 ?_
    refine lv_if_ne (tgt := 82) hx hb dX7_done_71 (by decide) (fun c_71 => absurd (by decide) c_71) (fun _ => ?_)
    refine lv_aload_n hx hb dX7_done_74 rfl (lv_at hl 0 rfl) ?_
    refine lv_aload_n hx hb dX7_done_75 rfl (lv_at hl 0 rfl) ?_
    refine xget (C := RX7) (T := TX7) (N := 34) hF hX hP (by decide +kernel) 0 8 rfl rfl (by decide) (by decide +kernel) rfl dX7_done_76 ?_
    refine xV (rest := []) (As := [.ref ne]) (ws1 := [(o, .inr (7, mdF (tDone kd W H md) W H mt qu zz nw ol ne se ke 1 0 1 ik dc (sc + 1) kd md wh fa re ve ps ow tl di lv bf bo bd co bt ma)), (nw, .inl (cs 0, 4608, .inl gw)), (ol, .inl (cs 0, 4608, .inl go)), (ne, .inl (cs 0, 4608, .inl gn)), (se, .inl (cs 0, 4608, .inl gn))]) (st1 := []) hF (c_X7_show l D cs tt o mt qu zz nw ol ne se ke re ve ps di lv bd co bt ma W H md (tDone kd W H md) 1 0 is ik dc sc kd wh fa ow tl bf bo ne gs gn) gX7_done_X7_show rfl (n := 1) (by decide +kernel) rfl ⟨⟨rfl, rfl⟩, Nat.le_of_ble_eq_true rfl, Nat.le_of_ble_eq_true rfl⟩ ⟨Nat.le_of_ble_eq_true rfl, Nat.le_of_ble_eq_true rfl⟩ hX hP hD hS [0, 4, 3] (by decide) rfl [o, se, ne] rfl rfl (q0 := 0) (ci := 7) rfl rfl rfl hl.1 rfl (Nat.le_of_ble_eq_true rfl) dX7_done_79 rfl rfl (fun Hp locs hP hD hS => ?_)
    refine lv_iconst (v := 0) hx hb dX7_done_82 (by decide) ?_
    refine lv_istore_n (lv' := [(1, .int 0), (0, .ref o)]) hx hb dX7_done_83 rfl hl (by decide) rfl (fun ls hl => ?_)
    have loop_84 : ∀ (k84 : Nat) (i : Nat), 4608 - i < k84 → i ≤ 4608 → ∀ (Hp : Heap) (locs : List Loc) (ls : Array Slot), va_P D vwCl [(o, .inr (7, mdF (tDone kd W H md) W H mt qu zz nw ol ne se ke 1 0 1 ik dc (sc + 1) kd md wh fa re ve ps ow tl di lv bf bo bd co bt ma)), (nw, .inl (cs 0, 4608, .inl gw)), (ol, .inl (cs 0, 4608, .inl (ovr go gn i))), (ne, .inl (cs 0, 4608, .inl (ovr gn gw i))), (se, .inl (cs 0, 4608, .inl gn))] Hp → va_D A [(o, .inr (7, mdF (tDone kd W H md) W H mt qu zz nw ol ne se ke 1 0 1 ik dc (sc + 1) kd md wh fa re ve ps ow tl di lv bf bo bd co bt ma)), (nw, .inl (cs 0, 4608, .inl gw)), (ol, .inl (cs 0, 4608, .inl (ovr go gn i))), (ne, .inl (cs 0, 4608, .inl (ovr gn gw i))), (se, .inl (cs 0, 4608, .inl gn))] → va_S A s.heap Hp locs → lv_has ls 2 [(0, .ref o), (1, .int (nI i))] → xW p l e ({ frames := 1, cells := 0, slots := 0, locals := 22 } : Room) s m ([.ref o] : List Value).toArray below meth c Hp locs 0 0 (MQ below (xE D A (some (.int (sc + 1))) [(o, .inr (7, mdF (tDone kd W H md) W H mt qu zz nw ol ne se ke 1 0 1 ik (dc + 1) (sc + 1) 0 0 wh fa re ve ps ow tl di lv bf bo bd co bt ma)), (nw, .inl (cs 0, 4608, .inl gw)), (ol, .inl (cs 0, 4608, .inl gn)), (ne, .inl (cs 0, 4608, .inl gw)), (se, .inl (cs 0, 4608, .inl gn))]) ([.ref o] : List Value).toArray s 0 0 A) (F0 m 84 ls []) := by
      intro k84
      induction k84 with
      | zero => intro i h9; omega
      | succ k84 ih_84 =>
        intro i hk84 hi Hp locs ls hP hD hS hl
        refine lv_iload_n hx hb dX7_done_84 rfl (lv_at hl 1 rfl) ?_
        refine lv_sipush (v := 4608) hx hb dX7_done_85 (by decide) ?_
        refine lv_icmp_ge (tgt := 121) hx hb dX7_done_88 (by decide) (fun c_88 => ?_) (fun c_88 => ?_)
        · have e9 : 4608 ≤ i := nIle (a := 4608) (b := i) rfl rfl (by decide) (by omega) c_88
          have hP1 : va_P D vwCl [(o, .inr (7, mdF (tDone kd W H md) W H mt qu zz nw ol ne se ke 1 0 1 ik dc (sc + 1) kd md wh fa re ve ps ow tl di lv bf bo bd co bt ma)), (nw, .inl (cs 0, 4608, .inl gw)), (ol, .inl (cs 0, 4608, .inl gn)), (ne, .inl (cs 0, 4608, .inl (ovr gn gw i))), (se, .inl (cs 0, 4608, .inl gn))] Hp := xcongP (g := gn) hP 2 rfl hD (fun j hj => by simp [ovr, Nat.lt_of_lt_of_le hj e9])
          have hD : va_D A [(o, .inr (7, mdF (tDone kd W H md) W H mt qu zz nw ol ne se ke 1 0 1 ik dc (sc + 1) kd md wh fa re ve ps ow tl di lv bf bo bd co bt ma)), (nw, .inl (cs 0, 4608, .inl gw)), (ol, .inl (cs 0, 4608, .inl gn)), (ne, .inl (cs 0, 4608, .inl (ovr gn gw i))), (se, .inl (cs 0, 4608, .inl gn))] := xcongD (g := gn) 2 rfl hD
          have hP := hP1
          have hP1 : va_P D vwCl [(o, .inr (7, mdF (tDone kd W H md) W H mt qu zz nw ol ne se ke 1 0 1 ik dc (sc + 1) kd md wh fa re ve ps ow tl di lv bf bo bd co bt ma)), (nw, .inl (cs 0, 4608, .inl gw)), (ol, .inl (cs 0, 4608, .inl gn)), (ne, .inl (cs 0, 4608, .inl gw)), (se, .inl (cs 0, 4608, .inl gn))] Hp := xcongP (g := gw) hP 3 rfl hD (fun j hj => by simp [ovr, Nat.lt_of_lt_of_le hj e9])
          have hD : va_D A [(o, .inr (7, mdF (tDone kd W H md) W H mt qu zz nw ol ne se ke 1 0 1 ik dc (sc + 1) kd md wh fa re ve ps ow tl di lv bf bo bd co bt ma)), (nw, .inl (cs 0, 4608, .inl gw)), (ol, .inl (cs 0, 4608, .inl gn)), (ne, .inl (cs 0, 4608, .inl gw)), (se, .inl (cs 0, 4608, .inl gn))] := xcongD (g := gw) 3 rfl hD
          have hP := hP1
          refine lv_aload_n hx hb dX7_done_121 rfl (lv_at hl 0 rfl) ?_
          refine lv_iconst (v := 1) hx hb dX7_done_122 (by decide) ?_
          refine xputf (C := RX7) (T := TX7) (N := 34) (ws1 := [(o, .inr (7, mdF (tDone kd W H md) W H mt qu zz nw ol ne se ke 1 0 1 ik dc (sc + 1) kd md wh fa re ve ps ow tl di lv bf bo bd co bt ma)), (nw, .inl (cs 0, 4608, .inl gw)), (ol, .inl (cs 0, 4608, .inl gn)), (ne, .inl (cs 0, 4608, .inl gw)), (se, .inl (cs 0, 4608, .inl gn))]) hF hX hP hD hS (by decide +kernel) tyX7 tyX7_ok nmX7 0 11 rfl rfl (by decide) (by decide +kernel) rfl (rfl) (rfl) (Nat.le_of_ble_eq_true rfl) dX7_done_123 rfl (fun Hp locs hP hD hS => ?_)
          refine lv_aload_n hx hb dX7_done_126 rfl (lv_at hl 0 rfl) ?_
          refine lv_iconst (v := 0) hx hb dX7_done_127 (by decide) ?_
          refine xputf (C := RX7) (T := TX7) (N := 34) (ws1 := [(o, .inr (7, mdF (tDone kd W H md) W H mt qu zz nw ol ne se ke 1 0 1 ik dc (sc + 1) kd md wh fa re ve ps ow tl di lv bf bo bd co bt ma)), (nw, .inl (cs 0, 4608, .inl gw)), (ol, .inl (cs 0, 4608, .inl gn)), (ne, .inl (cs 0, 4608, .inl gw)), (se, .inl (cs 0, 4608, .inl gn))]) hF hX hP hD hS (by decide +kernel) tyX7 tyX7_ok nmX7 0 12 rfl rfl (by decide) (by decide +kernel) rfl (rfl) (rfl) (Nat.le_of_ble_eq_true rfl) dX7_done_128 rfl (fun Hp locs hP hD hS => ?_)
          refine lv_aload_n hx hb dX7_done_131 rfl (lv_at hl 0 rfl) ?_
          refine lv_iconst (v := 0) hx hb dX7_done_132 (by decide) ?_
          refine xputf (C := RX7) (T := TX7) (N := 34) (ws1 := [(o, .inr (7, mdF (tDone kd W H md) W H mt qu zz nw ol ne se ke 1 0 1 ik dc (sc + 1) 0 md wh fa re ve ps ow tl di lv bf bo bd co bt ma)), (nw, .inl (cs 0, 4608, .inl gw)), (ol, .inl (cs 0, 4608, .inl gn)), (ne, .inl (cs 0, 4608, .inl gw)), (se, .inl (cs 0, 4608, .inl gn))]) hF hX hP hD hS (by decide +kernel) tyX7 tyX7_ok nmX7 0 17 rfl rfl (by decide) (by decide +kernel) rfl (rfl) (rfl) (Nat.le_of_ble_eq_true rfl) dX7_done_133 rfl (fun Hp locs hP hD hS => ?_)
          refine lv_aload_n hx hb dX7_done_136 rfl (lv_at hl 0 rfl) ?_
          refine lv_iconst (v := 0) hx hb dX7_done_137 (by decide) ?_
          refine xputf (C := RX7) (T := TX7) (N := 34) (ws1 := [(o, .inr (7, mdF (tDone kd W H md) W H mt qu zz nw ol ne se ke 1 0 1 ik dc (sc + 1) 0 0 wh fa re ve ps ow tl di lv bf bo bd co bt ma)), (nw, .inl (cs 0, 4608, .inl gw)), (ol, .inl (cs 0, 4608, .inl gn)), (ne, .inl (cs 0, 4608, .inl gw)), (se, .inl (cs 0, 4608, .inl gn))]) hF hX hP hD hS (by decide +kernel) tyX7 tyX7_ok nmX7 0 18 rfl rfl (by decide) (by decide +kernel) rfl (rfl) (rfl) (Nat.le_of_ble_eq_true rfl) dX7_done_138 rfl (fun Hp locs hP hD hS => ?_)
          refine lv_aload_n hx hb dX7_done_141 rfl (lv_at hl 0 rfl) ?_
          refine lv_dup hx hb dX7_done_142 rfl ?_
          refine xget (C := RX7) (T := TX7) (N := 34) hF hX hP (by decide +kernel) 0 15 rfl rfl (by decide) (by decide +kernel) rfl dX7_done_143 ?_
          refine lv_iconst (v := 1) hx hb dX7_done_146 (by decide) ?_
          refine lv_iadd hx hb dX7_done_147 ?_
          refine xputf (C := RX7) (T := TX7) (N := 34) (ws1 := [(o, .inr (7, mdF (tDone kd W H md) W H mt qu zz nw ol ne se ke 1 0 1 ik (dc + 1) (sc + 1) 0 0 wh fa re ve ps ow tl di lv bf bo bd co bt ma)), (nw, .inl (cs 0, 4608, .inl gw)), (ol, .inl (cs 0, 4608, .inl gn)), (ne, .inl (cs 0, 4608, .inl gw)), (se, .inl (cs 0, 4608, .inl gn))]) hF hX hP hD hS (by decide +kernel) tyX7 tyX7_ok nmX7 0 15 rfl rfl (by decide) (by decide +kernel) rfl (rfl) (rfl) (Nat.le_of_ble_eq_true rfl) dX7_done_148 rfl (fun Hp locs hP hD hS => ?_)
          refine lv_aload_n hx hb dX7_done_151 rfl (lv_at hl 0 rfl) ?_
          refine xget (C := RX7) (T := TX7) (N := 34) hF hX hP (by decide +kernel) 0 16 rfl rfl (by decide) (by decide +kernel) rfl dX7_done_152 ?_
          exact xri (Q9 := fun _ _ _ _ => True) hF hr hlk hP hD hS dX7_done_155
        · have hlt : i < 4608 := nInle (a := 4608) (b := i) rfl rfl (by decide) (by omega) c_88
          refine lv_aload_n hx hb dX7_done_91 rfl (lv_at hl 0 rfl) ?_
          refine xget (C := RX7) (T := TX7) (N := 34) hF hX hP (by decide +kernel) 0 7 rfl rfl (by decide) (by decide +kernel) rfl dX7_done_92 ?_
          refine lv_iload_n hx hb dX7_done_95 rfl (lv_at hl 1 rfl) ?_
          refine lv_aload_n hx hb dX7_done_96 rfl (lv_at hl 0 rfl) ?_
          refine xget (C := RX7) (T := TX7) (N := 34) hF hX hP (by decide +kernel) 0 8 rfl rfl (by decide) (by decide +kernel) rfl dX7_done_97 ?_
          refine lv_iload_n hx hb dX7_done_100 rfl (lv_at hl 1 rfl) ?_
          refine xald (k := i) hF hX hP 3 rfl (nI_clamp (by omega)) (vp_in_nI (by omega) (by decide)) dX7_done_101 ?_
          refine xrwi (z := gn i) (by simp [ovr]) ?_
          refine xast (k := i) (ws1 := [(o, .inr (7, mdF (tDone kd W H md) W H mt qu zz nw ol ne se ke 1 0 1 ik dc (sc + 1) kd md wh fa re ve ps ow tl di lv bf bo bd co bt ma)), (nw, .inl (cs 0, 4608, .inl gw)), (ol, .inl (cs 0, 4608, .inl (ovr go gn (i + 1)))), (ne, .inl (cs 0, 4608, .inl (ovr gn gw i))), (se, .inl (cs 0, 4608, .inl gn))]) hF hX hP hD hS 2 rfl (nI_clamp (by omega)) (vp_in_nI (by omega) (by decide)) dX7_done_102 (congrArg (fun z9 => ([(o, .inr (7, mdF (tDone kd W H md) W H mt qu zz nw ol ne se ke 1 0 1 ik dc (sc + 1) kd md wh fa re ve ps ow tl di lv bf bo bd co bt ma)), (nw, .inl (cs 0, 4608, .inl gw)), (ol, .inl (cs 0, 4608, .inl z9)), (ne, .inl (cs 0, 4608, .inl (ovr gn gw i))), (se, .inl (cs 0, 4608, .inl gn))] : va_W)) (ovr_s go gn i rfl)) (fun Hp locs hP hD hS => ?_)
          refine lv_aload_n hx hb dX7_done_103 rfl (lv_at hl 0 rfl) ?_
          refine xget (C := RX7) (T := TX7) (N := 34) hF hX hP (by decide +kernel) 0 8 rfl rfl (by decide) (by decide +kernel) rfl dX7_done_104 ?_
          refine lv_iload_n hx hb dX7_done_107 rfl (lv_at hl 1 rfl) ?_
          refine lv_aload_n hx hb dX7_done_108 rfl (lv_at hl 0 rfl) ?_
          refine xget (C := RX7) (T := TX7) (N := 34) hF hX hP (by decide +kernel) 0 6 rfl rfl (by decide) (by decide +kernel) rfl dX7_done_109 ?_
          refine lv_iload_n hx hb dX7_done_112 rfl (lv_at hl 1 rfl) ?_
          refine xald (k := i) hF hX hP 1 rfl (nI_clamp (by omega)) (vp_in_nI (by omega) (by decide)) dX7_done_113 ?_
          refine xast (k := i) (ws1 := [(o, .inr (7, mdF (tDone kd W H md) W H mt qu zz nw ol ne se ke 1 0 1 ik dc (sc + 1) kd md wh fa re ve ps ow tl di lv bf bo bd co bt ma)), (nw, .inl (cs 0, 4608, .inl gw)), (ol, .inl (cs 0, 4608, .inl (ovr go gn (i + 1)))), (ne, .inl (cs 0, 4608, .inl (ovr gn gw (i + 1)))), (se, .inl (cs 0, 4608, .inl gn))]) hF hX hP hD hS 3 rfl (nI_clamp (by omega)) (vp_in_nI (by omega) (by decide)) dX7_done_114 (congrArg (fun z9 => ([(o, .inr (7, mdF (tDone kd W H md) W H mt qu zz nw ol ne se ke 1 0 1 ik dc (sc + 1) kd md wh fa re ve ps ow tl di lv bf bo bd co bt ma)), (nw, .inl (cs 0, 4608, .inl gw)), (ol, .inl (cs 0, 4608, .inl (ovr go gn (i + 1)))), (ne, .inl (cs 0, 4608, .inl z9)), (se, .inl (cs 0, 4608, .inl gn))] : va_W)) (ovr_s gn gw i rfl)) (fun Hp locs hP hD hS => ?_)
          refine lv_iinc (v := (nI (i + 1))) (lv' := [(1, .int (nI (i + 1))), (0, .ref o)]) hx hb dX7_done_115 hl (k := 1) rfl (nI_1 i) (by decide) rfl (fun ls hl => ?_)
          refine lv_goto (tgt := 84) hx hb dX7_done_118 (by decide) ?_
          exact ih_84 (i + 1) (by omega) (by omega) _ _ _ hP hD hS (lv_sub hl [1, 0] rfl)
    have hP := xeqP hP (congrArg (fun z9 => ([(o, .inr (7, mdF (tDone kd W H md) W H mt qu zz nw ol ne se ke 1 0 1 ik dc (sc + 1) kd md wh fa re ve ps ow tl di lv bf bo bd co bt ma)), (nw, .inl (cs 0, 4608, .inl gw)), (ol, .inl (cs 0, 4608, .inl z9)), (ne, .inl (cs 0, 4608, .inl gn)), (se, .inl (cs 0, 4608, .inl gn))] : va_W)) ((ovr_0 go gn).symm))
    have hD := xeqD hD (congrArg (fun z9 => ([(o, .inr (7, mdF (tDone kd W H md) W H mt qu zz nw ol ne se ke 1 0 1 ik dc (sc + 1) kd md wh fa re ve ps ow tl di lv bf bo bd co bt ma)), (nw, .inl (cs 0, 4608, .inl gw)), (ol, .inl (cs 0, 4608, .inl z9)), (ne, .inl (cs 0, 4608, .inl gn)), (se, .inl (cs 0, 4608, .inl gn))] : va_W)) ((ovr_0 go gn).symm))
    have hP := xeqP hP (congrArg (fun z9 => ([(o, .inr (7, mdF (tDone kd W H md) W H mt qu zz nw ol ne se ke 1 0 1 ik dc (sc + 1) kd md wh fa re ve ps ow tl di lv bf bo bd co bt ma)), (nw, .inl (cs 0, 4608, .inl gw)), (ol, .inl (cs 0, 4608, .inl (ovr go gn 0))), (ne, .inl (cs 0, 4608, .inl z9)), (se, .inl (cs 0, 4608, .inl gn))] : va_W)) ((ovr_0 gn gw).symm))
    have hD := xeqD hD (congrArg (fun z9 => ([(o, .inr (7, mdF (tDone kd W H md) W H mt qu zz nw ol ne se ke 1 0 1 ik dc (sc + 1) kd md wh fa re ve ps ow tl di lv bf bo bd co bt ma)), (nw, .inl (cs 0, 4608, .inl gw)), (ol, .inl (cs 0, 4608, .inl (ovr go gn 0))), (ne, .inl (cs 0, 4608, .inl z9)), (se, .inl (cs 0, 4608, .inl gn))] : va_W)) ((ovr_0 gn gw).symm))
    exact loop_84 (4608 - 0 + 1) 0 (Nat.lt_succ_self _) (by decide) _ _ _ hP hD hS (lv_sub hl [1, 0] rfl)
  refine lv_aload_n hx hb dX7_done_0 rfl (lv_at hl 0 rfl) ?_
  refine lv_aload_n hx hb dX7_done_1 rfl (lv_at hl 0 rfl) ?_
  refine xget (C := RX7) (T := TX7) (N := 34) hF hX hP (by decide +kernel) 0 17 rfl rfl (by decide) (by decide +kernel) rfl dX7_done_2 ?_
  refine lv_if_eq (tgt := 24) hx hb dX7_done_5 (by decide) (fun c_5 => ?_) (fun c_5 => ?_)
  · refine lv_iconst (v := 1) hx hb dX7_done_24 (by decide) ?_
    refine lv_goto (tgt := 29) hx hb dX7_done_25 (by decide) ?_
    refine xrwi (z := (tDone kd W H md)) (by simp [tDone, c_5]) ?_
    exact join_29   _ _ _ hP hD hS (lv_sub hl [0] rfl)
  · refine lv_aload_n hx hb dX7_done_8 rfl (lv_at hl 0 rfl) ?_
    refine xget (C := RX7) (T := TX7) (N := 34) hF hX hP (by decide +kernel) 0 18 rfl rfl (by decide) (by decide +kernel) rfl dX7_done_9 ?_
    refine lv_aload_n hx hb dX7_done_12 rfl (lv_at hl 0 rfl) ?_
    refine xget (C := RX7) (T := TX7) (N := 34) hF hX hP (by decide +kernel) 0 1 rfl rfl (by decide) (by decide +kernel) rfl dX7_done_13 ?_
    refine lv_aload_n hx hb dX7_done_16 rfl (lv_at hl 0 rfl) ?_
    refine xget (C := RX7) (T := TX7) (N := 34) hF hX hP (by decide +kernel) 0 2 rfl rfl (by decide) (by decide +kernel) rfl dX7_done_17 ?_
    refine lv_imul hx hb dX7_done_20 ?_
    refine lv_icmp_ge (tgt := 28) hx hb dX7_done_21 (by decide) (fun c_21 => ?_) (fun c_21 => ?_)
    · refine lv_iconst (v := 0) hx hb dX7_done_28 (by decide) ?_
      refine xrwi (z := (tDone kd W H md)) (by simp [tDone, c_5, c_21]) ?_
      exact join_29   _ _ _ hP hD hS (lv_sub hl [0] rfl)
    · refine lv_iconst (v := 1) hx hb dX7_done_24 (by decide) ?_
      refine lv_goto (tgt := 29) hx hb dX7_done_25 (by decide) ?_
      refine xrwi (z := (tDone kd W H md)) (by simp [tDone, c_5, c_21]) ?_
      exact join_29   _ _ _ hP hD hS (lv_sub hl [0] rfl)

set_option maxHeartbeats 4000000 in
set_option maxRecDepth 100000 in
theorem c_X7_done_N0 (l : Launch) (D : va_G) (cs : Nat → ClassId) (tt : Nat → Nat) (o mt qu zz nw ol ne se ke re ve ps di lv bd co bt ma W H md : Nat) (th ns is ik dc sc kd wh fa ow tl bf bo : Int32) (gw go gn : Nat → Int32) (ht : (tDone kd W H md) = 0) (hk3 : ¬ kd = 3) : xM l yX7_done wsX7_done ({ frames := 1, cells := 0, slots := 0, locals := 22 } : Room) D cs tt [.ref o] [(o, .inr (7, mdF th W H mt qu zz nw ol ne se ke 0 ns is ik dc sc kd md wh fa re ve ps ow tl di lv bf bo bd co bt ma)), (nw, .inl (cs 0, 4608, .inl gw)), (ol, .inl (cs 0, 4608, .inl go)), (ne, .inl (cs 0, 4608, .inl gn))] (some (.int sc)) [(o, .inr (7, mdF (tDone kd W H md) W H mt qu zz nw ol ne se ke 1 0 is ik (dc + 1) sc 0 0 wh fa re ve ps ow tl di lv bf bo bd co bt ma)), (nw, .inl (cs 0, 4608, .inl gw)), (ol, .inl (cs 0, 4608, .inl gn)), (ne, .inl (cs 0, 4608, .inl gw))] := by
  refine xM.of RX7 rfl (by decide) rfl (Nat.le_of_ble_eq_true rfl) ?_
  intro p e s m below meth c A ls hF hr hlk hX hP hD hS hl
  have hx := hF.1
  have hb := hF.2.1
  have hl : lv_has ls 2 [(0, .ref o)] := hl
  have join_29 : ∀ (Hp : Heap) (locs : List Loc) (ls : Array Slot), va_P D vwCl [(o, .inr (7, mdF th W H mt qu zz nw ol ne se ke 0 ns is ik dc sc kd md wh fa re ve ps ow tl di lv bf bo bd co bt ma)), (nw, .inl (cs 0, 4608, .inl gw)), (ol, .inl (cs 0, 4608, .inl go)), (ne, .inl (cs 0, 4608, .inl gn))] Hp → va_D A [(o, .inr (7, mdF th W H mt qu zz nw ol ne se ke 0 ns is ik dc sc kd md wh fa re ve ps ow tl di lv bf bo bd co bt ma)), (nw, .inl (cs 0, 4608, .inl gw)), (ol, .inl (cs 0, 4608, .inl go)), (ne, .inl (cs 0, 4608, .inl gn))] → va_S A s.heap Hp locs → lv_has ls 2 [(0, .ref o)] → xW p l e ({ frames := 1, cells := 0, slots := 0, locals := 22 } : Room) s m ([.ref o] : List Value).toArray below meth c Hp locs 0 0 (MQ below (xE D A (some (.int sc)) [(o, .inr (7, mdF (tDone kd W H md) W H mt qu zz nw ol ne se ke 1 0 is ik (dc + 1) sc 0 0 wh fa re ve ps ow tl di lv bf bo bd co bt ma)), (nw, .inl (cs 0, 4608, .inl gw)), (ol, .inl (cs 0, 4608, .inl gn)), (ne, .inl (cs 0, 4608, .inl gw))]) ([.ref o] : List Value).toArray s 0 0 A) (F0 m 29 ls [.int (tDone kd W H md), .ref o]) := by
    intro Hp locs ls hP hD hS hl
    refine xputf (C := RX7) (T := TX7) (N := 34) (ws1 := [(o, .inr (7, mdF (tDone kd W H md) W H mt qu zz nw ol ne se ke 0 ns is ik dc sc kd md wh fa re ve ps ow tl di lv bf bo bd co bt ma)), (nw, .inl (cs 0, 4608, .inl gw)), (ol, .inl (cs 0, 4608, .inl go)), (ne, .inl (cs 0, 4608, .inl gn))]) hF hX hP hD hS (by decide +kernel) tyX7 tyX7_ok nmX7 0 0 rfl rfl (by decide) (by decide +kernel) rfl (rfl) (rfl) (Nat.le_of_ble_eq_true rfl) dX7_done_29 rfl (fun Hp locs hP hD hS => ?_)
    refine lv_aload_n hx hb dX7_done_32 rfl (lv_at hl 0 rfl) ?_
    refine xget (C := RX7) (T := TX7) (N := 34) hF hX hP (by decide +kernel) 0 0 rfl rfl (by decide) (by decide +kernel) rfl dX7_done_33 ?_
    refine lv_if_le (tgt := 41) hx hb dX7_done_36 (by decide) (fun _ => ?_) (fun c_36 => absurd (by rw [ht]; decide) c_36)
    refine lv_aload_n hx hb dX7_done_41 rfl (lv_at hl 0 rfl) ?_
    refine xget (C := RX7) (T := TX7) (N := 34) hF hX hP (by decide +kernel) 0 17 rfl rfl (by decide) (by decide +kernel) rfl dX7_done_42 ?_
    refine lv_iconst (v := 3) hx hb dX7_done_45 (by decide) ?_
    refine lv_icmp_ne (tgt := 60) hx hb dX7_done_46 (by decide) (fun _ => ?_) (fun c_46 => absurd c_46 (hk3))
    refine lv_aload_n hx hb dX7_done_60 rfl (lv_at hl 0 rfl) ?_
    refine xget (C := RX7) (T := TX7) (N := 34) hF hX hP (by decide +kernel) 0 11 rfl rfl (by decide) (by decide +kernel) rfl dX7_done_61 ?_
    refine lv_if_eq (tgt := 82) hx hb dX7_done_64 (by decide) (fun _ => ?_) (fun c_64 => absurd (by decide) c_64)
    refine lv_iconst (v := 0) hx hb dX7_done_82 (by decide) ?_
    refine lv_istore_n (lv' := [(1, .int 0), (0, .ref o)]) hx hb dX7_done_83 rfl hl (by decide) rfl (fun ls hl => ?_)
    have loop_84 : ∀ (k84 : Nat) (i : Nat), 4608 - i < k84 → i ≤ 4608 → ∀ (Hp : Heap) (locs : List Loc) (ls : Array Slot), va_P D vwCl [(o, .inr (7, mdF (tDone kd W H md) W H mt qu zz nw ol ne se ke 0 ns is ik dc sc kd md wh fa re ve ps ow tl di lv bf bo bd co bt ma)), (nw, .inl (cs 0, 4608, .inl gw)), (ol, .inl (cs 0, 4608, .inl (ovr go gn i))), (ne, .inl (cs 0, 4608, .inl (ovr gn gw i)))] Hp → va_D A [(o, .inr (7, mdF (tDone kd W H md) W H mt qu zz nw ol ne se ke 0 ns is ik dc sc kd md wh fa re ve ps ow tl di lv bf bo bd co bt ma)), (nw, .inl (cs 0, 4608, .inl gw)), (ol, .inl (cs 0, 4608, .inl (ovr go gn i))), (ne, .inl (cs 0, 4608, .inl (ovr gn gw i)))] → va_S A s.heap Hp locs → lv_has ls 2 [(0, .ref o), (1, .int (nI i))] → xW p l e ({ frames := 1, cells := 0, slots := 0, locals := 22 } : Room) s m ([.ref o] : List Value).toArray below meth c Hp locs 0 0 (MQ below (xE D A (some (.int sc)) [(o, .inr (7, mdF (tDone kd W H md) W H mt qu zz nw ol ne se ke 1 0 is ik (dc + 1) sc 0 0 wh fa re ve ps ow tl di lv bf bo bd co bt ma)), (nw, .inl (cs 0, 4608, .inl gw)), (ol, .inl (cs 0, 4608, .inl gn)), (ne, .inl (cs 0, 4608, .inl gw))]) ([.ref o] : List Value).toArray s 0 0 A) (F0 m 84 ls []) := by
      intro k84
      induction k84 with
      | zero => intro i h9; omega
      | succ k84 ih_84 =>
        intro i hk84 hi Hp locs ls hP hD hS hl
        refine lv_iload_n hx hb dX7_done_84 rfl (lv_at hl 1 rfl) ?_
        refine lv_sipush (v := 4608) hx hb dX7_done_85 (by decide) ?_
        refine lv_icmp_ge (tgt := 121) hx hb dX7_done_88 (by decide) (fun c_88 => ?_) (fun c_88 => ?_)
        · have e9 : 4608 ≤ i := nIle (a := 4608) (b := i) rfl rfl (by decide) (by omega) c_88
          have hP1 : va_P D vwCl [(o, .inr (7, mdF (tDone kd W H md) W H mt qu zz nw ol ne se ke 0 ns is ik dc sc kd md wh fa re ve ps ow tl di lv bf bo bd co bt ma)), (nw, .inl (cs 0, 4608, .inl gw)), (ol, .inl (cs 0, 4608, .inl gn)), (ne, .inl (cs 0, 4608, .inl (ovr gn gw i)))] Hp := xcongP (g := gn) hP 2 rfl hD (fun j hj => by simp [ovr, Nat.lt_of_lt_of_le hj e9])
          have hD : va_D A [(o, .inr (7, mdF (tDone kd W H md) W H mt qu zz nw ol ne se ke 0 ns is ik dc sc kd md wh fa re ve ps ow tl di lv bf bo bd co bt ma)), (nw, .inl (cs 0, 4608, .inl gw)), (ol, .inl (cs 0, 4608, .inl gn)), (ne, .inl (cs 0, 4608, .inl (ovr gn gw i)))] := xcongD (g := gn) 2 rfl hD
          have hP := hP1
          have hP1 : va_P D vwCl [(o, .inr (7, mdF (tDone kd W H md) W H mt qu zz nw ol ne se ke 0 ns is ik dc sc kd md wh fa re ve ps ow tl di lv bf bo bd co bt ma)), (nw, .inl (cs 0, 4608, .inl gw)), (ol, .inl (cs 0, 4608, .inl gn)), (ne, .inl (cs 0, 4608, .inl gw))] Hp := xcongP (g := gw) hP 3 rfl hD (fun j hj => by simp [ovr, Nat.lt_of_lt_of_le hj e9])
          have hD : va_D A [(o, .inr (7, mdF (tDone kd W H md) W H mt qu zz nw ol ne se ke 0 ns is ik dc sc kd md wh fa re ve ps ow tl di lv bf bo bd co bt ma)), (nw, .inl (cs 0, 4608, .inl gw)), (ol, .inl (cs 0, 4608, .inl gn)), (ne, .inl (cs 0, 4608, .inl gw))] := xcongD (g := gw) 3 rfl hD
          have hP := hP1
          refine lv_aload_n hx hb dX7_done_121 rfl (lv_at hl 0 rfl) ?_
          refine lv_iconst (v := 1) hx hb dX7_done_122 (by decide) ?_
          refine xputf (C := RX7) (T := TX7) (N := 34) (ws1 := [(o, .inr (7, mdF (tDone kd W H md) W H mt qu zz nw ol ne se ke 1 ns is ik dc sc kd md wh fa re ve ps ow tl di lv bf bo bd co bt ma)), (nw, .inl (cs 0, 4608, .inl gw)), (ol, .inl (cs 0, 4608, .inl gn)), (ne, .inl (cs 0, 4608, .inl gw))]) hF hX hP hD hS (by decide +kernel) tyX7 tyX7_ok nmX7 0 11 rfl rfl (by decide) (by decide +kernel) rfl (rfl) (rfl) (Nat.le_of_ble_eq_true rfl) dX7_done_123 rfl (fun Hp locs hP hD hS => ?_)
          refine lv_aload_n hx hb dX7_done_126 rfl (lv_at hl 0 rfl) ?_
          refine lv_iconst (v := 0) hx hb dX7_done_127 (by decide) ?_
          refine xputf (C := RX7) (T := TX7) (N := 34) (ws1 := [(o, .inr (7, mdF (tDone kd W H md) W H mt qu zz nw ol ne se ke 1 0 is ik dc sc kd md wh fa re ve ps ow tl di lv bf bo bd co bt ma)), (nw, .inl (cs 0, 4608, .inl gw)), (ol, .inl (cs 0, 4608, .inl gn)), (ne, .inl (cs 0, 4608, .inl gw))]) hF hX hP hD hS (by decide +kernel) tyX7 tyX7_ok nmX7 0 12 rfl rfl (by decide) (by decide +kernel) rfl (rfl) (rfl) (Nat.le_of_ble_eq_true rfl) dX7_done_128 rfl (fun Hp locs hP hD hS => ?_)
          refine lv_aload_n hx hb dX7_done_131 rfl (lv_at hl 0 rfl) ?_
          refine lv_iconst (v := 0) hx hb dX7_done_132 (by decide) ?_
          refine xputf (C := RX7) (T := TX7) (N := 34) (ws1 := [(o, .inr (7, mdF (tDone kd W H md) W H mt qu zz nw ol ne se ke 1 0 is ik dc sc 0 md wh fa re ve ps ow tl di lv bf bo bd co bt ma)), (nw, .inl (cs 0, 4608, .inl gw)), (ol, .inl (cs 0, 4608, .inl gn)), (ne, .inl (cs 0, 4608, .inl gw))]) hF hX hP hD hS (by decide +kernel) tyX7 tyX7_ok nmX7 0 17 rfl rfl (by decide) (by decide +kernel) rfl (rfl) (rfl) (Nat.le_of_ble_eq_true rfl) dX7_done_133 rfl (fun Hp locs hP hD hS => ?_)
          refine lv_aload_n hx hb dX7_done_136 rfl (lv_at hl 0 rfl) ?_
          refine lv_iconst (v := 0) hx hb dX7_done_137 (by decide) ?_
          refine xputf (C := RX7) (T := TX7) (N := 34) (ws1 := [(o, .inr (7, mdF (tDone kd W H md) W H mt qu zz nw ol ne se ke 1 0 is ik dc sc 0 0 wh fa re ve ps ow tl di lv bf bo bd co bt ma)), (nw, .inl (cs 0, 4608, .inl gw)), (ol, .inl (cs 0, 4608, .inl gn)), (ne, .inl (cs 0, 4608, .inl gw))]) hF hX hP hD hS (by decide +kernel) tyX7 tyX7_ok nmX7 0 18 rfl rfl (by decide) (by decide +kernel) rfl (rfl) (rfl) (Nat.le_of_ble_eq_true rfl) dX7_done_138 rfl (fun Hp locs hP hD hS => ?_)
          refine lv_aload_n hx hb dX7_done_141 rfl (lv_at hl 0 rfl) ?_
          refine lv_dup hx hb dX7_done_142 rfl ?_
          refine xget (C := RX7) (T := TX7) (N := 34) hF hX hP (by decide +kernel) 0 15 rfl rfl (by decide) (by decide +kernel) rfl dX7_done_143 ?_
          refine lv_iconst (v := 1) hx hb dX7_done_146 (by decide) ?_
          refine lv_iadd hx hb dX7_done_147 ?_
          refine xputf (C := RX7) (T := TX7) (N := 34) (ws1 := [(o, .inr (7, mdF (tDone kd W H md) W H mt qu zz nw ol ne se ke 1 0 is ik (dc + 1) sc 0 0 wh fa re ve ps ow tl di lv bf bo bd co bt ma)), (nw, .inl (cs 0, 4608, .inl gw)), (ol, .inl (cs 0, 4608, .inl gn)), (ne, .inl (cs 0, 4608, .inl gw))]) hF hX hP hD hS (by decide +kernel) tyX7 tyX7_ok nmX7 0 15 rfl rfl (by decide) (by decide +kernel) rfl (rfl) (rfl) (Nat.le_of_ble_eq_true rfl) dX7_done_148 rfl (fun Hp locs hP hD hS => ?_)
          refine lv_aload_n hx hb dX7_done_151 rfl (lv_at hl 0 rfl) ?_
          refine xget (C := RX7) (T := TX7) (N := 34) hF hX hP (by decide +kernel) 0 16 rfl rfl (by decide) (by decide +kernel) rfl dX7_done_152 ?_
          exact xri (Q9 := fun _ _ _ _ => True) hF hr hlk hP hD hS dX7_done_155
        · have hlt : i < 4608 := nInle (a := 4608) (b := i) rfl rfl (by decide) (by omega) c_88
          refine lv_aload_n hx hb dX7_done_91 rfl (lv_at hl 0 rfl) ?_
          refine xget (C := RX7) (T := TX7) (N := 34) hF hX hP (by decide +kernel) 0 7 rfl rfl (by decide) (by decide +kernel) rfl dX7_done_92 ?_
          refine lv_iload_n hx hb dX7_done_95 rfl (lv_at hl 1 rfl) ?_
          refine lv_aload_n hx hb dX7_done_96 rfl (lv_at hl 0 rfl) ?_
          refine xget (C := RX7) (T := TX7) (N := 34) hF hX hP (by decide +kernel) 0 8 rfl rfl (by decide) (by decide +kernel) rfl dX7_done_97 ?_
          refine lv_iload_n hx hb dX7_done_100 rfl (lv_at hl 1 rfl) ?_
          refine xald (k := i) hF hX hP 3 rfl (nI_clamp (by omega)) (vp_in_nI (by omega) (by decide)) dX7_done_101 ?_
          refine xrwi (z := gn i) (by simp [ovr]) ?_
          refine xast (k := i) (ws1 := [(o, .inr (7, mdF (tDone kd W H md) W H mt qu zz nw ol ne se ke 0 ns is ik dc sc kd md wh fa re ve ps ow tl di lv bf bo bd co bt ma)), (nw, .inl (cs 0, 4608, .inl gw)), (ol, .inl (cs 0, 4608, .inl (ovr go gn (i + 1)))), (ne, .inl (cs 0, 4608, .inl (ovr gn gw i)))]) hF hX hP hD hS 2 rfl (nI_clamp (by omega)) (vp_in_nI (by omega) (by decide)) dX7_done_102 (congrArg (fun z9 => ([(o, .inr (7, mdF (tDone kd W H md) W H mt qu zz nw ol ne se ke 0 ns is ik dc sc kd md wh fa re ve ps ow tl di lv bf bo bd co bt ma)), (nw, .inl (cs 0, 4608, .inl gw)), (ol, .inl (cs 0, 4608, .inl z9)), (ne, .inl (cs 0, 4608, .inl (ovr gn gw i)))] : va_W)) (ovr_s go gn i rfl)) (fun Hp locs hP hD hS => ?_)
          refine lv_aload_n hx hb dX7_done_103 rfl (lv_at hl 0 rfl) ?_
          refine xget (C := RX7) (T := TX7) (N := 34) hF hX hP (by decide +kernel) 0 8 rfl rfl (by decide) (by decide +kernel) rfl dX7_done_104 ?_
          refine lv_iload_n hx hb dX7_done_107 rfl (lv_at hl 1 rfl) ?_
          refine lv_aload_n hx hb dX7_done_108 rfl (lv_at hl 0 rfl) ?_
          refine xget (C := RX7) (T := TX7) (N := 34) hF hX hP (by decide +kernel) 0 6 rfl rfl (by decide) (by decide +kernel) rfl dX7_done_109 ?_
          refine lv_iload_n hx hb dX7_done_112 rfl (lv_at hl 1 rfl) ?_
          refine xald (k := i) hF hX hP 1 rfl (nI_clamp (by omega)) (vp_in_nI (by omega) (by decide)) dX7_done_113 ?_
          refine xast (k := i) (ws1 := [(o, .inr (7, mdF (tDone kd W H md) W H mt qu zz nw ol ne se ke 0 ns is ik dc sc kd md wh fa re ve ps ow tl di lv bf bo bd co bt ma)), (nw, .inl (cs 0, 4608, .inl gw)), (ol, .inl (cs 0, 4608, .inl (ovr go gn (i + 1)))), (ne, .inl (cs 0, 4608, .inl (ovr gn gw (i + 1))))]) hF hX hP hD hS 3 rfl (nI_clamp (by omega)) (vp_in_nI (by omega) (by decide)) dX7_done_114 (congrArg (fun z9 => ([(o, .inr (7, mdF (tDone kd W H md) W H mt qu zz nw ol ne se ke 0 ns is ik dc sc kd md wh fa re ve ps ow tl di lv bf bo bd co bt ma)), (nw, .inl (cs 0, 4608, .inl gw)), (ol, .inl (cs 0, 4608, .inl (ovr go gn (i + 1)))), (ne, .inl (cs 0, 4608, .inl z9))] : va_W)) (ovr_s gn gw i rfl)) (fun Hp locs hP hD hS => ?_)
          refine lv_iinc (v := (nI (i + 1))) (lv' := [(1, .int (nI (i + 1))), (0, .ref o)]) hx hb dX7_done_115 hl (k := 1) rfl (nI_1 i) (by decide) rfl (fun ls hl => ?_)
          refine lv_goto (tgt := 84) hx hb dX7_done_118 (by decide) ?_
          exact ih_84 (i + 1) (by omega) (by omega) _ _ _ hP hD hS (lv_sub hl [1, 0] rfl)
    have hP := xeqP hP (congrArg (fun z9 => ([(o, .inr (7, mdF (tDone kd W H md) W H mt qu zz nw ol ne se ke 0 ns is ik dc sc kd md wh fa re ve ps ow tl di lv bf bo bd co bt ma)), (nw, .inl (cs 0, 4608, .inl gw)), (ol, .inl (cs 0, 4608, .inl z9)), (ne, .inl (cs 0, 4608, .inl gn))] : va_W)) ((ovr_0 go gn).symm))
    have hD := xeqD hD (congrArg (fun z9 => ([(o, .inr (7, mdF (tDone kd W H md) W H mt qu zz nw ol ne se ke 0 ns is ik dc sc kd md wh fa re ve ps ow tl di lv bf bo bd co bt ma)), (nw, .inl (cs 0, 4608, .inl gw)), (ol, .inl (cs 0, 4608, .inl z9)), (ne, .inl (cs 0, 4608, .inl gn))] : va_W)) ((ovr_0 go gn).symm))
    have hP := xeqP hP (congrArg (fun z9 => ([(o, .inr (7, mdF (tDone kd W H md) W H mt qu zz nw ol ne se ke 0 ns is ik dc sc kd md wh fa re ve ps ow tl di lv bf bo bd co bt ma)), (nw, .inl (cs 0, 4608, .inl gw)), (ol, .inl (cs 0, 4608, .inl (ovr go gn 0))), (ne, .inl (cs 0, 4608, .inl z9))] : va_W)) ((ovr_0 gn gw).symm))
    have hD := xeqD hD (congrArg (fun z9 => ([(o, .inr (7, mdF (tDone kd W H md) W H mt qu zz nw ol ne se ke 0 ns is ik dc sc kd md wh fa re ve ps ow tl di lv bf bo bd co bt ma)), (nw, .inl (cs 0, 4608, .inl gw)), (ol, .inl (cs 0, 4608, .inl (ovr go gn 0))), (ne, .inl (cs 0, 4608, .inl z9))] : va_W)) ((ovr_0 gn gw).symm))
    exact loop_84 (4608 - 0 + 1) 0 (Nat.lt_succ_self _) (by decide) _ _ _ hP hD hS (lv_sub hl [1, 0] rfl)
  refine lv_aload_n hx hb dX7_done_0 rfl (lv_at hl 0 rfl) ?_
  refine lv_aload_n hx hb dX7_done_1 rfl (lv_at hl 0 rfl) ?_
  refine xget (C := RX7) (T := TX7) (N := 34) hF hX hP (by decide +kernel) 0 17 rfl rfl (by decide) (by decide +kernel) rfl dX7_done_2 ?_
  refine lv_if_eq (tgt := 24) hx hb dX7_done_5 (by decide) (fun c_5 => ?_) (fun c_5 => ?_)
  · refine lv_iconst (v := 1) hx hb dX7_done_24 (by decide) ?_
    refine lv_goto (tgt := 29) hx hb dX7_done_25 (by decide) ?_
    refine xrwi (z := (tDone kd W H md)) (by simp [tDone, c_5]) ?_
    exact join_29   _ _ _ hP hD hS (lv_sub hl [0] rfl)
  · refine lv_aload_n hx hb dX7_done_8 rfl (lv_at hl 0 rfl) ?_
    refine xget (C := RX7) (T := TX7) (N := 34) hF hX hP (by decide +kernel) 0 18 rfl rfl (by decide) (by decide +kernel) rfl dX7_done_9 ?_
    refine lv_aload_n hx hb dX7_done_12 rfl (lv_at hl 0 rfl) ?_
    refine xget (C := RX7) (T := TX7) (N := 34) hF hX hP (by decide +kernel) 0 1 rfl rfl (by decide) (by decide +kernel) rfl dX7_done_13 ?_
    refine lv_aload_n hx hb dX7_done_16 rfl (lv_at hl 0 rfl) ?_
    refine xget (C := RX7) (T := TX7) (N := 34) hF hX hP (by decide +kernel) 0 2 rfl rfl (by decide) (by decide +kernel) rfl dX7_done_17 ?_
    refine lv_imul hx hb dX7_done_20 ?_
    refine lv_icmp_ge (tgt := 28) hx hb dX7_done_21 (by decide) (fun c_21 => ?_) (fun c_21 => ?_)
    · refine lv_iconst (v := 0) hx hb dX7_done_28 (by decide) ?_
      refine xrwi (z := (tDone kd W H md)) (by simp [tDone, c_5, c_21]) ?_
      exact join_29   _ _ _ hP hD hS (lv_sub hl [0] rfl)
    · refine lv_iconst (v := 1) hx hb dX7_done_24 (by decide) ?_
      refine lv_goto (tgt := 29) hx hb dX7_done_25 (by decide) ?_
      refine xrwi (z := (tDone kd W H md)) (by simp [tDone, c_5, c_21]) ?_
      exact join_29   _ _ _ hP hD hS (lv_sub hl [0] rfl)

set_option maxHeartbeats 4000000 in
set_option maxRecDepth 100000 in
theorem c_X7_done_N1 (l : Launch) (D : va_G) (cs : Nat → ClassId) (tt : Nat → Nat) (o mt qu zz nw ol ne se ke re ve ps di lv bd co bt ma W H md : Nat) (th is ik dc sc kd wh fa ow tl bf bo : Int32) (gw go gn : Nat → Int32) (ht : (tDone kd W H md) = 0) (hk3 : ¬ kd = 3) : xM l yX7_done wsX7_done ({ frames := 1, cells := 0, slots := 0, locals := 22 } : Room) D cs tt [.ref o] [(o, .inr (7, mdF th W H mt qu zz nw ol ne se ke 1 1 is ik dc sc kd md wh fa re ve ps ow tl di lv bf bo bd co bt ma)), (nw, .inl (cs 0, 4608, .inl gw)), (ol, .inl (cs 0, 4608, .inl go)), (ne, .inl (cs 0, 4608, .inl gn))] (some (.int sc)) [(o, .inr (7, mdF (tDone kd W H md) W H mt qu zz nw ol ne se ke 1 0 is ik (dc + 1) sc 0 0 wh fa re ve ps ow tl di lv bf bo bd co bt ma)), (nw, .inl (cs 0, 4608, .inl gw)), (ol, .inl (cs 0, 4608, .inl gn)), (ne, .inl (cs 0, 4608, .inl gw))] := by
  refine xM.of RX7 rfl (by decide) rfl (Nat.le_of_ble_eq_true rfl) ?_
  intro p e s m below meth c A ls hF hr hlk hX hP hD hS hl
  have hx := hF.1
  have hb := hF.2.1
  have hl : lv_has ls 2 [(0, .ref o)] := hl
  have join_29 : ∀ (Hp : Heap) (locs : List Loc) (ls : Array Slot), va_P D vwCl [(o, .inr (7, mdF th W H mt qu zz nw ol ne se ke 1 1 is ik dc sc kd md wh fa re ve ps ow tl di lv bf bo bd co bt ma)), (nw, .inl (cs 0, 4608, .inl gw)), (ol, .inl (cs 0, 4608, .inl go)), (ne, .inl (cs 0, 4608, .inl gn))] Hp → va_D A [(o, .inr (7, mdF th W H mt qu zz nw ol ne se ke 1 1 is ik dc sc kd md wh fa re ve ps ow tl di lv bf bo bd co bt ma)), (nw, .inl (cs 0, 4608, .inl gw)), (ol, .inl (cs 0, 4608, .inl go)), (ne, .inl (cs 0, 4608, .inl gn))] → va_S A s.heap Hp locs → lv_has ls 2 [(0, .ref o)] → xW p l e ({ frames := 1, cells := 0, slots := 0, locals := 22 } : Room) s m ([.ref o] : List Value).toArray below meth c Hp locs 0 0 (MQ below (xE D A (some (.int sc)) [(o, .inr (7, mdF (tDone kd W H md) W H mt qu zz nw ol ne se ke 1 0 is ik (dc + 1) sc 0 0 wh fa re ve ps ow tl di lv bf bo bd co bt ma)), (nw, .inl (cs 0, 4608, .inl gw)), (ol, .inl (cs 0, 4608, .inl gn)), (ne, .inl (cs 0, 4608, .inl gw))]) ([.ref o] : List Value).toArray s 0 0 A) (F0 m 29 ls [.int (tDone kd W H md), .ref o]) := by
    intro Hp locs ls hP hD hS hl
    refine xputf (C := RX7) (T := TX7) (N := 34) (ws1 := [(o, .inr (7, mdF (tDone kd W H md) W H mt qu zz nw ol ne se ke 1 1 is ik dc sc kd md wh fa re ve ps ow tl di lv bf bo bd co bt ma)), (nw, .inl (cs 0, 4608, .inl gw)), (ol, .inl (cs 0, 4608, .inl go)), (ne, .inl (cs 0, 4608, .inl gn))]) hF hX hP hD hS (by decide +kernel) tyX7 tyX7_ok nmX7 0 0 rfl rfl (by decide) (by decide +kernel) rfl (rfl) (rfl) (Nat.le_of_ble_eq_true rfl) dX7_done_29 rfl (fun Hp locs hP hD hS => ?_)
    refine lv_aload_n hx hb dX7_done_32 rfl (lv_at hl 0 rfl) ?_
    refine xget (C := RX7) (T := TX7) (N := 34) hF hX hP (by decide +kernel) 0 0 rfl rfl (by decide) (by decide +kernel) rfl dX7_done_33 ?_
    refine lv_if_le (tgt := 41) hx hb dX7_done_36 (by decide) (fun _ => ?_) (fun c_36 => absurd (by rw [ht]; decide) c_36)
    refine lv_aload_n hx hb dX7_done_41 rfl (lv_at hl 0 rfl) ?_
    refine xget (C := RX7) (T := TX7) (N := 34) hF hX hP (by decide +kernel) 0 17 rfl rfl (by decide) (by decide +kernel) rfl dX7_done_42 ?_
    refine lv_iconst (v := 3) hx hb dX7_done_45 (by decide) ?_
    refine lv_icmp_ne (tgt := 60) hx hb dX7_done_46 (by decide) (fun _ => ?_) (fun c_46 => absurd c_46 (hk3))
    refine lv_aload_n hx hb dX7_done_60 rfl (lv_at hl 0 rfl) ?_
    refine xget (C := RX7) (T := TX7) (N := 34) hF hX hP (by decide +kernel) 0 11 rfl rfl (by decide) (by decide +kernel) rfl dX7_done_61 ?_
    refine lv_if_eq (tgt := 82) hx hb dX7_done_64 (by decide) (fun c_64 => absurd c_64 (by decide)) (fun _ => ?_)
    refine lv_aload_n hx hb dX7_done_67 rfl (lv_at hl 0 rfl) ?_
    refine xget (C := RX7) (T := TX7) (N := 34) hF hX hP (by decide +kernel) 0 12 rfl rfl (by decide) (by decide +kernel) rfl dX7_done_68 ?_
    refine lv_if_ne (tgt := 82) hx hb dX7_done_71 (by decide) (fun _ => ?_) (fun c_71 => absurd c_71 (by decide))
    refine lv_iconst (v := 0) hx hb dX7_done_82 (by decide) ?_
    refine lv_istore_n (lv' := [(1, .int 0), (0, .ref o)]) hx hb dX7_done_83 rfl hl (by decide) rfl (fun ls hl => ?_)
    have loop_84 : ∀ (k84 : Nat) (i : Nat), 4608 - i < k84 → i ≤ 4608 → ∀ (Hp : Heap) (locs : List Loc) (ls : Array Slot), va_P D vwCl [(o, .inr (7, mdF (tDone kd W H md) W H mt qu zz nw ol ne se ke 1 1 is ik dc sc kd md wh fa re ve ps ow tl di lv bf bo bd co bt ma)), (nw, .inl (cs 0, 4608, .inl gw)), (ol, .inl (cs 0, 4608, .inl (ovr go gn i))), (ne, .inl (cs 0, 4608, .inl (ovr gn gw i)))] Hp → va_D A [(o, .inr (7, mdF (tDone kd W H md) W H mt qu zz nw ol ne se ke 1 1 is ik dc sc kd md wh fa re ve ps ow tl di lv bf bo bd co bt ma)), (nw, .inl (cs 0, 4608, .inl gw)), (ol, .inl (cs 0, 4608, .inl (ovr go gn i))), (ne, .inl (cs 0, 4608, .inl (ovr gn gw i)))] → va_S A s.heap Hp locs → lv_has ls 2 [(0, .ref o), (1, .int (nI i))] → xW p l e ({ frames := 1, cells := 0, slots := 0, locals := 22 } : Room) s m ([.ref o] : List Value).toArray below meth c Hp locs 0 0 (MQ below (xE D A (some (.int sc)) [(o, .inr (7, mdF (tDone kd W H md) W H mt qu zz nw ol ne se ke 1 0 is ik (dc + 1) sc 0 0 wh fa re ve ps ow tl di lv bf bo bd co bt ma)), (nw, .inl (cs 0, 4608, .inl gw)), (ol, .inl (cs 0, 4608, .inl gn)), (ne, .inl (cs 0, 4608, .inl gw))]) ([.ref o] : List Value).toArray s 0 0 A) (F0 m 84 ls []) := by
      intro k84
      induction k84 with
      | zero => intro i h9; omega
      | succ k84 ih_84 =>
        intro i hk84 hi Hp locs ls hP hD hS hl
        refine lv_iload_n hx hb dX7_done_84 rfl (lv_at hl 1 rfl) ?_
        refine lv_sipush (v := 4608) hx hb dX7_done_85 (by decide) ?_
        refine lv_icmp_ge (tgt := 121) hx hb dX7_done_88 (by decide) (fun c_88 => ?_) (fun c_88 => ?_)
        · have e9 : 4608 ≤ i := nIle (a := 4608) (b := i) rfl rfl (by decide) (by omega) c_88
          have hP1 : va_P D vwCl [(o, .inr (7, mdF (tDone kd W H md) W H mt qu zz nw ol ne se ke 1 1 is ik dc sc kd md wh fa re ve ps ow tl di lv bf bo bd co bt ma)), (nw, .inl (cs 0, 4608, .inl gw)), (ol, .inl (cs 0, 4608, .inl gn)), (ne, .inl (cs 0, 4608, .inl (ovr gn gw i)))] Hp := xcongP (g := gn) hP 2 rfl hD (fun j hj => by simp [ovr, Nat.lt_of_lt_of_le hj e9])
          have hD : va_D A [(o, .inr (7, mdF (tDone kd W H md) W H mt qu zz nw ol ne se ke 1 1 is ik dc sc kd md wh fa re ve ps ow tl di lv bf bo bd co bt ma)), (nw, .inl (cs 0, 4608, .inl gw)), (ol, .inl (cs 0, 4608, .inl gn)), (ne, .inl (cs 0, 4608, .inl (ovr gn gw i)))] := xcongD (g := gn) 2 rfl hD
          have hP := hP1
          have hP1 : va_P D vwCl [(o, .inr (7, mdF (tDone kd W H md) W H mt qu zz nw ol ne se ke 1 1 is ik dc sc kd md wh fa re ve ps ow tl di lv bf bo bd co bt ma)), (nw, .inl (cs 0, 4608, .inl gw)), (ol, .inl (cs 0, 4608, .inl gn)), (ne, .inl (cs 0, 4608, .inl gw))] Hp := xcongP (g := gw) hP 3 rfl hD (fun j hj => by simp [ovr, Nat.lt_of_lt_of_le hj e9])
          have hD : va_D A [(o, .inr (7, mdF (tDone kd W H md) W H mt qu zz nw ol ne se ke 1 1 is ik dc sc kd md wh fa re ve ps ow tl di lv bf bo bd co bt ma)), (nw, .inl (cs 0, 4608, .inl gw)), (ol, .inl (cs 0, 4608, .inl gn)), (ne, .inl (cs 0, 4608, .inl gw))] := xcongD (g := gw) 3 rfl hD
          have hP := hP1
          refine lv_aload_n hx hb dX7_done_121 rfl (lv_at hl 0 rfl) ?_
          refine lv_iconst (v := 1) hx hb dX7_done_122 (by decide) ?_
          refine xputf (C := RX7) (T := TX7) (N := 34) (ws1 := [(o, .inr (7, mdF (tDone kd W H md) W H mt qu zz nw ol ne se ke 1 1 is ik dc sc kd md wh fa re ve ps ow tl di lv bf bo bd co bt ma)), (nw, .inl (cs 0, 4608, .inl gw)), (ol, .inl (cs 0, 4608, .inl gn)), (ne, .inl (cs 0, 4608, .inl gw))]) hF hX hP hD hS (by decide +kernel) tyX7 tyX7_ok nmX7 0 11 rfl rfl (by decide) (by decide +kernel) rfl (rfl) (rfl) (Nat.le_of_ble_eq_true rfl) dX7_done_123 rfl (fun Hp locs hP hD hS => ?_)
          refine lv_aload_n hx hb dX7_done_126 rfl (lv_at hl 0 rfl) ?_
          refine lv_iconst (v := 0) hx hb dX7_done_127 (by decide) ?_
          refine xputf (C := RX7) (T := TX7) (N := 34) (ws1 := [(o, .inr (7, mdF (tDone kd W H md) W H mt qu zz nw ol ne se ke 1 0 is ik dc sc kd md wh fa re ve ps ow tl di lv bf bo bd co bt ma)), (nw, .inl (cs 0, 4608, .inl gw)), (ol, .inl (cs 0, 4608, .inl gn)), (ne, .inl (cs 0, 4608, .inl gw))]) hF hX hP hD hS (by decide +kernel) tyX7 tyX7_ok nmX7 0 12 rfl rfl (by decide) (by decide +kernel) rfl (rfl) (rfl) (Nat.le_of_ble_eq_true rfl) dX7_done_128 rfl (fun Hp locs hP hD hS => ?_)
          refine lv_aload_n hx hb dX7_done_131 rfl (lv_at hl 0 rfl) ?_
          refine lv_iconst (v := 0) hx hb dX7_done_132 (by decide) ?_
          refine xputf (C := RX7) (T := TX7) (N := 34) (ws1 := [(o, .inr (7, mdF (tDone kd W H md) W H mt qu zz nw ol ne se ke 1 0 is ik dc sc 0 md wh fa re ve ps ow tl di lv bf bo bd co bt ma)), (nw, .inl (cs 0, 4608, .inl gw)), (ol, .inl (cs 0, 4608, .inl gn)), (ne, .inl (cs 0, 4608, .inl gw))]) hF hX hP hD hS (by decide +kernel) tyX7 tyX7_ok nmX7 0 17 rfl rfl (by decide) (by decide +kernel) rfl (rfl) (rfl) (Nat.le_of_ble_eq_true rfl) dX7_done_133 rfl (fun Hp locs hP hD hS => ?_)
          refine lv_aload_n hx hb dX7_done_136 rfl (lv_at hl 0 rfl) ?_
          refine lv_iconst (v := 0) hx hb dX7_done_137 (by decide) ?_
          refine xputf (C := RX7) (T := TX7) (N := 34) (ws1 := [(o, .inr (7, mdF (tDone kd W H md) W H mt qu zz nw ol ne se ke 1 0 is ik dc sc 0 0 wh fa re ve ps ow tl di lv bf bo bd co bt ma)), (nw, .inl (cs 0, 4608, .inl gw)), (ol, .inl (cs 0, 4608, .inl gn)), (ne, .inl (cs 0, 4608, .inl gw))]) hF hX hP hD hS (by decide +kernel) tyX7 tyX7_ok nmX7 0 18 rfl rfl (by decide) (by decide +kernel) rfl (rfl) (rfl) (Nat.le_of_ble_eq_true rfl) dX7_done_138 rfl (fun Hp locs hP hD hS => ?_)
          refine lv_aload_n hx hb dX7_done_141 rfl (lv_at hl 0 rfl) ?_
          refine lv_dup hx hb dX7_done_142 rfl ?_
          refine xget (C := RX7) (T := TX7) (N := 34) hF hX hP (by decide +kernel) 0 15 rfl rfl (by decide) (by decide +kernel) rfl dX7_done_143 ?_
          refine lv_iconst (v := 1) hx hb dX7_done_146 (by decide) ?_
          refine lv_iadd hx hb dX7_done_147 ?_
          refine xputf (C := RX7) (T := TX7) (N := 34) (ws1 := [(o, .inr (7, mdF (tDone kd W H md) W H mt qu zz nw ol ne se ke 1 0 is ik (dc + 1) sc 0 0 wh fa re ve ps ow tl di lv bf bo bd co bt ma)), (nw, .inl (cs 0, 4608, .inl gw)), (ol, .inl (cs 0, 4608, .inl gn)), (ne, .inl (cs 0, 4608, .inl gw))]) hF hX hP hD hS (by decide +kernel) tyX7 tyX7_ok nmX7 0 15 rfl rfl (by decide) (by decide +kernel) rfl (rfl) (rfl) (Nat.le_of_ble_eq_true rfl) dX7_done_148 rfl (fun Hp locs hP hD hS => ?_)
          refine lv_aload_n hx hb dX7_done_151 rfl (lv_at hl 0 rfl) ?_
          refine xget (C := RX7) (T := TX7) (N := 34) hF hX hP (by decide +kernel) 0 16 rfl rfl (by decide) (by decide +kernel) rfl dX7_done_152 ?_
          exact xri (Q9 := fun _ _ _ _ => True) hF hr hlk hP hD hS dX7_done_155
        · have hlt : i < 4608 := nInle (a := 4608) (b := i) rfl rfl (by decide) (by omega) c_88
          refine lv_aload_n hx hb dX7_done_91 rfl (lv_at hl 0 rfl) ?_
          refine xget (C := RX7) (T := TX7) (N := 34) hF hX hP (by decide +kernel) 0 7 rfl rfl (by decide) (by decide +kernel) rfl dX7_done_92 ?_
          refine lv_iload_n hx hb dX7_done_95 rfl (lv_at hl 1 rfl) ?_
          refine lv_aload_n hx hb dX7_done_96 rfl (lv_at hl 0 rfl) ?_
          refine xget (C := RX7) (T := TX7) (N := 34) hF hX hP (by decide +kernel) 0 8 rfl rfl (by decide) (by decide +kernel) rfl dX7_done_97 ?_
          refine lv_iload_n hx hb dX7_done_100 rfl (lv_at hl 1 rfl) ?_
          refine xald (k := i) hF hX hP 3 rfl (nI_clamp (by omega)) (vp_in_nI (by omega) (by decide)) dX7_done_101 ?_
          refine xrwi (z := gn i) (by simp [ovr]) ?_
          refine xast (k := i) (ws1 := [(o, .inr (7, mdF (tDone kd W H md) W H mt qu zz nw ol ne se ke 1 1 is ik dc sc kd md wh fa re ve ps ow tl di lv bf bo bd co bt ma)), (nw, .inl (cs 0, 4608, .inl gw)), (ol, .inl (cs 0, 4608, .inl (ovr go gn (i + 1)))), (ne, .inl (cs 0, 4608, .inl (ovr gn gw i)))]) hF hX hP hD hS 2 rfl (nI_clamp (by omega)) (vp_in_nI (by omega) (by decide)) dX7_done_102 (congrArg (fun z9 => ([(o, .inr (7, mdF (tDone kd W H md) W H mt qu zz nw ol ne se ke 1 1 is ik dc sc kd md wh fa re ve ps ow tl di lv bf bo bd co bt ma)), (nw, .inl (cs 0, 4608, .inl gw)), (ol, .inl (cs 0, 4608, .inl z9)), (ne, .inl (cs 0, 4608, .inl (ovr gn gw i)))] : va_W)) (ovr_s go gn i rfl)) (fun Hp locs hP hD hS => ?_)
          refine lv_aload_n hx hb dX7_done_103 rfl (lv_at hl 0 rfl) ?_
          refine xget (C := RX7) (T := TX7) (N := 34) hF hX hP (by decide +kernel) 0 8 rfl rfl (by decide) (by decide +kernel) rfl dX7_done_104 ?_
          refine lv_iload_n hx hb dX7_done_107 rfl (lv_at hl 1 rfl) ?_
          refine lv_aload_n hx hb dX7_done_108 rfl (lv_at hl 0 rfl) ?_
          refine xget (C := RX7) (T := TX7) (N := 34) hF hX hP (by decide +kernel) 0 6 rfl rfl (by decide) (by decide +kernel) rfl dX7_done_109 ?_
          refine lv_iload_n hx hb dX7_done_112 rfl (lv_at hl 1 rfl) ?_
          refine xald (k := i) hF hX hP 1 rfl (nI_clamp (by omega)) (vp_in_nI (by omega) (by decide)) dX7_done_113 ?_
          refine xast (k := i) (ws1 := [(o, .inr (7, mdF (tDone kd W H md) W H mt qu zz nw ol ne se ke 1 1 is ik dc sc kd md wh fa re ve ps ow tl di lv bf bo bd co bt ma)), (nw, .inl (cs 0, 4608, .inl gw)), (ol, .inl (cs 0, 4608, .inl (ovr go gn (i + 1)))), (ne, .inl (cs 0, 4608, .inl (ovr gn gw (i + 1))))]) hF hX hP hD hS 3 rfl (nI_clamp (by omega)) (vp_in_nI (by omega) (by decide)) dX7_done_114 (congrArg (fun z9 => ([(o, .inr (7, mdF (tDone kd W H md) W H mt qu zz nw ol ne se ke 1 1 is ik dc sc kd md wh fa re ve ps ow tl di lv bf bo bd co bt ma)), (nw, .inl (cs 0, 4608, .inl gw)), (ol, .inl (cs 0, 4608, .inl (ovr go gn (i + 1)))), (ne, .inl (cs 0, 4608, .inl z9))] : va_W)) (ovr_s gn gw i rfl)) (fun Hp locs hP hD hS => ?_)
          refine lv_iinc (v := (nI (i + 1))) (lv' := [(1, .int (nI (i + 1))), (0, .ref o)]) hx hb dX7_done_115 hl (k := 1) rfl (nI_1 i) (by decide) rfl (fun ls hl => ?_)
          refine lv_goto (tgt := 84) hx hb dX7_done_118 (by decide) ?_
          exact ih_84 (i + 1) (by omega) (by omega) _ _ _ hP hD hS (lv_sub hl [1, 0] rfl)
    have hP := xeqP hP (congrArg (fun z9 => ([(o, .inr (7, mdF (tDone kd W H md) W H mt qu zz nw ol ne se ke 1 1 is ik dc sc kd md wh fa re ve ps ow tl di lv bf bo bd co bt ma)), (nw, .inl (cs 0, 4608, .inl gw)), (ol, .inl (cs 0, 4608, .inl z9)), (ne, .inl (cs 0, 4608, .inl gn))] : va_W)) ((ovr_0 go gn).symm))
    have hD := xeqD hD (congrArg (fun z9 => ([(o, .inr (7, mdF (tDone kd W H md) W H mt qu zz nw ol ne se ke 1 1 is ik dc sc kd md wh fa re ve ps ow tl di lv bf bo bd co bt ma)), (nw, .inl (cs 0, 4608, .inl gw)), (ol, .inl (cs 0, 4608, .inl z9)), (ne, .inl (cs 0, 4608, .inl gn))] : va_W)) ((ovr_0 go gn).symm))
    have hP := xeqP hP (congrArg (fun z9 => ([(o, .inr (7, mdF (tDone kd W H md) W H mt qu zz nw ol ne se ke 1 1 is ik dc sc kd md wh fa re ve ps ow tl di lv bf bo bd co bt ma)), (nw, .inl (cs 0, 4608, .inl gw)), (ol, .inl (cs 0, 4608, .inl (ovr go gn 0))), (ne, .inl (cs 0, 4608, .inl z9))] : va_W)) ((ovr_0 gn gw).symm))
    have hD := xeqD hD (congrArg (fun z9 => ([(o, .inr (7, mdF (tDone kd W H md) W H mt qu zz nw ol ne se ke 1 1 is ik dc sc kd md wh fa re ve ps ow tl di lv bf bo bd co bt ma)), (nw, .inl (cs 0, 4608, .inl gw)), (ol, .inl (cs 0, 4608, .inl (ovr go gn 0))), (ne, .inl (cs 0, 4608, .inl z9))] : va_W)) ((ovr_0 gn gw).symm))
    exact loop_84 (4608 - 0 + 1) 0 (Nat.lt_succ_self _) (by decide) _ _ _ hP hD hS (lv_sub hl [1, 0] rfl)
  refine lv_aload_n hx hb dX7_done_0 rfl (lv_at hl 0 rfl) ?_
  refine lv_aload_n hx hb dX7_done_1 rfl (lv_at hl 0 rfl) ?_
  refine xget (C := RX7) (T := TX7) (N := 34) hF hX hP (by decide +kernel) 0 17 rfl rfl (by decide) (by decide +kernel) rfl dX7_done_2 ?_
  refine lv_if_eq (tgt := 24) hx hb dX7_done_5 (by decide) (fun c_5 => ?_) (fun c_5 => ?_)
  · refine lv_iconst (v := 1) hx hb dX7_done_24 (by decide) ?_
    refine lv_goto (tgt := 29) hx hb dX7_done_25 (by decide) ?_
    refine xrwi (z := (tDone kd W H md)) (by simp [tDone, c_5]) ?_
    exact join_29   _ _ _ hP hD hS (lv_sub hl [0] rfl)
  · refine lv_aload_n hx hb dX7_done_8 rfl (lv_at hl 0 rfl) ?_
    refine xget (C := RX7) (T := TX7) (N := 34) hF hX hP (by decide +kernel) 0 18 rfl rfl (by decide) (by decide +kernel) rfl dX7_done_9 ?_
    refine lv_aload_n hx hb dX7_done_12 rfl (lv_at hl 0 rfl) ?_
    refine xget (C := RX7) (T := TX7) (N := 34) hF hX hP (by decide +kernel) 0 1 rfl rfl (by decide) (by decide +kernel) rfl dX7_done_13 ?_
    refine lv_aload_n hx hb dX7_done_16 rfl (lv_at hl 0 rfl) ?_
    refine xget (C := RX7) (T := TX7) (N := 34) hF hX hP (by decide +kernel) 0 2 rfl rfl (by decide) (by decide +kernel) rfl dX7_done_17 ?_
    refine lv_imul hx hb dX7_done_20 ?_
    refine lv_icmp_ge (tgt := 28) hx hb dX7_done_21 (by decide) (fun c_21 => ?_) (fun c_21 => ?_)
    · refine lv_iconst (v := 0) hx hb dX7_done_28 (by decide) ?_
      refine xrwi (z := (tDone kd W H md)) (by simp [tDone, c_5, c_21]) ?_
      exact join_29   _ _ _ hP hD hS (lv_sub hl [0] rfl)
    · refine lv_iconst (v := 1) hx hb dX7_done_24 (by decide) ?_
      refine lv_goto (tgt := 29) hx hb dX7_done_25 (by decide) ?_
      refine xrwi (z := (tDone kd W H md)) (by simp [tDone, c_5, c_21]) ?_
      exact join_29   _ _ _ hP hD hS (lv_sub hl [0] rfl)

set_option maxHeartbeats 4000000 in
set_option maxRecDepth 100000 in
theorem c_X7_last_bad (l : Launch) (D : va_G) (cs : Nat → ClassId) (tt : Nat → Nat) (o mt qu zz nw ol ne se ke re ve ps di lv bd co bt ma W H md : Nat) (th nc ns is ik dc sc kd wh fa ow tl bf bo : Int32) (ht : (tLast kd) = 1 ∨ (tLast kd) = 2) : xM l yX7_last wsX7_last ({ frames := 0, cells := 0, slots := 0, locals := 0 } : Room) D cs tt [.ref o] [(o, .inr (7, mdF th W H mt qu zz nw ol ne se ke nc ns is ik dc sc kd md wh fa re ve ps ow tl di lv bf bo bd co bt ma))] (some (.int 0)) [(o, .inr (7, mdF (tLast kd) W H mt qu zz nw ol ne se ke nc ns is ik dc sc kd md wh fa re ve ps ow tl di lv bf bo bd co bt ma))] := by
  refine xM.of RX7 rfl (by decide) rfl (Nat.le_of_ble_eq_true rfl) ?_
  intro p e s m below meth c A ls hF hr hlk hX hP hD hS hl
  have hx := hF.1
  have hb := hF.2.1
  have hl : lv_has ls 1 [(0, .ref o)] := hl
  have join_13 : ∀ (Hp : Heap) (locs : List Loc) (ls : Array Slot), va_P D vwCl [(o, .inr (7, mdF th W H mt qu zz nw ol ne se ke nc ns is ik dc sc kd md wh fa re ve ps ow tl di lv bf bo bd co bt ma))] Hp → va_D A [(o, .inr (7, mdF th W H mt qu zz nw ol ne se ke nc ns is ik dc sc kd md wh fa re ve ps ow tl di lv bf bo bd co bt ma))] → va_S A s.heap Hp locs → lv_has ls 1 [(0, .ref o)] → xW p l e ({ frames := 0, cells := 0, slots := 0, locals := 0 } : Room) s m ([.ref o] : List Value).toArray below meth c Hp locs 0 0 (MQ below (xE D A (some (.int 0)) [(o, .inr (7, mdF (tLast kd) W H mt qu zz nw ol ne se ke nc ns is ik dc sc kd md wh fa re ve ps ow tl di lv bf bo bd co bt ma))]) ([.ref o] : List Value).toArray s 0 0 A) (F0 m 13 ls [.int (tLast kd), .ref o]) := by
    intro Hp locs ls hP hD hS hl
    refine xputf (C := RX7) (T := TX7) (N := 34) (ws1 := [(o, .inr (7, mdF (tLast kd) W H mt qu zz nw ol ne se ke nc ns is ik dc sc kd md wh fa re ve ps ow tl di lv bf bo bd co bt ma))]) hF hX hP hD hS (by decide +kernel) tyX7 tyX7_ok nmX7 0 0 rfl rfl (by decide) (by decide +kernel) rfl (rfl) (rfl) (Nat.le_of_ble_eq_true rfl) dX7_last_13 rfl (fun Hp locs hP hD hS => ?_)
    refine lv_aload_n hx hb dX7_last_16 rfl (lv_at hl 0 rfl) ?_
    refine xget (C := RX7) (T := TX7) (N := 34) hF hX hP (by decide +kernel) 0 0 rfl rfl (by decide) (by decide +kernel) rfl dX7_last_17 ?_
    refine lv_if_le (tgt := 25) hx hb dX7_last_20 (by decide) (fun c_20 => absurd c_20 (by rcases ht with h9 | h9 <;> rw [h9] <;> decide)) (fun _ => ?_)
    refine lv_iconst (v := 0) hx hb dX7_last_23 (by decide) ?_
    exact xri (Q9 := fun _ _ _ _ => True) hF hr hlk hP hD hS dX7_last_24
  refine lv_aload_n hx hb dX7_last_0 rfl (lv_at hl 0 rfl) ?_
  refine lv_aload_n hx hb dX7_last_1 rfl (lv_at hl 0 rfl) ?_
  refine xget (C := RX7) (T := TX7) (N := 34) hF hX hP (by decide +kernel) 0 17 rfl rfl (by decide) (by decide +kernel) rfl dX7_last_2 ?_
  refine lv_if_le (tgt := 12) hx hb dX7_last_5 (by decide) (fun c_5 => ?_) (fun c_5 => ?_)
  · refine lv_iconst (v := 0) hx hb dX7_last_12 (by decide) ?_
    refine xrwi (z := (tLast kd)) (by simp [tLast, c_5]) ?_
    exact join_13   _ _ _ hP hD hS (lv_sub hl [0] rfl)
  · refine lv_iconst (v := 1) hx hb dX7_last_8 (by decide) ?_
    refine lv_goto (tgt := 13) hx hb dX7_last_9 (by decide) ?_
    refine xrwi (z := (tLast kd)) (by simp [tLast, c_5]) ?_
    exact join_13   _ _ _ hP hD hS (lv_sub hl [0] rfl)

set_option maxHeartbeats 4000000 in
set_option maxRecDepth 100000 in
theorem c_X7_last_S (l : Launch) (D : va_G) (cs : Nat → ClassId) (tt : Nat → Nat) (o mt qu zz nw ol ne se ke re ve ps di lv bd co bt ma W H md : Nat) (th is ik dc sc kd wh fa ow tl bf bo : Int32) (gn gs : Nat → Int32) (ht : (tLast kd) = 0) : xM l yX7_last wsX7_last ({ frames := 1, cells := 0, slots := 0, locals := 22 } : Room) D cs tt [.ref o] [(o, .inr (7, mdF th W H mt qu zz nw ol ne se ke 1 0 is ik dc sc kd md wh fa re ve ps ow tl di lv bf bo bd co bt ma)), (ne, .inl (cs 0, 4608, .inl gn)), (se, .inl (cs 0, 4608, .inl gs))] (some (.int (sc + 1))) [(o, .inr (7, mdF (tLast kd) W H mt qu zz nw ol ne se ke 1 1 1 ik dc (sc + 1) kd md wh fa re ve ps ow tl di lv bf bo bd co bt ma)), (ne, .inl (cs 0, 4608, .inl gn)), (se, .inl (cs 0, 4608, .inl gn))] := by
  refine xM.of RX7 rfl (by decide) rfl (Nat.le_of_ble_eq_true rfl) ?_
  intro p e s m below meth c A ls hF hr hlk hX hP hD hS hl
  have hx := hF.1
  have hb := hF.2.1
  have hl : lv_has ls 1 [(0, .ref o)] := hl
  have join_13 : ∀ (Hp : Heap) (locs : List Loc) (ls : Array Slot), va_P D vwCl [(o, .inr (7, mdF th W H mt qu zz nw ol ne se ke 1 0 is ik dc sc kd md wh fa re ve ps ow tl di lv bf bo bd co bt ma)), (ne, .inl (cs 0, 4608, .inl gn)), (se, .inl (cs 0, 4608, .inl gs))] Hp → va_D A [(o, .inr (7, mdF th W H mt qu zz nw ol ne se ke 1 0 is ik dc sc kd md wh fa re ve ps ow tl di lv bf bo bd co bt ma)), (ne, .inl (cs 0, 4608, .inl gn)), (se, .inl (cs 0, 4608, .inl gs))] → va_S A s.heap Hp locs → lv_has ls 1 [(0, .ref o)] → xW p l e ({ frames := 1, cells := 0, slots := 0, locals := 22 } : Room) s m ([.ref o] : List Value).toArray below meth c Hp locs 0 0 (MQ below (xE D A (some (.int (sc + 1))) [(o, .inr (7, mdF (tLast kd) W H mt qu zz nw ol ne se ke 1 1 1 ik dc (sc + 1) kd md wh fa re ve ps ow tl di lv bf bo bd co bt ma)), (ne, .inl (cs 0, 4608, .inl gn)), (se, .inl (cs 0, 4608, .inl gn))]) ([.ref o] : List Value).toArray s 0 0 A) (F0 m 13 ls [.int (tLast kd), .ref o]) := by
    intro Hp locs ls hP hD hS hl
    refine xputf (C := RX7) (T := TX7) (N := 34) (ws1 := [(o, .inr (7, mdF (tLast kd) W H mt qu zz nw ol ne se ke 1 0 is ik dc sc kd md wh fa re ve ps ow tl di lv bf bo bd co bt ma)), (ne, .inl (cs 0, 4608, .inl gn)), (se, .inl (cs 0, 4608, .inl gs))]) hF hX hP hD hS (by decide +kernel) tyX7 tyX7_ok nmX7 0 0 rfl rfl (by decide) (by decide +kernel) rfl (rfl) (rfl) (Nat.le_of_ble_eq_true rfl) dX7_last_13 rfl (fun Hp locs hP hD hS => ?_)
    refine lv_aload_n hx hb dX7_last_16 rfl (lv_at hl 0 rfl) ?_
    refine xget (C := RX7) (T := TX7) (N := 34) hF hX hP (by decide +kernel) 0 0 rfl rfl (by decide) (by decide +kernel) rfl dX7_last_17 ?_
    refine lv_if_le (tgt := 25) hx hb dX7_last_20 (by decide) (fun _ => ?_) (fun c_20 => absurd (by rw [ht]; decide) c_20)
    refine lv_aload_n hx hb dX7_last_25 rfl (lv_at hl 0 rfl) ?_
    refine xget (C := RX7) (T := TX7) (N := 34) hF hX hP (by decide +kernel) 0 11 rfl rfl (by decide) (by decide +kernel) rfl dX7_last_26 ?_
    refine lv_if_eq (tgt := 52) hx hb dX7_last_29 (by decide) (fun c_29 => absurd c_29 (by decide)) (fun _ => ?_)
    refine lv_aload_n hx hb dX7_last_32 rfl (lv_at hl 0 rfl) ?_
    refine xget (C := RX7) (T := TX7) (N := 34) hF hX hP (by decide +kernel) 0 12 rfl rfl (by decide) (by decide +kernel) rfl dX7_last_33 ?_
    refine lv_if_ne (tgt := 52) hx hb dX7_last_36 (by decide) (fun c_36 => absurd (by decide) c_36) (fun _ => ?_)
    refine lv_aload_n hx hb dX7_last_39 rfl (lv_at hl 0 rfl) ?_
    refine lv_aload_n hx hb dX7_last_40 rfl (lv_at hl 0 rfl) ?_
    refine xget (C := RX7) (T := TX7) (N := 34) hF hX hP (by decide +kernel) 0 8 rfl rfl (by decide) (by decide +kernel) rfl dX7_last_41 ?_
    refine xV (rest := []) (As := [.ref ne]) (ws1 := [(o, .inr (7, mdF (tLast kd) W H mt qu zz nw ol ne se ke 1 0 1 ik dc (sc + 1) kd md wh fa re ve ps ow tl di lv bf bo bd co bt ma)), (ne, .inl (cs 0, 4608, .inl gn)), (se, .inl (cs 0, 4608, .inl gn))]) (st1 := []) hF (c_X7_show l D cs tt o mt qu zz nw ol ne se ke re ve ps di lv bd co bt ma W H md (tLast kd) 1 0 is ik dc sc kd wh fa ow tl bf bo ne gs gn) gX7_last_X7_show rfl (n := 1) (by decide +kernel) rfl ⟨⟨rfl, rfl⟩, Nat.le_of_ble_eq_true rfl, Nat.le_of_ble_eq_true rfl⟩ ⟨Nat.le_of_ble_eq_true rfl, Nat.le_of_ble_eq_true rfl⟩ hX hP hD hS [0, 2, 1] (by decide) rfl [o, se, ne] rfl rfl (q0 := 0) (ci := 7) rfl rfl rfl hl.1 rfl (Nat.le_of_ble_eq_true rfl) dX7_last_44 rfl rfl (fun Hp locs hP hD hS => ?_)
    refine lv_aload_n hx hb dX7_last_47 rfl (lv_at hl 0 rfl) ?_
    refine lv_iconst (v := 1) hx hb dX7_last_48 (by decide) ?_
    refine xputf (C := RX7) (T := TX7) (N := 34) (ws1 := [(o, .inr (7, mdF (tLast kd) W H mt qu zz nw ol ne se ke 1 1 1 ik dc (sc + 1) kd md wh fa re ve ps ow tl di lv bf bo bd co bt ma)), (ne, .inl (cs 0, 4608, .inl gn)), (se, .inl (cs 0, 4608, .inl gn))]) hF hX hP hD hS (by decide +kernel) tyX7 tyX7_ok nmX7 0 12 rfl rfl (by decide) (by decide +kernel) rfl (rfl) (rfl) (Nat.le_of_ble_eq_true rfl) dX7_last_49 rfl (fun Hp locs hP hD hS => ?_)
    refine lv_aload_n hx hb dX7_last_52 rfl (lv_at hl 0 rfl) ?_
    refine xget (C := RX7) (T := TX7) (N := 34) hF hX hP (by decide +kernel) 0 16 rfl rfl (by decide) (by decide +kernel) rfl dX7_last_53 ?_
    exact xri (Q9 := fun _ _ _ _ => True) hF hr hlk hP hD hS dX7_last_56
  refine lv_aload_n hx hb dX7_last_0 rfl (lv_at hl 0 rfl) ?_
  refine lv_aload_n hx hb dX7_last_1 rfl (lv_at hl 0 rfl) ?_
  refine xget (C := RX7) (T := TX7) (N := 34) hF hX hP (by decide +kernel) 0 17 rfl rfl (by decide) (by decide +kernel) rfl dX7_last_2 ?_
  refine lv_if_le (tgt := 12) hx hb dX7_last_5 (by decide) (fun c_5 => ?_) (fun c_5 => ?_)
  · refine lv_iconst (v := 0) hx hb dX7_last_12 (by decide) ?_
    refine xrwi (z := (tLast kd)) (by simp [tLast, c_5]) ?_
    exact join_13   _ _ _ hP hD hS (lv_sub hl [0] rfl)
  · refine lv_iconst (v := 1) hx hb dX7_last_8 (by decide) ?_
    refine lv_goto (tgt := 13) hx hb dX7_last_9 (by decide) ?_
    refine xrwi (z := (tLast kd)) (by simp [tLast, c_5]) ?_
    exact join_13   _ _ _ hP hD hS (lv_sub hl [0] rfl)

set_option maxHeartbeats 4000000 in
set_option maxRecDepth 100000 in
theorem c_X7_last_N0 (l : Launch) (D : va_G) (cs : Nat → ClassId) (tt : Nat → Nat) (o mt qu zz nw ol ne se ke re ve ps di lv bd co bt ma W H md : Nat) (th ns is ik dc sc kd wh fa ow tl bf bo : Int32) (ht : (tLast kd) = 0) : xM l yX7_last wsX7_last ({ frames := 0, cells := 0, slots := 0, locals := 0 } : Room) D cs tt [.ref o] [(o, .inr (7, mdF th W H mt qu zz nw ol ne se ke 0 ns is ik dc sc kd md wh fa re ve ps ow tl di lv bf bo bd co bt ma))] (some (.int sc)) [(o, .inr (7, mdF (tLast kd) W H mt qu zz nw ol ne se ke 0 ns is ik dc sc kd md wh fa re ve ps ow tl di lv bf bo bd co bt ma))] := by
  refine xM.of RX7 rfl (by decide) rfl (Nat.le_of_ble_eq_true rfl) ?_
  intro p e s m below meth c A ls hF hr hlk hX hP hD hS hl
  have hx := hF.1
  have hb := hF.2.1
  have hl : lv_has ls 1 [(0, .ref o)] := hl
  have join_13 : ∀ (Hp : Heap) (locs : List Loc) (ls : Array Slot), va_P D vwCl [(o, .inr (7, mdF th W H mt qu zz nw ol ne se ke 0 ns is ik dc sc kd md wh fa re ve ps ow tl di lv bf bo bd co bt ma))] Hp → va_D A [(o, .inr (7, mdF th W H mt qu zz nw ol ne se ke 0 ns is ik dc sc kd md wh fa re ve ps ow tl di lv bf bo bd co bt ma))] → va_S A s.heap Hp locs → lv_has ls 1 [(0, .ref o)] → xW p l e ({ frames := 0, cells := 0, slots := 0, locals := 0 } : Room) s m ([.ref o] : List Value).toArray below meth c Hp locs 0 0 (MQ below (xE D A (some (.int sc)) [(o, .inr (7, mdF (tLast kd) W H mt qu zz nw ol ne se ke 0 ns is ik dc sc kd md wh fa re ve ps ow tl di lv bf bo bd co bt ma))]) ([.ref o] : List Value).toArray s 0 0 A) (F0 m 13 ls [.int (tLast kd), .ref o]) := by
    intro Hp locs ls hP hD hS hl
    refine xputf (C := RX7) (T := TX7) (N := 34) (ws1 := [(o, .inr (7, mdF (tLast kd) W H mt qu zz nw ol ne se ke 0 ns is ik dc sc kd md wh fa re ve ps ow tl di lv bf bo bd co bt ma))]) hF hX hP hD hS (by decide +kernel) tyX7 tyX7_ok nmX7 0 0 rfl rfl (by decide) (by decide +kernel) rfl (rfl) (rfl) (Nat.le_of_ble_eq_true rfl) dX7_last_13 rfl (fun Hp locs hP hD hS => ?_)
    refine lv_aload_n hx hb dX7_last_16 rfl (lv_at hl 0 rfl) ?_
    refine xget (C := RX7) (T := TX7) (N := 34) hF hX hP (by decide +kernel) 0 0 rfl rfl (by decide) (by decide +kernel) rfl dX7_last_17 ?_
    refine lv_if_le (tgt := 25) hx hb dX7_last_20 (by decide) (fun _ => ?_) (fun c_20 => absurd (by rw [ht]; decide) c_20)
    refine lv_aload_n hx hb dX7_last_25 rfl (lv_at hl 0 rfl) ?_
    refine xget (C := RX7) (T := TX7) (N := 34) hF hX hP (by decide +kernel) 0 11 rfl rfl (by decide) (by decide +kernel) rfl dX7_last_26 ?_
    refine lv_if_eq (tgt := 52) hx hb dX7_last_29 (by decide) (fun _ => ?_) (fun c_29 => absurd (by decide) c_29)
    refine lv_aload_n hx hb dX7_last_52 rfl (lv_at hl 0 rfl) ?_
    refine xget (C := RX7) (T := TX7) (N := 34) hF hX hP (by decide +kernel) 0 16 rfl rfl (by decide) (by decide +kernel) rfl dX7_last_53 ?_
    exact xri (Q9 := fun _ _ _ _ => True) hF hr hlk hP hD hS dX7_last_56
  refine lv_aload_n hx hb dX7_last_0 rfl (lv_at hl 0 rfl) ?_
  refine lv_aload_n hx hb dX7_last_1 rfl (lv_at hl 0 rfl) ?_
  refine xget (C := RX7) (T := TX7) (N := 34) hF hX hP (by decide +kernel) 0 17 rfl rfl (by decide) (by decide +kernel) rfl dX7_last_2 ?_
  refine lv_if_le (tgt := 12) hx hb dX7_last_5 (by decide) (fun c_5 => ?_) (fun c_5 => ?_)
  · refine lv_iconst (v := 0) hx hb dX7_last_12 (by decide) ?_
    refine xrwi (z := (tLast kd)) (by simp [tLast, c_5]) ?_
    exact join_13   _ _ _ hP hD hS (lv_sub hl [0] rfl)
  · refine lv_iconst (v := 1) hx hb dX7_last_8 (by decide) ?_
    refine lv_goto (tgt := 13) hx hb dX7_last_9 (by decide) ?_
    refine xrwi (z := (tLast kd)) (by simp [tLast, c_5]) ?_
    exact join_13   _ _ _ hP hD hS (lv_sub hl [0] rfl)

set_option maxHeartbeats 4000000 in
set_option maxRecDepth 100000 in
theorem c_X7_last_N1 (l : Launch) (D : va_G) (cs : Nat → ClassId) (tt : Nat → Nat) (o mt qu zz nw ol ne se ke re ve ps di lv bd co bt ma W H md : Nat) (th is ik dc sc kd wh fa ow tl bf bo : Int32) (ht : (tLast kd) = 0) : xM l yX7_last wsX7_last ({ frames := 0, cells := 0, slots := 0, locals := 0 } : Room) D cs tt [.ref o] [(o, .inr (7, mdF th W H mt qu zz nw ol ne se ke 1 1 is ik dc sc kd md wh fa re ve ps ow tl di lv bf bo bd co bt ma))] (some (.int sc)) [(o, .inr (7, mdF (tLast kd) W H mt qu zz nw ol ne se ke 1 1 is ik dc sc kd md wh fa re ve ps ow tl di lv bf bo bd co bt ma))] := by
  refine xM.of RX7 rfl (by decide) rfl (Nat.le_of_ble_eq_true rfl) ?_
  intro p e s m below meth c A ls hF hr hlk hX hP hD hS hl
  have hx := hF.1
  have hb := hF.2.1
  have hl : lv_has ls 1 [(0, .ref o)] := hl
  have join_13 : ∀ (Hp : Heap) (locs : List Loc) (ls : Array Slot), va_P D vwCl [(o, .inr (7, mdF th W H mt qu zz nw ol ne se ke 1 1 is ik dc sc kd md wh fa re ve ps ow tl di lv bf bo bd co bt ma))] Hp → va_D A [(o, .inr (7, mdF th W H mt qu zz nw ol ne se ke 1 1 is ik dc sc kd md wh fa re ve ps ow tl di lv bf bo bd co bt ma))] → va_S A s.heap Hp locs → lv_has ls 1 [(0, .ref o)] → xW p l e ({ frames := 0, cells := 0, slots := 0, locals := 0 } : Room) s m ([.ref o] : List Value).toArray below meth c Hp locs 0 0 (MQ below (xE D A (some (.int sc)) [(o, .inr (7, mdF (tLast kd) W H mt qu zz nw ol ne se ke 1 1 is ik dc sc kd md wh fa re ve ps ow tl di lv bf bo bd co bt ma))]) ([.ref o] : List Value).toArray s 0 0 A) (F0 m 13 ls [.int (tLast kd), .ref o]) := by
    intro Hp locs ls hP hD hS hl
    refine xputf (C := RX7) (T := TX7) (N := 34) (ws1 := [(o, .inr (7, mdF (tLast kd) W H mt qu zz nw ol ne se ke 1 1 is ik dc sc kd md wh fa re ve ps ow tl di lv bf bo bd co bt ma))]) hF hX hP hD hS (by decide +kernel) tyX7 tyX7_ok nmX7 0 0 rfl rfl (by decide) (by decide +kernel) rfl (rfl) (rfl) (Nat.le_of_ble_eq_true rfl) dX7_last_13 rfl (fun Hp locs hP hD hS => ?_)
    refine lv_aload_n hx hb dX7_last_16 rfl (lv_at hl 0 rfl) ?_
    refine xget (C := RX7) (T := TX7) (N := 34) hF hX hP (by decide +kernel) 0 0 rfl rfl (by decide) (by decide +kernel) rfl dX7_last_17 ?_
    refine lv_if_le (tgt := 25) hx hb dX7_last_20 (by decide) (fun _ => ?_) (fun c_20 => absurd (by rw [ht]; decide) c_20)
    refine lv_aload_n hx hb dX7_last_25 rfl (lv_at hl 0 rfl) ?_
    refine xget (C := RX7) (T := TX7) (N := 34) hF hX hP (by decide +kernel) 0 11 rfl rfl (by decide) (by decide +kernel) rfl dX7_last_26 ?_
    refine lv_if_eq (tgt := 52) hx hb dX7_last_29 (by decide) (fun c_29 => absurd c_29 (by decide)) (fun _ => ?_)
    refine lv_aload_n hx hb dX7_last_32 rfl (lv_at hl 0 rfl) ?_
    refine xget (C := RX7) (T := TX7) (N := 34) hF hX hP (by decide +kernel) 0 12 rfl rfl (by decide) (by decide +kernel) rfl dX7_last_33 ?_
    refine lv_if_ne (tgt := 52) hx hb dX7_last_36 (by decide) (fun _ => ?_) (fun c_36 => absurd c_36 (by decide))
    refine lv_aload_n hx hb dX7_last_52 rfl (lv_at hl 0 rfl) ?_
    refine xget (C := RX7) (T := TX7) (N := 34) hF hX hP (by decide +kernel) 0 16 rfl rfl (by decide) (by decide +kernel) rfl dX7_last_53 ?_
    exact xri (Q9 := fun _ _ _ _ => True) hF hr hlk hP hD hS dX7_last_56
  refine lv_aload_n hx hb dX7_last_0 rfl (lv_at hl 0 rfl) ?_
  refine lv_aload_n hx hb dX7_last_1 rfl (lv_at hl 0 rfl) ?_
  refine xget (C := RX7) (T := TX7) (N := 34) hF hX hP (by decide +kernel) 0 17 rfl rfl (by decide) (by decide +kernel) rfl dX7_last_2 ?_
  refine lv_if_le (tgt := 12) hx hb dX7_last_5 (by decide) (fun c_5 => ?_) (fun c_5 => ?_)
  · refine lv_iconst (v := 0) hx hb dX7_last_12 (by decide) ?_
    refine xrwi (z := (tLast kd)) (by simp [tLast, c_5]) ?_
    exact join_13   _ _ _ hP hD hS (lv_sub hl [0] rfl)
  · refine lv_iconst (v := 1) hx hb dX7_last_8 (by decide) ?_
    refine lv_goto (tgt := 13) hx hb dX7_last_9 (by decide) ?_
    refine xrwi (z := (tLast kd)) (by simp [tLast, c_5]) ?_
    exact join_13   _ _ _ hP hD hS (lv_sub hl [0] rfl)
