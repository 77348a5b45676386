
/-! ===== the reference: keep, told, sample ===== -/
def tol9 (k : Nat) (kd : Int32) (md : Nat) (dc sc : Int32) (V P : Nat → Int32) : Int32 := if k = 0 then kd else if k = 1 then nI md else if k = 2 then dc else if k = 3 then sc else if 8 ≤ k then P (k - 8) else V (k - 4)
def tSmp (is th : Int32) : Int32 := if is = 0 then 1 else if th = 0 then 2 else 0
def the (x y : Int32) (p W H : Nat) : Int32 := if x < 0 then 0 else if y < 0 then 0 else if nI (wdt p W) ≤ x then 0 else if nI (wdt p H) ≤ y then 0 else 1

set_option maxHeartbeats 4000000 in
set_option maxRecDepth 100000 in
theorem c_X7_keep_bad (l : Launch) (D : va_G) (cs : Nat → ClassId) (tt : Nat → Nat) (o mt qu zz nw ol ne se ke re ve ps di lv bd co bt ma W H md : Nat) (th nc ns ik dc sc kd wh fa ow tl bf bo : Int32)  : xM l yX7_keep wsX7_keep ({ frames := 0, cells := 0, slots := 0, locals := 0 } : Room) D cs tt [.ref o] [(o, .inr (7, mdF th W H mt qu zz nw ol ne se ke nc ns 0 ik dc sc kd md wh fa re ve ps ow tl di lv bf bo bd co bt ma))] none [(o, .inr (7, mdF 1 W H mt qu zz nw ol ne se ke nc ns 0 ik dc sc kd md wh fa re ve ps ow tl di lv bf bo bd co bt ma))] := by
  refine xM.of RX7 rfl (by decide) rfl (Nat.le_of_ble_eq_true rfl) ?_
  intro p e s m below meth c A ls hF hr hlk hX hP hD hS hl
  have hx := hF.1
  have hb := hF.2.1
  have hl : lv_has ls 2 [(0, .ref o)] := hl
  refine lv_aload_n hx hb dX7_keep_0 rfl (lv_at hl 0 rfl) ?_
  refine lv_aload_n hx hb dX7_keep_1 rfl (lv_at hl 0 rfl) ?_
  refine xget (C := RX7) (T := TX7) (N := 34) hF hX hP (by decide +kernel) 0 13 rfl rfl (by decide) (by decide +kernel) rfl dX7_keep_2 ?_
  refine lv_if_eq (tgt := 12) hx hb dX7_keep_5 (by decide) (fun _ => ?_) (fun c_5 => absurd (by decide) c_5)
  refine lv_iconst (v := 1) hx hb dX7_keep_12 (by decide) ?_
  refine xputf (C := RX7) (T := TX7) (N := 34) (ws1 := [(o, .inr (7, mdF 1 W H mt qu zz nw ol ne se ke nc ns 0 ik dc sc kd md wh fa re ve ps ow tl di lv bf bo bd co bt ma))]) hF hX hP hD hS (by decide +kernel) tyX7 tyX7_ok nmX7 0 0 rfl rfl (by decide) (by decide +kernel) rfl (rfl) (rfl) (Nat.le_of_ble_eq_true rfl) dX7_keep_13 rfl (fun Hp locs hP hD hS => ?_)
  refine lv_iconst (v := 0) hx hb dX7_keep_16 (by decide) ?_
  refine lv_istore_n (lv' := [(1, .int 0), (0, .ref o)]) hx hb dX7_keep_17 rfl hl (by decide) rfl (fun ls hl => ?_)
  refine lv_iload_n hx hb dX7_keep_18 rfl (lv_at hl 0 rfl) ?_
  refine lv_sipush (v := 4608) hx hb dX7_keep_19 (by decide) ?_
  refine lv_icmp_ge (tgt := 55) hx hb dX7_keep_22 (by decide) (fun c_22 => absurd c_22 (by decide)) (fun _ => ?_)
  refine lv_aload_n hx hb dX7_keep_25 rfl (lv_at hl 1 rfl) ?_
  refine xget (C := RX7) (T := TX7) (N := 34) hF hX hP (by decide +kernel) 0 0 rfl rfl (by decide) (by decide +kernel) rfl dX7_keep_26 ?_
  refine lv_if_ne (tgt := 55) hx hb dX7_keep_29 (by decide) (fun _ => ?_) (fun c_29 => absurd c_29 (by decide))
  exact xrv hF hr hlk hP hD hS dX7_keep_55

set_option maxHeartbeats 4000000 in
set_option maxRecDepth 100000 in
theorem c_X7_keep_ok (l : Launch) (D : va_G) (cs : Nat → ClassId) (tt : Nat → Nat) (o mt qu zz nw ol ne se ke re ve ps di lv bd co bt ma W H md : Nat) (th nc ns ik dc sc kd wh fa ow tl bf bo : Int32) (gs gk : Nat → Int32)  : xM l yX7_keep wsX7_keep ({ frames := 0, cells := 0, slots := 0, locals := 0 } : Room) D cs tt [.ref o] [(o, .inr (7, mdF th W H mt qu zz nw ol ne se ke nc ns 1 ik dc sc kd md wh fa re ve ps ow tl di lv bf bo bd co bt ma)), (se, .inl (cs 0, 4608, .inl gs)), (ke, .inl (cs 0, 4608, .inl gk))] none [(o, .inr (7, mdF 0 W H mt qu zz nw ol ne se ke nc ns 1 1 dc sc kd md wh fa re ve ps ow tl di lv bf bo bd co bt ma)), (se, .inl (cs 0, 4608, .inl gs)), (ke, .inl (cs 0, 4608, .inl gs))] := by
  refine xM.of RX7 rfl (by decide) rfl (Nat.le_of_ble_eq_true rfl) ?_
  intro p e s m below meth c A ls hF hr hlk hX hP hD hS hl
  have hx := hF.1
  have hb := hF.2.1
  have hl : lv_has ls 2 [(0, .ref o)] := hl
  refine lv_aload_n hx hb dX7_keep_0 rfl (lv_at hl 0 rfl) ?_
  refine lv_aload_n hx hb dX7_keep_1 rfl (lv_at hl 0 rfl) ?_
  refine xget (C := RX7) (T := TX7) (N := 34) hF hX hP (by decide +kernel) 0 13 rfl rfl (by decide) (by decide +kernel) rfl dX7_keep_2 ?_
  refine lv_if_eq (tgt := 12) hx hb dX7_keep_5 (by decide) (fun c_5 => absurd c_5 (by decide)) (fun _ => ?_)
  refine lv_iconst (v := 0) hx hb dX7_keep_8 (by decide) ?_
  refine lv_goto (tgt := 13) hx hb dX7_keep_9 (by decide) ?_
  refine xputf (C := RX7) (T := TX7) (N := 34) (ws1 := [(o, .inr (7, mdF 0 W H mt qu zz nw ol ne se ke nc ns 1 ik dc sc kd md wh fa re ve ps ow tl di lv bf bo bd co bt ma)), (se, .inl (cs 0, 4608, .inl gs)), (ke, .inl (cs 0, 4608, .inl gk))]) hF hX hP hD hS (by decide +kernel) tyX7 tyX7_ok nmX7 0 0 rfl rfl (by decide) (by decide +kernel) rfl (rfl) (rfl) (Nat.le_of_ble_eq_true rfl) dX7_keep_13 rfl (fun Hp locs hP hD hS => ?_)
  refine lv_iconst (v := 0) hx hb dX7_keep_16 (by decide) ?_
  refine lv_istore_n (lv' := [(1, .int 0), (0, .ref o)]) hx hb dX7_keep_17 rfl hl (by decide) rfl (fun ls hl => ?_)
  have loop_18 : ∀ (k18 : Nat) (i : Nat) (q9 : Int32), 4608 - i < k18 → i ≤ 4608 → i = 0 ∨ q9 = 1 → ∀ (Hp : Heap) (locs : List Loc) (ls : Array Slot), va_P D vwCl [(o, .inr (7, mdF 0 W H mt qu zz nw ol ne se ke nc ns 1 q9 dc sc kd md wh fa re ve ps ow tl di lv bf bo bd co bt ma)), (se, .inl (cs 0, 4608, .inl gs)), (ke, .inl (cs 0, 4608, .inl (ovr gk gs i)))] Hp → va_D A [(o, .inr (7, mdF 0 W H mt qu zz nw ol ne se ke nc ns 1 q9 dc sc kd md wh fa re ve ps ow tl di lv bf bo bd co bt ma)), (se, .inl (cs 0, 4608, .inl gs)), (ke, .inl (cs 0, 4608, .inl (ovr gk gs i)))] → va_S A s.heap Hp locs → lv_has ls 2 [(0, .ref o), (1, .int (nI i))] → xW p l e ({ frames := 0, cells := 0, slots := 0, locals := 0 } : Room) s m ([.ref o] : List Value).toArray below meth c Hp locs 0 0 (MQ below (xE D A none [(o, .inr (7, mdF 0 W H mt qu zz nw ol ne se ke nc ns 1 1 dc sc kd md wh fa re ve ps ow tl di lv bf bo bd co bt ma)), (se, .inl (cs 0, 4608, .inl gs)), (ke, .inl (cs 0, 4608, .inl gs))]) ([.ref o] : List Value).toArray s 0 0 A) (F0 m 18 ls []) := by
    intro k18
    induction k18 with
    | zero => intro i q9 h9; omega
    | succ k18 ih_18 =>
      intro i q9 hk18 hi hq Hp locs ls hP hD hS hl
      refine lv_iload_n hx hb dX7_keep_18 rfl (lv_at hl 1 rfl) ?_
      refine lv_sipush (v := 4608) hx hb dX7_keep_19 (by decide) ?_
      refine lv_icmp_ge (tgt := 55) hx hb dX7_keep_22 (by decide) (fun c_22 => ?_) (fun c_22 => ?_)
      · have e9 : 4608 ≤ i := nIle (a := 4608) (b := i) rfl rfl (by decide) (by omega) c_22
        have hq1 : q9 = 1 := hq.elim (fun h => absurd h (by omega)) id
        have hP1 : va_P D vwCl [(o, .inr (7, mdF 0 W H mt qu zz nw ol ne se ke nc ns 1 q9 dc sc kd md wh fa re ve ps ow tl di lv bf bo bd co bt ma)), (se, .inl (cs 0, 4608, .inl gs)), (ke, .inl (cs 0, 4608, .inl gs))] Hp := xcongP (g := gs) hP 2 rfl hD (fun j hj => by simp [ovr, Nat.lt_of_lt_of_le hj e9])
        have hD : va_D A [(o, .inr (7, mdF 0 W H mt qu zz nw ol ne se ke nc ns 1 q9 dc sc kd md wh fa re ve ps ow tl di lv bf bo bd co bt ma)), (se, .inl (cs 0, 4608, .inl gs)), (ke, .inl (cs 0, 4608, .inl gs))] := xcongD (g := gs) 2 rfl hD
        have hP := hP1
        subst hq1
        exact xrv hF hr hlk hP hD hS dX7_keep_55
      · have hlt : i < 4608 := nInle (a := 4608) (b := i) rfl rfl (by decide) (by omega) c_22
        refine lv_aload_n hx hb dX7_keep_25 rfl (lv_at hl 0 rfl) ?_
        refine xget (C := RX7) (T := TX7) (N := 34) hF hX hP (by decide +kernel) 0 0 rfl rfl (by decide) (by decide +kernel) rfl dX7_keep_26 ?_
        refine lv_if_ne (tgt := 55) hx hb dX7_keep_29 (by decide) (fun c_29 => absurd (by decide) c_29) (fun _ => ?_)
        refine lv_aload_n hx hb dX7_keep_32 rfl (lv_at hl 0 rfl) ?_
        refine xget (C := RX7) (T := TX7) (N := 34) hF hX hP (by decide +kernel) 0 10 rfl rfl (by decide) (by decide +kernel) rfl dX7_keep_33 ?_
        refine lv_iload_n hx hb dX7_keep_36 rfl (lv_at hl 1 rfl) ?_
        refine lv_aload_n hx hb dX7_keep_37 rfl (lv_at hl 0 rfl) ?_
        refine xget (C := RX7) (T := TX7) (N := 34) hF hX hP (by decide +kernel) 0 9 rfl rfl (by decide) (by decide +kernel) rfl dX7_keep_38 ?_
        refine lv_iload_n hx hb dX7_keep_41 rfl (lv_at hl 1 rfl) ?_
        refine xald (k := i) hF hX hP 1 rfl (nI_clamp (by omega)) (vp_in_nI (by omega) (by decide)) dX7_keep_42 ?_
        refine xast (k := i) (ws1 := [(o, .inr (7, mdF 0 W H mt qu zz nw ol ne se ke nc ns 1 q9 dc sc kd md wh fa re ve ps ow tl di lv bf bo bd co bt ma)), (se, .inl (cs 0, 4608, .inl gs)), (ke, .inl (cs 0, 4608, .inl (ovr gk gs (i + 1))))]) hF hX hP hD hS 2 rfl (nI_clamp (by omega)) (vp_in_nI (by omega) (by decide)) dX7_keep_43 (congrArg (fun z9 => ([(o, .inr (7, mdF 0 W H mt qu zz nw ol ne se ke nc ns 1 q9 dc sc kd md wh fa re ve ps ow tl di lv bf bo bd co bt ma)), (se, .inl (cs 0, 4608, .inl gs)), (ke, .inl (cs 0, 4608, .inl z9))] : va_W)) (ovr_s gk gs i rfl)) (fun Hp locs hP hD hS => ?_)
        refine lv_aload_n hx hb dX7_keep_44 rfl (lv_at hl 0 rfl) ?_
        refine lv_iconst (v := 1) hx hb dX7_keep_45 (by decide) ?_
        refine xputf (C := RX7) (T := TX7) (N := 34) (ws1 := [(o, .inr (7, mdF 0 W H mt qu zz nw ol ne se ke nc ns 1 1 dc sc kd md wh fa re ve ps ow tl di lv bf bo bd co bt ma)), (se, .inl (cs 0, 4608, .inl gs)), (ke, .inl (cs 0, 4608, .inl (ovr gk gs (i + 1))))]) hF hX hP hD hS (by decide +kernel) tyX7 tyX7_ok nmX7 0 14 rfl rfl (by decide) (by decide +kernel) rfl (rfl) (rfl) (Nat.le_of_ble_eq_true rfl) dX7_keep_46 rfl (fun Hp locs hP hD hS => ?_)
        refine lv_iinc (v := (nI (i + 1))) (lv' := [(1, .int (nI (i + 1))), (0, .ref o)]) hx hb dX7_keep_49 hl (k := 1) rfl (nI_1 i) (by decide) rfl (fun ls hl => ?_)
        refine lv_goto (tgt := 18) hx hb dX7_keep_52 (by decide) ?_
        exact ih_18 (i + 1) 1 (by omega) (by omega) (Or.inr rfl) _ _ _ hP hD hS (lv_sub hl [1, 0] rfl)
  have hP := xeqP hP (congrArg (fun z9 => ([(o, .inr (7, mdF 0 W H mt qu zz nw ol ne se ke nc ns 1 ik dc sc kd md wh fa re ve ps ow tl di lv bf bo bd co bt ma)), (se, .inl (cs 0, 4608, .inl gs)), (ke, .inl (cs 0, 4608, .inl z9))] : va_W)) ((ovr_0 gk gs).symm))
  have hD := xeqD hD (congrArg (fun z9 => ([(o, .inr (7, mdF 0 W H mt qu zz nw ol ne se ke nc ns 1 ik dc sc kd md wh fa re ve ps ow tl di lv bf bo bd co bt ma)), (se, .inl (cs 0, 4608, .inl gs)), (ke, .inl (cs 0, 4608, .inl z9))] : va_W)) ((ovr_0 gk gs).symm))
  exact loop_18 (4608 - 0 + 1) 0 ik (Nat.lt_succ_self _) (by decide) (Or.inl rfl) _ _ _ hP hD hS (lv_sub hl [1, 0] rfl)

set_option maxHeartbeats 4000000 in
set_option maxRecDepth 100000 in
theorem c_X7_told_bad (l : Launch) (D : va_G) (cs : Nat → ClassId) (tt : Nat → Nat) (o mt qu zz nw ol ne se ke re ve ps di lv bd co bt ma W H md : Nat) (th nc ns is ik dc sc kd wh fa ow tl bf bo : Int32) (w9 : Int32) (ht : (tTold w9) = 1 ∨ (tTold w9) = 2) : xM l yX7_told wsX7_told ({ frames := 0, cells := 0, slots := 0, locals := 0 } : Room) D cs tt [.ref o, .int w9] [(o, .inr (7, mdF th W H mt qu zz nw ol ne se ke nc ns is ik dc sc kd md wh fa re ve ps ow tl di lv bf bo bd co bt ma))] (some (.int 0)) [(o, .inr (7, mdF (tTold w9) W H mt qu zz nw ol ne se ke nc ns is ik dc sc kd md wh fa re ve ps ow tl di lv bf bo bd co bt ma))] := by
  refine xM.of RX7 rfl (by decide) rfl (Nat.le_of_ble_eq_true rfl) ?_
  intro p e s m below meth c A ls hF hr hlk hX hP hD hS hl
  have hx := hF.1
  have hb := hF.2.1
  have hl : lv_has ls 2 [(0, .ref o), (1, .int w9)] := hl
  have join_16 : ∀ (Hp : Heap) (locs : List Loc) (ls : Array Slot), va_P D vwCl [(o, .inr (7, mdF th W H mt qu zz nw ol ne se ke nc ns is ik dc sc kd md wh fa re ve ps ow tl di lv bf bo bd co bt ma))] Hp → va_D A [(o, .inr (7, mdF th W H mt qu zz nw ol ne se ke nc ns is ik dc sc kd md wh fa re ve ps ow tl di lv bf bo bd co bt ma))] → va_S A s.heap Hp locs → lv_has ls 2 [(0, .ref o), (1, .int w9)] → xW p l e ({ frames := 0, cells := 0, slots := 0, locals := 0 } : Room) s m ([.ref o, .int w9] : List Value).toArray below meth c Hp locs 0 0 (MQ below (xE D A (some (.int 0)) [(o, .inr (7, mdF (tTold w9) W H mt qu zz nw ol ne se ke nc ns is ik dc sc kd md wh fa re ve ps ow tl di lv bf bo bd co bt ma))]) ([.ref o, .int w9] : List Value).toArray s 0 0 A) (F0 m 16 ls [.int (tTold w9), .ref o]) := by
    intro Hp locs ls hP hD hS hl
    refine xputf (C := RX7) (T := TX7) (N := 34) (ws1 := [(o, .inr (7, mdF (tTold w9) W H mt qu zz nw ol ne se ke nc ns is ik dc sc kd md wh fa re ve ps ow tl di lv bf bo bd co bt ma))]) hF hX hP hD hS (by decide +kernel) tyX7 tyX7_ok nmX7 0 0 rfl rfl (by decide) (by decide +kernel) rfl (rfl) (rfl) (Nat.le_of_ble_eq_true rfl) dX7_told_16 rfl (fun Hp locs hP hD hS => ?_)
    refine lv_aload_n hx hb dX7_told_19 rfl (lv_at hl 0 rfl) ?_
    refine xget (C := RX7) (T := TX7) (N := 34) hF hX hP (by decide +kernel) 0 0 rfl rfl (by decide) (by decide +kernel) rfl dX7_told_20 ?_
    refine lv_if_le (tgt := 28) hx hb dX7_told_23 (by decide) (fun c_23 => absurd c_23 (by rcases ht with h9 | h9 <;> rw [h9] <;> decide)) (fun _ => ?_)
    refine lv_iconst (v := 0) hx hb dX7_told_26 (by decide) ?_
    exact xri (Q9 := fun _ _ _ _ => True) hF hr hlk hP hD hS dX7_told_27
  refine lv_aload_n hx hb dX7_told_0 rfl (lv_at hl 0 rfl) ?_
  refine lv_iload_n hx hb dX7_told_1 rfl (lv_at hl 1 rfl) ?_
  refine lv_if_lt (tgt := 11) hx hb dX7_told_2 (by decide) (fun c_2 => ?_) (fun c_2 => ?_)
  · refine lv_iconst (v := 1) hx hb dX7_told_11 (by decide) ?_
    refine lv_goto (tgt := 16) hx hb dX7_told_12 (by decide) ?_
    refine xrwi (z := (tTold w9)) (by simp [tTold, c_2]) ?_
    exact join_16   _ _ _ hP hD hS (lv_sub hl [0, 1] rfl)
  · refine lv_iload_n hx hb dX7_told_5 rfl (lv_at hl 1 rfl) ?_
    refine lv_bipush (v := 10) hx hb dX7_told_6 (by decide) ?_
    refine lv_icmp_le (tgt := 15) hx hb dX7_told_8 (by decide) (fun c_8 => ?_) (fun c_8 => ?_)
    · refine lv_iconst (v := 0) hx hb dX7_told_15 (by decide) ?_
      refine xrwi (z := (tTold w9)) (by simp [tTold, c_2, c_8]) ?_
      exact join_16   _ _ _ hP hD hS (lv_sub hl [0, 1] rfl)
    · refine lv_iconst (v := 1) hx hb dX7_told_11 (by decide) ?_
      refine lv_goto (tgt := 16) hx hb dX7_told_12 (by decide) ?_
      refine xrwi (z := (tTold w9)) (by simp [tTold, c_2, c_8]) ?_
      exact join_16   _ _ _ hP hD hS (lv_sub hl [0, 1] rfl)

set_option maxHeartbeats 4000000 in
set_option maxRecDepth 100000 in
theorem c_X7_told_ok (l : Launch) (D : va_G) (cs : Nat → ClassId) (tt : Nat → Nat) (o mt qu zz nw ol ne se ke re ve ps di lv bd co bt ma W H md : Nat) (th nc ns is ik dc sc kd wh fa ow tl bf bo : Int32) (k : Nat) (V P : Nat → Int32) (ht : (tTold (nI k)) = 0) (hk : k ≤ 10) : xM l yX7_told wsX7_told ({ frames := 0, cells := 0, slots := 0, locals := 0 } : Room) D cs tt [.ref o, .int (nI k)] [(o, .inr (7, mdF th W H mt qu zz nw ol ne se ke nc ns is ik dc sc kd md wh fa re ve ps ow tl di lv bf bo bd co bt ma)), (ve, .inl (cs 0, 4, .inl V)), (ps, .inl (cs 0, 3, .inl P))] (some (.int (tol9 k kd md dc sc V P))) [(o, .inr (7, mdF (tTold (nI k)) W H mt qu zz nw ol ne se ke nc ns is ik dc sc kd md wh fa re ve ps ow tl di lv bf bo bd co bt ma)), (ve, .inl (cs 0, 4, .inl V)), (ps, .inl (cs 0, 3, .inl P))] := by
  refine xM.of RX7 rfl (by decide) rfl (Nat.le_of_ble_eq_true rfl) ?_
  intro p e s m below meth c A ls hF hr hlk hX hP hD hS hl
  have hx := hF.1
  have hb := hF.2.1
  have hl : lv_has ls 2 [(0, .ref o), (1, .int (nI k))] := hl
  have join_16 : ∀ (Hp : Heap) (locs : List Loc) (ls : Array Slot), va_P D vwCl [(o, .inr (7, mdF th W H mt qu zz nw ol ne se ke nc ns is ik dc sc kd md wh fa re ve ps ow tl di lv bf bo bd co bt ma)), (ve, .inl (cs 0, 4, .inl V)), (ps, .inl (cs 0, 3, .inl P))] Hp → va_D A [(o, .inr (7, mdF th W H mt qu zz nw ol ne se ke nc ns is ik dc sc kd md wh fa re ve ps ow tl di lv bf bo bd co bt ma)), (ve, .inl (cs 0, 4, .inl V)), (ps, .inl (cs 0, 3, .inl P))] → va_S A s.heap Hp locs → lv_has ls 2 [(0, .ref o), (1, .int (nI k))] → xW p l e ({ frames := 0, cells := 0, slots := 0, locals := 0 } : Room) s m ([.ref o, .int (nI k)] : List Value).toArray below meth c Hp locs 0 0 (MQ below (xE D A (some (.int (tol9 k kd md dc sc V P))) [(o, .inr (7, mdF (tTold (nI k)) W H mt qu zz nw ol ne se ke nc ns is ik dc sc kd md wh fa re ve ps ow tl di lv bf bo bd co bt ma)), (ve, .inl (cs 0, 4, .inl V)), (ps, .inl (cs 0, 3, .inl P))]) ([.ref o, .int (nI k)] : List Value).toArray s 0 0 A) (F0 m 16 ls [.int (tTold (nI k)), .ref o]) := by
    intro Hp locs ls hP hD hS hl
    refine xputf (C := RX7) (T := TX7) (N := 34) (ws1 := [(o, .inr (7, mdF (tTold (nI k)) W H mt qu zz nw ol ne se ke nc ns is ik dc sc kd md wh fa re ve ps ow tl di lv bf bo bd co bt ma)), (ve, .inl (cs 0, 4, .inl V)), (ps, .inl (cs 0, 3, .inl P))]) hF hX hP hD hS (by decide +kernel) tyX7 tyX7_ok nmX7 0 0 rfl rfl (by decide) (by decide +kernel) rfl (rfl) (rfl) (Nat.le_of_ble_eq_true rfl) dX7_told_16 rfl (fun Hp locs hP hD hS => ?_)
    refine lv_aload_n hx hb dX7_told_19 rfl (lv_at hl 0 rfl) ?_
    refine xget (C := RX7) (T := TX7) (N := 34) hF hX hP (by decide +kernel) 0 0 rfl rfl (by decide) (by decide +kernel) rfl dX7_told_20 ?_
    refine lv_if_le (tgt := 28) hx hb dX7_told_23 (by decide) (fun _ => ?_) (fun c_23 => absurd (by rw [ht]; decide) c_23)
    refine lv_iload_n hx hb dX7_told_28 rfl (lv_at hl 1 rfl) ?_
    refine lv_if_ne (tgt := 39) hx hb dX7_told_29 (by decide) (fun c_29 => ?_) (fun c_29 => ?_)
    · have h0 : ¬ k = 0 := fun q => c_29 (by rw [q]; rfl)
      refine lv_iload_n hx hb dX7_told_39 rfl (lv_at hl 1 rfl) ?_
      refine lv_iconst (v := 1) hx hb dX7_told_40 (by decide) ?_
      refine lv_icmp_ne (tgt := 51) hx hb dX7_told_41 (by decide) (fun c_41 => ?_) (fun c_41 => ?_)
      · have h1 : ¬ k = 1 := fun q => c_41 (by rw [q]; rfl)
        refine lv_iload_n hx hb dX7_told_51 rfl (lv_at hl 1 rfl) ?_
        refine lv_iconst (v := 2) hx hb dX7_told_52 (by decide) ?_
        refine lv_icmp_ne (tgt := 63) hx hb dX7_told_53 (by decide) (fun c_53 => ?_) (fun c_53 => ?_)
        · have h2 : ¬ k = 2 := fun q => c_53 (by rw [q]; rfl)
          refine lv_iload_n hx hb dX7_told_63 rfl (lv_at hl 1 rfl) ?_
          refine lv_iconst (v := 3) hx hb dX7_told_64 (by decide) ?_
          refine lv_icmp_ne (tgt := 75) hx hb dX7_told_65 (by decide) (fun c_65 => ?_) (fun c_65 => ?_)
          · have h3 : ¬ k = 3 := fun q => c_65 (by rw [q]; rfl)
            refine lv_iload_n hx hb dX7_told_75 rfl (lv_at hl 1 rfl) ?_
            refine lv_bipush (v := 8) hx hb dX7_told_76 (by decide) ?_
            refine lv_icmp_ge (tgt := 92) hx hb dX7_told_78 (by decide) (fun c_78 => ?_) (fun c_78 => ?_)
            · have h8 : 8 ≤ k := nIle (a := 8) rfl rfl (by decide) (by omega) c_78
              refine lv_aload_n hx hb dX7_told_92 rfl (lv_at hl 0 rfl) ?_
              refine xget (C := RX7) (T := TX7) (N := 34) hF hX hP (by decide +kernel) 0 23 rfl rfl (by decide) (by decide +kernel) rfl dX7_told_93 ?_
              refine lv_iload_n hx hb dX7_told_96 rfl (lv_at hl 1 rfl) ?_
              refine lv_bipush (v := 8) hx hb dX7_told_97 (by decide) ?_
              refine lv_isub hx hb dX7_told_99 ?_
              refine xrwi (z := nI (k - 8)) (pk_sub (b := 8) (by omega)) ?_
              refine xald (k := k - 8) hF hX hP 2 rfl (nI_clamp (by omega)) (vp_in_nI (by omega) (by decide)) dX7_told_100 ?_
              refine xrwi (z := (tol9 k kd md dc sc V P)) (by unfold tol9; rw [if_neg h0, if_neg h1, if_neg h2, if_neg h3, if_pos h8]) ?_
              exact xri (Q9 := fun _ _ _ _ => True) hF hr hlk hP hD hS dX7_told_101
            · have h8 : ¬ 8 ≤ k := Nat.not_le.mpr (nInle (a := 8) rfl rfl (by decide) (by omega) c_78)
              refine lv_aload_n hx hb dX7_told_81 rfl (lv_at hl 0 rfl) ?_
              refine xget (C := RX7) (T := TX7) (N := 34) hF hX hP (by decide +kernel) 0 22 rfl rfl (by decide) (by decide +kernel) rfl dX7_told_82 ?_
              refine lv_iload_n hx hb dX7_told_85 rfl (lv_at hl 1 rfl) ?_
              refine lv_iconst (v := 4) hx hb dX7_told_86 (by decide) ?_
              refine lv_isub hx hb dX7_told_87 ?_
              refine xrwi (z := nI (k - 4)) (pk_sub (b := 4) (by omega)) ?_
              refine xald (k := k - 4) hF hX hP 1 rfl (nI_clamp (by omega)) (vp_in_nI (by omega) (by decide)) dX7_told_88 ?_
              refine lv_goto (tgt := 101) hx hb dX7_told_89 (by decide) ?_
              refine xrwi (z := (tol9 k kd md dc sc V P)) (by unfold tol9; rw [if_neg h0, if_neg h1, if_neg h2, if_neg h3, if_neg h8]) ?_
              exact xri (Q9 := fun _ _ _ _ => True) hF hr hlk hP hD hS dX7_told_101
          · have h3 : k = 3 := (nI_eq (b := 3) (by omega) (by decide)).mp c_65
            refine lv_aload_n hx hb dX7_told_68 rfl (lv_at hl 0 rfl) ?_
            refine xget (C := RX7) (T := TX7) (N := 34) hF hX hP (by decide +kernel) 0 16 rfl rfl (by decide) (by decide +kernel) rfl dX7_told_69 ?_
            refine lv_goto (tgt := 101) hx hb dX7_told_72 (by decide) ?_
            refine xrwi (z := (tol9 k kd md dc sc V P)) (by unfold tol9; rw [if_neg h0, if_neg h1, if_neg h2, if_pos h3]) ?_
            exact xri (Q9 := fun _ _ _ _ => True) hF hr hlk hP hD hS dX7_told_101
        · have h2 : k = 2 := (nI_eq (b := 2) (by omega) (by decide)).mp c_53
          refine lv_aload_n hx hb dX7_told_56 rfl (lv_at hl 0 rfl) ?_
          refine xget (C := RX7) (T := TX7) (N := 34) hF hX hP (by decide +kernel) 0 15 rfl rfl (by decide) (by decide +kernel) rfl dX7_told_57 ?_
          refine lv_goto (tgt := 101) hx hb dX7_told_60 (by decide) ?_
          refine xrwi (z := (tol9 k kd md dc sc V P)) (by unfold tol9; rw [if_neg h0, if_neg h1, if_pos h2]) ?_
          exact xri (Q9 := fun _ _ _ _ => True) hF hr hlk hP hD hS dX7_told_101
      · have h1 : k = 1 := (nI_eq (b := 1) (by omega) (by decide)).mp c_41
        refine lv_aload_n hx hb dX7_told_44 rfl (lv_at hl 0 rfl) ?_
        refine xget (C := RX7) (T := TX7) (N := 34) hF hX hP (by decide +kernel) 0 18 rfl rfl (by decide) (by decide +kernel) rfl dX7_told_45 ?_
        refine lv_goto (tgt := 101) hx hb dX7_told_48 (by decide) ?_
        refine xrwi (z := (tol9 k kd md dc sc V P)) (by unfold tol9; rw [if_neg h0, if_pos h1]) ?_
        exact xri (Q9 := fun _ _ _ _ => True) hF hr hlk hP hD hS dX7_told_101
    · have h0 : k = 0 := (nI_eq (b := 0) (by omega) (by decide)).mp c_29
      refine lv_aload_n hx hb dX7_told_32 rfl (lv_at hl 0 rfl) ?_
      refine xget (C := RX7) (T := TX7) (N := 34) hF hX hP (by decide +kernel) 0 17 rfl rfl (by decide) (by decide +kernel) rfl dX7_told_33 ?_
      refine lv_goto (tgt := 101) hx hb dX7_told_36 (by decide) ?_
      refine xrwi (z := (tol9 k kd md dc sc V P)) (by unfold tol9; rw [if_pos h0]) ?_
      exact xri (Q9 := fun _ _ _ _ => True) hF hr hlk hP hD hS dX7_told_101
  refine lv_aload_n hx hb dX7_told_0 rfl (lv_at hl 0 rfl) ?_
  refine lv_iload_n hx hb dX7_told_1 rfl (lv_at hl 1 rfl) ?_
  refine lv_if_lt (tgt := 11) hx hb dX7_told_2 (by decide) (fun c_2 => ?_) (fun c_2 => ?_)
  · refine lv_iconst (v := 1) hx hb dX7_told_11 (by decide) ?_
    refine lv_goto (tgt := 16) hx hb dX7_told_12 (by decide) ?_
    refine xrwi (z := (tTold (nI k))) (by simp [tTold, c_2]) ?_
    exact join_16   _ _ _ hP hD hS (lv_sub hl [0, 1] rfl)
  · refine lv_iload_n hx hb dX7_told_5 rfl (lv_at hl 1 rfl) ?_
    refine lv_bipush (v := 10) hx hb dX7_told_6 (by decide) ?_
    refine lv_icmp_le (tgt := 15) hx hb dX7_told_8 (by decide) (fun c_8 => ?_) (fun c_8 => ?_)
    · refine lv_iconst (v := 0) hx hb dX7_told_15 (by decide) ?_
      refine xrwi (z := (tTold (nI k))) (by simp [tTold, c_2, c_8]) ?_
      exact join_16   _ _ _ hP hD hS (lv_sub hl [0, 1] rfl)
    · refine lv_iconst (v := 1) hx hb dX7_told_11 (by decide) ?_
      refine lv_goto (tgt := 16) hx hb dX7_told_12 (by decide) ?_
      refine xrwi (z := (tTold (nI k))) (by simp [tTold, c_2, c_8]) ?_
      exact join_16   _ _ _ hP hD hS (lv_sub hl [0, 1] rfl)

set_option maxHeartbeats 4000000 in
set_option maxRecDepth 100000 in
theorem c_X7_sample_out (l : Launch) (D : va_G) (cs : Nat → ClassId) (tt : Nat → Nat) (o mt qu zz nw ol ne se ke re ve ps di lv bd co bt ma W H md : Nat) (th nc ns is ik dc sc kd wh fa ow tl bf bo : Int32) (p8 x y : Int32) (hd : p8 < 0 ∨ 2 < p8) : xM l yX7_sample wsX7_sample ({ frames := 0, cells := 0, slots := 0, locals := 0 } : Room) D cs tt [.ref o, .int p8, .int x, .int y] [(o, .inr (7, mdF th W H mt qu zz nw ol ne se ke nc ns is ik dc sc kd md wh fa re ve ps ow tl di lv bf bo bd co bt ma))] (some (.int 0)) [(o, .inr (7, mdF (tSmp is 0) W H mt qu zz nw ol ne se ke nc ns is ik dc sc kd md wh fa re ve ps ow tl di lv bf bo bd co bt ma))] := by
  refine xM.of RX7 rfl (by decide) rfl (Nat.le_of_ble_eq_true rfl) ?_
  intro p e s m below meth c A ls hF hr hlk hX hP hD hS hl
  have hx := hF.1
  have hb := hF.2.1
  have hl : lv_has ls 5 [(0, .ref o), (1, .int p8), (2, .int x), (3, .int y)] := hl
  have join_64 : ∀ (Hp : Heap) (locs : List Loc) (ls : Array Slot), va_P D vwCl [(o, .inr (7, mdF th W H mt qu zz nw ol ne se ke nc ns is ik dc sc kd md wh fa re ve ps ow tl di lv bf bo bd co bt ma))] Hp → va_D A [(o, .inr (7, mdF th W H mt qu zz nw ol ne se ke nc ns is ik dc sc kd md wh fa re ve ps ow tl di lv bf bo bd co bt ma))] → va_S A s.heap Hp locs → lv_has ls 5 [(0, .ref o), (1, .int p8), (2, .int x), (3, .int y)] → xW p l e ({ frames := 0, cells := 0, slots := 0, locals := 0 } : Room) s m ([.ref o, .int p8, .int x, .int y] : List Value).toArray below meth c Hp locs 0 0 (MQ below (xE D A (some (.int 0)) [(o, .inr (7, mdF (tSmp is 0) W H mt qu zz nw ol ne se ke nc ns is ik dc sc kd md wh fa re ve ps ow tl di lv bf bo bd co bt ma))]) ([.ref o, .int p8, .int x, .int y] : List Value).toArray s 0 0 A) (F0 m 64 ls [.int (tSmp is 0), .ref o]) := by
    intro Hp locs ls hP hD hS hl
    refine xputf (C := RX7) (T := TX7) (N := 34) (ws1 := [(o, .inr (7, mdF (tSmp is 0) W H mt qu zz nw ol ne se ke nc ns is ik dc sc kd md wh fa re ve ps ow tl di lv bf bo bd co bt ma))]) hF hX hP hD hS (by decide +kernel) tyX7 tyX7_ok nmX7 0 0 rfl rfl (by decide) (by decide +kernel) rfl (rfl) (rfl) (Nat.le_of_ble_eq_true rfl) dX7_sample_64 rfl (fun Hp locs hP hD hS => ?_)
    refine lv_aload_n hx hb dX7_sample_67 rfl (lv_at hl 0 rfl) ?_
    refine xget (C := RX7) (T := TX7) (N := 34) hF hX hP (by decide +kernel) 0 0 rfl rfl (by decide) (by decide +kernel) rfl dX7_sample_68 ?_
    refine lv_if_le (tgt := 78) hx hb dX7_sample_71 (by decide) (fun c_71 => absurd c_71 (by unfold tSmp; split <;> decide)) (fun _ => ?_)
    refine lv_iconst (v := 0) hx hb dX7_sample_74 (by decide) ?_
    refine lv_goto (tgt := 89) hx hb dX7_sample_75 (by decide) ?_
    exact xri (Q9 := fun _ _ _ _ => True) hF hr hlk hP hD hS dX7_sample_89
  have join_40 : ∀ (Hp : Heap) (locs : List Loc) (ls : Array Slot), va_P D vwCl [(o, .inr (7, mdF th W H mt qu zz nw ol ne se ke nc ns is ik dc sc kd md wh fa re ve ps ow tl di lv bf bo bd co bt ma))] Hp → va_D A [(o, .inr (7, mdF th W H mt qu zz nw ol ne se ke nc ns is ik dc sc kd md wh fa re ve ps ow tl di lv bf bo bd co bt ma))] → va_S A s.heap Hp locs → lv_has ls 5 [(0, .ref o), (1, .int p8), (2, .int x), (3, .int y)] → xW p l e ({ frames := 0, cells := 0, slots := 0, locals := 0 } : Room) s m ([.ref o, .int p8, .int x, .int y] : List Value).toArray below meth c Hp locs 0 0 (MQ below (xE D A (some (.int 0)) [(o, .inr (7, mdF (tSmp is 0) W H mt qu zz nw ol ne se ke nc ns is ik dc sc kd md wh fa re ve ps ow tl di lv bf bo bd co bt ma))]) ([.ref o, .int p8, .int x, .int y] : List Value).toArray s 0 0 A) (F0 m 40 ls [.int 0]) := by
    intro Hp locs ls hP hD hS hl
    refine lv_istore (lv' := [(4, .int 0), (0, .ref o), (1, .int p8), (2, .int x), (3, .int y)]) hx hb dX7_sample_40 hl (by decide) rfl (fun ls hl => ?_)
    refine lv_aload_n hx hb dX7_sample_42 rfl (lv_at hl 1 rfl) ?_
    refine lv_aload_n hx hb dX7_sample_43 rfl (lv_at hl 1 rfl) ?_
    refine xget (C := RX7) (T := TX7) (N := 34) hF hX hP (by decide +kernel) 0 13 rfl rfl (by decide) (by decide +kernel) rfl dX7_sample_44 ?_
    refine lv_if_ne (tgt := 54) hx hb dX7_sample_47 (by decide) (fun c_47 => ?_) (fun c_47 => ?_)
    · refine lv_iload hx hb dX7_sample_54 (lv_at hl 0 rfl) ?_
      refine lv_if_ne (tgt := 63) hx hb dX7_sample_56 (by decide) (fun c_56 => absurd (by decide) c_56) (fun _ => ?_)
      refine lv_iconst (v := 2) hx hb dX7_sample_59 (by decide) ?_
      refine lv_goto (tgt := 64) hx hb dX7_sample_60 (by decide) ?_
      refine xrwi (z := (tSmp is 0)) (by simp [tSmp, c_47]) ?_
      exact join_64   _ _ _ hP hD hS (lv_sub hl [1, 2, 3, 4] rfl)
    · refine lv_iconst (v := 1) hx hb dX7_sample_50 (by decide) ?_
      refine lv_goto (tgt := 64) hx hb dX7_sample_51 (by decide) ?_
      refine xrwi (z := (tSmp is 0)) (by simp [tSmp, c_47]) ?_
      exact join_64   _ _ _ hP hD hS (lv_sub hl [1, 2, 3, 4] rfl)
  refine lv_iload_n hx hb dX7_sample_0 rfl (lv_at hl 1 rfl) ?_
  refine lv_if_lt (tgt := 39) hx hb dX7_sample_1 (by decide) (fun c_1 => ?_) (fun c_1 => ?_)
  · refine lv_iconst (v := 0) hx hb dX7_sample_39 (by decide) ?_
    exact join_40   _ _ _ hP hD hS (lv_sub hl [0, 1, 2, 3] rfl)
  · refine lv_iload_n hx hb dX7_sample_4 rfl (lv_at hl 1 rfl) ?_
    refine lv_iconst (v := 2) hx hb dX7_sample_5 (by decide) ?_
    refine lv_icmp_gt (tgt := 39) hx hb dX7_sample_6 (by decide) (fun _ => ?_) (fun c_6 => absurd (hd.elim (fun h => absurd h c_1) id) c_6)
    refine lv_iconst (v := 0) hx hb dX7_sample_39 (by decide) ?_
    exact join_40   _ _ _ hP hD hS (lv_sub hl [0, 1, 2, 3] rfl)

set_option maxHeartbeats 4000000 in
set_option maxRecDepth 100000 in
theorem c_X7_sample_bad (l : Launch) (D : va_G) (cs : Nat → ClassId) (tt : Nat → Nat) (o mt qu zz nw ol ne se ke re ve ps di lv bd co bt ma W H md : Nat) (th nc ns is ik dc sc kd wh fa ow tl bf bo : Int32) (p9 : Nat) (x y : Int32) (hp : p9 < 3) (ht : (tSmp is (the x y p9 W H)) = 1 ∨ (tSmp is (the x y p9 W H)) = 2) : xM l yX7_sample wsX7_sample ({ frames := 1, cells := 0, slots := 0, locals := 21 } : Room) D cs tt [.ref o, .int (nI p9), .int x, .int y] [(o, .inr (7, mdF th W H mt qu zz nw ol ne se ke nc ns is ik dc sc kd md wh fa re ve ps ow tl di lv bf bo bd co bt ma))] (some (.int 0)) [(o, .inr (7, mdF (tSmp is (the x y p9 W H)) W H mt qu zz nw ol ne se ke nc ns is ik dc sc kd md wh fa re ve ps ow tl di lv bf bo bd co bt ma))] := by
  refine xM.of RX7 rfl (by decide) rfl (Nat.le_of_ble_eq_true rfl) ?_
  intro p e s m below meth c A ls hF hr hlk hX hP hD hS hl
  have hx := hF.1
  have hb := hF.2.1
  have hl : lv_has ls 5 [(0, .ref o), (1, .int (nI p9)), (2, .int x), (3, .int y)] := hl
  have join_64 : ∀ (Hp : Heap) (locs : List Loc) (ls : Array Slot), va_P D vwCl [(o, .inr (7, mdF th W H mt qu zz nw ol ne se ke nc ns is ik dc sc kd md wh fa re ve ps ow tl di lv bf bo bd co bt ma))] Hp → va_D A [(o, .inr (7, mdF th W H mt qu zz nw ol ne se ke nc ns is ik dc sc kd md wh fa re ve ps ow tl di lv bf bo bd co bt ma))] → va_S A s.heap Hp locs → lv_has ls 5 [(0, .ref o), (1, .int (nI p9)), (2, .int x), (3, .int y)] → xW p l e ({ frames := 1, cells := 0, slots := 0, locals := 21 } : Room) s m ([.ref o, .int (nI p9), .int x, .int y] : List Value).toArray below meth c Hp locs 0 0 (MQ below (xE D A (some (.int 0)) [(o, .inr (7, mdF (tSmp is (the x y p9 W H)) W H mt qu zz nw ol ne se ke nc ns is ik dc sc kd md wh fa re ve ps ow tl di lv bf bo bd co bt ma))]) ([.ref o, .int (nI p9), .int x, .int y] : List Value).toArray s 0 0 A) (F0 m 64 ls [.int (tSmp is (the x y p9 W H)), .ref o]) := by
    intro Hp locs ls hP hD hS hl
    refine xputf (C := RX7) (T := TX7) (N := 34) (ws1 := [(o, .inr (7, mdF (tSmp is (the x y p9 W H)) W H mt qu zz nw ol ne se ke nc ns is ik dc sc kd md wh fa re ve ps ow tl di lv bf bo bd co bt ma))]) hF hX hP hD hS (by decide +kernel) tyX7 tyX7_ok nmX7 0 0 rfl rfl (by decide) (by decide +kernel) rfl (rfl) (rfl) (Nat.le_of_ble_eq_true rfl) dX7_sample_64 rfl (fun Hp locs hP hD hS => ?_)
    refine lv_aload_n hx hb dX7_sample_67 rfl (lv_at hl 0 rfl) ?_
    refine xget (C := RX7) (T := TX7) (N := 34) hF hX hP (by decide +kernel) 0 0 rfl rfl (by decide) (by decide +kernel) rfl dX7_sample_68 ?_
    refine lv_if_le (tgt := 78) hx hb dX7_sample_71 (by decide) (fun c_71 => absurd c_71 (by rcases ht with h9 | h9 <;> rw [h9] <;> decide)) (fun _ => ?_)
    refine lv_iconst (v := 0) hx hb dX7_sample_74 (by decide) ?_
    refine lv_goto (tgt := 89) hx hb dX7_sample_75 (by decide) ?_
    exact xri (Q9 := fun _ _ _ _ => True) hF hr hlk hP hD hS dX7_sample_89
  have join_40 : ∀ (Hp : Heap) (locs : List Loc) (ls : Array Slot), va_P D vwCl [(o, .inr (7, mdF th W H mt qu zz nw ol ne se ke nc ns is ik dc sc kd md wh fa re ve ps ow tl di lv bf bo bd co bt ma))] Hp → va_D A [(o, .inr (7, mdF th W H mt qu zz nw ol ne se ke nc ns is ik dc sc kd md wh fa re ve ps ow tl di lv bf bo bd co bt ma))] → va_S A s.heap Hp locs → lv_has ls 5 [(0, .ref o), (1, .int (nI p9)), (2, .int x), (3, .int y)] → xW p l e ({ frames := 1, cells := 0, slots := 0, locals := 21 } : Room) s m ([.ref o, .int (nI p9), .int x, .int y] : List Value).toArray below meth c Hp locs 0 0 (MQ below (xE D A (some (.int 0)) [(o, .inr (7, mdF (tSmp is (the x y p9 W H)) W H mt qu zz nw ol ne se ke nc ns is ik dc sc kd md wh fa re ve ps ow tl di lv bf bo bd co bt ma))]) ([.ref o, .int (nI p9), .int x, .int y] : List Value).toArray s 0 0 A) (F0 m 40 ls [.int (the x y p9 W H)]) := by
    intro Hp locs ls hP hD hS hl
    refine lv_istore (lv' := [(4, .int (the x y p9 W H)), (0, .ref o), (1, .int (nI p9)), (2, .int x), (3, .int y)]) hx hb dX7_sample_40 hl (by decide) rfl (fun ls hl => ?_)
    refine lv_aload_n hx hb dX7_sample_42 rfl (lv_at hl 1 rfl) ?_
    refine lv_aload_n hx hb dX7_sample_43 rfl (lv_at hl 1 rfl) ?_
    refine xget (C := RX7) (T := TX7) (N := 34) hF hX hP (by decide +kernel) 0 13 rfl rfl (by decide) (by decide +kernel) rfl dX7_sample_44 ?_
    refine lv_if_ne (tgt := 54) hx hb dX7_sample_47 (by decide) (fun c_47 => ?_) (fun c_47 => ?_)
    · refine lv_iload hx hb dX7_sample_54 (lv_at hl 0 rfl) ?_
      refine lv_if_ne (tgt := 63) hx hb dX7_sample_56 (by decide) (fun c_56 => ?_) (fun c_56 => ?_)
      · refine lv_iconst (v := 0) hx hb dX7_sample_63 (by decide) ?_
        refine xrwi (z := (tSmp is (the x y p9 W H))) (by unfold tSmp; rw [if_neg c_47, if_neg c_56]) ?_
        exact join_64   _ _ _ hP hD hS (lv_sub hl [1, 2, 3, 4] rfl)
      · refine lv_iconst (v := 2) hx hb dX7_sample_59 (by decide) ?_
        refine lv_goto (tgt := 64) hx hb dX7_sample_60 (by decide) ?_
        refine xrwi (z := (tSmp is (the x y p9 W H))) (by unfold tSmp; rw [if_neg c_47, if_pos c_56]) ?_
        exact join_64   _ _ _ hP hD hS (lv_sub hl [1, 2, 3, 4] rfl)
    · refine lv_iconst (v := 1) hx hb dX7_sample_50 (by decide) ?_
      refine lv_goto (tgt := 64) hx hb dX7_sample_51 (by decide) ?_
      refine xrwi (z := (tSmp is (the x y p9 W H))) (by unfold tSmp; rw [if_pos c_47]) ?_
      exact join_64   _ _ _ hP hD hS (lv_sub hl [1, 2, 3, 4] rfl)
  refine lv_iload_n hx hb dX7_sample_0 rfl (lv_at hl 1 rfl) ?_
  refine lv_if_lt (tgt := 39) hx hb dX7_sample_1 (by decide) (fun c_1 => absurd c_1 (nI_pos (by omega))) (fun _ => ?_)
  refine lv_iload_n hx hb dX7_sample_4 rfl (lv_at hl 1 rfl) ?_
  refine lv_iconst (v := 2) hx hb dX7_sample_5 (by decide) ?_
  refine lv_icmp_gt (tgt := 39) hx hb dX7_sample_6 (by decide) (fun c_6 => absurd c_6 ((fun h => absurd ((nI_ltI (a := 2) (by decide) (by omega)).mp h) (by omega)))) (fun _ => ?_)
  refine lv_iload_n hx hb dX7_sample_9 rfl (lv_at hl 2 rfl) ?_
  refine lv_if_lt (tgt := 39) hx hb dX7_sample_10 (by decide) (fun c_10 => ?_) (fun c_10 => ?_)
  · refine lv_iconst (v := 0) hx hb dX7_sample_39 (by decide) ?_
    refine xrwi (z := the x y p9 W H) (by unfold the; rw [if_pos c_10]) ?_
    exact join_40   _ _ _ hP hD hS (lv_sub hl [0, 1, 2, 3] rfl)
  · refine lv_iload_n hx hb dX7_sample_13 rfl (lv_at hl 3 rfl) ?_
    refine lv_if_lt (tgt := 39) hx hb dX7_sample_14 (by decide) (fun c_14 => ?_) (fun c_14 => ?_)
    · refine lv_iconst (v := 0) hx hb dX7_sample_39 (by decide) ?_
      refine xrwi (z := the x y p9 W H) (by unfold the; rw [if_neg c_10, if_pos c_14]) ?_
      exact join_40   _ _ _ hP hD hS (lv_sub hl [0, 1, 2, 3] rfl)
    · refine lv_iload_n hx hb dX7_sample_17 rfl (lv_at hl 2 rfl) ?_
      refine lv_aload_n hx hb dX7_sample_18 rfl (lv_at hl 0 rfl) ?_
      refine lv_iload_n hx hb dX7_sample_19 rfl (lv_at hl 1 rfl) ?_
      refine xV (rest := [.int x]) (As := [.int (nI p9)]) (ws1 := [(o, .inr (7, mdF th W H mt qu zz nw ol ne se ke nc ns is ik dc sc kd md wh fa re ve ps ow tl di lv bf bo bd co bt ma))]) (st1 := [.int (nI (wdt p9 W)), .int x]) hF (c_X7_wideOf l D cs tt o mt qu zz nw ol ne se ke re ve ps di lv bd co bt ma W H md th nc ns is ik dc sc kd wh fa ow tl bf bo p9 hp) gX7_sample_X7_wideOf rfl (n := 1) (by decide +kernel) rfl ⟨⟨rfl, rfl⟩, Nat.le_of_ble_eq_true rfl, Nat.le_of_ble_eq_true rfl⟩ ⟨Nat.le_of_ble_eq_true rfl, Nat.le_of_ble_eq_true rfl⟩ hX hP hD hS [0] (by decide) rfl [o] rfl rfl (q0 := 0) (ci := 7) rfl rfl rfl hl.1 rfl (Nat.le_of_ble_eq_true rfl) dX7_sample_20 rfl rfl (fun Hp locs hP hD hS => ?_)
      refine lv_icmp_ge (tgt := 39) hx hb dX7_sample_23 (by decide) (fun c_23 => ?_) (fun c_23 => ?_)
      · refine lv_iconst (v := 0) hx hb dX7_sample_39 (by decide) ?_
        refine xrwi (z := the x y p9 W H) (by unfold the; rw [if_neg c_10, if_neg c_14, if_pos c_23]) ?_
        exact join_40   _ _ _ hP hD hS (lv_sub hl [0, 1, 2, 3] rfl)
      · refine lv_iload_n hx hb dX7_sample_26 rfl (lv_at hl 3 rfl) ?_
        refine lv_aload_n hx hb dX7_sample_27 rfl (lv_at hl 0 rfl) ?_
        refine lv_iload_n hx hb dX7_sample_28 rfl (lv_at hl 1 rfl) ?_
        refine xV (rest := [.int y]) (As := [.int (nI p9)]) (ws1 := [(o, .inr (7, mdF th W H mt qu zz nw ol ne se ke nc ns is ik dc sc kd md wh fa re ve ps ow tl di lv bf bo bd co bt ma))]) (st1 := [.int (nI (wdt p9 H)), .int y]) hF (c_X7_highOf l D cs tt o mt qu zz nw ol ne se ke re ve ps di lv bd co bt ma W H md th nc ns is ik dc sc kd wh fa ow tl bf bo p9 hp) gX7_sample_X7_highOf rfl (n := 1) (by decide +kernel) rfl ⟨⟨rfl, rfl⟩, Nat.le_of_ble_eq_true rfl, Nat.le_of_ble_eq_true rfl⟩ ⟨Nat.le_of_ble_eq_true rfl, Nat.le_of_ble_eq_true rfl⟩ hX hP hD hS [0] (by decide) rfl [o] rfl rfl (q0 := 0) (ci := 7) rfl rfl rfl hl.1 rfl (Nat.le_of_ble_eq_true rfl) dX7_sample_29 rfl rfl (fun Hp locs hP hD hS => ?_)
        refine lv_icmp_ge (tgt := 39) hx hb dX7_sample_32 (by decide) (fun c_32 => ?_) (fun c_32 => ?_)
        · refine lv_iconst (v := 0) hx hb dX7_sample_39 (by decide) ?_
          refine xrwi (z := the x y p9 W H) (by unfold the; rw [if_neg c_10, if_neg c_14, if_neg c_23, if_pos c_32]) ?_
          exact join_40   _ _ _ hP hD hS (lv_sub hl [0, 1, 2, 3] rfl)
        · refine lv_iconst (v := 1) hx hb dX7_sample_35 (by decide) ?_
          refine lv_goto (tgt := 40) hx hb dX7_sample_36 (by decide) ?_
          refine xrwi (z := the x y p9 W H) (by unfold the; rw [if_neg c_10, if_neg c_14, if_neg c_23, if_neg c_32]) ?_
          exact join_40   _ _ _ hP hD hS (lv_sub hl [0, 1, 2, 3] rfl)

set_option maxHeartbeats 4000000 in
set_option maxRecDepth 100000 in
theorem c_X7_sample_ok (l : Launch) (D : va_G) (cs : Nat → ClassId) (tt : Nat → Nat) (o mt qu zz nw ol ne se ke re ve ps di lv bd co bt ma W H md : Nat) (th nc ns ik dc sc kd wh fa ow tl bf bo : Int32) (p9 x9 y9 : Nat) (gs : Nat → Int32) (hp : p9 < 3) (hw : 1 ≤ W) (hw4 : W ≤ 4) (hh : 1 ≤ H) (hh3 : H ≤ 3) (hx9 : x9 < wdt p9 W) (hy9 : y9 < wdt p9 H) : xM l yX7_sample wsX7_sample ({ frames := 1, cells := 0, slots := 0, locals := 22 } : Room) D cs tt [.ref o, .int (nI p9), .int (nI x9), .int (nI y9)] [(o, .inr (7, mdF th W H mt qu zz nw ol ne se ke nc ns 1 ik dc sc kd md wh fa re ve ps ow tl di lv bf bo bd co bt ma)), (se, .inl (cs 0, 4608, .inl gs))] (some (.int (gs (plc p9 x9 y9)))) [(o, .inr (7, mdF 0 W H mt qu zz nw ol ne se ke nc ns 1 ik dc sc kd md wh fa re ve ps ow tl di lv bf bo bd co bt ma)), (se, .inl (cs 0, 4608, .inl gs))] := by
  refine xM.of RX7 rfl (by decide) rfl (Nat.le_of_ble_eq_true rfl) ?_
  intro p e s m below meth c A ls hF hr hlk hX hP hD hS hl
  have hx := hF.1
  have hb := hF.2.1
  have hl : lv_has ls 5 [(0, .ref o), (1, .int (nI p9)), (2, .int (nI x9)), (3, .int (nI y9))] := hl
  have hW64 := wdt_le (p := p9) hw4
  have hH64 := wdt_le (p := p9) (show H ≤ 4 by omega)
  have hpl := plc_lt hp hw4 hh3 hx9 hy9
  refine lv_iload_n hx hb dX7_sample_0 rfl (lv_at hl 1 rfl) ?_
  refine lv_if_lt (tgt := 39) hx hb dX7_sample_1 (by decide) (fun c_1 => absurd c_1 (nI_pos (by omega))) (fun _ => ?_)
  refine lv_iload_n hx hb dX7_sample_4 rfl (lv_at hl 1 rfl) ?_
  refine lv_iconst (v := 2) hx hb dX7_sample_5 (by decide) ?_
  refine lv_icmp_gt (tgt := 39) hx hb dX7_sample_6 (by decide) (fun c_6 => absurd c_6 ((fun h => absurd ((nI_ltI (a := 2) (by decide) (by omega)).mp h) (by omega)))) (fun _ => ?_)
  refine lv_iload_n hx hb dX7_sample_9 rfl (lv_at hl 2 rfl) ?_
  refine lv_if_lt (tgt := 39) hx hb dX7_sample_10 (by decide) (fun c_10 => absurd c_10 (nI_pos (by omega))) (fun _ => ?_)
  refine lv_iload_n hx hb dX7_sample_13 rfl (lv_at hl 3 rfl) ?_
  refine lv_if_lt (tgt := 39) hx hb dX7_sample_14 (by decide) (fun c_14 => absurd c_14 (nI_pos (by omega))) (fun _ => ?_)
  refine lv_iload_n hx hb dX7_sample_17 rfl (lv_at hl 2 rfl) ?_
  refine lv_aload_n hx hb dX7_sample_18 rfl (lv_at hl 0 rfl) ?_
  refine lv_iload_n hx hb dX7_sample_19 rfl (lv_at hl 1 rfl) ?_
  refine xV (rest := [.int (nI x9)]) (As := [.int (nI p9)]) (ws1 := [(o, .inr (7, mdF th W H mt qu zz nw ol ne se ke nc ns 1 ik dc sc kd md wh fa re ve ps ow tl di lv bf bo bd co bt ma)), (se, .inl (cs 0, 4608, .inl gs))]) (st1 := [.int (nI (wdt p9 W)), .int (nI x9)]) hF (c_X7_wideOf l D cs tt o mt qu zz nw ol ne se ke re ve ps di lv bd co bt ma W H md th nc ns 1 ik dc sc kd wh fa ow tl bf bo p9 hp) gX7_sample_X7_wideOf rfl (n := 1) (by decide +kernel) rfl ⟨⟨rfl, rfl⟩, Nat.le_of_ble_eq_true rfl, Nat.le_of_ble_eq_true rfl⟩ ⟨Nat.le_of_ble_eq_true rfl, Nat.le_of_ble_eq_true rfl⟩ hX hP hD hS [0] (by decide) rfl [o] rfl rfl (q0 := 0) (ci := 7) rfl rfl rfl hl.1 rfl (Nat.le_of_ble_eq_true rfl) dX7_sample_20 rfl rfl (fun Hp locs hP hD hS => ?_)
  refine lv_icmp_ge (tgt := 39) hx hb dX7_sample_23 (by decide) (fun c_23 => absurd c_23 ((fun h => absurd ((nI_leI (by omega) (by omega)).mp h) (by omega)))) (fun _ => ?_)
  refine lv_iload_n hx hb dX7_sample_26 rfl (lv_at hl 3 rfl) ?_
  refine lv_aload_n hx hb dX7_sample_27 rfl (lv_at hl 0 rfl) ?_
  refine lv_iload_n hx hb dX7_sample_28 rfl (lv_at hl 1 rfl) ?_
  refine xV (rest := [.int (nI y9)]) (As := [.int (nI p9)]) (ws1 := [(o, .inr (7, mdF th W H mt qu zz nw ol ne se ke nc ns 1 ik dc sc kd md wh fa re ve ps ow tl di lv bf bo bd co bt ma)), (se, .inl (cs 0, 4608, .inl gs))]) (st1 := [.int (nI (wdt p9 H)), .int (nI y9)]) hF (c_X7_highOf l D cs tt o mt qu zz nw ol ne se ke re ve ps di lv bd co bt ma W H md th nc ns 1 ik dc sc kd wh fa ow tl bf bo p9 hp) gX7_sample_X7_highOf rfl (n := 1) (by decide +kernel) rfl ⟨⟨rfl, rfl⟩, Nat.le_of_ble_eq_true rfl, Nat.le_of_ble_eq_true rfl⟩ ⟨Nat.le_of_ble_eq_true rfl, Nat.le_of_ble_eq_true rfl⟩ hX hP hD hS [0] (by decide) rfl [o] rfl rfl (q0 := 0) (ci := 7) rfl rfl rfl hl.1 rfl (Nat.le_of_ble_eq_true rfl) dX7_sample_29 rfl rfl (fun Hp locs hP hD hS => ?_)
  refine lv_icmp_ge (tgt := 39) hx hb dX7_sample_32 (by decide) (fun c_32 => absurd c_32 ((fun h => absurd ((nI_leI (by omega) (by omega)).mp h) (by omega)))) (fun _ => ?_)
  refine lv_iconst (v := 1) hx hb dX7_sample_35 (by decide) ?_
  refine lv_goto (tgt := 40) hx hb dX7_sample_36 (by decide) ?_
  refine lv_istore (lv' := [(4, .int 1), (0, .ref o), (1, .int (nI p9)), (2, .int (nI x9)), (3, .int (nI y9))]) hx hb dX7_sample_40 hl (by decide) rfl (fun ls hl => ?_)
  refine lv_aload_n hx hb dX7_sample_42 rfl (lv_at hl 1 rfl) ?_
  refine lv_aload_n hx hb dX7_sample_43 rfl (lv_at hl 1 rfl) ?_
  refine xget (C := RX7) (T := TX7) (N := 34) hF hX hP (by decide +kernel) 0 13 rfl rfl (by decide) (by decide +kernel) rfl dX7_sample_44 ?_
  refine lv_if_ne (tgt := 54) hx hb dX7_sample_47 (by decide) (fun _ => ?_) (fun c_47 => absurd c_47 (by decide))
  refine lv_iload hx hb dX7_sample_54 (lv_at hl 0 rfl) ?_
  refine lv_if_ne (tgt := 63) hx hb dX7_sample_56 (by decide) (fun _ => ?_) (fun c_56 => absurd c_56 (by decide))
  refine lv_iconst (v := 0) hx hb dX7_sample_63 (by decide) ?_
  refine xputf (C := RX7) (T := TX7) (N := 34) (ws1 := [(o, .inr (7, mdF 0 W H mt qu zz nw ol ne se ke nc ns 1 ik dc sc kd md wh fa re ve ps ow tl di lv bf bo bd co bt ma)), (se, .inl (cs 0, 4608, .inl gs))]) hF hX hP hD hS (by decide +kernel) tyX7 tyX7_ok nmX7 0 0 rfl rfl (by decide) (by decide +kernel) rfl (rfl) (rfl) (Nat.le_of_ble_eq_true rfl) dX7_sample_64 rfl (fun Hp locs hP hD hS => ?_)
  refine lv_aload_n hx hb dX7_sample_67 rfl (lv_at hl 1 rfl) ?_
  refine xget (C := RX7) (T := TX7) (N := 34) hF hX hP (by decide +kernel) 0 0 rfl rfl (by decide) (by decide +kernel) rfl dX7_sample_68 ?_
  refine lv_if_le (tgt := 78) hx hb dX7_sample_71 (by decide) (fun _ => ?_) (fun c_71 => absurd (by decide) c_71)
  refine lv_aload_n hx hb dX7_sample_78 rfl (lv_at hl 1 rfl) ?_
  refine xget (C := RX7) (T := TX7) (N := 34) hF hX hP (by decide +kernel) 0 9 rfl rfl (by decide) (by decide +kernel) rfl dX7_sample_79 ?_
  refine lv_iload_n hx hb dX7_sample_82 rfl (lv_at hl 2 rfl) ?_
  refine lv_iload_n hx hb dX7_sample_83 rfl (lv_at hl 3 rfl) ?_
  refine lv_iload_n hx hb dX7_sample_84 rfl (lv_at hl 4 rfl) ?_
  refine xSt (rest := [.ref se]) (As := [.int (nI p9), .int (nI x9), .int (nI y9)]) (ws1 := [(o, .inr (7, mdF 0 W H mt qu zz nw ol ne se ke nc ns 1 ik dc sc kd md wh fa re ve ps ow tl di lv bf bo bd co bt ma)), (se, .inl (cs 0, 4608, .inl gs))]) (st1 := [.int (nI (plc p9 x9 y9)), .ref se]) hF (c_X7_place l D cs tt p9 x9 y9 hp) gX7_sample_X7_place rfl (n := 3) (by decide +kernel) rfl ⟨⟨rfl, rfl⟩, Nat.le_of_ble_eq_true rfl, Nat.le_of_ble_eq_true rfl⟩ ⟨Nat.le_of_ble_eq_true rfl, Nat.le_of_ble_eq_true rfl⟩ hX hP hD hS [] (by decide) rfl [] rfl rfl hl.1 rfl (Nat.le_of_ble_eq_true rfl) dX7_sample_85 rfl rfl (fun Hp locs hP hD hS => ?_)
  refine xald (k := plc p9 x9 y9) hF hX hP 1 rfl (nI_clamp (by omega)) (vp_in_nI (hpl) (by decide)) dX7_sample_88 ?_
  exact xri (Q9 := fun _ _ _ _ => True) hF hr hlk hP hD hS dX7_sample_89
