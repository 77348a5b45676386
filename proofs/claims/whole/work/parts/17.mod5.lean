
/-! ===== the reference: public methods, what they throw ===== -/
def tSize (w h : Int32) : Int32 := if w < 1 then 1 else if 4 < w then 1 else if h < 1 then 1 else if h ≤ 3 then 0 else 1
def tMatrix (a i v : Int32) : Int32 := if a < 0 then 1 else if 1 < a then 1 else if i < 0 then 1 else if 63 < i then 1 else if v < 1 then 1 else if v ≤ 255 then 0 else 1
def tBegin (kd k f b : Int32) : Int32 := if k < 1 then 1 else if 3 < k then 1 else if f < 1 then 1 else if 16 < f then 1 else if b < 1 then 1 else if b ≤ 16 then (if kd ≤ 0 then 0 else 2) else 1
def tScale (kd q : Int32) : Int32 := if q < 1 then 1 else if q ≤ 31 then (if kd = 0 then 2 else 0) else 1
def tItself (fu d0 d1 : Int32) : Int32 := if fu = 0 then (if d0 = 0 then (if d1 = 0 then 0 else 1) else 1) else 1
def tLevel (fu b i v : Int32) : Int32 := if b < 0 then 1 else if 5 < b then 1 else if i < 0 then 1 else if 63 < i then 1 else if v < (-255) then 1 else if v ≤ 255 then (if fu = 0 then 0 else 2) else 1
def tDone (kd : Int32) (W H md : Nat) : Int32 := if kd = 0 then 1 else if nI W * nI H ≤ nI md then 0 else 1
def tLast (kd : Int32) : Int32 := if kd ≤ 0 then 0 else 1
def tKeep (is : Int32) : Int32 := if is = 0 then 1 else 0
def tTold (w : Int32) : Int32 := if w < 0 then 1 else if w ≤ 10 then 0 else 1
theorem mtx_f (M : Nat → Int32) (i : Nat) : upd (ovr M (upd (fun _ => 16) 0 8) i) i (upd (fun _ => 16) 0 8 i) = ovr M (upd (fun _ => 16) 0 8) (i + 1) := ovr_s M _ i rfl

theorem two1 {Re : Nat → Int32} : ∀ j, j < 2 → upd (upd Re 0 1) 1 1 j = 1 := by
  intro j hj
  have : j = 0 ∨ j = 1 := by omega
  rcases this with rfl | rfl <;> simp [upd]

set_option maxHeartbeats 4000000 in
set_option maxRecDepth 100000 in
theorem c_X7_size_bad (l : Launch) (D : va_G) (cs : Nat → ClassId) (tt : Nat → Nat) (o mt qu zz nw ol ne se ke re ve ps di lv bd co bt ma W H md : Nat) (th nc ns is ik dc sc kd wh fa ow tl bf bo : Int32) (wd hg : Int32) (ht : (tSize wd hg) = 1 ∨ (tSize wd hg) = 2) : xM l yX7_size wsX7_size ({ frames := 0, cells := 0, slots := 0, locals := 0 } : Room) D cs tt [.ref o, .int wd, .int hg] [(o, .inr (7, mdF th W H mt qu zz nw ol ne se ke nc ns is ik dc sc kd md wh fa re ve ps ow tl di lv bf bo bd co bt ma))] none [(o, .inr (7, mdF (tSize wd hg) W H mt qu zz nw ol ne se ke nc ns is ik dc sc kd md wh fa re ve ps ow tl di lv bf bo bd co bt ma))] := by
  refine xM.of RX7 rfl (by decide) rfl (Nat.le_of_ble_eq_true rfl) ?_
  intro p e s m below meth c A ls hF hr hlk hX hP hD hS hl
  have hx := hF.1
  have hb := hF.2.1
  have hl : lv_has ls 4 [(0, .ref o), (1, .int wd), (2, .int hg)] := hl
  have join_26 : ∀ (Hp : Heap) (locs : List Loc) (ls : Array Slot), va_P D vwCl [(o, .inr (7, mdF th W H mt qu zz nw ol ne se ke nc ns is ik dc sc kd md wh fa re ve ps ow tl di lv bf bo bd co bt ma))] Hp → va_D A [(o, .inr (7, mdF th W H mt qu zz nw ol ne se ke nc ns is ik dc sc kd md wh fa re ve ps ow tl di lv bf bo bd co bt ma))] → va_S A s.heap Hp locs → lv_has ls 4 [(0, .ref o), (1, .int wd), (2, .int hg)] → xW p l e ({ frames := 0, cells := 0, slots := 0, locals := 0 } : Room) s m ([.ref o, .int wd, .int hg] : List Value).toArray below meth c Hp locs 0 0 (MQ below (xE D A none [(o, .inr (7, mdF (tSize wd hg) W H mt qu zz nw ol ne se ke nc ns is ik dc sc kd md wh fa re ve ps ow tl di lv bf bo bd co bt ma))]) ([.ref o, .int wd, .int hg] : List Value).toArray s 0 0 A) (F0 m 26 ls [.int (tSize wd hg), .ref o]) := by
    intro Hp locs ls hP hD hS hl
    refine xputf (C := RX7) (T := TX7) (N := 34) (ws1 := [(o, .inr (7, mdF (tSize wd hg) W H mt qu zz nw ol ne se ke nc ns is ik dc sc kd md wh fa re ve ps ow tl di lv bf bo bd co bt ma))]) hF hX hP hD hS (by decide +kernel) tyX7 tyX7_ok nmX7 0 0 rfl rfl (by decide) (by decide +kernel) rfl (rfl) (rfl) (Nat.le_of_ble_eq_true rfl) dX7_size_26 rfl (fun Hp locs hP hD hS => ?_)
    refine lv_aload_n hx hb dX7_size_29 rfl (lv_at hl 0 rfl) ?_
    refine xget (C := RX7) (T := TX7) (N := 34) hF hX hP (by decide +kernel) 0 0 rfl rfl (by decide) (by decide +kernel) rfl dX7_size_30 ?_
    refine lv_if_le (tgt := 37) hx hb dX7_size_33 (by decide) (fun c_33 => absurd c_33 (by rcases ht with h9 | h9 <;> rw [h9] <;> decide)) (fun _ => ?_)
    exact xrv hF hr hlk hP hD hS dX7_size_36
  refine lv_aload_n hx hb dX7_size_0 rfl (lv_at hl 0 rfl) ?_
  refine lv_iload_n hx hb dX7_size_1 rfl (lv_at hl 1 rfl) ?_
  refine lv_iconst (v := 1) hx hb dX7_size_2 (by decide) ?_
  refine lv_icmp_lt (tgt := 21) hx hb dX7_size_3 (by decide) (fun c_3 => ?_) (fun c_3 => ?_)
  · refine lv_iconst (v := 1) hx hb dX7_size_21 (by decide) ?_
    refine lv_goto (tgt := 26) hx hb dX7_size_22 (by decide) ?_
    refine xrwi (z := (tSize wd hg)) (by simp [tSize, c_3]) ?_
    exact join_26   _ _ _ hP hD hS (lv_sub hl [0, 1, 2] rfl)
  · refine lv_iload_n hx hb dX7_size_6 rfl (lv_at hl 1 rfl) ?_
    refine lv_iconst (v := 4) hx hb dX7_size_7 (by decide) ?_
    refine lv_icmp_gt (tgt := 21) hx hb dX7_size_8 (by decide) (fun c_8 => ?_) (fun c_8 => ?_)
    · refine lv_iconst (v := 1) hx hb dX7_size_21 (by decide) ?_
      refine lv_goto (tgt := 26) hx hb dX7_size_22 (by decide) ?_
      refine xrwi (z := (tSize wd hg)) (by simp [tSize, c_3, c_8]) ?_
      exact join_26   _ _ _ hP hD hS (lv_sub hl [0, 1, 2] rfl)
    · refine lv_iload_n hx hb dX7_size_11 rfl (lv_at hl 2 rfl) ?_
      refine lv_iconst (v := 1) hx hb dX7_size_12 (by decide) ?_
      refine lv_icmp_lt (tgt := 21) hx hb dX7_size_13 (by decide) (fun c_13 => ?_) (fun c_13 => ?_)
      · refine lv_iconst (v := 1) hx hb dX7_size_21 (by decide) ?_
        refine lv_goto (tgt := 26) hx hb dX7_size_22 (by decide) ?_
        refine xrwi (z := (tSize wd hg)) (by simp [tSize, c_3, c_8, c_13]) ?_
        exact join_26   _ _ _ hP hD hS (lv_sub hl [0, 1, 2] rfl)
      · refine lv_iload_n hx hb dX7_size_16 rfl (lv_at hl 2 rfl) ?_
        refine lv_iconst (v := 3) hx hb dX7_size_17 (by decide) ?_
        refine lv_icmp_le (tgt := 25) hx hb dX7_size_18 (by decide) (fun c_18 => ?_) (fun c_18 => ?_)
        · refine lv_iconst (v := 0) hx hb dX7_size_25 (by decide) ?_
          refine xrwi (z := (tSize wd hg)) (by simp [tSize, c_3, c_8, c_13, c_18]) ?_
          exact join_26   _ _ _ hP hD hS (lv_sub hl [0, 1, 2] rfl)
        · refine lv_iconst (v := 1) hx hb dX7_size_21 (by decide) ?_
          refine lv_goto (tgt := 26) hx hb dX7_size_22 (by decide) ?_
          refine xrwi (z := (tSize wd hg)) (by simp [tSize, c_3, c_8, c_13, c_18]) ?_
          exact join_26   _ _ _ hP hD hS (lv_sub hl [0, 1, 2] rfl)

set_option maxHeartbeats 4000000 in
set_option maxRecDepth 100000 in
theorem c_X7_size_ok (l : Launch) (D : va_G) (cs : Nat → ClassId) (tt : Nat → Nat) (o mt qu zz nw ol ne se ke re ve ps di lv bd co bt ma W H md : Nat) (th nc ns is ik dc sc kd wh fa ow tl bf bo : Int32) (w9 h9 : Nat) (M go gn Re V P Di Lv : Nat → Int32) (ht : (tSize (nI w9) (nI h9)) = 0) : xM l yX7_size wsX7_size ({ frames := 1, cells := 0, slots := 0, locals := 21 } : Room) D cs tt [.ref o, .int (nI w9), .int (nI h9)] [(o, .inr (7, mdF th W H mt qu zz nw ol ne se ke nc ns is ik dc sc kd md wh fa re ve ps ow tl di lv bf bo bd co bt ma)), (mt, .inl (cs 0, 128, .inl M)), (ol, .inl (cs 0, 4608, .inl go)), (ne, .inl (cs 0, 4608, .inl gn)), (re, .inl (cs 0, 2, .inl Re)), (ve, .inl (cs 0, 4, .inl V)), (ps, .inl (cs 0, 3, .inl P)), (di, .inl (cs 1, 2, .inl Di)), (lv, .inl (cs 0, 384, .inl Lv))] none [(o, .inr (7, mdF (tSize (nI w9) (nI h9)) w9 h9 mt qu zz nw ol ne se ke 0 0 0 0 0 0 0 0 wh fa re ve ps 0 0 di lv bf bo bd co bt ma)), (mt, .inl (cs 0, 128, .inl (upd (fun _ => 16) 0 8))), (ol, .inl (cs 0, 4608, .inl (fun _ => 128))), (ne, .inl (cs 0, 4608, .inl (fun _ => 128))), (re, .inl (cs 0, 2, .inl (fun _ => 1))), (ve, .inl (cs 0, 4, .inl (fun _ => 0))), (ps, .inl (cs 0, 3, .inl (fun _ => 1024))), (di, .inl (cs 1, 2, .inl (fun _ => 0))), (lv, .inl (cs 0, 384, .inl (fun _ => 0)))] := by
  refine xM.of RX7 rfl (by decide) rfl (Nat.le_of_ble_eq_true rfl) ?_
  intro p e s m below meth c A ls hF hr hlk hX hP hD hS hl
  have hx := hF.1
  have hb := hF.2.1
  have hl : lv_has ls 4 [(0, .ref o), (1, .int (nI w9)), (2, .int (nI h9))] := hl
  have join_26 : ∀ (Hp : Heap) (locs : List Loc) (ls : Array Slot), va_P D vwCl [(o, .inr (7, mdF th W H mt qu zz nw ol ne se ke nc ns is ik dc sc kd md wh fa re ve ps ow tl di lv bf bo bd co bt ma)), (mt, .inl (cs 0, 128, .inl M)), (ol, .inl (cs 0, 4608, .inl go)), (ne, .inl (cs 0, 4608, .inl gn)), (re, .inl (cs 0, 2, .inl Re)), (ve, .inl (cs 0, 4, .inl V)), (ps, .inl (cs 0, 3, .inl P)), (di, .inl (cs 1, 2, .inl Di)), (lv, .inl (cs 0, 384, .inl Lv))] Hp → va_D A [(o, .inr (7, mdF th W H mt qu zz nw ol ne se ke nc ns is ik dc sc kd md wh fa re ve ps ow tl di lv bf bo bd co bt ma)), (mt, .inl (cs 0, 128, .inl M)), (ol, .inl (cs 0, 4608, .inl go)), (ne, .inl (cs 0, 4608, .inl gn)), (re, .inl (cs 0, 2, .inl Re)), (ve, .inl (cs 0, 4, .inl V)), (ps, .inl (cs 0, 3, .inl P)), (di, .inl (cs 1, 2, .inl Di)), (lv, .inl (cs 0, 384, .inl Lv))] → va_S A s.heap Hp locs → lv_has ls 4 [(0, .ref o), (1, .int (nI w9)), (2, .int (nI h9))] → xW p l e ({ frames := 1, cells := 0, slots := 0, locals := 21 } : Room) s m ([.ref o, .int (nI w9), .int (nI h9)] : List Value).toArray below meth c Hp locs 0 0 (MQ below (xE D A none [(o, .inr (7, mdF (tSize (nI w9) (nI h9)) w9 h9 mt qu zz nw ol ne se ke 0 0 0 0 0 0 0 0 wh fa re ve ps 0 0 di lv bf bo bd co bt ma)), (mt, .inl (cs 0, 128, .inl (upd (fun _ => 16) 0 8))), (ol, .inl (cs 0, 4608, .inl (fun _ => 128))), (ne, .inl (cs 0, 4608, .inl (fun _ => 128))), (re, .inl (cs 0, 2, .inl (fun _ => 1))), (ve, .inl (cs 0, 4, .inl (fun _ => 0))), (ps, .inl (cs 0, 3, .inl (fun _ => 1024))), (di, .inl (cs 1, 2, .inl (fun _ => 0))), (lv, .inl (cs 0, 384, .inl (fun _ => 0)))]) ([.ref o, .int (nI w9), .int (nI h9)] : List Value).toArray s 0 0 A) (F0 m 26 ls [.int (tSize (nI w9) (nI h9)), .ref o]) := by
    intro Hp locs ls hP hD hS hl
    refine xputf (C := RX7) (T := TX7) (N := 34) (ws1 := [(o, .inr (7, mdF (tSize (nI w9) (nI h9)) W H mt qu zz nw ol ne se ke nc ns is ik dc sc kd md wh fa re ve ps ow tl di lv bf bo bd co bt ma)), (mt, .inl (cs 0, 128, .inl M)), (ol, .inl (cs 0, 4608, .inl go)), (ne, .inl (cs 0, 4608, .inl gn)), (re, .inl (cs 0, 2, .inl Re)), (ve, .inl (cs 0, 4, .inl V)), (ps, .inl (cs 0, 3, .inl P)), (di, .inl (cs 1, 2, .inl Di)), (lv, .inl (cs 0, 384, .inl Lv))]) hF hX hP hD hS (by decide +kernel) tyX7 tyX7_ok nmX7 0 0 rfl rfl (by decide) (by decide +kernel) rfl (rfl) (rfl) (Nat.le_of_ble_eq_true rfl) dX7_size_26 rfl (fun Hp locs hP hD hS => ?_)
    refine lv_aload_n hx hb dX7_size_29 rfl (lv_at hl 0 rfl) ?_
    refine xget (C := RX7) (T := TX7) (N := 34) hF hX hP (by decide +kernel) 0 0 rfl rfl (by decide) (by decide +kernel) rfl dX7_size_30 ?_
    refine lv_if_le (tgt := 37) hx hb dX7_size_33 (by decide) (fun _ => ?_) (fun c_33 => absurd (by rw [ht]; decide) c_33)
    refine lv_aload_n hx hb dX7_size_37 rfl (lv_at hl 0 rfl) ?_
    refine lv_iload_n hx hb dX7_size_38 rfl (lv_at hl 1 rfl) ?_
    refine xputf (C := RX7) (T := TX7) (N := 34) (ws1 := [(o, .inr (7, mdF (tSize (nI w9) (nI h9)) w9 H mt qu zz nw ol ne se ke nc ns is ik dc sc kd md wh fa re ve ps ow tl di lv bf bo bd co bt ma)), (mt, .inl (cs 0, 128, .inl M)), (ol, .inl (cs 0, 4608, .inl go)), (ne, .inl (cs 0, 4608, .inl gn)), (re, .inl (cs 0, 2, .inl Re)), (ve, .inl (cs 0, 4, .inl V)), (ps, .inl (cs 0, 3, .inl P)), (di, .inl (cs 1, 2, .inl Di)), (lv, .inl (cs 0, 384, .inl Lv))]) hF hX hP hD hS (by decide +kernel) tyX7 tyX7_ok nmX7 0 1 rfl rfl (by decide) (by decide +kernel) rfl (rfl) (rfl) (Nat.le_of_ble_eq_true rfl) dX7_size_39 rfl (fun Hp locs hP hD hS => ?_)
    refine lv_aload_n hx hb dX7_size_42 rfl (lv_at hl 0 rfl) ?_
    refine lv_iload_n hx hb dX7_size_43 rfl (lv_at hl 2 rfl) ?_
    refine xputf (C := RX7) (T := TX7) (N := 34) (ws1 := [(o, .inr (7, mdF (tSize (nI w9) (nI h9)) w9 h9 mt qu zz nw ol ne se ke nc ns is ik dc sc kd md wh fa re ve ps ow tl di lv bf bo bd co bt ma)), (mt, .inl (cs 0, 128, .inl M)), (ol, .inl (cs 0, 4608, .inl go)), (ne, .inl (cs 0, 4608, .inl gn)), (re, .inl (cs 0, 2, .inl Re)), (ve, .inl (cs 0, 4, .inl V)), (ps, .inl (cs 0, 3, .inl P)), (di, .inl (cs 1, 2, .inl Di)), (lv, .inl (cs 0, 384, .inl Lv))]) hF hX hP hD hS (by decide +kernel) tyX7 tyX7_ok nmX7 0 2 rfl rfl (by decide) (by decide +kernel) rfl (rfl) (rfl) (Nat.le_of_ble_eq_true rfl) dX7_size_44 rfl (fun Hp locs hP hD hS => ?_)
    refine lv_iconst (v := 0) hx hb dX7_size_47 (by decide) ?_
    refine lv_istore_n (lv' := [(3, .int 0), (0, .ref o), (1, .int (nI w9)), (2, .int (nI h9))]) hx hb dX7_size_48 rfl hl (by decide) rfl (fun ls hl => ?_)
    have loop_49 : ∀ (k49 : Nat) (i : Nat), 128 - i < k49 → i ≤ 128 → ∀ (Hp : Heap) (locs : List Loc) (ls : Array Slot), va_P D vwCl [(o, .inr (7, mdF (tSize (nI w9) (nI h9)) w9 h9 mt qu zz nw ol ne se ke nc ns is ik dc sc kd md wh fa re ve ps ow tl di lv bf bo bd co bt ma)), (mt, .inl (cs 0, 128, .inl (ovr M (upd (fun _ => 16) 0 8) i))), (ol, .inl (cs 0, 4608, .inl go)), (ne, .inl (cs 0, 4608, .inl gn)), (re, .inl (cs 0, 2, .inl Re)), (ve, .inl (cs 0, 4, .inl V)), (ps, .inl (cs 0, 3, .inl P)), (di, .inl (cs 1, 2, .inl Di)), (lv, .inl (cs 0, 384, .inl Lv))] Hp → va_D A [(o, .inr (7, mdF (tSize (nI w9) (nI h9)) w9 h9 mt qu zz nw ol ne se ke nc ns is ik dc sc kd md wh fa re ve ps ow tl di lv bf bo bd co bt ma)), (mt, .inl (cs 0, 128, .inl (ovr M (upd (fun _ => 16) 0 8) i))), (ol, .inl (cs 0, 4608, .inl go)), (ne, .inl (cs 0, 4608, .inl gn)), (re, .inl (cs 0, 2, .inl Re)), (ve, .inl (cs 0, 4, .inl V)), (ps, .inl (cs 0, 3, .inl P)), (di, .inl (cs 1, 2, .inl Di)), (lv, .inl (cs 0, 384, .inl Lv))] → va_S A s.heap Hp locs → lv_has ls 4 [(0, .ref o), (3, .int (nI i))] → xW p l e ({ frames := 1, cells := 0, slots := 0, locals := 21 } : Room) s m ([.ref o, .int (nI w9), .int (nI h9)] : List Value).toArray below meth c Hp locs 0 0 (MQ below (xE D A none [(o, .inr (7, mdF (tSize (nI w9) (nI h9)) w9 h9 mt qu zz nw ol ne se ke 0 0 0 0 0 0 0 0 wh fa re ve ps 0 0 di lv bf bo bd co bt ma)), (mt, .inl (cs 0, 128, .inl (upd (fun _ => 16) 0 8))), (ol, .inl (cs 0, 4608, .inl (fun _ => 128))), (ne, .inl (cs 0, 4608, .inl (fun _ => 128))), (re, .inl (cs 0, 2, .inl (fun _ => 1))), (ve, .inl (cs 0, 4, .inl (fun _ => 0))), (ps, .inl (cs 0, 3, .inl (fun _ => 1024))), (di, .inl (cs 1, 2, .inl (fun _ => 0))), (lv, .inl (cs 0, 384, .inl (fun _ => 0)))]) ([.ref o, .int (nI w9), .int (nI h9)] : List Value).toArray s 0 0 A) (F0 m 49 ls []) := by
      intro k49
      induction k49 with
      | zero => intro i h9; omega
      | succ k49 ih_49 =>
        intro i hk49 hi Hp locs ls hP hD hS hl
        refine lv_iload_n hx hb dX7_size_49 rfl (lv_at hl 1 rfl) ?_
        refine lv_sipush (v := 128) hx hb dX7_size_50 (by decide) ?_
        refine lv_icmp_ge (tgt := 79) hx hb dX7_size_53 (by decide) (fun c_53 => ?_) (fun c_53 => ?_)
        · have e9 : i = 128 := by have := nIle (a := 128) (b := i) rfl rfl (by decide) (by omega) c_53; omega
          have hP1 : va_P D vwCl [(o, .inr (7, mdF (tSize (nI w9) (nI h9)) w9 h9 mt qu zz nw ol ne se ke nc ns is ik dc sc kd md wh fa re ve ps ow tl di lv bf bo bd co bt ma)), (mt, .inl (cs 0, 128, .inl (upd (fun _ => 16) 0 8))), (ol, .inl (cs 0, 4608, .inl go)), (ne, .inl (cs 0, 4608, .inl gn)), (re, .inl (cs 0, 2, .inl Re)), (ve, .inl (cs 0, 4, .inl V)), (ps, .inl (cs 0, 3, .inl P)), (di, .inl (cs 1, 2, .inl Di)), (lv, .inl (cs 0, 384, .inl Lv))] Hp := xcongP (g := (upd (fun _ => 16) 0 8)) hP 1 rfl hD (fun j hj => by unfold ovr; rw [e9, if_pos hj])
          have hD : va_D A [(o, .inr (7, mdF (tSize (nI w9) (nI h9)) w9 h9 mt qu zz nw ol ne se ke nc ns is ik dc sc kd md wh fa re ve ps ow tl di lv bf bo bd co bt ma)), (mt, .inl (cs 0, 128, .inl (upd (fun _ => 16) 0 8))), (ol, .inl (cs 0, 4608, .inl go)), (ne, .inl (cs 0, 4608, .inl gn)), (re, .inl (cs 0, 2, .inl Re)), (ve, .inl (cs 0, 4, .inl V)), (ps, .inl (cs 0, 3, .inl P)), (di, .inl (cs 1, 2, .inl Di)), (lv, .inl (cs 0, 384, .inl Lv))] := xcongD (g := (upd (fun _ => 16) 0 8)) 1 rfl hD
          have hP := hP1
          refine lv_iconst (v := 0) hx hb dX7_size_79 (by decide) ?_
          refine lv_istore_n (lv' := [(3, .int 0), (0, .ref o)]) hx hb dX7_size_80 rfl hl (by decide) rfl (fun ls hl => ?_)
          have loop_81 : ∀ (k81 : Nat) (i2 : Nat), 4608 - i2 < k81 → i2 ≤ 4608 → ∀ (Hp : Heap) (locs : List Loc) (ls : Array Slot), va_P D vwCl [(o, .inr (7, mdF (tSize (nI w9) (nI h9)) w9 h9 mt qu zz nw ol ne se ke nc ns is ik dc sc kd md wh fa re ve ps ow tl di lv bf bo bd co bt ma)), (mt, .inl (cs 0, 128, .inl (upd (fun _ => 16) 0 8))), (ol, .inl (cs 0, 4608, .inl (filTo go 128 i2))), (ne, .inl (cs 0, 4608, .inl (filTo gn 128 i2))), (re, .inl (cs 0, 2, .inl Re)), (ve, .inl (cs 0, 4, .inl V)), (ps, .inl (cs 0, 3, .inl P)), (di, .inl (cs 1, 2, .inl Di)), (lv, .inl (cs 0, 384, .inl Lv))] Hp → va_D A [(o, .inr (7, mdF (tSize (nI w9) (nI h9)) w9 h9 mt qu zz nw ol ne se ke nc ns is ik dc sc kd md wh fa re ve ps ow tl di lv bf bo bd co bt ma)), (mt, .inl (cs 0, 128, .inl (upd (fun _ => 16) 0 8))), (ol, .inl (cs 0, 4608, .inl (filTo go 128 i2))), (ne, .inl (cs 0, 4608, .inl (filTo gn 128 i2))), (re, .inl (cs 0, 2, .inl Re)), (ve, .inl (cs 0, 4, .inl V)), (ps, .inl (cs 0, 3, .inl P)), (di, .inl (cs 1, 2, .inl Di)), (lv, .inl (cs 0, 384, .inl Lv))] → va_S A s.heap Hp locs → lv_has ls 4 [(0, .ref o), (3, .int (nI i2))] → xW p l e ({ frames := 1, cells := 0, slots := 0, locals := 21 } : Room) s m ([.ref o, .int (nI w9), .int (nI h9)] : List Value).toArray below meth c Hp locs 0 0 (MQ below (xE D A none [(o, .inr (7, mdF (tSize (nI w9) (nI h9)) w9 h9 mt qu zz nw ol ne se ke 0 0 0 0 0 0 0 0 wh fa re ve ps 0 0 di lv bf bo bd co bt ma)), (mt, .inl (cs 0, 128, .inl (upd (fun _ => 16) 0 8))), (ol, .inl (cs 0, 4608, .inl (fun _ => 128))), (ne, .inl (cs 0, 4608, .inl (fun _ => 128))), (re, .inl (cs 0, 2, .inl (fun _ => 1))), (ve, .inl (cs 0, 4, .inl (fun _ => 0))), (ps, .inl (cs 0, 3, .inl (fun _ => 1024))), (di, .inl (cs 1, 2, .inl (fun _ => 0))), (lv, .inl (cs 0, 384, .inl (fun _ => 0)))]) ([.ref o, .int (nI w9), .int (nI h9)] : List Value).toArray s 0 0 A) (F0 m 81 ls []) := by
            intro k81
            induction k81 with
            | zero => intro i2 h9; omega
            | succ k81 ih_81 =>
              intro i2 hk81 hi2 Hp locs ls hP hD hS hl
              refine lv_iload_n hx hb dX7_size_81 rfl (lv_at hl 1 rfl) ?_
              refine lv_sipush (v := 4608) hx hb dX7_size_82 (by decide) ?_
              refine lv_icmp_ge (tgt := 112) hx hb dX7_size_85 (by decide) (fun c_85 => ?_) (fun c_85 => ?_)
              · have e9 : 4608 ≤ i2 := nIle (a := 4608) (b := i2) rfl rfl (by decide) (by omega) c_85
                have hP1 : va_P D vwCl [(o, .inr (7, mdF (tSize (nI w9) (nI h9)) w9 h9 mt qu zz nw ol ne se ke nc ns is ik dc sc kd md wh fa re ve ps ow tl di lv bf bo bd co bt ma)), (mt, .inl (cs 0, 128, .inl (upd (fun _ => 16) 0 8))), (ol, .inl (cs 0, 4608, .inl (fun _ => 128))), (ne, .inl (cs 0, 4608, .inl (filTo gn 128 i2))), (re, .inl (cs 0, 2, .inl Re)), (ve, .inl (cs 0, 4, .inl V)), (ps, .inl (cs 0, 3, .inl P)), (di, .inl (cs 1, 2, .inl Di)), (lv, .inl (cs 0, 384, .inl Lv))] Hp := xcongP (g := (fun _ => 128)) hP 2 rfl hD (fun j hj => by simp [filTo, Nat.lt_of_lt_of_le hj e9])
                have hD : va_D A [(o, .inr (7, mdF (tSize (nI w9) (nI h9)) w9 h9 mt qu zz nw ol ne se ke nc ns is ik dc sc kd md wh fa re ve ps ow tl di lv bf bo bd co bt ma)), (mt, .inl (cs 0, 128, .inl (upd (fun _ => 16) 0 8))), (ol, .inl (cs 0, 4608, .inl (fun _ => 128))), (ne, .inl (cs 0, 4608, .inl (filTo gn 128 i2))), (re, .inl (cs 0, 2, .inl Re)), (ve, .inl (cs 0, 4, .inl V)), (ps, .inl (cs 0, 3, .inl P)), (di, .inl (cs 1, 2, .inl Di)), (lv, .inl (cs 0, 384, .inl Lv))] := xcongD (g := (fun _ => 128)) 2 rfl hD
                have hP := hP1
                have hP1 : va_P D vwCl [(o, .inr (7, mdF (tSize (nI w9) (nI h9)) w9 h9 mt qu zz nw ol ne se ke nc ns is ik dc sc kd md wh fa re ve ps ow tl di lv bf bo bd co bt ma)), (mt, .inl (cs 0, 128, .inl (upd (fun _ => 16) 0 8))), (ol, .inl (cs 0, 4608, .inl (fun _ => 128))), (ne, .inl (cs 0, 4608, .inl (fun _ => 128))), (re, .inl (cs 0, 2, .inl Re)), (ve, .inl (cs 0, 4, .inl V)), (ps, .inl (cs 0, 3, .inl P)), (di, .inl (cs 1, 2, .inl Di)), (lv, .inl (cs 0, 384, .inl Lv))] Hp := xcongP (g := (fun _ => 128)) hP 3 rfl hD (fun j hj => by simp [filTo, Nat.lt_of_lt_of_le hj e9])
                have hD : va_D A [(o, .inr (7, mdF (tSize (nI w9) (nI h9)) w9 h9 mt qu zz nw ol ne se ke nc ns is ik dc sc kd md wh fa re ve ps ow tl di lv bf bo bd co bt ma)), (mt, .inl (cs 0, 128, .inl (upd (fun _ => 16) 0 8))), (ol, .inl (cs 0, 4608, .inl (fun _ => 128))), (ne, .inl (cs 0, 4608, .inl (fun _ => 128))), (re, .inl (cs 0, 2, .inl Re)), (ve, .inl (cs 0, 4, .inl V)), (ps, .inl (cs 0, 3, .inl P)), (di, .inl (cs 1, 2, .inl Di)), (lv, .inl (cs 0, 384, .inl Lv))] := xcongD (g := (fun _ => 128)) 3 rfl hD
                have hP := hP1
                refine lv_aload_n hx hb dX7_size_112 rfl (lv_at hl 0 rfl) ?_
                refine lv_iconst (v := 0) hx hb dX7_size_113 (by decide) ?_
                refine xputf (C := RX7) (T := TX7) (N := 34) (ws1 := [(o, .inr (7, mdF (tSize (nI w9) (nI h9)) w9 h9 mt qu zz nw ol ne se ke 0 ns is ik dc sc kd md wh fa re ve ps ow tl di lv bf bo bd co bt ma)), (mt, .inl (cs 0, 128, .inl (upd (fun _ => 16) 0 8))), (ol, .inl (cs 0, 4608, .inl (fun _ => 128))), (ne, .inl (cs 0, 4608, .inl (fun _ => 128))), (re, .inl (cs 0, 2, .inl Re)), (ve, .inl (cs 0, 4, .inl V)), (ps, .inl (cs 0, 3, .inl P)), (di, .inl (cs 1, 2, .inl Di)), (lv, .inl (cs 0, 384, .inl Lv))]) hF hX hP hD hS (by decide +kernel) tyX7 tyX7_ok nmX7 0 11 rfl rfl (by decide) (by decide +kernel) rfl (rfl) (rfl) (Nat.le_of_ble_eq_true rfl) dX7_size_114 rfl (fun Hp locs hP hD hS => ?_)
                refine lv_aload_n hx hb dX7_size_117 rfl (lv_at hl 0 rfl) ?_
                refine lv_iconst (v := 0) hx hb dX7_size_118 (by decide) ?_
                refine xputf (C := RX7) (T := TX7) (N := 34) (ws1 := [(o, .inr (7, mdF (tSize (nI w9) (nI h9)) w9 h9 mt qu zz nw ol ne se ke 0 0 is ik dc sc kd md wh fa re ve ps ow tl di lv bf bo bd co bt ma)), (mt, .inl (cs 0, 128, .inl (upd (fun _ => 16) 0 8))), (ol, .inl (cs 0, 4608, .inl (fun _ => 128))), (ne, .inl (cs 0, 4608, .inl (fun _ => 128))), (re, .inl (cs 0, 2, .inl Re)), (ve, .inl (cs 0, 4, .inl V)), (ps, .inl (cs 0, 3, .inl P)), (di, .inl (cs 1, 2, .inl Di)), (lv, .inl (cs 0, 384, .inl Lv))]) hF hX hP hD hS (by decide +kernel) tyX7 tyX7_ok nmX7 0 12 rfl rfl (by decide) (by decide +kernel) rfl (rfl) (rfl) (Nat.le_of_ble_eq_true rfl) dX7_size_119 rfl (fun Hp locs hP hD hS => ?_)
                refine lv_aload_n hx hb dX7_size_122 rfl (lv_at hl 0 rfl) ?_
                refine lv_iconst (v := 0) hx hb dX7_size_123 (by decide) ?_
                refine xputf (C := RX7) (T := TX7) (N := 34) (ws1 := [(o, .inr (7, mdF (tSize (nI w9) (nI h9)) w9 h9 mt qu zz nw ol ne se ke 0 0 0 ik dc sc kd md wh fa re ve ps ow tl di lv bf bo bd co bt ma)), (mt, .inl (cs 0, 128, .inl (upd (fun _ => 16) 0 8))), (ol, .inl (cs 0, 4608, .inl (fun _ => 128))), (ne, .inl (cs 0, 4608, .inl (fun _ => 128))), (re, .inl (cs 0, 2, .inl Re)), (ve, .inl (cs 0, 4, .inl V)), (ps, .inl (cs 0, 3, .inl P)), (di, .inl (cs 1, 2, .inl Di)), (lv, .inl (cs 0, 384, .inl Lv))]) hF hX hP hD hS (by decide +kernel) tyX7 tyX7_ok nmX7 0 13 rfl rfl (by decide) (by decide +kernel) rfl (rfl) (rfl) (Nat.le_of_ble_eq_true rfl) dX7_size_124 rfl (fun Hp locs hP hD hS => ?_)
                refine lv_aload_n hx hb dX7_size_127 rfl (lv_at hl 0 rfl) ?_
                refine lv_iconst (v := 0) hx hb dX7_size_128 (by decide) ?_
                refine xputf (C := RX7) (T := TX7) (N := 34) (ws1 := [(o, .inr (7, mdF (tSize (nI w9) (nI h9)) w9 h9 mt qu zz nw ol ne se ke 0 0 0 0 dc sc kd md wh fa re ve ps ow tl di lv bf bo bd co bt ma)), (mt, .inl (cs 0, 128, .inl (upd (fun _ => 16) 0 8))), (ol, .inl (cs 0, 4608, .inl (fun _ => 128))), (ne, .inl (cs 0, 4608, .inl (fun _ => 128))), (re, .inl (cs 0, 2, .inl Re)), (ve, .inl (cs 0, 4, .inl V)), (ps, .inl (cs 0, 3, .inl P)), (di, .inl (cs 1, 2, .inl Di)), (lv, .inl (cs 0, 384, .inl Lv))]) hF hX hP hD hS (by decide +kernel) tyX7 tyX7_ok nmX7 0 14 rfl rfl (by decide) (by decide +kernel) rfl (rfl) (rfl) (Nat.le_of_ble_eq_true rfl) dX7_size_129 rfl (fun Hp locs hP hD hS => ?_)
                refine lv_aload_n hx hb dX7_size_132 rfl (lv_at hl 0 rfl) ?_
                refine lv_iconst (v := 0) hx hb dX7_size_133 (by decide) ?_
                refine xputf (C := RX7) (T := TX7) (N := 34) (ws1 := [(o, .inr (7, mdF (tSize (nI w9) (nI h9)) w9 h9 mt qu zz nw ol ne se ke 0 0 0 0 0 sc kd md wh fa re ve ps ow tl di lv bf bo bd co bt ma)), (mt, .inl (cs 0, 128, .inl (upd (fun _ => 16) 0 8))), (ol, .inl (cs 0, 4608, .inl (fun _ => 128))), (ne, .inl (cs 0, 4608, .inl (fun _ => 128))), (re, .inl (cs 0, 2, .inl Re)), (ve, .inl (cs 0, 4, .inl V)), (ps, .inl (cs 0, 3, .inl P)), (di, .inl (cs 1, 2, .inl Di)), (lv, .inl (cs 0, 384, .inl Lv))]) hF hX hP hD hS (by decide +kernel) tyX7 tyX7_ok nmX7 0 15 rfl rfl (by decide) (by decide +kernel) rfl (rfl) (rfl) (Nat.le_of_ble_eq_true rfl) dX7_size_134 rfl (fun Hp locs hP hD hS => ?_)
                refine lv_aload_n hx hb dX7_size_137 rfl (lv_at hl 0 rfl) ?_
                refine lv_iconst (v := 0) hx hb dX7_size_138 (by decide) ?_
                refine xputf (C := RX7) (T := TX7) (N := 34) (ws1 := [(o, .inr (7, mdF (tSize (nI w9) (nI h9)) w9 h9 mt qu zz nw ol ne se ke 0 0 0 0 0 0 kd md wh fa re ve ps ow tl di lv bf bo bd co bt ma)), (mt, .inl (cs 0, 128, .inl (upd (fun _ => 16) 0 8))), (ol, .inl (cs 0, 4608, .inl (fun _ => 128))), (ne, .inl (cs 0, 4608, .inl (fun _ => 128))), (re, .inl (cs 0, 2, .inl Re)), (ve, .inl (cs 0, 4, .inl V)), (ps, .inl (cs 0, 3, .inl P)), (di, .inl (cs 1, 2, .inl Di)), (lv, .inl (cs 0, 384, .inl Lv))]) hF hX hP hD hS (by decide +kernel) tyX7 tyX7_ok nmX7 0 16 rfl rfl (by decide) (by decide +kernel) rfl (rfl) (rfl) (Nat.le_of_ble_eq_true rfl) dX7_size_139 rfl (fun Hp locs hP hD hS => ?_)
                refine lv_aload_n hx hb dX7_size_142 rfl (lv_at hl 0 rfl) ?_
                refine lv_iconst (v := 0) hx hb dX7_size_143 (by decide) ?_
                refine xputf (C := RX7) (T := TX7) (N := 34) (ws1 := [(o, .inr (7, mdF (tSize (nI w9) (nI h9)) w9 h9 mt qu zz nw ol ne se ke 0 0 0 0 0 0 0 md wh fa re ve ps ow tl di lv bf bo bd co bt ma)), (mt, .inl (cs 0, 128, .inl (upd (fun _ => 16) 0 8))), (ol, .inl (cs 0, 4608, .inl (fun _ => 128))), (ne, .inl (cs 0, 4608, .inl (fun _ => 128))), (re, .inl (cs 0, 2, .inl Re)), (ve, .inl (cs 0, 4, .inl V)), (ps, .inl (cs 0, 3, .inl P)), (di, .inl (cs 1, 2, .inl Di)), (lv, .inl (cs 0, 384, .inl Lv))]) hF hX hP hD hS (by decide +kernel) tyX7 tyX7_ok nmX7 0 17 rfl rfl (by decide) (by decide +kernel) rfl (rfl) (rfl) (Nat.le_of_ble_eq_true rfl) dX7_size_144 rfl (fun Hp locs hP hD hS => ?_)
                refine lv_aload_n hx hb dX7_size_147 rfl (lv_at hl 0 rfl) ?_
                refine lv_iconst (v := 0) hx hb dX7_size_148 (by decide) ?_
                refine xputf (C := RX7) (T := TX7) (N := 34) (ws1 := [(o, .inr (7, mdF (tSize (nI w9) (nI h9)) w9 h9 mt qu zz nw ol ne se ke 0 0 0 0 0 0 0 0 wh fa re ve ps ow tl di lv bf bo bd co bt ma)), (mt, .inl (cs 0, 128, .inl (upd (fun _ => 16) 0 8))), (ol, .inl (cs 0, 4608, .inl (fun _ => 128))), (ne, .inl (cs 0, 4608, .inl (fun _ => 128))), (re, .inl (cs 0, 2, .inl Re)), (ve, .inl (cs 0, 4, .inl V)), (ps, .inl (cs 0, 3, .inl P)), (di, .inl (cs 1, 2, .inl Di)), (lv, .inl (cs 0, 384, .inl Lv))]) hF hX hP hD hS (by decide +kernel) tyX7 tyX7_ok nmX7 0 18 rfl rfl (by decide) (by decide +kernel) rfl (rfl) (rfl) (Nat.le_of_ble_eq_true rfl) dX7_size_149 rfl (fun Hp locs hP hD hS => ?_)
                refine lv_aload_n hx hb dX7_size_152 rfl (lv_at hl 0 rfl) ?_
                refine xget (C := RX7) (T := TX7) (N := 34) hF hX hP (by decide +kernel) 0 21 rfl rfl (by decide) (by decide +kernel) rfl dX7_size_153 ?_
                refine lv_iconst (v := 0) hx hb dX7_size_156 (by decide) ?_
                refine lv_iconst (v := 1) hx hb dX7_size_157 (by decide) ?_
                refine xast (k := 0) (ws1 := [(o, .inr (7, mdF (tSize (nI w9) (nI h9)) w9 h9 mt qu zz nw ol ne se ke 0 0 0 0 0 0 0 0 wh fa re ve ps ow tl di lv bf bo bd co bt ma)), (mt, .inl (cs 0, 128, .inl (upd (fun _ => 16) 0 8))), (ol, .inl (cs 0, 4608, .inl (fun _ => 128))), (ne, .inl (cs 0, 4608, .inl (fun _ => 128))), (re, .inl (cs 0, 2, .inl (upd Re 0 1))), (ve, .inl (cs 0, 4, .inl V)), (ps, .inl (cs 0, 3, .inl P)), (di, .inl (cs 1, 2, .inl Di)), (lv, .inl (cs 0, 384, .inl Lv))]) hF hX hP hD hS 4 rfl (rfl) (vp_in_nI (n := 0) (by decide) (by decide)) dX7_size_158 rfl (fun Hp locs hP hD hS => ?_)
                refine lv_aload_n hx hb dX7_size_159 rfl (lv_at hl 0 rfl) ?_
                refine xget (C := RX7) (T := TX7) (N := 34) hF hX hP (by decide +kernel) 0 21 rfl rfl (by decide) (by decide +kernel) rfl dX7_size_160 ?_
                refine lv_iconst (v := 1) hx hb dX7_size_163 (by decide) ?_
                refine lv_iconst (v := 1) hx hb dX7_size_164 (by decide) ?_
                refine xast (k := 1) (ws1 := [(o, .inr (7, mdF (tSize (nI w9) (nI h9)) w9 h9 mt qu zz nw ol ne se ke 0 0 0 0 0 0 0 0 wh fa re ve ps ow tl di lv bf bo bd co bt ma)), (mt, .inl (cs 0, 128, .inl (upd (fun _ => 16) 0 8))), (ol, .inl (cs 0, 4608, .inl (fun _ => 128))), (ne, .inl (cs 0, 4608, .inl (fun _ => 128))), (re, .inl (cs 0, 2, .inl (upd (upd Re 0 1) 1 1))), (ve, .inl (cs 0, 4, .inl V)), (ps, .inl (cs 0, 3, .inl P)), (di, .inl (cs 1, 2, .inl Di)), (lv, .inl (cs 0, 384, .inl Lv))]) hF hX hP hD hS 4 rfl (rfl) (vp_in_nI (n := 1) (by decide) (by decide)) dX7_size_165 rfl (fun Hp locs hP hD hS => ?_)
                have hP1 : va_P D vwCl [(o, .inr (7, mdF (tSize (nI w9) (nI h9)) w9 h9 mt qu zz nw ol ne se ke 0 0 0 0 0 0 0 0 wh fa re ve ps ow tl di lv bf bo bd co bt ma)), (mt, .inl (cs 0, 128, .inl (upd (fun _ => 16) 0 8))), (ol, .inl (cs 0, 4608, .inl (fun _ => 128))), (ne, .inl (cs 0, 4608, .inl (fun _ => 128))), (re, .inl (cs 0, 2, .inl (fun _ => 1))), (ve, .inl (cs 0, 4, .inl V)), (ps, .inl (cs 0, 3, .inl P)), (di, .inl (cs 1, 2, .inl Di)), (lv, .inl (cs 0, 384, .inl Lv))] Hp := xcongP (g := (fun _ => 1)) hP 4 rfl hD (two1)
                have hD : va_D A [(o, .inr (7, mdF (tSize (nI w9) (nI h9)) w9 h9 mt qu zz nw ol ne se ke 0 0 0 0 0 0 0 0 wh fa re ve ps ow tl di lv bf bo bd co bt ma)), (mt, .inl (cs 0, 128, .inl (upd (fun _ => 16) 0 8))), (ol, .inl (cs 0, 4608, .inl (fun _ => 128))), (ne, .inl (cs 0, 4608, .inl (fun _ => 128))), (re, .inl (cs 0, 2, .inl (fun _ => 1))), (ve, .inl (cs 0, 4, .inl V)), (ps, .inl (cs 0, 3, .inl P)), (di, .inl (cs 1, 2, .inl Di)), (lv, .inl (cs 0, 384, .inl Lv))] := xcongD (g := (fun _ => 1)) 4 rfl hD
                have hP := hP1
                refine lv_aload_n hx hb dX7_size_166 rfl (lv_at hl 0 rfl) ?_
                refine xVM [true, false, false, false, false, true, false, false, false] (rest := []) (As := []) (ws1 := [(o, .inr (7, mdF (tSize (nI w9) (nI h9)) w9 h9 mt qu zz nw ol ne se ke 0 0 0 0 0 0 0 0 wh fa re ve ps ow tl di lv bf bo bd co bt ma)), (mt, .inl (cs 0, 128, .inl (upd (fun _ => 16) 0 8))), (ol, .inl (cs 0, 4608, .inl (fun _ => 128))), (ne, .inl (cs 0, 4608, .inl (fun _ => 128))), (re, .inl (cs 0, 2, .inl (fun _ => 1))), (ve, .inl (cs 0, 4, .inl (fun _ => 0))), (ps, .inl (cs 0, 3, .inl P)), (di, .inl (cs 1, 2, .inl Di)), (lv, .inl (cs 0, 384, .inl Lv))]) (st1 := []) hF (c_X7_clearVectors l D cs tt o mt qu zz nw ol ne se ke re ve ps di lv bd co bt ma w9 h9 0 (tSize (nI w9) (nI h9)) 0 0 0 0 0 0 0 wh fa ow tl bf bo V) gX7_size_X7_clearVectors rfl (n := 0) (by decide +kernel) rfl ⟨⟨rfl, rfl⟩, Nat.le_of_ble_eq_true rfl, Nat.le_of_ble_eq_true rfl⟩ ⟨Nat.le_of_ble_eq_true rfl, Nat.le_of_ble_eq_true rfl⟩ hX hP hD hS rfl [o, ve] rfl rfl (q0 := 0) (ci := 7) rfl rfl rfl hl.1 rfl (Nat.le_of_ble_eq_true rfl) dX7_size_167 rfl rfl (fun Hp locs hP hD hS => ?_)
                refine lv_aload_n hx hb dX7_size_170 rfl (lv_at hl 0 rfl) ?_
                refine xVM [true, false, false, false, false, false, true, false, false] (rest := []) (As := []) (ws1 := [(o, .inr (7, mdF (tSize (nI w9) (nI h9)) w9 h9 mt qu zz nw ol ne se ke 0 0 0 0 0 0 0 0 wh fa re ve ps ow tl di lv bf bo bd co bt ma)), (mt, .inl (cs 0, 128, .inl (upd (fun _ => 16) 0 8))), (ol, .inl (cs 0, 4608, .inl (fun _ => 128))), (ne, .inl (cs 0, 4608, .inl (fun _ => 128))), (re, .inl (cs 0, 2, .inl (fun _ => 1))), (ve, .inl (cs 0, 4, .inl (fun _ => 0))), (ps, .inl (cs 0, 3, .inl (fun _ => 1024))), (di, .inl (cs 1, 2, .inl Di)), (lv, .inl (cs 0, 384, .inl Lv))]) (st1 := []) hF (c_X7_clearPasts l D cs tt o mt qu zz nw ol ne se ke re ve ps di lv bd co bt ma w9 h9 0 (tSize (nI w9) (nI h9)) 0 0 0 0 0 0 0 wh fa ow tl bf bo P) gX7_size_X7_clearPasts rfl (n := 0) (by decide +kernel) rfl ⟨⟨rfl, rfl⟩, Nat.le_of_ble_eq_true rfl, Nat.le_of_ble_eq_true rfl⟩ ⟨Nat.le_of_ble_eq_true rfl, Nat.le_of_ble_eq_true rfl⟩ hX hP hD hS rfl [o, ps] rfl rfl (q0 := 0) (ci := 7) rfl rfl rfl hl.1 rfl (Nat.le_of_ble_eq_true rfl) dX7_size_171 rfl rfl (fun Hp locs hP hD hS => ?_)
                refine lv_aload_n hx hb dX7_size_174 rfl (lv_at hl 0 rfl) ?_
                refine xVM [true, false, false, false, false, false, false, true, true] (rest := []) (As := []) (ws1 := [(o, .inr (7, mdF (tSize (nI w9) (nI h9)) w9 h9 mt qu zz nw ol ne se ke 0 0 0 0 0 0 0 0 wh fa re ve ps 0 0 di lv bf bo bd co bt ma)), (mt, .inl (cs 0, 128, .inl (upd (fun _ => 16) 0 8))), (ol, .inl (cs 0, 4608, .inl (fun _ => 128))), (ne, .inl (cs 0, 4608, .inl (fun _ => 128))), (re, .inl (cs 0, 2, .inl (fun _ => 1))), (ve, .inl (cs 0, 4, .inl (fun _ => 0))), (ps, .inl (cs 0, 3, .inl (fun _ => 1024))), (di, .inl (cs 1, 2, .inl (fun _ => 0))), (lv, .inl (cs 0, 384, .inl (fun _ => 0)))]) (st1 := []) hF (c_X7_forget l D cs tt o mt qu zz nw ol ne se ke re ve ps di lv bd co bt ma w9 h9 0 (tSize (nI w9) (nI h9)) 0 0 0 0 0 0 0 wh fa ow tl bf bo Di Lv) gX7_size_X7_forget rfl (n := 0) (by decide +kernel) rfl ⟨⟨rfl, rfl⟩, Nat.le_of_ble_eq_true rfl, Nat.le_of_ble_eq_true rfl⟩ ⟨Nat.le_of_ble_eq_true rfl, Nat.le_of_ble_eq_true rfl⟩ hX hP hD hS rfl [o, di, lv] rfl rfl (q0 := 0) (ci := 7) rfl rfl rfl hl.1 rfl (Nat.le_of_ble_eq_true rfl) dX7_size_175 rfl rfl (fun Hp locs hP hD hS => ?_)
                exact xrv hF hr hlk hP hD hS dX7_size_178
              · have hlt : i2 < 4608 := nInle (a := 4608) (b := i2) rfl rfl (by decide) (by omega) c_85
                refine lv_aload_n hx hb dX7_size_88 rfl (lv_at hl 0 rfl) ?_
                refine xget (C := RX7) (T := TX7) (N := 34) hF hX hP (by decide +kernel) 0 7 rfl rfl (by decide) (by decide +kernel) rfl dX7_size_89 ?_
                refine lv_iload_n hx hb dX7_size_92 rfl (lv_at hl 1 rfl) ?_
                refine lv_sipush (v := 128) hx hb dX7_size_93 (by decide) ?_
                refine xast (k := i2) (ws1 := [(o, .inr (7, mdF (tSize (nI w9) (nI h9)) w9 h9 mt qu zz nw ol ne se ke nc ns is ik dc sc kd md wh fa re ve ps ow tl di lv bf bo bd co bt ma)), (mt, .inl (cs 0, 128, .inl (upd (fun _ => 16) 0 8))), (ol, .inl (cs 0, 4608, .inl (filTo go 128 (i2 + 1)))), (ne, .inl (cs 0, 4608, .inl (filTo gn 128 i2))), (re, .inl (cs 0, 2, .inl Re)), (ve, .inl (cs 0, 4, .inl V)), (ps, .inl (cs 0, 3, .inl P)), (di, .inl (cs 1, 2, .inl Di)), (lv, .inl (cs 0, 384, .inl Lv))]) hF hX hP hD hS 2 rfl (nI_clamp (by omega)) (vp_in_nI (by omega) (by decide)) dX7_size_96 (congrArg (fun z9 => ([(o, .inr (7, mdF (tSize (nI w9) (nI h9)) w9 h9 mt qu zz nw ol ne se ke nc ns is ik dc sc kd md wh fa re ve ps ow tl di lv bf bo bd co bt ma)), (mt, .inl (cs 0, 128, .inl (upd (fun _ => 16) 0 8))), (ol, .inl (cs 0, 4608, .inl z9)), (ne, .inl (cs 0, 4608, .inl (filTo gn 128 i2))), (re, .inl (cs 0, 2, .inl Re)), (ve, .inl (cs 0, 4, .inl V)), (ps, .inl (cs 0, 3, .inl P)), (di, .inl (cs 1, 2, .inl Di)), (lv, .inl (cs 0, 384, .inl Lv))] : va_W)) (filTo_s go 128 i2)) (fun Hp locs hP hD hS => ?_)
                refine lv_aload_n hx hb dX7_size_97 rfl (lv_at hl 0 rfl) ?_
                refine xget (C := RX7) (T := TX7) (N := 34) hF hX hP (by decide +kernel) 0 8 rfl rfl (by decide) (by decide +kernel) rfl dX7_size_98 ?_
                refine lv_iload_n hx hb dX7_size_101 rfl (lv_at hl 1 rfl) ?_
                refine lv_sipush (v := 128) hx hb dX7_size_102 (by decide) ?_
                refine xast (k := i2) (ws1 := [(o, .inr (7, mdF (tSize (nI w9) (nI h9)) w9 h9 mt qu zz nw ol ne se ke nc ns is ik dc sc kd md wh fa re ve ps ow tl di lv bf bo bd co bt ma)), (mt, .inl (cs 0, 128, .inl (upd (fun _ => 16) 0 8))), (ol, .inl (cs 0, 4608, .inl (filTo go 128 (i2 + 1)))), (ne, .inl (cs 0, 4608, .inl (filTo gn 128 (i2 + 1)))), (re, .inl (cs 0, 2, .inl Re)), (ve, .inl (cs 0, 4, .inl V)), (ps, .inl (cs 0, 3, .inl P)), (di, .inl (cs 1, 2, .inl Di)), (lv, .inl (cs 0, 384, .inl Lv))]) hF hX hP hD hS 3 rfl (nI_clamp (by omega)) (vp_in_nI (by omega) (by decide)) dX7_size_105 (congrArg (fun z9 => ([(o, .inr (7, mdF (tSize (nI w9) (nI h9)) w9 h9 mt qu zz nw ol ne se ke nc ns is ik dc sc kd md wh fa re ve ps ow tl di lv bf bo bd co bt ma)), (mt, .inl (cs 0, 128, .inl (upd (fun _ => 16) 0 8))), (ol, .inl (cs 0, 4608, .inl (filTo go 128 (i2 + 1)))), (ne, .inl (cs 0, 4608, .inl z9)), (re, .inl (cs 0, 2, .inl Re)), (ve, .inl (cs 0, 4, .inl V)), (ps, .inl (cs 0, 3, .inl P)), (di, .inl (cs 1, 2, .inl Di)), (lv, .inl (cs 0, 384, .inl Lv))] : va_W)) (filTo_s gn 128 i2)) (fun Hp locs hP hD hS => ?_)
                refine lv_iinc (v := (nI (i2 + 1))) (lv' := [(3, .int (nI (i2 + 1))), (0, .ref o)]) hx hb dX7_size_106 hl (k := 1) rfl (nI_1 i2) (by decide) rfl (fun ls hl => ?_)
                refine lv_goto (tgt := 81) hx hb dX7_size_109 (by decide) ?_
                exact ih_81 (i2 + 1) (by omega) (by omega) _ _ _ hP hD hS (lv_sub hl [1, 0] rfl)
          have hP := xeqP hP (congrArg (fun z9 => ([(o, .inr (7, mdF (tSize (nI w9) (nI h9)) w9 h9 mt qu zz nw ol ne se ke nc ns is ik dc sc kd md wh fa re ve ps ow tl di lv bf bo bd co bt ma)), (mt, .inl (cs 0, 128, .inl (upd (fun _ => 16) 0 8))), (ol, .inl (cs 0, 4608, .inl z9)), (ne, .inl (cs 0, 4608, .inl gn)), (re, .inl (cs 0, 2, .inl Re)), (ve, .inl (cs 0, 4, .inl V)), (ps, .inl (cs 0, 3, .inl P)), (di, .inl (cs 1, 2, .inl Di)), (lv, .inl (cs 0, 384, .inl Lv))] : va_W)) ((show go = filTo go 128 0 from funext (fun j => by simp [filTo]))))
          have hD := xeqD hD (congrArg (fun z9 => ([(o, .inr (7, mdF (tSize (nI w9) (nI h9)) w9 h9 mt qu zz nw ol ne se ke nc ns is ik dc sc kd md wh fa re ve ps ow tl di lv bf bo bd co bt ma)), (mt, .inl (cs 0, 128, .inl (upd (fun _ => 16) 0 8))), (ol, .inl (cs 0, 4608, .inl z9)), (ne, .inl (cs 0, 4608, .inl gn)), (re, .inl (cs 0, 2, .inl Re)), (ve, .inl (cs 0, 4, .inl V)), (ps, .inl (cs 0, 3, .inl P)), (di, .inl (cs 1, 2, .inl Di)), (lv, .inl (cs 0, 384, .inl Lv))] : va_W)) ((show go = filTo go 128 0 from funext (fun j => by simp [filTo]))))
          have hP := xeqP hP (congrArg (fun z9 => ([(o, .inr (7, mdF (tSize (nI w9) (nI h9)) w9 h9 mt qu zz nw ol ne se ke nc ns is ik dc sc kd md wh fa re ve ps ow tl di lv bf bo bd co bt ma)), (mt, .inl (cs 0, 128, .inl (upd (fun _ => 16) 0 8))), (ol, .inl (cs 0, 4608, .inl (filTo go 128 0))), (ne, .inl (cs 0, 4608, .inl z9)), (re, .inl (cs 0, 2, .inl Re)), (ve, .inl (cs 0, 4, .inl V)), (ps, .inl (cs 0, 3, .inl P)), (di, .inl (cs 1, 2, .inl Di)), (lv, .inl (cs 0, 384, .inl Lv))] : va_W)) ((show gn = filTo gn 128 0 from funext (fun j => by simp [filTo]))))
          have hD := xeqD hD (congrArg (fun z9 => ([(o, .inr (7, mdF (tSize (nI w9) (nI h9)) w9 h9 mt qu zz nw ol ne se ke nc ns is ik dc sc kd md wh fa re ve ps ow tl di lv bf bo bd co bt ma)), (mt, .inl (cs 0, 128, .inl (upd (fun _ => 16) 0 8))), (ol, .inl (cs 0, 4608, .inl (filTo go 128 0))), (ne, .inl (cs 0, 4608, .inl z9)), (re, .inl (cs 0, 2, .inl Re)), (ve, .inl (cs 0, 4, .inl V)), (ps, .inl (cs 0, 3, .inl P)), (di, .inl (cs 1, 2, .inl Di)), (lv, .inl (cs 0, 384, .inl Lv))] : va_W)) ((show gn = filTo gn 128 0 from funext (fun j => by simp [filTo]))))
          exact loop_81 (4608 - 0 + 1) 0 (Nat.lt_succ_self _) (by decide) _ _ _ hP hD hS (lv_sub hl [1, 0] rfl)
        · have hlt : i < 128 := nInle (a := 128) (b := i) rfl rfl (by decide) (by omega) c_53
          refine lv_aload_n hx hb dX7_size_56 rfl (lv_at hl 0 rfl) ?_
          refine xget (C := RX7) (T := TX7) (N := 34) hF hX hP (by decide +kernel) 0 3 rfl rfl (by decide) (by decide +kernel) rfl dX7_size_57 ?_
          refine lv_iload_n hx hb dX7_size_60 rfl (lv_at hl 1 rfl) ?_
          refine lv_iload_n hx hb dX7_size_61 rfl (lv_at hl 1 rfl) ?_
          refine lv_if_ne (tgt := 70) hx hb dX7_size_62 (by decide) (fun c_62 => ?_) (fun c_62 => ?_)
          · have hi0 : ¬ i = 0 := fun q => c_62 (by rw [q]; rfl)
            refine lv_bipush (v := 16) hx hb dX7_size_70 (by decide) ?_
            refine xast (k := i) (ws1 := [(o, .inr (7, mdF (tSize (nI w9) (nI h9)) w9 h9 mt qu zz nw ol ne se ke nc ns is ik dc sc kd md wh fa re ve ps ow tl di lv bf bo bd co bt ma)), (mt, .inl (cs 0, 128, .inl (ovr M (upd (fun _ => 16) 0 8) (i + 1)))), (ol, .inl (cs 0, 4608, .inl go)), (ne, .inl (cs 0, 4608, .inl gn)), (re, .inl (cs 0, 2, .inl Re)), (ve, .inl (cs 0, 4, .inl V)), (ps, .inl (cs 0, 3, .inl P)), (di, .inl (cs 1, 2, .inl Di)), (lv, .inl (cs 0, 384, .inl Lv))]) hF hX hP hD hS 1 rfl (nI_clamp (by omega)) (vp_in_nI (by omega) (by decide)) dX7_size_72 (congrArg (fun z9 => ([(o, .inr (7, mdF (tSize (nI w9) (nI h9)) w9 h9 mt qu zz nw ol ne se ke nc ns is ik dc sc kd md wh fa re ve ps ow tl di lv bf bo bd co bt ma)), (mt, .inl (cs 0, 128, .inl z9)), (ol, .inl (cs 0, 4608, .inl go)), (ne, .inl (cs 0, 4608, .inl gn)), (re, .inl (cs 0, 2, .inl Re)), (ve, .inl (cs 0, 4, .inl V)), (ps, .inl (cs 0, 3, .inl P)), (di, .inl (cs 1, 2, .inl Di)), (lv, .inl (cs 0, 384, .inl Lv))] : va_W)) (ovr_s M (upd (fun _ => 16) 0 8) i (by first | (rw [hi0]; rfl) | (rw [pk_un hi0])))) (fun Hp locs hP hD hS => ?_)
            refine lv_iinc (v := (nI (i + 1))) (lv' := [(3, .int (nI (i + 1))), (0, .ref o)]) hx hb dX7_size_73 hl (k := 1) rfl (nI_1 i) (by decide) rfl (fun ls hl => ?_)
            refine lv_goto (tgt := 49) hx hb dX7_size_76 (by decide) ?_
            exact ih_49 (i + 1) (by omega) (by omega) _ _ _ hP hD hS (lv_sub hl [1, 0] rfl)
          · have hi0 : i = 0 := by
              rcases Nat.eq_zero_or_pos i with q | q
              · exact q
              · exact absurd c_62 (nI_ne0 q (by omega))
            refine lv_bipush (v := 8) hx hb dX7_size_65 (by decide) ?_
            refine lv_goto (tgt := 72) hx hb dX7_size_67 (by decide) ?_
            refine xast (k := i) (ws1 := [(o, .inr (7, mdF (tSize (nI w9) (nI h9)) w9 h9 mt qu zz nw ol ne se ke nc ns is ik dc sc kd md wh fa re ve ps ow tl di lv bf bo bd co bt ma)), (mt, .inl (cs 0, 128, .inl (ovr M (upd (fun _ => 16) 0 8) (i + 1)))), (ol, .inl (cs 0, 4608, .inl go)), (ne, .inl (cs 0, 4608, .inl gn)), (re, .inl (cs 0, 2, .inl Re)), (ve, .inl (cs 0, 4, .inl V)), (ps, .inl (cs 0, 3, .inl P)), (di, .inl (cs 1, 2, .inl Di)), (lv, .inl (cs 0, 384, .inl Lv))]) hF hX hP hD hS 1 rfl (nI_clamp (by omega)) (vp_in_nI (by omega) (by decide)) dX7_size_72 (congrArg (fun z9 => ([(o, .inr (7, mdF (tSize (nI w9) (nI h9)) w9 h9 mt qu zz nw ol ne se ke nc ns is ik dc sc kd md wh fa re ve ps ow tl di lv bf bo bd co bt ma)), (mt, .inl (cs 0, 128, .inl z9)), (ol, .inl (cs 0, 4608, .inl go)), (ne, .inl (cs 0, 4608, .inl gn)), (re, .inl (cs 0, 2, .inl Re)), (ve, .inl (cs 0, 4, .inl V)), (ps, .inl (cs 0, 3, .inl P)), (di, .inl (cs 1, 2, .inl Di)), (lv, .inl (cs 0, 384, .inl Lv))] : va_W)) (ovr_s M (upd (fun _ => 16) 0 8) i (by first | (rw [hi0]; rfl) | (rw [pk_un hi0])))) (fun Hp locs hP hD hS => ?_)
            refine lv_iinc (v := (nI (i + 1))) (lv' := [(3, .int (nI (i + 1))), (0, .ref o)]) hx hb dX7_size_73 hl (k := 1) rfl (nI_1 i) (by decide) rfl (fun ls hl => ?_)
            refine lv_goto (tgt := 49) hx hb dX7_size_76 (by decide) ?_
            exact ih_49 (i + 1) (by omega) (by omega) _ _ _ hP hD hS (lv_sub hl [1, 0] rfl)
    have hP := xeqP hP (congrArg (fun z9 => ([(o, .inr (7, mdF (tSize (nI w9) (nI h9)) w9 h9 mt qu zz nw ol ne se ke nc ns is ik dc sc kd md wh fa re ve ps ow tl di lv bf bo bd co bt ma)), (mt, .inl (cs 0, 128, .inl z9)), (ol, .inl (cs 0, 4608, .inl go)), (ne, .inl (cs 0, 4608, .inl gn)), (re, .inl (cs 0, 2, .inl Re)), (ve, .inl (cs 0, 4, .inl V)), (ps, .inl (cs 0, 3, .inl P)), (di, .inl (cs 1, 2, .inl Di)), (lv, .inl (cs 0, 384, .inl Lv))] : va_W)) ((ovr_0 M (upd (fun _ => 16) 0 8)).symm))
    have hD := xeqD hD (congrArg (fun z9 => ([(o, .inr (7, mdF (tSize (nI w9) (nI h9)) w9 h9 mt qu zz nw ol ne se ke nc ns is ik dc sc kd md wh fa re ve ps ow tl di lv bf bo bd co bt ma)), (mt, .inl (cs 0, 128, .inl z9)), (ol, .inl (cs 0, 4608, .inl go)), (ne, .inl (cs 0, 4608, .inl gn)), (re, .inl (cs 0, 2, .inl Re)), (ve, .inl (cs 0, 4, .inl V)), (ps, .inl (cs 0, 3, .inl P)), (di, .inl (cs 1, 2, .inl Di)), (lv, .inl (cs 0, 384, .inl Lv))] : va_W)) ((ovr_0 M (upd (fun _ => 16) 0 8)).symm))
    exact loop_49 (128 - 0 + 1) 0 (Nat.lt_succ_self _) (by decide) _ _ _ hP hD hS (lv_sub hl [1, 0] rfl)
  refine lv_aload_n hx hb dX7_size_0 rfl (lv_at hl 0 rfl) ?_
  refine lv_iload_n hx hb dX7_size_1 rfl (lv_at hl 1 rfl) ?_
  refine lv_iconst (v := 1) hx hb dX7_size_2 (by decide) ?_
  refine lv_icmp_lt (tgt := 21) hx hb dX7_size_3 (by decide) (fun c_3 => ?_) (fun c_3 => ?_)
  · refine lv_iconst (v := 1) hx hb dX7_size_21 (by decide) ?_
    refine lv_goto (tgt := 26) hx hb dX7_size_22 (by decide) ?_
    refine xrwi (z := (tSize (nI w9) (nI h9))) (by simp [tSize, c_3]) ?_
    exact join_26   _ _ _ hP hD hS (lv_sub hl [0, 1, 2] rfl)
  · refine lv_iload_n hx hb dX7_size_6 rfl (lv_at hl 1 rfl) ?_
    refine lv_iconst (v := 4) hx hb dX7_size_7 (by decide) ?_
    refine lv_icmp_gt (tgt := 21) hx hb dX7_size_8 (by decide) (fun c_8 => ?_) (fun c_8 => ?_)
    · refine lv_iconst (v := 1) hx hb dX7_size_21 (by decide) ?_
      refine lv_goto (tgt := 26) hx hb dX7_size_22 (by decide) ?_
      refine xrwi (z := (tSize (nI w9) (nI h9))) (by simp [tSize, c_3, c_8]) ?_
      exact join_26   _ _ _ hP hD hS (lv_sub hl [0, 1, 2] rfl)
    · refine lv_iload_n hx hb dX7_size_11 rfl (lv_at hl 2 rfl) ?_
      refine lv_iconst (v := 1) hx hb dX7_size_12 (by decide) ?_
      refine lv_icmp_lt (tgt := 21) hx hb dX7_size_13 (by decide) (fun c_13 => ?_) (fun c_13 => ?_)
      · refine lv_iconst (v := 1) hx hb dX7_size_21 (by decide) ?_
        refine lv_goto (tgt := 26) hx hb dX7_size_22 (by decide) ?_
        refine xrwi (z := (tSize (nI w9) (nI h9))) (by simp [tSize, c_3, c_8, c_13]) ?_
        exact join_26   _ _ _ hP hD hS (lv_sub hl [0, 1, 2] rfl)
      · refine lv_iload_n hx hb dX7_size_16 rfl (lv_at hl 2 rfl) ?_
        refine lv_iconst (v := 3) hx hb dX7_size_17 (by decide) ?_
        refine lv_icmp_le (tgt := 25) hx hb dX7_size_18 (by decide) (fun c_18 => ?_) (fun c_18 => ?_)
        · refine lv_iconst (v := 0) hx hb dX7_size_25 (by decide) ?_
          refine xrwi (z := (tSize (nI w9) (nI h9))) (by simp [tSize, c_3, c_8, c_13, c_18]) ?_
          exact join_26   _ _ _ hP hD hS (lv_sub hl [0, 1, 2] rfl)
        · refine lv_iconst (v := 1) hx hb dX7_size_21 (by decide) ?_
          refine lv_goto (tgt := 26) hx hb dX7_size_22 (by decide) ?_
          refine xrwi (z := (tSize (nI w9) (nI h9))) (by simp [tSize, c_3, c_8, c_13, c_18]) ?_
          exact join_26   _ _ _ hP hD hS (lv_sub hl [0, 1, 2] rfl)

set_option maxHeartbeats 4000000 in
set_option maxRecDepth 100000 in
theorem c_X7_matrix_bad (l : Launch) (D : va_G) (cs : Nat → ClassId) (tt : Nat → Nat) (o mt qu zz nw ol ne se ke re ve ps di lv bd co bt ma W H md : Nat) (th nc ns is ik dc sc kd wh fa ow tl bf bo : Int32) (a9 i9 v9 : Int32) (ht : (tMatrix a9 i9 v9) = 1 ∨ (tMatrix a9 i9 v9) = 2) : xM l yX7_matrix wsX7_matrix ({ frames := 0, cells := 0, slots := 0, locals := 0 } : Room) D cs tt [.ref o, .int a9, .int i9, .int v9] [(o, .inr (7, mdF th W H mt qu zz nw ol ne se ke nc ns is ik dc sc kd md wh fa re ve ps ow tl di lv bf bo bd co bt ma))] (some (.int 0)) [(o, .inr (7, mdF (tMatrix a9 i9 v9) W H mt qu zz nw ol ne se ke nc ns is ik dc sc kd md wh fa re ve ps ow tl di lv bf bo bd co bt ma))] := by
  refine xM.of RX7 rfl (by decide) rfl (Nat.le_of_ble_eq_true rfl) ?_
  intro p e s m below meth c A ls hF hr hlk hX hP hD hS hl
  have hx := hF.1
  have hb := hF.2.1
  have hl : lv_has ls 5 [(0, .ref o), (1, .int a9), (2, .int i9), (3, .int v9)] := hl
  have join_37 : ∀ (Hp : Heap) (locs : List Loc) (ls : Array Slot), va_P D vwCl [(o, .inr (7, mdF th W H mt qu zz nw ol ne se ke nc ns is ik dc sc kd md wh fa re ve ps ow tl di lv bf bo bd co bt ma))] Hp → va_D A [(o, .inr (7, mdF th W H mt qu zz nw ol ne se ke nc ns is ik dc sc kd md wh fa re ve ps ow tl di lv bf bo bd co bt ma))] → va_S A s.heap Hp locs → lv_has ls 5 [(0, .ref o), (1, .int a9), (2, .int i9), (3, .int v9)] → xW p l e ({ frames := 0, cells := 0, slots := 0, locals := 0 } : Room) s m ([.ref o, .int a9, .int i9, .int v9] : List Value).toArray below meth c Hp locs 0 0 (MQ below (xE D A (some (.int 0)) [(o, .inr (7, mdF (tMatrix a9 i9 v9) W H mt qu zz nw ol ne se ke nc ns is ik dc sc kd md wh fa re ve ps ow tl di lv bf bo bd co bt ma))]) ([.ref o, .int a9, .int i9, .int v9] : List Value).toArray s 0 0 A) (F0 m 37 ls [.int (tMatrix a9 i9 v9), .ref o]) := by
    intro Hp locs ls hP hD hS hl
    refine xputf (C := RX7) (T := TX7) (N := 34) (ws1 := [(o, .inr (7, mdF (tMatrix a9 i9 v9) W H mt qu zz nw ol ne se ke nc ns is ik dc sc kd md wh fa re ve ps ow tl di lv bf bo bd co bt ma))]) hF hX hP hD hS (by decide +kernel) tyX7 tyX7_ok nmX7 0 0 rfl rfl (by decide) (by decide +kernel) rfl (rfl) (rfl) (Nat.le_of_ble_eq_true rfl) dX7_matrix_37 rfl (fun Hp locs hP hD hS => ?_)
    refine lv_aload_n hx hb dX7_matrix_40 rfl (lv_at hl 0 rfl) ?_
    refine xget (C := RX7) (T := TX7) (N := 34) hF hX hP (by decide +kernel) 0 0 rfl rfl (by decide) (by decide +kernel) rfl dX7_matrix_41 ?_
    refine lv_if_le (tgt := 49) hx hb dX7_matrix_44 (by decide) (fun c_44 => absurd c_44 (by rcases ht with h9 | h9 <;> rw [h9] <;> decide)) (fun _ => ?_)
    refine lv_iconst (v := 0) hx hb dX7_matrix_47 (by decide) ?_
    exact xri (Q9 := fun _ _ _ _ => True) hF hr hlk hP hD hS dX7_matrix_48
  refine lv_aload_n hx hb dX7_matrix_0 rfl (lv_at hl 0 rfl) ?_
  refine lv_iload_n hx hb dX7_matrix_1 rfl (lv_at hl 1 rfl) ?_
  refine lv_if_lt (tgt := 32) hx hb dX7_matrix_2 (by decide) (fun c_2 => ?_) (fun c_2 => ?_)
  · refine lv_iconst (v := 1) hx hb dX7_matrix_32 (by decide) ?_
    refine lv_goto (tgt := 37) hx hb dX7_matrix_33 (by decide) ?_
    refine xrwi (z := (tMatrix a9 i9 v9)) (by simp [tMatrix, c_2]) ?_
    exact join_37   _ _ _ hP hD hS (lv_sub hl [0, 1, 2, 3] rfl)
  · refine lv_iload_n hx hb dX7_matrix_5 rfl (lv_at hl 1 rfl) ?_
    refine lv_iconst (v := 1) hx hb dX7_matrix_6 (by decide) ?_
    refine lv_icmp_gt (tgt := 32) hx hb dX7_matrix_7 (by decide) (fun c_7 => ?_) (fun c_7 => ?_)
    · refine lv_iconst (v := 1) hx hb dX7_matrix_32 (by decide) ?_
      refine lv_goto (tgt := 37) hx hb dX7_matrix_33 (by decide) ?_
      refine xrwi (z := (tMatrix a9 i9 v9)) (by simp [tMatrix, c_2, c_7]) ?_
      exact join_37   _ _ _ hP hD hS (lv_sub hl [0, 1, 2, 3] rfl)
    · refine lv_iload_n hx hb dX7_matrix_10 rfl (lv_at hl 2 rfl) ?_
      refine lv_if_lt (tgt := 32) hx hb dX7_matrix_11 (by decide) (fun c_11 => ?_) (fun c_11 => ?_)
      · refine lv_iconst (v := 1) hx hb dX7_matrix_32 (by decide) ?_
        refine lv_goto (tgt := 37) hx hb dX7_matrix_33 (by decide) ?_
        refine xrwi (z := (tMatrix a9 i9 v9)) (by simp [tMatrix, c_2, c_7, c_11]) ?_
        exact join_37   _ _ _ hP hD hS (lv_sub hl [0, 1, 2, 3] rfl)
      · refine lv_iload_n hx hb dX7_matrix_14 rfl (lv_at hl 2 rfl) ?_
        refine lv_bipush (v := 63) hx hb dX7_matrix_15 (by decide) ?_
        refine lv_icmp_gt (tgt := 32) hx hb dX7_matrix_17 (by decide) (fun c_17 => ?_) (fun c_17 => ?_)
        · refine lv_iconst (v := 1) hx hb dX7_matrix_32 (by decide) ?_
          refine lv_goto (tgt := 37) hx hb dX7_matrix_33 (by decide) ?_
          refine xrwi (z := (tMatrix a9 i9 v9)) (by simp [tMatrix, c_2, c_7, c_11, c_17]) ?_
          exact join_37   _ _ _ hP hD hS (lv_sub hl [0, 1, 2, 3] rfl)
        · refine lv_iload_n hx hb dX7_matrix_20 rfl (lv_at hl 3 rfl) ?_
          refine lv_iconst (v := 1) hx hb dX7_matrix_21 (by decide) ?_
          refine lv_icmp_lt (tgt := 32) hx hb dX7_matrix_22 (by decide) (fun c_22 => ?_) (fun c_22 => ?_)
          · refine lv_iconst (v := 1) hx hb dX7_matrix_32 (by decide) ?_
            refine lv_goto (tgt := 37) hx hb dX7_matrix_33 (by decide) ?_
            refine xrwi (z := (tMatrix a9 i9 v9)) (by simp [tMatrix, c_2, c_7, c_11, c_17, c_22]) ?_
            exact join_37   _ _ _ hP hD hS (lv_sub hl [0, 1, 2, 3] rfl)
          · refine lv_iload_n hx hb dX7_matrix_25 rfl (lv_at hl 3 rfl) ?_
            refine lv_sipush (v := 255) hx hb dX7_matrix_26 (by decide) ?_
            refine lv_icmp_le (tgt := 36) hx hb dX7_matrix_29 (by decide) (fun c_29 => ?_) (fun c_29 => ?_)
            · refine lv_iconst (v := 0) hx hb dX7_matrix_36 (by decide) ?_
              refine xrwi (z := (tMatrix a9 i9 v9)) (by simp [tMatrix, c_2, c_7, c_11, c_17, c_22, c_29]) ?_
              exact join_37   _ _ _ hP hD hS (lv_sub hl [0, 1, 2, 3] rfl)
            · refine lv_iconst (v := 1) hx hb dX7_matrix_32 (by decide) ?_
              refine lv_goto (tgt := 37) hx hb dX7_matrix_33 (by decide) ?_
              refine xrwi (z := (tMatrix a9 i9 v9)) (by simp [tMatrix, c_2, c_7, c_11, c_17, c_22, c_29]) ?_
              exact join_37   _ _ _ hP hD hS (lv_sub hl [0, 1, 2, 3] rfl)

set_option maxHeartbeats 4000000 in
set_option maxRecDepth 100000 in
theorem c_X7_matrix_ok (l : Launch) (D : va_G) (cs : Nat → ClassId) (tt : Nat → Nat) (o mt qu zz nw ol ne se ke re ve ps di lv bd co bt ma W H md : Nat) (th nc ns is ik dc sc kd wh fa ow tl bf bo : Int32) (k j : Nat) (v9 : Int32) (M : Nat → Int32) (ht : (tMatrix (nI k) (nI j) v9) = 0) (hk : k < 2) (hj : j < 64) : xM l yX7_matrix wsX7_matrix ({ frames := 0, cells := 0, slots := 0, locals := 0 } : Room) D cs tt [.ref o, .int (nI k), .int (nI j), .int v9] [(o, .inr (7, mdF th W H mt qu zz nw ol ne se ke nc ns is ik dc sc kd md wh fa re ve ps ow tl di lv bf bo bd co bt ma)), (mt, .inl (cs 0, 128, .inl M))] (some (.int (M (k * 64 + j)))) [(o, .inr (7, mdF (tMatrix (nI k) (nI j) v9) W H mt qu zz nw ol ne se ke nc ns is ik dc sc kd md wh fa re ve ps ow tl di lv bf bo bd co bt ma)), (mt, .inl (cs 0, 128, .inl (upd M (k * 64 + j) v9)))] := by
  refine xM.of RX7 rfl (by decide) rfl (Nat.le_of_ble_eq_true rfl) ?_
  intro p e s m below meth c A ls hF hr hlk hX hP hD hS hl
  have hx := hF.1
  have hb := hF.2.1
  have hl : lv_has ls 5 [(0, .ref o), (1, .int (nI k)), (2, .int (nI j)), (3, .int v9)] := hl
  have join_37 : ∀ (Hp : Heap) (locs : List Loc) (ls : Array Slot), va_P D vwCl [(o, .inr (7, mdF th W H mt qu zz nw ol ne se ke nc ns is ik dc sc kd md wh fa re ve ps ow tl di lv bf bo bd co bt ma)), (mt, .inl (cs 0, 128, .inl M))] Hp → va_D A [(o, .inr (7, mdF th W H mt qu zz nw ol ne se ke nc ns is ik dc sc kd md wh fa re ve ps ow tl di lv bf bo bd co bt ma)), (mt, .inl (cs 0, 128, .inl M))] → va_S A s.heap Hp locs → lv_has ls 5 [(0, .ref o), (1, .int (nI k)), (2, .int (nI j)), (3, .int v9)] → xW p l e ({ frames := 0, cells := 0, slots := 0, locals := 0 } : Room) s m ([.ref o, .int (nI k), .int (nI j), .int v9] : List Value).toArray below meth c Hp locs 0 0 (MQ below (xE D A (some (.int (M (k * 64 + j)))) [(o, .inr (7, mdF (tMatrix (nI k) (nI j) v9) W H mt qu zz nw ol ne se ke nc ns is ik dc sc kd md wh fa re ve ps ow tl di lv bf bo bd co bt ma)), (mt, .inl (cs 0, 128, .inl (upd M (k * 64 + j) v9)))]) ([.ref o, .int (nI k), .int (nI j), .int v9] : List Value).toArray s 0 0 A) (F0 m 37 ls [.int (tMatrix (nI k) (nI j) v9), .ref o]) := by
    intro Hp locs ls hP hD hS hl
    refine xputf (C := RX7) (T := TX7) (N := 34) (ws1 := [(o, .inr (7, mdF (tMatrix (nI k) (nI j) v9) W H mt qu zz nw ol ne se ke nc ns is ik dc sc kd md wh fa re ve ps ow tl di lv bf bo bd co bt ma)), (mt, .inl (cs 0, 128, .inl M))]) hF hX hP hD hS (by decide +kernel) tyX7 tyX7_ok nmX7 0 0 rfl rfl (by decide) (by decide +kernel) rfl (rfl) (rfl) (Nat.le_of_ble_eq_true rfl) dX7_matrix_37 rfl (fun Hp locs hP hD hS => ?_)
    refine lv_aload_n hx hb dX7_matrix_40 rfl (lv_at hl 0 rfl) ?_
    refine xget (C := RX7) (T := TX7) (N := 34) hF hX hP (by decide +kernel) 0 0 rfl rfl (by decide) (by decide +kernel) rfl dX7_matrix_41 ?_
    refine lv_if_le (tgt := 49) hx hb dX7_matrix_44 (by decide) (fun _ => ?_) (fun c_44 => absurd (by rw [ht]; decide) c_44)
    refine lv_aload_n hx hb dX7_matrix_49 rfl (lv_at hl 0 rfl) ?_
    refine xget (C := RX7) (T := TX7) (N := 34) hF hX hP (by decide +kernel) 0 3 rfl rfl (by decide) (by decide +kernel) rfl dX7_matrix_50 ?_
    refine lv_bipush (v := 64) hx hb dX7_matrix_53 (by decide) ?_
    refine lv_iload_n hx hb dX7_matrix_55 rfl (lv_at hl 1 rfl) ?_
    refine lv_imul hx hb dX7_matrix_56 ?_
    refine xrwi (z := nI (k * 64)) (k64 k) ?_
    refine lv_iload_n hx hb dX7_matrix_57 rfl (lv_at hl 2 rfl) ?_
    refine lv_iadd hx hb dX7_matrix_58 ?_
    refine xrwi (z := nI (k * 64 + j)) (nI_add _ _) ?_
    refine xald (k := k * 64 + j) hF hX hP 1 rfl (nI_clamp (by omega)) (vp_in_nI (by omega) (by decide)) dX7_matrix_59 ?_
    refine lv_istore (lv' := [(4, .int (M (k * 64 + j))), (0, .ref o), (1, .int (nI k)), (2, .int (nI j)), (3, .int v9)]) hx hb dX7_matrix_60 hl (by decide) rfl (fun ls hl => ?_)
    refine lv_aload_n hx hb dX7_matrix_62 rfl (lv_at hl 1 rfl) ?_
    refine xget (C := RX7) (T := TX7) (N := 34) hF hX hP (by decide +kernel) 0 3 rfl rfl (by decide) (by decide +kernel) rfl dX7_matrix_63 ?_
    refine lv_bipush (v := 64) hx hb dX7_matrix_66 (by decide) ?_
    refine lv_iload_n hx hb dX7_matrix_68 rfl (lv_at hl 2 rfl) ?_
    refine lv_imul hx hb dX7_matrix_69 ?_
    refine xrwi (z := nI (k * 64)) (k64 k) ?_
    refine lv_iload_n hx hb dX7_matrix_70 rfl (lv_at hl 3 rfl) ?_
    refine lv_iadd hx hb dX7_matrix_71 ?_
    refine xrwi (z := nI (k * 64 + j)) (nI_add _ _) ?_
    refine lv_iload_n hx hb dX7_matrix_72 rfl (lv_at hl 4 rfl) ?_
    refine xast (k := k * 64 + j) (ws1 := [(o, .inr (7, mdF (tMatrix (nI k) (nI j) v9) W H mt qu zz nw ol ne se ke nc ns is ik dc sc kd md wh fa re ve ps ow tl di lv bf bo bd co bt ma)), (mt, .inl (cs 0, 128, .inl (upd M (k * 64 + j) v9)))]) hF hX hP hD hS 1 rfl (nI_clamp (by omega)) (vp_in_nI (by omega) (by decide)) dX7_matrix_73 rfl (fun Hp locs hP hD hS => ?_)
    refine lv_iload hx hb dX7_matrix_74 (lv_at hl 0 rfl) ?_
    exact xri (Q9 := fun _ _ _ _ => True) hF hr hlk hP hD hS dX7_matrix_76
  refine lv_aload_n hx hb dX7_matrix_0 rfl (lv_at hl 0 rfl) ?_
  refine lv_iload_n hx hb dX7_matrix_1 rfl (lv_at hl 1 rfl) ?_
  refine lv_if_lt (tgt := 32) hx hb dX7_matrix_2 (by decide) (fun c_2 => ?_) (fun c_2 => ?_)
  · refine lv_iconst (v := 1) hx hb dX7_matrix_32 (by decide) ?_
    refine lv_goto (tgt := 37) hx hb dX7_matrix_33 (by decide) ?_
    refine xrwi (z := (tMatrix (nI k) (nI j) v9)) (by simp [tMatrix, c_2]) ?_
    exact join_37   _ _ _ hP hD hS (lv_sub hl [0, 1, 2, 3] rfl)
  · refine lv_iload_n hx hb dX7_matrix_5 rfl (lv_at hl 1 rfl) ?_
    refine lv_iconst (v := 1) hx hb dX7_matrix_6 (by decide) ?_
    refine lv_icmp_gt (tgt := 32) hx hb dX7_matrix_7 (by decide) (fun c_7 => ?_) (fun c_7 => ?_)
    · refine lv_iconst (v := 1) hx hb dX7_matrix_32 (by decide) ?_
      refine lv_goto (tgt := 37) hx hb dX7_matrix_33 (by decide) ?_
      refine xrwi (z := (tMatrix (nI k) (nI j) v9)) (by simp [tMatrix, c_2, c_7]) ?_
      exact join_37   _ _ _ hP hD hS (lv_sub hl [0, 1, 2, 3] rfl)
    · refine lv_iload_n hx hb dX7_matrix_10 rfl (lv_at hl 2 rfl) ?_
      refine lv_if_lt (tgt := 32) hx hb dX7_matrix_11 (by decide) (fun c_11 => ?_) (fun c_11 => ?_)
      · refine lv_iconst (v := 1) hx hb dX7_matrix_32 (by decide) ?_
        refine lv_goto (tgt := 37) hx hb dX7_matrix_33 (by decide) ?_
        refine xrwi (z := (tMatrix (nI k) (nI j) v9)) (by simp [tMatrix, c_2, c_7, c_11]) ?_
        exact join_37   _ _ _ hP hD hS (lv_sub hl [0, 1, 2, 3] rfl)
      · refine lv_iload_n hx hb dX7_matrix_14 rfl (lv_at hl 2 rfl) ?_
        refine lv_bipush (v := 63) hx hb dX7_matrix_15 (by decide) ?_
        refine lv_icmp_gt (tgt := 32) hx hb dX7_matrix_17 (by decide) (fun c_17 => ?_) (fun c_17 => ?_)
        · refine lv_iconst (v := 1) hx hb dX7_matrix_32 (by decide) ?_
          refine lv_goto (tgt := 37) hx hb dX7_matrix_33 (by decide) ?_
          refine xrwi (z := (tMatrix (nI k) (nI j) v9)) (by simp [tMatrix, c_2, c_7, c_11, c_17]) ?_
          exact join_37   _ _ _ hP hD hS (lv_sub hl [0, 1, 2, 3] rfl)
        · refine lv_iload_n hx hb dX7_matrix_20 rfl (lv_at hl 3 rfl) ?_
          refine lv_iconst (v := 1) hx hb dX7_matrix_21 (by decide) ?_
          refine lv_icmp_lt (tgt := 32) hx hb dX7_matrix_22 (by decide) (fun c_22 => ?_) (fun c_22 => ?_)
          · refine lv_iconst (v := 1) hx hb dX7_matrix_32 (by decide) ?_
            refine lv_goto (tgt := 37) hx hb dX7_matrix_33 (by decide) ?_
            refine xrwi (z := (tMatrix (nI k) (nI j) v9)) (by simp [tMatrix, c_2, c_7, c_11, c_17, c_22]) ?_
            exact join_37   _ _ _ hP hD hS (lv_sub hl [0, 1, 2, 3] rfl)
          · refine lv_iload_n hx hb dX7_matrix_25 rfl (lv_at hl 3 rfl) ?_
            refine lv_sipush (v := 255) hx hb dX7_matrix_26 (by decide) ?_
            refine lv_icmp_le (tgt := 36) hx hb dX7_matrix_29 (by decide) (fun c_29 => ?_) (fun c_29 => ?_)
            · refine lv_iconst (v := 0) hx hb dX7_matrix_36 (by decide) ?_
              refine xrwi (z := (tMatrix (nI k) (nI j) v9)) (by simp [tMatrix, c_2, c_7, c_11, c_17, c_22, c_29]) ?_
              exact join_37   _ _ _ hP hD hS (lv_sub hl [0, 1, 2, 3] rfl)
            · refine lv_iconst (v := 1) hx hb dX7_matrix_32 (by decide) ?_
              refine lv_goto (tgt := 37) hx hb dX7_matrix_33 (by decide) ?_
              refine xrwi (z := (tMatrix (nI k) (nI j) v9)) (by simp [tMatrix, c_2, c_7, c_11, c_17, c_22, c_29]) ?_
              exact join_37   _ _ _ hP hD hS (lv_sub hl [0, 1, 2, 3] rfl)

set_option maxHeartbeats 4000000 in
set_option maxRecDepth 100000 in
theorem c_X7_begin_bad (l : Launch) (D : va_G) (cs : Nat → ClassId) (tt : Nat → Nat) (o mt qu zz nw ol ne se ke re ve ps di lv bd co bt ma W H md : Nat) (th nc ns is ik dc sc kd wh fa ow tl bf bo : Int32) (k9 f9 b9 w9 : Int32) (ht : (tBegin kd k9 f9 b9) = 1 ∨ (tBegin kd k9 f9 b9) = 2) : xM l yX7_begin wsX7_begin ({ frames := 0, cells := 0, slots := 0, locals := 0 } : Room) D cs tt [.ref o, .int k9, .int f9, .int b9, .int w9] [(o, .inr (7, mdF th W H mt qu zz nw ol ne se ke nc ns is ik dc sc kd md wh fa re ve ps ow tl di lv bf bo bd co bt ma))] none [(o, .inr (7, mdF (tBegin kd k9 f9 b9) W H mt qu zz nw ol ne se ke nc ns is ik dc sc kd md wh fa re ve ps ow tl di lv bf bo bd co bt ma))] := by
  refine xM.of RX7 rfl (by decide) rfl (Nat.le_of_ble_eq_true rfl) ?_
  intro p e s m below meth c A ls hF hr hlk hX hP hD hS hl
  have hx := hF.1
  have hb := hF.2.1
  have hl : lv_has ls 5 [(0, .ref o), (1, .int k9), (2, .int f9), (3, .int b9), (4, .int w9)] := hl
  have join_49 : ∀ (Hp : Heap) (locs : List Loc) (ls : Array Slot), va_P D vwCl [(o, .inr (7, mdF th W H mt qu zz nw ol ne se ke nc ns is ik dc sc kd md wh fa re ve ps ow tl di lv bf bo bd co bt ma))] Hp → va_D A [(o, .inr (7, mdF th W H mt qu zz nw ol ne se ke nc ns is ik dc sc kd md wh fa re ve ps ow tl di lv bf bo bd co bt ma))] → va_S A s.heap Hp locs → lv_has ls 5 [(0, .ref o), (1, .int k9), (2, .int f9), (3, .int b9), (4, .int w9)] → xW p l e ({ frames := 0, cells := 0, slots := 0, locals := 0 } : Room) s m ([.ref o, .int k9, .int f9, .int b9, .int w9] : List Value).toArray below meth c Hp locs 0 0 (MQ below (xE D A none [(o, .inr (7, mdF (tBegin kd k9 f9 b9) W H mt qu zz nw ol ne se ke nc ns is ik dc sc kd md wh fa re ve ps ow tl di lv bf bo bd co bt ma))]) ([.ref o, .int k9, .int f9, .int b9, .int w9] : List Value).toArray s 0 0 A) (F0 m 49 ls [.int (tBegin kd k9 f9 b9), .ref o]) := by
    intro Hp locs ls hP hD hS hl
    refine xputf (C := RX7) (T := TX7) (N := 34) (ws1 := [(o, .inr (7, mdF (tBegin kd k9 f9 b9) W H mt qu zz nw ol ne se ke nc ns is ik dc sc kd md wh fa re ve ps ow tl di lv bf bo bd co bt ma))]) hF hX hP hD hS (by decide +kernel) tyX7 tyX7_ok nmX7 0 0 rfl rfl (by decide) (by decide +kernel) rfl (rfl) (rfl) (Nat.le_of_ble_eq_true rfl) dX7_begin_49 rfl (fun Hp locs hP hD hS => ?_)
    refine lv_aload_n hx hb dX7_begin_52 rfl (lv_at hl 0 rfl) ?_
    refine xget (C := RX7) (T := TX7) (N := 34) hF hX hP (by decide +kernel) 0 0 rfl rfl (by decide) (by decide +kernel) rfl dX7_begin_53 ?_
    refine lv_if_le (tgt := 60) hx hb dX7_begin_56 (by decide) (fun c_56 => absurd c_56 (by rcases ht with h9 | h9 <;> rw [h9] <;> decide)) (fun _ => ?_)
    exact xrv hF hr hlk hP hD hS dX7_begin_59
  refine lv_aload_n hx hb dX7_begin_0 rfl (lv_at hl 0 rfl) ?_
  refine lv_iload_n hx hb dX7_begin_1 rfl (lv_at hl 1 rfl) ?_
  refine lv_iconst (v := 1) hx hb dX7_begin_2 (by decide) ?_
  refine lv_icmp_lt (tgt := 33) hx hb dX7_begin_3 (by decide) (fun c_3 => ?_) (fun c_3 => ?_)
  · refine lv_iconst (v := 1) hx hb dX7_begin_33 (by decide) ?_
    refine lv_goto (tgt := 49) hx hb dX7_begin_34 (by decide) ?_
    refine xrwi (z := (tBegin kd k9 f9 b9)) (by simp [tBegin, c_3]) ?_
    exact join_49   _ _ _ hP hD hS (lv_sub hl [0, 1, 2, 3, 4] rfl)
  · refine lv_iload_n hx hb dX7_begin_6 rfl (lv_at hl 1 rfl) ?_
    refine lv_iconst (v := 3) hx hb dX7_begin_7 (by decide) ?_
    refine lv_icmp_gt (tgt := 33) hx hb dX7_begin_8 (by decide) (fun c_8 => ?_) (fun c_8 => ?_)
    · refine lv_iconst (v := 1) hx hb dX7_begin_33 (by decide) ?_
      refine lv_goto (tgt := 49) hx hb dX7_begin_34 (by decide) ?_
      refine xrwi (z := (tBegin kd k9 f9 b9)) (by simp [tBegin, c_3, c_8]) ?_
      exact join_49   _ _ _ hP hD hS (lv_sub hl [0, 1, 2, 3, 4] rfl)
    · refine lv_iload_n hx hb dX7_begin_11 rfl (lv_at hl 2 rfl) ?_
      refine lv_iconst (v := 1) hx hb dX7_begin_12 (by decide) ?_
      refine lv_icmp_lt (tgt := 33) hx hb dX7_begin_13 (by decide) (fun c_13 => ?_) (fun c_13 => ?_)
      · refine lv_iconst (v := 1) hx hb dX7_begin_33 (by decide) ?_
        refine lv_goto (tgt := 49) hx hb dX7_begin_34 (by decide) ?_
        refine xrwi (z := (tBegin kd k9 f9 b9)) (by simp [tBegin, c_3, c_8, c_13]) ?_
        exact join_49   _ _ _ hP hD hS (lv_sub hl [0, 1, 2, 3, 4] rfl)
      · refine lv_iload_n hx hb dX7_begin_16 rfl (lv_at hl 2 rfl) ?_
        refine lv_bipush (v := 16) hx hb dX7_begin_17 (by decide) ?_
        refine lv_icmp_gt (tgt := 33) hx hb dX7_begin_19 (by decide) (fun c_19 => ?_) (fun c_19 => ?_)
        · refine lv_iconst (v := 1) hx hb dX7_begin_33 (by decide) ?_
          refine lv_goto (tgt := 49) hx hb dX7_begin_34 (by decide) ?_
          refine xrwi (z := (tBegin kd k9 f9 b9)) (by simp [tBegin, c_3, c_8, c_13, c_19]) ?_
          exact join_49   _ _ _ hP hD hS (lv_sub hl [0, 1, 2, 3, 4] rfl)
        · refine lv_iload_n hx hb dX7_begin_22 rfl (lv_at hl 3 rfl) ?_
          refine lv_iconst (v := 1) hx hb dX7_begin_23 (by decide) ?_
          refine lv_icmp_lt (tgt := 33) hx hb dX7_begin_24 (by decide) (fun c_24 => ?_) (fun c_24 => ?_)
          · refine lv_iconst (v := 1) hx hb dX7_begin_33 (by decide) ?_
            refine lv_goto (tgt := 49) hx hb dX7_begin_34 (by decide) ?_
            refine xrwi (z := (tBegin kd k9 f9 b9)) (by simp [tBegin, c_3, c_8, c_13, c_19, c_24]) ?_
            exact join_49   _ _ _ hP hD hS (lv_sub hl [0, 1, 2, 3, 4] rfl)
          · refine lv_iload_n hx hb dX7_begin_27 rfl (lv_at hl 3 rfl) ?_
            refine lv_bipush (v := 16) hx hb dX7_begin_28 (by decide) ?_
            refine lv_icmp_le (tgt := 37) hx hb dX7_begin_30 (by decide) (fun c_30 => ?_) (fun c_30 => ?_)
            · refine lv_aload_n hx hb dX7_begin_37 rfl (lv_at hl 0 rfl) ?_
              refine xget (C := RX7) (T := TX7) (N := 34) hF hX hP (by decide +kernel) 0 17 rfl rfl (by decide) (by decide +kernel) rfl dX7_begin_38 ?_
              refine lv_if_le (tgt := 48) hx hb dX7_begin_41 (by decide) (fun c_41 => ?_) (fun c_41 => ?_)
              · refine lv_iconst (v := 0) hx hb dX7_begin_48 (by decide) ?_
                refine xrwi (z := (tBegin kd k9 f9 b9)) (by simp [tBegin, c_3, c_8, c_13, c_19, c_24, c_30, c_41]) ?_
                exact join_49   _ _ _ hP hD hS (lv_sub hl [0, 1, 2, 3, 4] rfl)
              · refine lv_iconst (v := 2) hx hb dX7_begin_44 (by decide) ?_
                refine lv_goto (tgt := 49) hx hb dX7_begin_45 (by decide) ?_
                refine xrwi (z := (tBegin kd k9 f9 b9)) (by simp [tBegin, c_3, c_8, c_13, c_19, c_24, c_30, c_41]) ?_
                exact join_49   _ _ _ hP hD hS (lv_sub hl [0, 1, 2, 3, 4] rfl)
            · refine lv_iconst (v := 1) hx hb dX7_begin_33 (by decide) ?_
              refine lv_goto (tgt := 49) hx hb dX7_begin_34 (by decide) ?_
              refine xrwi (z := (tBegin kd k9 f9 b9)) (by simp [tBegin, c_3, c_8, c_13, c_19, c_24, c_30]) ?_
              exact join_49   _ _ _ hP hD hS (lv_sub hl [0, 1, 2, 3, 4] rfl)

set_option maxHeartbeats 4000000 in
set_option maxRecDepth 100000 in
theorem c_X7_begin_ok (l : Launch) (D : va_G) (cs : Nat → ClassId) (tt : Nat → Nat) (o mt qu zz nw ol ne se ke re ve ps di lv bd co bt ma W H md : Nat) (th nc ns is ik dc sc kd wh fa ow tl bf bo : Int32) (k9 f9 b9 w9 : Int32) (Re V P Di Lv : Nat → Int32) (ht : (tBegin kd k9 f9 b9) = 0) (hw9 : w9 = 0 ∨ w9 = 1) : xM l yX7_begin wsX7_begin ({ frames := 1, cells := 0, slots := 0, locals := 21 } : Room) D cs tt [.ref o, .int k9, .int f9, .int b9, .int w9] [(o, .inr (7, mdF th W H mt qu zz nw ol ne se ke nc ns is ik dc sc kd md wh fa re ve ps ow tl di lv bf bo bd co bt ma)), (re, .inl (cs 0, 2, .inl Re)), (ve, .inl (cs 0, 4, .inl V)), (ps, .inl (cs 0, 3, .inl P)), (di, .inl (cs 1, 2, .inl Di)), (lv, .inl (cs 0, 384, .inl Lv))] none [(o, .inr (7, mdF (tBegin kd k9 f9 b9) W H mt qu zz nw ol ne se ke nc ns is ik dc sc k9 0 w9 1 re ve ps 0 0 di lv 0 bo bd co bt ma)), (re, .inl (cs 0, 2, .inl (du f9 b9))), (ve, .inl (cs 0, 4, .inl (fun _ => 0))), (ps, .inl (cs 0, 3, .inl (fun _ => 1024))), (di, .inl (cs 1, 2, .inl (fun _ => 0))), (lv, .inl (cs 0, 384, .inl (fun _ => 0)))] := by
  refine xM.of RX7 rfl (by decide) rfl (Nat.le_of_ble_eq_true rfl) ?_
  intro p e s m below meth c A ls hF hr hlk hX hP hD hS hl
  have hx := hF.1
  have hb := hF.2.1
  have hl : lv_has ls 5 [(0, .ref o), (1, .int k9), (2, .int f9), (3, .int b9), (4, .int w9)] := hl
  have join_49 : ∀ (Hp : Heap) (locs : List Loc) (ls : Array Slot), va_P D vwCl [(o, .inr (7, mdF th W H mt qu zz nw ol ne se ke nc ns is ik dc sc kd md wh fa re ve ps ow tl di lv bf bo bd co bt ma)), (re, .inl (cs 0, 2, .inl Re)), (ve, .inl (cs 0, 4, .inl V)), (ps, .inl (cs 0, 3, .inl P)), (di, .inl (cs 1, 2, .inl Di)), (lv, .inl (cs 0, 384, .inl Lv))] Hp → va_D A [(o, .inr (7, mdF th W H mt qu zz nw ol ne se ke nc ns is ik dc sc kd md wh fa re ve ps ow tl di lv bf bo bd co bt ma)), (re, .inl (cs 0, 2, .inl Re)), (ve, .inl (cs 0, 4, .inl V)), (ps, .inl (cs 0, 3, .inl P)), (di, .inl (cs 1, 2, .inl Di)), (lv, .inl (cs 0, 384, .inl Lv))] → va_S A s.heap Hp locs → lv_has ls 5 [(0, .ref o), (1, .int k9), (2, .int f9), (3, .int b9), (4, .int w9)] → xW p l e ({ frames := 1, cells := 0, slots := 0, locals := 21 } : Room) s m ([.ref o, .int k9, .int f9, .int b9, .int w9] : List Value).toArray below meth c Hp locs 0 0 (MQ below (xE D A none [(o, .inr (7, mdF (tBegin kd k9 f9 b9) W H mt qu zz nw ol ne se ke nc ns is ik dc sc k9 0 w9 1 re ve ps 0 0 di lv 0 bo bd co bt ma)), (re, .inl (cs 0, 2, .inl (du f9 b9))), (ve, .inl (cs 0, 4, .inl (fun _ => 0))), (ps, .inl (cs 0, 3, .inl (fun _ => 1024))), (di, .inl (cs 1, 2, .inl (fun _ => 0))), (lv, .inl (cs 0, 384, .inl (fun _ => 0)))]) ([.ref o, .int k9, .int f9, .int b9, .int w9] : List Value).toArray s 0 0 A) (F0 m 49 ls [.int (tBegin kd k9 f9 b9), .ref o]) := by
    intro Hp locs ls hP hD hS hl
    refine xputf (C := RX7) (T := TX7) (N := 34) (ws1 := [(o, .inr (7, mdF (tBegin kd k9 f9 b9) W H mt qu zz nw ol ne se ke nc ns is ik dc sc kd md wh fa re ve ps ow tl di lv bf bo bd co bt ma)), (re, .inl (cs 0, 2, .inl Re)), (ve, .inl (cs 0, 4, .inl V)), (ps, .inl (cs 0, 3, .inl P)), (di, .inl (cs 1, 2, .inl Di)), (lv, .inl (cs 0, 384, .inl Lv))]) hF hX hP hD hS (by decide +kernel) tyX7 tyX7_ok nmX7 0 0 rfl rfl (by decide) (by decide +kernel) rfl (rfl) (rfl) (Nat.le_of_ble_eq_true rfl) dX7_begin_49 rfl (fun Hp locs hP hD hS => ?_)
    refine lv_aload_n hx hb dX7_begin_52 rfl (lv_at hl 0 rfl) ?_
    refine xget (C := RX7) (T := TX7) (N := 34) hF hX hP (by decide +kernel) 0 0 rfl rfl (by decide) (by decide +kernel) rfl dX7_begin_53 ?_
    refine lv_if_le (tgt := 60) hx hb dX7_begin_56 (by decide) (fun _ => ?_) (fun c_56 => absurd (by rw [ht]; decide) c_56)
    refine lv_aload_n hx hb dX7_begin_60 rfl (lv_at hl 0 rfl) ?_
    refine lv_iload_n hx hb dX7_begin_61 rfl (lv_at hl 1 rfl) ?_
    refine xputf (C := RX7) (T := TX7) (N := 34) (ws1 := [(o, .inr (7, mdF (tBegin kd k9 f9 b9) W H mt qu zz nw ol ne se ke nc ns is ik dc sc k9 md wh fa re ve ps ow tl di lv bf bo bd co bt ma)), (re, .inl (cs 0, 2, .inl Re)), (ve, .inl (cs 0, 4, .inl V)), (ps, .inl (cs 0, 3, .inl P)), (di, .inl (cs 1, 2, .inl Di)), (lv, .inl (cs 0, 384, .inl Lv))]) hF hX hP hD hS (by decide +kernel) tyX7 tyX7_ok nmX7 0 17 rfl rfl (by decide) (by decide +kernel) rfl (rfl) (rfl) (Nat.le_of_ble_eq_true rfl) dX7_begin_62 rfl (fun Hp locs hP hD hS => ?_)
    refine lv_aload_n hx hb dX7_begin_65 rfl (lv_at hl 0 rfl) ?_
    refine xget (C := RX7) (T := TX7) (N := 34) hF hX hP (by decide +kernel) 0 21 rfl rfl (by decide) (by decide +kernel) rfl dX7_begin_66 ?_
    refine lv_iconst (v := 0) hx hb dX7_begin_69 (by decide) ?_
    refine lv_iload_n hx hb dX7_begin_70 rfl (lv_at hl 2 rfl) ?_
    refine xast (k := 0) (ws1 := [(o, .inr (7, mdF (tBegin kd k9 f9 b9) W H mt qu zz nw ol ne se ke nc ns is ik dc sc k9 md wh fa re ve ps ow tl di lv bf bo bd co bt ma)), (re, .inl (cs 0, 2, .inl (upd Re 0 f9))), (ve, .inl (cs 0, 4, .inl V)), (ps, .inl (cs 0, 3, .inl P)), (di, .inl (cs 1, 2, .inl Di)), (lv, .inl (cs 0, 384, .inl Lv))]) hF hX hP hD hS 1 rfl (rfl) (vp_in_nI (n := 0) (by decide) (by decide)) dX7_begin_71 rfl (fun Hp locs hP hD hS => ?_)
    refine lv_aload_n hx hb dX7_begin_72 rfl (lv_at hl 0 rfl) ?_
    refine xget (C := RX7) (T := TX7) (N := 34) hF hX hP (by decide +kernel) 0 21 rfl rfl (by decide) (by decide +kernel) rfl dX7_begin_73 ?_
    refine lv_iconst (v := 1) hx hb dX7_begin_76 (by decide) ?_
    refine lv_iload_n hx hb dX7_begin_77 rfl (lv_at hl 3 rfl) ?_
    refine xast (k := 1) (ws1 := [(o, .inr (7, mdF (tBegin kd k9 f9 b9) W H mt qu zz nw ol ne se ke nc ns is ik dc sc k9 md wh fa re ve ps ow tl di lv bf bo bd co bt ma)), (re, .inl (cs 0, 2, .inl (upd (upd Re 0 f9) 1 b9))), (ve, .inl (cs 0, 4, .inl V)), (ps, .inl (cs 0, 3, .inl P)), (di, .inl (cs 1, 2, .inl Di)), (lv, .inl (cs 0, 384, .inl Lv))]) hF hX hP hD hS 1 rfl (rfl) (vp_in_nI (n := 1) (by decide) (by decide)) dX7_begin_78 rfl (fun Hp locs hP hD hS => ?_)
    have hP1 : va_P D vwCl [(o, .inr (7, mdF (tBegin kd k9 f9 b9) W H mt qu zz nw ol ne se ke nc ns is ik dc sc k9 md wh fa re ve ps ow tl di lv bf bo bd co bt ma)), (re, .inl (cs 0, 2, .inl (du f9 b9))), (ve, .inl (cs 0, 4, .inl V)), (ps, .inl (cs 0, 3, .inl P)), (di, .inl (cs 1, 2, .inl Di)), (lv, .inl (cs 0, 384, .inl Lv))] Hp := xcongP (g := (du f9 b9)) hP 1 rfl hD (duI)
    have hD : va_D A [(o, .inr (7, mdF (tBegin kd k9 f9 b9) W H mt qu zz nw ol ne se ke nc ns is ik dc sc k9 md wh fa re ve ps ow tl di lv bf bo bd co bt ma)), (re, .inl (cs 0, 2, .inl (du f9 b9))), (ve, .inl (cs 0, 4, .inl V)), (ps, .inl (cs 0, 3, .inl P)), (di, .inl (cs 1, 2, .inl Di)), (lv, .inl (cs 0, 384, .inl Lv))] := xcongD (g := (du f9 b9)) 1 rfl hD
    have hP := hP1
    refine lv_aload_n hx hb dX7_begin_79 rfl (lv_at hl 0 rfl) ?_
    refine lv_iload hx hb dX7_begin_80 (lv_at hl 4 rfl) ?_
    refine xputf (C := RX7) (T := TX7) (N := 34) (ws1 := [(o, .inr (7, mdF (tBegin kd k9 f9 b9) W H mt qu zz nw ol ne se ke nc ns is ik dc sc k9 md w9 fa re ve ps ow tl di lv bf bo bd co bt ma)), (re, .inl (cs 0, 2, .inl (du f9 b9))), (ve, .inl (cs 0, 4, .inl V)), (ps, .inl (cs 0, 3, .inl P)), (di, .inl (cs 1, 2, .inl Di)), (lv, .inl (cs 0, 384, .inl Lv))]) hF hX hP hD hS (by decide +kernel) tyX7 tyX7_ok nmX7 0 19 rfl rfl (by decide) (by decide +kernel) rfl (narB hw9) (fitB hw9) (Nat.le_of_ble_eq_true rfl) dX7_begin_82 rfl (fun Hp locs hP hD hS => ?_)
    refine lv_aload_n hx hb dX7_begin_85 rfl (lv_at hl 0 rfl) ?_
    refine lv_iconst (v := 1) hx hb dX7_begin_86 (by decide) ?_
    refine xputf (C := RX7) (T := TX7) (N := 34) (ws1 := [(o, .inr (7, mdF (tBegin kd k9 f9 b9) W H mt qu zz nw ol ne se ke nc ns is ik dc sc k9 md w9 1 re ve ps ow tl di lv bf bo bd co bt ma)), (re, .inl (cs 0, 2, .inl (du f9 b9))), (ve, .inl (cs 0, 4, .inl V)), (ps, .inl (cs 0, 3, .inl P)), (di, .inl (cs 1, 2, .inl Di)), (lv, .inl (cs 0, 384, .inl Lv))]) hF hX hP hD hS (by decide +kernel) tyX7 tyX7_ok nmX7 0 20 rfl rfl (by decide) (by decide +kernel) rfl (rfl) (rfl) (Nat.le_of_ble_eq_true rfl) dX7_begin_87 rfl (fun Hp locs hP hD hS => ?_)
    refine lv_aload_n hx hb dX7_begin_90 rfl (lv_at hl 0 rfl) ?_
    refine lv_iconst (v := 0) hx hb dX7_begin_91 (by decide) ?_
    refine xputf (C := RX7) (T := TX7) (N := 34) (ws1 := [(o, .inr (7, mdF (tBegin kd k9 f9 b9) W H mt qu zz nw ol ne se ke nc ns is ik dc sc k9 0 w9 1 re ve ps ow tl di lv bf bo bd co bt ma)), (re, .inl (cs 0, 2, .inl (du f9 b9))), (ve, .inl (cs 0, 4, .inl V)), (ps, .inl (cs 0, 3, .inl P)), (di, .inl (cs 1, 2, .inl Di)), (lv, .inl (cs 0, 384, .inl Lv))]) hF hX hP hD hS (by decide +kernel) tyX7 tyX7_ok nmX7 0 18 rfl rfl (by decide) (by decide +kernel) rfl (rfl) (rfl) (Nat.le_of_ble_eq_true rfl) dX7_begin_92 rfl (fun Hp locs hP hD hS => ?_)
    refine lv_aload_n hx hb dX7_begin_95 rfl (lv_at hl 0 rfl) ?_
    refine lv_iconst (v := 0) hx hb dX7_begin_96 (by decide) ?_
    refine xputf (C := RX7) (T := TX7) (N := 34) (ws1 := [(o, .inr (7, mdF (tBegin kd k9 f9 b9) W H mt qu zz nw ol ne se ke nc ns is ik dc sc k9 0 w9 1 re ve ps ow tl di lv 0 bo bd co bt ma)), (re, .inl (cs 0, 2, .inl (du f9 b9))), (ve, .inl (cs 0, 4, .inl V)), (ps, .inl (cs 0, 3, .inl P)), (di, .inl (cs 1, 2, .inl Di)), (lv, .inl (cs 0, 384, .inl Lv))]) hF hX hP hD hS (by decide +kernel) tyX7 tyX7_ok nmX7 0 28 rfl rfl (by decide) (by decide +kernel) rfl (rfl) (rfl) (Nat.le_of_ble_eq_true rfl) dX7_begin_97 rfl (fun Hp locs hP hD hS => ?_)
    refine lv_aload_n hx hb dX7_begin_100 rfl (lv_at hl 0 rfl) ?_
    refine xV (rest := []) (As := []) (ws1 := [(o, .inr (7, mdF (tBegin kd k9 f9 b9) W H mt qu zz nw ol ne se ke nc ns is ik dc sc k9 0 w9 1 re ve ps ow tl di lv 0 bo bd co bt ma)), (re, .inl (cs 0, 2, .inl (du f9 b9))), (ve, .inl (cs 0, 4, .inl (fun _ => 0))), (ps, .inl (cs 0, 3, .inl P)), (di, .inl (cs 1, 2, .inl Di)), (lv, .inl (cs 0, 384, .inl Lv))]) (st1 := []) hF (c_X7_clearVectors l D cs tt o mt qu zz nw ol ne se ke re ve ps di lv bd co bt ma W H 0 (tBegin kd k9 f9 b9) nc ns is ik dc sc k9 w9 1 ow tl 0 bo V) gX7_begin_X7_clearVectors rfl (n := 0) (by decide +kernel) rfl ⟨⟨rfl, rfl⟩, Nat.le_of_ble_eq_true rfl, Nat.le_of_ble_eq_true rfl⟩ ⟨Nat.le_of_ble_eq_true rfl, Nat.le_of_ble_eq_true rfl⟩ hX hP hD hS [0, 2] (by decide) rfl [o, ve] rfl rfl (q0 := 0) (ci := 7) rfl rfl rfl hl.1 rfl (Nat.le_of_ble_eq_true rfl) dX7_begin_101 rfl rfl (fun Hp locs hP hD hS => ?_)
    refine lv_aload_n hx hb dX7_begin_104 rfl (lv_at hl 0 rfl) ?_
    refine xV (rest := []) (As := []) (ws1 := [(o, .inr (7, mdF (tBegin kd k9 f9 b9) W H mt qu zz nw ol ne se ke nc ns is ik dc sc k9 0 w9 1 re ve ps ow tl di lv 0 bo bd co bt ma)), (re, .inl (cs 0, 2, .inl (du f9 b9))), (ve, .inl (cs 0, 4, .inl (fun _ => 0))), (ps, .inl (cs 0, 3, .inl (fun _ => 1024))), (di, .inl (cs 1, 2, .inl Di)), (lv, .inl (cs 0, 384, .inl Lv))]) (st1 := []) hF (c_X7_clearPasts l D cs tt o mt qu zz nw ol ne se ke re ve ps di lv bd co bt ma W H 0 (tBegin kd k9 f9 b9) nc ns is ik dc sc k9 w9 1 ow tl 0 bo P) gX7_begin_X7_clearPasts rfl (n := 0) (by decide +kernel) rfl ⟨⟨rfl, rfl⟩, Nat.le_of_ble_eq_true rfl, Nat.le_of_ble_eq_true rfl⟩ ⟨Nat.le_of_ble_eq_true rfl, Nat.le_of_ble_eq_true rfl⟩ hX hP hD hS [0, 3] (by decide) rfl [o, ps] rfl rfl (q0 := 0) (ci := 7) rfl rfl rfl hl.1 rfl (Nat.le_of_ble_eq_true rfl) dX7_begin_105 rfl rfl (fun Hp locs hP hD hS => ?_)
    refine lv_aload_n hx hb dX7_begin_108 rfl (lv_at hl 0 rfl) ?_
    refine xV (rest := []) (As := []) (ws1 := [(o, .inr (7, mdF (tBegin kd k9 f9 b9) W H mt qu zz nw ol ne se ke nc ns is ik dc sc k9 0 w9 1 re ve ps 0 0 di lv 0 bo bd co bt ma)), (re, .inl (cs 0, 2, .inl (du f9 b9))), (ve, .inl (cs 0, 4, .inl (fun _ => 0))), (ps, .inl (cs 0, 3, .inl (fun _ => 1024))), (di, .inl (cs 1, 2, .inl (fun _ => 0))), (lv, .inl (cs 0, 384, .inl (fun _ => 0)))]) (st1 := []) hF (c_X7_forget l D cs tt o mt qu zz nw ol ne se ke re ve ps di lv bd co bt ma W H 0 (tBegin kd k9 f9 b9) nc ns is ik dc sc k9 w9 1 ow tl 0 bo Di Lv) gX7_begin_X7_forget rfl (n := 0) (by decide +kernel) rfl ⟨⟨rfl, rfl⟩, Nat.le_of_ble_eq_true rfl, Nat.le_of_ble_eq_true rfl⟩ ⟨Nat.le_of_ble_eq_true rfl, Nat.le_of_ble_eq_true rfl⟩ hX hP hD hS [0, 4, 5] (by decide) rfl [o, di, lv] rfl rfl (q0 := 0) (ci := 7) rfl rfl rfl hl.1 rfl (Nat.le_of_ble_eq_true rfl) dX7_begin_109 rfl rfl (fun Hp locs hP hD hS => ?_)
    exact xrv hF hr hlk hP hD hS dX7_begin_112
  refine lv_aload_n hx hb dX7_begin_0 rfl (lv_at hl 0 rfl) ?_
  refine lv_iload_n hx hb dX7_begin_1 rfl (lv_at hl 1 rfl) ?_
  refine lv_iconst (v := 1) hx hb dX7_begin_2 (by decide) ?_
  refine lv_icmp_lt (tgt := 33) hx hb dX7_begin_3 (by decide) (fun c_3 => ?_) (fun c_3 => ?_)
  · refine lv_iconst (v := 1) hx hb dX7_begin_33 (by decide) ?_
    refine lv_goto (tgt := 49) hx hb dX7_begin_34 (by decide) ?_
    refine xrwi (z := (tBegin kd k9 f9 b9)) (by simp [tBegin, c_3]) ?_
    exact join_49   _ _ _ hP hD hS (lv_sub hl [0, 1, 2, 3, 4] rfl)
  · refine lv_iload_n hx hb dX7_begin_6 rfl (lv_at hl 1 rfl) ?_
    refine lv_iconst (v := 3) hx hb dX7_begin_7 (by decide) ?_
    refine lv_icmp_gt (tgt := 33) hx hb dX7_begin_8 (by decide) (fun c_8 => ?_) (fun c_8 => ?_)
    · refine lv_iconst (v := 1) hx hb dX7_begin_33 (by decide) ?_
      refine lv_goto (tgt := 49) hx hb dX7_begin_34 (by decide) ?_
      refine xrwi (z := (tBegin kd k9 f9 b9)) (by simp [tBegin, c_3, c_8]) ?_
      exact join_49   _ _ _ hP hD hS (lv_sub hl [0, 1, 2, 3, 4] rfl)
    · refine lv_iload_n hx hb dX7_begin_11 rfl (lv_at hl 2 rfl) ?_
      refine lv_iconst (v := 1) hx hb dX7_begin_12 (by decide) ?_
      refine lv_icmp_lt (tgt := 33) hx hb dX7_begin_13 (by decide) (fun c_13 => ?_) (fun c_13 => ?_)
      · refine lv_iconst (v := 1) hx hb dX7_begin_33 (by decide) ?_
        refine lv_goto (tgt := 49) hx hb dX7_begin_34 (by decide) ?_
        refine xrwi (z := (tBegin kd k9 f9 b9)) (by simp [tBegin, c_3, c_8, c_13]) ?_
        exact join_49   _ _ _ hP hD hS (lv_sub hl [0, 1, 2, 3, 4] rfl)
      · refine lv_iload_n hx hb dX7_begin_16 rfl (lv_at hl 2 rfl) ?_
        refine lv_bipush (v := 16) hx hb dX7_begin_17 (by decide) ?_
        refine lv_icmp_gt (tgt := 33) hx hb dX7_begin_19 (by decide) (fun c_19 => ?_) (fun c_19 => ?_)
        · refine lv_iconst (v := 1) hx hb dX7_begin_33 (by decide) ?_
          refine lv_goto (tgt := 49) hx hb dX7_begin_34 (by decide) ?_
          refine xrwi (z := (tBegin kd k9 f9 b9)) (by simp [tBegin, c_3, c_8, c_13, c_19]) ?_
          exact join_49   _ _ _ hP hD hS (lv_sub hl [0, 1, 2, 3, 4] rfl)
        · refine lv_iload_n hx hb dX7_begin_22 rfl (lv_at hl 3 rfl) ?_
          refine lv_iconst (v := 1) hx hb dX7_begin_23 (by decide) ?_
          refine lv_icmp_lt (tgt := 33) hx hb dX7_begin_24 (by decide) (fun c_24 => ?_) (fun c_24 => ?_)
          · refine lv_iconst (v := 1) hx hb dX7_begin_33 (by decide) ?_
            refine lv_goto (tgt := 49) hx hb dX7_begin_34 (by decide) ?_
            refine xrwi (z := (tBegin kd k9 f9 b9)) (by simp [tBegin, c_3, c_8, c_13, c_19, c_24]) ?_
            exact join_49   _ _ _ hP hD hS (lv_sub hl [0, 1, 2, 3, 4] rfl)
          · refine lv_iload_n hx hb dX7_begin_27 rfl (lv_at hl 3 rfl) ?_
            refine lv_bipush (v := 16) hx hb dX7_begin_28 (by decide) ?_
            refine lv_icmp_le (tgt := 37) hx hb dX7_begin_30 (by decide) (fun c_30 => ?_) (fun c_30 => ?_)
            · refine lv_aload_n hx hb dX7_begin_37 rfl (lv_at hl 0 rfl) ?_
              refine xget (C := RX7) (T := TX7) (N := 34) hF hX hP (by decide +kernel) 0 17 rfl rfl (by decide) (by decide +kernel) rfl dX7_begin_38 ?_
              refine lv_if_le (tgt := 48) hx hb dX7_begin_41 (by decide) (fun c_41 => ?_) (fun c_41 => ?_)
              · refine lv_iconst (v := 0) hx hb dX7_begin_48 (by decide) ?_
                refine xrwi (z := (tBegin kd k9 f9 b9)) (by simp [tBegin, c_3, c_8, c_13, c_19, c_24, c_30, c_41]) ?_
                exact join_49   _ _ _ hP hD hS (lv_sub hl [0, 1, 2, 3, 4] rfl)
              · refine lv_iconst (v := 2) hx hb dX7_begin_44 (by decide) ?_
                refine lv_goto (tgt := 49) hx hb dX7_begin_45 (by decide) ?_
                refine xrwi (z := (tBegin kd k9 f9 b9)) (by simp [tBegin, c_3, c_8, c_13, c_19, c_24, c_30, c_41]) ?_
                exact join_49   _ _ _ hP hD hS (lv_sub hl [0, 1, 2, 3, 4] rfl)
            · refine lv_iconst (v := 1) hx hb dX7_begin_33 (by decide) ?_
              refine lv_goto (tgt := 49) hx hb dX7_begin_34 (by decide) ?_
              refine xrwi (z := (tBegin kd k9 f9 b9)) (by simp [tBegin, c_3, c_8, c_13, c_19, c_24, c_30]) ?_
              exact join_49   _ _ _ hP hD hS (lv_sub hl [0, 1, 2, 3, 4] rfl)

set_option maxHeartbeats 4000000 in
set_option maxRecDepth 100000 in
theorem c_X7_scale_bad (l : Launch) (D : va_G) (cs : Nat → ClassId) (tt : Nat → Nat) (o mt qu zz nw ol ne se ke re ve ps di lv bd co bt ma W H md : Nat) (th nc ns is ik dc sc kd wh fa ow tl bf bo : Int32) (q9 : Int32) (ht : (tScale kd q9) = 1 ∨ (tScale kd q9) = 2) : xM l yX7_scale wsX7_scale ({ frames := 0, cells := 0, slots := 0, locals := 0 } : Room) D cs tt [.ref o, .int q9] [(o, .inr (7, mdF th W H mt qu zz nw ol ne se ke nc ns is ik dc sc kd md wh fa re ve ps ow tl di lv bf bo bd co bt ma))] none [(o, .inr (7, mdF (tScale kd q9) W H mt qu zz nw ol ne se ke nc ns is ik dc sc kd md wh fa re ve ps ow tl di lv bf bo bd co bt ma))] := by
  refine xM.of RX7 rfl (by decide) rfl (Nat.le_of_ble_eq_true rfl) ?_
  intro p e s m below meth c A ls hF hr hlk hX hP hD hS hl
  have hx := hF.1
  have hb := hF.2.1
  have hl : lv_has ls 2 [(0, .ref o), (1, .int q9)] := hl
  have join_28 : ∀ (Hp : Heap) (locs : List Loc) (ls : Array Slot), va_P D vwCl [(o, .inr (7, mdF th W H mt qu zz nw ol ne se ke nc ns is ik dc sc kd md wh fa re ve ps ow tl di lv bf bo bd co bt ma))] Hp → va_D A [(o, .inr (7, mdF th W H mt qu zz nw ol ne se ke nc ns is ik dc sc kd md wh fa re ve ps ow tl di lv bf bo bd co bt ma))] → va_S A s.heap Hp locs → lv_has ls 2 [(0, .ref o), (1, .int q9)] → xW p l e ({ frames := 0, cells := 0, slots := 0, locals := 0 } : Room) s m ([.ref o, .int q9] : List Value).toArray below meth c Hp locs 0 0 (MQ below (xE D A none [(o, .inr (7, mdF (tScale kd q9) W H mt qu zz nw ol ne se ke nc ns is ik dc sc kd md wh fa re ve ps ow tl di lv bf bo bd co bt ma))]) ([.ref o, .int q9] : List Value).toArray s 0 0 A) (F0 m 28 ls [.int (tScale kd q9), .ref o]) := by
    intro Hp locs ls hP hD hS hl
    refine xputf (C := RX7) (T := TX7) (N := 34) (ws1 := [(o, .inr (7, mdF (tScale kd q9) W H mt qu zz nw ol ne se ke nc ns is ik dc sc kd md wh fa re ve ps ow tl di lv bf bo bd co bt ma))]) hF hX hP hD hS (by decide +kernel) tyX7 tyX7_ok nmX7 0 0 rfl rfl (by decide) (by decide +kernel) rfl (rfl) (rfl) (Nat.le_of_ble_eq_true rfl) dX7_scale_28 rfl (fun Hp locs hP hD hS => ?_)
    refine lv_aload_n hx hb dX7_scale_31 rfl (lv_at hl 0 rfl) ?_
    refine xget (C := RX7) (T := TX7) (N := 34) hF hX hP (by decide +kernel) 0 0 rfl rfl (by decide) (by decide +kernel) rfl dX7_scale_32 ?_
    refine lv_if_ne (tgt := 43) hx hb dX7_scale_35 (by decide) (fun _ => ?_) (fun c_35 => absurd c_35 (by rcases ht with h9 | h9 <;> rw [h9] <;> decide))
    exact xrv hF hr hlk hP hD hS dX7_scale_43
  refine lv_aload_n hx hb dX7_scale_0 rfl (lv_at hl 0 rfl) ?_
  refine lv_iload_n hx hb dX7_scale_1 rfl (lv_at hl 1 rfl) ?_
  refine lv_iconst (v := 1) hx hb dX7_scale_2 (by decide) ?_
  refine lv_icmp_lt (tgt := 12) hx hb dX7_scale_3 (by decide) (fun c_3 => ?_) (fun c_3 => ?_)
  · refine lv_iconst (v := 1) hx hb dX7_scale_12 (by decide) ?_
    refine lv_goto (tgt := 28) hx hb dX7_scale_13 (by decide) ?_
    refine xrwi (z := (tScale kd q9)) (by simp [tScale, c_3]) ?_
    exact join_28   _ _ _ hP hD hS (lv_sub hl [0, 1] rfl)
  · refine lv_iload_n hx hb dX7_scale_6 rfl (lv_at hl 1 rfl) ?_
    refine lv_bipush (v := 31) hx hb dX7_scale_7 (by decide) ?_
    refine lv_icmp_le (tgt := 16) hx hb dX7_scale_9 (by decide) (fun c_9 => ?_) (fun c_9 => ?_)
    · refine lv_aload_n hx hb dX7_scale_16 rfl (lv_at hl 0 rfl) ?_
      refine xget (C := RX7) (T := TX7) (N := 34) hF hX hP (by decide +kernel) 0 17 rfl rfl (by decide) (by decide +kernel) rfl dX7_scale_17 ?_
      refine lv_if_ne (tgt := 27) hx hb dX7_scale_20 (by decide) (fun c_20 => ?_) (fun c_20 => ?_)
      · refine lv_iconst (v := 0) hx hb dX7_scale_27 (by decide) ?_
        refine xrwi (z := (tScale kd q9)) (by simp [tScale, c_3, c_9, c_20]) ?_
        exact join_28   _ _ _ hP hD hS (lv_sub hl [0, 1] rfl)
      · refine lv_iconst (v := 2) hx hb dX7_scale_23 (by decide) ?_
        refine lv_goto (tgt := 28) hx hb dX7_scale_24 (by decide) ?_
        refine xrwi (z := (tScale kd q9)) (by simp [tScale, c_3, c_9, c_20]) ?_
        exact join_28   _ _ _ hP hD hS (lv_sub hl [0, 1] rfl)
    · refine lv_iconst (v := 1) hx hb dX7_scale_12 (by decide) ?_
      refine lv_goto (tgt := 28) hx hb dX7_scale_13 (by decide) ?_
      refine xrwi (z := (tScale kd q9)) (by simp [tScale, c_3, c_9]) ?_
      exact join_28   _ _ _ hP hD hS (lv_sub hl [0, 1] rfl)

set_option maxHeartbeats 4000000 in
set_option maxRecDepth 100000 in
theorem c_X7_scale_ok (l : Launch) (D : va_G) (cs : Nat → ClassId) (tt : Nat → Nat) (o mt qu zz nw ol ne se ke re ve ps di lv bd co bt ma W H md : Nat) (th nc ns is ik dc sc kd wh fa ow tl bf bo : Int32) (q9 : Int32) (ht : (tScale kd q9) = 0) : xM l yX7_scale wsX7_scale ({ frames := 0, cells := 0, slots := 0, locals := 0 } : Room) D cs tt [.ref o, .int q9] [(o, .inr (7, mdF th W H mt qu zz nw ol ne se ke nc ns is ik dc sc kd md wh fa re ve ps ow tl di lv bf bo bd co bt ma))] none [(o, .inr (7, mdF (tScale kd q9) W H mt qu zz nw ol ne se ke nc ns is ik dc sc kd md wh q9 re ve ps ow tl di lv bf bo bd co bt ma))] := by
  refine xM.of RX7 rfl (by decide) rfl (Nat.le_of_ble_eq_true rfl) ?_
  intro p e s m below meth c A ls hF hr hlk hX hP hD hS hl
  have hx := hF.1
  have hb := hF.2.1
  have hl : lv_has ls 2 [(0, .ref o), (1, .int q9)] := hl
  have join_28 : ∀ (Hp : Heap) (locs : List Loc) (ls : Array Slot), va_P D vwCl [(o, .inr (7, mdF th W H mt qu zz nw ol ne se ke nc ns is ik dc sc kd md wh fa re ve ps ow tl di lv bf bo bd co bt ma))] Hp → va_D A [(o, .inr (7, mdF th W H mt qu zz nw ol ne se ke nc ns is ik dc sc kd md wh fa re ve ps ow tl di lv bf bo bd co bt ma))] → va_S A s.heap Hp locs → lv_has ls 2 [(0, .ref o), (1, .int q9)] → xW p l e ({ frames := 0, cells := 0, slots := 0, locals := 0 } : Room) s m ([.ref o, .int q9] : List Value).toArray below meth c Hp locs 0 0 (MQ below (xE D A none [(o, .inr (7, mdF (tScale kd q9) W H mt qu zz nw ol ne se ke nc ns is ik dc sc kd md wh q9 re ve ps ow tl di lv bf bo bd co bt ma))]) ([.ref o, .int q9] : List Value).toArray s 0 0 A) (F0 m 28 ls [.int (tScale kd q9), .ref o]) := by
    intro Hp locs ls hP hD hS hl
    refine xputf (C := RX7) (T := TX7) (N := 34) (ws1 := [(o, .inr (7, mdF (tScale kd q9) W H mt qu zz nw ol ne se ke nc ns is ik dc sc kd md wh fa re ve ps ow tl di lv bf bo bd co bt ma))]) hF hX hP hD hS (by decide +kernel) tyX7 tyX7_ok nmX7 0 0 rfl rfl (by decide) (by decide +kernel) rfl (rfl) (rfl) (Nat.le_of_ble_eq_true rfl) dX7_scale_28 rfl (fun Hp locs hP hD hS => ?_)
    refine lv_aload_n hx hb dX7_scale_31 rfl (lv_at hl 0 rfl) ?_
    refine xget (C := RX7) (T := TX7) (N := 34) hF hX hP (by decide +kernel) 0 0 rfl rfl (by decide) (by decide +kernel) rfl dX7_scale_32 ?_
    refine lv_if_ne (tgt := 43) hx hb dX7_scale_35 (by decide) (fun c_35 => absurd (ht) c_35) (fun _ => ?_)
    refine lv_aload_n hx hb dX7_scale_38 rfl (lv_at hl 0 rfl) ?_
    refine lv_iload_n hx hb dX7_scale_39 rfl (lv_at hl 1 rfl) ?_
    refine xputf (C := RX7) (T := TX7) (N := 34) (ws1 := [(o, .inr (7, mdF (tScale kd q9) W H mt qu zz nw ol ne se ke nc ns is ik dc sc kd md wh q9 re ve ps ow tl di lv bf bo bd co bt ma))]) hF hX hP hD hS (by decide +kernel) tyX7 tyX7_ok nmX7 0 20 rfl rfl (by decide) (by decide +kernel) rfl (rfl) (rfl) (Nat.le_of_ble_eq_true rfl) dX7_scale_40 rfl (fun Hp locs hP hD hS => ?_)
    exact xrv hF hr hlk hP hD hS dX7_scale_43
  refine lv_aload_n hx hb dX7_scale_0 rfl (lv_at hl 0 rfl) ?_
  refine lv_iload_n hx hb dX7_scale_1 rfl (lv_at hl 1 rfl) ?_
  refine lv_iconst (v := 1) hx hb dX7_scale_2 (by decide) ?_
  refine lv_icmp_lt (tgt := 12) hx hb dX7_scale_3 (by decide) (fun c_3 => ?_) (fun c_3 => ?_)
  · refine lv_iconst (v := 1) hx hb dX7_scale_12 (by decide) ?_
    refine lv_goto (tgt := 28) hx hb dX7_scale_13 (by decide) ?_
    refine xrwi (z := (tScale kd q9)) (by simp [tScale, c_3]) ?_
    exact join_28   _ _ _ hP hD hS (lv_sub hl [0, 1] rfl)
  · refine lv_iload_n hx hb dX7_scale_6 rfl (lv_at hl 1 rfl) ?_
    refine lv_bipush (v := 31) hx hb dX7_scale_7 (by decide) ?_
    refine lv_icmp_le (tgt := 16) hx hb dX7_scale_9 (by decide) (fun c_9 => ?_) (fun c_9 => ?_)
    · refine lv_aload_n hx hb dX7_scale_16 rfl (lv_at hl 0 rfl) ?_
      refine xget (C := RX7) (T := TX7) (N := 34) hF hX hP (by decide +kernel) 0 17 rfl rfl (by decide) (by decide +kernel) rfl dX7_scale_17 ?_
      refine lv_if_ne (tgt := 27) hx hb dX7_scale_20 (by decide) (fun c_20 => ?_) (fun c_20 => ?_)
      · refine lv_iconst (v := 0) hx hb dX7_scale_27 (by decide) ?_
        refine xrwi (z := (tScale kd q9)) (by simp [tScale, c_3, c_9, c_20]) ?_
        exact join_28   _ _ _ hP hD hS (lv_sub hl [0, 1] rfl)
      · refine lv_iconst (v := 2) hx hb dX7_scale_23 (by decide) ?_
        refine lv_goto (tgt := 28) hx hb dX7_scale_24 (by decide) ?_
        refine xrwi (z := (tScale kd q9)) (by simp [tScale, c_3, c_9, c_20]) ?_
        exact join_28   _ _ _ hP hD hS (lv_sub hl [0, 1] rfl)
    · refine lv_iconst (v := 1) hx hb dX7_scale_12 (by decide) ?_
      refine lv_goto (tgt := 28) hx hb dX7_scale_13 (by decide) ?_
      refine xrwi (z := (tScale kd q9)) (by simp [tScale, c_3, c_9]) ?_
      exact join_28   _ _ _ hP hD hS (lv_sub hl [0, 1] rfl)

set_option maxHeartbeats 4000000 in
set_option maxRecDepth 100000 in
theorem c_X7_itself_bad (l : Launch) (D : va_G) (cs : Nat → ClassId) (tt : Nat → Nat) (o mt qu zz nw ol ne se ke re ve ps di lv bd co bt ma W H md : Nat) (th nc ns is ik dc sc kd wh fa ow tl bf bo : Int32) (Di : Nat → Int32) (ht : (tItself (isf kd W H md) (Di 0) (Di 1)) = 1 ∨ (tItself (isf kd W H md) (Di 0) (Di 1)) = 2) : xM l yX7_itself wsX7_itself ({ frames := 1, cells := 0, slots := 0, locals := 20 } : Room) D cs tt [.ref o] [(o, .inr (7, mdF th W H mt qu zz nw ol ne se ke nc ns is ik dc sc kd md wh fa re ve ps ow tl di lv bf bo bd co bt ma)), (di, .inl (cs 1, 2, .inl Di))] none [(o, .inr (7, mdF (tItself (isf kd W H md) (Di 0) (Di 1)) W H mt qu zz nw ol ne se ke nc ns is ik dc sc kd md wh fa re ve ps ow tl di lv bf bo bd co bt ma)), (di, .inl (cs 1, 2, .inl Di))] := by
  refine xM.of RX7 rfl (by decide) rfl (Nat.le_of_ble_eq_true rfl) ?_
  intro p e s m below meth c A ls hF hr hlk hX hP hD hS hl
  have hx := hF.1
  have hb := hF.2.1
  have hl : lv_has ls 1 [(0, .ref o)] := hl
  have join_31 : ∀ (Hp : Heap) (locs : List Loc) (ls : Array Slot), va_P D vwCl [(o, .inr (7, mdF th W H mt qu zz nw ol ne se ke nc ns is ik dc sc kd md wh fa re ve ps ow tl di lv bf bo bd co bt ma)), (di, .inl (cs 1, 2, .inl Di))] Hp → va_D A [(o, .inr (7, mdF th W H mt qu zz nw ol ne se ke nc ns is ik dc sc kd md wh fa re ve ps ow tl di lv bf bo bd co bt ma)), (di, .inl (cs 1, 2, .inl Di))] → va_S A s.heap Hp locs → lv_has ls 1 [(0, .ref o)] → xW p l e ({ frames := 1, cells := 0, slots := 0, locals := 20 } : Room) s m ([.ref o] : List Value).toArray below meth c Hp locs 0 0 (MQ below (xE D A none [(o, .inr (7, mdF (tItself (isf kd W H md) (Di 0) (Di 1)) W H mt qu zz nw ol ne se ke nc ns is ik dc sc kd md wh fa re ve ps ow tl di lv bf bo bd co bt ma)), (di, .inl (cs 1, 2, .inl Di))]) ([.ref o] : List Value).toArray s 0 0 A) (F0 m 31 ls [.int (tItself (isf kd W H md) (Di 0) (Di 1)), .ref o]) := by
    intro Hp locs ls hP hD hS hl
    refine xputf (C := RX7) (T := TX7) (N := 34) (ws1 := [(o, .inr (7, mdF (tItself (isf kd W H md) (Di 0) (Di 1)) W H mt qu zz nw ol ne se ke nc ns is ik dc sc kd md wh fa re ve ps ow tl di lv bf bo bd co bt ma)), (di, .inl (cs 1, 2, .inl Di))]) hF hX hP hD hS (by decide +kernel) tyX7 tyX7_ok nmX7 0 0 rfl rfl (by decide) (by decide +kernel) rfl (rfl) (rfl) (Nat.le_of_ble_eq_true rfl) dX7_itself_31 rfl (fun Hp locs hP hD hS => ?_)
    refine lv_aload_n hx hb dX7_itself_34 rfl (lv_at hl 0 rfl) ?_
    refine xget (C := RX7) (T := TX7) (N := 34) hF hX hP (by decide +kernel) 0 0 rfl rfl (by decide) (by decide +kernel) rfl dX7_itself_35 ?_
    refine lv_if_ne (tgt := 51) hx hb dX7_itself_38 (by decide) (fun _ => ?_) (fun c_38 => absurd c_38 (by rcases ht with h9 | h9 <;> rw [h9] <;> decide))
    exact xrv hF hr hlk hP hD hS dX7_itself_51
  refine lv_aload_n hx hb dX7_itself_0 rfl (lv_at hl 0 rfl) ?_
  refine lv_aload_n hx hb dX7_itself_1 rfl (lv_at hl 0 rfl) ?_
  refine xV (rest := [.ref o]) (As := []) (ws1 := [(o, .inr (7, mdF th W H mt qu zz nw ol ne se ke nc ns is ik dc sc kd md wh fa re ve ps ow tl di lv bf bo bd co bt ma)), (di, .inl (cs 1, 2, .inl Di))]) (st1 := [.int (isf kd W H md), .ref o]) hF (c_X7_isFull l D cs tt o mt qu zz nw ol ne se ke re ve ps di lv bd co bt ma W H md th nc ns is ik dc sc kd wh fa ow tl bf bo) gX7_itself_X7_isFull rfl (n := 0) (by decide +kernel) rfl ⟨⟨rfl, rfl⟩, Nat.le_of_ble_eq_true rfl, Nat.le_of_ble_eq_true rfl⟩ ⟨Nat.le_of_ble_eq_true rfl, Nat.le_of_ble_eq_true rfl⟩ hX hP hD hS [0] (by decide) rfl [o] rfl rfl (q0 := 0) (ci := 7) rfl rfl rfl hl.1 rfl (Nat.le_of_ble_eq_true rfl) dX7_itself_2 rfl rfl (fun Hp locs hP hD hS => ?_)
  refine lv_if_ne (tgt := 26) hx hb dX7_itself_5 (by decide) (fun c_5 => ?_) (fun c_5 => ?_)
  · refine lv_iconst (v := 1) hx hb dX7_itself_26 (by decide) ?_
    refine lv_goto (tgt := 31) hx hb dX7_itself_27 (by decide) ?_
    refine xrwi (z := (tItself (isf kd W H md) (Di 0) (Di 1))) (by simp [tItself, c_5]) ?_
    exact join_31   _ _ _ hP hD hS (lv_sub hl [0] rfl)
  · refine lv_aload_n hx hb dX7_itself_8 rfl (lv_at hl 0 rfl) ?_
    refine xget (C := RX7) (T := TX7) (N := 34) hF hX hP (by decide +kernel) 0 26 rfl rfl (by decide) (by decide +kernel) rfl dX7_itself_9 ?_
    refine lv_iconst (v := 0) hx hb dX7_itself_12 (by decide) ?_
    refine xzald (k := 0) hF hX hP 1 rfl (rfl) (vp_in_nI (n := 0) (by decide) (by decide)) dX7_itself_13 ?_
    refine lv_if_ne (tgt := 26) hx hb dX7_itself_14 (by decide) (fun c_14 => ?_) (fun c_14 => ?_)
    · refine lv_iconst (v := 1) hx hb dX7_itself_26 (by decide) ?_
      refine lv_goto (tgt := 31) hx hb dX7_itself_27 (by decide) ?_
      refine xrwi (z := (tItself (isf kd W H md) (Di 0) (Di 1))) (by simp [tItself, c_5, c_14]) ?_
      exact join_31   _ _ _ hP hD hS (lv_sub hl [0] rfl)
    · refine lv_aload_n hx hb dX7_itself_17 rfl (lv_at hl 0 rfl) ?_
      refine xget (C := RX7) (T := TX7) (N := 34) hF hX hP (by decide +kernel) 0 26 rfl rfl (by decide) (by decide +kernel) rfl dX7_itself_18 ?_
      refine lv_iconst (v := 1) hx hb dX7_itself_21 (by decide) ?_
      refine xzald (k := 1) hF hX hP 1 rfl (rfl) (vp_in_nI (n := 1) (by decide) (by decide)) dX7_itself_22 ?_
      refine lv_if_eq (tgt := 30) hx hb dX7_itself_23 (by decide) (fun c_23 => ?_) (fun c_23 => ?_)
      · refine lv_iconst (v := 0) hx hb dX7_itself_30 (by decide) ?_
        refine xrwi (z := (tItself (isf kd W H md) (Di 0) (Di 1))) (by simp [tItself, c_5, c_14, c_23]) ?_
        exact join_31   _ _ _ hP hD hS (lv_sub hl [0] rfl)
      · refine lv_iconst (v := 1) hx hb dX7_itself_26 (by decide) ?_
        refine lv_goto (tgt := 31) hx hb dX7_itself_27 (by decide) ?_
        refine xrwi (z := (tItself (isf kd W H md) (Di 0) (Di 1))) (by simp [tItself, c_5, c_14, c_23]) ?_
        exact join_31   _ _ _ hP hD hS (lv_sub hl [0] rfl)

set_option maxHeartbeats 4000000 in
set_option maxRecDepth 100000 in
theorem c_X7_itself_ok (l : Launch) (D : va_G) (cs : Nat → ClassId) (tt : Nat → Nat) (o mt qu zz nw ol ne se ke re ve ps di lv bd co bt ma W H md : Nat) (th nc ns is ik dc sc kd wh fa ow tl bf bo : Int32) (Di : Nat → Int32) (ht : (tItself (isf kd W H md) (Di 0) (Di 1)) = 0) : xM l yX7_itself wsX7_itself ({ frames := 1, cells := 0, slots := 0, locals := 20 } : Room) D cs tt [.ref o] [(o, .inr (7, mdF th W H mt qu zz nw ol ne se ke nc ns is ik dc sc kd md wh fa re ve ps ow tl di lv bf bo bd co bt ma)), (di, .inl (cs 1, 2, .inl Di))] none [(o, .inr (7, mdF (tItself (isf kd W H md) (Di 0) (Di 1)) W H mt qu zz nw ol ne se ke nc ns is ik dc sc kd md wh fa re ve ps 1 1 di lv bf bo bd co bt ma)), (di, .inl (cs 1, 2, .inl Di))] := by
  refine xM.of RX7 rfl (by decide) rfl (Nat.le_of_ble_eq_true rfl) ?_
  intro p e s m below meth c A ls hF hr hlk hX hP hD hS hl
  have hx := hF.1
  have hb := hF.2.1
  have hl : lv_has ls 1 [(0, .ref o)] := hl
  have join_31 : ∀ (Hp : Heap) (locs : List Loc) (ls : Array Slot), va_P D vwCl [(o, .inr (7, mdF th W H mt qu zz nw ol ne se ke nc ns is ik dc sc kd md wh fa re ve ps ow tl di lv bf bo bd co bt ma)), (di, .inl (cs 1, 2, .inl Di))] Hp → va_D A [(o, .inr (7, mdF th W H mt qu zz nw ol ne se ke nc ns is ik dc sc kd md wh fa re ve ps ow tl di lv bf bo bd co bt ma)), (di, .inl (cs 1, 2, .inl Di))] → va_S A s.heap Hp locs → lv_has ls 1 [(0, .ref o)] → xW p l e ({ frames := 1, cells := 0, slots := 0, locals := 20 } : Room) s m ([.ref o] : List Value).toArray below meth c Hp locs 0 0 (MQ below (xE D A none [(o, .inr (7, mdF (tItself (isf kd W H md) (Di 0) (Di 1)) W H mt qu zz nw ol ne se ke nc ns is ik dc sc kd md wh fa re ve ps 1 1 di lv bf bo bd co bt ma)), (di, .inl (cs 1, 2, .inl Di))]) ([.ref o] : List Value).toArray s 0 0 A) (F0 m 31 ls [.int (tItself (isf kd W H md) (Di 0) (Di 1)), .ref o]) := by
    intro Hp locs ls hP hD hS hl
    refine xputf (C := RX7) (T := TX7) (N := 34) (ws1 := [(o, .inr (7, mdF (tItself (isf kd W H md) (Di 0) (Di 1)) W H mt qu zz nw ol ne se ke nc ns is ik dc sc kd md wh fa re ve ps ow tl di lv bf bo bd co bt ma)), (di, .inl (cs 1, 2, .inl Di))]) hF hX hP hD hS (by decide +kernel) tyX7 tyX7_ok nmX7 0 0 rfl rfl (by decide) (by decide +kernel) rfl (rfl) (rfl) (Nat.le_of_ble_eq_true rfl) dX7_itself_31 rfl (fun Hp locs hP hD hS => ?_)
    refine lv_aload_n hx hb dX7_itself_34 rfl (lv_at hl 0 rfl) ?_
    refine xget (C := RX7) (T := TX7) (N := 34) hF hX hP (by decide +kernel) 0 0 rfl rfl (by decide) (by decide +kernel) rfl dX7_itself_35 ?_
    refine lv_if_ne (tgt := 51) hx hb dX7_itself_38 (by decide) (fun c_38 => absurd (ht) c_38) (fun _ => ?_)
    refine lv_aload_n hx hb dX7_itself_41 rfl (lv_at hl 0 rfl) ?_
    refine lv_iconst (v := 1) hx hb dX7_itself_42 (by decide) ?_
    refine xputf (C := RX7) (T := TX7) (N := 34) (ws1 := [(o, .inr (7, mdF (tItself (isf kd W H md) (Di 0) (Di 1)) W H mt qu zz nw ol ne se ke nc ns is ik dc sc kd md wh fa re ve ps 1 tl di lv bf bo bd co bt ma)), (di, .inl (cs 1, 2, .inl Di))]) hF hX hP hD hS (by decide +kernel) tyX7 tyX7_ok nmX7 0 24 rfl rfl (by decide) (by decide +kernel) rfl (rfl) (rfl) (Nat.le_of_ble_eq_true rfl) dX7_itself_43 rfl (fun Hp locs hP hD hS => ?_)
    refine lv_aload_n hx hb dX7_itself_46 rfl (lv_at hl 0 rfl) ?_
    refine lv_iconst (v := 1) hx hb dX7_itself_47 (by decide) ?_
    refine xputf (C := RX7) (T := TX7) (N := 34) (ws1 := [(o, .inr (7, mdF (tItself (isf kd W H md) (Di 0) (Di 1)) W H mt qu zz nw ol ne se ke nc ns is ik dc sc kd md wh fa re ve ps 1 1 di lv bf bo bd co bt ma)), (di, .inl (cs 1, 2, .inl Di))]) hF hX hP hD hS (by decide +kernel) tyX7 tyX7_ok nmX7 0 25 rfl rfl (by decide) (by decide +kernel) rfl (rfl) (rfl) (Nat.le_of_ble_eq_true rfl) dX7_itself_48 rfl (fun Hp locs hP hD hS => ?_)
    exact xrv hF hr hlk hP hD hS dX7_itself_51
  refine lv_aload_n hx hb dX7_itself_0 rfl (lv_at hl 0 rfl) ?_
  refine lv_aload_n hx hb dX7_itself_1 rfl (lv_at hl 0 rfl) ?_
  refine xV (rest := [.ref o]) (As := []) (ws1 := [(o, .inr (7, mdF th W H mt qu zz nw ol ne se ke nc ns is ik dc sc kd md wh fa re ve ps ow tl di lv bf bo bd co bt ma)), (di, .inl (cs 1, 2, .inl Di))]) (st1 := [.int (isf kd W H md), .ref o]) hF (c_X7_isFull l D cs tt o mt qu zz nw ol ne se ke re ve ps di lv bd co bt ma W H md th nc ns is ik dc sc kd wh fa ow tl bf bo) gX7_itself_X7_isFull rfl (n := 0) (by decide +kernel) rfl ⟨⟨rfl, rfl⟩, Nat.le_of_ble_eq_true rfl, Nat.le_of_ble_eq_true rfl⟩ ⟨Nat.le_of_ble_eq_true rfl, Nat.le_of_ble_eq_true rfl⟩ hX hP hD hS [0] (by decide) rfl [o] rfl rfl (q0 := 0) (ci := 7) rfl rfl rfl hl.1 rfl (Nat.le_of_ble_eq_true rfl) dX7_itself_2 rfl rfl (fun Hp locs hP hD hS => ?_)
  refine lv_if_ne (tgt := 26) hx hb dX7_itself_5 (by decide) (fun c_5 => ?_) (fun c_5 => ?_)
  · refine lv_iconst (v := 1) hx hb dX7_itself_26 (by decide) ?_
    refine lv_goto (tgt := 31) hx hb dX7_itself_27 (by decide) ?_
    refine xrwi (z := (tItself (isf kd W H md) (Di 0) (Di 1))) (by simp [tItself, c_5]) ?_
    exact join_31   _ _ _ hP hD hS (lv_sub hl [0] rfl)
  · refine lv_aload_n hx hb dX7_itself_8 rfl (lv_at hl 0 rfl) ?_
    refine xget (C := RX7) (T := TX7) (N := 34) hF hX hP (by decide +kernel) 0 26 rfl rfl (by decide) (by decide +kernel) rfl dX7_itself_9 ?_
    refine lv_iconst (v := 0) hx hb dX7_itself_12 (by decide) ?_
    refine xzald (k := 0) hF hX hP 1 rfl (rfl) (vp_in_nI (n := 0) (by decide) (by decide)) dX7_itself_13 ?_
    refine lv_if_ne (tgt := 26) hx hb dX7_itself_14 (by decide) (fun c_14 => ?_) (fun c_14 => ?_)
    · refine lv_iconst (v := 1) hx hb dX7_itself_26 (by decide) ?_
      refine lv_goto (tgt := 31) hx hb dX7_itself_27 (by decide) ?_
      refine xrwi (z := (tItself (isf kd W H md) (Di 0) (Di 1))) (by simp [tItself, c_5, c_14]) ?_
      exact join_31   _ _ _ hP hD hS (lv_sub hl [0] rfl)
    · refine lv_aload_n hx hb dX7_itself_17 rfl (lv_at hl 0 rfl) ?_
      refine xget (C := RX7) (T := TX7) (N := 34) hF hX hP (by decide +kernel) 0 26 rfl rfl (by decide) (by decide +kernel) rfl dX7_itself_18 ?_
      refine lv_iconst (v := 1) hx hb dX7_itself_21 (by decide) ?_
      refine xzald (k := 1) hF hX hP 1 rfl (rfl) (vp_in_nI (n := 1) (by decide) (by decide)) dX7_itself_22 ?_
      refine lv_if_eq (tgt := 30) hx hb dX7_itself_23 (by decide) (fun c_23 => ?_) (fun c_23 => ?_)
      · refine lv_iconst (v := 0) hx hb dX7_itself_30 (by decide) ?_
        refine xrwi (z := (tItself (isf kd W H md) (Di 0) (Di 1))) (by simp [tItself, c_5, c_14, c_23]) ?_
        exact join_31   _ _ _ hP hD hS (lv_sub hl [0] rfl)
      · refine lv_iconst (v := 1) hx hb dX7_itself_26 (by decide) ?_
        refine lv_goto (tgt := 31) hx hb dX7_itself_27 (by decide) ?_
        refine xrwi (z := (tItself (isf kd W H md) (Di 0) (Di 1))) (by simp [tItself, c_5, c_14, c_23]) ?_
        exact join_31   _ _ _ hP hD hS (lv_sub hl [0] rfl)

set_option maxHeartbeats 4000000 in
set_option maxRecDepth 100000 in
theorem c_X7_level_bad (l : Launch) (D : va_G) (cs : Nat → ClassId) (tt : Nat → Nat) (o mt qu zz nw ol ne se ke re ve ps di lv bd co bt ma W H md : Nat) (th nc ns is ik dc sc kd wh fa ow tl bf bo : Int32) (b9 i9 v9 : Int32) (ht : (tLevel (isf kd W H md) b9 i9 v9) = 1 ∨ (tLevel (isf kd W H md) b9 i9 v9) = 2) : xM l yX7_level wsX7_level ({ frames := 1, cells := 0, slots := 0, locals := 20 } : Room) D cs tt [.ref o, .int b9, .int i9, .int v9] [(o, .inr (7, mdF th W H mt qu zz nw ol ne se ke nc ns is ik dc sc kd md wh fa re ve ps ow tl di lv bf bo bd co bt ma))] none [(o, .inr (7, mdF (tLevel (isf kd W H md) b9 i9 v9) W H mt qu zz nw ol ne se ke nc ns is ik dc sc kd md wh fa re ve ps ow tl di lv bf bo bd co bt ma))] := by
  refine xM.of RX7 rfl (by decide) rfl (Nat.le_of_ble_eq_true rfl) ?_
  intro p e s m below meth c A ls hF hr hlk hX hP hD hS hl
  have hx := hF.1
  have hb := hF.2.1
  have hl : lv_has ls 4 [(0, .ref o), (1, .int b9), (2, .int i9), (3, .int v9)] := hl
  have join_50 : ∀ (Hp : Heap) (locs : List Loc) (ls : Array Slot), va_P D vwCl [(o, .inr (7, mdF th W H mt qu zz nw ol ne se ke nc ns is ik dc sc kd md wh fa re ve ps ow tl di lv bf bo bd co bt ma))] Hp → va_D A [(o, .inr (7, mdF th W H mt qu zz nw ol ne se ke nc ns is ik dc sc kd md wh fa re ve ps ow tl di lv bf bo bd co bt ma))] → va_S A s.heap Hp locs → lv_has ls 4 [(0, .ref o), (1, .int b9), (2, .int i9), (3, .int v9)] → xW p l e ({ frames := 1, cells := 0, slots := 0, locals := 20 } : Room) s m ([.ref o, .int b9, .int i9, .int v9] : List Value).toArray below meth c Hp locs 0 0 (MQ below (xE D A none [(o, .inr (7, mdF (tLevel (isf kd W H md) b9 i9 v9) W H mt qu zz nw ol ne se ke nc ns is ik dc sc kd md wh fa re ve ps ow tl di lv bf bo bd co bt ma))]) ([.ref o, .int b9, .int i9, .int v9] : List Value).toArray s 0 0 A) (F0 m 50 ls [.int (tLevel (isf kd W H md) b9 i9 v9), .ref o]) := by
    intro Hp locs ls hP hD hS hl
    refine xputf (C := RX7) (T := TX7) (N := 34) (ws1 := [(o, .inr (7, mdF (tLevel (isf kd W H md) b9 i9 v9) W H mt qu zz nw ol ne se ke nc ns is ik dc sc kd md wh fa re ve ps ow tl di lv bf bo bd co bt ma))]) hF hX hP hD hS (by decide +kernel) tyX7 tyX7_ok nmX7 0 0 rfl rfl (by decide) (by decide +kernel) rfl (rfl) (rfl) (Nat.le_of_ble_eq_true rfl) dX7_level_50 rfl (fun Hp locs hP hD hS => ?_)
    refine lv_aload_n hx hb dX7_level_53 rfl (lv_at hl 0 rfl) ?_
    refine xget (C := RX7) (T := TX7) (N := 34) hF hX hP (by decide +kernel) 0 0 rfl rfl (by decide) (by decide +kernel) rfl dX7_level_54 ?_
    refine lv_if_ne (tgt := 77) hx hb dX7_level_57 (by decide) (fun _ => ?_) (fun c_57 => absurd c_57 (by rcases ht with h9 | h9 <;> rw [h9] <;> decide))
    exact xrv hF hr hlk hP hD hS dX7_level_77
  refine lv_aload_n hx hb dX7_level_0 rfl (lv_at hl 0 rfl) ?_
  refine lv_iload_n hx hb dX7_level_1 rfl (lv_at hl 1 rfl) ?_
  refine lv_if_lt (tgt := 34) hx hb dX7_level_2 (by decide) (fun c_2 => ?_) (fun c_2 => ?_)
  · refine lv_iconst (v := 1) hx hb dX7_level_34 (by decide) ?_
    refine lv_goto (tgt := 50) hx hb dX7_level_35 (by decide) ?_
    refine xrwi (z := (tLevel (isf kd W H md) b9 i9 v9)) (by simp [tLevel, c_2]) ?_
    exact join_50   _ _ _ hP hD hS (lv_sub hl [0, 1, 2, 3] rfl)
  · refine lv_iload_n hx hb dX7_level_5 rfl (lv_at hl 1 rfl) ?_
    refine lv_iconst (v := 5) hx hb dX7_level_6 (by decide) ?_
    refine lv_icmp_gt (tgt := 34) hx hb dX7_level_7 (by decide) (fun c_7 => ?_) (fun c_7 => ?_)
    · refine lv_iconst (v := 1) hx hb dX7_level_34 (by decide) ?_
      refine lv_goto (tgt := 50) hx hb dX7_level_35 (by decide) ?_
      refine xrwi (z := (tLevel (isf kd W H md) b9 i9 v9)) (by simp [tLevel, c_2, c_7]) ?_
      exact join_50   _ _ _ hP hD hS (lv_sub hl [0, 1, 2, 3] rfl)
    · refine lv_iload_n hx hb dX7_level_10 rfl (lv_at hl 2 rfl) ?_
      refine lv_if_lt (tgt := 34) hx hb dX7_level_11 (by decide) (fun c_11 => ?_) (fun c_11 => ?_)
      · refine lv_iconst (v := 1) hx hb dX7_level_34 (by decide) ?_
        refine lv_goto (tgt := 50) hx hb dX7_level_35 (by decide) ?_
        refine xrwi (z := (tLevel (isf kd W H md) b9 i9 v9)) (by simp [tLevel, c_2, c_7, c_11]) ?_
        exact join_50   _ _ _ hP hD hS (lv_sub hl [0, 1, 2, 3] rfl)
      · refine lv_iload_n hx hb dX7_level_14 rfl (lv_at hl 2 rfl) ?_
        refine lv_bipush (v := 63) hx hb dX7_level_15 (by decide) ?_
        refine lv_icmp_gt (tgt := 34) hx hb dX7_level_17 (by decide) (fun c_17 => ?_) (fun c_17 => ?_)
        · refine lv_iconst (v := 1) hx hb dX7_level_34 (by decide) ?_
          refine lv_goto (tgt := 50) hx hb dX7_level_35 (by decide) ?_
          refine xrwi (z := (tLevel (isf kd W H md) b9 i9 v9)) (by simp [tLevel, c_2, c_7, c_11, c_17]) ?_
          exact join_50   _ _ _ hP hD hS (lv_sub hl [0, 1, 2, 3] rfl)
        · refine lv_iload_n hx hb dX7_level_20 rfl (lv_at hl 3 rfl) ?_
          refine lv_sipush (v := (-255)) hx hb dX7_level_21 (by decide) ?_
          refine lv_icmp_lt (tgt := 34) hx hb dX7_level_24 (by decide) (fun c_24 => ?_) (fun c_24 => ?_)
          · refine lv_iconst (v := 1) hx hb dX7_level_34 (by decide) ?_
            refine lv_goto (tgt := 50) hx hb dX7_level_35 (by decide) ?_
            refine xrwi (z := (tLevel (isf kd W H md) b9 i9 v9)) (by simp [tLevel, c_2, c_7, c_11, c_17, c_24]) ?_
            exact join_50   _ _ _ hP hD hS (lv_sub hl [0, 1, 2, 3] rfl)
          · refine lv_iload_n hx hb dX7_level_27 rfl (lv_at hl 3 rfl) ?_
            refine lv_sipush (v := 255) hx hb dX7_level_28 (by decide) ?_
            refine lv_icmp_le (tgt := 38) hx hb dX7_level_31 (by decide) (fun c_31 => ?_) (fun c_31 => ?_)
            · refine lv_aload_n hx hb dX7_level_38 rfl (lv_at hl 0 rfl) ?_
              refine xV (rest := [.ref o]) (As := []) (ws1 := [(o, .inr (7, mdF th W H mt qu zz nw ol ne se ke nc ns is ik dc sc kd md wh fa re ve ps ow tl di lv bf bo bd co bt ma))]) (st1 := [.int (isf kd W H md), .ref o]) hF (c_X7_isFull l D cs tt o mt qu zz nw ol ne se ke re ve ps di lv bd co bt ma W H md th nc ns is ik dc sc kd wh fa ow tl bf bo) gX7_level_X7_isFull rfl (n := 0) (by decide +kernel) rfl ⟨⟨rfl, rfl⟩, Nat.le_of_ble_eq_true rfl, Nat.le_of_ble_eq_true rfl⟩ ⟨Nat.le_of_ble_eq_true rfl, Nat.le_of_ble_eq_true rfl⟩ hX hP hD hS [0] (by decide) rfl [o] rfl rfl (q0 := 0) (ci := 7) rfl rfl rfl hl.1 rfl (Nat.le_of_ble_eq_true rfl) dX7_level_39 rfl rfl (fun Hp locs hP hD hS => ?_)
              refine lv_if_eq (tgt := 49) hx hb dX7_level_42 (by decide) (fun c_42 => ?_) (fun c_42 => ?_)
              · refine lv_iconst (v := 0) hx hb dX7_level_49 (by decide) ?_
                refine xrwi (z := (tLevel (isf kd W H md) b9 i9 v9)) (by simp [tLevel, c_2, c_7, c_11, c_17, c_24, c_31, c_42]) ?_
                exact join_50   _ _ _ hP hD hS (lv_sub hl [0, 1, 2, 3] rfl)
              · refine lv_iconst (v := 2) hx hb dX7_level_45 (by decide) ?_
                refine lv_goto (tgt := 50) hx hb dX7_level_46 (by decide) ?_
                refine xrwi (z := (tLevel (isf kd W H md) b9 i9 v9)) (by simp [tLevel, c_2, c_7, c_11, c_17, c_24, c_31, c_42]) ?_
                exact join_50   _ _ _ hP hD hS (lv_sub hl [0, 1, 2, 3] rfl)
            · refine lv_iconst (v := 1) hx hb dX7_level_34 (by decide) ?_
              refine lv_goto (tgt := 50) hx hb dX7_level_35 (by decide) ?_
              refine xrwi (z := (tLevel (isf kd W H md) b9 i9 v9)) (by simp [tLevel, c_2, c_7, c_11, c_17, c_24, c_31]) ?_
              exact join_50   _ _ _ hP hD hS (lv_sub hl [0, 1, 2, 3] rfl)

set_option maxHeartbeats 4000000 in
set_option maxRecDepth 100000 in
theorem c_X7_level_ok (l : Launch) (D : va_G) (cs : Nat → ClassId) (tt : Nat → Nat) (o mt qu zz nw ol ne se ke re ve ps di lv bd co bt ma W H md : Nat) (th nc ns is ik dc sc kd wh fa ow tl bf bo : Int32) (k j : Nat) (v9 : Int32) (Lv : Nat → Int32) (ht : (tLevel (isf kd W H md) (nI k) (nI j) v9) = 0) (hk : k < 6) (hj : j < 64) : xM l yX7_level wsX7_level ({ frames := 1, cells := 0, slots := 0, locals := 20 } : Room) D cs tt [.ref o, .int (nI k), .int (nI j), .int v9] [(o, .inr (7, mdF th W H mt qu zz nw ol ne se ke nc ns is ik dc sc kd md wh fa re ve ps ow tl di lv bf bo bd co bt ma)), (lv, .inl (cs 0, 384, .inl Lv))] none [(o, .inr (7, mdF (tLevel (isf kd W H md) (nI k) (nI j) v9) W H mt qu zz nw ol ne se ke nc ns is ik dc sc kd md wh fa re ve ps ow 1 di lv bf bo bd co bt ma)), (lv, .inl (cs 0, 384, .inl (upd Lv (k * 64 + j) v9)))] := by
  refine xM.of RX7 rfl (by decide) rfl (Nat.le_of_ble_eq_true rfl) ?_
  intro p e s m below meth c A ls hF hr hlk hX hP hD hS hl
  have hx := hF.1
  have hb := hF.2.1
  have hl : lv_has ls 4 [(0, .ref o), (1, .int (nI k)), (2, .int (nI j)), (3, .int v9)] := hl
  have join_50 : ∀ (Hp : Heap) (locs : List Loc) (ls : Array Slot), va_P D vwCl [(o, .inr (7, mdF th W H mt qu zz nw ol ne se ke nc ns is ik dc sc kd md wh fa re ve ps ow tl di lv bf bo bd co bt ma)), (lv, .inl (cs 0, 384, .inl Lv))] Hp → va_D A [(o, .inr (7, mdF th W H mt qu zz nw ol ne se ke nc ns is ik dc sc kd md wh fa re ve ps ow tl di lv bf bo bd co bt ma)), (lv, .inl (cs 0, 384, .inl Lv))] → va_S A s.heap Hp locs → lv_has ls 4 [(0, .ref o), (1, .int (nI k)), (2, .int (nI j)), (3, .int v9)] → xW p l e ({ frames := 1, cells := 0, slots := 0, locals := 20 } : Room) s m ([.ref o, .int (nI k), .int (nI j), .int v9] : List Value).toArray below meth c Hp locs 0 0 (MQ below (xE D A none [(o, .inr (7, mdF (tLevel (isf kd W H md) (nI k) (nI j) v9) W H mt qu zz nw ol ne se ke nc ns is ik dc sc kd md wh fa re ve ps ow 1 di lv bf bo bd co bt ma)), (lv, .inl (cs 0, 384, .inl (upd Lv (k * 64 + j) v9)))]) ([.ref o, .int (nI k), .int (nI j), .int v9] : List Value).toArray s 0 0 A) (F0 m 50 ls [.int (tLevel (isf kd W H md) (nI k) (nI j) v9), .ref o]) := by
    intro Hp locs ls hP hD hS hl
    refine xputf (C := RX7) (T := TX7) (N := 34) (ws1 := [(o, .inr (7, mdF (tLevel (isf kd W H md) (nI k) (nI j) v9) W H mt qu zz nw ol ne se ke nc ns is ik dc sc kd md wh fa re ve ps ow tl di lv bf bo bd co bt ma)), (lv, .inl (cs 0, 384, .inl Lv))]) hF hX hP hD hS (by decide +kernel) tyX7 tyX7_ok nmX7 0 0 rfl rfl (by decide) (by decide +kernel) rfl (rfl) (rfl) (Nat.le_of_ble_eq_true rfl) dX7_level_50 rfl (fun Hp locs hP hD hS => ?_)
    refine lv_aload_n hx hb dX7_level_53 rfl (lv_at hl 0 rfl) ?_
    refine xget (C := RX7) (T := TX7) (N := 34) hF hX hP (by decide +kernel) 0 0 rfl rfl (by decide) (by decide +kernel) rfl dX7_level_54 ?_
    refine lv_if_ne (tgt := 77) hx hb dX7_level_57 (by decide) (fun c_57 => absurd (ht) c_57) (fun _ => ?_)
    refine lv_aload_n hx hb dX7_level_60 rfl (lv_at hl 0 rfl) ?_
    refine xget (C := RX7) (T := TX7) (N := 34) hF hX hP (by decide +kernel) 0 27 rfl rfl (by decide) (by decide +kernel) rfl dX7_level_61 ?_
    refine lv_bipush (v := 64) hx hb dX7_level_64 (by decide) ?_
    refine lv_iload_n hx hb dX7_level_66 rfl (lv_at hl 1 rfl) ?_
    refine lv_imul hx hb dX7_level_67 ?_
    refine xrwi (z := nI (k * 64)) (k64 k) ?_
    refine lv_iload_n hx hb dX7_level_68 rfl (lv_at hl 2 rfl) ?_
    refine lv_iadd hx hb dX7_level_69 ?_
    refine xrwi (z := nI (k * 64 + j)) (nI_add _ _) ?_
    refine lv_iload_n hx hb dX7_level_70 rfl (lv_at hl 3 rfl) ?_
    refine xast (k := k * 64 + j) (ws1 := [(o, .inr (7, mdF (tLevel (isf kd W H md) (nI k) (nI j) v9) W H mt qu zz nw ol ne se ke nc ns is ik dc sc kd md wh fa re ve ps ow tl di lv bf bo bd co bt ma)), (lv, .inl (cs 0, 384, .inl (upd Lv (k * 64 + j) v9)))]) hF hX hP hD hS 1 rfl (nI_clamp (by omega)) (vp_in_nI (by omega) (by decide)) dX7_level_71 rfl (fun Hp locs hP hD hS => ?_)
    refine lv_aload_n hx hb dX7_level_72 rfl (lv_at hl 0 rfl) ?_
    refine lv_iconst (v := 1) hx hb dX7_level_73 (by decide) ?_
    refine xputf (C := RX7) (T := TX7) (N := 34) (ws1 := [(o, .inr (7, mdF (tLevel (isf kd W H md) (nI k) (nI j) v9) W H mt qu zz nw ol ne se ke nc ns is ik dc sc kd md wh fa re ve ps ow 1 di lv bf bo bd co bt ma)), (lv, .inl (cs 0, 384, .inl (upd Lv (k * 64 + j) v9)))]) hF hX hP hD hS (by decide +kernel) tyX7 tyX7_ok nmX7 0 25 rfl rfl (by decide) (by decide +kernel) rfl (rfl) (rfl) (Nat.le_of_ble_eq_true rfl) dX7_level_74 rfl (fun Hp locs hP hD hS => ?_)
    exact xrv hF hr hlk hP hD hS dX7_level_77
  refine lv_aload_n hx hb dX7_level_0 rfl (lv_at hl 0 rfl) ?_
  refine lv_iload_n hx hb dX7_level_1 rfl (lv_at hl 1 rfl) ?_
  refine lv_if_lt (tgt := 34) hx hb dX7_level_2 (by decide) (fun c_2 => ?_) (fun c_2 => ?_)
  · refine lv_iconst (v := 1) hx hb dX7_level_34 (by decide) ?_
    refine lv_goto (tgt := 50) hx hb dX7_level_35 (by decide) ?_
    refine xrwi (z := (tLevel (isf kd W H md) (nI k) (nI j) v9)) (by simp [tLevel, c_2]) ?_
    exact join_50   _ _ _ hP hD hS (lv_sub hl [0, 1, 2, 3] rfl)
  · refine lv_iload_n hx hb dX7_level_5 rfl (lv_at hl 1 rfl) ?_
    refine lv_iconst (v := 5) hx hb dX7_level_6 (by decide) ?_
    refine lv_icmp_gt (tgt := 34) hx hb dX7_level_7 (by decide) (fun c_7 => ?_) (fun c_7 => ?_)
    · refine lv_iconst (v := 1) hx hb dX7_level_34 (by decide) ?_
      refine lv_goto (tgt := 50) hx hb dX7_level_35 (by decide) ?_
      refine xrwi (z := (tLevel (isf kd W H md) (nI k) (nI j) v9)) (by simp [tLevel, c_2, c_7]) ?_
      exact join_50   _ _ _ hP hD hS (lv_sub hl [0, 1, 2, 3] rfl)
    · refine lv_iload_n hx hb dX7_level_10 rfl (lv_at hl 2 rfl) ?_
      refine lv_if_lt (tgt := 34) hx hb dX7_level_11 (by decide) (fun c_11 => ?_) (fun c_11 => ?_)
      · refine lv_iconst (v := 1) hx hb dX7_level_34 (by decide) ?_
        refine lv_goto (tgt := 50) hx hb dX7_level_35 (by decide) ?_
        refine xrwi (z := (tLevel (isf kd W H md) (nI k) (nI j) v9)) (by simp [tLevel, c_2, c_7, c_11]) ?_
        exact join_50   _ _ _ hP hD hS (lv_sub hl [0, 1, 2, 3] rfl)
      · refine lv_iload_n hx hb dX7_level_14 rfl (lv_at hl 2 rfl) ?_
        refine lv_bipush (v := 63) hx hb dX7_level_15 (by decide) ?_
        refine lv_icmp_gt (tgt := 34) hx hb dX7_level_17 (by decide) (fun c_17 => ?_) (fun c_17 => ?_)
        · refine lv_iconst (v := 1) hx hb dX7_level_34 (by decide) ?_
          refine lv_goto (tgt := 50) hx hb dX7_level_35 (by decide) ?_
          refine xrwi (z := (tLevel (isf kd W H md) (nI k) (nI j) v9)) (by simp [tLevel, c_2, c_7, c_11, c_17]) ?_
          exact join_50   _ _ _ hP hD hS (lv_sub hl [0, 1, 2, 3] rfl)
        · refine lv_iload_n hx hb dX7_level_20 rfl (lv_at hl 3 rfl) ?_
          refine lv_sipush (v := (-255)) hx hb dX7_level_21 (by decide) ?_
          refine lv_icmp_lt (tgt := 34) hx hb dX7_level_24 (by decide) (fun c_24 => ?_) (fun c_24 => ?_)
          · refine lv_iconst (v := 1) hx hb dX7_level_34 (by decide) ?_
            refine lv_goto (tgt := 50) hx hb dX7_level_35 (by decide) ?_
            refine xrwi (z := (tLevel (isf kd W H md) (nI k) (nI j) v9)) (by simp [tLevel, c_2, c_7, c_11, c_17, c_24]) ?_
            exact join_50   _ _ _ hP hD hS (lv_sub hl [0, 1, 2, 3] rfl)
          · refine lv_iload_n hx hb dX7_level_27 rfl (lv_at hl 3 rfl) ?_
            refine lv_sipush (v := 255) hx hb dX7_level_28 (by decide) ?_
            refine lv_icmp_le (tgt := 38) hx hb dX7_level_31 (by decide) (fun c_31 => ?_) (fun c_31 => ?_)
            · refine lv_aload_n hx hb dX7_level_38 rfl (lv_at hl 0 rfl) ?_
              refine xV (rest := [.ref o]) (As := []) (ws1 := [(o, .inr (7, mdF th W H mt qu zz nw ol ne se ke nc ns is ik dc sc kd md wh fa re ve ps ow tl di lv bf bo bd co bt ma)), (lv, .inl (cs 0, 384, .inl Lv))]) (st1 := [.int (isf kd W H md), .ref o]) hF (c_X7_isFull l D cs tt o mt qu zz nw ol ne se ke re ve ps di lv bd co bt ma W H md th nc ns is ik dc sc kd wh fa ow tl bf bo) gX7_level_X7_isFull rfl (n := 0) (by decide +kernel) rfl ⟨⟨rfl, rfl⟩, Nat.le_of_ble_eq_true rfl, Nat.le_of_ble_eq_true rfl⟩ ⟨Nat.le_of_ble_eq_true rfl, Nat.le_of_ble_eq_true rfl⟩ hX hP hD hS [0] (by decide) rfl [o] rfl rfl (q0 := 0) (ci := 7) rfl rfl rfl hl.1 rfl (Nat.le_of_ble_eq_true rfl) dX7_level_39 rfl rfl (fun Hp locs hP hD hS => ?_)
              refine lv_if_eq (tgt := 49) hx hb dX7_level_42 (by decide) (fun c_42 => ?_) (fun c_42 => ?_)
              · refine lv_iconst (v := 0) hx hb dX7_level_49 (by decide) ?_
                refine xrwi (z := (tLevel (isf kd W H md) (nI k) (nI j) v9)) (by simp [tLevel, c_2, c_7, c_11, c_17, c_24, c_31, c_42]) ?_
                exact join_50   _ _ _ hP hD hS (lv_sub hl [0, 1, 2, 3] rfl)
              · refine lv_iconst (v := 2) hx hb dX7_level_45 (by decide) ?_
                refine lv_goto (tgt := 50) hx hb dX7_level_46 (by decide) ?_
                refine xrwi (z := (tLevel (isf kd W H md) (nI k) (nI j) v9)) (by simp [tLevel, c_2, c_7, c_11, c_17, c_24, c_31, c_42]) ?_
                exact join_50   _ _ _ hP hD hS (lv_sub hl [0, 1, 2, 3] rfl)
            · refine lv_iconst (v := 1) hx hb dX7_level_34 (by decide) ?_
              refine lv_goto (tgt := 50) hx hb dX7_level_35 (by decide) ?_
              refine xrwi (z := (tLevel (isf kd W H md) (nI k) (nI j) v9)) (by simp [tLevel, c_2, c_7, c_11, c_17, c_24, c_31]) ?_
              exact join_50   _ _ _ hP hD hS (lv_sub hl [0, 1, 2, 3] rfl)
