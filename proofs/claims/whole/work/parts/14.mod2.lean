
/-! ===== the reference: fetching ===== -/
def lokP (g : Nat → Int32) (p : Nat) : Nat → Nat → Int32 := fun x y => g (plc p x y)
theorem wdt_le {p W : Nat} (h : W ≤ 4) : wdt p W ≤ 64 := by unfold wdt; split <;> omega
theorem wdt_1 {p W : Nat} (h : 1 ≤ W) : 1 ≤ wdt p W := by unfold wdt; split <;> omega
theorem plc_lt {p W H x y : Nat} (hp : p < 3) (hw4 : W ≤ 4) (hh3 : H ≤ 3) (hx : x < wdt p W) (hy : y < wdt p H) : plc p x y < 4608 := by
  unfold wdt at hx hy
  unfold plc
  by_cases h0 : p = 0
  · rw [if_pos h0] at hx hy ⊢; omega
  · rw [if_neg h0] at hx hy ⊢
    split <;> omega
def mul2 (wh : Int32) : Int32 := if wh = 0 then 1 else 2
def mus (wh v : Int32) (p : Nat) : Int32 := if p = 0 then v * mul2 wh else v * mul2 wh / 2
def mft (P : Nat → Nat → Int32) (W H : Nat) (x y vx vy : Int32) : Int32 :=
  if vx - vx / 2 * 2 = 0 then
    (if vy - vy / 2 * 2 = 0 then P (cl (x + (vx >>> (1 &&& 31))) W) (cl (y + (vy >>> (1 &&& 31))) H)
     else (P (cl (x + (vx >>> (1 &&& 31))) W) (cl (y + (vy >>> (1 &&& 31))) H) + P (cl (x + (vx >>> (1 &&& 31))) W) (cl (y + (vy >>> (1 &&& 31)) + 1) H) + 1) >>> (1 &&& 31))
  else
    (if vy - vy / 2 * 2 = 0 then (P (cl (x + (vx >>> (1 &&& 31))) W) (cl (y + (vy >>> (1 &&& 31))) H) + P (cl (x + (vx >>> (1 &&& 31)) + 1) W) (cl (y + (vy >>> (1 &&& 31))) H) + 1) >>> (1 &&& 31)
     else (P (cl (x + (vx >>> (1 &&& 31))) W) (cl (y + (vy >>> (1 &&& 31))) H) + P (cl (x + (vx >>> (1 &&& 31)) + 1) W) (cl (y + (vy >>> (1 &&& 31))) H) + P (cl (x + (vx >>> (1 &&& 31))) W) (cl (y + (vy >>> (1 &&& 31)) + 1) H) + P (cl (x + (vx >>> (1 &&& 31)) + 1) W) (cl (y + (vy >>> (1 &&& 31)) + 1) H) + 2) >>> (2 &&& 31))

set_option maxHeartbeats 4000000 in
set_option maxRecDepth 100000 in
theorem c_X7_look0 (l : Launch) (D : va_G) (cs : Nat → ClassId) (tt : Nat → Nat) (o mt qu zz nw ol ne se ke re ve ps di lv bd co bt ma W H md : Nat) (th nc ns is ik dc sc kd wh fa ow tl bf bo : Int32) (p9 : Nat) (x y : Int32) (go gn : Nat → Int32) (hp : p9 < 3) (hw : 1 ≤ W) (hw4 : W ≤ 4) (hh : 1 ≤ H) (hh3 : H ≤ 3) : xM l yX7_look wsX7_look ({ frames := 1, cells := 0, slots := 0, locals := 22 } : Room) D cs tt [.ref o, .int 0, .int (nI p9), .int x, .int y] [(o, .inr (7, mdF th W H mt qu zz nw ol ne se ke nc ns is ik dc sc kd md wh fa re ve ps ow tl di lv bf bo bd co bt ma)), (ol, .inl (cs 0, 4608, .inl go)), (ne, .inl (cs 0, 4608, .inl gn))] (some (.int (lokP go p9 (cl x (wdt p9 W)) (cl y (wdt p9 H))))) [(o, .inr (7, mdF th W H mt qu zz nw ol ne se ke nc ns is ik dc sc kd md wh fa re ve ps ow tl di lv bf bo bd co bt ma)), (ol, .inl (cs 0, 4608, .inl go)), (ne, .inl (cs 0, 4608, .inl gn))] := by
  refine xM.of RX7 rfl (by decide) rfl (Nat.le_of_ble_eq_true rfl) ?_
  intro p e s m below meth c A ls hF hr hlk hX hP hD hS hl
  have hx := hF.1
  have hb := hF.2.1
  have hl : lv_has ls 6 [(0, .ref o), (1, .int 0), (2, .int (nI p9)), (3, .int x), (4, .int y)] := hl
  have hW64 := wdt_le (p := p9) hw4
  have hH64 := wdt_le (p := p9) (show H ≤ 4 by omega)
  have hW1 := wdt_1 (p := p9) hw
  have hH1 := wdt_1 (p := p9) hh
  have hpl := plc_lt hp hw4 hh3 (cl_lt x hW1) (cl_lt y hH1)
  refine lv_iload_n hx hb dX7_look_0 rfl (lv_at hl 2 rfl) ?_
  refine lv_iload_n hx hb dX7_look_1 rfl (lv_at hl 3 rfl) ?_
  refine lv_iconst (v := 0) hx hb dX7_look_2 (by decide) ?_
  refine lv_aload_n hx hb dX7_look_3 rfl (lv_at hl 0 rfl) ?_
  refine lv_iload_n hx hb dX7_look_4 rfl (lv_at hl 2 rfl) ?_
  refine xV (rest := [.int 0, .int x, .int (nI p9)]) (As := [.int (nI p9)]) (ws1 := [(o, .inr (7, mdF th W H mt qu zz nw ol ne se ke nc ns is ik dc sc kd md wh fa re ve ps ow tl di lv bf bo bd co bt ma)), (ol, .inl (cs 0, 4608, .inl go)), (ne, .inl (cs 0, 4608, .inl gn))]) (st1 := [.int (nI (wdt p9 W)), .int 0, .int x, .int (nI p9)]) hF (c_X7_wideOf l D cs tt o mt qu zz nw ol ne se ke re ve ps di lv bd co bt ma W H md th nc ns is ik dc sc kd wh fa ow tl bf bo p9 hp) gX7_look_X7_wideOf rfl (n := 1) (by decide +kernel) rfl ⟨⟨rfl, rfl⟩, Nat.le_of_ble_eq_true rfl, Nat.le_of_ble_eq_true rfl⟩ ⟨Nat.le_of_ble_eq_true rfl, Nat.le_of_ble_eq_true rfl⟩ hX hP hD hS [0] (by decide) rfl [o] rfl rfl (q0 := 0) (ci := 7) rfl rfl rfl hl.1 rfl (Nat.le_of_ble_eq_true rfl) dX7_look_5 rfl rfl (fun Hp locs hP hD hS => ?_)
  refine lv_iconst (v := 1) hx hb dX7_look_8 (by decide) ?_
  refine lv_isub hx hb dX7_look_9 ?_
  refine xSt (rest := [.int (nI p9)]) (As := [.int x, .int 0, .int ((nI (wdt p9 W)) - 1)]) (ws1 := [(o, .inr (7, mdF th W H mt qu zz nw ol ne se ke nc ns is ik dc sc kd md wh fa re ve ps ow tl di lv bf bo bd co bt ma)), (ol, .inl (cs 0, 4608, .inl go)), (ne, .inl (cs 0, 4608, .inl gn))]) (st1 := [.int (bnd x 0 ((nI (wdt p9 W)) - 1)), .int (nI p9)]) hF (c_X7_within l D cs tt x 0 ((nI (wdt p9 W)) - 1)) gX7_look_X7_within rfl (n := 3) (by decide +kernel) rfl ⟨⟨rfl, rfl⟩, Nat.le_of_ble_eq_true rfl, Nat.le_of_ble_eq_true rfl⟩ ⟨Nat.le_of_ble_eq_true rfl, Nat.le_of_ble_eq_true rfl⟩ hX hP hD hS [] (by decide) rfl [] rfl rfl hl.1 rfl (Nat.le_of_ble_eq_true rfl) dX7_look_10 rfl rfl (fun Hp locs hP hD hS => ?_)
  refine xrwi (z := nI (cl x (wdt p9 W))) (cl_bnd x hW1 (by omega)) ?_
  refine lv_iload hx hb dX7_look_13 (lv_at hl 4 rfl) ?_
  refine lv_iconst (v := 0) hx hb dX7_look_15 (by decide) ?_
  refine lv_aload_n hx hb dX7_look_16 rfl (lv_at hl 0 rfl) ?_
  refine lv_iload_n hx hb dX7_look_17 rfl (lv_at hl 2 rfl) ?_
  refine xV (rest := [.int 0, .int y, .int (nI (cl x (wdt p9 W))), .int (nI p9)]) (As := [.int (nI p9)]) (ws1 := [(o, .inr (7, mdF th W H mt qu zz nw ol ne se ke nc ns is ik dc sc kd md wh fa re ve ps ow tl di lv bf bo bd co bt ma)), (ol, .inl (cs 0, 4608, .inl go)), (ne, .inl (cs 0, 4608, .inl gn))]) (st1 := [.int (nI (wdt p9 H)), .int 0, .int y, .int (nI (cl x (wdt p9 W))), .int (nI p9)]) hF (c_X7_highOf l D cs tt o mt qu zz nw ol ne se ke re ve ps di lv bd co bt ma W H md th nc ns is ik dc sc kd wh fa ow tl bf bo p9 hp) gX7_look_X7_highOf rfl (n := 1) (by decide +kernel) rfl ⟨⟨rfl, rfl⟩, Nat.le_of_ble_eq_true rfl, Nat.le_of_ble_eq_true rfl⟩ ⟨Nat.le_of_ble_eq_true rfl, Nat.le_of_ble_eq_true rfl⟩ hX hP hD hS [0] (by decide) rfl [o] rfl rfl (q0 := 0) (ci := 7) rfl rfl rfl hl.1 rfl (Nat.le_of_ble_eq_true rfl) dX7_look_18 rfl rfl (fun Hp locs hP hD hS => ?_)
  refine lv_iconst (v := 1) hx hb dX7_look_21 (by decide) ?_
  refine lv_isub hx hb dX7_look_22 ?_
  refine xSt (rest := [.int (nI (cl x (wdt p9 W))), .int (nI p9)]) (As := [.int y, .int 0, .int ((nI (wdt p9 H)) - 1)]) (ws1 := [(o, .inr (7, mdF th W H mt qu zz nw ol ne se ke nc ns is ik dc sc kd md wh fa re ve ps ow tl di lv bf bo bd co bt ma)), (ol, .inl (cs 0, 4608, .inl go)), (ne, .inl (cs 0, 4608, .inl gn))]) (st1 := [.int (bnd y 0 ((nI (wdt p9 H)) - 1)), .int (nI (cl x (wdt p9 W))), .int (nI p9)]) hF (c_X7_within l D cs tt y 0 ((nI (wdt p9 H)) - 1)) gX7_look_X7_within rfl (n := 3) (by decide +kernel) rfl ⟨⟨rfl, rfl⟩, Nat.le_of_ble_eq_true rfl, Nat.le_of_ble_eq_true rfl⟩ ⟨Nat.le_of_ble_eq_true rfl, Nat.le_of_ble_eq_true rfl⟩ hX hP hD hS [] (by decide) rfl [] rfl rfl hl.1 rfl (Nat.le_of_ble_eq_true rfl) dX7_look_23 rfl rfl (fun Hp locs hP hD hS => ?_)
  refine xrwi (z := nI (cl y (wdt p9 H))) (cl_bnd y hH1 (by omega)) ?_
  refine xSt (rest := []) (As := [.int (nI p9), .int (nI (cl x (wdt p9 W))), .int (nI (cl y (wdt p9 H)))]) (ws1 := [(o, .inr (7, mdF th W H mt qu zz nw ol ne se ke nc ns is ik dc sc kd md wh fa re ve ps ow tl di lv bf bo bd co bt ma)), (ol, .inl (cs 0, 4608, .inl go)), (ne, .inl (cs 0, 4608, .inl gn))]) (st1 := [.int (nI (plc p9 (cl x (wdt p9 W)) (cl y (wdt p9 H))))]) hF (c_X7_place l D cs tt p9 (cl x (wdt p9 W)) (cl y (wdt p9 H)) hp) gX7_look_X7_place rfl (n := 3) (by decide +kernel) rfl ⟨⟨rfl, rfl⟩, Nat.le_of_ble_eq_true rfl, Nat.le_of_ble_eq_true rfl⟩ ⟨Nat.le_of_ble_eq_true rfl, Nat.le_of_ble_eq_true rfl⟩ hX hP hD hS [] (by decide) rfl [] rfl rfl hl.1 rfl (Nat.le_of_ble_eq_true rfl) dX7_look_26 rfl rfl (fun Hp locs hP hD hS => ?_)
  refine lv_istore (lv' := [(5, .int (nI (plc p9 (cl x (wdt p9 W)) (cl y (wdt p9 H))))), (0, .ref o), (1, .int 0), (2, .int (nI p9)), (3, .int x), (4, .int y)]) hx hb dX7_look_29 hl (by decide) rfl (fun ls hl => ?_)
  refine lv_iload_n hx hb dX7_look_31 rfl (lv_at hl 2 rfl) ?_
  refine lv_if_ne (tgt := 45) hx hb dX7_look_32 (by decide) (fun c_32 => absurd (by decide) c_32) (fun _ => ?_)
  refine lv_aload_n hx hb dX7_look_35 rfl (lv_at hl 1 rfl) ?_
  refine xget (C := RX7) (T := TX7) (N := 34) hF hX hP (by decide +kernel) 0 7 rfl rfl (by decide) (by decide +kernel) rfl dX7_look_36 ?_
  refine lv_iload hx hb dX7_look_39 (lv_at hl 0 rfl) ?_
  refine xald (k := plc p9 (cl x (wdt p9 W)) (cl y (wdt p9 H))) hF hX hP 1 rfl (nI_clamp (by omega)) (vp_in_nI (hpl) (by decide)) dX7_look_41 ?_
  refine lv_goto (tgt := 52) hx hb dX7_look_42 (by decide) ?_
  exact xri (Q9 := fun _ _ _ _ => True) hF hr hlk hP hD hS dX7_look_52

set_option maxHeartbeats 4000000 in
set_option maxRecDepth 100000 in
theorem c_X7_look1 (l : Launch) (D : va_G) (cs : Nat → ClassId) (tt : Nat → Nat) (o mt qu zz nw ol ne se ke re ve ps di lv bd co bt ma W H md : Nat) (th nc ns is ik dc sc kd wh fa ow tl bf bo : Int32) (p9 : Nat) (x y : Int32) (go gn : Nat → Int32) (hp : p9 < 3) (hw : 1 ≤ W) (hw4 : W ≤ 4) (hh : 1 ≤ H) (hh3 : H ≤ 3) : xM l yX7_look wsX7_look ({ frames := 1, cells := 0, slots := 0, locals := 22 } : Room) D cs tt [.ref o, .int 1, .int (nI p9), .int x, .int y] [(o, .inr (7, mdF th W H mt qu zz nw ol ne se ke nc ns is ik dc sc kd md wh fa re ve ps ow tl di lv bf bo bd co bt ma)), (ol, .inl (cs 0, 4608, .inl go)), (ne, .inl (cs 0, 4608, .inl gn))] (some (.int (lokP gn p9 (cl x (wdt p9 W)) (cl y (wdt p9 H))))) [(o, .inr (7, mdF th W H mt qu zz nw ol ne se ke nc ns is ik dc sc kd md wh fa re ve ps ow tl di lv bf bo bd co bt ma)), (ol, .inl (cs 0, 4608, .inl go)), (ne, .inl (cs 0, 4608, .inl gn))] := by
  refine xM.of RX7 rfl (by decide) rfl (Nat.le_of_ble_eq_true rfl) ?_
  intro p e s m below meth c A ls hF hr hlk hX hP hD hS hl
  have hx := hF.1
  have hb := hF.2.1
  have hl : lv_has ls 6 [(0, .ref o), (1, .int 1), (2, .int (nI p9)), (3, .int x), (4, .int y)] := hl
  have hW64 := wdt_le (p := p9) hw4
  have hH64 := wdt_le (p := p9) (show H ≤ 4 by omega)
  have hW1 := wdt_1 (p := p9) hw
  have hH1 := wdt_1 (p := p9) hh
  have hpl := plc_lt hp hw4 hh3 (cl_lt x hW1) (cl_lt y hH1)
  refine lv_iload_n hx hb dX7_look_0 rfl (lv_at hl 2 rfl) ?_
  refine lv_iload_n hx hb dX7_look_1 rfl (lv_at hl 3 rfl) ?_
  refine lv_iconst (v := 0) hx hb dX7_look_2 (by decide) ?_
  refine lv_aload_n hx hb dX7_look_3 rfl (lv_at hl 0 rfl) ?_
  refine lv_iload_n hx hb dX7_look_4 rfl (lv_at hl 2 rfl) ?_
  refine xV (rest := [.int 0, .int x, .int (nI p9)]) (As := [.int (nI p9)]) (ws1 := [(o, .inr (7, mdF th W H mt qu zz nw ol ne se ke nc ns is ik dc sc kd md wh fa re ve ps ow tl di lv bf bo bd co bt ma)), (ol, .inl (cs 0, 4608, .inl go)), (ne, .inl (cs 0, 4608, .inl gn))]) (st1 := [.int (nI (wdt p9 W)), .int 0, .int x, .int (nI p9)]) hF (c_X7_wideOf l D cs tt o mt qu zz nw ol ne se ke re ve ps di lv bd co bt ma W H md th nc ns is ik dc sc kd wh fa ow tl bf bo p9 hp) gX7_look_X7_wideOf rfl (n := 1) (by decide +kernel) rfl ⟨⟨rfl, rfl⟩, Nat.le_of_ble_eq_true rfl, Nat.le_of_ble_eq_true rfl⟩ ⟨Nat.le_of_ble_eq_true rfl, Nat.le_of_ble_eq_true rfl⟩ hX hP hD hS [0] (by decide) rfl [o] rfl rfl (q0 := 0) (ci := 7) rfl rfl rfl hl.1 rfl (Nat.le_of_ble_eq_true rfl) dX7_look_5 rfl rfl (fun Hp locs hP hD hS => ?_)
  refine lv_iconst (v := 1) hx hb dX7_look_8 (by decide) ?_
  refine lv_isub hx hb dX7_look_9 ?_
  refine xSt (rest := [.int (nI p9)]) (As := [.int x, .int 0, .int ((nI (wdt p9 W)) - 1)]) (ws1 := [(o, .inr (7, mdF th W H mt qu zz nw ol ne se ke nc ns is ik dc sc kd md wh fa re ve ps ow tl di lv bf bo bd co bt ma)), (ol, .inl (cs 0, 4608, .inl go)), (ne, .inl (cs 0, 4608, .inl gn))]) (st1 := [.int (bnd x 0 ((nI (wdt p9 W)) - 1)), .int (nI p9)]) hF (c_X7_within l D cs tt x 0 ((nI (wdt p9 W)) - 1)) gX7_look_X7_within rfl (n := 3) (by decide +kernel) rfl ⟨⟨rfl, rfl⟩, Nat.le_of_ble_eq_true rfl, Nat.le_of_ble_eq_true rfl⟩ ⟨Nat.le_of_ble_eq_true rfl, Nat.le_of_ble_eq_true rfl⟩ hX hP hD hS [] (by decide) rfl [] rfl rfl hl.1 rfl (Nat.le_of_ble_eq_true rfl) dX7_look_10 rfl rfl (fun Hp locs hP hD hS => ?_)
  refine xrwi (z := nI (cl x (wdt p9 W))) (cl_bnd x hW1 (by omega)) ?_
  refine lv_iload hx hb dX7_look_13 (lv_at hl 4 rfl) ?_
  refine lv_iconst (v := 0) hx hb dX7_look_15 (by decide) ?_
  refine lv_aload_n hx hb dX7_look_16 rfl (lv_at hl 0 rfl) ?_
  refine lv_iload_n hx hb dX7_look_17 rfl (lv_at hl 2 rfl) ?_
  refine xV (rest := [.int 0, .int y, .int (nI (cl x (wdt p9 W))), .int (nI p9)]) (As := [.int (nI p9)]) (ws1 := [(o, .inr (7, mdF th W H mt qu zz nw ol ne se ke nc ns is ik dc sc kd md wh fa re ve ps ow tl di lv bf bo bd co bt ma)), (ol, .inl (cs 0, 4608, .inl go)), (ne, .inl (cs 0, 4608, .inl gn))]) (st1 := [.int (nI (wdt p9 H)), .int 0, .int y, .int (nI (cl x (wdt p9 W))), .int (nI p9)]) hF (c_X7_highOf l D cs tt o mt qu zz nw ol ne se ke re ve ps di lv bd co bt ma W H md th nc ns is ik dc sc kd wh fa ow tl bf bo p9 hp) gX7_look_X7_highOf rfl (n := 1) (by decide +kernel) rfl ⟨⟨rfl, rfl⟩, Nat.le_of_ble_eq_true rfl, Nat.le_of_ble_eq_true rfl⟩ ⟨Nat.le_of_ble_eq_true rfl, Nat.le_of_ble_eq_true rfl⟩ hX hP hD hS [0] (by decide) rfl [o] rfl rfl (q0 := 0) (ci := 7) rfl rfl rfl hl.1 rfl (Nat.le_of_ble_eq_true rfl) dX7_look_18 rfl rfl (fun Hp locs hP hD hS => ?_)
  refine lv_iconst (v := 1) hx hb dX7_look_21 (by decide) ?_
  refine lv_isub hx hb dX7_look_22 ?_
  refine xSt (rest := [.int (nI (cl x (wdt p9 W))), .int (nI p9)]) (As := [.int y, .int 0, .int ((nI (wdt p9 H)) - 1)]) (ws1 := [(o, .inr (7, mdF th W H mt qu zz nw ol ne se ke nc ns is ik dc sc kd md wh fa re ve ps ow tl di lv bf bo bd co bt ma)), (ol, .inl (cs 0, 4608, .inl go)), (ne, .inl (cs 0, 4608, .inl gn))]) (st1 := [.int (bnd y 0 ((nI (wdt p9 H)) - 1)), .int (nI (cl x (wdt p9 W))), .int (nI p9)]) hF (c_X7_within l D cs tt y 0 ((nI (wdt p9 H)) - 1)) gX7_look_X7_within rfl (n := 3) (by decide +kernel) rfl ⟨⟨rfl, rfl⟩, Nat.le_of_ble_eq_true rfl, Nat.le_of_ble_eq_true rfl⟩ ⟨Nat.le_of_ble_eq_true rfl, Nat.le_of_ble_eq_true rfl⟩ hX hP hD hS [] (by decide) rfl [] rfl rfl hl.1 rfl (Nat.le_of_ble_eq_true rfl) dX7_look_23 rfl rfl (fun Hp locs hP hD hS => ?_)
  refine xrwi (z := nI (cl y (wdt p9 H))) (cl_bnd y hH1 (by omega)) ?_
  refine xSt (rest := []) (As := [.int (nI p9), .int (nI (cl x (wdt p9 W))), .int (nI (cl y (wdt p9 H)))]) (ws1 := [(o, .inr (7, mdF th W H mt qu zz nw ol ne se ke nc ns is ik dc sc kd md wh fa re ve ps ow tl di lv bf bo bd co bt ma)), (ol, .inl (cs 0, 4608, .inl go)), (ne, .inl (cs 0, 4608, .inl gn))]) (st1 := [.int (nI (plc p9 (cl x (wdt p9 W)) (cl y (wdt p9 H))))]) hF (c_X7_place l D cs tt p9 (cl x (wdt p9 W)) (cl y (wdt p9 H)) hp) gX7_look_X7_place rfl (n := 3) (by decide +kernel) rfl ⟨⟨rfl, rfl⟩, Nat.le_of_ble_eq_true rfl, Nat.le_of_ble_eq_true rfl⟩ ⟨Nat.le_of_ble_eq_true rfl, Nat.le_of_ble_eq_true rfl⟩ hX hP hD hS [] (by decide) rfl [] rfl rfl hl.1 rfl (Nat.le_of_ble_eq_true rfl) dX7_look_26 rfl rfl (fun Hp locs hP hD hS => ?_)
  refine lv_istore (lv' := [(5, .int (nI (plc p9 (cl x (wdt p9 W)) (cl y (wdt p9 H))))), (0, .ref o), (1, .int 1), (2, .int (nI p9)), (3, .int x), (4, .int y)]) hx hb dX7_look_29 hl (by decide) rfl (fun ls hl => ?_)
  refine lv_iload_n hx hb dX7_look_31 rfl (lv_at hl 2 rfl) ?_
  refine lv_if_ne (tgt := 45) hx hb dX7_look_32 (by decide) (fun _ => ?_) (fun c_32 => absurd c_32 (by decide))
  refine lv_aload_n hx hb dX7_look_45 rfl (lv_at hl 1 rfl) ?_
  refine xget (C := RX7) (T := TX7) (N := 34) hF hX hP (by decide +kernel) 0 8 rfl rfl (by decide) (by decide +kernel) rfl dX7_look_46 ?_
  refine lv_iload hx hb dX7_look_49 (lv_at hl 0 rfl) ?_
  refine xald (k := plc p9 (cl x (wdt p9 W)) (cl y (wdt p9 H))) hF hX hP 2 rfl (nI_clamp (by omega)) (vp_in_nI (hpl) (by decide)) dX7_look_51 ?_
  exact xri (Q9 := fun _ _ _ _ => True) hF hr hlk hP hD hS dX7_look_52

set_option maxHeartbeats 4000000 in
set_option maxRecDepth 100000 in
theorem c_X7_fetch02 (l : Launch) (D : va_G) (cs : Nat → ClassId) (tt : Nat → Nat) (o mt qu zz nw ol ne se ke re ve ps di lv bd co bt ma W H md : Nat) (th nc ns is ik dc sc wh fa ow tl bf bo : Int32) (p9 : Nat) (x y : Int32) (go gn V : Nat → Int32) (hp : p9 < 3) (hw : 1 ≤ W) (hw4 : W ≤ 4) (hh : 1 ≤ H) (hh3 : H ≤ 3) : xM l yX7_fetch wsX7_fetch ({ frames := 2, cells := 0, slots := 0, locals := 47 } : Room) D cs tt [.ref o, .int 0, .int (nI p9), .int x, .int y] [(o, .inr (7, mdF th W H mt qu zz nw ol ne se ke nc ns is ik dc sc 2 md wh fa re ve ps ow tl di lv bf bo bd co bt ma)), (ol, .inl (cs 0, 4608, .inl go)), (ne, .inl (cs 0, 4608, .inl gn)), (ve, .inl (cs 0, 4, .inl V))] (some (.int (mft (lokP gn p9) (wdt p9 W) (wdt p9 H) x y (mus wh (V 0) p9) (mus wh (V 1) p9)))) [(o, .inr (7, mdF th W H mt qu zz nw ol ne se ke nc ns is ik dc sc 2 md wh fa re ve ps ow tl di lv bf bo bd co bt ma)), (ol, .inl (cs 0, 4608, .inl go)), (ne, .inl (cs 0, 4608, .inl gn)), (ve, .inl (cs 0, 4, .inl V))] := by
  refine xM.of RX7 rfl (by decide) rfl (Nat.le_of_ble_eq_true rfl) ?_
  intro p e s m below meth c A ls hF hr hlk hX hP hD hS hl
  have hx := hF.1
  have hb := hF.2.1
  have hl : lv_has ls 13 [(0, .ref o), (1, .int 0), (2, .int (nI p9)), (3, .int x), (4, .int y)] := hl
  have hp0 : nI p9 ≤ 0 → p9 = 0 := fun h => by
    rcases Nat.eq_zero_or_pos p9 with q | q
    · exact q
    · exact absurd h (nI_nle q (by omega))
  have hp1 : ¬ nI p9 ≤ 0 → ¬ p9 = 0 := fun h q => h (by rw [q]; decide)
  have join_96 : ∀ (Hp : Heap) (locs : List Loc) (ls : Array Slot), va_P D vwCl [(o, .inr (7, mdF th W H mt qu zz nw ol ne se ke nc ns is ik dc sc 2 md wh fa re ve ps ow tl di lv bf bo bd co bt ma)), (ol, .inl (cs 0, 4608, .inl go)), (ne, .inl (cs 0, 4608, .inl gn)), (ve, .inl (cs 0, 4, .inl V))] Hp → va_D A [(o, .inr (7, mdF th W H mt qu zz nw ol ne se ke nc ns is ik dc sc 2 md wh fa re ve ps ow tl di lv bf bo bd co bt ma)), (ol, .inl (cs 0, 4608, .inl go)), (ne, .inl (cs 0, 4608, .inl gn)), (ve, .inl (cs 0, 4, .inl V))] → va_S A s.heap Hp locs → lv_has ls 13 [(6, .int (mus wh (V 0) p9)), (7, .int (V 1 * mul2 wh)), (0, .ref o), (1, .int 0), (2, .int (nI p9)), (3, .int x), (4, .int y), (5, .int 1)] → xW p l e ({ frames := 2, cells := 0, slots := 0, locals := 47 } : Room) s m ([.ref o, .int 0, .int (nI p9), .int x, .int y] : List Value).toArray below meth c Hp locs 0 0 (MQ below (xE D A (some (.int (mft (lokP gn p9) (wdt p9 W) (wdt p9 H) x y (mus wh (V 0) p9) (mus wh (V 1) p9)))) [(o, .inr (7, mdF th W H mt qu zz nw ol ne se ke nc ns is ik dc sc 2 md wh fa re ve ps ow tl di lv bf bo bd co bt ma)), (ol, .inl (cs 0, 4608, .inl go)), (ne, .inl (cs 0, 4608, .inl gn)), (ve, .inl (cs 0, 4, .inl V))]) ([.ref o, .int 0, .int (nI p9), .int x, .int y] : List Value).toArray s 0 0 A) (F0 m 96 ls [.int (mus wh (V 1) p9)]) := by
    intro Hp locs ls hP hD hS hl
    refine lv_istore (lv' := [(7, .int (mus wh (V 1) p9)), (6, .int (mus wh (V 0) p9)), (0, .ref o), (1, .int 0), (2, .int (nI p9)), (3, .int x), (4, .int y), (5, .int 1)]) hx hb dX7_fetch_96 hl (by decide) rfl (fun ls hl => ?_)
    refine lv_iload_n hx hb dX7_fetch_98 rfl (lv_at hl 5 rfl) ?_
    refine lv_iload hx hb dX7_fetch_99 (lv_at hl 1 rfl) ?_
    refine lv_iconst (v := 1) hx hb dX7_fetch_101 (by decide) ?_
    refine lv_ishr hx hb dX7_fetch_102 ?_
    refine lv_iadd hx hb dX7_fetch_103 ?_
    refine lv_istore (lv' := [(8, .int (x + ((mus wh (V 0) p9) >>> (1 &&& 31)))), (7, .int (mus wh (V 1) p9)), (6, .int (mus wh (V 0) p9)), (0, .ref o), (1, .int 0), (2, .int (nI p9)), (3, .int x), (4, .int y), (5, .int 1)]) hx hb dX7_fetch_104 hl (by decide) rfl (fun ls hl => ?_)
    refine lv_iload hx hb dX7_fetch_106 (lv_at hl 7 rfl) ?_
    refine lv_iload hx hb dX7_fetch_108 (lv_at hl 1 rfl) ?_
    refine lv_iconst (v := 1) hx hb dX7_fetch_110 (by decide) ?_
    refine lv_ishr hx hb dX7_fetch_111 ?_
    refine lv_iadd hx hb dX7_fetch_112 ?_
    refine lv_istore (lv' := [(9, .int (y + ((mus wh (V 1) p9) >>> (1 &&& 31)))), (8, .int (x + ((mus wh (V 0) p9) >>> (1 &&& 31)))), (7, .int (mus wh (V 1) p9)), (6, .int (mus wh (V 0) p9)), (0, .ref o), (1, .int 0), (2, .int (nI p9)), (3, .int x), (4, .int y), (5, .int 1)]) hx hb dX7_fetch_113 hl (by decide) rfl (fun ls hl => ?_)
    refine lv_aload_n hx hb dX7_fetch_115 rfl (lv_at hl 4 rfl) ?_
    refine lv_iload hx hb dX7_fetch_116 (lv_at hl 9 rfl) ?_
    refine lv_iload_n hx hb dX7_fetch_118 rfl (lv_at hl 6 rfl) ?_
    refine lv_iload hx hb dX7_fetch_119 (lv_at hl 1 rfl) ?_
    refine lv_iload hx hb dX7_fetch_121 (lv_at hl 0 rfl) ?_
    refine xV (rest := []) (As := [.int 1, .int (nI p9), .int (x + ((mus wh (V 0) p9) >>> (1 &&& 31))), .int (y + ((mus wh (V 1) p9) >>> (1 &&& 31)))]) (ws1 := [(o, .inr (7, mdF th W H mt qu zz nw ol ne se ke nc ns is ik dc sc 2 md wh fa re ve ps ow tl di lv bf bo bd co bt ma)), (ol, .inl (cs 0, 4608, .inl go)), (ne, .inl (cs 0, 4608, .inl gn)), (ve, .inl (cs 0, 4, .inl V))]) (st1 := [.int (lokP gn p9 (cl (x + ((mus wh (V 0) p9) >>> (1 &&& 31))) (wdt p9 W)) (cl (y + ((mus wh (V 1) p9) >>> (1 &&& 31))) (wdt p9 H)))]) hF (c_X7_look1 l D cs tt o mt qu zz nw ol ne se ke re ve ps di lv bd co bt ma W H md th nc ns is ik dc sc 2 wh fa ow tl bf bo p9 (x + ((mus wh (V 0) p9) >>> (1 &&& 31))) (y + ((mus wh (V 1) p9) >>> (1 &&& 31))) go gn hp hw hw4 hh hh3) gX7_fetch_X7_look rfl (n := 4) (by decide +kernel) rfl ⟨⟨rfl, rfl⟩, Nat.le_of_ble_eq_true rfl, Nat.le_of_ble_eq_true rfl⟩ ⟨Nat.le_of_ble_eq_true rfl, Nat.le_of_ble_eq_true rfl⟩ hX hP hD hS [0, 1, 2] (by decide) rfl [o, ol, ne] rfl rfl (q0 := 0) (ci := 7) rfl rfl rfl hl.1 rfl (Nat.le_of_ble_eq_true rfl) dX7_fetch_123 rfl rfl (fun Hp locs hP hD hS => ?_)
    refine lv_istore (lv' := [(10, .int (lokP gn p9 (cl (x + ((mus wh (V 0) p9) >>> (1 &&& 31))) (wdt p9 W)) (cl (y + ((mus wh (V 1) p9) >>> (1 &&& 31))) (wdt p9 H)))), (9, .int (y + ((mus wh (V 1) p9) >>> (1 &&& 31)))), (8, .int (x + ((mus wh (V 0) p9) >>> (1 &&& 31)))), (7, .int (mus wh (V 1) p9)), (6, .int (mus wh (V 0) p9)), (0, .ref o), (1, .int 0), (2, .int (nI p9)), (3, .int x), (4, .int y), (5, .int 1)]) hx hb dX7_fetch_126 hl (by decide) rfl (fun ls hl => ?_)
    refine lv_iload hx hb dX7_fetch_128 (lv_at hl 4 rfl) ?_
    refine lv_iconst (v := 2) hx hb dX7_fetch_130 (by decide) ?_
    refine lv_irem hx hb dX7_fetch_131 (by decide) ?_
    refine lv_if_eq (tgt := 139) hx hb dX7_fetch_132 (by decide) (fun c_132 => ?_) (fun c_132 => ?_)
    · refine lv_iconst (v := 0) hx hb dX7_fetch_139 (by decide) ?_
      refine lv_istore (lv' := [(11, .int 0), (10, .int (lokP gn p9 (cl (x + ((mus wh (V 0) p9) >>> (1 &&& 31))) (wdt p9 W)) (cl (y + ((mus wh (V 1) p9) >>> (1 &&& 31))) (wdt p9 H)))), (9, .int (y + ((mus wh (V 1) p9) >>> (1 &&& 31)))), (8, .int (x + ((mus wh (V 0) p9) >>> (1 &&& 31)))), (7, .int (mus wh (V 1) p9)), (6, .int (mus wh (V 0) p9)), (0, .ref o), (1, .int 0), (2, .int (nI p9)), (3, .int x), (4, .int y), (5, .int 1)]) hx hb dX7_fetch_140 hl (by decide) rfl (fun ls hl => ?_)
      refine lv_iload hx hb dX7_fetch_142 (lv_at hl 4 rfl) ?_
      refine lv_iconst (v := 2) hx hb dX7_fetch_144 (by decide) ?_
      refine lv_irem hx hb dX7_fetch_145 (by decide) ?_
      refine lv_if_eq (tgt := 153) hx hb dX7_fetch_146 (by decide) (fun c_146 => ?_) (fun c_146 => ?_)
      · refine lv_iconst (v := 0) hx hb dX7_fetch_153 (by decide) ?_
        refine lv_istore (lv' := [(12, .int 0), (11, .int 0), (10, .int (lokP gn p9 (cl (x + ((mus wh (V 0) p9) >>> (1 &&& 31))) (wdt p9 W)) (cl (y + ((mus wh (V 1) p9) >>> (1 &&& 31))) (wdt p9 H)))), (9, .int (y + ((mus wh (V 1) p9) >>> (1 &&& 31)))), (8, .int (x + ((mus wh (V 0) p9) >>> (1 &&& 31)))), (7, .int (mus wh (V 1) p9)), (6, .int (mus wh (V 0) p9)), (0, .ref o), (1, .int 0), (2, .int (nI p9)), (3, .int x), (4, .int y), (5, .int 1)]) hx hb dX7_fetch_154 hl (by decide) rfl (fun ls hl => ?_)
        refine lv_iload hx hb dX7_fetch_156 (lv_at hl 1 rfl) ?_
        refine lv_if_eq (tgt := 217) hx hb dX7_fetch_158 (by decide) (fun _ => ?_) (fun c_158 => absurd (by decide) c_158)
        refine lv_iload hx hb dX7_fetch_217 (lv_at hl 1 rfl) ?_
        refine lv_if_ne (tgt := 227) hx hb dX7_fetch_219 (by decide) (fun c_219 => absurd (by decide) c_219) (fun _ => ?_)
        refine lv_iload hx hb dX7_fetch_222 (lv_at hl 0 rfl) ?_
        refine lv_if_eq (tgt := 270) hx hb dX7_fetch_224 (by decide) (fun _ => ?_) (fun c_224 => absurd (by decide) c_224)
        refine lv_iload hx hb dX7_fetch_270 (lv_at hl 2 rfl) ?_
        refine xrwi (z := (mft (lokP gn p9) (wdt p9 W) (wdt p9 H) x y (mus wh (V 0) p9) (mus wh (V 1) p9))) (by simp [mft, c_132, c_146]) ?_
        exact xri (Q9 := fun _ _ _ _ => True) hF hr hlk hP hD hS dX7_fetch_272
      · refine lv_iconst (v := 1) hx hb dX7_fetch_149 (by decide) ?_
        refine lv_goto (tgt := 154) hx hb dX7_fetch_150 (by decide) ?_
        refine lv_istore (lv' := [(12, .int 1), (11, .int 0), (10, .int (lokP gn p9 (cl (x + ((mus wh (V 0) p9) >>> (1 &&& 31))) (wdt p9 W)) (cl (y + ((mus wh (V 1) p9) >>> (1 &&& 31))) (wdt p9 H)))), (9, .int (y + ((mus wh (V 1) p9) >>> (1 &&& 31)))), (8, .int (x + ((mus wh (V 0) p9) >>> (1 &&& 31)))), (7, .int (mus wh (V 1) p9)), (6, .int (mus wh (V 0) p9)), (0, .ref o), (1, .int 0), (2, .int (nI p9)), (3, .int x), (4, .int y), (5, .int 1)]) hx hb dX7_fetch_154 hl (by decide) rfl (fun ls hl => ?_)
        refine lv_iload hx hb dX7_fetch_156 (lv_at hl 1 rfl) ?_
        refine lv_if_eq (tgt := 217) hx hb dX7_fetch_158 (by decide) (fun _ => ?_) (fun c_158 => absurd (by decide) c_158)
        refine lv_iload hx hb dX7_fetch_217 (lv_at hl 1 rfl) ?_
        refine lv_if_ne (tgt := 227) hx hb dX7_fetch_219 (by decide) (fun c_219 => absurd (by decide) c_219) (fun _ => ?_)
        refine lv_iload hx hb dX7_fetch_222 (lv_at hl 0 rfl) ?_
        refine lv_if_eq (tgt := 270) hx hb dX7_fetch_224 (by decide) (fun c_224 => absurd c_224 (by decide)) (fun _ => ?_)
        refine lv_iload hx hb dX7_fetch_227 (lv_at hl 2 rfl) ?_
        refine lv_aload_n hx hb dX7_fetch_229 rfl (lv_at hl 7 rfl) ?_
        refine lv_iload hx hb dX7_fetch_230 (lv_at hl 12 rfl) ?_
        refine lv_iload_n hx hb dX7_fetch_232 rfl (lv_at hl 9 rfl) ?_
        refine lv_iload hx hb dX7_fetch_233 (lv_at hl 1 rfl) ?_
        refine lv_if_eq (tgt := 245) hx hb dX7_fetch_235 (by decide) (fun _ => ?_) (fun c_235 => absurd (by decide) c_235)
        refine lv_iload hx hb dX7_fetch_245 (lv_at hl 4 rfl) ?_
        refine lv_iload hx hb dX7_fetch_247 (lv_at hl 0 rfl) ?_
        refine lv_if_eq (tgt := 259) hx hb dX7_fetch_249 (by decide) (fun c_249 => absurd c_249 (by decide)) (fun _ => ?_)
        refine lv_iload hx hb dX7_fetch_252 (lv_at hl 3 rfl) ?_
        refine lv_iconst (v := 1) hx hb dX7_fetch_254 (by decide) ?_
        refine lv_iadd hx hb dX7_fetch_255 ?_
        refine lv_goto (tgt := 261) hx hb dX7_fetch_256 (by decide) ?_
        refine xV (rest := [.int (lokP gn p9 (cl (x + ((mus wh (V 0) p9) >>> (1 &&& 31))) (wdt p9 W)) (cl (y + ((mus wh (V 1) p9) >>> (1 &&& 31))) (wdt p9 H)))]) (As := [.int 1, .int (nI p9), .int (x + ((mus wh (V 0) p9) >>> (1 &&& 31))), .int ((y + ((mus wh (V 1) p9) >>> (1 &&& 31))) + 1)]) (ws1 := [(o, .inr (7, mdF th W H mt qu zz nw ol ne se ke nc ns is ik dc sc 2 md wh fa re ve ps ow tl di lv bf bo bd co bt ma)), (ol, .inl (cs 0, 4608, .inl go)), (ne, .inl (cs 0, 4608, .inl gn)), (ve, .inl (cs 0, 4, .inl V))]) (st1 := [.int (lokP gn p9 (cl (x + ((mus wh (V 0) p9) >>> (1 &&& 31))) (wdt p9 W)) (cl ((y + ((mus wh (V 1) p9) >>> (1 &&& 31))) + 1) (wdt p9 H))), .int (lokP gn p9 (cl (x + ((mus wh (V 0) p9) >>> (1 &&& 31))) (wdt p9 W)) (cl (y + ((mus wh (V 1) p9) >>> (1 &&& 31))) (wdt p9 H)))]) hF (c_X7_look1 l D cs tt o mt qu zz nw ol ne se ke re ve ps di lv bd co bt ma W H md th nc ns is ik dc sc 2 wh fa ow tl bf bo p9 (x + ((mus wh (V 0) p9) >>> (1 &&& 31))) ((y + ((mus wh (V 1) p9) >>> (1 &&& 31))) + 1) go gn hp hw hw4 hh hh3) gX7_fetch_X7_look rfl (n := 4) (by decide +kernel) rfl ⟨⟨rfl, rfl⟩, Nat.le_of_ble_eq_true rfl, Nat.le_of_ble_eq_true rfl⟩ ⟨Nat.le_of_ble_eq_true rfl, Nat.le_of_ble_eq_true rfl⟩ hX hP hD hS [0, 1, 2] (by decide) rfl [o, ol, ne] rfl rfl (q0 := 0) (ci := 7) rfl rfl rfl hl.1 rfl (Nat.le_of_ble_eq_true rfl) dX7_fetch_261 rfl rfl (fun Hp locs hP hD hS => ?_)
        refine lv_iadd hx hb dX7_fetch_264 ?_
        refine lv_iconst (v := 1) hx hb dX7_fetch_265 (by decide) ?_
        refine lv_iadd hx hb dX7_fetch_266 ?_
        refine lv_iconst (v := 1) hx hb dX7_fetch_267 (by decide) ?_
        refine lv_ishr hx hb dX7_fetch_268 ?_
        refine xrwi (z := (mft (lokP gn p9) (wdt p9 W) (wdt p9 H) x y (mus wh (V 0) p9) (mus wh (V 1) p9))) (by simp [mft, c_132, c_146]) ?_
        exact xri (Q9 := fun _ _ _ _ => True) hF hr hlk hP hD hS dX7_fetch_269
    · refine lv_iconst (v := 1) hx hb dX7_fetch_135 (by decide) ?_
      refine lv_goto (tgt := 140) hx hb dX7_fetch_136 (by decide) ?_
      refine lv_istore (lv' := [(11, .int 1), (10, .int (lokP gn p9 (cl (x + ((mus wh (V 0) p9) >>> (1 &&& 31))) (wdt p9 W)) (cl (y + ((mus wh (V 1) p9) >>> (1 &&& 31))) (wdt p9 H)))), (9, .int (y + ((mus wh (V 1) p9) >>> (1 &&& 31)))), (8, .int (x + ((mus wh (V 0) p9) >>> (1 &&& 31)))), (7, .int (mus wh (V 1) p9)), (6, .int (mus wh (V 0) p9)), (0, .ref o), (1, .int 0), (2, .int (nI p9)), (3, .int x), (4, .int y), (5, .int 1)]) hx hb dX7_fetch_140 hl (by decide) rfl (fun ls hl => ?_)
      refine lv_iload hx hb dX7_fetch_142 (lv_at hl 4 rfl) ?_
      refine lv_iconst (v := 2) hx hb dX7_fetch_144 (by decide) ?_
      refine lv_irem hx hb dX7_fetch_145 (by decide) ?_
      refine lv_if_eq (tgt := 153) hx hb dX7_fetch_146 (by decide) (fun c_146 => ?_) (fun c_146 => ?_)
      · refine lv_iconst (v := 0) hx hb dX7_fetch_153 (by decide) ?_
        refine lv_istore (lv' := [(12, .int 0), (11, .int 1), (10, .int (lokP gn p9 (cl (x + ((mus wh (V 0) p9) >>> (1 &&& 31))) (wdt p9 W)) (cl (y + ((mus wh (V 1) p9) >>> (1 &&& 31))) (wdt p9 H)))), (9, .int (y + ((mus wh (V 1) p9) >>> (1 &&& 31)))), (8, .int (x + ((mus wh (V 0) p9) >>> (1 &&& 31)))), (7, .int (mus wh (V 1) p9)), (6, .int (mus wh (V 0) p9)), (0, .ref o), (1, .int 0), (2, .int (nI p9)), (3, .int x), (4, .int y), (5, .int 1)]) hx hb dX7_fetch_154 hl (by decide) rfl (fun ls hl => ?_)
        refine lv_iload hx hb dX7_fetch_156 (lv_at hl 1 rfl) ?_
        refine lv_if_eq (tgt := 217) hx hb dX7_fetch_158 (by decide) (fun c_158 => absurd c_158 (by decide)) (fun _ => ?_)
        refine lv_iload hx hb dX7_fetch_161 (lv_at hl 0 rfl) ?_
        refine lv_if_eq (tgt := 217) hx hb dX7_fetch_163 (by decide) (fun _ => ?_) (fun c_163 => absurd (by decide) c_163)
        refine lv_iload hx hb dX7_fetch_217 (lv_at hl 1 rfl) ?_
        refine lv_if_ne (tgt := 227) hx hb dX7_fetch_219 (by decide) (fun _ => ?_) (fun c_219 => absurd c_219 (by decide))
        refine lv_iload hx hb dX7_fetch_227 (lv_at hl 2 rfl) ?_
        refine lv_aload_n hx hb dX7_fetch_229 rfl (lv_at hl 7 rfl) ?_
        refine lv_iload hx hb dX7_fetch_230 (lv_at hl 12 rfl) ?_
        refine lv_iload_n hx hb dX7_fetch_232 rfl (lv_at hl 9 rfl) ?_
        refine lv_iload hx hb dX7_fetch_233 (lv_at hl 1 rfl) ?_
        refine lv_if_eq (tgt := 245) hx hb dX7_fetch_235 (by decide) (fun c_235 => absurd c_235 (by decide)) (fun _ => ?_)
        refine lv_iload hx hb dX7_fetch_238 (lv_at hl 4 rfl) ?_
        refine lv_iconst (v := 1) hx hb dX7_fetch_240 (by decide) ?_
        refine lv_iadd hx hb dX7_fetch_241 ?_
        refine lv_goto (tgt := 247) hx hb dX7_fetch_242 (by decide) ?_
        refine lv_iload hx hb dX7_fetch_247 (lv_at hl 0 rfl) ?_
        refine lv_if_eq (tgt := 259) hx hb dX7_fetch_249 (by decide) (fun _ => ?_) (fun c_249 => absurd (by decide) c_249)
        refine lv_iload hx hb dX7_fetch_259 (lv_at hl 3 rfl) ?_
        refine xV (rest := [.int (lokP gn p9 (cl (x + ((mus wh (V 0) p9) >>> (1 &&& 31))) (wdt p9 W)) (cl (y + ((mus wh (V 1) p9) >>> (1 &&& 31))) (wdt p9 H)))]) (As := [.int 1, .int (nI p9), .int ((x + ((mus wh (V 0) p9) >>> (1 &&& 31))) + 1), .int (y + ((mus wh (V 1) p9) >>> (1 &&& 31)))]) (ws1 := [(o, .inr (7, mdF th W H mt qu zz nw ol ne se ke nc ns is ik dc sc 2 md wh fa re ve ps ow tl di lv bf bo bd co bt ma)), (ol, .inl (cs 0, 4608, .inl go)), (ne, .inl (cs 0, 4608, .inl gn)), (ve, .inl (cs 0, 4, .inl V))]) (st1 := [.int (lokP gn p9 (cl ((x + ((mus wh (V 0) p9) >>> (1 &&& 31))) + 1) (wdt p9 W)) (cl (y + ((mus wh (V 1) p9) >>> (1 &&& 31))) (wdt p9 H))), .int (lokP gn p9 (cl (x + ((mus wh (V 0) p9) >>> (1 &&& 31))) (wdt p9 W)) (cl (y + ((mus wh (V 1) p9) >>> (1 &&& 31))) (wdt p9 H)))]) hF (c_X7_look1 l D cs tt o mt qu zz nw ol ne se ke re ve ps di lv bd co bt ma W H md th nc ns is ik dc sc 2 wh fa ow tl bf bo p9 ((x + ((mus wh (V 0) p9) >>> (1 &&& 31))) + 1) (y + ((mus wh (V 1) p9) >>> (1 &&& 31))) go gn hp hw hw4 hh hh3) gX7_fetch_X7_look rfl (n := 4) (by decide +kernel) rfl ⟨⟨rfl, rfl⟩, Nat.le_of_ble_eq_true rfl, Nat.le_of_ble_eq_true rfl⟩ ⟨Nat.le_of_ble_eq_true rfl, Nat.le_of_ble_eq_true rfl⟩ hX hP hD hS [0, 1, 2] (by decide) rfl [o, ol, ne] rfl rfl (q0 := 0) (ci := 7) rfl rfl rfl hl.1 rfl (Nat.le_of_ble_eq_true rfl) dX7_fetch_261 rfl rfl (fun Hp locs hP hD hS => ?_)
        refine lv_iadd hx hb dX7_fetch_264 ?_
        refine lv_iconst (v := 1) hx hb dX7_fetch_265 (by decide) ?_
        refine lv_iadd hx hb dX7_fetch_266 ?_
        refine lv_iconst (v := 1) hx hb dX7_fetch_267 (by decide) ?_
        refine lv_ishr hx hb dX7_fetch_268 ?_
        refine xrwi (z := (mft (lokP gn p9) (wdt p9 W) (wdt p9 H) x y (mus wh (V 0) p9) (mus wh (V 1) p9))) (by simp [mft, c_132, c_146]) ?_
        exact xri (Q9 := fun _ _ _ _ => True) hF hr hlk hP hD hS dX7_fetch_269
      · refine lv_iconst (v := 1) hx hb dX7_fetch_149 (by decide) ?_
        refine lv_goto (tgt := 154) hx hb dX7_fetch_150 (by decide) ?_
        refine lv_istore (lv' := [(12, .int 1), (11, .int 1), (10, .int (lokP gn p9 (cl (x + ((mus wh (V 0) p9) >>> (1 &&& 31))) (wdt p9 W)) (cl (y + ((mus wh (V 1) p9) >>> (1 &&& 31))) (wdt p9 H)))), (9, .int (y + ((mus wh (V 1) p9) >>> (1 &&& 31)))), (8, .int (x + ((mus wh (V 0) p9) >>> (1 &&& 31)))), (7, .int (mus wh (V 1) p9)), (6, .int (mus wh (V 0) p9)), (0, .ref o), (1, .int 0), (2, .int (nI p9)), (3, .int x), (4, .int y), (5, .int 1)]) hx hb dX7_fetch_154 hl (by decide) rfl (fun ls hl => ?_)
        refine lv_iload hx hb dX7_fetch_156 (lv_at hl 1 rfl) ?_
        refine lv_if_eq (tgt := 217) hx hb dX7_fetch_158 (by decide) (fun c_158 => absurd c_158 (by decide)) (fun _ => ?_)
        refine lv_iload hx hb dX7_fetch_161 (lv_at hl 0 rfl) ?_
        refine lv_if_eq (tgt := 217) hx hb dX7_fetch_163 (by decide) (fun c_163 => absurd c_163 (by decide)) (fun _ => ?_)
        refine lv_iload hx hb dX7_fetch_166 (lv_at hl 2 rfl) ?_
        refine lv_aload_n hx hb dX7_fetch_168 rfl (lv_at hl 7 rfl) ?_
        refine lv_iload hx hb dX7_fetch_169 (lv_at hl 12 rfl) ?_
        refine lv_iload_n hx hb dX7_fetch_171 rfl (lv_at hl 9 rfl) ?_
        refine lv_iload hx hb dX7_fetch_172 (lv_at hl 4 rfl) ?_
        refine lv_iconst (v := 1) hx hb dX7_fetch_174 (by decide) ?_
        refine lv_iadd hx hb dX7_fetch_175 ?_
        refine lv_iload hx hb dX7_fetch_176 (lv_at hl 3 rfl) ?_
        refine xV (rest := [.int (lokP gn p9 (cl (x + ((mus wh (V 0) p9) >>> (1 &&& 31))) (wdt p9 W)) (cl (y + ((mus wh (V 1) p9) >>> (1 &&& 31))) (wdt p9 H)))]) (As := [.int 1, .int (nI p9), .int ((x + ((mus wh (V 0) p9) >>> (1 &&& 31))) + 1), .int (y + ((mus wh (V 1) p9) >>> (1 &&& 31)))]) (ws1 := [(o, .inr (7, mdF th W H mt qu zz nw ol ne se ke nc ns is ik dc sc 2 md wh fa re ve ps ow tl di lv bf bo bd co bt ma)), (ol, .inl (cs 0, 4608, .inl go)), (ne, .inl (cs 0, 4608, .inl gn)), (ve, .inl (cs 0, 4, .inl V))]) (st1 := [.int (lokP gn p9 (cl ((x + ((mus wh (V 0) p9) >>> (1 &&& 31))) + 1) (wdt p9 W)) (cl (y + ((mus wh (V 1) p9) >>> (1 &&& 31))) (wdt p9 H))), .int (lokP gn p9 (cl (x + ((mus wh (V 0) p9) >>> (1 &&& 31))) (wdt p9 W)) (cl (y + ((mus wh (V 1) p9) >>> (1 &&& 31))) (wdt p9 H)))]) hF (c_X7_look1 l D cs tt o mt qu zz nw ol ne se ke re ve ps di lv bd co bt ma W H md th nc ns is ik dc sc 2 wh fa ow tl bf bo p9 ((x + ((mus wh (V 0) p9) >>> (1 &&& 31))) + 1) (y + ((mus wh (V 1) p9) >>> (1 &&& 31))) go gn hp hw hw4 hh hh3) gX7_fetch_X7_look rfl (n := 4) (by decide +kernel) rfl ⟨⟨rfl, rfl⟩, Nat.le_of_ble_eq_true rfl, Nat.le_of_ble_eq_true rfl⟩ ⟨Nat.le_of_ble_eq_true rfl, Nat.le_of_ble_eq_true rfl⟩ hX hP hD hS [0, 1, 2] (by decide) rfl [o, ol, ne] rfl rfl (q0 := 0) (ci := 7) rfl rfl rfl hl.1 rfl (Nat.le_of_ble_eq_true rfl) dX7_fetch_178 rfl rfl (fun Hp locs hP hD hS => ?_)
        refine lv_iadd hx hb dX7_fetch_181 ?_
        refine lv_aload_n hx hb dX7_fetch_182 rfl (lv_at hl 7 rfl) ?_
        refine lv_iload hx hb dX7_fetch_183 (lv_at hl 12 rfl) ?_
        refine lv_iload_n hx hb dX7_fetch_185 rfl (lv_at hl 9 rfl) ?_
        refine lv_iload hx hb dX7_fetch_186 (lv_at hl 4 rfl) ?_
        refine lv_iload hx hb dX7_fetch_188 (lv_at hl 3 rfl) ?_
        refine lv_iconst (v := 1) hx hb dX7_fetch_190 (by decide) ?_
        refine lv_iadd hx hb dX7_fetch_191 ?_
        refine xV (rest := [.int ((lokP gn p9 (cl (x + ((mus wh (V 0) p9) >>> (1 &&& 31))) (wdt p9 W)) (cl (y + ((mus wh (V 1) p9) >>> (1 &&& 31))) (wdt p9 H))) + (lokP gn p9 (cl ((x + ((mus wh (V 0) p9) >>> (1 &&& 31))) + 1) (wdt p9 W)) (cl (y + ((mus wh (V 1) p9) >>> (1 &&& 31))) (wdt p9 H))))]) (As := [.int 1, .int (nI p9), .int (x + ((mus wh (V 0) p9) >>> (1 &&& 31))), .int ((y + ((mus wh (V 1) p9) >>> (1 &&& 31))) + 1)]) (ws1 := [(o, .inr (7, mdF th W H mt qu zz nw ol ne se ke nc ns is ik dc sc 2 md wh fa re ve ps ow tl di lv bf bo bd co bt ma)), (ol, .inl (cs 0, 4608, .inl go)), (ne, .inl (cs 0, 4608, .inl gn)), (ve, .inl (cs 0, 4, .inl V))]) (st1 := [.int (lokP gn p9 (cl (x + ((mus wh (V 0) p9) >>> (1 &&& 31))) (wdt p9 W)) (cl ((y + ((mus wh (V 1) p9) >>> (1 &&& 31))) + 1) (wdt p9 H))), .int ((lokP gn p9 (cl (x + ((mus wh (V 0) p9) >>> (1 &&& 31))) (wdt p9 W)) (cl (y + ((mus wh (V 1) p9) >>> (1 &&& 31))) (wdt p9 H))) + (lokP gn p9 (cl ((x + ((mus wh (V 0) p9) >>> (1 &&& 31))) + 1) (wdt p9 W)) (cl (y + ((mus wh (V 1) p9) >>> (1 &&& 31))) (wdt p9 H))))]) hF (c_X7_look1 l D cs tt o mt qu zz nw ol ne se ke re ve ps di lv bd co bt ma W H md th nc ns is ik dc sc 2 wh fa ow tl bf bo p9 (x + ((mus wh (V 0) p9) >>> (1 &&& 31))) ((y + ((mus wh (V 1) p9) >>> (1 &&& 31))) + 1) go gn hp hw hw4 hh hh3) gX7_fetch_X7_look rfl (n := 4) (by decide +kernel) rfl ⟨⟨rfl, rfl⟩, Nat.le_of_ble_eq_true rfl, Nat.le_of_ble_eq_true rfl⟩ ⟨Nat.le_of_ble_eq_true rfl, Nat.le_of_ble_eq_true rfl⟩ hX hP hD hS [0, 1, 2] (by decide) rfl [o, ol, ne] rfl rfl (q0 := 0) (ci := 7) rfl rfl rfl hl.1 rfl (Nat.le_of_ble_eq_true rfl) dX7_fetch_192 rfl rfl (fun Hp locs hP hD hS => ?_)
        refine lv_iadd hx hb dX7_fetch_195 ?_
        refine lv_aload_n hx hb dX7_fetch_196 rfl (lv_at hl 7 rfl) ?_
        refine lv_iload hx hb dX7_fetch_197 (lv_at hl 12 rfl) ?_
        refine lv_iload_n hx hb dX7_fetch_199 rfl (lv_at hl 9 rfl) ?_
        refine lv_iload hx hb dX7_fetch_200 (lv_at hl 4 rfl) ?_
        refine lv_iconst (v := 1) hx hb dX7_fetch_202 (by decide) ?_
        refine lv_iadd hx hb dX7_fetch_203 ?_
        refine lv_iload hx hb dX7_fetch_204 (lv_at hl 3 rfl) ?_
        refine lv_iconst (v := 1) hx hb dX7_fetch_206 (by decide) ?_
        refine lv_iadd hx hb dX7_fetch_207 ?_
        refine xV (rest := [.int (((lokP gn p9 (cl (x + ((mus wh (V 0) p9) >>> (1 &&& 31))) (wdt p9 W)) (cl (y + ((mus wh (V 1) p9) >>> (1 &&& 31))) (wdt p9 H))) + (lokP gn p9 (cl ((x + ((mus wh (V 0) p9) >>> (1 &&& 31))) + 1) (wdt p9 W)) (cl (y + ((mus wh (V 1) p9) >>> (1 &&& 31))) (wdt p9 H)))) + (lokP gn p9 (cl (x + ((mus wh (V 0) p9) >>> (1 &&& 31))) (wdt p9 W)) (cl ((y + ((mus wh (V 1) p9) >>> (1 &&& 31))) + 1) (wdt p9 H))))]) (As := [.int 1, .int (nI p9), .int ((x + ((mus wh (V 0) p9) >>> (1 &&& 31))) + 1), .int ((y + ((mus wh (V 1) p9) >>> (1 &&& 31))) + 1)]) (ws1 := [(o, .inr (7, mdF th W H mt qu zz nw ol ne se ke nc ns is ik dc sc 2 md wh fa re ve ps ow tl di lv bf bo bd co bt ma)), (ol, .inl (cs 0, 4608, .inl go)), (ne, .inl (cs 0, 4608, .inl gn)), (ve, .inl (cs 0, 4, .inl V))]) (st1 := [.int (lokP gn p9 (cl ((x + ((mus wh (V 0) p9) >>> (1 &&& 31))) + 1) (wdt p9 W)) (cl ((y + ((mus wh (V 1) p9) >>> (1 &&& 31))) + 1) (wdt p9 H))), .int (((lokP gn p9 (cl (x + ((mus wh (V 0) p9) >>> (1 &&& 31))) (wdt p9 W)) (cl (y + ((mus wh (V 1) p9) >>> (1 &&& 31))) (wdt p9 H))) + (lokP gn p9 (cl ((x + ((mus wh (V 0) p9) >>> (1 &&& 31))) + 1) (wdt p9 W)) (cl (y + ((mus wh (V 1) p9) >>> (1 &&& 31))) (wdt p9 H)))) + (lokP gn p9 (cl (x + ((mus wh (V 0) p9) >>> (1 &&& 31))) (wdt p9 W)) (cl ((y + ((mus wh (V 1) p9) >>> (1 &&& 31))) + 1) (wdt p9 H))))]) hF (c_X7_look1 l D cs tt o mt qu zz nw ol ne se ke re ve ps di lv bd co bt ma W H md th nc ns is ik dc sc 2 wh fa ow tl bf bo p9 ((x + ((mus wh (V 0) p9) >>> (1 &&& 31))) + 1) ((y + ((mus wh (V 1) p9) >>> (1 &&& 31))) + 1) go gn hp hw hw4 hh hh3) gX7_fetch_X7_look rfl (n := 4) (by decide +kernel) rfl ⟨⟨rfl, rfl⟩, Nat.le_of_ble_eq_true rfl, Nat.le_of_ble_eq_true rfl⟩ ⟨Nat.le_of_ble_eq_true rfl, Nat.le_of_ble_eq_true rfl⟩ hX hP hD hS [0, 1, 2] (by decide) rfl [o, ol, ne] rfl rfl (q0 := 0) (ci := 7) rfl rfl rfl hl.1 rfl (Nat.le_of_ble_eq_true rfl) dX7_fetch_208 rfl rfl (fun Hp locs hP hD hS => ?_)
        refine lv_iadd hx hb dX7_fetch_211 ?_
        refine lv_iconst (v := 2) hx hb dX7_fetch_212 (by decide) ?_
        refine lv_iadd hx hb dX7_fetch_213 ?_
        refine lv_iconst (v := 2) hx hb dX7_fetch_214 (by decide) ?_
        refine lv_ishr hx hb dX7_fetch_215 ?_
        refine xrwi (z := (mft (lokP gn p9) (wdt p9 W) (wdt p9 H) x y (mus wh (V 0) p9) (mus wh (V 1) p9))) (by simp [mft, c_132, c_146]) ?_
        exact xri (Q9 := fun _ _ _ _ => True) hF hr hlk hP hD hS dX7_fetch_216
  have join_81 : ∀ (Hp : Heap) (locs : List Loc) (ls : Array Slot), va_P D vwCl [(o, .inr (7, mdF th W H mt qu zz nw ol ne se ke nc ns is ik dc sc 2 md wh fa re ve ps ow tl di lv bf bo bd co bt ma)), (ol, .inl (cs 0, 4608, .inl go)), (ne, .inl (cs 0, 4608, .inl gn)), (ve, .inl (cs 0, 4, .inl V))] Hp → va_D A [(o, .inr (7, mdF th W H mt qu zz nw ol ne se ke nc ns is ik dc sc 2 md wh fa re ve ps ow tl di lv bf bo bd co bt ma)), (ol, .inl (cs 0, 4608, .inl go)), (ne, .inl (cs 0, 4608, .inl gn)), (ve, .inl (cs 0, 4, .inl V))] → va_S A s.heap Hp locs → lv_has ls 13 [(7, .int (V 1 * mul2 wh)), (6, .int (V 0 * mul2 wh)), (0, .ref o), (1, .int 0), (2, .int (nI p9)), (3, .int x), (4, .int y), (5, .int 1)] → xW p l e ({ frames := 2, cells := 0, slots := 0, locals := 47 } : Room) s m ([.ref o, .int 0, .int (nI p9), .int x, .int y] : List Value).toArray below meth c Hp locs 0 0 (MQ below (xE D A (some (.int (mft (lokP gn p9) (wdt p9 W) (wdt p9 H) x y (mus wh (V 0) p9) (mus wh (V 1) p9)))) [(o, .inr (7, mdF th W H mt qu zz nw ol ne se ke nc ns is ik dc sc 2 md wh fa re ve ps ow tl di lv bf bo bd co bt ma)), (ol, .inl (cs 0, 4608, .inl go)), (ne, .inl (cs 0, 4608, .inl gn)), (ve, .inl (cs 0, 4, .inl V))]) ([.ref o, .int 0, .int (nI p9), .int x, .int y] : List Value).toArray s 0 0 A) (F0 m 81 ls [.int (mus wh (V 0) p9)]) := by
    intro Hp locs ls hP hD hS hl
    refine lv_istore (lv' := [(6, .int (mus wh (V 0) p9)), (7, .int (V 1 * mul2 wh)), (0, .ref o), (1, .int 0), (2, .int (nI p9)), (3, .int x), (4, .int y), (5, .int 1)]) hx hb dX7_fetch_81 hl (by decide) rfl (fun ls hl => ?_)
    refine lv_iload_n hx hb dX7_fetch_83 rfl (lv_at hl 4 rfl) ?_
    refine lv_if_le (tgt := 94) hx hb dX7_fetch_84 (by decide) (fun c_84 => ?_) (fun c_84 => ?_)
    · refine lv_iload hx hb dX7_fetch_94 (lv_at hl 1 rfl) ?_
      refine xrwi (z := (mus wh (V 1) p9)) (by unfold mus; first | rw [if_pos (hp0 c_84)] | rw [if_neg (hp1 c_84)]) ?_
      exact join_96   _ _ _ hP hD hS (lv_sub hl [0, 1, 2, 3, 4, 5, 6, 7] rfl)
    · refine lv_iload hx hb dX7_fetch_87 (lv_at hl 1 rfl) ?_
      refine lv_iconst (v := 2) hx hb dX7_fetch_89 (by decide) ?_
      refine lv_idiv hx hb dX7_fetch_90 (by decide) ?_
      refine lv_goto (tgt := 96) hx hb dX7_fetch_91 (by decide) ?_
      refine xrwi (z := (mus wh (V 1) p9)) (by unfold mus; first | rw [if_pos (hp0 c_84)] | rw [if_neg (hp1 c_84)]) ?_
      exact join_96   _ _ _ hP hD hS (lv_sub hl [0, 1, 2, 3, 4, 5, 6, 7] rfl)
  have join_65 : ∀ (Hp : Heap) (locs : List Loc) (ls : Array Slot), va_P D vwCl [(o, .inr (7, mdF th W H mt qu zz nw ol ne se ke nc ns is ik dc sc 2 md wh fa re ve ps ow tl di lv bf bo bd co bt ma)), (ol, .inl (cs 0, 4608, .inl go)), (ne, .inl (cs 0, 4608, .inl gn)), (ve, .inl (cs 0, 4, .inl V))] Hp → va_D A [(o, .inr (7, mdF th W H mt qu zz nw ol ne se ke nc ns is ik dc sc 2 md wh fa re ve ps ow tl di lv bf bo bd co bt ma)), (ol, .inl (cs 0, 4608, .inl go)), (ne, .inl (cs 0, 4608, .inl gn)), (ve, .inl (cs 0, 4, .inl V))] → va_S A s.heap Hp locs → lv_has ls 13 [(6, .int (V 0 * mul2 wh)), (0, .ref o), (1, .int 0), (2, .int (nI p9)), (3, .int x), (4, .int y), (5, .int 1)] → xW p l e ({ frames := 2, cells := 0, slots := 0, locals := 47 } : Room) s m ([.ref o, .int 0, .int (nI p9), .int x, .int y] : List Value).toArray below meth c Hp locs 0 0 (MQ below (xE D A (some (.int (mft (lokP gn p9) (wdt p9 W) (wdt p9 H) x y (mus wh (V 0) p9) (mus wh (V 1) p9)))) [(o, .inr (7, mdF th W H mt qu zz nw ol ne se ke nc ns is ik dc sc 2 md wh fa re ve ps ow tl di lv bf bo bd co bt ma)), (ol, .inl (cs 0, 4608, .inl go)), (ne, .inl (cs 0, 4608, .inl gn)), (ve, .inl (cs 0, 4, .inl V))]) ([.ref o, .int 0, .int (nI p9), .int x, .int y] : List Value).toArray s 0 0 A) (F0 m 65 ls [.int (mul2 wh), .int (V 1)]) := by
    intro Hp locs ls hP hD hS hl
    refine lv_imul hx hb dX7_fetch_65 ?_
    refine lv_istore (lv' := [(7, .int ((V 1) * (mul2 wh))), (6, .int (V 0 * mul2 wh)), (0, .ref o), (1, .int 0), (2, .int (nI p9)), (3, .int x), (4, .int y), (5, .int 1)]) hx hb dX7_fetch_66 hl (by decide) rfl (fun ls hl => ?_)
    refine lv_iload_n hx hb dX7_fetch_68 rfl (lv_at hl 4 rfl) ?_
    refine lv_if_le (tgt := 79) hx hb dX7_fetch_69 (by decide) (fun c_69 => ?_) (fun c_69 => ?_)
    · refine lv_iload hx hb dX7_fetch_79 (lv_at hl 1 rfl) ?_
      refine xrwi (z := (mus wh (V 0) p9)) (by unfold mus; first | rw [if_pos (hp0 c_69)] | rw [if_neg (hp1 c_69)]) ?_
      exact join_81   _ _ _ hP hD hS (lv_sub hl [0, 1, 2, 3, 4, 5, 6, 7] rfl)
    · refine lv_iload hx hb dX7_fetch_72 (lv_at hl 1 rfl) ?_
      refine lv_iconst (v := 2) hx hb dX7_fetch_74 (by decide) ?_
      refine lv_idiv hx hb dX7_fetch_75 (by decide) ?_
      refine lv_goto (tgt := 81) hx hb dX7_fetch_76 (by decide) ?_
      refine xrwi (z := (mus wh (V 0) p9)) (by unfold mus; first | rw [if_pos (hp0 c_69)] | rw [if_neg (hp1 c_69)]) ?_
      exact join_81   _ _ _ hP hD hS (lv_sub hl [0, 1, 2, 3, 4, 5, 6, 7] rfl)
  have join_40 : ∀ (Hp : Heap) (locs : List Loc) (ls : Array Slot), va_P D vwCl [(o, .inr (7, mdF th W H mt qu zz nw ol ne se ke nc ns is ik dc sc 2 md wh fa re ve ps ow tl di lv bf bo bd co bt ma)), (ol, .inl (cs 0, 4608, .inl go)), (ne, .inl (cs 0, 4608, .inl gn)), (ve, .inl (cs 0, 4, .inl V))] Hp → va_D A [(o, .inr (7, mdF th W H mt qu zz nw ol ne se ke nc ns is ik dc sc 2 md wh fa re ve ps ow tl di lv bf bo bd co bt ma)), (ol, .inl (cs 0, 4608, .inl go)), (ne, .inl (cs 0, 4608, .inl gn)), (ve, .inl (cs 0, 4, .inl V))] → va_S A s.heap Hp locs → lv_has ls 13 [(0, .ref o), (1, .int 0), (2, .int (nI p9)), (3, .int x), (4, .int y), (5, .int 1)] → xW p l e ({ frames := 2, cells := 0, slots := 0, locals := 47 } : Room) s m ([.ref o, .int 0, .int (nI p9), .int x, .int y] : List Value).toArray below meth c Hp locs 0 0 (MQ below (xE D A (some (.int (mft (lokP gn p9) (wdt p9 W) (wdt p9 H) x y (mus wh (V 0) p9) (mus wh (V 1) p9)))) [(o, .inr (7, mdF th W H mt qu zz nw ol ne se ke nc ns is ik dc sc 2 md wh fa re ve ps ow tl di lv bf bo bd co bt ma)), (ol, .inl (cs 0, 4608, .inl go)), (ne, .inl (cs 0, 4608, .inl gn)), (ve, .inl (cs 0, 4, .inl V))]) ([.ref o, .int 0, .int (nI p9), .int x, .int y] : List Value).toArray s 0 0 A) (F0 m 40 ls [.int (mul2 wh), .int (V 0)]) := by
    intro Hp locs ls hP hD hS hl
    refine lv_imul hx hb dX7_fetch_40 ?_
    refine lv_istore (lv' := [(6, .int ((V 0) * (mul2 wh))), (0, .ref o), (1, .int 0), (2, .int (nI p9)), (3, .int x), (4, .int y), (5, .int 1)]) hx hb dX7_fetch_41 hl (by decide) rfl (fun ls hl => ?_)
    refine lv_aload_n hx hb dX7_fetch_43 rfl (lv_at hl 1 rfl) ?_
    refine xget (C := RX7) (T := TX7) (N := 34) hF hX hP (by decide +kernel) 0 22 rfl rfl (by decide) (by decide +kernel) rfl dX7_fetch_44 ?_
    refine lv_iconst (v := 2) hx hb dX7_fetch_47 (by decide) ?_
    refine lv_iload_n hx hb dX7_fetch_48 rfl (lv_at hl 2 rfl) ?_
    refine lv_imul hx hb dX7_fetch_49 ?_
    refine xrwi (z := 0) (by decide) ?_
    refine lv_iconst (v := 1) hx hb dX7_fetch_50 (by decide) ?_
    refine lv_iadd hx hb dX7_fetch_51 ?_
    refine xrwi (z := 1) (by decide) ?_
    refine xald (k := 1) hF hX hP 3 rfl (rfl) (vp_in_nI (n := 1) (by decide) (by decide)) dX7_fetch_52 ?_
    refine lv_aload_n hx hb dX7_fetch_53 rfl (lv_at hl 1 rfl) ?_
    refine xget (C := RX7) (T := TX7) (N := 34) hF hX hP (by decide +kernel) 0 19 rfl rfl (by decide) (by decide +kernel) rfl dX7_fetch_54 ?_
    refine lv_if_eq (tgt := 64) hx hb dX7_fetch_57 (by decide) (fun c_57 => ?_) (fun c_57 => ?_)
    · refine lv_iconst (v := 1) hx hb dX7_fetch_64 (by decide) ?_
      refine xrwi (z := mul2 wh) (by simp [mul2, c_57]) ?_
      exact join_65   _ _ _ hP hD hS (lv_sub hl [0, 1, 2, 3, 4, 5, 6] rfl)
    · refine lv_iconst (v := 2) hx hb dX7_fetch_60 (by decide) ?_
      refine lv_goto (tgt := 65) hx hb dX7_fetch_61 (by decide) ?_
      refine xrwi (z := mul2 wh) (by simp [mul2, c_57]) ?_
      exact join_65   _ _ _ hP hD hS (lv_sub hl [0, 1, 2, 3, 4, 5, 6] rfl)
  refine lv_aload_n hx hb dX7_fetch_0 rfl (lv_at hl 0 rfl) ?_
  refine xget (C := RX7) (T := TX7) (N := 34) hF hX hP (by decide +kernel) 0 17 rfl rfl (by decide) (by decide +kernel) rfl dX7_fetch_1 ?_
  refine lv_iconst (v := 2) hx hb dX7_fetch_4 (by decide) ?_
  refine lv_icmp_eq (tgt := 13) hx hb dX7_fetch_5 (by decide) (fun _ => ?_) (fun c_5 => absurd (by decide) c_5)
  refine lv_iconst (v := 1) hx hb dX7_fetch_13 (by decide) ?_
  refine lv_goto (tgt := 18) hx hb dX7_fetch_14 (by decide) ?_
  refine lv_istore (lv' := [(5, .int 1), (0, .ref o), (1, .int 0), (2, .int (nI p9)), (3, .int x), (4, .int y)]) hx hb dX7_fetch_18 hl (by decide) rfl (fun ls hl => ?_)
  refine lv_aload_n hx hb dX7_fetch_20 rfl (lv_at hl 1 rfl) ?_
  refine xget (C := RX7) (T := TX7) (N := 34) hF hX hP (by decide +kernel) 0 22 rfl rfl (by decide) (by decide +kernel) rfl dX7_fetch_21 ?_
  refine lv_iconst (v := 2) hx hb dX7_fetch_24 (by decide) ?_
  refine lv_iload_n hx hb dX7_fetch_25 rfl (lv_at hl 2 rfl) ?_
  refine lv_imul hx hb dX7_fetch_26 ?_
  refine xrwi (z := 0) (by decide) ?_
  refine xald (k := 0) hF hX hP 3 rfl (rfl) (vp_in_nI (n := 0) (by decide) (by decide)) dX7_fetch_27 ?_
  refine lv_aload_n hx hb dX7_fetch_28 rfl (lv_at hl 1 rfl) ?_
  refine xget (C := RX7) (T := TX7) (N := 34) hF hX hP (by decide +kernel) 0 19 rfl rfl (by decide) (by decide +kernel) rfl dX7_fetch_29 ?_
  refine lv_if_eq (tgt := 39) hx hb dX7_fetch_32 (by decide) (fun c_32 => ?_) (fun c_32 => ?_)
  · refine lv_iconst (v := 1) hx hb dX7_fetch_39 (by decide) ?_
    refine xrwi (z := mul2 wh) (by simp [mul2, c_32]) ?_
    exact join_40   _ _ _ hP hD hS (lv_sub hl [1, 2, 3, 4, 5, 0] rfl)
  · refine lv_iconst (v := 2) hx hb dX7_fetch_35 (by decide) ?_
    refine lv_goto (tgt := 40) hx hb dX7_fetch_36 (by decide) ?_
    refine xrwi (z := mul2 wh) (by simp [mul2, c_32]) ?_
    exact join_40   _ _ _ hP hD hS (lv_sub hl [1, 2, 3, 4, 5, 0] rfl)

set_option maxHeartbeats 4000000 in
set_option maxRecDepth 100000 in
theorem c_X7_fetch03 (l : Launch) (D : va_G) (cs : Nat → ClassId) (tt : Nat → Nat) (o mt qu zz nw ol ne se ke re ve ps di lv bd co bt ma W H md : Nat) (th nc ns is ik dc sc wh fa ow tl bf bo : Int32) (p9 : Nat) (x y : Int32) (go gn V : Nat → Int32) (hp : p9 < 3) (hw : 1 ≤ W) (hw4 : W ≤ 4) (hh : 1 ≤ H) (hh3 : H ≤ 3) : xM l yX7_fetch wsX7_fetch ({ frames := 2, cells := 0, slots := 0, locals := 47 } : Room) D cs tt [.ref o, .int 0, .int (nI p9), .int x, .int y] [(o, .inr (7, mdF th W H mt qu zz nw ol ne se ke nc ns is ik dc sc 3 md wh fa re ve ps ow tl di lv bf bo bd co bt ma)), (ol, .inl (cs 0, 4608, .inl go)), (ne, .inl (cs 0, 4608, .inl gn)), (ve, .inl (cs 0, 4, .inl V))] (some (.int (mft (lokP go p9) (wdt p9 W) (wdt p9 H) x y (mus wh (V 0) p9) (mus wh (V 1) p9)))) [(o, .inr (7, mdF th W H mt qu zz nw ol ne se ke nc ns is ik dc sc 3 md wh fa re ve ps ow tl di lv bf bo bd co bt ma)), (ol, .inl (cs 0, 4608, .inl go)), (ne, .inl (cs 0, 4608, .inl gn)), (ve, .inl (cs 0, 4, .inl V))] := by
  refine xM.of RX7 rfl (by decide) rfl (Nat.le_of_ble_eq_true rfl) ?_
  intro p e s m below meth c A ls hF hr hlk hX hP hD hS hl
  have hx := hF.1
  have hb := hF.2.1
  have hl : lv_has ls 13 [(0, .ref o), (1, .int 0), (2, .int (nI p9)), (3, .int x), (4, .int y)] := hl
  have hp0 : nI p9 ≤ 0 → p9 = 0 := fun h => by
    rcases Nat.eq_zero_or_pos p9 with q | q
    · exact q
    · exact absurd h (nI_nle q (by omega))
  have hp1 : ¬ nI p9 ≤ 0 → ¬ p9 = 0 := fun h q => h (by rw [q]; decide)
  have join_96 : ∀ (Hp : Heap) (locs : List Loc) (ls : Array Slot), va_P D vwCl [(o, .inr (7, mdF th W H mt qu zz nw ol ne se ke nc ns is ik dc sc 3 md wh fa re ve ps ow tl di lv bf bo bd co bt ma)), (ol, .inl (cs 0, 4608, .inl go)), (ne, .inl (cs 0, 4608, .inl gn)), (ve, .inl (cs 0, 4, .inl V))] Hp → va_D A [(o, .inr (7, mdF th W H mt qu zz nw ol ne se ke nc ns is ik dc sc 3 md wh fa re ve ps ow tl di lv bf bo bd co bt ma)), (ol, .inl (cs 0, 4608, .inl go)), (ne, .inl (cs 0, 4608, .inl gn)), (ve, .inl (cs 0, 4, .inl V))] → va_S A s.heap Hp locs → lv_has ls 13 [(6, .int (mus wh (V 0) p9)), (7, .int (V 1 * mul2 wh)), (0, .ref o), (1, .int 0), (2, .int (nI p9)), (3, .int x), (4, .int y), (5, .int 0)] → xW p l e ({ frames := 2, cells := 0, slots := 0, locals := 47 } : Room) s m ([.ref o, .int 0, .int (nI p9), .int x, .int y] : List Value).toArray below meth c Hp locs 0 0 (MQ below (xE D A (some (.int (mft (lokP go p9) (wdt p9 W) (wdt p9 H) x y (mus wh (V 0) p9) (mus wh (V 1) p9)))) [(o, .inr (7, mdF th W H mt qu zz nw ol ne se ke nc ns is ik dc sc 3 md wh fa re ve ps ow tl di lv bf bo bd co bt ma)), (ol, .inl (cs 0, 4608, .inl go)), (ne, .inl (cs 0, 4608, .inl gn)), (ve, .inl (cs 0, 4, .inl V))]) ([.ref o, .int 0, .int (nI p9), .int x, .int y] : List Value).toArray s 0 0 A) (F0 m 96 ls [.int (mus wh (V 1) p9)]) := by
    intro Hp locs ls hP hD hS hl
    refine lv_istore (lv' := [(7, .int (mus wh (V 1) p9)), (6, .int (mus wh (V 0) p9)), (0, .ref o), (1, .int 0), (2, .int (nI p9)), (3, .int x), (4, .int y), (5, .int 0)]) hx hb dX7_fetch_96 hl (by decide) rfl (fun ls hl => ?_)
    refine lv_iload_n hx hb dX7_fetch_98 rfl (lv_at hl 5 rfl) ?_
    refine lv_iload hx hb dX7_fetch_99 (lv_at hl 1 rfl) ?_
    refine lv_iconst (v := 1) hx hb dX7_fetch_101 (by decide) ?_
    refine lv_ishr hx hb dX7_fetch_102 ?_
    refine lv_iadd hx hb dX7_fetch_103 ?_
    refine lv_istore (lv' := [(8, .int (x + ((mus wh (V 0) p9) >>> (1 &&& 31)))), (7, .int (mus wh (V 1) p9)), (6, .int (mus wh (V 0) p9)), (0, .ref o), (1, .int 0), (2, .int (nI p9)), (3, .int x), (4, .int y), (5, .int 0)]) hx hb dX7_fetch_104 hl (by decide) rfl (fun ls hl => ?_)
    refine lv_iload hx hb dX7_fetch_106 (lv_at hl 7 rfl) ?_
    refine lv_iload hx hb dX7_fetch_108 (lv_at hl 1 rfl) ?_
    refine lv_iconst (v := 1) hx hb dX7_fetch_110 (by decide) ?_
    refine lv_ishr hx hb dX7_fetch_111 ?_
    refine lv_iadd hx hb dX7_fetch_112 ?_
    refine lv_istore (lv' := [(9, .int (y + ((mus wh (V 1) p9) >>> (1 &&& 31)))), (8, .int (x + ((mus wh (V 0) p9) >>> (1 &&& 31)))), (7, .int (mus wh (V 1) p9)), (6, .int (mus wh (V 0) p9)), (0, .ref o), (1, .int 0), (2, .int (nI p9)), (3, .int x), (4, .int y), (5, .int 0)]) hx hb dX7_fetch_113 hl (by decide) rfl (fun ls hl => ?_)
    refine lv_aload_n hx hb dX7_fetch_115 rfl (lv_at hl 4 rfl) ?_
    refine lv_iload hx hb dX7_fetch_116 (lv_at hl 9 rfl) ?_
    refine lv_iload_n hx hb dX7_fetch_118 rfl (lv_at hl 6 rfl) ?_
    refine lv_iload hx hb dX7_fetch_119 (lv_at hl 1 rfl) ?_
    refine lv_iload hx hb dX7_fetch_121 (lv_at hl 0 rfl) ?_
    refine xV (rest := []) (As := [.int 0, .int (nI p9), .int (x + ((mus wh (V 0) p9) >>> (1 &&& 31))), .int (y + ((mus wh (V 1) p9) >>> (1 &&& 31)))]) (ws1 := [(o, .inr (7, mdF th W H mt qu zz nw ol ne se ke nc ns is ik dc sc 3 md wh fa re ve ps ow tl di lv bf bo bd co bt ma)), (ol, .inl (cs 0, 4608, .inl go)), (ne, .inl (cs 0, 4608, .inl gn)), (ve, .inl (cs 0, 4, .inl V))]) (st1 := [.int (lokP go p9 (cl (x + ((mus wh (V 0) p9) >>> (1 &&& 31))) (wdt p9 W)) (cl (y + ((mus wh (V 1) p9) >>> (1 &&& 31))) (wdt p9 H)))]) hF (c_X7_look0 l D cs tt o mt qu zz nw ol ne se ke re ve ps di lv bd co bt ma W H md th nc ns is ik dc sc 3 wh fa ow tl bf bo p9 (x + ((mus wh (V 0) p9) >>> (1 &&& 31))) (y + ((mus wh (V 1) p9) >>> (1 &&& 31))) go gn hp hw hw4 hh hh3) gX7_fetch_X7_look rfl (n := 4) (by decide +kernel) rfl ⟨⟨rfl, rfl⟩, Nat.le_of_ble_eq_true rfl, Nat.le_of_ble_eq_true rfl⟩ ⟨Nat.le_of_ble_eq_true rfl, Nat.le_of_ble_eq_true rfl⟩ hX hP hD hS [0, 1, 2] (by decide) rfl [o, ol, ne] rfl rfl (q0 := 0) (ci := 7) rfl rfl rfl hl.1 rfl (Nat.le_of_ble_eq_true rfl) dX7_fetch_123 rfl rfl (fun Hp locs hP hD hS => ?_)
    refine lv_istore (lv' := [(10, .int (lokP go p9 (cl (x + ((mus wh (V 0) p9) >>> (1 &&& 31))) (wdt p9 W)) (cl (y + ((mus wh (V 1) p9) >>> (1 &&& 31))) (wdt p9 H)))), (9, .int (y + ((mus wh (V 1) p9) >>> (1 &&& 31)))), (8, .int (x + ((mus wh (V 0) p9) >>> (1 &&& 31)))), (7, .int (mus wh (V 1) p9)), (6, .int (mus wh (V 0) p9)), (0, .ref o), (1, .int 0), (2, .int (nI p9)), (3, .int x), (4, .int y), (5, .int 0)]) hx hb dX7_fetch_126 hl (by decide) rfl (fun ls hl => ?_)
    refine lv_iload hx hb dX7_fetch_128 (lv_at hl 4 rfl) ?_
    refine lv_iconst (v := 2) hx hb dX7_fetch_130 (by decide) ?_
    refine lv_irem hx hb dX7_fetch_131 (by decide) ?_
    refine lv_if_eq (tgt := 139) hx hb dX7_fetch_132 (by decide) (fun c_132 => ?_) (fun c_132 => ?_)
    · refine lv_iconst (v := 0) hx hb dX7_fetch_139 (by decide) ?_
      refine lv_istore (lv' := [(11, .int 0), (10, .int (lokP go p9 (cl (x + ((mus wh (V 0) p9) >>> (1 &&& 31))) (wdt p9 W)) (cl (y + ((mus wh (V 1) p9) >>> (1 &&& 31))) (wdt p9 H)))), (9, .int (y + ((mus wh (V 1) p9) >>> (1 &&& 31)))), (8, .int (x + ((mus wh (V 0) p9) >>> (1 &&& 31)))), (7, .int (mus wh (V 1) p9)), (6, .int (mus wh (V 0) p9)), (0, .ref o), (1, .int 0), (2, .int (nI p9)), (3, .int x), (4, .int y), (5, .int 0)]) hx hb dX7_fetch_140 hl (by decide) rfl (fun ls hl => ?_)
      refine lv_iload hx hb dX7_fetch_142 (lv_at hl 4 rfl) ?_
      refine lv_iconst (v := 2) hx hb dX7_fetch_144 (by decide) ?_
      refine lv_irem hx hb dX7_fetch_145 (by decide) ?_
      refine lv_if_eq (tgt := 153) hx hb dX7_fetch_146 (by decide) (fun c_146 => ?_) (fun c_146 => ?_)
      · refine lv_iconst (v := 0) hx hb dX7_fetch_153 (by decide) ?_
        refine lv_istore (lv' := [(12, .int 0), (11, .int 0), (10, .int (lokP go p9 (cl (x + ((mus wh (V 0) p9) >>> (1 &&& 31))) (wdt p9 W)) (cl (y + ((mus wh (V 1) p9) >>> (1 &&& 31))) (wdt p9 H)))), (9, .int (y + ((mus wh (V 1) p9) >>> (1 &&& 31)))), (8, .int (x + ((mus wh (V 0) p9) >>> (1 &&& 31)))), (7, .int (mus wh (V 1) p9)), (6, .int (mus wh (V 0) p9)), (0, .ref o), (1, .int 0), (2, .int (nI p9)), (3, .int x), (4, .int y), (5, .int 0)]) hx hb dX7_fetch_154 hl (by decide) rfl (fun ls hl => ?_)
        refine lv_iload hx hb dX7_fetch_156 (lv_at hl 1 rfl) ?_
        refine lv_if_eq (tgt := 217) hx hb dX7_fetch_158 (by decide) (fun _ => ?_) (fun c_158 => absurd (by decide) c_158)
        refine lv_iload hx hb dX7_fetch_217 (lv_at hl 1 rfl) ?_
        refine lv_if_ne (tgt := 227) hx hb dX7_fetch_219 (by decide) (fun c_219 => absurd (by decide) c_219) (fun _ => ?_)
        refine lv_iload hx hb dX7_fetch_222 (lv_at hl 0 rfl) ?_
        refine lv_if_eq (tgt := 270) hx hb dX7_fetch_224 (by decide) (fun _ => ?_) (fun c_224 => absurd (by decide) c_224)
        refine lv_iload hx hb dX7_fetch_270 (lv_at hl 2 rfl) ?_
        refine xrwi (z := (mft (lokP go p9) (wdt p9 W) (wdt p9 H) x y (mus wh (V 0) p9) (mus wh (V 1) p9))) (by simp [mft, c_132, c_146]) ?_
        exact xri (Q9 := fun _ _ _ _ => True) hF hr hlk hP hD hS dX7_fetch_272
      · refine lv_iconst (v := 1) hx hb dX7_fetch_149 (by decide) ?_
        refine lv_goto (tgt := 154) hx hb dX7_fetch_150 (by decide) ?_
        refine lv_istore (lv' := [(12, .int 1), (11, .int 0), (10, .int (lokP go p9 (cl (x + ((mus wh (V 0) p9) >>> (1 &&& 31))) (wdt p9 W)) (cl (y + ((mus wh (V 1) p9) >>> (1 &&& 31))) (wdt p9 H)))), (9, .int (y + ((mus wh (V 1) p9) >>> (1 &&& 31)))), (8, .int (x + ((mus wh (V 0) p9) >>> (1 &&& 31)))), (7, .int (mus wh (V 1) p9)), (6, .int (mus wh (V 0) p9)), (0, .ref o), (1, .int 0), (2, .int (nI p9)), (3, .int x), (4, .int y), (5, .int 0)]) hx hb dX7_fetch_154 hl (by decide) rfl (fun ls hl => ?_)
        refine lv_iload hx hb dX7_fetch_156 (lv_at hl 1 rfl) ?_
        refine lv_if_eq (tgt := 217) hx hb dX7_fetch_158 (by decide) (fun _ => ?_) (fun c_158 => absurd (by decide) c_158)
        refine lv_iload hx hb dX7_fetch_217 (lv_at hl 1 rfl) ?_
        refine lv_if_ne (tgt := 227) hx hb dX7_fetch_219 (by decide) (fun c_219 => absurd (by decide) c_219) (fun _ => ?_)
        refine lv_iload hx hb dX7_fetch_222 (lv_at hl 0 rfl) ?_
        refine lv_if_eq (tgt := 270) hx hb dX7_fetch_224 (by decide) (fun c_224 => absurd c_224 (by decide)) (fun _ => ?_)
        refine lv_iload hx hb dX7_fetch_227 (lv_at hl 2 rfl) ?_
        refine lv_aload_n hx hb dX7_fetch_229 rfl (lv_at hl 7 rfl) ?_
        refine lv_iload hx hb dX7_fetch_230 (lv_at hl 12 rfl) ?_
        refine lv_iload_n hx hb dX7_fetch_232 rfl (lv_at hl 9 rfl) ?_
        refine lv_iload hx hb dX7_fetch_233 (lv_at hl 1 rfl) ?_
        refine lv_if_eq (tgt := 245) hx hb dX7_fetch_235 (by decide) (fun _ => ?_) (fun c_235 => absurd (by decide) c_235)
        refine lv_iload hx hb dX7_fetch_245 (lv_at hl 4 rfl) ?_
        refine lv_iload hx hb dX7_fetch_247 (lv_at hl 0 rfl) ?_
        refine lv_if_eq (tgt := 259) hx hb dX7_fetch_249 (by decide) (fun c_249 => absurd c_249 (by decide)) (fun _ => ?_)
        refine lv_iload hx hb dX7_fetch_252 (lv_at hl 3 rfl) ?_
        refine lv_iconst (v := 1) hx hb dX7_fetch_254 (by decide) ?_
        refine lv_iadd hx hb dX7_fetch_255 ?_
        refine lv_goto (tgt := 261) hx hb dX7_fetch_256 (by decide) ?_
        refine xV (rest := [.int (lokP go p9 (cl (x + ((mus wh (V 0) p9) >>> (1 &&& 31))) (wdt p9 W)) (cl (y + ((mus wh (V 1) p9) >>> (1 &&& 31))) (wdt p9 H)))]) (As := [.int 0, .int (nI p9), .int (x + ((mus wh (V 0) p9) >>> (1 &&& 31))), .int ((y + ((mus wh (V 1) p9) >>> (1 &&& 31))) + 1)]) (ws1 := [(o, .inr (7, mdF th W H mt qu zz nw ol ne se ke nc ns is ik dc sc 3 md wh fa re ve ps ow tl di lv bf bo bd co bt ma)), (ol, .inl (cs 0, 4608, .inl go)), (ne, .inl (cs 0, 4608, .inl gn)), (ve, .inl (cs 0, 4, .inl V))]) (st1 := [.int (lokP go p9 (cl (x + ((mus wh (V 0) p9) >>> (1 &&& 31))) (wdt p9 W)) (cl ((y + ((mus wh (V 1) p9) >>> (1 &&& 31))) + 1) (wdt p9 H))), .int (lokP go p9 (cl (x + ((mus wh (V 0) p9) >>> (1 &&& 31))) (wdt p9 W)) (cl (y + ((mus wh (V 1) p9) >>> (1 &&& 31))) (wdt p9 H)))]) hF (c_X7_look0 l D cs tt o mt qu zz nw ol ne se ke re ve ps di lv bd co bt ma W H md th nc ns is ik dc sc 3 wh fa ow tl bf bo p9 (x + ((mus wh (V 0) p9) >>> (1 &&& 31))) ((y + ((mus wh (V 1) p9) >>> (1 &&& 31))) + 1) go gn hp hw hw4 hh hh3) gX7_fetch_X7_look rfl (n := 4) (by decide +kernel) rfl ⟨⟨rfl, rfl⟩, Nat.le_of_ble_eq_true rfl, Nat.le_of_ble_eq_true rfl⟩ ⟨Nat.le_of_ble_eq_true rfl, Nat.le_of_ble_eq_true rfl⟩ hX hP hD hS [0, 1, 2] (by decide) rfl [o, ol, ne] rfl rfl (q0 := 0) (ci := 7) rfl rfl rfl hl.1 rfl (Nat.le_of_ble_eq_true rfl) dX7_fetch_261 rfl rfl (fun Hp locs hP hD hS => ?_)
        refine lv_iadd hx hb dX7_fetch_264 ?_
        refine lv_iconst (v := 1) hx hb dX7_fetch_265 (by decide) ?_
        refine lv_iadd hx hb dX7_fetch_266 ?_
        refine lv_iconst (v := 1) hx hb dX7_fetch_267 (by decide) ?_
        refine lv_ishr hx hb dX7_fetch_268 ?_
        refine xrwi (z := (mft (lokP go p9) (wdt p9 W) (wdt p9 H) x y (mus wh (V 0) p9) (mus wh (V 1) p9))) (by simp [mft, c_132, c_146]) ?_
        exact xri (Q9 := fun _ _ _ _ => True) hF hr hlk hP hD hS dX7_fetch_269
    · refine lv_iconst (v := 1) hx hb dX7_fetch_135 (by decide) ?_
      refine lv_goto (tgt := 140) hx hb dX7_fetch_136 (by decide) ?_
      refine lv_istore (lv' := [(11, .int 1), (10, .int (lokP go p9 (cl (x + ((mus wh (V 0) p9) >>> (1 &&& 31))) (wdt p9 W)) (cl (y + ((mus wh (V 1) p9) >>> (1 &&& 31))) (wdt p9 H)))), (9, .int (y + ((mus wh (V 1) p9) >>> (1 &&& 31)))), (8, .int (x + ((mus wh (V 0) p9) >>> (1 &&& 31)))), (7, .int (mus wh (V 1) p9)), (6, .int (mus wh (V 0) p9)), (0, .ref o), (1, .int 0), (2, .int (nI p9)), (3, .int x), (4, .int y), (5, .int 0)]) hx hb dX7_fetch_140 hl (by decide) rfl (fun ls hl => ?_)
      refine lv_iload hx hb dX7_fetch_142 (lv_at hl 4 rfl) ?_
      refine lv_iconst (v := 2) hx hb dX7_fetch_144 (by decide) ?_
      refine lv_irem hx hb dX7_fetch_145 (by decide) ?_
      refine lv_if_eq (tgt := 153) hx hb dX7_fetch_146 (by decide) (fun c_146 => ?_) (fun c_146 => ?_)
      · refine lv_iconst (v := 0) hx hb dX7_fetch_153 (by decide) ?_
        refine lv_istore (lv' := [(12, .int 0), (11, .int 1), (10, .int (lokP go p9 (cl (x + ((mus wh (V 0) p9) >>> (1 &&& 31))) (wdt p9 W)) (cl (y + ((mus wh (V 1) p9) >>> (1 &&& 31))) (wdt p9 H)))), (9, .int (y + ((mus wh (V 1) p9) >>> (1 &&& 31)))), (8, .int (x + ((mus wh (V 0) p9) >>> (1 &&& 31)))), (7, .int (mus wh (V 1) p9)), (6, .int (mus wh (V 0) p9)), (0, .ref o), (1, .int 0), (2, .int (nI p9)), (3, .int x), (4, .int y), (5, .int 0)]) hx hb dX7_fetch_154 hl (by decide) rfl (fun ls hl => ?_)
        refine lv_iload hx hb dX7_fetch_156 (lv_at hl 1 rfl) ?_
        refine lv_if_eq (tgt := 217) hx hb dX7_fetch_158 (by decide) (fun c_158 => absurd c_158 (by decide)) (fun _ => ?_)
        refine lv_iload hx hb dX7_fetch_161 (lv_at hl 0 rfl) ?_
        refine lv_if_eq (tgt := 217) hx hb dX7_fetch_163 (by decide) (fun _ => ?_) (fun c_163 => absurd (by decide) c_163)
        refine lv_iload hx hb dX7_fetch_217 (lv_at hl 1 rfl) ?_
        refine lv_if_ne (tgt := 227) hx hb dX7_fetch_219 (by decide) (fun _ => ?_) (fun c_219 => absurd c_219 (by decide))
        refine lv_iload hx hb dX7_fetch_227 (lv_at hl 2 rfl) ?_
        refine lv_aload_n hx hb dX7_fetch_229 rfl (lv_at hl 7 rfl) ?_
        refine lv_iload hx hb dX7_fetch_230 (lv_at hl 12 rfl) ?_
        refine lv_iload_n hx hb dX7_fetch_232 rfl (lv_at hl 9 rfl) ?_
        refine lv_iload hx hb dX7_fetch_233 (lv_at hl 1 rfl) ?_
        refine lv_if_eq (tgt := 245) hx hb dX7_fetch_235 (by decide) (fun c_235 => absurd c_235 (by decide)) (fun _ => ?_)
        refine lv_iload hx hb dX7_fetch_238 (lv_at hl 4 rfl) ?_
        refine lv_iconst (v := 1) hx hb dX7_fetch_240 (by decide) ?_
        refine lv_iadd hx hb dX7_fetch_241 ?_
        refine lv_goto (tgt := 247) hx hb dX7_fetch_242 (by decide) ?_
        refine lv_iload hx hb dX7_fetch_247 (lv_at hl 0 rfl) ?_
        refine lv_if_eq (tgt := 259) hx hb dX7_fetch_249 (by decide) (fun _ => ?_) (fun c_249 => absurd (by decide) c_249)
        refine lv_iload hx hb dX7_fetch_259 (lv_at hl 3 rfl) ?_
        refine xV (rest := [.int (lokP go p9 (cl (x + ((mus wh (V 0) p9) >>> (1 &&& 31))) (wdt p9 W)) (cl (y + ((mus wh (V 1) p9) >>> (1 &&& 31))) (wdt p9 H)))]) (As := [.int 0, .int (nI p9), .int ((x + ((mus wh (V 0) p9) >>> (1 &&& 31))) + 1), .int (y + ((mus wh (V 1) p9) >>> (1 &&& 31)))]) (ws1 := [(o, .inr (7, mdF th W H mt qu zz nw ol ne se ke nc ns is ik dc sc 3 md wh fa re ve ps ow tl di lv bf bo bd co bt ma)), (ol, .inl (cs 0, 4608, .inl go)), (ne, .inl (cs 0, 4608, .inl gn)), (ve, .inl (cs 0, 4, .inl V))]) (st1 := [.int (lokP go p9 (cl ((x + ((mus wh (V 0) p9) >>> (1 &&& 31))) + 1) (wdt p9 W)) (cl (y + ((mus wh (V 1) p9) >>> (1 &&& 31))) (wdt p9 H))), .int (lokP go p9 (cl (x + ((mus wh (V 0) p9) >>> (1 &&& 31))) (wdt p9 W)) (cl (y + ((mus wh (V 1) p9) >>> (1 &&& 31))) (wdt p9 H)))]) hF (c_X7_look0 l D cs tt o mt qu zz nw ol ne se ke re ve ps di lv bd co bt ma W H md th nc ns is ik dc sc 3 wh fa ow tl bf bo p9 ((x + ((mus wh (V 0) p9) >>> (1 &&& 31))) + 1) (y + ((mus wh (V 1) p9) >>> (1 &&& 31))) go gn hp hw hw4 hh hh3) gX7_fetch_X7_look rfl (n := 4) (by decide +kernel) rfl ⟨⟨rfl, rfl⟩, Nat.le_of_ble_eq_true rfl, Nat.le_of_ble_eq_true rfl⟩ ⟨Nat.le_of_ble_eq_true rfl, Nat.le_of_ble_eq_true rfl⟩ hX hP hD hS [0, 1, 2] (by decide) rfl [o, ol, ne] rfl rfl (q0 := 0) (ci := 7) rfl rfl rfl hl.1 rfl (Nat.le_of_ble_eq_true rfl) dX7_fetch_261 rfl rfl (fun Hp locs hP hD hS => ?_)
        refine lv_iadd hx hb dX7_fetch_264 ?_
        refine lv_iconst (v := 1) hx hb dX7_fetch_265 (by decide) ?_
        refine lv_iadd hx hb dX7_fetch_266 ?_
        refine lv_iconst (v := 1) hx hb dX7_fetch_267 (by decide) ?_
        refine lv_ishr hx hb dX7_fetch_268 ?_
        refine xrwi (z := (mft (lokP go p9) (wdt p9 W) (wdt p9 H) x y (mus wh (V 0) p9) (mus wh (V 1) p9))) (by simp [mft, c_132, c_146]) ?_
        exact xri (Q9 := fun _ _ _ _ => True) hF hr hlk hP hD hS dX7_fetch_269
      · refine lv_iconst (v := 1) hx hb dX7_fetch_149 (by decide) ?_
        refine lv_goto (tgt := 154) hx hb dX7_fetch_150 (by decide) ?_
        refine lv_istore (lv' := [(12, .int 1), (11, .int 1), (10, .int (lokP go p9 (cl (x + ((mus wh (V 0) p9) >>> (1 &&& 31))) (wdt p9 W)) (cl (y + ((mus wh (V 1) p9) >>> (1 &&& 31))) (wdt p9 H)))), (9, .int (y + ((mus wh (V 1) p9) >>> (1 &&& 31)))), (8, .int (x + ((mus wh (V 0) p9) >>> (1 &&& 31)))), (7, .int (mus wh (V 1) p9)), (6, .int (mus wh (V 0) p9)), (0, .ref o), (1, .int 0), (2, .int (nI p9)), (3, .int x), (4, .int y), (5, .int 0)]) hx hb dX7_fetch_154 hl (by decide) rfl (fun ls hl => ?_)
        refine lv_iload hx hb dX7_fetch_156 (lv_at hl 1 rfl) ?_
        refine lv_if_eq (tgt := 217) hx hb dX7_fetch_158 (by decide) (fun c_158 => absurd c_158 (by decide)) (fun _ => ?_)
        refine lv_iload hx hb dX7_fetch_161 (lv_at hl 0 rfl) ?_
        refine lv_if_eq (tgt := 217) hx hb dX7_fetch_163 (by decide) (fun c_163 => absurd c_163 (by decide)) (fun _ => ?_)
        refine lv_iload hx hb dX7_fetch_166 (lv_at hl 2 rfl) ?_
        refine lv_aload_n hx hb dX7_fetch_168 rfl (lv_at hl 7 rfl) ?_
        refine lv_iload hx hb dX7_fetch_169 (lv_at hl 12 rfl) ?_
        refine lv_iload_n hx hb dX7_fetch_171 rfl (lv_at hl 9 rfl) ?_
        refine lv_iload hx hb dX7_fetch_172 (lv_at hl 4 rfl) ?_
        refine lv_iconst (v := 1) hx hb dX7_fetch_174 (by decide) ?_
        refine lv_iadd hx hb dX7_fetch_175 ?_
        refine lv_iload hx hb dX7_fetch_176 (lv_at hl 3 rfl) ?_
        refine xV (rest := [.int (lokP go p9 (cl (x + ((mus wh (V 0) p9) >>> (1 &&& 31))) (wdt p9 W)) (cl (y + ((mus wh (V 1) p9) >>> (1 &&& 31))) (wdt p9 H)))]) (As := [.int 0, .int (nI p9), .int ((x + ((mus wh (V 0) p9) >>> (1 &&& 31))) + 1), .int (y + ((mus wh (V 1) p9) >>> (1 &&& 31)))]) (ws1 := [(o, .inr (7, mdF th W H mt qu zz nw ol ne se ke nc ns is ik dc sc 3 md wh fa re ve ps ow tl di lv bf bo bd co bt ma)), (ol, .inl (cs 0, 4608, .inl go)), (ne, .inl (cs 0, 4608, .inl gn)), (ve, .inl (cs 0, 4, .inl V))]) (st1 := [.int (lokP go p9 (cl ((x + ((mus wh (V 0) p9) >>> (1 &&& 31))) + 1) (wdt p9 W)) (cl (y + ((mus wh (V 1) p9) >>> (1 &&& 31))) (wdt p9 H))), .int (lokP go p9 (cl (x + ((mus wh (V 0) p9) >>> (1 &&& 31))) (wdt p9 W)) (cl (y + ((mus wh (V 1) p9) >>> (1 &&& 31))) (wdt p9 H)))]) hF (c_X7_look0 l D cs tt o mt qu zz nw ol ne se ke re ve ps di lv bd co bt ma W H md th nc ns is ik dc sc 3 wh fa ow tl bf bo p9 ((x + ((mus wh (V 0) p9) >>> (1 &&& 31))) + 1) (y + ((mus wh (V 1) p9) >>> (1 &&& 31))) go gn hp hw hw4 hh hh3) gX7_fetch_X7_look rfl (n := 4) (by decide +kernel) rfl ⟨⟨rfl, rfl⟩, Nat.le_of_ble_eq_true rfl, Nat.le_of_ble_eq_true rfl⟩ ⟨Nat.le_of_ble_eq_true rfl, Nat.le_of_ble_eq_true rfl⟩ hX hP hD hS [0, 1, 2] (by decide) rfl [o, ol, ne] rfl rfl (q0 := 0) (ci := 7) rfl rfl rfl hl.1 rfl (Nat.le_of_ble_eq_true rfl) dX7_fetch_178 rfl rfl (fun Hp locs hP hD hS => ?_)
        refine lv_iadd hx hb dX7_fetch_181 ?_
        refine lv_aload_n hx hb dX7_fetch_182 rfl (lv_at hl 7 rfl) ?_
        refine lv_iload hx hb dX7_fetch_183 (lv_at hl 12 rfl) ?_
        refine lv_iload_n hx hb dX7_fetch_185 rfl (lv_at hl 9 rfl) ?_
        refine lv_iload hx hb dX7_fetch_186 (lv_at hl 4 rfl) ?_
        refine lv_iload hx hb dX7_fetch_188 (lv_at hl 3 rfl) ?_
        refine lv_iconst (v := 1) hx hb dX7_fetch_190 (by decide) ?_
        refine lv_iadd hx hb dX7_fetch_191 ?_
        refine xV (rest := [.int ((lokP go p9 (cl (x + ((mus wh (V 0) p9) >>> (1 &&& 31))) (wdt p9 W)) (cl (y + ((mus wh (V 1) p9) >>> (1 &&& 31))) (wdt p9 H))) + (lokP go p9 (cl ((x + ((mus wh (V 0) p9) >>> (1 &&& 31))) + 1) (wdt p9 W)) (cl (y + ((mus wh (V 1) p9) >>> (1 &&& 31))) (wdt p9 H))))]) (As := [.int 0, .int (nI p9), .int (x + ((mus wh (V 0) p9) >>> (1 &&& 31))), .int ((y + ((mus wh (V 1) p9) >>> (1 &&& 31))) + 1)]) (ws1 := [(o, .inr (7, mdF th W H mt qu zz nw ol ne se ke nc ns is ik dc sc 3 md wh fa re ve ps ow tl di lv bf bo bd co bt ma)), (ol, .inl (cs 0, 4608, .inl go)), (ne, .inl (cs 0, 4608, .inl gn)), (ve, .inl (cs 0, 4, .inl V))]) (st1 := [.int (lokP go p9 (cl (x + ((mus wh (V 0) p9) >>> (1 &&& 31))) (wdt p9 W)) (cl ((y + ((mus wh (V 1) p9) >>> (1 &&& 31))) + 1) (wdt p9 H))), .int ((lokP go p9 (cl (x + ((mus wh (V 0) p9) >>> (1 &&& 31))) (wdt p9 W)) (cl (y + ((mus wh (V 1) p9) >>> (1 &&& 31))) (wdt p9 H))) + (lokP go p9 (cl ((x + ((mus wh (V 0) p9) >>> (1 &&& 31))) + 1) (wdt p9 W)) (cl (y + ((mus wh (V 1) p9) >>> (1 &&& 31))) (wdt p9 H))))]) hF (c_X7_look0 l D cs tt o mt qu zz nw ol ne se ke re ve ps di lv bd co bt ma W H md th nc ns is ik dc sc 3 wh fa ow tl bf bo p9 (x + ((mus wh (V 0) p9) >>> (1 &&& 31))) ((y + ((mus wh (V 1) p9) >>> (1 &&& 31))) + 1) go gn hp hw hw4 hh hh3) gX7_fetch_X7_look rfl (n := 4) (by decide +kernel) rfl ⟨⟨rfl, rfl⟩, Nat.le_of_ble_eq_true rfl, Nat.le_of_ble_eq_true rfl⟩ ⟨Nat.le_of_ble_eq_true rfl, Nat.le_of_ble_eq_true rfl⟩ hX hP hD hS [0, 1, 2] (by decide) rfl [o, ol, ne] rfl rfl (q0 := 0) (ci := 7) rfl rfl rfl hl.1 rfl (Nat.le_of_ble_eq_true rfl) dX7_fetch_192 rfl rfl (fun Hp locs hP hD hS => ?_)
        refine lv_iadd hx hb dX7_fetch_195 ?_
        refine lv_aload_n hx hb dX7_fetch_196 rfl (lv_at hl 7 rfl) ?_
        refine lv_iload hx hb dX7_fetch_197 (lv_at hl 12 rfl) ?_
        refine lv_iload_n hx hb dX7_fetch_199 rfl (lv_at hl 9 rfl) ?_
        refine lv_iload hx hb dX7_fetch_200 (lv_at hl 4 rfl) ?_
        refine lv_iconst (v := 1) hx hb dX7_fetch_202 (by decide) ?_
        refine lv_iadd hx hb dX7_fetch_203 ?_
        refine lv_iload hx hb dX7_fetch_204 (lv_at hl 3 rfl) ?_
        refine lv_iconst (v := 1) hx hb dX7_fetch_206 (by decide) ?_
        refine lv_iadd hx hb dX7_fetch_207 ?_
        refine xV (rest := [.int (((lokP go p9 (cl (x + ((mus wh (V 0) p9) >>> (1 &&& 31))) (wdt p9 W)) (cl (y + ((mus wh (V 1) p9) >>> (1 &&& 31))) (wdt p9 H))) + (lokP go p9 (cl ((x + ((mus wh (V 0) p9) >>> (1 &&& 31))) + 1) (wdt p9 W)) (cl (y + ((mus wh (V 1) p9) >>> (1 &&& 31))) (wdt p9 H)))) + (lokP go p9 (cl (x + ((mus wh (V 0) p9) >>> (1 &&& 31))) (wdt p9 W)) (cl ((y + ((mus wh (V 1) p9) >>> (1 &&& 31))) + 1) (wdt p9 H))))]) (As := [.int 0, .int (nI p9), .int ((x + ((mus wh (V 0) p9) >>> (1 &&& 31))) + 1), .int ((y + ((mus wh (V 1) p9) >>> (1 &&& 31))) + 1)]) (ws1 := [(o, .inr (7, mdF th W H mt qu zz nw ol ne se ke nc ns is ik dc sc 3 md wh fa re ve ps ow tl di lv bf bo bd co bt ma)), (ol, .inl (cs 0, 4608, .inl go)), (ne, .inl (cs 0, 4608, .inl gn)), (ve, .inl (cs 0, 4, .inl V))]) (st1 := [.int (lokP go p9 (cl ((x + ((mus wh (V 0) p9) >>> (1 &&& 31))) + 1) (wdt p9 W)) (cl ((y + ((mus wh (V 1) p9) >>> (1 &&& 31))) + 1) (wdt p9 H))), .int (((lokP go p9 (cl (x + ((mus wh (V 0) p9) >>> (1 &&& 31))) (wdt p9 W)) (cl (y + ((mus wh (V 1) p9) >>> (1 &&& 31))) (wdt p9 H))) + (lokP go p9 (cl ((x + ((mus wh (V 0) p9) >>> (1 &&& 31))) + 1) (wdt p9 W)) (cl (y + ((mus wh (V 1) p9) >>> (1 &&& 31))) (wdt p9 H)))) + (lokP go p9 (cl (x + ((mus wh (V 0) p9) >>> (1 &&& 31))) (wdt p9 W)) (cl ((y + ((mus wh (V 1) p9) >>> (1 &&& 31))) + 1) (wdt p9 H))))]) hF (c_X7_look0 l D cs tt o mt qu zz nw ol ne se ke re ve ps di lv bd co bt ma W H md th nc ns is ik dc sc 3 wh fa ow tl bf bo p9 ((x + ((mus wh (V 0) p9) >>> (1 &&& 31))) + 1) ((y + ((mus wh (V 1) p9) >>> (1 &&& 31))) + 1) go gn hp hw hw4 hh hh3) gX7_fetch_X7_look rfl (n := 4) (by decide +kernel) rfl ⟨⟨rfl, rfl⟩, Nat.le_of_ble_eq_true rfl, Nat.le_of_ble_eq_true rfl⟩ ⟨Nat.le_of_ble_eq_true rfl, Nat.le_of_ble_eq_true rfl⟩ hX hP hD hS [0, 1, 2] (by decide) rfl [o, ol, ne] rfl rfl (q0 := 0) (ci := 7) rfl rfl rfl hl.1 rfl (Nat.le_of_ble_eq_true rfl) dX7_fetch_208 rfl rfl (fun Hp locs hP hD hS => ?_)
        refine lv_iadd hx hb dX7_fetch_211 ?_
        refine lv_iconst (v := 2) hx hb dX7_fetch_212 (by decide) ?_
        refine lv_iadd hx hb dX7_fetch_213 ?_
        refine lv_iconst (v := 2) hx hb dX7_fetch_214 (by decide) ?_
        refine lv_ishr hx hb dX7_fetch_215 ?_
        refine xrwi (z := (mft (lokP go p9) (wdt p9 W) (wdt p9 H) x y (mus wh (V 0) p9) (mus wh (V 1) p9))) (by simp [mft, c_132, c_146]) ?_
        exact xri (Q9 := fun _ _ _ _ => True) hF hr hlk hP hD hS dX7_fetch_216
  have join_81 : ∀ (Hp : Heap) (locs : List Loc) (ls : Array Slot), va_P D vwCl [(o, .inr (7, mdF th W H mt qu zz nw ol ne se ke nc ns is ik dc sc 3 md wh fa re ve ps ow tl di lv bf bo bd co bt ma)), (ol, .inl (cs 0, 4608, .inl go)), (ne, .inl (cs 0, 4608, .inl gn)), (ve, .inl (cs 0, 4, .inl V))] Hp → va_D A [(o, .inr (7, mdF th W H mt qu zz nw ol ne se ke nc ns is ik dc sc 3 md wh fa re ve ps ow tl di lv bf bo bd co bt ma)), (ol, .inl (cs 0, 4608, .inl go)), (ne, .inl (cs 0, 4608, .inl gn)), (ve, .inl (cs 0, 4, .inl V))] → va_S A s.heap Hp locs → lv_has ls 13 [(7, .int (V 1 * mul2 wh)), (6, .int (V 0 * mul2 wh)), (0, .ref o), (1, .int 0), (2, .int (nI p9)), (3, .int x), (4, .int y), (5, .int 0)] → xW p l e ({ frames := 2, cells := 0, slots := 0, locals := 47 } : Room) s m ([.ref o, .int 0, .int (nI p9), .int x, .int y] : List Value).toArray below meth c Hp locs 0 0 (MQ below (xE D A (some (.int (mft (lokP go p9) (wdt p9 W) (wdt p9 H) x y (mus wh (V 0) p9) (mus wh (V 1) p9)))) [(o, .inr (7, mdF th W H mt qu zz nw ol ne se ke nc ns is ik dc sc 3 md wh fa re ve ps ow tl di lv bf bo bd co bt ma)), (ol, .inl (cs 0, 4608, .inl go)), (ne, .inl (cs 0, 4608, .inl gn)), (ve, .inl (cs 0, 4, .inl V))]) ([.ref o, .int 0, .int (nI p9), .int x, .int y] : List Value).toArray s 0 0 A) (F0 m 81 ls [.int (mus wh (V 0) p9)]) := by
    intro Hp locs ls hP hD hS hl
    refine lv_istore (lv' := [(6, .int (mus wh (V 0) p9)), (7, .int (V 1 * mul2 wh)), (0, .ref o), (1, .int 0), (2, .int (nI p9)), (3, .int x), (4, .int y), (5, .int 0)]) hx hb dX7_fetch_81 hl (by decide) rfl (fun ls hl => ?_)
    refine lv_iload_n hx hb dX7_fetch_83 rfl (lv_at hl 4 rfl) ?_
    refine lv_if_le (tgt := 94) hx hb dX7_fetch_84 (by decide) (fun c_84 => ?_) (fun c_84 => ?_)
    · refine lv_iload hx hb dX7_fetch_94 (lv_at hl 1 rfl) ?_
      refine xrwi (z := (mus wh (V 1) p9)) (by unfold mus; first | rw [if_pos (hp0 c_84)] | rw [if_neg (hp1 c_84)]) ?_
      exact join_96   _ _ _ hP hD hS (lv_sub hl [0, 1, 2, 3, 4, 5, 6, 7] rfl)
    · refine lv_iload hx hb dX7_fetch_87 (lv_at hl 1 rfl) ?_
      refine lv_iconst (v := 2) hx hb dX7_fetch_89 (by decide) ?_
      refine lv_idiv hx hb dX7_fetch_90 (by decide) ?_
      refine lv_goto (tgt := 96) hx hb dX7_fetch_91 (by decide) ?_
      refine xrwi (z := (mus wh (V 1) p9)) (by unfold mus; first | rw [if_pos (hp0 c_84)] | rw [if_neg (hp1 c_84)]) ?_
      exact join_96   _ _ _ hP hD hS (lv_sub hl [0, 1, 2, 3, 4, 5, 6, 7] rfl)
  have join_65 : ∀ (Hp : Heap) (locs : List Loc) (ls : Array Slot), va_P D vwCl [(o, .inr (7, mdF th W H mt qu zz nw ol ne se ke nc ns is ik dc sc 3 md wh fa re ve ps ow tl di lv bf bo bd co bt ma)), (ol, .inl (cs 0, 4608, .inl go)), (ne, .inl (cs 0, 4608, .inl gn)), (ve, .inl (cs 0, 4, .inl V))] Hp → va_D A [(o, .inr (7, mdF th W H mt qu zz nw ol ne se ke nc ns is ik dc sc 3 md wh fa re ve ps ow tl di lv bf bo bd co bt ma)), (ol, .inl (cs 0, 4608, .inl go)), (ne, .inl (cs 0, 4608, .inl gn)), (ve, .inl (cs 0, 4, .inl V))] → va_S A s.heap Hp locs → lv_has ls 13 [(6, .int (V 0 * mul2 wh)), (0, .ref o), (1, .int 0), (2, .int (nI p9)), (3, .int x), (4, .int y), (5, .int 0)] → xW p l e ({ frames := 2, cells := 0, slots := 0, locals := 47 } : Room) s m ([.ref o, .int 0, .int (nI p9), .int x, .int y] : List Value).toArray below meth c Hp locs 0 0 (MQ below (xE D A (some (.int (mft (lokP go p9) (wdt p9 W) (wdt p9 H) x y (mus wh (V 0) p9) (mus wh (V 1) p9)))) [(o, .inr (7, mdF th W H mt qu zz nw ol ne se ke nc ns is ik dc sc 3 md wh fa re ve ps ow tl di lv bf bo bd co bt ma)), (ol, .inl (cs 0, 4608, .inl go)), (ne, .inl (cs 0, 4608, .inl gn)), (ve, .inl (cs 0, 4, .inl V))]) ([.ref o, .int 0, .int (nI p9), .int x, .int y] : List Value).toArray s 0 0 A) (F0 m 65 ls [.int (mul2 wh), .int (V 1)]) := by
    intro Hp locs ls hP hD hS hl
    refine lv_imul hx hb dX7_fetch_65 ?_
    refine lv_istore (lv' := [(7, .int ((V 1) * (mul2 wh))), (6, .int (V 0 * mul2 wh)), (0, .ref o), (1, .int 0), (2, .int (nI p9)), (3, .int x), (4, .int y), (5, .int 0)]) hx hb dX7_fetch_66 hl (by decide) rfl (fun ls hl => ?_)
    refine lv_iload_n hx hb dX7_fetch_68 rfl (lv_at hl 4 rfl) ?_
    refine lv_if_le (tgt := 79) hx hb dX7_fetch_69 (by decide) (fun c_69 => ?_) (fun c_69 => ?_)
    · refine lv_iload hx hb dX7_fetch_79 (lv_at hl 1 rfl) ?_
      refine xrwi (z := (mus wh (V 0) p9)) (by unfold mus; first | rw [if_pos (hp0 c_69)] | rw [if_neg (hp1 c_69)]) ?_
      exact join_81   _ _ _ hP hD hS (lv_sub hl [0, 1, 2, 3, 4, 5, 6, 7] rfl)
    · refine lv_iload hx hb dX7_fetch_72 (lv_at hl 1 rfl) ?_
      refine lv_iconst (v := 2) hx hb dX7_fetch_74 (by decide) ?_
      refine lv_idiv hx hb dX7_fetch_75 (by decide) ?_
      refine lv_goto (tgt := 81) hx hb dX7_fetch_76 (by decide) ?_
      refine xrwi (z := (mus wh (V 0) p9)) (by unfold mus; first | rw [if_pos (hp0 c_69)] | rw [if_neg (hp1 c_69)]) ?_
      exact join_81   _ _ _ hP hD hS (lv_sub hl [0, 1, 2, 3, 4, 5, 6, 7] rfl)
  have join_40 : ∀ (Hp : Heap) (locs : List Loc) (ls : Array Slot), va_P D vwCl [(o, .inr (7, mdF th W H mt qu zz nw ol ne se ke nc ns is ik dc sc 3 md wh fa re ve ps ow tl di lv bf bo bd co bt ma)), (ol, .inl (cs 0, 4608, .inl go)), (ne, .inl (cs 0, 4608, .inl gn)), (ve, .inl (cs 0, 4, .inl V))] Hp → va_D A [(o, .inr (7, mdF th W H mt qu zz nw ol ne se ke nc ns is ik dc sc 3 md wh fa re ve ps ow tl di lv bf bo bd co bt ma)), (ol, .inl (cs 0, 4608, .inl go)), (ne, .inl (cs 0, 4608, .inl gn)), (ve, .inl (cs 0, 4, .inl V))] → va_S A s.heap Hp locs → lv_has ls 13 [(0, .ref o), (1, .int 0), (2, .int (nI p9)), (3, .int x), (4, .int y), (5, .int 0)] → xW p l e ({ frames := 2, cells := 0, slots := 0, locals := 47 } : Room) s m ([.ref o, .int 0, .int (nI p9), .int x, .int y] : List Value).toArray below meth c Hp locs 0 0 (MQ below (xE D A (some (.int (mft (lokP go p9) (wdt p9 W) (wdt p9 H) x y (mus wh (V 0) p9) (mus wh (V 1) p9)))) [(o, .inr (7, mdF th W H mt qu zz nw ol ne se ke nc ns is ik dc sc 3 md wh fa re ve ps ow tl di lv bf bo bd co bt ma)), (ol, .inl (cs 0, 4608, .inl go)), (ne, .inl (cs 0, 4608, .inl gn)), (ve, .inl (cs 0, 4, .inl V))]) ([.ref o, .int 0, .int (nI p9), .int x, .int y] : List Value).toArray s 0 0 A) (F0 m 40 ls [.int (mul2 wh), .int (V 0)]) := by
    intro Hp locs ls hP hD hS hl
    refine lv_imul hx hb dX7_fetch_40 ?_
    refine lv_istore (lv' := [(6, .int ((V 0) * (mul2 wh))), (0, .ref o), (1, .int 0), (2, .int (nI p9)), (3, .int x), (4, .int y), (5, .int 0)]) hx hb dX7_fetch_41 hl (by decide) rfl (fun ls hl => ?_)
    refine lv_aload_n hx hb dX7_fetch_43 rfl (lv_at hl 1 rfl) ?_
    refine xget (C := RX7) (T := TX7) (N := 34) hF hX hP (by decide +kernel) 0 22 rfl rfl (by decide) (by decide +kernel) rfl dX7_fetch_44 ?_
    refine lv_iconst (v := 2) hx hb dX7_fetch_47 (by decide) ?_
    refine lv_iload_n hx hb dX7_fetch_48 rfl (lv_at hl 2 rfl) ?_
    refine lv_imul hx hb dX7_fetch_49 ?_
    refine xrwi (z := 0) (by decide) ?_
    refine lv_iconst (v := 1) hx hb dX7_fetch_50 (by decide) ?_
    refine lv_iadd hx hb dX7_fetch_51 ?_
    refine xrwi (z := 1) (by decide) ?_
    refine xald (k := 1) hF hX hP 3 rfl (rfl) (vp_in_nI (n := 1) (by decide) (by decide)) dX7_fetch_52 ?_
    refine lv_aload_n hx hb dX7_fetch_53 rfl (lv_at hl 1 rfl) ?_
    refine xget (C := RX7) (T := TX7) (N := 34) hF hX hP (by decide +kernel) 0 19 rfl rfl (by decide) (by decide +kernel) rfl dX7_fetch_54 ?_
    refine lv_if_eq (tgt := 64) hx hb dX7_fetch_57 (by decide) (fun c_57 => ?_) (fun c_57 => ?_)
    · refine lv_iconst (v := 1) hx hb dX7_fetch_64 (by decide) ?_
      refine xrwi (z := mul2 wh) (by simp [mul2, c_57]) ?_
      exact join_65   _ _ _ hP hD hS (lv_sub hl [0, 1, 2, 3, 4, 5, 6] rfl)
    · refine lv_iconst (v := 2) hx hb dX7_fetch_60 (by decide) ?_
      refine lv_goto (tgt := 65) hx hb dX7_fetch_61 (by decide) ?_
      refine xrwi (z := mul2 wh) (by simp [mul2, c_57]) ?_
      exact join_65   _ _ _ hP hD hS (lv_sub hl [0, 1, 2, 3, 4, 5, 6] rfl)
  refine lv_aload_n hx hb dX7_fetch_0 rfl (lv_at hl 0 rfl) ?_
  refine xget (C := RX7) (T := TX7) (N := 34) hF hX hP (by decide +kernel) 0 17 rfl rfl (by decide) (by decide +kernel) rfl dX7_fetch_1 ?_
  refine lv_iconst (v := 2) hx hb dX7_fetch_4 (by decide) ?_
  refine lv_icmp_eq (tgt := 13) hx hb dX7_fetch_5 (by decide) (fun c_5 => absurd c_5 (by decide)) (fun _ => ?_)
  refine lv_iload_n hx hb dX7_fetch_8 rfl (lv_at hl 1 rfl) ?_
  refine lv_iconst (v := 1) hx hb dX7_fetch_9 (by decide) ?_
  refine lv_icmp_ne (tgt := 17) hx hb dX7_fetch_10 (by decide) (fun _ => ?_) (fun c_10 => absurd c_10 (by decide))
  refine lv_iconst (v := 0) hx hb dX7_fetch_17 (by decide) ?_
  refine lv_istore (lv' := [(5, .int 0), (0, .ref o), (1, .int 0), (2, .int (nI p9)), (3, .int x), (4, .int y)]) hx hb dX7_fetch_18 hl (by decide) rfl (fun ls hl => ?_)
  refine lv_aload_n hx hb dX7_fetch_20 rfl (lv_at hl 1 rfl) ?_
  refine xget (C := RX7) (T := TX7) (N := 34) hF hX hP (by decide +kernel) 0 22 rfl rfl (by decide) (by decide +kernel) rfl dX7_fetch_21 ?_
  refine lv_iconst (v := 2) hx hb dX7_fetch_24 (by decide) ?_
  refine lv_iload_n hx hb dX7_fetch_25 rfl (lv_at hl 2 rfl) ?_
  refine lv_imul hx hb dX7_fetch_26 ?_
  refine xrwi (z := 0) (by decide) ?_
  refine xald (k := 0) hF hX hP 3 rfl (rfl) (vp_in_nI (n := 0) (by decide) (by decide)) dX7_fetch_27 ?_
  refine lv_aload_n hx hb dX7_fetch_28 rfl (lv_at hl 1 rfl) ?_
  refine xget (C := RX7) (T := TX7) (N := 34) hF hX hP (by decide +kernel) 0 19 rfl rfl (by decide) (by decide +kernel) rfl dX7_fetch_29 ?_
  refine lv_if_eq (tgt := 39) hx hb dX7_fetch_32 (by decide) (fun c_32 => ?_) (fun c_32 => ?_)
  · refine lv_iconst (v := 1) hx hb dX7_fetch_39 (by decide) ?_
    refine xrwi (z := mul2 wh) (by simp [mul2, c_32]) ?_
    exact join_40   _ _ _ hP hD hS (lv_sub hl [1, 2, 3, 4, 5, 0] rfl)
  · refine lv_iconst (v := 2) hx hb dX7_fetch_35 (by decide) ?_
    refine lv_goto (tgt := 40) hx hb dX7_fetch_36 (by decide) ?_
    refine xrwi (z := mul2 wh) (by simp [mul2, c_32]) ?_
    exact join_40   _ _ _ hP hD hS (lv_sub hl [1, 2, 3, 4, 5, 0] rfl)

set_option maxHeartbeats 4000000 in
set_option maxRecDepth 100000 in
theorem c_X7_fetch13 (l : Launch) (D : va_G) (cs : Nat → ClassId) (tt : Nat → Nat) (o mt qu zz nw ol ne se ke re ve ps di lv bd co bt ma W H md : Nat) (th nc ns is ik dc sc wh fa ow tl bf bo : Int32) (p9 : Nat) (x y : Int32) (go gn V : Nat → Int32) (hp : p9 < 3) (hw : 1 ≤ W) (hw4 : W ≤ 4) (hh : 1 ≤ H) (hh3 : H ≤ 3) : xM l yX7_fetch wsX7_fetch ({ frames := 2, cells := 0, slots := 0, locals := 47 } : Room) D cs tt [.ref o, .int 1, .int (nI p9), .int x, .int y] [(o, .inr (7, mdF th W H mt qu zz nw ol ne se ke nc ns is ik dc sc 3 md wh fa re ve ps ow tl di lv bf bo bd co bt ma)), (ol, .inl (cs 0, 4608, .inl go)), (ne, .inl (cs 0, 4608, .inl gn)), (ve, .inl (cs 0, 4, .inl V))] (some (.int (mft (lokP gn p9) (wdt p9 W) (wdt p9 H) x y (mus wh (V 2) p9) (mus wh (V 3) p9)))) [(o, .inr (7, mdF th W H mt qu zz nw ol ne se ke nc ns is ik dc sc 3 md wh fa re ve ps ow tl di lv bf bo bd co bt ma)), (ol, .inl (cs 0, 4608, .inl go)), (ne, .inl (cs 0, 4608, .inl gn)), (ve, .inl (cs 0, 4, .inl V))] := by
  refine xM.of RX7 rfl (by decide) rfl (Nat.le_of_ble_eq_true rfl) ?_
  intro p e s m below meth c A ls hF hr hlk hX hP hD hS hl
  have hx := hF.1
  have hb := hF.2.1
  have hl : lv_has ls 13 [(0, .ref o), (1, .int 1), (2, .int (nI p9)), (3, .int x), (4, .int y)] := hl
  have hp0 : nI p9 ≤ 0 → p9 = 0 := fun h => by
    rcases Nat.eq_zero_or_pos p9 with q | q
    · exact q
    · exact absurd h (nI_nle q (by omega))
  have hp1 : ¬ nI p9 ≤ 0 → ¬ p9 = 0 := fun h q => h (by rw [q]; decide)
  have join_96 : ∀ (Hp : Heap) (locs : List Loc) (ls : Array Slot), va_P D vwCl [(o, .inr (7, mdF th W H mt qu zz nw ol ne se ke nc ns is ik dc sc 3 md wh fa re ve ps ow tl di lv bf bo bd co bt ma)), (ol, .inl (cs 0, 4608, .inl go)), (ne, .inl (cs 0, 4608, .inl gn)), (ve, .inl (cs 0, 4, .inl V))] Hp → va_D A [(o, .inr (7, mdF th W H mt qu zz nw ol ne se ke nc ns is ik dc sc 3 md wh fa re ve ps ow tl di lv bf bo bd co bt ma)), (ol, .inl (cs 0, 4608, .inl go)), (ne, .inl (cs 0, 4608, .inl gn)), (ve, .inl (cs 0, 4, .inl V))] → va_S A s.heap Hp locs → lv_has ls 13 [(6, .int (mus wh (V 2) p9)), (7, .int (V 3 * mul2 wh)), (0, .ref o), (1, .int 1), (2, .int (nI p9)), (3, .int x), (4, .int y), (5, .int 1)] → xW p l e ({ frames := 2, cells := 0, slots := 0, locals := 47 } : Room) s m ([.ref o, .int 1, .int (nI p9), .int x, .int y] : List Value).toArray below meth c Hp locs 0 0 (MQ below (xE D A (some (.int (mft (lokP gn p9) (wdt p9 W) (wdt p9 H) x y (mus wh (V 2) p9) (mus wh (V 3) p9)))) [(o, .inr (7, mdF th W H mt qu zz nw ol ne se ke nc ns is ik dc sc 3 md wh fa re ve ps ow tl di lv bf bo bd co bt ma)), (ol, .inl (cs 0, 4608, .inl go)), (ne, .inl (cs 0, 4608, .inl gn)), (ve, .inl (cs 0, 4, .inl V))]) ([.ref o, .int 1, .int (nI p9), .int x, .int y] : List Value).toArray s 0 0 A) (F0 m 96 ls [.int (mus wh (V 3) p9)]) := by
    intro Hp locs ls hP hD hS hl
    refine lv_istore (lv' := [(7, .int (mus wh (V 3) p9)), (6, .int (mus wh (V 2) p9)), (0, .ref o), (1, .int 1), (2, .int (nI p9)), (3, .int x), (4, .int y), (5, .int 1)]) hx hb dX7_fetch_96 hl (by decide) rfl (fun ls hl => ?_)
    refine lv_iload_n hx hb dX7_fetch_98 rfl (lv_at hl 5 rfl) ?_
    refine lv_iload hx hb dX7_fetch_99 (lv_at hl 1 rfl) ?_
    refine lv_iconst (v := 1) hx hb dX7_fetch_101 (by decide) ?_
    refine lv_ishr hx hb dX7_fetch_102 ?_
    refine lv_iadd hx hb dX7_fetch_103 ?_
    refine lv_istore (lv' := [(8, .int (x + ((mus wh (V 2) p9) >>> (1 &&& 31)))), (7, .int (mus wh (V 3) p9)), (6, .int (mus wh (V 2) p9)), (0, .ref o), (1, .int 1), (2, .int (nI p9)), (3, .int x), (4, .int y), (5, .int 1)]) hx hb dX7_fetch_104 hl (by decide) rfl (fun ls hl => ?_)
    refine lv_iload hx hb dX7_fetch_106 (lv_at hl 7 rfl) ?_
    refine lv_iload hx hb dX7_fetch_108 (lv_at hl 1 rfl) ?_
    refine lv_iconst (v := 1) hx hb dX7_fetch_110 (by decide) ?_
    refine lv_ishr hx hb dX7_fetch_111 ?_
    refine lv_iadd hx hb dX7_fetch_112 ?_
    refine lv_istore (lv' := [(9, .int (y + ((mus wh (V 3) p9) >>> (1 &&& 31)))), (8, .int (x + ((mus wh (V 2) p9) >>> (1 &&& 31)))), (7, .int (mus wh (V 3) p9)), (6, .int (mus wh (V 2) p9)), (0, .ref o), (1, .int 1), (2, .int (nI p9)), (3, .int x), (4, .int y), (5, .int 1)]) hx hb dX7_fetch_113 hl (by decide) rfl (fun ls hl => ?_)
    refine lv_aload_n hx hb dX7_fetch_115 rfl (lv_at hl 4 rfl) ?_
    refine lv_iload hx hb dX7_fetch_116 (lv_at hl 9 rfl) ?_
    refine lv_iload_n hx hb dX7_fetch_118 rfl (lv_at hl 6 rfl) ?_
    refine lv_iload hx hb dX7_fetch_119 (lv_at hl 1 rfl) ?_
    refine lv_iload hx hb dX7_fetch_121 (lv_at hl 0 rfl) ?_
    refine xV (rest := []) (As := [.int 1, .int (nI p9), .int (x + ((mus wh (V 2) p9) >>> (1 &&& 31))), .int (y + ((mus wh (V 3) p9) >>> (1 &&& 31)))]) (ws1 := [(o, .inr (7, mdF th W H mt qu zz nw ol ne se ke nc ns is ik dc sc 3 md wh fa re ve ps ow tl di lv bf bo bd co bt ma)), (ol, .inl (cs 0, 4608, .inl go)), (ne, .inl (cs 0, 4608, .inl gn)), (ve, .inl (cs 0, 4, .inl V))]) (st1 := [.int (lokP gn p9 (cl (x + ((mus wh (V 2) p9) >>> (1 &&& 31))) (wdt p9 W)) (cl (y + ((mus wh (V 3) p9) >>> (1 &&& 31))) (wdt p9 H)))]) hF (c_X7_look1 l D cs tt o mt qu zz nw ol ne se ke re ve ps di lv bd co bt ma W H md th nc ns is ik dc sc 3 wh fa ow tl bf bo p9 (x + ((mus wh (V 2) p9) >>> (1 &&& 31))) (y + ((mus wh (V 3) p9) >>> (1 &&& 31))) go gn hp hw hw4 hh hh3) gX7_fetch_X7_look rfl (n := 4) (by decide +kernel) rfl ⟨⟨rfl, rfl⟩, Nat.le_of_ble_eq_true rfl, Nat.le_of_ble_eq_true rfl⟩ ⟨Nat.le_of_ble_eq_true rfl, Nat.le_of_ble_eq_true rfl⟩ hX hP hD hS [0, 1, 2] (by decide) rfl [o, ol, ne] rfl rfl (q0 := 0) (ci := 7) rfl rfl rfl hl.1 rfl (Nat.le_of_ble_eq_true rfl) dX7_fetch_123 rfl rfl (fun Hp locs hP hD hS => ?_)
    refine lv_istore (lv' := [(10, .int (lokP gn p9 (cl (x + ((mus wh (V 2) p9) >>> (1 &&& 31))) (wdt p9 W)) (cl (y + ((mus wh (V 3) p9) >>> (1 &&& 31))) (wdt p9 H)))), (9, .int (y + ((mus wh (V 3) p9) >>> (1 &&& 31)))), (8, .int (x + ((mus wh (V 2) p9) >>> (1 &&& 31)))), (7, .int (mus wh (V 3) p9)), (6, .int (mus wh (V 2) p9)), (0, .ref o), (1, .int 1), (2, .int (nI p9)), (3, .int x), (4, .int y), (5, .int 1)]) hx hb dX7_fetch_126 hl (by decide) rfl (fun ls hl => ?_)
    refine lv_iload hx hb dX7_fetch_128 (lv_at hl 4 rfl) ?_
    refine lv_iconst (v := 2) hx hb dX7_fetch_130 (by decide) ?_
    refine lv_irem hx hb dX7_fetch_131 (by decide) ?_
    refine lv_if_eq (tgt := 139) hx hb dX7_fetch_132 (by decide) (fun c_132 => ?_) (fun c_132 => ?_)
    · refine lv_iconst (v := 0) hx hb dX7_fetch_139 (by decide) ?_
      refine lv_istore (lv' := [(11, .int 0), (10, .int (lokP gn p9 (cl (x + ((mus wh (V 2) p9) >>> (1 &&& 31))) (wdt p9 W)) (cl (y + ((mus wh (V 3) p9) >>> (1 &&& 31))) (wdt p9 H)))), (9, .int (y + ((mus wh (V 3) p9) >>> (1 &&& 31)))), (8, .int (x + ((mus wh (V 2) p9) >>> (1 &&& 31)))), (7, .int (mus wh (V 3) p9)), (6, .int (mus wh (V 2) p9)), (0, .ref o), (1, .int 1), (2, .int (nI p9)), (3, .int x), (4, .int y), (5, .int 1)]) hx hb dX7_fetch_140 hl (by decide) rfl (fun ls hl => ?_)
      refine lv_iload hx hb dX7_fetch_142 (lv_at hl 4 rfl) ?_
      refine lv_iconst (v := 2) hx hb dX7_fetch_144 (by decide) ?_
      refine lv_irem hx hb dX7_fetch_145 (by decide) ?_
      refine lv_if_eq (tgt := 153) hx hb dX7_fetch_146 (by decide) (fun c_146 => ?_) (fun c_146 => ?_)
      · refine lv_iconst (v := 0) hx hb dX7_fetch_153 (by decide) ?_
        refine lv_istore (lv' := [(12, .int 0), (11, .int 0), (10, .int (lokP gn p9 (cl (x + ((mus wh (V 2) p9) >>> (1 &&& 31))) (wdt p9 W)) (cl (y + ((mus wh (V 3) p9) >>> (1 &&& 31))) (wdt p9 H)))), (9, .int (y + ((mus wh (V 3) p9) >>> (1 &&& 31)))), (8, .int (x + ((mus wh (V 2) p9) >>> (1 &&& 31)))), (7, .int (mus wh (V 3) p9)), (6, .int (mus wh (V 2) p9)), (0, .ref o), (1, .int 1), (2, .int (nI p9)), (3, .int x), (4, .int y), (5, .int 1)]) hx hb dX7_fetch_154 hl (by decide) rfl (fun ls hl => ?_)
        refine lv_iload hx hb dX7_fetch_156 (lv_at hl 1 rfl) ?_
        refine lv_if_eq (tgt := 217) hx hb dX7_fetch_158 (by decide) (fun _ => ?_) (fun c_158 => absurd (by decide) c_158)
        refine lv_iload hx hb dX7_fetch_217 (lv_at hl 1 rfl) ?_
        refine lv_if_ne (tgt := 227) hx hb dX7_fetch_219 (by decide) (fun c_219 => absurd (by decide) c_219) (fun _ => ?_)
        refine lv_iload hx hb dX7_fetch_222 (lv_at hl 0 rfl) ?_
        refine lv_if_eq (tgt := 270) hx hb dX7_fetch_224 (by decide) (fun _ => ?_) (fun c_224 => absurd (by decide) c_224)
        refine lv_iload hx hb dX7_fetch_270 (lv_at hl 2 rfl) ?_
        refine xrwi (z := (mft (lokP gn p9) (wdt p9 W) (wdt p9 H) x y (mus wh (V 2) p9) (mus wh (V 3) p9))) (by simp [mft, c_132, c_146]) ?_
        exact xri (Q9 := fun _ _ _ _ => True) hF hr hlk hP hD hS dX7_fetch_272
      · refine lv_iconst (v := 1) hx hb dX7_fetch_149 (by decide) ?_
        refine lv_goto (tgt := 154) hx hb dX7_fetch_150 (by decide) ?_
        refine lv_istore (lv' := [(12, .int 1), (11, .int 0), (10, .int (lokP gn p9 (cl (x + ((mus wh (V 2) p9) >>> (1 &&& 31))) (wdt p9 W)) (cl (y + ((mus wh (V 3) p9) >>> (1 &&& 31))) (wdt p9 H)))), (9, .int (y + ((mus wh (V 3) p9) >>> (1 &&& 31)))), (8, .int (x + ((mus wh (V 2) p9) >>> (1 &&& 31)))), (7, .int (mus wh (V 3) p9)), (6, .int (mus wh (V 2) p9)), (0, .ref o), (1, .int 1), (2, .int (nI p9)), (3, .int x), (4, .int y), (5, .int 1)]) hx hb dX7_fetch_154 hl (by decide) rfl (fun ls hl => ?_)
        refine lv_iload hx hb dX7_fetch_156 (lv_at hl 1 rfl) ?_
        refine lv_if_eq (tgt := 217) hx hb dX7_fetch_158 (by decide) (fun _ => ?_) (fun c_158 => absurd (by decide) c_158)
        refine lv_iload hx hb dX7_fetch_217 (lv_at hl 1 rfl) ?_
        refine lv_if_ne (tgt := 227) hx hb dX7_fetch_219 (by decide) (fun c_219 => absurd (by decide) c_219) (fun _ => ?_)
        refine lv_iload hx hb dX7_fetch_222 (lv_at hl 0 rfl) ?_
        refine lv_if_eq (tgt := 270) hx hb dX7_fetch_224 (by decide) (fun c_224 => absurd c_224 (by decide)) (fun _ => ?_)
        refine lv_iload hx hb dX7_fetch_227 (lv_at hl 2 rfl) ?_
        refine lv_aload_n hx hb dX7_fetch_229 rfl (lv_at hl 7 rfl) ?_
        refine lv_iload hx hb dX7_fetch_230 (lv_at hl 12 rfl) ?_
        refine lv_iload_n hx hb dX7_fetch_232 rfl (lv_at hl 9 rfl) ?_
        refine lv_iload hx hb dX7_fetch_233 (lv_at hl 1 rfl) ?_
        refine lv_if_eq (tgt := 245) hx hb dX7_fetch_235 (by decide) (fun _ => ?_) (fun c_235 => absurd (by decide) c_235)
        refine lv_iload hx hb dX7_fetch_245 (lv_at hl 4 rfl) ?_
        refine lv_iload hx hb dX7_fetch_247 (lv_at hl 0 rfl) ?_
        refine lv_if_eq (tgt := 259) hx hb dX7_fetch_249 (by decide) (fun c_249 => absurd c_249 (by decide)) (fun _ => ?_)
        refine lv_iload hx hb dX7_fetch_252 (lv_at hl 3 rfl) ?_
        refine lv_iconst (v := 1) hx hb dX7_fetch_254 (by decide) ?_
        refine lv_iadd hx hb dX7_fetch_255 ?_
        refine lv_goto (tgt := 261) hx hb dX7_fetch_256 (by decide) ?_
        refine xV (rest := [.int (lokP gn p9 (cl (x + ((mus wh (V 2) p9) >>> (1 &&& 31))) (wdt p9 W)) (cl (y + ((mus wh (V 3) p9) >>> (1 &&& 31))) (wdt p9 H)))]) (As := [.int 1, .int (nI p9), .int (x + ((mus wh (V 2) p9) >>> (1 &&& 31))), .int ((y + ((mus wh (V 3) p9) >>> (1 &&& 31))) + 1)]) (ws1 := [(o, .inr (7, mdF th W H mt qu zz nw ol ne se ke nc ns is ik dc sc 3 md wh fa re ve ps ow tl di lv bf bo bd co bt ma)), (ol, .inl (cs 0, 4608, .inl go)), (ne, .inl (cs 0, 4608, .inl gn)), (ve, .inl (cs 0, 4, .inl V))]) (st1 := [.int (lokP gn p9 (cl (x + ((mus wh (V 2) p9) >>> (1 &&& 31))) (wdt p9 W)) (cl ((y + ((mus wh (V 3) p9) >>> (1 &&& 31))) + 1) (wdt p9 H))), .int (lokP gn p9 (cl (x + ((mus wh (V 2) p9) >>> (1 &&& 31))) (wdt p9 W)) (cl (y + ((mus wh (V 3) p9) >>> (1 &&& 31))) (wdt p9 H)))]) hF (c_X7_look1 l D cs tt o mt qu zz nw ol ne se ke re ve ps di lv bd co bt ma W H md th nc ns is ik dc sc 3 wh fa ow tl bf bo p9 (x + ((mus wh (V 2) p9) >>> (1 &&& 31))) ((y + ((mus wh (V 3) p9) >>> (1 &&& 31))) + 1) go gn hp hw hw4 hh hh3) gX7_fetch_X7_look rfl (n := 4) (by decide +kernel) rfl ⟨⟨rfl, rfl⟩, Nat.le_of_ble_eq_true rfl, Nat.le_of_ble_eq_true rfl⟩ ⟨Nat.le_of_ble_eq_true rfl, Nat.le_of_ble_eq_true rfl⟩ hX hP hD hS [0, 1, 2] (by decide) rfl [o, ol, ne] rfl rfl (q0 := 0) (ci := 7) rfl rfl rfl hl.1 rfl (Nat.le_of_ble_eq_true rfl) dX7_fetch_261 rfl rfl (fun Hp locs hP hD hS => ?_)
        refine lv_iadd hx hb dX7_fetch_264 ?_
        refine lv_iconst (v := 1) hx hb dX7_fetch_265 (by decide) ?_
        refine lv_iadd hx hb dX7_fetch_266 ?_
        refine lv_iconst (v := 1) hx hb dX7_fetch_267 (by decide) ?_
        refine lv_ishr hx hb dX7_fetch_268 ?_
        refine xrwi (z := (mft (lokP gn p9) (wdt p9 W) (wdt p9 H) x y (mus wh (V 2) p9) (mus wh (V 3) p9))) (by simp [mft, c_132, c_146]) ?_
        exact xri (Q9 := fun _ _ _ _ => True) hF hr hlk hP hD hS dX7_fetch_269
    · refine lv_iconst (v := 1) hx hb dX7_fetch_135 (by decide) ?_
      refine lv_goto (tgt := 140) hx hb dX7_fetch_136 (by decide) ?_
      refine lv_istore (lv' := [(11, .int 1), (10, .int (lokP gn p9 (cl (x + ((mus wh (V 2) p9) >>> (1 &&& 31))) (wdt p9 W)) (cl (y + ((mus wh (V 3) p9) >>> (1 &&& 31))) (wdt p9 H)))), (9, .int (y + ((mus wh (V 3) p9) >>> (1 &&& 31)))), (8, .int (x + ((mus wh (V 2) p9) >>> (1 &&& 31)))), (7, .int (mus wh (V 3) p9)), (6, .int (mus wh (V 2) p9)), (0, .ref o), (1, .int 1), (2, .int (nI p9)), (3, .int x), (4, .int y), (5, .int 1)]) hx hb dX7_fetch_140 hl (by decide) rfl (fun ls hl => ?_)
      refine lv_iload hx hb dX7_fetch_142 (lv_at hl 4 rfl) ?_
      refine lv_iconst (v := 2) hx hb dX7_fetch_144 (by decide) ?_
      refine lv_irem hx hb dX7_fetch_145 (by decide) ?_
      refine lv_if_eq (tgt := 153) hx hb dX7_fetch_146 (by decide) (fun c_146 => ?_) (fun c_146 => ?_)
      · refine lv_iconst (v := 0) hx hb dX7_fetch_153 (by decide) ?_
        refine lv_istore (lv' := [(12, .int 0), (11, .int 1), (10, .int (lokP gn p9 (cl (x + ((mus wh (V 2) p9) >>> (1 &&& 31))) (wdt p9 W)) (cl (y + ((mus wh (V 3) p9) >>> (1 &&& 31))) (wdt p9 H)))), (9, .int (y + ((mus wh (V 3) p9) >>> (1 &&& 31)))), (8, .int (x + ((mus wh (V 2) p9) >>> (1 &&& 31)))), (7, .int (mus wh (V 3) p9)), (6, .int (mus wh (V 2) p9)), (0, .ref o), (1, .int 1), (2, .int (nI p9)), (3, .int x), (4, .int y), (5, .int 1)]) hx hb dX7_fetch_154 hl (by decide) rfl (fun ls hl => ?_)
        refine lv_iload hx hb dX7_fetch_156 (lv_at hl 1 rfl) ?_
        refine lv_if_eq (tgt := 217) hx hb dX7_fetch_158 (by decide) (fun c_158 => absurd c_158 (by decide)) (fun _ => ?_)
        refine lv_iload hx hb dX7_fetch_161 (lv_at hl 0 rfl) ?_
        refine lv_if_eq (tgt := 217) hx hb dX7_fetch_163 (by decide) (fun _ => ?_) (fun c_163 => absurd (by decide) c_163)
        refine lv_iload hx hb dX7_fetch_217 (lv_at hl 1 rfl) ?_
        refine lv_if_ne (tgt := 227) hx hb dX7_fetch_219 (by decide) (fun _ => ?_) (fun c_219 => absurd c_219 (by decide))
        refine lv_iload hx hb dX7_fetch_227 (lv_at hl 2 rfl) ?_
        refine lv_aload_n hx hb dX7_fetch_229 rfl (lv_at hl 7 rfl) ?_
        refine lv_iload hx hb dX7_fetch_230 (lv_at hl 12 rfl) ?_
        refine lv_iload_n hx hb dX7_fetch_232 rfl (lv_at hl 9 rfl) ?_
        refine lv_iload hx hb dX7_fetch_233 (lv_at hl 1 rfl) ?_
        refine lv_if_eq (tgt := 245) hx hb dX7_fetch_235 (by decide) (fun c_235 => absurd c_235 (by decide)) (fun _ => ?_)
        refine lv_iload hx hb dX7_fetch_238 (lv_at hl 4 rfl) ?_
        refine lv_iconst (v := 1) hx hb dX7_fetch_240 (by decide) ?_
        refine lv_iadd hx hb dX7_fetch_241 ?_
        refine lv_goto (tgt := 247) hx hb dX7_fetch_242 (by decide) ?_
        refine lv_iload hx hb dX7_fetch_247 (lv_at hl 0 rfl) ?_
        refine lv_if_eq (tgt := 259) hx hb dX7_fetch_249 (by decide) (fun _ => ?_) (fun c_249 => absurd (by decide) c_249)
        refine lv_iload hx hb dX7_fetch_259 (lv_at hl 3 rfl) ?_
        refine xV (rest := [.int (lokP gn p9 (cl (x + ((mus wh (V 2) p9) >>> (1 &&& 31))) (wdt p9 W)) (cl (y + ((mus wh (V 3) p9) >>> (1 &&& 31))) (wdt p9 H)))]) (As := [.int 1, .int (nI p9), .int ((x + ((mus wh (V 2) p9) >>> (1 &&& 31))) + 1), .int (y + ((mus wh (V 3) p9) >>> (1 &&& 31)))]) (ws1 := [(o, .inr (7, mdF th W H mt qu zz nw ol ne se ke nc ns is ik dc sc 3 md wh fa re ve ps ow tl di lv bf bo bd co bt ma)), (ol, .inl (cs 0, 4608, .inl go)), (ne, .inl (cs 0, 4608, .inl gn)), (ve, .inl (cs 0, 4, .inl V))]) (st1 := [.int (lokP gn p9 (cl ((x + ((mus wh (V 2) p9) >>> (1 &&& 31))) + 1) (wdt p9 W)) (cl (y + ((mus wh (V 3) p9) >>> (1 &&& 31))) (wdt p9 H))), .int (lokP gn p9 (cl (x + ((mus wh (V 2) p9) >>> (1 &&& 31))) (wdt p9 W)) (cl (y + ((mus wh (V 3) p9) >>> (1 &&& 31))) (wdt p9 H)))]) hF (c_X7_look1 l D cs tt o mt qu zz nw ol ne se ke re ve ps di lv bd co bt ma W H md th nc ns is ik dc sc 3 wh fa ow tl bf bo p9 ((x + ((mus wh (V 2) p9) >>> (1 &&& 31))) + 1) (y + ((mus wh (V 3) p9) >>> (1 &&& 31))) go gn hp hw hw4 hh hh3) gX7_fetch_X7_look rfl (n := 4) (by decide +kernel) rfl ⟨⟨rfl, rfl⟩, Nat.le_of_ble_eq_true rfl, Nat.le_of_ble_eq_true rfl⟩ ⟨Nat.le_of_ble_eq_true rfl, Nat.le_of_ble_eq_true rfl⟩ hX hP hD hS [0, 1, 2] (by decide) rfl [o, ol, ne] rfl rfl (q0 := 0) (ci := 7) rfl rfl rfl hl.1 rfl (Nat.le_of_ble_eq_true rfl) dX7_fetch_261 rfl rfl (fun Hp locs hP hD hS => ?_)
        refine lv_iadd hx hb dX7_fetch_264 ?_
        refine lv_iconst (v := 1) hx hb dX7_fetch_265 (by decide) ?_
        refine lv_iadd hx hb dX7_fetch_266 ?_
        refine lv_iconst (v := 1) hx hb dX7_fetch_267 (by decide) ?_
        refine lv_ishr hx hb dX7_fetch_268 ?_
        refine xrwi (z := (mft (lokP gn p9) (wdt p9 W) (wdt p9 H) x y (mus wh (V 2) p9) (mus wh (V 3) p9))) (by simp [mft, c_132, c_146]) ?_
        exact xri (Q9 := fun _ _ _ _ => True) hF hr hlk hP hD hS dX7_fetch_269
      · refine lv_iconst (v := 1) hx hb dX7_fetch_149 (by decide) ?_
        refine lv_goto (tgt := 154) hx hb dX7_fetch_150 (by decide) ?_
        refine lv_istore (lv' := [(12, .int 1), (11, .int 1), (10, .int (lokP gn p9 (cl (x + ((mus wh (V 2) p9) >>> (1 &&& 31))) (wdt p9 W)) (cl (y + ((mus wh (V 3) p9) >>> (1 &&& 31))) (wdt p9 H)))), (9, .int (y + ((mus wh (V 3) p9) >>> (1 &&& 31)))), (8, .int (x + ((mus wh (V 2) p9) >>> (1 &&& 31)))), (7, .int (mus wh (V 3) p9)), (6, .int (mus wh (V 2) p9)), (0, .ref o), (1, .int 1), (2, .int (nI p9)), (3, .int x), (4, .int y), (5, .int 1)]) hx hb dX7_fetch_154 hl (by decide) rfl (fun ls hl => ?_)
        refine lv_iload hx hb dX7_fetch_156 (lv_at hl 1 rfl) ?_
        refine lv_if_eq (tgt := 217) hx hb dX7_fetch_158 (by decide) (fun c_158 => absurd c_158 (by decide)) (fun _ => ?_)
        refine lv_iload hx hb dX7_fetch_161 (lv_at hl 0 rfl) ?_
        refine lv_if_eq (tgt := 217) hx hb dX7_fetch_163 (by decide) (fun c_163 => absurd c_163 (by decide)) (fun _ => ?_)
        refine lv_iload hx hb dX7_fetch_166 (lv_at hl 2 rfl) ?_
        refine lv_aload_n hx hb dX7_fetch_168 rfl (lv_at hl 7 rfl) ?_
        refine lv_iload hx hb dX7_fetch_169 (lv_at hl 12 rfl) ?_
        refine lv_iload_n hx hb dX7_fetch_171 rfl (lv_at hl 9 rfl) ?_
        refine lv_iload hx hb dX7_fetch_172 (lv_at hl 4 rfl) ?_
        refine lv_iconst (v := 1) hx hb dX7_fetch_174 (by decide) ?_
        refine lv_iadd hx hb dX7_fetch_175 ?_
        refine lv_iload hx hb dX7_fetch_176 (lv_at hl 3 rfl) ?_
        refine xV (rest := [.int (lokP gn p9 (cl (x + ((mus wh (V 2) p9) >>> (1 &&& 31))) (wdt p9 W)) (cl (y + ((mus wh (V 3) p9) >>> (1 &&& 31))) (wdt p9 H)))]) (As := [.int 1, .int (nI p9), .int ((x + ((mus wh (V 2) p9) >>> (1 &&& 31))) + 1), .int (y + ((mus wh (V 3) p9) >>> (1 &&& 31)))]) (ws1 := [(o, .inr (7, mdF th W H mt qu zz nw ol ne se ke nc ns is ik dc sc 3 md wh fa re ve ps ow tl di lv bf bo bd co bt ma)), (ol, .inl (cs 0, 4608, .inl go)), (ne, .inl (cs 0, 4608, .inl gn)), (ve, .inl (cs 0, 4, .inl V))]) (st1 := [.int (lokP gn p9 (cl ((x + ((mus wh (V 2) p9) >>> (1 &&& 31))) + 1) (wdt p9 W)) (cl (y + ((mus wh (V 3) p9) >>> (1 &&& 31))) (wdt p9 H))), .int (lokP gn p9 (cl (x + ((mus wh (V 2) p9) >>> (1 &&& 31))) (wdt p9 W)) (cl (y + ((mus wh (V 3) p9) >>> (1 &&& 31))) (wdt p9 H)))]) hF (c_X7_look1 l D cs tt o mt qu zz nw ol ne se ke re ve ps di lv bd co bt ma W H md th nc ns is ik dc sc 3 wh fa ow tl bf bo p9 ((x + ((mus wh (V 2) p9) >>> (1 &&& 31))) + 1) (y + ((mus wh (V 3) p9) >>> (1 &&& 31))) go gn hp hw hw4 hh hh3) gX7_fetch_X7_look rfl (n := 4) (by decide +kernel) rfl ⟨⟨rfl, rfl⟩, Nat.le_of_ble_eq_true rfl, Nat.le_of_ble_eq_true rfl⟩ ⟨Nat.le_of_ble_eq_true rfl, Nat.le_of_ble_eq_true rfl⟩ hX hP hD hS [0, 1, 2] (by decide) rfl [o, ol, ne] rfl rfl (q0 := 0) (ci := 7) rfl rfl rfl hl.1 rfl (Nat.le_of_ble_eq_true rfl) dX7_fetch_178 rfl rfl (fun Hp locs hP hD hS => ?_)
        refine lv_iadd hx hb dX7_fetch_181 ?_
        refine lv_aload_n hx hb dX7_fetch_182 rfl (lv_at hl 7 rfl) ?_
        refine lv_iload hx hb dX7_fetch_183 (lv_at hl 12 rfl) ?_
        refine lv_iload_n hx hb dX7_fetch_185 rfl (lv_at hl 9 rfl) ?_
        refine lv_iload hx hb dX7_fetch_186 (lv_at hl 4 rfl) ?_
        refine lv_iload hx hb dX7_fetch_188 (lv_at hl 3 rfl) ?_
        refine lv_iconst (v := 1) hx hb dX7_fetch_190 (by decide) ?_
        refine lv_iadd hx hb dX7_fetch_191 ?_
        refine xV (rest := [.int ((lokP gn p9 (cl (x + ((mus wh (V 2) p9) >>> (1 &&& 31))) (wdt p9 W)) (cl (y + ((mus wh (V 3) p9) >>> (1 &&& 31))) (wdt p9 H))) + (lokP gn p9 (cl ((x + ((mus wh (V 2) p9) >>> (1 &&& 31))) + 1) (wdt p9 W)) (cl (y + ((mus wh (V 3) p9) >>> (1 &&& 31))) (wdt p9 H))))]) (As := [.int 1, .int (nI p9), .int (x + ((mus wh (V 2) p9) >>> (1 &&& 31))), .int ((y + ((mus wh (V 3) p9) >>> (1 &&& 31))) + 1)]) (ws1 := [(o, .inr (7, mdF th W H mt qu zz nw ol ne se ke nc ns is ik dc sc 3 md wh fa re ve ps ow tl di lv bf bo bd co bt ma)), (ol, .inl (cs 0, 4608, .inl go)), (ne, .inl (cs 0, 4608, .inl gn)), (ve, .inl (cs 0, 4, .inl V))]) (st1 := [.int (lokP gn p9 (cl (x + ((mus wh (V 2) p9) >>> (1 &&& 31))) (wdt p9 W)) (cl ((y + ((mus wh (V 3) p9) >>> (1 &&& 31))) + 1) (wdt p9 H))), .int ((lokP gn p9 (cl (x + ((mus wh (V 2) p9) >>> (1 &&& 31))) (wdt p9 W)) (cl (y + ((mus wh (V 3) p9) >>> (1 &&& 31))) (wdt p9 H))) + (lokP gn p9 (cl ((x + ((mus wh (V 2) p9) >>> (1 &&& 31))) + 1) (wdt p9 W)) (cl (y + ((mus wh (V 3) p9) >>> (1 &&& 31))) (wdt p9 H))))]) hF (c_X7_look1 l D cs tt o mt qu zz nw ol ne se ke re ve ps di lv bd co bt ma W H md th nc ns is ik dc sc 3 wh fa ow tl bf bo p9 (x + ((mus wh (V 2) p9) >>> (1 &&& 31))) ((y + ((mus wh (V 3) p9) >>> (1 &&& 31))) + 1) go gn hp hw hw4 hh hh3) gX7_fetch_X7_look rfl (n := 4) (by decide +kernel) rfl ⟨⟨rfl, rfl⟩, Nat.le_of_ble_eq_true rfl, Nat.le_of_ble_eq_true rfl⟩ ⟨Nat.le_of_ble_eq_true rfl, Nat.le_of_ble_eq_true rfl⟩ hX hP hD hS [0, 1, 2] (by decide) rfl [o, ol, ne] rfl rfl (q0 := 0) (ci := 7) rfl rfl rfl hl.1 rfl (Nat.le_of_ble_eq_true rfl) dX7_fetch_192 rfl rfl (fun Hp locs hP hD hS => ?_)
        refine lv_iadd hx hb dX7_fetch_195 ?_
        refine lv_aload_n hx hb dX7_fetch_196 rfl (lv_at hl 7 rfl) ?_
        refine lv_iload hx hb dX7_fetch_197 (lv_at hl 12 rfl) ?_
        refine lv_iload_n hx hb dX7_fetch_199 rfl (lv_at hl 9 rfl) ?_
        refine lv_iload hx hb dX7_fetch_200 (lv_at hl 4 rfl) ?_
        refine lv_iconst (v := 1) hx hb dX7_fetch_202 (by decide) ?_
        refine lv_iadd hx hb dX7_fetch_203 ?_
        refine lv_iload hx hb dX7_fetch_204 (lv_at hl 3 rfl) ?_
        refine lv_iconst (v := 1) hx hb dX7_fetch_206 (by decide) ?_
        refine lv_iadd hx hb dX7_fetch_207 ?_
        refine xV (rest := [.int (((lokP gn p9 (cl (x + ((mus wh (V 2) p9) >>> (1 &&& 31))) (wdt p9 W)) (cl (y + ((mus wh (V 3) p9) >>> (1 &&& 31))) (wdt p9 H))) + (lokP gn p9 (cl ((x + ((mus wh (V 2) p9) >>> (1 &&& 31))) + 1) (wdt p9 W)) (cl (y + ((mus wh (V 3) p9) >>> (1 &&& 31))) (wdt p9 H)))) + (lokP gn p9 (cl (x + ((mus wh (V 2) p9) >>> (1 &&& 31))) (wdt p9 W)) (cl ((y + ((mus wh (V 3) p9) >>> (1 &&& 31))) + 1) (wdt p9 H))))]) (As := [.int 1, .int (nI p9), .int ((x + ((mus wh (V 2) p9) >>> (1 &&& 31))) + 1), .int ((y + ((mus wh (V 3) p9) >>> (1 &&& 31))) + 1)]) (ws1 := [(o, .inr (7, mdF th W H mt qu zz nw ol ne se ke nc ns is ik dc sc 3 md wh fa re ve ps ow tl di lv bf bo bd co bt ma)), (ol, .inl (cs 0, 4608, .inl go)), (ne, .inl (cs 0, 4608, .inl gn)), (ve, .inl (cs 0, 4, .inl V))]) (st1 := [.int (lokP gn p9 (cl ((x + ((mus wh (V 2) p9) >>> (1 &&& 31))) + 1) (wdt p9 W)) (cl ((y + ((mus wh (V 3) p9) >>> (1 &&& 31))) + 1) (wdt p9 H))), .int (((lokP gn p9 (cl (x + ((mus wh (V 2) p9) >>> (1 &&& 31))) (wdt p9 W)) (cl (y + ((mus wh (V 3) p9) >>> (1 &&& 31))) (wdt p9 H))) + (lokP gn p9 (cl ((x + ((mus wh (V 2) p9) >>> (1 &&& 31))) + 1) (wdt p9 W)) (cl (y + ((mus wh (V 3) p9) >>> (1 &&& 31))) (wdt p9 H)))) + (lokP gn p9 (cl (x + ((mus wh (V 2) p9) >>> (1 &&& 31))) (wdt p9 W)) (cl ((y + ((mus wh (V 3) p9) >>> (1 &&& 31))) + 1) (wdt p9 H))))]) hF (c_X7_look1 l D cs tt o mt qu zz nw ol ne se ke re ve ps di lv bd co bt ma W H md th nc ns is ik dc sc 3 wh fa ow tl bf bo p9 ((x + ((mus wh (V 2) p9) >>> (1 &&& 31))) + 1) ((y + ((mus wh (V 3) p9) >>> (1 &&& 31))) + 1) go gn hp hw hw4 hh hh3) gX7_fetch_X7_look rfl (n := 4) (by decide +kernel) rfl ⟨⟨rfl, rfl⟩, Nat.le_of_ble_eq_true rfl, Nat.le_of_ble_eq_true rfl⟩ ⟨Nat.le_of_ble_eq_true rfl, Nat.le_of_ble_eq_true rfl⟩ hX hP hD hS [0, 1, 2] (by decide) rfl [o, ol, ne] rfl rfl (q0 := 0) (ci := 7) rfl rfl rfl hl.1 rfl (Nat.le_of_ble_eq_true rfl) dX7_fetch_208 rfl rfl (fun Hp locs hP hD hS => ?_)
        refine lv_iadd hx hb dX7_fetch_211 ?_
        refine lv_iconst (v := 2) hx hb dX7_fetch_212 (by decide) ?_
        refine lv_iadd hx hb dX7_fetch_213 ?_
        refine lv_iconst (v := 2) hx hb dX7_fetch_214 (by decide) ?_
        refine lv_ishr hx hb dX7_fetch_215 ?_
        refine xrwi (z := (mft (lokP gn p9) (wdt p9 W) (wdt p9 H) x y (mus wh (V 2) p9) (mus wh (V 3) p9))) (by simp [mft, c_132, c_146]) ?_
        exact xri (Q9 := fun _ _ _ _ => True) hF hr hlk hP hD hS dX7_fetch_216
  have join_81 : ∀ (Hp : Heap) (locs : List Loc) (ls : Array Slot), va_P D vwCl [(o, .inr (7, mdF th W H mt qu zz nw ol ne se ke nc ns is ik dc sc 3 md wh fa re ve ps ow tl di lv bf bo bd co bt ma)), (ol, .inl (cs 0, 4608, .inl go)), (ne, .inl (cs 0, 4608, .inl gn)), (ve, .inl (cs 0, 4, .inl V))] Hp → va_D A [(o, .inr (7, mdF th W H mt qu zz nw ol ne se ke nc ns is ik dc sc 3 md wh fa re ve ps ow tl di lv bf bo bd co bt ma)), (ol, .inl (cs 0, 4608, .inl go)), (ne, .inl (cs 0, 4608, .inl gn)), (ve, .inl (cs 0, 4, .inl V))] → va_S A s.heap Hp locs → lv_has ls 13 [(7, .int (V 3 * mul2 wh)), (6, .int (V 2 * mul2 wh)), (0, .ref o), (1, .int 1), (2, .int (nI p9)), (3, .int x), (4, .int y), (5, .int 1)] → xW p l e ({ frames := 2, cells := 0, slots := 0, locals := 47 } : Room) s m ([.ref o, .int 1, .int (nI p9), .int x, .int y] : List Value).toArray below meth c Hp locs 0 0 (MQ below (xE D A (some (.int (mft (lokP gn p9) (wdt p9 W) (wdt p9 H) x y (mus wh (V 2) p9) (mus wh (V 3) p9)))) [(o, .inr (7, mdF th W H mt qu zz nw ol ne se ke nc ns is ik dc sc 3 md wh fa re ve ps ow tl di lv bf bo bd co bt ma)), (ol, .inl (cs 0, 4608, .inl go)), (ne, .inl (cs 0, 4608, .inl gn)), (ve, .inl (cs 0, 4, .inl V))]) ([.ref o, .int 1, .int (nI p9), .int x, .int y] : List Value).toArray s 0 0 A) (F0 m 81 ls [.int (mus wh (V 2) p9)]) := by
    intro Hp locs ls hP hD hS hl
    refine lv_istore (lv' := [(6, .int (mus wh (V 2) p9)), (7, .int (V 3 * mul2 wh)), (0, .ref o), (1, .int 1), (2, .int (nI p9)), (3, .int x), (4, .int y), (5, .int 1)]) hx hb dX7_fetch_81 hl (by decide) rfl (fun ls hl => ?_)
    refine lv_iload_n hx hb dX7_fetch_83 rfl (lv_at hl 4 rfl) ?_
    refine lv_if_le (tgt := 94) hx hb dX7_fetch_84 (by decide) (fun c_84 => ?_) (fun c_84 => ?_)
    · refine lv_iload hx hb dX7_fetch_94 (lv_at hl 1 rfl) ?_
      refine xrwi (z := (mus wh (V 3) p9)) (by unfold mus; first | rw [if_pos (hp0 c_84)] | rw [if_neg (hp1 c_84)]) ?_
      exact join_96   _ _ _ hP hD hS (lv_sub hl [0, 1, 2, 3, 4, 5, 6, 7] rfl)
    · refine lv_iload hx hb dX7_fetch_87 (lv_at hl 1 rfl) ?_
      refine lv_iconst (v := 2) hx hb dX7_fetch_89 (by decide) ?_
      refine lv_idiv hx hb dX7_fetch_90 (by decide) ?_
      refine lv_goto (tgt := 96) hx hb dX7_fetch_91 (by decide) ?_
      refine xrwi (z := (mus wh (V 3) p9)) (by unfold mus; first | rw [if_pos (hp0 c_84)] | rw [if_neg (hp1 c_84)]) ?_
      exact join_96   _ _ _ hP hD hS (lv_sub hl [0, 1, 2, 3, 4, 5, 6, 7] rfl)
  have join_65 : ∀ (Hp : Heap) (locs : List Loc) (ls : Array Slot), va_P D vwCl [(o, .inr (7, mdF th W H mt qu zz nw ol ne se ke nc ns is ik dc sc 3 md wh fa re ve ps ow tl di lv bf bo bd co bt ma)), (ol, .inl (cs 0, 4608, .inl go)), (ne, .inl (cs 0, 4608, .inl gn)), (ve, .inl (cs 0, 4, .inl V))] Hp → va_D A [(o, .inr (7, mdF th W H mt qu zz nw ol ne se ke nc ns is ik dc sc 3 md wh fa re ve ps ow tl di lv bf bo bd co bt ma)), (ol, .inl (cs 0, 4608, .inl go)), (ne, .inl (cs 0, 4608, .inl gn)), (ve, .inl (cs 0, 4, .inl V))] → va_S A s.heap Hp locs → lv_has ls 13 [(6, .int (V 2 * mul2 wh)), (0, .ref o), (1, .int 1), (2, .int (nI p9)), (3, .int x), (4, .int y), (5, .int 1)] → xW p l e ({ frames := 2, cells := 0, slots := 0, locals := 47 } : Room) s m ([.ref o, .int 1, .int (nI p9), .int x, .int y] : List Value).toArray below meth c Hp locs 0 0 (MQ below (xE D A (some (.int (mft (lokP gn p9) (wdt p9 W) (wdt p9 H) x y (mus wh (V 2) p9) (mus wh (V 3) p9)))) [(o, .inr (7, mdF th W H mt qu zz nw ol ne se ke nc ns is ik dc sc 3 md wh fa re ve ps ow tl di lv bf bo bd co bt ma)), (ol, .inl (cs 0, 4608, .inl go)), (ne, .inl (cs 0, 4608, .inl gn)), (ve, .inl (cs 0, 4, .inl V))]) ([.ref o, .int 1, .int (nI p9), .int x, .int y] : List Value).toArray s 0 0 A) (F0 m 65 ls [.int (mul2 wh), .int (V 3)]) := by
    intro Hp locs ls hP hD hS hl
    refine lv_imul hx hb dX7_fetch_65 ?_
    refine lv_istore (lv' := [(7, .int ((V 3) * (mul2 wh))), (6, .int (V 2 * mul2 wh)), (0, .ref o), (1, .int 1), (2, .int (nI p9)), (3, .int x), (4, .int y), (5, .int 1)]) hx hb dX7_fetch_66 hl (by decide) rfl (fun ls hl => ?_)
    refine lv_iload_n hx hb dX7_fetch_68 rfl (lv_at hl 4 rfl) ?_
    refine lv_if_le (tgt := 79) hx hb dX7_fetch_69 (by decide) (fun c_69 => ?_) (fun c_69 => ?_)
    · refine lv_iload hx hb dX7_fetch_79 (lv_at hl 1 rfl) ?_
      refine xrwi (z := (mus wh (V 2) p9)) (by unfold mus; first | rw [if_pos (hp0 c_69)] | rw [if_neg (hp1 c_69)]) ?_
      exact join_81   _ _ _ hP hD hS (lv_sub hl [0, 1, 2, 3, 4, 5, 6, 7] rfl)
    · refine lv_iload hx hb dX7_fetch_72 (lv_at hl 1 rfl) ?_
      refine lv_iconst (v := 2) hx hb dX7_fetch_74 (by decide) ?_
      refine lv_idiv hx hb dX7_fetch_75 (by decide) ?_
      refine lv_goto (tgt := 81) hx hb dX7_fetch_76 (by decide) ?_
      refine xrwi (z := (mus wh (V 2) p9)) (by unfold mus; first | rw [if_pos (hp0 c_69)] | rw [if_neg (hp1 c_69)]) ?_
      exact join_81   _ _ _ hP hD hS (lv_sub hl [0, 1, 2, 3, 4, 5, 6, 7] rfl)
  have join_40 : ∀ (Hp : Heap) (locs : List Loc) (ls : Array Slot), va_P D vwCl [(o, .inr (7, mdF th W H mt qu zz nw ol ne se ke nc ns is ik dc sc 3 md wh fa re ve ps ow tl di lv bf bo bd co bt ma)), (ol, .inl (cs 0, 4608, .inl go)), (ne, .inl (cs 0, 4608, .inl gn)), (ve, .inl (cs 0, 4, .inl V))] Hp → va_D A [(o, .inr (7, mdF th W H mt qu zz nw ol ne se ke nc ns is ik dc sc 3 md wh fa re ve ps ow tl di lv bf bo bd co bt ma)), (ol, .inl (cs 0, 4608, .inl go)), (ne, .inl (cs 0, 4608, .inl gn)), (ve, .inl (cs 0, 4, .inl V))] → va_S A s.heap Hp locs → lv_has ls 13 [(0, .ref o), (1, .int 1), (2, .int (nI p9)), (3, .int x), (4, .int y), (5, .int 1)] → xW p l e ({ frames := 2, cells := 0, slots := 0, locals := 47 } : Room) s m ([.ref o, .int 1, .int (nI p9), .int x, .int y] : List Value).toArray below meth c Hp locs 0 0 (MQ below (xE D A (some (.int (mft (lokP gn p9) (wdt p9 W) (wdt p9 H) x y (mus wh (V 2) p9) (mus wh (V 3) p9)))) [(o, .inr (7, mdF th W H mt qu zz nw ol ne se ke nc ns is ik dc sc 3 md wh fa re ve ps ow tl di lv bf bo bd co bt ma)), (ol, .inl (cs 0, 4608, .inl go)), (ne, .inl (cs 0, 4608, .inl gn)), (ve, .inl (cs 0, 4, .inl V))]) ([.ref o, .int 1, .int (nI p9), .int x, .int y] : List Value).toArray s 0 0 A) (F0 m 40 ls [.int (mul2 wh), .int (V 2)]) := by
    intro Hp locs ls hP hD hS hl
    refine lv_imul hx hb dX7_fetch_40 ?_
    refine lv_istore (lv' := [(6, .int ((V 2) * (mul2 wh))), (0, .ref o), (1, .int 1), (2, .int (nI p9)), (3, .int x), (4, .int y), (5, .int 1)]) hx hb dX7_fetch_41 hl (by decide) rfl (fun ls hl => ?_)
    refine lv_aload_n hx hb dX7_fetch_43 rfl (lv_at hl 1 rfl) ?_
    refine xget (C := RX7) (T := TX7) (N := 34) hF hX hP (by decide +kernel) 0 22 rfl rfl (by decide) (by decide +kernel) rfl dX7_fetch_44 ?_
    refine lv_iconst (v := 2) hx hb dX7_fetch_47 (by decide) ?_
    refine lv_iload_n hx hb dX7_fetch_48 rfl (lv_at hl 2 rfl) ?_
    refine lv_imul hx hb dX7_fetch_49 ?_
    refine xrwi (z := 2) (by decide) ?_
    refine lv_iconst (v := 1) hx hb dX7_fetch_50 (by decide) ?_
    refine lv_iadd hx hb dX7_fetch_51 ?_
    refine xrwi (z := 3) (by decide) ?_
    refine xald (k := 3) hF hX hP 3 rfl (rfl) (vp_in_nI (n := 3) (by decide) (by decide)) dX7_fetch_52 ?_
    refine lv_aload_n hx hb dX7_fetch_53 rfl (lv_at hl 1 rfl) ?_
    refine xget (C := RX7) (T := TX7) (N := 34) hF hX hP (by decide +kernel) 0 19 rfl rfl (by decide) (by decide +kernel) rfl dX7_fetch_54 ?_
    refine lv_if_eq (tgt := 64) hx hb dX7_fetch_57 (by decide) (fun c_57 => ?_) (fun c_57 => ?_)
    · refine lv_iconst (v := 1) hx hb dX7_fetch_64 (by decide) ?_
      refine xrwi (z := mul2 wh) (by simp [mul2, c_57]) ?_
      exact join_65   _ _ _ hP hD hS (lv_sub hl [0, 1, 2, 3, 4, 5, 6] rfl)
    · refine lv_iconst (v := 2) hx hb dX7_fetch_60 (by decide) ?_
      refine lv_goto (tgt := 65) hx hb dX7_fetch_61 (by decide) ?_
      refine xrwi (z := mul2 wh) (by simp [mul2, c_57]) ?_
      exact join_65   _ _ _ hP hD hS (lv_sub hl [0, 1, 2, 3, 4, 5, 6] rfl)
  refine lv_aload_n hx hb dX7_fetch_0 rfl (lv_at hl 0 rfl) ?_
  refine xget (C := RX7) (T := TX7) (N := 34) hF hX hP (by decide +kernel) 0 17 rfl rfl (by decide) (by decide +kernel) rfl dX7_fetch_1 ?_
  refine lv_iconst (v := 2) hx hb dX7_fetch_4 (by decide) ?_
  refine lv_icmp_eq (tgt := 13) hx hb dX7_fetch_5 (by decide) (fun c_5 => absurd c_5 (by decide)) (fun _ => ?_)
  refine lv_iload_n hx hb dX7_fetch_8 rfl (lv_at hl 1 rfl) ?_
  refine lv_iconst (v := 1) hx hb dX7_fetch_9 (by decide) ?_
  refine lv_icmp_ne (tgt := 17) hx hb dX7_fetch_10 (by decide) (fun c_10 => absurd (by decide) c_10) (fun _ => ?_)
  refine lv_iconst (v := 1) hx hb dX7_fetch_13 (by decide) ?_
  refine lv_goto (tgt := 18) hx hb dX7_fetch_14 (by decide) ?_
  refine lv_istore (lv' := [(5, .int 1), (0, .ref o), (1, .int 1), (2, .int (nI p9)), (3, .int x), (4, .int y)]) hx hb dX7_fetch_18 hl (by decide) rfl (fun ls hl => ?_)
  refine lv_aload_n hx hb dX7_fetch_20 rfl (lv_at hl 1 rfl) ?_
  refine xget (C := RX7) (T := TX7) (N := 34) hF hX hP (by decide +kernel) 0 22 rfl rfl (by decide) (by decide +kernel) rfl dX7_fetch_21 ?_
  refine lv_iconst (v := 2) hx hb dX7_fetch_24 (by decide) ?_
  refine lv_iload_n hx hb dX7_fetch_25 rfl (lv_at hl 2 rfl) ?_
  refine lv_imul hx hb dX7_fetch_26 ?_
  refine xrwi (z := 2) (by decide) ?_
  refine xald (k := 2) hF hX hP 3 rfl (rfl) (vp_in_nI (n := 2) (by decide) (by decide)) dX7_fetch_27 ?_
  refine lv_aload_n hx hb dX7_fetch_28 rfl (lv_at hl 1 rfl) ?_
  refine xget (C := RX7) (T := TX7) (N := 34) hF hX hP (by decide +kernel) 0 19 rfl rfl (by decide) (by decide +kernel) rfl dX7_fetch_29 ?_
  refine lv_if_eq (tgt := 39) hx hb dX7_fetch_32 (by decide) (fun c_32 => ?_) (fun c_32 => ?_)
  · refine lv_iconst (v := 1) hx hb dX7_fetch_39 (by decide) ?_
    refine xrwi (z := mul2 wh) (by simp [mul2, c_32]) ?_
    exact join_40   _ _ _ hP hD hS (lv_sub hl [1, 2, 3, 4, 5, 0] rfl)
  · refine lv_iconst (v := 2) hx hb dX7_fetch_35 (by decide) ?_
    refine lv_goto (tgt := 40) hx hb dX7_fetch_36 (by decide) ?_
    refine xrwi (z := mul2 wh) (by simp [mul2, c_32]) ?_
    exact join_40   _ _ _ hP hD hS (lv_sub hl [1, 2, 3, 4, 5, 0] rfl)

set_option maxHeartbeats 4000000 in
set_option maxRecDepth 100000 in
theorem c_X7_fetchedA (l : Launch) (D : va_G) (cs : Nat → ClassId) (tt : Nat → Nat) (o mt qu zz nw ol ne se ke re ve ps di lv bd co bt ma W H md : Nat) (th nc ns is ik dc sc wh fa ow tl bf bo : Int32) (p9 : Nat) (x y : Int32) (go gn V : Nat → Int32) (hp : p9 < 3) (hw : 1 ≤ W) (hw4 : W ≤ 4) (hh : 1 ≤ H) (hh3 : H ≤ 3) : xM l yX7_fetched wsX7_fetched ({ frames := 3, cells := 0, slots := 0, locals := 79 } : Room) D cs tt [.ref o, .int 1, .int 0, .int (nI p9), .int x, .int y] [(o, .inr (7, mdF th W H mt qu zz nw ol ne se ke nc ns is ik dc sc 2 md wh fa re ve ps ow tl di lv bf bo bd co bt ma)), (ol, .inl (cs 0, 4608, .inl go)), (ne, .inl (cs 0, 4608, .inl gn)), (ve, .inl (cs 0, 4, .inl V))] (some (.int (mft (lokP gn p9) (wdt p9 W) (wdt p9 H) x y (mus wh (V 0) p9) (mus wh (V 1) p9)))) [(o, .inr (7, mdF th W H mt qu zz nw ol ne se ke nc ns is ik dc sc 2 md wh fa re ve ps ow tl di lv bf bo bd co bt ma)), (ol, .inl (cs 0, 4608, .inl go)), (ne, .inl (cs 0, 4608, .inl gn)), (ve, .inl (cs 0, 4, .inl V))] := by
  refine xM.of RX7 rfl (by decide) rfl (Nat.le_of_ble_eq_true rfl) ?_
  intro p e s m below meth c A ls hF hr hlk hX hP hD hS hl
  have hx := hF.1
  have hb := hF.2.1
  have hl : lv_has ls 6 [(0, .ref o), (1, .int 1), (2, .int 0), (3, .int (nI p9)), (4, .int x), (5, .int y)] := hl
  refine lv_iload_n hx hb dX7_fetched_0 rfl (lv_at hl 1 rfl) ?_
  refine lv_if_eq (tgt := 34) hx hb dX7_fetched_1 (by decide) (fun c_1 => absurd c_1 (by decide)) (fun _ => ?_)
  refine lv_iload_n hx hb dX7_fetched_4 rfl (lv_at hl 2 rfl) ?_
  refine lv_if_eq (tgt := 34) hx hb dX7_fetched_5 (by decide) (fun _ => ?_) (fun c_5 => absurd (by decide) c_5)
  refine lv_aload_n hx hb dX7_fetched_34 rfl (lv_at hl 0 rfl) ?_
  refine lv_iload_n hx hb dX7_fetched_35 rfl (lv_at hl 1 rfl) ?_
  refine lv_if_eq (tgt := 43) hx hb dX7_fetched_36 (by decide) (fun c_36 => absurd c_36 (by decide)) (fun _ => ?_)
  refine lv_iconst (v := 0) hx hb dX7_fetched_39 (by decide) ?_
  refine lv_goto (tgt := 44) hx hb dX7_fetched_40 (by decide) ?_
  refine lv_iload_n hx hb dX7_fetched_44 rfl (lv_at hl 3 rfl) ?_
  refine lv_iload hx hb dX7_fetched_45 (lv_at hl 4 rfl) ?_
  refine lv_iload hx hb dX7_fetched_47 (lv_at hl 5 rfl) ?_
  refine xV (rest := []) (As := [.int 0, .int (nI p9), .int x, .int y]) (ws1 := [(o, .inr (7, mdF th W H mt qu zz nw ol ne se ke nc ns is ik dc sc 2 md wh fa re ve ps ow tl di lv bf bo bd co bt ma)), (ol, .inl (cs 0, 4608, .inl go)), (ne, .inl (cs 0, 4608, .inl gn)), (ve, .inl (cs 0, 4, .inl V))]) (st1 := [.int (mft (lokP gn p9) (wdt p9 W) (wdt p9 H) x y (mus wh (V 0) p9) (mus wh (V 1) p9))]) hF (c_X7_fetch02 l D cs tt o mt qu zz nw ol ne se ke re ve ps di lv bd co bt ma W H md th nc ns is ik dc sc wh fa ow tl bf bo p9 x y go gn V hp hw hw4 hh hh3) gX7_fetched_X7_fetch rfl (n := 4) (by decide +kernel) rfl ⟨⟨rfl, rfl⟩, Nat.le_of_ble_eq_true rfl, Nat.le_of_ble_eq_true rfl⟩ ⟨Nat.le_of_ble_eq_true rfl, Nat.le_of_ble_eq_true rfl⟩ hX hP hD hS [0, 1, 2, 3] (by decide) rfl [o, ol, ne, ve] rfl rfl (q0 := 0) (ci := 7) rfl rfl rfl hl.1 rfl (Nat.le_of_ble_eq_true rfl) dX7_fetched_49 rfl rfl (fun Hp locs hP hD hS => ?_)
  exact xri (Q9 := fun _ _ _ _ => True) hF hr hlk hP hD hS dX7_fetched_52

set_option maxHeartbeats 4000000 in
set_option maxRecDepth 100000 in
theorem c_X7_fetchedB (l : Launch) (D : va_G) (cs : Nat → ClassId) (tt : Nat → Nat) (o mt qu zz nw ol ne se ke re ve ps di lv bd co bt ma W H md : Nat) (th nc ns is ik dc sc wh fa ow tl bf bo : Int32) (p9 : Nat) (x y : Int32) (go gn V : Nat → Int32) (hp : p9 < 3) (hw : 1 ≤ W) (hw4 : W ≤ 4) (hh : 1 ≤ H) (hh3 : H ≤ 3) : xM l yX7_fetched wsX7_fetched ({ frames := 3, cells := 0, slots := 0, locals := 79 } : Room) D cs tt [.ref o, .int 1, .int 0, .int (nI p9), .int x, .int y] [(o, .inr (7, mdF th W H mt qu zz nw ol ne se ke nc ns is ik dc sc 3 md wh fa re ve ps ow tl di lv bf bo bd co bt ma)), (ol, .inl (cs 0, 4608, .inl go)), (ne, .inl (cs 0, 4608, .inl gn)), (ve, .inl (cs 0, 4, .inl V))] (some (.int (mft (lokP go p9) (wdt p9 W) (wdt p9 H) x y (mus wh (V 0) p9) (mus wh (V 1) p9)))) [(o, .inr (7, mdF th W H mt qu zz nw ol ne se ke nc ns is ik dc sc 3 md wh fa re ve ps ow tl di lv bf bo bd co bt ma)), (ol, .inl (cs 0, 4608, .inl go)), (ne, .inl (cs 0, 4608, .inl gn)), (ve, .inl (cs 0, 4, .inl V))] := by
  refine xM.of RX7 rfl (by decide) rfl (Nat.le_of_ble_eq_true rfl) ?_
  intro p e s m below meth c A ls hF hr hlk hX hP hD hS hl
  have hx := hF.1
  have hb := hF.2.1
  have hl : lv_has ls 6 [(0, .ref o), (1, .int 1), (2, .int 0), (3, .int (nI p9)), (4, .int x), (5, .int y)] := hl
  refine lv_iload_n hx hb dX7_fetched_0 rfl (lv_at hl 1 rfl) ?_
  refine lv_if_eq (tgt := 34) hx hb dX7_fetched_1 (by decide) (fun c_1 => absurd c_1 (by decide)) (fun _ => ?_)
  refine lv_iload_n hx hb dX7_fetched_4 rfl (lv_at hl 2 rfl) ?_
  refine lv_if_eq (tgt := 34) hx hb dX7_fetched_5 (by decide) (fun _ => ?_) (fun c_5 => absurd (by decide) c_5)
  refine lv_aload_n hx hb dX7_fetched_34 rfl (lv_at hl 0 rfl) ?_
  refine lv_iload_n hx hb dX7_fetched_35 rfl (lv_at hl 1 rfl) ?_
  refine lv_if_eq (tgt := 43) hx hb dX7_fetched_36 (by decide) (fun c_36 => absurd c_36 (by decide)) (fun _ => ?_)
  refine lv_iconst (v := 0) hx hb dX7_fetched_39 (by decide) ?_
  refine lv_goto (tgt := 44) hx hb dX7_fetched_40 (by decide) ?_
  refine lv_iload_n hx hb dX7_fetched_44 rfl (lv_at hl 3 rfl) ?_
  refine lv_iload hx hb dX7_fetched_45 (lv_at hl 4 rfl) ?_
  refine lv_iload hx hb dX7_fetched_47 (lv_at hl 5 rfl) ?_
  refine xV (rest := []) (As := [.int 0, .int (nI p9), .int x, .int y]) (ws1 := [(o, .inr (7, mdF th W H mt qu zz nw ol ne se ke nc ns is ik dc sc 3 md wh fa re ve ps ow tl di lv bf bo bd co bt ma)), (ol, .inl (cs 0, 4608, .inl go)), (ne, .inl (cs 0, 4608, .inl gn)), (ve, .inl (cs 0, 4, .inl V))]) (st1 := [.int (mft (lokP go p9) (wdt p9 W) (wdt p9 H) x y (mus wh (V 0) p9) (mus wh (V 1) p9))]) hF (c_X7_fetch03 l D cs tt o mt qu zz nw ol ne se ke re ve ps di lv bd co bt ma W H md th nc ns is ik dc sc wh fa ow tl bf bo p9 x y go gn V hp hw hw4 hh hh3) gX7_fetched_X7_fetch rfl (n := 4) (by decide +kernel) rfl ⟨⟨rfl, rfl⟩, Nat.le_of_ble_eq_true rfl, Nat.le_of_ble_eq_true rfl⟩ ⟨Nat.le_of_ble_eq_true rfl, Nat.le_of_ble_eq_true rfl⟩ hX hP hD hS [0, 1, 2, 3] (by decide) rfl [o, ol, ne, ve] rfl rfl (q0 := 0) (ci := 7) rfl rfl rfl hl.1 rfl (Nat.le_of_ble_eq_true rfl) dX7_fetched_49 rfl rfl (fun Hp locs hP hD hS => ?_)
  exact xri (Q9 := fun _ _ _ _ => True) hF hr hlk hP hD hS dX7_fetched_52

set_option maxHeartbeats 4000000 in
set_option maxRecDepth 100000 in
theorem c_X7_fetchedC (l : Launch) (D : va_G) (cs : Nat → ClassId) (tt : Nat → Nat) (o mt qu zz nw ol ne se ke re ve ps di lv bd co bt ma W H md : Nat) (th nc ns is ik dc sc wh fa ow tl bf bo : Int32) (p9 : Nat) (x y : Int32) (go gn V : Nat → Int32) (hp : p9 < 3) (hw : 1 ≤ W) (hw4 : W ≤ 4) (hh : 1 ≤ H) (hh3 : H ≤ 3) : xM l yX7_fetched wsX7_fetched ({ frames := 3, cells := 0, slots := 0, locals := 79 } : Room) D cs tt [.ref o, .int 0, .int 1, .int (nI p9), .int x, .int y] [(o, .inr (7, mdF th W H mt qu zz nw ol ne se ke nc ns is ik dc sc 3 md wh fa re ve ps ow tl di lv bf bo bd co bt ma)), (ol, .inl (cs 0, 4608, .inl go)), (ne, .inl (cs 0, 4608, .inl gn)), (ve, .inl (cs 0, 4, .inl V))] (some (.int (mft (lokP gn p9) (wdt p9 W) (wdt p9 H) x y (mus wh (V 2) p9) (mus wh (V 3) p9)))) [(o, .inr (7, mdF th W H mt qu zz nw ol ne se ke nc ns is ik dc sc 3 md wh fa re ve ps ow tl di lv bf bo bd co bt ma)), (ol, .inl (cs 0, 4608, .inl go)), (ne, .inl (cs 0, 4608, .inl gn)), (ve, .inl (cs 0, 4, .inl V))] := by
  refine xM.of RX7 rfl (by decide) rfl (Nat.le_of_ble_eq_true rfl) ?_
  intro p e s m below meth c A ls hF hr hlk hX hP hD hS hl
  have hx := hF.1
  have hb := hF.2.1
  have hl : lv_has ls 6 [(0, .ref o), (1, .int 0), (2, .int 1), (3, .int (nI p9)), (4, .int x), (5, .int y)] := hl
  refine lv_iload_n hx hb dX7_fetched_0 rfl (lv_at hl 1 rfl) ?_
  refine lv_if_eq (tgt := 34) hx hb dX7_fetched_1 (by decide) (fun _ => ?_) (fun c_1 => absurd (by decide) c_1)
  refine lv_aload_n hx hb dX7_fetched_34 rfl (lv_at hl 0 rfl) ?_
  refine lv_iload_n hx hb dX7_fetched_35 rfl (lv_at hl 1 rfl) ?_
  refine lv_if_eq (tgt := 43) hx hb dX7_fetched_36 (by decide) (fun _ => ?_) (fun c_36 => absurd (by decide) c_36)
  refine lv_iconst (v := 1) hx hb dX7_fetched_43 (by decide) ?_
  refine lv_iload_n hx hb dX7_fetched_44 rfl (lv_at hl 3 rfl) ?_
  refine lv_iload hx hb dX7_fetched_45 (lv_at hl 4 rfl) ?_
  refine lv_iload hx hb dX7_fetched_47 (lv_at hl 5 rfl) ?_
  refine xV (rest := []) (As := [.int 1, .int (nI p9), .int x, .int y]) (ws1 := [(o, .inr (7, mdF th W H mt qu zz nw ol ne se ke nc ns is ik dc sc 3 md wh fa re ve ps ow tl di lv bf bo bd co bt ma)), (ol, .inl (cs 0, 4608, .inl go)), (ne, .inl (cs 0, 4608, .inl gn)), (ve, .inl (cs 0, 4, .inl V))]) (st1 := [.int (mft (lokP gn p9) (wdt p9 W) (wdt p9 H) x y (mus wh (V 2) p9) (mus wh (V 3) p9))]) hF (c_X7_fetch13 l D cs tt o mt qu zz nw ol ne se ke re ve ps di lv bd co bt ma W H md th nc ns is ik dc sc wh fa ow tl bf bo p9 x y go gn V hp hw hw4 hh hh3) gX7_fetched_X7_fetch rfl (n := 4) (by decide +kernel) rfl ⟨⟨rfl, rfl⟩, Nat.le_of_ble_eq_true rfl, Nat.le_of_ble_eq_true rfl⟩ ⟨Nat.le_of_ble_eq_true rfl, Nat.le_of_ble_eq_true rfl⟩ hX hP hD hS [0, 1, 2, 3] (by decide) rfl [o, ol, ne, ve] rfl rfl (q0 := 0) (ci := 7) rfl rfl rfl hl.1 rfl (Nat.le_of_ble_eq_true rfl) dX7_fetched_49 rfl rfl (fun Hp locs hP hD hS => ?_)
  exact xri (Q9 := fun _ _ _ _ => True) hF hr hlk hP hD hS dX7_fetched_52

set_option maxHeartbeats 4000000 in
set_option maxRecDepth 100000 in
theorem c_X7_fetchedD (l : Launch) (D : va_G) (cs : Nat → ClassId) (tt : Nat → Nat) (o mt qu zz nw ol ne se ke re ve ps di lv bd co bt ma W H md : Nat) (th nc ns is ik dc sc wh fa ow tl bf bo : Int32) (p9 : Nat) (x y : Int32) (go gn V : Nat → Int32) (hp : p9 < 3) (hw : 1 ≤ W) (hw4 : W ≤ 4) (hh : 1 ≤ H) (hh3 : H ≤ 3) : xM l yX7_fetched wsX7_fetched ({ frames := 3, cells := 0, slots := 0, locals := 79 } : Room) D cs tt [.ref o, .int 1, .int 1, .int (nI p9), .int x, .int y] [(o, .inr (7, mdF th W H mt qu zz nw ol ne se ke nc ns is ik dc sc 3 md wh fa re ve ps ow tl di lv bf bo bd co bt ma)), (ol, .inl (cs 0, 4608, .inl go)), (ne, .inl (cs 0, 4608, .inl gn)), (ve, .inl (cs 0, 4, .inl V))] (some (.int (((mft (lokP go p9) (wdt p9 W) (wdt p9 H) x y (mus wh (V 0) p9) (mus wh (V 1) p9)) + (mft (lokP gn p9) (wdt p9 W) (wdt p9 H) x y (mus wh (V 2) p9) (mus wh (V 3) p9)) + 1) >>> (1 &&& 31)))) [(o, .inr (7, mdF th W H mt qu zz nw ol ne se ke nc ns is ik dc sc 3 md wh fa re ve ps ow tl di lv bf bo bd co bt ma)), (ol, .inl (cs 0, 4608, .inl go)), (ne, .inl (cs 0, 4608, .inl gn)), (ve, .inl (cs 0, 4, .inl V))] := by
  refine xM.of RX7 rfl (by decide) rfl (Nat.le_of_ble_eq_true rfl) ?_
  intro p e s m below meth c A ls hF hr hlk hX hP hD hS hl
  have hx := hF.1
  have hb := hF.2.1
  have hl : lv_has ls 6 [(0, .ref o), (1, .int 1), (2, .int 1), (3, .int (nI p9)), (4, .int x), (5, .int y)] := hl
  refine lv_iload_n hx hb dX7_fetched_0 rfl (lv_at hl 1 rfl) ?_
  refine lv_if_eq (tgt := 34) hx hb dX7_fetched_1 (by decide) (fun c_1 => absurd c_1 (by decide)) (fun _ => ?_)
  refine lv_iload_n hx hb dX7_fetched_4 rfl (lv_at hl 2 rfl) ?_
  refine lv_if_eq (tgt := 34) hx hb dX7_fetched_5 (by decide) (fun c_5 => absurd c_5 (by decide)) (fun _ => ?_)
  refine lv_aload_n hx hb dX7_fetched_8 rfl (lv_at hl 0 rfl) ?_
  refine lv_iconst (v := 0) hx hb dX7_fetched_9 (by decide) ?_
  refine lv_iload_n hx hb dX7_fetched_10 rfl (lv_at hl 3 rfl) ?_
  refine lv_iload hx hb dX7_fetched_11 (lv_at hl 4 rfl) ?_
  refine lv_iload hx hb dX7_fetched_13 (lv_at hl 5 rfl) ?_
  refine xV (rest := []) (As := [.int 0, .int (nI p9), .int x, .int y]) (ws1 := [(o, .inr (7, mdF th W H mt qu zz nw ol ne se ke nc ns is ik dc sc 3 md wh fa re ve ps ow tl di lv bf bo bd co bt ma)), (ol, .inl (cs 0, 4608, .inl go)), (ne, .inl (cs 0, 4608, .inl gn)), (ve, .inl (cs 0, 4, .inl V))]) (st1 := [.int (mft (lokP go p9) (wdt p9 W) (wdt p9 H) x y (mus wh (V 0) p9) (mus wh (V 1) p9))]) hF (c_X7_fetch03 l D cs tt o mt qu zz nw ol ne se ke re ve ps di lv bd co bt ma W H md th nc ns is ik dc sc wh fa ow tl bf bo p9 x y go gn V hp hw hw4 hh hh3) gX7_fetched_X7_fetch rfl (n := 4) (by decide +kernel) rfl ⟨⟨rfl, rfl⟩, Nat.le_of_ble_eq_true rfl, Nat.le_of_ble_eq_true rfl⟩ ⟨Nat.le_of_ble_eq_true rfl, Nat.le_of_ble_eq_true rfl⟩ hX hP hD hS [0, 1, 2, 3] (by decide) rfl [o, ol, ne, ve] rfl rfl (q0 := 0) (ci := 7) rfl rfl rfl hl.1 rfl (Nat.le_of_ble_eq_true rfl) dX7_fetched_15 rfl rfl (fun Hp locs hP hD hS => ?_)
  refine lv_aload_n hx hb dX7_fetched_18 rfl (lv_at hl 0 rfl) ?_
  refine lv_iconst (v := 1) hx hb dX7_fetched_19 (by decide) ?_
  refine lv_iload_n hx hb dX7_fetched_20 rfl (lv_at hl 3 rfl) ?_
  refine lv_iload hx hb dX7_fetched_21 (lv_at hl 4 rfl) ?_
  refine lv_iload hx hb dX7_fetched_23 (lv_at hl 5 rfl) ?_
  refine xV (rest := [.int (mft (lokP go p9) (wdt p9 W) (wdt p9 H) x y (mus wh (V 0) p9) (mus wh (V 1) p9))]) (As := [.int 1, .int (nI p9), .int x, .int y]) (ws1 := [(o, .inr (7, mdF th W H mt qu zz nw ol ne se ke nc ns is ik dc sc 3 md wh fa re ve ps ow tl di lv bf bo bd co bt ma)), (ol, .inl (cs 0, 4608, .inl go)), (ne, .inl (cs 0, 4608, .inl gn)), (ve, .inl (cs 0, 4, .inl V))]) (st1 := [.int (mft (lokP gn p9) (wdt p9 W) (wdt p9 H) x y (mus wh (V 2) p9) (mus wh (V 3) p9)), .int (mft (lokP go p9) (wdt p9 W) (wdt p9 H) x y (mus wh (V 0) p9) (mus wh (V 1) p9))]) hF (c_X7_fetch13 l D cs tt o mt qu zz nw ol ne se ke re ve ps di lv bd co bt ma W H md th nc ns is ik dc sc wh fa ow tl bf bo p9 x y go gn V hp hw hw4 hh hh3) gX7_fetched_X7_fetch rfl (n := 4) (by decide +kernel) rfl ⟨⟨rfl, rfl⟩, Nat.le_of_ble_eq_true rfl, Nat.le_of_ble_eq_true rfl⟩ ⟨Nat.le_of_ble_eq_true rfl, Nat.le_of_ble_eq_true rfl⟩ hX hP hD hS [0, 1, 2, 3] (by decide) rfl [o, ol, ne, ve] rfl rfl (q0 := 0) (ci := 7) rfl rfl rfl hl.1 rfl (Nat.le_of_ble_eq_true rfl) dX7_fetched_25 rfl rfl (fun Hp locs hP hD hS => ?_)
  refine lv_iadd hx hb dX7_fetched_28 ?_
  refine lv_iconst (v := 1) hx hb dX7_fetched_29 (by decide) ?_
  refine lv_iadd hx hb dX7_fetched_30 ?_
  refine lv_iconst (v := 1) hx hb dX7_fetched_31 (by decide) ?_
  refine lv_ishr hx hb dX7_fetched_32 ?_
  exact xri (Q9 := fun _ _ _ _ => True) hF hr hlk hP hD hS dX7_fetched_33
