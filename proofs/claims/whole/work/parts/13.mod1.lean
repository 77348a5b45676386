
/-! ===== the reference: its leaves ===== -/
/-- the reference's fields -/
def mdF (th : Int32) (W : Nat) (H : Nat) (mt : Nat) (qu : Nat) (zz : Nat) (nw : Nat) (ol : Nat) (ne : Nat) (se : Nat) (ke : Nat) (nc : Int32) (ns : Int32) (is : Int32) (ik : Int32) (dc : Int32) (sc : Int32) (kd : Int32) (md : Nat) (wh : Int32) (fa : Int32) (re : Nat) (ve : Nat) (ps : Nat) (ow : Int32) (tl : Int32) (di : Nat) (lv : Nat) (bf : Int32) (bo : Int32) (bd : Nat) (co : Nat) (bt : Nat) (ma : Nat) : List Value := Value.int th :: Value.int (nI W) :: Value.int (nI H) :: Value.ref mt :: Value.ref qu :: Value.ref zz :: Value.ref nw :: Value.ref ol :: Value.ref ne :: Value.ref se :: Value.ref ke :: Value.int nc :: Value.int ns :: Value.int is :: Value.int ik :: Value.int dc :: Value.int sc :: Value.int kd :: Value.int (nI md) :: Value.int wh :: Value.int fa :: Value.ref re :: Value.ref ve :: Value.ref ps :: Value.int ow :: Value.int tl :: Value.ref di :: Value.ref lv :: Value.int bf :: Value.int bo :: Value.ref bd :: Value.ref co :: Value.ref bt :: Value.ref ma :: []
theorem two0 {Di : Nat → Int32} : ∀ j, j < 2 → upd (upd Di 0 0) 1 0 j = 0 := by
  intro j hj
  have : j = 0 ∨ j = 1 := by omega
  rcases this with rfl | rfl <;> simp [upd]
def isf (kd : Int32) (W H md : Nat) : Int32 := if kd = 0 then 1 else if nI md = nI W * nI H then 1 else 0
theorem isf01 (kd : Int32) (W H md : Nat) : isf kd W H md = 0 ∨ isf kd W H md = 1 := by unfold isf; (repeat' split) <;> simp
def mvd0 (v d r : Int32) : Int32 := if v + d ≤ 16 * r - 1 then v + d else v + d - 32 * r
def mvd (v d r : Int32) : Int32 := if (-16) * r ≤ mvd0 v d r then mvd0 v d r else mvd0 v d r + 32 * r
def wdt (p W : Nat) : Nat := if p = 0 then 16 * W else 8 * W
def plc (p x y : Nat) : Nat := if p = 0 then 64 * y + x else if p = 1 then 3072 + 32 * y + x else 3840 + 32 * y + x
def qrt (j : Nat) : Int32 := [1024, 1004, 946, 851, 724, 569, 392, 200, 0].getD j 0
def fct (p : Nat) : Int32 := if p ≤ 16 then (if p ≤ 8 then qrt p else -(qrt (16 - p))) else (if 32 - p ≤ 8 then qrt (32 - p) else -(qrt (16 - (32 - p))))
theorem fct_w : ∀ p, p < 32 → fct p = xwv p := by decide +kernel
theorem nIlt_of {x y : Int32} {a b : Nat} (hx : x = nI a) (hy : y = nI b) (ha : a < 2147483648) (hb : b < 2147483648) (h : x < y) : a < b := by
  subst hx; subst hy; exact (nI_ltI ha hb).mp h
def zfn (j : Nat) : Int32 := nI (zN j)

set_option maxHeartbeats 4000000 in
set_option maxRecDepth 100000 in
theorem c_X7_within (l : Launch) (D : va_G) (cs : Nat → ClassId) (tt : Nat → Nat) (v lo hi : Int32)  : xM l yX7_within wsX7_within ({ frames := 0, cells := 0, slots := 0, locals := 0 } : Room) D cs tt [.int v, .int lo, .int hi] [] (some (.int (bnd v lo hi))) [] := by
  refine xM.of RX7 rfl (by decide) rfl (Nat.le_of_ble_eq_true rfl) ?_
  intro p e s m below meth c A ls hF hr hlk hX hP hD hS hl
  have hx := hF.1
  have hb := hF.2.1
  have hl : lv_has ls 3 [(0, .int v), (1, .int lo), (2, .int hi)] := hl
  refine lv_iload_n hx hb dX7_within_0 rfl (lv_at hl 0 rfl) ?_
  refine lv_iload_n hx hb dX7_within_1 rfl (lv_at hl 1 rfl) ?_
  refine lv_icmp_ge (tgt := 9) hx hb dX7_within_2 (by decide) (fun c_2 => ?_) (fun c_2 => ?_)
  · refine lv_iload_n hx hb dX7_within_9 rfl (lv_at hl 0 rfl) ?_
    refine lv_iload_n hx hb dX7_within_10 rfl (lv_at hl 2 rfl) ?_
    refine lv_icmp_le (tgt := 18) hx hb dX7_within_11 (by decide) (fun c_11 => ?_) (fun c_11 => ?_)
    · refine lv_iload_n hx hb dX7_within_18 rfl (lv_at hl 0 rfl) ?_
      refine xrwi (z := (bnd v lo hi)) (by simp [bnd, c_2, c_11]) ?_
      exact xri (Q9 := fun _ _ _ _ => True) hF hr hlk hP hD hS dX7_within_19
    · refine lv_iload_n hx hb dX7_within_14 rfl (lv_at hl 2 rfl) ?_
      refine lv_goto (tgt := 19) hx hb dX7_within_15 (by decide) ?_
      refine xrwi (z := (bnd v lo hi)) (by simp [bnd, c_2, c_11]) ?_
      exact xri (Q9 := fun _ _ _ _ => True) hF hr hlk hP hD hS dX7_within_19
  · refine lv_iload_n hx hb dX7_within_5 rfl (lv_at hl 1 rfl) ?_
    refine lv_goto (tgt := 19) hx hb dX7_within_6 (by decide) ?_
    refine xrwi (z := (bnd v lo hi)) (by simp [bnd, c_2]) ?_
    exact xri (Q9 := fun _ _ _ _ => True) hF hr hlk hP hD hS dX7_within_19

set_option maxHeartbeats 4000000 in
set_option maxRecDepth 100000 in
theorem c_X7_planeOf (l : Launch) (D : va_G) (cs : Nat → ClassId) (tt : Nat → Nat) (b : Int32)  : xM l yX7_planeOf wsX7_planeOf ({ frames := 0, cells := 0, slots := 0, locals := 0 } : Room) D cs tt [.int b] [] (some (.int (pln b))) [] := by
  refine xM.of RX7 rfl (by decide) rfl (Nat.le_of_ble_eq_true rfl) ?_
  intro p e s m below meth c A ls hF hr hlk hX hP hD hS hl
  have hx := hF.1
  have hb := hF.2.1
  have hl : lv_has ls 1 [(0, .int b)] := hl
  refine lv_iload_n hx hb dX7_planeOf_0 rfl (lv_at hl 0 rfl) ?_
  refine lv_iconst (v := 4) hx hb dX7_planeOf_1 (by decide) ?_
  refine lv_icmp_ge (tgt := 9) hx hb dX7_planeOf_2 (by decide) (fun c_2 => ?_) (fun c_2 => ?_)
  · refine lv_iload_n hx hb dX7_planeOf_9 rfl (lv_at hl 0 rfl) ?_
    refine lv_iconst (v := 3) hx hb dX7_planeOf_10 (by decide) ?_
    refine lv_isub hx hb dX7_planeOf_11 ?_
    refine xrwi (z := (pln b)) (by simp [pln, c_2]) ?_
    exact xri (Q9 := fun _ _ _ _ => True) hF hr hlk hP hD hS dX7_planeOf_12
  · refine lv_iconst (v := 0) hx hb dX7_planeOf_5 (by decide) ?_
    refine lv_goto (tgt := 12) hx hb dX7_planeOf_6 (by decide) ?_
    refine xrwi (z := (pln b)) (by simp [pln, c_2]) ?_
    exact xri (Q9 := fun _ _ _ _ => True) hF hr hlk hP hD hS dX7_planeOf_12

set_option maxHeartbeats 4000000 in
set_option maxRecDepth 100000 in
theorem c_X7_cutOff (l : Launch) (D : va_G) (cs : Nat → ClassId) (tt : Nat → Nat) (v : UInt32)  : xM l yX7_cutOff wsX7_cutOff ({ frames := 1, cells := 0, slots := 0, locals := 22 } : Room) D cs tt [.float v] [] (some (.int (bnd (FP.f2i v) 0 255))) [] := by
  refine xM.of RX7 rfl (by decide) rfl (Nat.le_of_ble_eq_true rfl) ?_
  intro p e s m below meth c A ls hF hr hlk hX hP hD hS hl
  have hx := hF.1
  have hb := hF.2.1
  have hl : lv_has ls 1 [(0, .float v)] := hl
  refine lv_fload_n hx hb dX7_cutOff_0 rfl (lv_at hl 0 rfl) ?_
  refine lv_f2i hx hb dX7_cutOff_1 ?_
  refine lv_iconst (v := 0) hx hb dX7_cutOff_2 (by decide) ?_
  refine lv_sipush (v := 255) hx hb dX7_cutOff_3 (by decide) ?_
  refine xSt (rest := []) (As := [.int (FP.f2i v), .int 0, .int 255]) (ws1 := []) (st1 := [.int (bnd (FP.f2i v) 0 255)]) hF (c_X7_within l D cs tt (FP.f2i v) 0 255) gX7_cutOff_X7_within rfl (n := 3) (by decide +kernel) rfl ⟨⟨rfl, rfl⟩, Nat.le_of_ble_eq_true rfl, Nat.le_of_ble_eq_true rfl⟩ ⟨Nat.le_of_ble_eq_true rfl, Nat.le_of_ble_eq_true rfl⟩ hX hP hD hS [] (by decide) rfl [] rfl rfl hl.1 rfl (Nat.le_of_ble_eq_true rfl) dX7_cutOff_6 rfl rfl (fun Hp locs hP hD hS => ?_)
  exact xri (Q9 := fun _ _ _ _ => True) hF hr hlk hP hD hS dX7_cutOff_9

set_option maxHeartbeats 4000000 in
set_option maxRecDepth 100000 in
theorem c_X7_thrown (l : Launch) (D : va_G) (cs : Nat → ClassId) (tt : Nat → Nat) (o mt qu zz nw ol ne se ke re ve ps di lv bd co bt ma W H md : Nat) (th nc ns is ik dc sc kd wh fa ow tl bf bo : Int32)  : xM l yX7_thrown wsX7_thrown ({ frames := 0, cells := 0, slots := 0, locals := 0 } : Room) D cs tt [.ref o] [(o, .inr (7, mdF th W H mt qu zz nw ol ne se ke nc ns is ik dc sc kd md wh fa re ve ps ow tl di lv bf bo bd co bt ma))] (some (.int th)) [(o, .inr (7, mdF th W H mt qu zz nw ol ne se ke nc ns is ik dc sc kd md wh fa re ve ps ow tl di lv bf bo bd co bt ma))] := by
  refine xM.of RX7 rfl (by decide) rfl (Nat.le_of_ble_eq_true rfl) ?_
  intro p e s m below meth c A ls hF hr hlk hX hP hD hS hl
  have hx := hF.1
  have hb := hF.2.1
  have hl : lv_has ls 1 [(0, .ref o)] := hl
  refine lv_aload_n hx hb dX7_thrown_0 rfl (lv_at hl 0 rfl) ?_
  refine xget (C := RX7) (T := TX7) (N := 34) hF hX hP (by decide +kernel) 0 0 rfl rfl (by decide) (by decide +kernel) rfl dX7_thrown_1 ?_
  exact xri (Q9 := fun _ _ _ _ => True) hF hr hlk hP hD hS dX7_thrown_4

set_option maxHeartbeats 4000000 in
set_option maxRecDepth 100000 in
theorem c_X7_wideOf (l : Launch) (D : va_G) (cs : Nat → ClassId) (tt : Nat → Nat) (o mt qu zz nw ol ne se ke re ve ps di lv bd co bt ma W H md : Nat) (th nc ns is ik dc sc kd wh fa ow tl bf bo : Int32) (p9 : Nat) (hp : p9 < 3) : xM l yX7_wideOf wsX7_wideOf ({ frames := 0, cells := 0, slots := 0, locals := 0 } : Room) D cs tt [.ref o, .int (nI p9)] [(o, .inr (7, mdF th W H mt qu zz nw ol ne se ke nc ns is ik dc sc kd md wh fa re ve ps ow tl di lv bf bo bd co bt ma))] (some (.int (nI (wdt p9 W)))) [(o, .inr (7, mdF th W H mt qu zz nw ol ne se ke nc ns is ik dc sc kd md wh fa re ve ps ow tl di lv bf bo bd co bt ma))] := by
  refine xM.of RX7 rfl (by decide) rfl (Nat.le_of_ble_eq_true rfl) ?_
  intro p e s m below meth c A ls hF hr hlk hX hP hD hS hl
  have hx := hF.1
  have hb := hF.2.1
  have hl : lv_has ls 2 [(0, .ref o), (1, .int (nI p9))] := hl
  refine lv_iload_n hx hb dX7_wideOf_0 rfl (lv_at hl 1 rfl) ?_
  refine lv_if_ne (tgt := 14) hx hb dX7_wideOf_1 (by decide) (fun c_1 => ?_) (fun c_1 => ?_)
  · have hp0 : ¬ p9 = 0 := fun q => c_1 (by rw [q]; rfl)
    refine lv_bipush (v := 8) hx hb dX7_wideOf_14 (by decide) ?_
    refine lv_aload_n hx hb dX7_wideOf_16 rfl (lv_at hl 0 rfl) ?_
    refine xget (C := RX7) (T := TX7) (N := 34) hF hX hP (by decide +kernel) 0 1 rfl rfl (by decide) (by decide +kernel) rfl dX7_wideOf_17 ?_
    refine lv_imul hx hb dX7_wideOf_20 ?_
    refine xrwi (z := (nI (wdt p9 W))) (by unfold wdt; rw [if_neg hp0]; exact pk_mul 8 W) ?_
    exact xri (Q9 := fun _ _ _ _ => True) hF hr hlk hP hD hS dX7_wideOf_21
  · have hp0 : p9 = 0 := by
      rcases Nat.eq_zero_or_pos p9 with q | q
      · exact q
      · exact absurd c_1 (nI_ne0 q (by omega))
    refine lv_bipush (v := 16) hx hb dX7_wideOf_4 (by decide) ?_
    refine lv_aload_n hx hb dX7_wideOf_6 rfl (lv_at hl 0 rfl) ?_
    refine xget (C := RX7) (T := TX7) (N := 34) hF hX hP (by decide +kernel) 0 1 rfl rfl (by decide) (by decide +kernel) rfl dX7_wideOf_7 ?_
    refine lv_imul hx hb dX7_wideOf_10 ?_
    refine lv_goto (tgt := 21) hx hb dX7_wideOf_11 (by decide) ?_
    refine xrwi (z := (nI (wdt p9 W))) (by unfold wdt; rw [if_pos hp0]; exact pk_mul 16 W) ?_
    exact xri (Q9 := fun _ _ _ _ => True) hF hr hlk hP hD hS dX7_wideOf_21

set_option maxHeartbeats 4000000 in
set_option maxRecDepth 100000 in
theorem c_X7_highOf (l : Launch) (D : va_G) (cs : Nat → ClassId) (tt : Nat → Nat) (o mt qu zz nw ol ne se ke re ve ps di lv bd co bt ma W H md : Nat) (th nc ns is ik dc sc kd wh fa ow tl bf bo : Int32) (p9 : Nat) (hp : p9 < 3) : xM l yX7_highOf wsX7_highOf ({ frames := 0, cells := 0, slots := 0, locals := 0 } : Room) D cs tt [.ref o, .int (nI p9)] [(o, .inr (7, mdF th W H mt qu zz nw ol ne se ke nc ns is ik dc sc kd md wh fa re ve ps ow tl di lv bf bo bd co bt ma))] (some (.int (nI (wdt p9 H)))) [(o, .inr (7, mdF th W H mt qu zz nw ol ne se ke nc ns is ik dc sc kd md wh fa re ve ps ow tl di lv bf bo bd co bt ma))] := by
  refine xM.of RX7 rfl (by decide) rfl (Nat.le_of_ble_eq_true rfl) ?_
  intro p e s m below meth c A ls hF hr hlk hX hP hD hS hl
  have hx := hF.1
  have hb := hF.2.1
  have hl : lv_has ls 2 [(0, .ref o), (1, .int (nI p9))] := hl
  refine lv_iload_n hx hb dX7_highOf_0 rfl (lv_at hl 1 rfl) ?_
  refine lv_if_ne (tgt := 14) hx hb dX7_highOf_1 (by decide) (fun c_1 => ?_) (fun c_1 => ?_)
  · have hp0 : ¬ p9 = 0 := fun q => c_1 (by rw [q]; rfl)
    refine lv_bipush (v := 8) hx hb dX7_highOf_14 (by decide) ?_
    refine lv_aload_n hx hb dX7_highOf_16 rfl (lv_at hl 0 rfl) ?_
    refine xget (C := RX7) (T := TX7) (N := 34) hF hX hP (by decide +kernel) 0 2 rfl rfl (by decide) (by decide +kernel) rfl dX7_highOf_17 ?_
    refine lv_imul hx hb dX7_highOf_20 ?_
    refine xrwi (z := (nI (wdt p9 H))) (by unfold wdt; rw [if_neg hp0]; exact pk_mul 8 H) ?_
    exact xri (Q9 := fun _ _ _ _ => True) hF hr hlk hP hD hS dX7_highOf_21
  · have hp0 : p9 = 0 := by
      rcases Nat.eq_zero_or_pos p9 with q | q
      · exact q
      · exact absurd c_1 (nI_ne0 q (by omega))
    refine lv_bipush (v := 16) hx hb dX7_highOf_4 (by decide) ?_
    refine lv_aload_n hx hb dX7_highOf_6 rfl (lv_at hl 0 rfl) ?_
    refine xget (C := RX7) (T := TX7) (N := 34) hF hX hP (by decide +kernel) 0 2 rfl rfl (by decide) (by decide +kernel) rfl dX7_highOf_7 ?_
    refine lv_imul hx hb dX7_highOf_10 ?_
    refine lv_goto (tgt := 21) hx hb dX7_highOf_11 (by decide) ?_
    refine xrwi (z := (nI (wdt p9 H))) (by unfold wdt; rw [if_pos hp0]; exact pk_mul 16 H) ?_
    exact xri (Q9 := fun _ _ _ _ => True) hF hr hlk hP hD hS dX7_highOf_21

set_option maxHeartbeats 4000000 in
set_option maxRecDepth 100000 in
theorem c_X7_place (l : Launch) (D : va_G) (cs : Nat → ClassId) (tt : Nat → Nat) (p9 x y : Nat) (hp : p9 < 3) : xM l yX7_place wsX7_place ({ frames := 0, cells := 0, slots := 0, locals := 0 } : Room) D cs tt [.int (nI p9), .int (nI x), .int (nI y)] [] (some (.int (nI (plc p9 x y)))) [] := by
  refine xM.of RX7 rfl (by decide) rfl (Nat.le_of_ble_eq_true rfl) ?_
  intro p e s m below meth c A ls hF hr hlk hX hP hD hS hl
  have hx := hF.1
  have hb := hF.2.1
  have hl : lv_has ls 3 [(0, .int (nI p9)), (1, .int (nI x)), (2, .int (nI y))] := hl
  refine lv_iload_n hx hb dX7_place_0 rfl (lv_at hl 0 rfl) ?_
  refine lv_if_ne (tgt := 13) hx hb dX7_place_1 (by decide) (fun c_1 => ?_) (fun c_1 => ?_)
  · have hp0 : ¬ p9 = 0 := fun q => c_1 (by rw [q]; rfl)
    refine lv_iload_n hx hb dX7_place_13 rfl (lv_at hl 0 rfl) ?_
    refine lv_iconst (v := 1) hx hb dX7_place_14 (by decide) ?_
    refine lv_icmp_ne (tgt := 31) hx hb dX7_place_15 (by decide) (fun c_15 => ?_) (fun c_15 => ?_)
    · have hp1 : ¬ p9 = 1 := fun q => c_15 (by rw [q]; rfl)
      refine lv_sipush (v := 3840) hx hb dX7_place_31 (by decide) ?_
      refine lv_bipush (v := 32) hx hb dX7_place_34 (by decide) ?_
      refine lv_iload_n hx hb dX7_place_36 rfl (lv_at hl 2 rfl) ?_
      refine lv_imul hx hb dX7_place_37 ?_
      refine lv_iadd hx hb dX7_place_38 ?_
      refine lv_iload_n hx hb dX7_place_39 rfl (lv_at hl 1 rfl) ?_
      refine lv_iadd hx hb dX7_place_40 ?_
      refine xrwi (z := (nI (plc p9 x y))) (by unfold plc; rw [if_neg hp0, if_neg hp1]; rw [show (32 : Int32) * nI y = nI (32 * y) from pk_mul 32 y, show (3840 : Int32) + nI (32 * y) = nI (3840 + 32 * y) from nI_add 3840 (32 * y), nI_add]) ?_
      exact xri (Q9 := fun _ _ _ _ => True) hF hr hlk hP hD hS dX7_place_41
    · have hp1 : p9 = 1 := (nI_eq (b := 1) (by omega) (by decide)).mp c_15
      refine lv_sipush (v := 3072) hx hb dX7_place_18 (by decide) ?_
      refine lv_bipush (v := 32) hx hb dX7_place_21 (by decide) ?_
      refine lv_iload_n hx hb dX7_place_23 rfl (lv_at hl 2 rfl) ?_
      refine lv_imul hx hb dX7_place_24 ?_
      refine lv_iadd hx hb dX7_place_25 ?_
      refine lv_iload_n hx hb dX7_place_26 rfl (lv_at hl 1 rfl) ?_
      refine lv_iadd hx hb dX7_place_27 ?_
      refine lv_goto (tgt := 41) hx hb dX7_place_28 (by decide) ?_
      refine xrwi (z := (nI (plc p9 x y))) (by unfold plc; rw [if_neg hp0, if_pos hp1]; rw [show (32 : Int32) * nI y = nI (32 * y) from pk_mul 32 y, show (3072 : Int32) + nI (32 * y) = nI (3072 + 32 * y) from nI_add 3072 (32 * y), nI_add]) ?_
      exact xri (Q9 := fun _ _ _ _ => True) hF hr hlk hP hD hS dX7_place_41
  · have hp0 : p9 = 0 := by
      rcases Nat.eq_zero_or_pos p9 with q | q
      · exact q
      · exact absurd c_1 (nI_ne0 q (by omega))
    refine lv_bipush (v := 64) hx hb dX7_place_4 (by decide) ?_
    refine lv_iload_n hx hb dX7_place_6 rfl (lv_at hl 2 rfl) ?_
    refine lv_imul hx hb dX7_place_7 ?_
    refine lv_iload_n hx hb dX7_place_8 rfl (lv_at hl 1 rfl) ?_
    refine lv_iadd hx hb dX7_place_9 ?_
    refine lv_goto (tgt := 41) hx hb dX7_place_10 (by decide) ?_
    refine xrwi (z := (nI (plc p9 x y))) (by unfold plc; rw [if_pos hp0]; exact nIma 64 y x) ?_
    exact xri (Q9 := fun _ _ _ _ => True) hF hr hlk hP hD hS dX7_place_41

set_option maxHeartbeats 4000000 in
set_option maxRecDepth 100000 in
theorem c_X7_isFull (l : Launch) (D : va_G) (cs : Nat → ClassId) (tt : Nat → Nat) (o mt qu zz nw ol ne se ke re ve ps di lv bd co bt ma W H md : Nat) (th nc ns is ik dc sc kd wh fa ow tl bf bo : Int32)  : xM l yX7_isFull wsX7_isFull ({ frames := 0, cells := 0, slots := 0, locals := 0 } : Room) D cs tt [.ref o] [(o, .inr (7, mdF th W H mt qu zz nw ol ne se ke nc ns is ik dc sc kd md wh fa re ve ps ow tl di lv bf bo bd co bt ma))] (some (.int (isf kd W H md))) [(o, .inr (7, mdF th W H mt qu zz nw ol ne se ke nc ns is ik dc sc kd md wh fa re ve ps ow tl di lv bf bo bd co bt ma))] := by
  refine xM.of RX7 rfl (by decide) rfl (Nat.le_of_ble_eq_true rfl) ?_
  intro p e s m below meth c A ls hF hr hlk hX hP hD hS hl
  have hx := hF.1
  have hb := hF.2.1
  have hl : lv_has ls 1 [(0, .ref o)] := hl
  refine lv_aload_n hx hb dX7_isFull_0 rfl (lv_at hl 0 rfl) ?_
  refine xget (C := RX7) (T := TX7) (N := 34) hF hX hP (by decide +kernel) 0 17 rfl rfl (by decide) (by decide +kernel) rfl dX7_isFull_1 ?_
  refine lv_if_eq (tgt := 23) hx hb dX7_isFull_4 (by decide) (fun c_4 => ?_) (fun c_4 => ?_)
  · refine lv_iconst (v := 1) hx hb dX7_isFull_23 (by decide) ?_
    refine lv_goto (tgt := 28) hx hb dX7_isFull_24 (by decide) ?_
    refine xrwi (z := (isf kd W H md)) (by simp [isf, c_4]) ?_
    exact xrz hF hr hlk hP hD hS (narB (isf01 _ _ _ _)) dX7_isFull_28
  · refine lv_aload_n hx hb dX7_isFull_7 rfl (lv_at hl 0 rfl) ?_
    refine xget (C := RX7) (T := TX7) (N := 34) hF hX hP (by decide +kernel) 0 18 rfl rfl (by decide) (by decide +kernel) rfl dX7_isFull_8 ?_
    refine lv_aload_n hx hb dX7_isFull_11 rfl (lv_at hl 0 rfl) ?_
    refine xget (C := RX7) (T := TX7) (N := 34) hF hX hP (by decide +kernel) 0 1 rfl rfl (by decide) (by decide +kernel) rfl dX7_isFull_12 ?_
    refine lv_aload_n hx hb dX7_isFull_15 rfl (lv_at hl 0 rfl) ?_
    refine xget (C := RX7) (T := TX7) (N := 34) hF hX hP (by decide +kernel) 0 2 rfl rfl (by decide) (by decide +kernel) rfl dX7_isFull_16 ?_
    refine lv_imul hx hb dX7_isFull_19 ?_
    refine lv_icmp_ne (tgt := 27) hx hb dX7_isFull_20 (by decide) (fun c_20 => ?_) (fun c_20 => ?_)
    · refine lv_iconst (v := 0) hx hb dX7_isFull_27 (by decide) ?_
      refine xrwi (z := (isf kd W H md)) (by simp [isf, c_4, c_20]) ?_
      exact xrz hF hr hlk hP hD hS (narB (isf01 _ _ _ _)) dX7_isFull_28
    · refine lv_iconst (v := 1) hx hb dX7_isFull_23 (by decide) ?_
      refine lv_goto (tgt := 28) hx hb dX7_isFull_24 (by decide) ?_
      refine xrwi (z := (isf kd W H md)) (by simp [isf, c_4, c_20]) ?_
      exact xrz hF hr hlk hP hD hS (narB (isf01 _ _ _ _)) dX7_isFull_28

set_option maxHeartbeats 4000000 in
set_option maxRecDepth 100000 in
theorem c_X7_moved (l : Launch) (D : va_G) (cs : Nat → ClassId) (tt : Nat → Nat) (v d r : Int32)  : xM l yX7_moved wsX7_moved ({ frames := 0, cells := 0, slots := 0, locals := 0 } : Room) D cs tt [.int v, .int d, .int r] [] (some (.int (mvd v d r))) [] := by
  refine xM.of RX7 rfl (by decide) rfl (Nat.le_of_ble_eq_true rfl) ?_
  intro p e s m below meth c A ls hF hr hlk hX hP hD hS hl
  have hx := hF.1
  have hb := hF.2.1
  have hl : lv_has ls 4 [(0, .int v), (1, .int d), (2, .int r)] := hl
  refine lv_iload_n hx hb dX7_moved_0 rfl (lv_at hl 0 rfl) ?_
  refine lv_iload_n hx hb dX7_moved_1 rfl (lv_at hl 1 rfl) ?_
  refine lv_iadd hx hb dX7_moved_2 ?_
  refine lv_istore_n (lv' := [(3, .int (v + d)), (0, .int v), (1, .int d), (2, .int r)]) hx hb dX7_moved_3 rfl hl (by decide) rfl (fun ls hl => ?_)
  refine lv_iload_n hx hb dX7_moved_4 rfl (lv_at hl 0 rfl) ?_
  refine lv_bipush (v := 16) hx hb dX7_moved_5 (by decide) ?_
  refine lv_iload_n hx hb dX7_moved_7 rfl (lv_at hl 3 rfl) ?_
  refine lv_imul hx hb dX7_moved_8 ?_
  refine lv_iconst (v := 1) hx hb dX7_moved_9 (by decide) ?_
  refine lv_isub hx hb dX7_moved_10 ?_
  refine lv_icmp_le (tgt := 23) hx hb dX7_moved_11 (by decide) (fun c_11 => ?_) (fun c_11 => ?_)
  · refine lv_iload_n hx hb dX7_moved_23 rfl (lv_at hl 0 rfl) ?_
    refine lv_istore_n (lv' := [(3, .int (v + d)), (0, .int v), (1, .int d), (2, .int r)]) hx hb dX7_moved_24 rfl hl (by decide) rfl (fun ls hl => ?_)
    refine lv_iload_n hx hb dX7_moved_25 rfl (lv_at hl 0 rfl) ?_
    refine lv_bipush (v := (-16)) hx hb dX7_moved_26 (by decide) ?_
    refine lv_iload_n hx hb dX7_moved_28 rfl (lv_at hl 3 rfl) ?_
    refine lv_imul hx hb dX7_moved_29 ?_
    refine lv_icmp_ge (tgt := 42) hx hb dX7_moved_30 (by decide) (fun c_30 => ?_) (fun c_30 => ?_)
    · refine lv_iload_n hx hb dX7_moved_42 rfl (lv_at hl 0 rfl) ?_
      refine xrwi (z := (mvd v d r)) (by simp [mvd, mvd0, c_11, c_30]) ?_
      exact xri (Q9 := fun _ _ _ _ => True) hF hr hlk hP hD hS dX7_moved_43
    · refine lv_iload_n hx hb dX7_moved_33 rfl (lv_at hl 0 rfl) ?_
      refine lv_bipush (v := 32) hx hb dX7_moved_34 (by decide) ?_
      refine lv_iload_n hx hb dX7_moved_36 rfl (lv_at hl 3 rfl) ?_
      refine lv_imul hx hb dX7_moved_37 ?_
      refine lv_iadd hx hb dX7_moved_38 ?_
      refine lv_goto (tgt := 43) hx hb dX7_moved_39 (by decide) ?_
      refine xrwi (z := (mvd v d r)) (by simp [mvd, mvd0, c_11, c_30]) ?_
      exact xri (Q9 := fun _ _ _ _ => True) hF hr hlk hP hD hS dX7_moved_43
  · refine lv_iload_n hx hb dX7_moved_14 rfl (lv_at hl 0 rfl) ?_
    refine lv_bipush (v := 32) hx hb dX7_moved_15 (by decide) ?_
    refine lv_iload_n hx hb dX7_moved_17 rfl (lv_at hl 3 rfl) ?_
    refine lv_imul hx hb dX7_moved_18 ?_
    refine lv_isub hx hb dX7_moved_19 ?_
    refine lv_goto (tgt := 24) hx hb dX7_moved_20 (by decide) ?_
    refine lv_istore_n (lv' := [(3, .int ((v + d) - (32 * r))), (0, .int v), (1, .int d), (2, .int r)]) hx hb dX7_moved_24 rfl hl (by decide) rfl (fun ls hl => ?_)
    refine lv_iload_n hx hb dX7_moved_25 rfl (lv_at hl 0 rfl) ?_
    refine lv_bipush (v := (-16)) hx hb dX7_moved_26 (by decide) ?_
    refine lv_iload_n hx hb dX7_moved_28 rfl (lv_at hl 3 rfl) ?_
    refine lv_imul hx hb dX7_moved_29 ?_
    refine lv_icmp_ge (tgt := 42) hx hb dX7_moved_30 (by decide) (fun c_30 => ?_) (fun c_30 => ?_)
    · refine lv_iload_n hx hb dX7_moved_42 rfl (lv_at hl 0 rfl) ?_
      refine xrwi (z := (mvd v d r)) (by simp [mvd, mvd0, c_11, c_30]) ?_
      exact xri (Q9 := fun _ _ _ _ => True) hF hr hlk hP hD hS dX7_moved_43
    · refine lv_iload_n hx hb dX7_moved_33 rfl (lv_at hl 0 rfl) ?_
      refine lv_bipush (v := 32) hx hb dX7_moved_34 (by decide) ?_
      refine lv_iload_n hx hb dX7_moved_36 rfl (lv_at hl 3 rfl) ?_
      refine lv_imul hx hb dX7_moved_37 ?_
      refine lv_iadd hx hb dX7_moved_38 ?_
      refine lv_goto (tgt := 43) hx hb dX7_moved_39 (by decide) ?_
      refine xrwi (z := (mvd v d r)) (by simp [mvd, mvd0, c_11, c_30]) ?_
      exact xri (Q9 := fun _ _ _ _ => True) hF hr hlk hP hD hS dX7_moved_43

set_option maxHeartbeats 4000000 in
set_option maxRecDepth 100000 in
theorem c_X7_clearVectors (l : Launch) (D : va_G) (cs : Nat → ClassId) (tt : Nat → Nat) (o mt qu zz nw ol ne se ke re ve ps di lv bd co bt ma W H md : Nat) (th nc ns is ik dc sc kd wh fa ow tl bf bo : Int32) (V : Nat → Int32)  : xM l yX7_clearVectors wsX7_clearVectors ({ frames := 0, cells := 0, slots := 0, locals := 0 } : Room) D cs tt [.ref o] [(o, .inr (7, mdF th W H mt qu zz nw ol ne se ke nc ns is ik dc sc kd md wh fa re ve ps ow tl di lv bf bo bd co bt ma)), (ve, .inl (cs 0, 4, .inl V))] none [(o, .inr (7, mdF th W H mt qu zz nw ol ne se ke nc ns is ik dc sc kd md wh fa re ve ps ow tl di lv bf bo bd co bt ma)), (ve, .inl (cs 0, 4, .inl (fun _ => 0)))] := by
  refine xM.of RX7 rfl (by decide) rfl (Nat.le_of_ble_eq_true rfl) ?_
  intro p e s m below meth c A ls hF hr hlk hX hP hD hS hl
  have hx := hF.1
  have hb := hF.2.1
  have hl : lv_has ls 2 [(0, .ref o)] := hl
  refine lv_iconst (v := 0) hx hb dX7_clearVectors_0 (by decide) ?_
  refine lv_istore_n (lv' := [(1, .int 0), (0, .ref o)]) hx hb dX7_clearVectors_1 rfl hl (by decide) rfl (fun ls hl => ?_)
  have loop_2 : ∀ (k2 : Nat) (i : Nat), 4 - i < k2 → i ≤ 4 → ∀ (Hp : Heap) (locs : List Loc) (ls : Array Slot), va_P D vwCl [(o, .inr (7, mdF th W H mt qu zz nw ol ne se ke nc ns is ik dc sc kd md wh fa re ve ps ow tl di lv bf bo bd co bt ma)), (ve, .inl (cs 0, 4, .inl (filTo V 0 i)))] Hp → va_D A [(o, .inr (7, mdF th W H mt qu zz nw ol ne se ke nc ns is ik dc sc kd md wh fa re ve ps ow tl di lv bf bo bd co bt ma)), (ve, .inl (cs 0, 4, .inl (filTo V 0 i)))] → va_S A s.heap Hp locs → lv_has ls 2 [(0, .ref o), (1, .int (nI i))] → xW p l e ({ frames := 0, cells := 0, slots := 0, locals := 0 } : Room) s m ([.ref o] : List Value).toArray below meth c Hp locs 0 0 (MQ below (xE D A none [(o, .inr (7, mdF th W H mt qu zz nw ol ne se ke nc ns is ik dc sc kd md wh fa re ve ps ow tl di lv bf bo bd co bt ma)), (ve, .inl (cs 0, 4, .inl (fun _ => 0)))]) ([.ref o] : List Value).toArray s 0 0 A) (F0 m 2 ls []) := by
    intro k2
    induction k2 with
    | zero => intro i h9; omega
    | succ k2 ih_2 =>
      intro i hk2 hi Hp locs ls hP hD hS hl
      refine lv_iload_n hx hb dX7_clearVectors_2 rfl (lv_at hl 1 rfl) ?_
      refine lv_iconst (v := 4) hx hb dX7_clearVectors_3 (by decide) ?_
      refine lv_icmp_ge (tgt := 20) hx hb dX7_clearVectors_4 (by decide) (fun c_4 => ?_) (fun c_4 => ?_)
      · have e9 : 4 ≤ i := nIle (a := 4) (b := i) rfl rfl (by decide) (by omega) c_4
        have hP1 : va_P D vwCl [(o, .inr (7, mdF th W H mt qu zz nw ol ne se ke nc ns is ik dc sc kd md wh fa re ve ps ow tl di lv bf bo bd co bt ma)), (ve, .inl (cs 0, 4, .inl (fun _ => 0)))] Hp := xcongP (g := (fun _ => 0)) hP 1 rfl hD (fun j hj => by simp [filTo, Nat.lt_of_lt_of_le hj e9])
        have hD : va_D A [(o, .inr (7, mdF th W H mt qu zz nw ol ne se ke nc ns is ik dc sc kd md wh fa re ve ps ow tl di lv bf bo bd co bt ma)), (ve, .inl (cs 0, 4, .inl (fun _ => 0)))] := xcongD (g := (fun _ => 0)) 1 rfl hD
        have hP := hP1
        exact xrv hF hr hlk hP hD hS dX7_clearVectors_20
      · have hlt : i < 4 := nInle (a := 4) (b := i) rfl rfl (by decide) (by omega) c_4
        refine lv_aload_n hx hb dX7_clearVectors_7 rfl (lv_at hl 0 rfl) ?_
        refine xget (C := RX7) (T := TX7) (N := 34) hF hX hP (by decide +kernel) 0 22 rfl rfl (by decide) (by decide +kernel) rfl dX7_clearVectors_8 ?_
        refine lv_iload_n hx hb dX7_clearVectors_11 rfl (lv_at hl 1 rfl) ?_
        refine lv_iconst (v := 0) hx hb dX7_clearVectors_12 (by decide) ?_
        refine xast (k := i) (ws1 := [(o, .inr (7, mdF th W H mt qu zz nw ol ne se ke nc ns is ik dc sc kd md wh fa re ve ps ow tl di lv bf bo bd co bt ma)), (ve, .inl (cs 0, 4, .inl (filTo V 0 (i + 1))))]) hF hX hP hD hS 1 rfl (nI_clamp (by omega)) (vp_in_nI (by omega) (by decide)) dX7_clearVectors_13 (congrArg (fun z9 => ([(o, .inr (7, mdF th W H mt qu zz nw ol ne se ke nc ns is ik dc sc kd md wh fa re ve ps ow tl di lv bf bo bd co bt ma)), (ve, .inl (cs 0, 4, .inl z9))] : va_W)) (filTo_s V 0 i)) (fun Hp locs hP hD hS => ?_)
        refine lv_iinc (v := (nI (i + 1))) (lv' := [(1, .int (nI (i + 1))), (0, .ref o)]) hx hb dX7_clearVectors_14 hl (k := 1) rfl (nI_1 i) (by decide) rfl (fun ls hl => ?_)
        refine lv_goto (tgt := 2) hx hb dX7_clearVectors_17 (by decide) ?_
        exact ih_2 (i + 1) (by omega) (by omega) _ _ _ hP hD hS (lv_sub hl [1, 0] rfl)
  have hP0 := xcongP (g := filTo V 0 0) hP 1 rfl hD (fun j _ => by simp [filTo])
  have hD0 := xcongD (g := filTo V 0 0) 1 rfl hD
  exact loop_2 (4 - 0 + 1) 0 (Nat.lt_succ_self _) (by decide) _ _ _ hP0 hD0 hS (lv_sub hl [1, 0] rfl)

set_option maxHeartbeats 4000000 in
set_option maxRecDepth 100000 in
theorem c_X7_clearPasts (l : Launch) (D : va_G) (cs : Nat → ClassId) (tt : Nat → Nat) (o mt qu zz nw ol ne se ke re ve ps di lv bd co bt ma W H md : Nat) (th nc ns is ik dc sc kd wh fa ow tl bf bo : Int32) (P : Nat → Int32)  : xM l yX7_clearPasts wsX7_clearPasts ({ frames := 0, cells := 0, slots := 0, locals := 0 } : Room) D cs tt [.ref o] [(o, .inr (7, mdF th W H mt qu zz nw ol ne se ke nc ns is ik dc sc kd md wh fa re ve ps ow tl di lv bf bo bd co bt ma)), (ps, .inl (cs 0, 3, .inl P))] none [(o, .inr (7, mdF th W H mt qu zz nw ol ne se ke nc ns is ik dc sc kd md wh fa re ve ps ow tl di lv bf bo bd co bt ma)), (ps, .inl (cs 0, 3, .inl (fun _ => 1024)))] := by
  refine xM.of RX7 rfl (by decide) rfl (Nat.le_of_ble_eq_true rfl) ?_
  intro p e s m below meth c A ls hF hr hlk hX hP hD hS hl
  have hx := hF.1
  have hb := hF.2.1
  have hl : lv_has ls 2 [(0, .ref o)] := hl
  refine lv_iconst (v := 0) hx hb dX7_clearPasts_0 (by decide) ?_
  refine lv_istore_n (lv' := [(1, .int 0), (0, .ref o)]) hx hb dX7_clearPasts_1 rfl hl (by decide) rfl (fun ls hl => ?_)
  have loop_2 : ∀ (k2 : Nat) (i : Nat), 3 - i < k2 → i ≤ 3 → ∀ (Hp : Heap) (locs : List Loc) (ls : Array Slot), va_P D vwCl [(o, .inr (7, mdF th W H mt qu zz nw ol ne se ke nc ns is ik dc sc kd md wh fa re ve ps ow tl di lv bf bo bd co bt ma)), (ps, .inl (cs 0, 3, .inl (filTo P 1024 i)))] Hp → va_D A [(o, .inr (7, mdF th W H mt qu zz nw ol ne se ke nc ns is ik dc sc kd md wh fa re ve ps ow tl di lv bf bo bd co bt ma)), (ps, .inl (cs 0, 3, .inl (filTo P 1024 i)))] → va_S A s.heap Hp locs → lv_has ls 2 [(0, .ref o), (1, .int (nI i))] → xW p l e ({ frames := 0, cells := 0, slots := 0, locals := 0 } : Room) s m ([.ref o] : List Value).toArray below meth c Hp locs 0 0 (MQ below (xE D A none [(o, .inr (7, mdF th W H mt qu zz nw ol ne se ke nc ns is ik dc sc kd md wh fa re ve ps ow tl di lv bf bo bd co bt ma)), (ps, .inl (cs 0, 3, .inl (fun _ => 1024)))]) ([.ref o] : List Value).toArray s 0 0 A) (F0 m 2 ls []) := by
    intro k2
    induction k2 with
    | zero => intro i h9; omega
    | succ k2 ih_2 =>
      intro i hk2 hi Hp locs ls hP hD hS hl
      refine lv_iload_n hx hb dX7_clearPasts_2 rfl (lv_at hl 1 rfl) ?_
      refine lv_iconst (v := 3) hx hb dX7_clearPasts_3 (by decide) ?_
      refine lv_icmp_ge (tgt := 22) hx hb dX7_clearPasts_4 (by decide) (fun c_4 => ?_) (fun c_4 => ?_)
      · have e9 : 3 ≤ i := nIle (a := 3) (b := i) rfl rfl (by decide) (by omega) c_4
        have hP1 : va_P D vwCl [(o, .inr (7, mdF th W H mt qu zz nw ol ne se ke nc ns is ik dc sc kd md wh fa re ve ps ow tl di lv bf bo bd co bt ma)), (ps, .inl (cs 0, 3, .inl (fun _ => 1024)))] Hp := xcongP (g := (fun _ => 1024)) hP 1 rfl hD (fun j hj => by simp [filTo, Nat.lt_of_lt_of_le hj e9])
        have hD : va_D A [(o, .inr (7, mdF th W H mt qu zz nw ol ne se ke nc ns is ik dc sc kd md wh fa re ve ps ow tl di lv bf bo bd co bt ma)), (ps, .inl (cs 0, 3, .inl (fun _ => 1024)))] := xcongD (g := (fun _ => 1024)) 1 rfl hD
        have hP := hP1
        exact xrv hF hr hlk hP hD hS dX7_clearPasts_22
      · have hlt : i < 3 := nInle (a := 3) (b := i) rfl rfl (by decide) (by omega) c_4
        refine lv_aload_n hx hb dX7_clearPasts_7 rfl (lv_at hl 0 rfl) ?_
        refine xget (C := RX7) (T := TX7) (N := 34) hF hX hP (by decide +kernel) 0 23 rfl rfl (by decide) (by decide +kernel) rfl dX7_clearPasts_8 ?_
        refine lv_iload_n hx hb dX7_clearPasts_11 rfl (lv_at hl 1 rfl) ?_
        refine lv_sipush (v := 1024) hx hb dX7_clearPasts_12 (by decide) ?_
        refine xast (k := i) (ws1 := [(o, .inr (7, mdF th W H mt qu zz nw ol ne se ke nc ns is ik dc sc kd md wh fa re ve ps ow tl di lv bf bo bd co bt ma)), (ps, .inl (cs 0, 3, .inl (filTo P 1024 (i + 1))))]) hF hX hP hD hS 1 rfl (nI_clamp (by omega)) (vp_in_nI (by omega) (by decide)) dX7_clearPasts_15 (congrArg (fun z9 => ([(o, .inr (7, mdF th W H mt qu zz nw ol ne se ke nc ns is ik dc sc kd md wh fa re ve ps ow tl di lv bf bo bd co bt ma)), (ps, .inl (cs 0, 3, .inl z9))] : va_W)) (filTo_s P 1024 i)) (fun Hp locs hP hD hS => ?_)
        refine lv_iinc (v := (nI (i + 1))) (lv' := [(1, .int (nI (i + 1))), (0, .ref o)]) hx hb dX7_clearPasts_16 hl (k := 1) rfl (nI_1 i) (by decide) rfl (fun ls hl => ?_)
        refine lv_goto (tgt := 2) hx hb dX7_clearPasts_19 (by decide) ?_
        exact ih_2 (i + 1) (by omega) (by omega) _ _ _ hP hD hS (lv_sub hl [1, 0] rfl)
  have hP0 := xcongP (g := filTo P 1024 0) hP 1 rfl hD (fun j _ => by simp [filTo])
  have hD0 := xcongD (g := filTo P 1024 0) 1 rfl hD
  exact loop_2 (3 - 0 + 1) 0 (Nat.lt_succ_self _) (by decide) _ _ _ hP0 hD0 hS (lv_sub hl [1, 0] rfl)

set_option maxHeartbeats 4000000 in
set_option maxRecDepth 100000 in
theorem c_X7_forget (l : Launch) (D : va_G) (cs : Nat → ClassId) (tt : Nat → Nat) (o mt qu zz nw ol ne se ke re ve ps di lv bd co bt ma W H md : Nat) (th nc ns is ik dc sc kd wh fa ow tl bf bo : Int32) (Di Lv : Nat → Int32)  : xM l yX7_forget wsX7_forget ({ frames := 0, cells := 0, slots := 0, locals := 0 } : Room) D cs tt [.ref o] [(o, .inr (7, mdF th W H mt qu zz nw ol ne se ke nc ns is ik dc sc kd md wh fa re ve ps ow tl di lv bf bo bd co bt ma)), (di, .inl (cs 1, 2, .inl Di)), (lv, .inl (cs 0, 384, .inl Lv))] none [(o, .inr (7, mdF th W H mt qu zz nw ol ne se ke nc ns is ik dc sc kd md wh fa re ve ps 0 0 di lv bf bo bd co bt ma)), (di, .inl (cs 1, 2, .inl (fun _ => 0))), (lv, .inl (cs 0, 384, .inl (fun _ => 0)))] := by
  refine xM.of RX7 rfl (by decide) rfl (Nat.le_of_ble_eq_true rfl) ?_
  intro p e s m below meth c A ls hF hr hlk hX hP hD hS hl
  have hx := hF.1
  have hb := hF.2.1
  have hl : lv_has ls 2 [(0, .ref o)] := hl
  refine lv_aload_n hx hb dX7_forget_0 rfl (lv_at hl 0 rfl) ?_
  refine lv_iconst (v := 0) hx hb dX7_forget_1 (by decide) ?_
  refine xputf (C := RX7) (T := TX7) (N := 34) (ws1 := [(o, .inr (7, mdF th W H mt qu zz nw ol ne se ke nc ns is ik dc sc kd md wh fa re ve ps 0 tl di lv bf bo bd co bt ma)), (di, .inl (cs 1, 2, .inl Di)), (lv, .inl (cs 0, 384, .inl Lv))]) hF hX hP hD hS (by decide +kernel) tyX7 tyX7_ok nmX7 0 24 rfl rfl (by decide) (by decide +kernel) rfl (rfl) (rfl) (Nat.le_of_ble_eq_true rfl) dX7_forget_2 rfl (fun Hp locs hP hD hS => ?_)
  refine lv_aload_n hx hb dX7_forget_5 rfl (lv_at hl 0 rfl) ?_
  refine lv_iconst (v := 0) hx hb dX7_forget_6 (by decide) ?_
  refine xputf (C := RX7) (T := TX7) (N := 34) (ws1 := [(o, .inr (7, mdF th W H mt qu zz nw ol ne se ke nc ns is ik dc sc kd md wh fa re ve ps 0 0 di lv bf bo bd co bt ma)), (di, .inl (cs 1, 2, .inl Di)), (lv, .inl (cs 0, 384, .inl Lv))]) hF hX hP hD hS (by decide +kernel) tyX7 tyX7_ok nmX7 0 25 rfl rfl (by decide) (by decide +kernel) rfl (rfl) (rfl) (Nat.le_of_ble_eq_true rfl) dX7_forget_7 rfl (fun Hp locs hP hD hS => ?_)
  refine lv_aload_n hx hb dX7_forget_10 rfl (lv_at hl 0 rfl) ?_
  refine xget (C := RX7) (T := TX7) (N := 34) hF hX hP (by decide +kernel) 0 26 rfl rfl (by decide) (by decide +kernel) rfl dX7_forget_11 ?_
  refine lv_iconst (v := 0) hx hb dX7_forget_14 (by decide) ?_
  refine lv_iconst (v := 0) hx hb dX7_forget_15 (by decide) ?_
  refine xzast (k := 0) (ws1 := [(o, .inr (7, mdF th W H mt qu zz nw ol ne se ke nc ns is ik dc sc kd md wh fa re ve ps 0 0 di lv bf bo bd co bt ma)), (di, .inl (cs 1, 2, .inl (upd Di 0 0))), (lv, .inl (cs 0, 384, .inl Lv))]) hF hX hP hD hS 1 rfl (rfl) (vp_in_nI (n := 0) (by decide) (by decide)) (rfl) dX7_forget_16 rfl (fun Hp locs hP hD hS => ?_)
  refine lv_aload_n hx hb dX7_forget_17 rfl (lv_at hl 0 rfl) ?_
  refine xget (C := RX7) (T := TX7) (N := 34) hF hX hP (by decide +kernel) 0 26 rfl rfl (by decide) (by decide +kernel) rfl dX7_forget_18 ?_
  refine lv_iconst (v := 1) hx hb dX7_forget_21 (by decide) ?_
  refine lv_iconst (v := 0) hx hb dX7_forget_22 (by decide) ?_
  refine xzast (k := 1) (ws1 := [(o, .inr (7, mdF th W H mt qu zz nw ol ne se ke nc ns is ik dc sc kd md wh fa re ve ps 0 0 di lv bf bo bd co bt ma)), (di, .inl (cs 1, 2, .inl (upd (upd Di 0 0) 1 0))), (lv, .inl (cs 0, 384, .inl Lv))]) hF hX hP hD hS 1 rfl (rfl) (vp_in_nI (n := 1) (by decide) (by decide)) (rfl) dX7_forget_23 rfl (fun Hp locs hP hD hS => ?_)
  refine lv_iconst (v := 0) hx hb dX7_forget_24 (by decide) ?_
  refine lv_istore_n (lv' := [(1, .int 0), (0, .ref o)]) hx hb dX7_forget_25 rfl hl (by decide) rfl (fun ls hl => ?_)
  have loop_26 : ∀ (k26 : Nat) (i : Nat), 384 - i < k26 → i ≤ 384 → ∀ (Hp : Heap) (locs : List Loc) (ls : Array Slot), va_P D vwCl [(o, .inr (7, mdF th W H mt qu zz nw ol ne se ke nc ns is ik dc sc kd md wh fa re ve ps 0 0 di lv bf bo bd co bt ma)), (di, .inl (cs 1, 2, .inl (upd (upd Di 0 0) 1 0))), (lv, .inl (cs 0, 384, .inl (filTo Lv 0 i)))] Hp → va_D A [(o, .inr (7, mdF th W H mt qu zz nw ol ne se ke nc ns is ik dc sc kd md wh fa re ve ps 0 0 di lv bf bo bd co bt ma)), (di, .inl (cs 1, 2, .inl (upd (upd Di 0 0) 1 0))), (lv, .inl (cs 0, 384, .inl (filTo Lv 0 i)))] → va_S A s.heap Hp locs → lv_has ls 2 [(0, .ref o), (1, .int (nI i))] → xW p l e ({ frames := 0, cells := 0, slots := 0, locals := 0 } : Room) s m ([.ref o] : List Value).toArray below meth c Hp locs 0 0 (MQ below (xE D A none [(o, .inr (7, mdF th W H mt qu zz nw ol ne se ke nc ns is ik dc sc kd md wh fa re ve ps 0 0 di lv bf bo bd co bt ma)), (di, .inl (cs 1, 2, .inl (fun _ => 0))), (lv, .inl (cs 0, 384, .inl (fun _ => 0)))]) ([.ref o] : List Value).toArray s 0 0 A) (F0 m 26 ls []) := by
    intro k26
    induction k26 with
    | zero => intro i h9; omega
    | succ k26 ih_26 =>
      intro i hk26 hi Hp locs ls hP hD hS hl
      refine lv_iload_n hx hb dX7_forget_26 rfl (lv_at hl 1 rfl) ?_
      refine lv_sipush (v := 384) hx hb dX7_forget_27 (by decide) ?_
      refine lv_icmp_ge (tgt := 46) hx hb dX7_forget_30 (by decide) (fun c_30 => ?_) (fun c_30 => ?_)
      · have e9 : 384 ≤ i := nIle (a := 384) (b := i) rfl rfl (by decide) (by omega) c_30
        have hP1 : va_P D vwCl [(o, .inr (7, mdF th W H mt qu zz nw ol ne se ke nc ns is ik dc sc kd md wh fa re ve ps 0 0 di lv bf bo bd co bt ma)), (di, .inl (cs 1, 2, .inl (upd (upd Di 0 0) 1 0))), (lv, .inl (cs 0, 384, .inl (fun _ => 0)))] Hp := xcongP (g := (fun _ => 0)) hP 2 rfl hD (fun j hj => by simp [filTo, Nat.lt_of_lt_of_le hj e9])
        have hD : va_D A [(o, .inr (7, mdF th W H mt qu zz nw ol ne se ke nc ns is ik dc sc kd md wh fa re ve ps 0 0 di lv bf bo bd co bt ma)), (di, .inl (cs 1, 2, .inl (upd (upd Di 0 0) 1 0))), (lv, .inl (cs 0, 384, .inl (fun _ => 0)))] := xcongD (g := (fun _ => 0)) 2 rfl hD
        have hP := hP1
        have hP1 : va_P D vwCl [(o, .inr (7, mdF th W H mt qu zz nw ol ne se ke nc ns is ik dc sc kd md wh fa re ve ps 0 0 di lv bf bo bd co bt ma)), (di, .inl (cs 1, 2, .inl (fun _ => 0))), (lv, .inl (cs 0, 384, .inl (fun _ => 0)))] Hp := xcongP (g := (fun _ => 0)) hP 1 rfl hD (two0)
        have hD : va_D A [(o, .inr (7, mdF th W H mt qu zz nw ol ne se ke nc ns is ik dc sc kd md wh fa re ve ps 0 0 di lv bf bo bd co bt ma)), (di, .inl (cs 1, 2, .inl (fun _ => 0))), (lv, .inl (cs 0, 384, .inl (fun _ => 0)))] := xcongD (g := (fun _ => 0)) 1 rfl hD
        have hP := hP1
        exact xrv hF hr hlk hP hD hS dX7_forget_46
      · have hlt : i < 384 := nInle (a := 384) (b := i) rfl rfl (by decide) (by omega) c_30
        refine lv_aload_n hx hb dX7_forget_33 rfl (lv_at hl 0 rfl) ?_
        refine xget (C := RX7) (T := TX7) (N := 34) hF hX hP (by decide +kernel) 0 27 rfl rfl (by decide) (by decide +kernel) rfl dX7_forget_34 ?_
        refine lv_iload_n hx hb dX7_forget_37 rfl (lv_at hl 1 rfl) ?_
        refine lv_iconst (v := 0) hx hb dX7_forget_38 (by decide) ?_
        refine xast (k := i) (ws1 := [(o, .inr (7, mdF th W H mt qu zz nw ol ne se ke nc ns is ik dc sc kd md wh fa re ve ps 0 0 di lv bf bo bd co bt ma)), (di, .inl (cs 1, 2, .inl (upd (upd Di 0 0) 1 0))), (lv, .inl (cs 0, 384, .inl (filTo Lv 0 (i + 1))))]) hF hX hP hD hS 2 rfl (nI_clamp (by omega)) (vp_in_nI (by omega) (by decide)) dX7_forget_39 (congrArg (fun z9 => ([(o, .inr (7, mdF th W H mt qu zz nw ol ne se ke nc ns is ik dc sc kd md wh fa re ve ps 0 0 di lv bf bo bd co bt ma)), (di, .inl (cs 1, 2, .inl (upd (upd Di 0 0) 1 0))), (lv, .inl (cs 0, 384, .inl z9))] : va_W)) (filTo_s Lv 0 i)) (fun Hp locs hP hD hS => ?_)
        refine lv_iinc (v := (nI (i + 1))) (lv' := [(1, .int (nI (i + 1))), (0, .ref o)]) hx hb dX7_forget_40 hl (k := 1) rfl (nI_1 i) (by decide) rfl (fun ls hl => ?_)
        refine lv_goto (tgt := 26) hx hb dX7_forget_43 (by decide) ?_
        exact ih_26 (i + 1) (by omega) (by omega) _ _ _ hP hD hS (lv_sub hl [1, 0] rfl)
  have hP0 := xcongP (g := filTo Lv 0 0) hP 2 rfl hD (fun j _ => by simp [filTo])
  have hD0 := xcongD (g := filTo Lv 0 0) 2 rfl hD
  exact loop_26 (384 - 0 + 1) 0 (Nat.lt_succ_self _) (by decide) _ _ _ hP0 hD0 hS (lv_sub hl [1, 0] rfl)

set_option maxHeartbeats 4000000 in
set_option maxRecDepth 100000 in
theorem c_X7_show (l : Launch) (D : va_G) (cs : Nat → ClassId) (tt : Nat → Nat) (o mt qu zz nw ol ne se ke re ve ps di lv bd co bt ma W H md : Nat) (th nc ns is ik dc sc kd wh fa ow tl bf bo : Int32) (px : Nat) (gs gx : Nat → Int32)  : xM l yX7_show wsX7_show ({ frames := 0, cells := 0, slots := 0, locals := 0 } : Room) D cs tt [.ref o, .ref px] [(o, .inr (7, mdF th W H mt qu zz nw ol ne se ke nc ns is ik dc sc kd md wh fa re ve ps ow tl di lv bf bo bd co bt ma)), (se, .inl (cs 0, 4608, .inl gs)), (px, .inl (cs 0, 4608, .inl gx))] none [(o, .inr (7, mdF th W H mt qu zz nw ol ne se ke nc ns 1 ik dc (sc + 1) kd md wh fa re ve ps ow tl di lv bf bo bd co bt ma)), (se, .inl (cs 0, 4608, .inl gx)), (px, .inl (cs 0, 4608, .inl gx))] := by
  refine xM.of RX7 rfl (by decide) rfl (Nat.le_of_ble_eq_true rfl) ?_
  intro p e s m below meth c A ls hF hr hlk hX hP hD hS hl
  have hx := hF.1
  have hb := hF.2.1
  have hl : lv_has ls 3 [(0, .ref o), (1, .ref px)] := hl
  refine lv_iconst (v := 0) hx hb dX7_show_0 (by decide) ?_
  refine lv_istore_n (lv' := [(2, .int 0), (0, .ref o), (1, .ref px)]) hx hb dX7_show_1 rfl hl (by decide) rfl (fun ls hl => ?_)
  have loop_2 : ∀ (k2 : Nat) (i : Nat), 4608 - i < k2 → i ≤ 4608 → ∀ (Hp : Heap) (locs : List Loc) (ls : Array Slot), va_P D vwCl [(o, .inr (7, mdF th W H mt qu zz nw ol ne se ke nc ns is ik dc sc kd md wh fa re ve ps ow tl di lv bf bo bd co bt ma)), (se, .inl (cs 0, 4608, .inl (ovr gs gx i))), (px, .inl (cs 0, 4608, .inl gx))] Hp → va_D A [(o, .inr (7, mdF th W H mt qu zz nw ol ne se ke nc ns is ik dc sc kd md wh fa re ve ps ow tl di lv bf bo bd co bt ma)), (se, .inl (cs 0, 4608, .inl (ovr gs gx i))), (px, .inl (cs 0, 4608, .inl gx))] → va_S A s.heap Hp locs → lv_has ls 3 [(0, .ref o), (1, .ref px), (2, .int (nI i))] → xW p l e ({ frames := 0, cells := 0, slots := 0, locals := 0 } : Room) s m ([.ref o, .ref px] : List Value).toArray below meth c Hp locs 0 0 (MQ below (xE D A none [(o, .inr (7, mdF th W H mt qu zz nw ol ne se ke nc ns 1 ik dc (sc + 1) kd md wh fa re ve ps ow tl di lv bf bo bd co bt ma)), (se, .inl (cs 0, 4608, .inl gx)), (px, .inl (cs 0, 4608, .inl gx))]) ([.ref o, .ref px] : List Value).toArray s 0 0 A) (F0 m 2 ls []) := by
    intro k2
    induction k2 with
    | zero => intro i h9; omega
    | succ k2 ih_2 =>
      intro i hk2 hi Hp locs ls hP hD hS hl
      refine lv_iload_n hx hb dX7_show_2 rfl (lv_at hl 2 rfl) ?_
      refine lv_sipush (v := 4608) hx hb dX7_show_3 (by decide) ?_
      refine lv_icmp_ge (tgt := 24) hx hb dX7_show_6 (by decide) (fun c_6 => ?_) (fun c_6 => ?_)
      · have e9 : 4608 ≤ i := nIle (a := 4608) (b := i) rfl rfl (by decide) (by omega) c_6
        have hP1 : va_P D vwCl [(o, .inr (7, mdF th W H mt qu zz nw ol ne se ke nc ns is ik dc sc kd md wh fa re ve ps ow tl di lv bf bo bd co bt ma)), (se, .inl (cs 0, 4608, .inl gx)), (px, .inl (cs 0, 4608, .inl gx))] Hp := xcongP (g := gx) hP 1 rfl hD (fun j hj => by simp [ovr, Nat.lt_of_lt_of_le hj e9])
        have hD : va_D A [(o, .inr (7, mdF th W H mt qu zz nw ol ne se ke nc ns is ik dc sc kd md wh fa re ve ps ow tl di lv bf bo bd co bt ma)), (se, .inl (cs 0, 4608, .inl gx)), (px, .inl (cs 0, 4608, .inl gx))] := xcongD (g := gx) 1 rfl hD
        have hP := hP1
        refine lv_aload_n hx hb dX7_show_24 rfl (lv_at hl 0 rfl) ?_
        refine lv_iconst (v := 1) hx hb dX7_show_25 (by decide) ?_
        refine xputf (C := RX7) (T := TX7) (N := 34) (ws1 := [(o, .inr (7, mdF th W H mt qu zz nw ol ne se ke nc ns 1 ik dc sc kd md wh fa re ve ps ow tl di lv bf bo bd co bt ma)), (se, .inl (cs 0, 4608, .inl gx)), (px, .inl (cs 0, 4608, .inl gx))]) hF hX hP hD hS (by decide +kernel) tyX7 tyX7_ok nmX7 0 13 rfl rfl (by decide) (by decide +kernel) rfl (rfl) (rfl) (Nat.le_of_ble_eq_true rfl) dX7_show_26 rfl (fun Hp locs hP hD hS => ?_)
        refine lv_aload_n hx hb dX7_show_29 rfl (lv_at hl 0 rfl) ?_
        refine lv_dup hx hb dX7_show_30 rfl ?_
        refine xget (C := RX7) (T := TX7) (N := 34) hF hX hP (by decide +kernel) 0 16 rfl rfl (by decide) (by decide +kernel) rfl dX7_show_31 ?_
        refine lv_iconst (v := 1) hx hb dX7_show_34 (by decide) ?_
        refine lv_iadd hx hb dX7_show_35 ?_
        refine xputf (C := RX7) (T := TX7) (N := 34) (ws1 := [(o, .inr (7, mdF th W H mt qu zz nw ol ne se ke nc ns 1 ik dc (sc + 1) kd md wh fa re ve ps ow tl di lv bf bo bd co bt ma)), (se, .inl (cs 0, 4608, .inl gx)), (px, .inl (cs 0, 4608, .inl gx))]) hF hX hP hD hS (by decide +kernel) tyX7 tyX7_ok nmX7 0 16 rfl rfl (by decide) (by decide +kernel) rfl (rfl) (rfl) (Nat.le_of_ble_eq_true rfl) dX7_show_36 rfl (fun Hp locs hP hD hS => ?_)
        exact xrv hF hr hlk hP hD hS dX7_show_39
      · have hlt : i < 4608 := nInle (a := 4608) (b := i) rfl rfl (by decide) (by omega) c_6
        refine lv_aload_n hx hb dX7_show_9 rfl (lv_at hl 0 rfl) ?_
        refine xget (C := RX7) (T := TX7) (N := 34) hF hX hP (by decide +kernel) 0 9 rfl rfl (by decide) (by decide +kernel) rfl dX7_show_10 ?_
        refine lv_iload_n hx hb dX7_show_13 rfl (lv_at hl 2 rfl) ?_
        refine lv_aload_n hx hb dX7_show_14 rfl (lv_at hl 1 rfl) ?_
        refine lv_iload_n hx hb dX7_show_15 rfl (lv_at hl 2 rfl) ?_
        refine xald (k := i) hF hX hP 2 rfl (nI_clamp (by omega)) (vp_in_nI (by omega) (by decide)) dX7_show_16 ?_
        refine xast (k := i) (ws1 := [(o, .inr (7, mdF th W H mt qu zz nw ol ne se ke nc ns is ik dc sc kd md wh fa re ve ps ow tl di lv bf bo bd co bt ma)), (se, .inl (cs 0, 4608, .inl (ovr gs gx (i + 1)))), (px, .inl (cs 0, 4608, .inl gx))]) hF hX hP hD hS 1 rfl (nI_clamp (by omega)) (vp_in_nI (by omega) (by decide)) dX7_show_17 (congrArg (fun z9 => ([(o, .inr (7, mdF th W H mt qu zz nw ol ne se ke nc ns is ik dc sc kd md wh fa re ve ps ow tl di lv bf bo bd co bt ma)), (se, .inl (cs 0, 4608, .inl z9)), (px, .inl (cs 0, 4608, .inl gx))] : va_W)) (ovr_s gs gx i rfl)) (fun Hp locs hP hD hS => ?_)
        refine lv_iinc (v := (nI (i + 1))) (lv' := [(2, .int (nI (i + 1))), (0, .ref o), (1, .ref px)]) hx hb dX7_show_18 hl (k := 2) rfl (nI_1 i) (by decide) rfl (fun ls hl => ?_)
        refine lv_goto (tgt := 2) hx hb dX7_show_21 (by decide) ?_
        exact ih_2 (i + 1) (by omega) (by omega) _ _ _ hP hD hS (lv_sub hl [1, 2, 0] rfl)
  have hP := xeqP hP (congrArg (fun z9 => ([(o, .inr (7, mdF th W H mt qu zz nw ol ne se ke nc ns is ik dc sc kd md wh fa re ve ps ow tl di lv bf bo bd co bt ma)), (se, .inl (cs 0, 4608, .inl z9)), (px, .inl (cs 0, 4608, .inl gx))] : va_W)) ((ovr_0 gs gx).symm))
  have hD := xeqD hD (congrArg (fun z9 => ([(o, .inr (7, mdF th W H mt qu zz nw ol ne se ke nc ns is ik dc sc kd md wh fa re ve ps ow tl di lv bf bo bd co bt ma)), (se, .inl (cs 0, 4608, .inl z9)), (px, .inl (cs 0, 4608, .inl gx))] : va_W)) ((ovr_0 gs gx).symm))
  exact loop_2 (4608 - 0 + 1) 0 (Nat.lt_succ_self _) (by decide) _ _ _ hP hD hS (lv_sub hl [1, 2, 0] rfl)

set_option maxHeartbeats 4000000 in
set_option maxRecDepth 100000 in
theorem c_X7_factor (l : Launch) (D : va_G) (cs : Nat → ClassId) (tt : Nat → Nat) (o mt qu zz nw ol ne se ke re ve ps di lv bd co bt ma W H md : Nat) (th nc ns is ik dc sc kd wh fa ow tl bf bo : Int32) (u x : Nat) (hu : u < 8) (hx0 : x < 8) : xM l yX7_factor wsX7_factor ({ frames := 0, cells := 0, slots := 0, locals := 0 } : Room) D cs tt [.ref o, .int (nI u), .int (nI x)] [(o, .inr (7, mdF th W H mt qu zz nw ol ne se ke nc ns is ik dc sc kd md wh fa re ve ps ow tl di lv bf bo bd co bt ma)), (qu, .inl (cs 0, 9, .inl qrt))] (some (.int (wvf u x))) [(o, .inr (7, mdF th W H mt qu zz nw ol ne se ke nc ns is ik dc sc kd md wh fa re ve ps ow tl di lv bf bo bd co bt ma)), (qu, .inl (cs 0, 9, .inl qrt))] := by
  refine xM.of RX7 rfl (by decide) rfl (Nat.le_of_ble_eq_true rfl) ?_
  intro p e s m below meth c A ls hF hr hlk hX hP hD hS hl
  have hx := hF.1
  have hb := hF.2.1
  have hl : lv_has ls 4 [(0, .ref o), (1, .int (nI u)), (2, .int (nI x))] := hl
  have hP32 : (2 * x + 1) * u % 32 < 32 := Nat.mod_lt _ (by decide)
  have hbig : (2 * x + 1) * u < 2147483648 := Nat.lt_of_le_of_lt (Nat.mul_le_mul (show 2 * x + 1 ≤ 15 by omega) (show u ≤ 7 by omega)) (by decide)
  have hw9 := fct_w _ hP32
  refine lv_iload_n hx hb dX7_factor_0 rfl (lv_at hl 1 rfl) ?_
  refine lv_if_ne (tgt := 8) hx hb dX7_factor_1 (by decide) (fun c_1 => ?_) (fun c_1 => ?_)
  · have hu0 : ¬ u = 0 := fun q => c_1 (by rw [q]; rfl)
    refine lv_iconst (v := 2) hx hb dX7_factor_8 (by decide) ?_
    refine lv_iload_n hx hb dX7_factor_9 rfl (lv_at hl 2 rfl) ?_
    refine lv_imul hx hb dX7_factor_10 ?_
    refine lv_iconst (v := 1) hx hb dX7_factor_11 (by decide) ?_
    refine lv_iadd hx hb dX7_factor_12 ?_
    refine lv_iload_n hx hb dX7_factor_13 rfl (lv_at hl 1 rfl) ?_
    refine lv_imul hx hb dX7_factor_14 ?_
    refine lv_bipush (v := 32) hx hb dX7_factor_15 (by decide) ?_
    refine lv_irem hx hb dX7_factor_17 (by decide) ?_
    refine xrwi (z := nI ((2 * x + 1) * u % 32)) (by rw [show (2 : Int32) * nI x = nI (2 * x) from pk_mul 2 x, nI_1, pk_mul]; exact pk_rem hbig (by decide) (by decide)) ?_
    refine lv_istore_n (lv' := [(3, .int (nI ((2 * x + 1) * u % 32))), (0, .ref o), (1, .int (nI u)), (2, .int (nI x))]) hx hb dX7_factor_18 rfl hl (by decide) rfl (fun ls hl => ?_)
    refine lv_iload_n hx hb dX7_factor_19 rfl (lv_at hl 0 rfl) ?_
    refine lv_bipush (v := 16) hx hb dX7_factor_20 (by decide) ?_
    refine lv_icmp_le (tgt := 32) hx hb dX7_factor_22 (by decide) (fun c_22 => ?_) (fun c_22 => ?_)
    · have h16 : (2 * x + 1) * u % 32 ≤ 16 := nIle (b := 16) rfl rfl (by omega) (by decide) c_22
      refine lv_iload_n hx hb dX7_factor_32 rfl (lv_at hl 0 rfl) ?_
      refine lv_istore_n (lv' := [(3, .int (nI ((2 * x + 1) * u % 32))), (0, .ref o), (1, .int (nI u)), (2, .int (nI x))]) hx hb dX7_factor_33 rfl hl (by decide) rfl (fun ls hl => ?_)
      refine lv_iload_n hx hb dX7_factor_34 rfl (lv_at hl 0 rfl) ?_
      refine lv_bipush (v := 8) hx hb dX7_factor_35 (by decide) ?_
      refine lv_icmp_le (tgt := 53) hx hb dX7_factor_37 (by decide) (fun c_37 => ?_) (fun c_37 => ?_)
      · have h8 : (2 * x + 1) * u % 32 ≤ 8 := nIle (b := 8) rfl rfl (by omega) (by decide) c_37
        refine lv_aload_n hx hb dX7_factor_53 rfl (lv_at hl 1 rfl) ?_
        refine xget (C := RX7) (T := TX7) (N := 34) hF hX hP (by decide +kernel) 0 4 rfl rfl (by decide) (by decide +kernel) rfl dX7_factor_54 ?_
        refine lv_iload_n hx hb dX7_factor_57 rfl (lv_at hl 0 rfl) ?_
        refine xald (k := (2 * x + 1) * u % 32) hF hX hP 1 rfl (nI_clamp (by omega)) (vp_in_nI (by omega) (by decide)) dX7_factor_58 ?_
        refine xrwi (z := (wvf u x)) (by unfold wvf; rw [if_neg hu0, ← hw9]; unfold fct; rw [if_pos h16, if_pos h8]) ?_
        exact xri (Q9 := fun _ _ _ _ => True) hF hr hlk hP hD hS dX7_factor_59
      · have h8 : 8 < (2 * x + 1) * u % 32 := nInle (b := 8) rfl rfl (by omega) (by decide) c_37
        refine lv_aload_n hx hb dX7_factor_40 rfl (lv_at hl 1 rfl) ?_
        refine xget (C := RX7) (T := TX7) (N := 34) hF hX hP (by decide +kernel) 0 4 rfl rfl (by decide) (by decide +kernel) rfl dX7_factor_41 ?_
        refine lv_bipush (v := 16) hx hb dX7_factor_44 (by decide) ?_
        refine lv_iload_n hx hb dX7_factor_46 rfl (lv_at hl 0 rfl) ?_
        refine lv_isub hx hb dX7_factor_47 ?_
        refine xrwi (z := nI (16 - (2 * x + 1) * u % 32)) (pk_sub (a := 16) (by omega)) ?_
        refine xald (k := 16 - (2 * x + 1) * u % 32) hF hX hP 1 rfl (nI_clamp (by omega)) (vp_in_nI (by omega) (by decide)) dX7_factor_48 ?_
        refine lv_ineg hx hb dX7_factor_49 ?_
        refine lv_goto (tgt := 59) hx hb dX7_factor_50 (by decide) ?_
        refine xrwi (z := (wvf u x)) (by unfold wvf; rw [if_neg hu0, ← hw9]; unfold fct; rw [if_pos h16, if_neg (by omega)]) ?_
        exact xri (Q9 := fun _ _ _ _ => True) hF hr hlk hP hD hS dX7_factor_59
    · have h16 : 16 < (2 * x + 1) * u % 32 := nInle (b := 16) rfl rfl (by omega) (by decide) c_22
      refine lv_bipush (v := 32) hx hb dX7_factor_25 (by decide) ?_
      refine lv_iload_n hx hb dX7_factor_27 rfl (lv_at hl 0 rfl) ?_
      refine lv_isub hx hb dX7_factor_28 ?_
      refine xrwi (z := nI (32 - (2 * x + 1) * u % 32)) (pk_sub (a := 32) (by omega)) ?_
      refine lv_goto (tgt := 33) hx hb dX7_factor_29 (by decide) ?_
      refine lv_istore_n (lv' := [(3, .int (nI (32 - (2 * x + 1) * u % 32))), (0, .ref o), (1, .int (nI u)), (2, .int (nI x))]) hx hb dX7_factor_33 rfl hl (by decide) rfl (fun ls hl => ?_)
      refine lv_iload_n hx hb dX7_factor_34 rfl (lv_at hl 0 rfl) ?_
      refine lv_bipush (v := 8) hx hb dX7_factor_35 (by decide) ?_
      refine lv_icmp_le (tgt := 53) hx hb dX7_factor_37 (by decide) (fun c_37 => ?_) (fun c_37 => ?_)
      · have h8 : 32 - (2 * x + 1) * u % 32 ≤ 8 := nIle (b := 8) rfl rfl (by omega) (by decide) c_37
        refine lv_aload_n hx hb dX7_factor_53 rfl (lv_at hl 1 rfl) ?_
        refine xget (C := RX7) (T := TX7) (N := 34) hF hX hP (by decide +kernel) 0 4 rfl rfl (by decide) (by decide +kernel) rfl dX7_factor_54 ?_
        refine lv_iload_n hx hb dX7_factor_57 rfl (lv_at hl 0 rfl) ?_
        refine xald (k := 32 - (2 * x + 1) * u % 32) hF hX hP 1 rfl (nI_clamp (by omega)) (vp_in_nI (by omega) (by decide)) dX7_factor_58 ?_
        refine xrwi (z := (wvf u x)) (by unfold wvf; rw [if_neg hu0, ← hw9]; unfold fct; rw [if_neg (by omega), if_pos h8]) ?_
        exact xri (Q9 := fun _ _ _ _ => True) hF hr hlk hP hD hS dX7_factor_59
      · have h8 : 8 < 32 - (2 * x + 1) * u % 32 := nInle (b := 8) rfl rfl (by omega) (by decide) c_37
        refine lv_aload_n hx hb dX7_factor_40 rfl (lv_at hl 1 rfl) ?_
        refine xget (C := RX7) (T := TX7) (N := 34) hF hX hP (by decide +kernel) 0 4 rfl rfl (by decide) (by decide +kernel) rfl dX7_factor_41 ?_
        refine lv_bipush (v := 16) hx hb dX7_factor_44 (by decide) ?_
        refine lv_iload_n hx hb dX7_factor_46 rfl (lv_at hl 0 rfl) ?_
        refine lv_isub hx hb dX7_factor_47 ?_
        refine xrwi (z := nI (16 - (32 - (2 * x + 1) * u % 32))) (pk_sub (a := 16) (by omega)) ?_
        refine xald (k := 16 - (32 - (2 * x + 1) * u % 32)) hF hX hP 1 rfl (nI_clamp (by omega)) (vp_in_nI (by omega) (by decide)) dX7_factor_48 ?_
        refine lv_ineg hx hb dX7_factor_49 ?_
        refine lv_goto (tgt := 59) hx hb dX7_factor_50 (by decide) ?_
        refine xrwi (z := (wvf u x)) (by unfold wvf; rw [if_neg hu0, ← hw9]; unfold fct; rw [if_neg (by omega), if_neg (by omega)]) ?_
        exact xri (Q9 := fun _ _ _ _ => True) hF hr hlk hP hD hS dX7_factor_59
  · have hu0 : u = 0 := by
      rcases Nat.eq_zero_or_pos u with q | q
      · exact q
      · exact absurd c_1 (nI_ne0 q (by omega))
    refine lv_sipush (v := 724) hx hb dX7_factor_4 (by decide) ?_
    refine xrwi (z := (wvf u x)) (by unfold wvf; rw [if_pos hu0]) ?_
    exact xri (Q9 := fun _ _ _ _ => True) hF hr hlk hP hD hS dX7_factor_7
