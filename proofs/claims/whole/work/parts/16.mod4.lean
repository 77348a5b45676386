
/-! ===== the reference: blocks put ===== -/
/-- where block k of square md begins -/
def bL (W md k : Nat) : Nat := if k < 4 then md % W * 16 + k % 2 * 8 else md % W * 8
def bT (W md k : Nat) : Nat := if k < 4 then md / W * 16 + k / 2 * 8 else md / W * 8
def bO (k : Nat) : Nat := if k < 4 then 0 else if k = 4 then 3072 else 3840
def bS (k : Nat) : Nat := if k < 4 then 64 else 32
/-- what is put: of one for itself, of another -/
def mlO (W md k : Nat) (mf : Nat → Int32) : Nat → Nat → Int32 := fun x y => bnd (mf ((y - bT W md k) * 8 + (x - bL W md k))) 0 255
def mlF (W md k : Nat) (mf : Nat → Int32) (F : Nat → Nat → Int32) : Nat → Nat → Int32 := fun x y => bnd (mf ((y - bT W md k) * 8 + (x - bL W md k)) + F x y) 0 255
def mpB (g : Nat → Int32) (W md k : Nat) (V : Nat → Nat → Int32) (n : Nat) : Nat → Int32 := blkTo g (bO k) (bS k) (bL W md k) (bT W md k) 8 n V
theorem b_in {W H md : Nat} (hw : 1 ≤ W) (hm : md < W * H) (k : Nat) (hk : k < 6) : bL W md k + 8 ≤ (if k < 4 then 16 else 8) * W ∧ bT W md k + 8 ≤ (if k < 4 then 16 else 8) * H := by
  have h16 := sq_in (sd := 16) hw hm
  have h8 := sq_in (sd := 8) hw hm
  unfold bL bT
  by_cases h : k < 4
  · simp only [if_pos h]
    omega
  · simp only [if_neg h]
    exact h8

set_option maxHeartbeats 4000000 in
set_option maxRecDepth 100000 in
theorem c_X7_putBlock0O (l : Launch) (D : va_G) (cs : Nat → ClassId) (tt : Nat → Nat) (o mt qu zz nw ol ne se ke re ve ps di lv bd co bt ma W H md : Nat) (th nc ns is ik dc sc kd wh fa tl bf bo : Int32) (fw bw : Int32) (gw mf : Nat → Int32) (hw : 1 ≤ W) (hw4 : W ≤ 4) (hh : 1 ≤ H) (hh3 : H ≤ 3) (hmd : md < W * H) : xM l yX7_putBlock wsX7_putBlock ({ frames := 4, cells := 0, slots := 0, locals := 104 } : Room) D cs tt [.ref o, .int 0, .int fw, .int bw] [(o, .inr (7, mdF th W H mt qu zz nw ol ne se ke nc ns is ik dc sc kd md wh fa re ve ps 1 tl di lv bf bo bd co bt ma)), (nw, .inl (cs 0, 4608, .inl gw)), (ma, .inl (cs 0, 64, .inl mf))] none [(o, .inr (7, mdF th W H mt qu zz nw ol ne se ke nc ns is ik dc sc kd md wh fa re ve ps 1 tl di lv bf bo bd co bt ma)), (nw, .inl (cs 0, 4608, .inl (mpB gw W md 0 (mlO W md 0 mf) (64)))), (ma, .inl (cs 0, 64, .inl mf))] := by
  refine xM.of RX7 rfl (by decide) rfl (Nat.le_of_ble_eq_true rfl) ?_
  intro p e s m below meth c A ls hF hr hlk hX hP hD hS hl
  have hx := hF.1
  have hb := hF.2.1
  have hl : lv_has ls 10 [(0, .ref o), (1, .int 0), (2, .int fw), (3, .int bw)] := hl
  have hm4 : md < 4096 := Nat.lt_of_lt_of_le hmd (Nat.le_trans (Nat.mul_le_mul hw4 hh3) (by decide))
  have hb9 := b_in hw hmd 0 (by decide)
  have hbl : (bL W md 0) + 8 ≤ 16 * W := hb9.1
  have hbt : (bT W md 0) + 8 ≤ 16 * H := hb9.2
  have hsL : bL W md 0 = bL W md 0 := rfl
  refine lv_iload_n hx hb dX7_putBlock_0 rfl (lv_at hl 1 rfl) ?_
  refine xSt (rest := []) (As := [.int 0]) (ws1 := [(o, .inr (7, mdF th W H mt qu zz nw ol ne se ke nc ns is ik dc sc kd md wh fa re ve ps 1 tl di lv bf bo bd co bt ma)), (nw, .inl (cs 0, 4608, .inl gw)), (ma, .inl (cs 0, 64, .inl mf))]) (st1 := [.int (pln 0)]) hF (c_X7_planeOf l D cs tt 0) gX7_putBlock_X7_planeOf rfl (n := 1) (by decide +kernel) rfl ⟨⟨rfl, rfl⟩, Nat.le_of_ble_eq_true rfl, Nat.le_of_ble_eq_true rfl⟩ ⟨Nat.le_of_ble_eq_true rfl, Nat.le_of_ble_eq_true rfl⟩ hX hP hD hS [] (by decide) rfl [] rfl rfl hl.1 rfl (Nat.le_of_ble_eq_true rfl) dX7_putBlock_1 rfl rfl (fun Hp locs hP hD hS => ?_)
  refine xrwi (z := 0) (by decide) ?_
  refine lv_istore (lv' := [(4, .int 0), (0, .ref o), (1, .int 0), (2, .int fw), (3, .int bw)]) hx hb dX7_putBlock_4 hl (by decide) rfl (fun ls hl => ?_)
  refine lv_iload hx hb dX7_putBlock_6 (lv_at hl 0 rfl) ?_
  refine lv_if_ne (tgt := 33) hx hb dX7_putBlock_8 (by decide) (fun c_8 => absurd (by decide) c_8) (fun _ => ?_)
  refine lv_bipush (v := 16) hx hb dX7_putBlock_11 (by decide) ?_
  refine lv_aload_n hx hb dX7_putBlock_13 rfl (lv_at hl 1 rfl) ?_
  refine xget (C := RX7) (T := TX7) (N := 34) hF hX hP (by decide +kernel) 0 18 rfl rfl (by decide) (by decide +kernel) rfl dX7_putBlock_14 ?_
  refine lv_aload_n hx hb dX7_putBlock_17 rfl (lv_at hl 1 rfl) ?_
  refine xget (C := RX7) (T := TX7) (N := 34) hF hX hP (by decide +kernel) 0 1 rfl rfl (by decide) (by decide +kernel) rfl dX7_putBlock_18 ?_
  refine lv_irem hx hb dX7_putBlock_21 (nI_ne0 (by omega) (by omega)) ?_
  refine xrwi (z := nI (md % W)) (pk_rem (by omega) (by omega) (by omega)) ?_
  refine lv_imul hx hb dX7_putBlock_22 ?_
  refine lv_bipush (v := 8) hx hb dX7_putBlock_23 (by decide) ?_
  refine lv_iload_n hx hb dX7_putBlock_25 rfl (lv_at hl 2 rfl) ?_
  refine lv_iconst (v := 2) hx hb dX7_putBlock_26 (by decide) ?_
  refine lv_irem hx hb dX7_putBlock_27 (by decide) ?_
  refine xrwi (z := 0) (by decide) ?_
  refine lv_imul hx hb dX7_putBlock_28 ?_
  refine xrwi (z := 0) (by decide) ?_
  refine lv_iadd hx hb dX7_putBlock_29 ?_
  refine lv_goto (tgt := 45) hx hb dX7_putBlock_30 (by decide) ?_
  refine xrwi (z := nI (bL W md 0)) (by rw [show (16 : Int32) * nI (md % W) = nI (16 * (md % W)) from pk_mul 16 _, show nI (16 * (md % W)) + 0 = nI (16 * (md % W) + 0) from nI_add _ 0]; exact congrArg nI (show 16 * (md % W) + 0 = bL W md 0 by show _ = md % W * 16 + 0; omega)) ?_
  refine lv_istore (lv' := [(5, .int (nI (bL W md 0))), (4, .int 0), (0, .ref o), (1, .int 0), (2, .int fw), (3, .int bw)]) hx hb dX7_putBlock_45 hl (by decide) rfl (fun ls hl => ?_)
  refine lv_iload hx hb dX7_putBlock_47 (lv_at hl 1 rfl) ?_
  refine lv_if_ne (tgt := 74) hx hb dX7_putBlock_49 (by decide) (fun c_49 => absurd (by decide) c_49) (fun _ => ?_)
  refine lv_bipush (v := 16) hx hb dX7_putBlock_52 (by decide) ?_
  refine lv_aload_n hx hb dX7_putBlock_54 rfl (lv_at hl 2 rfl) ?_
  refine xget (C := RX7) (T := TX7) (N := 34) hF hX hP (by decide +kernel) 0 18 rfl rfl (by decide) (by decide +kernel) rfl dX7_putBlock_55 ?_
  refine lv_aload_n hx hb dX7_putBlock_58 rfl (lv_at hl 2 rfl) ?_
  refine xget (C := RX7) (T := TX7) (N := 34) hF hX hP (by decide +kernel) 0 1 rfl rfl (by decide) (by decide +kernel) rfl dX7_putBlock_59 ?_
  refine lv_idiv hx hb dX7_putBlock_62 (nI_ne0 (by omega) (by omega)) ?_
  refine xrwi (z := nI (md / W)) (pk_div (by omega) (by omega) (by omega)) ?_
  refine lv_imul hx hb dX7_putBlock_63 ?_
  refine lv_bipush (v := 8) hx hb dX7_putBlock_64 (by decide) ?_
  refine lv_iload_n hx hb dX7_putBlock_66 rfl (lv_at hl 3 rfl) ?_
  refine lv_iconst (v := 2) hx hb dX7_putBlock_67 (by decide) ?_
  refine lv_idiv hx hb dX7_putBlock_68 (by decide) ?_
  refine xrwi (z := 0) (by decide) ?_
  refine lv_imul hx hb dX7_putBlock_69 ?_
  refine xrwi (z := 0) (by decide) ?_
  refine lv_iadd hx hb dX7_putBlock_70 ?_
  refine lv_goto (tgt := 86) hx hb dX7_putBlock_71 (by decide) ?_
  refine xrwi (z := nI (bT W md 0)) (by rw [show (16 : Int32) * nI (md / W) = nI (16 * (md / W)) from pk_mul 16 _, show nI (16 * (md / W)) + 0 = nI (16 * (md / W) + 0) from nI_add _ 0]; exact congrArg nI (show 16 * (md / W) + 0 = bT W md 0 by show _ = md / W * 16 + 0; omega)) ?_
  refine lv_istore (lv' := [(6, .int (nI (bT W md 0))), (5, .int (nI (bL W md 0))), (4, .int 0), (0, .ref o), (1, .int 0), (2, .int fw), (3, .int bw)]) hx hb dX7_putBlock_86 hl (by decide) rfl (fun ls hl => ?_)
  refine lv_iconst (v := 0) hx hb dX7_putBlock_88 (by decide) ?_
  refine lv_istore (lv' := [(7, .int 0), (6, .int (nI (bT W md 0))), (5, .int (nI (bL W md 0))), (4, .int 0), (0, .ref o), (1, .int 0), (2, .int fw), (3, .int bw)]) hx hb dX7_putBlock_89 hl (by decide) rfl (fun ls hl => ?_)
  have loop_91 : ∀ (k91 : Nat) (y : Nat), 8 - y < k91 → y ≤ 8 → ∀ (Hp : Heap) (locs : List Loc) (ls : Array Slot), va_P D vwCl [(o, .inr (7, mdF th W H mt qu zz nw ol ne se ke nc ns is ik dc sc kd md wh fa re ve ps 1 tl di lv bf bo bd co bt ma)), (nw, .inl (cs 0, 4608, .inl (mpB gw W md 0 (mlO W md 0 mf) (y * 8)))), (ma, .inl (cs 0, 64, .inl mf))] Hp → va_D A [(o, .inr (7, mdF th W H mt qu zz nw ol ne se ke nc ns is ik dc sc kd md wh fa re ve ps 1 tl di lv bf bo bd co bt ma)), (nw, .inl (cs 0, 4608, .inl (mpB gw W md 0 (mlO W md 0 mf) (y * 8)))), (ma, .inl (cs 0, 64, .inl mf))] → va_S A s.heap Hp locs → lv_has ls 10 [(0, .ref o), (2, .int fw), (3, .int bw), (4, .int 0), (5, .int (nI (bL W md 0))), (6, .int (nI (bT W md 0))), (7, .int (nI y))] → xW p l e ({ frames := 4, cells := 0, slots := 0, locals := 104 } : Room) s m ([.ref o, .int 0, .int fw, .int bw] : List Value).toArray below meth c Hp locs 0 0 (MQ below (xE D A none [(o, .inr (7, mdF th W H mt qu zz nw ol ne se ke nc ns is ik dc sc kd md wh fa re ve ps 1 tl di lv bf bo bd co bt ma)), (nw, .inl (cs 0, 4608, .inl (mpB gw W md 0 (mlO W md 0 mf) (64)))), (ma, .inl (cs 0, 64, .inl mf))]) ([.ref o, .int 0, .int fw, .int bw] : List Value).toArray s 0 0 A) (F0 m 91 ls []) := by
    intro k91
    induction k91 with
    | zero => intro y h9; omega
    | succ k91 ih_91 =>
      intro y hk91 hy9 Hp locs ls hP hD hS hl
      refine lv_iload hx hb dX7_putBlock_91 (lv_at hl 6 rfl) ?_
      refine lv_bipush (v := 8) hx hb dX7_putBlock_93 (by decide) ?_
      refine lv_icmp_ge (tgt := 199) hx hb dX7_putBlock_95 (by decide) (fun c_95 => ?_) (fun c_95 => ?_)
      · have ey : y = 8 := by have := nIle (a := 8) (b := y) rfl rfl (by decide) (by omega) c_95; omega
        have hP := xeqP hP (congrArg (fun z9 => ([(o, .inr (7, mdF th W H mt qu zz nw ol ne se ke nc ns is ik dc sc kd md wh fa re ve ps 1 tl di lv bf bo bd co bt ma)), (nw, .inl (cs 0, 4608, .inl z9)), (ma, .inl (cs 0, 64, .inl mf))] : va_W)) (congrArg (mpB gw W md 0 (mlO W md 0 mf)) (show y * 8 = 64 by omega)))
        have hD := xeqD hD (congrArg (fun z9 => ([(o, .inr (7, mdF th W H mt qu zz nw ol ne se ke nc ns is ik dc sc kd md wh fa re ve ps 1 tl di lv bf bo bd co bt ma)), (nw, .inl (cs 0, 4608, .inl z9)), (ma, .inl (cs 0, 64, .inl mf))] : va_W)) (congrArg (mpB gw W md 0 (mlO W md 0 mf)) (show y * 8 = 64 by omega)))
        exact xrv hF hr hlk hP hD hS dX7_putBlock_199
      · have hyl : y < 8 := nInle (a := 8) (b := y) rfl rfl (by decide) (by omega) c_95
        refine lv_iconst (v := 0) hx hb dX7_putBlock_98 (by decide) ?_
        refine lv_istore (lv' := [(8, .int 0), (0, .ref o), (2, .int fw), (3, .int bw), (4, .int 0), (5, .int (nI (bL W md 0))), (6, .int (nI (bT W md 0))), (7, .int (nI y))]) hx hb dX7_putBlock_99 hl (by decide) rfl (fun ls hl => ?_)
        have loop_101 : ∀ (k101 : Nat) (x : Nat), 8 - x < k101 → x ≤ 8 → ∀ (Hp : Heap) (locs : List Loc) (ls : Array Slot), va_P D vwCl [(o, .inr (7, mdF th W H mt qu zz nw ol ne se ke nc ns is ik dc sc kd md wh fa re ve ps 1 tl di lv bf bo bd co bt ma)), (nw, .inl (cs 0, 4608, .inl (mpB gw W md 0 (mlO W md 0 mf) (y * 8 + x)))), (ma, .inl (cs 0, 64, .inl mf))] Hp → va_D A [(o, .inr (7, mdF th W H mt qu zz nw ol ne se ke nc ns is ik dc sc kd md wh fa re ve ps 1 tl di lv bf bo bd co bt ma)), (nw, .inl (cs 0, 4608, .inl (mpB gw W md 0 (mlO W md 0 mf) (y * 8 + x)))), (ma, .inl (cs 0, 64, .inl mf))] → va_S A s.heap Hp locs → lv_has ls 10 [(0, .ref o), (2, .int fw), (3, .int bw), (4, .int 0), (5, .int (nI (bL W md 0))), (6, .int (nI (bT W md 0))), (7, .int (nI y)), (8, .int (nI x))] → xW p l e ({ frames := 4, cells := 0, slots := 0, locals := 104 } : Room) s m ([.ref o, .int 0, .int fw, .int bw] : List Value).toArray below meth c Hp locs 0 0 (MQ below (xE D A none [(o, .inr (7, mdF th W H mt qu zz nw ol ne se ke nc ns is ik dc sc kd md wh fa re ve ps 1 tl di lv bf bo bd co bt ma)), (nw, .inl (cs 0, 4608, .inl (mpB gw W md 0 (mlO W md 0 mf) (64)))), (ma, .inl (cs 0, 64, .inl mf))]) ([.ref o, .int 0, .int fw, .int bw] : List Value).toArray s 0 0 A) (F0 m 101 ls []) := by
          intro k101
          induction k101 with
          | zero => intro x h9; omega
          | succ k101 ih_101 =>
            intro x hk101 hx9 Hp locs ls hP hD hS hl
            refine lv_iload hx hb dX7_putBlock_101 (lv_at hl 7 rfl) ?_
            refine lv_bipush (v := 8) hx hb dX7_putBlock_103 (by decide) ?_
            refine lv_icmp_ge (tgt := 193) hx hb dX7_putBlock_105 (by decide) (fun c_105 => ?_) (fun c_105 => ?_)
            · have ex : x = 8 := by have := nIle (a := 8) (b := x) rfl rfl (by decide) (by omega) c_105; omega
              have hP := xeqP hP (congrArg (fun z9 => ([(o, .inr (7, mdF th W H mt qu zz nw ol ne se ke nc ns is ik dc sc kd md wh fa re ve ps 1 tl di lv bf bo bd co bt ma)), (nw, .inl (cs 0, 4608, .inl z9)), (ma, .inl (cs 0, 64, .inl mf))] : va_W)) (congrArg (mpB gw W md 0 (mlO W md 0 mf)) (show y * 8 + x = (y + 1) * 8 by omega)))
              have hD := xeqD hD (congrArg (fun z9 => ([(o, .inr (7, mdF th W H mt qu zz nw ol ne se ke nc ns is ik dc sc kd md wh fa re ve ps 1 tl di lv bf bo bd co bt ma)), (nw, .inl (cs 0, 4608, .inl z9)), (ma, .inl (cs 0, 64, .inl mf))] : va_W)) (congrArg (mpB gw W md 0 (mlO W md 0 mf)) (show y * 8 + x = (y + 1) * 8 by omega)))
              refine lv_iinc (v := (nI (y + 1))) (lv' := [(7, .int (nI (y + 1))), (0, .ref o), (2, .int fw), (3, .int bw), (4, .int 0), (5, .int (nI (bL W md 0))), (6, .int (nI (bT W md 0))), (8, .int (nI x))]) hx hb dX7_putBlock_193 hl (k := 6) rfl (nI_1 y) (by decide) rfl (fun ls hl => ?_)
              refine lv_goto (tgt := 91) hx hb dX7_putBlock_196 (by decide) ?_
              exact ih_91 (y + 1) (by omega) (by omega) _ _ _ hP hD hS (lv_sub hl [1, 2, 3, 4, 5, 6, 0] rfl)
            · have hxl : x < 8 := nInle (a := 8) (b := x) rfl rfl (by decide) (by omega) c_105
              refine lv_aload_n hx hb dX7_putBlock_108 rfl (lv_at hl 0 rfl) ?_
              refine xget (C := RX7) (T := TX7) (N := 34) hF hX hP (by decide +kernel) 0 33 rfl rfl (by decide) (by decide +kernel) rfl dX7_putBlock_109 ?_
              refine lv_bipush (v := 8) hx hb dX7_putBlock_112 (by decide) ?_
              refine lv_iload hx hb dX7_putBlock_114 (lv_at hl 6 rfl) ?_
              refine lv_imul hx hb dX7_putBlock_116 ?_
              refine lv_iload hx hb dX7_putBlock_117 (lv_at hl 7 rfl) ?_
              refine lv_iadd hx hb dX7_putBlock_119 ?_
              refine xrwi (z := nI (y * 8 + x)) (k8 y x) ?_
              refine xald (k := y * 8 + x) hF hX hP 2 rfl (nI_clamp (by omega)) (vp_in_nI (by omega) (by decide)) dX7_putBlock_120 ?_
              refine lv_istore (lv' := [(9, .int (mf (y * 8 + x))), (0, .ref o), (2, .int fw), (3, .int bw), (4, .int 0), (5, .int (nI (bL W md 0))), (6, .int (nI (bT W md 0))), (7, .int (nI y)), (8, .int (nI x))]) hx hb dX7_putBlock_121 hl (by decide) rfl (fun ls hl => ?_)
              refine lv_aload_n hx hb dX7_putBlock_123 rfl (lv_at hl 1 rfl) ?_
              refine xget (C := RX7) (T := TX7) (N := 34) hF hX hP (by decide +kernel) 0 24 rfl rfl (by decide) (by decide +kernel) rfl dX7_putBlock_124 ?_
              refine lv_if_eq (tgt := 135) hx hb dX7_putBlock_127 (by decide) (fun c_127 => absurd c_127 (by decide)) (fun _ => ?_)
              refine lv_iload hx hb dX7_putBlock_130 (lv_at hl 0 rfl) ?_
              refine lv_goto (tgt := 156) hx hb dX7_putBlock_132 (by decide) ?_
              refine lv_istore (lv' := [(9, .int (mf (y * 8 + x))), (0, .ref o), (2, .int fw), (3, .int bw), (4, .int 0), (5, .int (nI (bL W md 0))), (6, .int (nI (bT W md 0))), (7, .int (nI y)), (8, .int (nI x))]) hx hb dX7_putBlock_156 hl (by decide) rfl (fun ls hl => ?_)
              refine lv_aload_n hx hb dX7_putBlock_158 rfl (lv_at hl 1 rfl) ?_
              refine xget (C := RX7) (T := TX7) (N := 34) hF hX hP (by decide +kernel) 0 6 rfl rfl (by decide) (by decide +kernel) rfl dX7_putBlock_159 ?_
              refine lv_iload hx hb dX7_putBlock_162 (lv_at hl 4 rfl) ?_
              refine lv_iload hx hb dX7_putBlock_164 (lv_at hl 5 rfl) ?_
              refine lv_iload hx hb dX7_putBlock_166 (lv_at hl 8 rfl) ?_
              refine lv_iadd hx hb dX7_putBlock_168 ?_
              refine xrwi (z := nI ((bL W md 0) + x)) (nI_add _ _) ?_
              refine lv_iload hx hb dX7_putBlock_169 (lv_at hl 6 rfl) ?_
              refine lv_iload hx hb dX7_putBlock_171 (lv_at hl 7 rfl) ?_
              refine lv_iadd hx hb dX7_putBlock_173 ?_
              refine xrwi (z := nI ((bT W md 0) + y)) (nI_add _ _) ?_
              refine xSt (rest := [.ref nw]) (As := [.int 0, .int (nI ((bL W md 0) + x)), .int (nI ((bT W md 0) + y))]) (ws1 := [(o, .inr (7, mdF th W H mt qu zz nw ol ne se ke nc ns is ik dc sc kd md wh fa re ve ps 1 tl di lv bf bo bd co bt ma)), (nw, .inl (cs 0, 4608, .inl (mpB gw W md 0 (mlO W md 0 mf) (y * 8 + x)))), (ma, .inl (cs 0, 64, .inl mf))]) (st1 := [.int (nI (plc 0 ((bL W md 0) + x) ((bT W md 0) + y))), .ref nw]) hF (c_X7_place l D cs tt 0 ((bL W md 0) + x) ((bT W md 0) + y) (by decide)) gX7_putBlock_X7_place rfl (n := 3) (by decide +kernel) rfl ⟨⟨rfl, rfl⟩, Nat.le_of_ble_eq_true rfl, Nat.le_of_ble_eq_true rfl⟩ ⟨Nat.le_of_ble_eq_true rfl, Nat.le_of_ble_eq_true rfl⟩ hX hP hD hS [] (by decide) rfl [] rfl rfl hl.1 rfl (Nat.le_of_ble_eq_true rfl) dX7_putBlock_174 rfl rfl (fun Hp locs hP hD hS => ?_)
              refine xrwi (z := nI (0 + (((bT W md 0) + y) * 64 + ((bL W md 0) + x)))) (by unfold plc; rw [if_pos rfl]; exact congrArg nI (by omega)) ?_
              refine lv_iload hx hb dX7_putBlock_177 (lv_at hl 0 rfl) ?_
              refine lv_iconst (v := 0) hx hb dX7_putBlock_179 (by decide) ?_
              refine lv_sipush (v := 255) hx hb dX7_putBlock_180 (by decide) ?_
              refine xSt (rest := [.int (nI (0 + (((bT W md 0) + y) * 64 + ((bL W md 0) + x)))), .ref nw]) (As := [.int (mf (y * 8 + x)), .int 0, .int 255]) (ws1 := [(o, .inr (7, mdF th W H mt qu zz nw ol ne se ke nc ns is ik dc sc kd md wh fa re ve ps 1 tl di lv bf bo bd co bt ma)), (nw, .inl (cs 0, 4608, .inl (mpB gw W md 0 (mlO W md 0 mf) (y * 8 + x)))), (ma, .inl (cs 0, 64, .inl mf))]) (st1 := [.int (bnd (mf (y * 8 + x)) 0 255), .int (nI (0 + (((bT W md 0) + y) * 64 + ((bL W md 0) + x)))), .ref nw]) hF (c_X7_within l D cs tt (mf (y * 8 + x)) 0 255) gX7_putBlock_X7_within rfl (n := 3) (by decide +kernel) rfl ⟨⟨rfl, rfl⟩, Nat.le_of_ble_eq_true rfl, Nat.le_of_ble_eq_true rfl⟩ ⟨Nat.le_of_ble_eq_true rfl, Nat.le_of_ble_eq_true rfl⟩ hX hP hD hS [] (by decide) rfl [] rfl rfl hl.1 rfl (Nat.le_of_ble_eq_true rfl) dX7_putBlock_183 rfl rfl (fun Hp locs hP hD hS => ?_)
              refine xast (k := 0 + (((bT W md 0) + y) * 64 + ((bL W md 0) + x))) (ws1 := [(o, .inr (7, mdF th W H mt qu zz nw ol ne se ke nc ns is ik dc sc kd md wh fa re ve ps 1 tl di lv bf bo bd co bt ma)), (nw, .inl (cs 0, 4608, .inl (mpB gw W md 0 (mlO W md 0 mf) (y * 8 + (x + 1))))), (ma, .inl (cs 0, 64, .inl mf))]) hF hX hP hD hS 1 rfl (nI_clamp (by omega)) (vp_in_nI (by omega) (by decide)) dX7_putBlock_186 (congrArg (fun z9 => ([(o, .inr (7, mdF th W H mt qu zz nw ol ne se ke nc ns is ik dc sc kd md wh fa re ve ps 1 tl di lv bf bo bd co bt ma)), (nw, .inl (cs 0, 4608, .inl z9)), (ma, .inl (cs 0, 64, .inl mf))] : va_W)) (pbs gw (mlO W md 0 mf) (by unfold mlO; rw [show ((bT W md 0) + y - (bT W md 0)) * 8 + ((bL W md 0) + x - (bL W md 0)) = y * 8 + x by omega]) hxl (show (bL W md 0) + 8 ≤ 64 by omega))) (fun Hp locs hP hD hS => ?_)
              refine lv_iinc (v := (nI (x + 1))) (lv' := [(8, .int (nI (x + 1))), (9, .int (mf (y * 8 + x))), (0, .ref o), (2, .int fw), (3, .int bw), (4, .int 0), (5, .int (nI (bL W md 0))), (6, .int (nI (bT W md 0))), (7, .int (nI y))]) hx hb dX7_putBlock_187 hl (k := 8) rfl (nI_1 x) (by decide) rfl (fun ls hl => ?_)
              refine lv_goto (tgt := 101) hx hb dX7_putBlock_190 (by decide) ?_
              exact ih_101 (x + 1) (by omega) (by omega) _ _ _ hP hD hS (lv_sub hl [2, 3, 4, 5, 6, 7, 8, 0] rfl)
        exact loop_101 (8 - 0 + 1) 0 (Nat.lt_succ_self _) (by decide) _ _ _ hP hD hS (lv_sub hl [1, 2, 3, 4, 5, 6, 7, 0] rfl)
  have hP := xeqP hP (congrArg (fun z9 => ([(o, .inr (7, mdF th W H mt qu zz nw ol ne se ke nc ns is ik dc sc kd md wh fa re ve ps 1 tl di lv bf bo bd co bt ma)), (nw, .inl (cs 0, 4608, .inl z9)), (ma, .inl (cs 0, 64, .inl mf))] : va_W)) ((show gw = mpB gw W md 0 (mlO W md 0 mf) (0 * 8) from (blkTo_0 gw _ _ _ _ 8 (mlO W md 0 mf)).symm)))
  have hD := xeqD hD (congrArg (fun z9 => ([(o, .inr (7, mdF th W H mt qu zz nw ol ne se ke nc ns is ik dc sc kd md wh fa re ve ps 1 tl di lv bf bo bd co bt ma)), (nw, .inl (cs 0, 4608, .inl z9)), (ma, .inl (cs 0, 64, .inl mf))] : va_W)) ((show gw = mpB gw W md 0 (mlO W md 0 mf) (0 * 8) from (blkTo_0 gw _ _ _ _ 8 (mlO W md 0 mf)).symm)))
  exact loop_91 (8 - 0 + 1) 0 (Nat.lt_succ_self _) (by decide) _ _ _ hP hD hS (lv_sub hl [4, 6, 7, 3, 2, 1, 0] rfl)

set_option maxHeartbeats 4000000 in
set_option maxRecDepth 100000 in
theorem c_X7_putBlock0A (l : Launch) (D : va_G) (cs : Nat → ClassId) (tt : Nat → Nat) (o mt qu zz nw ol ne se ke re ve ps di lv bd co bt ma W H md : Nat) (th nc ns is ik dc sc wh fa tl bf bo : Int32) (gw mf go gn V : Nat → Int32) (hw : 1 ≤ W) (hw4 : W ≤ 4) (hh : 1 ≤ H) (hh3 : H ≤ 3) (hmd : md < W * H) : xM l yX7_putBlock wsX7_putBlock ({ frames := 4, cells := 0, slots := 0, locals := 104 } : Room) D cs tt [.ref o, .int 0, .int 1, .int 0] [(o, .inr (7, mdF th W H mt qu zz nw ol ne se ke nc ns is ik dc sc 2 md wh fa re ve ps 0 tl di lv bf bo bd co bt ma)), (nw, .inl (cs 0, 4608, .inl gw)), (ol, .inl (cs 0, 4608, .inl go)), (ne, .inl (cs 0, 4608, .inl gn)), (ve, .inl (cs 0, 4, .inl V)), (ma, .inl (cs 0, 64, .inl mf))] none [(o, .inr (7, mdF th W H mt qu zz nw ol ne se ke nc ns is ik dc sc 2 md wh fa re ve ps 0 tl di lv bf bo bd co bt ma)), (nw, .inl (cs 0, 4608, .inl (mpB gw W md 0 (mlF W md 0 mf (fun x9 y9 => (mft (lokP gn 0) (wdt 0 W) (wdt 0 H) (nI x9) (nI y9) (mus wh (V 0) 0) (mus wh (V 1) 0)))) (64)))), (ol, .inl (cs 0, 4608, .inl go)), (ne, .inl (cs 0, 4608, .inl gn)), (ve, .inl (cs 0, 4, .inl V)), (ma, .inl (cs 0, 64, .inl mf))] := by
  refine xM.of RX7 rfl (by decide) rfl (Nat.le_of_ble_eq_true rfl) ?_
  intro p e s m below meth c A ls hF hr hlk hX hP hD hS hl
  have hx := hF.1
  have hb := hF.2.1
  have hl : lv_has ls 10 [(0, .ref o), (1, .int 0), (2, .int 1), (3, .int 0)] := hl
  have hm4 : md < 4096 := Nat.lt_of_lt_of_le hmd (Nat.le_trans (Nat.mul_le_mul hw4 hh3) (by decide))
  have hb9 := b_in hw hmd 0 (by decide)
  have hbl : (bL W md 0) + 8 ≤ 16 * W := hb9.1
  have hbt : (bT W md 0) + 8 ≤ 16 * H := hb9.2
  have hsL : bL W md 0 = bL W md 0 := rfl
  refine lv_iload_n hx hb dX7_putBlock_0 rfl (lv_at hl 1 rfl) ?_
  refine xSt (rest := []) (As := [.int 0]) (ws1 := [(o, .inr (7, mdF th W H mt qu zz nw ol ne se ke nc ns is ik dc sc 2 md wh fa re ve ps 0 tl di lv bf bo bd co bt ma)), (nw, .inl (cs 0, 4608, .inl gw)), (ol, .inl (cs 0, 4608, .inl go)), (ne, .inl (cs 0, 4608, .inl gn)), (ve, .inl (cs 0, 4, .inl V)), (ma, .inl (cs 0, 64, .inl mf))]) (st1 := [.int (pln 0)]) hF (c_X7_planeOf l D cs tt 0) gX7_putBlock_X7_planeOf rfl (n := 1) (by decide +kernel) rfl ⟨⟨rfl, rfl⟩, Nat.le_of_ble_eq_true rfl, Nat.le_of_ble_eq_true rfl⟩ ⟨Nat.le_of_ble_eq_true rfl, Nat.le_of_ble_eq_true rfl⟩ hX hP hD hS [] (by decide) rfl [] rfl rfl hl.1 rfl (Nat.le_of_ble_eq_true rfl) dX7_putBlock_1 rfl rfl (fun Hp locs hP hD hS => ?_)
  refine xrwi (z := 0) (by decide) ?_
  refine lv_istore (lv' := [(4, .int 0), (0, .ref o), (1, .int 0), (2, .int 1), (3, .int 0)]) hx hb dX7_putBlock_4 hl (by decide) rfl (fun ls hl => ?_)
  refine lv_iload hx hb dX7_putBlock_6 (lv_at hl 0 rfl) ?_
  refine lv_if_ne (tgt := 33) hx hb dX7_putBlock_8 (by decide) (fun c_8 => absurd (by decide) c_8) (fun _ => ?_)
  refine lv_bipush (v := 16) hx hb dX7_putBlock_11 (by decide) ?_
  refine lv_aload_n hx hb dX7_putBlock_13 rfl (lv_at hl 1 rfl) ?_
  refine xget (C := RX7) (T := TX7) (N := 34) hF hX hP (by decide +kernel) 0 18 rfl rfl (by decide) (by decide +kernel) rfl dX7_putBlock_14 ?_
  refine lv_aload_n hx hb dX7_putBlock_17 rfl (lv_at hl 1 rfl) ?_
  refine xget (C := RX7) (T := TX7) (N := 34) hF hX hP (by decide +kernel) 0 1 rfl rfl (by decide) (by decide +kernel) rfl dX7_putBlock_18 ?_
  refine lv_irem hx hb dX7_putBlock_21 (nI_ne0 (by omega) (by omega)) ?_
  refine xrwi (z := nI (md % W)) (pk_rem (by omega) (by omega) (by omega)) ?_
  refine lv_imul hx hb dX7_putBlock_22 ?_
  refine lv_bipush (v := 8) hx hb dX7_putBlock_23 (by decide) ?_
  refine lv_iload_n hx hb dX7_putBlock_25 rfl (lv_at hl 2 rfl) ?_
  refine lv_iconst (v := 2) hx hb dX7_putBlock_26 (by decide) ?_
  refine lv_irem hx hb dX7_putBlock_27 (by decide) ?_
  refine xrwi (z := 0) (by decide) ?_
  refine lv_imul hx hb dX7_putBlock_28 ?_
  refine xrwi (z := 0) (by decide) ?_
  refine lv_iadd hx hb dX7_putBlock_29 ?_
  refine lv_goto (tgt := 45) hx hb dX7_putBlock_30 (by decide) ?_
  refine xrwi (z := nI (bL W md 0)) (by rw [show (16 : Int32) * nI (md % W) = nI (16 * (md % W)) from pk_mul 16 _, show nI (16 * (md % W)) + 0 = nI (16 * (md % W) + 0) from nI_add _ 0]; exact congrArg nI (show 16 * (md % W) + 0 = bL W md 0 by show _ = md % W * 16 + 0; omega)) ?_
  refine lv_istore (lv' := [(5, .int (nI (bL W md 0))), (4, .int 0), (0, .ref o), (1, .int 0), (2, .int 1), (3, .int 0)]) hx hb dX7_putBlock_45 hl (by decide) rfl (fun ls hl => ?_)
  refine lv_iload hx hb dX7_putBlock_47 (lv_at hl 1 rfl) ?_
  refine lv_if_ne (tgt := 74) hx hb dX7_putBlock_49 (by decide) (fun c_49 => absurd (by decide) c_49) (fun _ => ?_)
  refine lv_bipush (v := 16) hx hb dX7_putBlock_52 (by decide) ?_
  refine lv_aload_n hx hb dX7_putBlock_54 rfl (lv_at hl 2 rfl) ?_
  refine xget (C := RX7) (T := TX7) (N := 34) hF hX hP (by decide +kernel) 0 18 rfl rfl (by decide) (by decide +kernel) rfl dX7_putBlock_55 ?_
  refine lv_aload_n hx hb dX7_putBlock_58 rfl (lv_at hl 2 rfl) ?_
  refine xget (C := RX7) (T := TX7) (N := 34) hF hX hP (by decide +kernel) 0 1 rfl rfl (by decide) (by decide +kernel) rfl dX7_putBlock_59 ?_
  refine lv_idiv hx hb dX7_putBlock_62 (nI_ne0 (by omega) (by omega)) ?_
  refine xrwi (z := nI (md / W)) (pk_div (by omega) (by omega) (by omega)) ?_
  refine lv_imul hx hb dX7_putBlock_63 ?_
  refine lv_bipush (v := 8) hx hb dX7_putBlock_64 (by decide) ?_
  refine lv_iload_n hx hb dX7_putBlock_66 rfl (lv_at hl 3 rfl) ?_
  refine lv_iconst (v := 2) hx hb dX7_putBlock_67 (by decide) ?_
  refine lv_idiv hx hb dX7_putBlock_68 (by decide) ?_
  refine xrwi (z := 0) (by decide) ?_
  refine lv_imul hx hb dX7_putBlock_69 ?_
  refine xrwi (z := 0) (by decide) ?_
  refine lv_iadd hx hb dX7_putBlock_70 ?_
  refine lv_goto (tgt := 86) hx hb dX7_putBlock_71 (by decide) ?_
  refine xrwi (z := nI (bT W md 0)) (by rw [show (16 : Int32) * nI (md / W) = nI (16 * (md / W)) from pk_mul 16 _, show nI (16 * (md / W)) + 0 = nI (16 * (md / W) + 0) from nI_add _ 0]; exact congrArg nI (show 16 * (md / W) + 0 = bT W md 0 by show _ = md / W * 16 + 0; omega)) ?_
  refine lv_istore (lv' := [(6, .int (nI (bT W md 0))), (5, .int (nI (bL W md 0))), (4, .int 0), (0, .ref o), (1, .int 0), (2, .int 1), (3, .int 0)]) hx hb dX7_putBlock_86 hl (by decide) rfl (fun ls hl => ?_)
  refine lv_iconst (v := 0) hx hb dX7_putBlock_88 (by decide) ?_
  refine lv_istore (lv' := [(7, .int 0), (6, .int (nI (bT W md 0))), (5, .int (nI (bL W md 0))), (4, .int 0), (0, .ref o), (1, .int 0), (2, .int 1), (3, .int 0)]) hx hb dX7_putBlock_89 hl (by decide) rfl (fun ls hl => ?_)
  have loop_91 : ∀ (k91 : Nat) (y : Nat), 8 - y < k91 → y ≤ 8 → ∀ (Hp : Heap) (locs : List Loc) (ls : Array Slot), va_P D vwCl [(o, .inr (7, mdF th W H mt qu zz nw ol ne se ke nc ns is ik dc sc 2 md wh fa re ve ps 0 tl di lv bf bo bd co bt ma)), (nw, .inl (cs 0, 4608, .inl (mpB gw W md 0 (mlF W md 0 mf (fun x9 y9 => (mft (lokP gn 0) (wdt 0 W) (wdt 0 H) (nI x9) (nI y9) (mus wh (V 0) 0) (mus wh (V 1) 0)))) (y * 8)))), (ol, .inl (cs 0, 4608, .inl go)), (ne, .inl (cs 0, 4608, .inl gn)), (ve, .inl (cs 0, 4, .inl V)), (ma, .inl (cs 0, 64, .inl mf))] Hp → va_D A [(o, .inr (7, mdF th W H mt qu zz nw ol ne se ke nc ns is ik dc sc 2 md wh fa re ve ps 0 tl di lv bf bo bd co bt ma)), (nw, .inl (cs 0, 4608, .inl (mpB gw W md 0 (mlF W md 0 mf (fun x9 y9 => (mft (lokP gn 0) (wdt 0 W) (wdt 0 H) (nI x9) (nI y9) (mus wh (V 0) 0) (mus wh (V 1) 0)))) (y * 8)))), (ol, .inl (cs 0, 4608, .inl go)), (ne, .inl (cs 0, 4608, .inl gn)), (ve, .inl (cs 0, 4, .inl V)), (ma, .inl (cs 0, 64, .inl mf))] → va_S A s.heap Hp locs → lv_has ls 10 [(0, .ref o), (2, .int 1), (3, .int 0), (4, .int 0), (5, .int (nI (bL W md 0))), (6, .int (nI (bT W md 0))), (7, .int (nI y))] → xW p l e ({ frames := 4, cells := 0, slots := 0, locals := 104 } : Room) s m ([.ref o, .int 0, .int 1, .int 0] : List Value).toArray below meth c Hp locs 0 0 (MQ below (xE D A none [(o, .inr (7, mdF th W H mt qu zz nw ol ne se ke nc ns is ik dc sc 2 md wh fa re ve ps 0 tl di lv bf bo bd co bt ma)), (nw, .inl (cs 0, 4608, .inl (mpB gw W md 0 (mlF W md 0 mf (fun x9 y9 => (mft (lokP gn 0) (wdt 0 W) (wdt 0 H) (nI x9) (nI y9) (mus wh (V 0) 0) (mus wh (V 1) 0)))) (64)))), (ol, .inl (cs 0, 4608, .inl go)), (ne, .inl (cs 0, 4608, .inl gn)), (ve, .inl (cs 0, 4, .inl V)), (ma, .inl (cs 0, 64, .inl mf))]) ([.ref o, .int 0, .int 1, .int 0] : List Value).toArray s 0 0 A) (F0 m 91 ls []) := by
    intro k91
    induction k91 with
    | zero => intro y h9; omega
    | succ k91 ih_91 =>
      intro y hk91 hy9 Hp locs ls hP hD hS hl
      refine lv_iload hx hb dX7_putBlock_91 (lv_at hl 6 rfl) ?_
      refine lv_bipush (v := 8) hx hb dX7_putBlock_93 (by decide) ?_
      refine lv_icmp_ge (tgt := 199) hx hb dX7_putBlock_95 (by decide) (fun c_95 => ?_) (fun c_95 => ?_)
      · have ey : y = 8 := by have := nIle (a := 8) (b := y) rfl rfl (by decide) (by omega) c_95; omega
        have hP := xeqP hP (congrArg (fun z9 => ([(o, .inr (7, mdF th W H mt qu zz nw ol ne se ke nc ns is ik dc sc 2 md wh fa re ve ps 0 tl di lv bf bo bd co bt ma)), (nw, .inl (cs 0, 4608, .inl z9)), (ol, .inl (cs 0, 4608, .inl go)), (ne, .inl (cs 0, 4608, .inl gn)), (ve, .inl (cs 0, 4, .inl V)), (ma, .inl (cs 0, 64, .inl mf))] : va_W)) (congrArg (mpB gw W md 0 (mlF W md 0 mf (fun x9 y9 => (mft (lokP gn 0) (wdt 0 W) (wdt 0 H) (nI x9) (nI y9) (mus wh (V 0) 0) (mus wh (V 1) 0))))) (show y * 8 = 64 by omega)))
        have hD := xeqD hD (congrArg (fun z9 => ([(o, .inr (7, mdF th W H mt qu zz nw ol ne se ke nc ns is ik dc sc 2 md wh fa re ve ps 0 tl di lv bf bo bd co bt ma)), (nw, .inl (cs 0, 4608, .inl z9)), (ol, .inl (cs 0, 4608, .inl go)), (ne, .inl (cs 0, 4608, .inl gn)), (ve, .inl (cs 0, 4, .inl V)), (ma, .inl (cs 0, 64, .inl mf))] : va_W)) (congrArg (mpB gw W md 0 (mlF W md 0 mf (fun x9 y9 => (mft (lokP gn 0) (wdt 0 W) (wdt 0 H) (nI x9) (nI y9) (mus wh (V 0) 0) (mus wh (V 1) 0))))) (show y * 8 = 64 by omega)))
        exact xrv hF hr hlk hP hD hS dX7_putBlock_199
      · have hyl : y < 8 := nInle (a := 8) (b := y) rfl rfl (by decide) (by omega) c_95
        refine lv_iconst (v := 0) hx hb dX7_putBlock_98 (by decide) ?_
        refine lv_istore (lv' := [(8, .int 0), (0, .ref o), (2, .int 1), (3, .int 0), (4, .int 0), (5, .int (nI (bL W md 0))), (6, .int (nI (bT W md 0))), (7, .int (nI y))]) hx hb dX7_putBlock_99 hl (by decide) rfl (fun ls hl => ?_)
        have loop_101 : ∀ (k101 : Nat) (x : Nat), 8 - x < k101 → x ≤ 8 → ∀ (Hp : Heap) (locs : List Loc) (ls : Array Slot), va_P D vwCl [(o, .inr (7, mdF th W H mt qu zz nw ol ne se ke nc ns is ik dc sc 2 md wh fa re ve ps 0 tl di lv bf bo bd co bt ma)), (nw, .inl (cs 0, 4608, .inl (mpB gw W md 0 (mlF W md 0 mf (fun x9 y9 => (mft (lokP gn 0) (wdt 0 W) (wdt 0 H) (nI x9) (nI y9) (mus wh (V 0) 0) (mus wh (V 1) 0)))) (y * 8 + x)))), (ol, .inl (cs 0, 4608, .inl go)), (ne, .inl (cs 0, 4608, .inl gn)), (ve, .inl (cs 0, 4, .inl V)), (ma, .inl (cs 0, 64, .inl mf))] Hp → va_D A [(o, .inr (7, mdF th W H mt qu zz nw ol ne se ke nc ns is ik dc sc 2 md wh fa re ve ps 0 tl di lv bf bo bd co bt ma)), (nw, .inl (cs 0, 4608, .inl (mpB gw W md 0 (mlF W md 0 mf (fun x9 y9 => (mft (lokP gn 0) (wdt 0 W) (wdt 0 H) (nI x9) (nI y9) (mus wh (V 0) 0) (mus wh (V 1) 0)))) (y * 8 + x)))), (ol, .inl (cs 0, 4608, .inl go)), (ne, .inl (cs 0, 4608, .inl gn)), (ve, .inl (cs 0, 4, .inl V)), (ma, .inl (cs 0, 64, .inl mf))] → va_S A s.heap Hp locs → lv_has ls 10 [(0, .ref o), (2, .int 1), (3, .int 0), (4, .int 0), (5, .int (nI (bL W md 0))), (6, .int (nI (bT W md 0))), (7, .int (nI y)), (8, .int (nI x))] → xW p l e ({ frames := 4, cells := 0, slots := 0, locals := 104 } : Room) s m ([.ref o, .int 0, .int 1, .int 0] : List Value).toArray below meth c Hp locs 0 0 (MQ below (xE D A none [(o, .inr (7, mdF th W H mt qu zz nw ol ne se ke nc ns is ik dc sc 2 md wh fa re ve ps 0 tl di lv bf bo bd co bt ma)), (nw, .inl (cs 0, 4608, .inl (mpB gw W md 0 (mlF W md 0 mf (fun x9 y9 => (mft (lokP gn 0) (wdt 0 W) (wdt 0 H) (nI x9) (nI y9) (mus wh (V 0) 0) (mus wh (V 1) 0)))) (64)))), (ol, .inl (cs 0, 4608, .inl go)), (ne, .inl (cs 0, 4608, .inl gn)), (ve, .inl (cs 0, 4, .inl V)), (ma, .inl (cs 0, 64, .inl mf))]) ([.ref o, .int 0, .int 1, .int 0] : List Value).toArray s 0 0 A) (F0 m 101 ls []) := by
          intro k101
          induction k101 with
          | zero => intro x h9; omega
          | succ k101 ih_101 =>
            intro x hk101 hx9 Hp locs ls hP hD hS hl
            refine lv_iload hx hb dX7_putBlock_101 (lv_at hl 7 rfl) ?_
            refine lv_bipush (v := 8) hx hb dX7_putBlock_103 (by decide) ?_
            refine lv_icmp_ge (tgt := 193) hx hb dX7_putBlock_105 (by decide) (fun c_105 => ?_) (fun c_105 => ?_)
            · have ex : x = 8 := by have := nIle (a := 8) (b := x) rfl rfl (by decide) (by omega) c_105; omega
              have hP := xeqP hP (congrArg (fun z9 => ([(o, .inr (7, mdF th W H mt qu zz nw ol ne se ke nc ns is ik dc sc 2 md wh fa re ve ps 0 tl di lv bf bo bd co bt ma)), (nw, .inl (cs 0, 4608, .inl z9)), (ol, .inl (cs 0, 4608, .inl go)), (ne, .inl (cs 0, 4608, .inl gn)), (ve, .inl (cs 0, 4, .inl V)), (ma, .inl (cs 0, 64, .inl mf))] : va_W)) (congrArg (mpB gw W md 0 (mlF W md 0 mf (fun x9 y9 => (mft (lokP gn 0) (wdt 0 W) (wdt 0 H) (nI x9) (nI y9) (mus wh (V 0) 0) (mus wh (V 1) 0))))) (show y * 8 + x = (y + 1) * 8 by omega)))
              have hD := xeqD hD (congrArg (fun z9 => ([(o, .inr (7, mdF th W H mt qu zz nw ol ne se ke nc ns is ik dc sc 2 md wh fa re ve ps 0 tl di lv bf bo bd co bt ma)), (nw, .inl (cs 0, 4608, .inl z9)), (ol, .inl (cs 0, 4608, .inl go)), (ne, .inl (cs 0, 4608, .inl gn)), (ve, .inl (cs 0, 4, .inl V)), (ma, .inl (cs 0, 64, .inl mf))] : va_W)) (congrArg (mpB gw W md 0 (mlF W md 0 mf (fun x9 y9 => (mft (lokP gn 0) (wdt 0 W) (wdt 0 H) (nI x9) (nI y9) (mus wh (V 0) 0) (mus wh (V 1) 0))))) (show y * 8 + x = (y + 1) * 8 by omega)))
              refine lv_iinc (v := (nI (y + 1))) (lv' := [(7, .int (nI (y + 1))), (0, .ref o), (2, .int 1), (3, .int 0), (4, .int 0), (5, .int (nI (bL W md 0))), (6, .int (nI (bT W md 0))), (8, .int (nI x))]) hx hb dX7_putBlock_193 hl (k := 6) rfl (nI_1 y) (by decide) rfl (fun ls hl => ?_)
              refine lv_goto (tgt := 91) hx hb dX7_putBlock_196 (by decide) ?_
              exact ih_91 (y + 1) (by omega) (by omega) _ _ _ hP hD hS (lv_sub hl [1, 2, 3, 4, 5, 6, 0] rfl)
            · have hxl : x < 8 := nInle (a := 8) (b := x) rfl rfl (by decide) (by omega) c_105
              refine lv_aload_n hx hb dX7_putBlock_108 rfl (lv_at hl 0 rfl) ?_
              refine xget (C := RX7) (T := TX7) (N := 34) hF hX hP (by decide +kernel) 0 33 rfl rfl (by decide) (by decide +kernel) rfl dX7_putBlock_109 ?_
              refine lv_bipush (v := 8) hx hb dX7_putBlock_112 (by decide) ?_
              refine lv_iload hx hb dX7_putBlock_114 (lv_at hl 6 rfl) ?_
              refine lv_imul hx hb dX7_putBlock_116 ?_
              refine lv_iload hx hb dX7_putBlock_117 (lv_at hl 7 rfl) ?_
              refine lv_iadd hx hb dX7_putBlock_119 ?_
              refine xrwi (z := nI (y * 8 + x)) (k8 y x) ?_
              refine xald (k := y * 8 + x) hF hX hP 5 rfl (nI_clamp (by omega)) (vp_in_nI (by omega) (by decide)) dX7_putBlock_120 ?_
              refine lv_istore (lv' := [(9, .int (mf (y * 8 + x))), (0, .ref o), (2, .int 1), (3, .int 0), (4, .int 0), (5, .int (nI (bL W md 0))), (6, .int (nI (bT W md 0))), (7, .int (nI y)), (8, .int (nI x))]) hx hb dX7_putBlock_121 hl (by decide) rfl (fun ls hl => ?_)
              refine lv_aload_n hx hb dX7_putBlock_123 rfl (lv_at hl 1 rfl) ?_
              refine xget (C := RX7) (T := TX7) (N := 34) hF hX hP (by decide +kernel) 0 24 rfl rfl (by decide) (by decide +kernel) rfl dX7_putBlock_124 ?_
              refine lv_if_eq (tgt := 135) hx hb dX7_putBlock_127 (by decide) (fun _ => ?_) (fun c_127 => absurd (by decide) c_127)
              refine lv_iload hx hb dX7_putBlock_135 (lv_at hl 0 rfl) ?_
              refine lv_aload_n hx hb dX7_putBlock_137 rfl (lv_at hl 1 rfl) ?_
              refine lv_iload_n hx hb dX7_putBlock_138 rfl (lv_at hl 2 rfl) ?_
              refine lv_iload_n hx hb dX7_putBlock_139 rfl (lv_at hl 3 rfl) ?_
              refine lv_iload hx hb dX7_putBlock_140 (lv_at hl 4 rfl) ?_
              refine lv_iload hx hb dX7_putBlock_142 (lv_at hl 5 rfl) ?_
              refine lv_iload hx hb dX7_putBlock_144 (lv_at hl 8 rfl) ?_
              refine lv_iadd hx hb dX7_putBlock_146 ?_
              refine xrwi (z := nI ((bL W md 0) + x)) (nI_add _ _) ?_
              refine lv_iload hx hb dX7_putBlock_147 (lv_at hl 6 rfl) ?_
              refine lv_iload hx hb dX7_putBlock_149 (lv_at hl 7 rfl) ?_
              refine lv_iadd hx hb dX7_putBlock_151 ?_
              refine xrwi (z := nI ((bT W md 0) + y)) (nI_add _ _) ?_
              refine xV (rest := [.int (mf (y * 8 + x))]) (As := [.int 1, .int 0, .int 0, .int (nI ((bL W md 0) + x)), .int (nI ((bT W md 0) + y))]) (ws1 := [(o, .inr (7, mdF th W H mt qu zz nw ol ne se ke nc ns is ik dc sc 2 md wh fa re ve ps 0 tl di lv bf bo bd co bt ma)), (nw, .inl (cs 0, 4608, .inl (mpB gw W md 0 (mlF W md 0 mf (fun x9 y9 => (mft (lokP gn 0) (wdt 0 W) (wdt 0 H) (nI x9) (nI y9) (mus wh (V 0) 0) (mus wh (V 1) 0)))) (y * 8 + x)))), (ol, .inl (cs 0, 4608, .inl go)), (ne, .inl (cs 0, 4608, .inl gn)), (ve, .inl (cs 0, 4, .inl V)), (ma, .inl (cs 0, 64, .inl mf))]) (st1 := [.int (mft (lokP gn 0) (wdt 0 W) (wdt 0 H) (nI ((bL W md 0) + x)) (nI ((bT W md 0) + y)) (mus wh (V 0) 0) (mus wh (V 1) 0)), .int (mf (y * 8 + x))]) hF (c_X7_fetchedA l D cs tt o mt qu zz nw ol ne se ke re ve ps di lv bd co bt ma W H md th nc ns is ik dc sc wh fa 0 tl bf bo 0 (nI ((bL W md 0) + x)) (nI ((bT W md 0) + y)) go gn V (by decide) hw hw4 hh hh3) gX7_putBlock_X7_fetched rfl (n := 5) (by decide +kernel) rfl ⟨⟨rfl, rfl⟩, Nat.le_of_ble_eq_true rfl, Nat.le_of_ble_eq_true rfl⟩ ⟨Nat.le_of_ble_eq_true rfl, Nat.le_of_ble_eq_true rfl⟩ hX hP hD hS [0, 2, 3, 4] (by decide) rfl [o, ol, ne, ve] rfl rfl (q0 := 0) (ci := 7) rfl rfl rfl hl.1 rfl (Nat.le_of_ble_eq_true rfl) dX7_putBlock_152 rfl rfl (fun Hp locs hP hD hS => ?_)
              refine lv_iadd hx hb dX7_putBlock_155 ?_
              refine lv_istore (lv' := [(9, .int ((mf (y * 8 + x)) + (mft (lokP gn 0) (wdt 0 W) (wdt 0 H) (nI ((bL W md 0) + x)) (nI ((bT W md 0) + y)) (mus wh (V 0) 0) (mus wh (V 1) 0)))), (0, .ref o), (2, .int 1), (3, .int 0), (4, .int 0), (5, .int (nI (bL W md 0))), (6, .int (nI (bT W md 0))), (7, .int (nI y)), (8, .int (nI x))]) hx hb dX7_putBlock_156 hl (by decide) rfl (fun ls hl => ?_)
              refine lv_aload_n hx hb dX7_putBlock_158 rfl (lv_at hl 1 rfl) ?_
              refine xget (C := RX7) (T := TX7) (N := 34) hF hX hP (by decide +kernel) 0 6 rfl rfl (by decide) (by decide +kernel) rfl dX7_putBlock_159 ?_
              refine lv_iload hx hb dX7_putBlock_162 (lv_at hl 4 rfl) ?_
              refine lv_iload hx hb dX7_putBlock_164 (lv_at hl 5 rfl) ?_
              refine lv_iload hx hb dX7_putBlock_166 (lv_at hl 8 rfl) ?_
              refine lv_iadd hx hb dX7_putBlock_168 ?_
              refine xrwi (z := nI ((bL W md 0) + x)) (nI_add _ _) ?_
              refine lv_iload hx hb dX7_putBlock_169 (lv_at hl 6 rfl) ?_
              refine lv_iload hx hb dX7_putBlock_171 (lv_at hl 7 rfl) ?_
              refine lv_iadd hx hb dX7_putBlock_173 ?_
              refine xrwi (z := nI ((bT W md 0) + y)) (nI_add _ _) ?_
              refine xSt (rest := [.ref nw]) (As := [.int 0, .int (nI ((bL W md 0) + x)), .int (nI ((bT W md 0) + y))]) (ws1 := [(o, .inr (7, mdF th W H mt qu zz nw ol ne se ke nc ns is ik dc sc 2 md wh fa re ve ps 0 tl di lv bf bo bd co bt ma)), (nw, .inl (cs 0, 4608, .inl (mpB gw W md 0 (mlF W md 0 mf (fun x9 y9 => (mft (lokP gn 0) (wdt 0 W) (wdt 0 H) (nI x9) (nI y9) (mus wh (V 0) 0) (mus wh (V 1) 0)))) (y * 8 + x)))), (ol, .inl (cs 0, 4608, .inl go)), (ne, .inl (cs 0, 4608, .inl gn)), (ve, .inl (cs 0, 4, .inl V)), (ma, .inl (cs 0, 64, .inl mf))]) (st1 := [.int (nI (plc 0 ((bL W md 0) + x) ((bT W md 0) + y))), .ref nw]) hF (c_X7_place l D cs tt 0 ((bL W md 0) + x) ((bT W md 0) + y) (by decide)) gX7_putBlock_X7_place rfl (n := 3) (by decide +kernel) rfl ⟨⟨rfl, rfl⟩, Nat.le_of_ble_eq_true rfl, Nat.le_of_ble_eq_true rfl⟩ ⟨Nat.le_of_ble_eq_true rfl, Nat.le_of_ble_eq_true rfl⟩ hX hP hD hS [] (by decide) rfl [] rfl rfl hl.1 rfl (Nat.le_of_ble_eq_true rfl) dX7_putBlock_174 rfl rfl (fun Hp locs hP hD hS => ?_)
              refine xrwi (z := nI (0 + (((bT W md 0) + y) * 64 + ((bL W md 0) + x)))) (by unfold plc; rw [if_pos rfl]; exact congrArg nI (by omega)) ?_
              refine lv_iload hx hb dX7_putBlock_177 (lv_at hl 0 rfl) ?_
              refine lv_iconst (v := 0) hx hb dX7_putBlock_179 (by decide) ?_
              refine lv_sipush (v := 255) hx hb dX7_putBlock_180 (by decide) ?_
              refine xSt (rest := [.int (nI (0 + (((bT W md 0) + y) * 64 + ((bL W md 0) + x)))), .ref nw]) (As := [.int ((mf (y * 8 + x)) + (mft (lokP gn 0) (wdt 0 W) (wdt 0 H) (nI ((bL W md 0) + x)) (nI ((bT W md 0) + y)) (mus wh (V 0) 0) (mus wh (V 1) 0))), .int 0, .int 255]) (ws1 := [(o, .inr (7, mdF th W H mt qu zz nw ol ne se ke nc ns is ik dc sc 2 md wh fa re ve ps 0 tl di lv bf bo bd co bt ma)), (nw, .inl (cs 0, 4608, .inl (mpB gw W md 0 (mlF W md 0 mf (fun x9 y9 => (mft (lokP gn 0) (wdt 0 W) (wdt 0 H) (nI x9) (nI y9) (mus wh (V 0) 0) (mus wh (V 1) 0)))) (y * 8 + x)))), (ol, .inl (cs 0, 4608, .inl go)), (ne, .inl (cs 0, 4608, .inl gn)), (ve, .inl (cs 0, 4, .inl V)), (ma, .inl (cs 0, 64, .inl mf))]) (st1 := [.int (bnd ((mf (y * 8 + x)) + (mft (lokP gn 0) (wdt 0 W) (wdt 0 H) (nI ((bL W md 0) + x)) (nI ((bT W md 0) + y)) (mus wh (V 0) 0) (mus wh (V 1) 0))) 0 255), .int (nI (0 + (((bT W md 0) + y) * 64 + ((bL W md 0) + x)))), .ref nw]) hF (c_X7_within l D cs tt ((mf (y * 8 + x)) + (mft (lokP gn 0) (wdt 0 W) (wdt 0 H) (nI ((bL W md 0) + x)) (nI ((bT W md 0) + y)) (mus wh (V 0) 0) (mus wh (V 1) 0))) 0 255) gX7_putBlock_X7_within rfl (n := 3) (by decide +kernel) rfl ⟨⟨rfl, rfl⟩, Nat.le_of_ble_eq_true rfl, Nat.le_of_ble_eq_true rfl⟩ ⟨Nat.le_of_ble_eq_true rfl, Nat.le_of_ble_eq_true rfl⟩ hX hP hD hS [] (by decide) rfl [] rfl rfl hl.1 rfl (Nat.le_of_ble_eq_true rfl) dX7_putBlock_183 rfl rfl (fun Hp locs hP hD hS => ?_)
              refine xast (k := 0 + (((bT W md 0) + y) * 64 + ((bL W md 0) + x))) (ws1 := [(o, .inr (7, mdF th W H mt qu zz nw ol ne se ke nc ns is ik dc sc 2 md wh fa re ve ps 0 tl di lv bf bo bd co bt ma)), (nw, .inl (cs 0, 4608, .inl (mpB gw W md 0 (mlF W md 0 mf (fun x9 y9 => (mft (lokP gn 0) (wdt 0 W) (wdt 0 H) (nI x9) (nI y9) (mus wh (V 0) 0) (mus wh (V 1) 0)))) (y * 8 + (x + 1))))), (ol, .inl (cs 0, 4608, .inl go)), (ne, .inl (cs 0, 4608, .inl gn)), (ve, .inl (cs 0, 4, .inl V)), (ma, .inl (cs 0, 64, .inl mf))]) hF hX hP hD hS 1 rfl (nI_clamp (by omega)) (vp_in_nI (by omega) (by decide)) dX7_putBlock_186 (congrArg (fun z9 => ([(o, .inr (7, mdF th W H mt qu zz nw ol ne se ke nc ns is ik dc sc 2 md wh fa re ve ps 0 tl di lv bf bo bd co bt ma)), (nw, .inl (cs 0, 4608, .inl z9)), (ol, .inl (cs 0, 4608, .inl go)), (ne, .inl (cs 0, 4608, .inl gn)), (ve, .inl (cs 0, 4, .inl V)), (ma, .inl (cs 0, 64, .inl mf))] : va_W)) (pbs gw (mlF W md 0 mf (fun x9 y9 => (mft (lokP gn 0) (wdt 0 W) (wdt 0 H) (nI x9) (nI y9) (mus wh (V 0) 0) (mus wh (V 1) 0)))) (by unfold mlF; rw [show ((bT W md 0) + y - (bT W md 0)) * 8 + ((bL W md 0) + x - (bL W md 0)) = y * 8 + x by omega]) hxl (show (bL W md 0) + 8 ≤ 64 by omega))) (fun Hp locs hP hD hS => ?_)
              refine lv_iinc (v := (nI (x + 1))) (lv' := [(8, .int (nI (x + 1))), (9, .int ((mf (y * 8 + x)) + (mft (lokP gn 0) (wdt 0 W) (wdt 0 H) (nI ((bL W md 0) + x)) (nI ((bT W md 0) + y)) (mus wh (V 0) 0) (mus wh (V 1) 0)))), (0, .ref o), (2, .int 1), (3, .int 0), (4, .int 0), (5, .int (nI (bL W md 0))), (6, .int (nI (bT W md 0))), (7, .int (nI y))]) hx hb dX7_putBlock_187 hl (k := 8) rfl (nI_1 x) (by decide) rfl (fun ls hl => ?_)
              refine lv_goto (tgt := 101) hx hb dX7_putBlock_190 (by decide) ?_
              exact ih_101 (x + 1) (by omega) (by omega) _ _ _ hP hD hS (lv_sub hl [2, 3, 4, 5, 6, 7, 8, 0] rfl)
        exact loop_101 (8 - 0 + 1) 0 (Nat.lt_succ_self _) (by decide) _ _ _ hP hD hS (lv_sub hl [1, 2, 3, 4, 5, 6, 7, 0] rfl)
  have hP := xeqP hP (congrArg (fun z9 => ([(o, .inr (7, mdF th W H mt qu zz nw ol ne se ke nc ns is ik dc sc 2 md wh fa re ve ps 0 tl di lv bf bo bd co bt ma)), (nw, .inl (cs 0, 4608, .inl z9)), (ol, .inl (cs 0, 4608, .inl go)), (ne, .inl (cs 0, 4608, .inl gn)), (ve, .inl (cs 0, 4, .inl V)), (ma, .inl (cs 0, 64, .inl mf))] : va_W)) ((show gw = mpB gw W md 0 (mlF W md 0 mf (fun x9 y9 => (mft (lokP gn 0) (wdt 0 W) (wdt 0 H) (nI x9) (nI y9) (mus wh (V 0) 0) (mus wh (V 1) 0)))) (0 * 8) from (blkTo_0 gw _ _ _ _ 8 (mlF W md 0 mf (fun x9 y9 => (mft (lokP gn 0) (wdt 0 W) (wdt 0 H) (nI x9) (nI y9) (mus wh (V 0) 0) (mus wh (V 1) 0))))).symm)))
  have hD := xeqD hD (congrArg (fun z9 => ([(o, .inr (7, mdF th W H mt qu zz nw ol ne se ke nc ns is ik dc sc 2 md wh fa re ve ps 0 tl di lv bf bo bd co bt ma)), (nw, .inl (cs 0, 4608, .inl z9)), (ol, .inl (cs 0, 4608, .inl go)), (ne, .inl (cs 0, 4608, .inl gn)), (ve, .inl (cs 0, 4, .inl V)), (ma, .inl (cs 0, 64, .inl mf))] : va_W)) ((show gw = mpB gw W md 0 (mlF W md 0 mf (fun x9 y9 => (mft (lokP gn 0) (wdt 0 W) (wdt 0 H) (nI x9) (nI y9) (mus wh (V 0) 0) (mus wh (V 1) 0)))) (0 * 8) from (blkTo_0 gw _ _ _ _ 8 (mlF W md 0 mf (fun x9 y9 => (mft (lokP gn 0) (wdt 0 W) (wdt 0 H) (nI x9) (nI y9) (mus wh (V 0) 0) (mus wh (V 1) 0))))).symm)))
  exact loop_91 (8 - 0 + 1) 0 (Nat.lt_succ_self _) (by decide) _ _ _ hP hD hS (lv_sub hl [4, 6, 7, 3, 2, 1, 0] rfl)

set_option maxHeartbeats 4000000 in
set_option maxRecDepth 100000 in
theorem c_X7_putBlock0B (l : Launch) (D : va_G) (cs : Nat → ClassId) (tt : Nat → Nat) (o mt qu zz nw ol ne se ke re ve ps di lv bd co bt ma W H md : Nat) (th nc ns is ik dc sc wh fa tl bf bo : Int32) (gw mf go gn V : Nat → Int32) (hw : 1 ≤ W) (hw4 : W ≤ 4) (hh : 1 ≤ H) (hh3 : H ≤ 3) (hmd : md < W * H) : xM l yX7_putBlock wsX7_putBlock ({ frames := 4, cells := 0, slots := 0, locals := 104 } : Room) D cs tt [.ref o, .int 0, .int 1, .int 0] [(o, .inr (7, mdF th W H mt qu zz nw ol ne se ke nc ns is ik dc sc 3 md wh fa re ve ps 0 tl di lv bf bo bd co bt ma)), (nw, .inl (cs 0, 4608, .inl gw)), (ol, .inl (cs 0, 4608, .inl go)), (ne, .inl (cs 0, 4608, .inl gn)), (ve, .inl (cs 0, 4, .inl V)), (ma, .inl (cs 0, 64, .inl mf))] none [(o, .inr (7, mdF th W H mt qu zz nw ol ne se ke nc ns is ik dc sc 3 md wh fa re ve ps 0 tl di lv bf bo bd co bt ma)), (nw, .inl (cs 0, 4608, .inl (mpB gw W md 0 (mlF W md 0 mf (fun x9 y9 => (mft (lokP go 0) (wdt 0 W) (wdt 0 H) (nI x9) (nI y9) (mus wh (V 0) 0) (mus wh (V 1) 0)))) (64)))), (ol, .inl (cs 0, 4608, .inl go)), (ne, .inl (cs 0, 4608, .inl gn)), (ve, .inl (cs 0, 4, .inl V)), (ma, .inl (cs 0, 64, .inl mf))] := by
  refine xM.of RX7 rfl (by decide) rfl (Nat.le_of_ble_eq_true rfl) ?_
  intro p e s m below meth c A ls hF hr hlk hX hP hD hS hl
  have hx := hF.1
  have hb := hF.2.1
  have hl : lv_has ls 10 [(0, .ref o), (1, .int 0), (2, .int 1), (3, .int 0)] := hl
  have hm4 : md < 4096 := Nat.lt_of_lt_of_le hmd (Nat.le_trans (Nat.mul_le_mul hw4 hh3) (by decide))
  have hb9 := b_in hw hmd 0 (by decide)
  have hbl : (bL W md 0) + 8 ≤ 16 * W := hb9.1
  have hbt : (bT W md 0) + 8 ≤ 16 * H := hb9.2
  have hsL : bL W md 0 = bL W md 0 := rfl
  refine lv_iload_n hx hb dX7_putBlock_0 rfl (lv_at hl 1 rfl) ?_
  refine xSt (rest := []) (As := [.int 0]) (ws1 := [(o, .inr (7, mdF th W H mt qu zz nw ol ne se ke nc ns is ik dc sc 3 md wh fa re ve ps 0 tl di lv bf bo bd co bt ma)), (nw, .inl (cs 0, 4608, .inl gw)), (ol, .inl (cs 0, 4608, .inl go)), (ne, .inl (cs 0, 4608, .inl gn)), (ve, .inl (cs 0, 4, .inl V)), (ma, .inl (cs 0, 64, .inl mf))]) (st1 := [.int (pln 0)]) hF (c_X7_planeOf l D cs tt 0) gX7_putBlock_X7_planeOf rfl (n := 1) (by decide +kernel) rfl ⟨⟨rfl, rfl⟩, Nat.le_of_ble_eq_true rfl, Nat.le_of_ble_eq_true rfl⟩ ⟨Nat.le_of_ble_eq_true rfl, Nat.le_of_ble_eq_true rfl⟩ hX hP hD hS [] (by decide) rfl [] rfl rfl hl.1 rfl (Nat.le_of_ble_eq_true rfl) dX7_putBlock_1 rfl rfl (fun Hp locs hP hD hS => ?_)
  refine xrwi (z := 0) (by decide) ?_
  refine lv_istore (lv' := [(4, .int 0), (0, .ref o), (1, .int 0), (2, .int 1), (3, .int 0)]) hx hb dX7_putBlock_4 hl (by decide) rfl (fun ls hl => ?_)
  refine lv_iload hx hb dX7_putBlock_6 (lv_at hl 0 rfl) ?_
  refine lv_if_ne (tgt := 33) hx hb dX7_putBlock_8 (by decide) (fun c_8 => absurd (by decide) c_8) (fun _ => ?_)
  refine lv_bipush (v := 16) hx hb dX7_putBlock_11 (by decide) ?_
  refine lv_aload_n hx hb dX7_putBlock_13 rfl (lv_at hl 1 rfl) ?_
  refine xget (C := RX7) (T := TX7) (N := 34) hF hX hP (by decide +kernel) 0 18 rfl rfl (by decide) (by decide +kernel) rfl dX7_putBlock_14 ?_
  refine lv_aload_n hx hb dX7_putBlock_17 rfl (lv_at hl 1 rfl) ?_
  refine xget (C := RX7) (T := TX7) (N := 34) hF hX hP (by decide +kernel) 0 1 rfl rfl (by decide) (by decide +kernel) rfl dX7_putBlock_18 ?_
  refine lv_irem hx hb dX7_putBlock_21 (nI_ne0 (by omega) (by omega)) ?_
  refine xrwi (z := nI (md % W)) (pk_rem (by omega) (by omega) (by omega)) ?_
  refine lv_imul hx hb dX7_putBlock_22 ?_
  refine lv_bipush (v := 8) hx hb dX7_putBlock_23 (by decide) ?_
  refine lv_iload_n hx hb dX7_putBlock_25 rfl (lv_at hl 2 rfl) ?_
  refine lv_iconst (v := 2) hx hb dX7_putBlock_26 (by decide) ?_
  refine lv_irem hx hb dX7_putBlock_27 (by decide) ?_
  refine xrwi (z := 0) (by decide) ?_
  refine lv_imul hx hb dX7_putBlock_28 ?_
  refine xrwi (z := 0) (by decide) ?_
  refine lv_iadd hx hb dX7_putBlock_29 ?_
  refine lv_goto (tgt := 45) hx hb dX7_putBlock_30 (by decide) ?_
  refine xrwi (z := nI (bL W md 0)) (by rw [show (16 : Int32) * nI (md % W) = nI (16 * (md % W)) from pk_mul 16 _, show nI (16 * (md % W)) + 0 = nI (16 * (md % W) + 0) from nI_add _ 0]; exact congrArg nI (show 16 * (md % W) + 0 = bL W md 0 by show _ = md % W * 16 + 0; omega)) ?_
  refine lv_istore (lv' := [(5, .int (nI (bL W md 0))), (4, .int 0), (0, .ref o), (1, .int 0), (2, .int 1), (3, .int 0)]) hx hb dX7_putBlock_45 hl (by decide) rfl (fun ls hl => ?_)
  refine lv_iload hx hb dX7_putBlock_47 (lv_at hl 1 rfl) ?_
  refine lv_if_ne (tgt := 74) hx hb dX7_putBlock_49 (by decide) (fun c_49 => absurd (by decide) c_49) (fun _ => ?_)
  refine lv_bipush (v := 16) hx hb dX7_putBlock_52 (by decide) ?_
  refine lv_aload_n hx hb dX7_putBlock_54 rfl (lv_at hl 2 rfl) ?_
  refine xget (C := RX7) (T := TX7) (N := 34) hF hX hP (by decide +kernel) 0 18 rfl rfl (by decide) (by decide +kernel) rfl dX7_putBlock_55 ?_
  refine lv_aload_n hx hb dX7_putBlock_58 rfl (lv_at hl 2 rfl) ?_
  refine xget (C := RX7) (T := TX7) (N := 34) hF hX hP (by decide +kernel) 0 1 rfl rfl (by decide) (by decide +kernel) rfl dX7_putBlock_59 ?_
  refine lv_idiv hx hb dX7_putBlock_62 (nI_ne0 (by omega) (by omega)) ?_
  refine xrwi (z := nI (md / W)) (pk_div (by omega) (by omega) (by omega)) ?_
  refine lv_imul hx hb dX7_putBlock_63 ?_
  refine lv_bipush (v := 8) hx hb dX7_putBlock_64 (by decide) ?_
  refine lv_iload_n hx hb dX7_putBlock_66 rfl (lv_at hl 3 rfl) ?_
  refine lv_iconst (v := 2) hx hb dX7_putBlock_67 (by decide) ?_
  refine lv_idiv hx hb dX7_putBlock_68 (by decide) ?_
  refine xrwi (z := 0) (by decide) ?_
  refine lv_imul hx hb dX7_putBlock_69 ?_
  refine xrwi (z := 0) (by decide) ?_
  refine lv_iadd hx hb dX7_putBlock_70 ?_
  refine lv_goto (tgt := 86) hx hb dX7_putBlock_71 (by decide) ?_
  refine xrwi (z := nI (bT W md 0)) (by rw [show (16 : Int32) * nI (md / W) = nI (16 * (md / W)) from pk_mul 16 _, show nI (16 * (md / W)) + 0 = nI (16 * (md / W) + 0) from nI_add _ 0]; exact congrArg nI (show 16 * (md / W) + 0 = bT W md 0 by show _ = md / W * 16 + 0; omega)) ?_
  refine lv_istore (lv' := [(6, .int (nI (bT W md 0))), (5, .int (nI (bL W md 0))), (4, .int 0), (0, .ref o), (1, .int 0), (2, .int 1), (3, .int 0)]) hx hb dX7_putBlock_86 hl (by decide) rfl (fun ls hl => ?_)
  refine lv_iconst (v := 0) hx hb dX7_putBlock_88 (by decide) ?_
  refine lv_istore (lv' := [(7, .int 0), (6, .int (nI (bT W md 0))), (5, .int (nI (bL W md 0))), (4, .int 0), (0, .ref o), (1, .int 0), (2, .int 1), (3, .int 0)]) hx hb dX7_putBlock_89 hl (by decide) rfl (fun ls hl => ?_)
  have loop_91 : ∀ (k91 : Nat) (y : Nat), 8 - y < k91 → y ≤ 8 → ∀ (Hp : Heap) (locs : List Loc) (ls : Array Slot), va_P D vwCl [(o, .inr (7, mdF th W H mt qu zz nw ol ne se ke nc ns is ik dc sc 3 md wh fa re ve ps 0 tl di lv bf bo bd co bt ma)), (nw, .inl (cs 0, 4608, .inl (mpB gw W md 0 (mlF W md 0 mf (fun x9 y9 => (mft (lokP go 0) (wdt 0 W) (wdt 0 H) (nI x9) (nI y9) (mus wh (V 0) 0) (mus wh (V 1) 0)))) (y * 8)))), (ol, .inl (cs 0, 4608, .inl go)), (ne, .inl (cs 0, 4608, .inl gn)), (ve, .inl (cs 0, 4, .inl V)), (ma, .inl (cs 0, 64, .inl mf))] Hp → va_D A [(o, .inr (7, mdF th W H mt qu zz nw ol ne se ke nc ns is ik dc sc 3 md wh fa re ve ps 0 tl di lv bf bo bd co bt ma)), (nw, .inl (cs 0, 4608, .inl (mpB gw W md 0 (mlF W md 0 mf (fun x9 y9 => (mft (lokP go 0) (wdt 0 W) (wdt 0 H) (nI x9) (nI y9) (mus wh (V 0) 0) (mus wh (V 1) 0)))) (y * 8)))), (ol, .inl (cs 0, 4608, .inl go)), (ne, .inl (cs 0, 4608, .inl gn)), (ve, .inl (cs 0, 4, .inl V)), (ma, .inl (cs 0, 64, .inl mf))] → va_S A s.heap Hp locs → lv_has ls 10 [(0, .ref o), (2, .int 1), (3, .int 0), (4, .int 0), (5, .int (nI (bL W md 0))), (6, .int (nI (bT W md 0))), (7, .int (nI y))] → xW p l e ({ frames := 4, cells := 0, slots := 0, locals := 104 } : Room) s m ([.ref o, .int 0, .int 1, .int 0] : List Value).toArray below meth c Hp locs 0 0 (MQ below (xE D A none [(o, .inr (7, mdF th W H mt qu zz nw ol ne se ke nc ns is ik dc sc 3 md wh fa re ve ps 0 tl di lv bf bo bd co bt ma)), (nw, .inl (cs 0, 4608, .inl (mpB gw W md 0 (mlF W md 0 mf (fun x9 y9 => (mft (lokP go 0) (wdt 0 W) (wdt 0 H) (nI x9) (nI y9) (mus wh (V 0) 0) (mus wh (V 1) 0)))) (64)))), (ol, .inl (cs 0, 4608, .inl go)), (ne, .inl (cs 0, 4608, .inl gn)), (ve, .inl (cs 0, 4, .inl V)), (ma, .inl (cs 0, 64, .inl mf))]) ([.ref o, .int 0, .int 1, .int 0] : List Value).toArray s 0 0 A) (F0 m 91 ls []) := by
    intro k91
    induction k91 with
    | zero => intro y h9; omega
    | succ k91 ih_91 =>
      intro y hk91 hy9 Hp locs ls hP hD hS hl
      refine lv_iload hx hb dX7_putBlock_91 (lv_at hl 6 rfl) ?_
      refine lv_bipush (v := 8) hx hb dX7_putBlock_93 (by decide) ?_
      refine lv_icmp_ge (tgt := 199) hx hb dX7_putBlock_95 (by decide) (fun c_95 => ?_) (fun c_95 => ?_)
      · have ey : y = 8 := by have := nIle (a := 8) (b := y) rfl rfl (by decide) (by omega) c_95; omega
        have hP := xeqP hP (congrArg (fun z9 => ([(o, .inr (7, mdF th W H mt qu zz nw ol ne se ke nc ns is ik dc sc 3 md wh fa re ve ps 0 tl di lv bf bo bd co bt ma)), (nw, .inl (cs 0, 4608, .inl z9)), (ol, .inl (cs 0, 4608, .inl go)), (ne, .inl (cs 0, 4608, .inl gn)), (ve, .inl (cs 0, 4, .inl V)), (ma, .inl (cs 0, 64, .inl mf))] : va_W)) (congrArg (mpB gw W md 0 (mlF W md 0 mf (fun x9 y9 => (mft (lokP go 0) (wdt 0 W) (wdt 0 H) (nI x9) (nI y9) (mus wh (V 0) 0) (mus wh (V 1) 0))))) (show y * 8 = 64 by omega)))
        have hD := xeqD hD (congrArg (fun z9 => ([(o, .inr (7, mdF th W H mt qu zz nw ol ne se ke nc ns is ik dc sc 3 md wh fa re ve ps 0 tl di lv bf bo bd co bt ma)), (nw, .inl (cs 0, 4608, .inl z9)), (ol, .inl (cs 0, 4608, .inl go)), (ne, .inl (cs 0, 4608, .inl gn)), (ve, .inl (cs 0, 4, .inl V)), (ma, .inl (cs 0, 64, .inl mf))] : va_W)) (congrArg (mpB gw W md 0 (mlF W md 0 mf (fun x9 y9 => (mft (lokP go 0) (wdt 0 W) (wdt 0 H) (nI x9) (nI y9) (mus wh (V 0) 0) (mus wh (V 1) 0))))) (show y * 8 = 64 by omega)))
        exact xrv hF hr hlk hP hD hS dX7_putBlock_199
      · have hyl : y < 8 := nInle (a := 8) (b := y) rfl rfl (by decide) (by omega) c_95
        refine lv_iconst (v := 0) hx hb dX7_putBlock_98 (by decide) ?_
        refine lv_istore (lv' := [(8, .int 0), (0, .ref o), (2, .int 1), (3, .int 0), (4, .int 0), (5, .int (nI (bL W md 0))), (6, .int (nI (bT W md 0))), (7, .int (nI y))]) hx hb dX7_putBlock_99 hl (by decide) rfl (fun ls hl => ?_)
        have loop_101 : ∀ (k101 : Nat) (x : Nat), 8 - x < k101 → x ≤ 8 → ∀ (Hp : Heap) (locs : List Loc) (ls : Array Slot), va_P D vwCl [(o, .inr (7, mdF th W H mt qu zz nw ol ne se ke nc ns is ik dc sc 3 md wh fa re ve ps 0 tl di lv bf bo bd co bt ma)), (nw, .inl (cs 0, 4608, .inl (mpB gw W md 0 (mlF W md 0 mf (fun x9 y9 => (mft (lokP go 0) (wdt 0 W) (wdt 0 H) (nI x9) (nI y9) (mus wh (V 0) 0) (mus wh (V 1) 0)))) (y * 8 + x)))), (ol, .inl (cs 0, 4608, .inl go)), (ne, .inl (cs 0, 4608, .inl gn)), (ve, .inl (cs 0, 4, .inl V)), (ma, .inl (cs 0, 64, .inl mf))] Hp → va_D A [(o, .inr (7, mdF th W H mt qu zz nw ol ne se ke nc ns is ik dc sc 3 md wh fa re ve ps 0 tl di lv bf bo bd co bt ma)), (nw, .inl (cs 0, 4608, .inl (mpB gw W md 0 (mlF W md 0 mf (fun x9 y9 => (mft (lokP go 0) (wdt 0 W) (wdt 0 H) (nI x9) (nI y9) (mus wh (V 0) 0) (mus wh (V 1) 0)))) (y * 8 + x)))), (ol, .inl (cs 0, 4608, .inl go)), (ne, .inl (cs 0, 4608, .inl gn)), (ve, .inl (cs 0, 4, .inl V)), (ma, .inl (cs 0, 64, .inl mf))] → va_S A s.heap Hp locs → lv_has ls 10 [(0, .ref o), (2, .int 1), (3, .int 0), (4, .int 0), (5, .int (nI (bL W md 0))), (6, .int (nI (bT W md 0))), (7, .int (nI y)), (8, .int (nI x))] → xW p l e ({ frames := 4, cells := 0, slots := 0, locals := 104 } : Room) s m ([.ref o, .int 0, .int 1, .int 0] : List Value).toArray below meth c Hp locs 0 0 (MQ below (xE D A none [(o, .inr (7, mdF th W H mt qu zz nw ol ne se ke nc ns is ik dc sc 3 md wh fa re ve ps 0 tl di lv bf bo bd co bt ma)), (nw, .inl (cs 0, 4608, .inl (mpB gw W md 0 (mlF W md 0 mf (fun x9 y9 => (mft (lokP go 0) (wdt 0 W) (wdt 0 H) (nI x9) (nI y9) (mus wh (V 0) 0) (mus wh (V 1) 0)))) (64)))), (ol, .inl (cs 0, 4608, .inl go)), (ne, .inl (cs 0, 4608, .inl gn)), (ve, .inl (cs 0, 4, .inl V)), (ma, .inl (cs 0, 64, .inl mf))]) ([.ref o, .int 0, .int 1, .int 0] : List Value).toArray s 0 0 A) (F0 m 101 ls []) := by
          intro k101
          induction k101 with
          | zero => intro x h9; omega
          | succ k101 ih_101 =>
            intro x hk101 hx9 Hp locs ls hP hD hS hl
            refine lv_iload hx hb dX7_putBlock_101 (lv_at hl 7 rfl) ?_
            refine lv_bipush (v := 8) hx hb dX7_putBlock_103 (by decide) ?_
            refine lv_icmp_ge (tgt := 193) hx hb dX7_putBlock_105 (by decide) (fun c_105 => ?_) (fun c_105 => ?_)
            · have ex : x = 8 := by have := nIle (a := 8) (b := x) rfl rfl (by decide) (by omega) c_105; omega
              have hP := xeqP hP (congrArg (fun z9 => ([(o, .inr (7, mdF th W H mt qu zz nw ol ne se ke nc ns is ik dc sc 3 md wh fa re ve ps 0 tl di lv bf bo bd co bt ma)), (nw, .inl (cs 0, 4608, .inl z9)), (ol, .inl (cs 0, 4608, .inl go)), (ne, .inl (cs 0, 4608, .inl gn)), (ve, .inl (cs 0, 4, .inl V)), (ma, .inl (cs 0, 64, .inl mf))] : va_W)) (congrArg (mpB gw W md 0 (mlF W md 0 mf (fun x9 y9 => (mft (lokP go 0) (wdt 0 W) (wdt 0 H) (nI x9) (nI y9) (mus wh (V 0) 0) (mus wh (V 1) 0))))) (show y * 8 + x = (y + 1) * 8 by omega)))
              have hD := xeqD hD (congrArg (fun z9 => ([(o, .inr (7, mdF th W H mt qu zz nw ol ne se ke nc ns is ik dc sc 3 md wh fa re ve ps 0 tl di lv bf bo bd co bt ma)), (nw, .inl (cs 0, 4608, .inl z9)), (ol, .inl (cs 0, 4608, .inl go)), (ne, .inl (cs 0, 4608, .inl gn)), (ve, .inl (cs 0, 4, .inl V)), (ma, .inl (cs 0, 64, .inl mf))] : va_W)) (congrArg (mpB gw W md 0 (mlF W md 0 mf (fun x9 y9 => (mft (lokP go 0) (wdt 0 W) (wdt 0 H) (nI x9) (nI y9) (mus wh (V 0) 0) (mus wh (V 1) 0))))) (show y * 8 + x = (y + 1) * 8 by omega)))
              refine lv_iinc (v := (nI (y + 1))) (lv' := [(7, .int (nI (y + 1))), (0, .ref o), (2, .int 1), (3, .int 0), (4, .int 0), (5, .int (nI (bL W md 0))), (6, .int (nI (bT W md 0))), (8, .int (nI x))]) hx hb dX7_putBlock_193 hl (k := 6) rfl (nI_1 y) (by decide) rfl (fun ls hl => ?_)
              refine lv_goto (tgt := 91) hx hb dX7_putBlock_196 (by decide) ?_
              exact ih_91 (y + 1) (by omega) (by omega) _ _ _ hP hD hS (lv_sub hl [1, 2, 3, 4, 5, 6, 0] rfl)
            · have hxl : x < 8 := nInle (a := 8) (b := x) rfl rfl (by decide) (by omega) c_105
              refine lv_aload_n hx hb dX7_putBlock_108 rfl (lv_at hl 0 rfl) ?_
              refine xget (C := RX7) (T := TX7) (N := 34) hF hX hP (by decide +kernel) 0 33 rfl rfl (by decide) (by decide +kernel) rfl dX7_putBlock_109 ?_
              refine lv_bipush (v := 8) hx hb dX7_putBlock_112 (by decide) ?_
              refine lv_iload hx hb dX7_putBlock_114 (lv_at hl 6 rfl) ?_
              refine lv_imul hx hb dX7_putBlock_116 ?_
              refine lv_iload hx hb dX7_putBlock_117 (lv_at hl 7 rfl) ?_
              refine lv_iadd hx hb dX7_putBlock_119 ?_
              refine xrwi (z := nI (y * 8 + x)) (k8 y x) ?_
              refine xald (k := y * 8 + x) hF hX hP 5 rfl (nI_clamp (by omega)) (vp_in_nI (by omega) (by decide)) dX7_putBlock_120 ?_
              refine lv_istore (lv' := [(9, .int (mf (y * 8 + x))), (0, .ref o), (2, .int 1), (3, .int 0), (4, .int 0), (5, .int (nI (bL W md 0))), (6, .int (nI (bT W md 0))), (7, .int (nI y)), (8, .int (nI x))]) hx hb dX7_putBlock_121 hl (by decide) rfl (fun ls hl => ?_)
              refine lv_aload_n hx hb dX7_putBlock_123 rfl (lv_at hl 1 rfl) ?_
              refine xget (C := RX7) (T := TX7) (N := 34) hF hX hP (by decide +kernel) 0 24 rfl rfl (by decide) (by decide +kernel) rfl dX7_putBlock_124 ?_
              refine lv_if_eq (tgt := 135) hx hb dX7_putBlock_127 (by decide) (fun _ => ?_) (fun c_127 => absurd (by decide) c_127)
              refine lv_iload hx hb dX7_putBlock_135 (lv_at hl 0 rfl) ?_
              refine lv_aload_n hx hb dX7_putBlock_137 rfl (lv_at hl 1 rfl) ?_
              refine lv_iload_n hx hb dX7_putBlock_138 rfl (lv_at hl 2 rfl) ?_
              refine lv_iload_n hx hb dX7_putBlock_139 rfl (lv_at hl 3 rfl) ?_
              refine lv_iload hx hb dX7_putBlock_140 (lv_at hl 4 rfl) ?_
              refine lv_iload hx hb dX7_putBlock_142 (lv_at hl 5 rfl) ?_
              refine lv_iload hx hb dX7_putBlock_144 (lv_at hl 8 rfl) ?_
              refine lv_iadd hx hb dX7_putBlock_146 ?_
              refine xrwi (z := nI ((bL W md 0) + x)) (nI_add _ _) ?_
              refine lv_iload hx hb dX7_putBlock_147 (lv_at hl 6 rfl) ?_
              refine lv_iload hx hb dX7_putBlock_149 (lv_at hl 7 rfl) ?_
              refine lv_iadd hx hb dX7_putBlock_151 ?_
              refine xrwi (z := nI ((bT W md 0) + y)) (nI_add _ _) ?_
              refine xV (rest := [.int (mf (y * 8 + x))]) (As := [.int 1, .int 0, .int 0, .int (nI ((bL W md 0) + x)), .int (nI ((bT W md 0) + y))]) (ws1 := [(o, .inr (7, mdF th W H mt qu zz nw ol ne se ke nc ns is ik dc sc 3 md wh fa re ve ps 0 tl di lv bf bo bd co bt ma)), (nw, .inl (cs 0, 4608, .inl (mpB gw W md 0 (mlF W md 0 mf (fun x9 y9 => (mft (lokP go 0) (wdt 0 W) (wdt 0 H) (nI x9) (nI y9) (mus wh (V 0) 0) (mus wh (V 1) 0)))) (y * 8 + x)))), (ol, .inl (cs 0, 4608, .inl go)), (ne, .inl (cs 0, 4608, .inl gn)), (ve, .inl (cs 0, 4, .inl V)), (ma, .inl (cs 0, 64, .inl mf))]) (st1 := [.int (mft (lokP go 0) (wdt 0 W) (wdt 0 H) (nI ((bL W md 0) + x)) (nI ((bT W md 0) + y)) (mus wh (V 0) 0) (mus wh (V 1) 0)), .int (mf (y * 8 + x))]) hF (c_X7_fetchedB l D cs tt o mt qu zz nw ol ne se ke re ve ps di lv bd co bt ma W H md th nc ns is ik dc sc wh fa 0 tl bf bo 0 (nI ((bL W md 0) + x)) (nI ((bT W md 0) + y)) go gn V (by decide) hw hw4 hh hh3) gX7_putBlock_X7_fetched rfl (n := 5) (by decide +kernel) rfl ⟨⟨rfl, rfl⟩, Nat.le_of_ble_eq_true rfl, Nat.le_of_ble_eq_true rfl⟩ ⟨Nat.le_of_ble_eq_true rfl, Nat.le_of_ble_eq_true rfl⟩ hX hP hD hS [0, 2, 3, 4] (by decide) rfl [o, ol, ne, ve] rfl rfl (q0 := 0) (ci := 7) rfl rfl rfl hl.1 rfl (Nat.le_of_ble_eq_true rfl) dX7_putBlock_152 rfl rfl (fun Hp locs hP hD hS => ?_)
              refine lv_iadd hx hb dX7_putBlock_155 ?_
              refine lv_istore (lv' := [(9, .int ((mf (y * 8 + x)) + (mft (lokP go 0) (wdt 0 W) (wdt 0 H) (nI ((bL W md 0) + x)) (nI ((bT W md 0) + y)) (mus wh (V 0) 0) (mus wh (V 1) 0)))), (0, .ref o), (2, .int 1), (3, .int 0), (4, .int 0), (5, .int (nI (bL W md 0))), (6, .int (nI (bT W md 0))), (7, .int (nI y)), (8, .int (nI x))]) hx hb dX7_putBlock_156 hl (by decide) rfl (fun ls hl => ?_)
              refine lv_aload_n hx hb dX7_putBlock_158 rfl (lv_at hl 1 rfl) ?_
              refine xget (C := RX7) (T := TX7) (N := 34) hF hX hP (by decide +kernel) 0 6 rfl rfl (by decide) (by decide +kernel) rfl dX7_putBlock_159 ?_
              refine lv_iload hx hb dX7_putBlock_162 (lv_at hl 4 rfl) ?_
              refine lv_iload hx hb dX7_putBlock_164 (lv_at hl 5 rfl) ?_
              refine lv_iload hx hb dX7_putBlock_166 (lv_at hl 8 rfl) ?_
              refine lv_iadd hx hb dX7_putBlock_168 ?_
              refine xrwi (z := nI ((bL W md 0) + x)) (nI_add _ _) ?_
              refine lv_iload hx hb dX7_putBlock_169 (lv_at hl 6 rfl) ?_
              refine lv_iload hx hb dX7_putBlock_171 (lv_at hl 7 rfl) ?_
              refine lv_iadd hx hb dX7_putBlock_173 ?_
              refine xrwi (z := nI ((bT W md 0) + y)) (nI_add _ _) ?_
              refine xSt (rest := [.ref nw]) (As := [.int 0, .int (nI ((bL W md 0) + x)), .int (nI ((bT W md 0) + y))]) (ws1 := [(o, .inr (7, mdF th W H mt qu zz nw ol ne se ke nc ns is ik dc sc 3 md wh fa re ve ps 0 tl di lv bf bo bd co bt ma)), (nw, .inl (cs 0, 4608, .inl (mpB gw W md 0 (mlF W md 0 mf (fun x9 y9 => (mft (lokP go 0) (wdt 0 W) (wdt 0 H) (nI x9) (nI y9) (mus wh (V 0) 0) (mus wh (V 1) 0)))) (y * 8 + x)))), (ol, .inl (cs 0, 4608, .inl go)), (ne, .inl (cs 0, 4608, .inl gn)), (ve, .inl (cs 0, 4, .inl V)), (ma, .inl (cs 0, 64, .inl mf))]) (st1 := [.int (nI (plc 0 ((bL W md 0) + x) ((bT W md 0) + y))), .ref nw]) hF (c_X7_place l D cs tt 0 ((bL W md 0) + x) ((bT W md 0) + y) (by decide)) gX7_putBlock_X7_place rfl (n := 3) (by decide +kernel) rfl ⟨⟨rfl, rfl⟩, Nat.le_of_ble_eq_true rfl, Nat.le_of_ble_eq_true rfl⟩ ⟨Nat.le_of_ble_eq_true rfl, Nat.le_of_ble_eq_true rfl⟩ hX hP hD hS [] (by decide) rfl [] rfl rfl hl.1 rfl (Nat.le_of_ble_eq_true rfl) dX7_putBlock_174 rfl rfl (fun Hp locs hP hD hS => ?_)
              refine xrwi (z := nI (0 + (((bT W md 0) + y) * 64 + ((bL W md 0) + x)))) (by unfold plc; rw [if_pos rfl]; exact congrArg nI (by omega)) ?_
              refine lv_iload hx hb dX7_putBlock_177 (lv_at hl 0 rfl) ?_
              refine lv_iconst (v := 0) hx hb dX7_putBlock_179 (by decide) ?_
              refine lv_sipush (v := 255) hx hb dX7_putBlock_180 (by decide) ?_
              refine xSt (rest := [.int (nI (0 + (((bT W md 0) + y) * 64 + ((bL W md 0) + x)))), .ref nw]) (As := [.int ((mf (y * 8 + x)) + (mft (lokP go 0) (wdt 0 W) (wdt 0 H) (nI ((bL W md 0) + x)) (nI ((bT W md 0) + y)) (mus wh (V 0) 0) (mus wh (V 1) 0))), .int 0, .int 255]) (ws1 := [(o, .inr (7, mdF th W H mt qu zz nw ol ne se ke nc ns is ik dc sc 3 md wh fa re ve ps 0 tl di lv bf bo bd co bt ma)), (nw, .inl (cs 0, 4608, .inl (mpB gw W md 0 (mlF W md 0 mf (fun x9 y9 => (mft (lokP go 0) (wdt 0 W) (wdt 0 H) (nI x9) (nI y9) (mus wh (V 0) 0) (mus wh (V 1) 0)))) (y * 8 + x)))), (ol, .inl (cs 0, 4608, .inl go)), (ne, .inl (cs 0, 4608, .inl gn)), (ve, .inl (cs 0, 4, .inl V)), (ma, .inl (cs 0, 64, .inl mf))]) (st1 := [.int (bnd ((mf (y * 8 + x)) + (mft (lokP go 0) (wdt 0 W) (wdt 0 H) (nI ((bL W md 0) + x)) (nI ((bT W md 0) + y)) (mus wh (V 0) 0) (mus wh (V 1) 0))) 0 255), .int (nI (0 + (((bT W md 0) + y) * 64 + ((bL W md 0) + x)))), .ref nw]) hF (c_X7_within l D cs tt ((mf (y * 8 + x)) + (mft (lokP go 0) (wdt 0 W) (wdt 0 H) (nI ((bL W md 0) + x)) (nI ((bT W md 0) + y)) (mus wh (V 0) 0) (mus wh (V 1) 0))) 0 255) gX7_putBlock_X7_within rfl (n := 3) (by decide +kernel) rfl ⟨⟨rfl, rfl⟩, Nat.le_of_ble_eq_true rfl, Nat.le_of_ble_eq_true rfl⟩ ⟨Nat.le_of_ble_eq_true rfl, Nat.le_of_ble_eq_true rfl⟩ hX hP hD hS [] (by decide) rfl [] rfl rfl hl.1 rfl (Nat.le_of_ble_eq_true rfl) dX7_putBlock_183 rfl rfl (fun Hp locs hP hD hS => ?_)
              refine xast (k := 0 + (((bT W md 0) + y) * 64 + ((bL W md 0) + x))) (ws1 := [(o, .inr (7, mdF th W H mt qu zz nw ol ne se ke nc ns is ik dc sc 3 md wh fa re ve ps 0 tl di lv bf bo bd co bt ma)), (nw, .inl (cs 0, 4608, .inl (mpB gw W md 0 (mlF W md 0 mf (fun x9 y9 => (mft (lokP go 0) (wdt 0 W) (wdt 0 H) (nI x9) (nI y9) (mus wh (V 0) 0) (mus wh (V 1) 0)))) (y * 8 + (x + 1))))), (ol, .inl (cs 0, 4608, .inl go)), (ne, .inl (cs 0, 4608, .inl gn)), (ve, .inl (cs 0, 4, .inl V)), (ma, .inl (cs 0, 64, .inl mf))]) hF hX hP hD hS 1 rfl (nI_clamp (by omega)) (vp_in_nI (by omega) (by decide)) dX7_putBlock_186 (congrArg (fun z9 => ([(o, .inr (7, mdF th W H mt qu zz nw ol ne se ke nc ns is ik dc sc 3 md wh fa re ve ps 0 tl di lv bf bo bd co bt ma)), (nw, .inl (cs 0, 4608, .inl z9)), (ol, .inl (cs 0, 4608, .inl go)), (ne, .inl (cs 0, 4608, .inl gn)), (ve, .inl (cs 0, 4, .inl V)), (ma, .inl (cs 0, 64, .inl mf))] : va_W)) (pbs gw (mlF W md 0 mf (fun x9 y9 => (mft (lokP go 0) (wdt 0 W) (wdt 0 H) (nI x9) (nI y9) (mus wh (V 0) 0) (mus wh (V 1) 0)))) (by unfold mlF; rw [show ((bT W md 0) + y - (bT W md 0)) * 8 + ((bL W md 0) + x - (bL W md 0)) = y * 8 + x by omega]) hxl (show (bL W md 0) + 8 ≤ 64 by omega))) (fun Hp locs hP hD hS => ?_)
              refine lv_iinc (v := (nI (x + 1))) (lv' := [(8, .int (nI (x + 1))), (9, .int ((mf (y * 8 + x)) + (mft (lokP go 0) (wdt 0 W) (wdt 0 H) (nI ((bL W md 0) + x)) (nI ((bT W md 0) + y)) (mus wh (V 0) 0) (mus wh (V 1) 0)))), (0, .ref o), (2, .int 1), (3, .int 0), (4, .int 0), (5, .int (nI (bL W md 0))), (6, .int (nI (bT W md 0))), (7, .int (nI y))]) hx hb dX7_putBlock_187 hl (k := 8) rfl (nI_1 x) (by decide) rfl (fun ls hl => ?_)
              refine lv_goto (tgt := 101) hx hb dX7_putBlock_190 (by decide) ?_
              exact ih_101 (x + 1) (by omega) (by omega) _ _ _ hP hD hS (lv_sub hl [2, 3, 4, 5, 6, 7, 8, 0] rfl)
        exact loop_101 (8 - 0 + 1) 0 (Nat.lt_succ_self _) (by decide) _ _ _ hP hD hS (lv_sub hl [1, 2, 3, 4, 5, 6, 7, 0] rfl)
  have hP := xeqP hP (congrArg (fun z9 => ([(o, .inr (7, mdF th W H mt qu zz nw ol ne se ke nc ns is ik dc sc 3 md wh fa re ve ps 0 tl di lv bf bo bd co bt ma)), (nw, .inl (cs 0, 4608, .inl z9)), (ol, .inl (cs 0, 4608, .inl go)), (ne, .inl (cs 0, 4608, .inl gn)), (ve, .inl (cs 0, 4, .inl V)), (ma, .inl (cs 0, 64, .inl mf))] : va_W)) ((show gw = mpB gw W md 0 (mlF W md 0 mf (fun x9 y9 => (mft (lokP go 0) (wdt 0 W) (wdt 0 H) (nI x9) (nI y9) (mus wh (V 0) 0) (mus wh (V 1) 0)))) (0 * 8) from (blkTo_0 gw _ _ _ _ 8 (mlF W md 0 mf (fun x9 y9 => (mft (lokP go 0) (wdt 0 W) (wdt 0 H) (nI x9) (nI y9) (mus wh (V 0) 0) (mus wh (V 1) 0))))).symm)))
  have hD := xeqD hD (congrArg (fun z9 => ([(o, .inr (7, mdF th W H mt qu zz nw ol ne se ke nc ns is ik dc sc 3 md wh fa re ve ps 0 tl di lv bf bo bd co bt ma)), (nw, .inl (cs 0, 4608, .inl z9)), (ol, .inl (cs 0, 4608, .inl go)), (ne, .inl (cs 0, 4608, .inl gn)), (ve, .inl (cs 0, 4, .inl V)), (ma, .inl (cs 0, 64, .inl mf))] : va_W)) ((show gw = mpB gw W md 0 (mlF W md 0 mf (fun x9 y9 => (mft (lokP go 0) (wdt 0 W) (wdt 0 H) (nI x9) (nI y9) (mus wh (V 0) 0) (mus wh (V 1) 0)))) (0 * 8) from (blkTo_0 gw _ _ _ _ 8 (mlF W md 0 mf (fun x9 y9 => (mft (lokP go 0) (wdt 0 W) (wdt 0 H) (nI x9) (nI y9) (mus wh (V 0) 0) (mus wh (V 1) 0))))).symm)))
  exact loop_91 (8 - 0 + 1) 0 (Nat.lt_succ_self _) (by decide) _ _ _ hP hD hS (lv_sub hl [4, 6, 7, 3, 2, 1, 0] rfl)

set_option maxHeartbeats 4000000 in
set_option maxRecDepth 100000 in
theorem c_X7_putBlock0C (l : Launch) (D : va_G) (cs : Nat → ClassId) (tt : Nat → Nat) (o mt qu zz nw ol ne se ke re ve ps di lv bd co bt ma W H md : Nat) (th nc ns is ik dc sc wh fa tl bf bo : Int32) (gw mf go gn V : Nat → Int32) (hw : 1 ≤ W) (hw4 : W ≤ 4) (hh : 1 ≤ H) (hh3 : H ≤ 3) (hmd : md < W * H) : xM l yX7_putBlock wsX7_putBlock ({ frames := 4, cells := 0, slots := 0, locals := 104 } : Room) D cs tt [.ref o, .int 0, .int 0, .int 1] [(o, .inr (7, mdF th W H mt qu zz nw ol ne se ke nc ns is ik dc sc 3 md wh fa re ve ps 0 tl di lv bf bo bd co bt ma)), (nw, .inl (cs 0, 4608, .inl gw)), (ol, .inl (cs 0, 4608, .inl go)), (ne, .inl (cs 0, 4608, .inl gn)), (ve, .inl (cs 0, 4, .inl V)), (ma, .inl (cs 0, 64, .inl mf))] none [(o, .inr (7, mdF th W H mt qu zz nw ol ne se ke nc ns is ik dc sc 3 md wh fa re ve ps 0 tl di lv bf bo bd co bt ma)), (nw, .inl (cs 0, 4608, .inl (mpB gw W md 0 (mlF W md 0 mf (fun x9 y9 => (mft (lokP gn 0) (wdt 0 W) (wdt 0 H) (nI x9) (nI y9) (mus wh (V 2) 0) (mus wh (V 3) 0)))) (64)))), (ol, .inl (cs 0, 4608, .inl go)), (ne, .inl (cs 0, 4608, .inl gn)), (ve, .inl (cs 0, 4, .inl V)), (ma, .inl (cs 0, 64, .inl mf))] := by
  refine xM.of RX7 rfl (by decide) rfl (Nat.le_of_ble_eq_true rfl) ?_
  intro p e s m below meth c A ls hF hr hlk hX hP hD hS hl
  have hx := hF.1
  have hb := hF.2.1
  have hl : lv_has ls 10 [(0, .ref o), (1, .int 0), (2, .int 0), (3, .int 1)] := hl
  have hm4 : md < 4096 := Nat.lt_of_lt_of_le hmd (Nat.le_trans (Nat.mul_le_mul hw4 hh3) (by decide))
  have hb9 := b_in hw hmd 0 (by decide)
  have hbl : (bL W md 0) + 8 ≤ 16 * W := hb9.1
  have hbt : (bT W md 0) + 8 ≤ 16 * H := hb9.2
  have hsL : bL W md 0 = bL W md 0 := rfl
  refine lv_iload_n hx hb dX7_putBlock_0 rfl (lv_at hl 1 rfl) ?_
  refine xSt (rest := []) (As := [.int 0]) (ws1 := [(o, .inr (7, mdF th W H mt qu zz nw ol ne se ke nc ns is ik dc sc 3 md wh fa re ve ps 0 tl di lv bf bo bd co bt ma)), (nw, .inl (cs 0, 4608, .inl gw)), (ol, .inl (cs 0, 4608, .inl go)), (ne, .inl (cs 0, 4608, .inl gn)), (ve, .inl (cs 0, 4, .inl V)), (ma, .inl (cs 0, 64, .inl mf))]) (st1 := [.int (pln 0)]) hF (c_X7_planeOf l D cs tt 0) gX7_putBlock_X7_planeOf rfl (n := 1) (by decide +kernel) rfl ⟨⟨rfl, rfl⟩, Nat.le_of_ble_eq_true rfl, Nat.le_of_ble_eq_true rfl⟩ ⟨Nat.le_of_ble_eq_true rfl, Nat.le_of_ble_eq_true rfl⟩ hX hP hD hS [] (by decide) rfl [] rfl rfl hl.1 rfl (Nat.le_of_ble_eq_true rfl) dX7_putBlock_1 rfl rfl (fun Hp locs hP hD hS => ?_)
  refine xrwi (z := 0) (by decide) ?_
  refine lv_istore (lv' := [(4, .int 0), (0, .ref o), (1, .int 0), (2, .int 0), (3, .int 1)]) hx hb dX7_putBlock_4 hl (by decide) rfl (fun ls hl => ?_)
  refine lv_iload hx hb dX7_putBlock_6 (lv_at hl 0 rfl) ?_
  refine lv_if_ne (tgt := 33) hx hb dX7_putBlock_8 (by decide) (fun c_8 => absurd (by decide) c_8) (fun _ => ?_)
  refine lv_bipush (v := 16) hx hb dX7_putBlock_11 (by decide) ?_
  refine lv_aload_n hx hb dX7_putBlock_13 rfl (lv_at hl 1 rfl) ?_
  refine xget (C := RX7) (T := TX7) (N := 34) hF hX hP (by decide +kernel) 0 18 rfl rfl (by decide) (by decide +kernel) rfl dX7_putBlock_14 ?_
  refine lv_aload_n hx hb dX7_putBlock_17 rfl (lv_at hl 1 rfl) ?_
  refine xget (C := RX7) (T := TX7) (N := 34) hF hX hP (by decide +kernel) 0 1 rfl rfl (by decide) (by decide +kernel) rfl dX7_putBlock_18 ?_
  refine lv_irem hx hb dX7_putBlock_21 (nI_ne0 (by omega) (by omega)) ?_
  refine xrwi (z := nI (md % W)) (pk_rem (by omega) (by omega) (by omega)) ?_
  refine lv_imul hx hb dX7_putBlock_22 ?_
  refine lv_bipush (v := 8) hx hb dX7_putBlock_23 (by decide) ?_
  refine lv_iload_n hx hb dX7_putBlock_25 rfl (lv_at hl 2 rfl) ?_
  refine lv_iconst (v := 2) hx hb dX7_putBlock_26 (by decide) ?_
  refine lv_irem hx hb dX7_putBlock_27 (by decide) ?_
  refine xrwi (z := 0) (by decide) ?_
  refine lv_imul hx hb dX7_putBlock_28 ?_
  refine xrwi (z := 0) (by decide) ?_
  refine lv_iadd hx hb dX7_putBlock_29 ?_
  refine lv_goto (tgt := 45) hx hb dX7_putBlock_30 (by decide) ?_
  refine xrwi (z := nI (bL W md 0)) (by rw [show (16 : Int32) * nI (md % W) = nI (16 * (md % W)) from pk_mul 16 _, show nI (16 * (md % W)) + 0 = nI (16 * (md % W) + 0) from nI_add _ 0]; exact congrArg nI (show 16 * (md % W) + 0 = bL W md 0 by show _ = md % W * 16 + 0; omega)) ?_
  refine lv_istore (lv' := [(5, .int (nI (bL W md 0))), (4, .int 0), (0, .ref o), (1, .int 0), (2, .int 0), (3, .int 1)]) hx hb dX7_putBlock_45 hl (by decide) rfl (fun ls hl => ?_)
  refine lv_iload hx hb dX7_putBlock_47 (lv_at hl 1 rfl) ?_
  refine lv_if_ne (tgt := 74) hx hb dX7_putBlock_49 (by decide) (fun c_49 => absurd (by decide) c_49) (fun _ => ?_)
  refine lv_bipush (v := 16) hx hb dX7_putBlock_52 (by decide) ?_
  refine lv_aload_n hx hb dX7_putBlock_54 rfl (lv_at hl 2 rfl) ?_
  refine xget (C := RX7) (T := TX7) (N := 34) hF hX hP (by decide +kernel) 0 18 rfl rfl (by decide) (by decide +kernel) rfl dX7_putBlock_55 ?_
  refine lv_aload_n hx hb dX7_putBlock_58 rfl (lv_at hl 2 rfl) ?_
  refine xget (C := RX7) (T := TX7) (N := 34) hF hX hP (by decide +kernel) 0 1 rfl rfl (by decide) (by decide +kernel) rfl dX7_putBlock_59 ?_
  refine lv_idiv hx hb dX7_putBlock_62 (nI_ne0 (by omega) (by omega)) ?_
  refine xrwi (z := nI (md / W)) (pk_div (by omega) (by omega) (by omega)) ?_
  refine lv_imul hx hb dX7_putBlock_63 ?_
  refine lv_bipush (v := 8) hx hb dX7_putBlock_64 (by decide) ?_
  refine lv_iload_n hx hb dX7_putBlock_66 rfl (lv_at hl 3 rfl) ?_
  refine lv_iconst (v := 2) hx hb dX7_putBlock_67 (by decide) ?_
  refine lv_idiv hx hb dX7_putBlock_68 (by decide) ?_
  refine xrwi (z := 0) (by decide) ?_
  refine lv_imul hx hb dX7_putBlock_69 ?_
  refine xrwi (z := 0) (by decide) ?_
  refine lv_iadd hx hb dX7_putBlock_70 ?_
  refine lv_goto (tgt := 86) hx hb dX7_putBlock_71 (by decide) ?_
  refine xrwi (z := nI (bT W md 0)) (by rw [show (16 : Int32) * nI (md / W) = nI (16 * (md / W)) from pk_mul 16 _, show nI (16 * (md / W)) + 0 = nI (16 * (md / W) + 0) from nI_add _ 0]; exact congrArg nI (show 16 * (md / W) + 0 = bT W md 0 by show _ = md / W * 16 + 0; omega)) ?_
  refine lv_istore (lv' := [(6, .int (nI (bT W md 0))), (5, .int (nI (bL W md 0))), (4, .int 0), (0, .ref o), (1, .int 0), (2, .int 0), (3, .int 1)]) hx hb dX7_putBlock_86 hl (by decide) rfl (fun ls hl => ?_)
  refine lv_iconst (v := 0) hx hb dX7_putBlock_88 (by decide) ?_
  refine lv_istore (lv' := [(7, .int 0), (6, .int (nI (bT W md 0))), (5, .int (nI (bL W md 0))), (4, .int 0), (0, .ref o), (1, .int 0), (2, .int 0), (3, .int 1)]) hx hb dX7_putBlock_89 hl (by decide) rfl (fun ls hl => ?_)
  have loop_91 : ∀ (k91 : Nat) (y : Nat), 8 - y < k91 → y ≤ 8 → ∀ (Hp : Heap) (locs : List Loc) (ls : Array Slot), va_P D vwCl [(o, .inr (7, mdF th W H mt qu zz nw ol ne se ke nc ns is ik dc sc 3 md wh fa re ve ps 0 tl di lv bf bo bd co bt ma)), (nw, .inl (cs 0, 4608, .inl (mpB gw W md 0 (mlF W md 0 mf (fun x9 y9 => (mft (lokP gn 0) (wdt 0 W) (wdt 0 H) (nI x9) (nI y9) (mus wh (V 2) 0) (mus wh (V 3) 0)))) (y * 8)))), (ol, .inl (cs 0, 4608, .inl go)), (ne, .inl (cs 0, 4608, .inl gn)), (ve, .inl (cs 0, 4, .inl V)), (ma, .inl (cs 0, 64, .inl mf))] Hp → va_D A [(o, .inr (7, mdF th W H mt qu zz nw ol ne se ke nc ns is ik dc sc 3 md wh fa re ve ps 0 tl di lv bf bo bd co bt ma)), (nw, .inl (cs 0, 4608, .inl (mpB gw W md 0 (mlF W md 0 mf (fun x9 y9 => (mft (lokP gn 0) (wdt 0 W) (wdt 0 H) (nI x9) (nI y9) (mus wh (V 2) 0) (mus wh (V 3) 0)))) (y * 8)))), (ol, .inl (cs 0, 4608, .inl go)), (ne, .inl (cs 0, 4608, .inl gn)), (ve, .inl (cs 0, 4, .inl V)), (ma, .inl (cs 0, 64, .inl mf))] → va_S A s.heap Hp locs → lv_has ls 10 [(0, .ref o), (2, .int 0), (3, .int 1), (4, .int 0), (5, .int (nI (bL W md 0))), (6, .int (nI (bT W md 0))), (7, .int (nI y))] → xW p l e ({ frames := 4, cells := 0, slots := 0, locals := 104 } : Room) s m ([.ref o, .int 0, .int 0, .int 1] : List Value).toArray below meth c Hp locs 0 0 (MQ below (xE D A none [(o, .inr (7, mdF th W H mt qu zz nw ol ne se ke nc ns is ik dc sc 3 md wh fa re ve ps 0 tl di lv bf bo bd co bt ma)), (nw, .inl (cs 0, 4608, .inl (mpB gw W md 0 (mlF W md 0 mf (fun x9 y9 => (mft (lokP gn 0) (wdt 0 W) (wdt 0 H) (nI x9) (nI y9) (mus wh (V 2) 0) (mus wh (V 3) 0)))) (64)))), (ol, .inl (cs 0, 4608, .inl go)), (ne, .inl (cs 0, 4608, .inl gn)), (ve, .inl (cs 0, 4, .inl V)), (ma, .inl (cs 0, 64, .inl mf))]) ([.ref o, .int 0, .int 0, .int 1] : List Value).toArray s 0 0 A) (F0 m 91 ls []) := by
    intro k91
    induction k91 with
    | zero => intro y h9; omega
    | succ k91 ih_91 =>
      intro y hk91 hy9 Hp locs ls hP hD hS hl
      refine lv_iload hx hb dX7_putBlock_91 (lv_at hl 6 rfl) ?_
      refine lv_bipush (v := 8) hx hb dX7_putBlock_93 (by decide) ?_
      refine lv_icmp_ge (tgt := 199) hx hb dX7_putBlock_95 (by decide) (fun c_95 => ?_) (fun c_95 => ?_)
      · have ey : y = 8 := by have := nIle (a := 8) (b := y) rfl rfl (by decide) (by omega) c_95; omega
        have hP := xeqP hP (congrArg (fun z9 => ([(o, .inr (7, mdF th W H mt qu zz nw ol ne se ke nc ns is ik dc sc 3 md wh fa re ve ps 0 tl di lv bf bo bd co bt ma)), (nw, .inl (cs 0, 4608, .inl z9)), (ol, .inl (cs 0, 4608, .inl go)), (ne, .inl (cs 0, 4608, .inl gn)), (ve, .inl (cs 0, 4, .inl V)), (ma, .inl (cs 0, 64, .inl mf))] : va_W)) (congrArg (mpB gw W md 0 (mlF W md 0 mf (fun x9 y9 => (mft (lokP gn 0) (wdt 0 W) (wdt 0 H) (nI x9) (nI y9) (mus wh (V 2) 0) (mus wh (V 3) 0))))) (show y * 8 = 64 by omega)))
        have hD := xeqD hD (congrArg (fun z9 => ([(o, .inr (7, mdF th W H mt qu zz nw ol ne se ke nc ns is ik dc sc 3 md wh fa re ve ps 0 tl di lv bf bo bd co bt ma)), (nw, .inl (cs 0, 4608, .inl z9)), (ol, .inl (cs 0, 4608, .inl go)), (ne, .inl (cs 0, 4608, .inl gn)), (ve, .inl (cs 0, 4, .inl V)), (ma, .inl (cs 0, 64, .inl mf))] : va_W)) (congrArg (mpB gw W md 0 (mlF W md 0 mf (fun x9 y9 => (mft (lokP gn 0) (wdt 0 W) (wdt 0 H) (nI x9) (nI y9) (mus wh (V 2) 0) (mus wh (V 3) 0))))) (show y * 8 = 64 by omega)))
        exact xrv hF hr hlk hP hD hS dX7_putBlock_199
      · have hyl : y < 8 := nInle (a := 8) (b := y) rfl rfl (by decide) (by omega) c_95
        refine lv_iconst (v := 0) hx hb dX7_putBlock_98 (by decide) ?_
        refine lv_istore (lv' := [(8, .int 0), (0, .ref o), (2, .int 0), (3, .int 1), (4, .int 0), (5, .int (nI (bL W md 0))), (6, .int (nI (bT W md 0))), (7, .int (nI y))]) hx hb dX7_putBlock_99 hl (by decide) rfl (fun ls hl => ?_)
        have loop_101 : ∀ (k101 : Nat) (x : Nat), 8 - x < k101 → x ≤ 8 → ∀ (Hp : Heap) (locs : List Loc) (ls : Array Slot), va_P D vwCl [(o, .inr (7, mdF th W H mt qu zz nw ol ne se ke nc ns is ik dc sc 3 md wh fa re ve ps 0 tl di lv bf bo bd co bt ma)), (nw, .inl (cs 0, 4608, .inl (mpB gw W md 0 (mlF W md 0 mf (fun x9 y9 => (mft (lokP gn 0) (wdt 0 W) (wdt 0 H) (nI x9) (nI y9) (mus wh (V 2) 0) (mus wh (V 3) 0)))) (y * 8 + x)))), (ol, .inl (cs 0, 4608, .inl go)), (ne, .inl (cs 0, 4608, .inl gn)), (ve, .inl (cs 0, 4, .inl V)), (ma, .inl (cs 0, 64, .inl mf))] Hp → va_D A [(o, .inr (7, mdF th W H mt qu zz nw ol ne se ke nc ns is ik dc sc 3 md wh fa re ve ps 0 tl di lv bf bo bd co bt ma)), (nw, .inl (cs 0, 4608, .inl (mpB gw W md 0 (mlF W md 0 mf (fun x9 y9 => (mft (lokP gn 0) (wdt 0 W) (wdt 0 H) (nI x9) (nI y9) (mus wh (V 2) 0) (mus wh (V 3) 0)))) (y * 8 + x)))), (ol, .inl (cs 0, 4608, .inl go)), (ne, .inl (cs 0, 4608, .inl gn)), (ve, .inl (cs 0, 4, .inl V)), (ma, .inl (cs 0, 64, .inl mf))] → va_S A s.heap Hp locs → lv_has ls 10 [(0, .ref o), (2, .int 0), (3, .int 1), (4, .int 0), (5, .int (nI (bL W md 0))), (6, .int (nI (bT W md 0))), (7, .int (nI y)), (8, .int (nI x))] → xW p l e ({ frames := 4, cells := 0, slots := 0, locals := 104 } : Room) s m ([.ref o, .int 0, .int 0, .int 1] : List Value).toArray below meth c Hp locs 0 0 (MQ below (xE D A none [(o, .inr (7, mdF th W H mt qu zz nw ol ne se ke nc ns is ik dc sc 3 md wh fa re ve ps 0 tl di lv bf bo bd co bt ma)), (nw, .inl (cs 0, 4608, .inl (mpB gw W md 0 (mlF W md 0 mf (fun x9 y9 => (mft (lokP gn 0) (wdt 0 W) (wdt 0 H) (nI x9) (nI y9) (mus wh (V 2) 0) (mus wh (V 3) 0)))) (64)))), (ol, .inl (cs 0, 4608, .inl go)), (ne, .inl (cs 0, 4608, .inl gn)), (ve, .inl (cs 0, 4, .inl V)), (ma, .inl (cs 0, 64, .inl mf))]) ([.ref o, .int 0, .int 0, .int 1] : List Value).toArray s 0 0 A) (F0 m 101 ls []) := by
          intro k101
          induction k101 with
          | zero => intro x h9; omega
          | succ k101 ih_101 =>
            intro x hk101 hx9 Hp locs ls hP hD hS hl
            refine lv_iload hx hb dX7_putBlock_101 (lv_at hl 7 rfl) ?_
            refine lv_bipush (v := 8) hx hb dX7_putBlock_103 (by decide) ?_
            refine lv_icmp_ge (tgt := 193) hx hb dX7_putBlock_105 (by decide) (fun c_105 => ?_) (fun c_105 => ?_)
            · have ex : x = 8 := by have := nIle (a := 8) (b := x) rfl rfl (by decide) (by omega) c_105; omega
              have hP := xeqP hP (congrArg (fun z9 => ([(o, .inr (7, mdF th W H mt qu zz nw ol ne se ke nc ns is ik dc sc 3 md wh fa re ve ps 0 tl di lv bf bo bd co bt ma)), (nw, .inl (cs 0, 4608, .inl z9)), (ol, .inl (cs 0, 4608, .inl go)), (ne, .inl (cs 0, 4608, .inl gn)), (ve, .inl (cs 0, 4, .inl V)), (ma, .inl (cs 0, 64, .inl mf))] : va_W)) (congrArg (mpB gw W md 0 (mlF W md 0 mf (fun x9 y9 => (mft (lokP gn 0) (wdt 0 W) (wdt 0 H) (nI x9) (nI y9) (mus wh (V 2) 0) (mus wh (V 3) 0))))) (show y * 8 + x = (y + 1) * 8 by omega)))
              have hD := xeqD hD (congrArg (fun z9 => ([(o, .inr (7, mdF th W H mt qu zz nw ol ne se ke nc ns is ik dc sc 3 md wh fa re ve ps 0 tl di lv bf bo bd co bt ma)), (nw, .inl (cs 0, 4608, .inl z9)), (ol, .inl (cs 0, 4608, .inl go)), (ne, .inl (cs 0, 4608, .inl gn)), (ve, .inl (cs 0, 4, .inl V)), (ma, .inl (cs 0, 64, .inl mf))] : va_W)) (congrArg (mpB gw W md 0 (mlF W md 0 mf (fun x9 y9 => (mft (lokP gn 0) (wdt 0 W) (wdt 0 H) (nI x9) (nI y9) (mus wh (V 2) 0) (mus wh (V 3) 0))))) (show y * 8 + x = (y + 1) * 8 by omega)))
              refine lv_iinc (v := (nI (y + 1))) (lv' := [(7, .int (nI (y + 1))), (0, .ref o), (2, .int 0), (3, .int 1), (4, .int 0), (5, .int (nI (bL W md 0))), (6, .int (nI (bT W md 0))), (8, .int (nI x))]) hx hb dX7_putBlock_193 hl (k := 6) rfl (nI_1 y) (by decide) rfl (fun ls hl => ?_)
              refine lv_goto (tgt := 91) hx hb dX7_putBlock_196 (by decide) ?_
              exact ih_91 (y + 1) (by omega) (by omega) _ _ _ hP hD hS (lv_sub hl [1, 2, 3, 4, 5, 6, 0] rfl)
            · have hxl : x < 8 := nInle (a := 8) (b := x) rfl rfl (by decide) (by omega) c_105
              refine lv_aload_n hx hb dX7_putBlock_108 rfl (lv_at hl 0 rfl) ?_
              refine xget (C := RX7) (T := TX7) (N := 34) hF hX hP (by decide +kernel) 0 33 rfl rfl (by decide) (by decide +kernel) rfl dX7_putBlock_109 ?_
              refine lv_bipush (v := 8) hx hb dX7_putBlock_112 (by decide) ?_
              refine lv_iload hx hb dX7_putBlock_114 (lv_at hl 6 rfl) ?_
              refine lv_imul hx hb dX7_putBlock_116 ?_
              refine lv_iload hx hb dX7_putBlock_117 (lv_at hl 7 rfl) ?_
              refine lv_iadd hx hb dX7_putBlock_119 ?_
              refine xrwi (z := nI (y * 8 + x)) (k8 y x) ?_
              refine xald (k := y * 8 + x) hF hX hP 5 rfl (nI_clamp (by omega)) (vp_in_nI (by omega) (by decide)) dX7_putBlock_120 ?_
              refine lv_istore (lv' := [(9, .int (mf (y * 8 + x))), (0, .ref o), (2, .int 0), (3, .int 1), (4, .int 0), (5, .int (nI (bL W md 0))), (6, .int (nI (bT W md 0))), (7, .int (nI y)), (8, .int (nI x))]) hx hb dX7_putBlock_121 hl (by decide) rfl (fun ls hl => ?_)
              refine lv_aload_n hx hb dX7_putBlock_123 rfl (lv_at hl 1 rfl) ?_
              refine xget (C := RX7) (T := TX7) (N := 34) hF hX hP (by decide +kernel) 0 24 rfl rfl (by decide) (by decide +kernel) rfl dX7_putBlock_124 ?_
              refine lv_if_eq (tgt := 135) hx hb dX7_putBlock_127 (by decide) (fun _ => ?_) (fun c_127 => absurd (by decide) c_127)
              refine lv_iload hx hb dX7_putBlock_135 (lv_at hl 0 rfl) ?_
              refine lv_aload_n hx hb dX7_putBlock_137 rfl (lv_at hl 1 rfl) ?_
              refine lv_iload_n hx hb dX7_putBlock_138 rfl (lv_at hl 2 rfl) ?_
              refine lv_iload_n hx hb dX7_putBlock_139 rfl (lv_at hl 3 rfl) ?_
              refine lv_iload hx hb dX7_putBlock_140 (lv_at hl 4 rfl) ?_
              refine lv_iload hx hb dX7_putBlock_142 (lv_at hl 5 rfl) ?_
              refine lv_iload hx hb dX7_putBlock_144 (lv_at hl 8 rfl) ?_
              refine lv_iadd hx hb dX7_putBlock_146 ?_
              refine xrwi (z := nI ((bL W md 0) + x)) (nI_add _ _) ?_
              refine lv_iload hx hb dX7_putBlock_147 (lv_at hl 6 rfl) ?_
              refine lv_iload hx hb dX7_putBlock_149 (lv_at hl 7 rfl) ?_
              refine lv_iadd hx hb dX7_putBlock_151 ?_
              refine xrwi (z := nI ((bT W md 0) + y)) (nI_add _ _) ?_
              refine xV (rest := [.int (mf (y * 8 + x))]) (As := [.int 0, .int 1, .int 0, .int (nI ((bL W md 0) + x)), .int (nI ((bT W md 0) + y))]) (ws1 := [(o, .inr (7, mdF th W H mt qu zz nw ol ne se ke nc ns is ik dc sc 3 md wh fa re ve ps 0 tl di lv bf bo bd co bt ma)), (nw, .inl (cs 0, 4608, .inl (mpB gw W md 0 (mlF W md 0 mf (fun x9 y9 => (mft (lokP gn 0) (wdt 0 W) (wdt 0 H) (nI x9) (nI y9) (mus wh (V 2) 0) (mus wh (V 3) 0)))) (y * 8 + x)))), (ol, .inl (cs 0, 4608, .inl go)), (ne, .inl (cs 0, 4608, .inl gn)), (ve, .inl (cs 0, 4, .inl V)), (ma, .inl (cs 0, 64, .inl mf))]) (st1 := [.int (mft (lokP gn 0) (wdt 0 W) (wdt 0 H) (nI ((bL W md 0) + x)) (nI ((bT W md 0) + y)) (mus wh (V 2) 0) (mus wh (V 3) 0)), .int (mf (y * 8 + x))]) hF (c_X7_fetchedC l D cs tt o mt qu zz nw ol ne se ke re ve ps di lv bd co bt ma W H md th nc ns is ik dc sc wh fa 0 tl bf bo 0 (nI ((bL W md 0) + x)) (nI ((bT W md 0) + y)) go gn V (by decide) hw hw4 hh hh3) gX7_putBlock_X7_fetched rfl (n := 5) (by decide +kernel) rfl ⟨⟨rfl, rfl⟩, Nat.le_of_ble_eq_true rfl, Nat.le_of_ble_eq_true rfl⟩ ⟨Nat.le_of_ble_eq_true rfl, Nat.le_of_ble_eq_true rfl⟩ hX hP hD hS [0, 2, 3, 4] (by decide) rfl [o, ol, ne, ve] rfl rfl (q0 := 0) (ci := 7) rfl rfl rfl hl.1 rfl (Nat.le_of_ble_eq_true rfl) dX7_putBlock_152 rfl rfl (fun Hp locs hP hD hS => ?_)
              refine lv_iadd hx hb dX7_putBlock_155 ?_
              refine lv_istore (lv' := [(9, .int ((mf (y * 8 + x)) + (mft (lokP gn 0) (wdt 0 W) (wdt 0 H) (nI ((bL W md 0) + x)) (nI ((bT W md 0) + y)) (mus wh (V 2) 0) (mus wh (V 3) 0)))), (0, .ref o), (2, .int 0), (3, .int 1), (4, .int 0), (5, .int (nI (bL W md 0))), (6, .int (nI (bT W md 0))), (7, .int (nI y)), (8, .int (nI x))]) hx hb dX7_putBlock_156 hl (by decide) rfl (fun ls hl => ?_)
              refine lv_aload_n hx hb dX7_putBlock_158 rfl (lv_at hl 1 rfl) ?_
              refine xget (C := RX7) (T := TX7) (N := 34) hF hX hP (by decide +kernel) 0 6 rfl rfl (by decide) (by decide +kernel) rfl dX7_putBlock_159 ?_
              refine lv_iload hx hb dX7_putBlock_162 (lv_at hl 4 rfl) ?_
              refine lv_iload hx hb dX7_putBlock_164 (lv_at hl 5 rfl) ?_
              refine lv_iload hx hb dX7_putBlock_166 (lv_at hl 8 rfl) ?_
              refine lv_iadd hx hb dX7_putBlock_168 ?_
              refine xrwi (z := nI ((bL W md 0) + x)) (nI_add _ _) ?_
              refine lv_iload hx hb dX7_putBlock_169 (lv_at hl 6 rfl) ?_
              refine lv_iload hx hb dX7_putBlock_171 (lv_at hl 7 rfl) ?_
              refine lv_iadd hx hb dX7_putBlock_173 ?_
              refine xrwi (z := nI ((bT W md 0) + y)) (nI_add _ _) ?_
              refine xSt (rest := [.ref nw]) (As := [.int 0, .int (nI ((bL W md 0) + x)), .int (nI ((bT W md 0) + y))]) (ws1 := [(o, .inr (7, mdF th W H mt qu zz nw ol ne se ke nc ns is ik dc sc 3 md wh fa re ve ps 0 tl di lv bf bo bd co bt ma)), (nw, .inl (cs 0, 4608, .inl (mpB gw W md 0 (mlF W md 0 mf (fun x9 y9 => (mft (lokP gn 0) (wdt 0 W) (wdt 0 H) (nI x9) (nI y9) (mus wh (V 2) 0) (mus wh (V 3) 0)))) (y * 8 + x)))), (ol, .inl (cs 0, 4608, .inl go)), (ne, .inl (cs 0, 4608, .inl gn)), (ve, .inl (cs 0, 4, .inl V)), (ma, .inl (cs 0, 64, .inl mf))]) (st1 := [.int (nI (plc 0 ((bL W md 0) + x) ((bT W md 0) + y))), .ref nw]) hF (c_X7_place l D cs tt 0 ((bL W md 0) + x) ((bT W md 0) + y) (by decide)) gX7_putBlock_X7_place rfl (n := 3) (by decide +kernel) rfl ⟨⟨rfl, rfl⟩, Nat.le_of_ble_eq_true rfl, Nat.le_of_ble_eq_true rfl⟩ ⟨Nat.le_of_ble_eq_true rfl, Nat.le_of_ble_eq_true rfl⟩ hX hP hD hS [] (by decide) rfl [] rfl rfl hl.1 rfl (Nat.le_of_ble_eq_true rfl) dX7_putBlock_174 rfl rfl (fun Hp locs hP hD hS => ?_)
              refine xrwi (z := nI (0 + (((bT W md 0) + y) * 64 + ((bL W md 0) + x)))) (by unfold plc; rw [if_pos rfl]; exact congrArg nI (by omega)) ?_
              refine lv_iload hx hb dX7_putBlock_177 (lv_at hl 0 rfl) ?_
              refine lv_iconst (v := 0) hx hb dX7_putBlock_179 (by decide) ?_
              refine lv_sipush (v := 255) hx hb dX7_putBlock_180 (by decide) ?_
              refine xSt (rest := [.int (nI (0 + (((bT W md 0) + y) * 64 + ((bL W md 0) + x)))), .ref nw]) (As := [.int ((mf (y * 8 + x)) + (mft (lokP gn 0) (wdt 0 W) (wdt 0 H) (nI ((bL W md 0) + x)) (nI ((bT W md 0) + y)) (mus wh (V 2) 0) (mus wh (V 3) 0))), .int 0, .int 255]) (ws1 := [(o, .inr (7, mdF th W H mt qu zz nw ol ne se ke nc ns is ik dc sc 3 md wh fa re ve ps 0 tl di lv bf bo bd co bt ma)), (nw, .inl (cs 0, 4608, .inl (mpB gw W md 0 (mlF W md 0 mf (fun x9 y9 => (mft (lokP gn 0) (wdt 0 W) (wdt 0 H) (nI x9) (nI y9) (mus wh (V 2) 0) (mus wh (V 3) 0)))) (y * 8 + x)))), (ol, .inl (cs 0, 4608, .inl go)), (ne, .inl (cs 0, 4608, .inl gn)), (ve, .inl (cs 0, 4, .inl V)), (ma, .inl (cs 0, 64, .inl mf))]) (st1 := [.int (bnd ((mf (y * 8 + x)) + (mft (lokP gn 0) (wdt 0 W) (wdt 0 H) (nI ((bL W md 0) + x)) (nI ((bT W md 0) + y)) (mus wh (V 2) 0) (mus wh (V 3) 0))) 0 255), .int (nI (0 + (((bT W md 0) + y) * 64 + ((bL W md 0) + x)))), .ref nw]) hF (c_X7_within l D cs tt ((mf (y * 8 + x)) + (mft (lokP gn 0) (wdt 0 W) (wdt 0 H) (nI ((bL W md 0) + x)) (nI ((bT W md 0) + y)) (mus wh (V 2) 0) (mus wh (V 3) 0))) 0 255) gX7_putBlock_X7_within rfl (n := 3) (by decide +kernel) rfl ⟨⟨rfl, rfl⟩, Nat.le_of_ble_eq_true rfl, Nat.le_of_ble_eq_true rfl⟩ ⟨Nat.le_of_ble_eq_true rfl, Nat.le_of_ble_eq_true rfl⟩ hX hP hD hS [] (by decide) rfl [] rfl rfl hl.1 rfl (Nat.le_of_ble_eq_true rfl) dX7_putBlock_183 rfl rfl (fun Hp locs hP hD hS => ?_)
              refine xast (k := 0 + (((bT W md 0) + y) * 64 + ((bL W md 0) + x))) (ws1 := [(o, .inr (7, mdF th W H mt qu zz nw ol ne se ke nc ns is ik dc sc 3 md wh fa re ve ps 0 tl di lv bf bo bd co bt ma)), (nw, .inl (cs 0, 4608, .inl (mpB gw W md 0 (mlF W md 0 mf (fun x9 y9 => (mft (lokP gn 0) (wdt 0 W) (wdt 0 H) (nI x9) (nI y9) (mus wh (V 2) 0) (mus wh (V 3) 0)))) (y * 8 + (x + 1))))), (ol, .inl (cs 0, 4608, .inl go)), (ne, .inl (cs 0, 4608, .inl gn)), (ve, .inl (cs 0, 4, .inl V)), (ma, .inl (cs 0, 64, .inl mf))]) hF hX hP hD hS 1 rfl (nI_clamp (by omega)) (vp_in_nI (by omega) (by decide)) dX7_putBlock_186 (congrArg (fun z9 => ([(o, .inr (7, mdF th W H mt qu zz nw ol ne se ke nc ns is ik dc sc 3 md wh fa re ve ps 0 tl di lv bf bo bd co bt ma)), (nw, .inl (cs 0, 4608, .inl z9)), (ol, .inl (cs 0, 4608, .inl go)), (ne, .inl (cs 0, 4608, .inl gn)), (ve, .inl (cs 0, 4, .inl V)), (ma, .inl (cs 0, 64, .inl mf))] : va_W)) (pbs gw (mlF W md 0 mf (fun x9 y9 => (mft (lokP gn 0) (wdt 0 W) (wdt 0 H) (nI x9) (nI y9) (mus wh (V 2) 0) (mus wh (V 3) 0)))) (by unfold mlF; rw [show ((bT W md 0) + y - (bT W md 0)) * 8 + ((bL W md 0) + x - (bL W md 0)) = y * 8 + x by omega]) hxl (show (bL W md 0) + 8 ≤ 64 by omega))) (fun Hp locs hP hD hS => ?_)
              refine lv_iinc (v := (nI (x + 1))) (lv' := [(8, .int (nI (x + 1))), (9, .int ((mf (y * 8 + x)) + (mft (lokP gn 0) (wdt 0 W) (wdt 0 H) (nI ((bL W md 0) + x)) (nI ((bT W md 0) + y)) (mus wh (V 2) 0) (mus wh (V 3) 0)))), (0, .ref o), (2, .int 0), (3, .int 1), (4, .int 0), (5, .int (nI (bL W md 0))), (6, .int (nI (bT W md 0))), (7, .int (nI y))]) hx hb dX7_putBlock_187 hl (k := 8) rfl (nI_1 x) (by decide) rfl (fun ls hl => ?_)
              refine lv_goto (tgt := 101) hx hb dX7_putBlock_190 (by decide) ?_
              exact ih_101 (x + 1) (by omega) (by omega) _ _ _ hP hD hS (lv_sub hl [2, 3, 4, 5, 6, 7, 8, 0] rfl)
        exact loop_101 (8 - 0 + 1) 0 (Nat.lt_succ_self _) (by decide) _ _ _ hP hD hS (lv_sub hl [1, 2, 3, 4, 5, 6, 7, 0] rfl)
  have hP := xeqP hP (congrArg (fun z9 => ([(o, .inr (7, mdF th W H mt qu zz nw ol ne se ke nc ns is ik dc sc 3 md wh fa re ve ps 0 tl di lv bf bo bd co bt ma)), (nw, .inl (cs 0, 4608, .inl z9)), (ol, .inl (cs 0, 4608, .inl go)), (ne, .inl (cs 0, 4608, .inl gn)), (ve, .inl (cs 0, 4, .inl V)), (ma, .inl (cs 0, 64, .inl mf))] : va_W)) ((show gw = mpB gw W md 0 (mlF W md 0 mf (fun x9 y9 => (mft (lokP gn 0) (wdt 0 W) (wdt 0 H) (nI x9) (nI y9) (mus wh (V 2) 0) (mus wh (V 3) 0)))) (0 * 8) from (blkTo_0 gw _ _ _ _ 8 (mlF W md 0 mf (fun x9 y9 => (mft (lokP gn 0) (wdt 0 W) (wdt 0 H) (nI x9) (nI y9) (mus wh (V 2) 0) (mus wh (V 3) 0))))).symm)))
  have hD := xeqD hD (congrArg (fun z9 => ([(o, .inr (7, mdF th W H mt qu zz nw ol ne se ke nc ns is ik dc sc 3 md wh fa re ve ps 0 tl di lv bf bo bd co bt ma)), (nw, .inl (cs 0, 4608, .inl z9)), (ol, .inl (cs 0, 4608, .inl go)), (ne, .inl (cs 0, 4608, .inl gn)), (ve, .inl (cs 0, 4, .inl V)), (ma, .inl (cs 0, 64, .inl mf))] : va_W)) ((show gw = mpB gw W md 0 (mlF W md 0 mf (fun x9 y9 => (mft (lokP gn 0) (wdt 0 W) (wdt 0 H) (nI x9) (nI y9) (mus wh (V 2) 0) (mus wh (V 3) 0)))) (0 * 8) from (blkTo_0 gw _ _ _ _ 8 (mlF W md 0 mf (fun x9 y9 => (mft (lokP gn 0) (wdt 0 W) (wdt 0 H) (nI x9) (nI y9) (mus wh (V 2) 0) (mus wh (V 3) 0))))).symm)))
  exact loop_91 (8 - 0 + 1) 0 (Nat.lt_succ_self _) (by decide) _ _ _ hP hD hS (lv_sub hl [4, 6, 7, 3, 2, 1, 0] rfl)

set_option maxHeartbeats 4000000 in
set_option maxRecDepth 100000 in
theorem c_X7_putBlock0D (l : Launch) (D : va_G) (cs : Nat → ClassId) (tt : Nat → Nat) (o mt qu zz nw ol ne se ke re ve ps di lv bd co bt ma W H md : Nat) (th nc ns is ik dc sc wh fa tl bf bo : Int32) (gw mf go gn V : Nat → Int32) (hw : 1 ≤ W) (hw4 : W ≤ 4) (hh : 1 ≤ H) (hh3 : H ≤ 3) (hmd : md < W * H) : xM l yX7_putBlock wsX7_putBlock ({ frames := 4, cells := 0, slots := 0, locals := 104 } : Room) D cs tt [.ref o, .int 0, .int 1, .int 1] [(o, .inr (7, mdF th W H mt qu zz nw ol ne se ke nc ns is ik dc sc 3 md wh fa re ve ps 0 tl di lv bf bo bd co bt ma)), (nw, .inl (cs 0, 4608, .inl gw)), (ol, .inl (cs 0, 4608, .inl go)), (ne, .inl (cs 0, 4608, .inl gn)), (ve, .inl (cs 0, 4, .inl V)), (ma, .inl (cs 0, 64, .inl mf))] none [(o, .inr (7, mdF th W H mt qu zz nw ol ne se ke nc ns is ik dc sc 3 md wh fa re ve ps 0 tl di lv bf bo bd co bt ma)), (nw, .inl (cs 0, 4608, .inl (mpB gw W md 0 (mlF W md 0 mf (fun x9 y9 => (((mft (lokP go 0) (wdt 0 W) (wdt 0 H) (nI x9) (nI y9) (mus wh (V 0) 0) (mus wh (V 1) 0)) + (mft (lokP gn 0) (wdt 0 W) (wdt 0 H) (nI x9) (nI y9) (mus wh (V 2) 0) (mus wh (V 3) 0)) + 1) >>> (1 &&& 31)))) (64)))), (ol, .inl (cs 0, 4608, .inl go)), (ne, .inl (cs 0, 4608, .inl gn)), (ve, .inl (cs 0, 4, .inl V)), (ma, .inl (cs 0, 64, .inl mf))] := by
  refine xM.of RX7 rfl (by decide) rfl (Nat.le_of_ble_eq_true rfl) ?_
  intro p e s m below meth c A ls hF hr hlk hX hP hD hS hl
  have hx := hF.1
  have hb := hF.2.1
  have hl : lv_has ls 10 [(0, .ref o), (1, .int 0), (2, .int 1), (3, .int 1)] := hl
  have hm4 : md < 4096 := Nat.lt_of_lt_of_le hmd (Nat.le_trans (Nat.mul_le_mul hw4 hh3) (by decide))
  have hb9 := b_in hw hmd 0 (by decide)
  have hbl : (bL W md 0) + 8 ≤ 16 * W := hb9.1
  have hbt : (bT W md 0) + 8 ≤ 16 * H := hb9.2
  have hsL : bL W md 0 = bL W md 0 := rfl
  refine lv_iload_n hx hb dX7_putBlock_0 rfl (lv_at hl 1 rfl) ?_
  refine xSt (rest := []) (As := [.int 0]) (ws1 := [(o, .inr (7, mdF th W H mt qu zz nw ol ne se ke nc ns is ik dc sc 3 md wh fa re ve ps 0 tl di lv bf bo bd co bt ma)), (nw, .inl (cs 0, 4608, .inl gw)), (ol, .inl (cs 0, 4608, .inl go)), (ne, .inl (cs 0, 4608, .inl gn)), (ve, .inl (cs 0, 4, .inl V)), (ma, .inl (cs 0, 64, .inl mf))]) (st1 := [.int (pln 0)]) hF (c_X7_planeOf l D cs tt 0) gX7_putBlock_X7_planeOf rfl (n := 1) (by decide +kernel) rfl ⟨⟨rfl, rfl⟩, Nat.le_of_ble_eq_true rfl, Nat.le_of_ble_eq_true rfl⟩ ⟨Nat.le_of_ble_eq_true rfl, Nat.le_of_ble_eq_true rfl⟩ hX hP hD hS [] (by decide) rfl [] rfl rfl hl.1 rfl (Nat.le_of_ble_eq_true rfl) dX7_putBlock_1 rfl rfl (fun Hp locs hP hD hS => ?_)
  refine xrwi (z := 0) (by decide) ?_
  refine lv_istore (lv' := [(4, .int 0), (0, .ref o), (1, .int 0), (2, .int 1), (3, .int 1)]) hx hb dX7_putBlock_4 hl (by decide) rfl (fun ls hl => ?_)
  refine lv_iload hx hb dX7_putBlock_6 (lv_at hl 0 rfl) ?_
  refine lv_if_ne (tgt := 33) hx hb dX7_putBlock_8 (by decide) (fun c_8 => absurd (by decide) c_8) (fun _ => ?_)
  refine lv_bipush (v := 16) hx hb dX7_putBlock_11 (by decide) ?_
  refine lv_aload_n hx hb dX7_putBlock_13 rfl (lv_at hl 1 rfl) ?_
  refine xget (C := RX7) (T := TX7) (N := 34) hF hX hP (by decide +kernel) 0 18 rfl rfl (by decide) (by decide +kernel) rfl dX7_putBlock_14 ?_
  refine lv_aload_n hx hb dX7_putBlock_17 rfl (lv_at hl 1 rfl) ?_
  refine xget (C := RX7) (T := TX7) (N := 34) hF hX hP (by decide +kernel) 0 1 rfl rfl (by decide) (by decide +kernel) rfl dX7_putBlock_18 ?_
  refine lv_irem hx hb dX7_putBlock_21 (nI_ne0 (by omega) (by omega)) ?_
  refine xrwi (z := nI (md % W)) (pk_rem (by omega) (by omega) (by omega)) ?_
  refine lv_imul hx hb dX7_putBlock_22 ?_
  refine lv_bipush (v := 8) hx hb dX7_putBlock_23 (by decide) ?_
  refine lv_iload_n hx hb dX7_putBlock_25 rfl (lv_at hl 2 rfl) ?_
  refine lv_iconst (v := 2) hx hb dX7_putBlock_26 (by decide) ?_
  refine lv_irem hx hb dX7_putBlock_27 (by decide) ?_
  refine xrwi (z := 0) (by decide) ?_
  refine lv_imul hx hb dX7_putBlock_28 ?_
  refine xrwi (z := 0) (by decide) ?_
  refine lv_iadd hx hb dX7_putBlock_29 ?_
  refine lv_goto (tgt := 45) hx hb dX7_putBlock_30 (by decide) ?_
  refine xrwi (z := nI (bL W md 0)) (by rw [show (16 : Int32) * nI (md % W) = nI (16 * (md % W)) from pk_mul 16 _, show nI (16 * (md % W)) + 0 = nI (16 * (md % W) + 0) from nI_add _ 0]; exact congrArg nI (show 16 * (md % W) + 0 = bL W md 0 by show _ = md % W * 16 + 0; omega)) ?_
  refine lv_istore (lv' := [(5, .int (nI (bL W md 0))), (4, .int 0), (0, .ref o), (1, .int 0), (2, .int 1), (3, .int 1)]) hx hb dX7_putBlock_45 hl (by decide) rfl (fun ls hl => ?_)
  refine lv_iload hx hb dX7_putBlock_47 (lv_at hl 1 rfl) ?_
  refine lv_if_ne (tgt := 74) hx hb dX7_putBlock_49 (by decide) (fun c_49 => absurd (by decide) c_49) (fun _ => ?_)
  refine lv_bipush (v := 16) hx hb dX7_putBlock_52 (by decide) ?_
  refine lv_aload_n hx hb dX7_putBlock_54 rfl (lv_at hl 2 rfl) ?_
  refine xget (C := RX7) (T := TX7) (N := 34) hF hX hP (by decide +kernel) 0 18 rfl rfl (by decide) (by decide +kernel) rfl dX7_putBlock_55 ?_
  refine lv_aload_n hx hb dX7_putBlock_58 rfl (lv_at hl 2 rfl) ?_
  refine xget (C := RX7) (T := TX7) (N := 34) hF hX hP (by decide +kernel) 0 1 rfl rfl (by decide) (by decide +kernel) rfl dX7_putBlock_59 ?_
  refine lv_idiv hx hb dX7_putBlock_62 (nI_ne0 (by omega) (by omega)) ?_
  refine xrwi (z := nI (md / W)) (pk_div (by omega) (by omega) (by omega)) ?_
  refine lv_imul hx hb dX7_putBlock_63 ?_
  refine lv_bipush (v := 8) hx hb dX7_putBlock_64 (by decide) ?_
  refine lv_iload_n hx hb dX7_putBlock_66 rfl (lv_at hl 3 rfl) ?_
  refine lv_iconst (v := 2) hx hb dX7_putBlock_67 (by decide) ?_
  refine lv_idiv hx hb dX7_putBlock_68 (by decide) ?_
  refine xrwi (z := 0) (by decide) ?_
  refine lv_imul hx hb dX7_putBlock_69 ?_
  refine xrwi (z := 0) (by decide) ?_
  refine lv_iadd hx hb dX7_putBlock_70 ?_
  refine lv_goto (tgt := 86) hx hb dX7_putBlock_71 (by decide) ?_
  refine xrwi (z := nI (bT W md 0)) (by rw [show (16 : Int32) * nI (md / W) = nI (16 * (md / W)) from pk_mul 16 _, show nI (16 * (md / W)) + 0 = nI (16 * (md / W) + 0) from nI_add _ 0]; exact congrArg nI (show 16 * (md / W) + 0 = bT W md 0 by show _ = md / W * 16 + 0; omega)) ?_
  refine lv_istore (lv' := [(6, .int (nI (bT W md 0))), (5, .int (nI (bL W md 0))), (4, .int 0), (0, .ref o), (1, .int 0), (2, .int 1), (3, .int 1)]) hx hb dX7_putBlock_86 hl (by decide) rfl (fun ls hl => ?_)
  refine lv_iconst (v := 0) hx hb dX7_putBlock_88 (by decide) ?_
  refine lv_istore (lv' := [(7, .int 0), (6, .int (nI (bT W md 0))), (5, .int (nI (bL W md 0))), (4, .int 0), (0, .ref o), (1, .int 0), (2, .int 1), (3, .int 1)]) hx hb dX7_putBlock_89 hl (by decide) rfl (fun ls hl => ?_)
  have loop_91 : ∀ (k91 : Nat) (y : Nat), 8 - y < k91 → y ≤ 8 → ∀ (Hp : Heap) (locs : List Loc) (ls : Array Slot), va_P D vwCl [(o, .inr (7, mdF th W H mt qu zz nw ol ne se ke nc ns is ik dc sc 3 md wh fa re ve ps 0 tl di lv bf bo bd co bt ma)), (nw, .inl (cs 0, 4608, .inl (mpB gw W md 0 (mlF W md 0 mf (fun x9 y9 => (((mft (lokP go 0) (wdt 0 W) (wdt 0 H) (nI x9) (nI y9) (mus wh (V 0) 0) (mus wh (V 1) 0)) + (mft (lokP gn 0) (wdt 0 W) (wdt 0 H) (nI x9) (nI y9) (mus wh (V 2) 0) (mus wh (V 3) 0)) + 1) >>> (1 &&& 31)))) (y * 8)))), (ol, .inl (cs 0, 4608, .inl go)), (ne, .inl (cs 0, 4608, .inl gn)), (ve, .inl (cs 0, 4, .inl V)), (ma, .inl (cs 0, 64, .inl mf))] Hp → va_D A [(o, .inr (7, mdF th W H mt qu zz nw ol ne se ke nc ns is ik dc sc 3 md wh fa re ve ps 0 tl di lv bf bo bd co bt ma)), (nw, .inl (cs 0, 4608, .inl (mpB gw W md 0 (mlF W md 0 mf (fun x9 y9 => (((mft (lokP go 0) (wdt 0 W) (wdt 0 H) (nI x9) (nI y9) (mus wh (V 0) 0) (mus wh (V 1) 0)) + (mft (lokP gn 0) (wdt 0 W) (wdt 0 H) (nI x9) (nI y9) (mus wh (V 2) 0) (mus wh (V 3) 0)) + 1) >>> (1 &&& 31)))) (y * 8)))), (ol, .inl (cs 0, 4608, .inl go)), (ne, .inl (cs 0, 4608, .inl gn)), (ve, .inl (cs 0, 4, .inl V)), (ma, .inl (cs 0, 64, .inl mf))] → va_S A s.heap Hp locs → lv_has ls 10 [(0, .ref o), (2, .int 1), (3, .int 1), (4, .int 0), (5, .int (nI (bL W md 0))), (6, .int (nI (bT W md 0))), (7, .int (nI y))] → xW p l e ({ frames := 4, cells := 0, slots := 0, locals := 104 } : Room) s m ([.ref o, .int 0, .int 1, .int 1] : List Value).toArray below meth c Hp locs 0 0 (MQ below (xE D A none [(o, .inr (7, mdF th W H mt qu zz nw ol ne se ke nc ns is ik dc sc 3 md wh fa re ve ps 0 tl di lv bf bo bd co bt ma)), (nw, .inl (cs 0, 4608, .inl (mpB gw W md 0 (mlF W md 0 mf (fun x9 y9 => (((mft (lokP go 0) (wdt 0 W) (wdt 0 H) (nI x9) (nI y9) (mus wh (V 0) 0) (mus wh (V 1) 0)) + (mft (lokP gn 0) (wdt 0 W) (wdt 0 H) (nI x9) (nI y9) (mus wh (V 2) 0) (mus wh (V 3) 0)) + 1) >>> (1 &&& 31)))) (64)))), (ol, .inl (cs 0, 4608, .inl go)), (ne, .inl (cs 0, 4608, .inl gn)), (ve, .inl (cs 0, 4, .inl V)), (ma, .inl (cs 0, 64, .inl mf))]) ([.ref o, .int 0, .int 1, .int 1] : List Value).toArray s 0 0 A) (F0 m 91 ls []) := by
    intro k91
    induction k91 with
    | zero => intro y h9; omega
    | succ k91 ih_91 =>
      intro y hk91 hy9 Hp locs ls hP hD hS hl
      refine lv_iload hx hb dX7_putBlock_91 (lv_at hl 6 rfl) ?_
      refine lv_bipush (v := 8) hx hb dX7_putBlock_93 (by decide) ?_
      refine lv_icmp_ge (tgt := 199) hx hb dX7_putBlock_95 (by decide) (fun c_95 => ?_) (fun c_95 => ?_)
      · have ey : y = 8 := by have := nIle (a := 8) (b := y) rfl rfl (by decide) (by omega) c_95; omega
        have hP := xeqP hP (congrArg (fun z9 => ([(o, .inr (7, mdF th W H mt qu zz nw ol ne se ke nc ns is ik dc sc 3 md wh fa re ve ps 0 tl di lv bf bo bd co bt ma)), (nw, .inl (cs 0, 4608, .inl z9)), (ol, .inl (cs 0, 4608, .inl go)), (ne, .inl (cs 0, 4608, .inl gn)), (ve, .inl (cs 0, 4, .inl V)), (ma, .inl (cs 0, 64, .inl mf))] : va_W)) (congrArg (mpB gw W md 0 (mlF W md 0 mf (fun x9 y9 => (((mft (lokP go 0) (wdt 0 W) (wdt 0 H) (nI x9) (nI y9) (mus wh (V 0) 0) (mus wh (V 1) 0)) + (mft (lokP gn 0) (wdt 0 W) (wdt 0 H) (nI x9) (nI y9) (mus wh (V 2) 0) (mus wh (V 3) 0)) + 1) >>> (1 &&& 31))))) (show y * 8 = 64 by omega)))
        have hD := xeqD hD (congrArg (fun z9 => ([(o, .inr (7, mdF th W H mt qu zz nw ol ne se ke nc ns is ik dc sc 3 md wh fa re ve ps 0 tl di lv bf bo bd co bt ma)), (nw, .inl (cs 0, 4608, .inl z9)), (ol, .inl (cs 0, 4608, .inl go)), (ne, .inl (cs 0, 4608, .inl gn)), (ve, .inl (cs 0, 4, .inl V)), (ma, .inl (cs 0, 64, .inl mf))] : va_W)) (congrArg (mpB gw W md 0 (mlF W md 0 mf (fun x9 y9 => (((mft (lokP go 0) (wdt 0 W) (wdt 0 H) (nI x9) (nI y9) (mus wh (V 0) 0) (mus wh (V 1) 0)) + (mft (lokP gn 0) (wdt 0 W) (wdt 0 H) (nI x9) (nI y9) (mus wh (V 2) 0) (mus wh (V 3) 0)) + 1) >>> (1 &&& 31))))) (show y * 8 = 64 by omega)))
        exact xrv hF hr hlk hP hD hS dX7_putBlock_199
      · have hyl : y < 8 := nInle (a := 8) (b := y) rfl rfl (by decide) (by omega) c_95
        refine lv_iconst (v := 0) hx hb dX7_putBlock_98 (by decide) ?_
        refine lv_istore (lv' := [(8, .int 0), (0, .ref o), (2, .int 1), (3, .int 1), (4, .int 0), (5, .int (nI (bL W md 0))), (6, .int (nI (bT W md 0))), (7, .int (nI y))]) hx hb dX7_putBlock_99 hl (by decide) rfl (fun ls hl => ?_)
        have loop_101 : ∀ (k101 : Nat) (x : Nat), 8 - x < k101 → x ≤ 8 → ∀ (Hp : Heap) (locs : List Loc) (ls : Array Slot), va_P D vwCl [(o, .inr (7, mdF th W H mt qu zz nw ol ne se ke nc ns is ik dc sc 3 md wh fa re ve ps 0 tl di lv bf bo bd co bt ma)), (nw, .inl (cs 0, 4608, .inl (mpB gw W md 0 (mlF W md 0 mf (fun x9 y9 => (((mft (lokP go 0) (wdt 0 W) (wdt 0 H) (nI x9) (nI y9) (mus wh (V 0) 0) (mus wh (V 1) 0)) + (mft (lokP gn 0) (wdt 0 W) (wdt 0 H) (nI x9) (nI y9) (mus wh (V 2) 0) (mus wh (V 3) 0)) + 1) >>> (1 &&& 31)))) (y * 8 + x)))), (ol, .inl (cs 0, 4608, .inl go)), (ne, .inl (cs 0, 4608, .inl gn)), (ve, .inl (cs 0, 4, .inl V)), (ma, .inl (cs 0, 64, .inl mf))] Hp → va_D A [(o, .inr (7, mdF th W H mt qu zz nw ol ne se ke nc ns is ik dc sc 3 md wh fa re ve ps 0 tl di lv bf bo bd co bt ma)), (nw, .inl (cs 0, 4608, .inl (mpB gw W md 0 (mlF W md 0 mf (fun x9 y9 => (((mft (lokP go 0) (wdt 0 W) (wdt 0 H) (nI x9) (nI y9) (mus wh (V 0) 0) (mus wh (V 1) 0)) + (mft (lokP gn 0) (wdt 0 W) (wdt 0 H) (nI x9) (nI y9) (mus wh (V 2) 0) (mus wh (V 3) 0)) + 1) >>> (1 &&& 31)))) (y * 8 + x)))), (ol, .inl (cs 0, 4608, .inl go)), (ne, .inl (cs 0, 4608, .inl gn)), (ve, .inl (cs 0, 4, .inl V)), (ma, .inl (cs 0, 64, .inl mf))] → va_S A s.heap Hp locs → lv_has ls 10 [(0, .ref o), (2, .int 1), (3, .int 1), (4, .int 0), (5, .int (nI (bL W md 0))), (6, .int (nI (bT W md 0))), (7, .int (nI y)), (8, .int (nI x))] → xW p l e ({ frames := 4, cells := 0, slots := 0, locals := 104 } : Room) s m ([.ref o, .int 0, .int 1, .int 1] : List Value).toArray below meth c Hp locs 0 0 (MQ below (xE D A none [(o, .inr (7, mdF th W H mt qu zz nw ol ne se ke nc ns is ik dc sc 3 md wh fa re ve ps 0 tl di lv bf bo bd co bt ma)), (nw, .inl (cs 0, 4608, .inl (mpB gw W md 0 (mlF W md 0 mf (fun x9 y9 => (((mft (lokP go 0) (wdt 0 W) (wdt 0 H) (nI x9) (nI y9) (mus wh (V 0) 0) (mus wh (V 1) 0)) + (mft (lokP gn 0) (wdt 0 W) (wdt 0 H) (nI x9) (nI y9) (mus wh (V 2) 0) (mus wh (V 3) 0)) + 1) >>> (1 &&& 31)))) (64)))), (ol, .inl (cs 0, 4608, .inl go)), (ne, .inl (cs 0, 4608, .inl gn)), (ve, .inl (cs 0, 4, .inl V)), (ma, .inl (cs 0, 64, .inl mf))]) ([.ref o, .int 0, .int 1, .int 1] : List Value).toArray s 0 0 A) (F0 m 101 ls []) := by
          intro k101
          induction k101 with
          | zero => intro x h9; omega
          | succ k101 ih_101 =>
            intro x hk101 hx9 Hp locs ls hP hD hS hl
            refine lv_iload hx hb dX7_putBlock_101 (lv_at hl 7 rfl) ?_
            refine lv_bipush (v := 8) hx hb dX7_putBlock_103 (by decide) ?_
            refine lv_icmp_ge (tgt := 193) hx hb dX7_putBlock_105 (by decide) (fun c_105 => ?_) (fun c_105 => ?_)
            · have ex : x = 8 := by have := nIle (a := 8) (b := x) rfl rfl (by decide) (by omega) c_105; omega
              have hP := xeqP hP (congrArg (fun z9 => ([(o, .inr (7, mdF th W H mt qu zz nw ol ne se ke nc ns is ik dc sc 3 md wh fa re ve ps 0 tl di lv bf bo bd co bt ma)), (nw, .inl (cs 0, 4608, .inl z9)), (ol, .inl (cs 0, 4608, .inl go)), (ne, .inl (cs 0, 4608, .inl gn)), (ve, .inl (cs 0, 4, .inl V)), (ma, .inl (cs 0, 64, .inl mf))] : va_W)) (congrArg (mpB gw W md 0 (mlF W md 0 mf (fun x9 y9 => (((mft (lokP go 0) (wdt 0 W) (wdt 0 H) (nI x9) (nI y9) (mus wh (V 0) 0) (mus wh (V 1) 0)) + (mft (lokP gn 0) (wdt 0 W) (wdt 0 H) (nI x9) (nI y9) (mus wh (V 2) 0) (mus wh (V 3) 0)) + 1) >>> (1 &&& 31))))) (show y * 8 + x = (y + 1) * 8 by omega)))
              have hD := xeqD hD (congrArg (fun z9 => ([(o, .inr (7, mdF th W H mt qu zz nw ol ne se ke nc ns is ik dc sc 3 md wh fa re ve ps 0 tl di lv bf bo bd co bt ma)), (nw, .inl (cs 0, 4608, .inl z9)), (ol, .inl (cs 0, 4608, .inl go)), (ne, .inl (cs 0, 4608, .inl gn)), (ve, .inl (cs 0, 4, .inl V)), (ma, .inl (cs 0, 64, .inl mf))] : va_W)) (congrArg (mpB gw W md 0 (mlF W md 0 mf (fun x9 y9 => (((mft (lokP go 0) (wdt 0 W) (wdt 0 H) (nI x9) (nI y9) (mus wh (V 0) 0) (mus wh (V 1) 0)) + (mft (lokP gn 0) (wdt 0 W) (wdt 0 H) (nI x9) (nI y9) (mus wh (V 2) 0) (mus wh (V 3) 0)) + 1) >>> (1 &&& 31))))) (show y * 8 + x = (y + 1) * 8 by omega)))
              refine lv_iinc (v := (nI (y + 1))) (lv' := [(7, .int (nI (y + 1))), (0, .ref o), (2, .int 1), (3, .int 1), (4, .int 0), (5, .int (nI (bL W md 0))), (6, .int (nI (bT W md 0))), (8, .int (nI x))]) hx hb dX7_putBlock_193 hl (k := 6) rfl (nI_1 y) (by decide) rfl (fun ls hl => ?_)
              refine lv_goto (tgt := 91) hx hb dX7_putBlock_196 (by decide) ?_
              exact ih_91 (y + 1) (by omega) (by omega) _ _ _ hP hD hS (lv_sub hl [1, 2, 3, 4, 5, 6, 0] rfl)
            · have hxl : x < 8 := nInle (a := 8) (b := x) rfl rfl (by decide) (by omega) c_105
              refine lv_aload_n hx hb dX7_putBlock_108 rfl (lv_at hl 0 rfl) ?_
              refine xget (C := RX7) (T := TX7) (N := 34) hF hX hP (by decide +kernel) 0 33 rfl rfl (by decide) (by decide +kernel) rfl dX7_putBlock_109 ?_
              refine lv_bipush (v := 8) hx hb dX7_putBlock_112 (by decide) ?_
              refine lv_iload hx hb dX7_putBlock_114 (lv_at hl 6 rfl) ?_
              refine lv_imul hx hb dX7_putBlock_116 ?_
              refine lv_iload hx hb dX7_putBlock_117 (lv_at hl 7 rfl) ?_
              refine lv_iadd hx hb dX7_putBlock_119 ?_
              refine xrwi (z := nI (y * 8 + x)) (k8 y x) ?_
              refine xald (k := y * 8 + x) hF hX hP 5 rfl (nI_clamp (by omega)) (vp_in_nI (by omega) (by decide)) dX7_putBlock_120 ?_
              refine lv_istore (lv' := [(9, .int (mf (y * 8 + x))), (0, .ref o), (2, .int 1), (3, .int 1), (4, .int 0), (5, .int (nI (bL W md 0))), (6, .int (nI (bT W md 0))), (7, .int (nI y)), (8, .int (nI x))]) hx hb dX7_putBlock_121 hl (by decide) rfl (fun ls hl => ?_)
              refine lv_aload_n hx hb dX7_putBlock_123 rfl (lv_at hl 1 rfl) ?_
              refine xget (C := RX7) (T := TX7) (N := 34) hF hX hP (by decide +kernel) 0 24 rfl rfl (by decide) (by decide +kernel) rfl dX7_putBlock_124 ?_
              refine lv_if_eq (tgt := 135) hx hb dX7_putBlock_127 (by decide) (fun _ => ?_) (fun c_127 => absurd (by decide) c_127)
              refine lv_iload hx hb dX7_putBlock_135 (lv_at hl 0 rfl) ?_
              refine lv_aload_n hx hb dX7_putBlock_137 rfl (lv_at hl 1 rfl) ?_
              refine lv_iload_n hx hb dX7_putBlock_138 rfl (lv_at hl 2 rfl) ?_
              refine lv_iload_n hx hb dX7_putBlock_139 rfl (lv_at hl 3 rfl) ?_
              refine lv_iload hx hb dX7_putBlock_140 (lv_at hl 4 rfl) ?_
              refine lv_iload hx hb dX7_putBlock_142 (lv_at hl 5 rfl) ?_
              refine lv_iload hx hb dX7_putBlock_144 (lv_at hl 8 rfl) ?_
              refine lv_iadd hx hb dX7_putBlock_146 ?_
              refine xrwi (z := nI ((bL W md 0) + x)) (nI_add _ _) ?_
              refine lv_iload hx hb dX7_putBlock_147 (lv_at hl 6 rfl) ?_
              refine lv_iload hx hb dX7_putBlock_149 (lv_at hl 7 rfl) ?_
              refine lv_iadd hx hb dX7_putBlock_151 ?_
              refine xrwi (z := nI ((bT W md 0) + y)) (nI_add _ _) ?_
              refine xV (rest := [.int (mf (y * 8 + x))]) (As := [.int 1, .int 1, .int 0, .int (nI ((bL W md 0) + x)), .int (nI ((bT W md 0) + y))]) (ws1 := [(o, .inr (7, mdF th W H mt qu zz nw ol ne se ke nc ns is ik dc sc 3 md wh fa re ve ps 0 tl di lv bf bo bd co bt ma)), (nw, .inl (cs 0, 4608, .inl (mpB gw W md 0 (mlF W md 0 mf (fun x9 y9 => (((mft (lokP go 0) (wdt 0 W) (wdt 0 H) (nI x9) (nI y9) (mus wh (V 0) 0) (mus wh (V 1) 0)) + (mft (lokP gn 0) (wdt 0 W) (wdt 0 H) (nI x9) (nI y9) (mus wh (V 2) 0) (mus wh (V 3) 0)) + 1) >>> (1 &&& 31)))) (y * 8 + x)))), (ol, .inl (cs 0, 4608, .inl go)), (ne, .inl (cs 0, 4608, .inl gn)), (ve, .inl (cs 0, 4, .inl V)), (ma, .inl (cs 0, 64, .inl mf))]) (st1 := [.int (((mft (lokP go 0) (wdt 0 W) (wdt 0 H) (nI ((bL W md 0) + x)) (nI ((bT W md 0) + y)) (mus wh (V 0) 0) (mus wh (V 1) 0)) + (mft (lokP gn 0) (wdt 0 W) (wdt 0 H) (nI ((bL W md 0) + x)) (nI ((bT W md 0) + y)) (mus wh (V 2) 0) (mus wh (V 3) 0)) + 1) >>> (1 &&& 31)), .int (mf (y * 8 + x))]) hF (c_X7_fetchedD l D cs tt o mt qu zz nw ol ne se ke re ve ps di lv bd co bt ma W H md th nc ns is ik dc sc wh fa 0 tl bf bo 0 (nI ((bL W md 0) + x)) (nI ((bT W md 0) + y)) go gn V (by decide) hw hw4 hh hh3) gX7_putBlock_X7_fetched rfl (n := 5) (by decide +kernel) rfl ⟨⟨rfl, rfl⟩, Nat.le_of_ble_eq_true rfl, Nat.le_of_ble_eq_true rfl⟩ ⟨Nat.le_of_ble_eq_true rfl, Nat.le_of_ble_eq_true rfl⟩ hX hP hD hS [0, 2, 3, 4] (by decide) rfl [o, ol, ne, ve] rfl rfl (q0 := 0) (ci := 7) rfl rfl rfl hl.1 rfl (Nat.le_of_ble_eq_true rfl) dX7_putBlock_152 rfl rfl (fun Hp locs hP hD hS => ?_)
              refine lv_iadd hx hb dX7_putBlock_155 ?_
              refine lv_istore (lv' := [(9, .int ((mf (y * 8 + x)) + (((mft (lokP go 0) (wdt 0 W) (wdt 0 H) (nI ((bL W md 0) + x)) (nI ((bT W md 0) + y)) (mus wh (V 0) 0) (mus wh (V 1) 0)) + (mft (lokP gn 0) (wdt 0 W) (wdt 0 H) (nI ((bL W md 0) + x)) (nI ((bT W md 0) + y)) (mus wh (V 2) 0) (mus wh (V 3) 0)) + 1) >>> (1 &&& 31)))), (0, .ref o), (2, .int 1), (3, .int 1), (4, .int 0), (5, .int (nI (bL W md 0))), (6, .int (nI (bT W md 0))), (7, .int (nI y)), (8, .int (nI x))]) hx hb dX7_putBlock_156 hl (by decide) rfl (fun ls hl => ?_)
              refine lv_aload_n hx hb dX7_putBlock_158 rfl (lv_at hl 1 rfl) ?_
              refine xget (C := RX7) (T := TX7) (N := 34) hF hX hP (by decide +kernel) 0 6 rfl rfl (by decide) (by decide +kernel) rfl dX7_putBlock_159 ?_
              refine lv_iload hx hb dX7_putBlock_162 (lv_at hl 4 rfl) ?_
              refine lv_iload hx hb dX7_putBlock_164 (lv_at hl 5 rfl) ?_
              refine lv_iload hx hb dX7_putBlock_166 (lv_at hl 8 rfl) ?_
              refine lv_iadd hx hb dX7_putBlock_168 ?_
              refine xrwi (z := nI ((bL W md 0) + x)) (nI_add _ _) ?_
              refine lv_iload hx hb dX7_putBlock_169 (lv_at hl 6 rfl) ?_
              refine lv_iload hx hb dX7_putBlock_171 (lv_at hl 7 rfl) ?_
              refine lv_iadd hx hb dX7_putBlock_173 ?_
              refine xrwi (z := nI ((bT W md 0) + y)) (nI_add _ _) ?_
              refine xSt (rest := [.ref nw]) (As := [.int 0, .int (nI ((bL W md 0) + x)), .int (nI ((bT W md 0) + y))]) (ws1 := [(o, .inr (7, mdF th W H mt qu zz nw ol ne se ke nc ns is ik dc sc 3 md wh fa re ve ps 0 tl di lv bf bo bd co bt ma)), (nw, .inl (cs 0, 4608, .inl (mpB gw W md 0 (mlF W md 0 mf (fun x9 y9 => (((mft (lokP go 0) (wdt 0 W) (wdt 0 H) (nI x9) (nI y9) (mus wh (V 0) 0) (mus wh (V 1) 0)) + (mft (lokP gn 0) (wdt 0 W) (wdt 0 H) (nI x9) (nI y9) (mus wh (V 2) 0) (mus wh (V 3) 0)) + 1) >>> (1 &&& 31)))) (y * 8 + x)))), (ol, .inl (cs 0, 4608, .inl go)), (ne, .inl (cs 0, 4608, .inl gn)), (ve, .inl (cs 0, 4, .inl V)), (ma, .inl (cs 0, 64, .inl mf))]) (st1 := [.int (nI (plc 0 ((bL W md 0) + x) ((bT W md 0) + y))), .ref nw]) hF (c_X7_place l D cs tt 0 ((bL W md 0) + x) ((bT W md 0) + y) (by decide)) gX7_putBlock_X7_place rfl (n := 3) (by decide +kernel) rfl ⟨⟨rfl, rfl⟩, Nat.le_of_ble_eq_true rfl, Nat.le_of_ble_eq_true rfl⟩ ⟨Nat.le_of_ble_eq_true rfl, Nat.le_of_ble_eq_true rfl⟩ hX hP hD hS [] (by decide) rfl [] rfl rfl hl.1 rfl (Nat.le_of_ble_eq_true rfl) dX7_putBlock_174 rfl rfl (fun Hp locs hP hD hS => ?_)
              refine xrwi (z := nI (0 + (((bT W md 0) + y) * 64 + ((bL W md 0) + x)))) (by unfold plc; rw [if_pos rfl]; exact congrArg nI (by omega)) ?_
              refine lv_iload hx hb dX7_putBlock_177 (lv_at hl 0 rfl) ?_
              refine lv_iconst (v := 0) hx hb dX7_putBlock_179 (by decide) ?_
              refine lv_sipush (v := 255) hx hb dX7_putBlock_180 (by decide) ?_
              refine xSt (rest := [.int (nI (0 + (((bT W md 0) + y) * 64 + ((bL W md 0) + x)))), .ref nw]) (As := [.int ((mf (y * 8 + x)) + (((mft (lokP go 0) (wdt 0 W) (wdt 0 H) (nI ((bL W md 0) + x)) (nI ((bT W md 0) + y)) (mus wh (V 0) 0) (mus wh (V 1) 0)) + (mft (lokP gn 0) (wdt 0 W) (wdt 0 H) (nI ((bL W md 0) + x)) (nI ((bT W md 0) + y)) (mus wh (V 2) 0) (mus wh (V 3) 0)) + 1) >>> (1 &&& 31))), .int 0, .int 255]) (ws1 := [(o, .inr (7, mdF th W H mt qu zz nw ol ne se ke nc ns is ik dc sc 3 md wh fa re ve ps 0 tl di lv bf bo bd co bt ma)), (nw, .inl (cs 0, 4608, .inl (mpB gw W md 0 (mlF W md 0 mf (fun x9 y9 => (((mft (lokP go 0) (wdt 0 W) (wdt 0 H) (nI x9) (nI y9) (mus wh (V 0) 0) (mus wh (V 1) 0)) + (mft (lokP gn 0) (wdt 0 W) (wdt 0 H) (nI x9) (nI y9) (mus wh (V 2) 0) (mus wh (V 3) 0)) + 1) >>> (1 &&& 31)))) (y * 8 + x)))), (ol, .inl (cs 0, 4608, .inl go)), (ne, .inl (cs 0, 4608, .inl gn)), (ve, .inl (cs 0, 4, .inl V)), (ma, .inl (cs 0, 64, .inl mf))]) (st1 := [.int (bnd ((mf (y * 8 + x)) + (((mft (lokP go 0) (wdt 0 W) (wdt 0 H) (nI ((bL W md 0) + x)) (nI ((bT W md 0) + y)) (mus wh (V 0) 0) (mus wh (V 1) 0)) + (mft (lokP gn 0) (wdt 0 W) (wdt 0 H) (nI ((bL W md 0) + x)) (nI ((bT W md 0) + y)) (mus wh (V 2) 0) (mus wh (V 3) 0)) + 1) >>> (1 &&& 31))) 0 255), .int (nI (0 + (((bT W md 0) + y) * 64 + ((bL W md 0) + x)))), .ref nw]) hF (c_X7_within l D cs tt ((mf (y * 8 + x)) + (((mft (lokP go 0) (wdt 0 W) (wdt 0 H) (nI ((bL W md 0) + x)) (nI ((bT W md 0) + y)) (mus wh (V 0) 0) (mus wh (V 1) 0)) + (mft (lokP gn 0) (wdt 0 W) (wdt 0 H) (nI ((bL W md 0) + x)) (nI ((bT W md 0) + y)) (mus wh (V 2) 0) (mus wh (V 3) 0)) + 1) >>> (1 &&& 31))) 0 255) gX7_putBlock_X7_within rfl (n := 3) (by decide +kernel) rfl ⟨⟨rfl, rfl⟩, Nat.le_of_ble_eq_true rfl, Nat.le_of_ble_eq_true rfl⟩ ⟨Nat.le_of_ble_eq_true rfl, Nat.le_of_ble_eq_true rfl⟩ hX hP hD hS [] (by decide) rfl [] rfl rfl hl.1 rfl (Nat.le_of_ble_eq_true rfl) dX7_putBlock_183 rfl rfl (fun Hp locs hP hD hS => ?_)
              refine xast (k := 0 + (((bT W md 0) + y) * 64 + ((bL W md 0) + x))) (ws1 := [(o, .inr (7, mdF th W H mt qu zz nw ol ne se ke nc ns is ik dc sc 3 md wh fa re ve ps 0 tl di lv bf bo bd co bt ma)), (nw, .inl (cs 0, 4608, .inl (mpB gw W md 0 (mlF W md 0 mf (fun x9 y9 => (((mft (lokP go 0) (wdt 0 W) (wdt 0 H) (nI x9) (nI y9) (mus wh (V 0) 0) (mus wh (V 1) 0)) + (mft (lokP gn 0) (wdt 0 W) (wdt 0 H) (nI x9) (nI y9) (mus wh (V 2) 0) (mus wh (V 3) 0)) + 1) >>> (1 &&& 31)))) (y * 8 + (x + 1))))), (ol, .inl (cs 0, 4608, .inl go)), (ne, .inl (cs 0, 4608, .inl gn)), (ve, .inl (cs 0, 4, .inl V)), (ma, .inl (cs 0, 64, .inl mf))]) hF hX hP hD hS 1 rfl (nI_clamp (by omega)) (vp_in_nI (by omega) (by decide)) dX7_putBlock_186 (congrArg (fun z9 => ([(o, .inr (7, mdF th W H mt qu zz nw ol ne se ke nc ns is ik dc sc 3 md wh fa re ve ps 0 tl di lv bf bo bd co bt ma)), (nw, .inl (cs 0, 4608, .inl z9)), (ol, .inl (cs 0, 4608, .inl go)), (ne, .inl (cs 0, 4608, .inl gn)), (ve, .inl (cs 0, 4, .inl V)), (ma, .inl (cs 0, 64, .inl mf))] : va_W)) (pbs gw (mlF W md 0 mf (fun x9 y9 => (((mft (lokP go 0) (wdt 0 W) (wdt 0 H) (nI x9) (nI y9) (mus wh (V 0) 0) (mus wh (V 1) 0)) + (mft (lokP gn 0) (wdt 0 W) (wdt 0 H) (nI x9) (nI y9) (mus wh (V 2) 0) (mus wh (V 3) 0)) + 1) >>> (1 &&& 31)))) (by unfold mlF; rw [show ((bT W md 0) + y - (bT W md 0)) * 8 + ((bL W md 0) + x - (bL W md 0)) = y * 8 + x by omega]) hxl (show (bL W md 0) + 8 ≤ 64 by omega))) (fun Hp locs hP hD hS => ?_)
              refine lv_iinc (v := (nI (x + 1))) (lv' := [(8, .int (nI (x + 1))), (9, .int ((mf (y * 8 + x)) + (((mft (lokP go 0) (wdt 0 W) (wdt 0 H) (nI ((bL W md 0) + x)) (nI ((bT W md 0) + y)) (mus wh (V 0) 0) (mus wh (V 1) 0)) + (mft (lokP gn 0) (wdt 0 W) (wdt 0 H) (nI ((bL W md 0) + x)) (nI ((bT W md 0) + y)) (mus wh (V 2) 0) (mus wh (V 3) 0)) + 1) >>> (1 &&& 31)))), (0, .ref o), (2, .int 1), (3, .int 1), (4, .int 0), (5, .int (nI (bL W md 0))), (6, .int (nI (bT W md 0))), (7, .int (nI y))]) hx hb dX7_putBlock_187 hl (k := 8) rfl (nI_1 x) (by decide) rfl (fun ls hl => ?_)
              refine lv_goto (tgt := 101) hx hb dX7_putBlock_190 (by decide) ?_
              exact ih_101 (x + 1) (by omega) (by omega) _ _ _ hP hD hS (lv_sub hl [2, 3, 4, 5, 6, 7, 8, 0] rfl)
        exact loop_101 (8 - 0 + 1) 0 (Nat.lt_succ_self _) (by decide) _ _ _ hP hD hS (lv_sub hl [1, 2, 3, 4, 5, 6, 7, 0] rfl)
  have hP := xeqP hP (congrArg (fun z9 => ([(o, .inr (7, mdF th W H mt qu zz nw ol ne se ke nc ns is ik dc sc 3 md wh fa re ve ps 0 tl di lv bf bo bd co bt ma)), (nw, .inl (cs 0, 4608, .inl z9)), (ol, .inl (cs 0, 4608, .inl go)), (ne, .inl (cs 0, 4608, .inl gn)), (ve, .inl (cs 0, 4, .inl V)), (ma, .inl (cs 0, 64, .inl mf))] : va_W)) ((show gw = mpB gw W md 0 (mlF W md 0 mf (fun x9 y9 => (((mft (lokP go 0) (wdt 0 W) (wdt 0 H) (nI x9) (nI y9) (mus wh (V 0) 0) (mus wh (V 1) 0)) + (mft (lokP gn 0) (wdt 0 W) (wdt 0 H) (nI x9) (nI y9) (mus wh (V 2) 0) (mus wh (V 3) 0)) + 1) >>> (1 &&& 31)))) (0 * 8) from (blkTo_0 gw _ _ _ _ 8 (mlF W md 0 mf (fun x9 y9 => (((mft (lokP go 0) (wdt 0 W) (wdt 0 H) (nI x9) (nI y9) (mus wh (V 0) 0) (mus wh (V 1) 0)) + (mft (lokP gn 0) (wdt 0 W) (wdt 0 H) (nI x9) (nI y9) (mus wh (V 2) 0) (mus wh (V 3) 0)) + 1) >>> (1 &&& 31))))).symm)))
  have hD := xeqD hD (congrArg (fun z9 => ([(o, .inr (7, mdF th W H mt qu zz nw ol ne se ke nc ns is ik dc sc 3 md wh fa re ve ps 0 tl di lv bf bo bd co bt ma)), (nw, .inl (cs 0, 4608, .inl z9)), (ol, .inl (cs 0, 4608, .inl go)), (ne, .inl (cs 0, 4608, .inl gn)), (ve, .inl (cs 0, 4, .inl V)), (ma, .inl (cs 0, 64, .inl mf))] : va_W)) ((show gw = mpB gw W md 0 (mlF W md 0 mf (fun x9 y9 => (((mft (lokP go 0) (wdt 0 W) (wdt 0 H) (nI x9) (nI y9) (mus wh (V 0) 0) (mus wh (V 1) 0)) + (mft (lokP gn 0) (wdt 0 W) (wdt 0 H) (nI x9) (nI y9) (mus wh (V 2) 0) (mus wh (V 3) 0)) + 1) >>> (1 &&& 31)))) (0 * 8) from (blkTo_0 gw _ _ _ _ 8 (mlF W md 0 mf (fun x9 y9 => (((mft (lokP go 0) (wdt 0 W) (wdt 0 H) (nI x9) (nI y9) (mus wh (V 0) 0) (mus wh (V 1) 0)) + (mft (lokP gn 0) (wdt 0 W) (wdt 0 H) (nI x9) (nI y9) (mus wh (V 2) 0) (mus wh (V 3) 0)) + 1) >>> (1 &&& 31))))).symm)))
  exact loop_91 (8 - 0 + 1) 0 (Nat.lt_succ_self _) (by decide) _ _ _ hP hD hS (lv_sub hl [4, 6, 7, 3, 2, 1, 0] rfl)

set_option maxHeartbeats 4000000 in
set_option maxRecDepth 100000 in
theorem c_X7_putBlock1O (l : Launch) (D : va_G) (cs : Nat → ClassId) (tt : Nat → Nat) (o mt qu zz nw ol ne se ke re ve ps di lv bd co bt ma W H md : Nat) (th nc ns is ik dc sc kd wh fa tl bf bo : Int32) (fw bw : Int32) (gw mf : Nat → Int32) (hw : 1 ≤ W) (hw4 : W ≤ 4) (hh : 1 ≤ H) (hh3 : H ≤ 3) (hmd : md < W * H) : xM l yX7_putBlock wsX7_putBlock ({ frames := 4, cells := 0, slots := 0, locals := 104 } : Room) D cs tt [.ref o, .int 1, .int fw, .int bw] [(o, .inr (7, mdF th W H mt qu zz nw ol ne se ke nc ns is ik dc sc kd md wh fa re ve ps 1 tl di lv bf bo bd co bt ma)), (nw, .inl (cs 0, 4608, .inl gw)), (ma, .inl (cs 0, 64, .inl mf))] none [(o, .inr (7, mdF th W H mt qu zz nw ol ne se ke nc ns is ik dc sc kd md wh fa re ve ps 1 tl di lv bf bo bd co bt ma)), (nw, .inl (cs 0, 4608, .inl (mpB gw W md 1 (mlO W md 1 mf) (64)))), (ma, .inl (cs 0, 64, .inl mf))] := by
  refine xM.of RX7 rfl (by decide) rfl (Nat.le_of_ble_eq_true rfl) ?_
  intro p e s m below meth c A ls hF hr hlk hX hP hD hS hl
  have hx := hF.1
  have hb := hF.2.1
  have hl : lv_has ls 10 [(0, .ref o), (1, .int 1), (2, .int fw), (3, .int bw)] := hl
  have hm4 : md < 4096 := Nat.lt_of_lt_of_le hmd (Nat.le_trans (Nat.mul_le_mul hw4 hh3) (by decide))
  have hb9 := b_in hw hmd 1 (by decide)
  have hbl : (bL W md 1) + 8 ≤ 16 * W := hb9.1
  have hbt : (bT W md 1) + 8 ≤ 16 * H := hb9.2
  have hsL : bL W md 1 = bL W md 1 := rfl
  refine lv_iload_n hx hb dX7_putBlock_0 rfl (lv_at hl 1 rfl) ?_
  refine xSt (rest := []) (As := [.int 1]) (ws1 := [(o, .inr (7, mdF th W H mt qu zz nw ol ne se ke nc ns is ik dc sc kd md wh fa re ve ps 1 tl di lv bf bo bd co bt ma)), (nw, .inl (cs 0, 4608, .inl gw)), (ma, .inl (cs 0, 64, .inl mf))]) (st1 := [.int (pln 1)]) hF (c_X7_planeOf l D cs tt 1) gX7_putBlock_X7_planeOf rfl (n := 1) (by decide +kernel) rfl ⟨⟨rfl, rfl⟩, Nat.le_of_ble_eq_true rfl, Nat.le_of_ble_eq_true rfl⟩ ⟨Nat.le_of_ble_eq_true rfl, Nat.le_of_ble_eq_true rfl⟩ hX hP hD hS [] (by decide) rfl [] rfl rfl hl.1 rfl (Nat.le_of_ble_eq_true rfl) dX7_putBlock_1 rfl rfl (fun Hp locs hP hD hS => ?_)
  refine xrwi (z := 0) (by decide) ?_
  refine lv_istore (lv' := [(4, .int 0), (0, .ref o), (1, .int 1), (2, .int fw), (3, .int bw)]) hx hb dX7_putBlock_4 hl (by decide) rfl (fun ls hl => ?_)
  refine lv_iload hx hb dX7_putBlock_6 (lv_at hl 0 rfl) ?_
  refine lv_if_ne (tgt := 33) hx hb dX7_putBlock_8 (by decide) (fun c_8 => absurd (by decide) c_8) (fun _ => ?_)
  refine lv_bipush (v := 16) hx hb dX7_putBlock_11 (by decide) ?_
  refine lv_aload_n hx hb dX7_putBlock_13 rfl (lv_at hl 1 rfl) ?_
  refine xget (C := RX7) (T := TX7) (N := 34) hF hX hP (by decide +kernel) 0 18 rfl rfl (by decide) (by decide +kernel) rfl dX7_putBlock_14 ?_
  refine lv_aload_n hx hb dX7_putBlock_17 rfl (lv_at hl 1 rfl) ?_
  refine xget (C := RX7) (T := TX7) (N := 34) hF hX hP (by decide +kernel) 0 1 rfl rfl (by decide) (by decide +kernel) rfl dX7_putBlock_18 ?_
  refine lv_irem hx hb dX7_putBlock_21 (nI_ne0 (by omega) (by omega)) ?_
  refine xrwi (z := nI (md % W)) (pk_rem (by omega) (by omega) (by omega)) ?_
  refine lv_imul hx hb dX7_putBlock_22 ?_
  refine lv_bipush (v := 8) hx hb dX7_putBlock_23 (by decide) ?_
  refine lv_iload_n hx hb dX7_putBlock_25 rfl (lv_at hl 2 rfl) ?_
  refine lv_iconst (v := 2) hx hb dX7_putBlock_26 (by decide) ?_
  refine lv_irem hx hb dX7_putBlock_27 (by decide) ?_
  refine xrwi (z := 1) (by decide) ?_
  refine lv_imul hx hb dX7_putBlock_28 ?_
  refine xrwi (z := 8) (by decide) ?_
  refine lv_iadd hx hb dX7_putBlock_29 ?_
  refine lv_goto (tgt := 45) hx hb dX7_putBlock_30 (by decide) ?_
  refine xrwi (z := nI (bL W md 1)) (by rw [show (16 : Int32) * nI (md % W) = nI (16 * (md % W)) from pk_mul 16 _, show nI (16 * (md % W)) + 8 = nI (16 * (md % W) + 8) from nI_add _ 8]; exact congrArg nI (show 16 * (md % W) + 8 = bL W md 1 by show _ = md % W * 16 + 8; omega)) ?_
  refine lv_istore (lv' := [(5, .int (nI (bL W md 1))), (4, .int 0), (0, .ref o), (1, .int 1), (2, .int fw), (3, .int bw)]) hx hb dX7_putBlock_45 hl (by decide) rfl (fun ls hl => ?_)
  refine lv_iload hx hb dX7_putBlock_47 (lv_at hl 1 rfl) ?_
  refine lv_if_ne (tgt := 74) hx hb dX7_putBlock_49 (by decide) (fun c_49 => absurd (by decide) c_49) (fun _ => ?_)
  refine lv_bipush (v := 16) hx hb dX7_putBlock_52 (by decide) ?_
  refine lv_aload_n hx hb dX7_putBlock_54 rfl (lv_at hl 2 rfl) ?_
  refine xget (C := RX7) (T := TX7) (N := 34) hF hX hP (by decide +kernel) 0 18 rfl rfl (by decide) (by decide +kernel) rfl dX7_putBlock_55 ?_
  refine lv_aload_n hx hb dX7_putBlock_58 rfl (lv_at hl 2 rfl) ?_
  refine xget (C := RX7) (T := TX7) (N := 34) hF hX hP (by decide +kernel) 0 1 rfl rfl (by decide) (by decide +kernel) rfl dX7_putBlock_59 ?_
  refine lv_idiv hx hb dX7_putBlock_62 (nI_ne0 (by omega) (by omega)) ?_
  refine xrwi (z := nI (md / W)) (pk_div (by omega) (by omega) (by omega)) ?_
  refine lv_imul hx hb dX7_putBlock_63 ?_
  refine lv_bipush (v := 8) hx hb dX7_putBlock_64 (by decide) ?_
  refine lv_iload_n hx hb dX7_putBlock_66 rfl (lv_at hl 3 rfl) ?_
  refine lv_iconst (v := 2) hx hb dX7_putBlock_67 (by decide) ?_
  refine lv_idiv hx hb dX7_putBlock_68 (by decide) ?_
  refine xrwi (z := 0) (by decide) ?_
  refine lv_imul hx hb dX7_putBlock_69 ?_
  refine xrwi (z := 0) (by decide) ?_
  refine lv_iadd hx hb dX7_putBlock_70 ?_
  refine lv_goto (tgt := 86) hx hb dX7_putBlock_71 (by decide) ?_
  refine xrwi (z := nI (bT W md 1)) (by rw [show (16 : Int32) * nI (md / W) = nI (16 * (md / W)) from pk_mul 16 _, show nI (16 * (md / W)) + 0 = nI (16 * (md / W) + 0) from nI_add _ 0]; exact congrArg nI (show 16 * (md / W) + 0 = bT W md 1 by show _ = md / W * 16 + 0; omega)) ?_
  refine lv_istore (lv' := [(6, .int (nI (bT W md 1))), (5, .int (nI (bL W md 1))), (4, .int 0), (0, .ref o), (1, .int 1), (2, .int fw), (3, .int bw)]) hx hb dX7_putBlock_86 hl (by decide) rfl (fun ls hl => ?_)
  refine lv_iconst (v := 0) hx hb dX7_putBlock_88 (by decide) ?_
  refine lv_istore (lv' := [(7, .int 0), (6, .int (nI (bT W md 1))), (5, .int (nI (bL W md 1))), (4, .int 0), (0, .ref o), (1, .int 1), (2, .int fw), (3, .int bw)]) hx hb dX7_putBlock_89 hl (by decide) rfl (fun ls hl => ?_)
  have loop_91 : ∀ (k91 : Nat) (y : Nat), 8 - y < k91 → y ≤ 8 → ∀ (Hp : Heap) (locs : List Loc) (ls : Array Slot), va_P D vwCl [(o, .inr (7, mdF th W H mt qu zz nw ol ne se ke nc ns is ik dc sc kd md wh fa re ve ps 1 tl di lv bf bo bd co bt ma)), (nw, .inl (cs 0, 4608, .inl (mpB gw W md 1 (mlO W md 1 mf) (y * 8)))), (ma, .inl (cs 0, 64, .inl mf))] Hp → va_D A [(o, .inr (7, mdF th W H mt qu zz nw ol ne se ke nc ns is ik dc sc kd md wh fa re ve ps 1 tl di lv bf bo bd co bt ma)), (nw, .inl (cs 0, 4608, .inl (mpB gw W md 1 (mlO W md 1 mf) (y * 8)))), (ma, .inl (cs 0, 64, .inl mf))] → va_S A s.heap Hp locs → lv_has ls 10 [(0, .ref o), (2, .int fw), (3, .int bw), (4, .int 0), (5, .int (nI (bL W md 1))), (6, .int (nI (bT W md 1))), (7, .int (nI y))] → xW p l e ({ frames := 4, cells := 0, slots := 0, locals := 104 } : Room) s m ([.ref o, .int 1, .int fw, .int bw] : List Value).toArray below meth c Hp locs 0 0 (MQ below (xE D A none [(o, .inr (7, mdF th W H mt qu zz nw ol ne se ke nc ns is ik dc sc kd md wh fa re ve ps 1 tl di lv bf bo bd co bt ma)), (nw, .inl (cs 0, 4608, .inl (mpB gw W md 1 (mlO W md 1 mf) (64)))), (ma, .inl (cs 0, 64, .inl mf))]) ([.ref o, .int 1, .int fw, .int bw] : List Value).toArray s 0 0 A) (F0 m 91 ls []) := by
    intro k91
    induction k91 with
    | zero => intro y h9; omega
    | succ k91 ih_91 =>
      intro y hk91 hy9 Hp locs ls hP hD hS hl
      refine lv_iload hx hb dX7_putBlock_91 (lv_at hl 6 rfl) ?_
      refine lv_bipush (v := 8) hx hb dX7_putBlock_93 (by decide) ?_
      refine lv_icmp_ge (tgt := 199) hx hb dX7_putBlock_95 (by decide) (fun c_95 => ?_) (fun c_95 => ?_)
      · have ey : y = 8 := by have := nIle (a := 8) (b := y) rfl rfl (by decide) (by omega) c_95; omega
        have hP := xeqP hP (congrArg (fun z9 => ([(o, .inr (7, mdF th W H mt qu zz nw ol ne se ke nc ns is ik dc sc kd md wh fa re ve ps 1 tl di lv bf bo bd co bt ma)), (nw, .inl (cs 0, 4608, .inl z9)), (ma, .inl (cs 0, 64, .inl mf))] : va_W)) (congrArg (mpB gw W md 1 (mlO W md 1 mf)) (show y * 8 = 64 by omega)))
        have hD := xeqD hD (congrArg (fun z9 => ([(o, .inr (7, mdF th W H mt qu zz nw ol ne se ke nc ns is ik dc sc kd md wh fa re ve ps 1 tl di lv bf bo bd co bt ma)), (nw, .inl (cs 0, 4608, .inl z9)), (ma, .inl (cs 0, 64, .inl mf))] : va_W)) (congrArg (mpB gw W md 1 (mlO W md 1 mf)) (show y * 8 = 64 by omega)))
        exact xrv hF hr hlk hP hD hS dX7_putBlock_199
      · have hyl : y < 8 := nInle (a := 8) (b := y) rfl rfl (by decide) (by omega) c_95
        refine lv_iconst (v := 0) hx hb dX7_putBlock_98 (by decide) ?_
        refine lv_istore (lv' := [(8, .int 0), (0, .ref o), (2, .int fw), (3, .int bw), (4, .int 0), (5, .int (nI (bL W md 1))), (6, .int (nI (bT W md 1))), (7, .int (nI y))]) hx hb dX7_putBlock_99 hl (by decide) rfl (fun ls hl => ?_)
        have loop_101 : ∀ (k101 : Nat) (x : Nat), 8 - x < k101 → x ≤ 8 → ∀ (Hp : Heap) (locs : List Loc) (ls : Array Slot), va_P D vwCl [(o, .inr (7, mdF th W H mt qu zz nw ol ne se ke nc ns is ik dc sc kd md wh fa re ve ps 1 tl di lv bf bo bd co bt ma)), (nw, .inl (cs 0, 4608, .inl (mpB gw W md 1 (mlO W md 1 mf) (y * 8 + x)))), (ma, .inl (cs 0, 64, .inl mf))] Hp → va_D A [(o, .inr (7, mdF th W H mt qu zz nw ol ne se ke nc ns is ik dc sc kd md wh fa re ve ps 1 tl di lv bf bo bd co bt ma)), (nw, .inl (cs 0, 4608, .inl (mpB gw W md 1 (mlO W md 1 mf) (y * 8 + x)))), (ma, .inl (cs 0, 64, .inl mf))] → va_S A s.heap Hp locs → lv_has ls 10 [(0, .ref o), (2, .int fw), (3, .int bw), (4, .int 0), (5, .int (nI (bL W md 1))), (6, .int (nI (bT W md 1))), (7, .int (nI y)), (8, .int (nI x))] → xW p l e ({ frames := 4, cells := 0, slots := 0, locals := 104 } : Room) s m ([.ref o, .int 1, .int fw, .int bw] : List Value).toArray below meth c Hp locs 0 0 (MQ below (xE D A none [(o, .inr (7, mdF th W H mt qu zz nw ol ne se ke nc ns is ik dc sc kd md wh fa re ve ps 1 tl di lv bf bo bd co bt ma)), (nw, .inl (cs 0, 4608, .inl (mpB gw W md 1 (mlO W md 1 mf) (64)))), (ma, .inl (cs 0, 64, .inl mf))]) ([.ref o, .int 1, .int fw, .int bw] : List Value).toArray s 0 0 A) (F0 m 101 ls []) := by
          intro k101
          induction k101 with
          | zero => intro x h9; omega
          | succ k101 ih_101 =>
            intro x hk101 hx9 Hp locs ls hP hD hS hl
            refine lv_iload hx hb dX7_putBlock_101 (lv_at hl 7 rfl) ?_
            refine lv_bipush (v := 8) hx hb dX7_putBlock_103 (by decide) ?_
            refine lv_icmp_ge (tgt := 193) hx hb dX7_putBlock_105 (by decide) (fun c_105 => ?_) (fun c_105 => ?_)
            · have ex : x = 8 := by have := nIle (a := 8) (b := x) rfl rfl (by decide) (by omega) c_105; omega
              have hP := xeqP hP (congrArg (fun z9 => ([(o, .inr (7, mdF th W H mt qu zz nw ol ne se ke nc ns is ik dc sc kd md wh fa re ve ps 1 tl di lv bf bo bd co bt ma)), (nw, .inl (cs 0, 4608, .inl z9)), (ma, .inl (cs 0, 64, .inl mf))] : va_W)) (congrArg (mpB gw W md 1 (mlO W md 1 mf)) (show y * 8 + x = (y + 1) * 8 by omega)))
              have hD := xeqD hD (congrArg (fun z9 => ([(o, .inr (7, mdF th W H mt qu zz nw ol ne se ke nc ns is ik dc sc kd md wh fa re ve ps 1 tl di lv bf bo bd co bt ma)), (nw, .inl (cs 0, 4608, .inl z9)), (ma, .inl (cs 0, 64, .inl mf))] : va_W)) (congrArg (mpB gw W md 1 (mlO W md 1 mf)) (show y * 8 + x = (y + 1) * 8 by omega)))
              refine lv_iinc (v := (nI (y + 1))) (lv' := [(7, .int (nI (y + 1))), (0, .ref o), (2, .int fw), (3, .int bw), (4, .int 0), (5, .int (nI (bL W md 1))), (6, .int (nI (bT W md 1))), (8, .int (nI x))]) hx hb dX7_putBlock_193 hl (k := 6) rfl (nI_1 y) (by decide) rfl (fun ls hl => ?_)
              refine lv_goto (tgt := 91) hx hb dX7_putBlock_196 (by decide) ?_
              exact ih_91 (y + 1) (by omega) (by omega) _ _ _ hP hD hS (lv_sub hl [1, 2, 3, 4, 5, 6, 0] rfl)
            · have hxl : x < 8 := nInle (a := 8) (b := x) rfl rfl (by decide) (by omega) c_105
              refine lv_aload_n hx hb dX7_putBlock_108 rfl (lv_at hl 0 rfl) ?_
              refine xget (C := RX7) (T := TX7) (N := 34) hF hX hP (by decide +kernel) 0 33 rfl rfl (by decide) (by decide +kernel) rfl dX7_putBlock_109 ?_
              refine lv_bipush (v := 8) hx hb dX7_putBlock_112 (by decide) ?_
              refine lv_iload hx hb dX7_putBlock_114 (lv_at hl 6 rfl) ?_
              refine lv_imul hx hb dX7_putBlock_116 ?_
              refine lv_iload hx hb dX7_putBlock_117 (lv_at hl 7 rfl) ?_
              refine lv_iadd hx hb dX7_putBlock_119 ?_
              refine xrwi (z := nI (y * 8 + x)) (k8 y x) ?_
              refine xald (k := y * 8 + x) hF hX hP 2 rfl (nI_clamp (by omega)) (vp_in_nI (by omega) (by decide)) dX7_putBlock_120 ?_
              refine lv_istore (lv' := [(9, .int (mf (y * 8 + x))), (0, .ref o), (2, .int fw), (3, .int bw), (4, .int 0), (5, .int (nI (bL W md 1))), (6, .int (nI (bT W md 1))), (7, .int (nI y)), (8, .int (nI x))]) hx hb dX7_putBlock_121 hl (by decide) rfl (fun ls hl => ?_)
              refine lv_aload_n hx hb dX7_putBlock_123 rfl (lv_at hl 1 rfl) ?_
              refine xget (C := RX7) (T := TX7) (N := 34) hF hX hP (by decide +kernel) 0 24 rfl rfl (by decide) (by decide +kernel) rfl dX7_putBlock_124 ?_
              refine lv_if_eq (tgt := 135) hx hb dX7_putBlock_127 (by decide) (fun c_127 => absurd c_127 (by decide)) (fun _ => ?_)
              refine lv_iload hx hb dX7_putBlock_130 (lv_at hl 0 rfl) ?_
              refine lv_goto (tgt := 156) hx hb dX7_putBlock_132 (by decide) ?_
              refine lv_istore (lv' := [(9, .int (mf (y * 8 + x))), (0, .ref o), (2, .int fw), (3, .int bw), (4, .int 0), (5, .int (nI (bL W md 1))), (6, .int (nI (bT W md 1))), (7, .int (nI y)), (8, .int (nI x))]) hx hb dX7_putBlock_156 hl (by decide) rfl (fun ls hl => ?_)
              refine lv_aload_n hx hb dX7_putBlock_158 rfl (lv_at hl 1 rfl) ?_
              refine xget (C := RX7) (T := TX7) (N := 34) hF hX hP (by decide +kernel) 0 6 rfl rfl (by decide) (by decide +kernel) rfl dX7_putBlock_159 ?_
              refine lv_iload hx hb dX7_putBlock_162 (lv_at hl 4 rfl) ?_
              refine lv_iload hx hb dX7_putBlock_164 (lv_at hl 5 rfl) ?_
              refine lv_iload hx hb dX7_putBlock_166 (lv_at hl 8 rfl) ?_
              refine lv_iadd hx hb dX7_putBlock_168 ?_
              refine xrwi (z := nI ((bL W md 1) + x)) (nI_add _ _) ?_
              refine lv_iload hx hb dX7_putBlock_169 (lv_at hl 6 rfl) ?_
              refine lv_iload hx hb dX7_putBlock_171 (lv_at hl 7 rfl) ?_
              refine lv_iadd hx hb dX7_putBlock_173 ?_
              refine xrwi (z := nI ((bT W md 1) + y)) (nI_add _ _) ?_
              refine xSt (rest := [.ref nw]) (As := [.int 0, .int (nI ((bL W md 1) + x)), .int (nI ((bT W md 1) + y))]) (ws1 := [(o, .inr (7, mdF th W H mt qu zz nw ol ne se ke nc ns is ik dc sc kd md wh fa re ve ps 1 tl di lv bf bo bd co bt ma)), (nw, .inl (cs 0, 4608, .inl (mpB gw W md 1 (mlO W md 1 mf) (y * 8 + x)))), (ma, .inl (cs 0, 64, .inl mf))]) (st1 := [.int (nI (plc 0 ((bL W md 1) + x) ((bT W md 1) + y))), .ref nw]) hF (c_X7_place l D cs tt 0 ((bL W md 1) + x) ((bT W md 1) + y) (by decide)) gX7_putBlock_X7_place rfl (n := 3) (by decide +kernel) rfl ⟨⟨rfl, rfl⟩, Nat.le_of_ble_eq_true rfl, Nat.le_of_ble_eq_true rfl⟩ ⟨Nat.le_of_ble_eq_true rfl, Nat.le_of_ble_eq_true rfl⟩ hX hP hD hS [] (by decide) rfl [] rfl rfl hl.1 rfl (Nat.le_of_ble_eq_true rfl) dX7_putBlock_174 rfl rfl (fun Hp locs hP hD hS => ?_)
              refine xrwi (z := nI (0 + (((bT W md 1) + y) * 64 + ((bL W md 1) + x)))) (by unfold plc; rw [if_pos rfl]; exact congrArg nI (by omega)) ?_
              refine lv_iload hx hb dX7_putBlock_177 (lv_at hl 0 rfl) ?_
              refine lv_iconst (v := 0) hx hb dX7_putBlock_179 (by decide) ?_
              refine lv_sipush (v := 255) hx hb dX7_putBlock_180 (by decide) ?_
              refine xSt (rest := [.int (nI (0 + (((bT W md 1) + y) * 64 + ((bL W md 1) + x)))), .ref nw]) (As := [.int (mf (y * 8 + x)), .int 0, .int 255]) (ws1 := [(o, .inr (7, mdF th W H mt qu zz nw ol ne se ke nc ns is ik dc sc kd md wh fa re ve ps 1 tl di lv bf bo bd co bt ma)), (nw, .inl (cs 0, 4608, .inl (mpB gw W md 1 (mlO W md 1 mf) (y * 8 + x)))), (ma, .inl (cs 0, 64, .inl mf))]) (st1 := [.int (bnd (mf (y * 8 + x)) 0 255), .int (nI (0 + (((bT W md 1) + y) * 64 + ((bL W md 1) + x)))), .ref nw]) hF (c_X7_within l D cs tt (mf (y * 8 + x)) 0 255) gX7_putBlock_X7_within rfl (n := 3) (by decide +kernel) rfl ⟨⟨rfl, rfl⟩, Nat.le_of_ble_eq_true rfl, Nat.le_of_ble_eq_true rfl⟩ ⟨Nat.le_of_ble_eq_true rfl, Nat.le_of_ble_eq_true rfl⟩ hX hP hD hS [] (by decide) rfl [] rfl rfl hl.1 rfl (Nat.le_of_ble_eq_true rfl) dX7_putBlock_183 rfl rfl (fun Hp locs hP hD hS => ?_)
              refine xast (k := 0 + (((bT W md 1) + y) * 64 + ((bL W md 1) + x))) (ws1 := [(o, .inr (7, mdF th W H mt qu zz nw ol ne se ke nc ns is ik dc sc kd md wh fa re ve ps 1 tl di lv bf bo bd co bt ma)), (nw, .inl (cs 0, 4608, .inl (mpB gw W md 1 (mlO W md 1 mf) (y * 8 + (x + 1))))), (ma, .inl (cs 0, 64, .inl mf))]) hF hX hP hD hS 1 rfl (nI_clamp (by omega)) (vp_in_nI (by omega) (by decide)) dX7_putBlock_186 (congrArg (fun z9 => ([(o, .inr (7, mdF th W H mt qu zz nw ol ne se ke nc ns is ik dc sc kd md wh fa re ve ps 1 tl di lv bf bo bd co bt ma)), (nw, .inl (cs 0, 4608, .inl z9)), (ma, .inl (cs 0, 64, .inl mf))] : va_W)) (pbs gw (mlO W md 1 mf) (by unfold mlO; rw [show ((bT W md 1) + y - (bT W md 1)) * 8 + ((bL W md 1) + x - (bL W md 1)) = y * 8 + x by omega]) hxl (show (bL W md 1) + 8 ≤ 64 by omega))) (fun Hp locs hP hD hS => ?_)
              refine lv_iinc (v := (nI (x + 1))) (lv' := [(8, .int (nI (x + 1))), (9, .int (mf (y * 8 + x))), (0, .ref o), (2, .int fw), (3, .int bw), (4, .int 0), (5, .int (nI (bL W md 1))), (6, .int (nI (bT W md 1))), (7, .int (nI y))]) hx hb dX7_putBlock_187 hl (k := 8) rfl (nI_1 x) (by decide) rfl (fun ls hl => ?_)
              refine lv_goto (tgt := 101) hx hb dX7_putBlock_190 (by decide) ?_
              exact ih_101 (x + 1) (by omega) (by omega) _ _ _ hP hD hS (lv_sub hl [2, 3, 4, 5, 6, 7, 8, 0] rfl)
        exact loop_101 (8 - 0 + 1) 0 (Nat.lt_succ_self _) (by decide) _ _ _ hP hD hS (lv_sub hl [1, 2, 3, 4, 5, 6, 7, 0] rfl)
  have hP := xeqP hP (congrArg (fun z9 => ([(o, .inr (7, mdF th W H mt qu zz nw ol ne se ke nc ns is ik dc sc kd md wh fa re ve ps 1 tl di lv bf bo bd co bt ma)), (nw, .inl (cs 0, 4608, .inl z9)), (ma, .inl (cs 0, 64, .inl mf))] : va_W)) ((show gw = mpB gw W md 1 (mlO W md 1 mf) (0 * 8) from (blkTo_0 gw _ _ _ _ 8 (mlO W md 1 mf)).symm)))
  have hD := xeqD hD (congrArg (fun z9 => ([(o, .inr (7, mdF th W H mt qu zz nw ol ne se ke nc ns is ik dc sc kd md wh fa re ve ps 1 tl di lv bf bo bd co bt ma)), (nw, .inl (cs 0, 4608, .inl z9)), (ma, .inl (cs 0, 64, .inl mf))] : va_W)) ((show gw = mpB gw W md 1 (mlO W md 1 mf) (0 * 8) from (blkTo_0 gw _ _ _ _ 8 (mlO W md 1 mf)).symm)))
  exact loop_91 (8 - 0 + 1) 0 (Nat.lt_succ_self _) (by decide) _ _ _ hP hD hS (lv_sub hl [4, 6, 7, 3, 2, 1, 0] rfl)

set_option maxHeartbeats 4000000 in
set_option maxRecDepth 100000 in
theorem c_X7_putBlock1A (l : Launch) (D : va_G) (cs : Nat → ClassId) (tt : Nat → Nat) (o mt qu zz nw ol ne se ke re ve ps di lv bd co bt ma W H md : Nat) (th nc ns is ik dc sc wh fa tl bf bo : Int32) (gw mf go gn V : Nat → Int32) (hw : 1 ≤ W) (hw4 : W ≤ 4) (hh : 1 ≤ H) (hh3 : H ≤ 3) (hmd : md < W * H) : xM l yX7_putBlock wsX7_putBlock ({ frames := 4, cells := 0, slots := 0, locals := 104 } : Room) D cs tt [.ref o, .int 1, .int 1, .int 0] [(o, .inr (7, mdF th W H mt qu zz nw ol ne se ke nc ns is ik dc sc 2 md wh fa re ve ps 0 tl di lv bf bo bd co bt ma)), (nw, .inl (cs 0, 4608, .inl gw)), (ol, .inl (cs 0, 4608, .inl go)), (ne, .inl (cs 0, 4608, .inl gn)), (ve, .inl (cs 0, 4, .inl V)), (ma, .inl (cs 0, 64, .inl mf))] none [(o, .inr (7, mdF th W H mt qu zz nw ol ne se ke nc ns is ik dc sc 2 md wh fa re ve ps 0 tl di lv bf bo bd co bt ma)), (nw, .inl (cs 0, 4608, .inl (mpB gw W md 1 (mlF W md 1 mf (fun x9 y9 => (mft (lokP gn 0) (wdt 0 W) (wdt 0 H) (nI x9) (nI y9) (mus wh (V 0) 0) (mus wh (V 1) 0)))) (64)))), (ol, .inl (cs 0, 4608, .inl go)), (ne, .inl (cs 0, 4608, .inl gn)), (ve, .inl (cs 0, 4, .inl V)), (ma, .inl (cs 0, 64, .inl mf))] := by
  refine xM.of RX7 rfl (by decide) rfl (Nat.le_of_ble_eq_true rfl) ?_
  intro p e s m below meth c A ls hF hr hlk hX hP hD hS hl
  have hx := hF.1
  have hb := hF.2.1
  have hl : lv_has ls 10 [(0, .ref o), (1, .int 1), (2, .int 1), (3, .int 0)] := hl
  have hm4 : md < 4096 := Nat.lt_of_lt_of_le hmd (Nat.le_trans (Nat.mul_le_mul hw4 hh3) (by decide))
  have hb9 := b_in hw hmd 1 (by decide)
  have hbl : (bL W md 1) + 8 ≤ 16 * W := hb9.1
  have hbt : (bT W md 1) + 8 ≤ 16 * H := hb9.2
  have hsL : bL W md 1 = bL W md 1 := rfl
  refine lv_iload_n hx hb dX7_putBlock_0 rfl (lv_at hl 1 rfl) ?_
  refine xSt (rest := []) (As := [.int 1]) (ws1 := [(o, .inr (7, mdF th W H mt qu zz nw ol ne se ke nc ns is ik dc sc 2 md wh fa re ve ps 0 tl di lv bf bo bd co bt ma)), (nw, .inl (cs 0, 4608, .inl gw)), (ol, .inl (cs 0, 4608, .inl go)), (ne, .inl (cs 0, 4608, .inl gn)), (ve, .inl (cs 0, 4, .inl V)), (ma, .inl (cs 0, 64, .inl mf))]) (st1 := [.int (pln 1)]) hF (c_X7_planeOf l D cs tt 1) gX7_putBlock_X7_planeOf rfl (n := 1) (by decide +kernel) rfl ⟨⟨rfl, rfl⟩, Nat.le_of_ble_eq_true rfl, Nat.le_of_ble_eq_true rfl⟩ ⟨Nat.le_of_ble_eq_true rfl, Nat.le_of_ble_eq_true rfl⟩ hX hP hD hS [] (by decide) rfl [] rfl rfl hl.1 rfl (Nat.le_of_ble_eq_true rfl) dX7_putBlock_1 rfl rfl (fun Hp locs hP hD hS => ?_)
  refine xrwi (z := 0) (by decide) ?_
  refine lv_istore (lv' := [(4, .int 0), (0, .ref o), (1, .int 1), (2, .int 1), (3, .int 0)]) hx hb dX7_putBlock_4 hl (by decide) rfl (fun ls hl => ?_)
  refine lv_iload hx hb dX7_putBlock_6 (lv_at hl 0 rfl) ?_
  refine lv_if_ne (tgt := 33) hx hb dX7_putBlock_8 (by decide) (fun c_8 => absurd (by decide) c_8) (fun _ => ?_)
  refine lv_bipush (v := 16) hx hb dX7_putBlock_11 (by decide) ?_
  refine lv_aload_n hx hb dX7_putBlock_13 rfl (lv_at hl 1 rfl) ?_
  refine xget (C := RX7) (T := TX7) (N := 34) hF hX hP (by decide +kernel) 0 18 rfl rfl (by decide) (by decide +kernel) rfl dX7_putBlock_14 ?_
  refine lv_aload_n hx hb dX7_putBlock_17 rfl (lv_at hl 1 rfl) ?_
  refine xget (C := RX7) (T := TX7) (N := 34) hF hX hP (by decide +kernel) 0 1 rfl rfl (by decide) (by decide +kernel) rfl dX7_putBlock_18 ?_
  refine lv_irem hx hb dX7_putBlock_21 (nI_ne0 (by omega) (by omega)) ?_
  refine xrwi (z := nI (md % W)) (pk_rem (by omega) (by omega) (by omega)) ?_
  refine lv_imul hx hb dX7_putBlock_22 ?_
  refine lv_bipush (v := 8) hx hb dX7_putBlock_23 (by decide) ?_
  refine lv_iload_n hx hb dX7_putBlock_25 rfl (lv_at hl 2 rfl) ?_
  refine lv_iconst (v := 2) hx hb dX7_putBlock_26 (by decide) ?_
  refine lv_irem hx hb dX7_putBlock_27 (by decide) ?_
  refine xrwi (z := 1) (by decide) ?_
  refine lv_imul hx hb dX7_putBlock_28 ?_
  refine xrwi (z := 8) (by decide) ?_
  refine lv_iadd hx hb dX7_putBlock_29 ?_
  refine lv_goto (tgt := 45) hx hb dX7_putBlock_30 (by decide) ?_
  refine xrwi (z := nI (bL W md 1)) (by rw [show (16 : Int32) * nI (md % W) = nI (16 * (md % W)) from pk_mul 16 _, show nI (16 * (md % W)) + 8 = nI (16 * (md % W) + 8) from nI_add _ 8]; exact congrArg nI (show 16 * (md % W) + 8 = bL W md 1 by show _ = md % W * 16 + 8; omega)) ?_
  refine lv_istore (lv' := [(5, .int (nI (bL W md 1))), (4, .int 0), (0, .ref o), (1, .int 1), (2, .int 1), (3, .int 0)]) hx hb dX7_putBlock_45 hl (by decide) rfl (fun ls hl => ?_)
  refine lv_iload hx hb dX7_putBlock_47 (lv_at hl 1 rfl) ?_
  refine lv_if_ne (tgt := 74) hx hb dX7_putBlock_49 (by decide) (fun c_49 => absurd (by decide) c_49) (fun _ => ?_)
  refine lv_bipush (v := 16) hx hb dX7_putBlock_52 (by decide) ?_
  refine lv_aload_n hx hb dX7_putBlock_54 rfl (lv_at hl 2 rfl) ?_
  refine xget (C := RX7) (T := TX7) (N := 34) hF hX hP (by decide +kernel) 0 18 rfl rfl (by decide) (by decide +kernel) rfl dX7_putBlock_55 ?_
  refine lv_aload_n hx hb dX7_putBlock_58 rfl (lv_at hl 2 rfl) ?_
  refine xget (C := RX7) (T := TX7) (N := 34) hF hX hP (by decide +kernel) 0 1 rfl rfl (by decide) (by decide +kernel) rfl dX7_putBlock_59 ?_
  refine lv_idiv hx hb dX7_putBlock_62 (nI_ne0 (by omega) (by omega)) ?_
  refine xrwi (z := nI (md / W)) (pk_div (by omega) (by omega) (by omega)) ?_
  refine lv_imul hx hb dX7_putBlock_63 ?_
  refine lv_bipush (v := 8) hx hb dX7_putBlock_64 (by decide) ?_
  refine lv_iload_n hx hb dX7_putBlock_66 rfl (lv_at hl 3 rfl) ?_
  refine lv_iconst (v := 2) hx hb dX7_putBlock_67 (by decide) ?_
  refine lv_idiv hx hb dX7_putBlock_68 (by decide) ?_
  refine xrwi (z := 0) (by decide) ?_
  refine lv_imul hx hb dX7_putBlock_69 ?_
  refine xrwi (z := 0) (by decide) ?_
  refine lv_iadd hx hb dX7_putBlock_70 ?_
  refine lv_goto (tgt := 86) hx hb dX7_putBlock_71 (by decide) ?_
  refine xrwi (z := nI (bT W md 1)) (by rw [show (16 : Int32) * nI (md / W) = nI (16 * (md / W)) from pk_mul 16 _, show nI (16 * (md / W)) + 0 = nI (16 * (md / W) + 0) from nI_add _ 0]; exact congrArg nI (show 16 * (md / W) + 0 = bT W md 1 by show _ = md / W * 16 + 0; omega)) ?_
  refine lv_istore (lv' := [(6, .int (nI (bT W md 1))), (5, .int (nI (bL W md 1))), (4, .int 0), (0, .ref o), (1, .int 1), (2, .int 1), (3, .int 0)]) hx hb dX7_putBlock_86 hl (by decide) rfl (fun ls hl => ?_)
  refine lv_iconst (v := 0) hx hb dX7_putBlock_88 (by decide) ?_
  refine lv_istore (lv' := [(7, .int 0), (6, .int (nI (bT W md 1))), (5, .int (nI (bL W md 1))), (4, .int 0), (0, .ref o), (1, .int 1), (2, .int 1), (3, .int 0)]) hx hb dX7_putBlock_89 hl (by decide) rfl (fun ls hl => ?_)
  have loop_91 : ∀ (k91 : Nat) (y : Nat), 8 - y < k91 → y ≤ 8 → ∀ (Hp : Heap) (locs : List Loc) (ls : Array Slot), va_P D vwCl [(o, .inr (7, mdF th W H mt qu zz nw ol ne se ke nc ns is ik dc sc 2 md wh fa re ve ps 0 tl di lv bf bo bd co bt ma)), (nw, .inl (cs 0, 4608, .inl (mpB gw W md 1 (mlF W md 1 mf (fun x9 y9 => (mft (lokP gn 0) (wdt 0 W) (wdt 0 H) (nI x9) (nI y9) (mus wh (V 0) 0) (mus wh (V 1) 0)))) (y * 8)))), (ol, .inl (cs 0, 4608, .inl go)), (ne, .inl (cs 0, 4608, .inl gn)), (ve, .inl (cs 0, 4, .inl V)), (ma, .inl (cs 0, 64, .inl mf))] Hp → va_D A [(o, .inr (7, mdF th W H mt qu zz nw ol ne se ke nc ns is ik dc sc 2 md wh fa re ve ps 0 tl di lv bf bo bd co bt ma)), (nw, .inl (cs 0, 4608, .inl (mpB gw W md 1 (mlF W md 1 mf (fun x9 y9 => (mft (lokP gn 0) (wdt 0 W) (wdt 0 H) (nI x9) (nI y9) (mus wh (V 0) 0) (mus wh (V 1) 0)))) (y * 8)))), (ol, .inl (cs 0, 4608, .inl go)), (ne, .inl (cs 0, 4608, .inl gn)), (ve, .inl (cs 0, 4, .inl V)), (ma, .inl (cs 0, 64, .inl mf))] → va_S A s.heap Hp locs → lv_has ls 10 [(0, .ref o), (2, .int 1), (3, .int 0), (4, .int 0), (5, .int (nI (bL W md 1))), (6, .int (nI (bT W md 1))), (7, .int (nI y))] → xW p l e ({ frames := 4, cells := 0, slots := 0, locals := 104 } : Room) s m ([.ref o, .int 1, .int 1, .int 0] : List Value).toArray below meth c Hp locs 0 0 (MQ below (xE D A none [(o, .inr (7, mdF th W H mt qu zz nw ol ne se ke nc ns is ik dc sc 2 md wh fa re ve ps 0 tl di lv bf bo bd co bt ma)), (nw, .inl (cs 0, 4608, .inl (mpB gw W md 1 (mlF W md 1 mf (fun x9 y9 => (mft (lokP gn 0) (wdt 0 W) (wdt 0 H) (nI x9) (nI y9) (mus wh (V 0) 0) (mus wh (V 1) 0)))) (64)))), (ol, .inl (cs 0, 4608, .inl go)), (ne, .inl (cs 0, 4608, .inl gn)), (ve, .inl (cs 0, 4, .inl V)), (ma, .inl (cs 0, 64, .inl mf))]) ([.ref o, .int 1, .int 1, .int 0] : List Value).toArray s 0 0 A) (F0 m 91 ls []) := by
    intro k91
    induction k91 with
    | zero => intro y h9; omega
    | succ k91 ih_91 =>
      intro y hk91 hy9 Hp locs ls hP hD hS hl
      refine lv_iload hx hb dX7_putBlock_91 (lv_at hl 6 rfl) ?_
      refine lv_bipush (v := 8) hx hb dX7_putBlock_93 (by decide) ?_
      refine lv_icmp_ge (tgt := 199) hx hb dX7_putBlock_95 (by decide) (fun c_95 => ?_) (fun c_95 => ?_)
      · have ey : y = 8 := by have := nIle (a := 8) (b := y) rfl rfl (by decide) (by omega) c_95; omega
        have hP := xeqP hP (congrArg (fun z9 => ([(o, .inr (7, mdF th W H mt qu zz nw ol ne se ke nc ns is ik dc sc 2 md wh fa re ve ps 0 tl di lv bf bo bd co bt ma)), (nw, .inl (cs 0, 4608, .inl z9)), (ol, .inl (cs 0, 4608, .inl go)), (ne, .inl (cs 0, 4608, .inl gn)), (ve, .inl (cs 0, 4, .inl V)), (ma, .inl (cs 0, 64, .inl mf))] : va_W)) (congrArg (mpB gw W md 1 (mlF W md 1 mf (fun x9 y9 => (mft (lokP gn 0) (wdt 0 W) (wdt 0 H) (nI x9) (nI y9) (mus wh (V 0) 0) (mus wh (V 1) 0))))) (show y * 8 = 64 by omega)))
        have hD := xeqD hD (congrArg (fun z9 => ([(o, .inr (7, mdF th W H mt qu zz nw ol ne se ke nc ns is ik dc sc 2 md wh fa re ve ps 0 tl di lv bf bo bd co bt ma)), (nw, .inl (cs 0, 4608, .inl z9)), (ol, .inl (cs 0, 4608, .inl go)), (ne, .inl (cs 0, 4608, .inl gn)), (ve, .inl (cs 0, 4, .inl V)), (ma, .inl (cs 0, 64, .inl mf))] : va_W)) (congrArg (mpB gw W md 1 (mlF W md 1 mf (fun x9 y9 => (mft (lokP gn 0) (wdt 0 W) (wdt 0 H) (nI x9) (nI y9) (mus wh (V 0) 0) (mus wh (V 1) 0))))) (show y * 8 = 64 by omega)))
        exact xrv hF hr hlk hP hD hS dX7_putBlock_199
      · have hyl : y < 8 := nInle (a := 8) (b := y) rfl rfl (by decide) (by omega) c_95
        refine lv_iconst (v := 0) hx hb dX7_putBlock_98 (by decide) ?_
        refine lv_istore (lv' := [(8, .int 0), (0, .ref o), (2, .int 1), (3, .int 0), (4, .int 0), (5, .int (nI (bL W md 1))), (6, .int (nI (bT W md 1))), (7, .int (nI y))]) hx hb dX7_putBlock_99 hl (by decide) rfl (fun ls hl => ?_)
        have loop_101 : ∀ (k101 : Nat) (x : Nat), 8 - x < k101 → x ≤ 8 → ∀ (Hp : Heap) (locs : List Loc) (ls : Array Slot), va_P D vwCl [(o, .inr (7, mdF th W H mt qu zz nw ol ne se ke nc ns is ik dc sc 2 md wh fa re ve ps 0 tl di lv bf bo bd co bt ma)), (nw, .inl (cs 0, 4608, .inl (mpB gw W md 1 (mlF W md 1 mf (fun x9 y9 => (mft (lokP gn 0) (wdt 0 W) (wdt 0 H) (nI x9) (nI y9) (mus wh (V 0) 0) (mus wh (V 1) 0)))) (y * 8 + x)))), (ol, .inl (cs 0, 4608, .inl go)), (ne, .inl (cs 0, 4608, .inl gn)), (ve, .inl (cs 0, 4, .inl V)), (ma, .inl (cs 0, 64, .inl mf))] Hp → va_D A [(o, .inr (7, mdF th W H mt qu zz nw ol ne se ke nc ns is ik dc sc 2 md wh fa re ve ps 0 tl di lv bf bo bd co bt ma)), (nw, .inl (cs 0, 4608, .inl (mpB gw W md 1 (mlF W md 1 mf (fun x9 y9 => (mft (lokP gn 0) (wdt 0 W) (wdt 0 H) (nI x9) (nI y9) (mus wh (V 0) 0) (mus wh (V 1) 0)))) (y * 8 + x)))), (ol, .inl (cs 0, 4608, .inl go)), (ne, .inl (cs 0, 4608, .inl gn)), (ve, .inl (cs 0, 4, .inl V)), (ma, .inl (cs 0, 64, .inl mf))] → va_S A s.heap Hp locs → lv_has ls 10 [(0, .ref o), (2, .int 1), (3, .int 0), (4, .int 0), (5, .int (nI (bL W md 1))), (6, .int (nI (bT W md 1))), (7, .int (nI y)), (8, .int (nI x))] → xW p l e ({ frames := 4, cells := 0, slots := 0, locals := 104 } : Room) s m ([.ref o, .int 1, .int 1, .int 0] : List Value).toArray below meth c Hp locs 0 0 (MQ below (xE D A none [(o, .inr (7, mdF th W H mt qu zz nw ol ne se ke nc ns is ik dc sc 2 md wh fa re ve ps 0 tl di lv bf bo bd co bt ma)), (nw, .inl (cs 0, 4608, .inl (mpB gw W md 1 (mlF W md 1 mf (fun x9 y9 => (mft (lokP gn 0) (wdt 0 W) (wdt 0 H) (nI x9) (nI y9) (mus wh (V 0) 0) (mus wh (V 1) 0)))) (64)))), (ol, .inl (cs 0, 4608, .inl go)), (ne, .inl (cs 0, 4608, .inl gn)), (ve, .inl (cs 0, 4, .inl V)), (ma, .inl (cs 0, 64, .inl mf))]) ([.ref o, .int 1, .int 1, .int 0] : List Value).toArray s 0 0 A) (F0 m 101 ls []) := by
          intro k101
          induction k101 with
          | zero => intro x h9; omega
          | succ k101 ih_101 =>
            intro x hk101 hx9 Hp locs ls hP hD hS hl
            refine lv_iload hx hb dX7_putBlock_101 (lv_at hl 7 rfl) ?_
            refine lv_bipush (v := 8) hx hb dX7_putBlock_103 (by decide) ?_
            refine lv_icmp_ge (tgt := 193) hx hb dX7_putBlock_105 (by decide) (fun c_105 => ?_) (fun c_105 => ?_)
            · have ex : x = 8 := by have := nIle (a := 8) (b := x) rfl rfl (by decide) (by omega) c_105; omega
              have hP := xeqP hP (congrArg (fun z9 => ([(o, .inr (7, mdF th W H mt qu zz nw ol ne se ke nc ns is ik dc sc 2 md wh fa re ve ps 0 tl di lv bf bo bd co bt ma)), (nw, .inl (cs 0, 4608, .inl z9)), (ol, .inl (cs 0, 4608, .inl go)), (ne, .inl (cs 0, 4608, .inl gn)), (ve, .inl (cs 0, 4, .inl V)), (ma, .inl (cs 0, 64, .inl mf))] : va_W)) (congrArg (mpB gw W md 1 (mlF W md 1 mf (fun x9 y9 => (mft (lokP gn 0) (wdt 0 W) (wdt 0 H) (nI x9) (nI y9) (mus wh (V 0) 0) (mus wh (V 1) 0))))) (show y * 8 + x = (y + 1) * 8 by omega)))
              have hD := xeqD hD (congrArg (fun z9 => ([(o, .inr (7, mdF th W H mt qu zz nw ol ne se ke nc ns is ik dc sc 2 md wh fa re ve ps 0 tl di lv bf bo bd co bt ma)), (nw, .inl (cs 0, 4608, .inl z9)), (ol, .inl (cs 0, 4608, .inl go)), (ne, .inl (cs 0, 4608, .inl gn)), (ve, .inl (cs 0, 4, .inl V)), (ma, .inl (cs 0, 64, .inl mf))] : va_W)) (congrArg (mpB gw W md 1 (mlF W md 1 mf (fun x9 y9 => (mft (lokP gn 0) (wdt 0 W) (wdt 0 H) (nI x9) (nI y9) (mus wh (V 0) 0) (mus wh (V 1) 0))))) (show y * 8 + x = (y + 1) * 8 by omega)))
              refine lv_iinc (v := (nI (y + 1))) (lv' := [(7, .int (nI (y + 1))), (0, .ref o), (2, .int 1), (3, .int 0), (4, .int 0), (5, .int (nI (bL W md 1))), (6, .int (nI (bT W md 1))), (8, .int (nI x))]) hx hb dX7_putBlock_193 hl (k := 6) rfl (nI_1 y) (by decide) rfl (fun ls hl => ?_)
              refine lv_goto (tgt := 91) hx hb dX7_putBlock_196 (by decide) ?_
              exact ih_91 (y + 1) (by omega) (by omega) _ _ _ hP hD hS (lv_sub hl [1, 2, 3, 4, 5, 6, 0] rfl)
            · have hxl : x < 8 := nInle (a := 8) (b := x) rfl rfl (by decide) (by omega) c_105
              refine lv_aload_n hx hb dX7_putBlock_108 rfl (lv_at hl 0 rfl) ?_
              refine xget (C := RX7) (T := TX7) (N := 34) hF hX hP (by decide +kernel) 0 33 rfl rfl (by decide) (by decide +kernel) rfl dX7_putBlock_109 ?_
              refine lv_bipush (v := 8) hx hb dX7_putBlock_112 (by decide) ?_
              refine lv_iload hx hb dX7_putBlock_114 (lv_at hl 6 rfl) ?_
              refine lv_imul hx hb dX7_putBlock_116 ?_
              refine lv_iload hx hb dX7_putBlock_117 (lv_at hl 7 rfl) ?_
              refine lv_iadd hx hb dX7_putBlock_119 ?_
              refine xrwi (z := nI (y * 8 + x)) (k8 y x) ?_
              refine xald (k := y * 8 + x) hF hX hP 5 rfl (nI_clamp (by omega)) (vp_in_nI (by omega) (by decide)) dX7_putBlock_120 ?_
              refine lv_istore (lv' := [(9, .int (mf (y * 8 + x))), (0, .ref o), (2, .int 1), (3, .int 0), (4, .int 0), (5, .int (nI (bL W md 1))), (6, .int (nI (bT W md 1))), (7, .int (nI y)), (8, .int (nI x))]) hx hb dX7_putBlock_121 hl (by decide) rfl (fun ls hl => ?_)
              refine lv_aload_n hx hb dX7_putBlock_123 rfl (lv_at hl 1 rfl) ?_
              refine xget (C := RX7) (T := TX7) (N := 34) hF hX hP (by decide +kernel) 0 24 rfl rfl (by decide) (by decide +kernel) rfl dX7_putBlock_124 ?_
              refine lv_if_eq (tgt := 135) hx hb dX7_putBlock_127 (by decide) (fun _ => ?_) (fun c_127 => absurd (by decide) c_127)
              refine lv_iload hx hb dX7_putBlock_135 (lv_at hl 0 rfl) ?_
              refine lv_aload_n hx hb dX7_putBlock_137 rfl (lv_at hl 1 rfl) ?_
              refine lv_iload_n hx hb dX7_putBlock_138 rfl (lv_at hl 2 rfl) ?_
              refine lv_iload_n hx hb dX7_putBlock_139 rfl (lv_at hl 3 rfl) ?_
              refine lv_iload hx hb dX7_putBlock_140 (lv_at hl 4 rfl) ?_
              refine lv_iload hx hb dX7_putBlock_142 (lv_at hl 5 rfl) ?_
              refine lv_iload hx hb dX7_putBlock_144 (lv_at hl 8 rfl) ?_
              refine lv_iadd hx hb dX7_putBlock_146 ?_
              refine xrwi (z := nI ((bL W md 1) + x)) (nI_add _ _) ?_
              refine lv_iload hx hb dX7_putBlock_147 (lv_at hl 6 rfl) ?_
              refine lv_iload hx hb dX7_putBlock_149 (lv_at hl 7 rfl) ?_
              refine lv_iadd hx hb dX7_putBlock_151 ?_
              refine xrwi (z := nI ((bT W md 1) + y)) (nI_add _ _) ?_
              refine xV (rest := [.int (mf (y * 8 + x))]) (As := [.int 1, .int 0, .int 0, .int (nI ((bL W md 1) + x)), .int (nI ((bT W md 1) + y))]) (ws1 := [(o, .inr (7, mdF th W H mt qu zz nw ol ne se ke nc ns is ik dc sc 2 md wh fa re ve ps 0 tl di lv bf bo bd co bt ma)), (nw, .inl (cs 0, 4608, .inl (mpB gw W md 1 (mlF W md 1 mf (fun x9 y9 => (mft (lokP gn 0) (wdt 0 W) (wdt 0 H) (nI x9) (nI y9) (mus wh (V 0) 0) (mus wh (V 1) 0)))) (y * 8 + x)))), (ol, .inl (cs 0, 4608, .inl go)), (ne, .inl (cs 0, 4608, .inl gn)), (ve, .inl (cs 0, 4, .inl V)), (ma, .inl (cs 0, 64, .inl mf))]) (st1 := [.int (mft (lokP gn 0) (wdt 0 W) (wdt 0 H) (nI ((bL W md 1) + x)) (nI ((bT W md 1) + y)) (mus wh (V 0) 0) (mus wh (V 1) 0)), .int (mf (y * 8 + x))]) hF (c_X7_fetchedA l D cs tt o mt qu zz nw ol ne se ke re ve ps di lv bd co bt ma W H md th nc ns is ik dc sc wh fa 0 tl bf bo 0 (nI ((bL W md 1) + x)) (nI ((bT W md 1) + y)) go gn V (by decide) hw hw4 hh hh3) gX7_putBlock_X7_fetched rfl (n := 5) (by decide +kernel) rfl ⟨⟨rfl, rfl⟩, Nat.le_of_ble_eq_true rfl, Nat.le_of_ble_eq_true rfl⟩ ⟨Nat.le_of_ble_eq_true rfl, Nat.le_of_ble_eq_true rfl⟩ hX hP hD hS [0, 2, 3, 4] (by decide) rfl [o, ol, ne, ve] rfl rfl (q0 := 0) (ci := 7) rfl rfl rfl hl.1 rfl (Nat.le_of_ble_eq_true rfl) dX7_putBlock_152 rfl rfl (fun Hp locs hP hD hS => ?_)
              refine lv_iadd hx hb dX7_putBlock_155 ?_
              refine lv_istore (lv' := [(9, .int ((mf (y * 8 + x)) + (mft (lokP gn 0) (wdt 0 W) (wdt 0 H) (nI ((bL W md 1) + x)) (nI ((bT W md 1) + y)) (mus wh (V 0) 0) (mus wh (V 1) 0)))), (0, .ref o), (2, .int 1), (3, .int 0), (4, .int 0), (5, .int (nI (bL W md 1))), (6, .int (nI (bT W md 1))), (7, .int (nI y)), (8, .int (nI x))]) hx hb dX7_putBlock_156 hl (by decide) rfl (fun ls hl => ?_)
              refine lv_aload_n hx hb dX7_putBlock_158 rfl (lv_at hl 1 rfl) ?_
              refine xget (C := RX7) (T := TX7) (N := 34) hF hX hP (by decide +kernel) 0 6 rfl rfl (by decide) (by decide +kernel) rfl dX7_putBlock_159 ?_
              refine lv_iload hx hb dX7_putBlock_162 (lv_at hl 4 rfl) ?_
              refine lv_iload hx hb dX7_putBlock_164 (lv_at hl 5 rfl) ?_
              refine lv_iload hx hb dX7_putBlock_166 (lv_at hl 8 rfl) ?_
              refine lv_iadd hx hb dX7_putBlock_168 ?_
              refine xrwi (z := nI ((bL W md 1) + x)) (nI_add _ _) ?_
              refine lv_iload hx hb dX7_putBlock_169 (lv_at hl 6 rfl) ?_
              refine lv_iload hx hb dX7_putBlock_171 (lv_at hl 7 rfl) ?_
              refine lv_iadd hx hb dX7_putBlock_173 ?_
              refine xrwi (z := nI ((bT W md 1) + y)) (nI_add _ _) ?_
              refine xSt (rest := [.ref nw]) (As := [.int 0, .int (nI ((bL W md 1) + x)), .int (nI ((bT W md 1) + y))]) (ws1 := [(o, .inr (7, mdF th W H mt qu zz nw ol ne se ke nc ns is ik dc sc 2 md wh fa re ve ps 0 tl di lv bf bo bd co bt ma)), (nw, .inl (cs 0, 4608, .inl (mpB gw W md 1 (mlF W md 1 mf (fun x9 y9 => (mft (lokP gn 0) (wdt 0 W) (wdt 0 H) (nI x9) (nI y9) (mus wh (V 0) 0) (mus wh (V 1) 0)))) (y * 8 + x)))), (ol, .inl (cs 0, 4608, .inl go)), (ne, .inl (cs 0, 4608, .inl gn)), (ve, .inl (cs 0, 4, .inl V)), (ma, .inl (cs 0, 64, .inl mf))]) (st1 := [.int (nI (plc 0 ((bL W md 1) + x) ((bT W md 1) + y))), .ref nw]) hF (c_X7_place l D cs tt 0 ((bL W md 1) + x) ((bT W md 1) + y) (by decide)) gX7_putBlock_X7_place rfl (n := 3) (by decide +kernel) rfl ⟨⟨rfl, rfl⟩, Nat.le_of_ble_eq_true rfl, Nat.le_of_ble_eq_true rfl⟩ ⟨Nat.le_of_ble_eq_true rfl, Nat.le_of_ble_eq_true rfl⟩ hX hP hD hS [] (by decide) rfl [] rfl rfl hl.1 rfl (Nat.le_of_ble_eq_true rfl) dX7_putBlock_174 rfl rfl (fun Hp locs hP hD hS => ?_)
              refine xrwi (z := nI (0 + (((bT W md 1) + y) * 64 + ((bL W md 1) + x)))) (by unfold plc; rw [if_pos rfl]; exact congrArg nI (by omega)) ?_
              refine lv_iload hx hb dX7_putBlock_177 (lv_at hl 0 rfl) ?_
              refine lv_iconst (v := 0) hx hb dX7_putBlock_179 (by decide) ?_
              refine lv_sipush (v := 255) hx hb dX7_putBlock_180 (by decide) ?_
              refine xSt (rest := [.int (nI (0 + (((bT W md 1) + y) * 64 + ((bL W md 1) + x)))), .ref nw]) (As := [.int ((mf (y * 8 + x)) + (mft (lokP gn 0) (wdt 0 W) (wdt 0 H) (nI ((bL W md 1) + x)) (nI ((bT W md 1) + y)) (mus wh (V 0) 0) (mus wh (V 1) 0))), .int 0, .int 255]) (ws1 := [(o, .inr (7, mdF th W H mt qu zz nw ol ne se ke nc ns is ik dc sc 2 md wh fa re ve ps 0 tl di lv bf bo bd co bt ma)), (nw, .inl (cs 0, 4608, .inl (mpB gw W md 1 (mlF W md 1 mf (fun x9 y9 => (mft (lokP gn 0) (wdt 0 W) (wdt 0 H) (nI x9) (nI y9) (mus wh (V 0) 0) (mus wh (V 1) 0)))) (y * 8 + x)))), (ol, .inl (cs 0, 4608, .inl go)), (ne, .inl (cs 0, 4608, .inl gn)), (ve, .inl (cs 0, 4, .inl V)), (ma, .inl (cs 0, 64, .inl mf))]) (st1 := [.int (bnd ((mf (y * 8 + x)) + (mft (lokP gn 0) (wdt 0 W) (wdt 0 H) (nI ((bL W md 1) + x)) (nI ((bT W md 1) + y)) (mus wh (V 0) 0) (mus wh (V 1) 0))) 0 255), .int (nI (0 + (((bT W md 1) + y) * 64 + ((bL W md 1) + x)))), .ref nw]) hF (c_X7_within l D cs tt ((mf (y * 8 + x)) + (mft (lokP gn 0) (wdt 0 W) (wdt 0 H) (nI ((bL W md 1) + x)) (nI ((bT W md 1) + y)) (mus wh (V 0) 0) (mus wh (V 1) 0))) 0 255) gX7_putBlock_X7_within rfl (n := 3) (by decide +kernel) rfl ⟨⟨rfl, rfl⟩, Nat.le_of_ble_eq_true rfl, Nat.le_of_ble_eq_true rfl⟩ ⟨Nat.le_of_ble_eq_true rfl, Nat.le_of_ble_eq_true rfl⟩ hX hP hD hS [] (by decide) rfl [] rfl rfl hl.1 rfl (Nat.le_of_ble_eq_true rfl) dX7_putBlock_183 rfl rfl (fun Hp locs hP hD hS => ?_)
              refine xast (k := 0 + (((bT W md 1) + y) * 64 + ((bL W md 1) + x))) (ws1 := [(o, .inr (7, mdF th W H mt qu zz nw ol ne se ke nc ns is ik dc sc 2 md wh fa re ve ps 0 tl di lv bf bo bd co bt ma)), (nw, .inl (cs 0, 4608, .inl (mpB gw W md 1 (mlF W md 1 mf (fun x9 y9 => (mft (lokP gn 0) (wdt 0 W) (wdt 0 H) (nI x9) (nI y9) (mus wh (V 0) 0) (mus wh (V 1) 0)))) (y * 8 + (x + 1))))), (ol, .inl (cs 0, 4608, .inl go)), (ne, .inl (cs 0, 4608, .inl gn)), (ve, .inl (cs 0, 4, .inl V)), (ma, .inl (cs 0, 64, .inl mf))]) hF hX hP hD hS 1 rfl (nI_clamp (by omega)) (vp_in_nI (by omega) (by decide)) dX7_putBlock_186 (congrArg (fun z9 => ([(o, .inr (7, mdF th W H mt qu zz nw ol ne se ke nc ns is ik dc sc 2 md wh fa re ve ps 0 tl di lv bf bo bd co bt ma)), (nw, .inl (cs 0, 4608, .inl z9)), (ol, .inl (cs 0, 4608, .inl go)), (ne, .inl (cs 0, 4608, .inl gn)), (ve, .inl (cs 0, 4, .inl V)), (ma, .inl (cs 0, 64, .inl mf))] : va_W)) (pbs gw (mlF W md 1 mf (fun x9 y9 => (mft (lokP gn 0) (wdt 0 W) (wdt 0 H) (nI x9) (nI y9) (mus wh (V 0) 0) (mus wh (V 1) 0)))) (by unfold mlF; rw [show ((bT W md 1) + y - (bT W md 1)) * 8 + ((bL W md 1) + x - (bL W md 1)) = y * 8 + x by omega]) hxl (show (bL W md 1) + 8 ≤ 64 by omega))) (fun Hp locs hP hD hS => ?_)
              refine lv_iinc (v := (nI (x + 1))) (lv' := [(8, .int (nI (x + 1))), (9, .int ((mf (y * 8 + x)) + (mft (lokP gn 0) (wdt 0 W) (wdt 0 H) (nI ((bL W md 1) + x)) (nI ((bT W md 1) + y)) (mus wh (V 0) 0) (mus wh (V 1) 0)))), (0, .ref o), (2, .int 1), (3, .int 0), (4, .int 0), (5, .int (nI (bL W md 1))), (6, .int (nI (bT W md 1))), (7, .int (nI y))]) hx hb dX7_putBlock_187 hl (k := 8) rfl (nI_1 x) (by decide) rfl (fun ls hl => ?_)
              refine lv_goto (tgt := 101) hx hb dX7_putBlock_190 (by decide) ?_
              exact ih_101 (x + 1) (by omega) (by omega) _ _ _ hP hD hS (lv_sub hl [2, 3, 4, 5, 6, 7, 8, 0] rfl)
        exact loop_101 (8 - 0 + 1) 0 (Nat.lt_succ_self _) (by decide) _ _ _ hP hD hS (lv_sub hl [1, 2, 3, 4, 5, 6, 7, 0] rfl)
  have hP := xeqP hP (congrArg (fun z9 => ([(o, .inr (7, mdF th W H mt qu zz nw ol ne se ke nc ns is ik dc sc 2 md wh fa re ve ps 0 tl di lv bf bo bd co bt ma)), (nw, .inl (cs 0, 4608, .inl z9)), (ol, .inl (cs 0, 4608, .inl go)), (ne, .inl (cs 0, 4608, .inl gn)), (ve, .inl (cs 0, 4, .inl V)), (ma, .inl (cs 0, 64, .inl mf))] : va_W)) ((show gw = mpB gw W md 1 (mlF W md 1 mf (fun x9 y9 => (mft (lokP gn 0) (wdt 0 W) (wdt 0 H) (nI x9) (nI y9) (mus wh (V 0) 0) (mus wh (V 1) 0)))) (0 * 8) from (blkTo_0 gw _ _ _ _ 8 (mlF W md 1 mf (fun x9 y9 => (mft (lokP gn 0) (wdt 0 W) (wdt 0 H) (nI x9) (nI y9) (mus wh (V 0) 0) (mus wh (V 1) 0))))).symm)))
  have hD := xeqD hD (congrArg (fun z9 => ([(o, .inr (7, mdF th W H mt qu zz nw ol ne se ke nc ns is ik dc sc 2 md wh fa re ve ps 0 tl di lv bf bo bd co bt ma)), (nw, .inl (cs 0, 4608, .inl z9)), (ol, .inl (cs 0, 4608, .inl go)), (ne, .inl (cs 0, 4608, .inl gn)), (ve, .inl (cs 0, 4, .inl V)), (ma, .inl (cs 0, 64, .inl mf))] : va_W)) ((show gw = mpB gw W md 1 (mlF W md 1 mf (fun x9 y9 => (mft (lokP gn 0) (wdt 0 W) (wdt 0 H) (nI x9) (nI y9) (mus wh (V 0) 0) (mus wh (V 1) 0)))) (0 * 8) from (blkTo_0 gw _ _ _ _ 8 (mlF W md 1 mf (fun x9 y9 => (mft (lokP gn 0) (wdt 0 W) (wdt 0 H) (nI x9) (nI y9) (mus wh (V 0) 0) (mus wh (V 1) 0))))).symm)))
  exact loop_91 (8 - 0 + 1) 0 (Nat.lt_succ_self _) (by decide) _ _ _ hP hD hS (lv_sub hl [4, 6, 7, 3, 2, 1, 0] rfl)

set_option maxHeartbeats 4000000 in
set_option maxRecDepth 100000 in
theorem c_X7_putBlock1B (l : Launch) (D : va_G) (cs : Nat → ClassId) (tt : Nat → Nat) (o mt qu zz nw ol ne se ke re ve ps di lv bd co bt ma W H md : Nat) (th nc ns is ik dc sc wh fa tl bf bo : Int32) (gw mf go gn V : Nat → Int32) (hw : 1 ≤ W) (hw4 : W ≤ 4) (hh : 1 ≤ H) (hh3 : H ≤ 3) (hmd : md < W * H) : xM l yX7_putBlock wsX7_putBlock ({ frames := 4, cells := 0, slots := 0, locals := 104 } : Room) D cs tt [.ref o, .int 1, .int 1, .int 0] [(o, .inr (7, mdF th W H mt qu zz nw ol ne se ke nc ns is ik dc sc 3 md wh fa re ve ps 0 tl di lv bf bo bd co bt ma)), (nw, .inl (cs 0, 4608, .inl gw)), (ol, .inl (cs 0, 4608, .inl go)), (ne, .inl (cs 0, 4608, .inl gn)), (ve, .inl (cs 0, 4, .inl V)), (ma, .inl (cs 0, 64, .inl mf))] none [(o, .inr (7, mdF th W H mt qu zz nw ol ne se ke nc ns is ik dc sc 3 md wh fa re ve ps 0 tl di lv bf bo bd co bt ma)), (nw, .inl (cs 0, 4608, .inl (mpB gw W md 1 (mlF W md 1 mf (fun x9 y9 => (mft (lokP go 0) (wdt 0 W) (wdt 0 H) (nI x9) (nI y9) (mus wh (V 0) 0) (mus wh (V 1) 0)))) (64)))), (ol, .inl (cs 0, 4608, .inl go)), (ne, .inl (cs 0, 4608, .inl gn)), (ve, .inl (cs 0, 4, .inl V)), (ma, .inl (cs 0, 64, .inl mf))] := by
  refine xM.of RX7 rfl (by decide) rfl (Nat.le_of_ble_eq_true rfl) ?_
  intro p e s m below meth c A ls hF hr hlk hX hP hD hS hl
  have hx := hF.1
  have hb := hF.2.1
  have hl : lv_has ls 10 [(0, .ref o), (1, .int 1), (2, .int 1), (3, .int 0)] := hl
  have hm4 : md < 4096 := Nat.lt_of_lt_of_le hmd (Nat.le_trans (Nat.mul_le_mul hw4 hh3) (by decide))
  have hb9 := b_in hw hmd 1 (by decide)
  have hbl : (bL W md 1) + 8 ≤ 16 * W := hb9.1
  have hbt : (bT W md 1) + 8 ≤ 16 * H := hb9.2
  have hsL : bL W md 1 = bL W md 1 := rfl
  refine lv_iload_n hx hb dX7_putBlock_0 rfl (lv_at hl 1 rfl) ?_
  refine xSt (rest := []) (As := [.int 1]) (ws1 := [(o, .inr (7, mdF th W H mt qu zz nw ol ne se ke nc ns is ik dc sc 3 md wh fa re ve ps 0 tl di lv bf bo bd co bt ma)), (nw, .inl (cs 0, 4608, .inl gw)), (ol, .inl (cs 0, 4608, .inl go)), (ne, .inl (cs 0, 4608, .inl gn)), (ve, .inl (cs 0, 4, .inl V)), (ma, .inl (cs 0, 64, .inl mf))]) (st1 := [.int (pln 1)]) hF (c_X7_planeOf l D cs tt 1) gX7_putBlock_X7_planeOf rfl (n := 1) (by decide +kernel) rfl ⟨⟨rfl, rfl⟩, Nat.le_of_ble_eq_true rfl, Nat.le_of_ble_eq_true rfl⟩ ⟨Nat.le_of_ble_eq_true rfl, Nat.le_of_ble_eq_true rfl⟩ hX hP hD hS [] (by decide) rfl [] rfl rfl hl.1 rfl (Nat.le_of_ble_eq_true rfl) dX7_putBlock_1 rfl rfl (fun Hp locs hP hD hS => ?_)
  refine xrwi (z := 0) (by decide) ?_
  refine lv_istore (lv' := [(4, .int 0), (0, .ref o), (1, .int 1), (2, .int 1), (3, .int 0)]) hx hb dX7_putBlock_4 hl (by decide) rfl (fun ls hl => ?_)
  refine lv_iload hx hb dX7_putBlock_6 (lv_at hl 0 rfl) ?_
  refine lv_if_ne (tgt := 33) hx hb dX7_putBlock_8 (by decide) (fun c_8 => absurd (by decide) c_8) (fun _ => ?_)
  refine lv_bipush (v := 16) hx hb dX7_putBlock_11 (by decide) ?_
  refine lv_aload_n hx hb dX7_putBlock_13 rfl (lv_at hl 1 rfl) ?_
  refine xget (C := RX7) (T := TX7) (N := 34) hF hX hP (by decide +kernel) 0 18 rfl rfl (by decide) (by decide +kernel) rfl dX7_putBlock_14 ?_
  refine lv_aload_n hx hb dX7_putBlock_17 rfl (lv_at hl 1 rfl) ?_
  refine xget (C := RX7) (T := TX7) (N := 34) hF hX hP (by decide +kernel) 0 1 rfl rfl (by decide) (by decide +kernel) rfl dX7_putBlock_18 ?_
  refine lv_irem hx hb dX7_putBlock_21 (nI_ne0 (by omega) (by omega)) ?_
  refine xrwi (z := nI (md % W)) (pk_rem (by omega) (by omega) (by omega)) ?_
  refine lv_imul hx hb dX7_putBlock_22 ?_
  refine lv_bipush (v := 8) hx hb dX7_putBlock_23 (by decide) ?_
  refine lv_iload_n hx hb dX7_putBlock_25 rfl (lv_at hl 2 rfl) ?_
  refine lv_iconst (v := 2) hx hb dX7_putBlock_26 (by decide) ?_
  refine lv_irem hx hb dX7_putBlock_27 (by decide) ?_
  refine xrwi (z := 1) (by decide) ?_
  refine lv_imul hx hb dX7_putBlock_28 ?_
  refine xrwi (z := 8) (by decide) ?_
  refine lv_iadd hx hb dX7_putBlock_29 ?_
  refine lv_goto (tgt := 45) hx hb dX7_putBlock_30 (by decide) ?_
  refine xrwi (z := nI (bL W md 1)) (by rw [show (16 : Int32) * nI (md % W) = nI (16 * (md % W)) from pk_mul 16 _, show nI (16 * (md % W)) + 8 = nI (16 * (md % W) + 8) from nI_add _ 8]; exact congrArg nI (show 16 * (md % W) + 8 = bL W md 1 by show _ = md % W * 16 + 8; omega)) ?_
  refine lv_istore (lv' := [(5, .int (nI (bL W md 1))), (4, .int 0), (0, .ref o), (1, .int 1), (2, .int 1), (3, .int 0)]) hx hb dX7_putBlock_45 hl (by decide) rfl (fun ls hl => ?_)
  refine lv_iload hx hb dX7_putBlock_47 (lv_at hl 1 rfl) ?_
  refine lv_if_ne (tgt := 74) hx hb dX7_putBlock_49 (by decide) (fun c_49 => absurd (by decide) c_49) (fun _ => ?_)
  refine lv_bipush (v := 16) hx hb dX7_putBlock_52 (by decide) ?_
  refine lv_aload_n hx hb dX7_putBlock_54 rfl (lv_at hl 2 rfl) ?_
  refine xget (C := RX7) (T := TX7) (N := 34) hF hX hP (by decide +kernel) 0 18 rfl rfl (by decide) (by decide +kernel) rfl dX7_putBlock_55 ?_
  refine lv_aload_n hx hb dX7_putBlock_58 rfl (lv_at hl 2 rfl) ?_
  refine xget (C := RX7) (T := TX7) (N := 34) hF hX hP (by decide +kernel) 0 1 rfl rfl (by decide) (by decide +kernel) rfl dX7_putBlock_59 ?_
  refine lv_idiv hx hb dX7_putBlock_62 (nI_ne0 (by omega) (by omega)) ?_
  refine xrwi (z := nI (md / W)) (pk_div (by omega) (by omega) (by omega)) ?_
  refine lv_imul hx hb dX7_putBlock_63 ?_
  refine lv_bipush (v := 8) hx hb dX7_putBlock_64 (by decide) ?_
  refine lv_iload_n hx hb dX7_putBlock_66 rfl (lv_at hl 3 rfl) ?_
  refine lv_iconst (v := 2) hx hb dX7_putBlock_67 (by decide) ?_
  refine lv_idiv hx hb dX7_putBlock_68 (by decide) ?_
  refine xrwi (z := 0) (by decide) ?_
  refine lv_imul hx hb dX7_putBlock_69 ?_
  refine xrwi (z := 0) (by decide) ?_
  refine lv_iadd hx hb dX7_putBlock_70 ?_
  refine lv_goto (tgt := 86) hx hb dX7_putBlock_71 (by decide) ?_
  refine xrwi (z := nI (bT W md 1)) (by rw [show (16 : Int32) * nI (md / W) = nI (16 * (md / W)) from pk_mul 16 _, show nI (16 * (md / W)) + 0 = nI (16 * (md / W) + 0) from nI_add _ 0]; exact congrArg nI (show 16 * (md / W) + 0 = bT W md 1 by show _ = md / W * 16 + 0; omega)) ?_
  refine lv_istore (lv' := [(6, .int (nI (bT W md 1))), (5, .int (nI (bL W md 1))), (4, .int 0), (0, .ref o), (1, .int 1), (2, .int 1), (3, .int 0)]) hx hb dX7_putBlock_86 hl (by decide) rfl (fun ls hl => ?_)
  refine lv_iconst (v := 0) hx hb dX7_putBlock_88 (by decide) ?_
  refine lv_istore (lv' := [(7, .int 0), (6, .int (nI (bT W md 1))), (5, .int (nI (bL W md 1))), (4, .int 0), (0, .ref o), (1, .int 1), (2, .int 1), (3, .int 0)]) hx hb dX7_putBlock_89 hl (by decide) rfl (fun ls hl => ?_)
  have loop_91 : ∀ (k91 : Nat) (y : Nat), 8 - y < k91 → y ≤ 8 → ∀ (Hp : Heap) (locs : List Loc) (ls : Array Slot), va_P D vwCl [(o, .inr (7, mdF th W H mt qu zz nw ol ne se ke nc ns is ik dc sc 3 md wh fa re ve ps 0 tl di lv bf bo bd co bt ma)), (nw, .inl (cs 0, 4608, .inl (mpB gw W md 1 (mlF W md 1 mf (fun x9 y9 => (mft (lokP go 0) (wdt 0 W) (wdt 0 H) (nI x9) (nI y9) (mus wh (V 0) 0) (mus wh (V 1) 0)))) (y * 8)))), (ol, .inl (cs 0, 4608, .inl go)), (ne, .inl (cs 0, 4608, .inl gn)), (ve, .inl (cs 0, 4, .inl V)), (ma, .inl (cs 0, 64, .inl mf))] Hp → va_D A [(o, .inr (7, mdF th W H mt qu zz nw ol ne se ke nc ns is ik dc sc 3 md wh fa re ve ps 0 tl di lv bf bo bd co bt ma)), (nw, .inl (cs 0, 4608, .inl (mpB gw W md 1 (mlF W md 1 mf (fun x9 y9 => (mft (lokP go 0) (wdt 0 W) (wdt 0 H) (nI x9) (nI y9) (mus wh (V 0) 0) (mus wh (V 1) 0)))) (y * 8)))), (ol, .inl (cs 0, 4608, .inl go)), (ne, .inl (cs 0, 4608, .inl gn)), (ve, .inl (cs 0, 4, .inl V)), (ma, .inl (cs 0, 64, .inl mf))] → va_S A s.heap Hp locs → lv_has ls 10 [(0, .ref o), (2, .int 1), (3, .int 0), (4, .int 0), (5, .int (nI (bL W md 1))), (6, .int (nI (bT W md 1))), (7, .int (nI y))] → xW p l e ({ frames := 4, cells := 0, slots := 0, locals := 104 } : Room) s m ([.ref o, .int 1, .int 1, .int 0] : List Value).toArray below meth c Hp locs 0 0 (MQ below (xE D A none [(o, .inr (7, mdF th W H mt qu zz nw ol ne se ke nc ns is ik dc sc 3 md wh fa re ve ps 0 tl di lv bf bo bd co bt ma)), (nw, .inl (cs 0, 4608, .inl (mpB gw W md 1 (mlF W md 1 mf (fun x9 y9 => (mft (lokP go 0) (wdt 0 W) (wdt 0 H) (nI x9) (nI y9) (mus wh (V 0) 0) (mus wh (V 1) 0)))) (64)))), (ol, .inl (cs 0, 4608, .inl go)), (ne, .inl (cs 0, 4608, .inl gn)), (ve, .inl (cs 0, 4, .inl V)), (ma, .inl (cs 0, 64, .inl mf))]) ([.ref o, .int 1, .int 1, .int 0] : List Value).toArray s 0 0 A) (F0 m 91 ls []) := by
    intro k91
    induction k91 with
    | zero => intro y h9; omega
    | succ k91 ih_91 =>
      intro y hk91 hy9 Hp locs ls hP hD hS hl
      refine lv_iload hx hb dX7_putBlock_91 (lv_at hl 6 rfl) ?_
      refine lv_bipush (v := 8) hx hb dX7_putBlock_93 (by decide) ?_
      refine lv_icmp_ge (tgt := 199) hx hb dX7_putBlock_95 (by decide) (fun c_95 => ?_) (fun c_95 => ?_)
      · have ey : y = 8 := by have := nIle (a := 8) (b := y) rfl rfl (by decide) (by omega) c_95; omega
        have hP := xeqP hP (congrArg (fun z9 => ([(o, .inr (7, mdF th W H mt qu zz nw ol ne se ke nc ns is ik dc sc 3 md wh fa re ve ps 0 tl di lv bf bo bd co bt ma)), (nw, .inl (cs 0, 4608, .inl z9)), (ol, .inl (cs 0, 4608, .inl go)), (ne, .inl (cs 0, 4608, .inl gn)), (ve, .inl (cs 0, 4, .inl V)), (ma, .inl (cs 0, 64, .inl mf))] : va_W)) (congrArg (mpB gw W md 1 (mlF W md 1 mf (fun x9 y9 => (mft (lokP go 0) (wdt 0 W) (wdt 0 H) (nI x9) (nI y9) (mus wh (V 0) 0) (mus wh (V 1) 0))))) (show y * 8 = 64 by omega)))
        have hD := xeqD hD (congrArg (fun z9 => ([(o, .inr (7, mdF th W H mt qu zz nw ol ne se ke nc ns is ik dc sc 3 md wh fa re ve ps 0 tl di lv bf bo bd co bt ma)), (nw, .inl (cs 0, 4608, .inl z9)), (ol, .inl (cs 0, 4608, .inl go)), (ne, .inl (cs 0, 4608, .inl gn)), (ve, .inl (cs 0, 4, .inl V)), (ma, .inl (cs 0, 64, .inl mf))] : va_W)) (congrArg (mpB gw W md 1 (mlF W md 1 mf (fun x9 y9 => (mft (lokP go 0) (wdt 0 W) (wdt 0 H) (nI x9) (nI y9) (mus wh (V 0) 0) (mus wh (V 1) 0))))) (show y * 8 = 64 by omega)))
        exact xrv hF hr hlk hP hD hS dX7_putBlock_199
      · have hyl : y < 8 := nInle (a := 8) (b := y) rfl rfl (by decide) (by omega) c_95
        refine lv_iconst (v := 0) hx hb dX7_putBlock_98 (by decide) ?_
        refine lv_istore (lv' := [(8, .int 0), (0, .ref o), (2, .int 1), (3, .int 0), (4, .int 0), (5, .int (nI (bL W md 1))), (6, .int (nI (bT W md 1))), (7, .int (nI y))]) hx hb dX7_putBlock_99 hl (by decide) rfl (fun ls hl => ?_)
        have loop_101 : ∀ (k101 : Nat) (x : Nat), 8 - x < k101 → x ≤ 8 → ∀ (Hp : Heap) (locs : List Loc) (ls : Array Slot), va_P D vwCl [(o, .inr (7, mdF th W H mt qu zz nw ol ne se ke nc ns is ik dc sc 3 md wh fa re ve ps 0 tl di lv bf bo bd co bt ma)), (nw, .inl (cs 0, 4608, .inl (mpB gw W md 1 (mlF W md 1 mf (fun x9 y9 => (mft (lokP go 0) (wdt 0 W) (wdt 0 H) (nI x9) (nI y9) (mus wh (V 0) 0) (mus wh (V 1) 0)))) (y * 8 + x)))), (ol, .inl (cs 0, 4608, .inl go)), (ne, .inl (cs 0, 4608, .inl gn)), (ve, .inl (cs 0, 4, .inl V)), (ma, .inl (cs 0, 64, .inl mf))] Hp → va_D A [(o, .inr (7, mdF th W H mt qu zz nw ol ne se ke nc ns is ik dc sc 3 md wh fa re ve ps 0 tl di lv bf bo bd co bt ma)), (nw, .inl (cs 0, 4608, .inl (mpB gw W md 1 (mlF W md 1 mf (fun x9 y9 => (mft (lokP go 0) (wdt 0 W) (wdt 0 H) (nI x9) (nI y9) (mus wh (V 0) 0) (mus wh (V 1) 0)))) (y * 8 + x)))), (ol, .inl (cs 0, 4608, .inl go)), (ne, .inl (cs 0, 4608, .inl gn)), (ve, .inl (cs 0, 4, .inl V)), (ma, .inl (cs 0, 64, .inl mf))] → va_S A s.heap Hp locs → lv_has ls 10 [(0, .ref o), (2, .int 1), (3, .int 0), (4, .int 0), (5, .int (nI (bL W md 1))), (6, .int (nI (bT W md 1))), (7, .int (nI y)), (8, .int (nI x))] → xW p l e ({ frames := 4, cells := 0, slots := 0, locals := 104 } : Room) s m ([.ref o, .int 1, .int 1, .int 0] : List Value).toArray below meth c Hp locs 0 0 (MQ below (xE D A none [(o, .inr (7, mdF th W H mt qu zz nw ol ne se ke nc ns is ik dc sc 3 md wh fa re ve ps 0 tl di lv bf bo bd co bt ma)), (nw, .inl (cs 0, 4608, .inl (mpB gw W md 1 (mlF W md 1 mf (fun x9 y9 => (mft (lokP go 0) (wdt 0 W) (wdt 0 H) (nI x9) (nI y9) (mus wh (V 0) 0) (mus wh (V 1) 0)))) (64)))), (ol, .inl (cs 0, 4608, .inl go)), (ne, .inl (cs 0, 4608, .inl gn)), (ve, .inl (cs 0, 4, .inl V)), (ma, .inl (cs 0, 64, .inl mf))]) ([.ref o, .int 1, .int 1, .int 0] : List Value).toArray s 0 0 A) (F0 m 101 ls []) := by
          intro k101
          induction k101 with
          | zero => intro x h9; omega
          | succ k101 ih_101 =>
            intro x hk101 hx9 Hp locs ls hP hD hS hl
            refine lv_iload hx hb dX7_putBlock_101 (lv_at hl 7 rfl) ?_
            refine lv_bipush (v := 8) hx hb dX7_putBlock_103 (by decide) ?_
            refine lv_icmp_ge (tgt := 193) hx hb dX7_putBlock_105 (by decide) (fun c_105 => ?_) (fun c_105 => ?_)
            · have ex : x = 8 := by have := nIle (a := 8) (b := x) rfl rfl (by decide) (by omega) c_105; omega
              have hP := xeqP hP (congrArg (fun z9 => ([(o, .inr (7, mdF th W H mt qu zz nw ol ne se ke nc ns is ik dc sc 3 md wh fa re ve ps 0 tl di lv bf bo bd co bt ma)), (nw, .inl (cs 0, 4608, .inl z9)), (ol, .inl (cs 0, 4608, .inl go)), (ne, .inl (cs 0, 4608, .inl gn)), (ve, .inl (cs 0, 4, .inl V)), (ma, .inl (cs 0, 64, .inl mf))] : va_W)) (congrArg (mpB gw W md 1 (mlF W md 1 mf (fun x9 y9 => (mft (lokP go 0) (wdt 0 W) (wdt 0 H) (nI x9) (nI y9) (mus wh (V 0) 0) (mus wh (V 1) 0))))) (show y * 8 + x = (y + 1) * 8 by omega)))
              have hD := xeqD hD (congrArg (fun z9 => ([(o, .inr (7, mdF th W H mt qu zz nw ol ne se ke nc ns is ik dc sc 3 md wh fa re ve ps 0 tl di lv bf bo bd co bt ma)), (nw, .inl (cs 0, 4608, .inl z9)), (ol, .inl (cs 0, 4608, .inl go)), (ne, .inl (cs 0, 4608, .inl gn)), (ve, .inl (cs 0, 4, .inl V)), (ma, .inl (cs 0, 64, .inl mf))] : va_W)) (congrArg (mpB gw W md 1 (mlF W md 1 mf (fun x9 y9 => (mft (lokP go 0) (wdt 0 W) (wdt 0 H) (nI x9) (nI y9) (mus wh (V 0) 0) (mus wh (V 1) 0))))) (show y * 8 + x = (y + 1) * 8 by omega)))
              refine lv_iinc (v := (nI (y + 1))) (lv' := [(7, .int (nI (y + 1))), (0, .ref o), (2, .int 1), (3, .int 0), (4, .int 0), (5, .int (nI (bL W md 1))), (6, .int (nI (bT W md 1))), (8, .int (nI x))]) hx hb dX7_putBlock_193 hl (k := 6) rfl (nI_1 y) (by decide) rfl (fun ls hl => ?_)
              refine lv_goto (tgt := 91) hx hb dX7_putBlock_196 (by decide) ?_
              exact ih_91 (y + 1) (by omega) (by omega) _ _ _ hP hD hS (lv_sub hl [1, 2, 3, 4, 5, 6, 0] rfl)
            · have hxl : x < 8 := nInle (a := 8) (b := x) rfl rfl (by decide) (by omega) c_105
              refine lv_aload_n hx hb dX7_putBlock_108 rfl (lv_at hl 0 rfl) ?_
              refine xget (C := RX7) (T := TX7) (N := 34) hF hX hP (by decide +kernel) 0 33 rfl rfl (by decide) (by decide +kernel) rfl dX7_putBlock_109 ?_
              refine lv_bipush (v := 8) hx hb dX7_putBlock_112 (by decide) ?_
              refine lv_iload hx hb dX7_putBlock_114 (lv_at hl 6 rfl) ?_
              refine lv_imul hx hb dX7_putBlock_116 ?_
              refine lv_iload hx hb dX7_putBlock_117 (lv_at hl 7 rfl) ?_
              refine lv_iadd hx hb dX7_putBlock_119 ?_
              refine xrwi (z := nI (y * 8 + x)) (k8 y x) ?_
              refine xald (k := y * 8 + x) hF hX hP 5 rfl (nI_clamp (by omega)) (vp_in_nI (by omega) (by decide)) dX7_putBlock_120 ?_
              refine lv_istore (lv' := [(9, .int (mf (y * 8 + x))), (0, .ref o), (2, .int 1), (3, .int 0), (4, .int 0), (5, .int (nI (bL W md 1))), (6, .int (nI (bT W md 1))), (7, .int (nI y)), (8, .int (nI x))]) hx hb dX7_putBlock_121 hl (by decide) rfl (fun ls hl => ?_)
              refine lv_aload_n hx hb dX7_putBlock_123 rfl (lv_at hl 1 rfl) ?_
              refine xget (C := RX7) (T := TX7) (N := 34) hF hX hP (by decide +kernel) 0 24 rfl rfl (by decide) (by decide +kernel) rfl dX7_putBlock_124 ?_
              refine lv_if_eq (tgt := 135) hx hb dX7_putBlock_127 (by decide) (fun _ => ?_) (fun c_127 => absurd (by decide) c_127)
              refine lv_iload hx hb dX7_putBlock_135 (lv_at hl 0 rfl) ?_
              refine lv_aload_n hx hb dX7_putBlock_137 rfl (lv_at hl 1 rfl) ?_
              refine lv_iload_n hx hb dX7_putBlock_138 rfl (lv_at hl 2 rfl) ?_
              refine lv_iload_n hx hb dX7_putBlock_139 rfl (lv_at hl 3 rfl) ?_
              refine lv_iload hx hb dX7_putBlock_140 (lv_at hl 4 rfl) ?_
              refine lv_iload hx hb dX7_putBlock_142 (lv_at hl 5 rfl) ?_
              refine lv_iload hx hb dX7_putBlock_144 (lv_at hl 8 rfl) ?_
              refine lv_iadd hx hb dX7_putBlock_146 ?_
              refine xrwi (z := nI ((bL W md 1) + x)) (nI_add _ _) ?_
              refine lv_iload hx hb dX7_putBlock_147 (lv_at hl 6 rfl) ?_
              refine lv_iload hx hb dX7_putBlock_149 (lv_at hl 7 rfl) ?_
              refine lv_iadd hx hb dX7_putBlock_151 ?_
              refine xrwi (z := nI ((bT W md 1) + y)) (nI_add _ _) ?_
              refine xV (rest := [.int (mf (y * 8 + x))]) (As := [.int 1, .int 0, .int 0, .int (nI ((bL W md 1) + x)), .int (nI ((bT W md 1) + y))]) (ws1 := [(o, .inr (7, mdF th W H mt qu zz nw ol ne se ke nc ns is ik dc sc 3 md wh fa re ve ps 0 tl di lv bf bo bd co bt ma)), (nw, .inl (cs 0, 4608, .inl (mpB gw W md 1 (mlF W md 1 mf (fun x9 y9 => (mft (lokP go 0) (wdt 0 W) (wdt 0 H) (nI x9) (nI y9) (mus wh (V 0) 0) (mus wh (V 1) 0)))) (y * 8 + x)))), (ol, .inl (cs 0, 4608, .inl go)), (ne, .inl (cs 0, 4608, .inl gn)), (ve, .inl (cs 0, 4, .inl V)), (ma, .inl (cs 0, 64, .inl mf))]) (st1 := [.int (mft (lokP go 0) (wdt 0 W) (wdt 0 H) (nI ((bL W md 1) + x)) (nI ((bT W md 1) + y)) (mus wh (V 0) 0) (mus wh (V 1) 0)), .int (mf (y * 8 + x))]) hF (c_X7_fetchedB l D cs tt o mt qu zz nw ol ne se ke re ve ps di lv bd co bt ma W H md th nc ns is ik dc sc wh fa 0 tl bf bo 0 (nI ((bL W md 1) + x)) (nI ((bT W md 1) + y)) go gn V (by decide) hw hw4 hh hh3) gX7_putBlock_X7_fetched rfl (n := 5) (by decide +kernel) rfl ⟨⟨rfl, rfl⟩, Nat.le_of_ble_eq_true rfl, Nat.le_of_ble_eq_true rfl⟩ ⟨Nat.le_of_ble_eq_true rfl, Nat.le_of_ble_eq_true rfl⟩ hX hP hD hS [0, 2, 3, 4] (by decide) rfl [o, ol, ne, ve] rfl rfl (q0 := 0) (ci := 7) rfl rfl rfl hl.1 rfl (Nat.le_of_ble_eq_true rfl) dX7_putBlock_152 rfl rfl (fun Hp locs hP hD hS => ?_)
              refine lv_iadd hx hb dX7_putBlock_155 ?_
              refine lv_istore (lv' := [(9, .int ((mf (y * 8 + x)) + (mft (lokP go 0) (wdt 0 W) (wdt 0 H) (nI ((bL W md 1) + x)) (nI ((bT W md 1) + y)) (mus wh (V 0) 0) (mus wh (V 1) 0)))), (0, .ref o), (2, .int 1), (3, .int 0), (4, .int 0), (5, .int (nI (bL W md 1))), (6, .int (nI (bT W md 1))), (7, .int (nI y)), (8, .int (nI x))]) hx hb dX7_putBlock_156 hl (by decide) rfl (fun ls hl => ?_)
              refine lv_aload_n hx hb dX7_putBlock_158 rfl (lv_at hl 1 rfl) ?_
              refine xget (C := RX7) (T := TX7) (N := 34) hF hX hP (by decide +kernel) 0 6 rfl rfl (by decide) (by decide +kernel) rfl dX7_putBlock_159 ?_
              refine lv_iload hx hb dX7_putBlock_162 (lv_at hl 4 rfl) ?_
              refine lv_iload hx hb dX7_putBlock_164 (lv_at hl 5 rfl) ?_
              refine lv_iload hx hb dX7_putBlock_166 (lv_at hl 8 rfl) ?_
              refine lv_iadd hx hb dX7_putBlock_168 ?_
              refine xrwi (z := nI ((bL W md 1) + x)) (nI_add _ _) ?_
              refine lv_iload hx hb dX7_putBlock_169 (lv_at hl 6 rfl) ?_
              refine lv_iload hx hb dX7_putBlock_171 (lv_at hl 7 rfl) ?_
              refine lv_iadd hx hb dX7_putBlock_173 ?_
              refine xrwi (z := nI ((bT W md 1) + y)) (nI_add _ _) ?_
              refine xSt (rest := [.ref nw]) (As := [.int 0, .int (nI ((bL W md 1) + x)), .int (nI ((bT W md 1) + y))]) (ws1 := [(o, .inr (7, mdF th W H mt qu zz nw ol ne se ke nc ns is ik dc sc 3 md wh fa re ve ps 0 tl di lv bf bo bd co bt ma)), (nw, .inl (cs 0, 4608, .inl (mpB gw W md 1 (mlF W md 1 mf (fun x9 y9 => (mft (lokP go 0) (wdt 0 W) (wdt 0 H) (nI x9) (nI y9) (mus wh (V 0) 0) (mus wh (V 1) 0)))) (y * 8 + x)))), (ol, .inl (cs 0, 4608, .inl go)), (ne, .inl (cs 0, 4608, .inl gn)), (ve, .inl (cs 0, 4, .inl V)), (ma, .inl (cs 0, 64, .inl mf))]) (st1 := [.int (nI (plc 0 ((bL W md 1) + x) ((bT W md 1) + y))), .ref nw]) hF (c_X7_place l D cs tt 0 ((bL W md 1) + x) ((bT W md 1) + y) (by decide)) gX7_putBlock_X7_place rfl (n := 3) (by decide +kernel) rfl ⟨⟨rfl, rfl⟩, Nat.le_of_ble_eq_true rfl, Nat.le_of_ble_eq_true rfl⟩ ⟨Nat.le_of_ble_eq_true rfl, Nat.le_of_ble_eq_true rfl⟩ hX hP hD hS [] (by decide) rfl [] rfl rfl hl.1 rfl (Nat.le_of_ble_eq_true rfl) dX7_putBlock_174 rfl rfl (fun Hp locs hP hD hS => ?_)
              refine xrwi (z := nI (0 + (((bT W md 1) + y) * 64 + ((bL W md 1) + x)))) (by unfold plc; rw [if_pos rfl]; exact congrArg nI (by omega)) ?_
              refine lv_iload hx hb dX7_putBlock_177 (lv_at hl 0 rfl) ?_
              refine lv_iconst (v := 0) hx hb dX7_putBlock_179 (by decide) ?_
              refine lv_sipush (v := 255) hx hb dX7_putBlock_180 (by decide) ?_
              refine xSt (rest := [.int (nI (0 + (((bT W md 1) + y) * 64 + ((bL W md 1) + x)))), .ref nw]) (As := [.int ((mf (y * 8 + x)) + (mft (lokP go 0) (wdt 0 W) (wdt 0 H) (nI ((bL W md 1) + x)) (nI ((bT W md 1) + y)) (mus wh (V 0) 0) (mus wh (V 1) 0))), .int 0, .int 255]) (ws1 := [(o, .inr (7, mdF th W H mt qu zz nw ol ne se ke nc ns is ik dc sc 3 md wh fa re ve ps 0 tl di lv bf bo bd co bt ma)), (nw, .inl (cs 0, 4608, .inl (mpB gw W md 1 (mlF W md 1 mf (fun x9 y9 => (mft (lokP go 0) (wdt 0 W) (wdt 0 H) (nI x9) (nI y9) (mus wh (V 0) 0) (mus wh (V 1) 0)))) (y * 8 + x)))), (ol, .inl (cs 0, 4608, .inl go)), (ne, .inl (cs 0, 4608, .inl gn)), (ve, .inl (cs 0, 4, .inl V)), (ma, .inl (cs 0, 64, .inl mf))]) (st1 := [.int (bnd ((mf (y * 8 + x)) + (mft (lokP go 0) (wdt 0 W) (wdt 0 H) (nI ((bL W md 1) + x)) (nI ((bT W md 1) + y)) (mus wh (V 0) 0) (mus wh (V 1) 0))) 0 255), .int (nI (0 + (((bT W md 1) + y) * 64 + ((bL W md 1) + x)))), .ref nw]) hF (c_X7_within l D cs tt ((mf (y * 8 + x)) + (mft (lokP go 0) (wdt 0 W) (wdt 0 H) (nI ((bL W md 1) + x)) (nI ((bT W md 1) + y)) (mus wh (V 0) 0) (mus wh (V 1) 0))) 0 255) gX7_putBlock_X7_within rfl (n := 3) (by decide +kernel) rfl ⟨⟨rfl, rfl⟩, Nat.le_of_ble_eq_true rfl, Nat.le_of_ble_eq_true rfl⟩ ⟨Nat.le_of_ble_eq_true rfl, Nat.le_of_ble_eq_true rfl⟩ hX hP hD hS [] (by decide) rfl [] rfl rfl hl.1 rfl (Nat.le_of_ble_eq_true rfl) dX7_putBlock_183 rfl rfl (fun Hp locs hP hD hS => ?_)
              refine xast (k := 0 + (((bT W md 1) + y) * 64 + ((bL W md 1) + x))) (ws1 := [(o, .inr (7, mdF th W H mt qu zz nw ol ne se ke nc ns is ik dc sc 3 md wh fa re ve ps 0 tl di lv bf bo bd co bt ma)), (nw, .inl (cs 0, 4608, .inl (mpB gw W md 1 (mlF W md 1 mf (fun x9 y9 => (mft (lokP go 0) (wdt 0 W) (wdt 0 H) (nI x9) (nI y9) (mus wh (V 0) 0) (mus wh (V 1) 0)))) (y * 8 + (x + 1))))), (ol, .inl (cs 0, 4608, .inl go)), (ne, .inl (cs 0, 4608, .inl gn)), (ve, .inl (cs 0, 4, .inl V)), (ma, .inl (cs 0, 64, .inl mf))]) hF hX hP hD hS 1 rfl (nI_clamp (by omega)) (vp_in_nI (by omega) (by decide)) dX7_putBlock_186 (congrArg (fun z9 => ([(o, .inr (7, mdF th W H mt qu zz nw ol ne se ke nc ns is ik dc sc 3 md wh fa re ve ps 0 tl di lv bf bo bd co bt ma)), (nw, .inl (cs 0, 4608, .inl z9)), (ol, .inl (cs 0, 4608, .inl go)), (ne, .inl (cs 0, 4608, .inl gn)), (ve, .inl (cs 0, 4, .inl V)), (ma, .inl (cs 0, 64, .inl mf))] : va_W)) (pbs gw (mlF W md 1 mf (fun x9 y9 => (mft (lokP go 0) (wdt 0 W) (wdt 0 H) (nI x9) (nI y9) (mus wh (V 0) 0) (mus wh (V 1) 0)))) (by unfold mlF; rw [show ((bT W md 1) + y - (bT W md 1)) * 8 + ((bL W md 1) + x - (bL W md 1)) = y * 8 + x by omega]) hxl (show (bL W md 1) + 8 ≤ 64 by omega))) (fun Hp locs hP hD hS => ?_)
              refine lv_iinc (v := (nI (x + 1))) (lv' := [(8, .int (nI (x + 1))), (9, .int ((mf (y * 8 + x)) + (mft (lokP go 0) (wdt 0 W) (wdt 0 H) (nI ((bL W md 1) + x)) (nI ((bT W md 1) + y)) (mus wh (V 0) 0) (mus wh (V 1) 0)))), (0, .ref o), (2, .int 1), (3, .int 0), (4, .int 0), (5, .int (nI (bL W md 1))), (6, .int (nI (bT W md 1))), (7, .int (nI y))]) hx hb dX7_putBlock_187 hl (k := 8) rfl (nI_1 x) (by decide) rfl (fun ls hl => ?_)
              refine lv_goto (tgt := 101) hx hb dX7_putBlock_190 (by decide) ?_
              exact ih_101 (x + 1) (by omega) (by omega) _ _ _ hP hD hS (lv_sub hl [2, 3, 4, 5, 6, 7, 8, 0] rfl)
        exact loop_101 (8 - 0 + 1) 0 (Nat.lt_succ_self _) (by decide) _ _ _ hP hD hS (lv_sub hl [1, 2, 3, 4, 5, 6, 7, 0] rfl)
  have hP := xeqP hP (congrArg (fun z9 => ([(o, .inr (7, mdF th W H mt qu zz nw ol ne se ke nc ns is ik dc sc 3 md wh fa re ve ps 0 tl di lv bf bo bd co bt ma)), (nw, .inl (cs 0, 4608, .inl z9)), (ol, .inl (cs 0, 4608, .inl go)), (ne, .inl (cs 0, 4608, .inl gn)), (ve, .inl (cs 0, 4, .inl V)), (ma, .inl (cs 0, 64, .inl mf))] : va_W)) ((show gw = mpB gw W md 1 (mlF W md 1 mf (fun x9 y9 => (mft (lokP go 0) (wdt 0 W) (wdt 0 H) (nI x9) (nI y9) (mus wh (V 0) 0) (mus wh (V 1) 0)))) (0 * 8) from (blkTo_0 gw _ _ _ _ 8 (mlF W md 1 mf (fun x9 y9 => (mft (lokP go 0) (wdt 0 W) (wdt 0 H) (nI x9) (nI y9) (mus wh (V 0) 0) (mus wh (V 1) 0))))).symm)))
  have hD := xeqD hD (congrArg (fun z9 => ([(o, .inr (7, mdF th W H mt qu zz nw ol ne se ke nc ns is ik dc sc 3 md wh fa re ve ps 0 tl di lv bf bo bd co bt ma)), (nw, .inl (cs 0, 4608, .inl z9)), (ol, .inl (cs 0, 4608, .inl go)), (ne, .inl (cs 0, 4608, .inl gn)), (ve, .inl (cs 0, 4, .inl V)), (ma, .inl (cs 0, 64, .inl mf))] : va_W)) ((show gw = mpB gw W md 1 (mlF W md 1 mf (fun x9 y9 => (mft (lokP go 0) (wdt 0 W) (wdt 0 H) (nI x9) (nI y9) (mus wh (V 0) 0) (mus wh (V 1) 0)))) (0 * 8) from (blkTo_0 gw _ _ _ _ 8 (mlF W md 1 mf (fun x9 y9 => (mft (lokP go 0) (wdt 0 W) (wdt 0 H) (nI x9) (nI y9) (mus wh (V 0) 0) (mus wh (V 1) 0))))).symm)))
  exact loop_91 (8 - 0 + 1) 0 (Nat.lt_succ_self _) (by decide) _ _ _ hP hD hS (lv_sub hl [4, 6, 7, 3, 2, 1, 0] rfl)

set_option maxHeartbeats 4000000 in
set_option maxRecDepth 100000 in
theorem c_X7_putBlock1C (l : Launch) (D : va_G) (cs : Nat → ClassId) (tt : Nat → Nat) (o mt qu zz nw ol ne se ke re ve ps di lv bd co bt ma W H md : Nat) (th nc ns is ik dc sc wh fa tl bf bo : Int32) (gw mf go gn V : Nat → Int32) (hw : 1 ≤ W) (hw4 : W ≤ 4) (hh : 1 ≤ H) (hh3 : H ≤ 3) (hmd : md < W * H) : xM l yX7_putBlock wsX7_putBlock ({ frames := 4, cells := 0, slots := 0, locals := 104 } : Room) D cs tt [.ref o, .int 1, .int 0, .int 1] [(o, .inr (7, mdF th W H mt qu zz nw ol ne se ke nc ns is ik dc sc 3 md wh fa re ve ps 0 tl di lv bf bo bd co bt ma)), (nw, .inl (cs 0, 4608, .inl gw)), (ol, .inl (cs 0, 4608, .inl go)), (ne, .inl (cs 0, 4608, .inl gn)), (ve, .inl (cs 0, 4, .inl V)), (ma, .inl (cs 0, 64, .inl mf))] none [(o, .inr (7, mdF th W H mt qu zz nw ol ne se ke nc ns is ik dc sc 3 md wh fa re ve ps 0 tl di lv bf bo bd co bt ma)), (nw, .inl (cs 0, 4608, .inl (mpB gw W md 1 (mlF W md 1 mf (fun x9 y9 => (mft (lokP gn 0) (wdt 0 W) (wdt 0 H) (nI x9) (nI y9) (mus wh (V 2) 0) (mus wh (V 3) 0)))) (64)))), (ol, .inl (cs 0, 4608, .inl go)), (ne, .inl (cs 0, 4608, .inl gn)), (ve, .inl (cs 0, 4, .inl V)), (ma, .inl (cs 0, 64, .inl mf))] := by
  refine xM.of RX7 rfl (by decide) rfl (Nat.le_of_ble_eq_true rfl) ?_
  intro p e s m below meth c A ls hF hr hlk hX hP hD hS hl
  have hx := hF.1
  have hb := hF.2.1
  have hl : lv_has ls 10 [(0, .ref o), (1, .int 1), (2, .int 0), (3, .int 1)] := hl
  have hm4 : md < 4096 := Nat.lt_of_lt_of_le hmd (Nat.le_trans (Nat.mul_le_mul hw4 hh3) (by decide))
  have hb9 := b_in hw hmd 1 (by decide)
  have hbl : (bL W md 1) + 8 ≤ 16 * W := hb9.1
  have hbt : (bT W md 1) + 8 ≤ 16 * H := hb9.2
  have hsL : bL W md 1 = bL W md 1 := rfl
  refine lv_iload_n hx hb dX7_putBlock_0 rfl (lv_at hl 1 rfl) ?_
  refine xSt (rest := []) (As := [.int 1]) (ws1 := [(o, .inr (7, mdF th W H mt qu zz nw ol ne se ke nc ns is ik dc sc 3 md wh fa re ve ps 0 tl di lv bf bo bd co bt ma)), (nw, .inl (cs 0, 4608, .inl gw)), (ol, .inl (cs 0, 4608, .inl go)), (ne, .inl (cs 0, 4608, .inl gn)), (ve, .inl (cs 0, 4, .inl V)), (ma, .inl (cs 0, 64, .inl mf))]) (st1 := [.int (pln 1)]) hF (c_X7_planeOf l D cs tt 1) gX7_putBlock_X7_planeOf rfl (n := 1) (by decide +kernel) rfl ⟨⟨rfl, rfl⟩, Nat.le_of_ble_eq_true rfl, Nat.le_of_ble_eq_true rfl⟩ ⟨Nat.le_of_ble_eq_true rfl, Nat.le_of_ble_eq_true rfl⟩ hX hP hD hS [] (by decide) rfl [] rfl rfl hl.1 rfl (Nat.le_of_ble_eq_true rfl) dX7_putBlock_1 rfl rfl (fun Hp locs hP hD hS => ?_)
  refine xrwi (z := 0) (by decide) ?_
  refine lv_istore (lv' := [(4, .int 0), (0, .ref o), (1, .int 1), (2, .int 0), (3, .int 1)]) hx hb dX7_putBlock_4 hl (by decide) rfl (fun ls hl => ?_)
  refine lv_iload hx hb dX7_putBlock_6 (lv_at hl 0 rfl) ?_
  refine lv_if_ne (tgt := 33) hx hb dX7_putBlock_8 (by decide) (fun c_8 => absurd (by decide) c_8) (fun _ => ?_)
  refine lv_bipush (v := 16) hx hb dX7_putBlock_11 (by decide) ?_
  refine lv_aload_n hx hb dX7_putBlock_13 rfl (lv_at hl 1 rfl) ?_
  refine xget (C := RX7) (T := TX7) (N := 34) hF hX hP (by decide +kernel) 0 18 rfl rfl (by decide) (by decide +kernel) rfl dX7_putBlock_14 ?_
  refine lv_aload_n hx hb dX7_putBlock_17 rfl (lv_at hl 1 rfl) ?_
  refine xget (C := RX7) (T := TX7) (N := 34) hF hX hP (by decide +kernel) 0 1 rfl rfl (by decide) (by decide +kernel) rfl dX7_putBlock_18 ?_
  refine lv_irem hx hb dX7_putBlock_21 (nI_ne0 (by omega) (by omega)) ?_
  refine xrwi (z := nI (md % W)) (pk_rem (by omega) (by omega) (by omega)) ?_
  refine lv_imul hx hb dX7_putBlock_22 ?_
  refine lv_bipush (v := 8) hx hb dX7_putBlock_23 (by decide) ?_
  refine lv_iload_n hx hb dX7_putBlock_25 rfl (lv_at hl 2 rfl) ?_
  refine lv_iconst (v := 2) hx hb dX7_putBlock_26 (by decide) ?_
  refine lv_irem hx hb dX7_putBlock_27 (by decide) ?_
  refine xrwi (z := 1) (by decide) ?_
  refine lv_imul hx hb dX7_putBlock_28 ?_
  refine xrwi (z := 8) (by decide) ?_
  refine lv_iadd hx hb dX7_putBlock_29 ?_
  refine lv_goto (tgt := 45) hx hb dX7_putBlock_30 (by decide) ?_
  refine xrwi (z := nI (bL W md 1)) (by rw [show (16 : Int32) * nI (md % W) = nI (16 * (md % W)) from pk_mul 16 _, show nI (16 * (md % W)) + 8 = nI (16 * (md % W) + 8) from nI_add _ 8]; exact congrArg nI (show 16 * (md % W) + 8 = bL W md 1 by show _ = md % W * 16 + 8; omega)) ?_
  refine lv_istore (lv' := [(5, .int (nI (bL W md 1))), (4, .int 0), (0, .ref o), (1, .int 1), (2, .int 0), (3, .int 1)]) hx hb dX7_putBlock_45 hl (by decide) rfl (fun ls hl => ?_)
  refine lv_iload hx hb dX7_putBlock_47 (lv_at hl 1 rfl) ?_
  refine lv_if_ne (tgt := 74) hx hb dX7_putBlock_49 (by decide) (fun c_49 => absurd (by decide) c_49) (fun _ => ?_)
  refine lv_bipush (v := 16) hx hb dX7_putBlock_52 (by decide) ?_
  refine lv_aload_n hx hb dX7_putBlock_54 rfl (lv_at hl 2 rfl) ?_
  refine xget (C := RX7) (T := TX7) (N := 34) hF hX hP (by decide +kernel) 0 18 rfl rfl (by decide) (by decide +kernel) rfl dX7_putBlock_55 ?_
  refine lv_aload_n hx hb dX7_putBlock_58 rfl (lv_at hl 2 rfl) ?_
  refine xget (C := RX7) (T := TX7) (N := 34) hF hX hP (by decide +kernel) 0 1 rfl rfl (by decide) (by decide +kernel) rfl dX7_putBlock_59 ?_
  refine lv_idiv hx hb dX7_putBlock_62 (nI_ne0 (by omega) (by omega)) ?_
  refine xrwi (z := nI (md / W)) (pk_div (by omega) (by omega) (by omega)) ?_
  refine lv_imul hx hb dX7_putBlock_63 ?_
  refine lv_bipush (v := 8) hx hb dX7_putBlock_64 (by decide) ?_
  refine lv_iload_n hx hb dX7_putBlock_66 rfl (lv_at hl 3 rfl) ?_
  refine lv_iconst (v := 2) hx hb dX7_putBlock_67 (by decide) ?_
  refine lv_idiv hx hb dX7_putBlock_68 (by decide) ?_
  refine xrwi (z := 0) (by decide) ?_
  refine lv_imul hx hb dX7_putBlock_69 ?_
  refine xrwi (z := 0) (by decide) ?_
  refine lv_iadd hx hb dX7_putBlock_70 ?_
  refine lv_goto (tgt := 86) hx hb dX7_putBlock_71 (by decide) ?_
  refine xrwi (z := nI (bT W md 1)) (by rw [show (16 : Int32) * nI (md / W) = nI (16 * (md / W)) from pk_mul 16 _, show nI (16 * (md / W)) + 0 = nI (16 * (md / W) + 0) from nI_add _ 0]; exact congrArg nI (show 16 * (md / W) + 0 = bT W md 1 by show _ = md / W * 16 + 0; omega)) ?_
  refine lv_istore (lv' := [(6, .int (nI (bT W md 1))), (5, .int (nI (bL W md 1))), (4, .int 0), (0, .ref o), (1, .int 1), (2, .int 0), (3, .int 1)]) hx hb dX7_putBlock_86 hl (by decide) rfl (fun ls hl => ?_)
  refine lv_iconst (v := 0) hx hb dX7_putBlock_88 (by decide) ?_
  refine lv_istore (lv' := [(7, .int 0), (6, .int (nI (bT W md 1))), (5, .int (nI (bL W md 1))), (4, .int 0), (0, .ref o), (1, .int 1), (2, .int 0), (3, .int 1)]) hx hb dX7_putBlock_89 hl (by decide) rfl (fun ls hl => ?_)
  have loop_91 : ∀ (k91 : Nat) (y : Nat), 8 - y < k91 → y ≤ 8 → ∀ (Hp : Heap) (locs : List Loc) (ls : Array Slot), va_P D vwCl [(o, .inr (7, mdF th W H mt qu zz nw ol ne se ke nc ns is ik dc sc 3 md wh fa re ve ps 0 tl di lv bf bo bd co bt ma)), (nw, .inl (cs 0, 4608, .inl (mpB gw W md 1 (mlF W md 1 mf (fun x9 y9 => (mft (lokP gn 0) (wdt 0 W) (wdt 0 H) (nI x9) (nI y9) (mus wh (V 2) 0) (mus wh (V 3) 0)))) (y * 8)))), (ol, .inl (cs 0, 4608, .inl go)), (ne, .inl (cs 0, 4608, .inl gn)), (ve, .inl (cs 0, 4, .inl V)), (ma, .inl (cs 0, 64, .inl mf))] Hp → va_D A [(o, .inr (7, mdF th W H mt qu zz nw ol ne se ke nc ns is ik dc sc 3 md wh fa re ve ps 0 tl di lv bf bo bd co bt ma)), (nw, .inl (cs 0, 4608, .inl (mpB gw W md 1 (mlF W md 1 mf (fun x9 y9 => (mft (lokP gn 0) (wdt 0 W) (wdt 0 H) (nI x9) (nI y9) (mus wh (V 2) 0) (mus wh (V 3) 0)))) (y * 8)))), (ol, .inl (cs 0, 4608, .inl go)), (ne, .inl (cs 0, 4608, .inl gn)), (ve, .inl (cs 0, 4, .inl V)), (ma, .inl (cs 0, 64, .inl mf))] → va_S A s.heap Hp locs → lv_has ls 10 [(0, .ref o), (2, .int 0), (3, .int 1), (4, .int 0), (5, .int (nI (bL W md 1))), (6, .int (nI (bT W md 1))), (7, .int (nI y))] → xW p l e ({ frames := 4, cells := 0, slots := 0, locals := 104 } : Room) s m ([.ref o, .int 1, .int 0, .int 1] : List Value).toArray below meth c Hp locs 0 0 (MQ below (xE D A none [(o, .inr (7, mdF th W H mt qu zz nw ol ne se ke nc ns is ik dc sc 3 md wh fa re ve ps 0 tl di lv bf bo bd co bt ma)), (nw, .inl (cs 0, 4608, .inl (mpB gw W md 1 (mlF W md 1 mf (fun x9 y9 => (mft (lokP gn 0) (wdt 0 W) (wdt 0 H) (nI x9) (nI y9) (mus wh (V 2) 0) (mus wh (V 3) 0)))) (64)))), (ol, .inl (cs 0, 4608, .inl go)), (ne, .inl (cs 0, 4608, .inl gn)), (ve, .inl (cs 0, 4, .inl V)), (ma, .inl (cs 0, 64, .inl mf))]) ([.ref o, .int 1, .int 0, .int 1] : List Value).toArray s 0 0 A) (F0 m 91 ls []) := by
    intro k91
    induction k91 with
    | zero => intro y h9; omega
    | succ k91 ih_91 =>
      intro y hk91 hy9 Hp locs ls hP hD hS hl
      refine lv_iload hx hb dX7_putBlock_91 (lv_at hl 6 rfl) ?_
      refine lv_bipush (v := 8) hx hb dX7_putBlock_93 (by decide) ?_
      refine lv_icmp_ge (tgt := 199) hx hb dX7_putBlock_95 (by decide) (fun c_95 => ?_) (fun c_95 => ?_)
      · have ey : y = 8 := by have := nIle (a := 8) (b := y) rfl rfl (by decide) (by omega) c_95; omega
        have hP := xeqP hP (congrArg (fun z9 => ([(o, .inr (7, mdF th W H mt qu zz nw ol ne se ke nc ns is ik dc sc 3 md wh fa re ve ps 0 tl di lv bf bo bd co bt ma)), (nw, .inl (cs 0, 4608, .inl z9)), (ol, .inl (cs 0, 4608, .inl go)), (ne, .inl (cs 0, 4608, .inl gn)), (ve, .inl (cs 0, 4, .inl V)), (ma, .inl (cs 0, 64, .inl mf))] : va_W)) (congrArg (mpB gw W md 1 (mlF W md 1 mf (fun x9 y9 => (mft (lokP gn 0) (wdt 0 W) (wdt 0 H) (nI x9) (nI y9) (mus wh (V 2) 0) (mus wh (V 3) 0))))) (show y * 8 = 64 by omega)))
        have hD := xeqD hD (congrArg (fun z9 => ([(o, .inr (7, mdF th W H mt qu zz nw ol ne se ke nc ns is ik dc sc 3 md wh fa re ve ps 0 tl di lv bf bo bd co bt ma)), (nw, .inl (cs 0, 4608, .inl z9)), (ol, .inl (cs 0, 4608, .inl go)), (ne, .inl (cs 0, 4608, .inl gn)), (ve, .inl (cs 0, 4, .inl V)), (ma, .inl (cs 0, 64, .inl mf))] : va_W)) (congrArg (mpB gw W md 1 (mlF W md 1 mf (fun x9 y9 => (mft (lokP gn 0) (wdt 0 W) (wdt 0 H) (nI x9) (nI y9) (mus wh (V 2) 0) (mus wh (V 3) 0))))) (show y * 8 = 64 by omega)))
        exact xrv hF hr hlk hP hD hS dX7_putBlock_199
      · have hyl : y < 8 := nInle (a := 8) (b := y) rfl rfl (by decide) (by omega) c_95
        refine lv_iconst (v := 0) hx hb dX7_putBlock_98 (by decide) ?_
        refine lv_istore (lv' := [(8, .int 0), (0, .ref o), (2, .int 0), (3, .int 1), (4, .int 0), (5, .int (nI (bL W md 1))), (6, .int (nI (bT W md 1))), (7, .int (nI y))]) hx hb dX7_putBlock_99 hl (by decide) rfl (fun ls hl => ?_)
        have loop_101 : ∀ (k101 : Nat) (x : Nat), 8 - x < k101 → x ≤ 8 → ∀ (Hp : Heap) (locs : List Loc) (ls : Array Slot), va_P D vwCl [(o, .inr (7, mdF th W H mt qu zz nw ol ne se ke nc ns is ik dc sc 3 md wh fa re ve ps 0 tl di lv bf bo bd co bt ma)), (nw, .inl (cs 0, 4608, .inl (mpB gw W md 1 (mlF W md 1 mf (fun x9 y9 => (mft (lokP gn 0) (wdt 0 W) (wdt 0 H) (nI x9) (nI y9) (mus wh (V 2) 0) (mus wh (V 3) 0)))) (y * 8 + x)))), (ol, .inl (cs 0, 4608, .inl go)), (ne, .inl (cs 0, 4608, .inl gn)), (ve, .inl (cs 0, 4, .inl V)), (ma, .inl (cs 0, 64, .inl mf))] Hp → va_D A [(o, .inr (7, mdF th W H mt qu zz nw ol ne se ke nc ns is ik dc sc 3 md wh fa re ve ps 0 tl di lv bf bo bd co bt ma)), (nw, .inl (cs 0, 4608, .inl (mpB gw W md 1 (mlF W md 1 mf (fun x9 y9 => (mft (lokP gn 0) (wdt 0 W) (wdt 0 H) (nI x9) (nI y9) (mus wh (V 2) 0) (mus wh (V 3) 0)))) (y * 8 + x)))), (ol, .inl (cs 0, 4608, .inl go)), (ne, .inl (cs 0, 4608, .inl gn)), (ve, .inl (cs 0, 4, .inl V)), (ma, .inl (cs 0, 64, .inl mf))] → va_S A s.heap Hp locs → lv_has ls 10 [(0, .ref o), (2, .int 0), (3, .int 1), (4, .int 0), (5, .int (nI (bL W md 1))), (6, .int (nI (bT W md 1))), (7, .int (nI y)), (8, .int (nI x))] → xW p l e ({ frames := 4, cells := 0, slots := 0, locals := 104 } : Room) s m ([.ref o, .int 1, .int 0, .int 1] : List Value).toArray below meth c Hp locs 0 0 (MQ below (xE D A none [(o, .inr (7, mdF th W H mt qu zz nw ol ne se ke nc ns is ik dc sc 3 md wh fa re ve ps 0 tl di lv bf bo bd co bt ma)), (nw, .inl (cs 0, 4608, .inl (mpB gw W md 1 (mlF W md 1 mf (fun x9 y9 => (mft (lokP gn 0) (wdt 0 W) (wdt 0 H) (nI x9) (nI y9) (mus wh (V 2) 0) (mus wh (V 3) 0)))) (64)))), (ol, .inl (cs 0, 4608, .inl go)), (ne, .inl (cs 0, 4608, .inl gn)), (ve, .inl (cs 0, 4, .inl V)), (ma, .inl (cs 0, 64, .inl mf))]) ([.ref o, .int 1, .int 0, .int 1] : List Value).toArray s 0 0 A) (F0 m 101 ls []) := by
          intro k101
          induction k101 with
          | zero => intro x h9; omega
          | succ k101 ih_101 =>
            intro x hk101 hx9 Hp locs ls hP hD hS hl
            refine lv_iload hx hb dX7_putBlock_101 (lv_at hl 7 rfl) ?_
            refine lv_bipush (v := 8) hx hb dX7_putBlock_103 (by decide) ?_
            refine lv_icmp_ge (tgt := 193) hx hb dX7_putBlock_105 (by decide) (fun c_105 => ?_) (fun c_105 => ?_)
            · have ex : x = 8 := by have := nIle (a := 8) (b := x) rfl rfl (by decide) (by omega) c_105; omega
              have hP := xeqP hP (congrArg (fun z9 => ([(o, .inr (7, mdF th W H mt qu zz nw ol ne se ke nc ns is ik dc sc 3 md wh fa re ve ps 0 tl di lv bf bo bd co bt ma)), (nw, .inl (cs 0, 4608, .inl z9)), (ol, .inl (cs 0, 4608, .inl go)), (ne, .inl (cs 0, 4608, .inl gn)), (ve, .inl (cs 0, 4, .inl V)), (ma, .inl (cs 0, 64, .inl mf))] : va_W)) (congrArg (mpB gw W md 1 (mlF W md 1 mf (fun x9 y9 => (mft (lokP gn 0) (wdt 0 W) (wdt 0 H) (nI x9) (nI y9) (mus wh (V 2) 0) (mus wh (V 3) 0))))) (show y * 8 + x = (y + 1) * 8 by omega)))
              have hD := xeqD hD (congrArg (fun z9 => ([(o, .inr (7, mdF th W H mt qu zz nw ol ne se ke nc ns is ik dc sc 3 md wh fa re ve ps 0 tl di lv bf bo bd co bt ma)), (nw, .inl (cs 0, 4608, .inl z9)), (ol, .inl (cs 0, 4608, .inl go)), (ne, .inl (cs 0, 4608, .inl gn)), (ve, .inl (cs 0, 4, .inl V)), (ma, .inl (cs 0, 64, .inl mf))] : va_W)) (congrArg (mpB gw W md 1 (mlF W md 1 mf (fun x9 y9 => (mft (lokP gn 0) (wdt 0 W) (wdt 0 H) (nI x9) (nI y9) (mus wh (V 2) 0) (mus wh (V 3) 0))))) (show y * 8 + x = (y + 1) * 8 by omega)))
              refine lv_iinc (v := (nI (y + 1))) (lv' := [(7, .int (nI (y + 1))), (0, .ref o), (2, .int 0), (3, .int 1), (4, .int 0), (5, .int (nI (bL W md 1))), (6, .int (nI (bT W md 1))), (8, .int (nI x))]) hx hb dX7_putBlock_193 hl (k := 6) rfl (nI_1 y) (by decide) rfl (fun ls hl => ?_)
              refine lv_goto (tgt := 91) hx hb dX7_putBlock_196 (by decide) ?_
              exact ih_91 (y + 1) (by omega) (by omega) _ _ _ hP hD hS (lv_sub hl [1, 2, 3, 4, 5, 6, 0] rfl)
            · have hxl : x < 8 := nInle (a := 8) (b := x) rfl rfl (by decide) (by omega) c_105
              refine lv_aload_n hx hb dX7_putBlock_108 rfl (lv_at hl 0 rfl) ?_
              refine xget (C := RX7) (T := TX7) (N := 34) hF hX hP (by decide +kernel) 0 33 rfl rfl (by decide) (by decide +kernel) rfl dX7_putBlock_109 ?_
              refine lv_bipush (v := 8) hx hb dX7_putBlock_112 (by decide) ?_
              refine lv_iload hx hb dX7_putBlock_114 (lv_at hl 6 rfl) ?_
              refine lv_imul hx hb dX7_putBlock_116 ?_
              refine lv_iload hx hb dX7_putBlock_117 (lv_at hl 7 rfl) ?_
              refine lv_iadd hx hb dX7_putBlock_119 ?_
              refine xrwi (z := nI (y * 8 + x)) (k8 y x) ?_
              refine xald (k := y * 8 + x) hF hX hP 5 rfl (nI_clamp (by omega)) (vp_in_nI (by omega) (by decide)) dX7_putBlock_120 ?_
              refine lv_istore (lv' := [(9, .int (mf (y * 8 + x))), (0, .ref o), (2, .int 0), (3, .int 1), (4, .int 0), (5, .int (nI (bL W md 1))), (6, .int (nI (bT W md 1))), (7, .int (nI y)), (8, .int (nI x))]) hx hb dX7_putBlock_121 hl (by decide) rfl (fun ls hl => ?_)
              refine lv_aload_n hx hb dX7_putBlock_123 rfl (lv_at hl 1 rfl) ?_
              refine xget (C := RX7) (T := TX7) (N := 34) hF hX hP (by decide +kernel) 0 24 rfl rfl (by decide) (by decide +kernel) rfl dX7_putBlock_124 ?_
              refine lv_if_eq (tgt := 135) hx hb dX7_putBlock_127 (by decide) (fun _ => ?_) (fun c_127 => absurd (by decide) c_127)
              refine lv_iload hx hb dX7_putBlock_135 (lv_at hl 0 rfl) ?_
              refine lv_aload_n hx hb dX7_putBlock_137 rfl (lv_at hl 1 rfl) ?_
              refine lv_iload_n hx hb dX7_putBlock_138 rfl (lv_at hl 2 rfl) ?_
              refine lv_iload_n hx hb dX7_putBlock_139 rfl (lv_at hl 3 rfl) ?_
              refine lv_iload hx hb dX7_putBlock_140 (lv_at hl 4 rfl) ?_
              refine lv_iload hx hb dX7_putBlock_142 (lv_at hl 5 rfl) ?_
              refine lv_iload hx hb dX7_putBlock_144 (lv_at hl 8 rfl) ?_
              refine lv_iadd hx hb dX7_putBlock_146 ?_
              refine xrwi (z := nI ((bL W md 1) + x)) (nI_add _ _) ?_
              refine lv_iload hx hb dX7_putBlock_147 (lv_at hl 6 rfl) ?_
              refine lv_iload hx hb dX7_putBlock_149 (lv_at hl 7 rfl) ?_
              refine lv_iadd hx hb dX7_putBlock_151 ?_
              refine xrwi (z := nI ((bT W md 1) + y)) (nI_add _ _) ?_
              refine xV (rest := [.int (mf (y * 8 + x))]) (As := [.int 0, .int 1, .int 0, .int (nI ((bL W md 1) + x)), .int (nI ((bT W md 1) + y))]) (ws1 := [(o, .inr (7, mdF th W H mt qu zz nw ol ne se ke nc ns is ik dc sc 3 md wh fa re ve ps 0 tl di lv bf bo bd co bt ma)), (nw, .inl (cs 0, 4608, .inl (mpB gw W md 1 (mlF W md 1 mf (fun x9 y9 => (mft (lokP gn 0) (wdt 0 W) (wdt 0 H) (nI x9) (nI y9) (mus wh (V 2) 0) (mus wh (V 3) 0)))) (y * 8 + x)))), (ol, .inl (cs 0, 4608, .inl go)), (ne, .inl (cs 0, 4608, .inl gn)), (ve, .inl (cs 0, 4, .inl V)), (ma, .inl (cs 0, 64, .inl mf))]) (st1 := [.int (mft (lokP gn 0) (wdt 0 W) (wdt 0 H) (nI ((bL W md 1) + x)) (nI ((bT W md 1) + y)) (mus wh (V 2) 0) (mus wh (V 3) 0)), .int (mf (y * 8 + x))]) hF (c_X7_fetchedC l D cs tt o mt qu zz nw ol ne se ke re ve ps di lv bd co bt ma W H md th nc ns is ik dc sc wh fa 0 tl bf bo 0 (nI ((bL W md 1) + x)) (nI ((bT W md 1) + y)) go gn V (by decide) hw hw4 hh hh3) gX7_putBlock_X7_fetched rfl (n := 5) (by decide +kernel) rfl ⟨⟨rfl, rfl⟩, Nat.le_of_ble_eq_true rfl, Nat.le_of_ble_eq_true rfl⟩ ⟨Nat.le_of_ble_eq_true rfl, Nat.le_of_ble_eq_true rfl⟩ hX hP hD hS [0, 2, 3, 4] (by decide) rfl [o, ol, ne, ve] rfl rfl (q0 := 0) (ci := 7) rfl rfl rfl hl.1 rfl (Nat.le_of_ble_eq_true rfl) dX7_putBlock_152 rfl rfl (fun Hp locs hP hD hS => ?_)
              refine lv_iadd hx hb dX7_putBlock_155 ?_
              refine lv_istore (lv' := [(9, .int ((mf (y * 8 + x)) + (mft (lokP gn 0) (wdt 0 W) (wdt 0 H) (nI ((bL W md 1) + x)) (nI ((bT W md 1) + y)) (mus wh (V 2) 0) (mus wh (V 3) 0)))), (0, .ref o), (2, .int 0), (3, .int 1), (4, .int 0), (5, .int (nI (bL W md 1))), (6, .int (nI (bT W md 1))), (7, .int (nI y)), (8, .int (nI x))]) hx hb dX7_putBlock_156 hl (by decide) rfl (fun ls hl => ?_)
              refine lv_aload_n hx hb dX7_putBlock_158 rfl (lv_at hl 1 rfl) ?_
              refine xget (C := RX7) (T := TX7) (N := 34) hF hX hP (by decide +kernel) 0 6 rfl rfl (by decide) (by decide +kernel) rfl dX7_putBlock_159 ?_
              refine lv_iload hx hb dX7_putBlock_162 (lv_at hl 4 rfl) ?_
              refine lv_iload hx hb dX7_putBlock_164 (lv_at hl 5 rfl) ?_
              refine lv_iload hx hb dX7_putBlock_166 (lv_at hl 8 rfl) ?_
              refine lv_iadd hx hb dX7_putBlock_168 ?_
              refine xrwi (z := nI ((bL W md 1) + x)) (nI_add _ _) ?_
              refine lv_iload hx hb dX7_putBlock_169 (lv_at hl 6 rfl) ?_
              refine lv_iload hx hb dX7_putBlock_171 (lv_at hl 7 rfl) ?_
              refine lv_iadd hx hb dX7_putBlock_173 ?_
              refine xrwi (z := nI ((bT W md 1) + y)) (nI_add _ _) ?_
              refine xSt (rest := [.ref nw]) (As := [.int 0, .int (nI ((bL W md 1) + x)), .int (nI ((bT W md 1) + y))]) (ws1 := [(o, .inr (7, mdF th W H mt qu zz nw ol ne se ke nc ns is ik dc sc 3 md wh fa re ve ps 0 tl di lv bf bo bd co bt ma)), (nw, .inl (cs 0, 4608, .inl (mpB gw W md 1 (mlF W md 1 mf (fun x9 y9 => (mft (lokP gn 0) (wdt 0 W) (wdt 0 H) (nI x9) (nI y9) (mus wh (V 2) 0) (mus wh (V 3) 0)))) (y * 8 + x)))), (ol, .inl (cs 0, 4608, .inl go)), (ne, .inl (cs 0, 4608, .inl gn)), (ve, .inl (cs 0, 4, .inl V)), (ma, .inl (cs 0, 64, .inl mf))]) (st1 := [.int (nI (plc 0 ((bL W md 1) + x) ((bT W md 1) + y))), .ref nw]) hF (c_X7_place l D cs tt 0 ((bL W md 1) + x) ((bT W md 1) + y) (by decide)) gX7_putBlock_X7_place rfl (n := 3) (by decide +kernel) rfl ⟨⟨rfl, rfl⟩, Nat.le_of_ble_eq_true rfl, Nat.le_of_ble_eq_true rfl⟩ ⟨Nat.le_of_ble_eq_true rfl, Nat.le_of_ble_eq_true rfl⟩ hX hP hD hS [] (by decide) rfl [] rfl rfl hl.1 rfl (Nat.le_of_ble_eq_true rfl) dX7_putBlock_174 rfl rfl (fun Hp locs hP hD hS => ?_)
              refine xrwi (z := nI (0 + (((bT W md 1) + y) * 64 + ((bL W md 1) + x)))) (by unfold plc; rw [if_pos rfl]; exact congrArg nI (by omega)) ?_
              refine lv_iload hx hb dX7_putBlock_177 (lv_at hl 0 rfl) ?_
              refine lv_iconst (v := 0) hx hb dX7_putBlock_179 (by decide) ?_
              refine lv_sipush (v := 255) hx hb dX7_putBlock_180 (by decide) ?_
              refine xSt (rest := [.int (nI (0 + (((bT W md 1) + y) * 64 + ((bL W md 1) + x)))), .ref nw]) (As := [.int ((mf (y * 8 + x)) + (mft (lokP gn 0) (wdt 0 W) (wdt 0 H) (nI ((bL W md 1) + x)) (nI ((bT W md 1) + y)) (mus wh (V 2) 0) (mus wh (V 3) 0))), .int 0, .int 255]) (ws1 := [(o, .inr (7, mdF th W H mt qu zz nw ol ne se ke nc ns is ik dc sc 3 md wh fa re ve ps 0 tl di lv bf bo bd co bt ma)), (nw, .inl (cs 0, 4608, .inl (mpB gw W md 1 (mlF W md 1 mf (fun x9 y9 => (mft (lokP gn 0) (wdt 0 W) (wdt 0 H) (nI x9) (nI y9) (mus wh (V 2) 0) (mus wh (V 3) 0)))) (y * 8 + x)))), (ol, .inl (cs 0, 4608, .inl go)), (ne, .inl (cs 0, 4608, .inl gn)), (ve, .inl (cs 0, 4, .inl V)), (ma, .inl (cs 0, 64, .inl mf))]) (st1 := [.int (bnd ((mf (y * 8 + x)) + (mft (lokP gn 0) (wdt 0 W) (wdt 0 H) (nI ((bL W md 1) + x)) (nI ((bT W md 1) + y)) (mus wh (V 2) 0) (mus wh (V 3) 0))) 0 255), .int (nI (0 + (((bT W md 1) + y) * 64 + ((bL W md 1) + x)))), .ref nw]) hF (c_X7_within l D cs tt ((mf (y * 8 + x)) + (mft (lokP gn 0) (wdt 0 W) (wdt 0 H) (nI ((bL W md 1) + x)) (nI ((bT W md 1) + y)) (mus wh (V 2) 0) (mus wh (V 3) 0))) 0 255) gX7_putBlock_X7_within rfl (n := 3) (by decide +kernel) rfl ⟨⟨rfl, rfl⟩, Nat.le_of_ble_eq_true rfl, Nat.le_of_ble_eq_true rfl⟩ ⟨Nat.le_of_ble_eq_true rfl, Nat.le_of_ble_eq_true rfl⟩ hX hP hD hS [] (by decide) rfl [] rfl rfl hl.1 rfl (Nat.le_of_ble_eq_true rfl) dX7_putBlock_183 rfl rfl (fun Hp locs hP hD hS => ?_)
              refine xast (k := 0 + (((bT W md 1) + y) * 64 + ((bL W md 1) + x))) (ws1 := [(o, .inr (7, mdF th W H mt qu zz nw ol ne se ke nc ns is ik dc sc 3 md wh fa re ve ps 0 tl di lv bf bo bd co bt ma)), (nw, .inl (cs 0, 4608, .inl (mpB gw W md 1 (mlF W md 1 mf (fun x9 y9 => (mft (lokP gn 0) (wdt 0 W) (wdt 0 H) (nI x9) (nI y9) (mus wh (V 2) 0) (mus wh (V 3) 0)))) (y * 8 + (x + 1))))), (ol, .inl (cs 0, 4608, .inl go)), (ne, .inl (cs 0, 4608, .inl gn)), (ve, .inl (cs 0, 4, .inl V)), (ma, .inl (cs 0, 64, .inl mf))]) hF hX hP hD hS 1 rfl (nI_clamp (by omega)) (vp_in_nI (by omega) (by decide)) dX7_putBlock_186 (congrArg (fun z9 => ([(o, .inr (7, mdF th W H mt qu zz nw ol ne se ke nc ns is ik dc sc 3 md wh fa re ve ps 0 tl di lv bf bo bd co bt ma)), (nw, .inl (cs 0, 4608, .inl z9)), (ol, .inl (cs 0, 4608, .inl go)), (ne, .inl (cs 0, 4608, .inl gn)), (ve, .inl (cs 0, 4, .inl V)), (ma, .inl (cs 0, 64, .inl mf))] : va_W)) (pbs gw (mlF W md 1 mf (fun x9 y9 => (mft (lokP gn 0) (wdt 0 W) (wdt 0 H) (nI x9) (nI y9) (mus wh (V 2) 0) (mus wh (V 3) 0)))) (by unfold mlF; rw [show ((bT W md 1) + y - (bT W md 1)) * 8 + ((bL W md 1) + x - (bL W md 1)) = y * 8 + x by omega]) hxl (show (bL W md 1) + 8 ≤ 64 by omega))) (fun Hp locs hP hD hS => ?_)
              refine lv_iinc (v := (nI (x + 1))) (lv' := [(8, .int (nI (x + 1))), (9, .int ((mf (y * 8 + x)) + (mft (lokP gn 0) (wdt 0 W) (wdt 0 H) (nI ((bL W md 1) + x)) (nI ((bT W md 1) + y)) (mus wh (V 2) 0) (mus wh (V 3) 0)))), (0, .ref o), (2, .int 0), (3, .int 1), (4, .int 0), (5, .int (nI (bL W md 1))), (6, .int (nI (bT W md 1))), (7, .int (nI y))]) hx hb dX7_putBlock_187 hl (k := 8) rfl (nI_1 x) (by decide) rfl (fun ls hl => ?_)
              refine lv_goto (tgt := 101) hx hb dX7_putBlock_190 (by decide) ?_
              exact ih_101 (x + 1) (by omega) (by omega) _ _ _ hP hD hS (lv_sub hl [2, 3, 4, 5, 6, 7, 8, 0] rfl)
        exact loop_101 (8 - 0 + 1) 0 (Nat.lt_succ_self _) (by decide) _ _ _ hP hD hS (lv_sub hl [1, 2, 3, 4, 5, 6, 7, 0] rfl)
  have hP := xeqP hP (congrArg (fun z9 => ([(o, .inr (7, mdF th W H mt qu zz nw ol ne se ke nc ns is ik dc sc 3 md wh fa re ve ps 0 tl di lv bf bo bd co bt ma)), (nw, .inl (cs 0, 4608, .inl z9)), (ol, .inl (cs 0, 4608, .inl go)), (ne, .inl (cs 0, 4608, .inl gn)), (ve, .inl (cs 0, 4, .inl V)), (ma, .inl (cs 0, 64, .inl mf))] : va_W)) ((show gw = mpB gw W md 1 (mlF W md 1 mf (fun x9 y9 => (mft (lokP gn 0) (wdt 0 W) (wdt 0 H) (nI x9) (nI y9) (mus wh (V 2) 0) (mus wh (V 3) 0)))) (0 * 8) from (blkTo_0 gw _ _ _ _ 8 (mlF W md 1 mf (fun x9 y9 => (mft (lokP gn 0) (wdt 0 W) (wdt 0 H) (nI x9) (nI y9) (mus wh (V 2) 0) (mus wh (V 3) 0))))).symm)))
  have hD := xeqD hD (congrArg (fun z9 => ([(o, .inr (7, mdF th W H mt qu zz nw ol ne se ke nc ns is ik dc sc 3 md wh fa re ve ps 0 tl di lv bf bo bd co bt ma)), (nw, .inl (cs 0, 4608, .inl z9)), (ol, .inl (cs 0, 4608, .inl go)), (ne, .inl (cs 0, 4608, .inl gn)), (ve, .inl (cs 0, 4, .inl V)), (ma, .inl (cs 0, 64, .inl mf))] : va_W)) ((show gw = mpB gw W md 1 (mlF W md 1 mf (fun x9 y9 => (mft (lokP gn 0) (wdt 0 W) (wdt 0 H) (nI x9) (nI y9) (mus wh (V 2) 0) (mus wh (V 3) 0)))) (0 * 8) from (blkTo_0 gw _ _ _ _ 8 (mlF W md 1 mf (fun x9 y9 => (mft (lokP gn 0) (wdt 0 W) (wdt 0 H) (nI x9) (nI y9) (mus wh (V 2) 0) (mus wh (V 3) 0))))).symm)))
  exact loop_91 (8 - 0 + 1) 0 (Nat.lt_succ_self _) (by decide) _ _ _ hP hD hS (lv_sub hl [4, 6, 7, 3, 2, 1, 0] rfl)

set_option maxHeartbeats 4000000 in
set_option maxRecDepth 100000 in
theorem c_X7_putBlock1D (l : Launch) (D : va_G) (cs : Nat → ClassId) (tt : Nat → Nat) (o mt qu zz nw ol ne se ke re ve ps di lv bd co bt ma W H md : Nat) (th nc ns is ik dc sc wh fa tl bf bo : Int32) (gw mf go gn V : Nat → Int32) (hw : 1 ≤ W) (hw4 : W ≤ 4) (hh : 1 ≤ H) (hh3 : H ≤ 3) (hmd : md < W * H) : xM l yX7_putBlock wsX7_putBlock ({ frames := 4, cells := 0, slots := 0, locals := 104 } : Room) D cs tt [.ref o, .int 1, .int 1, .int 1] [(o, .inr (7, mdF th W H mt qu zz nw ol ne se ke nc ns is ik dc sc 3 md wh fa re ve ps 0 tl di lv bf bo bd co bt ma)), (nw, .inl (cs 0, 4608, .inl gw)), (ol, .inl (cs 0, 4608, .inl go)), (ne, .inl (cs 0, 4608, .inl gn)), (ve, .inl (cs 0, 4, .inl V)), (ma, .inl (cs 0, 64, .inl mf))] none [(o, .inr (7, mdF th W H mt qu zz nw ol ne se ke nc ns is ik dc sc 3 md wh fa re ve ps 0 tl di lv bf bo bd co bt ma)), (nw, .inl (cs 0, 4608, .inl (mpB gw W md 1 (mlF W md 1 mf (fun x9 y9 => (((mft (lokP go 0) (wdt 0 W) (wdt 0 H) (nI x9) (nI y9) (mus wh (V 0) 0) (mus wh (V 1) 0)) + (mft (lokP gn 0) (wdt 0 W) (wdt 0 H) (nI x9) (nI y9) (mus wh (V 2) 0) (mus wh (V 3) 0)) + 1) >>> (1 &&& 31)))) (64)))), (ol, .inl (cs 0, 4608, .inl go)), (ne, .inl (cs 0, 4608, .inl gn)), (ve, .inl (cs 0, 4, .inl V)), (ma, .inl (cs 0, 64, .inl mf))] := by
  refine xM.of RX7 rfl (by decide) rfl (Nat.le_of_ble_eq_true rfl) ?_
  intro p e s m below meth c A ls hF hr hlk hX hP hD hS hl
  have hx := hF.1
  have hb := hF.2.1
  have hl : lv_has ls 10 [(0, .ref o), (1, .int 1), (2, .int 1), (3, .int 1)] := hl
  have hm4 : md < 4096 := Nat.lt_of_lt_of_le hmd (Nat.le_trans (Nat.mul_le_mul hw4 hh3) (by decide))
  have hb9 := b_in hw hmd 1 (by decide)
  have hbl : (bL W md 1) + 8 ≤ 16 * W := hb9.1
  have hbt : (bT W md 1) + 8 ≤ 16 * H := hb9.2
  have hsL : bL W md 1 = bL W md 1 := rfl
  refine lv_iload_n hx hb dX7_putBlock_0 rfl (lv_at hl 1 rfl) ?_
  refine xSt (rest := []) (As := [.int 1]) (ws1 := [(o, .inr (7, mdF th W H mt qu zz nw ol ne se ke nc ns is ik dc sc 3 md wh fa re ve ps 0 tl di lv bf bo bd co bt ma)), (nw, .inl (cs 0, 4608, .inl gw)), (ol, .inl (cs 0, 4608, .inl go)), (ne, .inl (cs 0, 4608, .inl gn)), (ve, .inl (cs 0, 4, .inl V)), (ma, .inl (cs 0, 64, .inl mf))]) (st1 := [.int (pln 1)]) hF (c_X7_planeOf l D cs tt 1) gX7_putBlock_X7_planeOf rfl (n := 1) (by decide +kernel) rfl ⟨⟨rfl, rfl⟩, Nat.le_of_ble_eq_true rfl, Nat.le_of_ble_eq_true rfl⟩ ⟨Nat.le_of_ble_eq_true rfl, Nat.le_of_ble_eq_true rfl⟩ hX hP hD hS [] (by decide) rfl [] rfl rfl hl.1 rfl (Nat.le_of_ble_eq_true rfl) dX7_putBlock_1 rfl rfl (fun Hp locs hP hD hS => ?_)
  refine xrwi (z := 0) (by decide) ?_
  refine lv_istore (lv' := [(4, .int 0), (0, .ref o), (1, .int 1), (2, .int 1), (3, .int 1)]) hx hb dX7_putBlock_4 hl (by decide) rfl (fun ls hl => ?_)
  refine lv_iload hx hb dX7_putBlock_6 (lv_at hl 0 rfl) ?_
  refine lv_if_ne (tgt := 33) hx hb dX7_putBlock_8 (by decide) (fun c_8 => absurd (by decide) c_8) (fun _ => ?_)
  refine lv_bipush (v := 16) hx hb dX7_putBlock_11 (by decide) ?_
  refine lv_aload_n hx hb dX7_putBlock_13 rfl (lv_at hl 1 rfl) ?_
  refine xget (C := RX7) (T := TX7) (N := 34) hF hX hP (by decide +kernel) 0 18 rfl rfl (by decide) (by decide +kernel) rfl dX7_putBlock_14 ?_
  refine lv_aload_n hx hb dX7_putBlock_17 rfl (lv_at hl 1 rfl) ?_
  refine xget (C := RX7) (T := TX7) (N := 34) hF hX hP (by decide +kernel) 0 1 rfl rfl (by decide) (by decide +kernel) rfl dX7_putBlock_18 ?_
  refine lv_irem hx hb dX7_putBlock_21 (nI_ne0 (by omega) (by omega)) ?_
  refine xrwi (z := nI (md % W)) (pk_rem (by omega) (by omega) (by omega)) ?_
  refine lv_imul hx hb dX7_putBlock_22 ?_
  refine lv_bipush (v := 8) hx hb dX7_putBlock_23 (by decide) ?_
  refine lv_iload_n hx hb dX7_putBlock_25 rfl (lv_at hl 2 rfl) ?_
  refine lv_iconst (v := 2) hx hb dX7_putBlock_26 (by decide) ?_
  refine lv_irem hx hb dX7_putBlock_27 (by decide) ?_
  refine xrwi (z := 1) (by decide) ?_
  refine lv_imul hx hb dX7_putBlock_28 ?_
  refine xrwi (z := 8) (by decide) ?_
  refine lv_iadd hx hb dX7_putBlock_29 ?_
  refine lv_goto (tgt := 45) hx hb dX7_putBlock_30 (by decide) ?_
  refine xrwi (z := nI (bL W md 1)) (by rw [show (16 : Int32) * nI (md % W) = nI (16 * (md % W)) from pk_mul 16 _, show nI (16 * (md % W)) + 8 = nI (16 * (md % W) + 8) from nI_add _ 8]; exact congrArg nI (show 16 * (md % W) + 8 = bL W md 1 by show _ = md % W * 16 + 8; omega)) ?_
  refine lv_istore (lv' := [(5, .int (nI (bL W md 1))), (4, .int 0), (0, .ref o), (1, .int 1), (2, .int 1), (3, .int 1)]) hx hb dX7_putBlock_45 hl (by decide) rfl (fun ls hl => ?_)
  refine lv_iload hx hb dX7_putBlock_47 (lv_at hl 1 rfl) ?_
  refine lv_if_ne (tgt := 74) hx hb dX7_putBlock_49 (by decide) (fun c_49 => absurd (by decide) c_49) (fun _ => ?_)
  refine lv_bipush (v := 16) hx hb dX7_putBlock_52 (by decide) ?_
  refine lv_aload_n hx hb dX7_putBlock_54 rfl (lv_at hl 2 rfl) ?_
  refine xget (C := RX7) (T := TX7) (N := 34) hF hX hP (by decide +kernel) 0 18 rfl rfl (by decide) (by decide +kernel) rfl dX7_putBlock_55 ?_
  refine lv_aload_n hx hb dX7_putBlock_58 rfl (lv_at hl 2 rfl) ?_
  refine xget (C := RX7) (T := TX7) (N := 34) hF hX hP (by decide +kernel) 0 1 rfl rfl (by decide) (by decide +kernel) rfl dX7_putBlock_59 ?_
  refine lv_idiv hx hb dX7_putBlock_62 (nI_ne0 (by omega) (by omega)) ?_
  refine xrwi (z := nI (md / W)) (pk_div (by omega) (by omega) (by omega)) ?_
  refine lv_imul hx hb dX7_putBlock_63 ?_
  refine lv_bipush (v := 8) hx hb dX7_putBlock_64 (by decide) ?_
  refine lv_iload_n hx hb dX7_putBlock_66 rfl (lv_at hl 3 rfl) ?_
  refine lv_iconst (v := 2) hx hb dX7_putBlock_67 (by decide) ?_
  refine lv_idiv hx hb dX7_putBlock_68 (by decide) ?_
  refine xrwi (z := 0) (by decide) ?_
  refine lv_imul hx hb dX7_putBlock_69 ?_
  refine xrwi (z := 0) (by decide) ?_
  refine lv_iadd hx hb dX7_putBlock_70 ?_
  refine lv_goto (tgt := 86) hx hb dX7_putBlock_71 (by decide) ?_
  refine xrwi (z := nI (bT W md 1)) (by rw [show (16 : Int32) * nI (md / W) = nI (16 * (md / W)) from pk_mul 16 _, show nI (16 * (md / W)) + 0 = nI (16 * (md / W) + 0) from nI_add _ 0]; exact congrArg nI (show 16 * (md / W) + 0 = bT W md 1 by show _ = md / W * 16 + 0; omega)) ?_
  refine lv_istore (lv' := [(6, .int (nI (bT W md 1))), (5, .int (nI (bL W md 1))), (4, .int 0), (0, .ref o), (1, .int 1), (2, .int 1), (3, .int 1)]) hx hb dX7_putBlock_86 hl (by decide) rfl (fun ls hl => ?_)
  refine lv_iconst (v := 0) hx hb dX7_putBlock_88 (by decide) ?_
  refine lv_istore (lv' := [(7, .int 0), (6, .int (nI (bT W md 1))), (5, .int (nI (bL W md 1))), (4, .int 0), (0, .ref o), (1, .int 1), (2, .int 1), (3, .int 1)]) hx hb dX7_putBlock_89 hl (by decide) rfl (fun ls hl => ?_)
  have loop_91 : ∀ (k91 : Nat) (y : Nat), 8 - y < k91 → y ≤ 8 → ∀ (Hp : Heap) (locs : List Loc) (ls : Array Slot), va_P D vwCl [(o, .inr (7, mdF th W H mt qu zz nw ol ne se ke nc ns is ik dc sc 3 md wh fa re ve ps 0 tl di lv bf bo bd co bt ma)), (nw, .inl (cs 0, 4608, .inl (mpB gw W md 1 (mlF W md 1 mf (fun x9 y9 => (((mft (lokP go 0) (wdt 0 W) (wdt 0 H) (nI x9) (nI y9) (mus wh (V 0) 0) (mus wh (V 1) 0)) + (mft (lokP gn 0) (wdt 0 W) (wdt 0 H) (nI x9) (nI y9) (mus wh (V 2) 0) (mus wh (V 3) 0)) + 1) >>> (1 &&& 31)))) (y * 8)))), (ol, .inl (cs 0, 4608, .inl go)), (ne, .inl (cs 0, 4608, .inl gn)), (ve, .inl (cs 0, 4, .inl V)), (ma, .inl (cs 0, 64, .inl mf))] Hp → va_D A [(o, .inr (7, mdF th W H mt qu zz nw ol ne se ke nc ns is ik dc sc 3 md wh fa re ve ps 0 tl di lv bf bo bd co bt ma)), (nw, .inl (cs 0, 4608, .inl (mpB gw W md 1 (mlF W md 1 mf (fun x9 y9 => (((mft (lokP go 0) (wdt 0 W) (wdt 0 H) (nI x9) (nI y9) (mus wh (V 0) 0) (mus wh (V 1) 0)) + (mft (lokP gn 0) (wdt 0 W) (wdt 0 H) (nI x9) (nI y9) (mus wh (V 2) 0) (mus wh (V 3) 0)) + 1) >>> (1 &&& 31)))) (y * 8)))), (ol, .inl (cs 0, 4608, .inl go)), (ne, .inl (cs 0, 4608, .inl gn)), (ve, .inl (cs 0, 4, .inl V)), (ma, .inl (cs 0, 64, .inl mf))] → va_S A s.heap Hp locs → lv_has ls 10 [(0, .ref o), (2, .int 1), (3, .int 1), (4, .int 0), (5, .int (nI (bL W md 1))), (6, .int (nI (bT W md 1))), (7, .int (nI y))] → xW p l e ({ frames := 4, cells := 0, slots := 0, locals := 104 } : Room) s m ([.ref o, .int 1, .int 1, .int 1] : List Value).toArray below meth c Hp locs 0 0 (MQ below (xE D A none [(o, .inr (7, mdF th W H mt qu zz nw ol ne se ke nc ns is ik dc sc 3 md wh fa re ve ps 0 tl di lv bf bo bd co bt ma)), (nw, .inl (cs 0, 4608, .inl (mpB gw W md 1 (mlF W md 1 mf (fun x9 y9 => (((mft (lokP go 0) (wdt 0 W) (wdt 0 H) (nI x9) (nI y9) (mus wh (V 0) 0) (mus wh (V 1) 0)) + (mft (lokP gn 0) (wdt 0 W) (wdt 0 H) (nI x9) (nI y9) (mus wh (V 2) 0) (mus wh (V 3) 0)) + 1) >>> (1 &&& 31)))) (64)))), (ol, .inl (cs 0, 4608, .inl go)), (ne, .inl (cs 0, 4608, .inl gn)), (ve, .inl (cs 0, 4, .inl V)), (ma, .inl (cs 0, 64, .inl mf))]) ([.ref o, .int 1, .int 1, .int 1] : List Value).toArray s 0 0 A) (F0 m 91 ls []) := by
    intro k91
    induction k91 with
    | zero => intro y h9; omega
    | succ k91 ih_91 =>
      intro y hk91 hy9 Hp locs ls hP hD hS hl
      refine lv_iload hx hb dX7_putBlock_91 (lv_at hl 6 rfl) ?_
      refine lv_bipush (v := 8) hx hb dX7_putBlock_93 (by decide) ?_
      refine lv_icmp_ge (tgt := 199) hx hb dX7_putBlock_95 (by decide) (fun c_95 => ?_) (fun c_95 => ?_)
      · have ey : y = 8 := by have := nIle (a := 8) (b := y) rfl rfl (by decide) (by omega) c_95; omega
        have hP := xeqP hP (congrArg (fun z9 => ([(o, .inr (7, mdF th W H mt qu zz nw ol ne se ke nc ns is ik dc sc 3 md wh fa re ve ps 0 tl di lv bf bo bd co bt ma)), (nw, .inl (cs 0, 4608, .inl z9)), (ol, .inl (cs 0, 4608, .inl go)), (ne, .inl (cs 0, 4608, .inl gn)), (ve, .inl (cs 0, 4, .inl V)), (ma, .inl (cs 0, 64, .inl mf))] : va_W)) (congrArg (mpB gw W md 1 (mlF W md 1 mf (fun x9 y9 => (((mft (lokP go 0) (wdt 0 W) (wdt 0 H) (nI x9) (nI y9) (mus wh (V 0) 0) (mus wh (V 1) 0)) + (mft (lokP gn 0) (wdt 0 W) (wdt 0 H) (nI x9) (nI y9) (mus wh (V 2) 0) (mus wh (V 3) 0)) + 1) >>> (1 &&& 31))))) (show y * 8 = 64 by omega)))
        have hD := xeqD hD (congrArg (fun z9 => ([(o, .inr (7, mdF th W H mt qu zz nw ol ne se ke nc ns is ik dc sc 3 md wh fa re ve ps 0 tl di lv bf bo bd co bt ma)), (nw, .inl (cs 0, 4608, .inl z9)), (ol, .inl (cs 0, 4608, .inl go)), (ne, .inl (cs 0, 4608, .inl gn)), (ve, .inl (cs 0, 4, .inl V)), (ma, .inl (cs 0, 64, .inl mf))] : va_W)) (congrArg (mpB gw W md 1 (mlF W md 1 mf (fun x9 y9 => (((mft (lokP go 0) (wdt 0 W) (wdt 0 H) (nI x9) (nI y9) (mus wh (V 0) 0) (mus wh (V 1) 0)) + (mft (lokP gn 0) (wdt 0 W) (wdt 0 H) (nI x9) (nI y9) (mus wh (V 2) 0) (mus wh (V 3) 0)) + 1) >>> (1 &&& 31))))) (show y * 8 = 64 by omega)))
        exact xrv hF hr hlk hP hD hS dX7_putBlock_199
      · have hyl : y < 8 := nInle (a := 8) (b := y) rfl rfl (by decide) (by omega) c_95
        refine lv_iconst (v := 0) hx hb dX7_putBlock_98 (by decide) ?_
        refine lv_istore (lv' := [(8, .int 0), (0, .ref o), (2, .int 1), (3, .int 1), (4, .int 0), (5, .int (nI (bL W md 1))), (6, .int (nI (bT W md 1))), (7, .int (nI y))]) hx hb dX7_putBlock_99 hl (by decide) rfl (fun ls hl => ?_)
        have loop_101 : ∀ (k101 : Nat) (x : Nat), 8 - x < k101 → x ≤ 8 → ∀ (Hp : Heap) (locs : List Loc) (ls : Array Slot), va_P D vwCl [(o, .inr (7, mdF th W H mt qu zz nw ol ne se ke nc ns is ik dc sc 3 md wh fa re ve ps 0 tl di lv bf bo bd co bt ma)), (nw, .inl (cs 0, 4608, .inl (mpB gw W md 1 (mlF W md 1 mf (fun x9 y9 => (((mft (lokP go 0) (wdt 0 W) (wdt 0 H) (nI x9) (nI y9) (mus wh (V 0) 0) (mus wh (V 1) 0)) + (mft (lokP gn 0) (wdt 0 W) (wdt 0 H) (nI x9) (nI y9) (mus wh (V 2) 0) (mus wh (V 3) 0)) + 1) >>> (1 &&& 31)))) (y * 8 + x)))), (ol, .inl (cs 0, 4608, .inl go)), (ne, .inl (cs 0, 4608, .inl gn)), (ve, .inl (cs 0, 4, .inl V)), (ma, .inl (cs 0, 64, .inl mf))] Hp → va_D A [(o, .inr (7, mdF th W H mt qu zz nw ol ne se ke nc ns is ik dc sc 3 md wh fa re ve ps 0 tl di lv bf bo bd co bt ma)), (nw, .inl (cs 0, 4608, .inl (mpB gw W md 1 (mlF W md 1 mf (fun x9 y9 => (((mft (lokP go 0) (wdt 0 W) (wdt 0 H) (nI x9) (nI y9) (mus wh (V 0) 0) (mus wh (V 1) 0)) + (mft (lokP gn 0) (wdt 0 W) (wdt 0 H) (nI x9) (nI y9) (mus wh (V 2) 0) (mus wh (V 3) 0)) + 1) >>> (1 &&& 31)))) (y * 8 + x)))), (ol, .inl (cs 0, 4608, .inl go)), (ne, .inl (cs 0, 4608, .inl gn)), (ve, .inl (cs 0, 4, .inl V)), (ma, .inl (cs 0, 64, .inl mf))] → va_S A s.heap Hp locs → lv_has ls 10 [(0, .ref o), (2, .int 1), (3, .int 1), (4, .int 0), (5, .int (nI (bL W md 1))), (6, .int (nI (bT W md 1))), (7, .int (nI y)), (8, .int (nI x))] → xW p l e ({ frames := 4, cells := 0, slots := 0, locals := 104 } : Room) s m ([.ref o, .int 1, .int 1, .int 1] : List Value).toArray below meth c Hp locs 0 0 (MQ below (xE D A none [(o, .inr (7, mdF th W H mt qu zz nw ol ne se ke nc ns is ik dc sc 3 md wh fa re ve ps 0 tl di lv bf bo bd co bt ma)), (nw, .inl (cs 0, 4608, .inl (mpB gw W md 1 (mlF W md 1 mf (fun x9 y9 => (((mft (lokP go 0) (wdt 0 W) (wdt 0 H) (nI x9) (nI y9) (mus wh (V 0) 0) (mus wh (V 1) 0)) + (mft (lokP gn 0) (wdt 0 W) (wdt 0 H) (nI x9) (nI y9) (mus wh (V 2) 0) (mus wh (V 3) 0)) + 1) >>> (1 &&& 31)))) (64)))), (ol, .inl (cs 0, 4608, .inl go)), (ne, .inl (cs 0, 4608, .inl gn)), (ve, .inl (cs 0, 4, .inl V)), (ma, .inl (cs 0, 64, .inl mf))]) ([.ref o, .int 1, .int 1, .int 1] : List Value).toArray s 0 0 A) (F0 m 101 ls []) := by
          intro k101
          induction k101 with
          | zero => intro x h9; omega
          | succ k101 ih_101 =>
            intro x hk101 hx9 Hp locs ls hP hD hS hl
            refine lv_iload hx hb dX7_putBlock_101 (lv_at hl 7 rfl) ?_
            refine lv_bipush (v := 8) hx hb dX7_putBlock_103 (by decide) ?_
            refine lv_icmp_ge (tgt := 193) hx hb dX7_putBlock_105 (by decide) (fun c_105 => ?_) (fun c_105 => ?_)
            · have ex : x = 8 := by have := nIle (a := 8) (b := x) rfl rfl (by decide) (by omega) c_105; omega
              have hP := xeqP hP (congrArg (fun z9 => ([(o, .inr (7, mdF th W H mt qu zz nw ol ne se ke nc ns is ik dc sc 3 md wh fa re ve ps 0 tl di lv bf bo bd co bt ma)), (nw, .inl (cs 0, 4608, .inl z9)), (ol, .inl (cs 0, 4608, .inl go)), (ne, .inl (cs 0, 4608, .inl gn)), (ve, .inl (cs 0, 4, .inl V)), (ma, .inl (cs 0, 64, .inl mf))] : va_W)) (congrArg (mpB gw W md 1 (mlF W md 1 mf (fun x9 y9 => (((mft (lokP go 0) (wdt 0 W) (wdt 0 H) (nI x9) (nI y9) (mus wh (V 0) 0) (mus wh (V 1) 0)) + (mft (lokP gn 0) (wdt 0 W) (wdt 0 H) (nI x9) (nI y9) (mus wh (V 2) 0) (mus wh (V 3) 0)) + 1) >>> (1 &&& 31))))) (show y * 8 + x = (y + 1) * 8 by omega)))
              have hD := xeqD hD (congrArg (fun z9 => ([(o, .inr (7, mdF th W H mt qu zz nw ol ne se ke nc ns is ik dc sc 3 md wh fa re ve ps 0 tl di lv bf bo bd co bt ma)), (nw, .inl (cs 0, 4608, .inl z9)), (ol, .inl (cs 0, 4608, .inl go)), (ne, .inl (cs 0, 4608, .inl gn)), (ve, .inl (cs 0, 4, .inl V)), (ma, .inl (cs 0, 64, .inl mf))] : va_W)) (congrArg (mpB gw W md 1 (mlF W md 1 mf (fun x9 y9 => (((mft (lokP go 0) (wdt 0 W) (wdt 0 H) (nI x9) (nI y9) (mus wh (V 0) 0) (mus wh (V 1) 0)) + (mft (lokP gn 0) (wdt 0 W) (wdt 0 H) (nI x9) (nI y9) (mus wh (V 2) 0) (mus wh (V 3) 0)) + 1) >>> (1 &&& 31))))) (show y * 8 + x = (y + 1) * 8 by omega)))
              refine lv_iinc (v := (nI (y + 1))) (lv' := [(7, .int (nI (y + 1))), (0, .ref o), (2, .int 1), (3, .int 1), (4, .int 0), (5, .int (nI (bL W md 1))), (6, .int (nI (bT W md 1))), (8, .int (nI x))]) hx hb dX7_putBlock_193 hl (k := 6) rfl (nI_1 y) (by decide) rfl (fun ls hl => ?_)
              refine lv_goto (tgt := 91) hx hb dX7_putBlock_196 (by decide) ?_
              exact ih_91 (y + 1) (by omega) (by omega) _ _ _ hP hD hS (lv_sub hl [1, 2, 3, 4, 5, 6, 0] rfl)
            · have hxl : x < 8 := nInle (a := 8) (b := x) rfl rfl (by decide) (by omega) c_105
              refine lv_aload_n hx hb dX7_putBlock_108 rfl (lv_at hl 0 rfl) ?_
              refine xget (C := RX7) (T := TX7) (N := 34) hF hX hP (by decide +kernel) 0 33 rfl rfl (by decide) (by decide +kernel) rfl dX7_putBlock_109 ?_
              refine lv_bipush (v := 8) hx hb dX7_putBlock_112 (by decide) ?_
              refine lv_iload hx hb dX7_putBlock_114 (lv_at hl 6 rfl) ?_
              refine lv_imul hx hb dX7_putBlock_116 ?_
              refine lv_iload hx hb dX7_putBlock_117 (lv_at hl 7 rfl) ?_
              refine lv_iadd hx hb dX7_putBlock_119 ?_
              refine xrwi (z := nI (y * 8 + x)) (k8 y x) ?_
              refine xald (k := y * 8 + x) hF hX hP 5 rfl (nI_clamp (by omega)) (vp_in_nI (by omega) (by decide)) dX7_putBlock_120 ?_
              refine lv_istore (lv' := [(9, .int (mf (y * 8 + x))), (0, .ref o), (2, .int 1), (3, .int 1), (4, .int 0), (5, .int (nI (bL W md 1))), (6, .int (nI (bT W md 1))), (7, .int (nI y)), (8, .int (nI x))]) hx hb dX7_putBlock_121 hl (by decide) rfl (fun ls hl => ?_)
              refine lv_aload_n hx hb dX7_putBlock_123 rfl (lv_at hl 1 rfl) ?_
              refine xget (C := RX7) (T := TX7) (N := 34) hF hX hP (by decide +kernel) 0 24 rfl rfl (by decide) (by decide +kernel) rfl dX7_putBlock_124 ?_
              refine lv_if_eq (tgt := 135) hx hb dX7_putBlock_127 (by decide) (fun _ => ?_) (fun c_127 => absurd (by decide) c_127)
              refine lv_iload hx hb dX7_putBlock_135 (lv_at hl 0 rfl) ?_
              refine lv_aload_n hx hb dX7_putBlock_137 rfl (lv_at hl 1 rfl) ?_
              refine lv_iload_n hx hb dX7_putBlock_138 rfl (lv_at hl 2 rfl) ?_
              refine lv_iload_n hx hb dX7_putBlock_139 rfl (lv_at hl 3 rfl) ?_
              refine lv_iload hx hb dX7_putBlock_140 (lv_at hl 4 rfl) ?_
              refine lv_iload hx hb dX7_putBlock_142 (lv_at hl 5 rfl) ?_
              refine lv_iload hx hb dX7_putBlock_144 (lv_at hl 8 rfl) ?_
              refine lv_iadd hx hb dX7_putBlock_146 ?_
              refine xrwi (z := nI ((bL W md 1) + x)) (nI_add _ _) ?_
              refine lv_iload hx hb dX7_putBlock_147 (lv_at hl 6 rfl) ?_
              refine lv_iload hx hb dX7_putBlock_149 (lv_at hl 7 rfl) ?_
              refine lv_iadd hx hb dX7_putBlock_151 ?_
              refine xrwi (z := nI ((bT W md 1) + y)) (nI_add _ _) ?_
              refine xV (rest := [.int (mf (y * 8 + x))]) (As := [.int 1, .int 1, .int 0, .int (nI ((bL W md 1) + x)), .int (nI ((bT W md 1) + y))]) (ws1 := [(o, .inr (7, mdF th W H mt qu zz nw ol ne se ke nc ns is ik dc sc 3 md wh fa re ve ps 0 tl di lv bf bo bd co bt ma)), (nw, .inl (cs 0, 4608, .inl (mpB gw W md 1 (mlF W md 1 mf (fun x9 y9 => (((mft (lokP go 0) (wdt 0 W) (wdt 0 H) (nI x9) (nI y9) (mus wh (V 0) 0) (mus wh (V 1) 0)) + (mft (lokP gn 0) (wdt 0 W) (wdt 0 H) (nI x9) (nI y9) (mus wh (V 2) 0) (mus wh (V 3) 0)) + 1) >>> (1 &&& 31)))) (y * 8 + x)))), (ol, .inl (cs 0, 4608, .inl go)), (ne, .inl (cs 0, 4608, .inl gn)), (ve, .inl (cs 0, 4, .inl V)), (ma, .inl (cs 0, 64, .inl mf))]) (st1 := [.int (((mft (lokP go 0) (wdt 0 W) (wdt 0 H) (nI ((bL W md 1) + x)) (nI ((bT W md 1) + y)) (mus wh (V 0) 0) (mus wh (V 1) 0)) + (mft (lokP gn 0) (wdt 0 W) (wdt 0 H) (nI ((bL W md 1) + x)) (nI ((bT W md 1) + y)) (mus wh (V 2) 0) (mus wh (V 3) 0)) + 1) >>> (1 &&& 31)), .int (mf (y * 8 + x))]) hF (c_X7_fetchedD l D cs tt o mt qu zz nw ol ne se ke re ve ps di lv bd co bt ma W H md th nc ns is ik dc sc wh fa 0 tl bf bo 0 (nI ((bL W md 1) + x)) (nI ((bT W md 1) + y)) go gn V (by decide) hw hw4 hh hh3) gX7_putBlock_X7_fetched rfl (n := 5) (by decide +kernel) rfl ⟨⟨rfl, rfl⟩, Nat.le_of_ble_eq_true rfl, Nat.le_of_ble_eq_true rfl⟩ ⟨Nat.le_of_ble_eq_true rfl, Nat.le_of_ble_eq_true rfl⟩ hX hP hD hS [0, 2, 3, 4] (by decide) rfl [o, ol, ne, ve] rfl rfl (q0 := 0) (ci := 7) rfl rfl rfl hl.1 rfl (Nat.le_of_ble_eq_true rfl) dX7_putBlock_152 rfl rfl (fun Hp locs hP hD hS => ?_)
              refine lv_iadd hx hb dX7_putBlock_155 ?_
              refine lv_istore (lv' := [(9, .int ((mf (y * 8 + x)) + (((mft (lokP go 0) (wdt 0 W) (wdt 0 H) (nI ((bL W md 1) + x)) (nI ((bT W md 1) + y)) (mus wh (V 0) 0) (mus wh (V 1) 0)) + (mft (lokP gn 0) (wdt 0 W) (wdt 0 H) (nI ((bL W md 1) + x)) (nI ((bT W md 1) + y)) (mus wh (V 2) 0) (mus wh (V 3) 0)) + 1) >>> (1 &&& 31)))), (0, .ref o), (2, .int 1), (3, .int 1), (4, .int 0), (5, .int (nI (bL W md 1))), (6, .int (nI (bT W md 1))), (7, .int (nI y)), (8, .int (nI x))]) hx hb dX7_putBlock_156 hl (by decide) rfl (fun ls hl => ?_)
              refine lv_aload_n hx hb dX7_putBlock_158 rfl (lv_at hl 1 rfl) ?_
              refine xget (C := RX7) (T := TX7) (N := 34) hF hX hP (by decide +kernel) 0 6 rfl rfl (by decide) (by decide +kernel) rfl dX7_putBlock_159 ?_
              refine lv_iload hx hb dX7_putBlock_162 (lv_at hl 4 rfl) ?_
              refine lv_iload hx hb dX7_putBlock_164 (lv_at hl 5 rfl) ?_
              refine lv_iload hx hb dX7_putBlock_166 (lv_at hl 8 rfl) ?_
              refine lv_iadd hx hb dX7_putBlock_168 ?_
              refine xrwi (z := nI ((bL W md 1) + x)) (nI_add _ _) ?_
              refine lv_iload hx hb dX7_putBlock_169 (lv_at hl 6 rfl) ?_
              refine lv_iload hx hb dX7_putBlock_171 (lv_at hl 7 rfl) ?_
              refine lv_iadd hx hb dX7_putBlock_173 ?_
              refine xrwi (z := nI ((bT W md 1) + y)) (nI_add _ _) ?_
              refine xSt (rest := [.ref nw]) (As := [.int 0, .int (nI ((bL W md 1) + x)), .int (nI ((bT W md 1) + y))]) (ws1 := [(o, .inr (7, mdF th W H mt qu zz nw ol ne se ke nc ns is ik dc sc 3 md wh fa re ve ps 0 tl di lv bf bo bd co bt ma)), (nw, .inl (cs 0, 4608, .inl (mpB gw W md 1 (mlF W md 1 mf (fun x9 y9 => (((mft (lokP go 0) (wdt 0 W) (wdt 0 H) (nI x9) (nI y9) (mus wh (V 0) 0) (mus wh (V 1) 0)) + (mft (lokP gn 0) (wdt 0 W) (wdt 0 H) (nI x9) (nI y9) (mus wh (V 2) 0) (mus wh (V 3) 0)) + 1) >>> (1 &&& 31)))) (y * 8 + x)))), (ol, .inl (cs 0, 4608, .inl go)), (ne, .inl (cs 0, 4608, .inl gn)), (ve, .inl (cs 0, 4, .inl V)), (ma, .inl (cs 0, 64, .inl mf))]) (st1 := [.int (nI (plc 0 ((bL W md 1) + x) ((bT W md 1) + y))), .ref nw]) hF (c_X7_place l D cs tt 0 ((bL W md 1) + x) ((bT W md 1) + y) (by decide)) gX7_putBlock_X7_place rfl (n := 3) (by decide +kernel) rfl ⟨⟨rfl, rfl⟩, Nat.le_of_ble_eq_true rfl, Nat.le_of_ble_eq_true rfl⟩ ⟨Nat.le_of_ble_eq_true rfl, Nat.le_of_ble_eq_true rfl⟩ hX hP hD hS [] (by decide) rfl [] rfl rfl hl.1 rfl (Nat.le_of_ble_eq_true rfl) dX7_putBlock_174 rfl rfl (fun Hp locs hP hD hS => ?_)
              refine xrwi (z := nI (0 + (((bT W md 1) + y) * 64 + ((bL W md 1) + x)))) (by unfold plc; rw [if_pos rfl]; exact congrArg nI (by omega)) ?_
              refine lv_iload hx hb dX7_putBlock_177 (lv_at hl 0 rfl) ?_
              refine lv_iconst (v := 0) hx hb dX7_putBlock_179 (by decide) ?_
              refine lv_sipush (v := 255) hx hb dX7_putBlock_180 (by decide) ?_
              refine xSt (rest := [.int (nI (0 + (((bT W md 1) + y) * 64 + ((bL W md 1) + x)))), .ref nw]) (As := [.int ((mf (y * 8 + x)) + (((mft (lokP go 0) (wdt 0 W) (wdt 0 H) (nI ((bL W md 1) + x)) (nI ((bT W md 1) + y)) (mus wh (V 0) 0) (mus wh (V 1) 0)) + (mft (lokP gn 0) (wdt 0 W) (wdt 0 H) (nI ((bL W md 1) + x)) (nI ((bT W md 1) + y)) (mus wh (V 2) 0) (mus wh (V 3) 0)) + 1) >>> (1 &&& 31))), .int 0, .int 255]) (ws1 := [(o, .inr (7, mdF th W H mt qu zz nw ol ne se ke nc ns is ik dc sc 3 md wh fa re ve ps 0 tl di lv bf bo bd co bt ma)), (nw, .inl (cs 0, 4608, .inl (mpB gw W md 1 (mlF W md 1 mf (fun x9 y9 => (((mft (lokP go 0) (wdt 0 W) (wdt 0 H) (nI x9) (nI y9) (mus wh (V 0) 0) (mus wh (V 1) 0)) + (mft (lokP gn 0) (wdt 0 W) (wdt 0 H) (nI x9) (nI y9) (mus wh (V 2) 0) (mus wh (V 3) 0)) + 1) >>> (1 &&& 31)))) (y * 8 + x)))), (ol, .inl (cs 0, 4608, .inl go)), (ne, .inl (cs 0, 4608, .inl gn)), (ve, .inl (cs 0, 4, .inl V)), (ma, .inl (cs 0, 64, .inl mf))]) (st1 := [.int (bnd ((mf (y * 8 + x)) + (((mft (lokP go 0) (wdt 0 W) (wdt 0 H) (nI ((bL W md 1) + x)) (nI ((bT W md 1) + y)) (mus wh (V 0) 0) (mus wh (V 1) 0)) + (mft (lokP gn 0) (wdt 0 W) (wdt 0 H) (nI ((bL W md 1) + x)) (nI ((bT W md 1) + y)) (mus wh (V 2) 0) (mus wh (V 3) 0)) + 1) >>> (1 &&& 31))) 0 255), .int (nI (0 + (((bT W md 1) + y) * 64 + ((bL W md 1) + x)))), .ref nw]) hF (c_X7_within l D cs tt ((mf (y * 8 + x)) + (((mft (lokP go 0) (wdt 0 W) (wdt 0 H) (nI ((bL W md 1) + x)) (nI ((bT W md 1) + y)) (mus wh (V 0) 0) (mus wh (V 1) 0)) + (mft (lokP gn 0) (wdt 0 W) (wdt 0 H) (nI ((bL W md 1) + x)) (nI ((bT W md 1) + y)) (mus wh (V 2) 0) (mus wh (V 3) 0)) + 1) >>> (1 &&& 31))) 0 255) gX7_putBlock_X7_within rfl (n := 3) (by decide +kernel) rfl ⟨⟨rfl, rfl⟩, Nat.le_of_ble_eq_true rfl, Nat.le_of_ble_eq_true rfl⟩ ⟨Nat.le_of_ble_eq_true rfl, Nat.le_of_ble_eq_true rfl⟩ hX hP hD hS [] (by decide) rfl [] rfl rfl hl.1 rfl (Nat.le_of_ble_eq_true rfl) dX7_putBlock_183 rfl rfl (fun Hp locs hP hD hS => ?_)
              refine xast (k := 0 + (((bT W md 1) + y) * 64 + ((bL W md 1) + x))) (ws1 := [(o, .inr (7, mdF th W H mt qu zz nw ol ne se ke nc ns is ik dc sc 3 md wh fa re ve ps 0 tl di lv bf bo bd co bt ma)), (nw, .inl (cs 0, 4608, .inl (mpB gw W md 1 (mlF W md 1 mf (fun x9 y9 => (((mft (lokP go 0) (wdt 0 W) (wdt 0 H) (nI x9) (nI y9) (mus wh (V 0) 0) (mus wh (V 1) 0)) + (mft (lokP gn 0) (wdt 0 W) (wdt 0 H) (nI x9) (nI y9) (mus wh (V 2) 0) (mus wh (V 3) 0)) + 1) >>> (1 &&& 31)))) (y * 8 + (x + 1))))), (ol, .inl (cs 0, 4608, .inl go)), (ne, .inl (cs 0, 4608, .inl gn)), (ve, .inl (cs 0, 4, .inl V)), (ma, .inl (cs 0, 64, .inl mf))]) hF hX hP hD hS 1 rfl (nI_clamp (by omega)) (vp_in_nI (by omega) (by decide)) dX7_putBlock_186 (congrArg (fun z9 => ([(o, .inr (7, mdF th W H mt qu zz nw ol ne se ke nc ns is ik dc sc 3 md wh fa re ve ps 0 tl di lv bf bo bd co bt ma)), (nw, .inl (cs 0, 4608, .inl z9)), (ol, .inl (cs 0, 4608, .inl go)), (ne, .inl (cs 0, 4608, .inl gn)), (ve, .inl (cs 0, 4, .inl V)), (ma, .inl (cs 0, 64, .inl mf))] : va_W)) (pbs gw (mlF W md 1 mf (fun x9 y9 => (((mft (lokP go 0) (wdt 0 W) (wdt 0 H) (nI x9) (nI y9) (mus wh (V 0) 0) (mus wh (V 1) 0)) + (mft (lokP gn 0) (wdt 0 W) (wdt 0 H) (nI x9) (nI y9) (mus wh (V 2) 0) (mus wh (V 3) 0)) + 1) >>> (1 &&& 31)))) (by unfold mlF; rw [show ((bT W md 1) + y - (bT W md 1)) * 8 + ((bL W md 1) + x - (bL W md 1)) = y * 8 + x by omega]) hxl (show (bL W md 1) + 8 ≤ 64 by omega))) (fun Hp locs hP hD hS => ?_)
              refine lv_iinc (v := (nI (x + 1))) (lv' := [(8, .int (nI (x + 1))), (9, .int ((mf (y * 8 + x)) + (((mft (lokP go 0) (wdt 0 W) (wdt 0 H) (nI ((bL W md 1) + x)) (nI ((bT W md 1) + y)) (mus wh (V 0) 0) (mus wh (V 1) 0)) + (mft (lokP gn 0) (wdt 0 W) (wdt 0 H) (nI ((bL W md 1) + x)) (nI ((bT W md 1) + y)) (mus wh (V 2) 0) (mus wh (V 3) 0)) + 1) >>> (1 &&& 31)))), (0, .ref o), (2, .int 1), (3, .int 1), (4, .int 0), (5, .int (nI (bL W md 1))), (6, .int (nI (bT W md 1))), (7, .int (nI y))]) hx hb dX7_putBlock_187 hl (k := 8) rfl (nI_1 x) (by decide) rfl (fun ls hl => ?_)
              refine lv_goto (tgt := 101) hx hb dX7_putBlock_190 (by decide) ?_
              exact ih_101 (x + 1) (by omega) (by omega) _ _ _ hP hD hS (lv_sub hl [2, 3, 4, 5, 6, 7, 8, 0] rfl)
        exact loop_101 (8 - 0 + 1) 0 (Nat.lt_succ_self _) (by decide) _ _ _ hP hD hS (lv_sub hl [1, 2, 3, 4, 5, 6, 7, 0] rfl)
  have hP := xeqP hP (congrArg (fun z9 => ([(o, .inr (7, mdF th W H mt qu zz nw ol ne se ke nc ns is ik dc sc 3 md wh fa re ve ps 0 tl di lv bf bo bd co bt ma)), (nw, .inl (cs 0, 4608, .inl z9)), (ol, .inl (cs 0, 4608, .inl go)), (ne, .inl (cs 0, 4608, .inl gn)), (ve, .inl (cs 0, 4, .inl V)), (ma, .inl (cs 0, 64, .inl mf))] : va_W)) ((show gw = mpB gw W md 1 (mlF W md 1 mf (fun x9 y9 => (((mft (lokP go 0) (wdt 0 W) (wdt 0 H) (nI x9) (nI y9) (mus wh (V 0) 0) (mus wh (V 1) 0)) + (mft (lokP gn 0) (wdt 0 W) (wdt 0 H) (nI x9) (nI y9) (mus wh (V 2) 0) (mus wh (V 3) 0)) + 1) >>> (1 &&& 31)))) (0 * 8) from (blkTo_0 gw _ _ _ _ 8 (mlF W md 1 mf (fun x9 y9 => (((mft (lokP go 0) (wdt 0 W) (wdt 0 H) (nI x9) (nI y9) (mus wh (V 0) 0) (mus wh (V 1) 0)) + (mft (lokP gn 0) (wdt 0 W) (wdt 0 H) (nI x9) (nI y9) (mus wh (V 2) 0) (mus wh (V 3) 0)) + 1) >>> (1 &&& 31))))).symm)))
  have hD := xeqD hD (congrArg (fun z9 => ([(o, .inr (7, mdF th W H mt qu zz nw ol ne se ke nc ns is ik dc sc 3 md wh fa re ve ps 0 tl di lv bf bo bd co bt ma)), (nw, .inl (cs 0, 4608, .inl z9)), (ol, .inl (cs 0, 4608, .inl go)), (ne, .inl (cs 0, 4608, .inl gn)), (ve, .inl (cs 0, 4, .inl V)), (ma, .inl (cs 0, 64, .inl mf))] : va_W)) ((show gw = mpB gw W md 1 (mlF W md 1 mf (fun x9 y9 => (((mft (lokP go 0) (wdt 0 W) (wdt 0 H) (nI x9) (nI y9) (mus wh (V 0) 0) (mus wh (V 1) 0)) + (mft (lokP gn 0) (wdt 0 W) (wdt 0 H) (nI x9) (nI y9) (mus wh (V 2) 0) (mus wh (V 3) 0)) + 1) >>> (1 &&& 31)))) (0 * 8) from (blkTo_0 gw _ _ _ _ 8 (mlF W md 1 mf (fun x9 y9 => (((mft (lokP go 0) (wdt 0 W) (wdt 0 H) (nI x9) (nI y9) (mus wh (V 0) 0) (mus wh (V 1) 0)) + (mft (lokP gn 0) (wdt 0 W) (wdt 0 H) (nI x9) (nI y9) (mus wh (V 2) 0) (mus wh (V 3) 0)) + 1) >>> (1 &&& 31))))).symm)))
  exact loop_91 (8 - 0 + 1) 0 (Nat.lt_succ_self _) (by decide) _ _ _ hP hD hS (lv_sub hl [4, 6, 7, 3, 2, 1, 0] rfl)

set_option maxHeartbeats 4000000 in
set_option maxRecDepth 100000 in
theorem c_X7_putBlock2O (l : Launch) (D : va_G) (cs : Nat → ClassId) (tt : Nat → Nat) (o mt qu zz nw ol ne se ke re ve ps di lv bd co bt ma W H md : Nat) (th nc ns is ik dc sc kd wh fa tl bf bo : Int32) (fw bw : Int32) (gw mf : Nat → Int32) (hw : 1 ≤ W) (hw4 : W ≤ 4) (hh : 1 ≤ H) (hh3 : H ≤ 3) (hmd : md < W * H) : xM l yX7_putBlock wsX7_putBlock ({ frames := 4, cells := 0, slots := 0, locals := 104 } : Room) D cs tt [.ref o, .int 2, .int fw, .int bw] [(o, .inr (7, mdF th W H mt qu zz nw ol ne se ke nc ns is ik dc sc kd md wh fa re ve ps 1 tl di lv bf bo bd co bt ma)), (nw, .inl (cs 0, 4608, .inl gw)), (ma, .inl (cs 0, 64, .inl mf))] none [(o, .inr (7, mdF th W H mt qu zz nw ol ne se ke nc ns is ik dc sc kd md wh fa re ve ps 1 tl di lv bf bo bd co bt ma)), (nw, .inl (cs 0, 4608, .inl (mpB gw W md 2 (mlO W md 2 mf) (64)))), (ma, .inl (cs 0, 64, .inl mf))] := by
  refine xM.of RX7 rfl (by decide) rfl (Nat.le_of_ble_eq_true rfl) ?_
  intro p e s m below meth c A ls hF hr hlk hX hP hD hS hl
  have hx := hF.1
  have hb := hF.2.1
  have hl : lv_has ls 10 [(0, .ref o), (1, .int 2), (2, .int fw), (3, .int bw)] := hl
  have hm4 : md < 4096 := Nat.lt_of_lt_of_le hmd (Nat.le_trans (Nat.mul_le_mul hw4 hh3) (by decide))
  have hb9 := b_in hw hmd 2 (by decide)
  have hbl : (bL W md 2) + 8 ≤ 16 * W := hb9.1
  have hbt : (bT W md 2) + 8 ≤ 16 * H := hb9.2
  have hsL : bL W md 2 = bL W md 2 := rfl
  refine lv_iload_n hx hb dX7_putBlock_0 rfl (lv_at hl 1 rfl) ?_
  refine xSt (rest := []) (As := [.int 2]) (ws1 := [(o, .inr (7, mdF th W H mt qu zz nw ol ne se ke nc ns is ik dc sc kd md wh fa re ve ps 1 tl di lv bf bo bd co bt ma)), (nw, .inl (cs 0, 4608, .inl gw)), (ma, .inl (cs 0, 64, .inl mf))]) (st1 := [.int (pln 2)]) hF (c_X7_planeOf l D cs tt 2) gX7_putBlock_X7_planeOf rfl (n := 1) (by decide +kernel) rfl ⟨⟨rfl, rfl⟩, Nat.le_of_ble_eq_true rfl, Nat.le_of_ble_eq_true rfl⟩ ⟨Nat.le_of_ble_eq_true rfl, Nat.le_of_ble_eq_true rfl⟩ hX hP hD hS [] (by decide) rfl [] rfl rfl hl.1 rfl (Nat.le_of_ble_eq_true rfl) dX7_putBlock_1 rfl rfl (fun Hp locs hP hD hS => ?_)
  refine xrwi (z := 0) (by decide) ?_
  refine lv_istore (lv' := [(4, .int 0), (0, .ref o), (1, .int 2), (2, .int fw), (3, .int bw)]) hx hb dX7_putBlock_4 hl (by decide) rfl (fun ls hl => ?_)
  refine lv_iload hx hb dX7_putBlock_6 (lv_at hl 0 rfl) ?_
  refine lv_if_ne (tgt := 33) hx hb dX7_putBlock_8 (by decide) (fun c_8 => absurd (by decide) c_8) (fun _ => ?_)
  refine lv_bipush (v := 16) hx hb dX7_putBlock_11 (by decide) ?_
  refine lv_aload_n hx hb dX7_putBlock_13 rfl (lv_at hl 1 rfl) ?_
  refine xget (C := RX7) (T := TX7) (N := 34) hF hX hP (by decide +kernel) 0 18 rfl rfl (by decide) (by decide +kernel) rfl dX7_putBlock_14 ?_
  refine lv_aload_n hx hb dX7_putBlock_17 rfl (lv_at hl 1 rfl) ?_
  refine xget (C := RX7) (T := TX7) (N := 34) hF hX hP (by decide +kernel) 0 1 rfl rfl (by decide) (by decide +kernel) rfl dX7_putBlock_18 ?_
  refine lv_irem hx hb dX7_putBlock_21 (nI_ne0 (by omega) (by omega)) ?_
  refine xrwi (z := nI (md % W)) (pk_rem (by omega) (by omega) (by omega)) ?_
  refine lv_imul hx hb dX7_putBlock_22 ?_
  refine lv_bipush (v := 8) hx hb dX7_putBlock_23 (by decide) ?_
  refine lv_iload_n hx hb dX7_putBlock_25 rfl (lv_at hl 2 rfl) ?_
  refine lv_iconst (v := 2) hx hb dX7_putBlock_26 (by decide) ?_
  refine lv_irem hx hb dX7_putBlock_27 (by decide) ?_
  refine xrwi (z := 0) (by decide) ?_
  refine lv_imul hx hb dX7_putBlock_28 ?_
  refine xrwi (z := 0) (by decide) ?_
  refine lv_iadd hx hb dX7_putBlock_29 ?_
  refine lv_goto (tgt := 45) hx hb dX7_putBlock_30 (by decide) ?_
  refine xrwi (z := nI (bL W md 2)) (by rw [show (16 : Int32) * nI (md % W) = nI (16 * (md % W)) from pk_mul 16 _, show nI (16 * (md % W)) + 0 = nI (16 * (md % W) + 0) from nI_add _ 0]; exact congrArg nI (show 16 * (md % W) + 0 = bL W md 2 by show _ = md % W * 16 + 0; omega)) ?_
  refine lv_istore (lv' := [(5, .int (nI (bL W md 2))), (4, .int 0), (0, .ref o), (1, .int 2), (2, .int fw), (3, .int bw)]) hx hb dX7_putBlock_45 hl (by decide) rfl (fun ls hl => ?_)
  refine lv_iload hx hb dX7_putBlock_47 (lv_at hl 1 rfl) ?_
  refine lv_if_ne (tgt := 74) hx hb dX7_putBlock_49 (by decide) (fun c_49 => absurd (by decide) c_49) (fun _ => ?_)
  refine lv_bipush (v := 16) hx hb dX7_putBlock_52 (by decide) ?_
  refine lv_aload_n hx hb dX7_putBlock_54 rfl (lv_at hl 2 rfl) ?_
  refine xget (C := RX7) (T := TX7) (N := 34) hF hX hP (by decide +kernel) 0 18 rfl rfl (by decide) (by decide +kernel) rfl dX7_putBlock_55 ?_
  refine lv_aload_n hx hb dX7_putBlock_58 rfl (lv_at hl 2 rfl) ?_
  refine xget (C := RX7) (T := TX7) (N := 34) hF hX hP (by decide +kernel) 0 1 rfl rfl (by decide) (by decide +kernel) rfl dX7_putBlock_59 ?_
  refine lv_idiv hx hb dX7_putBlock_62 (nI_ne0 (by omega) (by omega)) ?_
  refine xrwi (z := nI (md / W)) (pk_div (by omega) (by omega) (by omega)) ?_
  refine lv_imul hx hb dX7_putBlock_63 ?_
  refine lv_bipush (v := 8) hx hb dX7_putBlock_64 (by decide) ?_
  refine lv_iload_n hx hb dX7_putBlock_66 rfl (lv_at hl 3 rfl) ?_
  refine lv_iconst (v := 2) hx hb dX7_putBlock_67 (by decide) ?_
  refine lv_idiv hx hb dX7_putBlock_68 (by decide) ?_
  refine xrwi (z := 1) (by decide) ?_
  refine lv_imul hx hb dX7_putBlock_69 ?_
  refine xrwi (z := 8) (by decide) ?_
  refine lv_iadd hx hb dX7_putBlock_70 ?_
  refine lv_goto (tgt := 86) hx hb dX7_putBlock_71 (by decide) ?_
  refine xrwi (z := nI (bT W md 2)) (by rw [show (16 : Int32) * nI (md / W) = nI (16 * (md / W)) from pk_mul 16 _, show nI (16 * (md / W)) + 8 = nI (16 * (md / W) + 8) from nI_add _ 8]; exact congrArg nI (show 16 * (md / W) + 8 = bT W md 2 by show _ = md / W * 16 + 8; omega)) ?_
  refine lv_istore (lv' := [(6, .int (nI (bT W md 2))), (5, .int (nI (bL W md 2))), (4, .int 0), (0, .ref o), (1, .int 2), (2, .int fw), (3, .int bw)]) hx hb dX7_putBlock_86 hl (by decide) rfl (fun ls hl => ?_)
  refine lv_iconst (v := 0) hx hb dX7_putBlock_88 (by decide) ?_
  refine lv_istore (lv' := [(7, .int 0), (6, .int (nI (bT W md 2))), (5, .int (nI (bL W md 2))), (4, .int 0), (0, .ref o), (1, .int 2), (2, .int fw), (3, .int bw)]) hx hb dX7_putBlock_89 hl (by decide) rfl (fun ls hl => ?_)
  have loop_91 : ∀ (k91 : Nat) (y : Nat), 8 - y < k91 → y ≤ 8 → ∀ (Hp : Heap) (locs : List Loc) (ls : Array Slot), va_P D vwCl [(o, .inr (7, mdF th W H mt qu zz nw ol ne se ke nc ns is ik dc sc kd md wh fa re ve ps 1 tl di lv bf bo bd co bt ma)), (nw, .inl (cs 0, 4608, .inl (mpB gw W md 2 (mlO W md 2 mf) (y * 8)))), (ma, .inl (cs 0, 64, .inl mf))] Hp → va_D A [(o, .inr (7, mdF th W H mt qu zz nw ol ne se ke nc ns is ik dc sc kd md wh fa re ve ps 1 tl di lv bf bo bd co bt ma)), (nw, .inl (cs 0, 4608, .inl (mpB gw W md 2 (mlO W md 2 mf) (y * 8)))), (ma, .inl (cs 0, 64, .inl mf))] → va_S A s.heap Hp locs → lv_has ls 10 [(0, .ref o), (2, .int fw), (3, .int bw), (4, .int 0), (5, .int (nI (bL W md 2))), (6, .int (nI (bT W md 2))), (7, .int (nI y))] → xW p l e ({ frames := 4, cells := 0, slots := 0, locals := 104 } : Room) s m ([.ref o, .int 2, .int fw, .int bw] : List Value).toArray below meth c Hp locs 0 0 (MQ below (xE D A none [(o, .inr (7, mdF th W H mt qu zz nw ol ne se ke nc ns is ik dc sc kd md wh fa re ve ps 1 tl di lv bf bo bd co bt ma)), (nw, .inl (cs 0, 4608, .inl (mpB gw W md 2 (mlO W md 2 mf) (64)))), (ma, .inl (cs 0, 64, .inl mf))]) ([.ref o, .int 2, .int fw, .int bw] : List Value).toArray s 0 0 A) (F0 m 91 ls []) := by
    intro k91
    induction k91 with
    | zero => intro y h9; omega
    | succ k91 ih_91 =>
      intro y hk91 hy9 Hp locs ls hP hD hS hl
      refine lv_iload hx hb dX7_putBlock_91 (lv_at hl 6 rfl) ?_
      refine lv_bipush (v := 8) hx hb dX7_putBlock_93 (by decide) ?_
      refine lv_icmp_ge (tgt := 199) hx hb dX7_putBlock_95 (by decide) (fun c_95 => ?_) (fun c_95 => ?_)
      · have ey : y = 8 := by have := nIle (a := 8) (b := y) rfl rfl (by decide) (by omega) c_95; omega
        have hP := xeqP hP (congrArg (fun z9 => ([(o, .inr (7, mdF th W H mt qu zz nw ol ne se ke nc ns is ik dc sc kd md wh fa re ve ps 1 tl di lv bf bo bd co bt ma)), (nw, .inl (cs 0, 4608, .inl z9)), (ma, .inl (cs 0, 64, .inl mf))] : va_W)) (congrArg (mpB gw W md 2 (mlO W md 2 mf)) (show y * 8 = 64 by omega)))
        have hD := xeqD hD (congrArg (fun z9 => ([(o, .inr (7, mdF th W H mt qu zz nw ol ne se ke nc ns is ik dc sc kd md wh fa re ve ps 1 tl di lv bf bo bd co bt ma)), (nw, .inl (cs 0, 4608, .inl z9)), (ma, .inl (cs 0, 64, .inl mf))] : va_W)) (congrArg (mpB gw W md 2 (mlO W md 2 mf)) (show y * 8 = 64 by omega)))
        exact xrv hF hr hlk hP hD hS dX7_putBlock_199
      · have hyl : y < 8 := nInle (a := 8) (b := y) rfl rfl (by decide) (by omega) c_95
        refine lv_iconst (v := 0) hx hb dX7_putBlock_98 (by decide) ?_
        refine lv_istore (lv' := [(8, .int 0), (0, .ref o), (2, .int fw), (3, .int bw), (4, .int 0), (5, .int (nI (bL W md 2))), (6, .int (nI (bT W md 2))), (7, .int (nI y))]) hx hb dX7_putBlock_99 hl (by decide) rfl (fun ls hl => ?_)
        have loop_101 : ∀ (k101 : Nat) (x : Nat), 8 - x < k101 → x ≤ 8 → ∀ (Hp : Heap) (locs : List Loc) (ls : Array Slot), va_P D vwCl [(o, .inr (7, mdF th W H mt qu zz nw ol ne se ke nc ns is ik dc sc kd md wh fa re ve ps 1 tl di lv bf bo bd co bt ma)), (nw, .inl (cs 0, 4608, .inl (mpB gw W md 2 (mlO W md 2 mf) (y * 8 + x)))), (ma, .inl (cs 0, 64, .inl mf))] Hp → va_D A [(o, .inr (7, mdF th W H mt qu zz nw ol ne se ke nc ns is ik dc sc kd md wh fa re ve ps 1 tl di lv bf bo bd co bt ma)), (nw, .inl (cs 0, 4608, .inl (mpB gw W md 2 (mlO W md 2 mf) (y * 8 + x)))), (ma, .inl (cs 0, 64, .inl mf))] → va_S A s.heap Hp locs → lv_has ls 10 [(0, .ref o), (2, .int fw), (3, .int bw), (4, .int 0), (5, .int (nI (bL W md 2))), (6, .int (nI (bT W md 2))), (7, .int (nI y)), (8, .int (nI x))] → xW p l e ({ frames := 4, cells := 0, slots := 0, locals := 104 } : Room) s m ([.ref o, .int 2, .int fw, .int bw] : List Value).toArray below meth c Hp locs 0 0 (MQ below (xE D A none [(o, .inr (7, mdF th W H mt qu zz nw ol ne se ke nc ns is ik dc sc kd md wh fa re ve ps 1 tl di lv bf bo bd co bt ma)), (nw, .inl (cs 0, 4608, .inl (mpB gw W md 2 (mlO W md 2 mf) (64)))), (ma, .inl (cs 0, 64, .inl mf))]) ([.ref o, .int 2, .int fw, .int bw] : List Value).toArray s 0 0 A) (F0 m 101 ls []) := by
          intro k101
          induction k101 with
          | zero => intro x h9; omega
          | succ k101 ih_101 =>
            intro x hk101 hx9 Hp locs ls hP hD hS hl
            refine lv_iload hx hb dX7_putBlock_101 (lv_at hl 7 rfl) ?_
            refine lv_bipush (v := 8) hx hb dX7_putBlock_103 (by decide) ?_
            refine lv_icmp_ge (tgt := 193) hx hb dX7_putBlock_105 (by decide) (fun c_105 => ?_) (fun c_105 => ?_)
            · have ex : x = 8 := by have := nIle (a := 8) (b := x) rfl rfl (by decide) (by omega) c_105; omega
              have hP := xeqP hP (congrArg (fun z9 => ([(o, .inr (7, mdF th W H mt qu zz nw ol ne se ke nc ns is ik dc sc kd md wh fa re ve ps 1 tl di lv bf bo bd co bt ma)), (nw, .inl (cs 0, 4608, .inl z9)), (ma, .inl (cs 0, 64, .inl mf))] : va_W)) (congrArg (mpB gw W md 2 (mlO W md 2 mf)) (show y * 8 + x = (y + 1) * 8 by omega)))
              have hD := xeqD hD (congrArg (fun z9 => ([(o, .inr (7, mdF th W H mt qu zz nw ol ne se ke nc ns is ik dc sc kd md wh fa re ve ps 1 tl di lv bf bo bd co bt ma)), (nw, .inl (cs 0, 4608, .inl z9)), (ma, .inl (cs 0, 64, .inl mf))] : va_W)) (congrArg (mpB gw W md 2 (mlO W md 2 mf)) (show y * 8 + x = (y + 1) * 8 by omega)))
              refine lv_iinc (v := (nI (y + 1))) (lv' := [(7, .int (nI (y + 1))), (0, .ref o), (2, .int fw), (3, .int bw), (4, .int 0), (5, .int (nI (bL W md 2))), (6, .int (nI (bT W md 2))), (8, .int (nI x))]) hx hb dX7_putBlock_193 hl (k := 6) rfl (nI_1 y) (by decide) rfl (fun ls hl => ?_)
              refine lv_goto (tgt := 91) hx hb dX7_putBlock_196 (by decide) ?_
              exact ih_91 (y + 1) (by omega) (by omega) _ _ _ hP hD hS (lv_sub hl [1, 2, 3, 4, 5, 6, 0] rfl)
            · have hxl : x < 8 := nInle (a := 8) (b := x) rfl rfl (by decide) (by omega) c_105
              refine lv_aload_n hx hb dX7_putBlock_108 rfl (lv_at hl 0 rfl) ?_
              refine xget (C := RX7) (T := TX7) (N := 34) hF hX hP (by decide +kernel) 0 33 rfl rfl (by decide) (by decide +kernel) rfl dX7_putBlock_109 ?_
              refine lv_bipush (v := 8) hx hb dX7_putBlock_112 (by decide) ?_
              refine lv_iload hx hb dX7_putBlock_114 (lv_at hl 6 rfl) ?_
              refine lv_imul hx hb dX7_putBlock_116 ?_
              refine lv_iload hx hb dX7_putBlock_117 (lv_at hl 7 rfl) ?_
              refine lv_iadd hx hb dX7_putBlock_119 ?_
              refine xrwi (z := nI (y * 8 + x)) (k8 y x) ?_
              refine xald (k := y * 8 + x) hF hX hP 2 rfl (nI_clamp (by omega)) (vp_in_nI (by omega) (by decide)) dX7_putBlock_120 ?_
              refine lv_istore (lv' := [(9, .int (mf (y * 8 + x))), (0, .ref o), (2, .int fw), (3, .int bw), (4, .int 0), (5, .int (nI (bL W md 2))), (6, .int (nI (bT W md 2))), (7, .int (nI y)), (8, .int (nI x))]) hx hb dX7_putBlock_121 hl (by decide) rfl (fun ls hl => ?_)
              refine lv_aload_n hx hb dX7_putBlock_123 rfl (lv_at hl 1 rfl) ?_
              refine xget (C := RX7) (T := TX7) (N := 34) hF hX hP (by decide +kernel) 0 24 rfl rfl (by decide) (by decide +kernel) rfl dX7_putBlock_124 ?_
              refine lv_if_eq (tgt := 135) hx hb dX7_putBlock_127 (by decide) (fun c_127 => absurd c_127 (by decide)) (fun _ => ?_)
              refine lv_iload hx hb dX7_putBlock_130 (lv_at hl 0 rfl) ?_
              refine lv_goto (tgt := 156) hx hb dX7_putBlock_132 (by decide) ?_
              refine lv_istore (lv' := [(9, .int (mf (y * 8 + x))), (0, .ref o), (2, .int fw), (3, .int bw), (4, .int 0), (5, .int (nI (bL W md 2))), (6, .int (nI (bT W md 2))), (7, .int (nI y)), (8, .int (nI x))]) hx hb dX7_putBlock_156 hl (by decide) rfl (fun ls hl => ?_)
              refine lv_aload_n hx hb dX7_putBlock_158 rfl (lv_at hl 1 rfl) ?_
              refine xget (C := RX7) (T := TX7) (N := 34) hF hX hP (by decide +kernel) 0 6 rfl rfl (by decide) (by decide +kernel) rfl dX7_putBlock_159 ?_
              refine lv_iload hx hb dX7_putBlock_162 (lv_at hl 4 rfl) ?_
              refine lv_iload hx hb dX7_putBlock_164 (lv_at hl 5 rfl) ?_
              refine lv_iload hx hb dX7_putBlock_166 (lv_at hl 8 rfl) ?_
              refine lv_iadd hx hb dX7_putBlock_168 ?_
              refine xrwi (z := nI ((bL W md 2) + x)) (nI_add _ _) ?_
              refine lv_iload hx hb dX7_putBlock_169 (lv_at hl 6 rfl) ?_
              refine lv_iload hx hb dX7_putBlock_171 (lv_at hl 7 rfl) ?_
              refine lv_iadd hx hb dX7_putBlock_173 ?_
              refine xrwi (z := nI ((bT W md 2) + y)) (nI_add _ _) ?_
              refine xSt (rest := [.ref nw]) (As := [.int 0, .int (nI ((bL W md 2) + x)), .int (nI ((bT W md 2) + y))]) (ws1 := [(o, .inr (7, mdF th W H mt qu zz nw ol ne se ke nc ns is ik dc sc kd md wh fa re ve ps 1 tl di lv bf bo bd co bt ma)), (nw, .inl (cs 0, 4608, .inl (mpB gw W md 2 (mlO W md 2 mf) (y * 8 + x)))), (ma, .inl (cs 0, 64, .inl mf))]) (st1 := [.int (nI (plc 0 ((bL W md 2) + x) ((bT W md 2) + y))), .ref nw]) hF (c_X7_place l D cs tt 0 ((bL W md 2) + x) ((bT W md 2) + y) (by decide)) gX7_putBlock_X7_place rfl (n := 3) (by decide +kernel) rfl ⟨⟨rfl, rfl⟩, Nat.le_of_ble_eq_true rfl, Nat.le_of_ble_eq_true rfl⟩ ⟨Nat.le_of_ble_eq_true rfl, Nat.le_of_ble_eq_true rfl⟩ hX hP hD hS [] (by decide) rfl [] rfl rfl hl.1 rfl (Nat.le_of_ble_eq_true rfl) dX7_putBlock_174 rfl rfl (fun Hp locs hP hD hS => ?_)
              refine xrwi (z := nI (0 + (((bT W md 2) + y) * 64 + ((bL W md 2) + x)))) (by unfold plc; rw [if_pos rfl]; exact congrArg nI (by omega)) ?_
              refine lv_iload hx hb dX7_putBlock_177 (lv_at hl 0 rfl) ?_
              refine lv_iconst (v := 0) hx hb dX7_putBlock_179 (by decide) ?_
              refine lv_sipush (v := 255) hx hb dX7_putBlock_180 (by decide) ?_
              refine xSt (rest := [.int (nI (0 + (((bT W md 2) + y) * 64 + ((bL W md 2) + x)))), .ref nw]) (As := [.int (mf (y * 8 + x)), .int 0, .int 255]) (ws1 := [(o, .inr (7, mdF th W H mt qu zz nw ol ne se ke nc ns is ik dc sc kd md wh fa re ve ps 1 tl di lv bf bo bd co bt ma)), (nw, .inl (cs 0, 4608, .inl (mpB gw W md 2 (mlO W md 2 mf) (y * 8 + x)))), (ma, .inl (cs 0, 64, .inl mf))]) (st1 := [.int (bnd (mf (y * 8 + x)) 0 255), .int (nI (0 + (((bT W md 2) + y) * 64 + ((bL W md 2) + x)))), .ref nw]) hF (c_X7_within l D cs tt (mf (y * 8 + x)) 0 255) gX7_putBlock_X7_within rfl (n := 3) (by decide +kernel) rfl ⟨⟨rfl, rfl⟩, Nat.le_of_ble_eq_true rfl, Nat.le_of_ble_eq_true rfl⟩ ⟨Nat.le_of_ble_eq_true rfl, Nat.le_of_ble_eq_true rfl⟩ hX hP hD hS [] (by decide) rfl [] rfl rfl hl.1 rfl (Nat.le_of_ble_eq_true rfl) dX7_putBlock_183 rfl rfl (fun Hp locs hP hD hS => ?_)
              refine xast (k := 0 + (((bT W md 2) + y) * 64 + ((bL W md 2) + x))) (ws1 := [(o, .inr (7, mdF th W H mt qu zz nw ol ne se ke nc ns is ik dc sc kd md wh fa re ve ps 1 tl di lv bf bo bd co bt ma)), (nw, .inl (cs 0, 4608, .inl (mpB gw W md 2 (mlO W md 2 mf) (y * 8 + (x + 1))))), (ma, .inl (cs 0, 64, .inl mf))]) hF hX hP hD hS 1 rfl (nI_clamp (by omega)) (vp_in_nI (by omega) (by decide)) dX7_putBlock_186 (congrArg (fun z9 => ([(o, .inr (7, mdF th W H mt qu zz nw ol ne se ke nc ns is ik dc sc kd md wh fa re ve ps 1 tl di lv bf bo bd co bt ma)), (nw, .inl (cs 0, 4608, .inl z9)), (ma, .inl (cs 0, 64, .inl mf))] : va_W)) (pbs gw (mlO W md 2 mf) (by unfold mlO; rw [show ((bT W md 2) + y - (bT W md 2)) * 8 + ((bL W md 2) + x - (bL W md 2)) = y * 8 + x by omega]) hxl (show (bL W md 2) + 8 ≤ 64 by omega))) (fun Hp locs hP hD hS => ?_)
              refine lv_iinc (v := (nI (x + 1))) (lv' := [(8, .int (nI (x + 1))), (9, .int (mf (y * 8 + x))), (0, .ref o), (2, .int fw), (3, .int bw), (4, .int 0), (5, .int (nI (bL W md 2))), (6, .int (nI (bT W md 2))), (7, .int (nI y))]) hx hb dX7_putBlock_187 hl (k := 8) rfl (nI_1 x) (by decide) rfl (fun ls hl => ?_)
              refine lv_goto (tgt := 101) hx hb dX7_putBlock_190 (by decide) ?_
              exact ih_101 (x + 1) (by omega) (by omega) _ _ _ hP hD hS (lv_sub hl [2, 3, 4, 5, 6, 7, 8, 0] rfl)
        exact loop_101 (8 - 0 + 1) 0 (Nat.lt_succ_self _) (by decide) _ _ _ hP hD hS (lv_sub hl [1, 2, 3, 4, 5, 6, 7, 0] rfl)
  have hP := xeqP hP (congrArg (fun z9 => ([(o, .inr (7, mdF th W H mt qu zz nw ol ne se ke nc ns is ik dc sc kd md wh fa re ve ps 1 tl di lv bf bo bd co bt ma)), (nw, .inl (cs 0, 4608, .inl z9)), (ma, .inl (cs 0, 64, .inl mf))] : va_W)) ((show gw = mpB gw W md 2 (mlO W md 2 mf) (0 * 8) from (blkTo_0 gw _ _ _ _ 8 (mlO W md 2 mf)).symm)))
  have hD := xeqD hD (congrArg (fun z9 => ([(o, .inr (7, mdF th W H mt qu zz nw ol ne se ke nc ns is ik dc sc kd md wh fa re ve ps 1 tl di lv bf bo bd co bt ma)), (nw, .inl (cs 0, 4608, .inl z9)), (ma, .inl (cs 0, 64, .inl mf))] : va_W)) ((show gw = mpB gw W md 2 (mlO W md 2 mf) (0 * 8) from (blkTo_0 gw _ _ _ _ 8 (mlO W md 2 mf)).symm)))
  exact loop_91 (8 - 0 + 1) 0 (Nat.lt_succ_self _) (by decide) _ _ _ hP hD hS (lv_sub hl [4, 6, 7, 3, 2, 1, 0] rfl)

set_option maxHeartbeats 4000000 in
set_option maxRecDepth 100000 in
theorem c_X7_putBlock2A (l : Launch) (D : va_G) (cs : Nat → ClassId) (tt : Nat → Nat) (o mt qu zz nw ol ne se ke re ve ps di lv bd co bt ma W H md : Nat) (th nc ns is ik dc sc wh fa tl bf bo : Int32) (gw mf go gn V : Nat → Int32) (hw : 1 ≤ W) (hw4 : W ≤ 4) (hh : 1 ≤ H) (hh3 : H ≤ 3) (hmd : md < W * H) : xM l yX7_putBlock wsX7_putBlock ({ frames := 4, cells := 0, slots := 0, locals := 104 } : Room) D cs tt [.ref o, .int 2, .int 1, .int 0] [(o, .inr (7, mdF th W H mt qu zz nw ol ne se ke nc ns is ik dc sc 2 md wh fa re ve ps 0 tl di lv bf bo bd co bt ma)), (nw, .inl (cs 0, 4608, .inl gw)), (ol, .inl (cs 0, 4608, .inl go)), (ne, .inl (cs 0, 4608, .inl gn)), (ve, .inl (cs 0, 4, .inl V)), (ma, .inl (cs 0, 64, .inl mf))] none [(o, .inr (7, mdF th W H mt qu zz nw ol ne se ke nc ns is ik dc sc 2 md wh fa re ve ps 0 tl di lv bf bo bd co bt ma)), (nw, .inl (cs 0, 4608, .inl (mpB gw W md 2 (mlF W md 2 mf (fun x9 y9 => (mft (lokP gn 0) (wdt 0 W) (wdt 0 H) (nI x9) (nI y9) (mus wh (V 0) 0) (mus wh (V 1) 0)))) (64)))), (ol, .inl (cs 0, 4608, .inl go)), (ne, .inl (cs 0, 4608, .inl gn)), (ve, .inl (cs 0, 4, .inl V)), (ma, .inl (cs 0, 64, .inl mf))] := by
  refine xM.of RX7 rfl (by decide) rfl (Nat.le_of_ble_eq_true rfl) ?_
  intro p e s m below meth c A ls hF hr hlk hX hP hD hS hl
  have hx := hF.1
  have hb := hF.2.1
  have hl : lv_has ls 10 [(0, .ref o), (1, .int 2), (2, .int 1), (3, .int 0)] := hl
  have hm4 : md < 4096 := Nat.lt_of_lt_of_le hmd (Nat.le_trans (Nat.mul_le_mul hw4 hh3) (by decide))
  have hb9 := b_in hw hmd 2 (by decide)
  have hbl : (bL W md 2) + 8 ≤ 16 * W := hb9.1
  have hbt : (bT W md 2) + 8 ≤ 16 * H := hb9.2
  have hsL : bL W md 2 = bL W md 2 := rfl
  refine lv_iload_n hx hb dX7_putBlock_0 rfl (lv_at hl 1 rfl) ?_
  refine xSt (rest := []) (As := [.int 2]) (ws1 := [(o, .inr (7, mdF th W H mt qu zz nw ol ne se ke nc ns is ik dc sc 2 md wh fa re ve ps 0 tl di lv bf bo bd co bt ma)), (nw, .inl (cs 0, 4608, .inl gw)), (ol, .inl (cs 0, 4608, .inl go)), (ne, .inl (cs 0, 4608, .inl gn)), (ve, .inl (cs 0, 4, .inl V)), (ma, .inl (cs 0, 64, .inl mf))]) (st1 := [.int (pln 2)]) hF (c_X7_planeOf l D cs tt 2) gX7_putBlock_X7_planeOf rfl (n := 1) (by decide +kernel) rfl ⟨⟨rfl, rfl⟩, Nat.le_of_ble_eq_true rfl, Nat.le_of_ble_eq_true rfl⟩ ⟨Nat.le_of_ble_eq_true rfl, Nat.le_of_ble_eq_true rfl⟩ hX hP hD hS [] (by decide) rfl [] rfl rfl hl.1 rfl (Nat.le_of_ble_eq_true rfl) dX7_putBlock_1 rfl rfl (fun Hp locs hP hD hS => ?_)
  refine xrwi (z := 0) (by decide) ?_
  refine lv_istore (lv' := [(4, .int 0), (0, .ref o), (1, .int 2), (2, .int 1), (3, .int 0)]) hx hb dX7_putBlock_4 hl (by decide) rfl (fun ls hl => ?_)
  refine lv_iload hx hb dX7_putBlock_6 (lv_at hl 0 rfl) ?_
  refine lv_if_ne (tgt := 33) hx hb dX7_putBlock_8 (by decide) (fun c_8 => absurd (by decide) c_8) (fun _ => ?_)
  refine lv_bipush (v := 16) hx hb dX7_putBlock_11 (by decide) ?_
  refine lv_aload_n hx hb dX7_putBlock_13 rfl (lv_at hl 1 rfl) ?_
  refine xget (C := RX7) (T := TX7) (N := 34) hF hX hP (by decide +kernel) 0 18 rfl rfl (by decide) (by decide +kernel) rfl dX7_putBlock_14 ?_
  refine lv_aload_n hx hb dX7_putBlock_17 rfl (lv_at hl 1 rfl) ?_
  refine xget (C := RX7) (T := TX7) (N := 34) hF hX hP (by decide +kernel) 0 1 rfl rfl (by decide) (by decide +kernel) rfl dX7_putBlock_18 ?_
  refine lv_irem hx hb dX7_putBlock_21 (nI_ne0 (by omega) (by omega)) ?_
  refine xrwi (z := nI (md % W)) (pk_rem (by omega) (by omega) (by omega)) ?_
  refine lv_imul hx hb dX7_putBlock_22 ?_
  refine lv_bipush (v := 8) hx hb dX7_putBlock_23 (by decide) ?_
  refine lv_iload_n hx hb dX7_putBlock_25 rfl (lv_at hl 2 rfl) ?_
  refine lv_iconst (v := 2) hx hb dX7_putBlock_26 (by decide) ?_
  refine lv_irem hx hb dX7_putBlock_27 (by decide) ?_
  refine xrwi (z := 0) (by decide) ?_
  refine lv_imul hx hb dX7_putBlock_28 ?_
  refine xrwi (z := 0) (by decide) ?_
  refine lv_iadd hx hb dX7_putBlock_29 ?_
  refine lv_goto (tgt := 45) hx hb dX7_putBlock_30 (by decide) ?_
  refine xrwi (z := nI (bL W md 2)) (by rw [show (16 : Int32) * nI (md % W) = nI (16 * (md % W)) from pk_mul 16 _, show nI (16 * (md % W)) + 0 = nI (16 * (md % W) + 0) from nI_add _ 0]; exact congrArg nI (show 16 * (md % W) + 0 = bL W md 2 by show _ = md % W * 16 + 0; omega)) ?_
  refine lv_istore (lv' := [(5, .int (nI (bL W md 2))), (4, .int 0), (0, .ref o), (1, .int 2), (2, .int 1), (3, .int 0)]) hx hb dX7_putBlock_45 hl (by decide) rfl (fun ls hl => ?_)
  refine lv_iload hx hb dX7_putBlock_47 (lv_at hl 1 rfl) ?_
  refine lv_if_ne (tgt := 74) hx hb dX7_putBlock_49 (by decide) (fun c_49 => absurd (by decide) c_49) (fun _ => ?_)
  refine lv_bipush (v := 16) hx hb dX7_putBlock_52 (by decide) ?_
  refine lv_aload_n hx hb dX7_putBlock_54 rfl (lv_at hl 2 rfl) ?_
  refine xget (C := RX7) (T := TX7) (N := 34) hF hX hP (by decide +kernel) 0 18 rfl rfl (by decide) (by decide +kernel) rfl dX7_putBlock_55 ?_
  refine lv_aload_n hx hb dX7_putBlock_58 rfl (lv_at hl 2 rfl) ?_
  refine xget (C := RX7) (T := TX7) (N := 34) hF hX hP (by decide +kernel) 0 1 rfl rfl (by decide) (by decide +kernel) rfl dX7_putBlock_59 ?_
  refine lv_idiv hx hb dX7_putBlock_62 (nI_ne0 (by omega) (by omega)) ?_
  refine xrwi (z := nI (md / W)) (pk_div (by omega) (by omega) (by omega)) ?_
  refine lv_imul hx hb dX7_putBlock_63 ?_
  refine lv_bipush (v := 8) hx hb dX7_putBlock_64 (by decide) ?_
  refine lv_iload_n hx hb dX7_putBlock_66 rfl (lv_at hl 3 rfl) ?_
  refine lv_iconst (v := 2) hx hb dX7_putBlock_67 (by decide) ?_
  refine lv_idiv hx hb dX7_putBlock_68 (by decide) ?_
  refine xrwi (z := 1) (by decide) ?_
  refine lv_imul hx hb dX7_putBlock_69 ?_
  refine xrwi (z := 8) (by decide) ?_
  refine lv_iadd hx hb dX7_putBlock_70 ?_
  refine lv_goto (tgt := 86) hx hb dX7_putBlock_71 (by decide) ?_
  refine xrwi (z := nI (bT W md 2)) (by rw [show (16 : Int32) * nI (md / W) = nI (16 * (md / W)) from pk_mul 16 _, show nI (16 * (md / W)) + 8 = nI (16 * (md / W) + 8) from nI_add _ 8]; exact congrArg nI (show 16 * (md / W) + 8 = bT W md 2 by show _ = md / W * 16 + 8; omega)) ?_
  refine lv_istore (lv' := [(6, .int (nI (bT W md 2))), (5, .int (nI (bL W md 2))), (4, .int 0), (0, .ref o), (1, .int 2), (2, .int 1), (3, .int 0)]) hx hb dX7_putBlock_86 hl (by decide) rfl (fun ls hl => ?_)
  refine lv_iconst (v := 0) hx hb dX7_putBlock_88 (by decide) ?_
  refine lv_istore (lv' := [(7, .int 0), (6, .int (nI (bT W md 2))), (5, .int (nI (bL W md 2))), (4, .int 0), (0, .ref o), (1, .int 2), (2, .int 1), (3, .int 0)]) hx hb dX7_putBlock_89 hl (by decide) rfl (fun ls hl => ?_)
  have loop_91 : ∀ (k91 : Nat) (y : Nat), 8 - y < k91 → y ≤ 8 → ∀ (Hp : Heap) (locs : List Loc) (ls : Array Slot), va_P D vwCl [(o, .inr (7, mdF th W H mt qu zz nw ol ne se ke nc ns is ik dc sc 2 md wh fa re ve ps 0 tl di lv bf bo bd co bt ma)), (nw, .inl (cs 0, 4608, .inl (mpB gw W md 2 (mlF W md 2 mf (fun x9 y9 => (mft (lokP gn 0) (wdt 0 W) (wdt 0 H) (nI x9) (nI y9) (mus wh (V 0) 0) (mus wh (V 1) 0)))) (y * 8)))), (ol, .inl (cs 0, 4608, .inl go)), (ne, .inl (cs 0, 4608, .inl gn)), (ve, .inl (cs 0, 4, .inl V)), (ma, .inl (cs 0, 64, .inl mf))] Hp → va_D A [(o, .inr (7, mdF th W H mt qu zz nw ol ne se ke nc ns is ik dc sc 2 md wh fa re ve ps 0 tl di lv bf bo bd co bt ma)), (nw, .inl (cs 0, 4608, .inl (mpB gw W md 2 (mlF W md 2 mf (fun x9 y9 => (mft (lokP gn 0) (wdt 0 W) (wdt 0 H) (nI x9) (nI y9) (mus wh (V 0) 0) (mus wh (V 1) 0)))) (y * 8)))), (ol, .inl (cs 0, 4608, .inl go)), (ne, .inl (cs 0, 4608, .inl gn)), (ve, .inl (cs 0, 4, .inl V)), (ma, .inl (cs 0, 64, .inl mf))] → va_S A s.heap Hp locs → lv_has ls 10 [(0, .ref o), (2, .int 1), (3, .int 0), (4, .int 0), (5, .int (nI (bL W md 2))), (6, .int (nI (bT W md 2))), (7, .int (nI y))] → xW p l e ({ frames := 4, cells := 0, slots := 0, locals := 104 } : Room) s m ([.ref o, .int 2, .int 1, .int 0] : List Value).toArray below meth c Hp locs 0 0 (MQ below (xE D A none [(o, .inr (7, mdF th W H mt qu zz nw ol ne se ke nc ns is ik dc sc 2 md wh fa re ve ps 0 tl di lv bf bo bd co bt ma)), (nw, .inl (cs 0, 4608, .inl (mpB gw W md 2 (mlF W md 2 mf (fun x9 y9 => (mft (lokP gn 0) (wdt 0 W) (wdt 0 H) (nI x9) (nI y9) (mus wh (V 0) 0) (mus wh (V 1) 0)))) (64)))), (ol, .inl (cs 0, 4608, .inl go)), (ne, .inl (cs 0, 4608, .inl gn)), (ve, .inl (cs 0, 4, .inl V)), (ma, .inl (cs 0, 64, .inl mf))]) ([.ref o, .int 2, .int 1, .int 0] : List Value).toArray s 0 0 A) (F0 m 91 ls []) := by
    intro k91
    induction k91 with
    | zero => intro y h9; omega
    | succ k91 ih_91 =>
      intro y hk91 hy9 Hp locs ls hP hD hS hl
      refine lv_iload hx hb dX7_putBlock_91 (lv_at hl 6 rfl) ?_
      refine lv_bipush (v := 8) hx hb dX7_putBlock_93 (by decide) ?_
      refine lv_icmp_ge (tgt := 199) hx hb dX7_putBlock_95 (by decide) (fun c_95 => ?_) (fun c_95 => ?_)
      · have ey : y = 8 := by have := nIle (a := 8) (b := y) rfl rfl (by decide) (by omega) c_95; omega
        have hP := xeqP hP (congrArg (fun z9 => ([(o, .inr (7, mdF th W H mt qu zz nw ol ne se ke nc ns is ik dc sc 2 md wh fa re ve ps 0 tl di lv bf bo bd co bt ma)), (nw, .inl (cs 0, 4608, .inl z9)), (ol, .inl (cs 0, 4608, .inl go)), (ne, .inl (cs 0, 4608, .inl gn)), (ve, .inl (cs 0, 4, .inl V)), (ma, .inl (cs 0, 64, .inl mf))] : va_W)) (congrArg (mpB gw W md 2 (mlF W md 2 mf (fun x9 y9 => (mft (lokP gn 0) (wdt 0 W) (wdt 0 H) (nI x9) (nI y9) (mus wh (V 0) 0) (mus wh (V 1) 0))))) (show y * 8 = 64 by omega)))
        have hD := xeqD hD (congrArg (fun z9 => ([(o, .inr (7, mdF th W H mt qu zz nw ol ne se ke nc ns is ik dc sc 2 md wh fa re ve ps 0 tl di lv bf bo bd co bt ma)), (nw, .inl (cs 0, 4608, .inl z9)), (ol, .inl (cs 0, 4608, .inl go)), (ne, .inl (cs 0, 4608, .inl gn)), (ve, .inl (cs 0, 4, .inl V)), (ma, .inl (cs 0, 64, .inl mf))] : va_W)) (congrArg (mpB gw W md 2 (mlF W md 2 mf (fun x9 y9 => (mft (lokP gn 0) (wdt 0 W) (wdt 0 H) (nI x9) (nI y9) (mus wh (V 0) 0) (mus wh (V 1) 0))))) (show y * 8 = 64 by omega)))
        exact xrv hF hr hlk hP hD hS dX7_putBlock_199
      · have hyl : y < 8 := nInle (a := 8) (b := y) rfl rfl (by decide) (by omega) c_95
        refine lv_iconst (v := 0) hx hb dX7_putBlock_98 (by decide) ?_
        refine lv_istore (lv' := [(8, .int 0), (0, .ref o), (2, .int 1), (3, .int 0), (4, .int 0), (5, .int (nI (bL W md 2))), (6, .int (nI (bT W md 2))), (7, .int (nI y))]) hx hb dX7_putBlock_99 hl (by decide) rfl (fun ls hl => ?_)
        have loop_101 : ∀ (k101 : Nat) (x : Nat), 8 - x < k101 → x ≤ 8 → ∀ (Hp : Heap) (locs : List Loc) (ls : Array Slot), va_P D vwCl [(o, .inr (7, mdF th W H mt qu zz nw ol ne se ke nc ns is ik dc sc 2 md wh fa re ve ps 0 tl di lv bf bo bd co bt ma)), (nw, .inl (cs 0, 4608, .inl (mpB gw W md 2 (mlF W md 2 mf (fun x9 y9 => (mft (lokP gn 0) (wdt 0 W) (wdt 0 H) (nI x9) (nI y9) (mus wh (V 0) 0) (mus wh (V 1) 0)))) (y * 8 + x)))), (ol, .inl (cs 0, 4608, .inl go)), (ne, .inl (cs 0, 4608, .inl gn)), (ve, .inl (cs 0, 4, .inl V)), (ma, .inl (cs 0, 64, .inl mf))] Hp → va_D A [(o, .inr (7, mdF th W H mt qu zz nw ol ne se ke nc ns is ik dc sc 2 md wh fa re ve ps 0 tl di lv bf bo bd co bt ma)), (nw, .inl (cs 0, 4608, .inl (mpB gw W md 2 (mlF W md 2 mf (fun x9 y9 => (mft (lokP gn 0) (wdt 0 W) (wdt 0 H) (nI x9) (nI y9) (mus wh (V 0) 0) (mus wh (V 1) 0)))) (y * 8 + x)))), (ol, .inl (cs 0, 4608, .inl go)), (ne, .inl (cs 0, 4608, .inl gn)), (ve, .inl (cs 0, 4, .inl V)), (ma, .inl (cs 0, 64, .inl mf))] → va_S A s.heap Hp locs → lv_has ls 10 [(0, .ref o), (2, .int 1), (3, .int 0), (4, .int 0), (5, .int (nI (bL W md 2))), (6, .int (nI (bT W md 2))), (7, .int (nI y)), (8, .int (nI x))] → xW p l e ({ frames := 4, cells := 0, slots := 0, locals := 104 } : Room) s m ([.ref o, .int 2, .int 1, .int 0] : List Value).toArray below meth c Hp locs 0 0 (MQ below (xE D A none [(o, .inr (7, mdF th W H mt qu zz nw ol ne se ke nc ns is ik dc sc 2 md wh fa re ve ps 0 tl di lv bf bo bd co bt ma)), (nw, .inl (cs 0, 4608, .inl (mpB gw W md 2 (mlF W md 2 mf (fun x9 y9 => (mft (lokP gn 0) (wdt 0 W) (wdt 0 H) (nI x9) (nI y9) (mus wh (V 0) 0) (mus wh (V 1) 0)))) (64)))), (ol, .inl (cs 0, 4608, .inl go)), (ne, .inl (cs 0, 4608, .inl gn)), (ve, .inl (cs 0, 4, .inl V)), (ma, .inl (cs 0, 64, .inl mf))]) ([.ref o, .int 2, .int 1, .int 0] : List Value).toArray s 0 0 A) (F0 m 101 ls []) := by
          intro k101
          induction k101 with
          | zero => intro x h9; omega
          | succ k101 ih_101 =>
            intro x hk101 hx9 Hp locs ls hP hD hS hl
            refine lv_iload hx hb dX7_putBlock_101 (lv_at hl 7 rfl) ?_
            refine lv_bipush (v := 8) hx hb dX7_putBlock_103 (by decide) ?_
            refine lv_icmp_ge (tgt := 193) hx hb dX7_putBlock_105 (by decide) (fun c_105 => ?_) (fun c_105 => ?_)
            · have ex : x = 8 := by have := nIle (a := 8) (b := x) rfl rfl (by decide) (by omega) c_105; omega
              have hP := xeqP hP (congrArg (fun z9 => ([(o, .inr (7, mdF th W H mt qu zz nw ol ne se ke nc ns is ik dc sc 2 md wh fa re ve ps 0 tl di lv bf bo bd co bt ma)), (nw, .inl (cs 0, 4608, .inl z9)), (ol, .inl (cs 0, 4608, .inl go)), (ne, .inl (cs 0, 4608, .inl gn)), (ve, .inl (cs 0, 4, .inl V)), (ma, .inl (cs 0, 64, .inl mf))] : va_W)) (congrArg (mpB gw W md 2 (mlF W md 2 mf (fun x9 y9 => (mft (lokP gn 0) (wdt 0 W) (wdt 0 H) (nI x9) (nI y9) (mus wh (V 0) 0) (mus wh (V 1) 0))))) (show y * 8 + x = (y + 1) * 8 by omega)))
              have hD := xeqD hD (congrArg (fun z9 => ([(o, .inr (7, mdF th W H mt qu zz nw ol ne se ke nc ns is ik dc sc 2 md wh fa re ve ps 0 tl di lv bf bo bd co bt ma)), (nw, .inl (cs 0, 4608, .inl z9)), (ol, .inl (cs 0, 4608, .inl go)), (ne, .inl (cs 0, 4608, .inl gn)), (ve, .inl (cs 0, 4, .inl V)), (ma, .inl (cs 0, 64, .inl mf))] : va_W)) (congrArg (mpB gw W md 2 (mlF W md 2 mf (fun x9 y9 => (mft (lokP gn 0) (wdt 0 W) (wdt 0 H) (nI x9) (nI y9) (mus wh (V 0) 0) (mus wh (V 1) 0))))) (show y * 8 + x = (y + 1) * 8 by omega)))
              refine lv_iinc (v := (nI (y + 1))) (lv' := [(7, .int (nI (y + 1))), (0, .ref o), (2, .int 1), (3, .int 0), (4, .int 0), (5, .int (nI (bL W md 2))), (6, .int (nI (bT W md 2))), (8, .int (nI x))]) hx hb dX7_putBlock_193 hl (k := 6) rfl (nI_1 y) (by decide) rfl (fun ls hl => ?_)
              refine lv_goto (tgt := 91) hx hb dX7_putBlock_196 (by decide) ?_
              exact ih_91 (y + 1) (by omega) (by omega) _ _ _ hP hD hS (lv_sub hl [1, 2, 3, 4, 5, 6, 0] rfl)
            · have hxl : x < 8 := nInle (a := 8) (b := x) rfl rfl (by decide) (by omega) c_105
              refine lv_aload_n hx hb dX7_putBlock_108 rfl (lv_at hl 0 rfl) ?_
              refine xget (C := RX7) (T := TX7) (N := 34) hF hX hP (by decide +kernel) 0 33 rfl rfl (by decide) (by decide +kernel) rfl dX7_putBlock_109 ?_
              refine lv_bipush (v := 8) hx hb dX7_putBlock_112 (by decide) ?_
              refine lv_iload hx hb dX7_putBlock_114 (lv_at hl 6 rfl) ?_
              refine lv_imul hx hb dX7_putBlock_116 ?_
              refine lv_iload hx hb dX7_putBlock_117 (lv_at hl 7 rfl) ?_
              refine lv_iadd hx hb dX7_putBlock_119 ?_
              refine xrwi (z := nI (y * 8 + x)) (k8 y x) ?_
              refine xald (k := y * 8 + x) hF hX hP 5 rfl (nI_clamp (by omega)) (vp_in_nI (by omega) (by decide)) dX7_putBlock_120 ?_
              refine lv_istore (lv' := [(9, .int (mf (y * 8 + x))), (0, .ref o), (2, .int 1), (3, .int 0), (4, .int 0), (5, .int (nI (bL W md 2))), (6, .int (nI (bT W md 2))), (7, .int (nI y)), (8, .int (nI x))]) hx hb dX7_putBlock_121 hl (by decide) rfl (fun ls hl => ?_)
              refine lv_aload_n hx hb dX7_putBlock_123 rfl (lv_at hl 1 rfl) ?_
              refine xget (C := RX7) (T := TX7) (N := 34) hF hX hP (by decide +kernel) 0 24 rfl rfl (by decide) (by decide +kernel) rfl dX7_putBlock_124 ?_
              refine lv_if_eq (tgt := 135) hx hb dX7_putBlock_127 (by decide) (fun _ => ?_) (fun c_127 => absurd (by decide) c_127)
              refine lv_iload hx hb dX7_putBlock_135 (lv_at hl 0 rfl) ?_
              refine lv_aload_n hx hb dX7_putBlock_137 rfl (lv_at hl 1 rfl) ?_
              refine lv_iload_n hx hb dX7_putBlock_138 rfl (lv_at hl 2 rfl) ?_
              refine lv_iload_n hx hb dX7_putBlock_139 rfl (lv_at hl 3 rfl) ?_
              refine lv_iload hx hb dX7_putBlock_140 (lv_at hl 4 rfl) ?_
              refine lv_iload hx hb dX7_putBlock_142 (lv_at hl 5 rfl) ?_
              refine lv_iload hx hb dX7_putBlock_144 (lv_at hl 8 rfl) ?_
              refine lv_iadd hx hb dX7_putBlock_146 ?_
              refine xrwi (z := nI ((bL W md 2) + x)) (nI_add _ _) ?_
              refine lv_iload hx hb dX7_putBlock_147 (lv_at hl 6 rfl) ?_
              refine lv_iload hx hb dX7_putBlock_149 (lv_at hl 7 rfl) ?_
              refine lv_iadd hx hb dX7_putBlock_151 ?_
              refine xrwi (z := nI ((bT W md 2) + y)) (nI_add _ _) ?_
              refine xV (rest := [.int (mf (y * 8 + x))]) (As := [.int 1, .int 0, .int 0, .int (nI ((bL W md 2) + x)), .int (nI ((bT W md 2) + y))]) (ws1 := [(o, .inr (7, mdF th W H mt qu zz nw ol ne se ke nc ns is ik dc sc 2 md wh fa re ve ps 0 tl di lv bf bo bd co bt ma)), (nw, .inl (cs 0, 4608, .inl (mpB gw W md 2 (mlF W md 2 mf (fun x9 y9 => (mft (lokP gn 0) (wdt 0 W) (wdt 0 H) (nI x9) (nI y9) (mus wh (V 0) 0) (mus wh (V 1) 0)))) (y * 8 + x)))), (ol, .inl (cs 0, 4608, .inl go)), (ne, .inl (cs 0, 4608, .inl gn)), (ve, .inl (cs 0, 4, .inl V)), (ma, .inl (cs 0, 64, .inl mf))]) (st1 := [.int (mft (lokP gn 0) (wdt 0 W) (wdt 0 H) (nI ((bL W md 2) + x)) (nI ((bT W md 2) + y)) (mus wh (V 0) 0) (mus wh (V 1) 0)), .int (mf (y * 8 + x))]) hF (c_X7_fetchedA l D cs tt o mt qu zz nw ol ne se ke re ve ps di lv bd co bt ma W H md th nc ns is ik dc sc wh fa 0 tl bf bo 0 (nI ((bL W md 2) + x)) (nI ((bT W md 2) + y)) go gn V (by decide) hw hw4 hh hh3) gX7_putBlock_X7_fetched rfl (n := 5) (by decide +kernel) rfl ⟨⟨rfl, rfl⟩, Nat.le_of_ble_eq_true rfl, Nat.le_of_ble_eq_true rfl⟩ ⟨Nat.le_of_ble_eq_true rfl, Nat.le_of_ble_eq_true rfl⟩ hX hP hD hS [0, 2, 3, 4] (by decide) rfl [o, ol, ne, ve] rfl rfl (q0 := 0) (ci := 7) rfl rfl rfl hl.1 rfl (Nat.le_of_ble_eq_true rfl) dX7_putBlock_152 rfl rfl (fun Hp locs hP hD hS => ?_)
              refine lv_iadd hx hb dX7_putBlock_155 ?_
              refine lv_istore (lv' := [(9, .int ((mf (y * 8 + x)) + (mft (lokP gn 0) (wdt 0 W) (wdt 0 H) (nI ((bL W md 2) + x)) (nI ((bT W md 2) + y)) (mus wh (V 0) 0) (mus wh (V 1) 0)))), (0, .ref o), (2, .int 1), (3, .int 0), (4, .int 0), (5, .int (nI (bL W md 2))), (6, .int (nI (bT W md 2))), (7, .int (nI y)), (8, .int (nI x))]) hx hb dX7_putBlock_156 hl (by decide) rfl (fun ls hl => ?_)
              refine lv_aload_n hx hb dX7_putBlock_158 rfl (lv_at hl 1 rfl) ?_
              refine xget (C := RX7) (T := TX7) (N := 34) hF hX hP (by decide +kernel) 0 6 rfl rfl (by decide) (by decide +kernel) rfl dX7_putBlock_159 ?_
              refine lv_iload hx hb dX7_putBlock_162 (lv_at hl 4 rfl) ?_
              refine lv_iload hx hb dX7_putBlock_164 (lv_at hl 5 rfl) ?_
              refine lv_iload hx hb dX7_putBlock_166 (lv_at hl 8 rfl) ?_
              refine lv_iadd hx hb dX7_putBlock_168 ?_
              refine xrwi (z := nI ((bL W md 2) + x)) (nI_add _ _) ?_
              refine lv_iload hx hb dX7_putBlock_169 (lv_at hl 6 rfl) ?_
              refine lv_iload hx hb dX7_putBlock_171 (lv_at hl 7 rfl) ?_
              refine lv_iadd hx hb dX7_putBlock_173 ?_
              refine xrwi (z := nI ((bT W md 2) + y)) (nI_add _ _) ?_
              refine xSt (rest := [.ref nw]) (As := [.int 0, .int (nI ((bL W md 2) + x)), .int (nI ((bT W md 2) + y))]) (ws1 := [(o, .inr (7, mdF th W H mt qu zz nw ol ne se ke nc ns is ik dc sc 2 md wh fa re ve ps 0 tl di lv bf bo bd co bt ma)), (nw, .inl (cs 0, 4608, .inl (mpB gw W md 2 (mlF W md 2 mf (fun x9 y9 => (mft (lokP gn 0) (wdt 0 W) (wdt 0 H) (nI x9) (nI y9) (mus wh (V 0) 0) (mus wh (V 1) 0)))) (y * 8 + x)))), (ol, .inl (cs 0, 4608, .inl go)), (ne, .inl (cs 0, 4608, .inl gn)), (ve, .inl (cs 0, 4, .inl V)), (ma, .inl (cs 0, 64, .inl mf))]) (st1 := [.int (nI (plc 0 ((bL W md 2) + x) ((bT W md 2) + y))), .ref nw]) hF (c_X7_place l D cs tt 0 ((bL W md 2) + x) ((bT W md 2) + y) (by decide)) gX7_putBlock_X7_place rfl (n := 3) (by decide +kernel) rfl ⟨⟨rfl, rfl⟩, Nat.le_of_ble_eq_true rfl, Nat.le_of_ble_eq_true rfl⟩ ⟨Nat.le_of_ble_eq_true rfl, Nat.le_of_ble_eq_true rfl⟩ hX hP hD hS [] (by decide) rfl [] rfl rfl hl.1 rfl (Nat.le_of_ble_eq_true rfl) dX7_putBlock_174 rfl rfl (fun Hp locs hP hD hS => ?_)
              refine xrwi (z := nI (0 + (((bT W md 2) + y) * 64 + ((bL W md 2) + x)))) (by unfold plc; rw [if_pos rfl]; exact congrArg nI (by omega)) ?_
              refine lv_iload hx hb dX7_putBlock_177 (lv_at hl 0 rfl) ?_
              refine lv_iconst (v := 0) hx hb dX7_putBlock_179 (by decide) ?_
              refine lv_sipush (v := 255) hx hb dX7_putBlock_180 (by decide) ?_
              refine xSt (rest := [.int (nI (0 + (((bT W md 2) + y) * 64 + ((bL W md 2) + x)))), .ref nw]) (As := [.int ((mf (y * 8 + x)) + (mft (lokP gn 0) (wdt 0 W) (wdt 0 H) (nI ((bL W md 2) + x)) (nI ((bT W md 2) + y)) (mus wh (V 0) 0) (mus wh (V 1) 0))), .int 0, .int 255]) (ws1 := [(o, .inr (7, mdF th W H mt qu zz nw ol ne se ke nc ns is ik dc sc 2 md wh fa re ve ps 0 tl di lv bf bo bd co bt ma)), (nw, .inl (cs 0, 4608, .inl (mpB gw W md 2 (mlF W md 2 mf (fun x9 y9 => (mft (lokP gn 0) (wdt 0 W) (wdt 0 H) (nI x9) (nI y9) (mus wh (V 0) 0) (mus wh (V 1) 0)))) (y * 8 + x)))), (ol, .inl (cs 0, 4608, .inl go)), (ne, .inl (cs 0, 4608, .inl gn)), (ve, .inl (cs 0, 4, .inl V)), (ma, .inl (cs 0, 64, .inl mf))]) (st1 := [.int (bnd ((mf (y * 8 + x)) + (mft (lokP gn 0) (wdt 0 W) (wdt 0 H) (nI ((bL W md 2) + x)) (nI ((bT W md 2) + y)) (mus wh (V 0) 0) (mus wh (V 1) 0))) 0 255), .int (nI (0 + (((bT W md 2) + y) * 64 + ((bL W md 2) + x)))), .ref nw]) hF (c_X7_within l D cs tt ((mf (y * 8 + x)) + (mft (lokP gn 0) (wdt 0 W) (wdt 0 H) (nI ((bL W md 2) + x)) (nI ((bT W md 2) + y)) (mus wh (V 0) 0) (mus wh (V 1) 0))) 0 255) gX7_putBlock_X7_within rfl (n := 3) (by decide +kernel) rfl ⟨⟨rfl, rfl⟩, Nat.le_of_ble_eq_true rfl, Nat.le_of_ble_eq_true rfl⟩ ⟨Nat.le_of_ble_eq_true rfl, Nat.le_of_ble_eq_true rfl⟩ hX hP hD hS [] (by decide) rfl [] rfl rfl hl.1 rfl (Nat.le_of_ble_eq_true rfl) dX7_putBlock_183 rfl rfl (fun Hp locs hP hD hS => ?_)
              refine xast (k := 0 + (((bT W md 2) + y) * 64 + ((bL W md 2) + x))) (ws1 := [(o, .inr (7, mdF th W H mt qu zz nw ol ne se ke nc ns is ik dc sc 2 md wh fa re ve ps 0 tl di lv bf bo bd co bt ma)), (nw, .inl (cs 0, 4608, .inl (mpB gw W md 2 (mlF W md 2 mf (fun x9 y9 => (mft (lokP gn 0) (wdt 0 W) (wdt 0 H) (nI x9) (nI y9) (mus wh (V 0) 0) (mus wh (V 1) 0)))) (y * 8 + (x + 1))))), (ol, .inl (cs 0, 4608, .inl go)), (ne, .inl (cs 0, 4608, .inl gn)), (ve, .inl (cs 0, 4, .inl V)), (ma, .inl (cs 0, 64, .inl mf))]) hF hX hP hD hS 1 rfl (nI_clamp (by omega)) (vp_in_nI (by omega) (by decide)) dX7_putBlock_186 (congrArg (fun z9 => ([(o, .inr (7, mdF th W H mt qu zz nw ol ne se ke nc ns is ik dc sc 2 md wh fa re ve ps 0 tl di lv bf bo bd co bt ma)), (nw, .inl (cs 0, 4608, .inl z9)), (ol, .inl (cs 0, 4608, .inl go)), (ne, .inl (cs 0, 4608, .inl gn)), (ve, .inl (cs 0, 4, .inl V)), (ma, .inl (cs 0, 64, .inl mf))] : va_W)) (pbs gw (mlF W md 2 mf (fun x9 y9 => (mft (lokP gn 0) (wdt 0 W) (wdt 0 H) (nI x9) (nI y9) (mus wh (V 0) 0) (mus wh (V 1) 0)))) (by unfold mlF; rw [show ((bT W md 2) + y - (bT W md 2)) * 8 + ((bL W md 2) + x - (bL W md 2)) = y * 8 + x by omega]) hxl (show (bL W md 2) + 8 ≤ 64 by omega))) (fun Hp locs hP hD hS => ?_)
              refine lv_iinc (v := (nI (x + 1))) (lv' := [(8, .int (nI (x + 1))), (9, .int ((mf (y * 8 + x)) + (mft (lokP gn 0) (wdt 0 W) (wdt 0 H) (nI ((bL W md 2) + x)) (nI ((bT W md 2) + y)) (mus wh (V 0) 0) (mus wh (V 1) 0)))), (0, .ref o), (2, .int 1), (3, .int 0), (4, .int 0), (5, .int (nI (bL W md 2))), (6, .int (nI (bT W md 2))), (7, .int (nI y))]) hx hb dX7_putBlock_187 hl (k := 8) rfl (nI_1 x) (by decide) rfl (fun ls hl => ?_)
              refine lv_goto (tgt := 101) hx hb dX7_putBlock_190 (by decide) ?_
              exact ih_101 (x + 1) (by omega) (by omega) _ _ _ hP hD hS (lv_sub hl [2, 3, 4, 5, 6, 7, 8, 0] rfl)
        exact loop_101 (8 - 0 + 1) 0 (Nat.lt_succ_self _) (by decide) _ _ _ hP hD hS (lv_sub hl [1, 2, 3, 4, 5, 6, 7, 0] rfl)
  have hP := xeqP hP (congrArg (fun z9 => ([(o, .inr (7, mdF th W H mt qu zz nw ol ne se ke nc ns is ik dc sc 2 md wh fa re ve ps 0 tl di lv bf bo bd co bt ma)), (nw, .inl (cs 0, 4608, .inl z9)), (ol, .inl (cs 0, 4608, .inl go)), (ne, .inl (cs 0, 4608, .inl gn)), (ve, .inl (cs 0, 4, .inl V)), (ma, .inl (cs 0, 64, .inl mf))] : va_W)) ((show gw = mpB gw W md 2 (mlF W md 2 mf (fun x9 y9 => (mft (lokP gn 0) (wdt 0 W) (wdt 0 H) (nI x9) (nI y9) (mus wh (V 0) 0) (mus wh (V 1) 0)))) (0 * 8) from (blkTo_0 gw _ _ _ _ 8 (mlF W md 2 mf (fun x9 y9 => (mft (lokP gn 0) (wdt 0 W) (wdt 0 H) (nI x9) (nI y9) (mus wh (V 0) 0) (mus wh (V 1) 0))))).symm)))
  have hD := xeqD hD (congrArg (fun z9 => ([(o, .inr (7, mdF th W H mt qu zz nw ol ne se ke nc ns is ik dc sc 2 md wh fa re ve ps 0 tl di lv bf bo bd co bt ma)), (nw, .inl (cs 0, 4608, .inl z9)), (ol, .inl (cs 0, 4608, .inl go)), (ne, .inl (cs 0, 4608, .inl gn)), (ve, .inl (cs 0, 4, .inl V)), (ma, .inl (cs 0, 64, .inl mf))] : va_W)) ((show gw = mpB gw W md 2 (mlF W md 2 mf (fun x9 y9 => (mft (lokP gn 0) (wdt 0 W) (wdt 0 H) (nI x9) (nI y9) (mus wh (V 0) 0) (mus wh (V 1) 0)))) (0 * 8) from (blkTo_0 gw _ _ _ _ 8 (mlF W md 2 mf (fun x9 y9 => (mft (lokP gn 0) (wdt 0 W) (wdt 0 H) (nI x9) (nI y9) (mus wh (V 0) 0) (mus wh (V 1) 0))))).symm)))
  exact loop_91 (8 - 0 + 1) 0 (Nat.lt_succ_self _) (by decide) _ _ _ hP hD hS (lv_sub hl [4, 6, 7, 3, 2, 1, 0] rfl)

set_option maxHeartbeats 4000000 in
set_option maxRecDepth 100000 in
theorem c_X7_putBlock2B (l : Launch) (D : va_G) (cs : Nat → ClassId) (tt : Nat → Nat) (o mt qu zz nw ol ne se ke re ve ps di lv bd co bt ma W H md : Nat) (th nc ns is ik dc sc wh fa tl bf bo : Int32) (gw mf go gn V : Nat → Int32) (hw : 1 ≤ W) (hw4 : W ≤ 4) (hh : 1 ≤ H) (hh3 : H ≤ 3) (hmd : md < W * H) : xM l yX7_putBlock wsX7_putBlock ({ frames := 4, cells := 0, slots := 0, locals := 104 } : Room) D cs tt [.ref o, .int 2, .int 1, .int 0] [(o, .inr (7, mdF th W H mt qu zz nw ol ne se ke nc ns is ik dc sc 3 md wh fa re ve ps 0 tl di lv bf bo bd co bt ma)), (nw, .inl (cs 0, 4608, .inl gw)), (ol, .inl (cs 0, 4608, .inl go)), (ne, .inl (cs 0, 4608, .inl gn)), (ve, .inl (cs 0, 4, .inl V)), (ma, .inl (cs 0, 64, .inl mf))] none [(o, .inr (7, mdF th W H mt qu zz nw ol ne se ke nc ns is ik dc sc 3 md wh fa re ve ps 0 tl di lv bf bo bd co bt ma)), (nw, .inl (cs 0, 4608, .inl (mpB gw W md 2 (mlF W md 2 mf (fun x9 y9 => (mft (lokP go 0) (wdt 0 W) (wdt 0 H) (nI x9) (nI y9) (mus wh (V 0) 0) (mus wh (V 1) 0)))) (64)))), (ol, .inl (cs 0, 4608, .inl go)), (ne, .inl (cs 0, 4608, .inl gn)), (ve, .inl (cs 0, 4, .inl V)), (ma, .inl (cs 0, 64, .inl mf))] := by
  refine xM.of RX7 rfl (by decide) rfl (Nat.le_of_ble_eq_true rfl) ?_
  intro p e s m below meth c A ls hF hr hlk hX hP hD hS hl
  have hx := hF.1
  have hb := hF.2.1
  have hl : lv_has ls 10 [(0, .ref o), (1, .int 2), (2, .int 1), (3, .int 0)] := hl
  have hm4 : md < 4096 := Nat.lt_of_lt_of_le hmd (Nat.le_trans (Nat.mul_le_mul hw4 hh3) (by decide))
  have hb9 := b_in hw hmd 2 (by decide)
  have hbl : (bL W md 2) + 8 ≤ 16 * W := hb9.1
  have hbt : (bT W md 2) + 8 ≤ 16 * H := hb9.2
  have hsL : bL W md 2 = bL W md 2 := rfl
  refine lv_iload_n hx hb dX7_putBlock_0 rfl (lv_at hl 1 rfl) ?_
  refine xSt (rest := []) (As := [.int 2]) (ws1 := [(o, .inr (7, mdF th W H mt qu zz nw ol ne se ke nc ns is ik dc sc 3 md wh fa re ve ps 0 tl di lv bf bo bd co bt ma)), (nw, .inl (cs 0, 4608, .inl gw)), (ol, .inl (cs 0, 4608, .inl go)), (ne, .inl (cs 0, 4608, .inl gn)), (ve, .inl (cs 0, 4, .inl V)), (ma, .inl (cs 0, 64, .inl mf))]) (st1 := [.int (pln 2)]) hF (c_X7_planeOf l D cs tt 2) gX7_putBlock_X7_planeOf rfl (n := 1) (by decide +kernel) rfl ⟨⟨rfl, rfl⟩, Nat.le_of_ble_eq_true rfl, Nat.le_of_ble_eq_true rfl⟩ ⟨Nat.le_of_ble_eq_true rfl, Nat.le_of_ble_eq_true rfl⟩ hX hP hD hS [] (by decide) rfl [] rfl rfl hl.1 rfl (Nat.le_of_ble_eq_true rfl) dX7_putBlock_1 rfl rfl (fun Hp locs hP hD hS => ?_)
  refine xrwi (z := 0) (by decide) ?_
  refine lv_istore (lv' := [(4, .int 0), (0, .ref o), (1, .int 2), (2, .int 1), (3, .int 0)]) hx hb dX7_putBlock_4 hl (by decide) rfl (fun ls hl => ?_)
  refine lv_iload hx hb dX7_putBlock_6 (lv_at hl 0 rfl) ?_
  refine lv_if_ne (tgt := 33) hx hb dX7_putBlock_8 (by decide) (fun c_8 => absurd (by decide) c_8) (fun _ => ?_)
  refine lv_bipush (v := 16) hx hb dX7_putBlock_11 (by decide) ?_
  refine lv_aload_n hx hb dX7_putBlock_13 rfl (lv_at hl 1 rfl) ?_
  refine xget (C := RX7) (T := TX7) (N := 34) hF hX hP (by decide +kernel) 0 18 rfl rfl (by decide) (by decide +kernel) rfl dX7_putBlock_14 ?_
  refine lv_aload_n hx hb dX7_putBlock_17 rfl (lv_at hl 1 rfl) ?_
  refine xget (C := RX7) (T := TX7) (N := 34) hF hX hP (by decide +kernel) 0 1 rfl rfl (by decide) (by decide +kernel) rfl dX7_putBlock_18 ?_
  refine lv_irem hx hb dX7_putBlock_21 (nI_ne0 (by omega) (by omega)) ?_
  refine xrwi (z := nI (md % W)) (pk_rem (by omega) (by omega) (by omega)) ?_
  refine lv_imul hx hb dX7_putBlock_22 ?_
  refine lv_bipush (v := 8) hx hb dX7_putBlock_23 (by decide) ?_
  refine lv_iload_n hx hb dX7_putBlock_25 rfl (lv_at hl 2 rfl) ?_
  refine lv_iconst (v := 2) hx hb dX7_putBlock_26 (by decide) ?_
  refine lv_irem hx hb dX7_putBlock_27 (by decide) ?_
  refine xrwi (z := 0) (by decide) ?_
  refine lv_imul hx hb dX7_putBlock_28 ?_
  refine xrwi (z := 0) (by decide) ?_
  refine lv_iadd hx hb dX7_putBlock_29 ?_
  refine lv_goto (tgt := 45) hx hb dX7_putBlock_30 (by decide) ?_
  refine xrwi (z := nI (bL W md 2)) (by rw [show (16 : Int32) * nI (md % W) = nI (16 * (md % W)) from pk_mul 16 _, show nI (16 * (md % W)) + 0 = nI (16 * (md % W) + 0) from nI_add _ 0]; exact congrArg nI (show 16 * (md % W) + 0 = bL W md 2 by show _ = md % W * 16 + 0; omega)) ?_
  refine lv_istore (lv' := [(5, .int (nI (bL W md 2))), (4, .int 0), (0, .ref o), (1, .int 2), (2, .int 1), (3, .int 0)]) hx hb dX7_putBlock_45 hl (by decide) rfl (fun ls hl => ?_)
  refine lv_iload hx hb dX7_putBlock_47 (lv_at hl 1 rfl) ?_
  refine lv_if_ne (tgt := 74) hx hb dX7_putBlock_49 (by decide) (fun c_49 => absurd (by decide) c_49) (fun _ => ?_)
  refine lv_bipush (v := 16) hx hb dX7_putBlock_52 (by decide) ?_
  refine lv_aload_n hx hb dX7_putBlock_54 rfl (lv_at hl 2 rfl) ?_
  refine xget (C := RX7) (T := TX7) (N := 34) hF hX hP (by decide +kernel) 0 18 rfl rfl (by decide) (by decide +kernel) rfl dX7_putBlock_55 ?_
  refine lv_aload_n hx hb dX7_putBlock_58 rfl (lv_at hl 2 rfl) ?_
  refine xget (C := RX7) (T := TX7) (N := 34) hF hX hP (by decide +kernel) 0 1 rfl rfl (by decide) (by decide +kernel) rfl dX7_putBlock_59 ?_
  refine lv_idiv hx hb dX7_putBlock_62 (nI_ne0 (by omega) (by omega)) ?_
  refine xrwi (z := nI (md / W)) (pk_div (by omega) (by omega) (by omega)) ?_
  refine lv_imul hx hb dX7_putBlock_63 ?_
  refine lv_bipush (v := 8) hx hb dX7_putBlock_64 (by decide) ?_
  refine lv_iload_n hx hb dX7_putBlock_66 rfl (lv_at hl 3 rfl) ?_
  refine lv_iconst (v := 2) hx hb dX7_putBlock_67 (by decide) ?_
  refine lv_idiv hx hb dX7_putBlock_68 (by decide) ?_
  refine xrwi (z := 1) (by decide) ?_
  refine lv_imul hx hb dX7_putBlock_69 ?_
  refine xrwi (z := 8) (by decide) ?_
  refine lv_iadd hx hb dX7_putBlock_70 ?_
  refine lv_goto (tgt := 86) hx hb dX7_putBlock_71 (by decide) ?_
  refine xrwi (z := nI (bT W md 2)) (by rw [show (16 : Int32) * nI (md / W) = nI (16 * (md / W)) from pk_mul 16 _, show nI (16 * (md / W)) + 8 = nI (16 * (md / W) + 8) from nI_add _ 8]; exact congrArg nI (show 16 * (md / W) + 8 = bT W md 2 by show _ = md / W * 16 + 8; omega)) ?_
  refine lv_istore (lv' := [(6, .int (nI (bT W md 2))), (5, .int (nI (bL W md 2))), (4, .int 0), (0, .ref o), (1, .int 2), (2, .int 1), (3, .int 0)]) hx hb dX7_putBlock_86 hl (by decide) rfl (fun ls hl => ?_)
  refine lv_iconst (v := 0) hx hb dX7_putBlock_88 (by decide) ?_
  refine lv_istore (lv' := [(7, .int 0), (6, .int (nI (bT W md 2))), (5, .int (nI (bL W md 2))), (4, .int 0), (0, .ref o), (1, .int 2), (2, .int 1), (3, .int 0)]) hx hb dX7_putBlock_89 hl (by decide) rfl (fun ls hl => ?_)
  have loop_91 : ∀ (k91 : Nat) (y : Nat), 8 - y < k91 → y ≤ 8 → ∀ (Hp : Heap) (locs : List Loc) (ls : Array Slot), va_P D vwCl [(o, .inr (7, mdF th W H mt qu zz nw ol ne se ke nc ns is ik dc sc 3 md wh fa re ve ps 0 tl di lv bf bo bd co bt ma)), (nw, .inl (cs 0, 4608, .inl (mpB gw W md 2 (mlF W md 2 mf (fun x9 y9 => (mft (lokP go 0) (wdt 0 W) (wdt 0 H) (nI x9) (nI y9) (mus wh (V 0) 0) (mus wh (V 1) 0)))) (y * 8)))), (ol, .inl (cs 0, 4608, .inl go)), (ne, .inl (cs 0, 4608, .inl gn)), (ve, .inl (cs 0, 4, .inl V)), (ma, .inl (cs 0, 64, .inl mf))] Hp → va_D A [(o, .inr (7, mdF th W H mt qu zz nw ol ne se ke nc ns is ik dc sc 3 md wh fa re ve ps 0 tl di lv bf bo bd co bt ma)), (nw, .inl (cs 0, 4608, .inl (mpB gw W md 2 (mlF W md 2 mf (fun x9 y9 => (mft (lokP go 0) (wdt 0 W) (wdt 0 H) (nI x9) (nI y9) (mus wh (V 0) 0) (mus wh (V 1) 0)))) (y * 8)))), (ol, .inl (cs 0, 4608, .inl go)), (ne, .inl (cs 0, 4608, .inl gn)), (ve, .inl (cs 0, 4, .inl V)), (ma, .inl (cs 0, 64, .inl mf))] → va_S A s.heap Hp locs → lv_has ls 10 [(0, .ref o), (2, .int 1), (3, .int 0), (4, .int 0), (5, .int (nI (bL W md 2))), (6, .int (nI (bT W md 2))), (7, .int (nI y))] → xW p l e ({ frames := 4, cells := 0, slots := 0, locals := 104 } : Room) s m ([.ref o, .int 2, .int 1, .int 0] : List Value).toArray below meth c Hp locs 0 0 (MQ below (xE D A none [(o, .inr (7, mdF th W H mt qu zz nw ol ne se ke nc ns is ik dc sc 3 md wh fa re ve ps 0 tl di lv bf bo bd co bt ma)), (nw, .inl (cs 0, 4608, .inl (mpB gw W md 2 (mlF W md 2 mf (fun x9 y9 => (mft (lokP go 0) (wdt 0 W) (wdt 0 H) (nI x9) (nI y9) (mus wh (V 0) 0) (mus wh (V 1) 0)))) (64)))), (ol, .inl (cs 0, 4608, .inl go)), (ne, .inl (cs 0, 4608, .inl gn)), (ve, .inl (cs 0, 4, .inl V)), (ma, .inl (cs 0, 64, .inl mf))]) ([.ref o, .int 2, .int 1, .int 0] : List Value).toArray s 0 0 A) (F0 m 91 ls []) := by
    intro k91
    induction k91 with
    | zero => intro y h9; omega
    | succ k91 ih_91 =>
      intro y hk91 hy9 Hp locs ls hP hD hS hl
      refine lv_iload hx hb dX7_putBlock_91 (lv_at hl 6 rfl) ?_
      refine lv_bipush (v := 8) hx hb dX7_putBlock_93 (by decide) ?_
      refine lv_icmp_ge (tgt := 199) hx hb dX7_putBlock_95 (by decide) (fun c_95 => ?_) (fun c_95 => ?_)
      · have ey : y = 8 := by have := nIle (a := 8) (b := y) rfl rfl (by decide) (by omega) c_95; omega
        have hP := xeqP hP (congrArg (fun z9 => ([(o, .inr (7, mdF th W H mt qu zz nw ol ne se ke nc ns is ik dc sc 3 md wh fa re ve ps 0 tl di lv bf bo bd co bt ma)), (nw, .inl (cs 0, 4608, .inl z9)), (ol, .inl (cs 0, 4608, .inl go)), (ne, .inl (cs 0, 4608, .inl gn)), (ve, .inl (cs 0, 4, .inl V)), (ma, .inl (cs 0, 64, .inl mf))] : va_W)) (congrArg (mpB gw W md 2 (mlF W md 2 mf (fun x9 y9 => (mft (lokP go 0) (wdt 0 W) (wdt 0 H) (nI x9) (nI y9) (mus wh (V 0) 0) (mus wh (V 1) 0))))) (show y * 8 = 64 by omega)))
        have hD := xeqD hD (congrArg (fun z9 => ([(o, .inr (7, mdF th W H mt qu zz nw ol ne se ke nc ns is ik dc sc 3 md wh fa re ve ps 0 tl di lv bf bo bd co bt ma)), (nw, .inl (cs 0, 4608, .inl z9)), (ol, .inl (cs 0, 4608, .inl go)), (ne, .inl (cs 0, 4608, .inl gn)), (ve, .inl (cs 0, 4, .inl V)), (ma, .inl (cs 0, 64, .inl mf))] : va_W)) (congrArg (mpB gw W md 2 (mlF W md 2 mf (fun x9 y9 => (mft (lokP go 0) (wdt 0 W) (wdt 0 H) (nI x9) (nI y9) (mus wh (V 0) 0) (mus wh (V 1) 0))))) (show y * 8 = 64 by omega)))
        exact xrv hF hr hlk hP hD hS dX7_putBlock_199
      · have hyl : y < 8 := nInle (a := 8) (b := y) rfl rfl (by decide) (by omega) c_95
        refine lv_iconst (v := 0) hx hb dX7_putBlock_98 (by decide) ?_
        refine lv_istore (lv' := [(8, .int 0), (0, .ref o), (2, .int 1), (3, .int 0), (4, .int 0), (5, .int (nI (bL W md 2))), (6, .int (nI (bT W md 2))), (7, .int (nI y))]) hx hb dX7_putBlock_99 hl (by decide) rfl (fun ls hl => ?_)
        have loop_101 : ∀ (k101 : Nat) (x : Nat), 8 - x < k101 → x ≤ 8 → ∀ (Hp : Heap) (locs : List Loc) (ls : Array Slot), va_P D vwCl [(o, .inr (7, mdF th W H mt qu zz nw ol ne se ke nc ns is ik dc sc 3 md wh fa re ve ps 0 tl di lv bf bo bd co bt ma)), (nw, .inl (cs 0, 4608, .inl (mpB gw W md 2 (mlF W md 2 mf (fun x9 y9 => (mft (lokP go 0) (wdt 0 W) (wdt 0 H) (nI x9) (nI y9) (mus wh (V 0) 0) (mus wh (V 1) 0)))) (y * 8 + x)))), (ol, .inl (cs 0, 4608, .inl go)), (ne, .inl (cs 0, 4608, .inl gn)), (ve, .inl (cs 0, 4, .inl V)), (ma, .inl (cs 0, 64, .inl mf))] Hp → va_D A [(o, .inr (7, mdF th W H mt qu zz nw ol ne se ke nc ns is ik dc sc 3 md wh fa re ve ps 0 tl di lv bf bo bd co bt ma)), (nw, .inl (cs 0, 4608, .inl (mpB gw W md 2 (mlF W md 2 mf (fun x9 y9 => (mft (lokP go 0) (wdt 0 W) (wdt 0 H) (nI x9) (nI y9) (mus wh (V 0) 0) (mus wh (V 1) 0)))) (y * 8 + x)))), (ol, .inl (cs 0, 4608, .inl go)), (ne, .inl (cs 0, 4608, .inl gn)), (ve, .inl (cs 0, 4, .inl V)), (ma, .inl (cs 0, 64, .inl mf))] → va_S A s.heap Hp locs → lv_has ls 10 [(0, .ref o), (2, .int 1), (3, .int 0), (4, .int 0), (5, .int (nI (bL W md 2))), (6, .int (nI (bT W md 2))), (7, .int (nI y)), (8, .int (nI x))] → xW p l e ({ frames := 4, cells := 0, slots := 0, locals := 104 } : Room) s m ([.ref o, .int 2, .int 1, .int 0] : List Value).toArray below meth c Hp locs 0 0 (MQ below (xE D A none [(o, .inr (7, mdF th W H mt qu zz nw ol ne se ke nc ns is ik dc sc 3 md wh fa re ve ps 0 tl di lv bf bo bd co bt ma)), (nw, .inl (cs 0, 4608, .inl (mpB gw W md 2 (mlF W md 2 mf (fun x9 y9 => (mft (lokP go 0) (wdt 0 W) (wdt 0 H) (nI x9) (nI y9) (mus wh (V 0) 0) (mus wh (V 1) 0)))) (64)))), (ol, .inl (cs 0, 4608, .inl go)), (ne, .inl (cs 0, 4608, .inl gn)), (ve, .inl (cs 0, 4, .inl V)), (ma, .inl (cs 0, 64, .inl mf))]) ([.ref o, .int 2, .int 1, .int 0] : List Value).toArray s 0 0 A) (F0 m 101 ls []) := by
          intro k101
          induction k101 with
          | zero => intro x h9; omega
          | succ k101 ih_101 =>
            intro x hk101 hx9 Hp locs ls hP hD hS hl
            refine lv_iload hx hb dX7_putBlock_101 (lv_at hl 7 rfl) ?_
            refine lv_bipush (v := 8) hx hb dX7_putBlock_103 (by decide) ?_
            refine lv_icmp_ge (tgt := 193) hx hb dX7_putBlock_105 (by decide) (fun c_105 => ?_) (fun c_105 => ?_)
            · have ex : x = 8 := by have := nIle (a := 8) (b := x) rfl rfl (by decide) (by omega) c_105; omega
              have hP := xeqP hP (congrArg (fun z9 => ([(o, .inr (7, mdF th W H mt qu zz nw ol ne se ke nc ns is ik dc sc 3 md wh fa re ve ps 0 tl di lv bf bo bd co bt ma)), (nw, .inl (cs 0, 4608, .inl z9)), (ol, .inl (cs 0, 4608, .inl go)), (ne, .inl (cs 0, 4608, .inl gn)), (ve, .inl (cs 0, 4, .inl V)), (ma, .inl (cs 0, 64, .inl mf))] : va_W)) (congrArg (mpB gw W md 2 (mlF W md 2 mf (fun x9 y9 => (mft (lokP go 0) (wdt 0 W) (wdt 0 H) (nI x9) (nI y9) (mus wh (V 0) 0) (mus wh (V 1) 0))))) (show y * 8 + x = (y + 1) * 8 by omega)))
              have hD := xeqD hD (congrArg (fun z9 => ([(o, .inr (7, mdF th W H mt qu zz nw ol ne se ke nc ns is ik dc sc 3 md wh fa re ve ps 0 tl di lv bf bo bd co bt ma)), (nw, .inl (cs 0, 4608, .inl z9)), (ol, .inl (cs 0, 4608, .inl go)), (ne, .inl (cs 0, 4608, .inl gn)), (ve, .inl (cs 0, 4, .inl V)), (ma, .inl (cs 0, 64, .inl mf))] : va_W)) (congrArg (mpB gw W md 2 (mlF W md 2 mf (fun x9 y9 => (mft (lokP go 0) (wdt 0 W) (wdt 0 H) (nI x9) (nI y9) (mus wh (V 0) 0) (mus wh (V 1) 0))))) (show y * 8 + x = (y + 1) * 8 by omega)))
              refine lv_iinc (v := (nI (y + 1))) (lv' := [(7, .int (nI (y + 1))), (0, .ref o), (2, .int 1), (3, .int 0), (4, .int 0), (5, .int (nI (bL W md 2))), (6, .int (nI (bT W md 2))), (8, .int (nI x))]) hx hb dX7_putBlock_193 hl (k := 6) rfl (nI_1 y) (by decide) rfl (fun ls hl => ?_)
              refine lv_goto (tgt := 91) hx hb dX7_putBlock_196 (by decide) ?_
              exact ih_91 (y + 1) (by omega) (by omega) _ _ _ hP hD hS (lv_sub hl [1, 2, 3, 4, 5, 6, 0] rfl)
            · have hxl : x < 8 := nInle (a := 8) (b := x) rfl rfl (by decide) (by omega) c_105
              refine lv_aload_n hx hb dX7_putBlock_108 rfl (lv_at hl 0 rfl) ?_
              refine xget (C := RX7) (T := TX7) (N := 34) hF hX hP (by decide +kernel) 0 33 rfl rfl (by decide) (by decide +kernel) rfl dX7_putBlock_109 ?_
              refine lv_bipush (v := 8) hx hb dX7_putBlock_112 (by decide) ?_
              refine lv_iload hx hb dX7_putBlock_114 (lv_at hl 6 rfl) ?_
              refine lv_imul hx hb dX7_putBlock_116 ?_
              refine lv_iload hx hb dX7_putBlock_117 (lv_at hl 7 rfl) ?_
              refine lv_iadd hx hb dX7_putBlock_119 ?_
              refine xrwi (z := nI (y * 8 + x)) (k8 y x) ?_
              refine xald (k := y * 8 + x) hF hX hP 5 rfl (nI_clamp (by omega)) (vp_in_nI (by omega) (by decide)) dX7_putBlock_120 ?_
              refine lv_istore (lv' := [(9, .int (mf (y * 8 + x))), (0, .ref o), (2, .int 1), (3, .int 0), (4, .int 0), (5, .int (nI (bL W md 2))), (6, .int (nI (bT W md 2))), (7, .int (nI y)), (8, .int (nI x))]) hx hb dX7_putBlock_121 hl (by decide) rfl (fun ls hl => ?_)
              refine lv_aload_n hx hb dX7_putBlock_123 rfl (lv_at hl 1 rfl) ?_
              refine xget (C := RX7) (T := TX7) (N := 34) hF hX hP (by decide +kernel) 0 24 rfl rfl (by decide) (by decide +kernel) rfl dX7_putBlock_124 ?_
              refine lv_if_eq (tgt := 135) hx hb dX7_putBlock_127 (by decide) (fun _ => ?_) (fun c_127 => absurd (by decide) c_127)
              refine lv_iload hx hb dX7_putBlock_135 (lv_at hl 0 rfl) ?_
              refine lv_aload_n hx hb dX7_putBlock_137 rfl (lv_at hl 1 rfl) ?_
              refine lv_iload_n hx hb dX7_putBlock_138 rfl (lv_at hl 2 rfl) ?_
              refine lv_iload_n hx hb dX7_putBlock_139 rfl (lv_at hl 3 rfl) ?_
              refine lv_iload hx hb dX7_putBlock_140 (lv_at hl 4 rfl) ?_
              refine lv_iload hx hb dX7_putBlock_142 (lv_at hl 5 rfl) ?_
              refine lv_iload hx hb dX7_putBlock_144 (lv_at hl 8 rfl) ?_
              refine lv_iadd hx hb dX7_putBlock_146 ?_
              refine xrwi (z := nI ((bL W md 2) + x)) (nI_add _ _) ?_
              refine lv_iload hx hb dX7_putBlock_147 (lv_at hl 6 rfl) ?_
              refine lv_iload hx hb dX7_putBlock_149 (lv_at hl 7 rfl) ?_
              refine lv_iadd hx hb dX7_putBlock_151 ?_
              refine xrwi (z := nI ((bT W md 2) + y)) (nI_add _ _) ?_
              refine xV (rest := [.int (mf (y * 8 + x))]) (As := [.int 1, .int 0, .int 0, .int (nI ((bL W md 2) + x)), .int (nI ((bT W md 2) + y))]) (ws1 := [(o, .inr (7, mdF th W H mt qu zz nw ol ne se ke nc ns is ik dc sc 3 md wh fa re ve ps 0 tl di lv bf bo bd co bt ma)), (nw, .inl (cs 0, 4608, .inl (mpB gw W md 2 (mlF W md 2 mf (fun x9 y9 => (mft (lokP go 0) (wdt 0 W) (wdt 0 H) (nI x9) (nI y9) (mus wh (V 0) 0) (mus wh (V 1) 0)))) (y * 8 + x)))), (ol, .inl (cs 0, 4608, .inl go)), (ne, .inl (cs 0, 4608, .inl gn)), (ve, .inl (cs 0, 4, .inl V)), (ma, .inl (cs 0, 64, .inl mf))]) (st1 := [.int (mft (lokP go 0) (wdt 0 W) (wdt 0 H) (nI ((bL W md 2) + x)) (nI ((bT W md 2) + y)) (mus wh (V 0) 0) (mus wh (V 1) 0)), .int (mf (y * 8 + x))]) hF (c_X7_fetchedB l D cs tt o mt qu zz nw ol ne se ke re ve ps di lv bd co bt ma W H md th nc ns is ik dc sc wh fa 0 tl bf bo 0 (nI ((bL W md 2) + x)) (nI ((bT W md 2) + y)) go gn V (by decide) hw hw4 hh hh3) gX7_putBlock_X7_fetched rfl (n := 5) (by decide +kernel) rfl ⟨⟨rfl, rfl⟩, Nat.le_of_ble_eq_true rfl, Nat.le_of_ble_eq_true rfl⟩ ⟨Nat.le_of_ble_eq_true rfl, Nat.le_of_ble_eq_true rfl⟩ hX hP hD hS [0, 2, 3, 4] (by decide) rfl [o, ol, ne, ve] rfl rfl (q0 := 0) (ci := 7) rfl rfl rfl hl.1 rfl (Nat.le_of_ble_eq_true rfl) dX7_putBlock_152 rfl rfl (fun Hp locs hP hD hS => ?_)
              refine lv_iadd hx hb dX7_putBlock_155 ?_
              refine lv_istore (lv' := [(9, .int ((mf (y * 8 + x)) + (mft (lokP go 0) (wdt 0 W) (wdt 0 H) (nI ((bL W md 2) + x)) (nI ((bT W md 2) + y)) (mus wh (V 0) 0) (mus wh (V 1) 0)))), (0, .ref o), (2, .int 1), (3, .int 0), (4, .int 0), (5, .int (nI (bL W md 2))), (6, .int (nI (bT W md 2))), (7, .int (nI y)), (8, .int (nI x))]) hx hb dX7_putBlock_156 hl (by decide) rfl (fun ls hl => ?_)
              refine lv_aload_n hx hb dX7_putBlock_158 rfl (lv_at hl 1 rfl) ?_
              refine xget (C := RX7) (T := TX7) (N := 34) hF hX hP (by decide +kernel) 0 6 rfl rfl (by decide) (by decide +kernel) rfl dX7_putBlock_159 ?_
              refine lv_iload hx hb dX7_putBlock_162 (lv_at hl 4 rfl) ?_
              refine lv_iload hx hb dX7_putBlock_164 (lv_at hl 5 rfl) ?_
              refine lv_iload hx hb dX7_putBlock_166 (lv_at hl 8 rfl) ?_
              refine lv_iadd hx hb dX7_putBlock_168 ?_
              refine xrwi (z := nI ((bL W md 2) + x)) (nI_add _ _) ?_
              refine lv_iload hx hb dX7_putBlock_169 (lv_at hl 6 rfl) ?_
              refine lv_iload hx hb dX7_putBlock_171 (lv_at hl 7 rfl) ?_
              refine lv_iadd hx hb dX7_putBlock_173 ?_
              refine xrwi (z := nI ((bT W md 2) + y)) (nI_add _ _) ?_
              refine xSt (rest := [.ref nw]) (As := [.int 0, .int (nI ((bL W md 2) + x)), .int (nI ((bT W md 2) + y))]) (ws1 := [(o, .inr (7, mdF th W H mt qu zz nw ol ne se ke nc ns is ik dc sc 3 md wh fa re ve ps 0 tl di lv bf bo bd co bt ma)), (nw, .inl (cs 0, 4608, .inl (mpB gw W md 2 (mlF W md 2 mf (fun x9 y9 => (mft (lokP go 0) (wdt 0 W) (wdt 0 H) (nI x9) (nI y9) (mus wh (V 0) 0) (mus wh (V 1) 0)))) (y * 8 + x)))), (ol, .inl (cs 0, 4608, .inl go)), (ne, .inl (cs 0, 4608, .inl gn)), (ve, .inl (cs 0, 4, .inl V)), (ma, .inl (cs 0, 64, .inl mf))]) (st1 := [.int (nI (plc 0 ((bL W md 2) + x) ((bT W md 2) + y))), .ref nw]) hF (c_X7_place l D cs tt 0 ((bL W md 2) + x) ((bT W md 2) + y) (by decide)) gX7_putBlock_X7_place rfl (n := 3) (by decide +kernel) rfl ⟨⟨rfl, rfl⟩, Nat.le_of_ble_eq_true rfl, Nat.le_of_ble_eq_true rfl⟩ ⟨Nat.le_of_ble_eq_true rfl, Nat.le_of_ble_eq_true rfl⟩ hX hP hD hS [] (by decide) rfl [] rfl rfl hl.1 rfl (Nat.le_of_ble_eq_true rfl) dX7_putBlock_174 rfl rfl (fun Hp locs hP hD hS => ?_)
              refine xrwi (z := nI (0 + (((bT W md 2) + y) * 64 + ((bL W md 2) + x)))) (by unfold plc; rw [if_pos rfl]; exact congrArg nI (by omega)) ?_
              refine lv_iload hx hb dX7_putBlock_177 (lv_at hl 0 rfl) ?_
              refine lv_iconst (v := 0) hx hb dX7_putBlock_179 (by decide) ?_
              refine lv_sipush (v := 255) hx hb dX7_putBlock_180 (by decide) ?_
              refine xSt (rest := [.int (nI (0 + (((bT W md 2) + y) * 64 + ((bL W md 2) + x)))), .ref nw]) (As := [.int ((mf (y * 8 + x)) + (mft (lokP go 0) (wdt 0 W) (wdt 0 H) (nI ((bL W md 2) + x)) (nI ((bT W md 2) + y)) (mus wh (V 0) 0) (mus wh (V 1) 0))), .int 0, .int 255]) (ws1 := [(o, .inr (7, mdF th W H mt qu zz nw ol ne se ke nc ns is ik dc sc 3 md wh fa re ve ps 0 tl di lv bf bo bd co bt ma)), (nw, .inl (cs 0, 4608, .inl (mpB gw W md 2 (mlF W md 2 mf (fun x9 y9 => (mft (lokP go 0) (wdt 0 W) (wdt 0 H) (nI x9) (nI y9) (mus wh (V 0) 0) (mus wh (V 1) 0)))) (y * 8 + x)))), (ol, .inl (cs 0, 4608, .inl go)), (ne, .inl (cs 0, 4608, .inl gn)), (ve, .inl (cs 0, 4, .inl V)), (ma, .inl (cs 0, 64, .inl mf))]) (st1 := [.int (bnd ((mf (y * 8 + x)) + (mft (lokP go 0) (wdt 0 W) (wdt 0 H) (nI ((bL W md 2) + x)) (nI ((bT W md 2) + y)) (mus wh (V 0) 0) (mus wh (V 1) 0))) 0 255), .int (nI (0 + (((bT W md 2) + y) * 64 + ((bL W md 2) + x)))), .ref nw]) hF (c_X7_within l D cs tt ((mf (y * 8 + x)) + (mft (lokP go 0) (wdt 0 W) (wdt 0 H) (nI ((bL W md 2) + x)) (nI ((bT W md 2) + y)) (mus wh (V 0) 0) (mus wh (V 1) 0))) 0 255) gX7_putBlock_X7_within rfl (n := 3) (by decide +kernel) rfl ⟨⟨rfl, rfl⟩, Nat.le_of_ble_eq_true rfl, Nat.le_of_ble_eq_true rfl⟩ ⟨Nat.le_of_ble_eq_true rfl, Nat.le_of_ble_eq_true rfl⟩ hX hP hD hS [] (by decide) rfl [] rfl rfl hl.1 rfl (Nat.le_of_ble_eq_true rfl) dX7_putBlock_183 rfl rfl (fun Hp locs hP hD hS => ?_)
              refine xast (k := 0 + (((bT W md 2) + y) * 64 + ((bL W md 2) + x))) (ws1 := [(o, .inr (7, mdF th W H mt qu zz nw ol ne se ke nc ns is ik dc sc 3 md wh fa re ve ps 0 tl di lv bf bo bd co bt ma)), (nw, .inl (cs 0, 4608, .inl (mpB gw W md 2 (mlF W md 2 mf (fun x9 y9 => (mft (lokP go 0) (wdt 0 W) (wdt 0 H) (nI x9) (nI y9) (mus wh (V 0) 0) (mus wh (V 1) 0)))) (y * 8 + (x + 1))))), (ol, .inl (cs 0, 4608, .inl go)), (ne, .inl (cs 0, 4608, .inl gn)), (ve, .inl (cs 0, 4, .inl V)), (ma, .inl (cs 0, 64, .inl mf))]) hF hX hP hD hS 1 rfl (nI_clamp (by omega)) (vp_in_nI (by omega) (by decide)) dX7_putBlock_186 (congrArg (fun z9 => ([(o, .inr (7, mdF th W H mt qu zz nw ol ne se ke nc ns is ik dc sc 3 md wh fa re ve ps 0 tl di lv bf bo bd co bt ma)), (nw, .inl (cs 0, 4608, .inl z9)), (ol, .inl (cs 0, 4608, .inl go)), (ne, .inl (cs 0, 4608, .inl gn)), (ve, .inl (cs 0, 4, .inl V)), (ma, .inl (cs 0, 64, .inl mf))] : va_W)) (pbs gw (mlF W md 2 mf (fun x9 y9 => (mft (lokP go 0) (wdt 0 W) (wdt 0 H) (nI x9) (nI y9) (mus wh (V 0) 0) (mus wh (V 1) 0)))) (by unfold mlF; rw [show ((bT W md 2) + y - (bT W md 2)) * 8 + ((bL W md 2) + x - (bL W md 2)) = y * 8 + x by omega]) hxl (show (bL W md 2) + 8 ≤ 64 by omega))) (fun Hp locs hP hD hS => ?_)
              refine lv_iinc (v := (nI (x + 1))) (lv' := [(8, .int (nI (x + 1))), (9, .int ((mf (y * 8 + x)) + (mft (lokP go 0) (wdt 0 W) (wdt 0 H) (nI ((bL W md 2) + x)) (nI ((bT W md 2) + y)) (mus wh (V 0) 0) (mus wh (V 1) 0)))), (0, .ref o), (2, .int 1), (3, .int 0), (4, .int 0), (5, .int (nI (bL W md 2))), (6, .int (nI (bT W md 2))), (7, .int (nI y))]) hx hb dX7_putBlock_187 hl (k := 8) rfl (nI_1 x) (by decide) rfl (fun ls hl => ?_)
              refine lv_goto (tgt := 101) hx hb dX7_putBlock_190 (by decide) ?_
              exact ih_101 (x + 1) (by omega) (by omega) _ _ _ hP hD hS (lv_sub hl [2, 3, 4, 5, 6, 7, 8, 0] rfl)
        exact loop_101 (8 - 0 + 1) 0 (Nat.lt_succ_self _) (by decide) _ _ _ hP hD hS (lv_sub hl [1, 2, 3, 4, 5, 6, 7, 0] rfl)
  have hP := xeqP hP (congrArg (fun z9 => ([(o, .inr (7, mdF th W H mt qu zz nw ol ne se ke nc ns is ik dc sc 3 md wh fa re ve ps 0 tl di lv bf bo bd co bt ma)), (nw, .inl (cs 0, 4608, .inl z9)), (ol, .inl (cs 0, 4608, .inl go)), (ne, .inl (cs 0, 4608, .inl gn)), (ve, .inl (cs 0, 4, .inl V)), (ma, .inl (cs 0, 64, .inl mf))] : va_W)) ((show gw = mpB gw W md 2 (mlF W md 2 mf (fun x9 y9 => (mft (lokP go 0) (wdt 0 W) (wdt 0 H) (nI x9) (nI y9) (mus wh (V 0) 0) (mus wh (V 1) 0)))) (0 * 8) from (blkTo_0 gw _ _ _ _ 8 (mlF W md 2 mf (fun x9 y9 => (mft (lokP go 0) (wdt 0 W) (wdt 0 H) (nI x9) (nI y9) (mus wh (V 0) 0) (mus wh (V 1) 0))))).symm)))
  have hD := xeqD hD (congrArg (fun z9 => ([(o, .inr (7, mdF th W H mt qu zz nw ol ne se ke nc ns is ik dc sc 3 md wh fa re ve ps 0 tl di lv bf bo bd co bt ma)), (nw, .inl (cs 0, 4608, .inl z9)), (ol, .inl (cs 0, 4608, .inl go)), (ne, .inl (cs 0, 4608, .inl gn)), (ve, .inl (cs 0, 4, .inl V)), (ma, .inl (cs 0, 64, .inl mf))] : va_W)) ((show gw = mpB gw W md 2 (mlF W md 2 mf (fun x9 y9 => (mft (lokP go 0) (wdt 0 W) (wdt 0 H) (nI x9) (nI y9) (mus wh (V 0) 0) (mus wh (V 1) 0)))) (0 * 8) from (blkTo_0 gw _ _ _ _ 8 (mlF W md 2 mf (fun x9 y9 => (mft (lokP go 0) (wdt 0 W) (wdt 0 H) (nI x9) (nI y9) (mus wh (V 0) 0) (mus wh (V 1) 0))))).symm)))
  exact loop_91 (8 - 0 + 1) 0 (Nat.lt_succ_self _) (by decide) _ _ _ hP hD hS (lv_sub hl [4, 6, 7, 3, 2, 1, 0] rfl)

set_option maxHeartbeats 4000000 in
set_option maxRecDepth 100000 in
theorem c_X7_putBlock2C (l : Launch) (D : va_G) (cs : Nat → ClassId) (tt : Nat → Nat) (o mt qu zz nw ol ne se ke re ve ps di lv bd co bt ma W H md : Nat) (th nc ns is ik dc sc wh fa tl bf bo : Int32) (gw mf go gn V : Nat → Int32) (hw : 1 ≤ W) (hw4 : W ≤ 4) (hh : 1 ≤ H) (hh3 : H ≤ 3) (hmd : md < W * H) : xM l yX7_putBlock wsX7_putBlock ({ frames := 4, cells := 0, slots := 0, locals := 104 } : Room) D cs tt [.ref o, .int 2, .int 0, .int 1] [(o, .inr (7, mdF th W H mt qu zz nw ol ne se ke nc ns is ik dc sc 3 md wh fa re ve ps 0 tl di lv bf bo bd co bt ma)), (nw, .inl (cs 0, 4608, .inl gw)), (ol, .inl (cs 0, 4608, .inl go)), (ne, .inl (cs 0, 4608, .inl gn)), (ve, .inl (cs 0, 4, .inl V)), (ma, .inl (cs 0, 64, .inl mf))] none [(o, .inr (7, mdF th W H mt qu zz nw ol ne se ke nc ns is ik dc sc 3 md wh fa re ve ps 0 tl di lv bf bo bd co bt ma)), (nw, .inl (cs 0, 4608, .inl (mpB gw W md 2 (mlF W md 2 mf (fun x9 y9 => (mft (lokP gn 0) (wdt 0 W) (wdt 0 H) (nI x9) (nI y9) (mus wh (V 2) 0) (mus wh (V 3) 0)))) (64)))), (ol, .inl (cs 0, 4608, .inl go)), (ne, .inl (cs 0, 4608, .inl gn)), (ve, .inl (cs 0, 4, .inl V)), (ma, .inl (cs 0, 64, .inl mf))] := by
  refine xM.of RX7 rfl (by decide) rfl (Nat.le_of_ble_eq_true rfl) ?_
  intro p e s m below meth c A ls hF hr hlk hX hP hD hS hl
  have hx := hF.1
  have hb := hF.2.1
  have hl : lv_has ls 10 [(0, .ref o), (1, .int 2), (2, .int 0), (3, .int 1)] := hl
  have hm4 : md < 4096 := Nat.lt_of_lt_of_le hmd (Nat.le_trans (Nat.mul_le_mul hw4 hh3) (by decide))
  have hb9 := b_in hw hmd 2 (by decide)
  have hbl : (bL W md 2) + 8 ≤ 16 * W := hb9.1
  have hbt : (bT W md 2) + 8 ≤ 16 * H := hb9.2
  have hsL : bL W md 2 = bL W md 2 := rfl
  refine lv_iload_n hx hb dX7_putBlock_0 rfl (lv_at hl 1 rfl) ?_
  refine xSt (rest := []) (As := [.int 2]) (ws1 := [(o, .inr (7, mdF th W H mt qu zz nw ol ne se ke nc ns is ik dc sc 3 md wh fa re ve ps 0 tl di lv bf bo bd co bt ma)), (nw, .inl (cs 0, 4608, .inl gw)), (ol, .inl (cs 0, 4608, .inl go)), (ne, .inl (cs 0, 4608, .inl gn)), (ve, .inl (cs 0, 4, .inl V)), (ma, .inl (cs 0, 64, .inl mf))]) (st1 := [.int (pln 2)]) hF (c_X7_planeOf l D cs tt 2) gX7_putBlock_X7_planeOf rfl (n := 1) (by decide +kernel) rfl ⟨⟨rfl, rfl⟩, Nat.le_of_ble_eq_true rfl, Nat.le_of_ble_eq_true rfl⟩ ⟨Nat.le_of_ble_eq_true rfl, Nat.le_of_ble_eq_true rfl⟩ hX hP hD hS [] (by decide) rfl [] rfl rfl hl.1 rfl (Nat.le_of_ble_eq_true rfl) dX7_putBlock_1 rfl rfl (fun Hp locs hP hD hS => ?_)
  refine xrwi (z := 0) (by decide) ?_
  refine lv_istore (lv' := [(4, .int 0), (0, .ref o), (1, .int 2), (2, .int 0), (3, .int 1)]) hx hb dX7_putBlock_4 hl (by decide) rfl (fun ls hl => ?_)
  refine lv_iload hx hb dX7_putBlock_6 (lv_at hl 0 rfl) ?_
  refine lv_if_ne (tgt := 33) hx hb dX7_putBlock_8 (by decide) (fun c_8 => absurd (by decide) c_8) (fun _ => ?_)
  refine lv_bipush (v := 16) hx hb dX7_putBlock_11 (by decide) ?_
  refine lv_aload_n hx hb dX7_putBlock_13 rfl (lv_at hl 1 rfl) ?_
  refine xget (C := RX7) (T := TX7) (N := 34) hF hX hP (by decide +kernel) 0 18 rfl rfl (by decide) (by decide +kernel) rfl dX7_putBlock_14 ?_
  refine lv_aload_n hx hb dX7_putBlock_17 rfl (lv_at hl 1 rfl) ?_
  refine xget (C := RX7) (T := TX7) (N := 34) hF hX hP (by decide +kernel) 0 1 rfl rfl (by decide) (by decide +kernel) rfl dX7_putBlock_18 ?_
  refine lv_irem hx hb dX7_putBlock_21 (nI_ne0 (by omega) (by omega)) ?_
  refine xrwi (z := nI (md % W)) (pk_rem (by omega) (by omega) (by omega)) ?_
  refine lv_imul hx hb dX7_putBlock_22 ?_
  refine lv_bipush (v := 8) hx hb dX7_putBlock_23 (by decide) ?_
  refine lv_iload_n hx hb dX7_putBlock_25 rfl (lv_at hl 2 rfl) ?_
  refine lv_iconst (v := 2) hx hb dX7_putBlock_26 (by decide) ?_
  refine lv_irem hx hb dX7_putBlock_27 (by decide) ?_
  refine xrwi (z := 0) (by decide) ?_
  refine lv_imul hx hb dX7_putBlock_28 ?_
  refine xrwi (z := 0) (by decide) ?_
  refine lv_iadd hx hb dX7_putBlock_29 ?_
  refine lv_goto (tgt := 45) hx hb dX7_putBlock_30 (by decide) ?_
  refine xrwi (z := nI (bL W md 2)) (by rw [show (16 : Int32) * nI (md % W) = nI (16 * (md % W)) from pk_mul 16 _, show nI (16 * (md % W)) + 0 = nI (16 * (md % W) + 0) from nI_add _ 0]; exact congrArg nI (show 16 * (md % W) + 0 = bL W md 2 by show _ = md % W * 16 + 0; omega)) ?_
  refine lv_istore (lv' := [(5, .int (nI (bL W md 2))), (4, .int 0), (0, .ref o), (1, .int 2), (2, .int 0), (3, .int 1)]) hx hb dX7_putBlock_45 hl (by decide) rfl (fun ls hl => ?_)
  refine lv_iload hx hb dX7_putBlock_47 (lv_at hl 1 rfl) ?_
  refine lv_if_ne (tgt := 74) hx hb dX7_putBlock_49 (by decide) (fun c_49 => absurd (by decide) c_49) (fun _ => ?_)
  refine lv_bipush (v := 16) hx hb dX7_putBlock_52 (by decide) ?_
  refine lv_aload_n hx hb dX7_putBlock_54 rfl (lv_at hl 2 rfl) ?_
  refine xget (C := RX7) (T := TX7) (N := 34) hF hX hP (by decide +kernel) 0 18 rfl rfl (by decide) (by decide +kernel) rfl dX7_putBlock_55 ?_
  refine lv_aload_n hx hb dX7_putBlock_58 rfl (lv_at hl 2 rfl) ?_
  refine xget (C := RX7) (T := TX7) (N := 34) hF hX hP (by decide +kernel) 0 1 rfl rfl (by decide) (by decide +kernel) rfl dX7_putBlock_59 ?_
  refine lv_idiv hx hb dX7_putBlock_62 (nI_ne0 (by omega) (by omega)) ?_
  refine xrwi (z := nI (md / W)) (pk_div (by omega) (by omega) (by omega)) ?_
  refine lv_imul hx hb dX7_putBlock_63 ?_
  refine lv_bipush (v := 8) hx hb dX7_putBlock_64 (by decide) ?_
  refine lv_iload_n hx hb dX7_putBlock_66 rfl (lv_at hl 3 rfl) ?_
  refine lv_iconst (v := 2) hx hb dX7_putBlock_67 (by decide) ?_
  refine lv_idiv hx hb dX7_putBlock_68 (by decide) ?_
  refine xrwi (z := 1) (by decide) ?_
  refine lv_imul hx hb dX7_putBlock_69 ?_
  refine xrwi (z := 8) (by decide) ?_
  refine lv_iadd hx hb dX7_putBlock_70 ?_
  refine lv_goto (tgt := 86) hx hb dX7_putBlock_71 (by decide) ?_
  refine xrwi (z := nI (bT W md 2)) (by rw [show (16 : Int32) * nI (md / W) = nI (16 * (md / W)) from pk_mul 16 _, show nI (16 * (md / W)) + 8 = nI (16 * (md / W) + 8) from nI_add _ 8]; exact congrArg nI (show 16 * (md / W) + 8 = bT W md 2 by show _ = md / W * 16 + 8; omega)) ?_
  refine lv_istore (lv' := [(6, .int (nI (bT W md 2))), (5, .int (nI (bL W md 2))), (4, .int 0), (0, .ref o), (1, .int 2), (2, .int 0), (3, .int 1)]) hx hb dX7_putBlock_86 hl (by decide) rfl (fun ls hl => ?_)
  refine lv_iconst (v := 0) hx hb dX7_putBlock_88 (by decide) ?_
  refine lv_istore (lv' := [(7, .int 0), (6, .int (nI (bT W md 2))), (5, .int (nI (bL W md 2))), (4, .int 0), (0, .ref o), (1, .int 2), (2, .int 0), (3, .int 1)]) hx hb dX7_putBlock_89 hl (by decide) rfl (fun ls hl => ?_)
  have loop_91 : ∀ (k91 : Nat) (y : Nat), 8 - y < k91 → y ≤ 8 → ∀ (Hp : Heap) (locs : List Loc) (ls : Array Slot), va_P D vwCl [(o, .inr (7, mdF th W H mt qu zz nw ol ne se ke nc ns is ik dc sc 3 md wh fa re ve ps 0 tl di lv bf bo bd co bt ma)), (nw, .inl (cs 0, 4608, .inl (mpB gw W md 2 (mlF W md 2 mf (fun x9 y9 => (mft (lokP gn 0) (wdt 0 W) (wdt 0 H) (nI x9) (nI y9) (mus wh (V 2) 0) (mus wh (V 3) 0)))) (y * 8)))), (ol, .inl (cs 0, 4608, .inl go)), (ne, .inl (cs 0, 4608, .inl gn)), (ve, .inl (cs 0, 4, .inl V)), (ma, .inl (cs 0, 64, .inl mf))] Hp → va_D A [(o, .inr (7, mdF th W H mt qu zz nw ol ne se ke nc ns is ik dc sc 3 md wh fa re ve ps 0 tl di lv bf bo bd co bt ma)), (nw, .inl (cs 0, 4608, .inl (mpB gw W md 2 (mlF W md 2 mf (fun x9 y9 => (mft (lokP gn 0) (wdt 0 W) (wdt 0 H) (nI x9) (nI y9) (mus wh (V 2) 0) (mus wh (V 3) 0)))) (y * 8)))), (ol, .inl (cs 0, 4608, .inl go)), (ne, .inl (cs 0, 4608, .inl gn)), (ve, .inl (cs 0, 4, .inl V)), (ma, .inl (cs 0, 64, .inl mf))] → va_S A s.heap Hp locs → lv_has ls 10 [(0, .ref o), (2, .int 0), (3, .int 1), (4, .int 0), (5, .int (nI (bL W md 2))), (6, .int (nI (bT W md 2))), (7, .int (nI y))] → xW p l e ({ frames := 4, cells := 0, slots := 0, locals := 104 } : Room) s m ([.ref o, .int 2, .int 0, .int 1] : List Value).toArray below meth c Hp locs 0 0 (MQ below (xE D A none [(o, .inr (7, mdF th W H mt qu zz nw ol ne se ke nc ns is ik dc sc 3 md wh fa re ve ps 0 tl di lv bf bo bd co bt ma)), (nw, .inl (cs 0, 4608, .inl (mpB gw W md 2 (mlF W md 2 mf (fun x9 y9 => (mft (lokP gn 0) (wdt 0 W) (wdt 0 H) (nI x9) (nI y9) (mus wh (V 2) 0) (mus wh (V 3) 0)))) (64)))), (ol, .inl (cs 0, 4608, .inl go)), (ne, .inl (cs 0, 4608, .inl gn)), (ve, .inl (cs 0, 4, .inl V)), (ma, .inl (cs 0, 64, .inl mf))]) ([.ref o, .int 2, .int 0, .int 1] : List Value).toArray s 0 0 A) (F0 m 91 ls []) := by
    intro k91
    induction k91 with
    | zero => intro y h9; omega
    | succ k91 ih_91 =>
      intro y hk91 hy9 Hp locs ls hP hD hS hl
      refine lv_iload hx hb dX7_putBlock_91 (lv_at hl 6 rfl) ?_
      refine lv_bipush (v := 8) hx hb dX7_putBlock_93 (by decide) ?_
      refine lv_icmp_ge (tgt := 199) hx hb dX7_putBlock_95 (by decide) (fun c_95 => ?_) (fun c_95 => ?_)
      · have ey : y = 8 := by have := nIle (a := 8) (b := y) rfl rfl (by decide) (by omega) c_95; omega
        have hP := xeqP hP (congrArg (fun z9 => ([(o, .inr (7, mdF th W H mt qu zz nw ol ne se ke nc ns is ik dc sc 3 md wh fa re ve ps 0 tl di lv bf bo bd co bt ma)), (nw, .inl (cs 0, 4608, .inl z9)), (ol, .inl (cs 0, 4608, .inl go)), (ne, .inl (cs 0, 4608, .inl gn)), (ve, .inl (cs 0, 4, .inl V)), (ma, .inl (cs 0, 64, .inl mf))] : va_W)) (congrArg (mpB gw W md 2 (mlF W md 2 mf (fun x9 y9 => (mft (lokP gn 0) (wdt 0 W) (wdt 0 H) (nI x9) (nI y9) (mus wh (V 2) 0) (mus wh (V 3) 0))))) (show y * 8 = 64 by omega)))
        have hD := xeqD hD (congrArg (fun z9 => ([(o, .inr (7, mdF th W H mt qu zz nw ol ne se ke nc ns is ik dc sc 3 md wh fa re ve ps 0 tl di lv bf bo bd co bt ma)), (nw, .inl (cs 0, 4608, .inl z9)), (ol, .inl (cs 0, 4608, .inl go)), (ne, .inl (cs 0, 4608, .inl gn)), (ve, .inl (cs 0, 4, .inl V)), (ma, .inl (cs 0, 64, .inl mf))] : va_W)) (congrArg (mpB gw W md 2 (mlF W md 2 mf (fun x9 y9 => (mft (lokP gn 0) (wdt 0 W) (wdt 0 H) (nI x9) (nI y9) (mus wh (V 2) 0) (mus wh (V 3) 0))))) (show y * 8 = 64 by omega)))
        exact xrv hF hr hlk hP hD hS dX7_putBlock_199
      · have hyl : y < 8 := nInle (a := 8) (b := y) rfl rfl (by decide) (by omega) c_95
        refine lv_iconst (v := 0) hx hb dX7_putBlock_98 (by decide) ?_
        refine lv_istore (lv' := [(8, .int 0), (0, .ref o), (2, .int 0), (3, .int 1), (4, .int 0), (5, .int (nI (bL W md 2))), (6, .int (nI (bT W md 2))), (7, .int (nI y))]) hx hb dX7_putBlock_99 hl (by decide) rfl (fun ls hl => ?_)
        have loop_101 : ∀ (k101 : Nat) (x : Nat), 8 - x < k101 → x ≤ 8 → ∀ (Hp : Heap) (locs : List Loc) (ls : Array Slot), va_P D vwCl [(o, .inr (7, mdF th W H mt qu zz nw ol ne se ke nc ns is ik dc sc 3 md wh fa re ve ps 0 tl di lv bf bo bd co bt ma)), (nw, .inl (cs 0, 4608, .inl (mpB gw W md 2 (mlF W md 2 mf (fun x9 y9 => (mft (lokP gn 0) (wdt 0 W) (wdt 0 H) (nI x9) (nI y9) (mus wh (V 2) 0) (mus wh (V 3) 0)))) (y * 8 + x)))), (ol, .inl (cs 0, 4608, .inl go)), (ne, .inl (cs 0, 4608, .inl gn)), (ve, .inl (cs 0, 4, .inl V)), (ma, .inl (cs 0, 64, .inl mf))] Hp → va_D A [(o, .inr (7, mdF th W H mt qu zz nw ol ne se ke nc ns is ik dc sc 3 md wh fa re ve ps 0 tl di lv bf bo bd co bt ma)), (nw, .inl (cs 0, 4608, .inl (mpB gw W md 2 (mlF W md 2 mf (fun x9 y9 => (mft (lokP gn 0) (wdt 0 W) (wdt 0 H) (nI x9) (nI y9) (mus wh (V 2) 0) (mus wh (V 3) 0)))) (y * 8 + x)))), (ol, .inl (cs 0, 4608, .inl go)), (ne, .inl (cs 0, 4608, .inl gn)), (ve, .inl (cs 0, 4, .inl V)), (ma, .inl (cs 0, 64, .inl mf))] → va_S A s.heap Hp locs → lv_has ls 10 [(0, .ref o), (2, .int 0), (3, .int 1), (4, .int 0), (5, .int (nI (bL W md 2))), (6, .int (nI (bT W md 2))), (7, .int (nI y)), (8, .int (nI x))] → xW p l e ({ frames := 4, cells := 0, slots := 0, locals := 104 } : Room) s m ([.ref o, .int 2, .int 0, .int 1] : List Value).toArray below meth c Hp locs 0 0 (MQ below (xE D A none [(o, .inr (7, mdF th W H mt qu zz nw ol ne se ke nc ns is ik dc sc 3 md wh fa re ve ps 0 tl di lv bf bo bd co bt ma)), (nw, .inl (cs 0, 4608, .inl (mpB gw W md 2 (mlF W md 2 mf (fun x9 y9 => (mft (lokP gn 0) (wdt 0 W) (wdt 0 H) (nI x9) (nI y9) (mus wh (V 2) 0) (mus wh (V 3) 0)))) (64)))), (ol, .inl (cs 0, 4608, .inl go)), (ne, .inl (cs 0, 4608, .inl gn)), (ve, .inl (cs 0, 4, .inl V)), (ma, .inl (cs 0, 64, .inl mf))]) ([.ref o, .int 2, .int 0, .int 1] : List Value).toArray s 0 0 A) (F0 m 101 ls []) := by
          intro k101
          induction k101 with
          | zero => intro x h9; omega
          | succ k101 ih_101 =>
            intro x hk101 hx9 Hp locs ls hP hD hS hl
            refine lv_iload hx hb dX7_putBlock_101 (lv_at hl 7 rfl) ?_
            refine lv_bipush (v := 8) hx hb dX7_putBlock_103 (by decide) ?_
            refine lv_icmp_ge (tgt := 193) hx hb dX7_putBlock_105 (by decide) (fun c_105 => ?_) (fun c_105 => ?_)
            · have ex : x = 8 := by have := nIle (a := 8) (b := x) rfl rfl (by decide) (by omega) c_105; omega
              have hP := xeqP hP (congrArg (fun z9 => ([(o, .inr (7, mdF th W H mt qu zz nw ol ne se ke nc ns is ik dc sc 3 md wh fa re ve ps 0 tl di lv bf bo bd co bt ma)), (nw, .inl (cs 0, 4608, .inl z9)), (ol, .inl (cs 0, 4608, .inl go)), (ne, .inl (cs 0, 4608, .inl gn)), (ve, .inl (cs 0, 4, .inl V)), (ma, .inl (cs 0, 64, .inl mf))] : va_W)) (congrArg (mpB gw W md 2 (mlF W md 2 mf (fun x9 y9 => (mft (lokP gn 0) (wdt 0 W) (wdt 0 H) (nI x9) (nI y9) (mus wh (V 2) 0) (mus wh (V 3) 0))))) (show y * 8 + x = (y + 1) * 8 by omega)))
              have hD := xeqD hD (congrArg (fun z9 => ([(o, .inr (7, mdF th W H mt qu zz nw ol ne se ke nc ns is ik dc sc 3 md wh fa re ve ps 0 tl di lv bf bo bd co bt ma)), (nw, .inl (cs 0, 4608, .inl z9)), (ol, .inl (cs 0, 4608, .inl go)), (ne, .inl (cs 0, 4608, .inl gn)), (ve, .inl (cs 0, 4, .inl V)), (ma, .inl (cs 0, 64, .inl mf))] : va_W)) (congrArg (mpB gw W md 2 (mlF W md 2 mf (fun x9 y9 => (mft (lokP gn 0) (wdt 0 W) (wdt 0 H) (nI x9) (nI y9) (mus wh (V 2) 0) (mus wh (V 3) 0))))) (show y * 8 + x = (y + 1) * 8 by omega)))
              refine lv_iinc (v := (nI (y + 1))) (lv' := [(7, .int (nI (y + 1))), (0, .ref o), (2, .int 0), (3, .int 1), (4, .int 0), (5, .int (nI (bL W md 2))), (6, .int (nI (bT W md 2))), (8, .int (nI x))]) hx hb dX7_putBlock_193 hl (k := 6) rfl (nI_1 y) (by decide) rfl (fun ls hl => ?_)
              refine lv_goto (tgt := 91) hx hb dX7_putBlock_196 (by decide) ?_
              exact ih_91 (y + 1) (by omega) (by omega) _ _ _ hP hD hS (lv_sub hl [1, 2, 3, 4, 5, 6, 0] rfl)
            · have hxl : x < 8 := nInle (a := 8) (b := x) rfl rfl (by decide) (by omega) c_105
              refine lv_aload_n hx hb dX7_putBlock_108 rfl (lv_at hl 0 rfl) ?_
              refine xget (C := RX7) (T := TX7) (N := 34) hF hX hP (by decide +kernel) 0 33 rfl rfl (by decide) (by decide +kernel) rfl dX7_putBlock_109 ?_
              refine lv_bipush (v := 8) hx hb dX7_putBlock_112 (by decide) ?_
              refine lv_iload hx hb dX7_putBlock_114 (lv_at hl 6 rfl) ?_
              refine lv_imul hx hb dX7_putBlock_116 ?_
              refine lv_iload hx hb dX7_putBlock_117 (lv_at hl 7 rfl) ?_
              refine lv_iadd hx hb dX7_putBlock_119 ?_
              refine xrwi (z := nI (y * 8 + x)) (k8 y x) ?_
              refine xald (k := y * 8 + x) hF hX hP 5 rfl (nI_clamp (by omega)) (vp_in_nI (by omega) (by decide)) dX7_putBlock_120 ?_
              refine lv_istore (lv' := [(9, .int (mf (y * 8 + x))), (0, .ref o), (2, .int 0), (3, .int 1), (4, .int 0), (5, .int (nI (bL W md 2))), (6, .int (nI (bT W md 2))), (7, .int (nI y)), (8, .int (nI x))]) hx hb dX7_putBlock_121 hl (by decide) rfl (fun ls hl => ?_)
              refine lv_aload_n hx hb dX7_putBlock_123 rfl (lv_at hl 1 rfl) ?_
              refine xget (C := RX7) (T := TX7) (N := 34) hF hX hP (by decide +kernel) 0 24 rfl rfl (by decide) (by decide +kernel) rfl dX7_putBlock_124 ?_
              refine lv_if_eq (tgt := 135) hx hb dX7_putBlock_127 (by decide) (fun _ => ?_) (fun c_127 => absurd (by decide) c_127)
              refine lv_iload hx hb dX7_putBlock_135 (lv_at hl 0 rfl) ?_
              refine lv_aload_n hx hb dX7_putBlock_137 rfl (lv_at hl 1 rfl) ?_
              refine lv_iload_n hx hb dX7_putBlock_138 rfl (lv_at hl 2 rfl) ?_
              refine lv_iload_n hx hb dX7_putBlock_139 rfl (lv_at hl 3 rfl) ?_
              refine lv_iload hx hb dX7_putBlock_140 (lv_at hl 4 rfl) ?_
              refine lv_iload hx hb dX7_putBlock_142 (lv_at hl 5 rfl) ?_
              refine lv_iload hx hb dX7_putBlock_144 (lv_at hl 8 rfl) ?_
              refine lv_iadd hx hb dX7_putBlock_146 ?_
              refine xrwi (z := nI ((bL W md 2) + x)) (nI_add _ _) ?_
              refine lv_iload hx hb dX7_putBlock_147 (lv_at hl 6 rfl) ?_
              refine lv_iload hx hb dX7_putBlock_149 (lv_at hl 7 rfl) ?_
              refine lv_iadd hx hb dX7_putBlock_151 ?_
              refine xrwi (z := nI ((bT W md 2) + y)) (nI_add _ _) ?_
              refine xV (rest := [.int (mf (y * 8 + x))]) (As := [.int 0, .int 1, .int 0, .int (nI ((bL W md 2) + x)), .int (nI ((bT W md 2) + y))]) (ws1 := [(o, .inr (7, mdF th W H mt qu zz nw ol ne se ke nc ns is ik dc sc 3 md wh fa re ve ps 0 tl di lv bf bo bd co bt ma)), (nw, .inl (cs 0, 4608, .inl (mpB gw W md 2 (mlF W md 2 mf (fun x9 y9 => (mft (lokP gn 0) (wdt 0 W) (wdt 0 H) (nI x9) (nI y9) (mus wh (V 2) 0) (mus wh (V 3) 0)))) (y * 8 + x)))), (ol, .inl (cs 0, 4608, .inl go)), (ne, .inl (cs 0, 4608, .inl gn)), (ve, .inl (cs 0, 4, .inl V)), (ma, .inl (cs 0, 64, .inl mf))]) (st1 := [.int (mft (lokP gn 0) (wdt 0 W) (wdt 0 H) (nI ((bL W md 2) + x)) (nI ((bT W md 2) + y)) (mus wh (V 2) 0) (mus wh (V 3) 0)), .int (mf (y * 8 + x))]) hF (c_X7_fetchedC l D cs tt o mt qu zz nw ol ne se ke re ve ps di lv bd co bt ma W H md th nc ns is ik dc sc wh fa 0 tl bf bo 0 (nI ((bL W md 2) + x)) (nI ((bT W md 2) + y)) go gn V (by decide) hw hw4 hh hh3) gX7_putBlock_X7_fetched rfl (n := 5) (by decide +kernel) rfl ⟨⟨rfl, rfl⟩, Nat.le_of_ble_eq_true rfl, Nat.le_of_ble_eq_true rfl⟩ ⟨Nat.le_of_ble_eq_true rfl, Nat.le_of_ble_eq_true rfl⟩ hX hP hD hS [0, 2, 3, 4] (by decide) rfl [o, ol, ne, ve] rfl rfl (q0 := 0) (ci := 7) rfl rfl rfl hl.1 rfl (Nat.le_of_ble_eq_true rfl) dX7_putBlock_152 rfl rfl (fun Hp locs hP hD hS => ?_)
              refine lv_iadd hx hb dX7_putBlock_155 ?_
              refine lv_istore (lv' := [(9, .int ((mf (y * 8 + x)) + (mft (lokP gn 0) (wdt 0 W) (wdt 0 H) (nI ((bL W md 2) + x)) (nI ((bT W md 2) + y)) (mus wh (V 2) 0) (mus wh (V 3) 0)))), (0, .ref o), (2, .int 0), (3, .int 1), (4, .int 0), (5, .int (nI (bL W md 2))), (6, .int (nI (bT W md 2))), (7, .int (nI y)), (8, .int (nI x))]) hx hb dX7_putBlock_156 hl (by decide) rfl (fun ls hl => ?_)
              refine lv_aload_n hx hb dX7_putBlock_158 rfl (lv_at hl 1 rfl) ?_
              refine xget (C := RX7) (T := TX7) (N := 34) hF hX hP (by decide +kernel) 0 6 rfl rfl (by decide) (by decide +kernel) rfl dX7_putBlock_159 ?_
              refine lv_iload hx hb dX7_putBlock_162 (lv_at hl 4 rfl) ?_
              refine lv_iload hx hb dX7_putBlock_164 (lv_at hl 5 rfl) ?_
              refine lv_iload hx hb dX7_putBlock_166 (lv_at hl 8 rfl) ?_
              refine lv_iadd hx hb dX7_putBlock_168 ?_
              refine xrwi (z := nI ((bL W md 2) + x)) (nI_add _ _) ?_
              refine lv_iload hx hb dX7_putBlock_169 (lv_at hl 6 rfl) ?_
              refine lv_iload hx hb dX7_putBlock_171 (lv_at hl 7 rfl) ?_
              refine lv_iadd hx hb dX7_putBlock_173 ?_
              refine xrwi (z := nI ((bT W md 2) + y)) (nI_add _ _) ?_
              refine xSt (rest := [.ref nw]) (As := [.int 0, .int (nI ((bL W md 2) + x)), .int (nI ((bT W md 2) + y))]) (ws1 := [(o, .inr (7, mdF th W H mt qu zz nw ol ne se ke nc ns is ik dc sc 3 md wh fa re ve ps 0 tl di lv bf bo bd co bt ma)), (nw, .inl (cs 0, 4608, .inl (mpB gw W md 2 (mlF W md 2 mf (fun x9 y9 => (mft (lokP gn 0) (wdt 0 W) (wdt 0 H) (nI x9) (nI y9) (mus wh (V 2) 0) (mus wh (V 3) 0)))) (y * 8 + x)))), (ol, .inl (cs 0, 4608, .inl go)), (ne, .inl (cs 0, 4608, .inl gn)), (ve, .inl (cs 0, 4, .inl V)), (ma, .inl (cs 0, 64, .inl mf))]) (st1 := [.int (nI (plc 0 ((bL W md 2) + x) ((bT W md 2) + y))), .ref nw]) hF (c_X7_place l D cs tt 0 ((bL W md 2) + x) ((bT W md 2) + y) (by decide)) gX7_putBlock_X7_place rfl (n := 3) (by decide +kernel) rfl ⟨⟨rfl, rfl⟩, Nat.le_of_ble_eq_true rfl, Nat.le_of_ble_eq_true rfl⟩ ⟨Nat.le_of_ble_eq_true rfl, Nat.le_of_ble_eq_true rfl⟩ hX hP hD hS [] (by decide) rfl [] rfl rfl hl.1 rfl (Nat.le_of_ble_eq_true rfl) dX7_putBlock_174 rfl rfl (fun Hp locs hP hD hS => ?_)
              refine xrwi (z := nI (0 + (((bT W md 2) + y) * 64 + ((bL W md 2) + x)))) (by unfold plc; rw [if_pos rfl]; exact congrArg nI (by omega)) ?_
              refine lv_iload hx hb dX7_putBlock_177 (lv_at hl 0 rfl) ?_
              refine lv_iconst (v := 0) hx hb dX7_putBlock_179 (by decide) ?_
              refine lv_sipush (v := 255) hx hb dX7_putBlock_180 (by decide) ?_
              refine xSt (rest := [.int (nI (0 + (((bT W md 2) + y) * 64 + ((bL W md 2) + x)))), .ref nw]) (As := [.int ((mf (y * 8 + x)) + (mft (lokP gn 0) (wdt 0 W) (wdt 0 H) (nI ((bL W md 2) + x)) (nI ((bT W md 2) + y)) (mus wh (V 2) 0) (mus wh (V 3) 0))), .int 0, .int 255]) (ws1 := [(o, .inr (7, mdF th W H mt qu zz nw ol ne se ke nc ns is ik dc sc 3 md wh fa re ve ps 0 tl di lv bf bo bd co bt ma)), (nw, .inl (cs 0, 4608, .inl (mpB gw W md 2 (mlF W md 2 mf (fun x9 y9 => (mft (lokP gn 0) (wdt 0 W) (wdt 0 H) (nI x9) (nI y9) (mus wh (V 2) 0) (mus wh (V 3) 0)))) (y * 8 + x)))), (ol, .inl (cs 0, 4608, .inl go)), (ne, .inl (cs 0, 4608, .inl gn)), (ve, .inl (cs 0, 4, .inl V)), (ma, .inl (cs 0, 64, .inl mf))]) (st1 := [.int (bnd ((mf (y * 8 + x)) + (mft (lokP gn 0) (wdt 0 W) (wdt 0 H) (nI ((bL W md 2) + x)) (nI ((bT W md 2) + y)) (mus wh (V 2) 0) (mus wh (V 3) 0))) 0 255), .int (nI (0 + (((bT W md 2) + y) * 64 + ((bL W md 2) + x)))), .ref nw]) hF (c_X7_within l D cs tt ((mf (y * 8 + x)) + (mft (lokP gn 0) (wdt 0 W) (wdt 0 H) (nI ((bL W md 2) + x)) (nI ((bT W md 2) + y)) (mus wh (V 2) 0) (mus wh (V 3) 0))) 0 255) gX7_putBlock_X7_within rfl (n := 3) (by decide +kernel) rfl ⟨⟨rfl, rfl⟩, Nat.le_of_ble_eq_true rfl, Nat.le_of_ble_eq_true rfl⟩ ⟨Nat.le_of_ble_eq_true rfl, Nat.le_of_ble_eq_true rfl⟩ hX hP hD hS [] (by decide) rfl [] rfl rfl hl.1 rfl (Nat.le_of_ble_eq_true rfl) dX7_putBlock_183 rfl rfl (fun Hp locs hP hD hS => ?_)
              refine xast (k := 0 + (((bT W md 2) + y) * 64 + ((bL W md 2) + x))) (ws1 := [(o, .inr (7, mdF th W H mt qu zz nw ol ne se ke nc ns is ik dc sc 3 md wh fa re ve ps 0 tl di lv bf bo bd co bt ma)), (nw, .inl (cs 0, 4608, .inl (mpB gw W md 2 (mlF W md 2 mf (fun x9 y9 => (mft (lokP gn 0) (wdt 0 W) (wdt 0 H) (nI x9) (nI y9) (mus wh (V 2) 0) (mus wh (V 3) 0)))) (y * 8 + (x + 1))))), (ol, .inl (cs 0, 4608, .inl go)), (ne, .inl (cs 0, 4608, .inl gn)), (ve, .inl (cs 0, 4, .inl V)), (ma, .inl (cs 0, 64, .inl mf))]) hF hX hP hD hS 1 rfl (nI_clamp (by omega)) (vp_in_nI (by omega) (by decide)) dX7_putBlock_186 (congrArg (fun z9 => ([(o, .inr (7, mdF th W H mt qu zz nw ol ne se ke nc ns is ik dc sc 3 md wh fa re ve ps 0 tl di lv bf bo bd co bt ma)), (nw, .inl (cs 0, 4608, .inl z9)), (ol, .inl (cs 0, 4608, .inl go)), (ne, .inl (cs 0, 4608, .inl gn)), (ve, .inl (cs 0, 4, .inl V)), (ma, .inl (cs 0, 64, .inl mf))] : va_W)) (pbs gw (mlF W md 2 mf (fun x9 y9 => (mft (lokP gn 0) (wdt 0 W) (wdt 0 H) (nI x9) (nI y9) (mus wh (V 2) 0) (mus wh (V 3) 0)))) (by unfold mlF; rw [show ((bT W md 2) + y - (bT W md 2)) * 8 + ((bL W md 2) + x - (bL W md 2)) = y * 8 + x by omega]) hxl (show (bL W md 2) + 8 ≤ 64 by omega))) (fun Hp locs hP hD hS => ?_)
              refine lv_iinc (v := (nI (x + 1))) (lv' := [(8, .int (nI (x + 1))), (9, .int ((mf (y * 8 + x)) + (mft (lokP gn 0) (wdt 0 W) (wdt 0 H) (nI ((bL W md 2) + x)) (nI ((bT W md 2) + y)) (mus wh (V 2) 0) (mus wh (V 3) 0)))), (0, .ref o), (2, .int 0), (3, .int 1), (4, .int 0), (5, .int (nI (bL W md 2))), (6, .int (nI (bT W md 2))), (7, .int (nI y))]) hx hb dX7_putBlock_187 hl (k := 8) rfl (nI_1 x) (by decide) rfl (fun ls hl => ?_)
              refine lv_goto (tgt := 101) hx hb dX7_putBlock_190 (by decide) ?_
              exact ih_101 (x + 1) (by omega) (by omega) _ _ _ hP hD hS (lv_sub hl [2, 3, 4, 5, 6, 7, 8, 0] rfl)
        exact loop_101 (8 - 0 + 1) 0 (Nat.lt_succ_self _) (by decide) _ _ _ hP hD hS (lv_sub hl [1, 2, 3, 4, 5, 6, 7, 0] rfl)
  have hP := xeqP hP (congrArg (fun z9 => ([(o, .inr (7, mdF th W H mt qu zz nw ol ne se ke nc ns is ik dc sc 3 md wh fa re ve ps 0 tl di lv bf bo bd co bt ma)), (nw, .inl (cs 0, 4608, .inl z9)), (ol, .inl (cs 0, 4608, .inl go)), (ne, .inl (cs 0, 4608, .inl gn)), (ve, .inl (cs 0, 4, .inl V)), (ma, .inl (cs 0, 64, .inl mf))] : va_W)) ((show gw = mpB gw W md 2 (mlF W md 2 mf (fun x9 y9 => (mft (lokP gn 0) (wdt 0 W) (wdt 0 H) (nI x9) (nI y9) (mus wh (V 2) 0) (mus wh (V 3) 0)))) (0 * 8) from (blkTo_0 gw _ _ _ _ 8 (mlF W md 2 mf (fun x9 y9 => (mft (lokP gn 0) (wdt 0 W) (wdt 0 H) (nI x9) (nI y9) (mus wh (V 2) 0) (mus wh (V 3) 0))))).symm)))
  have hD := xeqD hD (congrArg (fun z9 => ([(o, .inr (7, mdF th W H mt qu zz nw ol ne se ke nc ns is ik dc sc 3 md wh fa re ve ps 0 tl di lv bf bo bd co bt ma)), (nw, .inl (cs 0, 4608, .inl z9)), (ol, .inl (cs 0, 4608, .inl go)), (ne, .inl (cs 0, 4608, .inl gn)), (ve, .inl (cs 0, 4, .inl V)), (ma, .inl (cs 0, 64, .inl mf))] : va_W)) ((show gw = mpB gw W md 2 (mlF W md 2 mf (fun x9 y9 => (mft (lokP gn 0) (wdt 0 W) (wdt 0 H) (nI x9) (nI y9) (mus wh (V 2) 0) (mus wh (V 3) 0)))) (0 * 8) from (blkTo_0 gw _ _ _ _ 8 (mlF W md 2 mf (fun x9 y9 => (mft (lokP gn 0) (wdt 0 W) (wdt 0 H) (nI x9) (nI y9) (mus wh (V 2) 0) (mus wh (V 3) 0))))).symm)))
  exact loop_91 (8 - 0 + 1) 0 (Nat.lt_succ_self _) (by decide) _ _ _ hP hD hS (lv_sub hl [4, 6, 7, 3, 2, 1, 0] rfl)

set_option maxHeartbeats 4000000 in
set_option maxRecDepth 100000 in
theorem c_X7_putBlock2D (l : Launch) (D : va_G) (cs : Nat → ClassId) (tt : Nat → Nat) (o mt qu zz nw ol ne se ke re ve ps di lv bd co bt ma W H md : Nat) (th nc ns is ik dc sc wh fa tl bf bo : Int32) (gw mf go gn V : Nat → Int32) (hw : 1 ≤ W) (hw4 : W ≤ 4) (hh : 1 ≤ H) (hh3 : H ≤ 3) (hmd : md < W * H) : xM l yX7_putBlock wsX7_putBlock ({ frames := 4, cells := 0, slots := 0, locals := 104 } : Room) D cs tt [.ref o, .int 2, .int 1, .int 1] [(o, .inr (7, mdF th W H mt qu zz nw ol ne se ke nc ns is ik dc sc 3 md wh fa re ve ps 0 tl di lv bf bo bd co bt ma)), (nw, .inl (cs 0, 4608, .inl gw)), (ol, .inl (cs 0, 4608, .inl go)), (ne, .inl (cs 0, 4608, .inl gn)), (ve, .inl (cs 0, 4, .inl V)), (ma, .inl (cs 0, 64, .inl mf))] none [(o, .inr (7, mdF th W H mt qu zz nw ol ne se ke nc ns is ik dc sc 3 md wh fa re ve ps 0 tl di lv bf bo bd co bt ma)), (nw, .inl (cs 0, 4608, .inl (mpB gw W md 2 (mlF W md 2 mf (fun x9 y9 => (((mft (lokP go 0) (wdt 0 W) (wdt 0 H) (nI x9) (nI y9) (mus wh (V 0) 0) (mus wh (V 1) 0)) + (mft (lokP gn 0) (wdt 0 W) (wdt 0 H) (nI x9) (nI y9) (mus wh (V 2) 0) (mus wh (V 3) 0)) + 1) >>> (1 &&& 31)))) (64)))), (ol, .inl (cs 0, 4608, .inl go)), (ne, .inl (cs 0, 4608, .inl gn)), (ve, .inl (cs 0, 4, .inl V)), (ma, .inl (cs 0, 64, .inl mf))] := by
  refine xM.of RX7 rfl (by decide) rfl (Nat.le_of_ble_eq_true rfl) ?_
  intro p e s m below meth c A ls hF hr hlk hX hP hD hS hl
  have hx := hF.1
  have hb := hF.2.1
  have hl : lv_has ls 10 [(0, .ref o), (1, .int 2), (2, .int 1), (3, .int 1)] := hl
  have hm4 : md < 4096 := Nat.lt_of_lt_of_le hmd (Nat.le_trans (Nat.mul_le_mul hw4 hh3) (by decide))
  have hb9 := b_in hw hmd 2 (by decide)
  have hbl : (bL W md 2) + 8 ≤ 16 * W := hb9.1
  have hbt : (bT W md 2) + 8 ≤ 16 * H := hb9.2
  have hsL : bL W md 2 = bL W md 2 := rfl
  refine lv_iload_n hx hb dX7_putBlock_0 rfl (lv_at hl 1 rfl) ?_
  refine xSt (rest := []) (As := [.int 2]) (ws1 := [(o, .inr (7, mdF th W H mt qu zz nw ol ne se ke nc ns is ik dc sc 3 md wh fa re ve ps 0 tl di lv bf bo bd co bt ma)), (nw, .inl (cs 0, 4608, .inl gw)), (ol, .inl (cs 0, 4608, .inl go)), (ne, .inl (cs 0, 4608, .inl gn)), (ve, .inl (cs 0, 4, .inl V)), (ma, .inl (cs 0, 64, .inl mf))]) (st1 := [.int (pln 2)]) hF (c_X7_planeOf l D cs tt 2) gX7_putBlock_X7_planeOf rfl (n := 1) (by decide +kernel) rfl ⟨⟨rfl, rfl⟩, Nat.le_of_ble_eq_true rfl, Nat.le_of_ble_eq_true rfl⟩ ⟨Nat.le_of_ble_eq_true rfl, Nat.le_of_ble_eq_true rfl⟩ hX hP hD hS [] (by decide) rfl [] rfl rfl hl.1 rfl (Nat.le_of_ble_eq_true rfl) dX7_putBlock_1 rfl rfl (fun Hp locs hP hD hS => ?_)
  refine xrwi (z := 0) (by decide) ?_
  refine lv_istore (lv' := [(4, .int 0), (0, .ref o), (1, .int 2), (2, .int 1), (3, .int 1)]) hx hb dX7_putBlock_4 hl (by decide) rfl (fun ls hl => ?_)
  refine lv_iload hx hb dX7_putBlock_6 (lv_at hl 0 rfl) ?_
  refine lv_if_ne (tgt := 33) hx hb dX7_putBlock_8 (by decide) (fun c_8 => absurd (by decide) c_8) (fun _ => ?_)
  refine lv_bipush (v := 16) hx hb dX7_putBlock_11 (by decide) ?_
  refine lv_aload_n hx hb dX7_putBlock_13 rfl (lv_at hl 1 rfl) ?_
  refine xget (C := RX7) (T := TX7) (N := 34) hF hX hP (by decide +kernel) 0 18 rfl rfl (by decide) (by decide +kernel) rfl dX7_putBlock_14 ?_
  refine lv_aload_n hx hb dX7_putBlock_17 rfl (lv_at hl 1 rfl) ?_
  refine xget (C := RX7) (T := TX7) (N := 34) hF hX hP (by decide +kernel) 0 1 rfl rfl (by decide) (by decide +kernel) rfl dX7_putBlock_18 ?_
  refine lv_irem hx hb dX7_putBlock_21 (nI_ne0 (by omega) (by omega)) ?_
  refine xrwi (z := nI (md % W)) (pk_rem (by omega) (by omega) (by omega)) ?_
  refine lv_imul hx hb dX7_putBlock_22 ?_
  refine lv_bipush (v := 8) hx hb dX7_putBlock_23 (by decide) ?_
  refine lv_iload_n hx hb dX7_putBlock_25 rfl (lv_at hl 2 rfl) ?_
  refine lv_iconst (v := 2) hx hb dX7_putBlock_26 (by decide) ?_
  refine lv_irem hx hb dX7_putBlock_27 (by decide) ?_
  refine xrwi (z := 0) (by decide) ?_
  refine lv_imul hx hb dX7_putBlock_28 ?_
  refine xrwi (z := 0) (by decide) ?_
  refine lv_iadd hx hb dX7_putBlock_29 ?_
  refine lv_goto (tgt := 45) hx hb dX7_putBlock_30 (by decide) ?_
  refine xrwi (z := nI (bL W md 2)) (by rw [show (16 : Int32) * nI (md % W) = nI (16 * (md % W)) from pk_mul 16 _, show nI (16 * (md % W)) + 0 = nI (16 * (md % W) + 0) from nI_add _ 0]; exact congrArg nI (show 16 * (md % W) + 0 = bL W md 2 by show _ = md % W * 16 + 0; omega)) ?_
  refine lv_istore (lv' := [(5, .int (nI (bL W md 2))), (4, .int 0), (0, .ref o), (1, .int 2), (2, .int 1), (3, .int 1)]) hx hb dX7_putBlock_45 hl (by decide) rfl (fun ls hl => ?_)
  refine lv_iload hx hb dX7_putBlock_47 (lv_at hl 1 rfl) ?_
  refine lv_if_ne (tgt := 74) hx hb dX7_putBlock_49 (by decide) (fun c_49 => absurd (by decide) c_49) (fun _ => ?_)
  refine lv_bipush (v := 16) hx hb dX7_putBlock_52 (by decide) ?_
  refine lv_aload_n hx hb dX7_putBlock_54 rfl (lv_at hl 2 rfl) ?_
  refine xget (C := RX7) (T := TX7) (N := 34) hF hX hP (by decide +kernel) 0 18 rfl rfl (by decide) (by decide +kernel) rfl dX7_putBlock_55 ?_
  refine lv_aload_n hx hb dX7_putBlock_58 rfl (lv_at hl 2 rfl) ?_
  refine xget (C := RX7) (T := TX7) (N := 34) hF hX hP (by decide +kernel) 0 1 rfl rfl (by decide) (by decide +kernel) rfl dX7_putBlock_59 ?_
  refine lv_idiv hx hb dX7_putBlock_62 (nI_ne0 (by omega) (by omega)) ?_
  refine xrwi (z := nI (md / W)) (pk_div (by omega) (by omega) (by omega)) ?_
  refine lv_imul hx hb dX7_putBlock_63 ?_
  refine lv_bipush (v := 8) hx hb dX7_putBlock_64 (by decide) ?_
  refine lv_iload_n hx hb dX7_putBlock_66 rfl (lv_at hl 3 rfl) ?_
  refine lv_iconst (v := 2) hx hb dX7_putBlock_67 (by decide) ?_
  refine lv_idiv hx hb dX7_putBlock_68 (by decide) ?_
  refine xrwi (z := 1) (by decide) ?_
  refine lv_imul hx hb dX7_putBlock_69 ?_
  refine xrwi (z := 8) (by decide) ?_
  refine lv_iadd hx hb dX7_putBlock_70 ?_
  refine lv_goto (tgt := 86) hx hb dX7_putBlock_71 (by decide) ?_
  refine xrwi (z := nI (bT W md 2)) (by rw [show (16 : Int32) * nI (md / W) = nI (16 * (md / W)) from pk_mul 16 _, show nI (16 * (md / W)) + 8 = nI (16 * (md / W) + 8) from nI_add _ 8]; exact congrArg nI (show 16 * (md / W) + 8 = bT W md 2 by show _ = md / W * 16 + 8; omega)) ?_
  refine lv_istore (lv' := [(6, .int (nI (bT W md 2))), (5, .int (nI (bL W md 2))), (4, .int 0), (0, .ref o), (1, .int 2), (2, .int 1), (3, .int 1)]) hx hb dX7_putBlock_86 hl (by decide) rfl (fun ls hl => ?_)
  refine lv_iconst (v := 0) hx hb dX7_putBlock_88 (by decide) ?_
  refine lv_istore (lv' := [(7, .int 0), (6, .int (nI (bT W md 2))), (5, .int (nI (bL W md 2))), (4, .int 0), (0, .ref o), (1, .int 2), (2, .int 1), (3, .int 1)]) hx hb dX7_putBlock_89 hl (by decide) rfl (fun ls hl => ?_)
  have loop_91 : ∀ (k91 : Nat) (y : Nat), 8 - y < k91 → y ≤ 8 → ∀ (Hp : Heap) (locs : List Loc) (ls : Array Slot), va_P D vwCl [(o, .inr (7, mdF th W H mt qu zz nw ol ne se ke nc ns is ik dc sc 3 md wh fa re ve ps 0 tl di lv bf bo bd co bt ma)), (nw, .inl (cs 0, 4608, .inl (mpB gw W md 2 (mlF W md 2 mf (fun x9 y9 => (((mft (lokP go 0) (wdt 0 W) (wdt 0 H) (nI x9) (nI y9) (mus wh (V 0) 0) (mus wh (V 1) 0)) + (mft (lokP gn 0) (wdt 0 W) (wdt 0 H) (nI x9) (nI y9) (mus wh (V 2) 0) (mus wh (V 3) 0)) + 1) >>> (1 &&& 31)))) (y * 8)))), (ol, .inl (cs 0, 4608, .inl go)), (ne, .inl (cs 0, 4608, .inl gn)), (ve, .inl (cs 0, 4, .inl V)), (ma, .inl (cs 0, 64, .inl mf))] Hp → va_D A [(o, .inr (7, mdF th W H mt qu zz nw ol ne se ke nc ns is ik dc sc 3 md wh fa re ve ps 0 tl di lv bf bo bd co bt ma)), (nw, .inl (cs 0, 4608, .inl (mpB gw W md 2 (mlF W md 2 mf (fun x9 y9 => (((mft (lokP go 0) (wdt 0 W) (wdt 0 H) (nI x9) (nI y9) (mus wh (V 0) 0) (mus wh (V 1) 0)) + (mft (lokP gn 0) (wdt 0 W) (wdt 0 H) (nI x9) (nI y9) (mus wh (V 2) 0) (mus wh (V 3) 0)) + 1) >>> (1 &&& 31)))) (y * 8)))), (ol, .inl (cs 0, 4608, .inl go)), (ne, .inl (cs 0, 4608, .inl gn)), (ve, .inl (cs 0, 4, .inl V)), (ma, .inl (cs 0, 64, .inl mf))] → va_S A s.heap Hp locs → lv_has ls 10 [(0, .ref o), (2, .int 1), (3, .int 1), (4, .int 0), (5, .int (nI (bL W md 2))), (6, .int (nI (bT W md 2))), (7, .int (nI y))] → xW p l e ({ frames := 4, cells := 0, slots := 0, locals := 104 } : Room) s m ([.ref o, .int 2, .int 1, .int 1] : List Value).toArray below meth c Hp locs 0 0 (MQ below (xE D A none [(o, .inr (7, mdF th W H mt qu zz nw ol ne se ke nc ns is ik dc sc 3 md wh fa re ve ps 0 tl di lv bf bo bd co bt ma)), (nw, .inl (cs 0, 4608, .inl (mpB gw W md 2 (mlF W md 2 mf (fun x9 y9 => (((mft (lokP go 0) (wdt 0 W) (wdt 0 H) (nI x9) (nI y9) (mus wh (V 0) 0) (mus wh (V 1) 0)) + (mft (lokP gn 0) (wdt 0 W) (wdt 0 H) (nI x9) (nI y9) (mus wh (V 2) 0) (mus wh (V 3) 0)) + 1) >>> (1 &&& 31)))) (64)))), (ol, .inl (cs 0, 4608, .inl go)), (ne, .inl (cs 0, 4608, .inl gn)), (ve, .inl (cs 0, 4, .inl V)), (ma, .inl (cs 0, 64, .inl mf))]) ([.ref o, .int 2, .int 1, .int 1] : List Value).toArray s 0 0 A) (F0 m 91 ls []) := by
    intro k91
    induction k91 with
    | zero => intro y h9; omega
    | succ k91 ih_91 =>
      intro y hk91 hy9 Hp locs ls hP hD hS hl
      refine lv_iload hx hb dX7_putBlock_91 (lv_at hl 6 rfl) ?_
      refine lv_bipush (v := 8) hx hb dX7_putBlock_93 (by decide) ?_
      refine lv_icmp_ge (tgt := 199) hx hb dX7_putBlock_95 (by decide) (fun c_95 => ?_) (fun c_95 => ?_)
      · have ey : y = 8 := by have := nIle (a := 8) (b := y) rfl rfl (by decide) (by omega) c_95; omega
        have hP := xeqP hP (congrArg (fun z9 => ([(o, .inr (7, mdF th W H mt qu zz nw ol ne se ke nc ns is ik dc sc 3 md wh fa re ve ps 0 tl di lv bf bo bd co bt ma)), (nw, .inl (cs 0, 4608, .inl z9)), (ol, .inl (cs 0, 4608, .inl go)), (ne, .inl (cs 0, 4608, .inl gn)), (ve, .inl (cs 0, 4, .inl V)), (ma, .inl (cs 0, 64, .inl mf))] : va_W)) (congrArg (mpB gw W md 2 (mlF W md 2 mf (fun x9 y9 => (((mft (lokP go 0) (wdt 0 W) (wdt 0 H) (nI x9) (nI y9) (mus wh (V 0) 0) (mus wh (V 1) 0)) + (mft (lokP gn 0) (wdt 0 W) (wdt 0 H) (nI x9) (nI y9) (mus wh (V 2) 0) (mus wh (V 3) 0)) + 1) >>> (1 &&& 31))))) (show y * 8 = 64 by omega)))
        have hD := xeqD hD (congrArg (fun z9 => ([(o, .inr (7, mdF th W H mt qu zz nw ol ne se ke nc ns is ik dc sc 3 md wh fa re ve ps 0 tl di lv bf bo bd co bt ma)), (nw, .inl (cs 0, 4608, .inl z9)), (ol, .inl (cs 0, 4608, .inl go)), (ne, .inl (cs 0, 4608, .inl gn)), (ve, .inl (cs 0, 4, .inl V)), (ma, .inl (cs 0, 64, .inl mf))] : va_W)) (congrArg (mpB gw W md 2 (mlF W md 2 mf (fun x9 y9 => (((mft (lokP go 0) (wdt 0 W) (wdt 0 H) (nI x9) (nI y9) (mus wh (V 0) 0) (mus wh (V 1) 0)) + (mft (lokP gn 0) (wdt 0 W) (wdt 0 H) (nI x9) (nI y9) (mus wh (V 2) 0) (mus wh (V 3) 0)) + 1) >>> (1 &&& 31))))) (show y * 8 = 64 by omega)))
        exact xrv hF hr hlk hP hD hS dX7_putBlock_199
      · have hyl : y < 8 := nInle (a := 8) (b := y) rfl rfl (by decide) (by omega) c_95
        refine lv_iconst (v := 0) hx hb dX7_putBlock_98 (by decide) ?_
        refine lv_istore (lv' := [(8, .int 0), (0, .ref o), (2, .int 1), (3, .int 1), (4, .int 0), (5, .int (nI (bL W md 2))), (6, .int (nI (bT W md 2))), (7, .int (nI y))]) hx hb dX7_putBlock_99 hl (by decide) rfl (fun ls hl => ?_)
        have loop_101 : ∀ (k101 : Nat) (x : Nat), 8 - x < k101 → x ≤ 8 → ∀ (Hp : Heap) (locs : List Loc) (ls : Array Slot), va_P D vwCl [(o, .inr (7, mdF th W H mt qu zz nw ol ne se ke nc ns is ik dc sc 3 md wh fa re ve ps 0 tl di lv bf bo bd co bt ma)), (nw, .inl (cs 0, 4608, .inl (mpB gw W md 2 (mlF W md 2 mf (fun x9 y9 => (((mft (lokP go 0) (wdt 0 W) (wdt 0 H) (nI x9) (nI y9) (mus wh (V 0) 0) (mus wh (V 1) 0)) + (mft (lokP gn 0) (wdt 0 W) (wdt 0 H) (nI x9) (nI y9) (mus wh (V 2) 0) (mus wh (V 3) 0)) + 1) >>> (1 &&& 31)))) (y * 8 + x)))), (ol, .inl (cs 0, 4608, .inl go)), (ne, .inl (cs 0, 4608, .inl gn)), (ve, .inl (cs 0, 4, .inl V)), (ma, .inl (cs 0, 64, .inl mf))] Hp → va_D A [(o, .inr (7, mdF th W H mt qu zz nw ol ne se ke nc ns is ik dc sc 3 md wh fa re ve ps 0 tl di lv bf bo bd co bt ma)), (nw, .inl (cs 0, 4608, .inl (mpB gw W md 2 (mlF W md 2 mf (fun x9 y9 => (((mft (lokP go 0) (wdt 0 W) (wdt 0 H) (nI x9) (nI y9) (mus wh (V 0) 0) (mus wh (V 1) 0)) + (mft (lokP gn 0) (wdt 0 W) (wdt 0 H) (nI x9) (nI y9) (mus wh (V 2) 0) (mus wh (V 3) 0)) + 1) >>> (1 &&& 31)))) (y * 8 + x)))), (ol, .inl (cs 0, 4608, .inl go)), (ne, .inl (cs 0, 4608, .inl gn)), (ve, .inl (cs 0, 4, .inl V)), (ma, .inl (cs 0, 64, .inl mf))] → va_S A s.heap Hp locs → lv_has ls 10 [(0, .ref o), (2, .int 1), (3, .int 1), (4, .int 0), (5, .int (nI (bL W md 2))), (6, .int (nI (bT W md 2))), (7, .int (nI y)), (8, .int (nI x))] → xW p l e ({ frames := 4, cells := 0, slots := 0, locals := 104 } : Room) s m ([.ref o, .int 2, .int 1, .int 1] : List Value).toArray below meth c Hp locs 0 0 (MQ below (xE D A none [(o, .inr (7, mdF th W H mt qu zz nw ol ne se ke nc ns is ik dc sc 3 md wh fa re ve ps 0 tl di lv bf bo bd co bt ma)), (nw, .inl (cs 0, 4608, .inl (mpB gw W md 2 (mlF W md 2 mf (fun x9 y9 => (((mft (lokP go 0) (wdt 0 W) (wdt 0 H) (nI x9) (nI y9) (mus wh (V 0) 0) (mus wh (V 1) 0)) + (mft (lokP gn 0) (wdt 0 W) (wdt 0 H) (nI x9) (nI y9) (mus wh (V 2) 0) (mus wh (V 3) 0)) + 1) >>> (1 &&& 31)))) (64)))), (ol, .inl (cs 0, 4608, .inl go)), (ne, .inl (cs 0, 4608, .inl gn)), (ve, .inl (cs 0, 4, .inl V)), (ma, .inl (cs 0, 64, .inl mf))]) ([.ref o, .int 2, .int 1, .int 1] : List Value).toArray s 0 0 A) (F0 m 101 ls []) := by
          intro k101
          induction k101 with
          | zero => intro x h9; omega
          | succ k101 ih_101 =>
            intro x hk101 hx9 Hp locs ls hP hD hS hl
            refine lv_iload hx hb dX7_putBlock_101 (lv_at hl 7 rfl) ?_
            refine lv_bipush (v := 8) hx hb dX7_putBlock_103 (by decide) ?_
            refine lv_icmp_ge (tgt := 193) hx hb dX7_putBlock_105 (by decide) (fun c_105 => ?_) (fun c_105 => ?_)
            · have ex : x = 8 := by have := nIle (a := 8) (b := x) rfl rfl (by decide) (by omega) c_105; omega
              have hP := xeqP hP (congrArg (fun z9 => ([(o, .inr (7, mdF th W H mt qu zz nw ol ne se ke nc ns is ik dc sc 3 md wh fa re ve ps 0 tl di lv bf bo bd co bt ma)), (nw, .inl (cs 0, 4608, .inl z9)), (ol, .inl (cs 0, 4608, .inl go)), (ne, .inl (cs 0, 4608, .inl gn)), (ve, .inl (cs 0, 4, .inl V)), (ma, .inl (cs 0, 64, .inl mf))] : va_W)) (congrArg (mpB gw W md 2 (mlF W md 2 mf (fun x9 y9 => (((mft (lokP go 0) (wdt 0 W) (wdt 0 H) (nI x9) (nI y9) (mus wh (V 0) 0) (mus wh (V 1) 0)) + (mft (lokP gn 0) (wdt 0 W) (wdt 0 H) (nI x9) (nI y9) (mus wh (V 2) 0) (mus wh (V 3) 0)) + 1) >>> (1 &&& 31))))) (show y * 8 + x = (y + 1) * 8 by omega)))
              have hD := xeqD hD (congrArg (fun z9 => ([(o, .inr (7, mdF th W H mt qu zz nw ol ne se ke nc ns is ik dc sc 3 md wh fa re ve ps 0 tl di lv bf bo bd co bt ma)), (nw, .inl (cs 0, 4608, .inl z9)), (ol, .inl (cs 0, 4608, .inl go)), (ne, .inl (cs 0, 4608, .inl gn)), (ve, .inl (cs 0, 4, .inl V)), (ma, .inl (cs 0, 64, .inl mf))] : va_W)) (congrArg (mpB gw W md 2 (mlF W md 2 mf (fun x9 y9 => (((mft (lokP go 0) (wdt 0 W) (wdt 0 H) (nI x9) (nI y9) (mus wh (V 0) 0) (mus wh (V 1) 0)) + (mft (lokP gn 0) (wdt 0 W) (wdt 0 H) (nI x9) (nI y9) (mus wh (V 2) 0) (mus wh (V 3) 0)) + 1) >>> (1 &&& 31))))) (show y * 8 + x = (y + 1) * 8 by omega)))
              refine lv_iinc (v := (nI (y + 1))) (lv' := [(7, .int (nI (y + 1))), (0, .ref o), (2, .int 1), (3, .int 1), (4, .int 0), (5, .int (nI (bL W md 2))), (6, .int (nI (bT W md 2))), (8, .int (nI x))]) hx hb dX7_putBlock_193 hl (k := 6) rfl (nI_1 y) (by decide) rfl (fun ls hl => ?_)
              refine lv_goto (tgt := 91) hx hb dX7_putBlock_196 (by decide) ?_
              exact ih_91 (y + 1) (by omega) (by omega) _ _ _ hP hD hS (lv_sub hl [1, 2, 3, 4, 5, 6, 0] rfl)
            · have hxl : x < 8 := nInle (a := 8) (b := x) rfl rfl (by decide) (by omega) c_105
              refine lv_aload_n hx hb dX7_putBlock_108 rfl (lv_at hl 0 rfl) ?_
              refine xget (C := RX7) (T := TX7) (N := 34) hF hX hP (by decide +kernel) 0 33 rfl rfl (by decide) (by decide +kernel) rfl dX7_putBlock_109 ?_
              refine lv_bipush (v := 8) hx hb dX7_putBlock_112 (by decide) ?_
              refine lv_iload hx hb dX7_putBlock_114 (lv_at hl 6 rfl) ?_
              refine lv_imul hx hb dX7_putBlock_116 ?_
              refine lv_iload hx hb dX7_putBlock_117 (lv_at hl 7 rfl) ?_
              refine lv_iadd hx hb dX7_putBlock_119 ?_
              refine xrwi (z := nI (y * 8 + x)) (k8 y x) ?_
              refine xald (k := y * 8 + x) hF hX hP 5 rfl (nI_clamp (by omega)) (vp_in_nI (by omega) (by decide)) dX7_putBlock_120 ?_
              refine lv_istore (lv' := [(9, .int (mf (y * 8 + x))), (0, .ref o), (2, .int 1), (3, .int 1), (4, .int 0), (5, .int (nI (bL W md 2))), (6, .int (nI (bT W md 2))), (7, .int (nI y)), (8, .int (nI x))]) hx hb dX7_putBlock_121 hl (by decide) rfl (fun ls hl => ?_)
              refine lv_aload_n hx hb dX7_putBlock_123 rfl (lv_at hl 1 rfl) ?_
              refine xget (C := RX7) (T := TX7) (N := 34) hF hX hP (by decide +kernel) 0 24 rfl rfl (by decide) (by decide +kernel) rfl dX7_putBlock_124 ?_
              refine lv_if_eq (tgt := 135) hx hb dX7_putBlock_127 (by decide) (fun _ => ?_) (fun c_127 => absurd (by decide) c_127)
              refine lv_iload hx hb dX7_putBlock_135 (lv_at hl 0 rfl) ?_
              refine lv_aload_n hx hb dX7_putBlock_137 rfl (lv_at hl 1 rfl) ?_
              refine lv_iload_n hx hb dX7_putBlock_138 rfl (lv_at hl 2 rfl) ?_
              refine lv_iload_n hx hb dX7_putBlock_139 rfl (lv_at hl 3 rfl) ?_
              refine lv_iload hx hb dX7_putBlock_140 (lv_at hl 4 rfl) ?_
              refine lv_iload hx hb dX7_putBlock_142 (lv_at hl 5 rfl) ?_
              refine lv_iload hx hb dX7_putBlock_144 (lv_at hl 8 rfl) ?_
              refine lv_iadd hx hb dX7_putBlock_146 ?_
              refine xrwi (z := nI ((bL W md 2) + x)) (nI_add _ _) ?_
              refine lv_iload hx hb dX7_putBlock_147 (lv_at hl 6 rfl) ?_
              refine lv_iload hx hb dX7_putBlock_149 (lv_at hl 7 rfl) ?_
              refine lv_iadd hx hb dX7_putBlock_151 ?_
              refine xrwi (z := nI ((bT W md 2) + y)) (nI_add _ _) ?_
              refine xV (rest := [.int (mf (y * 8 + x))]) (As := [.int 1, .int 1, .int 0, .int (nI ((bL W md 2) + x)), .int (nI ((bT W md 2) + y))]) (ws1 := [(o, .inr (7, mdF th W H mt qu zz nw ol ne se ke nc ns is ik dc sc 3 md wh fa re ve ps 0 tl di lv bf bo bd co bt ma)), (nw, .inl (cs 0, 4608, .inl (mpB gw W md 2 (mlF W md 2 mf (fun x9 y9 => (((mft (lokP go 0) (wdt 0 W) (wdt 0 H) (nI x9) (nI y9) (mus wh (V 0) 0) (mus wh (V 1) 0)) + (mft (lokP gn 0) (wdt 0 W) (wdt 0 H) (nI x9) (nI y9) (mus wh (V 2) 0) (mus wh (V 3) 0)) + 1) >>> (1 &&& 31)))) (y * 8 + x)))), (ol, .inl (cs 0, 4608, .inl go)), (ne, .inl (cs 0, 4608, .inl gn)), (ve, .inl (cs 0, 4, .inl V)), (ma, .inl (cs 0, 64, .inl mf))]) (st1 := [.int (((mft (lokP go 0) (wdt 0 W) (wdt 0 H) (nI ((bL W md 2) + x)) (nI ((bT W md 2) + y)) (mus wh (V 0) 0) (mus wh (V 1) 0)) + (mft (lokP gn 0) (wdt 0 W) (wdt 0 H) (nI ((bL W md 2) + x)) (nI ((bT W md 2) + y)) (mus wh (V 2) 0) (mus wh (V 3) 0)) + 1) >>> (1 &&& 31)), .int (mf (y * 8 + x))]) hF (c_X7_fetchedD l D cs tt o mt qu zz nw ol ne se ke re ve ps di lv bd co bt ma W H md th nc ns is ik dc sc wh fa 0 tl bf bo 0 (nI ((bL W md 2) + x)) (nI ((bT W md 2) + y)) go gn V (by decide) hw hw4 hh hh3) gX7_putBlock_X7_fetched rfl (n := 5) (by decide +kernel) rfl ⟨⟨rfl, rfl⟩, Nat.le_of_ble_eq_true rfl, Nat.le_of_ble_eq_true rfl⟩ ⟨Nat.le_of_ble_eq_true rfl, Nat.le_of_ble_eq_true rfl⟩ hX hP hD hS [0, 2, 3, 4] (by decide) rfl [o, ol, ne, ve] rfl rfl (q0 := 0) (ci := 7) rfl rfl rfl hl.1 rfl (Nat.le_of_ble_eq_true rfl) dX7_putBlock_152 rfl rfl (fun Hp locs hP hD hS => ?_)
              refine lv_iadd hx hb dX7_putBlock_155 ?_
              refine lv_istore (lv' := [(9, .int ((mf (y * 8 + x)) + (((mft (lokP go 0) (wdt 0 W) (wdt 0 H) (nI ((bL W md 2) + x)) (nI ((bT W md 2) + y)) (mus wh (V 0) 0) (mus wh (V 1) 0)) + (mft (lokP gn 0) (wdt 0 W) (wdt 0 H) (nI ((bL W md 2) + x)) (nI ((bT W md 2) + y)) (mus wh (V 2) 0) (mus wh (V 3) 0)) + 1) >>> (1 &&& 31)))), (0, .ref o), (2, .int 1), (3, .int 1), (4, .int 0), (5, .int (nI (bL W md 2))), (6, .int (nI (bT W md 2))), (7, .int (nI y)), (8, .int (nI x))]) hx hb dX7_putBlock_156 hl (by decide) rfl (fun ls hl => ?_)
              refine lv_aload_n hx hb dX7_putBlock_158 rfl (lv_at hl 1 rfl) ?_
              refine xget (C := RX7) (T := TX7) (N := 34) hF hX hP (by decide +kernel) 0 6 rfl rfl (by decide) (by decide +kernel) rfl dX7_putBlock_159 ?_
              refine lv_iload hx hb dX7_putBlock_162 (lv_at hl 4 rfl) ?_
              refine lv_iload hx hb dX7_putBlock_164 (lv_at hl 5 rfl) ?_
              refine lv_iload hx hb dX7_putBlock_166 (lv_at hl 8 rfl) ?_
              refine lv_iadd hx hb dX7_putBlock_168 ?_
              refine xrwi (z := nI ((bL W md 2) + x)) (nI_add _ _) ?_
              refine lv_iload hx hb dX7_putBlock_169 (lv_at hl 6 rfl) ?_
              refine lv_iload hx hb dX7_putBlock_171 (lv_at hl 7 rfl) ?_
              refine lv_iadd hx hb dX7_putBlock_173 ?_
              refine xrwi (z := nI ((bT W md 2) + y)) (nI_add _ _) ?_
              refine xSt (rest := [.ref nw]) (As := [.int 0, .int (nI ((bL W md 2) + x)), .int (nI ((bT W md 2) + y))]) (ws1 := [(o, .inr (7, mdF th W H mt qu zz nw ol ne se ke nc ns is ik dc sc 3 md wh fa re ve ps 0 tl di lv bf bo bd co bt ma)), (nw, .inl (cs 0, 4608, .inl (mpB gw W md 2 (mlF W md 2 mf (fun x9 y9 => (((mft (lokP go 0) (wdt 0 W) (wdt 0 H) (nI x9) (nI y9) (mus wh (V 0) 0) (mus wh (V 1) 0)) + (mft (lokP gn 0) (wdt 0 W) (wdt 0 H) (nI x9) (nI y9) (mus wh (V 2) 0) (mus wh (V 3) 0)) + 1) >>> (1 &&& 31)))) (y * 8 + x)))), (ol, .inl (cs 0, 4608, .inl go)), (ne, .inl (cs 0, 4608, .inl gn)), (ve, .inl (cs 0, 4, .inl V)), (ma, .inl (cs 0, 64, .inl mf))]) (st1 := [.int (nI (plc 0 ((bL W md 2) + x) ((bT W md 2) + y))), .ref nw]) hF (c_X7_place l D cs tt 0 ((bL W md 2) + x) ((bT W md 2) + y) (by decide)) gX7_putBlock_X7_place rfl (n := 3) (by decide +kernel) rfl ⟨⟨rfl, rfl⟩, Nat.le_of_ble_eq_true rfl, Nat.le_of_ble_eq_true rfl⟩ ⟨Nat.le_of_ble_eq_true rfl, Nat.le_of_ble_eq_true rfl⟩ hX hP hD hS [] (by decide) rfl [] rfl rfl hl.1 rfl (Nat.le_of_ble_eq_true rfl) dX7_putBlock_174 rfl rfl (fun Hp locs hP hD hS => ?_)
              refine xrwi (z := nI (0 + (((bT W md 2) + y) * 64 + ((bL W md 2) + x)))) (by unfold plc; rw [if_pos rfl]; exact congrArg nI (by omega)) ?_
              refine lv_iload hx hb dX7_putBlock_177 (lv_at hl 0 rfl) ?_
              refine lv_iconst (v := 0) hx hb dX7_putBlock_179 (by decide) ?_
              refine lv_sipush (v := 255) hx hb dX7_putBlock_180 (by decide) ?_
              refine xSt (rest := [.int (nI (0 + (((bT W md 2) + y) * 64 + ((bL W md 2) + x)))), .ref nw]) (As := [.int ((mf (y * 8 + x)) + (((mft (lokP go 0) (wdt 0 W) (wdt 0 H) (nI ((bL W md 2) + x)) (nI ((bT W md 2) + y)) (mus wh (V 0) 0) (mus wh (V 1) 0)) + (mft (lokP gn 0) (wdt 0 W) (wdt 0 H) (nI ((bL W md 2) + x)) (nI ((bT W md 2) + y)) (mus wh (V 2) 0) (mus wh (V 3) 0)) + 1) >>> (1 &&& 31))), .int 0, .int 255]) (ws1 := [(o, .inr (7, mdF th W H mt qu zz nw ol ne se ke nc ns is ik dc sc 3 md wh fa re ve ps 0 tl di lv bf bo bd co bt ma)), (nw, .inl (cs 0, 4608, .inl (mpB gw W md 2 (mlF W md 2 mf (fun x9 y9 => (((mft (lokP go 0) (wdt 0 W) (wdt 0 H) (nI x9) (nI y9) (mus wh (V 0) 0) (mus wh (V 1) 0)) + (mft (lokP gn 0) (wdt 0 W) (wdt 0 H) (nI x9) (nI y9) (mus wh (V 2) 0) (mus wh (V 3) 0)) + 1) >>> (1 &&& 31)))) (y * 8 + x)))), (ol, .inl (cs 0, 4608, .inl go)), (ne, .inl (cs 0, 4608, .inl gn)), (ve, .inl (cs 0, 4, .inl V)), (ma, .inl (cs 0, 64, .inl mf))]) (st1 := [.int (bnd ((mf (y * 8 + x)) + (((mft (lokP go 0) (wdt 0 W) (wdt 0 H) (nI ((bL W md 2) + x)) (nI ((bT W md 2) + y)) (mus wh (V 0) 0) (mus wh (V 1) 0)) + (mft (lokP gn 0) (wdt 0 W) (wdt 0 H) (nI ((bL W md 2) + x)) (nI ((bT W md 2) + y)) (mus wh (V 2) 0) (mus wh (V 3) 0)) + 1) >>> (1 &&& 31))) 0 255), .int (nI (0 + (((bT W md 2) + y) * 64 + ((bL W md 2) + x)))), .ref nw]) hF (c_X7_within l D cs tt ((mf (y * 8 + x)) + (((mft (lokP go 0) (wdt 0 W) (wdt 0 H) (nI ((bL W md 2) + x)) (nI ((bT W md 2) + y)) (mus wh (V 0) 0) (mus wh (V 1) 0)) + (mft (lokP gn 0) (wdt 0 W) (wdt 0 H) (nI ((bL W md 2) + x)) (nI ((bT W md 2) + y)) (mus wh (V 2) 0) (mus wh (V 3) 0)) + 1) >>> (1 &&& 31))) 0 255) gX7_putBlock_X7_within rfl (n := 3) (by decide +kernel) rfl ⟨⟨rfl, rfl⟩, Nat.le_of_ble_eq_true rfl, Nat.le_of_ble_eq_true rfl⟩ ⟨Nat.le_of_ble_eq_true rfl, Nat.le_of_ble_eq_true rfl⟩ hX hP hD hS [] (by decide) rfl [] rfl rfl hl.1 rfl (Nat.le_of_ble_eq_true rfl) dX7_putBlock_183 rfl rfl (fun Hp locs hP hD hS => ?_)
              refine xast (k := 0 + (((bT W md 2) + y) * 64 + ((bL W md 2) + x))) (ws1 := [(o, .inr (7, mdF th W H mt qu zz nw ol ne se ke nc ns is ik dc sc 3 md wh fa re ve ps 0 tl di lv bf bo bd co bt ma)), (nw, .inl (cs 0, 4608, .inl (mpB gw W md 2 (mlF W md 2 mf (fun x9 y9 => (((mft (lokP go 0) (wdt 0 W) (wdt 0 H) (nI x9) (nI y9) (mus wh (V 0) 0) (mus wh (V 1) 0)) + (mft (lokP gn 0) (wdt 0 W) (wdt 0 H) (nI x9) (nI y9) (mus wh (V 2) 0) (mus wh (V 3) 0)) + 1) >>> (1 &&& 31)))) (y * 8 + (x + 1))))), (ol, .inl (cs 0, 4608, .inl go)), (ne, .inl (cs 0, 4608, .inl gn)), (ve, .inl (cs 0, 4, .inl V)), (ma, .inl (cs 0, 64, .inl mf))]) hF hX hP hD hS 1 rfl (nI_clamp (by omega)) (vp_in_nI (by omega) (by decide)) dX7_putBlock_186 (congrArg (fun z9 => ([(o, .inr (7, mdF th W H mt qu zz nw ol ne se ke nc ns is ik dc sc 3 md wh fa re ve ps 0 tl di lv bf bo bd co bt ma)), (nw, .inl (cs 0, 4608, .inl z9)), (ol, .inl (cs 0, 4608, .inl go)), (ne, .inl (cs 0, 4608, .inl gn)), (ve, .inl (cs 0, 4, .inl V)), (ma, .inl (cs 0, 64, .inl mf))] : va_W)) (pbs gw (mlF W md 2 mf (fun x9 y9 => (((mft (lokP go 0) (wdt 0 W) (wdt 0 H) (nI x9) (nI y9) (mus wh (V 0) 0) (mus wh (V 1) 0)) + (mft (lokP gn 0) (wdt 0 W) (wdt 0 H) (nI x9) (nI y9) (mus wh (V 2) 0) (mus wh (V 3) 0)) + 1) >>> (1 &&& 31)))) (by unfold mlF; rw [show ((bT W md 2) + y - (bT W md 2)) * 8 + ((bL W md 2) + x - (bL W md 2)) = y * 8 + x by omega]) hxl (show (bL W md 2) + 8 ≤ 64 by omega))) (fun Hp locs hP hD hS => ?_)
              refine lv_iinc (v := (nI (x + 1))) (lv' := [(8, .int (nI (x + 1))), (9, .int ((mf (y * 8 + x)) + (((mft (lokP go 0) (wdt 0 W) (wdt 0 H) (nI ((bL W md 2) + x)) (nI ((bT W md 2) + y)) (mus wh (V 0) 0) (mus wh (V 1) 0)) + (mft (lokP gn 0) (wdt 0 W) (wdt 0 H) (nI ((bL W md 2) + x)) (nI ((bT W md 2) + y)) (mus wh (V 2) 0) (mus wh (V 3) 0)) + 1) >>> (1 &&& 31)))), (0, .ref o), (2, .int 1), (3, .int 1), (4, .int 0), (5, .int (nI (bL W md 2))), (6, .int (nI (bT W md 2))), (7, .int (nI y))]) hx hb dX7_putBlock_187 hl (k := 8) rfl (nI_1 x) (by decide) rfl (fun ls hl => ?_)
              refine lv_goto (tgt := 101) hx hb dX7_putBlock_190 (by decide) ?_
              exact ih_101 (x + 1) (by omega) (by omega) _ _ _ hP hD hS (lv_sub hl [2, 3, 4, 5, 6, 7, 8, 0] rfl)
        exact loop_101 (8 - 0 + 1) 0 (Nat.lt_succ_self _) (by decide) _ _ _ hP hD hS (lv_sub hl [1, 2, 3, 4, 5, 6, 7, 0] rfl)
  have hP := xeqP hP (congrArg (fun z9 => ([(o, .inr (7, mdF th W H mt qu zz nw ol ne se ke nc ns is ik dc sc 3 md wh fa re ve ps 0 tl di lv bf bo bd co bt ma)), (nw, .inl (cs 0, 4608, .inl z9)), (ol, .inl (cs 0, 4608, .inl go)), (ne, .inl (cs 0, 4608, .inl gn)), (ve, .inl (cs 0, 4, .inl V)), (ma, .inl (cs 0, 64, .inl mf))] : va_W)) ((show gw = mpB gw W md 2 (mlF W md 2 mf (fun x9 y9 => (((mft (lokP go 0) (wdt 0 W) (wdt 0 H) (nI x9) (nI y9) (mus wh (V 0) 0) (mus wh (V 1) 0)) + (mft (lokP gn 0) (wdt 0 W) (wdt 0 H) (nI x9) (nI y9) (mus wh (V 2) 0) (mus wh (V 3) 0)) + 1) >>> (1 &&& 31)))) (0 * 8) from (blkTo_0 gw _ _ _ _ 8 (mlF W md 2 mf (fun x9 y9 => (((mft (lokP go 0) (wdt 0 W) (wdt 0 H) (nI x9) (nI y9) (mus wh (V 0) 0) (mus wh (V 1) 0)) + (mft (lokP gn 0) (wdt 0 W) (wdt 0 H) (nI x9) (nI y9) (mus wh (V 2) 0) (mus wh (V 3) 0)) + 1) >>> (1 &&& 31))))).symm)))
  have hD := xeqD hD (congrArg (fun z9 => ([(o, .inr (7, mdF th W H mt qu zz nw ol ne se ke nc ns is ik dc sc 3 md wh fa re ve ps 0 tl di lv bf bo bd co bt ma)), (nw, .inl (cs 0, 4608, .inl z9)), (ol, .inl (cs 0, 4608, .inl go)), (ne, .inl (cs 0, 4608, .inl gn)), (ve, .inl (cs 0, 4, .inl V)), (ma, .inl (cs 0, 64, .inl mf))] : va_W)) ((show gw = mpB gw W md 2 (mlF W md 2 mf (fun x9 y9 => (((mft (lokP go 0) (wdt 0 W) (wdt 0 H) (nI x9) (nI y9) (mus wh (V 0) 0) (mus wh (V 1) 0)) + (mft (lokP gn 0) (wdt 0 W) (wdt 0 H) (nI x9) (nI y9) (mus wh (V 2) 0) (mus wh (V 3) 0)) + 1) >>> (1 &&& 31)))) (0 * 8) from (blkTo_0 gw _ _ _ _ 8 (mlF W md 2 mf (fun x9 y9 => (((mft (lokP go 0) (wdt 0 W) (wdt 0 H) (nI x9) (nI y9) (mus wh (V 0) 0) (mus wh (V 1) 0)) + (mft (lokP gn 0) (wdt 0 W) (wdt 0 H) (nI x9) (nI y9) (mus wh (V 2) 0) (mus wh (V 3) 0)) + 1) >>> (1 &&& 31))))).symm)))
  exact loop_91 (8 - 0 + 1) 0 (Nat.lt_succ_self _) (by decide) _ _ _ hP hD hS (lv_sub hl [4, 6, 7, 3, 2, 1, 0] rfl)

set_option maxHeartbeats 4000000 in
set_option maxRecDepth 100000 in
theorem c_X7_putBlock3O (l : Launch) (D : va_G) (cs : Nat → ClassId) (tt : Nat → Nat) (o mt qu zz nw ol ne se ke re ve ps di lv bd co bt ma W H md : Nat) (th nc ns is ik dc sc kd wh fa tl bf bo : Int32) (fw bw : Int32) (gw mf : Nat → Int32) (hw : 1 ≤ W) (hw4 : W ≤ 4) (hh : 1 ≤ H) (hh3 : H ≤ 3) (hmd : md < W * H) : xM l yX7_putBlock wsX7_putBlock ({ frames := 4, cells := 0, slots := 0, locals := 104 } : Room) D cs tt [.ref o, .int 3, .int fw, .int bw] [(o, .inr (7, mdF th W H mt qu zz nw ol ne se ke nc ns is ik dc sc kd md wh fa re ve ps 1 tl di lv bf bo bd co bt ma)), (nw, .inl (cs 0, 4608, .inl gw)), (ma, .inl (cs 0, 64, .inl mf))] none [(o, .inr (7, mdF th W H mt qu zz nw ol ne se ke nc ns is ik dc sc kd md wh fa re ve ps 1 tl di lv bf bo bd co bt ma)), (nw, .inl (cs 0, 4608, .inl (mpB gw W md 3 (mlO W md 3 mf) (64)))), (ma, .inl (cs 0, 64, .inl mf))] := by
  refine xM.of RX7 rfl (by decide) rfl (Nat.le_of_ble_eq_true rfl) ?_
  intro p e s m below meth c A ls hF hr hlk hX hP hD hS hl
  have hx := hF.1
  have hb := hF.2.1
  have hl : lv_has ls 10 [(0, .ref o), (1, .int 3), (2, .int fw), (3, .int bw)] := hl
  have hm4 : md < 4096 := Nat.lt_of_lt_of_le hmd (Nat.le_trans (Nat.mul_le_mul hw4 hh3) (by decide))
  have hb9 := b_in hw hmd 3 (by decide)
  have hbl : (bL W md 3) + 8 ≤ 16 * W := hb9.1
  have hbt : (bT W md 3) + 8 ≤ 16 * H := hb9.2
  have hsL : bL W md 3 = bL W md 3 := rfl
  refine lv_iload_n hx hb dX7_putBlock_0 rfl (lv_at hl 1 rfl) ?_
  refine xSt (rest := []) (As := [.int 3]) (ws1 := [(o, .inr (7, mdF th W H mt qu zz nw ol ne se ke nc ns is ik dc sc kd md wh fa re ve ps 1 tl di lv bf bo bd co bt ma)), (nw, .inl (cs 0, 4608, .inl gw)), (ma, .inl (cs 0, 64, .inl mf))]) (st1 := [.int (pln 3)]) hF (c_X7_planeOf l D cs tt 3) gX7_putBlock_X7_planeOf rfl (n := 1) (by decide +kernel) rfl ⟨⟨rfl, rfl⟩, Nat.le_of_ble_eq_true rfl, Nat.le_of_ble_eq_true rfl⟩ ⟨Nat.le_of_ble_eq_true rfl, Nat.le_of_ble_eq_true rfl⟩ hX hP hD hS [] (by decide) rfl [] rfl rfl hl.1 rfl (Nat.le_of_ble_eq_true rfl) dX7_putBlock_1 rfl rfl (fun Hp locs hP hD hS => ?_)
  refine xrwi (z := 0) (by decide) ?_
  refine lv_istore (lv' := [(4, .int 0), (0, .ref o), (1, .int 3), (2, .int fw), (3, .int bw)]) hx hb dX7_putBlock_4 hl (by decide) rfl (fun ls hl => ?_)
  refine lv_iload hx hb dX7_putBlock_6 (lv_at hl 0 rfl) ?_
  refine lv_if_ne (tgt := 33) hx hb dX7_putBlock_8 (by decide) (fun c_8 => absurd (by decide) c_8) (fun _ => ?_)
  refine lv_bipush (v := 16) hx hb dX7_putBlock_11 (by decide) ?_
  refine lv_aload_n hx hb dX7_putBlock_13 rfl (lv_at hl 1 rfl) ?_
  refine xget (C := RX7) (T := TX7) (N := 34) hF hX hP (by decide +kernel) 0 18 rfl rfl (by decide) (by decide +kernel) rfl dX7_putBlock_14 ?_
  refine lv_aload_n hx hb dX7_putBlock_17 rfl (lv_at hl 1 rfl) ?_
  refine xget (C := RX7) (T := TX7) (N := 34) hF hX hP (by decide +kernel) 0 1 rfl rfl (by decide) (by decide +kernel) rfl dX7_putBlock_18 ?_
  refine lv_irem hx hb dX7_putBlock_21 (nI_ne0 (by omega) (by omega)) ?_
  refine xrwi (z := nI (md % W)) (pk_rem (by omega) (by omega) (by omega)) ?_
  refine lv_imul hx hb dX7_putBlock_22 ?_
  refine lv_bipush (v := 8) hx hb dX7_putBlock_23 (by decide) ?_
  refine lv_iload_n hx hb dX7_putBlock_25 rfl (lv_at hl 2 rfl) ?_
  refine lv_iconst (v := 2) hx hb dX7_putBlock_26 (by decide) ?_
  refine lv_irem hx hb dX7_putBlock_27 (by decide) ?_
  refine xrwi (z := 1) (by decide) ?_
  refine lv_imul hx hb dX7_putBlock_28 ?_
  refine xrwi (z := 8) (by decide) ?_
  refine lv_iadd hx hb dX7_putBlock_29 ?_
  refine lv_goto (tgt := 45) hx hb dX7_putBlock_30 (by decide) ?_
  refine xrwi (z := nI (bL W md 3)) (by rw [show (16 : Int32) * nI (md % W) = nI (16 * (md % W)) from pk_mul 16 _, show nI (16 * (md % W)) + 8 = nI (16 * (md % W) + 8) from nI_add _ 8]; exact congrArg nI (show 16 * (md % W) + 8 = bL W md 3 by show _ = md % W * 16 + 8; omega)) ?_
  refine lv_istore (lv' := [(5, .int (nI (bL W md 3))), (4, .int 0), (0, .ref o), (1, .int 3), (2, .int fw), (3, .int bw)]) hx hb dX7_putBlock_45 hl (by decide) rfl (fun ls hl => ?_)
  refine lv_iload hx hb dX7_putBlock_47 (lv_at hl 1 rfl) ?_
  refine lv_if_ne (tgt := 74) hx hb dX7_putBlock_49 (by decide) (fun c_49 => absurd (by decide) c_49) (fun _ => ?_)
  refine lv_bipush (v := 16) hx hb dX7_putBlock_52 (by decide) ?_
  refine lv_aload_n hx hb dX7_putBlock_54 rfl (lv_at hl 2 rfl) ?_
  refine xget (C := RX7) (T := TX7) (N := 34) hF hX hP (by decide +kernel) 0 18 rfl rfl (by decide) (by decide +kernel) rfl dX7_putBlock_55 ?_
  refine lv_aload_n hx hb dX7_putBlock_58 rfl (lv_at hl 2 rfl) ?_
  refine xget (C := RX7) (T := TX7) (N := 34) hF hX hP (by decide +kernel) 0 1 rfl rfl (by decide) (by decide +kernel) rfl dX7_putBlock_59 ?_
  refine lv_idiv hx hb dX7_putBlock_62 (nI_ne0 (by omega) (by omega)) ?_
  refine xrwi (z := nI (md / W)) (pk_div (by omega) (by omega) (by omega)) ?_
  refine lv_imul hx hb dX7_putBlock_63 ?_
  refine lv_bipush (v := 8) hx hb dX7_putBlock_64 (by decide) ?_
  refine lv_iload_n hx hb dX7_putBlock_66 rfl (lv_at hl 3 rfl) ?_
  refine lv_iconst (v := 2) hx hb dX7_putBlock_67 (by decide) ?_
  refine lv_idiv hx hb dX7_putBlock_68 (by decide) ?_
  refine xrwi (z := 1) (by decide) ?_
  refine lv_imul hx hb dX7_putBlock_69 ?_
  refine xrwi (z := 8) (by decide) ?_
  refine lv_iadd hx hb dX7_putBlock_70 ?_
  refine lv_goto (tgt := 86) hx hb dX7_putBlock_71 (by decide) ?_
  refine xrwi (z := nI (bT W md 3)) (by rw [show (16 : Int32) * nI (md / W) = nI (16 * (md / W)) from pk_mul 16 _, show nI (16 * (md / W)) + 8 = nI (16 * (md / W) + 8) from nI_add _ 8]; exact congrArg nI (show 16 * (md / W) + 8 = bT W md 3 by show _ = md / W * 16 + 8; omega)) ?_
  refine lv_istore (lv' := [(6, .int (nI (bT W md 3))), (5, .int (nI (bL W md 3))), (4, .int 0), (0, .ref o), (1, .int 3), (2, .int fw), (3, .int bw)]) hx hb dX7_putBlock_86 hl (by decide) rfl (fun ls hl => ?_)
  refine lv_iconst (v := 0) hx hb dX7_putBlock_88 (by decide) ?_
  refine lv_istore (lv' := [(7, .int 0), (6, .int (nI (bT W md 3))), (5, .int (nI (bL W md 3))), (4, .int 0), (0, .ref o), (1, .int 3), (2, .int fw), (3, .int bw)]) hx hb dX7_putBlock_89 hl (by decide) rfl (fun ls hl => ?_)
  have loop_91 : ∀ (k91 : Nat) (y : Nat), 8 - y < k91 → y ≤ 8 → ∀ (Hp : Heap) (locs : List Loc) (ls : Array Slot), va_P D vwCl [(o, .inr (7, mdF th W H mt qu zz nw ol ne se ke nc ns is ik dc sc kd md wh fa re ve ps 1 tl di lv bf bo bd co bt ma)), (nw, .inl (cs 0, 4608, .inl (mpB gw W md 3 (mlO W md 3 mf) (y * 8)))), (ma, .inl (cs 0, 64, .inl mf))] Hp → va_D A [(o, .inr (7, mdF th W H mt qu zz nw ol ne se ke nc ns is ik dc sc kd md wh fa re ve ps 1 tl di lv bf bo bd co bt ma)), (nw, .inl (cs 0, 4608, .inl (mpB gw W md 3 (mlO W md 3 mf) (y * 8)))), (ma, .inl (cs 0, 64, .inl mf))] → va_S A s.heap Hp locs → lv_has ls 10 [(0, .ref o), (2, .int fw), (3, .int bw), (4, .int 0), (5, .int (nI (bL W md 3))), (6, .int (nI (bT W md 3))), (7, .int (nI y))] → xW p l e ({ frames := 4, cells := 0, slots := 0, locals := 104 } : Room) s m ([.ref o, .int 3, .int fw, .int bw] : List Value).toArray below meth c Hp locs 0 0 (MQ below (xE D A none [(o, .inr (7, mdF th W H mt qu zz nw ol ne se ke nc ns is ik dc sc kd md wh fa re ve ps 1 tl di lv bf bo bd co bt ma)), (nw, .inl (cs 0, 4608, .inl (mpB gw W md 3 (mlO W md 3 mf) (64)))), (ma, .inl (cs 0, 64, .inl mf))]) ([.ref o, .int 3, .int fw, .int bw] : List Value).toArray s 0 0 A) (F0 m 91 ls []) := by
    intro k91
    induction k91 with
    | zero => intro y h9; omega
    | succ k91 ih_91 =>
      intro y hk91 hy9 Hp locs ls hP hD hS hl
      refine lv_iload hx hb dX7_putBlock_91 (lv_at hl 6 rfl) ?_
      refine lv_bipush (v := 8) hx hb dX7_putBlock_93 (by decide) ?_
      refine lv_icmp_ge (tgt := 199) hx hb dX7_putBlock_95 (by decide) (fun c_95 => ?_) (fun c_95 => ?_)
      · have ey : y = 8 := by have := nIle (a := 8) (b := y) rfl rfl (by decide) (by omega) c_95; omega
        have hP := xeqP hP (congrArg (fun z9 => ([(o, .inr (7, mdF th W H mt qu zz nw ol ne se ke nc ns is ik dc sc kd md wh fa re ve ps 1 tl di lv bf bo bd co bt ma)), (nw, .inl (cs 0, 4608, .inl z9)), (ma, .inl (cs 0, 64, .inl mf))] : va_W)) (congrArg (mpB gw W md 3 (mlO W md 3 mf)) (show y * 8 = 64 by omega)))
        have hD := xeqD hD (congrArg (fun z9 => ([(o, .inr (7, mdF th W H mt qu zz nw ol ne se ke nc ns is ik dc sc kd md wh fa re ve ps 1 tl di lv bf bo bd co bt ma)), (nw, .inl (cs 0, 4608, .inl z9)), (ma, .inl (cs 0, 64, .inl mf))] : va_W)) (congrArg (mpB gw W md 3 (mlO W md 3 mf)) (show y * 8 = 64 by omega)))
        exact xrv hF hr hlk hP hD hS dX7_putBlock_199
      · have hyl : y < 8 := nInle (a := 8) (b := y) rfl rfl (by decide) (by omega) c_95
        refine lv_iconst (v := 0) hx hb dX7_putBlock_98 (by decide) ?_
        refine lv_istore (lv' := [(8, .int 0), (0, .ref o), (2, .int fw), (3, .int bw), (4, .int 0), (5, .int (nI (bL W md 3))), (6, .int (nI (bT W md 3))), (7, .int (nI y))]) hx hb dX7_putBlock_99 hl (by decide) rfl (fun ls hl => ?_)
        have loop_101 : ∀ (k101 : Nat) (x : Nat), 8 - x < k101 → x ≤ 8 → ∀ (Hp : Heap) (locs : List Loc) (ls : Array Slot), va_P D vwCl [(o, .inr (7, mdF th W H mt qu zz nw ol ne se ke nc ns is ik dc sc kd md wh fa re ve ps 1 tl di lv bf bo bd co bt ma)), (nw, .inl (cs 0, 4608, .inl (mpB gw W md 3 (mlO W md 3 mf) (y * 8 + x)))), (ma, .inl (cs 0, 64, .inl mf))] Hp → va_D A [(o, .inr (7, mdF th W H mt qu zz nw ol ne se ke nc ns is ik dc sc kd md wh fa re ve ps 1 tl di lv bf bo bd co bt ma)), (nw, .inl (cs 0, 4608, .inl (mpB gw W md 3 (mlO W md 3 mf) (y * 8 + x)))), (ma, .inl (cs 0, 64, .inl mf))] → va_S A s.heap Hp locs → lv_has ls 10 [(0, .ref o), (2, .int fw), (3, .int bw), (4, .int 0), (5, .int (nI (bL W md 3))), (6, .int (nI (bT W md 3))), (7, .int (nI y)), (8, .int (nI x))] → xW p l e ({ frames := 4, cells := 0, slots := 0, locals := 104 } : Room) s m ([.ref o, .int 3, .int fw, .int bw] : List Value).toArray below meth c Hp locs 0 0 (MQ below (xE D A none [(o, .inr (7, mdF th W H mt qu zz nw ol ne se ke nc ns is ik dc sc kd md wh fa re ve ps 1 tl di lv bf bo bd co bt ma)), (nw, .inl (cs 0, 4608, .inl (mpB gw W md 3 (mlO W md 3 mf) (64)))), (ma, .inl (cs 0, 64, .inl mf))]) ([.ref o, .int 3, .int fw, .int bw] : List Value).toArray s 0 0 A) (F0 m 101 ls []) := by
          intro k101
          induction k101 with
          | zero => intro x h9; omega
          | succ k101 ih_101 =>
            intro x hk101 hx9 Hp locs ls hP hD hS hl
            refine lv_iload hx hb dX7_putBlock_101 (lv_at hl 7 rfl) ?_
            refine lv_bipush (v := 8) hx hb dX7_putBlock_103 (by decide) ?_
            refine lv_icmp_ge (tgt := 193) hx hb dX7_putBlock_105 (by decide) (fun c_105 => ?_) (fun c_105 => ?_)
            · have ex : x = 8 := by have := nIle (a := 8) (b := x) rfl rfl (by decide) (by omega) c_105; omega
              have hP := xeqP hP (congrArg (fun z9 => ([(o, .inr (7, mdF th W H mt qu zz nw ol ne se ke nc ns is ik dc sc kd md wh fa re ve ps 1 tl di lv bf bo bd co bt ma)), (nw, .inl (cs 0, 4608, .inl z9)), (ma, .inl (cs 0, 64, .inl mf))] : va_W)) (congrArg (mpB gw W md 3 (mlO W md 3 mf)) (show y * 8 + x = (y + 1) * 8 by omega)))
              have hD := xeqD hD (congrArg (fun z9 => ([(o, .inr (7, mdF th W H mt qu zz nw ol ne se ke nc ns is ik dc sc kd md wh fa re ve ps 1 tl di lv bf bo bd co bt ma)), (nw, .inl (cs 0, 4608, .inl z9)), (ma, .inl (cs 0, 64, .inl mf))] : va_W)) (congrArg (mpB gw W md 3 (mlO W md 3 mf)) (show y * 8 + x = (y + 1) * 8 by omega)))
              refine lv_iinc (v := (nI (y + 1))) (lv' := [(7, .int (nI (y + 1))), (0, .ref o), (2, .int fw), (3, .int bw), (4, .int 0), (5, .int (nI (bL W md 3))), (6, .int (nI (bT W md 3))), (8, .int (nI x))]) hx hb dX7_putBlock_193 hl (k := 6) rfl (nI_1 y) (by decide) rfl (fun ls hl => ?_)
              refine lv_goto (tgt := 91) hx hb dX7_putBlock_196 (by decide) ?_
              exact ih_91 (y + 1) (by omega) (by omega) _ _ _ hP hD hS (lv_sub hl [1, 2, 3, 4, 5, 6, 0] rfl)
            · have hxl : x < 8 := nInle (a := 8) (b := x) rfl rfl (by decide) (by omega) c_105
              refine lv_aload_n hx hb dX7_putBlock_108 rfl (lv_at hl 0 rfl) ?_
              refine xget (C := RX7) (T := TX7) (N := 34) hF hX hP (by decide +kernel) 0 33 rfl rfl (by decide) (by decide +kernel) rfl dX7_putBlock_109 ?_
              refine lv_bipush (v := 8) hx hb dX7_putBlock_112 (by decide) ?_
              refine lv_iload hx hb dX7_putBlock_114 (lv_at hl 6 rfl) ?_
              refine lv_imul hx hb dX7_putBlock_116 ?_
              refine lv_iload hx hb dX7_putBlock_117 (lv_at hl 7 rfl) ?_
              refine lv_iadd hx hb dX7_putBlock_119 ?_
              refine xrwi (z := nI (y * 8 + x)) (k8 y x) ?_
              refine xald (k := y * 8 + x) hF hX hP 2 rfl (nI_clamp (by omega)) (vp_in_nI (by omega) (by decide)) dX7_putBlock_120 ?_
              refine lv_istore (lv' := [(9, .int (mf (y * 8 + x))), (0, .ref o), (2, .int fw), (3, .int bw), (4, .int 0), (5, .int (nI (bL W md 3))), (6, .int (nI (bT W md 3))), (7, .int (nI y)), (8, .int (nI x))]) hx hb dX7_putBlock_121 hl (by decide) rfl (fun ls hl => ?_)
              refine lv_aload_n hx hb dX7_putBlock_123 rfl (lv_at hl 1 rfl) ?_
              refine xget (C := RX7) (T := TX7) (N := 34) hF hX hP (by decide +kernel) 0 24 rfl rfl (by decide) (by decide +kernel) rfl dX7_putBlock_124 ?_
              refine lv_if_eq (tgt := 135) hx hb dX7_putBlock_127 (by decide) (fun c_127 => absurd c_127 (by decide)) (fun _ => ?_)
              refine lv_iload hx hb dX7_putBlock_130 (lv_at hl 0 rfl) ?_
              refine lv_goto (tgt := 156) hx hb dX7_putBlock_132 (by decide) ?_
              refine lv_istore (lv' := [(9, .int (mf (y * 8 + x))), (0, .ref o), (2, .int fw), (3, .int bw), (4, .int 0), (5, .int (nI (bL W md 3))), (6, .int (nI (bT W md 3))), (7, .int (nI y)), (8, .int (nI x))]) hx hb dX7_putBlock_156 hl (by decide) rfl (fun ls hl => ?_)
              refine lv_aload_n hx hb dX7_putBlock_158 rfl (lv_at hl 1 rfl) ?_
              refine xget (C := RX7) (T := TX7) (N := 34) hF hX hP (by decide +kernel) 0 6 rfl rfl (by decide) (by decide +kernel) rfl dX7_putBlock_159 ?_
              refine lv_iload hx hb dX7_putBlock_162 (lv_at hl 4 rfl) ?_
              refine lv_iload hx hb dX7_putBlock_164 (lv_at hl 5 rfl) ?_
              refine lv_iload hx hb dX7_putBlock_166 (lv_at hl 8 rfl) ?_
              refine lv_iadd hx hb dX7_putBlock_168 ?_
              refine xrwi (z := nI ((bL W md 3) + x)) (nI_add _ _) ?_
              refine lv_iload hx hb dX7_putBlock_169 (lv_at hl 6 rfl) ?_
              refine lv_iload hx hb dX7_putBlock_171 (lv_at hl 7 rfl) ?_
              refine lv_iadd hx hb dX7_putBlock_173 ?_
              refine xrwi (z := nI ((bT W md 3) + y)) (nI_add _ _) ?_
              refine xSt (rest := [.ref nw]) (As := [.int 0, .int (nI ((bL W md 3) + x)), .int (nI ((bT W md 3) + y))]) (ws1 := [(o, .inr (7, mdF th W H mt qu zz nw ol ne se ke nc ns is ik dc sc kd md wh fa re ve ps 1 tl di lv bf bo bd co bt ma)), (nw, .inl (cs 0, 4608, .inl (mpB gw W md 3 (mlO W md 3 mf) (y * 8 + x)))), (ma, .inl (cs 0, 64, .inl mf))]) (st1 := [.int (nI (plc 0 ((bL W md 3) + x) ((bT W md 3) + y))), .ref nw]) hF (c_X7_place l D cs tt 0 ((bL W md 3) + x) ((bT W md 3) + y) (by decide)) gX7_putBlock_X7_place rfl (n := 3) (by decide +kernel) rfl ⟨⟨rfl, rfl⟩, Nat.le_of_ble_eq_true rfl, Nat.le_of_ble_eq_true rfl⟩ ⟨Nat.le_of_ble_eq_true rfl, Nat.le_of_ble_eq_true rfl⟩ hX hP hD hS [] (by decide) rfl [] rfl rfl hl.1 rfl (Nat.le_of_ble_eq_true rfl) dX7_putBlock_174 rfl rfl (fun Hp locs hP hD hS => ?_)
              refine xrwi (z := nI (0 + (((bT W md 3) + y) * 64 + ((bL W md 3) + x)))) (by unfold plc; rw [if_pos rfl]; exact congrArg nI (by omega)) ?_
              refine lv_iload hx hb dX7_putBlock_177 (lv_at hl 0 rfl) ?_
              refine lv_iconst (v := 0) hx hb dX7_putBlock_179 (by decide) ?_
              refine lv_sipush (v := 255) hx hb dX7_putBlock_180 (by decide) ?_
              refine xSt (rest := [.int (nI (0 + (((bT W md 3) + y) * 64 + ((bL W md 3) + x)))), .ref nw]) (As := [.int (mf (y * 8 + x)), .int 0, .int 255]) (ws1 := [(o, .inr (7, mdF th W H mt qu zz nw ol ne se ke nc ns is ik dc sc kd md wh fa re ve ps 1 tl di lv bf bo bd co bt ma)), (nw, .inl (cs 0, 4608, .inl (mpB gw W md 3 (mlO W md 3 mf) (y * 8 + x)))), (ma, .inl (cs 0, 64, .inl mf))]) (st1 := [.int (bnd (mf (y * 8 + x)) 0 255), .int (nI (0 + (((bT W md 3) + y) * 64 + ((bL W md 3) + x)))), .ref nw]) hF (c_X7_within l D cs tt (mf (y * 8 + x)) 0 255) gX7_putBlock_X7_within rfl (n := 3) (by decide +kernel) rfl ⟨⟨rfl, rfl⟩, Nat.le_of_ble_eq_true rfl, Nat.le_of_ble_eq_true rfl⟩ ⟨Nat.le_of_ble_eq_true rfl, Nat.le_of_ble_eq_true rfl⟩ hX hP hD hS [] (by decide) rfl [] rfl rfl hl.1 rfl (Nat.le_of_ble_eq_true rfl) dX7_putBlock_183 rfl rfl (fun Hp locs hP hD hS => ?_)
              refine xast (k := 0 + (((bT W md 3) + y) * 64 + ((bL W md 3) + x))) (ws1 := [(o, .inr (7, mdF th W H mt qu zz nw ol ne se ke nc ns is ik dc sc kd md wh fa re ve ps 1 tl di lv bf bo bd co bt ma)), (nw, .inl (cs 0, 4608, .inl (mpB gw W md 3 (mlO W md 3 mf) (y * 8 + (x + 1))))), (ma, .inl (cs 0, 64, .inl mf))]) hF hX hP hD hS 1 rfl (nI_clamp (by omega)) (vp_in_nI (by omega) (by decide)) dX7_putBlock_186 (congrArg (fun z9 => ([(o, .inr (7, mdF th W H mt qu zz nw ol ne se ke nc ns is ik dc sc kd md wh fa re ve ps 1 tl di lv bf bo bd co bt ma)), (nw, .inl (cs 0, 4608, .inl z9)), (ma, .inl (cs 0, 64, .inl mf))] : va_W)) (pbs gw (mlO W md 3 mf) (by unfold mlO; rw [show ((bT W md 3) + y - (bT W md 3)) * 8 + ((bL W md 3) + x - (bL W md 3)) = y * 8 + x by omega]) hxl (show (bL W md 3) + 8 ≤ 64 by omega))) (fun Hp locs hP hD hS => ?_)
              refine lv_iinc (v := (nI (x + 1))) (lv' := [(8, .int (nI (x + 1))), (9, .int (mf (y * 8 + x))), (0, .ref o), (2, .int fw), (3, .int bw), (4, .int 0), (5, .int (nI (bL W md 3))), (6, .int (nI (bT W md 3))), (7, .int (nI y))]) hx hb dX7_putBlock_187 hl (k := 8) rfl (nI_1 x) (by decide) rfl (fun ls hl => ?_)
              refine lv_goto (tgt := 101) hx hb dX7_putBlock_190 (by decide) ?_
              exact ih_101 (x + 1) (by omega) (by omega) _ _ _ hP hD hS (lv_sub hl [2, 3, 4, 5, 6, 7, 8, 0] rfl)
        exact loop_101 (8 - 0 + 1) 0 (Nat.lt_succ_self _) (by decide) _ _ _ hP hD hS (lv_sub hl [1, 2, 3, 4, 5, 6, 7, 0] rfl)
  have hP := xeqP hP (congrArg (fun z9 => ([(o, .inr (7, mdF th W H mt qu zz nw ol ne se ke nc ns is ik dc sc kd md wh fa re ve ps 1 tl di lv bf bo bd co bt ma)), (nw, .inl (cs 0, 4608, .inl z9)), (ma, .inl (cs 0, 64, .inl mf))] : va_W)) ((show gw = mpB gw W md 3 (mlO W md 3 mf) (0 * 8) from (blkTo_0 gw _ _ _ _ 8 (mlO W md 3 mf)).symm)))
  have hD := xeqD hD (congrArg (fun z9 => ([(o, .inr (7, mdF th W H mt qu zz nw ol ne se ke nc ns is ik dc sc kd md wh fa re ve ps 1 tl di lv bf bo bd co bt ma)), (nw, .inl (cs 0, 4608, .inl z9)), (ma, .inl (cs 0, 64, .inl mf))] : va_W)) ((show gw = mpB gw W md 3 (mlO W md 3 mf) (0 * 8) from (blkTo_0 gw _ _ _ _ 8 (mlO W md 3 mf)).symm)))
  exact loop_91 (8 - 0 + 1) 0 (Nat.lt_succ_self _) (by decide) _ _ _ hP hD hS (lv_sub hl [4, 6, 7, 3, 2, 1, 0] rfl)

set_option maxHeartbeats 4000000 in
set_option maxRecDepth 100000 in
theorem c_X7_putBlock3A (l : Launch) (D : va_G) (cs : Nat → ClassId) (tt : Nat → Nat) (o mt qu zz nw ol ne se ke re ve ps di lv bd co bt ma W H md : Nat) (th nc ns is ik dc sc wh fa tl bf bo : Int32) (gw mf go gn V : Nat → Int32) (hw : 1 ≤ W) (hw4 : W ≤ 4) (hh : 1 ≤ H) (hh3 : H ≤ 3) (hmd : md < W * H) : xM l yX7_putBlock wsX7_putBlock ({ frames := 4, cells := 0, slots := 0, locals := 104 } : Room) D cs tt [.ref o, .int 3, .int 1, .int 0] [(o, .inr (7, mdF th W H mt qu zz nw ol ne se ke nc ns is ik dc sc 2 md wh fa re ve ps 0 tl di lv bf bo bd co bt ma)), (nw, .inl (cs 0, 4608, .inl gw)), (ol, .inl (cs 0, 4608, .inl go)), (ne, .inl (cs 0, 4608, .inl gn)), (ve, .inl (cs 0, 4, .inl V)), (ma, .inl (cs 0, 64, .inl mf))] none [(o, .inr (7, mdF th W H mt qu zz nw ol ne se ke nc ns is ik dc sc 2 md wh fa re ve ps 0 tl di lv bf bo bd co bt ma)), (nw, .inl (cs 0, 4608, .inl (mpB gw W md 3 (mlF W md 3 mf (fun x9 y9 => (mft (lokP gn 0) (wdt 0 W) (wdt 0 H) (nI x9) (nI y9) (mus wh (V 0) 0) (mus wh (V 1) 0)))) (64)))), (ol, .inl (cs 0, 4608, .inl go)), (ne, .inl (cs 0, 4608, .inl gn)), (ve, .inl (cs 0, 4, .inl V)), (ma, .inl (cs 0, 64, .inl mf))] := by
  refine xM.of RX7 rfl (by decide) rfl (Nat.le_of_ble_eq_true rfl) ?_
  intro p e s m below meth c A ls hF hr hlk hX hP hD hS hl
  have hx := hF.1
  have hb := hF.2.1
  have hl : lv_has ls 10 [(0, .ref o), (1, .int 3), (2, .int 1), (3, .int 0)] := hl
  have hm4 : md < 4096 := Nat.lt_of_lt_of_le hmd (Nat.le_trans (Nat.mul_le_mul hw4 hh3) (by decide))
  have hb9 := b_in hw hmd 3 (by decide)
  have hbl : (bL W md 3) + 8 ≤ 16 * W := hb9.1
  have hbt : (bT W md 3) + 8 ≤ 16 * H := hb9.2
  have hsL : bL W md 3 = bL W md 3 := rfl
  refine lv_iload_n hx hb dX7_putBlock_0 rfl (lv_at hl 1 rfl) ?_
  refine xSt (rest := []) (As := [.int 3]) (ws1 := [(o, .inr (7, mdF th W H mt qu zz nw ol ne se ke nc ns is ik dc sc 2 md wh fa re ve ps 0 tl di lv bf bo bd co bt ma)), (nw, .inl (cs 0, 4608, .inl gw)), (ol, .inl (cs 0, 4608, .inl go)), (ne, .inl (cs 0, 4608, .inl gn)), (ve, .inl (cs 0, 4, .inl V)), (ma, .inl (cs 0, 64, .inl mf))]) (st1 := [.int (pln 3)]) hF (c_X7_planeOf l D cs tt 3) gX7_putBlock_X7_planeOf rfl (n := 1) (by decide +kernel) rfl ⟨⟨rfl, rfl⟩, Nat.le_of_ble_eq_true rfl, Nat.le_of_ble_eq_true rfl⟩ ⟨Nat.le_of_ble_eq_true rfl, Nat.le_of_ble_eq_true rfl⟩ hX hP hD hS [] (by decide) rfl [] rfl rfl hl.1 rfl (Nat.le_of_ble_eq_true rfl) dX7_putBlock_1 rfl rfl (fun Hp locs hP hD hS => ?_)
  refine xrwi (z := 0) (by decide) ?_
  refine lv_istore (lv' := [(4, .int 0), (0, .ref o), (1, .int 3), (2, .int 1), (3, .int 0)]) hx hb dX7_putBlock_4 hl (by decide) rfl (fun ls hl => ?_)
  refine lv_iload hx hb dX7_putBlock_6 (lv_at hl 0 rfl) ?_
  refine lv_if_ne (tgt := 33) hx hb dX7_putBlock_8 (by decide) (fun c_8 => absurd (by decide) c_8) (fun _ => ?_)
  refine lv_bipush (v := 16) hx hb dX7_putBlock_11 (by decide) ?_
  refine lv_aload_n hx hb dX7_putBlock_13 rfl (lv_at hl 1 rfl) ?_
  refine xget (C := RX7) (T := TX7) (N := 34) hF hX hP (by decide +kernel) 0 18 rfl rfl (by decide) (by decide +kernel) rfl dX7_putBlock_14 ?_
  refine lv_aload_n hx hb dX7_putBlock_17 rfl (lv_at hl 1 rfl) ?_
  refine xget (C := RX7) (T := TX7) (N := 34) hF hX hP (by decide +kernel) 0 1 rfl rfl (by decide) (by decide +kernel) rfl dX7_putBlock_18 ?_
  refine lv_irem hx hb dX7_putBlock_21 (nI_ne0 (by omega) (by omega)) ?_
  refine xrwi (z := nI (md % W)) (pk_rem (by omega) (by omega) (by omega)) ?_
  refine lv_imul hx hb dX7_putBlock_22 ?_
  refine lv_bipush (v := 8) hx hb dX7_putBlock_23 (by decide) ?_
  refine lv_iload_n hx hb dX7_putBlock_25 rfl (lv_at hl 2 rfl) ?_
  refine lv_iconst (v := 2) hx hb dX7_putBlock_26 (by decide) ?_
  refine lv_irem hx hb dX7_putBlock_27 (by decide) ?_
  refine xrwi (z := 1) (by decide) ?_
  refine lv_imul hx hb dX7_putBlock_28 ?_
  refine xrwi (z := 8) (by decide) ?_
  refine lv_iadd hx hb dX7_putBlock_29 ?_
  refine lv_goto (tgt := 45) hx hb dX7_putBlock_30 (by decide) ?_
  refine xrwi (z := nI (bL W md 3)) (by rw [show (16 : Int32) * nI (md % W) = nI (16 * (md % W)) from pk_mul 16 _, show nI (16 * (md % W)) + 8 = nI (16 * (md % W) + 8) from nI_add _ 8]; exact congrArg nI (show 16 * (md % W) + 8 = bL W md 3 by show _ = md % W * 16 + 8; omega)) ?_
  refine lv_istore (lv' := [(5, .int (nI (bL W md 3))), (4, .int 0), (0, .ref o), (1, .int 3), (2, .int 1), (3, .int 0)]) hx hb dX7_putBlock_45 hl (by decide) rfl (fun ls hl => ?_)
  refine lv_iload hx hb dX7_putBlock_47 (lv_at hl 1 rfl) ?_
  refine lv_if_ne (tgt := 74) hx hb dX7_putBlock_49 (by decide) (fun c_49 => absurd (by decide) c_49) (fun _ => ?_)
  refine lv_bipush (v := 16) hx hb dX7_putBlock_52 (by decide) ?_
  refine lv_aload_n hx hb dX7_putBlock_54 rfl (lv_at hl 2 rfl) ?_
  refine xget (C := RX7) (T := TX7) (N := 34) hF hX hP (by decide +kernel) 0 18 rfl rfl (by decide) (by decide +kernel) rfl dX7_putBlock_55 ?_
  refine lv_aload_n hx hb dX7_putBlock_58 rfl (lv_at hl 2 rfl) ?_
  refine xget (C := RX7) (T := TX7) (N := 34) hF hX hP (by decide +kernel) 0 1 rfl rfl (by decide) (by decide +kernel) rfl dX7_putBlock_59 ?_
  refine lv_idiv hx hb dX7_putBlock_62 (nI_ne0 (by omega) (by omega)) ?_
  refine xrwi (z := nI (md / W)) (pk_div (by omega) (by omega) (by omega)) ?_
  refine lv_imul hx hb dX7_putBlock_63 ?_
  refine lv_bipush (v := 8) hx hb dX7_putBlock_64 (by decide) ?_
  refine lv_iload_n hx hb dX7_putBlock_66 rfl (lv_at hl 3 rfl) ?_
  refine lv_iconst (v := 2) hx hb dX7_putBlock_67 (by decide) ?_
  refine lv_idiv hx hb dX7_putBlock_68 (by decide) ?_
  refine xrwi (z := 1) (by decide) ?_
  refine lv_imul hx hb dX7_putBlock_69 ?_
  refine xrwi (z := 8) (by decide) ?_
  refine lv_iadd hx hb dX7_putBlock_70 ?_
  refine lv_goto (tgt := 86) hx hb dX7_putBlock_71 (by decide) ?_
  refine xrwi (z := nI (bT W md 3)) (by rw [show (16 : Int32) * nI (md / W) = nI (16 * (md / W)) from pk_mul 16 _, show nI (16 * (md / W)) + 8 = nI (16 * (md / W) + 8) from nI_add _ 8]; exact congrArg nI (show 16 * (md / W) + 8 = bT W md 3 by show _ = md / W * 16 + 8; omega)) ?_
  refine lv_istore (lv' := [(6, .int (nI (bT W md 3))), (5, .int (nI (bL W md 3))), (4, .int 0), (0, .ref o), (1, .int 3), (2, .int 1), (3, .int 0)]) hx hb dX7_putBlock_86 hl (by decide) rfl (fun ls hl => ?_)
  refine lv_iconst (v := 0) hx hb dX7_putBlock_88 (by decide) ?_
  refine lv_istore (lv' := [(7, .int 0), (6, .int (nI (bT W md 3))), (5, .int (nI (bL W md 3))), (4, .int 0), (0, .ref o), (1, .int 3), (2, .int 1), (3, .int 0)]) hx hb dX7_putBlock_89 hl (by decide) rfl (fun ls hl => ?_)
  have loop_91 : ∀ (k91 : Nat) (y : Nat), 8 - y < k91 → y ≤ 8 → ∀ (Hp : Heap) (locs : List Loc) (ls : Array Slot), va_P D vwCl [(o, .inr (7, mdF th W H mt qu zz nw ol ne se ke nc ns is ik dc sc 2 md wh fa re ve ps 0 tl di lv bf bo bd co bt ma)), (nw, .inl (cs 0, 4608, .inl (mpB gw W md 3 (mlF W md 3 mf (fun x9 y9 => (mft (lokP gn 0) (wdt 0 W) (wdt 0 H) (nI x9) (nI y9) (mus wh (V 0) 0) (mus wh (V 1) 0)))) (y * 8)))), (ol, .inl (cs 0, 4608, .inl go)), (ne, .inl (cs 0, 4608, .inl gn)), (ve, .inl (cs 0, 4, .inl V)), (ma, .inl (cs 0, 64, .inl mf))] Hp → va_D A [(o, .inr (7, mdF th W H mt qu zz nw ol ne se ke nc ns is ik dc sc 2 md wh fa re ve ps 0 tl di lv bf bo bd co bt ma)), (nw, .inl (cs 0, 4608, .inl (mpB gw W md 3 (mlF W md 3 mf (fun x9 y9 => (mft (lokP gn 0) (wdt 0 W) (wdt 0 H) (nI x9) (nI y9) (mus wh (V 0) 0) (mus wh (V 1) 0)))) (y * 8)))), (ol, .inl (cs 0, 4608, .inl go)), (ne, .inl (cs 0, 4608, .inl gn)), (ve, .inl (cs 0, 4, .inl V)), (ma, .inl (cs 0, 64, .inl mf))] → va_S A s.heap Hp locs → lv_has ls 10 [(0, .ref o), (2, .int 1), (3, .int 0), (4, .int 0), (5, .int (nI (bL W md 3))), (6, .int (nI (bT W md 3))), (7, .int (nI y))] → xW p l e ({ frames := 4, cells := 0, slots := 0, locals := 104 } : Room) s m ([.ref o, .int 3, .int 1, .int 0] : List Value).toArray below meth c Hp locs 0 0 (MQ below (xE D A none [(o, .inr (7, mdF th W H mt qu zz nw ol ne se ke nc ns is ik dc sc 2 md wh fa re ve ps 0 tl di lv bf bo bd co bt ma)), (nw, .inl (cs 0, 4608, .inl (mpB gw W md 3 (mlF W md 3 mf (fun x9 y9 => (mft (lokP gn 0) (wdt 0 W) (wdt 0 H) (nI x9) (nI y9) (mus wh (V 0) 0) (mus wh (V 1) 0)))) (64)))), (ol, .inl (cs 0, 4608, .inl go)), (ne, .inl (cs 0, 4608, .inl gn)), (ve, .inl (cs 0, 4, .inl V)), (ma, .inl (cs 0, 64, .inl mf))]) ([.ref o, .int 3, .int 1, .int 0] : List Value).toArray s 0 0 A) (F0 m 91 ls []) := by
    intro k91
    induction k91 with
    | zero => intro y h9; omega
    | succ k91 ih_91 =>
      intro y hk91 hy9 Hp locs ls hP hD hS hl
      refine lv_iload hx hb dX7_putBlock_91 (lv_at hl 6 rfl) ?_
      refine lv_bipush (v := 8) hx hb dX7_putBlock_93 (by decide) ?_
      refine lv_icmp_ge (tgt := 199) hx hb dX7_putBlock_95 (by decide) (fun c_95 => ?_) (fun c_95 => ?_)
      · have ey : y = 8 := by have := nIle (a := 8) (b := y) rfl rfl (by decide) (by omega) c_95; omega
        have hP := xeqP hP (congrArg (fun z9 => ([(o, .inr (7, mdF th W H mt qu zz nw ol ne se ke nc ns is ik dc sc 2 md wh fa re ve ps 0 tl di lv bf bo bd co bt ma)), (nw, .inl (cs 0, 4608, .inl z9)), (ol, .inl (cs 0, 4608, .inl go)), (ne, .inl (cs 0, 4608, .inl gn)), (ve, .inl (cs 0, 4, .inl V)), (ma, .inl (cs 0, 64, .inl mf))] : va_W)) (congrArg (mpB gw W md 3 (mlF W md 3 mf (fun x9 y9 => (mft (lokP gn 0) (wdt 0 W) (wdt 0 H) (nI x9) (nI y9) (mus wh (V 0) 0) (mus wh (V 1) 0))))) (show y * 8 = 64 by omega)))
        have hD := xeqD hD (congrArg (fun z9 => ([(o, .inr (7, mdF th W H mt qu zz nw ol ne se ke nc ns is ik dc sc 2 md wh fa re ve ps 0 tl di lv bf bo bd co bt ma)), (nw, .inl (cs 0, 4608, .inl z9)), (ol, .inl (cs 0, 4608, .inl go)), (ne, .inl (cs 0, 4608, .inl gn)), (ve, .inl (cs 0, 4, .inl V)), (ma, .inl (cs 0, 64, .inl mf))] : va_W)) (congrArg (mpB gw W md 3 (mlF W md 3 mf (fun x9 y9 => (mft (lokP gn 0) (wdt 0 W) (wdt 0 H) (nI x9) (nI y9) (mus wh (V 0) 0) (mus wh (V 1) 0))))) (show y * 8 = 64 by omega)))
        exact xrv hF hr hlk hP hD hS dX7_putBlock_199
      · have hyl : y < 8 := nInle (a := 8) (b := y) rfl rfl (by decide) (by omega) c_95
        refine lv_iconst (v := 0) hx hb dX7_putBlock_98 (by decide) ?_
        refine lv_istore (lv' := [(8, .int 0), (0, .ref o), (2, .int 1), (3, .int 0), (4, .int 0), (5, .int (nI (bL W md 3))), (6, .int (nI (bT W md 3))), (7, .int (nI y))]) hx hb dX7_putBlock_99 hl (by decide) rfl (fun ls hl => ?_)
        have loop_101 : ∀ (k101 : Nat) (x : Nat), 8 - x < k101 → x ≤ 8 → ∀ (Hp : Heap) (locs : List Loc) (ls : Array Slot), va_P D vwCl [(o, .inr (7, mdF th W H mt qu zz nw ol ne se ke nc ns is ik dc sc 2 md wh fa re ve ps 0 tl di lv bf bo bd co bt ma)), (nw, .inl (cs 0, 4608, .inl (mpB gw W md 3 (mlF W md 3 mf (fun x9 y9 => (mft (lokP gn 0) (wdt 0 W) (wdt 0 H) (nI x9) (nI y9) (mus wh (V 0) 0) (mus wh (V 1) 0)))) (y * 8 + x)))), (ol, .inl (cs 0, 4608, .inl go)), (ne, .inl (cs 0, 4608, .inl gn)), (ve, .inl (cs 0, 4, .inl V)), (ma, .inl (cs 0, 64, .inl mf))] Hp → va_D A [(o, .inr (7, mdF th W H mt qu zz nw ol ne se ke nc ns is ik dc sc 2 md wh fa re ve ps 0 tl di lv bf bo bd co bt ma)), (nw, .inl (cs 0, 4608, .inl (mpB gw W md 3 (mlF W md 3 mf (fun x9 y9 => (mft (lokP gn 0) (wdt 0 W) (wdt 0 H) (nI x9) (nI y9) (mus wh (V 0) 0) (mus wh (V 1) 0)))) (y * 8 + x)))), (ol, .inl (cs 0, 4608, .inl go)), (ne, .inl (cs 0, 4608, .inl gn)), (ve, .inl (cs 0, 4, .inl V)), (ma, .inl (cs 0, 64, .inl mf))] → va_S A s.heap Hp locs → lv_has ls 10 [(0, .ref o), (2, .int 1), (3, .int 0), (4, .int 0), (5, .int (nI (bL W md 3))), (6, .int (nI (bT W md 3))), (7, .int (nI y)), (8, .int (nI x))] → xW p l e ({ frames := 4, cells := 0, slots := 0, locals := 104 } : Room) s m ([.ref o, .int 3, .int 1, .int 0] : List Value).toArray below meth c Hp locs 0 0 (MQ below (xE D A none [(o, .inr (7, mdF th W H mt qu zz nw ol ne se ke nc ns is ik dc sc 2 md wh fa re ve ps 0 tl di lv bf bo bd co bt ma)), (nw, .inl (cs 0, 4608, .inl (mpB gw W md 3 (mlF W md 3 mf (fun x9 y9 => (mft (lokP gn 0) (wdt 0 W) (wdt 0 H) (nI x9) (nI y9) (mus wh (V 0) 0) (mus wh (V 1) 0)))) (64)))), (ol, .inl (cs 0, 4608, .inl go)), (ne, .inl (cs 0, 4608, .inl gn)), (ve, .inl (cs 0, 4, .inl V)), (ma, .inl (cs 0, 64, .inl mf))]) ([.ref o, .int 3, .int 1, .int 0] : List Value).toArray s 0 0 A) (F0 m 101 ls []) := by
          intro k101
          induction k101 with
          | zero => intro x h9; omega
          | succ k101 ih_101 =>
            intro x hk101 hx9 Hp locs ls hP hD hS hl
            refine lv_iload hx hb dX7_putBlock_101 (lv_at hl 7 rfl) ?_
            refine lv_bipush (v := 8) hx hb dX7_putBlock_103 (by decide) ?_
            refine lv_icmp_ge (tgt := 193) hx hb dX7_putBlock_105 (by decide) (fun c_105 => ?_) (fun c_105 => ?_)
            · have ex : x = 8 := by have := nIle (a := 8) (b := x) rfl rfl (by decide) (by omega) c_105; omega
              have hP := xeqP hP (congrArg (fun z9 => ([(o, .inr (7, mdF th W H mt qu zz nw ol ne se ke nc ns is ik dc sc 2 md wh fa re ve ps 0 tl di lv bf bo bd co bt ma)), (nw, .inl (cs 0, 4608, .inl z9)), (ol, .inl (cs 0, 4608, .inl go)), (ne, .inl (cs 0, 4608, .inl gn)), (ve, .inl (cs 0, 4, .inl V)), (ma, .inl (cs 0, 64, .inl mf))] : va_W)) (congrArg (mpB gw W md 3 (mlF W md 3 mf (fun x9 y9 => (mft (lokP gn 0) (wdt 0 W) (wdt 0 H) (nI x9) (nI y9) (mus wh (V 0) 0) (mus wh (V 1) 0))))) (show y * 8 + x = (y + 1) * 8 by omega)))
              have hD := xeqD hD (congrArg (fun z9 => ([(o, .inr (7, mdF th W H mt qu zz nw ol ne se ke nc ns is ik dc sc 2 md wh fa re ve ps 0 tl di lv bf bo bd co bt ma)), (nw, .inl (cs 0, 4608, .inl z9)), (ol, .inl (cs 0, 4608, .inl go)), (ne, .inl (cs 0, 4608, .inl gn)), (ve, .inl (cs 0, 4, .inl V)), (ma, .inl (cs 0, 64, .inl mf))] : va_W)) (congrArg (mpB gw W md 3 (mlF W md 3 mf (fun x9 y9 => (mft (lokP gn 0) (wdt 0 W) (wdt 0 H) (nI x9) (nI y9) (mus wh (V 0) 0) (mus wh (V 1) 0))))) (show y * 8 + x = (y + 1) * 8 by omega)))
              refine lv_iinc (v := (nI (y + 1))) (lv' := [(7, .int (nI (y + 1))), (0, .ref o), (2, .int 1), (3, .int 0), (4, .int 0), (5, .int (nI (bL W md 3))), (6, .int (nI (bT W md 3))), (8, .int (nI x))]) hx hb dX7_putBlock_193 hl (k := 6) rfl (nI_1 y) (by decide) rfl (fun ls hl => ?_)
              refine lv_goto (tgt := 91) hx hb dX7_putBlock_196 (by decide) ?_
              exact ih_91 (y + 1) (by omega) (by omega) _ _ _ hP hD hS (lv_sub hl [1, 2, 3, 4, 5, 6, 0] rfl)
            · have hxl : x < 8 := nInle (a := 8) (b := x) rfl rfl (by decide) (by omega) c_105
              refine lv_aload_n hx hb dX7_putBlock_108 rfl (lv_at hl 0 rfl) ?_
              refine xget (C := RX7) (T := TX7) (N := 34) hF hX hP (by decide +kernel) 0 33 rfl rfl (by decide) (by decide +kernel) rfl dX7_putBlock_109 ?_
              refine lv_bipush (v := 8) hx hb dX7_putBlock_112 (by decide) ?_
              refine lv_iload hx hb dX7_putBlock_114 (lv_at hl 6 rfl) ?_
              refine lv_imul hx hb dX7_putBlock_116 ?_
              refine lv_iload hx hb dX7_putBlock_117 (lv_at hl 7 rfl) ?_
              refine lv_iadd hx hb dX7_putBlock_119 ?_
              refine xrwi (z := nI (y * 8 + x)) (k8 y x) ?_
              refine xald (k := y * 8 + x) hF hX hP 5 rfl (nI_clamp (by omega)) (vp_in_nI (by omega) (by decide)) dX7_putBlock_120 ?_
              refine lv_istore (lv' := [(9, .int (mf (y * 8 + x))), (0, .ref o), (2, .int 1), (3, .int 0), (4, .int 0), (5, .int (nI (bL W md 3))), (6, .int (nI (bT W md 3))), (7, .int (nI y)), (8, .int (nI x))]) hx hb dX7_putBlock_121 hl (by decide) rfl (fun ls hl => ?_)
              refine lv_aload_n hx hb dX7_putBlock_123 rfl (lv_at hl 1 rfl) ?_
              refine xget (C := RX7) (T := TX7) (N := 34) hF hX hP (by decide +kernel) 0 24 rfl rfl (by decide) (by decide +kernel) rfl dX7_putBlock_124 ?_
              refine lv_if_eq (tgt := 135) hx hb dX7_putBlock_127 (by decide) (fun _ => ?_) (fun c_127 => absurd (by decide) c_127)
              refine lv_iload hx hb dX7_putBlock_135 (lv_at hl 0 rfl) ?_
              refine lv_aload_n hx hb dX7_putBlock_137 rfl (lv_at hl 1 rfl) ?_
              refine lv_iload_n hx hb dX7_putBlock_138 rfl (lv_at hl 2 rfl) ?_
              refine lv_iload_n hx hb dX7_putBlock_139 rfl (lv_at hl 3 rfl) ?_
              refine lv_iload hx hb dX7_putBlock_140 (lv_at hl 4 rfl) ?_
              refine lv_iload hx hb dX7_putBlock_142 (lv_at hl 5 rfl) ?_
              refine lv_iload hx hb dX7_putBlock_144 (lv_at hl 8 rfl) ?_
              refine lv_iadd hx hb dX7_putBlock_146 ?_
              refine xrwi (z := nI ((bL W md 3) + x)) (nI_add _ _) ?_
              refine lv_iload hx hb dX7_putBlock_147 (lv_at hl 6 rfl) ?_
              refine lv_iload hx hb dX7_putBlock_149 (lv_at hl 7 rfl) ?_
              refine lv_iadd hx hb dX7_putBlock_151 ?_
              refine xrwi (z := nI ((bT W md 3) + y)) (nI_add _ _) ?_
              refine xV (rest := [.int (mf (y * 8 + x))]) (As := [.int 1, .int 0, .int 0, .int (nI ((bL W md 3) + x)), .int (nI ((bT W md 3) + y))]) (ws1 := [(o, .inr (7, mdF th W H mt qu zz nw ol ne se ke nc ns is ik dc sc 2 md wh fa re ve ps 0 tl di lv bf bo bd co bt ma)), (nw, .inl (cs 0, 4608, .inl (mpB gw W md 3 (mlF W md 3 mf (fun x9 y9 => (mft (lokP gn 0) (wdt 0 W) (wdt 0 H) (nI x9) (nI y9) (mus wh (V 0) 0) (mus wh (V 1) 0)))) (y * 8 + x)))), (ol, .inl (cs 0, 4608, .inl go)), (ne, .inl (cs 0, 4608, .inl gn)), (ve, .inl (cs 0, 4, .inl V)), (ma, .inl (cs 0, 64, .inl mf))]) (st1 := [.int (mft (lokP gn 0) (wdt 0 W) (wdt 0 H) (nI ((bL W md 3) + x)) (nI ((bT W md 3) + y)) (mus wh (V 0) 0) (mus wh (V 1) 0)), .int (mf (y * 8 + x))]) hF (c_X7_fetchedA l D cs tt o mt qu zz nw ol ne se ke re ve ps di lv bd co bt ma W H md th nc ns is ik dc sc wh fa 0 tl bf bo 0 (nI ((bL W md 3) + x)) (nI ((bT W md 3) + y)) go gn V (by decide) hw hw4 hh hh3) gX7_putBlock_X7_fetched rfl (n := 5) (by decide +kernel) rfl ⟨⟨rfl, rfl⟩, Nat.le_of_ble_eq_true rfl, Nat.le_of_ble_eq_true rfl⟩ ⟨Nat.le_of_ble_eq_true rfl, Nat.le_of_ble_eq_true rfl⟩ hX hP hD hS [0, 2, 3, 4] (by decide) rfl [o, ol, ne, ve] rfl rfl (q0 := 0) (ci := 7) rfl rfl rfl hl.1 rfl (Nat.le_of_ble_eq_true rfl) dX7_putBlock_152 rfl rfl (fun Hp locs hP hD hS => ?_)
              refine lv_iadd hx hb dX7_putBlock_155 ?_
              refine lv_istore (lv' := [(9, .int ((mf (y * 8 + x)) + (mft (lokP gn 0) (wdt 0 W) (wdt 0 H) (nI ((bL W md 3) + x)) (nI ((bT W md 3) + y)) (mus wh (V 0) 0) (mus wh (V 1) 0)))), (0, .ref o), (2, .int 1), (3, .int 0), (4, .int 0), (5, .int (nI (bL W md 3))), (6, .int (nI (bT W md 3))), (7, .int (nI y)), (8, .int (nI x))]) hx hb dX7_putBlock_156 hl (by decide) rfl (fun ls hl => ?_)
              refine lv_aload_n hx hb dX7_putBlock_158 rfl (lv_at hl 1 rfl) ?_
              refine xget (C := RX7) (T := TX7) (N := 34) hF hX hP (by decide +kernel) 0 6 rfl rfl (by decide) (by decide +kernel) rfl dX7_putBlock_159 ?_
              refine lv_iload hx hb dX7_putBlock_162 (lv_at hl 4 rfl) ?_
              refine lv_iload hx hb dX7_putBlock_164 (lv_at hl 5 rfl) ?_
              refine lv_iload hx hb dX7_putBlock_166 (lv_at hl 8 rfl) ?_
              refine lv_iadd hx hb dX7_putBlock_168 ?_
              refine xrwi (z := nI ((bL W md 3) + x)) (nI_add _ _) ?_
              refine lv_iload hx hb dX7_putBlock_169 (lv_at hl 6 rfl) ?_
              refine lv_iload hx hb dX7_putBlock_171 (lv_at hl 7 rfl) ?_
              refine lv_iadd hx hb dX7_putBlock_173 ?_
              refine xrwi (z := nI ((bT W md 3) + y)) (nI_add _ _) ?_
              refine xSt (rest := [.ref nw]) (As := [.int 0, .int (nI ((bL W md 3) + x)), .int (nI ((bT W md 3) + y))]) (ws1 := [(o, .inr (7, mdF th W H mt qu zz nw ol ne se ke nc ns is ik dc sc 2 md wh fa re ve ps 0 tl di lv bf bo bd co bt ma)), (nw, .inl (cs 0, 4608, .inl (mpB gw W md 3 (mlF W md 3 mf (fun x9 y9 => (mft (lokP gn 0) (wdt 0 W) (wdt 0 H) (nI x9) (nI y9) (mus wh (V 0) 0) (mus wh (V 1) 0)))) (y * 8 + x)))), (ol, .inl (cs 0, 4608, .inl go)), (ne, .inl (cs 0, 4608, .inl gn)), (ve, .inl (cs 0, 4, .inl V)), (ma, .inl (cs 0, 64, .inl mf))]) (st1 := [.int (nI (plc 0 ((bL W md 3) + x) ((bT W md 3) + y))), .ref nw]) hF (c_X7_place l D cs tt 0 ((bL W md 3) + x) ((bT W md 3) + y) (by decide)) gX7_putBlock_X7_place rfl (n := 3) (by decide +kernel) rfl ⟨⟨rfl, rfl⟩, Nat.le_of_ble_eq_true rfl, Nat.le_of_ble_eq_true rfl⟩ ⟨Nat.le_of_ble_eq_true rfl, Nat.le_of_ble_eq_true rfl⟩ hX hP hD hS [] (by decide) rfl [] rfl rfl hl.1 rfl (Nat.le_of_ble_eq_true rfl) dX7_putBlock_174 rfl rfl (fun Hp locs hP hD hS => ?_)
              refine xrwi (z := nI (0 + (((bT W md 3) + y) * 64 + ((bL W md 3) + x)))) (by unfold plc; rw [if_pos rfl]; exact congrArg nI (by omega)) ?_
              refine lv_iload hx hb dX7_putBlock_177 (lv_at hl 0 rfl) ?_
              refine lv_iconst (v := 0) hx hb dX7_putBlock_179 (by decide) ?_
              refine lv_sipush (v := 255) hx hb dX7_putBlock_180 (by decide) ?_
              refine xSt (rest := [.int (nI (0 + (((bT W md 3) + y) * 64 + ((bL W md 3) + x)))), .ref nw]) (As := [.int ((mf (y * 8 + x)) + (mft (lokP gn 0) (wdt 0 W) (wdt 0 H) (nI ((bL W md 3) + x)) (nI ((bT W md 3) + y)) (mus wh (V 0) 0) (mus wh (V 1) 0))), .int 0, .int 255]) (ws1 := [(o, .inr (7, mdF th W H mt qu zz nw ol ne se ke nc ns is ik dc sc 2 md wh fa re ve ps 0 tl di lv bf bo bd co bt ma)), (nw, .inl (cs 0, 4608, .inl (mpB gw W md 3 (mlF W md 3 mf (fun x9 y9 => (mft (lokP gn 0) (wdt 0 W) (wdt 0 H) (nI x9) (nI y9) (mus wh (V 0) 0) (mus wh (V 1) 0)))) (y * 8 + x)))), (ol, .inl (cs 0, 4608, .inl go)), (ne, .inl (cs 0, 4608, .inl gn)), (ve, .inl (cs 0, 4, .inl V)), (ma, .inl (cs 0, 64, .inl mf))]) (st1 := [.int (bnd ((mf (y * 8 + x)) + (mft (lokP gn 0) (wdt 0 W) (wdt 0 H) (nI ((bL W md 3) + x)) (nI ((bT W md 3) + y)) (mus wh (V 0) 0) (mus wh (V 1) 0))) 0 255), .int (nI (0 + (((bT W md 3) + y) * 64 + ((bL W md 3) + x)))), .ref nw]) hF (c_X7_within l D cs tt ((mf (y * 8 + x)) + (mft (lokP gn 0) (wdt 0 W) (wdt 0 H) (nI ((bL W md 3) + x)) (nI ((bT W md 3) + y)) (mus wh (V 0) 0) (mus wh (V 1) 0))) 0 255) gX7_putBlock_X7_within rfl (n := 3) (by decide +kernel) rfl ⟨⟨rfl, rfl⟩, Nat.le_of_ble_eq_true rfl, Nat.le_of_ble_eq_true rfl⟩ ⟨Nat.le_of_ble_eq_true rfl, Nat.le_of_ble_eq_true rfl⟩ hX hP hD hS [] (by decide) rfl [] rfl rfl hl.1 rfl (Nat.le_of_ble_eq_true rfl) dX7_putBlock_183 rfl rfl (fun Hp locs hP hD hS => ?_)
              refine xast (k := 0 + (((bT W md 3) + y) * 64 + ((bL W md 3) + x))) (ws1 := [(o, .inr (7, mdF th W H mt qu zz nw ol ne se ke nc ns is ik dc sc 2 md wh fa re ve ps 0 tl di lv bf bo bd co bt ma)), (nw, .inl (cs 0, 4608, .inl (mpB gw W md 3 (mlF W md 3 mf (fun x9 y9 => (mft (lokP gn 0) (wdt 0 W) (wdt 0 H) (nI x9) (nI y9) (mus wh (V 0) 0) (mus wh (V 1) 0)))) (y * 8 + (x + 1))))), (ol, .inl (cs 0, 4608, .inl go)), (ne, .inl (cs 0, 4608, .inl gn)), (ve, .inl (cs 0, 4, .inl V)), (ma, .inl (cs 0, 64, .inl mf))]) hF hX hP hD hS 1 rfl (nI_clamp (by omega)) (vp_in_nI (by omega) (by decide)) dX7_putBlock_186 (congrArg (fun z9 => ([(o, .inr (7, mdF th W H mt qu zz nw ol ne se ke nc ns is ik dc sc 2 md wh fa re ve ps 0 tl di lv bf bo bd co bt ma)), (nw, .inl (cs 0, 4608, .inl z9)), (ol, .inl (cs 0, 4608, .inl go)), (ne, .inl (cs 0, 4608, .inl gn)), (ve, .inl (cs 0, 4, .inl V)), (ma, .inl (cs 0, 64, .inl mf))] : va_W)) (pbs gw (mlF W md 3 mf (fun x9 y9 => (mft (lokP gn 0) (wdt 0 W) (wdt 0 H) (nI x9) (nI y9) (mus wh (V 0) 0) (mus wh (V 1) 0)))) (by unfold mlF; rw [show ((bT W md 3) + y - (bT W md 3)) * 8 + ((bL W md 3) + x - (bL W md 3)) = y * 8 + x by omega]) hxl (show (bL W md 3) + 8 ≤ 64 by omega))) (fun Hp locs hP hD hS => ?_)
              refine lv_iinc (v := (nI (x + 1))) (lv' := [(8, .int (nI (x + 1))), (9, .int ((mf (y * 8 + x)) + (mft (lokP gn 0) (wdt 0 W) (wdt 0 H) (nI ((bL W md 3) + x)) (nI ((bT W md 3) + y)) (mus wh (V 0) 0) (mus wh (V 1) 0)))), (0, .ref o), (2, .int 1), (3, .int 0), (4, .int 0), (5, .int (nI (bL W md 3))), (6, .int (nI (bT W md 3))), (7, .int (nI y))]) hx hb dX7_putBlock_187 hl (k := 8) rfl (nI_1 x) (by decide) rfl (fun ls hl => ?_)
              refine lv_goto (tgt := 101) hx hb dX7_putBlock_190 (by decide) ?_
              exact ih_101 (x + 1) (by omega) (by omega) _ _ _ hP hD hS (lv_sub hl [2, 3, 4, 5, 6, 7, 8, 0] rfl)
        exact loop_101 (8 - 0 + 1) 0 (Nat.lt_succ_self _) (by decide) _ _ _ hP hD hS (lv_sub hl [1, 2, 3, 4, 5, 6, 7, 0] rfl)
  have hP := xeqP hP (congrArg (fun z9 => ([(o, .inr (7, mdF th W H mt qu zz nw ol ne se ke nc ns is ik dc sc 2 md wh fa re ve ps 0 tl di lv bf bo bd co bt ma)), (nw, .inl (cs 0, 4608, .inl z9)), (ol, .inl (cs 0, 4608, .inl go)), (ne, .inl (cs 0, 4608, .inl gn)), (ve, .inl (cs 0, 4, .inl V)), (ma, .inl (cs 0, 64, .inl mf))] : va_W)) ((show gw = mpB gw W md 3 (mlF W md 3 mf (fun x9 y9 => (mft (lokP gn 0) (wdt 0 W) (wdt 0 H) (nI x9) (nI y9) (mus wh (V 0) 0) (mus wh (V 1) 0)))) (0 * 8) from (blkTo_0 gw _ _ _ _ 8 (mlF W md 3 mf (fun x9 y9 => (mft (lokP gn 0) (wdt 0 W) (wdt 0 H) (nI x9) (nI y9) (mus wh (V 0) 0) (mus wh (V 1) 0))))).symm)))
  have hD := xeqD hD (congrArg (fun z9 => ([(o, .inr (7, mdF th W H mt qu zz nw ol ne se ke nc ns is ik dc sc 2 md wh fa re ve ps 0 tl di lv bf bo bd co bt ma)), (nw, .inl (cs 0, 4608, .inl z9)), (ol, .inl (cs 0, 4608, .inl go)), (ne, .inl (cs 0, 4608, .inl gn)), (ve, .inl (cs 0, 4, .inl V)), (ma, .inl (cs 0, 64, .inl mf))] : va_W)) ((show gw = mpB gw W md 3 (mlF W md 3 mf (fun x9 y9 => (mft (lokP gn 0) (wdt 0 W) (wdt 0 H) (nI x9) (nI y9) (mus wh (V 0) 0) (mus wh (V 1) 0)))) (0 * 8) from (blkTo_0 gw _ _ _ _ 8 (mlF W md 3 mf (fun x9 y9 => (mft (lokP gn 0) (wdt 0 W) (wdt 0 H) (nI x9) (nI y9) (mus wh (V 0) 0) (mus wh (V 1) 0))))).symm)))
  exact loop_91 (8 - 0 + 1) 0 (Nat.lt_succ_self _) (by decide) _ _ _ hP hD hS (lv_sub hl [4, 6, 7, 3, 2, 1, 0] rfl)

set_option maxHeartbeats 4000000 in
set_option maxRecDepth 100000 in
theorem c_X7_putBlock3B (l : Launch) (D : va_G) (cs : Nat → ClassId) (tt : Nat → Nat) (o mt qu zz nw ol ne se ke re ve ps di lv bd co bt ma W H md : Nat) (th nc ns is ik dc sc wh fa tl bf bo : Int32) (gw mf go gn V : Nat → Int32) (hw : 1 ≤ W) (hw4 : W ≤ 4) (hh : 1 ≤ H) (hh3 : H ≤ 3) (hmd : md < W * H) : xM l yX7_putBlock wsX7_putBlock ({ frames := 4, cells := 0, slots := 0, locals := 104 } : Room) D cs tt [.ref o, .int 3, .int 1, .int 0] [(o, .inr (7, mdF th W H mt qu zz nw ol ne se ke nc ns is ik dc sc 3 md wh fa re ve ps 0 tl di lv bf bo bd co bt ma)), (nw, .inl (cs 0, 4608, .inl gw)), (ol, .inl (cs 0, 4608, .inl go)), (ne, .inl (cs 0, 4608, .inl gn)), (ve, .inl (cs 0, 4, .inl V)), (ma, .inl (cs 0, 64, .inl mf))] none [(o, .inr (7, mdF th W H mt qu zz nw ol ne se ke nc ns is ik dc sc 3 md wh fa re ve ps 0 tl di lv bf bo bd co bt ma)), (nw, .inl (cs 0, 4608, .inl (mpB gw W md 3 (mlF W md 3 mf (fun x9 y9 => (mft (lokP go 0) (wdt 0 W) (wdt 0 H) (nI x9) (nI y9) (mus wh (V 0) 0) (mus wh (V 1) 0)))) (64)))), (ol, .inl (cs 0, 4608, .inl go)), (ne, .inl (cs 0, 4608, .inl gn)), (ve, .inl (cs 0, 4, .inl V)), (ma, .inl (cs 0, 64, .inl mf))] := by
  refine xM.of RX7 rfl (by decide) rfl (Nat.le_of_ble_eq_true rfl) ?_
  intro p e s m below meth c A ls hF hr hlk hX hP hD hS hl
  have hx := hF.1
  have hb := hF.2.1
  have hl : lv_has ls 10 [(0, .ref o), (1, .int 3), (2, .int 1), (3, .int 0)] := hl
  have hm4 : md < 4096 := Nat.lt_of_lt_of_le hmd (Nat.le_trans (Nat.mul_le_mul hw4 hh3) (by decide))
  have hb9 := b_in hw hmd 3 (by decide)
  have hbl : (bL W md 3) + 8 ≤ 16 * W := hb9.1
  have hbt : (bT W md 3) + 8 ≤ 16 * H := hb9.2
  have hsL : bL W md 3 = bL W md 3 := rfl
  refine lv_iload_n hx hb dX7_putBlock_0 rfl (lv_at hl 1 rfl) ?_
  refine xSt (rest := []) (As := [.int 3]) (ws1 := [(o, .inr (7, mdF th W H mt qu zz nw ol ne se ke nc ns is ik dc sc 3 md wh fa re ve ps 0 tl di lv bf bo bd co bt ma)), (nw, .inl (cs 0, 4608, .inl gw)), (ol, .inl (cs 0, 4608, .inl go)), (ne, .inl (cs 0, 4608, .inl gn)), (ve, .inl (cs 0, 4, .inl V)), (ma, .inl (cs 0, 64, .inl mf))]) (st1 := [.int (pln 3)]) hF (c_X7_planeOf l D cs tt 3) gX7_putBlock_X7_planeOf rfl (n := 1) (by decide +kernel) rfl ⟨⟨rfl, rfl⟩, Nat.le_of_ble_eq_true rfl, Nat.le_of_ble_eq_true rfl⟩ ⟨Nat.le_of_ble_eq_true rfl, Nat.le_of_ble_eq_true rfl⟩ hX hP hD hS [] (by decide) rfl [] rfl rfl hl.1 rfl (Nat.le_of_ble_eq_true rfl) dX7_putBlock_1 rfl rfl (fun Hp locs hP hD hS => ?_)
  refine xrwi (z := 0) (by decide) ?_
  refine lv_istore (lv' := [(4, .int 0), (0, .ref o), (1, .int 3), (2, .int 1), (3, .int 0)]) hx hb dX7_putBlock_4 hl (by decide) rfl (fun ls hl => ?_)
  refine lv_iload hx hb dX7_putBlock_6 (lv_at hl 0 rfl) ?_
  refine lv_if_ne (tgt := 33) hx hb dX7_putBlock_8 (by decide) (fun c_8 => absurd (by decide) c_8) (fun _ => ?_)
  refine lv_bipush (v := 16) hx hb dX7_putBlock_11 (by decide) ?_
  refine lv_aload_n hx hb dX7_putBlock_13 rfl (lv_at hl 1 rfl) ?_
  refine xget (C := RX7) (T := TX7) (N := 34) hF hX hP (by decide +kernel) 0 18 rfl rfl (by decide) (by decide +kernel) rfl dX7_putBlock_14 ?_
  refine lv_aload_n hx hb dX7_putBlock_17 rfl (lv_at hl 1 rfl) ?_
  refine xget (C := RX7) (T := TX7) (N := 34) hF hX hP (by decide +kernel) 0 1 rfl rfl (by decide) (by decide +kernel) rfl dX7_putBlock_18 ?_
  refine lv_irem hx hb dX7_putBlock_21 (nI_ne0 (by omega) (by omega)) ?_
  refine xrwi (z := nI (md % W)) (pk_rem (by omega) (by omega) (by omega)) ?_
  refine lv_imul hx hb dX7_putBlock_22 ?_
  refine lv_bipush (v := 8) hx hb dX7_putBlock_23 (by decide) ?_
  refine lv_iload_n hx hb dX7_putBlock_25 rfl (lv_at hl 2 rfl) ?_
  refine lv_iconst (v := 2) hx hb dX7_putBlock_26 (by decide) ?_
  refine lv_irem hx hb dX7_putBlock_27 (by decide) ?_
  refine xrwi (z := 1) (by decide) ?_
  refine lv_imul hx hb dX7_putBlock_28 ?_
  refine xrwi (z := 8) (by decide) ?_
  refine lv_iadd hx hb dX7_putBlock_29 ?_
  refine lv_goto (tgt := 45) hx hb dX7_putBlock_30 (by decide) ?_
  refine xrwi (z := nI (bL W md 3)) (by rw [show (16 : Int32) * nI (md % W) = nI (16 * (md % W)) from pk_mul 16 _, show nI (16 * (md % W)) + 8 = nI (16 * (md % W) + 8) from nI_add _ 8]; exact congrArg nI (show 16 * (md % W) + 8 = bL W md 3 by show _ = md % W * 16 + 8; omega)) ?_
  refine lv_istore (lv' := [(5, .int (nI (bL W md 3))), (4, .int 0), (0, .ref o), (1, .int 3), (2, .int 1), (3, .int 0)]) hx hb dX7_putBlock_45 hl (by decide) rfl (fun ls hl => ?_)
  refine lv_iload hx hb dX7_putBlock_47 (lv_at hl 1 rfl) ?_
  refine lv_if_ne (tgt := 74) hx hb dX7_putBlock_49 (by decide) (fun c_49 => absurd (by decide) c_49) (fun _ => ?_)
  refine lv_bipush (v := 16) hx hb dX7_putBlock_52 (by decide) ?_
  refine lv_aload_n hx hb dX7_putBlock_54 rfl (lv_at hl 2 rfl) ?_
  refine xget (C := RX7) (T := TX7) (N := 34) hF hX hP (by decide +kernel) 0 18 rfl rfl (by decide) (by decide +kernel) rfl dX7_putBlock_55 ?_
  refine lv_aload_n hx hb dX7_putBlock_58 rfl (lv_at hl 2 rfl) ?_
  refine xget (C := RX7) (T := TX7) (N := 34) hF hX hP (by decide +kernel) 0 1 rfl rfl (by decide) (by decide +kernel) rfl dX7_putBlock_59 ?_
  refine lv_idiv hx hb dX7_putBlock_62 (nI_ne0 (by omega) (by omega)) ?_
  refine xrwi (z := nI (md / W)) (pk_div (by omega) (by omega) (by omega)) ?_
  refine lv_imul hx hb dX7_putBlock_63 ?_
  refine lv_bipush (v := 8) hx hb dX7_putBlock_64 (by decide) ?_
  refine lv_iload_n hx hb dX7_putBlock_66 rfl (lv_at hl 3 rfl) ?_
  refine lv_iconst (v := 2) hx hb dX7_putBlock_67 (by decide) ?_
  refine lv_idiv hx hb dX7_putBlock_68 (by decide) ?_
  refine xrwi (z := 1) (by decide) ?_
  refine lv_imul hx hb dX7_putBlock_69 ?_
  refine xrwi (z := 8) (by decide) ?_
  refine lv_iadd hx hb dX7_putBlock_70 ?_
  refine lv_goto (tgt := 86) hx hb dX7_putBlock_71 (by decide) ?_
  refine xrwi (z := nI (bT W md 3)) (by rw [show (16 : Int32) * nI (md / W) = nI (16 * (md / W)) from pk_mul 16 _, show nI (16 * (md / W)) + 8 = nI (16 * (md / W) + 8) from nI_add _ 8]; exact congrArg nI (show 16 * (md / W) + 8 = bT W md 3 by show _ = md / W * 16 + 8; omega)) ?_
  refine lv_istore (lv' := [(6, .int (nI (bT W md 3))), (5, .int (nI (bL W md 3))), (4, .int 0), (0, .ref o), (1, .int 3), (2, .int 1), (3, .int 0)]) hx hb dX7_putBlock_86 hl (by decide) rfl (fun ls hl => ?_)
  refine lv_iconst (v := 0) hx hb dX7_putBlock_88 (by decide) ?_
  refine lv_istore (lv' := [(7, .int 0), (6, .int (nI (bT W md 3))), (5, .int (nI (bL W md 3))), (4, .int 0), (0, .ref o), (1, .int 3), (2, .int 1), (3, .int 0)]) hx hb dX7_putBlock_89 hl (by decide) rfl (fun ls hl => ?_)
  have loop_91 : ∀ (k91 : Nat) (y : Nat), 8 - y < k91 → y ≤ 8 → ∀ (Hp : Heap) (locs : List Loc) (ls : Array Slot), va_P D vwCl [(o, .inr (7, mdF th W H mt qu zz nw ol ne se ke nc ns is ik dc sc 3 md wh fa re ve ps 0 tl di lv bf bo bd co bt ma)), (nw, .inl (cs 0, 4608, .inl (mpB gw W md 3 (mlF W md 3 mf (fun x9 y9 => (mft (lokP go 0) (wdt 0 W) (wdt 0 H) (nI x9) (nI y9) (mus wh (V 0) 0) (mus wh (V 1) 0)))) (y * 8)))), (ol, .inl (cs 0, 4608, .inl go)), (ne, .inl (cs 0, 4608, .inl gn)), (ve, .inl (cs 0, 4, .inl V)), (ma, .inl (cs 0, 64, .inl mf))] Hp → va_D A [(o, .inr (7, mdF th W H mt qu zz nw ol ne se ke nc ns is ik dc sc 3 md wh fa re ve ps 0 tl di lv bf bo bd co bt ma)), (nw, .inl (cs 0, 4608, .inl (mpB gw W md 3 (mlF W md 3 mf (fun x9 y9 => (mft (lokP go 0) (wdt 0 W) (wdt 0 H) (nI x9) (nI y9) (mus wh (V 0) 0) (mus wh (V 1) 0)))) (y * 8)))), (ol, .inl (cs 0, 4608, .inl go)), (ne, .inl (cs 0, 4608, .inl gn)), (ve, .inl (cs 0, 4, .inl V)), (ma, .inl (cs 0, 64, .inl mf))] → va_S A s.heap Hp locs → lv_has ls 10 [(0, .ref o), (2, .int 1), (3, .int 0), (4, .int 0), (5, .int (nI (bL W md 3))), (6, .int (nI (bT W md 3))), (7, .int (nI y))] → xW p l e ({ frames := 4, cells := 0, slots := 0, locals := 104 } : Room) s m ([.ref o, .int 3, .int 1, .int 0] : List Value).toArray below meth c Hp locs 0 0 (MQ below (xE D A none [(o, .inr (7, mdF th W H mt qu zz nw ol ne se ke nc ns is ik dc sc 3 md wh fa re ve ps 0 tl di lv bf bo bd co bt ma)), (nw, .inl (cs 0, 4608, .inl (mpB gw W md 3 (mlF W md 3 mf (fun x9 y9 => (mft (lokP go 0) (wdt 0 W) (wdt 0 H) (nI x9) (nI y9) (mus wh (V 0) 0) (mus wh (V 1) 0)))) (64)))), (ol, .inl (cs 0, 4608, .inl go)), (ne, .inl (cs 0, 4608, .inl gn)), (ve, .inl (cs 0, 4, .inl V)), (ma, .inl (cs 0, 64, .inl mf))]) ([.ref o, .int 3, .int 1, .int 0] : List Value).toArray s 0 0 A) (F0 m 91 ls []) := by
    intro k91
    induction k91 with
    | zero => intro y h9; omega
    | succ k91 ih_91 =>
      intro y hk91 hy9 Hp locs ls hP hD hS hl
      refine lv_iload hx hb dX7_putBlock_91 (lv_at hl 6 rfl) ?_
      refine lv_bipush (v := 8) hx hb dX7_putBlock_93 (by decide) ?_
      refine lv_icmp_ge (tgt := 199) hx hb dX7_putBlock_95 (by decide) (fun c_95 => ?_) (fun c_95 => ?_)
      · have ey : y = 8 := by have := nIle (a := 8) (b := y) rfl rfl (by decide) (by omega) c_95; omega
        have hP := xeqP hP (congrArg (fun z9 => ([(o, .inr (7, mdF th W H mt qu zz nw ol ne se ke nc ns is ik dc sc 3 md wh fa re ve ps 0 tl di lv bf bo bd co bt ma)), (nw, .inl (cs 0, 4608, .inl z9)), (ol, .inl (cs 0, 4608, .inl go)), (ne, .inl (cs 0, 4608, .inl gn)), (ve, .inl (cs 0, 4, .inl V)), (ma, .inl (cs 0, 64, .inl mf))] : va_W)) (congrArg (mpB gw W md 3 (mlF W md 3 mf (fun x9 y9 => (mft (lokP go 0) (wdt 0 W) (wdt 0 H) (nI x9) (nI y9) (mus wh (V 0) 0) (mus wh (V 1) 0))))) (show y * 8 = 64 by omega)))
        have hD := xeqD hD (congrArg (fun z9 => ([(o, .inr (7, mdF th W H mt qu zz nw ol ne se ke nc ns is ik dc sc 3 md wh fa re ve ps 0 tl di lv bf bo bd co bt ma)), (nw, .inl (cs 0, 4608, .inl z9)), (ol, .inl (cs 0, 4608, .inl go)), (ne, .inl (cs 0, 4608, .inl gn)), (ve, .inl (cs 0, 4, .inl V)), (ma, .inl (cs 0, 64, .inl mf))] : va_W)) (congrArg (mpB gw W md 3 (mlF W md 3 mf (fun x9 y9 => (mft (lokP go 0) (wdt 0 W) (wdt 0 H) (nI x9) (nI y9) (mus wh (V 0) 0) (mus wh (V 1) 0))))) (show y * 8 = 64 by omega)))
        exact xrv hF hr hlk hP hD hS dX7_putBlock_199
      · have hyl : y < 8 := nInle (a := 8) (b := y) rfl rfl (by decide) (by omega) c_95
        refine lv_iconst (v := 0) hx hb dX7_putBlock_98 (by decide) ?_
        refine lv_istore (lv' := [(8, .int 0), (0, .ref o), (2, .int 1), (3, .int 0), (4, .int 0), (5, .int (nI (bL W md 3))), (6, .int (nI (bT W md 3))), (7, .int (nI y))]) hx hb dX7_putBlock_99 hl (by decide) rfl (fun ls hl => ?_)
        have loop_101 : ∀ (k101 : Nat) (x : Nat), 8 - x < k101 → x ≤ 8 → ∀ (Hp : Heap) (locs : List Loc) (ls : Array Slot), va_P D vwCl [(o, .inr (7, mdF th W H mt qu zz nw ol ne se ke nc ns is ik dc sc 3 md wh fa re ve ps 0 tl di lv bf bo bd co bt ma)), (nw, .inl (cs 0, 4608, .inl (mpB gw W md 3 (mlF W md 3 mf (fun x9 y9 => (mft (lokP go 0) (wdt 0 W) (wdt 0 H) (nI x9) (nI y9) (mus wh (V 0) 0) (mus wh (V 1) 0)))) (y * 8 + x)))), (ol, .inl (cs 0, 4608, .inl go)), (ne, .inl (cs 0, 4608, .inl gn)), (ve, .inl (cs 0, 4, .inl V)), (ma, .inl (cs 0, 64, .inl mf))] Hp → va_D A [(o, .inr (7, mdF th W H mt qu zz nw ol ne se ke nc ns is ik dc sc 3 md wh fa re ve ps 0 tl di lv bf bo bd co bt ma)), (nw, .inl (cs 0, 4608, .inl (mpB gw W md 3 (mlF W md 3 mf (fun x9 y9 => (mft (lokP go 0) (wdt 0 W) (wdt 0 H) (nI x9) (nI y9) (mus wh (V 0) 0) (mus wh (V 1) 0)))) (y * 8 + x)))), (ol, .inl (cs 0, 4608, .inl go)), (ne, .inl (cs 0, 4608, .inl gn)), (ve, .inl (cs 0, 4, .inl V)), (ma, .inl (cs 0, 64, .inl mf))] → va_S A s.heap Hp locs → lv_has ls 10 [(0, .ref o), (2, .int 1), (3, .int 0), (4, .int 0), (5, .int (nI (bL W md 3))), (6, .int (nI (bT W md 3))), (7, .int (nI y)), (8, .int (nI x))] → xW p l e ({ frames := 4, cells := 0, slots := 0, locals := 104 } : Room) s m ([.ref o, .int 3, .int 1, .int 0] : List Value).toArray below meth c Hp locs 0 0 (MQ below (xE D A none [(o, .inr (7, mdF th W H mt qu zz nw ol ne se ke nc ns is ik dc sc 3 md wh fa re ve ps 0 tl di lv bf bo bd co bt ma)), (nw, .inl (cs 0, 4608, .inl (mpB gw W md 3 (mlF W md 3 mf (fun x9 y9 => (mft (lokP go 0) (wdt 0 W) (wdt 0 H) (nI x9) (nI y9) (mus wh (V 0) 0) (mus wh (V 1) 0)))) (64)))), (ol, .inl (cs 0, 4608, .inl go)), (ne, .inl (cs 0, 4608, .inl gn)), (ve, .inl (cs 0, 4, .inl V)), (ma, .inl (cs 0, 64, .inl mf))]) ([.ref o, .int 3, .int 1, .int 0] : List Value).toArray s 0 0 A) (F0 m 101 ls []) := by
          intro k101
          induction k101 with
          | zero => intro x h9; omega
          | succ k101 ih_101 =>
            intro x hk101 hx9 Hp locs ls hP hD hS hl
            refine lv_iload hx hb dX7_putBlock_101 (lv_at hl 7 rfl) ?_
            refine lv_bipush (v := 8) hx hb dX7_putBlock_103 (by decide) ?_
            refine lv_icmp_ge (tgt := 193) hx hb dX7_putBlock_105 (by decide) (fun c_105 => ?_) (fun c_105 => ?_)
            · have ex : x = 8 := by have := nIle (a := 8) (b := x) rfl rfl (by decide) (by omega) c_105; omega
              have hP := xeqP hP (congrArg (fun z9 => ([(o, .inr (7, mdF th W H mt qu zz nw ol ne se ke nc ns is ik dc sc 3 md wh fa re ve ps 0 tl di lv bf bo bd co bt ma)), (nw, .inl (cs 0, 4608, .inl z9)), (ol, .inl (cs 0, 4608, .inl go)), (ne, .inl (cs 0, 4608, .inl gn)), (ve, .inl (cs 0, 4, .inl V)), (ma, .inl (cs 0, 64, .inl mf))] : va_W)) (congrArg (mpB gw W md 3 (mlF W md 3 mf (fun x9 y9 => (mft (lokP go 0) (wdt 0 W) (wdt 0 H) (nI x9) (nI y9) (mus wh (V 0) 0) (mus wh (V 1) 0))))) (show y * 8 + x = (y + 1) * 8 by omega)))
              have hD := xeqD hD (congrArg (fun z9 => ([(o, .inr (7, mdF th W H mt qu zz nw ol ne se ke nc ns is ik dc sc 3 md wh fa re ve ps 0 tl di lv bf bo bd co bt ma)), (nw, .inl (cs 0, 4608, .inl z9)), (ol, .inl (cs 0, 4608, .inl go)), (ne, .inl (cs 0, 4608, .inl gn)), (ve, .inl (cs 0, 4, .inl V)), (ma, .inl (cs 0, 64, .inl mf))] : va_W)) (congrArg (mpB gw W md 3 (mlF W md 3 mf (fun x9 y9 => (mft (lokP go 0) (wdt 0 W) (wdt 0 H) (nI x9) (nI y9) (mus wh (V 0) 0) (mus wh (V 1) 0))))) (show y * 8 + x = (y + 1) * 8 by omega)))
              refine lv_iinc (v := (nI (y + 1))) (lv' := [(7, .int (nI (y + 1))), (0, .ref o), (2, .int 1), (3, .int 0), (4, .int 0), (5, .int (nI (bL W md 3))), (6, .int (nI (bT W md 3))), (8, .int (nI x))]) hx hb dX7_putBlock_193 hl (k := 6) rfl (nI_1 y) (by decide) rfl (fun ls hl => ?_)
              refine lv_goto (tgt := 91) hx hb dX7_putBlock_196 (by decide) ?_
              exact ih_91 (y + 1) (by omega) (by omega) _ _ _ hP hD hS (lv_sub hl [1, 2, 3, 4, 5, 6, 0] rfl)
            · have hxl : x < 8 := nInle (a := 8) (b := x) rfl rfl (by decide) (by omega) c_105
              refine lv_aload_n hx hb dX7_putBlock_108 rfl (lv_at hl 0 rfl) ?_
              refine xget (C := RX7) (T := TX7) (N := 34) hF hX hP (by decide +kernel) 0 33 rfl rfl (by decide) (by decide +kernel) rfl dX7_putBlock_109 ?_
              refine lv_bipush (v := 8) hx hb dX7_putBlock_112 (by decide) ?_
              refine lv_iload hx hb dX7_putBlock_114 (lv_at hl 6 rfl) ?_
              refine lv_imul hx hb dX7_putBlock_116 ?_
              refine lv_iload hx hb dX7_putBlock_117 (lv_at hl 7 rfl) ?_
              refine lv_iadd hx hb dX7_putBlock_119 ?_
              refine xrwi (z := nI (y * 8 + x)) (k8 y x) ?_
              refine xald (k := y * 8 + x) hF hX hP 5 rfl (nI_clamp (by omega)) (vp_in_nI (by omega) (by decide)) dX7_putBlock_120 ?_
              refine lv_istore (lv' := [(9, .int (mf (y * 8 + x))), (0, .ref o), (2, .int 1), (3, .int 0), (4, .int 0), (5, .int (nI (bL W md 3))), (6, .int (nI (bT W md 3))), (7, .int (nI y)), (8, .int (nI x))]) hx hb dX7_putBlock_121 hl (by decide) rfl (fun ls hl => ?_)
              refine lv_aload_n hx hb dX7_putBlock_123 rfl (lv_at hl 1 rfl) ?_
              refine xget (C := RX7) (T := TX7) (N := 34) hF hX hP (by decide +kernel) 0 24 rfl rfl (by decide) (by decide +kernel) rfl dX7_putBlock_124 ?_
              refine lv_if_eq (tgt := 135) hx hb dX7_putBlock_127 (by decide) (fun _ => ?_) (fun c_127 => absurd (by decide) c_127)
              refine lv_iload hx hb dX7_putBlock_135 (lv_at hl 0 rfl) ?_
              refine lv_aload_n hx hb dX7_putBlock_137 rfl (lv_at hl 1 rfl) ?_
              refine lv_iload_n hx hb dX7_putBlock_138 rfl (lv_at hl 2 rfl) ?_
              refine lv_iload_n hx hb dX7_putBlock_139 rfl (lv_at hl 3 rfl) ?_
              refine lv_iload hx hb dX7_putBlock_140 (lv_at hl 4 rfl) ?_
              refine lv_iload hx hb dX7_putBlock_142 (lv_at hl 5 rfl) ?_
              refine lv_iload hx hb dX7_putBlock_144 (lv_at hl 8 rfl) ?_
              refine lv_iadd hx hb dX7_putBlock_146 ?_
              refine xrwi (z := nI ((bL W md 3) + x)) (nI_add _ _) ?_
              refine lv_iload hx hb dX7_putBlock_147 (lv_at hl 6 rfl) ?_
              refine lv_iload hx hb dX7_putBlock_149 (lv_at hl 7 rfl) ?_
              refine lv_iadd hx hb dX7_putBlock_151 ?_
              refine xrwi (z := nI ((bT W md 3) + y)) (nI_add _ _) ?_
              refine xV (rest := [.int (mf (y * 8 + x))]) (As := [.int 1, .int 0, .int 0, .int (nI ((bL W md 3) + x)), .int (nI ((bT W md 3) + y))]) (ws1 := [(o, .inr (7, mdF th W H mt qu zz nw ol ne se ke nc ns is ik dc sc 3 md wh fa re ve ps 0 tl di lv bf bo bd co bt ma)), (nw, .inl (cs 0, 4608, .inl (mpB gw W md 3 (mlF W md 3 mf (fun x9 y9 => (mft (lokP go 0) (wdt 0 W) (wdt 0 H) (nI x9) (nI y9) (mus wh (V 0) 0) (mus wh (V 1) 0)))) (y * 8 + x)))), (ol, .inl (cs 0, 4608, .inl go)), (ne, .inl (cs 0, 4608, .inl gn)), (ve, .inl (cs 0, 4, .inl V)), (ma, .inl (cs 0, 64, .inl mf))]) (st1 := [.int (mft (lokP go 0) (wdt 0 W) (wdt 0 H) (nI ((bL W md 3) + x)) (nI ((bT W md 3) + y)) (mus wh (V 0) 0) (mus wh (V 1) 0)), .int (mf (y * 8 + x))]) hF (c_X7_fetchedB l D cs tt o mt qu zz nw ol ne se ke re ve ps di lv bd co bt ma W H md th nc ns is ik dc sc wh fa 0 tl bf bo 0 (nI ((bL W md 3) + x)) (nI ((bT W md 3) + y)) go gn V (by decide) hw hw4 hh hh3) gX7_putBlock_X7_fetched rfl (n := 5) (by decide +kernel) rfl ⟨⟨rfl, rfl⟩, Nat.le_of_ble_eq_true rfl, Nat.le_of_ble_eq_true rfl⟩ ⟨Nat.le_of_ble_eq_true rfl, Nat.le_of_ble_eq_true rfl⟩ hX hP hD hS [0, 2, 3, 4] (by decide) rfl [o, ol, ne, ve] rfl rfl (q0 := 0) (ci := 7) rfl rfl rfl hl.1 rfl (Nat.le_of_ble_eq_true rfl) dX7_putBlock_152 rfl rfl (fun Hp locs hP hD hS => ?_)
              refine lv_iadd hx hb dX7_putBlock_155 ?_
              refine lv_istore (lv' := [(9, .int ((mf (y * 8 + x)) + (mft (lokP go 0) (wdt 0 W) (wdt 0 H) (nI ((bL W md 3) + x)) (nI ((bT W md 3) + y)) (mus wh (V 0) 0) (mus wh (V 1) 0)))), (0, .ref o), (2, .int 1), (3, .int 0), (4, .int 0), (5, .int (nI (bL W md 3))), (6, .int (nI (bT W md 3))), (7, .int (nI y)), (8, .int (nI x))]) hx hb dX7_putBlock_156 hl (by decide) rfl (fun ls hl => ?_)
              refine lv_aload_n hx hb dX7_putBlock_158 rfl (lv_at hl 1 rfl) ?_
              refine xget (C := RX7) (T := TX7) (N := 34) hF hX hP (by decide +kernel) 0 6 rfl rfl (by decide) (by decide +kernel) rfl dX7_putBlock_159 ?_
              refine lv_iload hx hb dX7_putBlock_162 (lv_at hl 4 rfl) ?_
              refine lv_iload hx hb dX7_putBlock_164 (lv_at hl 5 rfl) ?_
              refine lv_iload hx hb dX7_putBlock_166 (lv_at hl 8 rfl) ?_
              refine lv_iadd hx hb dX7_putBlock_168 ?_
              refine xrwi (z := nI ((bL W md 3) + x)) (nI_add _ _) ?_
              refine lv_iload hx hb dX7_putBlock_169 (lv_at hl 6 rfl) ?_
              refine lv_iload hx hb dX7_putBlock_171 (lv_at hl 7 rfl) ?_
              refine lv_iadd hx hb dX7_putBlock_173 ?_
              refine xrwi (z := nI ((bT W md 3) + y)) (nI_add _ _) ?_
              refine xSt (rest := [.ref nw]) (As := [.int 0, .int (nI ((bL W md 3) + x)), .int (nI ((bT W md 3) + y))]) (ws1 := [(o, .inr (7, mdF th W H mt qu zz nw ol ne se ke nc ns is ik dc sc 3 md wh fa re ve ps 0 tl di lv bf bo bd co bt ma)), (nw, .inl (cs 0, 4608, .inl (mpB gw W md 3 (mlF W md 3 mf (fun x9 y9 => (mft (lokP go 0) (wdt 0 W) (wdt 0 H) (nI x9) (nI y9) (mus wh (V 0) 0) (mus wh (V 1) 0)))) (y * 8 + x)))), (ol, .inl (cs 0, 4608, .inl go)), (ne, .inl (cs 0, 4608, .inl gn)), (ve, .inl (cs 0, 4, .inl V)), (ma, .inl (cs 0, 64, .inl mf))]) (st1 := [.int (nI (plc 0 ((bL W md 3) + x) ((bT W md 3) + y))), .ref nw]) hF (c_X7_place l D cs tt 0 ((bL W md 3) + x) ((bT W md 3) + y) (by decide)) gX7_putBlock_X7_place rfl (n := 3) (by decide +kernel) rfl ⟨⟨rfl, rfl⟩, Nat.le_of_ble_eq_true rfl, Nat.le_of_ble_eq_true rfl⟩ ⟨Nat.le_of_ble_eq_true rfl, Nat.le_of_ble_eq_true rfl⟩ hX hP hD hS [] (by decide) rfl [] rfl rfl hl.1 rfl (Nat.le_of_ble_eq_true rfl) dX7_putBlock_174 rfl rfl (fun Hp locs hP hD hS => ?_)
              refine xrwi (z := nI (0 + (((bT W md 3) + y) * 64 + ((bL W md 3) + x)))) (by unfold plc; rw [if_pos rfl]; exact congrArg nI (by omega)) ?_
              refine lv_iload hx hb dX7_putBlock_177 (lv_at hl 0 rfl) ?_
              refine lv_iconst (v := 0) hx hb dX7_putBlock_179 (by decide) ?_
              refine lv_sipush (v := 255) hx hb dX7_putBlock_180 (by decide) ?_
              refine xSt (rest := [.int (nI (0 + (((bT W md 3) + y) * 64 + ((bL W md 3) + x)))), .ref nw]) (As := [.int ((mf (y * 8 + x)) + (mft (lokP go 0) (wdt 0 W) (wdt 0 H) (nI ((bL W md 3) + x)) (nI ((bT W md 3) + y)) (mus wh (V 0) 0) (mus wh (V 1) 0))), .int 0, .int 255]) (ws1 := [(o, .inr (7, mdF th W H mt qu zz nw ol ne se ke nc ns is ik dc sc 3 md wh fa re ve ps 0 tl di lv bf bo bd co bt ma)), (nw, .inl (cs 0, 4608, .inl (mpB gw W md 3 (mlF W md 3 mf (fun x9 y9 => (mft (lokP go 0) (wdt 0 W) (wdt 0 H) (nI x9) (nI y9) (mus wh (V 0) 0) (mus wh (V 1) 0)))) (y * 8 + x)))), (ol, .inl (cs 0, 4608, .inl go)), (ne, .inl (cs 0, 4608, .inl gn)), (ve, .inl (cs 0, 4, .inl V)), (ma, .inl (cs 0, 64, .inl mf))]) (st1 := [.int (bnd ((mf (y * 8 + x)) + (mft (lokP go 0) (wdt 0 W) (wdt 0 H) (nI ((bL W md 3) + x)) (nI ((bT W md 3) + y)) (mus wh (V 0) 0) (mus wh (V 1) 0))) 0 255), .int (nI (0 + (((bT W md 3) + y) * 64 + ((bL W md 3) + x)))), .ref nw]) hF (c_X7_within l D cs tt ((mf (y * 8 + x)) + (mft (lokP go 0) (wdt 0 W) (wdt 0 H) (nI ((bL W md 3) + x)) (nI ((bT W md 3) + y)) (mus wh (V 0) 0) (mus wh (V 1) 0))) 0 255) gX7_putBlock_X7_within rfl (n := 3) (by decide +kernel) rfl ⟨⟨rfl, rfl⟩, Nat.le_of_ble_eq_true rfl, Nat.le_of_ble_eq_true rfl⟩ ⟨Nat.le_of_ble_eq_true rfl, Nat.le_of_ble_eq_true rfl⟩ hX hP hD hS [] (by decide) rfl [] rfl rfl hl.1 rfl (Nat.le_of_ble_eq_true rfl) dX7_putBlock_183 rfl rfl (fun Hp locs hP hD hS => ?_)
              refine xast (k := 0 + (((bT W md 3) + y) * 64 + ((bL W md 3) + x))) (ws1 := [(o, .inr (7, mdF th W H mt qu zz nw ol ne se ke nc ns is ik dc sc 3 md wh fa re ve ps 0 tl di lv bf bo bd co bt ma)), (nw, .inl (cs 0, 4608, .inl (mpB gw W md 3 (mlF W md 3 mf (fun x9 y9 => (mft (lokP go 0) (wdt 0 W) (wdt 0 H) (nI x9) (nI y9) (mus wh (V 0) 0) (mus wh (V 1) 0)))) (y * 8 + (x + 1))))), (ol, .inl (cs 0, 4608, .inl go)), (ne, .inl (cs 0, 4608, .inl gn)), (ve, .inl (cs 0, 4, .inl V)), (ma, .inl (cs 0, 64, .inl mf))]) hF hX hP hD hS 1 rfl (nI_clamp (by omega)) (vp_in_nI (by omega) (by decide)) dX7_putBlock_186 (congrArg (fun z9 => ([(o, .inr (7, mdF th W H mt qu zz nw ol ne se ke nc ns is ik dc sc 3 md wh fa re ve ps 0 tl di lv bf bo bd co bt ma)), (nw, .inl (cs 0, 4608, .inl z9)), (ol, .inl (cs 0, 4608, .inl go)), (ne, .inl (cs 0, 4608, .inl gn)), (ve, .inl (cs 0, 4, .inl V)), (ma, .inl (cs 0, 64, .inl mf))] : va_W)) (pbs gw (mlF W md 3 mf (fun x9 y9 => (mft (lokP go 0) (wdt 0 W) (wdt 0 H) (nI x9) (nI y9) (mus wh (V 0) 0) (mus wh (V 1) 0)))) (by unfold mlF; rw [show ((bT W md 3) + y - (bT W md 3)) * 8 + ((bL W md 3) + x - (bL W md 3)) = y * 8 + x by omega]) hxl (show (bL W md 3) + 8 ≤ 64 by omega))) (fun Hp locs hP hD hS => ?_)
              refine lv_iinc (v := (nI (x + 1))) (lv' := [(8, .int (nI (x + 1))), (9, .int ((mf (y * 8 + x)) + (mft (lokP go 0) (wdt 0 W) (wdt 0 H) (nI ((bL W md 3) + x)) (nI ((bT W md 3) + y)) (mus wh (V 0) 0) (mus wh (V 1) 0)))), (0, .ref o), (2, .int 1), (3, .int 0), (4, .int 0), (5, .int (nI (bL W md 3))), (6, .int (nI (bT W md 3))), (7, .int (nI y))]) hx hb dX7_putBlock_187 hl (k := 8) rfl (nI_1 x) (by decide) rfl (fun ls hl => ?_)
              refine lv_goto (tgt := 101) hx hb dX7_putBlock_190 (by decide) ?_
              exact ih_101 (x + 1) (by omega) (by omega) _ _ _ hP hD hS (lv_sub hl [2, 3, 4, 5, 6, 7, 8, 0] rfl)
        exact loop_101 (8 - 0 + 1) 0 (Nat.lt_succ_self _) (by decide) _ _ _ hP hD hS (lv_sub hl [1, 2, 3, 4, 5, 6, 7, 0] rfl)
  have hP := xeqP hP (congrArg (fun z9 => ([(o, .inr (7, mdF th W H mt qu zz nw ol ne se ke nc ns is ik dc sc 3 md wh fa re ve ps 0 tl di lv bf bo bd co bt ma)), (nw, .inl (cs 0, 4608, .inl z9)), (ol, .inl (cs 0, 4608, .inl go)), (ne, .inl (cs 0, 4608, .inl gn)), (ve, .inl (cs 0, 4, .inl V)), (ma, .inl (cs 0, 64, .inl mf))] : va_W)) ((show gw = mpB gw W md 3 (mlF W md 3 mf (fun x9 y9 => (mft (lokP go 0) (wdt 0 W) (wdt 0 H) (nI x9) (nI y9) (mus wh (V 0) 0) (mus wh (V 1) 0)))) (0 * 8) from (blkTo_0 gw _ _ _ _ 8 (mlF W md 3 mf (fun x9 y9 => (mft (lokP go 0) (wdt 0 W) (wdt 0 H) (nI x9) (nI y9) (mus wh (V 0) 0) (mus wh (V 1) 0))))).symm)))
  have hD := xeqD hD (congrArg (fun z9 => ([(o, .inr (7, mdF th W H mt qu zz nw ol ne se ke nc ns is ik dc sc 3 md wh fa re ve ps 0 tl di lv bf bo bd co bt ma)), (nw, .inl (cs 0, 4608, .inl z9)), (ol, .inl (cs 0, 4608, .inl go)), (ne, .inl (cs 0, 4608, .inl gn)), (ve, .inl (cs 0, 4, .inl V)), (ma, .inl (cs 0, 64, .inl mf))] : va_W)) ((show gw = mpB gw W md 3 (mlF W md 3 mf (fun x9 y9 => (mft (lokP go 0) (wdt 0 W) (wdt 0 H) (nI x9) (nI y9) (mus wh (V 0) 0) (mus wh (V 1) 0)))) (0 * 8) from (blkTo_0 gw _ _ _ _ 8 (mlF W md 3 mf (fun x9 y9 => (mft (lokP go 0) (wdt 0 W) (wdt 0 H) (nI x9) (nI y9) (mus wh (V 0) 0) (mus wh (V 1) 0))))).symm)))
  exact loop_91 (8 - 0 + 1) 0 (Nat.lt_succ_self _) (by decide) _ _ _ hP hD hS (lv_sub hl [4, 6, 7, 3, 2, 1, 0] rfl)

set_option maxHeartbeats 4000000 in
set_option maxRecDepth 100000 in
theorem c_X7_putBlock3C (l : Launch) (D : va_G) (cs : Nat → ClassId) (tt : Nat → Nat) (o mt qu zz nw ol ne se ke re ve ps di lv bd co bt ma W H md : Nat) (th nc ns is ik dc sc wh fa tl bf bo : Int32) (gw mf go gn V : Nat → Int32) (hw : 1 ≤ W) (hw4 : W ≤ 4) (hh : 1 ≤ H) (hh3 : H ≤ 3) (hmd : md < W * H) : xM l yX7_putBlock wsX7_putBlock ({ frames := 4, cells := 0, slots := 0, locals := 104 } : Room) D cs tt [.ref o, .int 3, .int 0, .int 1] [(o, .inr (7, mdF th W H mt qu zz nw ol ne se ke nc ns is ik dc sc 3 md wh fa re ve ps 0 tl di lv bf bo bd co bt ma)), (nw, .inl (cs 0, 4608, .inl gw)), (ol, .inl (cs 0, 4608, .inl go)), (ne, .inl (cs 0, 4608, .inl gn)), (ve, .inl (cs 0, 4, .inl V)), (ma, .inl (cs 0, 64, .inl mf))] none [(o, .inr (7, mdF th W H mt qu zz nw ol ne se ke nc ns is ik dc sc 3 md wh fa re ve ps 0 tl di lv bf bo bd co bt ma)), (nw, .inl (cs 0, 4608, .inl (mpB gw W md 3 (mlF W md 3 mf (fun x9 y9 => (mft (lokP gn 0) (wdt 0 W) (wdt 0 H) (nI x9) (nI y9) (mus wh (V 2) 0) (mus wh (V 3) 0)))) (64)))), (ol, .inl (cs 0, 4608, .inl go)), (ne, .inl (cs 0, 4608, .inl gn)), (ve, .inl (cs 0, 4, .inl V)), (ma, .inl (cs 0, 64, .inl mf))] := by
  refine xM.of RX7 rfl (by decide) rfl (Nat.le_of_ble_eq_true rfl) ?_
  intro p e s m below meth c A ls hF hr hlk hX hP hD hS hl
  have hx := hF.1
  have hb := hF.2.1
  have hl : lv_has ls 10 [(0, .ref o), (1, .int 3), (2, .int 0), (3, .int 1)] := hl
  have hm4 : md < 4096 := Nat.lt_of_lt_of_le hmd (Nat.le_trans (Nat.mul_le_mul hw4 hh3) (by decide))
  have hb9 := b_in hw hmd 3 (by decide)
  have hbl : (bL W md 3) + 8 ≤ 16 * W := hb9.1
  have hbt : (bT W md 3) + 8 ≤ 16 * H := hb9.2
  have hsL : bL W md 3 = bL W md 3 := rfl
  refine lv_iload_n hx hb dX7_putBlock_0 rfl (lv_at hl 1 rfl) ?_
  refine xSt (rest := []) (As := [.int 3]) (ws1 := [(o, .inr (7, mdF th W H mt qu zz nw ol ne se ke nc ns is ik dc sc 3 md wh fa re ve ps 0 tl di lv bf bo bd co bt ma)), (nw, .inl (cs 0, 4608, .inl gw)), (ol, .inl (cs 0, 4608, .inl go)), (ne, .inl (cs 0, 4608, .inl gn)), (ve, .inl (cs 0, 4, .inl V)), (ma, .inl (cs 0, 64, .inl mf))]) (st1 := [.int (pln 3)]) hF (c_X7_planeOf l D cs tt 3) gX7_putBlock_X7_planeOf rfl (n := 1) (by decide +kernel) rfl ⟨⟨rfl, rfl⟩, Nat.le_of_ble_eq_true rfl, Nat.le_of_ble_eq_true rfl⟩ ⟨Nat.le_of_ble_eq_true rfl, Nat.le_of_ble_eq_true rfl⟩ hX hP hD hS [] (by decide) rfl [] rfl rfl hl.1 rfl (Nat.le_of_ble_eq_true rfl) dX7_putBlock_1 rfl rfl (fun Hp locs hP hD hS => ?_)
  refine xrwi (z := 0) (by decide) ?_
  refine lv_istore (lv' := [(4, .int 0), (0, .ref o), (1, .int 3), (2, .int 0), (3, .int 1)]) hx hb dX7_putBlock_4 hl (by decide) rfl (fun ls hl => ?_)
  refine lv_iload hx hb dX7_putBlock_6 (lv_at hl 0 rfl) ?_
  refine lv_if_ne (tgt := 33) hx hb dX7_putBlock_8 (by decide) (fun c_8 => absurd (by decide) c_8) (fun _ => ?_)
  refine lv_bipush (v := 16) hx hb dX7_putBlock_11 (by decide) ?_
  refine lv_aload_n hx hb dX7_putBlock_13 rfl (lv_at hl 1 rfl) ?_
  refine xget (C := RX7) (T := TX7) (N := 34) hF hX hP (by decide +kernel) 0 18 rfl rfl (by decide) (by decide +kernel) rfl dX7_putBlock_14 ?_
  refine lv_aload_n hx hb dX7_putBlock_17 rfl (lv_at hl 1 rfl) ?_
  refine xget (C := RX7) (T := TX7) (N := 34) hF hX hP (by decide +kernel) 0 1 rfl rfl (by decide) (by decide +kernel) rfl dX7_putBlock_18 ?_
  refine lv_irem hx hb dX7_putBlock_21 (nI_ne0 (by omega) (by omega)) ?_
  refine xrwi (z := nI (md % W)) (pk_rem (by omega) (by omega) (by omega)) ?_
  refine lv_imul hx hb dX7_putBlock_22 ?_
  refine lv_bipush (v := 8) hx hb dX7_putBlock_23 (by decide) ?_
  refine lv_iload_n hx hb dX7_putBlock_25 rfl (lv_at hl 2 rfl) ?_
  refine lv_iconst (v := 2) hx hb dX7_putBlock_26 (by decide) ?_
  refine lv_irem hx hb dX7_putBlock_27 (by decide) ?_
  refine xrwi (z := 1) (by decide) ?_
  refine lv_imul hx hb dX7_putBlock_28 ?_
  refine xrwi (z := 8) (by decide) ?_
  refine lv_iadd hx hb dX7_putBlock_29 ?_
  refine lv_goto (tgt := 45) hx hb dX7_putBlock_30 (by decide) ?_
  refine xrwi (z := nI (bL W md 3)) (by rw [show (16 : Int32) * nI (md % W) = nI (16 * (md % W)) from pk_mul 16 _, show nI (16 * (md % W)) + 8 = nI (16 * (md % W) + 8) from nI_add _ 8]; exact congrArg nI (show 16 * (md % W) + 8 = bL W md 3 by show _ = md % W * 16 + 8; omega)) ?_
  refine lv_istore (lv' := [(5, .int (nI (bL W md 3))), (4, .int 0), (0, .ref o), (1, .int 3), (2, .int 0), (3, .int 1)]) hx hb dX7_putBlock_45 hl (by decide) rfl (fun ls hl => ?_)
  refine lv_iload hx hb dX7_putBlock_47 (lv_at hl 1 rfl) ?_
  refine lv_if_ne (tgt := 74) hx hb dX7_putBlock_49 (by decide) (fun c_49 => absurd (by decide) c_49) (fun _ => ?_)
  refine lv_bipush (v := 16) hx hb dX7_putBlock_52 (by decide) ?_
  refine lv_aload_n hx hb dX7_putBlock_54 rfl (lv_at hl 2 rfl) ?_
  refine xget (C := RX7) (T := TX7) (N := 34) hF hX hP (by decide +kernel) 0 18 rfl rfl (by decide) (by decide +kernel) rfl dX7_putBlock_55 ?_
  refine lv_aload_n hx hb dX7_putBlock_58 rfl (lv_at hl 2 rfl) ?_
  refine xget (C := RX7) (T := TX7) (N := 34) hF hX hP (by decide +kernel) 0 1 rfl rfl (by decide) (by decide +kernel) rfl dX7_putBlock_59 ?_
  refine lv_idiv hx hb dX7_putBlock_62 (nI_ne0 (by omega) (by omega)) ?_
  refine xrwi (z := nI (md / W)) (pk_div (by omega) (by omega) (by omega)) ?_
  refine lv_imul hx hb dX7_putBlock_63 ?_
  refine lv_bipush (v := 8) hx hb dX7_putBlock_64 (by decide) ?_
  refine lv_iload_n hx hb dX7_putBlock_66 rfl (lv_at hl 3 rfl) ?_
  refine lv_iconst (v := 2) hx hb dX7_putBlock_67 (by decide) ?_
  refine lv_idiv hx hb dX7_putBlock_68 (by decide) ?_
  refine xrwi (z := 1) (by decide) ?_
  refine lv_imul hx hb dX7_putBlock_69 ?_
  refine xrwi (z := 8) (by decide) ?_
  refine lv_iadd hx hb dX7_putBlock_70 ?_
  refine lv_goto (tgt := 86) hx hb dX7_putBlock_71 (by decide) ?_
  refine xrwi (z := nI (bT W md 3)) (by rw [show (16 : Int32) * nI (md / W) = nI (16 * (md / W)) from pk_mul 16 _, show nI (16 * (md / W)) + 8 = nI (16 * (md / W) + 8) from nI_add _ 8]; exact congrArg nI (show 16 * (md / W) + 8 = bT W md 3 by show _ = md / W * 16 + 8; omega)) ?_
  refine lv_istore (lv' := [(6, .int (nI (bT W md 3))), (5, .int (nI (bL W md 3))), (4, .int 0), (0, .ref o), (1, .int 3), (2, .int 0), (3, .int 1)]) hx hb dX7_putBlock_86 hl (by decide) rfl (fun ls hl => ?_)
  refine lv_iconst (v := 0) hx hb dX7_putBlock_88 (by decide) ?_
  refine lv_istore (lv' := [(7, .int 0), (6, .int (nI (bT W md 3))), (5, .int (nI (bL W md 3))), (4, .int 0), (0, .ref o), (1, .int 3), (2, .int 0), (3, .int 1)]) hx hb dX7_putBlock_89 hl (by decide) rfl (fun ls hl => ?_)
  have loop_91 : ∀ (k91 : Nat) (y : Nat), 8 - y < k91 → y ≤ 8 → ∀ (Hp : Heap) (locs : List Loc) (ls : Array Slot), va_P D vwCl [(o, .inr (7, mdF th W H mt qu zz nw ol ne se ke nc ns is ik dc sc 3 md wh fa re ve ps 0 tl di lv bf bo bd co bt ma)), (nw, .inl (cs 0, 4608, .inl (mpB gw W md 3 (mlF W md 3 mf (fun x9 y9 => (mft (lokP gn 0) (wdt 0 W) (wdt 0 H) (nI x9) (nI y9) (mus wh (V 2) 0) (mus wh (V 3) 0)))) (y * 8)))), (ol, .inl (cs 0, 4608, .inl go)), (ne, .inl (cs 0, 4608, .inl gn)), (ve, .inl (cs 0, 4, .inl V)), (ma, .inl (cs 0, 64, .inl mf))] Hp → va_D A [(o, .inr (7, mdF th W H mt qu zz nw ol ne se ke nc ns is ik dc sc 3 md wh fa re ve ps 0 tl di lv bf bo bd co bt ma)), (nw, .inl (cs 0, 4608, .inl (mpB gw W md 3 (mlF W md 3 mf (fun x9 y9 => (mft (lokP gn 0) (wdt 0 W) (wdt 0 H) (nI x9) (nI y9) (mus wh (V 2) 0) (mus wh (V 3) 0)))) (y * 8)))), (ol, .inl (cs 0, 4608, .inl go)), (ne, .inl (cs 0, 4608, .inl gn)), (ve, .inl (cs 0, 4, .inl V)), (ma, .inl (cs 0, 64, .inl mf))] → va_S A s.heap Hp locs → lv_has ls 10 [(0, .ref o), (2, .int 0), (3, .int 1), (4, .int 0), (5, .int (nI (bL W md 3))), (6, .int (nI (bT W md 3))), (7, .int (nI y))] → xW p l e ({ frames := 4, cells := 0, slots := 0, locals := 104 } : Room) s m ([.ref o, .int 3, .int 0, .int 1] : List Value).toArray below meth c Hp locs 0 0 (MQ below (xE D A none [(o, .inr (7, mdF th W H mt qu zz nw ol ne se ke nc ns is ik dc sc 3 md wh fa re ve ps 0 tl di lv bf bo bd co bt ma)), (nw, .inl (cs 0, 4608, .inl (mpB gw W md 3 (mlF W md 3 mf (fun x9 y9 => (mft (lokP gn 0) (wdt 0 W) (wdt 0 H) (nI x9) (nI y9) (mus wh (V 2) 0) (mus wh (V 3) 0)))) (64)))), (ol, .inl (cs 0, 4608, .inl go)), (ne, .inl (cs 0, 4608, .inl gn)), (ve, .inl (cs 0, 4, .inl V)), (ma, .inl (cs 0, 64, .inl mf))]) ([.ref o, .int 3, .int 0, .int 1] : List Value).toArray s 0 0 A) (F0 m 91 ls []) := by
    intro k91
    induction k91 with
    | zero => intro y h9; omega
    | succ k91 ih_91 =>
      intro y hk91 hy9 Hp locs ls hP hD hS hl
      refine lv_iload hx hb dX7_putBlock_91 (lv_at hl 6 rfl) ?_
      refine lv_bipush (v := 8) hx hb dX7_putBlock_93 (by decide) ?_
      refine lv_icmp_ge (tgt := 199) hx hb dX7_putBlock_95 (by decide) (fun c_95 => ?_) (fun c_95 => ?_)
      · have ey : y = 8 := by have := nIle (a := 8) (b := y) rfl rfl (by decide) (by omega) c_95; omega
        have hP := xeqP hP (congrArg (fun z9 => ([(o, .inr (7, mdF th W H mt qu zz nw ol ne se ke nc ns is ik dc sc 3 md wh fa re ve ps 0 tl di lv bf bo bd co bt ma)), (nw, .inl (cs 0, 4608, .inl z9)), (ol, .inl (cs 0, 4608, .inl go)), (ne, .inl (cs 0, 4608, .inl gn)), (ve, .inl (cs 0, 4, .inl V)), (ma, .inl (cs 0, 64, .inl mf))] : va_W)) (congrArg (mpB gw W md 3 (mlF W md 3 mf (fun x9 y9 => (mft (lokP gn 0) (wdt 0 W) (wdt 0 H) (nI x9) (nI y9) (mus wh (V 2) 0) (mus wh (V 3) 0))))) (show y * 8 = 64 by omega)))
        have hD := xeqD hD (congrArg (fun z9 => ([(o, .inr (7, mdF th W H mt qu zz nw ol ne se ke nc ns is ik dc sc 3 md wh fa re ve ps 0 tl di lv bf bo bd co bt ma)), (nw, .inl (cs 0, 4608, .inl z9)), (ol, .inl (cs 0, 4608, .inl go)), (ne, .inl (cs 0, 4608, .inl gn)), (ve, .inl (cs 0, 4, .inl V)), (ma, .inl (cs 0, 64, .inl mf))] : va_W)) (congrArg (mpB gw W md 3 (mlF W md 3 mf (fun x9 y9 => (mft (lokP gn 0) (wdt 0 W) (wdt 0 H) (nI x9) (nI y9) (mus wh (V 2) 0) (mus wh (V 3) 0))))) (show y * 8 = 64 by omega)))
        exact xrv hF hr hlk hP hD hS dX7_putBlock_199
      · have hyl : y < 8 := nInle (a := 8) (b := y) rfl rfl (by decide) (by omega) c_95
        refine lv_iconst (v := 0) hx hb dX7_putBlock_98 (by decide) ?_
        refine lv_istore (lv' := [(8, .int 0), (0, .ref o), (2, .int 0), (3, .int 1), (4, .int 0), (5, .int (nI (bL W md 3))), (6, .int (nI (bT W md 3))), (7, .int (nI y))]) hx hb dX7_putBlock_99 hl (by decide) rfl (fun ls hl => ?_)
        have loop_101 : ∀ (k101 : Nat) (x : Nat), 8 - x < k101 → x ≤ 8 → ∀ (Hp : Heap) (locs : List Loc) (ls : Array Slot), va_P D vwCl [(o, .inr (7, mdF th W H mt qu zz nw ol ne se ke nc ns is ik dc sc 3 md wh fa re ve ps 0 tl di lv bf bo bd co bt ma)), (nw, .inl (cs 0, 4608, .inl (mpB gw W md 3 (mlF W md 3 mf (fun x9 y9 => (mft (lokP gn 0) (wdt 0 W) (wdt 0 H) (nI x9) (nI y9) (mus wh (V 2) 0) (mus wh (V 3) 0)))) (y * 8 + x)))), (ol, .inl (cs 0, 4608, .inl go)), (ne, .inl (cs 0, 4608, .inl gn)), (ve, .inl (cs 0, 4, .inl V)), (ma, .inl (cs 0, 64, .inl mf))] Hp → va_D A [(o, .inr (7, mdF th W H mt qu zz nw ol ne se ke nc ns is ik dc sc 3 md wh fa re ve ps 0 tl di lv bf bo bd co bt ma)), (nw, .inl (cs 0, 4608, .inl (mpB gw W md 3 (mlF W md 3 mf (fun x9 y9 => (mft (lokP gn 0) (wdt 0 W) (wdt 0 H) (nI x9) (nI y9) (mus wh (V 2) 0) (mus wh (V 3) 0)))) (y * 8 + x)))), (ol, .inl (cs 0, 4608, .inl go)), (ne, .inl (cs 0, 4608, .inl gn)), (ve, .inl (cs 0, 4, .inl V)), (ma, .inl (cs 0, 64, .inl mf))] → va_S A s.heap Hp locs → lv_has ls 10 [(0, .ref o), (2, .int 0), (3, .int 1), (4, .int 0), (5, .int (nI (bL W md 3))), (6, .int (nI (bT W md 3))), (7, .int (nI y)), (8, .int (nI x))] → xW p l e ({ frames := 4, cells := 0, slots := 0, locals := 104 } : Room) s m ([.ref o, .int 3, .int 0, .int 1] : List Value).toArray below meth c Hp locs 0 0 (MQ below (xE D A none [(o, .inr (7, mdF th W H mt qu zz nw ol ne se ke nc ns is ik dc sc 3 md wh fa re ve ps 0 tl di lv bf bo bd co bt ma)), (nw, .inl (cs 0, 4608, .inl (mpB gw W md 3 (mlF W md 3 mf (fun x9 y9 => (mft (lokP gn 0) (wdt 0 W) (wdt 0 H) (nI x9) (nI y9) (mus wh (V 2) 0) (mus wh (V 3) 0)))) (64)))), (ol, .inl (cs 0, 4608, .inl go)), (ne, .inl (cs 0, 4608, .inl gn)), (ve, .inl (cs 0, 4, .inl V)), (ma, .inl (cs 0, 64, .inl mf))]) ([.ref o, .int 3, .int 0, .int 1] : List Value).toArray s 0 0 A) (F0 m 101 ls []) := by
          intro k101
          induction k101 with
          | zero => intro x h9; omega
          | succ k101 ih_101 =>
            intro x hk101 hx9 Hp locs ls hP hD hS hl
            refine lv_iload hx hb dX7_putBlock_101 (lv_at hl 7 rfl) ?_
            refine lv_bipush (v := 8) hx hb dX7_putBlock_103 (by decide) ?_
            refine lv_icmp_ge (tgt := 193) hx hb dX7_putBlock_105 (by decide) (fun c_105 => ?_) (fun c_105 => ?_)
            · have ex : x = 8 := by have := nIle (a := 8) (b := x) rfl rfl (by decide) (by omega) c_105; omega
              have hP := xeqP hP (congrArg (fun z9 => ([(o, .inr (7, mdF th W H mt qu zz nw ol ne se ke nc ns is ik dc sc 3 md wh fa re ve ps 0 tl di lv bf bo bd co bt ma)), (nw, .inl (cs 0, 4608, .inl z9)), (ol, .inl (cs 0, 4608, .inl go)), (ne, .inl (cs 0, 4608, .inl gn)), (ve, .inl (cs 0, 4, .inl V)), (ma, .inl (cs 0, 64, .inl mf))] : va_W)) (congrArg (mpB gw W md 3 (mlF W md 3 mf (fun x9 y9 => (mft (lokP gn 0) (wdt 0 W) (wdt 0 H) (nI x9) (nI y9) (mus wh (V 2) 0) (mus wh (V 3) 0))))) (show y * 8 + x = (y + 1) * 8 by omega)))
              have hD := xeqD hD (congrArg (fun z9 => ([(o, .inr (7, mdF th W H mt qu zz nw ol ne se ke nc ns is ik dc sc 3 md wh fa re ve ps 0 tl di lv bf bo bd co bt ma)), (nw, .inl (cs 0, 4608, .inl z9)), (ol, .inl (cs 0, 4608, .inl go)), (ne, .inl (cs 0, 4608, .inl gn)), (ve, .inl (cs 0, 4, .inl V)), (ma, .inl (cs 0, 64, .inl mf))] : va_W)) (congrArg (mpB gw W md 3 (mlF W md 3 mf (fun x9 y9 => (mft (lokP gn 0) (wdt 0 W) (wdt 0 H) (nI x9) (nI y9) (mus wh (V 2) 0) (mus wh (V 3) 0))))) (show y * 8 + x = (y + 1) * 8 by omega)))
              refine lv_iinc (v := (nI (y + 1))) (lv' := [(7, .int (nI (y + 1))), (0, .ref o), (2, .int 0), (3, .int 1), (4, .int 0), (5, .int (nI (bL W md 3))), (6, .int (nI (bT W md 3))), (8, .int (nI x))]) hx hb dX7_putBlock_193 hl (k := 6) rfl (nI_1 y) (by decide) rfl (fun ls hl => ?_)
              refine lv_goto (tgt := 91) hx hb dX7_putBlock_196 (by decide) ?_
              exact ih_91 (y + 1) (by omega) (by omega) _ _ _ hP hD hS (lv_sub hl [1, 2, 3, 4, 5, 6, 0] rfl)
            · have hxl : x < 8 := nInle (a := 8) (b := x) rfl rfl (by decide) (by omega) c_105
              refine lv_aload_n hx hb dX7_putBlock_108 rfl (lv_at hl 0 rfl) ?_
              refine xget (C := RX7) (T := TX7) (N := 34) hF hX hP (by decide +kernel) 0 33 rfl rfl (by decide) (by decide +kernel) rfl dX7_putBlock_109 ?_
              refine lv_bipush (v := 8) hx hb dX7_putBlock_112 (by decide) ?_
              refine lv_iload hx hb dX7_putBlock_114 (lv_at hl 6 rfl) ?_
              refine lv_imul hx hb dX7_putBlock_116 ?_
              refine lv_iload hx hb dX7_putBlock_117 (lv_at hl 7 rfl) ?_
              refine lv_iadd hx hb dX7_putBlock_119 ?_
              refine xrwi (z := nI (y * 8 + x)) (k8 y x) ?_
              refine xald (k := y * 8 + x) hF hX hP 5 rfl (nI_clamp (by omega)) (vp_in_nI (by omega) (by decide)) dX7_putBlock_120 ?_
              refine lv_istore (lv' := [(9, .int (mf (y * 8 + x))), (0, .ref o), (2, .int 0), (3, .int 1), (4, .int 0), (5, .int (nI (bL W md 3))), (6, .int (nI (bT W md 3))), (7, .int (nI y)), (8, .int (nI x))]) hx hb dX7_putBlock_121 hl (by decide) rfl (fun ls hl => ?_)
              refine lv_aload_n hx hb dX7_putBlock_123 rfl (lv_at hl 1 rfl) ?_
              refine xget (C := RX7) (T := TX7) (N := 34) hF hX hP (by decide +kernel) 0 24 rfl rfl (by decide) (by decide +kernel) rfl dX7_putBlock_124 ?_
              refine lv_if_eq (tgt := 135) hx hb dX7_putBlock_127 (by decide) (fun _ => ?_) (fun c_127 => absurd (by decide) c_127)
              refine lv_iload hx hb dX7_putBlock_135 (lv_at hl 0 rfl) ?_
              refine lv_aload_n hx hb dX7_putBlock_137 rfl (lv_at hl 1 rfl) ?_
              refine lv_iload_n hx hb dX7_putBlock_138 rfl (lv_at hl 2 rfl) ?_
              refine lv_iload_n hx hb dX7_putBlock_139 rfl (lv_at hl 3 rfl) ?_
              refine lv_iload hx hb dX7_putBlock_140 (lv_at hl 4 rfl) ?_
              refine lv_iload hx hb dX7_putBlock_142 (lv_at hl 5 rfl) ?_
              refine lv_iload hx hb dX7_putBlock_144 (lv_at hl 8 rfl) ?_
              refine lv_iadd hx hb dX7_putBlock_146 ?_
              refine xrwi (z := nI ((bL W md 3) + x)) (nI_add _ _) ?_
              refine lv_iload hx hb dX7_putBlock_147 (lv_at hl 6 rfl) ?_
              refine lv_iload hx hb dX7_putBlock_149 (lv_at hl 7 rfl) ?_
              refine lv_iadd hx hb dX7_putBlock_151 ?_
              refine xrwi (z := nI ((bT W md 3) + y)) (nI_add _ _) ?_
              refine xV (rest := [.int (mf (y * 8 + x))]) (As := [.int 0, .int 1, .int 0, .int (nI ((bL W md 3) + x)), .int (nI ((bT W md 3) + y))]) (ws1 := [(o, .inr (7, mdF th W H mt qu zz nw ol ne se ke nc ns is ik dc sc 3 md wh fa re ve ps 0 tl di lv bf bo bd co bt ma)), (nw, .inl (cs 0, 4608, .inl (mpB gw W md 3 (mlF W md 3 mf (fun x9 y9 => (mft (lokP gn 0) (wdt 0 W) (wdt 0 H) (nI x9) (nI y9) (mus wh (V 2) 0) (mus wh (V 3) 0)))) (y * 8 + x)))), (ol, .inl (cs 0, 4608, .inl go)), (ne, .inl (cs 0, 4608, .inl gn)), (ve, .inl (cs 0, 4, .inl V)), (ma, .inl (cs 0, 64, .inl mf))]) (st1 := [.int (mft (lokP gn 0) (wdt 0 W) (wdt 0 H) (nI ((bL W md 3) + x)) (nI ((bT W md 3) + y)) (mus wh (V 2) 0) (mus wh (V 3) 0)), .int (mf (y * 8 + x))]) hF (c_X7_fetchedC l D cs tt o mt qu zz nw ol ne se ke re ve ps di lv bd co bt ma W H md th nc ns is ik dc sc wh fa 0 tl bf bo 0 (nI ((bL W md 3) + x)) (nI ((bT W md 3) + y)) go gn V (by decide) hw hw4 hh hh3) gX7_putBlock_X7_fetched rfl (n := 5) (by decide +kernel) rfl ⟨⟨rfl, rfl⟩, Nat.le_of_ble_eq_true rfl, Nat.le_of_ble_eq_true rfl⟩ ⟨Nat.le_of_ble_eq_true rfl, Nat.le_of_ble_eq_true rfl⟩ hX hP hD hS [0, 2, 3, 4] (by decide) rfl [o, ol, ne, ve] rfl rfl (q0 := 0) (ci := 7) rfl rfl rfl hl.1 rfl (Nat.le_of_ble_eq_true rfl) dX7_putBlock_152 rfl rfl (fun Hp locs hP hD hS => ?_)
              refine lv_iadd hx hb dX7_putBlock_155 ?_
              refine lv_istore (lv' := [(9, .int ((mf (y * 8 + x)) + (mft (lokP gn 0) (wdt 0 W) (wdt 0 H) (nI ((bL W md 3) + x)) (nI ((bT W md 3) + y)) (mus wh (V 2) 0) (mus wh (V 3) 0)))), (0, .ref o), (2, .int 0), (3, .int 1), (4, .int 0), (5, .int (nI (bL W md 3))), (6, .int (nI (bT W md 3))), (7, .int (nI y)), (8, .int (nI x))]) hx hb dX7_putBlock_156 hl (by decide) rfl (fun ls hl => ?_)
              refine lv_aload_n hx hb dX7_putBlock_158 rfl (lv_at hl 1 rfl) ?_
              refine xget (C := RX7) (T := TX7) (N := 34) hF hX hP (by decide +kernel) 0 6 rfl rfl (by decide) (by decide +kernel) rfl dX7_putBlock_159 ?_
              refine lv_iload hx hb dX7_putBlock_162 (lv_at hl 4 rfl) ?_
              refine lv_iload hx hb dX7_putBlock_164 (lv_at hl 5 rfl) ?_
              refine lv_iload hx hb dX7_putBlock_166 (lv_at hl 8 rfl) ?_
              refine lv_iadd hx hb dX7_putBlock_168 ?_
              refine xrwi (z := nI ((bL W md 3) + x)) (nI_add _ _) ?_
              refine lv_iload hx hb dX7_putBlock_169 (lv_at hl 6 rfl) ?_
              refine lv_iload hx hb dX7_putBlock_171 (lv_at hl 7 rfl) ?_
              refine lv_iadd hx hb dX7_putBlock_173 ?_
              refine xrwi (z := nI ((bT W md 3) + y)) (nI_add _ _) ?_
              refine xSt (rest := [.ref nw]) (As := [.int 0, .int (nI ((bL W md 3) + x)), .int (nI ((bT W md 3) + y))]) (ws1 := [(o, .inr (7, mdF th W H mt qu zz nw ol ne se ke nc ns is ik dc sc 3 md wh fa re ve ps 0 tl di lv bf bo bd co bt ma)), (nw, .inl (cs 0, 4608, .inl (mpB gw W md 3 (mlF W md 3 mf (fun x9 y9 => (mft (lokP gn 0) (wdt 0 W) (wdt 0 H) (nI x9) (nI y9) (mus wh (V 2) 0) (mus wh (V 3) 0)))) (y * 8 + x)))), (ol, .inl (cs 0, 4608, .inl go)), (ne, .inl (cs 0, 4608, .inl gn)), (ve, .inl (cs 0, 4, .inl V)), (ma, .inl (cs 0, 64, .inl mf))]) (st1 := [.int (nI (plc 0 ((bL W md 3) + x) ((bT W md 3) + y))), .ref nw]) hF (c_X7_place l D cs tt 0 ((bL W md 3) + x) ((bT W md 3) + y) (by decide)) gX7_putBlock_X7_place rfl (n := 3) (by decide +kernel) rfl ⟨⟨rfl, rfl⟩, Nat.le_of_ble_eq_true rfl, Nat.le_of_ble_eq_true rfl⟩ ⟨Nat.le_of_ble_eq_true rfl, Nat.le_of_ble_eq_true rfl⟩ hX hP hD hS [] (by decide) rfl [] rfl rfl hl.1 rfl (Nat.le_of_ble_eq_true rfl) dX7_putBlock_174 rfl rfl (fun Hp locs hP hD hS => ?_)
              refine xrwi (z := nI (0 + (((bT W md 3) + y) * 64 + ((bL W md 3) + x)))) (by unfold plc; rw [if_pos rfl]; exact congrArg nI (by omega)) ?_
              refine lv_iload hx hb dX7_putBlock_177 (lv_at hl 0 rfl) ?_
              refine lv_iconst (v := 0) hx hb dX7_putBlock_179 (by decide) ?_
              refine lv_sipush (v := 255) hx hb dX7_putBlock_180 (by decide) ?_
              refine xSt (rest := [.int (nI (0 + (((bT W md 3) + y) * 64 + ((bL W md 3) + x)))), .ref nw]) (As := [.int ((mf (y * 8 + x)) + (mft (lokP gn 0) (wdt 0 W) (wdt 0 H) (nI ((bL W md 3) + x)) (nI ((bT W md 3) + y)) (mus wh (V 2) 0) (mus wh (V 3) 0))), .int 0, .int 255]) (ws1 := [(o, .inr (7, mdF th W H mt qu zz nw ol ne se ke nc ns is ik dc sc 3 md wh fa re ve ps 0 tl di lv bf bo bd co bt ma)), (nw, .inl (cs 0, 4608, .inl (mpB gw W md 3 (mlF W md 3 mf (fun x9 y9 => (mft (lokP gn 0) (wdt 0 W) (wdt 0 H) (nI x9) (nI y9) (mus wh (V 2) 0) (mus wh (V 3) 0)))) (y * 8 + x)))), (ol, .inl (cs 0, 4608, .inl go)), (ne, .inl (cs 0, 4608, .inl gn)), (ve, .inl (cs 0, 4, .inl V)), (ma, .inl (cs 0, 64, .inl mf))]) (st1 := [.int (bnd ((mf (y * 8 + x)) + (mft (lokP gn 0) (wdt 0 W) (wdt 0 H) (nI ((bL W md 3) + x)) (nI ((bT W md 3) + y)) (mus wh (V 2) 0) (mus wh (V 3) 0))) 0 255), .int (nI (0 + (((bT W md 3) + y) * 64 + ((bL W md 3) + x)))), .ref nw]) hF (c_X7_within l D cs tt ((mf (y * 8 + x)) + (mft (lokP gn 0) (wdt 0 W) (wdt 0 H) (nI ((bL W md 3) + x)) (nI ((bT W md 3) + y)) (mus wh (V 2) 0) (mus wh (V 3) 0))) 0 255) gX7_putBlock_X7_within rfl (n := 3) (by decide +kernel) rfl ⟨⟨rfl, rfl⟩, Nat.le_of_ble_eq_true rfl, Nat.le_of_ble_eq_true rfl⟩ ⟨Nat.le_of_ble_eq_true rfl, Nat.le_of_ble_eq_true rfl⟩ hX hP hD hS [] (by decide) rfl [] rfl rfl hl.1 rfl (Nat.le_of_ble_eq_true rfl) dX7_putBlock_183 rfl rfl (fun Hp locs hP hD hS => ?_)
              refine xast (k := 0 + (((bT W md 3) + y) * 64 + ((bL W md 3) + x))) (ws1 := [(o, .inr (7, mdF th W H mt qu zz nw ol ne se ke nc ns is ik dc sc 3 md wh fa re ve ps 0 tl di lv bf bo bd co bt ma)), (nw, .inl (cs 0, 4608, .inl (mpB gw W md 3 (mlF W md 3 mf (fun x9 y9 => (mft (lokP gn 0) (wdt 0 W) (wdt 0 H) (nI x9) (nI y9) (mus wh (V 2) 0) (mus wh (V 3) 0)))) (y * 8 + (x + 1))))), (ol, .inl (cs 0, 4608, .inl go)), (ne, .inl (cs 0, 4608, .inl gn)), (ve, .inl (cs 0, 4, .inl V)), (ma, .inl (cs 0, 64, .inl mf))]) hF hX hP hD hS 1 rfl (nI_clamp (by omega)) (vp_in_nI (by omega) (by decide)) dX7_putBlock_186 (congrArg (fun z9 => ([(o, .inr (7, mdF th W H mt qu zz nw ol ne se ke nc ns is ik dc sc 3 md wh fa re ve ps 0 tl di lv bf bo bd co bt ma)), (nw, .inl (cs 0, 4608, .inl z9)), (ol, .inl (cs 0, 4608, .inl go)), (ne, .inl (cs 0, 4608, .inl gn)), (ve, .inl (cs 0, 4, .inl V)), (ma, .inl (cs 0, 64, .inl mf))] : va_W)) (pbs gw (mlF W md 3 mf (fun x9 y9 => (mft (lokP gn 0) (wdt 0 W) (wdt 0 H) (nI x9) (nI y9) (mus wh (V 2) 0) (mus wh (V 3) 0)))) (by unfold mlF; rw [show ((bT W md 3) + y - (bT W md 3)) * 8 + ((bL W md 3) + x - (bL W md 3)) = y * 8 + x by omega]) hxl (show (bL W md 3) + 8 ≤ 64 by omega))) (fun Hp locs hP hD hS => ?_)
              refine lv_iinc (v := (nI (x + 1))) (lv' := [(8, .int (nI (x + 1))), (9, .int ((mf (y * 8 + x)) + (mft (lokP gn 0) (wdt 0 W) (wdt 0 H) (nI ((bL W md 3) + x)) (nI ((bT W md 3) + y)) (mus wh (V 2) 0) (mus wh (V 3) 0)))), (0, .ref o), (2, .int 0), (3, .int 1), (4, .int 0), (5, .int (nI (bL W md 3))), (6, .int (nI (bT W md 3))), (7, .int (nI y))]) hx hb dX7_putBlock_187 hl (k := 8) rfl (nI_1 x) (by decide) rfl (fun ls hl => ?_)
              refine lv_goto (tgt := 101) hx hb dX7_putBlock_190 (by decide) ?_
              exact ih_101 (x + 1) (by omega) (by omega) _ _ _ hP hD hS (lv_sub hl [2, 3, 4, 5, 6, 7, 8, 0] rfl)
        exact loop_101 (8 - 0 + 1) 0 (Nat.lt_succ_self _) (by decide) _ _ _ hP hD hS (lv_sub hl [1, 2, 3, 4, 5, 6, 7, 0] rfl)
  have hP := xeqP hP (congrArg (fun z9 => ([(o, .inr (7, mdF th W H mt qu zz nw ol ne se ke nc ns is ik dc sc 3 md wh fa re ve ps 0 tl di lv bf bo bd co bt ma)), (nw, .inl (cs 0, 4608, .inl z9)), (ol, .inl (cs 0, 4608, .inl go)), (ne, .inl (cs 0, 4608, .inl gn)), (ve, .inl (cs 0, 4, .inl V)), (ma, .inl (cs 0, 64, .inl mf))] : va_W)) ((show gw = mpB gw W md 3 (mlF W md 3 mf (fun x9 y9 => (mft (lokP gn 0) (wdt 0 W) (wdt 0 H) (nI x9) (nI y9) (mus wh (V 2) 0) (mus wh (V 3) 0)))) (0 * 8) from (blkTo_0 gw _ _ _ _ 8 (mlF W md 3 mf (fun x9 y9 => (mft (lokP gn 0) (wdt 0 W) (wdt 0 H) (nI x9) (nI y9) (mus wh (V 2) 0) (mus wh (V 3) 0))))).symm)))
  have hD := xeqD hD (congrArg (fun z9 => ([(o, .inr (7, mdF th W H mt qu zz nw ol ne se ke nc ns is ik dc sc 3 md wh fa re ve ps 0 tl di lv bf bo bd co bt ma)), (nw, .inl (cs 0, 4608, .inl z9)), (ol, .inl (cs 0, 4608, .inl go)), (ne, .inl (cs 0, 4608, .inl gn)), (ve, .inl (cs 0, 4, .inl V)), (ma, .inl (cs 0, 64, .inl mf))] : va_W)) ((show gw = mpB gw W md 3 (mlF W md 3 mf (fun x9 y9 => (mft (lokP gn 0) (wdt 0 W) (wdt 0 H) (nI x9) (nI y9) (mus wh (V 2) 0) (mus wh (V 3) 0)))) (0 * 8) from (blkTo_0 gw _ _ _ _ 8 (mlF W md 3 mf (fun x9 y9 => (mft (lokP gn 0) (wdt 0 W) (wdt 0 H) (nI x9) (nI y9) (mus wh (V 2) 0) (mus wh (V 3) 0))))).symm)))
  exact loop_91 (8 - 0 + 1) 0 (Nat.lt_succ_self _) (by decide) _ _ _ hP hD hS (lv_sub hl [4, 6, 7, 3, 2, 1, 0] rfl)

set_option maxHeartbeats 4000000 in
set_option maxRecDepth 100000 in
theorem c_X7_putBlock3D (l : Launch) (D : va_G) (cs : Nat → ClassId) (tt : Nat → Nat) (o mt qu zz nw ol ne se ke re ve ps di lv bd co bt ma W H md : Nat) (th nc ns is ik dc sc wh fa tl bf bo : Int32) (gw mf go gn V : Nat → Int32) (hw : 1 ≤ W) (hw4 : W ≤ 4) (hh : 1 ≤ H) (hh3 : H ≤ 3) (hmd : md < W * H) : xM l yX7_putBlock wsX7_putBlock ({ frames := 4, cells := 0, slots := 0, locals := 104 } : Room) D cs tt [.ref o, .int 3, .int 1, .int 1] [(o, .inr (7, mdF th W H mt qu zz nw ol ne se ke nc ns is ik dc sc 3 md wh fa re ve ps 0 tl di lv bf bo bd co bt ma)), (nw, .inl (cs 0, 4608, .inl gw)), (ol, .inl (cs 0, 4608, .inl go)), (ne, .inl (cs 0, 4608, .inl gn)), (ve, .inl (cs 0, 4, .inl V)), (ma, .inl (cs 0, 64, .inl mf))] none [(o, .inr (7, mdF th W H mt qu zz nw ol ne se ke nc ns is ik dc sc 3 md wh fa re ve ps 0 tl di lv bf bo bd co bt ma)), (nw, .inl (cs 0, 4608, .inl (mpB gw W md 3 (mlF W md 3 mf (fun x9 y9 => (((mft (lokP go 0) (wdt 0 W) (wdt 0 H) (nI x9) (nI y9) (mus wh (V 0) 0) (mus wh (V 1) 0)) + (mft (lokP gn 0) (wdt 0 W) (wdt 0 H) (nI x9) (nI y9) (mus wh (V 2) 0) (mus wh (V 3) 0)) + 1) >>> (1 &&& 31)))) (64)))), (ol, .inl (cs 0, 4608, .inl go)), (ne, .inl (cs 0, 4608, .inl gn)), (ve, .inl (cs 0, 4, .inl V)), (ma, .inl (cs 0, 64, .inl mf))] := by
  refine xM.of RX7 rfl (by decide) rfl (Nat.le_of_ble_eq_true rfl) ?_
  intro p e s m below meth c A ls hF hr hlk hX hP hD hS hl
  have hx := hF.1
  have hb := hF.2.1
  have hl : lv_has ls 10 [(0, .ref o), (1, .int 3), (2, .int 1), (3, .int 1)] := hl
  have hm4 : md < 4096 := Nat.lt_of_lt_of_le hmd (Nat.le_trans (Nat.mul_le_mul hw4 hh3) (by decide))
  have hb9 := b_in hw hmd 3 (by decide)
  have hbl : (bL W md 3) + 8 ≤ 16 * W := hb9.1
  have hbt : (bT W md 3) + 8 ≤ 16 * H := hb9.2
  have hsL : bL W md 3 = bL W md 3 := rfl
  refine lv_iload_n hx hb dX7_putBlock_0 rfl (lv_at hl 1 rfl) ?_
  refine xSt (rest := []) (As := [.int 3]) (ws1 := [(o, .inr (7, mdF th W H mt qu zz nw ol ne se ke nc ns is ik dc sc 3 md wh fa re ve ps 0 tl di lv bf bo bd co bt ma)), (nw, .inl (cs 0, 4608, .inl gw)), (ol, .inl (cs 0, 4608, .inl go)), (ne, .inl (cs 0, 4608, .inl gn)), (ve, .inl (cs 0, 4, .inl V)), (ma, .inl (cs 0, 64, .inl mf))]) (st1 := [.int (pln 3)]) hF (c_X7_planeOf l D cs tt 3) gX7_putBlock_X7_planeOf rfl (n := 1) (by decide +kernel) rfl ⟨⟨rfl, rfl⟩, Nat.le_of_ble_eq_true rfl, Nat.le_of_ble_eq_true rfl⟩ ⟨Nat.le_of_ble_eq_true rfl, Nat.le_of_ble_eq_true rfl⟩ hX hP hD hS [] (by decide) rfl [] rfl rfl hl.1 rfl (Nat.le_of_ble_eq_true rfl) dX7_putBlock_1 rfl rfl (fun Hp locs hP hD hS => ?_)
  refine xrwi (z := 0) (by decide) ?_
  refine lv_istore (lv' := [(4, .int 0), (0, .ref o), (1, .int 3), (2, .int 1), (3, .int 1)]) hx hb dX7_putBlock_4 hl (by decide) rfl (fun ls hl => ?_)
  refine lv_iload hx hb dX7_putBlock_6 (lv_at hl 0 rfl) ?_
  refine lv_if_ne (tgt := 33) hx hb dX7_putBlock_8 (by decide) (fun c_8 => absurd (by decide) c_8) (fun _ => ?_)
  refine lv_bipush (v := 16) hx hb dX7_putBlock_11 (by decide) ?_
  refine lv_aload_n hx hb dX7_putBlock_13 rfl (lv_at hl 1 rfl) ?_
  refine xget (C := RX7) (T := TX7) (N := 34) hF hX hP (by decide +kernel) 0 18 rfl rfl (by decide) (by decide +kernel) rfl dX7_putBlock_14 ?_
  refine lv_aload_n hx hb dX7_putBlock_17 rfl (lv_at hl 1 rfl) ?_
  refine xget (C := RX7) (T := TX7) (N := 34) hF hX hP (by decide +kernel) 0 1 rfl rfl (by decide) (by decide +kernel) rfl dX7_putBlock_18 ?_
  refine lv_irem hx hb dX7_putBlock_21 (nI_ne0 (by omega) (by omega)) ?_
  refine xrwi (z := nI (md % W)) (pk_rem (by omega) (by omega) (by omega)) ?_
  refine lv_imul hx hb dX7_putBlock_22 ?_
  refine lv_bipush (v := 8) hx hb dX7_putBlock_23 (by decide) ?_
  refine lv_iload_n hx hb dX7_putBlock_25 rfl (lv_at hl 2 rfl) ?_
  refine lv_iconst (v := 2) hx hb dX7_putBlock_26 (by decide) ?_
  refine lv_irem hx hb dX7_putBlock_27 (by decide) ?_
  refine xrwi (z := 1) (by decide) ?_
  refine lv_imul hx hb dX7_putBlock_28 ?_
  refine xrwi (z := 8) (by decide) ?_
  refine lv_iadd hx hb dX7_putBlock_29 ?_
  refine lv_goto (tgt := 45) hx hb dX7_putBlock_30 (by decide) ?_
  refine xrwi (z := nI (bL W md 3)) (by rw [show (16 : Int32) * nI (md % W) = nI (16 * (md % W)) from pk_mul 16 _, show nI (16 * (md % W)) + 8 = nI (16 * (md % W) + 8) from nI_add _ 8]; exact congrArg nI (show 16 * (md % W) + 8 = bL W md 3 by show _ = md % W * 16 + 8; omega)) ?_
  refine lv_istore (lv' := [(5, .int (nI (bL W md 3))), (4, .int 0), (0, .ref o), (1, .int 3), (2, .int 1), (3, .int 1)]) hx hb dX7_putBlock_45 hl (by decide) rfl (fun ls hl => ?_)
  refine lv_iload hx hb dX7_putBlock_47 (lv_at hl 1 rfl) ?_
  refine lv_if_ne (tgt := 74) hx hb dX7_putBlock_49 (by decide) (fun c_49 => absurd (by decide) c_49) (fun _ => ?_)
  refine lv_bipush (v := 16) hx hb dX7_putBlock_52 (by decide) ?_
  refine lv_aload_n hx hb dX7_putBlock_54 rfl (lv_at hl 2 rfl) ?_
  refine xget (C := RX7) (T := TX7) (N := 34) hF hX hP (by decide +kernel) 0 18 rfl rfl (by decide) (by decide +kernel) rfl dX7_putBlock_55 ?_
  refine lv_aload_n hx hb dX7_putBlock_58 rfl (lv_at hl 2 rfl) ?_
  refine xget (C := RX7) (T := TX7) (N := 34) hF hX hP (by decide +kernel) 0 1 rfl rfl (by decide) (by decide +kernel) rfl dX7_putBlock_59 ?_
  refine lv_idiv hx hb dX7_putBlock_62 (nI_ne0 (by omega) (by omega)) ?_
  refine xrwi (z := nI (md / W)) (pk_div (by omega) (by omega) (by omega)) ?_
  refine lv_imul hx hb dX7_putBlock_63 ?_
  refine lv_bipush (v := 8) hx hb dX7_putBlock_64 (by decide) ?_
  refine lv_iload_n hx hb dX7_putBlock_66 rfl (lv_at hl 3 rfl) ?_
  refine lv_iconst (v := 2) hx hb dX7_putBlock_67 (by decide) ?_
  refine lv_idiv hx hb dX7_putBlock_68 (by decide) ?_
  refine xrwi (z := 1) (by decide) ?_
  refine lv_imul hx hb dX7_putBlock_69 ?_
  refine xrwi (z := 8) (by decide) ?_
  refine lv_iadd hx hb dX7_putBlock_70 ?_
  refine lv_goto (tgt := 86) hx hb dX7_putBlock_71 (by decide) ?_
  refine xrwi (z := nI (bT W md 3)) (by rw [show (16 : Int32) * nI (md / W) = nI (16 * (md / W)) from pk_mul 16 _, show nI (16 * (md / W)) + 8 = nI (16 * (md / W) + 8) from nI_add _ 8]; exact congrArg nI (show 16 * (md / W) + 8 = bT W md 3 by show _ = md / W * 16 + 8; omega)) ?_
  refine lv_istore (lv' := [(6, .int (nI (bT W md 3))), (5, .int (nI (bL W md 3))), (4, .int 0), (0, .ref o), (1, .int 3), (2, .int 1), (3, .int 1)]) hx hb dX7_putBlock_86 hl (by decide) rfl (fun ls hl => ?_)
  refine lv_iconst (v := 0) hx hb dX7_putBlock_88 (by decide) ?_
  refine lv_istore (lv' := [(7, .int 0), (6, .int (nI (bT W md 3))), (5, .int (nI (bL W md 3))), (4, .int 0), (0, .ref o), (1, .int 3), (2, .int 1), (3, .int 1)]) hx hb dX7_putBlock_89 hl (by decide) rfl (fun ls hl => ?_)
  have loop_91 : ∀ (k91 : Nat) (y : Nat), 8 - y < k91 → y ≤ 8 → ∀ (Hp : Heap) (locs : List Loc) (ls : Array Slot), va_P D vwCl [(o, .inr (7, mdF th W H mt qu zz nw ol ne se ke nc ns is ik dc sc 3 md wh fa re ve ps 0 tl di lv bf bo bd co bt ma)), (nw, .inl (cs 0, 4608, .inl (mpB gw W md 3 (mlF W md 3 mf (fun x9 y9 => (((mft (lokP go 0) (wdt 0 W) (wdt 0 H) (nI x9) (nI y9) (mus wh (V 0) 0) (mus wh (V 1) 0)) + (mft (lokP gn 0) (wdt 0 W) (wdt 0 H) (nI x9) (nI y9) (mus wh (V 2) 0) (mus wh (V 3) 0)) + 1) >>> (1 &&& 31)))) (y * 8)))), (ol, .inl (cs 0, 4608, .inl go)), (ne, .inl (cs 0, 4608, .inl gn)), (ve, .inl (cs 0, 4, .inl V)), (ma, .inl (cs 0, 64, .inl mf))] Hp → va_D A [(o, .inr (7, mdF th W H mt qu zz nw ol ne se ke nc ns is ik dc sc 3 md wh fa re ve ps 0 tl di lv bf bo bd co bt ma)), (nw, .inl (cs 0, 4608, .inl (mpB gw W md 3 (mlF W md 3 mf (fun x9 y9 => (((mft (lokP go 0) (wdt 0 W) (wdt 0 H) (nI x9) (nI y9) (mus wh (V 0) 0) (mus wh (V 1) 0)) + (mft (lokP gn 0) (wdt 0 W) (wdt 0 H) (nI x9) (nI y9) (mus wh (V 2) 0) (mus wh (V 3) 0)) + 1) >>> (1 &&& 31)))) (y * 8)))), (ol, .inl (cs 0, 4608, .inl go)), (ne, .inl (cs 0, 4608, .inl gn)), (ve, .inl (cs 0, 4, .inl V)), (ma, .inl (cs 0, 64, .inl mf))] → va_S A s.heap Hp locs → lv_has ls 10 [(0, .ref o), (2, .int 1), (3, .int 1), (4, .int 0), (5, .int (nI (bL W md 3))), (6, .int (nI (bT W md 3))), (7, .int (nI y))] → xW p l e ({ frames := 4, cells := 0, slots := 0, locals := 104 } : Room) s m ([.ref o, .int 3, .int 1, .int 1] : List Value).toArray below meth c Hp locs 0 0 (MQ below (xE D A none [(o, .inr (7, mdF th W H mt qu zz nw ol ne se ke nc ns is ik dc sc 3 md wh fa re ve ps 0 tl di lv bf bo bd co bt ma)), (nw, .inl (cs 0, 4608, .inl (mpB gw W md 3 (mlF W md 3 mf (fun x9 y9 => (((mft (lokP go 0) (wdt 0 W) (wdt 0 H) (nI x9) (nI y9) (mus wh (V 0) 0) (mus wh (V 1) 0)) + (mft (lokP gn 0) (wdt 0 W) (wdt 0 H) (nI x9) (nI y9) (mus wh (V 2) 0) (mus wh (V 3) 0)) + 1) >>> (1 &&& 31)))) (64)))), (ol, .inl (cs 0, 4608, .inl go)), (ne, .inl (cs 0, 4608, .inl gn)), (ve, .inl (cs 0, 4, .inl V)), (ma, .inl (cs 0, 64, .inl mf))]) ([.ref o, .int 3, .int 1, .int 1] : List Value).toArray s 0 0 A) (F0 m 91 ls []) := by
    intro k91
    induction k91 with
    | zero => intro y h9; omega
    | succ k91 ih_91 =>
      intro y hk91 hy9 Hp locs ls hP hD hS hl
      refine lv_iload hx hb dX7_putBlock_91 (lv_at hl 6 rfl) ?_
      refine lv_bipush (v := 8) hx hb dX7_putBlock_93 (by decide) ?_
      refine lv_icmp_ge (tgt := 199) hx hb dX7_putBlock_95 (by decide) (fun c_95 => ?_) (fun c_95 => ?_)
      · have ey : y = 8 := by have := nIle (a := 8) (b := y) rfl rfl (by decide) (by omega) c_95; omega
        have hP := xeqP hP (congrArg (fun z9 => ([(o, .inr (7, mdF th W H mt qu zz nw ol ne se ke nc ns is ik dc sc 3 md wh fa re ve ps 0 tl di lv bf bo bd co bt ma)), (nw, .inl (cs 0, 4608, .inl z9)), (ol, .inl (cs 0, 4608, .inl go)), (ne, .inl (cs 0, 4608, .inl gn)), (ve, .inl (cs 0, 4, .inl V)), (ma, .inl (cs 0, 64, .inl mf))] : va_W)) (congrArg (mpB gw W md 3 (mlF W md 3 mf (fun x9 y9 => (((mft (lokP go 0) (wdt 0 W) (wdt 0 H) (nI x9) (nI y9) (mus wh (V 0) 0) (mus wh (V 1) 0)) + (mft (lokP gn 0) (wdt 0 W) (wdt 0 H) (nI x9) (nI y9) (mus wh (V 2) 0) (mus wh (V 3) 0)) + 1) >>> (1 &&& 31))))) (show y * 8 = 64 by omega)))
        have hD := xeqD hD (congrArg (fun z9 => ([(o, .inr (7, mdF th W H mt qu zz nw ol ne se ke nc ns is ik dc sc 3 md wh fa re ve ps 0 tl di lv bf bo bd co bt ma)), (nw, .inl (cs 0, 4608, .inl z9)), (ol, .inl (cs 0, 4608, .inl go)), (ne, .inl (cs 0, 4608, .inl gn)), (ve, .inl (cs 0, 4, .inl V)), (ma, .inl (cs 0, 64, .inl mf))] : va_W)) (congrArg (mpB gw W md 3 (mlF W md 3 mf (fun x9 y9 => (((mft (lokP go 0) (wdt 0 W) (wdt 0 H) (nI x9) (nI y9) (mus wh (V 0) 0) (mus wh (V 1) 0)) + (mft (lokP gn 0) (wdt 0 W) (wdt 0 H) (nI x9) (nI y9) (mus wh (V 2) 0) (mus wh (V 3) 0)) + 1) >>> (1 &&& 31))))) (show y * 8 = 64 by omega)))
        exact xrv hF hr hlk hP hD hS dX7_putBlock_199
      · have hyl : y < 8 := nInle (a := 8) (b := y) rfl rfl (by decide) (by omega) c_95
        refine lv_iconst (v := 0) hx hb dX7_putBlock_98 (by decide) ?_
        refine lv_istore (lv' := [(8, .int 0), (0, .ref o), (2, .int 1), (3, .int 1), (4, .int 0), (5, .int (nI (bL W md 3))), (6, .int (nI (bT W md 3))), (7, .int (nI y))]) hx hb dX7_putBlock_99 hl (by decide) rfl (fun ls hl => ?_)
        have loop_101 : ∀ (k101 : Nat) (x : Nat), 8 - x < k101 → x ≤ 8 → ∀ (Hp : Heap) (locs : List Loc) (ls : Array Slot), va_P D vwCl [(o, .inr (7, mdF th W H mt qu zz nw ol ne se ke nc ns is ik dc sc 3 md wh fa re ve ps 0 tl di lv bf bo bd co bt ma)), (nw, .inl (cs 0, 4608, .inl (mpB gw W md 3 (mlF W md 3 mf (fun x9 y9 => (((mft (lokP go 0) (wdt 0 W) (wdt 0 H) (nI x9) (nI y9) (mus wh (V 0) 0) (mus wh (V 1) 0)) + (mft (lokP gn 0) (wdt 0 W) (wdt 0 H) (nI x9) (nI y9) (mus wh (V 2) 0) (mus wh (V 3) 0)) + 1) >>> (1 &&& 31)))) (y * 8 + x)))), (ol, .inl (cs 0, 4608, .inl go)), (ne, .inl (cs 0, 4608, .inl gn)), (ve, .inl (cs 0, 4, .inl V)), (ma, .inl (cs 0, 64, .inl mf))] Hp → va_D A [(o, .inr (7, mdF th W H mt qu zz nw ol ne se ke nc ns is ik dc sc 3 md wh fa re ve ps 0 tl di lv bf bo bd co bt ma)), (nw, .inl (cs 0, 4608, .inl (mpB gw W md 3 (mlF W md 3 mf (fun x9 y9 => (((mft (lokP go 0) (wdt 0 W) (wdt 0 H) (nI x9) (nI y9) (mus wh (V 0) 0) (mus wh (V 1) 0)) + (mft (lokP gn 0) (wdt 0 W) (wdt 0 H) (nI x9) (nI y9) (mus wh (V 2) 0) (mus wh (V 3) 0)) + 1) >>> (1 &&& 31)))) (y * 8 + x)))), (ol, .inl (cs 0, 4608, .inl go)), (ne, .inl (cs 0, 4608, .inl gn)), (ve, .inl (cs 0, 4, .inl V)), (ma, .inl (cs 0, 64, .inl mf))] → va_S A s.heap Hp locs → lv_has ls 10 [(0, .ref o), (2, .int 1), (3, .int 1), (4, .int 0), (5, .int (nI (bL W md 3))), (6, .int (nI (bT W md 3))), (7, .int (nI y)), (8, .int (nI x))] → xW p l e ({ frames := 4, cells := 0, slots := 0, locals := 104 } : Room) s m ([.ref o, .int 3, .int 1, .int 1] : List Value).toArray below meth c Hp locs 0 0 (MQ below (xE D A none [(o, .inr (7, mdF th W H mt qu zz nw ol ne se ke nc ns is ik dc sc 3 md wh fa re ve ps 0 tl di lv bf bo bd co bt ma)), (nw, .inl (cs 0, 4608, .inl (mpB gw W md 3 (mlF W md 3 mf (fun x9 y9 => (((mft (lokP go 0) (wdt 0 W) (wdt 0 H) (nI x9) (nI y9) (mus wh (V 0) 0) (mus wh (V 1) 0)) + (mft (lokP gn 0) (wdt 0 W) (wdt 0 H) (nI x9) (nI y9) (mus wh (V 2) 0) (mus wh (V 3) 0)) + 1) >>> (1 &&& 31)))) (64)))), (ol, .inl (cs 0, 4608, .inl go)), (ne, .inl (cs 0, 4608, .inl gn)), (ve, .inl (cs 0, 4, .inl V)), (ma, .inl (cs 0, 64, .inl mf))]) ([.ref o, .int 3, .int 1, .int 1] : List Value).toArray s 0 0 A) (F0 m 101 ls []) := by
          intro k101
          induction k101 with
          | zero => intro x h9; omega
          | succ k101 ih_101 =>
            intro x hk101 hx9 Hp locs ls hP hD hS hl
            refine lv_iload hx hb dX7_putBlock_101 (lv_at hl 7 rfl) ?_
            refine lv_bipush (v := 8) hx hb dX7_putBlock_103 (by decide) ?_
            refine lv_icmp_ge (tgt := 193) hx hb dX7_putBlock_105 (by decide) (fun c_105 => ?_) (fun c_105 => ?_)
            · have ex : x = 8 := by have := nIle (a := 8) (b := x) rfl rfl (by decide) (by omega) c_105; omega
              have hP := xeqP hP (congrArg (fun z9 => ([(o, .inr (7, mdF th W H mt qu zz nw ol ne se ke nc ns is ik dc sc 3 md wh fa re ve ps 0 tl di lv bf bo bd co bt ma)), (nw, .inl (cs 0, 4608, .inl z9)), (ol, .inl (cs 0, 4608, .inl go)), (ne, .inl (cs 0, 4608, .inl gn)), (ve, .inl (cs 0, 4, .inl V)), (ma, .inl (cs 0, 64, .inl mf))] : va_W)) (congrArg (mpB gw W md 3 (mlF W md 3 mf (fun x9 y9 => (((mft (lokP go 0) (wdt 0 W) (wdt 0 H) (nI x9) (nI y9) (mus wh (V 0) 0) (mus wh (V 1) 0)) + (mft (lokP gn 0) (wdt 0 W) (wdt 0 H) (nI x9) (nI y9) (mus wh (V 2) 0) (mus wh (V 3) 0)) + 1) >>> (1 &&& 31))))) (show y * 8 + x = (y + 1) * 8 by omega)))
              have hD := xeqD hD (congrArg (fun z9 => ([(o, .inr (7, mdF th W H mt qu zz nw ol ne se ke nc ns is ik dc sc 3 md wh fa re ve ps 0 tl di lv bf bo bd co bt ma)), (nw, .inl (cs 0, 4608, .inl z9)), (ol, .inl (cs 0, 4608, .inl go)), (ne, .inl (cs 0, 4608, .inl gn)), (ve, .inl (cs 0, 4, .inl V)), (ma, .inl (cs 0, 64, .inl mf))] : va_W)) (congrArg (mpB gw W md 3 (mlF W md 3 mf (fun x9 y9 => (((mft (lokP go 0) (wdt 0 W) (wdt 0 H) (nI x9) (nI y9) (mus wh (V 0) 0) (mus wh (V 1) 0)) + (mft (lokP gn 0) (wdt 0 W) (wdt 0 H) (nI x9) (nI y9) (mus wh (V 2) 0) (mus wh (V 3) 0)) + 1) >>> (1 &&& 31))))) (show y * 8 + x = (y + 1) * 8 by omega)))
              refine lv_iinc (v := (nI (y + 1))) (lv' := [(7, .int (nI (y + 1))), (0, .ref o), (2, .int 1), (3, .int 1), (4, .int 0), (5, .int (nI (bL W md 3))), (6, .int (nI (bT W md 3))), (8, .int (nI x))]) hx hb dX7_putBlock_193 hl (k := 6) rfl (nI_1 y) (by decide) rfl (fun ls hl => ?_)
              refine lv_goto (tgt := 91) hx hb dX7_putBlock_196 (by decide) ?_
              exact ih_91 (y + 1) (by omega) (by omega) _ _ _ hP hD hS (lv_sub hl [1, 2, 3, 4, 5, 6, 0] rfl)
            · have hxl : x < 8 := nInle (a := 8) (b := x) rfl rfl (by decide) (by omega) c_105
              refine lv_aload_n hx hb dX7_putBlock_108 rfl (lv_at hl 0 rfl) ?_
              refine xget (C := RX7) (T := TX7) (N := 34) hF hX hP (by decide +kernel) 0 33 rfl rfl (by decide) (by decide +kernel) rfl dX7_putBlock_109 ?_
              refine lv_bipush (v := 8) hx hb dX7_putBlock_112 (by decide) ?_
              refine lv_iload hx hb dX7_putBlock_114 (lv_at hl 6 rfl) ?_
              refine lv_imul hx hb dX7_putBlock_116 ?_
              refine lv_iload hx hb dX7_putBlock_117 (lv_at hl 7 rfl) ?_
              refine lv_iadd hx hb dX7_putBlock_119 ?_
              refine xrwi (z := nI (y * 8 + x)) (k8 y x) ?_
              refine xald (k := y * 8 + x) hF hX hP 5 rfl (nI_clamp (by omega)) (vp_in_nI (by omega) (by decide)) dX7_putBlock_120 ?_
              refine lv_istore (lv' := [(9, .int (mf (y * 8 + x))), (0, .ref o), (2, .int 1), (3, .int 1), (4, .int 0), (5, .int (nI (bL W md 3))), (6, .int (nI (bT W md 3))), (7, .int (nI y)), (8, .int (nI x))]) hx hb dX7_putBlock_121 hl (by decide) rfl (fun ls hl => ?_)
              refine lv_aload_n hx hb dX7_putBlock_123 rfl (lv_at hl 1 rfl) ?_
              refine xget (C := RX7) (T := TX7) (N := 34) hF hX hP (by decide +kernel) 0 24 rfl rfl (by decide) (by decide +kernel) rfl dX7_putBlock_124 ?_
              refine lv_if_eq (tgt := 135) hx hb dX7_putBlock_127 (by decide) (fun _ => ?_) (fun c_127 => absurd (by decide) c_127)
              refine lv_iload hx hb dX7_putBlock_135 (lv_at hl 0 rfl) ?_
              refine lv_aload_n hx hb dX7_putBlock_137 rfl (lv_at hl 1 rfl) ?_
              refine lv_iload_n hx hb dX7_putBlock_138 rfl (lv_at hl 2 rfl) ?_
              refine lv_iload_n hx hb dX7_putBlock_139 rfl (lv_at hl 3 rfl) ?_
              refine lv_iload hx hb dX7_putBlock_140 (lv_at hl 4 rfl) ?_
              refine lv_iload hx hb dX7_putBlock_142 (lv_at hl 5 rfl) ?_
              refine lv_iload hx hb dX7_putBlock_144 (lv_at hl 8 rfl) ?_
              refine lv_iadd hx hb dX7_putBlock_146 ?_
              refine xrwi (z := nI ((bL W md 3) + x)) (nI_add _ _) ?_
              refine lv_iload hx hb dX7_putBlock_147 (lv_at hl 6 rfl) ?_
              refine lv_iload hx hb dX7_putBlock_149 (lv_at hl 7 rfl) ?_
              refine lv_iadd hx hb dX7_putBlock_151 ?_
              refine xrwi (z := nI ((bT W md 3) + y)) (nI_add _ _) ?_
              refine xV (rest := [.int (mf (y * 8 + x))]) (As := [.int 1, .int 1, .int 0, .int (nI ((bL W md 3) + x)), .int (nI ((bT W md 3) + y))]) (ws1 := [(o, .inr (7, mdF th W H mt qu zz nw ol ne se ke nc ns is ik dc sc 3 md wh fa re ve ps 0 tl di lv bf bo bd co bt ma)), (nw, .inl (cs 0, 4608, .inl (mpB gw W md 3 (mlF W md 3 mf (fun x9 y9 => (((mft (lokP go 0) (wdt 0 W) (wdt 0 H) (nI x9) (nI y9) (mus wh (V 0) 0) (mus wh (V 1) 0)) + (mft (lokP gn 0) (wdt 0 W) (wdt 0 H) (nI x9) (nI y9) (mus wh (V 2) 0) (mus wh (V 3) 0)) + 1) >>> (1 &&& 31)))) (y * 8 + x)))), (ol, .inl (cs 0, 4608, .inl go)), (ne, .inl (cs 0, 4608, .inl gn)), (ve, .inl (cs 0, 4, .inl V)), (ma, .inl (cs 0, 64, .inl mf))]) (st1 := [.int (((mft (lokP go 0) (wdt 0 W) (wdt 0 H) (nI ((bL W md 3) + x)) (nI ((bT W md 3) + y)) (mus wh (V 0) 0) (mus wh (V 1) 0)) + (mft (lokP gn 0) (wdt 0 W) (wdt 0 H) (nI ((bL W md 3) + x)) (nI ((bT W md 3) + y)) (mus wh (V 2) 0) (mus wh (V 3) 0)) + 1) >>> (1 &&& 31)), .int (mf (y * 8 + x))]) hF (c_X7_fetchedD l D cs tt o mt qu zz nw ol ne se ke re ve ps di lv bd co bt ma W H md th nc ns is ik dc sc wh fa 0 tl bf bo 0 (nI ((bL W md 3) + x)) (nI ((bT W md 3) + y)) go gn V (by decide) hw hw4 hh hh3) gX7_putBlock_X7_fetched rfl (n := 5) (by decide +kernel) rfl ⟨⟨rfl, rfl⟩, Nat.le_of_ble_eq_true rfl, Nat.le_of_ble_eq_true rfl⟩ ⟨Nat.le_of_ble_eq_true rfl, Nat.le_of_ble_eq_true rfl⟩ hX hP hD hS [0, 2, 3, 4] (by decide) rfl [o, ol, ne, ve] rfl rfl (q0 := 0) (ci := 7) rfl rfl rfl hl.1 rfl (Nat.le_of_ble_eq_true rfl) dX7_putBlock_152 rfl rfl (fun Hp locs hP hD hS => ?_)
              refine lv_iadd hx hb dX7_putBlock_155 ?_
              refine lv_istore (lv' := [(9, .int ((mf (y * 8 + x)) + (((mft (lokP go 0) (wdt 0 W) (wdt 0 H) (nI ((bL W md 3) + x)) (nI ((bT W md 3) + y)) (mus wh (V 0) 0) (mus wh (V 1) 0)) + (mft (lokP gn 0) (wdt 0 W) (wdt 0 H) (nI ((bL W md 3) + x)) (nI ((bT W md 3) + y)) (mus wh (V 2) 0) (mus wh (V 3) 0)) + 1) >>> (1 &&& 31)))), (0, .ref o), (2, .int 1), (3, .int 1), (4, .int 0), (5, .int (nI (bL W md 3))), (6, .int (nI (bT W md 3))), (7, .int (nI y)), (8, .int (nI x))]) hx hb dX7_putBlock_156 hl (by decide) rfl (fun ls hl => ?_)
              refine lv_aload_n hx hb dX7_putBlock_158 rfl (lv_at hl 1 rfl) ?_
              refine xget (C := RX7) (T := TX7) (N := 34) hF hX hP (by decide +kernel) 0 6 rfl rfl (by decide) (by decide +kernel) rfl dX7_putBlock_159 ?_
              refine lv_iload hx hb dX7_putBlock_162 (lv_at hl 4 rfl) ?_
              refine lv_iload hx hb dX7_putBlock_164 (lv_at hl 5 rfl) ?_
              refine lv_iload hx hb dX7_putBlock_166 (lv_at hl 8 rfl) ?_
              refine lv_iadd hx hb dX7_putBlock_168 ?_
              refine xrwi (z := nI ((bL W md 3) + x)) (nI_add _ _) ?_
              refine lv_iload hx hb dX7_putBlock_169 (lv_at hl 6 rfl) ?_
              refine lv_iload hx hb dX7_putBlock_171 (lv_at hl 7 rfl) ?_
              refine lv_iadd hx hb dX7_putBlock_173 ?_
              refine xrwi (z := nI ((bT W md 3) + y)) (nI_add _ _) ?_
              refine xSt (rest := [.ref nw]) (As := [.int 0, .int (nI ((bL W md 3) + x)), .int (nI ((bT W md 3) + y))]) (ws1 := [(o, .inr (7, mdF th W H mt qu zz nw ol ne se ke nc ns is ik dc sc 3 md wh fa re ve ps 0 tl di lv bf bo bd co bt ma)), (nw, .inl (cs 0, 4608, .inl (mpB gw W md 3 (mlF W md 3 mf (fun x9 y9 => (((mft (lokP go 0) (wdt 0 W) (wdt 0 H) (nI x9) (nI y9) (mus wh (V 0) 0) (mus wh (V 1) 0)) + (mft (lokP gn 0) (wdt 0 W) (wdt 0 H) (nI x9) (nI y9) (mus wh (V 2) 0) (mus wh (V 3) 0)) + 1) >>> (1 &&& 31)))) (y * 8 + x)))), (ol, .inl (cs 0, 4608, .inl go)), (ne, .inl (cs 0, 4608, .inl gn)), (ve, .inl (cs 0, 4, .inl V)), (ma, .inl (cs 0, 64, .inl mf))]) (st1 := [.int (nI (plc 0 ((bL W md 3) + x) ((bT W md 3) + y))), .ref nw]) hF (c_X7_place l D cs tt 0 ((bL W md 3) + x) ((bT W md 3) + y) (by decide)) gX7_putBlock_X7_place rfl (n := 3) (by decide +kernel) rfl ⟨⟨rfl, rfl⟩, Nat.le_of_ble_eq_true rfl, Nat.le_of_ble_eq_true rfl⟩ ⟨Nat.le_of_ble_eq_true rfl, Nat.le_of_ble_eq_true rfl⟩ hX hP hD hS [] (by decide) rfl [] rfl rfl hl.1 rfl (Nat.le_of_ble_eq_true rfl) dX7_putBlock_174 rfl rfl (fun Hp locs hP hD hS => ?_)
              refine xrwi (z := nI (0 + (((bT W md 3) + y) * 64 + ((bL W md 3) + x)))) (by unfold plc; rw [if_pos rfl]; exact congrArg nI (by omega)) ?_
              refine lv_iload hx hb dX7_putBlock_177 (lv_at hl 0 rfl) ?_
              refine lv_iconst (v := 0) hx hb dX7_putBlock_179 (by decide) ?_
              refine lv_sipush (v := 255) hx hb dX7_putBlock_180 (by decide) ?_
              refine xSt (rest := [.int (nI (0 + (((bT W md 3) + y) * 64 + ((bL W md 3) + x)))), .ref nw]) (As := [.int ((mf (y * 8 + x)) + (((mft (lokP go 0) (wdt 0 W) (wdt 0 H) (nI ((bL W md 3) + x)) (nI ((bT W md 3) + y)) (mus wh (V 0) 0) (mus wh (V 1) 0)) + (mft (lokP gn 0) (wdt 0 W) (wdt 0 H) (nI ((bL W md 3) + x)) (nI ((bT W md 3) + y)) (mus wh (V 2) 0) (mus wh (V 3) 0)) + 1) >>> (1 &&& 31))), .int 0, .int 255]) (ws1 := [(o, .inr (7, mdF th W H mt qu zz nw ol ne se ke nc ns is ik dc sc 3 md wh fa re ve ps 0 tl di lv bf bo bd co bt ma)), (nw, .inl (cs 0, 4608, .inl (mpB gw W md 3 (mlF W md 3 mf (fun x9 y9 => (((mft (lokP go 0) (wdt 0 W) (wdt 0 H) (nI x9) (nI y9) (mus wh (V 0) 0) (mus wh (V 1) 0)) + (mft (lokP gn 0) (wdt 0 W) (wdt 0 H) (nI x9) (nI y9) (mus wh (V 2) 0) (mus wh (V 3) 0)) + 1) >>> (1 &&& 31)))) (y * 8 + x)))), (ol, .inl (cs 0, 4608, .inl go)), (ne, .inl (cs 0, 4608, .inl gn)), (ve, .inl (cs 0, 4, .inl V)), (ma, .inl (cs 0, 64, .inl mf))]) (st1 := [.int (bnd ((mf (y * 8 + x)) + (((mft (lokP go 0) (wdt 0 W) (wdt 0 H) (nI ((bL W md 3) + x)) (nI ((bT W md 3) + y)) (mus wh (V 0) 0) (mus wh (V 1) 0)) + (mft (lokP gn 0) (wdt 0 W) (wdt 0 H) (nI ((bL W md 3) + x)) (nI ((bT W md 3) + y)) (mus wh (V 2) 0) (mus wh (V 3) 0)) + 1) >>> (1 &&& 31))) 0 255), .int (nI (0 + (((bT W md 3) + y) * 64 + ((bL W md 3) + x)))), .ref nw]) hF (c_X7_within l D cs tt ((mf (y * 8 + x)) + (((mft (lokP go 0) (wdt 0 W) (wdt 0 H) (nI ((bL W md 3) + x)) (nI ((bT W md 3) + y)) (mus wh (V 0) 0) (mus wh (V 1) 0)) + (mft (lokP gn 0) (wdt 0 W) (wdt 0 H) (nI ((bL W md 3) + x)) (nI ((bT W md 3) + y)) (mus wh (V 2) 0) (mus wh (V 3) 0)) + 1) >>> (1 &&& 31))) 0 255) gX7_putBlock_X7_within rfl (n := 3) (by decide +kernel) rfl ⟨⟨rfl, rfl⟩, Nat.le_of_ble_eq_true rfl, Nat.le_of_ble_eq_true rfl⟩ ⟨Nat.le_of_ble_eq_true rfl, Nat.le_of_ble_eq_true rfl⟩ hX hP hD hS [] (by decide) rfl [] rfl rfl hl.1 rfl (Nat.le_of_ble_eq_true rfl) dX7_putBlock_183 rfl rfl (fun Hp locs hP hD hS => ?_)
              refine xast (k := 0 + (((bT W md 3) + y) * 64 + ((bL W md 3) + x))) (ws1 := [(o, .inr (7, mdF th W H mt qu zz nw ol ne se ke nc ns is ik dc sc 3 md wh fa re ve ps 0 tl di lv bf bo bd co bt ma)), (nw, .inl (cs 0, 4608, .inl (mpB gw W md 3 (mlF W md 3 mf (fun x9 y9 => (((mft (lokP go 0) (wdt 0 W) (wdt 0 H) (nI x9) (nI y9) (mus wh (V 0) 0) (mus wh (V 1) 0)) + (mft (lokP gn 0) (wdt 0 W) (wdt 0 H) (nI x9) (nI y9) (mus wh (V 2) 0) (mus wh (V 3) 0)) + 1) >>> (1 &&& 31)))) (y * 8 + (x + 1))))), (ol, .inl (cs 0, 4608, .inl go)), (ne, .inl (cs 0, 4608, .inl gn)), (ve, .inl (cs 0, 4, .inl V)), (ma, .inl (cs 0, 64, .inl mf))]) hF hX hP hD hS 1 rfl (nI_clamp (by omega)) (vp_in_nI (by omega) (by decide)) dX7_putBlock_186 (congrArg (fun z9 => ([(o, .inr (7, mdF th W H mt qu zz nw ol ne se ke nc ns is ik dc sc 3 md wh fa re ve ps 0 tl di lv bf bo bd co bt ma)), (nw, .inl (cs 0, 4608, .inl z9)), (ol, .inl (cs 0, 4608, .inl go)), (ne, .inl (cs 0, 4608, .inl gn)), (ve, .inl (cs 0, 4, .inl V)), (ma, .inl (cs 0, 64, .inl mf))] : va_W)) (pbs gw (mlF W md 3 mf (fun x9 y9 => (((mft (lokP go 0) (wdt 0 W) (wdt 0 H) (nI x9) (nI y9) (mus wh (V 0) 0) (mus wh (V 1) 0)) + (mft (lokP gn 0) (wdt 0 W) (wdt 0 H) (nI x9) (nI y9) (mus wh (V 2) 0) (mus wh (V 3) 0)) + 1) >>> (1 &&& 31)))) (by unfold mlF; rw [show ((bT W md 3) + y - (bT W md 3)) * 8 + ((bL W md 3) + x - (bL W md 3)) = y * 8 + x by omega]) hxl (show (bL W md 3) + 8 ≤ 64 by omega))) (fun Hp locs hP hD hS => ?_)
              refine lv_iinc (v := (nI (x + 1))) (lv' := [(8, .int (nI (x + 1))), (9, .int ((mf (y * 8 + x)) + (((mft (lokP go 0) (wdt 0 W) (wdt 0 H) (nI ((bL W md 3) + x)) (nI ((bT W md 3) + y)) (mus wh (V 0) 0) (mus wh (V 1) 0)) + (mft (lokP gn 0) (wdt 0 W) (wdt 0 H) (nI ((bL W md 3) + x)) (nI ((bT W md 3) + y)) (mus wh (V 2) 0) (mus wh (V 3) 0)) + 1) >>> (1 &&& 31)))), (0, .ref o), (2, .int 1), (3, .int 1), (4, .int 0), (5, .int (nI (bL W md 3))), (6, .int (nI (bT W md 3))), (7, .int (nI y))]) hx hb dX7_putBlock_187 hl (k := 8) rfl (nI_1 x) (by decide) rfl (fun ls hl => ?_)
              refine lv_goto (tgt := 101) hx hb dX7_putBlock_190 (by decide) ?_
              exact ih_101 (x + 1) (by omega) (by omega) _ _ _ hP hD hS (lv_sub hl [2, 3, 4, 5, 6, 7, 8, 0] rfl)
        exact loop_101 (8 - 0 + 1) 0 (Nat.lt_succ_self _) (by decide) _ _ _ hP hD hS (lv_sub hl [1, 2, 3, 4, 5, 6, 7, 0] rfl)
  have hP := xeqP hP (congrArg (fun z9 => ([(o, .inr (7, mdF th W H mt qu zz nw ol ne se ke nc ns is ik dc sc 3 md wh fa re ve ps 0 tl di lv bf bo bd co bt ma)), (nw, .inl (cs 0, 4608, .inl z9)), (ol, .inl (cs 0, 4608, .inl go)), (ne, .inl (cs 0, 4608, .inl gn)), (ve, .inl (cs 0, 4, .inl V)), (ma, .inl (cs 0, 64, .inl mf))] : va_W)) ((show gw = mpB gw W md 3 (mlF W md 3 mf (fun x9 y9 => (((mft (lokP go 0) (wdt 0 W) (wdt 0 H) (nI x9) (nI y9) (mus wh (V 0) 0) (mus wh (V 1) 0)) + (mft (lokP gn 0) (wdt 0 W) (wdt 0 H) (nI x9) (nI y9) (mus wh (V 2) 0) (mus wh (V 3) 0)) + 1) >>> (1 &&& 31)))) (0 * 8) from (blkTo_0 gw _ _ _ _ 8 (mlF W md 3 mf (fun x9 y9 => (((mft (lokP go 0) (wdt 0 W) (wdt 0 H) (nI x9) (nI y9) (mus wh (V 0) 0) (mus wh (V 1) 0)) + (mft (lokP gn 0) (wdt 0 W) (wdt 0 H) (nI x9) (nI y9) (mus wh (V 2) 0) (mus wh (V 3) 0)) + 1) >>> (1 &&& 31))))).symm)))
  have hD := xeqD hD (congrArg (fun z9 => ([(o, .inr (7, mdF th W H mt qu zz nw ol ne se ke nc ns is ik dc sc 3 md wh fa re ve ps 0 tl di lv bf bo bd co bt ma)), (nw, .inl (cs 0, 4608, .inl z9)), (ol, .inl (cs 0, 4608, .inl go)), (ne, .inl (cs 0, 4608, .inl gn)), (ve, .inl (cs 0, 4, .inl V)), (ma, .inl (cs 0, 64, .inl mf))] : va_W)) ((show gw = mpB gw W md 3 (mlF W md 3 mf (fun x9 y9 => (((mft (lokP go 0) (wdt 0 W) (wdt 0 H) (nI x9) (nI y9) (mus wh (V 0) 0) (mus wh (V 1) 0)) + (mft (lokP gn 0) (wdt 0 W) (wdt 0 H) (nI x9) (nI y9) (mus wh (V 2) 0) (mus wh (V 3) 0)) + 1) >>> (1 &&& 31)))) (0 * 8) from (blkTo_0 gw _ _ _ _ 8 (mlF W md 3 mf (fun x9 y9 => (((mft (lokP go 0) (wdt 0 W) (wdt 0 H) (nI x9) (nI y9) (mus wh (V 0) 0) (mus wh (V 1) 0)) + (mft (lokP gn 0) (wdt 0 W) (wdt 0 H) (nI x9) (nI y9) (mus wh (V 2) 0) (mus wh (V 3) 0)) + 1) >>> (1 &&& 31))))).symm)))
  exact loop_91 (8 - 0 + 1) 0 (Nat.lt_succ_self _) (by decide) _ _ _ hP hD hS (lv_sub hl [4, 6, 7, 3, 2, 1, 0] rfl)

set_option maxHeartbeats 4000000 in
set_option maxRecDepth 100000 in
theorem c_X7_putBlock4O (l : Launch) (D : va_G) (cs : Nat → ClassId) (tt : Nat → Nat) (o mt qu zz nw ol ne se ke re ve ps di lv bd co bt ma W H md : Nat) (th nc ns is ik dc sc kd wh fa tl bf bo : Int32) (fw bw : Int32) (gw mf : Nat → Int32) (hw : 1 ≤ W) (hw4 : W ≤ 4) (hh : 1 ≤ H) (hh3 : H ≤ 3) (hmd : md < W * H) : xM l yX7_putBlock wsX7_putBlock ({ frames := 4, cells := 0, slots := 0, locals := 104 } : Room) D cs tt [.ref o, .int 4, .int fw, .int bw] [(o, .inr (7, mdF th W H mt qu zz nw ol ne se ke nc ns is ik dc sc kd md wh fa re ve ps 1 tl di lv bf bo bd co bt ma)), (nw, .inl (cs 0, 4608, .inl gw)), (ma, .inl (cs 0, 64, .inl mf))] none [(o, .inr (7, mdF th W H mt qu zz nw ol ne se ke nc ns is ik dc sc kd md wh fa re ve ps 1 tl di lv bf bo bd co bt ma)), (nw, .inl (cs 0, 4608, .inl (mpB gw W md 4 (mlO W md 4 mf) (64)))), (ma, .inl (cs 0, 64, .inl mf))] := by
  refine xM.of RX7 rfl (by decide) rfl (Nat.le_of_ble_eq_true rfl) ?_
  intro p e s m below meth c A ls hF hr hlk hX hP hD hS hl
  have hx := hF.1
  have hb := hF.2.1
  have hl : lv_has ls 10 [(0, .ref o), (1, .int 4), (2, .int fw), (3, .int bw)] := hl
  have hm4 : md < 4096 := Nat.lt_of_lt_of_le hmd (Nat.le_trans (Nat.mul_le_mul hw4 hh3) (by decide))
  have hb9 := b_in hw hmd 4 (by decide)
  have hbl : (bL W md 4) + 8 ≤ 8 * W := hb9.1
  have hbt : (bT W md 4) + 8 ≤ 8 * H := hb9.2
  have hsL : bL W md 4 = bL W md 4 := rfl
  refine lv_iload_n hx hb dX7_putBlock_0 rfl (lv_at hl 1 rfl) ?_
  refine xSt (rest := []) (As := [.int 4]) (ws1 := [(o, .inr (7, mdF th W H mt qu zz nw ol ne se ke nc ns is ik dc sc kd md wh fa re ve ps 1 tl di lv bf bo bd co bt ma)), (nw, .inl (cs 0, 4608, .inl gw)), (ma, .inl (cs 0, 64, .inl mf))]) (st1 := [.int (pln 4)]) hF (c_X7_planeOf l D cs tt 4) gX7_putBlock_X7_planeOf rfl (n := 1) (by decide +kernel) rfl ⟨⟨rfl, rfl⟩, Nat.le_of_ble_eq_true rfl, Nat.le_of_ble_eq_true rfl⟩ ⟨Nat.le_of_ble_eq_true rfl, Nat.le_of_ble_eq_true rfl⟩ hX hP hD hS [] (by decide) rfl [] rfl rfl hl.1 rfl (Nat.le_of_ble_eq_true rfl) dX7_putBlock_1 rfl rfl (fun Hp locs hP hD hS => ?_)
  refine xrwi (z := 1) (by decide) ?_
  refine lv_istore (lv' := [(4, .int 1), (0, .ref o), (1, .int 4), (2, .int fw), (3, .int bw)]) hx hb dX7_putBlock_4 hl (by decide) rfl (fun ls hl => ?_)
  refine lv_iload hx hb dX7_putBlock_6 (lv_at hl 0 rfl) ?_
  refine lv_if_ne (tgt := 33) hx hb dX7_putBlock_8 (by decide) (fun _ => ?_) (fun c_8 => absurd c_8 (by decide))
  refine lv_bipush (v := 8) hx hb dX7_putBlock_33 (by decide) ?_
  refine lv_aload_n hx hb dX7_putBlock_35 rfl (lv_at hl 1 rfl) ?_
  refine xget (C := RX7) (T := TX7) (N := 34) hF hX hP (by decide +kernel) 0 18 rfl rfl (by decide) (by decide +kernel) rfl dX7_putBlock_36 ?_
  refine lv_aload_n hx hb dX7_putBlock_39 rfl (lv_at hl 1 rfl) ?_
  refine xget (C := RX7) (T := TX7) (N := 34) hF hX hP (by decide +kernel) 0 1 rfl rfl (by decide) (by decide +kernel) rfl dX7_putBlock_40 ?_
  refine lv_irem hx hb dX7_putBlock_43 (nI_ne0 (by omega) (by omega)) ?_
  refine xrwi (z := nI (md % W)) (pk_rem (by omega) (by omega) (by omega)) ?_
  refine lv_imul hx hb dX7_putBlock_44 ?_
  refine xrwi (z := nI (bL W md 4)) (by rw [show (8 : Int32) * nI (md % W) = nI (8 * (md % W)) from pk_mul 8 _]; exact congrArg nI (show 8 * (md % W) = bL W md 4 by show _ = md % W * 8; omega)) ?_
  refine lv_istore (lv' := [(5, .int (nI (bL W md 4))), (4, .int 1), (0, .ref o), (1, .int 4), (2, .int fw), (3, .int bw)]) hx hb dX7_putBlock_45 hl (by decide) rfl (fun ls hl => ?_)
  refine lv_iload hx hb dX7_putBlock_47 (lv_at hl 1 rfl) ?_
  refine lv_if_ne (tgt := 74) hx hb dX7_putBlock_49 (by decide) (fun _ => ?_) (fun c_49 => absurd c_49 (by decide))
  refine lv_bipush (v := 8) hx hb dX7_putBlock_74 (by decide) ?_
  refine lv_aload_n hx hb dX7_putBlock_76 rfl (lv_at hl 2 rfl) ?_
  refine xget (C := RX7) (T := TX7) (N := 34) hF hX hP (by decide +kernel) 0 18 rfl rfl (by decide) (by decide +kernel) rfl dX7_putBlock_77 ?_
  refine lv_aload_n hx hb dX7_putBlock_80 rfl (lv_at hl 2 rfl) ?_
  refine xget (C := RX7) (T := TX7) (N := 34) hF hX hP (by decide +kernel) 0 1 rfl rfl (by decide) (by decide +kernel) rfl dX7_putBlock_81 ?_
  refine lv_idiv hx hb dX7_putBlock_84 (nI_ne0 (by omega) (by omega)) ?_
  refine xrwi (z := nI (md / W)) (pk_div (by omega) (by omega) (by omega)) ?_
  refine lv_imul hx hb dX7_putBlock_85 ?_
  refine xrwi (z := nI (bT W md 4)) (by rw [show (8 : Int32) * nI (md / W) = nI (8 * (md / W)) from pk_mul 8 _]; exact congrArg nI (show 8 * (md / W) = bT W md 4 by show _ = md / W * 8; omega)) ?_
  refine lv_istore (lv' := [(6, .int (nI (bT W md 4))), (5, .int (nI (bL W md 4))), (4, .int 1), (0, .ref o), (1, .int 4), (2, .int fw), (3, .int bw)]) hx hb dX7_putBlock_86 hl (by decide) rfl (fun ls hl => ?_)
  refine lv_iconst (v := 0) hx hb dX7_putBlock_88 (by decide) ?_
  refine lv_istore (lv' := [(7, .int 0), (6, .int (nI (bT W md 4))), (5, .int (nI (bL W md 4))), (4, .int 1), (0, .ref o), (1, .int 4), (2, .int fw), (3, .int bw)]) hx hb dX7_putBlock_89 hl (by decide) rfl (fun ls hl => ?_)
  have loop_91 : ∀ (k91 : Nat) (y : Nat), 8 - y < k91 → y ≤ 8 → ∀ (Hp : Heap) (locs : List Loc) (ls : Array Slot), va_P D vwCl [(o, .inr (7, mdF th W H mt qu zz nw ol ne se ke nc ns is ik dc sc kd md wh fa re ve ps 1 tl di lv bf bo bd co bt ma)), (nw, .inl (cs 0, 4608, .inl (mpB gw W md 4 (mlO W md 4 mf) (y * 8)))), (ma, .inl (cs 0, 64, .inl mf))] Hp → va_D A [(o, .inr (7, mdF th W H mt qu zz nw ol ne se ke nc ns is ik dc sc kd md wh fa re ve ps 1 tl di lv bf bo bd co bt ma)), (nw, .inl (cs 0, 4608, .inl (mpB gw W md 4 (mlO W md 4 mf) (y * 8)))), (ma, .inl (cs 0, 64, .inl mf))] → va_S A s.heap Hp locs → lv_has ls 10 [(0, .ref o), (2, .int fw), (3, .int bw), (4, .int 1), (5, .int (nI (bL W md 4))), (6, .int (nI (bT W md 4))), (7, .int (nI y))] → xW p l e ({ frames := 4, cells := 0, slots := 0, locals := 104 } : Room) s m ([.ref o, .int 4, .int fw, .int bw] : List Value).toArray below meth c Hp locs 0 0 (MQ below (xE D A none [(o, .inr (7, mdF th W H mt qu zz nw ol ne se ke nc ns is ik dc sc kd md wh fa re ve ps 1 tl di lv bf bo bd co bt ma)), (nw, .inl (cs 0, 4608, .inl (mpB gw W md 4 (mlO W md 4 mf) (64)))), (ma, .inl (cs 0, 64, .inl mf))]) ([.ref o, .int 4, .int fw, .int bw] : List Value).toArray s 0 0 A) (F0 m 91 ls []) := by
    intro k91
    induction k91 with
    | zero => intro y h9; omega
    | succ k91 ih_91 =>
      intro y hk91 hy9 Hp locs ls hP hD hS hl
      refine lv_iload hx hb dX7_putBlock_91 (lv_at hl 6 rfl) ?_
      refine lv_bipush (v := 8) hx hb dX7_putBlock_93 (by decide) ?_
      refine lv_icmp_ge (tgt := 199) hx hb dX7_putBlock_95 (by decide) (fun c_95 => ?_) (fun c_95 => ?_)
      · have ey : y = 8 := by have := nIle (a := 8) (b := y) rfl rfl (by decide) (by omega) c_95; omega
        have hP := xeqP hP (congrArg (fun z9 => ([(o, .inr (7, mdF th W H mt qu zz nw ol ne se ke nc ns is ik dc sc kd md wh fa re ve ps 1 tl di lv bf bo bd co bt ma)), (nw, .inl (cs 0, 4608, .inl z9)), (ma, .inl (cs 0, 64, .inl mf))] : va_W)) (congrArg (mpB gw W md 4 (mlO W md 4 mf)) (show y * 8 = 64 by omega)))
        have hD := xeqD hD (congrArg (fun z9 => ([(o, .inr (7, mdF th W H mt qu zz nw ol ne se ke nc ns is ik dc sc kd md wh fa re ve ps 1 tl di lv bf bo bd co bt ma)), (nw, .inl (cs 0, 4608, .inl z9)), (ma, .inl (cs 0, 64, .inl mf))] : va_W)) (congrArg (mpB gw W md 4 (mlO W md 4 mf)) (show y * 8 = 64 by omega)))
        exact xrv hF hr hlk hP hD hS dX7_putBlock_199
      · have hyl : y < 8 := nInle (a := 8) (b := y) rfl rfl (by decide) (by omega) c_95
        refine lv_iconst (v := 0) hx hb dX7_putBlock_98 (by decide) ?_
        refine lv_istore (lv' := [(8, .int 0), (0, .ref o), (2, .int fw), (3, .int bw), (4, .int 1), (5, .int (nI (bL W md 4))), (6, .int (nI (bT W md 4))), (7, .int (nI y))]) hx hb dX7_putBlock_99 hl (by decide) rfl (fun ls hl => ?_)
        have loop_101 : ∀ (k101 : Nat) (x : Nat), 8 - x < k101 → x ≤ 8 → ∀ (Hp : Heap) (locs : List Loc) (ls : Array Slot), va_P D vwCl [(o, .inr (7, mdF th W H mt qu zz nw ol ne se ke nc ns is ik dc sc kd md wh fa re ve ps 1 tl di lv bf bo bd co bt ma)), (nw, .inl (cs 0, 4608, .inl (mpB gw W md 4 (mlO W md 4 mf) (y * 8 + x)))), (ma, .inl (cs 0, 64, .inl mf))] Hp → va_D A [(o, .inr (7, mdF th W H mt qu zz nw ol ne se ke nc ns is ik dc sc kd md wh fa re ve ps 1 tl di lv bf bo bd co bt ma)), (nw, .inl (cs 0, 4608, .inl (mpB gw W md 4 (mlO W md 4 mf) (y * 8 + x)))), (ma, .inl (cs 0, 64, .inl mf))] → va_S A s.heap Hp locs → lv_has ls 10 [(0, .ref o), (2, .int fw), (3, .int bw), (4, .int 1), (5, .int (nI (bL W md 4))), (6, .int (nI (bT W md 4))), (7, .int (nI y)), (8, .int (nI x))] → xW p l e ({ frames := 4, cells := 0, slots := 0, locals := 104 } : Room) s m ([.ref o, .int 4, .int fw, .int bw] : List Value).toArray below meth c Hp locs 0 0 (MQ below (xE D A none [(o, .inr (7, mdF th W H mt qu zz nw ol ne se ke nc ns is ik dc sc kd md wh fa re ve ps 1 tl di lv bf bo bd co bt ma)), (nw, .inl (cs 0, 4608, .inl (mpB gw W md 4 (mlO W md 4 mf) (64)))), (ma, .inl (cs 0, 64, .inl mf))]) ([.ref o, .int 4, .int fw, .int bw] : List Value).toArray s 0 0 A) (F0 m 101 ls []) := by
          intro k101
          induction k101 with
          | zero => intro x h9; omega
          | succ k101 ih_101 =>
            intro x hk101 hx9 Hp locs ls hP hD hS hl
            refine lv_iload hx hb dX7_putBlock_101 (lv_at hl 7 rfl) ?_
            refine lv_bipush (v := 8) hx hb dX7_putBlock_103 (by decide) ?_
            refine lv_icmp_ge (tgt := 193) hx hb dX7_putBlock_105 (by decide) (fun c_105 => ?_) (fun c_105 => ?_)
            · have ex : x = 8 := by have := nIle (a := 8) (b := x) rfl rfl (by decide) (by omega) c_105; omega
              have hP := xeqP hP (congrArg (fun z9 => ([(o, .inr (7, mdF th W H mt qu zz nw ol ne se ke nc ns is ik dc sc kd md wh fa re ve ps 1 tl di lv bf bo bd co bt ma)), (nw, .inl (cs 0, 4608, .inl z9)), (ma, .inl (cs 0, 64, .inl mf))] : va_W)) (congrArg (mpB gw W md 4 (mlO W md 4 mf)) (show y * 8 + x = (y + 1) * 8 by omega)))
              have hD := xeqD hD (congrArg (fun z9 => ([(o, .inr (7, mdF th W H mt qu zz nw ol ne se ke nc ns is ik dc sc kd md wh fa re ve ps 1 tl di lv bf bo bd co bt ma)), (nw, .inl (cs 0, 4608, .inl z9)), (ma, .inl (cs 0, 64, .inl mf))] : va_W)) (congrArg (mpB gw W md 4 (mlO W md 4 mf)) (show y * 8 + x = (y + 1) * 8 by omega)))
              refine lv_iinc (v := (nI (y + 1))) (lv' := [(7, .int (nI (y + 1))), (0, .ref o), (2, .int fw), (3, .int bw), (4, .int 1), (5, .int (nI (bL W md 4))), (6, .int (nI (bT W md 4))), (8, .int (nI x))]) hx hb dX7_putBlock_193 hl (k := 6) rfl (nI_1 y) (by decide) rfl (fun ls hl => ?_)
              refine lv_goto (tgt := 91) hx hb dX7_putBlock_196 (by decide) ?_
              exact ih_91 (y + 1) (by omega) (by omega) _ _ _ hP hD hS (lv_sub hl [1, 2, 3, 4, 5, 6, 0] rfl)
            · have hxl : x < 8 := nInle (a := 8) (b := x) rfl rfl (by decide) (by omega) c_105
              refine lv_aload_n hx hb dX7_putBlock_108 rfl (lv_at hl 0 rfl) ?_
              refine xget (C := RX7) (T := TX7) (N := 34) hF hX hP (by decide +kernel) 0 33 rfl rfl (by decide) (by decide +kernel) rfl dX7_putBlock_109 ?_
              refine lv_bipush (v := 8) hx hb dX7_putBlock_112 (by decide) ?_
              refine lv_iload hx hb dX7_putBlock_114 (lv_at hl 6 rfl) ?_
              refine lv_imul hx hb dX7_putBlock_116 ?_
              refine lv_iload hx hb dX7_putBlock_117 (lv_at hl 7 rfl) ?_
              refine lv_iadd hx hb dX7_putBlock_119 ?_
              refine xrwi (z := nI (y * 8 + x)) (k8 y x) ?_
              refine xald (k := y * 8 + x) hF hX hP 2 rfl (nI_clamp (by omega)) (vp_in_nI (by omega) (by decide)) dX7_putBlock_120 ?_
              refine lv_istore (lv' := [(9, .int (mf (y * 8 + x))), (0, .ref o), (2, .int fw), (3, .int bw), (4, .int 1), (5, .int (nI (bL W md 4))), (6, .int (nI (bT W md 4))), (7, .int (nI y)), (8, .int (nI x))]) hx hb dX7_putBlock_121 hl (by decide) rfl (fun ls hl => ?_)
              refine lv_aload_n hx hb dX7_putBlock_123 rfl (lv_at hl 1 rfl) ?_
              refine xget (C := RX7) (T := TX7) (N := 34) hF hX hP (by decide +kernel) 0 24 rfl rfl (by decide) (by decide +kernel) rfl dX7_putBlock_124 ?_
              refine lv_if_eq (tgt := 135) hx hb dX7_putBlock_127 (by decide) (fun c_127 => absurd c_127 (by decide)) (fun _ => ?_)
              refine lv_iload hx hb dX7_putBlock_130 (lv_at hl 0 rfl) ?_
              refine lv_goto (tgt := 156) hx hb dX7_putBlock_132 (by decide) ?_
              refine lv_istore (lv' := [(9, .int (mf (y * 8 + x))), (0, .ref o), (2, .int fw), (3, .int bw), (4, .int 1), (5, .int (nI (bL W md 4))), (6, .int (nI (bT W md 4))), (7, .int (nI y)), (8, .int (nI x))]) hx hb dX7_putBlock_156 hl (by decide) rfl (fun ls hl => ?_)
              refine lv_aload_n hx hb dX7_putBlock_158 rfl (lv_at hl 1 rfl) ?_
              refine xget (C := RX7) (T := TX7) (N := 34) hF hX hP (by decide +kernel) 0 6 rfl rfl (by decide) (by decide +kernel) rfl dX7_putBlock_159 ?_
              refine lv_iload hx hb dX7_putBlock_162 (lv_at hl 4 rfl) ?_
              refine lv_iload hx hb dX7_putBlock_164 (lv_at hl 5 rfl) ?_
              refine lv_iload hx hb dX7_putBlock_166 (lv_at hl 8 rfl) ?_
              refine lv_iadd hx hb dX7_putBlock_168 ?_
              refine xrwi (z := nI ((bL W md 4) + x)) (nI_add _ _) ?_
              refine lv_iload hx hb dX7_putBlock_169 (lv_at hl 6 rfl) ?_
              refine lv_iload hx hb dX7_putBlock_171 (lv_at hl 7 rfl) ?_
              refine lv_iadd hx hb dX7_putBlock_173 ?_
              refine xrwi (z := nI ((bT W md 4) + y)) (nI_add _ _) ?_
              refine xSt (rest := [.ref nw]) (As := [.int 1, .int (nI ((bL W md 4) + x)), .int (nI ((bT W md 4) + y))]) (ws1 := [(o, .inr (7, mdF th W H mt qu zz nw ol ne se ke nc ns is ik dc sc kd md wh fa re ve ps 1 tl di lv bf bo bd co bt ma)), (nw, .inl (cs 0, 4608, .inl (mpB gw W md 4 (mlO W md 4 mf) (y * 8 + x)))), (ma, .inl (cs 0, 64, .inl mf))]) (st1 := [.int (nI (plc 1 ((bL W md 4) + x) ((bT W md 4) + y))), .ref nw]) hF (c_X7_place l D cs tt 1 ((bL W md 4) + x) ((bT W md 4) + y) (by decide)) gX7_putBlock_X7_place rfl (n := 3) (by decide +kernel) rfl ⟨⟨rfl, rfl⟩, Nat.le_of_ble_eq_true rfl, Nat.le_of_ble_eq_true rfl⟩ ⟨Nat.le_of_ble_eq_true rfl, Nat.le_of_ble_eq_true rfl⟩ hX hP hD hS [] (by decide) rfl [] rfl rfl hl.1 rfl (Nat.le_of_ble_eq_true rfl) dX7_putBlock_174 rfl rfl (fun Hp locs hP hD hS => ?_)
              refine xrwi (z := nI (3072 + (((bT W md 4) + y) * 32 + ((bL W md 4) + x)))) (by unfold plc; rw [if_neg (by decide), if_pos rfl]; exact congrArg nI (by omega)) ?_
              refine lv_iload hx hb dX7_putBlock_177 (lv_at hl 0 rfl) ?_
              refine lv_iconst (v := 0) hx hb dX7_putBlock_179 (by decide) ?_
              refine lv_sipush (v := 255) hx hb dX7_putBlock_180 (by decide) ?_
              refine xSt (rest := [.int (nI (3072 + (((bT W md 4) + y) * 32 + ((bL W md 4) + x)))), .ref nw]) (As := [.int (mf (y * 8 + x)), .int 0, .int 255]) (ws1 := [(o, .inr (7, mdF th W H mt qu zz nw ol ne se ke nc ns is ik dc sc kd md wh fa re ve ps 1 tl di lv bf bo bd co bt ma)), (nw, .inl (cs 0, 4608, .inl (mpB gw W md 4 (mlO W md 4 mf) (y * 8 + x)))), (ma, .inl (cs 0, 64, .inl mf))]) (st1 := [.int (bnd (mf (y * 8 + x)) 0 255), .int (nI (3072 + (((bT W md 4) + y) * 32 + ((bL W md 4) + x)))), .ref nw]) hF (c_X7_within l D cs tt (mf (y * 8 + x)) 0 255) gX7_putBlock_X7_within rfl (n := 3) (by decide +kernel) rfl ⟨⟨rfl, rfl⟩, Nat.le_of_ble_eq_true rfl, Nat.le_of_ble_eq_true rfl⟩ ⟨Nat.le_of_ble_eq_true rfl, Nat.le_of_ble_eq_true rfl⟩ hX hP hD hS [] (by decide) rfl [] rfl rfl hl.1 rfl (Nat.le_of_ble_eq_true rfl) dX7_putBlock_183 rfl rfl (fun Hp locs hP hD hS => ?_)
              refine xast (k := 3072 + (((bT W md 4) + y) * 32 + ((bL W md 4) + x))) (ws1 := [(o, .inr (7, mdF th W H mt qu zz nw ol ne se ke nc ns is ik dc sc kd md wh fa re ve ps 1 tl di lv bf bo bd co bt ma)), (nw, .inl (cs 0, 4608, .inl (mpB gw W md 4 (mlO W md 4 mf) (y * 8 + (x + 1))))), (ma, .inl (cs 0, 64, .inl mf))]) hF hX hP hD hS 1 rfl (nI_clamp (by omega)) (vp_in_nI (by omega) (by decide)) dX7_putBlock_186 (congrArg (fun z9 => ([(o, .inr (7, mdF th W H mt qu zz nw ol ne se ke nc ns is ik dc sc kd md wh fa re ve ps 1 tl di lv bf bo bd co bt ma)), (nw, .inl (cs 0, 4608, .inl z9)), (ma, .inl (cs 0, 64, .inl mf))] : va_W)) (pbs gw (mlO W md 4 mf) (by unfold mlO; rw [show ((bT W md 4) + y - (bT W md 4)) * 8 + ((bL W md 4) + x - (bL W md 4)) = y * 8 + x by omega]) hxl (show (bL W md 4) + 8 ≤ 32 by omega))) (fun Hp locs hP hD hS => ?_)
              refine lv_iinc (v := (nI (x + 1))) (lv' := [(8, .int (nI (x + 1))), (9, .int (mf (y * 8 + x))), (0, .ref o), (2, .int fw), (3, .int bw), (4, .int 1), (5, .int (nI (bL W md 4))), (6, .int (nI (bT W md 4))), (7, .int (nI y))]) hx hb dX7_putBlock_187 hl (k := 8) rfl (nI_1 x) (by decide) rfl (fun ls hl => ?_)
              refine lv_goto (tgt := 101) hx hb dX7_putBlock_190 (by decide) ?_
              exact ih_101 (x + 1) (by omega) (by omega) _ _ _ hP hD hS (lv_sub hl [2, 3, 4, 5, 6, 7, 8, 0] rfl)
        exact loop_101 (8 - 0 + 1) 0 (Nat.lt_succ_self _) (by decide) _ _ _ hP hD hS (lv_sub hl [1, 2, 3, 4, 5, 6, 7, 0] rfl)
  have hP := xeqP hP (congrArg (fun z9 => ([(o, .inr (7, mdF th W H mt qu zz nw ol ne se ke nc ns is ik dc sc kd md wh fa re ve ps 1 tl di lv bf bo bd co bt ma)), (nw, .inl (cs 0, 4608, .inl z9)), (ma, .inl (cs 0, 64, .inl mf))] : va_W)) ((show gw = mpB gw W md 4 (mlO W md 4 mf) (0 * 8) from (blkTo_0 gw _ _ _ _ 8 (mlO W md 4 mf)).symm)))
  have hD := xeqD hD (congrArg (fun z9 => ([(o, .inr (7, mdF th W H mt qu zz nw ol ne se ke nc ns is ik dc sc kd md wh fa re ve ps 1 tl di lv bf bo bd co bt ma)), (nw, .inl (cs 0, 4608, .inl z9)), (ma, .inl (cs 0, 64, .inl mf))] : va_W)) ((show gw = mpB gw W md 4 (mlO W md 4 mf) (0 * 8) from (blkTo_0 gw _ _ _ _ 8 (mlO W md 4 mf)).symm)))
  exact loop_91 (8 - 0 + 1) 0 (Nat.lt_succ_self _) (by decide) _ _ _ hP hD hS (lv_sub hl [4, 6, 7, 3, 2, 1, 0] rfl)

set_option maxHeartbeats 4000000 in
set_option maxRecDepth 100000 in
theorem c_X7_putBlock4A (l : Launch) (D : va_G) (cs : Nat → ClassId) (tt : Nat → Nat) (o mt qu zz nw ol ne se ke re ve ps di lv bd co bt ma W H md : Nat) (th nc ns is ik dc sc wh fa tl bf bo : Int32) (gw mf go gn V : Nat → Int32) (hw : 1 ≤ W) (hw4 : W ≤ 4) (hh : 1 ≤ H) (hh3 : H ≤ 3) (hmd : md < W * H) : xM l yX7_putBlock wsX7_putBlock ({ frames := 4, cells := 0, slots := 0, locals := 104 } : Room) D cs tt [.ref o, .int 4, .int 1, .int 0] [(o, .inr (7, mdF th W H mt qu zz nw ol ne se ke nc ns is ik dc sc 2 md wh fa re ve ps 0 tl di lv bf bo bd co bt ma)), (nw, .inl (cs 0, 4608, .inl gw)), (ol, .inl (cs 0, 4608, .inl go)), (ne, .inl (cs 0, 4608, .inl gn)), (ve, .inl (cs 0, 4, .inl V)), (ma, .inl (cs 0, 64, .inl mf))] none [(o, .inr (7, mdF th W H mt qu zz nw ol ne se ke nc ns is ik dc sc 2 md wh fa re ve ps 0 tl di lv bf bo bd co bt ma)), (nw, .inl (cs 0, 4608, .inl (mpB gw W md 4 (mlF W md 4 mf (fun x9 y9 => (mft (lokP gn 1) (wdt 1 W) (wdt 1 H) (nI x9) (nI y9) (mus wh (V 0) 1) (mus wh (V 1) 1)))) (64)))), (ol, .inl (cs 0, 4608, .inl go)), (ne, .inl (cs 0, 4608, .inl gn)), (ve, .inl (cs 0, 4, .inl V)), (ma, .inl (cs 0, 64, .inl mf))] := by
  refine xM.of RX7 rfl (by decide) rfl (Nat.le_of_ble_eq_true rfl) ?_
  intro p e s m below meth c A ls hF hr hlk hX hP hD hS hl
  have hx := hF.1
  have hb := hF.2.1
  have hl : lv_has ls 10 [(0, .ref o), (1, .int 4), (2, .int 1), (3, .int 0)] := hl
  have hm4 : md < 4096 := Nat.lt_of_lt_of_le hmd (Nat.le_trans (Nat.mul_le_mul hw4 hh3) (by decide))
  have hb9 := b_in hw hmd 4 (by decide)
  have hbl : (bL W md 4) + 8 ≤ 8 * W := hb9.1
  have hbt : (bT W md 4) + 8 ≤ 8 * H := hb9.2
  have hsL : bL W md 4 = bL W md 4 := rfl
  refine lv_iload_n hx hb dX7_putBlock_0 rfl (lv_at hl 1 rfl) ?_
  refine xSt (rest := []) (As := [.int 4]) (ws1 := [(o, .inr (7, mdF th W H mt qu zz nw ol ne se ke nc ns is ik dc sc 2 md wh fa re ve ps 0 tl di lv bf bo bd co bt ma)), (nw, .inl (cs 0, 4608, .inl gw)), (ol, .inl (cs 0, 4608, .inl go)), (ne, .inl (cs 0, 4608, .inl gn)), (ve, .inl (cs 0, 4, .inl V)), (ma, .inl (cs 0, 64, .inl mf))]) (st1 := [.int (pln 4)]) hF (c_X7_planeOf l D cs tt 4) gX7_putBlock_X7_planeOf rfl (n := 1) (by decide +kernel) rfl ⟨⟨rfl, rfl⟩, Nat.le_of_ble_eq_true rfl, Nat.le_of_ble_eq_true rfl⟩ ⟨Nat.le_of_ble_eq_true rfl, Nat.le_of_ble_eq_true rfl⟩ hX hP hD hS [] (by decide) rfl [] rfl rfl hl.1 rfl (Nat.le_of_ble_eq_true rfl) dX7_putBlock_1 rfl rfl (fun Hp locs hP hD hS => ?_)
  refine xrwi (z := 1) (by decide) ?_
  refine lv_istore (lv' := [(4, .int 1), (0, .ref o), (1, .int 4), (2, .int 1), (3, .int 0)]) hx hb dX7_putBlock_4 hl (by decide) rfl (fun ls hl => ?_)
  refine lv_iload hx hb dX7_putBlock_6 (lv_at hl 0 rfl) ?_
  refine lv_if_ne (tgt := 33) hx hb dX7_putBlock_8 (by decide) (fun _ => ?_) (fun c_8 => absurd c_8 (by decide))
  refine lv_bipush (v := 8) hx hb dX7_putBlock_33 (by decide) ?_
  refine lv_aload_n hx hb dX7_putBlock_35 rfl (lv_at hl 1 rfl) ?_
  refine xget (C := RX7) (T := TX7) (N := 34) hF hX hP (by decide +kernel) 0 18 rfl rfl (by decide) (by decide +kernel) rfl dX7_putBlock_36 ?_
  refine lv_aload_n hx hb dX7_putBlock_39 rfl (lv_at hl 1 rfl) ?_
  refine xget (C := RX7) (T := TX7) (N := 34) hF hX hP (by decide +kernel) 0 1 rfl rfl (by decide) (by decide +kernel) rfl dX7_putBlock_40 ?_
  refine lv_irem hx hb dX7_putBlock_43 (nI_ne0 (by omega) (by omega)) ?_
  refine xrwi (z := nI (md % W)) (pk_rem (by omega) (by omega) (by omega)) ?_
  refine lv_imul hx hb dX7_putBlock_44 ?_
  refine xrwi (z := nI (bL W md 4)) (by rw [show (8 : Int32) * nI (md % W) = nI (8 * (md % W)) from pk_mul 8 _]; exact congrArg nI (show 8 * (md % W) = bL W md 4 by show _ = md % W * 8; omega)) ?_
  refine lv_istore (lv' := [(5, .int (nI (bL W md 4))), (4, .int 1), (0, .ref o), (1, .int 4), (2, .int 1), (3, .int 0)]) hx hb dX7_putBlock_45 hl (by decide) rfl (fun ls hl => ?_)
  refine lv_iload hx hb dX7_putBlock_47 (lv_at hl 1 rfl) ?_
  refine lv_if_ne (tgt := 74) hx hb dX7_putBlock_49 (by decide) (fun _ => ?_) (fun c_49 => absurd c_49 (by decide))
  refine lv_bipush (v := 8) hx hb dX7_putBlock_74 (by decide) ?_
  refine lv_aload_n hx hb dX7_putBlock_76 rfl (lv_at hl 2 rfl) ?_
  refine xget (C := RX7) (T := TX7) (N := 34) hF hX hP (by decide +kernel) 0 18 rfl rfl (by decide) (by decide +kernel) rfl dX7_putBlock_77 ?_
  refine lv_aload_n hx hb dX7_putBlock_80 rfl (lv_at hl 2 rfl) ?_
  refine xget (C := RX7) (T := TX7) (N := 34) hF hX hP (by decide +kernel) 0 1 rfl rfl (by decide) (by decide +kernel) rfl dX7_putBlock_81 ?_
  refine lv_idiv hx hb dX7_putBlock_84 (nI_ne0 (by omega) (by omega)) ?_
  refine xrwi (z := nI (md / W)) (pk_div (by omega) (by omega) (by omega)) ?_
  refine lv_imul hx hb dX7_putBlock_85 ?_
  refine xrwi (z := nI (bT W md 4)) (by rw [show (8 : Int32) * nI (md / W) = nI (8 * (md / W)) from pk_mul 8 _]; exact congrArg nI (show 8 * (md / W) = bT W md 4 by show _ = md / W * 8; omega)) ?_
  refine lv_istore (lv' := [(6, .int (nI (bT W md 4))), (5, .int (nI (bL W md 4))), (4, .int 1), (0, .ref o), (1, .int 4), (2, .int 1), (3, .int 0)]) hx hb dX7_putBlock_86 hl (by decide) rfl (fun ls hl => ?_)
  refine lv_iconst (v := 0) hx hb dX7_putBlock_88 (by decide) ?_
  refine lv_istore (lv' := [(7, .int 0), (6, .int (nI (bT W md 4))), (5, .int (nI (bL W md 4))), (4, .int 1), (0, .ref o), (1, .int 4), (2, .int 1), (3, .int 0)]) hx hb dX7_putBlock_89 hl (by decide) rfl (fun ls hl => ?_)
  have loop_91 : ∀ (k91 : Nat) (y : Nat), 8 - y < k91 → y ≤ 8 → ∀ (Hp : Heap) (locs : List Loc) (ls : Array Slot), va_P D vwCl [(o, .inr (7, mdF th W H mt qu zz nw ol ne se ke nc ns is ik dc sc 2 md wh fa re ve ps 0 tl di lv bf bo bd co bt ma)), (nw, .inl (cs 0, 4608, .inl (mpB gw W md 4 (mlF W md 4 mf (fun x9 y9 => (mft (lokP gn 1) (wdt 1 W) (wdt 1 H) (nI x9) (nI y9) (mus wh (V 0) 1) (mus wh (V 1) 1)))) (y * 8)))), (ol, .inl (cs 0, 4608, .inl go)), (ne, .inl (cs 0, 4608, .inl gn)), (ve, .inl (cs 0, 4, .inl V)), (ma, .inl (cs 0, 64, .inl mf))] Hp → va_D A [(o, .inr (7, mdF th W H mt qu zz nw ol ne se ke nc ns is ik dc sc 2 md wh fa re ve ps 0 tl di lv bf bo bd co bt ma)), (nw, .inl (cs 0, 4608, .inl (mpB gw W md 4 (mlF W md 4 mf (fun x9 y9 => (mft (lokP gn 1) (wdt 1 W) (wdt 1 H) (nI x9) (nI y9) (mus wh (V 0) 1) (mus wh (V 1) 1)))) (y * 8)))), (ol, .inl (cs 0, 4608, .inl go)), (ne, .inl (cs 0, 4608, .inl gn)), (ve, .inl (cs 0, 4, .inl V)), (ma, .inl (cs 0, 64, .inl mf))] → va_S A s.heap Hp locs → lv_has ls 10 [(0, .ref o), (2, .int 1), (3, .int 0), (4, .int 1), (5, .int (nI (bL W md 4))), (6, .int (nI (bT W md 4))), (7, .int (nI y))] → xW p l e ({ frames := 4, cells := 0, slots := 0, locals := 104 } : Room) s m ([.ref o, .int 4, .int 1, .int 0] : List Value).toArray below meth c Hp locs 0 0 (MQ below (xE D A none [(o, .inr (7, mdF th W H mt qu zz nw ol ne se ke nc ns is ik dc sc 2 md wh fa re ve ps 0 tl di lv bf bo bd co bt ma)), (nw, .inl (cs 0, 4608, .inl (mpB gw W md 4 (mlF W md 4 mf (fun x9 y9 => (mft (lokP gn 1) (wdt 1 W) (wdt 1 H) (nI x9) (nI y9) (mus wh (V 0) 1) (mus wh (V 1) 1)))) (64)))), (ol, .inl (cs 0, 4608, .inl go)), (ne, .inl (cs 0, 4608, .inl gn)), (ve, .inl (cs 0, 4, .inl V)), (ma, .inl (cs 0, 64, .inl mf))]) ([.ref o, .int 4, .int 1, .int 0] : List Value).toArray s 0 0 A) (F0 m 91 ls []) := by
    intro k91
    induction k91 with
    | zero => intro y h9; omega
    | succ k91 ih_91 =>
      intro y hk91 hy9 Hp locs ls hP hD hS hl
      refine lv_iload hx hb dX7_putBlock_91 (lv_at hl 6 rfl) ?_
      refine lv_bipush (v := 8) hx hb dX7_putBlock_93 (by decide) ?_
      refine lv_icmp_ge (tgt := 199) hx hb dX7_putBlock_95 (by decide) (fun c_95 => ?_) (fun c_95 => ?_)
      · have ey : y = 8 := by have := nIle (a := 8) (b := y) rfl rfl (by decide) (by omega) c_95; omega
        have hP := xeqP hP (congrArg (fun z9 => ([(o, .inr (7, mdF th W H mt qu zz nw ol ne se ke nc ns is ik dc sc 2 md wh fa re ve ps 0 tl di lv bf bo bd co bt ma)), (nw, .inl (cs 0, 4608, .inl z9)), (ol, .inl (cs 0, 4608, .inl go)), (ne, .inl (cs 0, 4608, .inl gn)), (ve, .inl (cs 0, 4, .inl V)), (ma, .inl (cs 0, 64, .inl mf))] : va_W)) (congrArg (mpB gw W md 4 (mlF W md 4 mf (fun x9 y9 => (mft (lokP gn 1) (wdt 1 W) (wdt 1 H) (nI x9) (nI y9) (mus wh (V 0) 1) (mus wh (V 1) 1))))) (show y * 8 = 64 by omega)))
        have hD := xeqD hD (congrArg (fun z9 => ([(o, .inr (7, mdF th W H mt qu zz nw ol ne se ke nc ns is ik dc sc 2 md wh fa re ve ps 0 tl di lv bf bo bd co bt ma)), (nw, .inl (cs 0, 4608, .inl z9)), (ol, .inl (cs 0, 4608, .inl go)), (ne, .inl (cs 0, 4608, .inl gn)), (ve, .inl (cs 0, 4, .inl V)), (ma, .inl (cs 0, 64, .inl mf))] : va_W)) (congrArg (mpB gw W md 4 (mlF W md 4 mf (fun x9 y9 => (mft (lokP gn 1) (wdt 1 W) (wdt 1 H) (nI x9) (nI y9) (mus wh (V 0) 1) (mus wh (V 1) 1))))) (show y * 8 = 64 by omega)))
        exact xrv hF hr hlk hP hD hS dX7_putBlock_199
      · have hyl : y < 8 := nInle (a := 8) (b := y) rfl rfl (by decide) (by omega) c_95
        refine lv_iconst (v := 0) hx hb dX7_putBlock_98 (by decide) ?_
        refine lv_istore (lv' := [(8, .int 0), (0, .ref o), (2, .int 1), (3, .int 0), (4, .int 1), (5, .int (nI (bL W md 4))), (6, .int (nI (bT W md 4))), (7, .int (nI y))]) hx hb dX7_putBlock_99 hl (by decide) rfl (fun ls hl => ?_)
        have loop_101 : ∀ (k101 : Nat) (x : Nat), 8 - x < k101 → x ≤ 8 → ∀ (Hp : Heap) (locs : List Loc) (ls : Array Slot), va_P D vwCl [(o, .inr (7, mdF th W H mt qu zz nw ol ne se ke nc ns is ik dc sc 2 md wh fa re ve ps 0 tl di lv bf bo bd co bt ma)), (nw, .inl (cs 0, 4608, .inl (mpB gw W md 4 (mlF W md 4 mf (fun x9 y9 => (mft (lokP gn 1) (wdt 1 W) (wdt 1 H) (nI x9) (nI y9) (mus wh (V 0) 1) (mus wh (V 1) 1)))) (y * 8 + x)))), (ol, .inl (cs 0, 4608, .inl go)), (ne, .inl (cs 0, 4608, .inl gn)), (ve, .inl (cs 0, 4, .inl V)), (ma, .inl (cs 0, 64, .inl mf))] Hp → va_D A [(o, .inr (7, mdF th W H mt qu zz nw ol ne se ke nc ns is ik dc sc 2 md wh fa re ve ps 0 tl di lv bf bo bd co bt ma)), (nw, .inl (cs 0, 4608, .inl (mpB gw W md 4 (mlF W md 4 mf (fun x9 y9 => (mft (lokP gn 1) (wdt 1 W) (wdt 1 H) (nI x9) (nI y9) (mus wh (V 0) 1) (mus wh (V 1) 1)))) (y * 8 + x)))), (ol, .inl (cs 0, 4608, .inl go)), (ne, .inl (cs 0, 4608, .inl gn)), (ve, .inl (cs 0, 4, .inl V)), (ma, .inl (cs 0, 64, .inl mf))] → va_S A s.heap Hp locs → lv_has ls 10 [(0, .ref o), (2, .int 1), (3, .int 0), (4, .int 1), (5, .int (nI (bL W md 4))), (6, .int (nI (bT W md 4))), (7, .int (nI y)), (8, .int (nI x))] → xW p l e ({ frames := 4, cells := 0, slots := 0, locals := 104 } : Room) s m ([.ref o, .int 4, .int 1, .int 0] : List Value).toArray below meth c Hp locs 0 0 (MQ below (xE D A none [(o, .inr (7, mdF th W H mt qu zz nw ol ne se ke nc ns is ik dc sc 2 md wh fa re ve ps 0 tl di lv bf bo bd co bt ma)), (nw, .inl (cs 0, 4608, .inl (mpB gw W md 4 (mlF W md 4 mf (fun x9 y9 => (mft (lokP gn 1) (wdt 1 W) (wdt 1 H) (nI x9) (nI y9) (mus wh (V 0) 1) (mus wh (V 1) 1)))) (64)))), (ol, .inl (cs 0, 4608, .inl go)), (ne, .inl (cs 0, 4608, .inl gn)), (ve, .inl (cs 0, 4, .inl V)), (ma, .inl (cs 0, 64, .inl mf))]) ([.ref o, .int 4, .int 1, .int 0] : List Value).toArray s 0 0 A) (F0 m 101 ls []) := by
          intro k101
          induction k101 with
          | zero => intro x h9; omega
          | succ k101 ih_101 =>
            intro x hk101 hx9 Hp locs ls hP hD hS hl
            refine lv_iload hx hb dX7_putBlock_101 (lv_at hl 7 rfl) ?_
            refine lv_bipush (v := 8) hx hb dX7_putBlock_103 (by decide) ?_
            refine lv_icmp_ge (tgt := 193) hx hb dX7_putBlock_105 (by decide) (fun c_105 => ?_) (fun c_105 => ?_)
            · have ex : x = 8 := by have := nIle (a := 8) (b := x) rfl rfl (by decide) (by omega) c_105; omega
              have hP := xeqP hP (congrArg (fun z9 => ([(o, .inr (7, mdF th W H mt qu zz nw ol ne se ke nc ns is ik dc sc 2 md wh fa re ve ps 0 tl di lv bf bo bd co bt ma)), (nw, .inl (cs 0, 4608, .inl z9)), (ol, .inl (cs 0, 4608, .inl go)), (ne, .inl (cs 0, 4608, .inl gn)), (ve, .inl (cs 0, 4, .inl V)), (ma, .inl (cs 0, 64, .inl mf))] : va_W)) (congrArg (mpB gw W md 4 (mlF W md 4 mf (fun x9 y9 => (mft (lokP gn 1) (wdt 1 W) (wdt 1 H) (nI x9) (nI y9) (mus wh (V 0) 1) (mus wh (V 1) 1))))) (show y * 8 + x = (y + 1) * 8 by omega)))
              have hD := xeqD hD (congrArg (fun z9 => ([(o, .inr (7, mdF th W H mt qu zz nw ol ne se ke nc ns is ik dc sc 2 md wh fa re ve ps 0 tl di lv bf bo bd co bt ma)), (nw, .inl (cs 0, 4608, .inl z9)), (ol, .inl (cs 0, 4608, .inl go)), (ne, .inl (cs 0, 4608, .inl gn)), (ve, .inl (cs 0, 4, .inl V)), (ma, .inl (cs 0, 64, .inl mf))] : va_W)) (congrArg (mpB gw W md 4 (mlF W md 4 mf (fun x9 y9 => (mft (lokP gn 1) (wdt 1 W) (wdt 1 H) (nI x9) (nI y9) (mus wh (V 0) 1) (mus wh (V 1) 1))))) (show y * 8 + x = (y + 1) * 8 by omega)))
              refine lv_iinc (v := (nI (y + 1))) (lv' := [(7, .int (nI (y + 1))), (0, .ref o), (2, .int 1), (3, .int 0), (4, .int 1), (5, .int (nI (bL W md 4))), (6, .int (nI (bT W md 4))), (8, .int (nI x))]) hx hb dX7_putBlock_193 hl (k := 6) rfl (nI_1 y) (by decide) rfl (fun ls hl => ?_)
              refine lv_goto (tgt := 91) hx hb dX7_putBlock_196 (by decide) ?_
              exact ih_91 (y + 1) (by omega) (by omega) _ _ _ hP hD hS (lv_sub hl [1, 2, 3, 4, 5, 6, 0] rfl)
            · have hxl : x < 8 := nInle (a := 8) (b := x) rfl rfl (by decide) (by omega) c_105
              refine lv_aload_n hx hb dX7_putBlock_108 rfl (lv_at hl 0 rfl) ?_
              refine xget (C := RX7) (T := TX7) (N := 34) hF hX hP (by decide +kernel) 0 33 rfl rfl (by decide) (by decide +kernel) rfl dX7_putBlock_109 ?_
              refine lv_bipush (v := 8) hx hb dX7_putBlock_112 (by decide) ?_
              refine lv_iload hx hb dX7_putBlock_114 (lv_at hl 6 rfl) ?_
              refine lv_imul hx hb dX7_putBlock_116 ?_
              refine lv_iload hx hb dX7_putBlock_117 (lv_at hl 7 rfl) ?_
              refine lv_iadd hx hb dX7_putBlock_119 ?_
              refine xrwi (z := nI (y * 8 + x)) (k8 y x) ?_
              refine xald (k := y * 8 + x) hF hX hP 5 rfl (nI_clamp (by omega)) (vp_in_nI (by omega) (by decide)) dX7_putBlock_120 ?_
              refine lv_istore (lv' := [(9, .int (mf (y * 8 + x))), (0, .ref o), (2, .int 1), (3, .int 0), (4, .int 1), (5, .int (nI (bL W md 4))), (6, .int (nI (bT W md 4))), (7, .int (nI y)), (8, .int (nI x))]) hx hb dX7_putBlock_121 hl (by decide) rfl (fun ls hl => ?_)
              refine lv_aload_n hx hb dX7_putBlock_123 rfl (lv_at hl 1 rfl) ?_
              refine xget (C := RX7) (T := TX7) (N := 34) hF hX hP (by decide +kernel) 0 24 rfl rfl (by decide) (by decide +kernel) rfl dX7_putBlock_124 ?_
              refine lv_if_eq (tgt := 135) hx hb dX7_putBlock_127 (by decide) (fun _ => ?_) (fun c_127 => absurd (by decide) c_127)
              refine lv_iload hx hb dX7_putBlock_135 (lv_at hl 0 rfl) ?_
              refine lv_aload_n hx hb dX7_putBlock_137 rfl (lv_at hl 1 rfl) ?_
              refine lv_iload_n hx hb dX7_putBlock_138 rfl (lv_at hl 2 rfl) ?_
              refine lv_iload_n hx hb dX7_putBlock_139 rfl (lv_at hl 3 rfl) ?_
              refine lv_iload hx hb dX7_putBlock_140 (lv_at hl 4 rfl) ?_
              refine lv_iload hx hb dX7_putBlock_142 (lv_at hl 5 rfl) ?_
              refine lv_iload hx hb dX7_putBlock_144 (lv_at hl 8 rfl) ?_
              refine lv_iadd hx hb dX7_putBlock_146 ?_
              refine xrwi (z := nI ((bL W md 4) + x)) (nI_add _ _) ?_
              refine lv_iload hx hb dX7_putBlock_147 (lv_at hl 6 rfl) ?_
              refine lv_iload hx hb dX7_putBlock_149 (lv_at hl 7 rfl) ?_
              refine lv_iadd hx hb dX7_putBlock_151 ?_
              refine xrwi (z := nI ((bT W md 4) + y)) (nI_add _ _) ?_
              refine xV (rest := [.int (mf (y * 8 + x))]) (As := [.int 1, .int 0, .int 1, .int (nI ((bL W md 4) + x)), .int (nI ((bT W md 4) + y))]) (ws1 := [(o, .inr (7, mdF th W H mt qu zz nw ol ne se ke nc ns is ik dc sc 2 md wh fa re ve ps 0 tl di lv bf bo bd co bt ma)), (nw, .inl (cs 0, 4608, .inl (mpB gw W md 4 (mlF W md 4 mf (fun x9 y9 => (mft (lokP gn 1) (wdt 1 W) (wdt 1 H) (nI x9) (nI y9) (mus wh (V 0) 1) (mus wh (V 1) 1)))) (y * 8 + x)))), (ol, .inl (cs 0, 4608, .inl go)), (ne, .inl (cs 0, 4608, .inl gn)), (ve, .inl (cs 0, 4, .inl V)), (ma, .inl (cs 0, 64, .inl mf))]) (st1 := [.int (mft (lokP gn 1) (wdt 1 W) (wdt 1 H) (nI ((bL W md 4) + x)) (nI ((bT W md 4) + y)) (mus wh (V 0) 1) (mus wh (V 1) 1)), .int (mf (y * 8 + x))]) hF (c_X7_fetchedA l D cs tt o mt qu zz nw ol ne se ke re ve ps di lv bd co bt ma W H md th nc ns is ik dc sc wh fa 0 tl bf bo 1 (nI ((bL W md 4) + x)) (nI ((bT W md 4) + y)) go gn V (by decide) hw hw4 hh hh3) gX7_putBlock_X7_fetched rfl (n := 5) (by decide +kernel) rfl ⟨⟨rfl, rfl⟩, Nat.le_of_ble_eq_true rfl, Nat.le_of_ble_eq_true rfl⟩ ⟨Nat.le_of_ble_eq_true rfl, Nat.le_of_ble_eq_true rfl⟩ hX hP hD hS [0, 2, 3, 4] (by decide) rfl [o, ol, ne, ve] rfl rfl (q0 := 0) (ci := 7) rfl rfl rfl hl.1 rfl (Nat.le_of_ble_eq_true rfl) dX7_putBlock_152 rfl rfl (fun Hp locs hP hD hS => ?_)
              refine lv_iadd hx hb dX7_putBlock_155 ?_
              refine lv_istore (lv' := [(9, .int ((mf (y * 8 + x)) + (mft (lokP gn 1) (wdt 1 W) (wdt 1 H) (nI ((bL W md 4) + x)) (nI ((bT W md 4) + y)) (mus wh (V 0) 1) (mus wh (V 1) 1)))), (0, .ref o), (2, .int 1), (3, .int 0), (4, .int 1), (5, .int (nI (bL W md 4))), (6, .int (nI (bT W md 4))), (7, .int (nI y)), (8, .int (nI x))]) hx hb dX7_putBlock_156 hl (by decide) rfl (fun ls hl => ?_)
              refine lv_aload_n hx hb dX7_putBlock_158 rfl (lv_at hl 1 rfl) ?_
              refine xget (C := RX7) (T := TX7) (N := 34) hF hX hP (by decide +kernel) 0 6 rfl rfl (by decide) (by decide +kernel) rfl dX7_putBlock_159 ?_
              refine lv_iload hx hb dX7_putBlock_162 (lv_at hl 4 rfl) ?_
              refine lv_iload hx hb dX7_putBlock_164 (lv_at hl 5 rfl) ?_
              refine lv_iload hx hb dX7_putBlock_166 (lv_at hl 8 rfl) ?_
              refine lv_iadd hx hb dX7_putBlock_168 ?_
              refine xrwi (z := nI ((bL W md 4) + x)) (nI_add _ _) ?_
              refine lv_iload hx hb dX7_putBlock_169 (lv_at hl 6 rfl) ?_
              refine lv_iload hx hb dX7_putBlock_171 (lv_at hl 7 rfl) ?_
              refine lv_iadd hx hb dX7_putBlock_173 ?_
              refine xrwi (z := nI ((bT W md 4) + y)) (nI_add _ _) ?_
              refine xSt (rest := [.ref nw]) (As := [.int 1, .int (nI ((bL W md 4) + x)), .int (nI ((bT W md 4) + y))]) (ws1 := [(o, .inr (7, mdF th W H mt qu zz nw ol ne se ke nc ns is ik dc sc 2 md wh fa re ve ps 0 tl di lv bf bo bd co bt ma)), (nw, .inl (cs 0, 4608, .inl (mpB gw W md 4 (mlF W md 4 mf (fun x9 y9 => (mft (lokP gn 1) (wdt 1 W) (wdt 1 H) (nI x9) (nI y9) (mus wh (V 0) 1) (mus wh (V 1) 1)))) (y * 8 + x)))), (ol, .inl (cs 0, 4608, .inl go)), (ne, .inl (cs 0, 4608, .inl gn)), (ve, .inl (cs 0, 4, .inl V)), (ma, .inl (cs 0, 64, .inl mf))]) (st1 := [.int (nI (plc 1 ((bL W md 4) + x) ((bT W md 4) + y))), .ref nw]) hF (c_X7_place l D cs tt 1 ((bL W md 4) + x) ((bT W md 4) + y) (by decide)) gX7_putBlock_X7_place rfl (n := 3) (by decide +kernel) rfl ⟨⟨rfl, rfl⟩, Nat.le_of_ble_eq_true rfl, Nat.le_of_ble_eq_true rfl⟩ ⟨Nat.le_of_ble_eq_true rfl, Nat.le_of_ble_eq_true rfl⟩ hX hP hD hS [] (by decide) rfl [] rfl rfl hl.1 rfl (Nat.le_of_ble_eq_true rfl) dX7_putBlock_174 rfl rfl (fun Hp locs hP hD hS => ?_)
              refine xrwi (z := nI (3072 + (((bT W md 4) + y) * 32 + ((bL W md 4) + x)))) (by unfold plc; rw [if_neg (by decide), if_pos rfl]; exact congrArg nI (by omega)) ?_
              refine lv_iload hx hb dX7_putBlock_177 (lv_at hl 0 rfl) ?_
              refine lv_iconst (v := 0) hx hb dX7_putBlock_179 (by decide) ?_
              refine lv_sipush (v := 255) hx hb dX7_putBlock_180 (by decide) ?_
              refine xSt (rest := [.int (nI (3072 + (((bT W md 4) + y) * 32 + ((bL W md 4) + x)))), .ref nw]) (As := [.int ((mf (y * 8 + x)) + (mft (lokP gn 1) (wdt 1 W) (wdt 1 H) (nI ((bL W md 4) + x)) (nI ((bT W md 4) + y)) (mus wh (V 0) 1) (mus wh (V 1) 1))), .int 0, .int 255]) (ws1 := [(o, .inr (7, mdF th W H mt qu zz nw ol ne se ke nc ns is ik dc sc 2 md wh fa re ve ps 0 tl di lv bf bo bd co bt ma)), (nw, .inl (cs 0, 4608, .inl (mpB gw W md 4 (mlF W md 4 mf (fun x9 y9 => (mft (lokP gn 1) (wdt 1 W) (wdt 1 H) (nI x9) (nI y9) (mus wh (V 0) 1) (mus wh (V 1) 1)))) (y * 8 + x)))), (ol, .inl (cs 0, 4608, .inl go)), (ne, .inl (cs 0, 4608, .inl gn)), (ve, .inl (cs 0, 4, .inl V)), (ma, .inl (cs 0, 64, .inl mf))]) (st1 := [.int (bnd ((mf (y * 8 + x)) + (mft (lokP gn 1) (wdt 1 W) (wdt 1 H) (nI ((bL W md 4) + x)) (nI ((bT W md 4) + y)) (mus wh (V 0) 1) (mus wh (V 1) 1))) 0 255), .int (nI (3072 + (((bT W md 4) + y) * 32 + ((bL W md 4) + x)))), .ref nw]) hF (c_X7_within l D cs tt ((mf (y * 8 + x)) + (mft (lokP gn 1) (wdt 1 W) (wdt 1 H) (nI ((bL W md 4) + x)) (nI ((bT W md 4) + y)) (mus wh (V 0) 1) (mus wh (V 1) 1))) 0 255) gX7_putBlock_X7_within rfl (n := 3) (by decide +kernel) rfl ⟨⟨rfl, rfl⟩, Nat.le_of_ble_eq_true rfl, Nat.le_of_ble_eq_true rfl⟩ ⟨Nat.le_of_ble_eq_true rfl, Nat.le_of_ble_eq_true rfl⟩ hX hP hD hS [] (by decide) rfl [] rfl rfl hl.1 rfl (Nat.le_of_ble_eq_true rfl) dX7_putBlock_183 rfl rfl (fun Hp locs hP hD hS => ?_)
              refine xast (k := 3072 + (((bT W md 4) + y) * 32 + ((bL W md 4) + x))) (ws1 := [(o, .inr (7, mdF th W H mt qu zz nw ol ne se ke nc ns is ik dc sc 2 md wh fa re ve ps 0 tl di lv bf bo bd co bt ma)), (nw, .inl (cs 0, 4608, .inl (mpB gw W md 4 (mlF W md 4 mf (fun x9 y9 => (mft (lokP gn 1) (wdt 1 W) (wdt 1 H) (nI x9) (nI y9) (mus wh (V 0) 1) (mus wh (V 1) 1)))) (y * 8 + (x + 1))))), (ol, .inl (cs 0, 4608, .inl go)), (ne, .inl (cs 0, 4608, .inl gn)), (ve, .inl (cs 0, 4, .inl V)), (ma, .inl (cs 0, 64, .inl mf))]) hF hX hP hD hS 1 rfl (nI_clamp (by omega)) (vp_in_nI (by omega) (by decide)) dX7_putBlock_186 (congrArg (fun z9 => ([(o, .inr (7, mdF th W H mt qu zz nw ol ne se ke nc ns is ik dc sc 2 md wh fa re ve ps 0 tl di lv bf bo bd co bt ma)), (nw, .inl (cs 0, 4608, .inl z9)), (ol, .inl (cs 0, 4608, .inl go)), (ne, .inl (cs 0, 4608, .inl gn)), (ve, .inl (cs 0, 4, .inl V)), (ma, .inl (cs 0, 64, .inl mf))] : va_W)) (pbs gw (mlF W md 4 mf (fun x9 y9 => (mft (lokP gn 1) (wdt 1 W) (wdt 1 H) (nI x9) (nI y9) (mus wh (V 0) 1) (mus wh (V 1) 1)))) (by unfold mlF; rw [show ((bT W md 4) + y - (bT W md 4)) * 8 + ((bL W md 4) + x - (bL W md 4)) = y * 8 + x by omega]) hxl (show (bL W md 4) + 8 ≤ 32 by omega))) (fun Hp locs hP hD hS => ?_)
              refine lv_iinc (v := (nI (x + 1))) (lv' := [(8, .int (nI (x + 1))), (9, .int ((mf (y * 8 + x)) + (mft (lokP gn 1) (wdt 1 W) (wdt 1 H) (nI ((bL W md 4) + x)) (nI ((bT W md 4) + y)) (mus wh (V 0) 1) (mus wh (V 1) 1)))), (0, .ref o), (2, .int 1), (3, .int 0), (4, .int 1), (5, .int (nI (bL W md 4))), (6, .int (nI (bT W md 4))), (7, .int (nI y))]) hx hb dX7_putBlock_187 hl (k := 8) rfl (nI_1 x) (by decide) rfl (fun ls hl => ?_)
              refine lv_goto (tgt := 101) hx hb dX7_putBlock_190 (by decide) ?_
              exact ih_101 (x + 1) (by omega) (by omega) _ _ _ hP hD hS (lv_sub hl [2, 3, 4, 5, 6, 7, 8, 0] rfl)
        exact loop_101 (8 - 0 + 1) 0 (Nat.lt_succ_self _) (by decide) _ _ _ hP hD hS (lv_sub hl [1, 2, 3, 4, 5, 6, 7, 0] rfl)
  have hP := xeqP hP (congrArg (fun z9 => ([(o, .inr (7, mdF th W H mt qu zz nw ol ne se ke nc ns is ik dc sc 2 md wh fa re ve ps 0 tl di lv bf bo bd co bt ma)), (nw, .inl (cs 0, 4608, .inl z9)), (ol, .inl (cs 0, 4608, .inl go)), (ne, .inl (cs 0, 4608, .inl gn)), (ve, .inl (cs 0, 4, .inl V)), (ma, .inl (cs 0, 64, .inl mf))] : va_W)) ((show gw = mpB gw W md 4 (mlF W md 4 mf (fun x9 y9 => (mft (lokP gn 1) (wdt 1 W) (wdt 1 H) (nI x9) (nI y9) (mus wh (V 0) 1) (mus wh (V 1) 1)))) (0 * 8) from (blkTo_0 gw _ _ _ _ 8 (mlF W md 4 mf (fun x9 y9 => (mft (lokP gn 1) (wdt 1 W) (wdt 1 H) (nI x9) (nI y9) (mus wh (V 0) 1) (mus wh (V 1) 1))))).symm)))
  have hD := xeqD hD (congrArg (fun z9 => ([(o, .inr (7, mdF th W H mt qu zz nw ol ne se ke nc ns is ik dc sc 2 md wh fa re ve ps 0 tl di lv bf bo bd co bt ma)), (nw, .inl (cs 0, 4608, .inl z9)), (ol, .inl (cs 0, 4608, .inl go)), (ne, .inl (cs 0, 4608, .inl gn)), (ve, .inl (cs 0, 4, .inl V)), (ma, .inl (cs 0, 64, .inl mf))] : va_W)) ((show gw = mpB gw W md 4 (mlF W md 4 mf (fun x9 y9 => (mft (lokP gn 1) (wdt 1 W) (wdt 1 H) (nI x9) (nI y9) (mus wh (V 0) 1) (mus wh (V 1) 1)))) (0 * 8) from (blkTo_0 gw _ _ _ _ 8 (mlF W md 4 mf (fun x9 y9 => (mft (lokP gn 1) (wdt 1 W) (wdt 1 H) (nI x9) (nI y9) (mus wh (V 0) 1) (mus wh (V 1) 1))))).symm)))
  exact loop_91 (8 - 0 + 1) 0 (Nat.lt_succ_self _) (by decide) _ _ _ hP hD hS (lv_sub hl [4, 6, 7, 3, 2, 1, 0] rfl)

set_option maxHeartbeats 4000000 in
set_option maxRecDepth 100000 in
theorem c_X7_putBlock4B (l : Launch) (D : va_G) (cs : Nat → ClassId) (tt : Nat → Nat) (o mt qu zz nw ol ne se ke re ve ps di lv bd co bt ma W H md : Nat) (th nc ns is ik dc sc wh fa tl bf bo : Int32) (gw mf go gn V : Nat → Int32) (hw : 1 ≤ W) (hw4 : W ≤ 4) (hh : 1 ≤ H) (hh3 : H ≤ 3) (hmd : md < W * H) : xM l yX7_putBlock wsX7_putBlock ({ frames := 4, cells := 0, slots := 0, locals := 104 } : Room) D cs tt [.ref o, .int 4, .int 1, .int 0] [(o, .inr (7, mdF th W H mt qu zz nw ol ne se ke nc ns is ik dc sc 3 md wh fa re ve ps 0 tl di lv bf bo bd co bt ma)), (nw, .inl (cs 0, 4608, .inl gw)), (ol, .inl (cs 0, 4608, .inl go)), (ne, .inl (cs 0, 4608, .inl gn)), (ve, .inl (cs 0, 4, .inl V)), (ma, .inl (cs 0, 64, .inl mf))] none [(o, .inr (7, mdF th W H mt qu zz nw ol ne se ke nc ns is ik dc sc 3 md wh fa re ve ps 0 tl di lv bf bo bd co bt ma)), (nw, .inl (cs 0, 4608, .inl (mpB gw W md 4 (mlF W md 4 mf (fun x9 y9 => (mft (lokP go 1) (wdt 1 W) (wdt 1 H) (nI x9) (nI y9) (mus wh (V 0) 1) (mus wh (V 1) 1)))) (64)))), (ol, .inl (cs 0, 4608, .inl go)), (ne, .inl (cs 0, 4608, .inl gn)), (ve, .inl (cs 0, 4, .inl V)), (ma, .inl (cs 0, 64, .inl mf))] := by
  refine xM.of RX7 rfl (by decide) rfl (Nat.le_of_ble_eq_true rfl) ?_
  intro p e s m below meth c A ls hF hr hlk hX hP hD hS hl
  have hx := hF.1
  have hb := hF.2.1
  have hl : lv_has ls 10 [(0, .ref o), (1, .int 4), (2, .int 1), (3, .int 0)] := hl
  have hm4 : md < 4096 := Nat.lt_of_lt_of_le hmd (Nat.le_trans (Nat.mul_le_mul hw4 hh3) (by decide))
  have hb9 := b_in hw hmd 4 (by decide)
  have hbl : (bL W md 4) + 8 ≤ 8 * W := hb9.1
  have hbt : (bT W md 4) + 8 ≤ 8 * H := hb9.2
  have hsL : bL W md 4 = bL W md 4 := rfl
  refine lv_iload_n hx hb dX7_putBlock_0 rfl (lv_at hl 1 rfl) ?_
  refine xSt (rest := []) (As := [.int 4]) (ws1 := [(o, .inr (7, mdF th W H mt qu zz nw ol ne se ke nc ns is ik dc sc 3 md wh fa re ve ps 0 tl di lv bf bo bd co bt ma)), (nw, .inl (cs 0, 4608, .inl gw)), (ol, .inl (cs 0, 4608, .inl go)), (ne, .inl (cs 0, 4608, .inl gn)), (ve, .inl (cs 0, 4, .inl V)), (ma, .inl (cs 0, 64, .inl mf))]) (st1 := [.int (pln 4)]) hF (c_X7_planeOf l D cs tt 4) gX7_putBlock_X7_planeOf rfl (n := 1) (by decide +kernel) rfl ⟨⟨rfl, rfl⟩, Nat.le_of_ble_eq_true rfl, Nat.le_of_ble_eq_true rfl⟩ ⟨Nat.le_of_ble_eq_true rfl, Nat.le_of_ble_eq_true rfl⟩ hX hP hD hS [] (by decide) rfl [] rfl rfl hl.1 rfl (Nat.le_of_ble_eq_true rfl) dX7_putBlock_1 rfl rfl (fun Hp locs hP hD hS => ?_)
  refine xrwi (z := 1) (by decide) ?_
  refine lv_istore (lv' := [(4, .int 1), (0, .ref o), (1, .int 4), (2, .int 1), (3, .int 0)]) hx hb dX7_putBlock_4 hl (by decide) rfl (fun ls hl => ?_)
  refine lv_iload hx hb dX7_putBlock_6 (lv_at hl 0 rfl) ?_
  refine lv_if_ne (tgt := 33) hx hb dX7_putBlock_8 (by decide) (fun _ => ?_) (fun c_8 => absurd c_8 (by decide))
  refine lv_bipush (v := 8) hx hb dX7_putBlock_33 (by decide) ?_
  refine lv_aload_n hx hb dX7_putBlock_35 rfl (lv_at hl 1 rfl) ?_
  refine xget (C := RX7) (T := TX7) (N := 34) hF hX hP (by decide +kernel) 0 18 rfl rfl (by decide) (by decide +kernel) rfl dX7_putBlock_36 ?_
  refine lv_aload_n hx hb dX7_putBlock_39 rfl (lv_at hl 1 rfl) ?_
  refine xget (C := RX7) (T := TX7) (N := 34) hF hX hP (by decide +kernel) 0 1 rfl rfl (by decide) (by decide +kernel) rfl dX7_putBlock_40 ?_
  refine lv_irem hx hb dX7_putBlock_43 (nI_ne0 (by omega) (by omega)) ?_
  refine xrwi (z := nI (md % W)) (pk_rem (by omega) (by omega) (by omega)) ?_
  refine lv_imul hx hb dX7_putBlock_44 ?_
  refine xrwi (z := nI (bL W md 4)) (by rw [show (8 : Int32) * nI (md % W) = nI (8 * (md % W)) from pk_mul 8 _]; exact congrArg nI (show 8 * (md % W) = bL W md 4 by show _ = md % W * 8; omega)) ?_
  refine lv_istore (lv' := [(5, .int (nI (bL W md 4))), (4, .int 1), (0, .ref o), (1, .int 4), (2, .int 1), (3, .int 0)]) hx hb dX7_putBlock_45 hl (by decide) rfl (fun ls hl => ?_)
  refine lv_iload hx hb dX7_putBlock_47 (lv_at hl 1 rfl) ?_
  refine lv_if_ne (tgt := 74) hx hb dX7_putBlock_49 (by decide) (fun _ => ?_) (fun c_49 => absurd c_49 (by decide))
  refine lv_bipush (v := 8) hx hb dX7_putBlock_74 (by decide) ?_
  refine lv_aload_n hx hb dX7_putBlock_76 rfl (lv_at hl 2 rfl) ?_
  refine xget (C := RX7) (T := TX7) (N := 34) hF hX hP (by decide +kernel) 0 18 rfl rfl (by decide) (by decide +kernel) rfl dX7_putBlock_77 ?_
  refine lv_aload_n hx hb dX7_putBlock_80 rfl (lv_at hl 2 rfl) ?_
  refine xget (C := RX7) (T := TX7) (N := 34) hF hX hP (by decide +kernel) 0 1 rfl rfl (by decide) (by decide +kernel) rfl dX7_putBlock_81 ?_
  refine lv_idiv hx hb dX7_putBlock_84 (nI_ne0 (by omega) (by omega)) ?_
  refine xrwi (z := nI (md / W)) (pk_div (by omega) (by omega) (by omega)) ?_
  refine lv_imul hx hb dX7_putBlock_85 ?_
  refine xrwi (z := nI (bT W md 4)) (by rw [show (8 : Int32) * nI (md / W) = nI (8 * (md / W)) from pk_mul 8 _]; exact congrArg nI (show 8 * (md / W) = bT W md 4 by show _ = md / W * 8; omega)) ?_
  refine lv_istore (lv' := [(6, .int (nI (bT W md 4))), (5, .int (nI (bL W md 4))), (4, .int 1), (0, .ref o), (1, .int 4), (2, .int 1), (3, .int 0)]) hx hb dX7_putBlock_86 hl (by decide) rfl (fun ls hl => ?_)
  refine lv_iconst (v := 0) hx hb dX7_putBlock_88 (by decide) ?_
  refine lv_istore (lv' := [(7, .int 0), (6, .int (nI (bT W md 4))), (5, .int (nI (bL W md 4))), (4, .int 1), (0, .ref o), (1, .int 4), (2, .int 1), (3, .int 0)]) hx hb dX7_putBlock_89 hl (by decide) rfl (fun ls hl => ?_)
  have loop_91 : ∀ (k91 : Nat) (y : Nat), 8 - y < k91 → y ≤ 8 → ∀ (Hp : Heap) (locs : List Loc) (ls : Array Slot), va_P D vwCl [(o, .inr (7, mdF th W H mt qu zz nw ol ne se ke nc ns is ik dc sc 3 md wh fa re ve ps 0 tl di lv bf bo bd co bt ma)), (nw, .inl (cs 0, 4608, .inl (mpB gw W md 4 (mlF W md 4 mf (fun x9 y9 => (mft (lokP go 1) (wdt 1 W) (wdt 1 H) (nI x9) (nI y9) (mus wh (V 0) 1) (mus wh (V 1) 1)))) (y * 8)))), (ol, .inl (cs 0, 4608, .inl go)), (ne, .inl (cs 0, 4608, .inl gn)), (ve, .inl (cs 0, 4, .inl V)), (ma, .inl (cs 0, 64, .inl mf))] Hp → va_D A [(o, .inr (7, mdF th W H mt qu zz nw ol ne se ke nc ns is ik dc sc 3 md wh fa re ve ps 0 tl di lv bf bo bd co bt ma)), (nw, .inl (cs 0, 4608, .inl (mpB gw W md 4 (mlF W md 4 mf (fun x9 y9 => (mft (lokP go 1) (wdt 1 W) (wdt 1 H) (nI x9) (nI y9) (mus wh (V 0) 1) (mus wh (V 1) 1)))) (y * 8)))), (ol, .inl (cs 0, 4608, .inl go)), (ne, .inl (cs 0, 4608, .inl gn)), (ve, .inl (cs 0, 4, .inl V)), (ma, .inl (cs 0, 64, .inl mf))] → va_S A s.heap Hp locs → lv_has ls 10 [(0, .ref o), (2, .int 1), (3, .int 0), (4, .int 1), (5, .int (nI (bL W md 4))), (6, .int (nI (bT W md 4))), (7, .int (nI y))] → xW p l e ({ frames := 4, cells := 0, slots := 0, locals := 104 } : Room) s m ([.ref o, .int 4, .int 1, .int 0] : List Value).toArray below meth c Hp locs 0 0 (MQ below (xE D A none [(o, .inr (7, mdF th W H mt qu zz nw ol ne se ke nc ns is ik dc sc 3 md wh fa re ve ps 0 tl di lv bf bo bd co bt ma)), (nw, .inl (cs 0, 4608, .inl (mpB gw W md 4 (mlF W md 4 mf (fun x9 y9 => (mft (lokP go 1) (wdt 1 W) (wdt 1 H) (nI x9) (nI y9) (mus wh (V 0) 1) (mus wh (V 1) 1)))) (64)))), (ol, .inl (cs 0, 4608, .inl go)), (ne, .inl (cs 0, 4608, .inl gn)), (ve, .inl (cs 0, 4, .inl V)), (ma, .inl (cs 0, 64, .inl mf))]) ([.ref o, .int 4, .int 1, .int 0] : List Value).toArray s 0 0 A) (F0 m 91 ls []) := by
    intro k91
    induction k91 with
    | zero => intro y h9; omega
    | succ k91 ih_91 =>
      intro y hk91 hy9 Hp locs ls hP hD hS hl
      refine lv_iload hx hb dX7_putBlock_91 (lv_at hl 6 rfl) ?_
      refine lv_bipush (v := 8) hx hb dX7_putBlock_93 (by decide) ?_
      refine lv_icmp_ge (tgt := 199) hx hb dX7_putBlock_95 (by decide) (fun c_95 => ?_) (fun c_95 => ?_)
      · have ey : y = 8 := by have := nIle (a := 8) (b := y) rfl rfl (by decide) (by omega) c_95; omega
        have hP := xeqP hP (congrArg (fun z9 => ([(o, .inr (7, mdF th W H mt qu zz nw ol ne se ke nc ns is ik dc sc 3 md wh fa re ve ps 0 tl di lv bf bo bd co bt ma)), (nw, .inl (cs 0, 4608, .inl z9)), (ol, .inl (cs 0, 4608, .inl go)), (ne, .inl (cs 0, 4608, .inl gn)), (ve, .inl (cs 0, 4, .inl V)), (ma, .inl (cs 0, 64, .inl mf))] : va_W)) (congrArg (mpB gw W md 4 (mlF W md 4 mf (fun x9 y9 => (mft (lokP go 1) (wdt 1 W) (wdt 1 H) (nI x9) (nI y9) (mus wh (V 0) 1) (mus wh (V 1) 1))))) (show y * 8 = 64 by omega)))
        have hD := xeqD hD (congrArg (fun z9 => ([(o, .inr (7, mdF th W H mt qu zz nw ol ne se ke nc ns is ik dc sc 3 md wh fa re ve ps 0 tl di lv bf bo bd co bt ma)), (nw, .inl (cs 0, 4608, .inl z9)), (ol, .inl (cs 0, 4608, .inl go)), (ne, .inl (cs 0, 4608, .inl gn)), (ve, .inl (cs 0, 4, .inl V)), (ma, .inl (cs 0, 64, .inl mf))] : va_W)) (congrArg (mpB gw W md 4 (mlF W md 4 mf (fun x9 y9 => (mft (lokP go 1) (wdt 1 W) (wdt 1 H) (nI x9) (nI y9) (mus wh (V 0) 1) (mus wh (V 1) 1))))) (show y * 8 = 64 by omega)))
        exact xrv hF hr hlk hP hD hS dX7_putBlock_199
      · have hyl : y < 8 := nInle (a := 8) (b := y) rfl rfl (by decide) (by omega) c_95
        refine lv_iconst (v := 0) hx hb dX7_putBlock_98 (by decide) ?_
        refine lv_istore (lv' := [(8, .int 0), (0, .ref o), (2, .int 1), (3, .int 0), (4, .int 1), (5, .int (nI (bL W md 4))), (6, .int (nI (bT W md 4))), (7, .int (nI y))]) hx hb dX7_putBlock_99 hl (by decide) rfl (fun ls hl => ?_)
        have loop_101 : ∀ (k101 : Nat) (x : Nat), 8 - x < k101 → x ≤ 8 → ∀ (Hp : Heap) (locs : List Loc) (ls : Array Slot), va_P D vwCl [(o, .inr (7, mdF th W H mt qu zz nw ol ne se ke nc ns is ik dc sc 3 md wh fa re ve ps 0 tl di lv bf bo bd co bt ma)), (nw, .inl (cs 0, 4608, .inl (mpB gw W md 4 (mlF W md 4 mf (fun x9 y9 => (mft (lokP go 1) (wdt 1 W) (wdt 1 H) (nI x9) (nI y9) (mus wh (V 0) 1) (mus wh (V 1) 1)))) (y * 8 + x)))), (ol, .inl (cs 0, 4608, .inl go)), (ne, .inl (cs 0, 4608, .inl gn)), (ve, .inl (cs 0, 4, .inl V)), (ma, .inl (cs 0, 64, .inl mf))] Hp → va_D A [(o, .inr (7, mdF th W H mt qu zz nw ol ne se ke nc ns is ik dc sc 3 md wh fa re ve ps 0 tl di lv bf bo bd co bt ma)), (nw, .inl (cs 0, 4608, .inl (mpB gw W md 4 (mlF W md 4 mf (fun x9 y9 => (mft (lokP go 1) (wdt 1 W) (wdt 1 H) (nI x9) (nI y9) (mus wh (V 0) 1) (mus wh (V 1) 1)))) (y * 8 + x)))), (ol, .inl (cs 0, 4608, .inl go)), (ne, .inl (cs 0, 4608, .inl gn)), (ve, .inl (cs 0, 4, .inl V)), (ma, .inl (cs 0, 64, .inl mf))] → va_S A s.heap Hp locs → lv_has ls 10 [(0, .ref o), (2, .int 1), (3, .int 0), (4, .int 1), (5, .int (nI (bL W md 4))), (6, .int (nI (bT W md 4))), (7, .int (nI y)), (8, .int (nI x))] → xW p l e ({ frames := 4, cells := 0, slots := 0, locals := 104 } : Room) s m ([.ref o, .int 4, .int 1, .int 0] : List Value).toArray below meth c Hp locs 0 0 (MQ below (xE D A none [(o, .inr (7, mdF th W H mt qu zz nw ol ne se ke nc ns is ik dc sc 3 md wh fa re ve ps 0 tl di lv bf bo bd co bt ma)), (nw, .inl (cs 0, 4608, .inl (mpB gw W md 4 (mlF W md 4 mf (fun x9 y9 => (mft (lokP go 1) (wdt 1 W) (wdt 1 H) (nI x9) (nI y9) (mus wh (V 0) 1) (mus wh (V 1) 1)))) (64)))), (ol, .inl (cs 0, 4608, .inl go)), (ne, .inl (cs 0, 4608, .inl gn)), (ve, .inl (cs 0, 4, .inl V)), (ma, .inl (cs 0, 64, .inl mf))]) ([.ref o, .int 4, .int 1, .int 0] : List Value).toArray s 0 0 A) (F0 m 101 ls []) := by
          intro k101
          induction k101 with
          | zero => intro x h9; omega
          | succ k101 ih_101 =>
            intro x hk101 hx9 Hp locs ls hP hD hS hl
            refine lv_iload hx hb dX7_putBlock_101 (lv_at hl 7 rfl) ?_
            refine lv_bipush (v := 8) hx hb dX7_putBlock_103 (by decide) ?_
            refine lv_icmp_ge (tgt := 193) hx hb dX7_putBlock_105 (by decide) (fun c_105 => ?_) (fun c_105 => ?_)
            · have ex : x = 8 := by have := nIle (a := 8) (b := x) rfl rfl (by decide) (by omega) c_105; omega
              have hP := xeqP hP (congrArg (fun z9 => ([(o, .inr (7, mdF th W H mt qu zz nw ol ne se ke nc ns is ik dc sc 3 md wh fa re ve ps 0 tl di lv bf bo bd co bt ma)), (nw, .inl (cs 0, 4608, .inl z9)), (ol, .inl (cs 0, 4608, .inl go)), (ne, .inl (cs 0, 4608, .inl gn)), (ve, .inl (cs 0, 4, .inl V)), (ma, .inl (cs 0, 64, .inl mf))] : va_W)) (congrArg (mpB gw W md 4 (mlF W md 4 mf (fun x9 y9 => (mft (lokP go 1) (wdt 1 W) (wdt 1 H) (nI x9) (nI y9) (mus wh (V 0) 1) (mus wh (V 1) 1))))) (show y * 8 + x = (y + 1) * 8 by omega)))
              have hD := xeqD hD (congrArg (fun z9 => ([(o, .inr (7, mdF th W H mt qu zz nw ol ne se ke nc ns is ik dc sc 3 md wh fa re ve ps 0 tl di lv bf bo bd co bt ma)), (nw, .inl (cs 0, 4608, .inl z9)), (ol, .inl (cs 0, 4608, .inl go)), (ne, .inl (cs 0, 4608, .inl gn)), (ve, .inl (cs 0, 4, .inl V)), (ma, .inl (cs 0, 64, .inl mf))] : va_W)) (congrArg (mpB gw W md 4 (mlF W md 4 mf (fun x9 y9 => (mft (lokP go 1) (wdt 1 W) (wdt 1 H) (nI x9) (nI y9) (mus wh (V 0) 1) (mus wh (V 1) 1))))) (show y * 8 + x = (y + 1) * 8 by omega)))
              refine lv_iinc (v := (nI (y + 1))) (lv' := [(7, .int (nI (y + 1))), (0, .ref o), (2, .int 1), (3, .int 0), (4, .int 1), (5, .int (nI (bL W md 4))), (6, .int (nI (bT W md 4))), (8, .int (nI x))]) hx hb dX7_putBlock_193 hl (k := 6) rfl (nI_1 y) (by decide) rfl (fun ls hl => ?_)
              refine lv_goto (tgt := 91) hx hb dX7_putBlock_196 (by decide) ?_
              exact ih_91 (y + 1) (by omega) (by omega) _ _ _ hP hD hS (lv_sub hl [1, 2, 3, 4, 5, 6, 0] rfl)
            · have hxl : x < 8 := nInle (a := 8) (b := x) rfl rfl (by decide) (by omega) c_105
              refine lv_aload_n hx hb dX7_putBlock_108 rfl (lv_at hl 0 rfl) ?_
              refine xget (C := RX7) (T := TX7) (N := 34) hF hX hP (by decide +kernel) 0 33 rfl rfl (by decide) (by decide +kernel) rfl dX7_putBlock_109 ?_
              refine lv_bipush (v := 8) hx hb dX7_putBlock_112 (by decide) ?_
              refine lv_iload hx hb dX7_putBlock_114 (lv_at hl 6 rfl) ?_
              refine lv_imul hx hb dX7_putBlock_116 ?_
              refine lv_iload hx hb dX7_putBlock_117 (lv_at hl 7 rfl) ?_
              refine lv_iadd hx hb dX7_putBlock_119 ?_
              refine xrwi (z := nI (y * 8 + x)) (k8 y x) ?_
              refine xald (k := y * 8 + x) hF hX hP 5 rfl (nI_clamp (by omega)) (vp_in_nI (by omega) (by decide)) dX7_putBlock_120 ?_
              refine lv_istore (lv' := [(9, .int (mf (y * 8 + x))), (0, .ref o), (2, .int 1), (3, .int 0), (4, .int 1), (5, .int (nI (bL W md 4))), (6, .int (nI (bT W md 4))), (7, .int (nI y)), (8, .int (nI x))]) hx hb dX7_putBlock_121 hl (by decide) rfl (fun ls hl => ?_)
              refine lv_aload_n hx hb dX7_putBlock_123 rfl (lv_at hl 1 rfl) ?_
              refine xget (C := RX7) (T := TX7) (N := 34) hF hX hP (by decide +kernel) 0 24 rfl rfl (by decide) (by decide +kernel) rfl dX7_putBlock_124 ?_
              refine lv_if_eq (tgt := 135) hx hb dX7_putBlock_127 (by decide) (fun _ => ?_) (fun c_127 => absurd (by decide) c_127)
              refine lv_iload hx hb dX7_putBlock_135 (lv_at hl 0 rfl) ?_
              refine lv_aload_n hx hb dX7_putBlock_137 rfl (lv_at hl 1 rfl) ?_
              refine lv_iload_n hx hb dX7_putBlock_138 rfl (lv_at hl 2 rfl) ?_
              refine lv_iload_n hx hb dX7_putBlock_139 rfl (lv_at hl 3 rfl) ?_
              refine lv_iload hx hb dX7_putBlock_140 (lv_at hl 4 rfl) ?_
              refine lv_iload hx hb dX7_putBlock_142 (lv_at hl 5 rfl) ?_
              refine lv_iload hx hb dX7_putBlock_144 (lv_at hl 8 rfl) ?_
              refine lv_iadd hx hb dX7_putBlock_146 ?_
              refine xrwi (z := nI ((bL W md 4) + x)) (nI_add _ _) ?_
              refine lv_iload hx hb dX7_putBlock_147 (lv_at hl 6 rfl) ?_
              refine lv_iload hx hb dX7_putBlock_149 (lv_at hl 7 rfl) ?_
              refine lv_iadd hx hb dX7_putBlock_151 ?_
              refine xrwi (z := nI ((bT W md 4) + y)) (nI_add _ _) ?_
              refine xV (rest := [.int (mf (y * 8 + x))]) (As := [.int 1, .int 0, .int 1, .int (nI ((bL W md 4) + x)), .int (nI ((bT W md 4) + y))]) (ws1 := [(o, .inr (7, mdF th W H mt qu zz nw ol ne se ke nc ns is ik dc sc 3 md wh fa re ve ps 0 tl di lv bf bo bd co bt ma)), (nw, .inl (cs 0, 4608, .inl (mpB gw W md 4 (mlF W md 4 mf (fun x9 y9 => (mft (lokP go 1) (wdt 1 W) (wdt 1 H) (nI x9) (nI y9) (mus wh (V 0) 1) (mus wh (V 1) 1)))) (y * 8 + x)))), (ol, .inl (cs 0, 4608, .inl go)), (ne, .inl (cs 0, 4608, .inl gn)), (ve, .inl (cs 0, 4, .inl V)), (ma, .inl (cs 0, 64, .inl mf))]) (st1 := [.int (mft (lokP go 1) (wdt 1 W) (wdt 1 H) (nI ((bL W md 4) + x)) (nI ((bT W md 4) + y)) (mus wh (V 0) 1) (mus wh (V 1) 1)), .int (mf (y * 8 + x))]) hF (c_X7_fetchedB l D cs tt o mt qu zz nw ol ne se ke re ve ps di lv bd co bt ma W H md th nc ns is ik dc sc wh fa 0 tl bf bo 1 (nI ((bL W md 4) + x)) (nI ((bT W md 4) + y)) go gn V (by decide) hw hw4 hh hh3) gX7_putBlock_X7_fetched rfl (n := 5) (by decide +kernel) rfl ⟨⟨rfl, rfl⟩, Nat.le_of_ble_eq_true rfl, Nat.le_of_ble_eq_true rfl⟩ ⟨Nat.le_of_ble_eq_true rfl, Nat.le_of_ble_eq_true rfl⟩ hX hP hD hS [0, 2, 3, 4] (by decide) rfl [o, ol, ne, ve] rfl rfl (q0 := 0) (ci := 7) rfl rfl rfl hl.1 rfl (Nat.le_of_ble_eq_true rfl) dX7_putBlock_152 rfl rfl (fun Hp locs hP hD hS => ?_)
              refine lv_iadd hx hb dX7_putBlock_155 ?_
              refine lv_istore (lv' := [(9, .int ((mf (y * 8 + x)) + (mft (lokP go 1) (wdt 1 W) (wdt 1 H) (nI ((bL W md 4) + x)) (nI ((bT W md 4) + y)) (mus wh (V 0) 1) (mus wh (V 1) 1)))), (0, .ref o), (2, .int 1), (3, .int 0), (4, .int 1), (5, .int (nI (bL W md 4))), (6, .int (nI (bT W md 4))), (7, .int (nI y)), (8, .int (nI x))]) hx hb dX7_putBlock_156 hl (by decide) rfl (fun ls hl => ?_)
              refine lv_aload_n hx hb dX7_putBlock_158 rfl (lv_at hl 1 rfl) ?_
              refine xget (C := RX7) (T := TX7) (N := 34) hF hX hP (by decide +kernel) 0 6 rfl rfl (by decide) (by decide +kernel) rfl dX7_putBlock_159 ?_
              refine lv_iload hx hb dX7_putBlock_162 (lv_at hl 4 rfl) ?_
              refine lv_iload hx hb dX7_putBlock_164 (lv_at hl 5 rfl) ?_
              refine lv_iload hx hb dX7_putBlock_166 (lv_at hl 8 rfl) ?_
              refine lv_iadd hx hb dX7_putBlock_168 ?_
              refine xrwi (z := nI ((bL W md 4) + x)) (nI_add _ _) ?_
              refine lv_iload hx hb dX7_putBlock_169 (lv_at hl 6 rfl) ?_
              refine lv_iload hx hb dX7_putBlock_171 (lv_at hl 7 rfl) ?_
              refine lv_iadd hx hb dX7_putBlock_173 ?_
              refine xrwi (z := nI ((bT W md 4) + y)) (nI_add _ _) ?_
              refine xSt (rest := [.ref nw]) (As := [.int 1, .int (nI ((bL W md 4) + x)), .int (nI ((bT W md 4) + y))]) (ws1 := [(o, .inr (7, mdF th W H mt qu zz nw ol ne se ke nc ns is ik dc sc 3 md wh fa re ve ps 0 tl di lv bf bo bd co bt ma)), (nw, .inl (cs 0, 4608, .inl (mpB gw W md 4 (mlF W md 4 mf (fun x9 y9 => (mft (lokP go 1) (wdt 1 W) (wdt 1 H) (nI x9) (nI y9) (mus wh (V 0) 1) (mus wh (V 1) 1)))) (y * 8 + x)))), (ol, .inl (cs 0, 4608, .inl go)), (ne, .inl (cs 0, 4608, .inl gn)), (ve, .inl (cs 0, 4, .inl V)), (ma, .inl (cs 0, 64, .inl mf))]) (st1 := [.int (nI (plc 1 ((bL W md 4) + x) ((bT W md 4) + y))), .ref nw]) hF (c_X7_place l D cs tt 1 ((bL W md 4) + x) ((bT W md 4) + y) (by decide)) gX7_putBlock_X7_place rfl (n := 3) (by decide +kernel) rfl ⟨⟨rfl, rfl⟩, Nat.le_of_ble_eq_true rfl, Nat.le_of_ble_eq_true rfl⟩ ⟨Nat.le_of_ble_eq_true rfl, Nat.le_of_ble_eq_true rfl⟩ hX hP hD hS [] (by decide) rfl [] rfl rfl hl.1 rfl (Nat.le_of_ble_eq_true rfl) dX7_putBlock_174 rfl rfl (fun Hp locs hP hD hS => ?_)
              refine xrwi (z := nI (3072 + (((bT W md 4) + y) * 32 + ((bL W md 4) + x)))) (by unfold plc; rw [if_neg (by decide), if_pos rfl]; exact congrArg nI (by omega)) ?_
              refine lv_iload hx hb dX7_putBlock_177 (lv_at hl 0 rfl) ?_
              refine lv_iconst (v := 0) hx hb dX7_putBlock_179 (by decide) ?_
              refine lv_sipush (v := 255) hx hb dX7_putBlock_180 (by decide) ?_
              refine xSt (rest := [.int (nI (3072 + (((bT W md 4) + y) * 32 + ((bL W md 4) + x)))), .ref nw]) (As := [.int ((mf (y * 8 + x)) + (mft (lokP go 1) (wdt 1 W) (wdt 1 H) (nI ((bL W md 4) + x)) (nI ((bT W md 4) + y)) (mus wh (V 0) 1) (mus wh (V 1) 1))), .int 0, .int 255]) (ws1 := [(o, .inr (7, mdF th W H mt qu zz nw ol ne se ke nc ns is ik dc sc 3 md wh fa re ve ps 0 tl di lv bf bo bd co bt ma)), (nw, .inl (cs 0, 4608, .inl (mpB gw W md 4 (mlF W md 4 mf (fun x9 y9 => (mft (lokP go 1) (wdt 1 W) (wdt 1 H) (nI x9) (nI y9) (mus wh (V 0) 1) (mus wh (V 1) 1)))) (y * 8 + x)))), (ol, .inl (cs 0, 4608, .inl go)), (ne, .inl (cs 0, 4608, .inl gn)), (ve, .inl (cs 0, 4, .inl V)), (ma, .inl (cs 0, 64, .inl mf))]) (st1 := [.int (bnd ((mf (y * 8 + x)) + (mft (lokP go 1) (wdt 1 W) (wdt 1 H) (nI ((bL W md 4) + x)) (nI ((bT W md 4) + y)) (mus wh (V 0) 1) (mus wh (V 1) 1))) 0 255), .int (nI (3072 + (((bT W md 4) + y) * 32 + ((bL W md 4) + x)))), .ref nw]) hF (c_X7_within l D cs tt ((mf (y * 8 + x)) + (mft (lokP go 1) (wdt 1 W) (wdt 1 H) (nI ((bL W md 4) + x)) (nI ((bT W md 4) + y)) (mus wh (V 0) 1) (mus wh (V 1) 1))) 0 255) gX7_putBlock_X7_within rfl (n := 3) (by decide +kernel) rfl ⟨⟨rfl, rfl⟩, Nat.le_of_ble_eq_true rfl, Nat.le_of_ble_eq_true rfl⟩ ⟨Nat.le_of_ble_eq_true rfl, Nat.le_of_ble_eq_true rfl⟩ hX hP hD hS [] (by decide) rfl [] rfl rfl hl.1 rfl (Nat.le_of_ble_eq_true rfl) dX7_putBlock_183 rfl rfl (fun Hp locs hP hD hS => ?_)
              refine xast (k := 3072 + (((bT W md 4) + y) * 32 + ((bL W md 4) + x))) (ws1 := [(o, .inr (7, mdF th W H mt qu zz nw ol ne se ke nc ns is ik dc sc 3 md wh fa re ve ps 0 tl di lv bf bo bd co bt ma)), (nw, .inl (cs 0, 4608, .inl (mpB gw W md 4 (mlF W md 4 mf (fun x9 y9 => (mft (lokP go 1) (wdt 1 W) (wdt 1 H) (nI x9) (nI y9) (mus wh (V 0) 1) (mus wh (V 1) 1)))) (y * 8 + (x + 1))))), (ol, .inl (cs 0, 4608, .inl go)), (ne, .inl (cs 0, 4608, .inl gn)), (ve, .inl (cs 0, 4, .inl V)), (ma, .inl (cs 0, 64, .inl mf))]) hF hX hP hD hS 1 rfl (nI_clamp (by omega)) (vp_in_nI (by omega) (by decide)) dX7_putBlock_186 (congrArg (fun z9 => ([(o, .inr (7, mdF th W H mt qu zz nw ol ne se ke nc ns is ik dc sc 3 md wh fa re ve ps 0 tl di lv bf bo bd co bt ma)), (nw, .inl (cs 0, 4608, .inl z9)), (ol, .inl (cs 0, 4608, .inl go)), (ne, .inl (cs 0, 4608, .inl gn)), (ve, .inl (cs 0, 4, .inl V)), (ma, .inl (cs 0, 64, .inl mf))] : va_W)) (pbs gw (mlF W md 4 mf (fun x9 y9 => (mft (lokP go 1) (wdt 1 W) (wdt 1 H) (nI x9) (nI y9) (mus wh (V 0) 1) (mus wh (V 1) 1)))) (by unfold mlF; rw [show ((bT W md 4) + y - (bT W md 4)) * 8 + ((bL W md 4) + x - (bL W md 4)) = y * 8 + x by omega]) hxl (show (bL W md 4) + 8 ≤ 32 by omega))) (fun Hp locs hP hD hS => ?_)
              refine lv_iinc (v := (nI (x + 1))) (lv' := [(8, .int (nI (x + 1))), (9, .int ((mf (y * 8 + x)) + (mft (lokP go 1) (wdt 1 W) (wdt 1 H) (nI ((bL W md 4) + x)) (nI ((bT W md 4) + y)) (mus wh (V 0) 1) (mus wh (V 1) 1)))), (0, .ref o), (2, .int 1), (3, .int 0), (4, .int 1), (5, .int (nI (bL W md 4))), (6, .int (nI (bT W md 4))), (7, .int (nI y))]) hx hb dX7_putBlock_187 hl (k := 8) rfl (nI_1 x) (by decide) rfl (fun ls hl => ?_)
              refine lv_goto (tgt := 101) hx hb dX7_putBlock_190 (by decide) ?_
              exact ih_101 (x + 1) (by omega) (by omega) _ _ _ hP hD hS (lv_sub hl [2, 3, 4, 5, 6, 7, 8, 0] rfl)
        exact loop_101 (8 - 0 + 1) 0 (Nat.lt_succ_self _) (by decide) _ _ _ hP hD hS (lv_sub hl [1, 2, 3, 4, 5, 6, 7, 0] rfl)
  have hP := xeqP hP (congrArg (fun z9 => ([(o, .inr (7, mdF th W H mt qu zz nw ol ne se ke nc ns is ik dc sc 3 md wh fa re ve ps 0 tl di lv bf bo bd co bt ma)), (nw, .inl (cs 0, 4608, .inl z9)), (ol, .inl (cs 0, 4608, .inl go)), (ne, .inl (cs 0, 4608, .inl gn)), (ve, .inl (cs 0, 4, .inl V)), (ma, .inl (cs 0, 64, .inl mf))] : va_W)) ((show gw = mpB gw W md 4 (mlF W md 4 mf (fun x9 y9 => (mft (lokP go 1) (wdt 1 W) (wdt 1 H) (nI x9) (nI y9) (mus wh (V 0) 1) (mus wh (V 1) 1)))) (0 * 8) from (blkTo_0 gw _ _ _ _ 8 (mlF W md 4 mf (fun x9 y9 => (mft (lokP go 1) (wdt 1 W) (wdt 1 H) (nI x9) (nI y9) (mus wh (V 0) 1) (mus wh (V 1) 1))))).symm)))
  have hD := xeqD hD (congrArg (fun z9 => ([(o, .inr (7, mdF th W H mt qu zz nw ol ne se ke nc ns is ik dc sc 3 md wh fa re ve ps 0 tl di lv bf bo bd co bt ma)), (nw, .inl (cs 0, 4608, .inl z9)), (ol, .inl (cs 0, 4608, .inl go)), (ne, .inl (cs 0, 4608, .inl gn)), (ve, .inl (cs 0, 4, .inl V)), (ma, .inl (cs 0, 64, .inl mf))] : va_W)) ((show gw = mpB gw W md 4 (mlF W md 4 mf (fun x9 y9 => (mft (lokP go 1) (wdt 1 W) (wdt 1 H) (nI x9) (nI y9) (mus wh (V 0) 1) (mus wh (V 1) 1)))) (0 * 8) from (blkTo_0 gw _ _ _ _ 8 (mlF W md 4 mf (fun x9 y9 => (mft (lokP go 1) (wdt 1 W) (wdt 1 H) (nI x9) (nI y9) (mus wh (V 0) 1) (mus wh (V 1) 1))))).symm)))
  exact loop_91 (8 - 0 + 1) 0 (Nat.lt_succ_self _) (by decide) _ _ _ hP hD hS (lv_sub hl [4, 6, 7, 3, 2, 1, 0] rfl)

set_option maxHeartbeats 4000000 in
set_option maxRecDepth 100000 in
theorem c_X7_putBlock4C (l : Launch) (D : va_G) (cs : Nat → ClassId) (tt : Nat → Nat) (o mt qu zz nw ol ne se ke re ve ps di lv bd co bt ma W H md : Nat) (th nc ns is ik dc sc wh fa tl bf bo : Int32) (gw mf go gn V : Nat → Int32) (hw : 1 ≤ W) (hw4 : W ≤ 4) (hh : 1 ≤ H) (hh3 : H ≤ 3) (hmd : md < W * H) : xM l yX7_putBlock wsX7_putBlock ({ frames := 4, cells := 0, slots := 0, locals := 104 } : Room) D cs tt [.ref o, .int 4, .int 0, .int 1] [(o, .inr (7, mdF th W H mt qu zz nw ol ne se ke nc ns is ik dc sc 3 md wh fa re ve ps 0 tl di lv bf bo bd co bt ma)), (nw, .inl (cs 0, 4608, .inl gw)), (ol, .inl (cs 0, 4608, .inl go)), (ne, .inl (cs 0, 4608, .inl gn)), (ve, .inl (cs 0, 4, .inl V)), (ma, .inl (cs 0, 64, .inl mf))] none [(o, .inr (7, mdF th W H mt qu zz nw ol ne se ke nc ns is ik dc sc 3 md wh fa re ve ps 0 tl di lv bf bo bd co bt ma)), (nw, .inl (cs 0, 4608, .inl (mpB gw W md 4 (mlF W md 4 mf (fun x9 y9 => (mft (lokP gn 1) (wdt 1 W) (wdt 1 H) (nI x9) (nI y9) (mus wh (V 2) 1) (mus wh (V 3) 1)))) (64)))), (ol, .inl (cs 0, 4608, .inl go)), (ne, .inl (cs 0, 4608, .inl gn)), (ve, .inl (cs 0, 4, .inl V)), (ma, .inl (cs 0, 64, .inl mf))] := by
  refine xM.of RX7 rfl (by decide) rfl (Nat.le_of_ble_eq_true rfl) ?_
  intro p e s m below meth c A ls hF hr hlk hX hP hD hS hl
  have hx := hF.1
  have hb := hF.2.1
  have hl : lv_has ls 10 [(0, .ref o), (1, .int 4), (2, .int 0), (3, .int 1)] := hl
  have hm4 : md < 4096 := Nat.lt_of_lt_of_le hmd (Nat.le_trans (Nat.mul_le_mul hw4 hh3) (by decide))
  have hb9 := b_in hw hmd 4 (by decide)
  have hbl : (bL W md 4) + 8 ≤ 8 * W := hb9.1
  have hbt : (bT W md 4) + 8 ≤ 8 * H := hb9.2
  have hsL : bL W md 4 = bL W md 4 := rfl
  refine lv_iload_n hx hb dX7_putBlock_0 rfl (lv_at hl 1 rfl) ?_
  refine xSt (rest := []) (As := [.int 4]) (ws1 := [(o, .inr (7, mdF th W H mt qu zz nw ol ne se ke nc ns is ik dc sc 3 md wh fa re ve ps 0 tl di lv bf bo bd co bt ma)), (nw, .inl (cs 0, 4608, .inl gw)), (ol, .inl (cs 0, 4608, .inl go)), (ne, .inl (cs 0, 4608, .inl gn)), (ve, .inl (cs 0, 4, .inl V)), (ma, .inl (cs 0, 64, .inl mf))]) (st1 := [.int (pln 4)]) hF (c_X7_planeOf l D cs tt 4) gX7_putBlock_X7_planeOf rfl (n := 1) (by decide +kernel) rfl ⟨⟨rfl, rfl⟩, Nat.le_of_ble_eq_true rfl, Nat.le_of_ble_eq_true rfl⟩ ⟨Nat.le_of_ble_eq_true rfl, Nat.le_of_ble_eq_true rfl⟩ hX hP hD hS [] (by decide) rfl [] rfl rfl hl.1 rfl (Nat.le_of_ble_eq_true rfl) dX7_putBlock_1 rfl rfl (fun Hp locs hP hD hS => ?_)
  refine xrwi (z := 1) (by decide) ?_
  refine lv_istore (lv' := [(4, .int 1), (0, .ref o), (1, .int 4), (2, .int 0), (3, .int 1)]) hx hb dX7_putBlock_4 hl (by decide) rfl (fun ls hl => ?_)
  refine lv_iload hx hb dX7_putBlock_6 (lv_at hl 0 rfl) ?_
  refine lv_if_ne (tgt := 33) hx hb dX7_putBlock_8 (by decide) (fun _ => ?_) (fun c_8 => absurd c_8 (by decide))
  refine lv_bipush (v := 8) hx hb dX7_putBlock_33 (by decide) ?_
  refine lv_aload_n hx hb dX7_putBlock_35 rfl (lv_at hl 1 rfl) ?_
  refine xget (C := RX7) (T := TX7) (N := 34) hF hX hP (by decide +kernel) 0 18 rfl rfl (by decide) (by decide +kernel) rfl dX7_putBlock_36 ?_
  refine lv_aload_n hx hb dX7_putBlock_39 rfl (lv_at hl 1 rfl) ?_
  refine xget (C := RX7) (T := TX7) (N := 34) hF hX hP (by decide +kernel) 0 1 rfl rfl (by decide) (by decide +kernel) rfl dX7_putBlock_40 ?_
  refine lv_irem hx hb dX7_putBlock_43 (nI_ne0 (by omega) (by omega)) ?_
  refine xrwi (z := nI (md % W)) (pk_rem (by omega) (by omega) (by omega)) ?_
  refine lv_imul hx hb dX7_putBlock_44 ?_
  refine xrwi (z := nI (bL W md 4)) (by rw [show (8 : Int32) * nI (md % W) = nI (8 * (md % W)) from pk_mul 8 _]; exact congrArg nI (show 8 * (md % W) = bL W md 4 by show _ = md % W * 8; omega)) ?_
  refine lv_istore (lv' := [(5, .int (nI (bL W md 4))), (4, .int 1), (0, .ref o), (1, .int 4), (2, .int 0), (3, .int 1)]) hx hb dX7_putBlock_45 hl (by decide) rfl (fun ls hl => ?_)
  refine lv_iload hx hb dX7_putBlock_47 (lv_at hl 1 rfl) ?_
  refine lv_if_ne (tgt := 74) hx hb dX7_putBlock_49 (by decide) (fun _ => ?_) (fun c_49 => absurd c_49 (by decide))
  refine lv_bipush (v := 8) hx hb dX7_putBlock_74 (by decide) ?_
  refine lv_aload_n hx hb dX7_putBlock_76 rfl (lv_at hl 2 rfl) ?_
  refine xget (C := RX7) (T := TX7) (N := 34) hF hX hP (by decide +kernel) 0 18 rfl rfl (by decide) (by decide +kernel) rfl dX7_putBlock_77 ?_
  refine lv_aload_n hx hb dX7_putBlock_80 rfl (lv_at hl 2 rfl) ?_
  refine xget (C := RX7) (T := TX7) (N := 34) hF hX hP (by decide +kernel) 0 1 rfl rfl (by decide) (by decide +kernel) rfl dX7_putBlock_81 ?_
  refine lv_idiv hx hb dX7_putBlock_84 (nI_ne0 (by omega) (by omega)) ?_
  refine xrwi (z := nI (md / W)) (pk_div (by omega) (by omega) (by omega)) ?_
  refine lv_imul hx hb dX7_putBlock_85 ?_
  refine xrwi (z := nI (bT W md 4)) (by rw [show (8 : Int32) * nI (md / W) = nI (8 * (md / W)) from pk_mul 8 _]; exact congrArg nI (show 8 * (md / W) = bT W md 4 by show _ = md / W * 8; omega)) ?_
  refine lv_istore (lv' := [(6, .int (nI (bT W md 4))), (5, .int (nI (bL W md 4))), (4, .int 1), (0, .ref o), (1, .int 4), (2, .int 0), (3, .int 1)]) hx hb dX7_putBlock_86 hl (by decide) rfl (fun ls hl => ?_)
  refine lv_iconst (v := 0) hx hb dX7_putBlock_88 (by decide) ?_
  refine lv_istore (lv' := [(7, .int 0), (6, .int (nI (bT W md 4))), (5, .int (nI (bL W md 4))), (4, .int 1), (0, .ref o), (1, .int 4), (2, .int 0), (3, .int 1)]) hx hb dX7_putBlock_89 hl (by decide) rfl (fun ls hl => ?_)
  have loop_91 : ∀ (k91 : Nat) (y : Nat), 8 - y < k91 → y ≤ 8 → ∀ (Hp : Heap) (locs : List Loc) (ls : Array Slot), va_P D vwCl [(o, .inr (7, mdF th W H mt qu zz nw ol ne se ke nc ns is ik dc sc 3 md wh fa re ve ps 0 tl di lv bf bo bd co bt ma)), (nw, .inl (cs 0, 4608, .inl (mpB gw W md 4 (mlF W md 4 mf (fun x9 y9 => (mft (lokP gn 1) (wdt 1 W) (wdt 1 H) (nI x9) (nI y9) (mus wh (V 2) 1) (mus wh (V 3) 1)))) (y * 8)))), (ol, .inl (cs 0, 4608, .inl go)), (ne, .inl (cs 0, 4608, .inl gn)), (ve, .inl (cs 0, 4, .inl V)), (ma, .inl (cs 0, 64, .inl mf))] Hp → va_D A [(o, .inr (7, mdF th W H mt qu zz nw ol ne se ke nc ns is ik dc sc 3 md wh fa re ve ps 0 tl di lv bf bo bd co bt ma)), (nw, .inl (cs 0, 4608, .inl (mpB gw W md 4 (mlF W md 4 mf (fun x9 y9 => (mft (lokP gn 1) (wdt 1 W) (wdt 1 H) (nI x9) (nI y9) (mus wh (V 2) 1) (mus wh (V 3) 1)))) (y * 8)))), (ol, .inl (cs 0, 4608, .inl go)), (ne, .inl (cs 0, 4608, .inl gn)), (ve, .inl (cs 0, 4, .inl V)), (ma, .inl (cs 0, 64, .inl mf))] → va_S A s.heap Hp locs → lv_has ls 10 [(0, .ref o), (2, .int 0), (3, .int 1), (4, .int 1), (5, .int (nI (bL W md 4))), (6, .int (nI (bT W md 4))), (7, .int (nI y))] → xW p l e ({ frames := 4, cells := 0, slots := 0, locals := 104 } : Room) s m ([.ref o, .int 4, .int 0, .int 1] : List Value).toArray below meth c Hp locs 0 0 (MQ below (xE D A none [(o, .inr (7, mdF th W H mt qu zz nw ol ne se ke nc ns is ik dc sc 3 md wh fa re ve ps 0 tl di lv bf bo bd co bt ma)), (nw, .inl (cs 0, 4608, .inl (mpB gw W md 4 (mlF W md 4 mf (fun x9 y9 => (mft (lokP gn 1) (wdt 1 W) (wdt 1 H) (nI x9) (nI y9) (mus wh (V 2) 1) (mus wh (V 3) 1)))) (64)))), (ol, .inl (cs 0, 4608, .inl go)), (ne, .inl (cs 0, 4608, .inl gn)), (ve, .inl (cs 0, 4, .inl V)), (ma, .inl (cs 0, 64, .inl mf))]) ([.ref o, .int 4, .int 0, .int 1] : List Value).toArray s 0 0 A) (F0 m 91 ls []) := by
    intro k91
    induction k91 with
    | zero => intro y h9; omega
    | succ k91 ih_91 =>
      intro y hk91 hy9 Hp locs ls hP hD hS hl
      refine lv_iload hx hb dX7_putBlock_91 (lv_at hl 6 rfl) ?_
      refine lv_bipush (v := 8) hx hb dX7_putBlock_93 (by decide) ?_
      refine lv_icmp_ge (tgt := 199) hx hb dX7_putBlock_95 (by decide) (fun c_95 => ?_) (fun c_95 => ?_)
      · have ey : y = 8 := by have := nIle (a := 8) (b := y) rfl rfl (by decide) (by omega) c_95; omega
        have hP := xeqP hP (congrArg (fun z9 => ([(o, .inr (7, mdF th W H mt qu zz nw ol ne se ke nc ns is ik dc sc 3 md wh fa re ve ps 0 tl di lv bf bo bd co bt ma)), (nw, .inl (cs 0, 4608, .inl z9)), (ol, .inl (cs 0, 4608, .inl go)), (ne, .inl (cs 0, 4608, .inl gn)), (ve, .inl (cs 0, 4, .inl V)), (ma, .inl (cs 0, 64, .inl mf))] : va_W)) (congrArg (mpB gw W md 4 (mlF W md 4 mf (fun x9 y9 => (mft (lokP gn 1) (wdt 1 W) (wdt 1 H) (nI x9) (nI y9) (mus wh (V 2) 1) (mus wh (V 3) 1))))) (show y * 8 = 64 by omega)))
        have hD := xeqD hD (congrArg (fun z9 => ([(o, .inr (7, mdF th W H mt qu zz nw ol ne se ke nc ns is ik dc sc 3 md wh fa re ve ps 0 tl di lv bf bo bd co bt ma)), (nw, .inl (cs 0, 4608, .inl z9)), (ol, .inl (cs 0, 4608, .inl go)), (ne, .inl (cs 0, 4608, .inl gn)), (ve, .inl (cs 0, 4, .inl V)), (ma, .inl (cs 0, 64, .inl mf))] : va_W)) (congrArg (mpB gw W md 4 (mlF W md 4 mf (fun x9 y9 => (mft (lokP gn 1) (wdt 1 W) (wdt 1 H) (nI x9) (nI y9) (mus wh (V 2) 1) (mus wh (V 3) 1))))) (show y * 8 = 64 by omega)))
        exact xrv hF hr hlk hP hD hS dX7_putBlock_199
      · have hyl : y < 8 := nInle (a := 8) (b := y) rfl rfl (by decide) (by omega) c_95
        refine lv_iconst (v := 0) hx hb dX7_putBlock_98 (by decide) ?_
        refine lv_istore (lv' := [(8, .int 0), (0, .ref o), (2, .int 0), (3, .int 1), (4, .int 1), (5, .int (nI (bL W md 4))), (6, .int (nI (bT W md 4))), (7, .int (nI y))]) hx hb dX7_putBlock_99 hl (by decide) rfl (fun ls hl => ?_)
        have loop_101 : ∀ (k101 : Nat) (x : Nat), 8 - x < k101 → x ≤ 8 → ∀ (Hp : Heap) (locs : List Loc) (ls : Array Slot), va_P D vwCl [(o, .inr (7, mdF th W H mt qu zz nw ol ne se ke nc ns is ik dc sc 3 md wh fa re ve ps 0 tl di lv bf bo bd co bt ma)), (nw, .inl (cs 0, 4608, .inl (mpB gw W md 4 (mlF W md 4 mf (fun x9 y9 => (mft (lokP gn 1) (wdt 1 W) (wdt 1 H) (nI x9) (nI y9) (mus wh (V 2) 1) (mus wh (V 3) 1)))) (y * 8 + x)))), (ol, .inl (cs 0, 4608, .inl go)), (ne, .inl (cs 0, 4608, .inl gn)), (ve, .inl (cs 0, 4, .inl V)), (ma, .inl (cs 0, 64, .inl mf))] Hp → va_D A [(o, .inr (7, mdF th W H mt qu zz nw ol ne se ke nc ns is ik dc sc 3 md wh fa re ve ps 0 tl di lv bf bo bd co bt ma)), (nw, .inl (cs 0, 4608, .inl (mpB gw W md 4 (mlF W md 4 mf (fun x9 y9 => (mft (lokP gn 1) (wdt 1 W) (wdt 1 H) (nI x9) (nI y9) (mus wh (V 2) 1) (mus wh (V 3) 1)))) (y * 8 + x)))), (ol, .inl (cs 0, 4608, .inl go)), (ne, .inl (cs 0, 4608, .inl gn)), (ve, .inl (cs 0, 4, .inl V)), (ma, .inl (cs 0, 64, .inl mf))] → va_S A s.heap Hp locs → lv_has ls 10 [(0, .ref o), (2, .int 0), (3, .int 1), (4, .int 1), (5, .int (nI (bL W md 4))), (6, .int (nI (bT W md 4))), (7, .int (nI y)), (8, .int (nI x))] → xW p l e ({ frames := 4, cells := 0, slots := 0, locals := 104 } : Room) s m ([.ref o, .int 4, .int 0, .int 1] : List Value).toArray below meth c Hp locs 0 0 (MQ below (xE D A none [(o, .inr (7, mdF th W H mt qu zz nw ol ne se ke nc ns is ik dc sc 3 md wh fa re ve ps 0 tl di lv bf bo bd co bt ma)), (nw, .inl (cs 0, 4608, .inl (mpB gw W md 4 (mlF W md 4 mf (fun x9 y9 => (mft (lokP gn 1) (wdt 1 W) (wdt 1 H) (nI x9) (nI y9) (mus wh (V 2) 1) (mus wh (V 3) 1)))) (64)))), (ol, .inl (cs 0, 4608, .inl go)), (ne, .inl (cs 0, 4608, .inl gn)), (ve, .inl (cs 0, 4, .inl V)), (ma, .inl (cs 0, 64, .inl mf))]) ([.ref o, .int 4, .int 0, .int 1] : List Value).toArray s 0 0 A) (F0 m 101 ls []) := by
          intro k101
          induction k101 with
          | zero => intro x h9; omega
          | succ k101 ih_101 =>
            intro x hk101 hx9 Hp locs ls hP hD hS hl
            refine lv_iload hx hb dX7_putBlock_101 (lv_at hl 7 rfl) ?_
            refine lv_bipush (v := 8) hx hb dX7_putBlock_103 (by decide) ?_
            refine lv_icmp_ge (tgt := 193) hx hb dX7_putBlock_105 (by decide) (fun c_105 => ?_) (fun c_105 => ?_)
            · have ex : x = 8 := by have := nIle (a := 8) (b := x) rfl rfl (by decide) (by omega) c_105; omega
              have hP := xeqP hP (congrArg (fun z9 => ([(o, .inr (7, mdF th W H mt qu zz nw ol ne se ke nc ns is ik dc sc 3 md wh fa re ve ps 0 tl di lv bf bo bd co bt ma)), (nw, .inl (cs 0, 4608, .inl z9)), (ol, .inl (cs 0, 4608, .inl go)), (ne, .inl (cs 0, 4608, .inl gn)), (ve, .inl (cs 0, 4, .inl V)), (ma, .inl (cs 0, 64, .inl mf))] : va_W)) (congrArg (mpB gw W md 4 (mlF W md 4 mf (fun x9 y9 => (mft (lokP gn 1) (wdt 1 W) (wdt 1 H) (nI x9) (nI y9) (mus wh (V 2) 1) (mus wh (V 3) 1))))) (show y * 8 + x = (y + 1) * 8 by omega)))
              have hD := xeqD hD (congrArg (fun z9 => ([(o, .inr (7, mdF th W H mt qu zz nw ol ne se ke nc ns is ik dc sc 3 md wh fa re ve ps 0 tl di lv bf bo bd co bt ma)), (nw, .inl (cs 0, 4608, .inl z9)), (ol, .inl (cs 0, 4608, .inl go)), (ne, .inl (cs 0, 4608, .inl gn)), (ve, .inl (cs 0, 4, .inl V)), (ma, .inl (cs 0, 64, .inl mf))] : va_W)) (congrArg (mpB gw W md 4 (mlF W md 4 mf (fun x9 y9 => (mft (lokP gn 1) (wdt 1 W) (wdt 1 H) (nI x9) (nI y9) (mus wh (V 2) 1) (mus wh (V 3) 1))))) (show y * 8 + x = (y + 1) * 8 by omega)))
              refine lv_iinc (v := (nI (y + 1))) (lv' := [(7, .int (nI (y + 1))), (0, .ref o), (2, .int 0), (3, .int 1), (4, .int 1), (5, .int (nI (bL W md 4))), (6, .int (nI (bT W md 4))), (8, .int (nI x))]) hx hb dX7_putBlock_193 hl (k := 6) rfl (nI_1 y) (by decide) rfl (fun ls hl => ?_)
              refine lv_goto (tgt := 91) hx hb dX7_putBlock_196 (by decide) ?_
              exact ih_91 (y + 1) (by omega) (by omega) _ _ _ hP hD hS (lv_sub hl [1, 2, 3, 4, 5, 6, 0] rfl)
            · have hxl : x < 8 := nInle (a := 8) (b := x) rfl rfl (by decide) (by omega) c_105
              refine lv_aload_n hx hb dX7_putBlock_108 rfl (lv_at hl 0 rfl) ?_
              refine xget (C := RX7) (T := TX7) (N := 34) hF hX hP (by decide +kernel) 0 33 rfl rfl (by decide) (by decide +kernel) rfl dX7_putBlock_109 ?_
              refine lv_bipush (v := 8) hx hb dX7_putBlock_112 (by decide) ?_
              refine lv_iload hx hb dX7_putBlock_114 (lv_at hl 6 rfl) ?_
              refine lv_imul hx hb dX7_putBlock_116 ?_
              refine lv_iload hx hb dX7_putBlock_117 (lv_at hl 7 rfl) ?_
              refine lv_iadd hx hb dX7_putBlock_119 ?_
              refine xrwi (z := nI (y * 8 + x)) (k8 y x) ?_
              refine xald (k := y * 8 + x) hF hX hP 5 rfl (nI_clamp (by omega)) (vp_in_nI (by omega) (by decide)) dX7_putBlock_120 ?_
              refine lv_istore (lv' := [(9, .int (mf (y * 8 + x))), (0, .ref o), (2, .int 0), (3, .int 1), (4, .int 1), (5, .int (nI (bL W md 4))), (6, .int (nI (bT W md 4))), (7, .int (nI y)), (8, .int (nI x))]) hx hb dX7_putBlock_121 hl (by decide) rfl (fun ls hl => ?_)
              refine lv_aload_n hx hb dX7_putBlock_123 rfl (lv_at hl 1 rfl) ?_
              refine xget (C := RX7) (T := TX7) (N := 34) hF hX hP (by decide +kernel) 0 24 rfl rfl (by decide) (by decide +kernel) rfl dX7_putBlock_124 ?_
              refine lv_if_eq (tgt := 135) hx hb dX7_putBlock_127 (by decide) (fun _ => ?_) (fun c_127 => absurd (by decide) c_127)
              refine lv_iload hx hb dX7_putBlock_135 (lv_at hl 0 rfl) ?_
              refine lv_aload_n hx hb dX7_putBlock_137 rfl (lv_at hl 1 rfl) ?_
              refine lv_iload_n hx hb dX7_putBlock_138 rfl (lv_at hl 2 rfl) ?_
              refine lv_iload_n hx hb dX7_putBlock_139 rfl (lv_at hl 3 rfl) ?_
              refine lv_iload hx hb dX7_putBlock_140 (lv_at hl 4 rfl) ?_
              refine lv_iload hx hb dX7_putBlock_142 (lv_at hl 5 rfl) ?_
              refine lv_iload hx hb dX7_putBlock_144 (lv_at hl 8 rfl) ?_
              refine lv_iadd hx hb dX7_putBlock_146 ?_
              refine xrwi (z := nI ((bL W md 4) + x)) (nI_add _ _) ?_
              refine lv_iload hx hb dX7_putBlock_147 (lv_at hl 6 rfl) ?_
              refine lv_iload hx hb dX7_putBlock_149 (lv_at hl 7 rfl) ?_
              refine lv_iadd hx hb dX7_putBlock_151 ?_
              refine xrwi (z := nI ((bT W md 4) + y)) (nI_add _ _) ?_
              refine xV (rest := [.int (mf (y * 8 + x))]) (As := [.int 0, .int 1, .int 1, .int (nI ((bL W md 4) + x)), .int (nI ((bT W md 4) + y))]) (ws1 := [(o, .inr (7, mdF th W H mt qu zz nw ol ne se ke nc ns is ik dc sc 3 md wh fa re ve ps 0 tl di lv bf bo bd co bt ma)), (nw, .inl (cs 0, 4608, .inl (mpB gw W md 4 (mlF W md 4 mf (fun x9 y9 => (mft (lokP gn 1) (wdt 1 W) (wdt 1 H) (nI x9) (nI y9) (mus wh (V 2) 1) (mus wh (V 3) 1)))) (y * 8 + x)))), (ol, .inl (cs 0, 4608, .inl go)), (ne, .inl (cs 0, 4608, .inl gn)), (ve, .inl (cs 0, 4, .inl V)), (ma, .inl (cs 0, 64, .inl mf))]) (st1 := [.int (mft (lokP gn 1) (wdt 1 W) (wdt 1 H) (nI ((bL W md 4) + x)) (nI ((bT W md 4) + y)) (mus wh (V 2) 1) (mus wh (V 3) 1)), .int (mf (y * 8 + x))]) hF (c_X7_fetchedC l D cs tt o mt qu zz nw ol ne se ke re ve ps di lv bd co bt ma W H md th nc ns is ik dc sc wh fa 0 tl bf bo 1 (nI ((bL W md 4) + x)) (nI ((bT W md 4) + y)) go gn V (by decide) hw hw4 hh hh3) gX7_putBlock_X7_fetched rfl (n := 5) (by decide +kernel) rfl ⟨⟨rfl, rfl⟩, Nat.le_of_ble_eq_true rfl, Nat.le_of_ble_eq_true rfl⟩ ⟨Nat.le_of_ble_eq_true rfl, Nat.le_of_ble_eq_true rfl⟩ hX hP hD hS [0, 2, 3, 4] (by decide) rfl [o, ol, ne, ve] rfl rfl (q0 := 0) (ci := 7) rfl rfl rfl hl.1 rfl (Nat.le_of_ble_eq_true rfl) dX7_putBlock_152 rfl rfl (fun Hp locs hP hD hS => ?_)
              refine lv_iadd hx hb dX7_putBlock_155 ?_
              refine lv_istore (lv' := [(9, .int ((mf (y * 8 + x)) + (mft (lokP gn 1) (wdt 1 W) (wdt 1 H) (nI ((bL W md 4) + x)) (nI ((bT W md 4) + y)) (mus wh (V 2) 1) (mus wh (V 3) 1)))), (0, .ref o), (2, .int 0), (3, .int 1), (4, .int 1), (5, .int (nI (bL W md 4))), (6, .int (nI (bT W md 4))), (7, .int (nI y)), (8, .int (nI x))]) hx hb dX7_putBlock_156 hl (by decide) rfl (fun ls hl => ?_)
              refine lv_aload_n hx hb dX7_putBlock_158 rfl (lv_at hl 1 rfl) ?_
              refine xget (C := RX7) (T := TX7) (N := 34) hF hX hP (by decide +kernel) 0 6 rfl rfl (by decide) (by decide +kernel) rfl dX7_putBlock_159 ?_
              refine lv_iload hx hb dX7_putBlock_162 (lv_at hl 4 rfl) ?_
              refine lv_iload hx hb dX7_putBlock_164 (lv_at hl 5 rfl) ?_
              refine lv_iload hx hb dX7_putBlock_166 (lv_at hl 8 rfl) ?_
              refine lv_iadd hx hb dX7_putBlock_168 ?_
              refine xrwi (z := nI ((bL W md 4) + x)) (nI_add _ _) ?_
              refine lv_iload hx hb dX7_putBlock_169 (lv_at hl 6 rfl) ?_
              refine lv_iload hx hb dX7_putBlock_171 (lv_at hl 7 rfl) ?_
              refine lv_iadd hx hb dX7_putBlock_173 ?_
              refine xrwi (z := nI ((bT W md 4) + y)) (nI_add _ _) ?_
              refine xSt (rest := [.ref nw]) (As := [.int 1, .int (nI ((bL W md 4) + x)), .int (nI ((bT W md 4) + y))]) (ws1 := [(o, .inr (7, mdF th W H mt qu zz nw ol ne se ke nc ns is ik dc sc 3 md wh fa re ve ps 0 tl di lv bf bo bd co bt ma)), (nw, .inl (cs 0, 4608, .inl (mpB gw W md 4 (mlF W md 4 mf (fun x9 y9 => (mft (lokP gn 1) (wdt 1 W) (wdt 1 H) (nI x9) (nI y9) (mus wh (V 2) 1) (mus wh (V 3) 1)))) (y * 8 + x)))), (ol, .inl (cs 0, 4608, .inl go)), (ne, .inl (cs 0, 4608, .inl gn)), (ve, .inl (cs 0, 4, .inl V)), (ma, .inl (cs 0, 64, .inl mf))]) (st1 := [.int (nI (plc 1 ((bL W md 4) + x) ((bT W md 4) + y))), .ref nw]) hF (c_X7_place l D cs tt 1 ((bL W md 4) + x) ((bT W md 4) + y) (by decide)) gX7_putBlock_X7_place rfl (n := 3) (by decide +kernel) rfl ⟨⟨rfl, rfl⟩, Nat.le_of_ble_eq_true rfl, Nat.le_of_ble_eq_true rfl⟩ ⟨Nat.le_of_ble_eq_true rfl, Nat.le_of_ble_eq_true rfl⟩ hX hP hD hS [] (by decide) rfl [] rfl rfl hl.1 rfl (Nat.le_of_ble_eq_true rfl) dX7_putBlock_174 rfl rfl (fun Hp locs hP hD hS => ?_)
              refine xrwi (z := nI (3072 + (((bT W md 4) + y) * 32 + ((bL W md 4) + x)))) (by unfold plc; rw [if_neg (by decide), if_pos rfl]; exact congrArg nI (by omega)) ?_
              refine lv_iload hx hb dX7_putBlock_177 (lv_at hl 0 rfl) ?_
              refine lv_iconst (v := 0) hx hb dX7_putBlock_179 (by decide) ?_
              refine lv_sipush (v := 255) hx hb dX7_putBlock_180 (by decide) ?_
              refine xSt (rest := [.int (nI (3072 + (((bT W md 4) + y) * 32 + ((bL W md 4) + x)))), .ref nw]) (As := [.int ((mf (y * 8 + x)) + (mft (lokP gn 1) (wdt 1 W) (wdt 1 H) (nI ((bL W md 4) + x)) (nI ((bT W md 4) + y)) (mus wh (V 2) 1) (mus wh (V 3) 1))), .int 0, .int 255]) (ws1 := [(o, .inr (7, mdF th W H mt qu zz nw ol ne se ke nc ns is ik dc sc 3 md wh fa re ve ps 0 tl di lv bf bo bd co bt ma)), (nw, .inl (cs 0, 4608, .inl (mpB gw W md 4 (mlF W md 4 mf (fun x9 y9 => (mft (lokP gn 1) (wdt 1 W) (wdt 1 H) (nI x9) (nI y9) (mus wh (V 2) 1) (mus wh (V 3) 1)))) (y * 8 + x)))), (ol, .inl (cs 0, 4608, .inl go)), (ne, .inl (cs 0, 4608, .inl gn)), (ve, .inl (cs 0, 4, .inl V)), (ma, .inl (cs 0, 64, .inl mf))]) (st1 := [.int (bnd ((mf (y * 8 + x)) + (mft (lokP gn 1) (wdt 1 W) (wdt 1 H) (nI ((bL W md 4) + x)) (nI ((bT W md 4) + y)) (mus wh (V 2) 1) (mus wh (V 3) 1))) 0 255), .int (nI (3072 + (((bT W md 4) + y) * 32 + ((bL W md 4) + x)))), .ref nw]) hF (c_X7_within l D cs tt ((mf (y * 8 + x)) + (mft (lokP gn 1) (wdt 1 W) (wdt 1 H) (nI ((bL W md 4) + x)) (nI ((bT W md 4) + y)) (mus wh (V 2) 1) (mus wh (V 3) 1))) 0 255) gX7_putBlock_X7_within rfl (n := 3) (by decide +kernel) rfl ⟨⟨rfl, rfl⟩, Nat.le_of_ble_eq_true rfl, Nat.le_of_ble_eq_true rfl⟩ ⟨Nat.le_of_ble_eq_true rfl, Nat.le_of_ble_eq_true rfl⟩ hX hP hD hS [] (by decide) rfl [] rfl rfl hl.1 rfl (Nat.le_of_ble_eq_true rfl) dX7_putBlock_183 rfl rfl (fun Hp locs hP hD hS => ?_)
              refine xast (k := 3072 + (((bT W md 4) + y) * 32 + ((bL W md 4) + x))) (ws1 := [(o, .inr (7, mdF th W H mt qu zz nw ol ne se ke nc ns is ik dc sc 3 md wh fa re ve ps 0 tl di lv bf bo bd co bt ma)), (nw, .inl (cs 0, 4608, .inl (mpB gw W md 4 (mlF W md 4 mf (fun x9 y9 => (mft (lokP gn 1) (wdt 1 W) (wdt 1 H) (nI x9) (nI y9) (mus wh (V 2) 1) (mus wh (V 3) 1)))) (y * 8 + (x + 1))))), (ol, .inl (cs 0, 4608, .inl go)), (ne, .inl (cs 0, 4608, .inl gn)), (ve, .inl (cs 0, 4, .inl V)), (ma, .inl (cs 0, 64, .inl mf))]) hF hX hP hD hS 1 rfl (nI_clamp (by omega)) (vp_in_nI (by omega) (by decide)) dX7_putBlock_186 (congrArg (fun z9 => ([(o, .inr (7, mdF th W H mt qu zz nw ol ne se ke nc ns is ik dc sc 3 md wh fa re ve ps 0 tl di lv bf bo bd co bt ma)), (nw, .inl (cs 0, 4608, .inl z9)), (ol, .inl (cs 0, 4608, .inl go)), (ne, .inl (cs 0, 4608, .inl gn)), (ve, .inl (cs 0, 4, .inl V)), (ma, .inl (cs 0, 64, .inl mf))] : va_W)) (pbs gw (mlF W md 4 mf (fun x9 y9 => (mft (lokP gn 1) (wdt 1 W) (wdt 1 H) (nI x9) (nI y9) (mus wh (V 2) 1) (mus wh (V 3) 1)))) (by unfold mlF; rw [show ((bT W md 4) + y - (bT W md 4)) * 8 + ((bL W md 4) + x - (bL W md 4)) = y * 8 + x by omega]) hxl (show (bL W md 4) + 8 ≤ 32 by omega))) (fun Hp locs hP hD hS => ?_)
              refine lv_iinc (v := (nI (x + 1))) (lv' := [(8, .int (nI (x + 1))), (9, .int ((mf (y * 8 + x)) + (mft (lokP gn 1) (wdt 1 W) (wdt 1 H) (nI ((bL W md 4) + x)) (nI ((bT W md 4) + y)) (mus wh (V 2) 1) (mus wh (V 3) 1)))), (0, .ref o), (2, .int 0), (3, .int 1), (4, .int 1), (5, .int (nI (bL W md 4))), (6, .int (nI (bT W md 4))), (7, .int (nI y))]) hx hb dX7_putBlock_187 hl (k := 8) rfl (nI_1 x) (by decide) rfl (fun ls hl => ?_)
              refine lv_goto (tgt := 101) hx hb dX7_putBlock_190 (by decide) ?_
              exact ih_101 (x + 1) (by omega) (by omega) _ _ _ hP hD hS (lv_sub hl [2, 3, 4, 5, 6, 7, 8, 0] rfl)
        exact loop_101 (8 - 0 + 1) 0 (Nat.lt_succ_self _) (by decide) _ _ _ hP hD hS (lv_sub hl [1, 2, 3, 4, 5, 6, 7, 0] rfl)
  have hP := xeqP hP (congrArg (fun z9 => ([(o, .inr (7, mdF th W H mt qu zz nw ol ne se ke nc ns is ik dc sc 3 md wh fa re ve ps 0 tl di lv bf bo bd co bt ma)), (nw, .inl (cs 0, 4608, .inl z9)), (ol, .inl (cs 0, 4608, .inl go)), (ne, .inl (cs 0, 4608, .inl gn)), (ve, .inl (cs 0, 4, .inl V)), (ma, .inl (cs 0, 64, .inl mf))] : va_W)) ((show gw = mpB gw W md 4 (mlF W md 4 mf (fun x9 y9 => (mft (lokP gn 1) (wdt 1 W) (wdt 1 H) (nI x9) (nI y9) (mus wh (V 2) 1) (mus wh (V 3) 1)))) (0 * 8) from (blkTo_0 gw _ _ _ _ 8 (mlF W md 4 mf (fun x9 y9 => (mft (lokP gn 1) (wdt 1 W) (wdt 1 H) (nI x9) (nI y9) (mus wh (V 2) 1) (mus wh (V 3) 1))))).symm)))
  have hD := xeqD hD (congrArg (fun z9 => ([(o, .inr (7, mdF th W H mt qu zz nw ol ne se ke nc ns is ik dc sc 3 md wh fa re ve ps 0 tl di lv bf bo bd co bt ma)), (nw, .inl (cs 0, 4608, .inl z9)), (ol, .inl (cs 0, 4608, .inl go)), (ne, .inl (cs 0, 4608, .inl gn)), (ve, .inl (cs 0, 4, .inl V)), (ma, .inl (cs 0, 64, .inl mf))] : va_W)) ((show gw = mpB gw W md 4 (mlF W md 4 mf (fun x9 y9 => (mft (lokP gn 1) (wdt 1 W) (wdt 1 H) (nI x9) (nI y9) (mus wh (V 2) 1) (mus wh (V 3) 1)))) (0 * 8) from (blkTo_0 gw _ _ _ _ 8 (mlF W md 4 mf (fun x9 y9 => (mft (lokP gn 1) (wdt 1 W) (wdt 1 H) (nI x9) (nI y9) (mus wh (V 2) 1) (mus wh (V 3) 1))))).symm)))
  exact loop_91 (8 - 0 + 1) 0 (Nat.lt_succ_self _) (by decide) _ _ _ hP hD hS (lv_sub hl [4, 6, 7, 3, 2, 1, 0] rfl)

set_option maxHeartbeats 4000000 in
set_option maxRecDepth 100000 in
theorem c_X7_putBlock4D (l : Launch) (D : va_G) (cs : Nat → ClassId) (tt : Nat → Nat) (o mt qu zz nw ol ne se ke re ve ps di lv bd co bt ma W H md : Nat) (th nc ns is ik dc sc wh fa tl bf bo : Int32) (gw mf go gn V : Nat → Int32) (hw : 1 ≤ W) (hw4 : W ≤ 4) (hh : 1 ≤ H) (hh3 : H ≤ 3) (hmd : md < W * H) : xM l yX7_putBlock wsX7_putBlock ({ frames := 4, cells := 0, slots := 0, locals := 104 } : Room) D cs tt [.ref o, .int 4, .int 1, .int 1] [(o, .inr (7, mdF th W H mt qu zz nw ol ne se ke nc ns is ik dc sc 3 md wh fa re ve ps 0 tl di lv bf bo bd co bt ma)), (nw, .inl (cs 0, 4608, .inl gw)), (ol, .inl (cs 0, 4608, .inl go)), (ne, .inl (cs 0, 4608, .inl gn)), (ve, .inl (cs 0, 4, .inl V)), (ma, .inl (cs 0, 64, .inl mf))] none [(o, .inr (7, mdF th W H mt qu zz nw ol ne se ke nc ns is ik dc sc 3 md wh fa re ve ps 0 tl di lv bf bo bd co bt ma)), (nw, .inl (cs 0, 4608, .inl (mpB gw W md 4 (mlF W md 4 mf (fun x9 y9 => (((mft (lokP go 1) (wdt 1 W) (wdt 1 H) (nI x9) (nI y9) (mus wh (V 0) 1) (mus wh (V 1) 1)) + (mft (lokP gn 1) (wdt 1 W) (wdt 1 H) (nI x9) (nI y9) (mus wh (V 2) 1) (mus wh (V 3) 1)) + 1) >>> (1 &&& 31)))) (64)))), (ol, .inl (cs 0, 4608, .inl go)), (ne, .inl (cs 0, 4608, .inl gn)), (ve, .inl (cs 0, 4, .inl V)), (ma, .inl (cs 0, 64, .inl mf))] := by
  refine xM.of RX7 rfl (by decide) rfl (Nat.le_of_ble_eq_true rfl) ?_
  intro p e s m below meth c A ls hF hr hlk hX hP hD hS hl
  have hx := hF.1
  have hb := hF.2.1
  have hl : lv_has ls 10 [(0, .ref o), (1, .int 4), (2, .int 1), (3, .int 1)] := hl
  have hm4 : md < 4096 := Nat.lt_of_lt_of_le hmd (Nat.le_trans (Nat.mul_le_mul hw4 hh3) (by decide))
  have hb9 := b_in hw hmd 4 (by decide)
  have hbl : (bL W md 4) + 8 ≤ 8 * W := hb9.1
  have hbt : (bT W md 4) + 8 ≤ 8 * H := hb9.2
  have hsL : bL W md 4 = bL W md 4 := rfl
  refine lv_iload_n hx hb dX7_putBlock_0 rfl (lv_at hl 1 rfl) ?_
  refine xSt (rest := []) (As := [.int 4]) (ws1 := [(o, .inr (7, mdF th W H mt qu zz nw ol ne se ke nc ns is ik dc sc 3 md wh fa re ve ps 0 tl di lv bf bo bd co bt ma)), (nw, .inl (cs 0, 4608, .inl gw)), (ol, .inl (cs 0, 4608, .inl go)), (ne, .inl (cs 0, 4608, .inl gn)), (ve, .inl (cs 0, 4, .inl V)), (ma, .inl (cs 0, 64, .inl mf))]) (st1 := [.int (pln 4)]) hF (c_X7_planeOf l D cs tt 4) gX7_putBlock_X7_planeOf rfl (n := 1) (by decide +kernel) rfl ⟨⟨rfl, rfl⟩, Nat.le_of_ble_eq_true rfl, Nat.le_of_ble_eq_true rfl⟩ ⟨Nat.le_of_ble_eq_true rfl, Nat.le_of_ble_eq_true rfl⟩ hX hP hD hS [] (by decide) rfl [] rfl rfl hl.1 rfl (Nat.le_of_ble_eq_true rfl) dX7_putBlock_1 rfl rfl (fun Hp locs hP hD hS => ?_)
  refine xrwi (z := 1) (by decide) ?_
  refine lv_istore (lv' := [(4, .int 1), (0, .ref o), (1, .int 4), (2, .int 1), (3, .int 1)]) hx hb dX7_putBlock_4 hl (by decide) rfl (fun ls hl => ?_)
  refine lv_iload hx hb dX7_putBlock_6 (lv_at hl 0 rfl) ?_
  refine lv_if_ne (tgt := 33) hx hb dX7_putBlock_8 (by decide) (fun _ => ?_) (fun c_8 => absurd c_8 (by decide))
  refine lv_bipush (v := 8) hx hb dX7_putBlock_33 (by decide) ?_
  refine lv_aload_n hx hb dX7_putBlock_35 rfl (lv_at hl 1 rfl) ?_
  refine xget (C := RX7) (T := TX7) (N := 34) hF hX hP (by decide +kernel) 0 18 rfl rfl (by decide) (by decide +kernel) rfl dX7_putBlock_36 ?_
  refine lv_aload_n hx hb dX7_putBlock_39 rfl (lv_at hl 1 rfl) ?_
  refine xget (C := RX7) (T := TX7) (N := 34) hF hX hP (by decide +kernel) 0 1 rfl rfl (by decide) (by decide +kernel) rfl dX7_putBlock_40 ?_
  refine lv_irem hx hb dX7_putBlock_43 (nI_ne0 (by omega) (by omega)) ?_
  refine xrwi (z := nI (md % W)) (pk_rem (by omega) (by omega) (by omega)) ?_
  refine lv_imul hx hb dX7_putBlock_44 ?_
  refine xrwi (z := nI (bL W md 4)) (by rw [show (8 : Int32) * nI (md % W) = nI (8 * (md % W)) from pk_mul 8 _]; exact congrArg nI (show 8 * (md % W) = bL W md 4 by show _ = md % W * 8; omega)) ?_
  refine lv_istore (lv' := [(5, .int (nI (bL W md 4))), (4, .int 1), (0, .ref o), (1, .int 4), (2, .int 1), (3, .int 1)]) hx hb dX7_putBlock_45 hl (by decide) rfl (fun ls hl => ?_)
  refine lv_iload hx hb dX7_putBlock_47 (lv_at hl 1 rfl) ?_
  refine lv_if_ne (tgt := 74) hx hb dX7_putBlock_49 (by decide) (fun _ => ?_) (fun c_49 => absurd c_49 (by decide))
  refine lv_bipush (v := 8) hx hb dX7_putBlock_74 (by decide) ?_
  refine lv_aload_n hx hb dX7_putBlock_76 rfl (lv_at hl 2 rfl) ?_
  refine xget (C := RX7) (T := TX7) (N := 34) hF hX hP (by decide +kernel) 0 18 rfl rfl (by decide) (by decide +kernel) rfl dX7_putBlock_77 ?_
  refine lv_aload_n hx hb dX7_putBlock_80 rfl (lv_at hl 2 rfl) ?_
  refine xget (C := RX7) (T := TX7) (N := 34) hF hX hP (by decide +kernel) 0 1 rfl rfl (by decide) (by decide +kernel) rfl dX7_putBlock_81 ?_
  refine lv_idiv hx hb dX7_putBlock_84 (nI_ne0 (by omega) (by omega)) ?_
  refine xrwi (z := nI (md / W)) (pk_div (by omega) (by omega) (by omega)) ?_
  refine lv_imul hx hb dX7_putBlock_85 ?_
  refine xrwi (z := nI (bT W md 4)) (by rw [show (8 : Int32) * nI (md / W) = nI (8 * (md / W)) from pk_mul 8 _]; exact congrArg nI (show 8 * (md / W) = bT W md 4 by show _ = md / W * 8; omega)) ?_
  refine lv_istore (lv' := [(6, .int (nI (bT W md 4))), (5, .int (nI (bL W md 4))), (4, .int 1), (0, .ref o), (1, .int 4), (2, .int 1), (3, .int 1)]) hx hb dX7_putBlock_86 hl (by decide) rfl (fun ls hl => ?_)
  refine lv_iconst (v := 0) hx hb dX7_putBlock_88 (by decide) ?_
  refine lv_istore (lv' := [(7, .int 0), (6, .int (nI (bT W md 4))), (5, .int (nI (bL W md 4))), (4, .int 1), (0, .ref o), (1, .int 4), (2, .int 1), (3, .int 1)]) hx hb dX7_putBlock_89 hl (by decide) rfl (fun ls hl => ?_)
  have loop_91 : ∀ (k91 : Nat) (y : Nat), 8 - y < k91 → y ≤ 8 → ∀ (Hp : Heap) (locs : List Loc) (ls : Array Slot), va_P D vwCl [(o, .inr (7, mdF th W H mt qu zz nw ol ne se ke nc ns is ik dc sc 3 md wh fa re ve ps 0 tl di lv bf bo bd co bt ma)), (nw, .inl (cs 0, 4608, .inl (mpB gw W md 4 (mlF W md 4 mf (fun x9 y9 => (((mft (lokP go 1) (wdt 1 W) (wdt 1 H) (nI x9) (nI y9) (mus wh (V 0) 1) (mus wh (V 1) 1)) + (mft (lokP gn 1) (wdt 1 W) (wdt 1 H) (nI x9) (nI y9) (mus wh (V 2) 1) (mus wh (V 3) 1)) + 1) >>> (1 &&& 31)))) (y * 8)))), (ol, .inl (cs 0, 4608, .inl go)), (ne, .inl (cs 0, 4608, .inl gn)), (ve, .inl (cs 0, 4, .inl V)), (ma, .inl (cs 0, 64, .inl mf))] Hp → va_D A [(o, .inr (7, mdF th W H mt qu zz nw ol ne se ke nc ns is ik dc sc 3 md wh fa re ve ps 0 tl di lv bf bo bd co bt ma)), (nw, .inl (cs 0, 4608, .inl (mpB gw W md 4 (mlF W md 4 mf (fun x9 y9 => (((mft (lokP go 1) (wdt 1 W) (wdt 1 H) (nI x9) (nI y9) (mus wh (V 0) 1) (mus wh (V 1) 1)) + (mft (lokP gn 1) (wdt 1 W) (wdt 1 H) (nI x9) (nI y9) (mus wh (V 2) 1) (mus wh (V 3) 1)) + 1) >>> (1 &&& 31)))) (y * 8)))), (ol, .inl (cs 0, 4608, .inl go)), (ne, .inl (cs 0, 4608, .inl gn)), (ve, .inl (cs 0, 4, .inl V)), (ma, .inl (cs 0, 64, .inl mf))] → va_S A s.heap Hp locs → lv_has ls 10 [(0, .ref o), (2, .int 1), (3, .int 1), (4, .int 1), (5, .int (nI (bL W md 4))), (6, .int (nI (bT W md 4))), (7, .int (nI y))] → xW p l e ({ frames := 4, cells := 0, slots := 0, locals := 104 } : Room) s m ([.ref o, .int 4, .int 1, .int 1] : List Value).toArray below meth c Hp locs 0 0 (MQ below (xE D A none [(o, .inr (7, mdF th W H mt qu zz nw ol ne se ke nc ns is ik dc sc 3 md wh fa re ve ps 0 tl di lv bf bo bd co bt ma)), (nw, .inl (cs 0, 4608, .inl (mpB gw W md 4 (mlF W md 4 mf (fun x9 y9 => (((mft (lokP go 1) (wdt 1 W) (wdt 1 H) (nI x9) (nI y9) (mus wh (V 0) 1) (mus wh (V 1) 1)) + (mft (lokP gn 1) (wdt 1 W) (wdt 1 H) (nI x9) (nI y9) (mus wh (V 2) 1) (mus wh (V 3) 1)) + 1) >>> (1 &&& 31)))) (64)))), (ol, .inl (cs 0, 4608, .inl go)), (ne, .inl (cs 0, 4608, .inl gn)), (ve, .inl (cs 0, 4, .inl V)), (ma, .inl (cs 0, 64, .inl mf))]) ([.ref o, .int 4, .int 1, .int 1] : List Value).toArray s 0 0 A) (F0 m 91 ls []) := by
    intro k91
    induction k91 with
    | zero => intro y h9; omega
    | succ k91 ih_91 =>
      intro y hk91 hy9 Hp locs ls hP hD hS hl
      refine lv_iload hx hb dX7_putBlock_91 (lv_at hl 6 rfl) ?_
      refine lv_bipush (v := 8) hx hb dX7_putBlock_93 (by decide) ?_
      refine lv_icmp_ge (tgt := 199) hx hb dX7_putBlock_95 (by decide) (fun c_95 => ?_) (fun c_95 => ?_)
      · have ey : y = 8 := by have := nIle (a := 8) (b := y) rfl rfl (by decide) (by omega) c_95; omega
        have hP := xeqP hP (congrArg (fun z9 => ([(o, .inr (7, mdF th W H mt qu zz nw ol ne se ke nc ns is ik dc sc 3 md wh fa re ve ps 0 tl di lv bf bo bd co bt ma)), (nw, .inl (cs 0, 4608, .inl z9)), (ol, .inl (cs 0, 4608, .inl go)), (ne, .inl (cs 0, 4608, .inl gn)), (ve, .inl (cs 0, 4, .inl V)), (ma, .inl (cs 0, 64, .inl mf))] : va_W)) (congrArg (mpB gw W md 4 (mlF W md 4 mf (fun x9 y9 => (((mft (lokP go 1) (wdt 1 W) (wdt 1 H) (nI x9) (nI y9) (mus wh (V 0) 1) (mus wh (V 1) 1)) + (mft (lokP gn 1) (wdt 1 W) (wdt 1 H) (nI x9) (nI y9) (mus wh (V 2) 1) (mus wh (V 3) 1)) + 1) >>> (1 &&& 31))))) (show y * 8 = 64 by omega)))
        have hD := xeqD hD (congrArg (fun z9 => ([(o, .inr (7, mdF th W H mt qu zz nw ol ne se ke nc ns is ik dc sc 3 md wh fa re ve ps 0 tl di lv bf bo bd co bt ma)), (nw, .inl (cs 0, 4608, .inl z9)), (ol, .inl (cs 0, 4608, .inl go)), (ne, .inl (cs 0, 4608, .inl gn)), (ve, .inl (cs 0, 4, .inl V)), (ma, .inl (cs 0, 64, .inl mf))] : va_W)) (congrArg (mpB gw W md 4 (mlF W md 4 mf (fun x9 y9 => (((mft (lokP go 1) (wdt 1 W) (wdt 1 H) (nI x9) (nI y9) (mus wh (V 0) 1) (mus wh (V 1) 1)) + (mft (lokP gn 1) (wdt 1 W) (wdt 1 H) (nI x9) (nI y9) (mus wh (V 2) 1) (mus wh (V 3) 1)) + 1) >>> (1 &&& 31))))) (show y * 8 = 64 by omega)))
        exact xrv hF hr hlk hP hD hS dX7_putBlock_199
      · have hyl : y < 8 := nInle (a := 8) (b := y) rfl rfl (by decide) (by omega) c_95
        refine lv_iconst (v := 0) hx hb dX7_putBlock_98 (by decide) ?_
        refine lv_istore (lv' := [(8, .int 0), (0, .ref o), (2, .int 1), (3, .int 1), (4, .int 1), (5, .int (nI (bL W md 4))), (6, .int (nI (bT W md 4))), (7, .int (nI y))]) hx hb dX7_putBlock_99 hl (by decide) rfl (fun ls hl => ?_)
        have loop_101 : ∀ (k101 : Nat) (x : Nat), 8 - x < k101 → x ≤ 8 → ∀ (Hp : Heap) (locs : List Loc) (ls : Array Slot), va_P D vwCl [(o, .inr (7, mdF th W H mt qu zz nw ol ne se ke nc ns is ik dc sc 3 md wh fa re ve ps 0 tl di lv bf bo bd co bt ma)), (nw, .inl (cs 0, 4608, .inl (mpB gw W md 4 (mlF W md 4 mf (fun x9 y9 => (((mft (lokP go 1) (wdt 1 W) (wdt 1 H) (nI x9) (nI y9) (mus wh (V 0) 1) (mus wh (V 1) 1)) + (mft (lokP gn 1) (wdt 1 W) (wdt 1 H) (nI x9) (nI y9) (mus wh (V 2) 1) (mus wh (V 3) 1)) + 1) >>> (1 &&& 31)))) (y * 8 + x)))), (ol, .inl (cs 0, 4608, .inl go)), (ne, .inl (cs 0, 4608, .inl gn)), (ve, .inl (cs 0, 4, .inl V)), (ma, .inl (cs 0, 64, .inl mf))] Hp → va_D A [(o, .inr (7, mdF th W H mt qu zz nw ol ne se ke nc ns is ik dc sc 3 md wh fa re ve ps 0 tl di lv bf bo bd co bt ma)), (nw, .inl (cs 0, 4608, .inl (mpB gw W md 4 (mlF W md 4 mf (fun x9 y9 => (((mft (lokP go 1) (wdt 1 W) (wdt 1 H) (nI x9) (nI y9) (mus wh (V 0) 1) (mus wh (V 1) 1)) + (mft (lokP gn 1) (wdt 1 W) (wdt 1 H) (nI x9) (nI y9) (mus wh (V 2) 1) (mus wh (V 3) 1)) + 1) >>> (1 &&& 31)))) (y * 8 + x)))), (ol, .inl (cs 0, 4608, .inl go)), (ne, .inl (cs 0, 4608, .inl gn)), (ve, .inl (cs 0, 4, .inl V)), (ma, .inl (cs 0, 64, .inl mf))] → va_S A s.heap Hp locs → lv_has ls 10 [(0, .ref o), (2, .int 1), (3, .int 1), (4, .int 1), (5, .int (nI (bL W md 4))), (6, .int (nI (bT W md 4))), (7, .int (nI y)), (8, .int (nI x))] → xW p l e ({ frames := 4, cells := 0, slots := 0, locals := 104 } : Room) s m ([.ref o, .int 4, .int 1, .int 1] : List Value).toArray below meth c Hp locs 0 0 (MQ below (xE D A none [(o, .inr (7, mdF th W H mt qu zz nw ol ne se ke nc ns is ik dc sc 3 md wh fa re ve ps 0 tl di lv bf bo bd co bt ma)), (nw, .inl (cs 0, 4608, .inl (mpB gw W md 4 (mlF W md 4 mf (fun x9 y9 => (((mft (lokP go 1) (wdt 1 W) (wdt 1 H) (nI x9) (nI y9) (mus wh (V 0) 1) (mus wh (V 1) 1)) + (mft (lokP gn 1) (wdt 1 W) (wdt 1 H) (nI x9) (nI y9) (mus wh (V 2) 1) (mus wh (V 3) 1)) + 1) >>> (1 &&& 31)))) (64)))), (ol, .inl (cs 0, 4608, .inl go)), (ne, .inl (cs 0, 4608, .inl gn)), (ve, .inl (cs 0, 4, .inl V)), (ma, .inl (cs 0, 64, .inl mf))]) ([.ref o, .int 4, .int 1, .int 1] : List Value).toArray s 0 0 A) (F0 m 101 ls []) := by
          intro k101
          induction k101 with
          | zero => intro x h9; omega
          | succ k101 ih_101 =>
            intro x hk101 hx9 Hp locs ls hP hD hS hl
            refine lv_iload hx hb dX7_putBlock_101 (lv_at hl 7 rfl) ?_
            refine lv_bipush (v := 8) hx hb dX7_putBlock_103 (by decide) ?_
            refine lv_icmp_ge (tgt := 193) hx hb dX7_putBlock_105 (by decide) (fun c_105 => ?_) (fun c_105 => ?_)
            · have ex : x = 8 := by have := nIle (a := 8) (b := x) rfl rfl (by decide) (by omega) c_105; omega
              have hP := xeqP hP (congrArg (fun z9 => ([(o, .inr (7, mdF th W H mt qu zz nw ol ne se ke nc ns is ik dc sc 3 md wh fa re ve ps 0 tl di lv bf bo bd co bt ma)), (nw, .inl (cs 0, 4608, .inl z9)), (ol, .inl (cs 0, 4608, .inl go)), (ne, .inl (cs 0, 4608, .inl gn)), (ve, .inl (cs 0, 4, .inl V)), (ma, .inl (cs 0, 64, .inl mf))] : va_W)) (congrArg (mpB gw W md 4 (mlF W md 4 mf (fun x9 y9 => (((mft (lokP go 1) (wdt 1 W) (wdt 1 H) (nI x9) (nI y9) (mus wh (V 0) 1) (mus wh (V 1) 1)) + (mft (lokP gn 1) (wdt 1 W) (wdt 1 H) (nI x9) (nI y9) (mus wh (V 2) 1) (mus wh (V 3) 1)) + 1) >>> (1 &&& 31))))) (show y * 8 + x = (y + 1) * 8 by omega)))
              have hD := xeqD hD (congrArg (fun z9 => ([(o, .inr (7, mdF th W H mt qu zz nw ol ne se ke nc ns is ik dc sc 3 md wh fa re ve ps 0 tl di lv bf bo bd co bt ma)), (nw, .inl (cs 0, 4608, .inl z9)), (ol, .inl (cs 0, 4608, .inl go)), (ne, .inl (cs 0, 4608, .inl gn)), (ve, .inl (cs 0, 4, .inl V)), (ma, .inl (cs 0, 64, .inl mf))] : va_W)) (congrArg (mpB gw W md 4 (mlF W md 4 mf (fun x9 y9 => (((mft (lokP go 1) (wdt 1 W) (wdt 1 H) (nI x9) (nI y9) (mus wh (V 0) 1) (mus wh (V 1) 1)) + (mft (lokP gn 1) (wdt 1 W) (wdt 1 H) (nI x9) (nI y9) (mus wh (V 2) 1) (mus wh (V 3) 1)) + 1) >>> (1 &&& 31))))) (show y * 8 + x = (y + 1) * 8 by omega)))
              refine lv_iinc (v := (nI (y + 1))) (lv' := [(7, .int (nI (y + 1))), (0, .ref o), (2, .int 1), (3, .int 1), (4, .int 1), (5, .int (nI (bL W md 4))), (6, .int (nI (bT W md 4))), (8, .int (nI x))]) hx hb dX7_putBlock_193 hl (k := 6) rfl (nI_1 y) (by decide) rfl (fun ls hl => ?_)
              refine lv_goto (tgt := 91) hx hb dX7_putBlock_196 (by decide) ?_
              exact ih_91 (y + 1) (by omega) (by omega) _ _ _ hP hD hS (lv_sub hl [1, 2, 3, 4, 5, 6, 0] rfl)
            · have hxl : x < 8 := nInle (a := 8) (b := x) rfl rfl (by decide) (by omega) c_105
              refine lv_aload_n hx hb dX7_putBlock_108 rfl (lv_at hl 0 rfl) ?_
              refine xget (C := RX7) (T := TX7) (N := 34) hF hX hP (by decide +kernel) 0 33 rfl rfl (by decide) (by decide +kernel) rfl dX7_putBlock_109 ?_
              refine lv_bipush (v := 8) hx hb dX7_putBlock_112 (by decide) ?_
              refine lv_iload hx hb dX7_putBlock_114 (lv_at hl 6 rfl) ?_
              refine lv_imul hx hb dX7_putBlock_116 ?_
              refine lv_iload hx hb dX7_putBlock_117 (lv_at hl 7 rfl) ?_
              refine lv_iadd hx hb dX7_putBlock_119 ?_
              refine xrwi (z := nI (y * 8 + x)) (k8 y x) ?_
              refine xald (k := y * 8 + x) hF hX hP 5 rfl (nI_clamp (by omega)) (vp_in_nI (by omega) (by decide)) dX7_putBlock_120 ?_
              refine lv_istore (lv' := [(9, .int (mf (y * 8 + x))), (0, .ref o), (2, .int 1), (3, .int 1), (4, .int 1), (5, .int (nI (bL W md 4))), (6, .int (nI (bT W md 4))), (7, .int (nI y)), (8, .int (nI x))]) hx hb dX7_putBlock_121 hl (by decide) rfl (fun ls hl => ?_)
              refine lv_aload_n hx hb dX7_putBlock_123 rfl (lv_at hl 1 rfl) ?_
              refine xget (C := RX7) (T := TX7) (N := 34) hF hX hP (by decide +kernel) 0 24 rfl rfl (by decide) (by decide +kernel) rfl dX7_putBlock_124 ?_
              refine lv_if_eq (tgt := 135) hx hb dX7_putBlock_127 (by decide) (fun _ => ?_) (fun c_127 => absurd (by decide) c_127)
              refine lv_iload hx hb dX7_putBlock_135 (lv_at hl 0 rfl) ?_
              refine lv_aload_n hx hb dX7_putBlock_137 rfl (lv_at hl 1 rfl) ?_
              refine lv_iload_n hx hb dX7_putBlock_138 rfl (lv_at hl 2 rfl) ?_
              refine lv_iload_n hx hb dX7_putBlock_139 rfl (lv_at hl 3 rfl) ?_
              refine lv_iload hx hb dX7_putBlock_140 (lv_at hl 4 rfl) ?_
              refine lv_iload hx hb dX7_putBlock_142 (lv_at hl 5 rfl) ?_
              refine lv_iload hx hb dX7_putBlock_144 (lv_at hl 8 rfl) ?_
              refine lv_iadd hx hb dX7_putBlock_146 ?_
              refine xrwi (z := nI ((bL W md 4) + x)) (nI_add _ _) ?_
              refine lv_iload hx hb dX7_putBlock_147 (lv_at hl 6 rfl) ?_
              refine lv_iload hx hb dX7_putBlock_149 (lv_at hl 7 rfl) ?_
              refine lv_iadd hx hb dX7_putBlock_151 ?_
              refine xrwi (z := nI ((bT W md 4) + y)) (nI_add _ _) ?_
              refine xV (rest := [.int (mf (y * 8 + x))]) (As := [.int 1, .int 1, .int 1, .int (nI ((bL W md 4) + x)), .int (nI ((bT W md 4) + y))]) (ws1 := [(o, .inr (7, mdF th W H mt qu zz nw ol ne se ke nc ns is ik dc sc 3 md wh fa re ve ps 0 tl di lv bf bo bd co bt ma)), (nw, .inl (cs 0, 4608, .inl (mpB gw W md 4 (mlF W md 4 mf (fun x9 y9 => (((mft (lokP go 1) (wdt 1 W) (wdt 1 H) (nI x9) (nI y9) (mus wh (V 0) 1) (mus wh (V 1) 1)) + (mft (lokP gn 1) (wdt 1 W) (wdt 1 H) (nI x9) (nI y9) (mus wh (V 2) 1) (mus wh (V 3) 1)) + 1) >>> (1 &&& 31)))) (y * 8 + x)))), (ol, .inl (cs 0, 4608, .inl go)), (ne, .inl (cs 0, 4608, .inl gn)), (ve, .inl (cs 0, 4, .inl V)), (ma, .inl (cs 0, 64, .inl mf))]) (st1 := [.int (((mft (lokP go 1) (wdt 1 W) (wdt 1 H) (nI ((bL W md 4) + x)) (nI ((bT W md 4) + y)) (mus wh (V 0) 1) (mus wh (V 1) 1)) + (mft (lokP gn 1) (wdt 1 W) (wdt 1 H) (nI ((bL W md 4) + x)) (nI ((bT W md 4) + y)) (mus wh (V 2) 1) (mus wh (V 3) 1)) + 1) >>> (1 &&& 31)), .int (mf (y * 8 + x))]) hF (c_X7_fetchedD l D cs tt o mt qu zz nw ol ne se ke re ve ps di lv bd co bt ma W H md th nc ns is ik dc sc wh fa 0 tl bf bo 1 (nI ((bL W md 4) + x)) (nI ((bT W md 4) + y)) go gn V (by decide) hw hw4 hh hh3) gX7_putBlock_X7_fetched rfl (n := 5) (by decide +kernel) rfl ⟨⟨rfl, rfl⟩, Nat.le_of_ble_eq_true rfl, Nat.le_of_ble_eq_true rfl⟩ ⟨Nat.le_of_ble_eq_true rfl, Nat.le_of_ble_eq_true rfl⟩ hX hP hD hS [0, 2, 3, 4] (by decide) rfl [o, ol, ne, ve] rfl rfl (q0 := 0) (ci := 7) rfl rfl rfl hl.1 rfl (Nat.le_of_ble_eq_true rfl) dX7_putBlock_152 rfl rfl (fun Hp locs hP hD hS => ?_)
              refine lv_iadd hx hb dX7_putBlock_155 ?_
              refine lv_istore (lv' := [(9, .int ((mf (y * 8 + x)) + (((mft (lokP go 1) (wdt 1 W) (wdt 1 H) (nI ((bL W md 4) + x)) (nI ((bT W md 4) + y)) (mus wh (V 0) 1) (mus wh (V 1) 1)) + (mft (lokP gn 1) (wdt 1 W) (wdt 1 H) (nI ((bL W md 4) + x)) (nI ((bT W md 4) + y)) (mus wh (V 2) 1) (mus wh (V 3) 1)) + 1) >>> (1 &&& 31)))), (0, .ref o), (2, .int 1), (3, .int 1), (4, .int 1), (5, .int (nI (bL W md 4))), (6, .int (nI (bT W md 4))), (7, .int (nI y)), (8, .int (nI x))]) hx hb dX7_putBlock_156 hl (by decide) rfl (fun ls hl => ?_)
              refine lv_aload_n hx hb dX7_putBlock_158 rfl (lv_at hl 1 rfl) ?_
              refine xget (C := RX7) (T := TX7) (N := 34) hF hX hP (by decide +kernel) 0 6 rfl rfl (by decide) (by decide +kernel) rfl dX7_putBlock_159 ?_
              refine lv_iload hx hb dX7_putBlock_162 (lv_at hl 4 rfl) ?_
              refine lv_iload hx hb dX7_putBlock_164 (lv_at hl 5 rfl) ?_
              refine lv_iload hx hb dX7_putBlock_166 (lv_at hl 8 rfl) ?_
              refine lv_iadd hx hb dX7_putBlock_168 ?_
              refine xrwi (z := nI ((bL W md 4) + x)) (nI_add _ _) ?_
              refine lv_iload hx hb dX7_putBlock_169 (lv_at hl 6 rfl) ?_
              refine lv_iload hx hb dX7_putBlock_171 (lv_at hl 7 rfl) ?_
              refine lv_iadd hx hb dX7_putBlock_173 ?_
              refine xrwi (z := nI ((bT W md 4) + y)) (nI_add _ _) ?_
              refine xSt (rest := [.ref nw]) (As := [.int 1, .int (nI ((bL W md 4) + x)), .int (nI ((bT W md 4) + y))]) (ws1 := [(o, .inr (7, mdF th W H mt qu zz nw ol ne se ke nc ns is ik dc sc 3 md wh fa re ve ps 0 tl di lv bf bo bd co bt ma)), (nw, .inl (cs 0, 4608, .inl (mpB gw W md 4 (mlF W md 4 mf (fun x9 y9 => (((mft (lokP go 1) (wdt 1 W) (wdt 1 H) (nI x9) (nI y9) (mus wh (V 0) 1) (mus wh (V 1) 1)) + (mft (lokP gn 1) (wdt 1 W) (wdt 1 H) (nI x9) (nI y9) (mus wh (V 2) 1) (mus wh (V 3) 1)) + 1) >>> (1 &&& 31)))) (y * 8 + x)))), (ol, .inl (cs 0, 4608, .inl go)), (ne, .inl (cs 0, 4608, .inl gn)), (ve, .inl (cs 0, 4, .inl V)), (ma, .inl (cs 0, 64, .inl mf))]) (st1 := [.int (nI (plc 1 ((bL W md 4) + x) ((bT W md 4) + y))), .ref nw]) hF (c_X7_place l D cs tt 1 ((bL W md 4) + x) ((bT W md 4) + y) (by decide)) gX7_putBlock_X7_place rfl (n := 3) (by decide +kernel) rfl ⟨⟨rfl, rfl⟩, Nat.le_of_ble_eq_true rfl, Nat.le_of_ble_eq_true rfl⟩ ⟨Nat.le_of_ble_eq_true rfl, Nat.le_of_ble_eq_true rfl⟩ hX hP hD hS [] (by decide) rfl [] rfl rfl hl.1 rfl (Nat.le_of_ble_eq_true rfl) dX7_putBlock_174 rfl rfl (fun Hp locs hP hD hS => ?_)
              refine xrwi (z := nI (3072 + (((bT W md 4) + y) * 32 + ((bL W md 4) + x)))) (by unfold plc; rw [if_neg (by decide), if_pos rfl]; exact congrArg nI (by omega)) ?_
              refine lv_iload hx hb dX7_putBlock_177 (lv_at hl 0 rfl) ?_
              refine lv_iconst (v := 0) hx hb dX7_putBlock_179 (by decide) ?_
              refine lv_sipush (v := 255) hx hb dX7_putBlock_180 (by decide) ?_
              refine xSt (rest := [.int (nI (3072 + (((bT W md 4) + y) * 32 + ((bL W md 4) + x)))), .ref nw]) (As := [.int ((mf (y * 8 + x)) + (((mft (lokP go 1) (wdt 1 W) (wdt 1 H) (nI ((bL W md 4) + x)) (nI ((bT W md 4) + y)) (mus wh (V 0) 1) (mus wh (V 1) 1)) + (mft (lokP gn 1) (wdt 1 W) (wdt 1 H) (nI ((bL W md 4) + x)) (nI ((bT W md 4) + y)) (mus wh (V 2) 1) (mus wh (V 3) 1)) + 1) >>> (1 &&& 31))), .int 0, .int 255]) (ws1 := [(o, .inr (7, mdF th W H mt qu zz nw ol ne se ke nc ns is ik dc sc 3 md wh fa re ve ps 0 tl di lv bf bo bd co bt ma)), (nw, .inl (cs 0, 4608, .inl (mpB gw W md 4 (mlF W md 4 mf (fun x9 y9 => (((mft (lokP go 1) (wdt 1 W) (wdt 1 H) (nI x9) (nI y9) (mus wh (V 0) 1) (mus wh (V 1) 1)) + (mft (lokP gn 1) (wdt 1 W) (wdt 1 H) (nI x9) (nI y9) (mus wh (V 2) 1) (mus wh (V 3) 1)) + 1) >>> (1 &&& 31)))) (y * 8 + x)))), (ol, .inl (cs 0, 4608, .inl go)), (ne, .inl (cs 0, 4608, .inl gn)), (ve, .inl (cs 0, 4, .inl V)), (ma, .inl (cs 0, 64, .inl mf))]) (st1 := [.int (bnd ((mf (y * 8 + x)) + (((mft (lokP go 1) (wdt 1 W) (wdt 1 H) (nI ((bL W md 4) + x)) (nI ((bT W md 4) + y)) (mus wh (V 0) 1) (mus wh (V 1) 1)) + (mft (lokP gn 1) (wdt 1 W) (wdt 1 H) (nI ((bL W md 4) + x)) (nI ((bT W md 4) + y)) (mus wh (V 2) 1) (mus wh (V 3) 1)) + 1) >>> (1 &&& 31))) 0 255), .int (nI (3072 + (((bT W md 4) + y) * 32 + ((bL W md 4) + x)))), .ref nw]) hF (c_X7_within l D cs tt ((mf (y * 8 + x)) + (((mft (lokP go 1) (wdt 1 W) (wdt 1 H) (nI ((bL W md 4) + x)) (nI ((bT W md 4) + y)) (mus wh (V 0) 1) (mus wh (V 1) 1)) + (mft (lokP gn 1) (wdt 1 W) (wdt 1 H) (nI ((bL W md 4) + x)) (nI ((bT W md 4) + y)) (mus wh (V 2) 1) (mus wh (V 3) 1)) + 1) >>> (1 &&& 31))) 0 255) gX7_putBlock_X7_within rfl (n := 3) (by decide +kernel) rfl ⟨⟨rfl, rfl⟩, Nat.le_of_ble_eq_true rfl, Nat.le_of_ble_eq_true rfl⟩ ⟨Nat.le_of_ble_eq_true rfl, Nat.le_of_ble_eq_true rfl⟩ hX hP hD hS [] (by decide) rfl [] rfl rfl hl.1 rfl (Nat.le_of_ble_eq_true rfl) dX7_putBlock_183 rfl rfl (fun Hp locs hP hD hS => ?_)
              refine xast (k := 3072 + (((bT W md 4) + y) * 32 + ((bL W md 4) + x))) (ws1 := [(o, .inr (7, mdF th W H mt qu zz nw ol ne se ke nc ns is ik dc sc 3 md wh fa re ve ps 0 tl di lv bf bo bd co bt ma)), (nw, .inl (cs 0, 4608, .inl (mpB gw W md 4 (mlF W md 4 mf (fun x9 y9 => (((mft (lokP go 1) (wdt 1 W) (wdt 1 H) (nI x9) (nI y9) (mus wh (V 0) 1) (mus wh (V 1) 1)) + (mft (lokP gn 1) (wdt 1 W) (wdt 1 H) (nI x9) (nI y9) (mus wh (V 2) 1) (mus wh (V 3) 1)) + 1) >>> (1 &&& 31)))) (y * 8 + (x + 1))))), (ol, .inl (cs 0, 4608, .inl go)), (ne, .inl (cs 0, 4608, .inl gn)), (ve, .inl (cs 0, 4, .inl V)), (ma, .inl (cs 0, 64, .inl mf))]) hF hX hP hD hS 1 rfl (nI_clamp (by omega)) (vp_in_nI (by omega) (by decide)) dX7_putBlock_186 (congrArg (fun z9 => ([(o, .inr (7, mdF th W H mt qu zz nw ol ne se ke nc ns is ik dc sc 3 md wh fa re ve ps 0 tl di lv bf bo bd co bt ma)), (nw, .inl (cs 0, 4608, .inl z9)), (ol, .inl (cs 0, 4608, .inl go)), (ne, .inl (cs 0, 4608, .inl gn)), (ve, .inl (cs 0, 4, .inl V)), (ma, .inl (cs 0, 64, .inl mf))] : va_W)) (pbs gw (mlF W md 4 mf (fun x9 y9 => (((mft (lokP go 1) (wdt 1 W) (wdt 1 H) (nI x9) (nI y9) (mus wh (V 0) 1) (mus wh (V 1) 1)) + (mft (lokP gn 1) (wdt 1 W) (wdt 1 H) (nI x9) (nI y9) (mus wh (V 2) 1) (mus wh (V 3) 1)) + 1) >>> (1 &&& 31)))) (by unfold mlF; rw [show ((bT W md 4) + y - (bT W md 4)) * 8 + ((bL W md 4) + x - (bL W md 4)) = y * 8 + x by omega]) hxl (show (bL W md 4) + 8 ≤ 32 by omega))) (fun Hp locs hP hD hS => ?_)
              refine lv_iinc (v := (nI (x + 1))) (lv' := [(8, .int (nI (x + 1))), (9, .int ((mf (y * 8 + x)) + (((mft (lokP go 1) (wdt 1 W) (wdt 1 H) (nI ((bL W md 4) + x)) (nI ((bT W md 4) + y)) (mus wh (V 0) 1) (mus wh (V 1) 1)) + (mft (lokP gn 1) (wdt 1 W) (wdt 1 H) (nI ((bL W md 4) + x)) (nI ((bT W md 4) + y)) (mus wh (V 2) 1) (mus wh (V 3) 1)) + 1) >>> (1 &&& 31)))), (0, .ref o), (2, .int 1), (3, .int 1), (4, .int 1), (5, .int (nI (bL W md 4))), (6, .int (nI (bT W md 4))), (7, .int (nI y))]) hx hb dX7_putBlock_187 hl (k := 8) rfl (nI_1 x) (by decide) rfl (fun ls hl => ?_)
              refine lv_goto (tgt := 101) hx hb dX7_putBlock_190 (by decide) ?_
              exact ih_101 (x + 1) (by omega) (by omega) _ _ _ hP hD hS (lv_sub hl [2, 3, 4, 5, 6, 7, 8, 0] rfl)
        exact loop_101 (8 - 0 + 1) 0 (Nat.lt_succ_self _) (by decide) _ _ _ hP hD hS (lv_sub hl [1, 2, 3, 4, 5, 6, 7, 0] rfl)
  have hP := xeqP hP (congrArg (fun z9 => ([(o, .inr (7, mdF th W H mt qu zz nw ol ne se ke nc ns is ik dc sc 3 md wh fa re ve ps 0 tl di lv bf bo bd co bt ma)), (nw, .inl (cs 0, 4608, .inl z9)), (ol, .inl (cs 0, 4608, .inl go)), (ne, .inl (cs 0, 4608, .inl gn)), (ve, .inl (cs 0, 4, .inl V)), (ma, .inl (cs 0, 64, .inl mf))] : va_W)) ((show gw = mpB gw W md 4 (mlF W md 4 mf (fun x9 y9 => (((mft (lokP go 1) (wdt 1 W) (wdt 1 H) (nI x9) (nI y9) (mus wh (V 0) 1) (mus wh (V 1) 1)) + (mft (lokP gn 1) (wdt 1 W) (wdt 1 H) (nI x9) (nI y9) (mus wh (V 2) 1) (mus wh (V 3) 1)) + 1) >>> (1 &&& 31)))) (0 * 8) from (blkTo_0 gw _ _ _ _ 8 (mlF W md 4 mf (fun x9 y9 => (((mft (lokP go 1) (wdt 1 W) (wdt 1 H) (nI x9) (nI y9) (mus wh (V 0) 1) (mus wh (V 1) 1)) + (mft (lokP gn 1) (wdt 1 W) (wdt 1 H) (nI x9) (nI y9) (mus wh (V 2) 1) (mus wh (V 3) 1)) + 1) >>> (1 &&& 31))))).symm)))
  have hD := xeqD hD (congrArg (fun z9 => ([(o, .inr (7, mdF th W H mt qu zz nw ol ne se ke nc ns is ik dc sc 3 md wh fa re ve ps 0 tl di lv bf bo bd co bt ma)), (nw, .inl (cs 0, 4608, .inl z9)), (ol, .inl (cs 0, 4608, .inl go)), (ne, .inl (cs 0, 4608, .inl gn)), (ve, .inl (cs 0, 4, .inl V)), (ma, .inl (cs 0, 64, .inl mf))] : va_W)) ((show gw = mpB gw W md 4 (mlF W md 4 mf (fun x9 y9 => (((mft (lokP go 1) (wdt 1 W) (wdt 1 H) (nI x9) (nI y9) (mus wh (V 0) 1) (mus wh (V 1) 1)) + (mft (lokP gn 1) (wdt 1 W) (wdt 1 H) (nI x9) (nI y9) (mus wh (V 2) 1) (mus wh (V 3) 1)) + 1) >>> (1 &&& 31)))) (0 * 8) from (blkTo_0 gw _ _ _ _ 8 (mlF W md 4 mf (fun x9 y9 => (((mft (lokP go 1) (wdt 1 W) (wdt 1 H) (nI x9) (nI y9) (mus wh (V 0) 1) (mus wh (V 1) 1)) + (mft (lokP gn 1) (wdt 1 W) (wdt 1 H) (nI x9) (nI y9) (mus wh (V 2) 1) (mus wh (V 3) 1)) + 1) >>> (1 &&& 31))))).symm)))
  exact loop_91 (8 - 0 + 1) 0 (Nat.lt_succ_self _) (by decide) _ _ _ hP hD hS (lv_sub hl [4, 6, 7, 3, 2, 1, 0] rfl)

set_option maxHeartbeats 4000000 in
set_option maxRecDepth 100000 in
theorem c_X7_putBlock5O (l : Launch) (D : va_G) (cs : Nat → ClassId) (tt : Nat → Nat) (o mt qu zz nw ol ne se ke re ve ps di lv bd co bt ma W H md : Nat) (th nc ns is ik dc sc kd wh fa tl bf bo : Int32) (fw bw : Int32) (gw mf : Nat → Int32) (hw : 1 ≤ W) (hw4 : W ≤ 4) (hh : 1 ≤ H) (hh3 : H ≤ 3) (hmd : md < W * H) : xM l yX7_putBlock wsX7_putBlock ({ frames := 4, cells := 0, slots := 0, locals := 104 } : Room) D cs tt [.ref o, .int 5, .int fw, .int bw] [(o, .inr (7, mdF th W H mt qu zz nw ol ne se ke nc ns is ik dc sc kd md wh fa re ve ps 1 tl di lv bf bo bd co bt ma)), (nw, .inl (cs 0, 4608, .inl gw)), (ma, .inl (cs 0, 64, .inl mf))] none [(o, .inr (7, mdF th W H mt qu zz nw ol ne se ke nc ns is ik dc sc kd md wh fa re ve ps 1 tl di lv bf bo bd co bt ma)), (nw, .inl (cs 0, 4608, .inl (mpB gw W md 5 (mlO W md 5 mf) (64)))), (ma, .inl (cs 0, 64, .inl mf))] := by
  refine xM.of RX7 rfl (by decide) rfl (Nat.le_of_ble_eq_true rfl) ?_
  intro p e s m below meth c A ls hF hr hlk hX hP hD hS hl
  have hx := hF.1
  have hb := hF.2.1
  have hl : lv_has ls 10 [(0, .ref o), (1, .int 5), (2, .int fw), (3, .int bw)] := hl
  have hm4 : md < 4096 := Nat.lt_of_lt_of_le hmd (Nat.le_trans (Nat.mul_le_mul hw4 hh3) (by decide))
  have hb9 := b_in hw hmd 5 (by decide)
  have hbl : (bL W md 5) + 8 ≤ 8 * W := hb9.1
  have hbt : (bT W md 5) + 8 ≤ 8 * H := hb9.2
  have hsL : bL W md 5 = bL W md 5 := rfl
  refine lv_iload_n hx hb dX7_putBlock_0 rfl (lv_at hl 1 rfl) ?_
  refine xSt (rest := []) (As := [.int 5]) (ws1 := [(o, .inr (7, mdF th W H mt qu zz nw ol ne se ke nc ns is ik dc sc kd md wh fa re ve ps 1 tl di lv bf bo bd co bt ma)), (nw, .inl (cs 0, 4608, .inl gw)), (ma, .inl (cs 0, 64, .inl mf))]) (st1 := [.int (pln 5)]) hF (c_X7_planeOf l D cs tt 5) gX7_putBlock_X7_planeOf rfl (n := 1) (by decide +kernel) rfl ⟨⟨rfl, rfl⟩, Nat.le_of_ble_eq_true rfl, Nat.le_of_ble_eq_true rfl⟩ ⟨Nat.le_of_ble_eq_true rfl, Nat.le_of_ble_eq_true rfl⟩ hX hP hD hS [] (by decide) rfl [] rfl rfl hl.1 rfl (Nat.le_of_ble_eq_true rfl) dX7_putBlock_1 rfl rfl (fun Hp locs hP hD hS => ?_)
  refine xrwi (z := 2) (by decide) ?_
  refine lv_istore (lv' := [(4, .int 2), (0, .ref o), (1, .int 5), (2, .int fw), (3, .int bw)]) hx hb dX7_putBlock_4 hl (by decide) rfl (fun ls hl => ?_)
  refine lv_iload hx hb dX7_putBlock_6 (lv_at hl 0 rfl) ?_
  refine lv_if_ne (tgt := 33) hx hb dX7_putBlock_8 (by decide) (fun _ => ?_) (fun c_8 => absurd c_8 (by decide))
  refine lv_bipush (v := 8) hx hb dX7_putBlock_33 (by decide) ?_
  refine lv_aload_n hx hb dX7_putBlock_35 rfl (lv_at hl 1 rfl) ?_
  refine xget (C := RX7) (T := TX7) (N := 34) hF hX hP (by decide +kernel) 0 18 rfl rfl (by decide) (by decide +kernel) rfl dX7_putBlock_36 ?_
  refine lv_aload_n hx hb dX7_putBlock_39 rfl (lv_at hl 1 rfl) ?_
  refine xget (C := RX7) (T := TX7) (N := 34) hF hX hP (by decide +kernel) 0 1 rfl rfl (by decide) (by decide +kernel) rfl dX7_putBlock_40 ?_
  refine lv_irem hx hb dX7_putBlock_43 (nI_ne0 (by omega) (by omega)) ?_
  refine xrwi (z := nI (md % W)) (pk_rem (by omega) (by omega) (by omega)) ?_
  refine lv_imul hx hb dX7_putBlock_44 ?_
  refine xrwi (z := nI (bL W md 5)) (by rw [show (8 : Int32) * nI (md % W) = nI (8 * (md % W)) from pk_mul 8 _]; exact congrArg nI (show 8 * (md % W) = bL W md 5 by show _ = md % W * 8; omega)) ?_
  refine lv_istore (lv' := [(5, .int (nI (bL W md 5))), (4, .int 2), (0, .ref o), (1, .int 5), (2, .int fw), (3, .int bw)]) hx hb dX7_putBlock_45 hl (by decide) rfl (fun ls hl => ?_)
  refine lv_iload hx hb dX7_putBlock_47 (lv_at hl 1 rfl) ?_
  refine lv_if_ne (tgt := 74) hx hb dX7_putBlock_49 (by decide) (fun _ => ?_) (fun c_49 => absurd c_49 (by decide))
  refine lv_bipush (v := 8) hx hb dX7_putBlock_74 (by decide) ?_
  refine lv_aload_n hx hb dX7_putBlock_76 rfl (lv_at hl 2 rfl) ?_
  refine xget (C := RX7) (T := TX7) (N := 34) hF hX hP (by decide +kernel) 0 18 rfl rfl (by decide) (by decide +kernel) rfl dX7_putBlock_77 ?_
  refine lv_aload_n hx hb dX7_putBlock_80 rfl (lv_at hl 2 rfl) ?_
  refine xget (C := RX7) (T := TX7) (N := 34) hF hX hP (by decide +kernel) 0 1 rfl rfl (by decide) (by decide +kernel) rfl dX7_putBlock_81 ?_
  refine lv_idiv hx hb dX7_putBlock_84 (nI_ne0 (by omega) (by omega)) ?_
  refine xrwi (z := nI (md / W)) (pk_div (by omega) (by omega) (by omega)) ?_
  refine lv_imul hx hb dX7_putBlock_85 ?_
  refine xrwi (z := nI (bT W md 5)) (by rw [show (8 : Int32) * nI (md / W) = nI (8 * (md / W)) from pk_mul 8 _]; exact congrArg nI (show 8 * (md / W) = bT W md 5 by show _ = md / W * 8; omega)) ?_
  refine lv_istore (lv' := [(6, .int (nI (bT W md 5))), (5, .int (nI (bL W md 5))), (4, .int 2), (0, .ref o), (1, .int 5), (2, .int fw), (3, .int bw)]) hx hb dX7_putBlock_86 hl (by decide) rfl (fun ls hl => ?_)
  refine lv_iconst (v := 0) hx hb dX7_putBlock_88 (by decide) ?_
  refine lv_istore (lv' := [(7, .int 0), (6, .int (nI (bT W md 5))), (5, .int (nI (bL W md 5))), (4, .int 2), (0, .ref o), (1, .int 5), (2, .int fw), (3, .int bw)]) hx hb dX7_putBlock_89 hl (by decide) rfl (fun ls hl => ?_)
  have loop_91 : ∀ (k91 : Nat) (y : Nat), 8 - y < k91 → y ≤ 8 → ∀ (Hp : Heap) (locs : List Loc) (ls : Array Slot), va_P D vwCl [(o, .inr (7, mdF th W H mt qu zz nw ol ne se ke nc ns is ik dc sc kd md wh fa re ve ps 1 tl di lv bf bo bd co bt ma)), (nw, .inl (cs 0, 4608, .inl (mpB gw W md 5 (mlO W md 5 mf) (y * 8)))), (ma, .inl (cs 0, 64, .inl mf))] Hp → va_D A [(o, .inr (7, mdF th W H mt qu zz nw ol ne se ke nc ns is ik dc sc kd md wh fa re ve ps 1 tl di lv bf bo bd co bt ma)), (nw, .inl (cs 0, 4608, .inl (mpB gw W md 5 (mlO W md 5 mf) (y * 8)))), (ma, .inl (cs 0, 64, .inl mf))] → va_S A s.heap Hp locs → lv_has ls 10 [(0, .ref o), (2, .int fw), (3, .int bw), (4, .int 2), (5, .int (nI (bL W md 5))), (6, .int (nI (bT W md 5))), (7, .int (nI y))] → xW p l e ({ frames := 4, cells := 0, slots := 0, locals := 104 } : Room) s m ([.ref o, .int 5, .int fw, .int bw] : List Value).toArray below meth c Hp locs 0 0 (MQ below (xE D A none [(o, .inr (7, mdF th W H mt qu zz nw ol ne se ke nc ns is ik dc sc kd md wh fa re ve ps 1 tl di lv bf bo bd co bt ma)), (nw, .inl (cs 0, 4608, .inl (mpB gw W md 5 (mlO W md 5 mf) (64)))), (ma, .inl (cs 0, 64, .inl mf))]) ([.ref o, .int 5, .int fw, .int bw] : List Value).toArray s 0 0 A) (F0 m 91 ls []) := by
    intro k91
    induction k91 with
    | zero => intro y h9; omega
    | succ k91 ih_91 =>
      intro y hk91 hy9 Hp locs ls hP hD hS hl
      refine lv_iload hx hb dX7_putBlock_91 (lv_at hl 6 rfl) ?_
      refine lv_bipush (v := 8) hx hb dX7_putBlock_93 (by decide) ?_
      refine lv_icmp_ge (tgt := 199) hx hb dX7_putBlock_95 (by decide) (fun c_95 => ?_) (fun c_95 => ?_)
      · have ey : y = 8 := by have := nIle (a := 8) (b := y) rfl rfl (by decide) (by omega) c_95; omega
        have hP := xeqP hP (congrArg (fun z9 => ([(o, .inr (7, mdF th W H mt qu zz nw ol ne se ke nc ns is ik dc sc kd md wh fa re ve ps 1 tl di lv bf bo bd co bt ma)), (nw, .inl (cs 0, 4608, .inl z9)), (ma, .inl (cs 0, 64, .inl mf))] : va_W)) (congrArg (mpB gw W md 5 (mlO W md 5 mf)) (show y * 8 = 64 by omega)))
        have hD := xeqD hD (congrArg (fun z9 => ([(o, .inr (7, mdF th W H mt qu zz nw ol ne se ke nc ns is ik dc sc kd md wh fa re ve ps 1 tl di lv bf bo bd co bt ma)), (nw, .inl (cs 0, 4608, .inl z9)), (ma, .inl (cs 0, 64, .inl mf))] : va_W)) (congrArg (mpB gw W md 5 (mlO W md 5 mf)) (show y * 8 = 64 by omega)))
        exact xrv hF hr hlk hP hD hS dX7_putBlock_199
      · have hyl : y < 8 := nInle (a := 8) (b := y) rfl rfl (by decide) (by omega) c_95
        refine lv_iconst (v := 0) hx hb dX7_putBlock_98 (by decide) ?_
        refine lv_istore (lv' := [(8, .int 0), (0, .ref o), (2, .int fw), (3, .int bw), (4, .int 2), (5, .int (nI (bL W md 5))), (6, .int (nI (bT W md 5))), (7, .int (nI y))]) hx hb dX7_putBlock_99 hl (by decide) rfl (fun ls hl => ?_)
        have loop_101 : ∀ (k101 : Nat) (x : Nat), 8 - x < k101 → x ≤ 8 → ∀ (Hp : Heap) (locs : List Loc) (ls : Array Slot), va_P D vwCl [(o, .inr (7, mdF th W H mt qu zz nw ol ne se ke nc ns is ik dc sc kd md wh fa re ve ps 1 tl di lv bf bo bd co bt ma)), (nw, .inl (cs 0, 4608, .inl (mpB gw W md 5 (mlO W md 5 mf) (y * 8 + x)))), (ma, .inl (cs 0, 64, .inl mf))] Hp → va_D A [(o, .inr (7, mdF th W H mt qu zz nw ol ne se ke nc ns is ik dc sc kd md wh fa re ve ps 1 tl di lv bf bo bd co bt ma)), (nw, .inl (cs 0, 4608, .inl (mpB gw W md 5 (mlO W md 5 mf) (y * 8 + x)))), (ma, .inl (cs 0, 64, .inl mf))] → va_S A s.heap Hp locs → lv_has ls 10 [(0, .ref o), (2, .int fw), (3, .int bw), (4, .int 2), (5, .int (nI (bL W md 5))), (6, .int (nI (bT W md 5))), (7, .int (nI y)), (8, .int (nI x))] → xW p l e ({ frames := 4, cells := 0, slots := 0, locals := 104 } : Room) s m ([.ref o, .int 5, .int fw, .int bw] : List Value).toArray below meth c Hp locs 0 0 (MQ below (xE D A none [(o, .inr (7, mdF th W H mt qu zz nw ol ne se ke nc ns is ik dc sc kd md wh fa re ve ps 1 tl di lv bf bo bd co bt ma)), (nw, .inl (cs 0, 4608, .inl (mpB gw W md 5 (mlO W md 5 mf) (64)))), (ma, .inl (cs 0, 64, .inl mf))]) ([.ref o, .int 5, .int fw, .int bw] : List Value).toArray s 0 0 A) (F0 m 101 ls []) := by
          intro k101
          induction k101 with
          | zero => intro x h9; omega
          | succ k101 ih_101 =>
            intro x hk101 hx9 Hp locs ls hP hD hS hl
            refine lv_iload hx hb dX7_putBlock_101 (lv_at hl 7 rfl) ?_
            refine lv_bipush (v := 8) hx hb dX7_putBlock_103 (by decide) ?_
            refine lv_icmp_ge (tgt := 193) hx hb dX7_putBlock_105 (by decide) (fun c_105 => ?_) (fun c_105 => ?_)
            · have ex : x = 8 := by have := nIle (a := 8) (b := x) rfl rfl (by decide) (by omega) c_105; omega
              have hP := xeqP hP (congrArg (fun z9 => ([(o, .inr (7, mdF th W H mt qu zz nw ol ne se ke nc ns is ik dc sc kd md wh fa re ve ps 1 tl di lv bf bo bd co bt ma)), (nw, .inl (cs 0, 4608, .inl z9)), (ma, .inl (cs 0, 64, .inl mf))] : va_W)) (congrArg (mpB gw W md 5 (mlO W md 5 mf)) (show y * 8 + x = (y + 1) * 8 by omega)))
              have hD := xeqD hD (congrArg (fun z9 => ([(o, .inr (7, mdF th W H mt qu zz nw ol ne se ke nc ns is ik dc sc kd md wh fa re ve ps 1 tl di lv bf bo bd co bt ma)), (nw, .inl (cs 0, 4608, .inl z9)), (ma, .inl (cs 0, 64, .inl mf))] : va_W)) (congrArg (mpB gw W md 5 (mlO W md 5 mf)) (show y * 8 + x = (y + 1) * 8 by omega)))
              refine lv_iinc (v := (nI (y + 1))) (lv' := [(7, .int (nI (y + 1))), (0, .ref o), (2, .int fw), (3, .int bw), (4, .int 2), (5, .int (nI (bL W md 5))), (6, .int (nI (bT W md 5))), (8, .int (nI x))]) hx hb dX7_putBlock_193 hl (k := 6) rfl (nI_1 y) (by decide) rfl (fun ls hl => ?_)
              refine lv_goto (tgt := 91) hx hb dX7_putBlock_196 (by decide) ?_
              exact ih_91 (y + 1) (by omega) (by omega) _ _ _ hP hD hS (lv_sub hl [1, 2, 3, 4, 5, 6, 0] rfl)
            · have hxl : x < 8 := nInle (a := 8) (b := x) rfl rfl (by decide) (by omega) c_105
              refine lv_aload_n hx hb dX7_putBlock_108 rfl (lv_at hl 0 rfl) ?_
              refine xget (C := RX7) (T := TX7) (N := 34) hF hX hP (by decide +kernel) 0 33 rfl rfl (by decide) (by decide +kernel) rfl dX7_putBlock_109 ?_
              refine lv_bipush (v := 8) hx hb dX7_putBlock_112 (by decide) ?_
              refine lv_iload hx hb dX7_putBlock_114 (lv_at hl 6 rfl) ?_
              refine lv_imul hx hb dX7_putBlock_116 ?_
              refine lv_iload hx hb dX7_putBlock_117 (lv_at hl 7 rfl) ?_
              refine lv_iadd hx hb dX7_putBlock_119 ?_
              refine xrwi (z := nI (y * 8 + x)) (k8 y x) ?_
              refine xald (k := y * 8 + x) hF hX hP 2 rfl (nI_clamp (by omega)) (vp_in_nI (by omega) (by decide)) dX7_putBlock_120 ?_
              refine lv_istore (lv' := [(9, .int (mf (y * 8 + x))), (0, .ref o), (2, .int fw), (3, .int bw), (4, .int 2), (5, .int (nI (bL W md 5))), (6, .int (nI (bT W md 5))), (7, .int (nI y)), (8, .int (nI x))]) hx hb dX7_putBlock_121 hl (by decide) rfl (fun ls hl => ?_)
              refine lv_aload_n hx hb dX7_putBlock_123 rfl (lv_at hl 1 rfl) ?_
              refine xget (C := RX7) (T := TX7) (N := 34) hF hX hP (by decide +kernel) 0 24 rfl rfl (by decide) (by decide +kernel) rfl dX7_putBlock_124 ?_
              refine lv_if_eq (tgt := 135) hx hb dX7_putBlock_127 (by decide) (fun c_127 => absurd c_127 (by decide)) (fun _ => ?_)
              refine lv_iload hx hb dX7_putBlock_130 (lv_at hl 0 rfl) ?_
              refine lv_goto (tgt := 156) hx hb dX7_putBlock_132 (by decide) ?_
              refine lv_istore (lv' := [(9, .int (mf (y * 8 + x))), (0, .ref o), (2, .int fw), (3, .int bw), (4, .int 2), (5, .int (nI (bL W md 5))), (6, .int (nI (bT W md 5))), (7, .int (nI y)), (8, .int (nI x))]) hx hb dX7_putBlock_156 hl (by decide) rfl (fun ls hl => ?_)
              refine lv_aload_n hx hb dX7_putBlock_158 rfl (lv_at hl 1 rfl) ?_
              refine xget (C := RX7) (T := TX7) (N := 34) hF hX hP (by decide +kernel) 0 6 rfl rfl (by decide) (by decide +kernel) rfl dX7_putBlock_159 ?_
              refine lv_iload hx hb dX7_putBlock_162 (lv_at hl 4 rfl) ?_
              refine lv_iload hx hb dX7_putBlock_164 (lv_at hl 5 rfl) ?_
              refine lv_iload hx hb dX7_putBlock_166 (lv_at hl 8 rfl) ?_
              refine lv_iadd hx hb dX7_putBlock_168 ?_
              refine xrwi (z := nI ((bL W md 5) + x)) (nI_add _ _) ?_
              refine lv_iload hx hb dX7_putBlock_169 (lv_at hl 6 rfl) ?_
              refine lv_iload hx hb dX7_putBlock_171 (lv_at hl 7 rfl) ?_
              refine lv_iadd hx hb dX7_putBlock_173 ?_
              refine xrwi (z := nI ((bT W md 5) + y)) (nI_add _ _) ?_
              refine xSt (rest := [.ref nw]) (As := [.int 2, .int (nI ((bL W md 5) + x)), .int (nI ((bT W md 5) + y))]) (ws1 := [(o, .inr (7, mdF th W H mt qu zz nw ol ne se ke nc ns is ik dc sc kd md wh fa re ve ps 1 tl di lv bf bo bd co bt ma)), (nw, .inl (cs 0, 4608, .inl (mpB gw W md 5 (mlO W md 5 mf) (y * 8 + x)))), (ma, .inl (cs 0, 64, .inl mf))]) (st1 := [.int (nI (plc 2 ((bL W md 5) + x) ((bT W md 5) + y))), .ref nw]) hF (c_X7_place l D cs tt 2 ((bL W md 5) + x) ((bT W md 5) + y) (by decide)) gX7_putBlock_X7_place rfl (n := 3) (by decide +kernel) rfl ⟨⟨rfl, rfl⟩, Nat.le_of_ble_eq_true rfl, Nat.le_of_ble_eq_true rfl⟩ ⟨Nat.le_of_ble_eq_true rfl, Nat.le_of_ble_eq_true rfl⟩ hX hP hD hS [] (by decide) rfl [] rfl rfl hl.1 rfl (Nat.le_of_ble_eq_true rfl) dX7_putBlock_174 rfl rfl (fun Hp locs hP hD hS => ?_)
              refine xrwi (z := nI (3840 + (((bT W md 5) + y) * 32 + ((bL W md 5) + x)))) (by unfold plc; rw [if_neg (by decide), if_neg (by decide)]; exact congrArg nI (by omega)) ?_
              refine lv_iload hx hb dX7_putBlock_177 (lv_at hl 0 rfl) ?_
              refine lv_iconst (v := 0) hx hb dX7_putBlock_179 (by decide) ?_
              refine lv_sipush (v := 255) hx hb dX7_putBlock_180 (by decide) ?_
              refine xSt (rest := [.int (nI (3840 + (((bT W md 5) + y) * 32 + ((bL W md 5) + x)))), .ref nw]) (As := [.int (mf (y * 8 + x)), .int 0, .int 255]) (ws1 := [(o, .inr (7, mdF th W H mt qu zz nw ol ne se ke nc ns is ik dc sc kd md wh fa re ve ps 1 tl di lv bf bo bd co bt ma)), (nw, .inl (cs 0, 4608, .inl (mpB gw W md 5 (mlO W md 5 mf) (y * 8 + x)))), (ma, .inl (cs 0, 64, .inl mf))]) (st1 := [.int (bnd (mf (y * 8 + x)) 0 255), .int (nI (3840 + (((bT W md 5) + y) * 32 + ((bL W md 5) + x)))), .ref nw]) hF (c_X7_within l D cs tt (mf (y * 8 + x)) 0 255) gX7_putBlock_X7_within rfl (n := 3) (by decide +kernel) rfl ⟨⟨rfl, rfl⟩, Nat.le_of_ble_eq_true rfl, Nat.le_of_ble_eq_true rfl⟩ ⟨Nat.le_of_ble_eq_true rfl, Nat.le_of_ble_eq_true rfl⟩ hX hP hD hS [] (by decide) rfl [] rfl rfl hl.1 rfl (Nat.le_of_ble_eq_true rfl) dX7_putBlock_183 rfl rfl (fun Hp locs hP hD hS => ?_)
              refine xast (k := 3840 + (((bT W md 5) + y) * 32 + ((bL W md 5) + x))) (ws1 := [(o, .inr (7, mdF th W H mt qu zz nw ol ne se ke nc ns is ik dc sc kd md wh fa re ve ps 1 tl di lv bf bo bd co bt ma)), (nw, .inl (cs 0, 4608, .inl (mpB gw W md 5 (mlO W md 5 mf) (y * 8 + (x + 1))))), (ma, .inl (cs 0, 64, .inl mf))]) hF hX hP hD hS 1 rfl (nI_clamp (by omega)) (vp_in_nI (by omega) (by decide)) dX7_putBlock_186 (congrArg (fun z9 => ([(o, .inr (7, mdF th W H mt qu zz nw ol ne se ke nc ns is ik dc sc kd md wh fa re ve ps 1 tl di lv bf bo bd co bt ma)), (nw, .inl (cs 0, 4608, .inl z9)), (ma, .inl (cs 0, 64, .inl mf))] : va_W)) (pbs gw (mlO W md 5 mf) (by unfold mlO; rw [show ((bT W md 5) + y - (bT W md 5)) * 8 + ((bL W md 5) + x - (bL W md 5)) = y * 8 + x by omega]) hxl (show (bL W md 5) + 8 ≤ 32 by omega))) (fun Hp locs hP hD hS => ?_)
              refine lv_iinc (v := (nI (x + 1))) (lv' := [(8, .int (nI (x + 1))), (9, .int (mf (y * 8 + x))), (0, .ref o), (2, .int fw), (3, .int bw), (4, .int 2), (5, .int (nI (bL W md 5))), (6, .int (nI (bT W md 5))), (7, .int (nI y))]) hx hb dX7_putBlock_187 hl (k := 8) rfl (nI_1 x) (by decide) rfl (fun ls hl => ?_)
              refine lv_goto (tgt := 101) hx hb dX7_putBlock_190 (by decide) ?_
              exact ih_101 (x + 1) (by omega) (by omega) _ _ _ hP hD hS (lv_sub hl [2, 3, 4, 5, 6, 7, 8, 0] rfl)
        exact loop_101 (8 - 0 + 1) 0 (Nat.lt_succ_self _) (by decide) _ _ _ hP hD hS (lv_sub hl [1, 2, 3, 4, 5, 6, 7, 0] rfl)
  have hP := xeqP hP (congrArg (fun z9 => ([(o, .inr (7, mdF th W H mt qu zz nw ol ne se ke nc ns is ik dc sc kd md wh fa re ve ps 1 tl di lv bf bo bd co bt ma)), (nw, .inl (cs 0, 4608, .inl z9)), (ma, .inl (cs 0, 64, .inl mf))] : va_W)) ((show gw = mpB gw W md 5 (mlO W md 5 mf) (0 * 8) from (blkTo_0 gw _ _ _ _ 8 (mlO W md 5 mf)).symm)))
  have hD := xeqD hD (congrArg (fun z9 => ([(o, .inr (7, mdF th W H mt qu zz nw ol ne se ke nc ns is ik dc sc kd md wh fa re ve ps 1 tl di lv bf bo bd co bt ma)), (nw, .inl (cs 0, 4608, .inl z9)), (ma, .inl (cs 0, 64, .inl mf))] : va_W)) ((show gw = mpB gw W md 5 (mlO W md 5 mf) (0 * 8) from (blkTo_0 gw _ _ _ _ 8 (mlO W md 5 mf)).symm)))
  exact loop_91 (8 - 0 + 1) 0 (Nat.lt_succ_self _) (by decide) _ _ _ hP hD hS (lv_sub hl [4, 6, 7, 3, 2, 1, 0] rfl)

set_option maxHeartbeats 4000000 in
set_option maxRecDepth 100000 in
theorem c_X7_putBlock5A (l : Launch) (D : va_G) (cs : Nat → ClassId) (tt : Nat → Nat) (o mt qu zz nw ol ne se ke re ve ps di lv bd co bt ma W H md : Nat) (th nc ns is ik dc sc wh fa tl bf bo : Int32) (gw mf go gn V : Nat → Int32) (hw : 1 ≤ W) (hw4 : W ≤ 4) (hh : 1 ≤ H) (hh3 : H ≤ 3) (hmd : md < W * H) : xM l yX7_putBlock wsX7_putBlock ({ frames := 4, cells := 0, slots := 0, locals := 104 } : Room) D cs tt [.ref o, .int 5, .int 1, .int 0] [(o, .inr (7, mdF th W H mt qu zz nw ol ne se ke nc ns is ik dc sc 2 md wh fa re ve ps 0 tl di lv bf bo bd co bt ma)), (nw, .inl (cs 0, 4608, .inl gw)), (ol, .inl (cs 0, 4608, .inl go)), (ne, .inl (cs 0, 4608, .inl gn)), (ve, .inl (cs 0, 4, .inl V)), (ma, .inl (cs 0, 64, .inl mf))] none [(o, .inr (7, mdF th W H mt qu zz nw ol ne se ke nc ns is ik dc sc 2 md wh fa re ve ps 0 tl di lv bf bo bd co bt ma)), (nw, .inl (cs 0, 4608, .inl (mpB gw W md 5 (mlF W md 5 mf (fun x9 y9 => (mft (lokP gn 2) (wdt 2 W) (wdt 2 H) (nI x9) (nI y9) (mus wh (V 0) 2) (mus wh (V 1) 2)))) (64)))), (ol, .inl (cs 0, 4608, .inl go)), (ne, .inl (cs 0, 4608, .inl gn)), (ve, .inl (cs 0, 4, .inl V)), (ma, .inl (cs 0, 64, .inl mf))] := by
  refine xM.of RX7 rfl (by decide) rfl (Nat.le_of_ble_eq_true rfl) ?_
  intro p e s m below meth c A ls hF hr hlk hX hP hD hS hl
  have hx := hF.1
  have hb := hF.2.1
  have hl : lv_has ls 10 [(0, .ref o), (1, .int 5), (2, .int 1), (3, .int 0)] := hl
  have hm4 : md < 4096 := Nat.lt_of_lt_of_le hmd (Nat.le_trans (Nat.mul_le_mul hw4 hh3) (by decide))
  have hb9 := b_in hw hmd 5 (by decide)
  have hbl : (bL W md 5) + 8 ≤ 8 * W := hb9.1
  have hbt : (bT W md 5) + 8 ≤ 8 * H := hb9.2
  have hsL : bL W md 5 = bL W md 5 := rfl
  refine lv_iload_n hx hb dX7_putBlock_0 rfl (lv_at hl 1 rfl) ?_
  refine xSt (rest := []) (As := [.int 5]) (ws1 := [(o, .inr (7, mdF th W H mt qu zz nw ol ne se ke nc ns is ik dc sc 2 md wh fa re ve ps 0 tl di lv bf bo bd co bt ma)), (nw, .inl (cs 0, 4608, .inl gw)), (ol, .inl (cs 0, 4608, .inl go)), (ne, .inl (cs 0, 4608, .inl gn)), (ve, .inl (cs 0, 4, .inl V)), (ma, .inl (cs 0, 64, .inl mf))]) (st1 := [.int (pln 5)]) hF (c_X7_planeOf l D cs tt 5) gX7_putBlock_X7_planeOf rfl (n := 1) (by decide +kernel) rfl ⟨⟨rfl, rfl⟩, Nat.le_of_ble_eq_true rfl, Nat.le_of_ble_eq_true rfl⟩ ⟨Nat.le_of_ble_eq_true rfl, Nat.le_of_ble_eq_true rfl⟩ hX hP hD hS [] (by decide) rfl [] rfl rfl hl.1 rfl (Nat.le_of_ble_eq_true rfl) dX7_putBlock_1 rfl rfl (fun Hp locs hP hD hS => ?_)
  refine xrwi (z := 2) (by decide) ?_
  refine lv_istore (lv' := [(4, .int 2), (0, .ref o), (1, .int 5), (2, .int 1), (3, .int 0)]) hx hb dX7_putBlock_4 hl (by decide) rfl (fun ls hl => ?_)
  refine lv_iload hx hb dX7_putBlock_6 (lv_at hl 0 rfl) ?_
  refine lv_if_ne (tgt := 33) hx hb dX7_putBlock_8 (by decide) (fun _ => ?_) (fun c_8 => absurd c_8 (by decide))
  refine lv_bipush (v := 8) hx hb dX7_putBlock_33 (by decide) ?_
  refine lv_aload_n hx hb dX7_putBlock_35 rfl (lv_at hl 1 rfl) ?_
  refine xget (C := RX7) (T := TX7) (N := 34) hF hX hP (by decide +kernel) 0 18 rfl rfl (by decide) (by decide +kernel) rfl dX7_putBlock_36 ?_
  refine lv_aload_n hx hb dX7_putBlock_39 rfl (lv_at hl 1 rfl) ?_
  refine xget (C := RX7) (T := TX7) (N := 34) hF hX hP (by decide +kernel) 0 1 rfl rfl (by decide) (by decide +kernel) rfl dX7_putBlock_40 ?_
  refine lv_irem hx hb dX7_putBlock_43 (nI_ne0 (by omega) (by omega)) ?_
  refine xrwi (z := nI (md % W)) (pk_rem (by omega) (by omega) (by omega)) ?_
  refine lv_imul hx hb dX7_putBlock_44 ?_
  refine xrwi (z := nI (bL W md 5)) (by rw [show (8 : Int32) * nI (md % W) = nI (8 * (md % W)) from pk_mul 8 _]; exact congrArg nI (show 8 * (md % W) = bL W md 5 by show _ = md % W * 8; omega)) ?_
  refine lv_istore (lv' := [(5, .int (nI (bL W md 5))), (4, .int 2), (0, .ref o), (1, .int 5), (2, .int 1), (3, .int 0)]) hx hb dX7_putBlock_45 hl (by decide) rfl (fun ls hl => ?_)
  refine lv_iload hx hb dX7_putBlock_47 (lv_at hl 1 rfl) ?_
  refine lv_if_ne (tgt := 74) hx hb dX7_putBlock_49 (by decide) (fun _ => ?_) (fun c_49 => absurd c_49 (by decide))
  refine lv_bipush (v := 8) hx hb dX7_putBlock_74 (by decide) ?_
  refine lv_aload_n hx hb dX7_putBlock_76 rfl (lv_at hl 2 rfl) ?_
  refine xget (C := RX7) (T := TX7) (N := 34) hF hX hP (by decide +kernel) 0 18 rfl rfl (by decide) (by decide +kernel) rfl dX7_putBlock_77 ?_
  refine lv_aload_n hx hb dX7_putBlock_80 rfl (lv_at hl 2 rfl) ?_
  refine xget (C := RX7) (T := TX7) (N := 34) hF hX hP (by decide +kernel) 0 1 rfl rfl (by decide) (by decide +kernel) rfl dX7_putBlock_81 ?_
  refine lv_idiv hx hb dX7_putBlock_84 (nI_ne0 (by omega) (by omega)) ?_
  refine xrwi (z := nI (md / W)) (pk_div (by omega) (by omega) (by omega)) ?_
  refine lv_imul hx hb dX7_putBlock_85 ?_
  refine xrwi (z := nI (bT W md 5)) (by rw [show (8 : Int32) * nI (md / W) = nI (8 * (md / W)) from pk_mul 8 _]; exact congrArg nI (show 8 * (md / W) = bT W md 5 by show _ = md / W * 8; omega)) ?_
  refine lv_istore (lv' := [(6, .int (nI (bT W md 5))), (5, .int (nI (bL W md 5))), (4, .int 2), (0, .ref o), (1, .int 5), (2, .int 1), (3, .int 0)]) hx hb dX7_putBlock_86 hl (by decide) rfl (fun ls hl => ?_)
  refine lv_iconst (v := 0) hx hb dX7_putBlock_88 (by decide) ?_
  refine lv_istore (lv' := [(7, .int 0), (6, .int (nI (bT W md 5))), (5, .int (nI (bL W md 5))), (4, .int 2), (0, .ref o), (1, .int 5), (2, .int 1), (3, .int 0)]) hx hb dX7_putBlock_89 hl (by decide) rfl (fun ls hl => ?_)
  have loop_91 : ∀ (k91 : Nat) (y : Nat), 8 - y < k91 → y ≤ 8 → ∀ (Hp : Heap) (locs : List Loc) (ls : Array Slot), va_P D vwCl [(o, .inr (7, mdF th W H mt qu zz nw ol ne se ke nc ns is ik dc sc 2 md wh fa re ve ps 0 tl di lv bf bo bd co bt ma)), (nw, .inl (cs 0, 4608, .inl (mpB gw W md 5 (mlF W md 5 mf (fun x9 y9 => (mft (lokP gn 2) (wdt 2 W) (wdt 2 H) (nI x9) (nI y9) (mus wh (V 0) 2) (mus wh (V 1) 2)))) (y * 8)))), (ol, .inl (cs 0, 4608, .inl go)), (ne, .inl (cs 0, 4608, .inl gn)), (ve, .inl (cs 0, 4, .inl V)), (ma, .inl (cs 0, 64, .inl mf))] Hp → va_D A [(o, .inr (7, mdF th W H mt qu zz nw ol ne se ke nc ns is ik dc sc 2 md wh fa re ve ps 0 tl di lv bf bo bd co bt ma)), (nw, .inl (cs 0, 4608, .inl (mpB gw W md 5 (mlF W md 5 mf (fun x9 y9 => (mft (lokP gn 2) (wdt 2 W) (wdt 2 H) (nI x9) (nI y9) (mus wh (V 0) 2) (mus wh (V 1) 2)))) (y * 8)))), (ol, .inl (cs 0, 4608, .inl go)), (ne, .inl (cs 0, 4608, .inl gn)), (ve, .inl (cs 0, 4, .inl V)), (ma, .inl (cs 0, 64, .inl mf))] → va_S A s.heap Hp locs → lv_has ls 10 [(0, .ref o), (2, .int 1), (3, .int 0), (4, .int 2), (5, .int (nI (bL W md 5))), (6, .int (nI (bT W md 5))), (7, .int (nI y))] → xW p l e ({ frames := 4, cells := 0, slots := 0, locals := 104 } : Room) s m ([.ref o, .int 5, .int 1, .int 0] : List Value).toArray below meth c Hp locs 0 0 (MQ below (xE D A none [(o, .inr (7, mdF th W H mt qu zz nw ol ne se ke nc ns is ik dc sc 2 md wh fa re ve ps 0 tl di lv bf bo bd co bt ma)), (nw, .inl (cs 0, 4608, .inl (mpB gw W md 5 (mlF W md 5 mf (fun x9 y9 => (mft (lokP gn 2) (wdt 2 W) (wdt 2 H) (nI x9) (nI y9) (mus wh (V 0) 2) (mus wh (V 1) 2)))) (64)))), (ol, .inl (cs 0, 4608, .inl go)), (ne, .inl (cs 0, 4608, .inl gn)), (ve, .inl (cs 0, 4, .inl V)), (ma, .inl (cs 0, 64, .inl mf))]) ([.ref o, .int 5, .int 1, .int 0] : List Value).toArray s 0 0 A) (F0 m 91 ls []) := by
    intro k91
    induction k91 with
    | zero => intro y h9; omega
    | succ k91 ih_91 =>
      intro y hk91 hy9 Hp locs ls hP hD hS hl
      refine lv_iload hx hb dX7_putBlock_91 (lv_at hl 6 rfl) ?_
      refine lv_bipush (v := 8) hx hb dX7_putBlock_93 (by decide) ?_
      refine lv_icmp_ge (tgt := 199) hx hb dX7_putBlock_95 (by decide) (fun c_95 => ?_) (fun c_95 => ?_)
      · have ey : y = 8 := by have := nIle (a := 8) (b := y) rfl rfl (by decide) (by omega) c_95; omega
        have hP := xeqP hP (congrArg (fun z9 => ([(o, .inr (7, mdF th W H mt qu zz nw ol ne se ke nc ns is ik dc sc 2 md wh fa re ve ps 0 tl di lv bf bo bd co bt ma)), (nw, .inl (cs 0, 4608, .inl z9)), (ol, .inl (cs 0, 4608, .inl go)), (ne, .inl (cs 0, 4608, .inl gn)), (ve, .inl (cs 0, 4, .inl V)), (ma, .inl (cs 0, 64, .inl mf))] : va_W)) (congrArg (mpB gw W md 5 (mlF W md 5 mf (fun x9 y9 => (mft (lokP gn 2) (wdt 2 W) (wdt 2 H) (nI x9) (nI y9) (mus wh (V 0) 2) (mus wh (V 1) 2))))) (show y * 8 = 64 by omega)))
        have hD := xeqD hD (congrArg (fun z9 => ([(o, .inr (7, mdF th W H mt qu zz nw ol ne se ke nc ns is ik dc sc 2 md wh fa re ve ps 0 tl di lv bf bo bd co bt ma)), (nw, .inl (cs 0, 4608, .inl z9)), (ol, .inl (cs 0, 4608, .inl go)), (ne, .inl (cs 0, 4608, .inl gn)), (ve, .inl (cs 0, 4, .inl V)), (ma, .inl (cs 0, 64, .inl mf))] : va_W)) (congrArg (mpB gw W md 5 (mlF W md 5 mf (fun x9 y9 => (mft (lokP gn 2) (wdt 2 W) (wdt 2 H) (nI x9) (nI y9) (mus wh (V 0) 2) (mus wh (V 1) 2))))) (show y * 8 = 64 by omega)))
        exact xrv hF hr hlk hP hD hS dX7_putBlock_199
      · have hyl : y < 8 := nInle (a := 8) (b := y) rfl rfl (by decide) (by omega) c_95
        refine lv_iconst (v := 0) hx hb dX7_putBlock_98 (by decide) ?_
        refine lv_istore (lv' := [(8, .int 0), (0, .ref o), (2, .int 1), (3, .int 0), (4, .int 2), (5, .int (nI (bL W md 5))), (6, .int (nI (bT W md 5))), (7, .int (nI y))]) hx hb dX7_putBlock_99 hl (by decide) rfl (fun ls hl => ?_)
        have loop_101 : ∀ (k101 : Nat) (x : Nat), 8 - x < k101 → x ≤ 8 → ∀ (Hp : Heap) (locs : List Loc) (ls : Array Slot), va_P D vwCl [(o, .inr (7, mdF th W H mt qu zz nw ol ne se ke nc ns is ik dc sc 2 md wh fa re ve ps 0 tl di lv bf bo bd co bt ma)), (nw, .inl (cs 0, 4608, .inl (mpB gw W md 5 (mlF W md 5 mf (fun x9 y9 => (mft (lokP gn 2) (wdt 2 W) (wdt 2 H) (nI x9) (nI y9) (mus wh (V 0) 2) (mus wh (V 1) 2)))) (y * 8 + x)))), (ol, .inl (cs 0, 4608, .inl go)), (ne, .inl (cs 0, 4608, .inl gn)), (ve, .inl (cs 0, 4, .inl V)), (ma, .inl (cs 0, 64, .inl mf))] Hp → va_D A [(o, .inr (7, mdF th W H mt qu zz nw ol ne se ke nc ns is ik dc sc 2 md wh fa re ve ps 0 tl di lv bf bo bd co bt ma)), (nw, .inl (cs 0, 4608, .inl (mpB gw W md 5 (mlF W md 5 mf (fun x9 y9 => (mft (lokP gn 2) (wdt 2 W) (wdt 2 H) (nI x9) (nI y9) (mus wh (V 0) 2) (mus wh (V 1) 2)))) (y * 8 + x)))), (ol, .inl (cs 0, 4608, .inl go)), (ne, .inl (cs 0, 4608, .inl gn)), (ve, .inl (cs 0, 4, .inl V)), (ma, .inl (cs 0, 64, .inl mf))] → va_S A s.heap Hp locs → lv_has ls 10 [(0, .ref o), (2, .int 1), (3, .int 0), (4, .int 2), (5, .int (nI (bL W md 5))), (6, .int (nI (bT W md 5))), (7, .int (nI y)), (8, .int (nI x))] → xW p l e ({ frames := 4, cells := 0, slots := 0, locals := 104 } : Room) s m ([.ref o, .int 5, .int 1, .int 0] : List Value).toArray below meth c Hp locs 0 0 (MQ below (xE D A none [(o, .inr (7, mdF th W H mt qu zz nw ol ne se ke nc ns is ik dc sc 2 md wh fa re ve ps 0 tl di lv bf bo bd co bt ma)), (nw, .inl (cs 0, 4608, .inl (mpB gw W md 5 (mlF W md 5 mf (fun x9 y9 => (mft (lokP gn 2) (wdt 2 W) (wdt 2 H) (nI x9) (nI y9) (mus wh (V 0) 2) (mus wh (V 1) 2)))) (64)))), (ol, .inl (cs 0, 4608, .inl go)), (ne, .inl (cs 0, 4608, .inl gn)), (ve, .inl (cs 0, 4, .inl V)), (ma, .inl (cs 0, 64, .inl mf))]) ([.ref o, .int 5, .int 1, .int 0] : List Value).toArray s 0 0 A) (F0 m 101 ls []) := by
          intro k101
          induction k101 with
          | zero => intro x h9; omega
          | succ k101 ih_101 =>
            intro x hk101 hx9 Hp locs ls hP hD hS hl
            refine lv_iload hx hb dX7_putBlock_101 (lv_at hl 7 rfl) ?_
            refine lv_bipush (v := 8) hx hb dX7_putBlock_103 (by decide) ?_
            refine lv_icmp_ge (tgt := 193) hx hb dX7_putBlock_105 (by decide) (fun c_105 => ?_) (fun c_105 => ?_)
            · have ex : x = 8 := by have := nIle (a := 8) (b := x) rfl rfl (by decide) (by omega) c_105; omega
              have hP := xeqP hP (congrArg (fun z9 => ([(o, .inr (7, mdF th W H mt qu zz nw ol ne se ke nc ns is ik dc sc 2 md wh fa re ve ps 0 tl di lv bf bo bd co bt ma)), (nw, .inl (cs 0, 4608, .inl z9)), (ol, .inl (cs 0, 4608, .inl go)), (ne, .inl (cs 0, 4608, .inl gn)), (ve, .inl (cs 0, 4, .inl V)), (ma, .inl (cs 0, 64, .inl mf))] : va_W)) (congrArg (mpB gw W md 5 (mlF W md 5 mf (fun x9 y9 => (mft (lokP gn 2) (wdt 2 W) (wdt 2 H) (nI x9) (nI y9) (mus wh (V 0) 2) (mus wh (V 1) 2))))) (show y * 8 + x = (y + 1) * 8 by omega)))
              have hD := xeqD hD (congrArg (fun z9 => ([(o, .inr (7, mdF th W H mt qu zz nw ol ne se ke nc ns is ik dc sc 2 md wh fa re ve ps 0 tl di lv bf bo bd co bt ma)), (nw, .inl (cs 0, 4608, .inl z9)), (ol, .inl (cs 0, 4608, .inl go)), (ne, .inl (cs 0, 4608, .inl gn)), (ve, .inl (cs 0, 4, .inl V)), (ma, .inl (cs 0, 64, .inl mf))] : va_W)) (congrArg (mpB gw W md 5 (mlF W md 5 mf (fun x9 y9 => (mft (lokP gn 2) (wdt 2 W) (wdt 2 H) (nI x9) (nI y9) (mus wh (V 0) 2) (mus wh (V 1) 2))))) (show y * 8 + x = (y + 1) * 8 by omega)))
              refine lv_iinc (v := (nI (y + 1))) (lv' := [(7, .int (nI (y + 1))), (0, .ref o), (2, .int 1), (3, .int 0), (4, .int 2), (5, .int (nI (bL W md 5))), (6, .int (nI (bT W md 5))), (8, .int (nI x))]) hx hb dX7_putBlock_193 hl (k := 6) rfl (nI_1 y) (by decide) rfl (fun ls hl => ?_)
              refine lv_goto (tgt := 91) hx hb dX7_putBlock_196 (by decide) ?_
              exact ih_91 (y + 1) (by omega) (by omega) _ _ _ hP hD hS (lv_sub hl [1, 2, 3, 4, 5, 6, 0] rfl)
            · have hxl : x < 8 := nInle (a := 8) (b := x) rfl rfl (by decide) (by omega) c_105
              refine lv_aload_n hx hb dX7_putBlock_108 rfl (lv_at hl 0 rfl) ?_
              refine xget (C := RX7) (T := TX7) (N := 34) hF hX hP (by decide +kernel) 0 33 rfl rfl (by decide) (by decide +kernel) rfl dX7_putBlock_109 ?_
              refine lv_bipush (v := 8) hx hb dX7_putBlock_112 (by decide) ?_
              refine lv_iload hx hb dX7_putBlock_114 (lv_at hl 6 rfl) ?_
              refine lv_imul hx hb dX7_putBlock_116 ?_
              refine lv_iload hx hb dX7_putBlock_117 (lv_at hl 7 rfl) ?_
              refine lv_iadd hx hb dX7_putBlock_119 ?_
              refine xrwi (z := nI (y * 8 + x)) (k8 y x) ?_
              refine xald (k := y * 8 + x) hF hX hP 5 rfl (nI_clamp (by omega)) (vp_in_nI (by omega) (by decide)) dX7_putBlock_120 ?_
              refine lv_istore (lv' := [(9, .int (mf (y * 8 + x))), (0, .ref o), (2, .int 1), (3, .int 0), (4, .int 2), (5, .int (nI (bL W md 5))), (6, .int (nI (bT W md 5))), (7, .int (nI y)), (8, .int (nI x))]) hx hb dX7_putBlock_121 hl (by decide) rfl (fun ls hl => ?_)
              refine lv_aload_n hx hb dX7_putBlock_123 rfl (lv_at hl 1 rfl) ?_
              refine xget (C := RX7) (T := TX7) (N := 34) hF hX hP (by decide +kernel) 0 24 rfl rfl (by decide) (by decide +kernel) rfl dX7_putBlock_124 ?_
              refine lv_if_eq (tgt := 135) hx hb dX7_putBlock_127 (by decide) (fun _ => ?_) (fun c_127 => absurd (by decide) c_127)
              refine lv_iload hx hb dX7_putBlock_135 (lv_at hl 0 rfl) ?_
              refine lv_aload_n hx hb dX7_putBlock_137 rfl (lv_at hl 1 rfl) ?_
              refine lv_iload_n hx hb dX7_putBlock_138 rfl (lv_at hl 2 rfl) ?_
              refine lv_iload_n hx hb dX7_putBlock_139 rfl (lv_at hl 3 rfl) ?_
              refine lv_iload hx hb dX7_putBlock_140 (lv_at hl 4 rfl) ?_
              refine lv_iload hx hb dX7_putBlock_142 (lv_at hl 5 rfl) ?_
              refine lv_iload hx hb dX7_putBlock_144 (lv_at hl 8 rfl) ?_
              refine lv_iadd hx hb dX7_putBlock_146 ?_
              refine xrwi (z := nI ((bL W md 5) + x)) (nI_add _ _) ?_
              refine lv_iload hx hb dX7_putBlock_147 (lv_at hl 6 rfl) ?_
              refine lv_iload hx hb dX7_putBlock_149 (lv_at hl 7 rfl) ?_
              refine lv_iadd hx hb dX7_putBlock_151 ?_
              refine xrwi (z := nI ((bT W md 5) + y)) (nI_add _ _) ?_
              refine xV (rest := [.int (mf (y * 8 + x))]) (As := [.int 1, .int 0, .int 2, .int (nI ((bL W md 5) + x)), .int (nI ((bT W md 5) + y))]) (ws1 := [(o, .inr (7, mdF th W H mt qu zz nw ol ne se ke nc ns is ik dc sc 2 md wh fa re ve ps 0 tl di lv bf bo bd co bt ma)), (nw, .inl (cs 0, 4608, .inl (mpB gw W md 5 (mlF W md 5 mf (fun x9 y9 => (mft (lokP gn 2) (wdt 2 W) (wdt 2 H) (nI x9) (nI y9) (mus wh (V 0) 2) (mus wh (V 1) 2)))) (y * 8 + x)))), (ol, .inl (cs 0, 4608, .inl go)), (ne, .inl (cs 0, 4608, .inl gn)), (ve, .inl (cs 0, 4, .inl V)), (ma, .inl (cs 0, 64, .inl mf))]) (st1 := [.int (mft (lokP gn 2) (wdt 2 W) (wdt 2 H) (nI ((bL W md 5) + x)) (nI ((bT W md 5) + y)) (mus wh (V 0) 2) (mus wh (V 1) 2)), .int (mf (y * 8 + x))]) hF (c_X7_fetchedA l D cs tt o mt qu zz nw ol ne se ke re ve ps di lv bd co bt ma W H md th nc ns is ik dc sc wh fa 0 tl bf bo 2 (nI ((bL W md 5) + x)) (nI ((bT W md 5) + y)) go gn V (by decide) hw hw4 hh hh3) gX7_putBlock_X7_fetched rfl (n := 5) (by decide +kernel) rfl ⟨⟨rfl, rfl⟩, Nat.le_of_ble_eq_true rfl, Nat.le_of_ble_eq_true rfl⟩ ⟨Nat.le_of_ble_eq_true rfl, Nat.le_of_ble_eq_true rfl⟩ hX hP hD hS [0, 2, 3, 4] (by decide) rfl [o, ol, ne, ve] rfl rfl (q0 := 0) (ci := 7) rfl rfl rfl hl.1 rfl (Nat.le_of_ble_eq_true rfl) dX7_putBlock_152 rfl rfl (fun Hp locs hP hD hS => ?_)
              refine lv_iadd hx hb dX7_putBlock_155 ?_
              refine lv_istore (lv' := [(9, .int ((mf (y * 8 + x)) + (mft (lokP gn 2) (wdt 2 W) (wdt 2 H) (nI ((bL W md 5) + x)) (nI ((bT W md 5) + y)) (mus wh (V 0) 2) (mus wh (V 1) 2)))), (0, .ref o), (2, .int 1), (3, .int 0), (4, .int 2), (5, .int (nI (bL W md 5))), (6, .int (nI (bT W md 5))), (7, .int (nI y)), (8, .int (nI x))]) hx hb dX7_putBlock_156 hl (by decide) rfl (fun ls hl => ?_)
              refine lv_aload_n hx hb dX7_putBlock_158 rfl (lv_at hl 1 rfl) ?_
              refine xget (C := RX7) (T := TX7) (N := 34) hF hX hP (by decide +kernel) 0 6 rfl rfl (by decide) (by decide +kernel) rfl dX7_putBlock_159 ?_
              refine lv_iload hx hb dX7_putBlock_162 (lv_at hl 4 rfl) ?_
              refine lv_iload hx hb dX7_putBlock_164 (lv_at hl 5 rfl) ?_
              refine lv_iload hx hb dX7_putBlock_166 (lv_at hl 8 rfl) ?_
              refine lv_iadd hx hb dX7_putBlock_168 ?_
              refine xrwi (z := nI ((bL W md 5) + x)) (nI_add _ _) ?_
              refine lv_iload hx hb dX7_putBlock_169 (lv_at hl 6 rfl) ?_
              refine lv_iload hx hb dX7_putBlock_171 (lv_at hl 7 rfl) ?_
              refine lv_iadd hx hb dX7_putBlock_173 ?_
              refine xrwi (z := nI ((bT W md 5) + y)) (nI_add _ _) ?_
              refine xSt (rest := [.ref nw]) (As := [.int 2, .int (nI ((bL W md 5) + x)), .int (nI ((bT W md 5) + y))]) (ws1 := [(o, .inr (7, mdF th W H mt qu zz nw ol ne se ke nc ns is ik dc sc 2 md wh fa re ve ps 0 tl di lv bf bo bd co bt ma)), (nw, .inl (cs 0, 4608, .inl (mpB gw W md 5 (mlF W md 5 mf (fun x9 y9 => (mft (lokP gn 2) (wdt 2 W) (wdt 2 H) (nI x9) (nI y9) (mus wh (V 0) 2) (mus wh (V 1) 2)))) (y * 8 + x)))), (ol, .inl (cs 0, 4608, .inl go)), (ne, .inl (cs 0, 4608, .inl gn)), (ve, .inl (cs 0, 4, .inl V)), (ma, .inl (cs 0, 64, .inl mf))]) (st1 := [.int (nI (plc 2 ((bL W md 5) + x) ((bT W md 5) + y))), .ref nw]) hF (c_X7_place l D cs tt 2 ((bL W md 5) + x) ((bT W md 5) + y) (by decide)) gX7_putBlock_X7_place rfl (n := 3) (by decide +kernel) rfl ⟨⟨rfl, rfl⟩, Nat.le_of_ble_eq_true rfl, Nat.le_of_ble_eq_true rfl⟩ ⟨Nat.le_of_ble_eq_true rfl, Nat.le_of_ble_eq_true rfl⟩ hX hP hD hS [] (by decide) rfl [] rfl rfl hl.1 rfl (Nat.le_of_ble_eq_true rfl) dX7_putBlock_174 rfl rfl (fun Hp locs hP hD hS => ?_)
              refine xrwi (z := nI (3840 + (((bT W md 5) + y) * 32 + ((bL W md 5) + x)))) (by unfold plc; rw [if_neg (by decide), if_neg (by decide)]; exact congrArg nI (by omega)) ?_
              refine lv_iload hx hb dX7_putBlock_177 (lv_at hl 0 rfl) ?_
              refine lv_iconst (v := 0) hx hb dX7_putBlock_179 (by decide) ?_
              refine lv_sipush (v := 255) hx hb dX7_putBlock_180 (by decide) ?_
              refine xSt (rest := [.int (nI (3840 + (((bT W md 5) + y) * 32 + ((bL W md 5) + x)))), .ref nw]) (As := [.int ((mf (y * 8 + x)) + (mft (lokP gn 2) (wdt 2 W) (wdt 2 H) (nI ((bL W md 5) + x)) (nI ((bT W md 5) + y)) (mus wh (V 0) 2) (mus wh (V 1) 2))), .int 0, .int 255]) (ws1 := [(o, .inr (7, mdF th W H mt qu zz nw ol ne se ke nc ns is ik dc sc 2 md wh fa re ve ps 0 tl di lv bf bo bd co bt ma)), (nw, .inl (cs 0, 4608, .inl (mpB gw W md 5 (mlF W md 5 mf (fun x9 y9 => (mft (lokP gn 2) (wdt 2 W) (wdt 2 H) (nI x9) (nI y9) (mus wh (V 0) 2) (mus wh (V 1) 2)))) (y * 8 + x)))), (ol, .inl (cs 0, 4608, .inl go)), (ne, .inl (cs 0, 4608, .inl gn)), (ve, .inl (cs 0, 4, .inl V)), (ma, .inl (cs 0, 64, .inl mf))]) (st1 := [.int (bnd ((mf (y * 8 + x)) + (mft (lokP gn 2) (wdt 2 W) (wdt 2 H) (nI ((bL W md 5) + x)) (nI ((bT W md 5) + y)) (mus wh (V 0) 2) (mus wh (V 1) 2))) 0 255), .int (nI (3840 + (((bT W md 5) + y) * 32 + ((bL W md 5) + x)))), .ref nw]) hF (c_X7_within l D cs tt ((mf (y * 8 + x)) + (mft (lokP gn 2) (wdt 2 W) (wdt 2 H) (nI ((bL W md 5) + x)) (nI ((bT W md 5) + y)) (mus wh (V 0) 2) (mus wh (V 1) 2))) 0 255) gX7_putBlock_X7_within rfl (n := 3) (by decide +kernel) rfl ⟨⟨rfl, rfl⟩, Nat.le_of_ble_eq_true rfl, Nat.le_of_ble_eq_true rfl⟩ ⟨Nat.le_of_ble_eq_true rfl, Nat.le_of_ble_eq_true rfl⟩ hX hP hD hS [] (by decide) rfl [] rfl rfl hl.1 rfl (Nat.le_of_ble_eq_true rfl) dX7_putBlock_183 rfl rfl (fun Hp locs hP hD hS => ?_)
              refine xast (k := 3840 + (((bT W md 5) + y) * 32 + ((bL W md 5) + x))) (ws1 := [(o, .inr (7, mdF th W H mt qu zz nw ol ne se ke nc ns is ik dc sc 2 md wh fa re ve ps 0 tl di lv bf bo bd co bt ma)), (nw, .inl (cs 0, 4608, .inl (mpB gw W md 5 (mlF W md 5 mf (fun x9 y9 => (mft (lokP gn 2) (wdt 2 W) (wdt 2 H) (nI x9) (nI y9) (mus wh (V 0) 2) (mus wh (V 1) 2)))) (y * 8 + (x + 1))))), (ol, .inl (cs 0, 4608, .inl go)), (ne, .inl (cs 0, 4608, .inl gn)), (ve, .inl (cs 0, 4, .inl V)), (ma, .inl (cs 0, 64, .inl mf))]) hF hX hP hD hS 1 rfl (nI_clamp (by omega)) (vp_in_nI (by omega) (by decide)) dX7_putBlock_186 (congrArg (fun z9 => ([(o, .inr (7, mdF th W H mt qu zz nw ol ne se ke nc ns is ik dc sc 2 md wh fa re ve ps 0 tl di lv bf bo bd co bt ma)), (nw, .inl (cs 0, 4608, .inl z9)), (ol, .inl (cs 0, 4608, .inl go)), (ne, .inl (cs 0, 4608, .inl gn)), (ve, .inl (cs 0, 4, .inl V)), (ma, .inl (cs 0, 64, .inl mf))] : va_W)) (pbs gw (mlF W md 5 mf (fun x9 y9 => (mft (lokP gn 2) (wdt 2 W) (wdt 2 H) (nI x9) (nI y9) (mus wh (V 0) 2) (mus wh (V 1) 2)))) (by unfold mlF; rw [show ((bT W md 5) + y - (bT W md 5)) * 8 + ((bL W md 5) + x - (bL W md 5)) = y * 8 + x by omega]) hxl (show (bL W md 5) + 8 ≤ 32 by omega))) (fun Hp locs hP hD hS => ?_)
              refine lv_iinc (v := (nI (x + 1))) (lv' := [(8, .int (nI (x + 1))), (9, .int ((mf (y * 8 + x)) + (mft (lokP gn 2) (wdt 2 W) (wdt 2 H) (nI ((bL W md 5) + x)) (nI ((bT W md 5) + y)) (mus wh (V 0) 2) (mus wh (V 1) 2)))), (0, .ref o), (2, .int 1), (3, .int 0), (4, .int 2), (5, .int (nI (bL W md 5))), (6, .int (nI (bT W md 5))), (7, .int (nI y))]) hx hb dX7_putBlock_187 hl (k := 8) rfl (nI_1 x) (by decide) rfl (fun ls hl => ?_)
              refine lv_goto (tgt := 101) hx hb dX7_putBlock_190 (by decide) ?_
              exact ih_101 (x + 1) (by omega) (by omega) _ _ _ hP hD hS (lv_sub hl [2, 3, 4, 5, 6, 7, 8, 0] rfl)
        exact loop_101 (8 - 0 + 1) 0 (Nat.lt_succ_self _) (by decide) _ _ _ hP hD hS (lv_sub hl [1, 2, 3, 4, 5, 6, 7, 0] rfl)
  have hP := xeqP hP (congrArg (fun z9 => ([(o, .inr (7, mdF th W H mt qu zz nw ol ne se ke nc ns is ik dc sc 2 md wh fa re ve ps 0 tl di lv bf bo bd co bt ma)), (nw, .inl (cs 0, 4608, .inl z9)), (ol, .inl (cs 0, 4608, .inl go)), (ne, .inl (cs 0, 4608, .inl gn)), (ve, .inl (cs 0, 4, .inl V)), (ma, .inl (cs 0, 64, .inl mf))] : va_W)) ((show gw = mpB gw W md 5 (mlF W md 5 mf (fun x9 y9 => (mft (lokP gn 2) (wdt 2 W) (wdt 2 H) (nI x9) (nI y9) (mus wh (V 0) 2) (mus wh (V 1) 2)))) (0 * 8) from (blkTo_0 gw _ _ _ _ 8 (mlF W md 5 mf (fun x9 y9 => (mft (lokP gn 2) (wdt 2 W) (wdt 2 H) (nI x9) (nI y9) (mus wh (V 0) 2) (mus wh (V 1) 2))))).symm)))
  have hD := xeqD hD (congrArg (fun z9 => ([(o, .inr (7, mdF th W H mt qu zz nw ol ne se ke nc ns is ik dc sc 2 md wh fa re ve ps 0 tl di lv bf bo bd co bt ma)), (nw, .inl (cs 0, 4608, .inl z9)), (ol, .inl (cs 0, 4608, .inl go)), (ne, .inl (cs 0, 4608, .inl gn)), (ve, .inl (cs 0, 4, .inl V)), (ma, .inl (cs 0, 64, .inl mf))] : va_W)) ((show gw = mpB gw W md 5 (mlF W md 5 mf (fun x9 y9 => (mft (lokP gn 2) (wdt 2 W) (wdt 2 H) (nI x9) (nI y9) (mus wh (V 0) 2) (mus wh (V 1) 2)))) (0 * 8) from (blkTo_0 gw _ _ _ _ 8 (mlF W md 5 mf (fun x9 y9 => (mft (lokP gn 2) (wdt 2 W) (wdt 2 H) (nI x9) (nI y9) (mus wh (V 0) 2) (mus wh (V 1) 2))))).symm)))
  exact loop_91 (8 - 0 + 1) 0 (Nat.lt_succ_self _) (by decide) _ _ _ hP hD hS (lv_sub hl [4, 6, 7, 3, 2, 1, 0] rfl)

set_option maxHeartbeats 4000000 in
set_option maxRecDepth 100000 in
theorem c_X7_putBlock5B (l : Launch) (D : va_G) (cs : Nat → ClassId) (tt : Nat → Nat) (o mt qu zz nw ol ne se ke re ve ps di lv bd co bt ma W H md : Nat) (th nc ns is ik dc sc wh fa tl bf bo : Int32) (gw mf go gn V : Nat → Int32) (hw : 1 ≤ W) (hw4 : W ≤ 4) (hh : 1 ≤ H) (hh3 : H ≤ 3) (hmd : md < W * H) : xM l yX7_putBlock wsX7_putBlock ({ frames := 4, cells := 0, slots := 0, locals := 104 } : Room) D cs tt [.ref o, .int 5, .int 1, .int 0] [(o, .inr (7, mdF th W H mt qu zz nw ol ne se ke nc ns is ik dc sc 3 md wh fa re ve ps 0 tl di lv bf bo bd co bt ma)), (nw, .inl (cs 0, 4608, .inl gw)), (ol, .inl (cs 0, 4608, .inl go)), (ne, .inl (cs 0, 4608, .inl gn)), (ve, .inl (cs 0, 4, .inl V)), (ma, .inl (cs 0, 64, .inl mf))] none [(o, .inr (7, mdF th W H mt qu zz nw ol ne se ke nc ns is ik dc sc 3 md wh fa re ve ps 0 tl di lv bf bo bd co bt ma)), (nw, .inl (cs 0, 4608, .inl (mpB gw W md 5 (mlF W md 5 mf (fun x9 y9 => (mft (lokP go 2) (wdt 2 W) (wdt 2 H) (nI x9) (nI y9) (mus wh (V 0) 2) (mus wh (V 1) 2)))) (64)))), (ol, .inl (cs 0, 4608, .inl go)), (ne, .inl (cs 0, 4608, .inl gn)), (ve, .inl (cs 0, 4, .inl V)), (ma, .inl (cs 0, 64, .inl mf))] := by
  refine xM.of RX7 rfl (by decide) rfl (Nat.le_of_ble_eq_true rfl) ?_
  intro p e s m below meth c A ls hF hr hlk hX hP hD hS hl
  have hx := hF.1
  have hb := hF.2.1
  have hl : lv_has ls 10 [(0, .ref o), (1, .int 5), (2, .int 1), (3, .int 0)] := hl
  have hm4 : md < 4096 := Nat.lt_of_lt_of_le hmd (Nat.le_trans (Nat.mul_le_mul hw4 hh3) (by decide))
  have hb9 := b_in hw hmd 5 (by decide)
  have hbl : (bL W md 5) + 8 ≤ 8 * W := hb9.1
  have hbt : (bT W md 5) + 8 ≤ 8 * H := hb9.2
  have hsL : bL W md 5 = bL W md 5 := rfl
  refine lv_iload_n hx hb dX7_putBlock_0 rfl (lv_at hl 1 rfl) ?_
  refine xSt (rest := []) (As := [.int 5]) (ws1 := [(o, .inr (7, mdF th W H mt qu zz nw ol ne se ke nc ns is ik dc sc 3 md wh fa re ve ps 0 tl di lv bf bo bd co bt ma)), (nw, .inl (cs 0, 4608, .inl gw)), (ol, .inl (cs 0, 4608, .inl go)), (ne, .inl (cs 0, 4608, .inl gn)), (ve, .inl (cs 0, 4, .inl V)), (ma, .inl (cs 0, 64, .inl mf))]) (st1 := [.int (pln 5)]) hF (c_X7_planeOf l D cs tt 5) gX7_putBlock_X7_planeOf rfl (n := 1) (by decide +kernel) rfl ⟨⟨rfl, rfl⟩, Nat.le_of_ble_eq_true rfl, Nat.le_of_ble_eq_true rfl⟩ ⟨Nat.le_of_ble_eq_true rfl, Nat.le_of_ble_eq_true rfl⟩ hX hP hD hS [] (by decide) rfl [] rfl rfl hl.1 rfl (Nat.le_of_ble_eq_true rfl) dX7_putBlock_1 rfl rfl (fun Hp locs hP hD hS => ?_)
  refine xrwi (z := 2) (by decide) ?_
  refine lv_istore (lv' := [(4, .int 2), (0, .ref o), (1, .int 5), (2, .int 1), (3, .int 0)]) hx hb dX7_putBlock_4 hl (by decide) rfl (fun ls hl => ?_)
  refine lv_iload hx hb dX7_putBlock_6 (lv_at hl 0 rfl) ?_
  refine lv_if_ne (tgt := 33) hx hb dX7_putBlock_8 (by decide) (fun _ => ?_) (fun c_8 => absurd c_8 (by decide))
  refine lv_bipush (v := 8) hx hb dX7_putBlock_33 (by decide) ?_
  refine lv_aload_n hx hb dX7_putBlock_35 rfl (lv_at hl 1 rfl) ?_
  refine xget (C := RX7) (T := TX7) (N := 34) hF hX hP (by decide +kernel) 0 18 rfl rfl (by decide) (by decide +kernel) rfl dX7_putBlock_36 ?_
  refine lv_aload_n hx hb dX7_putBlock_39 rfl (lv_at hl 1 rfl) ?_
  refine xget (C := RX7) (T := TX7) (N := 34) hF hX hP (by decide +kernel) 0 1 rfl rfl (by decide) (by decide +kernel) rfl dX7_putBlock_40 ?_
  refine lv_irem hx hb dX7_putBlock_43 (nI_ne0 (by omega) (by omega)) ?_
  refine xrwi (z := nI (md % W)) (pk_rem (by omega) (by omega) (by omega)) ?_
  refine lv_imul hx hb dX7_putBlock_44 ?_
  refine xrwi (z := nI (bL W md 5)) (by rw [show (8 : Int32) * nI (md % W) = nI (8 * (md % W)) from pk_mul 8 _]; exact congrArg nI (show 8 * (md % W) = bL W md 5 by show _ = md % W * 8; omega)) ?_
  refine lv_istore (lv' := [(5, .int (nI (bL W md 5))), (4, .int 2), (0, .ref o), (1, .int 5), (2, .int 1), (3, .int 0)]) hx hb dX7_putBlock_45 hl (by decide) rfl (fun ls hl => ?_)
  refine lv_iload hx hb dX7_putBlock_47 (lv_at hl 1 rfl) ?_
  refine lv_if_ne (tgt := 74) hx hb dX7_putBlock_49 (by decide) (fun _ => ?_) (fun c_49 => absurd c_49 (by decide))
  refine lv_bipush (v := 8) hx hb dX7_putBlock_74 (by decide) ?_
  refine lv_aload_n hx hb dX7_putBlock_76 rfl (lv_at hl 2 rfl) ?_
  refine xget (C := RX7) (T := TX7) (N := 34) hF hX hP (by decide +kernel) 0 18 rfl rfl (by decide) (by decide +kernel) rfl dX7_putBlock_77 ?_
  refine lv_aload_n hx hb dX7_putBlock_80 rfl (lv_at hl 2 rfl) ?_
  refine xget (C := RX7) (T := TX7) (N := 34) hF hX hP (by decide +kernel) 0 1 rfl rfl (by decide) (by decide +kernel) rfl dX7_putBlock_81 ?_
  refine lv_idiv hx hb dX7_putBlock_84 (nI_ne0 (by omega) (by omega)) ?_
  refine xrwi (z := nI (md / W)) (pk_div (by omega) (by omega) (by omega)) ?_
  refine lv_imul hx hb dX7_putBlock_85 ?_
  refine xrwi (z := nI (bT W md 5)) (by rw [show (8 : Int32) * nI (md / W) = nI (8 * (md / W)) from pk_mul 8 _]; exact congrArg nI (show 8 * (md / W) = bT W md 5 by show _ = md / W * 8; omega)) ?_
  refine lv_istore (lv' := [(6, .int (nI (bT W md 5))), (5, .int (nI (bL W md 5))), (4, .int 2), (0, .ref o), (1, .int 5), (2, .int 1), (3, .int 0)]) hx hb dX7_putBlock_86 hl (by decide) rfl (fun ls hl => ?_)
  refine lv_iconst (v := 0) hx hb dX7_putBlock_88 (by decide) ?_
  refine lv_istore (lv' := [(7, .int 0), (6, .int (nI (bT W md 5))), (5, .int (nI (bL W md 5))), (4, .int 2), (0, .ref o), (1, .int 5), (2, .int 1), (3, .int 0)]) hx hb dX7_putBlock_89 hl (by decide) rfl (fun ls hl => ?_)
  have loop_91 : ∀ (k91 : Nat) (y : Nat), 8 - y < k91 → y ≤ 8 → ∀ (Hp : Heap) (locs : List Loc) (ls : Array Slot), va_P D vwCl [(o, .inr (7, mdF th W H mt qu zz nw ol ne se ke nc ns is ik dc sc 3 md wh fa re ve ps 0 tl di lv bf bo bd co bt ma)), (nw, .inl (cs 0, 4608, .inl (mpB gw W md 5 (mlF W md 5 mf (fun x9 y9 => (mft (lokP go 2) (wdt 2 W) (wdt 2 H) (nI x9) (nI y9) (mus wh (V 0) 2) (mus wh (V 1) 2)))) (y * 8)))), (ol, .inl (cs 0, 4608, .inl go)), (ne, .inl (cs 0, 4608, .inl gn)), (ve, .inl (cs 0, 4, .inl V)), (ma, .inl (cs 0, 64, .inl mf))] Hp → va_D A [(o, .inr (7, mdF th W H mt qu zz nw ol ne se ke nc ns is ik dc sc 3 md wh fa re ve ps 0 tl di lv bf bo bd co bt ma)), (nw, .inl (cs 0, 4608, .inl (mpB gw W md 5 (mlF W md 5 mf (fun x9 y9 => (mft (lokP go 2) (wdt 2 W) (wdt 2 H) (nI x9) (nI y9) (mus wh (V 0) 2) (mus wh (V 1) 2)))) (y * 8)))), (ol, .inl (cs 0, 4608, .inl go)), (ne, .inl (cs 0, 4608, .inl gn)), (ve, .inl (cs 0, 4, .inl V)), (ma, .inl (cs 0, 64, .inl mf))] → va_S A s.heap Hp locs → lv_has ls 10 [(0, .ref o), (2, .int 1), (3, .int 0), (4, .int 2), (5, .int (nI (bL W md 5))), (6, .int (nI (bT W md 5))), (7, .int (nI y))] → xW p l e ({ frames := 4, cells := 0, slots := 0, locals := 104 } : Room) s m ([.ref o, .int 5, .int 1, .int 0] : List Value).toArray below meth c Hp locs 0 0 (MQ below (xE D A none [(o, .inr (7, mdF th W H mt qu zz nw ol ne se ke nc ns is ik dc sc 3 md wh fa re ve ps 0 tl di lv bf bo bd co bt ma)), (nw, .inl (cs 0, 4608, .inl (mpB gw W md 5 (mlF W md 5 mf (fun x9 y9 => (mft (lokP go 2) (wdt 2 W) (wdt 2 H) (nI x9) (nI y9) (mus wh (V 0) 2) (mus wh (V 1) 2)))) (64)))), (ol, .inl (cs 0, 4608, .inl go)), (ne, .inl (cs 0, 4608, .inl gn)), (ve, .inl (cs 0, 4, .inl V)), (ma, .inl (cs 0, 64, .inl mf))]) ([.ref o, .int 5, .int 1, .int 0] : List Value).toArray s 0 0 A) (F0 m 91 ls []) := by
    intro k91
    induction k91 with
    | zero => intro y h9; omega
    | succ k91 ih_91 =>
      intro y hk91 hy9 Hp locs ls hP hD hS hl
      refine lv_iload hx hb dX7_putBlock_91 (lv_at hl 6 rfl) ?_
      refine lv_bipush (v := 8) hx hb dX7_putBlock_93 (by decide) ?_
      refine lv_icmp_ge (tgt := 199) hx hb dX7_putBlock_95 (by decide) (fun c_95 => ?_) (fun c_95 => ?_)
      · have ey : y = 8 := by have := nIle (a := 8) (b := y) rfl rfl (by decide) (by omega) c_95; omega
        have hP := xeqP hP (congrArg (fun z9 => ([(o, .inr (7, mdF th W H mt qu zz nw ol ne se ke nc ns is ik dc sc 3 md wh fa re ve ps 0 tl di lv bf bo bd co bt ma)), (nw, .inl (cs 0, 4608, .inl z9)), (ol, .inl (cs 0, 4608, .inl go)), (ne, .inl (cs 0, 4608, .inl gn)), (ve, .inl (cs 0, 4, .inl V)), (ma, .inl (cs 0, 64, .inl mf))] : va_W)) (congrArg (mpB gw W md 5 (mlF W md 5 mf (fun x9 y9 => (mft (lokP go 2) (wdt 2 W) (wdt 2 H) (nI x9) (nI y9) (mus wh (V 0) 2) (mus wh (V 1) 2))))) (show y * 8 = 64 by omega)))
        have hD := xeqD hD (congrArg (fun z9 => ([(o, .inr (7, mdF th W H mt qu zz nw ol ne se ke nc ns is ik dc sc 3 md wh fa re ve ps 0 tl di lv bf bo bd co bt ma)), (nw, .inl (cs 0, 4608, .inl z9)), (ol, .inl (cs 0, 4608, .inl go)), (ne, .inl (cs 0, 4608, .inl gn)), (ve, .inl (cs 0, 4, .inl V)), (ma, .inl (cs 0, 64, .inl mf))] : va_W)) (congrArg (mpB gw W md 5 (mlF W md 5 mf (fun x9 y9 => (mft (lokP go 2) (wdt 2 W) (wdt 2 H) (nI x9) (nI y9) (mus wh (V 0) 2) (mus wh (V 1) 2))))) (show y * 8 = 64 by omega)))
        exact xrv hF hr hlk hP hD hS dX7_putBlock_199
      · have hyl : y < 8 := nInle (a := 8) (b := y) rfl rfl (by decide) (by omega) c_95
        refine lv_iconst (v := 0) hx hb dX7_putBlock_98 (by decide) ?_
        refine lv_istore (lv' := [(8, .int 0), (0, .ref o), (2, .int 1), (3, .int 0), (4, .int 2), (5, .int (nI (bL W md 5))), (6, .int (nI (bT W md 5))), (7, .int (nI y))]) hx hb dX7_putBlock_99 hl (by decide) rfl (fun ls hl => ?_)
        have loop_101 : ∀ (k101 : Nat) (x : Nat), 8 - x < k101 → x ≤ 8 → ∀ (Hp : Heap) (locs : List Loc) (ls : Array Slot), va_P D vwCl [(o, .inr (7, mdF th W H mt qu zz nw ol ne se ke nc ns is ik dc sc 3 md wh fa re ve ps 0 tl di lv bf bo bd co bt ma)), (nw, .inl (cs 0, 4608, .inl (mpB gw W md 5 (mlF W md 5 mf (fun x9 y9 => (mft (lokP go 2) (wdt 2 W) (wdt 2 H) (nI x9) (nI y9) (mus wh (V 0) 2) (mus wh (V 1) 2)))) (y * 8 + x)))), (ol, .inl (cs 0, 4608, .inl go)), (ne, .inl (cs 0, 4608, .inl gn)), (ve, .inl (cs 0, 4, .inl V)), (ma, .inl (cs 0, 64, .inl mf))] Hp → va_D A [(o, .inr (7, mdF th W H mt qu zz nw ol ne se ke nc ns is ik dc sc 3 md wh fa re ve ps 0 tl di lv bf bo bd co bt ma)), (nw, .inl (cs 0, 4608, .inl (mpB gw W md 5 (mlF W md 5 mf (fun x9 y9 => (mft (lokP go 2) (wdt 2 W) (wdt 2 H) (nI x9) (nI y9) (mus wh (V 0) 2) (mus wh (V 1) 2)))) (y * 8 + x)))), (ol, .inl (cs 0, 4608, .inl go)), (ne, .inl (cs 0, 4608, .inl gn)), (ve, .inl (cs 0, 4, .inl V)), (ma, .inl (cs 0, 64, .inl mf))] → va_S A s.heap Hp locs → lv_has ls 10 [(0, .ref o), (2, .int 1), (3, .int 0), (4, .int 2), (5, .int (nI (bL W md 5))), (6, .int (nI (bT W md 5))), (7, .int (nI y)), (8, .int (nI x))] → xW p l e ({ frames := 4, cells := 0, slots := 0, locals := 104 } : Room) s m ([.ref o, .int 5, .int 1, .int 0] : List Value).toArray below meth c Hp locs 0 0 (MQ below (xE D A none [(o, .inr (7, mdF th W H mt qu zz nw ol ne se ke nc ns is ik dc sc 3 md wh fa re ve ps 0 tl di lv bf bo bd co bt ma)), (nw, .inl (cs 0, 4608, .inl (mpB gw W md 5 (mlF W md 5 mf (fun x9 y9 => (mft (lokP go 2) (wdt 2 W) (wdt 2 H) (nI x9) (nI y9) (mus wh (V 0) 2) (mus wh (V 1) 2)))) (64)))), (ol, .inl (cs 0, 4608, .inl go)), (ne, .inl (cs 0, 4608, .inl gn)), (ve, .inl (cs 0, 4, .inl V)), (ma, .inl (cs 0, 64, .inl mf))]) ([.ref o, .int 5, .int 1, .int 0] : List Value).toArray s 0 0 A) (F0 m 101 ls []) := by
          intro k101
          induction k101 with
          | zero => intro x h9; omega
          | succ k101 ih_101 =>
            intro x hk101 hx9 Hp locs ls hP hD hS hl
            refine lv_iload hx hb dX7_putBlock_101 (lv_at hl 7 rfl) ?_
            refine lv_bipush (v := 8) hx hb dX7_putBlock_103 (by decide) ?_
            refine lv_icmp_ge (tgt := 193) hx hb dX7_putBlock_105 (by decide) (fun c_105 => ?_) (fun c_105 => ?_)
            · have ex : x = 8 := by have := nIle (a := 8) (b := x) rfl rfl (by decide) (by omega) c_105; omega
              have hP := xeqP hP (congrArg (fun z9 => ([(o, .inr (7, mdF th W H mt qu zz nw ol ne se ke nc ns is ik dc sc 3 md wh fa re ve ps 0 tl di lv bf bo bd co bt ma)), (nw, .inl (cs 0, 4608, .inl z9)), (ol, .inl (cs 0, 4608, .inl go)), (ne, .inl (cs 0, 4608, .inl gn)), (ve, .inl (cs 0, 4, .inl V)), (ma, .inl (cs 0, 64, .inl mf))] : va_W)) (congrArg (mpB gw W md 5 (mlF W md 5 mf (fun x9 y9 => (mft (lokP go 2) (wdt 2 W) (wdt 2 H) (nI x9) (nI y9) (mus wh (V 0) 2) (mus wh (V 1) 2))))) (show y * 8 + x = (y + 1) * 8 by omega)))
              have hD := xeqD hD (congrArg (fun z9 => ([(o, .inr (7, mdF th W H mt qu zz nw ol ne se ke nc ns is ik dc sc 3 md wh fa re ve ps 0 tl di lv bf bo bd co bt ma)), (nw, .inl (cs 0, 4608, .inl z9)), (ol, .inl (cs 0, 4608, .inl go)), (ne, .inl (cs 0, 4608, .inl gn)), (ve, .inl (cs 0, 4, .inl V)), (ma, .inl (cs 0, 64, .inl mf))] : va_W)) (congrArg (mpB gw W md 5 (mlF W md 5 mf (fun x9 y9 => (mft (lokP go 2) (wdt 2 W) (wdt 2 H) (nI x9) (nI y9) (mus wh (V 0) 2) (mus wh (V 1) 2))))) (show y * 8 + x = (y + 1) * 8 by omega)))
              refine lv_iinc (v := (nI (y + 1))) (lv' := [(7, .int (nI (y + 1))), (0, .ref o), (2, .int 1), (3, .int 0), (4, .int 2), (5, .int (nI (bL W md 5))), (6, .int (nI (bT W md 5))), (8, .int (nI x))]) hx hb dX7_putBlock_193 hl (k := 6) rfl (nI_1 y) (by decide) rfl (fun ls hl => ?_)
              refine lv_goto (tgt := 91) hx hb dX7_putBlock_196 (by decide) ?_
              exact ih_91 (y + 1) (by omega) (by omega) _ _ _ hP hD hS (lv_sub hl [1, 2, 3, 4, 5, 6, 0] rfl)
            · have hxl : x < 8 := nInle (a := 8) (b := x) rfl rfl (by decide) (by omega) c_105
              refine lv_aload_n hx hb dX7_putBlock_108 rfl (lv_at hl 0 rfl) ?_
              refine xget (C := RX7) (T := TX7) (N := 34) hF hX hP (by decide +kernel) 0 33 rfl rfl (by decide) (by decide +kernel) rfl dX7_putBlock_109 ?_
              refine lv_bipush (v := 8) hx hb dX7_putBlock_112 (by decide) ?_
              refine lv_iload hx hb dX7_putBlock_114 (lv_at hl 6 rfl) ?_
              refine lv_imul hx hb dX7_putBlock_116 ?_
              refine lv_iload hx hb dX7_putBlock_117 (lv_at hl 7 rfl) ?_
              refine lv_iadd hx hb dX7_putBlock_119 ?_
              refine xrwi (z := nI (y * 8 + x)) (k8 y x) ?_
              refine xald (k := y * 8 + x) hF hX hP 5 rfl (nI_clamp (by omega)) (vp_in_nI (by omega) (by decide)) dX7_putBlock_120 ?_
              refine lv_istore (lv' := [(9, .int (mf (y * 8 + x))), (0, .ref o), (2, .int 1), (3, .int 0), (4, .int 2), (5, .int (nI (bL W md 5))), (6, .int (nI (bT W md 5))), (7, .int (nI y)), (8, .int (nI x))]) hx hb dX7_putBlock_121 hl (by decide) rfl (fun ls hl => ?_)
              refine lv_aload_n hx hb dX7_putBlock_123 rfl (lv_at hl 1 rfl) ?_
              refine xget (C := RX7) (T := TX7) (N := 34) hF hX hP (by decide +kernel) 0 24 rfl rfl (by decide) (by decide +kernel) rfl dX7_putBlock_124 ?_
              refine lv_if_eq (tgt := 135) hx hb dX7_putBlock_127 (by decide) (fun _ => ?_) (fun c_127 => absurd (by decide) c_127)
              refine lv_iload hx hb dX7_putBlock_135 (lv_at hl 0 rfl) ?_
              refine lv_aload_n hx hb dX7_putBlock_137 rfl (lv_at hl 1 rfl) ?_
              refine lv_iload_n hx hb dX7_putBlock_138 rfl (lv_at hl 2 rfl) ?_
              refine lv_iload_n hx hb dX7_putBlock_139 rfl (lv_at hl 3 rfl) ?_
              refine lv_iload hx hb dX7_putBlock_140 (lv_at hl 4 rfl) ?_
              refine lv_iload hx hb dX7_putBlock_142 (lv_at hl 5 rfl) ?_
              refine lv_iload hx hb dX7_putBlock_144 (lv_at hl 8 rfl) ?_
              refine lv_iadd hx hb dX7_putBlock_146 ?_
              refine xrwi (z := nI ((bL W md 5) + x)) (nI_add _ _) ?_
              refine lv_iload hx hb dX7_putBlock_147 (lv_at hl 6 rfl) ?_
              refine lv_iload hx hb dX7_putBlock_149 (lv_at hl 7 rfl) ?_
              refine lv_iadd hx hb dX7_putBlock_151 ?_
              refine xrwi (z := nI ((bT W md 5) + y)) (nI_add _ _) ?_
              refine xV (rest := [.int (mf (y * 8 + x))]) (As := [.int 1, .int 0, .int 2, .int (nI ((bL W md 5) + x)), .int (nI ((bT W md 5) + y))]) (ws1 := [(o, .inr (7, mdF th W H mt qu zz nw ol ne se ke nc ns is ik dc sc 3 md wh fa re ve ps 0 tl di lv bf bo bd co bt ma)), (nw, .inl (cs 0, 4608, .inl (mpB gw W md 5 (mlF W md 5 mf (fun x9 y9 => (mft (lokP go 2) (wdt 2 W) (wdt 2 H) (nI x9) (nI y9) (mus wh (V 0) 2) (mus wh (V 1) 2)))) (y * 8 + x)))), (ol, .inl (cs 0, 4608, .inl go)), (ne, .inl (cs 0, 4608, .inl gn)), (ve, .inl (cs 0, 4, .inl V)), (ma, .inl (cs 0, 64, .inl mf))]) (st1 := [.int (mft (lokP go 2) (wdt 2 W) (wdt 2 H) (nI ((bL W md 5) + x)) (nI ((bT W md 5) + y)) (mus wh (V 0) 2) (mus wh (V 1) 2)), .int (mf (y * 8 + x))]) hF (c_X7_fetchedB l D cs tt o mt qu zz nw ol ne se ke re ve ps di lv bd co bt ma W H md th nc ns is ik dc sc wh fa 0 tl bf bo 2 (nI ((bL W md 5) + x)) (nI ((bT W md 5) + y)) go gn V (by decide) hw hw4 hh hh3) gX7_putBlock_X7_fetched rfl (n := 5) (by decide +kernel) rfl ⟨⟨rfl, rfl⟩, Nat.le_of_ble_eq_true rfl, Nat.le_of_ble_eq_true rfl⟩ ⟨Nat.le_of_ble_eq_true rfl, Nat.le_of_ble_eq_true rfl⟩ hX hP hD hS [0, 2, 3, 4] (by decide) rfl [o, ol, ne, ve] rfl rfl (q0 := 0) (ci := 7) rfl rfl rfl hl.1 rfl (Nat.le_of_ble_eq_true rfl) dX7_putBlock_152 rfl rfl (fun Hp locs hP hD hS => ?_)
              refine lv_iadd hx hb dX7_putBlock_155 ?_
              refine lv_istore (lv' := [(9, .int ((mf (y * 8 + x)) + (mft (lokP go 2) (wdt 2 W) (wdt 2 H) (nI ((bL W md 5) + x)) (nI ((bT W md 5) + y)) (mus wh (V 0) 2) (mus wh (V 1) 2)))), (0, .ref o), (2, .int 1), (3, .int 0), (4, .int 2), (5, .int (nI (bL W md 5))), (6, .int (nI (bT W md 5))), (7, .int (nI y)), (8, .int (nI x))]) hx hb dX7_putBlock_156 hl (by decide) rfl (fun ls hl => ?_)
              refine lv_aload_n hx hb dX7_putBlock_158 rfl (lv_at hl 1 rfl) ?_
              refine xget (C := RX7) (T := TX7) (N := 34) hF hX hP (by decide +kernel) 0 6 rfl rfl (by decide) (by decide +kernel) rfl dX7_putBlock_159 ?_
              refine lv_iload hx hb dX7_putBlock_162 (lv_at hl 4 rfl) ?_
              refine lv_iload hx hb dX7_putBlock_164 (lv_at hl 5 rfl) ?_
              refine lv_iload hx hb dX7_putBlock_166 (lv_at hl 8 rfl) ?_
              refine lv_iadd hx hb dX7_putBlock_168 ?_
              refine xrwi (z := nI ((bL W md 5) + x)) (nI_add _ _) ?_
              refine lv_iload hx hb dX7_putBlock_169 (lv_at hl 6 rfl) ?_
              refine lv_iload hx hb dX7_putBlock_171 (lv_at hl 7 rfl) ?_
              refine lv_iadd hx hb dX7_putBlock_173 ?_
              refine xrwi (z := nI ((bT W md 5) + y)) (nI_add _ _) ?_
              refine xSt (rest := [.ref nw]) (As := [.int 2, .int (nI ((bL W md 5) + x)), .int (nI ((bT W md 5) + y))]) (ws1 := [(o, .inr (7, mdF th W H mt qu zz nw ol ne se ke nc ns is ik dc sc 3 md wh fa re ve ps 0 tl di lv bf bo bd co bt ma)), (nw, .inl (cs 0, 4608, .inl (mpB gw W md 5 (mlF W md 5 mf (fun x9 y9 => (mft (lokP go 2) (wdt 2 W) (wdt 2 H) (nI x9) (nI y9) (mus wh (V 0) 2) (mus wh (V 1) 2)))) (y * 8 + x)))), (ol, .inl (cs 0, 4608, .inl go)), (ne, .inl (cs 0, 4608, .inl gn)), (ve, .inl (cs 0, 4, .inl V)), (ma, .inl (cs 0, 64, .inl mf))]) (st1 := [.int (nI (plc 2 ((bL W md 5) + x) ((bT W md 5) + y))), .ref nw]) hF (c_X7_place l D cs tt 2 ((bL W md 5) + x) ((bT W md 5) + y) (by decide)) gX7_putBlock_X7_place rfl (n := 3) (by decide +kernel) rfl ⟨⟨rfl, rfl⟩, Nat.le_of_ble_eq_true rfl, Nat.le_of_ble_eq_true rfl⟩ ⟨Nat.le_of_ble_eq_true rfl, Nat.le_of_ble_eq_true rfl⟩ hX hP hD hS [] (by decide) rfl [] rfl rfl hl.1 rfl (Nat.le_of_ble_eq_true rfl) dX7_putBlock_174 rfl rfl (fun Hp locs hP hD hS => ?_)
              refine xrwi (z := nI (3840 + (((bT W md 5) + y) * 32 + ((bL W md 5) + x)))) (by unfold plc; rw [if_neg (by decide), if_neg (by decide)]; exact congrArg nI (by omega)) ?_
              refine lv_iload hx hb dX7_putBlock_177 (lv_at hl 0 rfl) ?_
              refine lv_iconst (v := 0) hx hb dX7_putBlock_179 (by decide) ?_
              refine lv_sipush (v := 255) hx hb dX7_putBlock_180 (by decide) ?_
              refine xSt (rest := [.int (nI (3840 + (((bT W md 5) + y) * 32 + ((bL W md 5) + x)))), .ref nw]) (As := [.int ((mf (y * 8 + x)) + (mft (lokP go 2) (wdt 2 W) (wdt 2 H) (nI ((bL W md 5) + x)) (nI ((bT W md 5) + y)) (mus wh (V 0) 2) (mus wh (V 1) 2))), .int 0, .int 255]) (ws1 := [(o, .inr (7, mdF th W H mt qu zz nw ol ne se ke nc ns is ik dc sc 3 md wh fa re ve ps 0 tl di lv bf bo bd co bt ma)), (nw, .inl (cs 0, 4608, .inl (mpB gw W md 5 (mlF W md 5 mf (fun x9 y9 => (mft (lokP go 2) (wdt 2 W) (wdt 2 H) (nI x9) (nI y9) (mus wh (V 0) 2) (mus wh (V 1) 2)))) (y * 8 + x)))), (ol, .inl (cs 0, 4608, .inl go)), (ne, .inl (cs 0, 4608, .inl gn)), (ve, .inl (cs 0, 4, .inl V)), (ma, .inl (cs 0, 64, .inl mf))]) (st1 := [.int (bnd ((mf (y * 8 + x)) + (mft (lokP go 2) (wdt 2 W) (wdt 2 H) (nI ((bL W md 5) + x)) (nI ((bT W md 5) + y)) (mus wh (V 0) 2) (mus wh (V 1) 2))) 0 255), .int (nI (3840 + (((bT W md 5) + y) * 32 + ((bL W md 5) + x)))), .ref nw]) hF (c_X7_within l D cs tt ((mf (y * 8 + x)) + (mft (lokP go 2) (wdt 2 W) (wdt 2 H) (nI ((bL W md 5) + x)) (nI ((bT W md 5) + y)) (mus wh (V 0) 2) (mus wh (V 1) 2))) 0 255) gX7_putBlock_X7_within rfl (n := 3) (by decide +kernel) rfl ⟨⟨rfl, rfl⟩, Nat.le_of_ble_eq_true rfl, Nat.le_of_ble_eq_true rfl⟩ ⟨Nat.le_of_ble_eq_true rfl, Nat.le_of_ble_eq_true rfl⟩ hX hP hD hS [] (by decide) rfl [] rfl rfl hl.1 rfl (Nat.le_of_ble_eq_true rfl) dX7_putBlock_183 rfl rfl (fun Hp locs hP hD hS => ?_)
              refine xast (k := 3840 + (((bT W md 5) + y) * 32 + ((bL W md 5) + x))) (ws1 := [(o, .inr (7, mdF th W H mt qu zz nw ol ne se ke nc ns is ik dc sc 3 md wh fa re ve ps 0 tl di lv bf bo bd co bt ma)), (nw, .inl (cs 0, 4608, .inl (mpB gw W md 5 (mlF W md 5 mf (fun x9 y9 => (mft (lokP go 2) (wdt 2 W) (wdt 2 H) (nI x9) (nI y9) (mus wh (V 0) 2) (mus wh (V 1) 2)))) (y * 8 + (x + 1))))), (ol, .inl (cs 0, 4608, .inl go)), (ne, .inl (cs 0, 4608, .inl gn)), (ve, .inl (cs 0, 4, .inl V)), (ma, .inl (cs 0, 64, .inl mf))]) hF hX hP hD hS 1 rfl (nI_clamp (by omega)) (vp_in_nI (by omega) (by decide)) dX7_putBlock_186 (congrArg (fun z9 => ([(o, .inr (7, mdF th W H mt qu zz nw ol ne se ke nc ns is ik dc sc 3 md wh fa re ve ps 0 tl di lv bf bo bd co bt ma)), (nw, .inl (cs 0, 4608, .inl z9)), (ol, .inl (cs 0, 4608, .inl go)), (ne, .inl (cs 0, 4608, .inl gn)), (ve, .inl (cs 0, 4, .inl V)), (ma, .inl (cs 0, 64, .inl mf))] : va_W)) (pbs gw (mlF W md 5 mf (fun x9 y9 => (mft (lokP go 2) (wdt 2 W) (wdt 2 H) (nI x9) (nI y9) (mus wh (V 0) 2) (mus wh (V 1) 2)))) (by unfold mlF; rw [show ((bT W md 5) + y - (bT W md 5)) * 8 + ((bL W md 5) + x - (bL W md 5)) = y * 8 + x by omega]) hxl (show (bL W md 5) + 8 ≤ 32 by omega))) (fun Hp locs hP hD hS => ?_)
              refine lv_iinc (v := (nI (x + 1))) (lv' := [(8, .int (nI (x + 1))), (9, .int ((mf (y * 8 + x)) + (mft (lokP go 2) (wdt 2 W) (wdt 2 H) (nI ((bL W md 5) + x)) (nI ((bT W md 5) + y)) (mus wh (V 0) 2) (mus wh (V 1) 2)))), (0, .ref o), (2, .int 1), (3, .int 0), (4, .int 2), (5, .int (nI (bL W md 5))), (6, .int (nI (bT W md 5))), (7, .int (nI y))]) hx hb dX7_putBlock_187 hl (k := 8) rfl (nI_1 x) (by decide) rfl (fun ls hl => ?_)
              refine lv_goto (tgt := 101) hx hb dX7_putBlock_190 (by decide) ?_
              exact ih_101 (x + 1) (by omega) (by omega) _ _ _ hP hD hS (lv_sub hl [2, 3, 4, 5, 6, 7, 8, 0] rfl)
        exact loop_101 (8 - 0 + 1) 0 (Nat.lt_succ_self _) (by decide) _ _ _ hP hD hS (lv_sub hl [1, 2, 3, 4, 5, 6, 7, 0] rfl)
  have hP := xeqP hP (congrArg (fun z9 => ([(o, .inr (7, mdF th W H mt qu zz nw ol ne se ke nc ns is ik dc sc 3 md wh fa re ve ps 0 tl di lv bf bo bd co bt ma)), (nw, .inl (cs 0, 4608, .inl z9)), (ol, .inl (cs 0, 4608, .inl go)), (ne, .inl (cs 0, 4608, .inl gn)), (ve, .inl (cs 0, 4, .inl V)), (ma, .inl (cs 0, 64, .inl mf))] : va_W)) ((show gw = mpB gw W md 5 (mlF W md 5 mf (fun x9 y9 => (mft (lokP go 2) (wdt 2 W) (wdt 2 H) (nI x9) (nI y9) (mus wh (V 0) 2) (mus wh (V 1) 2)))) (0 * 8) from (blkTo_0 gw _ _ _ _ 8 (mlF W md 5 mf (fun x9 y9 => (mft (lokP go 2) (wdt 2 W) (wdt 2 H) (nI x9) (nI y9) (mus wh (V 0) 2) (mus wh (V 1) 2))))).symm)))
  have hD := xeqD hD (congrArg (fun z9 => ([(o, .inr (7, mdF th W H mt qu zz nw ol ne se ke nc ns is ik dc sc 3 md wh fa re ve ps 0 tl di lv bf bo bd co bt ma)), (nw, .inl (cs 0, 4608, .inl z9)), (ol, .inl (cs 0, 4608, .inl go)), (ne, .inl (cs 0, 4608, .inl gn)), (ve, .inl (cs 0, 4, .inl V)), (ma, .inl (cs 0, 64, .inl mf))] : va_W)) ((show gw = mpB gw W md 5 (mlF W md 5 mf (fun x9 y9 => (mft (lokP go 2) (wdt 2 W) (wdt 2 H) (nI x9) (nI y9) (mus wh (V 0) 2) (mus wh (V 1) 2)))) (0 * 8) from (blkTo_0 gw _ _ _ _ 8 (mlF W md 5 mf (fun x9 y9 => (mft (lokP go 2) (wdt 2 W) (wdt 2 H) (nI x9) (nI y9) (mus wh (V 0) 2) (mus wh (V 1) 2))))).symm)))
  exact loop_91 (8 - 0 + 1) 0 (Nat.lt_succ_self _) (by decide) _ _ _ hP hD hS (lv_sub hl [4, 6, 7, 3, 2, 1, 0] rfl)

set_option maxHeartbeats 4000000 in
set_option maxRecDepth 100000 in
theorem c_X7_putBlock5C (l : Launch) (D : va_G) (cs : Nat → ClassId) (tt : Nat → Nat) (o mt qu zz nw ol ne se ke re ve ps di lv bd co bt ma W H md : Nat) (th nc ns is ik dc sc wh fa tl bf bo : Int32) (gw mf go gn V : Nat → Int32) (hw : 1 ≤ W) (hw4 : W ≤ 4) (hh : 1 ≤ H) (hh3 : H ≤ 3) (hmd : md < W * H) : xM l yX7_putBlock wsX7_putBlock ({ frames := 4, cells := 0, slots := 0, locals := 104 } : Room) D cs tt [.ref o, .int 5, .int 0, .int 1] [(o, .inr (7, mdF th W H mt qu zz nw ol ne se ke nc ns is ik dc sc 3 md wh fa re ve ps 0 tl di lv bf bo bd co bt ma)), (nw, .inl (cs 0, 4608, .inl gw)), (ol, .inl (cs 0, 4608, .inl go)), (ne, .inl (cs 0, 4608, .inl gn)), (ve, .inl (cs 0, 4, .inl V)), (ma, .inl (cs 0, 64, .inl mf))] none [(o, .inr (7, mdF th W H mt qu zz nw ol ne se ke nc ns is ik dc sc 3 md wh fa re ve ps 0 tl di lv bf bo bd co bt ma)), (nw, .inl (cs 0, 4608, .inl (mpB gw W md 5 (mlF W md 5 mf (fun x9 y9 => (mft (lokP gn 2) (wdt 2 W) (wdt 2 H) (nI x9) (nI y9) (mus wh (V 2) 2) (mus wh (V 3) 2)))) (64)))), (ol, .inl (cs 0, 4608, .inl go)), (ne, .inl (cs 0, 4608, .inl gn)), (ve, .inl (cs 0, 4, .inl V)), (ma, .inl (cs 0, 64, .inl mf))] := by
  refine xM.of RX7 rfl (by decide) rfl (Nat.le_of_ble_eq_true rfl) ?_
  intro p e s m below meth c A ls hF hr hlk hX hP hD hS hl
  have hx := hF.1
  have hb := hF.2.1
  have hl : lv_has ls 10 [(0, .ref o), (1, .int 5), (2, .int 0), (3, .int 1)] := hl
  have hm4 : md < 4096 := Nat.lt_of_lt_of_le hmd (Nat.le_trans (Nat.mul_le_mul hw4 hh3) (by decide))
  have hb9 := b_in hw hmd 5 (by decide)
  have hbl : (bL W md 5) + 8 ≤ 8 * W := hb9.1
  have hbt : (bT W md 5) + 8 ≤ 8 * H := hb9.2
  have hsL : bL W md 5 = bL W md 5 := rfl
  refine lv_iload_n hx hb dX7_putBlock_0 rfl (lv_at hl 1 rfl) ?_
  refine xSt (rest := []) (As := [.int 5]) (ws1 := [(o, .inr (7, mdF th W H mt qu zz nw ol ne se ke nc ns is ik dc sc 3 md wh fa re ve ps 0 tl di lv bf bo bd co bt ma)), (nw, .inl (cs 0, 4608, .inl gw)), (ol, .inl (cs 0, 4608, .inl go)), (ne, .inl (cs 0, 4608, .inl gn)), (ve, .inl (cs 0, 4, .inl V)), (ma, .inl (cs 0, 64, .inl mf))]) (st1 := [.int (pln 5)]) hF (c_X7_planeOf l D cs tt 5) gX7_putBlock_X7_planeOf rfl (n := 1) (by decide +kernel) rfl ⟨⟨rfl, rfl⟩, Nat.le_of_ble_eq_true rfl, Nat.le_of_ble_eq_true rfl⟩ ⟨Nat.le_of_ble_eq_true rfl, Nat.le_of_ble_eq_true rfl⟩ hX hP hD hS [] (by decide) rfl [] rfl rfl hl.1 rfl (Nat.le_of_ble_eq_true rfl) dX7_putBlock_1 rfl rfl (fun Hp locs hP hD hS => ?_)
  refine xrwi (z := 2) (by decide) ?_
  refine lv_istore (lv' := [(4, .int 2), (0, .ref o), (1, .int 5), (2, .int 0), (3, .int 1)]) hx hb dX7_putBlock_4 hl (by decide) rfl (fun ls hl => ?_)
  refine lv_iload hx hb dX7_putBlock_6 (lv_at hl 0 rfl) ?_
  refine lv_if_ne (tgt := 33) hx hb dX7_putBlock_8 (by decide) (fun _ => ?_) (fun c_8 => absurd c_8 (by decide))
  refine lv_bipush (v := 8) hx hb dX7_putBlock_33 (by decide) ?_
  refine lv_aload_n hx hb dX7_putBlock_35 rfl (lv_at hl 1 rfl) ?_
  refine xget (C := RX7) (T := TX7) (N := 34) hF hX hP (by decide +kernel) 0 18 rfl rfl (by decide) (by decide +kernel) rfl dX7_putBlock_36 ?_
  refine lv_aload_n hx hb dX7_putBlock_39 rfl (lv_at hl 1 rfl) ?_
  refine xget (C := RX7) (T := TX7) (N := 34) hF hX hP (by decide +kernel) 0 1 rfl rfl (by decide) (by decide +kernel) rfl dX7_putBlock_40 ?_
  refine lv_irem hx hb dX7_putBlock_43 (nI_ne0 (by omega) (by omega)) ?_
  refine xrwi (z := nI (md % W)) (pk_rem (by omega) (by omega) (by omega)) ?_
  refine lv_imul hx hb dX7_putBlock_44 ?_
  refine xrwi (z := nI (bL W md 5)) (by rw [show (8 : Int32) * nI (md % W) = nI (8 * (md % W)) from pk_mul 8 _]; exact congrArg nI (show 8 * (md % W) = bL W md 5 by show _ = md % W * 8; omega)) ?_
  refine lv_istore (lv' := [(5, .int (nI (bL W md 5))), (4, .int 2), (0, .ref o), (1, .int 5), (2, .int 0), (3, .int 1)]) hx hb dX7_putBlock_45 hl (by decide) rfl (fun ls hl => ?_)
  refine lv_iload hx hb dX7_putBlock_47 (lv_at hl 1 rfl) ?_
  refine lv_if_ne (tgt := 74) hx hb dX7_putBlock_49 (by decide) (fun _ => ?_) (fun c_49 => absurd c_49 (by decide))
  refine lv_bipush (v := 8) hx hb dX7_putBlock_74 (by decide) ?_
  refine lv_aload_n hx hb dX7_putBlock_76 rfl (lv_at hl 2 rfl) ?_
  refine xget (C := RX7) (T := TX7) (N := 34) hF hX hP (by decide +kernel) 0 18 rfl rfl (by decide) (by decide +kernel) rfl dX7_putBlock_77 ?_
  refine lv_aload_n hx hb dX7_putBlock_80 rfl (lv_at hl 2 rfl) ?_
  refine xget (C := RX7) (T := TX7) (N := 34) hF hX hP (by decide +kernel) 0 1 rfl rfl (by decide) (by decide +kernel) rfl dX7_putBlock_81 ?_
  refine lv_idiv hx hb dX7_putBlock_84 (nI_ne0 (by omega) (by omega)) ?_
  refine xrwi (z := nI (md / W)) (pk_div (by omega) (by omega) (by omega)) ?_
  refine lv_imul hx hb dX7_putBlock_85 ?_
  refine xrwi (z := nI (bT W md 5)) (by rw [show (8 : Int32) * nI (md / W) = nI (8 * (md / W)) from pk_mul 8 _]; exact congrArg nI (show 8 * (md / W) = bT W md 5 by show _ = md / W * 8; omega)) ?_
  refine lv_istore (lv' := [(6, .int (nI (bT W md 5))), (5, .int (nI (bL W md 5))), (4, .int 2), (0, .ref o), (1, .int 5), (2, .int 0), (3, .int 1)]) hx hb dX7_putBlock_86 hl (by decide) rfl (fun ls hl => ?_)
  refine lv_iconst (v := 0) hx hb dX7_putBlock_88 (by decide) ?_
  refine lv_istore (lv' := [(7, .int 0), (6, .int (nI (bT W md 5))), (5, .int (nI (bL W md 5))), (4, .int 2), (0, .ref o), (1, .int 5), (2, .int 0), (3, .int 1)]) hx hb dX7_putBlock_89 hl (by decide) rfl (fun ls hl => ?_)
  have loop_91 : ∀ (k91 : Nat) (y : Nat), 8 - y < k91 → y ≤ 8 → ∀ (Hp : Heap) (locs : List Loc) (ls : Array Slot), va_P D vwCl [(o, .inr (7, mdF th W H mt qu zz nw ol ne se ke nc ns is ik dc sc 3 md wh fa re ve ps 0 tl di lv bf bo bd co bt ma)), (nw, .inl (cs 0, 4608, .inl (mpB gw W md 5 (mlF W md 5 mf (fun x9 y9 => (mft (lokP gn 2) (wdt 2 W) (wdt 2 H) (nI x9) (nI y9) (mus wh (V 2) 2) (mus wh (V 3) 2)))) (y * 8)))), (ol, .inl (cs 0, 4608, .inl go)), (ne, .inl (cs 0, 4608, .inl gn)), (ve, .inl (cs 0, 4, .inl V)), (ma, .inl (cs 0, 64, .inl mf))] Hp → va_D A [(o, .inr (7, mdF th W H mt qu zz nw ol ne se ke nc ns is ik dc sc 3 md wh fa re ve ps 0 tl di lv bf bo bd co bt ma)), (nw, .inl (cs 0, 4608, .inl (mpB gw W md 5 (mlF W md 5 mf (fun x9 y9 => (mft (lokP gn 2) (wdt 2 W) (wdt 2 H) (nI x9) (nI y9) (mus wh (V 2) 2) (mus wh (V 3) 2)))) (y * 8)))), (ol, .inl (cs 0, 4608, .inl go)), (ne, .inl (cs 0, 4608, .inl gn)), (ve, .inl (cs 0, 4, .inl V)), (ma, .inl (cs 0, 64, .inl mf))] → va_S A s.heap Hp locs → lv_has ls 10 [(0, .ref o), (2, .int 0), (3, .int 1), (4, .int 2), (5, .int (nI (bL W md 5))), (6, .int (nI (bT W md 5))), (7, .int (nI y))] → xW p l e ({ frames := 4, cells := 0, slots := 0, locals := 104 } : Room) s m ([.ref o, .int 5, .int 0, .int 1] : List Value).toArray below meth c Hp locs 0 0 (MQ below (xE D A none [(o, .inr (7, mdF th W H mt qu zz nw ol ne se ke nc ns is ik dc sc 3 md wh fa re ve ps 0 tl di lv bf bo bd co bt ma)), (nw, .inl (cs 0, 4608, .inl (mpB gw W md 5 (mlF W md 5 mf (fun x9 y9 => (mft (lokP gn 2) (wdt 2 W) (wdt 2 H) (nI x9) (nI y9) (mus wh (V 2) 2) (mus wh (V 3) 2)))) (64)))), (ol, .inl (cs 0, 4608, .inl go)), (ne, .inl (cs 0, 4608, .inl gn)), (ve, .inl (cs 0, 4, .inl V)), (ma, .inl (cs 0, 64, .inl mf))]) ([.ref o, .int 5, .int 0, .int 1] : List Value).toArray s 0 0 A) (F0 m 91 ls []) := by
    intro k91
    induction k91 with
    | zero => intro y h9; omega
    | succ k91 ih_91 =>
      intro y hk91 hy9 Hp locs ls hP hD hS hl
      refine lv_iload hx hb dX7_putBlock_91 (lv_at hl 6 rfl) ?_
      refine lv_bipush (v := 8) hx hb dX7_putBlock_93 (by decide) ?_
      refine lv_icmp_ge (tgt := 199) hx hb dX7_putBlock_95 (by decide) (fun c_95 => ?_) (fun c_95 => ?_)
      · have ey : y = 8 := by have := nIle (a := 8) (b := y) rfl rfl (by decide) (by omega) c_95; omega
        have hP := xeqP hP (congrArg (fun z9 => ([(o, .inr (7, mdF th W H mt qu zz nw ol ne se ke nc ns is ik dc sc 3 md wh fa re ve ps 0 tl di lv bf bo bd co bt ma)), (nw, .inl (cs 0, 4608, .inl z9)), (ol, .inl (cs 0, 4608, .inl go)), (ne, .inl (cs 0, 4608, .inl gn)), (ve, .inl (cs 0, 4, .inl V)), (ma, .inl (cs 0, 64, .inl mf))] : va_W)) (congrArg (mpB gw W md 5 (mlF W md 5 mf (fun x9 y9 => (mft (lokP gn 2) (wdt 2 W) (wdt 2 H) (nI x9) (nI y9) (mus wh (V 2) 2) (mus wh (V 3) 2))))) (show y * 8 = 64 by omega)))
        have hD := xeqD hD (congrArg (fun z9 => ([(o, .inr (7, mdF th W H mt qu zz nw ol ne se ke nc ns is ik dc sc 3 md wh fa re ve ps 0 tl di lv bf bo bd co bt ma)), (nw, .inl (cs 0, 4608, .inl z9)), (ol, .inl (cs 0, 4608, .inl go)), (ne, .inl (cs 0, 4608, .inl gn)), (ve, .inl (cs 0, 4, .inl V)), (ma, .inl (cs 0, 64, .inl mf))] : va_W)) (congrArg (mpB gw W md 5 (mlF W md 5 mf (fun x9 y9 => (mft (lokP gn 2) (wdt 2 W) (wdt 2 H) (nI x9) (nI y9) (mus wh (V 2) 2) (mus wh (V 3) 2))))) (show y * 8 = 64 by omega)))
        exact xrv hF hr hlk hP hD hS dX7_putBlock_199
      · have hyl : y < 8 := nInle (a := 8) (b := y) rfl rfl (by decide) (by omega) c_95
        refine lv_iconst (v := 0) hx hb dX7_putBlock_98 (by decide) ?_
        refine lv_istore (lv' := [(8, .int 0), (0, .ref o), (2, .int 0), (3, .int 1), (4, .int 2), (5, .int (nI (bL W md 5))), (6, .int (nI (bT W md 5))), (7, .int (nI y))]) hx hb dX7_putBlock_99 hl (by decide) rfl (fun ls hl => ?_)
        have loop_101 : ∀ (k101 : Nat) (x : Nat), 8 - x < k101 → x ≤ 8 → ∀ (Hp : Heap) (locs : List Loc) (ls : Array Slot), va_P D vwCl [(o, .inr (7, mdF th W H mt qu zz nw ol ne se ke nc ns is ik dc sc 3 md wh fa re ve ps 0 tl di lv bf bo bd co bt ma)), (nw, .inl (cs 0, 4608, .inl (mpB gw W md 5 (mlF W md 5 mf (fun x9 y9 => (mft (lokP gn 2) (wdt 2 W) (wdt 2 H) (nI x9) (nI y9) (mus wh (V 2) 2) (mus wh (V 3) 2)))) (y * 8 + x)))), (ol, .inl (cs 0, 4608, .inl go)), (ne, .inl (cs 0, 4608, .inl gn)), (ve, .inl (cs 0, 4, .inl V)), (ma, .inl (cs 0, 64, .inl mf))] Hp → va_D A [(o, .inr (7, mdF th W H mt qu zz nw ol ne se ke nc ns is ik dc sc 3 md wh fa re ve ps 0 tl di lv bf bo bd co bt ma)), (nw, .inl (cs 0, 4608, .inl (mpB gw W md 5 (mlF W md 5 mf (fun x9 y9 => (mft (lokP gn 2) (wdt 2 W) (wdt 2 H) (nI x9) (nI y9) (mus wh (V 2) 2) (mus wh (V 3) 2)))) (y * 8 + x)))), (ol, .inl (cs 0, 4608, .inl go)), (ne, .inl (cs 0, 4608, .inl gn)), (ve, .inl (cs 0, 4, .inl V)), (ma, .inl (cs 0, 64, .inl mf))] → va_S A s.heap Hp locs → lv_has ls 10 [(0, .ref o), (2, .int 0), (3, .int 1), (4, .int 2), (5, .int (nI (bL W md 5))), (6, .int (nI (bT W md 5))), (7, .int (nI y)), (8, .int (nI x))] → xW p l e ({ frames := 4, cells := 0, slots := 0, locals := 104 } : Room) s m ([.ref o, .int 5, .int 0, .int 1] : List Value).toArray below meth c Hp locs 0 0 (MQ below (xE D A none [(o, .inr (7, mdF th W H mt qu zz nw ol ne se ke nc ns is ik dc sc 3 md wh fa re ve ps 0 tl di lv bf bo bd co bt ma)), (nw, .inl (cs 0, 4608, .inl (mpB gw W md 5 (mlF W md 5 mf (fun x9 y9 => (mft (lokP gn 2) (wdt 2 W) (wdt 2 H) (nI x9) (nI y9) (mus wh (V 2) 2) (mus wh (V 3) 2)))) (64)))), (ol, .inl (cs 0, 4608, .inl go)), (ne, .inl (cs 0, 4608, .inl gn)), (ve, .inl (cs 0, 4, .inl V)), (ma, .inl (cs 0, 64, .inl mf))]) ([.ref o, .int 5, .int 0, .int 1] : List Value).toArray s 0 0 A) (F0 m 101 ls []) := by
          intro k101
          induction k101 with
          | zero => intro x h9; omega
          | succ k101 ih_101 =>
            intro x hk101 hx9 Hp locs ls hP hD hS hl
            refine lv_iload hx hb dX7_putBlock_101 (lv_at hl 7 rfl) ?_
            refine lv_bipush (v := 8) hx hb dX7_putBlock_103 (by decide) ?_
            refine lv_icmp_ge (tgt := 193) hx hb dX7_putBlock_105 (by decide) (fun c_105 => ?_) (fun c_105 => ?_)
            · have ex : x = 8 := by have := nIle (a := 8) (b := x) rfl rfl (by decide) (by omega) c_105; omega
              have hP := xeqP hP (congrArg (fun z9 => ([(o, .inr (7, mdF th W H mt qu zz nw ol ne se ke nc ns is ik dc sc 3 md wh fa re ve ps 0 tl di lv bf bo bd co bt ma)), (nw, .inl (cs 0, 4608, .inl z9)), (ol, .inl (cs 0, 4608, .inl go)), (ne, .inl (cs 0, 4608, .inl gn)), (ve, .inl (cs 0, 4, .inl V)), (ma, .inl (cs 0, 64, .inl mf))] : va_W)) (congrArg (mpB gw W md 5 (mlF W md 5 mf (fun x9 y9 => (mft (lokP gn 2) (wdt 2 W) (wdt 2 H) (nI x9) (nI y9) (mus wh (V 2) 2) (mus wh (V 3) 2))))) (show y * 8 + x = (y + 1) * 8 by omega)))
              have hD := xeqD hD (congrArg (fun z9 => ([(o, .inr (7, mdF th W H mt qu zz nw ol ne se ke nc ns is ik dc sc 3 md wh fa re ve ps 0 tl di lv bf bo bd co bt ma)), (nw, .inl (cs 0, 4608, .inl z9)), (ol, .inl (cs 0, 4608, .inl go)), (ne, .inl (cs 0, 4608, .inl gn)), (ve, .inl (cs 0, 4, .inl V)), (ma, .inl (cs 0, 64, .inl mf))] : va_W)) (congrArg (mpB gw W md 5 (mlF W md 5 mf (fun x9 y9 => (mft (lokP gn 2) (wdt 2 W) (wdt 2 H) (nI x9) (nI y9) (mus wh (V 2) 2) (mus wh (V 3) 2))))) (show y * 8 + x = (y + 1) * 8 by omega)))
              refine lv_iinc (v := (nI (y + 1))) (lv' := [(7, .int (nI (y + 1))), (0, .ref o), (2, .int 0), (3, .int 1), (4, .int 2), (5, .int (nI (bL W md 5))), (6, .int (nI (bT W md 5))), (8, .int (nI x))]) hx hb dX7_putBlock_193 hl (k := 6) rfl (nI_1 y) (by decide) rfl (fun ls hl => ?_)
              refine lv_goto (tgt := 91) hx hb dX7_putBlock_196 (by decide) ?_
              exact ih_91 (y + 1) (by omega) (by omega) _ _ _ hP hD hS (lv_sub hl [1, 2, 3, 4, 5, 6, 0] rfl)
            · have hxl : x < 8 := nInle (a := 8) (b := x) rfl rfl (by decide) (by omega) c_105
              refine lv_aload_n hx hb dX7_putBlock_108 rfl (lv_at hl 0 rfl) ?_
              refine xget (C := RX7) (T := TX7) (N := 34) hF hX hP (by decide +kernel) 0 33 rfl rfl (by decide) (by decide +kernel) rfl dX7_putBlock_109 ?_
              refine lv_bipush (v := 8) hx hb dX7_putBlock_112 (by decide) ?_
              refine lv_iload hx hb dX7_putBlock_114 (lv_at hl 6 rfl) ?_
              refine lv_imul hx hb dX7_putBlock_116 ?_
              refine lv_iload hx hb dX7_putBlock_117 (lv_at hl 7 rfl) ?_
              refine lv_iadd hx hb dX7_putBlock_119 ?_
              refine xrwi (z := nI (y * 8 + x)) (k8 y x) ?_
              refine xald (k := y * 8 + x) hF hX hP 5 rfl (nI_clamp (by omega)) (vp_in_nI (by omega) (by decide)) dX7_putBlock_120 ?_
              refine lv_istore (lv' := [(9, .int (mf (y * 8 + x))), (0, .ref o), (2, .int 0), (3, .int 1), (4, .int 2), (5, .int (nI (bL W md 5))), (6, .int (nI (bT W md 5))), (7, .int (nI y)), (8, .int (nI x))]) hx hb dX7_putBlock_121 hl (by decide) rfl (fun ls hl => ?_)
              refine lv_aload_n hx hb dX7_putBlock_123 rfl (lv_at hl 1 rfl) ?_
              refine xget (C := RX7) (T := TX7) (N := 34) hF hX hP (by decide +kernel) 0 24 rfl rfl (by decide) (by decide +kernel) rfl dX7_putBlock_124 ?_
              refine lv_if_eq (tgt := 135) hx hb dX7_putBlock_127 (by decide) (fun _ => ?_) (fun c_127 => absurd (by decide) c_127)
              refine lv_iload hx hb dX7_putBlock_135 (lv_at hl 0 rfl) ?_
              refine lv_aload_n hx hb dX7_putBlock_137 rfl (lv_at hl 1 rfl) ?_
              refine lv_iload_n hx hb dX7_putBlock_138 rfl (lv_at hl 2 rfl) ?_
              refine lv_iload_n hx hb dX7_putBlock_139 rfl (lv_at hl 3 rfl) ?_
              refine lv_iload hx hb dX7_putBlock_140 (lv_at hl 4 rfl) ?_
              refine lv_iload hx hb dX7_putBlock_142 (lv_at hl 5 rfl) ?_
              refine lv_iload hx hb dX7_putBlock_144 (lv_at hl 8 rfl) ?_
              refine lv_iadd hx hb dX7_putBlock_146 ?_
              refine xrwi (z := nI ((bL W md 5) + x)) (nI_add _ _) ?_
              refine lv_iload hx hb dX7_putBlock_147 (lv_at hl 6 rfl) ?_
              refine lv_iload hx hb dX7_putBlock_149 (lv_at hl 7 rfl) ?_
              refine lv_iadd hx hb dX7_putBlock_151 ?_
              refine xrwi (z := nI ((bT W md 5) + y)) (nI_add _ _) ?_
              refine xV (rest := [.int (mf (y * 8 + x))]) (As := [.int 0, .int 1, .int 2, .int (nI ((bL W md 5) + x)), .int (nI ((bT W md 5) + y))]) (ws1 := [(o, .inr (7, mdF th W H mt qu zz nw ol ne se ke nc ns is ik dc sc 3 md wh fa re ve ps 0 tl di lv bf bo bd co bt ma)), (nw, .inl (cs 0, 4608, .inl (mpB gw W md 5 (mlF W md 5 mf (fun x9 y9 => (mft (lokP gn 2) (wdt 2 W) (wdt 2 H) (nI x9) (nI y9) (mus wh (V 2) 2) (mus wh (V 3) 2)))) (y * 8 + x)))), (ol, .inl (cs 0, 4608, .inl go)), (ne, .inl (cs 0, 4608, .inl gn)), (ve, .inl (cs 0, 4, .inl V)), (ma, .inl (cs 0, 64, .inl mf))]) (st1 := [.int (mft (lokP gn 2) (wdt 2 W) (wdt 2 H) (nI ((bL W md 5) + x)) (nI ((bT W md 5) + y)) (mus wh (V 2) 2) (mus wh (V 3) 2)), .int (mf (y * 8 + x))]) hF (c_X7_fetchedC l D cs tt o mt qu zz nw ol ne se ke re ve ps di lv bd co bt ma W H md th nc ns is ik dc sc wh fa 0 tl bf bo 2 (nI ((bL W md 5) + x)) (nI ((bT W md 5) + y)) go gn V (by decide) hw hw4 hh hh3) gX7_putBlock_X7_fetched rfl (n := 5) (by decide +kernel) rfl ⟨⟨rfl, rfl⟩, Nat.le_of_ble_eq_true rfl, Nat.le_of_ble_eq_true rfl⟩ ⟨Nat.le_of_ble_eq_true rfl, Nat.le_of_ble_eq_true rfl⟩ hX hP hD hS [0, 2, 3, 4] (by decide) rfl [o, ol, ne, ve] rfl rfl (q0 := 0) (ci := 7) rfl rfl rfl hl.1 rfl (Nat.le_of_ble_eq_true rfl) dX7_putBlock_152 rfl rfl (fun Hp locs hP hD hS => ?_)
              refine lv_iadd hx hb dX7_putBlock_155 ?_
              refine lv_istore (lv' := [(9, .int ((mf (y * 8 + x)) + (mft (lokP gn 2) (wdt 2 W) (wdt 2 H) (nI ((bL W md 5) + x)) (nI ((bT W md 5) + y)) (mus wh (V 2) 2) (mus wh (V 3) 2)))), (0, .ref o), (2, .int 0), (3, .int 1), (4, .int 2), (5, .int (nI (bL W md 5))), (6, .int (nI (bT W md 5))), (7, .int (nI y)), (8, .int (nI x))]) hx hb dX7_putBlock_156 hl (by decide) rfl (fun ls hl => ?_)
              refine lv_aload_n hx hb dX7_putBlock_158 rfl (lv_at hl 1 rfl) ?_
              refine xget (C := RX7) (T := TX7) (N := 34) hF hX hP (by decide +kernel) 0 6 rfl rfl (by decide) (by decide +kernel) rfl dX7_putBlock_159 ?_
              refine lv_iload hx hb dX7_putBlock_162 (lv_at hl 4 rfl) ?_
              refine lv_iload hx hb dX7_putBlock_164 (lv_at hl 5 rfl) ?_
              refine lv_iload hx hb dX7_putBlock_166 (lv_at hl 8 rfl) ?_
              refine lv_iadd hx hb dX7_putBlock_168 ?_
              refine xrwi (z := nI ((bL W md 5) + x)) (nI_add _ _) ?_
              refine lv_iload hx hb dX7_putBlock_169 (lv_at hl 6 rfl) ?_
              refine lv_iload hx hb dX7_putBlock_171 (lv_at hl 7 rfl) ?_
              refine lv_iadd hx hb dX7_putBlock_173 ?_
              refine xrwi (z := nI ((bT W md 5) + y)) (nI_add _ _) ?_
              refine xSt (rest := [.ref nw]) (As := [.int 2, .int (nI ((bL W md 5) + x)), .int (nI ((bT W md 5) + y))]) (ws1 := [(o, .inr (7, mdF th W H mt qu zz nw ol ne se ke nc ns is ik dc sc 3 md wh fa re ve ps 0 tl di lv bf bo bd co bt ma)), (nw, .inl (cs 0, 4608, .inl (mpB gw W md 5 (mlF W md 5 mf (fun x9 y9 => (mft (lokP gn 2) (wdt 2 W) (wdt 2 H) (nI x9) (nI y9) (mus wh (V 2) 2) (mus wh (V 3) 2)))) (y * 8 + x)))), (ol, .inl (cs 0, 4608, .inl go)), (ne, .inl (cs 0, 4608, .inl gn)), (ve, .inl (cs 0, 4, .inl V)), (ma, .inl (cs 0, 64, .inl mf))]) (st1 := [.int (nI (plc 2 ((bL W md 5) + x) ((bT W md 5) + y))), .ref nw]) hF (c_X7_place l D cs tt 2 ((bL W md 5) + x) ((bT W md 5) + y) (by decide)) gX7_putBlock_X7_place rfl (n := 3) (by decide +kernel) rfl ⟨⟨rfl, rfl⟩, Nat.le_of_ble_eq_true rfl, Nat.le_of_ble_eq_true rfl⟩ ⟨Nat.le_of_ble_eq_true rfl, Nat.le_of_ble_eq_true rfl⟩ hX hP hD hS [] (by decide) rfl [] rfl rfl hl.1 rfl (Nat.le_of_ble_eq_true rfl) dX7_putBlock_174 rfl rfl (fun Hp locs hP hD hS => ?_)
              refine xrwi (z := nI (3840 + (((bT W md 5) + y) * 32 + ((bL W md 5) + x)))) (by unfold plc; rw [if_neg (by decide), if_neg (by decide)]; exact congrArg nI (by omega)) ?_
              refine lv_iload hx hb dX7_putBlock_177 (lv_at hl 0 rfl) ?_
              refine lv_iconst (v := 0) hx hb dX7_putBlock_179 (by decide) ?_
              refine lv_sipush (v := 255) hx hb dX7_putBlock_180 (by decide) ?_
              refine xSt (rest := [.int (nI (3840 + (((bT W md 5) + y) * 32 + ((bL W md 5) + x)))), .ref nw]) (As := [.int ((mf (y * 8 + x)) + (mft (lokP gn 2) (wdt 2 W) (wdt 2 H) (nI ((bL W md 5) + x)) (nI ((bT W md 5) + y)) (mus wh (V 2) 2) (mus wh (V 3) 2))), .int 0, .int 255]) (ws1 := [(o, .inr (7, mdF th W H mt qu zz nw ol ne se ke nc ns is ik dc sc 3 md wh fa re ve ps 0 tl di lv bf bo bd co bt ma)), (nw, .inl (cs 0, 4608, .inl (mpB gw W md 5 (mlF W md 5 mf (fun x9 y9 => (mft (lokP gn 2) (wdt 2 W) (wdt 2 H) (nI x9) (nI y9) (mus wh (V 2) 2) (mus wh (V 3) 2)))) (y * 8 + x)))), (ol, .inl (cs 0, 4608, .inl go)), (ne, .inl (cs 0, 4608, .inl gn)), (ve, .inl (cs 0, 4, .inl V)), (ma, .inl (cs 0, 64, .inl mf))]) (st1 := [.int (bnd ((mf (y * 8 + x)) + (mft (lokP gn 2) (wdt 2 W) (wdt 2 H) (nI ((bL W md 5) + x)) (nI ((bT W md 5) + y)) (mus wh (V 2) 2) (mus wh (V 3) 2))) 0 255), .int (nI (3840 + (((bT W md 5) + y) * 32 + ((bL W md 5) + x)))), .ref nw]) hF (c_X7_within l D cs tt ((mf (y * 8 + x)) + (mft (lokP gn 2) (wdt 2 W) (wdt 2 H) (nI ((bL W md 5) + x)) (nI ((bT W md 5) + y)) (mus wh (V 2) 2) (mus wh (V 3) 2))) 0 255) gX7_putBlock_X7_within rfl (n := 3) (by decide +kernel) rfl ⟨⟨rfl, rfl⟩, Nat.le_of_ble_eq_true rfl, Nat.le_of_ble_eq_true rfl⟩ ⟨Nat.le_of_ble_eq_true rfl, Nat.le_of_ble_eq_true rfl⟩ hX hP hD hS [] (by decide) rfl [] rfl rfl hl.1 rfl (Nat.le_of_ble_eq_true rfl) dX7_putBlock_183 rfl rfl (fun Hp locs hP hD hS => ?_)
              refine xast (k := 3840 + (((bT W md 5) + y) * 32 + ((bL W md 5) + x))) (ws1 := [(o, .inr (7, mdF th W H mt qu zz nw ol ne se ke nc ns is ik dc sc 3 md wh fa re ve ps 0 tl di lv bf bo bd co bt ma)), (nw, .inl (cs 0, 4608, .inl (mpB gw W md 5 (mlF W md 5 mf (fun x9 y9 => (mft (lokP gn 2) (wdt 2 W) (wdt 2 H) (nI x9) (nI y9) (mus wh (V 2) 2) (mus wh (V 3) 2)))) (y * 8 + (x + 1))))), (ol, .inl (cs 0, 4608, .inl go)), (ne, .inl (cs 0, 4608, .inl gn)), (ve, .inl (cs 0, 4, .inl V)), (ma, .inl (cs 0, 64, .inl mf))]) hF hX hP hD hS 1 rfl (nI_clamp (by omega)) (vp_in_nI (by omega) (by decide)) dX7_putBlock_186 (congrArg (fun z9 => ([(o, .inr (7, mdF th W H mt qu zz nw ol ne se ke nc ns is ik dc sc 3 md wh fa re ve ps 0 tl di lv bf bo bd co bt ma)), (nw, .inl (cs 0, 4608, .inl z9)), (ol, .inl (cs 0, 4608, .inl go)), (ne, .inl (cs 0, 4608, .inl gn)), (ve, .inl (cs 0, 4, .inl V)), (ma, .inl (cs 0, 64, .inl mf))] : va_W)) (pbs gw (mlF W md 5 mf (fun x9 y9 => (mft (lokP gn 2) (wdt 2 W) (wdt 2 H) (nI x9) (nI y9) (mus wh (V 2) 2) (mus wh (V 3) 2)))) (by unfold mlF; rw [show ((bT W md 5) + y - (bT W md 5)) * 8 + ((bL W md 5) + x - (bL W md 5)) = y * 8 + x by omega]) hxl (show (bL W md 5) + 8 ≤ 32 by omega))) (fun Hp locs hP hD hS => ?_)
              refine lv_iinc (v := (nI (x + 1))) (lv' := [(8, .int (nI (x + 1))), (9, .int ((mf (y * 8 + x)) + (mft (lokP gn 2) (wdt 2 W) (wdt 2 H) (nI ((bL W md 5) + x)) (nI ((bT W md 5) + y)) (mus wh (V 2) 2) (mus wh (V 3) 2)))), (0, .ref o), (2, .int 0), (3, .int 1), (4, .int 2), (5, .int (nI (bL W md 5))), (6, .int (nI (bT W md 5))), (7, .int (nI y))]) hx hb dX7_putBlock_187 hl (k := 8) rfl (nI_1 x) (by decide) rfl (fun ls hl => ?_)
              refine lv_goto (tgt := 101) hx hb dX7_putBlock_190 (by decide) ?_
              exact ih_101 (x + 1) (by omega) (by omega) _ _ _ hP hD hS (lv_sub hl [2, 3, 4, 5, 6, 7, 8, 0] rfl)
        exact loop_101 (8 - 0 + 1) 0 (Nat.lt_succ_self _) (by decide) _ _ _ hP hD hS (lv_sub hl [1, 2, 3, 4, 5, 6, 7, 0] rfl)
  have hP := xeqP hP (congrArg (fun z9 => ([(o, .inr (7, mdF th W H mt qu zz nw ol ne se ke nc ns is ik dc sc 3 md wh fa re ve ps 0 tl di lv bf bo bd co bt ma)), (nw, .inl (cs 0, 4608, .inl z9)), (ol, .inl (cs 0, 4608, .inl go)), (ne, .inl (cs 0, 4608, .inl gn)), (ve, .inl (cs 0, 4, .inl V)), (ma, .inl (cs 0, 64, .inl mf))] : va_W)) ((show gw = mpB gw W md 5 (mlF W md 5 mf (fun x9 y9 => (mft (lokP gn 2) (wdt 2 W) (wdt 2 H) (nI x9) (nI y9) (mus wh (V 2) 2) (mus wh (V 3) 2)))) (0 * 8) from (blkTo_0 gw _ _ _ _ 8 (mlF W md 5 mf (fun x9 y9 => (mft (lokP gn 2) (wdt 2 W) (wdt 2 H) (nI x9) (nI y9) (mus wh (V 2) 2) (mus wh (V 3) 2))))).symm)))
  have hD := xeqD hD (congrArg (fun z9 => ([(o, .inr (7, mdF th W H mt qu zz nw ol ne se ke nc ns is ik dc sc 3 md wh fa re ve ps 0 tl di lv bf bo bd co bt ma)), (nw, .inl (cs 0, 4608, .inl z9)), (ol, .inl (cs 0, 4608, .inl go)), (ne, .inl (cs 0, 4608, .inl gn)), (ve, .inl (cs 0, 4, .inl V)), (ma, .inl (cs 0, 64, .inl mf))] : va_W)) ((show gw = mpB gw W md 5 (mlF W md 5 mf (fun x9 y9 => (mft (lokP gn 2) (wdt 2 W) (wdt 2 H) (nI x9) (nI y9) (mus wh (V 2) 2) (mus wh (V 3) 2)))) (0 * 8) from (blkTo_0 gw _ _ _ _ 8 (mlF W md 5 mf (fun x9 y9 => (mft (lokP gn 2) (wdt 2 W) (wdt 2 H) (nI x9) (nI y9) (mus wh (V 2) 2) (mus wh (V 3) 2))))).symm)))
  exact loop_91 (8 - 0 + 1) 0 (Nat.lt_succ_self _) (by decide) _ _ _ hP hD hS (lv_sub hl [4, 6, 7, 3, 2, 1, 0] rfl)

set_option maxHeartbeats 4000000 in
set_option maxRecDepth 100000 in
theorem c_X7_putBlock5D (l : Launch) (D : va_G) (cs : Nat → ClassId) (tt : Nat → Nat) (o mt qu zz nw ol ne se ke re ve ps di lv bd co bt ma W H md : Nat) (th nc ns is ik dc sc wh fa tl bf bo : Int32) (gw mf go gn V : Nat → Int32) (hw : 1 ≤ W) (hw4 : W ≤ 4) (hh : 1 ≤ H) (hh3 : H ≤ 3) (hmd : md < W * H) : xM l yX7_putBlock wsX7_putBlock ({ frames := 4, cells := 0, slots := 0, locals := 104 } : Room) D cs tt [.ref o, .int 5, .int 1, .int 1] [(o, .inr (7, mdF th W H mt qu zz nw ol ne se ke nc ns is ik dc sc 3 md wh fa re ve ps 0 tl di lv bf bo bd co bt ma)), (nw, .inl (cs 0, 4608, .inl gw)), (ol, .inl (cs 0, 4608, .inl go)), (ne, .inl (cs 0, 4608, .inl gn)), (ve, .inl (cs 0, 4, .inl V)), (ma, .inl (cs 0, 64, .inl mf))] none [(o, .inr (7, mdF th W H mt qu zz nw ol ne se ke nc ns is ik dc sc 3 md wh fa re ve ps 0 tl di lv bf bo bd co bt ma)), (nw, .inl (cs 0, 4608, .inl (mpB gw W md 5 (mlF W md 5 mf (fun x9 y9 => (((mft (lokP go 2) (wdt 2 W) (wdt 2 H) (nI x9) (nI y9) (mus wh (V 0) 2) (mus wh (V 1) 2)) + (mft (lokP gn 2) (wdt 2 W) (wdt 2 H) (nI x9) (nI y9) (mus wh (V 2) 2) (mus wh (V 3) 2)) + 1) >>> (1 &&& 31)))) (64)))), (ol, .inl (cs 0, 4608, .inl go)), (ne, .inl (cs 0, 4608, .inl gn)), (ve, .inl (cs 0, 4, .inl V)), (ma, .inl (cs 0, 64, .inl mf))] := by
  refine xM.of RX7 rfl (by decide) rfl (Nat.le_of_ble_eq_true rfl) ?_
  intro p e s m below meth c A ls hF hr hlk hX hP hD hS hl
  have hx := hF.1
  have hb := hF.2.1
  have hl : lv_has ls 10 [(0, .ref o), (1, .int 5), (2, .int 1), (3, .int 1)] := hl
  have hm4 : md < 4096 := Nat.lt_of_lt_of_le hmd (Nat.le_trans (Nat.mul_le_mul hw4 hh3) (by decide))
  have hb9 := b_in hw hmd 5 (by decide)
  have hbl : (bL W md 5) + 8 ≤ 8 * W := hb9.1
  have hbt : (bT W md 5) + 8 ≤ 8 * H := hb9.2
  have hsL : bL W md 5 = bL W md 5 := rfl
  refine lv_iload_n hx hb dX7_putBlock_0 rfl (lv_at hl 1 rfl) ?_
  refine xSt (rest := []) (As := [.int 5]) (ws1 := [(o, .inr (7, mdF th W H mt qu zz nw ol ne se ke nc ns is ik dc sc 3 md wh fa re ve ps 0 tl di lv bf bo bd co bt ma)), (nw, .inl (cs 0, 4608, .inl gw)), (ol, .inl (cs 0, 4608, .inl go)), (ne, .inl (cs 0, 4608, .inl gn)), (ve, .inl (cs 0, 4, .inl V)), (ma, .inl (cs 0, 64, .inl mf))]) (st1 := [.int (pln 5)]) hF (c_X7_planeOf l D cs tt 5) gX7_putBlock_X7_planeOf rfl (n := 1) (by decide +kernel) rfl ⟨⟨rfl, rfl⟩, Nat.le_of_ble_eq_true rfl, Nat.le_of_ble_eq_true rfl⟩ ⟨Nat.le_of_ble_eq_true rfl, Nat.le_of_ble_eq_true rfl⟩ hX hP hD hS [] (by decide) rfl [] rfl rfl hl.1 rfl (Nat.le_of_ble_eq_true rfl) dX7_putBlock_1 rfl rfl (fun Hp locs hP hD hS => ?_)
  refine xrwi (z := 2) (by decide) ?_
  refine lv_istore (lv' := [(4, .int 2), (0, .ref o), (1, .int 5), (2, .int 1), (3, .int 1)]) hx hb dX7_putBlock_4 hl (by decide) rfl (fun ls hl => ?_)
  refine lv_iload hx hb dX7_putBlock_6 (lv_at hl 0 rfl) ?_
  refine lv_if_ne (tgt := 33) hx hb dX7_putBlock_8 (by decide) (fun _ => ?_) (fun c_8 => absurd c_8 (by decide))
  refine lv_bipush (v := 8) hx hb dX7_putBlock_33 (by decide) ?_
  refine lv_aload_n hx hb dX7_putBlock_35 rfl (lv_at hl 1 rfl) ?_
  refine xget (C := RX7) (T := TX7) (N := 34) hF hX hP (by decide +kernel) 0 18 rfl rfl (by decide) (by decide +kernel) rfl dX7_putBlock_36 ?_
  refine lv_aload_n hx hb dX7_putBlock_39 rfl (lv_at hl 1 rfl) ?_
  refine xget (C := RX7) (T := TX7) (N := 34) hF hX hP (by decide +kernel) 0 1 rfl rfl (by decide) (by decide +kernel) rfl dX7_putBlock_40 ?_
  refine lv_irem hx hb dX7_putBlock_43 (nI_ne0 (by omega) (by omega)) ?_
  refine xrwi (z := nI (md % W)) (pk_rem (by omega) (by omega) (by omega)) ?_
  refine lv_imul hx hb dX7_putBlock_44 ?_
  refine xrwi (z := nI (bL W md 5)) (by rw [show (8 : Int32) * nI (md % W) = nI (8 * (md % W)) from pk_mul 8 _]; exact congrArg nI (show 8 * (md % W) = bL W md 5 by show _ = md % W * 8; omega)) ?_
  refine lv_istore (lv' := [(5, .int (nI (bL W md 5))), (4, .int 2), (0, .ref o), (1, .int 5), (2, .int 1), (3, .int 1)]) hx hb dX7_putBlock_45 hl (by decide) rfl (fun ls hl => ?_)
  refine lv_iload hx hb dX7_putBlock_47 (lv_at hl 1 rfl) ?_
  refine lv_if_ne (tgt := 74) hx hb dX7_putBlock_49 (by decide) (fun _ => ?_) (fun c_49 => absurd c_49 (by decide))
  refine lv_bipush (v := 8) hx hb dX7_putBlock_74 (by decide) ?_
  refine lv_aload_n hx hb dX7_putBlock_76 rfl (lv_at hl 2 rfl) ?_
  refine xget (C := RX7) (T := TX7) (N := 34) hF hX hP (by decide +kernel) 0 18 rfl rfl (by decide) (by decide +kernel) rfl dX7_putBlock_77 ?_
  refine lv_aload_n hx hb dX7_putBlock_80 rfl (lv_at hl 2 rfl) ?_
  refine xget (C := RX7) (T := TX7) (N := 34) hF hX hP (by decide +kernel) 0 1 rfl rfl (by decide) (by decide +kernel) rfl dX7_putBlock_81 ?_
  refine lv_idiv hx hb dX7_putBlock_84 (nI_ne0 (by omega) (by omega)) ?_
  refine xrwi (z := nI (md / W)) (pk_div (by omega) (by omega) (by omega)) ?_
  refine lv_imul hx hb dX7_putBlock_85 ?_
  refine xrwi (z := nI (bT W md 5)) (by rw [show (8 : Int32) * nI (md / W) = nI (8 * (md / W)) from pk_mul 8 _]; exact congrArg nI (show 8 * (md / W) = bT W md 5 by show _ = md / W * 8; omega)) ?_
  refine lv_istore (lv' := [(6, .int (nI (bT W md 5))), (5, .int (nI (bL W md 5))), (4, .int 2), (0, .ref o), (1, .int 5), (2, .int 1), (3, .int 1)]) hx hb dX7_putBlock_86 hl (by decide) rfl (fun ls hl => ?_)
  refine lv_iconst (v := 0) hx hb dX7_putBlock_88 (by decide) ?_
  refine lv_istore (lv' := [(7, .int 0), (6, .int (nI (bT W md 5))), (5, .int (nI (bL W md 5))), (4, .int 2), (0, .ref o), (1, .int 5), (2, .int 1), (3, .int 1)]) hx hb dX7_putBlock_89 hl (by decide) rfl (fun ls hl => ?_)
  have loop_91 : ∀ (k91 : Nat) (y : Nat), 8 - y < k91 → y ≤ 8 → ∀ (Hp : Heap) (locs : List Loc) (ls : Array Slot), va_P D vwCl [(o, .inr (7, mdF th W H mt qu zz nw ol ne se ke nc ns is ik dc sc 3 md wh fa re ve ps 0 tl di lv bf bo bd co bt ma)), (nw, .inl (cs 0, 4608, .inl (mpB gw W md 5 (mlF W md 5 mf (fun x9 y9 => (((mft (lokP go 2) (wdt 2 W) (wdt 2 H) (nI x9) (nI y9) (mus wh (V 0) 2) (mus wh (V 1) 2)) + (mft (lokP gn 2) (wdt 2 W) (wdt 2 H) (nI x9) (nI y9) (mus wh (V 2) 2) (mus wh (V 3) 2)) + 1) >>> (1 &&& 31)))) (y * 8)))), (ol, .inl (cs 0, 4608, .inl go)), (ne, .inl (cs 0, 4608, .inl gn)), (ve, .inl (cs 0, 4, .inl V)), (ma, .inl (cs 0, 64, .inl mf))] Hp → va_D A [(o, .inr (7, mdF th W H mt qu zz nw ol ne se ke nc ns is ik dc sc 3 md wh fa re ve ps 0 tl di lv bf bo bd co bt ma)), (nw, .inl (cs 0, 4608, .inl (mpB gw W md 5 (mlF W md 5 mf (fun x9 y9 => (((mft (lokP go 2) (wdt 2 W) (wdt 2 H) (nI x9) (nI y9) (mus wh (V 0) 2) (mus wh (V 1) 2)) + (mft (lokP gn 2) (wdt 2 W) (wdt 2 H) (nI x9) (nI y9) (mus wh (V 2) 2) (mus wh (V 3) 2)) + 1) >>> (1 &&& 31)))) (y * 8)))), (ol, .inl (cs 0, 4608, .inl go)), (ne, .inl (cs 0, 4608, .inl gn)), (ve, .inl (cs 0, 4, .inl V)), (ma, .inl (cs 0, 64, .inl mf))] → va_S A s.heap Hp locs → lv_has ls 10 [(0, .ref o), (2, .int 1), (3, .int 1), (4, .int 2), (5, .int (nI (bL W md 5))), (6, .int (nI (bT W md 5))), (7, .int (nI y))] → xW p l e ({ frames := 4, cells := 0, slots := 0, locals := 104 } : Room) s m ([.ref o, .int 5, .int 1, .int 1] : List Value).toArray below meth c Hp locs 0 0 (MQ below (xE D A none [(o, .inr (7, mdF th W H mt qu zz nw ol ne se ke nc ns is ik dc sc 3 md wh fa re ve ps 0 tl di lv bf bo bd co bt ma)), (nw, .inl (cs 0, 4608, .inl (mpB gw W md 5 (mlF W md 5 mf (fun x9 y9 => (((mft (lokP go 2) (wdt 2 W) (wdt 2 H) (nI x9) (nI y9) (mus wh (V 0) 2) (mus wh (V 1) 2)) + (mft (lokP gn 2) (wdt 2 W) (wdt 2 H) (nI x9) (nI y9) (mus wh (V 2) 2) (mus wh (V 3) 2)) + 1) >>> (1 &&& 31)))) (64)))), (ol, .inl (cs 0, 4608, .inl go)), (ne, .inl (cs 0, 4608, .inl gn)), (ve, .inl (cs 0, 4, .inl V)), (ma, .inl (cs 0, 64, .inl mf))]) ([.ref o, .int 5, .int 1, .int 1] : List Value).toArray s 0 0 A) (F0 m 91 ls []) := by
    intro k91
    induction k91 with
    | zero => intro y h9; omega
    | succ k91 ih_91 =>
      intro y hk91 hy9 Hp locs ls hP hD hS hl
      refine lv_iload hx hb dX7_putBlock_91 (lv_at hl 6 rfl) ?_
      refine lv_bipush (v := 8) hx hb dX7_putBlock_93 (by decide) ?_
      refine lv_icmp_ge (tgt := 199) hx hb dX7_putBlock_95 (by decide) (fun c_95 => ?_) (fun c_95 => ?_)
      · have ey : y = 8 := by have := nIle (a := 8) (b := y) rfl rfl (by decide) (by omega) c_95; omega
        have hP := xeqP hP (congrArg (fun z9 => ([(o, .inr (7, mdF th W H mt qu zz nw ol ne se ke nc ns is ik dc sc 3 md wh fa re ve ps 0 tl di lv bf bo bd co bt ma)), (nw, .inl (cs 0, 4608, .inl z9)), (ol, .inl (cs 0, 4608, .inl go)), (ne, .inl (cs 0, 4608, .inl gn)), (ve, .inl (cs 0, 4, .inl V)), (ma, .inl (cs 0, 64, .inl mf))] : va_W)) (congrArg (mpB gw W md 5 (mlF W md 5 mf (fun x9 y9 => (((mft (lokP go 2) (wdt 2 W) (wdt 2 H) (nI x9) (nI y9) (mus wh (V 0) 2) (mus wh (V 1) 2)) + (mft (lokP gn 2) (wdt 2 W) (wdt 2 H) (nI x9) (nI y9) (mus wh (V 2) 2) (mus wh (V 3) 2)) + 1) >>> (1 &&& 31))))) (show y * 8 = 64 by omega)))
        have hD := xeqD hD (congrArg (fun z9 => ([(o, .inr (7, mdF th W H mt qu zz nw ol ne se ke nc ns is ik dc sc 3 md wh fa re ve ps 0 tl di lv bf bo bd co bt ma)), (nw, .inl (cs 0, 4608, .inl z9)), (ol, .inl (cs 0, 4608, .inl go)), (ne, .inl (cs 0, 4608, .inl gn)), (ve, .inl (cs 0, 4, .inl V)), (ma, .inl (cs 0, 64, .inl mf))] : va_W)) (congrArg (mpB gw W md 5 (mlF W md 5 mf (fun x9 y9 => (((mft (lokP go 2) (wdt 2 W) (wdt 2 H) (nI x9) (nI y9) (mus wh (V 0) 2) (mus wh (V 1) 2)) + (mft (lokP gn 2) (wdt 2 W) (wdt 2 H) (nI x9) (nI y9) (mus wh (V 2) 2) (mus wh (V 3) 2)) + 1) >>> (1 &&& 31))))) (show y * 8 = 64 by omega)))
        exact xrv hF hr hlk hP hD hS dX7_putBlock_199
      · have hyl : y < 8 := nInle (a := 8) (b := y) rfl rfl (by decide) (by omega) c_95
        refine lv_iconst (v := 0) hx hb dX7_putBlock_98 (by decide) ?_
        refine lv_istore (lv' := [(8, .int 0), (0, .ref o), (2, .int 1), (3, .int 1), (4, .int 2), (5, .int (nI (bL W md 5))), (6, .int (nI (bT W md 5))), (7, .int (nI y))]) hx hb dX7_putBlock_99 hl (by decide) rfl (fun ls hl => ?_)
        have loop_101 : ∀ (k101 : Nat) (x : Nat), 8 - x < k101 → x ≤ 8 → ∀ (Hp : Heap) (locs : List Loc) (ls : Array Slot), va_P D vwCl [(o, .inr (7, mdF th W H mt qu zz nw ol ne se ke nc ns is ik dc sc 3 md wh fa re ve ps 0 tl di lv bf bo bd co bt ma)), (nw, .inl (cs 0, 4608, .inl (mpB gw W md 5 (mlF W md 5 mf (fun x9 y9 => (((mft (lokP go 2) (wdt 2 W) (wdt 2 H) (nI x9) (nI y9) (mus wh (V 0) 2) (mus wh (V 1) 2)) + (mft (lokP gn 2) (wdt 2 W) (wdt 2 H) (nI x9) (nI y9) (mus wh (V 2) 2) (mus wh (V 3) 2)) + 1) >>> (1 &&& 31)))) (y * 8 + x)))), (ol, .inl (cs 0, 4608, .inl go)), (ne, .inl (cs 0, 4608, .inl gn)), (ve, .inl (cs 0, 4, .inl V)), (ma, .inl (cs 0, 64, .inl mf))] Hp → va_D A [(o, .inr (7, mdF th W H mt qu zz nw ol ne se ke nc ns is ik dc sc 3 md wh fa re ve ps 0 tl di lv bf bo bd co bt ma)), (nw, .inl (cs 0, 4608, .inl (mpB gw W md 5 (mlF W md 5 mf (fun x9 y9 => (((mft (lokP go 2) (wdt 2 W) (wdt 2 H) (nI x9) (nI y9) (mus wh (V 0) 2) (mus wh (V 1) 2)) + (mft (lokP gn 2) (wdt 2 W) (wdt 2 H) (nI x9) (nI y9) (mus wh (V 2) 2) (mus wh (V 3) 2)) + 1) >>> (1 &&& 31)))) (y * 8 + x)))), (ol, .inl (cs 0, 4608, .inl go)), (ne, .inl (cs 0, 4608, .inl gn)), (ve, .inl (cs 0, 4, .inl V)), (ma, .inl (cs 0, 64, .inl mf))] → va_S A s.heap Hp locs → lv_has ls 10 [(0, .ref o), (2, .int 1), (3, .int 1), (4, .int 2), (5, .int (nI (bL W md 5))), (6, .int (nI (bT W md 5))), (7, .int (nI y)), (8, .int (nI x))] → xW p l e ({ frames := 4, cells := 0, slots := 0, locals := 104 } : Room) s m ([.ref o, .int 5, .int 1, .int 1] : List Value).toArray below meth c Hp locs 0 0 (MQ below (xE D A none [(o, .inr (7, mdF th W H mt qu zz nw ol ne se ke nc ns is ik dc sc 3 md wh fa re ve ps 0 tl di lv bf bo bd co bt ma)), (nw, .inl (cs 0, 4608, .inl (mpB gw W md 5 (mlF W md 5 mf (fun x9 y9 => (((mft (lokP go 2) (wdt 2 W) (wdt 2 H) (nI x9) (nI y9) (mus wh (V 0) 2) (mus wh (V 1) 2)) + (mft (lokP gn 2) (wdt 2 W) (wdt 2 H) (nI x9) (nI y9) (mus wh (V 2) 2) (mus wh (V 3) 2)) + 1) >>> (1 &&& 31)))) (64)))), (ol, .inl (cs 0, 4608, .inl go)), (ne, .inl (cs 0, 4608, .inl gn)), (ve, .inl (cs 0, 4, .inl V)), (ma, .inl (cs 0, 64, .inl mf))]) ([.ref o, .int 5, .int 1, .int 1] : List Value).toArray s 0 0 A) (F0 m 101 ls []) := by
          intro k101
          induction k101 with
          | zero => intro x h9; omega
          | succ k101 ih_101 =>
            intro x hk101 hx9 Hp locs ls hP hD hS hl
            refine lv_iload hx hb dX7_putBlock_101 (lv_at hl 7 rfl) ?_
            refine lv_bipush (v := 8) hx hb dX7_putBlock_103 (by decide) ?_
            refine lv_icmp_ge (tgt := 193) hx hb dX7_putBlock_105 (by decide) (fun c_105 => ?_) (fun c_105 => ?_)
            · have ex : x = 8 := by have := nIle (a := 8) (b := x) rfl rfl (by decide) (by omega) c_105; omega
              have hP := xeqP hP (congrArg (fun z9 => ([(o, .inr (7, mdF th W H mt qu zz nw ol ne se ke nc ns is ik dc sc 3 md wh fa re ve ps 0 tl di lv bf bo bd co bt ma)), (nw, .inl (cs 0, 4608, .inl z9)), (ol, .inl (cs 0, 4608, .inl go)), (ne, .inl (cs 0, 4608, .inl gn)), (ve, .inl (cs 0, 4, .inl V)), (ma, .inl (cs 0, 64, .inl mf))] : va_W)) (congrArg (mpB gw W md 5 (mlF W md 5 mf (fun x9 y9 => (((mft (lokP go 2) (wdt 2 W) (wdt 2 H) (nI x9) (nI y9) (mus wh (V 0) 2) (mus wh (V 1) 2)) + (mft (lokP gn 2) (wdt 2 W) (wdt 2 H) (nI x9) (nI y9) (mus wh (V 2) 2) (mus wh (V 3) 2)) + 1) >>> (1 &&& 31))))) (show y * 8 + x = (y + 1) * 8 by omega)))
              have hD := xeqD hD (congrArg (fun z9 => ([(o, .inr (7, mdF th W H mt qu zz nw ol ne se ke nc ns is ik dc sc 3 md wh fa re ve ps 0 tl di lv bf bo bd co bt ma)), (nw, .inl (cs 0, 4608, .inl z9)), (ol, .inl (cs 0, 4608, .inl go)), (ne, .inl (cs 0, 4608, .inl gn)), (ve, .inl (cs 0, 4, .inl V)), (ma, .inl (cs 0, 64, .inl mf))] : va_W)) (congrArg (mpB gw W md 5 (mlF W md 5 mf (fun x9 y9 => (((mft (lokP go 2) (wdt 2 W) (wdt 2 H) (nI x9) (nI y9) (mus wh (V 0) 2) (mus wh (V 1) 2)) + (mft (lokP gn 2) (wdt 2 W) (wdt 2 H) (nI x9) (nI y9) (mus wh (V 2) 2) (mus wh (V 3) 2)) + 1) >>> (1 &&& 31))))) (show y * 8 + x = (y + 1) * 8 by omega)))
              refine lv_iinc (v := (nI (y + 1))) (lv' := [(7, .int (nI (y + 1))), (0, .ref o), (2, .int 1), (3, .int 1), (4, .int 2), (5, .int (nI (bL W md 5))), (6, .int (nI (bT W md 5))), (8, .int (nI x))]) hx hb dX7_putBlock_193 hl (k := 6) rfl (nI_1 y) (by decide) rfl (fun ls hl => ?_)
              refine lv_goto (tgt := 91) hx hb dX7_putBlock_196 (by decide) ?_
              exact ih_91 (y + 1) (by omega) (by omega) _ _ _ hP hD hS (lv_sub hl [1, 2, 3, 4, 5, 6, 0] rfl)
            · have hxl : x < 8 := nInle (a := 8) (b := x) rfl rfl (by decide) (by omega) c_105
              refine lv_aload_n hx hb dX7_putBlock_108 rfl (lv_at hl 0 rfl) ?_
              refine xget (C := RX7) (T := TX7) (N := 34) hF hX hP (by decide +kernel) 0 33 rfl rfl (by decide) (by decide +kernel) rfl dX7_putBlock_109 ?_
              refine lv_bipush (v := 8) hx hb dX7_putBlock_112 (by decide) ?_
              refine lv_iload hx hb dX7_putBlock_114 (lv_at hl 6 rfl) ?_
              refine lv_imul hx hb dX7_putBlock_116 ?_
              refine lv_iload hx hb dX7_putBlock_117 (lv_at hl 7 rfl) ?_
              refine lv_iadd hx hb dX7_putBlock_119 ?_
              refine xrwi (z := nI (y * 8 + x)) (k8 y x) ?_
              refine xald (k := y * 8 + x) hF hX hP 5 rfl (nI_clamp (by omega)) (vp_in_nI (by omega) (by decide)) dX7_putBlock_120 ?_
              refine lv_istore (lv' := [(9, .int (mf (y * 8 + x))), (0, .ref o), (2, .int 1), (3, .int 1), (4, .int 2), (5, .int (nI (bL W md 5))), (6, .int (nI (bT W md 5))), (7, .int (nI y)), (8, .int (nI x))]) hx hb dX7_putBlock_121 hl (by decide) rfl (fun ls hl => ?_)
              refine lv_aload_n hx hb dX7_putBlock_123 rfl (lv_at hl 1 rfl) ?_
              refine xget (C := RX7) (T := TX7) (N := 34) hF hX hP (by decide +kernel) 0 24 rfl rfl (by decide) (by decide +kernel) rfl dX7_putBlock_124 ?_
              refine lv_if_eq (tgt := 135) hx hb dX7_putBlock_127 (by decide) (fun _ => ?_) (fun c_127 => absurd (by decide) c_127)
              refine lv_iload hx hb dX7_putBlock_135 (lv_at hl 0 rfl) ?_
              refine lv_aload_n hx hb dX7_putBlock_137 rfl (lv_at hl 1 rfl) ?_
              refine lv_iload_n hx hb dX7_putBlock_138 rfl (lv_at hl 2 rfl) ?_
              refine lv_iload_n hx hb dX7_putBlock_139 rfl (lv_at hl 3 rfl) ?_
              refine lv_iload hx hb dX7_putBlock_140 (lv_at hl 4 rfl) ?_
              refine lv_iload hx hb dX7_putBlock_142 (lv_at hl 5 rfl) ?_
              refine lv_iload hx hb dX7_putBlock_144 (lv_at hl 8 rfl) ?_
              refine lv_iadd hx hb dX7_putBlock_146 ?_
              refine xrwi (z := nI ((bL W md 5) + x)) (nI_add _ _) ?_
              refine lv_iload hx hb dX7_putBlock_147 (lv_at hl 6 rfl) ?_
              refine lv_iload hx hb dX7_putBlock_149 (lv_at hl 7 rfl) ?_
              refine lv_iadd hx hb dX7_putBlock_151 ?_
              refine xrwi (z := nI ((bT W md 5) + y)) (nI_add _ _) ?_
              refine xV (rest := [.int (mf (y * 8 + x))]) (As := [.int 1, .int 1, .int 2, .int (nI ((bL W md 5) + x)), .int (nI ((bT W md 5) + y))]) (ws1 := [(o, .inr (7, mdF th W H mt qu zz nw ol ne se ke nc ns is ik dc sc 3 md wh fa re ve ps 0 tl di lv bf bo bd co bt ma)), (nw, .inl (cs 0, 4608, .inl (mpB gw W md 5 (mlF W md 5 mf (fun x9 y9 => (((mft (lokP go 2) (wdt 2 W) (wdt 2 H) (nI x9) (nI y9) (mus wh (V 0) 2) (mus wh (V 1) 2)) + (mft (lokP gn 2) (wdt 2 W) (wdt 2 H) (nI x9) (nI y9) (mus wh (V 2) 2) (mus wh (V 3) 2)) + 1) >>> (1 &&& 31)))) (y * 8 + x)))), (ol, .inl (cs 0, 4608, .inl go)), (ne, .inl (cs 0, 4608, .inl gn)), (ve, .inl (cs 0, 4, .inl V)), (ma, .inl (cs 0, 64, .inl mf))]) (st1 := [.int (((mft (lokP go 2) (wdt 2 W) (wdt 2 H) (nI ((bL W md 5) + x)) (nI ((bT W md 5) + y)) (mus wh (V 0) 2) (mus wh (V 1) 2)) + (mft (lokP gn 2) (wdt 2 W) (wdt 2 H) (nI ((bL W md 5) + x)) (nI ((bT W md 5) + y)) (mus wh (V 2) 2) (mus wh (V 3) 2)) + 1) >>> (1 &&& 31)), .int (mf (y * 8 + x))]) hF (c_X7_fetchedD l D cs tt o mt qu zz nw ol ne se ke re ve ps di lv bd co bt ma W H md th nc ns is ik dc sc wh fa 0 tl bf bo 2 (nI ((bL W md 5) + x)) (nI ((bT W md 5) + y)) go gn V (by decide) hw hw4 hh hh3) gX7_putBlock_X7_fetched rfl (n := 5) (by decide +kernel) rfl ⟨⟨rfl, rfl⟩, Nat.le_of_ble_eq_true rfl, Nat.le_of_ble_eq_true rfl⟩ ⟨Nat.le_of_ble_eq_true rfl, Nat.le_of_ble_eq_true rfl⟩ hX hP hD hS [0, 2, 3, 4] (by decide) rfl [o, ol, ne, ve] rfl rfl (q0 := 0) (ci := 7) rfl rfl rfl hl.1 rfl (Nat.le_of_ble_eq_true rfl) dX7_putBlock_152 rfl rfl (fun Hp locs hP hD hS => ?_)
              refine lv_iadd hx hb dX7_putBlock_155 ?_
              refine lv_istore (lv' := [(9, .int ((mf (y * 8 + x)) + (((mft (lokP go 2) (wdt 2 W) (wdt 2 H) (nI ((bL W md 5) + x)) (nI ((bT W md 5) + y)) (mus wh (V 0) 2) (mus wh (V 1) 2)) + (mft (lokP gn 2) (wdt 2 W) (wdt 2 H) (nI ((bL W md 5) + x)) (nI ((bT W md 5) + y)) (mus wh (V 2) 2) (mus wh (V 3) 2)) + 1) >>> (1 &&& 31)))), (0, .ref o), (2, .int 1), (3, .int 1), (4, .int 2), (5, .int (nI (bL W md 5))), (6, .int (nI (bT W md 5))), (7, .int (nI y)), (8, .int (nI x))]) hx hb dX7_putBlock_156 hl (by decide) rfl (fun ls hl => ?_)
              refine lv_aload_n hx hb dX7_putBlock_158 rfl (lv_at hl 1 rfl) ?_
              refine xget (C := RX7) (T := TX7) (N := 34) hF hX hP (by decide +kernel) 0 6 rfl rfl (by decide) (by decide +kernel) rfl dX7_putBlock_159 ?_
              refine lv_iload hx hb dX7_putBlock_162 (lv_at hl 4 rfl) ?_
              refine lv_iload hx hb dX7_putBlock_164 (lv_at hl 5 rfl) ?_
              refine lv_iload hx hb dX7_putBlock_166 (lv_at hl 8 rfl) ?_
              refine lv_iadd hx hb dX7_putBlock_168 ?_
              refine xrwi (z := nI ((bL W md 5) + x)) (nI_add _ _) ?_
              refine lv_iload hx hb dX7_putBlock_169 (lv_at hl 6 rfl) ?_
              refine lv_iload hx hb dX7_putBlock_171 (lv_at hl 7 rfl) ?_
              refine lv_iadd hx hb dX7_putBlock_173 ?_
              refine xrwi (z := nI ((bT W md 5) + y)) (nI_add _ _) ?_
              refine xSt (rest := [.ref nw]) (As := [.int 2, .int (nI ((bL W md 5) + x)), .int (nI ((bT W md 5) + y))]) (ws1 := [(o, .inr (7, mdF th W H mt qu zz nw ol ne se ke nc ns is ik dc sc 3 md wh fa re ve ps 0 tl di lv bf bo bd co bt ma)), (nw, .inl (cs 0, 4608, .inl (mpB gw W md 5 (mlF W md 5 mf (fun x9 y9 => (((mft (lokP go 2) (wdt 2 W) (wdt 2 H) (nI x9) (nI y9) (mus wh (V 0) 2) (mus wh (V 1) 2)) + (mft (lokP gn 2) (wdt 2 W) (wdt 2 H) (nI x9) (nI y9) (mus wh (V 2) 2) (mus wh (V 3) 2)) + 1) >>> (1 &&& 31)))) (y * 8 + x)))), (ol, .inl (cs 0, 4608, .inl go)), (ne, .inl (cs 0, 4608, .inl gn)), (ve, .inl (cs 0, 4, .inl V)), (ma, .inl (cs 0, 64, .inl mf))]) (st1 := [.int (nI (plc 2 ((bL W md 5) + x) ((bT W md 5) + y))), .ref nw]) hF (c_X7_place l D cs tt 2 ((bL W md 5) + x) ((bT W md 5) + y) (by decide)) gX7_putBlock_X7_place rfl (n := 3) (by decide +kernel) rfl ⟨⟨rfl, rfl⟩, Nat.le_of_ble_eq_true rfl, Nat.le_of_ble_eq_true rfl⟩ ⟨Nat.le_of_ble_eq_true rfl, Nat.le_of_ble_eq_true rfl⟩ hX hP hD hS [] (by decide) rfl [] rfl rfl hl.1 rfl (Nat.le_of_ble_eq_true rfl) dX7_putBlock_174 rfl rfl (fun Hp locs hP hD hS => ?_)
              refine xrwi (z := nI (3840 + (((bT W md 5) + y) * 32 + ((bL W md 5) + x)))) (by unfold plc; rw [if_neg (by decide), if_neg (by decide)]; exact congrArg nI (by omega)) ?_
              refine lv_iload hx hb dX7_putBlock_177 (lv_at hl 0 rfl) ?_
              refine lv_iconst (v := 0) hx hb dX7_putBlock_179 (by decide) ?_
              refine lv_sipush (v := 255) hx hb dX7_putBlock_180 (by decide) ?_
              refine xSt (rest := [.int (nI (3840 + (((bT W md 5) + y) * 32 + ((bL W md 5) + x)))), .ref nw]) (As := [.int ((mf (y * 8 + x)) + (((mft (lokP go 2) (wdt 2 W) (wdt 2 H) (nI ((bL W md 5) + x)) (nI ((bT W md 5) + y)) (mus wh (V 0) 2) (mus wh (V 1) 2)) + (mft (lokP gn 2) (wdt 2 W) (wdt 2 H) (nI ((bL W md 5) + x)) (nI ((bT W md 5) + y)) (mus wh (V 2) 2) (mus wh (V 3) 2)) + 1) >>> (1 &&& 31))), .int 0, .int 255]) (ws1 := [(o, .inr (7, mdF th W H mt qu zz nw ol ne se ke nc ns is ik dc sc 3 md wh fa re ve ps 0 tl di lv bf bo bd co bt ma)), (nw, .inl (cs 0, 4608, .inl (mpB gw W md 5 (mlF W md 5 mf (fun x9 y9 => (((mft (lokP go 2) (wdt 2 W) (wdt 2 H) (nI x9) (nI y9) (mus wh (V 0) 2) (mus wh (V 1) 2)) + (mft (lokP gn 2) (wdt 2 W) (wdt 2 H) (nI x9) (nI y9) (mus wh (V 2) 2) (mus wh (V 3) 2)) + 1) >>> (1 &&& 31)))) (y * 8 + x)))), (ol, .inl (cs 0, 4608, .inl go)), (ne, .inl (cs 0, 4608, .inl gn)), (ve, .inl (cs 0, 4, .inl V)), (ma, .inl (cs 0, 64, .inl mf))]) (st1 := [.int (bnd ((mf (y * 8 + x)) + (((mft (lokP go 2) (wdt 2 W) (wdt 2 H) (nI ((bL W md 5) + x)) (nI ((bT W md 5) + y)) (mus wh (V 0) 2) (mus wh (V 1) 2)) + (mft (lokP gn 2) (wdt 2 W) (wdt 2 H) (nI ((bL W md 5) + x)) (nI ((bT W md 5) + y)) (mus wh (V 2) 2) (mus wh (V 3) 2)) + 1) >>> (1 &&& 31))) 0 255), .int (nI (3840 + (((bT W md 5) + y) * 32 + ((bL W md 5) + x)))), .ref nw]) hF (c_X7_within l D cs tt ((mf (y * 8 + x)) + (((mft (lokP go 2) (wdt 2 W) (wdt 2 H) (nI ((bL W md 5) + x)) (nI ((bT W md 5) + y)) (mus wh (V 0) 2) (mus wh (V 1) 2)) + (mft (lokP gn 2) (wdt 2 W) (wdt 2 H) (nI ((bL W md 5) + x)) (nI ((bT W md 5) + y)) (mus wh (V 2) 2) (mus wh (V 3) 2)) + 1) >>> (1 &&& 31))) 0 255) gX7_putBlock_X7_within rfl (n := 3) (by decide +kernel) rfl ⟨⟨rfl, rfl⟩, Nat.le_of_ble_eq_true rfl, Nat.le_of_ble_eq_true rfl⟩ ⟨Nat.le_of_ble_eq_true rfl, Nat.le_of_ble_eq_true rfl⟩ hX hP hD hS [] (by decide) rfl [] rfl rfl hl.1 rfl (Nat.le_of_ble_eq_true rfl) dX7_putBlock_183 rfl rfl (fun Hp locs hP hD hS => ?_)
              refine xast (k := 3840 + (((bT W md 5) + y) * 32 + ((bL W md 5) + x))) (ws1 := [(o, .inr (7, mdF th W H mt qu zz nw ol ne se ke nc ns is ik dc sc 3 md wh fa re ve ps 0 tl di lv bf bo bd co bt ma)), (nw, .inl (cs 0, 4608, .inl (mpB gw W md 5 (mlF W md 5 mf (fun x9 y9 => (((mft (lokP go 2) (wdt 2 W) (wdt 2 H) (nI x9) (nI y9) (mus wh (V 0) 2) (mus wh (V 1) 2)) + (mft (lokP gn 2) (wdt 2 W) (wdt 2 H) (nI x9) (nI y9) (mus wh (V 2) 2) (mus wh (V 3) 2)) + 1) >>> (1 &&& 31)))) (y * 8 + (x + 1))))), (ol, .inl (cs 0, 4608, .inl go)), (ne, .inl (cs 0, 4608, .inl gn)), (ve, .inl (cs 0, 4, .inl V)), (ma, .inl (cs 0, 64, .inl mf))]) hF hX hP hD hS 1 rfl (nI_clamp (by omega)) (vp_in_nI (by omega) (by decide)) dX7_putBlock_186 (congrArg (fun z9 => ([(o, .inr (7, mdF th W H mt qu zz nw ol ne se ke nc ns is ik dc sc 3 md wh fa re ve ps 0 tl di lv bf bo bd co bt ma)), (nw, .inl (cs 0, 4608, .inl z9)), (ol, .inl (cs 0, 4608, .inl go)), (ne, .inl (cs 0, 4608, .inl gn)), (ve, .inl (cs 0, 4, .inl V)), (ma, .inl (cs 0, 64, .inl mf))] : va_W)) (pbs gw (mlF W md 5 mf (fun x9 y9 => (((mft (lokP go 2) (wdt 2 W) (wdt 2 H) (nI x9) (nI y9) (mus wh (V 0) 2) (mus wh (V 1) 2)) + (mft (lokP gn 2) (wdt 2 W) (wdt 2 H) (nI x9) (nI y9) (mus wh (V 2) 2) (mus wh (V 3) 2)) + 1) >>> (1 &&& 31)))) (by unfold mlF; rw [show ((bT W md 5) + y - (bT W md 5)) * 8 + ((bL W md 5) + x - (bL W md 5)) = y * 8 + x by omega]) hxl (show (bL W md 5) + 8 ≤ 32 by omega))) (fun Hp locs hP hD hS => ?_)
              refine lv_iinc (v := (nI (x + 1))) (lv' := [(8, .int (nI (x + 1))), (9, .int ((mf (y * 8 + x)) + (((mft (lokP go 2) (wdt 2 W) (wdt 2 H) (nI ((bL W md 5) + x)) (nI ((bT W md 5) + y)) (mus wh (V 0) 2) (mus wh (V 1) 2)) + (mft (lokP gn 2) (wdt 2 W) (wdt 2 H) (nI ((bL W md 5) + x)) (nI ((bT W md 5) + y)) (mus wh (V 2) 2) (mus wh (V 3) 2)) + 1) >>> (1 &&& 31)))), (0, .ref o), (2, .int 1), (3, .int 1), (4, .int 2), (5, .int (nI (bL W md 5))), (6, .int (nI (bT W md 5))), (7, .int (nI y))]) hx hb dX7_putBlock_187 hl (k := 8) rfl (nI_1 x) (by decide) rfl (fun ls hl => ?_)
              refine lv_goto (tgt := 101) hx hb dX7_putBlock_190 (by decide) ?_
              exact ih_101 (x + 1) (by omega) (by omega) _ _ _ hP hD hS (lv_sub hl [2, 3, 4, 5, 6, 7, 8, 0] rfl)
        exact loop_101 (8 - 0 + 1) 0 (Nat.lt_succ_self _) (by decide) _ _ _ hP hD hS (lv_sub hl [1, 2, 3, 4, 5, 6, 7, 0] rfl)
  have hP := xeqP hP (congrArg (fun z9 => ([(o, .inr (7, mdF th W H mt qu zz nw ol ne se ke nc ns is ik dc sc 3 md wh fa re ve ps 0 tl di lv bf bo bd co bt ma)), (nw, .inl (cs 0, 4608, .inl z9)), (ol, .inl (cs 0, 4608, .inl go)), (ne, .inl (cs 0, 4608, .inl gn)), (ve, .inl (cs 0, 4, .inl V)), (ma, .inl (cs 0, 64, .inl mf))] : va_W)) ((show gw = mpB gw W md 5 (mlF W md 5 mf (fun x9 y9 => (((mft (lokP go 2) (wdt 2 W) (wdt 2 H) (nI x9) (nI y9) (mus wh (V 0) 2) (mus wh (V 1) 2)) + (mft (lokP gn 2) (wdt 2 W) (wdt 2 H) (nI x9) (nI y9) (mus wh (V 2) 2) (mus wh (V 3) 2)) + 1) >>> (1 &&& 31)))) (0 * 8) from (blkTo_0 gw _ _ _ _ 8 (mlF W md 5 mf (fun x9 y9 => (((mft (lokP go 2) (wdt 2 W) (wdt 2 H) (nI x9) (nI y9) (mus wh (V 0) 2) (mus wh (V 1) 2)) + (mft (lokP gn 2) (wdt 2 W) (wdt 2 H) (nI x9) (nI y9) (mus wh (V 2) 2) (mus wh (V 3) 2)) + 1) >>> (1 &&& 31))))).symm)))
  have hD := xeqD hD (congrArg (fun z9 => ([(o, .inr (7, mdF th W H mt qu zz nw ol ne se ke nc ns is ik dc sc 3 md wh fa re ve ps 0 tl di lv bf bo bd co bt ma)), (nw, .inl (cs 0, 4608, .inl z9)), (ol, .inl (cs 0, 4608, .inl go)), (ne, .inl (cs 0, 4608, .inl gn)), (ve, .inl (cs 0, 4, .inl V)), (ma, .inl (cs 0, 64, .inl mf))] : va_W)) ((show gw = mpB gw W md 5 (mlF W md 5 mf (fun x9 y9 => (((mft (lokP go 2) (wdt 2 W) (wdt 2 H) (nI x9) (nI y9) (mus wh (V 0) 2) (mus wh (V 1) 2)) + (mft (lokP gn 2) (wdt 2 W) (wdt 2 H) (nI x9) (nI y9) (mus wh (V 2) 2) (mus wh (V 3) 2)) + 1) >>> (1 &&& 31)))) (0 * 8) from (blkTo_0 gw _ _ _ _ 8 (mlF W md 5 mf (fun x9 y9 => (((mft (lokP go 2) (wdt 2 W) (wdt 2 H) (nI x9) (nI y9) (mus wh (V 0) 2) (mus wh (V 1) 2)) + (mft (lokP gn 2) (wdt 2 W) (wdt 2 H) (nI x9) (nI y9) (mus wh (V 2) 2) (mus wh (V 3) 2)) + 1) >>> (1 &&& 31))))).symm)))
  exact loop_91 (8 - 0 + 1) 0 (Nat.lt_succ_self _) (by decide) _ _ _ hP hD hS (lv_sub hl [4, 6, 7, 3, 2, 1, 0] rfl)
