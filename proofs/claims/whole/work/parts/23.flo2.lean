
/-! ===== light, errors ===== -/
theorem err_lt {a b x y : Nat} (hx : x < a) (hy : y < b) : y * a + x < a * b := by
  have h1 : (y + 1) * a ≤ b * a := Nat.mul_le_mul_right a hy
  rw [Nat.add_mul, Nat.one_mul, Nat.mul_comm b a] at h1
  omega
theorem lit_0 (g : Nat → Int32) (ga ofs : UInt32) (W : Nat) : blkTo g 0 64 0 0 (16 * W) (0 * (16 * W)) (litV g ga ofs) = g := by
  rw [Nat.zero_mul]
  exact blkTo_0 g 0 64 0 0 (16 * W) (litV g ga ofs)
theorem err_c (W H : Nat) : (256 : Int32) * nI W * nI H = nI (16 * W * (16 * H)) := by
  rw [show (256 : Int32) * nI W = nI (256 * W) from pk_mul 256 W, pk_mul, Nat.mul_mul_mul_comm, Nat.mul_assoc]

set_option maxHeartbeats 4000000 in
set_option maxRecDepth 100000 in
theorem c_X7_light_bad (l : Launch) (D : va_G) (cs : Nat → ClassId) (tt : Nat → Nat) (o mt qu zz nw ol ne se ke re ve ps di lv bd co bt ma W H md : Nat) (th nc ns is ik dc sc kd wh fa ow tl bf bo : Int32) (ga ofs : UInt32) (ht : (tLit (gud ga ofs) is) = 1 ∨ (tLit (gud ga ofs) is) = 2) : xM l yX7_light wsX7_light ({ frames := 0, cells := 0, slots := 0, locals := 0 } : Room) D cs tt [.ref o, .float ga, .float ofs] [(o, .inr (7, mdF th W H mt qu zz nw ol ne se ke nc ns is ik dc sc kd md wh fa re ve ps ow tl di lv bf bo bd co bt ma))] none [(o, .inr (7, mdF (tLit (gud ga ofs) is) W H mt qu zz nw ol ne se ke nc ns is ik dc sc kd md wh fa re ve ps ow tl di lv bf bo bd co bt ma))] := by
  refine xM.of RX7 rfl (by decide) rfl (Nat.le_of_ble_eq_true rfl) ?_
  intro p e s m below meth c A ls hF hr hlk hX hP hD hS hl
  have hx := hF.1
  have hb := hF.2.1
  have hl : lv_has ls 7 [(0, .ref o), (1, .float ga), (2, .float ofs)] := hl
  have join_55 : ∀ (Hp : Heap) (locs : List Loc) (ls : Array Slot), va_P D vwCl [(o, .inr (7, mdF th W H mt qu zz nw ol ne se ke nc ns is ik dc sc kd md wh fa re ve ps ow tl di lv bf bo bd co bt ma))] Hp → va_D A [(o, .inr (7, mdF th W H mt qu zz nw ol ne se ke nc ns is ik dc sc kd md wh fa re ve ps ow tl di lv bf bo bd co bt ma))] → va_S A s.heap Hp locs → lv_has ls 7 [(0, .ref o), (1, .float ga), (2, .float ofs)] → xW p l e ({ frames := 0, cells := 0, slots := 0, locals := 0 } : Room) s m ([.ref o, .float ga, .float ofs] : List Value).toArray below meth c Hp locs 0 0 (MQ below (xE D A none [(o, .inr (7, mdF (tLit (gud ga ofs) is) W H mt qu zz nw ol ne se ke nc ns is ik dc sc kd md wh fa re ve ps ow tl di lv bf bo bd co bt ma))]) ([.ref o, .float ga, .float ofs] : List Value).toArray s 0 0 A) (F0 m 55 ls [.int (tLit (gud ga ofs) is), .ref o]) := by
    intro Hp locs ls hP hD hS hl
    refine xputf (C := RX7) (T := TX7) (N := 34) (ws1 := [(o, .inr (7, mdF (tLit (gud ga ofs) is) W H mt qu zz nw ol ne se ke nc ns is ik dc sc kd md wh fa re ve ps ow tl di lv bf bo bd co bt ma))]) hF hX hP hD hS (by decide +kernel) tyX7 tyX7_ok nmX7 0 0 rfl rfl (by decide) (by decide +kernel) rfl (rfl) (rfl) (Nat.le_of_ble_eq_true rfl) dX7_light_55 rfl (fun Hp locs hP hD hS => ?_)
    refine lv_iconst (v := 0) hx hb dX7_light_58 (by decide) ?_
    refine lv_istore (lv' := [(4, .int 0), (0, .ref o), (1, .float ga), (2, .float ofs)]) hx hb dX7_light_59 hl (by decide) rfl (fun ls hl => ?_)
    refine lv_iload hx hb dX7_light_61 (lv_at hl 0 rfl) ?_
    refine lv_bipush (v := 16) hx hb dX7_light_63 (by decide) ?_
    refine lv_aload_n hx hb dX7_light_65 rfl (lv_at hl 1 rfl) ?_
    refine xget (C := RX7) (T := TX7) (N := 34) hF hX hP (by decide +kernel) 0 2 rfl rfl (by decide) (by decide +kernel) rfl dX7_light_66 ?_
    refine lv_imul hx hb dX7_light_69 ?_
    refine lv_icmp_ge (tgt := 139) hx hb dX7_light_70 (by decide) (fun c_70 => ?_) (fun c_70 => ?_)
    · exact xrv hF hr hlk hP hD hS dX7_light_139
    · refine lv_aload_n hx hb dX7_light_73 rfl (lv_at hl 1 rfl) ?_
      refine xget (C := RX7) (T := TX7) (N := 34) hF hX hP (by decide +kernel) 0 0 rfl rfl (by decide) (by decide +kernel) rfl dX7_light_74 ?_
      refine lv_if_ne (tgt := 139) hx hb dX7_light_77 (by decide) (fun _ => ?_) (fun c_77 => absurd c_77 (by rcases ht with h9 | h9 <;> rw [h9] <;> decide))
      exact xrv hF hr hlk hP hD hS dX7_light_139
  have join_33 : ∀ (Hp : Heap) (locs : List Loc) (ls : Array Slot), va_P D vwCl [(o, .inr (7, mdF th W H mt qu zz nw ol ne se ke nc ns is ik dc sc kd md wh fa re ve ps ow tl di lv bf bo bd co bt ma))] Hp → va_D A [(o, .inr (7, mdF th W H mt qu zz nw ol ne se ke nc ns is ik dc sc kd md wh fa re ve ps ow tl di lv bf bo bd co bt ma))] → va_S A s.heap Hp locs → lv_has ls 7 [(0, .ref o), (1, .float ga), (2, .float ofs)] → xW p l e ({ frames := 0, cells := 0, slots := 0, locals := 0 } : Room) s m ([.ref o, .float ga, .float ofs] : List Value).toArray below meth c Hp locs 0 0 (MQ below (xE D A none [(o, .inr (7, mdF (tLit (gud ga ofs) is) W H mt qu zz nw ol ne se ke nc ns is ik dc sc kd md wh fa re ve ps ow tl di lv bf bo bd co bt ma))]) ([.ref o, .float ga, .float ofs] : List Value).toArray s 0 0 A) (F0 m 33 ls [.int (gud ga ofs)]) := by
    intro Hp locs ls hP hD hS hl
    refine lv_istore_n (lv' := [(3, .int (gud ga ofs)), (0, .ref o), (1, .float ga), (2, .float ofs)]) hx hb dX7_light_33 rfl hl (by decide) rfl (fun ls hl => ?_)
    refine lv_aload_n hx hb dX7_light_34 rfl (lv_at hl 1 rfl) ?_
    refine lv_iload_n hx hb dX7_light_35 rfl (lv_at hl 0 rfl) ?_
    refine lv_if_ne (tgt := 43) hx hb dX7_light_36 (by decide) (fun c_36 => ?_) (fun c_36 => ?_)
    · refine lv_aload_n hx hb dX7_light_43 rfl (lv_at hl 1 rfl) ?_
      refine xget (C := RX7) (T := TX7) (N := 34) hF hX hP (by decide +kernel) 0 13 rfl rfl (by decide) (by decide +kernel) rfl dX7_light_44 ?_
      refine lv_if_ne (tgt := 54) hx hb dX7_light_47 (by decide) (fun c_47 => ?_) (fun c_47 => ?_)
      · refine lv_iconst (v := 0) hx hb dX7_light_54 (by decide) ?_
        refine xrwi (z := (tLit (gud ga ofs) is)) (by unfold tLit; rw [if_neg c_36, if_neg c_47]) ?_
        exact join_55   _ _ _ hP hD hS (lv_sub hl [1, 2, 3] rfl)
      · refine lv_iconst (v := 2) hx hb dX7_light_50 (by decide) ?_
        refine lv_goto (tgt := 55) hx hb dX7_light_51 (by decide) ?_
        refine xrwi (z := (tLit (gud ga ofs) is)) (by unfold tLit; rw [if_neg c_36, if_pos c_47]) ?_
        exact join_55   _ _ _ hP hD hS (lv_sub hl [1, 2, 3] rfl)
    · refine lv_iconst (v := 1) hx hb dX7_light_39 (by decide) ?_
      refine lv_goto (tgt := 55) hx hb dX7_light_40 (by decide) ?_
      refine xrwi (z := (tLit (gud ga ofs) is)) (by unfold tLit; rw [if_pos c_36]) ?_
      exact join_55   _ _ _ hP hD hS (lv_sub hl [1, 2, 3] rfl)
  refine lv_fload_n hx hb dX7_light_0 rfl (lv_at hl 1 rfl) ?_
  refine lv_ldcf (own := RX7) (v := 3296329728) hx hb hF.2.2.2.1 (hF.2.2.2.2 _ (by decide +kernel)) dX7_light_1 ?_
  refine lv_fcmp hx hb dX7_light_3 ?_
  refine lv_if_lt (tgt := 32) hx hb dX7_light_4 (by decide) (fun c_4 => ?_) (fun c_4 => ?_)
  · refine lv_iconst (v := 0) hx hb dX7_light_32 (by decide) ?_
    refine xrwi (z := gud ga ofs) (by unfold gud cmL cmG; rw [if_pos c_4]) ?_
    exact join_33   _ _ _ hP hD hS (lv_sub hl [0, 1, 2] rfl)
  · refine lv_fload_n hx hb dX7_light_7 rfl (lv_at hl 1 rfl) ?_
    refine lv_ldcf (own := RX7) (v := 1148846080) hx hb hF.2.2.2.1 (hF.2.2.2.2 _ (by decide +kernel)) dX7_light_8 ?_
    refine lv_fcmp hx hb dX7_light_10 ?_
    refine lv_if_gt (tgt := 32) hx hb dX7_light_11 (by decide) (fun c_11 => ?_) (fun c_11 => ?_)
    · refine lv_iconst (v := 0) hx hb dX7_light_32 (by decide) ?_
      refine xrwi (z := gud ga ofs) (by unfold gud cmL cmG; rw [if_neg c_4, if_pos c_11]) ?_
      exact join_33   _ _ _ hP hD hS (lv_sub hl [0, 1, 2] rfl)
    · refine lv_fload_n hx hb dX7_light_14 rfl (lv_at hl 2 rfl) ?_
      refine lv_ldcf (own := RX7) (v := 3351465984) hx hb hF.2.2.2.1 (hF.2.2.2.2 _ (by decide +kernel)) dX7_light_15 ?_
      refine lv_fcmp hx hb dX7_light_17 ?_
      refine lv_if_lt (tgt := 32) hx hb dX7_light_18 (by decide) (fun c_18 => ?_) (fun c_18 => ?_)
      · refine lv_iconst (v := 0) hx hb dX7_light_32 (by decide) ?_
        refine xrwi (z := gud ga ofs) (by unfold gud cmL cmG; rw [if_neg c_4, if_neg c_11, if_pos c_18]) ?_
        exact join_33   _ _ _ hP hD hS (lv_sub hl [0, 1, 2] rfl)
      · refine lv_fload_n hx hb dX7_light_21 rfl (lv_at hl 2 rfl) ?_
        refine lv_ldcf (own := RX7) (v := 1203982336) hx hb hF.2.2.2.1 (hF.2.2.2.2 _ (by decide +kernel)) dX7_light_22 ?_
        refine lv_fcmp hx hb dX7_light_24 ?_
        refine lv_if_gt (tgt := 32) hx hb dX7_light_25 (by decide) (fun c_25 => ?_) (fun c_25 => ?_)
        · refine lv_iconst (v := 0) hx hb dX7_light_32 (by decide) ?_
          refine xrwi (z := gud ga ofs) (by unfold gud cmL cmG; rw [if_neg c_4, if_neg c_11, if_neg c_18, if_pos c_25]) ?_
          exact join_33   _ _ _ hP hD hS (lv_sub hl [0, 1, 2] rfl)
        · refine lv_iconst (v := 1) hx hb dX7_light_28 (by decide) ?_
          refine lv_goto (tgt := 33) hx hb dX7_light_29 (by decide) ?_
          refine xrwi (z := gud ga ofs) (by unfold gud cmL cmG; rw [if_neg c_4, if_neg c_11, if_neg c_18, if_neg c_25]) ?_
          exact join_33   _ _ _ hP hD hS (lv_sub hl [0, 1, 2] rfl)

set_option maxHeartbeats 4000000 in
set_option maxRecDepth 100000 in
theorem c_X7_light_ok (l : Launch) (D : va_G) (cs : Nat → ClassId) (tt : Nat → Nat) (o mt qu zz nw ol ne se ke re ve ps di lv bd co bt ma W H md : Nat) (th nc ns ik dc sc kd wh fa ow tl bf bo : Int32) (ga ofs : UInt32) (gs : Nat → Int32) (hw : 1 ≤ W) (hw4 : W ≤ 4) (hh : 1 ≤ H) (hh3 : H ≤ 3) (hg : gud ga ofs = 1) (hm : ∀ x y, x < 16 * W → y < 16 * H → vf_n32 (FP.fmul ga (FP.i2f (gs (y * 64 + x))))) (ha : ∀ x y, x < 16 * W → y < 16 * H → vf_n32 (FP.fadd (FP.fmul ga (FP.i2f (gs (y * 64 + x)))) ofs)) : xM l yX7_light wsX7_light ({ frames := 2, cells := 0, slots := 0, locals := 44 } : Room) D cs tt [.ref o, .float ga, .float ofs] [(o, .inr (7, mdF th W H mt qu zz nw ol ne se ke nc ns 1 ik dc sc kd md wh fa re ve ps ow tl di lv bf bo bd co bt ma)), (se, .inl (cs 0, 4608, .inl gs))] none [(o, .inr (7, mdF 0 W H mt qu zz nw ol ne se ke nc ns 1 ik dc sc kd md wh fa re ve ps ow tl di lv bf bo bd co bt ma)), (se, .inl (cs 0, 4608, .inl (blkTo gs 0 64 0 0 (16 * W) (16 * H * (16 * W)) (litV gs ga ofs))))] := by
  refine xM.of RX7 rfl (by decide) rfl (Nat.le_of_ble_eq_true rfl) ?_
  intro p e s m below meth c A ls hF hr hlk hX hP hD hS hl
  have hx := hF.1
  have hb := hF.2.1
  have hl : lv_has ls 7 [(0, .ref o), (1, .float ga), (2, .float ofs)] := hl
  have join_33 : ∀ (Hp : Heap) (locs : List Loc) (ls : Array Slot), va_P D vwCl [(o, .inr (7, mdF th W H mt qu zz nw ol ne se ke nc ns 1 ik dc sc kd md wh fa re ve ps ow tl di lv bf bo bd co bt ma)), (se, .inl (cs 0, 4608, .inl gs))] Hp → va_D A [(o, .inr (7, mdF th W H mt qu zz nw ol ne se ke nc ns 1 ik dc sc kd md wh fa re ve ps ow tl di lv bf bo bd co bt ma)), (se, .inl (cs 0, 4608, .inl gs))] → va_S A s.heap Hp locs → lv_has ls 7 [(0, .ref o), (1, .float ga), (2, .float ofs)] → xW p l e ({ frames := 2, cells := 0, slots := 0, locals := 44 } : Room) s m ([.ref o, .float ga, .float ofs] : List Value).toArray below meth c Hp locs 0 0 (MQ below (xE D A none [(o, .inr (7, mdF 0 W H mt qu zz nw ol ne se ke nc ns 1 ik dc sc kd md wh fa re ve ps ow tl di lv bf bo bd co bt ma)), (se, .inl (cs 0, 4608, .inl (blkTo gs 0 64 0 0 (16 * W) (16 * H * (16 * W)) (litV gs ga ofs))))]) ([.ref o, .float ga, .float ofs] : List Value).toArray s 0 0 A) (F0 m 33 ls [.int (gud ga ofs)]) := by
    intro Hp locs ls hP hD hS hl
    refine lv_istore_n (lv' := [(3, .int (gud ga ofs)), (0, .ref o), (1, .float ga), (2, .float ofs)]) hx hb dX7_light_33 rfl hl (by decide) rfl (fun ls hl => ?_)
    refine lv_aload_n hx hb dX7_light_34 rfl (lv_at hl 1 rfl) ?_
    refine lv_iload_n hx hb dX7_light_35 rfl (lv_at hl 0 rfl) ?_
    refine lv_if_ne (tgt := 43) hx hb dX7_light_36 (by decide) (fun _ => ?_) (fun c_36 => absurd c_36 (by rw [hg]; decide))
    refine lv_aload_n hx hb dX7_light_43 rfl (lv_at hl 1 rfl) ?_
    refine xget (C := RX7) (T := TX7) (N := 34) hF hX hP (by decide +kernel) 0 13 rfl rfl (by decide) (by decide +kernel) rfl dX7_light_44 ?_
    refine lv_if_ne (tgt := 54) hx hb dX7_light_47 (by decide) (fun _ => ?_) (fun c_47 => absurd c_47 (by decide))
    refine lv_iconst (v := 0) hx hb dX7_light_54 (by decide) ?_
    refine xputf (C := RX7) (T := TX7) (N := 34) (ws1 := [(o, .inr (7, mdF 0 W H mt qu zz nw ol ne se ke nc ns 1 ik dc sc kd md wh fa re ve ps ow tl di lv bf bo bd co bt ma)), (se, .inl (cs 0, 4608, .inl gs))]) hF hX hP hD hS (by decide +kernel) tyX7 tyX7_ok nmX7 0 0 rfl rfl (by decide) (by decide +kernel) rfl (rfl) (rfl) (Nat.le_of_ble_eq_true rfl) dX7_light_55 rfl (fun Hp locs hP hD hS => ?_)
    refine lv_iconst (v := 0) hx hb dX7_light_58 (by decide) ?_
    refine lv_istore (lv' := [(4, .int 0), (3, .int (gud ga ofs)), (0, .ref o), (1, .float ga), (2, .float ofs)]) hx hb dX7_light_59 hl (by decide) rfl (fun ls hl => ?_)
    have loop_61 : ∀ (k61 : Nat) (y : Nat), 16 * H - y < k61 → y ≤ 16 * H → ∀ (Hp : Heap) (locs : List Loc) (ls : Array Slot), va_P D vwCl [(o, .inr (7, mdF 0 W H mt qu zz nw ol ne se ke nc ns 1 ik dc sc kd md wh fa re ve ps ow tl di lv bf bo bd co bt ma)), (se, .inl (cs 0, 4608, .inl (blkTo gs 0 64 0 0 (16 * W) (y * (16 * W)) (litV gs ga ofs))))] Hp → va_D A [(o, .inr (7, mdF 0 W H mt qu zz nw ol ne se ke nc ns 1 ik dc sc kd md wh fa re ve ps ow tl di lv bf bo bd co bt ma)), (se, .inl (cs 0, 4608, .inl (blkTo gs 0 64 0 0 (16 * W) (y * (16 * W)) (litV gs ga ofs))))] → va_S A s.heap Hp locs → lv_has ls 7 [(0, .ref o), (1, .float ga), (2, .float ofs), (4, .int (nI y))] → xW p l e ({ frames := 2, cells := 0, slots := 0, locals := 44 } : Room) s m ([.ref o, .float ga, .float ofs] : List Value).toArray below meth c Hp locs 0 0 (MQ below (xE D A none [(o, .inr (7, mdF 0 W H mt qu zz nw ol ne se ke nc ns 1 ik dc sc kd md wh fa re ve ps ow tl di lv bf bo bd co bt ma)), (se, .inl (cs 0, 4608, .inl (blkTo gs 0 64 0 0 (16 * W) (16 * H * (16 * W)) (litV gs ga ofs))))]) ([.ref o, .float ga, .float ofs] : List Value).toArray s 0 0 A) (F0 m 61 ls []) := by
      intro k61
      induction k61 with
      | zero => intro y h9; omega
      | succ k61 ih_61 =>
        intro y hk61 hy9 Hp locs ls hP hD hS hl
        refine lv_iload hx hb dX7_light_61 (lv_at hl 3 rfl) ?_
        refine lv_bipush (v := 16) hx hb dX7_light_63 (by decide) ?_
        refine lv_aload_n hx hb dX7_light_65 rfl (lv_at hl 0 rfl) ?_
        refine xget (C := RX7) (T := TX7) (N := 34) hF hX hP (by decide +kernel) 0 2 rfl rfl (by decide) (by decide +kernel) rfl dX7_light_66 ?_
        refine lv_imul hx hb dX7_light_69 ?_
        refine xrwi (z := nI (16 * H)) (pk_mul 16 H) ?_
        refine lv_icmp_ge (tgt := 139) hx hb dX7_light_70 (by decide) (fun c_70 => ?_) (fun c_70 => ?_)
        · have ey : y = 16 * H := by have := nIle (a := 16 * H) (b := y) rfl rfl (by omega) (by omega) c_70; omega
          have hP := xeqP hP (congrArg (fun z9 => ([(o, .inr (7, mdF 0 W H mt qu zz nw ol ne se ke nc ns 1 ik dc sc kd md wh fa re ve ps ow tl di lv bf bo bd co bt ma)), (se, .inl (cs 0, 4608, .inl z9))] : va_W)) (congrArg (fun n9 => blkTo gs 0 64 0 0 (16 * W) (n9 * (16 * W)) (litV gs ga ofs)) ey))
          have hD := xeqD hD (congrArg (fun z9 => ([(o, .inr (7, mdF 0 W H mt qu zz nw ol ne se ke nc ns 1 ik dc sc kd md wh fa re ve ps ow tl di lv bf bo bd co bt ma)), (se, .inl (cs 0, 4608, .inl z9))] : va_W)) (congrArg (fun n9 => blkTo gs 0 64 0 0 (16 * W) (n9 * (16 * W)) (litV gs ga ofs)) ey))
          exact xrv hF hr hlk hP hD hS dX7_light_139
        · have hyl : y < 16 * H := nInle (a := 16 * H) (b := y) rfl rfl (by omega) (by omega) c_70
          refine lv_aload_n hx hb dX7_light_73 rfl (lv_at hl 0 rfl) ?_
          refine xget (C := RX7) (T := TX7) (N := 34) hF hX hP (by decide +kernel) 0 0 rfl rfl (by decide) (by decide +kernel) rfl dX7_light_74 ?_
          refine lv_if_ne (tgt := 139) hx hb dX7_light_77 (by decide) (fun c_77 => absurd (by decide) c_77) (fun _ => ?_)
          refine lv_iconst (v := 0) hx hb dX7_light_80 (by decide) ?_
          refine lv_istore (lv' := [(5, .int 0), (0, .ref o), (1, .float ga), (2, .float ofs), (4, .int (nI y))]) hx hb dX7_light_81 hl (by decide) rfl (fun ls hl => ?_)
          have loop_83 : ∀ (k83 : Nat) (x : Nat), 16 * W - x < k83 → x ≤ 16 * W → ∀ (Hp : Heap) (locs : List Loc) (ls : Array Slot), va_P D vwCl [(o, .inr (7, mdF 0 W H mt qu zz nw ol ne se ke nc ns 1 ik dc sc kd md wh fa re ve ps ow tl di lv bf bo bd co bt ma)), (se, .inl (cs 0, 4608, .inl (blkTo gs 0 64 0 0 (16 * W) (y * (16 * W) + x) (litV gs ga ofs))))] Hp → va_D A [(o, .inr (7, mdF 0 W H mt qu zz nw ol ne se ke nc ns 1 ik dc sc kd md wh fa re ve ps ow tl di lv bf bo bd co bt ma)), (se, .inl (cs 0, 4608, .inl (blkTo gs 0 64 0 0 (16 * W) (y * (16 * W) + x) (litV gs ga ofs))))] → va_S A s.heap Hp locs → lv_has ls 7 [(0, .ref o), (1, .float ga), (2, .float ofs), (4, .int (nI y)), (5, .int (nI x))] → xW p l e ({ frames := 2, cells := 0, slots := 0, locals := 44 } : Room) s m ([.ref o, .float ga, .float ofs] : List Value).toArray below meth c Hp locs 0 0 (MQ below (xE D A none [(o, .inr (7, mdF 0 W H mt qu zz nw ol ne se ke nc ns 1 ik dc sc kd md wh fa re ve ps ow tl di lv bf bo bd co bt ma)), (se, .inl (cs 0, 4608, .inl (blkTo gs 0 64 0 0 (16 * W) (16 * H * (16 * W)) (litV gs ga ofs))))]) ([.ref o, .float ga, .float ofs] : List Value).toArray s 0 0 A) (F0 m 83 ls []) := by
            intro k83
            induction k83 with
            | zero => intro x h9; omega
            | succ k83 ih_83 =>
              intro x hk83 hx9 Hp locs ls hP hD hS hl
              refine lv_iload hx hb dX7_light_83 (lv_at hl 4 rfl) ?_
              refine lv_bipush (v := 16) hx hb dX7_light_85 (by decide) ?_
              refine lv_aload_n hx hb dX7_light_87 rfl (lv_at hl 0 rfl) ?_
              refine xget (C := RX7) (T := TX7) (N := 34) hF hX hP (by decide +kernel) 0 1 rfl rfl (by decide) (by decide +kernel) rfl dX7_light_88 ?_
              refine lv_imul hx hb dX7_light_91 ?_
              refine xrwi (z := nI (16 * W)) (pk_mul 16 W) ?_
              refine lv_icmp_ge (tgt := 133) hx hb dX7_light_92 (by decide) (fun c_92 => ?_) (fun c_92 => ?_)
              · have ex : x = 16 * W := by have := nIle (a := 16 * W) (b := x) rfl rfl (by omega) (by omega) c_92; omega
                have hP := xeqP hP (congrArg (fun z9 => ([(o, .inr (7, mdF 0 W H mt qu zz nw ol ne se ke nc ns 1 ik dc sc kd md wh fa re ve ps ow tl di lv bf bo bd co bt ma)), (se, .inl (cs 0, 4608, .inl z9))] : va_W)) (congrArg (fun n9 => blkTo gs 0 64 0 0 (16 * W) n9 (litV gs ga ofs)) (show y * (16 * W) + x = (y + 1) * (16 * W) by rw [ex, Nat.add_mul, Nat.one_mul])))
                have hD := xeqD hD (congrArg (fun z9 => ([(o, .inr (7, mdF 0 W H mt qu zz nw ol ne se ke nc ns 1 ik dc sc kd md wh fa re ve ps ow tl di lv bf bo bd co bt ma)), (se, .inl (cs 0, 4608, .inl z9))] : va_W)) (congrArg (fun n9 => blkTo gs 0 64 0 0 (16 * W) n9 (litV gs ga ofs)) (show y * (16 * W) + x = (y + 1) * (16 * W) by rw [ex, Nat.add_mul, Nat.one_mul])))
                refine lv_iinc (v := (nI (y + 1))) (lv' := [(4, .int (nI (y + 1))), (0, .ref o), (1, .float ga), (2, .float ofs), (5, .int (nI x))]) hx hb dX7_light_133 hl (k := 3) rfl (nI_1 y) (by decide) rfl (fun ls hl => ?_)
                refine lv_goto (tgt := 61) hx hb dX7_light_136 (by decide) ?_
                exact ih_61 (y + 1) (by omega) (by omega) _ _ _ hP hD hS (lv_sub hl [1, 2, 3, 0] rfl)
              · have hxl : x < 16 * W := nInle (a := 16 * W) (b := x) rfl rfl (by omega) (by omega) c_92
                refine lv_iconst (v := 0) hx hb dX7_light_95 (by decide) ?_
                refine lv_iload hx hb dX7_light_96 (lv_at hl 4 rfl) ?_
                refine lv_iload hx hb dX7_light_98 (lv_at hl 3 rfl) ?_
                refine xSt (rest := []) (As := [.int 0, .int (nI x), .int (nI y)]) (ws1 := [(o, .inr (7, mdF 0 W H mt qu zz nw ol ne se ke nc ns 1 ik dc sc kd md wh fa re ve ps ow tl di lv bf bo bd co bt ma)), (se, .inl (cs 0, 4608, .inl (blkTo gs 0 64 0 0 (16 * W) (y * (16 * W) + x) (litV gs ga ofs))))]) (st1 := [.int (nI (plc 0 x y))]) hF (c_X7_place l D cs tt 0 x y (by decide)) gX7_light_X7_place rfl (n := 3) (by decide +kernel) rfl ⟨⟨rfl, rfl⟩, Nat.le_of_ble_eq_true rfl, Nat.le_of_ble_eq_true rfl⟩ ⟨Nat.le_of_ble_eq_true rfl, Nat.le_of_ble_eq_true rfl⟩ hX hP hD hS [] (by decide) rfl [] rfl rfl hl.1 rfl (Nat.le_of_ble_eq_true rfl) dX7_light_100 rfl rfl (fun Hp locs hP hD hS => ?_)
                refine xrwi (z := nI (y * 64 + x)) (by unfold plc; rw [if_pos rfl]; exact congrArg nI (by omega)) ?_
                refine lv_istore (lv' := [(6, .int (nI (y * 64 + x))), (0, .ref o), (1, .float ga), (2, .float ofs), (4, .int (nI y)), (5, .int (nI x))]) hx hb dX7_light_103 hl (by decide) rfl (fun ls hl => ?_)
                refine lv_aload_n hx hb dX7_light_105 rfl (lv_at hl 1 rfl) ?_
                refine xget (C := RX7) (T := TX7) (N := 34) hF hX hP (by decide +kernel) 0 9 rfl rfl (by decide) (by decide +kernel) rfl dX7_light_106 ?_
                refine lv_iload hx hb dX7_light_109 (lv_at hl 0 rfl) ?_
                refine lv_fload_n hx hb dX7_light_111 rfl (lv_at hl 2 rfl) ?_
                refine lv_aload_n hx hb dX7_light_112 rfl (lv_at hl 1 rfl) ?_
                refine xget (C := RX7) (T := TX7) (N := 34) hF hX hP (by decide +kernel) 0 9 rfl rfl (by decide) (by decide +kernel) rfl dX7_light_113 ?_
                refine lv_iload hx hb dX7_light_116 (lv_at hl 0 rfl) ?_
                refine xald (k := y * 64 + x) hF hX hP 1 rfl (nI_clamp (by omega)) (vp_in_nI (by omega) (by decide)) dX7_light_118 ?_
                refine xrwi (z := gs (y * 64 + x)) (lit_at gs ga ofs (by omega)) ?_
                refine lv_i2f hx hb dX7_light_119 ?_
                refine lv_fmul hx hb dX7_light_120 (hm x y hxl hyl) ?_
                refine lv_fload_n hx hb dX7_light_121 rfl (lv_at hl 3 rfl) ?_
                refine lv_fadd hx hb dX7_light_122 (ha x y hxl hyl) ?_
                refine xSt (rest := [.int (nI (y * 64 + x)), .ref se]) (As := [.float (FP.fadd (FP.fmul ga (FP.i2f (gs (y * 64 + x)))) ofs)]) (ws1 := [(o, .inr (7, mdF 0 W H mt qu zz nw ol ne se ke nc ns 1 ik dc sc kd md wh fa re ve ps ow tl di lv bf bo bd co bt ma)), (se, .inl (cs 0, 4608, .inl (blkTo gs 0 64 0 0 (16 * W) (y * (16 * W) + x) (litV gs ga ofs))))]) (st1 := [.int (bnd (FP.f2i (FP.fadd (FP.fmul ga (FP.i2f (gs (y * 64 + x)))) ofs)) 0 255), .int (nI (y * 64 + x)), .ref se]) hF (c_X7_cutOff l D cs tt (FP.fadd (FP.fmul ga (FP.i2f (gs (y * 64 + x)))) ofs)) gX7_light_X7_cutOff rfl (n := 1) (by decide +kernel) rfl ⟨⟨rfl, rfl⟩, Nat.le_of_ble_eq_true rfl, Nat.le_of_ble_eq_true rfl⟩ ⟨Nat.le_of_ble_eq_true rfl, Nat.le_of_ble_eq_true rfl⟩ hX hP hD hS [] (by decide) rfl [] rfl rfl hl.1 rfl (Nat.le_of_ble_eq_true rfl) dX7_light_123 rfl rfl (fun Hp locs hP hD hS => ?_)
                refine xast (k := y * 64 + x) (ws1 := [(o, .inr (7, mdF 0 W H mt qu zz nw ol ne se ke nc ns 1 ik dc sc kd md wh fa re ve ps ow tl di lv bf bo bd co bt ma)), (se, .inl (cs 0, 4608, .inl (blkTo gs 0 64 0 0 (16 * W) (y * (16 * W) + (x + 1)) (litV gs ga ofs))))]) hF hX hP hD hS 1 rfl (nI_clamp (by omega)) (vp_in_nI (by omega) (by decide)) dX7_light_126 (congrArg (fun z9 => ([(o, .inr (7, mdF 0 W H mt qu zz nw ol ne se ke nc ns 1 ik dc sc kd md wh fa re ve ps ow tl di lv bf bo bd co bt ma)), (se, .inl (cs 0, 4608, .inl z9))] : va_W)) (lit_s gs ga ofs hxl (by omega) rfl)) (fun Hp locs hP hD hS => ?_)
                refine lv_iinc (v := (nI (x + 1))) (lv' := [(5, .int (nI (x + 1))), (6, .int (nI (y * 64 + x))), (0, .ref o), (1, .float ga), (2, .float ofs), (4, .int (nI y))]) hx hb dX7_light_127 hl (k := 5) rfl (nI_1 x) (by decide) rfl (fun ls hl => ?_)
                refine lv_goto (tgt := 83) hx hb dX7_light_130 (by decide) ?_
                exact ih_83 (x + 1) (by omega) (by omega) _ _ _ hP hD hS (lv_sub hl [2, 3, 4, 5, 0] rfl)
          exact loop_83 (16 * W - 0 + 1) 0 (Nat.lt_succ_self _) (Nat.zero_le _) _ _ _ hP hD hS (lv_sub hl [1, 2, 3, 4, 0] rfl)
    have hP := xeqP hP (congrArg (fun z9 => ([(o, .inr (7, mdF 0 W H mt qu zz nw ol ne se ke nc ns 1 ik dc sc kd md wh fa re ve ps ow tl di lv bf bo bd co bt ma)), (se, .inl (cs 0, 4608, .inl z9))] : va_W)) ((lit_0 gs ga ofs W).symm))
    have hD := xeqD hD (congrArg (fun z9 => ([(o, .inr (7, mdF 0 W H mt qu zz nw ol ne se ke nc ns 1 ik dc sc kd md wh fa re ve ps ow tl di lv bf bo bd co bt ma)), (se, .inl (cs 0, 4608, .inl z9))] : va_W)) ((lit_0 gs ga ofs W).symm))
    exact loop_61 (16 * H - 0 + 1) 0 (Nat.lt_succ_self _) (Nat.zero_le _) _ _ _ hP hD hS (lv_sub hl [2, 3, 4, 0] rfl)
  refine lv_fload_n hx hb dX7_light_0 rfl (lv_at hl 1 rfl) ?_
  refine lv_ldcf (own := RX7) (v := 3296329728) hx hb hF.2.2.2.1 (hF.2.2.2.2 _ (by decide +kernel)) dX7_light_1 ?_
  refine lv_fcmp hx hb dX7_light_3 ?_
  refine lv_if_lt (tgt := 32) hx hb dX7_light_4 (by decide) (fun c_4 => ?_) (fun c_4 => ?_)
  · refine lv_iconst (v := 0) hx hb dX7_light_32 (by decide) ?_
    refine xrwi (z := gud ga ofs) (by unfold gud cmL cmG; rw [if_pos c_4]) ?_
    exact join_33   _ _ _ hP hD hS (lv_sub hl [0, 1, 2] rfl)
  · refine lv_fload_n hx hb dX7_light_7 rfl (lv_at hl 1 rfl) ?_
    refine lv_ldcf (own := RX7) (v := 1148846080) hx hb hF.2.2.2.1 (hF.2.2.2.2 _ (by decide +kernel)) dX7_light_8 ?_
    refine lv_fcmp hx hb dX7_light_10 ?_
    refine lv_if_gt (tgt := 32) hx hb dX7_light_11 (by decide) (fun c_11 => ?_) (fun c_11 => ?_)
    · refine lv_iconst (v := 0) hx hb dX7_light_32 (by decide) ?_
      refine xrwi (z := gud ga ofs) (by unfold gud cmL cmG; rw [if_neg c_4, if_pos c_11]) ?_
      exact join_33   _ _ _ hP hD hS (lv_sub hl [0, 1, 2] rfl)
    · refine lv_fload_n hx hb dX7_light_14 rfl (lv_at hl 2 rfl) ?_
      refine lv_ldcf (own := RX7) (v := 3351465984) hx hb hF.2.2.2.1 (hF.2.2.2.2 _ (by decide +kernel)) dX7_light_15 ?_
      refine lv_fcmp hx hb dX7_light_17 ?_
      refine lv_if_lt (tgt := 32) hx hb dX7_light_18 (by decide) (fun c_18 => ?_) (fun c_18 => ?_)
      · refine lv_iconst (v := 0) hx hb dX7_light_32 (by decide) ?_
        refine xrwi (z := gud ga ofs) (by unfold gud cmL cmG; rw [if_neg c_4, if_neg c_11, if_pos c_18]) ?_
        exact join_33   _ _ _ hP hD hS (lv_sub hl [0, 1, 2] rfl)
      · refine lv_fload_n hx hb dX7_light_21 rfl (lv_at hl 2 rfl) ?_
        refine lv_ldcf (own := RX7) (v := 1203982336) hx hb hF.2.2.2.1 (hF.2.2.2.2 _ (by decide +kernel)) dX7_light_22 ?_
        refine lv_fcmp hx hb dX7_light_24 ?_
        refine lv_if_gt (tgt := 32) hx hb dX7_light_25 (by decide) (fun c_25 => ?_) (fun c_25 => ?_)
        · refine lv_iconst (v := 0) hx hb dX7_light_32 (by decide) ?_
          refine xrwi (z := gud ga ofs) (by unfold gud cmL cmG; rw [if_neg c_4, if_neg c_11, if_neg c_18, if_pos c_25]) ?_
          exact join_33   _ _ _ hP hD hS (lv_sub hl [0, 1, 2] rfl)
        · refine lv_iconst (v := 1) hx hb dX7_light_28 (by decide) ?_
          refine lv_goto (tgt := 33) hx hb dX7_light_29 (by decide) ?_
          refine xrwi (z := gud ga ofs) (by unfold gud cmL cmG; rw [if_neg c_4, if_neg c_11, if_neg c_18, if_neg c_25]) ?_
          exact join_33   _ _ _ hP hD hS (lv_sub hl [0, 1, 2] rfl)

set_option maxHeartbeats 4000000 in
set_option maxRecDepth 100000 in
theorem c_X7_error_bad (l : Launch) (D : va_G) (cs : Nat → ClassId) (tt : Nat → Nat) (o mt qu zz nw ol ne se ke re ve ps di lv bd co bt ma W H md : Nat) (th nc ns is ik dc sc kd wh fa ow tl bf bo : Int32) (ht : (tErr is ik) = 1 ∨ (tErr is ik) = 2) : xM l yX7_error wsX7_error ({ frames := 0, cells := 0, slots := 0, locals := 0 } : Room) D cs tt [.ref o] [(o, .inr (7, mdF th W H mt qu zz nw ol ne se ke nc ns is ik dc sc kd md wh fa re ve ps ow tl di lv bf bo bd co bt ma))] (some (.float 0)) [(o, .inr (7, mdF (tErr is ik) W H mt qu zz nw ol ne se ke nc ns is ik dc sc kd md wh fa re ve ps ow tl di lv bf bo bd co bt ma))] := by
  refine xM.of RX7 rfl (by decide) rfl (Nat.le_of_ble_eq_true rfl) ?_
  intro p e s m below meth c A ls hF hr hlk hX hP hD hS hl
  have hx := hF.1
  have hb := hF.2.1
  have hl : lv_has ls 5 [(0, .ref o)] := hl
  have join_20 : ∀ (Hp : Heap) (locs : List Loc) (ls : Array Slot), va_P D vwCl [(o, .inr (7, mdF th W H mt qu zz nw ol ne se ke nc ns is ik dc sc kd md wh fa re ve ps ow tl di lv bf bo bd co bt ma))] Hp → va_D A [(o, .inr (7, mdF th W H mt qu zz nw ol ne se ke nc ns is ik dc sc kd md wh fa re ve ps ow tl di lv bf bo bd co bt ma))] → va_S A s.heap Hp locs → lv_has ls 5 [(0, .ref o)] → xW p l e ({ frames := 0, cells := 0, slots := 0, locals := 0 } : Room) s m ([.ref o] : List Value).toArray below meth c Hp locs 0 0 (MQ below (xE D A (some (.float 0)) [(o, .inr (7, mdF (tErr is ik) W H mt qu zz nw ol ne se ke nc ns is ik dc sc kd md wh fa re ve ps ow tl di lv bf bo bd co bt ma))]) ([.ref o] : List Value).toArray s 0 0 A) (F0 m 20 ls [.int (tErr is ik), .ref o]) := by
    intro Hp locs ls hP hD hS hl
    refine xputf (C := RX7) (T := TX7) (N := 34) (ws1 := [(o, .inr (7, mdF (tErr is ik) W H mt qu zz nw ol ne se ke nc ns is ik dc sc kd md wh fa re ve ps ow tl di lv bf bo bd co bt ma))]) hF hX hP hD hS (by decide +kernel) tyX7 tyX7_ok nmX7 0 0 rfl rfl (by decide) (by decide +kernel) rfl (rfl) (rfl) (Nat.le_of_ble_eq_true rfl) dX7_error_20 rfl (fun Hp locs hP hD hS => ?_)
    refine lv_aload_n hx hb dX7_error_23 rfl (lv_at hl 0 rfl) ?_
    refine xget (C := RX7) (T := TX7) (N := 34) hF hX hP (by decide +kernel) 0 0 rfl rfl (by decide) (by decide +kernel) rfl dX7_error_24 ?_
    refine lv_if_le (tgt := 32) hx hb dX7_error_27 (by decide) (fun c_27 => absurd c_27 (by rcases ht with h9 | h9 <;> rw [h9] <;> decide)) (fun _ => ?_)
    refine lv_fconst0 hx hb dX7_error_30 ?_
    exact xrf hF hr hlk hP hD hS dX7_error_31
  refine lv_aload_n hx hb dX7_error_0 rfl (lv_at hl 0 rfl) ?_
  refine lv_aload_n hx hb dX7_error_1 rfl (lv_at hl 0 rfl) ?_
  refine xget (C := RX7) (T := TX7) (N := 34) hF hX hP (by decide +kernel) 0 13 rfl rfl (by decide) (by decide +kernel) rfl dX7_error_2 ?_
  refine lv_if_eq (tgt := 19) hx hb dX7_error_5 (by decide) (fun c_5 => ?_) (fun c_5 => ?_)
  · refine lv_iconst (v := 1) hx hb dX7_error_19 (by decide) ?_
    refine xrwi (z := (tErr is ik)) (by unfold tErr; rw [if_pos c_5]) ?_
    exact join_20   _ _ _ hP hD hS (lv_sub hl [0] rfl)
  · refine lv_aload_n hx hb dX7_error_8 rfl (lv_at hl 0 rfl) ?_
    refine xget (C := RX7) (T := TX7) (N := 34) hF hX hP (by decide +kernel) 0 14 rfl rfl (by decide) (by decide +kernel) rfl dX7_error_9 ?_
    refine lv_if_eq (tgt := 19) hx hb dX7_error_12 (by decide) (fun c_12 => ?_) (fun c_12 => ?_)
    · refine lv_iconst (v := 1) hx hb dX7_error_19 (by decide) ?_
      refine xrwi (z := (tErr is ik)) (by unfold tErr; rw [if_neg c_5, if_pos c_12]) ?_
      exact join_20   _ _ _ hP hD hS (lv_sub hl [0] rfl)
    · refine lv_iconst (v := 0) hx hb dX7_error_15 (by decide) ?_
      refine lv_goto (tgt := 20) hx hb dX7_error_16 (by decide) ?_
      refine xrwi (z := (tErr is ik)) (by unfold tErr; rw [if_neg c_5, if_neg c_12]) ?_
      exact join_20   _ _ _ hP hD hS (lv_sub hl [0] rfl)

set_option maxHeartbeats 4000000 in
set_option maxRecDepth 100000 in
theorem c_X7_error_ok (l : Launch) (D : va_G) (cs : Nat → ClassId) (tt : Nat → Nat) (o mt qu zz nw ol ne se ke re ve ps di lv bd co bt ma W H md : Nat) (th nc ns dc sc kd wh fa ow tl bf bo : Int32) (gs gk : Nat → Int32) (hw : 1 ≤ W) (hw4 : W ≤ 4) (hh : 1 ≤ H) (hh3 : H ≤ 3) (hm : ∀ j, j < (16 * W * (16 * H)) → vf_n32 (FP.fmul (FP.i2f ((row64 gs (16 * W)) j - (row64 gk (16 * W)) j)) (FP.i2f ((row64 gs (16 * W)) j - (row64 gk (16 * W)) j)))) (ha : ∀ j, j < (16 * W * (16 * H)) → vf_n32 (msq (row64 gs (16 * W)) (row64 gk (16 * W)) (j + 1))) (hq : vf_n32 (FP.fdiv (msq (row64 gs (16 * W)) (row64 gk (16 * W)) (16 * W * (16 * H))) (FP.i2f (nI (16 * W * (16 * H)))))) : xM l yX7_error wsX7_error ({ frames := 1, cells := 0, slots := 0, locals := 22 } : Room) D cs tt [.ref o] [(o, .inr (7, mdF th W H mt qu zz nw ol ne se ke nc ns 1 1 dc sc kd md wh fa re ve ps ow tl di lv bf bo bd co bt ma)), (se, .inl (cs 0, 4608, .inl gs)), (ke, .inl (cs 0, 4608, .inl gk))] (some (.float (FP.fdiv (msq (row64 gs (16 * W)) (row64 gk (16 * W)) (16 * W * (16 * H))) (FP.i2f (nI (16 * W * (16 * H))))))) [(o, .inr (7, mdF 0 W H mt qu zz nw ol ne se ke nc ns 1 1 dc sc kd md wh fa re ve ps ow tl di lv bf bo bd co bt ma)), (se, .inl (cs 0, 4608, .inl gs)), (ke, .inl (cs 0, 4608, .inl gk))] := by
  refine xM.of RX7 rfl (by decide) rfl (Nat.le_of_ble_eq_true rfl) ?_
  intro p e s m below meth c A ls hF hr hlk hX hP hD hS hl
  have hx := hF.1
  have hb := hF.2.1
  have hl : lv_has ls 5 [(0, .ref o)] := hl
  refine lv_aload_n hx hb dX7_error_0 rfl (lv_at hl 0 rfl) ?_
  refine lv_aload_n hx hb dX7_error_1 rfl (lv_at hl 0 rfl) ?_
  refine xget (C := RX7) (T := TX7) (N := 34) hF hX hP (by decide +kernel) 0 13 rfl rfl (by decide) (by decide +kernel) rfl dX7_error_2 ?_
  refine lv_if_eq (tgt := 19) hx hb dX7_error_5 (by decide) (fun c_5 => absurd c_5 (by decide)) (fun _ => ?_)
  refine lv_aload_n hx hb dX7_error_8 rfl (lv_at hl 0 rfl) ?_
  refine xget (C := RX7) (T := TX7) (N := 34) hF hX hP (by decide +kernel) 0 14 rfl rfl (by decide) (by decide +kernel) rfl dX7_error_9 ?_
  refine lv_if_eq (tgt := 19) hx hb dX7_error_12 (by decide) (fun c_12 => absurd c_12 (by decide)) (fun _ => ?_)
  refine lv_iconst (v := 0) hx hb dX7_error_15 (by decide) ?_
  refine lv_goto (tgt := 20) hx hb dX7_error_16 (by decide) ?_
  refine xputf (C := RX7) (T := TX7) (N := 34) (ws1 := [(o, .inr (7, mdF 0 W H mt qu zz nw ol ne se ke nc ns 1 1 dc sc kd md wh fa re ve ps ow tl di lv bf bo bd co bt ma)), (se, .inl (cs 0, 4608, .inl gs)), (ke, .inl (cs 0, 4608, .inl gk))]) hF hX hP hD hS (by decide +kernel) tyX7 tyX7_ok nmX7 0 0 rfl rfl (by decide) (by decide +kernel) rfl (rfl) (rfl) (Nat.le_of_ble_eq_true rfl) dX7_error_20 rfl (fun Hp locs hP hD hS => ?_)
  refine lv_aload_n hx hb dX7_error_23 rfl (lv_at hl 0 rfl) ?_
  refine xget (C := RX7) (T := TX7) (N := 34) hF hX hP (by decide +kernel) 0 0 rfl rfl (by decide) (by decide +kernel) rfl dX7_error_24 ?_
  refine lv_if_le (tgt := 32) hx hb dX7_error_27 (by decide) (fun _ => ?_) (fun c_27 => absurd (by decide) c_27)
  refine lv_fconst0 hx hb dX7_error_32 ?_
  refine lv_fstore_n (lv' := [(1, .float 0), (0, .ref o)]) hx hb dX7_error_33 rfl hl (by decide) rfl (fun ls hl => ?_)
  refine lv_iconst (v := 0) hx hb dX7_error_34 (by decide) ?_
  refine lv_istore_n (lv' := [(2, .int 0), (1, .float 0), (0, .ref o)]) hx hb dX7_error_35 rfl hl (by decide) rfl (fun ls hl => ?_)
  have loop_36 : ∀ (k36 : Nat) (y : Nat) (n : Nat), 16 * H - y < k36 → y ≤ 16 * H → n = y * (16 * W) → ∀ (Hp : Heap) (locs : List Loc) (ls : Array Slot), va_P D vwCl [(o, .inr (7, mdF 0 W H mt qu zz nw ol ne se ke nc ns 1 1 dc sc kd md wh fa re ve ps ow tl di lv bf bo bd co bt ma)), (se, .inl (cs 0, 4608, .inl gs)), (ke, .inl (cs 0, 4608, .inl gk))] Hp → va_D A [(o, .inr (7, mdF 0 W H mt qu zz nw ol ne se ke nc ns 1 1 dc sc kd md wh fa re ve ps ow tl di lv bf bo bd co bt ma)), (se, .inl (cs 0, 4608, .inl gs)), (ke, .inl (cs 0, 4608, .inl gk))] → va_S A s.heap Hp locs → lv_has ls 5 [(0, .ref o), (1, .float (msq (row64 gs (16 * W)) (row64 gk (16 * W)) n)), (2, .int (nI y))] → xW p l e ({ frames := 1, cells := 0, slots := 0, locals := 22 } : Room) s m ([.ref o] : List Value).toArray below meth c Hp locs 0 0 (MQ below (xE D A (some (.float (FP.fdiv (msq (row64 gs (16 * W)) (row64 gk (16 * W)) (16 * W * (16 * H))) (FP.i2f (nI (16 * W * (16 * H))))))) [(o, .inr (7, mdF 0 W H mt qu zz nw ol ne se ke nc ns 1 1 dc sc kd md wh fa re ve ps ow tl di lv bf bo bd co bt ma)), (se, .inl (cs 0, 4608, .inl gs)), (ke, .inl (cs 0, 4608, .inl gk))]) ([.ref o] : List Value).toArray s 0 0 A) (F0 m 36 ls []) := by
    intro k36
    induction k36 with
    | zero => intro y n h9; omega
    | succ k36 ih_36 =>
      intro y n hk36 hy9 hn9 Hp locs ls hP hD hS hl
      refine lv_iload_n hx hb dX7_error_36 rfl (lv_at hl 2 rfl) ?_
      refine lv_bipush (v := 16) hx hb dX7_error_37 (by decide) ?_
      refine lv_aload_n hx hb dX7_error_39 rfl (lv_at hl 0 rfl) ?_
      refine xget (C := RX7) (T := TX7) (N := 34) hF hX hP (by decide +kernel) 0 2 rfl rfl (by decide) (by decide +kernel) rfl dX7_error_40 ?_
      refine lv_imul hx hb dX7_error_43 ?_
      refine xrwi (z := nI (16 * H)) (pk_mul 16 H) ?_
      refine lv_icmp_ge (tgt := 106) hx hb dX7_error_44 (by decide) (fun c_44 => ?_) (fun c_44 => ?_)
      · have ey : y = 16 * H := by have := nIle (a := 16 * H) (b := y) rfl rfl (by omega) (by omega) c_44; omega
        have en : n = 16 * W * (16 * H) := by rw [hn9, ey, Nat.mul_comm]
        clear hn9
        subst en
        refine lv_fload_n hx hb dX7_error_106 rfl (lv_at hl 1 rfl) ?_
        refine lv_sipush (v := 256) hx hb dX7_error_107 (by decide) ?_
        refine lv_aload_n hx hb dX7_error_110 rfl (lv_at hl 0 rfl) ?_
        refine xget (C := RX7) (T := TX7) (N := 34) hF hX hP (by decide +kernel) 0 1 rfl rfl (by decide) (by decide +kernel) rfl dX7_error_111 ?_
        refine lv_imul hx hb dX7_error_114 ?_
        refine lv_aload_n hx hb dX7_error_115 rfl (lv_at hl 0 rfl) ?_
        refine xget (C := RX7) (T := TX7) (N := 34) hF hX hP (by decide +kernel) 0 2 rfl rfl (by decide) (by decide +kernel) rfl dX7_error_116 ?_
        refine lv_imul hx hb dX7_error_119 ?_
        refine xrwi (z := nI (16 * W * (16 * H))) (err_c W H) ?_
        refine lv_i2f hx hb dX7_error_120 ?_
        refine lv_fdiv hx hb dX7_error_121 (hq) ?_
        exact xrf hF hr hlk hP hD hS dX7_error_122
      · have hyl : y < 16 * H := nInle (a := 16 * H) (b := y) rfl rfl (by omega) (by omega) c_44
        refine lv_iconst (v := 0) hx hb dX7_error_47 (by decide) ?_
        refine lv_istore_n (lv' := [(3, .int 0), (0, .ref o), (1, .float (msq (row64 gs (16 * W)) (row64 gk (16 * W)) n)), (2, .int (nI y))]) hx hb dX7_error_48 rfl hl (by decide) rfl (fun ls hl => ?_)
        have loop_49 : ∀ (k49 : Nat) (x : Nat), 16 * W - x < k49 → x ≤ 16 * W → ∀ (Hp : Heap) (locs : List Loc) (ls : Array Slot), va_P D vwCl [(o, .inr (7, mdF 0 W H mt qu zz nw ol ne se ke nc ns 1 1 dc sc kd md wh fa re ve ps ow tl di lv bf bo bd co bt ma)), (se, .inl (cs 0, 4608, .inl gs)), (ke, .inl (cs 0, 4608, .inl gk))] Hp → va_D A [(o, .inr (7, mdF 0 W H mt qu zz nw ol ne se ke nc ns 1 1 dc sc kd md wh fa re ve ps ow tl di lv bf bo bd co bt ma)), (se, .inl (cs 0, 4608, .inl gs)), (ke, .inl (cs 0, 4608, .inl gk))] → va_S A s.heap Hp locs → lv_has ls 5 [(0, .ref o), (1, .float (msq (row64 gs (16 * W)) (row64 gk (16 * W)) (n + x))), (2, .int (nI y)), (3, .int (nI x))] → xW p l e ({ frames := 1, cells := 0, slots := 0, locals := 22 } : Room) s m ([.ref o] : List Value).toArray below meth c Hp locs 0 0 (MQ below (xE D A (some (.float (FP.fdiv (msq (row64 gs (16 * W)) (row64 gk (16 * W)) (16 * W * (16 * H))) (FP.i2f (nI (16 * W * (16 * H))))))) [(o, .inr (7, mdF 0 W H mt qu zz nw ol ne se ke nc ns 1 1 dc sc kd md wh fa re ve ps ow tl di lv bf bo bd co bt ma)), (se, .inl (cs 0, 4608, .inl gs)), (ke, .inl (cs 0, 4608, .inl gk))]) ([.ref o] : List Value).toArray s 0 0 A) (F0 m 49 ls []) := by
          intro k49
          induction k49 with
          | zero => intro x h9; omega
          | succ k49 ih_49 =>
            intro x hk49 hx9 Hp locs ls hP hD hS hl
            refine lv_iload_n hx hb dX7_error_49 rfl (lv_at hl 3 rfl) ?_
            refine lv_bipush (v := 16) hx hb dX7_error_50 (by decide) ?_
            refine lv_aload_n hx hb dX7_error_52 rfl (lv_at hl 0 rfl) ?_
            refine xget (C := RX7) (T := TX7) (N := 34) hF hX hP (by decide +kernel) 0 1 rfl rfl (by decide) (by decide +kernel) rfl dX7_error_53 ?_
            refine lv_imul hx hb dX7_error_56 ?_
            refine xrwi (z := nI (16 * W)) (pk_mul 16 W) ?_
            refine lv_icmp_ge (tgt := 100) hx hb dX7_error_57 (by decide) (fun c_57 => ?_) (fun c_57 => ?_)
            · have ex : x = 16 * W := by have := nIle (a := 16 * W) (b := x) rfl rfl (by omega) (by omega) c_57; omega
              refine lv_iinc (v := (nI (y + 1))) (lv' := [(2, .int (nI (y + 1))), (0, .ref o), (1, .float (msq (row64 gs (16 * W)) (row64 gk (16 * W)) (n + x))), (3, .int (nI x))]) hx hb dX7_error_100 hl (k := 2) rfl (nI_1 y) (by decide) rfl (fun ls hl => ?_)
              refine lv_goto (tgt := 36) hx hb dX7_error_103 (by decide) ?_
              exact ih_36 (y + 1) (n + x) (by omega) (by omega) (by rw [hn9, ex, Nat.add_mul, Nat.one_mul]) _ _ _ hP hD hS (lv_sub hl [1, 2, 0] rfl)
            · have hxl : x < 16 * W := nInle (a := 16 * W) (b := x) rfl rfl (by omega) (by omega) c_57
              have hj : n + x < 16 * W * (16 * H) := by rw [hn9]; exact err_lt hxl hyl
              refine lv_aload_n hx hb dX7_error_60 rfl (lv_at hl 0 rfl) ?_
              refine xget (C := RX7) (T := TX7) (N := 34) hF hX hP (by decide +kernel) 0 9 rfl rfl (by decide) (by decide +kernel) rfl dX7_error_61 ?_
              refine lv_iconst (v := 0) hx hb dX7_error_64 (by decide) ?_
              refine lv_iload_n hx hb dX7_error_65 rfl (lv_at hl 3 rfl) ?_
              refine lv_iload_n hx hb dX7_error_66 rfl (lv_at hl 2 rfl) ?_
              refine xSt (rest := [.ref se]) (As := [.int 0, .int (nI x), .int (nI y)]) (ws1 := [(o, .inr (7, mdF 0 W H mt qu zz nw ol ne se ke nc ns 1 1 dc sc kd md wh fa re ve ps ow tl di lv bf bo bd co bt ma)), (se, .inl (cs 0, 4608, .inl gs)), (ke, .inl (cs 0, 4608, .inl gk))]) (st1 := [.int (nI (plc 0 x y)), .ref se]) hF (c_X7_place l D cs tt 0 x y (by decide)) gX7_error_X7_place rfl (n := 3) (by decide +kernel) rfl ⟨⟨rfl, rfl⟩, Nat.le_of_ble_eq_true rfl, Nat.le_of_ble_eq_true rfl⟩ ⟨Nat.le_of_ble_eq_true rfl, Nat.le_of_ble_eq_true rfl⟩ hX hP hD hS [] (by decide) rfl [] rfl rfl hl.1 rfl (Nat.le_of_ble_eq_true rfl) dX7_error_67 rfl rfl (fun Hp locs hP hD hS => ?_)
              refine xrwi (z := nI (y * 64 + x)) (by unfold plc; rw [if_pos rfl]; exact congrArg nI (by omega)) ?_
              refine xald (k := y * 64 + x) hF hX hP 1 rfl (nI_clamp (by omega)) (vp_in_nI (by omega) (by decide)) dX7_error_70 ?_
              refine lv_aload_n hx hb dX7_error_71 rfl (lv_at hl 0 rfl) ?_
              refine xget (C := RX7) (T := TX7) (N := 34) hF hX hP (by decide +kernel) 0 10 rfl rfl (by decide) (by decide +kernel) rfl dX7_error_72 ?_
              refine lv_iconst (v := 0) hx hb dX7_error_75 (by decide) ?_
              refine lv_iload_n hx hb dX7_error_76 rfl (lv_at hl 3 rfl) ?_
              refine lv_iload_n hx hb dX7_error_77 rfl (lv_at hl 2 rfl) ?_
              refine xSt (rest := [.ref ke, .int (gs (y * 64 + x))]) (As := [.int 0, .int (nI x), .int (nI y)]) (ws1 := [(o, .inr (7, mdF 0 W H mt qu zz nw ol ne se ke nc ns 1 1 dc sc kd md wh fa re ve ps ow tl di lv bf bo bd co bt ma)), (se, .inl (cs 0, 4608, .inl gs)), (ke, .inl (cs 0, 4608, .inl gk))]) (st1 := [.int (nI (plc 0 x y)), .ref ke, .int (gs (y * 64 + x))]) hF (c_X7_place l D cs tt 0 x y (by decide)) gX7_error_X7_place rfl (n := 3) (by decide +kernel) rfl ⟨⟨rfl, rfl⟩, Nat.le_of_ble_eq_true rfl, Nat.le_of_ble_eq_true rfl⟩ ⟨Nat.le_of_ble_eq_true rfl, Nat.le_of_ble_eq_true rfl⟩ hX hP hD hS [] (by decide) rfl [] rfl rfl hl.1 rfl (Nat.le_of_ble_eq_true rfl) dX7_error_78 rfl rfl (fun Hp locs hP hD hS => ?_)
              refine xrwi (z := nI (y * 64 + x)) (by unfold plc; rw [if_pos rfl]; exact congrArg nI (by omega)) ?_
              refine xald (k := y * 64 + x) hF hX hP 2 rfl (nI_clamp (by omega)) (vp_in_nI (by omega) (by decide)) dX7_error_81 ?_
              refine lv_isub hx hb dX7_error_82 ?_
              refine xrwi (z := ((row64 gs (16 * W)) (n + x) - (row64 gk (16 * W)) (n + x))) (by rw [hn9, row_n gs hxl, row_n gk hxl]) ?_
              refine lv_i2f hx hb dX7_error_83 ?_
              refine lv_fstore (lv' := [(4, .float (FP.i2f ((row64 gs (16 * W)) (n + x) - (row64 gk (16 * W)) (n + x)))), (0, .ref o), (1, .float (msq (row64 gs (16 * W)) (row64 gk (16 * W)) (n + x))), (2, .int (nI y)), (3, .int (nI x))]) hx hb dX7_error_84 hl (by decide) rfl (fun ls hl => ?_)
              refine lv_fload_n hx hb dX7_error_86 rfl (lv_at hl 2 rfl) ?_
              refine lv_fload hx hb dX7_error_87 (lv_at hl 0 rfl) ?_
              refine lv_fload hx hb dX7_error_89 (lv_at hl 0 rfl) ?_
              refine lv_fmul hx hb dX7_error_91 (hm _ hj) ?_
              refine lv_fadd hx hb dX7_error_92 (ha _ hj) ?_
              refine lv_fstore_n (lv' := [(1, .float (FP.fadd (msq (row64 gs (16 * W)) (row64 gk (16 * W)) (n + x)) (FP.fmul (FP.i2f ((row64 gs (16 * W)) (n + x) - (row64 gk (16 * W)) (n + x))) (FP.i2f ((row64 gs (16 * W)) (n + x) - (row64 gk (16 * W)) (n + x)))))), (4, .float (FP.i2f ((row64 gs (16 * W)) (n + x) - (row64 gk (16 * W)) (n + x)))), (0, .ref o), (2, .int (nI y)), (3, .int (nI x))]) hx hb dX7_error_93 rfl hl (by decide) rfl (fun ls hl => ?_)
              refine lv_iinc (v := (nI (x + 1))) (lv' := [(3, .int (nI (x + 1))), (1, .float (FP.fadd (msq (row64 gs (16 * W)) (row64 gk (16 * W)) (n + x)) (FP.fmul (FP.i2f ((row64 gs (16 * W)) (n + x) - (row64 gk (16 * W)) (n + x))) (FP.i2f ((row64 gs (16 * W)) (n + x) - (row64 gk (16 * W)) (n + x)))))), (4, .float (FP.i2f ((row64 gs (16 * W)) (n + x) - (row64 gk (16 * W)) (n + x)))), (0, .ref o), (2, .int (nI y))]) hx hb dX7_error_94 hl (k := 4) rfl (nI_1 x) (by decide) rfl (fun ls hl => ?_)
              refine lv_goto (tgt := 49) hx hb dX7_error_97 (by decide) ?_
              exact ih_49 (x + 1) (by omega) (by omega) _ _ _ hP hD hS (lv_sub hl [3, 1, 4, 0] rfl)
        exact loop_49 (16 * W - 0 + 1) 0 (Nat.lt_succ_self _) (Nat.zero_le _) _ _ _ hP hD hS (lv_sub hl [1, 2, 3, 0] rfl)
  exact loop_36 (16 * H - 0 + 1) 0 0 (Nat.lt_succ_self _) (Nat.zero_le _) ((Nat.zero_mul _).symm) _ _ _ hP hD hS (lv_sub hl [2, 1, 0] rfl)
