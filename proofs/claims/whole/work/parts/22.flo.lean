
/-! ===== colours ===== -/
def mixF (lt p q : UInt32) : Int32 := 65536 * bnd (FP.f2i (FP.fadd (FP.fadd lt (FP.fmul 1068725436 q)) 1056964608)) 0 255 + 256 * bnd (FP.f2i (FP.fadd (FP.fsub (FP.fsub lt (FP.fmul 1051734680 p)) (FP.fmul 1060557214 q)) 1056964608)) 0 255 + bnd (FP.f2i (FP.fadd (FP.fadd lt (FP.fmul 1071829221 p)) 1056964608)) 0 255
/-- no step of it is a NaN -/
def mixN (lt p q : UInt32) : Prop := (vf_n32 (FP.fmul 1068725436 q) ∧ vf_n32 (FP.fadd lt (FP.fmul 1068725436 q)) ∧ vf_n32 (FP.fadd (FP.fadd lt (FP.fmul 1068725436 q)) 1056964608)) ∧ (vf_n32 (FP.fmul 1051734680 p) ∧ vf_n32 (FP.fsub lt (FP.fmul 1051734680 p)) ∧ vf_n32 (FP.fmul 1060557214 q) ∧ vf_n32 (FP.fsub (FP.fsub lt (FP.fmul 1051734680 p)) (FP.fmul 1060557214 q)) ∧ vf_n32 (FP.fadd (FP.fsub (FP.fsub lt (FP.fmul 1051734680 p)) (FP.fmul 1060557214 q)) 1056964608)) ∧ (vf_n32 (FP.fmul 1071829221 p) ∧ vf_n32 (FP.fadd lt (FP.fmul 1071829221 p)) ∧ vf_n32 (FP.fadd (FP.fadd lt (FP.fmul 1071829221 p)) 1056964608))
/-- row by row, of rows of n in rows of 64 -/
def row64 (g : Nat → Int32) (n : Nat) : Nat → Int32 := fun j => g (j / n * 64 + j % n)
def litV (g : Nat → Int32) (ga ofs : UInt32) : Nat → Nat → Int32 := fun x y => bnd (FP.f2i (FP.fadd (FP.fmul ga (FP.i2f (g (y * 64 + x)))) ofs)) 0 255
theorem lit_s (g : Nat → Int32) (ga ofs : UInt32) {n x y : Nat} (hx : x < n) (hn : n ≤ 64) {v : Int32} (hv : v = litV g ga ofs x y) : upd (blkTo g 0 64 0 0 n (y * n + x) (litV g ga ofs)) (y * 64 + x) v = blkTo g 0 64 0 0 n (y * n + (x + 1)) (litV g ga ofs) := by
  subst hv
  have h := blkTo_s g (off := 0) (W := 64) (L := 0) (T := 0) (bw := n) (litV g ga ofs) (x := x) (y := y) (by omega) (by omega) (by omega) (by omega)
  simp only [Nat.sub_zero, Nat.zero_add] at h
  exact h
theorem lit_at (g : Nat → Int32) (ga ofs : UInt32) {n x y : Nat} (hx : x < 64) : blkTo g 0 64 0 0 n (y * n + x) (litV g ga ofs) (y * 64 + x) = g (y * 64 + x) := by
  have h := blkTo_at g (off := 0) (W := 64) (L := 0) (T := 0) (bw := n) (n := y * n + x) (litV g ga ofs) (x := x) (y := y) hx (by simp)
  simp only [Nat.zero_add] at h
  exact h
theorem row_n (g : Nat → Int32) {n x y : Nat} (hx : x < n) : row64 g n (y * n + x) = g (y * 64 + x) := by
  unfold row64
  rw [(blk_md (y := y) hx).1, (blk_md (y := y) hx).2]
def cmL (x y : UInt32) : Int32 := Op.cmpValue (FP.fcmp x y) .l
def cmG (x y : UInt32) : Int32 := Op.cmpValue (FP.fcmp x y) .g
def gud (ga ofs : UInt32) : Int32 := if cmL ga 3296329728 < 0 then 0 else if 0 < cmG ga 1148846080 then 0 else if cmL ofs 3351465984 < 0 then 0 else if 0 < cmG ofs 1203982336 then 0 else 1
def tLit (gd is : Int32) : Int32 := if gd = 0 then 1 else if is = 0 then 2 else 0
def tErr (is ik : Int32) : Int32 := if is = 0 then 1 else if ik = 0 then 1 else 0

set_option maxHeartbeats 4000000 in
set_option maxRecDepth 100000 in
theorem c_X3_tone (l : Launch) (D : va_G) (cs : Nat → ClassId) (tt : Nat → Nat) (v : UInt32) (hn : vf_n32 (FP.fadd v 1056964608)) : xM l yX3_tone wsX3_tone ({ frames := 1, cells := 0, slots := 0, locals := 22 } : Room) D cs tt [.float v] [] (some (.int (bnd (FP.f2i (FP.fadd v 1056964608)) 0 255))) [] := by
  refine xM.of RX3 rfl (by decide) rfl (Nat.le_of_ble_eq_true rfl) ?_
  intro p e s m below meth c A ls hF hr hlk hX hP hD hS hl
  have hx := hF.1
  have hb := hF.2.1
  have hl : lv_has ls 1 [(0, .float v)] := hl
  refine lv_fload_n hx hb dX3_tone_0 rfl (lv_at hl 0 rfl) ?_
  refine lv_ldcf (own := RX3) (v := 1056964608) hx hb hF.2.2.2.1 (hF.2.2.2.2 _ (by decide +kernel)) dX3_tone_1 ?_
  refine lv_fadd hx hb dX3_tone_3 (hn) ?_
  refine lv_f2i hx hb dX3_tone_4 ?_
  refine lv_iconst (v := 0) hx hb dX3_tone_5 (by decide) ?_
  refine lv_sipush (v := 255) hx hb dX3_tone_6 (by decide) ?_
  refine xSN (host := RX6) (rest := []) (As := [.int (FP.f2i (FP.fadd v 1056964608)), .int 0, .int 255]) (ws1 := []) (st1 := [.int (bnd (FP.f2i (FP.fadd v 1056964608)) 0 255)]) hF (c_X6_bounded l D cs tt (FP.f2i (FP.fadd v 1056964608)) 0 255) gX3_tone_X6_bounded_n46 rfl (by decide +kernel) (by decide +kernel) (by decide +kernel) (n := 3) (by decide +kernel) rfl ⟨⟨rfl, rfl⟩, Nat.le_of_ble_eq_true rfl, Nat.le_of_ble_eq_true rfl⟩ ⟨Nat.le_of_ble_eq_true rfl, Nat.le_of_ble_eq_true rfl⟩ hX hP hD hS [] (by decide) rfl [] rfl rfl hl.1 rfl (Nat.le_of_ble_eq_true rfl) dX3_tone_9 rfl rfl (fun Hp locs hP hD hS => ?_)
  exact xri (Q9 := fun _ _ _ _ => True) hF hr hlk hP hD hS dX3_tone_12

set_option maxHeartbeats 4000000 in
set_option maxRecDepth 100000 in
theorem c_X3_mixed (l : Launch) (D : va_G) (cs : Nat → ClassId) (tt : Nat → Nat) (o pa p0 p1 p2 a0 a1 a2 W H : Nat) (g0 g1 g2 : Nat → Int32) (x y : Int32) (hw : 1 ≤ W) (hw4 : W ≤ 4) (hh : 1 ≤ H) (hh3 : H ≤ 3) (hN : mixN (FP.i2f (pxl g0 (16 * W) (cl x (16 * W)) (cl y (16 * H)))) (FP.i2f ((pxl g1 (8 * W) (cl (x / 2) (8 * W)) (cl (y / 2) (8 * H))) - 128)) (FP.i2f ((pxl g2 (8 * W) (cl (x / 2) (8 * W)) (cl (y / 2) (8 * H))) - 128))) : xM l yX3_mixed wsX3_mixed ({ frames := 2, cells := 0, slots := 0, locals := 44 } : Room) D cs tt [.ref o, .int x, .int y] [(o, .inr (3, [.ref pa])), (pa, .inl (cs 2, 3, .inr (.inr (.inr (.inr (tri p0 p1 p2)))))), (p0, .inr (4, [.int (nI 16), .ref a0, .int (nI (16 * W)), .int (nI (16 * H))])), (a0, .inl (cs 0, 3072, .inl g0)), (p1, .inr (4, [.int (nI 8), .ref a1, .int (nI (8 * W)), .int (nI (8 * H))])), (a1, .inl (cs 0, 768, .inl g1)), (p2, .inr (4, [.int (nI 8), .ref a2, .int (nI (8 * W)), .int (nI (8 * H))])), (a2, .inl (cs 0, 768, .inl g2))] (some (.int (mixF (FP.i2f (pxl g0 (16 * W) (cl x (16 * W)) (cl y (16 * H)))) (FP.i2f ((pxl g1 (8 * W) (cl (x / 2) (8 * W)) (cl (y / 2) (8 * H))) - 128)) (FP.i2f ((pxl g2 (8 * W) (cl (x / 2) (8 * W)) (cl (y / 2) (8 * H))) - 128))))) [(o, .inr (3, [.ref pa])), (pa, .inl (cs 2, 3, .inr (.inr (.inr (.inr (tri p0 p1 p2)))))), (p0, .inr (4, [.int (nI 16), .ref a0, .int (nI (16 * W)), .int (nI (16 * H))])), (a0, .inl (cs 0, 3072, .inl g0)), (p1, .inr (4, [.int (nI 8), .ref a1, .int (nI (8 * W)), .int (nI (8 * H))])), (a1, .inl (cs 0, 768, .inl g1)), (p2, .inr (4, [.int (nI 8), .ref a2, .int (nI (8 * W)), .int (nI (8 * H))])), (a2, .inl (cs 0, 768, .inl g2))] := by
  refine xM.of RX3 rfl (by decide) rfl (Nat.le_of_ble_eq_true rfl) ?_
  intro p e s m below meth c A ls hF hr hlk hX hP hD hS hl
  have hx := hF.1
  have hb := hF.2.1
  have hl : lv_has ls 9 [(0, .ref o), (1, .int x), (2, .int y)] := hl
  refine lv_aload_n hx hb dX3_mixed_0 rfl (lv_at hl 0 rfl) ?_
  refine xget (C := RX3) (T := TX3) (N := 1) hF hX hP (by decide +kernel) 0 0 rfl rfl (by decide) (by decide +kernel) rfl dX3_mixed_1 ?_
  refine lv_iconst (v := 0) hx hb dX3_mixed_4 (by decide) ?_
  refine xaald (k := 0) (v := p0) hF hX hP 1 rfl (rfl) (vp_in_nI (n := 0) (by decide) (by decide)) (rfl) dX3_mixed_5 ?_
  refine lv_iload_n hx hb dX3_mixed_6 rfl (lv_at hl 1 rfl) ?_
  refine lv_iload_n hx hb dX3_mixed_7 rfl (lv_at hl 2 rfl) ?_
  refine xVM [false, false, true, true, false, false, false, false] (rest := []) (As := [.int x, .int y]) (ws1 := [(o, .inr (3, [.ref pa])), (pa, .inl (cs 2, 3, .inr (.inr (.inr (.inr (tri p0 p1 p2)))))), (p0, .inr (4, [.int (nI 16), .ref a0, .int (nI (16 * W)), .int (nI (16 * H))])), (a0, .inl (cs 0, 3072, .inl g0)), (p1, .inr (4, [.int (nI 8), .ref a1, .int (nI (8 * W)), .int (nI (8 * H))])), (a1, .inl (cs 0, 768, .inl g1)), (p2, .inr (4, [.int (nI 8), .ref a2, .int (nI (8 * W)), .int (nI (8 * H))])), (a2, .inl (cs 0, 768, .inl g2))]) (st1 := [.int (pxl g0 (16 * W) (cl x (16 * W)) (cl y (16 * H)))]) hF (c_X4_nearest l D cs tt p0 a0 16 (16 * W) (16 * H) 3072 g0 x y (dim16 hw hw4 hh hh3)) gX3_mixed_X4_nearest rfl (n := 2) (by decide +kernel) rfl ⟨⟨rfl, rfl⟩, Nat.le_of_ble_eq_true rfl, Nat.le_of_ble_eq_true rfl⟩ ⟨Nat.le_of_ble_eq_true rfl, Nat.le_of_ble_eq_true rfl⟩ hX hP hD hS rfl [p0, a0] rfl rfl (q0 := 2) (ci := 4) rfl rfl rfl hl.1 rfl (Nat.le_of_ble_eq_true rfl) dX3_mixed_8 rfl rfl (fun Hp locs hP hD hS => ?_)
  refine lv_i2f hx hb dX3_mixed_11 ?_
  refine lv_fstore_n (lv' := [(3, .float (FP.i2f (pxl g0 (16 * W) (cl x (16 * W)) (cl y (16 * H))))), (0, .ref o), (1, .int x), (2, .int y)]) hx hb dX3_mixed_12 rfl hl (by decide) rfl (fun ls hl => ?_)
  refine lv_aload_n hx hb dX3_mixed_13 rfl (lv_at hl 1 rfl) ?_
  refine xget (C := RX3) (T := TX3) (N := 1) hF hX hP (by decide +kernel) 0 0 rfl rfl (by decide) (by decide +kernel) rfl dX3_mixed_14 ?_
  refine lv_iconst (v := 1) hx hb dX3_mixed_17 (by decide) ?_
  refine xaald (k := 1) (v := p1) hF hX hP 1 rfl (rfl) (vp_in_nI (n := 1) (by decide) (by decide)) (rfl) dX3_mixed_18 ?_
  refine lv_iload_n hx hb dX3_mixed_19 rfl (lv_at hl 2 rfl) ?_
  refine lv_iconst (v := 2) hx hb dX3_mixed_20 (by decide) ?_
  refine lv_idiv hx hb dX3_mixed_21 (by decide) ?_
  refine lv_iload_n hx hb dX3_mixed_22 rfl (lv_at hl 3 rfl) ?_
  refine lv_iconst (v := 2) hx hb dX3_mixed_23 (by decide) ?_
  refine lv_idiv hx hb dX3_mixed_24 (by decide) ?_
  refine xVM [false, false, false, false, true, true, false, false] (rest := []) (As := [.int (x / 2), .int (y / 2)]) (ws1 := [(o, .inr (3, [.ref pa])), (pa, .inl (cs 2, 3, .inr (.inr (.inr (.inr (tri p0 p1 p2)))))), (p0, .inr (4, [.int (nI 16), .ref a0, .int (nI (16 * W)), .int (nI (16 * H))])), (a0, .inl (cs 0, 3072, .inl g0)), (p1, .inr (4, [.int (nI 8), .ref a1, .int (nI (8 * W)), .int (nI (8 * H))])), (a1, .inl (cs 0, 768, .inl g1)), (p2, .inr (4, [.int (nI 8), .ref a2, .int (nI (8 * W)), .int (nI (8 * H))])), (a2, .inl (cs 0, 768, .inl g2))]) (st1 := [.int (pxl g1 (8 * W) (cl (x / 2) (8 * W)) (cl (y / 2) (8 * H)))]) hF (c_X4_nearest l D cs tt p1 a1 8 (8 * W) (8 * H) 768 g1 (x / 2) (y / 2) (dim8 hw hw4 hh hh3)) gX3_mixed_X4_nearest rfl (n := 2) (by decide +kernel) rfl ⟨⟨rfl, rfl⟩, Nat.le_of_ble_eq_true rfl, Nat.le_of_ble_eq_true rfl⟩ ⟨Nat.le_of_ble_eq_true rfl, Nat.le_of_ble_eq_true rfl⟩ hX hP hD hS rfl [p1, a1] rfl rfl (q0 := 4) (ci := 4) rfl rfl rfl hl.1 rfl (Nat.le_of_ble_eq_true rfl) dX3_mixed_25 rfl rfl (fun Hp locs hP hD hS => ?_)
  refine lv_sipush (v := 128) hx hb dX3_mixed_28 (by decide) ?_
  refine lv_isub hx hb dX3_mixed_31 ?_
  refine lv_i2f hx hb dX3_mixed_32 ?_
  refine lv_fstore (lv' := [(4, .float (FP.i2f ((pxl g1 (8 * W) (cl (x / 2) (8 * W)) (cl (y / 2) (8 * H))) - 128))), (3, .float (FP.i2f (pxl g0 (16 * W) (cl x (16 * W)) (cl y (16 * H))))), (0, .ref o), (1, .int x), (2, .int y)]) hx hb dX3_mixed_33 hl (by decide) rfl (fun ls hl => ?_)
  refine lv_aload_n hx hb dX3_mixed_35 rfl (lv_at hl 2 rfl) ?_
  refine xget (C := RX3) (T := TX3) (N := 1) hF hX hP (by decide +kernel) 0 0 rfl rfl (by decide) (by decide +kernel) rfl dX3_mixed_36 ?_
  refine lv_iconst (v := 2) hx hb dX3_mixed_39 (by decide) ?_
  refine xaald (k := 2) (v := p2) hF hX hP 1 rfl (rfl) (vp_in_nI (n := 2) (by decide) (by decide)) (rfl) dX3_mixed_40 ?_
  refine lv_iload_n hx hb dX3_mixed_41 rfl (lv_at hl 3 rfl) ?_
  refine lv_iconst (v := 2) hx hb dX3_mixed_42 (by decide) ?_
  refine lv_idiv hx hb dX3_mixed_43 (by decide) ?_
  refine lv_iload_n hx hb dX3_mixed_44 rfl (lv_at hl 4 rfl) ?_
  refine lv_iconst (v := 2) hx hb dX3_mixed_45 (by decide) ?_
  refine lv_idiv hx hb dX3_mixed_46 (by decide) ?_
  refine xVM [false, false, false, false, false, false, true, true] (rest := []) (As := [.int (x / 2), .int (y / 2)]) (ws1 := [(o, .inr (3, [.ref pa])), (pa, .inl (cs 2, 3, .inr (.inr (.inr (.inr (tri p0 p1 p2)))))), (p0, .inr (4, [.int (nI 16), .ref a0, .int (nI (16 * W)), .int (nI (16 * H))])), (a0, .inl (cs 0, 3072, .inl g0)), (p1, .inr (4, [.int (nI 8), .ref a1, .int (nI (8 * W)), .int (nI (8 * H))])), (a1, .inl (cs 0, 768, .inl g1)), (p2, .inr (4, [.int (nI 8), .ref a2, .int (nI (8 * W)), .int (nI (8 * H))])), (a2, .inl (cs 0, 768, .inl g2))]) (st1 := [.int (pxl g2 (8 * W) (cl (x / 2) (8 * W)) (cl (y / 2) (8 * H)))]) hF (c_X4_nearest l D cs tt p2 a2 8 (8 * W) (8 * H) 768 g2 (x / 2) (y / 2) (dim8 hw hw4 hh hh3)) gX3_mixed_X4_nearest rfl (n := 2) (by decide +kernel) rfl ⟨⟨rfl, rfl⟩, Nat.le_of_ble_eq_true rfl, Nat.le_of_ble_eq_true rfl⟩ ⟨Nat.le_of_ble_eq_true rfl, Nat.le_of_ble_eq_true rfl⟩ hX hP hD hS rfl [p2, a2] rfl rfl (q0 := 6) (ci := 4) rfl rfl rfl hl.1 rfl (Nat.le_of_ble_eq_true rfl) dX3_mixed_47 rfl rfl (fun Hp locs hP hD hS => ?_)
  refine lv_sipush (v := 128) hx hb dX3_mixed_50 (by decide) ?_
  refine lv_isub hx hb dX3_mixed_53 ?_
  refine lv_i2f hx hb dX3_mixed_54 ?_
  refine lv_fstore (lv' := [(5, .float (FP.i2f ((pxl g2 (8 * W) (cl (x / 2) (8 * W)) (cl (y / 2) (8 * H))) - 128))), (4, .float (FP.i2f ((pxl g1 (8 * W) (cl (x / 2) (8 * W)) (cl (y / 2) (8 * H))) - 128))), (3, .float (FP.i2f (pxl g0 (16 * W) (cl x (16 * W)) (cl y (16 * H))))), (0, .ref o), (1, .int x), (2, .int y)]) hx hb dX3_mixed_55 hl (by decide) rfl (fun ls hl => ?_)
  refine lv_fload_n hx hb dX3_mixed_57 rfl (lv_at hl 2 rfl) ?_
  refine lv_ldcf (own := RX3) (v := 1068725436) hx hb hF.2.2.2.1 (hF.2.2.2.2 _ (by decide +kernel)) dX3_mixed_58 ?_
  refine lv_fload hx hb dX3_mixed_60 (lv_at hl 0 rfl) ?_
  refine lv_fmul hx hb dX3_mixed_62 (hN.1.1) ?_
  refine lv_fadd hx hb dX3_mixed_63 (hN.1.2.1) ?_
  refine xSt (rest := []) (As := [.float (FP.fadd (FP.i2f (pxl g0 (16 * W) (cl x (16 * W)) (cl y (16 * H)))) (FP.fmul 1068725436 (FP.i2f ((pxl g2 (8 * W) (cl (x / 2) (8 * W)) (cl (y / 2) (8 * H))) - 128))))]) (ws1 := [(o, .inr (3, [.ref pa])), (pa, .inl (cs 2, 3, .inr (.inr (.inr (.inr (tri p0 p1 p2)))))), (p0, .inr (4, [.int (nI 16), .ref a0, .int (nI (16 * W)), .int (nI (16 * H))])), (a0, .inl (cs 0, 3072, .inl g0)), (p1, .inr (4, [.int (nI 8), .ref a1, .int (nI (8 * W)), .int (nI (8 * H))])), (a1, .inl (cs 0, 768, .inl g1)), (p2, .inr (4, [.int (nI 8), .ref a2, .int (nI (8 * W)), .int (nI (8 * H))])), (a2, .inl (cs 0, 768, .inl g2))]) (st1 := [.int (bnd (FP.f2i (FP.fadd (FP.fadd (FP.i2f (pxl g0 (16 * W) (cl x (16 * W)) (cl y (16 * H)))) (FP.fmul 1068725436 (FP.i2f ((pxl g2 (8 * W) (cl (x / 2) (8 * W)) (cl (y / 2) (8 * H))) - 128)))) 1056964608)) 0 255)]) hF (c_X3_tone l D cs tt (FP.fadd (FP.i2f (pxl g0 (16 * W) (cl x (16 * W)) (cl y (16 * H)))) (FP.fmul 1068725436 (FP.i2f ((pxl g2 (8 * W) (cl (x / 2) (8 * W)) (cl (y / 2) (8 * H))) - 128)))) hN.1.2.2) gX3_mixed_X3_tone rfl (n := 1) (by decide +kernel) rfl ⟨⟨rfl, rfl⟩, Nat.le_of_ble_eq_true rfl, Nat.le_of_ble_eq_true rfl⟩ ⟨Nat.le_of_ble_eq_true rfl, Nat.le_of_ble_eq_true rfl⟩ hX hP hD hS [] (by decide) rfl [] rfl rfl hl.1 rfl (Nat.le_of_ble_eq_true rfl) dX3_mixed_64 rfl rfl (fun Hp locs hP hD hS => ?_)
  refine lv_istore (lv' := [(6, .int (bnd (FP.f2i (FP.fadd (FP.fadd (FP.i2f (pxl g0 (16 * W) (cl x (16 * W)) (cl y (16 * H)))) (FP.fmul 1068725436 (FP.i2f ((pxl g2 (8 * W) (cl (x / 2) (8 * W)) (cl (y / 2) (8 * H))) - 128)))) 1056964608)) 0 255)), (5, .float (FP.i2f ((pxl g2 (8 * W) (cl (x / 2) (8 * W)) (cl (y / 2) (8 * H))) - 128))), (4, .float (FP.i2f ((pxl g1 (8 * W) (cl (x / 2) (8 * W)) (cl (y / 2) (8 * H))) - 128))), (3, .float (FP.i2f (pxl g0 (16 * W) (cl x (16 * W)) (cl y (16 * H))))), (0, .ref o), (1, .int x), (2, .int y)]) hx hb dX3_mixed_67 hl (by decide) rfl (fun ls hl => ?_)
  refine lv_fload_n hx hb dX3_mixed_69 rfl (lv_at hl 3 rfl) ?_
  refine lv_ldcf (own := RX3) (v := 1051734680) hx hb hF.2.2.2.1 (hF.2.2.2.2 _ (by decide +kernel)) dX3_mixed_70 ?_
  refine lv_fload hx hb dX3_mixed_72 (lv_at hl 2 rfl) ?_
  refine lv_fmul hx hb dX3_mixed_74 (hN.2.1.1) ?_
  refine lv_fsub hx hb dX3_mixed_75 (hN.2.1.2.1) ?_
  refine lv_ldcf (own := RX3) (v := 1060557214) hx hb hF.2.2.2.1 (hF.2.2.2.2 _ (by decide +kernel)) dX3_mixed_76 ?_
  refine lv_fload hx hb dX3_mixed_78 (lv_at hl 1 rfl) ?_
  refine lv_fmul hx hb dX3_mixed_80 (hN.2.1.2.2.1) ?_
  refine lv_fsub hx hb dX3_mixed_81 (hN.2.1.2.2.2.1) ?_
  refine xSt (rest := []) (As := [.float (FP.fsub (FP.fsub (FP.i2f (pxl g0 (16 * W) (cl x (16 * W)) (cl y (16 * H)))) (FP.fmul 1051734680 (FP.i2f ((pxl g1 (8 * W) (cl (x / 2) (8 * W)) (cl (y / 2) (8 * H))) - 128)))) (FP.fmul 1060557214 (FP.i2f ((pxl g2 (8 * W) (cl (x / 2) (8 * W)) (cl (y / 2) (8 * H))) - 128))))]) (ws1 := [(o, .inr (3, [.ref pa])), (pa, .inl (cs 2, 3, .inr (.inr (.inr (.inr (tri p0 p1 p2)))))), (p0, .inr (4, [.int (nI 16), .ref a0, .int (nI (16 * W)), .int (nI (16 * H))])), (a0, .inl (cs 0, 3072, .inl g0)), (p1, .inr (4, [.int (nI 8), .ref a1, .int (nI (8 * W)), .int (nI (8 * H))])), (a1, .inl (cs 0, 768, .inl g1)), (p2, .inr (4, [.int (nI 8), .ref a2, .int (nI (8 * W)), .int (nI (8 * H))])), (a2, .inl (cs 0, 768, .inl g2))]) (st1 := [.int (bnd (FP.f2i (FP.fadd (FP.fsub (FP.fsub (FP.i2f (pxl g0 (16 * W) (cl x (16 * W)) (cl y (16 * H)))) (FP.fmul 1051734680 (FP.i2f ((pxl g1 (8 * W) (cl (x / 2) (8 * W)) (cl (y / 2) (8 * H))) - 128)))) (FP.fmul 1060557214 (FP.i2f ((pxl g2 (8 * W) (cl (x / 2) (8 * W)) (cl (y / 2) (8 * H))) - 128)))) 1056964608)) 0 255)]) hF (c_X3_tone l D cs tt (FP.fsub (FP.fsub (FP.i2f (pxl g0 (16 * W) (cl x (16 * W)) (cl y (16 * H)))) (FP.fmul 1051734680 (FP.i2f ((pxl g1 (8 * W) (cl (x / 2) (8 * W)) (cl (y / 2) (8 * H))) - 128)))) (FP.fmul 1060557214 (FP.i2f ((pxl g2 (8 * W) (cl (x / 2) (8 * W)) (cl (y / 2) (8 * H))) - 128)))) hN.2.1.2.2.2.2) gX3_mixed_X3_tone rfl (n := 1) (by decide +kernel) rfl ⟨⟨rfl, rfl⟩, Nat.le_of_ble_eq_true rfl, Nat.le_of_ble_eq_true rfl⟩ ⟨Nat.le_of_ble_eq_true rfl, Nat.le_of_ble_eq_true rfl⟩ hX hP hD hS [] (by decide) rfl [] rfl rfl hl.1 rfl (Nat.le_of_ble_eq_true rfl) dX3_mixed_82 rfl rfl (fun Hp locs hP hD hS => ?_)
  refine lv_istore (lv' := [(7, .int (bnd (FP.f2i (FP.fadd (FP.fsub (FP.fsub (FP.i2f (pxl g0 (16 * W) (cl x (16 * W)) (cl y (16 * H)))) (FP.fmul 1051734680 (FP.i2f ((pxl g1 (8 * W) (cl (x / 2) (8 * W)) (cl (y / 2) (8 * H))) - 128)))) (FP.fmul 1060557214 (FP.i2f ((pxl g2 (8 * W) (cl (x / 2) (8 * W)) (cl (y / 2) (8 * H))) - 128)))) 1056964608)) 0 255)), (6, .int (bnd (FP.f2i (FP.fadd (FP.fadd (FP.i2f (pxl g0 (16 * W) (cl x (16 * W)) (cl y (16 * H)))) (FP.fmul 1068725436 (FP.i2f ((pxl g2 (8 * W) (cl (x / 2) (8 * W)) (cl (y / 2) (8 * H))) - 128)))) 1056964608)) 0 255)), (5, .float (FP.i2f ((pxl g2 (8 * W) (cl (x / 2) (8 * W)) (cl (y / 2) (8 * H))) - 128))), (4, .float (FP.i2f ((pxl g1 (8 * W) (cl (x / 2) (8 * W)) (cl (y / 2) (8 * H))) - 128))), (3, .float (FP.i2f (pxl g0 (16 * W) (cl x (16 * W)) (cl y (16 * H))))), (0, .ref o), (1, .int x), (2, .int y)]) hx hb dX3_mixed_85 hl (by decide) rfl (fun ls hl => ?_)
  refine lv_fload_n hx hb dX3_mixed_87 rfl (lv_at hl 4 rfl) ?_
  refine lv_ldcf (own := RX3) (v := 1071829221) hx hb hF.2.2.2.1 (hF.2.2.2.2 _ (by decide +kernel)) dX3_mixed_88 ?_
  refine lv_fload hx hb dX3_mixed_90 (lv_at hl 3 rfl) ?_
  refine lv_fmul hx hb dX3_mixed_92 (hN.2.2.1) ?_
  refine lv_fadd hx hb dX3_mixed_93 (hN.2.2.2.1) ?_
  refine xSt (rest := []) (As := [.float (FP.fadd (FP.i2f (pxl g0 (16 * W) (cl x (16 * W)) (cl y (16 * H)))) (FP.fmul 1071829221 (FP.i2f ((pxl g1 (8 * W) (cl (x / 2) (8 * W)) (cl (y / 2) (8 * H))) - 128))))]) (ws1 := [(o, .inr (3, [.ref pa])), (pa, .inl (cs 2, 3, .inr (.inr (.inr (.inr (tri p0 p1 p2)))))), (p0, .inr (4, [.int (nI 16), .ref a0, .int (nI (16 * W)), .int (nI (16 * H))])), (a0, .inl (cs 0, 3072, .inl g0)), (p1, .inr (4, [.int (nI 8), .ref a1, .int (nI (8 * W)), .int (nI (8 * H))])), (a1, .inl (cs 0, 768, .inl g1)), (p2, .inr (4, [.int (nI 8), .ref a2, .int (nI (8 * W)), .int (nI (8 * H))])), (a2, .inl (cs 0, 768, .inl g2))]) (st1 := [.int (bnd (FP.f2i (FP.fadd (FP.fadd (FP.i2f (pxl g0 (16 * W) (cl x (16 * W)) (cl y (16 * H)))) (FP.fmul 1071829221 (FP.i2f ((pxl g1 (8 * W) (cl (x / 2) (8 * W)) (cl (y / 2) (8 * H))) - 128)))) 1056964608)) 0 255)]) hF (c_X3_tone l D cs tt (FP.fadd (FP.i2f (pxl g0 (16 * W) (cl x (16 * W)) (cl y (16 * H)))) (FP.fmul 1071829221 (FP.i2f ((pxl g1 (8 * W) (cl (x / 2) (8 * W)) (cl (y / 2) (8 * H))) - 128)))) hN.2.2.2.2) gX3_mixed_X3_tone rfl (n := 1) (by decide +kernel) rfl ⟨⟨rfl, rfl⟩, Nat.le_of_ble_eq_true rfl, Nat.le_of_ble_eq_true rfl⟩ ⟨Nat.le_of_ble_eq_true rfl, Nat.le_of_ble_eq_true rfl⟩ hX hP hD hS [] (by decide) rfl [] rfl rfl hl.1 rfl (Nat.le_of_ble_eq_true rfl) dX3_mixed_94 rfl rfl (fun Hp locs hP hD hS => ?_)
  refine lv_istore (lv' := [(8, .int (bnd (FP.f2i (FP.fadd (FP.fadd (FP.i2f (pxl g0 (16 * W) (cl x (16 * W)) (cl y (16 * H)))) (FP.fmul 1071829221 (FP.i2f ((pxl g1 (8 * W) (cl (x / 2) (8 * W)) (cl (y / 2) (8 * H))) - 128)))) 1056964608)) 0 255)), (7, .int (bnd (FP.f2i (FP.fadd (FP.fsub (FP.fsub (FP.i2f (pxl g0 (16 * W) (cl x (16 * W)) (cl y (16 * H)))) (FP.fmul 1051734680 (FP.i2f ((pxl g1 (8 * W) (cl (x / 2) (8 * W)) (cl (y / 2) (8 * H))) - 128)))) (FP.fmul 1060557214 (FP.i2f ((pxl g2 (8 * W) (cl (x / 2) (8 * W)) (cl (y / 2) (8 * H))) - 128)))) 1056964608)) 0 255)), (6, .int (bnd (FP.f2i (FP.fadd (FP.fadd (FP.i2f (pxl g0 (16 * W) (cl x (16 * W)) (cl y (16 * H)))) (FP.fmul 1068725436 (FP.i2f ((pxl g2 (8 * W) (cl (x / 2) (8 * W)) (cl (y / 2) (8 * H))) - 128)))) 1056964608)) 0 255)), (5, .float (FP.i2f ((pxl g2 (8 * W) (cl (x / 2) (8 * W)) (cl (y / 2) (8 * H))) - 128))), (4, .float (FP.i2f ((pxl g1 (8 * W) (cl (x / 2) (8 * W)) (cl (y / 2) (8 * H))) - 128))), (3, .float (FP.i2f (pxl g0 (16 * W) (cl x (16 * W)) (cl y (16 * H))))), (0, .ref o), (1, .int x), (2, .int y)]) hx hb dX3_mixed_97 hl (by decide) rfl (fun ls hl => ?_)
  refine lv_ldc (own := RX3) (v := 65536) hx hb hF.2.2.2.1 (hF.2.2.2.2 _ (by decide +kernel)) dX3_mixed_99 ?_
  refine lv_iload hx hb dX3_mixed_101 (lv_at hl 2 rfl) ?_
  refine lv_imul hx hb dX3_mixed_103 ?_
  refine lv_sipush (v := 256) hx hb dX3_mixed_104 (by decide) ?_
  refine lv_iload hx hb dX3_mixed_107 (lv_at hl 1 rfl) ?_
  refine lv_imul hx hb dX3_mixed_109 ?_
  refine lv_iadd hx hb dX3_mixed_110 ?_
  refine lv_iload hx hb dX3_mixed_111 (lv_at hl 0 rfl) ?_
  refine lv_iadd hx hb dX3_mixed_113 ?_
  exact xri (Q9 := fun _ _ _ _ => True) hF hr hlk hP hD hS dX3_mixed_114

set_option maxHeartbeats 4000000 in
set_option maxRecDepth 100000 in
theorem c_X7_colour_bad (l : Launch) (D : va_G) (cs : Nat → ClassId) (tt : Nat → Nat) (o mt qu zz nw ol ne se ke re ve ps di lv bd co bt ma W H md : Nat) (th nc ns is ik dc sc kd wh fa ow tl bf bo : Int32) (x y : Int32) (ht : (tSmp is (the x y 0 W H)) = 1 ∨ (tSmp is (the x y 0 W H)) = 2) : xM l yX7_colour wsX7_colour ({ frames := 1, cells := 0, slots := 0, locals := 21 } : Room) D cs tt [.ref o, .int x, .int y] [(o, .inr (7, mdF th W H mt qu zz nw ol ne se ke nc ns is ik dc sc kd md wh fa re ve ps ow tl di lv bf bo bd co bt ma))] (some (.int 0)) [(o, .inr (7, mdF (tSmp is (the x y 0 W H)) W H mt qu zz nw ol ne se ke nc ns is ik dc sc kd md wh fa re ve ps ow tl di lv bf bo bd co bt ma))] := by
  refine xM.of RX7 rfl (by decide) rfl (Nat.le_of_ble_eq_true rfl) ?_
  intro p e s m below meth c A ls hF hr hlk hX hP hD hS hl
  have hx := hF.1
  have hb := hF.2.1
  have hl : lv_has ls 10 [(0, .ref o), (1, .int x), (2, .int y)] := hl
  have join_53 : ∀ (Hp : Heap) (locs : List Loc) (ls : Array Slot), va_P D vwCl [(o, .inr (7, mdF th W H mt qu zz nw ol ne se ke nc ns is ik dc sc kd md wh fa re ve ps ow tl di lv bf bo bd co bt ma))] Hp → va_D A [(o, .inr (7, mdF th W H mt qu zz nw ol ne se ke nc ns is ik dc sc kd md wh fa re ve ps ow tl di lv bf bo bd co bt ma))] → va_S A s.heap Hp locs → lv_has ls 10 [(0, .ref o), (1, .int x), (2, .int y)] → xW p l e ({ frames := 1, cells := 0, slots := 0, locals := 21 } : Room) s m ([.ref o, .int x, .int y] : List Value).toArray below meth c Hp locs 0 0 (MQ below (xE D A (some (.int 0)) [(o, .inr (7, mdF (tSmp is (the x y 0 W H)) W H mt qu zz nw ol ne se ke nc ns is ik dc sc kd md wh fa re ve ps ow tl di lv bf bo bd co bt ma))]) ([.ref o, .int x, .int y] : List Value).toArray s 0 0 A) (F0 m 53 ls [.int (tSmp is (the x y 0 W H)), .ref o]) := by
    intro Hp locs ls hP hD hS hl
    refine xputf (C := RX7) (T := TX7) (N := 34) (ws1 := [(o, .inr (7, mdF (tSmp is (the x y 0 W H)) W H mt qu zz nw ol ne se ke nc ns is ik dc sc kd md wh fa re ve ps ow tl di lv bf bo bd co bt ma))]) hF hX hP hD hS (by decide +kernel) tyX7 tyX7_ok nmX7 0 0 rfl rfl (by decide) (by decide +kernel) rfl (rfl) (rfl) (Nat.le_of_ble_eq_true rfl) dX7_colour_53 rfl (fun Hp locs hP hD hS => ?_)
    refine lv_aload_n hx hb dX7_colour_56 rfl (lv_at hl 0 rfl) ?_
    refine xget (C := RX7) (T := TX7) (N := 34) hF hX hP (by decide +kernel) 0 0 rfl rfl (by decide) (by decide +kernel) rfl dX7_colour_57 ?_
    refine lv_if_le (tgt := 65) hx hb dX7_colour_60 (by decide) (fun c_60 => absurd c_60 (by rcases ht with h9 | h9 <;> rw [h9] <;> decide)) (fun _ => ?_)
    refine lv_iconst (v := 0) hx hb dX7_colour_63 (by decide) ?_
    exact xri (Q9 := fun _ _ _ _ => True) hF hr hlk hP hD hS dX7_colour_64
  have join_31 : ∀ (Hp : Heap) (locs : List Loc) (ls : Array Slot), va_P D vwCl [(o, .inr (7, mdF th W H mt qu zz nw ol ne se ke nc ns is ik dc sc kd md wh fa re ve ps ow tl di lv bf bo bd co bt ma))] Hp → va_D A [(o, .inr (7, mdF th W H mt qu zz nw ol ne se ke nc ns is ik dc sc kd md wh fa re ve ps ow tl di lv bf bo bd co bt ma))] → va_S A s.heap Hp locs → lv_has ls 10 [(0, .ref o), (1, .int x), (2, .int y)] → xW p l e ({ frames := 1, cells := 0, slots := 0, locals := 21 } : Room) s m ([.ref o, .int x, .int y] : List Value).toArray below meth c Hp locs 0 0 (MQ below (xE D A (some (.int 0)) [(o, .inr (7, mdF (tSmp is (the x y 0 W H)) W H mt qu zz nw ol ne se ke nc ns is ik dc sc kd md wh fa re ve ps ow tl di lv bf bo bd co bt ma))]) ([.ref o, .int x, .int y] : List Value).toArray s 0 0 A) (F0 m 31 ls [.int (the x y 0 W H)]) := by
    intro Hp locs ls hP hD hS hl
    refine lv_istore_n (lv' := [(3, .int (the x y 0 W H)), (0, .ref o), (1, .int x), (2, .int y)]) hx hb dX7_colour_31 rfl hl (by decide) rfl (fun ls hl => ?_)
    refine lv_aload_n hx hb dX7_colour_32 rfl (lv_at hl 1 rfl) ?_
    refine lv_aload_n hx hb dX7_colour_33 rfl (lv_at hl 1 rfl) ?_
    refine xget (C := RX7) (T := TX7) (N := 34) hF hX hP (by decide +kernel) 0 13 rfl rfl (by decide) (by decide +kernel) rfl dX7_colour_34 ?_
    refine lv_if_ne (tgt := 44) hx hb dX7_colour_37 (by decide) (fun c_37 => ?_) (fun c_37 => ?_)
    · refine lv_iload_n hx hb dX7_colour_44 rfl (lv_at hl 0 rfl) ?_
      refine lv_if_ne (tgt := 52) hx hb dX7_colour_45 (by decide) (fun c_45 => ?_) (fun c_45 => ?_)
      · refine lv_iconst (v := 0) hx hb dX7_colour_52 (by decide) ?_
        refine xrwi (z := (tSmp is (the x y 0 W H))) (by unfold tSmp; rw [if_neg c_37, if_neg c_45]) ?_
        exact join_53   _ _ _ hP hD hS (lv_sub hl [1, 2, 3] rfl)
      · refine lv_iconst (v := 2) hx hb dX7_colour_48 (by decide) ?_
        refine lv_goto (tgt := 53) hx hb dX7_colour_49 (by decide) ?_
        refine xrwi (z := (tSmp is (the x y 0 W H))) (by unfold tSmp; rw [if_neg c_37, if_pos c_45]) ?_
        exact join_53   _ _ _ hP hD hS (lv_sub hl [1, 2, 3] rfl)
    · refine lv_iconst (v := 1) hx hb dX7_colour_40 (by decide) ?_
      refine lv_goto (tgt := 53) hx hb dX7_colour_41 (by decide) ?_
      refine xrwi (z := (tSmp is (the x y 0 W H))) (by unfold tSmp; rw [if_pos c_37]) ?_
      exact join_53   _ _ _ hP hD hS (lv_sub hl [1, 2, 3] rfl)
  refine lv_iload_n hx hb dX7_colour_0 rfl (lv_at hl 1 rfl) ?_
  refine lv_if_lt (tgt := 30) hx hb dX7_colour_1 (by decide) (fun c_1 => ?_) (fun c_1 => ?_)
  · refine lv_iconst (v := 0) hx hb dX7_colour_30 (by decide) ?_
    refine xrwi (z := the x y 0 W H) (by unfold the; rw [if_pos c_1]) ?_
    exact join_31   _ _ _ hP hD hS (lv_sub hl [0, 1, 2] rfl)
  · refine lv_iload_n hx hb dX7_colour_4 rfl (lv_at hl 2 rfl) ?_
    refine lv_if_lt (tgt := 30) hx hb dX7_colour_5 (by decide) (fun c_5 => ?_) (fun c_5 => ?_)
    · refine lv_iconst (v := 0) hx hb dX7_colour_30 (by decide) ?_
      refine xrwi (z := the x y 0 W H) (by unfold the; rw [if_neg c_1, if_pos c_5]) ?_
      exact join_31   _ _ _ hP hD hS (lv_sub hl [0, 1, 2] rfl)
    · refine lv_iload_n hx hb dX7_colour_8 rfl (lv_at hl 1 rfl) ?_
      refine lv_aload_n hx hb dX7_colour_9 rfl (lv_at hl 0 rfl) ?_
      refine lv_iconst (v := 0) hx hb dX7_colour_10 (by decide) ?_
      refine xV (rest := [.int x]) (As := [.int 0]) (ws1 := [(o, .inr (7, mdF th W H mt qu zz nw ol ne se ke nc ns is ik dc sc kd md wh fa re ve ps ow tl di lv bf bo bd co bt ma))]) (st1 := [.int (nI (wdt 0 W)), .int x]) hF (c_X7_wideOf l D cs tt o mt qu zz nw ol ne se ke re ve ps di lv bd co bt ma W H md th nc ns is ik dc sc kd wh fa ow tl bf bo 0 (by decide)) gX7_colour_X7_wideOf rfl (n := 1) (by decide +kernel) rfl ⟨⟨rfl, rfl⟩, Nat.le_of_ble_eq_true rfl, Nat.le_of_ble_eq_true rfl⟩ ⟨Nat.le_of_ble_eq_true rfl, Nat.le_of_ble_eq_true rfl⟩ hX hP hD hS [0] (by decide) rfl [o] rfl rfl (q0 := 0) (ci := 7) rfl rfl rfl hl.1 rfl (Nat.le_of_ble_eq_true rfl) dX7_colour_11 rfl rfl (fun Hp locs hP hD hS => ?_)
      refine lv_icmp_ge (tgt := 30) hx hb dX7_colour_14 (by decide) (fun c_14 => ?_) (fun c_14 => ?_)
      · refine lv_iconst (v := 0) hx hb dX7_colour_30 (by decide) ?_
        refine xrwi (z := the x y 0 W H) (by unfold the; rw [if_neg c_1, if_neg c_5, if_pos c_14]) ?_
        exact join_31   _ _ _ hP hD hS (lv_sub hl [0, 1, 2] rfl)
      · refine lv_iload_n hx hb dX7_colour_17 rfl (lv_at hl 2 rfl) ?_
        refine lv_aload_n hx hb dX7_colour_18 rfl (lv_at hl 0 rfl) ?_
        refine lv_iconst (v := 0) hx hb dX7_colour_19 (by decide) ?_
        refine xV (rest := [.int y]) (As := [.int 0]) (ws1 := [(o, .inr (7, mdF th W H mt qu zz nw ol ne se ke nc ns is ik dc sc kd md wh fa re ve ps ow tl di lv bf bo bd co bt ma))]) (st1 := [.int (nI (wdt 0 H)), .int y]) hF (c_X7_highOf l D cs tt o mt qu zz nw ol ne se ke re ve ps di lv bd co bt ma W H md th nc ns is ik dc sc kd wh fa ow tl bf bo 0 (by decide)) gX7_colour_X7_highOf rfl (n := 1) (by decide +kernel) rfl ⟨⟨rfl, rfl⟩, Nat.le_of_ble_eq_true rfl, Nat.le_of_ble_eq_true rfl⟩ ⟨Nat.le_of_ble_eq_true rfl, Nat.le_of_ble_eq_true rfl⟩ hX hP hD hS [0] (by decide) rfl [o] rfl rfl (q0 := 0) (ci := 7) rfl rfl rfl hl.1 rfl (Nat.le_of_ble_eq_true rfl) dX7_colour_20 rfl rfl (fun Hp locs hP hD hS => ?_)
        refine lv_icmp_ge (tgt := 30) hx hb dX7_colour_23 (by decide) (fun c_23 => ?_) (fun c_23 => ?_)
        · refine lv_iconst (v := 0) hx hb dX7_colour_30 (by decide) ?_
          refine xrwi (z := the x y 0 W H) (by unfold the; rw [if_neg c_1, if_neg c_5, if_neg c_14, if_pos c_23]) ?_
          exact join_31   _ _ _ hP hD hS (lv_sub hl [0, 1, 2] rfl)
        · refine lv_iconst (v := 1) hx hb dX7_colour_26 (by decide) ?_
          refine lv_goto (tgt := 31) hx hb dX7_colour_27 (by decide) ?_
          refine xrwi (z := the x y 0 W H) (by unfold the; rw [if_neg c_1, if_neg c_5, if_neg c_14, if_neg c_23]) ?_
          exact join_31   _ _ _ hP hD hS (lv_sub hl [0, 1, 2] rfl)

set_option maxHeartbeats 4000000 in
set_option maxRecDepth 100000 in
theorem c_X7_colour_ok (l : Launch) (D : va_G) (cs : Nat → ClassId) (tt : Nat → Nat) (o mt qu zz nw ol ne se ke re ve ps di lv bd co bt ma W H md : Nat) (th nc ns ik dc sc kd wh fa ow tl bf bo : Int32) (x9 y9 : Nat) (gs : Nat → Int32) (hw : 1 ≤ W) (hw4 : W ≤ 4) (hh : 1 ≤ H) (hh3 : H ≤ 3) (hx9 : x9 < wdt 0 W) (hy9 : y9 < wdt 0 H) (hp9 : vf_n32 (FP.fsub (FP.i2f (gs (plc 1 (x9 / 2) (y9 / 2)))) 1124073472)) (hq9 : vf_n32 (FP.fsub (FP.i2f (gs (plc 2 (x9 / 2) (y9 / 2)))) 1124073472)) (hN : mixN (FP.i2f (gs (plc 0 x9 y9))) (FP.fsub (FP.i2f (gs (plc 1 (x9 / 2) (y9 / 2)))) 1124073472) (FP.fsub (FP.i2f (gs (plc 2 (x9 / 2) (y9 / 2)))) 1124073472)) : xM l yX7_colour wsX7_colour ({ frames := 2, cells := 0, slots := 0, locals := 44 } : Room) D cs tt [.ref o, .int (nI x9), .int (nI y9)] [(o, .inr (7, mdF th W H mt qu zz nw ol ne se ke nc ns 1 ik dc sc kd md wh fa re ve ps ow tl di lv bf bo bd co bt ma)), (se, .inl (cs 0, 4608, .inl gs))] (some (.int (mixF (FP.i2f (gs (plc 0 x9 y9))) (FP.fsub (FP.i2f (gs (plc 1 (x9 / 2) (y9 / 2)))) 1124073472) (FP.fsub (FP.i2f (gs (plc 2 (x9 / 2) (y9 / 2)))) 1124073472)))) [(o, .inr (7, mdF 0 W H mt qu zz nw ol ne se ke nc ns 1 ik dc sc kd md wh fa re ve ps ow tl di lv bf bo bd co bt ma)), (se, .inl (cs 0, 4608, .inl gs))] := by
  refine xM.of RX7 rfl (by decide) rfl (Nat.le_of_ble_eq_true rfl) ?_
  intro p e s m below meth c A ls hF hr hlk hX hP hD hS hl
  have hx := hF.1
  have hb := hF.2.1
  have hl : lv_has ls 10 [(0, .ref o), (1, .int (nI x9)), (2, .int (nI y9))] := hl
  have hW64 := wdt_le (p := 0) hw4
  have hH64 := wdt_le (p := 0) (show H ≤ 4 by omega)
  have hx16 : x9 < 16 * W := hx9
  have hy16 : y9 < 16 * H := hy9
  have hpl := plc_lt (p := 0) (by decide) hw4 hh3 hx9 hy9
  have hp1 := plc_lt (p := 1) (x := x9 / 2) (y := y9 / 2) (by decide) hw4 hh3 (show x9 / 2 < 8 * W by omega) (show y9 / 2 < 8 * H by omega)
  have hp2 := plc_lt (p := 2) (x := x9 / 2) (y := y9 / 2) (by decide) hw4 hh3 (show x9 / 2 < 8 * W by omega) (show y9 / 2 < 8 * H by omega)
  refine lv_iload_n hx hb dX7_colour_0 rfl (lv_at hl 1 rfl) ?_
  refine lv_if_lt (tgt := 30) hx hb dX7_colour_1 (by decide) (fun c_1 => absurd c_1 (nI_pos (by omega))) (fun _ => ?_)
  refine lv_iload_n hx hb dX7_colour_4 rfl (lv_at hl 2 rfl) ?_
  refine lv_if_lt (tgt := 30) hx hb dX7_colour_5 (by decide) (fun c_5 => absurd c_5 (nI_pos (by omega))) (fun _ => ?_)
  refine lv_iload_n hx hb dX7_colour_8 rfl (lv_at hl 1 rfl) ?_
  refine lv_aload_n hx hb dX7_colour_9 rfl (lv_at hl 0 rfl) ?_
  refine lv_iconst (v := 0) hx hb dX7_colour_10 (by decide) ?_
  refine xV (rest := [.int (nI x9)]) (As := [.int 0]) (ws1 := [(o, .inr (7, mdF th W H mt qu zz nw ol ne se ke nc ns 1 ik dc sc kd md wh fa re ve ps ow tl di lv bf bo bd co bt ma)), (se, .inl (cs 0, 4608, .inl gs))]) (st1 := [.int (nI (wdt 0 W)), .int (nI x9)]) hF (c_X7_wideOf l D cs tt o mt qu zz nw ol ne se ke re ve ps di lv bd co bt ma W H md th nc ns 1 ik dc sc kd wh fa ow tl bf bo 0 (by decide)) gX7_colour_X7_wideOf rfl (n := 1) (by decide +kernel) rfl ⟨⟨rfl, rfl⟩, Nat.le_of_ble_eq_true rfl, Nat.le_of_ble_eq_true rfl⟩ ⟨Nat.le_of_ble_eq_true rfl, Nat.le_of_ble_eq_true rfl⟩ hX hP hD hS [0] (by decide) rfl [o] rfl rfl (q0 := 0) (ci := 7) rfl rfl rfl hl.1 rfl (Nat.le_of_ble_eq_true rfl) dX7_colour_11 rfl rfl (fun Hp locs hP hD hS => ?_)
  refine lv_icmp_ge (tgt := 30) hx hb dX7_colour_14 (by decide) (fun c_14 => absurd c_14 ((fun h => absurd ((nI_leI (by omega) (by omega)).mp h) (by omega)))) (fun _ => ?_)
  refine lv_iload_n hx hb dX7_colour_17 rfl (lv_at hl 2 rfl) ?_
  refine lv_aload_n hx hb dX7_colour_18 rfl (lv_at hl 0 rfl) ?_
  refine lv_iconst (v := 0) hx hb dX7_colour_19 (by decide) ?_
  refine xV (rest := [.int (nI y9)]) (As := [.int 0]) (ws1 := [(o, .inr (7, mdF th W H mt qu zz nw ol ne se ke nc ns 1 ik dc sc kd md wh fa re ve ps ow tl di lv bf bo bd co bt ma)), (se, .inl (cs 0, 4608, .inl gs))]) (st1 := [.int (nI (wdt 0 H)), .int (nI y9)]) hF (c_X7_highOf l D cs tt o mt qu zz nw ol ne se ke re ve ps di lv bd co bt ma W H md th nc ns 1 ik dc sc kd wh fa ow tl bf bo 0 (by decide)) gX7_colour_X7_highOf rfl (n := 1) (by decide +kernel) rfl ⟨⟨rfl, rfl⟩, Nat.le_of_ble_eq_true rfl, Nat.le_of_ble_eq_true rfl⟩ ⟨Nat.le_of_ble_eq_true rfl, Nat.le_of_ble_eq_true rfl⟩ hX hP hD hS [0] (by decide) rfl [o] rfl rfl (q0 := 0) (ci := 7) rfl rfl rfl hl.1 rfl (Nat.le_of_ble_eq_true rfl) dX7_colour_20 rfl rfl (fun Hp locs hP hD hS => ?_)
  refine lv_icmp_ge (tgt := 30) hx hb dX7_colour_23 (by decide) (fun c_23 => absurd c_23 ((fun h => absurd ((nI_leI (by omega) (by omega)).mp h) (by omega)))) (fun _ => ?_)
  refine lv_iconst (v := 1) hx hb dX7_colour_26 (by decide) ?_
  refine lv_goto (tgt := 31) hx hb dX7_colour_27 (by decide) ?_
  refine lv_istore_n (lv' := [(3, .int 1), (0, .ref o), (1, .int (nI x9)), (2, .int (nI y9))]) hx hb dX7_colour_31 rfl hl (by decide) rfl (fun ls hl => ?_)
  refine lv_aload_n hx hb dX7_colour_32 rfl (lv_at hl 1 rfl) ?_
  refine lv_aload_n hx hb dX7_colour_33 rfl (lv_at hl 1 rfl) ?_
  refine xget (C := RX7) (T := TX7) (N := 34) hF hX hP (by decide +kernel) 0 13 rfl rfl (by decide) (by decide +kernel) rfl dX7_colour_34 ?_
  refine lv_if_ne (tgt := 44) hx hb dX7_colour_37 (by decide) (fun _ => ?_) (fun c_37 => absurd c_37 (by decide))
  refine lv_iload_n hx hb dX7_colour_44 rfl (lv_at hl 0 rfl) ?_
  refine lv_if_ne (tgt := 52) hx hb dX7_colour_45 (by decide) (fun _ => ?_) (fun c_45 => absurd c_45 (by decide))
  refine lv_iconst (v := 0) hx hb dX7_colour_52 (by decide) ?_
  refine xputf (C := RX7) (T := TX7) (N := 34) (ws1 := [(o, .inr (7, mdF 0 W H mt qu zz nw ol ne se ke nc ns 1 ik dc sc kd md wh fa re ve ps ow tl di lv bf bo bd co bt ma)), (se, .inl (cs 0, 4608, .inl gs))]) hF hX hP hD hS (by decide +kernel) tyX7 tyX7_ok nmX7 0 0 rfl rfl (by decide) (by decide +kernel) rfl (rfl) (rfl) (Nat.le_of_ble_eq_true rfl) dX7_colour_53 rfl (fun Hp locs hP hD hS => ?_)
  refine lv_aload_n hx hb dX7_colour_56 rfl (lv_at hl 1 rfl) ?_
  refine xget (C := RX7) (T := TX7) (N := 34) hF hX hP (by decide +kernel) 0 0 rfl rfl (by decide) (by decide +kernel) rfl dX7_colour_57 ?_
  refine lv_if_le (tgt := 65) hx hb dX7_colour_60 (by decide) (fun _ => ?_) (fun c_60 => absurd (by decide) c_60)
  refine lv_aload_n hx hb dX7_colour_65 rfl (lv_at hl 1 rfl) ?_
  refine xget (C := RX7) (T := TX7) (N := 34) hF hX hP (by decide +kernel) 0 9 rfl rfl (by decide) (by decide +kernel) rfl dX7_colour_66 ?_
  refine lv_iconst (v := 0) hx hb dX7_colour_69 (by decide) ?_
  refine lv_iload_n hx hb dX7_colour_70 rfl (lv_at hl 2 rfl) ?_
  refine lv_iload_n hx hb dX7_colour_71 rfl (lv_at hl 3 rfl) ?_
  refine xSt (rest := [.ref se]) (As := [.int 0, .int (nI x9), .int (nI y9)]) (ws1 := [(o, .inr (7, mdF 0 W H mt qu zz nw ol ne se ke nc ns 1 ik dc sc kd md wh fa re ve ps ow tl di lv bf bo bd co bt ma)), (se, .inl (cs 0, 4608, .inl gs))]) (st1 := [.int (nI (plc 0 x9 y9)), .ref se]) hF (c_X7_place l D cs tt 0 x9 y9 (by decide)) gX7_colour_X7_place rfl (n := 3) (by decide +kernel) rfl ⟨⟨rfl, rfl⟩, Nat.le_of_ble_eq_true rfl, Nat.le_of_ble_eq_true rfl⟩ ⟨Nat.le_of_ble_eq_true rfl, Nat.le_of_ble_eq_true rfl⟩ hX hP hD hS [] (by decide) rfl [] rfl rfl hl.1 rfl (Nat.le_of_ble_eq_true rfl) dX7_colour_72 rfl rfl (fun Hp locs hP hD hS => ?_)
  refine xald (k := plc 0 x9 y9) hF hX hP 1 rfl (nI_clamp (by omega)) (vp_in_nI (hpl) (by decide)) dX7_colour_75 ?_
  refine lv_i2f hx hb dX7_colour_76 ?_
  refine lv_fstore (lv' := [(4, .float (FP.i2f (gs (plc 0 x9 y9)))), (3, .int 1), (0, .ref o), (1, .int (nI x9)), (2, .int (nI y9))]) hx hb dX7_colour_77 hl (by decide) rfl (fun ls hl => ?_)
  refine lv_aload_n hx hb dX7_colour_79 rfl (lv_at hl 2 rfl) ?_
  refine xget (C := RX7) (T := TX7) (N := 34) hF hX hP (by decide +kernel) 0 9 rfl rfl (by decide) (by decide +kernel) rfl dX7_colour_80 ?_
  refine lv_iconst (v := 1) hx hb dX7_colour_83 (by decide) ?_
  refine lv_iload_n hx hb dX7_colour_84 rfl (lv_at hl 3 rfl) ?_
  refine lv_iconst (v := 2) hx hb dX7_colour_85 (by decide) ?_
  refine lv_idiv hx hb dX7_colour_86 (by decide) ?_
  refine xrwi (z := nI (x9 / 2)) (pk_div (d := 2) (by omega) (by decide) (by decide)) ?_
  refine lv_iload_n hx hb dX7_colour_87 rfl (lv_at hl 4 rfl) ?_
  refine lv_iconst (v := 2) hx hb dX7_colour_88 (by decide) ?_
  refine lv_idiv hx hb dX7_colour_89 (by decide) ?_
  refine xrwi (z := nI (y9 / 2)) (pk_div (d := 2) (by omega) (by decide) (by decide)) ?_
  refine xSt (rest := [.ref se]) (As := [.int 1, .int (nI (x9 / 2)), .int (nI (y9 / 2))]) (ws1 := [(o, .inr (7, mdF 0 W H mt qu zz nw ol ne se ke nc ns 1 ik dc sc kd md wh fa re ve ps ow tl di lv bf bo bd co bt ma)), (se, .inl (cs 0, 4608, .inl gs))]) (st1 := [.int (nI (plc 1 (x9 / 2) (y9 / 2))), .ref se]) hF (c_X7_place l D cs tt 1 (x9 / 2) (y9 / 2) (by decide)) gX7_colour_X7_place rfl (n := 3) (by decide +kernel) rfl ⟨⟨rfl, rfl⟩, Nat.le_of_ble_eq_true rfl, Nat.le_of_ble_eq_true rfl⟩ ⟨Nat.le_of_ble_eq_true rfl, Nat.le_of_ble_eq_true rfl⟩ hX hP hD hS [] (by decide) rfl [] rfl rfl hl.1 rfl (Nat.le_of_ble_eq_true rfl) dX7_colour_90 rfl rfl (fun Hp locs hP hD hS => ?_)
  refine xald (k := plc 1 (x9 / 2) (y9 / 2)) hF hX hP 1 rfl (nI_clamp (by omega)) (vp_in_nI (hp1) (by decide)) dX7_colour_93 ?_
  refine lv_i2f hx hb dX7_colour_94 ?_
  refine lv_ldcf (own := RX7) (v := 1124073472) hx hb hF.2.2.2.1 (hF.2.2.2.2 _ (by decide +kernel)) dX7_colour_95 ?_
  refine lv_fsub hx hb dX7_colour_97 (hp9) ?_
  refine lv_fstore (lv' := [(5, .float (FP.fsub (FP.i2f (gs (plc 1 (x9 / 2) (y9 / 2)))) 1124073472)), (4, .float (FP.i2f (gs (plc 0 x9 y9)))), (3, .int 1), (0, .ref o), (1, .int (nI x9)), (2, .int (nI y9))]) hx hb dX7_colour_98 hl (by decide) rfl (fun ls hl => ?_)
  refine lv_aload_n hx hb dX7_colour_100 rfl (lv_at hl 3 rfl) ?_
  refine xget (C := RX7) (T := TX7) (N := 34) hF hX hP (by decide +kernel) 0 9 rfl rfl (by decide) (by decide +kernel) rfl dX7_colour_101 ?_
  refine lv_iconst (v := 2) hx hb dX7_colour_104 (by decide) ?_
  refine lv_iload_n hx hb dX7_colour_105 rfl (lv_at hl 4 rfl) ?_
  refine lv_iconst (v := 2) hx hb dX7_colour_106 (by decide) ?_
  refine lv_idiv hx hb dX7_colour_107 (by decide) ?_
  refine xrwi (z := nI (x9 / 2)) (pk_div (d := 2) (by omega) (by decide) (by decide)) ?_
  refine lv_iload_n hx hb dX7_colour_108 rfl (lv_at hl 5 rfl) ?_
  refine lv_iconst (v := 2) hx hb dX7_colour_109 (by decide) ?_
  refine lv_idiv hx hb dX7_colour_110 (by decide) ?_
  refine xrwi (z := nI (y9 / 2)) (pk_div (d := 2) (by omega) (by decide) (by decide)) ?_
  refine xSt (rest := [.ref se]) (As := [.int 2, .int (nI (x9 / 2)), .int (nI (y9 / 2))]) (ws1 := [(o, .inr (7, mdF 0 W H mt qu zz nw ol ne se ke nc ns 1 ik dc sc kd md wh fa re ve ps ow tl di lv bf bo bd co bt ma)), (se, .inl (cs 0, 4608, .inl gs))]) (st1 := [.int (nI (plc 2 (x9 / 2) (y9 / 2))), .ref se]) hF (c_X7_place l D cs tt 2 (x9 / 2) (y9 / 2) (by decide)) gX7_colour_X7_place rfl (n := 3) (by decide +kernel) rfl ⟨⟨rfl, rfl⟩, Nat.le_of_ble_eq_true rfl, Nat.le_of_ble_eq_true rfl⟩ ⟨Nat.le_of_ble_eq_true rfl, Nat.le_of_ble_eq_true rfl⟩ hX hP hD hS [] (by decide) rfl [] rfl rfl hl.1 rfl (Nat.le_of_ble_eq_true rfl) dX7_colour_111 rfl rfl (fun Hp locs hP hD hS => ?_)
  refine xald (k := plc 2 (x9 / 2) (y9 / 2)) hF hX hP 1 rfl (nI_clamp (by omega)) (vp_in_nI (hp2) (by decide)) dX7_colour_114 ?_
  refine lv_i2f hx hb dX7_colour_115 ?_
  refine lv_ldcf (own := RX7) (v := 1124073472) hx hb hF.2.2.2.1 (hF.2.2.2.2 _ (by decide +kernel)) dX7_colour_116 ?_
  refine lv_fsub hx hb dX7_colour_118 (hq9) ?_
  refine lv_fstore (lv' := [(6, .float (FP.fsub (FP.i2f (gs (plc 2 (x9 / 2) (y9 / 2)))) 1124073472)), (5, .float (FP.fsub (FP.i2f (gs (plc 1 (x9 / 2) (y9 / 2)))) 1124073472)), (4, .float (FP.i2f (gs (plc 0 x9 y9)))), (3, .int 1), (0, .ref o), (1, .int (nI x9)), (2, .int (nI y9))]) hx hb dX7_colour_119 hl (by decide) rfl (fun ls hl => ?_)
  refine lv_fload hx hb dX7_colour_121 (lv_at hl 2 rfl) ?_
  refine lv_ldcf (own := RX7) (v := 1068725436) hx hb hF.2.2.2.1 (hF.2.2.2.2 _ (by decide +kernel)) dX7_colour_123 ?_
  refine lv_fload hx hb dX7_colour_125 (lv_at hl 0 rfl) ?_
  refine lv_fmul hx hb dX7_colour_127 (hN.1.1) ?_
  refine lv_fadd hx hb dX7_colour_128 (hN.1.2.1) ?_
  refine lv_fstore (lv' := [(7, .float (FP.fadd (FP.i2f (gs (plc 0 x9 y9))) (FP.fmul 1068725436 (FP.fsub (FP.i2f (gs (plc 2 (x9 / 2) (y9 / 2)))) 1124073472)))), (6, .float (FP.fsub (FP.i2f (gs (plc 2 (x9 / 2) (y9 / 2)))) 1124073472)), (5, .float (FP.fsub (FP.i2f (gs (plc 1 (x9 / 2) (y9 / 2)))) 1124073472)), (4, .float (FP.i2f (gs (plc 0 x9 y9)))), (3, .int 1), (0, .ref o), (1, .int (nI x9)), (2, .int (nI y9))]) hx hb dX7_colour_129 hl (by decide) rfl (fun ls hl => ?_)
  refine lv_fload hx hb dX7_colour_131 (lv_at hl 3 rfl) ?_
  refine lv_ldcf (own := RX7) (v := 1051734680) hx hb hF.2.2.2.1 (hF.2.2.2.2 _ (by decide +kernel)) dX7_colour_133 ?_
  refine lv_fload hx hb dX7_colour_135 (lv_at hl 2 rfl) ?_
  refine lv_fmul hx hb dX7_colour_137 (hN.2.1.1) ?_
  refine lv_fsub hx hb dX7_colour_138 (hN.2.1.2.1) ?_
  refine lv_ldcf (own := RX7) (v := 1060557214) hx hb hF.2.2.2.1 (hF.2.2.2.2 _ (by decide +kernel)) dX7_colour_139 ?_
  refine lv_fload hx hb dX7_colour_141 (lv_at hl 1 rfl) ?_
  refine lv_fmul hx hb dX7_colour_143 (hN.2.1.2.2.1) ?_
  refine lv_fsub hx hb dX7_colour_144 (hN.2.1.2.2.2.1) ?_
  refine lv_fstore (lv' := [(8, .float (FP.fsub (FP.fsub (FP.i2f (gs (plc 0 x9 y9))) (FP.fmul 1051734680 (FP.fsub (FP.i2f (gs (plc 1 (x9 / 2) (y9 / 2)))) 1124073472))) (FP.fmul 1060557214 (FP.fsub (FP.i2f (gs (plc 2 (x9 / 2) (y9 / 2)))) 1124073472)))), (7, .float (FP.fadd (FP.i2f (gs (plc 0 x9 y9))) (FP.fmul 1068725436 (FP.fsub (FP.i2f (gs (plc 2 (x9 / 2) (y9 / 2)))) 1124073472)))), (6, .float (FP.fsub (FP.i2f (gs (plc 2 (x9 / 2) (y9 / 2)))) 1124073472)), (5, .float (FP.fsub (FP.i2f (gs (plc 1 (x9 / 2) (y9 / 2)))) 1124073472)), (4, .float (FP.i2f (gs (plc 0 x9 y9)))), (3, .int 1), (0, .ref o), (1, .int (nI x9)), (2, .int (nI y9))]) hx hb dX7_colour_145 hl (by decide) rfl (fun ls hl => ?_)
  refine lv_fload hx hb dX7_colour_147 (lv_at hl 4 rfl) ?_
  refine lv_ldcf (own := RX7) (v := 1071829221) hx hb hF.2.2.2.1 (hF.2.2.2.2 _ (by decide +kernel)) dX7_colour_149 ?_
  refine lv_fload hx hb dX7_colour_151 (lv_at hl 3 rfl) ?_
  refine lv_fmul hx hb dX7_colour_153 (hN.2.2.1) ?_
  refine lv_fadd hx hb dX7_colour_154 (hN.2.2.2.1) ?_
  refine lv_fstore (lv' := [(9, .float (FP.fadd (FP.i2f (gs (plc 0 x9 y9))) (FP.fmul 1071829221 (FP.fsub (FP.i2f (gs (plc 1 (x9 / 2) (y9 / 2)))) 1124073472)))), (8, .float (FP.fsub (FP.fsub (FP.i2f (gs (plc 0 x9 y9))) (FP.fmul 1051734680 (FP.fsub (FP.i2f (gs (plc 1 (x9 / 2) (y9 / 2)))) 1124073472))) (FP.fmul 1060557214 (FP.fsub (FP.i2f (gs (plc 2 (x9 / 2) (y9 / 2)))) 1124073472)))), (7, .float (FP.fadd (FP.i2f (gs (plc 0 x9 y9))) (FP.fmul 1068725436 (FP.fsub (FP.i2f (gs (plc 2 (x9 / 2) (y9 / 2)))) 1124073472)))), (6, .float (FP.fsub (FP.i2f (gs (plc 2 (x9 / 2) (y9 / 2)))) 1124073472)), (5, .float (FP.fsub (FP.i2f (gs (plc 1 (x9 / 2) (y9 / 2)))) 1124073472)), (4, .float (FP.i2f (gs (plc 0 x9 y9)))), (3, .int 1), (0, .ref o), (1, .int (nI x9)), (2, .int (nI y9))]) hx hb dX7_colour_155 hl (by decide) rfl (fun ls hl => ?_)
  refine lv_ldc (own := RX7) (v := 65536) hx hb hF.2.2.2.1 (hF.2.2.2.2 _ (by decide +kernel)) dX7_colour_157 ?_
  refine lv_fload hx hb dX7_colour_159 (lv_at hl 2 rfl) ?_
  refine lv_ldcf (own := RX7) (v := 1056964608) hx hb hF.2.2.2.1 (hF.2.2.2.2 _ (by decide +kernel)) dX7_colour_161 ?_
  refine lv_fadd hx hb dX7_colour_163 (hN.1.2.2) ?_
  refine xSt (rest := [.int 65536]) (As := [.float (FP.fadd (FP.fadd (FP.i2f (gs (plc 0 x9 y9))) (FP.fmul 1068725436 (FP.fsub (FP.i2f (gs (plc 2 (x9 / 2) (y9 / 2)))) 1124073472))) 1056964608)]) (ws1 := [(o, .inr (7, mdF 0 W H mt qu zz nw ol ne se ke nc ns 1 ik dc sc kd md wh fa re ve ps ow tl di lv bf bo bd co bt ma)), (se, .inl (cs 0, 4608, .inl gs))]) (st1 := [.int (bnd (FP.f2i (FP.fadd (FP.fadd (FP.i2f (gs (plc 0 x9 y9))) (FP.fmul 1068725436 (FP.fsub (FP.i2f (gs (plc 2 (x9 / 2) (y9 / 2)))) 1124073472))) 1056964608)) 0 255), .int 65536]) hF (c_X7_cutOff l D cs tt (FP.fadd (FP.fadd (FP.i2f (gs (plc 0 x9 y9))) (FP.fmul 1068725436 (FP.fsub (FP.i2f (gs (plc 2 (x9 / 2) (y9 / 2)))) 1124073472))) 1056964608)) gX7_colour_X7_cutOff rfl (n := 1) (by decide +kernel) rfl ⟨⟨rfl, rfl⟩, Nat.le_of_ble_eq_true rfl, Nat.le_of_ble_eq_true rfl⟩ ⟨Nat.le_of_ble_eq_true rfl, Nat.le_of_ble_eq_true rfl⟩ hX hP hD hS [] (by decide) rfl [] rfl rfl hl.1 rfl (Nat.le_of_ble_eq_true rfl) dX7_colour_164 rfl rfl (fun Hp locs hP hD hS => ?_)
  refine lv_imul hx hb dX7_colour_167 ?_
  refine lv_sipush (v := 256) hx hb dX7_colour_168 (by decide) ?_
  refine lv_fload hx hb dX7_colour_171 (lv_at hl 1 rfl) ?_
  refine lv_ldcf (own := RX7) (v := 1056964608) hx hb hF.2.2.2.1 (hF.2.2.2.2 _ (by decide +kernel)) dX7_colour_173 ?_
  refine lv_fadd hx hb dX7_colour_175 (hN.2.1.2.2.2.2) ?_
  refine xSt (rest := [.int 256, .int (65536 * (bnd (FP.f2i (FP.fadd (FP.fadd (FP.i2f (gs (plc 0 x9 y9))) (FP.fmul 1068725436 (FP.fsub (FP.i2f (gs (plc 2 (x9 / 2) (y9 / 2)))) 1124073472))) 1056964608)) 0 255))]) (As := [.float (FP.fadd (FP.fsub (FP.fsub (FP.i2f (gs (plc 0 x9 y9))) (FP.fmul 1051734680 (FP.fsub (FP.i2f (gs (plc 1 (x9 / 2) (y9 / 2)))) 1124073472))) (FP.fmul 1060557214 (FP.fsub (FP.i2f (gs (plc 2 (x9 / 2) (y9 / 2)))) 1124073472))) 1056964608)]) (ws1 := [(o, .inr (7, mdF 0 W H mt qu zz nw ol ne se ke nc ns 1 ik dc sc kd md wh fa re ve ps ow tl di lv bf bo bd co bt ma)), (se, .inl (cs 0, 4608, .inl gs))]) (st1 := [.int (bnd (FP.f2i (FP.fadd (FP.fsub (FP.fsub (FP.i2f (gs (plc 0 x9 y9))) (FP.fmul 1051734680 (FP.fsub (FP.i2f (gs (plc 1 (x9 / 2) (y9 / 2)))) 1124073472))) (FP.fmul 1060557214 (FP.fsub (FP.i2f (gs (plc 2 (x9 / 2) (y9 / 2)))) 1124073472))) 1056964608)) 0 255), .int 256, .int (65536 * (bnd (FP.f2i (FP.fadd (FP.fadd (FP.i2f (gs (plc 0 x9 y9))) (FP.fmul 1068725436 (FP.fsub (FP.i2f (gs (plc 2 (x9 / 2) (y9 / 2)))) 1124073472))) 1056964608)) 0 255))]) hF (c_X7_cutOff l D cs tt (FP.fadd (FP.fsub (FP.fsub (FP.i2f (gs (plc 0 x9 y9))) (FP.fmul 1051734680 (FP.fsub (FP.i2f (gs (plc 1 (x9 / 2) (y9 / 2)))) 1124073472))) (FP.fmul 1060557214 (FP.fsub (FP.i2f (gs (plc 2 (x9 / 2) (y9 / 2)))) 1124073472))) 1056964608)) gX7_colour_X7_cutOff rfl (n := 1) (by decide +kernel) rfl ⟨⟨rfl, rfl⟩, Nat.le_of_ble_eq_true rfl, Nat.le_of_ble_eq_true rfl⟩ ⟨Nat.le_of_ble_eq_true rfl, Nat.le_of_ble_eq_true rfl⟩ hX hP hD hS [] (by decide) rfl [] rfl rfl hl.1 rfl (Nat.le_of_ble_eq_true rfl) dX7_colour_176 rfl rfl (fun Hp locs hP hD hS => ?_)
  refine lv_imul hx hb dX7_colour_179 ?_
  refine lv_iadd hx hb dX7_colour_180 ?_
  refine lv_fload hx hb dX7_colour_181 (lv_at hl 0 rfl) ?_
  refine lv_ldcf (own := RX7) (v := 1056964608) hx hb hF.2.2.2.1 (hF.2.2.2.2 _ (by decide +kernel)) dX7_colour_183 ?_
  refine lv_fadd hx hb dX7_colour_185 (hN.2.2.2.2) ?_
  refine xSt (rest := [.int ((65536 * (bnd (FP.f2i (FP.fadd (FP.fadd (FP.i2f (gs (plc 0 x9 y9))) (FP.fmul 1068725436 (FP.fsub (FP.i2f (gs (plc 2 (x9 / 2) (y9 / 2)))) 1124073472))) 1056964608)) 0 255)) + (256 * (bnd (FP.f2i (FP.fadd (FP.fsub (FP.fsub (FP.i2f (gs (plc 0 x9 y9))) (FP.fmul 1051734680 (FP.fsub (FP.i2f (gs (plc 1 (x9 / 2) (y9 / 2)))) 1124073472))) (FP.fmul 1060557214 (FP.fsub (FP.i2f (gs (plc 2 (x9 / 2) (y9 / 2)))) 1124073472))) 1056964608)) 0 255)))]) (As := [.float (FP.fadd (FP.fadd (FP.i2f (gs (plc 0 x9 y9))) (FP.fmul 1071829221 (FP.fsub (FP.i2f (gs (plc 1 (x9 / 2) (y9 / 2)))) 1124073472))) 1056964608)]) (ws1 := [(o, .inr (7, mdF 0 W H mt qu zz nw ol ne se ke nc ns 1 ik dc sc kd md wh fa re ve ps ow tl di lv bf bo bd co bt ma)), (se, .inl (cs 0, 4608, .inl gs))]) (st1 := [.int (bnd (FP.f2i (FP.fadd (FP.fadd (FP.i2f (gs (plc 0 x9 y9))) (FP.fmul 1071829221 (FP.fsub (FP.i2f (gs (plc 1 (x9 / 2) (y9 / 2)))) 1124073472))) 1056964608)) 0 255), .int ((65536 * (bnd (FP.f2i (FP.fadd (FP.fadd (FP.i2f (gs (plc 0 x9 y9))) (FP.fmul 1068725436 (FP.fsub (FP.i2f (gs (plc 2 (x9 / 2) (y9 / 2)))) 1124073472))) 1056964608)) 0 255)) + (256 * (bnd (FP.f2i (FP.fadd (FP.fsub (FP.fsub (FP.i2f (gs (plc 0 x9 y9))) (FP.fmul 1051734680 (FP.fsub (FP.i2f (gs (plc 1 (x9 / 2) (y9 / 2)))) 1124073472))) (FP.fmul 1060557214 (FP.fsub (FP.i2f (gs (plc 2 (x9 / 2) (y9 / 2)))) 1124073472))) 1056964608)) 0 255)))]) hF (c_X7_cutOff l D cs tt (FP.fadd (FP.fadd (FP.i2f (gs (plc 0 x9 y9))) (FP.fmul 1071829221 (FP.fsub (FP.i2f (gs (plc 1 (x9 / 2) (y9 / 2)))) 1124073472))) 1056964608)) gX7_colour_X7_cutOff rfl (n := 1) (by decide +kernel) rfl ⟨⟨rfl, rfl⟩, Nat.le_of_ble_eq_true rfl, Nat.le_of_ble_eq_true rfl⟩ ⟨Nat.le_of_ble_eq_true rfl, Nat.le_of_ble_eq_true rfl⟩ hX hP hD hS [] (by decide) rfl [] rfl rfl hl.1 rfl (Nat.le_of_ble_eq_true rfl) dX7_colour_186 rfl rfl (fun Hp locs hP hD hS => ?_)
  refine lv_iadd hx hb dX7_colour_189 ?_
  exact xri (Q9 := fun _ _ _ _ => True) hF hr hlk hP hD hS dX7_colour_190
