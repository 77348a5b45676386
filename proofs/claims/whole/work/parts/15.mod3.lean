
/-! ===== the reference: coefficients, samples, blocks ===== -/
def odd (v : Int32) : Int32 := if v - v / 2 * 2 = 0 then (if v = 0 then v else if v ≤ 0 then v + 1 else v - 1) else v
def sg (v : Int32) : Int32 := if v = 0 then 0 else if v ≤ 0 then (-1) else 1
def mscl (fa db nb : Int32) : Int32 := bnd (odd (db * fa * nb / 16)) (-2048) 2047
def mF0 (Lv M : Nat → Int32) (fa : Int32) (k : Nat) : Nat → Int32 := fun i => mscl fa (2 * Lv (k * 64 + i)) (M (zN i))
def mOwn (P Lv M : Nat → Int32) (fa : Int32) (k : Nat) : Nat → Int32 := fun i => if i = 0 then pst P Lv k else mscl fa (2 * Lv (k * 64 + i)) (M (zN i))
def mDif (Lv M : Nat → Int32) (fa : Int32) (k : Nat) : Nat → Int32 := fun i => mscl fa (2 * Lv (k * 64 + i) + sg (Lv (k * 64 + i))) (M (64 + zN i))
theorem zI_0 : zI 0 = 0 := by decide +kernel
theorem cof_own (P Lv M : Nat → Int32) (fa : Int32) (k : Nat) : ∀ j, j < 64 → upd (cof (mF0 Lv M fa k)) 0 (pst P Lv k) j = cof (mOwn P Lv M fa k) j := by
  intro j hj
  unfold cof
  by_cases h : j = 0
  · subst h; rw [pk_us, zI_0]; rfl
  · rw [pk_un h]
    have hz : ¬ zI j = 0 := fun q => h (by have := zN_zI (i := 0) (by decide) q; rw [this]; rfl)
    unfold mF0 mOwn
    rw [if_neg hz]
theorem k64 (k : Nat) : (64 : Int32) * nI k = nI (k * 64) := by rw [show (64 : Int32) * nI k = nI (64 * k) from pk_mul 64 k, Nat.mul_comm]
theorem k8 (k x : Nat) : (8 : Int32) * nI k + nI x = nI (k * 8 + x) := by rw [show (8 : Int32) * nI k = nI (8 * k) from pk_mul 8 k, nI_add, Nat.mul_comm]
/-- the numbers together, from c on -/
def msum (c : Int32) (F : Nat → Int32) : Nat → Int32
  | 0 => c
  | n + 1 => msum c F n + F n
theorem msum_r (c : Int32) (F : Nat → Int32) : ∀ n, msum c F n = rsum F n + c
  | 0 => by show c = 0 + c; rw [Int32.zero_add]
  | n + 1 => by
    show msum c F n + F n = rsum F n + F n + c
    rw [msum_r c F n, Int32.add_assoc, Int32.add_comm c, ← Int32.add_assoc]
theorem halfM (C : Nat → Int32) {v x : Nat} (hx : x < 8) : msum 128 (fun u9 => wvf u9 x * C (v * 8 + u9)) 8 >>> (8 &&& 31) = half C (v * 8 + x) := by
  rw [msum_r]
  unfold half
  rw [show (v * 8 + x) % 8 = x by omega, show (v * 8 + x) / 8 = v by omega]
theorem fullM (T : Nat → Int32) {y x : Nat} (hx : x < 8) : msum 8192 (fun v9 => wvf v9 y * T (v9 * 8 + x)) 8 >>> (14 &&& 31) = full T (y * 8 + x) := by
  rw [msum_r]
  unfold full
  rw [show (y * 8 + x) % 8 = x by omega, show (y * 8 + x) / 8 = y by omega]
theorem pbs (g : Nat → Int32) {off st L T x y : Nat} (V : Nat → Nat → Int32) {v : Int32} (hv : v = V (L + x) (T + y)) (hx : x < 8) (hL : L + 8 ≤ st) : upd (blkTo g off st L T 8 (y * 8 + x) V) (off + ((T + y) * st + (L + x))) v = blkTo g off st L T 8 (y * 8 + (x + 1)) V := by
  subst hv
  have h := blkTo_s g (off := off) (W := st) (L := L) (T := T) (bw := 8) V (x := L + x) (y := T + y) (by omega) (by omega) hL (by omega)
  rw [show (T + y - T) * 8 + (L + x - L) = y * 8 + x by omega] at h
  rw [h]
  rfl

set_option maxHeartbeats 4000000 in
set_option maxRecDepth 100000 in
theorem c_X7_scaleAll1 (l : Launch) (D : va_G) (cs : Nat → ClassId) (tt : Nat → Nat) (o mt qu zz nw ol ne se ke re ve ps di lv bd co bt ma W H md : Nat) (th nc ns is ik dc sc kd wh fa tl bf bo : Int32) (k : Nat) (M P Lv cf : Nat → Int32) (hk : k < 6) : xM l yX7_scaleAll wsX7_scaleAll ({ frames := 1, cells := 0, slots := 0, locals := 22 } : Room) D cs tt [.ref o, .int (nI k)] [(o, .inr (7, mdF th W H mt qu zz nw ol ne se ke nc ns is ik dc sc kd md wh fa re ve ps 1 tl di lv bf bo bd co bt ma)), (mt, .inl (cs 0, 128, .inl M)), (zz, .inl (cs 0, 64, .inl zfn)), (ps, .inl (cs 0, 3, .inl P)), (lv, .inl (cs 0, 384, .inl Lv)), (co, .inl (cs 0, 64, .inl cf))] none [(o, .inr (7, mdF th W H mt qu zz nw ol ne se ke nc ns is ik dc sc kd md wh fa re ve ps 1 tl di lv bf bo bd co bt ma)), (mt, .inl (cs 0, 128, .inl M)), (zz, .inl (cs 0, 64, .inl zfn)), (ps, .inl (cs 0, 3, .inl (upd P (pl k) (pst P Lv k)))), (lv, .inl (cs 0, 384, .inl Lv)), (co, .inl (cs 0, 64, .inl (cof (mOwn P Lv M fa k))))] := by
  refine xM.of RX7 rfl (by decide) rfl (Nat.le_of_ble_eq_true rfl) ?_
  intro p e s m below meth c A ls hF hr hlk hX hP hD hS hl
  have hx := hF.1
  have hb := hF.2.1
  have hl : lv_has ls 7 [(0, .ref o), (1, .int (nI k))] := hl
  have hpl := pl_lt hk
  refine lv_iconst (v := 0) hx hb dX7_scaleAll_0 (by decide) ?_
  refine lv_istore_n (lv' := [(2, .int 0), (0, .ref o), (1, .int (nI k))]) hx hb dX7_scaleAll_1 rfl hl (by decide) rfl (fun ls hl => ?_)
  have loop_2 : ∀ (k2 : Nat) (i : Nat), 64 - i < k2 → i ≤ 64 → ∀ (Hp : Heap) (locs : List Loc) (ls : Array Slot), va_P D vwCl [(o, .inr (7, mdF th W H mt qu zz nw ol ne se ke nc ns is ik dc sc kd md wh fa re ve ps 1 tl di lv bf bo bd co bt ma)), (mt, .inl (cs 0, 128, .inl M)), (zz, .inl (cs 0, 64, .inl zfn)), (ps, .inl (cs 0, 3, .inl P)), (lv, .inl (cs 0, 384, .inl Lv)), (co, .inl (cs 0, 64, .inl (coTo cf (mF0 Lv M fa k) i)))] Hp → va_D A [(o, .inr (7, mdF th W H mt qu zz nw ol ne se ke nc ns is ik dc sc kd md wh fa re ve ps 1 tl di lv bf bo bd co bt ma)), (mt, .inl (cs 0, 128, .inl M)), (zz, .inl (cs 0, 64, .inl zfn)), (ps, .inl (cs 0, 3, .inl P)), (lv, .inl (cs 0, 384, .inl Lv)), (co, .inl (cs 0, 64, .inl (coTo cf (mF0 Lv M fa k) i)))] → va_S A s.heap Hp locs → lv_has ls 7 [(0, .ref o), (1, .int (nI k)), (2, .int (nI i))] → xW p l e ({ frames := 1, cells := 0, slots := 0, locals := 22 } : Room) s m ([.ref o, .int (nI k)] : List Value).toArray below meth c Hp locs 0 0 (MQ below (xE D A none [(o, .inr (7, mdF th W H mt qu zz nw ol ne se ke nc ns is ik dc sc kd md wh fa re ve ps 1 tl di lv bf bo bd co bt ma)), (mt, .inl (cs 0, 128, .inl M)), (zz, .inl (cs 0, 64, .inl zfn)), (ps, .inl (cs 0, 3, .inl (upd P (pl k) (pst P Lv k)))), (lv, .inl (cs 0, 384, .inl Lv)), (co, .inl (cs 0, 64, .inl (cof (mOwn P Lv M fa k))))]) ([.ref o, .int (nI k)] : List Value).toArray s 0 0 A) (F0 m 2 ls []) := by
    intro k2
    induction k2 with
    | zero => intro i h9; omega
    | succ k2 ih_2 =>
      intro i hk2 hi Hp locs ls hP hD hS hl
      have join_126 : i < 64 → ∀ (Hp : Heap) (locs : List Loc) (ls : Array Slot), va_P D vwCl [(o, .inr (7, mdF th W H mt qu zz nw ol ne se ke nc ns is ik dc sc kd md wh fa re ve ps 1 tl di lv bf bo bd co bt ma)), (mt, .inl (cs 0, 128, .inl M)), (zz, .inl (cs 0, 64, .inl zfn)), (ps, .inl (cs 0, 3, .inl P)), (lv, .inl (cs 0, 384, .inl Lv)), (co, .inl (cs 0, 64, .inl (coTo cf (mF0 Lv M fa k) i)))] Hp → va_D A [(o, .inr (7, mdF th W H mt qu zz nw ol ne se ke nc ns is ik dc sc kd md wh fa re ve ps 1 tl di lv bf bo bd co bt ma)), (mt, .inl (cs 0, 128, .inl M)), (zz, .inl (cs 0, 64, .inl zfn)), (ps, .inl (cs 0, 3, .inl P)), (lv, .inl (cs 0, 384, .inl Lv)), (co, .inl (cs 0, 64, .inl (coTo cf (mF0 Lv M fa k) i)))] → va_S A s.heap Hp locs → lv_has ls 7 [(6, .int ((2 * (Lv (k * 64 + i))) * fa * (M (zN i)) / 16)), (4, .int (nI (zN i))), (0, .ref o), (1, .int (nI k)), (2, .int (nI i))] → xW p l e ({ frames := 1, cells := 0, slots := 0, locals := 22 } : Room) s m ([.ref o, .int (nI k)] : List Value).toArray below meth c Hp locs 0 0 (MQ below (xE D A none [(o, .inr (7, mdF th W H mt qu zz nw ol ne se ke nc ns is ik dc sc kd md wh fa re ve ps 1 tl di lv bf bo bd co bt ma)), (mt, .inl (cs 0, 128, .inl M)), (zz, .inl (cs 0, 64, .inl zfn)), (ps, .inl (cs 0, 3, .inl (upd P (pl k) (pst P Lv k)))), (lv, .inl (cs 0, 384, .inl Lv)), (co, .inl (cs 0, 64, .inl (cof (mOwn P Lv M fa k))))]) ([.ref o, .int (nI k)] : List Value).toArray s 0 0 A) (F0 m 126 ls [.int (odd ((2 * (Lv (k * 64 + i))) * fa * (M (zN i)) / 16))]) := by
        intro hlt Hp locs ls hP hD hS hl
        have hz := zN_lt i hlt
        refine lv_istore (lv' := [(6, .int (odd ((2 * (Lv (k * 64 + i))) * fa * (M (zN i)) / 16))), (4, .int (nI (zN i))), (0, .ref o), (1, .int (nI k)), (2, .int (nI i))]) hx hb dX7_scaleAll_126 hl (by decide) rfl (fun ls hl => ?_)
        refine lv_aload_n hx hb dX7_scaleAll_128 rfl (lv_at hl 2 rfl) ?_
        refine xget (C := RX7) (T := TX7) (N := 34) hF hX hP (by decide +kernel) 0 31 rfl rfl (by decide) (by decide +kernel) rfl dX7_scaleAll_129 ?_
        refine lv_iload hx hb dX7_scaleAll_132 (lv_at hl 1 rfl) ?_
        refine lv_iload hx hb dX7_scaleAll_134 (lv_at hl 0 rfl) ?_
        refine lv_sipush (v := (-2048)) hx hb dX7_scaleAll_136 (by decide) ?_
        refine lv_sipush (v := 2047) hx hb dX7_scaleAll_139 (by decide) ?_
        refine xSt (rest := [.int (nI (zN i)), .ref co]) (As := [.int (odd ((2 * (Lv (k * 64 + i))) * fa * (M (zN i)) / 16)), .int (-2048), .int 2047]) (ws1 := [(o, .inr (7, mdF th W H mt qu zz nw ol ne se ke nc ns is ik dc sc kd md wh fa re ve ps 1 tl di lv bf bo bd co bt ma)), (mt, .inl (cs 0, 128, .inl M)), (zz, .inl (cs 0, 64, .inl zfn)), (ps, .inl (cs 0, 3, .inl P)), (lv, .inl (cs 0, 384, .inl Lv)), (co, .inl (cs 0, 64, .inl (coTo cf (mF0 Lv M fa k) i)))]) (st1 := [.int (bnd (odd ((2 * (Lv (k * 64 + i))) * fa * (M (zN i)) / 16)) (-2048) 2047), .int (nI (zN i)), .ref co]) hF (c_X7_within l D cs tt (odd ((2 * (Lv (k * 64 + i))) * fa * (M (zN i)) / 16)) (-2048) 2047) gX7_scaleAll_X7_within rfl (n := 3) (by decide +kernel) rfl ⟨⟨rfl, rfl⟩, Nat.le_of_ble_eq_true rfl, Nat.le_of_ble_eq_true rfl⟩ ⟨Nat.le_of_ble_eq_true rfl, Nat.le_of_ble_eq_true rfl⟩ hX hP hD hS [] (by decide) rfl [] rfl rfl hl.1 rfl (Nat.le_of_ble_eq_true rfl) dX7_scaleAll_142 rfl rfl (fun Hp locs hP hD hS => ?_)
        refine xast (k := zN i) (ws1 := [(o, .inr (7, mdF th W H mt qu zz nw ol ne se ke nc ns is ik dc sc kd md wh fa re ve ps 1 tl di lv bf bo bd co bt ma)), (mt, .inl (cs 0, 128, .inl M)), (zz, .inl (cs 0, 64, .inl zfn)), (ps, .inl (cs 0, 3, .inl P)), (lv, .inl (cs 0, 384, .inl Lv)), (co, .inl (cs 0, 64, .inl (coTo cf (mF0 Lv M fa k) (i + 1))))]) hF hX hP hD hS 5 rfl (nI_clamp (by omega)) (vp_in_nI hz (by decide)) dX7_scaleAll_145 (congrArg (fun z9 => ([(o, .inr (7, mdF th W H mt qu zz nw ol ne se ke nc ns is ik dc sc kd md wh fa re ve ps 1 tl di lv bf bo bd co bt ma)), (mt, .inl (cs 0, 128, .inl M)), (zz, .inl (cs 0, 64, .inl zfn)), (ps, .inl (cs 0, 3, .inl P)), (lv, .inl (cs 0, 384, .inl Lv)), (co, .inl (cs 0, 64, .inl z9))] : va_W)) (coTo_s cf (mF0 Lv M fa k) hlt rfl)) (fun Hp locs hP hD hS => ?_)
        refine lv_iinc (v := (nI (i + 1))) (lv' := [(2, .int (nI (i + 1))), (6, .int (odd ((2 * (Lv (k * 64 + i))) * fa * (M (zN i)) / 16))), (4, .int (nI (zN i))), (0, .ref o), (1, .int (nI k))]) hx hb dX7_scaleAll_146 hl (k := 4) rfl (nI_1 i) (by decide) rfl (fun ls hl => ?_)
        refine lv_goto (tgt := 2) hx hb dX7_scaleAll_149 (by decide) ?_
        exact ih_2 (i + 1) (by omega) (by omega) _ _ _ hP hD hS (lv_sub hl [3, 4, 0] rfl)
      refine lv_iload_n hx hb dX7_scaleAll_2 rfl (lv_at hl 2 rfl) ?_
      refine lv_bipush (v := 64) hx hb dX7_scaleAll_3 (by decide) ?_
      refine lv_icmp_ge (tgt := 152) hx hb dX7_scaleAll_5 (by decide) (fun c_5 => ?_) (fun c_5 => ?_)
      · have e9 : i = 64 := by have := nIle (a := 64) (b := i) rfl rfl (by decide) (by omega) c_5; omega
        have hP1 : va_P D vwCl [(o, .inr (7, mdF th W H mt qu zz nw ol ne se ke nc ns is ik dc sc kd md wh fa re ve ps 1 tl di lv bf bo bd co bt ma)), (mt, .inl (cs 0, 128, .inl M)), (zz, .inl (cs 0, 64, .inl zfn)), (ps, .inl (cs 0, 3, .inl P)), (lv, .inl (cs 0, 384, .inl Lv)), (co, .inl (cs 0, 64, .inl (cof (mF0 Lv M fa k))))] Hp := xcongP (g := (cof (mF0 Lv M fa k))) hP 5 rfl hD (fun j hj => by unfold coTo cof; rw [e9, if_pos (zI_lt j hj)])
        have hD : va_D A [(o, .inr (7, mdF th W H mt qu zz nw ol ne se ke nc ns is ik dc sc kd md wh fa re ve ps 1 tl di lv bf bo bd co bt ma)), (mt, .inl (cs 0, 128, .inl M)), (zz, .inl (cs 0, 64, .inl zfn)), (ps, .inl (cs 0, 3, .inl P)), (lv, .inl (cs 0, 384, .inl Lv)), (co, .inl (cs 0, 64, .inl (cof (mF0 Lv M fa k))))] := xcongD (g := (cof (mF0 Lv M fa k))) 5 rfl hD
        have hP := hP1
        refine lv_aload_n hx hb dX7_scaleAll_152 rfl (lv_at hl 0 rfl) ?_
        refine xget (C := RX7) (T := TX7) (N := 34) hF hX hP (by decide +kernel) 0 24 rfl rfl (by decide) (by decide +kernel) rfl dX7_scaleAll_153 ?_
        refine lv_if_eq (tgt := 208) hx hb dX7_scaleAll_156 (by decide) (fun c_156 => absurd c_156 (by decide)) (fun _ => ?_)
        refine lv_iload_n hx hb dX7_scaleAll_159 rfl (lv_at hl 1 rfl) ?_
        refine xSt (rest := []) (As := [.int (nI k)]) (ws1 := [(o, .inr (7, mdF th W H mt qu zz nw ol ne se ke nc ns is ik dc sc kd md wh fa re ve ps 1 tl di lv bf bo bd co bt ma)), (mt, .inl (cs 0, 128, .inl M)), (zz, .inl (cs 0, 64, .inl zfn)), (ps, .inl (cs 0, 3, .inl P)), (lv, .inl (cs 0, 384, .inl Lv)), (co, .inl (cs 0, 64, .inl (cof (mF0 Lv M fa k))))]) (st1 := [.int (pln (nI k))]) hF (c_X7_planeOf l D cs tt (nI k)) gX7_scaleAll_X7_planeOf rfl (n := 1) (by decide +kernel) rfl ⟨⟨rfl, rfl⟩, Nat.le_of_ble_eq_true rfl, Nat.le_of_ble_eq_true rfl⟩ ⟨Nat.le_of_ble_eq_true rfl, Nat.le_of_ble_eq_true rfl⟩ hX hP hD hS [] (by decide) rfl [] rfl rfl hl.1 rfl (Nat.le_of_ble_eq_true rfl) dX7_scaleAll_160 rfl rfl (fun Hp locs hP hD hS => ?_)
        refine xrwi (z := nI (pl k)) (pln_pl hk) ?_
        refine lv_istore_n (lv' := [(2, .int (nI (pl k))), (0, .ref o), (1, .int (nI k))]) hx hb dX7_scaleAll_163 rfl hl (by decide) rfl (fun ls hl => ?_)
        refine lv_aload_n hx hb dX7_scaleAll_164 rfl (lv_at hl 1 rfl) ?_
        refine xget (C := RX7) (T := TX7) (N := 34) hF hX hP (by decide +kernel) 0 23 rfl rfl (by decide) (by decide +kernel) rfl dX7_scaleAll_165 ?_
        refine lv_iload_n hx hb dX7_scaleAll_168 rfl (lv_at hl 0 rfl) ?_
        refine lv_aload_n hx hb dX7_scaleAll_169 rfl (lv_at hl 1 rfl) ?_
        refine xget (C := RX7) (T := TX7) (N := 34) hF hX hP (by decide +kernel) 0 23 rfl rfl (by decide) (by decide +kernel) rfl dX7_scaleAll_170 ?_
        refine lv_iload_n hx hb dX7_scaleAll_173 rfl (lv_at hl 0 rfl) ?_
        refine xald (k := pl k) hF hX hP 3 rfl (nI_clamp (by omega)) (vp_in_nI (hpl) (by decide)) dX7_scaleAll_174 ?_
        refine lv_bipush (v := 8) hx hb dX7_scaleAll_175 (by decide) ?_
        refine lv_aload_n hx hb dX7_scaleAll_177 rfl (lv_at hl 1 rfl) ?_
        refine xget (C := RX7) (T := TX7) (N := 34) hF hX hP (by decide +kernel) 0 27 rfl rfl (by decide) (by decide +kernel) rfl dX7_scaleAll_178 ?_
        refine lv_bipush (v := 64) hx hb dX7_scaleAll_181 (by decide) ?_
        refine lv_iload_n hx hb dX7_scaleAll_183 rfl (lv_at hl 2 rfl) ?_
        refine lv_imul hx hb dX7_scaleAll_184 ?_
        refine xrwi (z := nI (k * 64)) (k64 k) ?_
        refine xald (k := k * 64) hF hX hP 4 rfl (nI_clamp (by omega)) (vp_in_nI (by omega) (by omega)) dX7_scaleAll_185 ?_
        refine lv_imul hx hb dX7_scaleAll_186 ?_
        refine lv_iadd hx hb dX7_scaleAll_187 ?_
        refine lv_iconst (v := 0) hx hb dX7_scaleAll_188 (by decide) ?_
        refine lv_sipush (v := 2040) hx hb dX7_scaleAll_189 (by decide) ?_
        refine xSt (rest := [.int (nI (pl k)), .ref ps]) (As := [.int ((P (pl k)) + (8 * (Lv (k * 64)))), .int 0, .int 2040]) (ws1 := [(o, .inr (7, mdF th W H mt qu zz nw ol ne se ke nc ns is ik dc sc kd md wh fa re ve ps 1 tl di lv bf bo bd co bt ma)), (mt, .inl (cs 0, 128, .inl M)), (zz, .inl (cs 0, 64, .inl zfn)), (ps, .inl (cs 0, 3, .inl P)), (lv, .inl (cs 0, 384, .inl Lv)), (co, .inl (cs 0, 64, .inl (cof (mF0 Lv M fa k))))]) (st1 := [.int (bnd ((P (pl k)) + (8 * (Lv (k * 64)))) 0 2040), .int (nI (pl k)), .ref ps]) hF (c_X7_within l D cs tt ((P (pl k)) + (8 * (Lv (k * 64)))) 0 2040) gX7_scaleAll_X7_within rfl (n := 3) (by decide +kernel) rfl ⟨⟨rfl, rfl⟩, Nat.le_of_ble_eq_true rfl, Nat.le_of_ble_eq_true rfl⟩ ⟨Nat.le_of_ble_eq_true rfl, Nat.le_of_ble_eq_true rfl⟩ hX hP hD hS [] (by decide) rfl [] rfl rfl hl.1 rfl (Nat.le_of_ble_eq_true rfl) dX7_scaleAll_192 rfl rfl (fun Hp locs hP hD hS => ?_)
        refine xast (k := pl k) (ws1 := [(o, .inr (7, mdF th W H mt qu zz nw ol ne se ke nc ns is ik dc sc kd md wh fa re ve ps 1 tl di lv bf bo bd co bt ma)), (mt, .inl (cs 0, 128, .inl M)), (zz, .inl (cs 0, 64, .inl zfn)), (ps, .inl (cs 0, 3, .inl (upd P (pl k) (bnd ((P (pl k)) + (8 * (Lv (k * 64)))) 0 2040)))), (lv, .inl (cs 0, 384, .inl Lv)), (co, .inl (cs 0, 64, .inl (cof (mF0 Lv M fa k))))]) hF hX hP hD hS 3 rfl (nI_clamp (by omega)) (vp_in_nI hpl (by decide)) dX7_scaleAll_195 rfl (fun Hp locs hP hD hS => ?_)
        refine lv_aload_n hx hb dX7_scaleAll_196 rfl (lv_at hl 1 rfl) ?_
        refine xget (C := RX7) (T := TX7) (N := 34) hF hX hP (by decide +kernel) 0 31 rfl rfl (by decide) (by decide +kernel) rfl dX7_scaleAll_197 ?_
        refine lv_iconst (v := 0) hx hb dX7_scaleAll_200 (by decide) ?_
        refine lv_aload_n hx hb dX7_scaleAll_201 rfl (lv_at hl 1 rfl) ?_
        refine xget (C := RX7) (T := TX7) (N := 34) hF hX hP (by decide +kernel) 0 23 rfl rfl (by decide) (by decide +kernel) rfl dX7_scaleAll_202 ?_
        refine lv_iload_n hx hb dX7_scaleAll_205 rfl (lv_at hl 0 rfl) ?_
        refine xald (k := pl k) hF hX hP 3 rfl (nI_clamp (by omega)) (vp_in_nI (hpl) (by decide)) dX7_scaleAll_206 ?_
        refine xrwi (z := pst P Lv k) (pk_us) ?_
        refine xast (k := 0) (ws1 := [(o, .inr (7, mdF th W H mt qu zz nw ol ne se ke nc ns is ik dc sc kd md wh fa re ve ps 1 tl di lv bf bo bd co bt ma)), (mt, .inl (cs 0, 128, .inl M)), (zz, .inl (cs 0, 64, .inl zfn)), (ps, .inl (cs 0, 3, .inl (upd P (pl k) (bnd ((P (pl k)) + (8 * (Lv (k * 64)))) 0 2040)))), (lv, .inl (cs 0, 384, .inl Lv)), (co, .inl (cs 0, 64, .inl (upd (cof (mF0 Lv M fa k)) 0 (pst P Lv k))))]) hF hX hP hD hS 5 rfl (rfl) (vp_in_nI (n := 0) (by decide) (by decide)) dX7_scaleAll_207 rfl (fun Hp locs hP hD hS => ?_)
        have hP1 : va_P D vwCl [(o, .inr (7, mdF th W H mt qu zz nw ol ne se ke nc ns is ik dc sc kd md wh fa re ve ps 1 tl di lv bf bo bd co bt ma)), (mt, .inl (cs 0, 128, .inl M)), (zz, .inl (cs 0, 64, .inl zfn)), (ps, .inl (cs 0, 3, .inl (upd P (pl k) (bnd ((P (pl k)) + (8 * (Lv (k * 64)))) 0 2040)))), (lv, .inl (cs 0, 384, .inl Lv)), (co, .inl (cs 0, 64, .inl (cof (mOwn P Lv M fa k))))] Hp := xcongP (g := (cof (mOwn P Lv M fa k))) hP 5 rfl hD (cof_own P Lv M fa k)
        have hD : va_D A [(o, .inr (7, mdF th W H mt qu zz nw ol ne se ke nc ns is ik dc sc kd md wh fa re ve ps 1 tl di lv bf bo bd co bt ma)), (mt, .inl (cs 0, 128, .inl M)), (zz, .inl (cs 0, 64, .inl zfn)), (ps, .inl (cs 0, 3, .inl (upd P (pl k) (bnd ((P (pl k)) + (8 * (Lv (k * 64)))) 0 2040)))), (lv, .inl (cs 0, 384, .inl Lv)), (co, .inl (cs 0, 64, .inl (cof (mOwn P Lv M fa k))))] := xcongD (g := (cof (mOwn P Lv M fa k))) 5 rfl hD
        have hP := hP1
        exact xrv hF hr hlk hP hD hS dX7_scaleAll_208
      · have hlt : i < 64 := nInle (a := 64) (b := i) rfl rfl (by decide) (by omega) c_5
        have hz := zN_lt i hlt
        refine lv_aload_n hx hb dX7_scaleAll_8 rfl (lv_at hl 0 rfl) ?_
        refine xget (C := RX7) (T := TX7) (N := 34) hF hX hP (by decide +kernel) 0 27 rfl rfl (by decide) (by decide +kernel) rfl dX7_scaleAll_9 ?_
        refine lv_bipush (v := 64) hx hb dX7_scaleAll_12 (by decide) ?_
        refine lv_iload_n hx hb dX7_scaleAll_14 rfl (lv_at hl 1 rfl) ?_
        refine lv_imul hx hb dX7_scaleAll_15 ?_
        refine xrwi (z := nI (k * 64)) (k64 k) ?_
        refine lv_iload_n hx hb dX7_scaleAll_16 rfl (lv_at hl 2 rfl) ?_
        refine lv_iadd hx hb dX7_scaleAll_17 ?_
        refine xrwi (z := nI (k * 64 + i)) (nI_add _ _) ?_
        refine xald (k := k * 64 + i) hF hX hP 4 rfl (nI_clamp (by omega)) (vp_in_nI (by omega) (by omega)) dX7_scaleAll_18 ?_
        refine lv_istore_n (lv' := [(3, .int (Lv (k * 64 + i))), (0, .ref o), (1, .int (nI k)), (2, .int (nI i))]) hx hb dX7_scaleAll_19 rfl hl (by decide) rfl (fun ls hl => ?_)
        refine lv_aload_n hx hb dX7_scaleAll_20 rfl (lv_at hl 1 rfl) ?_
        refine xget (C := RX7) (T := TX7) (N := 34) hF hX hP (by decide +kernel) 0 5 rfl rfl (by decide) (by decide +kernel) rfl dX7_scaleAll_21 ?_
        refine lv_iload_n hx hb dX7_scaleAll_24 rfl (lv_at hl 3 rfl) ?_
        refine xald (k := i) hF hX hP 2 rfl (nI_clamp (by omega)) (vp_in_nI (by omega) (by omega)) dX7_scaleAll_25 ?_
        refine xrwi (z := nI (zN i)) (rfl) ?_
        refine lv_istore (lv' := [(4, .int (nI (zN i))), (3, .int (Lv (k * 64 + i))), (0, .ref o), (1, .int (nI k)), (2, .int (nI i))]) hx hb dX7_scaleAll_26 hl (by decide) rfl (fun ls hl => ?_)
        refine lv_aload_n hx hb dX7_scaleAll_28 rfl (lv_at hl 2 rfl) ?_
        refine xget (C := RX7) (T := TX7) (N := 34) hF hX hP (by decide +kernel) 0 24 rfl rfl (by decide) (by decide +kernel) rfl dX7_scaleAll_29 ?_
        refine lv_if_ne (tgt := 39) hx hb dX7_scaleAll_32 (by decide) (fun _ => ?_) (fun c_32 => absurd c_32 (by decide))
        refine lv_iconst (v := 0) hx hb dX7_scaleAll_39 (by decide) ?_
        refine lv_goto (tgt := 52) hx hb dX7_scaleAll_40 (by decide) ?_
        refine lv_istore (lv' := [(5, .int 0), (4, .int (nI (zN i))), (3, .int (Lv (k * 64 + i))), (0, .ref o), (1, .int (nI k)), (2, .int (nI i))]) hx hb dX7_scaleAll_52 hl (by decide) rfl (fun ls hl => ?_)
        refine lv_iconst (v := 2) hx hb dX7_scaleAll_54 (by decide) ?_
        refine lv_iload_n hx hb dX7_scaleAll_55 rfl (lv_at hl 2 rfl) ?_
        refine lv_imul hx hb dX7_scaleAll_56 ?_
        refine lv_iload hx hb dX7_scaleAll_57 (lv_at hl 0 rfl) ?_
        refine lv_iadd hx hb dX7_scaleAll_59 ?_
        refine xrwi (z := (2 * (Lv (k * 64 + i)))) (Int32.add_zero _) ?_
        refine lv_aload_n hx hb dX7_scaleAll_60 rfl (lv_at hl 3 rfl) ?_
        refine xget (C := RX7) (T := TX7) (N := 34) hF hX hP (by decide +kernel) 0 20 rfl rfl (by decide) (by decide +kernel) rfl dX7_scaleAll_61 ?_
        refine lv_imul hx hb dX7_scaleAll_64 ?_
        refine lv_aload_n hx hb dX7_scaleAll_65 rfl (lv_at hl 3 rfl) ?_
        refine xget (C := RX7) (T := TX7) (N := 34) hF hX hP (by decide +kernel) 0 3 rfl rfl (by decide) (by decide +kernel) rfl dX7_scaleAll_66 ?_
        refine lv_aload_n hx hb dX7_scaleAll_69 rfl (lv_at hl 3 rfl) ?_
        refine xget (C := RX7) (T := TX7) (N := 34) hF hX hP (by decide +kernel) 0 24 rfl rfl (by decide) (by decide +kernel) rfl dX7_scaleAll_70 ?_
        refine lv_if_eq (tgt := 81) hx hb dX7_scaleAll_73 (by decide) (fun c_73 => absurd c_73 (by decide)) (fun _ => ?_)
        refine lv_iload hx hb dX7_scaleAll_76 (lv_at hl 1 rfl) ?_
        refine lv_goto (tgt := 86) hx hb dX7_scaleAll_78 (by decide) ?_
        refine xald (k := zN i) hF hX hP 1 rfl (nI_clamp (by omega)) (vp_in_nI (by omega) (by decide)) dX7_scaleAll_86 ?_
        refine lv_imul hx hb dX7_scaleAll_87 ?_
        refine lv_bipush (v := 16) hx hb dX7_scaleAll_88 (by decide) ?_
        refine lv_idiv hx hb dX7_scaleAll_90 (by decide) ?_
        refine lv_istore (lv' := [(6, .int ((((2 * (Lv (k * 64 + i))) * fa) * (M (zN i))) / 16)), (5, .int 0), (4, .int (nI (zN i))), (3, .int (Lv (k * 64 + i))), (0, .ref o), (1, .int (nI k)), (2, .int (nI i))]) hx hb dX7_scaleAll_91 hl (by decide) rfl (fun ls hl => ?_)
        refine lv_iload hx hb dX7_scaleAll_93 (lv_at hl 0 rfl) ?_
        refine lv_iconst (v := 2) hx hb dX7_scaleAll_95 (by decide) ?_
        refine lv_irem hx hb dX7_scaleAll_96 (by decide) ?_
        refine lv_if_ne (tgt := 124) hx hb dX7_scaleAll_97 (by decide) (fun c_97 => ?_) (fun c_97 => ?_)
        · refine lv_iload hx hb dX7_scaleAll_124 (lv_at hl 0 rfl) ?_
          refine xrwi (z := odd ((2 * (Lv (k * 64 + i))) * fa * (M (zN i)) / 16)) (by unfold odd; rw [if_neg c_97]) ?_
          exact join_126  hlt _ _ _ hP hD hS (lv_sub hl [0, 2, 4, 5, 6] rfl)
        · refine lv_iload hx hb dX7_scaleAll_100 (lv_at hl 0 rfl) ?_
          refine lv_if_eq (tgt := 124) hx hb dX7_scaleAll_102 (by decide) (fun c_102 => ?_) (fun c_102 => ?_)
          · refine lv_iload hx hb dX7_scaleAll_124 (lv_at hl 0 rfl) ?_
            refine xrwi (z := odd ((2 * (Lv (k * 64 + i))) * fa * (M (zN i)) / 16)) (by unfold odd; rw [if_pos c_97]; rw [if_pos c_102]) ?_
            exact join_126  hlt _ _ _ hP hD hS (lv_sub hl [0, 2, 4, 5, 6] rfl)
          · refine lv_iload hx hb dX7_scaleAll_105 (lv_at hl 0 rfl) ?_
            refine lv_if_le (tgt := 117) hx hb dX7_scaleAll_107 (by decide) (fun c_107 => ?_) (fun c_107 => ?_)
            · refine lv_iload hx hb dX7_scaleAll_117 (lv_at hl 0 rfl) ?_
              refine lv_iconst (v := 1) hx hb dX7_scaleAll_119 (by decide) ?_
              refine lv_iadd hx hb dX7_scaleAll_120 ?_
              refine lv_goto (tgt := 126) hx hb dX7_scaleAll_121 (by decide) ?_
              refine xrwi (z := odd ((2 * (Lv (k * 64 + i))) * fa * (M (zN i)) / 16)) (by unfold odd; rw [if_pos c_97]; rw [if_neg c_102]; rw [if_pos c_107]) ?_
              exact join_126  hlt _ _ _ hP hD hS (lv_sub hl [0, 2, 4, 5, 6] rfl)
            · refine lv_iload hx hb dX7_scaleAll_110 (lv_at hl 0 rfl) ?_
              refine lv_iconst (v := 1) hx hb dX7_scaleAll_112 (by decide) ?_
              refine lv_isub hx hb dX7_scaleAll_113 ?_
              refine lv_goto (tgt := 126) hx hb dX7_scaleAll_114 (by decide) ?_
              refine xrwi (z := odd ((2 * (Lv (k * 64 + i))) * fa * (M (zN i)) / 16)) (by unfold odd; rw [if_pos c_97]; rw [if_neg c_102]; rw [if_neg c_107]) ?_
              exact join_126  hlt _ _ _ hP hD hS (lv_sub hl [0, 2, 4, 5, 6] rfl)
  have hP := xeqP hP (congrArg (fun z9 => ([(o, .inr (7, mdF th W H mt qu zz nw ol ne se ke nc ns is ik dc sc kd md wh fa re ve ps 1 tl di lv bf bo bd co bt ma)), (mt, .inl (cs 0, 128, .inl M)), (zz, .inl (cs 0, 64, .inl zfn)), (ps, .inl (cs 0, 3, .inl P)), (lv, .inl (cs 0, 384, .inl Lv)), (co, .inl (cs 0, 64, .inl z9))] : va_W)) ((coTo_0 cf (mF0 Lv M fa k)).symm))
  have hD := xeqD hD (congrArg (fun z9 => ([(o, .inr (7, mdF th W H mt qu zz nw ol ne se ke nc ns is ik dc sc kd md wh fa re ve ps 1 tl di lv bf bo bd co bt ma)), (mt, .inl (cs 0, 128, .inl M)), (zz, .inl (cs 0, 64, .inl zfn)), (ps, .inl (cs 0, 3, .inl P)), (lv, .inl (cs 0, 384, .inl Lv)), (co, .inl (cs 0, 64, .inl z9))] : va_W)) ((coTo_0 cf (mF0 Lv M fa k)).symm))
  exact loop_2 (64 - 0 + 1) 0 (Nat.lt_succ_self _) (by decide) _ _ _ hP hD hS (lv_sub hl [1, 2, 0] rfl)

set_option maxHeartbeats 4000000 in
set_option maxRecDepth 100000 in
theorem c_X7_scaleAll0 (l : Launch) (D : va_G) (cs : Nat → ClassId) (tt : Nat → Nat) (o mt qu zz nw ol ne se ke re ve ps di lv bd co bt ma W H md : Nat) (th nc ns is ik dc sc kd wh fa tl bf bo : Int32) (k : Nat) (M P Lv cf : Nat → Int32) (hk : k < 6) : xM l yX7_scaleAll wsX7_scaleAll ({ frames := 1, cells := 0, slots := 0, locals := 22 } : Room) D cs tt [.ref o, .int (nI k)] [(o, .inr (7, mdF th W H mt qu zz nw ol ne se ke nc ns is ik dc sc kd md wh fa re ve ps 0 tl di lv bf bo bd co bt ma)), (mt, .inl (cs 0, 128, .inl M)), (zz, .inl (cs 0, 64, .inl zfn)), (ps, .inl (cs 0, 3, .inl P)), (lv, .inl (cs 0, 384, .inl Lv)), (co, .inl (cs 0, 64, .inl cf))] none [(o, .inr (7, mdF th W H mt qu zz nw ol ne se ke nc ns is ik dc sc kd md wh fa re ve ps 0 tl di lv bf bo bd co bt ma)), (mt, .inl (cs 0, 128, .inl M)), (zz, .inl (cs 0, 64, .inl zfn)), (ps, .inl (cs 0, 3, .inl P)), (lv, .inl (cs 0, 384, .inl Lv)), (co, .inl (cs 0, 64, .inl (cof (mDif Lv M fa k))))] := by
  refine xM.of RX7 rfl (by decide) rfl (Nat.le_of_ble_eq_true rfl) ?_
  intro p e s m below meth c A ls hF hr hlk hX hP hD hS hl
  have hx := hF.1
  have hb := hF.2.1
  have hl : lv_has ls 7 [(0, .ref o), (1, .int (nI k))] := hl
  have hpl := pl_lt hk
  refine lv_iconst (v := 0) hx hb dX7_scaleAll_0 (by decide) ?_
  refine lv_istore_n (lv' := [(2, .int 0), (0, .ref o), (1, .int (nI k))]) hx hb dX7_scaleAll_1 rfl hl (by decide) rfl (fun ls hl => ?_)
  have loop_2 : ∀ (k2 : Nat) (i : Nat), 64 - i < k2 → i ≤ 64 → ∀ (Hp : Heap) (locs : List Loc) (ls : Array Slot), va_P D vwCl [(o, .inr (7, mdF th W H mt qu zz nw ol ne se ke nc ns is ik dc sc kd md wh fa re ve ps 0 tl di lv bf bo bd co bt ma)), (mt, .inl (cs 0, 128, .inl M)), (zz, .inl (cs 0, 64, .inl zfn)), (ps, .inl (cs 0, 3, .inl P)), (lv, .inl (cs 0, 384, .inl Lv)), (co, .inl (cs 0, 64, .inl (coTo cf (mDif Lv M fa k) i)))] Hp → va_D A [(o, .inr (7, mdF th W H mt qu zz nw ol ne se ke nc ns is ik dc sc kd md wh fa re ve ps 0 tl di lv bf bo bd co bt ma)), (mt, .inl (cs 0, 128, .inl M)), (zz, .inl (cs 0, 64, .inl zfn)), (ps, .inl (cs 0, 3, .inl P)), (lv, .inl (cs 0, 384, .inl Lv)), (co, .inl (cs 0, 64, .inl (coTo cf (mDif Lv M fa k) i)))] → va_S A s.heap Hp locs → lv_has ls 7 [(0, .ref o), (1, .int (nI k)), (2, .int (nI i))] → xW p l e ({ frames := 1, cells := 0, slots := 0, locals := 22 } : Room) s m ([.ref o, .int (nI k)] : List Value).toArray below meth c Hp locs 0 0 (MQ below (xE D A none [(o, .inr (7, mdF th W H mt qu zz nw ol ne se ke nc ns is ik dc sc kd md wh fa re ve ps 0 tl di lv bf bo bd co bt ma)), (mt, .inl (cs 0, 128, .inl M)), (zz, .inl (cs 0, 64, .inl zfn)), (ps, .inl (cs 0, 3, .inl P)), (lv, .inl (cs 0, 384, .inl Lv)), (co, .inl (cs 0, 64, .inl (cof (mDif Lv M fa k))))]) ([.ref o, .int (nI k)] : List Value).toArray s 0 0 A) (F0 m 2 ls []) := by
    intro k2
    induction k2 with
    | zero => intro i h9; omega
    | succ k2 ih_2 =>
      intro i hk2 hi Hp locs ls hP hD hS hl
      have join_126 : i < 64 → ∀ (Hp : Heap) (locs : List Loc) (ls : Array Slot), va_P D vwCl [(o, .inr (7, mdF th W H mt qu zz nw ol ne se ke nc ns is ik dc sc kd md wh fa re ve ps 0 tl di lv bf bo bd co bt ma)), (mt, .inl (cs 0, 128, .inl M)), (zz, .inl (cs 0, 64, .inl zfn)), (ps, .inl (cs 0, 3, .inl P)), (lv, .inl (cs 0, 384, .inl Lv)), (co, .inl (cs 0, 64, .inl (coTo cf (mDif Lv M fa k) i)))] Hp → va_D A [(o, .inr (7, mdF th W H mt qu zz nw ol ne se ke nc ns is ik dc sc kd md wh fa re ve ps 0 tl di lv bf bo bd co bt ma)), (mt, .inl (cs 0, 128, .inl M)), (zz, .inl (cs 0, 64, .inl zfn)), (ps, .inl (cs 0, 3, .inl P)), (lv, .inl (cs 0, 384, .inl Lv)), (co, .inl (cs 0, 64, .inl (coTo cf (mDif Lv M fa k) i)))] → va_S A s.heap Hp locs → lv_has ls 7 [(6, .int (((2 * (Lv (k * 64 + i))) + sg (Lv (k * 64 + i))) * fa * (M (64 + zN i)) / 16)), (4, .int (nI (zN i))), (0, .ref o), (1, .int (nI k)), (2, .int (nI i))] → xW p l e ({ frames := 1, cells := 0, slots := 0, locals := 22 } : Room) s m ([.ref o, .int (nI k)] : List Value).toArray below meth c Hp locs 0 0 (MQ below (xE D A none [(o, .inr (7, mdF th W H mt qu zz nw ol ne se ke nc ns is ik dc sc kd md wh fa re ve ps 0 tl di lv bf bo bd co bt ma)), (mt, .inl (cs 0, 128, .inl M)), (zz, .inl (cs 0, 64, .inl zfn)), (ps, .inl (cs 0, 3, .inl P)), (lv, .inl (cs 0, 384, .inl Lv)), (co, .inl (cs 0, 64, .inl (cof (mDif Lv M fa k))))]) ([.ref o, .int (nI k)] : List Value).toArray s 0 0 A) (F0 m 126 ls [.int (odd (((2 * (Lv (k * 64 + i))) + sg (Lv (k * 64 + i))) * fa * (M (64 + zN i)) / 16))]) := by
        intro hlt Hp locs ls hP hD hS hl
        have hz := zN_lt i hlt
        refine lv_istore (lv' := [(6, .int (odd (((2 * (Lv (k * 64 + i))) + sg (Lv (k * 64 + i))) * fa * (M (64 + zN i)) / 16))), (4, .int (nI (zN i))), (0, .ref o), (1, .int (nI k)), (2, .int (nI i))]) hx hb dX7_scaleAll_126 hl (by decide) rfl (fun ls hl => ?_)
        refine lv_aload_n hx hb dX7_scaleAll_128 rfl (lv_at hl 2 rfl) ?_
        refine xget (C := RX7) (T := TX7) (N := 34) hF hX hP (by decide +kernel) 0 31 rfl rfl (by decide) (by decide +kernel) rfl dX7_scaleAll_129 ?_
        refine lv_iload hx hb dX7_scaleAll_132 (lv_at hl 1 rfl) ?_
        refine lv_iload hx hb dX7_scaleAll_134 (lv_at hl 0 rfl) ?_
        refine lv_sipush (v := (-2048)) hx hb dX7_scaleAll_136 (by decide) ?_
        refine lv_sipush (v := 2047) hx hb dX7_scaleAll_139 (by decide) ?_
        refine xSt (rest := [.int (nI (zN i)), .ref co]) (As := [.int (odd (((2 * (Lv (k * 64 + i))) + sg (Lv (k * 64 + i))) * fa * (M (64 + zN i)) / 16)), .int (-2048), .int 2047]) (ws1 := [(o, .inr (7, mdF th W H mt qu zz nw ol ne se ke nc ns is ik dc sc kd md wh fa re ve ps 0 tl di lv bf bo bd co bt ma)), (mt, .inl (cs 0, 128, .inl M)), (zz, .inl (cs 0, 64, .inl zfn)), (ps, .inl (cs 0, 3, .inl P)), (lv, .inl (cs 0, 384, .inl Lv)), (co, .inl (cs 0, 64, .inl (coTo cf (mDif Lv M fa k) i)))]) (st1 := [.int (bnd (odd (((2 * (Lv (k * 64 + i))) + sg (Lv (k * 64 + i))) * fa * (M (64 + zN i)) / 16)) (-2048) 2047), .int (nI (zN i)), .ref co]) hF (c_X7_within l D cs tt (odd (((2 * (Lv (k * 64 + i))) + sg (Lv (k * 64 + i))) * fa * (M (64 + zN i)) / 16)) (-2048) 2047) gX7_scaleAll_X7_within rfl (n := 3) (by decide +kernel) rfl ⟨⟨rfl, rfl⟩, Nat.le_of_ble_eq_true rfl, Nat.le_of_ble_eq_true rfl⟩ ⟨Nat.le_of_ble_eq_true rfl, Nat.le_of_ble_eq_true rfl⟩ hX hP hD hS [] (by decide) rfl [] rfl rfl hl.1 rfl (Nat.le_of_ble_eq_true rfl) dX7_scaleAll_142 rfl rfl (fun Hp locs hP hD hS => ?_)
        refine xast (k := zN i) (ws1 := [(o, .inr (7, mdF th W H mt qu zz nw ol ne se ke nc ns is ik dc sc kd md wh fa re ve ps 0 tl di lv bf bo bd co bt ma)), (mt, .inl (cs 0, 128, .inl M)), (zz, .inl (cs 0, 64, .inl zfn)), (ps, .inl (cs 0, 3, .inl P)), (lv, .inl (cs 0, 384, .inl Lv)), (co, .inl (cs 0, 64, .inl (coTo cf (mDif Lv M fa k) (i + 1))))]) hF hX hP hD hS 5 rfl (nI_clamp (by omega)) (vp_in_nI hz (by decide)) dX7_scaleAll_145 (congrArg (fun z9 => ([(o, .inr (7, mdF th W H mt qu zz nw ol ne se ke nc ns is ik dc sc kd md wh fa re ve ps 0 tl di lv bf bo bd co bt ma)), (mt, .inl (cs 0, 128, .inl M)), (zz, .inl (cs 0, 64, .inl zfn)), (ps, .inl (cs 0, 3, .inl P)), (lv, .inl (cs 0, 384, .inl Lv)), (co, .inl (cs 0, 64, .inl z9))] : va_W)) (coTo_s cf (mDif Lv M fa k) hlt rfl)) (fun Hp locs hP hD hS => ?_)
        refine lv_iinc (v := (nI (i + 1))) (lv' := [(2, .int (nI (i + 1))), (6, .int (odd (((2 * (Lv (k * 64 + i))) + sg (Lv (k * 64 + i))) * fa * (M (64 + zN i)) / 16))), (4, .int (nI (zN i))), (0, .ref o), (1, .int (nI k))]) hx hb dX7_scaleAll_146 hl (k := 4) rfl (nI_1 i) (by decide) rfl (fun ls hl => ?_)
        refine lv_goto (tgt := 2) hx hb dX7_scaleAll_149 (by decide) ?_
        exact ih_2 (i + 1) (by omega) (by omega) _ _ _ hP hD hS (lv_sub hl [3, 4, 0] rfl)
      have join_52 : i < 64 → ∀ (Hp : Heap) (locs : List Loc) (ls : Array Slot), va_P D vwCl [(o, .inr (7, mdF th W H mt qu zz nw ol ne se ke nc ns is ik dc sc kd md wh fa re ve ps 0 tl di lv bf bo bd co bt ma)), (mt, .inl (cs 0, 128, .inl M)), (zz, .inl (cs 0, 64, .inl zfn)), (ps, .inl (cs 0, 3, .inl P)), (lv, .inl (cs 0, 384, .inl Lv)), (co, .inl (cs 0, 64, .inl (coTo cf (mDif Lv M fa k) i)))] Hp → va_D A [(o, .inr (7, mdF th W H mt qu zz nw ol ne se ke nc ns is ik dc sc kd md wh fa re ve ps 0 tl di lv bf bo bd co bt ma)), (mt, .inl (cs 0, 128, .inl M)), (zz, .inl (cs 0, 64, .inl zfn)), (ps, .inl (cs 0, 3, .inl P)), (lv, .inl (cs 0, 384, .inl Lv)), (co, .inl (cs 0, 64, .inl (coTo cf (mDif Lv M fa k) i)))] → va_S A s.heap Hp locs → lv_has ls 7 [(4, .int (nI (zN i))), (3, .int (Lv (k * 64 + i))), (0, .ref o), (1, .int (nI k)), (2, .int (nI i))] → xW p l e ({ frames := 1, cells := 0, slots := 0, locals := 22 } : Room) s m ([.ref o, .int (nI k)] : List Value).toArray below meth c Hp locs 0 0 (MQ below (xE D A none [(o, .inr (7, mdF th W H mt qu zz nw ol ne se ke nc ns is ik dc sc kd md wh fa re ve ps 0 tl di lv bf bo bd co bt ma)), (mt, .inl (cs 0, 128, .inl M)), (zz, .inl (cs 0, 64, .inl zfn)), (ps, .inl (cs 0, 3, .inl P)), (lv, .inl (cs 0, 384, .inl Lv)), (co, .inl (cs 0, 64, .inl (cof (mDif Lv M fa k))))]) ([.ref o, .int (nI k)] : List Value).toArray s 0 0 A) (F0 m 52 ls [.int (sg (Lv (k * 64 + i)))]) := by
        intro hlt Hp locs ls hP hD hS hl
        have hz := zN_lt i hlt
        refine lv_istore (lv' := [(5, .int (sg (Lv (k * 64 + i)))), (4, .int (nI (zN i))), (3, .int (Lv (k * 64 + i))), (0, .ref o), (1, .int (nI k)), (2, .int (nI i))]) hx hb dX7_scaleAll_52 hl (by decide) rfl (fun ls hl => ?_)
        refine lv_iconst (v := 2) hx hb dX7_scaleAll_54 (by decide) ?_
        refine lv_iload_n hx hb dX7_scaleAll_55 rfl (lv_at hl 2 rfl) ?_
        refine lv_imul hx hb dX7_scaleAll_56 ?_
        refine lv_iload hx hb dX7_scaleAll_57 (lv_at hl 0 rfl) ?_
        refine lv_iadd hx hb dX7_scaleAll_59 ?_
        refine lv_aload_n hx hb dX7_scaleAll_60 rfl (lv_at hl 3 rfl) ?_
        refine xget (C := RX7) (T := TX7) (N := 34) hF hX hP (by decide +kernel) 0 20 rfl rfl (by decide) (by decide +kernel) rfl dX7_scaleAll_61 ?_
        refine lv_imul hx hb dX7_scaleAll_64 ?_
        refine lv_aload_n hx hb dX7_scaleAll_65 rfl (lv_at hl 3 rfl) ?_
        refine xget (C := RX7) (T := TX7) (N := 34) hF hX hP (by decide +kernel) 0 3 rfl rfl (by decide) (by decide +kernel) rfl dX7_scaleAll_66 ?_
        refine lv_aload_n hx hb dX7_scaleAll_69 rfl (lv_at hl 3 rfl) ?_
        refine xget (C := RX7) (T := TX7) (N := 34) hF hX hP (by decide +kernel) 0 24 rfl rfl (by decide) (by decide +kernel) rfl dX7_scaleAll_70 ?_
        refine lv_if_eq (tgt := 81) hx hb dX7_scaleAll_73 (by decide) (fun _ => ?_) (fun c_73 => absurd (by decide) c_73)
        refine lv_bipush (v := 64) hx hb dX7_scaleAll_81 (by decide) ?_
        refine lv_iload hx hb dX7_scaleAll_83 (lv_at hl 1 rfl) ?_
        refine lv_iadd hx hb dX7_scaleAll_85 ?_
        refine xrwi (z := nI (64 + zN i)) (nI_add 64 (zN i)) ?_
        refine xald (k := 64 + zN i) hF hX hP 1 rfl (nI_clamp (by omega)) (vp_in_nI (by omega) (by decide)) dX7_scaleAll_86 ?_
        refine lv_imul hx hb dX7_scaleAll_87 ?_
        refine lv_bipush (v := 16) hx hb dX7_scaleAll_88 (by decide) ?_
        refine lv_idiv hx hb dX7_scaleAll_90 (by decide) ?_
        refine lv_istore (lv' := [(6, .int (((((2 * (Lv (k * 64 + i))) + (sg (Lv (k * 64 + i)))) * fa) * (M (64 + zN i))) / 16)), (5, .int (sg (Lv (k * 64 + i)))), (4, .int (nI (zN i))), (3, .int (Lv (k * 64 + i))), (0, .ref o), (1, .int (nI k)), (2, .int (nI i))]) hx hb dX7_scaleAll_91 hl (by decide) rfl (fun ls hl => ?_)
        refine lv_iload hx hb dX7_scaleAll_93 (lv_at hl 0 rfl) ?_
        refine lv_iconst (v := 2) hx hb dX7_scaleAll_95 (by decide) ?_
        refine lv_irem hx hb dX7_scaleAll_96 (by decide) ?_
        refine lv_if_ne (tgt := 124) hx hb dX7_scaleAll_97 (by decide) (fun c_97 => ?_) (fun c_97 => ?_)
        · refine lv_iload hx hb dX7_scaleAll_124 (lv_at hl 0 rfl) ?_
          refine xrwi (z := odd (((2 * (Lv (k * 64 + i))) + sg (Lv (k * 64 + i))) * fa * (M (64 + zN i)) / 16)) (by unfold odd; rw [if_neg c_97]) ?_
          exact join_126  hlt _ _ _ hP hD hS (lv_sub hl [0, 2, 4, 5, 6] rfl)
        · refine lv_iload hx hb dX7_scaleAll_100 (lv_at hl 0 rfl) ?_
          refine lv_if_eq (tgt := 124) hx hb dX7_scaleAll_102 (by decide) (fun c_102 => ?_) (fun c_102 => ?_)
          · refine lv_iload hx hb dX7_scaleAll_124 (lv_at hl 0 rfl) ?_
            refine xrwi (z := odd (((2 * (Lv (k * 64 + i))) + sg (Lv (k * 64 + i))) * fa * (M (64 + zN i)) / 16)) (by unfold odd; rw [if_pos c_97]; rw [if_pos c_102]) ?_
            exact join_126  hlt _ _ _ hP hD hS (lv_sub hl [0, 2, 4, 5, 6] rfl)
          · refine lv_iload hx hb dX7_scaleAll_105 (lv_at hl 0 rfl) ?_
            refine lv_if_le (tgt := 117) hx hb dX7_scaleAll_107 (by decide) (fun c_107 => ?_) (fun c_107 => ?_)
            · refine lv_iload hx hb dX7_scaleAll_117 (lv_at hl 0 rfl) ?_
              refine lv_iconst (v := 1) hx hb dX7_scaleAll_119 (by decide) ?_
              refine lv_iadd hx hb dX7_scaleAll_120 ?_
              refine lv_goto (tgt := 126) hx hb dX7_scaleAll_121 (by decide) ?_
              refine xrwi (z := odd (((2 * (Lv (k * 64 + i))) + sg (Lv (k * 64 + i))) * fa * (M (64 + zN i)) / 16)) (by unfold odd; rw [if_pos c_97]; rw [if_neg c_102]; rw [if_pos c_107]) ?_
              exact join_126  hlt _ _ _ hP hD hS (lv_sub hl [0, 2, 4, 5, 6] rfl)
            · refine lv_iload hx hb dX7_scaleAll_110 (lv_at hl 0 rfl) ?_
              refine lv_iconst (v := 1) hx hb dX7_scaleAll_112 (by decide) ?_
              refine lv_isub hx hb dX7_scaleAll_113 ?_
              refine lv_goto (tgt := 126) hx hb dX7_scaleAll_114 (by decide) ?_
              refine xrwi (z := odd (((2 * (Lv (k * 64 + i))) + sg (Lv (k * 64 + i))) * fa * (M (64 + zN i)) / 16)) (by unfold odd; rw [if_pos c_97]; rw [if_neg c_102]; rw [if_neg c_107]) ?_
              exact join_126  hlt _ _ _ hP hD hS (lv_sub hl [0, 2, 4, 5, 6] rfl)
      refine lv_iload_n hx hb dX7_scaleAll_2 rfl (lv_at hl 2 rfl) ?_
      refine lv_bipush (v := 64) hx hb dX7_scaleAll_3 (by decide) ?_
      refine lv_icmp_ge (tgt := 152) hx hb dX7_scaleAll_5 (by decide) (fun c_5 => ?_) (fun c_5 => ?_)
      · have e9 : i = 64 := by have := nIle (a := 64) (b := i) rfl rfl (by decide) (by omega) c_5; omega
        have hP1 : va_P D vwCl [(o, .inr (7, mdF th W H mt qu zz nw ol ne se ke nc ns is ik dc sc kd md wh fa re ve ps 0 tl di lv bf bo bd co bt ma)), (mt, .inl (cs 0, 128, .inl M)), (zz, .inl (cs 0, 64, .inl zfn)), (ps, .inl (cs 0, 3, .inl P)), (lv, .inl (cs 0, 384, .inl Lv)), (co, .inl (cs 0, 64, .inl (cof (mDif Lv M fa k))))] Hp := xcongP (g := (cof (mDif Lv M fa k))) hP 5 rfl hD (fun j hj => by unfold coTo cof; rw [e9, if_pos (zI_lt j hj)])
        have hD : va_D A [(o, .inr (7, mdF th W H mt qu zz nw ol ne se ke nc ns is ik dc sc kd md wh fa re ve ps 0 tl di lv bf bo bd co bt ma)), (mt, .inl (cs 0, 128, .inl M)), (zz, .inl (cs 0, 64, .inl zfn)), (ps, .inl (cs 0, 3, .inl P)), (lv, .inl (cs 0, 384, .inl Lv)), (co, .inl (cs 0, 64, .inl (cof (mDif Lv M fa k))))] := xcongD (g := (cof (mDif Lv M fa k))) 5 rfl hD
        have hP := hP1
        refine lv_aload_n hx hb dX7_scaleAll_152 rfl (lv_at hl 0 rfl) ?_
        refine xget (C := RX7) (T := TX7) (N := 34) hF hX hP (by decide +kernel) 0 24 rfl rfl (by decide) (by decide +kernel) rfl dX7_scaleAll_153 ?_
        refine lv_if_eq (tgt := 208) hx hb dX7_scaleAll_156 (by decide) (fun _ => ?_) (fun c_156 => absurd (by decide) c_156)
        exact xrv hF hr hlk hP hD hS dX7_scaleAll_208
      · have hlt : i < 64 := nInle (a := 64) (b := i) rfl rfl (by decide) (by omega) c_5
        have hz := zN_lt i hlt
        refine lv_aload_n hx hb dX7_scaleAll_8 rfl (lv_at hl 0 rfl) ?_
        refine xget (C := RX7) (T := TX7) (N := 34) hF hX hP (by decide +kernel) 0 27 rfl rfl (by decide) (by decide +kernel) rfl dX7_scaleAll_9 ?_
        refine lv_bipush (v := 64) hx hb dX7_scaleAll_12 (by decide) ?_
        refine lv_iload_n hx hb dX7_scaleAll_14 rfl (lv_at hl 1 rfl) ?_
        refine lv_imul hx hb dX7_scaleAll_15 ?_
        refine xrwi (z := nI (k * 64)) (k64 k) ?_
        refine lv_iload_n hx hb dX7_scaleAll_16 rfl (lv_at hl 2 rfl) ?_
        refine lv_iadd hx hb dX7_scaleAll_17 ?_
        refine xrwi (z := nI (k * 64 + i)) (nI_add _ _) ?_
        refine xald (k := k * 64 + i) hF hX hP 4 rfl (nI_clamp (by omega)) (vp_in_nI (by omega) (by omega)) dX7_scaleAll_18 ?_
        refine lv_istore_n (lv' := [(3, .int (Lv (k * 64 + i))), (0, .ref o), (1, .int (nI k)), (2, .int (nI i))]) hx hb dX7_scaleAll_19 rfl hl (by decide) rfl (fun ls hl => ?_)
        refine lv_aload_n hx hb dX7_scaleAll_20 rfl (lv_at hl 1 rfl) ?_
        refine xget (C := RX7) (T := TX7) (N := 34) hF hX hP (by decide +kernel) 0 5 rfl rfl (by decide) (by decide +kernel) rfl dX7_scaleAll_21 ?_
        refine lv_iload_n hx hb dX7_scaleAll_24 rfl (lv_at hl 3 rfl) ?_
        refine xald (k := i) hF hX hP 2 rfl (nI_clamp (by omega)) (vp_in_nI (by omega) (by omega)) dX7_scaleAll_25 ?_
        refine xrwi (z := nI (zN i)) (rfl) ?_
        refine lv_istore (lv' := [(4, .int (nI (zN i))), (3, .int (Lv (k * 64 + i))), (0, .ref o), (1, .int (nI k)), (2, .int (nI i))]) hx hb dX7_scaleAll_26 hl (by decide) rfl (fun ls hl => ?_)
        refine lv_aload_n hx hb dX7_scaleAll_28 rfl (lv_at hl 2 rfl) ?_
        refine xget (C := RX7) (T := TX7) (N := 34) hF hX hP (by decide +kernel) 0 24 rfl rfl (by decide) (by decide +kernel) rfl dX7_scaleAll_29 ?_
        refine lv_if_ne (tgt := 39) hx hb dX7_scaleAll_32 (by decide) (fun c_32 => absurd (by decide) c_32) (fun _ => ?_)
        refine lv_iload_n hx hb dX7_scaleAll_35 rfl (lv_at hl 1 rfl) ?_
        refine lv_if_ne (tgt := 43) hx hb dX7_scaleAll_36 (by decide) (fun c_36 => ?_) (fun c_36 => ?_)
        · refine lv_iload_n hx hb dX7_scaleAll_43 rfl (lv_at hl 1 rfl) ?_
          refine lv_if_le (tgt := 51) hx hb dX7_scaleAll_44 (by decide) (fun c_44 => ?_) (fun c_44 => ?_)
          · refine lv_iconst (v := -1) hx hb dX7_scaleAll_51 (by decide) ?_
            refine xrwi (z := sg (Lv (k * 64 + i))) (by unfold sg; rw [if_neg c_36]; rw [if_pos c_44]) ?_
            exact join_52  hlt _ _ _ hP hD hS (lv_sub hl [0, 1, 2, 3, 4] rfl)
          · refine lv_iconst (v := 1) hx hb dX7_scaleAll_47 (by decide) ?_
            refine lv_goto (tgt := 52) hx hb dX7_scaleAll_48 (by decide) ?_
            refine xrwi (z := sg (Lv (k * 64 + i))) (by unfold sg; rw [if_neg c_36]; rw [if_neg c_44]) ?_
            exact join_52  hlt _ _ _ hP hD hS (lv_sub hl [0, 1, 2, 3, 4] rfl)
        · refine lv_iconst (v := 0) hx hb dX7_scaleAll_39 (by decide) ?_
          refine lv_goto (tgt := 52) hx hb dX7_scaleAll_40 (by decide) ?_
          refine xrwi (z := sg (Lv (k * 64 + i))) (by unfold sg; rw [if_pos c_36]) ?_
          exact join_52  hlt _ _ _ hP hD hS (lv_sub hl [0, 1, 2, 3, 4] rfl)
  have hP := xeqP hP (congrArg (fun z9 => ([(o, .inr (7, mdF th W H mt qu zz nw ol ne se ke nc ns is ik dc sc kd md wh fa re ve ps 0 tl di lv bf bo bd co bt ma)), (mt, .inl (cs 0, 128, .inl M)), (zz, .inl (cs 0, 64, .inl zfn)), (ps, .inl (cs 0, 3, .inl P)), (lv, .inl (cs 0, 384, .inl Lv)), (co, .inl (cs 0, 64, .inl z9))] : va_W)) ((coTo_0 cf (mDif Lv M fa k)).symm))
  have hD := xeqD hD (congrArg (fun z9 => ([(o, .inr (7, mdF th W H mt qu zz nw ol ne se ke nc ns is ik dc sc kd md wh fa re ve ps 0 tl di lv bf bo bd co bt ma)), (mt, .inl (cs 0, 128, .inl M)), (zz, .inl (cs 0, 64, .inl zfn)), (ps, .inl (cs 0, 3, .inl P)), (lv, .inl (cs 0, 384, .inl Lv)), (co, .inl (cs 0, 64, .inl z9))] : va_W)) ((coTo_0 cf (mDif Lv M fa k)).symm))
  exact loop_2 (64 - 0 + 1) 0 (Nat.lt_succ_self _) (by decide) _ _ _ hP hD hS (lv_sub hl [1, 2, 0] rfl)

set_option maxHeartbeats 4000000 in
set_option maxRecDepth 100000 in
theorem c_X7_makeSamples (l : Launch) (D : va_G) (cs : Nat → ClassId) (tt : Nat → Nat) (o mt qu zz nw ol ne se ke re ve ps di lv bd co bt ma W H md : Nat) (th nc ns is ik dc sc kd wh fa ow tl bf bo : Int32) (C bf9 mf : Nat → Int32)  : xM l yX7_makeSamples wsX7_makeSamples ({ frames := 1, cells := 0, slots := 0, locals := 23 } : Room) D cs tt [.ref o] [(o, .inr (7, mdF th W H mt qu zz nw ol ne se ke nc ns is ik dc sc kd md wh fa re ve ps ow tl di lv bf bo bd co bt ma)), (qu, .inl (cs 0, 9, .inl qrt)), (co, .inl (cs 0, 64, .inl C)), (bt, .inl (cs 0, 64, .inl bf9)), (ma, .inl (cs 0, 64, .inl mf))] none [(o, .inr (7, mdF th W H mt qu zz nw ol ne se ke nc ns is ik dc sc kd md wh fa re ve ps ow tl di lv bf bo bd co bt ma)), (qu, .inl (cs 0, 9, .inl qrt)), (co, .inl (cs 0, 64, .inl C)), (bt, .inl (cs 0, 64, .inl (half C))), (ma, .inl (cs 0, 64, .inl (full (half C))))] := by
  refine xM.of RX7 rfl (by decide) rfl (Nat.le_of_ble_eq_true rfl) ?_
  intro p e s m below meth c A ls hF hr hlk hX hP hD hS hl
  have hx := hF.1
  have hb := hF.2.1
  have hl : lv_has ls 5 [(0, .ref o)] := hl
  refine lv_iconst (v := 0) hx hb dX7_makeSamples_0 (by decide) ?_
  refine lv_istore_n (lv' := [(1, .int 0), (0, .ref o)]) hx hb dX7_makeSamples_1 rfl hl (by decide) rfl (fun ls hl => ?_)
  have loop_2 : ∀ (k2 : Nat) (v : Nat), 8 - v < k2 → v ≤ 8 → ∀ (Hp : Heap) (locs : List Loc) (ls : Array Slot), va_P D vwCl [(o, .inr (7, mdF th W H mt qu zz nw ol ne se ke nc ns is ik dc sc kd md wh fa re ve ps ow tl di lv bf bo bd co bt ma)), (qu, .inl (cs 0, 9, .inl qrt)), (co, .inl (cs 0, 64, .inl C)), (bt, .inl (cs 0, 64, .inl (ovr bf9 (half C) (v * 8)))), (ma, .inl (cs 0, 64, .inl mf))] Hp → va_D A [(o, .inr (7, mdF th W H mt qu zz nw ol ne se ke nc ns is ik dc sc kd md wh fa re ve ps ow tl di lv bf bo bd co bt ma)), (qu, .inl (cs 0, 9, .inl qrt)), (co, .inl (cs 0, 64, .inl C)), (bt, .inl (cs 0, 64, .inl (ovr bf9 (half C) (v * 8)))), (ma, .inl (cs 0, 64, .inl mf))] → va_S A s.heap Hp locs → lv_has ls 5 [(0, .ref o), (1, .int (nI v))] → xW p l e ({ frames := 1, cells := 0, slots := 0, locals := 23 } : Room) s m ([.ref o] : List Value).toArray below meth c Hp locs 0 0 (MQ below (xE D A none [(o, .inr (7, mdF th W H mt qu zz nw ol ne se ke nc ns is ik dc sc kd md wh fa re ve ps ow tl di lv bf bo bd co bt ma)), (qu, .inl (cs 0, 9, .inl qrt)), (co, .inl (cs 0, 64, .inl C)), (bt, .inl (cs 0, 64, .inl (half C))), (ma, .inl (cs 0, 64, .inl (full (half C))))]) ([.ref o] : List Value).toArray s 0 0 A) (F0 m 2 ls []) := by
    intro k2
    induction k2 with
    | zero => intro v h9; omega
    | succ k2 ih_2 =>
      intro v hk2 hv9 Hp locs ls hP hD hS hl
      refine lv_iload_n hx hb dX7_makeSamples_2 rfl (lv_at hl 1 rfl) ?_
      refine lv_bipush (v := 8) hx hb dX7_makeSamples_3 (by decide) ?_
      refine lv_icmp_ge (tgt := 86) hx hb dX7_makeSamples_5 (by decide) (fun c_5 => ?_) (fun c_5 => ?_)
      · have ev : v = 8 := by have := nIle (a := 8) (b := v) rfl rfl (by decide) (by omega) c_5; omega
        have hP1 : va_P D vwCl [(o, .inr (7, mdF th W H mt qu zz nw ol ne se ke nc ns is ik dc sc kd md wh fa re ve ps ow tl di lv bf bo bd co bt ma)), (qu, .inl (cs 0, 9, .inl qrt)), (co, .inl (cs 0, 64, .inl C)), (bt, .inl (cs 0, 64, .inl (half C))), (ma, .inl (cs 0, 64, .inl mf))] Hp := xcongP (g := (half C)) hP 3 rfl hD (fun j hj => by simp [ovr, ev, hj])
        have hD : va_D A [(o, .inr (7, mdF th W H mt qu zz nw ol ne se ke nc ns is ik dc sc kd md wh fa re ve ps ow tl di lv bf bo bd co bt ma)), (qu, .inl (cs 0, 9, .inl qrt)), (co, .inl (cs 0, 64, .inl C)), (bt, .inl (cs 0, 64, .inl (half C))), (ma, .inl (cs 0, 64, .inl mf))] := xcongD (g := (half C)) 3 rfl hD
        have hP := hP1
        refine lv_iconst (v := 0) hx hb dX7_makeSamples_86 (by decide) ?_
        refine lv_istore_n (lv' := [(1, .int 0), (0, .ref o)]) hx hb dX7_makeSamples_87 rfl hl (by decide) rfl (fun ls hl => ?_)
        have loop_88 : ∀ (k88 : Nat) (y : Nat), 8 - y < k88 → y ≤ 8 → ∀ (Hp : Heap) (locs : List Loc) (ls : Array Slot), va_P D vwCl [(o, .inr (7, mdF th W H mt qu zz nw ol ne se ke nc ns is ik dc sc kd md wh fa re ve ps ow tl di lv bf bo bd co bt ma)), (qu, .inl (cs 0, 9, .inl qrt)), (co, .inl (cs 0, 64, .inl C)), (bt, .inl (cs 0, 64, .inl (half C))), (ma, .inl (cs 0, 64, .inl (ovr mf (full (half C)) (y * 8))))] Hp → va_D A [(o, .inr (7, mdF th W H mt qu zz nw ol ne se ke nc ns is ik dc sc kd md wh fa re ve ps ow tl di lv bf bo bd co bt ma)), (qu, .inl (cs 0, 9, .inl qrt)), (co, .inl (cs 0, 64, .inl C)), (bt, .inl (cs 0, 64, .inl (half C))), (ma, .inl (cs 0, 64, .inl (ovr mf (full (half C)) (y * 8))))] → va_S A s.heap Hp locs → lv_has ls 5 [(0, .ref o), (1, .int (nI y))] → xW p l e ({ frames := 1, cells := 0, slots := 0, locals := 23 } : Room) s m ([.ref o] : List Value).toArray below meth c Hp locs 0 0 (MQ below (xE D A none [(o, .inr (7, mdF th W H mt qu zz nw ol ne se ke nc ns is ik dc sc kd md wh fa re ve ps ow tl di lv bf bo bd co bt ma)), (qu, .inl (cs 0, 9, .inl qrt)), (co, .inl (cs 0, 64, .inl C)), (bt, .inl (cs 0, 64, .inl (half C))), (ma, .inl (cs 0, 64, .inl (full (half C))))]) ([.ref o] : List Value).toArray s 0 0 A) (F0 m 88 ls []) := by
          intro k88
          induction k88 with
          | zero => intro y h9; omega
          | succ k88 ih_88 =>
            intro y hk88 hy9 Hp locs ls hP hD hS hl
            refine lv_iload_n hx hb dX7_makeSamples_88 rfl (lv_at hl 1 rfl) ?_
            refine lv_bipush (v := 8) hx hb dX7_makeSamples_89 (by decide) ?_
            refine lv_icmp_ge (tgt := 172) hx hb dX7_makeSamples_91 (by decide) (fun c_91 => ?_) (fun c_91 => ?_)
            · have ey : y = 8 := by have := nIle (a := 8) (b := y) rfl rfl (by decide) (by omega) c_91; omega
              have hP1 : va_P D vwCl [(o, .inr (7, mdF th W H mt qu zz nw ol ne se ke nc ns is ik dc sc kd md wh fa re ve ps ow tl di lv bf bo bd co bt ma)), (qu, .inl (cs 0, 9, .inl qrt)), (co, .inl (cs 0, 64, .inl C)), (bt, .inl (cs 0, 64, .inl (half C))), (ma, .inl (cs 0, 64, .inl (full (half C))))] Hp := xcongP (g := (full (half C))) hP 4 rfl hD (fun j hj => by simp [ovr, ey, hj])
              have hD : va_D A [(o, .inr (7, mdF th W H mt qu zz nw ol ne se ke nc ns is ik dc sc kd md wh fa re ve ps ow tl di lv bf bo bd co bt ma)), (qu, .inl (cs 0, 9, .inl qrt)), (co, .inl (cs 0, 64, .inl C)), (bt, .inl (cs 0, 64, .inl (half C))), (ma, .inl (cs 0, 64, .inl (full (half C))))] := xcongD (g := (full (half C))) 4 rfl hD
              have hP := hP1
              exact xrv hF hr hlk hP hD hS dX7_makeSamples_172
            · have hyl : y < 8 := nInle (a := 8) (b := y) rfl rfl (by decide) (by omega) c_91
              refine lv_iconst (v := 0) hx hb dX7_makeSamples_94 (by decide) ?_
              refine lv_istore_n (lv' := [(2, .int 0), (0, .ref o), (1, .int (nI y))]) hx hb dX7_makeSamples_95 rfl hl (by decide) rfl (fun ls hl => ?_)
              have loop_96 : ∀ (k96 : Nat) (x2 : Nat), 8 - x2 < k96 → x2 ≤ 8 → ∀ (Hp : Heap) (locs : List Loc) (ls : Array Slot), va_P D vwCl [(o, .inr (7, mdF th W H mt qu zz nw ol ne se ke nc ns is ik dc sc kd md wh fa re ve ps ow tl di lv bf bo bd co bt ma)), (qu, .inl (cs 0, 9, .inl qrt)), (co, .inl (cs 0, 64, .inl C)), (bt, .inl (cs 0, 64, .inl (half C))), (ma, .inl (cs 0, 64, .inl (ovr mf (full (half C)) (y * 8 + x2))))] Hp → va_D A [(o, .inr (7, mdF th W H mt qu zz nw ol ne se ke nc ns is ik dc sc kd md wh fa re ve ps ow tl di lv bf bo bd co bt ma)), (qu, .inl (cs 0, 9, .inl qrt)), (co, .inl (cs 0, 64, .inl C)), (bt, .inl (cs 0, 64, .inl (half C))), (ma, .inl (cs 0, 64, .inl (ovr mf (full (half C)) (y * 8 + x2))))] → va_S A s.heap Hp locs → lv_has ls 5 [(0, .ref o), (1, .int (nI y)), (2, .int (nI x2))] → xW p l e ({ frames := 1, cells := 0, slots := 0, locals := 23 } : Room) s m ([.ref o] : List Value).toArray below meth c Hp locs 0 0 (MQ below (xE D A none [(o, .inr (7, mdF th W H mt qu zz nw ol ne se ke nc ns is ik dc sc kd md wh fa re ve ps ow tl di lv bf bo bd co bt ma)), (qu, .inl (cs 0, 9, .inl qrt)), (co, .inl (cs 0, 64, .inl C)), (bt, .inl (cs 0, 64, .inl (half C))), (ma, .inl (cs 0, 64, .inl (full (half C))))]) ([.ref o] : List Value).toArray s 0 0 A) (F0 m 96 ls []) := by
                intro k96
                induction k96 with
                | zero => intro x2 h9; omega
                | succ k96 ih_96 =>
                  intro x2 hk96 hx29 Hp locs ls hP hD hS hl
                  refine lv_iload_n hx hb dX7_makeSamples_96 rfl (lv_at hl 2 rfl) ?_
                  refine lv_bipush (v := 8) hx hb dX7_makeSamples_97 (by decide) ?_
                  refine lv_icmp_ge (tgt := 166) hx hb dX7_makeSamples_99 (by decide) (fun c_99 => ?_) (fun c_99 => ?_)
                  · have ex2 : x2 = 8 := by have := nIle (a := 8) (b := x2) rfl rfl (by decide) (by omega) c_99; omega
                    have hP := xeqP hP (congrArg (fun z9 => ([(o, .inr (7, mdF th W H mt qu zz nw ol ne se ke nc ns is ik dc sc kd md wh fa re ve ps ow tl di lv bf bo bd co bt ma)), (qu, .inl (cs 0, 9, .inl qrt)), (co, .inl (cs 0, 64, .inl C)), (bt, .inl (cs 0, 64, .inl (half C))), (ma, .inl (cs 0, 64, .inl z9))] : va_W)) (congrArg (ovr mf (full (half C))) (show y * 8 + x2 = (y + 1) * 8 by omega)))
                    have hD := xeqD hD (congrArg (fun z9 => ([(o, .inr (7, mdF th W H mt qu zz nw ol ne se ke nc ns is ik dc sc kd md wh fa re ve ps ow tl di lv bf bo bd co bt ma)), (qu, .inl (cs 0, 9, .inl qrt)), (co, .inl (cs 0, 64, .inl C)), (bt, .inl (cs 0, 64, .inl (half C))), (ma, .inl (cs 0, 64, .inl z9))] : va_W)) (congrArg (ovr mf (full (half C))) (show y * 8 + x2 = (y + 1) * 8 by omega)))
                    refine lv_iinc (v := (nI (y + 1))) (lv' := [(1, .int (nI (y + 1))), (0, .ref o), (2, .int (nI x2))]) hx hb dX7_makeSamples_166 hl (k := 1) rfl (nI_1 y) (by decide) rfl (fun ls hl => ?_)
                    refine lv_goto (tgt := 88) hx hb dX7_makeSamples_169 (by decide) ?_
                    exact ih_88 (y + 1) (by omega) (by omega) _ _ _ hP hD hS (lv_sub hl [1, 0] rfl)
                  · have hx2l : x2 < 8 := nInle (a := 8) (b := x2) rfl rfl (by decide) (by omega) c_99
                    refine lv_sipush (v := 8192) hx hb dX7_makeSamples_102 (by decide) ?_
                    refine lv_istore_n (lv' := [(3, .int 8192), (0, .ref o), (1, .int (nI y)), (2, .int (nI x2))]) hx hb dX7_makeSamples_105 rfl hl (by decide) rfl (fun ls hl => ?_)
                    refine lv_iconst (v := 0) hx hb dX7_makeSamples_106 (by decide) ?_
                    refine lv_istore (lv' := [(4, .int 0), (3, .int 8192), (0, .ref o), (1, .int (nI y)), (2, .int (nI x2))]) hx hb dX7_makeSamples_107 hl (by decide) rfl (fun ls hl => ?_)
                    have loop_109 : ∀ (k109 : Nat) (v2 : Nat), 8 - v2 < k109 → v2 ≤ 8 → ∀ (Hp : Heap) (locs : List Loc) (ls : Array Slot), va_P D vwCl [(o, .inr (7, mdF th W H mt qu zz nw ol ne se ke nc ns is ik dc sc kd md wh fa re ve ps ow tl di lv bf bo bd co bt ma)), (qu, .inl (cs 0, 9, .inl qrt)), (co, .inl (cs 0, 64, .inl C)), (bt, .inl (cs 0, 64, .inl (half C))), (ma, .inl (cs 0, 64, .inl (ovr mf (full (half C)) (y * 8 + x2))))] Hp → va_D A [(o, .inr (7, mdF th W H mt qu zz nw ol ne se ke nc ns is ik dc sc kd md wh fa re ve ps ow tl di lv bf bo bd co bt ma)), (qu, .inl (cs 0, 9, .inl qrt)), (co, .inl (cs 0, 64, .inl C)), (bt, .inl (cs 0, 64, .inl (half C))), (ma, .inl (cs 0, 64, .inl (ovr mf (full (half C)) (y * 8 + x2))))] → va_S A s.heap Hp locs → lv_has ls 5 [(0, .ref o), (1, .int (nI y)), (2, .int (nI x2)), (3, .int (msum 8192 (fun v9 => wvf v9 y * half C (v9 * 8 + x2)) v2)), (4, .int (nI v2))] → xW p l e ({ frames := 1, cells := 0, slots := 0, locals := 23 } : Room) s m ([.ref o] : List Value).toArray below meth c Hp locs 0 0 (MQ below (xE D A none [(o, .inr (7, mdF th W H mt qu zz nw ol ne se ke nc ns is ik dc sc kd md wh fa re ve ps ow tl di lv bf bo bd co bt ma)), (qu, .inl (cs 0, 9, .inl qrt)), (co, .inl (cs 0, 64, .inl C)), (bt, .inl (cs 0, 64, .inl (half C))), (ma, .inl (cs 0, 64, .inl (full (half C))))]) ([.ref o] : List Value).toArray s 0 0 A) (F0 m 109 ls []) := by
                      intro k109
                      induction k109 with
                      | zero => intro v2 h9; omega
                      | succ k109 ih_109 =>
                        intro v2 hk109 hv29 Hp locs ls hP hD hS hl
                        refine lv_iload hx hb dX7_makeSamples_109 (lv_at hl 4 rfl) ?_
                        refine lv_bipush (v := 8) hx hb dX7_makeSamples_111 (by decide) ?_
                        refine lv_icmp_ge (tgt := 145) hx hb dX7_makeSamples_113 (by decide) (fun c_113 => ?_) (fun c_113 => ?_)
                        · have ev2 : v2 = 8 := by have := nIle (a := 8) (b := v2) rfl rfl (by decide) (by omega) c_113; omega
                          refine lv_aload_n hx hb dX7_makeSamples_145 rfl (lv_at hl 0 rfl) ?_
                          refine xget (C := RX7) (T := TX7) (N := 34) hF hX hP (by decide +kernel) 0 33 rfl rfl (by decide) (by decide +kernel) rfl dX7_makeSamples_146 ?_
                          refine lv_bipush (v := 8) hx hb dX7_makeSamples_149 (by decide) ?_
                          refine lv_iload_n hx hb dX7_makeSamples_151 rfl (lv_at hl 1 rfl) ?_
                          refine lv_imul hx hb dX7_makeSamples_152 ?_
                          refine lv_iload_n hx hb dX7_makeSamples_153 rfl (lv_at hl 2 rfl) ?_
                          refine lv_iadd hx hb dX7_makeSamples_154 ?_
                          refine xrwi (z := nI (y * 8 + x2)) (k8 y x2) ?_
                          refine lv_iload_n hx hb dX7_makeSamples_155 rfl (lv_at hl 3 rfl) ?_
                          refine lv_bipush (v := 14) hx hb dX7_makeSamples_156 (by decide) ?_
                          refine lv_ishr hx hb dX7_makeSamples_158 ?_
                          refine xast (k := y * 8 + x2) (ws1 := [(o, .inr (7, mdF th W H mt qu zz nw ol ne se ke nc ns is ik dc sc kd md wh fa re ve ps ow tl di lv bf bo bd co bt ma)), (qu, .inl (cs 0, 9, .inl qrt)), (co, .inl (cs 0, 64, .inl C)), (bt, .inl (cs 0, 64, .inl (half C))), (ma, .inl (cs 0, 64, .inl (ovr mf (full (half C)) (y * 8 + x2 + 1))))]) hF hX hP hD hS 4 rfl (nI_clamp (by omega)) (vp_in_nI (by omega) (by decide)) dX7_makeSamples_159 (congrArg (fun z9 => ([(o, .inr (7, mdF th W H mt qu zz nw ol ne se ke nc ns is ik dc sc kd md wh fa re ve ps ow tl di lv bf bo bd co bt ma)), (qu, .inl (cs 0, 9, .inl qrt)), (co, .inl (cs 0, 64, .inl C)), (bt, .inl (cs 0, 64, .inl (half C))), (ma, .inl (cs 0, 64, .inl z9))] : va_W)) (ovr_s mf (full (half C)) (y * 8 + x2) (by rw [ev2]; exact fullM (half C) hx2l))) (fun Hp locs hP hD hS => ?_)
                          refine lv_iinc (v := (nI (x2 + 1))) (lv' := [(2, .int (nI (x2 + 1))), (0, .ref o), (1, .int (nI y)), (3, .int (msum 8192 (fun v9 => wvf v9 y * half C (v9 * 8 + x2)) v2)), (4, .int (nI v2))]) hx hb dX7_makeSamples_160 hl (k := 2) rfl (nI_1 x2) (by decide) rfl (fun ls hl => ?_)
                          refine lv_goto (tgt := 96) hx hb dX7_makeSamples_163 (by decide) ?_
                          exact ih_96 (x2 + 1) (by omega) (by omega) _ _ _ hP hD hS (lv_sub hl [1, 2, 0] rfl)
                        · have hv2l : v2 < 8 := nInle (a := 8) (b := v2) rfl rfl (by decide) (by omega) c_113
                          refine lv_iload_n hx hb dX7_makeSamples_116 rfl (lv_at hl 3 rfl) ?_
                          refine lv_aload_n hx hb dX7_makeSamples_117 rfl (lv_at hl 0 rfl) ?_
                          refine lv_iload hx hb dX7_makeSamples_118 (lv_at hl 4 rfl) ?_
                          refine lv_iload_n hx hb dX7_makeSamples_120 rfl (lv_at hl 1 rfl) ?_
                          refine xV (rest := [.int (msum 8192 (fun v9 => wvf v9 y * half C (v9 * 8 + x2)) v2)]) (As := [.int (nI v2), .int (nI y)]) (ws1 := [(o, .inr (7, mdF th W H mt qu zz nw ol ne se ke nc ns is ik dc sc kd md wh fa re ve ps ow tl di lv bf bo bd co bt ma)), (qu, .inl (cs 0, 9, .inl qrt)), (co, .inl (cs 0, 64, .inl C)), (bt, .inl (cs 0, 64, .inl (half C))), (ma, .inl (cs 0, 64, .inl (ovr mf (full (half C)) (y * 8 + x2))))]) (st1 := [.int (wvf v2 y), .int (msum 8192 (fun v9 => wvf v9 y * half C (v9 * 8 + x2)) v2)]) hF (c_X7_factor l D cs tt o mt qu zz nw ol ne se ke re ve ps di lv bd co bt ma W H md th nc ns is ik dc sc kd wh fa ow tl bf bo v2 y hv2l hyl) gX7_makeSamples_X7_factor rfl (n := 2) (by decide +kernel) rfl ⟨⟨rfl, rfl⟩, Nat.le_of_ble_eq_true rfl, Nat.le_of_ble_eq_true rfl⟩ ⟨Nat.le_of_ble_eq_true rfl, Nat.le_of_ble_eq_true rfl⟩ hX hP hD hS [0, 1] (by decide) rfl [o, qu] rfl rfl (q0 := 0) (ci := 7) rfl rfl rfl hl.1 rfl (Nat.le_of_ble_eq_true rfl) dX7_makeSamples_121 rfl rfl (fun Hp locs hP hD hS => ?_)
                          refine lv_aload_n hx hb dX7_makeSamples_124 rfl (lv_at hl 0 rfl) ?_
                          refine xget (C := RX7) (T := TX7) (N := 34) hF hX hP (by decide +kernel) 0 32 rfl rfl (by decide) (by decide +kernel) rfl dX7_makeSamples_125 ?_
                          refine lv_bipush (v := 8) hx hb dX7_makeSamples_128 (by decide) ?_
                          refine lv_iload hx hb dX7_makeSamples_130 (lv_at hl 4 rfl) ?_
                          refine lv_imul hx hb dX7_makeSamples_132 ?_
                          refine lv_iload_n hx hb dX7_makeSamples_133 rfl (lv_at hl 2 rfl) ?_
                          refine lv_iadd hx hb dX7_makeSamples_134 ?_
                          refine xrwi (z := nI (v2 * 8 + x2)) (k8 v2 x2) ?_
                          refine xald (k := v2 * 8 + x2) hF hX hP 3 rfl (nI_clamp (by omega)) (vp_in_nI (by omega) (by decide)) dX7_makeSamples_135 ?_
                          refine lv_imul hx hb dX7_makeSamples_136 ?_
                          refine lv_iadd hx hb dX7_makeSamples_137 ?_
                          refine lv_istore_n (lv' := [(3, .int ((msum 8192 (fun v9 => wvf v9 y * half C (v9 * 8 + x2)) v2) + ((wvf v2 y) * ((half C) (v2 * 8 + x2))))), (0, .ref o), (1, .int (nI y)), (2, .int (nI x2)), (4, .int (nI v2))]) hx hb dX7_makeSamples_138 rfl hl (by decide) rfl (fun ls hl => ?_)
                          refine lv_iinc (v := (nI (v2 + 1))) (lv' := [(4, .int (nI (v2 + 1))), (3, .int ((msum 8192 (fun v9 => wvf v9 y * half C (v9 * 8 + x2)) v2) + ((wvf v2 y) * ((half C) (v2 * 8 + x2))))), (0, .ref o), (1, .int (nI y)), (2, .int (nI x2))]) hx hb dX7_makeSamples_139 hl (k := 4) rfl (nI_1 v2) (by decide) rfl (fun ls hl => ?_)
                          refine lv_goto (tgt := 109) hx hb dX7_makeSamples_142 (by decide) ?_
                          exact ih_109 (v2 + 1) (by omega) (by omega) _ _ _ hP hD hS (lv_sub hl [2, 3, 4, 1, 0] rfl)
                    exact loop_109 (8 - 0 + 1) 0 (Nat.lt_succ_self _) (by decide) _ _ _ hP hD hS (lv_sub hl [2, 3, 4, 1, 0] rfl)
              exact loop_96 (8 - 0 + 1) 0 (Nat.lt_succ_self _) (by decide) _ _ _ hP hD hS (lv_sub hl [1, 2, 0] rfl)
        have hP := xeqP hP (congrArg (fun z9 => ([(o, .inr (7, mdF th W H mt qu zz nw ol ne se ke nc ns is ik dc sc kd md wh fa re ve ps ow tl di lv bf bo bd co bt ma)), (qu, .inl (cs 0, 9, .inl qrt)), (co, .inl (cs 0, 64, .inl C)), (bt, .inl (cs 0, 64, .inl (half C))), (ma, .inl (cs 0, 64, .inl z9))] : va_W)) ((show mf = ovr mf (full (half C)) (0 * 8) from (ovr_0 mf (full (half C))).symm)))
        have hD := xeqD hD (congrArg (fun z9 => ([(o, .inr (7, mdF th W H mt qu zz nw ol ne se ke nc ns is ik dc sc kd md wh fa re ve ps ow tl di lv bf bo bd co bt ma)), (qu, .inl (cs 0, 9, .inl qrt)), (co, .inl (cs 0, 64, .inl C)), (bt, .inl (cs 0, 64, .inl (half C))), (ma, .inl (cs 0, 64, .inl z9))] : va_W)) ((show mf = ovr mf (full (half C)) (0 * 8) from (ovr_0 mf (full (half C))).symm)))
        exact loop_88 (8 - 0 + 1) 0 (Nat.lt_succ_self _) (by decide) _ _ _ hP hD hS (lv_sub hl [1, 0] rfl)
      · have hvl : v < 8 := nInle (a := 8) (b := v) rfl rfl (by decide) (by omega) c_5
        refine lv_iconst (v := 0) hx hb dX7_makeSamples_8 (by decide) ?_
        refine lv_istore_n (lv' := [(2, .int 0), (0, .ref o), (1, .int (nI v))]) hx hb dX7_makeSamples_9 rfl hl (by decide) rfl (fun ls hl => ?_)
        have loop_10 : ∀ (k10 : Nat) (x : Nat), 8 - x < k10 → x ≤ 8 → ∀ (Hp : Heap) (locs : List Loc) (ls : Array Slot), va_P D vwCl [(o, .inr (7, mdF th W H mt qu zz nw ol ne se ke nc ns is ik dc sc kd md wh fa re ve ps ow tl di lv bf bo bd co bt ma)), (qu, .inl (cs 0, 9, .inl qrt)), (co, .inl (cs 0, 64, .inl C)), (bt, .inl (cs 0, 64, .inl (ovr bf9 (half C) (v * 8 + x)))), (ma, .inl (cs 0, 64, .inl mf))] Hp → va_D A [(o, .inr (7, mdF th W H mt qu zz nw ol ne se ke nc ns is ik dc sc kd md wh fa re ve ps ow tl di lv bf bo bd co bt ma)), (qu, .inl (cs 0, 9, .inl qrt)), (co, .inl (cs 0, 64, .inl C)), (bt, .inl (cs 0, 64, .inl (ovr bf9 (half C) (v * 8 + x)))), (ma, .inl (cs 0, 64, .inl mf))] → va_S A s.heap Hp locs → lv_has ls 5 [(0, .ref o), (1, .int (nI v)), (2, .int (nI x))] → xW p l e ({ frames := 1, cells := 0, slots := 0, locals := 23 } : Room) s m ([.ref o] : List Value).toArray below meth c Hp locs 0 0 (MQ below (xE D A none [(o, .inr (7, mdF th W H mt qu zz nw ol ne se ke nc ns is ik dc sc kd md wh fa re ve ps ow tl di lv bf bo bd co bt ma)), (qu, .inl (cs 0, 9, .inl qrt)), (co, .inl (cs 0, 64, .inl C)), (bt, .inl (cs 0, 64, .inl (half C))), (ma, .inl (cs 0, 64, .inl (full (half C))))]) ([.ref o] : List Value).toArray s 0 0 A) (F0 m 10 ls []) := by
          intro k10
          induction k10 with
          | zero => intro x h9; omega
          | succ k10 ih_10 =>
            intro x hk10 hx9 Hp locs ls hP hD hS hl
            refine lv_iload_n hx hb dX7_makeSamples_10 rfl (lv_at hl 2 rfl) ?_
            refine lv_bipush (v := 8) hx hb dX7_makeSamples_11 (by decide) ?_
            refine lv_icmp_ge (tgt := 80) hx hb dX7_makeSamples_13 (by decide) (fun c_13 => ?_) (fun c_13 => ?_)
            · have ex : x = 8 := by have := nIle (a := 8) (b := x) rfl rfl (by decide) (by omega) c_13; omega
              have hP := xeqP hP (congrArg (fun z9 => ([(o, .inr (7, mdF th W H mt qu zz nw ol ne se ke nc ns is ik dc sc kd md wh fa re ve ps ow tl di lv bf bo bd co bt ma)), (qu, .inl (cs 0, 9, .inl qrt)), (co, .inl (cs 0, 64, .inl C)), (bt, .inl (cs 0, 64, .inl z9)), (ma, .inl (cs 0, 64, .inl mf))] : va_W)) (congrArg (ovr bf9 (half C)) (show v * 8 + x = (v + 1) * 8 by omega)))
              have hD := xeqD hD (congrArg (fun z9 => ([(o, .inr (7, mdF th W H mt qu zz nw ol ne se ke nc ns is ik dc sc kd md wh fa re ve ps ow tl di lv bf bo bd co bt ma)), (qu, .inl (cs 0, 9, .inl qrt)), (co, .inl (cs 0, 64, .inl C)), (bt, .inl (cs 0, 64, .inl z9)), (ma, .inl (cs 0, 64, .inl mf))] : va_W)) (congrArg (ovr bf9 (half C)) (show v * 8 + x = (v + 1) * 8 by omega)))
              refine lv_iinc (v := (nI (v + 1))) (lv' := [(1, .int (nI (v + 1))), (0, .ref o), (2, .int (nI x))]) hx hb dX7_makeSamples_80 hl (k := 1) rfl (nI_1 v) (by decide) rfl (fun ls hl => ?_)
              refine lv_goto (tgt := 2) hx hb dX7_makeSamples_83 (by decide) ?_
              exact ih_2 (v + 1) (by omega) (by omega) _ _ _ hP hD hS (lv_sub hl [1, 0] rfl)
            · have hxl : x < 8 := nInle (a := 8) (b := x) rfl rfl (by decide) (by omega) c_13
              refine lv_sipush (v := 128) hx hb dX7_makeSamples_16 (by decide) ?_
              refine lv_istore_n (lv' := [(3, .int 128), (0, .ref o), (1, .int (nI v)), (2, .int (nI x))]) hx hb dX7_makeSamples_19 rfl hl (by decide) rfl (fun ls hl => ?_)
              refine lv_iconst (v := 0) hx hb dX7_makeSamples_20 (by decide) ?_
              refine lv_istore (lv' := [(4, .int 0), (3, .int 128), (0, .ref o), (1, .int (nI v)), (2, .int (nI x))]) hx hb dX7_makeSamples_21 hl (by decide) rfl (fun ls hl => ?_)
              have loop_23 : ∀ (k23 : Nat) (u : Nat), 8 - u < k23 → u ≤ 8 → ∀ (Hp : Heap) (locs : List Loc) (ls : Array Slot), va_P D vwCl [(o, .inr (7, mdF th W H mt qu zz nw ol ne se ke nc ns is ik dc sc kd md wh fa re ve ps ow tl di lv bf bo bd co bt ma)), (qu, .inl (cs 0, 9, .inl qrt)), (co, .inl (cs 0, 64, .inl C)), (bt, .inl (cs 0, 64, .inl (ovr bf9 (half C) (v * 8 + x)))), (ma, .inl (cs 0, 64, .inl mf))] Hp → va_D A [(o, .inr (7, mdF th W H mt qu zz nw ol ne se ke nc ns is ik dc sc kd md wh fa re ve ps ow tl di lv bf bo bd co bt ma)), (qu, .inl (cs 0, 9, .inl qrt)), (co, .inl (cs 0, 64, .inl C)), (bt, .inl (cs 0, 64, .inl (ovr bf9 (half C) (v * 8 + x)))), (ma, .inl (cs 0, 64, .inl mf))] → va_S A s.heap Hp locs → lv_has ls 5 [(0, .ref o), (1, .int (nI v)), (2, .int (nI x)), (3, .int (msum 128 (fun u9 => wvf u9 x * C (v * 8 + u9)) u)), (4, .int (nI u))] → xW p l e ({ frames := 1, cells := 0, slots := 0, locals := 23 } : Room) s m ([.ref o] : List Value).toArray below meth c Hp locs 0 0 (MQ below (xE D A none [(o, .inr (7, mdF th W H mt qu zz nw ol ne se ke nc ns is ik dc sc kd md wh fa re ve ps ow tl di lv bf bo bd co bt ma)), (qu, .inl (cs 0, 9, .inl qrt)), (co, .inl (cs 0, 64, .inl C)), (bt, .inl (cs 0, 64, .inl (half C))), (ma, .inl (cs 0, 64, .inl (full (half C))))]) ([.ref o] : List Value).toArray s 0 0 A) (F0 m 23 ls []) := by
                intro k23
                induction k23 with
                | zero => intro u h9; omega
                | succ k23 ih_23 =>
                  intro u hk23 hu9 Hp locs ls hP hD hS hl
                  refine lv_iload hx hb dX7_makeSamples_23 (lv_at hl 4 rfl) ?_
                  refine lv_bipush (v := 8) hx hb dX7_makeSamples_25 (by decide) ?_
                  refine lv_icmp_ge (tgt := 59) hx hb dX7_makeSamples_27 (by decide) (fun c_27 => ?_) (fun c_27 => ?_)
                  · have eu : u = 8 := by have := nIle (a := 8) (b := u) rfl rfl (by decide) (by omega) c_27; omega
                    refine lv_aload_n hx hb dX7_makeSamples_59 rfl (lv_at hl 0 rfl) ?_
                    refine xget (C := RX7) (T := TX7) (N := 34) hF hX hP (by decide +kernel) 0 32 rfl rfl (by decide) (by decide +kernel) rfl dX7_makeSamples_60 ?_
                    refine lv_bipush (v := 8) hx hb dX7_makeSamples_63 (by decide) ?_
                    refine lv_iload_n hx hb dX7_makeSamples_65 rfl (lv_at hl 1 rfl) ?_
                    refine lv_imul hx hb dX7_makeSamples_66 ?_
                    refine lv_iload_n hx hb dX7_makeSamples_67 rfl (lv_at hl 2 rfl) ?_
                    refine lv_iadd hx hb dX7_makeSamples_68 ?_
                    refine xrwi (z := nI (v * 8 + x)) (k8 v x) ?_
                    refine lv_iload_n hx hb dX7_makeSamples_69 rfl (lv_at hl 3 rfl) ?_
                    refine lv_bipush (v := 8) hx hb dX7_makeSamples_70 (by decide) ?_
                    refine lv_ishr hx hb dX7_makeSamples_72 ?_
                    refine xast (k := v * 8 + x) (ws1 := [(o, .inr (7, mdF th W H mt qu zz nw ol ne se ke nc ns is ik dc sc kd md wh fa re ve ps ow tl di lv bf bo bd co bt ma)), (qu, .inl (cs 0, 9, .inl qrt)), (co, .inl (cs 0, 64, .inl C)), (bt, .inl (cs 0, 64, .inl (ovr bf9 (half C) (v * 8 + x + 1)))), (ma, .inl (cs 0, 64, .inl mf))]) hF hX hP hD hS 3 rfl (nI_clamp (by omega)) (vp_in_nI (by omega) (by decide)) dX7_makeSamples_73 (congrArg (fun z9 => ([(o, .inr (7, mdF th W H mt qu zz nw ol ne se ke nc ns is ik dc sc kd md wh fa re ve ps ow tl di lv bf bo bd co bt ma)), (qu, .inl (cs 0, 9, .inl qrt)), (co, .inl (cs 0, 64, .inl C)), (bt, .inl (cs 0, 64, .inl z9)), (ma, .inl (cs 0, 64, .inl mf))] : va_W)) (ovr_s bf9 (half C) (v * 8 + x) (by rw [eu]; exact halfM C hxl))) (fun Hp locs hP hD hS => ?_)
                    refine lv_iinc (v := (nI (x + 1))) (lv' := [(2, .int (nI (x + 1))), (0, .ref o), (1, .int (nI v)), (3, .int (msum 128 (fun u9 => wvf u9 x * C (v * 8 + u9)) u)), (4, .int (nI u))]) hx hb dX7_makeSamples_74 hl (k := 2) rfl (nI_1 x) (by decide) rfl (fun ls hl => ?_)
                    refine lv_goto (tgt := 10) hx hb dX7_makeSamples_77 (by decide) ?_
                    exact ih_10 (x + 1) (by omega) (by omega) _ _ _ hP hD hS (lv_sub hl [1, 2, 0] rfl)
                  · have hul : u < 8 := nInle (a := 8) (b := u) rfl rfl (by decide) (by omega) c_27
                    refine lv_iload_n hx hb dX7_makeSamples_30 rfl (lv_at hl 3 rfl) ?_
                    refine lv_aload_n hx hb dX7_makeSamples_31 rfl (lv_at hl 0 rfl) ?_
                    refine lv_iload hx hb dX7_makeSamples_32 (lv_at hl 4 rfl) ?_
                    refine lv_iload_n hx hb dX7_makeSamples_34 rfl (lv_at hl 2 rfl) ?_
                    refine xV (rest := [.int (msum 128 (fun u9 => wvf u9 x * C (v * 8 + u9)) u)]) (As := [.int (nI u), .int (nI x)]) (ws1 := [(o, .inr (7, mdF th W H mt qu zz nw ol ne se ke nc ns is ik dc sc kd md wh fa re ve ps ow tl di lv bf bo bd co bt ma)), (qu, .inl (cs 0, 9, .inl qrt)), (co, .inl (cs 0, 64, .inl C)), (bt, .inl (cs 0, 64, .inl (ovr bf9 (half C) (v * 8 + x)))), (ma, .inl (cs 0, 64, .inl mf))]) (st1 := [.int (wvf u x), .int (msum 128 (fun u9 => wvf u9 x * C (v * 8 + u9)) u)]) hF (c_X7_factor l D cs tt o mt qu zz nw ol ne se ke re ve ps di lv bd co bt ma W H md th nc ns is ik dc sc kd wh fa ow tl bf bo u x hul hxl) gX7_makeSamples_X7_factor rfl (n := 2) (by decide +kernel) rfl ⟨⟨rfl, rfl⟩, Nat.le_of_ble_eq_true rfl, Nat.le_of_ble_eq_true rfl⟩ ⟨Nat.le_of_ble_eq_true rfl, Nat.le_of_ble_eq_true rfl⟩ hX hP hD hS [0, 1] (by decide) rfl [o, qu] rfl rfl (q0 := 0) (ci := 7) rfl rfl rfl hl.1 rfl (Nat.le_of_ble_eq_true rfl) dX7_makeSamples_35 rfl rfl (fun Hp locs hP hD hS => ?_)
                    refine lv_aload_n hx hb dX7_makeSamples_38 rfl (lv_at hl 0 rfl) ?_
                    refine xget (C := RX7) (T := TX7) (N := 34) hF hX hP (by decide +kernel) 0 31 rfl rfl (by decide) (by decide +kernel) rfl dX7_makeSamples_39 ?_
                    refine lv_bipush (v := 8) hx hb dX7_makeSamples_42 (by decide) ?_
                    refine lv_iload_n hx hb dX7_makeSamples_44 rfl (lv_at hl 1 rfl) ?_
                    refine lv_imul hx hb dX7_makeSamples_45 ?_
                    refine lv_iload hx hb dX7_makeSamples_46 (lv_at hl 4 rfl) ?_
                    refine lv_iadd hx hb dX7_makeSamples_48 ?_
                    refine xrwi (z := nI (v * 8 + u)) (k8 v u) ?_
                    refine xald (k := v * 8 + u) hF hX hP 2 rfl (nI_clamp (by omega)) (vp_in_nI (by omega) (by decide)) dX7_makeSamples_49 ?_
                    refine lv_imul hx hb dX7_makeSamples_50 ?_
                    refine lv_iadd hx hb dX7_makeSamples_51 ?_
                    refine lv_istore_n (lv' := [(3, .int ((msum 128 (fun u9 => wvf u9 x * C (v * 8 + u9)) u) + ((wvf u x) * (C (v * 8 + u))))), (0, .ref o), (1, .int (nI v)), (2, .int (nI x)), (4, .int (nI u))]) hx hb dX7_makeSamples_52 rfl hl (by decide) rfl (fun ls hl => ?_)
                    refine lv_iinc (v := (nI (u + 1))) (lv' := [(4, .int (nI (u + 1))), (3, .int ((msum 128 (fun u9 => wvf u9 x * C (v * 8 + u9)) u) + ((wvf u x) * (C (v * 8 + u))))), (0, .ref o), (1, .int (nI v)), (2, .int (nI x))]) hx hb dX7_makeSamples_53 hl (k := 4) rfl (nI_1 u) (by decide) rfl (fun ls hl => ?_)
                    refine lv_goto (tgt := 23) hx hb dX7_makeSamples_56 (by decide) ?_
                    exact ih_23 (u + 1) (by omega) (by omega) _ _ _ hP hD hS (lv_sub hl [2, 3, 4, 1, 0] rfl)
              exact loop_23 (8 - 0 + 1) 0 (Nat.lt_succ_self _) (by decide) _ _ _ hP hD hS (lv_sub hl [2, 3, 4, 1, 0] rfl)
        exact loop_10 (8 - 0 + 1) 0 (Nat.lt_succ_self _) (by decide) _ _ _ hP hD hS (lv_sub hl [1, 2, 0] rfl)
  have hP := xeqP hP (congrArg (fun z9 => ([(o, .inr (7, mdF th W H mt qu zz nw ol ne se ke nc ns is ik dc sc kd md wh fa re ve ps ow tl di lv bf bo bd co bt ma)), (qu, .inl (cs 0, 9, .inl qrt)), (co, .inl (cs 0, 64, .inl C)), (bt, .inl (cs 0, 64, .inl z9)), (ma, .inl (cs 0, 64, .inl mf))] : va_W)) ((show bf9 = ovr bf9 (half C) (0 * 8) from (ovr_0 bf9 (half C)).symm)))
  have hD := xeqD hD (congrArg (fun z9 => ([(o, .inr (7, mdF th W H mt qu zz nw ol ne se ke nc ns is ik dc sc kd md wh fa re ve ps ow tl di lv bf bo bd co bt ma)), (qu, .inl (cs 0, 9, .inl qrt)), (co, .inl (cs 0, 64, .inl C)), (bt, .inl (cs 0, 64, .inl z9)), (ma, .inl (cs 0, 64, .inl mf))] : va_W)) ((show bf9 = ovr bf9 (half C) (0 * 8) from (ovr_0 bf9 (half C)).symm)))
  exact loop_2 (8 - 0 + 1) 0 (Nat.lt_succ_self _) (by decide) _ _ _ hP hD hS (lv_sub hl [1, 0] rfl)
