
/-! ===== planes ===== -/
/-- x, but a place of a row of W -/
def cl (x : Int32) (W : Nat) : Nat := if x.toInt < 0 then 0 else if x.toInt < W then x.toInt.toNat else W - 1
theorem cl_lt (x : Int32) {W : Nat} (h : 1 ≤ W) : cl x W < W := by
  unfold cl
  split
  · omega
  · split
    · omega
    · omega
theorem xsub1 {W : Nat} (h : 1 ≤ W) : nI W - 1 = nI (W - 1) := by
  have := nI_pred (W - 1)
  rwa [show W - 1 + 1 = W by omega] at this
theorem cl_bnd (x : Int32) {W : Nat} (h : 1 ≤ W) (h2 : W ≤ 65536) : bnd x 0 (nI W - 1) = nI (cl x W) := by
  rw [xsub1 h]
  have hW : (nI (W - 1)).toInt = ((W - 1 : Nat) : Int) := nI_toInt (by omega)
  unfold bnd cl
  by_cases h0 : x.toInt < 0
  · rw [if_neg (by rw [Int32.le_iff_toInt_le]; simpa using h0), if_pos h0]; rfl
  · rw [if_pos (by rw [Int32.le_iff_toInt_le]; simpa using h0), if_neg h0]
    by_cases h1 : x.toInt < W
    · rw [if_pos (by rw [Int32.le_iff_toInt_le, hW]; omega), if_pos h1]
      apply Int32.toInt_inj.mp
      rw [nI_toInt (by omega)]
      omega
    · rw [if_neg (by rw [Int32.le_iff_toInt_le, hW]; omega), if_neg h1]
theorem cl_nI {k W : Nat} (h : k < W) (h2 : W ≤ 65536) : cl (nI k) W = k := by
  unfold cl
  rw [nI_toInt (by omega), if_neg (by omega), if_pos (by omega)]
  omega
/-- a plane of W by H in a row of N -/
def dim (W H N : Nat) : Prop := 1 ≤ W ∧ W ≤ 64 ∧ 1 ≤ H ∧ H ≤ 64 ∧ W * H ≤ N ∧ N ≤ 4096
theorem dim_ix {W H N x y : Nat} (hd : dim W H N) (hx : x < W) (hy : y < H) : y * W + x < N := by
  have h1 : (y + 1) * W ≤ H * W := Nat.mul_le_mul_right W hy
  have h2 : W * H ≤ N := hd.2.2.2.2.1
  rw [Nat.mul_comm] at h2
  rw [Nat.add_mul] at h1
  omega
theorem dim_i {W H N x y : Nat} (hd : dim W H N) (hx : x < W) (hy : y < H) : vp_in (nI (y * W + x)) N := vp_in_nI (dim_ix hd hx hy) (by have := hd.2.2.2.2.2; omega)
theorem dim_c {W H N x y : Nat} (hd : dim W H N) (hx : x < W) (hy : y < H) : (nI (y * W + x)).toNatClampNeg = y * W + x := nI_clamp (by have := hd.2.2.2.2.2; have := dim_ix hd hx hy; omega)
theorem nIma (a b c : Nat) : nI a * nI b + nI c = nI (a * b + c) := by rw [pk_mul, nI_add]
/-- a plane's samples by column and row -/
def pxl (g : Nat → Int32) (W : Nat) : Nat → Nat → Int32 := fun x y => g (y * W + x)
/-- what is fetched for the place x, y -/
def ftc (P : Nat → Nat → Int32) (W H : Nat) (x y dx dy : Int32) : Int32 :=
  (((P (cl (x + (dx >>> (1 &&& 31))) W) (cl (y + (dy >>> (1 &&& 31))) H) + P (cl (x + (dx >>> (1 &&& 31)) + (dx &&& 1)) W) (cl (y + (dy >>> (1 &&& 31))) H)) + P (cl (x + (dx >>> (1 &&& 31))) W) (cl (y + (dy >>> (1 &&& 31)) + (dy &&& 1)) H) + P (cl (x + (dx >>> (1 &&& 31)) + (dx &&& 1)) W) (cl (y + (dy >>> (1 &&& 31)) + (dy &&& 1)) H)) + 2) >>> (2 &&& 31)
def hld (x y : Int32) (W H : Nat) : Int32 := if wi x 0 (nI W - 1) = 0 then 0 else if wi y 0 (nI H - 1) = 0 then 0 else 1
theorem hld01 (x y : Int32) (W H : Nat) : hld x y W H = 0 ∨ hld x y W H = 1 := by
  unfold hld
  split
  · exact Or.inl rfl
  · split
    · exact Or.inl rfl
    · exact Or.inr rfl
theorem wi_nI {k W : Nat} (h : k < W) (h2 : W ≤ 65536) : wi (nI k) 0 (nI W - 1) = 1 := by
  rw [xsub1 (by omega)]
  unfold wi
  rw [if_neg (nI_pos (by omega)), if_neg (by rw [nI_ltI (by omega) (by omega)]; omega)]
theorem hld_nI {x y W H : Nat} (hx : x < W) (hy : y < H) (hW : W ≤ 65536) (hH : H ≤ 65536) : hld (nI x) (nI y) W H = 1 := by
  unfold hld
  rw [wi_nI hx hW, wi_nI hy hH]
  rfl
/-- the first n places, row by row, of a block of the width bw at L, T have V; rows of W, from off on -/
def blkTo (g : Nat → Int32) (off W L T bw n : Nat) (V : Nat → Nat → Int32) : Nat → Int32 := fun k => if off ≤ k ∧ L ≤ (k - off) % W ∧ (k - off) % W < L + bw ∧ T ≤ (k - off) / W ∧ ((k - off) / W - T) * bw + ((k - off) % W - L) < n then V ((k - off) % W) ((k - off) / W) else g k
theorem blkTo_0 (g : Nat → Int32) (off W L T bw : Nat) (V : Nat → Nat → Int32) : blkTo g off W L T bw 0 V = g := by
  funext k
  unfold blkTo
  rw [if_neg (by omega)]
theorem blk_md {W x y : Nat} (h : x < W) : (y * W + x) % W = x ∧ (y * W + x) / W = y := by
  constructor
  · rw [Nat.mul_comm, Nat.mul_add_mod, Nat.mod_eq_of_lt h]
  · rw [Nat.mul_comm, Nat.mul_add_div (by omega), Nat.div_eq_of_lt h]; rfl
theorem blk_ix {bw u v i : Nat} (hv : v < bw) (h : u * bw + v = i) : u = i / bw ∧ v = i % bw := by
  subst h
  exact ⟨((blk_md hv).2).symm, ((blk_md hv).1).symm⟩
theorem blkTo_s (g : Nat → Int32) {off W L T bw : Nat} (V : Nat → Nat → Int32) {x y : Nat} (hx : L ≤ x) (hx2 : x < L + bw) (hW : L + bw ≤ W) (hy : T ≤ y) : upd (blkTo g off W L T bw ((y - T) * bw + (x - L)) V) (off + (y * W + x)) (V x y) = blkTo g off W L T bw ((y - T) * bw + (x - L) + 1) V := by
  funext k
  have hxW : x < W := by omega
  by_cases hk : k = off + (y * W + x)
  · subst hk
    obtain ⟨h1, h2⟩ := blk_md (y := y) hxW
    rw [pk_us]
    unfold blkTo
    rw [show off + (y * W + x) - off = y * W + x by omega, h1, h2, if_pos (by omega)]
  · rw [pk_un hk]
    unfold blkTo
    by_cases hc : off ≤ k ∧ L ≤ (k - off) % W ∧ (k - off) % W < L + bw ∧ T ≤ (k - off) / W
    · have hne : ((k - off) / W - T) * bw + ((k - off) % W - L) ≠ (y - T) * bw + (x - L) := by
        intro h
        obtain ⟨a1, a2⟩ := blk_ix (bw := bw) (u := (k - off) / W - T) (v := (k - off) % W - L) (by omega) h
        obtain ⟨b1, b2⟩ := blk_ix (bw := bw) (u := y - T) (v := x - L) (by omega) rfl
        have hd := Nat.div_add_mod (k - off) W
        have e1 : (k - off) / W = y := by omega
        have e2 : (k - off) % W = x := by omega
        rw [e1, e2, Nat.mul_comm] at hd
        exact hk (by omega)
      by_cases hl : ((k - off) / W - T) * bw + ((k - off) % W - L) < (y - T) * bw + (x - L)
      · rw [if_pos ⟨hc.1, hc.2.1, hc.2.2.1, hc.2.2.2, hl⟩, if_pos ⟨hc.1, hc.2.1, hc.2.2.1, hc.2.2.2, by omega⟩]
      · rw [if_neg (fun h => hl h.2.2.2.2), if_neg (fun h => by have := h.2.2.2.2; omega)]
    · rw [if_neg (fun h => hc ⟨h.1, h.2.1, h.2.2.1, h.2.2.2.1⟩), if_neg (fun h => hc ⟨h.1, h.2.1, h.2.2.1, h.2.2.2.1⟩)]
theorem blkTo_at (g : Nat → Int32) {off W L T bw n : Nat} (V : Nat → Nat → Int32) {x y : Nat} (hxW : x < W) (hn : n ≤ (y - T) * bw + (x - L)) : blkTo g off W L T bw n V (off + (y * W + x)) = g (off + (y * W + x)) := by
  obtain ⟨h1, h2⟩ := blk_md (y := y) hxW
  unfold blkTo
  rw [show off + (y * W + x) - off = y * W + x by omega, h1, h2, if_neg (fun h => by have := h.2.2.2.2; omega)]
/-- brightened up to i -/
def briTo (g : Nat → Int32) (ga ofs : UInt32) (i : Nat) : Nat → Int32 := fun j => if j < i then bnd (FP.f2i (FP.fadd (FP.fmul ga (FP.i2f (g j))) ofs)) 0 255 else g j
theorem briTo_s (g : Nat → Int32) (ga ofs : UInt32) (i : Nat) : upd (briTo g ga ofs i) i (bnd (FP.f2i (FP.fadd (FP.fmul ga (FP.i2f (g i))) ofs)) 0 255) = briTo g ga ofs (i + 1) := by
  funext j
  unfold upd briTo
  by_cases h : j = i
  · subst h; simp
  · by_cases h2 : j < i
    · simp [h, h2, Nat.lt_succ_of_lt h2]
    · simp [h, h2, show ¬ j < i + 1 by omega]
theorem briTo_at (g : Nat → Int32) (ga ofs : UInt32) (i : Nat) : briTo g ga ofs i i = g i := by simp [briTo]
theorem briTo_0 (g : Nat → Int32) (ga ofs : UInt32) : briTo g ga ofs 0 = g := by funext j; simp [briTo]
/-- the squares of the differences, added one by one -/
def msq (g h : Nat → Int32) : Nat → UInt32
  | 0 => 0
  | n + 1 => FP.fadd (msq g h n) (FP.fmul (FP.i2f (g n - h n)) (FP.i2f (g n - h n)))

set_option maxHeartbeats 4000000 in
set_option maxRecDepth 100000 in
theorem c_X4_clear (l : Launch) (D : va_G) (cs : Nat → ClassId) (tt : Nat → Nat) (o a sd W H N w h : Nat) (g : Nat → Int32) (hN : N ≤ 4096) : xM l yX4_clear wsX4_clear ({ frames := 1, cells := 0, slots := 0, locals := 23 } : Room) D cs tt [.ref o, .int (nI w), .int (nI h)] [(o, .inr (4, [.int (nI sd), .ref a, .int (nI W), .int (nI H)])), (a, .inl (cs 0, N, .inl g))] none [(o, .inr (4, [.int (nI sd), .ref a, .int (nI (sd * w)), .int (nI (sd * h))])), (a, .inl (cs 0, N, .inl (fun _ => 128)))] := by
  refine xM.of RX4 rfl (by decide) rfl (Nat.le_of_ble_eq_true rfl) ?_
  intro p e s m below meth c A ls hF hr hlk hX hP hD hS hl
  have hx := hF.1
  have hb := hF.2.1
  have hl : lv_has ls 3 [(0, .ref o), (1, .int (nI w)), (2, .int (nI h))] := hl
  refine lv_aload_n hx hb dX4_clear_0 rfl (lv_at hl 0 rfl) ?_
  refine lv_aload_n hx hb dX4_clear_1 rfl (lv_at hl 0 rfl) ?_
  refine xget (C := RX4) (T := TX4) (N := 4) hF hX hP (by decide +kernel) 0 0 rfl rfl (by decide) (by decide +kernel) rfl dX4_clear_2 ?_
  refine lv_iload_n hx hb dX4_clear_5 rfl (lv_at hl 1 rfl) ?_
  refine lv_imul hx hb dX4_clear_6 ?_
  refine xrwi (z := nI (sd * w)) (pk_mul sd w) ?_
  refine xputf (C := RX4) (T := TX4) (N := 4) (ws1 := [(o, .inr (4, [.int (nI sd), .ref a, .int (nI (sd * w)), .int (nI H)])), (a, .inl (cs 0, N, .inl g))]) hF hX hP hD hS (by decide +kernel) tyX4 tyX4_ok nmX4 0 2 rfl rfl (by decide) (by decide +kernel) rfl (rfl) (rfl) (Nat.le_of_ble_eq_true rfl) dX4_clear_7 rfl (fun Hp locs hP hD hS => ?_)
  refine lv_aload_n hx hb dX4_clear_10 rfl (lv_at hl 0 rfl) ?_
  refine lv_aload_n hx hb dX4_clear_11 rfl (lv_at hl 0 rfl) ?_
  refine xget (C := RX4) (T := TX4) (N := 4) hF hX hP (by decide +kernel) 0 0 rfl rfl (by decide) (by decide +kernel) rfl dX4_clear_12 ?_
  refine lv_iload_n hx hb dX4_clear_15 rfl (lv_at hl 2 rfl) ?_
  refine lv_imul hx hb dX4_clear_16 ?_
  refine xrwi (z := nI (sd * h)) (pk_mul sd h) ?_
  refine xputf (C := RX4) (T := TX4) (N := 4) (ws1 := [(o, .inr (4, [.int (nI sd), .ref a, .int (nI (sd * w)), .int (nI (sd * h))])), (a, .inl (cs 0, N, .inl g))]) hF hX hP hD hS (by decide +kernel) tyX4 tyX4_ok nmX4 0 3 rfl rfl (by decide) (by decide +kernel) rfl (rfl) (rfl) (Nat.le_of_ble_eq_true rfl) dX4_clear_17 rfl (fun Hp locs hP hD hS => ?_)
  refine lv_aload_n hx hb dX4_clear_20 rfl (lv_at hl 0 rfl) ?_
  refine xget (C := RX4) (T := TX4) (N := 4) hF hX hP (by decide +kernel) 0 1 rfl rfl (by decide) (by decide +kernel) rfl dX4_clear_21 ?_
  refine lv_sipush (v := 128) hx hb dX4_clear_24 (by decide) ?_
  refine xSt (rest := []) (As := [.ref a, .int 128]) (ws1 := [(o, .inr (4, [.int (nI sd), .ref a, .int (nI (sd * w)), .int (nI (sd * h))])), (a, .inl (cs 0, N, .inl (fun _ => 128)))]) (st1 := []) hF (c_J7_fill_53178 l D cs tt a N g 128 (by omega)) gX4_clear_J7_fill_53178 rfl (n := 2) (by decide +kernel) rfl ⟨⟨rfl, rfl⟩, Nat.le_of_ble_eq_true rfl, Nat.le_of_ble_eq_true rfl⟩ ⟨Nat.le_of_ble_eq_true rfl, Nat.le_of_ble_eq_true rfl⟩ hX hP hD hS [1] (by decide) rfl rfl hl.1 rfl (Nat.le_of_ble_eq_true rfl) dX4_clear_27 rfl rfl (fun Hp locs hP hD hS => ?_)
  exact xrv hF hr hlk hP hD hS dX4_clear_30

set_option maxHeartbeats 4000000 in
set_option maxRecDepth 100000 in
theorem c_X4_holds (l : Launch) (D : va_G) (cs : Nat → ClassId) (tt : Nat → Nat) (o a sd W H N : Nat) (g : Nat → Int32) (x y : Int32)  : xM l yX4_holds wsX4_holds ({ frames := 1, cells := 0, slots := 0, locals := 22 } : Room) D cs tt [.ref o, .int x, .int y] [(o, .inr (4, [.int (nI sd), .ref a, .int (nI W), .int (nI H)]))] (some (.int (hld x y W H))) [(o, .inr (4, [.int (nI sd), .ref a, .int (nI W), .int (nI H)]))] := by
  refine xM.of RX4 rfl (by decide) rfl (Nat.le_of_ble_eq_true rfl) ?_
  intro p e s m below meth c A ls hF hr hlk hX hP hD hS hl
  have hx := hF.1
  have hb := hF.2.1
  have hl : lv_has ls 3 [(0, .ref o), (1, .int x), (2, .int y)] := hl
  refine lv_iload_n hx hb dX4_holds_0 rfl (lv_at hl 1 rfl) ?_
  refine lv_iconst (v := 0) hx hb dX4_holds_1 (by decide) ?_
  refine lv_aload_n hx hb dX4_holds_2 rfl (lv_at hl 0 rfl) ?_
  refine xget (C := RX4) (T := TX4) (N := 4) hF hX hP (by decide +kernel) 0 2 rfl rfl (by decide) (by decide +kernel) rfl dX4_holds_3 ?_
  refine lv_iconst (v := 1) hx hb dX4_holds_6 (by decide) ?_
  refine lv_isub hx hb dX4_holds_7 ?_
  refine xSN (host := RX6) (rest := []) (As := [.int x, .int 0, .int ((nI W) - 1)]) (ws1 := [(o, .inr (4, [.int (nI sd), .ref a, .int (nI W), .int (nI H)]))]) (st1 := [.int (wi x 0 ((nI W) - 1))]) hF (c_X6_isWithin l D cs tt x 0 ((nI W) - 1)) gX4_holds_X6_isWithin_n37 rfl (by decide +kernel) (by decide +kernel) (by decide +kernel) (n := 3) (by decide +kernel) rfl ⟨⟨rfl, rfl⟩, Nat.le_of_ble_eq_true rfl, Nat.le_of_ble_eq_true rfl⟩ ⟨Nat.le_of_ble_eq_true rfl, Nat.le_of_ble_eq_true rfl⟩ hX hP hD hS [] (by decide) rfl rfl hl.1 rfl (Nat.le_of_ble_eq_true rfl) dX4_holds_8 rfl rfl (fun Hp locs hP hD hS => ?_)
  refine lv_if_eq (tgt := 32) hx hb dX4_holds_11 (by decide) (fun c_11 => ?_) (fun c_11 => ?_)
  · refine lv_iconst (v := 0) hx hb dX4_holds_32 (by decide) ?_
    refine xrwi (z := (hld x y W H)) (by simp [hld, c_11]) ?_
    exact xrz hF hr hlk hP hD hS (narB (hld01 x y W H)) dX4_holds_33
  · refine lv_iload_n hx hb dX4_holds_14 rfl (lv_at hl 2 rfl) ?_
    refine lv_iconst (v := 0) hx hb dX4_holds_15 (by decide) ?_
    refine lv_aload_n hx hb dX4_holds_16 rfl (lv_at hl 0 rfl) ?_
    refine xget (C := RX4) (T := TX4) (N := 4) hF hX hP (by decide +kernel) 0 3 rfl rfl (by decide) (by decide +kernel) rfl dX4_holds_17 ?_
    refine lv_iconst (v := 1) hx hb dX4_holds_20 (by decide) ?_
    refine lv_isub hx hb dX4_holds_21 ?_
    refine xSN (host := RX6) (rest := []) (As := [.int y, .int 0, .int ((nI H) - 1)]) (ws1 := [(o, .inr (4, [.int (nI sd), .ref a, .int (nI W), .int (nI H)]))]) (st1 := [.int (wi y 0 ((nI H) - 1))]) hF (c_X6_isWithin l D cs tt y 0 ((nI H) - 1)) gX4_holds_X6_isWithin_n37 rfl (by decide +kernel) (by decide +kernel) (by decide +kernel) (n := 3) (by decide +kernel) rfl ⟨⟨rfl, rfl⟩, Nat.le_of_ble_eq_true rfl, Nat.le_of_ble_eq_true rfl⟩ ⟨Nat.le_of_ble_eq_true rfl, Nat.le_of_ble_eq_true rfl⟩ hX hP hD hS [] (by decide) rfl rfl hl.1 rfl (Nat.le_of_ble_eq_true rfl) dX4_holds_22 rfl rfl (fun Hp locs hP hD hS => ?_)
    refine lv_if_eq (tgt := 32) hx hb dX4_holds_25 (by decide) (fun c_25 => ?_) (fun c_25 => ?_)
    · refine lv_iconst (v := 0) hx hb dX4_holds_32 (by decide) ?_
      refine xrwi (z := (hld x y W H)) (by simp [hld, c_11, c_25]) ?_
      exact xrz hF hr hlk hP hD hS (narB (hld01 x y W H)) dX4_holds_33
    · refine lv_iconst (v := 1) hx hb dX4_holds_28 (by decide) ?_
      refine lv_goto (tgt := 33) hx hb dX4_holds_29 (by decide) ?_
      refine xrwi (z := (hld x y W H)) (by simp [hld, c_11, c_25]) ?_
      exact xrz hF hr hlk hP hD hS (narB (hld01 x y W H)) dX4_holds_33

set_option maxHeartbeats 4000000 in
set_option maxRecDepth 100000 in
theorem c_X4_nearest (l : Launch) (D : va_G) (cs : Nat → ClassId) (tt : Nat → Nat) (o a sd W H N : Nat) (g : Nat → Int32) (x y : Int32) (hd : dim W H N) : xM l yX4_nearest wsX4_nearest ({ frames := 1, cells := 0, slots := 0, locals := 22 } : Room) D cs tt [.ref o, .int x, .int y] [(o, .inr (4, [.int (nI sd), .ref a, .int (nI W), .int (nI H)])), (a, .inl (cs 0, N, .inl g))] (some (.int (pxl g W (cl x W) (cl y H)))) [(o, .inr (4, [.int (nI sd), .ref a, .int (nI W), .int (nI H)])), (a, .inl (cs 0, N, .inl g))] := by
  refine xM.of RX4 rfl (by decide) rfl (Nat.le_of_ble_eq_true rfl) ?_
  intro p e s m below meth c A ls hF hr hlk hX hP hD hS hl
  have hx := hF.1
  have hb := hF.2.1
  have hl : lv_has ls 3 [(0, .ref o), (1, .int x), (2, .int y)] := hl
  refine lv_aload_n hx hb dX4_nearest_0 rfl (lv_at hl 0 rfl) ?_
  refine xget (C := RX4) (T := TX4) (N := 4) hF hX hP (by decide +kernel) 0 1 rfl rfl (by decide) (by decide +kernel) rfl dX4_nearest_1 ?_
  refine lv_iload_n hx hb dX4_nearest_4 rfl (lv_at hl 2 rfl) ?_
  refine lv_iconst (v := 0) hx hb dX4_nearest_5 (by decide) ?_
  refine lv_aload_n hx hb dX4_nearest_6 rfl (lv_at hl 0 rfl) ?_
  refine xget (C := RX4) (T := TX4) (N := 4) hF hX hP (by decide +kernel) 0 3 rfl rfl (by decide) (by decide +kernel) rfl dX4_nearest_7 ?_
  refine lv_iconst (v := 1) hx hb dX4_nearest_10 (by decide) ?_
  refine lv_isub hx hb dX4_nearest_11 ?_
  refine xSN (host := RX6) (rest := [.ref a]) (As := [.int y, .int 0, .int ((nI H) - 1)]) (ws1 := [(o, .inr (4, [.int (nI sd), .ref a, .int (nI W), .int (nI H)])), (a, .inl (cs 0, N, .inl g))]) (st1 := [.int (bnd y 0 ((nI H) - 1)), .ref a]) hF (c_X6_bounded l D cs tt y 0 ((nI H) - 1)) gX4_nearest_X6_bounded_n41 rfl (by decide +kernel) (by decide +kernel) (by decide +kernel) (n := 3) (by decide +kernel) rfl ⟨⟨rfl, rfl⟩, Nat.le_of_ble_eq_true rfl, Nat.le_of_ble_eq_true rfl⟩ ⟨Nat.le_of_ble_eq_true rfl, Nat.le_of_ble_eq_true rfl⟩ hX hP hD hS [] (by decide) rfl rfl hl.1 rfl (Nat.le_of_ble_eq_true rfl) dX4_nearest_12 rfl rfl (fun Hp locs hP hD hS => ?_)
  refine xrwi (z := nI (cl y H)) (cl_bnd y hd.2.2.1 (by have := hd.2.2.2.1; omega)) ?_
  refine lv_aload_n hx hb dX4_nearest_15 rfl (lv_at hl 0 rfl) ?_
  refine xget (C := RX4) (T := TX4) (N := 4) hF hX hP (by decide +kernel) 0 2 rfl rfl (by decide) (by decide +kernel) rfl dX4_nearest_16 ?_
  refine lv_imul hx hb dX4_nearest_19 ?_
  refine lv_iload_n hx hb dX4_nearest_20 rfl (lv_at hl 1 rfl) ?_
  refine lv_iconst (v := 0) hx hb dX4_nearest_21 (by decide) ?_
  refine lv_aload_n hx hb dX4_nearest_22 rfl (lv_at hl 0 rfl) ?_
  refine xget (C := RX4) (T := TX4) (N := 4) hF hX hP (by decide +kernel) 0 2 rfl rfl (by decide) (by decide +kernel) rfl dX4_nearest_23 ?_
  refine lv_iconst (v := 1) hx hb dX4_nearest_26 (by decide) ?_
  refine lv_isub hx hb dX4_nearest_27 ?_
  refine xSN (host := RX6) (rest := [.int (nI (cl y H) * (nI W)), .ref a]) (As := [.int x, .int 0, .int ((nI W) - 1)]) (ws1 := [(o, .inr (4, [.int (nI sd), .ref a, .int (nI W), .int (nI H)])), (a, .inl (cs 0, N, .inl g))]) (st1 := [.int (bnd x 0 ((nI W) - 1)), .int (nI (cl y H) * (nI W)), .ref a]) hF (c_X6_bounded l D cs tt x 0 ((nI W) - 1)) gX4_nearest_X6_bounded_n41 rfl (by decide +kernel) (by decide +kernel) (by decide +kernel) (n := 3) (by decide +kernel) rfl ⟨⟨rfl, rfl⟩, Nat.le_of_ble_eq_true rfl, Nat.le_of_ble_eq_true rfl⟩ ⟨Nat.le_of_ble_eq_true rfl, Nat.le_of_ble_eq_true rfl⟩ hX hP hD hS [] (by decide) rfl rfl hl.1 rfl (Nat.le_of_ble_eq_true rfl) dX4_nearest_28 rfl rfl (fun Hp locs hP hD hS => ?_)
  refine xrwi (z := nI (cl x W)) (cl_bnd x hd.1 (by have := hd.2.1; omega)) ?_
  refine lv_iadd hx hb dX4_nearest_31 ?_
  refine xrwi (z := nI (cl y H * W + cl x W)) (nIma _ _ _) ?_
  refine xald (k := cl y H * W + cl x W) hF hX hP 1 rfl (dim_c hd (cl_lt x hd.1) (cl_lt y hd.2.2.1)) (dim_i hd (cl_lt x hd.1) (cl_lt y hd.2.2.1)) dX4_nearest_32 ?_
  exact xri (Q9 := fun _ _ _ _ => True) hF hr hlk hP hD hS dX4_nearest_33

set_option maxHeartbeats 4000000 in
set_option maxRecDepth 100000 in
theorem c_X4_put (l : Launch) (D : va_G) (cs : Nat → ClassId) (tt : Nat → Nat) (o a sd W H N x y : Nat) (g : Nat → Int32) (v : Int32) (hd : dim W H N) (hx0 : x < W) (hy0 : y < H) : xM l yX4_put wsX4_put ({ frames := 2, cells := 0, slots := 0, locals := 44 } : Room) D cs tt [.ref o, .int (nI x), .int (nI y), .int v] [(o, .inr (4, [.int (nI sd), .ref a, .int (nI W), .int (nI H)])), (a, .inl (cs 0, N, .inl g))] none [(o, .inr (4, [.int (nI sd), .ref a, .int (nI W), .int (nI H)])), (a, .inl (cs 0, N, .inl (upd g (y * W + x) (bnd v 0 255))))] := by
  refine xM.of RX4 rfl (by decide) rfl (Nat.le_of_ble_eq_true rfl) ?_
  intro p e s m below meth c A ls hF hr hlk hX hP hD hS hl
  have hx := hF.1
  have hb := hF.2.1
  have hl : lv_has ls 4 [(0, .ref o), (1, .int (nI x)), (2, .int (nI y)), (3, .int v)] := hl
  refine lv_aload_n hx hb dX4_put_0 rfl (lv_at hl 0 rfl) ?_
  refine lv_iload_n hx hb dX4_put_1 rfl (lv_at hl 1 rfl) ?_
  refine lv_iload_n hx hb dX4_put_2 rfl (lv_at hl 2 rfl) ?_
  refine xV (rest := []) (As := [.int (nI x), .int (nI y)]) (ws1 := [(o, .inr (4, [.int (nI sd), .ref a, .int (nI W), .int (nI H)])), (a, .inl (cs 0, N, .inl g))]) (st1 := [.int (hld (nI x) (nI y) W H)]) hF (c_X4_holds l D cs tt o a sd W H N g (nI x) (nI y)) gX4_put_X4_holds rfl (n := 2) (by decide +kernel) rfl ⟨⟨rfl, rfl⟩, Nat.le_of_ble_eq_true rfl, Nat.le_of_ble_eq_true rfl⟩ ⟨Nat.le_of_ble_eq_true rfl, Nat.le_of_ble_eq_true rfl⟩ hX hP hD hS [0] (by decide) rfl rfl (q0 := 0) (ci := 4) rfl rfl rfl hl.1 rfl (Nat.le_of_ble_eq_true rfl) dX4_put_3 rfl rfl (fun Hp locs hP hD hS => ?_)
  refine lv_if_eq (tgt := 30) hx hb dX4_put_6 (by decide) (fun c_6 => absurd c_6 (by rw [hld_nI hx0 hy0 (by have := hd.2.1; omega) (by have := hd.2.2.2.1; omega)]; decide)) (fun _ => ?_)
  refine lv_aload_n hx hb dX4_put_9 rfl (lv_at hl 0 rfl) ?_
  refine xget (C := RX4) (T := TX4) (N := 4) hF hX hP (by decide +kernel) 0 1 rfl rfl (by decide) (by decide +kernel) rfl dX4_put_10 ?_
  refine lv_iload_n hx hb dX4_put_13 rfl (lv_at hl 2 rfl) ?_
  refine lv_aload_n hx hb dX4_put_14 rfl (lv_at hl 0 rfl) ?_
  refine xget (C := RX4) (T := TX4) (N := 4) hF hX hP (by decide +kernel) 0 2 rfl rfl (by decide) (by decide +kernel) rfl dX4_put_15 ?_
  refine lv_imul hx hb dX4_put_18 ?_
  refine lv_iload_n hx hb dX4_put_19 rfl (lv_at hl 1 rfl) ?_
  refine lv_iadd hx hb dX4_put_20 ?_
  refine xrwi (z := nI (y * W + x)) (nIma _ _ _) ?_
  refine lv_iload_n hx hb dX4_put_21 rfl (lv_at hl 3 rfl) ?_
  refine lv_iconst (v := 0) hx hb dX4_put_22 (by decide) ?_
  refine lv_sipush (v := 255) hx hb dX4_put_23 (by decide) ?_
  refine xSN (host := RX6) (rest := [.int (nI (y * W + x)), .ref a]) (As := [.int v, .int 0, .int 255]) (ws1 := [(o, .inr (4, [.int (nI sd), .ref a, .int (nI W), .int (nI H)])), (a, .inl (cs 0, N, .inl g))]) (st1 := [.int (bnd v 0 255), .int (nI (y * W + x)), .ref a]) hF (c_X6_bounded l D cs tt v 0 255) gX4_put_X6_bounded_n41 rfl (by decide +kernel) (by decide +kernel) (by decide +kernel) (n := 3) (by decide +kernel) rfl ⟨⟨rfl, rfl⟩, Nat.le_of_ble_eq_true rfl, Nat.le_of_ble_eq_true rfl⟩ ⟨Nat.le_of_ble_eq_true rfl, Nat.le_of_ble_eq_true rfl⟩ hX hP hD hS [] (by decide) rfl rfl hl.1 rfl (Nat.le_of_ble_eq_true rfl) dX4_put_26 rfl rfl (fun Hp locs hP hD hS => ?_)
  refine xast (k := y * W + x) (ws1 := [(o, .inr (4, [.int (nI sd), .ref a, .int (nI W), .int (nI H)])), (a, .inl (cs 0, N, .inl (upd g (y * W + x) (bnd v 0 255))))]) hF hX hP hD hS 1 rfl (dim_c hd hx0 hy0) (dim_i hd hx0 hy0) dX4_put_29 rfl (fun Hp locs hP hD hS => ?_)
  exact xrv hF hr hlk hP hD hS dX4_put_30

set_option maxHeartbeats 4000000 in
set_option maxRecDepth 100000 in
theorem c_X4_fetched (l : Launch) (D : va_G) (cs : Nat → ClassId) (tt : Nat → Nat) (o a sd W H N : Nat) (g : Nat → Int32) (x y dx dy : Int32) (hd : dim W H N) : xM l yX4_fetched wsX4_fetched ({ frames := 2, cells := 0, slots := 0, locals := 44 } : Room) D cs tt [.ref o, .int x, .int y, .int dx, .int dy] [(o, .inr (4, [.int (nI sd), .ref a, .int (nI W), .int (nI H)])), (a, .inl (cs 0, N, .inl g))] (some (.int (ftc (pxl g W) W H x y dx dy))) [(o, .inr (4, [.int (nI sd), .ref a, .int (nI W), .int (nI H)])), (a, .inl (cs 0, N, .inl g))] := by
  refine xM.of RX4 rfl (by decide) rfl (Nat.le_of_ble_eq_true rfl) ?_
  intro p e s m below meth c A ls hF hr hlk hX hP hD hS hl
  have hx := hF.1
  have hb := hF.2.1
  have hl : lv_has ls 10 [(0, .ref o), (1, .int x), (2, .int y), (3, .int dx), (4, .int dy)] := hl
  refine lv_iload_n hx hb dX4_fetched_0 rfl (lv_at hl 1 rfl) ?_
  refine lv_iload_n hx hb dX4_fetched_1 rfl (lv_at hl 3 rfl) ?_
  refine lv_iconst (v := 1) hx hb dX4_fetched_2 (by decide) ?_
  refine lv_ishr hx hb dX4_fetched_3 ?_
  refine lv_iadd hx hb dX4_fetched_4 ?_
  refine lv_istore (lv' := [(5, .int (x + (dx >>> (1 &&& 31)))), (0, .ref o), (1, .int x), (2, .int y), (3, .int dx), (4, .int dy)]) hx hb dX4_fetched_5 hl (by decide) rfl (fun ls hl => ?_)
  refine lv_iload_n hx hb dX4_fetched_7 rfl (lv_at hl 3 rfl) ?_
  refine lv_iload hx hb dX4_fetched_8 (lv_at hl 5 rfl) ?_
  refine lv_iconst (v := 1) hx hb dX4_fetched_10 (by decide) ?_
  refine lv_ishr hx hb dX4_fetched_11 ?_
  refine lv_iadd hx hb dX4_fetched_12 ?_
  refine lv_istore (lv' := [(6, .int (y + (dy >>> (1 &&& 31)))), (5, .int (x + (dx >>> (1 &&& 31)))), (0, .ref o), (1, .int x), (2, .int y), (3, .int dx), (4, .int dy)]) hx hb dX4_fetched_13 hl (by decide) rfl (fun ls hl => ?_)
  refine lv_iload hx hb dX4_fetched_15 (lv_at hl 1 rfl) ?_
  refine lv_iload_n hx hb dX4_fetched_17 rfl (lv_at hl 5 rfl) ?_
  refine lv_iconst (v := 1) hx hb dX4_fetched_18 (by decide) ?_
  refine lv_iand hx hb dX4_fetched_19 ?_
  refine lv_iadd hx hb dX4_fetched_20 ?_
  refine lv_istore (lv' := [(7, .int ((x + (dx >>> (1 &&& 31))) + (dx &&& 1))), (6, .int (y + (dy >>> (1 &&& 31)))), (5, .int (x + (dx >>> (1 &&& 31)))), (0, .ref o), (1, .int x), (2, .int y), (3, .int dx), (4, .int dy)]) hx hb dX4_fetched_21 hl (by decide) rfl (fun ls hl => ?_)
  refine lv_iload hx hb dX4_fetched_23 (lv_at hl 1 rfl) ?_
  refine lv_iload hx hb dX4_fetched_25 (lv_at hl 7 rfl) ?_
  refine lv_iconst (v := 1) hx hb dX4_fetched_27 (by decide) ?_
  refine lv_iand hx hb dX4_fetched_28 ?_
  refine lv_iadd hx hb dX4_fetched_29 ?_
  refine lv_istore (lv' := [(8, .int ((y + (dy >>> (1 &&& 31))) + (dy &&& 1))), (7, .int ((x + (dx >>> (1 &&& 31))) + (dx &&& 1))), (6, .int (y + (dy >>> (1 &&& 31)))), (5, .int (x + (dx >>> (1 &&& 31)))), (0, .ref o), (1, .int x), (2, .int y), (3, .int dx), (4, .int dy)]) hx hb dX4_fetched_30 hl (by decide) rfl (fun ls hl => ?_)
  refine lv_aload_n hx hb dX4_fetched_32 rfl (lv_at hl 4 rfl) ?_
  refine lv_iload hx hb dX4_fetched_33 (lv_at hl 3 rfl) ?_
  refine lv_iload hx hb dX4_fetched_35 (lv_at hl 2 rfl) ?_
  refine xV (rest := []) (As := [.int (x + (dx >>> (1 &&& 31))), .int (y + (dy >>> (1 &&& 31)))]) (ws1 := [(o, .inr (4, [.int (nI sd), .ref a, .int (nI W), .int (nI H)])), (a, .inl (cs 0, N, .inl g))]) (st1 := [.int (pxl g W (cl (x + (dx >>> (1 &&& 31))) W) (cl (y + (dy >>> (1 &&& 31))) H))]) hF (c_X4_nearest l D cs tt o a sd W H N g (x + (dx >>> (1 &&& 31))) (y + (dy >>> (1 &&& 31))) hd) gX4_fetched_X4_nearest rfl (n := 2) (by decide +kernel) rfl ⟨⟨rfl, rfl⟩, Nat.le_of_ble_eq_true rfl, Nat.le_of_ble_eq_true rfl⟩ ⟨Nat.le_of_ble_eq_true rfl, Nat.le_of_ble_eq_true rfl⟩ hX hP hD hS [0, 1] (by decide) rfl rfl (q0 := 0) (ci := 4) rfl rfl rfl hl.1 rfl (Nat.le_of_ble_eq_true rfl) dX4_fetched_37 rfl rfl (fun Hp locs hP hD hS => ?_)
  refine lv_aload_n hx hb dX4_fetched_40 rfl (lv_at hl 4 rfl) ?_
  refine lv_iload hx hb dX4_fetched_41 (lv_at hl 1 rfl) ?_
  refine lv_iload hx hb dX4_fetched_43 (lv_at hl 2 rfl) ?_
  refine xV (rest := [.int (pxl g W (cl (x + (dx >>> (1 &&& 31))) W) (cl (y + (dy >>> (1 &&& 31))) H))]) (As := [.int ((x + (dx >>> (1 &&& 31))) + (dx &&& 1)), .int (y + (dy >>> (1 &&& 31)))]) (ws1 := [(o, .inr (4, [.int (nI sd), .ref a, .int (nI W), .int (nI H)])), (a, .inl (cs 0, N, .inl g))]) (st1 := [.int (pxl g W (cl ((x + (dx >>> (1 &&& 31))) + (dx &&& 1)) W) (cl (y + (dy >>> (1 &&& 31))) H)), .int (pxl g W (cl (x + (dx >>> (1 &&& 31))) W) (cl (y + (dy >>> (1 &&& 31))) H))]) hF (c_X4_nearest l D cs tt o a sd W H N g ((x + (dx >>> (1 &&& 31))) + (dx &&& 1)) (y + (dy >>> (1 &&& 31))) hd) gX4_fetched_X4_nearest rfl (n := 2) (by decide +kernel) rfl ⟨⟨rfl, rfl⟩, Nat.le_of_ble_eq_true rfl, Nat.le_of_ble_eq_true rfl⟩ ⟨Nat.le_of_ble_eq_true rfl, Nat.le_of_ble_eq_true rfl⟩ hX hP hD hS [0, 1] (by decide) rfl rfl (q0 := 0) (ci := 4) rfl rfl rfl hl.1 rfl (Nat.le_of_ble_eq_true rfl) dX4_fetched_45 rfl rfl (fun Hp locs hP hD hS => ?_)
  refine lv_iadd hx hb dX4_fetched_48 ?_
  refine lv_istore (lv' := [(9, .int ((pxl g W (cl (x + (dx >>> (1 &&& 31))) W) (cl (y + (dy >>> (1 &&& 31))) H)) + (pxl g W (cl ((x + (dx >>> (1 &&& 31))) + (dx &&& 1)) W) (cl (y + (dy >>> (1 &&& 31))) H)))), (8, .int ((y + (dy >>> (1 &&& 31))) + (dy &&& 1))), (7, .int ((x + (dx >>> (1 &&& 31))) + (dx &&& 1))), (6, .int (y + (dy >>> (1 &&& 31)))), (5, .int (x + (dx >>> (1 &&& 31)))), (0, .ref o), (1, .int x), (2, .int y), (3, .int dx), (4, .int dy)]) hx hb dX4_fetched_49 hl (by decide) rfl (fun ls hl => ?_)
  refine lv_iload hx hb dX4_fetched_51 (lv_at hl 0 rfl) ?_
  refine lv_aload_n hx hb dX4_fetched_53 rfl (lv_at hl 5 rfl) ?_
  refine lv_iload hx hb dX4_fetched_54 (lv_at hl 4 rfl) ?_
  refine lv_iload hx hb dX4_fetched_56 (lv_at hl 1 rfl) ?_
  refine xV (rest := [.int ((pxl g W (cl (x + (dx >>> (1 &&& 31))) W) (cl (y + (dy >>> (1 &&& 31))) H)) + (pxl g W (cl ((x + (dx >>> (1 &&& 31))) + (dx &&& 1)) W) (cl (y + (dy >>> (1 &&& 31))) H)))]) (As := [.int (x + (dx >>> (1 &&& 31))), .int ((y + (dy >>> (1 &&& 31))) + (dy &&& 1))]) (ws1 := [(o, .inr (4, [.int (nI sd), .ref a, .int (nI W), .int (nI H)])), (a, .inl (cs 0, N, .inl g))]) (st1 := [.int (pxl g W (cl (x + (dx >>> (1 &&& 31))) W) (cl ((y + (dy >>> (1 &&& 31))) + (dy &&& 1)) H)), .int ((pxl g W (cl (x + (dx >>> (1 &&& 31))) W) (cl (y + (dy >>> (1 &&& 31))) H)) + (pxl g W (cl ((x + (dx >>> (1 &&& 31))) + (dx &&& 1)) W) (cl (y + (dy >>> (1 &&& 31))) H)))]) hF (c_X4_nearest l D cs tt o a sd W H N g (x + (dx >>> (1 &&& 31))) ((y + (dy >>> (1 &&& 31))) + (dy &&& 1)) hd) gX4_fetched_X4_nearest rfl (n := 2) (by decide +kernel) rfl ⟨⟨rfl, rfl⟩, Nat.le_of_ble_eq_true rfl, Nat.le_of_ble_eq_true rfl⟩ ⟨Nat.le_of_ble_eq_true rfl, Nat.le_of_ble_eq_true rfl⟩ hX hP hD hS [0, 1] (by decide) rfl rfl (q0 := 0) (ci := 4) rfl rfl rfl hl.1 rfl (Nat.le_of_ble_eq_true rfl) dX4_fetched_58 rfl rfl (fun Hp locs hP hD hS => ?_)
  refine lv_iadd hx hb dX4_fetched_61 ?_
  refine lv_aload_n hx hb dX4_fetched_62 rfl (lv_at hl 5 rfl) ?_
  refine lv_iload hx hb dX4_fetched_63 (lv_at hl 2 rfl) ?_
  refine lv_iload hx hb dX4_fetched_65 (lv_at hl 1 rfl) ?_
  refine xV (rest := [.int (((pxl g W (cl (x + (dx >>> (1 &&& 31))) W) (cl (y + (dy >>> (1 &&& 31))) H)) + (pxl g W (cl ((x + (dx >>> (1 &&& 31))) + (dx &&& 1)) W) (cl (y + (dy >>> (1 &&& 31))) H))) + (pxl g W (cl (x + (dx >>> (1 &&& 31))) W) (cl ((y + (dy >>> (1 &&& 31))) + (dy &&& 1)) H)))]) (As := [.int ((x + (dx >>> (1 &&& 31))) + (dx &&& 1)), .int ((y + (dy >>> (1 &&& 31))) + (dy &&& 1))]) (ws1 := [(o, .inr (4, [.int (nI sd), .ref a, .int (nI W), .int (nI H)])), (a, .inl (cs 0, N, .inl g))]) (st1 := [.int (pxl g W (cl ((x + (dx >>> (1 &&& 31))) + (dx &&& 1)) W) (cl ((y + (dy >>> (1 &&& 31))) + (dy &&& 1)) H)), .int (((pxl g W (cl (x + (dx >>> (1 &&& 31))) W) (cl (y + (dy >>> (1 &&& 31))) H)) + (pxl g W (cl ((x + (dx >>> (1 &&& 31))) + (dx &&& 1)) W) (cl (y + (dy >>> (1 &&& 31))) H))) + (pxl g W (cl (x + (dx >>> (1 &&& 31))) W) (cl ((y + (dy >>> (1 &&& 31))) + (dy &&& 1)) H)))]) hF (c_X4_nearest l D cs tt o a sd W H N g ((x + (dx >>> (1 &&& 31))) + (dx &&& 1)) ((y + (dy >>> (1 &&& 31))) + (dy &&& 1)) hd) gX4_fetched_X4_nearest rfl (n := 2) (by decide +kernel) rfl ⟨⟨rfl, rfl⟩, Nat.le_of_ble_eq_true rfl, Nat.le_of_ble_eq_true rfl⟩ ⟨Nat.le_of_ble_eq_true rfl, Nat.le_of_ble_eq_true rfl⟩ hX hP hD hS [0, 1] (by decide) rfl rfl (q0 := 0) (ci := 4) rfl rfl rfl hl.1 rfl (Nat.le_of_ble_eq_true rfl) dX4_fetched_67 rfl rfl (fun Hp locs hP hD hS => ?_)
  refine lv_iadd hx hb dX4_fetched_70 ?_
  refine lv_iconst (v := 2) hx hb dX4_fetched_71 (by decide) ?_
  refine lv_iadd hx hb dX4_fetched_72 ?_
  refine lv_iconst (v := 2) hx hb dX4_fetched_73 (by decide) ?_
  refine lv_ishr hx hb dX4_fetched_74 ?_
  exact xri (Q9 := fun _ _ _ _ => True) hF hr hlk hP hD hS dX4_fetched_75
