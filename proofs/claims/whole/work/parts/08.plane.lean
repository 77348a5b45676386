
/-! ===== planes ===== -/
/-- x, but a place of a row of W -/
def cl (x : Int32) (W : Nat) : Nat := if x.toInt < 0 then 0 else if x.toInt < W then x.toInt.toNat else W - 1
theorem cl_lt (x : Int32) {W : Nat} (h : 1 ≤ W) : cl x W < W := by
  unfold cl
  split
  · omega
  · split
    · omega
    · omega
theorem xsub1 {W : Nat} (h : 1 ≤ W) : nI W - 1 = nI (W - 1) := by
  have := nI_pred (W - 1)
  rwa [show W - 1 + 1 = W by omega] at this
theorem cl_bnd (x : Int32) {W : Nat} (h : 1 ≤ W) (h2 : W ≤ 65536) : bnd x 0 (nI W - 1) = nI (cl x W) := by
  rw [xsub1 h]
  have hW : (nI (W - 1)).toInt = ((W - 1 : Nat) : Int) := nI_toInt (by omega)
  unfold bnd cl
  by_cases h0 : x.toInt < 0
  · rw [if_neg (by rw [Int32.le_iff_toInt_le]; simpa using h0), if_pos h0]; rfl
  · rw [if_pos (by rw [Int32.le_iff_toInt_le]; simpa using h0), if_neg h0]
    by_cases h1 : x.toInt < W
    · rw [if_pos (by rw [Int32.le_iff_toInt_le, hW]; omega), if_pos h1]
      apply Int32.toInt_inj.mp
      rw [nI_toInt (by omega)]
      omega
    · rw [if_neg (by rw [Int32.le_iff_toInt_le, hW]; omega), if_neg h1]
theorem cl_nI {k W : Nat} (h : k < W) (h2 : W ≤ 65536) : cl (nI k) W = k := by
  unfold cl
  rw [nI_toInt (by omega), if_neg (by omega), if_pos (by omega)]
  omega
/-- a plane of W by H in a row of N -/
def dim (W H N : Nat) : Prop := 1 ≤ W ∧ W ≤ 64 ∧ 1 ≤ H ∧ H ≤ 64 ∧ W * H ≤ N ∧ N ≤ 4096
theorem dim_ix {W H N x y : Nat} (hd : dim W H N) (hx : x < W) (hy : y < H) : y * W + x < N := by
  have h1 : (y + 1) * W ≤ H * W := Nat.mul_le_mul_right W hy
  have h2 : W * H ≤ N := hd.2.2.2.2.1
  rw [Nat.mul_comm] at h2
  rw [Nat.add_mul] at h1
  omega
theorem dim_i {W H N x y : Nat} (hd : dim W H N) (hx : x < W) (hy : y < H) : vp_in (nI (y * W + x)) N := vp_in_nI (dim_ix hd hx hy) (by have := hd.2.2.2.2.2; omega)
theorem dim_c {W H N x y : Nat} (hd : dim W H N) (hx : x < W) (hy : y < H) : (nI (y * W + x)).toNatClampNeg = y * W + x := nI_clamp (by have := hd.2.2.2.2.2; have := dim_ix hd hx hy; omega)
theorem nIma (a b c : Nat) : nI a * nI b + nI c = nI (a * b + c) := by rw [pk_mul, nI_add]
/-- a plane's samples by column and row -/
def pxl (g : Nat → Int32) (W : Nat) : Nat → Nat → Int32 := fun x y => g (y * W + x)
/-- what is fetched for the place x, y -/
def ftc (P : Nat → Nat → Int32) (W H : Nat) (x y dx dy : Int32) : Int32 :=
  (((P (cl (x + (dx >>> (1 &&& 31))) W) (cl (y + (dy >>> (1 &&& 31))) H) + P (cl (x + (dx >>> (1 &&& 31)) + (dx &&& 1)) W) (cl (y + (dy >>> (1 &&& 31))) H)) + P (cl (x + (dx >>> (1 &&& 31))) W) (cl (y + (dy >>> (1 &&& 31)) + (dy &&& 1)) H) + P (cl (x + (dx >>> (1 &&& 31)) + (dx &&& 1)) W) (cl (y + (dy >>> (1 &&& 31)) + (dy &&& 1)) H)) + 2) >>> (2 &&& 31)
def hld (x y : Int32) (W H : Nat) : Int32 := if wi x 0 (nI W - 1) = 0 then 0 else if wi y 0 (nI H - 1) = 0 then 0 else 1
theorem hld01 (x y : Int32) (W H : Nat) : hld x y W H = 0 ∨ hld x y W H = 1 := by
  unfold hld
  split
  · exact Or.inl rfl
  · split
    · exact Or.inl rfl
    · exact Or.inr rfl
theorem wi_nI {k W : Nat} (h : k < W) (h2 : W ≤ 65536) : wi (nI k) 0 (nI W - 1) = 1 := by
  rw [xsub1 (by omega)]
  unfold wi
  rw [if_neg (nI_pos (by omega)), if_neg (by rw [nI_ltI (by omega) (by omega)]; omega)]
theorem hld_nI {x y W H : Nat} (hx : x < W) (hy : y < H) (hW : W ≤ 65536) (hH : H ≤ 65536) : hld (nI x) (nI y) W H = 1 := by
  unfold hld
  rw [wi_nI hx hW, wi_nI hy hH]
  rfl
/-- the first n places, row by row, of a block of the width bw at L, T have V; rows of W, from off on -/
def blkTo (g : Nat → Int32) (off W L T bw n : Nat) (V : Nat → Nat → Int32) : Nat → Int32 := fun k => if off ≤ k ∧ L ≤ (k - off) % W ∧ (k - off) % W < L + bw ∧ T ≤ (k - off) / W ∧ ((k - off) / W - T) * bw + ((k - off) % W - L) < n then V ((k - off) % W) ((k - off) / W) else g k
theorem blkTo_0 (g : Nat → Int32) (off W L T bw : Nat) (V : Nat → Nat → Int32) : blkTo g off W L T bw 0 V = g := by
  funext k
  unfold blkTo
  rw [if_neg (by omega)]
theorem blk_md {W x y : Nat} (h : x < W) : (y * W + x) % W = x ∧ (y * W + x) / W = y := by
  constructor
  · rw [Nat.mul_comm, Nat.mul_add_mod, Nat.mod_eq_of_lt h]
  · rw [Nat.mul_comm, Nat.mul_add_div (by omega), Nat.div_eq_of_lt h]; rfl
theorem blk_ix {bw u v i : Nat} (hv : v < bw) (h : u * bw + v = i) : u = i / bw ∧ v = i % bw := by
  subst h
  exact ⟨((blk_md hv).2).symm, ((blk_md hv).1).symm⟩
theorem blkTo_s (g : Nat → Int32) {off W L T bw : Nat} (V : Nat → Nat → Int32) {x y : Nat} (hx : L ≤ x) (hx2 : x < L + bw) (hW : L + bw ≤ W) (hy : T ≤ y) : upd (blkTo g off W L T bw ((y - T) * bw + (x - L)) V) (off + (y * W + x)) (V x y) = blkTo g off W L T bw ((y - T) * bw + (x - L) + 1) V := by
  funext k
  have hxW : x < W := by omega
  by_cases hk : k = off + (y * W + x)
  · subst hk
    obtain ⟨h1, h2⟩ := blk_md (y := y) hxW
    rw [pk_us]
    unfold blkTo
    rw [show off + (y * W + x) - off = y * W + x by omega, h1, h2, if_pos (by omega)]
  · rw [pk_un hk]
    unfold blkTo
    by_cases hc : off ≤ k ∧ L ≤ (k - off) % W ∧ (k - off) % W < L + bw ∧ T ≤ (k - off) / W
    · have hne : ((k - off) / W - T) * bw + ((k - off) % W - L) ≠ (y - T) * bw + (x - L) := by
        intro h
        obtain ⟨a1, a2⟩ := blk_ix (bw := bw) (u := (k - off) / W - T) (v := (k - off) % W - L) (by omega) h
        obtain ⟨b1, b2⟩ := blk_ix (bw := bw) (u := y - T) (v := x - L) (by omega) rfl
        have hd := Nat.div_add_mod (k - off) W
        have e1 : (k - off) / W = y := by omega
        have e2 : (k - off) % W = x := by omega
        rw [e1, e2, Nat.mul_comm] at hd
        exact hk (by omega)
      by_cases hl : ((k - off) / W - T) * bw + ((k - off) % W - L) < (y - T) * bw + (x - L)
      · rw [if_pos ⟨hc.1, hc.2.1, hc.2.2.1, hc.2.2.2, hl⟩, if_pos ⟨hc.1, hc.2.1, hc.2.2.1, hc.2.2.2, by omega⟩]
      · rw [if_neg (fun h => hl h.2.2.2.2), if_neg (fun h => by have := h.2.2.2.2; omega)]
    · rw [if_neg (fun h => hc ⟨h.1, h.2.1, h.2.2.1, h.2.2.2.1⟩), if_neg (fun h => hc ⟨h.1, h.2.1, h.2.2.1, h.2.2.2.1⟩)]
theorem blkTo_at (g : Nat → Int32) {off W L T bw n : Nat} (V : Nat → Nat → Int32) {x y : Nat} (hxW : x < W) (hn : n ≤ (y - T) * bw + (x - L)) : blkTo g off W L T bw n V (off + (y * W + x)) = g (off + (y * W + x)) := by
  obtain ⟨h1, h2⟩ := blk_md (y := y) hxW
  unfold blkTo
  rw [show off + (y * W + x) - off = y * W + x by omega, h1, h2, if_neg (fun h => by have := h.2.2.2.2; omega)]
/-- brightened up to i -/
def briTo (g : Nat → Int32) (ga ofs : UInt32) (i : Nat) : Nat → Int32 := fun j => if j < i then bnd (FP.f2i (FP.fadd (FP.fmul ga (FP.i2f (g j))) ofs)) 0 255 else g j
theorem briTo_s (g : Nat → Int32) (ga ofs : UInt32) (i : Nat) : upd (briTo g ga ofs i) i (bnd (FP.f2i (FP.fadd (FP.fmul ga (FP.i2f (g i))) ofs)) 0 255) = briTo g ga ofs (i + 1) := by
  funext j
  unfold upd briTo
  by_cases h : j = i
  · subst h; simp
  · by_cases h2 : j < i
    · simp [h, h2, Nat.lt_succ_of_lt h2]
    · simp [h, h2, show ¬ j < i + 1 by omega]
theorem briTo_at (g : Nat → Int32) (ga ofs : UInt32) (i : Nat) : briTo g ga ofs i i = g i := by simp [briTo]
theorem briTo_0 (g : Nat → Int32) (ga ofs : UInt32) : briTo g ga ofs 0 = g := by funext j; simp [briTo]
/-- the squares of the differences, added one by one -/
def msq (g h : Nat → Int32) : Nat → UInt32
  | 0 => 0
  | n + 1 => FP.fadd (msq g h n) (FP.fmul (FP.i2f (g n - h n)) (FP.i2f (g n - h n)))

theorem blkTo_s0 (g : Nat → Int32) {W L T bw : Nat} (V : Nat → Nat → Int32) {x y : Nat} {v : Int32} (hv : v = V x y) (hx : L ≤ x) (hx2 : x < L + bw) (hW : L + bw ≤ W) (hy : T ≤ y) : upd (blkTo g 0 W L T bw ((y - T) * bw + (x - L)) V) (y * W + x) v = blkTo g 0 W L T bw ((y - T) * bw + (x + 1 - L)) V := by
  have h := blkTo_s g (off := 0) V hx hx2 hW hy
  rw [Nat.zero_add] at h
  rw [hv, h, show x + 1 - L = x - L + 1 by omega]
  rfl
theorem blkTo_at0 (g : Nat → Int32) {W L T bw n : Nat} (V : Nat → Nat → Int32) {x y : Nat} (hxW : x < W) (hn : n ≤ (y - T) * bw + (x - L)) : blkTo g 0 W L T bw n V (y * W + x) = g (y * W + x) := by
  have h := blkTo_at g (off := 0) (T := T) V hxW hn
  rwa [Nat.zero_add] at h
theorem nIle {x y : Int32} {a b : Nat} (hx : x = nI a) (hy : y = nI b) (ha : a < 2147483648) (hb : b < 2147483648) (h : x ≤ y) : a ≤ b := by
  subst hx; subst hy; exact (nI_leI ha hb).mp h
theorem nInle {x y : Int32} {a b : Nat} (hx : x = nI a) (hy : y = nI b) (ha : a < 2147483648) (hb : b < 2147483648) (h : ¬ x ≤ y) : b < a := by
  subst hx; subst hy
  rcases Nat.lt_or_ge b a with q | q
  · exact q
  · exact absurd ((nI_leI ha hb).mpr q) h
/-- a block of 64 numbers laid on what is there, or alone -/
def lay (g : Nat → Int32) (W L T : Nat) (bk : Nat → Int32) (on : Int32) : Nat → Nat → Int32 := fun x y => bnd (if on = 0 then bk ((y - T) * 8 + (x - L)) else g (y * W + x) + bk ((y - T) * 8 + (x - L))) 0 255
/-- what fetchSquare puts -/
def mix (g : Nat → Int32) (W : Nat) (F : Nat → Nat → Int32) (mx : Int32) : Nat → Nat → Int32 := fun x y => bnd (if mx = 0 then F x y else (g (y * W + x) + F x y + 1) >>> (1 &&& 31)) 0 255
theorem lay_s (g : Nat → Int32) {W L T i : Nat} {bk : Nat → Int32} {on v : Int32} (hv : v = if on = 0 then bk i else g ((T + i / 8) * W + (L + i % 8)) + bk i) (hL : L + 8 ≤ W) : upd (blkTo g 0 W L T 8 i (lay g W L T bk on)) ((T + i / 8) * W + (L + i % 8)) (bnd v 0 255) = blkTo g 0 W L T 8 (i + 1) (lay g W L T bk on) := by
  have e1 : (T + i / 8 - T) * 8 + (L + i % 8 - L) = i := by omega
  have e2 : (T + i / 8 - T) * 8 + (L + i % 8 + 1 - L) = i + 1 := by omega
  have h := blkTo_s0 g (W := W) (L := L) (T := T) (bw := 8) (lay g W L T bk on) (x := L + i % 8) (y := T + i / 8) (v := bnd v 0 255) (by unfold lay; rw [e1, hv]) (by omega) (by omega) (by omega) (by omega)
  rw [e1, e2] at h
  exact h
theorem p64 (i : Nat) : (i / 8) * 8 + i % 8 = i := by omega

set_option maxHeartbeats 4000000 in
set_option maxRecDepth 100000 in
theorem c_X4_clear (l : Launch) (D : va_G) (cs : Nat → ClassId) (tt : Nat → Nat) (o a sd W H N w h : Nat) (g : Nat → Int32) (hN : N ≤ 4096) : xM l yX4_clear wsX4_clear ({ frames := 1, cells := 0, slots := 0, locals := 23 } : Room) D cs tt [.ref o, .int (nI w), .int (nI h)] [(o, .inr (4, [.int (nI sd), .ref a, .int (nI W), .int (nI H)])), (a, .inl (cs 0, N, .inl g))] none [(o, .inr (4, [.int (nI sd), .ref a, .int (nI (sd * w)), .int (nI (sd * h))])), (a, .inl (cs 0, N, .inl (fun _ => 128)))] := by
  refine xM.of RX4 rfl (by decide) rfl (Nat.le_of_ble_eq_true rfl) ?_
  intro p e s m below meth c A ls hF hr hlk hX hP hD hS hl
  have hx := hF.1
  have hb := hF.2.1
  have hl : lv_has ls 3 [(0, .ref o), (1, .int (nI w)), (2, .int (nI h))] := hl
  refine lv_aload_n hx hb dX4_clear_0 rfl (lv_at hl 0 rfl) ?_
  refine lv_aload_n hx hb dX4_clear_1 rfl (lv_at hl 0 rfl) ?_
  refine xget (C := RX4) (T := TX4) (N := 4) hF hX hP (by decide +kernel) 0 0 rfl rfl (by decide) (by decide +kernel) rfl dX4_clear_2 ?_
  refine lv_iload_n hx hb dX4_clear_5 rfl (lv_at hl 1 rfl) ?_
  refine lv_imul hx hb dX4_clear_6 ?_
  refine xrwi (z := nI (sd * w)) (pk_mul sd w) ?_
  refine xputf (C := RX4) (T := TX4) (N := 4) (ws1 := [(o, .inr (4, [.int (nI sd), .ref a, .int (nI (sd * w)), .int (nI H)])), (a, .inl (cs 0, N, .inl g))]) hF hX hP hD hS (by decide +kernel) tyX4 tyX4_ok nmX4 0 2 rfl rfl (by decide) (by decide +kernel) rfl (rfl) (rfl) (Nat.le_of_ble_eq_true rfl) dX4_clear_7 rfl (fun Hp locs hP hD hS => ?_)
  refine lv_aload_n hx hb dX4_clear_10 rfl (lv_at hl 0 rfl) ?_
  refine lv_aload_n hx hb dX4_clear_11 rfl (lv_at hl 0 rfl) ?_
  refine xget (C := RX4) (T := TX4) (N := 4) hF hX hP (by decide +kernel) 0 0 rfl rfl (by decide) (by decide +kernel) rfl dX4_clear_12 ?_
  refine lv_iload_n hx hb dX4_clear_15 rfl (lv_at hl 2 rfl) ?_
  refine lv_imul hx hb dX4_clear_16 ?_
  refine xrwi (z := nI (sd * h)) (pk_mul sd h) ?_
  refine xputf (C := RX4) (T := TX4) (N := 4) (ws1 := [(o, .inr (4, [.int (nI sd), .ref a, .int (nI (sd * w)), .int (nI (sd * h))])), (a, .inl (cs 0, N, .inl g))]) hF hX hP hD hS (by decide +kernel) tyX4 tyX4_ok nmX4 0 3 rfl rfl (by decide) (by decide +kernel) rfl (rfl) (rfl) (Nat.le_of_ble_eq_true rfl) dX4_clear_17 rfl (fun Hp locs hP hD hS => ?_)
  refine lv_aload_n hx hb dX4_clear_20 rfl (lv_at hl 0 rfl) ?_
  refine xget (C := RX4) (T := TX4) (N := 4) hF hX hP (by decide +kernel) 0 1 rfl rfl (by decide) (by decide +kernel) rfl dX4_clear_21 ?_
  refine lv_sipush (v := 128) hx hb dX4_clear_24 (by decide) ?_
  refine xSt (rest := []) (As := [.ref a, .int 128]) (ws1 := [(o, .inr (4, [.int (nI sd), .ref a, .int (nI (sd * w)), .int (nI (sd * h))])), (a, .inl (cs 0, N, .inl (fun _ => 128)))]) (st1 := []) hF (c_J7_fill_53178 l D cs tt a N g 128 (by omega)) gX4_clear_J7_fill_53178 rfl (n := 2) (by decide +kernel) rfl ⟨⟨rfl, rfl⟩, Nat.le_of_ble_eq_true rfl, Nat.le_of_ble_eq_true rfl⟩ ⟨Nat.le_of_ble_eq_true rfl, Nat.le_of_ble_eq_true rfl⟩ hX hP hD hS [1] (by decide) rfl [a] rfl rfl hl.1 rfl (Nat.le_of_ble_eq_true rfl) dX4_clear_27 rfl rfl (fun Hp locs hP hD hS => ?_)
  exact xrv hF hr hlk hP hD hS dX4_clear_30

set_option maxHeartbeats 4000000 in
set_option maxRecDepth 100000 in
theorem c_X4_holds (l : Launch) (D : va_G) (cs : Nat → ClassId) (tt : Nat → Nat) (o a sd W H N : Nat) (g : Nat → Int32) (x y : Int32)  : xM l yX4_holds wsX4_holds ({ frames := 1, cells := 0, slots := 0, locals := 22 } : Room) D cs tt [.ref o, .int x, .int y] [(o, .inr (4, [.int (nI sd), .ref a, .int (nI W), .int (nI H)]))] (some (.int (hld x y W H))) [(o, .inr (4, [.int (nI sd), .ref a, .int (nI W), .int (nI H)]))] := by
  refine xM.of RX4 rfl (by decide) rfl (Nat.le_of_ble_eq_true rfl) ?_
  intro p e s m below meth c A ls hF hr hlk hX hP hD hS hl
  have hx := hF.1
  have hb := hF.2.1
  have hl : lv_has ls 3 [(0, .ref o), (1, .int x), (2, .int y)] := hl
  refine lv_iload_n hx hb dX4_holds_0 rfl (lv_at hl 1 rfl) ?_
  refine lv_iconst (v := 0) hx hb dX4_holds_1 (by decide) ?_
  refine lv_aload_n hx hb dX4_holds_2 rfl (lv_at hl 0 rfl) ?_
  refine xget (C := RX4) (T := TX4) (N := 4) hF hX hP (by decide +kernel) 0 2 rfl rfl (by decide) (by decide +kernel) rfl dX4_holds_3 ?_
  refine lv_iconst (v := 1) hx hb dX4_holds_6 (by decide) ?_
  refine lv_isub hx hb dX4_holds_7 ?_
  refine xSN (host := RX6) (rest := []) (As := [.int x, .int 0, .int ((nI W) - 1)]) (ws1 := [(o, .inr (4, [.int (nI sd), .ref a, .int (nI W), .int (nI H)]))]) (st1 := [.int (wi x 0 ((nI W) - 1))]) hF (c_X6_isWithin l D cs tt x 0 ((nI W) - 1)) gX4_holds_X6_isWithin_n37 rfl (by decide +kernel) (by decide +kernel) (by decide +kernel) (n := 3) (by decide +kernel) rfl ⟨⟨rfl, rfl⟩, Nat.le_of_ble_eq_true rfl, Nat.le_of_ble_eq_true rfl⟩ ⟨Nat.le_of_ble_eq_true rfl, Nat.le_of_ble_eq_true rfl⟩ hX hP hD hS [] (by decide) rfl [] rfl rfl hl.1 rfl (Nat.le_of_ble_eq_true rfl) dX4_holds_8 rfl rfl (fun Hp locs hP hD hS => ?_)
  refine lv_if_eq (tgt := 32) hx hb dX4_holds_11 (by decide) (fun c_11 => ?_) (fun c_11 => ?_)
  · refine lv_iconst (v := 0) hx hb dX4_holds_32 (by decide) ?_
    refine xrwi (z := (hld x y W H)) (by simp [hld, c_11]) ?_
    exact xrz hF hr hlk hP hD hS (narB (hld01 x y W H)) dX4_holds_33
  · refine lv_iload_n hx hb dX4_holds_14 rfl (lv_at hl 2 rfl) ?_
    refine lv_iconst (v := 0) hx hb dX4_holds_15 (by decide) ?_
    refine lv_aload_n hx hb dX4_holds_16 rfl (lv_at hl 0 rfl) ?_
    refine xget (C := RX4) (T := TX4) (N := 4) hF hX hP (by decide +kernel) 0 3 rfl rfl (by decide) (by decide +kernel) rfl dX4_holds_17 ?_
    refine lv_iconst (v := 1) hx hb dX4_holds_20 (by decide) ?_
    refine lv_isub hx hb dX4_holds_21 ?_
    refine xSN (host := RX6) (rest := []) (As := [.int y, .int 0, .int ((nI H) - 1)]) (ws1 := [(o, .inr (4, [.int (nI sd), .ref a, .int (nI W), .int (nI H)]))]) (st1 := [.int (wi y 0 ((nI H) - 1))]) hF (c_X6_isWithin l D cs tt y 0 ((nI H) - 1)) gX4_holds_X6_isWithin_n37 rfl (by decide +kernel) (by decide +kernel) (by decide +kernel) (n := 3) (by decide +kernel) rfl ⟨⟨rfl, rfl⟩, Nat.le_of_ble_eq_true rfl, Nat.le_of_ble_eq_true rfl⟩ ⟨Nat.le_of_ble_eq_true rfl, Nat.le_of_ble_eq_true rfl⟩ hX hP hD hS [] (by decide) rfl [] rfl rfl hl.1 rfl (Nat.le_of_ble_eq_true rfl) dX4_holds_22 rfl rfl (fun Hp locs hP hD hS => ?_)
    refine lv_if_eq (tgt := 32) hx hb dX4_holds_25 (by decide) (fun c_25 => ?_) (fun c_25 => ?_)
    · refine lv_iconst (v := 0) hx hb dX4_holds_32 (by decide) ?_
      refine xrwi (z := (hld x y W H)) (by simp [hld, c_11, c_25]) ?_
      exact xrz hF hr hlk hP hD hS (narB (hld01 x y W H)) dX4_holds_33
    · refine lv_iconst (v := 1) hx hb dX4_holds_28 (by decide) ?_
      refine lv_goto (tgt := 33) hx hb dX4_holds_29 (by decide) ?_
      refine xrwi (z := (hld x y W H)) (by simp [hld, c_11, c_25]) ?_
      exact xrz hF hr hlk hP hD hS (narB (hld01 x y W H)) dX4_holds_33

set_option maxHeartbeats 4000000 in
set_option maxRecDepth 100000 in
theorem c_X4_nearest (l : Launch) (D : va_G) (cs : Nat → ClassId) (tt : Nat → Nat) (o a sd W H N : Nat) (g : Nat → Int32) (x y : Int32) (hd : dim W H N) : xM l yX4_nearest wsX4_nearest ({ frames := 1, cells := 0, slots := 0, locals := 22 } : Room) D cs tt [.ref o, .int x, .int y] [(o, .inr (4, [.int (nI sd), .ref a, .int (nI W), .int (nI H)])), (a, .inl (cs 0, N, .inl g))] (some (.int (pxl g W (cl x W) (cl y H)))) [(o, .inr (4, [.int (nI sd), .ref a, .int (nI W), .int (nI H)])), (a, .inl (cs 0, N, .inl g))] := by
  refine xM.of RX4 rfl (by decide) rfl (Nat.le_of_ble_eq_true rfl) ?_
  intro p e s m below meth c A ls hF hr hlk hX hP hD hS hl
  have hx := hF.1
  have hb := hF.2.1
  have hl : lv_has ls 3 [(0, .ref o), (1, .int x), (2, .int y)] := hl
  refine lv_aload_n hx hb dX4_nearest_0 rfl (lv_at hl 0 rfl) ?_
  refine xget (C := RX4) (T := TX4) (N := 4) hF hX hP (by decide +kernel) 0 1 rfl rfl (by decide) (by decide +kernel) rfl dX4_nearest_1 ?_
  refine lv_iload_n hx hb dX4_nearest_4 rfl (lv_at hl 2 rfl) ?_
  refine lv_iconst (v := 0) hx hb dX4_nearest_5 (by decide) ?_
  refine lv_aload_n hx hb dX4_nearest_6 rfl (lv_at hl 0 rfl) ?_
  refine xget (C := RX4) (T := TX4) (N := 4) hF hX hP (by decide +kernel) 0 3 rfl rfl (by decide) (by decide +kernel) rfl dX4_nearest_7 ?_
  refine lv_iconst (v := 1) hx hb dX4_nearest_10 (by decide) ?_
  refine lv_isub hx hb dX4_nearest_11 ?_
  refine xSN (host := RX6) (rest := [.ref a]) (As := [.int y, .int 0, .int ((nI H) - 1)]) (ws1 := [(o, .inr (4, [.int (nI sd), .ref a, .int (nI W), .int (nI H)])), (a, .inl (cs 0, N, .inl g))]) (st1 := [.int (bnd y 0 ((nI H) - 1)), .ref a]) hF (c_X6_bounded l D cs tt y 0 ((nI H) - 1)) gX4_nearest_X6_bounded_n41 rfl (by decide +kernel) (by decide +kernel) (by decide +kernel) (n := 3) (by decide +kernel) rfl ⟨⟨rfl, rfl⟩, Nat.le_of_ble_eq_true rfl, Nat.le_of_ble_eq_true rfl⟩ ⟨Nat.le_of_ble_eq_true rfl, Nat.le_of_ble_eq_true rfl⟩ hX hP hD hS [] (by decide) rfl [] rfl rfl hl.1 rfl (Nat.le_of_ble_eq_true rfl) dX4_nearest_12 rfl rfl (fun Hp locs hP hD hS => ?_)
  refine xrwi (z := nI (cl y H)) (cl_bnd y hd.2.2.1 (by have := hd.2.2.2.1; omega)) ?_
  refine lv_aload_n hx hb dX4_nearest_15 rfl (lv_at hl 0 rfl) ?_
  refine xget (C := RX4) (T := TX4) (N := 4) hF hX hP (by decide +kernel) 0 2 rfl rfl (by decide) (by decide +kernel) rfl dX4_nearest_16 ?_
  refine lv_imul hx hb dX4_nearest_19 ?_
  refine lv_iload_n hx hb dX4_nearest_20 rfl (lv_at hl 1 rfl) ?_
  refine lv_iconst (v := 0) hx hb dX4_nearest_21 (by decide) ?_
  refine lv_aload_n hx hb dX4_nearest_22 rfl (lv_at hl 0 rfl) ?_
  refine xget (C := RX4) (T := TX4) (N := 4) hF hX hP (by decide +kernel) 0 2 rfl rfl (by decide) (by decide +kernel) rfl dX4_nearest_23 ?_
  refine lv_iconst (v := 1) hx hb dX4_nearest_26 (by decide) ?_
  refine lv_isub hx hb dX4_nearest_27 ?_
  refine xSN (host := RX6) (rest := [.int (nI (cl y H) * (nI W)), .ref a]) (As := [.int x, .int 0, .int ((nI W) - 1)]) (ws1 := [(o, .inr (4, [.int (nI sd), .ref a, .int (nI W), .int (nI H)])), (a, .inl (cs 0, N, .inl g))]) (st1 := [.int (bnd x 0 ((nI W) - 1)), .int (nI (cl y H) * (nI W)), .ref a]) hF (c_X6_bounded l D cs tt x 0 ((nI W) - 1)) gX4_nearest_X6_bounded_n41 rfl (by decide +kernel) (by decide +kernel) (by decide +kernel) (n := 3) (by decide +kernel) rfl ⟨⟨rfl, rfl⟩, Nat.le_of_ble_eq_true rfl, Nat.le_of_ble_eq_true rfl⟩ ⟨Nat.le_of_ble_eq_true rfl, Nat.le_of_ble_eq_true rfl⟩ hX hP hD hS [] (by decide) rfl [] rfl rfl hl.1 rfl (Nat.le_of_ble_eq_true rfl) dX4_nearest_28 rfl rfl (fun Hp locs hP hD hS => ?_)
  refine xrwi (z := nI (cl x W)) (cl_bnd x hd.1 (by have := hd.2.1; omega)) ?_
  refine lv_iadd hx hb dX4_nearest_31 ?_
  refine xrwi (z := nI (cl y H * W + cl x W)) (nIma _ _ _) ?_
  refine xald (k := cl y H * W + cl x W) hF hX hP 1 rfl (dim_c hd (cl_lt x hd.1) (cl_lt y hd.2.2.1)) (dim_i hd (cl_lt x hd.1) (cl_lt y hd.2.2.1)) dX4_nearest_32 ?_
  exact xri (Q9 := fun _ _ _ _ => True) hF hr hlk hP hD hS dX4_nearest_33

set_option maxHeartbeats 4000000 in
set_option maxRecDepth 100000 in
theorem c_X4_put (l : Launch) (D : va_G) (cs : Nat → ClassId) (tt : Nat → Nat) (o a sd W H N x y : Nat) (g : Nat → Int32) (v : Int32) (hd : dim W H N) (hx0 : x < W) (hy0 : y < H) : xM l yX4_put wsX4_put ({ frames := 2, cells := 0, slots := 0, locals := 44 } : Room) D cs tt [.ref o, .int (nI x), .int (nI y), .int v] [(o, .inr (4, [.int (nI sd), .ref a, .int (nI W), .int (nI H)])), (a, .inl (cs 0, N, .inl g))] none [(o, .inr (4, [.int (nI sd), .ref a, .int (nI W), .int (nI H)])), (a, .inl (cs 0, N, .inl (upd g (y * W + x) (bnd v 0 255))))] := by
  refine xM.of RX4 rfl (by decide) rfl (Nat.le_of_ble_eq_true rfl) ?_
  intro p e s m below meth c A ls hF hr hlk hX hP hD hS hl
  have hx := hF.1
  have hb := hF.2.1
  have hl : lv_has ls 4 [(0, .ref o), (1, .int (nI x)), (2, .int (nI y)), (3, .int v)] := hl
  refine lv_aload_n hx hb dX4_put_0 rfl (lv_at hl 0 rfl) ?_
  refine lv_iload_n hx hb dX4_put_1 rfl (lv_at hl 1 rfl) ?_
  refine lv_iload_n hx hb dX4_put_2 rfl (lv_at hl 2 rfl) ?_
  refine xV (rest := []) (As := [.int (nI x), .int (nI y)]) (ws1 := [(o, .inr (4, [.int (nI sd), .ref a, .int (nI W), .int (nI H)])), (a, .inl (cs 0, N, .inl g))]) (st1 := [.int (hld (nI x) (nI y) W H)]) hF (c_X4_holds l D cs tt o a sd W H N g (nI x) (nI y)) gX4_put_X4_holds rfl (n := 2) (by decide +kernel) rfl ⟨⟨rfl, rfl⟩, Nat.le_of_ble_eq_true rfl, Nat.le_of_ble_eq_true rfl⟩ ⟨Nat.le_of_ble_eq_true rfl, Nat.le_of_ble_eq_true rfl⟩ hX hP hD hS [0] (by decide) rfl [o] rfl rfl (q0 := 0) (ci := 4) rfl rfl rfl hl.1 rfl (Nat.le_of_ble_eq_true rfl) dX4_put_3 rfl rfl (fun Hp locs hP hD hS => ?_)
  refine lv_if_eq (tgt := 30) hx hb dX4_put_6 (by decide) (fun c_6 => absurd c_6 (by rw [hld_nI hx0 hy0 (by have := hd.2.1; omega) (by have := hd.2.2.2.1; omega)]; decide)) (fun _ => ?_)
  refine lv_aload_n hx hb dX4_put_9 rfl (lv_at hl 0 rfl) ?_
  refine xget (C := RX4) (T := TX4) (N := 4) hF hX hP (by decide +kernel) 0 1 rfl rfl (by decide) (by decide +kernel) rfl dX4_put_10 ?_
  refine lv_iload_n hx hb dX4_put_13 rfl (lv_at hl 2 rfl) ?_
  refine lv_aload_n hx hb dX4_put_14 rfl (lv_at hl 0 rfl) ?_
  refine xget (C := RX4) (T := TX4) (N := 4) hF hX hP (by decide +kernel) 0 2 rfl rfl (by decide) (by decide +kernel) rfl dX4_put_15 ?_
  refine lv_imul hx hb dX4_put_18 ?_
  refine lv_iload_n hx hb dX4_put_19 rfl (lv_at hl 1 rfl) ?_
  refine lv_iadd hx hb dX4_put_20 ?_
  refine xrwi (z := nI (y * W + x)) (nIma _ _ _) ?_
  refine lv_iload_n hx hb dX4_put_21 rfl (lv_at hl 3 rfl) ?_
  refine lv_iconst (v := 0) hx hb dX4_put_22 (by decide) ?_
  refine lv_sipush (v := 255) hx hb dX4_put_23 (by decide) ?_
  refine xSN (host := RX6) (rest := [.int (nI (y * W + x)), .ref a]) (As := [.int v, .int 0, .int 255]) (ws1 := [(o, .inr (4, [.int (nI sd), .ref a, .int (nI W), .int (nI H)])), (a, .inl (cs 0, N, .inl g))]) (st1 := [.int (bnd v 0 255), .int (nI (y * W + x)), .ref a]) hF (c_X6_bounded l D cs tt v 0 255) gX4_put_X6_bounded_n41 rfl (by decide +kernel) (by decide +kernel) (by decide +kernel) (n := 3) (by decide +kernel) rfl ⟨⟨rfl, rfl⟩, Nat.le_of_ble_eq_true rfl, Nat.le_of_ble_eq_true rfl⟩ ⟨Nat.le_of_ble_eq_true rfl, Nat.le_of_ble_eq_true rfl⟩ hX hP hD hS [] (by decide) rfl [] rfl rfl hl.1 rfl (Nat.le_of_ble_eq_true rfl) dX4_put_26 rfl rfl (fun Hp locs hP hD hS => ?_)
  refine xast (k := y * W + x) (ws1 := [(o, .inr (4, [.int (nI sd), .ref a, .int (nI W), .int (nI H)])), (a, .inl (cs 0, N, .inl (upd g (y * W + x) (bnd v 0 255))))]) hF hX hP hD hS 1 rfl (dim_c hd hx0 hy0) (dim_i hd hx0 hy0) dX4_put_29 rfl (fun Hp locs hP hD hS => ?_)
  exact xrv hF hr hlk hP hD hS dX4_put_30

set_option maxHeartbeats 4000000 in
set_option maxRecDepth 100000 in
theorem c_X4_fetched (l : Launch) (D : va_G) (cs : Nat → ClassId) (tt : Nat → Nat) (o a sd W H N : Nat) (g : Nat → Int32) (x y dx dy : Int32) (hd : dim W H N) : xM l yX4_fetched wsX4_fetched ({ frames := 2, cells := 0, slots := 0, locals := 44 } : Room) D cs tt [.ref o, .int x, .int y, .int dx, .int dy] [(o, .inr (4, [.int (nI sd), .ref a, .int (nI W), .int (nI H)])), (a, .inl (cs 0, N, .inl g))] (some (.int (ftc (pxl g W) W H x y dx dy))) [(o, .inr (4, [.int (nI sd), .ref a, .int (nI W), .int (nI H)])), (a, .inl (cs 0, N, .inl g))] := by
  refine xM.of RX4 rfl (by decide) rfl (Nat.le_of_ble_eq_true rfl) ?_
  intro p e s m below meth c A ls hF hr hlk hX hP hD hS hl
  have hx := hF.1
  have hb := hF.2.1
  have hl : lv_has ls 10 [(0, .ref o), (1, .int x), (2, .int y), (3, .int dx), (4, .int dy)] := hl
  refine lv_iload_n hx hb dX4_fetched_0 rfl (lv_at hl 1 rfl) ?_
  refine lv_iload_n hx hb dX4_fetched_1 rfl (lv_at hl 3 rfl) ?_
  refine lv_iconst (v := 1) hx hb dX4_fetched_2 (by decide) ?_
  refine lv_ishr hx hb dX4_fetched_3 ?_
  refine lv_iadd hx hb dX4_fetched_4 ?_
  refine lv_istore (lv' := [(5, .int (x + (dx >>> (1 &&& 31)))), (0, .ref o), (1, .int x), (2, .int y), (3, .int dx), (4, .int dy)]) hx hb dX4_fetched_5 hl (by decide) rfl (fun ls hl => ?_)
  refine lv_iload_n hx hb dX4_fetched_7 rfl (lv_at hl 3 rfl) ?_
  refine lv_iload hx hb dX4_fetched_8 (lv_at hl 5 rfl) ?_
  refine lv_iconst (v := 1) hx hb dX4_fetched_10 (by decide) ?_
  refine lv_ishr hx hb dX4_fetched_11 ?_
  refine lv_iadd hx hb dX4_fetched_12 ?_
  refine lv_istore (lv' := [(6, .int (y + (dy >>> (1 &&& 31)))), (5, .int (x + (dx >>> (1 &&& 31)))), (0, .ref o), (1, .int x), (2, .int y), (3, .int dx), (4, .int dy)]) hx hb dX4_fetched_13 hl (by decide) rfl (fun ls hl => ?_)
  refine lv_iload hx hb dX4_fetched_15 (lv_at hl 1 rfl) ?_
  refine lv_iload_n hx hb dX4_fetched_17 rfl (lv_at hl 5 rfl) ?_
  refine lv_iconst (v := 1) hx hb dX4_fetched_18 (by decide) ?_
  refine lv_iand hx hb dX4_fetched_19 ?_
  refine lv_iadd hx hb dX4_fetched_20 ?_
  refine lv_istore (lv' := [(7, .int ((x + (dx >>> (1 &&& 31))) + (dx &&& 1))), (6, .int (y + (dy >>> (1 &&& 31)))), (5, .int (x + (dx >>> (1 &&& 31)))), (0, .ref o), (1, .int x), (2, .int y), (3, .int dx), (4, .int dy)]) hx hb dX4_fetched_21 hl (by decide) rfl (fun ls hl => ?_)
  refine lv_iload hx hb dX4_fetched_23 (lv_at hl 1 rfl) ?_
  refine lv_iload hx hb dX4_fetched_25 (lv_at hl 7 rfl) ?_
  refine lv_iconst (v := 1) hx hb dX4_fetched_27 (by decide) ?_
  refine lv_iand hx hb dX4_fetched_28 ?_
  refine lv_iadd hx hb dX4_fetched_29 ?_
  refine lv_istore (lv' := [(8, .int ((y + (dy >>> (1 &&& 31))) + (dy &&& 1))), (7, .int ((x + (dx >>> (1 &&& 31))) + (dx &&& 1))), (6, .int (y + (dy >>> (1 &&& 31)))), (5, .int (x + (dx >>> (1 &&& 31)))), (0, .ref o), (1, .int x), (2, .int y), (3, .int dx), (4, .int dy)]) hx hb dX4_fetched_30 hl (by decide) rfl (fun ls hl => ?_)
  refine lv_aload_n hx hb dX4_fetched_32 rfl (lv_at hl 4 rfl) ?_
  refine lv_iload hx hb dX4_fetched_33 (lv_at hl 3 rfl) ?_
  refine lv_iload hx hb dX4_fetched_35 (lv_at hl 2 rfl) ?_
  refine xV (rest := []) (As := [.int (x + (dx >>> (1 &&& 31))), .int (y + (dy >>> (1 &&& 31)))]) (ws1 := [(o, .inr (4, [.int (nI sd), .ref a, .int (nI W), .int (nI H)])), (a, .inl (cs 0, N, .inl g))]) (st1 := [.int (pxl g W (cl (x + (dx >>> (1 &&& 31))) W) (cl (y + (dy >>> (1 &&& 31))) H))]) hF (c_X4_nearest l D cs tt o a sd W H N g (x + (dx >>> (1 &&& 31))) (y + (dy >>> (1 &&& 31))) hd) gX4_fetched_X4_nearest rfl (n := 2) (by decide +kernel) rfl ⟨⟨rfl, rfl⟩, Nat.le_of_ble_eq_true rfl, Nat.le_of_ble_eq_true rfl⟩ ⟨Nat.le_of_ble_eq_true rfl, Nat.le_of_ble_eq_true rfl⟩ hX hP hD hS [0, 1] (by decide) rfl [o, a] rfl rfl (q0 := 0) (ci := 4) rfl rfl rfl hl.1 rfl (Nat.le_of_ble_eq_true rfl) dX4_fetched_37 rfl rfl (fun Hp locs hP hD hS => ?_)
  refine lv_aload_n hx hb dX4_fetched_40 rfl (lv_at hl 4 rfl) ?_
  refine lv_iload hx hb dX4_fetched_41 (lv_at hl 1 rfl) ?_
  refine lv_iload hx hb dX4_fetched_43 (lv_at hl 2 rfl) ?_
  refine xV (rest := [.int (pxl g W (cl (x + (dx >>> (1 &&& 31))) W) (cl (y + (dy >>> (1 &&& 31))) H))]) (As := [.int ((x + (dx >>> (1 &&& 31))) + (dx &&& 1)), .int (y + (dy >>> (1 &&& 31)))]) (ws1 := [(o, .inr (4, [.int (nI sd), .ref a, .int (nI W), .int (nI H)])), (a, .inl (cs 0, N, .inl g))]) (st1 := [.int (pxl g W (cl ((x + (dx >>> (1 &&& 31))) + (dx &&& 1)) W) (cl (y + (dy >>> (1 &&& 31))) H)), .int (pxl g W (cl (x + (dx >>> (1 &&& 31))) W) (cl (y + (dy >>> (1 &&& 31))) H))]) hF (c_X4_nearest l D cs tt o a sd W H N g ((x + (dx >>> (1 &&& 31))) + (dx &&& 1)) (y + (dy >>> (1 &&& 31))) hd) gX4_fetched_X4_nearest rfl (n := 2) (by decide +kernel) rfl ⟨⟨rfl, rfl⟩, Nat.le_of_ble_eq_true rfl, Nat.le_of_ble_eq_true rfl⟩ ⟨Nat.le_of_ble_eq_true rfl, Nat.le_of_ble_eq_true rfl⟩ hX hP hD hS [0, 1] (by decide) rfl [o, a] rfl rfl (q0 := 0) (ci := 4) rfl rfl rfl hl.1 rfl (Nat.le_of_ble_eq_true rfl) dX4_fetched_45 rfl rfl (fun Hp locs hP hD hS => ?_)
  refine lv_iadd hx hb dX4_fetched_48 ?_
  refine lv_istore (lv' := [(9, .int ((pxl g W (cl (x + (dx >>> (1 &&& 31))) W) (cl (y + (dy >>> (1 &&& 31))) H)) + (pxl g W (cl ((x + (dx >>> (1 &&& 31))) + (dx &&& 1)) W) (cl (y + (dy >>> (1 &&& 31))) H)))), (8, .int ((y + (dy >>> (1 &&& 31))) + (dy &&& 1))), (7, .int ((x + (dx >>> (1 &&& 31))) + (dx &&& 1))), (6, .int (y + (dy >>> (1 &&& 31)))), (5, .int (x + (dx >>> (1 &&& 31)))), (0, .ref o), (1, .int x), (2, .int y), (3, .int dx), (4, .int dy)]) hx hb dX4_fetched_49 hl (by decide) rfl (fun ls hl => ?_)
  refine lv_iload hx hb dX4_fetched_51 (lv_at hl 0 rfl) ?_
  refine lv_aload_n hx hb dX4_fetched_53 rfl (lv_at hl 5 rfl) ?_
  refine lv_iload hx hb dX4_fetched_54 (lv_at hl 4 rfl) ?_
  refine lv_iload hx hb dX4_fetched_56 (lv_at hl 1 rfl) ?_
  refine xV (rest := [.int ((pxl g W (cl (x + (dx >>> (1 &&& 31))) W) (cl (y + (dy >>> (1 &&& 31))) H)) + (pxl g W (cl ((x + (dx >>> (1 &&& 31))) + (dx &&& 1)) W) (cl (y + (dy >>> (1 &&& 31))) H)))]) (As := [.int (x + (dx >>> (1 &&& 31))), .int ((y + (dy >>> (1 &&& 31))) + (dy &&& 1))]) (ws1 := [(o, .inr (4, [.int (nI sd), .ref a, .int (nI W), .int (nI H)])), (a, .inl (cs 0, N, .inl g))]) (st1 := [.int (pxl g W (cl (x + (dx >>> (1 &&& 31))) W) (cl ((y + (dy >>> (1 &&& 31))) + (dy &&& 1)) H)), .int ((pxl g W (cl (x + (dx >>> (1 &&& 31))) W) (cl (y + (dy >>> (1 &&& 31))) H)) + (pxl g W (cl ((x + (dx >>> (1 &&& 31))) + (dx &&& 1)) W) (cl (y + (dy >>> (1 &&& 31))) H)))]) hF (c_X4_nearest l D cs tt o a sd W H N g (x + (dx >>> (1 &&& 31))) ((y + (dy >>> (1 &&& 31))) + (dy &&& 1)) hd) gX4_fetched_X4_nearest rfl (n := 2) (by decide +kernel) rfl ⟨⟨rfl, rfl⟩, Nat.le_of_ble_eq_true rfl, Nat.le_of_ble_eq_true rfl⟩ ⟨Nat.le_of_ble_eq_true rfl, Nat.le_of_ble_eq_true rfl⟩ hX hP hD hS [0, 1] (by decide) rfl [o, a] rfl rfl (q0 := 0) (ci := 4) rfl rfl rfl hl.1 rfl (Nat.le_of_ble_eq_true rfl) dX4_fetched_58 rfl rfl (fun Hp locs hP hD hS => ?_)
  refine lv_iadd hx hb dX4_fetched_61 ?_
  refine lv_aload_n hx hb dX4_fetched_62 rfl (lv_at hl 5 rfl) ?_
  refine lv_iload hx hb dX4_fetched_63 (lv_at hl 2 rfl) ?_
  refine lv_iload hx hb dX4_fetched_65 (lv_at hl 1 rfl) ?_
  refine xV (rest := [.int (((pxl g W (cl (x + (dx >>> (1 &&& 31))) W) (cl (y + (dy >>> (1 &&& 31))) H)) + (pxl g W (cl ((x + (dx >>> (1 &&& 31))) + (dx &&& 1)) W) (cl (y + (dy >>> (1 &&& 31))) H))) + (pxl g W (cl (x + (dx >>> (1 &&& 31))) W) (cl ((y + (dy >>> (1 &&& 31))) + (dy &&& 1)) H)))]) (As := [.int ((x + (dx >>> (1 &&& 31))) + (dx &&& 1)), .int ((y + (dy >>> (1 &&& 31))) + (dy &&& 1))]) (ws1 := [(o, .inr (4, [.int (nI sd), .ref a, .int (nI W), .int (nI H)])), (a, .inl (cs 0, N, .inl g))]) (st1 := [.int (pxl g W (cl ((x + (dx >>> (1 &&& 31))) + (dx &&& 1)) W) (cl ((y + (dy >>> (1 &&& 31))) + (dy &&& 1)) H)), .int (((pxl g W (cl (x + (dx >>> (1 &&& 31))) W) (cl (y + (dy >>> (1 &&& 31))) H)) + (pxl g W (cl ((x + (dx >>> (1 &&& 31))) + (dx &&& 1)) W) (cl (y + (dy >>> (1 &&& 31))) H))) + (pxl g W (cl (x + (dx >>> (1 &&& 31))) W) (cl ((y + (dy >>> (1 &&& 31))) + (dy &&& 1)) H)))]) hF (c_X4_nearest l D cs tt o a sd W H N g ((x + (dx >>> (1 &&& 31))) + (dx &&& 1)) ((y + (dy >>> (1 &&& 31))) + (dy &&& 1)) hd) gX4_fetched_X4_nearest rfl (n := 2) (by decide +kernel) rfl ⟨⟨rfl, rfl⟩, Nat.le_of_ble_eq_true rfl, Nat.le_of_ble_eq_true rfl⟩ ⟨Nat.le_of_ble_eq_true rfl, Nat.le_of_ble_eq_true rfl⟩ hX hP hD hS [0, 1] (by decide) rfl [o, a] rfl rfl (q0 := 0) (ci := 4) rfl rfl rfl hl.1 rfl (Nat.le_of_ble_eq_true rfl) dX4_fetched_67 rfl rfl (fun Hp locs hP hD hS => ?_)
  refine lv_iadd hx hb dX4_fetched_70 ?_
  refine lv_iconst (v := 2) hx hb dX4_fetched_71 (by decide) ?_
  refine lv_iadd hx hb dX4_fetched_72 ?_
  refine lv_iconst (v := 2) hx hb dX4_fetched_73 (by decide) ?_
  refine lv_ishr hx hb dX4_fetched_74 ?_
  exact xri (Q9 := fun _ _ _ _ => True) hF hr hlk hP hD hS dX4_fetched_75

set_option maxHeartbeats 4000000 in
set_option maxRecDepth 100000 in
theorem c_X4_copyFrom (l : Launch) (D : va_G) (cs : Nat → ClassId) (tt : Nat → Nat) (o a sd W H N o2 a2 sd2 W2 H2 N2 : Nat) (g g2 : Nat → Int32) (hd : dim W H N) (h2 : W * H ≤ N2) : xM l yX4_copyFrom wsX4_copyFrom ({ frames := 1, cells := 0, slots := 0, locals := 40 } : Room) D cs tt [.ref o, .ref o2] [(o, .inr (4, [.int (nI sd), .ref a, .int (nI W), .int (nI H)])), (a, .inl (cs 0, N, .inl g)), (o2, .inr (4, [.int (nI sd2), .ref a2, .int (nI W2), .int (nI H2)])), (a2, .inl (cs 0, N2, .inl g2))] none [(o, .inr (4, [.int (nI sd), .ref a, .int (nI W), .int (nI H)])), (a, .inl (cs 0, N, .inl (va_cpy g2 g 0 0 (W * H)))), (o2, .inr (4, [.int (nI sd2), .ref a2, .int (nI W2), .int (nI H2)])), (a2, .inl (cs 0, N2, .inl g2))] := by
  refine xM.of RX4 rfl (by decide) rfl (Nat.le_of_ble_eq_true rfl) ?_
  intro p e s m below meth c A ls hF hr hlk hX hP hD hS hl
  have hx := hF.1
  have hb := hF.2.1
  have hl : lv_has ls 2 [(0, .ref o), (1, .ref o2)] := hl
  refine lv_aload_n hx hb dX4_copyFrom_0 rfl (lv_at hl 1 rfl) ?_
  refine xget (C := RX4) (T := TX4) (N := 4) hF hX hP (by decide +kernel) 2 1 rfl rfl (by decide) (by decide +kernel) rfl dX4_copyFrom_1 ?_
  refine lv_iconst (v := 0) hx hb dX4_copyFrom_4 (by decide) ?_
  refine lv_aload_n hx hb dX4_copyFrom_5 rfl (lv_at hl 0 rfl) ?_
  refine xget (C := RX4) (T := TX4) (N := 4) hF hX hP (by decide +kernel) 0 1 rfl rfl (by decide) (by decide +kernel) rfl dX4_copyFrom_6 ?_
  refine lv_iconst (v := 0) hx hb dX4_copyFrom_9 (by decide) ?_
  refine lv_aload_n hx hb dX4_copyFrom_10 rfl (lv_at hl 0 rfl) ?_
  refine xget (C := RX4) (T := TX4) (N := 4) hF hX hP (by decide +kernel) 0 2 rfl rfl (by decide) (by decide +kernel) rfl dX4_copyFrom_11 ?_
  refine lv_aload_n hx hb dX4_copyFrom_14 rfl (lv_at hl 0 rfl) ?_
  refine xget (C := RX4) (T := TX4) (N := 4) hF hX hP (by decide +kernel) 0 3 rfl rfl (by decide) (by decide +kernel) rfl dX4_copyFrom_15 ?_
  refine lv_imul hx hb dX4_copyFrom_18 ?_
  refine xrwi (z := nI (W * H)) (pk_mul W H) ?_
  refine xcopy (K := (W * H)) (ws1 := [(o, .inr (4, [.int (nI sd), .ref a, .int (nI W), .int (nI H)])), (a, .inl (cs 0, N, .inl (va_cpy g2 g 0 0 (W * H)))), (o2, .inr (4, [.int (nI sd2), .ref a2, .int (nI W2), .int (nI H2)])), (a2, .inl (cs 0, N2, .inl g2))]) hF hX hP hD hS hl.1 (by decide +kernel) (by decide +kernel) (by decide +kernel) (by decide +kernel) 3 1 rfl rfl (h2) (hd.2.2.2.2.1) (by have := hd.2.2.2.2.1; have := hd.2.2.2.2.2; omega) (Nat.le_of_ble_eq_true rfl) (Nat.le_of_ble_eq_true rfl) dX4_copyFrom_19 rfl (fun Hp locs hP hD hS => ?_)
  exact xrv hF hr hlk hP hD hS dX4_copyFrom_22

set_option maxHeartbeats 4000000 in
set_option maxRecDepth 100000 in
theorem c_X4_putBlock (l : Launch) (D : va_G) (cs : Nat → ClassId) (tt : Nat → Nat) (o a sd W H N L T b NB : Nat) (g bk : Nat → Int32) (on : Int32) (hd : dim W H N) (hL : L + 8 ≤ W) (hT : T + 8 ≤ H) (hB : 64 ≤ NB) (hB2 : NB ≤ 65536) : xM l yX4_putBlock wsX4_putBlock ({ frames := 3, cells := 0, slots := 0, locals := 67 } : Room) D cs tt [.ref o, .int (nI L), .int (nI T), .ref b, .int on] [(o, .inr (4, [.int (nI sd), .ref a, .int (nI W), .int (nI H)])), (a, .inl (cs 0, N, .inl g)), (b, .inl (cs 0, NB, .inl bk))] none [(o, .inr (4, [.int (nI sd), .ref a, .int (nI W), .int (nI H)])), (a, .inl (cs 0, N, .inl (blkTo g 0 W L T 8 64 (lay g W L T bk on)))), (b, .inl (cs 0, NB, .inl bk))] := by
  refine xM.of RX4 rfl (by decide) rfl (Nat.le_of_ble_eq_true rfl) ?_
  intro p e s m below meth c A ls hF hr hlk hX hP hD hS hl
  have hx := hF.1
  have hb := hF.2.1
  have hl : lv_has ls 8 [(0, .ref o), (1, .int (nI L)), (2, .int (nI T)), (3, .ref b), (4, .int on)] := hl
  refine lv_iconst (v := 0) hx hb dX4_putBlock_0 (by decide) ?_
  refine lv_istore (lv' := [(5, .int 0), (0, .ref o), (1, .int (nI L)), (2, .int (nI T)), (3, .ref b), (4, .int on)]) hx hb dX4_putBlock_1 hl (by decide) rfl (fun ls hl => ?_)
  have loop_3 : ∀ (k3 : Nat) (i : Nat), 64 - i < k3 → i ≤ 64 → ∀ (Hp : Heap) (locs : List Loc) (ls : Array Slot), va_P D vwCl [(o, .inr (4, [.int (nI sd), .ref a, .int (nI W), .int (nI H)])), (a, .inl (cs 0, N, .inl (blkTo g 0 W L T 8 i (lay g W L T bk on)))), (b, .inl (cs 0, NB, .inl bk))] Hp → va_D A [(o, .inr (4, [.int (nI sd), .ref a, .int (nI W), .int (nI H)])), (a, .inl (cs 0, N, .inl (blkTo g 0 W L T 8 i (lay g W L T bk on)))), (b, .inl (cs 0, NB, .inl bk))] → va_S A s.heap Hp locs → lv_has ls 8 [(0, .ref o), (1, .int (nI L)), (2, .int (nI T)), (3, .ref b), (4, .int on), (5, .int (nI i))] → xW p l e ({ frames := 3, cells := 0, slots := 0, locals := 67 } : Room) s m ([.ref o, .int (nI L), .int (nI T), .ref b, .int on] : List Value).toArray below meth c Hp locs 0 0 (MQ below (xE D A none [(o, .inr (4, [.int (nI sd), .ref a, .int (nI W), .int (nI H)])), (a, .inl (cs 0, N, .inl (blkTo g 0 W L T 8 64 (lay g W L T bk on)))), (b, .inl (cs 0, NB, .inl bk))]) ([.ref o, .int (nI L), .int (nI T), .ref b, .int on] : List Value).toArray s 0 0 A) (F0 m 3 ls []) := by
    intro k3
    induction k3 with
    | zero => intro i h9; omega
    | succ k3 ih_3 =>
      intro i hk3 hi Hp locs ls hP hD hS hl
      refine lv_iload hx hb dX4_putBlock_3 (lv_at hl 5 rfl) ?_
      refine lv_bipush (v := 64) hx hb dX4_putBlock_5 (by decide) ?_
      refine lv_icmp_ge (tgt := 67) hx hb dX4_putBlock_7 (by decide) (fun c_7 => ?_) (fun c_7 => ?_)
      · have e64 : i = 64 := by have := nIle (a := 64) (b := i) rfl rfl (by decide) (by omega) c_7; omega
        subst e64
        exact xrv hF hr hlk hP hD hS dX4_putBlock_67
      · have hlt : i < 64 := nInle (a := 64) (b := i) rfl rfl (by decide) (by omega) c_7
        have hxW : L + i % 8 < W := by omega
        have hyH : T + i / 8 < H := by omega
        have hW64 := hd.2.1
        have hH64 := hd.2.2.2.1
        refine lv_iload_n hx hb dX4_putBlock_10 rfl (lv_at hl 1 rfl) ?_
        refine lv_iload hx hb dX4_putBlock_11 (lv_at hl 5 rfl) ?_
        refine lv_bipush (v := 8) hx hb dX4_putBlock_13 (by decide) ?_
        refine lv_irem hx hb dX4_putBlock_15 (by decide) ?_
        refine xrwi (z := nI (i % 8)) (pk_rem (a := i) (d := 8) (by omega) (by omega) (by omega)) ?_
        refine lv_iadd hx hb dX4_putBlock_16 ?_
        refine xrwi (z := nI (L + i % 8)) (nI_add _ _) ?_
        refine lv_istore (lv' := [(6, .int (nI (L + i % 8))), (0, .ref o), (1, .int (nI L)), (2, .int (nI T)), (3, .ref b), (4, .int on), (5, .int (nI i))]) hx hb dX4_putBlock_17 hl (by decide) rfl (fun ls hl => ?_)
        refine lv_iload_n hx hb dX4_putBlock_19 rfl (lv_at hl 3 rfl) ?_
        refine lv_iload hx hb dX4_putBlock_20 (lv_at hl 6 rfl) ?_
        refine lv_bipush (v := 8) hx hb dX4_putBlock_22 (by decide) ?_
        refine lv_idiv hx hb dX4_putBlock_24 (by decide) ?_
        refine xrwi (z := nI (i / 8)) (pk_div (a := i) (d := 8) (by omega) (by omega) (by omega)) ?_
        refine lv_iadd hx hb dX4_putBlock_25 ?_
        refine xrwi (z := nI (T + i / 8)) (nI_add _ _) ?_
        refine lv_istore (lv' := [(7, .int (nI (T + i / 8))), (6, .int (nI (L + i % 8))), (0, .ref o), (1, .int (nI L)), (2, .int (nI T)), (3, .ref b), (4, .int on), (5, .int (nI i))]) hx hb dX4_putBlock_26 hl (by decide) rfl (fun ls hl => ?_)
        refine lv_aload_n hx hb dX4_putBlock_28 rfl (lv_at hl 2 rfl) ?_
        refine lv_iload hx hb dX4_putBlock_29 (lv_at hl 1 rfl) ?_
        refine lv_iload hx hb dX4_putBlock_31 (lv_at hl 0 rfl) ?_
        refine lv_iload hx hb dX4_putBlock_33 (lv_at hl 6 rfl) ?_
        refine lv_if_eq (tgt := 54) hx hb dX4_putBlock_35 (by decide) (fun c_35 => ?_) (fun c_35 => ?_)
        · refine lv_aload_n hx hb dX4_putBlock_54 rfl (lv_at hl 5 rfl) ?_
          refine lv_iload hx hb dX4_putBlock_55 (lv_at hl 7 rfl) ?_
          refine xald (k := i) hF hX hP 2 rfl (nI_clamp (by omega)) (vp_in_nI (by omega) (by omega)) dX4_putBlock_57 ?_
          refine xV (rest := []) (As := [.int (nI (L + i % 8)), .int (nI (T + i / 8)), .int (bk i)]) (ws1 := [(o, .inr (4, [.int (nI sd), .ref a, .int (nI W), .int (nI H)])), (a, .inl (cs 0, N, .inl (upd (blkTo g 0 W L T 8 i (lay g W L T bk on)) ((T + i / 8) * W + (L + i % 8)) (bnd (bk i) 0 255)))), (b, .inl (cs 0, NB, .inl bk))]) (st1 := []) hF (c_X4_put l D cs tt o a sd W H N (L + i % 8) (T + i / 8) (blkTo g 0 W L T 8 i (lay g W L T bk on)) (bk i) hd hxW hyH) gX4_putBlock_X4_put rfl (n := 3) (by decide +kernel) rfl ⟨⟨rfl, rfl⟩, Nat.le_of_ble_eq_true rfl, Nat.le_of_ble_eq_true rfl⟩ ⟨Nat.le_of_ble_eq_true rfl, Nat.le_of_ble_eq_true rfl⟩ hX hP hD hS [0, 1] (by decide) rfl [o, a] rfl rfl (q0 := 0) (ci := 4) rfl rfl rfl hl.1 rfl (Nat.le_of_ble_eq_true rfl) dX4_putBlock_58 rfl rfl (fun Hp locs hP hD hS => ?_)
          have hP := xeqP hP (congrArg (fun z9 => ([(o, .inr (4, [.int (nI sd), .ref a, .int (nI W), .int (nI H)])), (a, .inl (cs 0, N, .inl z9)), (b, .inl (cs 0, NB, .inl bk))] : va_W)) (lay_s g (by simp [c_35]) hL))
          have hD := xeqD hD (congrArg (fun z9 => ([(o, .inr (4, [.int (nI sd), .ref a, .int (nI W), .int (nI H)])), (a, .inl (cs 0, N, .inl z9)), (b, .inl (cs 0, NB, .inl bk))] : va_W)) (lay_s g (by simp [c_35]) hL))
          refine lv_iinc (v := (nI (i + 1))) (lv' := [(5, .int (nI (i + 1))), (7, .int (nI (T + i / 8))), (6, .int (nI (L + i % 8))), (0, .ref o), (1, .int (nI L)), (2, .int (nI T)), (3, .ref b), (4, .int on)]) hx hb dX4_putBlock_61 hl (k := 7) rfl (nI_1 i) (by decide) rfl (fun ls hl => ?_)
          refine lv_goto (tgt := 3) hx hb dX4_putBlock_64 (by decide) ?_
          exact ih_3 (i + 1) (by omega) (by omega) _ _ _ hP hD hS (lv_sub hl [3, 4, 5, 6, 7, 0] rfl)
        · refine lv_aload_n hx hb dX4_putBlock_38 rfl (lv_at hl 2 rfl) ?_
          refine lv_iload hx hb dX4_putBlock_39 (lv_at hl 1 rfl) ?_
          refine lv_iload hx hb dX4_putBlock_41 (lv_at hl 0 rfl) ?_
          refine xV (rest := [.int (nI (T + i / 8)), .int (nI (L + i % 8)), .ref o]) (As := [.int (nI (L + i % 8)), .int (nI (T + i / 8))]) (ws1 := [(o, .inr (4, [.int (nI sd), .ref a, .int (nI W), .int (nI H)])), (a, .inl (cs 0, N, .inl (blkTo g 0 W L T 8 i (lay g W L T bk on)))), (b, .inl (cs 0, NB, .inl bk))]) (st1 := [.int (pxl (blkTo g 0 W L T 8 i (lay g W L T bk on)) W (cl (nI (L + i % 8)) W) (cl (nI (T + i / 8)) H)), .int (nI (T + i / 8)), .int (nI (L + i % 8)), .ref o]) hF (c_X4_nearest l D cs tt o a sd W H N (blkTo g 0 W L T 8 i (lay g W L T bk on)) (nI (L + i % 8)) (nI (T + i / 8)) hd) gX4_putBlock_X4_nearest rfl (n := 2) (by decide +kernel) rfl ⟨⟨rfl, rfl⟩, Nat.le_of_ble_eq_true rfl, Nat.le_of_ble_eq_true rfl⟩ ⟨Nat.le_of_ble_eq_true rfl, Nat.le_of_ble_eq_true rfl⟩ hX hP hD hS [0, 1] (by decide) rfl [o, a] rfl rfl (q0 := 0) (ci := 4) rfl rfl rfl hl.1 rfl (Nat.le_of_ble_eq_true rfl) dX4_putBlock_43 rfl rfl (fun Hp locs hP hD hS => ?_)
          refine xrwi (z := g ((T + i / 8) * W + (L + i % 8))) (by rw [cl_nI hxW (by omega), cl_nI hyH (by omega)]; exact blkTo_at0 g _ hxW (by omega)) ?_
          refine lv_aload_n hx hb dX4_putBlock_46 rfl (lv_at hl 5 rfl) ?_
          refine lv_iload hx hb dX4_putBlock_47 (lv_at hl 7 rfl) ?_
          refine xald (k := i) hF hX hP 2 rfl (nI_clamp (by omega)) (vp_in_nI (by omega) (by omega)) dX4_putBlock_49 ?_
          refine lv_iadd hx hb dX4_putBlock_50 ?_
          refine lv_goto (tgt := 58) hx hb dX4_putBlock_51 (by decide) ?_
          refine xV (rest := []) (As := [.int (nI (L + i % 8)), .int (nI (T + i / 8)), .int (g ((T + i / 8) * W + (L + i % 8)) + (bk i))]) (ws1 := [(o, .inr (4, [.int (nI sd), .ref a, .int (nI W), .int (nI H)])), (a, .inl (cs 0, N, .inl (upd (blkTo g 0 W L T 8 i (lay g W L T bk on)) ((T + i / 8) * W + (L + i % 8)) (bnd (g ((T + i / 8) * W + (L + i % 8)) + (bk i)) 0 255)))), (b, .inl (cs 0, NB, .inl bk))]) (st1 := []) hF (c_X4_put l D cs tt o a sd W H N (L + i % 8) (T + i / 8) (blkTo g 0 W L T 8 i (lay g W L T bk on)) (g ((T + i / 8) * W + (L + i % 8)) + (bk i)) hd hxW hyH) gX4_putBlock_X4_put rfl (n := 3) (by decide +kernel) rfl ⟨⟨rfl, rfl⟩, Nat.le_of_ble_eq_true rfl, Nat.le_of_ble_eq_true rfl⟩ ⟨Nat.le_of_ble_eq_true rfl, Nat.le_of_ble_eq_true rfl⟩ hX hP hD hS [0, 1] (by decide) rfl [o, a] rfl rfl (q0 := 0) (ci := 4) rfl rfl rfl hl.1 rfl (Nat.le_of_ble_eq_true rfl) dX4_putBlock_58 rfl rfl (fun Hp locs hP hD hS => ?_)
          have hP := xeqP hP (congrArg (fun z9 => ([(o, .inr (4, [.int (nI sd), .ref a, .int (nI W), .int (nI H)])), (a, .inl (cs 0, N, .inl z9)), (b, .inl (cs 0, NB, .inl bk))] : va_W)) (lay_s g (by simp [c_35]) hL))
          have hD := xeqD hD (congrArg (fun z9 => ([(o, .inr (4, [.int (nI sd), .ref a, .int (nI W), .int (nI H)])), (a, .inl (cs 0, N, .inl z9)), (b, .inl (cs 0, NB, .inl bk))] : va_W)) (lay_s g (by simp [c_35]) hL))
          refine lv_iinc (v := (nI (i + 1))) (lv' := [(5, .int (nI (i + 1))), (7, .int (nI (T + i / 8))), (6, .int (nI (L + i % 8))), (0, .ref o), (1, .int (nI L)), (2, .int (nI T)), (3, .ref b), (4, .int on)]) hx hb dX4_putBlock_61 hl (k := 7) rfl (nI_1 i) (by decide) rfl (fun ls hl => ?_)
          refine lv_goto (tgt := 3) hx hb dX4_putBlock_64 (by decide) ?_
          exact ih_3 (i + 1) (by omega) (by omega) _ _ _ hP hD hS (lv_sub hl [3, 4, 5, 6, 7, 0] rfl)
  have hP := xeqP hP (congrArg (fun z9 => ([(o, .inr (4, [.int (nI sd), .ref a, .int (nI W), .int (nI H)])), (a, .inl (cs 0, N, .inl z9)), (b, .inl (cs 0, NB, .inl bk))] : va_W)) (blkTo_0 g 0 W L T 8 (lay g W L T bk on)).symm)
  have hD := xeqD hD (congrArg (fun z9 => ([(o, .inr (4, [.int (nI sd), .ref a, .int (nI W), .int (nI H)])), (a, .inl (cs 0, N, .inl z9)), (b, .inl (cs 0, NB, .inl bk))] : va_W)) (blkTo_0 g 0 W L T 8 (lay g W L T bk on)).symm)
  exact loop_3 (64 - 0 + 1) 0 (Nat.lt_succ_self _) (by decide) _ _ _ hP hD hS (lv_sub hl [1, 2, 3, 4, 5, 0] rfl)

set_option maxHeartbeats 4000000 in
set_option maxRecDepth 100000 in
theorem c_X4_fetchSquare (l : Launch) (D : va_G) (cs : Nat → ClassId) (tt : Nat → Nat) (o a sd W H N L T o2 a2 sd2 N2 : Nat) (g g2 : Nat → Int32) (dx dy mx : Int32) (hd : dim W H N) (hd2 : dim W H N2) (hL : L + sd ≤ W) (hT : T + sd ≤ H) (hsd : 1 ≤ sd) : xM l yX4_fetchSquare wsX4_fetchSquare ({ frames := 3, cells := 0, slots := 0, locals := 73 } : Room) D cs tt [.ref o, .ref o2, .int (nI L), .int (nI T), .int dx, .int dy, .int mx] [(o, .inr (4, [.int (nI sd), .ref a, .int (nI W), .int (nI H)])), (a, .inl (cs 0, N, .inl g)), (o2, .inr (4, [.int (nI sd2), .ref a2, .int (nI W), .int (nI H)])), (a2, .inl (cs 0, N2, .inl g2))] none [(o, .inr (4, [.int (nI sd), .ref a, .int (nI W), .int (nI H)])), (a, .inl (cs 0, N, .inl (blkTo g 0 W L T sd (sd * sd) (mix g W (fun x9 y9 => ftc (pxl g2 W) W H (nI x9) (nI y9) dx dy) mx)))), (o2, .inr (4, [.int (nI sd2), .ref a2, .int (nI W), .int (nI H)])), (a2, .inl (cs 0, N2, .inl g2))] := by
  refine xM.of RX4 rfl (by decide) rfl (Nat.le_of_ble_eq_true rfl) ?_
  intro p e s m below meth c A ls hF hr hlk hX hP hD hS hl
  have hx := hF.1
  have hb := hF.2.1
  have hl : lv_has ls 10 [(0, .ref o), (1, .ref o2), (2, .int (nI L)), (3, .int (nI T)), (4, .int dx), (5, .int dy), (6, .int mx)] := hl
  refine lv_iload_n hx hb dX4_fetchSquare_0 rfl (lv_at hl 3 rfl) ?_
  refine lv_istore (lv' := [(7, .int (nI T)), (0, .ref o), (1, .ref o2), (2, .int (nI L)), (3, .int (nI T)), (4, .int dx), (5, .int dy), (6, .int mx)]) hx hb dX4_fetchSquare_1 hl (by decide) rfl (fun ls hl => ?_)
  have loop_3 : ∀ (k3 : Nat) (y : Nat), T + sd - y < k3 → T ≤ y → y ≤ T + sd → ∀ (Hp : Heap) (locs : List Loc) (ls : Array Slot), va_P D vwCl [(o, .inr (4, [.int (nI sd), .ref a, .int (nI W), .int (nI H)])), (a, .inl (cs 0, N, .inl (blkTo g 0 W L T sd ((y - T) * sd) (mix g W (fun x9 y9 => ftc (pxl g2 W) W H (nI x9) (nI y9) dx dy) mx)))), (o2, .inr (4, [.int (nI sd2), .ref a2, .int (nI W), .int (nI H)])), (a2, .inl (cs 0, N2, .inl g2))] Hp → va_D A [(o, .inr (4, [.int (nI sd), .ref a, .int (nI W), .int (nI H)])), (a, .inl (cs 0, N, .inl (blkTo g 0 W L T sd ((y - T) * sd) (mix g W (fun x9 y9 => ftc (pxl g2 W) W H (nI x9) (nI y9) dx dy) mx)))), (o2, .inr (4, [.int (nI sd2), .ref a2, .int (nI W), .int (nI H)])), (a2, .inl (cs 0, N2, .inl g2))] → va_S A s.heap Hp locs → lv_has ls 10 [(0, .ref o), (1, .ref o2), (2, .int (nI L)), (3, .int (nI T)), (4, .int dx), (5, .int dy), (6, .int mx), (7, .int (nI y))] → xW p l e ({ frames := 3, cells := 0, slots := 0, locals := 73 } : Room) s m ([.ref o, .ref o2, .int (nI L), .int (nI T), .int dx, .int dy, .int mx] : List Value).toArray below meth c Hp locs 0 0 (MQ below (xE D A none [(o, .inr (4, [.int (nI sd), .ref a, .int (nI W), .int (nI H)])), (a, .inl (cs 0, N, .inl (blkTo g 0 W L T sd (sd * sd) (mix g W (fun x9 y9 => ftc (pxl g2 W) W H (nI x9) (nI y9) dx dy) mx)))), (o2, .inr (4, [.int (nI sd2), .ref a2, .int (nI W), .int (nI H)])), (a2, .inl (cs 0, N2, .inl g2))]) ([.ref o, .ref o2, .int (nI L), .int (nI T), .int dx, .int dy, .int mx] : List Value).toArray s 0 0 A) (F0 m 3 ls []) := by
    intro k3
    induction k3 with
    | zero => intro y h9; omega
    | succ k3 ih_3 =>
      intro y hk3 hy0 hy1 Hp locs ls hP hD hS hl
      have hW64 := hd.2.1
      have hH64 := hd.2.2.2.1
      refine lv_iload hx hb dX4_fetchSquare_3 (lv_at hl 7 rfl) ?_
      refine lv_iload_n hx hb dX4_fetchSquare_5 rfl (lv_at hl 3 rfl) ?_
      refine lv_aload_n hx hb dX4_fetchSquare_6 rfl (lv_at hl 0 rfl) ?_
      refine xget (C := RX4) (T := TX4) (N := 4) hF hX hP (by decide +kernel) 0 0 rfl rfl (by decide) (by decide +kernel) rfl dX4_fetchSquare_7 ?_
      refine lv_iadd hx hb dX4_fetchSquare_10 ?_
      refine xrwi (z := nI (T + sd)) (nI_add _ _) ?_
      refine lv_icmp_ge (tgt := 87) hx hb dX4_fetchSquare_11 (by decide) (fun c_11 => ?_) (fun c_11 => ?_)
      · have e9 : y = T + sd := by have := nIle (a := T + sd) (b := y) rfl rfl (by omega) (by omega) c_11; omega
        subst e9
        have hP := xeqP hP (congrArg (fun z9 => ([(o, .inr (4, [.int (nI sd), .ref a, .int (nI W), .int (nI H)])), (a, .inl (cs 0, N, .inl (blkTo g 0 W L T sd z9 (mix g W (fun x9 y9 => ftc (pxl g2 W) W H (nI x9) (nI y9) dx dy) mx)))), (o2, .inr (4, [.int (nI sd2), .ref a2, .int (nI W), .int (nI H)])), (a2, .inl (cs 0, N2, .inl g2))] : va_W)) ((show (T + sd - T) * sd = sd * sd by rw [Nat.add_sub_cancel_left])))
        have hD := xeqD hD (congrArg (fun z9 => ([(o, .inr (4, [.int (nI sd), .ref a, .int (nI W), .int (nI H)])), (a, .inl (cs 0, N, .inl (blkTo g 0 W L T sd z9 (mix g W (fun x9 y9 => ftc (pxl g2 W) W H (nI x9) (nI y9) dx dy) mx)))), (o2, .inr (4, [.int (nI sd2), .ref a2, .int (nI W), .int (nI H)])), (a2, .inl (cs 0, N2, .inl g2))] : va_W)) ((show (T + sd - T) * sd = sd * sd by rw [Nat.add_sub_cancel_left])))
        exact xrv hF hr hlk hP hD hS dX4_fetchSquare_87
      · have hyT : y < T + sd := nInle (a := T + sd) (b := y) rfl rfl (by omega) (by omega) c_11
        have hyH : y < H := by omega
        refine lv_iload_n hx hb dX4_fetchSquare_14 rfl (lv_at hl 2 rfl) ?_
        refine lv_istore (lv' := [(8, .int (nI L)), (0, .ref o), (1, .ref o2), (2, .int (nI L)), (3, .int (nI T)), (4, .int dx), (5, .int dy), (6, .int mx), (7, .int (nI y))]) hx hb dX4_fetchSquare_15 hl (by decide) rfl (fun ls hl => ?_)
        have loop_17 : ∀ (k17 : Nat) (x : Nat), L + sd - x < k17 → L ≤ x → x ≤ L + sd → ∀ (Hp : Heap) (locs : List Loc) (ls : Array Slot), va_P D vwCl [(o, .inr (4, [.int (nI sd), .ref a, .int (nI W), .int (nI H)])), (a, .inl (cs 0, N, .inl (blkTo g 0 W L T sd ((y - T) * sd + (x - L)) (mix g W (fun x9 y9 => ftc (pxl g2 W) W H (nI x9) (nI y9) dx dy) mx)))), (o2, .inr (4, [.int (nI sd2), .ref a2, .int (nI W), .int (nI H)])), (a2, .inl (cs 0, N2, .inl g2))] Hp → va_D A [(o, .inr (4, [.int (nI sd), .ref a, .int (nI W), .int (nI H)])), (a, .inl (cs 0, N, .inl (blkTo g 0 W L T sd ((y - T) * sd + (x - L)) (mix g W (fun x9 y9 => ftc (pxl g2 W) W H (nI x9) (nI y9) dx dy) mx)))), (o2, .inr (4, [.int (nI sd2), .ref a2, .int (nI W), .int (nI H)])), (a2, .inl (cs 0, N2, .inl g2))] → va_S A s.heap Hp locs → lv_has ls 10 [(0, .ref o), (1, .ref o2), (2, .int (nI L)), (3, .int (nI T)), (4, .int dx), (5, .int dy), (6, .int mx), (7, .int (nI y)), (8, .int (nI x))] → xW p l e ({ frames := 3, cells := 0, slots := 0, locals := 73 } : Room) s m ([.ref o, .ref o2, .int (nI L), .int (nI T), .int dx, .int dy, .int mx] : List Value).toArray below meth c Hp locs 0 0 (MQ below (xE D A none [(o, .inr (4, [.int (nI sd), .ref a, .int (nI W), .int (nI H)])), (a, .inl (cs 0, N, .inl (blkTo g 0 W L T sd (sd * sd) (mix g W (fun x9 y9 => ftc (pxl g2 W) W H (nI x9) (nI y9) dx dy) mx)))), (o2, .inr (4, [.int (nI sd2), .ref a2, .int (nI W), .int (nI H)])), (a2, .inl (cs 0, N2, .inl g2))]) ([.ref o, .ref o2, .int (nI L), .int (nI T), .int dx, .int dy, .int mx] : List Value).toArray s 0 0 A) (F0 m 17 ls []) := by
          intro k17
          induction k17 with
          | zero => intro x h9; omega
          | succ k17 ih_17 =>
            intro x hk17 hx0 hx1 Hp locs ls hP hD hS hl
            refine lv_iload hx hb dX4_fetchSquare_17 (lv_at hl 8 rfl) ?_
            refine lv_iload_n hx hb dX4_fetchSquare_19 rfl (lv_at hl 2 rfl) ?_
            refine lv_aload_n hx hb dX4_fetchSquare_20 rfl (lv_at hl 0 rfl) ?_
            refine xget (C := RX4) (T := TX4) (N := 4) hF hX hP (by decide +kernel) 0 0 rfl rfl (by decide) (by decide +kernel) rfl dX4_fetchSquare_21 ?_
            refine lv_iadd hx hb dX4_fetchSquare_24 ?_
            refine xrwi (z := nI (L + sd)) (nI_add _ _) ?_
            refine lv_icmp_ge (tgt := 81) hx hb dX4_fetchSquare_25 (by decide) (fun c_25 => ?_) (fun c_25 => ?_)
            · have e9 : x = L + sd := by have := nIle (a := L + sd) (b := x) rfl rfl (by omega) (by omega) c_25; omega
              have hP := xeqP hP (congrArg (fun z9 => ([(o, .inr (4, [.int (nI sd), .ref a, .int (nI W), .int (nI H)])), (a, .inl (cs 0, N, .inl (blkTo g 0 W L T sd z9 (mix g W (fun x9 y9 => ftc (pxl g2 W) W H (nI x9) (nI y9) dx dy) mx)))), (o2, .inr (4, [.int (nI sd2), .ref a2, .int (nI W), .int (nI H)])), (a2, .inl (cs 0, N2, .inl g2))] : va_W)) ((show (y - T) * sd + (x - L) = (y + 1 - T) * sd by rw [e9, Nat.add_sub_cancel_left, show y + 1 - T = y - T + 1 by omega, Nat.add_mul, Nat.one_mul])))
              have hD := xeqD hD (congrArg (fun z9 => ([(o, .inr (4, [.int (nI sd), .ref a, .int (nI W), .int (nI H)])), (a, .inl (cs 0, N, .inl (blkTo g 0 W L T sd z9 (mix g W (fun x9 y9 => ftc (pxl g2 W) W H (nI x9) (nI y9) dx dy) mx)))), (o2, .inr (4, [.int (nI sd2), .ref a2, .int (nI W), .int (nI H)])), (a2, .inl (cs 0, N2, .inl g2))] : va_W)) ((show (y - T) * sd + (x - L) = (y + 1 - T) * sd by rw [e9, Nat.add_sub_cancel_left, show y + 1 - T = y - T + 1 by omega, Nat.add_mul, Nat.one_mul])))
              refine lv_iinc (v := (nI (y + 1))) (lv' := [(7, .int (nI (y + 1))), (0, .ref o), (1, .ref o2), (2, .int (nI L)), (3, .int (nI T)), (4, .int dx), (5, .int dy), (6, .int mx), (8, .int (nI x))]) hx hb dX4_fetchSquare_81 hl (k := 7) rfl (nI_1 y) (by decide) rfl (fun ls hl => ?_)
              refine lv_goto (tgt := 3) hx hb dX4_fetchSquare_84 (by decide) ?_
              exact ih_3 (y + 1) (by omega) (by omega) (by omega) _ _ _ hP hD hS (lv_sub hl [1, 2, 3, 4, 5, 6, 7, 0] rfl)
            · have hxL : x < L + sd := nInle (a := L + sd) (b := x) rfl rfl (by omega) (by omega) c_25
              have hxW : x < W := by omega
              refine lv_aload_n hx hb dX4_fetchSquare_28 rfl (lv_at hl 1 rfl) ?_
              refine lv_iload hx hb dX4_fetchSquare_29 (lv_at hl 8 rfl) ?_
              refine lv_iload hx hb dX4_fetchSquare_31 (lv_at hl 7 rfl) ?_
              refine lv_iload hx hb dX4_fetchSquare_33 (lv_at hl 4 rfl) ?_
              refine lv_iload hx hb dX4_fetchSquare_35 (lv_at hl 5 rfl) ?_
              refine xV (rest := []) (As := [.int (nI x), .int (nI y), .int dx, .int dy]) (ws1 := [(o, .inr (4, [.int (nI sd), .ref a, .int (nI W), .int (nI H)])), (a, .inl (cs 0, N, .inl (blkTo g 0 W L T sd ((y - T) * sd + (x - L)) (mix g W (fun x9 y9 => ftc (pxl g2 W) W H (nI x9) (nI y9) dx dy) mx)))), (o2, .inr (4, [.int (nI sd2), .ref a2, .int (nI W), .int (nI H)])), (a2, .inl (cs 0, N2, .inl g2))]) (st1 := [.int (ftc (pxl g2 W) W H (nI x) (nI y) dx dy)]) hF (c_X4_fetched l D cs tt o2 a2 sd2 W H N2 g2 (nI x) (nI y) dx dy hd2) gX4_fetchSquare_X4_fetched rfl (n := 4) (by decide +kernel) rfl ⟨⟨rfl, rfl⟩, Nat.le_of_ble_eq_true rfl, Nat.le_of_ble_eq_true rfl⟩ ⟨Nat.le_of_ble_eq_true rfl, Nat.le_of_ble_eq_true rfl⟩ hX hP hD hS [2, 3] (by decide) rfl [o2, a2] rfl rfl (q0 := 2) (ci := 4) rfl rfl rfl hl.1 rfl (Nat.le_of_ble_eq_true rfl) dX4_fetchSquare_37 rfl rfl (fun Hp locs hP hD hS => ?_)
              refine lv_istore (lv' := [(9, .int (ftc (pxl g2 W) W H (nI x) (nI y) dx dy)), (0, .ref o), (1, .ref o2), (2, .int (nI L)), (3, .int (nI T)), (4, .int dx), (5, .int dy), (6, .int mx), (7, .int (nI y)), (8, .int (nI x))]) hx hb dX4_fetchSquare_40 hl (by decide) rfl (fun ls hl => ?_)
              refine lv_aload_n hx hb dX4_fetchSquare_42 rfl (lv_at hl 1 rfl) ?_
              refine lv_iload hx hb dX4_fetchSquare_43 (lv_at hl 9 rfl) ?_
              refine lv_iload hx hb dX4_fetchSquare_45 (lv_at hl 8 rfl) ?_
              refine lv_iload hx hb dX4_fetchSquare_47 (lv_at hl 7 rfl) ?_
              refine lv_if_eq (tgt := 70) hx hb dX4_fetchSquare_49 (by decide) (fun c_49 => ?_) (fun c_49 => ?_)
              · refine lv_iload hx hb dX4_fetchSquare_70 (lv_at hl 0 rfl) ?_
                refine xV (rest := []) (As := [.int (nI x), .int (nI y), .int (ftc (pxl g2 W) W H (nI x) (nI y) dx dy)]) (ws1 := [(o, .inr (4, [.int (nI sd), .ref a, .int (nI W), .int (nI H)])), (a, .inl (cs 0, N, .inl (upd (blkTo g 0 W L T sd ((y - T) * sd + (x - L)) (mix g W (fun x9 y9 => ftc (pxl g2 W) W H (nI x9) (nI y9) dx dy) mx)) (y * W + x) (bnd (ftc (pxl g2 W) W H (nI x) (nI y) dx dy) 0 255)))), (o2, .inr (4, [.int (nI sd2), .ref a2, .int (nI W), .int (nI H)])), (a2, .inl (cs 0, N2, .inl g2))]) (st1 := []) hF (c_X4_put l D cs tt o a sd W H N x y (blkTo g 0 W L T sd ((y - T) * sd + (x - L)) (mix g W (fun x9 y9 => ftc (pxl g2 W) W H (nI x9) (nI y9) dx dy) mx)) (ftc (pxl g2 W) W H (nI x) (nI y) dx dy) hd hxW hyH) gX4_fetchSquare_X4_put rfl (n := 3) (by decide +kernel) rfl ⟨⟨rfl, rfl⟩, Nat.le_of_ble_eq_true rfl, Nat.le_of_ble_eq_true rfl⟩ ⟨Nat.le_of_ble_eq_true rfl, Nat.le_of_ble_eq_true rfl⟩ hX hP hD hS [0, 1] (by decide) rfl [o, a] rfl rfl (q0 := 0) (ci := 4) rfl rfl rfl hl.1 rfl (Nat.le_of_ble_eq_true rfl) dX4_fetchSquare_72 rfl rfl (fun Hp locs hP hD hS => ?_)
                have hP := xeqP hP (congrArg (fun z9 => ([(o, .inr (4, [.int (nI sd), .ref a, .int (nI W), .int (nI H)])), (a, .inl (cs 0, N, .inl z9)), (o2, .inr (4, [.int (nI sd2), .ref a2, .int (nI W), .int (nI H)])), (a2, .inl (cs 0, N2, .inl g2))] : va_W)) (blkTo_s0 g (mix g W (fun x9 y9 => ftc (pxl g2 W) W H (nI x9) (nI y9) dx dy) mx) (by simp [mix, c_49]) hx0 hxL hL hy0))
                have hD := xeqD hD (congrArg (fun z9 => ([(o, .inr (4, [.int (nI sd), .ref a, .int (nI W), .int (nI H)])), (a, .inl (cs 0, N, .inl z9)), (o2, .inr (4, [.int (nI sd2), .ref a2, .int (nI W), .int (nI H)])), (a2, .inl (cs 0, N2, .inl g2))] : va_W)) (blkTo_s0 g (mix g W (fun x9 y9 => ftc (pxl g2 W) W H (nI x9) (nI y9) dx dy) mx) (by simp [mix, c_49]) hx0 hxL hL hy0))
                refine lv_iinc (v := (nI (x + 1))) (lv' := [(8, .int (nI (x + 1))), (9, .int (ftc (pxl g2 W) W H (nI x) (nI y) dx dy)), (0, .ref o), (1, .ref o2), (2, .int (nI L)), (3, .int (nI T)), (4, .int dx), (5, .int dy), (6, .int mx), (7, .int (nI y))]) hx hb dX4_fetchSquare_75 hl (k := 9) rfl (nI_1 x) (by decide) rfl (fun ls hl => ?_)
                refine lv_goto (tgt := 17) hx hb dX4_fetchSquare_78 (by decide) ?_
                exact ih_17 (x + 1) (by omega) (by omega) (by omega) _ _ _ hP hD hS (lv_sub hl [2, 3, 4, 5, 6, 7, 8, 9, 0] rfl)
              · refine lv_aload_n hx hb dX4_fetchSquare_52 rfl (lv_at hl 1 rfl) ?_
                refine lv_iload hx hb dX4_fetchSquare_53 (lv_at hl 9 rfl) ?_
                refine lv_iload hx hb dX4_fetchSquare_55 (lv_at hl 8 rfl) ?_
                refine xV (rest := [.int (nI y), .int (nI x), .ref o]) (As := [.int (nI x), .int (nI y)]) (ws1 := [(o, .inr (4, [.int (nI sd), .ref a, .int (nI W), .int (nI H)])), (a, .inl (cs 0, N, .inl (blkTo g 0 W L T sd ((y - T) * sd + (x - L)) (mix g W (fun x9 y9 => ftc (pxl g2 W) W H (nI x9) (nI y9) dx dy) mx)))), (o2, .inr (4, [.int (nI sd2), .ref a2, .int (nI W), .int (nI H)])), (a2, .inl (cs 0, N2, .inl g2))]) (st1 := [.int (pxl (blkTo g 0 W L T sd ((y - T) * sd + (x - L)) (mix g W (fun x9 y9 => ftc (pxl g2 W) W H (nI x9) (nI y9) dx dy) mx)) W (cl (nI x) W) (cl (nI y) H)), .int (nI y), .int (nI x), .ref o]) hF (c_X4_nearest l D cs tt o a sd W H N (blkTo g 0 W L T sd ((y - T) * sd + (x - L)) (mix g W (fun x9 y9 => ftc (pxl g2 W) W H (nI x9) (nI y9) dx dy) mx)) (nI x) (nI y) hd) gX4_fetchSquare_X4_nearest rfl (n := 2) (by decide +kernel) rfl ⟨⟨rfl, rfl⟩, Nat.le_of_ble_eq_true rfl, Nat.le_of_ble_eq_true rfl⟩ ⟨Nat.le_of_ble_eq_true rfl, Nat.le_of_ble_eq_true rfl⟩ hX hP hD hS [0, 1] (by decide) rfl [o, a] rfl rfl (q0 := 0) (ci := 4) rfl rfl rfl hl.1 rfl (Nat.le_of_ble_eq_true rfl) dX4_fetchSquare_57 rfl rfl (fun Hp locs hP hD hS => ?_)
                refine xrwi (z := g (y * W + x)) (by rw [cl_nI hxW (by omega), cl_nI hyH (by omega)]; exact blkTo_at0 g _ hxW (Nat.le_refl _)) ?_
                refine lv_iload hx hb dX4_fetchSquare_60 (lv_at hl 0 rfl) ?_
                refine lv_iadd hx hb dX4_fetchSquare_62 ?_
                refine lv_iconst (v := 1) hx hb dX4_fetchSquare_63 (by decide) ?_
                refine lv_iadd hx hb dX4_fetchSquare_64 ?_
                refine lv_iconst (v := 1) hx hb dX4_fetchSquare_65 (by decide) ?_
                refine lv_ishr hx hb dX4_fetchSquare_66 ?_
                refine lv_goto (tgt := 72) hx hb dX4_fetchSquare_67 (by decide) ?_
                refine xV (rest := []) (As := [.int (nI x), .int (nI y), .int (((g (y * W + x) + (ftc (pxl g2 W) W H (nI x) (nI y) dx dy)) + 1) >>> (1 &&& 31))]) (ws1 := [(o, .inr (4, [.int (nI sd), .ref a, .int (nI W), .int (nI H)])), (a, .inl (cs 0, N, .inl (upd (blkTo g 0 W L T sd ((y - T) * sd + (x - L)) (mix g W (fun x9 y9 => ftc (pxl g2 W) W H (nI x9) (nI y9) dx dy) mx)) (y * W + x) (bnd (((g (y * W + x) + (ftc (pxl g2 W) W H (nI x) (nI y) dx dy)) + 1) >>> (1 &&& 31)) 0 255)))), (o2, .inr (4, [.int (nI sd2), .ref a2, .int (nI W), .int (nI H)])), (a2, .inl (cs 0, N2, .inl g2))]) (st1 := []) hF (c_X4_put l D cs tt o a sd W H N x y (blkTo g 0 W L T sd ((y - T) * sd + (x - L)) (mix g W (fun x9 y9 => ftc (pxl g2 W) W H (nI x9) (nI y9) dx dy) mx)) (((g (y * W + x) + (ftc (pxl g2 W) W H (nI x) (nI y) dx dy)) + 1) >>> (1 &&& 31)) hd hxW hyH) gX4_fetchSquare_X4_put rfl (n := 3) (by decide +kernel) rfl ⟨⟨rfl, rfl⟩, Nat.le_of_ble_eq_true rfl, Nat.le_of_ble_eq_true rfl⟩ ⟨Nat.le_of_ble_eq_true rfl, Nat.le_of_ble_eq_true rfl⟩ hX hP hD hS [0, 1] (by decide) rfl [o, a] rfl rfl (q0 := 0) (ci := 4) rfl rfl rfl hl.1 rfl (Nat.le_of_ble_eq_true rfl) dX4_fetchSquare_72 rfl rfl (fun Hp locs hP hD hS => ?_)
                have hP := xeqP hP (congrArg (fun z9 => ([(o, .inr (4, [.int (nI sd), .ref a, .int (nI W), .int (nI H)])), (a, .inl (cs 0, N, .inl z9)), (o2, .inr (4, [.int (nI sd2), .ref a2, .int (nI W), .int (nI H)])), (a2, .inl (cs 0, N2, .inl g2))] : va_W)) (blkTo_s0 g (mix g W (fun x9 y9 => ftc (pxl g2 W) W H (nI x9) (nI y9) dx dy) mx) (by simp [mix, c_49]) hx0 hxL hL hy0))
                have hD := xeqD hD (congrArg (fun z9 => ([(o, .inr (4, [.int (nI sd), .ref a, .int (nI W), .int (nI H)])), (a, .inl (cs 0, N, .inl z9)), (o2, .inr (4, [.int (nI sd2), .ref a2, .int (nI W), .int (nI H)])), (a2, .inl (cs 0, N2, .inl g2))] : va_W)) (blkTo_s0 g (mix g W (fun x9 y9 => ftc (pxl g2 W) W H (nI x9) (nI y9) dx dy) mx) (by simp [mix, c_49]) hx0 hxL hL hy0))
                refine lv_iinc (v := (nI (x + 1))) (lv' := [(8, .int (nI (x + 1))), (9, .int (ftc (pxl g2 W) W H (nI x) (nI y) dx dy)), (0, .ref o), (1, .ref o2), (2, .int (nI L)), (3, .int (nI T)), (4, .int dx), (5, .int dy), (6, .int mx), (7, .int (nI y))]) hx hb dX4_fetchSquare_75 hl (k := 9) rfl (nI_1 x) (by decide) rfl (fun ls hl => ?_)
                refine lv_goto (tgt := 17) hx hb dX4_fetchSquare_78 (by decide) ?_
                exact ih_17 (x + 1) (by omega) (by omega) (by omega) _ _ _ hP hD hS (lv_sub hl [2, 3, 4, 5, 6, 7, 8, 9, 0] rfl)
        have hP := xeqP hP (congrArg (fun z9 => ([(o, .inr (4, [.int (nI sd), .ref a, .int (nI W), .int (nI H)])), (a, .inl (cs 0, N, .inl (blkTo g 0 W L T sd z9 (mix g W (fun x9 y9 => ftc (pxl g2 W) W H (nI x9) (nI y9) dx dy) mx)))), (o2, .inr (4, [.int (nI sd2), .ref a2, .int (nI W), .int (nI H)])), (a2, .inl (cs 0, N2, .inl g2))] : va_W)) ((show (y - T) * sd = (y - T) * sd + (L - L) by rw [Nat.sub_self]; rfl)))
        have hD := xeqD hD (congrArg (fun z9 => ([(o, .inr (4, [.int (nI sd), .ref a, .int (nI W), .int (nI H)])), (a, .inl (cs 0, N, .inl (blkTo g 0 W L T sd z9 (mix g W (fun x9 y9 => ftc (pxl g2 W) W H (nI x9) (nI y9) dx dy) mx)))), (o2, .inr (4, [.int (nI sd2), .ref a2, .int (nI W), .int (nI H)])), (a2, .inl (cs 0, N2, .inl g2))] : va_W)) ((show (y - T) * sd = (y - T) * sd + (L - L) by rw [Nat.sub_self]; rfl)))
        exact loop_17 (L + sd - L + 1) L (Nat.lt_succ_self _) (Nat.le_refl L) (by omega) _ _ _ hP hD hS (lv_sub hl [1, 2, 3, 4, 5, 6, 7, 8, 0] rfl)
  have hP := xeqP hP (congrArg (fun z9 => ([(o, .inr (4, [.int (nI sd), .ref a, .int (nI W), .int (nI H)])), (a, .inl (cs 0, N, .inl z9)), (o2, .inr (4, [.int (nI sd2), .ref a2, .int (nI W), .int (nI H)])), (a2, .inl (cs 0, N2, .inl g2))] : va_W)) (((show (T - T) * sd = 0 by rw [Nat.sub_self, Nat.zero_mul]) ▸ (blkTo_0 g 0 W L T sd (mix g W (fun x9 y9 => ftc (pxl g2 W) W H (nI x9) (nI y9) dx dy) mx)) : blkTo g 0 W L T sd ((T - T) * sd) (mix g W (fun x9 y9 => ftc (pxl g2 W) W H (nI x9) (nI y9) dx dy) mx) = g).symm))
  have hD := xeqD hD (congrArg (fun z9 => ([(o, .inr (4, [.int (nI sd), .ref a, .int (nI W), .int (nI H)])), (a, .inl (cs 0, N, .inl z9)), (o2, .inr (4, [.int (nI sd2), .ref a2, .int (nI W), .int (nI H)])), (a2, .inl (cs 0, N2, .inl g2))] : va_W)) (((show (T - T) * sd = 0 by rw [Nat.sub_self, Nat.zero_mul]) ▸ (blkTo_0 g 0 W L T sd (mix g W (fun x9 y9 => ftc (pxl g2 W) W H (nI x9) (nI y9) dx dy) mx)) : blkTo g 0 W L T sd ((T - T) * sd) (mix g W (fun x9 y9 => ftc (pxl g2 W) W H (nI x9) (nI y9) dx dy) mx) = g).symm))
  exact loop_3 (T + sd - T + 1) T (Nat.lt_succ_self _) (Nat.le_refl T) (by omega) _ _ _ hP hD hS (lv_sub hl [1, 2, 3, 4, 5, 6, 7, 0] rfl)

set_option maxHeartbeats 4000000 in
set_option maxRecDepth 100000 in
theorem c_X4_brighten (l : Launch) (D : va_G) (cs : Nat → ClassId) (tt : Nat → Nat) (o a sd W H N : Nat) (g : Nat → Int32) (ga ofs : UInt32) (hd : dim W H N) (hm : ∀ j, j < W * H → vf_n32 (FP.fmul ga (FP.i2f (g j)))) (ha : ∀ j, j < W * H → vf_n32 (FP.fadd (FP.fmul ga (FP.i2f (g j))) ofs)) : xM l yX4_brighten wsX4_brighten ({ frames := 1, cells := 0, slots := 0, locals := 22 } : Room) D cs tt [.ref o, .float ga, .float ofs] [(o, .inr (4, [.int (nI sd), .ref a, .int (nI W), .int (nI H)])), (a, .inl (cs 0, N, .inl g))] none [(o, .inr (4, [.int (nI sd), .ref a, .int (nI W), .int (nI H)])), (a, .inl (cs 0, N, .inl (briTo g ga ofs (W * H))))] := by
  refine xM.of RX4 rfl (by decide) rfl (Nat.le_of_ble_eq_true rfl) ?_
  intro p e s m below meth c A ls hF hr hlk hX hP hD hS hl
  have hx := hF.1
  have hb := hF.2.1
  have hl : lv_has ls 4 [(0, .ref o), (1, .float ga), (2, .float ofs)] := hl
  refine lv_iconst (v := 0) hx hb dX4_brighten_0 (by decide) ?_
  refine lv_istore_n (lv' := [(3, .int 0), (0, .ref o), (1, .float ga), (2, .float ofs)]) hx hb dX4_brighten_1 rfl hl (by decide) rfl (fun ls hl => ?_)
  have loop_2 : ∀ (k2 : Nat) (i : Nat), W * H - i < k2 → i ≤ W * H → ∀ (Hp : Heap) (locs : List Loc) (ls : Array Slot), va_P D vwCl [(o, .inr (4, [.int (nI sd), .ref a, .int (nI W), .int (nI H)])), (a, .inl (cs 0, N, .inl (briTo g ga ofs i)))] Hp → va_D A [(o, .inr (4, [.int (nI sd), .ref a, .int (nI W), .int (nI H)])), (a, .inl (cs 0, N, .inl (briTo g ga ofs i)))] → va_S A s.heap Hp locs → lv_has ls 4 [(0, .ref o), (1, .float ga), (2, .float ofs), (3, .int (nI i))] → xW p l e ({ frames := 1, cells := 0, slots := 0, locals := 22 } : Room) s m ([.ref o, .float ga, .float ofs] : List Value).toArray below meth c Hp locs 0 0 (MQ below (xE D A none [(o, .inr (4, [.int (nI sd), .ref a, .int (nI W), .int (nI H)])), (a, .inl (cs 0, N, .inl (briTo g ga ofs (W * H))))]) ([.ref o, .float ga, .float ofs] : List Value).toArray s 0 0 A) (F0 m 2 ls []) := by
    intro k2
    induction k2 with
    | zero => intro i h9; omega
    | succ k2 ih_2 =>
      intro i hk2 hi Hp locs ls hP hD hS hl
      have hN1 := hd.2.2.2.2.1
      have hN2 := hd.2.2.2.2.2
      refine lv_iload_n hx hb dX4_brighten_2 rfl (lv_at hl 3 rfl) ?_
      refine lv_aload_n hx hb dX4_brighten_3 rfl (lv_at hl 0 rfl) ?_
      refine xget (C := RX4) (T := TX4) (N := 4) hF hX hP (by decide +kernel) 0 2 rfl rfl (by decide) (by decide +kernel) rfl dX4_brighten_4 ?_
      refine lv_aload_n hx hb dX4_brighten_7 rfl (lv_at hl 0 rfl) ?_
      refine xget (C := RX4) (T := TX4) (N := 4) hF hX hP (by decide +kernel) 0 3 rfl rfl (by decide) (by decide +kernel) rfl dX4_brighten_8 ?_
      refine lv_imul hx hb dX4_brighten_11 ?_
      refine xrwi (z := nI (W * H)) (pk_mul W H) ?_
      refine lv_icmp_ge (tgt := 46) hx hb dX4_brighten_12 (by decide) (fun c_12 => ?_) (fun c_12 => ?_)
      · have e9 : i = W * H := by have := nIle (a := W * H) (b := i) rfl rfl (by omega) (by omega) c_12; omega
        subst e9
        exact xrv hF hr hlk hP hD hS dX4_brighten_46
      · have hlt : i < W * H := nInle (a := W * H) (b := i) rfl rfl (by omega) (by omega) c_12
        refine lv_aload_n hx hb dX4_brighten_15 rfl (lv_at hl 0 rfl) ?_
        refine xget (C := RX4) (T := TX4) (N := 4) hF hX hP (by decide +kernel) 0 1 rfl rfl (by decide) (by decide +kernel) rfl dX4_brighten_16 ?_
        refine lv_iload_n hx hb dX4_brighten_19 rfl (lv_at hl 3 rfl) ?_
        refine lv_fload_n hx hb dX4_brighten_20 rfl (lv_at hl 1 rfl) ?_
        refine lv_aload_n hx hb dX4_brighten_21 rfl (lv_at hl 0 rfl) ?_
        refine xget (C := RX4) (T := TX4) (N := 4) hF hX hP (by decide +kernel) 0 1 rfl rfl (by decide) (by decide +kernel) rfl dX4_brighten_22 ?_
        refine lv_iload_n hx hb dX4_brighten_25 rfl (lv_at hl 3 rfl) ?_
        refine xald (k := i) hF hX hP 1 rfl (nI_clamp (by omega)) (vp_in_nI (by omega) (by omega)) dX4_brighten_26 ?_
        refine xrwi (z := g i) (briTo_at g ga ofs i) ?_
        refine lv_i2f hx hb dX4_brighten_27 ?_
        refine lv_fmul hx hb dX4_brighten_28 (hm i hlt) ?_
        refine lv_fload_n hx hb dX4_brighten_29 rfl (lv_at hl 2 rfl) ?_
        refine lv_fadd hx hb dX4_brighten_30 (ha i hlt) ?_
        refine lv_f2i hx hb dX4_brighten_31 ?_
        refine lv_iconst (v := 0) hx hb dX4_brighten_32 (by decide) ?_
        refine lv_sipush (v := 255) hx hb dX4_brighten_33 (by decide) ?_
        refine xSN (host := RX6) (rest := [.int (nI i), .ref a]) (As := [.int (FP.f2i (FP.fadd (FP.fmul ga (FP.i2f (g i))) ofs)), .int 0, .int 255]) (ws1 := [(o, .inr (4, [.int (nI sd), .ref a, .int (nI W), .int (nI H)])), (a, .inl (cs 0, N, .inl (briTo g ga ofs i)))]) (st1 := [.int (bnd (FP.f2i (FP.fadd (FP.fmul ga (FP.i2f (g i))) ofs)) 0 255), .int (nI i), .ref a]) hF (c_X6_bounded l D cs tt (FP.f2i (FP.fadd (FP.fmul ga (FP.i2f (g i))) ofs)) 0 255) gX4_brighten_X6_bounded_n41 rfl (by decide +kernel) (by decide +kernel) (by decide +kernel) (n := 3) (by decide +kernel) rfl ⟨⟨rfl, rfl⟩, Nat.le_of_ble_eq_true rfl, Nat.le_of_ble_eq_true rfl⟩ ⟨Nat.le_of_ble_eq_true rfl, Nat.le_of_ble_eq_true rfl⟩ hX hP hD hS [] (by decide) rfl [] rfl rfl hl.1 rfl (Nat.le_of_ble_eq_true rfl) dX4_brighten_36 rfl rfl (fun Hp locs hP hD hS => ?_)
        refine xast (k := i) (ws1 := [(o, .inr (4, [.int (nI sd), .ref a, .int (nI W), .int (nI H)])), (a, .inl (cs 0, N, .inl (briTo g ga ofs (i + 1))))]) hF hX hP hD hS 1 rfl (nI_clamp (by omega)) (vp_in_nI (by omega) (by omega)) dX4_brighten_39 (congrArg (fun z9 => ([(o, .inr (4, [.int (nI sd), .ref a, .int (nI W), .int (nI H)])), (a, .inl (cs 0, N, .inl z9))] : va_W)) (briTo_s g ga ofs i)) (fun Hp locs hP hD hS => ?_)
        refine lv_iinc (v := (nI (i + 1))) (lv' := [(3, .int (nI (i + 1))), (0, .ref o), (1, .float ga), (2, .float ofs)]) hx hb dX4_brighten_40 hl (k := 3) rfl (nI_1 i) (by decide) rfl (fun ls hl => ?_)
        refine lv_goto (tgt := 2) hx hb dX4_brighten_43 (by decide) ?_
        exact ih_2 (i + 1) (by omega) (by omega) _ _ _ hP hD hS (lv_sub hl [1, 2, 3, 0] rfl)
  have hP := xeqP hP (congrArg (fun z9 => ([(o, .inr (4, [.int (nI sd), .ref a, .int (nI W), .int (nI H)])), (a, .inl (cs 0, N, .inl z9))] : va_W)) ((briTo_0 g ga ofs).symm))
  have hD := xeqD hD (congrArg (fun z9 => ([(o, .inr (4, [.int (nI sd), .ref a, .int (nI W), .int (nI H)])), (a, .inl (cs 0, N, .inl z9))] : va_W)) ((briTo_0 g ga ofs).symm))
  exact loop_2 (W * H - 0 + 1) 0 (Nat.lt_succ_self _) (Nat.zero_le _) _ _ _ hP hD hS (lv_sub hl [1, 2, 3, 0] rfl)

set_option maxHeartbeats 4000000 in
set_option maxRecDepth 100000 in
theorem c_X4_meanSquareTo (l : Launch) (D : va_G) (cs : Nat → ClassId) (tt : Nat → Nat) (o a sd W H N o2 a2 sd2 W2 H2 N2 : Nat) (g g2 : Nat → Int32) (hd : dim W H N) (h2 : W * H ≤ N2) (h3 : N2 ≤ 65536) (hm : ∀ j, j < W * H → vf_n32 (FP.fmul (FP.i2f (g j - g2 j)) (FP.i2f (g j - g2 j)))) (ha : ∀ j, j < W * H → vf_n32 (msq g g2 (j + 1))) (hq : vf_n32 (FP.fdiv (msq g g2 (W * H)) (FP.i2f (nI (W * H))))) : xM l yX4_meanSquareTo wsX4_meanSquareTo ({ frames := 0, cells := 0, slots := 0, locals := 0 } : Room) D cs tt [.ref o, .ref o2] [(o, .inr (4, [.int (nI sd), .ref a, .int (nI W), .int (nI H)])), (a, .inl (cs 0, N, .inl g)), (o2, .inr (4, [.int (nI sd2), .ref a2, .int (nI W2), .int (nI H2)])), (a2, .inl (cs 0, N2, .inl g2))] (some (.float (FP.fdiv (msq g g2 (W * H)) (FP.i2f (nI (W * H)))))) [(o, .inr (4, [.int (nI sd), .ref a, .int (nI W), .int (nI H)])), (a, .inl (cs 0, N, .inl g)), (o2, .inr (4, [.int (nI sd2), .ref a2, .int (nI W2), .int (nI H2)])), (a2, .inl (cs 0, N2, .inl g2))] := by
  refine xM.of RX4 rfl (by decide) rfl (Nat.le_of_ble_eq_true rfl) ?_
  intro p e s m below meth c A ls hF hr hlk hX hP hD hS hl
  have hx := hF.1
  have hb := hF.2.1
  have hl : lv_has ls 6 [(0, .ref o), (1, .ref o2)] := hl
  refine lv_aload_n hx hb dX4_meanSquareTo_0 rfl (lv_at hl 0 rfl) ?_
  refine xget (C := RX4) (T := TX4) (N := 4) hF hX hP (by decide +kernel) 0 2 rfl rfl (by decide) (by decide +kernel) rfl dX4_meanSquareTo_1 ?_
  refine lv_aload_n hx hb dX4_meanSquareTo_4 rfl (lv_at hl 0 rfl) ?_
  refine xget (C := RX4) (T := TX4) (N := 4) hF hX hP (by decide +kernel) 0 3 rfl rfl (by decide) (by decide +kernel) rfl dX4_meanSquareTo_5 ?_
  refine lv_imul hx hb dX4_meanSquareTo_8 ?_
  refine xrwi (z := nI (W * H)) (pk_mul W H) ?_
  refine lv_istore_n (lv' := [(2, .int (nI (W * H))), (0, .ref o), (1, .ref o2)]) hx hb dX4_meanSquareTo_9 rfl hl (by decide) rfl (fun ls hl => ?_)
  refine lv_fconst0 hx hb dX4_meanSquareTo_10 ?_
  refine lv_fstore_n (lv' := [(3, .float 0), (2, .int (nI (W * H))), (0, .ref o), (1, .ref o2)]) hx hb dX4_meanSquareTo_11 rfl hl (by decide) rfl (fun ls hl => ?_)
  refine lv_iconst (v := 0) hx hb dX4_meanSquareTo_12 (by decide) ?_
  refine lv_istore (lv' := [(4, .int 0), (3, .float 0), (2, .int (nI (W * H))), (0, .ref o), (1, .ref o2)]) hx hb dX4_meanSquareTo_13 hl (by decide) rfl (fun ls hl => ?_)
  have loop_15 : ∀ (k15 : Nat) (i : Nat), W * H - i < k15 → i ≤ W * H → ∀ (Hp : Heap) (locs : List Loc) (ls : Array Slot), va_P D vwCl [(o, .inr (4, [.int (nI sd), .ref a, .int (nI W), .int (nI H)])), (a, .inl (cs 0, N, .inl g)), (o2, .inr (4, [.int (nI sd2), .ref a2, .int (nI W2), .int (nI H2)])), (a2, .inl (cs 0, N2, .inl g2))] Hp → va_D A [(o, .inr (4, [.int (nI sd), .ref a, .int (nI W), .int (nI H)])), (a, .inl (cs 0, N, .inl g)), (o2, .inr (4, [.int (nI sd2), .ref a2, .int (nI W2), .int (nI H2)])), (a2, .inl (cs 0, N2, .inl g2))] → va_S A s.heap Hp locs → lv_has ls 6 [(0, .ref o), (1, .ref o2), (2, .int (nI (W * H))), (3, .float (msq g g2 i)), (4, .int (nI i))] → xW p l e ({ frames := 0, cells := 0, slots := 0, locals := 0 } : Room) s m ([.ref o, .ref o2] : List Value).toArray below meth c Hp locs 0 0 (MQ below (xE D A (some (.float (FP.fdiv (msq g g2 (W * H)) (FP.i2f (nI (W * H)))))) [(o, .inr (4, [.int (nI sd), .ref a, .int (nI W), .int (nI H)])), (a, .inl (cs 0, N, .inl g)), (o2, .inr (4, [.int (nI sd2), .ref a2, .int (nI W2), .int (nI H2)])), (a2, .inl (cs 0, N2, .inl g2))]) ([.ref o, .ref o2] : List Value).toArray s 0 0 A) (F0 m 15 ls []) := by
    intro k15
    induction k15 with
    | zero => intro i h9; omega
    | succ k15 ih_15 =>
      intro i hk15 hi Hp locs ls hP hD hS hl
      have hN1 := hd.2.2.2.2.1
      have hN2 := hd.2.2.2.2.2
      refine lv_iload hx hb dX4_meanSquareTo_15 (lv_at hl 4 rfl) ?_
      refine lv_iload_n hx hb dX4_meanSquareTo_17 rfl (lv_at hl 2 rfl) ?_
      refine lv_icmp_ge (tgt := 53) hx hb dX4_meanSquareTo_18 (by decide) (fun c_18 => ?_) (fun c_18 => ?_)
      · have e9 : i = W * H := by have := nIle (a := W * H) (b := i) rfl rfl (by omega) (by omega) c_18; omega
        subst e9
        refine lv_fload_n hx hb dX4_meanSquareTo_53 rfl (lv_at hl 3 rfl) ?_
        refine lv_iload_n hx hb dX4_meanSquareTo_54 rfl (lv_at hl 2 rfl) ?_
        refine lv_i2f hx hb dX4_meanSquareTo_55 ?_
        refine lv_fdiv hx hb dX4_meanSquareTo_56 (hq) ?_
        exact xrf hF hr hlk hP hD hS dX4_meanSquareTo_57
      · have hlt : i < W * H := nInle (a := W * H) (b := i) rfl rfl (by omega) (by omega) c_18
        refine lv_aload_n hx hb dX4_meanSquareTo_21 rfl (lv_at hl 0 rfl) ?_
        refine xget (C := RX4) (T := TX4) (N := 4) hF hX hP (by decide +kernel) 0 1 rfl rfl (by decide) (by decide +kernel) rfl dX4_meanSquareTo_22 ?_
        refine lv_iload hx hb dX4_meanSquareTo_25 (lv_at hl 4 rfl) ?_
        refine xald (k := i) hF hX hP 1 rfl (nI_clamp (by omega)) (vp_in_nI (by omega) (by omega)) dX4_meanSquareTo_27 ?_
        refine lv_aload_n hx hb dX4_meanSquareTo_28 rfl (lv_at hl 1 rfl) ?_
        refine xget (C := RX4) (T := TX4) (N := 4) hF hX hP (by decide +kernel) 2 1 rfl rfl (by decide) (by decide +kernel) rfl dX4_meanSquareTo_29 ?_
        refine lv_iload hx hb dX4_meanSquareTo_32 (lv_at hl 4 rfl) ?_
        refine xald (k := i) hF hX hP 3 rfl (nI_clamp (by omega)) (vp_in_nI (by omega) (by omega)) dX4_meanSquareTo_34 ?_
        refine lv_isub hx hb dX4_meanSquareTo_35 ?_
        refine lv_i2f hx hb dX4_meanSquareTo_36 ?_
        refine lv_fstore (lv' := [(5, .float (FP.i2f ((g i) - (g2 i)))), (0, .ref o), (1, .ref o2), (2, .int (nI (W * H))), (3, .float (msq g g2 i)), (4, .int (nI i))]) hx hb dX4_meanSquareTo_37 hl (by decide) rfl (fun ls hl => ?_)
        refine lv_fload_n hx hb dX4_meanSquareTo_39 rfl (lv_at hl 4 rfl) ?_
        refine lv_fload hx hb dX4_meanSquareTo_40 (lv_at hl 0 rfl) ?_
        refine lv_fload hx hb dX4_meanSquareTo_42 (lv_at hl 0 rfl) ?_
        refine lv_fmul hx hb dX4_meanSquareTo_44 (hm i hlt) ?_
        refine lv_fadd hx hb dX4_meanSquareTo_45 (ha i hlt) ?_
        refine lv_fstore_n (lv' := [(3, .float (FP.fadd (msq g g2 i) (FP.fmul (FP.i2f ((g i) - (g2 i))) (FP.i2f ((g i) - (g2 i)))))), (5, .float (FP.i2f ((g i) - (g2 i)))), (0, .ref o), (1, .ref o2), (2, .int (nI (W * H))), (4, .int (nI i))]) hx hb dX4_meanSquareTo_46 rfl hl (by decide) rfl (fun ls hl => ?_)
        refine lv_iinc (v := (nI (i + 1))) (lv' := [(4, .int (nI (i + 1))), (3, .float (FP.fadd (msq g g2 i) (FP.fmul (FP.i2f ((g i) - (g2 i))) (FP.i2f ((g i) - (g2 i)))))), (5, .float (FP.i2f ((g i) - (g2 i)))), (0, .ref o), (1, .ref o2), (2, .int (nI (W * H)))]) hx hb dX4_meanSquareTo_47 hl (k := 5) rfl (nI_1 i) (by decide) rfl (fun ls hl => ?_)
        refine lv_goto (tgt := 15) hx hb dX4_meanSquareTo_50 (by decide) ?_
        exact ih_15 (i + 1) (by omega) (by omega) _ _ _ hP hD hS (lv_sub hl [3, 4, 5, 1, 0] rfl)
  exact loop_15 (W * H - 0 + 1) 0 (Nat.lt_succ_self _) (Nat.zero_le _) _ _ _ hP hD hS (lv_sub hl [3, 4, 2, 1, 0] rfl)
