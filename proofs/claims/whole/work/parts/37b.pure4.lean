/-! ===== worlds whose cells are put in another order; small arrays ===== -/
def zRe (w v : va_W) : Prop := (∀ (D : va_G) (H : Heap), va_P D vwCl w H → va_P D vwCl v H) ∧ (∀ A : Nat → Prop, va_D A w → va_D A v)
theorem zEq.re {w v : va_W} (h : zEq w v) : zRe w v := ⟨h.2, fun _ hD => h.D hD⟩
theorem zRe.tr {w v u : va_W} (h1 : zRe w v) (h2 : zRe v u) : zRe w u := ⟨fun D H h => h2.1 D H (h1.1 D H h), fun A h => h2.2 A (h1.2 A h)⟩
theorem zperm {w v : va_W} (is : List Nat) (hn : va_nd is = true) (hs : is.map (fun i => w[i]?) = v.map some) : zRe w v :=
  ⟨fun _ _ h j x hx => (xplace hs hx).elim (fun i hi => h i x hi.2), fun _ h => h.sub is hn hs⟩
theorem xL.convR {l : Launch} {y : MethodName} {ws : List Cond} {rm : Room} {D : va_G} {cs : Nat → ClassId} {tt : Nat → Nat} {av : List Value} {w w' v' : va_W} {k : Int32} (h : xL l y ws rm D cs tt av w k w') (hw : zRe w' v') : xL l y ws rm D cs tt av w k v' := by
  intro sz
  refine Jvm.Free.MetFree.mono (h sz) (fun a s hp => hp) (fun _ _ _ _ _ hk => hk) (fun a s o t hp hq => ?_)
  rcases hq with ⟨⟨g0, g1, g2, g3⟩, hL⟩ | ⟨q, -, E, ce, L, hf, -⟩
  · exact Or.inl ⟨⟨g0, hw.1 _ _ g1, hw.2 _ g2, g3⟩, hL⟩
  · exact hf.elim
theorem du_c (a : Int32) : ∀ j, j < 2 → (fun _ => a : Nat → Int32) j = du a a j := by
  intro j hj
  match j, hj with
  | 0, _ => rfl
  | 1, _ => rfl
theorem du_u0 (a b v : Int32) : ∀ j, j < 2 → upd (du a b) 0 v j = du v b j := by
  intro j hj
  match j, hj with
  | 0, _ => rfl
  | 1, _ => rfl
theorem du_u1 (a b v : Int32) : ∀ j, j < 2 → upd (du a b) 1 v j = du a v j := by
  intro j hj
  match j, hj with
  | 0, _ => rfl
  | 1, _ => rfl
theorem mat_u0 (M0 M1 : Nat → Int32) (i : Nat) (v : Int32) (hi : i < 64) : ∀ j, j < 128 → upd (mat M0 M1) (0 * 64 + i) v j = mat (upd M0 i v) M1 j := by
  intro j _
  unfold upd mat
  have e : 0 * 64 + i = i := by omega
  rw [e]
  by_cases h : j < 64
  · rw [if_pos h, if_pos h]
  · rw [if_neg h, if_neg h, if_neg (by omega)]
theorem mat_u1 (M0 M1 : Nat → Int32) (i : Nat) (v : Int32) : ∀ j, j < 128 → upd (mat M0 M1) (1 * 64 + i) v j = mat M0 (upd M1 i v) j := by
  intro j _
  unfold upd mat
  by_cases h : j < 64
  · rw [if_neg (by omega), if_pos h, if_pos h]
  · rw [if_neg h, if_neg h]
    by_cases q : j = 1 * 64 + i
    · rw [if_pos q]; exact (if_pos (by omega)).symm
    · rw [if_neg q]; exact (if_neg (by omega)).symm
theorem mat_g0 (M0 M1 : Nat → Int32) {i : Nat} (hi : i < 64) : mat M0 M1 (0 * 64 + i) = M0 i := by
  unfold mat
  rw [if_pos (by omega)]
  congr 1
  omega
theorem mat_g1 (M0 M1 : Nat → Int32) {i : Nat} : mat M0 M1 (1 * 64 + i) = M1 i := by
  unfold mat
  rw [if_neg (by omega)]
  congr 1
  omega
theorem mat_s : ∀ j, j < 128 → upd (fun _ => 16) 0 8 j = mat (upd (fun _ => 16) 0 8) (fun _ => 16) j := by
  intro j _
  unfold upd mat
  by_cases h : j < 64
  · rw [if_pos h]
  · rw [if_neg h, if_neg (by omega)]
theorem b8_128 : b8 128 := ⟨128, by decide, rfl⟩
theorem pEq_c (sd W H p : Nat) : pEq sd W H p (fun _ => 128) (fun _ => 128) := fun _ _ _ _ => ⟨rfl, b8_128⟩
theorem picEq_c (W H : Nat) : picEq W H (fun _ => 128) (fun _ => 128) (fun _ => 128) (fun _ => 128) := ⟨pEq_c _ _ _ _, pEq_c _ _ _ _, pEq_c _ _ _ _⟩
theorem picMd_0 (W H : Nat) (g0 g1 g2 r : Nat → Int32) : picMd W H 0 g0 g1 g2 r := ⟨fun _ _ _ _ h => absurd h (Nat.not_lt_zero _), fun _ _ _ _ h => absurd h (Nat.not_lt_zero _), fun _ _ _ _ h => absurd h (Nat.not_lt_zero _)⟩
theorem sq_lt {W H sd x y : Nat} (hs : 0 < sd) (hx : x < sd * W) (hy : y < sd * H) : y / sd * W + x / sd < W * H := by
  have h1 : x / sd < W := Nat.div_lt_of_lt_mul hx
  have h2 : y / sd < H := Nat.div_lt_of_lt_mul hy
  have h3 : (y / sd + 1) * W ≤ H * W := Nat.mul_le_mul_right W h2
  rw [Nat.add_mul, Nat.one_mul] at h3
  rw [Nat.mul_comm W H]
  omega
theorem picMd_full {W H : Nat} {g0 g1 g2 r : Nat → Int32} (h : picMd W H (W * H) g0 g1 g2 r) : picEq W H g0 g1 g2 r :=
  ⟨fun x y hx hy => h.1 x y hx hy (sq_lt (by decide) hx hy), fun x y hx hy => h.2.1 x y hx hy (sq_lt (by decide) hx hy), fun x y hx hy => h.2.2 x y hx hy (sq_lt (by decide) hx hy)⟩
theorem ix_lt {n m x y : Nat} (hx : x < n) (hy : y < m) : y * n + x < n * m := by
  have h3 : (y + 1) * n ≤ m * n := Nat.mul_le_mul_right n hy
  rw [Nat.add_mul, Nat.one_mul] at h3
  rw [Nat.mul_comm n m]
  omega
theorem pEq_cpy {sd W H p : Nat} {g f r : Nat → Int32} (h : pEq sd W H p f r) : pEq sd W H p (va_cpy f g 0 0 (sd * W * (sd * H))) r := by
  intro x y hx hy
  have := ix_lt hx hy
  rw [pk_cpy_in (Nat.zero_le _) (by omega), Nat.zero_add, Nat.sub_zero]
  exact h x y hx hy
theorem picEq_cpy {W H : Nat} {g0 g1 g2 f0 f1 f2 r : Nat → Int32} (h : picEq W H f0 f1 f2 r) : picEq W H (va_cpy f0 g0 0 0 (16 * W * (16 * H))) (va_cpy f1 g1 0 0 (8 * W * (8 * H))) (va_cpy f2 g2 0 0 (8 * W * (8 * H))) r := ⟨pEq_cpy h.1, pEq_cpy h.2.1, pEq_cpy h.2.2⟩
theorem rVec_0 {r0 r1 : Nat} (h : 1 ≤ r0 ∧ r0 ≤ 16 ∧ 1 ≤ r1 ∧ r1 ≤ 16) : rVec r0 r1 (fun _ => 0) := by
  have e : (0 : Int32).toInt = 0 := by decide
  refine ⟨h, fun j _ => ?_, fun j _ => ?_⟩ <;> (show _ ≤ (0 : Int32).toInt ∧ (0 : Int32).toInt ≤ _; rw [e]; omega)
theorem m16 {r : Nat} (hr : r ≤ 16) : (16 * nI r : Int32) = nI (16 * r) := pk_mul 16 r
theorem m16i {r : Nat} (hr : r ≤ 16) : (16 * nI r : Int32).toInt = 16 * (r : Int) ∧ (-(16 * nI r) : Int32).toInt = -(16 * (r : Int)) := by
  rw [m16 hr]
  refine ⟨by rw [nI_toInt (by omega)]; omega, ?_⟩
  rw [Int32.toInt_neg, nI_toInt (by omega)]
  rw [i32bm (by omega) (by omega)]
  omega
theorem wi_b {d : Int32} {r : Nat} (hr : r ≤ 16) (h : ¬ wi d (-(16 * nI r)) (16 * nI r) = 0) : -(16 * (r : Int)) ≤ d.toInt ∧ d.toInt ≤ 16 * (r : Int) := by
  obtain ⟨h1, h2⟩ := wi_ok h
  rw [Int32.le_iff_toInt_le] at h1 h2
  rw [(m16i hr).2] at h1
  rw [(m16i hr).1] at h2
  exact ⟨h1, h2⟩
theorem wrp_b {v d : Int32} {r : Nat} (h0 : 1 ≤ r) (hr : r ≤ 16) (h1 : -(16 * (r : Int)) ≤ v.toInt) (h2 : v.toInt ≤ 16 * (r : Int)) (h3 : -(16 * (r : Int)) ≤ d.toInt) (h4 : d.toInt ≤ 16 * (r : Int)) : -(16 * (r : Int)) ≤ (wrp (v + d) (16 * nI r)).toInt ∧ (wrp (v + d) (16 * nI r)).toInt ≤ 16 * (r : Int) := by
  have ev : (v + d).toInt = v.toInt + d.toInt := by rw [Int32.toInt_add, i32bm (by omega) (by omega)]
  have em := m16i hr
  have e2 : (2 * (16 * nI r) : Int32).toInt = 2 * (16 * (r : Int)) := by
    rw [m16 hr, show (2 * nI (16 * r) : Int32) = nI (2 * (16 * r)) from pk_mul 2 (16 * r), nI_toInt (by omega)]
    omega
  unfold wrp
  by_cases c1 : -(16 * nI r) ≤ v + d
  · rw [if_pos c1]
    rw [Int32.le_iff_toInt_le, em.2, ev] at c1
    by_cases c2 : v + d < 16 * nI r
    · rw [if_pos c2]
      rw [Int32.lt_iff_toInt_lt, em.1, ev] at c2
      rw [ev]
      omega
    · rw [if_neg c2]
      rw [Int32.lt_iff_toInt_lt, em.1, ev] at c2
      rw [Int32.toInt_sub, ev, e2, i32bm (by omega) (by omega)]
      omega
  · rw [if_neg c1]
    rw [Int32.le_iff_toInt_le, em.2, ev] at c1
    rw [Int32.toInt_add, ev, e2, i32bm (by omega) (by omega)]
    omega
theorem vec0 {V : Nat → Int32} {r0 r1 : Nat} {dx dy : Int32} (h : rVec r0 r1 V) (hx : -(16 * (r0 : Int)) ≤ dx.toInt ∧ dx.toInt ≤ 16 * (r0 : Int)) (hy : -(16 * (r0 : Int)) ≤ dy.toInt ∧ dy.toInt ≤ 16 * (r0 : Int)) : (∀ j, j < 4 → mmov V 0 (nI r0) dx dy j = mov V 0 (16 * nI r0) dx dy j) ∧ rVec r0 r1 (mov V 0 (16 * nI r0) dx dy) := by
  obtain ⟨⟨a1, a2, a3, a4⟩, b, c⟩ := h
  have v0 := b 0 (by decide)
  have v1 := b 1 (by decide)
  have e0 := mvd_wrp a2 v0.1 v0.2 hx.1 hx.2
  have e1 := mvd_wrp a2 v1.1 v1.2 hy.1 hy.2
  refine ⟨fun j hj => ?_, ⟨a1, a2, a3, a4⟩, fun j hj => ?_, fun j hj => ?_⟩
  · unfold mmov mov
    show upd (upd V 0 (mvd (V 0) dx (nI r0))) 1 (mvd (V 1) dy (nI r0)) j = upd (upd V 0 (wrp (V 0 + dx) (16 * nI r0))) 1 (wrp (V 1 + dy) (16 * nI r0)) j
    rw [e0, e1]
  · match j, hj with
    | 0, _ => exact wrp_b a1 a2 v0.1 v0.2 hx.1 hx.2
    | 1, _ => exact wrp_b a1 a2 v1.1 v1.2 hy.1 hy.2
  · match j, hj with
    | 0, _ => exact c 0 (by decide)
    | 1, _ => exact c 1 (by decide)
theorem vec1 {V : Nat → Int32} {r0 r1 : Nat} {dx dy : Int32} (h : rVec r0 r1 V) (hx : -(16 * (r1 : Int)) ≤ dx.toInt ∧ dx.toInt ≤ 16 * (r1 : Int)) (hy : -(16 * (r1 : Int)) ≤ dy.toInt ∧ dy.toInt ≤ 16 * (r1 : Int)) : (∀ j, j < 4 → mmov V 1 (nI r1) dx dy j = mov V 1 (16 * nI r1) dx dy j) ∧ rVec r0 r1 (mov V 1 (16 * nI r1) dx dy) := by
  obtain ⟨⟨a1, a2, a3, a4⟩, b, c⟩ := h
  have v0 := c 0 (by decide)
  have v1 := c 1 (by decide)
  have e0 := mvd_wrp a4 v0.1 v0.2 hx.1 hx.2
  have e1 := mvd_wrp a4 v1.1 v1.2 hy.1 hy.2
  refine ⟨fun j hj => ?_, ⟨a1, a2, a3, a4⟩, fun j hj => ?_, fun j hj => ?_⟩
  · unfold mmov mov
    show upd (upd V 2 (mvd (V (2 + 0)) dx (nI r1))) 3 (mvd (V (2 + 1)) dy (nI r1)) j = upd (upd V 2 (wrp (V (2 + 0) + dx) (16 * nI r1))) 3 (wrp (V (2 + 1) + dy) (16 * nI r1)) j
    rw [e0, e1]
  · match j, hj with
    | 0, _ => exact b 0 (by decide)
    | 1, _ => exact b 1 (by decide)
  · match j, hj with
    | 0, _ => exact wrp_b a3 a4 v0.1 v0.2 hx.1 hx.2
    | 1, _ => exact wrp_b a3 a4 v1.1 v1.2 hy.1 hy.2
theorem di_or0 {d0 d1 : Int32} (e0 : d0 = 0 ∨ d0 = 1) (e1 : d1 = 0 ∨ d1 = 1) : (d0 + 2 * d1) ||| 1 = 1 + 2 * d1 := by
  rcases e0 with rfl | rfl <;> rcases e1 with rfl | rfl <;> decide
theorem di_or1 {d0 d1 : Int32} (e0 : d0 = 0 ∨ d0 = 1) (e1 : d1 = 0 ∨ d1 = 1) : (d0 + 2 * d1) ||| 2 = d0 + 2 * 1 := by
  rcases e0 with rfl | rfl <;> rcases e1 with rfl | rfl <;> decide
theorem di_0 {d0 d1 : Int32} (e0 : d0 = 0 ∨ d0 = 1) (e1 : d1 = 0 ∨ d1 = 1) (h : d0 + 2 * d1 = 0) : d0 = 0 ∧ d1 = 0 := by
  rcases e0 with rfl | rfl <;> rcases e1 with rfl | rfl <;> first | exact ⟨rfl, rfl⟩ | exact absurd h (by decide)
theorem uItself_0 {sq di : Int32} (h : uItself sq di = 0) : ¬ sq = 0 ∧ di = 0 := by
  unfold uItself at h
  by_cases c1 : sq = 0
  · rw [if_pos c1] at h; exact absurd h (by decide)
  · rw [if_neg c1] at h
    by_cases c2 : di = 0
    · exact ⟨c1, c2⟩
    · rw [if_neg c2] at h; exact absurd h (by decide)
theorem uVec_0 {r0 r1 sq fi kh : Int32} (h : uVec r0 r1 sq fi kh = 0) : ¬ r0 = 0 ∧ ¬ r1 = 0 ∧ ¬ sq = 0 ∧ fi = 0 ∧ ¬ kh = 0 := by
  unfold uVec at h
  by_cases c1 : r0 = 0
  · rw [if_pos c1] at h; exact absurd h (by decide)
  rw [if_neg c1] at h
  by_cases c2 : r1 = 0
  · rw [if_pos c2] at h; exact absurd h (by decide)
  rw [if_neg c2] at h
  by_cases c3 : sq = 0
  · rw [if_pos c3] at h; exact absurd h (by decide)
  rw [if_neg c3] at h
  by_cases c4 : fi = 0
  · rw [if_pos c4] at h
    by_cases c5 : kh = 0
    · rw [if_pos c5] at h; exact absurd h (by decide)
    · exact ⟨c1, c2, c3, c4, c5⟩
  · rw [if_neg c4] at h; exact absurd h (by decide)
theorem uLevel_0 {b i v sq : Int32} (h : uLevel b i v sq = 0) : ¬ wi b 0 5 = 0 ∧ ¬ wi i 0 63 = 0 ∧ ¬ sq = 0 := by
  unfold uLevel at h
  by_cases c1 : wi b 0 5 = 0
  · rw [if_pos c1] at h; exact absurd h (by decide)
  rw [if_neg c1] at h
  by_cases c2 : wi i 0 63 = 0
  · rw [if_pos c2] at h; exact absurd h (by decide)
  rw [if_neg c2] at h
  by_cases c3 : wi v (-255) 255 = 0
  · rw [if_pos c3] at h; exact absurd h (by decide)
  rw [if_neg c3] at h
  by_cases c4 : sq = 0
  · rw [if_pos c4] at h; exact absurd h (by decide)
  · exact ⟨c1, c2, c4⟩
theorem uSize_0 {w h : Int32} (q : uSize w h = 0) : ¬ wi w 1 4 = 0 ∧ ¬ wi h 1 3 = 0 := by
  unfold uSize at q
  by_cases c1 : wi w 1 4 = 0
  · rw [if_pos c1] at q; exact absurd q (by decide)
  rw [if_neg c1] at q
  by_cases c2 : wi h 1 3 = 0
  · rw [if_pos c2] at q; exact absurd q (by decide)
  · exact ⟨c1, c2⟩
theorem uMatrix_0 {a i v : Int32} (q : uMatrix a i v = 0) : ¬ wi a 0 1 = 0 ∧ ¬ wi i 0 63 = 0 := by
  unfold uMatrix at q
  by_cases c1 : wi a 0 1 = 0
  · rw [if_pos c1] at q; exact absurd q (by decide)
  rw [if_neg c1] at q
  by_cases c2 : wi i 0 63 = 0
  · rw [if_pos c2] at q; exact absurd q (by decide)
  · exact ⟨c1, c2⟩
theorem uBegin_0 {kd k f b : Int32} (q : uBegin kd k f b = 0) : ¬ wi k 1 3 = 0 ∧ ¬ wi f 1 16 = 0 ∧ ¬ wi b 1 16 = 0 ∧ kd = 0 := by
  unfold uBegin at q
  by_cases c1 : wi k 1 3 = 0
  · rw [if_pos c1] at q; exact absurd q (by decide)
  rw [if_neg c1] at q
  by_cases c2 : wi f 1 16 = 0
  · rw [if_pos c2] at q; exact absurd q (by decide)
  rw [if_neg c2] at q
  by_cases c3 : wi b 1 16 = 0
  · rw [if_pos c3] at q; exact absurd q (by decide)
  rw [if_neg c3] at q
  by_cases c4 : kd = 0
  · exact ⟨c1, c2, c3, c4⟩
  · rw [if_neg c4] at q; exact absurd q (by decide)
theorem khs_0 {kd : Int32} (h : ¬ khs kd 0 = 0) : ¬ kd = 1 := fun q => h (by subst q; decide)
theorem khs_1 {kd : Int32} (h : ¬ khs kd 1 = 0) : ¬ kd = 1 ∧ ¬ kd = 2 := ⟨fun q => h (by subst q; decide), fun q => h (by subst q; decide)⟩
/-! ===== contracts over a larger world, by a mask ===== -/
theorem zAM {mk9 : List Bool} {w w0 : va_W} {sz : Nat} (hC : xsel mk9 w = w0) : ∀ q, va_A w0 sz q → va_A w sz q := by
  intro q hq
  subst hC
  rcases hq with ⟨k, e9, h⟩ | h
  · obtain ⟨j, hj⟩ := List.getElem?_of_mem (xsel_mem mk9 w _ (List.mem_of_getElem? h))
    exact Or.inl ⟨j, e9, hj⟩
  · exact Or.inr h
theorem zpreM {D : va_G} {cs : Nat → ClassId} {tt : Nat → Nat} {av : List Value} {mk9 : List Bool} {w w0 : va_W} {sz : Nat} (hC : xsel mk9 w = w0) {a : Array Value} {s : State} (h : xPc D cs tt av w sz a s) : xPc D cs tt av w0 sz a s := by
  obtain ⟨h0, h1, h2, h3, h4, h5⟩ := h
  have hA := zAM (sz := sz) hC
  subst hC
  exact ⟨h0, h1, xP_of (fun q hq => xP_mem h2 (xsel_mem mk9 w q hq)), xD_of (List.Sublist.nodup ((xsel_sub mk9 w).map _) (xD_nd h3)) (fun _ _ => trivial), h4, h5.narrow hA⟩
theorem zendM {D : va_G} {cs : Nat → ClassId} {tt : Nat → Nat} {av : List Value} {mk9 : List Bool} {w w0 w0' w1 : va_W} {sz : Nat} {r : Option Value} (hC : xsel mk9 w = w0) (ha : xadr w0' = xadr w0) (hw1 : xmrg mk9 w w0' = w1) {a : Array Value} {s t : State} {o : Outcome} (hp : xPc D cs tt av w sz a s) (h : xE D (va_A w0 sz) r w0' a s o t) : xE D (va_A w sz) r w1 a s o t := by
  have hA := zAM (sz := sz) hC
  obtain ⟨-, h1, h2, h3, -, -⟩ := hp
  obtain ⟨g0, g1, g2, g3⟩ := h
  subst h1
  subst hw1
  subst hC
  have hnd := xD_nd h3
  have hP2 : va_P D vwCl (xmrg mk9 w w0') t.heap := xP_of (fun q hq => by
    rcases xmrg_mem mk9 w w0' q ha hnd hq with h | ⟨h, h4⟩
    · exact xP_mem g1 h
    · have hat := xP_mem h2 h
      refine hat.kept (g3.2 q.1 hat.lt (fun h5 => ?_))
      rcases xA_mem h5 with h5 | h5
      · exact h4 h5
      · have := hat.lt
        omega)
  have hadr := xmrg_adr mk9 w w0' ha
  have hD2 : va_D (va_A w s.heap.size) (xmrg mk9 w w0') := xD_of (by rw [hadr]; exact hnd) (fun q hq => by
    have h1 : q.1 ∈ xadr w := by rw [← hadr]; exact xadr_mem hq
    obtain ⟨z, hz, hz1⟩ := List.mem_map.mp h1
    obtain ⟨j, hj⟩ := List.getElem?_of_mem hz
    have hz2 : z.1 = q.1 := hz1
    rw [← hz2]
    exact Or.inl ⟨j, z.2, hj⟩)
  exact ⟨g0, hP2, hD2, g3.1, fun q hq hn => g3.2 q hq (fun z => hn (hA q z))⟩
theorem xM.liftM {l : Launch} {y : MethodName} {ws : List Cond} {rm rm' : Room} {D : va_G} {cs : Nat → ClassId} {tt : Nat → Nat} {av : List Value} {w0 w0' w w1 : va_W} {r : Option Value} (h : xM l y ws rm D cs tt av w0 r w0') (hr : rm.frames ≤ rm'.frames ∧ rm.locals ≤ rm'.locals ∧ rm.cells ≤ rm'.cells ∧ rm.slots ≤ rm'.slots) (mk9 : List Bool) (hC : xsel mk9 w = w0) (ad9 : List Nat) (ha1 : xadr w0 = ad9) (ha2 : xadr w0' = ad9) (hw1 : xmrg mk9 w w0' = w1) : xM l y ws rm' D cs tt av w r w1 := by
  intro sz
  have h1 : MetFree l y (headSpec ws rm') _ _ _ := Jvm.Free.MetFree.respec (S' := headSpec ws rm') (h sz) (fun _ _ h => h) hr.1 hr.2.1 hr.2.2.1 hr.2.2.2
  refine Jvm.Free.MetFree.mono h1 (fun a s hp => zpreM hC hp) (fun _ _ _ _ _ hk => hk) (fun a s o t hp hq => ?_)
  exact ⟨zendM hC (ha2.trans ha1.symm) hw1 hp hq.1, hq.2.elim fun L hL => ⟨L, hL.1, fun q hq => zAM hC _ (hL.2 q hq)⟩⟩
theorem xL.liftM {l : Launch} {y : MethodName} {ws : List Cond} {rm rm' : Room} {D : va_G} {cs : Nat → ClassId} {tt : Nat → Nat} {av : List Value} {w0 w0' w w1 : va_W} {k : Int32} (h : xL l y ws rm D cs tt av w0 k w0') (hr : rm.frames ≤ rm'.frames ∧ rm.locals ≤ rm'.locals ∧ rm.cells ≤ rm'.cells ∧ rm.slots ≤ rm'.slots) (mk9 : List Bool) (hC : xsel mk9 w = w0) (ad9 : List Nat) (ha1 : xadr w0 = ad9) (ha2 : xadr w0' = ad9) (hw1 : xmrg mk9 w w0' = w1) : xL l y ws rm' D cs tt av w k w1 := by
  intro sz
  have h1 : MetFree l y (headSpec ws rm') _ _ _ := Jvm.Free.MetFree.respec (S' := headSpec ws rm') (h sz) (fun _ _ h => h) hr.1 hr.2.1 hr.2.2.1 hr.2.2.2
  refine Jvm.Free.MetFree.mono h1 (fun a s hp => ⟨zpreM hC hp.1, hp.2⟩) (fun _ _ _ _ _ hk => hk) (fun a s o t hp hq => ?_)
  rcases hq with hq | ⟨q, -, E, ce, L, hf, -⟩
  · exact Or.inl ⟨zendM hC (ha2.trans ha1.symm) hw1 hp.1 hq.1, hq.2.elim fun L hL => ⟨L, hL.1, fun q hq => zAM hC _ (hL.2 q hq)⟩⟩
  · exact hf.elim
