/-! ===== pixels: the class's squares and the reference's blocks ===== -/
theorem blk_at (g : Nat → Int32) {off S L T bw bh : Nat} (V : Nat → Nat → Int32) {x y : Nat} (hx : x < S) : blkTo g off S L T bw (bw * bh) V (off + (y * S + x)) = if (L ≤ x ∧ x < L + bw) ∧ (T ≤ y ∧ y < T + bh) then V x y else g (off + (y * S + x)) := by
  have hS : 0 < S := by omega
  have e0 : off + (y * S + x) - off = y * S + x := by omega
  have hm : (y * S + x) % S = x := by rw [Nat.mul_comm, Nat.mul_add_mod]; exact Nat.mod_eq_of_lt hx
  have hd : (y * S + x) / S = y := by rw [Nat.mul_comm, Nat.mul_add_div hS, Nat.div_eq_of_lt hx]; omega
  unfold blkTo
  rw [e0, hm, hd]
  by_cases h : (L ≤ x ∧ x < L + bw) ∧ (T ≤ y ∧ y < T + bh)
  · rw [if_pos h, if_pos]
    refine ⟨by omega, h.1.1, h.1.2, h.2.1, ?_⟩
    have h1 : (y - T + 1) * bw ≤ bh * bw := Nat.mul_le_mul_right _ (by omega)
    rw [Nat.add_mul, Nat.one_mul] at h1
    rw [Nat.mul_comm bw bh]
    omega
  · rw [if_neg h, if_neg]
    rintro ⟨-, h1, h2, h3, h4⟩
    refine h ⟨⟨h1, h2⟩, h3, ?_⟩
    rcases Nat.lt_or_ge y (T + bh) with q | q
    · exact q
    · have h5 : bh * bw ≤ (y - T) * bw := Nat.mul_le_mul_right _ (by omega)
      rw [Nat.mul_comm bw bh] at h4
      omega
/-- inside the square md of a plane whose squares have the side sd -/
def ins (sd W md x y : Nat) : Prop := (md % W * sd ≤ x ∧ x < md % W * sd + sd) ∧ (md / W * sd ≤ y ∧ y < md / W * sd + sd)
theorem in_iff {sd a x : Nat} (hs : 0 < sd) : (a * sd ≤ x ∧ x < a * sd + sd) ↔ x / sd = a := by
  constructor
  · rintro ⟨h1, h2⟩
    have h3 : x < (a + 1) * sd := by rw [Nat.add_mul, Nat.one_mul]; exact h2
    have h4 : x / sd < a + 1 := (Nat.div_lt_iff_lt_mul hs).mpr h3
    have h5 : a ≤ x / sd := (Nat.le_div_iff_mul_le hs).mpr h1
    omega
  · intro h
    subst h
    exact ⟨Nat.div_mul_le_self x sd, by
      have := Nat.lt_succ_self (x / sd)
      have := (Nat.div_lt_iff_lt_mul hs).mp this
      rw [Nat.succ_mul] at this
      exact this⟩
theorem ins_iff {sd W md x y : Nat} (hs : 0 < sd) (hx : x < sd * W) : ins sd W md x y ↔ y / sd * W + x / sd = md := by
  have h1 : x / sd < W := Nat.div_lt_of_lt_mul hx
  have hW : 0 < W := Nat.lt_of_le_of_lt (Nat.zero_le _) h1
  unfold ins
  rw [in_iff hs, in_iff hs]
  constructor
  · rintro ⟨a, b⟩
    rw [a, b, Nat.mul_comm]
    exact Nat.div_add_mod md W
  · intro h
    subst h
    constructor
    · rw [Nat.mul_comm, Nat.mul_add_mod]
      exact (Nat.mod_eq_of_lt h1).symm
    · rw [Nat.mul_comm, Nat.mul_add_div hW, Nat.div_eq_of_lt h1]
      omega
def mnG (gw : Nat → Int32) (W md : Nat) (V : Nat → Nat → Nat → Int32) : Nat → Nat → Int32
  | 0 => gw
  | b + 1 => mpB (mnG gw W md V b) W md b (V b) 64
theorem mnO_G (gw : Nat → Int32) (W md : Nat) (B : Nat → Nat → Int32) : ∀ n, mnO gw W md B n = mnG gw W md (fun b => mlO W md b (B b)) n
  | 0 => rfl
  | n + 1 => by
    show mpB (mnO gw W md B n) W md n (mlO W md n (B n)) 64 = mpB (mnG gw W md (fun b => mlO W md b (B b)) n) W md n (mlO W md n (B n)) 64
    rw [mnO_G gw W md B n]
theorem mnF_G (gw : Nat → Int32) (W md : Nat) (B : Nat → Nat → Int32) (F : Nat → Nat → Nat → Int32) : ∀ n, mnF gw W md B F n = mnG gw W md (fun b => mlF W md b (B b) (F (pl b))) n
  | 0 => rfl
  | n + 1 => by
    show mpB (mnF gw W md B F n) W md n (mlF W md n (B n) (F (pl n))) 64 = mpB (mnG gw W md (fun b => mlF W md b (B b) (F (pl b))) n) W md n (mlF W md n (B n) (F (pl n))) 64
    rw [mnF_G gw W md B F n]
theorem mpB_px {g : Nat → Int32} {W H md k p x y : Nat} {V : Nat → Nat → Int32} (hw : 1 ≤ W) (hw4 : W ≤ 4) (hh3 : H ≤ 3) (hm : md < W * H) (hk : k < 6) (hp : p < 3) (hx : x < wdt p W) (hy : y < wdt p H) :
    mpB g W md k V 64 (plc p x y) = if pl k = p ∧ ((bL W md k ≤ x ∧ x < bL W md k + 8) ∧ (bT W md k ≤ y ∧ y < bT W md k + 8)) then V x y else g (plc p x y) := by
  obtain ⟨b1, b2⟩ := b_in hw hm k hk
  unfold mpB
  by_cases hk4 : k < 4
  · have eO : bO k = 0 := by unfold bO; rw [if_pos hk4]
    have eS : bS k = 64 := by unfold bS; rw [if_pos hk4]
    have eP : pl k = 0 := by unfold pl; rw [if_pos hk4]
    rw [if_pos hk4] at b1 b2
    rw [eO, eS, eP]
    have hp3 : p = 0 ∨ p = 1 ∨ p = 2 := by omega
    rcases hp3 with rfl | rfl | rfl
    · have hx2 : x < 64 := by unfold wdt at hx; rw [if_pos rfl] at hx; omega
      have e : plc 0 x y = 0 + (y * 64 + x) := by unfold plc; rw [if_pos rfl]; omega
      rw [e]
      refine (blk_at g (off := 0) (bw := 8) (bh := 8) V hx2).trans ?_
      simp only [true_and]
    · rw [if_neg (fun q => by cases q.1)]
      have e : plc 1 x y = 3072 + 32 * y + x := by unfold plc; rw [if_neg (by decide), if_pos rfl]
      rw [e]
      unfold blkTo
      refine if_neg ?_
      rintro ⟨-, h1, h2, h3, h4⟩
      rw [Nat.sub_zero] at h1 h2 h3 h4
      omega
    · rw [if_neg (fun q => by cases q.1)]
      have e : plc 2 x y = 3840 + 32 * y + x := by unfold plc; rw [if_neg (by decide), if_neg (by decide)]
      rw [e]
      unfold blkTo
      refine if_neg ?_
      rintro ⟨-, h1, h2, h3, h4⟩
      rw [Nat.sub_zero] at h1 h2 h3 h4
      omega
  · have eS : bS k = 32 := by unfold bS; rw [if_neg hk4]
    rw [if_neg hk4] at b1 b2
    rw [eS]
    have hk5 : k = 4 ∨ k = 5 := by omega
    have hp3 : p = 0 ∨ p = 1 ∨ p = 2 := by omega
    rcases hk5 with rfl | rfl
    · have eO : bO 4 = 3072 := rfl
      have eP : pl 4 = 1 := rfl
      rw [eO, eP]
      rcases hp3 with rfl | rfl | rfl
      · rw [if_neg (fun q => by cases q.1)]
        have e : plc 0 x y = 64 * y + x := by unfold plc; rw [if_pos rfl]
        unfold wdt at hx hy
        rw [if_pos rfl] at hx hy
        rw [e]
        unfold blkTo
        refine if_neg ?_
        rintro ⟨h0, -⟩
        omega
      · have hx2 : x < 32 := by unfold wdt at hx; rw [if_neg (by decide)] at hx; omega
        have e : plc 1 x y = 3072 + (y * 32 + x) := by unfold plc; rw [if_neg (by decide), if_pos rfl]; omega
        rw [e]
        refine (blk_at g (off := 3072) (bw := 8) (bh := 8) V hx2).trans ?_
        simp only [true_and]
      · rw [if_neg (fun q => by cases q.1)]
        have e : plc 2 x y = 3840 + 32 * y + x := by unfold plc; rw [if_neg (by decide), if_neg (by decide)]
        rw [e]
        unfold blkTo
        refine if_neg ?_
        rintro ⟨-, h1, h2, h3, h4⟩
        omega
    · have eO : bO 5 = 3840 := rfl
      have eP : pl 5 = 2 := rfl
      rw [eO, eP]
      rcases hp3 with rfl | rfl | rfl
      · rw [if_neg (fun q => by cases q.1)]
        have e : plc 0 x y = 64 * y + x := by unfold plc; rw [if_pos rfl]
        unfold wdt at hx hy
        rw [if_pos rfl] at hx hy
        rw [e]
        unfold blkTo
        refine if_neg ?_
        rintro ⟨h0, -⟩
        omega
      · rw [if_neg (fun q => by cases q.1)]
        have e : plc 1 x y = 3072 + 32 * y + x := by unfold plc; rw [if_neg (by decide), if_pos rfl]
        unfold wdt at hx hy
        rw [if_neg (by decide)] at hx hy
        rw [e]
        unfold blkTo
        refine if_neg ?_
        rintro ⟨h0, -⟩
        omega
      · have hx2 : x < 32 := by unfold wdt at hx; rw [if_neg (by decide)] at hx; omega
        have e : plc 2 x y = 3840 + (y * 32 + x) := by unfold plc; rw [if_neg (by decide), if_neg (by decide)]; omega
        rw [e]
        refine (blk_at g (off := 3840) (bw := 8) (bh := 8) V hx2).trans ?_
        simp only [true_and]
/-- the block of plane 0 in which a sample lies -/
def kbl (W md x y : Nat) : Nat := (y - md / W * 16) / 8 * 2 + (x - md % W * 16) / 8
theorem mnG_0 {g : Nat → Int32} {W H md x y : Nat} {V : Nat → Nat → Nat → Int32} (hw : 1 ≤ W) (hw4 : W ≤ 4) (hh3 : H ≤ 3) (hm : md < W * H) (hx : x < 16 * W) (hy : y < 16 * H) :
    (ins 16 W md x y → mnG g W md V 6 (plc 0 x y) = V (kbl W md x y) x y ∧ kbl W md x y < 4) ∧ (¬ ins 16 W md x y → mnG g W md V 6 (plc 0 x y) = g (plc 0 x y)) := by
  have st : ∀ k, k < 6 → ∀ G : Nat → Int32, mpB G W md k (V k) 64 (plc 0 x y) = if pl k = 0 ∧ ((bL W md k ≤ x ∧ x < bL W md k + 8) ∧ (bT W md k ≤ y ∧ y < bT W md k + 8)) then V k x y else G (plc 0 x y) := fun k hk G => mpB_px (H := H) hw hw4 hh3 hm hk (by decide) (by unfold wdt; rw [if_pos rfl]; exact hx) (by unfold wdt; rw [if_pos rfl]; exact hy)
  have e : mnG g W md V 6 (plc 0 x y) = if ((bL W md 3 ≤ x ∧ x < bL W md 3 + 8) ∧ (bT W md 3 ≤ y ∧ y < bT W md 3 + 8)) then V 3 x y else if ((bL W md 2 ≤ x ∧ x < bL W md 2 + 8) ∧ (bT W md 2 ≤ y ∧ y < bT W md 2 + 8)) then V 2 x y else if ((bL W md 1 ≤ x ∧ x < bL W md 1 + 8) ∧ (bT W md 1 ≤ y ∧ y < bT W md 1 + 8)) then V 1 x y else if ((bL W md 0 ≤ x ∧ x < bL W md 0 + 8) ∧ (bT W md 0 ≤ y ∧ y < bT W md 0 + 8)) then V 0 x y else g (plc 0 x y) := by
    show mpB _ W md 5 (V 5) 64 (plc 0 x y) = _
    rw [st 5 (by decide), if_neg (fun q => by cases q.1)]
    show mpB _ W md 4 (V 4) 64 (plc 0 x y) = _
    rw [st 4 (by decide), if_neg (fun q => by cases q.1)]
    show mpB _ W md 3 (V 3) 64 (plc 0 x y) = _
    rw [st 3 (by decide)]
    show (if 0 = 0 ∧ _ then _ else mpB _ W md 2 (V 2) 64 (plc 0 x y)) = _
    rw [st 2 (by decide)]
    show (if 0 = 0 ∧ _ then _ else if 0 = 0 ∧ _ then _ else mpB _ W md 1 (V 1) 64 (plc 0 x y)) = _
    rw [st 1 (by decide)]
    show (if 0 = 0 ∧ _ then _ else if 0 = 0 ∧ _ then _ else if 0 = 0 ∧ _ then _ else mpB _ W md 0 (V 0) 64 (plc 0 x y)) = _
    rw [st 0 (by decide)]
    show (if 0 = 0 ∧ _ then _ else if 0 = 0 ∧ _ then _ else if 0 = 0 ∧ _ then _ else if 0 = 0 ∧ _ then _ else g (plc 0 x y)) = _
    simp only [true_and]
  have l0 : bL W md 0 = md % W * 16 := by show md % W * 16 + 0 % 2 * 8 = _; omega
  have l1 : bL W md 1 = md % W * 16 + 8 := rfl
  have l2 : bL W md 2 = md % W * 16 := by show md % W * 16 + 2 % 2 * 8 = _; omega
  have l3 : bL W md 3 = md % W * 16 + 8 := rfl
  have t0 : bT W md 0 = md / W * 16 := by show md / W * 16 + 0 / 2 * 8 = _; omega
  have t1 : bT W md 1 = md / W * 16 := by show md / W * 16 + 1 / 2 * 8 = _; omega
  have t2 : bT W md 2 = md / W * 16 + 8 := rfl
  have t3 : bT W md 3 = md / W * 16 + 8 := rfl
  rw [e, l0, l1, l2, l3, t0, t1, t2, t3]
  unfold ins kbl
  generalize md % W * 16 = L
  generalize md / W * 16 = T
  constructor
  · rintro ⟨⟨a1, a2⟩, a3, a4⟩
    by_cases c1 : x < L + 8 <;> by_cases c2 : y < T + 8
    · have k1 : (y - T) / 8 * 2 + (x - L) / 8 = 0 := by omega
      rw [k1, if_neg (by omega), if_neg (by omega), if_neg (by omega), if_pos (by omega)]
      exact ⟨rfl, by decide⟩
    · have k1 : (y - T) / 8 * 2 + (x - L) / 8 = 2 := by omega
      rw [k1, if_neg (by omega), if_pos (by omega)]
      exact ⟨rfl, by decide⟩
    · have k1 : (y - T) / 8 * 2 + (x - L) / 8 = 1 := by omega
      rw [k1, if_neg (by omega), if_neg (by omega), if_pos (by omega)]
      exact ⟨rfl, by decide⟩
    · have k1 : (y - T) / 8 * 2 + (x - L) / 8 = 3 := by omega
      rw [k1, if_pos (by omega)]
      exact ⟨rfl, by decide⟩
  · intro h
    rw [if_neg (by omega), if_neg (by omega), if_neg (by omega), if_neg (by omega)]
theorem mnG_12 {g : Nat → Int32} {W H md p x y : Nat} {V : Nat → Nat → Nat → Int32} (hw : 1 ≤ W) (hw4 : W ≤ 4) (hh3 : H ≤ 3) (hm : md < W * H) (hp : p = 1 ∨ p = 2) (hx : x < 8 * W) (hy : y < 8 * H) :
    (ins 8 W md x y → mnG g W md V 6 (plc p x y) = V (p + 3) x y) ∧ (¬ ins 8 W md x y → mnG g W md V 6 (plc p x y) = g (plc p x y)) := by
  have hwd : wdt p W = 8 * W ∧ wdt p H = 8 * H := by rcases hp with rfl | rfl <;> exact ⟨rfl, rfl⟩
  have st : ∀ k, k < 6 → ∀ G : Nat → Int32, mpB G W md k (V k) 64 (plc p x y) = if pl k = p ∧ ((bL W md k ≤ x ∧ x < bL W md k + 8) ∧ (bT W md k ≤ y ∧ y < bT W md k + 8)) then V k x y else G (plc p x y) := fun k hk G => mpB_px (H := H) hw hw4 hh3 hm hk (by omega) (by rw [hwd.1]; exact hx) (by rw [hwd.2]; exact hy)
  have z4 : mnG g W md V 4 (plc p x y) = g (plc p x y) := by
    have np : ∀ k, k < 4 → ¬ pl k = p := fun k hk q => by unfold pl at q; rw [if_pos hk] at q; omega
    show mpB _ W md 3 (V 3) 64 (plc p x y) = _
    rw [st 3 (by decide), if_neg (fun q => np 3 (by decide) q.1)]
    show mpB _ W md 2 (V 2) 64 (plc p x y) = _
    rw [st 2 (by decide), if_neg (fun q => np 2 (by decide) q.1)]
    show mpB _ W md 1 (V 1) 64 (plc p x y) = _
    rw [st 1 (by decide), if_neg (fun q => np 1 (by decide) q.1)]
    show mpB _ W md 0 (V 0) 64 (plc p x y) = _
    rw [st 0 (by decide), if_neg (fun q => np 0 (by decide) q.1)]
    rfl
  have e6 : mnG g W md V 6 (plc p x y) = if pl 5 = p ∧ ((bL W md 5 ≤ x ∧ x < bL W md 5 + 8) ∧ (bT W md 5 ≤ y ∧ y < bT W md 5 + 8)) then V 5 x y else if pl 4 = p ∧ ((bL W md 4 ≤ x ∧ x < bL W md 4 + 8) ∧ (bT W md 4 ≤ y ∧ y < bT W md 4 + 8)) then V 4 x y else g (plc p x y) := by
    show mpB _ W md 5 (V 5) 64 (plc p x y) = _
    rw [st 5 (by decide)]
    show (if _ then _ else mpB (mnG g W md V 4) W md 4 (V 4) 64 (plc p x y)) = _
    rw [st 4 (by decide), z4]
  have l5 : bL W md 5 = md % W * 8 := rfl
  have l4 : bL W md 4 = md % W * 8 := rfl
  have t5 : bT W md 5 = md / W * 8 := rfl
  have t4 : bT W md 4 = md / W * 8 := rfl
  have p5 : pl 5 = 2 := rfl
  have p4 : pl 4 = 1 := rfl
  rw [e6, l5, l4, t5, t4, p5, p4]
  unfold ins
  rcases hp with rfl | rfl
  · constructor
    · intro h
      rw [if_neg (fun q => by cases q.1), if_pos ⟨rfl, h⟩]
    · intro h
      rw [if_neg (fun q => by cases q.1), if_neg (fun q => h q.2)]
  · constructor
    · intro h
      rw [if_pos ⟨rfl, h⟩]
    · intro h
      rw [if_neg (fun q => h q.2), if_neg (fun q => by cases q.1)]
/-- one square more -/
theorem step_pic {W H md : Nat} {g0 g1 g2 g0' g1' g2' r : Nat → Int32} {V : Nat → Nat → Nat → Int32} (hw : 1 ≤ W) (hw4 : W ≤ 4) (hh3 : H ≤ 3) (hm : md < W * H) (h : picMd W H md g0 g1 g2 r) (hV : ∀ b x y, b8 (V b x y))
    (h0 : ∀ x y, x < 16 * W → y < 16 * H → (ins 16 W md x y → g0' (y * (16 * W) + x) = V (kbl W md x y) x y) ∧ (¬ ins 16 W md x y → g0' (y * (16 * W) + x) = g0 (y * (16 * W) + x)))
    (h1 : ∀ x y, x < 8 * W → y < 8 * H → (ins 8 W md x y → g1' (y * (8 * W) + x) = V 4 x y) ∧ (¬ ins 8 W md x y → g1' (y * (8 * W) + x) = g1 (y * (8 * W) + x)))
    (h2 : ∀ x y, x < 8 * W → y < 8 * H → (ins 8 W md x y → g2' (y * (8 * W) + x) = V 5 x y) ∧ (¬ ins 8 W md x y → g2' (y * (8 * W) + x) = g2 (y * (8 * W) + x))) :
    picMd W H (md + 1) g0' g1' g2' (mnG r W md V 6) := by
  refine ⟨fun x y hx hy hs => ?_, fun x y hx hy hs => ?_, fun x y hx hy hs => ?_⟩
  · obtain ⟨m1, m2⟩ := mnG_0 (g := r) (V := V) hw hw4 hh3 hm hx hy
    by_cases hi : ins 16 W md x y
    · rw [(m1 hi).1, (h0 x y hx hy).1 hi]
      exact ⟨rfl, hV _ _ _⟩
    · rw [m2 hi, (h0 x y hx hy).2 hi]
      have hne := mt (ins_iff (by decide) hx).mpr hi
      exact h.1 x y hx hy (by omega)
  · obtain ⟨m1, m2⟩ := mnG_12 (g := r) (V := V) hw hw4 hh3 hm (Or.inl rfl) hx hy
    by_cases hi : ins 8 W md x y
    · rw [m1 hi, (h1 x y hx hy).1 hi]
      exact ⟨rfl, hV _ _ _⟩
    · rw [m2 hi, (h1 x y hx hy).2 hi]
      have hne := mt (ins_iff (by decide) hx).mpr hi
      exact h.2.1 x y hx hy (by omega)
  · obtain ⟨m1, m2⟩ := mnG_12 (g := r) (V := V) hw hw4 hh3 hm (Or.inr rfl) hx hy
    by_cases hi : ins 8 W md x y
    · rw [m1 hi, (h2 x y hx hy).1 hi]
      exact ⟨rfl, hV _ _ _⟩
    · rw [m2 hi, (h2 x y hx hy).2 hi]
      have hne := mt (ins_iff (by decide) hx).mpr hi
      exact h.2.2 x y hx hy (by omega)
/-! the class's side -/
theorem plB_0 {g : Nat → Int32} {W md k x y : Nat} {bk : Nat → Int32} {on : Int32} (hk : k < 4) (hx : x < 16 * W) : plB g W md k bk on (y * (16 * W) + x) = if (md % W * 16 + k % 2 * 8 ≤ x ∧ x < md % W * 16 + k % 2 * 8 + 8) ∧ (md / W * 16 + k / 2 * 8 ≤ y ∧ y < md / W * 16 + k / 2 * 8 + 8) then lay g (16 * W) (md % W * 16 + k % 2 * 8) (md / W * 16 + k / 2 * 8) bk on x y else g (y * (16 * W) + x) := by
  unfold plB
  rw [if_pos hk]
  have := blk_at g (off := 0) (L := md % W * 16 + k % 2 * 8) (T := md / W * 16 + k / 2 * 8) (bw := 8) (bh := 8) (lay g (16 * W) (md % W * 16 + k % 2 * 8) (md / W * 16 + k / 2 * 8) bk on) (y := y) hx
  rw [Nat.zero_add] at this
  exact this
theorem plB_4 {g : Nat → Int32} {W md k x y : Nat} {bk : Nat → Int32} {on : Int32} (hk : ¬ k < 4) (hx : x < 8 * W) : (ins 8 W md x y → plB g W md k bk on (y * (8 * W) + x) = lay g (8 * W) (md % W * 8) (md / W * 8) bk on x y) ∧ (¬ ins 8 W md x y → plB g W md k bk on (y * (8 * W) + x) = g (y * (8 * W) + x)) := by
  have := blk_at g (off := 0) (L := md % W * 8) (T := md / W * 8) (bw := 8) (bh := 8) (lay g (8 * W) (md % W * 8) (md / W * 8) bk on) (y := y) hx
  rw [Nat.zero_add] at this
  unfold plB
  rw [if_neg hk]
  exact ⟨fun h => this.trans (if_pos h), fun h => this.trans (if_neg h)⟩
theorem sq0_px {g : Nat → Int32} {W md x y : Nat} {B : Nat → Nat → Int32} {on : Int32} (hx : x < 16 * W) : (ins 16 W md x y → sq0 g W md B on (y * (16 * W) + x) = bnd (if on = 0 then B (kbl W md x y) ((y - bT W md (kbl W md x y)) * 8 + (x - bL W md (kbl W md x y))) else g (y * (16 * W) + x) + B (kbl W md x y) ((y - bT W md (kbl W md x y)) * 8 + (x - bL W md (kbl W md x y)))) 0 255) ∧ (¬ ins 16 W md x y → sq0 g W md B on (y * (16 * W) + x) = g (y * (16 * W) + x)) := by
  have l0 : bL W md 0 = md % W * 16 + 0 % 2 * 8 := rfl
  have l1 : bL W md 1 = md % W * 16 + 1 % 2 * 8 := rfl
  have l2 : bL W md 2 = md % W * 16 + 2 % 2 * 8 := rfl
  have l3 : bL W md 3 = md % W * 16 + 3 % 2 * 8 := rfl
  have t0 : bT W md 0 = md / W * 16 + 0 / 2 * 8 := rfl
  have t1 : bT W md 1 = md / W * 16 + 1 / 2 * 8 := rfl
  have t2 : bT W md 2 = md / W * 16 + 2 / 2 * 8 := rfl
  have t3 : bT W md 3 = md / W * 16 + 3 / 2 * 8 := rfl
  unfold sq0 ins kbl
  constructor
  · rintro ⟨⟨a1, a2⟩, a3, a4⟩
    by_cases c1 : x < md % W * 16 + 8 <;> by_cases c2 : y < md / W * 16 + 8
    · have k1 : (y - md / W * 16) / 8 * 2 + (x - md % W * 16) / 8 = 0 := by omega
      rw [k1, plB_0 (by decide) hx, if_neg (by omega), plB_0 (by decide) hx, if_neg (by omega), plB_0 (by decide) hx, if_neg (by omega), plB_0 (by decide) hx, if_pos (by omega), l0, t0]
      rfl
    · have k1 : (y - md / W * 16) / 8 * 2 + (x - md % W * 16) / 8 = 2 := by omega
      rw [k1, plB_0 (by decide) hx, if_neg (by omega), plB_0 (by decide) hx, if_pos (by omega), l2, t2]
      have e9 : (plB (plB g W md 0 (B 0) on) W md 1 (B 1) on) (y * (16 * W) + x) = g (y * (16 * W) + x) := by rw [plB_0 (by decide) hx, if_neg (by omega), plB_0 (by decide) hx, if_neg (by omega)]
      unfold lay
      rw [e9]
    · have k1 : (y - md / W * 16) / 8 * 2 + (x - md % W * 16) / 8 = 1 := by omega
      rw [k1, plB_0 (by decide) hx, if_neg (by omega), plB_0 (by decide) hx, if_neg (by omega), plB_0 (by decide) hx, if_pos (by omega), l1, t1]
      have e9 : (plB g W md 0 (B 0) on) (y * (16 * W) + x) = g (y * (16 * W) + x) := by rw [plB_0 (by decide) hx, if_neg (by omega)]
      unfold lay
      rw [e9]
    · have k1 : (y - md / W * 16) / 8 * 2 + (x - md % W * 16) / 8 = 3 := by omega
      rw [k1, plB_0 (by decide) hx, if_pos (by omega), l3, t3]
      have e9 : (plB (plB (plB g W md 0 (B 0) on) W md 1 (B 1) on) W md 2 (B 2) on) (y * (16 * W) + x) = g (y * (16 * W) + x) := by rw [plB_0 (by decide) hx, if_neg (by omega), plB_0 (by decide) hx, if_neg (by omega), plB_0 (by decide) hx, if_neg (by omega)]
      unfold lay
      rw [e9]
  · intro h
    rw [plB_0 (by decide) hx, if_neg (by omega), plB_0 (by decide) hx, if_neg (by omega), plB_0 (by decide) hx, if_neg (by omega), plB_0 (by decide) hx, if_neg (by omega)]
theorem fsq_px {g f : Nat → Int32} {W H md sd x y : Nat} {dx dy mx : Int32} (hx : x < sd * W) : (ins sd W md x y → fsq g f W H md sd dx dy mx (y * (sd * W) + x) = mix g (sd * W) (fun x9 y9 => ftc (pxl f (sd * W)) (sd * W) (sd * H) (nI x9) (nI y9) dx dy) mx x y) ∧ (¬ ins sd W md x y → fsq g f W H md sd dx dy mx (y * (sd * W) + x) = g (y * (sd * W) + x)) := by
  have := blk_at g (off := 0) (L := md % W * sd) (T := md / W * sd) (bw := sd) (bh := sd) (mix g (sd * W) (fun x9 y9 => ftc (pxl f (sd * W)) (sd * W) (sd * H) (nI x9) (nI y9) dx dy) mx) (y := y) hx
  rw [Nat.zero_add] at this
  exact ⟨fun h => this.trans (if_pos h), fun h => this.trans (if_neg h)⟩
