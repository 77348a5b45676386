/-! ===== squares for themselves, fetched, left out ===== -/
theorem zN_64 (i : Nat) : zN i < 64 := by
  by_cases h : i < 64
  · exact zN_lt i h
  · have e : zN i = 0 := by
      unfold zN
      rw [List.getD_eq_getElem?_getD, List.getElem?_eq_none (by have : zL.length = 64 := by decide +kernel
                                                                omega)]
      rfl
    rw [e]; decide
theorem mat_lo (M0 M1 : Nat → Int32) (i : Nat) : mat M0 M1 (zN i) = M0 (zN i) := by
  unfold mat
  rw [if_pos (zN_64 i)]
theorem mat_hi (M0 M1 : Nat → Int32) (i : Nat) : mat M0 M1 (64 + zN i) = M1 (zN i) := by
  unfold mat
  rw [if_neg (by omega)]
  congr 1
  omega
theorem cOwn_eq (P Lv M0 M1 : Nat → Int32) (fa : Int32) (k : Nat) : mcO P Lv (mat M0 M1) fa k = cOwn P Lv M0 fa k := by
  unfold mcO cOwn
  congr 1
  funext i
  unfold mOwn fOwn
  by_cases h : i = 0
  · rw [if_pos h, if_pos h]
  · rw [if_neg h, if_neg h, scl_eq, mat_lo]
theorem cDif_eq (Lv M0 M1 : Nat → Int32) (fa : Int32) (k : Nat) : mcD Lv (mat M0 M1) fa k = cDif Lv M1 fa k := by
  unfold mcD cDif
  congr 1
  funext i
  unfold mDif fDif
  rw [scl_eq, mat_hi, sgn_sg]
theorem own_pic {W H md : Nat} {g0 g1 g2 r : Nat → Int32} {B B' : Nat → Nat → Int32} (hw : 1 ≤ W) (hw4 : W ≤ 4) (hh3 : H ≤ 3) (hm : md < W * H) (hB : B' = B) (h : picMd W H md g0 g1 g2 r) : picMd W H (md + 1) (sq0 g0 W md B 0) (plB g1 W md 4 (B 4) 0) (plB g2 W md 5 (B 5) 0) (mnO r W md B' 6) := by
  subst hB
  rw [mnO_G]
  refine step_pic hw hw4 hh3 hm h (fun b x y => bnd_rng _) (fun x y hx hy => ?_) (fun x y hx hy => ?_) (fun x y hx hy => ?_)
  · obtain ⟨p1, p2⟩ := sq0_px (g := g0) (md := md) (B := B') (on := 0) (y := y) hx
    exact ⟨fun hi => by rw [p1 hi, if_pos rfl]; rfl, p2⟩
  · obtain ⟨p1, p2⟩ := plB_4 (g := g1) (md := md) (k := 4) (bk := B' 4) (on := 0) (y := y) (by decide) hx
    exact ⟨fun hi => by rw [p1 hi]; rfl, p2⟩
  · obtain ⟨p1, p2⟩ := plB_4 (g := g2) (md := md) (k := 5) (bk := B' 5) (on := 0) (y := y) (by decide) hx
    exact ⟨fun hi => by rw [p1 hi]; rfl, p2⟩
theorem kbl_lt {W md x y : Nat} (h : ins 16 W md x y) : kbl W md x y < 4 := by
  obtain ⟨⟨a1, a2⟩, a3, a4⟩ := h
  unfold kbl
  omega
/-- what is fetched, in the planes -/
def fetG (sd W H md : Nat) (g G : Nat → Int32) (F : Nat → Nat → Int32) : Prop := ∀ x y, x < sd * W → y < sd * H → (ins sd W md x y → G (y * (sd * W) + x) = F x y ∧ b8 (F x y)) ∧ (¬ ins sd W md x y → G (y * (sd * W) + x) = g (y * (sd * W) + x))
theorem fet_pic {W H md : Nat} {g0 g1 g2 G0 G1 G2 r : Nat → Int32} {B B' : Nat → Nat → Int32} {F : Nat → Nat → Nat → Int32} (hw : 1 ≤ W) (hw4 : W ≤ 4) (hh3 : H ≤ 3) (hm : md < W * H) (hB : B' = B) (h : picMd W H md g0 g1 g2 r) (f0 : fetG 16 W H md g0 G0 (F 0)) (f1 : fetG 8 W H md g1 G1 (F 1)) (f2 : fetG 8 W H md g2 G2 (F 2)) : picMd W H (md + 1) (sq0 G0 W md B 1) (plB G1 W md 4 (B 4) 1) (plB G2 W md 5 (B 5) 1) (mnF r W md B' F 6) := by
  subst hB
  rw [mnF_G]
  refine step_pic hw hw4 hh3 hm h (fun b x y => bnd_rng _) (fun x y hx hy => ?_) (fun x y hx hy => ?_) (fun x y hx hy => ?_)
  · obtain ⟨p1, p2⟩ := sq0_px (g := G0) (md := md) (B := B') (on := 1) (y := y) hx
    obtain ⟨q1, q2⟩ := f0 x y hx hy
    refine ⟨fun hi => ?_, fun hi => (p2 hi).trans (q2 hi)⟩
    have hk := kbl_lt hi
    have ep : pl (kbl W md x y) = 0 := by unfold pl; rw [if_pos hk]
    rw [p1 hi, if_neg (by decide), (q1 hi).1, Int32.add_comm]
    show _ = bnd (B' (kbl W md x y) _ + F (pl (kbl W md x y)) x y) 0 255
    rw [ep]
  · obtain ⟨p1, p2⟩ := plB_4 (g := G1) (md := md) (k := 4) (bk := B' 4) (on := 1) (y := y) (by decide) hx
    obtain ⟨q1, q2⟩ := f1 x y hx hy
    refine ⟨fun hi => ?_, fun hi => (p2 hi).trans (q2 hi)⟩
    rw [p1 hi]
    unfold lay
    rw [if_neg (by decide), (q1 hi).1, Int32.add_comm]
    rfl
  · obtain ⟨p1, p2⟩ := plB_4 (g := G2) (md := md) (k := 5) (bk := B' 5) (on := 1) (y := y) (by decide) hx
    obtain ⟨q1, q2⟩ := f2 x y hx hy
    refine ⟨fun hi => ?_, fun hi => (p2 hi).trans (q2 hi)⟩
    rw [p1 hi]
    unfold lay
    rw [if_neg (by decide), (q1 hi).1, Int32.add_comm]
    rfl
theorem bnd_b8 {v : Int32} (h : b8 v) : bnd v 0 255 = v := by
  obtain ⟨k, hk, rfl⟩ := h
  exact bnd_nI hk
theorem lv_pic {W H md : Nat} {g0 g1 g2 G0 G1 G2 r : Nat → Int32} {F : Nat → Nat → Nat → Int32} (hw : 1 ≤ W) (hw4 : W ≤ 4) (hh3 : H ≤ 3) (hm : md < W * H) (h : picMd W H md g0 g1 g2 r) (f0 : fetG 16 W H md g0 G0 (F 0)) (f1 : fetG 8 W H md g1 G1 (F 1)) (f2 : fetG 8 W H md g2 G2 (F 2)) : picMd W H (md + 1) G0 G1 G2 (mnF r W md (fun _ _ => 0) F 6) := by
  rw [mnF_G]
  refine step_pic hw hw4 hh3 hm h (fun b x y => bnd_rng _) (fun x y hx hy => ?_) (fun x y hx hy => ?_) (fun x y hx hy => ?_)
  · obtain ⟨q1, q2⟩ := f0 x y hx hy
    refine ⟨fun hi => ?_, q2⟩
    have hk := kbl_lt hi
    have ep : pl (kbl W md x y) = 0 := by unfold pl; rw [if_pos hk]
    rw [(q1 hi).1]
    show _ = bnd (0 + F (pl (kbl W md x y)) x y) 0 255
    rw [ep, Int32.zero_add, bnd_b8 (q1 hi).2]
  · obtain ⟨q1, q2⟩ := f1 x y hx hy
    refine ⟨fun hi => ?_, q2⟩
    rw [(q1 hi).1]
    show _ = bnd (0 + F 1 x y) 0 255
    rw [Int32.zero_add, bnd_b8 (q1 hi).2]
  · obtain ⟨q1, q2⟩ := f2 x y hx hy
    refine ⟨fun hi => ?_, q2⟩
    rw [(q1 hi).1]
    show _ = bnd (0 + F 2 x y) 0 255
    rw [Int32.zero_add, bnd_b8 (q1 hi).2]
theorem cl_ltW (x : Int32) {W : Nat} (h : 1 ≤ W) : cl x W < W := by
  unfold cl
  by_cases h1 : x.toInt < 0
  · rw [if_pos h1]; omega
  · rw [if_neg h1]
    by_cases h2 : x.toInt < W
    · rw [if_pos h2]; omega
    · rw [if_neg h2]; omega
theorem ftc_congr {P P' : Nat → Nat → Int32} {W H : Nat} (hW : 1 ≤ W) (hH : 1 ≤ H) (h : ∀ x y, x < W → y < H → P x y = P' x y) (x y dx dy : Int32) : ftc P W H x y dx dy = ftc P' W H x y dx dy := by
  have k : ∀ a b : Int32, P (cl a W) (cl b H) = P' (cl a W) (cl b H) := fun a b => h _ _ (cl_ltW a hW) (cl_ltW b hH)
  unfold ftc
  rw [k, k, k, k]
theorem fet_eq {sd W H p : Nat} {f r : Nat → Int32} (hwd : wdt p W = sd * W ∧ wdt p H = sd * H) (h1 : 1 ≤ sd * W) (h2 : 1 ≤ sd * H) (h : pEq sd W H p f r) (x y dx dy : Int32) : mft (lokP r p) (wdt p W) (wdt p H) x y dx dy = ftc (pxl f (sd * W)) (sd * W) (sd * H) x y dx dy ∧ b8 (mft (lokP r p) (wdt p W) (wdt p H) x y dx dy) := by
  rw [hwd.1, hwd.2]
  have hr : rng (lokP r p) (sd * W) (sd * H) := fun x y hx hy => (h x y hx hy).2
  have e := mft_ftc h1 h2 hr x y dx dy
  rw [e]
  exact ⟨ftc_congr h1 h2 (fun x y hx hy => (h x y hx hy).1.symm) x y dx dy, ftc_rng h1 h2 hr x y dx dy⟩
theorem fet1 {sd W H md p : Nat} {g f r : Nat → Int32} {dx dy : Int32} (hwd : wdt p W = sd * W ∧ wdt p H = sd * H) (h1 : 1 ≤ sd * W) (h2 : 1 ≤ sd * H) (h : pEq sd W H p f r) : fetG sd W H md g (fsq g f W H md sd dx dy 0) (fun x9 y9 => mft (lokP r p) (wdt p W) (wdt p H) (nI x9) (nI y9) dx dy) := by
  intro x y hx hy
  obtain ⟨p1, p2⟩ := fsq_px (g := g) (f := f) (W := W) (H := H) (md := md) (sd := sd) (y := y) (dx := dx) (dy := dy) (mx := 0) hx
  obtain ⟨e1, e2⟩ := fet_eq hwd h1 h2 h (nI x) (nI y) dx dy
  refine ⟨fun hi => ⟨?_, e2⟩, p2⟩
  rw [p1 hi]
  unfold mix
  rw [if_pos rfl]
  show bnd (ftc (pxl f (sd * W)) (sd * W) (sd * H) (nI x) (nI y) dx dy) 0 255 = mft (lokP r p) (wdt p W) (wdt p H) (nI x) (nI y) dx dy
  rw [← e1, bnd_b8 e2]
theorem avg_b8 {u v : Int32} (hu : b8 u) (hv : b8 v) : b8 ((u + v + 1) >>> ((1 : Int32) &&& 31)) := by
  obtain ⟨a, ha, rfl⟩ := hu
  obtain ⟨b, hb, rfl⟩ := hv
  rw [q2 ha hb]
  exact ⟨(a + b + 1) / 2, by omega, rfl⟩
theorem fet2 {sd W H md p : Nat} {g f f2 r r2 : Nat → Int32} {dx dy dx2 dy2 : Int32} (hwd : wdt p W = sd * W ∧ wdt p H = sd * H) (h1 : 1 ≤ sd * W) (h2 : 1 ≤ sd * H) (h : pEq sd W H p f r) (hb : pEq sd W H p f2 r2) : fetG sd W H md g (fsq (fsq g f W H md sd dx dy 0) f2 W H md sd dx2 dy2 1) (fun x9 y9 => (mft (lokP r p) (wdt p W) (wdt p H) (nI x9) (nI y9) dx dy + mft (lokP r2 p) (wdt p W) (wdt p H) (nI x9) (nI y9) dx2 dy2 + 1) >>> (1 &&& 31)) := by
  intro x y hx hy
  obtain ⟨p1, p2⟩ := fsq_px (g := fsq g f W H md sd dx dy 0) (f := f2) (W := W) (H := H) (md := md) (sd := sd) (y := y) (dx := dx2) (dy := dy2) (mx := 1) hx
  obtain ⟨q1, q2⟩ := fet1 (md := md) (g := g) (dx := dx) (dy := dy) hwd h1 h2 h x y hx hy
  obtain ⟨e1, e2⟩ := fet_eq hwd h1 h2 hb (nI x) (nI y) dx2 dy2
  refine ⟨fun hi => ?_, fun hi => (p2 hi).trans (q2 hi)⟩
  have hv := avg_b8 (q1 hi).2 e2
  refine ⟨?_, hv⟩
  rw [p1 hi]
  unfold mix
  rw [if_neg (by decide), (q1 hi).1]
  show bnd ((mft (lokP r p) (wdt p W) (wdt p H) (nI x) (nI y) dx dy + ftc (pxl f2 (sd * W)) (sd * W) (sd * H) (nI x) (nI y) dx2 dy2 + 1) >>> (1 &&& 31)) 0 255 = _
  rw [← e1]
  exact bnd_b8 hv
theorem fetG.to {sd W H md : Nat} {g G : Nat → Int32} {F F' : Nat → Nat → Int32} (h : fetG sd W H md g G F) (e : F = F') : fetG sd W H md g G F' := e ▸ h
