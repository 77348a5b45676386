/-! ===== pure: what is fetched ===== -/
def rng (P : Nat → Nat → Int32) (W H : Nat) : Prop := ∀ x y, x < W → y < H → ∃ k : Nat, k ≤ 255 ∧ P x y = nI k
theorem and01 (v : Int32) : v &&& 1 = 0 ∨ v &&& 1 = 1 := by
  rw [and1]
  have h2 : v.toBitVec.toNat % 2 = 0 ∨ v.toBitVec.toNat % 2 = 1 := by omega
  rcases h2 with h | h <;> rw [h]
  · exact Or.inl rfl
  · exact Or.inr rfl
theorem q4 {a : Nat} (h : a ≤ 255) : (nI a + nI a + nI a + nI a + 2) >>> ((2 : Int32) &&& 31) = nI a := by
  rw [nI_add, nI_add, nI_add, show nI (a + a + a + a) + 2 = nI (a + a + a + a + 2) from nI_add _ 2, pk_shrN (by omega) _ 2 (by decide)]
  exact congrArg nI (by omega)
theorem q2 {a b : Nat} (h : a ≤ 255) (h2 : b ≤ 255) : (nI a + nI b + 1) >>> ((1 : Int32) &&& 31) = nI ((a + b + 1) / 2) := by
  rw [nI_add, nI_1, pk_shrN (by omega) _ 1 (by decide)]
theorem q2a {a b : Nat} (h : a ≤ 255) (h2 : b ≤ 255) : (nI a + nI b + nI a + nI b + 2) >>> ((2 : Int32) &&& 31) = nI ((a + b + 1) / 2) := by
  rw [nI_add, nI_add, nI_add, show nI (a + b + a + b) + 2 = nI (a + b + a + b + 2) from nI_add _ 2, pk_shrN (by omega) _ 2 (by decide)]
  exact congrArg nI (by omega)
theorem q2b {a b : Nat} (h : a ≤ 255) (h2 : b ≤ 255) : (nI a + nI a + nI b + nI b + 2) >>> ((2 : Int32) &&& 31) = nI ((a + b + 1) / 2) := by
  rw [nI_add, nI_add, nI_add, show nI (a + a + b + b) + 2 = nI (a + a + b + b + 2) from nI_add _ 2, pk_shrN (by omega) _ 2 (by decide)]
  exact congrArg nI (by omega)
theorem mft_ftc {P : Nat → Nat → Int32} {W H : Nat} (hW : 1 ≤ W) (hH : 1 ≤ H) (hr : rng P W H) (x y dx dy : Int32) : mft P W H x y dx dy = ftc P W H x y dx dy := by
  unfold mft ftc
  generalize x + (dx >>> ((1 : Int32) &&& 31)) = u
  generalize y + (dy >>> ((1 : Int32) &&& 31)) = t
  obtain ⟨a, ha, ea⟩ := hr (cl u W) (cl t H) (cl_lt u hW) (cl_lt t hH)
  rcases and01 dx with hx | hx <;> rcases and01 dy with hy | hy
  · rw [if_pos ((par_eq dx).mpr hx), if_pos ((par_eq dy).mpr hy), hx, hy, Int32.add_zero, Int32.add_zero, ea]
    exact (q4 ha).symm
  · have hy' : ¬ dy - dy / 2 * 2 = 0 := fun q => by rw [(par_eq dy).mp q] at hy; exact absurd hy (by decide)
    obtain ⟨b, hb, eb⟩ := hr (cl u W) (cl (t + 1) H) (cl_lt u hW) (cl_lt (t + 1) hH)
    rw [if_pos ((par_eq dx).mpr hx), if_neg hy', hx, hy, Int32.add_zero, ea, eb, q2 ha hb]
    exact (q2b ha hb).symm
  · have hx' : ¬ dx - dx / 2 * 2 = 0 := fun q => by rw [(par_eq dx).mp q] at hx; exact absurd hx (by decide)
    obtain ⟨b, hb, eb⟩ := hr (cl (u + 1) W) (cl t H) (cl_lt (u + 1) hW) (cl_lt t hH)
    rw [if_neg hx', if_pos ((par_eq dy).mpr hy), hx, hy, Int32.add_zero, ea, eb, q2 ha hb]
    exact (q2a ha hb).symm
  · have hx' : ¬ dx - dx / 2 * 2 = 0 := fun q => by rw [(par_eq dx).mp q] at hx; exact absurd hx (by decide)
    have hy' : ¬ dy - dy / 2 * 2 = 0 := fun q => by rw [(par_eq dy).mp q] at hy; exact absurd hy (by decide)
    rw [if_neg hx', if_neg hy', hx, hy]
theorem q4d {a b c d : Nat} (ha : a ≤ 255) (hb : b ≤ 255) (hc : c ≤ 255) (hd : d ≤ 255) : (nI a + nI b + nI c + nI d + 2) >>> ((2 : Int32) &&& 31) = nI ((a + b + c + d + 2) / 4) := by
  rw [nI_add, nI_add, nI_add, show nI (a + b + c + d) + 2 = nI (a + b + c + d + 2) from nI_add _ 2, pk_shrN (by omega) _ 2 (by decide)]
/-- what is fetched is a sample again -/
theorem ftc_rng {P : Nat → Nat → Int32} {W H : Nat} (hW : 1 ≤ W) (hH : 1 ≤ H) (hr : rng P W H) (x y dx dy : Int32) : ∃ k : Nat, k ≤ 255 ∧ ftc P W H x y dx dy = nI k := by
  unfold ftc
  obtain ⟨a, ha, ea⟩ := hr _ _ (cl_lt (x + (dx >>> ((1 : Int32) &&& 31))) hW) (cl_lt (y + (dy >>> ((1 : Int32) &&& 31))) hH)
  obtain ⟨b, hb, eb⟩ := hr _ _ (cl_lt (x + (dx >>> ((1 : Int32) &&& 31)) + (dx &&& 1)) hW) (cl_lt (y + (dy >>> ((1 : Int32) &&& 31))) hH)
  obtain ⟨c, hc, ec⟩ := hr _ _ (cl_lt (x + (dx >>> ((1 : Int32) &&& 31))) hW) (cl_lt (y + (dy >>> ((1 : Int32) &&& 31)) + (dy &&& 1)) hH)
  obtain ⟨d, hd, ed⟩ := hr _ _ (cl_lt (x + (dx >>> ((1 : Int32) &&& 31)) + (dx &&& 1)) hW) (cl_lt (y + (dy >>> ((1 : Int32) &&& 31)) + (dy &&& 1)) hH)
  rw [ea, eb, ec, ed, q4d ha hb hc hd]
  exact ⟨_, by omega, rfl⟩
theorem bnd_nI {k : Nat} (h : k ≤ 255) : bnd (nI k) 0 255 = nI k := by
  unfold bnd
  rw [if_pos (nI_pos' (by omega)), if_pos (show nI k ≤ (255 : Int32) from (nI_le h (by decide) : nI k ≤ nI 255))]
/-- every bounded number is a sample -/
theorem bnd_rng (v : Int32) : ∃ k : Nat, k ≤ 255 ∧ bnd v 0 255 = nI k := by
  unfold bnd
  by_cases h0 : 0 ≤ v
  · rw [if_pos h0]
    by_cases h1 : v ≤ 255
    · rw [if_pos h1]
      obtain ⟨j, hj, e⟩ := nI_of2 (x := v) (M := 255) (n := 255) rfl (Int32.not_lt.mpr h0) h1
      exact ⟨j, hj, e⟩
    · rw [if_neg h1]; exact ⟨255, Nat.le_refl _, rfl⟩
  · rw [if_neg h0]; exact ⟨0, by decide, rfl⟩
/-- a vector within its reach, moved: both wrap it alike -/
theorem nIz {k : Nat} (h : k ≤ 65536) : (nI k).toInt = k := nI_toInt (by omega)
theorem mvd_wrp {v d : Int32} {r : Nat} (hr : r ≤ 16) (h1 : -(16 * (r : Int)) ≤ v.toInt) (h2 : v.toInt ≤ 16 * (r : Int)) (h3 : -(16 * (r : Int)) ≤ d.toInt) (h4 : d.toInt ≤ 16 * (r : Int)) : mvd v d (nI r) = wrp (v + d) (16 * nI r) := by
  have e16 : (16 : Int32) * nI r = nI (16 * r) := pk_mul 16 r
  have e32 : (32 : Int32) * nI r = nI (32 * r) := pk_mul 32 r
  have hs : (v + d).toInt = v.toInt + d.toInt := by rw [Int32.toInt_add]; exact i32bm (by omega) (by omega)
  have hn : (-(nI (16 * r))).toInt = -(16 * (r : Int)) := by
    rw [Int32.toInt_neg, nIz (by omega)]
    exact (i32bm (by omega) (by omega)).trans (by omega)
  have hm : ((-16 : Int32) * nI r).toInt = -(16 * (r : Int)) := by
    rw [Int32.toInt_mul, nIz (by omega), show ((-16 : Int32)).toInt = -16 from rfl]
    exact (i32bm (by omega) (by omega)).trans (by omega)
  have h2m : (2 : Int32) * nI (16 * r) = nI (32 * r) := by rw [show (2 : Int32) * nI (16 * r) = nI (2 * (16 * r)) from pk_mul 2 _]; exact congrArg nI (by omega)
  have hm1 : (nI (16 * r) - 1).toInt = 16 * (r : Int) - 1 := by
    rw [Int32.toInt_sub, nIz (by omega), show ((1 : Int32)).toInt = 1 from rfl]
    exact (i32bm (by omega) (by omega)).trans (by omega)
  have hsub : (v + d - nI (32 * r)).toInt = v.toInt + d.toInt - 32 * (r : Int) := by
    rw [Int32.toInt_sub, hs, nIz (by omega)]
    exact (i32bm (by omega) (by omega)).trans (by omega)
  have h16 : (nI (16 * r)).toInt = 16 * (r : Int) := by rw [nIz (by omega)]; omega
  unfold mvd mvd0 wrp
  rw [e16, e32, h2m]
  simp only [Int32.le_iff_toInt_le, Int32.lt_iff_toInt_lt, hm, hm1, hn, h16]
  by_cases c1 : v.toInt + d.toInt ≤ 16 * (r : Int) - 1
  · simp only [hs, if_pos c1]
    by_cases c2 : -(16 * (r : Int)) ≤ v.toInt + d.toInt
    · rw [if_pos c2, if_pos c2, if_pos (by omega)]
    · rw [if_neg c2, if_neg c2]
  · simp only [hs, if_neg c1, hsub]
    rw [if_pos (by omega), if_pos (by omega), if_neg (by omega)]
