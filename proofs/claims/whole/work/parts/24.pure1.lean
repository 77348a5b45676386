/-! ===== pure: the class's numbers against the reference's ===== -/
theorem usd_mus (wh v : Int32) : usd wh v 0 = mus wh v 0 ∧ usd wh v 1 = mus wh v 1 ∧ usd wh v 2 = mus wh v 2 := by
  have h : (if wh = 0 then v else 2 * v) = v * mul2 wh := by
    unfold mul2
    by_cases hw : wh = 0
    · rw [if_pos hw, if_pos hw, Int32.mul_one]
    · rw [if_neg hw, if_neg hw, Int32.mul_comm]
  refine ⟨?_, ?_, ?_⟩ <;> (unfold usd mus; rw [h]; rfl)
theorem i32b (v : Int32) : -2147483648 ≤ v.toInt ∧ v.toInt < 2147483648 := by
  have h1 := BitVec.toInt_lt (x := v.toBitVec)
  have h2 := BitVec.le_toInt (x := v.toBitVec)
  have e : v.toInt = v.toBitVec.toInt := rfl
  rw [e]
  constructor
  · simpa using h2
  · simpa using h1
theorem i32bm {z : Int} (h1 : -2147483648 ≤ z) (h2 : z < 2147483648) : z.bmod (2 ^ 32) = z := by
  apply Int.bmod_eq_of_le
  · simpa using h1
  · simpa using h2
theorem and1 (v : Int32) : v &&& 1 = nI (v.toBitVec.toNat % 2) := pk_and v 1 rfl
theorem par_and (v : Int32) : v &&& 1 = 0 ↔ v.toInt % 2 = 0 := by
  have e : v.toInt = v.toBitVec.toInt := rfl
  have hc := BitVec.toInt_eq_toNat_cond v.toBitVec
  rw [and1, e, hc]
  have h2 : v.toBitVec.toNat % 2 < 2 := Nat.mod_lt _ (by decide)
  constructor
  · intro h
    have : v.toBitVec.toNat % 2 = 0 := by
      rcases Nat.eq_zero_or_pos (v.toBitVec.toNat % 2) with q | q
      · exact q
      · exact absurd h (nI_ne0 q (by omega))
    split <;> omega
  · intro h
    have : v.toBitVec.toNat % 2 = 0 := by
      split at h <;> omega
    rw [this]
    rfl
theorem div2 (v : Int32) : (v / 2).toInt = v.toInt.tdiv 2 := by
  rw [Int32.toInt_div_of_ne_right v 2 (by decide)]
  rfl
theorem tdiv2 (z : Int) : z.tdiv 2 * 2 = z - z.tmod 2 := by
  have := Int.mul_tdiv_add_tmod z 2
  omega
theorem tmod2 (z : Int) : (z.tmod 2 = 0 ↔ z % 2 = 0) ∧ -1 ≤ z.tmod 2 ∧ z.tmod 2 ≤ 1 ∧ (0 ≤ z → 0 ≤ z.tmod 2) ∧ (z ≤ 0 → z.tmod 2 ≤ 0) := by
  have h1 : z.tmod 2 = if 0 ≤ z then z % 2 else -((-z) % 2) := by
    by_cases h : 0 ≤ z
    · rw [if_pos h, Int.tmod_eq_emod_of_nonneg h]
    · rw [if_neg h]
      have := Int.neg_tmod (-z) 2
      rw [Int.neg_neg] at this
      rw [this, Int.tmod_eq_emod_of_nonneg (by omega)]
  rw [h1]
  split <;> omega
theorem rem2 (v : Int32) : (v - v / 2 * 2).toInt = v.toInt.tmod 2 := by
  have hb := i32b v
  have ht := tmod2 v.toInt
  have h2 : ((2 : Int32)).toInt = 2 := rfl
  have hd := tdiv2 v.toInt
  have hm : (v / 2 * 2).toInt = v.toInt.tdiv 2 * 2 := by
    rw [Int32.toInt_mul, div2, h2]
    exact i32bm (by omega) (by omega)
  rw [Int32.toInt_sub, hm]
  have hf : (v.toInt - v.toInt.tdiv 2 * 2).bmod (2 ^ 32) = v.toInt - v.toInt.tdiv 2 * 2 := i32bm (by omega) (by omega)
  rw [hf]
  omega
theorem par_rem (v : Int32) : v - v / 2 * 2 = 0 ↔ v.toInt % 2 = 0 := by
  rw [← (tmod2 v.toInt).1, ← rem2, ← Int32.toInt_inj]
  rfl
theorem par_eq (v : Int32) : v - v / 2 * 2 = 0 ↔ v &&& 1 = 0 := (par_rem v).trans (par_and v).symm
theorem sgn_sg (v : Int32) : sgn v = sg v := by
  have e : v.toInt = v.toBitVec.toInt := rfl
  have hc := BitVec.toInt_eq_toNat_cond v.toBitVec
  have hlt : v.toBitVec.toNat < 4294967296 := v.toBitVec.isLt
  have hs : (v >>> ((31 : Int32) &&& 31)).toInt = v.toInt >>> 31 := pk_shr v _ 31 (by decide)
  have hu : (((-v).toUInt32 >>> ((31 : Int32).toUInt32 &&& Int32.toUInt32 31)).toInt32).toBitVec.toNat = (-v).toBitVec.toNat / 2 ^ 31 := pk_ushr (-v) 31 31 (by decide)
  have hn : (-v).toBitVec = -v.toBitVec := rfl
  have hnn := BitVec.toNat_neg v.toBitVec
  rw [hn] at hu
  by_cases h0 : v = 0
  · subst h0; decide
  · have hv0 : v.toInt ≠ 0 := fun q => h0 (Int32.toInt_inj.mp q)
    unfold sg
    rw [if_neg h0]
    by_cases hl : v ≤ 0
    · rw [if_pos hl]
      have hl' : v.toInt ≤ 0 := by simpa [Int32.le_iff_toInt_le] using hl
      have hb := i32b v
      have h1 : v >>> ((31 : Int32) &&& 31) = -1 := by
        apply Int32.toInt_inj.mp
        rw [hs, Int.shiftRight_eq_div_pow]
        show v.toInt / 2147483648 = -1
        omega
      unfold sgn
      rw [h1]
      generalize ((-v).toUInt32 >>> ((31 : Int32).toUInt32 &&& Int32.toUInt32 31)).toInt32 = z
      apply Int32.toBitVec_inj.mp
      show BitVec.allOnes 32 ||| z.toBitVec = BitVec.allOnes 32
      exact BitVec.allOnes_or
    · rw [if_neg hl]
      have hl' : 0 < v.toInt := by
        have : ¬ v.toInt ≤ 0 := fun q => hl (by simpa [Int32.le_iff_toInt_le] using q)
        omega
      have hb := i32b v
      have h1 : v >>> ((31 : Int32) &&& 31) = 0 := by
        apply Int32.toInt_inj.mp
        rw [hs, Int.shiftRight_eq_div_pow]
        show v.toInt / 2147483648 = 0
        omega
      have h2 : ((-v).toUInt32 >>> ((31 : Int32).toUInt32 &&& Int32.toUInt32 31)).toInt32 = 1 := by
        apply Int32.toBitVec_inj.mp
        apply BitVec.eq_of_toNat_eq
        rw [hu, hnn]
        rw [e, hc] at hl' hb
        show (4294967296 - v.toBitVec.toNat) % 4294967296 / 2147483648 = 1
        split at hl' <;> omega
      unfold sgn
      rw [h1, h2]
      decide
theorem odd_eq (v : Int32) : odd v = if v &&& 1 = 0 then v - sgn v else v := by
  unfold odd
  by_cases h : v &&& 1 = 0
  · rw [if_pos ((par_eq v).mpr h), if_pos h, sgn_sg]
    unfold sg
    by_cases h0 : v = 0
    · rw [if_pos h0, if_pos h0, Int32.sub_zero]
    · rw [if_neg h0, if_neg h0]
      by_cases hl : v ≤ 0
      · rw [if_pos hl, if_pos hl, Int32.sub_eq_add_neg]; rfl
      · rw [if_neg hl, if_neg hl]
  · rw [if_neg (fun q => h ((par_eq v).mp q)), if_neg h]
theorem scl_eq (fa db nb : Int32) : mscl fa db nb = scl fa db nb := by
  unfold mscl scl
  rw [odd_eq]
