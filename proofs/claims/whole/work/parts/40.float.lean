/-! ===== floats: where nothing is a NaN ===== -/
theorem nn32 {a : UInt32} (h : FP.Core.val32 a ≠ .nan) : vf_n32 a := by
  have h1 := (FP.Core.ne_nan32 a).mp h
  unfold vf_n32
  rw [UInt32.le_iff_toNat_le, UInt32.toNat_and]
  have e1 : (0x7fffffff : UInt32).toNat = 2 ^ 31 - 1 := by decide
  have e2 : (0x7f800000 : UInt32).toNat = 2139095040 := by decide
  rw [e1, e2, Nat.and_two_pow_sub_one_eq_mod]
  exact h1
theorem nn64 {a : UInt64} (h : FP.Core.val64 a ≠ .nan) : vf_n64 a := by
  have h1 := (FP.Core.ne_nan a).mp h
  unfold vf_n64
  rw [UInt64.le_iff_toNat_le, UInt64.toNat_and]
  have e1 : (0x7fffffffffffffff : UInt64).toNat = 2 ^ 63 - 1 := by decide
  have e2 : (0x7ff0000000000000 : UInt64).toNat = 9218868437227405312 := by decide
  rw [e1, e2, Nat.and_two_pow_sub_one_eq_mod]
  exact h1
/-- a number, not an infinity -/
def fF (a : UInt32) : Bool := match FP.Core.val32 a with
  | .fin _ _ _ => true
  | _ => false
theorem fF_of {a : UInt32} (h : fF a = true) : ∃ s c q, FP.Core.val32 a = .fin s c q := by
  unfold fF at h
  cases hv : FP.Core.val32 a with
  | nan => rw [hv] at h; cases h
  | inf s => rw [hv] at h; cases h
  | fin s c q => exact ⟨s, c, q, rfl⟩
theorem fF_nn {a : UInt32} (h : fF a = true) : FP.Core.val32 a ≠ .nan := by
  obtain ⟨s, c, q, e⟩ := fF_of h
  rw [e]
  exact fun z => by cases z
theorem rr_nn (f : FP.Core.Fmt) (s : Bool) (a b : Nat) (e : Int) : FP.Core.roundRatio f s a b e ≠ .nan := by
  unfold FP.Core.roundRatio
  by_cases h : a = 0
  · rw [if_pos h]; exact fun z => by cases z
  · rw [if_neg h]
    unfold FP.Core.roundAt FP.Core.settle FP.Core.bound
    (repeat' split) <;> exact fun z => by cases z
theorem rd_nn {f : FP.Core.Fmt} {d : FP.Core.Datum} (h : d ≠ .nan) : FP.Core.round f d ≠ .nan := by
  cases d with
  | nan => exact absurd rfl h
  | inf s => exact fun z => by cases z
  | fin s c q => exact rr_nn f s c 1 q
/-- a product of two numbers is no NaN -/
theorem mul_nn {a b : UInt32} (ha : fF a = true) (hb : fF b = true) : FP.Core.val32 (FP.fmul a b) ≠ .nan := by
  obtain ⟨s, c, q, e⟩ := fF_of ha
  obtain ⟨t, d, r, e2⟩ := fF_of hb
  show FP.Core.val32 (FP.Core.fmul a b) ≠ _
  rw [FP.Core.val32_fmul, e, e2]
  exact rd_nn (fun z => by cases z)
/-- a product with a number that is not zero is no NaN where the other is none -/
theorem mul_nn2 {a b : UInt32} {t : Bool} {d : Nat} {r : Int} (ha : FP.Core.val32 a ≠ .nan) (hb : FP.Core.val32 b = .fin t d r) (hd : d ≠ 0) : FP.Core.val32 (FP.fmul a b) ≠ .nan := by
  show FP.Core.val32 (FP.Core.fmul a b) ≠ _
  rw [FP.Core.val32_fmul, hb]
  apply rd_nn
  cases hv : FP.Core.val32 a with
  | nan => exact absurd hv ha
  | inf s => show (if d = 0 then FP.Core.Datum.nan else .inf (s != t)) ≠ .nan; rw [if_neg hd]; exact fun z => by cases z
  | fin s c q => exact fun z => by cases z
theorem add_nn {a b : UInt32} (ha : FP.Core.val32 a ≠ .nan) (hb : fF b = true) : FP.Core.val32 (FP.fadd a b) ≠ .nan := by
  obtain ⟨t, d, r, e2⟩ := fF_of hb
  show FP.Core.val32 (FP.Core.fadd a b) ≠ _
  rw [FP.Core.val32_fadd, e2]
  apply rd_nn
  cases hv : FP.Core.val32 a with
  | nan => exact absurd hv ha
  | inf s => exact fun z => by cases z
  | fin s c q => exact fun z => by cases z
theorem add_nn2 {a b : UInt32} (ha : fF a = true) (hb : FP.Core.val32 b ≠ .nan) : FP.Core.val32 (FP.fadd a b) ≠ .nan := by
  obtain ⟨t, d, r, e2⟩ := fF_of ha
  show FP.Core.val32 (FP.Core.fadd a b) ≠ _
  rw [FP.Core.val32_fadd, e2]
  apply rd_nn
  cases hv : FP.Core.val32 b with
  | nan => exact absurd hv hb
  | inf s => exact fun z => by cases z
  | fin s c q => exact fun z => by cases z
theorem sub_nn {a b : UInt32} (ha : FP.Core.val32 a ≠ .nan) (hb : fF b = true) : FP.Core.val32 (FP.fsub a b) ≠ .nan := by
  obtain ⟨t, d, r, e2⟩ := fF_of hb
  show FP.Core.val32 (FP.Core.fsub a b) ≠ _
  rw [FP.Core.val32_fsub, e2]
  apply rd_nn
  cases hv : FP.Core.val32 a with
  | nan => exact absurd hv ha
  | inf s => exact fun z => by cases z
  | fin s c q => exact fun z => by cases z
/-- not below zero, not a NaN -/
def fP (a : UInt32) : Prop := FP.Core.val32 a = .inf false ∨ ∃ c q, FP.Core.val32 a = .fin false c q
theorem fP_nn {a : UInt32} (h : fP a) : FP.Core.val32 a ≠ .nan := by
  rcases h with h | ⟨c, q, h⟩ <;> rw [h] <;> exact fun z => by cases z
theorem rr_pos (f : FP.Core.Fmt) (a b : Nat) (e : Int) : FP.Core.roundRatio f false a b e = .inf false ∨ ∃ c q, FP.Core.roundRatio f false a b e = .fin false c q := by
  unfold FP.Core.roundRatio
  by_cases h : a = 0
  · rw [if_pos h]; exact Or.inr ⟨_, _, rfl⟩
  · rw [if_neg h]
    unfold FP.Core.roundAt FP.Core.settle FP.Core.bound
    (repeat' split) <;> first | exact Or.inl rfl | exact Or.inr ⟨_, _, rfl⟩
theorem sq_pos {a : UInt32} (ha : fF a = true) : fP (FP.fmul a a) := by
  obtain ⟨s, c, q, e⟩ := fF_of ha
  unfold fP
  show FP.Core.val32 (FP.Core.fmul a a) = _ ∨ ∃ c q, FP.Core.val32 (FP.Core.fmul a a) = _
  rw [FP.Core.val32_fmul, e]
  show FP.Core.round FP.Core.b32 (.fin (s != s) (c * c) (q + q)) = _ ∨ ∃ c2 q2, FP.Core.round FP.Core.b32 (.fin (s != s) (c * c) (q + q)) = _
  have hs : (s != s) = false := by cases s <;> rfl
  rw [hs]
  exact rr_pos _ _ _ _
theorem add_pos {a b : UInt32} (ha : fP a) (hb : fP b) : fP (FP.fadd a b) := by
  unfold fP
  show FP.Core.val32 (FP.Core.fadd a b) = _ ∨ ∃ c q, FP.Core.val32 (FP.Core.fadd a b) = _
  rw [FP.Core.val32_fadd]
  rcases ha with ha | ⟨c, q, ha⟩ <;> rcases hb with hb | ⟨d, r, hb⟩ <;> rw [ha, hb]
  · exact Or.inl rfl
  · exact Or.inl rfl
  · exact Or.inl rfl
  · have hsu : (0 : Int) ≤ FP.Core.sumUnits false c q false d r (min q r) := by
      show (0 : Int) ≤ (FP.Core.inUnits c q (min q r) : Int) + (FP.Core.inUnits d r (min q r) : Int)
      omega
    have hss : FP.Core.sumSign false false (FP.Core.sumUnits false c q false d r (min q r)) = false := by
      unfold FP.Core.sumSign
      by_cases h : FP.Core.sumUnits false c q false d r (min q r) = 0
      · rw [if_pos h]; rfl
      · rw [if_neg h]; exact decide_eq_false (by omega)
    show FP.Core.round FP.Core.b32 (.fin (FP.Core.sumSign false false (FP.Core.sumUnits false c q false d r (min q r))) _ _) = _ ∨ ∃ c2 q2, FP.Core.round FP.Core.b32 (.fin (FP.Core.sumSign false false (FP.Core.sumUnits false c q false d r (min q r))) _ _) = _
    rw [hss]
    exact rr_pos _ _ _ _
theorem div_nn {a b : UInt32} {t : Bool} {d : Nat} {r : Int} (ha : fP a) (hb : FP.Core.val32 b = .fin t d r) (hd : d ≠ 0) : FP.Core.val32 (FP.fdiv a b) ≠ .nan := by
  show FP.Core.val32 (FP.Core.fdiv a b) ≠ _
  rw [FP.Core.val32_fdiv, hb]
  rcases ha with ha | ⟨c, q, ha⟩ <;> rw [ha]
  · exact fun z => by cases z
  · show (if d = 0 then (if c = 0 then FP.Core.Datum.nan else .inf (false != t)) else FP.Core.roundRatio FP.Core.b32 (false != t) c d (q - r)) ≠ .nan
    rw [if_neg hd]
    exact rr_nn _ _ _ _ _
theorem f2d_nn {a : UInt32} (h : FP.Core.val32 a ≠ .nan) : vf_n64 (FP.f2d a) := by
  unfold FP.f2d
  rw [if_neg (fun z => h ((FP.Core.fIsNaN_iff a).mp z))]
  apply nn64
  rw [FP.Core.val64_f2d]
  exact rd_nn h
theorem i2f_nn (x : Int32) : FP.Core.val32 (FP.i2f x) ≠ .nan := by
  show FP.Core.val32 (FP.Core.i2f x) ≠ _
  rw [FP.Core.val32_i2f]
  exact rd_nn (fun z => by cases z)
theorem i2f_F : ∀ k, k < 256 → fF (FP.i2f (nI k)) = true := by decide +kernel
theorem i2f_D : ∀ k, k < 256 → fF (FP.i2f (nI k - 128)) = true := by decide +kernel
theorem i2f_E : ∀ k, k < 511 → fF (FP.i2f (nI k - 255)) = true := by decide +kernel
theorem i2f_S : ∀ k, k < 256 → FP.fsub (FP.i2f (nI k)) 1124073472 = FP.i2f (nI k - 128) := by decide +kernel
theorem mul_1 : ∀ k, k < 256 → fF (FP.fmul 1068725436 (FP.i2f (nI k - 128))) = true := by decide +kernel
theorem mul_2 : ∀ k, k < 256 → fF (FP.fmul 1051734680 (FP.i2f (nI k - 128))) = true := by decide +kernel
theorem mul_3 : ∀ k, k < 256 → fF (FP.fmul 1060557214 (FP.i2f (nI k - 128))) = true := by decide +kernel
theorem mul_4 : ∀ k, k < 256 → fF (FP.fmul 1071829221 (FP.i2f (nI k - 128))) = true := by decide +kernel
theorem half_F : fF 1056964608 = true := by decide +kernel
theorem mixN_of {a b c : Nat} (ha : a < 256) (hb : b < 256) (hc : c < 256) : mixN (FP.i2f (nI a)) (FP.i2f (nI b - 128)) (FP.i2f (nI c - 128)) := by
  have A := i2f_F a ha
  have m1 := mul_1 c hc
  have m2 := mul_2 b hb
  have m3 := mul_3 c hc
  have m4 := mul_4 b hb
  have r1 := add_nn (fF_nn A) m1
  have g1 := sub_nn (fF_nn A) m2
  have g2 := sub_nn g1 m3
  have b1 := add_nn (fF_nn A) m4
  exact ⟨⟨nn32 (fF_nn m1), nn32 r1, nn32 (add_nn r1 half_F)⟩, ⟨nn32 (fF_nn m2), nn32 g1, nn32 (fF_nn m3), nn32 g2, nn32 (add_nn g2 half_F)⟩, ⟨nn32 (fF_nn m4), nn32 b1, nn32 (add_nn b1 half_F)⟩⟩
theorem den_F : ∀ W, W < 5 → ∀ H, H < 4 → 0 < W → 0 < H → ∃ t d r, FP.Core.val32 (FP.i2f (nI (16 * W * (16 * H)))) = .fin t d r ∧ d ≠ 0 := by
  have key : ∀ W, W < 5 → ∀ H, H < 4 → 0 < W → 0 < H → (match FP.Core.val32 (FP.i2f (nI (16 * W * (16 * H)))) with | .fin _ d _ => decide (d ≠ 0) | _ => false) = true := by decide +kernel
  intro W hW H hH h1 h2
  have := key W hW H hH h1 h2
  cases hv : FP.Core.val32 (FP.i2f (nI (16 * W * (16 * H)))) with
  | nan => rw [hv] at this; cases this
  | inf s => rw [hv] at this; cases this
  | fin s c q => rw [hv] at this; exact ⟨s, c, q, rfl, by simpa using this⟩
theorem dif_b8 {u v : Int32} (hu : b8 u) (hv : b8 v) : ∃ k : Nat, k < 511 ∧ u - v = nI k - 255 := by
  obtain ⟨a, ha, rfl⟩ := hu
  obtain ⟨b, hb, rfl⟩ := hv
  refine ⟨255 + a - b, by omega, ?_⟩
  have e : nI (255 + a - b) = nI 255 + nI a - nI b := by rw [nI_add, pk_sub (by omega)]
  rw [e]
  show _ = nI 255 + nI a - nI b - nI 255
  generalize nI a = x
  generalize nI b = y
  generalize nI 255 = z
  apply Int32.toBitVec_inj.mp
  simp only [Int32.toBitVec_sub, Int32.toBitVec_add]
  generalize x.toBitVec = x
  generalize y.toBitVec = y
  generalize z.toBitVec = z
  bv_omega
theorem msq_P {g h : Nat → Int32} : ∀ n, (∀ j, j < n → fF (FP.i2f (g j - h j)) = true) → fP (msq g h n)
  | 0, _ => Or.inr ⟨0, FP.Core.b32.qmin, FP.Core.val32_zero⟩
  | n + 1, hh => add_pos (msq_P n (fun j hj => hh j (by omega))) (sq_pos (hh n (by omega)))
theorem cmL_ok {a c : UInt32} (hc : fF c = true) (h : ¬ cmL a c < 0) : FP.Core.val32 a ≠ .nan ∧ FP.Core.val32 a ≠ .inf true := by
  obtain ⟨t, d, r, e2⟩ := fF_of hc
  refine ⟨fun q => h ?_, fun q => h ?_⟩
  · have : FP.fcmp a c = none := by show FP.Core.order (FP.Core.val32 a) (FP.Core.val32 c) = _; rw [q, e2]; rfl
    unfold cmL
    rw [this]
    decide
  · have : FP.fcmp a c = some .lt := by show FP.Core.order (FP.Core.val32 a) (FP.Core.val32 c) = _; rw [q, e2]; rfl
    unfold cmL
    rw [this]
    decide
theorem cmG_ok {a c : UInt32} (hc : fF c = true) (h : ¬ 0 < cmG a c) : FP.Core.val32 a ≠ .inf false := by
  obtain ⟨t, d, r, e2⟩ := fF_of hc
  refine fun q => h ?_
  have : FP.fcmp a c = some .gt := by show FP.Core.order (FP.Core.val32 a) (FP.Core.val32 c) = _; rw [q, e2]; rfl
  unfold cmG
  rw [this]
  decide
theorem gud_F {ga ofs : UInt32} (h : gud ga ofs = 1) : fF ga = true ∧ fF ofs = true := by
  unfold gud at h
  by_cases h1 : cmL ga 3296329728 < 0
  · rw [if_pos h1] at h; exact absurd h (by decide)
  rw [if_neg h1] at h
  by_cases h2 : 0 < cmG ga 1148846080
  · rw [if_pos h2] at h; exact absurd h (by decide)
  rw [if_neg h2] at h
  by_cases h3 : cmL ofs 3351465984 < 0
  · rw [if_pos h3] at h; exact absurd h (by decide)
  rw [if_neg h3] at h
  by_cases h4 : 0 < cmG ofs 1203982336
  · rw [if_pos h4] at h; exact absurd h (by decide)
  have a1 := cmL_ok (by decide +kernel) h1
  have a2 := cmG_ok (by decide +kernel) h2
  have a3 := cmL_ok (by decide +kernel) h3
  have a4 := cmG_ok (by decide +kernel) h4
  constructor
  · unfold fF
    cases hv : FP.Core.val32 ga with
    | nan => exact absurd hv a1.1
    | inf s => cases s with
      | true => exact absurd hv a1.2
      | false => exact absurd hv a2
    | fin s c q => rfl
  · unfold fF
    cases hv : FP.Core.val32 ofs with
    | nan => exact absurd hv a3.1
    | inf s => cases s with
      | true => exact absurd hv a3.2
      | false => exact absurd hv a4
    | fin s c q => rfl
