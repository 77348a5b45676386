/-! ===== what the class throws and what the reference says it throws ===== -/
theorem ile (a b : Int32) : a ≤ b ↔ ¬ b < a := by
  rw [Int32.le_iff_toInt_le, Int32.lt_iff_toInt_lt]; omega
theorem wi0 {v lo hi : Int32} : wi v lo hi = 0 ↔ v < lo ∨ hi < v := by
  unfold wi
  by_cases h1 : v < lo <;> by_cases h2 : hi < v <;> simp [h1, h2]
theorem wi_ok {v lo hi : Int32} (h : ¬ wi v lo hi = 0) : lo ≤ v ∧ v ≤ hi := by
  rw [wi0] at h
  exact ⟨(ile _ _).mpr (fun q => h (Or.inl q)), (ile _ _).mpr (fun q => h (Or.inr q))⟩
/-- a number between two small ones, as a natural -/
theorem i_nat {v : Int32} {n : Nat} (hn : n < 2147483648) (h0 : 0 ≤ v) (h1 : v ≤ nI n) : ∃ k : Nat, k ≤ n ∧ v = nI k := by
  have hb := i32b v
  rw [Int32.le_iff_toInt_le] at h0 h1
  rw [nI_toInt hn] at h1
  have h0' : (0 : Int) ≤ v.toInt := h0
  refine ⟨v.toInt.toNat, by omega, ?_⟩
  apply Int32.toInt_inj.mp
  rw [nI_toInt (by omega)]
  omega
theorem wi_nat {v : Int32} {n : Nat} (hn : n < 2147483648) (h : ¬ wi v 0 (nI n) = 0) : ∃ k : Nat, k ≤ n ∧ v = nI k := i_nat hn (wi_ok h).1 (wi_ok h).2
theorem wi_nat1 {v : Int32} {n : Nat} (hn : n < 2147483648) (h : ¬ wi v 1 (nI n) = 0) : ∃ k : Nat, 1 ≤ k ∧ k ≤ n ∧ v = nI k := by
  obtain ⟨h1, h2⟩ := wi_ok h
  have h0 : (0 : Int32) ≤ v := by
    rw [Int32.le_iff_toInt_le] at h1 ⊢
    have e1 : (1 : Int32).toInt = 1 := by decide
    have e0 : (0 : Int32).toInt = 0 := by decide
    omega
  obtain ⟨k, hk, e⟩ := i_nat hn h0 h2
  refine ⟨k, ?_, hk, e⟩
  rcases Nat.eq_zero_or_pos k with q | q
  · subst q
    rw [e] at h1
    exact absurd h1 (by decide)
  · exact q
theorem uSize_t (w h : Int32) : uSize w h = tSize w h := by
  simp only [uSize, tSize, wi0, ile h 3]
  by_cases h1 : w < 1 <;> by_cases h2 : 4 < w <;> by_cases h3 : h < 1 <;> by_cases h4 : 3 < h <;> simp [h1, h2, h3, h4]
theorem uMatrix_t (a i v : Int32) : uMatrix a i v = tMatrix a i v := by
  simp only [uMatrix, tMatrix, wi0, ile v 255]
  by_cases h1 : a < 0 <;> by_cases h2 : 1 < a <;> by_cases h3 : i < 0 <;> by_cases h4 : 63 < i <;> by_cases h5 : v < 1 <;> by_cases h6 : 255 < v <;> simp [h1, h2, h3, h4, h5, h6]
theorem kd_le {kd : Int32} (h : kd = 0 ∨ kd = 1 ∨ kd = 2 ∨ kd = 3) : kd ≤ 0 ↔ kd = 0 := by
  rcases h with rfl | rfl | rfl | rfl <;> decide
theorem uBegin_t {kd : Int32} (hk : kd = 0 ∨ kd = 1 ∨ kd = 2 ∨ kd = 3) (k f b : Int32) : uBegin kd k f b = tBegin kd k f b := by
  simp only [uBegin, tBegin, wi0, ile b 16, kd_le hk]
  by_cases h1 : k < 1 <;> by_cases h2 : 3 < k <;> by_cases h3 : f < 1 <;> by_cases h4 : 16 < f <;> by_cases h5 : b < 1 <;> by_cases h6 : 16 < b <;> simp [h1, h2, h3, h4, h5, h6]
theorem uScale_t (kd q : Int32) : uScale kd q = tScale kd q := by
  simp only [uScale, tScale, wi0, ile q 31]
  by_cases h1 : q < 1 <;> by_cases h2 : 31 < q <;> simp [h1, h2]
theorem WH12 {W H : Nat} (h2 : W ≤ 4) (h4 : H ≤ 3) : W * H ≤ 12 := Nat.mul_le_mul h2 h4
theorem sql_n {kd : Int32} {W H md : Nat} (hk : ¬ kd = 0) (hm : md ≤ W * H) : sql kd W H md = nI (W * H - md) := by
  unfold sql
  rw [if_neg hk, pk_mul, pk_sub hm]
theorem sql_isf {kd : Int32} {W H md : Nat} (h2 : W ≤ 4) (h4 : H ≤ 3) (hm : md ≤ W * H) : (sql kd W H md = 0 ↔ isf kd W H md = 1) ∧ (¬ sql kd W H md = 0 ↔ isf kd W H md = 0) := by
  have h12 := WH12 h2 h4
  by_cases hk : kd = 0
  · subst hk
    simp [sql, isf]
  · have e1 : isf kd W H md = if md = W * H then 1 else 0 := by
      unfold isf
      rw [if_neg hk, pk_mul]
      by_cases q : md = W * H
      · rw [if_pos (by rw [q]), if_pos q]
      · rw [if_neg (fun z => q ((nI_eq (by omega) (by omega)).mp z)), if_neg q]
    rw [sql_n hk hm, e1]
    by_cases q : md = W * H
    · rw [if_pos q, q, Nat.sub_self]
      simp [nI_0]
    · rw [if_neg q]
      have := nI_ne0 (n := W * H - md) (by omega) (by omega)
      simp [this]
theorem sql_0 {kd : Int32} {W H md : Nat} (h2 : W ≤ 4) (h4 : H ≤ 3) (hm : md ≤ W * H) : sql kd W H md = 0 ↔ (kd = 0 ∨ md = W * H) := by
  have h12 := WH12 h2 h4
  by_cases hk : kd = 0
  · simp [sql, hk]
  · rw [sql_n hk hm]
    constructor
    · intro h
      rcases Nat.lt_or_ge md (W * H) with q | q
      · exact absurd h (nI_ne0 (by omega) (by omega))
      · exact Or.inr (by omega)
    · rintro (q | q)
      · exact absurd q hk
      · rw [q, Nat.sub_self]; rfl
theorem uItself_t {kd d0 d1 : Int32} {W H md : Nat} (h2 : W ≤ 4) (h4 : H ≤ 3) (hm : md ≤ W * H) (e0 : d0 = 0 ∨ d0 = 1) (e1 : d1 = 0 ∨ d1 = 1) : (tItself (isf kd W H md) d0 d1 = 0 ∧ uItself (sql kd W H md) (d0 + 2 * d1) = 0) ∨ (tItself (isf kd W H md) d0 d1 = 1 ∧ uItself (sql kd W H md) (d0 + 2 * d1) = 2) := by
  obtain ⟨q1, q2⟩ := sql_isf (kd := kd) h2 h4 hm
  by_cases h : sql kd W H md = 0
  · rw [q1.mp h, h]
    exact Or.inr ⟨by simp [tItself], by simp [uItself]⟩
  · rw [q2.mp h]
    rcases e0 with rfl | rfl <;> rcases e1 with rfl | rfl <;> simp [tItself, uItself, h]
theorem uLevel_t {kd b i v : Int32} {W H md : Nat} (h2 : W ≤ 4) (h4 : H ≤ 3) (hm : md ≤ W * H) : uLevel b i v (sql kd W H md) = tLevel (isf kd W H md) b i v := by
  obtain ⟨q1, q2⟩ := sql_isf (kd := kd) h2 h4 hm
  simp only [uLevel, tLevel, wi0, ile v 255]
  by_cases h : sql kd W H md = 0
  · rw [q1.mp h, h]
    by_cases h1 : b < 0 <;> by_cases h2 : 5 < b <;> by_cases h3 : i < 0 <;> by_cases h4 : 63 < i <;> by_cases h5 : v < (-255) <;> by_cases h6 : 255 < v <;> simp [h1, h2, h3, h4, h5, h6]
  · rw [q2.mp h]
    by_cases h1 : b < 0 <;> by_cases h2 : 5 < b <;> by_cases h3 : i < 0 <;> by_cases h4 : 63 < i <;> by_cases h5 : v < (-255) <;> by_cases h6 : 255 < v <;> simp [h1, h2, h3, h4, h5, h6, h]
theorem uVec_t {kd ow dx dy : Int32} {W H md k r : Nat} (h2 : W ≤ 4) (h4 : H ≤ 3) (hm : md ≤ W * H) (hk : kd = 0 ∨ kd = 1 ∨ kd = 2 ∨ kd = 3) (ho : ow = 0 ∨ ow = 1) (hk2 : k < 2) : uVec (wi dx (-(16 * nI r)) (16 * nI r)) (wi dy (-(16 * nI r)) (16 * nI r)) (sql kd W H md) ow (khs kd (nI k)) = tVec kd (isf kd W H md) ow (nI r) (nI k) dx dy := by
  obtain ⟨q1, q2⟩ := sql_isf (kd := kd) h2 h4 hm
  have z : ∀ kk : Int32, (kk = 0 ∨ kk = 1) → uVec (wi dx (-(16 * nI r)) (16 * nI r)) (wi dy (-(16 * nI r)) (16 * nI r)) (sql kd W H md) ow (khs kd kk) = tVec kd (isf kd W H md) ow (nI r) kk dx dy := by
    intro kk hkk
    simp only [uVec, tVec, wi0, ile dy (16 * nI r)]
    by_cases h : sql kd W H md = 0
    · rw [q1.mp h, h]
      by_cases h1 : dx < -(16 * nI r) <;> by_cases h2 : 16 * nI r < dx <;> by_cases h3 : dy < -(16 * nI r) <;> by_cases h4 : 16 * nI r < dy <;> simp [h1, h2, h3, h4]
    · rw [q2.mp h]
      have h0 : ¬ kd = 0 := fun e => h (by simp [sql, e])
      by_cases h1 : dx < -(16 * nI r) <;> by_cases h2 : 16 * nI r < dx <;> by_cases h3 : dy < -(16 * nI r) <;> by_cases h4 : 16 * nI r < dy <;> simp only [h1, h2, h3, h4, or_true, true_or, or_self, if_true, if_false, h, not_true, not_false_eq_true]
      rcases hk with rfl | rfl | rfl | rfl
      · exact absurd rfl h0
      all_goals (rcases ho with rfl | rfl <;> rcases hkk with rfl | rfl <;> decide)
  exact z _ (by
    match k, hk2 with
    | 0, _ => exact Or.inl rfl
    | 1, _ => exact Or.inr rfl)
theorem uLeave_t {n kd fb tl bf bo b0 b1 : Int32} {W H md : Nat} (hk : kd = 0 ∨ kd = 1 ∨ kd = 2 ∨ kd = 3) (hB : rBef kd fb bf bo b0 b1) : uLeave n (sql kd W H md) (mlo kd tl fb) = tLeave n (sql kd W H md) kd tl (ntl kd bf bo) := by
  simp only [uLeave, tLeave, wi0, ile n (sql kd W H md)]
  by_cases h1 : n < 1 <;> by_cases h2 : sql kd W H md < n <;> simp only [h1, h2, or_true, true_or, or_self, if_true, if_false, not_true, not_false_eq_true]
  by_cases ht : tl = 0
  · subst ht
    rcases hk with rfl | rfl | rfl | rfl
    · simp [mlo]
    · simp [mlo]
    · simp [mlo, ntl]
    · rcases hB rfl with ⟨rfl, rfl⟩ | ⟨rfl, rfl, rfl⟩ | ⟨rfl, rfl, ⟨-, -, rfl⟩ | ⟨-, -, rfl⟩ | ⟨-, -, rfl⟩⟩ <;> simp [mlo, ntl]
  · simp [mlo, ht]
theorem uDone_t {kd : Int32} {W H md : Nat} (h2 : W ≤ 4) (h4 : H ≤ 3) (hm : md ≤ W * H) : (tDone kd W H md = 0 ∧ uDone kd (sql kd W H md) = 0 ∧ md = W * H) ∨ (tDone kd W H md = 1 ∧ uDone kd (sql kd W H md) = 2) := by
  have h12 := WH12 h2 h4
  by_cases hk : kd = 0
  · simp [tDone, uDone, hk]
  · rw [sql_n hk hm]
    unfold tDone uDone
    rw [if_neg hk, if_neg hk, pk_mul]
    by_cases q : md = W * H
    · rw [if_pos (by rw [q]; exact (nI_leI (by omega) (by omega)).mpr (Nat.le_refl _)), if_pos (by rw [q, Nat.sub_self]; rfl)]
      exact Or.inl ⟨rfl, rfl, q⟩
    · rw [if_neg (fun z => q (by have := (nI_leI (by omega) (by omega)).mp z; omega)), if_neg (nI_ne0 (by omega) (by omega))]
      exact Or.inr ⟨rfl, rfl⟩
theorem uLast_t {kd : Int32} (hk : kd = 0 ∨ kd = 1 ∨ kd = 2 ∨ kd = 3) : (tLast kd = 0 ∧ uLast kd = 0 ∧ kd = 0) ∨ (tLast kd = 1 ∧ uLast kd = 2) := by
  rcases hk with rfl | rfl | rfl | rfl <;> decide
theorem uSq_t {kd ow d0 d1 : Int32} {W H md : Nat} (h2 : W ≤ 4) (h4 : H ≤ 3) (hm : md ≤ W * H) (hk : kd = 0 ∨ kd = 1 ∨ kd = 2 ∨ kd = 3) (ho : ow = 0 ∨ ow = 1) (e0 : d0 = 0 ∨ d0 = 1) (e1 : d1 = 0 ∨ d1 = 1) :
    (isf kd W H md = 0 ∧ md < W * H ∧ ¬ kd = 0 ∧ uSquare (sql kd W H md) (ent kd ow (d0 + 2 * d1)) = 0 ∧ (ow = 1 ∨ kd = 2 ∨ (kd = 3 ∧ (d0 = 1 ∨ d1 = 1)))) ∨ (tSq (isf kd W H md) kd ow (vtl d0 d1) = 1 ∧ uSquare (sql kd W H md) (ent kd ow (d0 + 2 * d1)) = 2) := by
  obtain ⟨q1, q2⟩ := sql_isf (kd := kd) h2 h4 hm
  by_cases h : sql kd W H md = 0
  · rw [q1.mp h, h]
    exact Or.inr ⟨by simp [tSq], by simp [uSquare]⟩
  · have hne := mt (sql_0 (kd := kd) h2 h4 hm).mpr h
    rw [q2.mp h]
    have hkd : ¬ kd = 0 := fun q => hne (Or.inl q)
    have hlt : md < W * H := by
      rcases Nat.lt_or_ge md (W * H) with q | q
      · exact q
      · exact absurd (Or.inr (by omega)) hne
    have eu : ∀ en : Int32, uSquare (sql kd W H md) en = if en = 0 then 2 else 0 := fun en => by unfold uSquare; rw [if_neg h]
    rw [eu]
    rcases hk with rfl | rfl | rfl | rfl
    · exact absurd rfl hkd
    · rcases ho with rfl | rfl
      · exact Or.inr ⟨by simp [tSq], by simp [ent]⟩
      · exact Or.inl ⟨rfl, hlt, hkd, by simp [ent], Or.inl rfl⟩
    · exact Or.inl ⟨rfl, hlt, hkd, by rcases ho with rfl | rfl <;> simp [ent], Or.inr (Or.inl rfl)⟩
    · rcases ho with rfl | rfl
      · rcases e0 with rfl | rfl <;> rcases e1 with rfl | rfl
        · exact Or.inr ⟨by decide, by decide⟩
        · exact Or.inl ⟨rfl, hlt, hkd, by decide, Or.inr (Or.inr ⟨rfl, Or.inr rfl⟩)⟩
        · exact Or.inl ⟨rfl, hlt, hkd, by decide, Or.inr (Or.inr ⟨rfl, Or.inl rfl⟩)⟩
        · exact Or.inl ⟨rfl, hlt, hkd, by decide, Or.inr (Or.inr ⟨rfl, Or.inl rfl⟩)⟩
      · exact Or.inl ⟨rfl, hlt, hkd, by simp [ent], Or.inl rfl⟩
theorem cnt_0 {N : Nat} {sc is : Int32} (hN : N < 1000000) (h : rCnt N sc is) : (sc = 0 ∧ is = 0) ∨ (¬ sc = 0 ∧ is = 1) := by
  obtain ⟨n, h1, rfl, h3⟩ := h
  by_cases q : n = 0
  · subst q
    rw [if_pos rfl] at h3
    exact Or.inl ⟨rfl, h3⟩
  · rw [if_neg q] at h3
    exact Or.inr ⟨nI_ne0 (by omega) (by omega), h3⟩
theorem cnt_1 {N : Nat} {sc is : Int32} (h : rCnt N sc is) : rCnt (N + 1) sc is := by
  obtain ⟨n, h1, h2, h3⟩ := h
  exact ⟨n, by omega, h2, h3⟩
theorem cnt_s {N : Nat} {sc is : Int32} (h : rCnt N sc is) : rCnt (N + 1) (sc + 1) 1 := by
  obtain ⟨n, h1, h2, h3⟩ := h
  exact ⟨n + 1, by omega, by rw [h2, nI_1], by rw [if_neg (by omega)]⟩
theorem gud_t (ga ofs : UInt32) (sc : Int32) : (gud ga ofs = 0 ∧ uLight ga ofs sc = 1) ∨ (gud ga ofs = 1 ∧ uLight ga ofs sc = if sc = 0 then 2 else 0) := by
  unfold gud uLight
  show (if Op.cmpValue (FP.fcmp ga 3296329728) .l < 0 then (0 : Int32) else if 0 < Op.cmpValue (FP.fcmp ga 1148846080) .g then 0 else if Op.cmpValue (FP.fcmp ofs 3351465984) .l < 0 then 0 else if 0 < Op.cmpValue (FP.fcmp ofs 1203982336) .g then 0 else 1) = 0 ∧ _ ∨ (if Op.cmpValue (FP.fcmp ga 3296329728) .l < 0 then (0 : Int32) else if 0 < Op.cmpValue (FP.fcmp ga 1148846080) .g then 0 else if Op.cmpValue (FP.fcmp ofs 3351465984) .l < 0 then 0 else if 0 < Op.cmpValue (FP.fcmp ofs 1203982336) .g then 0 else 1) = 1 ∧ _
  by_cases h1 : Op.cmpValue (FP.fcmp ga 3296329728) .l < 0
  · exact Or.inl ⟨by rw [if_pos h1], by rw [if_pos h1]⟩
  by_cases h2 : 0 < Op.cmpValue (FP.fcmp ga 1148846080) .g
  · exact Or.inl ⟨by rw [if_neg h1, if_pos h2], by rw [if_neg h1, if_pos h2]⟩
  by_cases h3 : Op.cmpValue (FP.fcmp ofs 3351465984) .l < 0
  · exact Or.inl ⟨by rw [if_neg h1, if_neg h2, if_pos h3], by rw [if_neg h1, if_neg h2, if_pos h3]⟩
  by_cases h4 : 0 < Op.cmpValue (FP.fcmp ofs 1203982336) .g
  · exact Or.inl ⟨by rw [if_neg h1, if_neg h2, if_neg h3, if_pos h4], by rw [if_neg h1, if_neg h2, if_neg h3, if_pos h4]⟩
  · exact Or.inr ⟨by rw [if_neg h1, if_neg h2, if_neg h3, if_neg h4], by rw [if_neg h1, if_neg h2, if_neg h3, if_neg h4]⟩
theorem nI_m1 {a : Nat} (h : 1 ≤ a) : nI a - 1 = nI (a - 1) := pk_sub (b := 1) h
theorem hld_t {x y : Int32} {p W H sd : Nat} (hs : wdt p W = sd * W ∧ wdt p H = sd * H) (h1 : 1 ≤ sd * W) (h2 : sd * W ≤ 64) (h3 : 1 ≤ sd * H) (h4 : sd * H ≤ 64) : (the x y p W H = 0 ∧ hld x y (sd * W) (sd * H) = 0) ∨ (the x y p W H = 1 ∧ ¬ hld x y (sd * W) (sd * H) = 0 ∧ ∃ x9 y9 : Nat, x9 < sd * W ∧ y9 < sd * H ∧ x = nI x9 ∧ y = nI y9) := by
  unfold the hld
  rw [hs.1, hs.2]
  have key : ∀ (v : Int32) (n : Nat), 1 ≤ n → n ≤ 64 → (wi v 0 (nI n - 1) = 0 ↔ (v < 0 ∨ nI n ≤ v)) ∧ (¬ wi v 0 (nI n - 1) = 0 → ∃ k : Nat, k < n ∧ v = nI k) := by
    intro v n hn hn2
    rw [nI_m1 hn]
    refine ⟨?_, fun h => ?_⟩
    · rw [wi0, Int32.lt_iff_toInt_lt, Int32.lt_iff_toInt_lt, Int32.le_iff_toInt_le, nI_toInt (by omega), nI_toInt (by omega)]
      omega
    · obtain ⟨k, hk, e⟩ := wi_nat (by omega) h
      exact ⟨k, by omega, e⟩
  obtain ⟨a1, a2⟩ := key x (sd * W) h1 h2
  obtain ⟨b1, b2⟩ := key y (sd * H) h3 h4
  by_cases hx : wi x 0 (nI (sd * W) - 1) = 0
  · left
    refine ⟨?_, by rw [if_pos hx]⟩
    rcases a1.mp hx with q | q
    · rw [if_pos q]
    · by_cases c1 : x < 0
      · rw [if_pos c1]
      · by_cases c2 : y < 0
        · rw [if_neg c1, if_pos c2]
        · rw [if_neg c1, if_neg c2, if_pos q]
  · have nx := mt a1.mpr hx
    have x1 : ¬ x < 0 := fun q => nx (Or.inl q)
    have x2 : ¬ nI (sd * W) ≤ x := fun q => nx (Or.inr q)
    by_cases hy : wi y 0 (nI (sd * H) - 1) = 0
    · left
      refine ⟨?_, by rw [if_neg hx, if_pos hy]⟩
      rcases b1.mp hy with q | q
      · rw [if_neg x1, if_pos q]
      · by_cases c2 : y < 0
        · rw [if_neg x1, if_pos c2]
        · rw [if_neg x1, if_neg c2, if_neg x2, if_pos q]
    · right
      have ny := mt b1.mpr hy
      obtain ⟨k1, e1, e2⟩ := a2 hx
      obtain ⟨k2, e3, e4⟩ := b2 hy
      refine ⟨by rw [if_neg x1, if_neg (fun q => ny (Or.inl q)), if_neg x2, if_neg (fun q => ny (Or.inr q))], by rw [if_neg hx, if_neg hy]; decide, k1, k2, e1, e3, e2, e4⟩
