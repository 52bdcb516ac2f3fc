/-! THE TIE: a battery of the class and a row of the reference hold the same numbers -/
theorem a32 {a b : Int32} (h1 : -2147483648 ≤ a.toInt + b.toInt) (h2 : a.toInt + b.toInt < 2147483648) : (a + b).toInt = a.toInt + b.toInt := Jvm.Kit.i32_add (by omega) (by omega)
theorem s32 {a b : Int32} (h1 : -2147483648 ≤ a.toInt - b.toInt) (h2 : a.toInt - b.toInt < 2147483648) : (a - b).toInt = a.toInt - b.toInt := Jvm.Kit.i32_sub (by omega) (by omega)
theorem m32 {a b : Int32} (h1 : -2147483648 ≤ a.toInt * b.toInt) (h2 : a.toInt * b.toInt < 2147483648) : (a * b).toInt = a.toInt * b.toInt := Jvm.Kit.i32_mul (by omega) (by omega)
theorem d32 {a b : Int32} (h1 : 0 ≤ a.toInt) (h2 : 0 < b.toInt) : (a / b).toInt = a.toInt / b.toInt := by
  rw [Jvm.Kit.i32_div (by omega), Int.tdiv_eq_ediv_of_nonneg h1]
theorem a64 {a b : Int64} (h1 : -9223372036854775808 ≤ a.toInt + b.toInt) (h2 : a.toInt + b.toInt < 9223372036854775808) : (a + b).toInt = a.toInt + b.toInt := Jvm.Kit.i64_add (by omega) (by omega)
theorem s64 {a b : Int64} (h1 : -9223372036854775808 ≤ a.toInt - b.toInt) (h2 : a.toInt - b.toInt < 9223372036854775808) : (a - b).toInt = a.toInt - b.toInt := Jvm.Kit.i64_sub (by omega) (by omega)
theorem m64 {a b : Int64} (h1 : -9223372036854775808 ≤ a.toInt * b.toInt) (h2 : a.toInt * b.toInt < 9223372036854775808) : (a * b).toInt = a.toInt * b.toInt := Jvm.Kit.i64_mul (by omega) (by omega)
theorem d64 {a b : Int64} (h1 : 0 ≤ a.toInt) (h2 : 0 < b.toInt) : (a / b).toInt = a.toInt / b.toInt := by
  rw [Jvm.Kit.i64_div (by omega), Int.tdiv_eq_ediv_of_nonneg h1]
theorem l32 {a : Int64} (h1 : -2147483648 ≤ a.toInt) (h2 : a.toInt < 2147483648) : a.toInt32.toInt = a.toInt := Jvm.Kit.i32_of_i64 (by omega) (by omega)
theorem w64 (a : Int32) : a.toInt64.toInt = a.toInt := Int32.toInt_toInt64 a
theorem t32_lt {a b : Int32} : a < b ↔ a.toInt < b.toInt := Int32.lt_iff_toInt_lt
theorem t32_le {a b : Int32} : a ≤ b ↔ a.toInt ≤ b.toInt := Int32.le_iff_toInt_le
theorem t32_eq {a b : Int32} : a = b ↔ a.toInt = b.toInt := Int32.toInt_inj.symm
theorem t64_lt {a b : Int64} : a < b ↔ a.toInt < b.toInt := Int64.lt_iff_toInt_lt
theorem t64_le {a b : Int64} : a ≤ b ↔ a.toInt ≤ b.toInt := Int64.le_iff_toInt_le
theorem t64_eq {a b : Int64} : a = b ↔ a.toInt = b.toInt := Int64.toInt_inj.symm
theorem if32 {p : Prop} [Decidable p] {a b : Int32} : (if p then a else b).toInt = if p then a.toInt else b.toInt := by by_cases h : p <;> simp only [h, if_true, if_false]
theorem if64 {p : Prop} [Decidable p] {a b : Int64} : (if p then a else b).toInt = if p then a.toInt else b.toInt := by by_cases h : p <;> simp only [h, if_true, if_false]
/-- the row holds the battery's numbers -/
def RB (B : Bat) (W : Nat → Int64) : Prop :=
  ((W 0).toInt = (B.1 0).toInt ∧ (W 1).toInt = (B.1 1).toInt ∧ (W 2).toInt = (B.1 2).toInt ∧ (W 3).toInt = (B.1 3).toInt ∧ (W 4).toInt = (B.1 12).toInt ∧ (W 5).toInt = (B.1 6).toInt ∧ (W 6).toInt = (B.1 7).toInt ∧ (W 7).toInt = (B.1 11).toInt ∧ (W 8).toInt = (B.1 8).toInt ∧ (W 9).toInt = (B.1 9).toInt ∧ (W 10).toInt = (B.1 10).toInt ∧ (W 11).toInt = (B.1 4).toInt ∧ (W 12).toInt = (B.1 5).toInt) ∧
  (∀ k, k < 11 → (W (13 + k)).toInt = (B.2.1 k).toInt) ∧ (∀ k, k < 22 → (W (24 + k)).toInt = (B.2.2.2 k).toInt) ∧ (∀ k, k < 22 → W (46 + k) = B.2.2.1 k)
/-- the battery's numbers lie where they can, behind c orders at most -/
def IB (B : Bat) (c : Nat) : Prop :=
  (0 ≤ (B.1 0).toInt ∧ (B.1 0).toInt ≤ (B.1 1).toInt ∧ (B.1 1).toInt ≤ (B.1 3).toInt ∧ (B.1 3).toInt ≤ 99999 ∧ 0 ≤ (B.1 2).toInt ∧ (B.1 2).toInt ≤ (B.1 3).toInt) ∧
  (0 ≤ (B.1 4).toInt ∧ (B.1 4).toInt ≤ 9 ∧ 0 ≤ (B.1 5).toInt ∧ (B.1 5).toInt ≤ 500) ∧
  (-(98901 * (c : Int)) ≤ (B.1 6).toInt ∧ (B.1 6).toInt ≤ 98901 * (c : Int) ∧ 0 ≤ (B.1 7).toInt ∧ (B.1 7).toInt ≤ 999 * (c : Int)) ∧
  (0 ≤ (B.1 8).toInt ∧ (B.1 8).toInt ≤ c ∧ 0 ≤ (B.1 11).toInt ∧ (B.1 11).toInt ≤ 2 * (c : Int) ∧ 0 ≤ (B.1 12).toInt ∧ (B.1 12).toInt ≤ 100) ∧
  (-10000001 ≤ (B.1 9).toInt ∧ (B.1 9).toInt ≤ 1000 ∧ -10000001 ≤ (B.1 10).toInt ∧ (B.1 10).toInt ≤ 1000 ∧ (0 < (B.1 8).toInt → 0 ≤ (B.1 9).toInt ∧ 0 ≤ (B.1 10).toInt)) ∧
  ((∀ k, k < 11 → 0 ≤ (B.2.1 k).toInt ∧ (B.2.1 k).toInt ≤ 9999) ∧ (∀ k, k < 10 → (B.2.1 k).toInt < (B.2.1 (k + 1)).toInt)) ∧
  (∀ k, k < 22 → 0 ≤ (B.2.2.2 k).toInt ∧ (B.2.2.2 k).toInt ≤ c ∧ -(999900 * (B.2.2.2 k).toInt) ≤ (B.2.2.1 k).toInt ∧ (B.2.2.1 k).toInt ≤ 999900 * (B.2.2.2 k).toInt)
/-- MIDDLE -/
def midI (L H C D : Int) : Int := if C + D = 0 then 0 else if 1000 * (L + H) / (C + D) ≤ 1000 then 1000 * (L + H) / (C + D) else 1000
theorem midI_in {L H C D : Int} (h1 : 0 ≤ L) (h2 : L ≤ H) (h3 : 0 ≤ C + D) : 0 ≤ midI L H C D ∧ midI L H C D ≤ 1000 := by
  unfold midI
  by_cases c : C + D = 0
  · rw [if_pos c]; decide
  · rw [if_neg c]
    have h4 : 0 ≤ 1000 * (L + H) / (C + D) := Int.ediv_nonneg (by omega) (by omega)
    by_cases c2 : 1000 * (L + H) / (C + D) ≤ 1000
    · rw [if_pos c2]; omega
    · rw [if_neg c2]; decide
theorem ediv_le {a b M : Int} (h1 : 0 ≤ a) (h2 : 0 < b) (h3 : a ≤ M) : a / b ≤ M := Int.le_trans (Int.ediv_le_self b h1) h3
theorem mid_c {B : Bat} {c : Nat} (h : IB B c) : (fX1_middle B).toInt = midI (B.1 0).toInt (B.1 1).toInt (B.1 2).toInt (B.1 3).toInt := by
  obtain ⟨⟨g1, g2, g3, g4, g5, g6⟩, -⟩ := h
  have e1 : ((B.1 2) + (B.1 3)).toInt = (B.1 2).toInt + (B.1 3).toInt := a32 (by omega) (by omega)
  have e2 : ((B.1 0) + (B.1 1)).toInt = (B.1 0).toInt + (B.1 1).toInt := a32 (by omega) (by omega)
  have e3 : (1000 * ((B.1 0) + (B.1 1))).toInt = 1000 * ((B.1 0).toInt + (B.1 1).toInt) := by
    rw [m32 (by simp only [Int32.reduceToInt]; omega) (by simp only [Int32.reduceToInt]; omega), e2]; rfl
  unfold midI
  by_cases k : 0 < (B.1 2).toInt + (B.1 3).toInt
  · have e4 : ((1000 * ((B.1 0) + (B.1 1))) / ((B.1 2) + (B.1 3))).toInt = 1000 * ((B.1 0).toInt + (B.1 1).toInt) / ((B.1 2).toInt + (B.1 3).toInt) := by
      rw [d32 (by omega) (by omega), e3, e1]
    rw [if_neg (show ¬ (B.1 2).toInt + (B.1 3).toInt = 0 by omega)]
    unfold fX1_middle
    simp only []
    rw [if_pos (show 0 < (B.1 2) + (B.1 3) by rw [t32_lt, e1]; exact k), if32, e4]
    by_cases k2 : 1000 * ((B.1 0).toInt + (B.1 1).toInt) / ((B.1 2).toInt + (B.1 3).toInt) ≤ 1000
    · rw [if_pos k2, if_neg (show ¬ 1000 < (1000 * ((B.1 0) + (B.1 1))) / ((B.1 2) + (B.1 3)) by rw [t32_lt, e4]; simp only [Int32.reduceToInt]; omega)]
    · rw [if_neg k2, if_pos (show 1000 < (1000 * ((B.1 0) + (B.1 1))) / ((B.1 2) + (B.1 3)) by rw [t32_lt, e4]; simp only [Int32.reduceToInt]; omega)]
      rfl
  · rw [if_pos (show (B.1 2).toInt + (B.1 3).toInt = 0 by omega)]
    unfold fX1_middle
    simp only []
    rw [if_neg (show ¬ 0 < (B.1 2) + (B.1 3) by rw [t32_lt, e1]; exact k)]
    rfl
theorem mid_r {B : Bat} {W : Nat → Int64} {c : Nat} (h : IB B c) (r : RB B W) : (fX6_middle W).toInt = midI (B.1 0).toInt (B.1 1).toInt (B.1 2).toInt (B.1 3).toInt := by
  obtain ⟨⟨g1, g2, g3, g4, g5, g6⟩, -⟩ := h
  obtain ⟨⟨r0, r1, r2, r3, -⟩, -⟩ := r
  have e1 : ((W 2) + (W 3)).toInt = (B.1 2).toInt + (B.1 3).toInt := by rw [a64 (by omega) (by omega), r2, r3]
  have e2 : ((W 0) + (W 1)).toInt = (B.1 0).toInt + (B.1 1).toInt := by rw [a64 (by omega) (by omega), r0, r1]
  have e3 : (1000 * ((W 0) + (W 1))).toInt = 1000 * ((B.1 0).toInt + (B.1 1).toInt) := by
    rw [m64 (by simp only [Int64.reduceToInt]; omega) (by simp only [Int64.reduceToInt]; omega), e2]; rfl
  unfold fX6_middle midI
  simp only []
  by_cases k : (W 2) + (W 3) = 0
  · rw [if_pos k]
    rw [t64_eq, e1] at k
    simp only [Int64.reduceToInt] at k
    rw [if_pos k]; rfl
  · rw [if_neg k]
    rw [t64_eq, e1] at k
    simp only [Int64.reduceToInt] at k
    have e4 : ((1000 * ((W 0) + (W 1))) / ((W 2) + (W 3))).toInt = 1000 * ((B.1 0).toInt + (B.1 1).toInt) / ((B.1 2).toInt + (B.1 3).toInt) := by
      rw [d64 (by omega) (by omega), e3, e1]
    have h4 : 0 ≤ 1000 * ((B.1 0).toInt + (B.1 1).toInt) / ((B.1 2).toInt + (B.1 3).toInt) := Int.ediv_nonneg (by omega) (by omega)
    rw [if_neg k, if32]
    by_cases k2 : (1000 * ((W 0) + (W 1))) / ((W 2) + (W 3)) ≤ 1000
    · rw [if_pos k2]
      rw [t64_le, e4] at k2
      simp only [Int64.reduceToInt] at k2
      rw [if_pos k2, l32 (by omega) (by omega), e4]
    · rw [if_neg k2]
      rw [t64_le, e4] at k2
      simp only [Int64.reduceToInt] at k2
      rw [if_neg k2]; rfl
theorem mid_eq {B : Bat} {W : Nat → Int64} {c : Nat} (h : IB B c) (r : RB B W) : fX6_middle W = fX1_middle B := t32_eq.mpr ((mid_r h r).trans (mid_c h).symm)
theorem mid_in {B : Bat} {c : Nat} (h : IB B c) : 0 ≤ (fX1_middle B).toInt ∧ (fX1_middle B).toInt ≤ 1000 := by
  rw [mid_c h]
  obtain ⟨⟨g1, g2, g3, g4, g5, g6⟩, -⟩ := h
  exact midI_in g1 g2 (by omega)
