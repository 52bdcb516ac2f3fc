/-! REST -/
theorem wid {x : Int64} {y : Int32} (h : x.toInt = y.toInt) : x = y.toInt64 := t64_eq.mpr (by rw [w64, h])
/-- what holds in the midst of a rest -/
def IW (B : Bat) (c : Nat) (e : Int) : Prop :=
  (0 ≤ (B.1 0).toInt ∧ (B.1 0).toInt ≤ (B.1 1).toInt ∧ (B.1 1).toInt ≤ 99999 ∧ 0 ≤ (B.1 2).toInt ∧ (B.1 2).toInt ≤ (B.1 3).toInt ∧ (B.1 3).toInt ≤ 99999) ∧
  (0 ≤ (B.1 4).toInt ∧ (B.1 4).toInt ≤ 9 ∧ 0 ≤ (B.1 5).toInt ∧ (B.1 5).toInt ≤ 500) ∧
  (0 ≤ (B.1 8).toInt ∧ (B.1 8).toInt ≤ c ∧ 0 ≤ (B.1 11).toInt ∧ (B.1 11).toInt ≤ 2 * (c : Int) + e ∧ 0 ≤ (B.1 12).toInt ∧ (B.1 12).toInt ≤ 100) ∧
  PI (fun k => (B.2.1 k).toInt) ∧
  (∀ k, k < 22 → 0 ≤ (B.2.2.2 k).toInt ∧ (B.2.2.2 k).toInt ≤ c ∧ -(999900 * (B.2.2.2 k).toInt) ≤ (B.2.2.1 k).toInt ∧ (B.2.2.1 k).toInt ≤ 999900 * (B.2.2.2 k).toInt)
theorem IW_of {B : Bat} {c : Nat} (h : IB B c) : IW B c 1 := by
  obtain ⟨h1, h2, h3, h4, h5, h6, h7⟩ := h
  exact ⟨by omega, h2, by omega, h6, h7⟩
def lrW (W : Nat → Int64) (ra rb : Int64) : Nat → Int64 :=
  let x1 : Int64 := (W 5) - ((W 11) * (W 6))
  let x2 : Int64 := (W 5) + ((W 11) * (W 6))
  let x3 : Int64 := (W 10) - ra
  let x5 : Int64 := (if x1 ≤ 0 then (W 2) else (if x3 ≤ 0 then (W 2) else (let x6 : Int64 := (1000 * x1) / x3; (let x8 : Int64 := (if x6 ≤ (W 2) then (W 2) else x6); x8))))
  let x7 : Int64 := (W 9) - rb
  let x9 : Int64 := (if x2 ≤ 0 then (W 3) else (if x7 ≤ 0 then (W 3) else (let x10 : Int64 := (((1000 * x2) + x7) - 1) / x7; (let x12 : Int64 := (if (W 3) ≤ x10 then (W 3) else x10); x12))))
  (if x5 ≤ x9 then (vp_updL (vp_updL W 2 x5) 3 x9) else (let x12 : Int64 := (W 7) + 1; (vp_updL W 7 x12)))
theorem lrW_eq (M : Mdl) (ra rb : Int64) : fX6_learnsCapacity M ra rb = (M.1, M.2.1, lrW M.2.2.1 ra rb, M.2.2.2) := rfl
theorem mx_e {q x : Int64} : (if q < x then x else q) = (if q ≤ x then x else q) := by
  by_cases c : q < x
  · rw [if_pos c, if_pos (show q ≤ x by rw [t64_le]; rw [t64_lt] at c; omega)]
  · rw [if_neg c]
    by_cases d : q ≤ x
    · rw [if_pos d]; rw [t64_lt] at c; rw [t64_le] at d; exact t64_eq.mpr (by omega)
    · rw [if_neg d]
theorem mn_e {q x : Int64} : (if q < x then q else x) = (if x ≤ q then x else q) := by
  by_cases c : q < x
  · rw [if_pos c, if_neg (show ¬ x ≤ q by rw [t64_le]; rw [t64_lt] at c; omega)]
  · rw [if_neg c, if_pos (show x ≤ q by rw [t64_le]; rw [t64_lt] at c; omega)]
theorem learn_fin {B : Bat} {W : Nat → Int64} {c : Nat} (hc : c < 20480) (h : IB B c) (r : RB B W) {X Y : Int64} (hx : (B.1 2).toInt ≤ X.toInt) (hy : Y.toInt ≤ (B.1 3).toInt) : RB (if X ≤ Y then ((upd (upd B.1 2 X.toInt32) 3 Y.toInt32), B.2.1, B.2.2.1, B.2.2.2) else ((upd B.1 11 (B.1 11 + 1)), B.2.1, B.2.2.1, B.2.2.2)) (if X ≤ Y then (vp_updL (vp_updL W 2 X) 3 Y) else (vp_updL W 7 (W 7 + 1))) ∧ IW (if X ≤ Y then ((upd (upd B.1 2 X.toInt32) 3 Y.toInt32), B.2.1, B.2.2.1, B.2.2.2) else ((upd B.1 11 (B.1 11 + 1)), B.2.1, B.2.2.1, B.2.2.2)) c 1 := by
  have h' := h
  have r' := r
  obtain ⟨⟨r0, r1, r2, r3, r4, r5, r6, r7, r8, r9, r10, r11, r12⟩, rp, rc, rs⟩ := r'
  obtain ⟨h1, h2, h3, h4, h5, h6, h7⟩ := h'
  by_cases d : X ≤ Y
  · rw [if_pos d, if_pos d]
    rw [t64_le] at d
    have lx : X.toInt32.toInt = X.toInt := l32 (by omega) (by omega)
    have ly : Y.toInt32.toInt = Y.toInt := l32 (by omega) (by omega)
    generalize X.toInt32 = P at lx ⊢
    generalize Y.toInt32 = Q at ly ⊢
    refine ⟨⟨⟨r0, r1, lx.symm, ly.symm, r4, r5, r6, r7, r8, r9, r10, r11, r12⟩, fun k hk => ?_, fun k hk => ?_, fun k hk => ?_⟩, ⟨⟨h1.1, h1.2.1, ?_, ?_, ?_, ?_⟩, h2, ?_, h6, h7⟩⟩
    · simp (disch := omega) only [uL_ne]; exact rp k hk
    · simp (disch := omega) only [uL_ne]; exact rc k hk
    · simp (disch := omega) only [uL_ne]; exact rs k hk
    · show (B.1 1).toInt ≤ 99999; omega
    · show 0 ≤ P.toInt; omega
    · show P.toInt ≤ Q.toInt; omega
    · show Q.toInt ≤ 99999; omega
    · show 0 ≤ (B.1 8).toInt ∧ (B.1 8).toInt ≤ c ∧ 0 ≤ (B.1 11).toInt ∧ (B.1 11).toInt ≤ 2 * (c : Int) + 1 ∧ 0 ≤ (B.1 12).toInt ∧ (B.1 12).toInt ≤ 100
      omega
  · rw [if_neg d, if_neg d]
    have z1 : (B.1 11 + 1).toInt = (B.1 11).toInt + 1 := by rw [a32 (by simp only [Int32.reduceToInt]; omega) (by simp only [Int32.reduceToInt]; omega)]; rfl
    have z2 : (W 7 + 1).toInt = (B.1 11).toInt + 1 := by rw [a64 (by simp only [Int64.reduceToInt]; omega) (by simp only [Int64.reduceToInt]; omega), r7]; rfl
    generalize B.1 11 + 1 = P at z1 ⊢
    generalize W 7 + 1 = Q at z2 ⊢
    refine ⟨⟨⟨r0, r1, r2, r3, r4, r5, r6, z2.trans z1.symm, r8, r9, r10, r11, r12⟩, fun k hk => ?_, fun k hk => ?_, fun k hk => ?_⟩, ⟨?_, h2, ?_, h6, h7⟩⟩
    · simp (disch := omega) only [uL_ne]; exact rp k hk
    · simp (disch := omega) only [uL_ne]; exact rc k hk
    · simp (disch := omega) only [uL_ne]; exact rs k hk
    · show 0 ≤ (B.1 0).toInt ∧ (B.1 0).toInt ≤ (B.1 1).toInt ∧ (B.1 1).toInt ≤ 99999 ∧ 0 ≤ (B.1 2).toInt ∧ (B.1 2).toInt ≤ (B.1 3).toInt ∧ (B.1 3).toInt ≤ 99999
      omega
    · show 0 ≤ (B.1 8).toInt ∧ (B.1 8).toInt ≤ c ∧ 0 ≤ P.toInt ∧ P.toInt ≤ 2 * (c : Int) + 1 ∧ 0 ≤ (B.1 12).toInt ∧ (B.1 12).toInt ≤ 100
      omega
theorem learn_tie {B : Bat} {W : Nat → Int64} {c : Nat} (hc : c < 20480) (h : IB B c) (r : RB B W) {a b : Int32} (ha : 0 ≤ a.toInt ∧ a.toInt ≤ 1000) (hb : 0 ≤ b.toInt ∧ b.toInt ≤ 1000) : RB (fX1_learnCapacity B a b) (lrW W a.toInt64 b.toInt64) ∧ IW (fX1_learnCapacity B a b) c 1 := by
  have h' := h
  have r' := r
  obtain ⟨⟨r0, r1, r2, r3, r4, r5, r6, r7, r8, r9, r10, r11, r12⟩, rp, rc, rs⟩ := r'
  obtain ⟨h1, h2, h3, h4, h5, h6, h7⟩ := h'
  have e1 : ((B.1 10) - a).toInt64 = (B.1 10).toInt64 - a.toInt64 := t64_eq.mpr (by rw [w64, s64 (by rw [w64, w64]; omega) (by rw [w64, w64]; omega), w64, w64, s32 (by omega) (by omega)])
  have e2 : ((B.1 9) - b).toInt64 = (B.1 9).toInt64 - b.toInt64 := t64_eq.mpr (by rw [w64, s64 (by rw [w64, w64]; omega) (by rw [w64, w64]; omega), w64, w64, s32 (by omega) (by omega)])
  have c1 : ((B.1 10) - a ≤ 0) ↔ ((B.1 10).toInt64 - a.toInt64 ≤ 0) := by rw [← e1, t32_le, t64_le, w64]; simp only [Int32.reduceToInt, Int64.reduceToInt]
  have c2 : ((B.1 9) - b ≤ 0) ↔ ((B.1 9).toInt64 - b.toInt64 ≤ 0) := by rw [← e2, t32_le, t64_le, w64]; simp only [Int32.reduceToInt, Int64.reduceToInt]
  have w2 := wid r2
  have w3 := wid r3
  unfold fX1_learnCapacity lrW
  simp only [wid r5, wid r11, wid r6, wid r10, wid r9, w2, w3, c1, c2, e1, e2, mx_e, mn_e]
  generalize hX : (if ((B.1 6).toInt64) - (((B.1 4).toInt64) * ((B.1 7).toInt64)) ≤ 0 then (B.1 2).toInt64 else _) = X
  generalize hY : (if ((B.1 6).toInt64) + (((B.1 4).toInt64) * ((B.1 7).toInt64)) ≤ 0 then (B.1 3).toInt64 else _) = Y
  have hx : (B.1 2).toInt ≤ X.toInt := by
    rw [← hX]
    split
    · rw [w64]; omega
    · split
      · rw [w64]; omega
      · split
        · rw [w64]; omega
        · rename_i q; rw [t64_le, w64] at q; omega
  have hy : Y.toInt ≤ (B.1 3).toInt := by
    rw [← hY]
    split
    · rw [w64]; omega
    · split
      · rw [w64]; omega
      · split
        · rw [w64]; omega
        · rename_i q; rw [t64_le, w64] at q; omega
  exact learn_fin hc h r hx hy
