/-! PASS -/
theorem pr_b {n a K : Int} (h1 : 1 ≤ n) (h2 : n ≤ 999) (h3 : -K ≤ a) (h4 : a ≤ K) (h5 : 0 ≤ K) : -(999 * K) ≤ n * a ∧ n * a ≤ 999 * K := by
  have a1 : n * a ≤ n * K := Int.mul_le_mul_of_nonneg_left h4 (by omega)
  have a2 : n * (-K) ≤ n * a := Int.mul_le_mul_of_nonneg_left h3 (by omega)
  have a3 : n * K ≤ 999 * K := Int.mul_le_mul_of_nonneg_right h2 h5
  rw [Int.mul_neg] at a2
  exact ⟨by omega, by omega⟩
theorem RB_12 {B : Bat} {W : Nat → Int64} (r : RB B W) {x : Int64} {y : Int32} (h : x.toInt = y.toInt) : RB ((upd B.1 12 y), B.2.1, B.2.2.1, B.2.2.2) (vp_updL W 4 x) := by
  obtain ⟨⟨r0, r1, r2, r3, r4, r5, r6, r7, r8, r9, r10, r11, r12⟩, rp, rc, rs⟩ := r
  refine ⟨⟨r0, r1, r2, r3, h, r5, r6, r7, r8, r9, r10, r11, r12⟩, fun k hk => ?_, fun k hk => ?_, fun k hk => ?_⟩
  · exact (congrArg _ (uL_ne (by omega))).trans (rp k hk)
  · exact (congrArg _ (uL_ne (by omega))).trans (rc k hk)
  · exact (uL_ne (by omega)).trans (rs k hk)
theorem RB_12' {B : Bat} {W : Nat → Int64} (r : RB B W) {y : Int32} (h : y = B.1 12) : RB ((upd B.1 12 y), B.2.1, B.2.2.1, B.2.2.2) W := by
  obtain ⟨⟨r0, r1, r2, r3, r4, r5, r6, r7, r8, r9, r10, r11, r12⟩, rp, rc, rs⟩ := r
  exact ⟨⟨r0, r1, r2, r3, r4.trans (congrArg _ h.symm), r5, r6, r7, r8, r9, r10, r11, r12⟩, rp, rc, rs⟩
theorem IB_12 {B : Bat} {c : Nat} (h : IB B c) {y : Int32} (hy : 0 ≤ y.toInt ∧ y.toInt ≤ 100) : IB ((upd B.1 12 y), B.2.1, B.2.2.1, B.2.2.2) c := by
  obtain ⟨h1, h2, h3, h4, h5, h6, h7⟩ := h
  exact ⟨h1, h2, h3, ⟨h4.1, h4.2.1, h4.2.2.1, h4.2.2.2.1, hy.1, hy.2⟩, h5, h6, h7⟩
/-- what is shown, behind a passing -/
theorem sh_1 {B : Bat} {W : Nat → Int64} {c : Nat} (h : IB B c) (r : RB B W) {i n : Int32} (hn : 1 ≤ n.toInt ∧ n.toInt ≤ 999) : RB (fX1_showPassing B i n) (let x2 : Int64 := (fX6_middle W / 10).toInt64; (if i ≤ 0 then (if 0 ≤ i then W else (let x6 : Int64 := (if x2 ≤ ((W 4) + n.toInt64) then x2 else ((W 4) + n.toInt64)); (let x9 : Int64 := (if x6 ≤ (W 4) then (W 4) else x6); (vp_updL W 4 x9)))) else (let x12 : Int64 := (if ((W 4) - n.toInt64) ≤ x2 then x2 else ((W 4) - n.toInt64)); (let x15 : Int64 := (if (W 4) ≤ x12 then (W 4) else x12); (vp_updL W 4 x15))))) ∧ IB (fX1_showPassing B i n) c := by
  have hm := mid_in h
  rw [mid_eq h r]
  have h4 := h.2.2.2.1
  have r4 : (W 4).toInt = (B.1 12).toInt := r.1.2.2.2.2.1
  unfold fX1_showPassing
  generalize fX1_middle B = m at hm ⊢
  have em : (m / 10).toInt = m.toInt / 10 := d32 hm.1 (by decide)
  have em2 : (m / 10).toInt64.toInt = m.toInt / 10 := by rw [w64, em]
  simp only []
  generalize hx : (m / 10).toInt64 = x2 at em2 ⊢
  generalize hz : m / 10 = z2 at em ⊢
  have en : ((W 4) + n.toInt64).toInt = (B.1 12).toInt + n.toInt := by rw [a64 (by rw [w64]; omega) (by rw [w64]; omega), w64, r4]
  have en2 : ((B.1 12) + n).toInt = (B.1 12).toInt + n.toInt := a32 (by omega) (by omega)
  have es : ((W 4) - n.toInt64).toInt = (B.1 12).toInt - n.toInt := by rw [s64 (by rw [w64]; omega) (by rw [w64]; omega), w64, r4]
  have es2 : ((B.1 12) - n).toInt = (B.1 12).toInt - n.toInt := s32 (by omega) (by omega)
  by_cases c1 : i ≤ 0
  · rw [if_pos c1, if_pos c1]
    by_cases c2 : 0 ≤ i
    · rw [if_pos c2, if_pos c2]
      exact ⟨RB_12' r rfl, IB_12 h (by omega)⟩
    · rw [if_neg c2, if_neg c2]
      refine ⟨RB_12 r ?_, IB_12 h ?_⟩
      · simp only [if64, if32, t64_le, t32_lt, em, em2, en, en2, r4]
        split <;> split <;> split <;> split <;> omega
      · simp only [if32, t32_lt, em, en2]
        split <;> split <;> omega
  · rw [if_neg c1, if_neg c1]
    refine ⟨RB_12 r ?_, IB_12 h ?_⟩
    · simp only [if64, if32, t64_le, t32_lt, em, em2, es, es2, r4]
      split <;> split <;> split <;> split <;> omega
    · simp only [if32, t32_lt, em, es2]
      split <;> split <;> omega
theorem sh_2 {B : Bat} {W : Nat → Int64} {c : Nat} (h : IB B c) (r : RB B W) : RB (fX1_showEmpty B) (if (W 1) = 0 then (vp_updL W 4 0) else W) ∧ IB (fX1_showEmpty B) c := by
  have h4 := h.2.2.2.1
  have r1 : (W 1).toInt = (B.1 1).toInt := r.1.2.1
  unfold fX1_showEmpty
  simp only []
  by_cases d : B.1 1 = 0
  · rw [if_pos d, if_pos (show W 1 = 0 by rw [t64_eq, r1, d]; rfl)]
    exact ⟨RB_12 r rfl, IB_12 h (by decide)⟩
  · rw [if_neg d, if_neg (show ¬ W 1 = 0 by rw [t64_eq, r1]; rw [t32_eq] at d; exact d)]
    exact ⟨RB_12' r rfl, IB_12 h (by omega)⟩
theorem sh_3 (B : Bat) (i n : Int32) : (fX1_showEmpty (fX1_showPassing B i n)).1 1 = B.1 1 ∧ (fX1_showEmpty (fX1_showPassing B i n)).1 0 = B.1 0 := ⟨rfl, rfl⟩
theorem tie_pass {B : Bat} {M : Mdl} {c : Nat} (hc : c < 20480) (h : IB B c) (r : RB B M.2.2.1) (i n : Int32) : Tie M c (fX1_pass B i n) (fX6_putPassing M i n) := by
  by_cases d : -99 ≤ i.toInt ∧ i.toInt ≤ 99
  · have d1 : ¬ fX5_within i (-99) 99 = 0 := fun e => (wi (x := i) (a := (-99)) (b := 99)).mp e d
    have d2 : ¬ fX6_in i.toInt64 (-99) 99 = 0 := fun e => in6.mp e (by rw [w64]; exact d)
    by_cases hn : 1 ≤ n.toInt ∧ n.toInt ≤ 999
    · have n1 : ¬ fX5_within n 1 999 = 0 := fun e => (wi (x := n) (a := 1) (b := 999)).mp e hn
      have n2 : ¬ fX6_in n.toInt64 1 999 = 0 := fun e => in6.mp e (by rw [w64]; exact hn)
      have r' := r
      have h' := h
      obtain ⟨⟨r0, r1, r2, r3, r4, r5, r6, r7, r8, r9, r10, r11, r12⟩, rp, rc, rs⟩ := r'
      obtain ⟨h1, h2, h3, h4, h5, h6, h7⟩ := h'
      unfold fX1_pass fX6_putPassing
      simp only []
      rw [if_neg d1, if_neg n1, if_neg d2, if_neg n2]
      have p1 := pr_b (n := n.toInt) (a := i.toInt + (B.1 4).toInt) (K := 108) hn.1 hn.2 (by omega) (by omega) (by decide)
      have p2 := pr_b (n := n.toInt) (a := i.toInt - (B.1 4).toInt) (K := 108) hn.1 hn.2 (by omega) (by omega) (by decide)
      have p3 := pr_b (n := n.toInt) (a := i.toInt) (K := 99) hn.1 hn.2 (by omega) (by omega) (by decide)
      have a1 : (i + B.1 4).toInt = i.toInt + (B.1 4).toInt := a32 (by omega) (by omega)
      have a2 : (i - B.1 4).toInt = i.toInt - (B.1 4).toInt := s32 (by omega) (by omega)
      have a3 : (n * (i + B.1 4)).toInt = n.toInt * (i.toInt + (B.1 4).toInt) := by rw [m32 (by rw [a1]; omega) (by rw [a1]; omega), a1]
      have a4 : (n * (i - B.1 4)).toInt = n.toInt * (i.toInt - (B.1 4).toInt) := by rw [m32 (by rw [a2]; omega) (by rw [a2]; omega), a2]
      have a5 : (n * i).toInt = n.toInt * i.toInt := m32 (by omega) (by omega)
      have b1 : (i.toInt64 + M.2.2.1 11).toInt = i.toInt + (B.1 4).toInt := by rw [a64 (by rw [w64]; omega) (by rw [w64]; omega), w64, r11]
      have b2 : (i.toInt64 - M.2.2.1 11).toInt = i.toInt - (B.1 4).toInt := by rw [s64 (by rw [w64]; omega) (by rw [w64]; omega), w64, r11]
      have b3 : (n.toInt64 * (i.toInt64 + M.2.2.1 11)).toInt = n.toInt * (i.toInt + (B.1 4).toInt) := by rw [m64 (by rw [b1, w64]; omega) (by rw [b1, w64]; omega), b1, w64]
      have b4 : (n.toInt64 * (i.toInt64 - M.2.2.1 11)).toInt = n.toInt * (i.toInt - (B.1 4).toInt) := by rw [m64 (by rw [b2, w64]; omega) (by rw [b2, w64]; omega), b2, w64]
      have b5 : (n.toInt64 * i.toInt64).toInt = n.toInt * i.toInt := by rw [m64 (by rw [w64, w64]; omega) (by rw [w64, w64]; omega), w64, w64]
      generalize n.toInt * (i.toInt + (B.1 4).toInt) = P at *
      generalize n.toInt * (i.toInt - (B.1 4).toInt) = Q at *
      generalize n.toInt * i.toInt = R at *
      have a6 : (B.1 0 - n * (i + B.1 4)).toInt = (B.1 0).toInt - P := by rw [s32 (by rw [a3]; omega) (by rw [a3]; omega), a3]
      have a7 : (B.1 1 - n * (i - B.1 4)).toInt = (B.1 1).toInt - Q := by rw [s32 (by rw [a4]; omega) (by rw [a4]; omega), a4]
      have a8 : (B.1 6 + n * i).toInt = (B.1 6).toInt + R := by rw [a32 (by rw [a5]; omega) (by rw [a5]; omega), a5]
      have a9 : (B.1 7 + n).toInt = (B.1 7).toInt + n.toInt := a32 (by omega) (by omega)
      have b6 : (M.2.2.1 0 - n.toInt64 * (i.toInt64 + M.2.2.1 11)).toInt = (B.1 0).toInt - P := by rw [s64 (by rw [b3]; omega) (by rw [b3]; omega), b3, r0]
      have b7 : (M.2.2.1 1 - n.toInt64 * (i.toInt64 - M.2.2.1 11)).toInt = (B.1 1).toInt - Q := by rw [s64 (by rw [b4]; omega) (by rw [b4]; omega), b4, r1]
      have b8 : (M.2.2.1 5 + n.toInt64 * i.toInt64).toInt = (B.1 6).toInt + R := by rw [a64 (by rw [b5]; omega) (by rw [b5]; omega), b5, r5]
      have b9 : (M.2.2.1 6 + n.toInt64).toInt = (B.1 7).toInt + n.toInt := by rw [a64 (by rw [w64]; omega) (by rw [w64]; omega), w64, r6]
      have z0 : (0 : Int32).toInt = 0 := rfl
      have z1 : (0 : Int64).toInt = 0 := rfl
      have x5 : (if (B.1 0 - n * (i + B.1 4)) < 0 then 0 else (B.1 0 - n * (i + B.1 4))).toInt = max 0 ((B.1 0).toInt - P) := by
        simp only [if32, t32_lt, a6, z0]; split <;> omega
      have y5 : (if 0 ≤ (M.2.2.1 0 - n.toInt64 * (i.toInt64 + M.2.2.1 11)) then (M.2.2.1 0 - n.toInt64 * (i.toInt64 + M.2.2.1 11)) else 0).toInt = max 0 ((B.1 0).toInt - P) := by
        simp only [if64, t64_le, b6, z1]; split <;> omega
      have x6 : (if (B.1 3) < (B.1 1 - n * (i - B.1 4)) then (B.1 3) else (B.1 1 - n * (i - B.1 4))).toInt = min (B.1 3).toInt ((B.1 1).toInt - Q) := by
        simp only [if32, t32_lt, a7]; split <;> omega
      have y6 : (if (M.2.2.1 1 - n.toInt64 * (i.toInt64 - M.2.2.1 11)) ≤ (M.2.2.1 3) then (M.2.2.1 1 - n.toInt64 * (i.toInt64 - M.2.2.1 11)) else (M.2.2.1 3)).toInt = min (B.1 3).toInt ((B.1 1).toInt - Q) := by
        simp only [if64, t64_le, b7, r3]; split <;> omega
      revert x5 y5 x6 y6 a8 a9 b8 b9
      generalize (if (B.1 0 - n * (i + B.1 4)) < 0 then 0 else (B.1 0 - n * (i + B.1 4))) = X5
      generalize (if 0 ≤ (M.2.2.1 0 - n.toInt64 * (i.toInt64 + M.2.2.1 11)) then (M.2.2.1 0 - n.toInt64 * (i.toInt64 + M.2.2.1 11)) else 0) = Y5
      generalize (if (B.1 3) < (B.1 1 - n * (i - B.1 4)) then (B.1 3) else (B.1 1 - n * (i - B.1 4))) = X6
      generalize (if (M.2.2.1 1 - n.toInt64 * (i.toInt64 - M.2.2.1 11)) ≤ (M.2.2.1 3) then (M.2.2.1 1 - n.toInt64 * (i.toInt64 - M.2.2.1 11)) else (M.2.2.1 3)) = Y6
      generalize B.1 6 + n * i = X7
      generalize B.1 7 + n = X8
      generalize M.2.2.1 5 + n.toInt64 * i.toInt64 = Y7
      generalize M.2.2.1 6 + n.toInt64 = Y8
      intro a8 a9 b8 b9 x5 y5 x6 y6
      by_cases c1 : X6 < 0
      · rw [if_pos c1, if_pos (show Y6 < 0 by rw [t64_lt, y6]; rw [t32_lt, x6] at c1; exact c1)]; exact tie_no h r
      · rw [if_neg c1, if_neg (show ¬ Y6 < 0 by rw [t64_lt, y6]; rw [t32_lt, x6] at c1; exact c1)]
        by_cases c2 : B.1 3 < X5
        · rw [if_pos c2, if_pos (show M.2.2.1 3 < Y5 by rw [t64_lt, y5, r3]; rw [t32_lt, x5] at c2; exact c2)]; exact tie_no h r
        · rw [if_neg c2, if_neg (show ¬ M.2.2.1 3 < Y5 by rw [t64_lt, y5, r3]; rw [t32_lt, x5] at c2; exact c2)]
          by_cases c3 : X5 ≤ X6
          · rw [if_pos c3, if_pos (show Y5 ≤ Y6 by rw [t64_le, y5, y6]; rw [t32_le, x5, x6] at c3; exact c3)]
            rw [t32_lt, z0] at c1
            rw [t32_lt] at c2
            rw [t32_le] at c3
            have hB : IB ((upd (upd (upd (upd B.1 0 X5) 1 X6) 6 X7) 7 X8), B.2.1, B.2.2.1, B.2.2.2) (c + 1) := by
              obtain ⟨g1, g2, g3, g4, g5, g6, g7⟩ := IB_s h
              refine ⟨⟨?_, ?_, ?_, ?_, ?_, ?_⟩, g2, ⟨?_, ?_, ?_, ?_⟩, g4, g5, g6, g7⟩
              · show 0 ≤ X5.toInt; omega
              · exact c3
              · show X6.toInt ≤ (B.1 3).toInt; omega
              · exact g1.2.2.2.1
              · exact g1.2.2.2.2.1
              · exact g1.2.2.2.2.2
              · show _ ≤ X7.toInt; omega
              · show X7.toInt ≤ _; omega
              · show 0 ≤ X8.toInt; omega
              · show X8.toInt ≤ _; omega
            have hR : RB ((upd (upd (upd (upd B.1 0 X5) 1 X6) 6 X7) 7 X8), B.2.1, B.2.2.1, B.2.2.2) (vp_updL (vp_updL (vp_updL (vp_updL M.2.2.1 0 Y5) 1 Y6) 5 Y7) 6 Y8) := by
              refine ⟨⟨y5.trans x5.symm, y6.trans x6.symm, r2, r3, r4, b8.trans a8.symm, b9.trans a9.symm, r7, r8, r9, r10, r11, r12⟩, fun k hk => ?_, fun k hk => ?_, fun k hk => ?_⟩
              · simp (disch := omega) only [uL_ne]; exact rp k hk
              · simp (disch := omega) only [uL_ne]; exact rc k hk
              · simp (disch := omega) only [uL_ne]; exact rs k hk
            have s1 := sh_1 hB hR (i := i) hn
            have s2 := sh_2 s1.2 s1.1
            refine ⟨?_, s2.1, s2.2, ⟨fun _ _ _ => rfl, rfl, rfl⟩, .inr (.inr ?_)⟩
            · show (Y6 - Y5).toInt32 = X6 - X5
              refine back32 ?_
              rw [s64 (by omega) (by omega), s32 (by omega) (by omega), x5, x6, y5, y6]
            · show -10000002 < (X6 - X5).toInt
              rw [s32 (by omega) (by omega)]; omega
          · rw [if_neg c3, if_neg (show ¬ Y5 ≤ Y6 by rw [t64_le, y5, y6]; rw [t32_le, x5, x6] at c3; exact c3)]; exact tie_no h r
    · have e1 : fX1_pass B i n = ((-10000002), B) := (if_neg d1).trans (if_pos ((wi (x := n) (a := 1) (b := 999)).mpr hn))
      have e2 : fX6_putPassing M i n = ((-10000002), M) := (if_neg d2).trans (if_pos (in6.mpr (by rw [w64]; exact hn)))
      rw [e1, e2]; exact tie_bad h r
  · have e1 : fX1_pass B i n = ((-10000002), B) := if_pos ((wi (x := i) (a := (-99)) (b := 99)).mpr d)
    have e2 : fX6_putPassing M i n = ((-10000002), M) := if_pos (in6.mpr (by rw [w64]; exact d))
    rw [e1, e2]; exact tie_bad h r
