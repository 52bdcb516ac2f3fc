/-! GETTERS: what a battery tells, and what the reference's row tells -/
theorem nz {j : Nat} (h : j ≤ 1000) {x : Int32} {k : Nat} (hx : nI k = x) (hk : k ≤ 1000) : nI j = x ↔ j = k := by
  rw [← hx, t32_eq, nI_toInt (by omega), nI_toInt (by omega)]; omega
theorem tell_eq {B : Bat} {W : Nat → Int64} {c : Nat} (h : IB B c) (r : RB B W) {j : Nat} (hj : j ≤ 11) : fX6_toldOf W (nI j) = fX1_tell B (nI j) := by
  have r' := r
  obtain ⟨⟨r0, r1, r2, r3, r4, r5, r6, r7, r8, r9, r10, r11, r12⟩, -⟩ := r'
  have hj : j = 0 ∨ j = 1 ∨ j = 2 ∨ j = 3 ∨ j = 4 ∨ j = 5 ∨ j = 6 ∨ j = 7 ∨ j = 8 ∨ j = 9 ∨ j = 10 ∨ j = 11 := by omega
  rcases hj with rfl | rfl | rfl | rfl | rfl | rfl | rfl | rfl | rfl | rfl | rfl | rfl
  · have e1 : fX1_tell B (nI 0) = B.1 0 := if_pos (show nI 0 = 0 by decide +kernel)
    have e2 : fX6_toldOf W (nI 0) = (W (nI 0).toNatClampNeg).toInt32 := by unfold fX6_toldOf; simp only []; rw [if_neg (show ¬ 4 ≤ nI 0 by decide +kernel)]
    rw [e1, e2, nI_clamp (by decide)]; exact back32 r0
  · have e1 : fX1_tell B (nI 1) = B.1 1 := (if_neg (show ¬ nI 1 = 0 by decide +kernel)).trans (if_pos (show nI 1 = 1 by decide +kernel))
    have e2 : fX6_toldOf W (nI 1) = (W (nI 1).toNatClampNeg).toInt32 := by unfold fX6_toldOf; simp only []; rw [if_neg (show ¬ 4 ≤ nI 1 by decide +kernel)]
    rw [e1, e2, nI_clamp (by decide)]; exact back32 r1
  · have e1 : fX1_tell B (nI 2) = B.1 2 := (if_neg (show ¬ nI 2 = 0 by decide +kernel)).trans ((if_neg (show ¬ nI 2 = 1 by decide +kernel)).trans (if_pos (show nI 2 = 2 by decide +kernel)))
    have e2 : fX6_toldOf W (nI 2) = (W (nI 2).toNatClampNeg).toInt32 := by unfold fX6_toldOf; simp only []; rw [if_neg (show ¬ 4 ≤ nI 2 by decide +kernel)]
    rw [e1, e2, nI_clamp (by decide)]; exact back32 r2
  · have e1 : fX1_tell B (nI 3) = B.1 3 := (if_neg (show ¬ nI 3 = 0 by decide +kernel)).trans ((if_neg (show ¬ nI 3 = 1 by decide +kernel)).trans ((if_neg (show ¬ nI 3 = 2 by decide +kernel)).trans (if_pos (show nI 3 = 3 by decide +kernel))))
    have e2 : fX6_toldOf W (nI 3) = (W (nI 3).toNatClampNeg).toInt32 := by unfold fX6_toldOf; simp only []; rw [if_neg (show ¬ 4 ≤ nI 3 by decide +kernel)]
    rw [e1, e2, nI_clamp (by decide)]; exact back32 r3
  · have e1 : fX1_tell B (nI 4) = fX1_middle B := (if_neg (show ¬ nI 4 = 0 by decide +kernel)).trans ((if_neg (show ¬ nI 4 = 1 by decide +kernel)).trans ((if_neg (show ¬ nI 4 = 2 by decide +kernel)).trans ((if_neg (show ¬ nI 4 = 3 by decide +kernel)).trans (if_pos (show nI 4 = 4 by decide +kernel)))))
    have e2 : fX6_toldOf W (nI 4) = fX6_middle W := by unfold fX6_toldOf; simp only []; rw [if_pos (show 4 ≤ nI 4 by decide +kernel), if_pos (show nI 4 = 4 by decide +kernel)]
    rw [e1, e2]; exact mid_eq h r
  · have e1 : fX1_tell B (nI 5) = B.1 12 := (if_neg (show ¬ nI 5 = 0 by decide +kernel)).trans ((if_neg (show ¬ nI 5 = 1 by decide +kernel)).trans ((if_neg (show ¬ nI 5 = 2 by decide +kernel)).trans ((if_neg (show ¬ nI 5 = 3 by decide +kernel)).trans ((if_neg (show ¬ nI 5 = 4 by decide +kernel)).trans (if_pos (show nI 5 = 5 by decide +kernel))))))
    have e2 : fX6_toldOf W (nI 5) = (W ((nI 5 - 1).toNatClampNeg)).toInt32 := by unfold fX6_toldOf; simp only []; rw [if_pos (show 4 ≤ nI 5 by decide +kernel), if_neg (show ¬ nI 5 = 4 by decide +kernel)]
    rw [e1, e2, nI_m1 (by decide), nI_clamp (by decide)]; exact back32 r4
  · have e1 : fX1_tell B (nI 6) = B.1 6 := (if_neg (show ¬ nI 6 = 0 by decide +kernel)).trans ((if_neg (show ¬ nI 6 = 1 by decide +kernel)).trans ((if_neg (show ¬ nI 6 = 2 by decide +kernel)).trans ((if_neg (show ¬ nI 6 = 3 by decide +kernel)).trans ((if_neg (show ¬ nI 6 = 4 by decide +kernel)).trans ((if_neg (show ¬ nI 6 = 5 by decide +kernel)).trans (if_pos (show nI 6 = 6 by decide +kernel)))))))
    have e2 : fX6_toldOf W (nI 6) = (W ((nI 6 - 1).toNatClampNeg)).toInt32 := by unfold fX6_toldOf; simp only []; rw [if_pos (show 4 ≤ nI 6 by decide +kernel), if_neg (show ¬ nI 6 = 4 by decide +kernel)]
    rw [e1, e2, nI_m1 (by decide), nI_clamp (by decide)]; exact back32 r5
  · have e1 : fX1_tell B (nI 7) = B.1 7 := (if_neg (show ¬ nI 7 = 0 by decide +kernel)).trans ((if_neg (show ¬ nI 7 = 1 by decide +kernel)).trans ((if_neg (show ¬ nI 7 = 2 by decide +kernel)).trans ((if_neg (show ¬ nI 7 = 3 by decide +kernel)).trans ((if_neg (show ¬ nI 7 = 4 by decide +kernel)).trans ((if_neg (show ¬ nI 7 = 5 by decide +kernel)).trans ((if_neg (show ¬ nI 7 = 6 by decide +kernel)).trans (if_pos (show nI 7 = 7 by decide +kernel))))))))
    have e2 : fX6_toldOf W (nI 7) = (W ((nI 7 - 1).toNatClampNeg)).toInt32 := by unfold fX6_toldOf; simp only []; rw [if_pos (show 4 ≤ nI 7 by decide +kernel), if_neg (show ¬ nI 7 = 4 by decide +kernel)]
    rw [e1, e2, nI_m1 (by decide), nI_clamp (by decide)]; exact back32 r6
  · have e1 : fX1_tell B (nI 8) = B.1 11 := (if_neg (show ¬ nI 8 = 0 by decide +kernel)).trans ((if_neg (show ¬ nI 8 = 1 by decide +kernel)).trans ((if_neg (show ¬ nI 8 = 2 by decide +kernel)).trans ((if_neg (show ¬ nI 8 = 3 by decide +kernel)).trans ((if_neg (show ¬ nI 8 = 4 by decide +kernel)).trans ((if_neg (show ¬ nI 8 = 5 by decide +kernel)).trans ((if_neg (show ¬ nI 8 = 6 by decide +kernel)).trans ((if_neg (show ¬ nI 8 = 7 by decide +kernel)).trans (if_pos (show nI 8 = 8 by decide +kernel)))))))))
    have e2 : fX6_toldOf W (nI 8) = (W ((nI 8 - 1).toNatClampNeg)).toInt32 := by unfold fX6_toldOf; simp only []; rw [if_pos (show 4 ≤ nI 8 by decide +kernel), if_neg (show ¬ nI 8 = 4 by decide +kernel)]
    rw [e1, e2, nI_m1 (by decide), nI_clamp (by decide)]; exact back32 r7
  · have e1 : fX1_tell B (nI 9) = B.1 8 := (if_neg (show ¬ nI 9 = 0 by decide +kernel)).trans ((if_neg (show ¬ nI 9 = 1 by decide +kernel)).trans ((if_neg (show ¬ nI 9 = 2 by decide +kernel)).trans ((if_neg (show ¬ nI 9 = 3 by decide +kernel)).trans ((if_neg (show ¬ nI 9 = 4 by decide +kernel)).trans ((if_neg (show ¬ nI 9 = 5 by decide +kernel)).trans ((if_neg (show ¬ nI 9 = 6 by decide +kernel)).trans ((if_neg (show ¬ nI 9 = 7 by decide +kernel)).trans ((if_neg (show ¬ nI 9 = 8 by decide +kernel)).trans (if_pos (show nI 9 = 9 by decide +kernel))))))))))
    have e2 : fX6_toldOf W (nI 9) = (W ((nI 9 - 1).toNatClampNeg)).toInt32 := by unfold fX6_toldOf; simp only []; rw [if_pos (show 4 ≤ nI 9 by decide +kernel), if_neg (show ¬ nI 9 = 4 by decide +kernel)]
    rw [e1, e2, nI_m1 (by decide), nI_clamp (by decide)]; exact back32 r8
  · have e1 : fX1_tell B (nI 10) = B.1 9 := (if_neg (show ¬ nI 10 = 0 by decide +kernel)).trans ((if_neg (show ¬ nI 10 = 1 by decide +kernel)).trans ((if_neg (show ¬ nI 10 = 2 by decide +kernel)).trans ((if_neg (show ¬ nI 10 = 3 by decide +kernel)).trans ((if_neg (show ¬ nI 10 = 4 by decide +kernel)).trans ((if_neg (show ¬ nI 10 = 5 by decide +kernel)).trans ((if_neg (show ¬ nI 10 = 6 by decide +kernel)).trans ((if_neg (show ¬ nI 10 = 7 by decide +kernel)).trans ((if_neg (show ¬ nI 10 = 8 by decide +kernel)).trans ((if_neg (show ¬ nI 10 = 9 by decide +kernel)).trans (if_pos (show nI 10 = 10 by decide +kernel)))))))))))
    have e2 : fX6_toldOf W (nI 10) = (W ((nI 10 - 1).toNatClampNeg)).toInt32 := by unfold fX6_toldOf; simp only []; rw [if_pos (show 4 ≤ nI 10 by decide +kernel), if_neg (show ¬ nI 10 = 4 by decide +kernel)]
    rw [e1, e2, nI_m1 (by decide), nI_clamp (by decide)]; exact back32 r9
  · have e1 : fX1_tell B (nI 11) = B.1 10 := (if_neg (show ¬ nI 11 = 0 by decide +kernel)).trans ((if_neg (show ¬ nI 11 = 1 by decide +kernel)).trans ((if_neg (show ¬ nI 11 = 2 by decide +kernel)).trans ((if_neg (show ¬ nI 11 = 3 by decide +kernel)).trans ((if_neg (show ¬ nI 11 = 4 by decide +kernel)).trans ((if_neg (show ¬ nI 11 = 5 by decide +kernel)).trans ((if_neg (show ¬ nI 11 = 6 by decide +kernel)).trans ((if_neg (show ¬ nI 11 = 7 by decide +kernel)).trans ((if_neg (show ¬ nI 11 = 8 by decide +kernel)).trans ((if_neg (show ¬ nI 11 = 9 by decide +kernel)).trans ((if_neg (show ¬ nI 11 = 10 by decide +kernel)).trans (if_pos (show nI 11 = 11 by decide +kernel))))))))))))
    have e2 : fX6_toldOf W (nI 11) = (W ((nI 11 - 1).toNatClampNeg)).toInt32 := by unfold fX6_toldOf; simp only []; rw [if_pos (show 4 ≤ nI 11 by decide +kernel), if_neg (show ¬ nI 11 = 4 by decide +kernel)]
    rw [e1, e2, nI_m1 (by decide), nI_clamp (by decide)]; exact back32 r10
theorem wn {x : Int32} {a b : Int32} (h : fX5_within x a b = 0) : ¬ (a.toInt ≤ x.toInt ∧ x.toInt ≤ b.toInt) := wi.mp h
theorem n11 {j : Nat} (h : j ≤ 12) : (11 + nI j).toNatClampNeg = 11 + j := by
  rw [show (11 : Int32) + nI j = nI (11 + j) from nI_add 11 j, nI_clamp (by omega)]
theorem set_eq {B : Bat} {W : Nat → Int64} {c : Nat} (h : IB B c) (r : RB B W) {j : Nat} (hj : j ≤ 12) : (W (11 + j)).toInt = (fX1_tellSetting B (nI j)).toInt ∧ 0 ≤ (fX1_tellSetting B (nI j)).toInt ∧ (fX1_tellSetting B (nI j)).toInt ≤ 9999 := by
  have h2 := h.2.1
  have ej : (nI j).toInt = (j : Int) := nI_toInt (by omega)
  by_cases c0 : j = 0
  · subst c0
    rw [show fX1_tellSetting B (nI 0) = B.1 4 from if_pos (by decide +kernel)]
    exact ⟨r.1.2.2.2.2.2.2.2.2.2.2.2.1, by omega, by omega⟩
  by_cases c1 : j = 1
  · subst c1
    rw [show fX1_tellSetting B (nI 1) = B.1 5 from (if_neg (by decide +kernel)).trans (if_pos (by decide +kernel))]
    exact ⟨r.1.2.2.2.2.2.2.2.2.2.2.2.2, by omega, by omega⟩
  have e2 : nI j - 2 = nI (j - 2) := t32_eq.mpr (by rw [s32 (by rw [ej]; simp only [Int32.reduceToInt]; omega) (by rw [ej]; simp only [Int32.reduceToInt]; omega), ej, nI_toInt (by omega)]; simp only [Int32.reduceToInt]; omega)
  have e1 : fX1_tellSetting B (nI j) = B.2.1 (j - 2) := by
    unfold fX1_tellSetting fX2_point
    simp only []
    rw [if_neg (show ¬ nI j = 0 by rw [t32_eq, ej]; simp only [Int32.reduceToInt]; omega), if_neg (show ¬ nI j = 1 by rw [t32_eq, ej]; simp only [Int32.reduceToInt]; omega), if_neg (show ¬ fX5_within (nI j) 2 12 = 0 from fun e => wi.mp e (by rw [ej]; simp only [Int32.reduceToInt]; omega)), e2, if_neg (show ¬ fX5_within (nI (j - 2)) 0 10 = 0 from fun e => wi.mp e (by rw [nI_toInt (by omega)]; simp only [Int32.reduceToInt]; omega)), nI_clamp (by omega)]
  have q := (IB_pi h).1 (j - 2) (by omega)
  rw [e1, show 11 + j = 13 + (j - 2) by omega]
  exact ⟨r.2.1 (j - 2) (by omega), q.1, q.2⟩
/-- the bands -/
theorem div_s {S : Int64} {N : Int32} {c : Int} (h0 : ¬ N = 0) (h1 : 0 ≤ N.toInt) (h2 : -(999900 * N.toInt) ≤ S.toInt) (h3 : S.toInt ≤ 999900 * N.toInt) : -999900 ≤ (S / N.toInt64).toInt32.toInt ∧ (S / N.toInt64).toInt32.toInt ≤ 999900 := by
  have hp : 0 < N.toInt := by
    have : ¬ N.toInt = 0 := fun e => h0 (t32_eq.mpr e)
    omega
  have e : (S / N.toInt64).toInt = S.toInt.tdiv N.toInt := by rw [Jvm.Kit.i64_div (by rw [w64]; omega), w64]
  have b1 : S.toInt.tdiv N.toInt ≤ 999900 := Int.le_trans (Int.tdiv_le_tdiv hp h3) (by rw [Int.mul_tdiv_cancel _ (by omega)]; exact Int.le_refl _)
  have b2 : -999900 ≤ S.toInt.tdiv N.toInt := Int.le_trans (by rw [← Int.neg_mul, Int.mul_tdiv_cancel _ (by omega)]; exact Int.le_refl _) (Int.tdiv_le_tdiv hp h2)
  rw [l32 (by rw [e]; omega) (by rw [e]; omega), e]
  exact ⟨b2, b1⟩
theorem res_eq {B : Bat} {W : Nat → Int64} {c : Nat} (h : IB B c) (r : RB B W) {j : Nat} (hj : j < 22) : fX6_bandOf W (nI j) 0 = (if B.2.2.2 j = 0 then (-10000001) else (B.2.2.1 j / (B.2.2.2 j).toInt64).toInt32) := by
  have e1 := wid (r.2.2.1 j hj)
  have e2 := r.2.2.2 j hj
  unfold fX6_bandOf
  simp only []
  rw [if_neg (show ¬ (0 : Int32) = 1 by decide), n24 hj, n46 hj, e1, e2]
  by_cases d : B.2.2.2 j = 0
  · rw [if_pos d, if_pos (show (B.2.2.2 j).toInt64 = 0 by rw [d]; rfl)]
  · rw [if_neg d, if_neg (show ¬ (B.2.2.2 j).toInt64 = 0 from fun e => d (t32_eq.mpr (by rw [← w64, e]; rfl)))]
theorem res_in {B : Bat} {c : Nat} (h : IB B c) {j : Nat} (hj : j < 22) : (if B.2.2.2 j = 0 then (-10000001) else (B.2.2.1 j / (B.2.2.2 j).toInt64).toInt32) = (-10000001) ∨ (-999900 ≤ (if B.2.2.2 j = 0 then (-10000001) else (B.2.2.1 j / (B.2.2.2 j).toInt64).toInt32).toInt ∧ (if B.2.2.2 j = 0 then (-10000001) else (B.2.2.1 j / (B.2.2.2 j).toInt64).toInt32).toInt ≤ 999900) := by
  have q := h.2.2.2.2.2.2 j hj
  by_cases d : B.2.2.2 j = 0
  · rw [if_pos d]; exact .inl rfl
  · rw [if_neg d]; exact .inr (div_s (c := 0) d q.1 q.2.2.1 q.2.2.2)
theorem bd_j {s t : Int32} (hs : 0 ≤ s.toInt ∧ s.toInt ≤ 1) (ht : 0 ≤ t.toInt ∧ t.toInt ≤ 10) : ∃ j : Nat, j < 22 ∧ (s * 11) + t = nI j ∧ (11 * s) + t = nI j := by
  have m1 : (s * 11).toInt = s.toInt * 11 := m32 (by simp only [Int32.reduceToInt]; omega) (by simp only [Int32.reduceToInt]; omega)
  have m2 : (11 * s).toInt = 11 * s.toInt := m32 (by simp only [Int32.reduceToInt]; omega) (by simp only [Int32.reduceToInt]; omega)
  refine ⟨(s.toInt * 11 + t.toInt).toNat, by omega, ?_, ?_⟩
  · rw [t32_eq, nI_toInt (by omega), a32 (by rw [m1]; omega) (by rw [m1]; omega), m1]; omega
  · rw [t32_eq, nI_toInt (by omega), a32 (by rw [m2]; omega) (by rw [m2]; omega), m2]; omega
theorem isB {s t : Int32} : fX0_isBand s t = 0 ↔ ¬ ((0 ≤ s.toInt ∧ s.toInt ≤ 1) ∧ (0 ≤ t.toInt ∧ t.toInt ≤ 10)) := by
  unfold fX0_isBand
  rw [bz_0, t32_le, t32_le, t32_le, t32_le]; exact Iff.rfl
/-- a band's numbers, alike, and no refusal's -/
theorem band_eq {B : Bat} {W : Nat → Int64} {c : Nat} (h : IB B c) (r : RB B W) {s t w : Int32} (hs : 0 ≤ s.toInt ∧ s.toInt ≤ 1) (ht : 0 ≤ t.toInt ∧ t.toInt ≤ 10) (hw : 0 ≤ w.toInt ∧ w.toInt ≤ 1) : fX6_bandOf W ((11 * s) + t) w = fX1_tellBand B s t w ∧ -10000002 < (fX1_tellBand B s t w).toInt := by
  obtain ⟨j, hj, e1, e2⟩ := bd_j hs ht
  have b0 : ¬ fX0_isBand s t = 0 := fun e => isB.mp e ⟨hs, ht⟩
  have w0 : ¬ fX5_within w 0 1 = 0 := fun e => wi.mp e hw
  have q := h.2.2.2.2.2.2 j hj
  by_cases d : w = 0
  · have a : fX1_tellBand B s t w = (if B.2.2.2 j = 0 then (-10000001) else (B.2.2.1 j / (B.2.2.2 j).toInt64).toInt32) := by
      unfold fX1_tellBand fX0_resistance
      simp only []
      rw [if_neg w0, if_pos d, if_neg b0, e1, nI_clamp (by omega)]
    rw [a, e2, d, res_eq h r hj]
    refine ⟨rfl, ?_⟩
    rcases res_in h hj with e | e
    · rw [e]; decide
    · omega
  · have d1 : w = 1 := t32_eq.mpr (by have : ¬ w.toInt = 0 := fun e => d (t32_eq.mpr e); simp only [Int32.reduceToInt]; omega)
    have a : fX1_tellBand B s t w = B.2.2.2 j := by
      unfold fX1_tellBand fX0_howMany
      simp only []
      rw [if_neg w0, if_neg d, if_neg b0, e1, nI_clamp (by omega)]
    have a2 : fX6_bandOf W (nI j) 1 = (W (24 + j)).toInt32 := by
      unfold fX6_bandOf
      simp only []
      rw [if_pos trivial, n24 hj]
    rw [a, e2, d1, a2]
    exact ⟨back32 (r.2.2.1 j hj), by omega⟩
theorem tb_bad {B : Bat} {s t w : Int32} (hx : ¬ ((0 ≤ s.toInt ∧ s.toInt ≤ 1) ∧ (0 ≤ t.toInt ∧ t.toInt ≤ 10) ∧ (0 ≤ w.toInt ∧ w.toInt ≤ 1))) : fX1_tellBand B s t w = (-10000002) := by
  unfold fX1_tellBand
  simp only []
  by_cases w0 : fX5_within w 0 1 = 0
  · rw [if_pos w0]
  · rw [if_neg w0]
    have b0 : fX0_isBand s t = 0 := isB.mpr (fun e => hx ⟨e.1, e.2, Classical.not_not.mp (fun g => w0 (wi.mpr g))⟩)
    unfold fX0_resistance fX0_howMany
    simp only []
    rw [if_pos b0, if_pos b0]
    by_cases d : w = 0
    · rw [if_pos d]
    · rw [if_neg d]
theorem used_eq {B : Bat} {W : Nat → Int64} {c : Nat} (h : IB B c) (r : RB B W) : ∀ n : Nat, n ≤ 22 → lpBands W n = lpUsed B.2.2.2 n
  | 0, _ => rfl
  | n + 1, hn => by
    have q := h.2.2.2.2.2.2 n (by omega)
    have e := r.2.2.1 n (by omega)
    have zz : (0 : Int64).toInt = 0 := rfl
    have z0 : (0 : Int32).toInt = 0 := rfl
    show lpBands W n + (if W (24 + n) ≤ 0 then 0 else 1) = (if B.2.2.2 n = 0 then lpUsed B.2.2.2 n else lpUsed B.2.2.2 n + 1)
    rw [used_eq h r n (by omega)]
    by_cases d : B.2.2.2 n = 0
    · rw [if_pos d, if_pos (show W (24 + n) ≤ 0 by rw [t64_le, e, d, z0, zz]; omega)]
      exact Int32.add_zero _
    · rw [if_neg d, if_neg (show ¬ W (24 + n) ≤ 0 by rw [t64_le, e, zz]; rw [t32_eq, z0] at d; omega)]
/-- how long it lasts -/
theorem last_eq {B : Bat} {W : Nat → Int64} {c : Nat} (h : IB B c) (r : RB B W) {i w : Int32} (hi : 1 ≤ i.toInt ∧ i.toInt ≤ 99) (hw : 0 ≤ w.toInt ∧ w.toInt ≤ 1) : fX6_lastsBy W i w = fX1_lasting B i w ∧ -10000002 < (fX1_lasting B i w).toInt := by
  have h1 := h.1
  have h2 := h.2.1
  obtain ⟨r0, r1, r2, r3, r4, r5, r6, r7, r8, r9, r10, r11, r12⟩ := r.1
  have i0 : ¬ fX5_within i 1 99 = 0 := fun e => wi.mp e hi
  have w0 : ¬ fX5_within w 0 1 = 0 := fun e => wi.mp e hw
  unfold fX6_lastsBy fX1_lasting
  simp only []
  rw [if_neg i0, if_neg w0]
  have a1 : (i + B.1 4).toInt = i.toInt + (B.1 4).toInt := a32 (by omega) (by omega)
  have a2 : (i.toInt64 + W 11).toInt = i.toInt + (B.1 4).toInt := by rw [a64 (by rw [w64]; omega) (by rw [w64]; omega), w64, r11]
  have b1 : (i - B.1 4).toInt = i.toInt - (B.1 4).toInt := s32 (by omega) (by omega)
  have b2 : (i.toInt64 - W 11).toInt = i.toInt - (B.1 4).toInt := by rw [s64 (by rw [w64]; omega) (by rw [w64]; omega), w64, r11]
  by_cases d : w = 0
  · rw [if_pos d, if_pos d]
    have e1 : (B.1 0 / (i + B.1 4)).toInt = (B.1 0).toInt / (i.toInt + (B.1 4).toInt) := by rw [d32 (by omega) (by omega), a1]
    have e2 : (W 0 / (i.toInt64 + W 11)).toInt = (B.1 0).toInt / (i.toInt + (B.1 4).toInt) := by rw [d64 (by omega) (by omega), a2, r0]
    have g := Int.ediv_nonneg (a := (B.1 0).toInt) (b := i.toInt + (B.1 4).toInt) (by omega) (by omega)
    exact ⟨back32 (e2.trans e1.symm), by rw [e1]; omega⟩
  · rw [if_neg d, if_neg d]
    by_cases f : B.1 4 < i
    · rw [if_pos f, if_pos (show W 11 < i.toInt64 by rw [t64_lt, w64, r11]; exact t32_lt.mp f)]
      rw [t32_lt] at f
      have e1 : (B.1 1 / (i - B.1 4)).toInt = (B.1 1).toInt / (i.toInt - (B.1 4).toInt) := by rw [d32 (by omega) (by omega), b1]
      have e2 : (W 1 / (i.toInt64 - W 11)).toInt = (B.1 1).toInt / (i.toInt - (B.1 4).toInt) := by rw [d64 (by omega) (by omega), b2, r1]
      have g := Int.ediv_nonneg (a := (B.1 1).toInt) (b := i.toInt - (B.1 4).toInt) (by omega) (by omega)
      exact ⟨back32 (e2.trans e1.symm), by rw [e1]; omega⟩
    · rw [if_neg f, if_neg (show ¬ W 11 < i.toInt64 by rw [t64_lt, w64, r11]; exact fun e => f (t32_lt.mpr e))]
      exact ⟨rfl, by decide⟩
/-- the voltage under a load -/
theorem und_eq {B : Bat} {W : Nat → Int64} {c : Nat} (h : IB B c) (r : RB B W) {i : Int32} (hi : ¬ i.toInt = 0 ∧ -99 ≤ i.toInt ∧ i.toInt ≤ 99) : (fX6_bandOf W (fX6_bandNow W i) 0 = (-10000001) ∧ fX1_loadedVoltage B i = (-10000003)) ∨ (¬ fX6_bandOf W (fX6_bandNow W i) 0 = (-10000001) ∧ fX1_loadedVoltage B i = fX6_voltsAt W (fX6_middle W) - ((i * fX6_bandOf W (fX6_bandNow W i) 0) / 100) ∧ -10000002 < (fX1_loadedVoltage B i).toInt) := by
  have hm := mid_in h
  have hj := jb_lt (i := i) hm
  have ve := volt_eq h r hm
  have l1 : ¬ fX1_isLoad i = 0 := fun e => isL.mp e hi
  have a : fX0_resistance B.2.2.1 B.2.2.2 (fX1_signOf i) (fX1_tenthOf (fX1_middle B)) = fX6_bandOf W (fX6_bandNow W i) 0 := by
    rw [jb_r h r i, res_eq h r hj]
    unfold fX0_resistance
    simp only []
    rw [if_neg (jb_band hm), jb_c hm, nI_clamp (by omega)]
  have q := res_in h hj
  rw [← res_eq h r hj, ← jb_r h r i] at q
  unfold fX1_loadedVoltage
  simp only [a, mid_eq h r, ve.1]
  rw [if_neg l1]
  revert q
  generalize fX6_bandOf W (fX6_bandNow W i) 0 = z
  intro q
  by_cases d : z = (-10000001)
  · exact .inl ⟨d, if_pos d⟩
  · refine .inr ⟨d, if_neg d, ?_⟩
    rw [if_neg d]
    have q2 := q.resolve_left d
    have p : -98990100 ≤ i.toInt * z.toInt ∧ i.toInt * z.toInt ≤ 98990100 := by
      have k1 : (i.toInt * z.toInt).natAbs ≤ 99 * 999900 := by
        rw [Int.natAbs_mul]; exact Nat.mul_le_mul (by omega) (by omega)
      omega
    have m : (i * z).toInt = i.toInt * z.toInt := m32 (by omega) (by omega)
    have dv : ((i * z) / 100).toInt = (i.toInt * z.toInt).tdiv 100 := by rw [Jvm.Kit.i32_div (by rw [m]; omega), m]; rfl
    have k2 : ((i.toInt * z.toInt).tdiv 100).natAbs ≤ (i.toInt * z.toInt).natAbs / 100 := by rw [Int.natAbs_tdiv]; exact Nat.le_refl _
    rw [s32 (by rw [dv]; omega) (by rw [dv]; omega), dv]
    omega
