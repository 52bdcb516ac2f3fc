/-! LOAD -/
theorem volt_eq {B : Bat} {W : Nat → Int64} {c : Nat} (h : IB B c) (r : RB B W) {m : Int32} (hm : 0 ≤ m.toInt ∧ m.toInt ≤ 1000) : fX6_voltsAt W m = fX2_voltsAt B.2.1 m ∧ 0 ≤ (fX2_voltsAt B.2.1 m).toInt ∧ (fX2_voltsAt B.2.1 m).toInt ≤ 9999 := by
  obtain ⟨p, hp, rfl⟩ : ∃ p, p ≤ 1000 ∧ nI p = m := ⟨m.toInt.toNat, by omega, nI_Of hm.1⟩
  have a := volt_c (IB_pi h) hp
  have b := volt_r (IB_pi h) r.2.1 hp
  have q := VI_in (IB_pi h) hp
  exact ⟨t32_eq.mpr (b.trans a.symm), by rw [a]; exact q.2.2.1, by rw [a]; exact q.2.2.2⟩
theorem isL {i : Int32} : fX1_isLoad i = 0 ↔ ¬ (¬ i.toInt = 0 ∧ -99 ≤ i.toInt ∧ i.toInt ≤ 99) := by
  unfold fX1_isLoad
  rw [bz_0, t32_eq, t32_le, t32_le]; exact Iff.rfl
theorem div_b {a i : Int32} (h1 : -999900 ≤ a.toInt ∧ a.toInt ≤ 999900) : (a / i).toInt = a.toInt.tdiv i.toInt ∧ -999900 ≤ (a / i).toInt ∧ (a / i).toInt ≤ 999900 := by
  have e : (a / i).toInt = a.toInt.tdiv i.toInt := Jvm.Kit.i32_div (by omega)
  have q : (a.toInt.tdiv i.toInt).natAbs ≤ a.toInt.natAbs := by rw [Int.natAbs_tdiv]; exact Nat.div_le_self _ _
  rw [e]
  exact ⟨rfl, by omega, by omega⟩
def jb (i m : Int32) : Nat := (if i ≤ 0 then 11 else 0) + m.toInt.toNat / 100
theorem jb_lt {i m : Int32} (hm : 0 ≤ m.toInt ∧ m.toInt ≤ 1000) : jb i m < 22 := by
  unfold jb
  by_cases c : i ≤ 0
  · rw [if_pos c]; omega
  · rw [if_neg c]; omega
theorem jb_t {m : Int32} (hm : 0 ≤ m.toInt ∧ m.toInt ≤ 1000) : (m / 100).toInt = m.toInt / 100 := d32 hm.1 (by decide)
theorem jb_c {i m : Int32} (hm : 0 ≤ m.toInt ∧ m.toInt ≤ 1000) : (fX1_signOf i * 11) + fX1_tenthOf m = nI (jb i m) := by
  have hj := jb_lt (i := i) hm
  have e := jb_t hm
  unfold fX1_signOf fX1_tenthOf
  simp only []
  rw [t32_eq, nI_toInt (by omega)]
  unfold jb
  by_cases c : i ≤ 0
  · rw [if_pos c, if_pos c, show (1 : Int32) * 11 = 11 by decide, a32 (by rw [e]; simp only [Int32.reduceToInt]; omega) (by rw [e]; simp only [Int32.reduceToInt]; omega), e]; simp only [Int32.reduceToInt]; omega
  · rw [if_neg c, if_neg c, show (0 : Int32) * 11 = 0 by decide, a32 (by rw [e]; simp only [Int32.reduceToInt]; omega) (by rw [e]; simp only [Int32.reduceToInt]; omega), e]; simp only [Int32.reduceToInt]; omega
theorem jb_band {i m : Int32} (hm : 0 ≤ m.toInt ∧ m.toInt ≤ 1000) : ¬ fX0_isBand (fX1_signOf i) (fX1_tenthOf m) = 0 := by
  have e := jb_t hm
  unfold fX0_isBand
  rw [bz_0]
  refine fun q => q ⟨?_, ?_⟩
  · unfold fX1_signOf
    by_cases c : i ≤ 0
    · simp only [if_pos c]; decide
    · simp only [if_neg c]; decide
  · unfold fX1_tenthOf
    rw [t32_le, t32_le, e]; simp only [Int32.reduceToInt]; omega
theorem jb_r {B : Bat} {W : Nat → Int64} {c : Nat} (h : IB B c) (r : RB B W) (i : Int32) : fX6_bandNow W i = nI (jb i (fX1_middle B)) := by
  have hm := mid_in h
  have hj := jb_lt (i := i) hm
  have e := jb_t hm
  unfold fX6_bandNow
  simp only [mid_eq h r]
  rw [t32_eq, nI_toInt (by omega)]
  unfold jb
  by_cases d : i ≤ 0
  · rw [if_pos d, if_pos d, show (11 : Int32) * 1 = 11 by decide, a32 (by rw [e]; simp only [Int32.reduceToInt]; omega) (by rw [e]; simp only [Int32.reduceToInt]; omega), e]; simp only [Int32.reduceToInt]; omega
  · rw [if_neg d, if_neg d, show (11 : Int32) * 0 = 0 by decide, a32 (by rw [e]; simp only [Int32.reduceToInt]; omega) (by rw [e]; simp only [Int32.reduceToInt]; omega), e]; simp only [Int32.reduceToInt]; omega
theorem n24 {j : Nat} (h : j < 22) : (24 + nI j).toNatClampNeg = 24 + j := by
  rw [show (24 : Int32) + nI j = nI (24 + j) from nI_add 24 j, nI_clamp (by omega)]
theorem n46 {j : Nat} (h : j < 22) : (46 + nI j).toNatClampNeg = 46 + j := by
  rw [show (46 : Int32) + nI j = nI (46 + j) from nI_add 46 j, nI_clamp (by omega)]
theorem tie_load {B : Bat} {M : Mdl} {c : Nat} (hc : c < 20480) (h : IB B c) (r : RB B M.2.2.1) (i v : Int32) : Tie M c (fX1_load B i v) (fX6_putLoad M i v) := by
  by_cases d : ¬ i.toInt = 0 ∧ -99 ≤ i.toInt ∧ i.toInt ≤ 99
  · have d1 : ¬ fX1_isLoad i = 0 := fun e => isL.mp e d
    have d2 : ¬ fX6_in i.toInt64 (-99) 99 = 0 := fun e => in6.mp e (by rw [w64]; exact d.2)
    have d3 : ¬ i = 0 := fun e => d.1 (by rw [e]; rfl)
    by_cases hv : 0 ≤ v.toInt ∧ v.toInt ≤ 9999
    · have v1 : ¬ fX1_isVoltage v = 0 := fun e => isV.mp e hv
      have v2 : ¬ fX6_in v.toInt64 0 9999 = 0 := fun e => in6.mp e (by rw [w64]; exact hv)
      have hm := mid_in h
      have hj := jb_lt (i := i) hm
      have ve := volt_eq h r hm
      unfold fX1_load fX6_putLoad
      simp only [mid_eq h r, ve.1, jb_r h r i]
      rw [if_neg d1, if_neg v1, if_neg d2, if_neg d3, if_neg v2]
      have ad : fX0_add B.2.2.1 B.2.2.2 (fX1_signOf i) (fX1_tenthOf (fX1_middle B)) ((100 * (fX2_voltsAt B.2.1 (fX1_middle B) - v)) / i) = (vp_updL B.2.2.1 (jb i (fX1_middle B)) (B.2.2.1 (jb i (fX1_middle B)) + ((100 * (fX2_voltsAt B.2.1 (fX1_middle B) - v)) / i).toInt64), upd B.2.2.2 (jb i (fX1_middle B)) (B.2.2.2 (jb i (fX1_middle B)) + 1)) := by
        unfold fX0_add
        simp only [jb_c hm]
        rw [if_neg (jb_band hm), nI_clamp (by omega)]
      rw [ad, n24 hj, n46 hj]
      have e1 : (fX2_voltsAt B.2.1 (fX1_middle B) - v).toInt = (fX2_voltsAt B.2.1 (fX1_middle B)).toInt - v.toInt := s32 (by omega) (by omega)
      have e2 : (100 * (fX2_voltsAt B.2.1 (fX1_middle B) - v)).toInt = 100 * ((fX2_voltsAt B.2.1 (fX1_middle B)).toInt - v.toInt) := by
        rw [m32 (by simp only [Int32.reduceToInt]; omega) (by simp only [Int32.reduceToInt]; omega), e1]; rfl
      have dv := (div_b (a := 100 * (fX2_voltsAt B.2.1 (fX1_middle B) - v)) (i := i) (by omega)).2
      revert dv
      generalize (100 * (fX2_voltsAt B.2.1 (fX1_middle B) - v)) / i = X
      generalize jb i (fX1_middle B) = j at hj ⊢
      intro dv
      obtain ⟨⟨r0, r1, r2, r3, r4, r5, r6, r7, r8, r9, r10, r11, r12⟩, rp, rc, rs⟩ := r
      have h7 := h.2.2.2.2.2.2
      obtain ⟨g1, g2, g3, g4, g5, g6, g7⟩ := IB_s h
      have hj7 := h7 j hj
      have rcj := rc j hj
      have f1 : (M.2.2.1 (24 + j) + 1).toInt = (B.2.2.2 j).toInt + 1 := by rw [a64 (by simp only [Int64.reduceToInt]; omega) (by simp only [Int64.reduceToInt]; omega), rcj]; rfl
      have f2 : (B.2.2.2 j + 1).toInt = (B.2.2.2 j).toInt + 1 := by rw [a32 (by simp only [Int32.reduceToInt]; omega) (by simp only [Int32.reduceToInt]; omega)]; rfl
      have f3 : (B.2.2.1 j + X.toInt64).toInt = (B.2.2.1 j).toInt + X.toInt := by rw [a64 (by rw [w64]; omega) (by rw [w64]; omega), w64]
      refine ⟨rfl, ⟨⟨?_, ?_, ?_, ?_, ?_, ?_, ?_, ?_, ?_, ?_, ?_, ?_, ?_⟩, fun k hk => ?_, fun k hk => ?_, fun k hk => ?_⟩, ⟨g1, g2, g3, g4, g5, g6, fun k hk => ?_⟩, ⟨fun _ _ _ => rfl, rfl, rfl⟩, .inr (.inr ?_)⟩
      · exact (congrArg _ ((uL_ne (by omega)).trans (uL_ne (by omega)))).trans r0
      · exact (congrArg _ ((uL_ne (by omega)).trans (uL_ne (by omega)))).trans r1
      · exact (congrArg _ ((uL_ne (by omega)).trans (uL_ne (by omega)))).trans r2
      · exact (congrArg _ ((uL_ne (by omega)).trans (uL_ne (by omega)))).trans r3
      · exact (congrArg _ ((uL_ne (by omega)).trans (uL_ne (by omega)))).trans r4
      · exact (congrArg _ ((uL_ne (by omega)).trans (uL_ne (by omega)))).trans r5
      · exact (congrArg _ ((uL_ne (by omega)).trans (uL_ne (by omega)))).trans r6
      · exact (congrArg _ ((uL_ne (by omega)).trans (uL_ne (by omega)))).trans r7
      · exact (congrArg _ ((uL_ne (by omega)).trans (uL_ne (by omega)))).trans r8
      · exact (congrArg _ ((uL_ne (by omega)).trans (uL_ne (by omega)))).trans r9
      · exact (congrArg _ ((uL_ne (by omega)).trans (uL_ne (by omega)))).trans r10
      · exact (congrArg _ ((uL_ne (by omega)).trans (uL_ne (by omega)))).trans r11
      · exact (congrArg _ ((uL_ne (by omega)).trans (uL_ne (by omega)))).trans r12
      · exact (congrArg _ ((uL_ne (by omega)).trans (uL_ne (by omega)))).trans (rp k hk)
      · by_cases e : k = j
        · simp (disch := omega) only [e, uL_at, uL_ne, up_at]; rw [f1, f2]
        · simp (disch := omega) only [uL_ne, up_ne e]; exact rc k hk
      · by_cases e : k = j
        · simp (disch := omega) only [e, uL_at, uL_ne]; rw [rs j hj]
        · simp (disch := omega) only [uL_ne]; exact rs k hk
      · by_cases e : k = j
        · simp (disch := omega) only [e, uL_at, up_at]; rw [f2, f3]; omega
        · simp (disch := omega) only [uL_ne, up_ne]; exact g7 k hk
      · show -10000002 < X.toInt
        omega
    · have e1 : fX1_load B i v = ((-10000002), B) := (if_neg d1).trans (if_pos (isV.mpr hv))
      have e2 : fX6_putLoad M i v = ((-10000002), M) := (if_neg d2).trans ((if_neg d3).trans (if_pos (in6.mpr (by rw [w64]; exact hv))))
      rw [e1, e2]; exact tie_bad h r
  · have e1 : fX1_load B i v = ((-10000002), B) := if_pos (isL.mpr d)
    have e2 : fX6_putLoad M i v = ((-10000002), M) := by
      by_cases d2 : -99 ≤ i.toInt ∧ i.toInt ≤ 99
      · refine (if_neg (fun e => in6.mp e (by rw [w64]; exact d2))).trans (if_pos (t32_eq.mpr ?_))
        simp only [Int32.reduceToInt]; omega
      · exact if_pos (in6.mpr (by rw [w64]; exact d2))
    rw [e1, e2]; exact tie_bad h r
