/-! POINT -/
theorem PI_up {C : Nat → Int32} (h : PI (fun k => (C k).toInt)) {j : Nat} {v : Int32} (hj : j ≤ 10) (hv : 0 ≤ v.toInt ∧ v.toInt ≤ 9999) (h1 : ∀ i, j = i + 1 → (C i).toInt < v.toInt) (h2 : j < 10 → v.toInt < (C (j + 1)).toInt) : PI (fun k => (upd C j v k).toInt) := by
  refine ⟨fun k hk => ?_, fun k hk => ?_⟩
  · show 0 ≤ (upd C j v k).toInt ∧ (upd C j v k).toInt ≤ 9999
    by_cases c : k = j
    · rw [c, up_at]; exact hv
    · rw [up_ne c]; exact h.1 k hk
  · show (upd C j v k).toInt < (upd C j v (k + 1)).toInt
    by_cases c : k = j
    · rw [c, up_at, up_ne (show j + 1 ≠ j by omega)]; exact h2 (by omega)
    · rw [up_ne c]
      by_cases d : k + 1 = j
      · rw [d, up_at]; exact h1 k d.symm
      · rw [up_ne d]; exact h.2 k hk
def ppOk (C : Nat → Int32) (j : Nat) (v : Int32) : Prop := (∀ i, j = i + 1 → (C i).toInt < v.toInt) ∧ (j < 10 → v.toInt < (C (j + 1)).toInt)
theorem nI_m1 {j : Nat} (h : 0 < j) : nI j - 1 = nI (j - 1) := by
  obtain ⟨i, rfl⟩ : ∃ i, j = i + 1 := ⟨j - 1, by omega⟩
  rw [nI_pred]; rfl
theorem pp_y {C : Nat → Int32} {j : Nat} {v : Int32} (hj : j ≤ 10) (hv : 0 ≤ v.toInt ∧ v.toInt ≤ 9999) (h : ppOk C j v) : fX2_putPoint C (nI j) v = (C j, upd C j v) := by
  have ej : (nI j).toInt = (j : Int) := nI_toInt (by omega)
  unfold fX2_putPoint
  simp only []
  rw [if_neg (show ¬ fX5_within (nI j) 0 10 = 0 from fun e => (wi (x := nI j) (a := 0) (b := 10)).mp e (by rw [ej]; simp only [Int32.reduceToInt]; omega)), if_neg (show ¬ fX5_within v 0 9999 = 0 from fun e => (wi (x := v) (a := 0) (b := 9999)).mp e hv), nI_clamp (show j < 2 ^ 31 by omega)]
  by_cases c : j = 0
  · rw [if_pos (show nI j ≤ 0 by rw [t32_le, ej]; simp only [Int32.reduceToInt]; omega), if_neg (show ¬ 10 ≤ nI j by rw [t32_le, ej]; simp only [Int32.reduceToInt]; omega), ← nI_succ, nI_clamp (show j + 1 < 2 ^ 31 by omega), if_pos (show v < C (j + 1) from t32_lt.mpr (h.2 (by omega)))]
  · rw [if_neg (show ¬ nI j ≤ 0 by rw [t32_le, ej]; simp only [Int32.reduceToInt]; omega), nI_m1 (by omega), nI_clamp (show j - 1 < 2 ^ 31 by omega), if_neg (show ¬ v ≤ C (j - 1) by have := h.1 (j - 1) (by omega); rw [t32_le]; omega)]
    by_cases d : j = 10
    · rw [if_pos (show 10 ≤ nI j by rw [t32_le, ej]; simp only [Int32.reduceToInt]; omega)]
    · rw [if_neg (show ¬ 10 ≤ nI j by rw [t32_le, ej]; simp only [Int32.reduceToInt]; omega), ← nI_succ, nI_clamp (show j + 1 < 2 ^ 31 by omega), if_pos (show v < C (j + 1) from t32_lt.mpr (h.2 (by omega)))]
theorem pp_n {C : Nat → Int32} {j : Nat} {v : Int32} (hj : j ≤ 10) (hv : 0 ≤ v.toInt ∧ v.toInt ≤ 9999) (h : ¬ ppOk C j v) : fX2_putPoint C (nI j) v = ((-10000003), C) := by
  have ej : (nI j).toInt = (j : Int) := nI_toInt (by omega)
  unfold fX2_putPoint
  simp only []
  rw [if_neg (show ¬ fX5_within (nI j) 0 10 = 0 from fun e => (wi (x := nI j) (a := 0) (b := 10)).mp e (by rw [ej]; simp only [Int32.reduceToInt]; omega)), if_neg (show ¬ fX5_within v 0 9999 = 0 from fun e => (wi (x := v) (a := 0) (b := 9999)).mp e hv)]
  by_cases c : j = 0
  · rw [if_pos (show nI j ≤ 0 by rw [t32_le, ej]; simp only [Int32.reduceToInt]; omega), if_neg (show ¬ 10 ≤ nI j by rw [t32_le, ej]; simp only [Int32.reduceToInt]; omega), ← nI_succ, nI_clamp (show j + 1 < 2 ^ 31 by omega), if_neg (show ¬ v < C (j + 1) from fun e => h ⟨fun i hi => absurd hi (by omega), fun _ => t32_lt.mp e⟩)]
  · rw [if_neg (show ¬ nI j ≤ 0 by rw [t32_le, ej]; simp only [Int32.reduceToInt]; omega), nI_m1 (by omega), nI_clamp (show j - 1 < 2 ^ 31 by omega)]
    by_cases f : v ≤ C (j - 1)
    · rw [if_pos f]
    · rw [if_neg f]
      rw [t32_le] at f
      have f1 : ∀ i, j = i + 1 → (C i).toInt < v.toInt := fun i hi => by rw [show i = j - 1 by omega]; omega
      rw [if_neg (show ¬ 10 ≤ nI j from fun e => by rw [t32_le, ej] at e; simp only [Int32.reduceToInt] at e; exact h ⟨f1, fun q => absurd q (by omega)⟩), ← nI_succ, nI_clamp (show j + 1 < 2 ^ 31 by omega), if_neg (show ¬ v < C (j + 1) from fun e => h ⟨f1, fun _ => t32_lt.mp e⟩)]
theorem n13 {j : Nat} (h : j ≤ 10) : (13 + nI j).toNatClampNeg = 13 + j := by
  rw [show (13 : Int32) + nI j = nI (13 + j) from nI_add 13 j, nI_clamp (by omega)]
theorem n13s {j : Nat} (h : j ≤ 10) : (13 + nI j + 1).toNatClampNeg = 13 + (j + 1) := by
  rw [show (13 : Int32) + nI j = nI (13 + j) from nI_add 13 j, ← nI_succ, nI_clamp (by omega)]; rfl
theorem n13p {j : Nat} (h : j ≤ 10) (h0 : 0 < j) : (13 + nI j - 1).toNatClampNeg = 13 + (j - 1) := by
  rw [show (13 : Int32) + nI j = nI (13 + j) from nI_add 13 j, nI_m1 (by omega), nI_clamp (by omega)]; omega
theorem pr_y {C : Nat → Int32} {M : Mdl} (hW : ∀ k, k < 11 → (M.2.2.1 (13 + k)).toInt = (C k).toInt) {j : Nat} {v : Int32} (hj : j ≤ 10) (hv : 0 ≤ v.toInt ∧ v.toInt ≤ 9999) (h : ppOk C j v) : fX6_putPoint M (nI j) v = ((M.2.2.1 (13 + j)).toInt32, (M.1, M.2.1, vp_updL M.2.2.1 (13 + j) v.toInt64, M.2.2.2)) := by
  have ej : (nI j).toInt = (j : Int) := nI_toInt (by omega)
  unfold fX6_putPoint
  simp only []
  rw [if_neg (show ¬ fX6_in (nI j).toInt64 0 10 = 0 from fun e => in6.mp e (by rw [w64, ej]; simp only [Int64.reduceToInt]; omega)), if_neg (show ¬ fX6_in v.toInt64 0 9999 = 0 from fun e => in6.mp e (by rw [w64]; exact hv)), n13 hj]
  by_cases c : j = 0
  · rw [if_pos (show nI j ≤ 0 by rw [t32_le, ej]; simp only [Int32.reduceToInt]; omega), if_neg (show ¬ 10 ≤ nI j by rw [t32_le, ej]; simp only [Int32.reduceToInt]; omega), n13s hj, if_pos (show v.toInt64 < M.2.2.1 (13 + (j + 1)) by rw [t64_lt, w64, hW _ (by omega)]; exact h.2 (by omega))]
  · rw [if_neg (show ¬ nI j ≤ 0 by rw [t32_le, ej]; simp only [Int32.reduceToInt]; omega), n13p hj (by omega), if_neg (show ¬ v.toInt64 ≤ M.2.2.1 (13 + (j - 1)) by have := h.1 (j - 1) (by omega); rw [t64_le, w64, hW _ (by omega)]; omega)]
    by_cases d : j = 10
    · rw [if_pos (show 10 ≤ nI j by rw [t32_le, ej]; simp only [Int32.reduceToInt]; omega)]
    · rw [if_neg (show ¬ 10 ≤ nI j by rw [t32_le, ej]; simp only [Int32.reduceToInt]; omega), n13s hj, if_pos (show v.toInt64 < M.2.2.1 (13 + (j + 1)) by rw [t64_lt, w64, hW _ (by omega)]; exact h.2 (by omega))]
theorem pr_n {C : Nat → Int32} {M : Mdl} (hW : ∀ k, k < 11 → (M.2.2.1 (13 + k)).toInt = (C k).toInt) {j : Nat} {v : Int32} (hj : j ≤ 10) (hv : 0 ≤ v.toInt ∧ v.toInt ≤ 9999) (h : ¬ ppOk C j v) : fX6_putPoint M (nI j) v = ((-10000003), M) := by
  have ej : (nI j).toInt = (j : Int) := nI_toInt (by omega)
  unfold fX6_putPoint
  simp only []
  rw [if_neg (show ¬ fX6_in (nI j).toInt64 0 10 = 0 from fun e => in6.mp e (by rw [w64, ej]; simp only [Int64.reduceToInt]; omega)), if_neg (show ¬ fX6_in v.toInt64 0 9999 = 0 from fun e => in6.mp e (by rw [w64]; exact hv))]
  by_cases c : j = 0
  · rw [if_pos (show nI j ≤ 0 by rw [t32_le, ej]; simp only [Int32.reduceToInt]; omega), if_neg (show ¬ 10 ≤ nI j by rw [t32_le, ej]; simp only [Int32.reduceToInt]; omega), n13s hj, if_neg (show ¬ v.toInt64 < M.2.2.1 (13 + (j + 1)) by rw [t64_lt, w64, hW _ (by omega)]; exact fun e => h ⟨fun i hi => absurd hi (by omega), fun _ => e⟩)]
  · rw [if_neg (show ¬ nI j ≤ 0 by rw [t32_le, ej]; simp only [Int32.reduceToInt]; omega), n13p hj (by omega)]
    by_cases f : v.toInt64 ≤ M.2.2.1 (13 + (j - 1))
    · rw [if_pos f]
    · rw [if_neg f]
      rw [t64_le, w64, hW _ (by omega)] at f
      have f1 : ∀ i, j = i + 1 → (C i).toInt < v.toInt := fun i hi => by rw [show i = j - 1 by omega]; omega
      rw [if_neg (show ¬ 10 ≤ nI j from fun e => by rw [t32_le, ej] at e; simp only [Int32.reduceToInt] at e; exact h ⟨f1, fun q => absurd q (by omega)⟩), n13s hj]
      by_cases d : j = 10
      · exact absurd ⟨f1, fun q => absurd q (by omega)⟩ h
      · rw [if_neg (show ¬ v.toInt64 < M.2.2.1 (13 + (j + 1)) by rw [t64_lt, w64, hW _ (by omega)]; exact fun e => h ⟨f1, fun _ => e⟩)]
theorem tie_point {B : Bat} {M : Mdl} {c : Nat} (h : IB B c) (r : RB B M.2.2.1) (k v : Int32) : Tie M c (fX1_putPoint B k v) (fX6_putPoint M k v) := by
  by_cases d : 0 ≤ k.toInt ∧ k.toInt ≤ 10
  · by_cases hv : 0 ≤ v.toInt ∧ v.toInt ≤ 9999
    · obtain ⟨j, hj, rfl⟩ : ∃ j, j ≤ 10 ∧ nI j = k := ⟨k.toInt.toNat, by omega, nI_Of d.1⟩
      by_cases o : ppOk B.2.1 j v
      · have e1 : fX1_putPoint B (nI j) v = (B.2.1 j, (B.1, upd B.2.1 j v, B.2.2.1, B.2.2.2)) := by
          unfold fX1_putPoint; simp only [pp_y hj hv o]
        rw [e1, pr_y r.2.1 hj hv o]
        have q := r.2.1 j (by omega)
        have q2 := (IB_pi h).1 j (by omega)
        have q3 : 0 ≤ (B.2.1 j).toInt := q2.1
        obtain ⟨⟨r0, r1, r2, r3, r4, r5, r6, r7, r8, r9, r10, r11, r12⟩, rp, rc, rs⟩ := r
        have hpi := PI_up (IB_pi h) hj hv o.1 o.2
        obtain ⟨h1, h2, h3, h4, h5, h6, h7⟩ := IB_s h
        refine ⟨back32 q, ⟨⟨?_, ?_, ?_, ?_, ?_, ?_, ?_, ?_, ?_, ?_, ?_, ?_, ?_⟩, fun k hk => ?_, fun k hk => ?_, fun k hk => ?_⟩, ⟨h1, h2, h3, h4, h5, hpi, h7⟩, ⟨fun _ _ _ => rfl, rfl, rfl⟩, .inr (.inr ?_)⟩
        · exact (congrArg _ (uL_ne (by omega))).trans r0
        · exact (congrArg _ (uL_ne (by omega))).trans r1
        · exact (congrArg _ (uL_ne (by omega))).trans r2
        · exact (congrArg _ (uL_ne (by omega))).trans r3
        · exact (congrArg _ (uL_ne (by omega))).trans r4
        · exact (congrArg _ (uL_ne (by omega))).trans r5
        · exact (congrArg _ (uL_ne (by omega))).trans r6
        · exact (congrArg _ (uL_ne (by omega))).trans r7
        · exact (congrArg _ (uL_ne (by omega))).trans r8
        · exact (congrArg _ (uL_ne (by omega))).trans r9
        · exact (congrArg _ (uL_ne (by omega))).trans r10
        · exact (congrArg _ (uL_ne (by omega))).trans r11
        · exact (congrArg _ (uL_ne (by omega))).trans r12
        · show (vp_updL M.2.2.1 (13 + j) v.toInt64 (13 + k)).toInt = (upd B.2.1 j v k).toInt
          by_cases e : k = j
          · rw [e, uL_at, up_at, w64]
          · rw [uL_ne (by omega), up_ne e]; exact rp k hk
        · exact (congrArg _ (uL_ne (by omega))).trans (rc k hk)
        · exact (uL_ne (by omega)).trans (rs k hk)
        · show -10000002 < (B.2.1 j).toInt
          omega
      · have e1 : fX1_putPoint B (nI j) v = ((-10000003), B) := by
          unfold fX1_putPoint; simp only [pp_n hj hv o]
        rw [e1, pr_n r.2.1 hj hv o]; exact tie_no h r
    · have e1 : fX1_putPoint B k v = ((-10000002), B) := by
        unfold fX1_putPoint fX2_putPoint
        simp only []
        rw [if_neg (fun e => (wi (x := k) (a := 0) (b := 10)).mp e d), if_pos ((wi (x := v) (a := 0) (b := 9999)).mpr hv)]
      have e2 : fX6_putPoint M k v = ((-10000002), M) := (if_neg (fun e => in6.mp e (by rw [w64]; exact d))).trans (if_pos (in6.mpr (by rw [w64]; exact hv)))
      rw [e1, e2]; exact tie_bad h r
  · have e1 : fX1_putPoint B k v = ((-10000002), B) := by
      unfold fX1_putPoint fX2_putPoint
      simp only []
      rw [if_pos ((wi (x := k) (a := 0) (b := 10)).mpr d)]
    have e2 : fX6_putPoint M k v = ((-10000002), M) := if_pos (in6.mpr (by rw [w64]; exact d))
    rw [e1, e2]; exact tie_bad h r
