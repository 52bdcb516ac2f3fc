/-! OPS: an order done by the class and by the reference -/
theorem up_at {f : Nat → Int32} {i : Nat} {x : Int32} : upd f i x i = x := if_pos rfl
theorem up_ne {f : Nat → Int32} {i k : Nat} {x : Int32} (h : k ≠ i) : upd f i x k = f k := if_neg h
theorem uL_at {f : Nat → Int64} {i : Nat} {x : Int64} : vp_updL f i x i = x := if_pos rfl
theorem uL_ne {f : Nat → Int64} {i k : Nat} {x : Int64} (h : k ≠ i) : vp_updL f i x k = f k := if_neg h
def Tie (M : Mdl) (c : Nat) (r : Int32 × Bat) (q : Int32 × Mdl) : Prop :=
  q.1 = r.1 ∧ RB r.2 q.2.2.2.1 ∧ IB r.2 (c + 1) ∧ ((∀ k, k ≠ 2 → k ≠ 3 → q.2.1 k = M.1 k) ∧ q.2.2.1 = M.2.1 ∧ q.2.2.2.2 = M.2.2.2) ∧ (r.1 = (-10000002) ∨ r.1 = (-10000003) ∨ -10000002 < r.1.toInt)
theorem IB_s {B : Bat} {c : Nat} (h : IB B c) : IB B (c + 1) := by
  obtain ⟨h1, h2, h3, h4, h5, h6, h7⟩ := h
  refine ⟨h1, h2, ?_, ?_, h5, h6, fun k hk => ?_⟩
  · omega
  · omega
  · have := h7 k hk; omega
theorem tie_bad {B : Bat} {M : Mdl} {c : Nat} (h : IB B c) (r : RB B M.2.2.1) : Tie M c ((-10000002), B) ((-10000002), M) := ⟨rfl, r, IB_s h, ⟨fun _ _ _ => rfl, rfl, rfl⟩, .inl rfl⟩
theorem tie_no {B : Bat} {M : Mdl} {c : Nat} (h : IB B c) (r : RB B M.2.2.1) : Tie M c ((-10000003), B) ((-10000003), M) := ⟨rfl, r, IB_s h, ⟨fun _ _ _ => rfl, rfl, rfl⟩, .inr (.inl rfl)⟩
theorem back32 {x : Int64} {y : Int32} (h : x.toInt = y.toInt) : x.toInt32 = y := t32_eq.mpr (by have := i32_up y; rw [l32 (by omega) (by omega), h])
theorem tie_offset {B : Bat} {M : Mdl} {c : Nat} (h : IB B c) (r : RB B M.2.2.1) (n : Int32) : Tie M c (fX1_putOffset B n) (fX6_putSetting M 11 n 9) := by
  by_cases d : 0 ≤ n.toInt ∧ n.toInt ≤ 9
  · have e1 : fX1_putOffset B n = (B.1 4, ((upd B.1 4 n), B.2.1, B.2.2.1, B.2.2.2)) := if_neg (fun e => (wi (x := n) (a := 0) (b := 9)).mp e d)
    have e2 : fX6_putSetting M 11 n 9 = ((M.2.2.1 11).toInt32, (M.1, M.2.1, (vp_updL M.2.2.1 11 n.toInt64), M.2.2.2)) := if_neg (fun e => in6.mp e (by rw [w64]; exact d))
    rw [e1, e2]
    obtain ⟨⟨r0, r1, r2, r3, r4, r5, r6, r7, r8, r9, r10, r11, r12⟩, rp, rc, rs⟩ := r
    obtain ⟨h1, h2, h3, h4, h5, h6, h7⟩ := IB_s h
    refine ⟨back32 r11, ⟨⟨r0, r1, r2, r3, r4, r5, r6, r7, r8, r9, r10, w64 n, r12⟩, fun k hk => ?_, fun k hk => ?_, fun k hk => ?_⟩, ⟨h1, ⟨d.1, d.2, h2.2.2.1, h2.2.2.2⟩, h3, h4, h5, h6, h7⟩, ⟨fun _ _ _ => rfl, rfl, rfl⟩, .inr (.inr ?_)⟩
    · exact (congrArg _ (uL_ne (by omega))).trans (rp k hk)
    · exact (congrArg _ (uL_ne (by omega))).trans (rc k hk)
    · exact (uL_ne (by omega)).trans (rs k hk)
    · show -10000002 < (B.1 4).toInt
      omega
  · have e1 : fX1_putOffset B n = ((-10000002), B) := if_pos ((wi (x := n) (a := 0) (b := 9)).mpr d)
    have e2 : fX6_putSetting M 11 n 9 = ((-10000002), M) := if_pos (in6.mpr (by rw [w64]; exact d))
    rw [e1, e2]; exact tie_bad h r
theorem tie_cling {B : Bat} {M : Mdl} {c : Nat} (h : IB B c) (r : RB B M.2.2.1) (n : Int32) : Tie M c (fX1_putCling B n) (fX6_putSetting M 12 n 500) := by
  by_cases d : 0 ≤ n.toInt ∧ n.toInt ≤ 500
  · have e1 : fX1_putCling B n = (B.1 5, ((upd B.1 5 n), B.2.1, B.2.2.1, B.2.2.2)) := if_neg (fun e => (wi (x := n) (a := 0) (b := 500)).mp e d)
    have e2 : fX6_putSetting M 12 n 500 = ((M.2.2.1 12).toInt32, (M.1, M.2.1, (vp_updL M.2.2.1 12 n.toInt64), M.2.2.2)) := if_neg (fun e => in6.mp e (by rw [w64]; exact d))
    rw [e1, e2]
    obtain ⟨⟨r0, r1, r2, r3, r4, r5, r6, r7, r8, r9, r10, r11, r12⟩, rp, rc, rs⟩ := r
    obtain ⟨h1, h2, h3, h4, h5, h6, h7⟩ := IB_s h
    refine ⟨back32 r12, ⟨⟨r0, r1, r2, r3, r4, r5, r6, r7, r8, r9, r10, r11, w64 n⟩, fun k hk => ?_, fun k hk => ?_, fun k hk => ?_⟩, ⟨h1, ⟨h2.1, h2.2.1, d.1, d.2⟩, h3, h4, h5, h6, h7⟩, ⟨fun _ _ _ => rfl, rfl, rfl⟩, .inr (.inr ?_)⟩
    · exact (congrArg _ (uL_ne (by omega))).trans (rp k hk)
    · exact (congrArg _ (uL_ne (by omega))).trans (rc k hk)
    · exact (uL_ne (by omega)).trans (rs k hk)
    · show -10000002 < (B.1 5).toInt
      omega
  · have e1 : fX1_putCling B n = ((-10000002), B) := if_pos ((wi (x := n) (a := 0) (b := 500)).mpr d)
    have e2 : fX6_putSetting M 12 n 500 = ((-10000002), M) := if_pos (in6.mpr (by rw [w64]; exact d))
    rw [e1, e2]; exact tie_bad h r
theorem isR {lo hi : Int32} : fX1_isRange lo hi = 0 ↔ ¬ ((0 ≤ lo.toInt ∧ lo.toInt ≤ 99999) ∧ (0 ≤ hi.toInt ∧ hi.toInt ≤ 99999) ∧ lo.toInt ≤ hi.toInt) := by
  unfold fX1_isRange
  rw [bz_0, t32_le, t32_le, t32_le, t32_le, t32_le]; exact Iff.rfl
theorem tie_hold {B : Bat} {M : Mdl} {c : Nat} (h : IB B c) (r : RB B M.2.2.1) (lo hi : Int32) : Tie M c (fX1_hold B lo hi) (fX6_putCharge M lo hi) := by
  have h0 := h.1
  have r3 : (M.2.2.1 3).toInt = (B.1 3).toInt := r.1.2.2.2.1
  by_cases d : 0 ≤ lo.toInt ∧ lo.toInt ≤ 99999
  · have d1 : ¬ fX6_in lo.toInt64 0 99999 = 0 := fun e => in6.mp e (by rw [w64]; exact d)
    by_cases d2 : lo.toInt ≤ hi.toInt ∧ hi.toInt ≤ (B.1 3).toInt
    · have d3 : ¬ fX6_in hi.toInt64 lo.toInt64 (M.2.2.1 3) = 0 := fun e => in6.mp e (by rw [w64, w64, r3]; exact d2)
      have e1 : fX1_hold B lo hi = (B.1 1, ((upd (upd B.1 0 lo) 1 hi), B.2.1, B.2.2.1, B.2.2.2)) := (if_neg (fun e => isR.mp e (by omega))).trans (if_pos (t32_le.mpr d2.2))
      have e2 : fX6_putCharge M lo hi = ((M.2.2.1 1).toInt32, (M.1, M.2.1, (vp_updL (vp_updL M.2.2.1 0 lo.toInt64) 1 hi.toInt64), M.2.2.2)) := (if_neg d1).trans (if_neg d3)
      rw [e1, e2]
      obtain ⟨⟨r0, r1, r2, r3, r4, r5, r6, r7, r8, r9, r10, r11, r12⟩, rp, rc, rs⟩ := r
      obtain ⟨h1, h2, h3, h4, h5, h6, h7⟩ := IB_s h
      refine ⟨back32 r1, ⟨⟨w64 lo, w64 hi, r2, r3, r4, r5, r6, r7, r8, r9, r10, r11, r12⟩, fun k hk => ?_, fun k hk => ?_, fun k hk => ?_⟩, ⟨⟨d.1, d2.1, d2.2, h1.2.2.2⟩, h2, h3, h4, h5, h6, h7⟩, ⟨fun _ _ _ => rfl, rfl, rfl⟩, .inr (.inr ?_)⟩
      · exact (congrArg _ ((uL_ne (by omega)).trans (uL_ne (by omega)))).trans (rp k hk)
      · exact (congrArg _ ((uL_ne (by omega)).trans (uL_ne (by omega)))).trans (rc k hk)
      · exact ((uL_ne (by omega)).trans (uL_ne (by omega))).trans (rs k hk)
      · show -10000002 < (B.1 1).toInt
        omega
    · have e2 : fX6_putCharge M lo hi = ((-10000002), M) := (if_neg d1).trans (if_pos (in6.mpr (by rw [w64, w64, r3]; exact d2)))
      have e1 : fX1_hold B lo hi = ((-10000002), B) := by
        by_cases d4 : fX1_isRange lo hi = 0
        · exact if_pos d4
        · refine (if_neg d4).trans (if_neg (fun e => d4 (isR.mpr ?_)))
          rw [t32_le] at e
          omega
      rw [e1, e2]; exact tie_bad h r
  · have e1 : fX1_hold B lo hi = ((-10000002), B) := if_pos (isR.mpr (by omega))
    have e2 : fX6_putCharge M lo hi = ((-10000002), M) := if_pos (in6.mpr (by rw [w64]; exact d))
    rw [e1, e2]; exact tie_bad h r
theorem lpZ_out {f : Nat → Int64} {b k : Nat} : ∀ n : Nat, (k < b ∨ b + n ≤ k) → lpZ f b n k = f k
  | 0, _ => rfl
  | n + 1, h => (uL_ne (by omega)).trans (lpZ_out n (by omega))
theorem lpZ_in {f : Nat → Int64} {b k : Nat} : ∀ n : Nat, b ≤ k → k < b + n → lpZ f b n k = 0
  | 0, _, _ => absurd ‹k < b + 0› (by omega)
  | n + 1, h1, h2 => by
    by_cases c : k = b + n
    · rw [c]; exact uL_at
    · exact (uL_ne c).trans (lpZ_in n h1 (by omega))
theorem lpForS_in {f : Nat → Int64} {k : Nat} : ∀ n : Nat, k < n → lpForS f n k = 0
  | 0, h => absurd h (by omega)
  | n + 1, h => by
    by_cases c : k = n
    · rw [c]; exact uL_at
    · exact (uL_ne c).trans (lpForS_in n (by omega))
theorem lpForN_in {f : Nat → Int32} {k : Nat} : ∀ n : Nat, k < n → lpForN f n k = 0
  | 0, h => absurd h (by omega)
  | n + 1, h => by
    by_cases c : k = n
    · rw [c]; exact up_at
    · exact (up_ne c).trans (lpForN_in n (by omega))
theorem tie_begin {B : Bat} {M : Mdl} {c : Nat} (h : IB B c) (r : RB B M.2.2.1) (lo hi : Int32) : Tie M c (fX1_begin B lo hi) (fX6_putCapacity M lo hi) := by
  have h0 := h.1
  by_cases d : (0 ≤ lo.toInt ∧ lo.toInt ≤ 99999) ∧ (lo.toInt ≤ hi.toInt ∧ hi.toInt ≤ 99999)
  · have d1 : ¬ fX6_in lo.toInt64 0 99999 = 0 := fun e => in6.mp e (by rw [w64]; exact d.1)
    have d3 : ¬ fX6_in hi.toInt64 lo.toInt64 99999 = 0 := fun e => in6.mp e (by rw [w64, w64]; exact d.2)
    have e1 : fX1_begin B lo hi = (B.1 2, ((upd (upd (upd (upd (upd (upd (upd (upd (upd (upd (upd B.1 2 lo) 3 hi) 0 0) 1 hi) 6 0) 7 0) 8 0) 9 (-10000001)) 10 (-10000001)) 11 0) 12 100), B.2.1, lpForS B.2.2.1 22, lpForN B.2.2.2 22)) := if_neg (fun e => isR.mp e (by omega))
    have e2 : fX6_putCapacity M lo hi = ((M.2.2.1 2).toInt32, (M.1, M.2.1, (lpZ (vp_updL (vp_updL (lpZ (vp_updL (vp_updL (vp_updL (vp_updL (vp_updL M.2.2.1 2 lo.toInt64) 3 hi.toInt64) 0 0) 1 hi.toInt64) 4 100) 5 4) 9 (-10000001)) 10 (-10000001)) 24 44), M.2.2.2)) := (if_neg d1).trans (if_neg d3)
    rw [e1, e2]
    obtain ⟨⟨r0, r1, r2, r3, r4, r5, r6, r7, r8, r9, r10, r11, r12⟩, rp, rc, rs⟩ := r
    obtain ⟨h1, h2, h3, h4, h5, h6, h7⟩ := IB_s h
    have z0 : (0 : Int32).toInt = 0 := rfl
    refine ⟨back32 r2, ⟨⟨?_, ?_, ?_, ?_, ?_, ?_, ?_, ?_, ?_, ?_, ?_, ?_, ?_⟩, fun k hk => ?_, fun k hk => ?_, fun k hk => ?_⟩, ⟨?_, h2, ?_, ?_, ?_, h6, fun k hk => ?_⟩, ⟨fun _ _ _ => rfl, rfl, rfl⟩, .inr (.inr ?_)⟩
    · simp (disch := omega) only [lpZ_out, uL_at, uL_ne, up_at, up_ne]; rfl
    · simp (disch := omega) only [lpZ_out, uL_at, uL_ne, up_at, up_ne, w64]
    · simp (disch := omega) only [lpZ_out, uL_at, uL_ne, up_at, up_ne, w64]
    · simp (disch := omega) only [lpZ_out, uL_at, uL_ne, up_at, up_ne, w64]
    · simp (disch := omega) only [lpZ_out, uL_at, uL_ne, up_at, up_ne]; rfl
    · simp (disch := omega) only [lpZ_out, lpZ_in, uL_at, uL_ne, up_at, up_ne]; rfl
    · simp (disch := omega) only [lpZ_out, lpZ_in, uL_at, uL_ne, up_at, up_ne]; rfl
    · simp (disch := omega) only [lpZ_out, lpZ_in, uL_at, uL_ne, up_at, up_ne]; rfl
    · simp (disch := omega) only [lpZ_out, lpZ_in, uL_at, uL_ne, up_at, up_ne]; rfl
    · simp (disch := omega) only [lpZ_out, uL_at, uL_ne, up_at, up_ne]; rfl
    · simp (disch := omega) only [lpZ_out, uL_at, uL_ne, up_at, up_ne]; rfl
    · simp (disch := omega) only [lpZ_out, uL_at, uL_ne, up_at, up_ne]; exact r11
    · simp (disch := omega) only [lpZ_out, uL_at, uL_ne, up_at, up_ne]; exact r12
    · simp (disch := omega) only [lpZ_out, uL_ne]; exact rp k hk
    · simp (disch := omega) only [lpZ_in, lpForN_in]; rfl
    · simp (disch := omega) only [lpZ_in, lpForS_in]
    · simp (disch := omega) only [up_at, up_ne, z0]; omega
    · simp (disch := omega) only [up_at, up_ne, z0]; omega
    · simp (disch := omega) only [up_at, up_ne, z0]; simp only [Int32.reduceToInt]; omega
    · simp (disch := omega) only [up_at, up_ne, z0]; simp only [Int32.reduceToInt]; omega
    · simp (disch := omega) only [lpForN_in, lpForS_in, z0]; simp only [Int64.reduceToInt]; omega
    · show -10000002 < (B.1 2).toInt
      omega
  · have e1 : fX1_begin B lo hi = ((-10000002), B) := if_pos (isR.mpr (by omega))
    have e2 : fX6_putCapacity M lo hi = ((-10000002), M) := by
      by_cases d1 : 0 ≤ lo.toInt ∧ lo.toInt ≤ 99999
      · exact (if_neg (fun e => in6.mp e (by rw [w64]; exact d1))).trans (if_pos (in6.mpr (by rw [w64, w64]; exact fun e => d ⟨d1, e⟩)))
      · exact if_pos (in6.mpr (by rw [w64]; exact d1))
    rw [e1, e2]; exact tie_bad h r
