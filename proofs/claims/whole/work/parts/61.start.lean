/-! THE START: what the tables give; both objects as they are made -/
theorem law_env {args : Array Value} {s : State} (hts : ∀ w ∈ lw_tbl, w.before args s = true) : ∃ E : gEnv, gKn E s ∧ va_AO RX1 s := by
  have htsL : ∀ w ∈ wsL_law, w.before args s = true := fun w h => hts w (wsL_law_in w h)
  obtain ⟨c0, i0, k0⟩ := u_known (C := RX0) (T := TX0) (N := 2) (n := 2) htsL inlX0 (hts (.instantiable RX0 2) (by decide +kernel))
  obtain ⟨c1, i1, k1⟩ := u_known (C := RX1) (T := TX1) (N := 15) (n := 15) htsL inlX1 (hts (.instantiable RX1 15) (by decide +kernel))
  obtain ⟨c2, i2, k2⟩ := u_known (C := RX2) (T := TX2) (N := 1) (n := 1) htsL inlX2 (hts (.instantiable RX2 1) (by decide +kernel))
  obtain ⟨c3, i3, k3⟩ := u_known (C := RX3) (T := TX3) (N := 3) (n := 3) htsL inlX3 (hts (.instantiable RX3 3) (by decide +kernel))
  obtain ⟨c4, i4, k4⟩ := u_known (C := RX4) (T := TX4) (N := 8) (n := 8) htsL inlX4 (hts (.instantiable RX4 8) (by decide +kernel))
  obtain ⟨c5, i5, k5⟩ := u_known (C := RX5) (T := TX5) (N := 6) (n := 6) htsL inlX5 (hts (.instantiable RX5 6) (by decide +kernel))
  obtain ⟨c6, i6, k6⟩ := u_known (C := RX6) (T := TX6) (N := 15) (n := 15) htsL inlX6 (hts (.instantiable RX6 15) (by decide +kernel))
  obtain ⟨aI, zI, yI, fI1, fI2, fI3⟩ := Cond.arrayClass_spec (hts (.arrayClass .int) (by decide +kernel))
  obtain ⟨aJ, zJ, yJ, fJ1, fJ2, fJ3⟩ := Cond.arrayClass_spec (hts (.arrayClass .long) (by decide +kernel))
  obtain ⟨aB, zB, yB, fB1, fB2, fB3⟩ := Cond.arrayClass_spec (hts (.arrayClass .byte) (by decide +kernel))
  have hov := hts (.arrayOver (.object RX1)) (by decide +kernel)
  obtain ⟨yO, aO, zO, fO1, fO2, fO3, fO4, fO5⟩ := Cond.arrayOver_spec hov
  refine ⟨((fun k => if k = 0 then c0 else if k = 1 then c1 else if k = 2 then c2 else if k = 3 then c3 else if k = 4 then c4 else if k = 5 then c5 else c6, fun k => if k = 0 then i0 else if k = 1 then i1 else if k = 2 then i2 else if k = 3 then i3 else if k = 4 then i4 else if k = 5 then i5 else i6), aI, aJ, aB, aO), ⟨⟨fun k q hq => ?_, fun k q hq => ?_⟩, va_Nw.of rfl (hts (.methodLinkNest RX0 31 yX5_within RX5) (by decide +kernel)), va_Nw.of rfl (hts (.methodLinkNest RX1 81 yX5_within RX5) (by decide +kernel)), va_Nw.of rfl (hts (.methodLinkNest RX2 21 yX5_within RX5) (by decide +kernel)), va_Nw.of rfl (hts (.methodLinkNest RX4 29 yX5_within RX5) (by decide +kernel))⟩, va_AO.of hov⟩
  · match k, hq with
    | 0, hq => cases hq; exact k0
    | 1, hq => cases hq; exact k1
    | 2, hq => cases hq; exact k2
    | 3, hq => cases hq; exact k3
    | 4, hq => cases hq; exact k4
    | 5, hq => cases hq; exact k5
    | 6, hq => cases hq; exact k6
    | k + 7, hq => simp [vwCl] at hq
  · match k, hq with
    | 0, hq => cases hq; exact ⟨fun n z => ⟨fun k h => (by cases h), zI, fI2, yI, fI3⟩, fI1⟩
    | 1, hq => cases hq; exact ⟨fun n z => ⟨fun k h => (by cases h), zJ, fJ2, yJ, fJ3⟩, fJ1⟩
    | 2, hq => cases hq; exact ⟨fun n z => ⟨fun k h => (by cases h), zB, fB2, yB, fB3⟩, fB1⟩
    | 3, hq => cases hq; exact ⟨fun n z => ⟨fun k h => (by cases h), zO, fO3, yO, fO4⟩, zO, yO, fO3, fO4, fO1, fO5⟩
    | k + 4, hq => simp at hq
theorem lpC_in {k : Nat} : ∀ n : Nat, k < n → lpC n k = 3000 + (100 * (nI k))
  | 0, h => absurd h (by omega)
  | n + 1, h => by
    by_cases c : k = n
    · rw [c]; exact up_at
    · exact (up_ne c).trans (lpC_in n (by omega))
theorem lpNw_in {k : Nat} : ∀ n : Nat, k < n → lpNw n (13 + k) = 3000 + (100 * ((nI k).toInt64))
  | 0, h => absurd h (by omega)
  | n + 1, h => by
    by_cases c : k = n
    · rw [c]; exact uL_at
    · exact (uL_ne (by omega)).trans (lpNw_in n (by omega))
theorem lpNw_out {k : Nat} (h : k < 13 ∨ 24 ≤ k) : ∀ n : Nat, n ≤ 11 → lpNw n k = lpNw 0 k
  | 0, _ => rfl
  | n + 1, hn => (uL_ne (by omega)).trans (lpNw_out h n (by omega))
theorem lpC_v {k : Nat} (h : k < 11) : (lpC 11 k).toInt = 3000 + 100 * (k : Int) := by
  have e : (100 * nI k).toInt = 100 * (k : Int) := by rw [m32 (by rw [nI_toInt (by omega)]; simp only [Int32.reduceToInt]; omega) (by rw [nI_toInt (by omega)]; simp only [Int32.reduceToInt]; omega), nI_toInt (by omega)]; rfl
  rw [lpC_in 11 h, a32 (by rw [e]; simp only [Int32.reduceToInt]; omega) (by rw [e]; simp only [Int32.reduceToInt]; omega), e]; rfl
theorem lpNw_v {k : Nat} (h : k < 11) : (lpNw 11 (13 + k)).toInt = 3000 + 100 * (k : Int) := by
  have e : (100 * (nI k).toInt64).toInt = 100 * (k : Int) := by rw [m64 (by rw [w64, nI_toInt (by omega)]; simp only [Int64.reduceToInt]; omega) (by rw [w64, nI_toInt (by omega)]; simp only [Int64.reduceToInt]; omega), w64, nI_toInt (by omega)]; rfl
  rw [lpNw_in 11 h, a64 (by rw [e]; simp only [Int64.reduceToInt]; omega) (by rw [e]; simp only [Int64.reduceToInt]; omega), e]; rfl
theorem RB_0 : RB Bat0 (lpNw 11) := by
  have f : ∀ k, (k < 13 ∨ 24 ≤ k) → lpNw 11 k = lpNw 0 k := fun k hk => lpNw_out hk 11 (Nat.le_refl _)
  have z : ∀ k, 24 ≤ k → lpNw 0 k = 0 := fun k hk => (uL_ne (by omega)).trans ((uL_ne (by omega)).trans ((uL_ne (by omega)).trans ((uL_ne (by omega)).trans ((uL_ne (by omega)).trans ((uL_ne (by omega)).trans ((uL_ne (by omega)).trans (uL_ne (by omega))))))))
  refine ⟨⟨?_, ?_, ?_, ?_, ?_, ?_, ?_, ?_, ?_, ?_, ?_, ?_, ?_⟩, fun k hk => ?_, fun k hk => ?_, fun k hk => ?_⟩
  · rw [f 0 (by decide)]; decide +kernel
  · rw [f 1 (by decide)]; decide +kernel
  · rw [f 2 (by decide)]; decide +kernel
  · rw [f 3 (by decide)]; decide +kernel
  · rw [f 4 (by decide)]; decide +kernel
  · rw [f 5 (by decide)]; decide +kernel
  · rw [f 6 (by decide)]; decide +kernel
  · rw [f 7 (by decide)]; decide +kernel
  · rw [f 8 (by decide)]; decide +kernel
  · rw [f 9 (by decide)]; decide +kernel
  · rw [f 10 (by decide)]; decide +kernel
  · rw [f 11 (by decide)]; decide +kernel
  · rw [f 12 (by decide)]; decide +kernel
  · rw [lpNw_v hk]; exact (lpC_v hk).symm
  · rw [f _ (by omega), z _ (by omega)]; rfl
  · rw [f _ (by omega), z _ (by omega)]; rfl
theorem IB_0 : IB Bat0 0 := by
  refine ⟨by decide +kernel, by decide +kernel, by decide +kernel, by decide +kernel, by decide +kernel, ⟨fun k hk => ?_, fun k hk => ?_⟩, fun k hk => ?_⟩
  · show 0 ≤ (lpC 11 k).toInt ∧ (lpC 11 k).toInt ≤ 9999
    rw [lpC_v hk]; omega
  · show (lpC 11 k).toInt < (lpC 11 (k + 1)).toInt
    rw [lpC_v (by omega), lpC_v (by omega)]; omega
  · show 0 ≤ (0 : Int32).toInt ∧ (0 : Int32).toInt ≤ ((0 : Nat) : Int) ∧ -(999900 * (0 : Int32).toInt) ≤ (0 : Int64).toInt ∧ (0 : Int64).toInt ≤ 999900 * (0 : Int32).toInt
    decide
theorem Rel_0 : Rel G0 Mdl0 0 := ⟨⟨RB_0, IB_0⟩, rfl, ⟨by decide, 0, by decide, by decide +kernel, by decide +kernel, fun i hi => absurd hi (by omega)⟩, rfl, 0, by decide, by decide +kernel, by decide +kernel⟩
