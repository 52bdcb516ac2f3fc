/-! FACE: every call, done by both, answers alike and keeps the tie; the contracts of both at once -/
/-- what the law's walk wants of a call of both -/
abbrev gBi (l : Launch) (E : gEnv) (g0 : Nat) (b : Nat → Nat) (u0 u1 : Nat) (rr : Nat → Nat → Nat) (t : Nat → Nat) (a : Nat → Nat) (G : GS) (M : Mdl) (c : Nat) (y5 : MethodName) (w5 : List Cond) (r5 : Room) (y6 : MethodName) (w6 : List Cond) (r6 : Room) (As : List Value) : Prop := ∃ (v : Int32) (G' : GS) (M' : Mdl), gMi l E y5 w5 r5 (.ref g0 :: As) (wG E g0 b u0 u1 rr t G) v (wG E g0 b u0 u1 rr t G') ∧ gMi l E y6 w6 r6 (.ref (a 0) :: As) (wM E a M) v (wM E a M') ∧ Rel G' M' (c + 40)
abbrev gBl (l : Launch) (E : gEnv) (g0 : Nat) (b : Nat → Nat) (u0 u1 : Nat) (rr : Nat → Nat → Nat) (t : Nat → Nat) (a : Nat → Nat) (G : GS) (M : Mdl) (c : Nat) (y5 : MethodName) (w5 : List Cond) (r5 : Room) (y6 : MethodName) (w6 : List Cond) (r6 : Room) (As : List Value) : Prop := ∃ (v : Int64) (G' : GS) (M' : Mdl), gMl l E y5 w5 r5 (.ref g0 :: As) (wG E g0 b u0 u1 rr t G) v (wG E g0 b u0 u1 rr t G') ∧ gMl l E y6 w6 r6 (.ref (a 0) :: As) (wM E a M) v (wM E a M') ∧ Rel G' M' (c + 40)
section FACE
variable {l : Launch} {E : gEnv} {g0 : Nat} {b : Nat → Nat} {u0 u1 : Nat} {rr : Nat → Nat → Nat} {t : Nat → Nat} {a : Nat → Nat} {G : GS} {M : Mdl} {c : Nat}
theorem gB_of {y5 y6 : MethodName} {w5 w6 : List Cond} {r5 r6 : Room} {As : List Value} {p : Int32 × GS} {q : Int32 × Mdl} {d : Nat} (hd : d ≤ 40) (h5 : gMi l E y5 w5 r5 (.ref g0 :: As) (wG E g0 b u0 u1 rr t G) p.1 (wG E g0 b u0 u1 rr t p.2)) (h6 : gMi l E y6 w6 r6 (.ref (a 0) :: As) (wM E a M) q.1 (wM E a q.2)) (h : q.1 = p.1 ∧ Rel p.2 q.2 (c + d)) : gBi l E g0 b u0 u1 rr t a G M c y5 w5 r5 y6 w6 r6 As := by
  refine ⟨p.1, p.2, q.2, h5, ?_, ?_⟩
  · rw [← h.1]; exact h6
  · have k := Rel_m (40 - d) h.2
    rw [show c + d + (40 - d) = c + 40 by omega] at k
    exact k
theorem rel_j (R : Rel G M c) : G.2.2.1 < 6 := R.2.2.1.1
theorem B_begins (R : Rel G M c) (lo up : Int32) : gBi l E g0 b u0 u1 rr t a G M c yX5_begins wsX5_begins rX5_begins yX6_begins wsX6_begins rX6_begins [.int lo, .int up] := by
  have s := settle R (tie_begin (M := fX6_laysAside M) R.1.2 R.1.1 lo up)
  exact gB_of (p := fX5_begins G lo up) (q := fX6_begins M lo up) (d := 1) (by decide) (kX5_begins l E g0 b u0 u1 rr t G lo up (rel_j R)) (kX6_begins l E a M lo up s.2.1 s.2.2) s.1
theorem B_holds (R : Rel G M c) (lo up : Int32) : gBi l E g0 b u0 u1 rr t a G M c yX5_holds wsX5_holds rX5_holds yX6_holds wsX6_holds rX6_holds [.int lo, .int up] := by
  have s := settle R (tie_hold (M := fX6_laysAside M) R.1.2 R.1.1 lo up)
  exact gB_of (p := fX5_holds G lo up) (q := fX6_holds M lo up) (d := 1) (by decide) (kX5_holds l E g0 b u0 u1 rr t G lo up (rel_j R)) (kX6_holds l E a M lo up s.2.1 s.2.2) s.1
theorem B_offset (R : Rel G M c) (n : Int32) : gBi l E g0 b u0 u1 rr t a G M c yX5_offset wsX5_offset rX5_offset yX6_offset wsX6_offset rX6_offset [.int n] := by
  have s := settle R (tie_offset (M := fX6_laysAside M) R.1.2 R.1.1 n)
  exact gB_of (p := fX5_offset G n) (q := fX6_offset M n) (d := 1) (by decide) (kX5_offset l E g0 b u0 u1 rr t G n (rel_j R)) (kX6_offset l E a M n s.2.1 s.2.2) s.1
theorem B_clings (R : Rel G M c) (n : Int32) : gBi l E g0 b u0 u1 rr t a G M c yX5_clings wsX5_clings rX5_clings yX6_clings wsX6_clings rX6_clings [.int n] := by
  have s := settle R (tie_cling (M := fX6_laysAside M) R.1.2 R.1.1 n)
  exact gB_of (p := fX5_clings G n) (q := fX6_clings M n) (d := 1) (by decide) (kX5_clings l E g0 b u0 u1 rr t G n (rel_j R)) (kX6_clings l E a M n s.2.1 s.2.2) s.1
theorem B_curve (R : Rel G M c) (k v : Int32) : gBi l E g0 b u0 u1 rr t a G M c yX5_curve wsX5_curve rX5_curve yX6_curve wsX6_curve rX6_curve [.int k, .int v] := by
  have s := settle R (tie_point (M := fX6_laysAside M) R.1.2 R.1.1 k v)
  exact gB_of (p := fX5_curve G k v) (q := fX6_curve M k v) (d := 1) (by decide) (kX5_curve l E g0 b u0 u1 rr t G k v (rel_j R)) (kX6_curve l E a M k v s.2.1 s.2.2) s.1
theorem B_passes (R : Rel G M c) (hc : c < 20480) (i n : Int32) : gBi l E g0 b u0 u1 rr t a G M c yX5_passes wsX5_passes rX5_passes yX6_passes wsX6_passes rX6_passes [.int i, .int n] := by
  have s := settle R (tie_pass (M := fX6_laysAside M) hc R.1.2 R.1.1 i n)
  exact gB_of (p := fX5_passes G i n) (q := fX6_passes M i n) (d := 1) (by decide) (kX5_passes l E g0 b u0 u1 rr t G i n (rel_j R)) (kX6_passes l E a M i n s.2.1 s.2.2) s.1
theorem B_rests (R : Rel G M c) (hc : c < 20480) (v : Int32) : gBi l E g0 b u0 u1 rr t a G M c yX5_rests wsX5_rests rX5_rests yX6_rests wsX6_rests rX6_rests [.int v] := by
  have s := settle R (tie_rest (M := fX6_laysAside M) hc R.1.2 R.1.1 v)
  exact gB_of (p := fX5_rests G v) (q := fX6_rests M v) (d := 1) (by decide) (kX5_rests l E g0 b u0 u1 rr t G v (rel_j R)) (kX6_rests l E a M v s.2.1 s.2.2) s.1
theorem B_loads (R : Rel G M c) (hc : c < 20480) (i v : Int32) : gBi l E g0 b u0 u1 rr t a G M c yX5_loads wsX5_loads rX5_loads yX6_loads wsX6_loads rX6_loads [.int i, .int v] := by
  have s := settle R (tie_load (M := fX6_laysAside M) hc R.1.2 R.1.1 i v)
  have hm : 0 ≤ (fX6_middle (fX6_laysAside M).2.2.1).toInt ∧ (fX6_middle (fX6_laysAside M).2.2.1).toInt ≤ 1000 := by
    show 0 ≤ (fX6_middle M.2.2.1).toInt ∧ (fX6_middle M.2.2.1).toInt ≤ 1000
    rw [mid_eq R.1.2 R.1.1]; exact mid_in R.1.2
  exact gB_of (p := fX5_loads G i v) (q := fX6_loads M i v) (d := 1) (by decide) (kX5_loads l E g0 b u0 u1 rr t G i v (rel_j R)) (kX6_loads l E a M i v hm s.2.1 s.2.2) s.1
theorem bad_q {M : Mdl} {G : GS} (R : Rel G M c) {p : Int32 × GS} {q : Int32 × Mdl} (h1 : p = fX5_counted G (-10000002)) (h2 : q = fX6_refuses M (-10000002)) : q.1 = p.1 ∧ Rel p.2 q.2 (c + 0) := by
  rw [h1, h2]; exact rel_bad R
theorem no_q {M : Mdl} {G : GS} (R : Rel G M c) {p : Int32 × GS} {q : Int32 × Mdl} (h1 : p = fX5_counted G (-10000003)) (h2 : q = fX6_refuses M (-10000003)) : q.1 = p.1 ∧ Rel p.2 q.2 (c + 0) := by
  rw [h1, h2]; exact rel_no R
theorem same_q {M : Mdl} {G : GS} (R : Rel G M c) {p : Int32 × GS} {q : Int32 × Mdl} {x y : Int32} (h1 : p = (x, G)) (h2 : q = (y, M)) (h : y = x) : q.1 = p.1 ∧ Rel p.2 q.2 (c + 0) := by
  rw [h1, h2]; exact ⟨h, R⟩
theorem told_q (R : Rel G M c) (w : Int32) : (fX6_told M w).1 = (fX5_told G w).1 ∧ Rel (fX5_told G w).2 (fX6_told M w).2 (c + 0) := by
  by_cases d : 0 ≤ w.toInt ∧ w.toInt ≤ 11
  · have e1 : fX5_told G w = (fX1_tell G.2.1 w, G) := if_neg (fun e => (wi (x := w) (a := 0) (b := 11)).mp e d)
    have e2 : fX6_told M w = (fX6_toldOf M.2.2.1 w, M) := if_neg (fun e => in6.mp e (by rw [w64]; exact d))
    obtain ⟨j, hj, rfl⟩ : ∃ j, j ≤ 11 ∧ nI j = w := ⟨w.toInt.toNat, by omega, nI_Of d.1⟩
    exact same_q R e1 e2 (tell_eq R.1.2 R.1.1 hj)
  · exact bad_q R (if_pos ((wi (x := w) (a := 0) (b := 11)).mpr d)) (if_pos (in6.mpr (by rw [w64]; exact d)))
theorem volts_q (R : Rel G M c) (v : Int32) : (fX6_volts M v).1 = (fX5_volts G v).1 ∧ Rel (fX5_volts G v).2 (fX6_volts M v).2 (c + 0) := by
  by_cases d : 0 ≤ v.toInt ∧ v.toInt ≤ 1000
  · have ve := volt_eq R.1.2 R.1.1 d
    have e1 : fX5_volts G v = (fX2_voltsAt G.2.1.2.1 v, G) := cnt_n (show -10000002 < (fX2_voltsAt G.2.1.2.1 v).toInt by omega)
    have e2 : fX6_volts M v = (fX6_voltsAt M.2.2.1 v, M) := if_neg (fun e => in6.mp e (by rw [w64]; exact d))
    exact same_q R e1 e2 ve.1
  · have e0 : fX2_voltsAt G.2.1.2.1 v = (-10000002) := by
      unfold fX2_voltsAt
      by_cases g : v < 0
      · rw [if_pos g]
      · rw [if_neg g, if_neg (show ¬ v ≤ 1000 by rw [t32_lt] at g; rw [t32_le]; simp only [Int32.reduceToInt] at g ⊢; omega)]
    have e1 : fX5_volts G v = fX5_counted G (-10000002) := by
      unfold fX5_volts fX1_restVoltage
      simp only [e0]
    exact bad_q R e1 (if_pos (in6.mpr (by rw [w64]; exact d)))
theorem pl_gt {x : Int32} (h : isPl x) : -10000002 < x.toInt := by
  rcases h with e | e
  · rw [e]; decide
  · omega
theorem inverse_q (R : Rel G M c) (v w : Int32) : (fX6_inverse M v w).1 = (fX5_inverse G v w).1 ∧ Rel (fX5_inverse G v w).2 (fX6_inverse M v w).2 (c + 0) := by
  by_cases hv : 0 ≤ v.toInt ∧ v.toInt ≤ 9999
  · have v2 : ¬ fX6_in v.toInt64 0 9999 = 0 := fun e => in6.mp e (by rw [w64]; exact hv)
    by_cases hw : 0 ≤ w.toInt ∧ w.toInt ≤ 1
    · have w2 : ¬ fX6_in w.toInt64 0 1 = 0 := fun e => in6.mp e (by rw [w64]; exact hw)
      obtain ⟨T, hT, t2, t3, t4⟩ : ∃ T : Nat → Int32, fX6_turns M v = (T, M.2) ∧ T 2 = fX1_restBound G.2.1 v 0 ∧ T 3 = fX1_restBound G.2.1 v 1 ∧ (∀ k, k ≠ 2 → k ≠ 3 → T k = M.1 k) := ⟨_, turns_y R.1.2 R.1.1 hv, (up_ne (by decide)).trans up_at, up_at, fun k k2 k3 => by rw [up_ne k3, up_ne k2, up_ne k3, up_ne k2, up_ne k3, up_ne k2]⟩
      have hp := rb_p R.1.2 hv
      have rl : Rel G (T, M.2) (c + 0) := by
        obtain ⟨hb, rf, ⟨hj, z, hz, z1, z2, rg⟩, tx, n, hn, n1, n2⟩ := R
        exact ⟨hb, rf, ⟨hj, z, hz, z1, (t4 0 (by decide) (by decide)).trans z2, rg⟩, tx, n, hn, n1, (t4 1 (by decide) (by decide)).trans n2⟩
      have e2 : fX6_inverse M v w = (if w = 0 then T 2 else T 3, (T, M.2)) := by
        unfold fX6_inverse
        simp only [hT]
        rw [if_neg v2, if_neg w2]
      by_cases d : w = 0
      · have e1 : fX5_inverse G v w = (fX1_restBound G.2.1 v 0, G) := by
          rw [d]; exact cnt_n (pl_gt hp.1)
        rw [e1, e2, if_pos d]
        exact ⟨t2, rl⟩
      · have d1 : w = 1 := t32_eq.mpr (by have : ¬ w.toInt = 0 := fun e => d (t32_eq.mpr e); simp only [Int32.reduceToInt]; omega)
        have e1 : fX5_inverse G v w = (fX1_restBound G.2.1 v 1, G) := by
          rw [d1]; exact cnt_n (pl_gt hp.2.1)
        rw [e1, e2, if_neg d]
        exact ⟨t3, rl⟩
    · have e0 : fX1_restBound G.2.1 v w = (-10000002) := by
        unfold fX1_restBound
        simp only []
        rw [if_neg (show ¬ fX1_isVoltage v = 0 from fun e => isV.mp e hv), if_pos ((wi (x := w) (a := 0) (b := 1)).mpr hw)]
      have e1 : fX5_inverse G v w = fX5_counted G (-10000002) := by
        unfold fX5_inverse
        simp only [e0]
      exact bad_q R e1 ((if_neg v2).trans (if_pos (in6.mpr (by rw [w64]; exact hw))))
  · have e0 : fX1_restBound G.2.1 v w = (-10000002) := by
      unfold fX1_restBound
      simp only []
      rw [if_pos (isV.mpr hv)]
    have e1 : fX5_inverse G v w = fX5_counted G (-10000002) := by
      unfold fX5_inverse
      simp only [e0]
    exact bad_q R e1 (if_pos (in6.mpr (by rw [w64]; exact hv)))
theorem band_q (R : Rel G M c) (s n w : Int32) : (fX6_band M s n w).1 = (fX5_band G s n w).1 ∧ Rel (fX5_band G s n w).2 (fX6_band M s n w).2 (c + 0) := by
  by_cases d : (0 ≤ s.toInt ∧ s.toInt ≤ 1) ∧ (0 ≤ n.toInt ∧ n.toInt ≤ 10) ∧ (0 ≤ w.toInt ∧ w.toInt ≤ 1)
  · have be := band_eq R.1.2 R.1.1 d.1 d.2.1 d.2.2
    have e1 : fX5_band G s n w = (fX1_tellBand G.2.1 s n w, G) := cnt_n be.2
    have e2 : fX6_band M s n w = (fX6_bandOf M.2.2.1 ((11 * s) + n) w, M) := by
      unfold fX6_band
      simp only []
      rw [if_neg (show ¬ fX6_in s.toInt64 0 1 = 0 from fun e => in6.mp e (by rw [w64]; exact d.1)), if_neg (show ¬ fX6_in n.toInt64 0 10 = 0 from fun e => in6.mp e (by rw [w64]; exact d.2.1)), if_neg (show ¬ fX6_in w.toInt64 0 1 = 0 from fun e => in6.mp e (by rw [w64]; exact d.2.2)), if_neg one_ne]
    exact same_q R e1 e2 be.1
  · have e1 : fX5_band G s n w = fX5_counted G (-10000002) := by
      unfold fX5_band
      simp only [tb_bad d]
    have e2 : fX6_band M s n w = fX6_refuses M (-10000002) := by
      unfold fX6_band
      simp only []
      refine if_pos ?_
      by_cases a1 : fX6_in s.toInt64 0 1 = 0
      · rw [if_pos a1]
      · rw [if_neg a1]
        by_cases a2 : fX6_in n.toInt64 0 10 = 0
        · rw [if_pos a2]
        · rw [if_neg a2]
          by_cases a3 : fX6_in w.toInt64 0 1 = 0
          · rw [if_pos a3]
          · rw [in6, Classical.not_not, w64] at a1 a2 a3
            exact absurd ⟨a1, a2, a3⟩ d
    exact bad_q R e1 e2
theorem lasts_q (R : Rel G M c) (i w : Int32) : (fX6_lasts M i w).1 = (fX5_lasts G i w).1 ∧ Rel (fX5_lasts G i w).2 (fX6_lasts M i w).2 (c + 0) := by
  by_cases hi : 1 ≤ i.toInt ∧ i.toInt ≤ 99
  · have i2 : ¬ fX6_in i.toInt64 1 99 = 0 := fun e => in6.mp e (by rw [w64]; exact hi)
    by_cases hw : 0 ≤ w.toInt ∧ w.toInt ≤ 1
    · have le := last_eq R.1.2 R.1.1 hi hw
      exact same_q R (cnt_n le.2) ((if_neg i2).trans (if_neg (fun e => in6.mp e (by rw [w64]; exact hw)))) le.1
    · have e0 : fX1_lasting G.2.1 i w = (-10000002) := by
        unfold fX1_lasting
        simp only []
        rw [if_neg (fun e => (wi (x := i) (a := 1) (b := 99)).mp e hi), if_pos ((wi (x := w) (a := 0) (b := 1)).mpr hw)]
      have e1 : fX5_lasts G i w = fX5_counted G (-10000002) := by
        unfold fX5_lasts
        simp only [e0]
      exact bad_q R e1 ((if_neg i2).trans (if_pos (in6.mpr (by rw [w64]; exact hw))))
  · have e0 : fX1_lasting G.2.1 i w = (-10000002) := by
      unfold fX1_lasting
      simp only []
      rw [if_pos ((wi (x := i) (a := 1) (b := 99)).mpr hi)]
    have e1 : fX5_lasts G i w = fX5_counted G (-10000002) := by
      unfold fX5_lasts
      simp only [e0]
    exact bad_q R e1 (if_pos (in6.mpr (by rw [w64]; exact hi)))
theorem under_q (R : Rel G M c) (i : Int32) : (fX6_under M i).1 = (fX5_under G i).1 ∧ Rel (fX5_under G i).2 (fX6_under M i).2 (c + 0) := by
  by_cases d : -99 ≤ i.toInt ∧ i.toInt ≤ 99
  · have d2 : ¬ fX6_in i.toInt64 (-99) 99 = 0 := fun e => in6.mp e (by rw [w64]; exact d)
    by_cases z : i = 0
    · have e0 : fX1_loadedVoltage G.2.1 i = (-10000002) := by
        unfold fX1_loadedVoltage
        simp only []
        rw [if_pos (isL.mpr (fun q => q.1 (by rw [z]; rfl)))]
      have e1 : fX5_under G i = fX5_counted G (-10000002) := by
        unfold fX5_under
        simp only [e0]
      have e2 : fX6_under M i = fX6_refuses M (-10000002) := by
        unfold fX6_under
        simp only []
        rw [if_neg d2, if_pos z]
      exact bad_q R e1 e2
    · have ue := und_eq R.1.2 R.1.1 (show ¬ i.toInt = 0 ∧ -99 ≤ i.toInt ∧ i.toInt ≤ 99 from ⟨fun e => z (t32_eq.mpr e), d⟩)
      rcases ue with ⟨a1, a2⟩ | ⟨a1, a2, a3⟩
      · have e1 : fX5_under G i = fX5_counted G (-10000003) := by
          unfold fX5_under
          simp only [a2]
        have e2 : fX6_under M i = fX6_refuses M (-10000003) := by
          unfold fX6_under
          simp only []
          rw [if_neg d2, if_neg z, if_pos a1]
        exact no_q R e1 e2
      · have e1 : fX5_under G i = (fX1_loadedVoltage G.2.1 i, G) := cnt_n a3
        have e2 : fX6_under M i = (fX6_voltsAt M.2.2.1 (fX6_middle M.2.2.1) - ((i * fX6_bandOf M.2.2.1 (fX6_bandNow M.2.2.1 i) 0) / 100), M) := by
          unfold fX6_under
          simp only []
          rw [if_neg d2, if_neg z, if_neg a1]
        exact same_q R e1 e2 a2.symm
  · have e0 : fX1_loadedVoltage G.2.1 i = (-10000002) := by
      unfold fX1_loadedVoltage
      simp only []
      rw [if_pos (isL.mpr (fun q => d q.2))]
    have e1 : fX5_under G i = fX5_counted G (-10000002) := by
      unfold fX5_under
      simp only [e0]
    exact bad_q R e1 (if_pos (in6.mpr (by rw [w64]; exact d)))
theorem setting_q (R : Rel G M c) (w : Int32) : (fX6_setting M w).1 = (fX5_setting G w).1 ∧ Rel (fX5_setting G w).2 (fX6_setting M w).2 (c + 0) := by
  by_cases d : 0 ≤ w.toInt ∧ w.toInt ≤ 12
  · obtain ⟨j, hj, rfl⟩ : ∃ j, j ≤ 12 ∧ nI j = w := ⟨w.toInt.toNat, by omega, nI_Of d.1⟩
    have se := set_eq R.1.2 R.1.1 hj
    have e1 : fX5_setting G (nI j) = (fX1_tellSetting G.2.1 (nI j), G) := cnt_n (by omega)
    have e2 : fX6_setting M (nI j) = ((M.2.2.1 ((11 + nI j).toNatClampNeg)).toInt32, M) := if_neg (fun e => in6.mp e (by rw [w64]; exact d))
    exact same_q R e1 e2 (by rw [n11 hj]; exact back32 se.1)
  · have w0 : ¬ w = 0 := fun e => d (by rw [e]; decide)
    have w1 : ¬ w = 1 := fun e => d (by rw [e]; decide)
    have e0 : fX1_tellSetting G.2.1 w = (-10000002) := by
      unfold fX1_tellSetting
      simp only []
      rw [if_neg w0, if_neg w1, if_pos ((wi (x := w) (a := 2) (b := 12)).mpr (fun e => d (by simp only [Int32.reduceToInt] at e; omega)))]
    have e1 : fX5_setting G w = fX5_counted G (-10000002) := by
      unfold fX5_setting
      simp only [e0]
    exact bad_q R e1 (if_pos (in6.mpr (by rw [w64]; exact d)))
theorem nar_b {v : Int32} (h : 0 ≤ v.toInt ∧ v.toInt ≤ 127) : vp_nar .byte v.toInt8.toInt32 = v := by
  obtain ⟨j, hj, rfl⟩ : ∃ j, j ≤ 127 ∧ nI j = v := ⟨v.toInt.toNat, by omega, nI_Of h.1⟩
  have k : ∀ j, j < 128 → vp_nar .byte (nI j).toInt8.toInt32 = nI j := by decide +kernel
  exact k j (by omega)
theorem type_q (R : Rel G M c) (v : Int32) : (fX6_type M v).1 = (fX5_type G v).1 ∧ Rel (fX5_type G v).2 (fX6_type M v).2 (c + 0) := by
  by_cases d : 0 ≤ v.toInt ∧ v.toInt ≤ 127
  · have d1 : ¬ fX5_within v 0 127 = 0 := fun e => (wi (x := v) (a := 0) (b := 127)).mp e d
    have d2 : ¬ fX6_in v.toInt64 0 127 = 0 := fun e => in6.mp e (by rw [w64]; exact d)
    have R' := R
    obtain ⟨hb, rf, hz, tx, n, hn, n1, n2⟩ := R'
    by_cases f : n = 120
    · have a0 : fX4_append G.2.2.2.2.2 v = ((-10000004), G.2.2.2.2.2) := (if_neg d1).trans (if_neg (show ¬ G.2.2.2.2.2.1 0 < 120 by rw [n1, f]; decide +kernel))
      have e1 : fX5_type G v = fX5_counted G (-10000004) := by
        unfold fX5_type
        simp only [a0]
      have e2 : fX6_type M v = fX6_refuses M (-10000004) := by
        unfold fX6_type
        simp only []
        rw [if_neg d2, if_pos (show M.1 1 = 120 by rw [n2, f]; decide +kernel)]
      rw [e1, e2]; exact rel_full R
    · have l1 : G.2.2.2.2.2.1 0 < 120 := by rw [n1]; exact (nlt (a := n) (b := 120) (by omega) (by omega)).mpr (by omega)
      have s1 : G.2.2.2.2.2.1 0 + 1 = nI (n + 1) := by rw [n1, ← nI_succ]
      have s2 : M.1 1 + 1 = nI (n + 1) := by rw [n2, ← nI_succ]
      have a0 : fX4_append G.2.2.2.2.2 v = (nI (n + 1), ((upd G.2.2.2.2.2.1 0 (nI (n + 1))), (upd G.2.2.2.2.2.2.1 n v), G.2.2.2.2.2.2.2.1, G.2.2.2.2.2.2.2.2.1, G.2.2.2.2.2.2.2.2.2)) := by
        unfold fX4_append
        simp only []
        rw [if_neg d1, if_pos l1, s1, nar_b d, n1, nI_clamp (by omega)]
      have c1 : -10000002 < (nI (n + 1)).toInt := by rw [nI_toInt (by omega)]; omega
      have e1 : fX5_type G v = (nI (n + 1), (G.1, G.2.1, G.2.2.1, G.2.2.2.1, G.2.2.2.2.1, ((upd G.2.2.2.2.2.1 0 (nI (n + 1))), (upd G.2.2.2.2.2.2.1 n v), G.2.2.2.2.2.2.2.1, G.2.2.2.2.2.2.2.2.1, G.2.2.2.2.2.2.2.2.2))) := by
        unfold fX5_type
        simp only [a0]
        exact cnt_n c1
      have e2 : fX6_type M v = (nI (n + 1), ((upd M.1 1 (nI (n + 1))), M.2.1, M.2.2.1, M.2.2.2.1, M.2.2.2.2.1, M.2.2.2.2.2.1, (upd M.2.2.2.2.2.2.1 n v), M.2.2.2.2.2.2.2.1, M.2.2.2.2.2.2.2.2)) := by
        unfold fX6_type
        simp only []
        rw [if_neg d2, if_neg (show ¬ M.1 1 = 120 by rw [n2]; exact fun e => f ((nz (by omega) (show nI 120 = 120 by decide +kernel) (by decide)).mp e)), s2, n2, nI_clamp (by omega)]
      rw [e1, e2]
      obtain ⟨hj, z, h5, z1, z2, rg⟩ := hz
      exact ⟨rfl, hb, rf, ⟨hj, z, h5, z1, z2, rg⟩, congrArg (fun f => upd f n v) tx, n + 1, by omega, rfl, rfl⟩
  · have a0 : fX4_append G.2.2.2.2.2 v = ((-10000002), G.2.2.2.2.2) := if_pos ((wi (x := v) (a := 0) (b := 127)).mpr d)
    have e1 : fX5_type G v = fX5_counted G (-10000002) := by
      unfold fX5_type
      simp only [a0]
    exact bad_q R e1 (if_pos (in6.mpr (by rw [w64]; exact d)))
theorem clear_q (R : Rel G M c) : (fX6_clear M).1 = (fX5_clear G).1 ∧ Rel (fX5_clear G).2 (fX6_clear M).2 (c + 0) := by
  obtain ⟨hb, rf, ⟨hj, z, h5, z1, z2, rg⟩, tx, n, hn, n1, n2⟩ := R
  exact ⟨n2.trans n1.symm, hb, rf, ⟨hj, z, h5, z1, z2, rg⟩, tx, 0, by omega, rfl, rfl⟩
theorem back_q (R : Rel G M c) : (fX6_back M).1 = (fX5_back G).1 ∧ Rel (fX5_back G).2 (fX6_back M).2 (c + 0) := by
  have R' := R
  obtain ⟨hb, rf, ⟨hj, z, h5, z1, z2, rg⟩, tx, n, hn, n1, n2⟩ := R'
  by_cases d : z = 0
  · exact no_q R (if_pos (show G.2.2.2.1 = 0 by rw [z1, d]; decide +kernel)) (if_pos (show M.1 0 = 0 by rw [z2, d]; decide +kernel))
  · have y1 : ¬ G.2.2.2.1 = 0 := by rw [z1]; exact nI_ne0 (by omega) (by omega)
    have y2 : ¬ M.1 0 = 0 := by rw [z2]; exact nI_ne0 (by omega) (by omega)
    have s1 : G.2.2.2.1 - 1 = nI (z - 1) := by rw [z1, nI_m1 (by omega)]
    have s2 : M.1 0 - 1 = nI (z - 1) := by rw [z2, nI_m1 (by omega)]
    have e1 : fX5_back G = (nI (z - 1), (G.1, fX1_copyFrom G.2.1 (G.2.2.2.2.1 ((G.2.2.1 + 5) % 6)), (G.2.2.1 + 5) % 6, nI (z - 1), G.2.2.2.2.1, G.2.2.2.2.2)) := by
      unfold fX5_back fX3_size fX3_takeBack fX3_restoreMarked
      simp only [s1]
      rw [if_neg y1]
    have e2 : fX6_back M = (nI (z - 1), ((upd M.1 0 (nI (z - 1))), M.2.1, (lpBk M.2.2.2.2.1 M.2.2.1 (z - 1) 68), M.2.2.2.1, M.2.2.2.2.1, M.2.2.2.2.2.1, M.2.2.2.2.2.2.1, M.2.2.2.2.2.2.2.1, M.2.2.2.2.2.2.2.2)) := by
      unfold fX6_back
      simp only [s2]
      rw [if_neg y2, nI_clamp (by omega)]
    rw [e1, e2]
    have g := rg (z - 1) (by omega)
    rw [show (G.2.2.1 + 6 - z + (z - 1)) % 6 = (G.2.2.1 + 5) % 6 by omega] at g
    refine ⟨rfl, ⟨RB_x (RB_c g.1) (fun k hk => lpBk_in 68 hk), IB_c g.2⟩, rf, ⟨Nat.mod_lt _ (by decide), z - 1, by omega, rfl, rfl, fun i hi => ?_⟩, tx, n, hn, n1, n2⟩
    have g2 := rg i (by omega)
    show RB (G.2.2.2.2.1 (((G.2.2.1 + 5) % 6 + 6 - (z - 1) + i) % 6)) _ ∧ IB (G.2.2.2.2.1 (((G.2.2.1 + 5) % 6 + 6 - (z - 1) + i) % 6)) c
    rw [show ((G.2.2.1 + 5) % 6 + 6 - (z - 1) + i) % 6 = (G.2.2.1 + 6 - z + i) % 6 by omega]
    exact g2
theorem rfo_eq (R : Rel G M c) : ∀ j, j ≤ 4 → fX5_refused G (nI j) = (fX6_refusedOf M.2.2.2.2.2.1 M.1 (nI j), G) := by
  obtain ⟨hb, rf, ⟨hj, z, h5, z1, z2, rg⟩, tx, n, hn, n1, n2⟩ := R
  intro j hj
  have hj : j = 0 ∨ j = 1 ∨ j = 2 ∨ j = 3 ∨ j = 4 := by omega
  rcases hj with rfl | rfl | rfl | rfl | rfl
  · have e2 : fX6_refusedOf M.2.2.2.2.2.1 M.1 (nI 0) = M.2.2.2.2.2.1 (nI 0).toNatClampNeg := by unfold fX6_refusedOf; simp only []; rw [if_neg (show ¬ 3 ≤ nI 0 by decide +kernel)]
    rw [e2, nI_clamp (by decide), rf]
    exact if_pos (show nI 0 = 0 by decide +kernel)
  · have e2 : fX6_refusedOf M.2.2.2.2.2.1 M.1 (nI 1) = M.2.2.2.2.2.1 (nI 1).toNatClampNeg := by unfold fX6_refusedOf; simp only []; rw [if_neg (show ¬ 3 ≤ nI 1 by decide +kernel)]
    rw [e2, nI_clamp (by decide), rf]
    exact (if_neg (show ¬ nI 1 = 0 by decide +kernel)).trans (if_pos (show nI 1 = 1 by decide +kernel))
  · have e2 : fX6_refusedOf M.2.2.2.2.2.1 M.1 (nI 2) = M.2.2.2.2.2.1 (nI 2).toNatClampNeg := by unfold fX6_refusedOf; simp only []; rw [if_neg (show ¬ 3 ≤ nI 2 by decide +kernel)]
    rw [e2, nI_clamp (by decide), rf]
    exact (if_neg (show ¬ nI 2 = 0 by decide +kernel)).trans ((if_neg (show ¬ nI 2 = 1 by decide +kernel)).trans (if_pos (show nI 2 = 2 by decide +kernel)))
  · have e2 : fX6_refusedOf M.2.2.2.2.2.1 M.1 (nI 3) = M.1 1 := by unfold fX6_refusedOf; simp only []; rw [if_pos (show 3 ≤ nI 3 by decide +kernel), if_pos (show nI 3 = 3 by decide +kernel)]
    rw [e2, n2, ← n1]
    exact (if_neg (show ¬ nI 3 = 0 by decide +kernel)).trans ((if_neg (show ¬ nI 3 = 1 by decide +kernel)).trans ((if_neg (show ¬ nI 3 = 2 by decide +kernel)).trans (if_pos (show nI 3 = 3 by decide +kernel))))
  · have e2 : fX6_refusedOf M.2.2.2.2.2.1 M.1 (nI 4) = M.1 0 := by unfold fX6_refusedOf; simp only []; rw [if_pos (show 3 ≤ nI 4 by decide +kernel), if_neg (show ¬ nI 4 = 3 by decide +kernel)]
    rw [e2, z2, ← z1]
    exact (if_neg (show ¬ nI 4 = 0 by decide +kernel)).trans ((if_neg (show ¬ nI 4 = 1 by decide +kernel)).trans ((if_neg (show ¬ nI 4 = 2 by decide +kernel)).trans ((if_neg (show ¬ nI 4 = 3 by decide +kernel)).trans (if_pos (show nI 4 = 4 by decide +kernel)))))
theorem refused_q (R : Rel G M c) (w : Int32) : (fX6_refused M w).1 = (fX5_refused G w).1 ∧ Rel (fX5_refused G w).2 (fX6_refused M w).2 (c + 0) := by
  by_cases d : 0 ≤ w.toInt ∧ w.toInt ≤ 4
  · obtain ⟨j, hj, rfl⟩ : ∃ j, j ≤ 4 ∧ nI j = w := ⟨w.toInt.toNat, by omega, nI_Of d.1⟩
    exact same_q R (rfo_eq R j hj) (if_neg (fun e => in6.mp e (by rw [w64]; exact d))) rfl
  · have e1 : fX5_refused G w = fX5_counted G (-10000002) := (if_neg (fun e => d (by rw [e]; decide))).trans ((if_neg (fun e => d (by rw [e]; decide))).trans ((if_neg (fun e => d (by rw [e]; decide))).trans ((if_neg (fun e => d (by rw [e]; decide))).trans (if_neg (fun e => d (by rw [e]; decide))))))
    exact bad_q R e1 (if_pos (in6.mpr (by rw [w64]; exact d)))
end FACE
