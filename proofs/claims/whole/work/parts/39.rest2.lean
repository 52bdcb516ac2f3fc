/-! REST whole -/
theorem putRest_eq {M : Mdl} {v : Int32} {T : Nat → Int32} {a b : Int32} {W8 : Nat → Int64} (hT : fX6_turns M v = (T, M.2)) (hv : ¬ fX6_in v.toInt64 0 9999 = 0) (t2 : T 2 = a) (t3 : T 3 = b) (n2 : ¬ a = (-10000001)) (n3 : ¬ b = (-10000001)) (hW : (if M.2.2.1 8 ≤ 0 then M.2.2.1 else lrW M.2.2.1 a.toInt64 b.toInt64) = W8) : fX6_putRest M v = (((if nwW W8 a.toInt64 b.toInt64 1 ≤ nwW W8 a.toInt64 b.toInt64 3 then nwW W8 a.toInt64 b.toInt64 1 else nwW W8 a.toInt64 b.toInt64 3) - (if nwW W8 a.toInt64 b.toInt64 0 ≤ nwW W8 a.toInt64 b.toInt64 3 then nwW W8 a.toInt64 b.toInt64 0 else nwW W8 a.toInt64 b.toInt64 3)).toInt32, (T, M.2.1, rsW (nwW W8 a.toInt64 b.toInt64) a.toInt64 b.toInt64, M.2.2.2)) := by
  subst t2; subst t3
  unfold fX6_putRest
  simp only [hT]
  rw [if_neg hv, if_neg n2, if_neg n3]
  by_cases g : M.2.2.1 8 ≤ 0
  · rw [if_pos g] at hW
    subst hW
    simp only [if_pos g]
    rfl
  · rw [if_neg g] at hW
    subst hW
    simp only [if_neg g, lrW_eq]
    rfl
theorem min_q {x y : Int64} {u w : Int32} (h1 : x.toInt = u.toInt) (h2 : y.toInt = w.toInt) : (if x ≤ y then x else y).toInt = (if w < u then w else u).toInt := by
  simp only [if64, if32, t64_le, t32_lt, h1, h2]
  split <;> split <;> omega
theorem rest_fin {B : Bat} {M : Mdl} {T : Nat → Int32} {W : Nat → Int64} {c : Nat} (hc : c < 20480) (h : IW B c 2) (r : RB B W) {a b : Int32} (ha : 0 ≤ a.toInt ∧ a.toInt ≤ 1000) (hb : 0 ≤ b.toInt ∧ b.toInt ≤ 1000) (t4 : ∀ k, k ≠ 2 → k ≠ 3 → T k = M.1 k) : Tie M c ((rsB B a b).1 1 - (rsB B a b).1 0, rsB B a b) (((if W 1 ≤ W 3 then W 1 else W 3) - (if W 0 ≤ W 3 then W 0 else W 3)).toInt32, (T, M.2.1, rsW W a.toInt64 b.toInt64, M.2.2.2)) := by
  have h1 := h.1
  have h3 := h.2.2.1
  obtain ⟨r0, r1, r2, r3, r4, r5, r6, r7, r8, -⟩ := r.1
  have hp := min_q r1 r3
  have hq := min_q r0 r3
  have z1 : (B.1 8 + 1).toInt = (B.1 8).toInt + 1 := by rw [a32 (by simp only [Int32.reduceToInt]; omega) (by simp only [Int32.reduceToInt]; omega)]; rfl
  have z2 : (W 8 + 1).toInt = (B.1 8 + 1).toInt := by rw [z1, a64 (by simp only [Int64.reduceToInt]; omega) (by simp only [Int64.reduceToInt]; omega), r8]; rfl
  have x1 : (if (B.1 3) < (B.1 1) then (B.1 3) else (B.1 1)).toInt = min (B.1 1).toInt (B.1 3).toInt := by
    simp only [if32, t32_lt]; split <;> omega
  have x2 : (if (B.1 3) < (B.1 0) then (B.1 3) else (B.1 0)).toInt = min (B.1 0).toInt (B.1 3).toInt := by
    simp only [if32, t32_lt]; split <;> omega
  unfold rsB rsW fX1_showEmpty
  simp only []
  revert hp hq x1 x2 z1 z2
  generalize (if (B.1 3) < (B.1 1) then (B.1 3) else (B.1 1)) = X
  generalize (if (B.1 3) < (B.1 0) then (B.1 3) else (B.1 0)) = Y
  generalize (if W 1 ≤ W 3 then W 1 else W 3) = P
  generalize (if W 0 ≤ W 3 then W 0 else W 3) = Q
  generalize B.1 8 + 1 = Z
  generalize W 8 + 1 = S
  intro hp hq z1 z2 x1 x2
  have s := rs_fin h r ha hb hp hq z2 (show 0 ≤ Y.toInt ∧ Y.toInt ≤ X.toInt ∧ X.toInt ≤ (B.1 3).toInt by omega) (show 0 < Z.toInt ∧ Z.toInt ≤ ((c + 1 : Nat) : Int) by omega)
  refine ⟨?_, RB_12 s.1 ?_, IB_12 s.2 ?_, ⟨t4, rfl, rfl⟩, .inr (.inr ?_)⟩
  · show (P - Q).toInt32 = X - Y
    refine back32 ?_
    rw [s64 (by omega) (by omega), s32 (by omega) (by omega), hp, hq]
  · show (if P = 0 then 0 else W 4).toInt = (if X = 0 then 0 else B.1 12).toInt
    have z0 : (0 : Int32).toInt = 0 := rfl
    have zz : (0 : Int64).toInt = 0 := rfl
    simp only [if64, if32, t64_eq, t32_eq, hp, r4, z0, zz]
  · show 0 ≤ (if X = 0 then 0 else B.1 12).toInt ∧ (if X = 0 then 0 else B.1 12).toInt ≤ 100
    have z0 : (0 : Int32).toInt = 0 := rfl
    simp only [if32, z0]
    split <;> omega
  · show -10000002 < (X - Y).toInt
    rw [s32 (by omega) (by omega)]; omega
theorem tie_rest {B : Bat} {M : Mdl} {c : Nat} (hc : c < 20480) (h : IB B c) (r : RB B M.2.2.1) (v : Int32) : Tie M c (fX1_rest B v) (fX6_putRest M v) := by
  by_cases hv : 0 ≤ v.toInt ∧ v.toInt ≤ 9999
  · have v1 : ¬ fX1_isVoltage v = 0 := fun e => isV.mp e hv
    have v2 : ¬ fX6_in v.toInt64 0 9999 = 0 := fun e => in6.mp e (by rw [w64]; exact hv)
    obtain ⟨T, hT, t2, t3, t4⟩ : ∃ T : Nat → Int32, fX6_turns M v = (T, M.2) ∧ T 2 = fX1_restBound B v 0 ∧ T 3 = fX1_restBound B v 1 ∧ (∀ k, k ≠ 2 → k ≠ 3 → T k = M.1 k) := ⟨_, turns_y h r hv, (up_ne (by decide)).trans up_at, up_at, fun k k2 k3 => by rw [up_ne k3, up_ne k2, up_ne k3, up_ne k2, up_ne k3, up_ne k2]⟩
    have hp := rb_p h hv
    by_cases n2 : fX1_restBound B v 0 = (-10000001)
    · have e1 : fX1_rest B v = ((-10000003), B) := (if_neg v1).trans (if_pos n2)
      have e2 : fX6_putRest M v = ((-10000003), (T, M.2)) := by
        unfold fX6_putRest
        simp only [hT]
        rw [if_neg v2]
        exact if_pos (t2.trans n2)
      rw [e1, e2]
      exact ⟨rfl, r, IB_s h, ⟨t4, rfl, rfl⟩, .inr (.inl rfl)⟩
    · by_cases n3 : fX1_restBound B v 1 = (-10000001)
      · have e1 : fX1_rest B v = ((-10000003), B) := (if_neg v1).trans ((if_neg n2).trans (if_pos n3))
        have e2 : fX6_putRest M v = ((-10000003), (T, M.2)) := by
          unfold fX6_putRest
          simp only [hT]
          rw [if_neg v2, if_neg (fun e => n2 (t2.symm.trans e))]
          exact if_pos (t3.trans n3)
        rw [e1, e2]
        exact ⟨rfl, r, IB_s h, ⟨t4, rfl, rfl⟩, .inr (.inl rfl)⟩
      · have q0 := hp.1.resolve_left n2
        have q1 := hp.2.1.resolve_left n3
        have e1 : fX1_rest B v = ((rsB (fX1_narrowCharge (if B.1 8 ≤ 0 then B else fX1_learnCapacity B (fX1_restBound B v 0) (fX1_restBound B v 1)) (fX1_restBound B v 0) (fX1_restBound B v 1)) (fX1_restBound B v 0) (fX1_restBound B v 1)).1 1 - (rsB (fX1_narrowCharge (if B.1 8 ≤ 0 then B else fX1_learnCapacity B (fX1_restBound B v 0) (fX1_restBound B v 1)) (fX1_restBound B v 0) (fX1_restBound B v 1)) (fX1_restBound B v 0) (fX1_restBound B v 1)).1 0, rsB (fX1_narrowCharge (if B.1 8 ≤ 0 then B else fX1_learnCapacity B (fX1_restBound B v 0) (fX1_restBound B v 1)) (fX1_restBound B v 0) (fX1_restBound B v 1)) (fX1_restBound B v 0) (fX1_restBound B v 1)) := (if_neg v1).trans ((if_neg n2).trans ((if_neg n3).trans rfl))
        rw [e1, putRest_eq hT v2 t2 t3 n2 n3 rfl]
        clear e1 hT t2 t3 hp
        revert n2 n3 q0 q1
        generalize fX1_restBound B v 0 = a
        generalize fX1_restBound B v 1 = b
        intro n2 n3 q0 q1
        have s8 : RB (if B.1 8 ≤ 0 then B else fX1_learnCapacity B a b) (if M.2.2.1 8 ≤ 0 then M.2.2.1 else lrW M.2.2.1 a.toInt64 b.toInt64) ∧ IW (if B.1 8 ≤ 0 then B else fX1_learnCapacity B a b) c 1 := by
          have r8 : (M.2.2.1 8).toInt = (B.1 8).toInt := r.1.2.2.2.2.2.2.2.2.1
          have z0 : (0 : Int32).toInt = 0 := rfl
          have zz : (0 : Int64).toInt = 0 := rfl
          by_cases g : B.1 8 ≤ 0
          · rw [if_pos g, if_pos (show M.2.2.1 8 ≤ 0 by rw [t64_le, r8, zz]; rw [t32_le, z0] at g; exact g)]
            exact ⟨r, IW_of h⟩
          · rw [if_neg g, if_neg (show ¬ M.2.2.1 8 ≤ 0 by rw [t64_le, r8, zz]; rw [t32_le, z0] at g; exact g)]
            exact learn_tie hc h r q0 q1
        revert s8
        generalize (if B.1 8 ≤ 0 then B else fX1_learnCapacity B a b) = B8
        generalize (if M.2.2.1 8 ≤ 0 then M.2.2.1 else lrW M.2.2.1 a.toInt64 b.toInt64) = W8
        intro s8
        have s9 := nw_tie hc s8.2 s8.1 q0 q1
        exact rest_fin hc s9.2 s9.1 q0 q1 t4
  · have e1 : fX1_rest B v = ((-10000002), B) := if_pos (isV.mpr hv)
    have e2 : fX6_putRest M v = ((-10000002), M) := if_pos (in6.mpr (by rw [w64]; exact hv))
    rw [e1, e2]; exact tie_bad h r
