/-! NARROW, and the whole rest -/
def nwW (W : Nat → Int64) (a b : Int64) : Nat → Int64 :=
  let x9 : Int64 := (a * (W 2)) / 1000
  let x10 : Int64 := ((b * (W 3)) + 999) / 1000
  let x12 : Int64 := (if x9 ≤ (W 0) then (W 0) else x9)
  let x15 : Int64 := (if (W 1) ≤ x10 then (W 1) else x10)
  (if x12 ≤ x15 then (vp_updL (vp_updL W 0 x12) 1 x15) else (let x18 : Int64 := (W 7) + 1; (vp_updL W 7 x18)))
theorem nw_fin {B : Bat} {W : Nat → Int64} {c : Nat} (hc : c < 20480) (h : IW B c 1) (r : RB B W) {X Y : Int32} {P Q : Int64} (hp : P.toInt = X.toInt) (hq : Q.toInt = Y.toInt) (hx : (B.1 0).toInt ≤ X.toInt) (hy : Y.toInt ≤ (B.1 1).toInt) : RB (if X ≤ Y then ((upd (upd B.1 0 X) 1 Y), B.2.1, B.2.2.1, B.2.2.2) else ((upd B.1 11 (B.1 11 + 1)), B.2.1, B.2.2.1, B.2.2.2)) (if P ≤ Q then (vp_updL (vp_updL W 0 P) 1 Q) else (vp_updL W 7 (W 7 + 1))) ∧ IW (if X ≤ Y then ((upd (upd B.1 0 X) 1 Y), B.2.1, B.2.2.1, B.2.2.2) else ((upd B.1 11 (B.1 11 + 1)), B.2.1, B.2.2.1, B.2.2.2)) c 2 := by
  obtain ⟨⟨r0, r1, r2, r3, r4, r5, r6, r7, r8, r9, r10, r11, r12⟩, rp, rc, rs⟩ := r
  obtain ⟨h1, h2, h4, h6, h7⟩ := h
  by_cases d : X ≤ Y
  · rw [if_pos d, if_pos (show P ≤ Q by rw [t64_le, hp, hq]; exact t32_le.mp d)]
    rw [t32_le] at d
    refine ⟨⟨⟨hp, hq, r2, r3, r4, r5, r6, r7, r8, r9, r10, r11, r12⟩, fun k hk => ?_, fun k hk => ?_, fun k hk => ?_⟩, ⟨⟨?_, ?_, ?_, h1.2.2.2⟩, h2, ?_, h6, h7⟩⟩
    · simp (disch := omega) only [uL_ne]; exact rp k hk
    · simp (disch := omega) only [uL_ne]; exact rc k hk
    · simp (disch := omega) only [uL_ne]; exact rs k hk
    · show 0 ≤ X.toInt; omega
    · show X.toInt ≤ Y.toInt; omega
    · show Y.toInt ≤ 99999; omega
    · show 0 ≤ (B.1 8).toInt ∧ (B.1 8).toInt ≤ c ∧ 0 ≤ (B.1 11).toInt ∧ (B.1 11).toInt ≤ 2 * (c : Int) + 2 ∧ 0 ≤ (B.1 12).toInt ∧ (B.1 12).toInt ≤ 100
      omega
  · rw [if_neg d, if_neg (show ¬ P ≤ Q by rw [t64_le, hp, hq]; exact fun e => d (t32_le.mpr e))]
    have z1 : (B.1 11 + 1).toInt = (B.1 11).toInt + 1 := by rw [a32 (by simp only [Int32.reduceToInt]; omega) (by simp only [Int32.reduceToInt]; omega)]; rfl
    have z2 : (W 7 + 1).toInt = (B.1 11).toInt + 1 := by rw [a64 (by simp only [Int64.reduceToInt]; omega) (by simp only [Int64.reduceToInt]; omega), r7]; rfl
    generalize B.1 11 + 1 = S at z1 ⊢
    generalize W 7 + 1 = T at z2 ⊢
    refine ⟨⟨⟨r0, r1, r2, r3, r4, r5, r6, z2.trans z1.symm, r8, r9, r10, r11, r12⟩, fun k hk => ?_, fun k hk => ?_, fun k hk => ?_⟩, ⟨h1, h2, ?_, h6, h7⟩⟩
    · simp (disch := omega) only [uL_ne]; exact rp k hk
    · simp (disch := omega) only [uL_ne]; exact rc k hk
    · simp (disch := omega) only [uL_ne]; exact rs k hk
    · show 0 ≤ (B.1 8).toInt ∧ (B.1 8).toInt ≤ c ∧ 0 ≤ S.toInt ∧ S.toInt ≤ 2 * (c : Int) + 2 ∧ 0 ≤ (B.1 12).toInt ∧ (B.1 12).toInt ≤ 100
      omega
theorem pr_k {a x : Int} (h1 : 0 ≤ a) (h2 : a ≤ 1000) (h3 : 0 ≤ x) (h4 : x ≤ 99999) : 0 ≤ a * x ∧ a * x ≤ 99999000 := by
  have a1 : 0 ≤ a * x := Int.mul_nonneg h1 h3
  have a2 : a * x ≤ 1000 * x := Int.mul_le_mul_of_nonneg_right h2 h3
  exact ⟨a1, by omega⟩
theorem nw_tie {B : Bat} {W : Nat → Int64} {c : Nat} (hc : c < 20480) (h : IW B c 1) (r : RB B W) {a b : Int32} (ha : 0 ≤ a.toInt ∧ a.toInt ≤ 1000) (hb : 0 ≤ b.toInt ∧ b.toInt ≤ 1000) : RB (fX1_narrowCharge B a b) (nwW W a.toInt64 b.toInt64) ∧ IW (fX1_narrowCharge B a b) c 2 := by
  have h1 := h.1
  obtain ⟨r0, r1, r2, r3, -⟩ := r.1
  have p1 := pr_k ha.1 ha.2 h1.2.2.2.1 (show (B.1 2).toInt ≤ 99999 by omega)
  have p2 := pr_k hb.1 hb.2 (show 0 ≤ (B.1 3).toInt by omega) h1.2.2.2.2.2
  have a1 : (a * B.1 2).toInt = a.toInt * (B.1 2).toInt := m32 (by omega) (by omega)
  have a2 : (b * B.1 3).toInt = b.toInt * (B.1 3).toInt := m32 (by omega) (by omega)
  have b1 : (a.toInt64 * W 2).toInt = a.toInt * (B.1 2).toInt := by rw [m64 (by rw [w64, r2]; omega) (by rw [w64, r2]; omega), w64, r2]
  have b2 : (b.toInt64 * W 3).toInt = b.toInt * (B.1 3).toInt := by rw [m64 (by rw [w64, r3]; omega) (by rw [w64, r3]; omega), w64, r3]
  unfold fX1_narrowCharge nwW
  simp only []
  generalize a.toInt * (B.1 2).toInt = P at *
  generalize b.toInt * (B.1 3).toInt = Q at *
  generalize a * B.1 2 = A at *
  generalize b * B.1 3 = A' at *
  generalize a.toInt64 * W 2 = C at *
  generalize b.toInt64 * W 3 = C' at *
  have a3 : (A / 1000).toInt = P / 1000 := by rw [d32 (by omega) (by decide), a1]; rfl
  have a4 : (A' + 1000).toInt = Q + 1000 := by rw [a32 (by simp only [Int32.reduceToInt]; omega) (by simp only [Int32.reduceToInt]; omega), a2]; rfl
  have a5 : (A' + 1000 - 1).toInt = Q + 999 := by rw [s32 (by simp only [Int32.reduceToInt]; omega) (by simp only [Int32.reduceToInt]; omega), a4]; simp only [Int32.reduceToInt]; omega
  have a6 : ((A' + 1000 - 1) / 1000).toInt = (Q + 999) / 1000 := by rw [d32 (by omega) (by decide), a5]; rfl
  have b3 : (C / 1000).toInt = P / 1000 := by rw [d64 (by omega) (by decide), b1]; rfl
  have b5 : (C' + 999).toInt = Q + 999 := by rw [a64 (by simp only [Int64.reduceToInt]; omega) (by simp only [Int64.reduceToInt]; omega), b2]; rfl
  have b6 : ((C' + 999) / 1000).toInt = (Q + 999) / 1000 := by rw [d64 (by omega) (by decide), b5]; rfl
  generalize A / 1000 = D at *
  generalize (A' + 1000 - 1) / 1000 = D' at *
  generalize C / 1000 = F at *
  generalize (C' + 999) / 1000 = F' at *
  refine nw_fin hc h r ?_ ?_ ?_ ?_
  · simp only [if64, if32, t64_le, t32_lt, a3, b3, r0]
    split <;> split <;> omega
  · simp only [if64, if32, t64_le, t32_lt, a6, b6, r1]
    split <;> split <;> omega
  · simp only [if32, t32_lt, a3]
    split <;> omega
  · simp only [if32, t32_lt, a6]
    split <;> omega
/-- the last step of a rest -/
def rsW (W : Nat → Int64) (a b : Int64) : Nat → Int64 :=
  let x21 : Int64 := (if (W 1) ≤ (W 3) then (W 1) else (W 3))
  let x24 : Int64 := (if (W 0) ≤ (W 3) then (W 0) else (W 3))
  let x26 : Int64 := (W 8) + 1
  let x30 : Int64 := (if x21 = 0 then 0 else (W 4))
  (vp_updL (vp_updL (vp_updL (vp_updL (vp_updL (vp_updL (vp_updL (vp_updL W 1 x21) 0 x24) 5 0) 6 0) 8 x26) 9 a) 10 b) 4 x30)
def rsB (B : Bat) (a b : Int32) : Bat :=
  let x11 : Int32 := (if (B.1 3) < (B.1 1) then (B.1 3) else (B.1 1))
  let x12 : Int32 := (if (B.1 3) < (B.1 0) then (B.1 3) else (B.1 0))
  let x13 : Int32 := (B.1 8) + 1
  fX1_showEmpty ((upd (upd (upd (upd (upd (upd (upd B.1 1 x11) 0 x12) 6 0) 7 0) 9 a) 10 b) 8 x13), B.2.1, B.2.2.1, B.2.2.2)
theorem rs_fin {B : Bat} {W : Nat → Int64} {c : Nat} (h : IW B c 2) (r : RB B W) {a b : Int32} (ha : 0 ≤ a.toInt ∧ a.toInt ≤ 1000) (hb : 0 ≤ b.toInt ∧ b.toInt ≤ 1000) {X Y Z : Int32} {P Q S : Int64} (hp : P.toInt = X.toInt) (hq : Q.toInt = Y.toInt) (hs : S.toInt = Z.toInt) (hX : 0 ≤ Y.toInt ∧ Y.toInt ≤ X.toInt ∧ X.toInt ≤ (B.1 3).toInt) (hZ : 0 < Z.toInt ∧ Z.toInt ≤ ((c + 1 : Nat) : Int)) : RB ((upd (upd (upd (upd (upd (upd (upd B.1 1 X) 0 Y) 6 0) 7 0) 9 a) 10 b) 8 Z), B.2.1, B.2.2.1, B.2.2.2) (vp_updL (vp_updL (vp_updL (vp_updL (vp_updL (vp_updL (vp_updL W 1 P) 0 Q) 5 0) 6 0) 8 S) 9 a.toInt64) 10 b.toInt64) ∧ IB ((upd (upd (upd (upd (upd (upd (upd B.1 1 X) 0 Y) 6 0) 7 0) 9 a) 10 b) 8 Z), B.2.1, B.2.2.1, B.2.2.2) (c + 1) := by
  obtain ⟨⟨r0, r1, r2, r3, r4, r5, r6, r7, r8, r9, r10, r11, r12⟩, rp, rc, rs⟩ := r
  obtain ⟨h1, h2, h4, h6, h7⟩ := h
  have z0 : (0 : Int32).toInt = 0 := rfl
  refine ⟨⟨⟨?_, ?_, r2, r3, r4, rfl, rfl, r7, ?_, ?_, ?_, r11, r12⟩, fun k hk => ?_, fun k hk => ?_, fun k hk => ?_⟩, ⟨?_, h2, ?_, ?_, ?_, h6, fun k hk => ?_⟩⟩
  · exact hq
  · exact hp
  · exact hs
  · exact w64 a
  · exact w64 b
  · simp (disch := omega) only [uL_ne]; exact rp k hk
  · simp (disch := omega) only [uL_ne]; exact rc k hk
  · simp (disch := omega) only [uL_ne]; exact rs k hk
  · simp (disch := omega) only [up_at, up_ne]; omega
  · simp (disch := omega) only [up_at, up_ne, z0]; omega
  · simp (disch := omega) only [up_at, up_ne]; omega
  · simp (disch := omega) only [up_at, up_ne]; omega
  · have := h7 k hk; exact ⟨this.1, Int.le_trans this.2.1 (by omega), this.2.2⟩
