/-! TURNS: the places that a rest voltage allows -/
theorem IB_pi {B : Bat} {c : Nat} (h : IB B c) : PI (fun k => (B.2.1 k).toInt) := h.2.2.2.2.2.1
theorem none_n {m : Nat} (h : m ≤ 2000) : ¬ nI m = (-10000001) := by
  rw [t32_eq, nI_toInt (by omega)]; simp only [Int32.reduceToInt]; omega
theorem lg_1 {W : Nat → Int64} {C : Nat → Int32} {g v : Int32} (h : PI (fun k => (C k).toInt)) (hW : ∀ k, k < 11 → (W (13 + k)).toInt = (C k).toInt) (hg : 0 ≤ g.toInt ∧ g.toInt ≤ 500) {m : Nat} (hm : Below (fun k => (C k).toInt) (v.toInt - g.toInt) m) : ∀ n : Nat, n ≤ 1001 → (lpLG W g v n).1 = if n ≤ m then (-10000001) else nI m
  | 0, _ => by rw [lpLG_0, if_pos (Nat.zero_le _)]
  | n + 1, hn => by
    have hm1 := hm.1
    have a := lg_1 h hW hg hm n (by omega)
    have e := volt_r h hW (p := n) (by omega)
    have q := VI_in h (p := n) (by omega)
    have e2 : (fX6_voltsAt W (nI n) + g).toInt = VI (fun k => (C k).toInt) n + g.toInt := by rw [a32 (by omega) (by omega), e]
    rw [lpLG_s]
    show (if (lpLG W g v n).1 = (-10000001) then (if (fX6_voltsAt W (nI n) + g) < v then (lpLG W g v n).1 else nI n) else (lpLG W g v n).1) = _
    rw [a]
    by_cases c : n ≤ m
    · rw [if_pos c, if_pos rfl]
      by_cases d : n + 1 ≤ m
      · have u := hm.2.1 n (by omega)
        rw [if_pos d, if_pos (show (fX6_voltsAt W (nI n) + g) < v by rw [t32_lt, e2]; omega)]
      · have u := hm.2.2 n (by omega) (by omega)
        rw [if_neg d, if_neg (show ¬ (fX6_voltsAt W (nI n) + g) < v by rw [t32_lt, e2]; omega), show n = m by omega]
    · rw [if_neg c, if_neg (none_n (show m ≤ 2000 by omega)), if_neg (show ¬ n + 1 ≤ m by omega)]
theorem lg_2 {W : Nat → Int64} {C : Nat → Int32} {g v : Int32} (h : PI (fun k => (C k).toInt)) (hW : ∀ k, k < 11 → (W (13 + k)).toInt = (C k).toInt) (hg : 0 ≤ g.toInt ∧ g.toInt ≤ 500) {m : Nat} (hm : Below (fun k => (C k).toInt) (v.toInt + g.toInt + 1) m) : ∀ n : Nat, n ≤ 1001 → (lpLG W g v n).2 = if min n m = 0 then (-10000001) else nI (min n m - 1)
  | 0, _ => by rw [lpLG_0, if_pos (by omega)]
  | n + 1, hn => by
    have hm1 := hm.1
    have a := lg_2 h hW hg hm n (by omega)
    have e := volt_r h hW (p := n) (by omega)
    have q := VI_in h (p := n) (by omega)
    have e2 : (fX6_voltsAt W (nI n) - g).toInt = VI (fun k => (C k).toInt) n - g.toInt := by rw [s32 (by omega) (by omega), e]
    rw [lpLG_s]
    show (if v < (fX6_voltsAt W (nI n) - g) then (lpLG W g v n).2 else nI n) = _
    by_cases c : n < m
    · have u := hm.2.1 n c
      rw [if_neg (show ¬ v < (fX6_voltsAt W (nI n) - g) by rw [t32_lt, e2]; omega), if_neg (show ¬ min (n + 1) m = 0 by omega), show min (n + 1) m - 1 = n by omega]
    · have u := hm.2.2 n (by omega) (by omega)
      rw [if_pos (show v < (fX6_voltsAt W (nI n) - g) by rw [t32_lt, e2]; omega), a, show min (n + 1) m = min n m by omega]
theorem least_c {C : Nat → Int32} {v : Int32} (h : PI (fun k => (C k).toInt)) {m : Nat} (hm : Below (fun k => (C k).toInt) v.toInt m) : fX2_leastReaching C v = if 1001 ≤ m then (-10000001) else nI m := by
  have hm1 := hm.1
  unfold fX2_leastReaching
  simp only [pb_m h hm]
  by_cases c : 1001 ≤ m
  · rw [if_pos c, if_neg (show ¬ nI m ≤ 1000 by rw [t32_le, nI_toInt (by omega)]; simp only [Int32.reduceToInt]; omega)]
  · rw [if_neg c, if_pos (show nI m ≤ 1000 by rw [t32_le, nI_toInt (by omega)]; simp only [Int32.reduceToInt]; omega)]
theorem great_c {C : Nat → Int32} {v : Int32} (h : PI (fun k => (C k).toInt)) {m : Nat} (hm : Below (fun k => (C k).toInt) (v + 1).toInt m) : fX2_greatestWithin C v = if m = 0 then (-10000001) else nI (m - 1) := by
  have hm1 := hm.1
  unfold fX2_greatestWithin
  simp only [pb_m h hm]
  by_cases c : m = 0
  · rw [if_pos c, if_pos (show nI m = 0 by rw [c]; rfl)]
  · rw [if_neg c, if_neg (nI_ne0 (by omega) (by omega)), show m = (m - 1) + 1 by omega, nI_pred]; rfl
/-- the two ends, alike on both sides -/
theorem turns_lg {B : Bat} {c : Nat} {W : Nat → Int64} {v : Int32} (h : IB B c) (r : RB B W) (hv : 0 ≤ v.toInt ∧ v.toInt ≤ 9999) : lpLG W ((W 12).toInt32) v 1001 = (fX2_leastReaching B.2.1 (v - (B.1 5)), fX2_greatestWithin B.2.1 (v + (B.1 5))) := by
  have hp := IB_pi h
  obtain ⟨-, ⟨-, -, g3, g4⟩, -⟩ := h
  have e0 : (W 12).toInt = (B.1 5).toInt := r.1.2.2.2.2.2.2.2.2.2.2.2.2
  have e : (W 12).toInt32 = B.1 5 := t32_eq.mpr (by rw [l32 (by omega) (by omega), e0])
  rw [e]
  obtain ⟨m1, h1⟩ := VI_b hp (v.toInt - (B.1 5).toInt)
  obtain ⟨m2, h2⟩ := VI_b hp (v.toInt + (B.1 5).toInt + 1)
  have k1 := h1.1
  have k2 := h2.1
  have a1 : (v - B.1 5).toInt = v.toInt - (B.1 5).toInt := s32 (by omega) (by omega)
  have a2 : (v + B.1 5).toInt = v.toInt + (B.1 5).toInt := a32 (by omega) (by omega)
  have a3 : (v + B.1 5 + 1).toInt = v.toInt + (B.1 5).toInt + 1 := by rw [a32 (by simp only [Int32.reduceToInt]; omega) (by simp only [Int32.reduceToInt]; omega), a2]; rfl
  have u1 : (lpLG W (B.1 5) v 1001).1 = fX2_leastReaching B.2.1 (v - (B.1 5)) := by
    rw [lg_1 hp r.2.1 ⟨g3, g4⟩ h1 1001 (by omega), least_c hp (m := m1) (by rw [a1]; exact h1)]
  have u2 : (lpLG W (B.1 5) v 1001).2 = fX2_greatestWithin B.2.1 (v + (B.1 5)) := by
    rw [lg_2 hp r.2.1 ⟨g3, g4⟩ h2 1001 (by omega), great_c hp (m := m2) (by rw [a3]; exact h2), show min 1001 m2 = m2 by omega]
  rw [← u1, ← u2]
/-- an end is NONE or a place -/
def isPl (x : Int32) : Prop := x = (-10000001) ∨ (0 ≤ x.toInt ∧ x.toInt ≤ 1000)
theorem least_p {B : Bat} {c : Nat} (h : IB B c) (v : Int32) : isPl (fX2_leastReaching B.2.1 v) := by
  obtain ⟨m, hm⟩ := VI_b (IB_pi h) v.toInt
  have k := hm.1
  rw [least_c (IB_pi h) hm]
  by_cases d : 1001 ≤ m
  · rw [if_pos d]; exact .inl rfl
  · rw [if_neg d]; exact .inr (by rw [nI_toInt (by omega)]; omega)
theorem great_p {B : Bat} {c : Nat} (h : IB B c) (v : Int32) : isPl (fX2_greatestWithin B.2.1 v) := by
  obtain ⟨m, hm⟩ := VI_b (IB_pi h) (v + 1).toInt
  have k := hm.1
  rw [great_c (IB_pi h) hm]
  by_cases d : m = 0
  · rw [if_pos d]; exact .inl rfl
  · rw [if_neg d]; exact .inr (by rw [nI_toInt (by omega)]; omega)
theorem isV {v : Int32} : fX1_isVoltage v = 0 ↔ ¬ (0 ≤ v.toInt ∧ v.toInt ≤ 9999) := by
  unfold fX1_isVoltage
  rw [bz_0, t32_le, t32_le]; exact Iff.rfl
theorem wi {x a b : Int32} : fX5_within x a b = 0 ↔ ¬ (a.toInt ≤ x.toInt ∧ x.toInt ≤ b.toInt) := by
  unfold fX5_within
  rw [bz_0, t32_le, t32_le]
theorem in6 {x a b : Int64} : fX6_in x a b = 0 ↔ ¬ (a.toInt ≤ x.toInt ∧ x.toInt ≤ b.toInt) := by
  unfold fX6_in
  rw [bz_0, t64_le, t64_le]
def lowE (a b : Int32) : Int32 := if a = (-10000001) then a else if b = (-10000001) then a else if a ≤ b then a else b
def upE (a b : Int32) : Int32 := if a = (-10000001) then b else if b = (-10000001) then b else if a ≤ b then b else a
theorem rb_0 (B : Bat) {v : Int32} (hv : 0 ≤ v.toInt ∧ v.toInt ≤ 9999) : fX1_restBound B v 0 = lowE (fX2_leastReaching B.2.1 (v - (B.1 5))) (fX2_greatestWithin B.2.1 (v + (B.1 5))) := by
  unfold fX1_restBound lowE
  simp only []
  rw [if_neg (show ¬ fX1_isVoltage v = 0 from fun e => isV.mp e hv), if_neg (show ¬ fX5_within 0 0 1 = 0 by decide)]
  generalize fX2_leastReaching B.2.1 (v - (B.1 5)) = a
  generalize fX2_greatestWithin B.2.1 (v + (B.1 5)) = b
  by_cases c1 : a = (-10000001)
  · rw [if_pos c1, if_pos c1]; rfl
  · rw [if_neg c1, if_neg c1]
    by_cases c2 : b = (-10000001)
    · rw [if_pos c2, if_pos c2]; rfl
    · rw [if_neg c2, if_neg c2]
      show (if b < a then b else a) = _
      by_cases c3 : a ≤ b
      · rw [if_pos c3, if_neg (show ¬ b < a by rw [t32_lt]; rw [t32_le] at c3; omega)]
      · rw [if_neg c3, if_pos (show b < a by rw [t32_lt]; rw [t32_le] at c3; omega)]
theorem rb_1 (B : Bat) {v : Int32} (hv : 0 ≤ v.toInt ∧ v.toInt ≤ 9999) : fX1_restBound B v 1 = upE (fX2_leastReaching B.2.1 (v - (B.1 5))) (fX2_greatestWithin B.2.1 (v + (B.1 5))) := by
  unfold fX1_restBound upE
  simp only []
  rw [if_neg (show ¬ fX1_isVoltage v = 0 from fun e => isV.mp e hv), if_neg (show ¬ fX5_within 1 0 1 = 0 by decide)]
  generalize fX2_leastReaching B.2.1 (v - (B.1 5)) = a
  generalize fX2_greatestWithin B.2.1 (v + (B.1 5)) = b
  by_cases c1 : a = (-10000001)
  · rw [if_pos c1, if_pos c1]; rfl
  · rw [if_neg c1, if_neg c1]
    by_cases c2 : b = (-10000001)
    · rw [if_pos c2, if_pos c2]; rfl
    · rw [if_neg c2, if_neg c2]
      show (if a < b then b else a) = _
      by_cases c3 : a ≤ b
      · rw [if_pos c3]
        by_cases c4 : a < b
        · rw [if_pos c4]
        · rw [if_neg c4]; rw [t32_lt] at c4; rw [t32_le] at c3; exact t32_eq.mpr (by omega)
      · rw [if_neg c3, if_neg (show ¬ a < b by rw [t32_lt]; rw [t32_le] at c3; omega)]
theorem turns_y {B : Bat} {c : Nat} {M : Mdl} {v : Int32} (h : IB B c) (r : RB B M.2.2.1) (hv : 0 ≤ v.toInt ∧ v.toInt ≤ 9999) : fX6_turns M v = (upd (upd (upd (upd (upd (upd M.1 2 (-10000001)) 3 (-10000001)) 2 (fX2_leastReaching B.2.1 (v - (B.1 5)))) 3 (fX2_greatestWithin B.2.1 (v + (B.1 5)))) 2 (fX1_restBound B v 0)) 3 (fX1_restBound B v 1), M.2) := by
  rw [rb_0 B hv, rb_1 B hv]
  unfold fX6_turns lowE upE
  simp only [turns_lg h r hv]
theorem rb_p {B : Bat} {c : Nat} {v : Int32} (h : IB B c) (hv : 0 ≤ v.toInt ∧ v.toInt ≤ 9999) : isPl (fX1_restBound B v 0) ∧ isPl (fX1_restBound B v 1) ∧ (¬ fX1_restBound B v 0 = (-10000001) → ¬ fX1_restBound B v 1 = (-10000001) → (fX1_restBound B v 0).toInt ≤ (fX1_restBound B v 1).toInt) := by
  rw [rb_0 B hv, rb_1 B hv]
  have p1 := least_p h (v - (B.1 5))
  have p2 := great_p h (v + (B.1 5))
  revert p1 p2
  generalize fX2_leastReaching B.2.1 (v - (B.1 5)) = a
  generalize fX2_greatestWithin B.2.1 (v + (B.1 5)) = b
  intro p1 p2
  unfold lowE upE
  by_cases c1 : a = (-10000001)
  · rw [if_pos c1, if_pos c1]; exact ⟨p1, p2, fun q => absurd c1 q⟩
  · rw [if_neg c1, if_neg c1]
    by_cases c2 : b = (-10000001)
    · rw [if_pos c2, if_pos c2]; exact ⟨p1, p2, fun _ q => absurd c2 q⟩
    · rw [if_neg c2, if_neg c2]
      by_cases c3 : a ≤ b
      · rw [if_pos c3, if_pos c3]; exact ⟨p1, p2, fun _ _ => t32_le.mp c3⟩
      · rw [if_neg c3, if_neg c3]; exact ⟨p2, p1, fun _ _ => by rw [t32_le] at c3; omega⟩
