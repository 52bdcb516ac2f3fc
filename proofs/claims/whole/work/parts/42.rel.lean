/-! REL: the class whole and the reference whole hold the same -/
theorem RB_x {B : Bat} {W W' : Nat → Int64} (r : RB B W) (h : ∀ k, k < 68 → W' k = W k) : RB B W' := by
  obtain ⟨⟨r0, r1, r2, r3, r4, r5, r6, r7, r8, r9, r10, r11, r12⟩, rp, rc, rs⟩ := r
  have f : ∀ (k : Nat) (x : Int), k < 68 → (W k).toInt = x → (W' k).toInt = x := fun k x hk e => (congrArg _ (h k hk)).trans e
  exact ⟨⟨f _ _ (by decide) r0, f _ _ (by decide) r1, f _ _ (by decide) r2, f _ _ (by decide) r3, f _ _ (by decide) r4, f _ _ (by decide) r5, f _ _ (by decide) r6, f _ _ (by decide) r7, f _ _ (by decide) r8, f _ _ (by decide) r9, f _ _ (by decide) r10, f _ _ (by decide) r11, f _ _ (by decide) r12⟩, fun k hk => f _ _ (by omega) (rp k hk), fun k hk => f _ _ (by omega) (rc k hk), fun k hk => (h _ (by omega)).trans (rs k hk)⟩
theorem cpy_in {α : Type} {f g : Nat → α} {n k : Nat} (h : k < n) : va_cpy f g 0 0 n k = f k := by
  rw [pk_cpy_in (Nat.zero_le _) (by omega), Nat.zero_add, Nat.sub_zero]
theorem RB_c {B C : Bat} {W : Nat → Int64} (r : RB C W) : RB (fX1_copyFrom B C) W := by
  refine ⟨r.1, fun k hk => ?_, fun k hk => ?_, fun k hk => ?_⟩
  · show (W (13 + k)).toInt = (va_cpy C.2.1 B.2.1 0 0 11 k).toInt
    rw [cpy_in hk]; exact r.2.1 k hk
  · show (W (24 + k)).toInt = (va_cpy C.2.2.2 B.2.2.2 0 0 22 k).toInt
    rw [cpy_in hk]; exact r.2.2.1 k hk
  · show W (46 + k) = va_cpy C.2.2.1 B.2.2.1 0 0 22 k
    rw [cpy_in hk]; exact r.2.2.2 k hk
theorem IB_c {B C : Bat} {c : Nat} (h : IB C c) : IB (fX1_copyFrom B C) c := by
  obtain ⟨h1, h2, h3, h4, h5, h6, h7⟩ := h
  refine ⟨h1, h2, h3, h4, h5, ⟨fun k hk => ?_, fun k hk => ?_⟩, fun k hk => ?_⟩
  · show 0 ≤ (va_cpy C.2.1 B.2.1 0 0 11 k).toInt ∧ (va_cpy C.2.1 B.2.1 0 0 11 k).toInt ≤ 9999
    rw [cpy_in hk]; exact h6.1 k hk
  · show (va_cpy C.2.1 B.2.1 0 0 11 k).toInt < (va_cpy C.2.1 B.2.1 0 0 11 (k + 1)).toInt
    rw [cpy_in (by omega), cpy_in (by omega)]; exact h6.2 k hk
  · show 0 ≤ (va_cpy C.2.2.2 B.2.2.2 0 0 22 k).toInt ∧ (va_cpy C.2.2.2 B.2.2.2 0 0 22 k).toInt ≤ c ∧ -(999900 * (va_cpy C.2.2.2 B.2.2.2 0 0 22 k).toInt) ≤ (va_cpy C.2.2.1 B.2.2.1 0 0 22 k).toInt ∧ (va_cpy C.2.2.1 B.2.2.1 0 0 22 k).toInt ≤ 999900 * (va_cpy C.2.2.2 B.2.2.2 0 0 22 k).toInt
    rw [cpy_in hk, cpy_in hk]; exact h7 k hk
theorem lpCp_in {src dst : Nat → Int64} {k : Nat} : ∀ n : Nat, k < n → lpCp src dst n k = src k
  | 0, h => absurd h (by omega)
  | n + 1, h => by
    by_cases c : k = n
    · rw [c]; exact uL_at
    · exact (uL_ne c).trans (lpCp_in n (by omega))
theorem lpRow_in {src dst : Nat → Int64} {b k : Nat} : ∀ n : Nat, k < n → lpRow src dst b n (68 * b + k) = src k
  | 0, h => absurd h (by omega)
  | n + 1, h => by
    by_cases c : k = n
    · rw [c]; exact uL_at
    · exact (uL_ne (by omega)).trans (lpRow_in n (by omega))
theorem lpRow_out {src dst : Nat → Int64} {b k : Nat} (h : k < 68 * b) : ∀ n : Nat, lpRow src dst b n k = dst k
  | 0 => rfl
  | n + 1 => (uL_ne (by omega)).trans (lpRow_out h n)
theorem lpBk_in {src dst : Nat → Int64} {b k : Nat} : ∀ n : Nat, k < n → lpBk src dst b n k = src (68 * b + k)
  | 0, h => absurd h (by omega)
  | n + 1, h => by
    by_cases c : k = n
    · rw [c]; exact uL_at
    · exact (uL_ne c).trans (lpBk_in n (by omega))
theorem lpShift_hi {P : Nat → Int64} {k : Nat} : ∀ n : Nat, n ≤ k → lpShift P n k = P k
  | 0, _ => rfl
  | n + 1, h => (uL_ne (by omega)).trans (lpShift_hi n (by omega))
theorem lpShift_lo {P : Nat → Int64} {k : Nat} : ∀ n : Nat, k < n → lpShift P n k = P (k + 68)
  | 0, h => absurd h (by omega)
  | n + 1, h => by
    by_cases c : k = n
    · rw [c]; exact uL_at.trans (lpShift_hi n (by omega))
    · exact (uL_ne c).trans (lpShift_lo n (by omega))
/-- the states that are kept -/
def RG (j z c : Nat) (Bt : Nat → Bat) (P : Nat → Int64) : Prop := ∀ i, i < z → RB (Bt ((j + 6 - z + i) % 6)) (fun k => P (68 * i + k)) ∧ IB (Bt ((j + 6 - z + i) % 6)) c
def Rel (G : GS) (M : Mdl) (c : Nat) : Prop :=
  (RB G.2.1 M.2.2.1 ∧ IB G.2.1 c) ∧ M.2.2.2.2.2.1 = G.1 ∧ (G.2.2.1 < 6 ∧ ∃ z, z ≤ 5 ∧ G.2.2.2.1 = nI z ∧ M.1 0 = nI z ∧ RG G.2.2.1 z c G.2.2.2.2.1 M.2.2.2.2.1) ∧ (M.2.2.2.2.2.2.1 = G.2.2.2.2.2.2.1 ∧ ∃ n, n ≤ 120 ∧ G.2.2.2.2.2.1 0 = nI n ∧ M.1 1 = nI n)
/-- in the midst of a call: the state ahead is marked, and laid aside -/
def Mid (N : GS) (M : Mdl) (c : Nat) : Prop := Rel N M c ∧ RB (N.2.2.2.2.1 N.2.2.1) M.2.2.2.1 ∧ IB (N.2.2.2.2.1 N.2.2.1) c
theorem IB_m {B : Bat} {c : Nat} : ∀ (d : Nat), IB B c → IB B (c + d)
  | 0, h => h
  | d + 1, h => IB_s (IB_m d h)
theorem Rel_m {G : GS} {M : Mdl} {c : Nat} (d : Nat) (R : Rel G M c) : Rel G M (c + d) := by
  obtain ⟨⟨rb, ib⟩, rf, ⟨hj, z, hz, z1, z2, rg⟩, tx⟩ := R
  exact ⟨⟨rb, IB_m d ib⟩, rf, ⟨hj, z, hz, z1, z2, fun i hi => ⟨(rg i hi).1, IB_m d (rg i hi).2⟩⟩, tx⟩
theorem mid_start {G : GS} {M : Mdl} {c : Nat} (R : Rel G M c) : Mid (maG G) (fX6_laysAside M) c := by
  obtain ⟨⟨rb, ib⟩, rf, ⟨hj, z, hz, z1, z2, rg⟩, tx⟩ := R
  refine ⟨⟨⟨rb, ib⟩, rf, ⟨hj, z, hz, z1, z2, fun i hi => ?_⟩, tx⟩, ?_, ?_⟩
  · show RB (va_up G.2.2.2.2.1 G.2.2.1 (fX1_copyFrom (G.2.2.2.2.1 G.2.2.1) G.2.1) ((G.2.2.1 + 6 - z + i) % 6)) _ ∧ IB (va_up G.2.2.2.2.1 G.2.2.1 (fX1_copyFrom (G.2.2.2.2.1 G.2.2.1) G.2.1) ((G.2.2.1 + 6 - z + i) % 6)) c
    rw [va_up_ne _ _ (by omega)]; exact rg i hi
  · show RB (va_up G.2.2.2.2.1 G.2.2.1 (fX1_copyFrom (G.2.2.2.2.1 G.2.2.1) G.2.1) G.2.2.1) (lpCp M.2.2.1 M.2.2.2.1 68)
    rw [va_up_self]; exact RB_x (RB_c rb) (fun k hk => lpCp_in 68 hk)
  · show IB (va_up G.2.2.2.2.1 G.2.2.1 (fX1_copyFrom (G.2.2.2.2.1 G.2.2.1) G.2.1) G.2.2.1) c
    rw [va_up_self]; exact IB_c ib
theorem mid_step {N : GS} {M : Mdl} {c : Nat} {r : Int32 × Bat} {q : Int32 × Mdl} (m : Mid N M c) (t : Tie M c r q) : Mid (N.1, r.2, N.2.2.1, N.2.2.2.1, N.2.2.2.2.1, N.2.2.2.2.2) q.2 (c + 1) := by
  obtain ⟨⟨⟨rb, ib⟩, rf, ⟨hj, z, hz, z1, z2, rg⟩, tx, n, hn, n1, n2⟩, ma, mb⟩ := m
  obtain ⟨-, tb, ti, ⟨k1, k2, k3⟩, -⟩ := t
  refine ⟨⟨⟨tb, ti⟩, ?_, ⟨hj, z, hz, z1, (k1 0 (by decide) (by decide)).trans z2, fun i hi => ⟨?_, IB_s (rg i hi).2⟩⟩, ?_, n, hn, n1, (k1 1 (by decide) (by decide)).trans n2⟩, ?_, IB_s mb⟩
  · rw [k3]; exact rf
  · rw [k3]; exact (rg i hi).1
  · rw [k3]; exact tx
  · rw [k3]; exact ma
theorem mid_keep {N : GS} {M : Mdl} {c : Nat} (m : Mid N M c) : Rel (keG N) (fX6_remembers M) c := by
  obtain ⟨⟨⟨rb, ib⟩, rf, ⟨hj, z, hz, z1, z2, rg⟩, tx, n, hn, n1, n2⟩, ma, mb⟩ := m
  by_cases h5 : z = 5
  · subst h5
    have e : M.1 0 = 5 := z2.trans (by decide +kernel)
    have er : fX6_remembers M = ((upd (upd M.1 0 (M.1 0 - 1)) 0 (M.1 0 - 1 + 1)), M.2.1, M.2.2.1, M.2.2.2.1, (lpRow M.2.2.2.1 (lpShift M.2.2.2.2.1 272) (M.1 0 - 1).toNatClampNeg 68), M.2.2.2.2.2.1, M.2.2.2.2.2.2.1, M.2.2.2.2.2.2.2.1, M.2.2.2.2.2.2.2.2) := if_pos e
    rw [er, show (M.1 0 - 1).toNatClampNeg = 4 by rw [e]; decide +kernel]
    refine ⟨⟨rb, ib⟩, rf, ⟨Nat.mod_lt _ (by decide), 5, Nat.le_refl _, ?_, ?_, fun i hi => ?_⟩, tx, n, hn, n1, n2⟩
    · show (if 5 < (N.2.2.2.1 + 1) then 5 else (N.2.2.2.1 + 1)) = nI 5
      rw [z1]; decide +kernel
    · show M.1 0 - 1 + 1 = nI 5
      rw [e]; decide +kernel
    · show RB (N.2.2.2.2.1 (((N.2.2.1 + 1) % 6 + 6 - 5 + i) % 6)) (fun k => lpRow M.2.2.2.1 (lpShift M.2.2.2.2.1 272) 4 68 (68 * i + k)) ∧ IB (N.2.2.2.2.1 (((N.2.2.1 + 1) % 6 + 6 - 5 + i) % 6)) c
      by_cases i4 : i = 4
      · subst i4
        rw [show ((N.2.2.1 + 1) % 6 + 6 - 5 + 4) % 6 = N.2.2.1 by omega]
        exact ⟨RB_x ma (fun k hk => lpRow_in 68 hk), mb⟩
      · have g := rg (i + 1) (by omega)
        rw [show ((N.2.2.1 + 1) % 6 + 6 - 5 + i) % 6 = (N.2.2.1 + 6 - 5 + (i + 1)) % 6 by omega]
        refine ⟨RB_x g.1 (fun k hk => ?_), g.2⟩
        show lpRow M.2.2.2.1 (lpShift M.2.2.2.2.1 272) 4 68 (68 * i + k) = M.2.2.2.2.1 (68 * (i + 1) + k)
        rw [lpRow_out (by omega), lpShift_lo _ (by omega), show 68 * i + k + 68 = 68 * (i + 1) + k by omega]
  · have e : ¬ M.1 0 = 5 := by rw [z2]; exact fun q => h5 ((nz (by omega) (show nI 5 = 5 by decide +kernel) (by decide)).mp q)
    have er : fX6_remembers M = ((upd M.1 0 (M.1 0 + 1)), M.2.1, M.2.2.1, M.2.2.2.1, (lpRow M.2.2.2.1 M.2.2.2.2.1 (M.1 0).toNatClampNeg 68), M.2.2.2.2.2.1, M.2.2.2.2.2.2.1, M.2.2.2.2.2.2.2.1, M.2.2.2.2.2.2.2.2) := if_neg e
    rw [er, show (M.1 0).toNatClampNeg = z by rw [z2, nI_clamp (by omega)]]
    refine ⟨⟨rb, ib⟩, rf, ⟨Nat.mod_lt _ (by decide), z + 1, by omega, ?_, ?_, fun i hi => ?_⟩, tx, n, hn, n1, n2⟩
    · show (if 5 < (N.2.2.2.1 + 1) then 5 else (N.2.2.2.1 + 1)) = nI (z + 1)
      rw [z1, ← nI_succ, if_neg (show ¬ (5 : Int32) < nI (z + 1) by rw [t32_lt, nI_toInt (by omega)]; simp only [Int32.reduceToInt]; omega)]
    · show M.1 0 + 1 = nI (z + 1)
      rw [z2, ← nI_succ]
    · show RB (N.2.2.2.2.1 (((N.2.2.1 + 1) % 6 + 6 - (z + 1) + i) % 6)) (fun k => lpRow M.2.2.2.1 M.2.2.2.2.1 z 68 (68 * i + k)) ∧ IB (N.2.2.2.2.1 (((N.2.2.1 + 1) % 6 + 6 - (z + 1) + i) % 6)) c
      by_cases i4 : i = z
      · subst i4
        rw [show ((N.2.2.1 + 1) % 6 + 6 - (i + 1) + i) % 6 = N.2.2.1 by omega]
        exact ⟨RB_x ma (fun k hk => lpRow_in 68 hk), mb⟩
      · have g := rg i (by omega)
        rw [show ((N.2.2.1 + 1) % 6 + 6 - (z + 1) + i) % 6 = (N.2.2.1 + 6 - z + i) % 6 by omega]
        refine ⟨RB_x g.1 (fun k hk => ?_), g.2⟩
        show lpRow M.2.2.2.1 M.2.2.2.2.1 z 68 (68 * i + k) = M.2.2.2.2.1 (68 * i + k)
        rw [lpRow_out (by omega)]
theorem mid_restore {N : GS} {M : Mdl} {c : Nat} (m : Mid N M c) : Rel (reG N) (rstM M) c := by
  obtain ⟨⟨⟨rb, ib⟩, rf, hz, tx⟩, ma, mb⟩ := m
  exact ⟨⟨RB_x (RB_c ma) (fun k hk => lpCp_in 68 hk), IB_c mb⟩, rf, hz, tx⟩
/-- refusals are counted alike -/
theorem rel_bad {G : GS} {M : Mdl} {c : Nat} (R : Rel G M c) : (fX6_refuses M (-10000002)).1 = (fX5_counted G (-10000002)).1 ∧ Rel (fX5_counted G (-10000002)).2 (fX6_refuses M (-10000002)).2 c := by
  obtain ⟨hb, rf, hz, tx⟩ := R
  have e1 : fX5_counted G (-10000002) = ((-10000002), ((upd G.1 0 (G.1 0 + 1)), G.2.1, G.2.2.1, G.2.2.2.1, G.2.2.2.2.1, G.2.2.2.2.2)) := if_pos rfl
  have e2 : fX6_refuses M (-10000002) = ((-10000002), (M.1, M.2.1, M.2.2.1, M.2.2.2.1, M.2.2.2.2.1, (upd M.2.2.2.2.2.1 0 (M.2.2.2.2.2.1 0 + 1)), M.2.2.2.2.2.2.1, M.2.2.2.2.2.2.2.1, M.2.2.2.2.2.2.2.2)) := by
    unfold fX6_refuses
    simp only [show ((-10000002 : Int32) - (-10000002)).toNatClampNeg = 0 by decide +kernel]
  rw [e1, e2]
  exact ⟨rfl, hb, (congrArg (fun f => upd f 0 (f 0 + 1)) rf), hz, tx⟩
theorem rel_no {G : GS} {M : Mdl} {c : Nat} (R : Rel G M c) : (fX6_refuses M (-10000003)).1 = (fX5_counted G (-10000003)).1 ∧ Rel (fX5_counted G (-10000003)).2 (fX6_refuses M (-10000003)).2 c := by
  obtain ⟨hb, rf, hz, tx⟩ := R
  have e1 : fX5_counted G (-10000003) = ((-10000003), ((upd G.1 1 (G.1 1 + 1)), G.2.1, G.2.2.1, G.2.2.2.1, G.2.2.2.2.1, G.2.2.2.2.2)) := (if_neg (by decide)).trans (if_pos rfl)
  have e2 : fX6_refuses M (-10000003) = ((-10000003), (M.1, M.2.1, M.2.2.1, M.2.2.2.1, M.2.2.2.2.1, (upd M.2.2.2.2.2.1 1 (M.2.2.2.2.2.1 1 + 1)), M.2.2.2.2.2.2.1, M.2.2.2.2.2.2.2.1, M.2.2.2.2.2.2.2.2)) := by
    unfold fX6_refuses
    simp only [show ((-10000002 : Int32) - (-10000003)).toNatClampNeg = 1 by decide +kernel]
  rw [e1, e2]
  exact ⟨rfl, hb, (congrArg (fun f => upd f 1 (f 1 + 1)) rf), hz, tx⟩
theorem rel_full {G : GS} {M : Mdl} {c : Nat} (R : Rel G M c) : (fX6_refuses M (-10000004)).1 = (fX5_counted G (-10000004)).1 ∧ Rel (fX5_counted G (-10000004)).2 (fX6_refuses M (-10000004)).2 c := by
  obtain ⟨hb, rf, hz, tx⟩ := R
  have e1 : fX5_counted G (-10000004) = ((-10000004), ((upd G.1 2 (G.1 2 + 1)), G.2.1, G.2.2.1, G.2.2.2.1, G.2.2.2.2.1, G.2.2.2.2.2)) := (if_neg (by decide)).trans ((if_neg (by decide)).trans (if_pos rfl))
  have e2 : fX6_refuses M (-10000004) = ((-10000004), (M.1, M.2.1, M.2.2.1, M.2.2.2.1, M.2.2.2.2.1, (upd M.2.2.2.2.2.1 2 (M.2.2.2.2.2.1 2 + 1)), M.2.2.2.2.2.2.1, M.2.2.2.2.2.2.2.1, M.2.2.2.2.2.2.2.2)) := by
    unfold fX6_refuses
    simp only [show ((-10000002 : Int32) - (-10000004)).toNatClampNeg = 2 by decide +kernel]
  rw [e1, e2]
  exact ⟨rfl, hb, (congrArg (fun f => upd f 2 (f 2 + 1)) rf), hz, tx⟩
theorem ltl_2 {v : Int32} (h : -10000002 < v.toInt) : ¬ v = (-10000002) ∧ ¬ v = (-10000003) ∧ ¬ v = (-10000004) := by
  refine ⟨fun e => ?_, fun e => ?_, fun e => ?_⟩
  · rw [e] at h; exact absurd h (by decide)
  · rw [e] at h; exact absurd h (by decide)
  · rw [e] at h; exact absurd h (by decide)
theorem cnt_n {G : GS} {v : Int32} (h : -10000002 < v.toInt) : fX5_counted G v = (v, G) := by
  obtain ⟨a, b, c⟩ := ltl_2 h
  exact (if_neg a).trans ((if_neg b).trans (if_neg c))
theorem isRf {v : Int32} (h : -10000002 < v.toInt) : fX5_isRefusal v = 0 := by
  obtain ⟨a, b, c⟩ := ltl_2 h
  unfold fX5_isRefusal
  rw [bz_0]
  rintro (e | e | e)
  · exact a e
  · exact b e
  · exact c e
theorem lt_2 {v : Int32} (h : -10000002 < v.toInt) : (-10000002) < v := t32_lt.mpr h
theorem rel_z {G : GS} {M : Mdl} {c : Nat} (R : Rel G M c) : 0 ≤ (M.1 0).toInt ∧ (M.1 0).toInt ≤ 5 := by
  obtain ⟨-, -, ⟨-, z, hz, -, z2, -⟩, -⟩ := R
  rw [z2, nI_toInt (by omega)]; omega
theorem settle {G : GS} {M : Mdl} {c : Nat} {r : Int32 × Bat} {q : Int32 × Mdl} (R : Rel G M c) (t : Tie (fX6_laysAside M) c r q) : ((fX6_finished q.2 q.1).1 = (fX5_settled (G.1, r.2, G.2.2.1, G.2.2.2.1, fX3_mark G.2.1 G.2.2.1 G.2.2.2.1 G.2.2.2.2.1, G.2.2.2.2.2) r.1).1 ∧ Rel (fX5_settled (G.1, r.2, G.2.2.1, G.2.2.2.1, fX3_mark G.2.1 G.2.2.1 G.2.2.2.1 G.2.2.2.2.1, G.2.2.2.2.2) r.1).2 (fX6_finished q.2 q.1).2 (c + 1)) ∧ (0 ≤ (q.2.1 0).toInt ∧ (q.2.1 0).toInt ≤ 5) ∧ (¬ (-10000002) < q.1 → vp_in ((-10000002) - q.1) 3) := by
  have m : Mid (G.1, r.2, G.2.2.1, G.2.2.2.1, fX3_mark G.2.1 G.2.2.1 G.2.2.2.1 G.2.2.2.2.1, G.2.2.2.2.2) q.2 (c + 1) := mid_step (mid_start R) t
  revert m
  generalize ((G.1, r.2, G.2.2.1, G.2.2.2.1, fX3_mark G.2.1 G.2.2.1 G.2.2.2.1 G.2.2.2.2.1, G.2.2.2.2.2) : GS) = N
  intro m
  obtain ⟨t1, -, -, -, t5⟩ := t
  rw [t1]
  have hz := rel_z m.1
  rcases t5 with e | e | e
  · rw [e]
    have e1 : fX5_settled N (-10000002) = fX5_counted N (-10000002) := by unfold fX5_settled; simp only []; rw [if_neg (show ¬ fX5_isRefusal (-10000002) = 0 by decide)]
    have e2 : fX6_finished q.2 (-10000002) = fX6_refuses q.2 (-10000002) := if_neg (by decide)
    rw [e1, e2]
    exact ⟨rel_bad m.1, hz, fun _ => vp_in_iff.mpr (by decide +kernel)⟩
  · rw [e]
    have e1 : fX5_settled N (-10000003) = fX5_counted N (-10000003) := by unfold fX5_settled; simp only []; rw [if_neg (show ¬ fX5_isRefusal (-10000003) = 0 by decide)]
    have e2 : fX6_finished q.2 (-10000003) = fX6_refuses q.2 (-10000003) := if_neg (by decide)
    rw [e1, e2]
    exact ⟨rel_no m.1, hz, fun _ => vp_in_iff.mpr (by decide +kernel)⟩
  · have e1 : fX5_settled N r.1 = (r.1, keG N) := (if_pos (isRf e)).trans (cnt_n e)
    have e2 : fX6_finished q.2 r.1 = (r.1, fX6_remembers q.2) := if_pos (lt_2 e)
    rw [e1, e2]
    exact ⟨⟨rfl, mid_keep m⟩, hz, fun g => absurd (lt_2 e) g⟩
