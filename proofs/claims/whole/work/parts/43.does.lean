/-! DOES: the orders of a text -/
theorem of_1 {X : Txt} {m i : Nat} (hX : X.1 1 = nI m) (hi : i < m) (hm : m ≤ 40) : fX4_firstOf X (nI i) = X.2.2.2.1 i ∧ fX4_secondOf X (nI i) = X.2.2.2.2 i ∧ fX4_kindOf X (nI i) = X.2.2.1 i := by
  have w : ¬ fX5_within (nI i) 0 (X.1 1 - 1) = 0 := by
    rw [hX, nI_m1 (by omega)]
    exact fun e => wi.mp e (by rw [nI_toInt (by omega), nI_toInt (by omega)]; simp only [Int32.reduceToInt]; omega)
  refine ⟨?_, ?_, ?_⟩
  · unfold fX4_firstOf; simp only []; rw [if_neg w, nI_clamp (by omega)]
  · unfold fX4_secondOf; simp only []; rw [if_neg w, nI_clamp (by omega)]
  · unfold fX4_kindOf; simp only []; rw [if_neg w, nI_clamp (by omega)]
theorem tp_2 {i : Nat} (h : i ≤ 39) : (2 * nI i).toNatClampNeg = 2 * i := by
  rw [show (2 : Int32) = nI 2 from rfl, pk_mul, nI_clamp (by omega)]
theorem obey_tie {N : GS} {M : Mdl} {c i m : Nat} (hc : c < 20480) (h : IB N.2.1 c) (r : RB N.2.1 M.2.2.1) (hX : N.2.2.2.2.2.1 1 = nI m) (hi : i < m) (hm : m ≤ 40) (O : OS m N.2.2.2.2.2.2.2.1 N.2.2.2.2.2.2.2.2.1 N.2.2.2.2.2.2.2.2.2 M.2.2.2.2.2.2.2.1 M.2.2.2.2.2.2.2.2) : ∃ rr : Int32 × Bat, fX5_obey N (nI i) = (rr.1, (N.1, rr.2, N.2.2.1, N.2.2.2.1, N.2.2.2.2.1, N.2.2.2.2.2)) ∧ Tie M c rr (fX6_doneOne M (nI i)) := by
  obtain ⟨o1, o2, o3⟩ := of_1 hX hi hm
  obtain ⟨p1, p2, p3, p4⟩ := O i hi
  unfold fX5_obey fX6_doneOne
  simp only [o1, o2, o3]
  rw [tp_2 (show i ≤ 39 by omega), tp_1 (show i ≤ 39 by omega), nI_clamp (show i < 2 ^ 31 by omega), p1, p3]
  revert p2 p4
  generalize N.2.2.2.2.2.2.2.1 i = k
  intro p2 p4
  have p5 : k = 114 ∨ k = 111 ∨ k = 103 ∨ k = 112 ∨ k = 108 ∨ k = 99 := by
    unfold fX4_isKind at p2
    rw [bz_0, Classical.not_not] at p2
    exact p2
  rcases p5 with e | e | e | e | e | e
  · refine ⟨fX1_rest N.2.1 (N.2.2.2.2.2.2.2.2.1 i), ?_, ?_⟩
    · rw [if_neg (show ¬ k = 99 by rw [e]; decide), if_neg (show ¬ k = 103 by rw [e]; decide), if_neg (show ¬ k = 108 by rw [e]; decide), if_neg (show ¬ k = 111 by rw [e]; decide), if_neg (show ¬ k = 112 by rw [e]; decide), if_pos e]
    · rw [if_neg (show ¬ k = 103 by rw [e]; decide), if_neg (show ¬ k = 108 by rw [e]; decide), if_neg (show ¬ k = 111 by rw [e]; decide), if_neg (show ¬ k = 112 by rw [e]; decide), if_pos e]
      exact tie_rest hc h r _
  · refine ⟨fX1_putOffset N.2.1 (N.2.2.2.2.2.2.2.2.1 i), ?_, ?_⟩
    · rw [if_neg (show ¬ k = 99 by rw [e]; decide), if_neg (show ¬ k = 103 by rw [e]; decide), if_neg (show ¬ k = 108 by rw [e]; decide), if_pos e]
    · rw [if_neg (show ¬ k = 103 by rw [e]; decide), if_neg (show ¬ k = 108 by rw [e]; decide), if_pos e]
      exact tie_offset h r _
  · refine ⟨fX1_putCling N.2.1 (N.2.2.2.2.2.2.2.2.1 i), ?_, ?_⟩
    · rw [if_neg (show ¬ k = 99 by rw [e]; decide), if_pos e]
    · rw [if_pos e]
      exact tie_cling h r _
  · refine ⟨fX1_pass N.2.1 (N.2.2.2.2.2.2.2.2.1 i) (N.2.2.2.2.2.2.2.2.2 i), ?_, ?_⟩
    · rw [if_neg (show ¬ k = 99 by rw [e]; decide), if_neg (show ¬ k = 103 by rw [e]; decide), if_neg (show ¬ k = 108 by rw [e]; decide), if_neg (show ¬ k = 111 by rw [e]; decide), if_pos e]
    · rw [if_neg (show ¬ k = 103 by rw [e]; decide), if_neg (show ¬ k = 108 by rw [e]; decide), if_neg (show ¬ k = 111 by rw [e]; decide), if_pos e, p4 (by rw [e]; decide)]
      exact tie_pass hc h r _ _
  · refine ⟨fX1_load N.2.1 (N.2.2.2.2.2.2.2.2.1 i) (N.2.2.2.2.2.2.2.2.2 i), ?_, ?_⟩
    · rw [if_neg (show ¬ k = 99 by rw [e]; decide), if_neg (show ¬ k = 103 by rw [e]; decide), if_pos e]
    · rw [if_neg (show ¬ k = 103 by rw [e]; decide), if_pos e, p4 (by rw [e]; decide)]
      exact tie_load hc h r _ _
  · refine ⟨fX1_putPoint N.2.1 (N.2.2.2.2.2.2.2.2.1 i) (N.2.2.2.2.2.2.2.2.2 i), ?_, ?_⟩
    · rw [if_pos e]
    · rw [if_neg (show ¬ k = 103 by rw [e]; decide), if_neg (show ¬ k = 108 by rw [e]; decide), if_neg (show ¬ k = 111 by rw [e]; decide), if_neg (show ¬ k = 112 by rw [e]; decide), if_neg (show ¬ k = 114 by rw [e]; decide), p4 (by rw [e]; decide)]
      exact tie_point h r _ _
/-- behind i orders of m -/
def DI (m c i : Nat) (N : GS) (M : Mdl) : Prop := Mid N M (c + i) ∧ N.2.2.2.2.2.1 1 = nI m ∧ M.1 4 = nI m ∧ OS m N.2.2.2.2.2.2.2.1 N.2.2.2.2.2.2.2.2.1 N.2.2.2.2.2.2.2.2.2 M.2.2.2.2.2.2.2.1 M.2.2.2.2.2.2.2.2
theorem DI_s {m c i : Nat} {N : GS} {M : Mdl} (hc : c + 40 ≤ 20480) (hm : m ≤ 40) (hi : i < m) (d : DI m c i N M) : (fX6_doneOne M (nI i)).1 = (fX5_obey N (nI i)).1 ∧ DI m c (i + 1) (fX5_obey N (nI i)).2 (fX6_doneOne M (nI i)).2 ∧ ((fX5_obey N (nI i)).1 = (-10000002) ∨ (fX5_obey N (nI i)).1 = (-10000003) ∨ -10000002 < (fX5_obey N (nI i)).1.toInt) := by
  obtain ⟨dm, d1, d2, d3⟩ := d
  obtain ⟨rr, e, t⟩ := obey_tie (show c + i < 20480 by omega) dm.1.1.2 dm.1.1.1 d1 hi hm d3
  rw [e]
  have ms := mid_step dm t
  refine ⟨t.1, ⟨ms, d1, (t.2.2.2.1.1 4 (by decide) (by decide)).trans d2, ?_⟩, t.2.2.2.2⟩
  rw [t.2.2.2.1.2.2]; exact d3
theorem rem_4 (M : Mdl) : (fX6_remembers M).1 4 = M.1 4 := by
  by_cases c : M.1 0 = 5
  · rw [show fX6_remembers M = ((upd (upd M.1 0 (M.1 0 - 1)) 0 (M.1 0 - 1 + 1)), M.2.1, M.2.2.1, M.2.2.2.1, (lpRow M.2.2.2.1 (lpShift M.2.2.2.2.1 272) (M.1 0 - 1).toNatClampNeg 68), M.2.2.2.2.2.1, M.2.2.2.2.2.2.1, M.2.2.2.2.2.2.2.1, M.2.2.2.2.2.2.2.2) from if_pos c]
    rfl
  · rw [show fX6_remembers M = ((upd M.1 0 (M.1 0 + 1)), M.2.1, M.2.2.1, M.2.2.2.1, (lpRow M.2.2.2.1 M.2.2.2.2.1 (M.1 0).toNatClampNeg 68), M.2.2.2.2.2.1, M.2.2.2.2.2.2.1, M.2.2.2.2.2.2.2.1, M.2.2.2.2.2.2.2.2) from if_neg c]
    rfl
theorem do_eq {m c : Nat} (hc : c + 40 ≤ 20480) (hm : m ≤ 40) : ∀ (f i : Nat) (N : GS) (M : Mdl), i + f = m → DI m c i N M → (dsT f i M).1 = (dcT f i N).1 ∧ Rel (dcT f i N).2 (dsT f i M).2 (c + 40)
  | 0, i, N, M, h, d => by
    refine ⟨(rem_4 M).trans (d.2.2.1.trans d.2.1.symm), ?_⟩
    have k := Rel_m (40 - i) (mid_keep d.1)
    rw [show c + i + (40 - i) = c + 40 by omega] at k
    exact k
  | f + 1, i, N, M, h, d => by
    obtain ⟨s1, s2, s3⟩ := DI_s hc hm (show i < m by omega) d
    have e1 : dcT (f + 1) i N = (if fX5_isRefusal (fX5_obey N (nI i)).1 = 0 then dcT f (i + 1) (fX5_obey N (nI i)).2 else ((-1000) - (nI i), reG (fX5_obey N (nI i)).2)) := rfl
    have e2 : dsT (f + 1) i M = (if (-10000002) < (fX6_doneOne M (nI i)).1 then dsT f (i + 1) (fX6_doneOne M (nI i)).2 else ((-1000) - (nI i), rstM (fX6_doneOne M (nI i)).2)) := rfl
    rw [e1, e2, s1]
    by_cases g : -10000002 < (fX5_obey N (nI i)).1.toInt
    · rw [if_pos (isRf g), if_pos (lt_2 g)]
      exact do_eq hc hm f (i + 1) _ _ (by omega) s2
    · have q : ¬ fX5_isRefusal (fX5_obey N (nI i)).1 = 0 := by
        rcases s3 with e | e | e
        · rw [e]; decide
        · rw [e]; decide
        · exact absurd e g
      rw [if_neg q, if_neg (show ¬ (-10000002) < (fX5_obey N (nI i)).1 from fun z => g (t32_lt.mp z))]
      refine ⟨rfl, ?_⟩
      have k := Rel_m (40 - (i + 1)) (mid_restore s2.1)
      rw [show c + (i + 1) + (40 - (i + 1)) = c + 40 by omega] at k
      exact k
theorem rel_rd {G : GS} {M : Mdl} {c n : Nat} (R : Rel G M c) (hn : n ≤ 120) (S : MS) : Rel (rdG G n) (rdM M n S) c := by
  obtain ⟨hb, rf, hz, tx, -⟩ := R
  exact ⟨hb, rf, hz, tx, n, hn, rfl, rfl⟩
theorem DI_0 {G : GS} {M : Mdl} {c n : Nat} (R : Rel G M c) (hn : n ≤ 120) (h : ¬ (fX4_read G.2.2.2.2.2 n).1 = 0) : DI (fX4_read G.2.2.2.2.2 n).2.1 c 0 (maG (rdG G n)) (fX6_laysAside (rdM M n (fX6_isRead M n).2)) := by
  have f := read_eq (X := G.2.2.2.2.2) (M := M) hn R.2.2.2.1
  refine ⟨mid_start (rel_rd R hn _), rfl, ?_, f.2.2.2.2 h⟩
  show nI (fX6_isRead M n).2.1 = nI (fX4_read G.2.2.2.2.2 n).2.1
  rw [f.2.1]
theorem does_eq {G : GS} {M : Mdl} {c n : Nat} (R : Rel G M c) (hc : c + 40 ≤ 20480) (hn : n ≤ 120) : (fX6_does M n).1 = (fX5_does G n).1 ∧ Rel (fX5_does G n).2 (fX6_does M n).2 (c + 40) := by
  have f := read_eq (X := G.2.2.2.2.2) (M := M) hn R.2.2.2.1
  by_cases g : (fX4_read G.2.2.2.2.2 n).1 = 0
  · have e1 : fX5_does G n = ((-10) - (fX4_place (rdX G.2.2.2.2.2 n (fX4_read G.2.2.2.2.2 n).2)), rdG G n) := if_pos g
    have e2 : fX6_does M n = ((-10) - ((rdM M n (fX6_isRead M n).2).1 6), rdM M n (fX6_isRead M n).2) := if_pos (f.1.trans g)
    rw [e1, e2]
    refine ⟨?_, Rel_m 40 (rel_rd R hn _)⟩
    show (-10) - (fX6_isRead M n).2.2.2.1 = (-10) - nI (fX4_read G.2.2.2.2.2 n).2.2.1
    rw [f.2.2.2.1 g]
  · have e1 : fX5_does G n = dcT (fX4_read G.2.2.2.2.2 n).2.1 0 (maG (rdG G n)) := if_neg g
    have e2 : fX6_does M n = dsT (fX6_isRead M n).2.1 0 (fX6_laysAside (rdM M n (fX6_isRead M n).2)) := if_neg (by rw [f.1]; exact g)
    rw [e1, e2, f.2.1]
    exact do_eq hc f.2.2.1 _ 0 _ _ (Nat.zero_add _) (DI_0 R hn g)
