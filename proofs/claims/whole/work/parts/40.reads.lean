/-! READING: both sides read the same orders out of the same bytes -/
theorem one_ne : ¬ (1 : Int32) = 0 := by decide
theorem fg_ia {b : Nat → Int32} {n k : Nat} : fX4_isFigure (fX4_here b n k) = 0 ↔ fX6_isAt b n k 48 57 = 0 := by
  unfold fX4_isFigure fX4_here fX6_isAt
  rw [bz_0, bz_0]
  by_cases h : k < n
  · rw [if_pos h]; exact ⟨fun g e => g e.2, fun g e => g ⟨h, e⟩⟩
  · rw [if_neg h]; exact ⟨fun _ e => h e.1, fun _ => by decide⟩
theorem hr_ia {b : Nat → Int32} {n k : Nat} {x : Int32} (hx : ¬ (-1) = x) : fX4_here b n k = x ↔ ¬ fX6_isAt b n k x x = 0 := by
  unfold fX4_here fX6_isAt
  rw [bz_0, Classical.not_not]
  by_cases h : k < n
  · rw [if_pos h, t32_le, t32_le, t32_eq]; exact ⟨fun e => ⟨h, by omega, by omega⟩, fun e => by omega⟩
  · rw [if_neg h]; exact ⟨fun e => absurd e hx, fun e => absurd e.1 h⟩
def NR (nu : Nat → Int32) (to : Nat) (r : Int32 × (Nat × Int32)) (t : Int32 × (Nat × Int32 × (Nat → Int32))) : Prop :=
  t.1 = r.1 ∧ t.2.1 = r.2.1 ∧ (r.1 = 0 → t.2.2.1 = nI r.2.1) ∧ (¬ r.1 = 0 → t.2.2.2 = upd nu to r.2.2)
section NUM
variable {b : Nat → Int32} {n : Nat} {ng : Int32} {s0 to : Nat} {nu : Nat → Int32} {wa u : Int32}
theorem dt_E (hn : n ≤ 120) {k : Nat} {v : Int32} (c : fX4_isFigure (fX4_here b n k) = 0) (h1 : s0 < k) (h2 : k ≤ n) : NR nu to (dgE b n ng k v) (tnE b n ng s0 nu to wa k v) := by
  have e : dgE b n ng k v = (1, (k, if ng = 0 then v else -v)) := by unfold dgE; rw [if_pos c]
  have e2 : tnE b n ng s0 nu to wa k v = (1, (k, wa, upd nu to (if ng = 0 then v else -v))) := if_pos ((nlt (by omega) (by omega)).mpr h1)
  rw [e, e2]
  exact ⟨rfl, rfl, fun q => absurd q one_ne, fun _ => rfl⟩
theorem dt_A (hn : n ≤ 120) : ∀ (f k : Nat) (v : Int32), s0 < k → k ≤ n → NR nu to (dgT b n ng f k v) (tnT b n ng s0 nu to wa f k v)
  | 0, k, v, h1, h2 => by
    show NR nu to (dgE b n ng k v) (if fX6_isAt b n k 48 57 = 0 then tnE b n ng s0 nu to wa k v else (0, (k, nI k, nu)))
    by_cases c : fX4_isFigure (fX4_here b n k) = 0
    · rw [if_pos (fg_ia.mp c)]; exact dt_E hn c h1 h2
    · rw [if_neg (fun e => c (fg_ia.mpr e))]
      have e : dgE b n ng k v = (0, (k, if ng = 0 then v else -v)) := by unfold dgE; rw [if_neg c]
      rw [e]; exact ⟨rfl, rfl, fun _ => rfl, fun q => absurd rfl q⟩
  | f + 1, k, v, h1, h2 => by
    show NR nu to (if fX4_isFigure (fX4_here b n k) = 0 then dgE b n ng k v else dgT b n ng f (k + 1) ((10 * v) + fX4_here b n k - 48)) (if fX6_isAt b n k 48 57 = 0 then tnE b n ng s0 nu to wa k v else tnT b n ng s0 nu to wa f (k + 1) ((10 * v) + b k - 48))
    by_cases c : fX4_isFigure (fX4_here b n k) = 0
    · rw [if_pos c, if_pos (fg_ia.mp c)]; exact dt_E hn c h1 h2
    · rw [if_neg c, if_neg (fun e => c (fg_ia.mpr e))]
      have hk : k < n := fg_lt c
      rw [show fX4_here b n k = b k from if_pos hk]
      exact dt_A hn f (k + 1) _ (by omega) hk
theorem dt_B (hn : n ≤ 120) {k : Nat} (hk : k ≤ n) : NR nu to (if fX4_isFigure (fX4_here b n k) = 0 then (0, (k, u)) else dgT b n ng 4 k 0) (tnT b n ng k nu to wa 4 k 0) := by
  by_cases c : fX4_isFigure (fX4_here b n k) = 0
  · have e2 : tnT b n ng k nu to wa 4 k 0 = tnE b n ng k nu to wa k 0 := if_pos (fg_ia.mp c)
    have e3 : tnE b n ng k nu to wa k 0 = (0, (k, nI k, upd nu to (if ng = 0 then 0 else -0))) := if_neg (fun e => absurd ((nlt (by omega) (by omega)).mp e) (by omega))
    rw [if_pos c, e2, e3]
    exact ⟨rfl, rfl, fun _ => rfl, fun q => absurd rfl q⟩
  · have hk : k < n := fg_lt c
    have e2 : dgT b n ng 4 k 0 = dgT b n ng 3 (k + 1) ((10 * 0) + fX4_here b n k - 48) := if_neg c
    have e3 : tnT b n ng k nu to wa 4 k 0 = tnT b n ng k nu to wa 3 (k + 1) ((10 * 0) + b k - 48) := if_neg (fun e => c (fg_ia.mpr e))
    rw [if_neg c, e2, e3, show fX4_here b n k = b k from if_pos hk]
    exact dt_A hn 3 (k + 1) _ (by omega) hk
theorem num_eq (hn : n ≤ 120) {q : Nat} (hq : q ≤ n) (sg tp : Int32) : NR nu tp.toNatClampNeg (fX4_readNumber b n q u sg) (fX6_takesNumber b n q wa nu tp sg) := by
  have hs := sk_le (b := b) hq
  unfold fX4_readNumber fX6_takesNumber
  simp only []
  by_cases c : sg = 0
  · rw [if_pos c, if_pos c]; exact dt_B hn hs
  · rw [if_neg c, if_neg c]
    by_cases d : fX4_here b n (sk b n q) = 45
    · have hl : sk b n q < n := hr_lt (by rw [d]; decide)
      rw [if_pos d, if_neg ((hr_ia (by decide)).mp d)]; exact dt_B hn hl
    · rw [if_neg d, if_pos (Classical.not_not.mp (fun e => d ((hr_ia (by decide)).mpr e)))]; exact dt_B hn hs
end NUM
/-- a second number? -/
theorem mo_k {k : Int32} : fX6_manyOf k = (-10000001) ↔ fX4_isKind k = 0 := by
  unfold fX6_manyOf fX4_isKind
  rw [bz_0]
  by_cases a1 : k = 99
  · rw [if_pos a1]; exact ⟨fun e => absurd e (by decide), fun e => absurd (.inr (.inr (.inr (.inr (.inr a1))))) e⟩
  rw [if_neg a1]
  by_cases a2 : k = 103
  · rw [if_pos a2]; exact ⟨fun e => absurd e (by decide), fun e => absurd (.inr (.inr (.inl a2))) e⟩
  rw [if_neg a2]
  by_cases a3 : k = 108
  · rw [if_pos a3]; exact ⟨fun e => absurd e (by decide), fun e => absurd (.inr (.inr (.inr (.inr (.inl a3))))) e⟩
  rw [if_neg a3]
  by_cases a4 : k = 111
  · rw [if_pos a4]; exact ⟨fun e => absurd e (by decide), fun e => absurd (.inr (.inl a4)) e⟩
  rw [if_neg a4]
  by_cases a5 : k = 112
  · rw [if_pos a5]; exact ⟨fun e => absurd e (by decide), fun e => absurd (.inr (.inr (.inr (.inl a5)))) e⟩
  rw [if_neg a5]
  by_cases a6 : k = 114
  · rw [if_pos a6]; exact ⟨fun e => absurd e (by decide), fun e => absurd (.inl a6) e⟩
  rw [if_neg a6]
  refine ⟨fun _ e => ?_, fun _ => rfl⟩
  rcases e with e | e | e | e | e | e
  · exact a6 e
  · exact a4 e
  · exact a2 e
  · exact a5 e
  · exact a3 e
  · exact a1 e
theorem mo_2 {k : Int32} (h : ¬ fX4_isKind k = 0) : fX6_manyOf k = 2 ↔ ¬ fX4_hasSecond k = 0 := by
  unfold fX4_isKind at h
  unfold fX6_manyOf fX4_hasSecond
  rw [bz_0, Classical.not_not] at h ⊢
  by_cases a1 : k = 99
  · rw [if_pos a1]; exact ⟨fun _ => .inr (.inr a1), fun _ => rfl⟩
  rw [if_neg a1]
  by_cases a2 : k = 103
  · rw [if_pos a2, a2]; decide
  rw [if_neg a2]
  by_cases a3 : k = 108
  · rw [if_pos a3]; exact ⟨fun _ => .inr (.inl a3), fun _ => rfl⟩
  rw [if_neg a3]
  by_cases a4 : k = 111
  · rw [if_pos a4, a4]; decide
  rw [if_neg a4]
  by_cases a5 : k = 112
  · rw [if_pos a5]; exact ⟨fun _ => .inl a5, fun _ => rfl⟩
  rw [if_neg a5]
  by_cases a6 : k = 114
  · rw [if_pos a6, a6]; decide
  rw [if_neg a6]
  rcases h with e | e | e | e | e | e
  · exact absurd e a6
  · exact absurd e a4
  · exact absurd e a2
  · exact absurd e a5
  · exact absurd e a3
  · exact absurd e a1
theorem tp_0 {o : Nat} (h : o ≤ 39) : ((2 * nI o) + 0).toNatClampNeg = 2 * o := by
  rw [show (2 : Int32) = nI 2 from rfl, pk_mul, show (0 : Int32) = nI 0 from rfl, nI_add, nI_clamp (by omega)]; rfl
theorem tp_1 {o : Nat} (h : o ≤ 39) : ((2 * nI o) + 1).toNatClampNeg = 2 * o + 1 := by
  rw [show (2 : Int32) = nI 2 from rfl, pk_mul, show (1 : Int32) = nI 1 from rfl, nI_add, nI_clamp (by omega)]
/-- an order read by both -/
def OR (o : Nat) (ks fs ss lt nu : Nat → Int32) (r : Int32 × RS) (t : Int32 × MS) : Prop :=
  t.1 = r.1 ∧ t.2.1 = r.2.1 ∧ t.2.2.1 = r.2.2.1 ∧ (r.1 = 0 → t.2.2.2.1 = nI r.2.2.1) ∧
  (¬ r.1 = 0 → ∃ k x y : Int32, ¬ fX4_isKind k = 0 ∧ r.2.2.2.2.1 = upd ks o k ∧ t.2.2.2.2.1 = upd lt o k ∧ r.2.2.2.2.2.1 = upd fs o x ∧ r.2.2.2.2.2.2 = upd ss o y ∧ ((fX4_hasSecond k = 0 ∧ t.2.2.2.2.2 = upd nu (2 * o) x) ∨ t.2.2.2.2.2 = upd (upd nu (2 * o) x) (2 * o + 1) y))
theorem ord_eq {n o q : Nat} {u wa : Int32} {b ks fs ss lt nu : Nat → Int32} (hn : n ≤ 120) (ho : o ≤ 39) (hq : q < n) : OR o ks fs ss lt nu (fX4_readOrder n o q u b ks fs ss) (fX6_takesOrder b n o q wa lt nu) := by
  have eh : fX4_here b n q = b q := if_pos hq
  unfold fX4_readOrder fX6_takesOrder
  simp only [eh]
  by_cases c : fX4_isKind (b q) = 0
  · rw [if_pos c, if_pos (mo_k.mpr c)]
    exact ⟨rfl, rfl, rfl, fun _ => rfl, fun q => absurd rfl q⟩
  rw [if_neg c, if_neg (fun e => c (mo_k.mp e)), if_pos (show nI o < 40 from (nlt (a := o) (b := 40) (by omega) (by omega)).mpr (by omega))]
  generalize (if b q = 112 then 1 else (if b q = 108 then 1 else 0) : Int32) = sg
  have r1 := num_eq (b := b) (nu := nu) (wa := wa) (u := u) hn (show q + 1 ≤ n from hq) sg ((2 * nI o) + 0)
  have l1 := rn_le (b := b) (u := u) (sg := sg) (show q + 1 ≤ n from hq)
  rw [tp_0 ho] at r1
  revert r1 l1
  generalize fX4_readNumber b n (q + 1) u sg = R
  generalize fX6_takesNumber b n (q + 1) wa nu ((2 * nI o) + 0) sg = T
  obtain ⟨R1, R2, R3⟩ := R
  obtain ⟨T1, T2, T3, T4⟩ := T
  rintro ⟨e1, e2, e3, e4⟩ ⟨l1, -, -⟩
  simp only at e1 e2 e3 e4 l1
  subst e1
  subst e2
  have hs := sk_le (b := b) l1
  by_cases d : fX4_hasSecond (b q) = 0
  · rw [if_neg (show ¬ fX6_manyOf (b q) = 2 from fun e => (mo_2 c).mp e d)]
    simp only []
    by_cases f : T1 = 0
    · rw [if_pos f, if_pos f]
      exact ⟨rfl, rfl, rfl, fun _ => e3 f, fun q => absurd rfl q⟩
    · rw [if_neg f, if_neg f, if_pos d, e4 f]
      by_cases g : fX4_here b n (sk b n T2) = 59
      · rw [if_pos g, if_neg ((hr_ia (by decide)).mp g)]
        exact ⟨rfl, rfl, rfl, fun q => absurd q one_ne, fun _ => ⟨_, _, _, c, rfl, rfl, rfl, rfl, .inl ⟨d, rfl⟩⟩⟩
      · rw [if_neg g, if_pos (Classical.not_not.mp (fun e => g ((hr_ia (by decide)).mpr e)))]
        exact ⟨rfl, rfl, rfl, fun _ => rfl, fun q => absurd rfl q⟩
  · rw [if_pos ((mo_2 c).mpr d)]
    simp only []
    by_cases f : T1 = 0
    · rw [if_pos f, if_pos f]
      exact ⟨rfl, rfl, rfl, fun _ => e3 f, fun q => absurd rfl q⟩
    · rw [if_neg f, if_neg f, if_neg d, e4 f]
      have r2 := num_eq (b := b) (nu := upd nu (2 * o) R3) (wa := T3) (u := R3) hn l1 0 ((2 * nI o) + 1)
      have l2 := rn_le (b := b) (u := R3) (sg := 0) l1
      rw [tp_1 ho] at r2
      revert r2 l2
      generalize fX4_readNumber b n T2 R3 0 = V
      generalize fX6_takesNumber b n T2 T3 (upd nu (2 * o) R3) ((2 * nI o) + 1) 0 = X
      obtain ⟨V1, V2, V3⟩ := V
      obtain ⟨X1, X2, X3, X4⟩ := X
      rintro ⟨a1, a2, a3, a4⟩ ⟨l2, -, -⟩
      simp only at a1 a2 a3 a4 l2
      subst a1
      subst a2
      by_cases f2 : X1 = 0
      · rw [if_pos f2, if_pos f2]
        exact ⟨rfl, rfl, rfl, fun _ => a3 f2, fun q => absurd rfl q⟩
      · rw [if_neg f2, if_neg f2, a4 f2]
        by_cases g : fX4_here b n (sk b n X2) = 59
        · rw [if_pos g, if_neg ((hr_ia (by decide)).mp g)]
          exact ⟨rfl, rfl, rfl, fun q => absurd q one_ne, fun _ => ⟨_, _, _, c, rfl, rfl, rfl, rfl, .inr rfl⟩⟩
        · rw [if_neg g, if_pos (Classical.not_not.mp (fun e => g ((hr_ia (by decide)).mpr e)))]
          exact ⟨rfl, rfl, rfl, fun _ => rfl, fun q => absurd rfl q⟩
/-- what both hold of the orders read -/
def OS (m : Nat) (ks fs ss lt nu : Nat → Int32) : Prop := ∀ i, i < m → lt i = ks i ∧ ¬ fX4_isKind (ks i) = 0 ∧ nu (2 * i) = fs i ∧ (¬ fX4_hasSecond (ks i) = 0 → nu (2 * i + 1) = ss i)
def FR (r : Int32 × RS) (t : Int32 × MS) : Prop :=
  t.1 = r.1 ∧ t.2.1 = r.2.1 ∧ r.2.1 ≤ 40 ∧ (r.1 = 0 → t.2.2.2.1 = nI r.2.2.1) ∧ (¬ r.1 = 0 → OS r.2.1 r.2.2.2.2.1 r.2.2.2.2.2.1 r.2.2.2.2.2.2 t.2.2.2.2.1 t.2.2.2.2.2)
theorem OS_up {o : Nat} {ks fs ss lt nu : Nat → Int32} (h : OS o ks fs ss lt nu) {k x y : Int32} {nu' : Nat → Int32} (hk : ¬ fX4_isKind k = 0) (hn : (fX4_hasSecond k = 0 ∧ nu' = upd nu (2 * o) x) ∨ nu' = upd (upd nu (2 * o) x) (2 * o + 1) y) : OS (o + 1) (upd ks o k) (upd fs o x) (upd ss o y) (upd lt o k) nu' := by
  intro i hi
  by_cases c : i = o
  · subst c
    rw [up_at, up_at, up_at, up_at]
    refine ⟨rfl, hk, ?_, fun q => ?_⟩
    · rcases hn with ⟨_, e⟩ | e
      · rw [e, up_at]
      · rw [e, up_ne (by omega), up_at]
    · rcases hn with ⟨e, _⟩ | e
      · exact absurd e q
      · rw [e, up_at]
  · have g := h i (by omega)
    rw [up_ne c, up_ne c, up_ne c, up_ne c]
    have e0 : nu' (2 * i) = nu (2 * i) ∧ nu' (2 * i + 1) = nu (2 * i + 1) := by
      rcases hn with ⟨_, e⟩ | e
      · rw [e, up_ne (by omega), up_ne (by omega)]; exact ⟨rfl, rfl⟩
      · rw [e, up_ne (by omega), up_ne (by omega), up_ne (by omega), up_ne (by omega)]; exact ⟨rfl, rfl⟩
    rw [e0.1, e0.2]; exact g
theorem ir_end {b : Nat → Int32} {n : Nat} (hn : n ≤ 120) {S : MS} (h : n ≤ S.2.1) (h2 : S.2.1 ≤ n) : ∀ g : Nat, irT b n g S = irE S
  | 0 => rfl
  | g + 1 => if_pos ((nle (by omega) (by omega)).mpr h)
theorem rd_fin {n : Nat} (hn : n ≤ 120) {S : RS} {S' : MS} (h1 : S'.1 = S.1) (h2 : S'.2.1 = S.2.1) (h3 : n ≤ S.2.1) (h4 : S.2.1 ≤ n) (h5 : S.1 ≤ 40) (h6 : OS S.1 S.2.2.2.1 S.2.2.2.2.1 S.2.2.2.2.2 S'.2.2.2.1 S'.2.2.2.2) : FR (rdE n S, S) (irE S') := by
  obtain ⟨o, q, u, ks, fs, ss⟩ := S
  obtain ⟨o', q', wa, lt, nu⟩ := S'
  simp only at h1 h2 h3 h4 h5 h6
  subst h1
  subst h2
  by_cases c : o' = 0
  · have e1 : rdE n (o', q', u, ks, fs, ss) = 0 := if_pos (show nI o' ≤ 0 by rw [c]; decide +kernel)
    have e2 : irE (o', q', wa, lt, nu) = (0, (o', q', nI q', lt, nu)) := if_neg (show ¬ 0 < nI o' by rw [c]; decide +kernel)
    rw [e1, e2]
    exact ⟨rfl, rfl, h5, fun _ => rfl, fun q => absurd rfl q⟩
  · have e1 : rdE n (o', q', u, ks, fs, ss) = 1 := (if_neg (show ¬ nI o' ≤ nI 0 from fun e => c (by have := (nle (by omega) (by omega)).mp e; omega))).trans (if_neg (fun e => absurd ((nlt (a := q') (b := n) (by omega) (by omega)).mp e) (by omega)))
    have e2 : irE (o', q', wa, lt, nu) = (1, (o', q', wa, lt, nu)) := if_pos (show nI 0 < nI o' from (nlt (by omega) (by omega)).mpr (by omega))
    rw [e1, e2]
    exact ⟨rfl, rfl, h5, fun q => absurd q one_ne, fun _ => h6⟩
theorem rd_eq {b : Nat → Int32} {n : Nat} (hn : n ≤ 120) (g : Nat) : ∀ (f : Nat) (S : RS) (S' : MS), f + S.1 = 40 → S'.1 = S.1 → S'.2.1 = S.2.1 → 3 * S.1 ≤ S.2.1 → S.2.1 ≤ n → OS S.1 S.2.2.2.1 S.2.2.2.2.1 S.2.2.2.2.2 S'.2.2.2.1 S'.2.2.2.2 → FR (rdT b n f S) (irT b n (f + g) S')
  | 0, S, S', h0, h1, h2, h3, h4, h5 => by
    rw [ir_end hn (by omega) (by omega)]
    exact rd_fin hn h1 h2 (by omega) h4 (by omega) h5
  | f + 1, S, S', h0, h1, h2, h3, h4, h5 => by
    by_cases c : n ≤ S.2.1
    · rw [ir_end hn (by omega) (by omega), show rdT b n (f + 1) S = (rdE n S, S) from if_pos ((nle (by omega) (by omega)).mpr c)]
      exact rd_fin hn h1 h2 c h4 (by omega) h5
    · have c1 : ¬ nI n ≤ nI S.2.1 := fun e => c ((nle (by omega) (by omega)).mp e)
      have c2 : ¬ nI n ≤ nI S'.2.1 := by rw [h2]; exact c1
      have t := ord_eq (u := S.2.2.1) (wa := S'.2.2.1) (b := b) (ks := S.2.2.2.1) (fs := S.2.2.2.2.1) (ss := S.2.2.2.2.2) (lt := S'.2.2.2.1) (nu := S'.2.2.2.2) hn (show S.1 ≤ 39 by omega) (show S.2.1 < n by omega)
      have l := ro_le n S.1 S.2.1 S.2.2.1 b S.2.2.2.1 S.2.2.2.2.1 S.2.2.2.2.2 h4
      have e1 : rdT b n (f + 1) S = (if (rdO b n S).1 = 0 then (0, (rdO b n S).2) else rdT b n f ((rdO b n S).2.1, sk b n (rdO b n S).2.2.1, (rdO b n S).2.2.2)) := if_neg c1
      have e2 : irT b n (f + 1 + g) S' = (if (irO b n S').1 = 0 then (0, (irO b n S').2) else irT b n (f + g) ((irO b n S').2.1, sk b n (irO b n S').2.2.1, (irO b n S').2.2.2)) := by
        rw [show f + 1 + g = (f + g) + 1 by omega]; exact if_neg c2
      have e3 : irO b n S' = fX6_takesOrder b n S.1 S.2.1 S'.2.2.1 S'.2.2.2.1 S'.2.2.2.2 := by unfold irO; rw [h1, h2]
      have e4 : rdO b n S = fX4_readOrder n S.1 S.2.1 S.2.2.1 b S.2.2.2.1 S.2.2.2.2.1 S.2.2.2.2.2 := rfl
      rw [e1, e2, e3, e4]
      revert t l
      generalize fX4_readOrder n S.1 S.2.1 S.2.2.1 b S.2.2.2.1 S.2.2.2.2.1 S.2.2.2.2.2 = R
      generalize fX6_takesOrder b n S.1 S.2.1 S'.2.2.1 S'.2.2.2.1 S'.2.2.2.2 = T
      obtain ⟨R1, Ro, Rq, Ru, Rk, Rf, Rs⟩ := R
      obtain ⟨T1, To, Tq, Tw, Tl, Tn⟩ := T
      rintro ⟨t1, t2, t3, t4, t5⟩ ⟨l1, l2, l3, l4⟩
      simp only at t1 t2 t3 t4 t5 l1 l2 l3 l4
      subst t1
      subst t2
      subst t3
      by_cases d : T1 = 0
      · rw [if_pos d, if_pos d]
        exact ⟨rfl, rfl, (by show To ≤ 40; omega), fun _ => t4 d, fun q => absurd rfl q⟩
      · rw [if_neg d, if_neg d]
        obtain ⟨k, x, y, k1, k2, k3, k4, k5, k6⟩ := t5 d
        obtain ⟨m1, m2⟩ := l4 d
        have hk := sk_le (b := b) l1
        have hg := sk_ge b n Tq
        refine rd_eq hn g f _ _ ?_ rfl rfl ?_ hk ?_
        · show f + To = 40; omega
        · show 3 * To ≤ sk b n Tq; omega
        · show OS To Rk Rf Rs Tl Tn
          rw [k2, k3, k4, k5, m2]
          exact OS_up h5 k1 k6
theorem read_eq {X : Txt} {M : Mdl} {n : Nat} (hn : n ≤ 120) (hb : M.2.2.2.2.2.2.1 = X.2.1) : FR (fX4_read X n) (fX6_isRead M n) := by
  unfold fX4_read fX6_isRead
  rw [hb]
  exact rd_eq hn 80 40 _ _ rfl rfl rfl (by show 3 * 0 ≤ _; omega) (sk_le (Nat.zero_le _)) (fun i hi => absurd hi (by show ¬ i < 0; omega))
