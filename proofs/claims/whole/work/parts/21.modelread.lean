/-! the reference's orders -/
abbrev MS : Type := Nat × Nat × Int32 × (Nat → Int32) × (Nat → Int32)
theorem mo_1 {k r : Int32} (e : fX6_manyOf k = r) (h : ¬ r = (-10000001)) (h2 : ¬ r = 2) : r = 1 := by
  unfold fX6_manyOf at e
  by_cases c1 : k = 99
  · rw [if_pos c1] at e; exact absurd e.symm h2
  · rw [if_neg c1] at e
    by_cases c2 : k = 103
    · rw [if_pos c2] at e; exact e.symm
    · rw [if_neg c2] at e
      by_cases c3 : k = 108
      · rw [if_pos c3] at e; exact absurd e.symm h2
      · rw [if_neg c3] at e
        by_cases c4 : k = 111
        · rw [if_pos c4] at e; exact e.symm
        · rw [if_neg c4] at e
          by_cases c5 : k = 112
          · rw [if_pos c5] at e; exact absurd e.symm h2
          · rw [if_neg c5] at e
            by_cases c6 : k = 114
            · rw [if_pos c6] at e; exact e.symm
            · rw [if_neg c6] at e; exact absurd e.symm h
theorem ix_2o {o : Nat} (h : o ≤ 39) (i : Nat) (hi : i ≤ 1) : vp_in ((2 * nI o) + nI i) 120 := by
  rw [show (2 : Int32) = nI 2 from rfl, pk_mul, nI_add]; exact vp_in_nI (by omega) (by decide)

def fX6_takesOrder (tx : Nat → Int32) (n o q : Nat) (wa : Int32) (lt nu : Nat → Int32) : Int32 × (MS) :=
  let x1 : Int32 := (tx q)
  let r2 : Int32 := fX6_manyOf x1
  if r2 = (-10000001) then
    (0, (o, q, nI q, lt, nu))
  else
    if r2 = 2 then
      let x8 : Int32 := (if x1 = 112 then 1 else (if x1 = 108 then 1 else 0))
      let r10 : Int32 × (Nat × Int32 × (Nat → Int32)) := fX6_takesNumber tx n (q + 1) wa nu ((2 * (nI o)) + 0) x8
      if r10.1 = 0 then
        (0, (o, r10.2.1, r10.2.2.1, (upd lt o x1), r10.2.2.2))
      else
        let r14 : Int32 × (Nat × Int32 × (Nat → Int32)) := fX6_takesNumber tx n r10.2.1 r10.2.2.1 r10.2.2.2 ((2 * (nI o)) + 1) 0
        if r14.1 = 0 then
          (0, (o, r14.2.1, r14.2.2.1, (upd lt o x1), r14.2.2.2))
        else
          let r18 : Int32 := fX6_isAt tx n (sk tx n r14.2.1) 59 59
          if r18 = 0 then
            (0, (o, sk tx n r14.2.1, nI (sk tx n r14.2.1), (upd lt o x1), r14.2.2.2))
          else
            (1, (o + 1, sk tx n r14.2.1 + 1, r14.2.2.1, (upd lt o x1), r14.2.2.2))
    else
      let x24 : Int32 := (if x1 = 112 then 1 else (if x1 = 108 then 1 else 0))
      let r26 : Int32 × (Nat × Int32 × (Nat → Int32)) := fX6_takesNumber tx n (q + 1) wa nu ((2 * (nI o)) + 0) x24
      if r26.1 = 0 then
        (0, (o, r26.2.1, r26.2.2.1, (upd lt o x1), r26.2.2.2))
      else
        let r30 : Int32 := fX6_isAt tx n (sk tx n r26.2.1) 59 59
        if r30 = 0 then
          (0, (o, sk tx n r26.2.1, nI (sk tx n r26.2.1), (upd lt o x1), r26.2.2.2))
        else
          (1, (o + 1, sk tx n r26.2.1 + 1, r26.2.2.1, (upd lt o x1), r26.2.2.2))
theorem tn_gt {tx : Nat → Int32} {n q : Nat} {wa : Int32} {nu : Nat → Int32} {tp bl : Int32} (hq : q ≤ n) (hn : n ≤ 120) (h : ¬ (fX6_takesNumber tx n q wa nu tp bl).1 = 0) : q + 1 ≤ (fX6_takesNumber tx n q wa nu tp bl).2.1 := by
  have h1 : sk tx n q ≤ n := sk_le hq
  have h0 := sk_ge tx n q
  have kE : ∀ (ng : Int32) (s0 k : Nat) (v : Int32), q ≤ s0 → k ≤ n → s0 ≤ n → ¬ (tnE tx n ng s0 nu tp.toNatClampNeg wa k v).1 = 0 → q + 1 ≤ (tnE tx n ng s0 nu tp.toNatClampNeg wa k v).2.1 := by
    intro ng s0 k v hs hk hs0 hz
    unfold tnE at hz ⊢
    by_cases c : nI s0 < nI k
    · rw [if_pos c]
      have := (nlt (by omega) (by omega)).mp c
      show q + 1 ≤ k
      omega
    · rw [if_neg c] at hz; exact absurd rfl hz
  have key : ∀ (ng : Int32) (s0 : Nat), q ≤ s0 → s0 ≤ n → ¬ (tnT tx n ng s0 nu tp.toNatClampNeg wa 4 s0 0).1 = 0 → q + 1 ≤ (tnT tx n ng s0 nu tp.toNatClampNeg wa 4 s0 0).2.1 := by
    intro ng s0 hs hs0 hz
    by_cases c : fX6_isAt tx n s0 48 57 = 0
    · rw [show tnT tx n ng s0 nu tp.toNatClampNeg wa 4 s0 0 = tnE tx n ng s0 nu tp.toNatClampNeg wa s0 0 from if_pos c] at hz ⊢
      exact kE ng s0 s0 0 hs hs0 hs0 hz
    · rw [show tnT tx n ng s0 nu tp.toNatClampNeg wa 4 s0 0 = tnT tx n ng s0 nu tp.toNatClampNeg wa 3 (s0 + 1) ((10 * 0) + tx s0 - 48) from if_neg c] at hz ⊢
      have := (tnT_le (tx := tx) (bl := ng) (s0 := s0) (nu := nu) (to := tp.toNatClampNeg) (wa := wa) 3 (s0 + 1) ((10 * 0) + tx s0 - 48) (ia_lt c)).2.1
      omega
  unfold fX6_takesNumber at h ⊢
  simp only [] at h ⊢
  by_cases c1 : bl = 0
  · rw [if_pos c1] at h ⊢; exact key 0 _ h0 h1 h
  · rw [if_neg c1] at h ⊢
    by_cases c3 : fX6_isAt tx n (sk tx n q) 45 45 = 0
    · rw [if_pos c3] at h ⊢; exact key 0 _ h0 h1 h
    · rw [if_neg c3] at h ⊢; exact key 1 _ (by omega) (ia_lt c3) h
theorem to_le {tx : Nat → Int32} {n o q : Nat} {wa : Int32} {lt nu : Nat → Int32} (ho : o ≤ 39) (hq : q < n) : (fX6_takesOrder tx n o q wa lt nu).2.2.1 ≤ n ∧ ((fX6_takesOrder tx n o q wa lt nu).1 = 0 ∨ (fX6_takesOrder tx n o q wa lt nu).1 = 1) ∧ (n ≤ 120 → ¬ (fX6_takesOrder tx n o q wa lt nu).1 = 0 → q + 3 ≤ (fX6_takesOrder tx n o q wa lt nu).2.2.1 ∧ (fX6_takesOrder tx n o q wa lt nu).2.1 = o + 1) := by
  have hq1 : q + 1 ≤ n := hq
  generalize hz : fX6_takesOrder tx n o q wa lt nu = z
  unfold fX6_takesOrder at hz
  simp only [] at hz
  by_cases c1 : fX6_manyOf (tx q) = (-10000001)
  · rw [if_pos c1] at hz; subst hz; exact ⟨Nat.le_of_lt hq, Or.inl rfl, fun _ h => absurd rfl h⟩
  · rw [if_neg c1] at hz
    generalize (if tx q = 112 then (1 : Int32) else if tx q = 108 then 1 else 0) = bl at hz
    have n1 := tn_le (tx := tx) (wa := wa) (nu := nu) (tp := (2 * nI o) + 0) (bl := bl) hq1
    by_cases c2 : fX6_manyOf (tx q) = 2
    · rw [if_pos c2] at hz
      by_cases c3 : (fX6_takesNumber tx n (q + 1) wa nu ((2 * nI o) + 0) bl).1 = 0
      · rw [if_pos c3] at hz; subst hz; exact ⟨n1.1, Or.inl rfl, fun _ h => absurd rfl h⟩
      · rw [if_neg c3] at hz
        have g1 : n ≤ 120 → _ := fun hn => tn_gt hq1 hn c3
        generalize fX6_takesNumber tx n (q + 1) wa nu ((2 * nI o) + 0) bl = r at hz n1 c3 g1
        have n2 := tn_le (tx := tx) (wa := r.2.2.1) (nu := r.2.2.2) (tp := (2 * nI o) + 1) (bl := 0) n1.1
        by_cases c4 : (fX6_takesNumber tx n r.2.1 r.2.2.1 r.2.2.2 ((2 * nI o) + 1) 0).1 = 0
        · rw [if_pos c4] at hz; subst hz; exact ⟨n2.1, Or.inl rfl, fun _ h => absurd rfl h⟩
        · rw [if_neg c4] at hz
          generalize fX6_takesNumber tx n r.2.1 r.2.2.1 r.2.2.2 ((2 * nI o) + 1) 0 = r2 at hz n2 c4
          have s1 := sk_le (b := tx) n2.1
          have s2 := sk_ge tx n r2.2.1
          by_cases c5 : fX6_isAt tx n (sk tx n r2.2.1) 59 59 = 0
          · rw [if_pos c5] at hz; subst hz; exact ⟨s1, Or.inl rfl, fun _ h => absurd rfl h⟩
          · rw [if_neg c5] at hz; subst hz
            refine ⟨ia_lt c5, Or.inr rfl, fun hn _ => ⟨?_, rfl⟩⟩
            have := g1 hn; have := n2.2.1
            show q + 3 ≤ sk tx n r2.2.1 + 1
            omega
    · rw [if_neg c2] at hz
      by_cases c3 : (fX6_takesNumber tx n (q + 1) wa nu ((2 * nI o) + 0) bl).1 = 0
      · rw [if_pos c3] at hz; subst hz; exact ⟨n1.1, Or.inl rfl, fun _ h => absurd rfl h⟩
      · rw [if_neg c3] at hz
        have g1 : n ≤ 120 → _ := fun hn => tn_gt hq1 hn c3
        generalize fX6_takesNumber tx n (q + 1) wa nu ((2 * nI o) + 0) bl = r at hz n1 c3 g1
        have s1 := sk_le (b := tx) n1.1
        have s2 := sk_ge tx n r.2.1
        by_cases c5 : fX6_isAt tx n (sk tx n r.2.1) 59 59 = 0
        · rw [if_pos c5] at hz; subst hz; exact ⟨s1, Or.inl rfl, fun _ h => absurd rfl h⟩
        · rw [if_neg c5] at hz; subst hz
          refine ⟨ia_lt c5, Or.inr rfl, fun hn _ => ⟨?_, rfl⟩⟩
          have := g1 hn
          show q + 3 ≤ sk tx n r.2.1 + 1
          omega
abbrev rX6_takesOrder : Room := { frames := 4, cells := 0, slots := 0, locals := 92 }
theorem mm_X6_takesOrder_1 : Cond.fieldLink RX6 23 "GaugeBoundsModel" "text" "[I" ∈ wsX6_takesOrder := List.mem_of_getElem? (i := 1) rfl
theorem mm_X6_takesOrder_2 : Cond.fieldLink RX6 148 "GaugeBoundsModel" "spot" "I" ∈ wsX6_takesOrder := List.mem_of_getElem? (i := 2) rfl
theorem mm_X6_takesOrder_3 : Cond.constant RX6 57 (-10000001) ∈ wsX6_takesOrder := List.mem_of_getElem? (i := 3) rfl
theorem mm_X6_takesOrder_4 : Cond.fieldLink RX6 26 "GaugeBoundsModel" "letters" "[I" ∈ wsX6_takesOrder := List.mem_of_getElem? (i := 4) rfl
theorem mm_X6_takesOrder_5 : Cond.fieldLink RX6 168 "GaugeBoundsModel" "orders" "I" ∈ wsX6_takesOrder := List.mem_of_getElem? (i := 5) rfl
theorem ii_X6_takesOrder_X6 : ∀ w ∈ wsX60, w ∈ wsX6_takesOrder := fun _ h => List.mem_cons_of_mem _ (List.mem_append_right _ (h))
theorem qvX6_takesOrder : yX6_takesOrder.cls = RX6 ∧ yX6_takesOrder.cls ≠ "java/lang/invoke/MethodHandle" ∧ yX6_takesOrder.cls ≠ "java/lang/invoke/VarHandle" ∧ (parseMethodDescriptor yX6_takesOrder.desc).map (fun d => d.parameters.length) = some 0 := by decide +kernel
set_option maxHeartbeats 4000000 in
set_option maxRecDepth 100000 in
theorem kX6_takesOrder (l : Launch) (E : gEnv) (a : Nat → Nat) (y : Nat → Int32) (n o q : Nat) (wa : Int32) (hs : Int64) (nw sd pt : Nat → Int64) (rf tx lt nu : Nat → Int32) (hn : n ≤ 120) (hq : q < n) (ho : o ≤ 39) : gMi l E yX6_takesOrder wsX6_takesOrder rX6_takesOrder [.ref (a 0)] (wMx E a y n o q wa hs nw sd pt rf tx lt nu) (fX6_takesOrder tx n o q wa lt nu).1 (wMx E a y n ((fX6_takesOrder tx n o q wa lt nu).2.1) ((fX6_takesOrder tx n o q wa lt nu).2.2.1) ((fX6_takesOrder tx n o q wa lt nu).2.2.2.1) hs nw sd pt rf tx ((fX6_takesOrder tx n o q wa lt nu).2.2.2.2.1) ((fX6_takesOrder tx n o q wa lt nu).2.2.2.2.2)) := by
  refine gMz_of (cc := cX6_takesOrder) (maxL := 4) (ret := (some .boolean)) (by decide) rfl rfl (Nat.le_of_ble_eq_true rfl) (zb (to_le ho hq).2.1) ?_
  intro p e s m args below meth c A Q ls hB hQ
  obtain ⟨hx, hb, hml, hown, hts, hK, hP, hD, hA, hS, hl⟩ := hB
  have hown : s.vm.findClass RX6 = some m.cls := hown
  have hP : va_P E.1 vwCl [(a 0, .inr (6, [.ref (a 1), .ref (a 2), .ref (a 3), .int (y 0), .ref (a 4), .ref (a 5), .int (nI n), .int (y 2), .int (y 3), .ref (a 6), .ref (a 7), .int (nI o), .int (nI q), .int wa, .long hs])), (a 1, .inl (eJ E, 68, .inr (.inl nw))), (a 2, .inl (eJ E, 68, .inr (.inl sd))), (a 3, .inl (eJ E, 340, .inr (.inl pt))), (a 4, .inl (eI E, 3, .inl rf)), (a 5, .inl (eI E, 120, .inl tx)), (a 6, .inl (eI E, 60, .inl lt)), (a 7, .inl (eI E, 120, .inl nu))] s.heap := hP
  have hD : va_D A [(a 0, .inr (6, [.ref (a 1), .ref (a 2), .ref (a 3), .int (y 0), .ref (a 4), .ref (a 5), .int (nI n), .int (y 2), .int (y 3), .ref (a 6), .ref (a 7), .int (nI o), .int (nI q), .int wa, .long hs])), (a 1, .inl (eJ E, 68, .inr (.inl nw))), (a 2, .inl (eJ E, 68, .inr (.inl sd))), (a 3, .inl (eJ E, 340, .inr (.inl pt))), (a 4, .inl (eI E, 3, .inl rf)), (a 5, .inl (eI E, 120, .inl tx)), (a 6, .inl (eI E, 60, .inl lt)), (a 7, .inl (eI E, 120, .inl nu))] := hD
  have hl : lv_has ls 4 [(0, .ref (a 0))] := hl
  refine lv_aload_n (pc := 0) hx hb dX6_takesOrder_0 rfl (lv_at hl 0 rfl) ?_
  refine g_get (v := .ref (a 5)) (pc := 1) hx hb hts ii_X6_takesOrder_X6 hown hK.1 hP 0 rfl rfl 5 (by decide) ⟨rfl, rfl, rfl⟩ mm_X6_takesOrder_1 rfl dX6_takesOrder_1 ?_
  refine lv_aload_n (pc := 4) hx hb dX6_takesOrder_4 rfl (lv_at hl 0 rfl) ?_
  refine g_get (v := .int (nI q)) (pc := 5) hx hb hts ii_X6_takesOrder_X6 hown hK.1 hP 0 rfl rfl 12 (by decide) ⟨rfl, rfl, rfl⟩ mm_X6_takesOrder_2 rfl dX6_takesOrder_5 ?_
  refine g_iald (j := q) (v := (tx q)) (pc := 8) hx hb hK.1 hP 5 0 rfl rfl (vp_in_nI (by omega) (by decide)) (nI_clamp (by omega)) rfl dX6_takesOrder_8 ?_
  refine g_topi (fun x1 ex1 => ?_)
  refine lv_istore_n (lv' := [(1, .int x1), (0, .ref (a 0))]) (pc := 9) hx hb dX6_takesOrder_9 rfl hl (by decide) rfl (fun ls hl => ?_)
  refine lv_iload_n (pc := 10) hx hb dX6_takesOrder_10 rfl (lv_at hl 0 rfl) ?_
  obtain ⟨r2, er2⟩ : ∃ z : Int32, fX6_manyOf x1 = z := ⟨_, rfl⟩
  have hr2 := kX6_manyOf l E x1
  rw [er2] at hr2
  refine gcSi (pc := 11) (As := [.int x1]) (rest := []) ⟨hx, hb, hml, hown, hts⟩ hr2 (cwS 1 hts gX6_takesOrder_X6_manyOf rfl rfl rfl qsX6_manyOf ⟨Nat.le_of_ble_eq_true rfl, Nat.le_of_ble_eq_true rfl⟩) hK hP hD hS hA rfl hl.1 rfl (Nat.le_of_ble_eq_true rfl) dX6_takesOrder_11 ⟨Nat.zero_le _, Nat.zero_le _⟩ (fun H locs hP hD hS => ?_)
  refine lv_istore_n (lv' := [(2, .int r2), (1, .int x1), (0, .ref (a 0))]) (pc := 14) hx hb dX6_takesOrder_14 rfl hl (by decide) rfl (fun ls hl => ?_)
  refine lv_iload_n (pc := 15) hx hb dX6_takesOrder_15 rfl (lv_at hl 0 rfl) ?_
  refine lv_ldc (v := (-10000001)) (pc := 16) hx hb hown (hts _ mm_X6_takesOrder_3) dX6_takesOrder_16 ?_
  refine lv_icmp_ne (tgt := 26) (pc := 18) hx hb dX6_takesOrder_18 (by decide) (fun c_3 => ?_) (fun c_3 => ?_)
  · by_cases c_4 : r2 = 2
    · rw [c_4] at hl
      refine lv_aload_n (pc := 26) hx hb dX6_takesOrder_26 rfl (lv_at hl 2 rfl) ?_
      refine g_get (v := .ref (a 6)) (pc := 27) hx hb hts ii_X6_takesOrder_X6 hown hK.1 hP 0 rfl rfl 9 (by decide) ⟨rfl, rfl, rfl⟩ mm_X6_takesOrder_4 rfl dX6_takesOrder_27 ?_
      refine lv_aload_n (pc := 30) hx hb dX6_takesOrder_30 rfl (lv_at hl 2 rfl) ?_
      refine g_get (v := .int (nI o)) (pc := 31) hx hb hts ii_X6_takesOrder_X6 hown hK.1 hP 0 rfl rfl 11 (by decide) ⟨rfl, rfl, rfl⟩ mm_X6_takesOrder_5 rfl dX6_takesOrder_31 ?_
      refine lv_iload_n (pc := 34) hx hb dX6_takesOrder_34 rfl (lv_at hl 1 rfl) ?_
      refine g_iast (j := o) (w1 := [(a 0, .inr (6, [.ref (a 1), .ref (a 2), .ref (a 3), .int (y 0), .ref (a 4), .ref (a 5), .int (nI n), .int (y 2), .int (y 3), .ref (a 6), .ref (a 7), .int (nI o), .int (nI q), .int wa, .long hs])), (a 1, .inl (eJ E, 68, .inr (.inl nw))), (a 2, .inl (eJ E, 68, .inr (.inl sd))), (a 3, .inl (eJ E, 340, .inr (.inl pt))), (a 4, .inl (eI E, 3, .inl rf)), (a 5, .inl (eI E, 120, .inl tx)), (a 6, .inl (eI E, 60, .inl (upd lt o x1))), (a 7, .inl (eI E, 120, .inl nu))]) (pc := 35) hx hb hK.1 hP hD hS 6 0 rfl rfl (vp_in_nI (by omega) (by decide)) (nI_clamp (by omega)) rfl dX6_takesOrder_35 (fun H locs hP hD hS => ?_)
      refine lv_aload_n (pc := 36) hx hb dX6_takesOrder_36 rfl (lv_at hl 2 rfl) ?_
      refine lv_dup (pc := 37) hx hb dX6_takesOrder_37 rfl ?_
      refine g_get (v := .int (nI q)) (pc := 38) hx hb hts ii_X6_takesOrder_X6 hown hK.1 hP 0 rfl rfl 12 (by decide) ⟨rfl, rfl, rfl⟩ mm_X6_takesOrder_2 rfl dX6_takesOrder_38 ?_
      refine lv_iconst (v := 1) (pc := 41) hx hb dX6_takesOrder_41 rfl ?_
      refine lv_iadd (pc := 42) hx hb dX6_takesOrder_42 ?_
      rw [nI_1 q]
      refine g_put (w1 := [(a 0, .inr (6, [.ref (a 1), .ref (a 2), .ref (a 3), .int (y 0), .ref (a 4), .ref (a 5), .int (nI n), .int (y 2), .int (y 3), .ref (a 6), .ref (a 7), .int (nI o), .int (nI (q + 1)), .int wa, .long hs])), (a 1, .inl (eJ E, 68, .inr (.inl nw))), (a 2, .inl (eJ E, 68, .inr (.inl sd))), (a 3, .inl (eJ E, 340, .inr (.inl pt))), (a 4, .inl (eI E, 3, .inl rf)), (a 5, .inl (eI E, 120, .inl tx)), (a 6, .inl (eI E, 60, .inl (upd lt o x1))), (a 7, .inl (eI E, 120, .inl nu))]) (pc := 43) hx hb hts ii_X6_takesOrder_X6 tyX6 tyX6_ok nmX6 hown hK.1 hP hD hS 0 rfl rfl 12 (by decide) ⟨rfl, rfl, rfl⟩ mm_X6_takesOrder_2 rfl rfl rfl rfl (Nat.le_of_ble_eq_true rfl) rfl dX6_takesOrder_43 (fun H locs hP hD hS => ?_)
      refine lv_iconst (v := 0) (pc := 46) hx hb dX6_takesOrder_46 rfl ?_
      refine lv_istore_n (lv' := [(3, .int 0), (2, .int 2), (1, .int x1), (0, .ref (a 0))]) (pc := 47) hx hb dX6_takesOrder_47 rfl hl (by decide) rfl (fun ls hl => ?_)
      refine lv_iload_n (pc := 48) hx hb dX6_takesOrder_48 rfl (lv_at hl 0 rfl) ?_
      refine lv_iload_n (pc := 49) hx hb dX6_takesOrder_49 rfl (lv_at hl 1 rfl) ?_
      refine lv_icmp_ge (tgt := 97) (pc := 50) hx hb dX6_takesOrder_50 (by decide) (fun c_5 => ?_) (fun c_5 => ?_)
      · exact absurd c_5 (by decide)
      refine lv_aload_n (pc := 53) hx hb dX6_takesOrder_53 rfl (lv_at hl 3 rfl) ?_
      refine lv_iconst (v := 2) (pc := 54) hx hb dX6_takesOrder_54 rfl ?_
      refine lv_aload_n (pc := 55) hx hb dX6_takesOrder_55 rfl (lv_at hl 3 rfl) ?_
      refine g_get (v := .int (nI o)) (pc := 56) hx hb hts ii_X6_takesOrder_X6 hown hK.1 hP 0 rfl rfl 11 (by decide) ⟨rfl, rfl, rfl⟩ mm_X6_takesOrder_5 rfl dX6_takesOrder_56 ?_
      refine lv_imul (pc := 59) hx hb dX6_takesOrder_59 ?_
      refine lv_iload_n (pc := 60) hx hb dX6_takesOrder_60 rfl (lv_at hl 0 rfl) ?_
      refine lv_iadd (pc := 61) hx hb dX6_takesOrder_61 ?_
      refine lv_iload_n (pc := 62) hx hb dX6_takesOrder_62 rfl (lv_at hl 0 rfl) ?_
      refine lv_if_ne (tgt := 82) (pc := 63) hx hb dX6_takesOrder_63 (by decide) (fun c_6 => ?_) (fun c_6 => ?_)
      · exact absurd (by decide) c_6
      refine lv_iload_n (pc := 66) hx hb dX6_takesOrder_66 rfl (lv_at hl 2 rfl) ?_
      refine lv_bipush (v := 112) (pc := 67) hx hb dX6_takesOrder_67 rfl ?_
      have J_9 : ∀ (H : Heap) (locs : List Loc) (ls : Array Slot) (x8 : Int32), (if x1 = 112 then 1 else (if x1 = 108 then 1 else 0)) = x8 → va_P E.1 vwCl [(a 0, .inr (6, [.ref (a 1), .ref (a 2), .ref (a 3), .int (y 0), .ref (a 4), .ref (a 5), .int (nI n), .int (y 2), .int (y 3), .ref (a 6), .ref (a 7), .int (nI o), .int (nI (q + 1)), .int wa, .long hs])), (a 1, .inl (eJ E, 68, .inr (.inl nw))), (a 2, .inl (eJ E, 68, .inr (.inl sd))), (a 3, .inl (eJ E, 340, .inr (.inl pt))), (a 4, .inl (eI E, 3, .inl rf)), (a 5, .inl (eI E, 120, .inl tx)), (a 6, .inl (eI E, 60, .inl (upd lt o x1))), (a 7, .inl (eI E, 120, .inl nu))] H → va_D A [(a 0, .inr (6, [.ref (a 1), .ref (a 2), .ref (a 3), .int (y 0), .ref (a 4), .ref (a 5), .int (nI n), .int (y 2), .int (y 3), .ref (a 6), .ref (a 7), .int (nI o), .int (nI (q + 1)), .int wa, .long hs])), (a 1, .inl (eJ E, 68, .inr (.inl nw))), (a 2, .inl (eJ E, 68, .inr (.inl sd))), (a 3, .inl (eJ E, 340, .inr (.inl pt))), (a 4, .inl (eI E, 3, .inl rf)), (a 5, .inl (eI E, 120, .inl tx)), (a 6, .inl (eI E, 60, .inl (upd lt o x1))), (a 7, .inl (eI E, 120, .inl nu))] → va_S A s.heap H locs → lv_has ls 4 [(0, .ref (a 0)), (1, .int x1), (2, .int 2), (3, .int 0)] → W p l e rX6_takesOrder s m args below meth c H locs 0 0 Q (F0 m 83 ls [.int x8, .int ((2 * (nI o)) + 0), .ref (a 0)]) := by
        intro H locs ls x8 ex8 hP hD hS hl
        obtain ⟨r10, er10⟩ : ∃ z : Int32 × (Nat × Int32 × (Nat → Int32)), fX6_takesNumber tx n (q + 1) wa nu ((2 * (nI o)) + 0) x8 = z := ⟨_, rfl⟩
        have hr10 := kX6_takesNumber l E a y n o (q + 1) wa hs nw sd pt rf tx (upd lt o x1) nu ((2 * (nI o)) + 0) x8 hn (Nat.succ_le_of_lt hq) (ix_2o ho 0 (by decide))
        rw [er10] at hr10
        refine gcVi (pc := 83) (w1 := [(a 0, .inr (6, [.ref (a 1), .ref (a 2), .ref (a 3), .int (y 0), .ref (a 4), .ref (a 5), .int (nI n), .int (y 2), .int (y 3), .ref (a 6), .ref (a 7), .int (nI o), .int (nI r10.2.1), .int r10.2.2.1, .long hs])), (a 1, .inl (eJ E, 68, .inr (.inl nw))), (a 2, .inl (eJ E, 68, .inr (.inl sd))), (a 3, .inl (eJ E, 340, .inr (.inl pt))), (a 4, .inl (eI E, 3, .inl rf)), (a 5, .inl (eI E, 120, .inl tx)), (a 6, .inl (eI E, 60, .inl (upd lt o x1))), (a 7, .inl (eI E, 120, .inl r10.2.2.2))]) (pre := []) (post := []) (As := [.int ((2 * (nI o)) + 0), .int x8]) (rest := []) (q0 := 0) ⟨hx, hb, hml, hown, hts⟩ hr10 (cwV 2 hts gX6_takesOrder_X6_takesNumber rfl rfl rfl qvX6_takesNumber ⟨Nat.le_of_ble_eq_true rfl, Nat.le_of_ble_eq_true rfl⟩) hK hP hD hS hA rfl rfl rfl rfl rfl hl.1 rfl (Nat.le_of_ble_eq_true rfl) dX6_takesOrder_83 ⟨Nat.zero_le _, Nat.zero_le _⟩ (fun H locs hP hD hS => ?_)
        refine lv_if_ne (tgt := 91) (pc := 86) hx hb dX6_takesOrder_86 (by decide) (fun c_11 => ?_) (fun c_11 => ?_)
        · refine lv_iinc (v := 1) (lv' := [(3, .int 1), (0, .ref (a 0)), (1, .int x1), (2, .int 2)]) (pc := 91) hx hb dX6_takesOrder_91 hl (k := 3) rfl rfl (by decide) rfl (fun ls hl => ?_)
          refine lv_goto (tgt := 48) (pc := 94) hx hb dX6_takesOrder_94 (by decide) ?_
          refine lv_iload_n (pc := 48) hx hb dX6_takesOrder_48 rfl (lv_at hl 0 rfl) ?_
          refine lv_iload_n (pc := 49) hx hb dX6_takesOrder_49 rfl (lv_at hl 3 rfl) ?_
          refine lv_icmp_ge (tgt := 97) (pc := 50) hx hb dX6_takesOrder_50 (by decide) (fun c_12 => ?_) (fun c_12 => ?_)
          · exact absurd c_12 (by decide)
          refine lv_aload_n (pc := 53) hx hb dX6_takesOrder_53 rfl (lv_at hl 1 rfl) ?_
          refine lv_iconst (v := 2) (pc := 54) hx hb dX6_takesOrder_54 rfl ?_
          refine lv_aload_n (pc := 55) hx hb dX6_takesOrder_55 rfl (lv_at hl 1 rfl) ?_
          refine g_get (v := .int (nI o)) (pc := 56) hx hb hts ii_X6_takesOrder_X6 hown hK.1 hP 0 rfl rfl 11 (by decide) ⟨rfl, rfl, rfl⟩ mm_X6_takesOrder_5 rfl dX6_takesOrder_56 ?_
          refine lv_imul (pc := 59) hx hb dX6_takesOrder_59 ?_
          refine lv_iload_n (pc := 60) hx hb dX6_takesOrder_60 rfl (lv_at hl 0 rfl) ?_
          refine lv_iadd (pc := 61) hx hb dX6_takesOrder_61 ?_
          refine lv_iload_n (pc := 62) hx hb dX6_takesOrder_62 rfl (lv_at hl 0 rfl) ?_
          refine lv_if_ne (tgt := 82) (pc := 63) hx hb dX6_takesOrder_63 (by decide) (fun c_13 => ?_) (fun c_13 => ?_)
          rotate_left
          · exact absurd c_13 (by decide)
          refine lv_iconst (v := 0) (pc := 82) hx hb dX6_takesOrder_82 rfl ?_
          obtain ⟨r14, er14⟩ : ∃ z : Int32 × (Nat × Int32 × (Nat → Int32)), fX6_takesNumber tx n r10.2.1 r10.2.2.1 r10.2.2.2 ((2 * (nI o)) + 1) 0 = z := ⟨_, rfl⟩
          have hr14 := kX6_takesNumber l E a y n o r10.2.1 r10.2.2.1 hs nw sd pt rf tx (upd lt o x1) r10.2.2.2 ((2 * (nI o)) + 1) 0 hn (by subst er10; exact (tn_le (Nat.succ_le_of_lt hq)).1) (ix_2o ho 1 (by decide))
          rw [er14] at hr14
          refine gcVi (pc := 83) (w1 := [(a 0, .inr (6, [.ref (a 1), .ref (a 2), .ref (a 3), .int (y 0), .ref (a 4), .ref (a 5), .int (nI n), .int (y 2), .int (y 3), .ref (a 6), .ref (a 7), .int (nI o), .int (nI r14.2.1), .int r14.2.2.1, .long hs])), (a 1, .inl (eJ E, 68, .inr (.inl nw))), (a 2, .inl (eJ E, 68, .inr (.inl sd))), (a 3, .inl (eJ E, 340, .inr (.inl pt))), (a 4, .inl (eI E, 3, .inl rf)), (a 5, .inl (eI E, 120, .inl tx)), (a 6, .inl (eI E, 60, .inl (upd lt o x1))), (a 7, .inl (eI E, 120, .inl r14.2.2.2))]) (pre := []) (post := []) (As := [.int ((2 * (nI o)) + 1), .int 0]) (rest := []) (q0 := 0) ⟨hx, hb, hml, hown, hts⟩ hr14 (cwV 2 hts gX6_takesOrder_X6_takesNumber rfl rfl rfl qvX6_takesNumber ⟨Nat.le_of_ble_eq_true rfl, Nat.le_of_ble_eq_true rfl⟩) hK hP hD hS hA rfl rfl rfl rfl rfl hl.1 rfl (Nat.le_of_ble_eq_true rfl) dX6_takesOrder_83 ⟨Nat.zero_le _, Nat.zero_le _⟩ (fun H locs hP hD hS => ?_)
          refine lv_if_ne (tgt := 91) (pc := 86) hx hb dX6_takesOrder_86 (by decide) (fun c_15 => ?_) (fun c_15 => ?_)
          · refine lv_iinc (v := 2) (lv' := [(3, .int 2), (0, .ref (a 0)), (1, .int x1), (2, .int 2)]) (pc := 91) hx hb dX6_takesOrder_91 hl (k := 0) rfl rfl (by decide) rfl (fun ls hl => ?_)
            refine lv_goto (tgt := 48) (pc := 94) hx hb dX6_takesOrder_94 (by decide) ?_
            refine lv_iload_n (pc := 48) hx hb dX6_takesOrder_48 rfl (lv_at hl 0 rfl) ?_
            refine lv_iload_n (pc := 49) hx hb dX6_takesOrder_49 rfl (lv_at hl 3 rfl) ?_
            refine lv_icmp_ge (tgt := 97) (pc := 50) hx hb dX6_takesOrder_50 (by decide) (fun c_16 => ?_) (fun c_16 => ?_)
            rotate_left
            · exact absurd (by decide) c_16
            refine lv_aload_n (pc := 97) hx hb dX6_takesOrder_97 rfl (lv_at hl 1 rfl) ?_
            have hr17 := kX6_blanks l E a y n o r14.2.1 r14.2.2.1 hs nw sd pt rf tx (upd lt o x1) r14.2.2.2 hn (by subst er14; exact (tn_le (by subst er10; exact (tn_le (Nat.succ_le_of_lt hq)).1)).1)
            refine gcVv (pc := 98) (w1 := [(a 0, .inr (6, [.ref (a 1), .ref (a 2), .ref (a 3), .int (y 0), .ref (a 4), .ref (a 5), .int (nI n), .int (y 2), .int (y 3), .ref (a 6), .ref (a 7), .int (nI o), .int (nI (sk tx n r14.2.1)), .int r14.2.2.1, .long hs])), (a 1, .inl (eJ E, 68, .inr (.inl nw))), (a 2, .inl (eJ E, 68, .inr (.inl sd))), (a 3, .inl (eJ E, 340, .inr (.inl pt))), (a 4, .inl (eI E, 3, .inl rf)), (a 5, .inl (eI E, 120, .inl tx)), (a 6, .inl (eI E, 60, .inl (upd lt o x1))), (a 7, .inl (eI E, 120, .inl r14.2.2.2))]) (pre := []) (post := []) (As := []) (rest := []) (q0 := 0) ⟨hx, hb, hml, hown, hts⟩ hr17 (cwV 0 hts gX6_takesOrder_X6_blanks rfl rfl rfl qvX6_blanks ⟨Nat.le_of_ble_eq_true rfl, Nat.le_of_ble_eq_true rfl⟩) hK hP hD hS hA rfl rfl rfl rfl rfl hl.1 rfl (Nat.le_of_ble_eq_true rfl) dX6_takesOrder_98 ⟨Nat.zero_le _, Nat.zero_le _⟩ (fun H locs hP hD hS => ?_)
            refine lv_aload_n (pc := 101) hx hb dX6_takesOrder_101 rfl (lv_at hl 1 rfl) ?_
            refine lv_bipush (v := 59) (pc := 102) hx hb dX6_takesOrder_102 rfl ?_
            refine lv_bipush (v := 59) (pc := 104) hx hb dX6_takesOrder_104 rfl ?_
            obtain ⟨r18, er18⟩ : ∃ z : Int32, fX6_isAt tx n (sk tx n r14.2.1) 59 59 = z := ⟨_, rfl⟩
            have hr18 := kX6_isAt l E a y n o (sk tx n r14.2.1) r14.2.2.1 hs nw sd pt rf tx (upd lt o x1) r14.2.2.2 59 59 hn (sk_le (by subst er14; exact (tn_le (by subst er10; exact (tn_le (Nat.succ_le_of_lt hq)).1)).1))
            rw [er18] at hr18
            refine gcVi (pc := 106) (w1 := [(a 0, .inr (6, [.ref (a 1), .ref (a 2), .ref (a 3), .int (y 0), .ref (a 4), .ref (a 5), .int (nI n), .int (y 2), .int (y 3), .ref (a 6), .ref (a 7), .int (nI o), .int (nI (sk tx n r14.2.1)), .int r14.2.2.1, .long hs])), (a 1, .inl (eJ E, 68, .inr (.inl nw))), (a 2, .inl (eJ E, 68, .inr (.inl sd))), (a 3, .inl (eJ E, 340, .inr (.inl pt))), (a 4, .inl (eI E, 3, .inl rf)), (a 5, .inl (eI E, 120, .inl tx)), (a 6, .inl (eI E, 60, .inl (upd lt o x1))), (a 7, .inl (eI E, 120, .inl r14.2.2.2))]) (pre := []) (post := []) (As := [.int 59, .int 59]) (rest := []) (q0 := 0) ⟨hx, hb, hml, hown, hts⟩ hr18 (cwV 2 hts gX6_takesOrder_X6_isAt rfl rfl rfl qvX6_isAt ⟨Nat.le_of_ble_eq_true rfl, Nat.le_of_ble_eq_true rfl⟩) hK hP hD hS hA rfl rfl rfl rfl rfl hl.1 rfl (Nat.le_of_ble_eq_true rfl) dX6_takesOrder_106 ⟨Nat.zero_le _, Nat.zero_le _⟩ (fun H locs hP hD hS => ?_)
            refine lv_if_ne (tgt := 117) (pc := 109) hx hb dX6_takesOrder_109 (by decide) (fun c_19 => ?_) (fun c_19 => ?_)
            · refine lv_aload_n (pc := 117) hx hb dX6_takesOrder_117 rfl (lv_at hl 1 rfl) ?_
              refine lv_dup (pc := 118) hx hb dX6_takesOrder_118 rfl ?_
              refine g_get (v := .int (nI (sk tx n r14.2.1))) (pc := 119) hx hb hts ii_X6_takesOrder_X6 hown hK.1 hP 0 rfl rfl 12 (by decide) ⟨rfl, rfl, rfl⟩ mm_X6_takesOrder_2 rfl dX6_takesOrder_119 ?_
              refine lv_iconst (v := 1) (pc := 122) hx hb dX6_takesOrder_122 rfl ?_
              refine lv_iadd (pc := 123) hx hb dX6_takesOrder_123 ?_
              rw [nI_1 (sk tx n r14.2.1)]
              refine g_put (w1 := [(a 0, .inr (6, [.ref (a 1), .ref (a 2), .ref (a 3), .int (y 0), .ref (a 4), .ref (a 5), .int (nI n), .int (y 2), .int (y 3), .ref (a 6), .ref (a 7), .int (nI o), .int (nI (sk tx n r14.2.1 + 1)), .int r14.2.2.1, .long hs])), (a 1, .inl (eJ E, 68, .inr (.inl nw))), (a 2, .inl (eJ E, 68, .inr (.inl sd))), (a 3, .inl (eJ E, 340, .inr (.inl pt))), (a 4, .inl (eI E, 3, .inl rf)), (a 5, .inl (eI E, 120, .inl tx)), (a 6, .inl (eI E, 60, .inl (upd lt o x1))), (a 7, .inl (eI E, 120, .inl r14.2.2.2))]) (pc := 124) hx hb hts ii_X6_takesOrder_X6 tyX6 tyX6_ok nmX6 hown hK.1 hP hD hS 0 rfl rfl 12 (by decide) ⟨rfl, rfl, rfl⟩ mm_X6_takesOrder_2 rfl rfl rfl rfl (Nat.le_of_ble_eq_true rfl) rfl dX6_takesOrder_124 (fun H locs hP hD hS => ?_)
              refine lv_aload_n (pc := 127) hx hb dX6_takesOrder_127 rfl (lv_at hl 1 rfl) ?_
              refine lv_dup (pc := 128) hx hb dX6_takesOrder_128 rfl ?_
              refine g_get (v := .int (nI o)) (pc := 129) hx hb hts ii_X6_takesOrder_X6 hown hK.1 hP 0 rfl rfl 11 (by decide) ⟨rfl, rfl, rfl⟩ mm_X6_takesOrder_5 rfl dX6_takesOrder_129 ?_
              refine lv_iconst (v := 1) (pc := 132) hx hb dX6_takesOrder_132 rfl ?_
              refine lv_iadd (pc := 133) hx hb dX6_takesOrder_133 ?_
              rw [nI_1 o]
              refine g_put (w1 := [(a 0, .inr (6, [.ref (a 1), .ref (a 2), .ref (a 3), .int (y 0), .ref (a 4), .ref (a 5), .int (nI n), .int (y 2), .int (y 3), .ref (a 6), .ref (a 7), .int (nI (o + 1)), .int (nI (sk tx n r14.2.1 + 1)), .int r14.2.2.1, .long hs])), (a 1, .inl (eJ E, 68, .inr (.inl nw))), (a 2, .inl (eJ E, 68, .inr (.inl sd))), (a 3, .inl (eJ E, 340, .inr (.inl pt))), (a 4, .inl (eI E, 3, .inl rf)), (a 5, .inl (eI E, 120, .inl tx)), (a 6, .inl (eI E, 60, .inl (upd lt o x1))), (a 7, .inl (eI E, 120, .inl r14.2.2.2))]) (pc := 134) hx hb hts ii_X6_takesOrder_X6 tyX6 tyX6_ok nmX6 hown hK.1 hP hD hS 0 rfl rfl 11 (by decide) ⟨rfl, rfl, rfl⟩ mm_X6_takesOrder_5 rfl rfl rfl rfl (Nat.le_of_ble_eq_true rfl) rfl dX6_takesOrder_134 (fun H locs hP hD hS => ?_)
              refine lv_iconst (v := 1) (pc := 137) hx hb dX6_takesOrder_137 rfl ?_
              subst er18
              subst er14
              subst er10
              subst ex8
              subst er2
              subst ex1
              have hfn : fX6_takesOrder tx n o q wa lt nu = _ := (if_neg c_3).trans ((if_pos c_4).trans ((if_neg c_11).trans ((if_neg c_15).trans (if_neg c_19))))
              rw [hfn] at hQ
              exact hQ _ _ _ _ _ rfl hP hD hS dX6_takesOrder_138
            · refine lv_aload_n (pc := 112) hx hb dX6_takesOrder_112 rfl (lv_at hl 1 rfl) ?_
              have hr20 := kX6_fails l E a y n o (sk tx n r14.2.1) r14.2.2.1 hs nw sd pt rf tx (upd lt o x1) r14.2.2.2
              rw [show (fX6_fails (sk tx n r14.2.1)).1 = 0 from rfl] at hr20
              refine gcVi (pc := 113) (w1 := [(a 0, .inr (6, [.ref (a 1), .ref (a 2), .ref (a 3), .int (y 0), .ref (a 4), .ref (a 5), .int (nI n), .int (y 2), .int (y 3), .ref (a 6), .ref (a 7), .int (nI o), .int (nI (sk tx n r14.2.1)), .int (nI (sk tx n r14.2.1)), .long hs])), (a 1, .inl (eJ E, 68, .inr (.inl nw))), (a 2, .inl (eJ E, 68, .inr (.inl sd))), (a 3, .inl (eJ E, 340, .inr (.inl pt))), (a 4, .inl (eI E, 3, .inl rf)), (a 5, .inl (eI E, 120, .inl tx)), (a 6, .inl (eI E, 60, .inl (upd lt o x1))), (a 7, .inl (eI E, 120, .inl r14.2.2.2))]) (pre := []) (post := []) (As := []) (rest := []) (q0 := 0) ⟨hx, hb, hml, hown, hts⟩ hr20 (cwV 0 hts gX6_takesOrder_X6_fails rfl rfl rfl qvX6_fails ⟨Nat.le_of_ble_eq_true rfl, Nat.le_of_ble_eq_true rfl⟩) hK hP hD hS hA rfl rfl rfl rfl rfl hl.1 rfl (Nat.le_of_ble_eq_true rfl) dX6_takesOrder_113 ⟨Nat.zero_le _, Nat.zero_le _⟩ (fun H locs hP hD hS => ?_)
              subst er18
              subst er14
              subst er10
              subst ex8
              subst er2
              subst ex1
              have hfn : fX6_takesOrder tx n o q wa lt nu = _ := (if_neg c_3).trans ((if_pos c_4).trans ((if_neg c_11).trans ((if_neg c_15).trans (if_pos c_19))))
              rw [hfn] at hQ
              exact hQ _ _ _ _ _ rfl hP hD hS dX6_takesOrder_116
          · refine lv_iconst (v := 0) (pc := 89) hx hb dX6_takesOrder_89 rfl ?_
            subst er14
            subst er10
            subst ex8
            subst er2
            subst ex1
            have hfn : fX6_takesOrder tx n o q wa lt nu = _ := (if_neg c_3).trans ((if_pos c_4).trans ((if_neg c_11).trans (if_pos c_15)))
            rw [hfn] at hQ
            exact hQ _ _ _ _ _ rfl hP hD hS dX6_takesOrder_90
        · refine lv_iconst (v := 0) (pc := 89) hx hb dX6_takesOrder_89 rfl ?_
          subst er10
          subst ex8
          subst er2
          subst ex1
          have hfn : fX6_takesOrder tx n o q wa lt nu = _ := (if_neg c_3).trans ((if_pos c_4).trans (if_pos c_11))
          rw [hfn] at hQ
          exact hQ _ _ _ _ _ rfl hP hD hS dX6_takesOrder_90
      refine lv_icmp_eq (tgt := 78) (pc := 69) hx hb dX6_takesOrder_69 (by decide) (fun c_7 => ?_) (fun c_7 => ?_)
      · refine lv_iconst (v := 1) (pc := 78) hx hb dX6_takesOrder_78 rfl ?_
        refine lv_goto (tgt := 83) (pc := 79) hx hb dX6_takesOrder_79 (by decide) ?_
        exact J_9 _ _ _ _ (if_pos c_7) hP hD hS (lv_sub hl [3, 2, 1, 0] rfl)
      · refine lv_iload_n (pc := 72) hx hb dX6_takesOrder_72 rfl (lv_at hl 2 rfl) ?_
        refine lv_bipush (v := 108) (pc := 73) hx hb dX6_takesOrder_73 rfl ?_
        refine lv_icmp_ne (tgt := 82) (pc := 75) hx hb dX6_takesOrder_75 (by decide) (fun c_8 => ?_) (fun c_8 => ?_)
        · refine lv_iconst (v := 0) (pc := 82) hx hb dX6_takesOrder_82 rfl ?_
          exact J_9 _ _ _ _ ((if_neg c_7).trans (if_neg c_8)) hP hD hS (lv_sub hl [3, 2, 1, 0] rfl)
        · refine lv_iconst (v := 1) (pc := 78) hx hb dX6_takesOrder_78 rfl ?_
          refine lv_goto (tgt := 83) (pc := 79) hx hb dX6_takesOrder_79 (by decide) ?_
          exact J_9 _ _ _ _ ((if_neg c_7).trans (if_pos c_8)) hP hD hS (lv_sub hl [3, 2, 1, 0] rfl)
    · rw [mo_1 er2 c_3 c_4] at hl
      refine lv_aload_n (pc := 26) hx hb dX6_takesOrder_26 rfl (lv_at hl 2 rfl) ?_
      refine g_get (v := .ref (a 6)) (pc := 27) hx hb hts ii_X6_takesOrder_X6 hown hK.1 hP 0 rfl rfl 9 (by decide) ⟨rfl, rfl, rfl⟩ mm_X6_takesOrder_4 rfl dX6_takesOrder_27 ?_
      refine lv_aload_n (pc := 30) hx hb dX6_takesOrder_30 rfl (lv_at hl 2 rfl) ?_
      refine g_get (v := .int (nI o)) (pc := 31) hx hb hts ii_X6_takesOrder_X6 hown hK.1 hP 0 rfl rfl 11 (by decide) ⟨rfl, rfl, rfl⟩ mm_X6_takesOrder_5 rfl dX6_takesOrder_31 ?_
      refine lv_iload_n (pc := 34) hx hb dX6_takesOrder_34 rfl (lv_at hl 1 rfl) ?_
      refine g_iast (j := o) (w1 := [(a 0, .inr (6, [.ref (a 1), .ref (a 2), .ref (a 3), .int (y 0), .ref (a 4), .ref (a 5), .int (nI n), .int (y 2), .int (y 3), .ref (a 6), .ref (a 7), .int (nI o), .int (nI q), .int wa, .long hs])), (a 1, .inl (eJ E, 68, .inr (.inl nw))), (a 2, .inl (eJ E, 68, .inr (.inl sd))), (a 3, .inl (eJ E, 340, .inr (.inl pt))), (a 4, .inl (eI E, 3, .inl rf)), (a 5, .inl (eI E, 120, .inl tx)), (a 6, .inl (eI E, 60, .inl (upd lt o x1))), (a 7, .inl (eI E, 120, .inl nu))]) (pc := 35) hx hb hK.1 hP hD hS 6 0 rfl rfl (vp_in_nI (by omega) (by decide)) (nI_clamp (by omega)) rfl dX6_takesOrder_35 (fun H locs hP hD hS => ?_)
      refine lv_aload_n (pc := 36) hx hb dX6_takesOrder_36 rfl (lv_at hl 2 rfl) ?_
      refine lv_dup (pc := 37) hx hb dX6_takesOrder_37 rfl ?_
      refine g_get (v := .int (nI q)) (pc := 38) hx hb hts ii_X6_takesOrder_X6 hown hK.1 hP 0 rfl rfl 12 (by decide) ⟨rfl, rfl, rfl⟩ mm_X6_takesOrder_2 rfl dX6_takesOrder_38 ?_
      refine lv_iconst (v := 1) (pc := 41) hx hb dX6_takesOrder_41 rfl ?_
      refine lv_iadd (pc := 42) hx hb dX6_takesOrder_42 ?_
      rw [nI_1 q]
      refine g_put (w1 := [(a 0, .inr (6, [.ref (a 1), .ref (a 2), .ref (a 3), .int (y 0), .ref (a 4), .ref (a 5), .int (nI n), .int (y 2), .int (y 3), .ref (a 6), .ref (a 7), .int (nI o), .int (nI (q + 1)), .int wa, .long hs])), (a 1, .inl (eJ E, 68, .inr (.inl nw))), (a 2, .inl (eJ E, 68, .inr (.inl sd))), (a 3, .inl (eJ E, 340, .inr (.inl pt))), (a 4, .inl (eI E, 3, .inl rf)), (a 5, .inl (eI E, 120, .inl tx)), (a 6, .inl (eI E, 60, .inl (upd lt o x1))), (a 7, .inl (eI E, 120, .inl nu))]) (pc := 43) hx hb hts ii_X6_takesOrder_X6 tyX6 tyX6_ok nmX6 hown hK.1 hP hD hS 0 rfl rfl 12 (by decide) ⟨rfl, rfl, rfl⟩ mm_X6_takesOrder_2 rfl rfl rfl rfl (Nat.le_of_ble_eq_true rfl) rfl dX6_takesOrder_43 (fun H locs hP hD hS => ?_)
      refine lv_iconst (v := 0) (pc := 46) hx hb dX6_takesOrder_46 rfl ?_
      refine lv_istore_n (lv' := [(3, .int 0), (2, .int 1), (1, .int x1), (0, .ref (a 0))]) (pc := 47) hx hb dX6_takesOrder_47 rfl hl (by decide) rfl (fun ls hl => ?_)
      refine lv_iload_n (pc := 48) hx hb dX6_takesOrder_48 rfl (lv_at hl 0 rfl) ?_
      refine lv_iload_n (pc := 49) hx hb dX6_takesOrder_49 rfl (lv_at hl 1 rfl) ?_
      refine lv_icmp_ge (tgt := 97) (pc := 50) hx hb dX6_takesOrder_50 (by decide) (fun c_21 => ?_) (fun c_21 => ?_)
      · exact absurd c_21 (by decide)
      refine lv_aload_n (pc := 53) hx hb dX6_takesOrder_53 rfl (lv_at hl 3 rfl) ?_
      refine lv_iconst (v := 2) (pc := 54) hx hb dX6_takesOrder_54 rfl ?_
      refine lv_aload_n (pc := 55) hx hb dX6_takesOrder_55 rfl (lv_at hl 3 rfl) ?_
      refine g_get (v := .int (nI o)) (pc := 56) hx hb hts ii_X6_takesOrder_X6 hown hK.1 hP 0 rfl rfl 11 (by decide) ⟨rfl, rfl, rfl⟩ mm_X6_takesOrder_5 rfl dX6_takesOrder_56 ?_
      refine lv_imul (pc := 59) hx hb dX6_takesOrder_59 ?_
      refine lv_iload_n (pc := 60) hx hb dX6_takesOrder_60 rfl (lv_at hl 0 rfl) ?_
      refine lv_iadd (pc := 61) hx hb dX6_takesOrder_61 ?_
      refine lv_iload_n (pc := 62) hx hb dX6_takesOrder_62 rfl (lv_at hl 0 rfl) ?_
      refine lv_if_ne (tgt := 82) (pc := 63) hx hb dX6_takesOrder_63 (by decide) (fun c_22 => ?_) (fun c_22 => ?_)
      · exact absurd (by decide) c_22
      refine lv_iload_n (pc := 66) hx hb dX6_takesOrder_66 rfl (lv_at hl 2 rfl) ?_
      refine lv_bipush (v := 112) (pc := 67) hx hb dX6_takesOrder_67 rfl ?_
      have J_25 : ∀ (H : Heap) (locs : List Loc) (ls : Array Slot) (x24 : Int32), (if x1 = 112 then 1 else (if x1 = 108 then 1 else 0)) = x24 → va_P E.1 vwCl [(a 0, .inr (6, [.ref (a 1), .ref (a 2), .ref (a 3), .int (y 0), .ref (a 4), .ref (a 5), .int (nI n), .int (y 2), .int (y 3), .ref (a 6), .ref (a 7), .int (nI o), .int (nI (q + 1)), .int wa, .long hs])), (a 1, .inl (eJ E, 68, .inr (.inl nw))), (a 2, .inl (eJ E, 68, .inr (.inl sd))), (a 3, .inl (eJ E, 340, .inr (.inl pt))), (a 4, .inl (eI E, 3, .inl rf)), (a 5, .inl (eI E, 120, .inl tx)), (a 6, .inl (eI E, 60, .inl (upd lt o x1))), (a 7, .inl (eI E, 120, .inl nu))] H → va_D A [(a 0, .inr (6, [.ref (a 1), .ref (a 2), .ref (a 3), .int (y 0), .ref (a 4), .ref (a 5), .int (nI n), .int (y 2), .int (y 3), .ref (a 6), .ref (a 7), .int (nI o), .int (nI (q + 1)), .int wa, .long hs])), (a 1, .inl (eJ E, 68, .inr (.inl nw))), (a 2, .inl (eJ E, 68, .inr (.inl sd))), (a 3, .inl (eJ E, 340, .inr (.inl pt))), (a 4, .inl (eI E, 3, .inl rf)), (a 5, .inl (eI E, 120, .inl tx)), (a 6, .inl (eI E, 60, .inl (upd lt o x1))), (a 7, .inl (eI E, 120, .inl nu))] → va_S A s.heap H locs → lv_has ls 4 [(0, .ref (a 0)), (1, .int x1), (2, .int 1), (3, .int 0)] → W p l e rX6_takesOrder s m args below meth c H locs 0 0 Q (F0 m 83 ls [.int x24, .int ((2 * (nI o)) + 0), .ref (a 0)]) := by
        intro H locs ls x24 ex24 hP hD hS hl
        obtain ⟨r26, er26⟩ : ∃ z : Int32 × (Nat × Int32 × (Nat → Int32)), fX6_takesNumber tx n (q + 1) wa nu ((2 * (nI o)) + 0) x24 = z := ⟨_, rfl⟩
        have hr26 := kX6_takesNumber l E a y n o (q + 1) wa hs nw sd pt rf tx (upd lt o x1) nu ((2 * (nI o)) + 0) x24 hn (Nat.succ_le_of_lt hq) (ix_2o ho 0 (by decide))
        rw [er26] at hr26
        refine gcVi (pc := 83) (w1 := [(a 0, .inr (6, [.ref (a 1), .ref (a 2), .ref (a 3), .int (y 0), .ref (a 4), .ref (a 5), .int (nI n), .int (y 2), .int (y 3), .ref (a 6), .ref (a 7), .int (nI o), .int (nI r26.2.1), .int r26.2.2.1, .long hs])), (a 1, .inl (eJ E, 68, .inr (.inl nw))), (a 2, .inl (eJ E, 68, .inr (.inl sd))), (a 3, .inl (eJ E, 340, .inr (.inl pt))), (a 4, .inl (eI E, 3, .inl rf)), (a 5, .inl (eI E, 120, .inl tx)), (a 6, .inl (eI E, 60, .inl (upd lt o x1))), (a 7, .inl (eI E, 120, .inl r26.2.2.2))]) (pre := []) (post := []) (As := [.int ((2 * (nI o)) + 0), .int x24]) (rest := []) (q0 := 0) ⟨hx, hb, hml, hown, hts⟩ hr26 (cwV 2 hts gX6_takesOrder_X6_takesNumber rfl rfl rfl qvX6_takesNumber ⟨Nat.le_of_ble_eq_true rfl, Nat.le_of_ble_eq_true rfl⟩) hK hP hD hS hA rfl rfl rfl rfl rfl hl.1 rfl (Nat.le_of_ble_eq_true rfl) dX6_takesOrder_83 ⟨Nat.zero_le _, Nat.zero_le _⟩ (fun H locs hP hD hS => ?_)
        refine lv_if_ne (tgt := 91) (pc := 86) hx hb dX6_takesOrder_86 (by decide) (fun c_27 => ?_) (fun c_27 => ?_)
        · refine lv_iinc (v := 1) (lv' := [(3, .int 1), (0, .ref (a 0)), (1, .int x1), (2, .int 1)]) (pc := 91) hx hb dX6_takesOrder_91 hl (k := 3) rfl rfl (by decide) rfl (fun ls hl => ?_)
          refine lv_goto (tgt := 48) (pc := 94) hx hb dX6_takesOrder_94 (by decide) ?_
          refine lv_iload_n (pc := 48) hx hb dX6_takesOrder_48 rfl (lv_at hl 0 rfl) ?_
          refine lv_iload_n (pc := 49) hx hb dX6_takesOrder_49 rfl (lv_at hl 3 rfl) ?_
          refine lv_icmp_ge (tgt := 97) (pc := 50) hx hb dX6_takesOrder_50 (by decide) (fun c_28 => ?_) (fun c_28 => ?_)
          rotate_left
          · exact absurd (by decide) c_28
          refine lv_aload_n (pc := 97) hx hb dX6_takesOrder_97 rfl (lv_at hl 1 rfl) ?_
          have hr29 := kX6_blanks l E a y n o r26.2.1 r26.2.2.1 hs nw sd pt rf tx (upd lt o x1) r26.2.2.2 hn (by subst er26; exact (tn_le (Nat.succ_le_of_lt hq)).1)
          refine gcVv (pc := 98) (w1 := [(a 0, .inr (6, [.ref (a 1), .ref (a 2), .ref (a 3), .int (y 0), .ref (a 4), .ref (a 5), .int (nI n), .int (y 2), .int (y 3), .ref (a 6), .ref (a 7), .int (nI o), .int (nI (sk tx n r26.2.1)), .int r26.2.2.1, .long hs])), (a 1, .inl (eJ E, 68, .inr (.inl nw))), (a 2, .inl (eJ E, 68, .inr (.inl sd))), (a 3, .inl (eJ E, 340, .inr (.inl pt))), (a 4, .inl (eI E, 3, .inl rf)), (a 5, .inl (eI E, 120, .inl tx)), (a 6, .inl (eI E, 60, .inl (upd lt o x1))), (a 7, .inl (eI E, 120, .inl r26.2.2.2))]) (pre := []) (post := []) (As := []) (rest := []) (q0 := 0) ⟨hx, hb, hml, hown, hts⟩ hr29 (cwV 0 hts gX6_takesOrder_X6_blanks rfl rfl rfl qvX6_blanks ⟨Nat.le_of_ble_eq_true rfl, Nat.le_of_ble_eq_true rfl⟩) hK hP hD hS hA rfl rfl rfl rfl rfl hl.1 rfl (Nat.le_of_ble_eq_true rfl) dX6_takesOrder_98 ⟨Nat.zero_le _, Nat.zero_le _⟩ (fun H locs hP hD hS => ?_)
          refine lv_aload_n (pc := 101) hx hb dX6_takesOrder_101 rfl (lv_at hl 1 rfl) ?_
          refine lv_bipush (v := 59) (pc := 102) hx hb dX6_takesOrder_102 rfl ?_
          refine lv_bipush (v := 59) (pc := 104) hx hb dX6_takesOrder_104 rfl ?_
          obtain ⟨r30, er30⟩ : ∃ z : Int32, fX6_isAt tx n (sk tx n r26.2.1) 59 59 = z := ⟨_, rfl⟩
          have hr30 := kX6_isAt l E a y n o (sk tx n r26.2.1) r26.2.2.1 hs nw sd pt rf tx (upd lt o x1) r26.2.2.2 59 59 hn (sk_le (by subst er26; exact (tn_le (Nat.succ_le_of_lt hq)).1))
          rw [er30] at hr30
          refine gcVi (pc := 106) (w1 := [(a 0, .inr (6, [.ref (a 1), .ref (a 2), .ref (a 3), .int (y 0), .ref (a 4), .ref (a 5), .int (nI n), .int (y 2), .int (y 3), .ref (a 6), .ref (a 7), .int (nI o), .int (nI (sk tx n r26.2.1)), .int r26.2.2.1, .long hs])), (a 1, .inl (eJ E, 68, .inr (.inl nw))), (a 2, .inl (eJ E, 68, .inr (.inl sd))), (a 3, .inl (eJ E, 340, .inr (.inl pt))), (a 4, .inl (eI E, 3, .inl rf)), (a 5, .inl (eI E, 120, .inl tx)), (a 6, .inl (eI E, 60, .inl (upd lt o x1))), (a 7, .inl (eI E, 120, .inl r26.2.2.2))]) (pre := []) (post := []) (As := [.int 59, .int 59]) (rest := []) (q0 := 0) ⟨hx, hb, hml, hown, hts⟩ hr30 (cwV 2 hts gX6_takesOrder_X6_isAt rfl rfl rfl qvX6_isAt ⟨Nat.le_of_ble_eq_true rfl, Nat.le_of_ble_eq_true rfl⟩) hK hP hD hS hA rfl rfl rfl rfl rfl hl.1 rfl (Nat.le_of_ble_eq_true rfl) dX6_takesOrder_106 ⟨Nat.zero_le _, Nat.zero_le _⟩ (fun H locs hP hD hS => ?_)
          refine lv_if_ne (tgt := 117) (pc := 109) hx hb dX6_takesOrder_109 (by decide) (fun c_31 => ?_) (fun c_31 => ?_)
          · refine lv_aload_n (pc := 117) hx hb dX6_takesOrder_117 rfl (lv_at hl 1 rfl) ?_
            refine lv_dup (pc := 118) hx hb dX6_takesOrder_118 rfl ?_
            refine g_get (v := .int (nI (sk tx n r26.2.1))) (pc := 119) hx hb hts ii_X6_takesOrder_X6 hown hK.1 hP 0 rfl rfl 12 (by decide) ⟨rfl, rfl, rfl⟩ mm_X6_takesOrder_2 rfl dX6_takesOrder_119 ?_
            refine lv_iconst (v := 1) (pc := 122) hx hb dX6_takesOrder_122 rfl ?_
            refine lv_iadd (pc := 123) hx hb dX6_takesOrder_123 ?_
            rw [nI_1 (sk tx n r26.2.1)]
            refine g_put (w1 := [(a 0, .inr (6, [.ref (a 1), .ref (a 2), .ref (a 3), .int (y 0), .ref (a 4), .ref (a 5), .int (nI n), .int (y 2), .int (y 3), .ref (a 6), .ref (a 7), .int (nI o), .int (nI (sk tx n r26.2.1 + 1)), .int r26.2.2.1, .long hs])), (a 1, .inl (eJ E, 68, .inr (.inl nw))), (a 2, .inl (eJ E, 68, .inr (.inl sd))), (a 3, .inl (eJ E, 340, .inr (.inl pt))), (a 4, .inl (eI E, 3, .inl rf)), (a 5, .inl (eI E, 120, .inl tx)), (a 6, .inl (eI E, 60, .inl (upd lt o x1))), (a 7, .inl (eI E, 120, .inl r26.2.2.2))]) (pc := 124) hx hb hts ii_X6_takesOrder_X6 tyX6 tyX6_ok nmX6 hown hK.1 hP hD hS 0 rfl rfl 12 (by decide) ⟨rfl, rfl, rfl⟩ mm_X6_takesOrder_2 rfl rfl rfl rfl (Nat.le_of_ble_eq_true rfl) rfl dX6_takesOrder_124 (fun H locs hP hD hS => ?_)
            refine lv_aload_n (pc := 127) hx hb dX6_takesOrder_127 rfl (lv_at hl 1 rfl) ?_
            refine lv_dup (pc := 128) hx hb dX6_takesOrder_128 rfl ?_
            refine g_get (v := .int (nI o)) (pc := 129) hx hb hts ii_X6_takesOrder_X6 hown hK.1 hP 0 rfl rfl 11 (by decide) ⟨rfl, rfl, rfl⟩ mm_X6_takesOrder_5 rfl dX6_takesOrder_129 ?_
            refine lv_iconst (v := 1) (pc := 132) hx hb dX6_takesOrder_132 rfl ?_
            refine lv_iadd (pc := 133) hx hb dX6_takesOrder_133 ?_
            rw [nI_1 o]
            refine g_put (w1 := [(a 0, .inr (6, [.ref (a 1), .ref (a 2), .ref (a 3), .int (y 0), .ref (a 4), .ref (a 5), .int (nI n), .int (y 2), .int (y 3), .ref (a 6), .ref (a 7), .int (nI (o + 1)), .int (nI (sk tx n r26.2.1 + 1)), .int r26.2.2.1, .long hs])), (a 1, .inl (eJ E, 68, .inr (.inl nw))), (a 2, .inl (eJ E, 68, .inr (.inl sd))), (a 3, .inl (eJ E, 340, .inr (.inl pt))), (a 4, .inl (eI E, 3, .inl rf)), (a 5, .inl (eI E, 120, .inl tx)), (a 6, .inl (eI E, 60, .inl (upd lt o x1))), (a 7, .inl (eI E, 120, .inl r26.2.2.2))]) (pc := 134) hx hb hts ii_X6_takesOrder_X6 tyX6 tyX6_ok nmX6 hown hK.1 hP hD hS 0 rfl rfl 11 (by decide) ⟨rfl, rfl, rfl⟩ mm_X6_takesOrder_5 rfl rfl rfl rfl (Nat.le_of_ble_eq_true rfl) rfl dX6_takesOrder_134 (fun H locs hP hD hS => ?_)
            refine lv_iconst (v := 1) (pc := 137) hx hb dX6_takesOrder_137 rfl ?_
            subst er30
            subst er26
            subst ex24
            subst er2
            subst ex1
            have hfn : fX6_takesOrder tx n o q wa lt nu = _ := (if_neg c_3).trans ((if_neg c_4).trans ((if_neg c_27).trans (if_neg c_31)))
            rw [hfn] at hQ
            exact hQ _ _ _ _ _ rfl hP hD hS dX6_takesOrder_138
          · refine lv_aload_n (pc := 112) hx hb dX6_takesOrder_112 rfl (lv_at hl 1 rfl) ?_
            have hr32 := kX6_fails l E a y n o (sk tx n r26.2.1) r26.2.2.1 hs nw sd pt rf tx (upd lt o x1) r26.2.2.2
            rw [show (fX6_fails (sk tx n r26.2.1)).1 = 0 from rfl] at hr32
            refine gcVi (pc := 113) (w1 := [(a 0, .inr (6, [.ref (a 1), .ref (a 2), .ref (a 3), .int (y 0), .ref (a 4), .ref (a 5), .int (nI n), .int (y 2), .int (y 3), .ref (a 6), .ref (a 7), .int (nI o), .int (nI (sk tx n r26.2.1)), .int (nI (sk tx n r26.2.1)), .long hs])), (a 1, .inl (eJ E, 68, .inr (.inl nw))), (a 2, .inl (eJ E, 68, .inr (.inl sd))), (a 3, .inl (eJ E, 340, .inr (.inl pt))), (a 4, .inl (eI E, 3, .inl rf)), (a 5, .inl (eI E, 120, .inl tx)), (a 6, .inl (eI E, 60, .inl (upd lt o x1))), (a 7, .inl (eI E, 120, .inl r26.2.2.2))]) (pre := []) (post := []) (As := []) (rest := []) (q0 := 0) ⟨hx, hb, hml, hown, hts⟩ hr32 (cwV 0 hts gX6_takesOrder_X6_fails rfl rfl rfl qvX6_fails ⟨Nat.le_of_ble_eq_true rfl, Nat.le_of_ble_eq_true rfl⟩) hK hP hD hS hA rfl rfl rfl rfl rfl hl.1 rfl (Nat.le_of_ble_eq_true rfl) dX6_takesOrder_113 ⟨Nat.zero_le _, Nat.zero_le _⟩ (fun H locs hP hD hS => ?_)
            subst er30
            subst er26
            subst ex24
            subst er2
            subst ex1
            have hfn : fX6_takesOrder tx n o q wa lt nu = _ := (if_neg c_3).trans ((if_neg c_4).trans ((if_neg c_27).trans (if_pos c_31)))
            rw [hfn] at hQ
            exact hQ _ _ _ _ _ rfl hP hD hS dX6_takesOrder_116
        · refine lv_iconst (v := 0) (pc := 89) hx hb dX6_takesOrder_89 rfl ?_
          subst er26
          subst ex24
          subst er2
          subst ex1
          have hfn : fX6_takesOrder tx n o q wa lt nu = _ := (if_neg c_3).trans ((if_neg c_4).trans (if_pos c_27))
          rw [hfn] at hQ
          exact hQ _ _ _ _ _ rfl hP hD hS dX6_takesOrder_90
      refine lv_icmp_eq (tgt := 78) (pc := 69) hx hb dX6_takesOrder_69 (by decide) (fun c_23 => ?_) (fun c_23 => ?_)
      · refine lv_iconst (v := 1) (pc := 78) hx hb dX6_takesOrder_78 rfl ?_
        refine lv_goto (tgt := 83) (pc := 79) hx hb dX6_takesOrder_79 (by decide) ?_
        exact J_25 _ _ _ _ (if_pos c_23) hP hD hS (lv_sub hl [3, 2, 1, 0] rfl)
      · refine lv_iload_n (pc := 72) hx hb dX6_takesOrder_72 rfl (lv_at hl 2 rfl) ?_
        refine lv_bipush (v := 108) (pc := 73) hx hb dX6_takesOrder_73 rfl ?_
        refine lv_icmp_ne (tgt := 82) (pc := 75) hx hb dX6_takesOrder_75 (by decide) (fun c_24 => ?_) (fun c_24 => ?_)
        · refine lv_iconst (v := 0) (pc := 82) hx hb dX6_takesOrder_82 rfl ?_
          exact J_25 _ _ _ _ ((if_neg c_23).trans (if_neg c_24)) hP hD hS (lv_sub hl [3, 2, 1, 0] rfl)
        · refine lv_iconst (v := 1) (pc := 78) hx hb dX6_takesOrder_78 rfl ?_
          refine lv_goto (tgt := 83) (pc := 79) hx hb dX6_takesOrder_79 (by decide) ?_
          exact J_25 _ _ _ _ ((if_neg c_23).trans (if_pos c_24)) hP hD hS (lv_sub hl [3, 2, 1, 0] rfl)
  · refine lv_aload_n (pc := 21) hx hb dX6_takesOrder_21 rfl (lv_at hl 2 rfl) ?_
    have hr33 := kX6_fails l E a y n o q wa hs nw sd pt rf tx lt nu
    rw [show (fX6_fails q).1 = 0 from rfl] at hr33
    refine gcVi (pc := 22) (w1 := [(a 0, .inr (6, [.ref (a 1), .ref (a 2), .ref (a 3), .int (y 0), .ref (a 4), .ref (a 5), .int (nI n), .int (y 2), .int (y 3), .ref (a 6), .ref (a 7), .int (nI o), .int (nI q), .int (nI q), .long hs])), (a 1, .inl (eJ E, 68, .inr (.inl nw))), (a 2, .inl (eJ E, 68, .inr (.inl sd))), (a 3, .inl (eJ E, 340, .inr (.inl pt))), (a 4, .inl (eI E, 3, .inl rf)), (a 5, .inl (eI E, 120, .inl tx)), (a 6, .inl (eI E, 60, .inl lt)), (a 7, .inl (eI E, 120, .inl nu))]) (pre := []) (post := []) (As := []) (rest := []) (q0 := 0) ⟨hx, hb, hml, hown, hts⟩ hr33 (cwV 0 hts gX6_takesOrder_X6_fails rfl rfl rfl qvX6_fails ⟨Nat.le_of_ble_eq_true rfl, Nat.le_of_ble_eq_true rfl⟩) hK hP hD hS hA rfl rfl rfl rfl rfl hl.1 rfl (Nat.le_of_ble_eq_true rfl) dX6_takesOrder_22 ⟨Nat.zero_le _, Nat.zero_le _⟩ (fun H locs hP hD hS => ?_)
    subst er2
    subst ex1
    have hfn : fX6_takesOrder tx n o q wa lt nu = _ := if_pos c_3
    rw [hfn] at hQ
    exact hQ _ _ _ _ _ rfl hP hD hS dX6_takesOrder_25

def irO (tx : Nat → Int32) (n : Nat) (S : MS) : Int32 × MS := fX6_takesOrder tx n S.1 S.2.1 S.2.2.1 S.2.2.2.1 S.2.2.2.2
def irE (S : MS) : Int32 × MS := if 0 < (nI S.1) then (1, S) else (0, (S.1, S.2.1, nI S.2.1, S.2.2.2))
def irT (tx : Nat → Int32) (n : Nat) : Nat → MS → Int32 × MS
  | 0, S => irE S
  | f + 1, S => if (nI n) ≤ (nI S.2.1) then irE S else (if (irO tx n S).1 = 0 then (0, (irO tx n S).2) else irT tx n f ((irO tx n S).2.1, sk tx n (irO tx n S).2.2.1, (irO tx n S).2.2.2))
def fX6_isRead (M : Mdl) (n : Nat) : Int32 × MS := irT M.2.2.2.2.2.2.1 n 120 (0, sk M.2.2.2.2.2.2.1 n 0, M.1 6, M.2.2.2.2.2.2.2.1, M.2.2.2.2.2.2.2.2)
/-- the reference behind a reading -/
abbrev rdM (M : Mdl) (n : Nat) (S : MS) : Mdl := (upd (upd (upd (upd M.1 1 (nI n)) 4 (nI S.1)) 5 (nI S.2.1)) 6 S.2.2.1, M.2.1, M.2.2.1, M.2.2.2.1, M.2.2.2.2.1, M.2.2.2.2.2.1, M.2.2.2.2.2.2.1, S.2.2.2.1, S.2.2.2.2)
theorem irE_z (S : MS) : (irE S).1 = 0 ∨ (irE S).1 = 1 := by
  unfold irE
  by_cases c1 : 0 < (nI S.1)
  · rw [if_pos c1]; exact Or.inr rfl
  · rw [if_neg c1]; exact Or.inl rfl
theorem irT_z (tx : Nat → Int32) (n : Nat) : ∀ (f : Nat) (S : MS), (irT tx n f S).1 = 0 ∨ (irT tx n f S).1 = 1
  | 0, S => irE_z S
  | f + 1, S => by
    by_cases c1 : (nI n) ≤ (nI S.2.1)
    · rw [show irT tx n (f + 1) S = irE S from if_pos c1]; exact irE_z S
    · by_cases c2 : (irO tx n S).1 = 0
      · rw [show irT tx n (f + 1) S = (0, (irO tx n S).2) from (if_neg c1).trans (if_pos c2)]; exact Or.inl rfl
      · rw [show irT tx n (f + 1) S = irT tx n f ((irO tx n S).2.1, sk tx n (irO tx n S).2.2.1, (irO tx n S).2.2.2) from (if_neg c1).trans (if_neg c2)]; exact irT_z tx n f _

abbrev rX6_isRead : Room := { frames := 5, cells := 0, slots := 0, locals := 115 }
theorem mm_X6_isRead_1 : Cond.fieldLink RX6 148 "GaugeBoundsModel" "spot" "I" ∈ wsX6_isRead := List.mem_of_getElem? (i := 1) rfl
theorem mm_X6_isRead_2 : Cond.fieldLink RX6 168 "GaugeBoundsModel" "orders" "I" ∈ wsX6_isRead := List.mem_of_getElem? (i := 2) rfl
theorem mm_X6_isRead_3 : Cond.fieldLink RX6 144 "GaugeBoundsModel" "bytes" "I" ∈ wsX6_isRead := List.mem_of_getElem? (i := 3) rfl
theorem ii_X6_isRead_X6 : ∀ w ∈ wsX60, w ∈ wsX6_isRead := fun _ h => List.mem_cons_of_mem _ (List.mem_append_right _ (h))
theorem qvX6_isRead : yX6_isRead.cls = RX6 ∧ yX6_isRead.cls ≠ "java/lang/invoke/MethodHandle" ∧ yX6_isRead.cls ≠ "java/lang/invoke/VarHandle" ∧ (parseMethodDescriptor yX6_isRead.desc).map (fun d => d.parameters.length) = some 0 := by decide +kernel
set_option maxHeartbeats 4000000 in
set_option maxRecDepth 100000 in
theorem kX6_isRead (l : Launch) (E : gEnv) (a : Nat → Nat) (M : Mdl) (n : Nat) (hn : n ≤ 120) (hx0 : M.1 1 = nI n) : gMi l E yX6_isRead wsX6_isRead rX6_isRead [.ref (a 0)] (wM E a M) (fX6_isRead M n).1 (wM E a (rdM M n ((fX6_isRead M n).2))) := by
  refine gMz_of (cc := cX6_isRead) (maxL := 1) (ret := (some .boolean)) (by decide) rfl rfl (Nat.le_of_ble_eq_true rfl) (zb (irT_z _ _ _ _)) ?_
  intro p e s m args below meth c A Q ls hB hQ
  obtain ⟨hx, hb, hml, hown, hts, hK, hP, hD, hA, hS, hl⟩ := hB
  have hown : s.vm.findClass RX6 = some m.cls := hown
  have hP : va_P E.1 vwCl [(a 0, .inr (6, [.ref (a 1), .ref (a 2), .ref (a 3), .int (M.1 0), .ref (a 4), .ref (a 5), .int (M.1 1), .int (M.1 2), .int (M.1 3), .ref (a 6), .ref (a 7), .int (M.1 4), .int (M.1 5), .int (M.1 6), .long M.2.1])), (a 1, .inl (eJ E, 68, .inr (.inl M.2.2.1))), (a 2, .inl (eJ E, 68, .inr (.inl M.2.2.2.1))), (a 3, .inl (eJ E, 340, .inr (.inl M.2.2.2.2.1))), (a 4, .inl (eI E, 3, .inl M.2.2.2.2.2.1)), (a 5, .inl (eI E, 120, .inl M.2.2.2.2.2.2.1)), (a 6, .inl (eI E, 60, .inl M.2.2.2.2.2.2.2.1)), (a 7, .inl (eI E, 120, .inl M.2.2.2.2.2.2.2.2))] s.heap := hP
  have hD : va_D A [(a 0, .inr (6, [.ref (a 1), .ref (a 2), .ref (a 3), .int (M.1 0), .ref (a 4), .ref (a 5), .int (M.1 1), .int (M.1 2), .int (M.1 3), .ref (a 6), .ref (a 7), .int (M.1 4), .int (M.1 5), .int (M.1 6), .long M.2.1])), (a 1, .inl (eJ E, 68, .inr (.inl M.2.2.1))), (a 2, .inl (eJ E, 68, .inr (.inl M.2.2.2.1))), (a 3, .inl (eJ E, 340, .inr (.inl M.2.2.2.2.1))), (a 4, .inl (eI E, 3, .inl M.2.2.2.2.2.1)), (a 5, .inl (eI E, 120, .inl M.2.2.2.2.2.2.1)), (a 6, .inl (eI E, 60, .inl M.2.2.2.2.2.2.2.1)), (a 7, .inl (eI E, 120, .inl M.2.2.2.2.2.2.2.2))] := hD
  have hl : lv_has ls 1 [(0, .ref (a 0))] := hl
  rw [hx0] at hP hD
  refine lv_aload_n (pc := 0) hx hb dX6_isRead_0 rfl (lv_at hl 0 rfl) ?_
  refine lv_iconst (v := 0) (pc := 1) hx hb dX6_isRead_1 rfl ?_
  refine g_put (w1 := [(a 0, .inr (6, [.ref (a 1), .ref (a 2), .ref (a 3), .int (M.1 0), .ref (a 4), .ref (a 5), .int (nI n), .int (M.1 2), .int (M.1 3), .ref (a 6), .ref (a 7), .int (M.1 4), .int 0, .int (M.1 6), .long M.2.1])), (a 1, .inl (eJ E, 68, .inr (.inl M.2.2.1))), (a 2, .inl (eJ E, 68, .inr (.inl M.2.2.2.1))), (a 3, .inl (eJ E, 340, .inr (.inl M.2.2.2.2.1))), (a 4, .inl (eI E, 3, .inl M.2.2.2.2.2.1)), (a 5, .inl (eI E, 120, .inl M.2.2.2.2.2.2.1)), (a 6, .inl (eI E, 60, .inl M.2.2.2.2.2.2.2.1)), (a 7, .inl (eI E, 120, .inl M.2.2.2.2.2.2.2.2))]) (pc := 2) hx hb hts ii_X6_isRead_X6 tyX6 tyX6_ok nmX6 hown hK.1 hP hD hS 0 rfl rfl 12 (by decide) ⟨rfl, rfl, rfl⟩ mm_X6_isRead_1 rfl rfl rfl rfl (Nat.le_of_ble_eq_true rfl) rfl dX6_isRead_2 (fun H locs hP hD hS => ?_)
  refine lv_aload_n (pc := 5) hx hb dX6_isRead_5 rfl (lv_at hl 0 rfl) ?_
  refine lv_iconst (v := 0) (pc := 6) hx hb dX6_isRead_6 rfl ?_
  refine g_put (w1 := [(a 0, .inr (6, [.ref (a 1), .ref (a 2), .ref (a 3), .int (M.1 0), .ref (a 4), .ref (a 5), .int (nI n), .int (M.1 2), .int (M.1 3), .ref (a 6), .ref (a 7), .int 0, .int 0, .int (M.1 6), .long M.2.1])), (a 1, .inl (eJ E, 68, .inr (.inl M.2.2.1))), (a 2, .inl (eJ E, 68, .inr (.inl M.2.2.2.1))), (a 3, .inl (eJ E, 340, .inr (.inl M.2.2.2.2.1))), (a 4, .inl (eI E, 3, .inl M.2.2.2.2.2.1)), (a 5, .inl (eI E, 120, .inl M.2.2.2.2.2.2.1)), (a 6, .inl (eI E, 60, .inl M.2.2.2.2.2.2.2.1)), (a 7, .inl (eI E, 120, .inl M.2.2.2.2.2.2.2.2))]) (pc := 7) hx hb hts ii_X6_isRead_X6 tyX6 tyX6_ok nmX6 hown hK.1 hP hD hS 0 rfl rfl 11 (by decide) ⟨rfl, rfl, rfl⟩ mm_X6_isRead_2 rfl rfl rfl rfl (Nat.le_of_ble_eq_true rfl) rfl dX6_isRead_7 (fun H locs hP hD hS => ?_)
  refine lv_aload_n (pc := 10) hx hb dX6_isRead_10 rfl (lv_at hl 0 rfl) ?_
  have hr1 := kX6_blanks l E a M.1 n 0 0 (M.1 6) M.2.1 M.2.2.1 M.2.2.2.1 M.2.2.2.2.1 M.2.2.2.2.2.1 M.2.2.2.2.2.2.1 M.2.2.2.2.2.2.2.1 M.2.2.2.2.2.2.2.2 hn (Nat.zero_le n)
  refine gcVv (pc := 11) (w1 := [(a 0, .inr (6, [.ref (a 1), .ref (a 2), .ref (a 3), .int (M.1 0), .ref (a 4), .ref (a 5), .int (nI n), .int (M.1 2), .int (M.1 3), .ref (a 6), .ref (a 7), .int 0, .int (nI (sk M.2.2.2.2.2.2.1 n 0)), .int (M.1 6), .long M.2.1])), (a 1, .inl (eJ E, 68, .inr (.inl M.2.2.1))), (a 2, .inl (eJ E, 68, .inr (.inl M.2.2.2.1))), (a 3, .inl (eJ E, 340, .inr (.inl M.2.2.2.2.1))), (a 4, .inl (eI E, 3, .inl M.2.2.2.2.2.1)), (a 5, .inl (eI E, 120, .inl M.2.2.2.2.2.2.1)), (a 6, .inl (eI E, 60, .inl M.2.2.2.2.2.2.2.1)), (a 7, .inl (eI E, 120, .inl M.2.2.2.2.2.2.2.2))]) (pre := []) (post := []) (As := []) (rest := []) (q0 := 0) ⟨hx, hb, hml, hown, hts⟩ hr1 (cwV 0 hts gX6_isRead_X6_blanks rfl rfl rfl qvX6_blanks ⟨Nat.le_of_ble_eq_true rfl, Nat.le_of_ble_eq_true rfl⟩) hK hP hD hS hA rfl rfl rfl rfl rfl hl.1 rfl (Nat.le_of_ble_eq_true rfl) dX6_isRead_11 ⟨Nat.zero_le _, Nat.zero_le _⟩ (fun H locs hP hD hS => ?_)
  have loop : ∀ (f : Nat) (S : MS), n ≤ S.2.1 + f → S.2.1 ≤ n → 3 * S.1 ≤ S.2.1 → irT M.2.2.2.2.2.2.1 n f S = fX6_isRead M n → ∀ (H : Heap) (locs : List Loc) (ls : Array Slot), va_P E.1 vwCl [(a 0, .inr (6, [.ref (a 1), .ref (a 2), .ref (a 3), .int (M.1 0), .ref (a 4), .ref (a 5), .int (nI n), .int (M.1 2), .int (M.1 3), .ref (a 6), .ref (a 7), .int (nI S.1), .int (nI S.2.1), .int S.2.2.1, .long M.2.1])), (a 1, .inl (eJ E, 68, .inr (.inl M.2.2.1))), (a 2, .inl (eJ E, 68, .inr (.inl M.2.2.2.1))), (a 3, .inl (eJ E, 340, .inr (.inl M.2.2.2.2.1))), (a 4, .inl (eI E, 3, .inl M.2.2.2.2.2.1)), (a 5, .inl (eI E, 120, .inl M.2.2.2.2.2.2.1)), (a 6, .inl (eI E, 60, .inl S.2.2.2.1)), (a 7, .inl (eI E, 120, .inl S.2.2.2.2))] H → va_D A [(a 0, .inr (6, [.ref (a 1), .ref (a 2), .ref (a 3), .int (M.1 0), .ref (a 4), .ref (a 5), .int (nI n), .int (M.1 2), .int (M.1 3), .ref (a 6), .ref (a 7), .int (nI S.1), .int (nI S.2.1), .int S.2.2.1, .long M.2.1])), (a 1, .inl (eJ E, 68, .inr (.inl M.2.2.1))), (a 2, .inl (eJ E, 68, .inr (.inl M.2.2.2.1))), (a 3, .inl (eJ E, 340, .inr (.inl M.2.2.2.2.1))), (a 4, .inl (eI E, 3, .inl M.2.2.2.2.2.1)), (a 5, .inl (eI E, 120, .inl M.2.2.2.2.2.2.1)), (a 6, .inl (eI E, 60, .inl S.2.2.2.1)), (a 7, .inl (eI E, 120, .inl S.2.2.2.2))] → va_S A s.heap H locs → lv_has ls 1 [(0, .ref (a 0))] → W p l e rX6_isRead s m args below meth c H locs 0 0 Q (F0 m 14 ls []) := by
    intro f
    induction f with
    | zero =>
      intro S hf hqn h3 hk H locs ls hP hD hS hl
      refine lv_aload_n (pc := 14) hx hb dX6_isRead_14 rfl (lv_at hl 0 rfl) ?_
      refine g_get (v := .int (nI S.2.1)) (pc := 15) hx hb hts ii_X6_isRead_X6 hown hK.1 hP 0 rfl rfl 12 (by decide) ⟨rfl, rfl, rfl⟩ mm_X6_isRead_1 rfl dX6_isRead_15 ?_
      refine lv_aload_n (pc := 18) hx hb dX6_isRead_18 rfl (lv_at hl 0 rfl) ?_
      refine g_get (v := .int (nI n)) (pc := 19) hx hb hts ii_X6_isRead_X6 hown hK.1 hP 0 rfl rfl 6 (by decide) ⟨rfl, rfl, rfl⟩ mm_X6_isRead_3 rfl dX6_isRead_19 ?_
      refine lv_icmp_ge (tgt := 41) (pc := 22) hx hb dX6_isRead_22 (by decide) (fun c_2 => ?_) (fun c_2 => ?_)
      rotate_left
      · exact absurd ((nle (by omega) (by omega)).mpr (by omega)) c_2
      refine lv_aload_n (pc := 41) hx hb dX6_isRead_41 rfl (lv_at hl 0 rfl) ?_
      refine g_get (v := .int (nI S.1)) (pc := 42) hx hb hts ii_X6_isRead_X6 hown hK.1 hP 0 rfl rfl 11 (by decide) ⟨rfl, rfl, rfl⟩ mm_X6_isRead_2 rfl dX6_isRead_42 ?_
      refine lv_if_gt (tgt := 55) (pc := 45) hx hb dX6_isRead_45 (by decide) (fun c_3 => ?_) (fun c_3 => ?_)
      · refine lv_iconst (v := 1) (pc := 55) hx hb dX6_isRead_55 rfl ?_
        refine lv_goto (tgt := 60) (pc := 56) hx hb dX6_isRead_56 (by decide) ?_
        have hfn : fX6_isRead M n = (1, S) := hk.symm.trans (if_pos c_3)
        rw [hfn] at hQ
        exact hQ _ _ _ _ _ rfl hP hD hS dX6_isRead_60
      · refine lv_aload_n (pc := 48) hx hb dX6_isRead_48 rfl (lv_at hl 0 rfl) ?_
        have hr4 := kX6_fails l E a M.1 n S.1 S.2.1 S.2.2.1 M.2.1 M.2.2.1 M.2.2.2.1 M.2.2.2.2.1 M.2.2.2.2.2.1 M.2.2.2.2.2.2.1 S.2.2.2.1 S.2.2.2.2
        rw [show (fX6_fails S.2.1).1 = 0 from rfl] at hr4
        refine gcVi (pc := 49) (w1 := [(a 0, .inr (6, [.ref (a 1), .ref (a 2), .ref (a 3), .int (M.1 0), .ref (a 4), .ref (a 5), .int (nI n), .int (M.1 2), .int (M.1 3), .ref (a 6), .ref (a 7), .int (nI S.1), .int (nI S.2.1), .int (nI S.2.1), .long M.2.1])), (a 1, .inl (eJ E, 68, .inr (.inl M.2.2.1))), (a 2, .inl (eJ E, 68, .inr (.inl M.2.2.2.1))), (a 3, .inl (eJ E, 340, .inr (.inl M.2.2.2.2.1))), (a 4, .inl (eI E, 3, .inl M.2.2.2.2.2.1)), (a 5, .inl (eI E, 120, .inl M.2.2.2.2.2.2.1)), (a 6, .inl (eI E, 60, .inl S.2.2.2.1)), (a 7, .inl (eI E, 120, .inl S.2.2.2.2))]) (pre := []) (post := []) (As := []) (rest := []) (q0 := 0) ⟨hx, hb, hml, hown, hts⟩ hr4 (cwV 0 hts gX6_isRead_X6_fails rfl rfl rfl qvX6_fails ⟨Nat.le_of_ble_eq_true rfl, Nat.le_of_ble_eq_true rfl⟩) hK hP hD hS hA rfl rfl rfl rfl rfl hl.1 rfl (Nat.le_of_ble_eq_true rfl) dX6_isRead_49 ⟨Nat.zero_le _, Nat.zero_le _⟩ (fun H locs hP hD hS => ?_)
        refine lv_if_eq (tgt := 59) (pc := 52) hx hb dX6_isRead_52 (by decide) (fun c_5 => ?_) (fun c_5 => ?_)
        rotate_left
        · exact absurd (by decide) c_5
        refine lv_iconst (v := 0) (pc := 59) hx hb dX6_isRead_59 rfl ?_
        have hfn : fX6_isRead M n = (0, (S.1, S.2.1, nI S.2.1, S.2.2.2)) := hk.symm.trans (if_neg c_3)
        rw [hfn] at hQ
        exact hQ _ _ _ _ _ rfl hP hD hS dX6_isRead_60
    | succ f ih =>
      intro S hf hqn h3 hk H locs ls hP hD hS hl
      refine lv_aload_n (pc := 14) hx hb dX6_isRead_14 rfl (lv_at hl 0 rfl) ?_
      refine g_get (v := .int (nI S.2.1)) (pc := 15) hx hb hts ii_X6_isRead_X6 hown hK.1 hP 0 rfl rfl 12 (by decide) ⟨rfl, rfl, rfl⟩ mm_X6_isRead_1 rfl dX6_isRead_15 ?_
      refine lv_aload_n (pc := 18) hx hb dX6_isRead_18 rfl (lv_at hl 0 rfl) ?_
      refine g_get (v := .int (nI n)) (pc := 19) hx hb hts ii_X6_isRead_X6 hown hK.1 hP 0 rfl rfl 6 (by decide) ⟨rfl, rfl, rfl⟩ mm_X6_isRead_3 rfl dX6_isRead_19 ?_
      refine lv_icmp_ge (tgt := 41) (pc := 22) hx hb dX6_isRead_22 (by decide) (fun c_6 => ?_) (fun c_6 => ?_)
      · refine lv_aload_n (pc := 41) hx hb dX6_isRead_41 rfl (lv_at hl 0 rfl) ?_
        refine g_get (v := .int (nI S.1)) (pc := 42) hx hb hts ii_X6_isRead_X6 hown hK.1 hP 0 rfl rfl 11 (by decide) ⟨rfl, rfl, rfl⟩ mm_X6_isRead_2 rfl dX6_isRead_42 ?_
        refine lv_if_gt (tgt := 55) (pc := 45) hx hb dX6_isRead_45 (by decide) (fun c_7 => ?_) (fun c_7 => ?_)
        · refine lv_iconst (v := 1) (pc := 55) hx hb dX6_isRead_55 rfl ?_
          refine lv_goto (tgt := 60) (pc := 56) hx hb dX6_isRead_56 (by decide) ?_
          have hfn : fX6_isRead M n = (1, S) := hk.symm.trans ((show irT M.2.2.2.2.2.2.1 n (f + 1) S = irE S from if_pos c_6).trans (if_pos c_7))
          rw [hfn] at hQ
          exact hQ _ _ _ _ _ rfl hP hD hS dX6_isRead_60
        · refine lv_aload_n (pc := 48) hx hb dX6_isRead_48 rfl (lv_at hl 0 rfl) ?_
          have hr8 := kX6_fails l E a M.1 n S.1 S.2.1 S.2.2.1 M.2.1 M.2.2.1 M.2.2.2.1 M.2.2.2.2.1 M.2.2.2.2.2.1 M.2.2.2.2.2.2.1 S.2.2.2.1 S.2.2.2.2
          rw [show (fX6_fails S.2.1).1 = 0 from rfl] at hr8
          refine gcVi (pc := 49) (w1 := [(a 0, .inr (6, [.ref (a 1), .ref (a 2), .ref (a 3), .int (M.1 0), .ref (a 4), .ref (a 5), .int (nI n), .int (M.1 2), .int (M.1 3), .ref (a 6), .ref (a 7), .int (nI S.1), .int (nI S.2.1), .int (nI S.2.1), .long M.2.1])), (a 1, .inl (eJ E, 68, .inr (.inl M.2.2.1))), (a 2, .inl (eJ E, 68, .inr (.inl M.2.2.2.1))), (a 3, .inl (eJ E, 340, .inr (.inl M.2.2.2.2.1))), (a 4, .inl (eI E, 3, .inl M.2.2.2.2.2.1)), (a 5, .inl (eI E, 120, .inl M.2.2.2.2.2.2.1)), (a 6, .inl (eI E, 60, .inl S.2.2.2.1)), (a 7, .inl (eI E, 120, .inl S.2.2.2.2))]) (pre := []) (post := []) (As := []) (rest := []) (q0 := 0) ⟨hx, hb, hml, hown, hts⟩ hr8 (cwV 0 hts gX6_isRead_X6_fails rfl rfl rfl qvX6_fails ⟨Nat.le_of_ble_eq_true rfl, Nat.le_of_ble_eq_true rfl⟩) hK hP hD hS hA rfl rfl rfl rfl rfl hl.1 rfl (Nat.le_of_ble_eq_true rfl) dX6_isRead_49 ⟨Nat.zero_le _, Nat.zero_le _⟩ (fun H locs hP hD hS => ?_)
          refine lv_if_eq (tgt := 59) (pc := 52) hx hb dX6_isRead_52 (by decide) (fun c_9 => ?_) (fun c_9 => ?_)
          rotate_left
          · exact absurd (by decide) c_9
          refine lv_iconst (v := 0) (pc := 59) hx hb dX6_isRead_59 rfl ?_
          have hfn : fX6_isRead M n = (0, (S.1, S.2.1, nI S.2.1, S.2.2.2)) := hk.symm.trans ((show irT M.2.2.2.2.2.2.1 n (f + 1) S = irE S from if_pos c_6).trans (if_neg c_7))
          rw [hfn] at hQ
          exact hQ _ _ _ _ _ rfl hP hD hS dX6_isRead_60
      · have hlt : S.2.1 < n := by have := mt (nle (by omega) (by omega)).mpr c_6; omega
        refine lv_aload_n (pc := 25) hx hb dX6_isRead_25 rfl (lv_at hl 0 rfl) ?_
        obtain ⟨r10, er10⟩ : ∃ z : Int32 × (MS), fX6_takesOrder M.2.2.2.2.2.2.1 n S.1 S.2.1 S.2.2.1 S.2.2.2.1 S.2.2.2.2 = z := ⟨_, rfl⟩
        have hr10 := kX6_takesOrder l E a M.1 n S.1 S.2.1 S.2.2.1 M.2.1 M.2.2.1 M.2.2.2.1 M.2.2.2.2.1 M.2.2.2.2.2.1 M.2.2.2.2.2.2.1 S.2.2.2.1 S.2.2.2.2 hn hlt (by omega)
        rw [er10] at hr10
        refine gcVi (pc := 26) (w1 := [(a 0, .inr (6, [.ref (a 1), .ref (a 2), .ref (a 3), .int (M.1 0), .ref (a 4), .ref (a 5), .int (nI n), .int (M.1 2), .int (M.1 3), .ref (a 6), .ref (a 7), .int (nI r10.2.1), .int (nI r10.2.2.1), .int r10.2.2.2.1, .long M.2.1])), (a 1, .inl (eJ E, 68, .inr (.inl M.2.2.1))), (a 2, .inl (eJ E, 68, .inr (.inl M.2.2.2.1))), (a 3, .inl (eJ E, 340, .inr (.inl M.2.2.2.2.1))), (a 4, .inl (eI E, 3, .inl M.2.2.2.2.2.1)), (a 5, .inl (eI E, 120, .inl M.2.2.2.2.2.2.1)), (a 6, .inl (eI E, 60, .inl r10.2.2.2.2.1)), (a 7, .inl (eI E, 120, .inl r10.2.2.2.2.2))]) (pre := []) (post := []) (As := []) (rest := []) (q0 := 0) ⟨hx, hb, hml, hown, hts⟩ hr10 (cwV 0 hts gX6_isRead_X6_takesOrder rfl rfl rfl qvX6_takesOrder ⟨Nat.le_of_ble_eq_true rfl, Nat.le_of_ble_eq_true rfl⟩) hK hP hD hS hA rfl rfl rfl rfl rfl hl.1 rfl (Nat.le_of_ble_eq_true rfl) dX6_isRead_26 ⟨Nat.zero_le _, Nat.zero_le _⟩ (fun H locs hP hD hS => ?_)
        refine lv_if_ne (tgt := 34) (pc := 29) hx hb dX6_isRead_29 (by decide) (fun c_11 => ?_) (fun c_11 => ?_)
        · refine lv_aload_n (pc := 34) hx hb dX6_isRead_34 rfl (lv_at hl 0 rfl) ?_
          have hr12 := kX6_blanks l E a M.1 n r10.2.1 r10.2.2.1 r10.2.2.2.1 M.2.1 M.2.2.1 M.2.2.2.1 M.2.2.2.2.1 M.2.2.2.2.2.1 M.2.2.2.2.2.2.1 r10.2.2.2.2.1 r10.2.2.2.2.2 hn (by subst er10; exact (to_le (by omega) hlt).1)
          refine gcVv (pc := 35) (w1 := [(a 0, .inr (6, [.ref (a 1), .ref (a 2), .ref (a 3), .int (M.1 0), .ref (a 4), .ref (a 5), .int (nI n), .int (M.1 2), .int (M.1 3), .ref (a 6), .ref (a 7), .int (nI r10.2.1), .int (nI (sk M.2.2.2.2.2.2.1 n r10.2.2.1)), .int r10.2.2.2.1, .long M.2.1])), (a 1, .inl (eJ E, 68, .inr (.inl M.2.2.1))), (a 2, .inl (eJ E, 68, .inr (.inl M.2.2.2.1))), (a 3, .inl (eJ E, 340, .inr (.inl M.2.2.2.2.1))), (a 4, .inl (eI E, 3, .inl M.2.2.2.2.2.1)), (a 5, .inl (eI E, 120, .inl M.2.2.2.2.2.2.1)), (a 6, .inl (eI E, 60, .inl r10.2.2.2.2.1)), (a 7, .inl (eI E, 120, .inl r10.2.2.2.2.2))]) (pre := []) (post := []) (As := []) (rest := []) (q0 := 0) ⟨hx, hb, hml, hown, hts⟩ hr12 (cwV 0 hts gX6_isRead_X6_blanks rfl rfl rfl qvX6_blanks ⟨Nat.le_of_ble_eq_true rfl, Nat.le_of_ble_eq_true rfl⟩) hK hP hD hS hA rfl rfl rfl rfl rfl hl.1 rfl (Nat.le_of_ble_eq_true rfl) dX6_isRead_35 ⟨Nat.zero_le _, Nat.zero_le _⟩ (fun H locs hP hD hS => ?_)
          refine lv_goto (tgt := 14) (pc := 38) hx hb dX6_isRead_38 (by decide) ?_
          subst er10
          have hto := to_le (tx := M.2.2.2.2.2.2.1) (n := n) (o := S.1) (q := S.2.1) (wa := S.2.2.1) (lt := S.2.2.2.1) (nu := S.2.2.2.2) (by omega) hlt
          have h9 := hto.2.2 hn c_11
          have hsk := sk_ge M.2.2.2.2.2.2.1 n (irO M.2.2.2.2.2.2.1 n S).2.2.1
          have h8 : S.2.1 + 3 ≤ (irO M.2.2.2.2.2.2.1 n S).2.2.1 ∧ (irO M.2.2.2.2.2.2.1 n S).2.1 = S.1 + 1 := h9
          exact ih ((irO M.2.2.2.2.2.2.1 n S).2.1, sk M.2.2.2.2.2.2.1 n (irO M.2.2.2.2.2.2.1 n S).2.2.1, (irO M.2.2.2.2.2.2.1 n S).2.2.2) (by show n ≤ sk M.2.2.2.2.2.2.1 n (irO M.2.2.2.2.2.2.1 n S).2.2.1 + f; omega) (sk_le hto.1) (by show 3 * (irO M.2.2.2.2.2.2.1 n S).2.1 ≤ sk M.2.2.2.2.2.2.1 n (irO M.2.2.2.2.2.2.1 n S).2.2.1; omega) ((show irT M.2.2.2.2.2.2.1 n (f + 1) S = _ from (if_neg c_6).trans (if_neg c_11)).symm.trans hk) _ _ _ hP hD hS (lv_sub hl [0] rfl)
        · refine lv_iconst (v := 0) (pc := 32) hx hb dX6_isRead_32 rfl ?_
          subst er10
          have hfn : fX6_isRead M n = (0, (irO M.2.2.2.2.2.2.1 n S).2) := hk.symm.trans ((if_neg c_6).trans (if_pos c_11))
          rw [hfn] at hQ
          exact hQ _ _ _ _ _ rfl hP hD hS dX6_isRead_33
  exact loop 120 (0, sk M.2.2.2.2.2.2.1 n 0, M.1 6, M.2.2.2.2.2.2.2.1, M.2.2.2.2.2.2.2.2) (by show n ≤ sk M.2.2.2.2.2.2.1 n 0 + 120; omega) (sk_le (Nat.zero_le n)) (Nat.zero_le _) rfl _ _ _ hP hD hS (lv_sub hl [0] rfl)
